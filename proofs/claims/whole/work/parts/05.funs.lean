/-! printed by gen_fun.py out of the bytecode: each method as a plain function; blocks b.. where ways join, h.. where loops begin -/
def fX0_size (C : Mm) : Int32 :=
    C.1 36 6
def fX0_seconds (C : Mm) : Int32 :=
    C.1 36 7
def fX0_holds (C : Mm) : Int32 :=
    C.1 36 8
def fX0_told (p1 : Int32) (p2 : Int32) (C : Mm) : Option Int32 :=
    if p1 < 0 then
    (some (-2000000000))
    else
    (if p1 < (C.1 36 6) then
    (if p2 = 0 then
    (if p1 < (0 : Int32) ∨ 80 ≤ Int32.toNatClampNeg p1 then none else
    some (C.1 37 (Int32.toNatClampNeg p1)))
    else
    (if p2 = 1 then
    (if p1 < (0 : Int32) ∨ 80 ≤ Int32.toNatClampNeg p1 then none else
    some (C.1 38 (Int32.toNatClampNeg p1)))
    else
    (if p2 = 2 then
    (if p1 < (0 : Int32) ∨ 80 ≤ Int32.toNatClampNeg p1 then none else
    some (C.1 39 (Int32.toNatClampNeg p1)))
    else
    (if p1 < (0 : Int32) ∨ 80 ≤ Int32.toNatClampNeg p1 then none else
    some (C.1 40 (Int32.toNatClampNeg p1))))))
    else
    (some (-2000000000)))
def fX5_number (j0 : Nat) (p1 : Int32) (C : Mm) : Option Int32 :=
    if p1 < 0 then
    (some 0)
    else
    (if 5 ≤ p1 then
    (some 0)
    else
    (if p1 < (0 : Int32) ∨ 5 ≤ Int32.toNatClampNeg p1 then none else
    some (C.1 (hdn j0) (Int32.toNatClampNeg p1))))
def fX0_beginAnew (C : Mm) : Mm :=
    lt' (wrI C 36 13 0) fun C1 =>
    lt' (wrI C1 36 14 0) fun C2 =>
    lt' (wrI C2 36 15 0) fun C3 =>
    C3
def fX0_begin (j1 : Nat) (C : Mm) : Option Mm :=
    Option.bind (fX5_number j1 0 C) fun r2 =>
    lt' (wrI C 36 9 r2) fun C4 =>
    Option.bind (fX5_number j1 1 C4) fun r6 =>
    lt' (wrI C4 36 10 r6) fun C8 =>
    Option.bind (fX5_number j1 2 C8) fun r10 =>
    lt' (wrI C8 36 11 r10) fun C12 =>
    lt' (wrI C12 36 6 0) fun C13 =>
    lt' (wrI C13 36 7 0) fun C14 =>
    lt' (wrI C14 36 8 0) fun C15 =>
    lt' (wrI C15 36 12 0) fun C16 =>
    lt' (fX0_beginAnew C16) fun C18 =>
    some C18
def fX5_placeOf_h18 (n : Nat) (j0 : Nat) : Nat → Int32 → Int32 → Int32 → Mm → Option Int32
  | 0, _, _, _, _ => none
  | fu + 1, y1, y2, y3, C =>
    if (C.1 (hdc j0) 3) ≤ y3 then
    (some (C.1 (hdc j0) 3))
    else
    (if y3 < (0 : Int32) ∨ 60 ≤ Int32.toNatClampNeg y3 then none else
    if (C.1 (hdp j0) (Int32.toNatClampNeg y3)) = y1 then
    (some y3)
    else
    (if y3 < (0 : Int32) ∨ 60 ≤ Int32.toNatClampNeg y3 then none else
    if (C.1 (hdp j0) (Int32.toNatClampNeg y3)) = y2 then
    (some y3)
    else
    (lt' (y3 + 1) fun x6 =>
    fX5_placeOf_h18 n j0 fu y1 y2 x6 C)))
def fX5_placeOf (n : Nat) (j0 : Nat) (p1 : Int32) (C : Mm) : Option Int32 :=
    lt' (((irm p1 10000) * 10000) + (p1 / 10000)) fun x7 =>
    fX5_placeOf_h18 n j0 n p1 x7 0 C
def fX5_looksUp_b30 (n : Nat) (j0 : Nat) (y1 : Int32) (C : Mm) : Option Int32 :=
    Option.bind (fX5_placeOf n j0 y1 C) fun r2 =>
    if (C.1 (hdc j0) 3) ≤ r2 then
    (some 0)
    else
    (if r2 < (0 : Int32) ∨ 60 ≤ Int32.toNatClampNeg r2 then none else
    if (C.1 (hdk j0) (Int32.toNatClampNeg r2)) < 3 then
    (some 0)
    else
    (some 1))
def fX5_looksUp (n : Nat) (j0 : Nat) (p1 : Int32) (C : Mm) : Option Int32 :=
    if 3 < (0 : Int32) ∨ 5 ≤ Int32.toNatClampNeg 3 then none else
    if (C.1 (hdn j0) (Int32.toNatClampNeg 3)) < (p1 / 10000) then
    (fX5_looksUp_b30 n j0 p1 C)
    else
    (if 3 < (0 : Int32) ∨ 5 ≤ Int32.toNatClampNeg 3 then none else
    if (C.1 (hdn j0) (Int32.toNatClampNeg 3)) < (irm p1 10000) then
    (fX5_looksUp_b30 n j0 p1 C)
    else
    (some 1))
def fX0_run_h12 (n : Nat) : Nat → Int32 → Mm → Option Mm
  | 0, _, _ => none
  | fu + 1, y2, C =>
    if y2 ≤ 0 then
    (lt' (wrI C 36 15 1) fun C2 =>
    some C2)
    else
    (lt' (wrI C 36 14 ((C.1 36 14) + 1)) fun C3 =>
    lt' (y2 / 10) fun x4 =>
    fX0_run_h12 n fu x4 C3)
def fX0_run (n : Nat) (p1 : Int32) (C : Mm) : Option Mm :=
    lt' (wrI C 36 13 p1) fun C5 =>
    lt' (wrI C5 36 14 0) fun C6 =>
    fX0_run_h12 n n p1 C6
def fX0_note_b108 (C : Mm) : Option Mm :=
    lt' (wrI C 36 6 ((C.1 36 6) + 1)) fun C1 =>
    some C1
def fX0_note (p1 : Int32) (p2 : Int32) (p3 : Int32) (p4 : Int32) (C : Mm) : Option Mm :=
    if (C.1 36 6) < 80 then
    (if (C.1 36 6) < (0 : Int32) ∨ 80 ≤ Int32.toNatClampNeg (C.1 36 6) then none else
    lt' (wrI C 37 (Int32.toNatClampNeg (C.1 36 6)) p1) fun C4 =>
    if (C4.1 36 6) < (0 : Int32) ∨ 80 ≤ Int32.toNatClampNeg (C4.1 36 6) then none else
    lt' (wrI C4 38 (Int32.toNatClampNeg (C4.1 36 6)) p2) fun C6 =>
    if (C6.1 36 6) < (0 : Int32) ∨ 80 ≤ Int32.toNatClampNeg (C6.1 36 6) then none else
    lt' (wrI C6 39 (Int32.toNatClampNeg (C6.1 36 6)) p3) fun C8 =>
    if (C8.1 36 6) < (0 : Int32) ∨ 80 ≤ Int32.toNatClampNeg (C8.1 36 6) then none else
    lt' (wrI C8 40 (Int32.toNatClampNeg (C8.1 36 6)) ((C8.1 36 12) + (C8.1 36 14))) fun C10 =>
    if (C10.1 36 6) < (0 : Int32) ∨ 80 ≤ Int32.toNatClampNeg (C10.1 36 6) then none else
    lt' (wrI C10 41 (Int32.toNatClampNeg (C10.1 36 6)) p4) fun C12 =>
    lt' (wrI C12 36 7 ((C12.1 36 7) + p3)) fun C13 =>
    if (C13.1 36 6) < (0 : Int32) ∨ 80 ≤ Int32.toNatClampNeg (C13.1 36 6) then none else
    if (C13.1 40 (Int32.toNatClampNeg (C13.1 36 6))) ≤ (C13.1 36 8) then
    (fX0_note_b108 C13)
    else
    (if (C13.1 36 6) < (0 : Int32) ∨ 80 ≤ Int32.toNatClampNeg (C13.1 36 6) then none else
    lt' (wrI C13 36 8 (C13.1 40 (Int32.toNatClampNeg (C13.1 36 6)))) fun C17 =>
    fX0_note_b108 C17))
    else
    (some C)
def fX0_goKnown (n : Nat) (p1 : Int32) (p2 : Int32) (C : Mm) : Option (Int32 × Mm) :=
    Option.bind (fX0_run n (p1 * p2) C) fun C2 =>
    Option.bind (fX0_note 0 (p1 * p2) (C2.1 36 9) (imin p1 p2) C2) fun C4 =>
    some (1, C4)
def fX4_sizeOf_h2 (n : Nat) : Nat → Int64 → Int32 → Option Int32
  | 0, _, _ => none
  | fu + 1, y0, y2 =>
    if 19 ≤ y2 then
    (some 19)
    else
    (if y2 < (0 : Int32) ∨ 19 ≤ Int32.toNatClampNeg y2 then none else
    if 0 ≤ (lg_cmp y0 (stv3 (Int32.toNatClampNeg y2))) then
    (lt' (y2 + 1) fun x4 =>
    fX4_sizeOf_h2 n fu y0 x4)
    else
    (some y2))
def fX4_sizeOf (n : Nat) (p0 : Int64) : Option Int32 :=
    fX4_sizeOf_h2 n n p0 1
def fX4_tenTo (p0 : Int32) : Option Int32 :=
    if p0 < 0 then
    (some 1)
    else
    (if p0 < 10 then
    (if p0 < (0 : Int32) ∨ 10 ≤ Int32.toNatClampNeg p0 then none else
    some (stv4 (Int32.toNatClampNeg p0)))
    else
    (some 1))
def fX4_figureAt (p0 : Int32) (p1 : Int32) : Option Int32 :=
    if p1 < 0 then
    (some 0)
    else
    (if p1 < 10 then
    (if p1 < (0 : Int32) ∨ 10 ≤ Int32.toNatClampNeg p1 then none else
    if (stv4 (Int32.toNatClampNeg p1)) = 0 then none else
    some (irm (p0 / (stv4 (Int32.toNatClampNeg p1))) 10))
    else
    (some 0))
def fX0_lookAndAdd_b33 (n : Nat) (y1 : Int32) (y2 : Int32) (y3 : Int32) (y4 : Int32) (y5 : Int32) (y6 : Int32) (C : Mm) : Option Mm :=
    Option.bind (fX0_note 0 y5 (C.1 36 9) (((imin y1 y2) * y3) * y4) C) fun C2 =>
    if y6 = 0 then
    (some C2)
    else
    (Option.bind (fX0_run n ((C2.1 36 13) + y5) C2) fun C5 =>
    Option.bind (fX0_note 1 (C5.1 36 13) ((C5.1 36 10) * (C5.1 36 14)) y4 C5) fun C7 =>
    some C7)
def fX0_lookAndAdd (n : Nat) (p1 : Int32) (p2 : Int32) (p3 : Int32) (p4 : Int32) (C : Mm) : Option Mm :=
    if p1 = 0 then
    (some C)
    else
    (if p2 = 0 then
    (some C)
    else
    (lt' ((p1 * p2) * p3) fun x10 =>
    lt' (C.1 36 15) fun x11 =>
    if x11 = 0 then
    (Option.bind (fX0_run n x10 C) fun C14 =>
    fX0_lookAndAdd_b33 n p1 p2 p3 p4 x10 x11 C14)
    else
    (fX0_lookAndAdd_b33 n p1 p2 p3 p4 x10 x11 C)))
def fX0_goLeft_h21 (n : Nat) (k8 : Int32 → Int32 → Int32 → Mm → Option (Int32 × Mm)) : Nat → Int32 → Int32 → Int32 → Int32 → Mm → Option (Int32 × Mm)
  | 0, _, _, _, _, _ => none
  | fu + 1, y1, y2, y3, y4, C =>
    if y4 < 0 then
    (lt' (y3 + (-1)) fun x2 =>
    k8 y1 y2 x2 C)
    else
    (Option.bind (fX4_tenTo (y3 + y4)) fun r4 =>
    Option.bind (fX4_figureAt y1 y3) fun r7 =>
    Option.bind (fX4_figureAt y2 y4) fun r10 =>
    Option.bind (fX0_lookAndAdd n r7 r10 r4 1 C) fun C13 =>
    lt' (y4 + (-1)) fun x14 =>
    fX0_goLeft_h21 n k8 fu y1 y2 y3 x14 C13)
def fX0_goLeft_h8 (n : Nat) : Nat → Int32 → Int32 → Int32 → Mm → Option (Int32 × Mm)
  | 0, _, _, _, _ => none
  | fu + 1, y1, y2, y3, C =>
    if y3 < 0 then
    (some (1, C))
    else
    (Option.bind (fX4_sizeOf n (Int32.toInt64 y2)) fun r17 =>
    lt' (r17 - 1) fun x19 =>
    fX0_goLeft_h21 n (fX0_goLeft_h8 n fu) n y1 y2 y3 x19 C)
def fX0_goLeft (n : Nat) (p1 : Int32) (p2 : Int32) (C : Mm) : Option (Int32 × Mm) :=
    Option.bind (fX4_sizeOf n (Int32.toInt64 p1)) fun r21 =>
    lt' (r21 - 1) fun x23 =>
    fX0_goLeft_h8 n n p1 p2 x23 C
def fX0_holdRunning (C : Mm) : Option Mm :=
    lt' (C.1 36 13) fun x1 =>
    lt' (C.1 36 14) fun x2 =>
    lt' (wrI C 36 12 ((C.1 36 12) + x2)) fun C3 =>
    lt' (fX0_beginAnew C3) fun C5 =>
    Option.bind (fX0_note 2 x1 ((C5.1 36 11) * x2) 0 C5) fun C7 =>
    some C7
def fX0_letGo (n : Nat) (p1 : Int32) (C : Mm) : Option Mm :=
    Option.bind (fX4_sizeOf n (Int32.toInt64 p1)) fun r2 =>
    lt' (wrI C 36 12 ((C.1 36 12) - r2)) fun C4 =>
    some C4
def fX0_add (n : Nat) (p1 : Int32) (p2 : Int32) (C : Mm) : Option Mm :=
    Option.bind (fX0_run n p1 C) fun C2 =>
    Option.bind (fX0_note 1 p1 ((C2.1 36 10) * (C2.1 36 14)) p2 C2) fun C4 =>
    some C4
def fX0_addRows_h22 (n : Nat) : Nat → Int32 → Int32 → Mm → Option Mm
  | 0, _, _, _ => none
  | fu + 1, y1, y2, C =>
    if y1 ≤ y2 then
    (some C)
    else
    (if y2 < (0 : Int32) ∨ 4 ≤ Int32.toNatClampNeg y2 then none else
    Option.bind (fX0_letGo n (C.1 42 (Int32.toNatClampNeg y2)) C) fun C4 =>
    if y2 < (0 : Int32) ∨ 4 ≤ Int32.toNatClampNeg y2 then none else
    Option.bind (fX0_add n ((C4.1 36 13) + (C4.1 42 (Int32.toNatClampNeg y2))) 1 C4) fun C7 =>
    lt' (y2 + 1) fun x8 =>
    fX0_addRows_h22 n fu y1 x8 C7)
def fX0_addRows (n : Nat) (p1 : Int32) (C : Mm) : Option Mm :=
    if 0 < (0 : Int32) ∨ 4 ≤ Int32.toNatClampNeg 0 then none else
    Option.bind (fX0_letGo n (C.1 42 (Int32.toNatClampNeg 0)) C) fun C11 =>
    if 0 < (0 : Int32) ∨ 4 ≤ Int32.toNatClampNeg 0 then none else
    Option.bind (fX0_run n (C11.1 42 (Int32.toNatClampNeg 0)) C11) fun C14 =>
    fX0_addRows_h22 n n p1 1 C14
def fX0_goRight_b70 (n : Nat) (y3 : Int32) (C : Mm) : Option (Int32 × Mm) :=
    if y3 ≤ 1 then
    (some (1, C))
    else
    (Option.bind (fX0_addRows n y3 C) fun C3 =>
    some (1, C3))
def fX0_goRight_b64 (n : Nat) (k5 : Int32 → Int32 → Int32 → Int32 → Mm → Option (Int32 × Mm)) (y1 : Int32) (y2 : Int32) (y3 : Int32) (y4 : Int32) (C : Mm) : Option (Int32 × Mm) :=
    lt' (y4 + 1) fun x4 =>
    k5 y1 y2 y3 x4 C
def fX0_goRight_h5 (n : Nat) : Nat → Int32 → Int32 → Int32 → Int32 → Mm → Option (Int32 × Mm)
  | 0, _, _, _, _, _ => none
  | fu + 1, y1, y2, y3, y4, C =>
    Option.bind (fX4_sizeOf n (Int32.toInt64 y2)) fun r6 =>
    if r6 ≤ y4 then
    (fX0_goRight_b70 n y3 C)
    else
    (if 4 ≤ y3 then
    (fX0_goRight_b70 n y3 C)
    else
    (Option.bind (fX4_figureAt y2 y4) fun r11 =>
    if r11 = 0 then
    (fX0_goRight_b64 n (fX0_goRight_h5 n fu) y1 y2 y3 y4 C)
    else
    (Option.bind (fX4_tenTo y4) fun r15 =>
    bp' (fX0_goLeft n y1 (r11 * r15) C) fun r18 C19 =>
    if y3 < (0 : Int32) ∨ 4 ≤ Int32.toNatClampNeg y3 then none else
    lt' (wrI C19 42 (Int32.toNatClampNeg y3) (C19.1 36 13)) fun C22 =>
    lt' (y3 + 1) fun x23 =>
    Option.bind (fX0_holdRunning C22) fun C25 =>
    fX0_goRight_b64 n (fX0_goRight_h5 n fu) y1 y2 x23 y4 C25)))
def fX0_goRight (n : Nat) (p1 : Int32) (p2 : Int32) (C : Mm) : Option (Int32 × Mm) :=
    fX0_goRight_h5 n n p1 p2 0 0 C
def fX0_holdLastFigure (C : Mm) : Option Mm :=
    lt' (irm (C.1 36 13) 10) fun x1 =>
    lt' (wrI C 36 12 ((C.1 36 12) + 1)) fun C2 =>
    lt' (wrI C2 36 13 ((C2.1 36 13) / 10)) fun C3 =>
    lt' (wrI C3 36 14 (imax 0 ((C3.1 36 14) - 1))) fun C4 =>
    Option.bind (fX0_note 2 x1 (C4.1 36 11) 0 C4) fun C6 =>
    some C6
def fX0_goCrossed_h26 (n : Nat) (k17 : Int32 → Int32 → Int32 → Int32 → Mm → Option (Int32 × Mm)) : Nat → Int32 → Int32 → Int32 → Int32 → Int32 → Mm → Option (Int32 × Mm)
  | 0, _, _, _, _, _, _ => none
  | fu + 1, y1, y2, y3, y4, y5, C =>
    if y4 < y5 then
    (Option.bind (fX0_holdLastFigure C) fun C3 =>
    lt' (y4 + 1) fun x4 =>
    k17 y1 y2 y3 x4 C3)
    else
    (Option.bind (fX4_figureAt y1 y5) fun r6 =>
    Option.bind (fX4_figureAt y2 (y4 - y5)) fun r9 =>
    Option.bind (fX4_tenTo y4) fun r12 =>
    Option.bind (fX0_lookAndAdd n r6 r9 1 r12 C) fun C15 =>
    lt' (y5 + 1) fun x16 =>
    fX0_goCrossed_h26 n k17 fu y1 y2 y3 y4 x16 C15)
def fX0_goCrossed_h17 (n : Nat) : Nat → Int32 → Int32 → Int32 → Int32 → Mm → Option (Int32 × Mm)
  | 0, _, _, _, _, _ => none
  | fu + 1, y1, y2, y3, y4, C =>
    if y3 < y4 then
    (some (1, C))
    else
    (fX0_goCrossed_h26 n (fX0_goCrossed_h17 n fu) n y1 y2 y3 y4 0 C)
def fX0_goCrossed (n : Nat) (p1 : Int32) (p2 : Int32) (C : Mm) : Option (Int32 × Mm) :=
    Option.bind (fX4_sizeOf n (Int32.toInt64 p1)) fun r19 =>
    Option.bind (fX4_sizeOf n (Int32.toInt64 p2)) fun r22 =>
    lt' ((r19 + r22) - 2) fun x24 =>
    fX0_goCrossed_h17 n n p1 p2 x24 0 C
def fX0_goSquared_b47 (n : Nat) (y5 : Int32) (C : Mm) : Option (Int32 × Mm) :=
    Option.bind (fX0_letGo n y5 C) fun C2 =>
    Option.bind (fX0_add n (y5 - (C2.1 36 13)) 1 C2) fun C4 =>
    some (1, C4)
def fX0_goSquared (n : Nat) (p1 : Int32) (p2 : Int32) (C : Mm) : Option (Int32 × Mm) :=
    lt' ((p1 + p2) / 2) fun x5 =>
    lt' ((iabs (p1 - p2)) / 2) fun x6 =>
    bp' (fX0_goLeft n x5 x5 C) fun r8 C9 =>
    lt' (C9.1 36 13) fun x11 =>
    Option.bind (fX0_holdRunning C9) fun C13 =>
    if x6 ≤ 0 then
    (fX0_goSquared_b47 n x11 C13)
    else
    (bp' (fX0_goLeft n x6 x6 C13) fun r16 C17 =>
    fX0_goSquared_b47 n x11 C17)
def fX0_goSplit_b53 (n : Nat) (k3 : Int32 → Int32 → Int32 → Mm → Option (Int32 × Mm)) (y1 : Int32) (y2 : Int32) (y4 : Int32) (C : Mm) : Option (Int32 × Mm) :=
    lt' (y4 + (-1)) fun x1 =>
    k3 y1 y2 x1 C
def fX0_goSplit_h3 (n : Nat) : Nat → Int32 → Int32 → Int32 → Mm → Option (Int32 × Mm)
  | 0, _, _, _, _ => none
  | fu + 1, y1, y2, y4, C =>
    if y4 < 2 then
    (some (0, C))
    else
    (if y4 = 0 then none else
    if (irm y2 y4) = 0 then
    (if y4 = 0 then none else
    if (y2 / y4) ≤ 1 then
    (fX0_goSplit_b53 n (fX0_goSplit_h3 n fu) y1 y2 y4 C)
    else
    (bp' (fX0_goLeft n y1 y4 C) fun r8 C9 =>
    lt' (C9.1 36 13) fun x11 =>
    Option.bind (fX0_holdRunning C9) fun C13 =>
    if y4 = 0 then none else
    bp' (fX0_goLeft n x11 (y2 / y4) C13) fun r16 C17 =>
    some (r16, C17)))
    else
    (fX0_goSplit_b53 n (fX0_goSplit_h3 n fu) y1 y2 y4 C))
def fX0_goSplit (n : Nat) (p1 : Int32) (p2 : Int32) (p3 : Int32) (C : Mm) : Option (Int32 × Mm) :=
    fX0_goSplit_h3 n n p1 p2 p3 C
def fX0_reckon (n : Nat) (j1 : Nat) (p2 : Int32) (p3 : Int32) (C : Mm) : Option (Int32 × Mm) :=
    lt' (p3 / 10000) fun x1 =>
    lt' (irm p3 10000) fun x2 =>
    Option.bind (fX0_begin j1 C) fun C4 =>
    if p2 = 0 then
    (Option.bind (fX5_looksUp n j1 p3 C4) fun r7 =>
    if r7 = 0 then
    (some (0, C4))
    else
    (bp' (fX0_goKnown n x1 x2 C4) fun r11 C12 =>
    if r11 = 0 then
    (some (0, C12))
    else
    (some (1, C12))))
    else
    (if p2 = 1 then
    (bp' (fX0_goLeft n x1 x2 C4) fun r17 C18 =>
    some (r17, C18))
    else
    (if p2 = 2 then
    (bp' (fX0_goRight n x1 x2 C4) fun r22 C23 =>
    some (r22, C23))
    else
    (if p2 = 3 then
    (bp' (fX0_goCrossed n x1 x2 C4) fun r27 C28 =>
    some (r27, C28))
    else
    (if p2 = 4 then
    (if (irm (x1 + x2) 2) = 0 then
    (bp' (fX0_goSquared n x1 x2 C4) fun r33 C34 =>
    if r33 = 0 then
    (some (0, C34))
    else
    (some (1, C34)))
    else
    (some (0, C4)))
    else
    (if p2 = 5 then
    (Option.bind (fX5_number j1 3 C4) fun r39 =>
    bp' (fX0_goSplit n x1 x2 r39 C4) fun r42 C43 =>
    some (r42, C43))
    else
    (if p2 = 6 then
    (bp' (fX0_goRight n x2 x1 C4) fun r47 C48 =>
    some (r47, C48))
    else
    (some (0, C4))))))))
def fX0_slipDrawn (n : Nat) (p1 : Int32) (p2 : Int32) (C : Mm) : Option Int32 :=
    if p1 < (0 : Int32) ∨ 80 ≤ Int32.toNatClampNeg p1 then none else
    if (C.1 37 (Int32.toNatClampNeg p1)) = 0 then
    (if (irm p2 2) = 1 then
    (if p1 < (0 : Int32) ∨ 80 ≤ Int32.toNatClampNeg p1 then none else
    some (C.1 41 (Int32.toNatClampNeg p1)))
    else
    (if p1 < (0 : Int32) ∨ 80 ≤ Int32.toNatClampNeg p1 then none else
    some (-(C.1 41 (Int32.toNatClampNeg p1)))))
    else
    (if p1 < (0 : Int32) ∨ 80 ≤ Int32.toNatClampNeg p1 then none else
    if (C.1 37 (Int32.toNatClampNeg p1)) = 1 then
    (if p1 < (0 : Int32) ∨ 80 ≤ Int32.toNatClampNeg p1 then none else
    Option.bind (fX4_sizeOf n (Int32.toInt64 (C.1 38 (Int32.toNatClampNeg p1)))) fun r7 =>
    if 1 ≤ r7 then
    (if p1 < (0 : Int32) ∨ 80 ≤ Int32.toNatClampNeg p1 then none else
    if r7 = 0 then none else
    Option.bind (fX4_tenTo (irm p2 r7)) fun r13 =>
    some ((-(C.1 41 (Int32.toNatClampNeg p1))) * r13))
    else
    (some 0))
    else
    (some 0))
def fX0_slipsDrawn_b79 (n : Nat) (k8 : Int32 → Int32 → Int32 → Int32 → Mm → Option Int32) (y2 : Int32) (y3 : Int32) (y4 : Int32) (y5 : Int32) (C : Mm) : Option Int32 :=
    lt' (y5 + 1) fun x1 =>
    k8 y2 y3 y4 x1 C
def fX0_slipsDrawn_h8 (n : Nat) : Nat → Int32 → Int32 → Int32 → Int32 → Mm → Option Int32
  | 0, _, _, _, _, _ => none
  | fu + 1, y2, y3, y4, y5, C =>
    if (C.1 36 6) ≤ y5 then
    (some y4)
    else
    (if y5 < (0 : Int32) ∨ 80 ≤ Int32.toNatClampNeg y5 then none else
    lt' ((C.1 40 (Int32.toNatClampNeg y5)) - y2) fun x4 =>
    if 0 < x4 then
    (lt' ((y3 * 1103515245) + 12345) fun x6 =>
    if (imin (5 * x4) 95) ≤ (irm (iush x6 8) 100) then
    (fX0_slipsDrawn_b79 n (fX0_slipsDrawn_h8 n fu) y2 x6 y4 y5 C)
    else
    (Option.bind (fX0_slipDrawn n y5 (iush x6 20) C) fun r9 =>
    lt' (y4 + r9) fun x11 =>
    fX0_slipsDrawn_b79 n (fX0_slipsDrawn_h8 n fu) y2 x6 x11 y5 C))
    else
    (fX0_slipsDrawn_b79 n (fX0_slipsDrawn_h8 n fu) y2 y3 y4 y5 C))
def fX0_slipsDrawn (n : Nat) (p1 : Int32) (p2 : Int32) (C : Mm) : Option Int32 :=
    fX0_slipsDrawn_h8 n n p2 p1 0 0 C
def fX0_canSlip_h59 (n : Nat) : Nat → Int32 → Int32 → Int32 → Mm → Option Int32
  | 0, _, _, _, _ => none
  | fu + 1, y1, y2, y3, C =>
    if y3 < 0 then
    (some 0)
    else
    (if y1 < (0 : Int32) ∨ 80 ≤ Int32.toNatClampNeg y1 then none else
    Option.bind (fX4_tenTo y3) fun r4 =>
    if y2 = ((-(C.1 41 (Int32.toNatClampNeg y1))) * r4) then
    (some 1)
    else
    (lt' (y3 + (-1)) fun x7 =>
    fX0_canSlip_h59 n fu y1 y2 x7 C))
def fX0_canSlip (n : Nat) (p1 : Int32) (p2 : Int32) (C : Mm) : Option Int32 :=
    if p1 < (0 : Int32) ∨ 80 ≤ Int32.toNatClampNeg p1 then none else
    if (C.1 37 (Int32.toNatClampNeg p1)) = 0 then
    (if p1 < (0 : Int32) ∨ 80 ≤ Int32.toNatClampNeg p1 then none else
    if p2 = (C.1 41 (Int32.toNatClampNeg p1)) then
    (some 1)
    else
    (if p1 < (0 : Int32) ∨ 80 ≤ Int32.toNatClampNeg p1 then none else
    if p2 = (-(C.1 41 (Int32.toNatClampNeg p1))) then
    (some 1)
    else
    (some 0)))
    else
    (if p1 < (0 : Int32) ∨ 80 ≤ Int32.toNatClampNeg p1 then none else
    if (C.1 37 (Int32.toNatClampNeg p1)) = 1 then
    (if p1 < (0 : Int32) ∨ 80 ≤ Int32.toNatClampNeg p1 then none else
    Option.bind (fX4_sizeOf n (Int32.toInt64 (C.1 38 (Int32.toNatClampNeg p1)))) fun r14 =>
    lt' (r14 - 1) fun x16 =>
    fX0_canSlip_h59 n n p1 p2 x16 C)
    else
    (some 0))
def fX0_firstThatCan_h2 (n : Nat) : Nat → Int32 → Int32 → Mm → Option Int32
  | 0, _, _, _ => none
  | fu + 1, y1, y2, C =>
    if (C.1 36 6) ≤ y2 then
    (some (-2))
    else
    (Option.bind (fX0_canSlip n y2 y1 C) fun r3 =>
    if r3 = 0 then
    (lt' (y2 + 1) fun x6 =>
    fX0_firstThatCan_h2 n fu y1 x6 C)
    else
    (some y2))
def fX0_firstThatCan (n : Nat) (p1 : Int32) (C : Mm) : Option Int32 :=
    fX0_firstThatCan_h2 n n p1 0 C
def fX0_howManyCan_b24 (n : Nat) (k4 : Int32 → Int32 → Int32 → Mm → Option Int32) (y1 : Int32) (y2 : Int32) (y3 : Int32) (C : Mm) : Option Int32 :=
    lt' (y3 + 1) fun x1 =>
    k4 y1 y2 x1 C
def fX0_howManyCan_h4 (n : Nat) : Nat → Int32 → Int32 → Int32 → Mm → Option Int32
  | 0, _, _, _, _ => none
  | fu + 1, y1, y2, y3, C =>
    if (C.1 36 6) ≤ y3 then
    (some y2)
    else
    (Option.bind (fX0_canSlip n y3 y1 C) fun r4 =>
    if r4 = 0 then
    (fX0_howManyCan_b24 n (fX0_howManyCan_h4 n fu) y1 y2 y3 C)
    else
    (lt' (y2 + 1) fun x7 =>
    fX0_howManyCan_b24 n (fX0_howManyCan_h4 n fu) y1 x7 y3 C))
def fX0_howManyCan (n : Nat) (p1 : Int32) (C : Mm) : Option Int32 :=
    fX0_howManyCan_h4 n n p1 0 0 C
def fX1_isKind (p0 : Int32) : Int32 :=
    if p0 < 0 then
    (0)
    else
    (if 8 ≤ p0 then
    (0)
    else
    (1))
def fX1_isUnder_h4 (n : Nat) : Nat → Int32 → Int32 → Int32 → Option Int32
  | 0, _, _, _ => none
  | fu + 1, y1, y2, y3 =>
    if 8 ≤ y3 then
    (some 0)
    else
    (if (fX1_isKind y2) = 0 then
    (some 0)
    else
    (if y2 = y1 then
    (some 1)
    else
    (if y2 < (0 : Int32) ∨ 8 ≤ Int32.toNatClampNeg y2 then none else
    lt' (stv5 (Int32.toNatClampNeg y2)) fun x7 =>
    lt' (y3 + 1) fun x8 =>
    fX1_isUnder_h4 n fu y1 x7 x8)))
def fX1_isUnder (n : Nat) (p0 : Int32) (p1 : Int32) : Option Int32 :=
    fX1_isUnder_h4 n n p1 p0 0
def fX1_size (C : Mm) : Int32 :=
    C.1 56 1
def fX1_ranCount (C : Mm) : Int32 :=
    C.1 56 3
def fX1_has (p1 : Int32) (C : Mm) : Int32 :=
    if p1 < 0 then
    (0)
    else
    (if (C.1 56 1) ≤ p1 then
    (0)
    else
    (1))
def fX1_kindOf (p1 : Int32) (C : Mm) : Option Int32 :=
    if (fX1_has p1 C) = 0 then
    (some (-1))
    else
    (if p1 < (0 : Int32) ∨ 50 ≤ Int32.toNatClampNeg p1 then none else
    some (C.1 57 (Int32.toNatClampNeg p1)))
def fX1_takes (p1 : Int32) (C : Mm) : Option (Int32 × Mm) :=
    if (C.1 56 1) < 50 then
    (if (C.1 56 1) < (0 : Int32) ∨ 50 ≤ Int32.toNatClampNeg (C.1 56 1) then none else
    lt' (wrI C 57 (Int32.toNatClampNeg (C.1 56 1)) p1) fun C3 =>
    lt' (wrI C3 56 1 ((C3.1 56 1) + 1)) fun C4 =>
    some (1, C4))
    else
    (some (0, C))
def fX1_traced (p1 : Int32) (C : Mm) : Option Int32 :=
    if p1 < 0 then
    (some (-1))
    else
    (if (C.1 56 3) ≤ p1 then
    (some (-1))
    else
    (if 24 ≤ p1 then
    (some (-1))
    else
    (if p1 < (0 : Int32) ∨ 24 ≤ Int32.toNatClampNeg p1 then none else
    some (C.1 58 (Int32.toNatClampNeg p1)))))
def fX1_nearest_h6 (n : Nat) (z : Int32 → Int32 → Int32 → Mm → Option (Int32 × Mm)) : Nat → Int32 → Int32 → Int32 → Int32 → Int32 → Mm → Option (Int32 × Mm)
  | 0, _, _, _, _, _, _ => none
  | fu + 1, y2, y3, y4, y5, y6, C =>
    if 8 ≤ y6 then
    (some (0, C))
    else
    (if (fX1_isKind y5) = 0 then
    (some (0, C))
    else
    (if ((y5 * 4) + y2) < (0 : Int32) ∨ 32 ≤ Int32.toNatClampNeg ((y5 * 4) + y2) then none else
    lt' (stv6 (Int32.toNatClampNeg ((y5 * 4) + y2))) fun x6 =>
    if x6 = 0 then
    (if y5 < (0 : Int32) ∨ 8 ≤ Int32.toNatClampNeg y5 then none else
    lt' (stv5 (Int32.toNatClampNeg y5)) fun x9 =>
    lt' (y6 + 1) fun x10 =>
    fX1_nearest_h6 n z fu y2 y3 y4 x9 x10 C)
    else
    (if 40 ≤ y4 then
    (some (0, C))
    else
    (bp' (z x6 y3 (y4 + 1) C) fun r13 C14 =>
    some (r13, C14)))))
def fX1_nearest (n : Nat) (z : Int32 → Int32 → Int32 → Mm → Option (Int32 × Mm)) (p1 : Int32) (p2 : Int32) (p3 : Int32) (p4 : Int32) (C : Mm) : Option (Int32 × Mm) :=
    fX1_nearest_h6 n z n p2 p3 p4 p1 0 C
def fX1_own (n : Nat) (z : Int32 → Int32 → Int32 → Mm → Option (Int32 × Mm)) (p1 : Int32) (p2 : Int32) (p3 : Int32) (C : Mm) : Option (Int32 × Mm) :=
    Option.bind (fX1_kindOf (C.1 56 4) C) fun r2 =>
    bp' (fX1_nearest n z r2 p1 p2 p3 C) fun r5 C6 =>
    some (r5, C6)
def fX1_noteRun_b19 (C : Mm) : Option Mm :=
    lt' (wrI C 56 3 ((C.1 56 3) + 1)) fun C1 =>
    some C1
def fX1_noteRun (p1 : Int32) (C : Mm) : Option Mm :=
    if 24 ≤ (C.1 56 3) then
    (fX1_noteRun_b19 C)
    else
    (if (C.1 56 3) < (0 : Int32) ∨ 24 ≤ Int32.toNatClampNeg (C.1 56 3) then none else
    lt' (wrI C 58 (Int32.toNatClampNeg (C.1 56 3)) p1) fun C4 =>
    fX1_noteRun_b19 C4)
def fX1_fromAbove_b17 (n : Nat) (z : Int32 → Int32 → Int32 → Mm → Option (Int32 × Mm)) (y2 : Int32) (y3 : Int32) (y4 : Int32) (s0 : Int32) (C : Mm) : Option (Int32 × Mm) :=
    bp' (fX1_nearest n z s0 y2 y3 y4 C) fun r2 C3 =>
    some (r2, C3)
def fX1_fromAbove (n : Nat) (z : Int32 → Int32 → Int32 → Mm → Option (Int32 × Mm)) (p1 : Int32) (p2 : Int32) (p3 : Int32) (p4 : Int32) (C : Mm) : Option (Int32 × Mm) :=
    if (fX1_isKind p1) = 0 then
    (fX1_fromAbove_b17 n z p2 p3 p4 (-1) C)
    else
    (if p1 < (0 : Int32) ∨ 8 ≤ Int32.toNatClampNeg p1 then none else
    fX1_fromAbove_b17 n z p2 p3 p4 (stv5 (Int32.toNatClampNeg p1)) C)
def fX1_run_w (n : Nat) (z : Int32 → Int32 → Int32 → Mm → Option (Int32 × Mm)) (p1 : Int32) (p2 : Int32) (p3 : Int32) (C : Mm) : Option (Int32 × Mm) :=
    Option.bind (fX1_noteRun p1 C) fun C2 =>
    if p1 = 1 then
    (some (p2 + (C2.1 56 4), C2))
    else
    (if p1 = 2 then
    (bp' (fX1_own n z 1 p2 p3 C2) fun r6 C7 =>
    bp' (fX1_own n z 2 1 p3 C7) fun r10 C11 =>
    some (r6 - r10, C11))
    else
    (if p1 = 10 then
    (bp' (fX1_own n z 0 p2 p3 C2) fun r15 C16 =>
    some (r15 * 2, C16))
    else
    (if p1 = 11 then
    (some (p2 ^^^ (C2.1 56 4), C2))
    else
    (if p1 = 20 then
    (bp' (fX1_fromAbove n z 1 0 p2 p3 C2) fun r21 C22 =>
    some (r21 + 3, C22))
    else
    (if p1 = 30 then
    (bp' (fX1_fromAbove n z 2 1 p2 p3 C2) fun r26 C27 =>
    some (-r26, C27))
    else
    (if p1 = 40 then
    (bp' (fX1_fromAbove n z 3 2 p2 p3 C2) fun r31 C32 =>
    some (r31 * 3, C32))
    else
    (if p1 = 50 then
    (bp' (fX1_fromAbove n z 4 3 p2 p3 C2) fun r36 C37 =>
    some (r36 ^^^ 5, C37))
    else
    (if p1 = 60 then
    (bp' (fX1_fromAbove n z 5 0 (p2 + 1) p3 C2) fun r41 C42 =>
    some (r41, C42))
    else
    (if p1 = 61 then
    (bp' (fX1_fromAbove n z 5 2 p2 p3 C2) fun r46 C47 =>
    bp' (fX1_own n z 0 2 p3 C47) fun r50 C51 =>
    some (r46 + r50, C51))
    else
    (if p1 = 70 then
    (bp' (fX1_fromAbove n z 6 2 p2 p3 C2) fun r55 C56 =>
    some (r55 - 1, C56))
    else
    (if p1 = 80 then
    (bp' (fX1_fromAbove n z 7 1 p2 p3 C2) fun r60 C61 =>
    some (r60 * 2, C61))
    else
    (if p1 = 81 then
    (bp' (fX1_fromAbove n z 7 3 p2 p3 C2) fun r65 C66 =>
    bp' (fX1_own n z 2 2 p3 C66) fun r69 C70 =>
    some (r65 - r69, C70))
    else
    (some (0, C2))))))))))))))
def fX1_run (n : Nat) : Nat → Int32 → Int32 → Int32 → Mm → Option (Int32 × Mm)
  | 0, _, _, _, _ => none
  | d + 1, p1, p2, p3, C => fX1_run_w n (fX1_run n d) p1 p2 p3 C
def fX1_start (n : Nat) (p1 : Int32) (p2 : Int32) (p3 : Int32) (C : Mm) : Option (Int32 × Mm) :=
    lt' (wrI C 56 3 0) fun C1 =>
    if (fX1_has p1 C1) = 0 then
    (some (0, C1))
    else
    (if p2 < 0 then
    (some (0, C1))
    else
    (if p2 < 4 then
    (lt' (wrI C1 56 4 p1) fun C7 =>
    bp' (fX1_own n (fX1_run n 12) p2 p3 0 C7) fun r9 C10 =>
    some (r9, C10))
    else
    (some (0, C1))))
def fX2_undoable (C : Mm) : Int32 :=
    C.1 51 4
def fX2_redoable (C : Mm) : Int32 :=
    (C.1 51 5) - (C.1 51 4)
def fX2_forgetOldest (C : Mm) : Option Mm :=
    lt' (wrI C 51 4 39) fun C1 =>
    if 1 < (0 : Int32) ∨ 0 < (0 : Int32) ∨ (C1.1 51 4) < (0 : Int32) ∨ 40 < (Int32.toNatClampNeg 1) + (Int32.toNatClampNeg (C1.1 51 4)) ∨ 40 < (Int32.toNatClampNeg 0) + (Int32.toNatClampNeg (C1.1 51 4)) then none else
    lt' (cpI C1 52 (Int32.toNatClampNeg 1) 52 (Int32.toNatClampNeg 0) (Int32.toNatClampNeg (C1.1 51 4))) fun C3 =>
    if 1 < (0 : Int32) ∨ 0 < (0 : Int32) ∨ (C3.1 51 4) < (0 : Int32) ∨ 40 < (Int32.toNatClampNeg 1) + (Int32.toNatClampNeg (C3.1 51 4)) ∨ 40 < (Int32.toNatClampNeg 0) + (Int32.toNatClampNeg (C3.1 51 4)) then none else
    lt' (cpI C3 53 (Int32.toNatClampNeg 1) 53 (Int32.toNatClampNeg 0) (Int32.toNatClampNeg (C3.1 51 4))) fun C5 =>
    if 1 < (0 : Int32) ∨ 0 < (0 : Int32) ∨ (C5.1 51 4) < (0 : Int32) ∨ 40 < (Int32.toNatClampNeg 1) + (Int32.toNatClampNeg (C5.1 51 4)) ∨ 40 < (Int32.toNatClampNeg 0) + (Int32.toNatClampNeg (C5.1 51 4)) then none else
    lt' (cpI C5 54 (Int32.toNatClampNeg 1) 54 (Int32.toNatClampNeg 0) (Int32.toNatClampNeg (C5.1 51 4))) fun C7 =>
    if 1 < (0 : Int32) ∨ 0 < (0 : Int32) ∨ (C7.1 51 4) < (0 : Int32) ∨ 40 < (Int32.toNatClampNeg 1) + (Int32.toNatClampNeg (C7.1 51 4)) ∨ 40 < (Int32.toNatClampNeg 0) + (Int32.toNatClampNeg (C7.1 51 4)) then none else
    lt' (cpI C7 55 (Int32.toNatClampNeg 1) 55 (Int32.toNatClampNeg 0) (Int32.toNatClampNeg (C7.1 51 4))) fun C9 =>
    some C9
def fX2_came_b13 (y1 : Int32) (y2 : Int32) (y3 : Int32) (y4 : Int32) (C : Mm) : Option Mm :=
    if (C.1 51 4) < (0 : Int32) ∨ 40 ≤ Int32.toNatClampNeg (C.1 51 4) then none else
    lt' (wrI C 52 (Int32.toNatClampNeg (C.1 51 4)) y1) fun C2 =>
    if (C2.1 51 4) < (0 : Int32) ∨ 40 ≤ Int32.toNatClampNeg (C2.1 51 4) then none else
    lt' (wrI C2 53 (Int32.toNatClampNeg (C2.1 51 4)) y2) fun C4 =>
    if (C4.1 51 4) < (0 : Int32) ∨ 40 ≤ Int32.toNatClampNeg (C4.1 51 4) then none else
    lt' (wrI C4 54 (Int32.toNatClampNeg (C4.1 51 4)) y3) fun C6 =>
    if (C6.1 51 4) < (0 : Int32) ∨ 40 ≤ Int32.toNatClampNeg (C6.1 51 4) then none else
    lt' (wrI C6 55 (Int32.toNatClampNeg (C6.1 51 4)) y4) fun C8 =>
    lt' (wrI C8 51 4 ((C8.1 51 4) + 1)) fun C9 =>
    lt' (wrI C9 51 5 (C9.1 51 4)) fun C10 =>
    some C10
def fX2_came (p1 : Int32) (p2 : Int32) (p3 : Int32) (p4 : Int32) (C : Mm) : Option Mm :=
    if (C.1 51 4) < 40 then
    (fX2_came_b13 p1 p2 p3 p4 C)
    else
    (Option.bind (fX2_forgetOldest C) fun C13 =>
    fX2_came_b13 p1 p2 p3 p4 C13)
def fX5_setNumber (j0 : Nat) (p1 : Int32) (p2 : Int32) (C : Mm) : Option Mm :=
    if p1 < 0 then
    (some C)
    else
    (if 5 ≤ p1 then
    (some C)
    else
    (if p1 < (0 : Int32) ∨ 5 ≤ Int32.toNatClampNeg p1 then none else
    lt' (wrI C (hdn j0) (Int32.toNatClampNeg p1) p2) fun C4 =>
    some C4))
def fX2_apply (p2 : Int32) (p3 : Int32) (C : Mm) : Option Mm :=
    if p2 < (0 : Int32) ∨ 40 ≤ Int32.toNatClampNeg p2 then none else
    if (C.1 52 (Int32.toNatClampNeg p2)) < 0 then
    (some C)
    else
    (if p2 < (0 : Int32) ∨ 40 ≤ Int32.toNatClampNeg p2 then none else
    if 6 ≤ (C.1 52 (Int32.toNatClampNeg p2)) then
    (some C)
    else
    (if p2 < (0 : Int32) ∨ 40 ≤ Int32.toNatClampNeg p2 then none else
    if (C.1 52 (Int32.toNatClampNeg p2)) < (0 : Int32) ∨ 6 ≤ Int32.toNatClampNeg (C.1 52 (Int32.toNatClampNeg p2)) then none else
    if p2 < (0 : Int32) ∨ 40 ≤ Int32.toNatClampNeg p2 then none else
    Option.bind (fX5_setNumber (Int32.toNatClampNeg (C.1 52 (Int32.toNatClampNeg p2))) (C.1 53 (Int32.toNatClampNeg p2)) p3 C) fun C10 =>
    some C10))
def fX2_stepBack (C : Mm) : Option Mm :=
    if (C.1 51 4) ≤ 0 then
    (some C)
    else
    (lt' (wrI C 51 4 ((C.1 51 4) - 1)) fun C2 =>
    if (C2.1 51 4) < (0 : Int32) ∨ 40 ≤ Int32.toNatClampNeg (C2.1 51 4) then none else
    Option.bind (fX2_apply (C2.1 51 4) (C2.1 54 (Int32.toNatClampNeg (C2.1 51 4))) C2) fun C5 =>
    some C5)
def fX2_stepOn (C : Mm) : Option Mm :=
    if (C.1 51 5) ≤ (C.1 51 4) then
    (some C)
    else
    (if (C.1 51 4) < (0 : Int32) ∨ 40 ≤ Int32.toNatClampNeg (C.1 51 4) then none else
    Option.bind (fX2_apply (C.1 51 4) (C.1 55 (Int32.toNatClampNeg (C.1 51 4))) C) fun C4 =>
    lt' (wrI C4 51 4 ((C4.1 51 4) + 1)) fun C5 =>
    some C5)
def fX9t_become (C : Mm) : Option Mm :=
    if 0 < (0 : Int32) ∨ 0 < (0 : Int32) ∨ (C.1 1 1) < (0 : Int32) ∨ 120 < (Int32.toNatClampNeg 0) + (Int32.toNatClampNeg (C.1 1 1)) ∨ 120 < (Int32.toNatClampNeg 0) + (Int32.toNatClampNeg (C.1 1 1)) then none else
    lt' (cpI C 2 (Int32.toNatClampNeg 0) 104 (Int32.toNatClampNeg 0) (Int32.toNatClampNeg (C.1 1 1))) fun C2 =>
    lt' (wrI C2 103 1 (C2.1 1 1)) fun C3 =>
    some C3
def fX9t_length (C : Mm) : Int32 :=
    C.1 103 1
def fX9t_at (p1 : Int32) (C : Mm) : Option Int32 :=
    if p1 < 0 then
    (some (-1))
    else
    (if (C.1 103 1) ≤ p1 then
    (some (-1))
    else
    (if p1 < (0 : Int32) ∨ 120 ≤ Int32.toNatClampNeg p1 then none else
    some (C.1 104 (Int32.toNatClampNeg p1))))
def fX4_isDigit (p0 : Int32) : Int32 :=
    if p0 < 48 then
    (0)
    else
    (if 57 < p0 then
    (0)
    else
    (1))
def fX3_writeCode (p1 : Int32) (C : Mm) : Option Mm :=
    if 128 ≤ (C.1 32 3) then
    (some C)
    else
    (if (C.1 32 3) < (0 : Int32) ∨ 128 ≤ Int32.toNatClampNeg (C.1 32 3) then none else
    lt' (wrI C 34 (Int32.toNatClampNeg (C.1 32 3)) p1) fun C3 =>
    lt' (wrI C3 32 3 ((C3.1 32 3) + 1)) fun C4 =>
    some C4)
def fX3_readNumber_b62 (n : Nat) (y1 : Int32) (C : Mm) : Option Mm :=
    Option.bind (fX3_writeCode y1 C) fun C2 =>
    some C2
def fX3_readNumber_h4 (n : Nat) : Nat → Int32 → Int32 → Mm → Option Mm
  | 0, _, _, _ => none
  | fu + 1, y1, y2, C =>
    if 4 ≤ y2 then
    (fX3_readNumber_b62 n y1 C)
    else
    (Option.bind (fX9t_at (C.1 32 7) C) fun r5 =>
    if (fX4_isDigit r5) = 0 then
    (fX3_readNumber_b62 n y1 C)
    else
    (Option.bind (fX9t_at (C.1 32 7) C) fun r11 =>
    lt' (((y1 * 10) + r11) - 48) fun x13 =>
    lt' (wrI C 32 7 ((C.1 32 7) + 1)) fun C14 =>
    lt' (y2 + 1) fun x15 =>
    fX3_readNumber_h4 n fu x13 x15 C14))
def fX3_readNumber (n : Nat) (C : Mm) : Option Mm :=
    fX3_readNumber_h4 n n 0 0 C
def fX3_isName (p0 : Int32) : Int32 :=
    if p0 = 99 then
    (1)
    else
    (if p0 = 100 then
    (1)
    else
    (if p0 = 109 then
    (1)
    else
    (if p0 = 110 then
    (1)
    else
    (if p0 = 116 then
    (1)
    else
    (if p0 = 120 then
    (1)
    else
    (if p0 = 121 then
    (1)
    else
    (if p0 = 122 then
    (1)
    else
    (0))))))))
def fX3_write (p1 : Int32) (C : Mm) : Option Mm :=
    Option.bind (fX3_writeCode (-p1) C) fun C2 =>
    some C2
def fX3_readOperand_b30 (n : Nat) (z : Int32 → Mm → Option (Int32 × Mm)) (y1 : Int32) (C : Mm) : Option (Int32 × Mm) :=
    if 6 ≤ y1 then
    (some (0, C))
    else
    (bp' (z (y1 + 1) C) fun r3 C4 =>
    if r3 = 0 then
    (some (0, C4))
    else
    (some (1, C4)))
def fX3_readOperand (n : Nat) (z : Int32 → Mm → Option (Int32 × Mm)) (p1 : Int32) (C : Mm) : Option (Int32 × Mm) :=
    Option.bind (fX9t_at (C.1 32 7) C) fun r8 =>
    if r8 = 40 then
    (fX3_readOperand_b30 n z p1 C)
    else
    (if r8 = 33 then
    (fX3_readOperand_b30 n z p1 C)
    else
    (if r8 = 45 then
    (fX3_readOperand_b30 n z p1 C)
    else
    (if (fX4_isDigit r8) = 0 then
    (if (fX3_isName r8) = 0 then
    (some (0, C))
    else
    (lt' (wrI C 32 7 ((C.1 32 7) + 1)) fun C19 =>
    Option.bind (fX3_write r8 C19) fun C21 =>
    some (1, C21)))
    else
    (Option.bind (fX3_readNumber n C) fun C23 =>
    some (1, C23)))))
def fX3_readProduct_b55 (n : Nat) (z : Int32 → Mm → Option (Int32 × Mm)) (k12 : Int32 → Int32 → Mm → Option (Int32 × Mm)) (y1 : Int32) (y2 : Int32) (y3 : Int32) (C : Mm) : Option (Int32 × Mm) :=
    lt' (wrI C 32 7 ((C.1 32 7) + 1)) fun C1 =>
    bp' (fX3_readOperand n z y1 C1) fun r3 C4 =>
    if r3 = 0 then
    (some (0, C4))
    else
    (Option.bind (fX3_write y3 C4) fun C8 =>
    lt' (y2 + 1) fun x9 =>
    k12 y1 x9 C8)
def fX3_readProduct_h12 (n : Nat) (z : Int32 → Mm → Option (Int32 × Mm)) : Nat → Int32 → Int32 → Mm → Option (Int32 × Mm)
  | 0, _, _, _ => none
  | fu + 1, y1, y2, C =>
    if (fX9t_length C) ≤ y2 then
    (some (1, C))
    else
    (Option.bind (fX9t_at (C.1 32 7) C) fun r14 =>
    if r14 = 42 then
    (fX3_readProduct_b55 n z (fX3_readProduct_h12 n z fu) y1 y2 r14 C)
    else
    (if r14 = 47 then
    (fX3_readProduct_b55 n z (fX3_readProduct_h12 n z fu) y1 y2 r14 C)
    else
    (if r14 = 37 then
    (fX3_readProduct_b55 n z (fX3_readProduct_h12 n z fu) y1 y2 r14 C)
    else
    (some (1, C)))))
def fX3_readProduct (n : Nat) (z : Int32 → Mm → Option (Int32 × Mm)) (p1 : Int32) (C : Mm) : Option (Int32 × Mm) :=
    bp' (fX3_readOperand n z p1 C) fun r20 C21 =>
    if r20 = 0 then
    (some (0, C21))
    else
    (fX3_readProduct_h12 n z n p1 0 C21)
def fX3_readSum_b49 (n : Nat) (z : Int32 → Mm → Option (Int32 × Mm)) (k12 : Int32 → Int32 → Mm → Option (Int32 × Mm)) (y1 : Int32) (y2 : Int32) (y3 : Int32) (C : Mm) : Option (Int32 × Mm) :=
    lt' (wrI C 32 7 ((C.1 32 7) + 1)) fun C1 =>
    bp' (fX3_readProduct n z y1 C1) fun r3 C4 =>
    if r3 = 0 then
    (some (0, C4))
    else
    (Option.bind (fX3_write y3 C4) fun C8 =>
    lt' (y2 + 1) fun x9 =>
    k12 y1 x9 C8)
def fX3_readSum_h12 (n : Nat) (z : Int32 → Mm → Option (Int32 × Mm)) : Nat → Int32 → Int32 → Mm → Option (Int32 × Mm)
  | 0, _, _, _ => none
  | fu + 1, y1, y2, C =>
    if (fX9t_length C) ≤ y2 then
    (some (1, C))
    else
    (Option.bind (fX9t_at (C.1 32 7) C) fun r14 =>
    if r14 = 43 then
    (fX3_readSum_b49 n z (fX3_readSum_h12 n z fu) y1 y2 r14 C)
    else
    (if r14 = 45 then
    (fX3_readSum_b49 n z (fX3_readSum_h12 n z fu) y1 y2 r14 C)
    else
    (some (1, C))))
def fX3_readSum (n : Nat) (z : Int32 → Mm → Option (Int32 × Mm)) (p1 : Int32) (C : Mm) : Option (Int32 × Mm) :=
    bp' (fX3_readProduct n z p1 C) fun r19 C20 =>
    if r19 = 0 then
    (some (0, C20))
    else
    (fX3_readSum_h12 n z n p1 0 C20)
def fX3_readCompared_b42 (n : Nat) (z : Int32 → Mm → Option (Int32 × Mm)) (y1 : Int32) (y2 : Int32) (C : Mm) : Option (Int32 × Mm) :=
    lt' (wrI C 32 7 ((C.1 32 7) + 1)) fun C1 =>
    bp' (fX3_readSum n z y1 C1) fun r3 C4 =>
    if r3 = 0 then
    (some (0, C4))
    else
    (Option.bind (fX3_write y2 C4) fun C8 =>
    some (1, C8))
def fX3_readCompared (n : Nat) (z : Int32 → Mm → Option (Int32 × Mm)) (p1 : Int32) (C : Mm) : Option (Int32 × Mm) :=
    bp' (fX3_readSum n z p1 C) fun r10 C11 =>
    if r10 = 0 then
    (some (0, C11))
    else
    (Option.bind (fX9t_at (C11.1 32 7) C11) fun r15 =>
    if r15 = 60 then
    (fX3_readCompared_b42 n z p1 r15 C11)
    else
    (if r15 = 61 then
    (fX3_readCompared_b42 n z p1 r15 C11)
    else
    (if r15 = 62 then
    (fX3_readCompared_b42 n z p1 r15 C11)
    else
    (some (1, C11)))))
def fX3_goesOnWith (p1 : Int32) (C : Mm) : Option (Int32 × Mm) :=
    Option.bind (fX9t_at (C.1 32 7) C) fun r2 =>
    if r2 = p1 then
    (lt' (wrI C 32 7 ((C.1 32 7) + 1)) fun C5 =>
    some (1, C5))
    else
    (some (0, C))
def fX3_readAll_h12 (n : Nat) (z : Int32 → Mm → Option (Int32 × Mm)) : Nat → Int32 → Int32 → Mm → Option (Int32 × Mm)
  | 0, _, _, _ => none
  | fu + 1, y1, y2, C =>
    if (fX9t_length C) ≤ y2 then
    (some (1, C))
    else
    (bp' (fX3_goesOnWith 38 C) fun r5 C6 =>
    if r5 = 0 then
    (some (1, C6))
    else
    (bp' (fX3_readCompared n z y1 C6) fun r10 C11 =>
    if r10 = 0 then
    (some (0, C11))
    else
    (Option.bind (fX3_write 38 C11) fun C15 =>
    lt' (y2 + 1) fun x16 =>
    fX3_readAll_h12 n z fu y1 x16 C15)))
def fX3_readAll (n : Nat) (z : Int32 → Mm → Option (Int32 × Mm)) (p1 : Int32) (C : Mm) : Option (Int32 × Mm) :=
    bp' (fX3_readCompared n z p1 C) fun r18 C19 =>
    if r18 = 0 then
    (some (0, C19))
    else
    (fX3_readAll_h12 n z n p1 0 C19)
def fX3_readAny_h12 (n : Nat) (z : Int32 → Mm → Option (Int32 × Mm)) : Nat → Int32 → Int32 → Mm → Option (Int32 × Mm)
  | 0, _, _, _ => none
  | fu + 1, y1, y2, C =>
    if (fX9t_length C) ≤ y2 then
    (some (1, C))
    else
    (bp' (fX3_goesOnWith 124 C) fun r5 C6 =>
    if r5 = 0 then
    (some (1, C6))
    else
    (bp' (fX3_readAll n z y1 C6) fun r10 C11 =>
    if r10 = 0 then
    (some (0, C11))
    else
    (Option.bind (fX3_write 124 C11) fun C15 =>
    lt' (y2 + 1) fun x16 =>
    fX3_readAny_h12 n z fu y1 x16 C15)))
def fX3_readAny (n : Nat) (z : Int32 → Mm → Option (Int32 × Mm)) (p1 : Int32) (C : Mm) : Option (Int32 × Mm) :=
    bp' (fX3_readAll n z p1 C) fun r18 C19 =>
    if r18 = 0 then
    (some (0, C19))
    else
    (fX3_readAny_h12 n z n p1 0 C19)
def fX3_readOpened_b74 (n : Nat) (z : Int32 → Mm → Option (Int32 × Mm)) (s0 : Int32) (C : Mm) : Option (Int32 × Mm) :=
    Option.bind (fX3_write s0 C) fun C2 =>
    some (1, C2)
def fX3_readOpened_w (n : Nat) (z : Int32 → Mm → Option (Int32 × Mm)) (p1 : Int32) (C : Mm) : Option (Int32 × Mm) :=
    Option.bind (fX9t_at (C.1 32 7) C) fun r4 =>
    lt' (wrI C 32 7 ((C.1 32 7) + 1)) fun C6 =>
    if r4 = 40 then
    (bp' (fX3_readAny n z p1 C6) fun r15 C16 =>
    if r15 = 0 then
    (some (0, C16))
    else
    (bp' (fX3_goesOnWith 41 C16) fun r20 C21 =>
    if r20 = 0 then
    (some (0, C21))
    else
    (some (1, C21))))
    else
    (bp' (fX3_readOperand n z p1 C6) fun r9 C10 =>
    if r9 = 0 then
    (some (0, C10))
    else
    (if r4 = 45 then
    (fX3_readOpened_b74 n z 126 C10)
    else
    (fX3_readOpened_b74 n z r4 C10)))
def fX3_readOpened (n : Nat) : Nat → Int32 → Mm → Option (Int32 × Mm)
  | 0, _, _ => none
  | d + 1, p1, C => fX3_readOpened_w n (fX3_readOpened n d) p1 C
def fX3_readLine_b35 (n : Nat) (C : Mm) : Option (Int32 × Mm) :=
    Option.bind (fX3_write 59 C) fun C2 =>
    some (1, C2)
def fX3_readLine (n : Nat) (C : Mm) : Option (Int32 × Mm) :=
    bp' (fX3_readAny n (fX3_readOpened n 12) 0 C) fun r4 C5 =>
    if r4 = 0 then
    (some (0, C5))
    else
    (bp' (fX3_goesOnWith 63 C5) fun r9 C10 =>
    if r9 = 0 then
    (fX3_readLine_b35 n C10)
    else
    (Option.bind (fX3_write 63 C10) fun C14 =>
    bp' (fX3_readAny n (fX3_readOpened n 12) 0 C14) fun r16 C17 =>
    if r16 = 0 then
    (some (0, C17))
    else
    (fX3_readLine_b35 n C17)))
def fX3_readLines_h2 (n : Nat) : Nat → Int32 → Mm → Option (Int32 × Mm)
  | 0, _, _ => none
  | fu + 1, y1, C =>
    if (fX9t_length C) < y1 then
    (some (0, C))
    else
    (bp' (fX3_readLine n C) fun r5 C6 =>
    if r5 = 0 then
    (some (0, C6))
    else
    (bp' (fX3_goesOnWith 59 C6) fun r10 C11 =>
    if r10 = 0 then
    (if (C11.1 32 7) = (fX9t_length C11) then
    (some (1, C11))
    else
    (some (0, C11)))
    else
    (lt' (y1 + 1) fun x14 =>
    fX3_readLines_h2 n fu x14 C11)))
def fX3_readLines (n : Nat) (C : Mm) : Option (Int32 × Mm) :=
    fX3_readLines_h2 n n 0 C
def fX3_read (n : Nat) (C : Mm) : Option (Int32 × Mm) :=
    Option.bind (fX9t_become C) fun C2 =>
    lt' (wrI C2 32 7 0) fun C3 =>
    lt' (wrI C3 32 3 0) fun C4 =>
    bp' (fX3_readLines n C4) fun r6 C7 =>
    if r6 = 0 then
    (some (C7.1 32 7, C7))
    else
    (if 0 < (0 : Int32) ∨ 0 < (0 : Int32) ∨ (C7.1 32 3) < (0 : Int32) ∨ 128 < (Int32.toNatClampNeg 0) + (Int32.toNatClampNeg (C7.1 32 3)) ∨ 128 < (Int32.toNatClampNeg 0) + (Int32.toNatClampNeg (C7.1 32 3)) then none else
    lt' (cpI C7 34 (Int32.toNatClampNeg 0) 33 (Int32.toNatClampNeg 0) (Int32.toNatClampNeg (C7.1 32 3))) fun C11 =>
    lt' (wrI C11 32 1 (C11.1 32 3)) fun C12 =>
    some ((-1), C12))
def fX3_pop (C : Mm) : Option (Int32 × Mm) :=
    if (C.1 32 5) = 0 then
    (some (0, C))
    else
    (lt' (wrI C 32 5 ((C.1 32 5) - 1)) fun C2 =>
    if (C2.1 32 5) < (0 : Int32) ∨ 128 ≤ Int32.toNatClampNeg (C2.1 32 5) then none else
    some (C2.1 35 (Int32.toNatClampNeg (C2.1 32 5)), C2))
def fX3_push (p1 : Int32) (C : Mm) : Option Mm :=
    if 128 ≤ (C.1 32 5) then
    (some C)
    else
    (if (C.1 32 5) < (0 : Int32) ∨ 128 ≤ Int32.toNatClampNeg (C.1 32 5) then none else
    lt' (wrI C 35 (Int32.toNatClampNeg (C.1 32 5)) p1) fun C3 =>
    lt' (wrI C3 32 5 ((C3.1 32 5) + 1)) fun C4 =>
    some C4)
def fX4_noughtsIn_b18 (n : Nat) (k4 : Int32 → Int32 → Option Int32) (y1 : Int32) (y2 : Int32) : Option Int32 :=
    lt' (y2 / 10) fun x1 =>
    k4 y1 x1
def fX4_noughtsIn_h4 (n : Nat) : Nat → Int32 → Int32 → Option Int32
  | 0, _, _ => none
  | fu + 1, y1, y2 =>
    if y2 ≤ 0 then
    (some y1)
    else
    (if (irm y2 10) = 0 then
    (lt' (y1 + 1) fun x4 =>
    fX4_noughtsIn_b18 n (fX4_noughtsIn_h4 n fu) x4 y2)
    else
    (fX4_noughtsIn_b18 n (fX4_noughtsIn_h4 n fu) y1 y2))
def fX4_noughtsIn (n : Nat) (p0 : Int32) : Option Int32 :=
    fX4_noughtsIn_h4 n n 0 p0
def fX5_capacity (j0 : Nat) (C : Mm) : Option Int32 :=
    if 4 < (0 : Int32) ∨ 5 ≤ Int32.toNatClampNeg 4 then none else
    some (C.1 (hdn j0) (Int32.toNatClampNeg 4))
def fX3_valueOf (n : Nat) (j1 : Nat) (p0 : Int32) (p2 : Int32) (p3 : Int32) (C : Mm) : Option Int32 :=
    if p0 = 100 then
    (some (iabs (p2 - p3)))
    else
    (if p0 = 109 then
    (Option.bind (fX4_sizeOf n (Int32.toInt64 p2)) fun r4 =>
    some r4)
    else
    (if p0 = 110 then
    (Option.bind (fX4_sizeOf n (Int32.toInt64 p3)) fun r8 =>
    some r8)
    else
    (if p0 = 116 then
    (Option.bind (fX5_number j1 3 C) fun r12 =>
    some r12)
    else
    (if p0 = 120 then
    (some (irm p2 10))
    else
    (if p0 = 121 then
    (some (irm p3 10))
    else
    (if p0 = 122 then
    (Option.bind (fX4_noughtsIn n p2) fun r18 =>
    Option.bind (fX4_noughtsIn n p3) fun r21 =>
    some (r18 + r21))
    else
    (Option.bind (fX5_capacity j1 C) fun r24 =>
    some r24)))))))
def fX3_joined (p0 : Int32) (p1 : Int32) (p2 : Int32) : Option Int32 :=
    if p0 = 37 then
    (if p2 = 0 then
    (some 0)
    else
    (if p2 = 0 then none else
    some (irm p1 p2)))
    else
    (if p0 = 38 then
    (if p1 = 0 then
    (some 0)
    else
    (if p2 = 0 then
    (some 0)
    else
    (some 1)))
    else
    (if p0 = 42 then
    (some (p1 * p2))
    else
    (if p0 = 43 then
    (some (p1 + p2))
    else
    (if p0 = 45 then
    (some (p1 - p2))
    else
    (if p0 = 47 then
    (if p2 = 0 then
    (some 0)
    else
    (if p2 = 0 then none else
    some (p1 / p2)))
    else
    (if p0 = 60 then
    (if p2 ≤ p1 then
    (some 0)
    else
    (some 1))
    else
    (if p0 = 61 then
    (if p1 = p2 then
    (some 1)
    else
    (some 0))
    else
    (if p0 = 62 then
    (if p1 ≤ p2 then
    (some 0)
    else
    (some 1))
    else
    (if p1 = 0 then
    (if p2 = 0 then
    (some 0)
    else
    (some 1))
    else
    (some 1))))))))))
def fX3_workOut_b62 (n : Nat) (j2 : Nat) (s0 : Int32) (C : Mm) : Option Mm :=
    Option.bind (fX3_push s0 C) fun C2 =>
    some C2
def fX3_workOut (n : Nat) (j2 : Nat) (p1 : Int32) (p3 : Int32) (C : Mm) : Option Mm :=
    if p1 < 0 then
    (if (fX3_isName (-p1)) = 0 then
    (if p1 = (-33) then
    (bp' (fX3_pop C) fun r29 C30 =>
    if r29 = 0 then
    (fX3_workOut_b62 n j2 1 C30)
    else
    (fX3_workOut_b62 n j2 0 C30))
    else
    (if p1 = (-126) then
    (bp' (fX3_pop C) fun r23 C24 =>
    Option.bind (fX3_push (-r23) C24) fun C27 =>
    some C27)
    else
    (bp' (fX3_pop C) fun r10 C11 =>
    bp' (fX3_pop C11) fun r14 C15 =>
    Option.bind (fX3_joined (-p1) r14 r10) fun r18 =>
    Option.bind (fX3_push r18 C15) fun C21 =>
    some C21)))
    else
    (Option.bind (fX3_valueOf n j2 (-p1) (p3 / 10000) (irm p3 10000) C) fun r34 =>
    Option.bind (fX3_push r34 C) fun C37 =>
    some C37))
    else
    (Option.bind (fX3_push p1 C) fun C39 =>
    some C39)
def fX3_numberFor_b100 (n : Nat) (j1 : Nat) (k19 : Int32 → Int32 → Int32 → Mm → Option (Int32 × Mm)) (y2 : Int32) (y3 : Int32) (y4 : Int32) (C : Mm) : Option (Int32 × Mm) :=
    lt' (y4 + 1) fun x1 =>
    k19 y2 y3 x1 C
def fX3_numberFor_b88 (n : Nat) (j1 : Nat) (k19 : Int32 → Int32 → Int32 → Mm → Option (Int32 × Mm)) (y2 : Int32) (y4 : Int32) (s0 : Int32) (C : Mm) : Option (Int32 × Mm) :=
    fX3_numberFor_b100 n j1 k19 y2 s0 y4 C
def fX3_numberFor_b53 (n : Nat) (j1 : Nat) (k19 : Int32 → Int32 → Int32 → Mm → Option (Int32 × Mm)) (y2 : Int32) (y4 : Int32) (s0 : Int32) (C : Mm) : Option (Int32 × Mm) :=
    fX3_numberFor_b100 n j1 k19 y2 s0 y4 C
def fX3_numberFor_h19 (n : Nat) (j1 : Nat) : Nat → Int32 → Int32 → Int32 → Mm → Option (Int32 × Mm)
  | 0, _, _, _, _ => none
  | fu + 1, y2, y3, y4, C =>
    if (C.1 32 1) ≤ y4 then
    (some (0, C))
    else
    (if y4 < (0 : Int32) ∨ 128 ≤ Int32.toNatClampNeg y4 then none else
    lt' (C.1 33 (Int32.toNatClampNeg y4)) fun x4 =>
    if y3 = 0 then
    (if x4 = (-59) then
    (bp' (fX3_pop C) fun r16 C17 =>
    some (r16, C17))
    else
    (if x4 = (-63) then
    (bp' (fX3_pop C) fun r11 C12 =>
    if r11 = 0 then
    (fX3_numberFor_b88 n j1 (fX3_numberFor_h19 n j1 fu) y2 y4 1 C12)
    else
    (fX3_numberFor_b88 n j1 (fX3_numberFor_h19 n j1 fu) y2 y4 0 C12))
    else
    (Option.bind (fX3_workOut n j1 x4 y2 C) fun C9 =>
    fX3_numberFor_b100 n j1 (fX3_numberFor_h19 n j1 fu) y2 y3 y4 C9)))
    else
    (if x4 = (-59) then
    (fX3_numberFor_b53 n j1 (fX3_numberFor_h19 n j1 fu) y2 y4 0 C)
    else
    (fX3_numberFor_b53 n j1 (fX3_numberFor_h19 n j1 fu) y2 y4 1 C)))
def fX3_numberFor (n : Nat) (j1 : Nat) (p2 : Int32) (C : Mm) : Option (Int32 × Mm) :=
    if (C.1 32 1) = 0 then
    (some (1, C))
    else
    (lt' (wrI C 32 5 0) fun C21 =>
    fX3_numberFor_h19 n j1 n p2 0 0 C21)
def fX4_longTenTo (p0 : Int32) : Option Int64 :=
    if p0 < 0 then
    (some 1)
    else
    (if p0 < 19 then
    (if p0 < (0 : Int32) ∨ 19 ≤ Int32.toNatClampNeg p0 then none else
    some (stv3 (Int32.toNatClampNeg p0)))
    else
    (some 1))
def fX5_mayBe (p0 : Int32) (p1 : Int32) : Option Int32 :=
    if p0 < 0 then
    (some 0)
    else
    (if 5 ≤ p0 then
    (some 0)
    else
    (if p0 < (0 : Int32) ∨ 5 ≤ Int32.toNatClampNeg p0 then none else
    if p1 < (stv1 (Int32.toNatClampNeg p0)) then
    (some 0)
    else
    (if p0 < (0 : Int32) ∨ 5 ≤ Int32.toNatClampNeg p0 then none else
    if (stv2 (Int32.toNatClampNeg p0)) < p1 then
    (some 0)
    else
    (some 1))))
def fX9_at (p1 : Int32) (C : Mm) : Option Int32 :=
    if p1 < 0 then
    (some (-1))
    else
    (if (C.1 1 1) ≤ p1 then
    (some (-1))
    else
    (if p1 < (0 : Int32) ∨ 120 ≤ Int32.toNatClampNeg p1 then none else
    some (C.1 2 (Int32.toNatClampNeg p1))))
def fX5_digitsAt_h2 (n : Nat) : Nat → Int32 → Int32 → Mm → Option Int32
  | 0, _, _, _ => none
  | fu + 1, y1, y2, C =>
    if 2 ≤ y2 then
    (some y2)
    else
    (Option.bind (fX9_at (y1 + y2) C) fun r3 =>
    if (fX4_isDigit r3) = 0 then
    (some y2)
    else
    (lt' (y2 + 1) fun x8 =>
    fX5_digitsAt_h2 n fu y1 x8 C))
def fX5_digitsAt (n : Nat) (p1 : Int32) (C : Mm) : Option Int32 :=
    fX5_digitsAt_h2 n n p1 0 C
def fX5_valueAt_h5 (n : Nat) : Nat → Int32 → Int32 → Int32 → Int32 → Mm → Option Int32
  | 0, _, _, _, _, _ => none
  | fu + 1, y1, y2, y3, y4, C =>
    if y2 ≤ y4 then
    (some y3)
    else
    (Option.bind (fX9_at (y1 + y4) C) fun r3 =>
    lt' (((y3 * 10) + r3) - 48) fun x5 =>
    lt' (y4 + 1) fun x6 =>
    fX5_valueAt_h5 n fu y1 y2 x5 x6 C)
def fX5_valueAt (n : Nat) (p1 : Int32) (p2 : Int32) (C : Mm) : Option Int32 :=
    fX5_valueAt_h5 n n p1 p2 0 0 C
def fX9_length (C : Mm) : Int32 :=
    C.1 1 1
def fX5_read_h9 (n : Nat) (j0 : Nat) : Nat → Int32 → Int32 → Mm → Option (Int32 × Mm)
  | 0, _, _, _ => none
  | fu + 1, y2, y3, C =>
    if 5 ≤ y3 then
    (if y2 = (fX9_length C) then
    (some ((-1), C))
    else
    (some (y2, C)))
    else
    (Option.bind (fX9_at y2 C) fun r6 =>
    if y3 < (0 : Int32) ∨ 5 ≤ Int32.toNatClampNeg y3 then none else
    if r6 = (stv0 (Int32.toNatClampNeg y3)) then
    (lt' (y2 + 1) fun x10 =>
    Option.bind (fX5_digitsAt n x10 C) fun r12 =>
    Option.bind (fX5_valueAt n x10 r12 C) fun r15 =>
    if r12 = 0 then
    (some (x10, C))
    else
    (Option.bind (fX5_mayBe y3 r15) fun r19 =>
    if r19 = 0 then
    (some (x10, C))
    else
    (if y3 < (0 : Int32) ∨ 5 ≤ Int32.toNatClampNeg y3 then none else
    lt' (wrI C (hdn j0) (Int32.toNatClampNeg y3) r15) fun C23 =>
    lt' (x10 + r12) fun x24 =>
    lt' (y3 + 1) fun x25 =>
    fX5_read_h9 n j0 fu x24 x25 C23)))
    else
    (some (y2, C)))
def fX5_read (n : Nat) (j0 : Nat) (C : Mm) : Option (Int32 × Mm) :=
    lt' (wrI C (hdc j0) 3 0) fun C26 =>
    fX5_read_h9 n j0 n 0 0 C26
def fX5_become (j0 : Nat) (j1 : Nat) (C : Mm) : Option Mm :=
    if 0 < (0 : Int32) ∨ 0 < (0 : Int32) ∨ 5 < (0 : Int32) ∨ 5 < (Int32.toNatClampNeg 0) + (Int32.toNatClampNeg 5) ∨ 5 < (Int32.toNatClampNeg 0) + (Int32.toNatClampNeg 5) then none else
    lt' (cpI C (hdn j1) (Int32.toNatClampNeg 0) (hdn j0) (Int32.toNatClampNeg 0) (Int32.toNatClampNeg 5)) fun C2 =>
    if 0 < (0 : Int32) ∨ 0 < (0 : Int32) ∨ (C2.1 (hdc j1) 3) < (0 : Int32) ∨ 60 < (Int32.toNatClampNeg 0) + (Int32.toNatClampNeg (C2.1 (hdc j1) 3)) ∨ 60 < (Int32.toNatClampNeg 0) + (Int32.toNatClampNeg (C2.1 (hdc j1) 3)) then none else
    lt' (cpI C2 (hdp j1) (Int32.toNatClampNeg 0) (hdp j0) (Int32.toNatClampNeg 0) (Int32.toNatClampNeg (C2.1 (hdc j1) 3))) fun C4 =>
    if 0 < (0 : Int32) ∨ 0 < (0 : Int32) ∨ (C4.1 (hdc j1) 3) < (0 : Int32) ∨ 60 < (Int32.toNatClampNeg 0) + (Int32.toNatClampNeg (C4.1 (hdc j1) 3)) ∨ 60 < (Int32.toNatClampNeg 0) + (Int32.toNatClampNeg (C4.1 (hdc j1) 3)) then none else
    lt' (cpI C4 (hdk j1) (Int32.toNatClampNeg 0) (hdk j0) (Int32.toNatClampNeg 0) (Int32.toNatClampNeg (C4.1 (hdc j1) 3))) fun C6 =>
    lt' (wrI C6 (hdc j0) 3 (C6.1 (hdc j1) 3)) fun C7 =>
    some C7
def fX5_learntCount_b25 (n : Nat) (j0 : Nat) (k4 : Int32 → Int32 → Mm → Option Int32) (y1 : Int32) (y2 : Int32) (C : Mm) : Option Int32 :=
    lt' (y2 + 1) fun x1 =>
    k4 y1 x1 C
def fX5_learntCount_h4 (n : Nat) (j0 : Nat) : Nat → Int32 → Int32 → Mm → Option Int32
  | 0, _, _, _ => none
  | fu + 1, y1, y2, C =>
    if (C.1 (hdc j0) 3) ≤ y2 then
    (some y1)
    else
    (if y2 < (0 : Int32) ∨ 60 ≤ Int32.toNatClampNeg y2 then none else
    if (C.1 (hdk j0) (Int32.toNatClampNeg y2)) < 3 then
    (fX5_learntCount_b25 n j0 (fX5_learntCount_h4 n j0 fu) y1 y2 C)
    else
    (lt' (y1 + 1) fun x5 =>
    fX5_learntCount_b25 n j0 (fX5_learntCount_h4 n j0 fu) x5 y2 C))
def fX5_learntCount (n : Nat) (j0 : Nat) (C : Mm) : Option Int32 :=
    fX5_learntCount_h4 n j0 n 0 0 C
def fX10_canBeTaught (p0 : Int32) : Int32 :=
    if 99 < (p0 / 10000) then
    (0)
    else
    (if 99 < (irm p0 10000) then
    (0)
    else
    (1))
def fX5_hear_b53 (n : Nat) (j0 : Nat) (y2 : Int32) (C : Mm) : Option (Int32 × Mm) :=
    if y2 < (0 : Int32) ∨ 60 ≤ Int32.toNatClampNeg y2 then none else
    if y2 < (0 : Int32) ∨ 60 ≤ Int32.toNatClampNeg y2 then none else
    lt' (wrI C (hdk j0) (Int32.toNatClampNeg y2) ((C.1 (hdk j0) (Int32.toNatClampNeg y2)) + 1)) fun C3 =>
    if y2 < (0 : Int32) ∨ 60 ≤ Int32.toNatClampNeg y2 then none else
    some (C3.1 (hdk j0) (Int32.toNatClampNeg y2), C3)
def fX5_hear (n : Nat) (j0 : Nat) (p1 : Int32) (C : Mm) : Option (Int32 × Mm) :=
    Option.bind (fX5_placeOf n j0 p1 C) fun r6 =>
    if (fX10_canBeTaught p1) = 0 then
    (some (0, C))
    else
    (if r6 < 60 then
    (if r6 = (C.1 (hdc j0) 3) then
    (if r6 < (0 : Int32) ∨ 60 ≤ Int32.toNatClampNeg r6 then none else
    lt' (wrI C (hdp j0) (Int32.toNatClampNeg r6) p1) fun C14 =>
    if r6 < (0 : Int32) ∨ 60 ≤ Int32.toNatClampNeg r6 then none else
    lt' (wrI C14 (hdk j0) (Int32.toNatClampNeg r6) 0) fun C16 =>
    lt' (wrI C16 (hdc j0) 3 ((C16.1 (hdc j0) 3) + 1)) fun C17 =>
    fX5_hear_b53 n j0 r6 C17)
    else
    (fX5_hear_b53 n j0 r6 C))
    else
    (some (0, C)))
def fX6_isNumber (p0 : Int64) : Int32 :=
    if (lg_cmp p0 1) < 0 then
    (0)
    else
    (if 0 < (lg_cmp p0 999999999999999999) then
    (0)
    else
    (1))
def fX6_isPower (p0 : Int32) : Int32 :=
    if p0 = 2 then
    (1)
    else
    (if p0 = 3 then
    (1)
    else
    (if p0 = 5 then
    (1)
    else
    (0)))
def fX6_mostRoot (p0 : Int32) : Int64 :=
    if p0 = 2 then
    (1000000000)
    else
    (if p0 = 3 then
    (1000000)
    else
    (3982))
def fX6_raised_h5 (n : Nat) : Nat → Int64 → Int32 → Int64 → Int32 → Option Int64
  | 0, _, _, _, _ => none
  | fu + 1, y0, y2, y3, y5 =>
    if y2 ≤ y5 then
    (some y3)
    else
    (lt' (y3 * y0) fun x2 =>
    lt' (y5 + 1) fun x3 =>
    fX6_raised_h5 n fu y0 y2 x2 x3)
def fX6_raised (n : Nat) (p0 : Int64) (p2 : Int32) : Option Int64 :=
    fX6_raised_h5 n n p0 p2 1 0
def fX6_cutRoot_b60 (n : Nat) (k11 : Int64 → Int32 → Int64 → Int64 → Int32 → Option Int64) (y0 : Int64) (y2 : Int32) (y3 : Int64) (y5 : Int64) (y7 : Int32) : Option Int64 :=
    lt' (y7 + 1) fun x1 =>
    k11 y0 y2 y3 y5 x1
def fX6_cutRoot_h11 (n : Nat) : Nat → Int64 → Int32 → Int64 → Int64 → Int32 → Option Int64
  | 0, _, _, _, _, _ => none
  | fu + 1, y0, y2, y3, y5, y7 =>
    if 40 ≤ y7 then
    (some y3)
    else
    (if 0 ≤ (lg_cmp y3 y5) then
    (some y3)
    else
    (lt' (((y3 + y5) + 1) / 2) fun x4 =>
    Option.bind (fX6_raised n x4 y2) fun r6 =>
    if 0 < (lg_cmp r6 y0) then
    (lt' (x4 - 1) fun x8 =>
    fX6_cutRoot_b60 n (fX6_cutRoot_h11 n fu) y0 y2 y3 x8 y7)
    else
    (fX6_cutRoot_b60 n (fX6_cutRoot_h11 n fu) y0 y2 x4 y5 y7)))
def fX6_cutRoot (n : Nat) (p0 : Int64) (p2 : Int32) : Option Int64 :=
    lt' (fX6_mostRoot p2) fun x10 =>
    fX6_cutRoot_h11 n n p0 p2 0 x10 0
def fX6_whole (n : Nat) (p0 : Int64) (p2 : Int32) : Option Int64 :=
    Option.bind (fX6_cutRoot n p0 p2) fun r2 =>
    Option.bind (fX6_raised n r2 p2) fun r4 =>
    if (lg_cmp r4 p0) = 0 then
    (some r2)
    else
    (some 0)
def fX6_unitOf (n : Nat) (p0 : Int64) (p2 : Int32) : Option Int64 :=
    Option.bind (fX4_sizeOf n p0) fun r2 =>
    Option.bind (fX4_longTenTo (r2 - p2)) fun r5 =>
    some r5
def fX6_leastWithFirsts (n : Nat) (p0 : Int64) (p2 : Int32) : Option Int64 :=
    Option.bind (fX6_unitOf n p0 p2) fun r2 =>
    if 0 ≤ (lg_cmp r2 1) then
    (if r2 = 0 then none else
    some ((p0 / r2) * r2))
    else
    (some p0)
def fX6_fromRoot (n : Nat) (p0 : Int64) (p2 : Int32) (p3 : Int32) : Option Int64 :=
    Option.bind (fX6_leastWithFirsts n p0 p3) fun r2 =>
    Option.bind (fX6_cutRoot n (r2 - 1) p2) fun r4 =>
    some (r4 + 1)
def fX6_toRoot (n : Nat) (p0 : Int64) (p2 : Int32) (p3 : Int32) : Option Int64 :=
    Option.bind (fX6_leastWithFirsts n p0 p3) fun r2 =>
    Option.bind (fX6_unitOf n p0 p3) fun r4 =>
    Option.bind (fX6_cutRoot n ((r2 + r4) - 1) p2) fun r6 =>
    some r6
def fX6_endsAlike (n : Nat) (p0 : Int64) (p2 : Int32) (p3 : Int64) : Option Int32 :=
    Option.bind (fX6_raised n (lrm p0 10) p2) fun r2 =>
    if (lg_cmp (lrm r2 10) (lrm p3 10)) = 0 then
    (some 1)
    else
    (some 0)
def fX6_howMany_b69 (n : Nat) (k23 : Int64 → Int32 → Int64 → Int64 → Int64 → Int64 → Option Int64) (y0 : Int64) (y2 : Int32) (y4 : Int64) (y6 : Int64) (y8 : Int64) (y10 : Int64) : Option Int64 :=
    lt' (y10 + 1) fun x1 =>
    k23 y0 y2 y4 y6 y8 x1
def fX6_howMany_h23 (n : Nat) : Nat → Int64 → Int32 → Int64 → Int64 → Int64 → Int64 → Option Int64
  | 0, _, _, _, _, _, _ => none
  | fu + 1, y0, y2, y4, y6, y8, y10 =>
    if 0 ≤ (lg_cmp y10 (y4 + 10)) then
    (some y8)
    else
    (if 0 < (lg_cmp y10 y6) then
    (some y8)
    else
    (Option.bind (fX6_endsAlike n y10 y2 y0) fun r5 =>
    if r5 = 0 then
    (fX6_howMany_b69 n (fX6_howMany_h23 n fu) y0 y2 y4 y6 y8 y10)
    else
    (lt' (y8 + (((y6 - y10) / 10) + 1)) fun x8 =>
    fX6_howMany_b69 n (fX6_howMany_h23 n fu) y0 y2 y4 y6 x8 y10)))
def fX6_howMany (n : Nat) (p0 : Int64) (p2 : Int32) (p3 : Int32) : Option Int64 :=
    Option.bind (fX6_fromRoot n p0 p2 p3) fun r10 =>
    Option.bind (fX6_toRoot n p0 p2 p3) fun r12 =>
    fX6_howMany_h23 n n p0 p2 r10 r12 0 r10
def fX6_least_h20 (n : Nat) : Nat → Int64 → Int32 → Int64 → Int64 → Int64 → Option Int64
  | 0, _, _, _, _, _ => none
  | fu + 1, y0, y2, y4, y6, y8 =>
    if 0 ≤ (lg_cmp y8 (y4 + 10)) then
    (some 0)
    else
    (if 0 < (lg_cmp y8 y6) then
    (some 0)
    else
    (Option.bind (fX6_endsAlike n y8 y2 y0) fun r4 =>
    if r4 = 0 then
    (lt' (y8 + 1) fun x7 =>
    fX6_least_h20 n fu y0 y2 y4 y6 x7)
    else
    (some y8)))
def fX6_least (n : Nat) (p0 : Int64) (p2 : Int32) (p3 : Int32) : Option Int64 :=
    Option.bind (fX6_fromRoot n p0 p2 p3) fun r9 =>
    Option.bind (fX6_toRoot n p0 p2 p3) fun r11 =>
    fX6_least_h20 n n p0 p2 r9 r11 r9
def fX7_mayBe (p0 : Int32) (p1 : Int32) : Int32 :=
    if p0 < 0 then
    (0)
    else
    (if 9999 < p0 then
    (0)
    else
    (if p1 < (-999999999) then
    (0)
    else
    (if 999999999 < p1 then
    (0)
    else
    (1))))
def fX7_size (C : Mm) : Int32 :=
    C.1 43 3
def fX7_has (p1 : Int32) (C : Mm) : Int32 :=
    if p1 < 0 then
    (0)
    else
    (if (C.1 43 3) ≤ p1 then
    (0)
    else
    (1))
def fX7_takes (p1 : Int32) (p2 : Int32) (p3 : Int32) (C : Mm) : Option (Int32 × Mm) :=
    if (C.1 43 3) < 40 then
    (if (C.1 43 3) < (0 : Int32) ∨ 40 ≤ Int32.toNatClampNeg (C.1 43 3) then none else
    lt' (wrI C 44 (Int32.toNatClampNeg (C.1 43 3)) p1) fun C3 =>
    if (C3.1 43 3) < (0 : Int32) ∨ 40 ≤ Int32.toNatClampNeg (C3.1 43 3) then none else
    lt' (wrI C3 45 (Int32.toNatClampNeg (C3.1 43 3)) p2) fun C5 =>
    if (C5.1 43 3) < (0 : Int32) ∨ 40 ≤ Int32.toNatClampNeg (C5.1 43 3) then none else
    lt' (wrI C5 46 (Int32.toNatClampNeg (C5.1 43 3)) p3) fun C7 =>
    lt' (wrI C7 43 3 ((C7.1 43 3) + 1)) fun C8 =>
    some (1, C8))
    else
    (some (0, C))
def fX7_pair (p1 : Int32) (C : Mm) : Option Int32 :=
    if (fX7_has p1 C) = 0 then
    (some 0)
    else
    (if p1 < (0 : Int32) ∨ 40 ≤ Int32.toNatClampNeg p1 then none else
    some (C.1 44 (Int32.toNatClampNeg p1)))
def fX7_tenths (p1 : Int32) (C : Mm) : Option Int32 :=
    if (fX7_has p1 C) = 0 then
    (some 0)
    else
    (if p1 < (0 : Int32) ∨ 40 ≤ Int32.toNatClampNeg p1 then none else
    some (C.1 45 (Int32.toNatClampNeg p1)))
def fX7_answerOf (p1 : Int32) (C : Mm) : Option Int32 :=
    if (fX7_has p1 C) = 0 then
    (some 0)
    else
    (if p1 < (0 : Int32) ∨ 40 ≤ Int32.toNatClampNeg p1 then none else
    some (C.1 46 (Int32.toNatClampNeg p1)))
def fX8_isSort (p0 : Int32) : Int32 :=
    if p0 < 0 then
    (0)
    else
    (if 5 ≤ p0 then
    (0)
    else
    (1))
def fX8_isEmpty (j0 : Nat) (C : Mm) : Int32 :=
    if (C.1 (shc j0) 0) = (-1) then
    (if (C.1 (shc j0) 1) = (-1) then
    (1)
    else
    (0))
    else
    (0)
def fX8_holdsRow (j0 : Nat) (C : Mm) : Int32 :=
    if (C.1 (shc j0) 1) = (-1) then
    (0)
    else
    (1)
def fX8_holdsInts (j0 : Nat) (C : Mm) : Int32 :=
    if (C.1 (shc j0) 1) = 2 then
    (1)
    else
    (0)
def fX8_bodyHeld (j0 : Nat) (C : Mm) : Int32 :=
    C.1 (shc j0) 0
def fX8_sort (j0 : Nat) (C : Mm) : Int32 :=
    C.1 (shc j0) 1
def fX8_size (j0 : Nat) (C : Mm) : Int32 :=
    C.1 (shc j0) 2
def fX8_holdBody (j0 : Nat) (p1 : Int32) (C : Mm) : Mm :=
    lt' (wrI C (shc j0) 0 p1) fun C1 =>
    lt' (wrI C1 (shc j0) 1 (-1)) fun C2 =>
    lt' (wrI C2 (shc j0) 2 0) fun C3 =>
    C3
def fX8_holdRow_h26 (n : Nat) (j0 : Nat) : Nat → Int32 → Mm → Option Mm
  | 0, _, _ => none
  | fu + 1, y3, C =>
    if 60 ≤ y3 then
    (some C)
    else
    (if y3 < (0 : Int32) ∨ 60 ≤ Int32.toNatClampNeg y3 then none else
    lt' (wrL C (she j0) (Int32.toNatClampNeg y3) 0) fun C3 =>
    lt' (y3 + 1) fun x4 =>
    fX8_holdRow_h26 n j0 fu x4 C3)
def fX8_holdRow (n : Nat) (j0 : Nat) (p1 : Int32) (p2 : Int32) (C : Mm) : Option Mm :=
    lt' (wrI C (shc j0) 0 (-1)) fun C5 =>
    lt' (wrI C5 (shc j0) 1 p1) fun C6 =>
    lt' (wrI C6 (shc j0) 2 (imax 0 (imin p2 60))) fun C7 =>
    fX8_holdRow_h26 n j0 n 0 C7
def fX8_hasPlaces (j0 : Nat) (p1 : Int32) (p2 : Int32) (C : Mm) : Int32 :=
    if p1 < 0 then
    (0)
    else
    (if p2 < 0 then
    (0)
    else
    (if 0 < (lg_cmp ((Int32.toInt64 p1) + (Int32.toInt64 p2)) (Int32.toInt64 (C.1 (shc j0) 2))) then
    (0)
    else
    (1)))
def fX8_elementAt (j0 : Nat) (p1 : Int32) (C : Mm) : Option Int64 :=
    if (fX8_hasPlaces j0 p1 1 C) = 0 then
    (some 0)
    else
    (if p1 < (0 : Int32) ∨ 60 ≤ Int32.toNatClampNeg p1 then none else
    some (C.2 (she j0) (Int32.toNatClampNeg p1)))
def fX8_setElement_b102 (j0 : Nat) (s0 : Int64) (s1 : Int32) (C : Mm) : Option Mm :=
    if s1 < (0 : Int32) ∨ 60 ≤ Int32.toNatClampNeg s1 then none else
    lt' (wrL C (she j0) (Int32.toNatClampNeg s1) s0) fun C2 =>
    some C2
def fX8_setElement (j0 : Nat) (p1 : Int32) (p2 : Int64) (C : Mm) : Option Mm :=
    if (fX8_hasPlaces j0 p1 1 C) = 0 then
    (some C)
    else
    (if (C.1 (shc j0) 1) = 0 then
    (if p1 < (0 : Int32) ∨ 60 ≤ Int32.toNatClampNeg p1 then none else
    lt' (wrL C (she j0) (Int32.toNatClampNeg p1) (Int32.toInt64 (Int8.toInt32 (Int32.toInt8 (Int64.toInt32 p2))))) fun C8 =>
    some C8)
    else
    (if (C.1 (shc j0) 1) = 1 then
    (if p1 < (0 : Int32) ∨ 60 ≤ Int32.toNatClampNeg p1 then none else
    lt' (wrL C (she j0) (Int32.toNatClampNeg p1) (Int32.toInt64 (Int16.toInt32 (Int32.toInt16 (Int64.toInt32 p2))))) fun C11 =>
    some C11)
    else
    (if (C.1 (shc j0) 1) = 2 then
    (if p1 < (0 : Int32) ∨ 60 ≤ Int32.toNatClampNeg p1 then none else
    lt' (wrL C (she j0) (Int32.toNatClampNeg p1) (Int32.toInt64 (Int64.toInt32 p2))) fun C14 =>
    some C14)
    else
    (if (C.1 (shc j0) 1) = 4 then
    (if (lg_cmp p2 0) = 0 then
    (fX8_setElement_b102 j0 0 p1 C)
    else
    (fX8_setElement_b102 j0 1 p1 C))
    else
    (if p1 < (0 : Int32) ∨ 60 ≤ Int32.toNatClampNeg p1 then none else
    lt' (wrL C (she j0) (Int32.toNatClampNeg p1) p2) fun C18 =>
    some C18)))))
def fX8_copyFrom (j0 : Nat) (j1 : Nat) (p2 : Int32) (p3 : Int32) (p4 : Int32) (C : Mm) : Option Mm :=
    if (fX8_hasPlaces j1 p2 p4 C) = 0 then
    (some C)
    else
    (if (fX8_hasPlaces j0 p3 p4 C) = 0 then
    (some C)
    else
    (if p2 < (0 : Int32) ∨ p3 < (0 : Int32) ∨ p4 < (0 : Int32) ∨ 60 < (Int32.toNatClampNeg p2) + (Int32.toNatClampNeg p4) ∨ 60 < (Int32.toNatClampNeg p3) + (Int32.toNatClampNeg p4) then none else
    lt' (cpL C (she j1) (Int32.toNatClampNeg p2) (she j0) (Int32.toNatClampNeg p3) (Int32.toNatClampNeg p4)) fun C8 =>
    some C8))
def fX9_clear (C : Mm) : Mm :=
    lt' (wrI C 1 1 0) fun C1 =>
    C1
def fX9_takes_h15 (n : Nat) : Nat → Int32 → Int32 → Int32 → Mm → Option (Int32 × Mm)
  | 0, _, _, _, _ => none
  | fu + 1, y1, y2, y3, C =>
    if y1 ≤ y3 then
    (some (1, C))
    else
    (if (C.1 1 1) < (0 : Int32) ∨ 120 ≤ Int32.toNatClampNeg (C.1 1 1) then none else
    lt' (wrI C 2 (Int32.toNatClampNeg (C.1 1 1)) ((iush y2 (8 * y3)) &&& 255)) fun C3 =>
    lt' (wrI C3 1 1 ((C3.1 1 1) + 1)) fun C4 =>
    lt' (y3 + 1) fun x5 =>
    fX9_takes_h15 n fu y1 y2 x5 C4)
def fX9_takes (n : Nat) (p1 : Int32) (p2 : Int32) (C : Mm) : Option (Int32 × Mm) :=
    if ((C.1 1 1) + p1) ≤ 120 then
    (fX9_takes_h15 n n p1 p2 0 C)
    else
    (some (0, C))
def fX10_feed (n : Nat) (p1 : Int32) (p2 : Int32) (C : Mm) : Option (Int32 × Mm) :=
    if p1 < 1 then
    (some ((-1), C))
    else
    (if p1 ≤ 4 then
    (bp' (fX9_takes n p1 p2 C) fun r4 C5 =>
    if r4 = 0 then
    (some ((-3), C5))
    else
    (some (fX9_length C5, C5)))
    else
    (some ((-1), C)))
def fX10_head (n : Nat) (C : Mm) : Option (Int32 × Mm) :=
    if (C.1 0 2) < 6 then
    (bp' (fX5_read n 6 C) fun r3 C4 =>
    lt' (fX9_clear C4) fun C7 =>
    if r3 < 0 then
    (if (C7.1 0 2) < (0 : Int32) ∨ 6 ≤ Int32.toNatClampNeg (C7.1 0 2) then none else
    Option.bind (fX5_become (Int32.toNatClampNeg (C7.1 0 2)) 6 C7) fun C12 =>
    lt' (wrI C12 0 2 ((C12.1 0 2) + 1)) fun C13 =>
    some ((C13.1 0 2) - 1, C13))
    else
    (some ((-100) - r3, C7)))
    else
    (some ((-3), C))
def fX10_isHead (p1 : Int32) (C : Mm) : Int32 :=
    if p1 < 0 then
    (0)
    else
    (if (C.1 0 2) ≤ p1 then
    (0)
    else
    (1))
def fX10_of (n : Nat) (p1 : Int32) (p2 : Int32) (C : Mm) : Option Int32 :=
    if (fX10_isHead p1 C) = 0 then
    (some (-1))
    else
    (if p2 < 0 then
    (some (-1))
    else
    (if p2 ≤ 5 then
    (if p2 = 5 then
    (if p1 < (0 : Int32) ∨ 6 ≤ Int32.toNatClampNeg p1 then none else
    Option.bind (fX5_learntCount n (Int32.toNatClampNeg p1) C) fun r15 =>
    some r15)
    else
    (if p1 < (0 : Int32) ∨ 6 ≤ Int32.toNatClampNeg p1 then none else
    Option.bind (fX5_number (Int32.toNatClampNeg p1) p2 C) fun r10 =>
    some r10))
    else
    (some (-1))))
def fX10_turn (p1 : Int32) (p2 : Int32) (p3 : Int32) (C : Mm) : Option (Int32 × Mm) :=
    if (fX10_isHead p1 C) = 0 then
    (some ((-1), C))
    else
    (Option.bind (fX5_mayBe p2 p3) fun r5 =>
    if r5 = 0 then
    (some ((-1), C))
    else
    (if p1 < (0 : Int32) ∨ 6 ≤ Int32.toNatClampNeg p1 then none else
    Option.bind (fX5_number (Int32.toNatClampNeg p1) p2 C) fun r11 =>
    if r11 = p3 then
    (some (r11, C))
    else
    (Option.bind (fX2_came p1 p2 r11 p3 C) fun C15 =>
    if p1 < (0 : Int32) ∨ 6 ≤ Int32.toNatClampNeg p1 then none else
    Option.bind (fX5_setNumber (Int32.toNatClampNeg p1) p2 p3 C15) fun C19 =>
    some (r11, C19))))
def fX10_choice (n : Nat) (C : Mm) : Option (Int32 × Mm) :=
    bp' (fX3_read n C) fun r2 C3 =>
    lt' (fX9_clear C3) fun C6 =>
    if r2 < 0 then
    (some (1, C6))
    else
    (some ((-100) - r2, C6))
def fX10_isHeadAndWay (p1 : Int32) (C : Mm) : Int32 :=
    if p1 < 0 then
    (0)
    else
    (if (C.1 0 2) ≤ (p1 / 10) then
    (0)
    else
    (if 7 ≤ (irm p1 10) then
    (0)
    else
    (1)))
def fX10_isNumber (p0 : Int32) : Int32 :=
    if p0 < 1 then
    (0)
    else
    (if 9999 < p0 then
    (0)
    else
    (1))
def fX10_isPair (p0 : Int32) : Int32 :=
    if (fX10_isNumber (p0 / 10000)) = 0 then
    (0)
    else
    (if (fX10_isNumber (irm p0 10000)) = 0 then
    (0)
    else
    (1))
def fX10_way (n : Nat) (p1 : Int32) (p2 : Int32) (p3 : Int32) (C : Mm) : Option (Int32 × Mm) :=
    if (fX10_isHeadAndWay p1 C) = 0 then
    (some ((-1), C))
    else
    (if (fX10_isPair p2) = 0 then
    (some ((-1), C))
    else
    (if p3 < 0 then
    (some ((-1), C))
    else
    (if p3 ≤ 2 then
    (if (p1 / 10) < (0 : Int32) ∨ 6 ≤ Int32.toNatClampNeg (p1 / 10) then none else
    bp' (fX0_reckon n (Int32.toNatClampNeg (p1 / 10)) (irm p1 10) p2 C) fun r12 C13 =>
    if r12 = 0 then
    (some ((-2), C13))
    else
    (if p3 = 0 then
    (some (fX0_seconds C13, C13))
    else
    (if p3 = 1 then
    (some (fX0_holds C13, C13))
    else
    (some (fX0_size C13, C13)))))
    else
    (some ((-1), C)))))
def fX10_step (n : Nat) (p1 : Int32) (p2 : Int32) (p3 : Int32) (p4 : Int32) (C : Mm) : Option (Int32 × Mm) :=
    if (fX10_isHeadAndWay p1 C) = 0 then
    (some ((-2000000000), C))
    else
    (if (fX10_isPair p2) = 0 then
    (some ((-2000000000), C))
    else
    (if p4 < 0 then
    (some ((-2000000000), C))
    else
    (if p4 ≤ 3 then
    (if (p1 / 10) < (0 : Int32) ∨ 6 ≤ Int32.toNatClampNeg (p1 / 10) then none else
    bp' (fX0_reckon n (Int32.toNatClampNeg (p1 / 10)) (irm p1 10) p2 C) fun r12 C13 =>
    if r12 = 0 then
    (some ((-2000000000), C13))
    else
    (if p3 < 0 then
    (some ((-2000000000), C13))
    else
    (if p3 < (fX0_size C13) then
    (Option.bind (fX0_told p3 p4 C13) fun r21 =>
    some (r21, C13))
    else
    (some ((-2000000000), C13)))))
    else
    (some ((-2000000000), C)))))
def fX10_reckonChosen (n : Nat) (j1 : Nat) (p2 : Int32) (C : Mm) : Option (Int32 × Mm) :=
    bp' (fX3_numberFor n j1 p2 C) fun r2 C3 =>
    bp' (fX0_reckon n j1 r2 p2 C3) fun r6 C7 =>
    if r6 = 0 then
    (bp' (fX0_reckon n j1 1 p2 C7) fun r11 C12 =>
    some (1, C12))
    else
    (some (r2, C7))
def fX10_chosen (n : Nat) (p1 : Int32) (p2 : Int32) (C : Mm) : Option (Int32 × Mm) :=
    if (fX10_isHead p1 C) = 0 then
    (some ((-1), C))
    else
    (if (fX10_isPair p2) = 0 then
    (some ((-1), C))
    else
    (if p1 < (0 : Int32) ∨ 6 ≤ Int32.toNatClampNeg p1 then none else
    bp' (fX10_reckonChosen n (Int32.toNatClampNeg p1) p2 C) fun r10 C11 =>
    some (r10, C11)))
def fX10_productOf (p0 : Int32) : Int32 :=
    (p0 / 10000) * (irm p0 10000)
def fX10_answer (n : Nat) (p1 : Int32) (p2 : Int32) (p3 : Int32) (C : Mm) : Option (Int32 × Mm) :=
    if (fX10_isHeadAndWay p1 C) = 0 then
    (some ((-2000000000), C))
    else
    (if (fX10_isPair p2) = 0 then
    (some ((-2000000000), C))
    else
    (if (p1 / 10) < (0 : Int32) ∨ 6 ≤ Int32.toNatClampNeg (p1 / 10) then none else
    bp' (fX0_reckon n (Int32.toNatClampNeg (p1 / 10)) (irm p1 10) p2 C) fun r10 C11 =>
    if r10 = 0 then
    (some ((-2000000000), C11))
    else
    (Option.bind (fX5_capacity (Int32.toNatClampNeg (p1 / 10)) C11) fun r17 =>
    Option.bind (fX0_slipsDrawn n p3 r17 C11) fun r20 =>
    some ((fX10_productOf p2) + r20, C11))))
def fX10_quickest_b107 (n : Nat) (k38 : Int32 → Int32 → Int32 → Int32 → Int32 → Int32 → Mm → Option (Int32 × Mm)) (y1 : Int32) (y2 : Int32) (y3 : Int32) (y4 : Int32) (y5 : Int32) (y6 : Int32) (C : Mm) : Option (Int32 × Mm) :=
    lt' (y6 + 1) fun x1 =>
    k38 y1 y2 y3 y4 y5 x1 C
def fX10_quickest_b94 (n : Nat) (k38 : Int32 → Int32 → Int32 → Int32 → Int32 → Int32 → Mm → Option (Int32 × Mm)) (y1 : Int32) (y2 : Int32) (y3 : Int32) (y6 : Int32) (C : Mm) : Option (Int32 × Mm) :=
    lt' (fX0_seconds C) fun x4 =>
    fX10_quickest_b107 n k38 y1 y2 y3 y6 x4 y6 C
def fX10_quickest_h38 (n : Nat) : Nat → Int32 → Int32 → Int32 → Int32 → Int32 → Int32 → Mm → Option (Int32 × Mm)
  | 0, _, _, _, _, _, _, _ => none
  | fu + 1, y1, y2, y3, y4, y5, y6, C =>
    if 7 ≤ y6 then
    (some (y4, C))
    else
    (if y1 < (0 : Int32) ∨ 6 ≤ Int32.toNatClampNeg y1 then none else
    bp' (fX0_reckon n (Int32.toNatClampNeg y1) y6 y2 C) fun r9 C10 =>
    if r9 = 0 then
    (fX10_quickest_b107 n (fX10_quickest_h38 n fu) y1 y2 y3 y4 y5 y6 C10)
    else
    (if y3 < (fX0_holds C10) then
    (fX10_quickest_b107 n (fX10_quickest_h38 n fu) y1 y2 y3 y4 y5 y6 C10)
    else
    (if y4 = (-2) then
    (fX10_quickest_b94 n (fX10_quickest_h38 n fu) y1 y2 y3 y6 C10)
    else
    (if y5 ≤ (fX0_seconds C10) then
    (fX10_quickest_b107 n (fX10_quickest_h38 n fu) y1 y2 y3 y4 y5 y6 C10)
    else
    (fX10_quickest_b94 n (fX10_quickest_h38 n fu) y1 y2 y3 y6 C10)))))
def fX10_quickest (n : Nat) (p1 : Int32) (p2 : Int32) (p3 : Int32) (C : Mm) : Option (Int32 × Mm) :=
    if (fX10_isHead p1 C) = 0 then
    (some ((-1), C))
    else
    (if (fX10_isPair p2) = 0 then
    (some ((-1), C))
    else
    (if p3 < 1 then
    (some ((-1), C))
    else
    (if p3 ≤ 99 then
    (fX10_quickest_h38 n n p1 p2 p3 (-2) 0 0 C)
    else
    (some ((-1), C)))))
def fX10_table_h34 (n : Nat) : Nat → Int32 → Int32 → Int32 → Mm → Option (Int32 × Mm)
  | 0, _, _, _, _ => none
  | fu + 1, y2, y3, y4, C =>
    if 99 < y4 then
    (some ((-2), C))
    else
    (Option.bind (fX5_setNumber 6 3 y4 C) fun C3 =>
    bp' (fX10_reckonChosen n 6 y2 C3) fun r5 C6 =>
    if y3 < (fX0_seconds C6) then
    (lt' (y4 + 1) fun x11 =>
    fX10_table_h34 n fu y2 y3 x11 C6)
    else
    (some (y4, C6)))
def fX10_table (n : Nat) (p1 : Int32) (p2 : Int32) (p3 : Int32) (C : Mm) : Option (Int32 × Mm) :=
    if (fX10_isHead p1 C) = 0 then
    (some ((-1), C))
    else
    (if (fX10_isPair p2) = 0 then
    (some ((-1), C))
    else
    (if p1 < (0 : Int32) ∨ 6 ≤ Int32.toNatClampNeg p1 then none else
    Option.bind (fX5_become 6 (Int32.toNatClampNeg p1) C) fun C21 =>
    fX10_table_h34 n n p2 p3 9 C21))
def fX10_see (p1 : Int32) (p2 : Int32) (p3 : Int32) (C : Mm) : Option (Int32 × Mm) :=
    if (fX10_isPair p1) = 0 then
    (some ((-1), C))
    else
    (if (fX7_mayBe p2 p3) = 0 then
    (some ((-1), C))
    else
    (bp' (fX7_takes p1 p2 p3 C) fun r8 C9 =>
    if r8 = 0 then
    (some ((-3), C9))
    else
    (some ((fX7_size C9) - 1, C9))))
def fX10_isShelf (p0 : Int32) : Int32 :=
    if p0 < 0 then
    (0)
    else
    (if 6 ≤ p0 then
    (0)
    else
    (1))
def fX10_comesFrom (j1 : Nat) (p2 : Int64) (C : Mm) : Option (Int32 × Mm) :=
    if (lg_cmp p2 0) < 0 then
    (some (0, C))
    else
    (if (lg_cmp (p2 + 3) (Int32.toInt64 (fX8_size j1 C))) < 0 then
    (lt' (Int64.toInt32 p2) fun x5 =>
    Option.bind (fX8_elementAt j1 x5 C) fun r7 =>
    lt' (Int64.toInt32 r7) fun x8 =>
    Option.bind (fX8_elementAt j1 (x5 + 1) C) fun r10 =>
    lt' (Int64.toInt32 r10) fun x11 =>
    Option.bind (fX8_elementAt j1 (x5 + 2) C) fun r13 =>
    lt' (Int64.toInt32 r13) fun x14 =>
    Option.bind (fX8_elementAt j1 (x5 + 3) C) fun r16 =>
    lt' (Int64.toInt32 r16) fun x17 =>
    if (fX10_isNumber x8) = 0 then
    (some (0, C))
    else
    (if (fX10_isNumber x11) = 0 then
    (some (0, C))
    else
    (if (fX7_mayBe x14 x17) = 0 then
    (some (0, C))
    else
    (bp' (fX7_takes ((x8 * 10000) + x11) x14 x17 C) fun r28 C29 =>
    if r28 = 0 then
    (some (0, C29))
    else
    (some (1, C29))))))
    else
    (some (0, C)))
def fX10_asks_h52 (n : Nat) : Nat → Int32 → Int32 → Nat → Int32 → Mm → Option (Int32 × Mm)
  | 0, _, _, _, _, _ => none
  | fu + 1, y2, y3, jy4, y5, C =>
    if y3 ≤ y5 then
    (some (y3, C))
    else
    (bp' (fX10_comesFrom jy4 ((Int32.toInt64 y2) + (4 * (Int32.toInt64 y5))) C) fun r3 C4 =>
    if r3 = 0 then
    (some (y5, C4))
    else
    (lt' (y5 + 1) fun x7 =>
    fX10_asks_h52 n fu y2 y3 jy4 x7 C4))
def fX10_asks (n : Nat) (p1 : Int32) (p2 : Int32) (p3 : Int32) (C : Mm) : Option (Int32 × Mm) :=
    if (fX10_isShelf p1) = 0 then
    (some ((-1), C))
    else
    (if p3 < 1 then
    (some ((-1), C))
    else
    (if p3 ≤ 15 then
    (if p1 < (0 : Int32) ∨ 6 ≤ Int32.toNatClampNeg p1 then none else
    if (fX8_isEmpty (Int32.toNatClampNeg p1) C) = 0 then
    (if (fX8_holdsInts (Int32.toNatClampNeg p1) C) = 0 then
    (some ((-12), C))
    else
    (fX10_asks_h52 n n p2 p3 (Int32.toNatClampNeg p1) 0 C))
    else
    (some (0, C)))
    else
    (some ((-1), C))))
def fX10_offOf (p1 : Int32) (C : Mm) : Option Int32 :=
    Option.bind (fX7_answerOf p1 C) fun r2 =>
    Option.bind (fX7_pair p1 C) fun r5 =>
    some (r2 - (fX10_productOf r5))
def fX10_seen (p1 : Int32) (p2 : Int32) (C : Mm) : Option Int32 :=
    if (fX7_has p1 C) = 0 then
    (some (-2000000000))
    else
    (if p2 = 0 then
    (Option.bind (fX7_pair p1 C) fun r6 =>
    some (r6 / 10000))
    else
    (if p2 = 1 then
    (Option.bind (fX7_pair p1 C) fun r10 =>
    some (irm r10 10000))
    else
    (if p2 = 2 then
    (Option.bind (fX7_tenths p1 C) fun r14 =>
    some r14)
    else
    (if p2 = 3 then
    (Option.bind (fX10_offOf p1 C) fun r18 =>
    some r18)
    else
    (some (-2000000000))))))
def fX10_fitsAll_b70 (n : Nat) (j1 : Nat) (k3 : Int32 → Int32 → Int32 → Mm → Option (Int32 × Mm)) (y2 : Int32) (y3 : Int32) (y4 : Int32) (s0 : Int32) (C : Mm) : Option (Int32 × Mm) :=
    if s0 = 0 then
    (some (0, C))
    else
    (Option.bind (fX7_tenths y4 C) fun r5 =>
    if (iabs ((fX0_seconds C) - r5)) ≤ y3 then
    (lt' (y4 + 1) fun x8 =>
    k3 y2 y3 x8 C)
    else
    (some (0, C)))
def fX10_fitsAll_b65 (n : Nat) (j1 : Nat) (k3 : Int32 → Int32 → Int32 → Mm → Option (Int32 × Mm)) (y2 : Int32) (y3 : Int32) (y4 : Int32) (C : Mm) : Option (Int32 × Mm) :=
    fX10_fitsAll_b70 n j1 k3 y2 y3 y4 1 C
def fX10_fitsAll_h3 (n : Nat) (j1 : Nat) : Nat → Int32 → Int32 → Int32 → Mm → Option (Int32 × Mm)
  | 0, _, _, _, _ => none
  | fu + 1, y2, y3, y4, C =>
    if (fX7_size C) ≤ y4 then
    (some (1, C))
    else
    (Option.bind (fX7_pair y4 C) fun r13 =>
    bp' (fX0_reckon n j1 y2 r13 C) fun r16 C17 =>
    if r16 = 0 then
    (some (0, C17))
    else
    (Option.bind (fX10_offOf y4 C17) fun r21 =>
    if r21 = 0 then
    (fX10_fitsAll_b65 n j1 (fX10_fitsAll_h3 n j1 fu) y2 y3 y4 C17)
    else
    (Option.bind (fX0_firstThatCan n r21 C17) fun r25 =>
    if r25 = (-2) then
    (fX10_fitsAll_b70 n j1 (fX10_fitsAll_h3 n j1 fu) y2 y3 y4 0 C17)
    else
    (fX10_fitsAll_b65 n j1 (fX10_fitsAll_h3 n j1 fu) y2 y3 y4 C17))))
def fX10_fitsAll (n : Nat) (j1 : Nat) (p2 : Int32) (p3 : Int32) (C : Mm) : Option (Int32 × Mm) :=
    fX10_fitsAll_h3 n j1 n p2 p3 0 C
def fX10_fits_b69 (n : Nat) (k39 : Int32 → Int32 → Int32 → Int32 → Mm → Option (Int32 × Mm)) (y1 : Int32) (y2 : Int32) (y3 : Int32) (y4 : Int32) (C : Mm) : Option (Int32 × Mm) :=
    lt' (y4 + 1) fun x1 =>
    k39 y1 y2 y3 x1 C
def fX10_fits_h39 (n : Nat) : Nat → Int32 → Int32 → Int32 → Int32 → Mm → Option (Int32 × Mm)
  | 0, _, _, _, _, _ => none
  | fu + 1, y1, y2, y3, y4, C =>
    if 7 ≤ y4 then
    (some (y3, C))
    else
    (if y1 < (0 : Int32) ∨ 6 ≤ Int32.toNatClampNeg y1 then none else
    bp' (fX10_fitsAll n (Int32.toNatClampNeg y1) y4 y2 C) fun r6 C7 =>
    if r6 = 0 then
    (fX10_fits_b69 n (fX10_fits_h39 n fu) y1 y2 y3 y4 C7)
    else
    (lt' (y3 ||| (1 <<< (y4 &&& 31))) fun x10 =>
    fX10_fits_b69 n (fX10_fits_h39 n fu) y1 y2 x10 y4 C7))
def fX10_fits (n : Nat) (p1 : Int32) (p2 : Int32) (C : Mm) : Option (Int32 × Mm) :=
    if (fX10_isHead p1 C) = 0 then
    (some ((-1), C))
    else
    (if p2 < 0 then
    (some ((-1), C))
    else
    (if p2 ≤ 9999 then
    (if (fX7_size C) = 0 then
    (some ((-5), C))
    else
    (fX10_fits_h39 n n p1 p2 0 0 C))
    else
    (some ((-1), C))))
def fX10_sumOfDifferences_b65 (n : Nat) (j1 : Nat) (k5 : Int32 → Int32 → Int32 → Mm → Option (Int32 × Mm)) (y2 : Int32) (y3 : Int32) (y4 : Int32) (C : Mm) : Option (Int32 × Mm) :=
    Option.bind (fX7_tenths y4 C) fun r4 =>
    lt' (y3 + (iabs ((fX0_seconds C) - r4))) fun x6 =>
    lt' (y4 + 1) fun x7 =>
    k5 y2 x6 x7 C
def fX10_sumOfDifferences_h5 (n : Nat) (j1 : Nat) : Nat → Int32 → Int32 → Int32 → Mm → Option (Int32 × Mm)
  | 0, _, _, _, _ => none
  | fu + 1, y2, y3, y4, C =>
    if (fX7_size C) ≤ y4 then
    (some (y3, C))
    else
    (if y2 = 7 then
    (Option.bind (fX7_pair y4 C) fun r21 =>
    bp' (fX10_reckonChosen n j1 r21 C) fun r24 C25 =>
    fX10_sumOfDifferences_b65 n j1 (fX10_sumOfDifferences_h5 n j1 fu) y2 y3 y4 C25)
    else
    (Option.bind (fX7_pair y4 C) fun r13 =>
    bp' (fX0_reckon n j1 y2 r13 C) fun r16 C17 =>
    if r16 = 0 then
    (some ((-2), C17))
    else
    (fX10_sumOfDifferences_b65 n j1 (fX10_sumOfDifferences_h5 n j1 fu) y2 y3 y4 C17)))
def fX10_sumOfDifferences (n : Nat) (j1 : Nat) (p2 : Int32) (C : Mm) : Option (Int32 × Mm) :=
    fX10_sumOfDifferences_h5 n j1 n p2 0 0 C
def fX10_best_b93 (n : Nat) (k53 : Int32 → Int32 → Int32 → Int32 → Int32 → Mm → Option (Int32 × Mm)) (y1 : Int32) (y2 : Int32) (y3 : Int32) (y4 : Int32) (y5 : Int32) (C : Mm) : Option (Int32 × Mm) :=
    lt' (y5 + (-1)) fun x1 =>
    k53 y1 y2 y3 y4 x1 C
def fX10_best_h53 (n : Nat) : Nat → Int32 → Int32 → Int32 → Int32 → Int32 → Mm → Option (Int32 × Mm)
  | 0, _, _, _, _, _, _ => none
  | fu + 1, y1, y2, y3, y4, y5, C =>
    if y5 < 0 then
    (if y2 = 0 then
    (some (y3, C))
    else
    (some (y4, C)))
    else
    (if y1 < (0 : Int32) ∨ 6 ≤ Int32.toNatClampNeg y1 then none else
    bp' (fX10_sumOfDifferences n (Int32.toNatClampNeg y1) y5 C) fun r7 C8 =>
    if r7 = (-2) then
    (fX10_best_b93 n (fX10_best_h53 n fu) y1 y2 y3 y4 y5 C8)
    else
    (if y4 < r7 then
    (fX10_best_b93 n (fX10_best_h53 n fu) y1 y2 y3 y4 y5 C8)
    else
    (fX10_best_b93 n (fX10_best_h53 n fu) y1 y2 y5 r7 y5 C8)))
def fX10_best (n : Nat) (p1 : Int32) (p2 : Int32) (C : Mm) : Option (Int32 × Mm) :=
    if (fX10_isHead p1 C) = 0 then
    (some ((-1), C))
    else
    (if p2 < 0 then
    (some ((-1), C))
    else
    (if p2 ≤ 1 then
    (if (fX7_size C) = 0 then
    (some ((-5), C))
    else
    (if p1 < (0 : Int32) ∨ 6 ≤ Int32.toNatClampNeg p1 then none else
    bp' (fX10_sumOfDifferences n (Int32.toNatClampNeg p1) 7 C) fun r23 C24 =>
    fX10_best_h53 n n p1 p2 7 r23 6 C24))
    else
    (some ((-1), C))))
def fX10_slip (n : Nat) (p1 : Int32) (p2 : Int32) (p3 : Int32) (C : Mm) : Option (Int32 × Mm) :=
    if (fX10_isHeadAndWay p1 C) = 0 then
    (some ((-1), C))
    else
    (if (fX7_has p2 C) = 0 then
    (some ((-1), C))
    else
    (if p3 < 0 then
    (some ((-1), C))
    else
    (if p3 ≤ 1 then
    (Option.bind (fX10_offOf p2 C) fun r10 =>
    if r10 = 0 then
    (some ((-1), C))
    else
    (if (p1 / 10) < (0 : Int32) ∨ 6 ≤ Int32.toNatClampNeg (p1 / 10) then none else
    Option.bind (fX7_pair p2 C) fun r16 =>
    bp' (fX0_reckon n (Int32.toNatClampNeg (p1 / 10)) (irm p1 10) r16 C) fun r19 C20 =>
    if r19 = 0 then
    (some ((-2), C20))
    else
    (if p3 = 0 then
    (Option.bind (fX0_firstThatCan n r10 C20) fun r28 =>
    some (r28, C20))
    else
    (Option.bind (fX0_howManyCan n r10 C20) fun r25 =>
    some (r25, C20)))))
    else
    (some ((-1), C)))))
def fX10_suits_b106 (n : Nat) (k30 : Int32 → Int32 → Int32 → Int32 → Mm → Option (Int32 × Mm)) (y1 : Int32) (y2 : Int32) (y3 : Int32) (y4 : Int32) (C : Mm) : Option (Int32 × Mm) :=
    lt' (y4 + 1) fun x1 =>
    k30 y1 y2 y3 x1 C
def fX10_suits_h30 (n : Nat) : Nat → Int32 → Int32 → Int32 → Int32 → Mm → Option (Int32 × Mm)
  | 0, _, _, _, _, _ => none
  | fu + 1, y1, y2, y3, y4, C =>
    if y2 ≤ y4 then
    (if y2 = 0 then none else
    some ((y3 * 1000) / y2, C))
    else
    (if y1 < (0 : Int32) ∨ 6 ≤ Int32.toNatClampNeg y1 then none else
    Option.bind (fX7_pair y4 C) fun r7 =>
    bp' (fX0_reckon n (Int32.toNatClampNeg y1) 1 r7 C) fun r10 C11 =>
    lt' ((fX0_seconds C11) / 2) fun x15 =>
    if y1 < (0 : Int32) ∨ 6 ≤ Int32.toNatClampNeg y1 then none else
    Option.bind (fX7_pair y4 C11) fun r19 =>
    bp' (fX10_reckonChosen n (Int32.toNatClampNeg y1) r19 C11) fun r22 C23 =>
    if x15 < (fX0_seconds C23) then
    (fX10_suits_b106 n (fX10_suits_h30 n fu) y1 y2 y3 y4 C23)
    else
    (lt' (y3 + 1) fun x28 =>
    fX10_suits_b106 n (fX10_suits_h30 n fu) y1 y2 x28 y4 C23))
def fX10_suits (n : Nat) (p1 : Int32) (C : Mm) : Option (Int32 × Mm) :=
    if (fX10_isHead p1 C) = 0 then
    (some ((-1), C))
    else
    (lt' (fX7_size C) fun x34 =>
    if x34 = 0 then
    (some ((-5), C))
    else
    (fX10_suits_h30 n n p1 x34 0 0 C))
def fX10_tell (p1 : Int32) (C : Mm) : Option (Int32 × Mm) :=
    if (fX10_isPair p1) = 0 then
    (some ((-1), C))
    else
    (if (C.1 0 8) < 8 then
    (if (C.1 0 8) < (0 : Int32) ∨ 8 ≤ Int32.toNatClampNeg (C.1 0 8) then none else
    lt' (wrI C 47 (Int32.toNatClampNeg (C.1 0 8)) p1) fun C6 =>
    lt' (wrI C6 0 8 ((C6.1 0 8) + 1)) fun C7 =>
    some (C7.1 0 8, C7))
    else
    (some ((-3), C)))
def fX10_untell (C : Mm) : Option (Int32 × Mm) :=
    lt' (C.1 0 8) fun x1 =>
    lt' (wrI C 0 8 0) fun C2 =>
    some (x1, C2)
def fX10_spreadOf_b83 (n : Nat) (j1 : Nat) (k11 : Int32 → Int32 → Int32 → Int32 → Int32 → Mm → Option (Int32 × Mm)) (y2 : Int32) (y3 : Int32) (y4 : Int32) (y5 : Int32) (y6 : Int32) (C : Mm) : Option (Int32 × Mm) :=
    lt' (y6 + 1) fun x1 =>
    k11 y2 y3 y4 y5 x1 C
def fX10_spreadOf_b72 (n : Nat) (j1 : Nat) (k11 : Int32 → Int32 → Int32 → Int32 → Int32 → Mm → Option (Int32 × Mm)) (y2 : Int32) (y3 : Int32) (y5 : Int32) (y6 : Int32) (y7 : Int32) (s0 : Int32) (C : Mm) : Option (Int32 × Mm) :=
    lt' (imax y5 y7) fun x2 =>
    fX10_spreadOf_b83 n j1 k11 y2 y3 s0 x2 y6 C
def fX10_spreadOf_h11 (n : Nat) (j1 : Nat) : Nat → Int32 → Int32 → Int32 → Int32 → Int32 → Mm → Option (Int32 × Mm)
  | 0, _, _, _, _, _, _ => none
  | fu + 1, y2, y3, y4, y5, y6, C =>
    if 7 ≤ y6 then
    (if y4 = (-2) then
    (some ((-2), C))
    else
    (some (y5 - y4, C)))
    else
    (if ((y2 >>> (y6 &&& 31)) &&& 1) = 0 then
    (fX10_spreadOf_b83 n j1 (fX10_spreadOf_h11 n j1 fu) y2 y3 y4 y5 y6 C)
    else
    (bp' (fX0_reckon n j1 y6 y3 C) fun r7 C8 =>
    if r7 = 0 then
    (fX10_spreadOf_b83 n j1 (fX10_spreadOf_h11 n j1 fu) y2 y3 y4 y5 y6 C8)
    else
    (lt' (fX0_seconds C8) fun x13 =>
    if y4 = (-2) then
    (fX10_spreadOf_b72 n j1 (fX10_spreadOf_h11 n j1 fu) y2 y3 y5 y6 x13 x13 C8)
    else
    (fX10_spreadOf_b72 n j1 (fX10_spreadOf_h11 n j1 fu) y2 y3 y5 y6 x13 (imin y4 x13) C8))))
def fX10_spreadOf (n : Nat) (j1 : Nat) (p2 : Int32) (p3 : Int32) (C : Mm) : Option (Int32 × Mm) :=
    fX10_spreadOf_h11 n j1 n p2 p3 (-2) (-2) 0 C
def fX10_parts_b95 (n : Nat) (k51 : Int32 → Int32 → Int32 → Int32 → Int32 → Int32 → Mm → Option (Int32 × Mm)) (y1 : Int32) (y2 : Int32) (y3 : Int32) (y4 : Int32) (y5 : Int32) (y6 : Int32) (C : Mm) : Option (Int32 × Mm) :=
    lt' (y6 + 1) fun x1 =>
    k51 y1 y2 y3 y4 y5 x1 C
def fX10_parts_h51 (n : Nat) : Nat → Int32 → Int32 → Int32 → Int32 → Int32 → Int32 → Mm → Option (Int32 × Mm)
  | 0, _, _, _, _, _, _, _ => none
  | fu + 1, y1, y2, y3, y4, y5, y6, C =>
    if (C.1 0 8) ≤ y6 then
    (if y3 = 0 then
    (some (y4, C))
    else
    (some (y5, C)))
    else
    (if y1 < (0 : Int32) ∨ 6 ≤ Int32.toNatClampNeg y1 then none else
    if y6 < (0 : Int32) ∨ 8 ≤ Int32.toNatClampNeg y6 then none else
    bp' (fX10_spreadOf n (Int32.toNatClampNeg y1) y2 (C.1 47 (Int32.toNatClampNeg y6)) C) fun r8 C9 =>
    if r8 ≤ y5 then
    (fX10_parts_b95 n (fX10_parts_h51 n fu) y1 y2 y3 y4 y5 y6 C9)
    else
    (fX10_parts_b95 n (fX10_parts_h51 n fu) y1 y2 y3 y6 r8 y6 C9))
def fX10_parts (n : Nat) (p1 : Int32) (p2 : Int32) (p3 : Int32) (C : Mm) : Option (Int32 × Mm) :=
    if (fX10_isHead p1 C) = 0 then
    (some ((-1), C))
    else
    (if p2 < 0 then
    (some ((-1), C))
    else
    (if 128 ≤ p2 then
    (some ((-1), C))
    else
    (if p3 < 0 then
    (some ((-1), C))
    else
    (if p3 ≤ 1 then
    (if (C.1 0 8) = 0 then
    (some ((-5), C))
    else
    (fX10_parts_h51 n n p1 p2 p3 (-2) (-2) 0 C))
    else
    (some ((-1), C))))))
def fX10_ask (n : Nat) (p1 : Int32) (p2 : Int32) (C : Mm) : Option (Int32 × Mm) :=
    if (fX10_isHead p1 C) = 0 then
    (some ((-1), C))
    else
    (if (fX10_isPair p2) = 0 then
    (some ((-1), C))
    else
    (if p1 < (0 : Int32) ∨ 6 ≤ Int32.toNatClampNeg p1 then none else
    bp' (fX5_hear n (Int32.toNatClampNeg p1) p2 C) fun r10 C11 =>
    some (r10, C11)))
def fX10_allToldCanBeTaught_h2 (n : Nat) : Nat → Int32 → Mm → Option Int32
  | 0, _, _ => none
  | fu + 1, y1, C =>
    if (C.1 0 8) ≤ y1 then
    (some 1)
    else
    (if y1 < (0 : Int32) ∨ 8 ≤ Int32.toNatClampNeg y1 then none else
    if (fX10_canBeTaught (C.1 47 (Int32.toNatClampNeg y1))) = 0 then
    (some 0)
    else
    (lt' (y1 + 1) fun x6 =>
    fX10_allToldCanBeTaught_h2 n fu x6 C))
def fX10_allToldCanBeTaught (n : Nat) (C : Mm) : Option Int32 :=
    fX10_allToldCanBeTaught_h2 n n 0 C
def fX10_taught_h66 (n : Nat) : Nat → Int32 → Int32 → Int32 → Int32 → Mm → Option (Int32 × Mm)
  | 0, _, _, _, _, _ => none
  | fu + 1, y2, y3, y4, y5, C =>
    if y2 ≤ y5 then
    (if y3 = 0 then
    (some (y4, C))
    else
    (Option.bind (fX5_learntCount n 6 C) fun r4 =>
    some (r4, C)))
    else
    (if (C.1 0 8) = 0 then none else
    if (irm y5 (C.1 0 8)) < (0 : Int32) ∨ 8 ≤ Int32.toNatClampNeg (irm y5 (C.1 0 8)) then none else
    lt' (C.1 47 (Int32.toNatClampNeg (irm y5 (C.1 0 8)))) fun x8 =>
    bp' (fX10_reckonChosen n 6 x8 C) fun r10 C11 =>
    lt' (y4 + (fX0_seconds C11)) fun x15 =>
    bp' (fX5_hear n 6 x8 C11) fun r17 C18 =>
    lt' (y5 + 1) fun x20 =>
    fX10_taught_h66 n fu y2 y3 x15 x20 C18)
def fX10_taught (n : Nat) (p1 : Int32) (p2 : Int32) (p3 : Int32) (C : Mm) : Option (Int32 × Mm) :=
    if (fX10_isHead p1 C) = 0 then
    (some ((-1), C))
    else
    (if p2 < 1 then
    (some ((-1), C))
    else
    (if 50 < p2 then
    (some ((-1), C))
    else
    (if p3 < 0 then
    (some ((-1), C))
    else
    (if 1 < p3 then
    (some ((-1), C))
    else
    (Option.bind (fX10_allToldCanBeTaught n C) fun r29 =>
    if r29 = 0 then
    (some ((-1), C))
    else
    (if (C.1 0 8) = 0 then
    (some ((-5), C))
    else
    (if p1 < (0 : Int32) ∨ 6 ≤ Int32.toNatClampNeg p1 then none else
    Option.bind (fX5_become 6 (Int32.toNatClampNeg p1) C) fun C36 =>
    fX10_taught_h66 n n p2 p3 0 0 C36)))))))
def fX10_prepareOrders_h53 (n : Nat) (j1 : Nat) (k2 : Int32 → Int32 → Mm → Option Mm) : Nat → Int32 → Int32 → Int32 → Mm → Option Mm
  | 0, _, _, _, _ => none
  | fu + 1, y2, y3, y4, C =>
    if 3 ≤ y4 then
    (if y3 < (0 : Int32) ∨ 8 ≤ Int32.toNatClampNeg y3 then none else
    bp' (fX10_reckonChosen n 6 (C.1 47 (Int32.toNatClampNeg y3)) C) fun r4 C5 =>
    if y3 < (0 : Int32) ∨ 5 ≤ Int32.toNatClampNeg y3 then none else
    lt' (wrI C5 49 (Int32.toNatClampNeg y3) (fX0_seconds C5)) fun C10 =>
    lt' (y3 + 1) fun x11 =>
    k2 y2 x11 C10)
    else
    (if y3 < (0 : Int32) ∨ 8 ≤ Int32.toNatClampNeg y3 then none else
    bp' (fX5_hear n 6 (C.1 47 (Int32.toNatClampNeg y3)) C) fun r14 C15 =>
    lt' (y4 + 1) fun x17 =>
    fX10_prepareOrders_h53 n j1 k2 fu y2 y3 x17 C15)
def fX10_prepareOrders_h2 (n : Nat) (j1 : Nat) : Nat → Int32 → Int32 → Mm → Option Mm
  | 0, _, _, _ => none
  | fu + 1, y2, y3, C =>
    if y2 ≤ y3 then
    (some C)
    else
    (if y3 < (0 : Int32) ∨ 5 ≤ Int32.toNatClampNeg y3 then none else
    lt' (wrI C 50 (Int32.toNatClampNeg y3) y3) fun C20 =>
    Option.bind (fX5_become 6 j1 C20) fun C22 =>
    if y3 < (0 : Int32) ∨ 8 ≤ Int32.toNatClampNeg y3 then none else
    bp' (fX10_reckonChosen n 6 (C22.1 47 (Int32.toNatClampNeg y3)) C22) fun r25 C26 =>
    if y3 < (0 : Int32) ∨ 5 ≤ Int32.toNatClampNeg y3 then none else
    lt' (wrI C26 48 (Int32.toNatClampNeg y3) (fX0_seconds C26)) fun C31 =>
    fX10_prepareOrders_h53 n j1 (fX10_prepareOrders_h2 n j1 fu) n y2 y3 0 C31)
def fX10_prepareOrders (n : Nat) (j1 : Nat) (p2 : Int32) (C : Mm) : Option Mm :=
    fX10_prepareOrders_h2 n j1 n p2 0 C
def fX10_orderAsDigits_h4 (n : Nat) : Nat → Int32 → Int32 → Int32 → Mm → Option Int32
  | 0, _, _, _, _ => none
  | fu + 1, y1, y2, y3, C =>
    if y1 ≤ y3 then
    (some y2)
    else
    (if y3 < (0 : Int32) ∨ 5 ≤ Int32.toNatClampNeg y3 then none else
    lt' (((y2 * 10) + (C.1 50 (Int32.toNatClampNeg y3))) + 1) fun x3 =>
    lt' (y3 + 1) fun x4 =>
    fX10_orderAsDigits_h4 n fu y1 x3 x4 C)
def fX10_orderAsDigits (n : Nat) (p1 : Int32) (C : Mm) : Option Int32 :=
    fX10_orderAsDigits_h4 n n p1 0 0 C
def fX10_secondsOfOrder_b85 (n : Nat) (j1 : Nat) (k13 : Int32 → Int32 → Int32 → Mm → Option (Int32 × Mm)) (k31 : Int32 → Int32 → Int32 → Int32 → Int32 → Mm → Option (Int32 × Mm)) (y2 : Int32) (y4 : Int32) (y5 : Int32) (y6 : Int32) (s0 : Int32) (s1 : Int32) (C : Mm) : Option (Int32 × Mm) :=
    lt' (s1 + s0) fun x1 =>
    lt' (y6 + 1) fun x2 =>
    k31 y2 x1 y4 y5 x2 C
def fX10_secondsOfOrder_b60 (n : Nat) (j1 : Nat) (k13 : Int32 → Int32 → Int32 → Mm → Option (Int32 × Mm)) (k31 : Int32 → Int32 → Int32 → Int32 → Int32 → Mm → Option (Int32 × Mm)) (y2 : Int32) (y3 : Int32) (y4 : Int32) (y5 : Int32) (y6 : Int32) (s0 : Int32) (C : Mm) : Option (Int32 × Mm) :=
    if s0 = 0 then
    (if y5 < (0 : Int32) ∨ 5 ≤ Int32.toNatClampNeg y5 then none else
    fX10_secondsOfOrder_b85 n j1 k13 k31 y2 y4 y5 y6 (C.1 48 (Int32.toNatClampNeg y5)) y3 C)
    else
    (if y5 < (0 : Int32) ∨ 5 ≤ Int32.toNatClampNeg y5 then none else
    fX10_secondsOfOrder_b85 n j1 k13 k31 y2 y4 y5 y6 (C.1 49 (Int32.toNatClampNeg y5)) y3 C)
def fX10_secondsOfOrder_h31 (n : Nat) (j1 : Nat) (k13 : Int32 → Int32 → Int32 → Mm → Option (Int32 × Mm)) : Nat → Int32 → Int32 → Int32 → Int32 → Int32 → Mm → Option (Int32 × Mm)
  | 0, _, _, _, _, _, _ => none
  | fu + 1, y2, y3, y4, y5, y6, C =>
    if 3 ≤ y6 then
    (lt' (y4 + 1) fun x7 =>
    k13 y2 y3 x7 C)
    else
    (if y5 < (0 : Int32) ∨ 8 ≤ Int32.toNatClampNeg y5 then none else
    bp' (fX5_hear n 6 (C.1 47 (Int32.toNatClampNeg y5)) C) fun r10 C11 =>
    if r10 ≤ 3 then
    (fX10_secondsOfOrder_b60 n j1 k13 (fX10_secondsOfOrder_h31 n j1 k13 fu) y2 y3 y4 y5 y6 0 C11)
    else
    (fX10_secondsOfOrder_b60 n j1 k13 (fX10_secondsOfOrder_h31 n j1 k13 fu) y2 y3 y4 y5 y6 1 C11))
def fX10_secondsOfOrder_h13 (n : Nat) (j1 : Nat) : Nat → Int32 → Int32 → Int32 → Mm → Option (Int32 × Mm)
  | 0, _, _, _, _ => none
  | fu + 1, y2, y3, y4, C =>
    if y2 ≤ y4 then
    (some (y3, C))
    else
    (if y4 < (0 : Int32) ∨ 5 ≤ Int32.toNatClampNeg y4 then none else
    lt' (C.1 50 (Int32.toNatClampNeg y4)) fun x16 =>
    fX10_secondsOfOrder_h31 n j1 (fX10_secondsOfOrder_h13 n j1 fu) n y2 y3 y4 x16 0 C)
def fX10_secondsOfOrder (n : Nat) (j1 : Nat) (p2 : Int32) (C : Mm) : Option (Int32 × Mm) :=
    Option.bind (fX5_become 6 j1 C) fun C18 =>
    fX10_secondsOfOrder_h13 n j1 n p2 0 0 C18
def fX10_swapPlaces (p1 : Int32) (p2 : Int32) (C : Mm) : Option Mm :=
    if p1 < (0 : Int32) ∨ 5 ≤ Int32.toNatClampNeg p1 then none else
    lt' (C.1 50 (Int32.toNatClampNeg p1)) fun x2 =>
    if p2 < (0 : Int32) ∨ 5 ≤ Int32.toNatClampNeg p2 then none else
    if p1 < (0 : Int32) ∨ 5 ≤ Int32.toNatClampNeg p1 then none else
    lt' (wrI C 50 (Int32.toNatClampNeg p1) (C.1 50 (Int32.toNatClampNeg p2))) fun C5 =>
    if p2 < (0 : Int32) ∨ 5 ≤ Int32.toNatClampNeg p2 then none else
    lt' (wrI C5 50 (Int32.toNatClampNeg p2) x2) fun C7 =>
    some C7
def fX10_nextOrder_h85 (n : Nat) : Nat → Int32 → Int32 → Mm → Option (Int32 × Mm)
  | 0, _, _, _ => none
  | fu + 1, y4, y5, C =>
    if y5 ≤ y4 then
    (some (1, C))
    else
    (Option.bind (fX10_swapPlaces y4 y5 C) fun C3 =>
    lt' (y4 + 1) fun x4 =>
    lt' (y5 + (-1)) fun x5 =>
    fX10_nextOrder_h85 n fu x4 x5 C3)
def fX10_nextOrder_b69 (n : Nat) (y1 : Int32) (y2 : Int32) (y3 : Int32) (C : Mm) : Option (Int32 × Mm) :=
    Option.bind (fX10_swapPlaces y2 y3 C) fun C7 =>
    lt' (y2 + 1) fun x8 =>
    lt' (y1 - 1) fun x9 =>
    fX10_nextOrder_h85 n n x8 x9 C7
def fX10_nextOrder_h41 (n : Nat) : Nat → Int32 → Int32 → Int32 → Mm → Option (Int32 × Mm)
  | 0, _, _, _, _ => none
  | fu + 1, y1, y2, y3, C =>
    if y3 ≤ (y2 + 1) then
    (fX10_nextOrder_b69 n y1 y2 y3 C)
    else
    (if y3 < (0 : Int32) ∨ 5 ≤ Int32.toNatClampNeg y3 then none else
    if y2 < (0 : Int32) ∨ 5 ≤ Int32.toNatClampNeg y2 then none else
    if (C.1 50 (Int32.toNatClampNeg y2)) ≤ (C.1 50 (Int32.toNatClampNeg y3)) then
    (fX10_nextOrder_b69 n y1 y2 y3 C)
    else
    (lt' (y3 + (-1)) fun x14 =>
    fX10_nextOrder_h41 n fu y1 y2 x14 C))
def fX10_nextOrder_b31 (n : Nat) (y1 : Int32) (y2 : Int32) (C : Mm) : Option (Int32 × Mm) :=
    if 0 ≤ y2 then
    (lt' (y1 - 1) fun x16 =>
    fX10_nextOrder_h41 n n y1 y2 x16 C)
    else
    (some (0, C))
def fX10_nextOrder_h4 (n : Nat) : Nat → Int32 → Int32 → Mm → Option (Int32 × Mm)
  | 0, _, _, _ => none
  | fu + 1, y1, y2, C =>
    if y2 < 0 then
    (fX10_nextOrder_b31 n y1 y2 C)
    else
    (if y2 < (0 : Int32) ∨ 5 ≤ Int32.toNatClampNeg y2 then none else
    if (y2 + 1) < (0 : Int32) ∨ 5 ≤ Int32.toNatClampNeg (y2 + 1) then none else
    if (C.1 50 (Int32.toNatClampNeg y2)) ≤ (C.1 50 (Int32.toNatClampNeg (y2 + 1))) then
    (fX10_nextOrder_b31 n y1 y2 C)
    else
    (lt' (y2 + (-1)) fun x21 =>
    fX10_nextOrder_h4 n fu y1 x21 C))
def fX10_nextOrder (n : Nat) (p1 : Int32) (C : Mm) : Option (Int32 × Mm) :=
    lt' (p1 - 2) fun x22 =>
    fX10_nextOrder_h4 n n p1 x22 C
def fX10_first_b131 (n : Nat) (y2 : Int32) (y4 : Int32) (y5 : Int32) (C : Mm) : Option (Int32 × Mm) :=
    if y2 = 0 then
    (some (y4, C))
    else
    (some (y5, C))
def fX10_first_b125 (n : Nat) (k79 : Int32 → Int32 → Int32 → Int32 → Int32 → Int32 → Mm → Option (Int32 × Mm)) (y1 : Int32) (y2 : Int32) (y3 : Int32) (y4 : Int32) (y5 : Int32) (y6 : Int32) (C : Mm) : Option (Int32 × Mm) :=
    lt' (y6 + 1) fun x2 =>
    k79 y1 y2 y3 y4 y5 x2 C
def fX10_first_h79 (n : Nat) : Nat → Int32 → Int32 → Int32 → Int32 → Int32 → Int32 → Mm → Option (Int32 × Mm)
  | 0, _, _, _, _, _, _, _ => none
  | fu + 1, y1, y2, y3, y4, y5, y6, C =>
    if 120 ≤ y6 then
    (fX10_first_b131 n y2 y4 y5 C)
    else
    (bp' (fX10_nextOrder n y3 C) fun r5 C6 =>
    if r5 = 0 then
    (fX10_first_b131 n y2 y4 y5 C6)
    else
    (if y1 < (0 : Int32) ∨ 6 ≤ Int32.toNatClampNeg y1 then none else
    bp' (fX10_secondsOfOrder n (Int32.toNatClampNeg y1) y3 C6) fun r12 C13 =>
    if y5 ≤ r12 then
    (fX10_first_b125 n (fX10_first_h79 n fu) y1 y2 y3 y4 y5 y6 C13)
    else
    (Option.bind (fX10_orderAsDigits n y3 C13) fun r17 =>
    fX10_first_b125 n (fX10_first_h79 n fu) y1 y2 y3 r17 r12 y6 C13)))
def fX10_first (n : Nat) (p1 : Int32) (p2 : Int32) (C : Mm) : Option (Int32 × Mm) :=
    if (fX10_isHead p1 C) = 0 then
    (some ((-1), C))
    else
    (if p2 < 0 then
    (some ((-1), C))
    else
    (if 1 < p2 then
    (some ((-1), C))
    else
    (Option.bind (fX10_allToldCanBeTaught n C) fun r25 =>
    if r25 = 0 then
    (some ((-1), C))
    else
    (if (C.1 0 8) = 0 then
    (some ((-5), C))
    else
    (lt' (imin (C.1 0 8) 5) fun x29 =>
    if p1 < (0 : Int32) ∨ 6 ≤ Int32.toNatClampNeg p1 then none else
    Option.bind (fX10_prepareOrders n (Int32.toNatClampNeg p1) x29 C) fun C33 =>
    Option.bind (fX10_orderAsDigits n x29 C33) fun r35 =>
    if p1 < (0 : Int32) ∨ 6 ≤ Int32.toNatClampNeg p1 then none else
    bp' (fX10_secondsOfOrder n (Int32.toNatClampNeg p1) x29 C33) fun r40 C41 =>
    fX10_first_h79 n n p1 p2 x29 r35 r40 0 C41)))))
def fX10_root (n : Nat) (p1 : Int64) (p3 : Int32) : Option Int32 :=
    if (fX6_isNumber p1) = 0 then
    (some (-1))
    else
    (if (fX6_isPower p3) = 0 then
    (some (-1))
    else
    (Option.bind (fX6_whole n p1 p3) fun r8 =>
    some (Int64.toInt32 r8)))
def fX10_firsts (n : Nat) (p1 : Int64) (p3 : Int32) (p4 : Int32) : Option Int32 :=
    lt' (p3 / 100) fun x1 =>
    lt' (irm p3 100) fun x2 =>
    if (fX6_isNumber p1) = 0 then
    (some (-1))
    else
    (if (fX6_isPower x1) = 0 then
    (some (-1))
    else
    (if x2 < 1 then
    (some (-1))
    else
    (Option.bind (fX4_sizeOf n p1) fun r11 =>
    if x2 ≤ r11 then
    (if p4 = 0 then
    (Option.bind (fX6_howMany n p1 x1 x2) fun r19 =>
    some (Int64.toInt32 r19))
    else
    (if p4 = 1 then
    (Option.bind (fX6_least n p1 x1 x2) fun r17 =>
    some (Int64.toInt32 r17))
    else
    (some (-1))))
    else
    (some (-1)))))
def fX10_enough_h38 (n : Nat) : Nat → Int64 → Int32 → Int32 → Int32 → Option Int32
  | 0, _, _, _, _ => none
  | fu + 1, y1, y3, y4, y5 =>
    if y4 ≤ y5 then
    (some y4)
    else
    (Option.bind (fX6_howMany n y1 y3 y5) fun r3 =>
    if (lg_cmp r3 1) = 0 then
    (some y5)
    else
    (lt' (y5 + 1) fun x5 =>
    fX10_enough_h38 n fu y1 y3 y4 x5))
def fX10_enough (n : Nat) (p1 : Int64) (p3 : Int32) : Option Int32 :=
    if (fX6_isNumber p1) = 0 then
    (some (-1))
    else
    (if (fX6_isPower p3) = 0 then
    (some (-1))
    else
    (Option.bind (fX6_whole n p1 p3) fun r13 =>
    if (lg_cmp r13 0) = 0 then
    (some (-2))
    else
    (Option.bind (fX4_sizeOf n p1) fun r16 =>
    fX10_enough_h38 n n p1 p3 r16 1)))
def fX10_undo (C : Mm) : Option (Int32 × Mm) :=
    if (fX2_undoable C) = 0 then
    (some ((-5), C))
    else
    (Option.bind (fX2_stepBack C) fun C5 =>
    some (fX2_undoable C5, C5))
def fX10_redo (C : Mm) : Option (Int32 × Mm) :=
    if (fX2_redoable C) = 0 then
    (some ((-5), C))
    else
    (Option.bind (fX2_stepOn C) fun C5 =>
    some (fX2_redoable C5, C5))
def fX10_body (p1 : Int32) (C : Mm) : Option (Int32 × Mm) :=
    if (fX1_isKind p1) = 0 then
    (some ((-1), C))
    else
    (bp' (fX1_takes p1 C) fun r5 C6 =>
    if r5 = 0 then
    (some ((-3), C6))
    else
    (some ((fX1_size C6) - 1, C6)))
def fX10_act (n : Nat) (p1 : Int32) (p2 : Int32) (p3 : Int32) (C : Mm) : Option (Int32 × Mm) :=
    bp' (fX1_start n p1 p2 p3 C) fun r2 C3 =>
    some (r2, C3)
def fX10_trace (p1 : Int32) (C : Mm) : Option Int32 :=
    Option.bind (fX1_traced p1 C) fun r2 =>
    some r2
def fX10_keep_b25 (y1 : Int32) (y2 : Int32) (C : Mm) : Option (Int32 × Mm) :=
    if y1 < (0 : Int32) ∨ 6 ≤ Int32.toNatClampNeg y1 then none else
    lt' (fX8_holdBody (Int32.toNatClampNeg y1) y2 C) fun C4 =>
    some (1, C4)
def fX10_keep (p1 : Int32) (p2 : Int32) (C : Mm) : Option (Int32 × Mm) :=
    if (fX10_isShelf p1) = 0 then
    (some ((-1), C))
    else
    (if p2 = (-1) then
    (fX10_keep_b25 p1 p2 C)
    else
    (if (fX1_has p2 C) = 0 then
    (some ((-1), C))
    else
    (fX10_keep_b25 p1 p2 C)))
def fX10_row (n : Nat) (p1 : Int32) (p2 : Int32) (p3 : Int32) (C : Mm) : Option (Int32 × Mm) :=
    if (fX10_isShelf p1) = 0 then
    (some ((-1), C))
    else
    (if (fX8_isSort p2) = 0 then
    (some ((-1), C))
    else
    (if p3 ≤ 60 then
    (if 0 ≤ p3 then
    (if p1 < (0 : Int32) ∨ 6 ≤ Int32.toNatClampNeg p1 then none else
    Option.bind (fX8_holdRow n (Int32.toNatClampNeg p1) p2 p3 C) fun C12 =>
    some (1, C12))
    else
    (some ((-14), C)))
    else
    (some ((-1), C))))
def fX10_refusalAt (p1 : Int32) (p2 : Int32) (C : Mm) : Option Int32 :=
    if (fX10_isShelf p1) = 0 then
    (some (-1))
    else
    (if p1 < (0 : Int32) ∨ 6 ≤ Int32.toNatClampNeg p1 then none else
    if (fX8_isEmpty (Int32.toNatClampNeg p1) C) = 0 then
    (if p1 < (0 : Int32) ∨ 6 ≤ Int32.toNatClampNeg p1 then none else
    if (fX8_holdsRow (Int32.toNatClampNeg p1) C) = 0 then
    (some (-12))
    else
    (if p1 < (0 : Int32) ∨ 6 ≤ Int32.toNatClampNeg p1 then none else
    if (fX8_hasPlaces (Int32.toNatClampNeg p1) p2 1 C) = 0 then
    (some (-13))
    else
    (some 0)))
    else
    (some (-11)))
def fX10_put (p1 : Int32) (p2 : Int32) (p3 : Int64) (C : Mm) : Option (Int32 × Mm) :=
    Option.bind (fX10_refusalAt p1 p2 C) fun r2 =>
    if r2 = 0 then
    (if p1 < (0 : Int32) ∨ 6 ≤ Int32.toNatClampNeg p1 then none else
    Option.bind (fX8_setElement (Int32.toNatClampNeg p1) p2 p3 C) fun C8 =>
    some (1, C8))
    else
    (some (r2, C))
def fX10_element (p1 : Int32) (p2 : Int32) (C : Mm) : Option Int64 :=
    Option.bind (fX10_refusalAt p1 p2 C) fun r2 =>
    if r2 = 0 then
    (if p1 < (0 : Int32) ∨ 6 ≤ Int32.toNatClampNeg p1 then none else
    Option.bind (fX8_elementAt (Int32.toNatClampNeg p1) p2 C) fun r8 =>
    some r8)
    else
    (some (-9223372036854775808))
def fX10_shift (p1 : Int32) (p2 : Int32) (p3 : Int32) (p4 : Int32) (p5 : Int32) (C : Mm) : Option (Int32 × Mm) :=
    if (fX10_isShelf p1) = 0 then
    (some ((-1), C))
    else
    (if (fX10_isShelf p3) = 0 then
    (some ((-1), C))
    else
    (if p1 < (0 : Int32) ∨ 6 ≤ Int32.toNatClampNeg p1 then none else
    if p3 < (0 : Int32) ∨ 6 ≤ Int32.toNatClampNeg p3 then none else
    if (fX8_isEmpty (Int32.toNatClampNeg p1) C) = 0 then
    (if (fX8_isEmpty (Int32.toNatClampNeg p3) C) = 0 then
    (if (fX8_holdsRow (Int32.toNatClampNeg p1) C) = 0 then
    (some ((-12), C))
    else
    (if (fX8_holdsRow (Int32.toNatClampNeg p3) C) = 0 then
    (some ((-12), C))
    else
    (if (fX8_sort (Int32.toNatClampNeg p1) C) = (fX8_sort (Int32.toNatClampNeg p3) C) then
    (if (fX8_hasPlaces (Int32.toNatClampNeg p1) p2 p5 C) = 0 then
    (some ((-13), C))
    else
    (if (fX8_hasPlaces (Int32.toNatClampNeg p3) p4 p5 C) = 0 then
    (some ((-13), C))
    else
    (Option.bind (fX8_copyFrom (Int32.toNatClampNeg p3) (Int32.toNatClampNeg p1) p2 p4 p5 C) fun C35 =>
    some (p5, C35))))
    else
    (some ((-12), C)))))
    else
    (some ((-11), C)))
    else
    (some ((-11), C))))
def fX10_taken (n : Nat) (p1 : Int32) (p2 : Int32) (C : Mm) : Option Int32 :=
    if (fX10_isShelf p1) = 0 then
    (some (-1))
    else
    (if (fX1_isKind p2) = 0 then
    (some (-1))
    else
    (if p1 < (0 : Int32) ∨ 6 ≤ Int32.toNatClampNeg p1 then none else
    if (fX8_isEmpty (Int32.toNatClampNeg p1) C) = 0 then
    (if (fX8_holdsRow (Int32.toNatClampNeg p1) C) = 0 then
    (Option.bind (fX1_kindOf (fX8_bodyHeld (Int32.toNatClampNeg p1) C) C) fun r18 =>
    Option.bind (fX1_isUnder n r18 p2) fun r21 =>
    if r21 = 0 then
    (some (-12))
    else
    (Option.bind (fX1_kindOf (fX8_bodyHeld (Int32.toNatClampNeg p1) C) C) fun r27 =>
    some r27))
    else
    (some (-12)))
    else
    (some (-11))))
def fX10_count (p1 : Int32) (C : Mm) : Int32 :=
    if p1 = 0 then
    (C.1 0 2)
    else
    (if p1 = 1 then
    (fX7_size C)
    else
    (if p1 = 2 then
    (fX9_length C)
    else
    (if p1 = 3 then
    (C.1 0 8)
    else
    (if p1 = 4 then
    (fX2_undoable C)
    else
    (if p1 = 5 then
    (fX1_size C)
    else
    (if p1 = 6 then
    (fX1_ranCount C)
    else
    ((-1))))))))
def fX11_within (p0 : Int64) (p2 : Int64) (p4 : Int64) : Int32 :=
    if (lg_cmp p0 p2) < 0 then
    (0)
    else
    (if 0 < (lg_cmp p0 p4) then
    (0)
    else
    (1))
def fX11_size (p0 : Int32) : Int32 :=
    if 0 ≤ p0 then
    (p0)
    else
    (-p0)
def fX11_becomes_b97 (n : Nat) (y1 : Int32) (y2 : Int32) (y3 : Int32) (C : Mm) : Option (Int32 × Mm) :=
    if (C.1 72 5) < (0 : Int32) ∨ 40 ≤ Int32.toNatClampNeg (C.1 72 5) then none else
    lt' (wrI C 74 (Int32.toNatClampNeg (C.1 72 5)) y1) fun C2 =>
    if (C2.1 72 5) < (0 : Int32) ∨ 40 ≤ Int32.toNatClampNeg (C2.1 72 5) then none else
    lt' (wrI C2 75 (Int32.toNatClampNeg (C2.1 72 5)) y3) fun C4 =>
    if (C4.1 72 5) < (0 : Int32) ∨ 40 ≤ Int32.toNatClampNeg (C4.1 72 5) then none else
    lt' (wrI C4 76 (Int32.toNatClampNeg (C4.1 72 5)) y2) fun C6 =>
    lt' (wrI C6 72 5 ((C6.1 72 5) + 1)) fun C7 =>
    lt' (wrI C7 72 4 (C7.1 72 5)) fun C8 =>
    if y1 < (0 : Int32) ∨ 30 ≤ Int32.toNatClampNeg y1 then none else
    lt' (wrI C8 73 (Int32.toNatClampNeg y1) y2) fun C10 =>
    some (y3, C10)
def fX11_becomes_h26 (n : Nat) : Nat → Int32 → Int32 → Int32 → Int32 → Mm → Option (Int32 × Mm)
  | 0, _, _, _, _, _ => none
  | fu + 1, y1, y2, y3, y4, C =>
    if 40 ≤ y4 then
    (lt' (wrI C 72 5 ((C.1 72 5) - 1)) fun C12 =>
    fX11_becomes_b97 n y1 y2 y3 C12)
    else
    (if y4 < (0 : Int32) ∨ 40 ≤ Int32.toNatClampNeg y4 then none else
    if (y4 - 1) < (0 : Int32) ∨ 40 ≤ Int32.toNatClampNeg (y4 - 1) then none else
    lt' (wrI C 74 (Int32.toNatClampNeg (y4 - 1)) (C.1 74 (Int32.toNatClampNeg y4))) fun C15 =>
    if y4 < (0 : Int32) ∨ 40 ≤ Int32.toNatClampNeg y4 then none else
    if (y4 - 1) < (0 : Int32) ∨ 40 ≤ Int32.toNatClampNeg (y4 - 1) then none else
    lt' (wrI C15 75 (Int32.toNatClampNeg (y4 - 1)) (C15.1 75 (Int32.toNatClampNeg y4))) fun C18 =>
    if y4 < (0 : Int32) ∨ 40 ≤ Int32.toNatClampNeg y4 then none else
    if (y4 - 1) < (0 : Int32) ∨ 40 ≤ Int32.toNatClampNeg (y4 - 1) then none else
    lt' (wrI C18 76 (Int32.toNatClampNeg (y4 - 1)) (C18.1 76 (Int32.toNatClampNeg y4))) fun C21 =>
    lt' (y4 + 1) fun x22 =>
    fX11_becomes_h26 n fu y1 y2 y3 x22 C21)
def fX11_becomes (n : Nat) (p1 : Int32) (p2 : Int32) (C : Mm) : Option (Int32 × Mm) :=
    if p1 < (0 : Int32) ∨ 30 ≤ Int32.toNatClampNeg p1 then none else
    lt' (C.1 73 (Int32.toNatClampNeg p1)) fun x24 =>
    if x24 = p2 then
    (some (x24, C))
    else
    (if (C.1 72 5) = 40 then
    (fX11_becomes_h26 n n p1 p2 x24 1 C)
    else
    (fX11_becomes_b97 n p1 p2 x24 C))
def fX11_undo (C : Mm) : Option (Int32 × Mm) :=
    if (C.1 72 5) = 0 then
    (some ((-5), C))
    else
    (lt' (wrI C 72 5 ((C.1 72 5) - 1)) fun C2 =>
    if (C2.1 72 5) < (0 : Int32) ∨ 40 ≤ Int32.toNatClampNeg (C2.1 72 5) then none else
    if (C2.1 72 5) < (0 : Int32) ∨ 40 ≤ Int32.toNatClampNeg (C2.1 72 5) then none else
    if (C2.1 74 (Int32.toNatClampNeg (C2.1 72 5))) < (0 : Int32) ∨ 30 ≤ Int32.toNatClampNeg (C2.1 74 (Int32.toNatClampNeg (C2.1 72 5))) then none else
    lt' (wrI C2 73 (Int32.toNatClampNeg (C2.1 74 (Int32.toNatClampNeg (C2.1 72 5)))) (C2.1 75 (Int32.toNatClampNeg (C2.1 72 5)))) fun C6 =>
    some (C6.1 72 5, C6))
def fX11_redo (C : Mm) : Option (Int32 × Mm) :=
    if (C.1 72 5) = (C.1 72 4) then
    (some ((-5), C))
    else
    (if (C.1 72 5) < (0 : Int32) ∨ 40 ≤ Int32.toNatClampNeg (C.1 72 5) then none else
    if (C.1 72 5) < (0 : Int32) ∨ 40 ≤ Int32.toNatClampNeg (C.1 72 5) then none else
    if (C.1 74 (Int32.toNatClampNeg (C.1 72 5))) < (0 : Int32) ∨ 30 ≤ Int32.toNatClampNeg (C.1 74 (Int32.toNatClampNeg (C.1 72 5))) then none else
    lt' (wrI C 73 (Int32.toNatClampNeg (C.1 74 (Int32.toNatClampNeg (C.1 72 5)))) (C.1 76 (Int32.toNatClampNeg (C.1 72 5)))) fun C5 =>
    lt' (wrI C5 72 5 ((C5.1 72 5) + 1)) fun C6 =>
    some ((C6.1 72 4) - (C6.1 72 5), C6))
def fX11_feed_h30 (n : Nat) : Nat → Int32 → Int32 → Int32 → Mm → Option (Int32 × Mm)
  | 0, _, _, _, _ => none
  | fu + 1, y1, y2, y3, C =>
    if y1 ≤ y3 then
    (some (C.1 72 7, C))
    else
    (if (C.1 72 7) < (0 : Int32) ∨ 120 ≤ Int32.toNatClampNeg (C.1 72 7) then none else
    lt' (wrI C 77 (Int32.toNatClampNeg (C.1 72 7)) ((y2 >>> ((8 * y3) &&& 31)) &&& 255)) fun C3 =>
    lt' (wrI C3 72 7 ((C3.1 72 7) + 1)) fun C4 =>
    lt' (y3 + 1) fun x5 =>
    fX11_feed_h30 n fu y1 y2 x5 C4)
def fX11_feed (n : Nat) (p1 : Int32) (p2 : Int32) (C : Mm) : Option (Int32 × Mm) :=
    if (fX11_within (Int32.toInt64 p1) 1 4) = 0 then
    (some ((-1), C))
    else
    (if ((C.1 72 7) + p1) ≤ 120 then
    (fX11_feed_h30 n n p1 p2 0 C)
    else
    (some ((-3), C)))
def fX11_byteAt (C : Mm) : Option Int32 :=
    if (C.1 72 12) ≤ (C.1 72 11) then
    (some 0)
    else
    (if 0 ≤ (C.1 72 10) then
    (if ((C.1 72 10) + (C.1 72 11)) < (0 : Int32) ∨ 120 ≤ Int32.toNatClampNeg ((C.1 72 10) + (C.1 72 11)) then none else
    some (C.1 78 (Int32.toNatClampNeg ((C.1 72 10) + (C.1 72 11)))))
    else
    (if (C.1 72 11) < (0 : Int32) ∨ 120 ≤ Int32.toNatClampNeg (C.1 72 11) then none else
    some (C.1 77 (Int32.toNatClampNeg (C.1 72 11)))))
def fX11_wrong_b19 (s0 : Int32) (C : Mm) : Option (Int32 × Mm) :=
    lt' (wrI C 72 13 s0) fun C1 =>
    some (0, C1)
def fX11_wrong (C : Mm) : Option (Int32 × Mm) :=
    if 0 ≤ (C.1 72 13) then
    (fX11_wrong_b19 (C.1 72 13) C)
    else
    (fX11_wrong_b19 (C.1 72 11) C)
def fX11_takes (p1 : Int32) (C : Mm) : Option (Int32 × Mm) :=
    if 0 ≤ (C.1 72 13) then
    (some (0, C))
    else
    (Option.bind (fX11_byteAt C) fun r3 =>
    if r3 = p1 then
    (lt' (wrI C 72 11 ((C.1 72 11) + 1)) fun C6 =>
    some (1, C6))
    else
    (some (0, C)))
def fX11_product_b85 (n : Nat) (z : Mm → Option (Int32 × Mm)) (k10 : Int32 → Int32 → Mm → Option (Int32 × Mm)) (s0 : Int32) (C : Mm) : Option (Int32 × Mm) :=
    Option.bind (fX11_byteAt C) fun r2 =>
    k10 s0 r2 C
def fX11_product_b35 (n : Nat) (z : Mm → Option (Int32 × Mm)) (k10 : Int32 → Int32 → Mm → Option (Int32 × Mm)) (y1 : Int32) (y2 : Int32) (C : Mm) : Option (Int32 × Mm) :=
    lt' (wrI C 72 11 ((C.1 72 11) + 1)) fun C4 =>
    bp' (z C4) fun r6 C7 =>
    if y2 = 42 then
    (fX11_product_b85 n z k10 (y1 * r6) C7)
    else
    (if r6 = 0 then
    (fX11_product_b85 n z k10 0 C7)
    else
    (if y2 = 47 then
    (if r6 = 0 then none else
    fX11_product_b85 n z k10 (y1 / r6) C7)
    else
    (if r6 = 0 then none else
    fX11_product_b85 n z k10 (irm y1 r6) C7)))
def fX11_product_h10 (n : Nat) (z : Mm → Option (Int32 × Mm)) : Nat → Int32 → Int32 → Mm → Option (Int32 × Mm)
  | 0, _, _, _ => none
  | fu + 1, y1, y2, C =>
    if 0 ≤ (C.1 72 13) then
    (some (y1, C))
    else
    (if y2 = 42 then
    (fX11_product_b35 n z (fX11_product_h10 n z fu) y1 y2 C)
    else
    (if y2 = 47 then
    (fX11_product_b35 n z (fX11_product_h10 n z fu) y1 y2 C)
    else
    (if y2 = 37 then
    (fX11_product_b35 n z (fX11_product_h10 n z fu) y1 y2 C)
    else
    (some (y1, C)))))
def fX11_product (n : Nat) (z : Mm → Option (Int32 × Mm)) (C : Mm) : Option (Int32 × Mm) :=
    bp' (z C) fun r19 C20 =>
    Option.bind (fX11_byteAt C20) fun r23 =>
    fX11_product_h10 n z n r19 r23 C20
def fX11_sums_b73 (n : Nat) (z : Mm → Option (Int32 × Mm)) (k5 : Int32 → Mm → Option (Int32 × Mm)) (s0 : Int32) (C : Mm) : Option (Int32 × Mm) :=
    k5 s0 C
def fX11_sums_b44 (n : Nat) (z : Mm → Option (Int32 × Mm)) (k5 : Int32 → Mm → Option (Int32 × Mm)) (y1 : Int32) (s0 : Int32) (C : Mm) : Option (Int32 × Mm) :=
    lt' (wrI C 72 11 ((C.1 72 11) + 1)) fun C1 =>
    bp' (fX11_product n z C1) fun r3 C4 =>
    if s0 = 0 then
    (fX11_sums_b73 n z k5 (y1 - r3) C4)
    else
    (fX11_sums_b73 n z k5 (y1 + r3) C4)
def fX11_sums_b30 (n : Nat) (z : Mm → Option (Int32 × Mm)) (k5 : Int32 → Mm → Option (Int32 × Mm)) (y1 : Int32) (C : Mm) : Option (Int32 × Mm) :=
    Option.bind (fX11_byteAt C) fun r8 =>
    if r8 = 43 then
    (fX11_sums_b44 n z k5 y1 1 C)
    else
    (fX11_sums_b44 n z k5 y1 0 C)
def fX11_sums_h5 (n : Nat) (z : Mm → Option (Int32 × Mm)) : Nat → Int32 → Mm → Option (Int32 × Mm)
  | 0, _, _ => none
  | fu + 1, y1, C =>
    if 0 ≤ (C.1 72 13) then
    (some (y1, C))
    else
    (Option.bind (fX11_byteAt C) fun r13 =>
    if r13 = 43 then
    (fX11_sums_b30 n z (fX11_sums_h5 n z fu) y1 C)
    else
    (Option.bind (fX11_byteAt C) fun r17 =>
    if r17 = 45 then
    (fX11_sums_b30 n z (fX11_sums_h5 n z fu) y1 C)
    else
    (some (y1, C))))
def fX11_sums (n : Nat) (z : Mm → Option (Int32 × Mm)) (C : Mm) : Option (Int32 × Mm) :=
    bp' (fX11_product n z C) fun r21 C22 =>
    fX11_sums_h5 n z n r21 C22
def fX11_compared_b37 (n : Nat) (z : Mm → Option (Int32 × Mm)) (y1 : Int32) (y2 : Int32) (C : Mm) : Option (Int32 × Mm) :=
    lt' (wrI C 72 11 ((C.1 72 11) + 1)) fun C1 =>
    bp' (fX11_sums n z C1) fun r3 C4 =>
    if y2 = 60 then
    (if r3 ≤ y1 then
    (some (0, C4))
    else
    (some (1, C4)))
    else
    (if y2 = 61 then
    (if y1 = r3 then
    (some (1, C4))
    else
    (some (0, C4)))
    else
    (if y1 ≤ r3 then
    (some (0, C4))
    else
    (some (1, C4))))
def fX11_compared (n : Nat) (z : Mm → Option (Int32 × Mm)) (C : Mm) : Option (Int32 × Mm) :=
    bp' (fX11_sums n z C) fun r12 C13 =>
    Option.bind (fX11_byteAt C13) fun r16 =>
    if 0 ≤ (C13.1 72 13) then
    (some (r12, C13))
    else
    (if r16 = 60 then
    (fX11_compared_b37 n z r12 r16 C13)
    else
    (if r16 = 61 then
    (fX11_compared_b37 n z r12 r16 C13)
    else
    (if r16 = 62 then
    (fX11_compared_b37 n z r12 r16 C13)
    else
    (some (r12, C13)))))
def fX11_both_b32 (n : Nat) (z : Mm → Option (Int32 × Mm)) (k5 : Int32 → Mm → Option (Int32 × Mm)) (s0 : Int32) (C : Mm) : Option (Int32 × Mm) :=
    k5 s0 C
def fX11_both_b31 (n : Nat) (z : Mm → Option (Int32 × Mm)) (k5 : Int32 → Mm → Option (Int32 × Mm)) (C : Mm) : Option (Int32 × Mm) :=
    fX11_both_b32 n z k5 0 C
def fX11_both_h5 (n : Nat) (z : Mm → Option (Int32 × Mm)) : Nat → Int32 → Mm → Option (Int32 × Mm)
  | 0, _, _ => none
  | fu + 1, y1, C =>
    bp' (fX11_takes 38 C) fun r2 C3 =>
    if r2 = 0 then
    (some (y1, C3))
    else
    (bp' (fX11_compared n z C3) fun r7 C8 =>
    if y1 = 0 then
    (fX11_both_b31 n z (fX11_both_h5 n z fu) C8)
    else
    (if r7 = 0 then
    (fX11_both_b31 n z (fX11_both_h5 n z fu) C8)
    else
    (fX11_both_b32 n z (fX11_both_h5 n z fu) 1 C8)))
def fX11_both (n : Nat) (z : Mm → Option (Int32 × Mm)) (C : Mm) : Option (Int32 × Mm) :=
    bp' (fX11_compared n z C) fun r13 C14 =>
    fX11_both_h5 n z n r13 C14
def fX11_either_b32 (n : Nat) (z : Mm → Option (Int32 × Mm)) (k5 : Int32 → Mm → Option (Int32 × Mm)) (s0 : Int32) (C : Mm) : Option (Int32 × Mm) :=
    k5 s0 C
def fX11_either_b27 (n : Nat) (z : Mm → Option (Int32 × Mm)) (k5 : Int32 → Mm → Option (Int32 × Mm)) (C : Mm) : Option (Int32 × Mm) :=
    fX11_either_b32 n z k5 1 C
def fX11_either_h5 (n : Nat) (z : Mm → Option (Int32 × Mm)) : Nat → Int32 → Mm → Option (Int32 × Mm)
  | 0, _, _ => none
  | fu + 1, y1, C =>
    bp' (fX11_takes 124 C) fun r2 C3 =>
    if r2 = 0 then
    (some (y1, C3))
    else
    (bp' (fX11_both n z C3) fun r7 C8 =>
    if y1 = 0 then
    (if r7 = 0 then
    (fX11_either_b32 n z (fX11_either_h5 n z fu) 0 C8)
    else
    (fX11_either_b27 n z (fX11_either_h5 n z fu) C8))
    else
    (fX11_either_b27 n z (fX11_either_h5 n z fu) C8))
def fX11_either (n : Nat) (z : Mm → Option (Int32 × Mm)) (C : Mm) : Option (Int32 × Mm) :=
    bp' (fX11_both n z C) fun r13 C14 =>
    fX11_either_h5 n z n r13 C14
def fX11_nameOf (p0 : Int32) : Int32 :=
    if p0 = 99 then
    (7)
    else
    (if p0 = 100 then
    (4)
    else
    (if p0 = 109 then
    (0)
    else
    (if p0 = 110 then
    (1)
    else
    (if p0 = 116 then
    (6)
    else
    (if p0 = 120 then
    (2)
    else
    (if p0 = 121 then
    (3)
    else
    (if p0 = 122 then
    (5)
    else
    ((-1)))))))))
def fX11_one_b229 (n : Nat) (z : Mm → Option (Int32 × Mm)) (y3 : Int32) (y4 : Int32) (C : Mm) : Option (Int32 × Mm) :=
    if y4 = 0 then
    (bp' (fX11_wrong C) fun r3 C4 =>
    some (r3, C4))
    else
    (some (y3, C))
def fX11_one_h176 (n : Nat) (z : Mm → Option (Int32 × Mm)) : Nat → Int32 → Int32 → Mm → Option (Int32 × Mm)
  | 0, _, _, _ => none
  | fu + 1, y3, y4, C =>
    if 4 ≤ y4 then
    (fX11_one_b229 n z y3 y4 C)
    else
    (Option.bind (fX11_byteAt C) fun r8 =>
    if r8 < 48 then
    (fX11_one_b229 n z y3 y4 C)
    else
    (Option.bind (fX11_byteAt C) fun r12 =>
    if 57 < r12 then
    (fX11_one_b229 n z y3 y4 C)
    else
    (Option.bind (fX11_byteAt C) fun r16 =>
    lt' (((10 * y3) + r16) - 48) fun x18 =>
    lt' (y4 + 1) fun x19 =>
    lt' (wrI C 72 11 ((C.1 72 11) + 1)) fun C20 =>
    fX11_one_h176 n z fu x18 x19 C20)))
def fX11_one_b104 (n : Nat) (z : Mm → Option (Int32 × Mm)) (y1 : Int32) (y2 : Int32) (C : Mm) : Option (Int32 × Mm) :=
    lt' (wrI C 72 14 ((C.1 72 14) - 1)) fun C21 =>
    if y1 = 40 then
    (some (y2, C21))
    else
    (if y1 = 45 then
    (some (-y2, C21))
    else
    (if y2 = 0 then
    (some (1, C21))
    else
    (some (0, C21))))
def fX11_one_b83 (n : Nat) (z : Mm → Option (Int32 × Mm)) (y1 : Int32) (s0 : Int32) (C : Mm) : Option (Int32 × Mm) :=
    if y1 = 40 then
    (bp' (fX11_takes 41 C) fun r27 C28 =>
    if r27 = 0 then
    (bp' (fX11_wrong C28) fun r32 C33 =>
    some (r32, C33))
    else
    (fX11_one_b104 n z y1 s0 C28))
    else
    (fX11_one_b104 n z y1 s0 C)
def fX11_one_b32 (n : Nat) (z : Mm → Option (Int32 × Mm)) (y1 : Int32) (C : Mm) : Option (Int32 × Mm) :=
    if (C.1 72 14) = 6 then
    (bp' (fX11_wrong C) fun r48 C49 =>
    some (r48, C49))
    else
    (lt' (wrI C 72 14 ((C.1 72 14) + 1)) fun C36 =>
    lt' (wrI C36 72 11 ((C36.1 72 11) + 1)) fun C37 =>
    if y1 = 40 then
    (bp' (fX11_either n z C37) fun r44 C45 =>
    fX11_one_b83 n z y1 r44 C45)
    else
    (bp' (z C37) fun r40 C41 =>
    fX11_one_b83 n z y1 r40 C41))
def fX11_one_w (n : Nat) (z : Mm → Option (Int32 × Mm)) (C : Mm) : Option (Int32 × Mm) :=
    if (C.1 72 13) < 0 then
    (Option.bind (fX11_byteAt C) fun r53 =>
    if r53 = 33 then
    (fX11_one_b32 n z r53 C)
    else
    (if r53 = 45 then
    (fX11_one_b32 n z r53 C)
    else
    (if r53 = 40 then
    (fX11_one_b32 n z r53 C)
    else
    (lt' (fX11_nameOf r53) fun x60 =>
    if x60 < 0 then
    (fX11_one_h176 n z n 0 0 C)
    else
    (lt' (wrI C 72 11 ((C.1 72 11) + 1)) fun C62 =>
    if x60 < (0 : Int32) ∨ 8 ≤ Int32.toNatClampNeg x60 then none else
    some (C62.1 79 (Int32.toNatClampNeg x60), C62))))))
    else
    (some (0, C))
def fX11_one (n : Nat) : Nat → Mm → Option (Int32 × Mm)
  | 0, _ => none
  | d + 1, C => fX11_one_w n (fX11_one n d) C
def fX11_workOut_b96 (n : Nat) (k33 : Int32 → Int32 → Int32 → Mm → Option (Int32 × Mm)) (y3 : Int32) (y4 : Int32) (C : Mm) : Option (Int32 × Mm) :=
    bp' (fX11_takes 59 C) fun r2 C3 =>
    k33 y3 y4 r2 C3
def fX11_workOut_b74 (n : Nat) (k33 : Int32 → Int32 → Int32 → Mm → Option (Int32 × Mm)) (y3 : Int32) (y4 : Int32) (y6 : Int32) (y7 : Int32) (C : Mm) : Option (Int32 × Mm) :=
    if 0 ≤ (C.1 72 13) then
    (fX11_workOut_b96 n k33 y3 y4 C)
    else
    (if y7 = 0 then
    (fX11_workOut_b96 n k33 y3 y4 C)
    else
    (if y3 = 0 then
    (fX11_workOut_b96 n k33 1 y6 C)
    else
    (fX11_workOut_b96 n k33 y3 y4 C)))
def fX11_workOut_b66 (n : Nat) (k33 : Int32 → Int32 → Int32 → Mm → Option (Int32 × Mm)) (y3 : Int32) (y4 : Int32) (s0 : Int32) (C : Mm) : Option (Int32 × Mm) :=
    bp' (fX11_either n (fX11_one n 12) C) fun r9 C10 =>
    fX11_workOut_b74 n k33 y3 y4 r9 s0 C10
def fX11_workOut_h33 (n : Nat) : Nat → Int32 → Int32 → Int32 → Mm → Option (Int32 × Mm)
  | 0, _, _, _, _ => none
  | fu + 1, y3, y4, y5, C =>
    if y5 = 0 then
    (if 0 ≤ (C.1 72 13) then
    (some (y4, C))
    else
    (if (C.1 72 12) ≤ (C.1 72 11) then
    (some (y4, C))
    else
    (bp' (fX11_wrong C) fun r16 C17 =>
    some (r16, C17))))
    else
    (bp' (fX11_either n (fX11_one n 12) C) fun r20 C21 =>
    bp' (fX11_takes 63 C21) fun r24 C25 =>
    if r24 = 0 then
    (fX11_workOut_b74 n (fX11_workOut_h33 n fu) y3 y4 r20 1 C25)
    else
    (if r20 = 0 then
    (fX11_workOut_b66 n (fX11_workOut_h33 n fu) y3 y4 0 C25)
    else
    (fX11_workOut_b66 n (fX11_workOut_h33 n fu) y3 y4 1 C25)))
def fX11_workOut (n : Nat) (p1 : Int32) (p2 : Int32) (C : Mm) : Option (Int32 × Mm) :=
    lt' (wrI C 72 10 p1) fun C29 =>
    lt' (wrI C29 72 11 0) fun C30 =>
    lt' (wrI C30 72 12 p2) fun C31 =>
    lt' (wrI C31 72 13 (-1)) fun C32 =>
    lt' (wrI C32 72 14 0) fun C33 =>
    fX11_workOut_h33 n n 0 0 1 C33
def fX11_choice_h37 (n : Nat) : Nat → Int32 → Int32 → Mm → Option (Int32 × Mm)
  | 0, _, _, _ => none
  | fu + 1, y2, y3, C =>
    if y2 ≤ y3 then
    (lt' (wrI C 72 9 y2) fun C2 =>
    some (1, C2))
    else
    (if y3 < (0 : Int32) ∨ 120 ≤ Int32.toNatClampNeg y3 then none else
    if y3 < (0 : Int32) ∨ 120 ≤ Int32.toNatClampNeg y3 then none else
    lt' (wrI C 78 (Int32.toNatClampNeg y3) (C.1 77 (Int32.toNatClampNeg y3))) fun C5 =>
    lt' (y3 + 1) fun x6 =>
    fX11_choice_h37 n fu y2 x6 C5)
def fX11_choice (n : Nat) (C : Mm) : Option (Int32 × Mm) :=
    bp' (fX11_workOut n (-1) (C.1 72 7) C) fun r8 C9 =>
    lt' (C9.1 72 7) fun x11 =>
    lt' (wrI C9 72 7 0) fun C12 =>
    if (C12.1 72 13) < 0 then
    (fX11_choice_h37 n n x11 0 C12)
    else
    (some ((-100) - (C12.1 72 13), C12))
def fX11_isHead (p1 : Int32) (C : Mm) : Int32 :=
    fX11_within (Int32.toInt64 p1) 0 (Int32.toInt64 ((C.1 72 16) - 1))
def fX11_isOf (p0 : Int32) (p1 : Int32) : Int32 :=
    if 3 ≤ p0 then
    (if p0 = 3 then
    (fX11_within (Int32.toInt64 p1) 9 99)
    else
    (fX11_within (Int32.toInt64 p1) 1 40))
    else
    (fX11_within (Int32.toInt64 p1) 0 99)
def fX11_readOne_b84 (n : Nat) (y2 : Int32) (y3 : Int32) (y4 : Int32) (C : Mm) : Option (Int32 × Mm) :=
    if (C.1 72 11) = y3 then
    (bp' (fX11_wrong C) fun r11 C12 =>
    some (r11, C12))
    else
    (if (fX11_isOf y2 y4) = 0 then
    (lt' (wrI C 72 11 y3) fun C5 =>
    bp' (fX11_wrong C5) fun r7 C8 =>
    some (r7, C8))
    else
    (some (y4, C)))
def fX11_readOne_h28 (n : Nat) : Nat → Int32 → Int32 → Int32 → Mm → Option (Int32 × Mm)
  | 0, _, _, _, _ => none
  | fu + 1, y2, y3, y4, C =>
    if (y3 + 2) ≤ (C.1 72 11) then
    (fX11_readOne_b84 n y2 y3 y4 C)
    else
    (Option.bind (fX11_byteAt C) fun r16 =>
    if r16 < 48 then
    (fX11_readOne_b84 n y2 y3 y4 C)
    else
    (Option.bind (fX11_byteAt C) fun r20 =>
    if 57 < r20 then
    (fX11_readOne_b84 n y2 y3 y4 C)
    else
    (Option.bind (fX11_byteAt C) fun r24 =>
    lt' (((10 * y4) + r24) - 48) fun x26 =>
    lt' (wrI C 72 11 ((C.1 72 11) + 1)) fun C27 =>
    fX11_readOne_h28 n fu y2 y3 x26 C27)))
def fX11_readOne_b15 (n : Nat) (C : Mm) : Option (Int32 × Mm) :=
    bp' (fX11_wrong C) fun r29 C30 =>
    some (r29, C30)
def fX11_readOne (n : Nat) (p1 : Int32) (p2 : Int32) (C : Mm) : Option (Int32 × Mm) :=
    if 0 ≤ (C.1 72 13) then
    (fX11_readOne_b15 n C)
    else
    (bp' (fX11_takes p1 C) fun r34 C35 =>
    if r34 = 0 then
    (fX11_readOne_b15 n C35)
    else
    (lt' (C35.1 72 11) fun x38 =>
    fX11_readOne_h28 n n p2 x38 0 C35))
def fX11_head_h145 (n : Nat) : Nat → Int32 → Mm → Option (Int32 × Mm)
  | 0, _, _ => none
  | fu + 1, y1, C =>
    if 5 ≤ y1 then
    (lt' (wrI C 72 16 ((C.1 72 16) + 1)) fun C2 =>
    some ((C2.1 72 16) - 1, C2))
    else
    (if y1 < (0 : Int32) ∨ 5 ≤ Int32.toNatClampNeg y1 then none else
    if ((5 * (C.1 72 16)) + y1) < (0 : Int32) ∨ 30 ≤ Int32.toNatClampNeg ((5 * (C.1 72 16)) + y1) then none else
    lt' (wrI C 73 (Int32.toNatClampNeg ((5 * (C.1 72 16)) + y1)) (C.1 80 (Int32.toNatClampNeg y1))) fun C5 =>
    lt' (y1 + 1) fun x6 =>
    fX11_head_h145 n fu x6 C5)
def fX11_head_b123 (n : Nat) (C : Mm) : Option (Int32 × Mm) :=
    lt' (wrI C 72 7 0) fun C7 =>
    if (C7.1 72 13) < 0 then
    (fX11_head_h145 n n 0 C7)
    else
    (some ((-100) - (C7.1 72 13), C7))
def fX11_head (n : Nat) (C : Mm) : Option (Int32 × Mm) :=
    if (C.1 72 16) = 6 then
    (some ((-3), C))
    else
    (lt' (wrI C 72 10 (-1)) fun C10 =>
    lt' (wrI C10 72 11 0) fun C11 =>
    lt' (wrI C11 72 12 (C11.1 72 7)) fun C12 =>
    lt' (wrI C12 72 13 (-1)) fun C13 =>
    bp' (fX11_readOne n 108 0 C13) fun r15 C16 =>
    if 0 < (0 : Int32) ∨ 5 ≤ Int32.toNatClampNeg 0 then none else
    lt' (wrI C16 80 (Int32.toNatClampNeg 0) r15) fun C19 =>
    bp' (fX11_readOne n 97 1 C19) fun r21 C22 =>
    if 1 < (0 : Int32) ∨ 5 ≤ Int32.toNatClampNeg 1 then none else
    lt' (wrI C22 80 (Int32.toNatClampNeg 1) r21) fun C25 =>
    bp' (fX11_readOne n 104 2 C25) fun r27 C28 =>
    if 2 < (0 : Int32) ∨ 5 ≤ Int32.toNatClampNeg 2 then none else
    lt' (wrI C28 80 (Int32.toNatClampNeg 2) r27) fun C31 =>
    bp' (fX11_readOne n 116 3 C31) fun r33 C34 =>
    if 3 < (0 : Int32) ∨ 5 ≤ Int32.toNatClampNeg 3 then none else
    lt' (wrI C34 80 (Int32.toNatClampNeg 3) r33) fun C37 =>
    bp' (fX11_readOne n 99 4 C37) fun r39 C40 =>
    if 4 < (0 : Int32) ∨ 5 ≤ Int32.toNatClampNeg 4 then none else
    lt' (wrI C40 80 (Int32.toNatClampNeg 4) r39) fun C43 =>
    if 0 ≤ (C43.1 72 13) then
    (fX11_head_b123 n C43)
    else
    (if (C43.1 72 12) ≤ (C43.1 72 11) then
    (fX11_head_b123 n C43)
    else
    (bp' (fX11_wrong C43) fun r47 C48 =>
    fX11_head_b123 n C48)))
def fX11_learntOf_b35 (n : Nat) (k4 : Int32 → Int32 → Int32 → Mm → Option Int32) (y1 : Int32) (y3 : Int32) (s0 : Int32) (s1 : Int32) (C : Mm) : Option Int32 :=
    lt' (s1 + s0) fun x1 =>
    lt' (y3 + 1) fun x2 =>
    k4 y1 x1 x2 C
def fX11_learntOf_h4 (n : Nat) : Nat → Int32 → Int32 → Int32 → Mm → Option Int32
  | 0, _, _, _, _ => none
  | fu + 1, y1, y2, y3, C =>
    if y1 < (0 : Int32) ∨ 6 ≤ Int32.toNatClampNeg y1 then none else
    if (C.1 81 (Int32.toNatClampNeg y1)) ≤ y3 then
    (some y2)
    else
    (if ((60 * y1) + y3) < (0 : Int32) ∨ 360 ≤ Int32.toNatClampNeg ((60 * y1) + y3) then none else
    if (C.1 83 (Int32.toNatClampNeg ((60 * y1) + y3))) < 3 then
    (fX11_learntOf_b35 n (fX11_learntOf_h4 n fu) y1 y3 0 y2 C)
    else
    (fX11_learntOf_b35 n (fX11_learntOf_h4 n fu) y1 y3 1 y2 C))
def fX11_learntOf (n : Nat) (p1 : Int32) (C : Mm) : Option Int32 :=
    fX11_learntOf_h4 n n p1 0 0 C
def fX11_of (n : Nat) (p1 : Int32) (p2 : Int32) (C : Mm) : Option Int32 :=
    if (fX11_isHead p1 C) = 0 then
    (some (-1))
    else
    (if (fX11_within (Int32.toInt64 p2) 0 4) = 0 then
    (if p2 = 5 then
    (Option.bind (fX11_learntOf n p1 C) fun r9 =>
    some r9)
    else
    (some (-1)))
    else
    (if ((5 * p1) + p2) < (0 : Int32) ∨ 30 ≤ Int32.toNatClampNeg ((5 * p1) + p2) then none else
    some (C.1 73 (Int32.toNatClampNeg ((5 * p1) + p2)))))
def fX11_turn (n : Nat) (p1 : Int32) (p2 : Int32) (p3 : Int32) (C : Mm) : Option (Int32 × Mm) :=
    if (fX11_isHead p1 C) = 0 then
    (some ((-1), C))
    else
    (if (fX11_within (Int32.toInt64 p2) 0 4) = 0 then
    (some ((-1), C))
    else
    (if (fX11_isOf p2 p3) = 0 then
    (some ((-1), C))
    else
    (bp' (fX11_becomes n ((5 * p1) + p2) p3 C) fun r11 C12 =>
    some (r11, C12))))
def fX11_isAsk (p0 : Int32) : Int32 :=
    if p0 < 0 then
    (0)
    else
    (if (fX11_within (Int32.toInt64 (p0 / 10000)) 1 9999) = 0 then
    (0)
    else
    (if (fX11_within (Int32.toInt64 (irm p0 10000)) 1 9999) = 0 then
    (0)
    else
    (1)))
def fX11_isSmall (p0 : Int32) : Int32 :=
    if 99 < (p0 / 10000) then
    (0)
    else
    (if 99 < (irm p0 10000) then
    (0)
    else
    (1))
def fX11_asPair (p0 : Int32) : Int32 :=
    lt' (p0 / 10000) fun x1 =>
    lt' (irm p0 10000) fun x2 =>
    if x2 ≤ x1 then
    ((100 * x2) + x1)
    else
    ((100 * x1) + x2)
def fX11_pairAt_h2 (n : Nat) : Nat → Int32 → Int32 → Int32 → Mm → Option Int32
  | 0, _, _, _, _ => none
  | fu + 1, y1, y2, y3, C =>
    if y1 < (0 : Int32) ∨ 6 ≤ Int32.toNatClampNeg y1 then none else
    if (C.1 81 (Int32.toNatClampNeg y1)) ≤ y3 then
    (some (-1))
    else
    (if ((60 * y1) + y3) < (0 : Int32) ∨ 360 ≤ Int32.toNatClampNeg ((60 * y1) + y3) then none else
    if (C.1 82 (Int32.toNatClampNeg ((60 * y1) + y3))) = (fX11_asPair y2) then
    (some y3)
    else
    (lt' (y3 + 1) fun x7 =>
    fX11_pairAt_h2 n fu y1 y2 x7 C))
def fX11_pairAt (n : Nat) (p1 : Int32) (p2 : Int32) (C : Mm) : Option Int32 :=
    fX11_pairAt_h2 n n p1 p2 0 C
def fX11_isLearnt_b17 (n : Nat) (y1 : Int32) (s0 : Int32) (C : Mm) : Option Int32 :=
    if s0 < 0 then
    (some 0)
    else
    (if ((60 * y1) + s0) < (0 : Int32) ∨ 360 ≤ Int32.toNatClampNeg ((60 * y1) + s0) then none else
    if (C.1 83 (Int32.toNatClampNeg ((60 * y1) + s0))) < 3 then
    (some 0)
    else
    (some 1))
def fX11_isLearnt (n : Nat) (p1 : Int32) (p2 : Int32) (C : Mm) : Option Int32 :=
    if (fX11_isSmall p2) = 0 then
    (fX11_isLearnt_b17 n p1 (-1) C)
    else
    (Option.bind (fX11_pairAt n p1 p2 C) fun r8 =>
    fX11_isLearnt_b17 n p1 r8 C)
def fX11_askOf_b81 (n : Nat) (y1 : Int32) (y3 : Int32) (C : Mm) : Option (Int32 × Mm) :=
    if ((60 * y1) + y3) < (0 : Int32) ∨ 360 ≤ Int32.toNatClampNeg ((60 * y1) + y3) then none else
    if ((60 * y1) + y3) < (0 : Int32) ∨ 360 ≤ Int32.toNatClampNeg ((60 * y1) + y3) then none else
    lt' (wrI C 83 (Int32.toNatClampNeg ((60 * y1) + y3)) ((C.1 83 (Int32.toNatClampNeg ((60 * y1) + y3))) + 1)) fun C3 =>
    if ((60 * y1) + y3) < (0 : Int32) ∨ 360 ≤ Int32.toNatClampNeg ((60 * y1) + y3) then none else
    some (C3.1 83 (Int32.toNatClampNeg ((60 * y1) + y3)), C3)
def fX11_askOf_b33 (n : Nat) (y1 : Int32) (y2 : Int32) (y3 : Int32) (C : Mm) : Option (Int32 × Mm) :=
    if 0 ≤ y3 then
    (fX11_askOf_b81 n y1 y3 C)
    else
    (if y1 < (0 : Int32) ∨ 6 ≤ Int32.toNatClampNeg y1 then none else
    lt' (C.1 81 (Int32.toNatClampNeg y1)) fun x7 =>
    if ((60 * y1) + x7) < (0 : Int32) ∨ 360 ≤ Int32.toNatClampNeg ((60 * y1) + x7) then none else
    lt' (wrI C 82 (Int32.toNatClampNeg ((60 * y1) + x7)) (fX11_asPair y2)) fun C11 =>
    if ((60 * y1) + x7) < (0 : Int32) ∨ 360 ≤ Int32.toNatClampNeg ((60 * y1) + x7) then none else
    lt' (wrI C11 83 (Int32.toNatClampNeg ((60 * y1) + x7)) 0) fun C13 =>
    if y1 < (0 : Int32) ∨ 6 ≤ Int32.toNatClampNeg y1 then none else
    if y1 < (0 : Int32) ∨ 6 ≤ Int32.toNatClampNeg y1 then none else
    lt' (wrI C13 81 (Int32.toNatClampNeg y1) ((C13.1 81 (Int32.toNatClampNeg y1)) + 1)) fun C16 =>
    fX11_askOf_b81 n y1 x7 C16)
def fX11_askOf (n : Nat) (p1 : Int32) (p2 : Int32) (C : Mm) : Option (Int32 × Mm) :=
    if (fX11_isSmall p2) = 0 then
    (some (0, C))
    else
    (Option.bind (fX11_pairAt n p1 p2 C) fun r21 =>
    if 0 ≤ r21 then
    (fX11_askOf_b33 n p1 p2 r21 C)
    else
    (if p1 < (0 : Int32) ∨ 6 ≤ Int32.toNatClampNeg p1 then none else
    if (C.1 81 (Int32.toNatClampNeg p1)) = 60 then
    (some (0, C))
    else
    (fX11_askOf_b33 n p1 p2 r21 C)))
def fX11_ask (n : Nat) (p1 : Int32) (p2 : Int32) (C : Mm) : Option (Int32 × Mm) :=
    if (fX11_isHead p1 C) = 0 then
    (some ((-1), C))
    else
    (if (fX11_isAsk p2) = 0 then
    (some ((-1), C))
    else
    (bp' (fX11_askOf n p1 p2 C) fun r8 C9 =>
    some (r8, C9)))
def fX11_digits_h4 (n : Nat) : Nat → Int32 → Int32 → Option Int32
  | 0, _, _ => none
  | fu + 1, y1, y2 =>
    if y2 ≤ 0 then
    (some y1)
    else
    (lt' (y1 + 1) fun x2 =>
    lt' (y2 / 10) fun x3 =>
    fX11_digits_h4 n fu x2 x3)
def fX11_digits (n : Nat) (p0 : Int32) : Option Int32 :=
    fX11_digits_h4 n n 0 p0
def fX11_figure_h4 (n : Nat) : Nat → Int32 → Int32 → Int32 → Option Int32
  | 0, _, _, _ => none
  | fu + 1, y1, y2, y3 =>
    if y1 ≤ y3 then
    (some (irm y2 10))
    else
    (lt' (y2 / 10) fun x2 =>
    lt' (y3 + 1) fun x3 =>
    fX11_figure_h4 n fu y1 x2 x3)
def fX11_figure (n : Nat) (p0 : Int32) (p1 : Int32) : Option Int32 :=
    fX11_figure_h4 n n p1 p0 0
def fX11_tens_h4 (n : Nat) : Nat → Int32 → Int32 → Int32 → Option Int32
  | 0, _, _, _ => none
  | fu + 1, y0, y1, y2 =>
    if y0 ≤ y2 then
    (some y1)
    else
    (lt' (y1 * 10) fun x2 =>
    lt' (y2 + 1) fun x3 =>
    fX11_tens_h4 n fu y0 x2 x3)
def fX11_tens (n : Nat) (p0 : Int32) : Option Int32 :=
    fX11_tens_h4 n n p0 1 0
def fX11_acts_b72 (n : Nat) (y3 : Int32) (y4 : Int32) (y5 : Int32) (s0 : Int32) (s1 : Int32) (C : Mm) : Option Mm :=
    if s1 < (0 : Int32) ∨ 200 ≤ Int32.toNatClampNeg s1 then none else
    lt' (wrI C 86 (Int32.toNatClampNeg s1) s0) fun C2 =>
    Option.bind (fX11_digits n (C2.1 72 29)) fun r4 =>
    if y5 < (0 : Int32) ∨ 200 ≤ Int32.toNatClampNeg y5 then none else
    lt' (wrI C2 87 (Int32.toNatClampNeg y5) ((C2.1 72 28) + r4)) fun C7 =>
    if y5 < (0 : Int32) ∨ 200 ≤ Int32.toNatClampNeg y5 then none else
    lt' (wrI C7 88 (Int32.toNatClampNeg y5) y3) fun C9 =>
    if y5 < (0 : Int32) ∨ 200 ≤ Int32.toNatClampNeg y5 then none else
    lt' (wrI C9 89 (Int32.toNatClampNeg y5) y4) fun C11 =>
    lt' (wrI C11 72 21 ((C11.1 72 21) + 1)) fun C12 =>
    some C12
def fX11_acts_b71 (n : Nat) (y3 : Int32) (y4 : Int32) (y5 : Int32) (s0 : Int32) (s1 : Int32) (s2 : Int32) (C : Mm) : Option Mm :=
    fX11_acts_b72 n y3 y4 y5 (s1 * s0) s2 C
def fX11_acts_b67 (n : Nat) (y2 : Int32) (y3 : Int32) (y4 : Int32) (y5 : Int32) (s0 : Int32) (s1 : Int32) (C : Mm) : Option Mm :=
    Option.bind (fX11_digits n y2) fun r14 =>
    fX11_acts_b71 n y3 y4 y5 r14 s0 s1 C
def fX11_acts (n : Nat) (p1 : Int32) (p2 : Int32) (p3 : Int32) (p4 : Int32) (C : Mm) : Option Mm :=
    lt' (C.1 72 21) fun x16 =>
    if ((5 * (C.1 72 30)) + p1) < (0 : Int32) ∨ 30 ≤ Int32.toNatClampNeg ((5 * (C.1 72 30)) + p1) then none else
    lt' (C.1 73 (Int32.toNatClampNeg ((5 * (C.1 72 30)) + p1))) fun x18 =>
    if x16 < (0 : Int32) ∨ 200 ≤ Int32.toNatClampNeg x16 then none else
    lt' (wrI C 84 (Int32.toNatClampNeg x16) p1) fun C20 =>
    if x16 < (0 : Int32) ∨ 200 ≤ Int32.toNatClampNeg x16 then none else
    lt' (wrI C20 85 (Int32.toNatClampNeg x16) p2) fun C22 =>
    if p1 = 0 then
    (fX11_acts_b72 n p3 p4 x16 x18 x16 C22)
    else
    (if p1 = 2 then
    (if p2 = 0 then
    (fX11_acts_b71 n p3 p4 x16 1 x18 x16 C22)
    else
    (fX11_acts_b67 n p2 p3 p4 x16 x18 x16 C22))
    else
    (fX11_acts_b67 n p2 p3 p4 x16 x18 x16 C22))
def fX11_holds (n : Nat) (C : Mm) : Option Mm :=
    lt' (C.1 72 29) fun x1 =>
    Option.bind (fX11_digits n x1) fun r3 =>
    lt' (wrI C 72 28 ((C.1 72 28) + r3)) fun C5 =>
    lt' (wrI C5 72 29 0) fun C6 =>
    Option.bind (fX11_acts n 2 x1 0 0 C6) fun C8 =>
    some C8
def fX11_lookAndAdd_b35 (n : Nat) (y3 : Int32) (y4 : Int32) (y5 : Int32) (y6 : Int32) (s0 : Int32) (s1 : Int32) (s2 : Int32) (C : Mm) : Option (Int32 × Mm) :=
    Option.bind (fX11_tens n y3) fun r2 =>
    Option.bind (fX11_tens n y5) fun r5 =>
    Option.bind (fX11_acts n s2 s1 ((s0 * r2) * r5) 0 C) fun C8 =>
    if y4 = 0 then
    (lt' (wrI C8 72 29 ((C8.1 72 29) + y6)) fun C10 =>
    Option.bind (fX11_acts n 1 (C10.1 72 29) 0 y5 C10) fun C12 =>
    some (0, C12))
    else
    (some (0, C8))
def fX11_lookAndAdd_b21 (n : Nat) (y1 : Int32) (y2 : Int32) (y3 : Int32) (y4 : Int32) (y5 : Int32) (y6 : Int32) (C : Mm) : Option (Int32 × Mm) :=
    if y2 ≤ y1 then
    (fX11_lookAndAdd_b35 n y3 y4 y5 y6 y2 y6 0 C)
    else
    (fX11_lookAndAdd_b35 n y3 y4 y5 y6 y1 y6 0 C)
def fX11_lookAndAdd (n : Nat) (p1 : Int32) (p2 : Int32) (p3 : Int32) (p4 : Int32) (p5 : Int32) (C : Mm) : Option (Int32 × Mm) :=
    Option.bind (fX11_tens n p3) fun r15 =>
    lt' ((p1 * p2) * r15) fun x17 =>
    if p4 = 0 then
    (fX11_lookAndAdd_b21 n p1 p2 p3 p4 p5 x17 C)
    else
    (lt' (wrI C 72 29 x17) fun C19 =>
    fX11_lookAndAdd_b21 n p1 p2 p3 p4 p5 x17 C19)
def fX11_goLeft_b70 (n : Nat) (k10 : Int32 → Int32 → Int32 → Int32 → Mm → Option Mm) (k23 : Int32 → Int32 → Int32 → Int32 → Int32 → Mm → Option Mm) (y1 : Int32) (y2 : Int32) (y3 : Int32) (y4 : Int32) (y5 : Int32) (C : Mm) : Option Mm :=
    lt' (y5 + (-1)) fun x1 =>
    k23 y1 y2 y3 y4 x1 C
def fX11_goLeft_h23 (n : Nat) (k10 : Int32 → Int32 → Int32 → Int32 → Mm → Option Mm) : Nat → Int32 → Int32 → Int32 → Int32 → Int32 → Mm → Option Mm
  | 0, _, _, _, _, _, _ => none
  | fu + 1, y1, y2, y3, y4, y5, C =>
    if y5 < 0 then
    (lt' (y4 + (-1)) fun x3 =>
    k10 y1 y2 y3 x3 C)
    else
    (Option.bind (fX11_figure n y1 y4) fun r5 =>
    if r5 ≤ 0 then
    (fX11_goLeft_b70 n k10 (fX11_goLeft_h23 n k10 fu) y1 y2 y3 y4 y5 C)
    else
    (Option.bind (fX11_figure n y2 y5) fun r9 =>
    if r9 ≤ 0 then
    (fX11_goLeft_b70 n k10 (fX11_goLeft_h23 n k10 fu) y1 y2 y3 y4 y5 C)
    else
    (Option.bind (fX11_figure n y1 y4) fun r13 =>
    Option.bind (fX11_figure n y2 y5) fun r16 =>
    bp' (fX11_lookAndAdd n r13 r16 (y4 + y5) y3 0 C) fun r19 C20 =>
    fX11_goLeft_b70 n k10 (fX11_goLeft_h23 n k10 fu) y1 y2 r19 y4 y5 C20)))
def fX11_goLeft_h10 (n : Nat) : Nat → Int32 → Int32 → Int32 → Int32 → Mm → Option Mm
  | 0, _, _, _, _, _ => none
  | fu + 1, y1, y2, y3, y4, C =>
    if y4 < 0 then
    (some C)
    else
    (Option.bind (fX11_digits n y2) fun r24 =>
    lt' (r24 - 1) fun x26 =>
    fX11_goLeft_h23 n (fX11_goLeft_h10 n fu) n y1 y2 y3 y4 x26 C)
def fX11_goLeft (n : Nat) (p1 : Int32) (p2 : Int32) (C : Mm) : Option Mm :=
    Option.bind (fX11_digits n p1) fun r28 =>
    lt' (r28 - 1) fun x30 =>
    fX11_goLeft_h10 n n p1 p2 1 x30 C
def fX11_goRight_h98 (n : Nat) : Nat → Int32 → Int32 → Mm → Option Mm
  | 0, _, _, _ => none
  | fu + 1, y3, y4, C =>
    if y3 ≤ y4 then
    (some C)
    else
    (if y4 < (0 : Int32) ∨ 4 ≤ Int32.toNatClampNeg y4 then none else
    lt' (wrI C 72 29 ((C.1 72 29) + (C.1 90 (Int32.toNatClampNeg y4)))) fun C3 =>
    if y4 < (0 : Int32) ∨ 4 ≤ Int32.toNatClampNeg y4 then none else
    Option.bind (fX11_digits n (C3.1 90 (Int32.toNatClampNeg y4))) fun r6 =>
    lt' (wrI C3 72 28 ((C3.1 72 28) - r6)) fun C8 =>
    Option.bind (fX11_acts n 1 (C8.1 72 29) 0 0 C8) fun C10 =>
    lt' (y4 + 1) fun x11 =>
    fX11_goRight_h98 n fu y3 x11 C10)
def fX11_goRight_b57 (n : Nat) (k5 : Int32 → Int32 → Int32 → Int32 → Mm → Option Mm) (y1 : Int32) (y2 : Int32) (y3 : Int32) (y4 : Int32) (C : Mm) : Option Mm :=
    lt' (y4 + 1) fun x12 =>
    k5 y1 y2 y3 x12 C
def fX11_goRight_h5 (n : Nat) : Nat → Int32 → Int32 → Int32 → Int32 → Mm → Option Mm
  | 0, _, _, _, _, _ => none
  | fu + 1, y1, y2, y3, y4, C =>
    Option.bind (fX11_digits n y2) fun r14 =>
    if r14 ≤ y4 then
    (if 2 ≤ y3 then
    (if 0 < (0 : Int32) ∨ 4 ≤ Int32.toNatClampNeg 0 then none else
    lt' (wrI C 72 29 (C.1 90 (Int32.toNatClampNeg 0))) fun C19 =>
    Option.bind (fX11_digits n (C19.1 72 29)) fun r21 =>
    lt' (wrI C19 72 28 ((C19.1 72 28) - r21)) fun C23 =>
    fX11_goRight_h98 n n y3 1 C23)
    else
    (some C))
    else
    (Option.bind (fX11_figure n y2 y4) fun r25 =>
    if r25 ≤ 0 then
    (fX11_goRight_b57 n (fX11_goRight_h5 n fu) y1 y2 y3 y4 C)
    else
    (Option.bind (fX11_figure n y2 y4) fun r29 =>
    Option.bind (fX11_tens n y4) fun r32 =>
    Option.bind (fX11_goLeft n y1 (r29 * r32) C) fun C35 =>
    if y3 < (0 : Int32) ∨ 4 ≤ Int32.toNatClampNeg y3 then none else
    lt' (wrI C35 90 (Int32.toNatClampNeg y3) (C35.1 72 29)) fun C37 =>
    lt' (y3 + 1) fun x38 =>
    Option.bind (fX11_holds n C37) fun C40 =>
    fX11_goRight_b57 n (fX11_goRight_h5 n fu) y1 y2 x38 y4 C40))
def fX11_goRight (n : Nat) (p1 : Int32) (p2 : Int32) (C : Mm) : Option Mm :=
    fX11_goRight_h5 n n p1 p2 0 0 C
def fX11_goCrossed_b166 (n : Nat) (k5 : Int32 → Int32 → Int32 → Int32 → Mm → Option Mm) (k24 : Int32 → Int32 → Int32 → Int32 → Int32 → Mm → Option Mm) (y1 : Int32) (y2 : Int32) (y3 : Int32) (y4 : Int32) (y5 : Int32) (C : Mm) : Option Mm :=
    lt' (y5 + 1) fun x1 =>
    k24 y1 y2 y3 y4 x1 C
def fX11_goCrossed_b164 (n : Nat) (k5 : Int32 → Int32 → Int32 → Int32 → Mm → Option Mm) (k24 : Int32 → Int32 → Int32 → Int32 → Int32 → Mm → Option Mm) (y1 : Int32) (y2 : Int32) (y4 : Int32) (y5 : Int32) (C : Mm) : Option Mm :=
    fX11_goCrossed_b166 n k5 k24 y1 y2 0 y4 y5 C
def fX11_goCrossed_b121 (n : Nat) (k5 : Int32 → Int32 → Int32 → Int32 → Mm → Option Mm) (k24 : Int32 → Int32 → Int32 → Int32 → Int32 → Mm → Option Mm) (y1 : Int32) (y2 : Int32) (y3 : Int32) (y4 : Int32) (y5 : Int32) (y6 : Int32) (y7 : Int32) (C : Mm) : Option Mm :=
    Option.bind (fX11_tens n y4) fun r3 =>
    Option.bind (fX11_acts n 0 y6 (y7 * r3) 0 C) fun C6 =>
    if y3 = 0 then
    (lt' (wrI C6 72 29 ((C6.1 72 29) + y6)) fun C8 =>
    Option.bind (fX11_acts n 1 (C8.1 72 29) 0 y4 C8) fun C10 =>
    fX11_goCrossed_b164 n k5 k24 y1 y2 y4 y5 C10)
    else
    (fX11_goCrossed_b164 n k5 k24 y1 y2 y4 y5 C6)
def fX11_goCrossed_b109 (n : Nat) (k5 : Int32 → Int32 → Int32 → Int32 → Mm → Option Mm) (k24 : Int32 → Int32 → Int32 → Int32 → Int32 → Mm → Option Mm) (y1 : Int32) (y2 : Int32) (y3 : Int32) (y4 : Int32) (y5 : Int32) (y6 : Int32) (s0 : Int32) (C : Mm) : Option Mm :=
    if y3 = 0 then
    (fX11_goCrossed_b121 n k5 k24 y1 y2 y3 y4 y5 y6 s0 C)
    else
    (lt' (wrI C 72 29 y6) fun C12 =>
    fX11_goCrossed_b121 n k5 k24 y1 y2 y3 y4 y5 y6 s0 C12)
def fX11_goCrossed_h24 (n : Nat) (k5 : Int32 → Int32 → Int32 → Int32 → Mm → Option Mm) : Nat → Int32 → Int32 → Int32 → Int32 → Int32 → Mm → Option Mm
  | 0, _, _, _, _, _, _ => none
  | fu + 1, y1, y2, y3, y4, y5, C =>
    if y4 < y5 then
    (lt' (irm (C.1 72 29) 10) fun x14 =>
    lt' (wrI C 72 28 ((C.1 72 28) + 1)) fun C15 =>
    lt' (wrI C15 72 29 ((C15.1 72 29) / 10)) fun C16 =>
    Option.bind (fX11_acts n 2 x14 0 0 C16) fun C18 =>
    lt' (y4 + 1) fun x19 =>
    k5 y1 y2 y3 x19 C18)
    else
    (Option.bind (fX11_figure n y1 y5) fun r21 =>
    if r21 = 0 then
    (fX11_goCrossed_b166 n k5 (fX11_goCrossed_h24 n k5 fu) y1 y2 y3 y4 y5 C)
    else
    (Option.bind (fX11_figure n y2 (y4 - y5)) fun r25 =>
    if r25 = 0 then
    (fX11_goCrossed_b166 n k5 (fX11_goCrossed_h24 n k5 fu) y1 y2 y3 y4 y5 C)
    else
    (Option.bind (fX11_figure n y1 y5) fun r29 =>
    Option.bind (fX11_figure n y2 (y4 - y5)) fun r32 =>
    lt' (r29 * r32) fun x34 =>
    Option.bind (fX11_figure n y1 y5) fun r36 =>
    Option.bind (fX11_figure n y2 (y4 - y5)) fun r39 =>
    if r39 ≤ r36 then
    (Option.bind (fX11_figure n y2 (y4 - y5)) fun r43 =>
    fX11_goCrossed_b109 n k5 (fX11_goCrossed_h24 n k5 fu) y1 y2 y3 y4 y5 x34 r43 C)
    else
    (Option.bind (fX11_figure n y1 y5) fun r46 =>
    fX11_goCrossed_b109 n k5 (fX11_goCrossed_h24 n k5 fu) y1 y2 y3 y4 y5 x34 r46 C))))
def fX11_goCrossed_h5 (n : Nat) : Nat → Int32 → Int32 → Int32 → Int32 → Mm → Option Mm
  | 0, _, _, _, _, _ => none
  | fu + 1, y1, y2, y3, y4, C =>
    Option.bind (fX11_digits n y1) fun r49 =>
    Option.bind (fX11_digits n y2) fun r52 =>
    if ((r49 + r52) - 2) < y4 then
    (some C)
    else
    (fX11_goCrossed_h24 n (fX11_goCrossed_h5 n fu) n y1 y2 y3 y4 0 C)
def fX11_goCrossed (n : Nat) (p1 : Int32) (p2 : Int32) (C : Mm) : Option Mm :=
    fX11_goCrossed_h5 n n p1 p2 1 0 C
def fX11_goSquared (n : Nat) (p1 : Int32) (p2 : Int32) (C : Mm) : Option (Int32 × Mm) :=
    if (irm (p1 + p2) 2) = 1 then
    (some (0, C))
    else
    (lt' ((p1 + p2) / 2) fun x2 =>
    lt' ((fX11_size (p1 - p2)) / 2) fun x5 =>
    Option.bind (fX11_goLeft n x2 x2 C) fun C7 =>
    Option.bind (fX11_holds n C7) fun C9 =>
    Option.bind (fX11_goLeft n x5 x5 C9) fun C11 =>
    lt' (wrI C11 72 28 0) fun C12 =>
    lt' (wrI C12 72 29 (p1 * p2)) fun C13 =>
    Option.bind (fX11_acts n 1 (C13.1 72 29) 0 0 C13) fun C15 =>
    some (1, C15))
def fX11_goSplit_b45 (n : Nat) (k5 : Int32 → Int32 → Int32 → Mm → Option (Int32 × Mm)) (y1 : Int32) (y2 : Int32) (y3 : Int32) (C : Mm) : Option (Int32 × Mm) :=
    lt' (y3 + (-1)) fun x1 =>
    k5 y1 y2 x1 C
def fX11_goSplit_h5 (n : Nat) : Nat → Int32 → Int32 → Int32 → Mm → Option (Int32 × Mm)
  | 0, _, _, _, _ => none
  | fu + 1, y1, y2, y3, C =>
    if y3 < 2 then
    (some (0, C))
    else
    (if y3 = 0 then none else
    if (irm y2 y3) = 0 then
    (if y3 = 0 then none else
    if (y2 / y3) ≤ 1 then
    (fX11_goSplit_b45 n (fX11_goSplit_h5 n fu) y1 y2 y3 C)
    else
    (Option.bind (fX11_goLeft n y1 y3 C) fun C8 =>
    Option.bind (fX11_holds n C8) fun C10 =>
    if y3 = 0 then none else
    Option.bind (fX11_goLeft n (y1 * y3) (y2 / y3) C10) fun C13 =>
    some (1, C13)))
    else
    (fX11_goSplit_b45 n (fX11_goSplit_h5 n fu) y1 y2 y3 C))
def fX11_goSplit (n : Nat) (p1 : Int32) (p2 : Int32) (C : Mm) : Option (Int32 × Mm) :=
    lt' (C.1 72 31) fun x14 =>
    fX11_goSplit_h5 n n p1 p2 x14 C
def fX11_isKnown_b16 (n : Nat) (y1 : Int32) (y2 : Int32) (C : Mm) : Option Int32 :=
    Option.bind (fX11_isLearnt n (C.1 72 30) ((10000 * y1) + y2) C) fun r2 =>
    if r2 = 0 then
    (some 0)
    else
    (some 1)
def fX11_isKnown (n : Nat) (p1 : Int32) (p2 : Int32) (C : Mm) : Option Int32 :=
    if (C.1 72 31) < p1 then
    (fX11_isKnown_b16 n p1 p2 C)
    else
    (if p2 ≤ (C.1 72 31) then
    (some 1)
    else
    (fX11_isKnown_b16 n p1 p2 C))
def fX11_layOut_b138 (n : Nat) (s0 : Int32) (s1 : Int32) (s2 : Int32) (C : Mm) : Option (Int32 × Mm) :=
    Option.bind (fX11_acts n s2 s1 s0 0 C) fun C2 =>
    some (1, C2)
def fX11_layOut_b26 (n : Nat) (y2 : Int32) (y3 : Int32) (s0 : Int32) (C : Mm) : Option (Int32 × Mm) :=
    lt' (wrI C 72 31 s0) fun C3 =>
    lt' (wrI C3 72 21 0) fun C4 =>
    lt' (wrI C4 72 28 0) fun C5 =>
    lt' (wrI C5 72 29 0) fun C6 =>
    lt' (y3 / 10000) fun x7 =>
    lt' (irm y3 10000) fun x8 =>
    if y2 = 0 then
    (Option.bind (fX11_isKnown n x7 x8 C6) fun r11 =>
    if r11 = 0 then
    (some (0, C6))
    else
    (lt' (wrI C6 72 29 (x7 * x8)) fun C14 =>
    if x8 ≤ x7 then
    (fX11_layOut_b138 n x8 (C14.1 72 29) 0 C14)
    else
    (fX11_layOut_b138 n x7 (C14.1 72 29) 0 C14)))
    else
    (if y2 = 1 then
    (Option.bind (fX11_goLeft n x7 x8 C6) fun C18 =>
    some (1, C18))
    else
    (if y2 = 2 then
    (Option.bind (fX11_goRight n x7 x8 C6) fun C21 =>
    some (1, C21))
    else
    (if y2 = 3 then
    (Option.bind (fX11_goCrossed n x7 x8 C6) fun C24 =>
    some (1, C24))
    else
    (if y2 = 4 then
    (bp' (fX11_goSquared n x7 x8 C6) fun r27 C28 =>
    some (r27, C28))
    else
    (if y2 = 5 then
    (bp' (fX11_goSplit n x7 x8 C6) fun r32 C33 =>
    some (r32, C33))
    else
    (Option.bind (fX11_goRight n x8 x7 C6) fun C36 =>
    some (1, C36)))))))
def fX11_layOut (n : Nat) (p1 : Int32) (p2 : Int32) (p3 : Int32) (p4 : Int32) (C : Mm) : Option (Int32 × Mm) :=
    lt' (wrI C 72 30 p1) fun C37 =>
    if p4 ≤ 0 then
    (if ((5 * p1) + 3) < (0 : Int32) ∨ 30 ≤ Int32.toNatClampNeg ((5 * p1) + 3) then none else
    fX11_layOut_b26 n p2 p3 (C37.1 73 (Int32.toNatClampNeg ((5 * p1) + 3))) C37)
    else
    (fX11_layOut_b26 n p2 p3 p4 C37)
def fX11_seconds_h4 (n : Nat) : Nat → Int32 → Int32 → Mm → Option Int32
  | 0, _, _, _ => none
  | fu + 1, y1, y2, C =>
    if (C.1 72 21) ≤ y2 then
    (some y1)
    else
    (if y2 < (0 : Int32) ∨ 200 ≤ Int32.toNatClampNeg y2 then none else
    lt' (y1 + (C.1 86 (Int32.toNatClampNeg y2))) fun x3 =>
    lt' (y2 + 1) fun x4 =>
    fX11_seconds_h4 n fu x3 x4 C)
def fX11_seconds (n : Nat) (C : Mm) : Option Int32 :=
    fX11_seconds_h4 n n 0 0 C
def fX11_mostHeld_b32 (n : Nat) (k4 : Int32 → Int32 → Mm → Option Int32) (y2 : Int32) (s0 : Int32) (C : Mm) : Option Int32 :=
    lt' (y2 + 1) fun x1 =>
    k4 s0 x1 C
def fX11_mostHeld_h4 (n : Nat) : Nat → Int32 → Int32 → Mm → Option Int32
  | 0, _, _, _ => none
  | fu + 1, y1, y2, C =>
    if (C.1 72 21) ≤ y2 then
    (some y1)
    else
    (if y2 < (0 : Int32) ∨ 200 ≤ Int32.toNatClampNeg y2 then none else
    if (C.1 87 (Int32.toNatClampNeg y2)) ≤ y1 then
    (fX11_mostHeld_b32 n (fX11_mostHeld_h4 n fu) y2 y1 C)
    else
    (if y2 < (0 : Int32) ∨ 200 ≤ Int32.toNatClampNeg y2 then none else
    fX11_mostHeld_b32 n (fX11_mostHeld_h4 n fu) y2 (C.1 87 (Int32.toNatClampNeg y2)) C))
def fX11_mostHeld (n : Nat) (C : Mm) : Option Int32 :=
    fX11_mostHeld_h4 n n 0 0 C
def fX11_isHw (p1 : Int32) (C : Mm) : Int32 :=
    if p1 < 0 then
    (0)
    else
    (if (fX11_isHead (p1 / 10) C) = 0 then
    (0)
    else
    (if 7 ≤ (irm p1 10) then
    (0)
    else
    (1)))
def fX11_way (n : Nat) (p1 : Int32) (p2 : Int32) (p3 : Int32) (C : Mm) : Option (Int32 × Mm) :=
    if (fX11_isHw p1 C) = 0 then
    (some ((-1), C))
    else
    (if (fX11_isAsk p2) = 0 then
    (some ((-1), C))
    else
    (if (fX11_within (Int32.toInt64 p3) 0 2) = 0 then
    (some ((-1), C))
    else
    (bp' (fX11_layOut n (p1 / 10) (irm p1 10) p2 0 C) fun r11 C12 =>
    if r11 = 0 then
    (some ((-2), C12))
    else
    (if p3 = 0 then
    (Option.bind (fX11_seconds n C12) fun r21 =>
    some (r21, C12))
    else
    (if p3 = 1 then
    (Option.bind (fX11_mostHeld n C12) fun r18 =>
    some (r18, C12))
    else
    (some (C12.1 72 21, C12)))))))
def fX11_step (n : Nat) (p1 : Int32) (p2 : Int32) (p3 : Int32) (p4 : Int32) (C : Mm) : Option (Int32 × Mm) :=
    if (fX11_isHw p1 C) = 0 then
    (some ((-2000000000), C))
    else
    (if (fX11_isAsk p2) = 0 then
    (some ((-2000000000), C))
    else
    (if (fX11_within (Int32.toInt64 p4) 0 3) = 0 then
    (some ((-2000000000), C))
    else
    (bp' (fX11_layOut n (p1 / 10) (irm p1 10) p2 0 C) fun r11 C12 =>
    if r11 = 0 then
    (some ((-2000000000), C12))
    else
    (if (fX11_within (Int32.toInt64 p3) 0 (Int32.toInt64 ((C12.1 72 21) - 1))) = 0 then
    (some ((-2000000000), C12))
    else
    (if p4 = 0 then
    (if p3 < (0 : Int32) ∨ 200 ≤ Int32.toNatClampNeg p3 then none else
    some (C12.1 84 (Int32.toNatClampNeg p3), C12))
    else
    (if p4 = 1 then
    (if p3 < (0 : Int32) ∨ 200 ≤ Int32.toNatClampNeg p3 then none else
    some (C12.1 85 (Int32.toNatClampNeg p3), C12))
    else
    (if p4 = 2 then
    (if p3 < (0 : Int32) ∨ 200 ≤ Int32.toNatClampNeg p3 then none else
    some (C12.1 86 (Int32.toNatClampNeg p3), C12))
    else
    (if p3 < (0 : Int32) ∨ 200 ≤ Int32.toNatClampNeg p3 then none else
    some (C12.1 87 (Int32.toNatClampNeg p3), C12)))))))))
def fX11_noughtsOf_b21 (n : Nat) (k4 : Int32 → Int32 → Option Int32) (y2 : Int32) (s0 : Int32) (s1 : Int32) : Option Int32 :=
    lt' (s1 + s0) fun x1 =>
    lt' (y2 / 10) fun x2 =>
    k4 x1 x2
def fX11_noughtsOf_h4 (n : Nat) : Nat → Int32 → Int32 → Option Int32
  | 0, _, _ => none
  | fu + 1, y1, y2 =>
    if y2 ≤ 0 then
    (some y1)
    else
    (if (irm y2 10) = 0 then
    (fX11_noughtsOf_b21 n (fX11_noughtsOf_h4 n fu) y2 1 y1)
    else
    (fX11_noughtsOf_b21 n (fX11_noughtsOf_h4 n fu) y2 0 y1))
def fX11_noughtsOf (n : Nat) (p0 : Int32) : Option Int32 :=
    fX11_noughtsOf_h4 n n 0 p0
def fX11_chosenBy_b177 (n : Nat) (y1 : Int32) (y2 : Int32) (y3 : Int32) (C : Mm) : Option (Int32 × Mm) :=
    bp' (fX11_layOut n y1 1 y2 y3 C) fun r2 C3 =>
    some (1, C3)
def fX11_chosenBy_b152 (n : Nat) (y1 : Int32) (y2 : Int32) (y3 : Int32) (y4 : Int32) (C : Mm) : Option (Int32 × Mm) :=
    if (fX11_within (Int32.toInt64 y4) 0 6) = 0 then
    (fX11_chosenBy_b177 n y1 y2 y3 C)
    else
    (bp' (fX11_layOut n y1 y4 y2 y3 C) fun r9 C10 =>
    if r9 = 0 then
    (fX11_chosenBy_b177 n y1 y2 y3 C10)
    else
    (some (y4, C10)))
def fX11_chosenBy_b123 (n : Nat) (y1 : Int32) (y2 : Int32) (y3 : Int32) (s0 : Int32) (s1 : Int32) (C : Mm) : Option (Int32 × Mm) :=
    if s1 < (0 : Int32) ∨ 8 ≤ Int32.toNatClampNeg s1 then none else
    lt' (wrI C 79 (Int32.toNatClampNeg s1) s0) fun C14 =>
    if ((5 * y1) + 4) < (0 : Int32) ∨ 30 ≤ Int32.toNatClampNeg ((5 * y1) + 4) then none else
    if 7 < (0 : Int32) ∨ 8 ≤ Int32.toNatClampNeg 7 then none else
    lt' (wrI C14 79 (Int32.toNatClampNeg 7) (C14.1 73 (Int32.toNatClampNeg ((5 * y1) + 4)))) fun C17 =>
    bp' (fX11_workOut n 0 (C17.1 72 9) C17) fun r19 C20 =>
    fX11_chosenBy_b152 n y1 y2 y3 r19 C20
def fX11_chosenBy (n : Nat) (p1 : Int32) (p2 : Int32) (p3 : Int32) (C : Mm) : Option (Int32 × Mm) :=
    if (C.1 72 9) < 0 then
    (fX11_chosenBy_b152 n p1 p2 p3 1 C)
    else
    (lt' (p2 / 10000) fun x23 =>
    lt' (irm p2 10000) fun x24 =>
    Option.bind (fX11_digits n x23) fun r26 =>
    if 0 < (0 : Int32) ∨ 8 ≤ Int32.toNatClampNeg 0 then none else
    lt' (wrI C 79 (Int32.toNatClampNeg 0) r26) fun C29 =>
    Option.bind (fX11_digits n x24) fun r31 =>
    if 1 < (0 : Int32) ∨ 8 ≤ Int32.toNatClampNeg 1 then none else
    lt' (wrI C29 79 (Int32.toNatClampNeg 1) r31) fun C34 =>
    if 2 < (0 : Int32) ∨ 8 ≤ Int32.toNatClampNeg 2 then none else
    lt' (wrI C34 79 (Int32.toNatClampNeg 2) (irm x23 10)) fun C36 =>
    if 3 < (0 : Int32) ∨ 8 ≤ Int32.toNatClampNeg 3 then none else
    lt' (wrI C36 79 (Int32.toNatClampNeg 3) (irm x24 10)) fun C38 =>
    if 4 < (0 : Int32) ∨ 8 ≤ Int32.toNatClampNeg 4 then none else
    lt' (wrI C38 79 (Int32.toNatClampNeg 4) (fX11_size (x23 - x24))) fun C42 =>
    Option.bind (fX11_noughtsOf n x23) fun r44 =>
    Option.bind (fX11_noughtsOf n x24) fun r47 =>
    if 5 < (0 : Int32) ∨ 8 ≤ Int32.toNatClampNeg 5 then none else
    lt' (wrI C42 79 (Int32.toNatClampNeg 5) (r44 + r47)) fun C50 =>
    if p3 ≤ 0 then
    (if ((5 * p1) + 3) < (0 : Int32) ∨ 30 ≤ Int32.toNatClampNeg ((5 * p1) + 3) then none else
    fX11_chosenBy_b123 n p1 p2 p3 (C50.1 73 (Int32.toNatClampNeg ((5 * p1) + 3))) 6 C50)
    else
    (fX11_chosenBy_b123 n p1 p2 p3 p3 6 C50))
def fX11_chosen (n : Nat) (p1 : Int32) (p2 : Int32) (C : Mm) : Option (Int32 × Mm) :=
    if (fX11_isHead p1 C) = 0 then
    (some ((-1), C))
    else
    (if (fX11_isAsk p2) = 0 then
    (some ((-1), C))
    else
    (bp' (fX11_chosenBy n p1 p2 0 C) fun r8 C9 =>
    some (r8, C9)))
def fX11_answer_b236 (n : Nat) (k70 : Int32 → Int32 → Int32 → Int32 → Mm → Option (Int32 × Mm)) (y4 : Int32) (y5 : Int32) (y6 : Int32) (y7 : Int32) (C : Mm) : Option (Int32 × Mm) :=
    lt' (y7 + 1) fun x1 =>
    k70 y4 y5 y6 x1 C
def fX11_answer_b184 (n : Nat) (k70 : Int32 → Int32 → Int32 → Int32 → Mm → Option (Int32 × Mm)) (y4 : Int32) (y5 : Int32) (y7 : Int32) (s0 : Int32) (s1 : Int32) (C : Mm) : Option (Int32 × Mm) :=
    lt' (s1 + s0) fun x2 =>
    fX11_answer_b236 n k70 y4 y5 x2 y7 C
def fX11_answer_b137 (n : Nat) (k70 : Int32 → Int32 → Int32 → Int32 → Mm → Option (Int32 × Mm)) (y4 : Int32) (y5 : Int32) (y6 : Int32) (y7 : Int32) (s0 : Int32) (s1 : Int32) (C : Mm) : Option (Int32 × Mm) :=
    if s1 < s0 then
    (if y7 < (0 : Int32) ∨ 200 ≤ Int32.toNatClampNeg y7 then none else
    if (C.1 84 (Int32.toNatClampNeg y7)) = 0 then
    (if (irm (iush y5 20) 2) = 1 then
    (if y7 < (0 : Int32) ∨ 200 ≤ Int32.toNatClampNeg y7 then none else
    fX11_answer_b184 n k70 y4 y5 y7 (C.1 88 (Int32.toNatClampNeg y7)) y6 C)
    else
    (if y7 < (0 : Int32) ∨ 200 ≤ Int32.toNatClampNeg y7 then none else
    fX11_answer_b184 n k70 y4 y5 y7 (-(C.1 88 (Int32.toNatClampNeg y7))) y6 C))
    else
    (if y7 < (0 : Int32) ∨ 200 ≤ Int32.toNatClampNeg y7 then none else
    if (C.1 84 (Int32.toNatClampNeg y7)) = 1 then
    (if y7 < (0 : Int32) ∨ 200 ≤ Int32.toNatClampNeg y7 then none else
    Option.bind (fX11_digits n (C.1 85 (Int32.toNatClampNeg y7))) fun r10 =>
    if r10 = 0 then none else
    Option.bind (fX11_tens n (irm (iush y5 20) r10)) fun r14 =>
    if y7 < (0 : Int32) ∨ 200 ≤ Int32.toNatClampNeg y7 then none else
    Option.bind (fX11_tens n (C.1 89 (Int32.toNatClampNeg y7))) fun r18 =>
    lt' (y6 - (r14 * r18)) fun x20 =>
    fX11_answer_b236 n k70 y4 y5 x20 y7 C)
    else
    (fX11_answer_b236 n k70 y4 y5 y6 y7 C)))
    else
    (fX11_answer_b236 n k70 y4 y5 y6 y7 C)
def fX11_answer_h70 (n : Nat) : Nat → Int32 → Int32 → Int32 → Int32 → Mm → Option (Int32 × Mm)
  | 0, _, _, _, _, _ => none
  | fu + 1, y4, y5, y6, y7, C =>
    if (C.1 72 21) ≤ y7 then
    (some (y6, C))
    else
    (if y7 < (0 : Int32) ∨ 200 ≤ Int32.toNatClampNeg y7 then none else
    lt' ((C.1 87 (Int32.toNatClampNeg y7)) - y4) fun x26 =>
    if 0 < x26 then
    (lt' ((y5 * 1103515245) + 12345) fun x28 =>
    if (5 * x26) ≤ 95 then
    (fX11_answer_b137 n (fX11_answer_h70 n fu) y4 x28 y6 y7 (5 * x26) (irm (iush x28 8) 100) C)
    else
    (fX11_answer_b137 n (fX11_answer_h70 n fu) y4 x28 y6 y7 95 (irm (iush x28 8) 100) C))
    else
    (fX11_answer_b236 n (fX11_answer_h70 n fu) y4 y5 y6 y7 C))
def fX11_answer (n : Nat) (p1 : Int32) (p2 : Int32) (p3 : Int32) (C : Mm) : Option (Int32 × Mm) :=
    if (fX11_isHw p1 C) = 0 then
    (some ((-2000000000), C))
    else
    (if (fX11_isAsk p2) = 0 then
    (some ((-2000000000), C))
    else
    (bp' (fX11_layOut n (p1 / 10) (irm p1 10) p2 0 C) fun r37 C38 =>
    if r37 = 0 then
    (some ((-2000000000), C38))
    else
    (if ((5 * (p1 / 10)) + 4) < (0 : Int32) ∨ 30 ≤ Int32.toNatClampNeg ((5 * (p1 / 10)) + 4) then none else
    lt' (C38.1 73 (Int32.toNatClampNeg ((5 * (p1 / 10)) + 4))) fun x42 =>
    lt' ((p2 / 10000) * (irm p2 10000)) fun x43 =>
    fX11_answer_h70 n n x42 p3 x43 0 C38)))
def fX11_quickest_b90 (n : Nat) (k39 : Int32 → Int32 → Int32 → Int32 → Int32 → Int32 → Mm → Option (Int32 × Mm)) (y1 : Int32) (y2 : Int32) (y3 : Int32) (y4 : Int32) (y5 : Int32) (y6 : Int32) (C : Mm) : Option (Int32 × Mm) :=
    lt' (y6 + 1) fun x1 =>
    k39 y1 y2 y3 y4 y5 x1 C
def fX11_quickest_b80 (n : Nat) (k39 : Int32 → Int32 → Int32 → Int32 → Int32 → Int32 → Mm → Option (Int32 × Mm)) (y1 : Int32) (y2 : Int32) (y3 : Int32) (y6 : Int32) (C : Mm) : Option (Int32 × Mm) :=
    Option.bind (fX11_seconds n C) fun r3 =>
    fX11_quickest_b90 n k39 y1 y2 y3 y6 r3 y6 C
def fX11_quickest_h39 (n : Nat) : Nat → Int32 → Int32 → Int32 → Int32 → Int32 → Int32 → Mm → Option (Int32 × Mm)
  | 0, _, _, _, _, _, _, _ => none
  | fu + 1, y1, y2, y3, y4, y5, y6, C =>
    if 7 ≤ y6 then
    (some (y4, C))
    else
    (bp' (fX11_layOut n y1 y6 y2 0 C) fun r7 C8 =>
    if r7 = 0 then
    (fX11_quickest_b90 n (fX11_quickest_h39 n fu) y1 y2 y3 y4 y5 y6 C8)
    else
    (Option.bind (fX11_mostHeld n C8) fun r12 =>
    if y3 < r12 then
    (fX11_quickest_b90 n (fX11_quickest_h39 n fu) y1 y2 y3 y4 y5 y6 C8)
    else
    (if y4 < 0 then
    (fX11_quickest_b80 n (fX11_quickest_h39 n fu) y1 y2 y3 y6 C8)
    else
    (Option.bind (fX11_seconds n C8) fun r17 =>
    if y5 ≤ r17 then
    (fX11_quickest_b90 n (fX11_quickest_h39 n fu) y1 y2 y3 y4 y5 y6 C8)
    else
    (fX11_quickest_b80 n (fX11_quickest_h39 n fu) y1 y2 y3 y6 C8)))))
def fX11_quickest (n : Nat) (p1 : Int32) (p2 : Int32) (p3 : Int32) (C : Mm) : Option (Int32 × Mm) :=
    if (fX11_isHead p1 C) = 0 then
    (some ((-1), C))
    else
    (if (fX11_isAsk p2) = 0 then
    (some ((-1), C))
    else
    (if (fX11_within (Int32.toInt64 p3) 1 99) = 0 then
    (some ((-1), C))
    else
    (fX11_quickest_h39 n n p1 p2 p3 (-2) 0 0 C)))
def fX11_table_h21 (n : Nat) : Nat → Int32 → Int32 → Int32 → Int32 → Mm → Option (Int32 × Mm)
  | 0, _, _, _, _, _ => none
  | fu + 1, y1, y2, y3, y4, C =>
    if 99 < y4 then
    (some ((-2), C))
    else
    (bp' (fX11_chosenBy n y1 y2 y4 C) fun r3 C4 =>
    Option.bind (fX11_seconds n C4) fun r7 =>
    if y3 < r7 then
    (lt' (y4 + 1) fun x10 =>
    fX11_table_h21 n fu y1 y2 y3 x10 C4)
    else
    (some (y4, C4)))
def fX11_table (n : Nat) (p1 : Int32) (p2 : Int32) (p3 : Int32) (C : Mm) : Option (Int32 × Mm) :=
    if (fX11_isHead p1 C) = 0 then
    (some ((-1), C))
    else
    (if (fX11_isAsk p2) = 0 then
    (some ((-1), C))
    else
    (fX11_table_h21 n n p1 p2 p3 9 C))
def fX11_see (p1 : Int32) (p2 : Int32) (p3 : Int32) (C : Mm) : Option (Int32 × Mm) :=
    if (fX11_isAsk p1) = 0 then
    (some ((-1), C))
    else
    (if (fX11_within (Int32.toInt64 p2) 0 9999) = 0 then
    (some ((-1), C))
    else
    (if (fX11_within (Int32.toInt64 p3) (-999999999) 999999999) = 0 then
    (some ((-1), C))
    else
    (if (C.1 72 33) = 40 then
    (some ((-3), C))
    else
    (if (C.1 72 33) < (0 : Int32) ∨ 40 ≤ Int32.toNatClampNeg (C.1 72 33) then none else
    lt' (wrI C 91 (Int32.toNatClampNeg (C.1 72 33)) p1) fun C12 =>
    if (C12.1 72 33) < (0 : Int32) ∨ 40 ≤ Int32.toNatClampNeg (C12.1 72 33) then none else
    lt' (wrI C12 92 (Int32.toNatClampNeg (C12.1 72 33)) p2) fun C14 =>
    if (C14.1 72 33) < (0 : Int32) ∨ 40 ≤ Int32.toNatClampNeg (C14.1 72 33) then none else
    lt' (wrI C14 93 (Int32.toNatClampNeg (C14.1 72 33)) p3) fun C16 =>
    lt' (wrI C16 72 33 ((C16.1 72 33) + 1)) fun C17 =>
    some ((C17.1 72 33) - 1, C17)))))
def fX11_isShelf (p0 : Int32) : Int32 :=
    fX11_within (Int32.toInt64 p0) 0 5
def fX11_asks_b227 (n : Nat) (k69 : Int32 → Int32 → Int32 → Int32 → Int32 → Mm → Option (Int32 × Mm)) (y1 : Int32) (y2 : Int32) (y3 : Int32) (y5 : Int32) (s0 : Int32) (s1 : Int32) (C : Mm) : Option (Int32 × Mm) :=
    lt' (s1 + s0) fun x1 =>
    k69 y1 y2 y3 x1 y5 C
def fX11_asks_b213 (n : Nat) (k69 : Int32 → Int32 → Int32 → Int32 → Int32 → Mm → Option (Int32 × Mm)) (y1 : Int32) (y2 : Int32) (y3 : Int32) (y4 : Int32) (s0 : Int32) (C : Mm) : Option (Int32 × Mm) :=
    if s0 = 0 then
    (fX11_asks_b227 n k69 y1 y2 y3 s0 0 y4 C)
    else
    (fX11_asks_b227 n k69 y1 y2 y3 s0 1 y4 C)
def fX11_asks_b212 (n : Nat) (k69 : Int32 → Int32 → Int32 → Int32 → Int32 → Mm → Option (Int32 × Mm)) (y1 : Int32) (y2 : Int32) (y3 : Int32) (y4 : Int32) (C : Mm) : Option (Int32 × Mm) :=
    fX11_asks_b213 n k69 y1 y2 y3 y4 0 C
def fX11_asks_b102 (n : Nat) (k69 : Int32 → Int32 → Int32 → Int32 → Int32 → Mm → Option (Int32 × Mm)) (y1 : Int32) (y2 : Int32) (y3 : Int32) (y4 : Int32) (s0 : Int32) (C : Mm) : Option (Int32 × Mm) :=
    lt' (((60 * y1) + y2) + (4 * y4)) fun x3 =>
    if s0 = 0 then
    (fX11_asks_b212 n k69 y1 y2 y3 y4 C)
    else
    (if x3 < (0 : Int32) ∨ 360 ≤ Int32.toNatClampNeg x3 then none else
    if (fX11_within (C.2 101 (Int32.toNatClampNeg x3)) 1 9999) = 0 then
    (fX11_asks_b212 n k69 y1 y2 y3 y4 C)
    else
    (if (x3 + 1) < (0 : Int32) ∨ 360 ≤ Int32.toNatClampNeg (x3 + 1) then none else
    if (fX11_within (C.2 101 (Int32.toNatClampNeg (x3 + 1))) 1 9999) = 0 then
    (fX11_asks_b212 n k69 y1 y2 y3 y4 C)
    else
    (if x3 < (0 : Int32) ∨ 360 ≤ Int32.toNatClampNeg x3 then none else
    if (x3 + 1) < (0 : Int32) ∨ 360 ≤ Int32.toNatClampNeg (x3 + 1) then none else
    if (x3 + 2) < (0 : Int32) ∨ 360 ≤ Int32.toNatClampNeg (x3 + 2) then none else
    if (x3 + 3) < (0 : Int32) ∨ 360 ≤ Int32.toNatClampNeg (x3 + 3) then none else
    bp' (fX11_see ((10000 * (Int64.toInt32 (C.2 101 (Int32.toNatClampNeg x3)))) + (Int64.toInt32 (C.2 101 (Int32.toNatClampNeg (x3 + 1))))) (Int64.toInt32 (C.2 101 (Int32.toNatClampNeg (x3 + 2)))) (Int64.toInt32 (C.2 101 (Int32.toNatClampNeg (x3 + 3)))) C) fun r18 C19 =>
    if r18 < 0 then
    (fX11_asks_b212 n k69 y1 y2 y3 y4 C19)
    else
    (fX11_asks_b213 n k69 y1 y2 y3 y4 1 C19))))
def fX11_asks_h69 (n : Nat) : Nat → Int32 → Int32 → Int32 → Int32 → Int32 → Mm → Option (Int32 × Mm)
  | 0, _, _, _, _, _, _ => none
  | fu + 1, y1, y2, y3, y4, y5, C =>
    if y5 = 0 then
    (some (y4, C))
    else
    (if y3 ≤ y4 then
    (some (y4, C))
    else
    (if y1 < (0 : Int32) ∨ 6 ≤ Int32.toNatClampNeg y1 then none else
    if (((C.1 100 (Int32.toNatClampNeg y1)) - 4) - (4 * y4)) < y2 then
    (fX11_asks_b102 n (fX11_asks_h69 n fu) y1 y2 y3 y4 0 C)
    else
    (fX11_asks_b102 n (fX11_asks_h69 n fu) y1 y2 y3 y4 1 C)))
def fX11_asks_b67 (n : Nat) (y1 : Int32) (y2 : Int32) (y3 : Int32) (y4 : Int32) (s0 : Int32) (C : Mm) : Option (Int32 × Mm) :=
    fX11_asks_h69 n n y1 y2 y3 y4 s0 C
def fX11_asks_b66 (n : Nat) (y1 : Int32) (y2 : Int32) (y3 : Int32) (y4 : Int32) (C : Mm) : Option (Int32 × Mm) :=
    fX11_asks_b67 n y1 y2 y3 y4 0 C
def fX11_asks_b44 (n : Nat) (y1 : Int32) (y2 : Int32) (y3 : Int32) (C : Mm) : Option (Int32 × Mm) :=
    if y1 < (0 : Int32) ∨ 6 ≤ Int32.toNatClampNeg y1 then none else
    if (C.1 99 (Int32.toNatClampNeg y1)) = 52 then
    (if y2 < 0 then
    (fX11_asks_b66 n y1 y2 y3 0 C)
    else
    (fX11_asks_b67 n y1 y2 y3 0 1 C))
    else
    (fX11_asks_b66 n y1 y2 y3 0 C)
def fX11_asks (n : Nat) (p1 : Int32) (p2 : Int32) (p3 : Int32) (C : Mm) : Option (Int32 × Mm) :=
    if (fX11_isShelf p1) = 0 then
    (some ((-1), C))
    else
    (if (fX11_within (Int32.toInt64 p3) 1 15) = 0 then
    (some ((-1), C))
    else
    (if p1 < (0 : Int32) ∨ 6 ≤ Int32.toNatClampNeg p1 then none else
    if (C.1 99 (Int32.toNatClampNeg p1)) < 0 then
    (fX11_asks_b44 n p1 p2 p3 C)
    else
    (if p1 < (0 : Int32) ∨ 6 ≤ Int32.toNatClampNeg p1 then none else
    if (C.1 99 (Int32.toNatClampNeg p1)) = 52 then
    (fX11_asks_b44 n p1 p2 p3 C)
    else
    (some ((-12), C)))))
def fX11_offBy (p1 : Int32) (C : Mm) : Option Int32 :=
    if p1 < (0 : Int32) ∨ 40 ≤ Int32.toNatClampNeg p1 then none else
    if p1 < (0 : Int32) ∨ 40 ≤ Int32.toNatClampNeg p1 then none else
    if p1 < (0 : Int32) ∨ 40 ≤ Int32.toNatClampNeg p1 then none else
    some ((C.1 93 (Int32.toNatClampNeg p1)) - (((C.1 91 (Int32.toNatClampNeg p1)) / 10000) * (irm (C.1 91 (Int32.toNatClampNeg p1)) 10000)))
def fX11_seen (p1 : Int32) (p2 : Int32) (C : Mm) : Option Int32 :=
    if (fX11_within (Int32.toInt64 p1) 0 (Int32.toInt64 ((C.1 72 33) - 1))) = 0 then
    (some (-2000000000))
    else
    (if p2 = 0 then
    (if p1 < (0 : Int32) ∨ 40 ≤ Int32.toNatClampNeg p1 then none else
    some ((C.1 91 (Int32.toNatClampNeg p1)) / 10000))
    else
    (if p2 = 1 then
    (if p1 < (0 : Int32) ∨ 40 ≤ Int32.toNatClampNeg p1 then none else
    some (irm (C.1 91 (Int32.toNatClampNeg p1)) 10000))
    else
    (if p2 = 2 then
    (if p1 < (0 : Int32) ∨ 40 ≤ Int32.toNatClampNeg p1 then none else
    some (C.1 92 (Int32.toNatClampNeg p1)))
    else
    (if p2 = 3 then
    (Option.bind (fX11_offBy p1 C) fun r12 =>
    some r12)
    else
    (some (-2000000000))))))
def fX11_canSlip_h38 (n : Nat) : Nat → Int32 → Int32 → Int32 → Mm → Option Int32
  | 0, _, _, _, _ => none
  | fu + 1, y1, y2, y3, C =>
    if y1 < (0 : Int32) ∨ 200 ≤ Int32.toNatClampNeg y1 then none else
    Option.bind (fX11_digits n (C.1 85 (Int32.toNatClampNeg y1))) fun r3 =>
    if r3 ≤ y3 then
    (some 0)
    else
    (if y1 < (0 : Int32) ∨ 200 ≤ Int32.toNatClampNeg y1 then none else
    if (C.1 84 (Int32.toNatClampNeg y1)) = 1 then
    (Option.bind (fX11_tens n y3) fun r9 =>
    if y1 < (0 : Int32) ∨ 200 ≤ Int32.toNatClampNeg y1 then none else
    Option.bind (fX11_tens n (C.1 89 (Int32.toNatClampNeg y1))) fun r13 =>
    if y2 = ((-r9) * r13) then
    (some 1)
    else
    (lt' (y3 + 1) fun x16 =>
    fX11_canSlip_h38 n fu y1 y2 x16 C))
    else
    (some 0))
def fX11_canSlip (n : Nat) (p1 : Int32) (p2 : Int32) (C : Mm) : Option Int32 :=
    if p1 < (0 : Int32) ∨ 200 ≤ Int32.toNatClampNeg p1 then none else
    if (C.1 84 (Int32.toNatClampNeg p1)) = 0 then
    (if p1 < (0 : Int32) ∨ 200 ≤ Int32.toNatClampNeg p1 then none else
    if p2 = (C.1 88 (Int32.toNatClampNeg p1)) then
    (some 1)
    else
    (if p1 < (0 : Int32) ∨ 200 ≤ Int32.toNatClampNeg p1 then none else
    if p2 = (-(C.1 88 (Int32.toNatClampNeg p1))) then
    (some 1)
    else
    (some 0)))
    else
    (fX11_canSlip_h38 n n p1 p2 0 C)
def fX11_slipsOf_b27 (n : Nat) (k4 : Int32 → Int32 → Int32 → Mm → Option Int32) (y1 : Int32) (y3 : Int32) (s0 : Int32) (s1 : Int32) (C : Mm) : Option Int32 :=
    lt' (s1 + s0) fun x1 =>
    lt' (y3 + 1) fun x2 =>
    k4 y1 x1 x2 C
def fX11_slipsOf_h4 (n : Nat) : Nat → Int32 → Int32 → Int32 → Mm → Option Int32
  | 0, _, _, _, _ => none
  | fu + 1, y1, y2, y3, C =>
    if (C.1 72 21) ≤ y3 then
    (some y2)
    else
    (Option.bind (fX11_canSlip n y3 y1 C) fun r5 =>
    if r5 = 0 then
    (fX11_slipsOf_b27 n (fX11_slipsOf_h4 n fu) y1 y3 0 y2 C)
    else
    (fX11_slipsOf_b27 n (fX11_slipsOf_h4 n fu) y1 y3 1 y2 C))
def fX11_slipsOf (n : Nat) (p1 : Int32) (C : Mm) : Option Int32 :=
    fX11_slipsOf_h4 n n p1 0 0 C
def fX11_doesFit_b74 (n : Nat) (k3 : Int32 → Int32 → Int32 → Int32 → Mm → Option (Int32 × Mm)) (y1 : Int32) (y2 : Int32) (y3 : Int32) (y4 : Int32) (C : Mm) : Option (Int32 × Mm) :=
    lt' (y4 + 1) fun x1 =>
    k3 y1 y2 y3 x1 C
def fX11_doesFit_h3 (n : Nat) : Nat → Int32 → Int32 → Int32 → Int32 → Mm → Option (Int32 × Mm)
  | 0, _, _, _, _, _ => none
  | fu + 1, y1, y2, y3, y4, C =>
    if (C.1 72 33) ≤ y4 then
    (some (1, C))
    else
    (if y4 < (0 : Int32) ∨ 40 ≤ Int32.toNatClampNeg y4 then none else
    bp' (fX11_layOut n y1 y2 (C.1 91 (Int32.toNatClampNeg y4)) 0 C) fun r5 C6 =>
    if r5 = 0 then
    (some (0, C6))
    else
    (Option.bind (fX11_seconds n C6) fun r10 =>
    if y4 < (0 : Int32) ∨ 40 ≤ Int32.toNatClampNeg y4 then none else
    if (fX11_size (r10 - (C6.1 92 (Int32.toNatClampNeg y4)))) ≤ y3 then
    (Option.bind (fX11_offBy y4 C6) fun r17 =>
    if r17 = 0 then
    (fX11_doesFit_b74 n (fX11_doesFit_h3 n fu) y1 y2 y3 y4 C6)
    else
    (Option.bind (fX11_offBy y4 C6) fun r21 =>
    Option.bind (fX11_slipsOf n r21 C6) fun r24 =>
    if r24 = 0 then
    (some (0, C6))
    else
    (fX11_doesFit_b74 n (fX11_doesFit_h3 n fu) y1 y2 y3 y4 C6)))
    else
    (some (0, C6))))
def fX11_doesFit (n : Nat) (p1 : Int32) (p2 : Int32) (p3 : Int32) (C : Mm) : Option (Int32 × Mm) :=
    fX11_doesFit_h3 n n p1 p2 p3 0 C
def fX11_fits_b64 (n : Nat) (k37 : Int32 → Int32 → Int32 → Int32 → Mm → Option (Int32 × Mm)) (y1 : Int32) (y2 : Int32) (y4 : Int32) (s0 : Int32) (s1 : Int32) (C : Mm) : Option (Int32 × Mm) :=
    lt' (s1 ||| s0) fun x1 =>
    lt' (y4 + 1) fun x2 =>
    k37 y1 y2 x1 x2 C
def fX11_fits_h37 (n : Nat) : Nat → Int32 → Int32 → Int32 → Int32 → Mm → Option (Int32 × Mm)
  | 0, _, _, _, _, _ => none
  | fu + 1, y1, y2, y3, y4, C =>
    if 7 ≤ y4 then
    (some (y3, C))
    else
    (bp' (fX11_doesFit n y1 y4 y2 C) fun r5 C6 =>
    if r5 = 0 then
    (fX11_fits_b64 n (fX11_fits_h37 n fu) y1 y2 y4 0 y3 C6)
    else
    (fX11_fits_b64 n (fX11_fits_h37 n fu) y1 y2 y4 (1 <<< (y4 &&& 31)) y3 C6))
def fX11_fits (n : Nat) (p1 : Int32) (p2 : Int32) (C : Mm) : Option (Int32 × Mm) :=
    if (fX11_isHead p1 C) = 0 then
    (some ((-1), C))
    else
    (if (fX11_within (Int32.toInt64 p2) 0 9999) = 0 then
    (some ((-1), C))
    else
    (if (C.1 72 33) = 0 then
    (some ((-5), C))
    else
    (fX11_fits_h37 n n p1 p2 0 0 C)))
def fX11_offSum_b57 (n : Nat) (k5 : Int32 → Int32 → Int32 → Int32 → Mm → Option (Int32 × Mm)) (y1 : Int32) (y2 : Int32) (y3 : Int32) (y4 : Int32) (y5 : Int32) (C : Mm) : Option (Int32 × Mm) :=
    if y5 = 0 then
    (some ((-1), C))
    else
    (Option.bind (fX11_seconds n C) fun r3 =>
    if y4 < (0 : Int32) ∨ 40 ≤ Int32.toNatClampNeg y4 then none else
    lt' (y3 + (fX11_size (r3 - (C.1 92 (Int32.toNatClampNeg y4))))) fun x8 =>
    lt' (y4 + 1) fun x9 =>
    k5 y1 y2 x8 x9 C)
def fX11_offSum_h5 (n : Nat) : Nat → Int32 → Int32 → Int32 → Int32 → Mm → Option (Int32 × Mm)
  | 0, _, _, _, _, _ => none
  | fu + 1, y1, y2, y3, y4, C =>
    if (C.1 72 33) ≤ y4 then
    (some (y3, C))
    else
    (if y2 = 7 then
    (if y4 < (0 : Int32) ∨ 40 ≤ Int32.toNatClampNeg y4 then none else
    bp' (fX11_chosenBy n y1 (C.1 91 (Int32.toNatClampNeg y4)) 0 C) fun r19 C20 =>
    fX11_offSum_b57 n (fX11_offSum_h5 n fu) y1 y2 y3 y4 1 C20)
    else
    (if y4 < (0 : Int32) ∨ 40 ≤ Int32.toNatClampNeg y4 then none else
    bp' (fX11_layOut n y1 y2 (C.1 91 (Int32.toNatClampNeg y4)) 0 C) fun r14 C15 =>
    fX11_offSum_b57 n (fX11_offSum_h5 n fu) y1 y2 y3 y4 r14 C15))
def fX11_offSum (n : Nat) (p1 : Int32) (p2 : Int32) (C : Mm) : Option (Int32 × Mm) :=
    fX11_offSum_h5 n n p1 p2 0 0 C
def fX11_best_b77 (n : Nat) (k38 : Int32 → Int32 → Int32 → Int32 → Int32 → Mm → Option (Int32 × Mm)) (y1 : Int32) (y2 : Int32) (y3 : Int32) (y4 : Int32) (y5 : Int32) (C : Mm) : Option (Int32 × Mm) :=
    lt' (y5 + 1) fun x1 =>
    k38 y1 y2 y3 y4 x1 C
def fX11_best_b70 (n : Nat) (k38 : Int32 → Int32 → Int32 → Int32 → Int32 → Mm → Option (Int32 × Mm)) (y1 : Int32) (y2 : Int32) (y5 : Int32) (y6 : Int32) (C : Mm) : Option (Int32 × Mm) :=
    fX11_best_b77 n k38 y1 y2 y5 y6 y5 C
def fX11_best_h38 (n : Nat) : Nat → Int32 → Int32 → Int32 → Int32 → Int32 → Mm → Option (Int32 × Mm)
  | 0, _, _, _, _, _, _ => none
  | fu + 1, y1, y2, y3, y4, y5, C =>
    if 7 < y5 then
    (if y2 = 0 then
    (some (y3, C))
    else
    (some (y4, C)))
    else
    (bp' (fX11_offSum n y1 y5 C) fun r5 C6 =>
    if r5 < 0 then
    (fX11_best_b77 n (fX11_best_h38 n fu) y1 y2 y3 y4 y5 C6)
    else
    (if y3 < 0 then
    (fX11_best_b70 n (fX11_best_h38 n fu) y1 y2 y5 r5 C6)
    else
    (if y4 ≤ r5 then
    (fX11_best_b77 n (fX11_best_h38 n fu) y1 y2 y3 y4 y5 C6)
    else
    (fX11_best_b70 n (fX11_best_h38 n fu) y1 y2 y5 r5 C6))))
def fX11_best (n : Nat) (p1 : Int32) (p2 : Int32) (C : Mm) : Option (Int32 × Mm) :=
    if (fX11_isHead p1 C) = 0 then
    (some ((-1), C))
    else
    (if (fX11_within (Int32.toInt64 p2) 0 1) = 0 then
    (some ((-1), C))
    else
    (if (C.1 72 33) = 0 then
    (some ((-5), C))
    else
    (fX11_best_h38 n n p1 p2 (-1) 0 0 C)))
def fX11_slip_h87 (n : Nat) : Nat → Int32 → Int32 → Mm → Option (Int32 × Mm)
  | 0, _, _, _ => none
  | fu + 1, y2, y4, C =>
    if (C.1 72 21) ≤ y4 then
    (some ((-2), C))
    else
    (Option.bind (fX11_offBy y2 C) fun r3 =>
    Option.bind (fX11_canSlip n y4 r3 C) fun r6 =>
    if r6 = 0 then
    (lt' (y4 + 1) fun x9 =>
    fX11_slip_h87 n fu y2 x9 C)
    else
    (some (y4, C)))
def fX11_slip (n : Nat) (p1 : Int32) (p2 : Int32) (p3 : Int32) (C : Mm) : Option (Int32 × Mm) :=
    if (fX11_isHw p1 C) = 0 then
    (some ((-1), C))
    else
    (if (fX11_within (Int32.toInt64 p2) 0 (Int32.toInt64 ((C.1 72 33) - 1))) = 0 then
    (some ((-1), C))
    else
    (if (fX11_within (Int32.toInt64 p3) 0 1) = 0 then
    (some ((-1), C))
    else
    (Option.bind (fX11_offBy p2 C) fun r20 =>
    if r20 = 0 then
    (some ((-1), C))
    else
    (if p2 < (0 : Int32) ∨ 40 ≤ Int32.toNatClampNeg p2 then none else
    bp' (fX11_layOut n (p1 / 10) (irm p1 10) (C.1 91 (Int32.toNatClampNeg p2)) 0 C) fun r25 C26 =>
    if r25 = 0 then
    (some ((-2), C26))
    else
    (if p3 = 1 then
    (Option.bind (fX11_offBy p2 C26) fun r31 =>
    Option.bind (fX11_slipsOf n r31 C26) fun r34 =>
    some (r34, C26))
    else
    (fX11_slip_h87 n n p2 0 C26))))))
def fX11_suits_b84 (n : Nat) (k24 : Int32 → Int32 → Int32 → Mm → Option (Int32 × Mm)) (y1 : Int32) (y3 : Int32) (s0 : Int32) (s1 : Int32) (C : Mm) : Option (Int32 × Mm) :=
    lt' (s1 + s0) fun x1 =>
    lt' (y3 + 1) fun x2 =>
    k24 y1 x1 x2 C
def fX11_suits_h24 (n : Nat) : Nat → Int32 → Int32 → Int32 → Mm → Option (Int32 × Mm)
  | 0, _, _, _, _ => none
  | fu + 1, y1, y2, y3, C =>
    if (C.1 72 33) ≤ y3 then
    (if (C.1 72 33) = 0 then none else
    some ((1000 * y2) / (C.1 72 33), C))
    else
    (if y3 < (0 : Int32) ∨ 40 ≤ Int32.toNatClampNeg y3 then none else
    bp' (fX11_chosenBy n y1 (C.1 91 (Int32.toNatClampNeg y3)) 0 C) fun r7 C8 =>
    Option.bind (fX11_seconds n C8) fun r11 =>
    if y3 < (0 : Int32) ∨ 40 ≤ Int32.toNatClampNeg y3 then none else
    bp' (fX11_layOut n y1 1 (C8.1 91 (Int32.toNatClampNeg y3)) 0 C8) fun r15 C16 =>
    Option.bind (fX11_seconds n C16) fun r19 =>
    if (r19 / 2) < r11 then
    (fX11_suits_b84 n (fX11_suits_h24 n fu) y1 y3 0 y2 C16)
    else
    (fX11_suits_b84 n (fX11_suits_h24 n fu) y1 y3 1 y2 C16))
def fX11_suits (n : Nat) (p1 : Int32) (C : Mm) : Option (Int32 × Mm) :=
    if (fX11_isHead p1 C) = 0 then
    (some ((-1), C))
    else
    (if (C.1 72 33) = 0 then
    (some ((-5), C))
    else
    (fX11_suits_h24 n n p1 0 0 C))
def fX11_tell (p1 : Int32) (C : Mm) : Option (Int32 × Mm) :=
    if (fX11_isAsk p1) = 0 then
    (some ((-1), C))
    else
    (if (C.1 72 37) = 8 then
    (some ((-3), C))
    else
    (if (C.1 72 37) < (0 : Int32) ∨ 8 ≤ Int32.toNatClampNeg (C.1 72 37) then none else
    lt' (wrI C 94 (Int32.toNatClampNeg (C.1 72 37)) p1) fun C6 =>
    lt' (wrI C6 72 37 ((C6.1 72 37) + 1)) fun C7 =>
    some (C7.1 72 37, C7)))
def fX11_untell (C : Mm) : Option (Int32 × Mm) :=
    lt' (C.1 72 37) fun x1 =>
    lt' (wrI C 72 37 0) fun C2 =>
    some (x1, C2)
def fX11_parts_b182 (n : Nat) (k52 : Int32 → Int32 → Int32 → Int32 → Int32 → Int32 → Mm → Option (Int32 × Mm)) (y1 : Int32) (y2 : Int32) (y3 : Int32) (y4 : Int32) (y5 : Int32) (y6 : Int32) (C : Mm) : Option (Int32 × Mm) :=
    lt' (y6 + 1) fun x1 =>
    k52 y1 y2 y3 y4 y5 x1 C
def fX11_parts_b150 (n : Nat) (k52 : Int32 → Int32 → Int32 → Int32 → Int32 → Int32 → Mm → Option (Int32 × Mm)) (k70 : Int32 → Int32 → Int32 → Int32 → Int32 → Int32 → Int32 → Int32 → Int32 → Mm → Option (Int32 × Mm)) (y1 : Int32) (y2 : Int32) (y3 : Int32) (y4 : Int32) (y5 : Int32) (y6 : Int32) (y7 : Int32) (y8 : Int32) (y9 : Int32) (C : Mm) : Option (Int32 × Mm) :=
    lt' (y9 + 1) fun x2 =>
    k70 y1 y2 y3 y4 y5 y6 y7 y8 x2 C
def fX11_parts_b148 (n : Nat) (k52 : Int32 → Int32 → Int32 → Int32 → Int32 → Int32 → Mm → Option (Int32 × Mm)) (k70 : Int32 → Int32 → Int32 → Int32 → Int32 → Int32 → Int32 → Int32 → Int32 → Mm → Option (Int32 × Mm)) (y1 : Int32) (y2 : Int32) (y3 : Int32) (y4 : Int32) (y5 : Int32) (y6 : Int32) (y7 : Int32) (y9 : Int32) (s0 : Int32) (C : Mm) : Option (Int32 × Mm) :=
    fX11_parts_b150 n k52 k70 y1 y2 y3 y4 y5 y6 y7 s0 y9 C
def fX11_parts_b128 (n : Nat) (k52 : Int32 → Int32 → Int32 → Int32 → Int32 → Int32 → Mm → Option (Int32 × Mm)) (k70 : Int32 → Int32 → Int32 → Int32 → Int32 → Int32 → Int32 → Int32 → Int32 → Mm → Option (Int32 × Mm)) (y1 : Int32) (y2 : Int32) (y3 : Int32) (y4 : Int32) (y5 : Int32) (y6 : Int32) (y8 : Int32) (y9 : Int32) (s0 : Int32) (C : Mm) : Option (Int32 × Mm) :=
    Option.bind (fX11_seconds n C) fun r4 =>
    if r4 ≤ y8 then
    (fX11_parts_b148 n k52 k70 y1 y2 y3 y4 y5 y6 s0 y9 y8 C)
    else
    (Option.bind (fX11_seconds n C) fun r8 =>
    fX11_parts_b148 n k52 k70 y1 y2 y3 y4 y5 y6 s0 y9 r8 C)
def fX11_parts_b119 (n : Nat) (k52 : Int32 → Int32 → Int32 → Int32 → Int32 → Int32 → Mm → Option (Int32 × Mm)) (k70 : Int32 → Int32 → Int32 → Int32 → Int32 → Int32 → Int32 → Int32 → Int32 → Mm → Option (Int32 × Mm)) (y1 : Int32) (y2 : Int32) (y3 : Int32) (y4 : Int32) (y5 : Int32) (y6 : Int32) (y8 : Int32) (y9 : Int32) (C : Mm) : Option (Int32 × Mm) :=
    Option.bind (fX11_seconds n C) fun r11 =>
    fX11_parts_b128 n k52 k70 y1 y2 y3 y4 y5 y6 y8 y9 r11 C
def fX11_parts_h70 (n : Nat) (k52 : Int32 → Int32 → Int32 → Int32 → Int32 → Int32 → Mm → Option (Int32 × Mm)) : Nat → Int32 → Int32 → Int32 → Int32 → Int32 → Int32 → Int32 → Int32 → Int32 → Mm → Option (Int32 × Mm)
  | 0, _, _, _, _, _, _, _, _, _, _ => none
  | fu + 1, y1, y2, y3, y4, y5, y6, y7, y8, y9, C =>
    if 7 ≤ y9 then
    (if y7 < 0 then
    (fX11_parts_b182 n k52 y1 y2 y3 y4 y5 y6 C)
    else
    (if (y8 - y7) ≤ y5 then
    (fX11_parts_b182 n k52 y1 y2 y3 y4 y5 y6 C)
    else
    (lt' (y8 - y7) fun x16 =>
    fX11_parts_b182 n k52 y1 y2 y3 y6 x16 y6 C)))
    else
    (if ((y2 >>> (y9 &&& 31)) &&& 1) = 1 then
    (if y6 < (0 : Int32) ∨ 8 ≤ Int32.toNatClampNeg y6 then none else
    bp' (fX11_layOut n y1 y9 (C.1 94 (Int32.toNatClampNeg y6)) 0 C) fun r20 C21 =>
    if r20 = 0 then
    (fX11_parts_b150 n k52 (fX11_parts_h70 n k52 fu) y1 y2 y3 y4 y5 y6 y7 y8 y9 C21)
    else
    (if y7 < 0 then
    (fX11_parts_b119 n k52 (fX11_parts_h70 n k52 fu) y1 y2 y3 y4 y5 y6 y8 y9 C21)
    else
    (Option.bind (fX11_seconds n C21) fun r26 =>
    if y7 ≤ r26 then
    (fX11_parts_b128 n k52 (fX11_parts_h70 n k52 fu) y1 y2 y3 y4 y5 y6 y8 y9 y7 C21)
    else
    (fX11_parts_b119 n k52 (fX11_parts_h70 n k52 fu) y1 y2 y3 y4 y5 y6 y8 y9 C21))))
    else
    (fX11_parts_b150 n k52 (fX11_parts_h70 n k52 fu) y1 y2 y3 y4 y5 y6 y7 y8 y9 C))
def fX11_parts_h52 (n : Nat) : Nat → Int32 → Int32 → Int32 → Int32 → Int32 → Int32 → Mm → Option (Int32 × Mm)
  | 0, _, _, _, _, _, _, _ => none
  | fu + 1, y1, y2, y3, y4, y5, y6, C =>
    if (C.1 72 37) ≤ y6 then
    (if 0 ≤ y4 then
    (if y3 = 0 then
    (some (y4, C))
    else
    (some (y5, C)))
    else
    (some ((-2), C)))
    else
    (fX11_parts_h70 n (fX11_parts_h52 n fu) n y1 y2 y3 y4 y5 y6 (-1) (-1) 0 C)
def fX11_parts (n : Nat) (p1 : Int32) (p2 : Int32) (p3 : Int32) (C : Mm) : Option (Int32 × Mm) :=
    if (fX11_isHead p1 C) = 0 then
    (some ((-1), C))
    else
    (if (fX11_within (Int32.toInt64 p2) 0 127) = 0 then
    (some ((-1), C))
    else
    (if (fX11_within (Int32.toInt64 p3) 0 1) = 0 then
    (some ((-1), C))
    else
    (if (C.1 72 37) = 0 then
    (some ((-5), C))
    else
    (fX11_parts_h52 n n p1 p2 p3 (-2) (-1) 0 C))))
def fX11_keeps_h12 (n : Nat) : Nat → Int32 → Int32 → Mm → Option Mm
  | 0, _, _, _ => none
  | fu + 1, y1, y2, C =>
    if 60 ≤ y2 then
    (some C)
    else
    (if ((60 * y1) + y2) < (0 : Int32) ∨ 360 ≤ Int32.toNatClampNeg ((60 * y1) + y2) then none else
    if y2 < (0 : Int32) ∨ 60 ≤ Int32.toNatClampNeg y2 then none else
    lt' (wrI C 95 (Int32.toNatClampNeg y2) (C.1 83 (Int32.toNatClampNeg ((60 * y1) + y2)))) fun C4 =>
    lt' (y2 + 1) fun x5 =>
    fX11_keeps_h12 n fu y1 x5 C4)
def fX11_keeps (n : Nat) (p1 : Int32) (C : Mm) : Option Mm :=
    if p1 < (0 : Int32) ∨ 6 ≤ Int32.toNatClampNeg p1 then none else
    lt' (wrI C 72 40 (C.1 81 (Int32.toNatClampNeg p1))) fun C7 =>
    fX11_keeps_h12 n n p1 0 C7
def fX11_putsBack_h12 (n : Nat) : Nat → Int32 → Int32 → Mm → Option Mm
  | 0, _, _, _ => none
  | fu + 1, y1, y2, C =>
    if 60 ≤ y2 then
    (some C)
    else
    (if y2 < (0 : Int32) ∨ 60 ≤ Int32.toNatClampNeg y2 then none else
    if ((60 * y1) + y2) < (0 : Int32) ∨ 360 ≤ Int32.toNatClampNeg ((60 * y1) + y2) then none else
    lt' (wrI C 83 (Int32.toNatClampNeg ((60 * y1) + y2)) (C.1 95 (Int32.toNatClampNeg y2))) fun C4 =>
    lt' (y2 + 1) fun x5 =>
    fX11_putsBack_h12 n fu y1 x5 C4)
def fX11_putsBack (n : Nat) (p1 : Int32) (C : Mm) : Option Mm :=
    if p1 < (0 : Int32) ∨ 6 ≤ Int32.toNatClampNeg p1 then none else
    lt' (wrI C 81 (Int32.toNatClampNeg p1) (C.1 72 40)) fun C7 =>
    fX11_putsBack_h12 n n p1 0 C7
def fX11_asksOne (n : Nat) (p1 : Int32) (p2 : Int32) (C : Mm) : Option (Int32 × Mm) :=
    bp' (fX11_chosenBy n p1 p2 0 C) fun r2 C3 =>
    Option.bind (fX11_seconds n C3) fun r6 =>
    bp' (fX11_askOf n p1 p2 C3) fun r9 C10 =>
    some (r6, C10)
def fX11_isListBad_h2 (n : Nat) : Nat → Int32 → Mm → Option Int32
  | 0, _, _ => none
  | fu + 1, y1, C =>
    if (C.1 72 37) ≤ y1 then
    (some 0)
    else
    (if y1 < (0 : Int32) ∨ 8 ≤ Int32.toNatClampNeg y1 then none else
    if (fX11_isSmall (C.1 94 (Int32.toNatClampNeg y1))) = 0 then
    (some 1)
    else
    (lt' (y1 + 1) fun x6 =>
    fX11_isListBad_h2 n fu x6 C))
def fX11_isListBad (n : Nat) (C : Mm) : Option Int32 :=
    fX11_isListBad_h2 n n 0 C
def fX11_taught_h60 (n : Nat) : Nat → Int32 → Int32 → Int32 → Int32 → Int32 → Mm → Option (Int32 × Mm)
  | 0, _, _, _, _, _, _ => none
  | fu + 1, y1, y2, y3, y4, y5, C =>
    if y2 ≤ y5 then
    (Option.bind (fX11_learntOf n y1 C) fun r3 =>
    Option.bind (fX11_putsBack n y1 C) fun C6 =>
    if y3 = 0 then
    (some (y4, C6))
    else
    (some (r3, C6)))
    else
    (if (C.1 72 37) = 0 then none else
    if (irm y5 (C.1 72 37)) < (0 : Int32) ∨ 8 ≤ Int32.toNatClampNeg (irm y5 (C.1 72 37)) then none else
    bp' (fX11_asksOne n y1 (C.1 94 (Int32.toNatClampNeg (irm y5 (C.1 72 37)))) C) fun r11 C12 =>
    lt' (y4 + r11) fun x14 =>
    lt' (y5 + 1) fun x15 =>
    fX11_taught_h60 n fu y1 y2 y3 x14 x15 C12)
def fX11_taught (n : Nat) (p1 : Int32) (p2 : Int32) (p3 : Int32) (C : Mm) : Option (Int32 × Mm) :=
    if (fX11_isHead p1 C) = 0 then
    (some ((-1), C))
    else
    (if (fX11_within (Int32.toInt64 p2) 1 50) = 0 then
    (some ((-1), C))
    else
    (if (fX11_within (Int32.toInt64 p3) 0 1) = 0 then
    (some ((-1), C))
    else
    (Option.bind (fX11_isListBad n C) fun r26 =>
    if r26 = 0 then
    (if (C.1 72 37) = 0 then
    (some ((-5), C))
    else
    (Option.bind (fX11_keeps n p1 C) fun C31 =>
    fX11_taught_h60 n n p1 p2 p3 0 0 C31))
    else
    (some ((-1), C)))))
def fX11_ordersFrom_b136 (n : Nat) (z : Int32 → Int32 → Int32 → Int32 → Int32 → Mm → Option Mm) (k86 : Int32 → Int32 → Int32 → Int32 → Int32 → Int32 → Mm → Option Mm) (y1 : Int32) (y2 : Int32) (y3 : Int32) (y4 : Int32) (y5 : Int32) (y6 : Int32) (C : Mm) : Option Mm :=
    lt' (y6 + 1) fun x1 =>
    k86 y1 y2 y3 y4 y5 x1 C
def fX11_ordersFrom_h86 (n : Nat) (z : Int32 → Int32 → Int32 → Int32 → Int32 → Mm → Option Mm) : Nat → Int32 → Int32 → Int32 → Int32 → Int32 → Int32 → Mm → Option Mm
  | 0, _, _, _, _, _, _, _ => none
  | fu + 1, y1, y2, y3, y4, y5, y6, C =>
    if y2 ≤ y6 then
    (some C)
    else
    (if ((y4 >>> (y6 &&& 31)) &&& 1) = 0 then
    (if y3 < (0 : Int32) ∨ 5 ≤ Int32.toNatClampNeg y3 then none else
    lt' (wrI C 96 (Int32.toNatClampNeg y3) y6) fun C5 =>
    Option.bind (z y1 y2 (y3 + 1) (y4 ||| (1 <<< (y6 &&& 31))) (((10 * y5) + y6) + 1) C5) fun C7 =>
    fX11_ordersFrom_b136 n z (fX11_ordersFrom_h86 n z fu) y1 y2 y3 y4 y5 y6 C7)
    else
    (fX11_ordersFrom_b136 n z (fX11_ordersFrom_h86 n z fu) y1 y2 y3 y4 y5 y6 C))
def fX11_ordersFrom_b70 (n : Nat) (z : Int32 → Int32 → Int32 → Int32 → Int32 → Mm → Option Mm) (y5 : Int32) (y6 : Int32) (C : Mm) : Option Mm :=
    lt' (wrI C 72 42 y6) fun C8 =>
    lt' (wrI C8 72 43 y5) fun C9 =>
    some C9
def fX11_ordersFrom_h11 (n : Nat) (z : Int32 → Int32 → Int32 → Int32 → Int32 → Mm → Option Mm) : Nat → Int32 → Int32 → Int32 → Int32 → Int32 → Mm → Option Mm
  | 0, _, _, _, _, _, _ => none
  | fu + 1, y1, y2, y5, y6, y7, C =>
    if (3 * y2) ≤ y7 then
    (Option.bind (fX11_putsBack n y1 C) fun C12 =>
    if (C12.1 72 42) < 0 then
    (fX11_ordersFrom_b70 n z y5 y6 C12)
    else
    (if (C12.1 72 42) ≤ y6 then
    (some C12)
    else
    (fX11_ordersFrom_b70 n z y5 y6 C12)))
    else
    (if (y7 / 3) < (0 : Int32) ∨ 5 ≤ Int32.toNatClampNeg (y7 / 3) then none else
    if (C.1 96 (Int32.toNatClampNeg (y7 / 3))) < (0 : Int32) ∨ 8 ≤ Int32.toNatClampNeg (C.1 96 (Int32.toNatClampNeg (y7 / 3))) then none else
    bp' (fX11_asksOne n y1 (C.1 94 (Int32.toNatClampNeg (C.1 96 (Int32.toNatClampNeg (y7 / 3))))) C) fun r18 C19 =>
    lt' (y6 + r18) fun x21 =>
    lt' (y7 + 1) fun x22 =>
    fX11_ordersFrom_h11 n z fu y1 y2 y5 x21 x22 C19)
def fX11_ordersFrom_w (n : Nat) (z : Int32 → Int32 → Int32 → Int32 → Int32 → Mm → Option Mm) (p1 : Int32) (p2 : Int32) (p3 : Int32) (p4 : Int32) (p5 : Int32) (C : Mm) : Option Mm :=
    if p3 = p2 then
    (fX11_ordersFrom_h11 n z n p1 p2 p5 0 0 C)
    else
    (fX11_ordersFrom_h86 n z n p1 p2 p3 p4 p5 0 C)
def fX11_ordersFrom (n : Nat) : Nat → Int32 → Int32 → Int32 → Int32 → Int32 → Mm → Option Mm
  | 0, _, _, _, _, _, _ => none
  | d + 1, p1, p2, p3, p4, p5, C => fX11_ordersFrom_w n (fX11_ordersFrom n d) p1 p2 p3 p4 p5 C
def fX11_first_b65 (n : Nat) (y2 : Int32) (s0 : Int32) (s1 : Int32) (C : Mm) : Option (Int32 × Mm) :=
    Option.bind (fX11_ordersFrom n 12 s1 s0 0 0 0 C) fun C2 =>
    if y2 = 0 then
    (some (C2.1 72 43, C2))
    else
    (some (C2.1 72 42, C2))
def fX11_first (n : Nat) (p1 : Int32) (p2 : Int32) (C : Mm) : Option (Int32 × Mm) :=
    if (fX11_isHead p1 C) = 0 then
    (some ((-1), C))
    else
    (if (fX11_within (Int32.toInt64 p2) 0 1) = 0 then
    (some ((-1), C))
    else
    (Option.bind (fX11_isListBad n C) fun r11 =>
    if r11 = 0 then
    (if (C.1 72 37) = 0 then
    (some ((-5), C))
    else
    (Option.bind (fX11_keeps n p1 C) fun C16 =>
    lt' (wrI C16 72 42 (-1)) fun C17 =>
    if 5 ≤ (C17.1 72 37) then
    (fX11_first_b65 n p2 5 p1 C17)
    else
    (fX11_first_b65 n p2 (C17.1 72 37) p1 C17)))
    else
    (some ((-1), C))))
def fX11_isPower (p0 : Int32) : Int32 :=
    if p0 = 2 then
    (1)
    else
    (if p0 = 3 then
    (1)
    else
    (if p0 = 5 then
    (1)
    else
    (0)))
def fX11_powerOf_h5 (n : Nat) : Nat → Int64 → Int32 → Int64 → Int32 → Option Int64
  | 0, _, _, _, _ => none
  | fu + 1, y0, y2, y3, y5 =>
    if y2 ≤ y5 then
    (some y3)
    else
    (if y0 = 0 then none else
    if (lg_cmp y3 (999999999999999999 / y0)) ≤ 0 then
    (lt' (y3 * y0) fun x4 =>
    lt' (y5 + 1) fun x5 =>
    fX11_powerOf_h5 n fu y0 y2 x4 x5)
    else
    (some 1000000000000000000))
def fX11_powerOf (n : Nat) (p0 : Int64) (p2 : Int32) : Option Int64 :=
    fX11_powerOf_h5 n n p0 p2 1 0
def fX11_leastOf_b47 (n : Nat) (k7 : Int64 → Int32 → Int64 → Int64 → Option Int64) (y0 : Int64) (y2 : Int32) (y3 : Int64) (y5 : Int64) : Option Int64 :=
    k7 y0 y2 y3 y5
def fX11_leastOf_h7 (n : Nat) : Nat → Int64 → Int32 → Int64 → Int64 → Option Int64
  | 0, _, _, _, _ => none
  | fu + 1, y0, y2, y3, y5 =>
    if (lg_cmp (y5 - y3) 1) ≤ 0 then
    (some y5)
    else
    (lt' ((y3 + y5) / 2) fun x2 =>
    Option.bind (fX11_powerOf n x2 y2) fun r4 =>
    if (lg_cmp r4 y0) < 0 then
    (fX11_leastOf_b47 n (fX11_leastOf_h7 n fu) y0 y2 x2 y5)
    else
    (fX11_leastOf_b47 n (fX11_leastOf_h7 n fu) y0 y2 y3 x2))
def fX11_leastOf (n : Nat) (p0 : Int64) (p2 : Int32) : Option Int64 :=
    fX11_leastOf_h7 n n p0 p2 0 1000000001
def fX11_isNumber (p0 : Int64) (p2 : Int32) : Int32 :=
    if (fX11_within p0 1 999999999999999999) = 0 then
    (0)
    else
    (if (fX11_isPower p2) = 0 then
    (0)
    else
    (1))
def fX11_rootOf (n : Nat) (p0 : Int64) (p2 : Int32) : Option Int32 :=
    Option.bind (fX11_leastOf n p0 p2) fun r2 =>
    Option.bind (fX11_powerOf n r2 p2) fun r4 =>
    if (lg_cmp r4 p0) = 0 then
    (some (Int64.toInt32 r2))
    else
    (some 0)
def fX11_root (n : Nat) (p1 : Int64) (p3 : Int32) : Option Int32 :=
    if (fX11_isNumber p1 p3) = 0 then
    (some (-1))
    else
    (Option.bind (fX11_rootOf n p1 p3) fun r5 =>
    some r5)
def fX11_digitsOf_h4 (n : Nat) : Nat → Int32 → Int64 → Option Int32
  | 0, _, _ => none
  | fu + 1, y2, y3 =>
    if (lg_cmp y3 0) ≤ 0 then
    (some y2)
    else
    (lt' (y2 + 1) fun x2 =>
    lt' (y3 / 10) fun x3 =>
    fX11_digitsOf_h4 n fu x2 x3)
def fX11_digitsOf (n : Nat) (p0 : Int64) : Option Int32 :=
    fX11_digitsOf_h4 n n 0 p0
def fX11_lastOf_h4 (n : Nat) : Nat → Int32 → Int32 → Int32 → Int32 → Option Int32
  | 0, _, _, _, _ => none
  | fu + 1, y0, y1, y2, y3 =>
    if y1 ≤ y3 then
    (some y2)
    else
    (lt' (irm (y2 * y0) 10) fun x2 =>
    lt' (y3 + 1) fun x3 =>
    fX11_lastOf_h4 n fu y0 y1 x2 x3)
def fX11_lastOf (n : Nat) (p0 : Int32) (p1 : Int32) : Option Int32 :=
    fX11_lastOf_h4 n n p0 p1 1 0
def fX11_endingBelow (p0 : Int64) (p2 : Int32) : Int64 :=
    if 0 < (lg_cmp p0 (Int32.toInt64 p2)) then
    ((((p0 - 1) - (Int32.toInt64 p2)) / 10) + 1)
    else
    (0)
def fX11_manyFirsts_b228 (n : Nat) (k131 : Int32 → Int64 → Int64 → Int32 → Int64 → Int32 → Mm → Option (Int64 × Mm)) (y3 : Int32) (y10 : Int64) (y12 : Int64) (y14 : Int32) (y15 : Int64) (y17 : Int32) (C : Mm) : Option (Int64 × Mm) :=
    lt' (y17 + 1) fun x1 =>
    k131 y3 y10 y12 y14 y15 x1 C
def fX11_manyFirsts_b222 (n : Nat) (k131 : Int32 → Int64 → Int64 → Int32 → Int64 → Int32 → Mm → Option (Int64 × Mm)) (y3 : Int32) (y10 : Int64) (y12 : Int64) (y14 : Int32) (y15 : Int64) (y17 : Int32) (y18 : Int64) (C : Mm) : Option (Int64 × Mm) :=
    lt' (wrL C 72 44 y18) fun C2 =>
    fX11_manyFirsts_b228 n k131 y3 y10 y12 y14 y15 y17 C2
def fX11_manyFirsts_h131 (n : Nat) : Nat → Int32 → Int64 → Int64 → Int32 → Int64 → Int32 → Mm → Option (Int64 × Mm)
  | 0, _, _, _, _, _, _, _ => none
  | fu + 1, y3, y10, y12, y14, y15, y17, C =>
    if 10 ≤ y17 then
    (some (y15, C))
    else
    (Option.bind (fX11_lastOf n y17 y3) fun r5 =>
    if r5 = y14 then
    (lt' (y15 + ((fX11_endingBelow y12 y17) - (fX11_endingBelow y10 y17))) fun x10 =>
    lt' (y10 + (lrm ((lrm ((Int32.toInt64 y17) - y10) 10) + 10) 10)) fun x11 =>
    if 0 ≤ (lg_cmp x11 y12) then
    (fX11_manyFirsts_b228 n (fX11_manyFirsts_h131 n fu) y3 y10 y12 y14 x10 y17 C)
    else
    (if (lg_cmp (C.2 72 44) 0) = 0 then
    (fX11_manyFirsts_b222 n (fX11_manyFirsts_h131 n fu) y3 y10 y12 y14 x10 y17 x11 C)
    else
    (if 0 ≤ (lg_cmp x11 (C.2 72 44)) then
    (fX11_manyFirsts_b228 n (fX11_manyFirsts_h131 n fu) y3 y10 y12 y14 x10 y17 C)
    else
    (fX11_manyFirsts_b222 n (fX11_manyFirsts_h131 n fu) y3 y10 y12 y14 x10 y17 x11 C))))
    else
    (fX11_manyFirsts_b228 n (fX11_manyFirsts_h131 n fu) y3 y10 y12 y14 y15 y17 C))
def fX11_manyFirsts_b110 (n : Nat) (y1 : Int64) (y3 : Int32) (y10 : Int64) (s0 : Int64) (C : Mm) : Option (Int64 × Mm) :=
    lt' (Int64.toInt32 (lrm y1 10)) fun x15 =>
    lt' (wrL C 72 44 0) fun C16 =>
    fX11_manyFirsts_h131 n n y3 y10 s0 x15 0 0 C16
def fX11_manyFirsts_b97 (n : Nat) (y1 : Int64) (y3 : Int32) (y10 : Int64) (s0 : Int64) (s1 : Int64) (C : Mm) : Option (Int64 × Mm) :=
    fX11_manyFirsts_b110 n y1 y3 y10 (s1 + s0) C
def fX11_manyFirsts_h12 (n : Nat) : Nat → Int64 → Int32 → Int32 → Int32 → Int64 → Int32 → Mm → Option (Int64 × Mm)
  | 0, _, _, _, _, _, _, _ => none
  | fu + 1, y1, y3, y4, y5, y6, y8, C =>
    if (y5 - y4) ≤ y8 then
    (if y6 = 0 then none else
    lt' ((y1 / y6) * y6) fun x19 =>
    Option.bind (fX11_leastOf n x19 y3) fun r21 =>
    if (lg_cmp ((x19 + y6) - 1) 999999999999999999) < 0 then
    (Option.bind (fX11_leastOf n (x19 + y6) y3) fun r24 =>
    fX11_manyFirsts_b110 n y1 y3 r21 r24 C)
    else
    (Option.bind (fX11_leastOf n 999999999999999999 y3) fun r26 =>
    Option.bind (fX11_leastOf n 999999999999999999 y3) fun r28 =>
    Option.bind (fX11_powerOf n r28 y3) fun r30 =>
    if 0 < (lg_cmp r30 999999999999999999) then
    (fX11_manyFirsts_b97 n y1 y3 r21 0 r26 C)
    else
    (fX11_manyFirsts_b97 n y1 y3 r21 1 r26 C)))
    else
    (lt' (y6 * 10) fun x32 =>
    lt' (y8 + 1) fun x33 =>
    fX11_manyFirsts_h12 n fu y1 y3 y4 y5 x32 x33 C)
def fX11_manyFirsts (n : Nat) (p1 : Int64) (p3 : Int32) (p4 : Int32) (C : Mm) : Option (Int64 × Mm) :=
    Option.bind (fX11_digitsOf n p1) fun r35 =>
    fX11_manyFirsts_h12 n n p1 p3 p4 r35 1 0 C
def fX11_firsts (n : Nat) (p1 : Int64) (p3 : Int32) (p4 : Int32) (C : Mm) : Option (Int32 × Mm) :=
    if p3 < 0 then
    (some ((-1), C))
    else
    (if (fX11_isNumber p1 (p3 / 100)) = 0 then
    (some ((-1), C))
    else
    (Option.bind (fX11_digitsOf n p1) fun r6 =>
    if (fX11_within (Int32.toInt64 (irm p3 100)) 1 (Int32.toInt64 r6)) = 0 then
    (some ((-1), C))
    else
    (if (fX11_within (Int32.toInt64 p4) 0 1) = 0 then
    (some ((-1), C))
    else
    (bp' (fX11_manyFirsts n p1 (p3 / 100) (irm p3 100) C) fun r15 C16 =>
    if p4 = 0 then
    (some (Int64.toInt32 r15, C16))
    else
    (some (Int64.toInt32 (C16.2 72 44), C16))))))
def fX11_enough_h24 (n : Nat) : Nat → Int64 → Int32 → Int32 → Mm → Option (Int32 × Mm)
  | 0, _, _, _, _ => none
  | fu + 1, y1, y3, y4, C =>
    bp' (fX11_manyFirsts n y1 y3 y4 C) fun r2 C3 =>
    if (lg_cmp r2 1) ≤ 0 then
    (some (y4, C3))
    else
    (lt' (y4 + 1) fun x5 =>
    fX11_enough_h24 n fu y1 y3 x5 C3)
def fX11_enough (n : Nat) (p1 : Int64) (p3 : Int32) (C : Mm) : Option (Int32 × Mm) :=
    if (fX11_isNumber p1 p3) = 0 then
    (some ((-1), C))
    else
    (Option.bind (fX11_rootOf n p1 p3) fun r10 =>
    if r10 = 0 then
    (some ((-2), C))
    else
    (fX11_enough_h24 n n p1 p3 1 C))
def fX11_isBody (p1 : Int32) (C : Mm) : Int32 :=
    fX11_within (Int32.toInt64 p1) 0 (Int32.toInt64 ((C.1 72 45) - 1))
def fX11_kindOf (p1 : Int32) (C : Mm) : Option Int32 :=
    if p1 < (0 : Int32) ∨ 50 ≤ Int32.toNatClampNeg p1 then none else
    some (C.1 97 (Int32.toNatClampNeg p1))
def fX11_body (p1 : Int32) (C : Mm) : Option (Int32 × Mm) :=
    if (fX11_within (Int32.toInt64 p1) 0 7) = 0 then
    (some ((-1), C))
    else
    (if (C.1 72 45) = 50 then
    (some ((-3), C))
    else
    (if (C.1 72 45) < (0 : Int32) ∨ 50 ≤ Int32.toNatClampNeg (C.1 72 45) then none else
    lt' (wrI C 97 (Int32.toNatClampNeg (C.1 72 45)) p1) fun C6 =>
    lt' (wrI C6 72 45 ((C6.1 72 45) + 1)) fun C7 =>
    some ((C7.1 72 45) - 1, C7)))
def fX11_above (p0 : Int32) : Int32 :=
    if p0 = 3 then
    (2)
    else
    (if p0 = 5 then
    (1)
    else
    (if p0 = 7 then
    (6)
    else
    (0)))
def fX11_begins_b19 (C : Mm) : Option Mm :=
    lt' (wrI C 72 48 ((C.1 72 48) + 1)) fun C1 =>
    some C1
def fX11_begins (p1 : Int32) (C : Mm) : Option Mm :=
    if 24 ≤ (C.1 72 48) then
    (fX11_begins_b19 C)
    else
    (if (C.1 72 48) < (0 : Int32) ∨ 24 ≤ Int32.toNatClampNeg (C.1 72 48) then none else
    lt' (wrI C 98 (Int32.toNatClampNeg (C.1 72 48)) p1) fun C4 =>
    fX11_begins_b19 C4)
def fX11_costsAs_w (z : Int32 → Int32 → Mm → Option (Int32 × Mm)) (p1 : Int32) (p2 : Int32) (C : Mm) : Option (Int32 × Mm) :=
    if p1 = 5 then
    (Option.bind (fX11_begins 60 C) fun C12 =>
    bp' (z 1 (p2 + 1) C12) fun r14 C15 =>
    some (r14, C15))
    else
    (if p1 = 1 then
    (Option.bind (fX11_begins 20 C) fun C6 =>
    bp' (z 0 p2 C6) fun r8 C9 =>
    some (r8 + 3, C9))
    else
    (Option.bind (fX11_begins 1 C) fun C4 =>
    some (p2 + (C4.1 72 50), C4)))
def fX11_costsAs : Nat → Int32 → Int32 → Mm → Option (Int32 × Mm)
  | 0, _, _, _ => none
  | d + 1, p1, p2, C => fX11_costsAs_w (fX11_costsAs d) p1 p2 C
def fX11_keepsAs_b10 (z : Int32 → Int32 → Mm → Option (Int32 × Mm)) (y2 : Int32) (C : Mm) : Option (Int32 × Mm) :=
    Option.bind (fX11_begins 30 C) fun C2 =>
    bp' (z 0 y2 C2) fun r4 C5 =>
    some (-r4, C5)
def fX11_keepsAs_w (z : Int32 → Int32 → Mm → Option (Int32 × Mm)) (p1 : Int32) (p2 : Int32) (C : Mm) : Option (Int32 × Mm) :=
    if p1 = 2 then
    (fX11_keepsAs_b10 z p2 C)
    else
    (if p1 = 3 then
    (fX11_keepsAs_b10 z p2 C)
    else
    (if p1 = 7 then
    (Option.bind (fX11_begins 80 C) fun C17 =>
    bp' (z 6 p2 C17) fun r19 C20 =>
    some (r19 * 2, C20))
    else
    (Option.bind (fX11_begins 10 C) fun C11 =>
    bp' (fX11_costsAs 12 (C11.1 72 49) p2 C11) fun r13 C14 =>
    some (r13 * 2, C14))))
def fX11_keepsAs : Nat → Int32 → Int32 → Mm → Option (Int32 × Mm)
  | 0, _, _, _ => none
  | d + 1, p1, p2, C => fX11_keepsAs_w (fX11_keepsAs d) p1 p2 C
def fX11_slipsAs_b62 (z : Int32 → Int32 → Mm → Option (Int32 × Mm)) (y2 : Int32) (C : Mm) : Option (Int32 × Mm) :=
    Option.bind (fX11_begins 70 C) fun C2 =>
    bp' (z 0 y2 C2) fun r4 C5 =>
    some (r4 - 1, C5)
def fX11_slipsAs_w (z : Int32 → Int32 → Mm → Option (Int32 × Mm)) (p1 : Int32) (p2 : Int32) (C : Mm) : Option (Int32 × Mm) :=
    if p1 = 3 then
    (Option.bind (fX11_begins 40 C) fun C24 =>
    bp' (z 2 p2 C24) fun r26 C27 =>
    some (r26 * 3, C27))
    else
    (if p1 = 5 then
    (Option.bind (fX11_begins 61 C) fun C14 =>
    bp' (z 1 p2 C14) fun r16 C17 =>
    bp' (fX11_costsAs 12 (C17.1 72 49) 2 C17) fun r20 C21 =>
    some (r16 + r20, C21))
    else
    (if p1 = 6 then
    (fX11_slipsAs_b62 z p2 C)
    else
    (if p1 = 7 then
    (fX11_slipsAs_b62 z p2 C)
    else
    (Option.bind (fX11_begins 11 C) fun C12 =>
    some (p2 ^^^ (C12.1 72 50), C12)))))
def fX11_slipsAs : Nat → Int32 → Int32 → Mm → Option (Int32 × Mm)
  | 0, _, _, _ => none
  | d + 1, p1, p2, C => fX11_slipsAs_w (fX11_slipsAs d) p1 p2 C
def fX11_tellsAs_w (z : Int32 → Int32 → Mm → Option (Int32 × Mm)) (p1 : Int32) (p2 : Int32) (C : Mm) : Option (Int32 × Mm) :=
    if p1 = 4 then
    (Option.bind (fX11_begins 50 C) fun C24 =>
    bp' (z 0 p2 C24) fun r26 C27 =>
    some (r26 ^^^ 5, C27))
    else
    (if p1 = 7 then
    (Option.bind (fX11_begins 81 C) fun C14 =>
    bp' (z 6 p2 C14) fun r16 C17 =>
    bp' (fX11_slipsAs 12 (C17.1 72 49) 2 C17) fun r20 C21 =>
    some (r16 - r20, C21))
    else
    (Option.bind (fX11_begins 2 C) fun C4 =>
    bp' (fX11_keepsAs 12 (C4.1 72 49) p2 C4) fun r6 C7 =>
    bp' (fX11_slipsAs 12 (C7.1 72 49) 1 C7) fun r10 C11 =>
    some (r6 - r10, C11)))
def fX11_tellsAs : Nat → Int32 → Int32 → Mm → Option (Int32 × Mm)
  | 0, _, _, _ => none
  | d + 1, p1, p2, C => fX11_tellsAs_w (fX11_tellsAs d) p1 p2 C
def fX11_act (p1 : Int32) (p2 : Int32) (p3 : Int32) (C : Mm) : Option (Int32 × Mm) :=
    lt' (wrI C 72 48 0) fun C1 =>
    if (fX11_isBody p1 C1) = 0 then
    (some (0, C1))
    else
    (if p1 < (0 : Int32) ∨ 50 ≤ Int32.toNatClampNeg p1 then none else
    lt' (wrI C1 72 49 (C1.1 97 (Int32.toNatClampNeg p1))) fun C6 =>
    lt' (wrI C6 72 50 p1) fun C7 =>
    if p2 = 0 then
    (bp' (fX11_costsAs 12 (C7.1 72 49) p3 C7) fun r10 C11 =>
    some (r10, C11))
    else
    (if p2 = 1 then
    (bp' (fX11_keepsAs 12 (C7.1 72 49) p3 C7) fun r15 C16 =>
    some (r15, C16))
    else
    (if p2 = 2 then
    (bp' (fX11_slipsAs 12 (C7.1 72 49) p3 C7) fun r20 C21 =>
    some (r20, C21))
    else
    (if p2 = 3 then
    (bp' (fX11_tellsAs 12 (C7.1 72 49) p3 C7) fun r25 C26 =>
    some (r25, C26))
    else
    (some (0, C7))))))
def fX11_trace (p1 : Int32) (C : Mm) : Option Int32 :=
    if p1 < 0 then
    (some (-1))
    else
    (if (C.1 72 48) ≤ p1 then
    (some (-1))
    else
    (if 24 ≤ p1 then
    (some (-1))
    else
    (if p1 < (0 : Int32) ∨ 24 ≤ Int32.toNatClampNeg p1 then none else
    some (C.1 98 (Int32.toNatClampNeg p1)))))
def fX11_keep_b22 (y1 : Int32) (y2 : Int32) (C : Mm) : Option (Int32 × Mm) :=
    if y1 < (0 : Int32) ∨ 6 ≤ Int32.toNatClampNeg y1 then none else
    lt' (wrI C 99 (Int32.toNatClampNeg y1) y2) fun C2 =>
    if y1 < (0 : Int32) ∨ 6 ≤ Int32.toNatClampNeg y1 then none else
    lt' (wrI C2 100 (Int32.toNatClampNeg y1) 0) fun C4 =>
    some (1, C4)
def fX11_keep (p1 : Int32) (p2 : Int32) (C : Mm) : Option (Int32 × Mm) :=
    if (fX11_isShelf p1) = 0 then
    (some ((-1), C))
    else
    (if p2 = (-1) then
    (fX11_keep_b22 p1 p2 C)
    else
    (if (fX11_isBody p2 C) = 0 then
    (some ((-1), C))
    else
    (fX11_keep_b22 p1 p2 C)))
def fX11_row_h57 (n : Nat) : Nat → Int32 → Int32 → Mm → Option (Int32 × Mm)
  | 0, _, _, _ => none
  | fu + 1, y1, y4, C =>
    if ((60 * y1) + 60) ≤ y4 then
    (some (1, C))
    else
    (if y4 < (0 : Int32) ∨ 360 ≤ Int32.toNatClampNeg y4 then none else
    lt' (wrL C 101 (Int32.toNatClampNeg y4) 0) fun C3 =>
    lt' (y4 + 1) fun x4 =>
    fX11_row_h57 n fu y1 x4 C3)
def fX11_row (n : Nat) (p1 : Int32) (p2 : Int32) (p3 : Int32) (C : Mm) : Option (Int32 × Mm) :=
    if (fX11_isShelf p1) = 0 then
    (some ((-1), C))
    else
    (if (fX11_within (Int32.toInt64 p2) 0 4) = 0 then
    (some ((-1), C))
    else
    (if p3 ≤ 60 then
    (if 0 ≤ p3 then
    (if p1 < (0 : Int32) ∨ 6 ≤ Int32.toNatClampNeg p1 then none else
    lt' (wrI C 99 (Int32.toNatClampNeg p1) (50 + p2)) fun C14 =>
    if p1 < (0 : Int32) ∨ 6 ≤ Int32.toNatClampNeg p1 then none else
    lt' (wrI C14 100 (Int32.toNatClampNeg p1) p3) fun C16 =>
    lt' (60 * p1) fun x17 =>
    fX11_row_h57 n n p1 x17 C16)
    else
    (some ((-14), C)))
    else
    (some ((-1), C))))
def fX11_refusal (p1 : Int32) (p2 : Int32) (C : Mm) : Option Int32 :=
    if (fX11_isShelf p1) = 0 then
    (some (-1))
    else
    (if p1 < (0 : Int32) ∨ 6 ≤ Int32.toNatClampNeg p1 then none else
    if 0 ≤ (C.1 99 (Int32.toNatClampNeg p1)) then
    (if p1 < (0 : Int32) ∨ 6 ≤ Int32.toNatClampNeg p1 then none else
    if 50 ≤ (C.1 99 (Int32.toNatClampNeg p1)) then
    (if p2 < 0 then
    (some (-13))
    else
    (if p1 < (0 : Int32) ∨ 6 ≤ Int32.toNatClampNeg p1 then none else
    if (C.1 100 (Int32.toNatClampNeg p1)) ≤ p2 then
    (some (-13))
    else
    (some 0)))
    else
    (some (-12)))
    else
    (some (-11)))
def fX11_asSort (p0 : Int32) (p1 : Int64) : Int64 :=
    if p0 = 0 then
    (Int32.toInt64 (Int8.toInt32 (Int32.toInt8 (Int64.toInt32 p1))))
    else
    (if p0 = 1 then
    (Int32.toInt64 (Int16.toInt32 (Int32.toInt16 (Int64.toInt32 p1))))
    else
    (if p0 = 2 then
    (Int32.toInt64 (Int64.toInt32 p1))
    else
    (if p0 = 4 then
    (if (lg_cmp p1 0) = 0 then
    (0)
    else
    (1))
    else
    (p1))))
def fX11_put_b37 (y5 : Int32) (C : Mm) : Option (Int32 × Mm) :=
    if y5 = 0 then
    (some (1, C))
    else
    (some (y5, C))
def fX11_put (p1 : Int32) (p2 : Int32) (p3 : Int64) (C : Mm) : Option (Int32 × Mm) :=
    Option.bind (fX11_refusal p1 p2 C) fun r3 =>
    if r3 = 0 then
    (if p1 < (0 : Int32) ∨ 6 ≤ Int32.toNatClampNeg p1 then none else
    if ((60 * p1) + p2) < (0 : Int32) ∨ 360 ≤ Int32.toNatClampNeg ((60 * p1) + p2) then none else
    lt' (wrL C 101 (Int32.toNatClampNeg ((60 * p1) + p2)) (fX11_asSort ((C.1 99 (Int32.toNatClampNeg p1)) - 50) p3)) fun C9 =>
    fX11_put_b37 r3 C9)
    else
    (fX11_put_b37 r3 C)
def fX11_element (p1 : Int32) (p2 : Int32) (C : Mm) : Option Int64 :=
    Option.bind (fX11_refusal p1 p2 C) fun r2 =>
    if r2 = 0 then
    (if ((60 * p1) + p2) < (0 : Int32) ∨ 360 ≤ Int32.toNatClampNeg ((60 * p1) + p2) then none else
    some (C.2 101 (Int32.toNatClampNeg ((60 * p1) + p2))))
    else
    (some (-9223372036854775808))
def fX11_shift_h150 (n : Nat) : Nat → Int32 → Int32 → Int32 → Int32 → Mm → Option (Int32 × Mm)
  | 0, _, _, _, _, _ => none
  | fu + 1, y3, y4, y5, y6, C =>
    if y5 ≤ y6 then
    (some (y5, C))
    else
    (if y6 < (0 : Int32) ∨ 60 ≤ Int32.toNatClampNeg y6 then none else
    if (((60 * y3) + y4) + y6) < (0 : Int32) ∨ 360 ≤ Int32.toNatClampNeg (((60 * y3) + y4) + y6) then none else
    lt' (wrL C 101 (Int32.toNatClampNeg (((60 * y3) + y4) + y6)) (C.2 102 (Int32.toNatClampNeg y6))) fun C4 =>
    lt' (y6 + 1) fun x5 =>
    fX11_shift_h150 n fu y3 y4 y5 x5 C4)
def fX11_shift_h113 (n : Nat) : Nat → Int32 → Int32 → Int32 → Int32 → Int32 → Int32 → Mm → Option (Int32 × Mm)
  | 0, _, _, _, _, _, _, _ => none
  | fu + 1, y1, y2, y3, y4, y5, y6, C =>
    if y5 ≤ y6 then
    (fX11_shift_h150 n n y3 y4 y5 0 C)
    else
    (if (((60 * y1) + y2) + y6) < (0 : Int32) ∨ 360 ≤ Int32.toNatClampNeg (((60 * y1) + y2) + y6) then none else
    if y6 < (0 : Int32) ∨ 60 ≤ Int32.toNatClampNeg y6 then none else
    lt' (wrL C 102 (Int32.toNatClampNeg y6) (C.2 101 (Int32.toNatClampNeg (((60 * y1) + y2) + y6)))) fun C9 =>
    lt' (y6 + 1) fun x10 =>
    fX11_shift_h113 n fu y1 y2 y3 y4 y5 x10 C9)
def fX11_shift (n : Nat) (p1 : Int32) (p2 : Int32) (p3 : Int32) (p4 : Int32) (p5 : Int32) (C : Mm) : Option (Int32 × Mm) :=
    if (fX11_isShelf p1) = 0 then
    (some ((-1), C))
    else
    (if (fX11_isShelf p3) = 0 then
    (some ((-1), C))
    else
    (if p1 < (0 : Int32) ∨ 6 ≤ Int32.toNatClampNeg p1 then none else
    if (C.1 99 (Int32.toNatClampNeg p1)) < 0 then
    (some ((-11), C))
    else
    (if p3 < (0 : Int32) ∨ 6 ≤ Int32.toNatClampNeg p3 then none else
    if 0 ≤ (C.1 99 (Int32.toNatClampNeg p3)) then
    (if p1 < (0 : Int32) ∨ 6 ≤ Int32.toNatClampNeg p1 then none else
    if (C.1 99 (Int32.toNatClampNeg p1)) < 50 then
    (some ((-12), C))
    else
    (if p1 < (0 : Int32) ∨ 6 ≤ Int32.toNatClampNeg p1 then none else
    if p3 < (0 : Int32) ∨ 6 ≤ Int32.toNatClampNeg p3 then none else
    if (C.1 99 (Int32.toNatClampNeg p1)) = (C.1 99 (Int32.toNatClampNeg p3)) then
    (if p5 < 0 then
    (some ((-13), C))
    else
    (if p2 < 0 then
    (some ((-13), C))
    else
    (if p4 < 0 then
    (some ((-13), C))
    else
    (if p1 < (0 : Int32) ∨ 6 ≤ Int32.toNatClampNeg p1 then none else
    if ((C.1 100 (Int32.toNatClampNeg p1)) - p5) < p2 then
    (some ((-13), C))
    else
    (if p3 < (0 : Int32) ∨ 6 ≤ Int32.toNatClampNeg p3 then none else
    if p4 ≤ ((C.1 100 (Int32.toNatClampNeg p3)) - p5) then
    (fX11_shift_h113 n n p1 p2 p3 p4 p5 0 C)
    else
    (some ((-13), C)))))))
    else
    (some ((-12), C))))
    else
    (some ((-11), C)))))
def fX11_taken_b75 (n : Nat) (y1 : Int32) (y2 : Int32) (y3 : Int32) (C : Mm) : Option Int32 :=
    if y3 = y2 then
    (if y1 < (0 : Int32) ∨ 6 ≤ Int32.toNatClampNeg y1 then none else
    Option.bind (fX11_kindOf (C.1 99 (Int32.toNatClampNeg y1)) C) fun r4 =>
    some r4)
    else
    (some (-12))
def fX11_taken_h58 (n : Nat) : Nat → Int32 → Int32 → Int32 → Mm → Option Int32
  | 0, _, _, _, _ => none
  | fu + 1, y1, y2, y3, C =>
    if y3 = y2 then
    (fX11_taken_b75 n y1 y2 y3 C)
    else
    (if y3 ≤ 0 then
    (fX11_taken_b75 n y1 y2 y3 C)
    else
    (lt' (fX11_above y3) fun x10 =>
    fX11_taken_h58 n fu y1 y2 x10 C))
def fX11_taken (n : Nat) (p1 : Int32) (p2 : Int32) (C : Mm) : Option Int32 :=
    if (fX11_isShelf p1) = 0 then
    (some (-1))
    else
    (if (fX11_within (Int32.toInt64 p2) 0 7) = 0 then
    (some (-1))
    else
    (if p1 < (0 : Int32) ∨ 6 ≤ Int32.toNatClampNeg p1 then none else
    if 0 ≤ (C.1 99 (Int32.toNatClampNeg p1)) then
    (if p1 < (0 : Int32) ∨ 6 ≤ Int32.toNatClampNeg p1 then none else
    if (C.1 99 (Int32.toNatClampNeg p1)) < 50 then
    (if p1 < (0 : Int32) ∨ 6 ≤ Int32.toNatClampNeg p1 then none else
    Option.bind (fX11_kindOf (C.1 99 (Int32.toNatClampNeg p1)) C) fun r23 =>
    fX11_taken_h58 n n p1 p2 r23 C)
    else
    (some (-12)))
    else
    (some (-11))))
def fX11_count (p1 : Int32) (C : Mm) : Int32 :=
    if p1 = 0 then
    (C.1 72 16)
    else
    (if p1 = 1 then
    (C.1 72 33)
    else
    (if p1 = 2 then
    (C.1 72 7)
    else
    (if p1 = 3 then
    (C.1 72 37)
    else
    (if p1 = 4 then
    (C.1 72 5)
    else
    (if p1 = 5 then
    (C.1 72 45)
    else
    (if p1 = 6 then
    (C.1 72 48)
    else
    ((-1))))))))
