set_option maxHeartbeats 4000000 in
set_option maxRecDepth 100000 in
theorem mX11_within (l : Launch) (G : gp) (Cm : Mm) {p0 : Int64} {p2 : Int64} {p4 : Int64} {C : Mm} {r0 : Int32} (h : fX11_within p0 p2 p4 = r0) : Met l yX11_within (wsy yX11_within cX11_within 6 (some .boolean)) (rmv 0 0) (va_Pc [.long p0, .long p2, .long p4] (Rl G (Cm, C))) (Qi G PZ r0 (Cm, C)) 0 0 (lwA G) := by
  refine met_i [.long p0, .long p2, .long p4] wX11_within.2.2.2.2 (Nat.le_of_ble_eq_true rfl) ?_
  intro p e s m args below meth c ls hC hr hP hl
  have hC : Cx G p s m args meth c cX11_within RX11 6 := hC
  have hx := hC.1
  have hb := hC.2.1
  have hown := hC.2.2.2.1
  have hts := hC.2.2.2.2.1
  have hS : va_S (lwA G) s.heap s.heap [] := va_S.rf
  have hl : lv_has ls 6 [(0, .long p0), (2, .long p2), (4, .long p4)] := hl
  unfold fX11_within at h
  refine lv_lload_n hx hb dX11_within_0 rfl (lv_at hl 0 rfl) ?_
  refine lv_lload_n hx hb dX11_within_1 rfl (lv_at hl 1 rfl) ?_
  refine W.lcmp hx hb dX11_within_2 ?_
  refine lv_if_lt (tgt := 17) hx hb dX11_within_3 (by decide) (fun c1 => ?_) (fun c1 => ?_)
  · replace h := it_t c1 h
    refine lv_iconst (v := 0) hx hb dX11_within_17 (by decide) ?_
    exact re_z' hC hr hP hS PZ0 h rfl dX11_within_18
  · replace h := it_f c1 h
    refine lv_lload_n hx hb dX11_within_6 rfl (lv_at hl 0 rfl) ?_
    refine lv_lload hx hb dX11_within_7 (lv_at hl 2 rfl) ?_
    refine W.lcmp hx hb dX11_within_9 ?_
    refine lv_if_gt (tgt := 17) hx hb dX11_within_10 (by decide) (fun c2 => ?_) (fun c2 => ?_)
    · replace h := it_t c2 h
      refine lv_iconst (v := 0) hx hb dX11_within_17 (by decide) ?_
      exact re_z' hC hr hP hS PZ0 h rfl dX11_within_18
    · replace h := it_f c2 h
      refine lv_iconst (v := 1) hx hb dX11_within_13 (by decide) ?_
      refine lv_goto (tgt := 18) hx hb dX11_within_14 (by decide) ?_
      exact re_z' hC hr hP hS PZ1 h rfl dX11_within_18
set_option maxHeartbeats 4000000 in
set_option maxRecDepth 100000 in
theorem mX11_size (l : Launch) (G : gp) (Cm : Mm) {p0 : Int32} {C : Mm} {r0 : Int32} (h : fX11_size p0 = r0) : Met l yX11_size (wsy yX11_size cX11_size 1 (some .int)) (rmv 0 0) (va_Pc [.int p0] (Rl G (Cm, C))) (Qi G PT r0 (Cm, C)) 0 0 (lwA G) := by
  refine met_i [.int p0] wX11_size.2.2.2.2 (Nat.le_of_ble_eq_true rfl) ?_
  intro p e s m args below meth c ls hC hr hP hl
  have hC : Cx G p s m args meth c cX11_size RX11 1 := hC
  have hx := hC.1
  have hb := hC.2.1
  have hown := hC.2.2.2.1
  have hts := hC.2.2.2.2.1
  have hS : va_S (lwA G) s.heap s.heap [] := va_S.rf
  have hl : lv_has ls 1 [(0, .int p0)] := hl
  unfold fX11_size at h
  refine lv_iload_n hx hb dX11_size_0 rfl (lv_at hl 0 rfl) ?_
  refine lv_if_ge (tgt := 9) hx hb dX11_size_1 (by decide) (fun c1 => ?_) (fun c1 => ?_)
  · replace h := it_t c1 h
    refine lv_iload_n hx hb dX11_size_9 rfl (lv_at hl 0 rfl) ?_
    exact re_i' hC hr hP hS h rfl dX11_size_10
  · replace h := it_f c1 h
    refine lv_iload_n hx hb dX11_size_4 rfl (lv_at hl 0 rfl) ?_
    refine lv_ineg hx hb dX11_size_5 ?_
    refine lv_goto (tgt := 10) hx hb dX11_size_6 (by decide) ?_
    exact re_i' hC hr hP hS h rfl dX11_size_10
set_option maxHeartbeats 4000000 in
set_option maxRecDepth 100000 in
theorem mX11_becomes (l : Launch) (G : gp) (Cm : Mm) {n : Nat} {p1 : Int32} {p2 : Int32} {C : Mm} {r0 : Int32} {C0 : Mm} (h : fX11_becomes n p1 p2 C = some (r0, C0)) : Met l yX11_becomes (wsy yX11_becomes cX11_becomes 5 (some .int)) (rmv 0 0) (va_Pc [.ref (gA G 72), .int p1, .int p2] (Rl G (Cm, C))) (Qi G PT r0 (Cm, C0)) 0 0 (lwA G) := by
  refine met_i [.ref (gA G 72), .int p1, .int p2] wX11_becomes.2.2.2.2.2 (Nat.le_of_ble_eq_true rfl) ?_
  intro p e s m args below meth c ls hC hr hP hl
  have hC : Cx G p s m args meth c cX11_becomes RX11 5 := hC
  have hx := hC.1
  have hb := hC.2.1
  have hown := hC.2.2.2.1
  have hts := hC.2.2.2.2.1
  have hS : va_S (lwA G) s.heap s.heap [] := va_S.rf
  have hl : lv_has ls 5 [(0, .ref (gA G 72)), (1, .int p1), (2, .int p2)] := hl
  have bl97 : ∀ (y1 : Int32) (y2 : Int32) (y3 : Int32) (C : Mm) (H : Heap) (locs : List Loc) (ls : Array Slot), fX11_becomes_b97 n y1 y2 y3 C = some (r0, C0) → lv_has ls 5 [(0, .ref (gA G 72)), (1, .int y1), (2, .int y2), (3, .int y3)] → va_P (gD G) vwCl (wld G (Cm, C)) H → va_S (lwA G) s.heap H locs → W p l e (rmv 0 0) s m args below meth c H locs 0 0 (MQ below (Qi G PT r0 (Cm, C0)) args s 0 0 (lwA G)) (F0 m 97 ls []) := by
    intro y1 y2 y3 C H locs ls h hl hP hS
    unfold fX11_becomes_b97 at h
    refine lv_aload_n hx hb dX11_becomes_97 rfl (lv_at hl 0 rfl) ?_
    refine r_get (v := .ref (gA G 74)) hC inX11 hP (e_72 G _) rfl 1 (by decide) rfl k1051 rfl dX11_becomes_98 ?_
    refine lv_aload_n hx hb dX11_becomes_101 rfl (lv_at hl 0 rfl) ?_
    refine r_get (v := .int (C.1 72 5)) hC inX11 hP (e_72 G _) rfl 5 (by decide) rfl k1055 rfl dX11_becomes_102 ?_
    refine lv_iload_n hx hb dX11_becomes_105 rfl (lv_at hl 1 rfl) ?_
    by_cases c1 : (C.1 72 5) < (0 : Int32) ∨ 40 ≤ Int32.toNatClampNeg (C.1 72 5)
    · cases it_t c1 h
    replace h := it_f c1 h
    obtain ⟨C2, eC2⟩ : ∃ Z : Mm, Z = wrI C 74 (Int32.toNatClampNeg (C.1 72 5)) y1 := ⟨_, rfl⟩
    replace h := lt_y eC2 h
    refine r_iast (X' := (Cm, C2)) hC hP hS (e_74 G _) c1 (a_74 G _ _ _ _ eC2) dX11_becomes_106 (fun H locs hP hS => ?_)
    refine lv_aload_n hx hb dX11_becomes_107 rfl (lv_at hl 0 rfl) ?_
    refine r_get (v := .ref (gA G 75)) hC inX11 hP (e_72 G _) rfl 2 (by decide) rfl k1052 rfl dX11_becomes_108 ?_
    refine lv_aload_n hx hb dX11_becomes_111 rfl (lv_at hl 0 rfl) ?_
    refine r_get (v := .int (C2.1 72 5)) hC inX11 hP (e_72 G _) rfl 5 (by decide) rfl k1055 rfl dX11_becomes_112 ?_
    refine lv_iload_n hx hb dX11_becomes_115 rfl (lv_at hl 3 rfl) ?_
    by_cases c3 : (C2.1 72 5) < (0 : Int32) ∨ 40 ≤ Int32.toNatClampNeg (C2.1 72 5)
    · cases it_t c3 h
    replace h := it_f c3 h
    obtain ⟨C4, eC4⟩ : ∃ Z : Mm, Z = wrI C2 75 (Int32.toNatClampNeg (C2.1 72 5)) y3 := ⟨_, rfl⟩
    replace h := lt_y eC4 h
    refine r_iast (X' := (Cm, C4)) hC hP hS (e_75 G _) c3 (a_75 G _ _ _ _ eC4) dX11_becomes_116 (fun H locs hP hS => ?_)
    refine lv_aload_n hx hb dX11_becomes_117 rfl (lv_at hl 0 rfl) ?_
    refine r_get (v := .ref (gA G 76)) hC inX11 hP (e_72 G _) rfl 3 (by decide) rfl k1053 rfl dX11_becomes_118 ?_
    refine lv_aload_n hx hb dX11_becomes_121 rfl (lv_at hl 0 rfl) ?_
    refine r_get (v := .int (C4.1 72 5)) hC inX11 hP (e_72 G _) rfl 5 (by decide) rfl k1055 rfl dX11_becomes_122 ?_
    refine lv_iload_n hx hb dX11_becomes_125 rfl (lv_at hl 2 rfl) ?_
    by_cases c5 : (C4.1 72 5) < (0 : Int32) ∨ 40 ≤ Int32.toNatClampNeg (C4.1 72 5)
    · cases it_t c5 h
    replace h := it_f c5 h
    obtain ⟨C6, eC6⟩ : ∃ Z : Mm, Z = wrI C4 76 (Int32.toNatClampNeg (C4.1 72 5)) y2 := ⟨_, rfl⟩
    replace h := lt_y eC6 h
    refine r_iast (X' := (Cm, C6)) hC hP hS (e_76 G _) c5 (a_76 G _ _ _ _ eC6) dX11_becomes_126 (fun H locs hP hS => ?_)
    refine lv_aload_n hx hb dX11_becomes_127 rfl (lv_at hl 0 rfl) ?_
    refine lv_dup hx hb dX11_becomes_128 rfl ?_
    refine r_get (v := .int (C6.1 72 5)) hC inX11 hP (e_72 G _) rfl 5 (by decide) rfl k1055 rfl dX11_becomes_129 ?_
    refine lv_iconst (v := 1) hx hb dX11_becomes_132 (by decide) ?_
    refine lv_iadd hx hb dX11_becomes_133 ?_
    obtain ⟨C7, eC7⟩ : ∃ Z : Mm, Z = wrI C6 72 5 ((C6.1 72 5) + 1) := ⟨_, rfl⟩
    replace h := lt_y eC7 h
    refine r_put (X' := (Cm, C7)) hC inX11 tyX11 tyX11_ok nmX11 hP hS (e_72 G _) rfl 5 (by decide) rfl k1055 rfl (v := .int ((C6.1 72 5) + 1)) rfl rfl (Nat.le_of_ble_eq_true rfl) (p_72_5 G _ _ eC7) dX11_becomes_134 (fun H locs hP hS => ?_)
    refine lv_aload_n hx hb dX11_becomes_137 rfl (lv_at hl 0 rfl) ?_
    refine lv_aload_n hx hb dX11_becomes_138 rfl (lv_at hl 0 rfl) ?_
    refine r_get (v := .int (C7.1 72 5)) hC inX11 hP (e_72 G _) rfl 5 (by decide) rfl k1055 rfl dX11_becomes_139 ?_
    obtain ⟨C8, eC8⟩ : ∃ Z : Mm, Z = wrI C7 72 4 (C7.1 72 5) := ⟨_, rfl⟩
    replace h := lt_y eC8 h
    refine r_put (X' := (Cm, C8)) hC inX11 tyX11 tyX11_ok nmX11 hP hS (e_72 G _) rfl 4 (by decide) rfl k1054 rfl (v := .int (C7.1 72 5)) rfl rfl (Nat.le_of_ble_eq_true rfl) (p_72_4 G _ _ eC8) dX11_becomes_142 (fun H locs hP hS => ?_)
    refine lv_aload_n hx hb dX11_becomes_145 rfl (lv_at hl 0 rfl) ?_
    refine r_get (v := .ref (gA G 73)) hC inX11 hP (e_72 G _) rfl 0 (by decide) rfl k1050 rfl dX11_becomes_146 ?_
    refine lv_iload_n hx hb dX11_becomes_149 rfl (lv_at hl 1 rfl) ?_
    refine lv_iload_n hx hb dX11_becomes_150 rfl (lv_at hl 2 rfl) ?_
    by_cases c9 : y1 < (0 : Int32) ∨ 30 ≤ Int32.toNatClampNeg y1
    · cases it_t c9 h
    replace h := it_f c9 h
    obtain ⟨C10, eC10⟩ : ∃ Z : Mm, Z = wrI C8 73 (Int32.toNatClampNeg y1) y2 := ⟨_, rfl⟩
    replace h := lt_y eC10 h
    refine r_iast (X' := (Cm, C10)) hC hP hS (e_73 G _) c9 (a_73 G _ _ _ _ eC10) dX11_becomes_151 (fun H locs hP hS => ?_)
    refine lv_iload_n hx hb dX11_becomes_152 rfl (lv_at hl 3 rfl) ?_
    exact re_i' hC hr hP hS (pr_1 h) (congrArg (fun Z : Mm => (Cm, Z)) (pr_2 h)) dX11_becomes_153
  have bl26 : ∀ (fu : Nat), ∀ (y1 : Int32) (y2 : Int32) (y3 : Int32) (y4 : Int32) (C : Mm) (H : Heap) (locs : List Loc) (ls : Array Slot), fX11_becomes_h26 n fu y1 y2 y3 y4 C = some (r0, C0) → lv_has ls 5 [(0, .ref (gA G 72)), (1, .int y1), (2, .int y2), (3, .int y3), (4, .int y4)] → va_P (gD G) vwCl (wld G (Cm, C)) H → va_S (lwA G) s.heap H locs → W p l e (rmv 0 0) s m args below meth c H locs 0 0 (MQ below (Qi G PT r0 (Cm, C0)) args s 0 0 (lwA G)) (F0 m 26 ls []) := by
    intro fu
    induction fu with
    | zero =>
      intro y1 y2 y3 y4 C H locs ls h hl hP hS
      rw [fX11_becomes_h26.eq_1] at h
      cases h
    | succ fu ih =>
      intro y1 y2 y3 y4 C H locs ls h hl hP hS
      rw [fX11_becomes_h26.eq_2] at h
      refine lv_iload hx hb dX11_becomes_26 (lv_at hl 4 rfl) ?_
      refine lv_bipush (v := 40) hx hb dX11_becomes_28 (by decide) ?_
      refine lv_icmp_ge (tgt := 87) hx hb dX11_becomes_30 (by decide) (fun c11 => ?_) (fun c11 => ?_)
      · replace h := it_t c11 h
        refine lv_aload_n hx hb dX11_becomes_87 rfl (lv_at hl 0 rfl) ?_
        refine lv_dup hx hb dX11_becomes_88 rfl ?_
        refine r_get (v := .int (C.1 72 5)) hC inX11 hP (e_72 G _) rfl 5 (by decide) rfl k1055 rfl dX11_becomes_89 ?_
        refine lv_iconst (v := 1) hx hb dX11_becomes_92 (by decide) ?_
        refine lv_isub hx hb dX11_becomes_93 ?_
        obtain ⟨C12, eC12⟩ : ∃ Z : Mm, Z = wrI C 72 5 ((C.1 72 5) - 1) := ⟨_, rfl⟩
        replace h := lt_y eC12 h
        refine r_put (X' := (Cm, C12)) hC inX11 tyX11 tyX11_ok nmX11 hP hS (e_72 G _) rfl 5 (by decide) rfl k1055 rfl (v := .int ((C.1 72 5) - 1)) rfl rfl (Nat.le_of_ble_eq_true rfl) (p_72_5 G _ _ eC12) dX11_becomes_94 (fun H locs hP hS => ?_)
        exact bl97 y1 y2 y3 C12 _ _ _ h (lv_sub hl [0, 1, 2, 3] rfl) hP hS
      · replace h := it_f c11 h
        refine lv_aload_n hx hb dX11_becomes_33 rfl (lv_at hl 0 rfl) ?_
        refine r_get (v := .ref (gA G 74)) hC inX11 hP (e_72 G _) rfl 1 (by decide) rfl k1051 rfl dX11_becomes_34 ?_
        refine lv_iload hx hb dX11_becomes_37 (lv_at hl 4 rfl) ?_
        refine lv_iconst (v := 1) hx hb dX11_becomes_39 (by decide) ?_
        refine lv_isub hx hb dX11_becomes_40 ?_
        refine lv_aload_n hx hb dX11_becomes_41 rfl (lv_at hl 0 rfl) ?_
        refine r_get (v := .ref (gA G 74)) hC inX11 hP (e_72 G _) rfl 1 (by decide) rfl k1051 rfl dX11_becomes_42 ?_
        refine lv_iload hx hb dX11_becomes_45 (lv_at hl 4 rfl) ?_
        by_cases c13 : y4 < (0 : Int32) ∨ 40 ≤ Int32.toNatClampNeg y4
        · cases it_t c13 h
        replace h := it_f c13 h
        refine r_iald hC hP (f := C.1 74) (e_74 G _) c13 dX11_becomes_47 ?_
        by_cases c14 : (y4 - 1) < (0 : Int32) ∨ 40 ≤ Int32.toNatClampNeg (y4 - 1)
        · cases it_t c14 h
        replace h := it_f c14 h
        obtain ⟨C15, eC15⟩ : ∃ Z : Mm, Z = wrI C 74 (Int32.toNatClampNeg (y4 - 1)) (C.1 74 (Int32.toNatClampNeg y4)) := ⟨_, rfl⟩
        replace h := lt_y eC15 h
        refine r_iast (X' := (Cm, C15)) hC hP hS (e_74 G _) c14 (a_74 G _ _ _ _ eC15) dX11_becomes_48 (fun H locs hP hS => ?_)
        refine lv_aload_n hx hb dX11_becomes_49 rfl (lv_at hl 0 rfl) ?_
        refine r_get (v := .ref (gA G 75)) hC inX11 hP (e_72 G _) rfl 2 (by decide) rfl k1052 rfl dX11_becomes_50 ?_
        refine lv_iload hx hb dX11_becomes_53 (lv_at hl 4 rfl) ?_
        refine lv_iconst (v := 1) hx hb dX11_becomes_55 (by decide) ?_
        refine lv_isub hx hb dX11_becomes_56 ?_
        refine lv_aload_n hx hb dX11_becomes_57 rfl (lv_at hl 0 rfl) ?_
        refine r_get (v := .ref (gA G 75)) hC inX11 hP (e_72 G _) rfl 2 (by decide) rfl k1052 rfl dX11_becomes_58 ?_
        refine lv_iload hx hb dX11_becomes_61 (lv_at hl 4 rfl) ?_
        by_cases c16 : y4 < (0 : Int32) ∨ 40 ≤ Int32.toNatClampNeg y4
        · cases it_t c16 h
        replace h := it_f c16 h
        refine r_iald hC hP (f := C15.1 75) (e_75 G _) c16 dX11_becomes_63 ?_
        by_cases c17 : (y4 - 1) < (0 : Int32) ∨ 40 ≤ Int32.toNatClampNeg (y4 - 1)
        · cases it_t c17 h
        replace h := it_f c17 h
        obtain ⟨C18, eC18⟩ : ∃ Z : Mm, Z = wrI C15 75 (Int32.toNatClampNeg (y4 - 1)) (C15.1 75 (Int32.toNatClampNeg y4)) := ⟨_, rfl⟩
        replace h := lt_y eC18 h
        refine r_iast (X' := (Cm, C18)) hC hP hS (e_75 G _) c17 (a_75 G _ _ _ _ eC18) dX11_becomes_64 (fun H locs hP hS => ?_)
        refine lv_aload_n hx hb dX11_becomes_65 rfl (lv_at hl 0 rfl) ?_
        refine r_get (v := .ref (gA G 76)) hC inX11 hP (e_72 G _) rfl 3 (by decide) rfl k1053 rfl dX11_becomes_66 ?_
        refine lv_iload hx hb dX11_becomes_69 (lv_at hl 4 rfl) ?_
        refine lv_iconst (v := 1) hx hb dX11_becomes_71 (by decide) ?_
        refine lv_isub hx hb dX11_becomes_72 ?_
        refine lv_aload_n hx hb dX11_becomes_73 rfl (lv_at hl 0 rfl) ?_
        refine r_get (v := .ref (gA G 76)) hC inX11 hP (e_72 G _) rfl 3 (by decide) rfl k1053 rfl dX11_becomes_74 ?_
        refine lv_iload hx hb dX11_becomes_77 (lv_at hl 4 rfl) ?_
        by_cases c19 : y4 < (0 : Int32) ∨ 40 ≤ Int32.toNatClampNeg y4
        · cases it_t c19 h
        replace h := it_f c19 h
        refine r_iald hC hP (f := C18.1 76) (e_76 G _) c19 dX11_becomes_79 ?_
        by_cases c20 : (y4 - 1) < (0 : Int32) ∨ 40 ≤ Int32.toNatClampNeg (y4 - 1)
        · cases it_t c20 h
        replace h := it_f c20 h
        obtain ⟨C21, eC21⟩ : ∃ Z : Mm, Z = wrI C18 76 (Int32.toNatClampNeg (y4 - 1)) (C18.1 76 (Int32.toNatClampNeg y4)) := ⟨_, rfl⟩
        replace h := lt_y eC21 h
        refine r_iast (X' := (Cm, C21)) hC hP hS (e_76 G _) c20 (a_76 G _ _ _ _ eC21) dX11_becomes_80 (fun H locs hP hS => ?_)
        obtain ⟨x22, ex22⟩ : ∃ y : Int32, y = y4 + 1 := ⟨_, rfl⟩
        replace h := lt_y ex22 h
        refine lv_iinc (v := x22) (lv' := [(4, .int x22), (0, .ref (gA G 72)), (1, .int y1), (2, .int y2), (3, .int y3)]) hx hb dX11_becomes_81 hl (k := 4) rfl (by rw [ex22]; rfl) (by decide) rfl (fun ls hl => ?_)
        refine lv_goto (tgt := 26) hx hb dX11_becomes_84 (by decide) ?_
        exact ih y1 y2 y3 x22 C21 _ _ _ h (lv_sub hl [1, 2, 3, 4, 0] rfl) hP hS
  unfold fX11_becomes at h
  refine lv_aload_n hx hb dX11_becomes_0 rfl (lv_at hl 0 rfl) ?_
  refine r_get (v := .ref (gA G 73)) hC inX11 hP (e_72 G _) rfl 0 (by decide) rfl k1050 rfl dX11_becomes_1 ?_
  refine lv_iload_n hx hb dX11_becomes_4 rfl (lv_at hl 1 rfl) ?_
  by_cases c23 : p1 < (0 : Int32) ∨ 30 ≤ Int32.toNatClampNeg p1
  · cases it_t c23 h
  replace h := it_f c23 h
  refine r_iald hC hP (f := C.1 73) (e_73 G _) c23 dX11_becomes_5 ?_
  refine lv_topi (fun x24 ex24 => ?_)
  replace h := lt_y ex24 h
  refine lv_istore_n (lv' := [(3, .int x24), (0, .ref (gA G 72)), (1, .int p1), (2, .int p2)]) hx hb dX11_becomes_6 rfl hl (by decide) rfl (fun ls hl => ?_)
  refine lv_iload_n hx hb dX11_becomes_7 rfl (lv_at hl 0 rfl) ?_
  refine lv_iload_n hx hb dX11_becomes_8 rfl (lv_at hl 3 rfl) ?_
  refine lv_icmp_ne (tgt := 14) hx hb dX11_becomes_9 (by decide) (fun c25 => ?_) (fun c25 => ?_)
  · replace h := it_f c25 h
    refine lv_aload_n hx hb dX11_becomes_14 rfl (lv_at hl 1 rfl) ?_
    refine r_get (v := .int (C.1 72 5)) hC inX11 hP (e_72 G _) rfl 5 (by decide) rfl k1055 rfl dX11_becomes_15 ?_
    refine lv_bipush (v := 40) hx hb dX11_becomes_18 (by decide) ?_
    refine lv_icmp_ne (tgt := 97) hx hb dX11_becomes_20 (by decide) (fun c26 => ?_) (fun c26 => ?_)
    · replace h := it_f c26 h
      exact bl97 p1 p2 x24 C _ _ _ h (lv_sub hl [1, 2, 3, 0] rfl) hP hS
    · replace h := it_t c26 h
      refine lv_iconst (v := 1) hx hb dX11_becomes_23 (by decide) ?_
      refine lv_istore (lv' := [(4, .int 1), (3, .int x24), (0, .ref (gA G 72)), (1, .int p1), (2, .int p2)]) hx hb dX11_becomes_24 hl (by decide) rfl (fun ls hl => ?_)
      exact bl26 n p1 p2 x24 1 C _ _ _ h (lv_sub hl [2, 3, 4, 1, 0] rfl) hP hS
  · replace h := it_t c25 h
    refine lv_iload_n hx hb dX11_becomes_12 rfl (lv_at hl 0 rfl) ?_
    exact re_i' hC hr hP hS (pr_1 h) (congrArg (fun Z : Mm => (Cm, Z)) (pr_2 h)) dX11_becomes_13
set_option maxHeartbeats 4000000 in
set_option maxRecDepth 100000 in
theorem mX11_undo (l : Launch) (G : gp) (Cm : Mm) {C : Mm} {r0 : Int32} {C0 : Mm} (h : fX11_undo C = some (r0, C0)) : Met l yX11_undo (wsy yX11_undo cX11_undo 1 (some .int)) (rmv 0 0) (va_Pc [.ref (gA G 72)] (Rl G (Cm, C))) (Qi G PT r0 (Cm, C0)) 0 0 (lwA G) := by
  refine met_i [.ref (gA G 72)] wX11_undo.2.2.2.2.2 (Nat.le_of_ble_eq_true rfl) ?_
  intro p e s m args below meth c ls hC hr hP hl
  have hC : Cx G p s m args meth c cX11_undo RX11 1 := hC
  have hx := hC.1
  have hb := hC.2.1
  have hown := hC.2.2.2.1
  have hts := hC.2.2.2.2.1
  have hS : va_S (lwA G) s.heap s.heap [] := va_S.rf
  have hl : lv_has ls 1 [(0, .ref (gA G 72))] := hl
  unfold fX11_undo at h
  refine lv_aload_n hx hb dX11_undo_0 rfl (lv_at hl 0 rfl) ?_
  refine r_get (v := .int (C.1 72 5)) hC inX11 hP (e_72 G _) rfl 5 (by decide) rfl k1055 rfl dX11_undo_1 ?_
  refine lv_if_ne (tgt := 10) hx hb dX11_undo_4 (by decide) (fun c1 => ?_) (fun c1 => ?_)
  · replace h := it_f c1 h
    refine lv_aload_n hx hb dX11_undo_10 rfl (lv_at hl 0 rfl) ?_
    refine lv_dup hx hb dX11_undo_11 rfl ?_
    refine r_get (v := .int (C.1 72 5)) hC inX11 hP (e_72 G _) rfl 5 (by decide) rfl k1055 rfl dX11_undo_12 ?_
    refine lv_iconst (v := 1) hx hb dX11_undo_15 (by decide) ?_
    refine lv_isub hx hb dX11_undo_16 ?_
    obtain ⟨C2, eC2⟩ : ∃ Z : Mm, Z = wrI C 72 5 ((C.1 72 5) - 1) := ⟨_, rfl⟩
    replace h := lt_y eC2 h
    refine r_put (X' := (Cm, C2)) hC inX11 tyX11 tyX11_ok nmX11 hP hS (e_72 G _) rfl 5 (by decide) rfl k1055 rfl (v := .int ((C.1 72 5) - 1)) rfl rfl (Nat.le_of_ble_eq_true rfl) (p_72_5 G _ _ eC2) dX11_undo_17 (fun H locs hP hS => ?_)
    refine lv_aload_n hx hb dX11_undo_20 rfl (lv_at hl 0 rfl) ?_
    refine r_get (v := .ref (gA G 73)) hC inX11 hP (e_72 G _) rfl 0 (by decide) rfl k1050 rfl dX11_undo_21 ?_
    refine lv_aload_n hx hb dX11_undo_24 rfl (lv_at hl 0 rfl) ?_
    refine r_get (v := .ref (gA G 74)) hC inX11 hP (e_72 G _) rfl 1 (by decide) rfl k1051 rfl dX11_undo_25 ?_
    refine lv_aload_n hx hb dX11_undo_28 rfl (lv_at hl 0 rfl) ?_
    refine r_get (v := .int (C2.1 72 5)) hC inX11 hP (e_72 G _) rfl 5 (by decide) rfl k1055 rfl dX11_undo_29 ?_
    by_cases c3 : (C2.1 72 5) < (0 : Int32) ∨ 40 ≤ Int32.toNatClampNeg (C2.1 72 5)
    · cases it_t c3 h
    replace h := it_f c3 h
    refine r_iald hC hP (f := C2.1 74) (e_74 G _) c3 dX11_undo_32 ?_
    refine lv_aload_n hx hb dX11_undo_33 rfl (lv_at hl 0 rfl) ?_
    refine r_get (v := .ref (gA G 75)) hC inX11 hP (e_72 G _) rfl 2 (by decide) rfl k1052 rfl dX11_undo_34 ?_
    refine lv_aload_n hx hb dX11_undo_37 rfl (lv_at hl 0 rfl) ?_
    refine r_get (v := .int (C2.1 72 5)) hC inX11 hP (e_72 G _) rfl 5 (by decide) rfl k1055 rfl dX11_undo_38 ?_
    by_cases c4 : (C2.1 72 5) < (0 : Int32) ∨ 40 ≤ Int32.toNatClampNeg (C2.1 72 5)
    · cases it_t c4 h
    replace h := it_f c4 h
    refine r_iald hC hP (f := C2.1 75) (e_75 G _) c4 dX11_undo_41 ?_
    by_cases c5 : (C2.1 74 (Int32.toNatClampNeg (C2.1 72 5))) < (0 : Int32) ∨ 30 ≤ Int32.toNatClampNeg (C2.1 74 (Int32.toNatClampNeg (C2.1 72 5)))
    · cases it_t c5 h
    replace h := it_f c5 h
    obtain ⟨C6, eC6⟩ : ∃ Z : Mm, Z = wrI C2 73 (Int32.toNatClampNeg (C2.1 74 (Int32.toNatClampNeg (C2.1 72 5)))) (C2.1 75 (Int32.toNatClampNeg (C2.1 72 5))) := ⟨_, rfl⟩
    replace h := lt_y eC6 h
    refine r_iast (X' := (Cm, C6)) hC hP hS (e_73 G _) c5 (a_73 G _ _ _ _ eC6) dX11_undo_42 (fun H locs hP hS => ?_)
    refine lv_aload_n hx hb dX11_undo_43 rfl (lv_at hl 0 rfl) ?_
    refine r_get (v := .int (C6.1 72 5)) hC inX11 hP (e_72 G _) rfl 5 (by decide) rfl k1055 rfl dX11_undo_44 ?_
    exact re_i' hC hr hP hS (pr_1 h) (congrArg (fun Z : Mm => (Cm, Z)) (pr_2 h)) dX11_undo_47
  · replace h := it_t c1 h
    refine lv_bipush (v := (-5)) hx hb dX11_undo_7 (by decide) ?_
    exact re_i' hC hr hP hS (pr_1 h) (congrArg (fun Z : Mm => (Cm, Z)) (pr_2 h)) dX11_undo_9
set_option maxHeartbeats 4000000 in
set_option maxRecDepth 100000 in
theorem mX11_redo (l : Launch) (G : gp) (Cm : Mm) {C : Mm} {r0 : Int32} {C0 : Mm} (h : fX11_redo C = some (r0, C0)) : Met l yX11_redo (wsy yX11_redo cX11_redo 1 (some .int)) (rmv 0 0) (va_Pc [.ref (gA G 72)] (Rl G (Cm, C))) (Qi G PT r0 (Cm, C0)) 0 0 (lwA G) := by
  refine met_i [.ref (gA G 72)] wX11_redo.2.2.2.2.2 (Nat.le_of_ble_eq_true rfl) ?_
  intro p e s m args below meth c ls hC hr hP hl
  have hC : Cx G p s m args meth c cX11_redo RX11 1 := hC
  have hx := hC.1
  have hb := hC.2.1
  have hown := hC.2.2.2.1
  have hts := hC.2.2.2.2.1
  have hS : va_S (lwA G) s.heap s.heap [] := va_S.rf
  have hl : lv_has ls 1 [(0, .ref (gA G 72))] := hl
  unfold fX11_redo at h
  refine lv_aload_n hx hb dX11_redo_0 rfl (lv_at hl 0 rfl) ?_
  refine r_get (v := .int (C.1 72 5)) hC inX11 hP (e_72 G _) rfl 5 (by decide) rfl k1055 rfl dX11_redo_1 ?_
  refine lv_aload_n hx hb dX11_redo_4 rfl (lv_at hl 0 rfl) ?_
  refine r_get (v := .int (C.1 72 4)) hC inX11 hP (e_72 G _) rfl 4 (by decide) rfl k1054 rfl dX11_redo_5 ?_
  refine lv_icmp_ne (tgt := 14) hx hb dX11_redo_8 (by decide) (fun c1 => ?_) (fun c1 => ?_)
  · replace h := it_f c1 h
    refine lv_aload_n hx hb dX11_redo_14 rfl (lv_at hl 0 rfl) ?_
    refine r_get (v := .ref (gA G 73)) hC inX11 hP (e_72 G _) rfl 0 (by decide) rfl k1050 rfl dX11_redo_15 ?_
    refine lv_aload_n hx hb dX11_redo_18 rfl (lv_at hl 0 rfl) ?_
    refine r_get (v := .ref (gA G 74)) hC inX11 hP (e_72 G _) rfl 1 (by decide) rfl k1051 rfl dX11_redo_19 ?_
    refine lv_aload_n hx hb dX11_redo_22 rfl (lv_at hl 0 rfl) ?_
    refine r_get (v := .int (C.1 72 5)) hC inX11 hP (e_72 G _) rfl 5 (by decide) rfl k1055 rfl dX11_redo_23 ?_
    by_cases c2 : (C.1 72 5) < (0 : Int32) ∨ 40 ≤ Int32.toNatClampNeg (C.1 72 5)
    · cases it_t c2 h
    replace h := it_f c2 h
    refine r_iald hC hP (f := C.1 74) (e_74 G _) c2 dX11_redo_26 ?_
    refine lv_aload_n hx hb dX11_redo_27 rfl (lv_at hl 0 rfl) ?_
    refine r_get (v := .ref (gA G 76)) hC inX11 hP (e_72 G _) rfl 3 (by decide) rfl k1053 rfl dX11_redo_28 ?_
    refine lv_aload_n hx hb dX11_redo_31 rfl (lv_at hl 0 rfl) ?_
    refine r_get (v := .int (C.1 72 5)) hC inX11 hP (e_72 G _) rfl 5 (by decide) rfl k1055 rfl dX11_redo_32 ?_
    by_cases c3 : (C.1 72 5) < (0 : Int32) ∨ 40 ≤ Int32.toNatClampNeg (C.1 72 5)
    · cases it_t c3 h
    replace h := it_f c3 h
    refine r_iald hC hP (f := C.1 76) (e_76 G _) c3 dX11_redo_35 ?_
    by_cases c4 : (C.1 74 (Int32.toNatClampNeg (C.1 72 5))) < (0 : Int32) ∨ 30 ≤ Int32.toNatClampNeg (C.1 74 (Int32.toNatClampNeg (C.1 72 5)))
    · cases it_t c4 h
    replace h := it_f c4 h
    obtain ⟨C5, eC5⟩ : ∃ Z : Mm, Z = wrI C 73 (Int32.toNatClampNeg (C.1 74 (Int32.toNatClampNeg (C.1 72 5)))) (C.1 76 (Int32.toNatClampNeg (C.1 72 5))) := ⟨_, rfl⟩
    replace h := lt_y eC5 h
    refine r_iast (X' := (Cm, C5)) hC hP hS (e_73 G _) c4 (a_73 G _ _ _ _ eC5) dX11_redo_36 (fun H locs hP hS => ?_)
    refine lv_aload_n hx hb dX11_redo_37 rfl (lv_at hl 0 rfl) ?_
    refine lv_dup hx hb dX11_redo_38 rfl ?_
    refine r_get (v := .int (C5.1 72 5)) hC inX11 hP (e_72 G _) rfl 5 (by decide) rfl k1055 rfl dX11_redo_39 ?_
    refine lv_iconst (v := 1) hx hb dX11_redo_42 (by decide) ?_
    refine lv_iadd hx hb dX11_redo_43 ?_
    obtain ⟨C6, eC6⟩ : ∃ Z : Mm, Z = wrI C5 72 5 ((C5.1 72 5) + 1) := ⟨_, rfl⟩
    replace h := lt_y eC6 h
    refine r_put (X' := (Cm, C6)) hC inX11 tyX11 tyX11_ok nmX11 hP hS (e_72 G _) rfl 5 (by decide) rfl k1055 rfl (v := .int ((C5.1 72 5) + 1)) rfl rfl (Nat.le_of_ble_eq_true rfl) (p_72_5 G _ _ eC6) dX11_redo_44 (fun H locs hP hS => ?_)
    refine lv_aload_n hx hb dX11_redo_47 rfl (lv_at hl 0 rfl) ?_
    refine r_get (v := .int (C6.1 72 4)) hC inX11 hP (e_72 G _) rfl 4 (by decide) rfl k1054 rfl dX11_redo_48 ?_
    refine lv_aload_n hx hb dX11_redo_51 rfl (lv_at hl 0 rfl) ?_
    refine r_get (v := .int (C6.1 72 5)) hC inX11 hP (e_72 G _) rfl 5 (by decide) rfl k1055 rfl dX11_redo_52 ?_
    refine lv_isub hx hb dX11_redo_55 ?_
    exact re_i' hC hr hP hS (pr_1 h) (congrArg (fun Z : Mm => (Cm, Z)) (pr_2 h)) dX11_redo_56
  · replace h := it_t c1 h
    refine lv_bipush (v := (-5)) hx hb dX11_redo_11 (by decide) ?_
    exact re_i' hC hr hP hS (pr_1 h) (congrArg (fun Z : Mm => (Cm, Z)) (pr_2 h)) dX11_redo_13
set_option maxHeartbeats 4000000 in
set_option maxRecDepth 100000 in
theorem mX11_feed (l : Launch) (G : gp) (Cm : Mm) {n : Nat} {p1 : Int32} {p2 : Int32} {C : Mm} {r0 : Int32} {C0 : Mm} (h : fX11_feed n p1 p2 C = some (r0, C0)) : Met l yX11_feed (wsy yX11_feed cX11_feed 4 (some .int)) (rmv 1 25) (va_Pc [.ref (gA G 72), .int p1, .int p2] (Rl G (Cm, C))) (Qi G PT r0 (Cm, C0)) 0 0 (lwA G) := by
  refine met_i [.ref (gA G 72), .int p1, .int p2] wX11_feed.2.2.2.2.2 (Nat.le_of_ble_eq_true rfl) ?_
  intro p e s m args below meth c ls hC hr hP hl
  have hC : Cx G p s m args meth c cX11_feed RX11 4 := hC
  have hx := hC.1
  have hb := hC.2.1
  have hown := hC.2.2.2.1
  have hts := hC.2.2.2.2.1
  have hS : va_S (lwA G) s.heap s.heap [] := va_S.rf
  have hl : lv_has ls 4 [(0, .ref (gA G 72)), (1, .int p1), (2, .int p2)] := hl
  have bl30 : ∀ (fu : Nat), ∀ (y1 : Int32) (y2 : Int32) (y3 : Int32) (C : Mm) (H : Heap) (locs : List Loc) (ls : Array Slot), fX11_feed_h30 n fu y1 y2 y3 C = some (r0, C0) → lv_has ls 4 [(0, .ref (gA G 72)), (1, .int y1), (2, .int y2), (3, .int y3)] → va_P (gD G) vwCl (wld G (Cm, C)) H → va_S (lwA G) s.heap H locs → W p l e (rmv 1 25) s m args below meth c H locs 0 0 (MQ below (Qi G PT r0 (Cm, C0)) args s 0 0 (lwA G)) (F0 m 30 ls []) := by
    intro fu
    induction fu with
    | zero =>
      intro y1 y2 y3 C H locs ls h hl hP hS
      rw [fX11_feed_h30.eq_1] at h
      cases h
    | succ fu ih =>
      intro y1 y2 y3 C H locs ls h hl hP hS
      rw [fX11_feed_h30.eq_2] at h
      refine lv_iload_n hx hb dX11_feed_30 rfl (lv_at hl 3 rfl) ?_
      refine lv_iload_n hx hb dX11_feed_31 rfl (lv_at hl 1 rfl) ?_
      refine lv_icmp_ge (tgt := 70) hx hb dX11_feed_32 (by decide) (fun c1 => ?_) (fun c1 => ?_)
      · replace h := it_t c1 h
        refine lv_aload_n hx hb dX11_feed_70 rfl (lv_at hl 0 rfl) ?_
        refine r_get (v := .int (C.1 72 7)) hC inX11 hP (e_72 G _) rfl 7 (by decide) rfl k1057 rfl dX11_feed_71 ?_
        exact re_i' hC hr hP hS (pr_1 h) (congrArg (fun Z : Mm => (Cm, Z)) (pr_2 h)) dX11_feed_74
      · replace h := it_f c1 h
        refine lv_aload_n hx hb dX11_feed_35 rfl (lv_at hl 0 rfl) ?_
        refine r_get (v := .ref (gA G 77)) hC inX11 hP (e_72 G _) rfl 6 (by decide) rfl k1056 rfl dX11_feed_36 ?_
        refine lv_aload_n hx hb dX11_feed_39 rfl (lv_at hl 0 rfl) ?_
        refine r_get (v := .int (C.1 72 7)) hC inX11 hP (e_72 G _) rfl 7 (by decide) rfl k1057 rfl dX11_feed_40 ?_
        refine lv_iload_n hx hb dX11_feed_43 rfl (lv_at hl 2 rfl) ?_
        refine lv_bipush (v := 8) hx hb dX11_feed_44 (by decide) ?_
        refine lv_iload_n hx hb dX11_feed_46 rfl (lv_at hl 3 rfl) ?_
        refine lv_imul hx hb dX11_feed_47 ?_
        refine lv_ishr hx hb dX11_feed_48 ?_
        refine lv_sipush (v := 255) hx hb dX11_feed_49 (by decide) ?_
        refine lv_iand hx hb dX11_feed_52 ?_
        by_cases c2 : (C.1 72 7) < (0 : Int32) ∨ 120 ≤ Int32.toNatClampNeg (C.1 72 7)
        · cases it_t c2 h
        replace h := it_f c2 h
        obtain ⟨C3, eC3⟩ : ∃ Z : Mm, Z = wrI C 77 (Int32.toNatClampNeg (C.1 72 7)) ((y2 >>> ((8 * y3) &&& 31)) &&& 255) := ⟨_, rfl⟩
        replace h := lt_y eC3 h
        refine r_iast (X' := (Cm, C3)) hC hP hS (e_77 G _) c2 (a_77 G _ _ _ _ eC3) dX11_feed_53 (fun H locs hP hS => ?_)
        refine lv_aload_n hx hb dX11_feed_54 rfl (lv_at hl 0 rfl) ?_
        refine lv_dup hx hb dX11_feed_55 rfl ?_
        refine r_get (v := .int (C3.1 72 7)) hC inX11 hP (e_72 G _) rfl 7 (by decide) rfl k1057 rfl dX11_feed_56 ?_
        refine lv_iconst (v := 1) hx hb dX11_feed_59 (by decide) ?_
        refine lv_iadd hx hb dX11_feed_60 ?_
        obtain ⟨C4, eC4⟩ : ∃ Z : Mm, Z = wrI C3 72 7 ((C3.1 72 7) + 1) := ⟨_, rfl⟩
        replace h := lt_y eC4 h
        refine r_put (X' := (Cm, C4)) hC inX11 tyX11 tyX11_ok nmX11 hP hS (e_72 G _) rfl 7 (by decide) rfl k1057 rfl (v := .int ((C3.1 72 7) + 1)) rfl rfl (Nat.le_of_ble_eq_true rfl) (p_72_7 G _ _ eC4) dX11_feed_61 (fun H locs hP hS => ?_)
        obtain ⟨x5, ex5⟩ : ∃ y : Int32, y = y3 + 1 := ⟨_, rfl⟩
        replace h := lt_y ex5 h
        refine lv_iinc (v := x5) (lv' := [(3, .int x5), (0, .ref (gA G 72)), (1, .int y1), (2, .int y2)]) hx hb dX11_feed_64 hl (k := 3) rfl (by rw [ex5]; rfl) (by decide) rfl (fun ls hl => ?_)
        refine lv_goto (tgt := 30) hx hb dX11_feed_67 (by decide) ?_
        exact ih y1 y2 x5 C4 _ _ _ h (lv_sub hl [1, 2, 3, 0] rfl) hP hS
  unfold fX11_feed at h
  refine lv_iload_n hx hb dX11_feed_0 rfl (lv_at hl 1 rfl) ?_
  refine lv_i2l hx hb dX11_feed_1 rfl ?_
  refine lv_lconst (v := 1) hx hb dX11_feed_2 (by decide) ?_
  refine lv_ldc2 hx hb (v := 4) hown (hts _ k1228) dX11_feed_3 ?_
  refine rc_i hS (run_S hC wX11_within k1229 hP hS (As := [.long (Int32.toInt64 p1), .long 1, .long 4]) (rest := []) (mX11_within l G Cm rfl) rfl hl.1 (Nat.le_of_ble_eq_true rfl) ⟨by decide, by decide⟩ ⟨Nat.le_refl _, Nat.le_refl _⟩ rfl dX11_feed_6) (fun H locs pb7 hP hS => ?_)
  refine lv_if_ne (tgt := 14) hx hb dX11_feed_9 (by decide) (fun c8 => ?_) (fun c8 => ?_)
  · replace h := it_f c8 h
    refine lv_aload_n hx hb dX11_feed_14 rfl (lv_at hl 0 rfl) ?_
    refine r_get (v := .int (C.1 72 7)) hC inX11 hP (e_72 G _) rfl 7 (by decide) rfl k1057 rfl dX11_feed_15 ?_
    refine lv_iload_n hx hb dX11_feed_18 rfl (lv_at hl 1 rfl) ?_
    refine lv_iadd hx hb dX11_feed_19 ?_
    refine lv_bipush (v := 120) hx hb dX11_feed_20 (by decide) ?_
    refine lv_icmp_le (tgt := 28) hx hb dX11_feed_22 (by decide) (fun c9 => ?_) (fun c9 => ?_)
    · replace h := it_t c9 h
      refine lv_iconst (v := 0) hx hb dX11_feed_28 (by decide) ?_
      refine lv_istore_n (lv' := [(3, .int 0), (0, .ref (gA G 72)), (1, .int p1), (2, .int p2)]) hx hb dX11_feed_29 rfl hl (by decide) rfl (fun ls hl => ?_)
      exact bl30 n p1 p2 0 C _ _ _ h (lv_sub hl [1, 2, 3, 0] rfl) hP hS
    · replace h := it_f c9 h
      refine lv_bipush (v := (-3)) hx hb dX11_feed_25 (by decide) ?_
      exact re_i' hC hr hP hS (pr_1 h) (congrArg (fun Z : Mm => (Cm, Z)) (pr_2 h)) dX11_feed_27
  · replace h := it_t c8 h
    refine lv_iconst (v := (-1)) hx hb dX11_feed_12 (by decide) ?_
    exact re_i' hC hr hP hS (pr_1 h) (congrArg (fun Z : Mm => (Cm, Z)) (pr_2 h)) dX11_feed_13
set_option maxHeartbeats 4000000 in
set_option maxRecDepth 100000 in
theorem mX11_byteAt (l : Launch) (G : gp) (Cm : Mm) {C : Mm} {r0 : Int32} (h : fX11_byteAt C = some r0) : Met l yX11_byteAt (wsy yX11_byteAt cX11_byteAt 1 (some .int)) (rmv 0 0) (va_Pc [.ref (gA G 72)] (Rl G (Cm, C))) (Qi G PT r0 (Cm, C)) 0 0 (lwA G) := by
  refine met_i [.ref (gA G 72)] wX11_byteAt.2.2.2.2.2 (Nat.le_of_ble_eq_true rfl) ?_
  intro p e s m args below meth c ls hC hr hP hl
  have hC : Cx G p s m args meth c cX11_byteAt RX11 1 := hC
  have hx := hC.1
  have hb := hC.2.1
  have hown := hC.2.2.2.1
  have hts := hC.2.2.2.2.1
  have hS : va_S (lwA G) s.heap s.heap [] := va_S.rf
  have hl : lv_has ls 1 [(0, .ref (gA G 72))] := hl
  unfold fX11_byteAt at h
  refine lv_aload_n hx hb dX11_byteAt_0 rfl (lv_at hl 0 rfl) ?_
  refine r_get (v := .int (C.1 72 11)) hC inX11 hP (e_72 G _) rfl 11 (by decide) rfl k1061 rfl dX11_byteAt_1 ?_
  refine lv_aload_n hx hb dX11_byteAt_4 rfl (lv_at hl 0 rfl) ?_
  refine r_get (v := .int (C.1 72 12)) hC inX11 hP (e_72 G _) rfl 12 (by decide) rfl k1062 rfl dX11_byteAt_5 ?_
  refine lv_icmp_ge (tgt := 47) hx hb dX11_byteAt_8 (by decide) (fun c1 => ?_) (fun c1 => ?_)
  · replace h := it_t c1 h
    refine lv_iconst (v := 0) hx hb dX11_byteAt_47 (by decide) ?_
    exact re_i' hC hr hP hS (Option.some.inj h) rfl dX11_byteAt_48
  · replace h := it_f c1 h
    refine lv_aload_n hx hb dX11_byteAt_11 rfl (lv_at hl 0 rfl) ?_
    refine r_get (v := .int (C.1 72 10)) hC inX11 hP (e_72 G _) rfl 10 (by decide) rfl k1060 rfl dX11_byteAt_12 ?_
    refine lv_if_ge (tgt := 30) hx hb dX11_byteAt_15 (by decide) (fun c2 => ?_) (fun c2 => ?_)
    · replace h := it_t c2 h
      refine lv_aload_n hx hb dX11_byteAt_30 rfl (lv_at hl 0 rfl) ?_
      refine r_get (v := .ref (gA G 78)) hC inX11 hP (e_72 G _) rfl 8 (by decide) rfl k1058 rfl dX11_byteAt_31 ?_
      refine lv_aload_n hx hb dX11_byteAt_34 rfl (lv_at hl 0 rfl) ?_
      refine r_get (v := .int (C.1 72 10)) hC inX11 hP (e_72 G _) rfl 10 (by decide) rfl k1060 rfl dX11_byteAt_35 ?_
      refine lv_aload_n hx hb dX11_byteAt_38 rfl (lv_at hl 0 rfl) ?_
      refine r_get (v := .int (C.1 72 11)) hC inX11 hP (e_72 G _) rfl 11 (by decide) rfl k1061 rfl dX11_byteAt_39 ?_
      refine lv_iadd hx hb dX11_byteAt_42 ?_
      by_cases c3 : ((C.1 72 10) + (C.1 72 11)) < (0 : Int32) ∨ 120 ≤ Int32.toNatClampNeg ((C.1 72 10) + (C.1 72 11))
      · cases it_t c3 h
      replace h := it_f c3 h
      refine r_iald hC hP (f := C.1 78) (e_78 G _) c3 dX11_byteAt_43 ?_
      refine lv_goto (tgt := 48) hx hb dX11_byteAt_44 (by decide) ?_
      exact re_i' hC hr hP hS (Option.some.inj h) rfl dX11_byteAt_48
    · replace h := it_f c2 h
      refine lv_aload_n hx hb dX11_byteAt_18 rfl (lv_at hl 0 rfl) ?_
      refine r_get (v := .ref (gA G 77)) hC inX11 hP (e_72 G _) rfl 6 (by decide) rfl k1056 rfl dX11_byteAt_19 ?_
      refine lv_aload_n hx hb dX11_byteAt_22 rfl (lv_at hl 0 rfl) ?_
      refine r_get (v := .int (C.1 72 11)) hC inX11 hP (e_72 G _) rfl 11 (by decide) rfl k1061 rfl dX11_byteAt_23 ?_
      by_cases c4 : (C.1 72 11) < (0 : Int32) ∨ 120 ≤ Int32.toNatClampNeg (C.1 72 11)
      · cases it_t c4 h
      replace h := it_f c4 h
      refine r_iald hC hP (f := C.1 77) (e_77 G _) c4 dX11_byteAt_26 ?_
      refine lv_goto (tgt := 48) hx hb dX11_byteAt_27 (by decide) ?_
      exact re_i' hC hr hP hS (Option.some.inj h) rfl dX11_byteAt_48
set_option maxHeartbeats 4000000 in
set_option maxRecDepth 100000 in
theorem mX11_wrong (l : Launch) (G : gp) (Cm : Mm) {C : Mm} {r0 : Int32} {C0 : Mm} (h : fX11_wrong C = some (r0, C0)) : Met l yX11_wrong (wsy yX11_wrong cX11_wrong 1 (some .int)) (rmv 0 0) (va_Pc [.ref (gA G 72)] (Rl G (Cm, C))) (Qi G PT r0 (Cm, C0)) 0 0 (lwA G) := by
  refine met_i [.ref (gA G 72)] wX11_wrong.2.2.2.2.2 (Nat.le_of_ble_eq_true rfl) ?_
  intro p e s m args below meth c ls hC hr hP hl
  have hC : Cx G p s m args meth c cX11_wrong RX11 1 := hC
  have hx := hC.1
  have hb := hC.2.1
  have hown := hC.2.2.2.1
  have hts := hC.2.2.2.2.1
  have hS : va_S (lwA G) s.heap s.heap [] := va_S.rf
  have hl : lv_has ls 1 [(0, .ref (gA G 72))] := hl
  have bl19 : ∀ (s0 : Int32) (C : Mm) (H : Heap) (locs : List Loc) (ls : Array Slot), fX11_wrong_b19 s0 C = some (r0, C0) → lv_has ls 1 [] → va_P (gD G) vwCl (wld G (Cm, C)) H → va_S (lwA G) s.heap H locs → W p l e (rmv 0 0) s m args below meth c H locs 0 0 (MQ below (Qi G PT r0 (Cm, C0)) args s 0 0 (lwA G)) (F0 m 19 ls [.int s0, .ref (gA G 72)]) := by
    intro s0 C H locs ls h hl hP hS
    unfold fX11_wrong_b19 at h
    obtain ⟨C1, eC1⟩ : ∃ Z : Mm, Z = wrI C 72 13 s0 := ⟨_, rfl⟩
    replace h := lt_y eC1 h
    refine r_put (X' := (Cm, C1)) hC inX11 tyX11 tyX11_ok nmX11 hP hS (e_72 G _) rfl 13 (by decide) rfl k1063 rfl (v := .int s0) rfl rfl (Nat.le_of_ble_eq_true rfl) (p_72_13 G _ _ eC1) dX11_wrong_19 (fun H locs hP hS => ?_)
    refine lv_iconst (v := 0) hx hb dX11_wrong_22 (by decide) ?_
    exact re_i' hC hr hP hS (pr_1 h) (congrArg (fun Z : Mm => (Cm, Z)) (pr_2 h)) dX11_wrong_23
  unfold fX11_wrong at h
  refine lv_aload_n hx hb dX11_wrong_0 rfl (lv_at hl 0 rfl) ?_
  refine lv_aload_n hx hb dX11_wrong_1 rfl (lv_at hl 0 rfl) ?_
  refine r_get (v := .int (C.1 72 13)) hC inX11 hP (e_72 G _) rfl 13 (by decide) rfl k1063 rfl dX11_wrong_2 ?_
  refine lv_if_ge (tgt := 15) hx hb dX11_wrong_5 (by decide) (fun c2 => ?_) (fun c2 => ?_)
  · replace h := it_t c2 h
    refine lv_aload_n hx hb dX11_wrong_15 rfl (lv_at hl 0 rfl) ?_
    refine r_get (v := .int (C.1 72 13)) hC inX11 hP (e_72 G _) rfl 13 (by decide) rfl k1063 rfl dX11_wrong_16 ?_
    exact bl19 (C.1 72 13) C _ _ _ h (lv_sub hl [] rfl) hP hS
  · replace h := it_f c2 h
    refine lv_aload_n hx hb dX11_wrong_8 rfl (lv_at hl 0 rfl) ?_
    refine r_get (v := .int (C.1 72 11)) hC inX11 hP (e_72 G _) rfl 11 (by decide) rfl k1061 rfl dX11_wrong_9 ?_
    refine lv_goto (tgt := 19) hx hb dX11_wrong_12 (by decide) ?_
    exact bl19 (C.1 72 11) C _ _ _ h (lv_sub hl [] rfl) hP hS
set_option maxHeartbeats 4000000 in
set_option maxRecDepth 100000 in
theorem mX11_takes (l : Launch) (G : gp) (Cm : Mm) {p1 : Int32} {C : Mm} {r0 : Int32} {C0 : Mm} (h : fX11_takes p1 C = some (r0, C0)) : Met l yX11_takes (wsy yX11_takes cX11_takes 2 (some .boolean)) (rmv 1 20) (va_Pc [.ref (gA G 72), .int p1] (Rl G (Cm, C))) (Qi G PZ r0 (Cm, C0)) 0 0 (lwA G) := by
  refine met_i [.ref (gA G 72), .int p1] wX11_takes.2.2.2.2.2 (Nat.le_of_ble_eq_true rfl) ?_
  intro p e s m args below meth c ls hC hr hP hl
  have hC : Cx G p s m args meth c cX11_takes RX11 2 := hC
  have hx := hC.1
  have hb := hC.2.1
  have hown := hC.2.2.2.1
  have hts := hC.2.2.2.2.1
  have hS : va_S (lwA G) s.heap s.heap [] := va_S.rf
  have hl : lv_has ls 2 [(0, .ref (gA G 72)), (1, .int p1)] := hl
  unfold fX11_takes at h
  refine lv_aload_n hx hb dX11_takes_0 rfl (lv_at hl 0 rfl) ?_
  refine r_get (v := .int (C.1 72 13)) hC inX11 hP (e_72 G _) rfl 13 (by decide) rfl k1063 rfl dX11_takes_1 ?_
  refine lv_if_ge (tgt := 15) hx hb dX11_takes_4 (by decide) (fun c1 => ?_) (fun c1 => ?_)
  · replace h := it_t c1 h
    refine lv_iconst (v := 0) hx hb dX11_takes_15 (by decide) ?_
    exact re_z' hC hr hP hS PZ0 (pr_1 h) (congrArg (fun Z : Mm => (Cm, Z)) (pr_2 h)) dX11_takes_16
  · replace h := it_f c1 h
    refine lv_aload_n hx hb dX11_takes_7 rfl (lv_at hl 0 rfl) ?_
    obtain ⟨r3, hq2, h⟩ := bn_x h
    refine rc_i hS (run_V hC wX11_byteAt k1264 (e_72 G _) rfl hP hS (As := []) (rest := []) (mX11_byteAt l G Cm hq2) rfl hl.1 (Nat.le_of_ble_eq_true rfl) ⟨by decide, by decide⟩ ⟨Nat.le_refl _, Nat.le_refl _⟩ rfl dX11_takes_8) (fun H locs pb4 hP hS => ?_)
    refine lv_iload_n hx hb dX11_takes_11 rfl (lv_at hl 1 rfl) ?_
    refine lv_icmp_eq (tgt := 17) hx hb dX11_takes_12 (by decide) (fun c5 => ?_) (fun c5 => ?_)
    · replace h := it_t c5 h
      refine lv_aload_n hx hb dX11_takes_17 rfl (lv_at hl 0 rfl) ?_
      refine lv_dup hx hb dX11_takes_18 rfl ?_
      refine r_get (v := .int (C.1 72 11)) hC inX11 hP (e_72 G _) rfl 11 (by decide) rfl k1061 rfl dX11_takes_19 ?_
      refine lv_iconst (v := 1) hx hb dX11_takes_22 (by decide) ?_
      refine lv_iadd hx hb dX11_takes_23 ?_
      obtain ⟨C6, eC6⟩ : ∃ Z : Mm, Z = wrI C 72 11 ((C.1 72 11) + 1) := ⟨_, rfl⟩
      replace h := lt_y eC6 h
      refine r_put (X' := (Cm, C6)) hC inX11 tyX11 tyX11_ok nmX11 hP hS (e_72 G _) rfl 11 (by decide) rfl k1061 rfl (v := .int ((C.1 72 11) + 1)) rfl rfl (Nat.le_of_ble_eq_true rfl) (p_72_11 G _ _ eC6) dX11_takes_24 (fun H locs hP hS => ?_)
      refine lv_iconst (v := 1) hx hb dX11_takes_27 (by decide) ?_
      exact re_z' hC hr hP hS PZ1 (pr_1 h) (congrArg (fun Z : Mm => (Cm, Z)) (pr_2 h)) dX11_takes_28
    · replace h := it_f c5 h
      refine lv_iconst (v := 0) hx hb dX11_takes_15 (by decide) ?_
      exact re_z' hC hr hP hS PZ0 (pr_1 h) (congrArg (fun Z : Mm => (Cm, Z)) (pr_2 h)) dX11_takes_16
set_option maxHeartbeats 4000000 in
set_option maxRecDepth 100000 in
theorem mX11_product (l : Launch) (G : gp) (Cm : Mm) {n : Nat} {z : Mm → Option (Int32 × Mm)} {fr lo : Nat} (hz : ∀ (Cm : Mm) {C : Mm} {r0 : Int32} {C0 : Mm} (_ : z C = some (r0, C0)), Met l yX11_one (wsy yX11_one cX11_one 5 (some .int)) (rmv fr lo) (va_Pc [.ref (gA G 72)] (Rl G (Cm, C))) (Qi G PT r0 (Cm, C0)) 0 0 (lwA G)) {C : Mm} {r0 : Int32} {C0 : Mm} (h : fX11_product n z C = some (r0, C0)) : Met l yX11_product (wsy yX11_product cX11_product 4 (some .int)) (rmv (fr + 1) (lo + 24)) (va_Pc [.ref (gA G 72)] (Rl G (Cm, C))) (Qi G PT r0 (Cm, C0)) 0 0 (lwA G) := by
  refine met_i [.ref (gA G 72)] wX11_product.2.2.2.2.2 (Nat.le_of_ble_eq_true rfl) ?_
  intro p e s m args below meth c ls hC hr hP hl
  have hC : Cx G p s m args meth c cX11_product RX11 4 := hC
  have hx := hC.1
  have hb := hC.2.1
  have hown := hC.2.2.2.1
  have hts := hC.2.2.2.2.1
  have hS : va_S (lwA G) s.heap s.heap [] := va_S.rf
  have hl : lv_has ls 4 [(0, .ref (gA G 72))] := hl
  have bl85 : ∀ (k10 : Int32 → Int32 → Mm → Option (Int32 × Mm)) (hk10 : ∀ (y1 : Int32) (y2 : Int32) (C : Mm) (H : Heap) (locs : List Loc) (ls : Array Slot), k10 y1 y2 C = some (r0, C0) → lv_has ls 4 [(0, .ref (gA G 72)), (1, .int y1), (2, .int y2)] → va_P (gD G) vwCl (wld G (Cm, C)) H → va_S (lwA G) s.heap H locs → W p l e (rmv (fr + 1) (lo + 24)) s m args below meth c H locs 0 0 (MQ below (Qi G PT r0 (Cm, C0)) args s 0 0 (lwA G)) (F0 m 10 ls [])), ∀ (s0 : Int32) (C : Mm) (H : Heap) (locs : List Loc) (ls : Array Slot), fX11_product_b85 n z k10 s0 C = some (r0, C0) → lv_has ls 4 [(0, .ref (gA G 72))] → va_P (gD G) vwCl (wld G (Cm, C)) H → va_S (lwA G) s.heap H locs → W p l e (rmv (fr + 1) (lo + 24)) s m args below meth c H locs 0 0 (MQ below (Qi G PT r0 (Cm, C0)) args s 0 0 (lwA G)) (F0 m 85 ls [.int s0]) := by
    intro k10 hk10 s0 C H locs ls h hl hP hS
    unfold fX11_product_b85 at h
    refine lv_istore_n (lv' := [(1, .int s0), (0, .ref (gA G 72))]) hx hb dX11_product_85 rfl hl (by decide) rfl (fun ls hl => ?_)
    refine lv_aload_n hx hb dX11_product_86 rfl (lv_at hl 1 rfl) ?_
    obtain ⟨r2, hq1, h⟩ := bn_x h
    refine rc_i hS (run_V hC wX11_byteAt k1264 (e_72 G _) rfl hP hS (As := []) (rest := []) (mX11_byteAt l G Cm hq1) rfl hl.1 (Nat.le_of_ble_eq_true rfl) (rm_le (by omega) (by omega)) ⟨Nat.le_refl _, Nat.le_refl _⟩ rfl dX11_product_87) (fun H locs pb3 hP hS => ?_)
    refine lv_istore_n (lv' := [(2, .int r2), (1, .int s0), (0, .ref (gA G 72))]) hx hb dX11_product_90 rfl hl (by decide) rfl (fun ls hl => ?_)
    refine lv_goto (tgt := 10) hx hb dX11_product_91 (by decide) ?_
    exact hk10 s0 r2 C _ _ _ h (lv_sub hl [2, 1, 0] rfl) hP hS
  have bl35 : ∀ (k10 : Int32 → Int32 → Mm → Option (Int32 × Mm)) (hk10 : ∀ (y1 : Int32) (y2 : Int32) (C : Mm) (H : Heap) (locs : List Loc) (ls : Array Slot), k10 y1 y2 C = some (r0, C0) → lv_has ls 4 [(0, .ref (gA G 72)), (1, .int y1), (2, .int y2)] → va_P (gD G) vwCl (wld G (Cm, C)) H → va_S (lwA G) s.heap H locs → W p l e (rmv (fr + 1) (lo + 24)) s m args below meth c H locs 0 0 (MQ below (Qi G PT r0 (Cm, C0)) args s 0 0 (lwA G)) (F0 m 10 ls [])), ∀ (y1 : Int32) (y2 : Int32) (C : Mm) (H : Heap) (locs : List Loc) (ls : Array Slot), fX11_product_b35 n z k10 y1 y2 C = some (r0, C0) → lv_has ls 4 [(0, .ref (gA G 72)), (1, .int y1), (2, .int y2)] → va_P (gD G) vwCl (wld G (Cm, C)) H → va_S (lwA G) s.heap H locs → W p l e (rmv (fr + 1) (lo + 24)) s m args below meth c H locs 0 0 (MQ below (Qi G PT r0 (Cm, C0)) args s 0 0 (lwA G)) (F0 m 35 ls []) := by
    intro k10 hk10 y1 y2 C H locs ls h hl hP hS
    unfold fX11_product_b35 at h
    refine lv_aload_n hx hb dX11_product_35 rfl (lv_at hl 0 rfl) ?_
    refine lv_dup hx hb dX11_product_36 rfl ?_
    refine r_get (v := .int (C.1 72 11)) hC inX11 hP (e_72 G _) rfl 11 (by decide) rfl k1061 rfl dX11_product_37 ?_
    refine lv_iconst (v := 1) hx hb dX11_product_40 (by decide) ?_
    refine lv_iadd hx hb dX11_product_41 ?_
    obtain ⟨C4, eC4⟩ : ∃ Z : Mm, Z = wrI C 72 11 ((C.1 72 11) + 1) := ⟨_, rfl⟩
    replace h := lt_y eC4 h
    refine r_put (X' := (Cm, C4)) hC inX11 tyX11 tyX11_ok nmX11 hP hS (e_72 G _) rfl 11 (by decide) rfl k1061 rfl (v := .int ((C.1 72 11) + 1)) rfl rfl (Nat.le_of_ble_eq_true rfl) (p_72_11 G _ _ eC4) dX11_product_42 (fun H locs hP hS => ?_)
    refine lv_aload_n hx hb dX11_product_45 rfl (lv_at hl 0 rfl) ?_
    obtain ⟨r6, C7, hq5, h⟩ := bp_x h
    refine rc_i hS (run_V hC wX11_one k1260 (e_72 G _) rfl hP hS (As := []) (rest := []) (hz Cm hq5) rfl hl.1 (Nat.le_of_ble_eq_true rfl) (rm_le (by omega) (by omega)) ⟨Nat.le_refl _, Nat.le_refl _⟩ rfl dX11_product_46) (fun H locs pb8 hP hS => ?_)
    refine lv_istore_n (lv' := [(3, .int r6), (0, .ref (gA G 72)), (1, .int y1), (2, .int y2)]) hx hb dX11_product_49 rfl hl (by decide) rfl (fun ls hl => ?_)
    refine lv_iload_n hx hb dX11_product_50 rfl (lv_at hl 3 rfl) ?_
    refine lv_bipush (v := 42) hx hb dX11_product_51 (by decide) ?_
    refine lv_icmp_ne (tgt := 62) hx hb dX11_product_53 (by decide) (fun c9 => ?_) (fun c9 => ?_)
    · replace h := it_f c9 h
      refine lv_iload_n hx hb dX11_product_62 rfl (lv_at hl 0 rfl) ?_
      refine lv_if_ne (tgt := 70) hx hb dX11_product_63 (by decide) (fun c10 => ?_) (fun c10 => ?_)
      · replace h := it_f c10 h
        refine lv_iload_n hx hb dX11_product_70 rfl (lv_at hl 3 rfl) ?_
        refine lv_bipush (v := 47) hx hb dX11_product_71 (by decide) ?_
        refine lv_icmp_ne (tgt := 82) hx hb dX11_product_73 (by decide) (fun c11 => ?_) (fun c11 => ?_)
        · replace h := it_f c11 h
          refine lv_iload_n hx hb dX11_product_82 rfl (lv_at hl 2 rfl) ?_
          refine lv_iload_n hx hb dX11_product_83 rfl (lv_at hl 0 rfl) ?_
          by_cases c12 : r6 = 0
          · cases it_t c12 h
          replace h := it_f c12 h
          refine r_irem hx hb dX11_product_84 c12 ?_
          exact bl85 k10 hk10 (irm y1 r6) C7 _ _ _ h (lv_sub hl [1] rfl) hP hS
        · replace h := it_t c11 h
          refine lv_iload_n hx hb dX11_product_76 rfl (lv_at hl 2 rfl) ?_
          refine lv_iload_n hx hb dX11_product_77 rfl (lv_at hl 0 rfl) ?_
          by_cases c13 : r6 = 0
          · cases it_t c13 h
          replace h := it_f c13 h
          refine lv_idiv hx hb dX11_product_78 c13 ?_
          refine lv_goto (tgt := 85) hx hb dX11_product_79 (by decide) ?_
          exact bl85 k10 hk10 (y1 / r6) C7 _ _ _ h (lv_sub hl [1] rfl) hP hS
      · replace h := it_t c10 h
        refine lv_iconst (v := 0) hx hb dX11_product_66 (by decide) ?_
        refine lv_goto (tgt := 85) hx hb dX11_product_67 (by decide) ?_
        exact bl85 k10 hk10 0 C7 _ _ _ h (lv_sub hl [1] rfl) hP hS
    · replace h := it_t c9 h
      refine lv_iload_n hx hb dX11_product_56 rfl (lv_at hl 2 rfl) ?_
      refine lv_iload_n hx hb dX11_product_57 rfl (lv_at hl 0 rfl) ?_
      refine lv_imul hx hb dX11_product_58 ?_
      refine lv_goto (tgt := 85) hx hb dX11_product_59 (by decide) ?_
      exact bl85 k10 hk10 (y1 * r6) C7 _ _ _ h (lv_sub hl [1] rfl) hP hS
  have bl10 : ∀ (fu : Nat), ∀ (y1 : Int32) (y2 : Int32) (C : Mm) (H : Heap) (locs : List Loc) (ls : Array Slot), fX11_product_h10 n z fu y1 y2 C = some (r0, C0) → lv_has ls 4 [(0, .ref (gA G 72)), (1, .int y1), (2, .int y2)] → va_P (gD G) vwCl (wld G (Cm, C)) H → va_S (lwA G) s.heap H locs → W p l e (rmv (fr + 1) (lo + 24)) s m args below meth c H locs 0 0 (MQ below (Qi G PT r0 (Cm, C0)) args s 0 0 (lwA G)) (F0 m 10 ls []) := by
    intro fu
    induction fu with
    | zero =>
      intro y1 y2 C H locs ls h hl hP hS
      rw [fX11_product_h10.eq_1] at h
      cases h
    | succ fu ih =>
      intro y1 y2 C H locs ls h hl hP hS
      rw [fX11_product_h10.eq_2] at h
      refine lv_aload_n hx hb dX11_product_10 rfl (lv_at hl 0 rfl) ?_
      refine r_get (v := .int (C.1 72 13)) hC inX11 hP (e_72 G _) rfl 13 (by decide) rfl k1063 rfl dX11_product_11 ?_
      refine lv_if_ge (tgt := 94) hx hb dX11_product_14 (by decide) (fun c14 => ?_) (fun c14 => ?_)
      · replace h := it_t c14 h
        refine lv_iload_n hx hb dX11_product_94 rfl (lv_at hl 1 rfl) ?_
        exact re_i' hC hr hP hS (pr_1 h) (congrArg (fun Z : Mm => (Cm, Z)) (pr_2 h)) dX11_product_95
      · replace h := it_f c14 h
        refine lv_iload_n hx hb dX11_product_17 rfl (lv_at hl 2 rfl) ?_
        refine lv_bipush (v := 42) hx hb dX11_product_18 (by decide) ?_
        refine lv_icmp_eq (tgt := 35) hx hb dX11_product_20 (by decide) (fun c15 => ?_) (fun c15 => ?_)
        · replace h := it_t c15 h
          exact bl35 (fX11_product_h10 n z fu) ih y1 y2 C _ _ _ h (lv_sub hl [0, 1, 2] rfl) hP hS
        · replace h := it_f c15 h
          refine lv_iload_n hx hb dX11_product_23 rfl (lv_at hl 2 rfl) ?_
          refine lv_bipush (v := 47) hx hb dX11_product_24 (by decide) ?_
          refine lv_icmp_eq (tgt := 35) hx hb dX11_product_26 (by decide) (fun c16 => ?_) (fun c16 => ?_)
          · replace h := it_t c16 h
            exact bl35 (fX11_product_h10 n z fu) ih y1 y2 C _ _ _ h (lv_sub hl [0, 1, 2] rfl) hP hS
          · replace h := it_f c16 h
            refine lv_iload_n hx hb dX11_product_29 rfl (lv_at hl 2 rfl) ?_
            refine lv_bipush (v := 37) hx hb dX11_product_30 (by decide) ?_
            refine lv_icmp_ne (tgt := 94) hx hb dX11_product_32 (by decide) (fun c17 => ?_) (fun c17 => ?_)
            · replace h := it_f c17 h
              refine lv_iload_n hx hb dX11_product_94 rfl (lv_at hl 1 rfl) ?_
              exact re_i' hC hr hP hS (pr_1 h) (congrArg (fun Z : Mm => (Cm, Z)) (pr_2 h)) dX11_product_95
            · replace h := it_t c17 h
              exact bl35 (fX11_product_h10 n z fu) ih y1 y2 C _ _ _ h (lv_sub hl [0, 1, 2] rfl) hP hS
  unfold fX11_product at h
  refine lv_aload_n hx hb dX11_product_0 rfl (lv_at hl 0 rfl) ?_
  obtain ⟨r19, C20, hq18, h⟩ := bp_x h
  refine rc_i hS (run_V hC wX11_one k1260 (e_72 G _) rfl hP hS (As := []) (rest := []) (hz Cm hq18) rfl hl.1 (Nat.le_of_ble_eq_true rfl) (rm_le (by omega) (by omega)) ⟨Nat.le_refl _, Nat.le_refl _⟩ rfl dX11_product_1) (fun H locs pb21 hP hS => ?_)
  refine lv_istore_n (lv' := [(1, .int r19), (0, .ref (gA G 72))]) hx hb dX11_product_4 rfl hl (by decide) rfl (fun ls hl => ?_)
  refine lv_aload_n hx hb dX11_product_5 rfl (lv_at hl 1 rfl) ?_
  obtain ⟨r23, hq22, h⟩ := bn_x h
  refine rc_i hS (run_V hC wX11_byteAt k1264 (e_72 G _) rfl hP hS (As := []) (rest := []) (mX11_byteAt l G Cm hq22) rfl hl.1 (Nat.le_of_ble_eq_true rfl) (rm_le (by omega) (by omega)) ⟨Nat.le_refl _, Nat.le_refl _⟩ rfl dX11_product_6) (fun H locs pb24 hP hS => ?_)
  refine lv_istore_n (lv' := [(2, .int r23), (1, .int r19), (0, .ref (gA G 72))]) hx hb dX11_product_9 rfl hl (by decide) rfl (fun ls hl => ?_)
  exact bl10 n r19 r23 C20 _ _ _ h (lv_sub hl [2, 1, 0] rfl) hP hS
set_option maxHeartbeats 4000000 in
set_option maxRecDepth 100000 in
theorem mX11_sums (l : Launch) (G : gp) (Cm : Mm) {n : Nat} {z : Mm → Option (Int32 × Mm)} {fr lo : Nat} (hz : ∀ (Cm : Mm) {C : Mm} {r0 : Int32} {C0 : Mm} (_ : z C = some (r0, C0)), Met l yX11_one (wsy yX11_one cX11_one 5 (some .int)) (rmv fr lo) (va_Pc [.ref (gA G 72)] (Rl G (Cm, C))) (Qi G PT r0 (Cm, C0)) 0 0 (lwA G)) {C : Mm} {r0 : Int32} {C0 : Mm} (h : fX11_sums n z C = some (r0, C0)) : Met l yX11_sums (wsy yX11_sums cX11_sums 4 (some .int)) (rmv (fr + 2) (lo + 47)) (va_Pc [.ref (gA G 72)] (Rl G (Cm, C))) (Qi G PT r0 (Cm, C0)) 0 0 (lwA G) := by
  refine met_i [.ref (gA G 72)] wX11_sums.2.2.2.2.2 (Nat.le_of_ble_eq_true rfl) ?_
  intro p e s m args below meth c ls hC hr hP hl
  have hC : Cx G p s m args meth c cX11_sums RX11 4 := hC
  have hx := hC.1
  have hb := hC.2.1
  have hown := hC.2.2.2.1
  have hts := hC.2.2.2.2.1
  have hS : va_S (lwA G) s.heap s.heap [] := va_S.rf
  have hl : lv_has ls 4 [(0, .ref (gA G 72))] := hl
  have bl73 : ∀ (k5 : Int32 → Mm → Option (Int32 × Mm)) (hk5 : ∀ (y1 : Int32) (C : Mm) (H : Heap) (locs : List Loc) (ls : Array Slot), k5 y1 C = some (r0, C0) → lv_has ls 4 [(0, .ref (gA G 72)), (1, .int y1)] → va_P (gD G) vwCl (wld G (Cm, C)) H → va_S (lwA G) s.heap H locs → W p l e (rmv (fr + 2) (lo + 47)) s m args below meth c H locs 0 0 (MQ below (Qi G PT r0 (Cm, C0)) args s 0 0 (lwA G)) (F0 m 5 ls [])), ∀ (s0 : Int32) (C : Mm) (H : Heap) (locs : List Loc) (ls : Array Slot), fX11_sums_b73 n z k5 s0 C = some (r0, C0) → lv_has ls 4 [(0, .ref (gA G 72))] → va_P (gD G) vwCl (wld G (Cm, C)) H → va_S (lwA G) s.heap H locs → W p l e (rmv (fr + 2) (lo + 47)) s m args below meth c H locs 0 0 (MQ below (Qi G PT r0 (Cm, C0)) args s 0 0 (lwA G)) (F0 m 73 ls [.int s0]) := by
    intro k5 hk5 s0 C H locs ls h hl hP hS
    unfold fX11_sums_b73 at h
    refine lv_istore_n (lv' := [(1, .int s0), (0, .ref (gA G 72))]) hx hb dX11_sums_73 rfl hl (by decide) rfl (fun ls hl => ?_)
    refine lv_goto (tgt := 5) hx hb dX11_sums_74 (by decide) ?_
    exact hk5 s0 C _ _ _ h (lv_sub hl [1, 0] rfl) hP hS
  have bl44 : ∀ (k5 : Int32 → Mm → Option (Int32 × Mm)) (hk5 : ∀ (y1 : Int32) (C : Mm) (H : Heap) (locs : List Loc) (ls : Array Slot), k5 y1 C = some (r0, C0) → lv_has ls 4 [(0, .ref (gA G 72)), (1, .int y1)] → va_P (gD G) vwCl (wld G (Cm, C)) H → va_S (lwA G) s.heap H locs → W p l e (rmv (fr + 2) (lo + 47)) s m args below meth c H locs 0 0 (MQ below (Qi G PT r0 (Cm, C0)) args s 0 0 (lwA G)) (F0 m 5 ls [])), ∀ (y1 : Int32) (s0 : Int32) (C : Mm) (H : Heap) (locs : List Loc) (ls : Array Slot), fX11_sums_b44 n z k5 y1 s0 C = some (r0, C0) → lv_has ls 4 [(0, .ref (gA G 72)), (1, .int y1)] → va_P (gD G) vwCl (wld G (Cm, C)) H → va_S (lwA G) s.heap H locs → W p l e (rmv (fr + 2) (lo + 47)) s m args below meth c H locs 0 0 (MQ below (Qi G PT r0 (Cm, C0)) args s 0 0 (lwA G)) (F0 m 44 ls [.int s0]) := by
    intro k5 hk5 y1 s0 C H locs ls h hl hP hS
    unfold fX11_sums_b44 at h
    refine lv_istore_n (lv' := [(2, .int s0), (0, .ref (gA G 72)), (1, .int y1)]) hx hb dX11_sums_44 rfl hl (by decide) rfl (fun ls hl => ?_)
    refine lv_aload_n hx hb dX11_sums_45 rfl (lv_at hl 1 rfl) ?_
    refine lv_dup hx hb dX11_sums_46 rfl ?_
    refine r_get (v := .int (C.1 72 11)) hC inX11 hP (e_72 G _) rfl 11 (by decide) rfl k1061 rfl dX11_sums_47 ?_
    refine lv_iconst (v := 1) hx hb dX11_sums_50 (by decide) ?_
    refine lv_iadd hx hb dX11_sums_51 ?_
    obtain ⟨C1, eC1⟩ : ∃ Z : Mm, Z = wrI C 72 11 ((C.1 72 11) + 1) := ⟨_, rfl⟩
    replace h := lt_y eC1 h
    refine r_put (X' := (Cm, C1)) hC inX11 tyX11 tyX11_ok nmX11 hP hS (e_72 G _) rfl 11 (by decide) rfl k1061 rfl (v := .int ((C.1 72 11) + 1)) rfl rfl (Nat.le_of_ble_eq_true rfl) (p_72_11 G _ _ eC1) dX11_sums_52 (fun H locs hP hS => ?_)
    refine lv_aload_n hx hb dX11_sums_55 rfl (lv_at hl 1 rfl) ?_
    obtain ⟨r3, C4, hq2, h⟩ := bp_x h
    refine rc_i hS (run_V hC wX11_product k1256 (e_72 G _) rfl hP hS (As := []) (rest := []) (mX11_product l G Cm hz hq2) rfl hl.1 (Nat.le_of_ble_eq_true rfl) (rm_le (by omega) (by omega)) ⟨Nat.le_refl _, Nat.le_refl _⟩ rfl dX11_sums_56) (fun H locs pb5 hP hS => ?_)
    refine lv_istore_n (lv' := [(3, .int r3), (2, .int s0), (0, .ref (gA G 72)), (1, .int y1)]) hx hb dX11_sums_59 rfl hl (by decide) rfl (fun ls hl => ?_)
    refine lv_iload_n hx hb dX11_sums_60 rfl (lv_at hl 1 rfl) ?_
    refine lv_if_eq (tgt := 70) hx hb dX11_sums_61 (by decide) (fun c6 => ?_) (fun c6 => ?_)
    · replace h := it_t c6 h
      refine lv_iload_n hx hb dX11_sums_70 rfl (lv_at hl 3 rfl) ?_
      refine lv_iload_n hx hb dX11_sums_71 rfl (lv_at hl 0 rfl) ?_
      refine lv_isub hx hb dX11_sums_72 ?_
      exact bl73 k5 hk5 (y1 - r3) C4 _ _ _ h (lv_sub hl [2] rfl) hP hS
    · replace h := it_f c6 h
      refine lv_iload_n hx hb dX11_sums_64 rfl (lv_at hl 3 rfl) ?_
      refine lv_iload_n hx hb dX11_sums_65 rfl (lv_at hl 0 rfl) ?_
      refine lv_iadd hx hb dX11_sums_66 ?_
      refine lv_goto (tgt := 73) hx hb dX11_sums_67 (by decide) ?_
      exact bl73 k5 hk5 (y1 + r3) C4 _ _ _ h (lv_sub hl [2] rfl) hP hS
  have bl30 : ∀ (k5 : Int32 → Mm → Option (Int32 × Mm)) (hk5 : ∀ (y1 : Int32) (C : Mm) (H : Heap) (locs : List Loc) (ls : Array Slot), k5 y1 C = some (r0, C0) → lv_has ls 4 [(0, .ref (gA G 72)), (1, .int y1)] → va_P (gD G) vwCl (wld G (Cm, C)) H → va_S (lwA G) s.heap H locs → W p l e (rmv (fr + 2) (lo + 47)) s m args below meth c H locs 0 0 (MQ below (Qi G PT r0 (Cm, C0)) args s 0 0 (lwA G)) (F0 m 5 ls [])), ∀ (y1 : Int32) (C : Mm) (H : Heap) (locs : List Loc) (ls : Array Slot), fX11_sums_b30 n z k5 y1 C = some (r0, C0) → lv_has ls 4 [(0, .ref (gA G 72)), (1, .int y1)] → va_P (gD G) vwCl (wld G (Cm, C)) H → va_S (lwA G) s.heap H locs → W p l e (rmv (fr + 2) (lo + 47)) s m args below meth c H locs 0 0 (MQ below (Qi G PT r0 (Cm, C0)) args s 0 0 (lwA G)) (F0 m 30 ls []) := by
    intro k5 hk5 y1 C H locs ls h hl hP hS
    unfold fX11_sums_b30 at h
    refine lv_aload_n hx hb dX11_sums_30 rfl (lv_at hl 0 rfl) ?_
    obtain ⟨r8, hq7, h⟩ := bn_x h
    refine rc_i hS (run_V hC wX11_byteAt k1264 (e_72 G _) rfl hP hS (As := []) (rest := []) (mX11_byteAt l G Cm hq7) rfl hl.1 (Nat.le_of_ble_eq_true rfl) (rm_le (by omega) (by omega)) ⟨Nat.le_refl _, Nat.le_refl _⟩ rfl dX11_sums_31) (fun H locs pb9 hP hS => ?_)
    refine lv_bipush (v := 43) hx hb dX11_sums_34 (by decide) ?_
    refine lv_icmp_ne (tgt := 43) hx hb dX11_sums_36 (by decide) (fun c10 => ?_) (fun c10 => ?_)
    · replace h := it_f c10 h
      refine lv_iconst (v := 0) hx hb dX11_sums_43 (by decide) ?_
      exact bl44 k5 hk5 y1 0 C _ _ _ h (lv_sub hl [0, 1] rfl) hP hS
    · replace h := it_t c10 h
      refine lv_iconst (v := 1) hx hb dX11_sums_39 (by decide) ?_
      refine lv_goto (tgt := 44) hx hb dX11_sums_40 (by decide) ?_
      exact bl44 k5 hk5 y1 1 C _ _ _ h (lv_sub hl [0, 1] rfl) hP hS
  have bl5 : ∀ (fu : Nat), ∀ (y1 : Int32) (C : Mm) (H : Heap) (locs : List Loc) (ls : Array Slot), fX11_sums_h5 n z fu y1 C = some (r0, C0) → lv_has ls 4 [(0, .ref (gA G 72)), (1, .int y1)] → va_P (gD G) vwCl (wld G (Cm, C)) H → va_S (lwA G) s.heap H locs → W p l e (rmv (fr + 2) (lo + 47)) s m args below meth c H locs 0 0 (MQ below (Qi G PT r0 (Cm, C0)) args s 0 0 (lwA G)) (F0 m 5 ls []) := by
    intro fu
    induction fu with
    | zero =>
      intro y1 C H locs ls h hl hP hS
      rw [fX11_sums_h5.eq_1] at h
      cases h
    | succ fu ih =>
      intro y1 C H locs ls h hl hP hS
      rw [fX11_sums_h5.eq_2] at h
      refine lv_aload_n hx hb dX11_sums_5 rfl (lv_at hl 0 rfl) ?_
      refine r_get (v := .int (C.1 72 13)) hC inX11 hP (e_72 G _) rfl 13 (by decide) rfl k1063 rfl dX11_sums_6 ?_
      refine lv_if_ge (tgt := 77) hx hb dX11_sums_9 (by decide) (fun c11 => ?_) (fun c11 => ?_)
      · replace h := it_t c11 h
        refine lv_iload_n hx hb dX11_sums_77 rfl (lv_at hl 1 rfl) ?_
        exact re_i' hC hr hP hS (pr_1 h) (congrArg (fun Z : Mm => (Cm, Z)) (pr_2 h)) dX11_sums_78
      · replace h := it_f c11 h
        refine lv_aload_n hx hb dX11_sums_12 rfl (lv_at hl 0 rfl) ?_
        obtain ⟨r13, hq12, h⟩ := bn_x h
        refine rc_i hS (run_V hC wX11_byteAt k1264 (e_72 G _) rfl hP hS (As := []) (rest := []) (mX11_byteAt l G Cm hq12) rfl hl.1 (Nat.le_of_ble_eq_true rfl) (rm_le (by omega) (by omega)) ⟨Nat.le_refl _, Nat.le_refl _⟩ rfl dX11_sums_13) (fun H locs pb14 hP hS => ?_)
        refine lv_bipush (v := 43) hx hb dX11_sums_16 (by decide) ?_
        refine lv_icmp_eq (tgt := 30) hx hb dX11_sums_18 (by decide) (fun c15 => ?_) (fun c15 => ?_)
        · replace h := it_t c15 h
          exact bl30 (fX11_sums_h5 n z fu) ih y1 C _ _ _ h (lv_sub hl [0, 1] rfl) hP hS
        · replace h := it_f c15 h
          refine lv_aload_n hx hb dX11_sums_21 rfl (lv_at hl 0 rfl) ?_
          obtain ⟨r17, hq16, h⟩ := bn_x h
          refine rc_i hS (run_V hC wX11_byteAt k1264 (e_72 G _) rfl hP hS (As := []) (rest := []) (mX11_byteAt l G Cm hq16) rfl hl.1 (Nat.le_of_ble_eq_true rfl) (rm_le (by omega) (by omega)) ⟨Nat.le_refl _, Nat.le_refl _⟩ rfl dX11_sums_22) (fun H locs pb18 hP hS => ?_)
          refine lv_bipush (v := 45) hx hb dX11_sums_25 (by decide) ?_
          refine lv_icmp_ne (tgt := 77) hx hb dX11_sums_27 (by decide) (fun c19 => ?_) (fun c19 => ?_)
          · replace h := it_f c19 h
            refine lv_iload_n hx hb dX11_sums_77 rfl (lv_at hl 1 rfl) ?_
            exact re_i' hC hr hP hS (pr_1 h) (congrArg (fun Z : Mm => (Cm, Z)) (pr_2 h)) dX11_sums_78
          · replace h := it_t c19 h
            exact bl30 (fX11_sums_h5 n z fu) ih y1 C _ _ _ h (lv_sub hl [0, 1] rfl) hP hS
  unfold fX11_sums at h
  refine lv_aload_n hx hb dX11_sums_0 rfl (lv_at hl 0 rfl) ?_
  obtain ⟨r21, C22, hq20, h⟩ := bp_x h
  refine rc_i hS (run_V hC wX11_product k1256 (e_72 G _) rfl hP hS (As := []) (rest := []) (mX11_product l G Cm hz hq20) rfl hl.1 (Nat.le_of_ble_eq_true rfl) (rm_le (by omega) (by omega)) ⟨Nat.le_refl _, Nat.le_refl _⟩ rfl dX11_sums_1) (fun H locs pb23 hP hS => ?_)
  refine lv_istore_n (lv' := [(1, .int r21), (0, .ref (gA G 72))]) hx hb dX11_sums_4 rfl hl (by decide) rfl (fun ls hl => ?_)
  exact bl5 n r21 C22 _ _ _ h (lv_sub hl [1, 0] rfl) hP hS
set_option maxHeartbeats 4000000 in
set_option maxRecDepth 100000 in
theorem mX11_compared (l : Launch) (G : gp) (Cm : Mm) {n : Nat} {z : Mm → Option (Int32 × Mm)} {fr lo : Nat} (hz : ∀ (Cm : Mm) {C : Mm} {r0 : Int32} {C0 : Mm} (_ : z C = some (r0, C0)), Met l yX11_one (wsy yX11_one cX11_one 5 (some .int)) (rmv fr lo) (va_Pc [.ref (gA G 72)] (Rl G (Cm, C))) (Qi G PT r0 (Cm, C0)) 0 0 (lwA G)) {C : Mm} {r0 : Int32} {C0 : Mm} (h : fX11_compared n z C = some (r0, C0)) : Met l yX11_compared (wsy yX11_compared cX11_compared 4 (some .int)) (rmv (fr + 3) (lo + 70)) (va_Pc [.ref (gA G 72)] (Rl G (Cm, C))) (Qi G PT r0 (Cm, C0)) 0 0 (lwA G) := by
  refine met_i [.ref (gA G 72)] wX11_compared.2.2.2.2.2 (Nat.le_of_ble_eq_true rfl) ?_
  intro p e s m args below meth c ls hC hr hP hl
  have hC : Cx G p s m args meth c cX11_compared RX11 4 := hC
  have hx := hC.1
  have hb := hC.2.1
  have hown := hC.2.2.2.1
  have hts := hC.2.2.2.2.1
  have hS : va_S (lwA G) s.heap s.heap [] := va_S.rf
  have hl : lv_has ls 4 [(0, .ref (gA G 72))] := hl
  have bl37 : ∀ (y1 : Int32) (y2 : Int32) (C : Mm) (H : Heap) (locs : List Loc) (ls : Array Slot), fX11_compared_b37 n z y1 y2 C = some (r0, C0) → lv_has ls 4 [(0, .ref (gA G 72)), (1, .int y1), (2, .int y2)] → va_P (gD G) vwCl (wld G (Cm, C)) H → va_S (lwA G) s.heap H locs → W p l e (rmv (fr + 3) (lo + 70)) s m args below meth c H locs 0 0 (MQ below (Qi G PT r0 (Cm, C0)) args s 0 0 (lwA G)) (F0 m 37 ls []) := by
    intro y1 y2 C H locs ls h hl hP hS
    unfold fX11_compared_b37 at h
    refine lv_aload_n hx hb dX11_compared_37 rfl (lv_at hl 0 rfl) ?_
    refine lv_dup hx hb dX11_compared_38 rfl ?_
    refine r_get (v := .int (C.1 72 11)) hC inX11 hP (e_72 G _) rfl 11 (by decide) rfl k1061 rfl dX11_compared_39 ?_
    refine lv_iconst (v := 1) hx hb dX11_compared_42 (by decide) ?_
    refine lv_iadd hx hb dX11_compared_43 ?_
    obtain ⟨C1, eC1⟩ : ∃ Z : Mm, Z = wrI C 72 11 ((C.1 72 11) + 1) := ⟨_, rfl⟩
    replace h := lt_y eC1 h
    refine r_put (X' := (Cm, C1)) hC inX11 tyX11 tyX11_ok nmX11 hP hS (e_72 G _) rfl 11 (by decide) rfl k1061 rfl (v := .int ((C.1 72 11) + 1)) rfl rfl (Nat.le_of_ble_eq_true rfl) (p_72_11 G _ _ eC1) dX11_compared_44 (fun H locs hP hS => ?_)
    refine lv_aload_n hx hb dX11_compared_47 rfl (lv_at hl 0 rfl) ?_
    obtain ⟨r3, C4, hq2, h⟩ := bp_x h
    refine rc_i hS (run_V hC wX11_sums k1252 (e_72 G _) rfl hP hS (As := []) (rest := []) (mX11_sums l G Cm hz hq2) rfl hl.1 (Nat.le_of_ble_eq_true rfl) (rm_le (by omega) (by omega)) ⟨Nat.le_refl _, Nat.le_refl _⟩ rfl dX11_compared_48) (fun H locs pb5 hP hS => ?_)
    refine lv_istore_n (lv' := [(3, .int r3), (0, .ref (gA G 72)), (1, .int y1), (2, .int y2)]) hx hb dX11_compared_51 rfl hl (by decide) rfl (fun ls hl => ?_)
    refine lv_iload_n hx hb dX11_compared_52 rfl (lv_at hl 3 rfl) ?_
    refine lv_bipush (v := 60) hx hb dX11_compared_53 (by decide) ?_
    refine lv_icmp_ne (tgt := 66) hx hb dX11_compared_55 (by decide) (fun c6 => ?_) (fun c6 => ?_)
    · replace h := it_f c6 h
      refine lv_iload_n hx hb dX11_compared_66 rfl (lv_at hl 3 rfl) ?_
      refine lv_bipush (v := 61) hx hb dX11_compared_67 (by decide) ?_
      refine lv_icmp_ne (tgt := 80) hx hb dX11_compared_69 (by decide) (fun c7 => ?_) (fun c7 => ?_)
      · replace h := it_f c7 h
        refine lv_iload_n hx hb dX11_compared_80 rfl (lv_at hl 2 rfl) ?_
        refine lv_iload_n hx hb dX11_compared_81 rfl (lv_at hl 0 rfl) ?_
        refine lv_icmp_le (tgt := 89) hx hb dX11_compared_82 (by decide) (fun c8 => ?_) (fun c8 => ?_)
        · replace h := it_t c8 h
          refine lv_iconst (v := 0) hx hb dX11_compared_89 (by decide) ?_
          exact re_i' hC hr hP hS (pr_1 h) (congrArg (fun Z : Mm => (Cm, Z)) (pr_2 h)) dX11_compared_90
        · replace h := it_f c8 h
          refine lv_iconst (v := 1) hx hb dX11_compared_85 (by decide) ?_
          refine lv_goto (tgt := 90) hx hb dX11_compared_86 (by decide) ?_
          exact re_i' hC hr hP hS (pr_1 h) (congrArg (fun Z : Mm => (Cm, Z)) (pr_2 h)) dX11_compared_90
      · replace h := it_t c7 h
        refine lv_iload_n hx hb dX11_compared_72 rfl (lv_at hl 2 rfl) ?_
        refine lv_iload_n hx hb dX11_compared_73 rfl (lv_at hl 0 rfl) ?_
        refine lv_icmp_ne (tgt := 89) hx hb dX11_compared_74 (by decide) (fun c9 => ?_) (fun c9 => ?_)
        · replace h := it_f c9 h
          refine lv_iconst (v := 0) hx hb dX11_compared_89 (by decide) ?_
          exact re_i' hC hr hP hS (pr_1 h) (congrArg (fun Z : Mm => (Cm, Z)) (pr_2 h)) dX11_compared_90
        · replace h := it_t c9 h
          refine lv_goto (tgt := 85) hx hb dX11_compared_77 (by decide) ?_
          refine lv_iconst (v := 1) hx hb dX11_compared_85 (by decide) ?_
          refine lv_goto (tgt := 90) hx hb dX11_compared_86 (by decide) ?_
          exact re_i' hC hr hP hS (pr_1 h) (congrArg (fun Z : Mm => (Cm, Z)) (pr_2 h)) dX11_compared_90
    · replace h := it_t c6 h
      refine lv_iload_n hx hb dX11_compared_58 rfl (lv_at hl 2 rfl) ?_
      refine lv_iload_n hx hb dX11_compared_59 rfl (lv_at hl 0 rfl) ?_
      refine lv_icmp_ge (tgt := 89) hx hb dX11_compared_60 (by decide) (fun c10 => ?_) (fun c10 => ?_)
      · replace h := it_t c10 h
        refine lv_iconst (v := 0) hx hb dX11_compared_89 (by decide) ?_
        exact re_i' hC hr hP hS (pr_1 h) (congrArg (fun Z : Mm => (Cm, Z)) (pr_2 h)) dX11_compared_90
      · replace h := it_f c10 h
        refine lv_goto (tgt := 85) hx hb dX11_compared_63 (by decide) ?_
        refine lv_iconst (v := 1) hx hb dX11_compared_85 (by decide) ?_
        refine lv_goto (tgt := 90) hx hb dX11_compared_86 (by decide) ?_
        exact re_i' hC hr hP hS (pr_1 h) (congrArg (fun Z : Mm => (Cm, Z)) (pr_2 h)) dX11_compared_90
  unfold fX11_compared at h
  refine lv_aload_n hx hb dX11_compared_0 rfl (lv_at hl 0 rfl) ?_
  obtain ⟨r12, C13, hq11, h⟩ := bp_x h
  refine rc_i hS (run_V hC wX11_sums k1252 (e_72 G _) rfl hP hS (As := []) (rest := []) (mX11_sums l G Cm hz hq11) rfl hl.1 (Nat.le_of_ble_eq_true rfl) (rm_le (by omega) (by omega)) ⟨Nat.le_refl _, Nat.le_refl _⟩ rfl dX11_compared_1) (fun H locs pb14 hP hS => ?_)
  refine lv_istore_n (lv' := [(1, .int r12), (0, .ref (gA G 72))]) hx hb dX11_compared_4 rfl hl (by decide) rfl (fun ls hl => ?_)
  refine lv_aload_n hx hb dX11_compared_5 rfl (lv_at hl 1 rfl) ?_
  obtain ⟨r16, hq15, h⟩ := bn_x h
  refine rc_i hS (run_V hC wX11_byteAt k1264 (e_72 G _) rfl hP hS (As := []) (rest := []) (mX11_byteAt l G Cm hq15) rfl hl.1 (Nat.le_of_ble_eq_true rfl) (rm_le (by omega) (by omega)) ⟨Nat.le_refl _, Nat.le_refl _⟩ rfl dX11_compared_6) (fun H locs pb17 hP hS => ?_)
  refine lv_istore_n (lv' := [(2, .int r16), (1, .int r12), (0, .ref (gA G 72))]) hx hb dX11_compared_9 rfl hl (by decide) rfl (fun ls hl => ?_)
  refine lv_aload_n hx hb dX11_compared_10 rfl (lv_at hl 2 rfl) ?_
  refine r_get (v := .int (C13.1 72 13)) hC inX11 hP (e_72 G _) rfl 13 (by decide) rfl k1063 rfl dX11_compared_11 ?_
  refine lv_if_ge (tgt := 35) hx hb dX11_compared_14 (by decide) (fun c18 => ?_) (fun c18 => ?_)
  · replace h := it_t c18 h
    refine lv_iload_n hx hb dX11_compared_35 rfl (lv_at hl 1 rfl) ?_
    exact re_i' hC hr hP hS (pr_1 h) (congrArg (fun Z : Mm => (Cm, Z)) (pr_2 h)) dX11_compared_36
  · replace h := it_f c18 h
    refine lv_iload_n hx hb dX11_compared_17 rfl (lv_at hl 0 rfl) ?_
    refine lv_bipush (v := 60) hx hb dX11_compared_18 (by decide) ?_
    refine lv_icmp_eq (tgt := 37) hx hb dX11_compared_20 (by decide) (fun c19 => ?_) (fun c19 => ?_)
    · replace h := it_t c19 h
      exact bl37 r12 r16 C13 _ _ _ h (lv_sub hl [2, 1, 0] rfl) hP hS
    · replace h := it_f c19 h
      refine lv_iload_n hx hb dX11_compared_23 rfl (lv_at hl 0 rfl) ?_
      refine lv_bipush (v := 61) hx hb dX11_compared_24 (by decide) ?_
      refine lv_icmp_eq (tgt := 37) hx hb dX11_compared_26 (by decide) (fun c20 => ?_) (fun c20 => ?_)
      · replace h := it_t c20 h
        exact bl37 r12 r16 C13 _ _ _ h (lv_sub hl [2, 1, 0] rfl) hP hS
      · replace h := it_f c20 h
        refine lv_iload_n hx hb dX11_compared_29 rfl (lv_at hl 0 rfl) ?_
        refine lv_bipush (v := 62) hx hb dX11_compared_30 (by decide) ?_
        refine lv_icmp_eq (tgt := 37) hx hb dX11_compared_32 (by decide) (fun c21 => ?_) (fun c21 => ?_)
        · replace h := it_t c21 h
          exact bl37 r12 r16 C13 _ _ _ h (lv_sub hl [2, 1, 0] rfl) hP hS
        · replace h := it_f c21 h
          refine lv_iload_n hx hb dX11_compared_35 rfl (lv_at hl 1 rfl) ?_
          exact re_i' hC hr hP hS (pr_1 h) (congrArg (fun Z : Mm => (Cm, Z)) (pr_2 h)) dX11_compared_36
set_option maxHeartbeats 4000000 in
set_option maxRecDepth 100000 in
theorem mX11_both (l : Launch) (G : gp) (Cm : Mm) {n : Nat} {z : Mm → Option (Int32 × Mm)} {fr lo : Nat} (hz : ∀ (Cm : Mm) {C : Mm} {r0 : Int32} {C0 : Mm} (_ : z C = some (r0, C0)), Met l yX11_one (wsy yX11_one cX11_one 5 (some .int)) (rmv fr lo) (va_Pc [.ref (gA G 72)] (Rl G (Cm, C))) (Qi G PT r0 (Cm, C0)) 0 0 (lwA G)) {C : Mm} {r0 : Int32} {C0 : Mm} (h : fX11_both n z C = some (r0, C0)) : Met l yX11_both (wsy yX11_both cX11_both 3 (some .int)) (rmv (fr + 4) (lo + 93)) (va_Pc [.ref (gA G 72)] (Rl G (Cm, C))) (Qi G PT r0 (Cm, C0)) 0 0 (lwA G) := by
  refine met_i [.ref (gA G 72)] wX11_both.2.2.2.2.2 (Nat.le_of_ble_eq_true rfl) ?_
  intro p e s m args below meth c ls hC hr hP hl
  have hC : Cx G p s m args meth c cX11_both RX11 3 := hC
  have hx := hC.1
  have hb := hC.2.1
  have hown := hC.2.2.2.1
  have hts := hC.2.2.2.2.1
  have hS : va_S (lwA G) s.heap s.heap [] := va_S.rf
  have hl : lv_has ls 3 [(0, .ref (gA G 72))] := hl
  have bl32 : ∀ (k5 : Int32 → Mm → Option (Int32 × Mm)) (hk5 : ∀ (y1 : Int32) (C : Mm) (H : Heap) (locs : List Loc) (ls : Array Slot), k5 y1 C = some (r0, C0) → lv_has ls 3 [(0, .ref (gA G 72)), (1, .int y1)] → va_P (gD G) vwCl (wld G (Cm, C)) H → va_S (lwA G) s.heap H locs → W p l e (rmv (fr + 4) (lo + 93)) s m args below meth c H locs 0 0 (MQ below (Qi G PT r0 (Cm, C0)) args s 0 0 (lwA G)) (F0 m 5 ls [])), ∀ (s0 : Int32) (C : Mm) (H : Heap) (locs : List Loc) (ls : Array Slot), fX11_both_b32 n z k5 s0 C = some (r0, C0) → lv_has ls 3 [(0, .ref (gA G 72))] → va_P (gD G) vwCl (wld G (Cm, C)) H → va_S (lwA G) s.heap H locs → W p l e (rmv (fr + 4) (lo + 93)) s m args below meth c H locs 0 0 (MQ below (Qi G PT r0 (Cm, C0)) args s 0 0 (lwA G)) (F0 m 32 ls [.int s0]) := by
    intro k5 hk5 s0 C H locs ls h hl hP hS
    unfold fX11_both_b32 at h
    refine lv_istore_n (lv' := [(1, .int s0), (0, .ref (gA G 72))]) hx hb dX11_both_32 rfl hl (by decide) rfl (fun ls hl => ?_)
    refine lv_goto (tgt := 5) hx hb dX11_both_33 (by decide) ?_
    exact hk5 s0 C _ _ _ h (lv_sub hl [1, 0] rfl) hP hS
  have bl31 : ∀ (k5 : Int32 → Mm → Option (Int32 × Mm)) (hk5 : ∀ (y1 : Int32) (C : Mm) (H : Heap) (locs : List Loc) (ls : Array Slot), k5 y1 C = some (r0, C0) → lv_has ls 3 [(0, .ref (gA G 72)), (1, .int y1)] → va_P (gD G) vwCl (wld G (Cm, C)) H → va_S (lwA G) s.heap H locs → W p l e (rmv (fr + 4) (lo + 93)) s m args below meth c H locs 0 0 (MQ below (Qi G PT r0 (Cm, C0)) args s 0 0 (lwA G)) (F0 m 5 ls [])), ∀  (C : Mm) (H : Heap) (locs : List Loc) (ls : Array Slot), fX11_both_b31 n z k5 C = some (r0, C0) → lv_has ls 3 [(0, .ref (gA G 72))] → va_P (gD G) vwCl (wld G (Cm, C)) H → va_S (lwA G) s.heap H locs → W p l e (rmv (fr + 4) (lo + 93)) s m args below meth c H locs 0 0 (MQ below (Qi G PT r0 (Cm, C0)) args s 0 0 (lwA G)) (F0 m 31 ls []) := by
    intro k5 hk5 C H locs ls h hl hP hS
    unfold fX11_both_b31 at h
    refine lv_iconst (v := 0) hx hb dX11_both_31 (by decide) ?_
    exact bl32 k5 hk5 0 C _ _ _ h (lv_sub hl [0] rfl) hP hS
  have bl5 : ∀ (fu : Nat), ∀ (y1 : Int32) (C : Mm) (H : Heap) (locs : List Loc) (ls : Array Slot), fX11_both_h5 n z fu y1 C = some (r0, C0) → lv_has ls 3 [(0, .ref (gA G 72)), (1, .int y1)] → va_P (gD G) vwCl (wld G (Cm, C)) H → va_S (lwA G) s.heap H locs → W p l e (rmv (fr + 4) (lo + 93)) s m args below meth c H locs 0 0 (MQ below (Qi G PT r0 (Cm, C0)) args s 0 0 (lwA G)) (F0 m 5 ls []) := by
    intro fu
    induction fu with
    | zero =>
      intro y1 C H locs ls h hl hP hS
      rw [fX11_both_h5.eq_1] at h
      cases h
    | succ fu ih =>
      intro y1 C H locs ls h hl hP hS
      rw [fX11_both_h5.eq_2] at h
      refine lv_aload_n hx hb dX11_both_5 rfl (lv_at hl 0 rfl) ?_
      refine lv_bipush (v := 38) hx hb dX11_both_6 (by decide) ?_
      obtain ⟨r2, C3, hq1, h⟩ := bp_x h
      refine rc_i hS (run_V hC wX11_takes k1272 (e_72 G _) rfl hP hS (As := [.int 38]) (rest := []) (mX11_takes l G Cm hq1) rfl hl.1 (Nat.le_of_ble_eq_true rfl) (rm_le (by omega) (by omega)) ⟨Nat.le_refl _, Nat.le_refl _⟩ rfl dX11_both_8) (fun H locs pb4 hP hS => ?_)
      refine lv_if_eq (tgt := 36) hx hb dX11_both_11 (by decide) (fun c5 => ?_) (fun c5 => ?_)
      · replace h := it_t c5 h
        refine lv_iload_n hx hb dX11_both_36 rfl (lv_at hl 1 rfl) ?_
        exact re_i' hC hr hP hS (pr_1 h) (congrArg (fun Z : Mm => (Cm, Z)) (pr_2 h)) dX11_both_37
      · replace h := it_f c5 h
        refine lv_aload_n hx hb dX11_both_14 rfl (lv_at hl 0 rfl) ?_
        obtain ⟨r7, C8, hq6, h⟩ := bp_x h
        refine rc_i hS (run_V hC wX11_compared k1248 (e_72 G _) rfl hP hS (As := []) (rest := []) (mX11_compared l G Cm hz hq6) rfl hl.1 (Nat.le_of_ble_eq_true rfl) (rm_le (by omega) (by omega)) ⟨Nat.le_refl _, Nat.le_refl _⟩ rfl dX11_both_15) (fun H locs pb9 hP hS => ?_)
        refine lv_istore_n (lv' := [(2, .int r7), (0, .ref (gA G 72)), (1, .int y1)]) hx hb dX11_both_18 rfl hl (by decide) rfl (fun ls hl => ?_)
        refine lv_iload_n hx hb dX11_both_19 rfl (lv_at hl 2 rfl) ?_
        refine lv_if_eq (tgt := 31) hx hb dX11_both_20 (by decide) (fun c10 => ?_) (fun c10 => ?_)
        · replace h := it_t c10 h
          exact bl31 (fX11_both_h5 n z fu) ih C8 _ _ _ h (lv_sub hl [1] rfl) hP hS
        · replace h := it_f c10 h
          refine lv_iload_n hx hb dX11_both_23 rfl (lv_at hl 0 rfl) ?_
          refine lv_if_eq (tgt := 31) hx hb dX11_both_24 (by decide) (fun c11 => ?_) (fun c11 => ?_)
          · replace h := it_t c11 h
            exact bl31 (fX11_both_h5 n z fu) ih C8 _ _ _ h (lv_sub hl [1] rfl) hP hS
          · replace h := it_f c11 h
            refine lv_iconst (v := 1) hx hb dX11_both_27 (by decide) ?_
            refine lv_goto (tgt := 32) hx hb dX11_both_28 (by decide) ?_
            exact bl32 (fX11_both_h5 n z fu) ih 1 C8 _ _ _ h (lv_sub hl [1] rfl) hP hS
  unfold fX11_both at h
  refine lv_aload_n hx hb dX11_both_0 rfl (lv_at hl 0 rfl) ?_
  obtain ⟨r13, C14, hq12, h⟩ := bp_x h
  refine rc_i hS (run_V hC wX11_compared k1248 (e_72 G _) rfl hP hS (As := []) (rest := []) (mX11_compared l G Cm hz hq12) rfl hl.1 (Nat.le_of_ble_eq_true rfl) (rm_le (by omega) (by omega)) ⟨Nat.le_refl _, Nat.le_refl _⟩ rfl dX11_both_1) (fun H locs pb15 hP hS => ?_)
  refine lv_istore_n (lv' := [(1, .int r13), (0, .ref (gA G 72))]) hx hb dX11_both_4 rfl hl (by decide) rfl (fun ls hl => ?_)
  exact bl5 n r13 C14 _ _ _ h (lv_sub hl [1, 0] rfl) hP hS
set_option maxHeartbeats 4000000 in
set_option maxRecDepth 100000 in
theorem mX11_either (l : Launch) (G : gp) (Cm : Mm) {n : Nat} {z : Mm → Option (Int32 × Mm)} {fr lo : Nat} (hz : ∀ (Cm : Mm) {C : Mm} {r0 : Int32} {C0 : Mm} (_ : z C = some (r0, C0)), Met l yX11_one (wsy yX11_one cX11_one 5 (some .int)) (rmv fr lo) (va_Pc [.ref (gA G 72)] (Rl G (Cm, C))) (Qi G PT r0 (Cm, C0)) 0 0 (lwA G)) {C : Mm} {r0 : Int32} {C0 : Mm} (h : fX11_either n z C = some (r0, C0)) : Met l yX11_either (wsy yX11_either cX11_either 3 (some .int)) (rmv (fr + 5) (lo + 115)) (va_Pc [.ref (gA G 72)] (Rl G (Cm, C))) (Qi G PT r0 (Cm, C0)) 0 0 (lwA G) := by
  refine met_i [.ref (gA G 72)] wX11_either.2.2.2.2.2 (Nat.le_of_ble_eq_true rfl) ?_
  intro p e s m args below meth c ls hC hr hP hl
  have hC : Cx G p s m args meth c cX11_either RX11 3 := hC
  have hx := hC.1
  have hb := hC.2.1
  have hown := hC.2.2.2.1
  have hts := hC.2.2.2.2.1
  have hS : va_S (lwA G) s.heap s.heap [] := va_S.rf
  have hl : lv_has ls 3 [(0, .ref (gA G 72))] := hl
  have bl32 : ∀ (k5 : Int32 → Mm → Option (Int32 × Mm)) (hk5 : ∀ (y1 : Int32) (C : Mm) (H : Heap) (locs : List Loc) (ls : Array Slot), k5 y1 C = some (r0, C0) → lv_has ls 3 [(0, .ref (gA G 72)), (1, .int y1)] → va_P (gD G) vwCl (wld G (Cm, C)) H → va_S (lwA G) s.heap H locs → W p l e (rmv (fr + 5) (lo + 115)) s m args below meth c H locs 0 0 (MQ below (Qi G PT r0 (Cm, C0)) args s 0 0 (lwA G)) (F0 m 5 ls [])), ∀ (s0 : Int32) (C : Mm) (H : Heap) (locs : List Loc) (ls : Array Slot), fX11_either_b32 n z k5 s0 C = some (r0, C0) → lv_has ls 3 [(0, .ref (gA G 72))] → va_P (gD G) vwCl (wld G (Cm, C)) H → va_S (lwA G) s.heap H locs → W p l e (rmv (fr + 5) (lo + 115)) s m args below meth c H locs 0 0 (MQ below (Qi G PT r0 (Cm, C0)) args s 0 0 (lwA G)) (F0 m 32 ls [.int s0]) := by
    intro k5 hk5 s0 C H locs ls h hl hP hS
    unfold fX11_either_b32 at h
    refine lv_istore_n (lv' := [(1, .int s0), (0, .ref (gA G 72))]) hx hb dX11_either_32 rfl hl (by decide) rfl (fun ls hl => ?_)
    refine lv_goto (tgt := 5) hx hb dX11_either_33 (by decide) ?_
    exact hk5 s0 C _ _ _ h (lv_sub hl [1, 0] rfl) hP hS
  have bl27 : ∀ (k5 : Int32 → Mm → Option (Int32 × Mm)) (hk5 : ∀ (y1 : Int32) (C : Mm) (H : Heap) (locs : List Loc) (ls : Array Slot), k5 y1 C = some (r0, C0) → lv_has ls 3 [(0, .ref (gA G 72)), (1, .int y1)] → va_P (gD G) vwCl (wld G (Cm, C)) H → va_S (lwA G) s.heap H locs → W p l e (rmv (fr + 5) (lo + 115)) s m args below meth c H locs 0 0 (MQ below (Qi G PT r0 (Cm, C0)) args s 0 0 (lwA G)) (F0 m 5 ls [])), ∀  (C : Mm) (H : Heap) (locs : List Loc) (ls : Array Slot), fX11_either_b27 n z k5 C = some (r0, C0) → lv_has ls 3 [(0, .ref (gA G 72))] → va_P (gD G) vwCl (wld G (Cm, C)) H → va_S (lwA G) s.heap H locs → W p l e (rmv (fr + 5) (lo + 115)) s m args below meth c H locs 0 0 (MQ below (Qi G PT r0 (Cm, C0)) args s 0 0 (lwA G)) (F0 m 27 ls []) := by
    intro k5 hk5 C H locs ls h hl hP hS
    unfold fX11_either_b27 at h
    refine lv_iconst (v := 1) hx hb dX11_either_27 (by decide) ?_
    refine lv_goto (tgt := 32) hx hb dX11_either_28 (by decide) ?_
    exact bl32 k5 hk5 1 C _ _ _ h (lv_sub hl [0] rfl) hP hS
  have bl5 : ∀ (fu : Nat), ∀ (y1 : Int32) (C : Mm) (H : Heap) (locs : List Loc) (ls : Array Slot), fX11_either_h5 n z fu y1 C = some (r0, C0) → lv_has ls 3 [(0, .ref (gA G 72)), (1, .int y1)] → va_P (gD G) vwCl (wld G (Cm, C)) H → va_S (lwA G) s.heap H locs → W p l e (rmv (fr + 5) (lo + 115)) s m args below meth c H locs 0 0 (MQ below (Qi G PT r0 (Cm, C0)) args s 0 0 (lwA G)) (F0 m 5 ls []) := by
    intro fu
    induction fu with
    | zero =>
      intro y1 C H locs ls h hl hP hS
      rw [fX11_either_h5.eq_1] at h
      cases h
    | succ fu ih =>
      intro y1 C H locs ls h hl hP hS
      rw [fX11_either_h5.eq_2] at h
      refine lv_aload_n hx hb dX11_either_5 rfl (lv_at hl 0 rfl) ?_
      refine lv_bipush (v := 124) hx hb dX11_either_6 (by decide) ?_
      obtain ⟨r2, C3, hq1, h⟩ := bp_x h
      refine rc_i hS (run_V hC wX11_takes k1272 (e_72 G _) rfl hP hS (As := [.int 124]) (rest := []) (mX11_takes l G Cm hq1) rfl hl.1 (Nat.le_of_ble_eq_true rfl) (rm_le (by omega) (by omega)) ⟨Nat.le_refl _, Nat.le_refl _⟩ rfl dX11_either_8) (fun H locs pb4 hP hS => ?_)
      refine lv_if_eq (tgt := 36) hx hb dX11_either_11 (by decide) (fun c5 => ?_) (fun c5 => ?_)
      · replace h := it_t c5 h
        refine lv_iload_n hx hb dX11_either_36 rfl (lv_at hl 1 rfl) ?_
        exact re_i' hC hr hP hS (pr_1 h) (congrArg (fun Z : Mm => (Cm, Z)) (pr_2 h)) dX11_either_37
      · replace h := it_f c5 h
        refine lv_aload_n hx hb dX11_either_14 rfl (lv_at hl 0 rfl) ?_
        obtain ⟨r7, C8, hq6, h⟩ := bp_x h
        refine rc_i hS (run_V hC wX11_both k1244 (e_72 G _) rfl hP hS (As := []) (rest := []) (mX11_both l G Cm hz hq6) rfl hl.1 (Nat.le_of_ble_eq_true rfl) (rm_le (by omega) (by omega)) ⟨Nat.le_refl _, Nat.le_refl _⟩ rfl dX11_either_15) (fun H locs pb9 hP hS => ?_)
        refine lv_istore_n (lv' := [(2, .int r7), (0, .ref (gA G 72)), (1, .int y1)]) hx hb dX11_either_18 rfl hl (by decide) rfl (fun ls hl => ?_)
        refine lv_iload_n hx hb dX11_either_19 rfl (lv_at hl 2 rfl) ?_
        refine lv_if_ne (tgt := 27) hx hb dX11_either_20 (by decide) (fun c10 => ?_) (fun c10 => ?_)
        · replace h := it_f c10 h
          exact bl27 (fX11_either_h5 n z fu) ih C8 _ _ _ h (lv_sub hl [1] rfl) hP hS
        · replace h := it_t c10 h
          refine lv_iload_n hx hb dX11_either_23 rfl (lv_at hl 0 rfl) ?_
          refine lv_if_eq (tgt := 31) hx hb dX11_either_24 (by decide) (fun c11 => ?_) (fun c11 => ?_)
          · replace h := it_t c11 h
            refine lv_iconst (v := 0) hx hb dX11_either_31 (by decide) ?_
            exact bl32 (fX11_either_h5 n z fu) ih 0 C8 _ _ _ h (lv_sub hl [1] rfl) hP hS
          · replace h := it_f c11 h
            exact bl27 (fX11_either_h5 n z fu) ih C8 _ _ _ h (lv_sub hl [1] rfl) hP hS
  unfold fX11_either at h
  refine lv_aload_n hx hb dX11_either_0 rfl (lv_at hl 0 rfl) ?_
  obtain ⟨r13, C14, hq12, h⟩ := bp_x h
  refine rc_i hS (run_V hC wX11_both k1244 (e_72 G _) rfl hP hS (As := []) (rest := []) (mX11_both l G Cm hz hq12) rfl hl.1 (Nat.le_of_ble_eq_true rfl) (rm_le (by omega) (by omega)) ⟨Nat.le_refl _, Nat.le_refl _⟩ rfl dX11_either_1) (fun H locs pb15 hP hS => ?_)
  refine lv_istore_n (lv' := [(1, .int r13), (0, .ref (gA G 72))]) hx hb dX11_either_4 rfl hl (by decide) rfl (fun ls hl => ?_)
  exact bl5 n r13 C14 _ _ _ h (lv_sub hl [1, 0] rfl) hP hS
set_option maxHeartbeats 4000000 in
set_option maxRecDepth 100000 in
theorem mX11_nameOf (l : Launch) (G : gp) (Cm : Mm) {p0 : Int32} {C : Mm} {r0 : Int32} (h : fX11_nameOf p0 = r0) : Met l yX11_nameOf (wsy yX11_nameOf cX11_nameOf 1 (some .int)) (rmv 0 0) (va_Pc [.int p0] (Rl G (Cm, C))) (Qi G PT r0 (Cm, C)) 0 0 (lwA G) := by
  refine met_i [.int p0] wX11_nameOf.2.2.2.2 (Nat.le_of_ble_eq_true rfl) ?_
  intro p e s m args below meth c ls hC hr hP hl
  have hC : Cx G p s m args meth c cX11_nameOf RX11 1 := hC
  have hx := hC.1
  have hb := hC.2.1
  have hown := hC.2.2.2.1
  have hts := hC.2.2.2.2.1
  have hS : va_S (lwA G) s.heap s.heap [] := va_S.rf
  have hl : lv_has ls 1 [(0, .int p0)] := hl
  unfold fX11_nameOf at h
  refine lv_iload_n hx hb dX11_nameOf_0 rfl (lv_at hl 0 rfl) ?_
  by_cases c1 : p0 = 99
  · replace h := it_t c1 h
    refine lv_tableIn (off := 126) (tgt := 127) hx hb dX11_nameOf_1 (by rw [c1]; decide) (by rw [c1]; decide) (by rw [c1]; rfl) (by decide) ?_
    refine lv_bipush (v := 7) hx hb dX11_nameOf_127 (by decide) ?_
    exact re_i' hC hr hP hS h rfl dX11_nameOf_129
  replace h := it_f c1 h
  by_cases c2 : p0 = 100
  · replace h := it_t c2 h
    refine lv_tableIn (off := 119) (tgt := 120) hx hb dX11_nameOf_1 (by rw [c2]; decide) (by rw [c2]; decide) (by rw [c2]; rfl) (by decide) ?_
    refine lv_iconst (v := 4) hx hb dX11_nameOf_120 (by decide) ?_
    exact re_i' hC hr hP hS h rfl dX11_nameOf_121
  replace h := it_f c2 h
  by_cases c3 : p0 = 109
  · replace h := it_t c3 h
    refine lv_tableIn (off := 111) (tgt := 112) hx hb dX11_nameOf_1 (by rw [c3]; decide) (by rw [c3]; decide) (by rw [c3]; rfl) (by decide) ?_
    refine lv_iconst (v := 0) hx hb dX11_nameOf_112 (by decide) ?_
    exact re_i' hC hr hP hS h rfl dX11_nameOf_113
  replace h := it_f c3 h
  by_cases c4 : p0 = 110
  · replace h := it_t c4 h
    refine lv_tableIn (off := 113) (tgt := 114) hx hb dX11_nameOf_1 (by rw [c4]; decide) (by rw [c4]; decide) (by rw [c4]; rfl) (by decide) ?_
    refine lv_iconst (v := 1) hx hb dX11_nameOf_114 (by decide) ?_
    exact re_i' hC hr hP hS h rfl dX11_nameOf_115
  replace h := it_f c4 h
  by_cases c5 : p0 = 116
  · replace h := it_t c5 h
    refine lv_tableIn (off := 123) (tgt := 124) hx hb dX11_nameOf_1 (by rw [c5]; decide) (by rw [c5]; decide) (by rw [c5]; rfl) (by decide) ?_
    refine lv_bipush (v := 6) hx hb dX11_nameOf_124 (by decide) ?_
    exact re_i' hC hr hP hS h rfl dX11_nameOf_126
  replace h := it_f c5 h
  by_cases c6 : p0 = 120
  · replace h := it_t c6 h
    refine lv_tableIn (off := 115) (tgt := 116) hx hb dX11_nameOf_1 (by rw [c6]; decide) (by rw [c6]; decide) (by rw [c6]; rfl) (by decide) ?_
    refine lv_iconst (v := 2) hx hb dX11_nameOf_116 (by decide) ?_
    exact re_i' hC hr hP hS h rfl dX11_nameOf_117
  replace h := it_f c6 h
  by_cases c7 : p0 = 121
  · replace h := it_t c7 h
    refine lv_tableIn (off := 117) (tgt := 118) hx hb dX11_nameOf_1 (by rw [c7]; decide) (by rw [c7]; decide) (by rw [c7]; rfl) (by decide) ?_
    refine lv_iconst (v := 3) hx hb dX11_nameOf_118 (by decide) ?_
    exact re_i' hC hr hP hS h rfl dX11_nameOf_119
  replace h := it_f c7 h
  by_cases c8 : p0 = 122
  · replace h := it_t c8 h
    refine lv_tableIn (off := 121) (tgt := 122) hx hb dX11_nameOf_1 (by rw [c8]; decide) (by rw [c8]; decide) (by rw [c8]; rfl) (by decide) ?_
    refine lv_iconst (v := 5) hx hb dX11_nameOf_122 (by decide) ?_
    exact re_i' hC hr hP hS h rfl dX11_nameOf_123
  replace h := it_f c8 h
  refine lv_tsD (tgt := 130) hx hb dX11_nameOf_1 rfl (ex_c (ti_ne (z := 99) rfl c1) (ex_c (ti_ne (z := 100) rfl c2) (ex_c (ti_ne (z := 109) rfl c3) (ex_c (ti_ne (z := 110) rfl c4) (ex_c (ti_ne (z := 116) rfl c5) (ex_c (ti_ne (z := 120) rfl c6) (ex_c (ti_ne (z := 121) rfl c7) (ex_c (ti_ne (z := 122) rfl c8) ex_0)))))))) (by decide) (by decide) ?_
  refine lv_iconst (v := (-1)) hx hb dX11_nameOf_130 (by decide) ?_
  exact re_i' hC hr hP hS h rfl dX11_nameOf_131
set_option maxHeartbeats 4000000 in
set_option maxRecDepth 100000 in
theorem mX11_one_w (l : Launch) (G : gp) {n : Nat} {z : Mm → Option (Int32 × Mm)} (d : Nat) (hz : ∀ (Cm : Mm) {C : Mm} {r0 : Int32} {C0 : Mm} (_ : z C = some (r0, C0)), Met l yX11_one (wsy yX11_one cX11_one 5 (some .int)) (rmv (6 * d + 2) (137 * d + 41)) (va_Pc [.ref (gA G 72)] (Rl G (Cm, C))) (Qi G PT r0 (Cm, C0)) 0 0 (lwA G)) (Cm : Mm) {C : Mm} {r0 : Int32} {C0 : Mm} (h : fX11_one_w n z C = some (r0, C0)) : Met l yX11_one (wsy yX11_one cX11_one 5 (some .int)) (rmv (6 * d + 8) (137 * d + 178)) (va_Pc [.ref (gA G 72)] (Rl G (Cm, C))) (Qi G PT r0 (Cm, C0)) 0 0 (lwA G) := by
  refine met_i [.ref (gA G 72)] wX11_one.2.2.2.2.2 (Nat.le_of_ble_eq_true rfl) ?_
  intro p e s m args below meth c ls hC hr hP hl
  have hC : Cx G p s m args meth c cX11_one RX11 5 := hC
  have hx := hC.1
  have hb := hC.2.1
  have hown := hC.2.2.2.1
  have hts := hC.2.2.2.2.1
  have hS : va_S (lwA G) s.heap s.heap [] := va_S.rf
  have hl : lv_has ls 5 [(0, .ref (gA G 72))] := hl
  have bl229 : ∀ (y3 : Int32) (y4 : Int32) (C : Mm) (H : Heap) (locs : List Loc) (ls : Array Slot), fX11_one_b229 n z y3 y4 C = some (r0, C0) → lv_has ls 5 [(0, .ref (gA G 72)), (3, .int y3), (4, .int y4)] → va_P (gD G) vwCl (wld G (Cm, C)) H → va_S (lwA G) s.heap H locs → W p l e (rmv (6 * d + 8) (137 * d + 178)) s m args below meth c H locs 0 0 (MQ below (Qi G PT r0 (Cm, C0)) args s 0 0 (lwA G)) (F0 m 229 ls []) := by
    intro y3 y4 C H locs ls h hl hP hS
    unfold fX11_one_b229 at h
    refine lv_iload hx hb dX11_one_229 (lv_at hl 2 rfl) ?_
    refine lv_if_ne (tgt := 241) hx hb dX11_one_231 (by decide) (fun c1 => ?_) (fun c1 => ?_)
    · replace h := it_f c1 h
      refine lv_iload_n hx hb dX11_one_241 rfl (lv_at hl 1 rfl) ?_
      exact re_i' hC hr hP hS (pr_1 h) (congrArg (fun Z : Mm => (Cm, Z)) (pr_2 h)) dX11_one_242
    · replace h := it_t c1 h
      refine lv_aload_n hx hb dX11_one_234 rfl (lv_at hl 0 rfl) ?_
      obtain ⟨r3, C4, hq2, h⟩ := bp_x h
      refine rc_i hS (run_V hC wX11_wrong k1268 (e_72 G _) rfl hP hS (As := []) (rest := []) (mX11_wrong l G Cm hq2) rfl hl.1 (Nat.le_of_ble_eq_true rfl) (rm_le (by omega) (by omega)) ⟨Nat.le_refl _, Nat.le_refl _⟩ rfl dX11_one_235) (fun H locs pb5 hP hS => ?_)
      refine lv_goto (tgt := 242) hx hb dX11_one_238 (by decide) ?_
      exact re_i' hC hr hP hS (pr_1 h) (congrArg (fun Z : Mm => (Cm, Z)) (pr_2 h)) dX11_one_242
  have bl176 : ∀ (fu : Nat), ∀ (y3 : Int32) (y4 : Int32) (C : Mm) (H : Heap) (locs : List Loc) (ls : Array Slot), fX11_one_h176 n z fu y3 y4 C = some (r0, C0) → lv_has ls 5 [(0, .ref (gA G 72)), (3, .int y3), (4, .int y4)] → va_P (gD G) vwCl (wld G (Cm, C)) H → va_S (lwA G) s.heap H locs → W p l e (rmv (6 * d + 8) (137 * d + 178)) s m args below meth c H locs 0 0 (MQ below (Qi G PT r0 (Cm, C0)) args s 0 0 (lwA G)) (F0 m 176 ls []) := by
    intro fu
    induction fu with
    | zero =>
      intro y3 y4 C H locs ls h hl hP hS
      rw [fX11_one_h176.eq_1] at h
      cases h
    | succ fu ih =>
      intro y3 y4 C H locs ls h hl hP hS
      rw [fX11_one_h176.eq_2] at h
      refine lv_iload hx hb dX11_one_176 (lv_at hl 2 rfl) ?_
      refine lv_iconst (v := 4) hx hb dX11_one_178 (by decide) ?_
      refine lv_icmp_ge (tgt := 229) hx hb dX11_one_179 (by decide) (fun c6 => ?_) (fun c6 => ?_)
      · replace h := it_t c6 h
        exact bl229 y3 y4 C _ _ _ h (lv_sub hl [0, 1, 2] rfl) hP hS
      · replace h := it_f c6 h
        refine lv_aload_n hx hb dX11_one_182 rfl (lv_at hl 0 rfl) ?_
        obtain ⟨r8, hq7, h⟩ := bn_x h
        refine rc_i hS (run_V hC wX11_byteAt k1264 (e_72 G _) rfl hP hS (As := []) (rest := []) (mX11_byteAt l G Cm hq7) rfl hl.1 (Nat.le_of_ble_eq_true rfl) (rm_le (by omega) (by omega)) ⟨Nat.le_refl _, Nat.le_refl _⟩ rfl dX11_one_183) (fun H locs pb9 hP hS => ?_)
        refine lv_bipush (v := 48) hx hb dX11_one_186 (by decide) ?_
        refine lv_icmp_lt (tgt := 229) hx hb dX11_one_188 (by decide) (fun c10 => ?_) (fun c10 => ?_)
        · replace h := it_t c10 h
          exact bl229 y3 y4 C _ _ _ h (lv_sub hl [0, 1, 2] rfl) hP hS
        · replace h := it_f c10 h
          refine lv_aload_n hx hb dX11_one_191 rfl (lv_at hl 0 rfl) ?_
          obtain ⟨r12, hq11, h⟩ := bn_x h
          refine rc_i hS (run_V hC wX11_byteAt k1264 (e_72 G _) rfl hP hS (As := []) (rest := []) (mX11_byteAt l G Cm hq11) rfl hl.1 (Nat.le_of_ble_eq_true rfl) (rm_le (by omega) (by omega)) ⟨Nat.le_refl _, Nat.le_refl _⟩ rfl dX11_one_192) (fun H locs pb13 hP hS => ?_)
          refine lv_bipush (v := 57) hx hb dX11_one_195 (by decide) ?_
          refine lv_icmp_gt (tgt := 229) hx hb dX11_one_197 (by decide) (fun c14 => ?_) (fun c14 => ?_)
          · replace h := it_t c14 h
            exact bl229 y3 y4 C _ _ _ h (lv_sub hl [0, 1, 2] rfl) hP hS
          · replace h := it_f c14 h
            refine lv_bipush (v := 10) hx hb dX11_one_200 (by decide) ?_
            refine lv_iload_n hx hb dX11_one_202 rfl (lv_at hl 1 rfl) ?_
            refine lv_imul hx hb dX11_one_203 ?_
            refine lv_aload_n hx hb dX11_one_204 rfl (lv_at hl 0 rfl) ?_
            obtain ⟨r16, hq15, h⟩ := bn_x h
            refine rc_i hS (run_V hC wX11_byteAt k1264 (e_72 G _) rfl hP hS (As := []) (rest := [.int (10 * y3)]) (mX11_byteAt l G Cm hq15) rfl hl.1 (Nat.le_of_ble_eq_true rfl) (rm_le (by omega) (by omega)) ⟨Nat.le_refl _, Nat.le_refl _⟩ rfl dX11_one_205) (fun H locs pb17 hP hS => ?_)
            refine lv_iadd hx hb dX11_one_208 ?_
            refine lv_bipush (v := 48) hx hb dX11_one_209 (by decide) ?_
            refine lv_isub hx hb dX11_one_211 ?_
            refine lv_topi (fun x18 ex18 => ?_)
            replace h := lt_y ex18 h
            refine lv_istore_n (lv' := [(3, .int x18), (0, .ref (gA G 72)), (4, .int y4)]) hx hb dX11_one_212 rfl hl (by decide) rfl (fun ls hl => ?_)
            obtain ⟨x19, ex19⟩ : ∃ y : Int32, y = y4 + 1 := ⟨_, rfl⟩
            replace h := lt_y ex19 h
            refine lv_iinc (v := x19) (lv' := [(4, .int x19), (3, .int x18), (0, .ref (gA G 72))]) hx hb dX11_one_213 hl (k := 2) rfl (by rw [ex19]; rfl) (by decide) rfl (fun ls hl => ?_)
            refine lv_aload_n hx hb dX11_one_216 rfl (lv_at hl 2 rfl) ?_
            refine lv_dup hx hb dX11_one_217 rfl ?_
            refine r_get (v := .int (C.1 72 11)) hC inX11 hP (e_72 G _) rfl 11 (by decide) rfl k1061 rfl dX11_one_218 ?_
            refine lv_iconst (v := 1) hx hb dX11_one_221 (by decide) ?_
            refine lv_iadd hx hb dX11_one_222 ?_
            obtain ⟨C20, eC20⟩ : ∃ Z : Mm, Z = wrI C 72 11 ((C.1 72 11) + 1) := ⟨_, rfl⟩
            replace h := lt_y eC20 h
            refine r_put (X' := (Cm, C20)) hC inX11 tyX11 tyX11_ok nmX11 hP hS (e_72 G _) rfl 11 (by decide) rfl k1061 rfl (v := .int ((C.1 72 11) + 1)) rfl rfl (Nat.le_of_ble_eq_true rfl) (p_72_11 G _ _ eC20) dX11_one_223 (fun H locs hP hS => ?_)
            refine lv_goto (tgt := 176) hx hb dX11_one_226 (by decide) ?_
            exact ih x18 x19 C20 _ _ _ h (lv_sub hl [2, 1, 0] rfl) hP hS
  have bl104 : ∀ (y1 : Int32) (y2 : Int32) (C : Mm) (H : Heap) (locs : List Loc) (ls : Array Slot), fX11_one_b104 n z y1 y2 C = some (r0, C0) → lv_has ls 5 [(0, .ref (gA G 72)), (1, .int y1), (2, .int y2)] → va_P (gD G) vwCl (wld G (Cm, C)) H → va_S (lwA G) s.heap H locs → W p l e (rmv (6 * d + 8) (137 * d + 178)) s m args below meth c H locs 0 0 (MQ below (Qi G PT r0 (Cm, C0)) args s 0 0 (lwA G)) (F0 m 104 ls []) := by
    intro y1 y2 C H locs ls h hl hP hS
    unfold fX11_one_b104 at h
    refine lv_aload_n hx hb dX11_one_104 rfl (lv_at hl 0 rfl) ?_
    refine lv_dup hx hb dX11_one_105 rfl ?_
    refine r_get (v := .int (C.1 72 14)) hC inX11 hP (e_72 G _) rfl 14 (by decide) rfl k1064 rfl dX11_one_106 ?_
    refine lv_iconst (v := 1) hx hb dX11_one_109 (by decide) ?_
    refine lv_isub hx hb dX11_one_110 ?_
    obtain ⟨C21, eC21⟩ : ∃ Z : Mm, Z = wrI C 72 14 ((C.1 72 14) - 1) := ⟨_, rfl⟩
    replace h := lt_y eC21 h
    refine r_put (X' := (Cm, C21)) hC inX11 tyX11 tyX11_ok nmX11 hP hS (e_72 G _) rfl 14 (by decide) rfl k1064 rfl (v := .int ((C.1 72 14) - 1)) rfl rfl (Nat.le_of_ble_eq_true rfl) (p_72_14 G _ _ eC21) dX11_one_111 (fun H locs hP hS => ?_)
    refine lv_iload_n hx hb dX11_one_114 rfl (lv_at hl 1 rfl) ?_
    refine lv_bipush (v := 40) hx hb dX11_one_115 (by decide) ?_
    refine lv_icmp_ne (tgt := 124) hx hb dX11_one_117 (by decide) (fun c22 => ?_) (fun c22 => ?_)
    · replace h := it_f c22 h
      refine lv_iload_n hx hb dX11_one_124 rfl (lv_at hl 1 rfl) ?_
      refine lv_bipush (v := 45) hx hb dX11_one_125 (by decide) ?_
      refine lv_icmp_ne (tgt := 135) hx hb dX11_one_127 (by decide) (fun c23 => ?_) (fun c23 => ?_)
      · replace h := it_f c23 h
        refine lv_iload_n hx hb dX11_one_135 rfl (lv_at hl 2 rfl) ?_
        refine lv_if_ne (tgt := 143) hx hb dX11_one_136 (by decide) (fun c24 => ?_) (fun c24 => ?_)
        · replace h := it_f c24 h
          refine lv_iconst (v := 0) hx hb dX11_one_143 (by decide) ?_
          exact re_i' hC hr hP hS (pr_1 h) (congrArg (fun Z : Mm => (Cm, Z)) (pr_2 h)) dX11_one_144
        · replace h := it_t c24 h
          refine lv_iconst (v := 1) hx hb dX11_one_139 (by decide) ?_
          refine lv_goto (tgt := 144) hx hb dX11_one_140 (by decide) ?_
          exact re_i' hC hr hP hS (pr_1 h) (congrArg (fun Z : Mm => (Cm, Z)) (pr_2 h)) dX11_one_144
      · replace h := it_t c23 h
        refine lv_iload_n hx hb dX11_one_130 rfl (lv_at hl 2 rfl) ?_
        refine lv_ineg hx hb dX11_one_131 ?_
        refine lv_goto (tgt := 144) hx hb dX11_one_132 (by decide) ?_
        exact re_i' hC hr hP hS (pr_1 h) (congrArg (fun Z : Mm => (Cm, Z)) (pr_2 h)) dX11_one_144
    · replace h := it_t c22 h
      refine lv_iload_n hx hb dX11_one_120 rfl (lv_at hl 2 rfl) ?_
      refine lv_goto (tgt := 144) hx hb dX11_one_121 (by decide) ?_
      exact re_i' hC hr hP hS (pr_1 h) (congrArg (fun Z : Mm => (Cm, Z)) (pr_2 h)) dX11_one_144
  have bl83 : ∀ (y1 : Int32) (s0 : Int32) (C : Mm) (H : Heap) (locs : List Loc) (ls : Array Slot), fX11_one_b83 n z y1 s0 C = some (r0, C0) → lv_has ls 5 [(0, .ref (gA G 72)), (1, .int y1)] → va_P (gD G) vwCl (wld G (Cm, C)) H → va_S (lwA G) s.heap H locs → W p l e (rmv (6 * d + 8) (137 * d + 178)) s m args below meth c H locs 0 0 (MQ below (Qi G PT r0 (Cm, C0)) args s 0 0 (lwA G)) (F0 m 83 ls [.int s0]) := by
    intro y1 s0 C H locs ls h hl hP hS
    unfold fX11_one_b83 at h
    refine lv_istore_n (lv' := [(2, .int s0), (0, .ref (gA G 72)), (1, .int y1)]) hx hb dX11_one_83 rfl hl (by decide) rfl (fun ls hl => ?_)
    refine lv_iload_n hx hb dX11_one_84 rfl (lv_at hl 2 rfl) ?_
    refine lv_bipush (v := 40) hx hb dX11_one_85 (by decide) ?_
    refine lv_icmp_ne (tgt := 104) hx hb dX11_one_87 (by decide) (fun c25 => ?_) (fun c25 => ?_)
    · replace h := it_f c25 h
      exact bl104 y1 s0 C _ _ _ h (lv_sub hl [1, 2, 0] rfl) hP hS
    · replace h := it_t c25 h
      refine lv_aload_n hx hb dX11_one_90 rfl (lv_at hl 1 rfl) ?_
      refine lv_bipush (v := 41) hx hb dX11_one_91 (by decide) ?_
      obtain ⟨r27, C28, hq26, h⟩ := bp_x h
      refine rc_i hS (run_V hC wX11_takes k1272 (e_72 G _) rfl hP hS (As := [.int 41]) (rest := []) (mX11_takes l G Cm hq26) rfl hl.1 (Nat.le_of_ble_eq_true rfl) (rm_le (by omega) (by omega)) ⟨Nat.le_refl _, Nat.le_refl _⟩ rfl dX11_one_93) (fun H locs pb29 hP hS => ?_)
      refine lv_if_ne (tgt := 104) hx hb dX11_one_96 (by decide) (fun c30 => ?_) (fun c30 => ?_)
      · replace h := it_f c30 h
        exact bl104 y1 s0 C28 _ _ _ h (lv_sub hl [1, 2, 0] rfl) hP hS
      · replace h := it_t c30 h
        refine lv_aload_n hx hb dX11_one_99 rfl (lv_at hl 1 rfl) ?_
        obtain ⟨r32, C33, hq31, h⟩ := bp_x h
        refine rc_i hS (run_V hC wX11_wrong k1268 (e_72 G _) rfl hP hS (As := []) (rest := []) (mX11_wrong l G Cm hq31) rfl hl.1 (Nat.le_of_ble_eq_true rfl) (rm_le (by omega) (by omega)) ⟨Nat.le_refl _, Nat.le_refl _⟩ rfl dX11_one_100) (fun H locs pb34 hP hS => ?_)
        exact re_i' hC hr hP hS (pr_1 h) (congrArg (fun Z : Mm => (Cm, Z)) (pr_2 h)) dX11_one_103
  have bl32 : ∀ (y1 : Int32) (C : Mm) (H : Heap) (locs : List Loc) (ls : Array Slot), fX11_one_b32 n z y1 C = some (r0, C0) → lv_has ls 5 [(0, .ref (gA G 72)), (1, .int y1)] → va_P (gD G) vwCl (wld G (Cm, C)) H → va_S (lwA G) s.heap H locs → W p l e (rmv (6 * d + 8) (137 * d + 178)) s m args below meth c H locs 0 0 (MQ below (Qi G PT r0 (Cm, C0)) args s 0 0 (lwA G)) (F0 m 32 ls []) := by
    intro y1 C H locs ls h hl hP hS
    unfold fX11_one_b32 at h
    refine lv_aload_n hx hb dX11_one_32 rfl (lv_at hl 0 rfl) ?_
    refine r_get (v := .int (C.1 72 14)) hC inX11 hP (e_72 G _) rfl 14 (by decide) rfl k1064 rfl dX11_one_33 ?_
    refine lv_bipush (v := 6) hx hb dX11_one_36 (by decide) ?_
    refine lv_icmp_ne (tgt := 46) hx hb dX11_one_38 (by decide) (fun c35 => ?_) (fun c35 => ?_)
    · replace h := it_f c35 h
      refine lv_aload_n hx hb dX11_one_46 rfl (lv_at hl 0 rfl) ?_
      refine lv_dup hx hb dX11_one_47 rfl ?_
      refine r_get (v := .int (C.1 72 14)) hC inX11 hP (e_72 G _) rfl 14 (by decide) rfl k1064 rfl dX11_one_48 ?_
      refine lv_iconst (v := 1) hx hb dX11_one_51 (by decide) ?_
      refine lv_iadd hx hb dX11_one_52 ?_
      obtain ⟨C36, eC36⟩ : ∃ Z : Mm, Z = wrI C 72 14 ((C.1 72 14) + 1) := ⟨_, rfl⟩
      replace h := lt_y eC36 h
      refine r_put (X' := (Cm, C36)) hC inX11 tyX11 tyX11_ok nmX11 hP hS (e_72 G _) rfl 14 (by decide) rfl k1064 rfl (v := .int ((C.1 72 14) + 1)) rfl rfl (Nat.le_of_ble_eq_true rfl) (p_72_14 G _ _ eC36) dX11_one_53 (fun H locs hP hS => ?_)
      refine lv_aload_n hx hb dX11_one_56 rfl (lv_at hl 0 rfl) ?_
      refine lv_dup hx hb dX11_one_57 rfl ?_
      refine r_get (v := .int (C36.1 72 11)) hC inX11 hP (e_72 G _) rfl 11 (by decide) rfl k1061 rfl dX11_one_58 ?_
      refine lv_iconst (v := 1) hx hb dX11_one_61 (by decide) ?_
      refine lv_iadd hx hb dX11_one_62 ?_
      obtain ⟨C37, eC37⟩ : ∃ Z : Mm, Z = wrI C36 72 11 ((C36.1 72 11) + 1) := ⟨_, rfl⟩
      replace h := lt_y eC37 h
      refine r_put (X' := (Cm, C37)) hC inX11 tyX11 tyX11_ok nmX11 hP hS (e_72 G _) rfl 11 (by decide) rfl k1061 rfl (v := .int ((C36.1 72 11) + 1)) rfl rfl (Nat.le_of_ble_eq_true rfl) (p_72_11 G _ _ eC37) dX11_one_63 (fun H locs hP hS => ?_)
      refine lv_iload_n hx hb dX11_one_66 rfl (lv_at hl 1 rfl) ?_
      refine lv_bipush (v := 40) hx hb dX11_one_67 (by decide) ?_
      refine lv_icmp_ne (tgt := 79) hx hb dX11_one_69 (by decide) (fun c38 => ?_) (fun c38 => ?_)
      · replace h := it_f c38 h
        refine lv_aload_n hx hb dX11_one_79 rfl (lv_at hl 0 rfl) ?_
        obtain ⟨r40, C41, hq39, h⟩ := bp_x h
        refine rc_i hS (run_V hC wX11_one k1260 (e_72 G _) rfl hP hS (As := []) (rest := []) (hz Cm hq39) rfl hl.1 (Nat.le_of_ble_eq_true rfl) (rm_le (by omega) (by omega)) ⟨Nat.le_refl _, Nat.le_refl _⟩ rfl dX11_one_80) (fun H locs pb42 hP hS => ?_)
        exact bl83 y1 r40 C41 _ _ _ h (lv_sub hl [0, 1] rfl) hP hS
      · replace h := it_t c38 h
        refine lv_aload_n hx hb dX11_one_72 rfl (lv_at hl 0 rfl) ?_
        obtain ⟨r44, C45, hq43, h⟩ := bp_x h
        refine rc_i hS (run_V hC wX11_either k1240 (e_72 G _) rfl hP hS (As := []) (rest := []) (mX11_either l G Cm hz hq43) rfl hl.1 (Nat.le_of_ble_eq_true rfl) (rm_le (by omega) (by omega)) ⟨Nat.le_refl _, Nat.le_refl _⟩ rfl dX11_one_73) (fun H locs pb46 hP hS => ?_)
        refine lv_goto (tgt := 83) hx hb dX11_one_76 (by decide) ?_
        exact bl83 y1 r44 C45 _ _ _ h (lv_sub hl [0, 1] rfl) hP hS
    · replace h := it_t c35 h
      refine lv_aload_n hx hb dX11_one_41 rfl (lv_at hl 0 rfl) ?_
      obtain ⟨r48, C49, hq47, h⟩ := bp_x h
      refine rc_i hS (run_V hC wX11_wrong k1268 (e_72 G _) rfl hP hS (As := []) (rest := []) (mX11_wrong l G Cm hq47) rfl hl.1 (Nat.le_of_ble_eq_true rfl) (rm_le (by omega) (by omega)) ⟨Nat.le_refl _, Nat.le_refl _⟩ rfl dX11_one_42) (fun H locs pb50 hP hS => ?_)
      exact re_i' hC hr hP hS (pr_1 h) (congrArg (fun Z : Mm => (Cm, Z)) (pr_2 h)) dX11_one_45
  unfold fX11_one_w at h
  refine lv_aload_n hx hb dX11_one_0 rfl (lv_at hl 0 rfl) ?_
  refine r_get (v := .int (C.1 72 13)) hC inX11 hP (e_72 G _) rfl 13 (by decide) rfl k1063 rfl dX11_one_1 ?_
  refine lv_if_lt (tgt := 9) hx hb dX11_one_4 (by decide) (fun c51 => ?_) (fun c51 => ?_)
  · replace h := it_t c51 h
    refine lv_aload_n hx hb dX11_one_9 rfl (lv_at hl 0 rfl) ?_
    obtain ⟨r53, hq52, h⟩ := bn_x h
    refine rc_i hS (run_V hC wX11_byteAt k1264 (e_72 G _) rfl hP hS (As := []) (rest := []) (mX11_byteAt l G Cm hq52) rfl hl.1 (Nat.le_of_ble_eq_true rfl) (rm_le (by omega) (by omega)) ⟨Nat.le_refl _, Nat.le_refl _⟩ rfl dX11_one_10) (fun H locs pb54 hP hS => ?_)
    refine lv_istore_n (lv' := [(1, .int r53), (0, .ref (gA G 72))]) hx hb dX11_one_13 rfl hl (by decide) rfl (fun ls hl => ?_)
    refine lv_iload_n hx hb dX11_one_14 rfl (lv_at hl 0 rfl) ?_
    refine lv_bipush (v := 33) hx hb dX11_one_15 (by decide) ?_
    refine lv_icmp_eq (tgt := 32) hx hb dX11_one_17 (by decide) (fun c55 => ?_) (fun c55 => ?_)
    · replace h := it_t c55 h
      exact bl32 r53 C _ _ _ h (lv_sub hl [1, 0] rfl) hP hS
    · replace h := it_f c55 h
      refine lv_iload_n hx hb dX11_one_20 rfl (lv_at hl 0 rfl) ?_
      refine lv_bipush (v := 45) hx hb dX11_one_21 (by decide) ?_
      refine lv_icmp_eq (tgt := 32) hx hb dX11_one_23 (by decide) (fun c56 => ?_) (fun c56 => ?_)
      · replace h := it_t c56 h
        exact bl32 r53 C _ _ _ h (lv_sub hl [1, 0] rfl) hP hS
      · replace h := it_f c56 h
        refine lv_iload_n hx hb dX11_one_26 rfl (lv_at hl 0 rfl) ?_
        refine lv_bipush (v := 40) hx hb dX11_one_27 (by decide) ?_
        refine lv_icmp_ne (tgt := 145) hx hb dX11_one_29 (by decide) (fun c57 => ?_) (fun c57 => ?_)
        · replace h := it_f c57 h
          refine lv_iload_n hx hb dX11_one_145 rfl (lv_at hl 0 rfl) ?_
          refine rc_i hS (run_S hC wX11_nameOf k1276 hP hS (As := [.int r53]) (rest := []) (mX11_nameOf l G Cm rfl) rfl hl.1 (Nat.le_of_ble_eq_true rfl) (rm_le (by omega) (by omega)) ⟨Nat.le_refl _, Nat.le_refl _⟩ rfl dX11_one_146) (fun H locs pb59 hP hS => ?_)
          refine lv_topi (fun x60 ex60 => ?_)
          replace h := lt_y ex60 h
          refine lv_istore_n (lv' := [(2, .int x60), (1, .int r53), (0, .ref (gA G 72))]) hx hb dX11_one_149 rfl hl (by decide) rfl (fun ls hl => ?_)
          refine lv_iload_n hx hb dX11_one_150 rfl (lv_at hl 0 rfl) ?_
          refine lv_if_lt (tgt := 171) hx hb dX11_one_151 (by decide) (fun c61 => ?_) (fun c61 => ?_)
          · replace h := it_t c61 h
            refine lv_iconst (v := 0) hx hb dX11_one_171 (by decide) ?_
            refine lv_istore_n (lv' := [(3, .int 0), (2, .int x60), (1, .int r53), (0, .ref (gA G 72))]) hx hb dX11_one_172 rfl hl (by decide) rfl (fun ls hl => ?_)
            refine lv_iconst (v := 0) hx hb dX11_one_173 (by decide) ?_
            refine lv_istore (lv' := [(4, .int 0), (3, .int 0), (2, .int x60), (1, .int r53), (0, .ref (gA G 72))]) hx hb dX11_one_174 hl (by decide) rfl (fun ls hl => ?_)
            exact bl176 n 0 0 C _ _ _ h (lv_sub hl [4, 1, 0] rfl) hP hS
          · replace h := it_f c61 h
            refine lv_aload_n hx hb dX11_one_154 rfl (lv_at hl 2 rfl) ?_
            refine lv_dup hx hb dX11_one_155 rfl ?_
            refine r_get (v := .int (C.1 72 11)) hC inX11 hP (e_72 G _) rfl 11 (by decide) rfl k1061 rfl dX11_one_156 ?_
            refine lv_iconst (v := 1) hx hb dX11_one_159 (by decide) ?_
            refine lv_iadd hx hb dX11_one_160 ?_
            obtain ⟨C62, eC62⟩ : ∃ Z : Mm, Z = wrI C 72 11 ((C.1 72 11) + 1) := ⟨_, rfl⟩
            replace h := lt_y eC62 h
            refine r_put (X' := (Cm, C62)) hC inX11 tyX11 tyX11_ok nmX11 hP hS (e_72 G _) rfl 11 (by decide) rfl k1061 rfl (v := .int ((C.1 72 11) + 1)) rfl rfl (Nat.le_of_ble_eq_true rfl) (p_72_11 G _ _ eC62) dX11_one_161 (fun H locs hP hS => ?_)
            refine lv_aload_n hx hb dX11_one_164 rfl (lv_at hl 2 rfl) ?_
            refine r_get (v := .ref (gA G 79)) hC inX11 hP (e_72 G _) rfl 15 (by decide) rfl k1065 rfl dX11_one_165 ?_
            refine lv_iload_n hx hb dX11_one_168 rfl (lv_at hl 0 rfl) ?_
            by_cases c63 : x60 < (0 : Int32) ∨ 8 ≤ Int32.toNatClampNeg x60
            · cases it_t c63 h
            replace h := it_f c63 h
            refine r_iald hC hP (f := C62.1 79) (e_79 G _) c63 dX11_one_169 ?_
            exact re_i' hC hr hP hS (pr_1 h) (congrArg (fun Z : Mm => (Cm, Z)) (pr_2 h)) dX11_one_170
        · replace h := it_t c57 h
          exact bl32 r53 C _ _ _ h (lv_sub hl [1, 0] rfl) hP hS
  · replace h := it_f c51 h
    refine lv_iconst (v := 0) hx hb dX11_one_7 (by decide) ?_
    exact re_i' hC hr hP hS (pr_1 h) (congrArg (fun Z : Mm => (Cm, Z)) (pr_2 h)) dX11_one_8
set_option maxHeartbeats 4000000 in
set_option maxRecDepth 100000 in
theorem mX11_one_d (l : Launch) (G : gp) {n : Nat} (d : Nat) : ∀ (Cm : Mm) {C : Mm} {r0 : Int32} {C0 : Mm} (_ : fX11_one n d C = some (r0, C0)), Met l yX11_one (wsy yX11_one cX11_one 5 (some .int)) (rmv (6 * d + 2) (137 * d + 41)) (va_Pc [.ref (gA G 72)] (Rl G (Cm, C))) (Qi G PT r0 (Cm, C0)) 0 0 (lwA G) := by
  induction d with
  | zero =>
    intro Cm C r0 C0 h
    rw [fX11_one.eq_1] at h
    cases h
  | succ d ih =>
    intro Cm C r0 C0 h
    rw [fX11_one.eq_2] at h
    have q := mX11_one_w l G d (@fun Q _ _ _ hq => ih Q hq) Cm h
    rw [show 6 * (d + 1) + 2 = 6 * d + 8 by omega, show 137 * (d + 1) + 41 = 137 * d + 178 by omega]
    exact q
theorem mX11_one (l : Launch) (G : gp) {n : Nat} (Cm : Mm) {C : Mm} {r0 : Int32} {C0 : Mm} (h : fX11_one n 12 C = some (r0, C0)) : Met l yX11_one (wsy yX11_one cX11_one 5 (some .int)) (rmv 74 1685) (va_Pc [.ref (gA G 72)] (Rl G (Cm, C))) (Qi G PT r0 (Cm, C0)) 0 0 (lwA G) := mX11_one_d l G 12 Cm h
set_option maxHeartbeats 4000000 in
set_option maxRecDepth 100000 in
theorem mX11_workOut (l : Launch) (G : gp) (Cm : Mm) {n : Nat} {p1 : Int32} {p2 : Int32} {C : Mm} {r0 : Int32} {C0 : Mm} (h : fX11_workOut n p1 p2 C = some (r0, C0)) : Met l yX11_workOut (wsy yX11_workOut cX11_workOut 8 (some .int)) (rmv 80 1822) (va_Pc [.ref (gA G 72), .int p1, .int p2] (Rl G (Cm, C))) (Qi G PT r0 (Cm, C0)) 0 0 (lwA G) := by
  refine met_i [.ref (gA G 72), .int p1, .int p2] wX11_workOut.2.2.2.2.2 (Nat.le_of_ble_eq_true rfl) ?_
  intro p e s m args below meth c ls hC hr hP hl
  have hC : Cx G p s m args meth c cX11_workOut RX11 8 := hC
  have hx := hC.1
  have hb := hC.2.1
  have hown := hC.2.2.2.1
  have hts := hC.2.2.2.2.1
  have hS : va_S (lwA G) s.heap s.heap [] := va_S.rf
  have hl : lv_has ls 8 [(0, .ref (gA G 72)), (1, .int p1), (2, .int p2)] := hl
  have bl96 : ∀ (k33 : Int32 → Int32 → Int32 → Mm → Option (Int32 × Mm)) (hk33 : ∀ (y3 : Int32) (y4 : Int32) (y5 : Int32) (C : Mm) (H : Heap) (locs : List Loc) (ls : Array Slot), k33 y3 y4 y5 C = some (r0, C0) → lv_has ls 8 [(0, .ref (gA G 72)), (3, .int y3), (4, .int y4), (5, .int y5)] → va_P (gD G) vwCl (wld G (Cm, C)) H → va_S (lwA G) s.heap H locs → W p l e (rmv 80 1822) s m args below meth c H locs 0 0 (MQ below (Qi G PT r0 (Cm, C0)) args s 0 0 (lwA G)) (F0 m 33 ls [])), ∀ (y3 : Int32) (y4 : Int32) (C : Mm) (H : Heap) (locs : List Loc) (ls : Array Slot), fX11_workOut_b96 n k33 y3 y4 C = some (r0, C0) → lv_has ls 8 [(0, .ref (gA G 72)), (3, .int y3), (4, .int y4)] → va_P (gD G) vwCl (wld G (Cm, C)) H → va_S (lwA G) s.heap H locs → W p l e (rmv 80 1822) s m args below meth c H locs 0 0 (MQ below (Qi G PT r0 (Cm, C0)) args s 0 0 (lwA G)) (F0 m 96 ls []) := by
    intro k33 hk33 y3 y4 C H locs ls h hl hP hS
    unfold fX11_workOut_b96 at h
    refine lv_aload_n hx hb dX11_workOut_96 rfl (lv_at hl 0 rfl) ?_
    refine lv_bipush (v := 59) hx hb dX11_workOut_97 (by decide) ?_
    obtain ⟨r2, C3, hq1, h⟩ := bp_x h
    refine rc_i hS (run_V hC wX11_takes k1272 (e_72 G _) rfl hP hS (As := [.int 59]) (rest := []) (mX11_takes l G Cm hq1) rfl hl.1 (Nat.le_of_ble_eq_true rfl) ⟨by decide, by decide⟩ ⟨Nat.le_refl _, Nat.le_refl _⟩ rfl dX11_workOut_99) (fun H locs pb4 hP hS => ?_)
    refine lv_istore (lv' := [(5, .int r2), (0, .ref (gA G 72)), (3, .int y3), (4, .int y4)]) hx hb dX11_workOut_102 hl (by decide) rfl (fun ls hl => ?_)
    refine lv_goto (tgt := 33) hx hb dX11_workOut_104 (by decide) ?_
    exact hk33 y3 y4 r2 C3 _ _ _ h (lv_sub hl [1, 2, 3, 0] rfl) hP hS
  have bl74 : ∀ (k33 : Int32 → Int32 → Int32 → Mm → Option (Int32 × Mm)) (hk33 : ∀ (y3 : Int32) (y4 : Int32) (y5 : Int32) (C : Mm) (H : Heap) (locs : List Loc) (ls : Array Slot), k33 y3 y4 y5 C = some (r0, C0) → lv_has ls 8 [(0, .ref (gA G 72)), (3, .int y3), (4, .int y4), (5, .int y5)] → va_P (gD G) vwCl (wld G (Cm, C)) H → va_S (lwA G) s.heap H locs → W p l e (rmv 80 1822) s m args below meth c H locs 0 0 (MQ below (Qi G PT r0 (Cm, C0)) args s 0 0 (lwA G)) (F0 m 33 ls [])), ∀ (y3 : Int32) (y4 : Int32) (y6 : Int32) (y7 : Int32) (C : Mm) (H : Heap) (locs : List Loc) (ls : Array Slot), fX11_workOut_b74 n k33 y3 y4 y6 y7 C = some (r0, C0) → lv_has ls 8 [(0, .ref (gA G 72)), (3, .int y3), (4, .int y4), (6, .int y6), (7, .int y7)] → va_P (gD G) vwCl (wld G (Cm, C)) H → va_S (lwA G) s.heap H locs → W p l e (rmv 80 1822) s m args below meth c H locs 0 0 (MQ below (Qi G PT r0 (Cm, C0)) args s 0 0 (lwA G)) (F0 m 74 ls []) := by
    intro k33 hk33 y3 y4 y6 y7 C H locs ls h hl hP hS
    unfold fX11_workOut_b74 at h
    refine lv_aload_n hx hb dX11_workOut_74 rfl (lv_at hl 0 rfl) ?_
    refine r_get (v := .int (C.1 72 13)) hC inX11 hP (e_72 G _) rfl 13 (by decide) rfl k1063 rfl dX11_workOut_75 ?_
    refine lv_if_ge (tgt := 96) hx hb dX11_workOut_78 (by decide) (fun c5 => ?_) (fun c5 => ?_)
    · replace h := it_t c5 h
      exact bl96 k33 hk33 y3 y4 C _ _ _ h (lv_sub hl [0, 1, 2] rfl) hP hS
    · replace h := it_f c5 h
      refine lv_iload hx hb dX11_workOut_81 (lv_at hl 4 rfl) ?_
      refine lv_if_eq (tgt := 96) hx hb dX11_workOut_83 (by decide) (fun c6 => ?_) (fun c6 => ?_)
      · replace h := it_t c6 h
        exact bl96 k33 hk33 y3 y4 C _ _ _ h (lv_sub hl [0, 1, 2] rfl) hP hS
      · replace h := it_f c6 h
        refine lv_iload_n hx hb dX11_workOut_86 rfl (lv_at hl 1 rfl) ?_
        refine lv_if_ne (tgt := 96) hx hb dX11_workOut_87 (by decide) (fun c7 => ?_) (fun c7 => ?_)
        · replace h := it_f c7 h
          exact bl96 k33 hk33 y3 y4 C _ _ _ h (lv_sub hl [0, 1, 2] rfl) hP hS
        · replace h := it_t c7 h
          refine lv_iconst (v := 1) hx hb dX11_workOut_90 (by decide) ?_
          refine lv_istore_n (lv' := [(3, .int 1), (0, .ref (gA G 72)), (4, .int y4), (6, .int y6), (7, .int y7)]) hx hb dX11_workOut_91 rfl hl (by decide) rfl (fun ls hl => ?_)
          refine lv_iload hx hb dX11_workOut_92 (lv_at hl 3 rfl) ?_
          refine lv_istore (lv' := [(4, .int y6), (3, .int 1), (0, .ref (gA G 72)), (6, .int y6), (7, .int y7)]) hx hb dX11_workOut_94 hl (by decide) rfl (fun ls hl => ?_)
          exact bl96 k33 hk33 1 y6 C _ _ _ h (lv_sub hl [2, 1, 0] rfl) hP hS
  have bl66 : ∀ (k33 : Int32 → Int32 → Int32 → Mm → Option (Int32 × Mm)) (hk33 : ∀ (y3 : Int32) (y4 : Int32) (y5 : Int32) (C : Mm) (H : Heap) (locs : List Loc) (ls : Array Slot), k33 y3 y4 y5 C = some (r0, C0) → lv_has ls 8 [(0, .ref (gA G 72)), (3, .int y3), (4, .int y4), (5, .int y5)] → va_P (gD G) vwCl (wld G (Cm, C)) H → va_S (lwA G) s.heap H locs → W p l e (rmv 80 1822) s m args below meth c H locs 0 0 (MQ below (Qi G PT r0 (Cm, C0)) args s 0 0 (lwA G)) (F0 m 33 ls [])), ∀ (y3 : Int32) (y4 : Int32) (s0 : Int32) (C : Mm) (H : Heap) (locs : List Loc) (ls : Array Slot), fX11_workOut_b66 n k33 y3 y4 s0 C = some (r0, C0) → lv_has ls 8 [(0, .ref (gA G 72)), (3, .int y3), (4, .int y4)] → va_P (gD G) vwCl (wld G (Cm, C)) H → va_S (lwA G) s.heap H locs → W p l e (rmv 80 1822) s m args below meth c H locs 0 0 (MQ below (Qi G PT r0 (Cm, C0)) args s 0 0 (lwA G)) (F0 m 66 ls [.int s0]) := by
    intro k33 hk33 y3 y4 s0 C H locs ls h hl hP hS
    unfold fX11_workOut_b66 at h
    refine lv_istore (lv' := [(7, .int s0), (0, .ref (gA G 72)), (3, .int y3), (4, .int y4)]) hx hb dX11_workOut_66 hl (by decide) rfl (fun ls hl => ?_)
    refine lv_aload_n hx hb dX11_workOut_68 rfl (lv_at hl 1 rfl) ?_
    obtain ⟨r9, C10, hq8, h⟩ := bp_x h
    refine rc_i hS (run_V hC wX11_either k1240 (e_72 G _) rfl hP hS (As := []) (rest := []) (mX11_either l G Cm (@fun Q _ _ _ hq => mX11_one l G Q hq) hq8) rfl hl.1 (Nat.le_of_ble_eq_true rfl) ⟨by decide, by decide⟩ ⟨Nat.le_refl _, Nat.le_refl _⟩ rfl dX11_workOut_69) (fun H locs pb11 hP hS => ?_)
    refine lv_istore (lv' := [(6, .int r9), (7, .int s0), (0, .ref (gA G 72)), (3, .int y3), (4, .int y4)]) hx hb dX11_workOut_72 hl (by decide) rfl (fun ls hl => ?_)
    exact bl74 k33 hk33 y3 y4 r9 s0 C10 _ _ _ h (lv_sub hl [2, 3, 4, 0, 1] rfl) hP hS
  have bl33 : ∀ (fu : Nat), ∀ (y3 : Int32) (y4 : Int32) (y5 : Int32) (C : Mm) (H : Heap) (locs : List Loc) (ls : Array Slot), fX11_workOut_h33 n fu y3 y4 y5 C = some (r0, C0) → lv_has ls 8 [(0, .ref (gA G 72)), (3, .int y3), (4, .int y4), (5, .int y5)] → va_P (gD G) vwCl (wld G (Cm, C)) H → va_S (lwA G) s.heap H locs → W p l e (rmv 80 1822) s m args below meth c H locs 0 0 (MQ below (Qi G PT r0 (Cm, C0)) args s 0 0 (lwA G)) (F0 m 33 ls []) := by
    intro fu
    induction fu with
    | zero =>
      intro y3 y4 y5 C H locs ls h hl hP hS
      rw [fX11_workOut_h33.eq_1] at h
      cases h
    | succ fu ih =>
      intro y3 y4 y5 C H locs ls h hl hP hS
      rw [fX11_workOut_h33.eq_2] at h
      refine lv_iload hx hb dX11_workOut_33 (lv_at hl 3 rfl) ?_
      refine lv_if_eq (tgt := 107) hx hb dX11_workOut_35 (by decide) (fun c12 => ?_) (fun c12 => ?_)
      · replace h := it_t c12 h
        refine lv_aload_n hx hb dX11_workOut_107 rfl (lv_at hl 0 rfl) ?_
        refine r_get (v := .int (C.1 72 13)) hC inX11 hP (e_72 G _) rfl 13 (by decide) rfl k1063 rfl dX11_workOut_108 ?_
        refine lv_if_ge (tgt := 130) hx hb dX11_workOut_111 (by decide) (fun c13 => ?_) (fun c13 => ?_)
        · replace h := it_t c13 h
          refine lv_iload hx hb dX11_workOut_130 (lv_at hl 2 rfl) ?_
          exact re_i' hC hr hP hS (pr_1 h) (congrArg (fun Z : Mm => (Cm, Z)) (pr_2 h)) dX11_workOut_132
        · replace h := it_f c13 h
          refine lv_aload_n hx hb dX11_workOut_114 rfl (lv_at hl 0 rfl) ?_
          refine r_get (v := .int (C.1 72 11)) hC inX11 hP (e_72 G _) rfl 11 (by decide) rfl k1061 rfl dX11_workOut_115 ?_
          refine lv_aload_n hx hb dX11_workOut_118 rfl (lv_at hl 0 rfl) ?_
          refine r_get (v := .int (C.1 72 12)) hC inX11 hP (e_72 G _) rfl 12 (by decide) rfl k1062 rfl dX11_workOut_119 ?_
          refine lv_icmp_ge (tgt := 130) hx hb dX11_workOut_122 (by decide) (fun c14 => ?_) (fun c14 => ?_)
          · replace h := it_t c14 h
            refine lv_iload hx hb dX11_workOut_130 (lv_at hl 2 rfl) ?_
            exact re_i' hC hr hP hS (pr_1 h) (congrArg (fun Z : Mm => (Cm, Z)) (pr_2 h)) dX11_workOut_132
          · replace h := it_f c14 h
            refine lv_aload_n hx hb dX11_workOut_125 rfl (lv_at hl 0 rfl) ?_
            obtain ⟨r16, C17, hq15, h⟩ := bp_x h
            refine rc_i hS (run_V hC wX11_wrong k1268 (e_72 G _) rfl hP hS (As := []) (rest := []) (mX11_wrong l G Cm hq15) rfl hl.1 (Nat.le_of_ble_eq_true rfl) ⟨by decide, by decide⟩ ⟨Nat.le_refl _, Nat.le_refl _⟩ rfl dX11_workOut_126) (fun H locs pb18 hP hS => ?_)
            exact re_i' hC hr hP hS (pr_1 h) (congrArg (fun Z : Mm => (Cm, Z)) (pr_2 h)) dX11_workOut_129
      · replace h := it_f c12 h
        refine lv_aload_n hx hb dX11_workOut_38 rfl (lv_at hl 0 rfl) ?_
        obtain ⟨r20, C21, hq19, h⟩ := bp_x h
        refine rc_i hS (run_V hC wX11_either k1240 (e_72 G _) rfl hP hS (As := []) (rest := []) (mX11_either l G Cm (@fun Q _ _ _ hq => mX11_one l G Q hq) hq19) rfl hl.1 (Nat.le_of_ble_eq_true rfl) ⟨by decide, by decide⟩ ⟨Nat.le_refl _, Nat.le_refl _⟩ rfl dX11_workOut_39) (fun H locs pb22 hP hS => ?_)
        refine lv_istore (lv' := [(6, .int r20), (0, .ref (gA G 72)), (3, .int y3), (4, .int y4), (5, .int y5)]) hx hb dX11_workOut_42 hl (by decide) rfl (fun ls hl => ?_)
        refine lv_iconst (v := 1) hx hb dX11_workOut_44 (by decide) ?_
        refine lv_istore (lv' := [(7, .int 1), (6, .int r20), (0, .ref (gA G 72)), (3, .int y3), (4, .int y4), (5, .int y5)]) hx hb dX11_workOut_45 hl (by decide) rfl (fun ls hl => ?_)
        refine lv_aload_n hx hb dX11_workOut_47 rfl (lv_at hl 2 rfl) ?_
        refine lv_bipush (v := 63) hx hb dX11_workOut_48 (by decide) ?_
        obtain ⟨r24, C25, hq23, h⟩ := bp_x h
        refine rc_i hS (run_V hC wX11_takes k1272 (e_72 G _) rfl hP hS (As := [.int 63]) (rest := []) (mX11_takes l G Cm hq23) rfl hl.1 (Nat.le_of_ble_eq_true rfl) ⟨by decide, by decide⟩ ⟨Nat.le_refl _, Nat.le_refl _⟩ rfl dX11_workOut_50) (fun H locs pb26 hP hS => ?_)
        refine lv_if_eq (tgt := 74) hx hb dX11_workOut_53 (by decide) (fun c27 => ?_) (fun c27 => ?_)
        · replace h := it_t c27 h
          exact bl74 (fX11_workOut_h33 n fu) ih y3 y4 r20 1 C25 _ _ _ h (lv_sub hl [2, 3, 4, 1, 0] rfl) hP hS
        · replace h := it_f c27 h
          refine lv_iload hx hb dX11_workOut_56 (lv_at hl 1 rfl) ?_
          refine lv_if_eq (tgt := 65) hx hb dX11_workOut_58 (by decide) (fun c28 => ?_) (fun c28 => ?_)
          · replace h := it_t c28 h
            refine lv_iconst (v := 0) hx hb dX11_workOut_65 (by decide) ?_
            exact bl66 (fX11_workOut_h33 n fu) ih y3 y4 0 C25 _ _ _ h (lv_sub hl [2, 3, 4] rfl) hP hS
          · replace h := it_f c28 h
            refine lv_iconst (v := 1) hx hb dX11_workOut_61 (by decide) ?_
            refine lv_goto (tgt := 66) hx hb dX11_workOut_62 (by decide) ?_
            exact bl66 (fX11_workOut_h33 n fu) ih y3 y4 1 C25 _ _ _ h (lv_sub hl [2, 3, 4] rfl) hP hS
  unfold fX11_workOut at h
  refine lv_aload_n hx hb dX11_workOut_0 rfl (lv_at hl 0 rfl) ?_
  refine lv_iload_n hx hb dX11_workOut_1 rfl (lv_at hl 1 rfl) ?_
  obtain ⟨C29, eC29⟩ : ∃ Z : Mm, Z = wrI C 72 10 p1 := ⟨_, rfl⟩
  replace h := lt_y eC29 h
  refine r_put (X' := (Cm, C29)) hC inX11 tyX11 tyX11_ok nmX11 hP hS (e_72 G _) rfl 10 (by decide) rfl k1060 rfl (v := .int p1) rfl rfl (Nat.le_of_ble_eq_true rfl) (p_72_10 G _ _ eC29) dX11_workOut_2 (fun H locs hP hS => ?_)
  refine lv_aload_n hx hb dX11_workOut_5 rfl (lv_at hl 0 rfl) ?_
  refine lv_iconst (v := 0) hx hb dX11_workOut_6 (by decide) ?_
  obtain ⟨C30, eC30⟩ : ∃ Z : Mm, Z = wrI C29 72 11 0 := ⟨_, rfl⟩
  replace h := lt_y eC30 h
  refine r_put (X' := (Cm, C30)) hC inX11 tyX11 tyX11_ok nmX11 hP hS (e_72 G _) rfl 11 (by decide) rfl k1061 rfl (v := .int 0) rfl rfl (Nat.le_of_ble_eq_true rfl) (p_72_11 G _ _ eC30) dX11_workOut_7 (fun H locs hP hS => ?_)
  refine lv_aload_n hx hb dX11_workOut_10 rfl (lv_at hl 0 rfl) ?_
  refine lv_iload_n hx hb dX11_workOut_11 rfl (lv_at hl 2 rfl) ?_
  obtain ⟨C31, eC31⟩ : ∃ Z : Mm, Z = wrI C30 72 12 p2 := ⟨_, rfl⟩
  replace h := lt_y eC31 h
  refine r_put (X' := (Cm, C31)) hC inX11 tyX11 tyX11_ok nmX11 hP hS (e_72 G _) rfl 12 (by decide) rfl k1062 rfl (v := .int p2) rfl rfl (Nat.le_of_ble_eq_true rfl) (p_72_12 G _ _ eC31) dX11_workOut_12 (fun H locs hP hS => ?_)
  refine lv_aload_n hx hb dX11_workOut_15 rfl (lv_at hl 0 rfl) ?_
  refine lv_iconst (v := (-1)) hx hb dX11_workOut_16 (by decide) ?_
  obtain ⟨C32, eC32⟩ : ∃ Z : Mm, Z = wrI C31 72 13 (-1) := ⟨_, rfl⟩
  replace h := lt_y eC32 h
  refine r_put (X' := (Cm, C32)) hC inX11 tyX11 tyX11_ok nmX11 hP hS (e_72 G _) rfl 13 (by decide) rfl k1063 rfl (v := .int (-1)) rfl rfl (Nat.le_of_ble_eq_true rfl) (p_72_13 G _ _ eC32) dX11_workOut_17 (fun H locs hP hS => ?_)
  refine lv_aload_n hx hb dX11_workOut_20 rfl (lv_at hl 0 rfl) ?_
  refine lv_iconst (v := 0) hx hb dX11_workOut_21 (by decide) ?_
  obtain ⟨C33, eC33⟩ : ∃ Z : Mm, Z = wrI C32 72 14 0 := ⟨_, rfl⟩
  replace h := lt_y eC33 h
  refine r_put (X' := (Cm, C33)) hC inX11 tyX11 tyX11_ok nmX11 hP hS (e_72 G _) rfl 14 (by decide) rfl k1064 rfl (v := .int 0) rfl rfl (Nat.le_of_ble_eq_true rfl) (p_72_14 G _ _ eC33) dX11_workOut_22 (fun H locs hP hS => ?_)
  refine lv_iconst (v := 0) hx hb dX11_workOut_25 (by decide) ?_
  refine lv_istore_n (lv' := [(3, .int 0), (0, .ref (gA G 72)), (1, .int p1), (2, .int p2)]) hx hb dX11_workOut_26 rfl hl (by decide) rfl (fun ls hl => ?_)
  refine lv_iconst (v := 0) hx hb dX11_workOut_27 (by decide) ?_
  refine lv_istore (lv' := [(4, .int 0), (3, .int 0), (0, .ref (gA G 72)), (1, .int p1), (2, .int p2)]) hx hb dX11_workOut_28 hl (by decide) rfl (fun ls hl => ?_)
  refine lv_iconst (v := 1) hx hb dX11_workOut_30 (by decide) ?_
  refine lv_istore (lv' := [(5, .int 1), (4, .int 0), (3, .int 0), (0, .ref (gA G 72)), (1, .int p1), (2, .int p2)]) hx hb dX11_workOut_31 hl (by decide) rfl (fun ls hl => ?_)
  exact bl33 n 0 0 1 C33 _ _ _ h (lv_sub hl [3, 2, 1, 0] rfl) hP hS
set_option maxHeartbeats 4000000 in
set_option maxRecDepth 100000 in
theorem mX11_choice (l : Launch) (G : gp) (Cm : Mm) {n : Nat} {C : Mm} {r0 : Int32} {C0 : Mm} (h : fX11_choice n C = some (r0, C0)) : Met l yX11_choice (wsy yX11_choice cX11_choice 4 (some .int)) (rmv 81 1849) (va_Pc [.ref (gA G 72)] (Rl G (Cm, C))) (Qi G PT r0 (Cm, C0)) 0 0 (lwA G) := by
  refine met_i [.ref (gA G 72)] wX11_choice.2.2.2.2.2 (Nat.le_of_ble_eq_true rfl) ?_
  intro p e s m args below meth c ls hC hr hP hl
  have hC : Cx G p s m args meth c cX11_choice RX11 4 := hC
  have hx := hC.1
  have hb := hC.2.1
  have hown := hC.2.2.2.1
  have hts := hC.2.2.2.2.1
  have hS : va_S (lwA G) s.heap s.heap [] := va_S.rf
  have hl : lv_has ls 4 [(0, .ref (gA G 72))] := hl
  have bl37 : ∀ (fu : Nat), ∀ (y2 : Int32) (y3 : Int32) (C : Mm) (H : Heap) (locs : List Loc) (ls : Array Slot), fX11_choice_h37 n fu y2 y3 C = some (r0, C0) → lv_has ls 4 [(0, .ref (gA G 72)), (2, .int y2), (3, .int y3)] → va_P (gD G) vwCl (wld G (Cm, C)) H → va_S (lwA G) s.heap H locs → W p l e (rmv 81 1849) s m args below meth c H locs 0 0 (MQ below (Qi G PT r0 (Cm, C0)) args s 0 0 (lwA G)) (F0 m 37 ls []) := by
    intro fu
    induction fu with
    | zero =>
      intro y2 y3 C H locs ls h hl hP hS
      rw [fX11_choice_h37.eq_1] at h
      cases h
    | succ fu ih =>
      intro y2 y3 C H locs ls h hl hP hS
      rw [fX11_choice_h37.eq_2] at h
      refine lv_iload_n hx hb dX11_choice_37 rfl (lv_at hl 2 rfl) ?_
      refine lv_iload_n hx hb dX11_choice_38 rfl (lv_at hl 1 rfl) ?_
      refine lv_icmp_ge (tgt := 60) hx hb dX11_choice_39 (by decide) (fun c1 => ?_) (fun c1 => ?_)
      · replace h := it_t c1 h
        refine lv_aload_n hx hb dX11_choice_60 rfl (lv_at hl 0 rfl) ?_
        refine lv_iload_n hx hb dX11_choice_61 rfl (lv_at hl 1 rfl) ?_
        obtain ⟨C2, eC2⟩ : ∃ Z : Mm, Z = wrI C 72 9 y2 := ⟨_, rfl⟩
        replace h := lt_y eC2 h
        refine r_put (X' := (Cm, C2)) hC inX11 tyX11 tyX11_ok nmX11 hP hS (e_72 G _) rfl 9 (by decide) rfl k1059 rfl (v := .int y2) rfl rfl (Nat.le_of_ble_eq_true rfl) (p_72_9 G _ _ eC2) dX11_choice_62 (fun H locs hP hS => ?_)
        refine lv_iconst (v := 1) hx hb dX11_choice_65 (by decide) ?_
        exact re_i' hC hr hP hS (pr_1 h) (congrArg (fun Z : Mm => (Cm, Z)) (pr_2 h)) dX11_choice_66
      · replace h := it_f c1 h
        refine lv_aload_n hx hb dX11_choice_42 rfl (lv_at hl 0 rfl) ?_
        refine r_get (v := .ref (gA G 78)) hC inX11 hP (e_72 G _) rfl 8 (by decide) rfl k1058 rfl dX11_choice_43 ?_
        refine lv_iload_n hx hb dX11_choice_46 rfl (lv_at hl 2 rfl) ?_
        refine lv_aload_n hx hb dX11_choice_47 rfl (lv_at hl 0 rfl) ?_
        refine r_get (v := .ref (gA G 77)) hC inX11 hP (e_72 G _) rfl 6 (by decide) rfl k1056 rfl dX11_choice_48 ?_
        refine lv_iload_n hx hb dX11_choice_51 rfl (lv_at hl 2 rfl) ?_
        by_cases c3 : y3 < (0 : Int32) ∨ 120 ≤ Int32.toNatClampNeg y3
        · cases it_t c3 h
        replace h := it_f c3 h
        refine r_iald hC hP (f := C.1 77) (e_77 G _) c3 dX11_choice_52 ?_
        by_cases c4 : y3 < (0 : Int32) ∨ 120 ≤ Int32.toNatClampNeg y3
        · cases it_t c4 h
        replace h := it_f c4 h
        obtain ⟨C5, eC5⟩ : ∃ Z : Mm, Z = wrI C 78 (Int32.toNatClampNeg y3) (C.1 77 (Int32.toNatClampNeg y3)) := ⟨_, rfl⟩
        replace h := lt_y eC5 h
        refine r_iast (X' := (Cm, C5)) hC hP hS (e_78 G _) c4 (a_78 G _ _ _ _ eC5) dX11_choice_53 (fun H locs hP hS => ?_)
        obtain ⟨x6, ex6⟩ : ∃ y : Int32, y = y3 + 1 := ⟨_, rfl⟩
        replace h := lt_y ex6 h
        refine lv_iinc (v := x6) (lv' := [(3, .int x6), (0, .ref (gA G 72)), (2, .int y2)]) hx hb dX11_choice_54 hl (k := 2) rfl (by rw [ex6]; rfl) (by decide) rfl (fun ls hl => ?_)
        refine lv_goto (tgt := 37) hx hb dX11_choice_57 (by decide) ?_
        exact ih y2 x6 C5 _ _ _ h (lv_sub hl [1, 2, 0] rfl) hP hS
  unfold fX11_choice at h
  refine lv_aload_n hx hb dX11_choice_0 rfl (lv_at hl 0 rfl) ?_
  refine lv_iconst (v := (-1)) hx hb dX11_choice_1 (by decide) ?_
  refine lv_aload_n hx hb dX11_choice_2 rfl (lv_at hl 0 rfl) ?_
  refine r_get (v := .int (C.1 72 7)) hC inX11 hP (e_72 G _) rfl 7 (by decide) rfl k1057 rfl dX11_choice_3 ?_
  obtain ⟨r8, C9, hq7, h⟩ := bp_x h
  refine rc_i hS (run_V hC wX11_workOut k1236 (e_72 G _) rfl hP hS (As := [.int (-1), .int (C.1 72 7)]) (rest := []) (mX11_workOut l G Cm hq7) rfl hl.1 (Nat.le_of_ble_eq_true rfl) ⟨by decide, by decide⟩ ⟨Nat.le_refl _, Nat.le_refl _⟩ rfl dX11_choice_6) (fun H locs pb10 hP hS => ?_)
  refine lv_istore_n (lv' := [(1, .int r8), (0, .ref (gA G 72))]) hx hb dX11_choice_9 rfl hl (by decide) rfl (fun ls hl => ?_)
  refine lv_aload_n hx hb dX11_choice_10 rfl (lv_at hl 1 rfl) ?_
  refine r_get (v := .int (C9.1 72 7)) hC inX11 hP (e_72 G _) rfl 7 (by decide) rfl k1057 rfl dX11_choice_11 ?_
  refine lv_topi (fun x11 ex11 => ?_)
  replace h := lt_y ex11 h
  refine lv_istore_n (lv' := [(2, .int x11), (1, .int r8), (0, .ref (gA G 72))]) hx hb dX11_choice_14 rfl hl (by decide) rfl (fun ls hl => ?_)
  refine lv_aload_n hx hb dX11_choice_15 rfl (lv_at hl 2 rfl) ?_
  refine lv_iconst (v := 0) hx hb dX11_choice_16 (by decide) ?_
  obtain ⟨C12, eC12⟩ : ∃ Z : Mm, Z = wrI C9 72 7 0 := ⟨_, rfl⟩
  replace h := lt_y eC12 h
  refine r_put (X' := (Cm, C12)) hC inX11 tyX11 tyX11_ok nmX11 hP hS (e_72 G _) rfl 7 (by decide) rfl k1057 rfl (v := .int 0) rfl rfl (Nat.le_of_ble_eq_true rfl) (p_72_7 G _ _ eC12) dX11_choice_17 (fun H locs hP hS => ?_)
  refine lv_aload_n hx hb dX11_choice_20 rfl (lv_at hl 2 rfl) ?_
  refine r_get (v := .int (C12.1 72 13)) hC inX11 hP (e_72 G _) rfl 13 (by decide) rfl k1063 rfl dX11_choice_21 ?_
  refine lv_if_lt (tgt := 35) hx hb dX11_choice_24 (by decide) (fun c13 => ?_) (fun c13 => ?_)
  · replace h := it_t c13 h
    refine lv_iconst (v := 0) hx hb dX11_choice_35 (by decide) ?_
    refine lv_istore_n (lv' := [(3, .int 0), (2, .int x11), (1, .int r8), (0, .ref (gA G 72))]) hx hb dX11_choice_36 rfl hl (by decide) rfl (fun ls hl => ?_)
    exact bl37 n x11 0 C12 _ _ _ h (lv_sub hl [3, 1, 0] rfl) hP hS
  · replace h := it_f c13 h
    refine lv_bipush (v := (-100)) hx hb dX11_choice_27 (by decide) ?_
    refine lv_aload_n hx hb dX11_choice_29 rfl (lv_at hl 2 rfl) ?_
    refine r_get (v := .int (C12.1 72 13)) hC inX11 hP (e_72 G _) rfl 13 (by decide) rfl k1063 rfl dX11_choice_30 ?_
    refine lv_isub hx hb dX11_choice_33 ?_
    exact re_i' hC hr hP hS (pr_1 h) (congrArg (fun Z : Mm => (Cm, Z)) (pr_2 h)) dX11_choice_34
set_option maxHeartbeats 4000000 in
set_option maxRecDepth 100000 in
theorem mX11_isHead (l : Launch) (G : gp) (Cm : Mm) {p1 : Int32} {C : Mm} {r0 : Int32} (h : fX11_isHead p1 C = r0) : Met l yX11_isHead (wsy yX11_isHead cX11_isHead 2 (some .boolean)) (rmv 1 25) (va_Pc [.ref (gA G 72), .int p1] (Rl G (Cm, C))) (Qi G PZ r0 (Cm, C)) 0 0 (lwA G) := by
  refine met_i [.ref (gA G 72), .int p1] wX11_isHead.2.2.2.2.2 (Nat.le_of_ble_eq_true rfl) ?_
  intro p e s m args below meth c ls hC hr hP hl
  have hC : Cx G p s m args meth c cX11_isHead RX11 2 := hC
  have hx := hC.1
  have hb := hC.2.1
  have hown := hC.2.2.2.1
  have hts := hC.2.2.2.2.1
  have hS : va_S (lwA G) s.heap s.heap [] := va_S.rf
  have hl : lv_has ls 2 [(0, .ref (gA G 72)), (1, .int p1)] := hl
  unfold fX11_isHead at h
  refine lv_iload_n hx hb dX11_isHead_0 rfl (lv_at hl 1 rfl) ?_
  refine lv_i2l hx hb dX11_isHead_1 rfl ?_
  refine lv_lconst (v := 0) hx hb dX11_isHead_2 (by decide) ?_
  refine lv_aload_n hx hb dX11_isHead_3 rfl (lv_at hl 0 rfl) ?_
  refine r_get (v := .int (C.1 72 16)) hC inX11 hP (e_72 G _) rfl 16 (by decide) rfl k1066 rfl dX11_isHead_4 ?_
  refine lv_iconst (v := 1) hx hb dX11_isHead_7 (by decide) ?_
  refine lv_isub hx hb dX11_isHead_8 ?_
  refine lv_i2l hx hb dX11_isHead_9 rfl ?_
  refine rc_i hS (run_S hC wX11_within k1229 hP hS (As := [.long (Int32.toInt64 p1), .long 0, .long (Int32.toInt64 ((C.1 72 16) - 1))]) (rest := []) (mX11_within l G Cm rfl) rfl hl.1 (Nat.le_of_ble_eq_true rfl) ⟨by decide, by decide⟩ ⟨Nat.le_refl _, Nat.le_refl _⟩ rfl dX11_isHead_10) (fun H locs pb2 hP hS => ?_)
  exact re_z' hC hr hP hS pb2 h rfl dX11_isHead_13
set_option maxHeartbeats 4000000 in
set_option maxRecDepth 100000 in
theorem mX11_isOf (l : Launch) (G : gp) (Cm : Mm) {p0 : Int32} {p1 : Int32} {C : Mm} {r0 : Int32} (h : fX11_isOf p0 p1 = r0) : Met l yX11_isOf (wsy yX11_isOf cX11_isOf 2 (some .boolean)) (rmv 1 25) (va_Pc [.int p0, .int p1] (Rl G (Cm, C))) (Qi G PZ r0 (Cm, C)) 0 0 (lwA G) := by
  refine met_i [.int p0, .int p1] wX11_isOf.2.2.2.2 (Nat.le_of_ble_eq_true rfl) ?_
  intro p e s m args below meth c ls hC hr hP hl
  have hC : Cx G p s m args meth c cX11_isOf RX11 2 := hC
  have hx := hC.1
  have hb := hC.2.1
  have hown := hC.2.2.2.1
  have hts := hC.2.2.2.2.1
  have hS : va_S (lwA G) s.heap s.heap [] := va_S.rf
  have hl : lv_has ls 2 [(0, .int p0), (1, .int p1)] := hl
  unfold fX11_isOf at h
  refine lv_iload_n hx hb dX11_isOf_0 rfl (lv_at hl 0 rfl) ?_
  refine lv_iconst (v := 3) hx hb dX11_isOf_1 (by decide) ?_
  refine lv_icmp_ge (tgt := 17) hx hb dX11_isOf_2 (by decide) (fun c1 => ?_) (fun c1 => ?_)
  · replace h := it_t c1 h
    refine lv_iload_n hx hb dX11_isOf_17 rfl (lv_at hl 0 rfl) ?_
    refine lv_iconst (v := 3) hx hb dX11_isOf_18 (by decide) ?_
    refine lv_icmp_ne (tgt := 36) hx hb dX11_isOf_19 (by decide) (fun c2 => ?_) (fun c2 => ?_)
    · replace h := it_f c2 h
      refine lv_iload_n hx hb dX11_isOf_36 rfl (lv_at hl 1 rfl) ?_
      refine lv_i2l hx hb dX11_isOf_37 rfl ?_
      refine lv_lconst (v := 1) hx hb dX11_isOf_38 (by decide) ?_
      refine lv_ldc2 hx hb (v := 40) hown (hts _ k1292) dX11_isOf_39 ?_
      refine rc_i hS (run_S hC wX11_within k1229 hP hS (As := [.long (Int32.toInt64 p1), .long 1, .long 40]) (rest := []) (mX11_within l G Cm rfl) rfl hl.1 (Nat.le_of_ble_eq_true rfl) ⟨by decide, by decide⟩ ⟨Nat.le_refl _, Nat.le_refl _⟩ rfl dX11_isOf_42) (fun H locs pb4 hP hS => ?_)
      exact re_z' hC hr hP hS pb4 h rfl dX11_isOf_45
    · replace h := it_t c2 h
      refine lv_iload_n hx hb dX11_isOf_22 rfl (lv_at hl 1 rfl) ?_
      refine lv_i2l hx hb dX11_isOf_23 rfl ?_
      refine lv_ldc2 hx hb (v := 9) hown (hts _ k1291) dX11_isOf_24 ?_
      refine lv_ldc2 hx hb (v := 99) hown (hts _ k1290) dX11_isOf_27 ?_
      refine rc_i hS (run_S hC wX11_within k1229 hP hS (As := [.long (Int32.toInt64 p1), .long 9, .long 99]) (rest := []) (mX11_within l G Cm rfl) rfl hl.1 (Nat.le_of_ble_eq_true rfl) ⟨by decide, by decide⟩ ⟨Nat.le_refl _, Nat.le_refl _⟩ rfl dX11_isOf_30) (fun H locs pb6 hP hS => ?_)
      refine lv_goto (tgt := 45) hx hb dX11_isOf_33 (by decide) ?_
      exact re_z' hC hr hP hS pb6 h rfl dX11_isOf_45
  · replace h := it_f c1 h
    refine lv_iload_n hx hb dX11_isOf_5 rfl (lv_at hl 1 rfl) ?_
    refine lv_i2l hx hb dX11_isOf_6 rfl ?_
    refine lv_lconst (v := 0) hx hb dX11_isOf_7 (by decide) ?_
    refine lv_ldc2 hx hb (v := 99) hown (hts _ k1290) dX11_isOf_8 ?_
    refine rc_i hS (run_S hC wX11_within k1229 hP hS (As := [.long (Int32.toInt64 p1), .long 0, .long 99]) (rest := []) (mX11_within l G Cm rfl) rfl hl.1 (Nat.le_of_ble_eq_true rfl) ⟨by decide, by decide⟩ ⟨Nat.le_refl _, Nat.le_refl _⟩ rfl dX11_isOf_11) (fun H locs pb8 hP hS => ?_)
    refine lv_goto (tgt := 45) hx hb dX11_isOf_14 (by decide) ?_
    exact re_z' hC hr hP hS pb8 h rfl dX11_isOf_45
set_option maxHeartbeats 4000000 in
set_option maxRecDepth 100000 in
theorem mX11_readOne (l : Launch) (G : gp) (Cm : Mm) {n : Nat} {p1 : Int32} {p2 : Int32} {C : Mm} {r0 : Int32} {C0 : Mm} (h : fX11_readOne n p1 p2 C = some (r0, C0)) : Met l yX11_readOne (wsy yX11_readOne cX11_readOne 5 (some .int)) (rmv 2 46) (va_Pc [.ref (gA G 72), .int p1, .int p2] (Rl G (Cm, C))) (Qi G PT r0 (Cm, C0)) 0 0 (lwA G) := by
  refine met_i [.ref (gA G 72), .int p1, .int p2] wX11_readOne.2.2.2.2.2 (Nat.le_of_ble_eq_true rfl) ?_
  intro p e s m args below meth c ls hC hr hP hl
  have hC : Cx G p s m args meth c cX11_readOne RX11 5 := hC
  have hx := hC.1
  have hb := hC.2.1
  have hown := hC.2.2.2.1
  have hts := hC.2.2.2.2.1
  have hS : va_S (lwA G) s.heap s.heap [] := va_S.rf
  have hl : lv_has ls 5 [(0, .ref (gA G 72)), (1, .int p1), (2, .int p2)] := hl
  have bl84 : ∀ (y2 : Int32) (y3 : Int32) (y4 : Int32) (C : Mm) (H : Heap) (locs : List Loc) (ls : Array Slot), fX11_readOne_b84 n y2 y3 y4 C = some (r0, C0) → lv_has ls 5 [(0, .ref (gA G 72)), (2, .int y2), (3, .int y3), (4, .int y4)] → va_P (gD G) vwCl (wld G (Cm, C)) H → va_S (lwA G) s.heap H locs → W p l e (rmv 2 46) s m args below meth c H locs 0 0 (MQ below (Qi G PT r0 (Cm, C0)) args s 0 0 (lwA G)) (F0 m 84 ls []) := by
    intro y2 y3 y4 C H locs ls h hl hP hS
    unfold fX11_readOne_b84 at h
    refine lv_aload_n hx hb dX11_readOne_84 rfl (lv_at hl 0 rfl) ?_
    refine r_get (v := .int (C.1 72 11)) hC inX11 hP (e_72 G _) rfl 11 (by decide) rfl k1061 rfl dX11_readOne_85 ?_
    refine lv_iload_n hx hb dX11_readOne_88 rfl (lv_at hl 2 rfl) ?_
    refine lv_icmp_ne (tgt := 97) hx hb dX11_readOne_89 (by decide) (fun c1 => ?_) (fun c1 => ?_)
    · replace h := it_f c1 h
      refine lv_iload_n hx hb dX11_readOne_97 rfl (lv_at hl 1 rfl) ?_
      refine lv_iload hx hb dX11_readOne_98 (lv_at hl 3 rfl) ?_
      refine rc_i hS (run_S hC wX11_isOf k1287 hP hS (As := [.int y2, .int y4]) (rest := []) (mX11_isOf l G Cm rfl) rfl hl.1 (Nat.le_of_ble_eq_true rfl) ⟨by decide, by decide⟩ ⟨Nat.le_refl _, Nat.le_refl _⟩ rfl dX11_readOne_100) (fun H locs pb3 hP hS => ?_)
      refine lv_if_ne (tgt := 116) hx hb dX11_readOne_103 (by decide) (fun c4 => ?_) (fun c4 => ?_)
      · replace h := it_f c4 h
        refine lv_iload hx hb dX11_readOne_116 (lv_at hl 3 rfl) ?_
        exact re_i' hC hr hP hS (pr_1 h) (congrArg (fun Z : Mm => (Cm, Z)) (pr_2 h)) dX11_readOne_118
      · replace h := it_t c4 h
        refine lv_aload_n hx hb dX11_readOne_106 rfl (lv_at hl 0 rfl) ?_
        refine lv_iload_n hx hb dX11_readOne_107 rfl (lv_at hl 2 rfl) ?_
        obtain ⟨C5, eC5⟩ : ∃ Z : Mm, Z = wrI C 72 11 y3 := ⟨_, rfl⟩
        replace h := lt_y eC5 h
        refine r_put (X' := (Cm, C5)) hC inX11 tyX11 tyX11_ok nmX11 hP hS (e_72 G _) rfl 11 (by decide) rfl k1061 rfl (v := .int y3) rfl rfl (Nat.le_of_ble_eq_true rfl) (p_72_11 G _ _ eC5) dX11_readOne_108 (fun H locs hP hS => ?_)
        refine lv_aload_n hx hb dX11_readOne_111 rfl (lv_at hl 0 rfl) ?_
        obtain ⟨r7, C8, hq6, h⟩ := bp_x h
        refine rc_i hS (run_V hC wX11_wrong k1268 (e_72 G _) rfl hP hS (As := []) (rest := []) (mX11_wrong l G Cm hq6) rfl hl.1 (Nat.le_of_ble_eq_true rfl) ⟨by decide, by decide⟩ ⟨Nat.le_refl _, Nat.le_refl _⟩ rfl dX11_readOne_112) (fun H locs pb9 hP hS => ?_)
        exact re_i' hC hr hP hS (pr_1 h) (congrArg (fun Z : Mm => (Cm, Z)) (pr_2 h)) dX11_readOne_115
    · replace h := it_t c1 h
      refine lv_aload_n hx hb dX11_readOne_92 rfl (lv_at hl 0 rfl) ?_
      obtain ⟨r11, C12, hq10, h⟩ := bp_x h
      refine rc_i hS (run_V hC wX11_wrong k1268 (e_72 G _) rfl hP hS (As := []) (rest := []) (mX11_wrong l G Cm hq10) rfl hl.1 (Nat.le_of_ble_eq_true rfl) ⟨by decide, by decide⟩ ⟨Nat.le_refl _, Nat.le_refl _⟩ rfl dX11_readOne_93) (fun H locs pb13 hP hS => ?_)
      exact re_i' hC hr hP hS (pr_1 h) (congrArg (fun Z : Mm => (Cm, Z)) (pr_2 h)) dX11_readOne_96
  have bl28 : ∀ (fu : Nat), ∀ (y2 : Int32) (y3 : Int32) (y4 : Int32) (C : Mm) (H : Heap) (locs : List Loc) (ls : Array Slot), fX11_readOne_h28 n fu y2 y3 y4 C = some (r0, C0) → lv_has ls 5 [(0, .ref (gA G 72)), (2, .int y2), (3, .int y3), (4, .int y4)] → va_P (gD G) vwCl (wld G (Cm, C)) H → va_S (lwA G) s.heap H locs → W p l e (rmv 2 46) s m args below meth c H locs 0 0 (MQ below (Qi G PT r0 (Cm, C0)) args s 0 0 (lwA G)) (F0 m 28 ls []) := by
    intro fu
    induction fu with
    | zero =>
      intro y2 y3 y4 C H locs ls h hl hP hS
      rw [fX11_readOne_h28.eq_1] at h
      cases h
    | succ fu ih =>
      intro y2 y3 y4 C H locs ls h hl hP hS
      rw [fX11_readOne_h28.eq_2] at h
      refine lv_aload_n hx hb dX11_readOne_28 rfl (lv_at hl 0 rfl) ?_
      refine r_get (v := .int (C.1 72 11)) hC inX11 hP (e_72 G _) rfl 11 (by decide) rfl k1061 rfl dX11_readOne_29 ?_
      refine lv_iload_n hx hb dX11_readOne_32 rfl (lv_at hl 2 rfl) ?_
      refine lv_iconst (v := 2) hx hb dX11_readOne_33 (by decide) ?_
      refine lv_iadd hx hb dX11_readOne_34 ?_
      refine lv_icmp_ge (tgt := 84) hx hb dX11_readOne_35 (by decide) (fun c14 => ?_) (fun c14 => ?_)
      · replace h := it_t c14 h
        exact bl84 y2 y3 y4 C _ _ _ h (lv_sub hl [0, 1, 2, 3] rfl) hP hS
      · replace h := it_f c14 h
        refine lv_aload_n hx hb dX11_readOne_38 rfl (lv_at hl 0 rfl) ?_
        obtain ⟨r16, hq15, h⟩ := bn_x h
        refine rc_i hS (run_V hC wX11_byteAt k1264 (e_72 G _) rfl hP hS (As := []) (rest := []) (mX11_byteAt l G Cm hq15) rfl hl.1 (Nat.le_of_ble_eq_true rfl) ⟨by decide, by decide⟩ ⟨Nat.le_refl _, Nat.le_refl _⟩ rfl dX11_readOne_39) (fun H locs pb17 hP hS => ?_)
        refine lv_bipush (v := 48) hx hb dX11_readOne_42 (by decide) ?_
        refine lv_icmp_lt (tgt := 84) hx hb dX11_readOne_44 (by decide) (fun c18 => ?_) (fun c18 => ?_)
        · replace h := it_t c18 h
          exact bl84 y2 y3 y4 C _ _ _ h (lv_sub hl [0, 1, 2, 3] rfl) hP hS
        · replace h := it_f c18 h
          refine lv_aload_n hx hb dX11_readOne_47 rfl (lv_at hl 0 rfl) ?_
          obtain ⟨r20, hq19, h⟩ := bn_x h
          refine rc_i hS (run_V hC wX11_byteAt k1264 (e_72 G _) rfl hP hS (As := []) (rest := []) (mX11_byteAt l G Cm hq19) rfl hl.1 (Nat.le_of_ble_eq_true rfl) ⟨by decide, by decide⟩ ⟨Nat.le_refl _, Nat.le_refl _⟩ rfl dX11_readOne_48) (fun H locs pb21 hP hS => ?_)
          refine lv_bipush (v := 57) hx hb dX11_readOne_51 (by decide) ?_
          refine lv_icmp_gt (tgt := 84) hx hb dX11_readOne_53 (by decide) (fun c22 => ?_) (fun c22 => ?_)
          · replace h := it_t c22 h
            exact bl84 y2 y3 y4 C _ _ _ h (lv_sub hl [0, 1, 2, 3] rfl) hP hS
          · replace h := it_f c22 h
            refine lv_bipush (v := 10) hx hb dX11_readOne_56 (by decide) ?_
            refine lv_iload hx hb dX11_readOne_58 (lv_at hl 3 rfl) ?_
            refine lv_imul hx hb dX11_readOne_60 ?_
            refine lv_aload_n hx hb dX11_readOne_61 rfl (lv_at hl 0 rfl) ?_
            obtain ⟨r24, hq23, h⟩ := bn_x h
            refine rc_i hS (run_V hC wX11_byteAt k1264 (e_72 G _) rfl hP hS (As := []) (rest := [.int (10 * y4)]) (mX11_byteAt l G Cm hq23) rfl hl.1 (Nat.le_of_ble_eq_true rfl) ⟨by decide, by decide⟩ ⟨Nat.le_refl _, Nat.le_refl _⟩ rfl dX11_readOne_62) (fun H locs pb25 hP hS => ?_)
            refine lv_iadd hx hb dX11_readOne_65 ?_
            refine lv_bipush (v := 48) hx hb dX11_readOne_66 (by decide) ?_
            refine lv_isub hx hb dX11_readOne_68 ?_
            refine lv_topi (fun x26 ex26 => ?_)
            replace h := lt_y ex26 h
            refine lv_istore (lv' := [(4, .int x26), (0, .ref (gA G 72)), (2, .int y2), (3, .int y3)]) hx hb dX11_readOne_69 hl (by decide) rfl (fun ls hl => ?_)
            refine lv_aload_n hx hb dX11_readOne_71 rfl (lv_at hl 1 rfl) ?_
            refine lv_dup hx hb dX11_readOne_72 rfl ?_
            refine r_get (v := .int (C.1 72 11)) hC inX11 hP (e_72 G _) rfl 11 (by decide) rfl k1061 rfl dX11_readOne_73 ?_
            refine lv_iconst (v := 1) hx hb dX11_readOne_76 (by decide) ?_
            refine lv_iadd hx hb dX11_readOne_77 ?_
            obtain ⟨C27, eC27⟩ : ∃ Z : Mm, Z = wrI C 72 11 ((C.1 72 11) + 1) := ⟨_, rfl⟩
            replace h := lt_y eC27 h
            refine r_put (X' := (Cm, C27)) hC inX11 tyX11 tyX11_ok nmX11 hP hS (e_72 G _) rfl 11 (by decide) rfl k1061 rfl (v := .int ((C.1 72 11) + 1)) rfl rfl (Nat.le_of_ble_eq_true rfl) (p_72_11 G _ _ eC27) dX11_readOne_78 (fun H locs hP hS => ?_)
            refine lv_goto (tgt := 28) hx hb dX11_readOne_81 (by decide) ?_
            exact ih y2 y3 x26 C27 _ _ _ h (lv_sub hl [1, 2, 3, 0] rfl) hP hS
  have bl15 : ∀  (C : Mm) (H : Heap) (locs : List Loc) (ls : Array Slot), fX11_readOne_b15 n C = some (r0, C0) → lv_has ls 5 [(0, .ref (gA G 72))] → va_P (gD G) vwCl (wld G (Cm, C)) H → va_S (lwA G) s.heap H locs → W p l e (rmv 2 46) s m args below meth c H locs 0 0 (MQ below (Qi G PT r0 (Cm, C0)) args s 0 0 (lwA G)) (F0 m 15 ls []) := by
    intro C H locs ls h hl hP hS
    unfold fX11_readOne_b15 at h
    refine lv_aload_n hx hb dX11_readOne_15 rfl (lv_at hl 0 rfl) ?_
    obtain ⟨r29, C30, hq28, h⟩ := bp_x h
    refine rc_i hS (run_V hC wX11_wrong k1268 (e_72 G _) rfl hP hS (As := []) (rest := []) (mX11_wrong l G Cm hq28) rfl hl.1 (Nat.le_of_ble_eq_true rfl) ⟨by decide, by decide⟩ ⟨Nat.le_refl _, Nat.le_refl _⟩ rfl dX11_readOne_16) (fun H locs pb31 hP hS => ?_)
    exact re_i' hC hr hP hS (pr_1 h) (congrArg (fun Z : Mm => (Cm, Z)) (pr_2 h)) dX11_readOne_19
  unfold fX11_readOne at h
  refine lv_aload_n hx hb dX11_readOne_0 rfl (lv_at hl 0 rfl) ?_
  refine r_get (v := .int (C.1 72 13)) hC inX11 hP (e_72 G _) rfl 13 (by decide) rfl k1063 rfl dX11_readOne_1 ?_
  refine lv_if_ge (tgt := 15) hx hb dX11_readOne_4 (by decide) (fun c32 => ?_) (fun c32 => ?_)
  · replace h := it_t c32 h
    exact bl15 C _ _ _ h (lv_sub hl [0] rfl) hP hS
  · replace h := it_f c32 h
    refine lv_aload_n hx hb dX11_readOne_7 rfl (lv_at hl 0 rfl) ?_
    refine lv_iload_n hx hb dX11_readOne_8 rfl (lv_at hl 1 rfl) ?_
    obtain ⟨r34, C35, hq33, h⟩ := bp_x h
    refine rc_i hS (run_V hC wX11_takes k1272 (e_72 G _) rfl hP hS (As := [.int p1]) (rest := []) (mX11_takes l G Cm hq33) rfl hl.1 (Nat.le_of_ble_eq_true rfl) ⟨by decide, by decide⟩ ⟨Nat.le_refl _, Nat.le_refl _⟩ rfl dX11_readOne_9) (fun H locs pb36 hP hS => ?_)
    refine lv_if_ne (tgt := 20) hx hb dX11_readOne_12 (by decide) (fun c37 => ?_) (fun c37 => ?_)
    · replace h := it_f c37 h
      refine lv_aload_n hx hb dX11_readOne_20 rfl (lv_at hl 0 rfl) ?_
      refine r_get (v := .int (C35.1 72 11)) hC inX11 hP (e_72 G _) rfl 11 (by decide) rfl k1061 rfl dX11_readOne_21 ?_
      refine lv_topi (fun x38 ex38 => ?_)
      replace h := lt_y ex38 h
      refine lv_istore_n (lv' := [(3, .int x38), (0, .ref (gA G 72)), (1, .int p1), (2, .int p2)]) hx hb dX11_readOne_24 rfl hl (by decide) rfl (fun ls hl => ?_)
      refine lv_iconst (v := 0) hx hb dX11_readOne_25 (by decide) ?_
      refine lv_istore (lv' := [(4, .int 0), (3, .int x38), (0, .ref (gA G 72)), (1, .int p1), (2, .int p2)]) hx hb dX11_readOne_26 hl (by decide) rfl (fun ls hl => ?_)
      exact bl28 n p2 x38 0 C35 _ _ _ h (lv_sub hl [2, 4, 1, 0] rfl) hP hS
    · replace h := it_t c37 h
      exact bl15 C35 _ _ _ h (lv_sub hl [0] rfl) hP hS
set_option maxHeartbeats 4000000 in
set_option maxRecDepth 100000 in
theorem mX11_head (l : Launch) (G : gp) (Cm : Mm) {n : Nat} {C : Mm} {r0 : Int32} {C0 : Mm} (h : fX11_head n C = some (r0, C0)) : Met l yX11_head (wsy yX11_head cX11_head 2 (some .int)) (rmv 3 70) (va_Pc [.ref (gA G 72)] (Rl G (Cm, C))) (Qi G PT r0 (Cm, C0)) 0 0 (lwA G) := by
  refine met_i [.ref (gA G 72)] wX11_head.2.2.2.2.2 (Nat.le_of_ble_eq_true rfl) ?_
  intro p e s m args below meth c ls hC hr hP hl
  have hC : Cx G p s m args meth c cX11_head RX11 2 := hC
  have hx := hC.1
  have hb := hC.2.1
  have hown := hC.2.2.2.1
  have hts := hC.2.2.2.2.1
  have hS : va_S (lwA G) s.heap s.heap [] := va_S.rf
  have hl : lv_has ls 2 [(0, .ref (gA G 72))] := hl
  have bl145 : ∀ (fu : Nat), ∀ (y1 : Int32) (C : Mm) (H : Heap) (locs : List Loc) (ls : Array Slot), fX11_head_h145 n fu y1 C = some (r0, C0) → lv_has ls 2 [(0, .ref (gA G 72)), (1, .int y1)] → va_P (gD G) vwCl (wld G (Cm, C)) H → va_S (lwA G) s.heap H locs → W p l e (rmv 3 70) s m args below meth c H locs 0 0 (MQ below (Qi G PT r0 (Cm, C0)) args s 0 0 (lwA G)) (F0 m 145 ls []) := by
    intro fu
    induction fu with
    | zero =>
      intro y1 C H locs ls h hl hP hS
      rw [fX11_head_h145.eq_1] at h
      cases h
    | succ fu ih =>
      intro y1 C H locs ls h hl hP hS
      rw [fX11_head_h145.eq_2] at h
      refine lv_iload_n hx hb dX11_head_145 rfl (lv_at hl 1 rfl) ?_
      refine lv_iconst (v := 5) hx hb dX11_head_146 (by decide) ?_
      refine lv_icmp_ge (tgt := 175) hx hb dX11_head_147 (by decide) (fun c1 => ?_) (fun c1 => ?_)
      · replace h := it_t c1 h
        refine lv_aload_n hx hb dX11_head_175 rfl (lv_at hl 0 rfl) ?_
        refine lv_dup hx hb dX11_head_176 rfl ?_
        refine r_get (v := .int (C.1 72 16)) hC inX11 hP (e_72 G _) rfl 16 (by decide) rfl k1066 rfl dX11_head_177 ?_
        refine lv_iconst (v := 1) hx hb dX11_head_180 (by decide) ?_
        refine lv_iadd hx hb dX11_head_181 ?_
        obtain ⟨C2, eC2⟩ : ∃ Z : Mm, Z = wrI C 72 16 ((C.1 72 16) + 1) := ⟨_, rfl⟩
        replace h := lt_y eC2 h
        refine r_put (X' := (Cm, C2)) hC inX11 tyX11 tyX11_ok nmX11 hP hS (e_72 G _) rfl 16 (by decide) rfl k1066 rfl (v := .int ((C.1 72 16) + 1)) rfl rfl (Nat.le_of_ble_eq_true rfl) (p_72_16 G _ _ eC2) dX11_head_182 (fun H locs hP hS => ?_)
        refine lv_aload_n hx hb dX11_head_185 rfl (lv_at hl 0 rfl) ?_
        refine r_get (v := .int (C2.1 72 16)) hC inX11 hP (e_72 G _) rfl 16 (by decide) rfl k1066 rfl dX11_head_186 ?_
        refine lv_iconst (v := 1) hx hb dX11_head_189 (by decide) ?_
        refine lv_isub hx hb dX11_head_190 ?_
        exact re_i' hC hr hP hS (pr_1 h) (congrArg (fun Z : Mm => (Cm, Z)) (pr_2 h)) dX11_head_191
      · replace h := it_f c1 h
        refine lv_aload_n hx hb dX11_head_150 rfl (lv_at hl 0 rfl) ?_
        refine r_get (v := .ref (gA G 73)) hC inX11 hP (e_72 G _) rfl 0 (by decide) rfl k1050 rfl dX11_head_151 ?_
        refine lv_iconst (v := 5) hx hb dX11_head_154 (by decide) ?_
        refine lv_aload_n hx hb dX11_head_155 rfl (lv_at hl 0 rfl) ?_
        refine r_get (v := .int (C.1 72 16)) hC inX11 hP (e_72 G _) rfl 16 (by decide) rfl k1066 rfl dX11_head_156 ?_
        refine lv_imul hx hb dX11_head_159 ?_
        refine lv_iload_n hx hb dX11_head_160 rfl (lv_at hl 1 rfl) ?_
        refine lv_iadd hx hb dX11_head_161 ?_
        refine lv_aload_n hx hb dX11_head_162 rfl (lv_at hl 0 rfl) ?_
        refine r_get (v := .ref (gA G 80)) hC inX11 hP (e_72 G _) rfl 17 (by decide) rfl k1067 rfl dX11_head_163 ?_
        refine lv_iload_n hx hb dX11_head_166 rfl (lv_at hl 1 rfl) ?_
        by_cases c3 : y1 < (0 : Int32) ∨ 5 ≤ Int32.toNatClampNeg y1
        · cases it_t c3 h
        replace h := it_f c3 h
        refine r_iald hC hP (f := C.1 80) (e_80 G _) c3 dX11_head_167 ?_
        by_cases c4 : ((5 * (C.1 72 16)) + y1) < (0 : Int32) ∨ 30 ≤ Int32.toNatClampNeg ((5 * (C.1 72 16)) + y1)
        · cases it_t c4 h
        replace h := it_f c4 h
        obtain ⟨C5, eC5⟩ : ∃ Z : Mm, Z = wrI C 73 (Int32.toNatClampNeg ((5 * (C.1 72 16)) + y1)) (C.1 80 (Int32.toNatClampNeg y1)) := ⟨_, rfl⟩
        replace h := lt_y eC5 h
        refine r_iast (X' := (Cm, C5)) hC hP hS (e_73 G _) c4 (a_73 G _ _ _ _ eC5) dX11_head_168 (fun H locs hP hS => ?_)
        obtain ⟨x6, ex6⟩ : ∃ y : Int32, y = y1 + 1 := ⟨_, rfl⟩
        replace h := lt_y ex6 h
        refine lv_iinc (v := x6) (lv' := [(1, .int x6), (0, .ref (gA G 72))]) hx hb dX11_head_169 hl (k := 1) rfl (by rw [ex6]; rfl) (by decide) rfl (fun ls hl => ?_)
        refine lv_goto (tgt := 145) hx hb dX11_head_172 (by decide) ?_
        exact ih x6 C5 _ _ _ h (lv_sub hl [1, 0] rfl) hP hS
  have bl123 : ∀  (C : Mm) (H : Heap) (locs : List Loc) (ls : Array Slot), fX11_head_b123 n C = some (r0, C0) → lv_has ls 2 [(0, .ref (gA G 72))] → va_P (gD G) vwCl (wld G (Cm, C)) H → va_S (lwA G) s.heap H locs → W p l e (rmv 3 70) s m args below meth c H locs 0 0 (MQ below (Qi G PT r0 (Cm, C0)) args s 0 0 (lwA G)) (F0 m 123 ls []) := by
    intro C H locs ls h hl hP hS
    unfold fX11_head_b123 at h
    refine lv_aload_n hx hb dX11_head_123 rfl (lv_at hl 0 rfl) ?_
    refine lv_iconst (v := 0) hx hb dX11_head_124 (by decide) ?_
    obtain ⟨C7, eC7⟩ : ∃ Z : Mm, Z = wrI C 72 7 0 := ⟨_, rfl⟩
    replace h := lt_y eC7 h
    refine r_put (X' := (Cm, C7)) hC inX11 tyX11 tyX11_ok nmX11 hP hS (e_72 G _) rfl 7 (by decide) rfl k1057 rfl (v := .int 0) rfl rfl (Nat.le_of_ble_eq_true rfl) (p_72_7 G _ _ eC7) dX11_head_125 (fun H locs hP hS => ?_)
    refine lv_aload_n hx hb dX11_head_128 rfl (lv_at hl 0 rfl) ?_
    refine r_get (v := .int (C7.1 72 13)) hC inX11 hP (e_72 G _) rfl 13 (by decide) rfl k1063 rfl dX11_head_129 ?_
    refine lv_if_lt (tgt := 143) hx hb dX11_head_132 (by decide) (fun c8 => ?_) (fun c8 => ?_)
    · replace h := it_t c8 h
      refine lv_iconst (v := 0) hx hb dX11_head_143 (by decide) ?_
      refine lv_istore_n (lv' := [(1, .int 0), (0, .ref (gA G 72))]) hx hb dX11_head_144 rfl hl (by decide) rfl (fun ls hl => ?_)
      exact bl145 n 0 C7 _ _ _ h (lv_sub hl [1, 0] rfl) hP hS
    · replace h := it_f c8 h
      refine lv_bipush (v := (-100)) hx hb dX11_head_135 (by decide) ?_
      refine lv_aload_n hx hb dX11_head_137 rfl (lv_at hl 0 rfl) ?_
      refine r_get (v := .int (C7.1 72 13)) hC inX11 hP (e_72 G _) rfl 13 (by decide) rfl k1063 rfl dX11_head_138 ?_
      refine lv_isub hx hb dX11_head_141 ?_
      exact re_i' hC hr hP hS (pr_1 h) (congrArg (fun Z : Mm => (Cm, Z)) (pr_2 h)) dX11_head_142
  unfold fX11_head at h
  refine lv_aload_n hx hb dX11_head_0 rfl (lv_at hl 0 rfl) ?_
  refine r_get (v := .int (C.1 72 16)) hC inX11 hP (e_72 G _) rfl 16 (by decide) rfl k1066 rfl dX11_head_1 ?_
  refine lv_bipush (v := 6) hx hb dX11_head_4 (by decide) ?_
  refine lv_icmp_ne (tgt := 12) hx hb dX11_head_6 (by decide) (fun c9 => ?_) (fun c9 => ?_)
  · replace h := it_f c9 h
    refine lv_aload_n hx hb dX11_head_12 rfl (lv_at hl 0 rfl) ?_
    refine lv_iconst (v := (-1)) hx hb dX11_head_13 (by decide) ?_
    obtain ⟨C10, eC10⟩ : ∃ Z : Mm, Z = wrI C 72 10 (-1) := ⟨_, rfl⟩
    replace h := lt_y eC10 h
    refine r_put (X' := (Cm, C10)) hC inX11 tyX11 tyX11_ok nmX11 hP hS (e_72 G _) rfl 10 (by decide) rfl k1060 rfl (v := .int (-1)) rfl rfl (Nat.le_of_ble_eq_true rfl) (p_72_10 G _ _ eC10) dX11_head_14 (fun H locs hP hS => ?_)
    refine lv_aload_n hx hb dX11_head_17 rfl (lv_at hl 0 rfl) ?_
    refine lv_iconst (v := 0) hx hb dX11_head_18 (by decide) ?_
    obtain ⟨C11, eC11⟩ : ∃ Z : Mm, Z = wrI C10 72 11 0 := ⟨_, rfl⟩
    replace h := lt_y eC11 h
    refine r_put (X' := (Cm, C11)) hC inX11 tyX11 tyX11_ok nmX11 hP hS (e_72 G _) rfl 11 (by decide) rfl k1061 rfl (v := .int 0) rfl rfl (Nat.le_of_ble_eq_true rfl) (p_72_11 G _ _ eC11) dX11_head_19 (fun H locs hP hS => ?_)
    refine lv_aload_n hx hb dX11_head_22 rfl (lv_at hl 0 rfl) ?_
    refine lv_aload_n hx hb dX11_head_23 rfl (lv_at hl 0 rfl) ?_
    refine r_get (v := .int (C11.1 72 7)) hC inX11 hP (e_72 G _) rfl 7 (by decide) rfl k1057 rfl dX11_head_24 ?_
    obtain ⟨C12, eC12⟩ : ∃ Z : Mm, Z = wrI C11 72 12 (C11.1 72 7) := ⟨_, rfl⟩
    replace h := lt_y eC12 h
    refine r_put (X' := (Cm, C12)) hC inX11 tyX11 tyX11_ok nmX11 hP hS (e_72 G _) rfl 12 (by decide) rfl k1062 rfl (v := .int (C11.1 72 7)) rfl rfl (Nat.le_of_ble_eq_true rfl) (p_72_12 G _ _ eC12) dX11_head_27 (fun H locs hP hS => ?_)
    refine lv_aload_n hx hb dX11_head_30 rfl (lv_at hl 0 rfl) ?_
    refine lv_iconst (v := (-1)) hx hb dX11_head_31 (by decide) ?_
    obtain ⟨C13, eC13⟩ : ∃ Z : Mm, Z = wrI C12 72 13 (-1) := ⟨_, rfl⟩
    replace h := lt_y eC13 h
    refine r_put (X' := (Cm, C13)) hC inX11 tyX11 tyX11_ok nmX11 hP hS (e_72 G _) rfl 13 (by decide) rfl k1063 rfl (v := .int (-1)) rfl rfl (Nat.le_of_ble_eq_true rfl) (p_72_13 G _ _ eC13) dX11_head_32 (fun H locs hP hS => ?_)
    refine lv_aload_n hx hb dX11_head_35 rfl (lv_at hl 0 rfl) ?_
    refine r_get (v := .ref (gA G 80)) hC inX11 hP (e_72 G _) rfl 17 (by decide) rfl k1067 rfl dX11_head_36 ?_
    refine lv_iconst (v := 0) hx hb dX11_head_39 (by decide) ?_
    refine lv_aload_n hx hb dX11_head_40 rfl (lv_at hl 0 rfl) ?_
    refine lv_bipush (v := 108) hx hb dX11_head_41 (by decide) ?_
    refine lv_iconst (v := 0) hx hb dX11_head_43 (by decide) ?_
    obtain ⟨r15, C16, hq14, h⟩ := bp_x h
    refine rc_i hS (run_V hC wX11_readOne k1283 (e_72 G _) rfl hP hS (As := [.int 108, .int 0]) (rest := [.int 0, .ref (gA G 80)]) (mX11_readOne l G Cm hq14) rfl hl.1 (Nat.le_of_ble_eq_true rfl) ⟨by decide, by decide⟩ ⟨Nat.le_refl _, Nat.le_refl _⟩ rfl dX11_head_44) (fun H locs pb17 hP hS => ?_)
    by_cases c18 : 0 < (0 : Int32) ∨ 5 ≤ Int32.toNatClampNeg 0
    · cases it_t c18 h
    replace h := it_f c18 h
    obtain ⟨C19, eC19⟩ : ∃ Z : Mm, Z = wrI C16 80 (Int32.toNatClampNeg 0) r15 := ⟨_, rfl⟩
    replace h := lt_y eC19 h
    refine r_iast (X' := (Cm, C19)) hC hP hS (e_80 G _) c18 (a_80 G _ _ _ _ eC19) dX11_head_47 (fun H locs hP hS => ?_)
    refine lv_aload_n hx hb dX11_head_48 rfl (lv_at hl 0 rfl) ?_
    refine r_get (v := .ref (gA G 80)) hC inX11 hP (e_72 G _) rfl 17 (by decide) rfl k1067 rfl dX11_head_49 ?_
    refine lv_iconst (v := 1) hx hb dX11_head_52 (by decide) ?_
    refine lv_aload_n hx hb dX11_head_53 rfl (lv_at hl 0 rfl) ?_
    refine lv_bipush (v := 97) hx hb dX11_head_54 (by decide) ?_
    refine lv_iconst (v := 1) hx hb dX11_head_56 (by decide) ?_
    obtain ⟨r21, C22, hq20, h⟩ := bp_x h
    refine rc_i hS (run_V hC wX11_readOne k1283 (e_72 G _) rfl hP hS (As := [.int 97, .int 1]) (rest := [.int 1, .ref (gA G 80)]) (mX11_readOne l G Cm hq20) rfl hl.1 (Nat.le_of_ble_eq_true rfl) ⟨by decide, by decide⟩ ⟨Nat.le_refl _, Nat.le_refl _⟩ rfl dX11_head_57) (fun H locs pb23 hP hS => ?_)
    by_cases c24 : 1 < (0 : Int32) ∨ 5 ≤ Int32.toNatClampNeg 1
    · cases it_t c24 h
    replace h := it_f c24 h
    obtain ⟨C25, eC25⟩ : ∃ Z : Mm, Z = wrI C22 80 (Int32.toNatClampNeg 1) r21 := ⟨_, rfl⟩
    replace h := lt_y eC25 h
    refine r_iast (X' := (Cm, C25)) hC hP hS (e_80 G _) c24 (a_80 G _ _ _ _ eC25) dX11_head_60 (fun H locs hP hS => ?_)
    refine lv_aload_n hx hb dX11_head_61 rfl (lv_at hl 0 rfl) ?_
    refine r_get (v := .ref (gA G 80)) hC inX11 hP (e_72 G _) rfl 17 (by decide) rfl k1067 rfl dX11_head_62 ?_
    refine lv_iconst (v := 2) hx hb dX11_head_65 (by decide) ?_
    refine lv_aload_n hx hb dX11_head_66 rfl (lv_at hl 0 rfl) ?_
    refine lv_bipush (v := 104) hx hb dX11_head_67 (by decide) ?_
    refine lv_iconst (v := 2) hx hb dX11_head_69 (by decide) ?_
    obtain ⟨r27, C28, hq26, h⟩ := bp_x h
    refine rc_i hS (run_V hC wX11_readOne k1283 (e_72 G _) rfl hP hS (As := [.int 104, .int 2]) (rest := [.int 2, .ref (gA G 80)]) (mX11_readOne l G Cm hq26) rfl hl.1 (Nat.le_of_ble_eq_true rfl) ⟨by decide, by decide⟩ ⟨Nat.le_refl _, Nat.le_refl _⟩ rfl dX11_head_70) (fun H locs pb29 hP hS => ?_)
    by_cases c30 : 2 < (0 : Int32) ∨ 5 ≤ Int32.toNatClampNeg 2
    · cases it_t c30 h
    replace h := it_f c30 h
    obtain ⟨C31, eC31⟩ : ∃ Z : Mm, Z = wrI C28 80 (Int32.toNatClampNeg 2) r27 := ⟨_, rfl⟩
    replace h := lt_y eC31 h
    refine r_iast (X' := (Cm, C31)) hC hP hS (e_80 G _) c30 (a_80 G _ _ _ _ eC31) dX11_head_73 (fun H locs hP hS => ?_)
    refine lv_aload_n hx hb dX11_head_74 rfl (lv_at hl 0 rfl) ?_
    refine r_get (v := .ref (gA G 80)) hC inX11 hP (e_72 G _) rfl 17 (by decide) rfl k1067 rfl dX11_head_75 ?_
    refine lv_iconst (v := 3) hx hb dX11_head_78 (by decide) ?_
    refine lv_aload_n hx hb dX11_head_79 rfl (lv_at hl 0 rfl) ?_
    refine lv_bipush (v := 116) hx hb dX11_head_80 (by decide) ?_
    refine lv_iconst (v := 3) hx hb dX11_head_82 (by decide) ?_
    obtain ⟨r33, C34, hq32, h⟩ := bp_x h
    refine rc_i hS (run_V hC wX11_readOne k1283 (e_72 G _) rfl hP hS (As := [.int 116, .int 3]) (rest := [.int 3, .ref (gA G 80)]) (mX11_readOne l G Cm hq32) rfl hl.1 (Nat.le_of_ble_eq_true rfl) ⟨by decide, by decide⟩ ⟨Nat.le_refl _, Nat.le_refl _⟩ rfl dX11_head_83) (fun H locs pb35 hP hS => ?_)
    by_cases c36 : 3 < (0 : Int32) ∨ 5 ≤ Int32.toNatClampNeg 3
    · cases it_t c36 h
    replace h := it_f c36 h
    obtain ⟨C37, eC37⟩ : ∃ Z : Mm, Z = wrI C34 80 (Int32.toNatClampNeg 3) r33 := ⟨_, rfl⟩
    replace h := lt_y eC37 h
    refine r_iast (X' := (Cm, C37)) hC hP hS (e_80 G _) c36 (a_80 G _ _ _ _ eC37) dX11_head_86 (fun H locs hP hS => ?_)
    refine lv_aload_n hx hb dX11_head_87 rfl (lv_at hl 0 rfl) ?_
    refine r_get (v := .ref (gA G 80)) hC inX11 hP (e_72 G _) rfl 17 (by decide) rfl k1067 rfl dX11_head_88 ?_
    refine lv_iconst (v := 4) hx hb dX11_head_91 (by decide) ?_
    refine lv_aload_n hx hb dX11_head_92 rfl (lv_at hl 0 rfl) ?_
    refine lv_bipush (v := 99) hx hb dX11_head_93 (by decide) ?_
    refine lv_iconst (v := 4) hx hb dX11_head_95 (by decide) ?_
    obtain ⟨r39, C40, hq38, h⟩ := bp_x h
    refine rc_i hS (run_V hC wX11_readOne k1283 (e_72 G _) rfl hP hS (As := [.int 99, .int 4]) (rest := [.int 4, .ref (gA G 80)]) (mX11_readOne l G Cm hq38) rfl hl.1 (Nat.le_of_ble_eq_true rfl) ⟨by decide, by decide⟩ ⟨Nat.le_refl _, Nat.le_refl _⟩ rfl dX11_head_96) (fun H locs pb41 hP hS => ?_)
    by_cases c42 : 4 < (0 : Int32) ∨ 5 ≤ Int32.toNatClampNeg 4
    · cases it_t c42 h
    replace h := it_f c42 h
    obtain ⟨C43, eC43⟩ : ∃ Z : Mm, Z = wrI C40 80 (Int32.toNatClampNeg 4) r39 := ⟨_, rfl⟩
    replace h := lt_y eC43 h
    refine r_iast (X' := (Cm, C43)) hC hP hS (e_80 G _) c42 (a_80 G _ _ _ _ eC43) dX11_head_99 (fun H locs hP hS => ?_)
    refine lv_aload_n hx hb dX11_head_100 rfl (lv_at hl 0 rfl) ?_
    refine r_get (v := .int (C43.1 72 13)) hC inX11 hP (e_72 G _) rfl 13 (by decide) rfl k1063 rfl dX11_head_101 ?_
    refine lv_if_ge (tgt := 123) hx hb dX11_head_104 (by decide) (fun c44 => ?_) (fun c44 => ?_)
    · replace h := it_t c44 h
      exact bl123 C43 _ _ _ h (lv_sub hl [0] rfl) hP hS
    · replace h := it_f c44 h
      refine lv_aload_n hx hb dX11_head_107 rfl (lv_at hl 0 rfl) ?_
      refine r_get (v := .int (C43.1 72 11)) hC inX11 hP (e_72 G _) rfl 11 (by decide) rfl k1061 rfl dX11_head_108 ?_
      refine lv_aload_n hx hb dX11_head_111 rfl (lv_at hl 0 rfl) ?_
      refine r_get (v := .int (C43.1 72 12)) hC inX11 hP (e_72 G _) rfl 12 (by decide) rfl k1062 rfl dX11_head_112 ?_
      refine lv_icmp_ge (tgt := 123) hx hb dX11_head_115 (by decide) (fun c45 => ?_) (fun c45 => ?_)
      · replace h := it_t c45 h
        exact bl123 C43 _ _ _ h (lv_sub hl [0] rfl) hP hS
      · replace h := it_f c45 h
        refine lv_aload_n hx hb dX11_head_118 rfl (lv_at hl 0 rfl) ?_
        obtain ⟨r47, C48, hq46, h⟩ := bp_x h
        refine rc_i hS (run_V hC wX11_wrong k1268 (e_72 G _) rfl hP hS (As := []) (rest := []) (mX11_wrong l G Cm hq46) rfl hl.1 (Nat.le_of_ble_eq_true rfl) ⟨by decide, by decide⟩ ⟨Nat.le_refl _, Nat.le_refl _⟩ rfl dX11_head_119) (fun H locs pb49 hP hS => ?_)
        refine lv_istore_n (lv' := [(1, .int r47), (0, .ref (gA G 72))]) hx hb dX11_head_122 rfl hl (by decide) rfl (fun ls hl => ?_)
        exact bl123 C48 _ _ _ h (lv_sub hl [1] rfl) hP hS
  · replace h := it_t c9 h
    refine lv_bipush (v := (-3)) hx hb dX11_head_9 (by decide) ?_
    exact re_i' hC hr hP hS (pr_1 h) (congrArg (fun Z : Mm => (Cm, Z)) (pr_2 h)) dX11_head_11
set_option maxHeartbeats 4000000 in
set_option maxRecDepth 100000 in
theorem mX11_learntOf (l : Launch) (G : gp) (Cm : Mm) {n : Nat} {p1 : Int32} {C : Mm} {r0 : Int32} (h : fX11_learntOf n p1 C = some r0) : Met l yX11_learntOf (wsy yX11_learntOf cX11_learntOf 4 (some .int)) (rmv 0 0) (va_Pc [.ref (gA G 72), .int p1] (Rl G (Cm, C))) (Qi G PT r0 (Cm, C)) 0 0 (lwA G) := by
  refine met_i [.ref (gA G 72), .int p1] wX11_learntOf.2.2.2.2.2 (Nat.le_of_ble_eq_true rfl) ?_
  intro p e s m args below meth c ls hC hr hP hl
  have hC : Cx G p s m args meth c cX11_learntOf RX11 4 := hC
  have hx := hC.1
  have hb := hC.2.1
  have hown := hC.2.2.2.1
  have hts := hC.2.2.2.2.1
  have hS : va_S (lwA G) s.heap s.heap [] := va_S.rf
  have hl : lv_has ls 4 [(0, .ref (gA G 72)), (1, .int p1)] := hl
  have bl35 : ∀ (k4 : Int32 → Int32 → Int32 → Mm → Option Int32) (hk4 : ∀ (y1 : Int32) (y2 : Int32) (y3 : Int32) (C : Mm) (H : Heap) (locs : List Loc) (ls : Array Slot), k4 y1 y2 y3 C = some r0 → lv_has ls 4 [(0, .ref (gA G 72)), (1, .int y1), (2, .int y2), (3, .int y3)] → va_P (gD G) vwCl (wld G (Cm, C)) H → va_S (lwA G) s.heap H locs → W p l e (rmv 0 0) s m args below meth c H locs 0 0 (MQ below (Qi G PT r0 (Cm, C)) args s 0 0 (lwA G)) (F0 m 4 ls [])), ∀ (y1 : Int32) (y3 : Int32) (s0 : Int32) (s1 : Int32) (C : Mm) (H : Heap) (locs : List Loc) (ls : Array Slot), fX11_learntOf_b35 n k4 y1 y3 s0 s1 C = some r0 → lv_has ls 4 [(0, .ref (gA G 72)), (1, .int y1), (3, .int y3)] → va_P (gD G) vwCl (wld G (Cm, C)) H → va_S (lwA G) s.heap H locs → W p l e (rmv 0 0) s m args below meth c H locs 0 0 (MQ below (Qi G PT r0 (Cm, C)) args s 0 0 (lwA G)) (F0 m 35 ls [.int s0, .int s1]) := by
    intro k4 hk4 y1 y3 s0 s1 C H locs ls h hl hP hS
    unfold fX11_learntOf_b35 at h
    refine lv_iadd hx hb dX11_learntOf_35 ?_
    refine lv_topi (fun x1 ex1 => ?_)
    replace h := lt_y ex1 h
    refine lv_istore_n (lv' := [(2, .int x1), (0, .ref (gA G 72)), (1, .int y1), (3, .int y3)]) hx hb dX11_learntOf_36 rfl hl (by decide) rfl (fun ls hl => ?_)
    obtain ⟨x2, ex2⟩ : ∃ y : Int32, y = y3 + 1 := ⟨_, rfl⟩
    replace h := lt_y ex2 h
    refine lv_iinc (v := x2) (lv' := [(3, .int x2), (2, .int x1), (0, .ref (gA G 72)), (1, .int y1)]) hx hb dX11_learntOf_37 hl (k := 3) rfl (by rw [ex2]; rfl) (by decide) rfl (fun ls hl => ?_)
    refine lv_goto (tgt := 4) hx hb dX11_learntOf_40 (by decide) ?_
    exact hk4 y1 x1 x2 C _ _ _ h (lv_sub hl [2, 3, 1, 0] rfl) hP hS
  have bl4 : ∀ (fu : Nat), ∀ (y1 : Int32) (y2 : Int32) (y3 : Int32) (C : Mm) (H : Heap) (locs : List Loc) (ls : Array Slot), fX11_learntOf_h4 n fu y1 y2 y3 C = some r0 → lv_has ls 4 [(0, .ref (gA G 72)), (1, .int y1), (2, .int y2), (3, .int y3)] → va_P (gD G) vwCl (wld G (Cm, C)) H → va_S (lwA G) s.heap H locs → W p l e (rmv 0 0) s m args below meth c H locs 0 0 (MQ below (Qi G PT r0 (Cm, C)) args s 0 0 (lwA G)) (F0 m 4 ls []) := by
    intro fu
    induction fu with
    | zero =>
      intro y1 y2 y3 C H locs ls h hl hP hS
      rw [fX11_learntOf_h4.eq_1] at h
      cases h
    | succ fu ih =>
      intro y1 y2 y3 C H locs ls h hl hP hS
      rw [fX11_learntOf_h4.eq_2] at h
      refine lv_iload_n hx hb dX11_learntOf_4 rfl (lv_at hl 3 rfl) ?_
      refine lv_aload_n hx hb dX11_learntOf_5 rfl (lv_at hl 0 rfl) ?_
      refine r_get (v := .ref (gA G 81)) hC inX11 hP (e_72 G _) rfl 18 (by decide) rfl k1068 rfl dX11_learntOf_6 ?_
      refine lv_iload_n hx hb dX11_learntOf_9 rfl (lv_at hl 1 rfl) ?_
      by_cases c3 : y1 < (0 : Int32) ∨ 6 ≤ Int32.toNatClampNeg y1
      · cases it_t c3 h
      replace h := it_f c3 h
      refine r_iald hC hP (f := C.1 81) (e_81 G _) c3 dX11_learntOf_10 ?_
      refine lv_icmp_ge (tgt := 43) hx hb dX11_learntOf_11 (by decide) (fun c4 => ?_) (fun c4 => ?_)
      · replace h := it_t c4 h
        refine lv_iload_n hx hb dX11_learntOf_43 rfl (lv_at hl 2 rfl) ?_
        exact re_i' hC hr hP hS (Option.some.inj h) rfl dX11_learntOf_44
      · replace h := it_f c4 h
        refine lv_iload_n hx hb dX11_learntOf_14 rfl (lv_at hl 2 rfl) ?_
        refine lv_aload_n hx hb dX11_learntOf_15 rfl (lv_at hl 0 rfl) ?_
        refine r_get (v := .ref (gA G 83)) hC inX11 hP (e_72 G _) rfl 20 (by decide) rfl k1070 rfl dX11_learntOf_16 ?_
        refine lv_bipush (v := 60) hx hb dX11_learntOf_19 (by decide) ?_
        refine lv_iload_n hx hb dX11_learntOf_21 rfl (lv_at hl 1 rfl) ?_
        refine lv_imul hx hb dX11_learntOf_22 ?_
        refine lv_iload_n hx hb dX11_learntOf_23 rfl (lv_at hl 3 rfl) ?_
        refine lv_iadd hx hb dX11_learntOf_24 ?_
        by_cases c5 : ((60 * y1) + y3) < (0 : Int32) ∨ 360 ≤ Int32.toNatClampNeg ((60 * y1) + y3)
        · cases it_t c5 h
        replace h := it_f c5 h
        refine r_iald hC hP (f := C.1 83) (e_83 G _) c5 dX11_learntOf_25 ?_
        refine lv_iconst (v := 3) hx hb dX11_learntOf_26 (by decide) ?_
        refine lv_icmp_lt (tgt := 34) hx hb dX11_learntOf_27 (by decide) (fun c6 => ?_) (fun c6 => ?_)
        · replace h := it_t c6 h
          refine lv_iconst (v := 0) hx hb dX11_learntOf_34 (by decide) ?_
          exact bl35 (fX11_learntOf_h4 n fu) ih y1 y3 0 y2 C _ _ _ h (lv_sub hl [0, 1, 3] rfl) hP hS
        · replace h := it_f c6 h
          refine lv_iconst (v := 1) hx hb dX11_learntOf_30 (by decide) ?_
          refine lv_goto (tgt := 35) hx hb dX11_learntOf_31 (by decide) ?_
          exact bl35 (fX11_learntOf_h4 n fu) ih y1 y3 1 y2 C _ _ _ h (lv_sub hl [0, 1, 3] rfl) hP hS
  unfold fX11_learntOf at h
  refine lv_iconst (v := 0) hx hb dX11_learntOf_0 (by decide) ?_
  refine lv_istore_n (lv' := [(2, .int 0), (0, .ref (gA G 72)), (1, .int p1)]) hx hb dX11_learntOf_1 rfl hl (by decide) rfl (fun ls hl => ?_)
  refine lv_iconst (v := 0) hx hb dX11_learntOf_2 (by decide) ?_
  refine lv_istore_n (lv' := [(3, .int 0), (2, .int 0), (0, .ref (gA G 72)), (1, .int p1)]) hx hb dX11_learntOf_3 rfl hl (by decide) rfl (fun ls hl => ?_)
  exact bl4 n p1 0 0 C _ _ _ h (lv_sub hl [2, 3, 1, 0] rfl) hP hS
set_option maxHeartbeats 4000000 in
set_option maxRecDepth 100000 in
theorem mX11_of (l : Launch) (G : gp) (Cm : Mm) {n : Nat} {p1 : Int32} {p2 : Int32} {C : Mm} {r0 : Int32} (h : fX11_of n p1 p2 C = some r0) : Met l yX11_of (wsy yX11_of cX11_of 3 (some .int)) (rmv 2 46) (va_Pc [.ref (gA G 72), .int p1, .int p2] (Rl G (Cm, C))) (Qi G PT r0 (Cm, C)) 0 0 (lwA G) := by
  refine met_i [.ref (gA G 72), .int p1, .int p2] wX11_of.2.2.2.2.2 (Nat.le_of_ble_eq_true rfl) ?_
  intro p e s m args below meth c ls hC hr hP hl
  have hC : Cx G p s m args meth c cX11_of RX11 3 := hC
  have hx := hC.1
  have hb := hC.2.1
  have hown := hC.2.2.2.1
  have hts := hC.2.2.2.2.1
  have hS : va_S (lwA G) s.heap s.heap [] := va_S.rf
  have hl : lv_has ls 3 [(0, .ref (gA G 72)), (1, .int p1), (2, .int p2)] := hl
  unfold fX11_of at h
  refine lv_aload_n hx hb dX11_of_0 rfl (lv_at hl 0 rfl) ?_
  refine lv_iload_n hx hb dX11_of_1 rfl (lv_at hl 1 rfl) ?_
  refine rc_i hS (run_V hC wX11_isHead k1297 (e_72 G _) rfl hP hS (As := [.int p1]) (rest := []) (mX11_isHead l G Cm rfl) rfl hl.1 (Nat.le_of_ble_eq_true rfl) ⟨by decide, by decide⟩ ⟨Nat.le_refl _, Nat.le_refl _⟩ rfl dX11_of_2) (fun H locs pb2 hP hS => ?_)
  refine lv_if_ne (tgt := 10) hx hb dX11_of_5 (by decide) (fun c3 => ?_) (fun c3 => ?_)
  · replace h := it_f c3 h
    refine lv_iload_n hx hb dX11_of_10 rfl (lv_at hl 2 rfl) ?_
    refine lv_i2l hx hb dX11_of_11 rfl ?_
    refine lv_lconst (v := 0) hx hb dX11_of_12 (by decide) ?_
    refine lv_ldc2 hx hb (v := 4) hown (hts _ k1228) dX11_of_13 ?_
    refine rc_i hS (run_S hC wX11_within k1229 hP hS (As := [.long (Int32.toInt64 p2), .long 0, .long 4]) (rest := []) (mX11_within l G Cm rfl) rfl hl.1 (Nat.le_of_ble_eq_true rfl) ⟨by decide, by decide⟩ ⟨Nat.le_refl _, Nat.le_refl _⟩ rfl dX11_of_16) (fun H locs pb5 hP hS => ?_)
    refine lv_if_eq (tgt := 35) hx hb dX11_of_19 (by decide) (fun c6 => ?_) (fun c6 => ?_)
    · replace h := it_t c6 h
      refine lv_iload_n hx hb dX11_of_35 rfl (lv_at hl 2 rfl) ?_
      refine lv_iconst (v := 5) hx hb dX11_of_36 (by decide) ?_
      refine lv_icmp_ne (tgt := 48) hx hb dX11_of_37 (by decide) (fun c7 => ?_) (fun c7 => ?_)
      · replace h := it_f c7 h
        refine lv_iconst (v := (-1)) hx hb dX11_of_48 (by decide) ?_
        exact re_i' hC hr hP hS (Option.some.inj h) rfl dX11_of_49
      · replace h := it_t c7 h
        refine lv_aload_n hx hb dX11_of_40 rfl (lv_at hl 0 rfl) ?_
        refine lv_iload_n hx hb dX11_of_41 rfl (lv_at hl 1 rfl) ?_
        obtain ⟨r9, hq8, h⟩ := bn_x h
        refine rc_i hS (run_V hC wX11_learntOf k1301 (e_72 G _) rfl hP hS (As := [.int p1]) (rest := []) (mX11_learntOf l G Cm hq8) rfl hl.1 (Nat.le_of_ble_eq_true rfl) ⟨by decide, by decide⟩ ⟨Nat.le_refl _, Nat.le_refl _⟩ rfl dX11_of_42) (fun H locs pb10 hP hS => ?_)
        refine lv_goto (tgt := 49) hx hb dX11_of_45 (by decide) ?_
        exact re_i' hC hr hP hS (Option.some.inj h) rfl dX11_of_49
    · replace h := it_f c6 h
      refine lv_aload_n hx hb dX11_of_22 rfl (lv_at hl 0 rfl) ?_
      refine r_get (v := .ref (gA G 73)) hC inX11 hP (e_72 G _) rfl 0 (by decide) rfl k1050 rfl dX11_of_23 ?_
      refine lv_iconst (v := 5) hx hb dX11_of_26 (by decide) ?_
      refine lv_iload_n hx hb dX11_of_27 rfl (lv_at hl 1 rfl) ?_
      refine lv_imul hx hb dX11_of_28 ?_
      refine lv_iload_n hx hb dX11_of_29 rfl (lv_at hl 2 rfl) ?_
      refine lv_iadd hx hb dX11_of_30 ?_
      by_cases c11 : ((5 * p1) + p2) < (0 : Int32) ∨ 30 ≤ Int32.toNatClampNeg ((5 * p1) + p2)
      · cases it_t c11 h
      replace h := it_f c11 h
      refine r_iald hC hP (f := C.1 73) (e_73 G _) c11 dX11_of_31 ?_
      refine lv_goto (tgt := 49) hx hb dX11_of_32 (by decide) ?_
      exact re_i' hC hr hP hS (Option.some.inj h) rfl dX11_of_49
  · replace h := it_t c3 h
    refine lv_iconst (v := (-1)) hx hb dX11_of_8 (by decide) ?_
    exact re_i' hC hr hP hS (Option.some.inj h) rfl dX11_of_9
set_option maxHeartbeats 4000000 in
set_option maxRecDepth 100000 in
theorem mX11_turn (l : Launch) (G : gp) (Cm : Mm) {n : Nat} {p1 : Int32} {p2 : Int32} {p3 : Int32} {C : Mm} {r0 : Int32} {C0 : Mm} (h : fX11_turn n p1 p2 p3 C = some (r0, C0)) : Met l yX11_turn (wsy yX11_turn cX11_turn 4 (some .int)) (rmv 2 46) (va_Pc [.ref (gA G 72), .int p1, .int p2, .int p3] (Rl G (Cm, C))) (Qi G PT r0 (Cm, C0)) 0 0 (lwA G) := by
  refine met_i [.ref (gA G 72), .int p1, .int p2, .int p3] wX11_turn.2.2.2.2.2 (Nat.le_of_ble_eq_true rfl) ?_
  intro p e s m args below meth c ls hC hr hP hl
  have hC : Cx G p s m args meth c cX11_turn RX11 4 := hC
  have hx := hC.1
  have hb := hC.2.1
  have hown := hC.2.2.2.1
  have hts := hC.2.2.2.2.1
  have hS : va_S (lwA G) s.heap s.heap [] := va_S.rf
  have hl : lv_has ls 4 [(0, .ref (gA G 72)), (1, .int p1), (2, .int p2), (3, .int p3)] := hl
  unfold fX11_turn at h
  refine lv_aload_n hx hb dX11_turn_0 rfl (lv_at hl 0 rfl) ?_
  refine lv_iload_n hx hb dX11_turn_1 rfl (lv_at hl 1 rfl) ?_
  refine rc_i hS (run_V hC wX11_isHead k1297 (e_72 G _) rfl hP hS (As := [.int p1]) (rest := []) (mX11_isHead l G Cm rfl) rfl hl.1 (Nat.le_of_ble_eq_true rfl) ⟨by decide, by decide⟩ ⟨Nat.le_refl _, Nat.le_refl _⟩ rfl dX11_turn_2) (fun H locs pb2 hP hS => ?_)
  refine lv_if_eq (tgt := 41) hx hb dX11_turn_5 (by decide) (fun c3 => ?_) (fun c3 => ?_)
  · replace h := it_t c3 h
    refine lv_iconst (v := (-1)) hx hb dX11_turn_41 (by decide) ?_
    exact re_i' hC hr hP hS (pr_1 h) (congrArg (fun Z : Mm => (Cm, Z)) (pr_2 h)) dX11_turn_42
  · replace h := it_f c3 h
    refine lv_iload_n hx hb dX11_turn_8 rfl (lv_at hl 2 rfl) ?_
    refine lv_i2l hx hb dX11_turn_9 rfl ?_
    refine lv_lconst (v := 0) hx hb dX11_turn_10 (by decide) ?_
    refine lv_ldc2 hx hb (v := 4) hown (hts _ k1228) dX11_turn_11 ?_
    refine rc_i hS (run_S hC wX11_within k1229 hP hS (As := [.long (Int32.toInt64 p2), .long 0, .long 4]) (rest := []) (mX11_within l G Cm rfl) rfl hl.1 (Nat.le_of_ble_eq_true rfl) ⟨by decide, by decide⟩ ⟨Nat.le_refl _, Nat.le_refl _⟩ rfl dX11_turn_14) (fun H locs pb5 hP hS => ?_)
    refine lv_if_eq (tgt := 41) hx hb dX11_turn_17 (by decide) (fun c6 => ?_) (fun c6 => ?_)
    · replace h := it_t c6 h
      refine lv_iconst (v := (-1)) hx hb dX11_turn_41 (by decide) ?_
      exact re_i' hC hr hP hS (pr_1 h) (congrArg (fun Z : Mm => (Cm, Z)) (pr_2 h)) dX11_turn_42
    · replace h := it_f c6 h
      refine lv_iload_n hx hb dX11_turn_20 rfl (lv_at hl 2 rfl) ?_
      refine lv_iload_n hx hb dX11_turn_21 rfl (lv_at hl 3 rfl) ?_
      refine rc_i hS (run_S hC wX11_isOf k1287 hP hS (As := [.int p2, .int p3]) (rest := []) (mX11_isOf l G Cm rfl) rfl hl.1 (Nat.le_of_ble_eq_true rfl) ⟨by decide, by decide⟩ ⟨Nat.le_refl _, Nat.le_refl _⟩ rfl dX11_turn_22) (fun H locs pb8 hP hS => ?_)
      refine lv_if_eq (tgt := 41) hx hb dX11_turn_25 (by decide) (fun c9 => ?_) (fun c9 => ?_)
      · replace h := it_t c9 h
        refine lv_iconst (v := (-1)) hx hb dX11_turn_41 (by decide) ?_
        exact re_i' hC hr hP hS (pr_1 h) (congrArg (fun Z : Mm => (Cm, Z)) (pr_2 h)) dX11_turn_42
      · replace h := it_f c9 h
        refine lv_aload_n hx hb dX11_turn_28 rfl (lv_at hl 0 rfl) ?_
        refine lv_iconst (v := 5) hx hb dX11_turn_29 (by decide) ?_
        refine lv_iload_n hx hb dX11_turn_30 rfl (lv_at hl 1 rfl) ?_
        refine lv_imul hx hb dX11_turn_31 ?_
        refine lv_iload_n hx hb dX11_turn_32 rfl (lv_at hl 2 rfl) ?_
        refine lv_iadd hx hb dX11_turn_33 ?_
        refine lv_iload_n hx hb dX11_turn_34 rfl (lv_at hl 3 rfl) ?_
        obtain ⟨r11, C12, hq10, h⟩ := bp_x h
        refine rc_i hS (run_V hC wX11_becomes k1309 (e_72 G _) rfl hP hS (As := [.int ((5 * p1) + p2), .int p3]) (rest := []) (mX11_becomes l G Cm hq10) rfl hl.1 (Nat.le_of_ble_eq_true rfl) ⟨by decide, by decide⟩ ⟨Nat.le_refl _, Nat.le_refl _⟩ rfl dX11_turn_35) (fun H locs pb13 hP hS => ?_)
        refine lv_goto (tgt := 42) hx hb dX11_turn_38 (by decide) ?_
        exact re_i' hC hr hP hS (pr_1 h) (congrArg (fun Z : Mm => (Cm, Z)) (pr_2 h)) dX11_turn_42
set_option maxHeartbeats 4000000 in
set_option maxRecDepth 100000 in
theorem mX11_isAsk (l : Launch) (G : gp) (Cm : Mm) {p0 : Int32} {C : Mm} {r0 : Int32} (h : fX11_isAsk p0 = r0) : Met l yX11_isAsk (wsy yX11_isAsk cX11_isAsk 1 (some .boolean)) (rmv 1 25) (va_Pc [.int p0] (Rl G (Cm, C))) (Qi G PZ r0 (Cm, C)) 0 0 (lwA G) := by
  refine met_i [.int p0] wX11_isAsk.2.2.2.2 (Nat.le_of_ble_eq_true rfl) ?_
  intro p e s m args below meth c ls hC hr hP hl
  have hC : Cx G p s m args meth c cX11_isAsk RX11 1 := hC
  have hx := hC.1
  have hb := hC.2.1
  have hown := hC.2.2.2.1
  have hts := hC.2.2.2.2.1
  have hS : va_S (lwA G) s.heap s.heap [] := va_S.rf
  have hl : lv_has ls 1 [(0, .int p0)] := hl
  unfold fX11_isAsk at h
  refine lv_iload_n hx hb dX11_isAsk_0 rfl (lv_at hl 0 rfl) ?_
  refine lv_if_lt (tgt := 40) hx hb dX11_isAsk_1 (by decide) (fun c1 => ?_) (fun c1 => ?_)
  · replace h := it_t c1 h
    refine lv_iconst (v := 0) hx hb dX11_isAsk_40 (by decide) ?_
    exact re_z' hC hr hP hS PZ0 h rfl dX11_isAsk_41
  · replace h := it_f c1 h
    refine lv_iload_n hx hb dX11_isAsk_4 rfl (lv_at hl 0 rfl) ?_
    refine lv_sipush (v := 10000) hx hb dX11_isAsk_5 (by decide) ?_
    refine lv_idiv hx hb dX11_isAsk_8 (by decide) ?_
    refine lv_i2l hx hb dX11_isAsk_9 rfl ?_
    refine lv_lconst (v := 1) hx hb dX11_isAsk_10 (by decide) ?_
    refine lv_ldc2 hx hb (v := 9999) hown (hts _ k1320) dX11_isAsk_11 ?_
    refine rc_i hS (run_S hC wX11_within k1229 hP hS (As := [.long (Int32.toInt64 (p0 / 10000)), .long 1, .long 9999]) (rest := []) (mX11_within l G Cm rfl) rfl hl.1 (Nat.le_of_ble_eq_true rfl) ⟨by decide, by decide⟩ ⟨Nat.le_refl _, Nat.le_refl _⟩ rfl dX11_isAsk_14) (fun H locs pb3 hP hS => ?_)
    refine lv_if_eq (tgt := 40) hx hb dX11_isAsk_17 (by decide) (fun c4 => ?_) (fun c4 => ?_)
    · replace h := it_t c4 h
      refine lv_iconst (v := 0) hx hb dX11_isAsk_40 (by decide) ?_
      exact re_z' hC hr hP hS PZ0 h rfl dX11_isAsk_41
    · replace h := it_f c4 h
      refine lv_iload_n hx hb dX11_isAsk_20 rfl (lv_at hl 0 rfl) ?_
      refine lv_sipush (v := 10000) hx hb dX11_isAsk_21 (by decide) ?_
      refine r_irem hx hb dX11_isAsk_24 (by decide) ?_
      refine lv_i2l hx hb dX11_isAsk_25 rfl ?_
      refine lv_lconst (v := 1) hx hb dX11_isAsk_26 (by decide) ?_
      refine lv_ldc2 hx hb (v := 9999) hown (hts _ k1320) dX11_isAsk_27 ?_
      refine rc_i hS (run_S hC wX11_within k1229 hP hS (As := [.long (Int32.toInt64 (irm p0 10000)), .long 1, .long 9999]) (rest := []) (mX11_within l G Cm rfl) rfl hl.1 (Nat.le_of_ble_eq_true rfl) ⟨by decide, by decide⟩ ⟨Nat.le_refl _, Nat.le_refl _⟩ rfl dX11_isAsk_30) (fun H locs pb6 hP hS => ?_)
      refine lv_if_eq (tgt := 40) hx hb dX11_isAsk_33 (by decide) (fun c7 => ?_) (fun c7 => ?_)
      · replace h := it_t c7 h
        refine lv_iconst (v := 0) hx hb dX11_isAsk_40 (by decide) ?_
        exact re_z' hC hr hP hS PZ0 h rfl dX11_isAsk_41
      · replace h := it_f c7 h
        refine lv_iconst (v := 1) hx hb dX11_isAsk_36 (by decide) ?_
        refine lv_goto (tgt := 41) hx hb dX11_isAsk_37 (by decide) ?_
        exact re_z' hC hr hP hS PZ1 h rfl dX11_isAsk_41
set_option maxHeartbeats 4000000 in
set_option maxRecDepth 100000 in
theorem mX11_isSmall (l : Launch) (G : gp) (Cm : Mm) {p0 : Int32} {C : Mm} {r0 : Int32} (h : fX11_isSmall p0 = r0) : Met l yX11_isSmall (wsy yX11_isSmall cX11_isSmall 1 (some .boolean)) (rmv 0 0) (va_Pc [.int p0] (Rl G (Cm, C))) (Qi G PZ r0 (Cm, C)) 0 0 (lwA G) := by
  refine met_i [.int p0] wX11_isSmall.2.2.2.2 (Nat.le_of_ble_eq_true rfl) ?_
  intro p e s m args below meth c ls hC hr hP hl
  have hC : Cx G p s m args meth c cX11_isSmall RX11 1 := hC
  have hx := hC.1
  have hb := hC.2.1
  have hown := hC.2.2.2.1
  have hts := hC.2.2.2.2.1
  have hS : va_S (lwA G) s.heap s.heap [] := va_S.rf
  have hl : lv_has ls 1 [(0, .int p0)] := hl
  unfold fX11_isSmall at h
  refine lv_iload_n hx hb dX11_isSmall_0 rfl (lv_at hl 0 rfl) ?_
  refine lv_sipush (v := 10000) hx hb dX11_isSmall_1 (by decide) ?_
  refine lv_idiv hx hb dX11_isSmall_4 (by decide) ?_
  refine lv_bipush (v := 99) hx hb dX11_isSmall_5 (by decide) ?_
  refine lv_icmp_gt (tgt := 24) hx hb dX11_isSmall_7 (by decide) (fun c1 => ?_) (fun c1 => ?_)
  · replace h := it_t c1 h
    refine lv_iconst (v := 0) hx hb dX11_isSmall_24 (by decide) ?_
    exact re_z' hC hr hP hS PZ0 h rfl dX11_isSmall_25
  · replace h := it_f c1 h
    refine lv_iload_n hx hb dX11_isSmall_10 rfl (lv_at hl 0 rfl) ?_
    refine lv_sipush (v := 10000) hx hb dX11_isSmall_11 (by decide) ?_
    refine r_irem hx hb dX11_isSmall_14 (by decide) ?_
    refine lv_bipush (v := 99) hx hb dX11_isSmall_15 (by decide) ?_
    refine lv_icmp_gt (tgt := 24) hx hb dX11_isSmall_17 (by decide) (fun c2 => ?_) (fun c2 => ?_)
    · replace h := it_t c2 h
      refine lv_iconst (v := 0) hx hb dX11_isSmall_24 (by decide) ?_
      exact re_z' hC hr hP hS PZ0 h rfl dX11_isSmall_25
    · replace h := it_f c2 h
      refine lv_iconst (v := 1) hx hb dX11_isSmall_20 (by decide) ?_
      refine lv_goto (tgt := 25) hx hb dX11_isSmall_21 (by decide) ?_
      exact re_z' hC hr hP hS PZ1 h rfl dX11_isSmall_25
set_option maxHeartbeats 4000000 in
set_option maxRecDepth 100000 in
theorem mX11_asPair (l : Launch) (G : gp) (Cm : Mm) {p0 : Int32} {C : Mm} {r0 : Int32} (h : fX11_asPair p0 = r0) : Met l yX11_asPair (wsy yX11_asPair cX11_asPair 3 (some .int)) (rmv 0 0) (va_Pc [.int p0] (Rl G (Cm, C))) (Qi G PT r0 (Cm, C)) 0 0 (lwA G) := by
  refine met_i [.int p0] wX11_asPair.2.2.2.2 (Nat.le_of_ble_eq_true rfl) ?_
  intro p e s m args below meth c ls hC hr hP hl
  have hC : Cx G p s m args meth c cX11_asPair RX11 3 := hC
  have hx := hC.1
  have hb := hC.2.1
  have hown := hC.2.2.2.1
  have hts := hC.2.2.2.2.1
  have hS : va_S (lwA G) s.heap s.heap [] := va_S.rf
  have hl : lv_has ls 3 [(0, .int p0)] := hl
  unfold fX11_asPair at h
  refine lv_iload_n hx hb dX11_asPair_0 rfl (lv_at hl 0 rfl) ?_
  refine lv_sipush (v := 10000) hx hb dX11_asPair_1 (by decide) ?_
  refine lv_idiv hx hb dX11_asPair_4 (by decide) ?_
  refine lv_topi (fun x1 ex1 => ?_)
  replace h := lt_y ex1 h
  refine lv_istore_n (lv' := [(1, .int x1), (0, .int p0)]) hx hb dX11_asPair_5 rfl hl (by decide) rfl (fun ls hl => ?_)
  refine lv_iload_n hx hb dX11_asPair_6 rfl (lv_at hl 1 rfl) ?_
  refine lv_sipush (v := 10000) hx hb dX11_asPair_7 (by decide) ?_
  refine r_irem hx hb dX11_asPair_10 (by decide) ?_
  refine lv_topi (fun x2 ex2 => ?_)
  replace h := lt_y ex2 h
  refine lv_istore_n (lv' := [(2, .int x2), (1, .int x1), (0, .int p0)]) hx hb dX11_asPair_11 rfl hl (by decide) rfl (fun ls hl => ?_)
  refine lv_iload_n hx hb dX11_asPair_12 rfl (lv_at hl 1 rfl) ?_
  refine lv_iload_n hx hb dX11_asPair_13 rfl (lv_at hl 0 rfl) ?_
  refine lv_icmp_ge (tgt := 26) hx hb dX11_asPair_14 (by decide) (fun c3 => ?_) (fun c3 => ?_)
  · replace h := it_t c3 h
    refine lv_bipush (v := 100) hx hb dX11_asPair_26 (by decide) ?_
    refine lv_iload_n hx hb dX11_asPair_28 rfl (lv_at hl 0 rfl) ?_
    refine lv_imul hx hb dX11_asPair_29 ?_
    refine lv_iload_n hx hb dX11_asPair_30 rfl (lv_at hl 1 rfl) ?_
    refine lv_iadd hx hb dX11_asPair_31 ?_
    exact re_i' hC hr hP hS h rfl dX11_asPair_32
  · replace h := it_f c3 h
    refine lv_bipush (v := 100) hx hb dX11_asPair_17 (by decide) ?_
    refine lv_iload_n hx hb dX11_asPair_19 rfl (lv_at hl 1 rfl) ?_
    refine lv_imul hx hb dX11_asPair_20 ?_
    refine lv_iload_n hx hb dX11_asPair_21 rfl (lv_at hl 0 rfl) ?_
    refine lv_iadd hx hb dX11_asPair_22 ?_
    refine lv_goto (tgt := 32) hx hb dX11_asPair_23 (by decide) ?_
    exact re_i' hC hr hP hS h rfl dX11_asPair_32
set_option maxHeartbeats 4000000 in
set_option maxRecDepth 100000 in
theorem mX11_pairAt (l : Launch) (G : gp) (Cm : Mm) {n : Nat} {p1 : Int32} {p2 : Int32} {C : Mm} {r0 : Int32} (h : fX11_pairAt n p1 p2 C = some r0) : Met l yX11_pairAt (wsy yX11_pairAt cX11_pairAt 4 (some .int)) (rmv 1 22) (va_Pc [.ref (gA G 72), .int p1, .int p2] (Rl G (Cm, C))) (Qi G PT r0 (Cm, C)) 0 0 (lwA G) := by
  refine met_i [.ref (gA G 72), .int p1, .int p2] wX11_pairAt.2.2.2.2.2 (Nat.le_of_ble_eq_true rfl) ?_
  intro p e s m args below meth c ls hC hr hP hl
  have hC : Cx G p s m args meth c cX11_pairAt RX11 4 := hC
  have hx := hC.1
  have hb := hC.2.1
  have hown := hC.2.2.2.1
  have hts := hC.2.2.2.2.1
  have hS : va_S (lwA G) s.heap s.heap [] := va_S.rf
  have hl : lv_has ls 4 [(0, .ref (gA G 72)), (1, .int p1), (2, .int p2)] := hl
  have bl2 : ∀ (fu : Nat), ∀ (y1 : Int32) (y2 : Int32) (y3 : Int32) (C : Mm) (H : Heap) (locs : List Loc) (ls : Array Slot), fX11_pairAt_h2 n fu y1 y2 y3 C = some r0 → lv_has ls 4 [(0, .ref (gA G 72)), (1, .int y1), (2, .int y2), (3, .int y3)] → va_P (gD G) vwCl (wld G (Cm, C)) H → va_S (lwA G) s.heap H locs → W p l e (rmv 1 22) s m args below meth c H locs 0 0 (MQ below (Qi G PT r0 (Cm, C)) args s 0 0 (lwA G)) (F0 m 2 ls []) := by
    intro fu
    induction fu with
    | zero =>
      intro y1 y2 y3 C H locs ls h hl hP hS
      rw [fX11_pairAt_h2.eq_1] at h
      cases h
    | succ fu ih =>
      intro y1 y2 y3 C H locs ls h hl hP hS
      rw [fX11_pairAt_h2.eq_2] at h
      refine lv_iload_n hx hb dX11_pairAt_2 rfl (lv_at hl 3 rfl) ?_
      refine lv_aload_n hx hb dX11_pairAt_3 rfl (lv_at hl 0 rfl) ?_
      refine r_get (v := .ref (gA G 81)) hC inX11 hP (e_72 G _) rfl 18 (by decide) rfl k1068 rfl dX11_pairAt_4 ?_
      refine lv_iload_n hx hb dX11_pairAt_7 rfl (lv_at hl 1 rfl) ?_
      by_cases c1 : y1 < (0 : Int32) ∨ 6 ≤ Int32.toNatClampNeg y1
      · cases it_t c1 h
      replace h := it_f c1 h
      refine r_iald hC hP (f := C.1 81) (e_81 G _) c1 dX11_pairAt_8 ?_
      refine lv_icmp_ge (tgt := 38) hx hb dX11_pairAt_9 (by decide) (fun c2 => ?_) (fun c2 => ?_)
      · replace h := it_t c2 h
        refine lv_iconst (v := (-1)) hx hb dX11_pairAt_38 (by decide) ?_
        exact re_i' hC hr hP hS (Option.some.inj h) rfl dX11_pairAt_39
      · replace h := it_f c2 h
        refine lv_aload_n hx hb dX11_pairAt_12 rfl (lv_at hl 0 rfl) ?_
        refine r_get (v := .ref (gA G 82)) hC inX11 hP (e_72 G _) rfl 19 (by decide) rfl k1069 rfl dX11_pairAt_13 ?_
        refine lv_bipush (v := 60) hx hb dX11_pairAt_16 (by decide) ?_
        refine lv_iload_n hx hb dX11_pairAt_18 rfl (lv_at hl 1 rfl) ?_
        refine lv_imul hx hb dX11_pairAt_19 ?_
        refine lv_iload_n hx hb dX11_pairAt_20 rfl (lv_at hl 3 rfl) ?_
        refine lv_iadd hx hb dX11_pairAt_21 ?_
        by_cases c3 : ((60 * y1) + y3) < (0 : Int32) ∨ 360 ≤ Int32.toNatClampNeg ((60 * y1) + y3)
        · cases it_t c3 h
        replace h := it_f c3 h
        refine r_iald hC hP (f := C.1 82) (e_82 G _) c3 dX11_pairAt_22 ?_
        refine lv_iload_n hx hb dX11_pairAt_23 rfl (lv_at hl 2 rfl) ?_
        refine rc_i hS (run_S hC wX11_asPair k1332 hP hS (As := [.int y2]) (rest := [.int (C.1 82 (Int32.toNatClampNeg ((60 * y1) + y3)))]) (mX11_asPair l G Cm rfl) rfl hl.1 (Nat.le_of_ble_eq_true rfl) ⟨by decide, by decide⟩ ⟨Nat.le_refl _, Nat.le_refl _⟩ rfl dX11_pairAt_24) (fun H locs pb5 hP hS => ?_)
        refine lv_icmp_ne (tgt := 32) hx hb dX11_pairAt_27 (by decide) (fun c6 => ?_) (fun c6 => ?_)
        · replace h := it_f c6 h
          obtain ⟨x7, ex7⟩ : ∃ y : Int32, y = y3 + 1 := ⟨_, rfl⟩
          replace h := lt_y ex7 h
          refine lv_iinc (v := x7) (lv' := [(3, .int x7), (0, .ref (gA G 72)), (1, .int y1), (2, .int y2)]) hx hb dX11_pairAt_32 hl (k := 3) rfl (by rw [ex7]; rfl) (by decide) rfl (fun ls hl => ?_)
          refine lv_goto (tgt := 2) hx hb dX11_pairAt_35 (by decide) ?_
          exact ih y1 y2 x7 C _ _ _ h (lv_sub hl [1, 2, 3, 0] rfl) hP hS
        · replace h := it_t c6 h
          refine lv_iload_n hx hb dX11_pairAt_30 rfl (lv_at hl 3 rfl) ?_
          exact re_i' hC hr hP hS (Option.some.inj h) rfl dX11_pairAt_31
  unfold fX11_pairAt at h
  refine lv_iconst (v := 0) hx hb dX11_pairAt_0 (by decide) ?_
  refine lv_istore_n (lv' := [(3, .int 0), (0, .ref (gA G 72)), (1, .int p1), (2, .int p2)]) hx hb dX11_pairAt_1 rfl hl (by decide) rfl (fun ls hl => ?_)
  exact bl2 n p1 p2 0 C _ _ _ h (lv_sub hl [1, 2, 3, 0] rfl) hP hS
set_option maxHeartbeats 4000000 in
set_option maxRecDepth 100000 in
theorem mX11_isLearnt (l : Launch) (G : gp) (Cm : Mm) {n : Nat} {p1 : Int32} {p2 : Int32} {C : Mm} {r0 : Int32} (h : fX11_isLearnt n p1 p2 C = some r0) : Met l yX11_isLearnt (wsy yX11_isLearnt cX11_isLearnt 4 (some .boolean)) (rmv 2 45) (va_Pc [.ref (gA G 72), .int p1, .int p2] (Rl G (Cm, C))) (Qi G PZ r0 (Cm, C)) 0 0 (lwA G) := by
  refine met_i [.ref (gA G 72), .int p1, .int p2] wX11_isLearnt.2.2.2.2.2 (Nat.le_of_ble_eq_true rfl) ?_
  intro p e s m args below meth c ls hC hr hP hl
  have hC : Cx G p s m args meth c cX11_isLearnt RX11 4 := hC
  have hx := hC.1
  have hb := hC.2.1
  have hown := hC.2.2.2.1
  have hts := hC.2.2.2.2.1
  have hS : va_S (lwA G) s.heap s.heap [] := va_S.rf
  have hl : lv_has ls 4 [(0, .ref (gA G 72)), (1, .int p1), (2, .int p2)] := hl
  have bl17 : ∀ (y1 : Int32) (s0 : Int32) (C : Mm) (H : Heap) (locs : List Loc) (ls : Array Slot), fX11_isLearnt_b17 n y1 s0 C = some r0 → lv_has ls 4 [(0, .ref (gA G 72)), (1, .int y1)] → va_P (gD G) vwCl (wld G (Cm, C)) H → va_S (lwA G) s.heap H locs → W p l e (rmv 2 45) s m args below meth c H locs 0 0 (MQ below (Qi G PZ r0 (Cm, C)) args s 0 0 (lwA G)) (F0 m 17 ls [.int s0]) := by
    intro y1 s0 C H locs ls h hl hP hS
    unfold fX11_isLearnt_b17 at h
    refine lv_istore_n (lv' := [(3, .int s0), (0, .ref (gA G 72)), (1, .int y1)]) hx hb dX11_isLearnt_17 rfl hl (by decide) rfl (fun ls hl => ?_)
    refine lv_iload_n hx hb dX11_isLearnt_18 rfl (lv_at hl 0 rfl) ?_
    refine lv_if_lt (tgt := 41) hx hb dX11_isLearnt_19 (by decide) (fun c1 => ?_) (fun c1 => ?_)
    · replace h := it_t c1 h
      refine lv_iconst (v := 0) hx hb dX11_isLearnt_41 (by decide) ?_
      exact re_z' hC hr hP hS PZ0 (Option.some.inj h) rfl dX11_isLearnt_42
    · replace h := it_f c1 h
      refine lv_aload_n hx hb dX11_isLearnt_22 rfl (lv_at hl 1 rfl) ?_
      refine r_get (v := .ref (gA G 83)) hC inX11 hP (e_72 G _) rfl 20 (by decide) rfl k1070 rfl dX11_isLearnt_23 ?_
      refine lv_bipush (v := 60) hx hb dX11_isLearnt_26 (by decide) ?_
      refine lv_iload_n hx hb dX11_isLearnt_28 rfl (lv_at hl 2 rfl) ?_
      refine lv_imul hx hb dX11_isLearnt_29 ?_
      refine lv_iload_n hx hb dX11_isLearnt_30 rfl (lv_at hl 0 rfl) ?_
      refine lv_iadd hx hb dX11_isLearnt_31 ?_
      by_cases c2 : ((60 * y1) + s0) < (0 : Int32) ∨ 360 ≤ Int32.toNatClampNeg ((60 * y1) + s0)
      · cases it_t c2 h
      replace h := it_f c2 h
      refine r_iald hC hP (f := C.1 83) (e_83 G _) c2 dX11_isLearnt_32 ?_
      refine lv_iconst (v := 3) hx hb dX11_isLearnt_33 (by decide) ?_
      refine lv_icmp_lt (tgt := 41) hx hb dX11_isLearnt_34 (by decide) (fun c3 => ?_) (fun c3 => ?_)
      · replace h := it_t c3 h
        refine lv_iconst (v := 0) hx hb dX11_isLearnt_41 (by decide) ?_
        exact re_z' hC hr hP hS PZ0 (Option.some.inj h) rfl dX11_isLearnt_42
      · replace h := it_f c3 h
        refine lv_iconst (v := 1) hx hb dX11_isLearnt_37 (by decide) ?_
        refine lv_goto (tgt := 42) hx hb dX11_isLearnt_38 (by decide) ?_
        exact re_z' hC hr hP hS PZ1 (Option.some.inj h) rfl dX11_isLearnt_42
  unfold fX11_isLearnt at h
  refine lv_iload_n hx hb dX11_isLearnt_0 rfl (lv_at hl 2 rfl) ?_
  refine rc_i hS (run_S hC wX11_isSmall k1325 hP hS (As := [.int p2]) (rest := []) (mX11_isSmall l G Cm rfl) rfl hl.1 (Nat.le_of_ble_eq_true rfl) ⟨by decide, by decide⟩ ⟨Nat.le_refl _, Nat.le_refl _⟩ rfl dX11_isLearnt_1) (fun H locs pb5 hP hS => ?_)
  refine lv_if_eq (tgt := 16) hx hb dX11_isLearnt_4 (by decide) (fun c6 => ?_) (fun c6 => ?_)
  · replace h := it_t c6 h
    refine lv_iconst (v := (-1)) hx hb dX11_isLearnt_16 (by decide) ?_
    exact bl17 p1 (-1) C _ _ _ h (lv_sub hl [0, 1] rfl) hP hS
  · replace h := it_f c6 h
    refine lv_aload_n hx hb dX11_isLearnt_7 rfl (lv_at hl 0 rfl) ?_
    refine lv_iload_n hx hb dX11_isLearnt_8 rfl (lv_at hl 1 rfl) ?_
    refine lv_iload_n hx hb dX11_isLearnt_9 rfl (lv_at hl 2 rfl) ?_
    obtain ⟨r8, hq7, h⟩ := bn_x h
    refine rc_i hS (run_V hC wX11_pairAt k1328 (e_72 G _) rfl hP hS (As := [.int p1, .int p2]) (rest := []) (mX11_pairAt l G Cm hq7) rfl hl.1 (Nat.le_of_ble_eq_true rfl) ⟨by decide, by decide⟩ ⟨Nat.le_refl _, Nat.le_refl _⟩ rfl dX11_isLearnt_10) (fun H locs pb9 hP hS => ?_)
    refine lv_goto (tgt := 17) hx hb dX11_isLearnt_13 (by decide) ?_
    exact bl17 p1 r8 C _ _ _ h (lv_sub hl [0, 1] rfl) hP hS
set_option maxHeartbeats 4000000 in
set_option maxRecDepth 100000 in
theorem mX11_askOf (l : Launch) (G : gp) (Cm : Mm) {n : Nat} {p1 : Int32} {p2 : Int32} {C : Mm} {r0 : Int32} {C0 : Mm} (h : fX11_askOf n p1 p2 C = some (r0, C0)) : Met l yX11_askOf (wsy yX11_askOf cX11_askOf 4 (some .int)) (rmv 2 45) (va_Pc [.ref (gA G 72), .int p1, .int p2] (Rl G (Cm, C))) (Qi G PT r0 (Cm, C0)) 0 0 (lwA G) := by
  refine met_i [.ref (gA G 72), .int p1, .int p2] wX11_askOf.2.2.2.2.2 (Nat.le_of_ble_eq_true rfl) ?_
  intro p e s m args below meth c ls hC hr hP hl
  have hC : Cx G p s m args meth c cX11_askOf RX11 4 := hC
  have hx := hC.1
  have hb := hC.2.1
  have hown := hC.2.2.2.1
  have hts := hC.2.2.2.2.1
  have hS : va_S (lwA G) s.heap s.heap [] := va_S.rf
  have hl : lv_has ls 4 [(0, .ref (gA G 72)), (1, .int p1), (2, .int p2)] := hl
  have bl81 : ∀ (y1 : Int32) (y3 : Int32) (C : Mm) (H : Heap) (locs : List Loc) (ls : Array Slot), fX11_askOf_b81 n y1 y3 C = some (r0, C0) → lv_has ls 4 [(0, .ref (gA G 72)), (1, .int y1), (3, .int y3)] → va_P (gD G) vwCl (wld G (Cm, C)) H → va_S (lwA G) s.heap H locs → W p l e (rmv 2 45) s m args below meth c H locs 0 0 (MQ below (Qi G PT r0 (Cm, C0)) args s 0 0 (lwA G)) (F0 m 81 ls []) := by
    intro y1 y3 C H locs ls h hl hP hS
    unfold fX11_askOf_b81 at h
    refine lv_aload_n hx hb dX11_askOf_81 rfl (lv_at hl 0 rfl) ?_
    refine r_get (v := .ref (gA G 83)) hC inX11 hP (e_72 G _) rfl 20 (by decide) rfl k1070 rfl dX11_askOf_82 ?_
    refine lv_bipush (v := 60) hx hb dX11_askOf_85 (by decide) ?_
    refine lv_iload_n hx hb dX11_askOf_87 rfl (lv_at hl 1 rfl) ?_
    refine lv_imul hx hb dX11_askOf_88 ?_
    refine lv_iload_n hx hb dX11_askOf_89 rfl (lv_at hl 2 rfl) ?_
    refine lv_iadd hx hb dX11_askOf_90 ?_
    refine lv_dup2_11 hx hb dX11_askOf_91 rfl rfl ?_
    by_cases c1 : ((60 * y1) + y3) < (0 : Int32) ∨ 360 ≤ Int32.toNatClampNeg ((60 * y1) + y3)
    · cases it_t c1 h
    replace h := it_f c1 h
    refine r_iald hC hP (f := C.1 83) (e_83 G _) c1 dX11_askOf_92 ?_
    refine lv_iconst (v := 1) hx hb dX11_askOf_93 (by decide) ?_
    refine lv_iadd hx hb dX11_askOf_94 ?_
    by_cases c2 : ((60 * y1) + y3) < (0 : Int32) ∨ 360 ≤ Int32.toNatClampNeg ((60 * y1) + y3)
    · cases it_t c2 h
    replace h := it_f c2 h
    obtain ⟨C3, eC3⟩ : ∃ Z : Mm, Z = wrI C 83 (Int32.toNatClampNeg ((60 * y1) + y3)) ((C.1 83 (Int32.toNatClampNeg ((60 * y1) + y3))) + 1) := ⟨_, rfl⟩
    replace h := lt_y eC3 h
    refine r_iast (X' := (Cm, C3)) hC hP hS (e_83 G _) c2 (a_83 G _ _ _ _ eC3) dX11_askOf_95 (fun H locs hP hS => ?_)
    refine lv_aload_n hx hb dX11_askOf_96 rfl (lv_at hl 0 rfl) ?_
    refine r_get (v := .ref (gA G 83)) hC inX11 hP (e_72 G _) rfl 20 (by decide) rfl k1070 rfl dX11_askOf_97 ?_
    refine lv_bipush (v := 60) hx hb dX11_askOf_100 (by decide) ?_
    refine lv_iload_n hx hb dX11_askOf_102 rfl (lv_at hl 1 rfl) ?_
    refine lv_imul hx hb dX11_askOf_103 ?_
    refine lv_iload_n hx hb dX11_askOf_104 rfl (lv_at hl 2 rfl) ?_
    refine lv_iadd hx hb dX11_askOf_105 ?_
    by_cases c4 : ((60 * y1) + y3) < (0 : Int32) ∨ 360 ≤ Int32.toNatClampNeg ((60 * y1) + y3)
    · cases it_t c4 h
    replace h := it_f c4 h
    refine r_iald hC hP (f := C3.1 83) (e_83 G _) c4 dX11_askOf_106 ?_
    exact re_i' hC hr hP hS (pr_1 h) (congrArg (fun Z : Mm => (Cm, Z)) (pr_2 h)) dX11_askOf_107
  have bl33 : ∀ (y1 : Int32) (y2 : Int32) (y3 : Int32) (C : Mm) (H : Heap) (locs : List Loc) (ls : Array Slot), fX11_askOf_b33 n y1 y2 y3 C = some (r0, C0) → lv_has ls 4 [(0, .ref (gA G 72)), (1, .int y1), (2, .int y2), (3, .int y3)] → va_P (gD G) vwCl (wld G (Cm, C)) H → va_S (lwA G) s.heap H locs → W p l e (rmv 2 45) s m args below meth c H locs 0 0 (MQ below (Qi G PT r0 (Cm, C0)) args s 0 0 (lwA G)) (F0 m 33 ls []) := by
    intro y1 y2 y3 C H locs ls h hl hP hS
    unfold fX11_askOf_b33 at h
    refine lv_iload_n hx hb dX11_askOf_33 rfl (lv_at hl 3 rfl) ?_
    refine lv_if_ge (tgt := 81) hx hb dX11_askOf_34 (by decide) (fun c5 => ?_) (fun c5 => ?_)
    · replace h := it_t c5 h
      exact bl81 y1 y3 C _ _ _ h (lv_sub hl [0, 1, 3] rfl) hP hS
    · replace h := it_f c5 h
      refine lv_aload_n hx hb dX11_askOf_37 rfl (lv_at hl 0 rfl) ?_
      refine r_get (v := .ref (gA G 81)) hC inX11 hP (e_72 G _) rfl 18 (by decide) rfl k1068 rfl dX11_askOf_38 ?_
      refine lv_iload_n hx hb dX11_askOf_41 rfl (lv_at hl 1 rfl) ?_
      by_cases c6 : y1 < (0 : Int32) ∨ 6 ≤ Int32.toNatClampNeg y1
      · cases it_t c6 h
      replace h := it_f c6 h
      refine r_iald hC hP (f := C.1 81) (e_81 G _) c6 dX11_askOf_42 ?_
      refine lv_topi (fun x7 ex7 => ?_)
      replace h := lt_y ex7 h
      refine lv_istore_n (lv' := [(3, .int x7), (0, .ref (gA G 72)), (1, .int y1), (2, .int y2)]) hx hb dX11_askOf_43 rfl hl (by decide) rfl (fun ls hl => ?_)
      refine lv_aload_n hx hb dX11_askOf_44 rfl (lv_at hl 1 rfl) ?_
      refine r_get (v := .ref (gA G 82)) hC inX11 hP (e_72 G _) rfl 19 (by decide) rfl k1069 rfl dX11_askOf_45 ?_
      refine lv_bipush (v := 60) hx hb dX11_askOf_48 (by decide) ?_
      refine lv_iload_n hx hb dX11_askOf_50 rfl (lv_at hl 2 rfl) ?_
      refine lv_imul hx hb dX11_askOf_51 ?_
      refine lv_iload_n hx hb dX11_askOf_52 rfl (lv_at hl 0 rfl) ?_
      refine lv_iadd hx hb dX11_askOf_53 ?_
      refine lv_iload_n hx hb dX11_askOf_54 rfl (lv_at hl 3 rfl) ?_
      refine rc_i hS (run_S hC wX11_asPair k1332 hP hS (As := [.int y2]) (rest := [.int ((60 * y1) + x7), .ref (gA G 82)]) (mX11_asPair l G Cm rfl) rfl hl.1 (Nat.le_of_ble_eq_true rfl) ⟨by decide, by decide⟩ ⟨Nat.le_refl _, Nat.le_refl _⟩ rfl dX11_askOf_55) (fun H locs pb9 hP hS => ?_)
      by_cases c10 : ((60 * y1) + x7) < (0 : Int32) ∨ 360 ≤ Int32.toNatClampNeg ((60 * y1) + x7)
      · cases it_t c10 h
      replace h := it_f c10 h
      obtain ⟨C11, eC11⟩ : ∃ Z : Mm, Z = wrI C 82 (Int32.toNatClampNeg ((60 * y1) + x7)) (fX11_asPair y2) := ⟨_, rfl⟩
      replace h := lt_y eC11 h
      refine r_iast (X' := (Cm, C11)) hC hP hS (e_82 G _) c10 (a_82 G _ _ _ _ eC11) dX11_askOf_58 (fun H locs hP hS => ?_)
      refine lv_aload_n hx hb dX11_askOf_59 rfl (lv_at hl 1 rfl) ?_
      refine r_get (v := .ref (gA G 83)) hC inX11 hP (e_72 G _) rfl 20 (by decide) rfl k1070 rfl dX11_askOf_60 ?_
      refine lv_bipush (v := 60) hx hb dX11_askOf_63 (by decide) ?_
      refine lv_iload_n hx hb dX11_askOf_65 rfl (lv_at hl 2 rfl) ?_
      refine lv_imul hx hb dX11_askOf_66 ?_
      refine lv_iload_n hx hb dX11_askOf_67 rfl (lv_at hl 0 rfl) ?_
      refine lv_iadd hx hb dX11_askOf_68 ?_
      refine lv_iconst (v := 0) hx hb dX11_askOf_69 (by decide) ?_
      by_cases c12 : ((60 * y1) + x7) < (0 : Int32) ∨ 360 ≤ Int32.toNatClampNeg ((60 * y1) + x7)
      · cases it_t c12 h
      replace h := it_f c12 h
      obtain ⟨C13, eC13⟩ : ∃ Z : Mm, Z = wrI C11 83 (Int32.toNatClampNeg ((60 * y1) + x7)) 0 := ⟨_, rfl⟩
      replace h := lt_y eC13 h
      refine r_iast (X' := (Cm, C13)) hC hP hS (e_83 G _) c12 (a_83 G _ _ _ _ eC13) dX11_askOf_70 (fun H locs hP hS => ?_)
      refine lv_aload_n hx hb dX11_askOf_71 rfl (lv_at hl 1 rfl) ?_
      refine r_get (v := .ref (gA G 81)) hC inX11 hP (e_72 G _) rfl 18 (by decide) rfl k1068 rfl dX11_askOf_72 ?_
      refine lv_iload_n hx hb dX11_askOf_75 rfl (lv_at hl 2 rfl) ?_
      refine lv_dup2_11 hx hb dX11_askOf_76 rfl rfl ?_
      by_cases c14 : y1 < (0 : Int32) ∨ 6 ≤ Int32.toNatClampNeg y1
      · cases it_t c14 h
      replace h := it_f c14 h
      refine r_iald hC hP (f := C13.1 81) (e_81 G _) c14 dX11_askOf_77 ?_
      refine lv_iconst (v := 1) hx hb dX11_askOf_78 (by decide) ?_
      refine lv_iadd hx hb dX11_askOf_79 ?_
      by_cases c15 : y1 < (0 : Int32) ∨ 6 ≤ Int32.toNatClampNeg y1
      · cases it_t c15 h
      replace h := it_f c15 h
      obtain ⟨C16, eC16⟩ : ∃ Z : Mm, Z = wrI C13 81 (Int32.toNatClampNeg y1) ((C13.1 81 (Int32.toNatClampNeg y1)) + 1) := ⟨_, rfl⟩
      replace h := lt_y eC16 h
      refine r_iast (X' := (Cm, C16)) hC hP hS (e_81 G _) c15 (a_81 G _ _ _ _ eC16) dX11_askOf_80 (fun H locs hP hS => ?_)
      exact bl81 y1 x7 C16 _ _ _ h (lv_sub hl [1, 2, 0] rfl) hP hS
  unfold fX11_askOf at h
  refine lv_iload_n hx hb dX11_askOf_0 rfl (lv_at hl 2 rfl) ?_
  refine rc_i hS (run_S hC wX11_isSmall k1325 hP hS (As := [.int p2]) (rest := []) (mX11_isSmall l G Cm rfl) rfl hl.1 (Nat.le_of_ble_eq_true rfl) ⟨by decide, by decide⟩ ⟨Nat.le_refl _, Nat.le_refl _⟩ rfl dX11_askOf_1) (fun H locs pb18 hP hS => ?_)
  refine lv_if_ne (tgt := 9) hx hb dX11_askOf_4 (by decide) (fun c19 => ?_) (fun c19 => ?_)
  · replace h := it_f c19 h
    refine lv_aload_n hx hb dX11_askOf_9 rfl (lv_at hl 0 rfl) ?_
    refine lv_iload_n hx hb dX11_askOf_10 rfl (lv_at hl 1 rfl) ?_
    refine lv_iload_n hx hb dX11_askOf_11 rfl (lv_at hl 2 rfl) ?_
    obtain ⟨r21, hq20, h⟩ := bn_x h
    refine rc_i hS (run_V hC wX11_pairAt k1328 (e_72 G _) rfl hP hS (As := [.int p1, .int p2]) (rest := []) (mX11_pairAt l G Cm hq20) rfl hl.1 (Nat.le_of_ble_eq_true rfl) ⟨by decide, by decide⟩ ⟨Nat.le_refl _, Nat.le_refl _⟩ rfl dX11_askOf_12) (fun H locs pb22 hP hS => ?_)
    refine lv_istore_n (lv' := [(3, .int r21), (0, .ref (gA G 72)), (1, .int p1), (2, .int p2)]) hx hb dX11_askOf_15 rfl hl (by decide) rfl (fun ls hl => ?_)
    refine lv_iload_n hx hb dX11_askOf_16 rfl (lv_at hl 0 rfl) ?_
    refine lv_if_ge (tgt := 33) hx hb dX11_askOf_17 (by decide) (fun c23 => ?_) (fun c23 => ?_)
    · replace h := it_t c23 h
      exact bl33 p1 p2 r21 C _ _ _ h (lv_sub hl [1, 2, 3, 0] rfl) hP hS
    · replace h := it_f c23 h
      refine lv_aload_n hx hb dX11_askOf_20 rfl (lv_at hl 1 rfl) ?_
      refine r_get (v := .ref (gA G 81)) hC inX11 hP (e_72 G _) rfl 18 (by decide) rfl k1068 rfl dX11_askOf_21 ?_
      refine lv_iload_n hx hb dX11_askOf_24 rfl (lv_at hl 2 rfl) ?_
      by_cases c24 : p1 < (0 : Int32) ∨ 6 ≤ Int32.toNatClampNeg p1
      · cases it_t c24 h
      replace h := it_f c24 h
      refine r_iald hC hP (f := C.1 81) (e_81 G _) c24 dX11_askOf_25 ?_
      refine lv_bipush (v := 60) hx hb dX11_askOf_26 (by decide) ?_
      refine lv_icmp_ne (tgt := 33) hx hb dX11_askOf_28 (by decide) (fun c25 => ?_) (fun c25 => ?_)
      · replace h := it_f c25 h
        exact bl33 p1 p2 r21 C _ _ _ h (lv_sub hl [1, 2, 3, 0] rfl) hP hS
      · replace h := it_t c25 h
        refine lv_iconst (v := 0) hx hb dX11_askOf_31 (by decide) ?_
        exact re_i' hC hr hP hS (pr_1 h) (congrArg (fun Z : Mm => (Cm, Z)) (pr_2 h)) dX11_askOf_32
  · replace h := it_t c19 h
    refine lv_iconst (v := 0) hx hb dX11_askOf_7 (by decide) ?_
    exact re_i' hC hr hP hS (pr_1 h) (congrArg (fun Z : Mm => (Cm, Z)) (pr_2 h)) dX11_askOf_8
set_option maxHeartbeats 4000000 in
set_option maxRecDepth 100000 in
theorem mX11_ask (l : Launch) (G : gp) (Cm : Mm) {n : Nat} {p1 : Int32} {p2 : Int32} {C : Mm} {r0 : Int32} {C0 : Mm} (h : fX11_ask n p1 p2 C = some (r0, C0)) : Met l yX11_ask (wsy yX11_ask cX11_ask 3 (some .int)) (rmv 3 68) (va_Pc [.ref (gA G 72), .int p1, .int p2] (Rl G (Cm, C))) (Qi G PT r0 (Cm, C0)) 0 0 (lwA G) := by
  refine met_i [.ref (gA G 72), .int p1, .int p2] wX11_ask.2.2.2.2.2 (Nat.le_of_ble_eq_true rfl) ?_
  intro p e s m args below meth c ls hC hr hP hl
  have hC : Cx G p s m args meth c cX11_ask RX11 3 := hC
  have hx := hC.1
  have hb := hC.2.1
  have hown := hC.2.2.2.1
  have hts := hC.2.2.2.2.1
  have hS : va_S (lwA G) s.heap s.heap [] := va_S.rf
  have hl : lv_has ls 3 [(0, .ref (gA G 72)), (1, .int p1), (2, .int p2)] := hl
  unfold fX11_ask at h
  refine lv_aload_n hx hb dX11_ask_0 rfl (lv_at hl 0 rfl) ?_
  refine lv_iload_n hx hb dX11_ask_1 rfl (lv_at hl 1 rfl) ?_
  refine rc_i hS (run_V hC wX11_isHead k1297 (e_72 G _) rfl hP hS (As := [.int p1]) (rest := []) (mX11_isHead l G Cm rfl) rfl hl.1 (Nat.le_of_ble_eq_true rfl) ⟨by decide, by decide⟩ ⟨Nat.le_refl _, Nat.le_refl _⟩ rfl dX11_ask_2) (fun H locs pb2 hP hS => ?_)
  refine lv_if_eq (tgt := 24) hx hb dX11_ask_5 (by decide) (fun c3 => ?_) (fun c3 => ?_)
  · replace h := it_t c3 h
    refine lv_iconst (v := (-1)) hx hb dX11_ask_24 (by decide) ?_
    exact re_i' hC hr hP hS (pr_1 h) (congrArg (fun Z : Mm => (Cm, Z)) (pr_2 h)) dX11_ask_25
  · replace h := it_f c3 h
    refine lv_iload_n hx hb dX11_ask_8 rfl (lv_at hl 2 rfl) ?_
    refine rc_i hS (run_S hC wX11_isAsk k1317 hP hS (As := [.int p2]) (rest := []) (mX11_isAsk l G Cm rfl) rfl hl.1 (Nat.le_of_ble_eq_true rfl) ⟨by decide, by decide⟩ ⟨Nat.le_refl _, Nat.le_refl _⟩ rfl dX11_ask_9) (fun H locs pb5 hP hS => ?_)
    refine lv_if_eq (tgt := 24) hx hb dX11_ask_12 (by decide) (fun c6 => ?_) (fun c6 => ?_)
    · replace h := it_t c6 h
      refine lv_iconst (v := (-1)) hx hb dX11_ask_24 (by decide) ?_
      exact re_i' hC hr hP hS (pr_1 h) (congrArg (fun Z : Mm => (Cm, Z)) (pr_2 h)) dX11_ask_25
    · replace h := it_f c6 h
      refine lv_aload_n hx hb dX11_ask_15 rfl (lv_at hl 0 rfl) ?_
      refine lv_iload_n hx hb dX11_ask_16 rfl (lv_at hl 1 rfl) ?_
      refine lv_iload_n hx hb dX11_ask_17 rfl (lv_at hl 2 rfl) ?_
      obtain ⟨r8, C9, hq7, h⟩ := bp_x h
      refine rc_i hS (run_V hC wX11_askOf k1321 (e_72 G _) rfl hP hS (As := [.int p1, .int p2]) (rest := []) (mX11_askOf l G Cm hq7) rfl hl.1 (Nat.le_of_ble_eq_true rfl) ⟨by decide, by decide⟩ ⟨Nat.le_refl _, Nat.le_refl _⟩ rfl dX11_ask_18) (fun H locs pb10 hP hS => ?_)
      refine lv_goto (tgt := 25) hx hb dX11_ask_21 (by decide) ?_
      exact re_i' hC hr hP hS (pr_1 h) (congrArg (fun Z : Mm => (Cm, Z)) (pr_2 h)) dX11_ask_25
set_option maxHeartbeats 4000000 in
set_option maxRecDepth 100000 in
theorem mX11_digits (l : Launch) (G : gp) (Cm : Mm) {n : Nat} {p0 : Int32} {C : Mm} {r0 : Int32} (h : fX11_digits n p0 = some r0) : Met l yX11_digits (wsy yX11_digits cX11_digits 3 (some .int)) (rmv 0 0) (va_Pc [.int p0] (Rl G (Cm, C))) (Qi G PT r0 (Cm, C)) 0 0 (lwA G) := by
  refine met_i [.int p0] wX11_digits.2.2.2.2 (Nat.le_of_ble_eq_true rfl) ?_
  intro p e s m args below meth c ls hC hr hP hl
  have hC : Cx G p s m args meth c cX11_digits RX11 3 := hC
  have hx := hC.1
  have hb := hC.2.1
  have hown := hC.2.2.2.1
  have hts := hC.2.2.2.2.1
  have hS : va_S (lwA G) s.heap s.heap [] := va_S.rf
  have hl : lv_has ls 3 [(0, .int p0)] := hl
  have bl4 : ∀ (fu : Nat), ∀ (y1 : Int32) (y2 : Int32) (C : Mm) (H : Heap) (locs : List Loc) (ls : Array Slot), fX11_digits_h4 n fu y1 y2 = some r0 → lv_has ls 3 [(1, .int y1), (2, .int y2)] → va_P (gD G) vwCl (wld G (Cm, C)) H → va_S (lwA G) s.heap H locs → W p l e (rmv 0 0) s m args below meth c H locs 0 0 (MQ below (Qi G PT r0 (Cm, C)) args s 0 0 (lwA G)) (F0 m 4 ls []) := by
    intro fu
    induction fu with
    | zero =>
      intro y1 y2 C H locs ls h hl hP hS
      rw [fX11_digits_h4.eq_1] at h
      cases h
    | succ fu ih =>
      intro y1 y2 C H locs ls h hl hP hS
      rw [fX11_digits_h4.eq_2] at h
      refine lv_iload_n hx hb dX11_digits_4 rfl (lv_at hl 1 rfl) ?_
      refine lv_if_le (tgt := 19) hx hb dX11_digits_5 (by decide) (fun c1 => ?_) (fun c1 => ?_)
      · replace h := it_t c1 h
        refine lv_iload_n hx hb dX11_digits_19 rfl (lv_at hl 0 rfl) ?_
        exact re_i' hC hr hP hS (Option.some.inj h) rfl dX11_digits_20
      · replace h := it_f c1 h
        obtain ⟨x2, ex2⟩ : ∃ y : Int32, y = y1 + 1 := ⟨_, rfl⟩
        replace h := lt_y ex2 h
        refine lv_iinc (v := x2) (lv' := [(1, .int x2), (2, .int y2)]) hx hb dX11_digits_8 hl (k := 0) rfl (by rw [ex2]; rfl) (by decide) rfl (fun ls hl => ?_)
        refine lv_iload_n hx hb dX11_digits_11 rfl (lv_at hl 1 rfl) ?_
        refine lv_bipush (v := 10) hx hb dX11_digits_12 (by decide) ?_
        refine lv_idiv hx hb dX11_digits_14 (by decide) ?_
        refine lv_topi (fun x3 ex3 => ?_)
        replace h := lt_y ex3 h
        refine lv_istore_n (lv' := [(2, .int x3), (1, .int x2)]) hx hb dX11_digits_15 rfl hl (by decide) rfl (fun ls hl => ?_)
        refine lv_goto (tgt := 4) hx hb dX11_digits_16 (by decide) ?_
        exact ih x2 x3 _ _ _ _ h (lv_sub hl [1, 0] rfl) hP hS
  unfold fX11_digits at h
  refine lv_iconst (v := 0) hx hb dX11_digits_0 (by decide) ?_
  refine lv_istore_n (lv' := [(1, .int 0), (0, .int p0)]) hx hb dX11_digits_1 rfl hl (by decide) rfl (fun ls hl => ?_)
  refine lv_iload_n hx hb dX11_digits_2 rfl (lv_at hl 1 rfl) ?_
  refine lv_istore_n (lv' := [(2, .int p0), (1, .int 0), (0, .int p0)]) hx hb dX11_digits_3 rfl hl (by decide) rfl (fun ls hl => ?_)
  exact bl4 n 0 p0 _ _ _ _ h (lv_sub hl [1, 0] rfl) hP hS
set_option maxHeartbeats 4000000 in
set_option maxRecDepth 100000 in
theorem mX11_figure (l : Launch) (G : gp) (Cm : Mm) {n : Nat} {p0 : Int32} {p1 : Int32} {C : Mm} {r0 : Int32} (h : fX11_figure n p0 p1 = some r0) : Met l yX11_figure (wsy yX11_figure cX11_figure 4 (some .int)) (rmv 0 0) (va_Pc [.int p0, .int p1] (Rl G (Cm, C))) (Qi G PT r0 (Cm, C)) 0 0 (lwA G) := by
  refine met_i [.int p0, .int p1] wX11_figure.2.2.2.2 (Nat.le_of_ble_eq_true rfl) ?_
  intro p e s m args below meth c ls hC hr hP hl
  have hC : Cx G p s m args meth c cX11_figure RX11 4 := hC
  have hx := hC.1
  have hb := hC.2.1
  have hown := hC.2.2.2.1
  have hts := hC.2.2.2.2.1
  have hS : va_S (lwA G) s.heap s.heap [] := va_S.rf
  have hl : lv_has ls 4 [(0, .int p0), (1, .int p1)] := hl
  have bl4 : ∀ (fu : Nat), ∀ (y1 : Int32) (y2 : Int32) (y3 : Int32) (C : Mm) (H : Heap) (locs : List Loc) (ls : Array Slot), fX11_figure_h4 n fu y1 y2 y3 = some r0 → lv_has ls 4 [(1, .int y1), (2, .int y2), (3, .int y3)] → va_P (gD G) vwCl (wld G (Cm, C)) H → va_S (lwA G) s.heap H locs → W p l e (rmv 0 0) s m args below meth c H locs 0 0 (MQ below (Qi G PT r0 (Cm, C)) args s 0 0 (lwA G)) (F0 m 4 ls []) := by
    intro fu
    induction fu with
    | zero =>
      intro y1 y2 y3 C H locs ls h hl hP hS
      rw [fX11_figure_h4.eq_1] at h
      cases h
    | succ fu ih =>
      intro y1 y2 y3 C H locs ls h hl hP hS
      rw [fX11_figure_h4.eq_2] at h
      refine lv_iload_n hx hb dX11_figure_4 rfl (lv_at hl 2 rfl) ?_
      refine lv_iload_n hx hb dX11_figure_5 rfl (lv_at hl 0 rfl) ?_
      refine lv_icmp_ge (tgt := 20) hx hb dX11_figure_6 (by decide) (fun c1 => ?_) (fun c1 => ?_)
      · replace h := it_t c1 h
        refine lv_iload_n hx hb dX11_figure_20 rfl (lv_at hl 1 rfl) ?_
        refine lv_bipush (v := 10) hx hb dX11_figure_21 (by decide) ?_
        refine r_irem hx hb dX11_figure_23 (by decide) ?_
        exact re_i' hC hr hP hS (Option.some.inj h) rfl dX11_figure_24
      · replace h := it_f c1 h
        refine lv_iload_n hx hb dX11_figure_9 rfl (lv_at hl 1 rfl) ?_
        refine lv_bipush (v := 10) hx hb dX11_figure_10 (by decide) ?_
        refine lv_idiv hx hb dX11_figure_12 (by decide) ?_
        refine lv_topi (fun x2 ex2 => ?_)
        replace h := lt_y ex2 h
        refine lv_istore_n (lv' := [(2, .int x2), (1, .int y1), (3, .int y3)]) hx hb dX11_figure_13 rfl hl (by decide) rfl (fun ls hl => ?_)
        obtain ⟨x3, ex3⟩ : ∃ y : Int32, y = y3 + 1 := ⟨_, rfl⟩
        replace h := lt_y ex3 h
        refine lv_iinc (v := x3) (lv' := [(3, .int x3), (2, .int x2), (1, .int y1)]) hx hb dX11_figure_14 hl (k := 2) rfl (by rw [ex3]; rfl) (by decide) rfl (fun ls hl => ?_)
        refine lv_goto (tgt := 4) hx hb dX11_figure_17 (by decide) ?_
        exact ih y1 x2 x3 _ _ _ _ h (lv_sub hl [2, 1, 0] rfl) hP hS
  unfold fX11_figure at h
  refine lv_iload_n hx hb dX11_figure_0 rfl (lv_at hl 0 rfl) ?_
  refine lv_istore_n (lv' := [(2, .int p0), (0, .int p0), (1, .int p1)]) hx hb dX11_figure_1 rfl hl (by decide) rfl (fun ls hl => ?_)
  refine lv_iconst (v := 0) hx hb dX11_figure_2 (by decide) ?_
  refine lv_istore_n (lv' := [(3, .int 0), (2, .int p0), (0, .int p0), (1, .int p1)]) hx hb dX11_figure_3 rfl hl (by decide) rfl (fun ls hl => ?_)
  exact bl4 n p1 p0 0 _ _ _ _ h (lv_sub hl [3, 1, 0] rfl) hP hS
set_option maxHeartbeats 4000000 in
set_option maxRecDepth 100000 in
theorem mX11_tens (l : Launch) (G : gp) (Cm : Mm) {n : Nat} {p0 : Int32} {C : Mm} {r0 : Int32} (h : fX11_tens n p0 = some r0) : Met l yX11_tens (wsy yX11_tens cX11_tens 3 (some .int)) (rmv 0 0) (va_Pc [.int p0] (Rl G (Cm, C))) (Qi G PT r0 (Cm, C)) 0 0 (lwA G) := by
  refine met_i [.int p0] wX11_tens.2.2.2.2 (Nat.le_of_ble_eq_true rfl) ?_
  intro p e s m args below meth c ls hC hr hP hl
  have hC : Cx G p s m args meth c cX11_tens RX11 3 := hC
  have hx := hC.1
  have hb := hC.2.1
  have hown := hC.2.2.2.1
  have hts := hC.2.2.2.2.1
  have hS : va_S (lwA G) s.heap s.heap [] := va_S.rf
  have hl : lv_has ls 3 [(0, .int p0)] := hl
  have bl4 : ∀ (fu : Nat), ∀ (y0 : Int32) (y1 : Int32) (y2 : Int32) (C : Mm) (H : Heap) (locs : List Loc) (ls : Array Slot), fX11_tens_h4 n fu y0 y1 y2 = some r0 → lv_has ls 3 [(0, .int y0), (1, .int y1), (2, .int y2)] → va_P (gD G) vwCl (wld G (Cm, C)) H → va_S (lwA G) s.heap H locs → W p l e (rmv 0 0) s m args below meth c H locs 0 0 (MQ below (Qi G PT r0 (Cm, C)) args s 0 0 (lwA G)) (F0 m 4 ls []) := by
    intro fu
    induction fu with
    | zero =>
      intro y0 y1 y2 C H locs ls h hl hP hS
      rw [fX11_tens_h4.eq_1] at h
      cases h
    | succ fu ih =>
      intro y0 y1 y2 C H locs ls h hl hP hS
      rw [fX11_tens_h4.eq_2] at h
      refine lv_iload_n hx hb dX11_tens_4 rfl (lv_at hl 2 rfl) ?_
      refine lv_iload_n hx hb dX11_tens_5 rfl (lv_at hl 0 rfl) ?_
      refine lv_icmp_ge (tgt := 20) hx hb dX11_tens_6 (by decide) (fun c1 => ?_) (fun c1 => ?_)
      · replace h := it_t c1 h
        refine lv_iload_n hx hb dX11_tens_20 rfl (lv_at hl 1 rfl) ?_
        exact re_i' hC hr hP hS (Option.some.inj h) rfl dX11_tens_21
      · replace h := it_f c1 h
        refine lv_iload_n hx hb dX11_tens_9 rfl (lv_at hl 1 rfl) ?_
        refine lv_bipush (v := 10) hx hb dX11_tens_10 (by decide) ?_
        refine lv_imul hx hb dX11_tens_12 ?_
        refine lv_topi (fun x2 ex2 => ?_)
        replace h := lt_y ex2 h
        refine lv_istore_n (lv' := [(1, .int x2), (0, .int y0), (2, .int y2)]) hx hb dX11_tens_13 rfl hl (by decide) rfl (fun ls hl => ?_)
        obtain ⟨x3, ex3⟩ : ∃ y : Int32, y = y2 + 1 := ⟨_, rfl⟩
        replace h := lt_y ex3 h
        refine lv_iinc (v := x3) (lv' := [(2, .int x3), (1, .int x2), (0, .int y0)]) hx hb dX11_tens_14 hl (k := 2) rfl (by rw [ex3]; rfl) (by decide) rfl (fun ls hl => ?_)
        refine lv_goto (tgt := 4) hx hb dX11_tens_17 (by decide) ?_
        exact ih y0 x2 x3 _ _ _ _ h (lv_sub hl [2, 1, 0] rfl) hP hS
  unfold fX11_tens at h
  refine lv_iconst (v := 1) hx hb dX11_tens_0 (by decide) ?_
  refine lv_istore_n (lv' := [(1, .int 1), (0, .int p0)]) hx hb dX11_tens_1 rfl hl (by decide) rfl (fun ls hl => ?_)
  refine lv_iconst (v := 0) hx hb dX11_tens_2 (by decide) ?_
  refine lv_istore_n (lv' := [(2, .int 0), (1, .int 1), (0, .int p0)]) hx hb dX11_tens_3 rfl hl (by decide) rfl (fun ls hl => ?_)
  exact bl4 n p0 1 0 _ _ _ _ h (lv_sub hl [2, 1, 0] rfl) hP hS
set_option maxHeartbeats 4000000 in
set_option maxRecDepth 100000 in
theorem mX11_acts (l : Launch) (G : gp) (Cm : Mm) {n : Nat} {p1 : Int32} {p2 : Int32} {p3 : Int32} {p4 : Int32} {C : Mm} {C0 : Mm} (h : fX11_acts n p1 p2 p3 p4 C = some C0) : Met l yX11_acts (wsy yX11_acts cX11_acts 7 none) (rmv 1 22) (va_Pc [.ref (gA G 72), .int p1, .int p2, .int p3, .int p4] (Rl G (Cm, C))) (Qv G (Cm, C0)) 0 0 (lwA G) := by
  refine met_i [.ref (gA G 72), .int p1, .int p2, .int p3, .int p4] wX11_acts.2.2.2.2.2 (Nat.le_of_ble_eq_true rfl) ?_
  intro p e s m args below meth c ls hC hr hP hl
  have hC : Cx G p s m args meth c cX11_acts RX11 7 := hC
  have hx := hC.1
  have hb := hC.2.1
  have hown := hC.2.2.2.1
  have hts := hC.2.2.2.2.1
  have hS : va_S (lwA G) s.heap s.heap [] := va_S.rf
  have hl : lv_has ls 7 [(0, .ref (gA G 72)), (1, .int p1), (2, .int p2), (3, .int p3), (4, .int p4)] := hl
  have bl72 : ∀ (y3 : Int32) (y4 : Int32) (y5 : Int32) (s0 : Int32) (s1 : Int32) (C : Mm) (H : Heap) (locs : List Loc) (ls : Array Slot), fX11_acts_b72 n y3 y4 y5 s0 s1 C = some C0 → lv_has ls 7 [(0, .ref (gA G 72)), (3, .int y3), (4, .int y4), (5, .int y5)] → va_P (gD G) vwCl (wld G (Cm, C)) H → va_S (lwA G) s.heap H locs → W p l e (rmv 1 22) s m args below meth c H locs 0 0 (MQ below (Qv G (Cm, C0)) args s 0 0 (lwA G)) (F0 m 72 ls [.int s0, .int s1, .ref (gA G 86)]) := by
    intro y3 y4 y5 s0 s1 C H locs ls h hl hP hS
    unfold fX11_acts_b72 at h
    by_cases c1 : s1 < (0 : Int32) ∨ 200 ≤ Int32.toNatClampNeg s1
    · cases it_t c1 h
    replace h := it_f c1 h
    obtain ⟨C2, eC2⟩ : ∃ Z : Mm, Z = wrI C 86 (Int32.toNatClampNeg s1) s0 := ⟨_, rfl⟩
    replace h := lt_y eC2 h
    refine r_iast (X' := (Cm, C2)) hC hP hS (e_86 G _) c1 (a_86 G _ _ _ _ eC2) dX11_acts_72 (fun H locs hP hS => ?_)
    refine lv_aload_n hx hb dX11_acts_73 rfl (lv_at hl 0 rfl) ?_
    refine r_get (v := .ref (gA G 87)) hC inX11 hP (e_72 G _) rfl 25 (by decide) rfl k1075 rfl dX11_acts_74 ?_
    refine lv_iload hx hb dX11_acts_77 (lv_at hl 3 rfl) ?_
    refine lv_aload_n hx hb dX11_acts_79 rfl (lv_at hl 0 rfl) ?_
    refine r_get (v := .int (C2.1 72 28)) hC inX11 hP (e_72 G _) rfl 28 (by decide) rfl k1078 rfl dX11_acts_80 ?_
    refine lv_aload_n hx hb dX11_acts_83 rfl (lv_at hl 0 rfl) ?_
    refine r_get (v := .int (C2.1 72 29)) hC inX11 hP (e_72 G _) rfl 29 (by decide) rfl k1079 rfl dX11_acts_84 ?_
    obtain ⟨r4, hq3, h⟩ := bn_x h
    refine rc_i hS (run_S hC wX11_digits k1360 hP hS (As := [.int (C2.1 72 29)]) (rest := [.int (C2.1 72 28), .int y5, .ref (gA G 87)]) (mX11_digits l G Cm hq3) rfl hl.1 (Nat.le_of_ble_eq_true rfl) ⟨by decide, by decide⟩ ⟨Nat.le_refl _, Nat.le_refl _⟩ rfl dX11_acts_87) (fun H locs pb5 hP hS => ?_)
    refine lv_iadd hx hb dX11_acts_90 ?_
    by_cases c6 : y5 < (0 : Int32) ∨ 200 ≤ Int32.toNatClampNeg y5
    · cases it_t c6 h
    replace h := it_f c6 h
    obtain ⟨C7, eC7⟩ : ∃ Z : Mm, Z = wrI C2 87 (Int32.toNatClampNeg y5) ((C2.1 72 28) + r4) := ⟨_, rfl⟩
    replace h := lt_y eC7 h
    refine r_iast (X' := (Cm, C7)) hC hP hS (e_87 G _) c6 (a_87 G _ _ _ _ eC7) dX11_acts_91 (fun H locs hP hS => ?_)
    refine lv_aload_n hx hb dX11_acts_92 rfl (lv_at hl 0 rfl) ?_
    refine r_get (v := .ref (gA G 88)) hC inX11 hP (e_72 G _) rfl 26 (by decide) rfl k1076 rfl dX11_acts_93 ?_
    refine lv_iload hx hb dX11_acts_96 (lv_at hl 3 rfl) ?_
    refine lv_iload_n hx hb dX11_acts_98 rfl (lv_at hl 1 rfl) ?_
    by_cases c8 : y5 < (0 : Int32) ∨ 200 ≤ Int32.toNatClampNeg y5
    · cases it_t c8 h
    replace h := it_f c8 h
    obtain ⟨C9, eC9⟩ : ∃ Z : Mm, Z = wrI C7 88 (Int32.toNatClampNeg y5) y3 := ⟨_, rfl⟩
    replace h := lt_y eC9 h
    refine r_iast (X' := (Cm, C9)) hC hP hS (e_88 G _) c8 (a_88 G _ _ _ _ eC9) dX11_acts_99 (fun H locs hP hS => ?_)
    refine lv_aload_n hx hb dX11_acts_100 rfl (lv_at hl 0 rfl) ?_
    refine r_get (v := .ref (gA G 89)) hC inX11 hP (e_72 G _) rfl 27 (by decide) rfl k1077 rfl dX11_acts_101 ?_
    refine lv_iload hx hb dX11_acts_104 (lv_at hl 3 rfl) ?_
    refine lv_iload hx hb dX11_acts_106 (lv_at hl 2 rfl) ?_
    by_cases c10 : y5 < (0 : Int32) ∨ 200 ≤ Int32.toNatClampNeg y5
    · cases it_t c10 h
    replace h := it_f c10 h
    obtain ⟨C11, eC11⟩ : ∃ Z : Mm, Z = wrI C9 89 (Int32.toNatClampNeg y5) y4 := ⟨_, rfl⟩
    replace h := lt_y eC11 h
    refine r_iast (X' := (Cm, C11)) hC hP hS (e_89 G _) c10 (a_89 G _ _ _ _ eC11) dX11_acts_108 (fun H locs hP hS => ?_)
    refine lv_aload_n hx hb dX11_acts_109 rfl (lv_at hl 0 rfl) ?_
    refine lv_dup hx hb dX11_acts_110 rfl ?_
    refine r_get (v := .int (C11.1 72 21)) hC inX11 hP (e_72 G _) rfl 21 (by decide) rfl k1071 rfl dX11_acts_111 ?_
    refine lv_iconst (v := 1) hx hb dX11_acts_114 (by decide) ?_
    refine lv_iadd hx hb dX11_acts_115 ?_
    obtain ⟨C12, eC12⟩ : ∃ Z : Mm, Z = wrI C11 72 21 ((C11.1 72 21) + 1) := ⟨_, rfl⟩
    replace h := lt_y eC12 h
    refine r_put (X' := (Cm, C12)) hC inX11 tyX11 tyX11_ok nmX11 hP hS (e_72 G _) rfl 21 (by decide) rfl k1071 rfl (v := .int ((C11.1 72 21) + 1)) rfl rfl (Nat.le_of_ble_eq_true rfl) (p_72_21 G _ _ eC12) dX11_acts_116 (fun H locs hP hS => ?_)
    exact re_v' hC hr hP hS (congrArg (fun Z : Mm => (Cm, Z)) (Option.some.inj h)) dX11_acts_119
  have bl71 : ∀ (y3 : Int32) (y4 : Int32) (y5 : Int32) (s0 : Int32) (s1 : Int32) (s2 : Int32) (C : Mm) (H : Heap) (locs : List Loc) (ls : Array Slot), fX11_acts_b71 n y3 y4 y5 s0 s1 s2 C = some C0 → lv_has ls 7 [(0, .ref (gA G 72)), (3, .int y3), (4, .int y4), (5, .int y5)] → va_P (gD G) vwCl (wld G (Cm, C)) H → va_S (lwA G) s.heap H locs → W p l e (rmv 1 22) s m args below meth c H locs 0 0 (MQ below (Qv G (Cm, C0)) args s 0 0 (lwA G)) (F0 m 71 ls [.int s0, .int s1, .int s2, .ref (gA G 86)]) := by
    intro y3 y4 y5 s0 s1 s2 C H locs ls h hl hP hS
    unfold fX11_acts_b71 at h
    refine lv_imul hx hb dX11_acts_71 ?_
    exact bl72 y3 y4 y5 (s1 * s0) s2 C _ _ _ h (lv_sub hl [0, 1, 2, 3] rfl) hP hS
  have bl67 : ∀ (y2 : Int32) (y3 : Int32) (y4 : Int32) (y5 : Int32) (s0 : Int32) (s1 : Int32) (C : Mm) (H : Heap) (locs : List Loc) (ls : Array Slot), fX11_acts_b67 n y2 y3 y4 y5 s0 s1 C = some C0 → lv_has ls 7 [(0, .ref (gA G 72)), (2, .int y2), (3, .int y3), (4, .int y4), (5, .int y5)] → va_P (gD G) vwCl (wld G (Cm, C)) H → va_S (lwA G) s.heap H locs → W p l e (rmv 1 22) s m args below meth c H locs 0 0 (MQ below (Qv G (Cm, C0)) args s 0 0 (lwA G)) (F0 m 67 ls [.int s0, .int s1, .ref (gA G 86)]) := by
    intro y2 y3 y4 y5 s0 s1 C H locs ls h hl hP hS
    unfold fX11_acts_b67 at h
    refine lv_iload_n hx hb dX11_acts_67 rfl (lv_at hl 1 rfl) ?_
    obtain ⟨r14, hq13, h⟩ := bn_x h
    refine rc_i hS (run_S hC wX11_digits k1360 hP hS (As := [.int y2]) (rest := [.int s0, .int s1, .ref (gA G 86)]) (mX11_digits l G Cm hq13) rfl hl.1 (Nat.le_of_ble_eq_true rfl) ⟨by decide, by decide⟩ ⟨Nat.le_refl _, Nat.le_refl _⟩ rfl dX11_acts_68) (fun H locs pb15 hP hS => ?_)
    exact bl71 y3 y4 y5 r14 s0 s1 C _ _ _ h (lv_sub hl [0, 2, 3, 4] rfl) hP hS
  unfold fX11_acts at h
  refine lv_aload_n hx hb dX11_acts_0 rfl (lv_at hl 0 rfl) ?_
  refine r_get (v := .int (C.1 72 21)) hC inX11 hP (e_72 G _) rfl 21 (by decide) rfl k1071 rfl dX11_acts_1 ?_
  refine lv_topi (fun x16 ex16 => ?_)
  replace h := lt_y ex16 h
  refine lv_istore (lv' := [(5, .int x16), (0, .ref (gA G 72)), (1, .int p1), (2, .int p2), (3, .int p3), (4, .int p4)]) hx hb dX11_acts_4 hl (by decide) rfl (fun ls hl => ?_)
  refine lv_aload_n hx hb dX11_acts_6 rfl (lv_at hl 1 rfl) ?_
  refine r_get (v := .ref (gA G 73)) hC inX11 hP (e_72 G _) rfl 0 (by decide) rfl k1050 rfl dX11_acts_7 ?_
  refine lv_iconst (v := 5) hx hb dX11_acts_10 (by decide) ?_
  refine lv_aload_n hx hb dX11_acts_11 rfl (lv_at hl 1 rfl) ?_
  refine r_get (v := .int (C.1 72 30)) hC inX11 hP (e_72 G _) rfl 30 (by decide) rfl k1080 rfl dX11_acts_12 ?_
  refine lv_imul hx hb dX11_acts_15 ?_
  refine lv_iload_n hx hb dX11_acts_16 rfl (lv_at hl 2 rfl) ?_
  refine lv_iadd hx hb dX11_acts_17 ?_
  by_cases c17 : ((5 * (C.1 72 30)) + p1) < (0 : Int32) ∨ 30 ≤ Int32.toNatClampNeg ((5 * (C.1 72 30)) + p1)
  · cases it_t c17 h
  replace h := it_f c17 h
  refine r_iald hC hP (f := C.1 73) (e_73 G _) c17 dX11_acts_18 ?_
  refine lv_topi (fun x18 ex18 => ?_)
  replace h := lt_y ex18 h
  refine lv_istore (lv' := [(6, .int x18), (5, .int x16), (0, .ref (gA G 72)), (1, .int p1), (2, .int p2), (3, .int p3), (4, .int p4)]) hx hb dX11_acts_19 hl (by decide) rfl (fun ls hl => ?_)
  refine lv_aload_n hx hb dX11_acts_21 rfl (lv_at hl 2 rfl) ?_
  refine r_get (v := .ref (gA G 84)) hC inX11 hP (e_72 G _) rfl 22 (by decide) rfl k1072 rfl dX11_acts_22 ?_
  refine lv_iload hx hb dX11_acts_25 (lv_at hl 1 rfl) ?_
  refine lv_iload_n hx hb dX11_acts_27 rfl (lv_at hl 3 rfl) ?_
  by_cases c19 : x16 < (0 : Int32) ∨ 200 ≤ Int32.toNatClampNeg x16
  · cases it_t c19 h
  replace h := it_f c19 h
  obtain ⟨C20, eC20⟩ : ∃ Z : Mm, Z = wrI C 84 (Int32.toNatClampNeg x16) p1 := ⟨_, rfl⟩
  replace h := lt_y eC20 h
  refine r_iast (X' := (Cm, C20)) hC hP hS (e_84 G _) c19 (a_84 G _ _ _ _ eC20) dX11_acts_28 (fun H locs hP hS => ?_)
  refine lv_aload_n hx hb dX11_acts_29 rfl (lv_at hl 2 rfl) ?_
  refine r_get (v := .ref (gA G 85)) hC inX11 hP (e_72 G _) rfl 23 (by decide) rfl k1073 rfl dX11_acts_30 ?_
  refine lv_iload hx hb dX11_acts_33 (lv_at hl 1 rfl) ?_
  refine lv_iload_n hx hb dX11_acts_35 rfl (lv_at hl 4 rfl) ?_
  by_cases c21 : x16 < (0 : Int32) ∨ 200 ≤ Int32.toNatClampNeg x16
  · cases it_t c21 h
  replace h := it_f c21 h
  obtain ⟨C22, eC22⟩ : ∃ Z : Mm, Z = wrI C20 85 (Int32.toNatClampNeg x16) p2 := ⟨_, rfl⟩
  replace h := lt_y eC22 h
  refine r_iast (X' := (Cm, C22)) hC hP hS (e_85 G _) c21 (a_85 G _ _ _ _ eC22) dX11_acts_36 (fun H locs hP hS => ?_)
  refine lv_aload_n hx hb dX11_acts_37 rfl (lv_at hl 2 rfl) ?_
  refine r_get (v := .ref (gA G 86)) hC inX11 hP (e_72 G _) rfl 24 (by decide) rfl k1074 rfl dX11_acts_38 ?_
  refine lv_iload hx hb dX11_acts_41 (lv_at hl 1 rfl) ?_
  refine lv_iload_n hx hb dX11_acts_43 rfl (lv_at hl 3 rfl) ?_
  refine lv_if_ne (tgt := 52) hx hb dX11_acts_44 (by decide) (fun c23 => ?_) (fun c23 => ?_)
  · replace h := it_f c23 h
    refine lv_iload hx hb dX11_acts_52 (lv_at hl 0 rfl) ?_
    refine lv_iload_n hx hb dX11_acts_54 rfl (lv_at hl 3 rfl) ?_
    refine lv_iconst (v := 2) hx hb dX11_acts_55 (by decide) ?_
    refine lv_icmp_ne (tgt := 67) hx hb dX11_acts_56 (by decide) (fun c24 => ?_) (fun c24 => ?_)
    · replace h := it_f c24 h
      exact bl67 p2 p3 p4 x16 x18 x16 C22 _ _ _ h (lv_sub hl [2, 4, 5, 6, 1] rfl) hP hS
    · replace h := it_t c24 h
      refine lv_iload_n hx hb dX11_acts_59 rfl (lv_at hl 4 rfl) ?_
      refine lv_if_ne (tgt := 67) hx hb dX11_acts_60 (by decide) (fun c25 => ?_) (fun c25 => ?_)
      · replace h := it_f c25 h
        exact bl67 p2 p3 p4 x16 x18 x16 C22 _ _ _ h (lv_sub hl [2, 4, 5, 6, 1] rfl) hP hS
      · replace h := it_t c25 h
        refine lv_iconst (v := 1) hx hb dX11_acts_63 (by decide) ?_
        refine lv_goto (tgt := 71) hx hb dX11_acts_64 (by decide) ?_
        exact bl71 p3 p4 x16 1 x18 x16 C22 _ _ _ h (lv_sub hl [2, 5, 6, 1] rfl) hP hS
  · replace h := it_t c23 h
    refine lv_iload hx hb dX11_acts_47 (lv_at hl 0 rfl) ?_
    refine lv_goto (tgt := 72) hx hb dX11_acts_49 (by decide) ?_
    exact bl72 p3 p4 x16 x18 x16 C22 _ _ _ h (lv_sub hl [2, 5, 6, 1] rfl) hP hS
set_option maxHeartbeats 4000000 in
set_option maxRecDepth 100000 in
theorem mX11_holds (l : Launch) (G : gp) (Cm : Mm) {n : Nat} {C : Mm} {C0 : Mm} (h : fX11_holds n C = some C0) : Met l yX11_holds (wsy yX11_holds cX11_holds 2 none) (rmv 2 48) (va_Pc [.ref (gA G 72)] (Rl G (Cm, C))) (Qv G (Cm, C0)) 0 0 (lwA G) := by
  refine met_i [.ref (gA G 72)] wX11_holds.2.2.2.2.2 (Nat.le_of_ble_eq_true rfl) ?_
  intro p e s m args below meth c ls hC hr hP hl
  have hC : Cx G p s m args meth c cX11_holds RX11 2 := hC
  have hx := hC.1
  have hb := hC.2.1
  have hown := hC.2.2.2.1
  have hts := hC.2.2.2.2.1
  have hS : va_S (lwA G) s.heap s.heap [] := va_S.rf
  have hl : lv_has ls 2 [(0, .ref (gA G 72))] := hl
  unfold fX11_holds at h
  refine lv_aload_n hx hb dX11_holds_0 rfl (lv_at hl 0 rfl) ?_
  refine r_get (v := .int (C.1 72 29)) hC inX11 hP (e_72 G _) rfl 29 (by decide) rfl k1079 rfl dX11_holds_1 ?_
  refine lv_topi (fun x1 ex1 => ?_)
  replace h := lt_y ex1 h
  refine lv_istore_n (lv' := [(1, .int x1), (0, .ref (gA G 72))]) hx hb dX11_holds_4 rfl hl (by decide) rfl (fun ls hl => ?_)
  refine lv_aload_n hx hb dX11_holds_5 rfl (lv_at hl 1 rfl) ?_
  refine lv_dup hx hb dX11_holds_6 rfl ?_
  refine r_get (v := .int (C.1 72 28)) hC inX11 hP (e_72 G _) rfl 28 (by decide) rfl k1078 rfl dX11_holds_7 ?_
  refine lv_iload_n hx hb dX11_holds_10 rfl (lv_at hl 0 rfl) ?_
  obtain ⟨r3, hq2, h⟩ := bn_x h
  refine rc_i hS (run_S hC wX11_digits k1360 hP hS (As := [.int x1]) (rest := [.int (C.1 72 28), .ref (gA G 72)]) (mX11_digits l G Cm hq2) rfl hl.1 (Nat.le_of_ble_eq_true rfl) ⟨by decide, by decide⟩ ⟨Nat.le_refl _, Nat.le_refl _⟩ rfl dX11_holds_11) (fun H locs pb4 hP hS => ?_)
  refine lv_iadd hx hb dX11_holds_14 ?_
  obtain ⟨C5, eC5⟩ : ∃ Z : Mm, Z = wrI C 72 28 ((C.1 72 28) + r3) := ⟨_, rfl⟩
  replace h := lt_y eC5 h
  refine r_put (X' := (Cm, C5)) hC inX11 tyX11 tyX11_ok nmX11 hP hS (e_72 G _) rfl 28 (by decide) rfl k1078 rfl (v := .int ((C.1 72 28) + r3)) rfl rfl (Nat.le_of_ble_eq_true rfl) (p_72_28 G _ _ eC5) dX11_holds_15 (fun H locs hP hS => ?_)
  refine lv_aload_n hx hb dX11_holds_18 rfl (lv_at hl 1 rfl) ?_
  refine lv_iconst (v := 0) hx hb dX11_holds_19 (by decide) ?_
  obtain ⟨C6, eC6⟩ : ∃ Z : Mm, Z = wrI C5 72 29 0 := ⟨_, rfl⟩
  replace h := lt_y eC6 h
  refine r_put (X' := (Cm, C6)) hC inX11 tyX11 tyX11_ok nmX11 hP hS (e_72 G _) rfl 29 (by decide) rfl k1079 rfl (v := .int 0) rfl rfl (Nat.le_of_ble_eq_true rfl) (p_72_29 G _ _ eC6) dX11_holds_20 (fun H locs hP hS => ?_)
  refine lv_aload_n hx hb dX11_holds_23 rfl (lv_at hl 1 rfl) ?_
  refine lv_iconst (v := 2) hx hb dX11_holds_24 (by decide) ?_
  refine lv_iload_n hx hb dX11_holds_25 rfl (lv_at hl 0 rfl) ?_
  refine lv_iconst (v := 0) hx hb dX11_holds_26 (by decide) ?_
  refine lv_iconst (v := 0) hx hb dX11_holds_27 (by decide) ?_
  obtain ⟨C8, hq7, h⟩ := bn_x h
  refine rc_v hS (run_V hC wX11_acts k1356 (e_72 G _) rfl hP hS (As := [.int 2, .int x1, .int 0, .int 0]) (rest := []) (mX11_acts l G Cm hq7) rfl hl.1 (Nat.le_of_ble_eq_true rfl) ⟨by decide, by decide⟩ ⟨Nat.le_refl _, Nat.le_refl _⟩ rfl dX11_holds_28) (fun H locs hP hS => ?_)
  exact re_v' hC hr hP hS (congrArg (fun Z : Mm => (Cm, Z)) (Option.some.inj h)) dX11_holds_31
set_option maxHeartbeats 4000000 in
set_option maxRecDepth 100000 in
theorem mX11_lookAndAdd (l : Launch) (G : gp) (Cm : Mm) {n : Nat} {p1 : Int32} {p2 : Int32} {p3 : Int32} {p4 : Int32} {p5 : Int32} {C : Mm} {r0 : Int32} {C0 : Mm} (h : fX11_lookAndAdd n p1 p2 p3 p4 p5 C = some (r0, C0)) : Met l yX11_lookAndAdd (wsy yX11_lookAndAdd cX11_lookAndAdd 7 (some .boolean)) (rmv 2 48) (va_Pc [.ref (gA G 72), .int p1, .int p2, .int p3, .int p4, .int p5] (Rl G (Cm, C))) (Qi G PZ r0 (Cm, C0)) 0 0 (lwA G) := by
  refine met_i [.ref (gA G 72), .int p1, .int p2, .int p3, .int p4, .int p5] wX11_lookAndAdd.2.2.2.2.2 (Nat.le_of_ble_eq_true rfl) ?_
  intro p e s m args below meth c ls hC hr hP hl
  have hC : Cx G p s m args meth c cX11_lookAndAdd RX11 7 := hC
  have hx := hC.1
  have hb := hC.2.1
  have hown := hC.2.2.2.1
  have hts := hC.2.2.2.2.1
  have hS : va_S (lwA G) s.heap s.heap [] := va_S.rf
  have hl : lv_has ls 7 [(0, .ref (gA G 72)), (1, .int p1), (2, .int p2), (3, .int p3), (4, .int p4), (5, .int p5)] := hl
  have bl35 : ∀ (y3 : Int32) (y4 : Int32) (y5 : Int32) (y6 : Int32) (s0 : Int32) (s1 : Int32) (s2 : Int32) (C : Mm) (H : Heap) (locs : List Loc) (ls : Array Slot), fX11_lookAndAdd_b35 n y3 y4 y5 y6 s0 s1 s2 C = some (r0, C0) → lv_has ls 7 [(0, .ref (gA G 72)), (3, .int y3), (4, .int y4), (5, .int y5), (6, .int y6)] → va_P (gD G) vwCl (wld G (Cm, C)) H → va_S (lwA G) s.heap H locs → W p l e (rmv 2 48) s m args below meth c H locs 0 0 (MQ below (Qi G PZ r0 (Cm, C0)) args s 0 0 (lwA G)) (F0 m 35 ls [.int s0, .int s1, .int s2, .ref (gA G 72)]) := by
    intro y3 y4 y5 y6 s0 s1 s2 C H locs ls h hl hP hS
    unfold fX11_lookAndAdd_b35 at h
    refine lv_iload_n hx hb dX11_lookAndAdd_35 rfl (lv_at hl 1 rfl) ?_
    obtain ⟨r2, hq1, h⟩ := bn_x h
    refine rc_i hS (run_S hC wX11_tens k1374 hP hS (As := [.int y3]) (rest := [.int s0, .int s1, .int s2, .ref (gA G 72)]) (mX11_tens l G Cm hq1) rfl hl.1 (Nat.le_of_ble_eq_true rfl) ⟨by decide, by decide⟩ ⟨Nat.le_refl _, Nat.le_refl _⟩ rfl dX11_lookAndAdd_36) (fun H locs pb3 hP hS => ?_)
    refine lv_imul hx hb dX11_lookAndAdd_39 ?_
    refine lv_iload hx hb dX11_lookAndAdd_40 (lv_at hl 3 rfl) ?_
    obtain ⟨r5, hq4, h⟩ := bn_x h
    refine rc_i hS (run_S hC wX11_tens k1374 hP hS (As := [.int y5]) (rest := [.int (s0 * r2), .int s1, .int s2, .ref (gA G 72)]) (mX11_tens l G Cm hq4) rfl hl.1 (Nat.le_of_ble_eq_true rfl) ⟨by decide, by decide⟩ ⟨Nat.le_refl _, Nat.le_refl _⟩ rfl dX11_lookAndAdd_42) (fun H locs pb6 hP hS => ?_)
    refine lv_imul hx hb dX11_lookAndAdd_45 ?_
    refine lv_iconst (v := 0) hx hb dX11_lookAndAdd_46 (by decide) ?_
    obtain ⟨C8, hq7, h⟩ := bn_x h
    refine rc_v hS (run_V hC wX11_acts k1356 (e_72 G _) rfl hP hS (As := [.int s2, .int s1, .int ((s0 * r2) * r5), .int 0]) (rest := []) (mX11_acts l G Cm hq7) rfl hl.1 (Nat.le_of_ble_eq_true rfl) ⟨by decide, by decide⟩ ⟨Nat.le_refl _, Nat.le_refl _⟩ rfl dX11_lookAndAdd_47) (fun H locs hP hS => ?_)
    refine lv_iload hx hb dX11_lookAndAdd_50 (lv_at hl 2 rfl) ?_
    refine lv_if_ne (tgt := 78) hx hb dX11_lookAndAdd_52 (by decide) (fun c9 => ?_) (fun c9 => ?_)
    · replace h := it_f c9 h
      refine lv_iconst (v := 0) hx hb dX11_lookAndAdd_78 (by decide) ?_
      exact re_z' hC hr hP hS PZ0 (pr_1 h) (congrArg (fun Z : Mm => (Cm, Z)) (pr_2 h)) dX11_lookAndAdd_79
    · replace h := it_t c9 h
      refine lv_aload_n hx hb dX11_lookAndAdd_55 rfl (lv_at hl 0 rfl) ?_
      refine lv_dup hx hb dX11_lookAndAdd_56 rfl ?_
      refine r_get (v := .int (C8.1 72 29)) hC inX11 hP (e_72 G _) rfl 29 (by decide) rfl k1079 rfl dX11_lookAndAdd_57 ?_
      refine lv_iload hx hb dX11_lookAndAdd_60 (lv_at hl 4 rfl) ?_
      refine lv_iadd hx hb dX11_lookAndAdd_62 ?_
      obtain ⟨C10, eC10⟩ : ∃ Z : Mm, Z = wrI C8 72 29 ((C8.1 72 29) + y6) := ⟨_, rfl⟩
      replace h := lt_y eC10 h
      refine r_put (X' := (Cm, C10)) hC inX11 tyX11 tyX11_ok nmX11 hP hS (e_72 G _) rfl 29 (by decide) rfl k1079 rfl (v := .int ((C8.1 72 29) + y6)) rfl rfl (Nat.le_of_ble_eq_true rfl) (p_72_29 G _ _ eC10) dX11_lookAndAdd_63 (fun H locs hP hS => ?_)
      refine lv_aload_n hx hb dX11_lookAndAdd_66 rfl (lv_at hl 0 rfl) ?_
      refine lv_iconst (v := 1) hx hb dX11_lookAndAdd_67 (by decide) ?_
      refine lv_aload_n hx hb dX11_lookAndAdd_68 rfl (lv_at hl 0 rfl) ?_
      refine r_get (v := .int (C10.1 72 29)) hC inX11 hP (e_72 G _) rfl 29 (by decide) rfl k1079 rfl dX11_lookAndAdd_69 ?_
      refine lv_iconst (v := 0) hx hb dX11_lookAndAdd_72 (by decide) ?_
      refine lv_iload hx hb dX11_lookAndAdd_73 (lv_at hl 3 rfl) ?_
      obtain ⟨C12, hq11, h⟩ := bn_x h
      refine rc_v hS (run_V hC wX11_acts k1356 (e_72 G _) rfl hP hS (As := [.int 1, .int (C10.1 72 29), .int 0, .int y5]) (rest := []) (mX11_acts l G Cm hq11) rfl hl.1 (Nat.le_of_ble_eq_true rfl) ⟨by decide, by decide⟩ ⟨Nat.le_refl _, Nat.le_refl _⟩ rfl dX11_lookAndAdd_75) (fun H locs hP hS => ?_)
      refine lv_iconst (v := 0) hx hb dX11_lookAndAdd_78 (by decide) ?_
      exact re_z' hC hr hP hS PZ0 (pr_1 h) (congrArg (fun Z : Mm => (Cm, Z)) (pr_2 h)) dX11_lookAndAdd_79
  have bl21 : ∀ (y1 : Int32) (y2 : Int32) (y3 : Int32) (y4 : Int32) (y5 : Int32) (y6 : Int32) (C : Mm) (H : Heap) (locs : List Loc) (ls : Array Slot), fX11_lookAndAdd_b21 n y1 y2 y3 y4 y5 y6 C = some (r0, C0) → lv_has ls 7 [(0, .ref (gA G 72)), (1, .int y1), (2, .int y2), (3, .int y3), (4, .int y4), (5, .int y5), (6, .int y6)] → va_P (gD G) vwCl (wld G (Cm, C)) H → va_S (lwA G) s.heap H locs → W p l e (rmv 2 48) s m args below meth c H locs 0 0 (MQ below (Qi G PZ r0 (Cm, C0)) args s 0 0 (lwA G)) (F0 m 21 ls []) := by
    intro y1 y2 y3 y4 y5 y6 C H locs ls h hl hP hS
    unfold fX11_lookAndAdd_b21 at h
    refine lv_aload_n hx hb dX11_lookAndAdd_21 rfl (lv_at hl 0 rfl) ?_
    refine lv_iconst (v := 0) hx hb dX11_lookAndAdd_22 (by decide) ?_
    refine lv_iload hx hb dX11_lookAndAdd_23 (lv_at hl 6 rfl) ?_
    refine lv_iload_n hx hb dX11_lookAndAdd_25 rfl (lv_at hl 1 rfl) ?_
    refine lv_iload_n hx hb dX11_lookAndAdd_26 rfl (lv_at hl 2 rfl) ?_
    refine lv_icmp_ge (tgt := 34) hx hb dX11_lookAndAdd_27 (by decide) (fun c13 => ?_) (fun c13 => ?_)
    · replace h := it_t c13 h
      refine lv_iload_n hx hb dX11_lookAndAdd_34 rfl (lv_at hl 2 rfl) ?_
      exact bl35 y3 y4 y5 y6 y2 y6 0 C _ _ _ h (lv_sub hl [0, 3, 4, 5, 6] rfl) hP hS
    · replace h := it_f c13 h
      refine lv_iload_n hx hb dX11_lookAndAdd_30 rfl (lv_at hl 1 rfl) ?_
      refine lv_goto (tgt := 35) hx hb dX11_lookAndAdd_31 (by decide) ?_
      exact bl35 y3 y4 y5 y6 y1 y6 0 C _ _ _ h (lv_sub hl [0, 3, 4, 5, 6] rfl) hP hS
  unfold fX11_lookAndAdd at h
  refine lv_iload_n hx hb dX11_lookAndAdd_0 rfl (lv_at hl 1 rfl) ?_
  refine lv_iload_n hx hb dX11_lookAndAdd_1 rfl (lv_at hl 2 rfl) ?_
  refine lv_imul hx hb dX11_lookAndAdd_2 ?_
  refine lv_iload_n hx hb dX11_lookAndAdd_3 rfl (lv_at hl 3 rfl) ?_
  obtain ⟨r15, hq14, h⟩ := bn_x h
  refine rc_i hS (run_S hC wX11_tens k1374 hP hS (As := [.int p3]) (rest := [.int (p1 * p2)]) (mX11_tens l G Cm hq14) rfl hl.1 (Nat.le_of_ble_eq_true rfl) ⟨by decide, by decide⟩ ⟨Nat.le_refl _, Nat.le_refl _⟩ rfl dX11_lookAndAdd_4) (fun H locs pb16 hP hS => ?_)
  refine lv_imul hx hb dX11_lookAndAdd_7 ?_
  refine lv_topi (fun x17 ex17 => ?_)
  replace h := lt_y ex17 h
  refine lv_istore (lv' := [(6, .int x17), (0, .ref (gA G 72)), (1, .int p1), (2, .int p2), (3, .int p3), (4, .int p4), (5, .int p5)]) hx hb dX11_lookAndAdd_8 hl (by decide) rfl (fun ls hl => ?_)
  refine lv_iload hx hb dX11_lookAndAdd_10 (lv_at hl 5 rfl) ?_
  refine lv_if_eq (tgt := 21) hx hb dX11_lookAndAdd_12 (by decide) (fun c18 => ?_) (fun c18 => ?_)
  · replace h := it_t c18 h
    exact bl21 p1 p2 p3 p4 p5 x17 C _ _ _ h (lv_sub hl [1, 2, 3, 4, 5, 6, 0] rfl) hP hS
  · replace h := it_f c18 h
    refine lv_aload_n hx hb dX11_lookAndAdd_15 rfl (lv_at hl 1 rfl) ?_
    refine lv_iload hx hb dX11_lookAndAdd_16 (lv_at hl 0 rfl) ?_
    obtain ⟨C19, eC19⟩ : ∃ Z : Mm, Z = wrI C 72 29 x17 := ⟨_, rfl⟩
    replace h := lt_y eC19 h
    refine r_put (X' := (Cm, C19)) hC inX11 tyX11 tyX11_ok nmX11 hP hS (e_72 G _) rfl 29 (by decide) rfl k1079 rfl (v := .int x17) rfl rfl (Nat.le_of_ble_eq_true rfl) (p_72_29 G _ _ eC19) dX11_lookAndAdd_18 (fun H locs hP hS => ?_)
    exact bl21 p1 p2 p3 p4 p5 x17 C19 _ _ _ h (lv_sub hl [1, 2, 3, 4, 5, 6, 0] rfl) hP hS
set_option maxHeartbeats 4000000 in
set_option maxRecDepth 100000 in
theorem mX11_goLeft (l : Launch) (G : gp) (Cm : Mm) {n : Nat} {p1 : Int32} {p2 : Int32} {C : Mm} {C0 : Mm} (h : fX11_goLeft n p1 p2 C = some C0) : Met l yX11_goLeft (wsy yX11_goLeft cX11_goLeft 6 none) (rmv 3 74) (va_Pc [.ref (gA G 72), .int p1, .int p2] (Rl G (Cm, C))) (Qv G (Cm, C0)) 0 0 (lwA G) := by
  refine met_i [.ref (gA G 72), .int p1, .int p2] wX11_goLeft.2.2.2.2.2 (Nat.le_of_ble_eq_true rfl) ?_
  intro p e s m args below meth c ls hC hr hP hl
  have hC : Cx G p s m args meth c cX11_goLeft RX11 6 := hC
  have hx := hC.1
  have hb := hC.2.1
  have hown := hC.2.2.2.1
  have hts := hC.2.2.2.2.1
  have hS : va_S (lwA G) s.heap s.heap [] := va_S.rf
  have hl : lv_has ls 6 [(0, .ref (gA G 72)), (1, .int p1), (2, .int p2)] := hl
  have bl70 : ∀ (k10 : Int32 → Int32 → Int32 → Int32 → Mm → Option Mm) (hk10 : ∀ (y1 : Int32) (y2 : Int32) (y3 : Int32) (y4 : Int32) (C : Mm) (H : Heap) (locs : List Loc) (ls : Array Slot), k10 y1 y2 y3 y4 C = some C0 → lv_has ls 6 [(0, .ref (gA G 72)), (1, .int y1), (2, .int y2), (3, .int y3), (4, .int y4)] → va_P (gD G) vwCl (wld G (Cm, C)) H → va_S (lwA G) s.heap H locs → W p l e (rmv 3 74) s m args below meth c H locs 0 0 (MQ below (Qv G (Cm, C0)) args s 0 0 (lwA G)) (F0 m 10 ls [])) (k23 : Int32 → Int32 → Int32 → Int32 → Int32 → Mm → Option Mm) (hk23 : ∀ (y1 : Int32) (y2 : Int32) (y3 : Int32) (y4 : Int32) (y5 : Int32) (C : Mm) (H : Heap) (locs : List Loc) (ls : Array Slot), k23 y1 y2 y3 y4 y5 C = some C0 → lv_has ls 6 [(0, .ref (gA G 72)), (1, .int y1), (2, .int y2), (3, .int y3), (4, .int y4), (5, .int y5)] → va_P (gD G) vwCl (wld G (Cm, C)) H → va_S (lwA G) s.heap H locs → W p l e (rmv 3 74) s m args below meth c H locs 0 0 (MQ below (Qv G (Cm, C0)) args s 0 0 (lwA G)) (F0 m 23 ls [])), ∀ (y1 : Int32) (y2 : Int32) (y3 : Int32) (y4 : Int32) (y5 : Int32) (C : Mm) (H : Heap) (locs : List Loc) (ls : Array Slot), fX11_goLeft_b70 n k10 k23 y1 y2 y3 y4 y5 C = some C0 → lv_has ls 6 [(0, .ref (gA G 72)), (1, .int y1), (2, .int y2), (3, .int y3), (4, .int y4), (5, .int y5)] → va_P (gD G) vwCl (wld G (Cm, C)) H → va_S (lwA G) s.heap H locs → W p l e (rmv 3 74) s m args below meth c H locs 0 0 (MQ below (Qv G (Cm, C0)) args s 0 0 (lwA G)) (F0 m 70 ls []) := by
    intro k10 hk10 k23 hk23 y1 y2 y3 y4 y5 C H locs ls h hl hP hS
    unfold fX11_goLeft_b70 at h
    obtain ⟨x1, ex1⟩ : ∃ y : Int32, y = y5 + (-1) := ⟨_, rfl⟩
    replace h := lt_y ex1 h
    refine lv_iinc (v := x1) (lv' := [(5, .int x1), (0, .ref (gA G 72)), (1, .int y1), (2, .int y2), (3, .int y3), (4, .int y4)]) hx hb dX11_goLeft_70 hl (k := 5) rfl (by rw [ex1]; rfl) (by decide) rfl (fun ls hl => ?_)
    refine lv_goto (tgt := 23) hx hb dX11_goLeft_73 (by decide) ?_
    exact hk23 y1 y2 y3 y4 x1 C _ _ _ h (lv_sub hl [1, 2, 3, 4, 5, 0] rfl) hP hS
  have bl23 : ∀ (k10 : Int32 → Int32 → Int32 → Int32 → Mm → Option Mm) (hk10 : ∀ (y1 : Int32) (y2 : Int32) (y3 : Int32) (y4 : Int32) (C : Mm) (H : Heap) (locs : List Loc) (ls : Array Slot), k10 y1 y2 y3 y4 C = some C0 → lv_has ls 6 [(0, .ref (gA G 72)), (1, .int y1), (2, .int y2), (3, .int y3), (4, .int y4)] → va_P (gD G) vwCl (wld G (Cm, C)) H → va_S (lwA G) s.heap H locs → W p l e (rmv 3 74) s m args below meth c H locs 0 0 (MQ below (Qv G (Cm, C0)) args s 0 0 (lwA G)) (F0 m 10 ls [])) (fu : Nat), ∀ (y1 : Int32) (y2 : Int32) (y3 : Int32) (y4 : Int32) (y5 : Int32) (C : Mm) (H : Heap) (locs : List Loc) (ls : Array Slot), fX11_goLeft_h23 n k10 fu y1 y2 y3 y4 y5 C = some C0 → lv_has ls 6 [(0, .ref (gA G 72)), (1, .int y1), (2, .int y2), (3, .int y3), (4, .int y4), (5, .int y5)] → va_P (gD G) vwCl (wld G (Cm, C)) H → va_S (lwA G) s.heap H locs → W p l e (rmv 3 74) s m args below meth c H locs 0 0 (MQ below (Qv G (Cm, C0)) args s 0 0 (lwA G)) (F0 m 23 ls []) := by
    intro k10 hk10 fu
    induction fu with
    | zero =>
      intro y1 y2 y3 y4 y5 C H locs ls h hl hP hS
      rw [fX11_goLeft_h23.eq_1] at h
      cases h
    | succ fu ih =>
      intro y1 y2 y3 y4 y5 C H locs ls h hl hP hS
      rw [fX11_goLeft_h23.eq_2] at h
      refine lv_iload hx hb dX11_goLeft_23 (lv_at hl 5 rfl) ?_
      refine lv_if_lt (tgt := 76) hx hb dX11_goLeft_25 (by decide) (fun c2 => ?_) (fun c2 => ?_)
      · replace h := it_t c2 h
        obtain ⟨x3, ex3⟩ : ∃ y : Int32, y = y4 + (-1) := ⟨_, rfl⟩
        replace h := lt_y ex3 h
        refine lv_iinc (v := x3) (lv' := [(4, .int x3), (0, .ref (gA G 72)), (1, .int y1), (2, .int y2), (3, .int y3), (5, .int y5)]) hx hb dX11_goLeft_76 hl (k := 4) rfl (by rw [ex3]; rfl) (by decide) rfl (fun ls hl => ?_)
        refine lv_goto (tgt := 10) hx hb dX11_goLeft_79 (by decide) ?_
        exact hk10 y1 y2 y3 x3 C _ _ _ h (lv_sub hl [1, 2, 3, 4, 0] rfl) hP hS
      · replace h := it_f c2 h
        refine lv_iload_n hx hb dX11_goLeft_28 rfl (lv_at hl 1 rfl) ?_
        refine lv_iload hx hb dX11_goLeft_29 (lv_at hl 4 rfl) ?_
        obtain ⟨r5, hq4, h⟩ := bn_x h
        refine rc_i hS (run_S hC wX11_figure k1367 hP hS (As := [.int y1, .int y4]) (rest := []) (mX11_figure l G Cm hq4) rfl hl.1 (Nat.le_of_ble_eq_true rfl) ⟨by decide, by decide⟩ ⟨Nat.le_refl _, Nat.le_refl _⟩ rfl dX11_goLeft_31) (fun H locs pb6 hP hS => ?_)
        refine lv_if_le (tgt := 70) hx hb dX11_goLeft_34 (by decide) (fun c7 => ?_) (fun c7 => ?_)
        · replace h := it_t c7 h
          exact bl70 k10 hk10 (fX11_goLeft_h23 n k10 fu) ih y1 y2 y3 y4 y5 C _ _ _ h (lv_sub hl [0, 1, 2, 3, 4, 5] rfl) hP hS
        · replace h := it_f c7 h
          refine lv_iload_n hx hb dX11_goLeft_37 rfl (lv_at hl 2 rfl) ?_
          refine lv_iload hx hb dX11_goLeft_38 (lv_at hl 5 rfl) ?_
          obtain ⟨r9, hq8, h⟩ := bn_x h
          refine rc_i hS (run_S hC wX11_figure k1367 hP hS (As := [.int y2, .int y5]) (rest := []) (mX11_figure l G Cm hq8) rfl hl.1 (Nat.le_of_ble_eq_true rfl) ⟨by decide, by decide⟩ ⟨Nat.le_refl _, Nat.le_refl _⟩ rfl dX11_goLeft_40) (fun H locs pb10 hP hS => ?_)
          refine lv_if_le (tgt := 70) hx hb dX11_goLeft_43 (by decide) (fun c11 => ?_) (fun c11 => ?_)
          · replace h := it_t c11 h
            exact bl70 k10 hk10 (fX11_goLeft_h23 n k10 fu) ih y1 y2 y3 y4 y5 C _ _ _ h (lv_sub hl [0, 1, 2, 3, 4, 5] rfl) hP hS
          · replace h := it_f c11 h
            refine lv_aload_n hx hb dX11_goLeft_46 rfl (lv_at hl 0 rfl) ?_
            refine lv_iload_n hx hb dX11_goLeft_47 rfl (lv_at hl 1 rfl) ?_
            refine lv_iload hx hb dX11_goLeft_48 (lv_at hl 4 rfl) ?_
            obtain ⟨r13, hq12, h⟩ := bn_x h
            refine rc_i hS (run_S hC wX11_figure k1367 hP hS (As := [.int y1, .int y4]) (rest := [.ref (gA G 72)]) (mX11_figure l G Cm hq12) rfl hl.1 (Nat.le_of_ble_eq_true rfl) ⟨by decide, by decide⟩ ⟨Nat.le_refl _, Nat.le_refl _⟩ rfl dX11_goLeft_50) (fun H locs pb14 hP hS => ?_)
            refine lv_iload_n hx hb dX11_goLeft_53 rfl (lv_at hl 2 rfl) ?_
            refine lv_iload hx hb dX11_goLeft_54 (lv_at hl 5 rfl) ?_
            obtain ⟨r16, hq15, h⟩ := bn_x h
            refine rc_i hS (run_S hC wX11_figure k1367 hP hS (As := [.int y2, .int y5]) (rest := [.int r13, .ref (gA G 72)]) (mX11_figure l G Cm hq15) rfl hl.1 (Nat.le_of_ble_eq_true rfl) ⟨by decide, by decide⟩ ⟨Nat.le_refl _, Nat.le_refl _⟩ rfl dX11_goLeft_56) (fun H locs pb17 hP hS => ?_)
            refine lv_iload hx hb dX11_goLeft_59 (lv_at hl 4 rfl) ?_
            refine lv_iload hx hb dX11_goLeft_61 (lv_at hl 5 rfl) ?_
            refine lv_iadd hx hb dX11_goLeft_63 ?_
            refine lv_iload_n hx hb dX11_goLeft_64 rfl (lv_at hl 3 rfl) ?_
            refine lv_iconst (v := 0) hx hb dX11_goLeft_65 (by decide) ?_
            obtain ⟨r19, C20, hq18, h⟩ := bp_x h
            refine rc_i hS (run_V hC wX11_lookAndAdd k1370 (e_72 G _) rfl hP hS (As := [.int r13, .int r16, .int (y4 + y5), .int y3, .int 0]) (rest := []) (mX11_lookAndAdd l G Cm hq18) rfl hl.1 (Nat.le_of_ble_eq_true rfl) ⟨by decide, by decide⟩ ⟨Nat.le_refl _, Nat.le_refl _⟩ rfl dX11_goLeft_66) (fun H locs pb21 hP hS => ?_)
            refine lv_istore_n (lv' := [(3, .int r19), (0, .ref (gA G 72)), (1, .int y1), (2, .int y2), (4, .int y4), (5, .int y5)]) hx hb dX11_goLeft_69 rfl hl (by decide) rfl (fun ls hl => ?_)
            exact bl70 k10 hk10 (fX11_goLeft_h23 n k10 fu) ih y1 y2 r19 y4 y5 C20 _ _ _ h (lv_sub hl [1, 2, 3, 0, 4, 5] rfl) hP hS
  have bl10 : ∀ (fu : Nat), ∀ (y1 : Int32) (y2 : Int32) (y3 : Int32) (y4 : Int32) (C : Mm) (H : Heap) (locs : List Loc) (ls : Array Slot), fX11_goLeft_h10 n fu y1 y2 y3 y4 C = some C0 → lv_has ls 6 [(0, .ref (gA G 72)), (1, .int y1), (2, .int y2), (3, .int y3), (4, .int y4)] → va_P (gD G) vwCl (wld G (Cm, C)) H → va_S (lwA G) s.heap H locs → W p l e (rmv 3 74) s m args below meth c H locs 0 0 (MQ below (Qv G (Cm, C0)) args s 0 0 (lwA G)) (F0 m 10 ls []) := by
    intro fu
    induction fu with
    | zero =>
      intro y1 y2 y3 y4 C H locs ls h hl hP hS
      rw [fX11_goLeft_h10.eq_1] at h
      cases h
    | succ fu ih =>
      intro y1 y2 y3 y4 C H locs ls h hl hP hS
      rw [fX11_goLeft_h10.eq_2] at h
      refine lv_iload hx hb dX11_goLeft_10 (lv_at hl 4 rfl) ?_
      refine lv_if_lt (tgt := 82) hx hb dX11_goLeft_12 (by decide) (fun c22 => ?_) (fun c22 => ?_)
      · replace h := it_t c22 h
        exact re_v' hC hr hP hS (congrArg (fun Z : Mm => (Cm, Z)) (Option.some.inj h)) dX11_goLeft_82
      · replace h := it_f c22 h
        refine lv_iload_n hx hb dX11_goLeft_15 rfl (lv_at hl 2 rfl) ?_
        obtain ⟨r24, hq23, h⟩ := bn_x h
        refine rc_i hS (run_S hC wX11_digits k1360 hP hS (As := [.int y2]) (rest := []) (mX11_digits l G Cm hq23) rfl hl.1 (Nat.le_of_ble_eq_true rfl) ⟨by decide, by decide⟩ ⟨Nat.le_refl _, Nat.le_refl _⟩ rfl dX11_goLeft_16) (fun H locs pb25 hP hS => ?_)
        refine lv_iconst (v := 1) hx hb dX11_goLeft_19 (by decide) ?_
        refine lv_isub hx hb dX11_goLeft_20 ?_
        refine lv_topi (fun x26 ex26 => ?_)
        replace h := lt_y ex26 h
        refine lv_istore (lv' := [(5, .int x26), (0, .ref (gA G 72)), (1, .int y1), (2, .int y2), (3, .int y3), (4, .int y4)]) hx hb dX11_goLeft_21 hl (by decide) rfl (fun ls hl => ?_)
        exact bl23 (fX11_goLeft_h10 n fu) ih n y1 y2 y3 y4 x26 C _ _ _ h (lv_sub hl [1, 2, 3, 4, 5, 0] rfl) hP hS
  unfold fX11_goLeft at h
  refine lv_iconst (v := 1) hx hb dX11_goLeft_0 (by decide) ?_
  refine lv_istore_n (lv' := [(3, .int 1), (0, .ref (gA G 72)), (1, .int p1), (2, .int p2)]) hx hb dX11_goLeft_1 rfl hl (by decide) rfl (fun ls hl => ?_)
  refine lv_iload_n hx hb dX11_goLeft_2 rfl (lv_at hl 2 rfl) ?_
  obtain ⟨r28, hq27, h⟩ := bn_x h
  refine rc_i hS (run_S hC wX11_digits k1360 hP hS (As := [.int p1]) (rest := []) (mX11_digits l G Cm hq27) rfl hl.1 (Nat.le_of_ble_eq_true rfl) ⟨by decide, by decide⟩ ⟨Nat.le_refl _, Nat.le_refl _⟩ rfl dX11_goLeft_3) (fun H locs pb29 hP hS => ?_)
  refine lv_iconst (v := 1) hx hb dX11_goLeft_6 (by decide) ?_
  refine lv_isub hx hb dX11_goLeft_7 ?_
  refine lv_topi (fun x30 ex30 => ?_)
  replace h := lt_y ex30 h
  refine lv_istore (lv' := [(4, .int x30), (3, .int 1), (0, .ref (gA G 72)), (1, .int p1), (2, .int p2)]) hx hb dX11_goLeft_8 hl (by decide) rfl (fun ls hl => ?_)
  exact bl10 n p1 p2 1 x30 C _ _ _ h (lv_sub hl [2, 3, 4, 1, 0] rfl) hP hS
set_option maxHeartbeats 4000000 in
set_option maxRecDepth 100000 in
theorem mX11_goRight (l : Launch) (G : gp) (Cm : Mm) {n : Nat} {p1 : Int32} {p2 : Int32} {C : Mm} {C0 : Mm} (h : fX11_goRight n p1 p2 C = some C0) : Met l yX11_goRight (wsy yX11_goRight cX11_goRight 5 none) (rmv 4 99) (va_Pc [.ref (gA G 72), .int p1, .int p2] (Rl G (Cm, C))) (Qv G (Cm, C0)) 0 0 (lwA G) := by
  refine met_i [.ref (gA G 72), .int p1, .int p2] wX11_goRight.2.2.2.2.2 (Nat.le_of_ble_eq_true rfl) ?_
  intro p e s m args below meth c ls hC hr hP hl
  have hC : Cx G p s m args meth c cX11_goRight RX11 5 := hC
  have hx := hC.1
  have hb := hC.2.1
  have hown := hC.2.2.2.1
  have hts := hC.2.2.2.2.1
  have hS : va_S (lwA G) s.heap s.heap [] := va_S.rf
  have hl : lv_has ls 5 [(0, .ref (gA G 72)), (1, .int p1), (2, .int p2)] := hl
  have bl98 : ∀ (fu : Nat), ∀ (y3 : Int32) (y4 : Int32) (C : Mm) (H : Heap) (locs : List Loc) (ls : Array Slot), fX11_goRight_h98 n fu y3 y4 C = some C0 → lv_has ls 5 [(0, .ref (gA G 72)), (3, .int y3), (4, .int y4)] → va_P (gD G) vwCl (wld G (Cm, C)) H → va_S (lwA G) s.heap H locs → W p l e (rmv 4 99) s m args below meth c H locs 0 0 (MQ below (Qv G (Cm, C0)) args s 0 0 (lwA G)) (F0 m 98 ls []) := by
    intro fu
    induction fu with
    | zero =>
      intro y3 y4 C H locs ls h hl hP hS
      rw [fX11_goRight_h98.eq_1] at h
      cases h
    | succ fu ih =>
      intro y3 y4 C H locs ls h hl hP hS
      rw [fX11_goRight_h98.eq_2] at h
      refine lv_iload hx hb dX11_goRight_98 (lv_at hl 2 rfl) ?_
      refine lv_iload_n hx hb dX11_goRight_100 rfl (lv_at hl 1 rfl) ?_
      refine lv_icmp_ge (tgt := 156) hx hb dX11_goRight_101 (by decide) (fun c1 => ?_) (fun c1 => ?_)
      · replace h := it_t c1 h
        exact re_v' hC hr hP hS (congrArg (fun Z : Mm => (Cm, Z)) (Option.some.inj h)) dX11_goRight_156
      · replace h := it_f c1 h
        refine lv_aload_n hx hb dX11_goRight_104 rfl (lv_at hl 0 rfl) ?_
        refine lv_dup hx hb dX11_goRight_105 rfl ?_
        refine r_get (v := .int (C.1 72 29)) hC inX11 hP (e_72 G _) rfl 29 (by decide) rfl k1079 rfl dX11_goRight_106 ?_
        refine lv_aload_n hx hb dX11_goRight_109 rfl (lv_at hl 0 rfl) ?_
        refine r_get (v := .ref (gA G 90)) hC inX11 hP (e_72 G _) rfl 32 (by decide) rfl k1082 rfl dX11_goRight_110 ?_
        refine lv_iload hx hb dX11_goRight_113 (lv_at hl 2 rfl) ?_
        by_cases c2 : y4 < (0 : Int32) ∨ 4 ≤ Int32.toNatClampNeg y4
        · cases it_t c2 h
        replace h := it_f c2 h
        refine r_iald hC hP (f := C.1 90) (e_90 G _) c2 dX11_goRight_115 ?_
        refine lv_iadd hx hb dX11_goRight_116 ?_
        obtain ⟨C3, eC3⟩ : ∃ Z : Mm, Z = wrI C 72 29 ((C.1 72 29) + (C.1 90 (Int32.toNatClampNeg y4))) := ⟨_, rfl⟩
        replace h := lt_y eC3 h
        refine r_put (X' := (Cm, C3)) hC inX11 tyX11 tyX11_ok nmX11 hP hS (e_72 G _) rfl 29 (by decide) rfl k1079 rfl (v := .int ((C.1 72 29) + (C.1 90 (Int32.toNatClampNeg y4)))) rfl rfl (Nat.le_of_ble_eq_true rfl) (p_72_29 G _ _ eC3) dX11_goRight_117 (fun H locs hP hS => ?_)
        refine lv_aload_n hx hb dX11_goRight_120 rfl (lv_at hl 0 rfl) ?_
        refine lv_dup hx hb dX11_goRight_121 rfl ?_
        refine r_get (v := .int (C3.1 72 28)) hC inX11 hP (e_72 G _) rfl 28 (by decide) rfl k1078 rfl dX11_goRight_122 ?_
        refine lv_aload_n hx hb dX11_goRight_125 rfl (lv_at hl 0 rfl) ?_
        refine r_get (v := .ref (gA G 90)) hC inX11 hP (e_72 G _) rfl 32 (by decide) rfl k1082 rfl dX11_goRight_126 ?_
        refine lv_iload hx hb dX11_goRight_129 (lv_at hl 2 rfl) ?_
        by_cases c4 : y4 < (0 : Int32) ∨ 4 ≤ Int32.toNatClampNeg y4
        · cases it_t c4 h
        replace h := it_f c4 h
        refine r_iald hC hP (f := C3.1 90) (e_90 G _) c4 dX11_goRight_131 ?_
        obtain ⟨r6, hq5, h⟩ := bn_x h
        refine rc_i hS (run_S hC wX11_digits k1360 hP hS (As := [.int (C3.1 90 (Int32.toNatClampNeg y4))]) (rest := [.int (C3.1 72 28), .ref (gA G 72)]) (mX11_digits l G Cm hq5) rfl hl.1 (Nat.le_of_ble_eq_true rfl) ⟨by decide, by decide⟩ ⟨Nat.le_refl _, Nat.le_refl _⟩ rfl dX11_goRight_132) (fun H locs pb7 hP hS => ?_)
        refine lv_isub hx hb dX11_goRight_135 ?_
        obtain ⟨C8, eC8⟩ : ∃ Z : Mm, Z = wrI C3 72 28 ((C3.1 72 28) - r6) := ⟨_, rfl⟩
        replace h := lt_y eC8 h
        refine r_put (X' := (Cm, C8)) hC inX11 tyX11 tyX11_ok nmX11 hP hS (e_72 G _) rfl 28 (by decide) rfl k1078 rfl (v := .int ((C3.1 72 28) - r6)) rfl rfl (Nat.le_of_ble_eq_true rfl) (p_72_28 G _ _ eC8) dX11_goRight_136 (fun H locs hP hS => ?_)
        refine lv_aload_n hx hb dX11_goRight_139 rfl (lv_at hl 0 rfl) ?_
        refine lv_iconst (v := 1) hx hb dX11_goRight_140 (by decide) ?_
        refine lv_aload_n hx hb dX11_goRight_141 rfl (lv_at hl 0 rfl) ?_
        refine r_get (v := .int (C8.1 72 29)) hC inX11 hP (e_72 G _) rfl 29 (by decide) rfl k1079 rfl dX11_goRight_142 ?_
        refine lv_iconst (v := 0) hx hb dX11_goRight_145 (by decide) ?_
        refine lv_iconst (v := 0) hx hb dX11_goRight_146 (by decide) ?_
        obtain ⟨C10, hq9, h⟩ := bn_x h
        refine rc_v hS (run_V hC wX11_acts k1356 (e_72 G _) rfl hP hS (As := [.int 1, .int (C8.1 72 29), .int 0, .int 0]) (rest := []) (mX11_acts l G Cm hq9) rfl hl.1 (Nat.le_of_ble_eq_true rfl) ⟨by decide, by decide⟩ ⟨Nat.le_refl _, Nat.le_refl _⟩ rfl dX11_goRight_147) (fun H locs hP hS => ?_)
        obtain ⟨x11, ex11⟩ : ∃ y : Int32, y = y4 + 1 := ⟨_, rfl⟩
        replace h := lt_y ex11 h
        refine lv_iinc (v := x11) (lv' := [(4, .int x11), (0, .ref (gA G 72)), (3, .int y3)]) hx hb dX11_goRight_150 hl (k := 2) rfl (by rw [ex11]; rfl) (by decide) rfl (fun ls hl => ?_)
        refine lv_goto (tgt := 98) hx hb dX11_goRight_153 (by decide) ?_
        exact ih y3 x11 C10 _ _ _ h (lv_sub hl [1, 2, 0] rfl) hP hS
  have bl57 : ∀ (k5 : Int32 → Int32 → Int32 → Int32 → Mm → Option Mm) (hk5 : ∀ (y1 : Int32) (y2 : Int32) (y3 : Int32) (y4 : Int32) (C : Mm) (H : Heap) (locs : List Loc) (ls : Array Slot), k5 y1 y2 y3 y4 C = some C0 → lv_has ls 5 [(0, .ref (gA G 72)), (1, .int y1), (2, .int y2), (3, .int y3), (4, .int y4)] → va_P (gD G) vwCl (wld G (Cm, C)) H → va_S (lwA G) s.heap H locs → W p l e (rmv 4 99) s m args below meth c H locs 0 0 (MQ below (Qv G (Cm, C0)) args s 0 0 (lwA G)) (F0 m 5 ls [])), ∀ (y1 : Int32) (y2 : Int32) (y3 : Int32) (y4 : Int32) (C : Mm) (H : Heap) (locs : List Loc) (ls : Array Slot), fX11_goRight_b57 n k5 y1 y2 y3 y4 C = some C0 → lv_has ls 5 [(0, .ref (gA G 72)), (1, .int y1), (2, .int y2), (3, .int y3), (4, .int y4)] → va_P (gD G) vwCl (wld G (Cm, C)) H → va_S (lwA G) s.heap H locs → W p l e (rmv 4 99) s m args below meth c H locs 0 0 (MQ below (Qv G (Cm, C0)) args s 0 0 (lwA G)) (F0 m 57 ls []) := by
    intro k5 hk5 y1 y2 y3 y4 C H locs ls h hl hP hS
    unfold fX11_goRight_b57 at h
    obtain ⟨x12, ex12⟩ : ∃ y : Int32, y = y4 + 1 := ⟨_, rfl⟩
    replace h := lt_y ex12 h
    refine lv_iinc (v := x12) (lv' := [(4, .int x12), (0, .ref (gA G 72)), (1, .int y1), (2, .int y2), (3, .int y3)]) hx hb dX11_goRight_57 hl (k := 4) rfl (by rw [ex12]; rfl) (by decide) rfl (fun ls hl => ?_)
    refine lv_goto (tgt := 5) hx hb dX11_goRight_60 (by decide) ?_
    exact hk5 y1 y2 y3 x12 C _ _ _ h (lv_sub hl [1, 2, 3, 4, 0] rfl) hP hS
  have bl5 : ∀ (fu : Nat), ∀ (y1 : Int32) (y2 : Int32) (y3 : Int32) (y4 : Int32) (C : Mm) (H : Heap) (locs : List Loc) (ls : Array Slot), fX11_goRight_h5 n fu y1 y2 y3 y4 C = some C0 → lv_has ls 5 [(0, .ref (gA G 72)), (1, .int y1), (2, .int y2), (3, .int y3), (4, .int y4)] → va_P (gD G) vwCl (wld G (Cm, C)) H → va_S (lwA G) s.heap H locs → W p l e (rmv 4 99) s m args below meth c H locs 0 0 (MQ below (Qv G (Cm, C0)) args s 0 0 (lwA G)) (F0 m 5 ls []) := by
    intro fu
    induction fu with
    | zero =>
      intro y1 y2 y3 y4 C H locs ls h hl hP hS
      rw [fX11_goRight_h5.eq_1] at h
      cases h
    | succ fu ih =>
      intro y1 y2 y3 y4 C H locs ls h hl hP hS
      rw [fX11_goRight_h5.eq_2] at h
      refine lv_iload hx hb dX11_goRight_5 (lv_at hl 4 rfl) ?_
      refine lv_iload_n hx hb dX11_goRight_7 rfl (lv_at hl 2 rfl) ?_
      obtain ⟨r14, hq13, h⟩ := bn_x h
      refine rc_i hS (run_S hC wX11_digits k1360 hP hS (As := [.int y2]) (rest := [.int y4]) (mX11_digits l G Cm hq13) rfl hl.1 (Nat.le_of_ble_eq_true rfl) ⟨by decide, by decide⟩ ⟨Nat.le_refl _, Nat.le_refl _⟩ rfl dX11_goRight_8) (fun H locs pb15 hP hS => ?_)
      refine lv_icmp_ge (tgt := 63) hx hb dX11_goRight_11 (by decide) (fun c16 => ?_) (fun c16 => ?_)
      · replace h := it_t c16 h
        refine lv_iload_n hx hb dX11_goRight_63 rfl (lv_at hl 3 rfl) ?_
        refine lv_iconst (v := 2) hx hb dX11_goRight_64 (by decide) ?_
        refine lv_icmp_ge (tgt := 69) hx hb dX11_goRight_65 (by decide) (fun c17 => ?_) (fun c17 => ?_)
        · replace h := it_t c17 h
          refine lv_aload_n hx hb dX11_goRight_69 rfl (lv_at hl 0 rfl) ?_
          refine lv_aload_n hx hb dX11_goRight_70 rfl (lv_at hl 0 rfl) ?_
          refine r_get (v := .ref (gA G 90)) hC inX11 hP (e_72 G _) rfl 32 (by decide) rfl k1082 rfl dX11_goRight_71 ?_
          refine lv_iconst (v := 0) hx hb dX11_goRight_74 (by decide) ?_
          by_cases c18 : 0 < (0 : Int32) ∨ 4 ≤ Int32.toNatClampNeg 0
          · cases it_t c18 h
          replace h := it_f c18 h
          refine r_iald hC hP (f := C.1 90) (e_90 G _) c18 dX11_goRight_75 ?_
          obtain ⟨C19, eC19⟩ : ∃ Z : Mm, Z = wrI C 72 29 (C.1 90 (Int32.toNatClampNeg 0)) := ⟨_, rfl⟩
          replace h := lt_y eC19 h
          refine r_put (X' := (Cm, C19)) hC inX11 tyX11 tyX11_ok nmX11 hP hS (e_72 G _) rfl 29 (by decide) rfl k1079 rfl (v := .int (C.1 90 (Int32.toNatClampNeg 0))) rfl rfl (Nat.le_of_ble_eq_true rfl) (p_72_29 G _ _ eC19) dX11_goRight_76 (fun H locs hP hS => ?_)
          refine lv_aload_n hx hb dX11_goRight_79 rfl (lv_at hl 0 rfl) ?_
          refine lv_dup hx hb dX11_goRight_80 rfl ?_
          refine r_get (v := .int (C19.1 72 28)) hC inX11 hP (e_72 G _) rfl 28 (by decide) rfl k1078 rfl dX11_goRight_81 ?_
          refine lv_aload_n hx hb dX11_goRight_84 rfl (lv_at hl 0 rfl) ?_
          refine r_get (v := .int (C19.1 72 29)) hC inX11 hP (e_72 G _) rfl 29 (by decide) rfl k1079 rfl dX11_goRight_85 ?_
          obtain ⟨r21, hq20, h⟩ := bn_x h
          refine rc_i hS (run_S hC wX11_digits k1360 hP hS (As := [.int (C19.1 72 29)]) (rest := [.int (C19.1 72 28), .ref (gA G 72)]) (mX11_digits l G Cm hq20) rfl hl.1 (Nat.le_of_ble_eq_true rfl) ⟨by decide, by decide⟩ ⟨Nat.le_refl _, Nat.le_refl _⟩ rfl dX11_goRight_88) (fun H locs pb22 hP hS => ?_)
          refine lv_isub hx hb dX11_goRight_91 ?_
          obtain ⟨C23, eC23⟩ : ∃ Z : Mm, Z = wrI C19 72 28 ((C19.1 72 28) - r21) := ⟨_, rfl⟩
          replace h := lt_y eC23 h
          refine r_put (X' := (Cm, C23)) hC inX11 tyX11 tyX11_ok nmX11 hP hS (e_72 G _) rfl 28 (by decide) rfl k1078 rfl (v := .int ((C19.1 72 28) - r21)) rfl rfl (Nat.le_of_ble_eq_true rfl) (p_72_28 G _ _ eC23) dX11_goRight_92 (fun H locs hP hS => ?_)
          refine lv_iconst (v := 1) hx hb dX11_goRight_95 (by decide) ?_
          refine lv_istore (lv' := [(4, .int 1), (0, .ref (gA G 72)), (1, .int y1), (2, .int y2), (3, .int y3)]) hx hb dX11_goRight_96 hl (by decide) rfl (fun ls hl => ?_)
          exact bl98 n y3 1 C23 _ _ _ h (lv_sub hl [1, 4, 0] rfl) hP hS
        · replace h := it_f c17 h
          exact re_v' hC hr hP hS (congrArg (fun Z : Mm => (Cm, Z)) (Option.some.inj h)) dX11_goRight_68
      · replace h := it_f c16 h
        refine lv_iload_n hx hb dX11_goRight_14 rfl (lv_at hl 2 rfl) ?_
        refine lv_iload hx hb dX11_goRight_15 (lv_at hl 4 rfl) ?_
        obtain ⟨r25, hq24, h⟩ := bn_x h
        refine rc_i hS (run_S hC wX11_figure k1367 hP hS (As := [.int y2, .int y4]) (rest := []) (mX11_figure l G Cm hq24) rfl hl.1 (Nat.le_of_ble_eq_true rfl) ⟨by decide, by decide⟩ ⟨Nat.le_refl _, Nat.le_refl _⟩ rfl dX11_goRight_17) (fun H locs pb26 hP hS => ?_)
        refine lv_if_le (tgt := 57) hx hb dX11_goRight_20 (by decide) (fun c27 => ?_) (fun c27 => ?_)
        · replace h := it_t c27 h
          exact bl57 (fX11_goRight_h5 n fu) ih y1 y2 y3 y4 C _ _ _ h (lv_sub hl [0, 1, 2, 3, 4] rfl) hP hS
        · replace h := it_f c27 h
          refine lv_aload_n hx hb dX11_goRight_23 rfl (lv_at hl 0 rfl) ?_
          refine lv_iload_n hx hb dX11_goRight_24 rfl (lv_at hl 1 rfl) ?_
          refine lv_iload_n hx hb dX11_goRight_25 rfl (lv_at hl 2 rfl) ?_
          refine lv_iload hx hb dX11_goRight_26 (lv_at hl 4 rfl) ?_
          obtain ⟨r29, hq28, h⟩ := bn_x h
          refine rc_i hS (run_S hC wX11_figure k1367 hP hS (As := [.int y2, .int y4]) (rest := [.int y1, .ref (gA G 72)]) (mX11_figure l G Cm hq28) rfl hl.1 (Nat.le_of_ble_eq_true rfl) ⟨by decide, by decide⟩ ⟨Nat.le_refl _, Nat.le_refl _⟩ rfl dX11_goRight_28) (fun H locs pb30 hP hS => ?_)
          refine lv_iload hx hb dX11_goRight_31 (lv_at hl 4 rfl) ?_
          obtain ⟨r32, hq31, h⟩ := bn_x h
          refine rc_i hS (run_S hC wX11_tens k1374 hP hS (As := [.int y4]) (rest := [.int r29, .int y1, .ref (gA G 72)]) (mX11_tens l G Cm hq31) rfl hl.1 (Nat.le_of_ble_eq_true rfl) ⟨by decide, by decide⟩ ⟨Nat.le_refl _, Nat.le_refl _⟩ rfl dX11_goRight_33) (fun H locs pb33 hP hS => ?_)
          refine lv_imul hx hb dX11_goRight_36 ?_
          obtain ⟨C35, hq34, h⟩ := bn_x h
          refine rc_v hS (run_V hC wX11_goLeft k1363 (e_72 G _) rfl hP hS (As := [.int y1, .int (r29 * r32)]) (rest := []) (mX11_goLeft l G Cm hq34) rfl hl.1 (Nat.le_of_ble_eq_true rfl) ⟨by decide, by decide⟩ ⟨Nat.le_refl _, Nat.le_refl _⟩ rfl dX11_goRight_37) (fun H locs hP hS => ?_)
          refine lv_aload_n hx hb dX11_goRight_40 rfl (lv_at hl 0 rfl) ?_
          refine r_get (v := .ref (gA G 90)) hC inX11 hP (e_72 G _) rfl 32 (by decide) rfl k1082 rfl dX11_goRight_41 ?_
          refine lv_iload_n hx hb dX11_goRight_44 rfl (lv_at hl 3 rfl) ?_
          refine lv_aload_n hx hb dX11_goRight_45 rfl (lv_at hl 0 rfl) ?_
          refine r_get (v := .int (C35.1 72 29)) hC inX11 hP (e_72 G _) rfl 29 (by decide) rfl k1079 rfl dX11_goRight_46 ?_
          by_cases c36 : y3 < (0 : Int32) ∨ 4 ≤ Int32.toNatClampNeg y3
          · cases it_t c36 h
          replace h := it_f c36 h
          obtain ⟨C37, eC37⟩ : ∃ Z : Mm, Z = wrI C35 90 (Int32.toNatClampNeg y3) (C35.1 72 29) := ⟨_, rfl⟩
          replace h := lt_y eC37 h
          refine r_iast (X' := (Cm, C37)) hC hP hS (e_90 G _) c36 (a_90 G _ _ _ _ eC37) dX11_goRight_49 (fun H locs hP hS => ?_)
          obtain ⟨x38, ex38⟩ : ∃ y : Int32, y = y3 + 1 := ⟨_, rfl⟩
          replace h := lt_y ex38 h
          refine lv_iinc (v := x38) (lv' := [(3, .int x38), (0, .ref (gA G 72)), (1, .int y1), (2, .int y2), (4, .int y4)]) hx hb dX11_goRight_50 hl (k := 3) rfl (by rw [ex38]; rfl) (by decide) rfl (fun ls hl => ?_)
          refine lv_aload_n hx hb dX11_goRight_53 rfl (lv_at hl 1 rfl) ?_
          obtain ⟨C40, hq39, h⟩ := bn_x h
          refine rc_v hS (run_V hC wX11_holds k1381 (e_72 G _) rfl hP hS (As := []) (rest := []) (mX11_holds l G Cm hq39) rfl hl.1 (Nat.le_of_ble_eq_true rfl) ⟨by decide, by decide⟩ ⟨Nat.le_refl _, Nat.le_refl _⟩ rfl dX11_goRight_54) (fun H locs hP hS => ?_)
          exact bl57 (fX11_goRight_h5 n fu) ih y1 y2 x38 y4 C40 _ _ _ h (lv_sub hl [1, 2, 3, 0, 4] rfl) hP hS
  unfold fX11_goRight at h
  refine lv_iconst (v := 0) hx hb dX11_goRight_0 (by decide) ?_
  refine lv_istore_n (lv' := [(3, .int 0), (0, .ref (gA G 72)), (1, .int p1), (2, .int p2)]) hx hb dX11_goRight_1 rfl hl (by decide) rfl (fun ls hl => ?_)
  refine lv_iconst (v := 0) hx hb dX11_goRight_2 (by decide) ?_
  refine lv_istore (lv' := [(4, .int 0), (3, .int 0), (0, .ref (gA G 72)), (1, .int p1), (2, .int p2)]) hx hb dX11_goRight_3 hl (by decide) rfl (fun ls hl => ?_)
  exact bl5 n p1 p2 0 0 C _ _ _ h (lv_sub hl [2, 3, 4, 1, 0] rfl) hP hS
set_option maxHeartbeats 4000000 in
set_option maxRecDepth 100000 in
theorem mX11_goCrossed (l : Launch) (G : gp) (Cm : Mm) {n : Nat} {p1 : Int32} {p2 : Int32} {C : Mm} {C0 : Mm} (h : fX11_goCrossed n p1 p2 C = some C0) : Met l yX11_goCrossed (wsy yX11_goCrossed cX11_goCrossed 8 none) (rmv 2 48) (va_Pc [.ref (gA G 72), .int p1, .int p2] (Rl G (Cm, C))) (Qv G (Cm, C0)) 0 0 (lwA G) := by
  refine met_i [.ref (gA G 72), .int p1, .int p2] wX11_goCrossed.2.2.2.2.2 (Nat.le_of_ble_eq_true rfl) ?_
  intro p e s m args below meth c ls hC hr hP hl
  have hC : Cx G p s m args meth c cX11_goCrossed RX11 8 := hC
  have hx := hC.1
  have hb := hC.2.1
  have hown := hC.2.2.2.1
  have hts := hC.2.2.2.2.1
  have hS : va_S (lwA G) s.heap s.heap [] := va_S.rf
  have hl : lv_has ls 8 [(0, .ref (gA G 72)), (1, .int p1), (2, .int p2)] := hl
  have bl166 : ∀ (k5 : Int32 → Int32 → Int32 → Int32 → Mm → Option Mm) (hk5 : ∀ (y1 : Int32) (y2 : Int32) (y3 : Int32) (y4 : Int32) (C : Mm) (H : Heap) (locs : List Loc) (ls : Array Slot), k5 y1 y2 y3 y4 C = some C0 → lv_has ls 8 [(0, .ref (gA G 72)), (1, .int y1), (2, .int y2), (3, .int y3), (4, .int y4)] → va_P (gD G) vwCl (wld G (Cm, C)) H → va_S (lwA G) s.heap H locs → W p l e (rmv 2 48) s m args below meth c H locs 0 0 (MQ below (Qv G (Cm, C0)) args s 0 0 (lwA G)) (F0 m 5 ls [])) (k24 : Int32 → Int32 → Int32 → Int32 → Int32 → Mm → Option Mm) (hk24 : ∀ (y1 : Int32) (y2 : Int32) (y3 : Int32) (y4 : Int32) (y5 : Int32) (C : Mm) (H : Heap) (locs : List Loc) (ls : Array Slot), k24 y1 y2 y3 y4 y5 C = some C0 → lv_has ls 8 [(0, .ref (gA G 72)), (1, .int y1), (2, .int y2), (3, .int y3), (4, .int y4), (5, .int y5)] → va_P (gD G) vwCl (wld G (Cm, C)) H → va_S (lwA G) s.heap H locs → W p l e (rmv 2 48) s m args below meth c H locs 0 0 (MQ below (Qv G (Cm, C0)) args s 0 0 (lwA G)) (F0 m 24 ls [])), ∀ (y1 : Int32) (y2 : Int32) (y3 : Int32) (y4 : Int32) (y5 : Int32) (C : Mm) (H : Heap) (locs : List Loc) (ls : Array Slot), fX11_goCrossed_b166 n k5 k24 y1 y2 y3 y4 y5 C = some C0 → lv_has ls 8 [(0, .ref (gA G 72)), (1, .int y1), (2, .int y2), (3, .int y3), (4, .int y4), (5, .int y5)] → va_P (gD G) vwCl (wld G (Cm, C)) H → va_S (lwA G) s.heap H locs → W p l e (rmv 2 48) s m args below meth c H locs 0 0 (MQ below (Qv G (Cm, C0)) args s 0 0 (lwA G)) (F0 m 166 ls []) := by
    intro k5 hk5 k24 hk24 y1 y2 y3 y4 y5 C H locs ls h hl hP hS
    unfold fX11_goCrossed_b166 at h
    obtain ⟨x1, ex1⟩ : ∃ y : Int32, y = y5 + 1 := ⟨_, rfl⟩
    replace h := lt_y ex1 h
    refine lv_iinc (v := x1) (lv' := [(5, .int x1), (0, .ref (gA G 72)), (1, .int y1), (2, .int y2), (3, .int y3), (4, .int y4)]) hx hb dX11_goCrossed_166 hl (k := 5) rfl (by rw [ex1]; rfl) (by decide) rfl (fun ls hl => ?_)
    refine lv_goto (tgt := 24) hx hb dX11_goCrossed_169 (by decide) ?_
    exact hk24 y1 y2 y3 y4 x1 C _ _ _ h (lv_sub hl [1, 2, 3, 4, 5, 0] rfl) hP hS
  have bl164 : ∀ (k5 : Int32 → Int32 → Int32 → Int32 → Mm → Option Mm) (hk5 : ∀ (y1 : Int32) (y2 : Int32) (y3 : Int32) (y4 : Int32) (C : Mm) (H : Heap) (locs : List Loc) (ls : Array Slot), k5 y1 y2 y3 y4 C = some C0 → lv_has ls 8 [(0, .ref (gA G 72)), (1, .int y1), (2, .int y2), (3, .int y3), (4, .int y4)] → va_P (gD G) vwCl (wld G (Cm, C)) H → va_S (lwA G) s.heap H locs → W p l e (rmv 2 48) s m args below meth c H locs 0 0 (MQ below (Qv G (Cm, C0)) args s 0 0 (lwA G)) (F0 m 5 ls [])) (k24 : Int32 → Int32 → Int32 → Int32 → Int32 → Mm → Option Mm) (hk24 : ∀ (y1 : Int32) (y2 : Int32) (y3 : Int32) (y4 : Int32) (y5 : Int32) (C : Mm) (H : Heap) (locs : List Loc) (ls : Array Slot), k24 y1 y2 y3 y4 y5 C = some C0 → lv_has ls 8 [(0, .ref (gA G 72)), (1, .int y1), (2, .int y2), (3, .int y3), (4, .int y4), (5, .int y5)] → va_P (gD G) vwCl (wld G (Cm, C)) H → va_S (lwA G) s.heap H locs → W p l e (rmv 2 48) s m args below meth c H locs 0 0 (MQ below (Qv G (Cm, C0)) args s 0 0 (lwA G)) (F0 m 24 ls [])), ∀ (y1 : Int32) (y2 : Int32) (y4 : Int32) (y5 : Int32) (C : Mm) (H : Heap) (locs : List Loc) (ls : Array Slot), fX11_goCrossed_b164 n k5 k24 y1 y2 y4 y5 C = some C0 → lv_has ls 8 [(0, .ref (gA G 72)), (1, .int y1), (2, .int y2), (4, .int y4), (5, .int y5)] → va_P (gD G) vwCl (wld G (Cm, C)) H → va_S (lwA G) s.heap H locs → W p l e (rmv 2 48) s m args below meth c H locs 0 0 (MQ below (Qv G (Cm, C0)) args s 0 0 (lwA G)) (F0 m 164 ls []) := by
    intro k5 hk5 k24 hk24 y1 y2 y4 y5 C H locs ls h hl hP hS
    unfold fX11_goCrossed_b164 at h
    refine lv_iconst (v := 0) hx hb dX11_goCrossed_164 (by decide) ?_
    refine lv_istore_n (lv' := [(3, .int 0), (0, .ref (gA G 72)), (1, .int y1), (2, .int y2), (4, .int y4), (5, .int y5)]) hx hb dX11_goCrossed_165 rfl hl (by decide) rfl (fun ls hl => ?_)
    exact bl166 k5 hk5 k24 hk24 y1 y2 0 y4 y5 C _ _ _ h (lv_sub hl [1, 2, 3, 0, 4, 5] rfl) hP hS
  have bl121 : ∀ (k5 : Int32 → Int32 → Int32 → Int32 → Mm → Option Mm) (hk5 : ∀ (y1 : Int32) (y2 : Int32) (y3 : Int32) (y4 : Int32) (C : Mm) (H : Heap) (locs : List Loc) (ls : Array Slot), k5 y1 y2 y3 y4 C = some C0 → lv_has ls 8 [(0, .ref (gA G 72)), (1, .int y1), (2, .int y2), (3, .int y3), (4, .int y4)] → va_P (gD G) vwCl (wld G (Cm, C)) H → va_S (lwA G) s.heap H locs → W p l e (rmv 2 48) s m args below meth c H locs 0 0 (MQ below (Qv G (Cm, C0)) args s 0 0 (lwA G)) (F0 m 5 ls [])) (k24 : Int32 → Int32 → Int32 → Int32 → Int32 → Mm → Option Mm) (hk24 : ∀ (y1 : Int32) (y2 : Int32) (y3 : Int32) (y4 : Int32) (y5 : Int32) (C : Mm) (H : Heap) (locs : List Loc) (ls : Array Slot), k24 y1 y2 y3 y4 y5 C = some C0 → lv_has ls 8 [(0, .ref (gA G 72)), (1, .int y1), (2, .int y2), (3, .int y3), (4, .int y4), (5, .int y5)] → va_P (gD G) vwCl (wld G (Cm, C)) H → va_S (lwA G) s.heap H locs → W p l e (rmv 2 48) s m args below meth c H locs 0 0 (MQ below (Qv G (Cm, C0)) args s 0 0 (lwA G)) (F0 m 24 ls [])), ∀ (y1 : Int32) (y2 : Int32) (y3 : Int32) (y4 : Int32) (y5 : Int32) (y6 : Int32) (y7 : Int32) (C : Mm) (H : Heap) (locs : List Loc) (ls : Array Slot), fX11_goCrossed_b121 n k5 k24 y1 y2 y3 y4 y5 y6 y7 C = some C0 → lv_has ls 8 [(0, .ref (gA G 72)), (1, .int y1), (2, .int y2), (3, .int y3), (4, .int y4), (5, .int y5), (6, .int y6), (7, .int y7)] → va_P (gD G) vwCl (wld G (Cm, C)) H → va_S (lwA G) s.heap H locs → W p l e (rmv 2 48) s m args below meth c H locs 0 0 (MQ below (Qv G (Cm, C0)) args s 0 0 (lwA G)) (F0 m 121 ls []) := by
    intro k5 hk5 k24 hk24 y1 y2 y3 y4 y5 y6 y7 C H locs ls h hl hP hS
    unfold fX11_goCrossed_b121 at h
    refine lv_aload_n hx hb dX11_goCrossed_121 rfl (lv_at hl 0 rfl) ?_
    refine lv_iconst (v := 0) hx hb dX11_goCrossed_122 (by decide) ?_
    refine lv_iload hx hb dX11_goCrossed_123 (lv_at hl 6 rfl) ?_
    refine lv_iload hx hb dX11_goCrossed_125 (lv_at hl 7 rfl) ?_
    refine lv_iload hx hb dX11_goCrossed_127 (lv_at hl 4 rfl) ?_
    obtain ⟨r3, hq2, h⟩ := bn_x h
    refine rc_i hS (run_S hC wX11_tens k1374 hP hS (As := [.int y4]) (rest := [.int y7, .int y6, .int 0, .ref (gA G 72)]) (mX11_tens l G Cm hq2) rfl hl.1 (Nat.le_of_ble_eq_true rfl) ⟨by decide, by decide⟩ ⟨Nat.le_refl _, Nat.le_refl _⟩ rfl dX11_goCrossed_129) (fun H locs pb4 hP hS => ?_)
    refine lv_imul hx hb dX11_goCrossed_132 ?_
    refine lv_iconst (v := 0) hx hb dX11_goCrossed_133 (by decide) ?_
    obtain ⟨C6, hq5, h⟩ := bn_x h
    refine rc_v hS (run_V hC wX11_acts k1356 (e_72 G _) rfl hP hS (As := [.int 0, .int y6, .int (y7 * r3), .int 0]) (rest := []) (mX11_acts l G Cm hq5) rfl hl.1 (Nat.le_of_ble_eq_true rfl) ⟨by decide, by decide⟩ ⟨Nat.le_refl _, Nat.le_refl _⟩ rfl dX11_goCrossed_134) (fun H locs hP hS => ?_)
    refine lv_iload_n hx hb dX11_goCrossed_137 rfl (lv_at hl 3 rfl) ?_
    refine lv_if_ne (tgt := 164) hx hb dX11_goCrossed_138 (by decide) (fun c7 => ?_) (fun c7 => ?_)
    · replace h := it_f c7 h
      exact bl164 k5 hk5 k24 hk24 y1 y2 y4 y5 C6 _ _ _ h (lv_sub hl [0, 1, 2, 4, 5] rfl) hP hS
    · replace h := it_t c7 h
      refine lv_aload_n hx hb dX11_goCrossed_141 rfl (lv_at hl 0 rfl) ?_
      refine lv_dup hx hb dX11_goCrossed_142 rfl ?_
      refine r_get (v := .int (C6.1 72 29)) hC inX11 hP (e_72 G _) rfl 29 (by decide) rfl k1079 rfl dX11_goCrossed_143 ?_
      refine lv_iload hx hb dX11_goCrossed_146 (lv_at hl 6 rfl) ?_
      refine lv_iadd hx hb dX11_goCrossed_148 ?_
      obtain ⟨C8, eC8⟩ : ∃ Z : Mm, Z = wrI C6 72 29 ((C6.1 72 29) + y6) := ⟨_, rfl⟩
      replace h := lt_y eC8 h
      refine r_put (X' := (Cm, C8)) hC inX11 tyX11 tyX11_ok nmX11 hP hS (e_72 G _) rfl 29 (by decide) rfl k1079 rfl (v := .int ((C6.1 72 29) + y6)) rfl rfl (Nat.le_of_ble_eq_true rfl) (p_72_29 G _ _ eC8) dX11_goCrossed_149 (fun H locs hP hS => ?_)
      refine lv_aload_n hx hb dX11_goCrossed_152 rfl (lv_at hl 0 rfl) ?_
      refine lv_iconst (v := 1) hx hb dX11_goCrossed_153 (by decide) ?_
      refine lv_aload_n hx hb dX11_goCrossed_154 rfl (lv_at hl 0 rfl) ?_
      refine r_get (v := .int (C8.1 72 29)) hC inX11 hP (e_72 G _) rfl 29 (by decide) rfl k1079 rfl dX11_goCrossed_155 ?_
      refine lv_iconst (v := 0) hx hb dX11_goCrossed_158 (by decide) ?_
      refine lv_iload hx hb dX11_goCrossed_159 (lv_at hl 4 rfl) ?_
      obtain ⟨C10, hq9, h⟩ := bn_x h
      refine rc_v hS (run_V hC wX11_acts k1356 (e_72 G _) rfl hP hS (As := [.int 1, .int (C8.1 72 29), .int 0, .int y4]) (rest := []) (mX11_acts l G Cm hq9) rfl hl.1 (Nat.le_of_ble_eq_true rfl) ⟨by decide, by decide⟩ ⟨Nat.le_refl _, Nat.le_refl _⟩ rfl dX11_goCrossed_161) (fun H locs hP hS => ?_)
      exact bl164 k5 hk5 k24 hk24 y1 y2 y4 y5 C10 _ _ _ h (lv_sub hl [0, 1, 2, 4, 5] rfl) hP hS
  have bl109 : ∀ (k5 : Int32 → Int32 → Int32 → Int32 → Mm → Option Mm) (hk5 : ∀ (y1 : Int32) (y2 : Int32) (y3 : Int32) (y4 : Int32) (C : Mm) (H : Heap) (locs : List Loc) (ls : Array Slot), k5 y1 y2 y3 y4 C = some C0 → lv_has ls 8 [(0, .ref (gA G 72)), (1, .int y1), (2, .int y2), (3, .int y3), (4, .int y4)] → va_P (gD G) vwCl (wld G (Cm, C)) H → va_S (lwA G) s.heap H locs → W p l e (rmv 2 48) s m args below meth c H locs 0 0 (MQ below (Qv G (Cm, C0)) args s 0 0 (lwA G)) (F0 m 5 ls [])) (k24 : Int32 → Int32 → Int32 → Int32 → Int32 → Mm → Option Mm) (hk24 : ∀ (y1 : Int32) (y2 : Int32) (y3 : Int32) (y4 : Int32) (y5 : Int32) (C : Mm) (H : Heap) (locs : List Loc) (ls : Array Slot), k24 y1 y2 y3 y4 y5 C = some C0 → lv_has ls 8 [(0, .ref (gA G 72)), (1, .int y1), (2, .int y2), (3, .int y3), (4, .int y4), (5, .int y5)] → va_P (gD G) vwCl (wld G (Cm, C)) H → va_S (lwA G) s.heap H locs → W p l e (rmv 2 48) s m args below meth c H locs 0 0 (MQ below (Qv G (Cm, C0)) args s 0 0 (lwA G)) (F0 m 24 ls [])), ∀ (y1 : Int32) (y2 : Int32) (y3 : Int32) (y4 : Int32) (y5 : Int32) (y6 : Int32) (s0 : Int32) (C : Mm) (H : Heap) (locs : List Loc) (ls : Array Slot), fX11_goCrossed_b109 n k5 k24 y1 y2 y3 y4 y5 y6 s0 C = some C0 → lv_has ls 8 [(0, .ref (gA G 72)), (1, .int y1), (2, .int y2), (3, .int y3), (4, .int y4), (5, .int y5), (6, .int y6)] → va_P (gD G) vwCl (wld G (Cm, C)) H → va_S (lwA G) s.heap H locs → W p l e (rmv 2 48) s m args below meth c H locs 0 0 (MQ below (Qv G (Cm, C0)) args s 0 0 (lwA G)) (F0 m 109 ls [.int s0]) := by
    intro k5 hk5 k24 hk24 y1 y2 y3 y4 y5 y6 s0 C H locs ls h hl hP hS
    unfold fX11_goCrossed_b109 at h
    refine lv_istore (lv' := [(7, .int s0), (0, .ref (gA G 72)), (1, .int y1), (2, .int y2), (3, .int y3), (4, .int y4), (5, .int y5), (6, .int y6)]) hx hb dX11_goCrossed_109 hl (by decide) rfl (fun ls hl => ?_)
    refine lv_iload_n hx hb dX11_goCrossed_111 rfl (lv_at hl 4 rfl) ?_
    refine lv_if_eq (tgt := 121) hx hb dX11_goCrossed_112 (by decide) (fun c11 => ?_) (fun c11 => ?_)
    · replace h := it_t c11 h
      exact bl121 k5 hk5 k24 hk24 y1 y2 y3 y4 y5 y6 s0 C _ _ _ h (lv_sub hl [1, 2, 3, 4, 5, 6, 7, 0] rfl) hP hS
    · replace h := it_f c11 h
      refine lv_aload_n hx hb dX11_goCrossed_115 rfl (lv_at hl 1 rfl) ?_
      refine lv_iload hx hb dX11_goCrossed_116 (lv_at hl 7 rfl) ?_
      obtain ⟨C12, eC12⟩ : ∃ Z : Mm, Z = wrI C 72 29 y6 := ⟨_, rfl⟩
      replace h := lt_y eC12 h
      refine r_put (X' := (Cm, C12)) hC inX11 tyX11 tyX11_ok nmX11 hP hS (e_72 G _) rfl 29 (by decide) rfl k1079 rfl (v := .int y6) rfl rfl (Nat.le_of_ble_eq_true rfl) (p_72_29 G _ _ eC12) dX11_goCrossed_118 (fun H locs hP hS => ?_)
      exact bl121 k5 hk5 k24 hk24 y1 y2 y3 y4 y5 y6 s0 C12 _ _ _ h (lv_sub hl [1, 2, 3, 4, 5, 6, 7, 0] rfl) hP hS
  have bl24 : ∀ (k5 : Int32 → Int32 → Int32 → Int32 → Mm → Option Mm) (hk5 : ∀ (y1 : Int32) (y2 : Int32) (y3 : Int32) (y4 : Int32) (C : Mm) (H : Heap) (locs : List Loc) (ls : Array Slot), k5 y1 y2 y3 y4 C = some C0 → lv_has ls 8 [(0, .ref (gA G 72)), (1, .int y1), (2, .int y2), (3, .int y3), (4, .int y4)] → va_P (gD G) vwCl (wld G (Cm, C)) H → va_S (lwA G) s.heap H locs → W p l e (rmv 2 48) s m args below meth c H locs 0 0 (MQ below (Qv G (Cm, C0)) args s 0 0 (lwA G)) (F0 m 5 ls [])) (fu : Nat), ∀ (y1 : Int32) (y2 : Int32) (y3 : Int32) (y4 : Int32) (y5 : Int32) (C : Mm) (H : Heap) (locs : List Loc) (ls : Array Slot), fX11_goCrossed_h24 n k5 fu y1 y2 y3 y4 y5 C = some C0 → lv_has ls 8 [(0, .ref (gA G 72)), (1, .int y1), (2, .int y2), (3, .int y3), (4, .int y4), (5, .int y5)] → va_P (gD G) vwCl (wld G (Cm, C)) H → va_S (lwA G) s.heap H locs → W p l e (rmv 2 48) s m args below meth c H locs 0 0 (MQ below (Qv G (Cm, C0)) args s 0 0 (lwA G)) (F0 m 24 ls []) := by
    intro k5 hk5 fu
    induction fu with
    | zero =>
      intro y1 y2 y3 y4 y5 C H locs ls h hl hP hS
      rw [fX11_goCrossed_h24.eq_1] at h
      cases h
    | succ fu ih =>
      intro y1 y2 y3 y4 y5 C H locs ls h hl hP hS
      rw [fX11_goCrossed_h24.eq_2] at h
      refine lv_iload hx hb dX11_goCrossed_24 (lv_at hl 5 rfl) ?_
      refine lv_iload hx hb dX11_goCrossed_26 (lv_at hl 4 rfl) ?_
      refine lv_icmp_gt (tgt := 172) hx hb dX11_goCrossed_28 (by decide) (fun c13 => ?_) (fun c13 => ?_)
      · replace h := it_t c13 h
        refine lv_aload_n hx hb dX11_goCrossed_172 rfl (lv_at hl 0 rfl) ?_
        refine r_get (v := .int (C.1 72 29)) hC inX11 hP (e_72 G _) rfl 29 (by decide) rfl k1079 rfl dX11_goCrossed_173 ?_
        refine lv_bipush (v := 10) hx hb dX11_goCrossed_176 (by decide) ?_
        refine r_irem hx hb dX11_goCrossed_178 (by decide) ?_
        refine lv_topi (fun x14 ex14 => ?_)
        replace h := lt_y ex14 h
        refine lv_istore (lv' := [(5, .int x14), (0, .ref (gA G 72)), (1, .int y1), (2, .int y2), (3, .int y3), (4, .int y4)]) hx hb dX11_goCrossed_179 hl (by decide) rfl (fun ls hl => ?_)
        refine lv_aload_n hx hb dX11_goCrossed_181 rfl (lv_at hl 1 rfl) ?_
        refine lv_dup hx hb dX11_goCrossed_182 rfl ?_
        refine r_get (v := .int (C.1 72 28)) hC inX11 hP (e_72 G _) rfl 28 (by decide) rfl k1078 rfl dX11_goCrossed_183 ?_
        refine lv_iconst (v := 1) hx hb dX11_goCrossed_186 (by decide) ?_
        refine lv_iadd hx hb dX11_goCrossed_187 ?_
        obtain ⟨C15, eC15⟩ : ∃ Z : Mm, Z = wrI C 72 28 ((C.1 72 28) + 1) := ⟨_, rfl⟩
        replace h := lt_y eC15 h
        refine r_put (X' := (Cm, C15)) hC inX11 tyX11 tyX11_ok nmX11 hP hS (e_72 G _) rfl 28 (by decide) rfl k1078 rfl (v := .int ((C.1 72 28) + 1)) rfl rfl (Nat.le_of_ble_eq_true rfl) (p_72_28 G _ _ eC15) dX11_goCrossed_188 (fun H locs hP hS => ?_)
        refine lv_aload_n hx hb dX11_goCrossed_191 rfl (lv_at hl 1 rfl) ?_
        refine lv_dup hx hb dX11_goCrossed_192 rfl ?_
        refine r_get (v := .int (C15.1 72 29)) hC inX11 hP (e_72 G _) rfl 29 (by decide) rfl k1079 rfl dX11_goCrossed_193 ?_
        refine lv_bipush (v := 10) hx hb dX11_goCrossed_196 (by decide) ?_
        refine lv_idiv hx hb dX11_goCrossed_198 (by decide) ?_
        obtain ⟨C16, eC16⟩ : ∃ Z : Mm, Z = wrI C15 72 29 ((C15.1 72 29) / 10) := ⟨_, rfl⟩
        replace h := lt_y eC16 h
        refine r_put (X' := (Cm, C16)) hC inX11 tyX11 tyX11_ok nmX11 hP hS (e_72 G _) rfl 29 (by decide) rfl k1079 rfl (v := .int ((C15.1 72 29) / 10)) rfl rfl (Nat.le_of_ble_eq_true rfl) (p_72_29 G _ _ eC16) dX11_goCrossed_199 (fun H locs hP hS => ?_)
        refine lv_aload_n hx hb dX11_goCrossed_202 rfl (lv_at hl 1 rfl) ?_
        refine lv_iconst (v := 2) hx hb dX11_goCrossed_203 (by decide) ?_
        refine lv_iload hx hb dX11_goCrossed_204 (lv_at hl 0 rfl) ?_
        refine lv_iconst (v := 0) hx hb dX11_goCrossed_206 (by decide) ?_
        refine lv_iconst (v := 0) hx hb dX11_goCrossed_207 (by decide) ?_
        obtain ⟨C18, hq17, h⟩ := bn_x h
        refine rc_v hS (run_V hC wX11_acts k1356 (e_72 G _) rfl hP hS (As := [.int 2, .int x14, .int 0, .int 0]) (rest := []) (mX11_acts l G Cm hq17) rfl hl.1 (Nat.le_of_ble_eq_true rfl) ⟨by decide, by decide⟩ ⟨Nat.le_refl _, Nat.le_refl _⟩ rfl dX11_goCrossed_208) (fun H locs hP hS => ?_)
        obtain ⟨x19, ex19⟩ : ∃ y : Int32, y = y4 + 1 := ⟨_, rfl⟩
        replace h := lt_y ex19 h
        refine lv_iinc (v := x19) (lv' := [(4, .int x19), (5, .int x14), (0, .ref (gA G 72)), (1, .int y1), (2, .int y2), (3, .int y3)]) hx hb dX11_goCrossed_211 hl (k := 5) rfl (by rw [ex19]; rfl) (by decide) rfl (fun ls hl => ?_)
        refine lv_goto (tgt := 5) hx hb dX11_goCrossed_214 (by decide) ?_
        exact hk5 y1 y2 y3 x19 C18 _ _ _ h (lv_sub hl [2, 3, 4, 5, 0] rfl) hP hS
      · replace h := it_f c13 h
        refine lv_iload_n hx hb dX11_goCrossed_31 rfl (lv_at hl 1 rfl) ?_
        refine lv_iload hx hb dX11_goCrossed_32 (lv_at hl 5 rfl) ?_
        obtain ⟨r21, hq20, h⟩ := bn_x h
        refine rc_i hS (run_S hC wX11_figure k1367 hP hS (As := [.int y1, .int y5]) (rest := []) (mX11_figure l G Cm hq20) rfl hl.1 (Nat.le_of_ble_eq_true rfl) ⟨by decide, by decide⟩ ⟨Nat.le_refl _, Nat.le_refl _⟩ rfl dX11_goCrossed_34) (fun H locs pb22 hP hS => ?_)
        refine lv_if_eq (tgt := 166) hx hb dX11_goCrossed_37 (by decide) (fun c23 => ?_) (fun c23 => ?_)
        · replace h := it_t c23 h
          exact bl166 k5 hk5 (fX11_goCrossed_h24 n k5 fu) ih y1 y2 y3 y4 y5 C _ _ _ h (lv_sub hl [0, 1, 2, 3, 4, 5] rfl) hP hS
        · replace h := it_f c23 h
          refine lv_iload_n hx hb dX11_goCrossed_40 rfl (lv_at hl 2 rfl) ?_
          refine lv_iload hx hb dX11_goCrossed_41 (lv_at hl 4 rfl) ?_
          refine lv_iload hx hb dX11_goCrossed_43 (lv_at hl 5 rfl) ?_
          refine lv_isub hx hb dX11_goCrossed_45 ?_
          obtain ⟨r25, hq24, h⟩ := bn_x h
          refine rc_i hS (run_S hC wX11_figure k1367 hP hS (As := [.int y2, .int (y4 - y5)]) (rest := []) (mX11_figure l G Cm hq24) rfl hl.1 (Nat.le_of_ble_eq_true rfl) ⟨by decide, by decide⟩ ⟨Nat.le_refl _, Nat.le_refl _⟩ rfl dX11_goCrossed_46) (fun H locs pb26 hP hS => ?_)
          refine lv_if_ne (tgt := 55) hx hb dX11_goCrossed_49 (by decide) (fun c27 => ?_) (fun c27 => ?_)
          · replace h := it_f c27 h
            refine lv_iload_n hx hb dX11_goCrossed_55 rfl (lv_at hl 1 rfl) ?_
            refine lv_iload hx hb dX11_goCrossed_56 (lv_at hl 5 rfl) ?_
            obtain ⟨r29, hq28, h⟩ := bn_x h
            refine rc_i hS (run_S hC wX11_figure k1367 hP hS (As := [.int y1, .int y5]) (rest := []) (mX11_figure l G Cm hq28) rfl hl.1 (Nat.le_of_ble_eq_true rfl) ⟨by decide, by decide⟩ ⟨Nat.le_refl _, Nat.le_refl _⟩ rfl dX11_goCrossed_58) (fun H locs pb30 hP hS => ?_)
            refine lv_iload_n hx hb dX11_goCrossed_61 rfl (lv_at hl 2 rfl) ?_
            refine lv_iload hx hb dX11_goCrossed_62 (lv_at hl 4 rfl) ?_
            refine lv_iload hx hb dX11_goCrossed_64 (lv_at hl 5 rfl) ?_
            refine lv_isub hx hb dX11_goCrossed_66 ?_
            obtain ⟨r32, hq31, h⟩ := bn_x h
            refine rc_i hS (run_S hC wX11_figure k1367 hP hS (As := [.int y2, .int (y4 - y5)]) (rest := [.int r29]) (mX11_figure l G Cm hq31) rfl hl.1 (Nat.le_of_ble_eq_true rfl) ⟨by decide, by decide⟩ ⟨Nat.le_refl _, Nat.le_refl _⟩ rfl dX11_goCrossed_67) (fun H locs pb33 hP hS => ?_)
            refine lv_imul hx hb dX11_goCrossed_70 ?_
            refine lv_topi (fun x34 ex34 => ?_)
            replace h := lt_y ex34 h
            refine lv_istore (lv' := [(6, .int x34), (0, .ref (gA G 72)), (1, .int y1), (2, .int y2), (3, .int y3), (4, .int y4), (5, .int y5)]) hx hb dX11_goCrossed_71 hl (by decide) rfl (fun ls hl => ?_)
            refine lv_iload_n hx hb dX11_goCrossed_73 rfl (lv_at hl 2 rfl) ?_
            refine lv_iload hx hb dX11_goCrossed_74 (lv_at hl 6 rfl) ?_
            obtain ⟨r36, hq35, h⟩ := bn_x h
            refine rc_i hS (run_S hC wX11_figure k1367 hP hS (As := [.int y1, .int y5]) (rest := []) (mX11_figure l G Cm hq35) rfl hl.1 (Nat.le_of_ble_eq_true rfl) ⟨by decide, by decide⟩ ⟨Nat.le_refl _, Nat.le_refl _⟩ rfl dX11_goCrossed_76) (fun H locs pb37 hP hS => ?_)
            refine lv_iload_n hx hb dX11_goCrossed_79 rfl (lv_at hl 3 rfl) ?_
            refine lv_iload hx hb dX11_goCrossed_80 (lv_at hl 5 rfl) ?_
            refine lv_iload hx hb dX11_goCrossed_82 (lv_at hl 6 rfl) ?_
            refine lv_isub hx hb dX11_goCrossed_84 ?_
            obtain ⟨r39, hq38, h⟩ := bn_x h
            refine rc_i hS (run_S hC wX11_figure k1367 hP hS (As := [.int y2, .int (y4 - y5)]) (rest := [.int r36]) (mX11_figure l G Cm hq38) rfl hl.1 (Nat.le_of_ble_eq_true rfl) ⟨by decide, by decide⟩ ⟨Nat.le_refl _, Nat.le_refl _⟩ rfl dX11_goCrossed_85) (fun H locs pb40 hP hS => ?_)
            refine lv_icmp_ge (tgt := 100) hx hb dX11_goCrossed_88 (by decide) (fun c41 => ?_) (fun c41 => ?_)
            · replace h := it_t c41 h
              refine lv_iload_n hx hb dX11_goCrossed_100 rfl (lv_at hl 3 rfl) ?_
              refine lv_iload hx hb dX11_goCrossed_101 (lv_at hl 5 rfl) ?_
              refine lv_iload hx hb dX11_goCrossed_103 (lv_at hl 6 rfl) ?_
              refine lv_isub hx hb dX11_goCrossed_105 ?_
              obtain ⟨r43, hq42, h⟩ := bn_x h
              refine rc_i hS (run_S hC wX11_figure k1367 hP hS (As := [.int y2, .int (y4 - y5)]) (rest := []) (mX11_figure l G Cm hq42) rfl hl.1 (Nat.le_of_ble_eq_true rfl) ⟨by decide, by decide⟩ ⟨Nat.le_refl _, Nat.le_refl _⟩ rfl dX11_goCrossed_106) (fun H locs pb44 hP hS => ?_)
              exact bl109 k5 hk5 (fX11_goCrossed_h24 n k5 fu) ih y1 y2 y3 y4 y5 x34 r43 C _ _ _ h (lv_sub hl [1, 2, 3, 4, 5, 6, 0] rfl) hP hS
            · replace h := it_f c41 h
              refine lv_iload_n hx hb dX11_goCrossed_91 rfl (lv_at hl 2 rfl) ?_
              refine lv_iload hx hb dX11_goCrossed_92 (lv_at hl 6 rfl) ?_
              obtain ⟨r46, hq45, h⟩ := bn_x h
              refine rc_i hS (run_S hC wX11_figure k1367 hP hS (As := [.int y1, .int y5]) (rest := []) (mX11_figure l G Cm hq45) rfl hl.1 (Nat.le_of_ble_eq_true rfl) ⟨by decide, by decide⟩ ⟨Nat.le_refl _, Nat.le_refl _⟩ rfl dX11_goCrossed_94) (fun H locs pb47 hP hS => ?_)
              refine lv_goto (tgt := 109) hx hb dX11_goCrossed_97 (by decide) ?_
              exact bl109 k5 hk5 (fX11_goCrossed_h24 n k5 fu) ih y1 y2 y3 y4 y5 x34 r46 C _ _ _ h (lv_sub hl [1, 2, 3, 4, 5, 6, 0] rfl) hP hS
          · replace h := it_t c27 h
            refine lv_goto (tgt := 166) hx hb dX11_goCrossed_52 (by decide) ?_
            exact bl166 k5 hk5 (fX11_goCrossed_h24 n k5 fu) ih y1 y2 y3 y4 y5 C _ _ _ h (lv_sub hl [0, 1, 2, 3, 4, 5] rfl) hP hS
  have bl5 : ∀ (fu : Nat), ∀ (y1 : Int32) (y2 : Int32) (y3 : Int32) (y4 : Int32) (C : Mm) (H : Heap) (locs : List Loc) (ls : Array Slot), fX11_goCrossed_h5 n fu y1 y2 y3 y4 C = some C0 → lv_has ls 8 [(0, .ref (gA G 72)), (1, .int y1), (2, .int y2), (3, .int y3), (4, .int y4)] → va_P (gD G) vwCl (wld G (Cm, C)) H → va_S (lwA G) s.heap H locs → W p l e (rmv 2 48) s m args below meth c H locs 0 0 (MQ below (Qv G (Cm, C0)) args s 0 0 (lwA G)) (F0 m 5 ls []) := by
    intro fu
    induction fu with
    | zero =>
      intro y1 y2 y3 y4 C H locs ls h hl hP hS
      rw [fX11_goCrossed_h5.eq_1] at h
      cases h
    | succ fu ih =>
      intro y1 y2 y3 y4 C H locs ls h hl hP hS
      rw [fX11_goCrossed_h5.eq_2] at h
      refine lv_iload hx hb dX11_goCrossed_5 (lv_at hl 4 rfl) ?_
      refine lv_iload_n hx hb dX11_goCrossed_7 rfl (lv_at hl 1 rfl) ?_
      obtain ⟨r49, hq48, h⟩ := bn_x h
      refine rc_i hS (run_S hC wX11_digits k1360 hP hS (As := [.int y1]) (rest := [.int y4]) (mX11_digits l G Cm hq48) rfl hl.1 (Nat.le_of_ble_eq_true rfl) ⟨by decide, by decide⟩ ⟨Nat.le_refl _, Nat.le_refl _⟩ rfl dX11_goCrossed_8) (fun H locs pb50 hP hS => ?_)
      refine lv_iload_n hx hb dX11_goCrossed_11 rfl (lv_at hl 2 rfl) ?_
      obtain ⟨r52, hq51, h⟩ := bn_x h
      refine rc_i hS (run_S hC wX11_digits k1360 hP hS (As := [.int y2]) (rest := [.int r49, .int y4]) (mX11_digits l G Cm hq51) rfl hl.1 (Nat.le_of_ble_eq_true rfl) ⟨by decide, by decide⟩ ⟨Nat.le_refl _, Nat.le_refl _⟩ rfl dX11_goCrossed_12) (fun H locs pb53 hP hS => ?_)
      refine lv_iadd hx hb dX11_goCrossed_15 ?_
      refine lv_iconst (v := 2) hx hb dX11_goCrossed_16 (by decide) ?_
      refine lv_isub hx hb dX11_goCrossed_17 ?_
      refine lv_icmp_gt (tgt := 217) hx hb dX11_goCrossed_18 (by decide) (fun c54 => ?_) (fun c54 => ?_)
      · replace h := it_t c54 h
        exact re_v' hC hr hP hS (congrArg (fun Z : Mm => (Cm, Z)) (Option.some.inj h)) dX11_goCrossed_217
      · replace h := it_f c54 h
        refine lv_iconst (v := 0) hx hb dX11_goCrossed_21 (by decide) ?_
        refine lv_istore (lv' := [(5, .int 0), (0, .ref (gA G 72)), (1, .int y1), (2, .int y2), (3, .int y3), (4, .int y4)]) hx hb dX11_goCrossed_22 hl (by decide) rfl (fun ls hl => ?_)
        exact bl24 (fX11_goCrossed_h5 n fu) ih n y1 y2 y3 y4 0 C _ _ _ h (lv_sub hl [1, 2, 3, 4, 5, 0] rfl) hP hS
  unfold fX11_goCrossed at h
  refine lv_iconst (v := 1) hx hb dX11_goCrossed_0 (by decide) ?_
  refine lv_istore_n (lv' := [(3, .int 1), (0, .ref (gA G 72)), (1, .int p1), (2, .int p2)]) hx hb dX11_goCrossed_1 rfl hl (by decide) rfl (fun ls hl => ?_)
  refine lv_iconst (v := 0) hx hb dX11_goCrossed_2 (by decide) ?_
  refine lv_istore (lv' := [(4, .int 0), (3, .int 1), (0, .ref (gA G 72)), (1, .int p1), (2, .int p2)]) hx hb dX11_goCrossed_3 hl (by decide) rfl (fun ls hl => ?_)
  exact bl5 n p1 p2 1 0 C _ _ _ h (lv_sub hl [2, 3, 4, 1, 0] rfl) hP hS
set_option maxHeartbeats 4000000 in
set_option maxRecDepth 100000 in
theorem mX11_goSquared (l : Launch) (G : gp) (Cm : Mm) {n : Nat} {p1 : Int32} {p2 : Int32} {C : Mm} {r0 : Int32} {C0 : Mm} (h : fX11_goSquared n p1 p2 C = some (r0, C0)) : Met l yX11_goSquared (wsy yX11_goSquared cX11_goSquared 5 (some .boolean)) (rmv 4 99) (va_Pc [.ref (gA G 72), .int p1, .int p2] (Rl G (Cm, C))) (Qi G PZ r0 (Cm, C0)) 0 0 (lwA G) := by
  refine met_i [.ref (gA G 72), .int p1, .int p2] wX11_goSquared.2.2.2.2.2 (Nat.le_of_ble_eq_true rfl) ?_
  intro p e s m args below meth c ls hC hr hP hl
  have hC : Cx G p s m args meth c cX11_goSquared RX11 5 := hC
  have hx := hC.1
  have hb := hC.2.1
  have hown := hC.2.2.2.1
  have hts := hC.2.2.2.2.1
  have hS : va_S (lwA G) s.heap s.heap [] := va_S.rf
  have hl : lv_has ls 5 [(0, .ref (gA G 72)), (1, .int p1), (2, .int p2)] := hl
  unfold fX11_goSquared at h
  refine lv_iload_n hx hb dX11_goSquared_0 rfl (lv_at hl 1 rfl) ?_
  refine lv_iload_n hx hb dX11_goSquared_1 rfl (lv_at hl 2 rfl) ?_
  refine lv_iadd hx hb dX11_goSquared_2 ?_
  refine lv_iconst (v := 2) hx hb dX11_goSquared_3 (by decide) ?_
  refine r_irem hx hb dX11_goSquared_4 (by decide) ?_
  refine lv_iconst (v := 1) hx hb dX11_goSquared_5 (by decide) ?_
  refine lv_icmp_ne (tgt := 11) hx hb dX11_goSquared_6 (by decide) (fun c1 => ?_) (fun c1 => ?_)
  · replace h := it_f c1 h
    refine lv_iload_n hx hb dX11_goSquared_11 rfl (lv_at hl 1 rfl) ?_
    refine lv_iload_n hx hb dX11_goSquared_12 rfl (lv_at hl 2 rfl) ?_
    refine lv_iadd hx hb dX11_goSquared_13 ?_
    refine lv_iconst (v := 2) hx hb dX11_goSquared_14 (by decide) ?_
    refine lv_idiv hx hb dX11_goSquared_15 (by decide) ?_
    refine lv_topi (fun x2 ex2 => ?_)
    replace h := lt_y ex2 h
    refine lv_istore_n (lv' := [(3, .int x2), (0, .ref (gA G 72)), (1, .int p1), (2, .int p2)]) hx hb dX11_goSquared_16 rfl hl (by decide) rfl (fun ls hl => ?_)
    refine lv_iload_n hx hb dX11_goSquared_17 rfl (lv_at hl 2 rfl) ?_
    refine lv_iload_n hx hb dX11_goSquared_18 rfl (lv_at hl 3 rfl) ?_
    refine lv_isub hx hb dX11_goSquared_19 ?_
    refine rc_i hS (run_S hC wX11_size k1393 hP hS (As := [.int (p1 - p2)]) (rest := []) (mX11_size l G Cm rfl) rfl hl.1 (Nat.le_of_ble_eq_true rfl) ⟨by decide, by decide⟩ ⟨Nat.le_refl _, Nat.le_refl _⟩ rfl dX11_goSquared_20) (fun H locs pb4 hP hS => ?_)
    refine lv_iconst (v := 2) hx hb dX11_goSquared_23 (by decide) ?_
    refine lv_idiv hx hb dX11_goSquared_24 (by decide) ?_
    refine lv_topi (fun x5 ex5 => ?_)
    replace h := lt_y ex5 h
    refine lv_istore (lv' := [(4, .int x5), (3, .int x2), (0, .ref (gA G 72)), (1, .int p1), (2, .int p2)]) hx hb dX11_goSquared_25 hl (by decide) rfl (fun ls hl => ?_)
    refine lv_aload_n hx hb dX11_goSquared_27 rfl (lv_at hl 2 rfl) ?_
    refine lv_iload_n hx hb dX11_goSquared_28 rfl (lv_at hl 1 rfl) ?_
    refine lv_iload_n hx hb dX11_goSquared_29 rfl (lv_at hl 1 rfl) ?_
    obtain ⟨C7, hq6, h⟩ := bn_x h
    refine rc_v hS (run_V hC wX11_goLeft k1363 (e_72 G _) rfl hP hS (As := [.int x2, .int x2]) (rest := []) (mX11_goLeft l G Cm hq6) rfl hl.1 (Nat.le_of_ble_eq_true rfl) ⟨by decide, by decide⟩ ⟨Nat.le_refl _, Nat.le_refl _⟩ rfl dX11_goSquared_30) (fun H locs hP hS => ?_)
    refine lv_aload_n hx hb dX11_goSquared_33 rfl (lv_at hl 2 rfl) ?_
    obtain ⟨C9, hq8, h⟩ := bn_x h
    refine rc_v hS (run_V hC wX11_holds k1381 (e_72 G _) rfl hP hS (As := []) (rest := []) (mX11_holds l G Cm hq8) rfl hl.1 (Nat.le_of_ble_eq_true rfl) ⟨by decide, by decide⟩ ⟨Nat.le_refl _, Nat.le_refl _⟩ rfl dX11_goSquared_34) (fun H locs hP hS => ?_)
    refine lv_aload_n hx hb dX11_goSquared_37 rfl (lv_at hl 2 rfl) ?_
    refine lv_iload hx hb dX11_goSquared_38 (lv_at hl 0 rfl) ?_
    refine lv_iload hx hb dX11_goSquared_40 (lv_at hl 0 rfl) ?_
    obtain ⟨C11, hq10, h⟩ := bn_x h
    refine rc_v hS (run_V hC wX11_goLeft k1363 (e_72 G _) rfl hP hS (As := [.int x5, .int x5]) (rest := []) (mX11_goLeft l G Cm hq10) rfl hl.1 (Nat.le_of_ble_eq_true rfl) ⟨by decide, by decide⟩ ⟨Nat.le_refl _, Nat.le_refl _⟩ rfl dX11_goSquared_42) (fun H locs hP hS => ?_)
    refine lv_aload_n hx hb dX11_goSquared_45 rfl (lv_at hl 2 rfl) ?_
    refine lv_iconst (v := 0) hx hb dX11_goSquared_46 (by decide) ?_
    obtain ⟨C12, eC12⟩ : ∃ Z : Mm, Z = wrI C11 72 28 0 := ⟨_, rfl⟩
    replace h := lt_y eC12 h
    refine r_put (X' := (Cm, C12)) hC inX11 tyX11 tyX11_ok nmX11 hP hS (e_72 G _) rfl 28 (by decide) rfl k1078 rfl (v := .int 0) rfl rfl (Nat.le_of_ble_eq_true rfl) (p_72_28 G _ _ eC12) dX11_goSquared_47 (fun H locs hP hS => ?_)
    refine lv_aload_n hx hb dX11_goSquared_50 rfl (lv_at hl 2 rfl) ?_
    refine lv_iload_n hx hb dX11_goSquared_51 rfl (lv_at hl 3 rfl) ?_
    refine lv_iload_n hx hb dX11_goSquared_52 rfl (lv_at hl 4 rfl) ?_
    refine lv_imul hx hb dX11_goSquared_53 ?_
    obtain ⟨C13, eC13⟩ : ∃ Z : Mm, Z = wrI C12 72 29 (p1 * p2) := ⟨_, rfl⟩
    replace h := lt_y eC13 h
    refine r_put (X' := (Cm, C13)) hC inX11 tyX11 tyX11_ok nmX11 hP hS (e_72 G _) rfl 29 (by decide) rfl k1079 rfl (v := .int (p1 * p2)) rfl rfl (Nat.le_of_ble_eq_true rfl) (p_72_29 G _ _ eC13) dX11_goSquared_54 (fun H locs hP hS => ?_)
    refine lv_aload_n hx hb dX11_goSquared_57 rfl (lv_at hl 2 rfl) ?_
    refine lv_iconst (v := 1) hx hb dX11_goSquared_58 (by decide) ?_
    refine lv_aload_n hx hb dX11_goSquared_59 rfl (lv_at hl 2 rfl) ?_
    refine r_get (v := .int (C13.1 72 29)) hC inX11 hP (e_72 G _) rfl 29 (by decide) rfl k1079 rfl dX11_goSquared_60 ?_
    refine lv_iconst (v := 0) hx hb dX11_goSquared_63 (by decide) ?_
    refine lv_iconst (v := 0) hx hb dX11_goSquared_64 (by decide) ?_
    obtain ⟨C15, hq14, h⟩ := bn_x h
    refine rc_v hS (run_V hC wX11_acts k1356 (e_72 G _) rfl hP hS (As := [.int 1, .int (C13.1 72 29), .int 0, .int 0]) (rest := []) (mX11_acts l G Cm hq14) rfl hl.1 (Nat.le_of_ble_eq_true rfl) ⟨by decide, by decide⟩ ⟨Nat.le_refl _, Nat.le_refl _⟩ rfl dX11_goSquared_65) (fun H locs hP hS => ?_)
    refine lv_iconst (v := 1) hx hb dX11_goSquared_68 (by decide) ?_
    exact re_z' hC hr hP hS PZ1 (pr_1 h) (congrArg (fun Z : Mm => (Cm, Z)) (pr_2 h)) dX11_goSquared_69
  · replace h := it_t c1 h
    refine lv_iconst (v := 0) hx hb dX11_goSquared_9 (by decide) ?_
    exact re_z' hC hr hP hS PZ0 (pr_1 h) (congrArg (fun Z : Mm => (Cm, Z)) (pr_2 h)) dX11_goSquared_10
set_option maxHeartbeats 4000000 in
set_option maxRecDepth 100000 in
theorem mX11_goSplit (l : Launch) (G : gp) (Cm : Mm) {n : Nat} {p1 : Int32} {p2 : Int32} {C : Mm} {r0 : Int32} {C0 : Mm} (h : fX11_goSplit n p1 p2 C = some (r0, C0)) : Met l yX11_goSplit (wsy yX11_goSplit cX11_goSplit 4 (some .boolean)) (rmv 4 99) (va_Pc [.ref (gA G 72), .int p1, .int p2] (Rl G (Cm, C))) (Qi G PZ r0 (Cm, C0)) 0 0 (lwA G) := by
  refine met_i [.ref (gA G 72), .int p1, .int p2] wX11_goSplit.2.2.2.2.2 (Nat.le_of_ble_eq_true rfl) ?_
  intro p e s m args below meth c ls hC hr hP hl
  have hC : Cx G p s m args meth c cX11_goSplit RX11 4 := hC
  have hx := hC.1
  have hb := hC.2.1
  have hown := hC.2.2.2.1
  have hts := hC.2.2.2.2.1
  have hS : va_S (lwA G) s.heap s.heap [] := va_S.rf
  have hl : lv_has ls 4 [(0, .ref (gA G 72)), (1, .int p1), (2, .int p2)] := hl
  have bl45 : ∀ (k5 : Int32 → Int32 → Int32 → Mm → Option (Int32 × Mm)) (hk5 : ∀ (y1 : Int32) (y2 : Int32) (y3 : Int32) (C : Mm) (H : Heap) (locs : List Loc) (ls : Array Slot), k5 y1 y2 y3 C = some (r0, C0) → lv_has ls 4 [(0, .ref (gA G 72)), (1, .int y1), (2, .int y2), (3, .int y3)] → va_P (gD G) vwCl (wld G (Cm, C)) H → va_S (lwA G) s.heap H locs → W p l e (rmv 4 99) s m args below meth c H locs 0 0 (MQ below (Qi G PZ r0 (Cm, C0)) args s 0 0 (lwA G)) (F0 m 5 ls [])), ∀ (y1 : Int32) (y2 : Int32) (y3 : Int32) (C : Mm) (H : Heap) (locs : List Loc) (ls : Array Slot), fX11_goSplit_b45 n k5 y1 y2 y3 C = some (r0, C0) → lv_has ls 4 [(0, .ref (gA G 72)), (1, .int y1), (2, .int y2), (3, .int y3)] → va_P (gD G) vwCl (wld G (Cm, C)) H → va_S (lwA G) s.heap H locs → W p l e (rmv 4 99) s m args below meth c H locs 0 0 (MQ below (Qi G PZ r0 (Cm, C0)) args s 0 0 (lwA G)) (F0 m 45 ls []) := by
    intro k5 hk5 y1 y2 y3 C H locs ls h hl hP hS
    unfold fX11_goSplit_b45 at h
    obtain ⟨x1, ex1⟩ : ∃ y : Int32, y = y3 + (-1) := ⟨_, rfl⟩
    replace h := lt_y ex1 h
    refine lv_iinc (v := x1) (lv' := [(3, .int x1), (0, .ref (gA G 72)), (1, .int y1), (2, .int y2)]) hx hb dX11_goSplit_45 hl (k := 3) rfl (by rw [ex1]; rfl) (by decide) rfl (fun ls hl => ?_)
    refine lv_goto (tgt := 5) hx hb dX11_goSplit_48 (by decide) ?_
    exact hk5 y1 y2 x1 C _ _ _ h (lv_sub hl [1, 2, 3, 0] rfl) hP hS
  have bl5 : ∀ (fu : Nat), ∀ (y1 : Int32) (y2 : Int32) (y3 : Int32) (C : Mm) (H : Heap) (locs : List Loc) (ls : Array Slot), fX11_goSplit_h5 n fu y1 y2 y3 C = some (r0, C0) → lv_has ls 4 [(0, .ref (gA G 72)), (1, .int y1), (2, .int y2), (3, .int y3)] → va_P (gD G) vwCl (wld G (Cm, C)) H → va_S (lwA G) s.heap H locs → W p l e (rmv 4 99) s m args below meth c H locs 0 0 (MQ below (Qi G PZ r0 (Cm, C0)) args s 0 0 (lwA G)) (F0 m 5 ls []) := by
    intro fu
    induction fu with
    | zero =>
      intro y1 y2 y3 C H locs ls h hl hP hS
      rw [fX11_goSplit_h5.eq_1] at h
      cases h
    | succ fu ih =>
      intro y1 y2 y3 C H locs ls h hl hP hS
      rw [fX11_goSplit_h5.eq_2] at h
      refine lv_iload_n hx hb dX11_goSplit_5 rfl (lv_at hl 3 rfl) ?_
      refine lv_iconst (v := 2) hx hb dX11_goSplit_6 (by decide) ?_
      refine lv_icmp_lt (tgt := 51) hx hb dX11_goSplit_7 (by decide) (fun c2 => ?_) (fun c2 => ?_)
      · replace h := it_t c2 h
        refine lv_iconst (v := 0) hx hb dX11_goSplit_51 (by decide) ?_
        exact re_z' hC hr hP hS PZ0 (pr_1 h) (congrArg (fun Z : Mm => (Cm, Z)) (pr_2 h)) dX11_goSplit_52
      · replace h := it_f c2 h
        refine lv_iload_n hx hb dX11_goSplit_10 rfl (lv_at hl 2 rfl) ?_
        refine lv_iload_n hx hb dX11_goSplit_11 rfl (lv_at hl 3 rfl) ?_
        by_cases c3 : y3 = 0
        · cases it_t c3 h
        replace h := it_f c3 h
        refine r_irem hx hb dX11_goSplit_12 c3 ?_
        refine lv_if_ne (tgt := 45) hx hb dX11_goSplit_13 (by decide) (fun c4 => ?_) (fun c4 => ?_)
        · replace h := it_f c4 h
          exact bl45 (fX11_goSplit_h5 n fu) ih y1 y2 y3 C _ _ _ h (lv_sub hl [0, 1, 2, 3] rfl) hP hS
        · replace h := it_t c4 h
          refine lv_iload_n hx hb dX11_goSplit_16 rfl (lv_at hl 2 rfl) ?_
          refine lv_iload_n hx hb dX11_goSplit_17 rfl (lv_at hl 3 rfl) ?_
          by_cases c5 : y3 = 0
          · cases it_t c5 h
          replace h := it_f c5 h
          refine lv_idiv hx hb dX11_goSplit_18 c5 ?_
          refine lv_iconst (v := 1) hx hb dX11_goSplit_19 (by decide) ?_
          refine lv_icmp_le (tgt := 45) hx hb dX11_goSplit_20 (by decide) (fun c6 => ?_) (fun c6 => ?_)
          · replace h := it_t c6 h
            exact bl45 (fX11_goSplit_h5 n fu) ih y1 y2 y3 C _ _ _ h (lv_sub hl [0, 1, 2, 3] rfl) hP hS
          · replace h := it_f c6 h
            refine lv_aload_n hx hb dX11_goSplit_23 rfl (lv_at hl 0 rfl) ?_
            refine lv_iload_n hx hb dX11_goSplit_24 rfl (lv_at hl 1 rfl) ?_
            refine lv_iload_n hx hb dX11_goSplit_25 rfl (lv_at hl 3 rfl) ?_
            obtain ⟨C8, hq7, h⟩ := bn_x h
            refine rc_v hS (run_V hC wX11_goLeft k1363 (e_72 G _) rfl hP hS (As := [.int y1, .int y3]) (rest := []) (mX11_goLeft l G Cm hq7) rfl hl.1 (Nat.le_of_ble_eq_true rfl) ⟨by decide, by decide⟩ ⟨Nat.le_refl _, Nat.le_refl _⟩ rfl dX11_goSplit_26) (fun H locs hP hS => ?_)
            refine lv_aload_n hx hb dX11_goSplit_29 rfl (lv_at hl 0 rfl) ?_
            obtain ⟨C10, hq9, h⟩ := bn_x h
            refine rc_v hS (run_V hC wX11_holds k1381 (e_72 G _) rfl hP hS (As := []) (rest := []) (mX11_holds l G Cm hq9) rfl hl.1 (Nat.le_of_ble_eq_true rfl) ⟨by decide, by decide⟩ ⟨Nat.le_refl _, Nat.le_refl _⟩ rfl dX11_goSplit_30) (fun H locs hP hS => ?_)
            refine lv_aload_n hx hb dX11_goSplit_33 rfl (lv_at hl 0 rfl) ?_
            refine lv_iload_n hx hb dX11_goSplit_34 rfl (lv_at hl 1 rfl) ?_
            refine lv_iload_n hx hb dX11_goSplit_35 rfl (lv_at hl 3 rfl) ?_
            refine lv_imul hx hb dX11_goSplit_36 ?_
            refine lv_iload_n hx hb dX11_goSplit_37 rfl (lv_at hl 2 rfl) ?_
            refine lv_iload_n hx hb dX11_goSplit_38 rfl (lv_at hl 3 rfl) ?_
            by_cases c11 : y3 = 0
            · cases it_t c11 h
            replace h := it_f c11 h
            refine lv_idiv hx hb dX11_goSplit_39 c11 ?_
            obtain ⟨C13, hq12, h⟩ := bn_x h
            refine rc_v hS (run_V hC wX11_goLeft k1363 (e_72 G _) rfl hP hS (As := [.int (y1 * y3), .int (y2 / y3)]) (rest := []) (mX11_goLeft l G Cm hq12) rfl hl.1 (Nat.le_of_ble_eq_true rfl) ⟨by decide, by decide⟩ ⟨Nat.le_refl _, Nat.le_refl _⟩ rfl dX11_goSplit_40) (fun H locs hP hS => ?_)
            refine lv_iconst (v := 1) hx hb dX11_goSplit_43 (by decide) ?_
            exact re_z' hC hr hP hS PZ1 (pr_1 h) (congrArg (fun Z : Mm => (Cm, Z)) (pr_2 h)) dX11_goSplit_44
  unfold fX11_goSplit at h
  refine lv_aload_n hx hb dX11_goSplit_0 rfl (lv_at hl 0 rfl) ?_
  refine r_get (v := .int (C.1 72 31)) hC inX11 hP (e_72 G _) rfl 31 (by decide) rfl k1081 rfl dX11_goSplit_1 ?_
  refine lv_topi (fun x14 ex14 => ?_)
  replace h := lt_y ex14 h
  refine lv_istore_n (lv' := [(3, .int x14), (0, .ref (gA G 72)), (1, .int p1), (2, .int p2)]) hx hb dX11_goSplit_4 rfl hl (by decide) rfl (fun ls hl => ?_)
  exact bl5 n p1 p2 x14 C _ _ _ h (lv_sub hl [1, 2, 3, 0] rfl) hP hS
set_option maxHeartbeats 4000000 in
set_option maxRecDepth 100000 in
theorem mX11_isKnown (l : Launch) (G : gp) (Cm : Mm) {n : Nat} {p1 : Int32} {p2 : Int32} {C : Mm} {r0 : Int32} (h : fX11_isKnown n p1 p2 C = some r0) : Met l yX11_isKnown (wsy yX11_isKnown cX11_isKnown 3 (some .boolean)) (rmv 3 68) (va_Pc [.ref (gA G 72), .int p1, .int p2] (Rl G (Cm, C))) (Qi G PZ r0 (Cm, C)) 0 0 (lwA G) := by
  refine met_i [.ref (gA G 72), .int p1, .int p2] wX11_isKnown.2.2.2.2.2 (Nat.le_of_ble_eq_true rfl) ?_
  intro p e s m args below meth c ls hC hr hP hl
  have hC : Cx G p s m args meth c cX11_isKnown RX11 3 := hC
  have hx := hC.1
  have hb := hC.2.1
  have hown := hC.2.2.2.1
  have hts := hC.2.2.2.2.1
  have hS : va_S (lwA G) s.heap s.heap [] := va_S.rf
  have hl : lv_has ls 3 [(0, .ref (gA G 72)), (1, .int p1), (2, .int p2)] := hl
  have bl16 : ∀ (y1 : Int32) (y2 : Int32) (C : Mm) (H : Heap) (locs : List Loc) (ls : Array Slot), fX11_isKnown_b16 n y1 y2 C = some r0 → lv_has ls 3 [(0, .ref (gA G 72)), (1, .int y1), (2, .int y2)] → va_P (gD G) vwCl (wld G (Cm, C)) H → va_S (lwA G) s.heap H locs → W p l e (rmv 3 68) s m args below meth c H locs 0 0 (MQ below (Qi G PZ r0 (Cm, C)) args s 0 0 (lwA G)) (F0 m 16 ls []) := by
    intro y1 y2 C H locs ls h hl hP hS
    unfold fX11_isKnown_b16 at h
    refine lv_aload_n hx hb dX11_isKnown_16 rfl (lv_at hl 0 rfl) ?_
    refine lv_aload_n hx hb dX11_isKnown_17 rfl (lv_at hl 0 rfl) ?_
    refine r_get (v := .int (C.1 72 30)) hC inX11 hP (e_72 G _) rfl 30 (by decide) rfl k1080 rfl dX11_isKnown_18 ?_
    refine lv_sipush (v := 10000) hx hb dX11_isKnown_21 (by decide) ?_
    refine lv_iload_n hx hb dX11_isKnown_24 rfl (lv_at hl 1 rfl) ?_
    refine lv_imul hx hb dX11_isKnown_25 ?_
    refine lv_iload_n hx hb dX11_isKnown_26 rfl (lv_at hl 2 rfl) ?_
    refine lv_iadd hx hb dX11_isKnown_27 ?_
    obtain ⟨r2, hq1, h⟩ := bn_x h
    refine rc_i hS (run_V hC wX11_isLearnt k1352 (e_72 G _) rfl hP hS (As := [.int (C.1 72 30), .int ((10000 * y1) + y2)]) (rest := []) (mX11_isLearnt l G Cm hq1) rfl hl.1 (Nat.le_of_ble_eq_true rfl) ⟨by decide, by decide⟩ ⟨Nat.le_refl _, Nat.le_refl _⟩ rfl dX11_isKnown_28) (fun H locs pb3 hP hS => ?_)
    refine lv_if_eq (tgt := 38) hx hb dX11_isKnown_31 (by decide) (fun c4 => ?_) (fun c4 => ?_)
    · replace h := it_t c4 h
      refine lv_iconst (v := 0) hx hb dX11_isKnown_38 (by decide) ?_
      exact re_z' hC hr hP hS PZ0 (Option.some.inj h) rfl dX11_isKnown_39
    · replace h := it_f c4 h
      refine lv_iconst (v := 1) hx hb dX11_isKnown_34 (by decide) ?_
      refine lv_goto (tgt := 39) hx hb dX11_isKnown_35 (by decide) ?_
      exact re_z' hC hr hP hS PZ1 (Option.some.inj h) rfl dX11_isKnown_39
  unfold fX11_isKnown at h
  refine lv_iload_n hx hb dX11_isKnown_0 rfl (lv_at hl 1 rfl) ?_
  refine lv_aload_n hx hb dX11_isKnown_1 rfl (lv_at hl 0 rfl) ?_
  refine r_get (v := .int (C.1 72 31)) hC inX11 hP (e_72 G _) rfl 31 (by decide) rfl k1081 rfl dX11_isKnown_2 ?_
  refine lv_icmp_gt (tgt := 16) hx hb dX11_isKnown_5 (by decide) (fun c5 => ?_) (fun c5 => ?_)
  · replace h := it_t c5 h
    exact bl16 p1 p2 C _ _ _ h (lv_sub hl [0, 1, 2] rfl) hP hS
  · replace h := it_f c5 h
    refine lv_iload_n hx hb dX11_isKnown_8 rfl (lv_at hl 2 rfl) ?_
    refine lv_aload_n hx hb dX11_isKnown_9 rfl (lv_at hl 0 rfl) ?_
    refine r_get (v := .int (C.1 72 31)) hC inX11 hP (e_72 G _) rfl 31 (by decide) rfl k1081 rfl dX11_isKnown_10 ?_
    refine lv_icmp_le (tgt := 34) hx hb dX11_isKnown_13 (by decide) (fun c6 => ?_) (fun c6 => ?_)
    · replace h := it_t c6 h
      refine lv_iconst (v := 1) hx hb dX11_isKnown_34 (by decide) ?_
      refine lv_goto (tgt := 39) hx hb dX11_isKnown_35 (by decide) ?_
      exact re_z' hC hr hP hS PZ1 (Option.some.inj h) rfl dX11_isKnown_39
    · replace h := it_f c6 h
      exact bl16 p1 p2 C _ _ _ h (lv_sub hl [0, 1, 2] rfl) hP hS
set_option maxHeartbeats 4000000 in
set_option maxRecDepth 100000 in
theorem mX11_layOut (l : Launch) (G : gp) (Cm : Mm) {n : Nat} {p1 : Int32} {p2 : Int32} {p3 : Int32} {p4 : Int32} {C : Mm} {r0 : Int32} {C0 : Mm} (h : fX11_layOut n p1 p2 p3 p4 C = some (r0, C0)) : Met l yX11_layOut (wsy yX11_layOut cX11_layOut 7 (some .boolean)) (rmv 5 123) (va_Pc [.ref (gA G 72), .int p1, .int p2, .int p3, .int p4] (Rl G (Cm, C))) (Qi G PZ r0 (Cm, C0)) 0 0 (lwA G) := by
  refine met_i [.ref (gA G 72), .int p1, .int p2, .int p3, .int p4] wX11_layOut.2.2.2.2.2 (Nat.le_of_ble_eq_true rfl) ?_
  intro p e s m args below meth c ls hC hr hP hl
  have hC : Cx G p s m args meth c cX11_layOut RX11 7 := hC
  have hx := hC.1
  have hb := hC.2.1
  have hown := hC.2.2.2.1
  have hts := hC.2.2.2.2.1
  have hS : va_S (lwA G) s.heap s.heap [] := va_S.rf
  have hl : lv_has ls 7 [(0, .ref (gA G 72)), (1, .int p1), (2, .int p2), (3, .int p3), (4, .int p4)] := hl
  have bl138 : ∀ (s0 : Int32) (s1 : Int32) (s2 : Int32) (C : Mm) (H : Heap) (locs : List Loc) (ls : Array Slot), fX11_layOut_b138 n s0 s1 s2 C = some (r0, C0) → lv_has ls 7 [] → va_P (gD G) vwCl (wld G (Cm, C)) H → va_S (lwA G) s.heap H locs → W p l e (rmv 5 123) s m args below meth c H locs 0 0 (MQ below (Qi G PZ r0 (Cm, C0)) args s 0 0 (lwA G)) (F0 m 138 ls [.int s0, .int s1, .int s2, .ref (gA G 72)]) := by
    intro s0 s1 s2 C H locs ls h hl hP hS
    unfold fX11_layOut_b138 at h
    refine lv_iconst (v := 0) hx hb dX11_layOut_138 (by decide) ?_
    obtain ⟨C2, hq1, h⟩ := bn_x h
    refine rc_v hS (run_V hC wX11_acts k1356 (e_72 G _) rfl hP hS (As := [.int s2, .int s1, .int s0, .int 0]) (rest := []) (mX11_acts l G Cm hq1) rfl hl.1 (Nat.le_of_ble_eq_true rfl) ⟨by decide, by decide⟩ ⟨Nat.le_refl _, Nat.le_refl _⟩ rfl dX11_layOut_139) (fun H locs hP hS => ?_)
    refine lv_iconst (v := 1) hx hb dX11_layOut_142 (by decide) ?_
    exact re_z' hC hr hP hS PZ1 (pr_1 h) (congrArg (fun Z : Mm => (Cm, Z)) (pr_2 h)) dX11_layOut_143
  have bl26 : ∀ (y2 : Int32) (y3 : Int32) (s0 : Int32) (C : Mm) (H : Heap) (locs : List Loc) (ls : Array Slot), fX11_layOut_b26 n y2 y3 s0 C = some (r0, C0) → lv_has ls 7 [(0, .ref (gA G 72)), (2, .int y2), (3, .int y3)] → va_P (gD G) vwCl (wld G (Cm, C)) H → va_S (lwA G) s.heap H locs → W p l e (rmv 5 123) s m args below meth c H locs 0 0 (MQ below (Qi G PZ r0 (Cm, C0)) args s 0 0 (lwA G)) (F0 m 26 ls [.int s0, .ref (gA G 72)]) := by
    intro y2 y3 s0 C H locs ls h hl hP hS
    unfold fX11_layOut_b26 at h
    obtain ⟨C3, eC3⟩ : ∃ Z : Mm, Z = wrI C 72 31 s0 := ⟨_, rfl⟩
    replace h := lt_y eC3 h
    refine r_put (X' := (Cm, C3)) hC inX11 tyX11 tyX11_ok nmX11 hP hS (e_72 G _) rfl 31 (by decide) rfl k1081 rfl (v := .int s0) rfl rfl (Nat.le_of_ble_eq_true rfl) (p_72_31 G _ _ eC3) dX11_layOut_26 (fun H locs hP hS => ?_)
    refine lv_aload_n hx hb dX11_layOut_29 rfl (lv_at hl 0 rfl) ?_
    refine lv_iconst (v := 0) hx hb dX11_layOut_30 (by decide) ?_
    obtain ⟨C4, eC4⟩ : ∃ Z : Mm, Z = wrI C3 72 21 0 := ⟨_, rfl⟩
    replace h := lt_y eC4 h
    refine r_put (X' := (Cm, C4)) hC inX11 tyX11 tyX11_ok nmX11 hP hS (e_72 G _) rfl 21 (by decide) rfl k1071 rfl (v := .int 0) rfl rfl (Nat.le_of_ble_eq_true rfl) (p_72_21 G _ _ eC4) dX11_layOut_31 (fun H locs hP hS => ?_)
    refine lv_aload_n hx hb dX11_layOut_34 rfl (lv_at hl 0 rfl) ?_
    refine lv_iconst (v := 0) hx hb dX11_layOut_35 (by decide) ?_
    obtain ⟨C5, eC5⟩ : ∃ Z : Mm, Z = wrI C4 72 28 0 := ⟨_, rfl⟩
    replace h := lt_y eC5 h
    refine r_put (X' := (Cm, C5)) hC inX11 tyX11 tyX11_ok nmX11 hP hS (e_72 G _) rfl 28 (by decide) rfl k1078 rfl (v := .int 0) rfl rfl (Nat.le_of_ble_eq_true rfl) (p_72_28 G _ _ eC5) dX11_layOut_36 (fun H locs hP hS => ?_)
    refine lv_aload_n hx hb dX11_layOut_39 rfl (lv_at hl 0 rfl) ?_
    refine lv_iconst (v := 0) hx hb dX11_layOut_40 (by decide) ?_
    obtain ⟨C6, eC6⟩ : ∃ Z : Mm, Z = wrI C5 72 29 0 := ⟨_, rfl⟩
    replace h := lt_y eC6 h
    refine r_put (X' := (Cm, C6)) hC inX11 tyX11 tyX11_ok nmX11 hP hS (e_72 G _) rfl 29 (by decide) rfl k1079 rfl (v := .int 0) rfl rfl (Nat.le_of_ble_eq_true rfl) (p_72_29 G _ _ eC6) dX11_layOut_41 (fun H locs hP hS => ?_)
    refine lv_iload_n hx hb dX11_layOut_44 rfl (lv_at hl 2 rfl) ?_
    refine lv_sipush (v := 10000) hx hb dX11_layOut_45 (by decide) ?_
    refine lv_idiv hx hb dX11_layOut_48 (by decide) ?_
    refine lv_topi (fun x7 ex7 => ?_)
    replace h := lt_y ex7 h
    refine lv_istore (lv' := [(5, .int x7), (0, .ref (gA G 72)), (2, .int y2), (3, .int y3)]) hx hb dX11_layOut_49 hl (by decide) rfl (fun ls hl => ?_)
    refine lv_iload_n hx hb dX11_layOut_51 rfl (lv_at hl 3 rfl) ?_
    refine lv_sipush (v := 10000) hx hb dX11_layOut_52 (by decide) ?_
    refine r_irem hx hb dX11_layOut_55 (by decide) ?_
    refine lv_topi (fun x8 ex8 => ?_)
    replace h := lt_y ex8 h
    refine lv_istore (lv' := [(6, .int x8), (5, .int x7), (0, .ref (gA G 72)), (2, .int y2), (3, .int y3)]) hx hb dX11_layOut_56 hl (by decide) rfl (fun ls hl => ?_)
    refine lv_iload_n hx hb dX11_layOut_58 rfl (lv_at hl 3 rfl) ?_
    by_cases c9 : y2 = 0
    · replace h := it_t c9 h
      refine lv_tableIn (off := 37) (tgt := 96) hx hb dX11_layOut_59 (by rw [c9]; decide) (by rw [c9]; decide) (by rw [c9]; rfl) (by decide) ?_
      refine lv_aload_n hx hb dX11_layOut_96 rfl (lv_at hl 2 rfl) ?_
      refine lv_iload hx hb dX11_layOut_97 (lv_at hl 1 rfl) ?_
      refine lv_iload hx hb dX11_layOut_99 (lv_at hl 0 rfl) ?_
      obtain ⟨r11, hq10, h⟩ := bn_x h
      refine rc_i hS (run_V hC wX11_isKnown k1348 (e_72 G _) rfl hP hS (As := [.int x7, .int x8]) (rest := []) (mX11_isKnown l G Cm hq10) rfl hl.1 (Nat.le_of_ble_eq_true rfl) ⟨by decide, by decide⟩ ⟨Nat.le_refl _, Nat.le_refl _⟩ rfl dX11_layOut_101) (fun H locs pb12 hP hS => ?_)
      refine lv_if_ne (tgt := 109) hx hb dX11_layOut_104 (by decide) (fun c13 => ?_) (fun c13 => ?_)
      · replace h := it_f c13 h
        refine lv_aload_n hx hb dX11_layOut_109 rfl (lv_at hl 2 rfl) ?_
        refine lv_iload hx hb dX11_layOut_110 (lv_at hl 1 rfl) ?_
        refine lv_iload hx hb dX11_layOut_112 (lv_at hl 0 rfl) ?_
        refine lv_imul hx hb dX11_layOut_114 ?_
        obtain ⟨C14, eC14⟩ : ∃ Z : Mm, Z = wrI C6 72 29 (x7 * x8) := ⟨_, rfl⟩
        replace h := lt_y eC14 h
        refine r_put (X' := (Cm, C14)) hC inX11 tyX11 tyX11_ok nmX11 hP hS (e_72 G _) rfl 29 (by decide) rfl k1079 rfl (v := .int (x7 * x8)) rfl rfl (Nat.le_of_ble_eq_true rfl) (p_72_29 G _ _ eC14) dX11_layOut_115 (fun H locs hP hS => ?_)
        refine lv_aload_n hx hb dX11_layOut_118 rfl (lv_at hl 2 rfl) ?_
        refine lv_iconst (v := 0) hx hb dX11_layOut_119 (by decide) ?_
        refine lv_aload_n hx hb dX11_layOut_120 rfl (lv_at hl 2 rfl) ?_
        refine r_get (v := .int (C14.1 72 29)) hC inX11 hP (e_72 G _) rfl 29 (by decide) rfl k1079 rfl dX11_layOut_121 ?_
        refine lv_iload hx hb dX11_layOut_124 (lv_at hl 1 rfl) ?_
        refine lv_iload hx hb dX11_layOut_126 (lv_at hl 0 rfl) ?_
        refine lv_icmp_ge (tgt := 136) hx hb dX11_layOut_128 (by decide) (fun c15 => ?_) (fun c15 => ?_)
        · replace h := it_t c15 h
          refine lv_iload hx hb dX11_layOut_136 (lv_at hl 0 rfl) ?_
          exact bl138 x8 (C14.1 72 29) 0 C14 _ _ _ h (lv_sub hl [] rfl) hP hS
        · replace h := it_f c15 h
          refine lv_iload hx hb dX11_layOut_131 (lv_at hl 1 rfl) ?_
          refine lv_goto (tgt := 138) hx hb dX11_layOut_133 (by decide) ?_
          exact bl138 x7 (C14.1 72 29) 0 C14 _ _ _ h (lv_sub hl [] rfl) hP hS
      · replace h := it_t c13 h
        refine lv_iconst (v := 0) hx hb dX11_layOut_107 (by decide) ?_
        exact re_z' hC hr hP hS PZ0 (pr_1 h) (congrArg (fun Z : Mm => (Cm, Z)) (pr_2 h)) dX11_layOut_108
    replace h := it_f c9 h
    by_cases c16 : y2 = 1
    · replace h := it_t c16 h
      refine lv_tableIn (off := 85) (tgt := 144) hx hb dX11_layOut_59 (by rw [c16]; decide) (by rw [c16]; decide) (by rw [c16]; rfl) (by decide) ?_
      refine lv_aload_n hx hb dX11_layOut_144 rfl (lv_at hl 2 rfl) ?_
      refine lv_iload hx hb dX11_layOut_145 (lv_at hl 1 rfl) ?_
      refine lv_iload hx hb dX11_layOut_147 (lv_at hl 0 rfl) ?_
      obtain ⟨C18, hq17, h⟩ := bn_x h
      refine rc_v hS (run_V hC wX11_goLeft k1363 (e_72 G _) rfl hP hS (As := [.int x7, .int x8]) (rest := []) (mX11_goLeft l G Cm hq17) rfl hl.1 (Nat.le_of_ble_eq_true rfl) ⟨by decide, by decide⟩ ⟨Nat.le_refl _, Nat.le_refl _⟩ rfl dX11_layOut_149) (fun H locs hP hS => ?_)
      refine lv_iconst (v := 1) hx hb dX11_layOut_152 (by decide) ?_
      exact re_z' hC hr hP hS PZ1 (pr_1 h) (congrArg (fun Z : Mm => (Cm, Z)) (pr_2 h)) dX11_layOut_153
    replace h := it_f c16 h
    by_cases c19 : y2 = 2
    · replace h := it_t c19 h
      refine lv_tableIn (off := 95) (tgt := 154) hx hb dX11_layOut_59 (by rw [c19]; decide) (by rw [c19]; decide) (by rw [c19]; rfl) (by decide) ?_
      refine lv_aload_n hx hb dX11_layOut_154 rfl (lv_at hl 2 rfl) ?_
      refine lv_iload hx hb dX11_layOut_155 (lv_at hl 1 rfl) ?_
      refine lv_iload hx hb dX11_layOut_157 (lv_at hl 0 rfl) ?_
      obtain ⟨C21, hq20, h⟩ := bn_x h
      refine rc_v hS (run_V hC wX11_goRight k1377 (e_72 G _) rfl hP hS (As := [.int x7, .int x8]) (rest := []) (mX11_goRight l G Cm hq20) rfl hl.1 (Nat.le_of_ble_eq_true rfl) ⟨by decide, by decide⟩ ⟨Nat.le_refl _, Nat.le_refl _⟩ rfl dX11_layOut_159) (fun H locs hP hS => ?_)
      refine lv_iconst (v := 1) hx hb dX11_layOut_162 (by decide) ?_
      exact re_z' hC hr hP hS PZ1 (pr_1 h) (congrArg (fun Z : Mm => (Cm, Z)) (pr_2 h)) dX11_layOut_163
    replace h := it_f c19 h
    by_cases c22 : y2 = 3
    · replace h := it_t c22 h
      refine lv_tableIn (off := 105) (tgt := 164) hx hb dX11_layOut_59 (by rw [c22]; decide) (by rw [c22]; decide) (by rw [c22]; rfl) (by decide) ?_
      refine lv_aload_n hx hb dX11_layOut_164 rfl (lv_at hl 2 rfl) ?_
      refine lv_iload hx hb dX11_layOut_165 (lv_at hl 1 rfl) ?_
      refine lv_iload hx hb dX11_layOut_167 (lv_at hl 0 rfl) ?_
      obtain ⟨C24, hq23, h⟩ := bn_x h
      refine rc_v hS (run_V hC wX11_goCrossed k1385 (e_72 G _) rfl hP hS (As := [.int x7, .int x8]) (rest := []) (mX11_goCrossed l G Cm hq23) rfl hl.1 (Nat.le_of_ble_eq_true rfl) ⟨by decide, by decide⟩ ⟨Nat.le_refl _, Nat.le_refl _⟩ rfl dX11_layOut_169) (fun H locs hP hS => ?_)
      refine lv_iconst (v := 1) hx hb dX11_layOut_172 (by decide) ?_
      exact re_z' hC hr hP hS PZ1 (pr_1 h) (congrArg (fun Z : Mm => (Cm, Z)) (pr_2 h)) dX11_layOut_173
    replace h := it_f c22 h
    by_cases c25 : y2 = 4
    · replace h := it_t c25 h
      refine lv_tableIn (off := 115) (tgt := 174) hx hb dX11_layOut_59 (by rw [c25]; decide) (by rw [c25]; decide) (by rw [c25]; rfl) (by decide) ?_
      refine lv_aload_n hx hb dX11_layOut_174 rfl (lv_at hl 2 rfl) ?_
      refine lv_iload hx hb dX11_layOut_175 (lv_at hl 1 rfl) ?_
      refine lv_iload hx hb dX11_layOut_177 (lv_at hl 0 rfl) ?_
      obtain ⟨r27, C28, hq26, h⟩ := bp_x h
      refine rc_i hS (run_V hC wX11_goSquared k1389 (e_72 G _) rfl hP hS (As := [.int x7, .int x8]) (rest := []) (mX11_goSquared l G Cm hq26) rfl hl.1 (Nat.le_of_ble_eq_true rfl) ⟨by decide, by decide⟩ ⟨Nat.le_refl _, Nat.le_refl _⟩ rfl dX11_layOut_179) (fun H locs pb29 hP hS => ?_)
      exact re_z' hC hr hP hS pb29 (pr_1 h) (congrArg (fun Z : Mm => (Cm, Z)) (pr_2 h)) dX11_layOut_182
    replace h := it_f c25 h
    by_cases c30 : y2 = 5
    · replace h := it_t c30 h
      refine lv_tableIn (off := 124) (tgt := 183) hx hb dX11_layOut_59 (by rw [c30]; decide) (by rw [c30]; decide) (by rw [c30]; rfl) (by decide) ?_
      refine lv_aload_n hx hb dX11_layOut_183 rfl (lv_at hl 2 rfl) ?_
      refine lv_iload hx hb dX11_layOut_184 (lv_at hl 1 rfl) ?_
      refine lv_iload hx hb dX11_layOut_186 (lv_at hl 0 rfl) ?_
      obtain ⟨r32, C33, hq31, h⟩ := bp_x h
      refine rc_i hS (run_V hC wX11_goSplit k1396 (e_72 G _) rfl hP hS (As := [.int x7, .int x8]) (rest := []) (mX11_goSplit l G Cm hq31) rfl hl.1 (Nat.le_of_ble_eq_true rfl) ⟨by decide, by decide⟩ ⟨Nat.le_refl _, Nat.le_refl _⟩ rfl dX11_layOut_188) (fun H locs pb34 hP hS => ?_)
      exact re_z' hC hr hP hS pb34 (pr_1 h) (congrArg (fun Z : Mm => (Cm, Z)) (pr_2 h)) dX11_layOut_191
    replace h := it_f c30 h
    refine lv_tsD (tgt := 192) hx hb dX11_layOut_59 rfl (ex_c (ti_ne (z := 0) rfl c9) (ex_c (ti_ne (z := 1) rfl c16) (ex_c (ti_ne (z := 2) rfl c19) (ex_c (ti_ne (z := 3) rfl c22) (ex_c (ti_ne (z := 4) rfl c25) (ex_c (ti_ne (z := 5) rfl c30) ex_0)))))) (by decide) (by decide) ?_
    refine lv_aload_n hx hb dX11_layOut_192 rfl (lv_at hl 2 rfl) ?_
    refine lv_iload hx hb dX11_layOut_193 (lv_at hl 0 rfl) ?_
    refine lv_iload hx hb dX11_layOut_195 (lv_at hl 1 rfl) ?_
    obtain ⟨C36, hq35, h⟩ := bn_x h
    refine rc_v hS (run_V hC wX11_goRight k1377 (e_72 G _) rfl hP hS (As := [.int x8, .int x7]) (rest := []) (mX11_goRight l G Cm hq35) rfl hl.1 (Nat.le_of_ble_eq_true rfl) ⟨by decide, by decide⟩ ⟨Nat.le_refl _, Nat.le_refl _⟩ rfl dX11_layOut_197) (fun H locs hP hS => ?_)
    refine lv_iconst (v := 1) hx hb dX11_layOut_200 (by decide) ?_
    exact re_z' hC hr hP hS PZ1 (pr_1 h) (congrArg (fun Z : Mm => (Cm, Z)) (pr_2 h)) dX11_layOut_201
  unfold fX11_layOut at h
  refine lv_aload_n hx hb dX11_layOut_0 rfl (lv_at hl 0 rfl) ?_
  refine lv_iload_n hx hb dX11_layOut_1 rfl (lv_at hl 1 rfl) ?_
  obtain ⟨C37, eC37⟩ : ∃ Z : Mm, Z = wrI C 72 30 p1 := ⟨_, rfl⟩
  replace h := lt_y eC37 h
  refine r_put (X' := (Cm, C37)) hC inX11 tyX11 tyX11_ok nmX11 hP hS (e_72 G _) rfl 30 (by decide) rfl k1080 rfl (v := .int p1) rfl rfl (Nat.le_of_ble_eq_true rfl) (p_72_30 G _ _ eC37) dX11_layOut_2 (fun H locs hP hS => ?_)
  refine lv_aload_n hx hb dX11_layOut_5 rfl (lv_at hl 0 rfl) ?_
  refine lv_iload hx hb dX11_layOut_6 (lv_at hl 4 rfl) ?_
  refine lv_if_le (tgt := 16) hx hb dX11_layOut_8 (by decide) (fun c38 => ?_) (fun c38 => ?_)
  · replace h := it_t c38 h
    refine lv_aload_n hx hb dX11_layOut_16 rfl (lv_at hl 0 rfl) ?_
    refine r_get (v := .ref (gA G 73)) hC inX11 hP (e_72 G _) rfl 0 (by decide) rfl k1050 rfl dX11_layOut_17 ?_
    refine lv_iconst (v := 5) hx hb dX11_layOut_20 (by decide) ?_
    refine lv_iload_n hx hb dX11_layOut_21 rfl (lv_at hl 1 rfl) ?_
    refine lv_imul hx hb dX11_layOut_22 ?_
    refine lv_iconst (v := 3) hx hb dX11_layOut_23 (by decide) ?_
    refine lv_iadd hx hb dX11_layOut_24 ?_
    by_cases c39 : ((5 * p1) + 3) < (0 : Int32) ∨ 30 ≤ Int32.toNatClampNeg ((5 * p1) + 3)
    · cases it_t c39 h
    replace h := it_f c39 h
    refine r_iald hC hP (f := C37.1 73) (e_73 G _) c39 dX11_layOut_25 ?_
    exact bl26 p2 p3 (C37.1 73 (Int32.toNatClampNeg ((5 * p1) + 3))) C37 _ _ _ h (lv_sub hl [0, 2, 3] rfl) hP hS
  · replace h := it_f c38 h
    refine lv_iload hx hb dX11_layOut_11 (lv_at hl 4 rfl) ?_
    refine lv_goto (tgt := 26) hx hb dX11_layOut_13 (by decide) ?_
    exact bl26 p2 p3 p4 C37 _ _ _ h (lv_sub hl [0, 2, 3] rfl) hP hS
set_option maxHeartbeats 4000000 in
set_option maxRecDepth 100000 in
theorem mX11_seconds (l : Launch) (G : gp) (Cm : Mm) {n : Nat} {C : Mm} {r0 : Int32} (h : fX11_seconds n C = some r0) : Met l yX11_seconds (wsy yX11_seconds cX11_seconds 3 (some .int)) (rmv 0 0) (va_Pc [.ref (gA G 72)] (Rl G (Cm, C))) (Qi G PT r0 (Cm, C)) 0 0 (lwA G) := by
  refine met_i [.ref (gA G 72)] wX11_seconds.2.2.2.2.2 (Nat.le_of_ble_eq_true rfl) ?_
  intro p e s m args below meth c ls hC hr hP hl
  have hC : Cx G p s m args meth c cX11_seconds RX11 3 := hC
  have hx := hC.1
  have hb := hC.2.1
  have hown := hC.2.2.2.1
  have hts := hC.2.2.2.2.1
  have hS : va_S (lwA G) s.heap s.heap [] := va_S.rf
  have hl : lv_has ls 3 [(0, .ref (gA G 72))] := hl
  have bl4 : ∀ (fu : Nat), ∀ (y1 : Int32) (y2 : Int32) (C : Mm) (H : Heap) (locs : List Loc) (ls : Array Slot), fX11_seconds_h4 n fu y1 y2 C = some r0 → lv_has ls 3 [(0, .ref (gA G 72)), (1, .int y1), (2, .int y2)] → va_P (gD G) vwCl (wld G (Cm, C)) H → va_S (lwA G) s.heap H locs → W p l e (rmv 0 0) s m args below meth c H locs 0 0 (MQ below (Qi G PT r0 (Cm, C)) args s 0 0 (lwA G)) (F0 m 4 ls []) := by
    intro fu
    induction fu with
    | zero =>
      intro y1 y2 C H locs ls h hl hP hS
      rw [fX11_seconds_h4.eq_1] at h
      cases h
    | succ fu ih =>
      intro y1 y2 C H locs ls h hl hP hS
      rw [fX11_seconds_h4.eq_2] at h
      refine lv_iload_n hx hb dX11_seconds_4 rfl (lv_at hl 2 rfl) ?_
      refine lv_aload_n hx hb dX11_seconds_5 rfl (lv_at hl 0 rfl) ?_
      refine r_get (v := .int (C.1 72 21)) hC inX11 hP (e_72 G _) rfl 21 (by decide) rfl k1071 rfl dX11_seconds_6 ?_
      refine lv_icmp_ge (tgt := 27) hx hb dX11_seconds_9 (by decide) (fun c1 => ?_) (fun c1 => ?_)
      · replace h := it_t c1 h
        refine lv_iload_n hx hb dX11_seconds_27 rfl (lv_at hl 1 rfl) ?_
        exact re_i' hC hr hP hS (Option.some.inj h) rfl dX11_seconds_28
      · replace h := it_f c1 h
        refine lv_iload_n hx hb dX11_seconds_12 rfl (lv_at hl 1 rfl) ?_
        refine lv_aload_n hx hb dX11_seconds_13 rfl (lv_at hl 0 rfl) ?_
        refine r_get (v := .ref (gA G 86)) hC inX11 hP (e_72 G _) rfl 24 (by decide) rfl k1074 rfl dX11_seconds_14 ?_
        refine lv_iload_n hx hb dX11_seconds_17 rfl (lv_at hl 2 rfl) ?_
        by_cases c2 : y2 < (0 : Int32) ∨ 200 ≤ Int32.toNatClampNeg y2
        · cases it_t c2 h
        replace h := it_f c2 h
        refine r_iald hC hP (f := C.1 86) (e_86 G _) c2 dX11_seconds_18 ?_
        refine lv_iadd hx hb dX11_seconds_19 ?_
        refine lv_topi (fun x3 ex3 => ?_)
        replace h := lt_y ex3 h
        refine lv_istore_n (lv' := [(1, .int x3), (0, .ref (gA G 72)), (2, .int y2)]) hx hb dX11_seconds_20 rfl hl (by decide) rfl (fun ls hl => ?_)
        obtain ⟨x4, ex4⟩ : ∃ y : Int32, y = y2 + 1 := ⟨_, rfl⟩
        replace h := lt_y ex4 h
        refine lv_iinc (v := x4) (lv' := [(2, .int x4), (1, .int x3), (0, .ref (gA G 72))]) hx hb dX11_seconds_21 hl (k := 2) rfl (by rw [ex4]; rfl) (by decide) rfl (fun ls hl => ?_)
        refine lv_goto (tgt := 4) hx hb dX11_seconds_24 (by decide) ?_
        exact ih x3 x4 C _ _ _ h (lv_sub hl [2, 1, 0] rfl) hP hS
  unfold fX11_seconds at h
  refine lv_iconst (v := 0) hx hb dX11_seconds_0 (by decide) ?_
  refine lv_istore_n (lv' := [(1, .int 0), (0, .ref (gA G 72))]) hx hb dX11_seconds_1 rfl hl (by decide) rfl (fun ls hl => ?_)
  refine lv_iconst (v := 0) hx hb dX11_seconds_2 (by decide) ?_
  refine lv_istore_n (lv' := [(2, .int 0), (1, .int 0), (0, .ref (gA G 72))]) hx hb dX11_seconds_3 rfl hl (by decide) rfl (fun ls hl => ?_)
  exact bl4 n 0 0 C _ _ _ h (lv_sub hl [2, 1, 0] rfl) hP hS
set_option maxHeartbeats 4000000 in
set_option maxRecDepth 100000 in
theorem mX11_mostHeld (l : Launch) (G : gp) (Cm : Mm) {n : Nat} {C : Mm} {r0 : Int32} (h : fX11_mostHeld n C = some r0) : Met l yX11_mostHeld (wsy yX11_mostHeld cX11_mostHeld 3 (some .int)) (rmv 0 0) (va_Pc [.ref (gA G 72)] (Rl G (Cm, C))) (Qi G PT r0 (Cm, C)) 0 0 (lwA G) := by
  refine met_i [.ref (gA G 72)] wX11_mostHeld.2.2.2.2.2 (Nat.le_of_ble_eq_true rfl) ?_
  intro p e s m args below meth c ls hC hr hP hl
  have hC : Cx G p s m args meth c cX11_mostHeld RX11 3 := hC
  have hx := hC.1
  have hb := hC.2.1
  have hown := hC.2.2.2.1
  have hts := hC.2.2.2.2.1
  have hS : va_S (lwA G) s.heap s.heap [] := va_S.rf
  have hl : lv_has ls 3 [(0, .ref (gA G 72))] := hl
  have bl32 : ∀ (k4 : Int32 → Int32 → Mm → Option Int32) (hk4 : ∀ (y1 : Int32) (y2 : Int32) (C : Mm) (H : Heap) (locs : List Loc) (ls : Array Slot), k4 y1 y2 C = some r0 → lv_has ls 3 [(0, .ref (gA G 72)), (1, .int y1), (2, .int y2)] → va_P (gD G) vwCl (wld G (Cm, C)) H → va_S (lwA G) s.heap H locs → W p l e (rmv 0 0) s m args below meth c H locs 0 0 (MQ below (Qi G PT r0 (Cm, C)) args s 0 0 (lwA G)) (F0 m 4 ls [])), ∀ (y2 : Int32) (s0 : Int32) (C : Mm) (H : Heap) (locs : List Loc) (ls : Array Slot), fX11_mostHeld_b32 n k4 y2 s0 C = some r0 → lv_has ls 3 [(0, .ref (gA G 72)), (2, .int y2)] → va_P (gD G) vwCl (wld G (Cm, C)) H → va_S (lwA G) s.heap H locs → W p l e (rmv 0 0) s m args below meth c H locs 0 0 (MQ below (Qi G PT r0 (Cm, C)) args s 0 0 (lwA G)) (F0 m 32 ls [.int s0]) := by
    intro k4 hk4 y2 s0 C H locs ls h hl hP hS
    unfold fX11_mostHeld_b32 at h
    refine lv_istore_n (lv' := [(1, .int s0), (0, .ref (gA G 72)), (2, .int y2)]) hx hb dX11_mostHeld_32 rfl hl (by decide) rfl (fun ls hl => ?_)
    obtain ⟨x1, ex1⟩ : ∃ y : Int32, y = y2 + 1 := ⟨_, rfl⟩
    replace h := lt_y ex1 h
    refine lv_iinc (v := x1) (lv' := [(2, .int x1), (1, .int s0), (0, .ref (gA G 72))]) hx hb dX11_mostHeld_33 hl (k := 2) rfl (by rw [ex1]; rfl) (by decide) rfl (fun ls hl => ?_)
    refine lv_goto (tgt := 4) hx hb dX11_mostHeld_36 (by decide) ?_
    exact hk4 s0 x1 C _ _ _ h (lv_sub hl [2, 1, 0] rfl) hP hS
  have bl4 : ∀ (fu : Nat), ∀ (y1 : Int32) (y2 : Int32) (C : Mm) (H : Heap) (locs : List Loc) (ls : Array Slot), fX11_mostHeld_h4 n fu y1 y2 C = some r0 → lv_has ls 3 [(0, .ref (gA G 72)), (1, .int y1), (2, .int y2)] → va_P (gD G) vwCl (wld G (Cm, C)) H → va_S (lwA G) s.heap H locs → W p l e (rmv 0 0) s m args below meth c H locs 0 0 (MQ below (Qi G PT r0 (Cm, C)) args s 0 0 (lwA G)) (F0 m 4 ls []) := by
    intro fu
    induction fu with
    | zero =>
      intro y1 y2 C H locs ls h hl hP hS
      rw [fX11_mostHeld_h4.eq_1] at h
      cases h
    | succ fu ih =>
      intro y1 y2 C H locs ls h hl hP hS
      rw [fX11_mostHeld_h4.eq_2] at h
      refine lv_iload_n hx hb dX11_mostHeld_4 rfl (lv_at hl 2 rfl) ?_
      refine lv_aload_n hx hb dX11_mostHeld_5 rfl (lv_at hl 0 rfl) ?_
      refine r_get (v := .int (C.1 72 21)) hC inX11 hP (e_72 G _) rfl 21 (by decide) rfl k1071 rfl dX11_mostHeld_6 ?_
      refine lv_icmp_ge (tgt := 39) hx hb dX11_mostHeld_9 (by decide) (fun c2 => ?_) (fun c2 => ?_)
      · replace h := it_t c2 h
        refine lv_iload_n hx hb dX11_mostHeld_39 rfl (lv_at hl 1 rfl) ?_
        exact re_i' hC hr hP hS (Option.some.inj h) rfl dX11_mostHeld_40
      · replace h := it_f c2 h
        refine lv_aload_n hx hb dX11_mostHeld_12 rfl (lv_at hl 0 rfl) ?_
        refine r_get (v := .ref (gA G 87)) hC inX11 hP (e_72 G _) rfl 25 (by decide) rfl k1075 rfl dX11_mostHeld_13 ?_
        refine lv_iload_n hx hb dX11_mostHeld_16 rfl (lv_at hl 2 rfl) ?_
        by_cases c3 : y2 < (0 : Int32) ∨ 200 ≤ Int32.toNatClampNeg y2
        · cases it_t c3 h
        replace h := it_f c3 h
        refine r_iald hC hP (f := C.1 87) (e_87 G _) c3 dX11_mostHeld_17 ?_
        refine lv_iload_n hx hb dX11_mostHeld_18 rfl (lv_at hl 1 rfl) ?_
        refine lv_icmp_le (tgt := 31) hx hb dX11_mostHeld_19 (by decide) (fun c4 => ?_) (fun c4 => ?_)
        · replace h := it_t c4 h
          refine lv_iload_n hx hb dX11_mostHeld_31 rfl (lv_at hl 1 rfl) ?_
          exact bl32 (fX11_mostHeld_h4 n fu) ih y2 y1 C _ _ _ h (lv_sub hl [0, 2] rfl) hP hS
        · replace h := it_f c4 h
          refine lv_aload_n hx hb dX11_mostHeld_22 rfl (lv_at hl 0 rfl) ?_
          refine r_get (v := .ref (gA G 87)) hC inX11 hP (e_72 G _) rfl 25 (by decide) rfl k1075 rfl dX11_mostHeld_23 ?_
          refine lv_iload_n hx hb dX11_mostHeld_26 rfl (lv_at hl 2 rfl) ?_
          by_cases c5 : y2 < (0 : Int32) ∨ 200 ≤ Int32.toNatClampNeg y2
          · cases it_t c5 h
          replace h := it_f c5 h
          refine r_iald hC hP (f := C.1 87) (e_87 G _) c5 dX11_mostHeld_27 ?_
          refine lv_goto (tgt := 32) hx hb dX11_mostHeld_28 (by decide) ?_
          exact bl32 (fX11_mostHeld_h4 n fu) ih y2 (C.1 87 (Int32.toNatClampNeg y2)) C _ _ _ h (lv_sub hl [0, 2] rfl) hP hS
  unfold fX11_mostHeld at h
  refine lv_iconst (v := 0) hx hb dX11_mostHeld_0 (by decide) ?_
  refine lv_istore_n (lv' := [(1, .int 0), (0, .ref (gA G 72))]) hx hb dX11_mostHeld_1 rfl hl (by decide) rfl (fun ls hl => ?_)
  refine lv_iconst (v := 0) hx hb dX11_mostHeld_2 (by decide) ?_
  refine lv_istore_n (lv' := [(2, .int 0), (1, .int 0), (0, .ref (gA G 72))]) hx hb dX11_mostHeld_3 rfl hl (by decide) rfl (fun ls hl => ?_)
  exact bl4 n 0 0 C _ _ _ h (lv_sub hl [2, 1, 0] rfl) hP hS
set_option maxHeartbeats 4000000 in
set_option maxRecDepth 100000 in
theorem mX11_isHw (l : Launch) (G : gp) (Cm : Mm) {p1 : Int32} {C : Mm} {r0 : Int32} (h : fX11_isHw p1 C = r0) : Met l yX11_isHw (wsy yX11_isHw cX11_isHw 2 (some .boolean)) (rmv 2 46) (va_Pc [.ref (gA G 72), .int p1] (Rl G (Cm, C))) (Qi G PZ r0 (Cm, C)) 0 0 (lwA G) := by
  refine met_i [.ref (gA G 72), .int p1] wX11_isHw.2.2.2.2.2 (Nat.le_of_ble_eq_true rfl) ?_
  intro p e s m args below meth c ls hC hr hP hl
  have hC : Cx G p s m args meth c cX11_isHw RX11 2 := hC
  have hx := hC.1
  have hb := hC.2.1
  have hown := hC.2.2.2.1
  have hts := hC.2.2.2.2.1
  have hS : va_S (lwA G) s.heap s.heap [] := va_S.rf
  have hl : lv_has ls 2 [(0, .ref (gA G 72)), (1, .int p1)] := hl
  unfold fX11_isHw at h
  refine lv_iload_n hx hb dX11_isHw_0 rfl (lv_at hl 1 rfl) ?_
  refine lv_if_lt (tgt := 28) hx hb dX11_isHw_1 (by decide) (fun c1 => ?_) (fun c1 => ?_)
  · replace h := it_t c1 h
    refine lv_iconst (v := 0) hx hb dX11_isHw_28 (by decide) ?_
    exact re_z' hC hr hP hS PZ0 h rfl dX11_isHw_29
  · replace h := it_f c1 h
    refine lv_aload_n hx hb dX11_isHw_4 rfl (lv_at hl 0 rfl) ?_
    refine lv_iload_n hx hb dX11_isHw_5 rfl (lv_at hl 1 rfl) ?_
    refine lv_bipush (v := 10) hx hb dX11_isHw_6 (by decide) ?_
    refine lv_idiv hx hb dX11_isHw_8 (by decide) ?_
    refine rc_i hS (run_V hC wX11_isHead k1297 (e_72 G _) rfl hP hS (As := [.int (p1 / 10)]) (rest := []) (mX11_isHead l G Cm rfl) rfl hl.1 (Nat.le_of_ble_eq_true rfl) ⟨by decide, by decide⟩ ⟨Nat.le_refl _, Nat.le_refl _⟩ rfl dX11_isHw_9) (fun H locs pb3 hP hS => ?_)
    refine lv_if_eq (tgt := 28) hx hb dX11_isHw_12 (by decide) (fun c4 => ?_) (fun c4 => ?_)
    · replace h := it_t c4 h
      refine lv_iconst (v := 0) hx hb dX11_isHw_28 (by decide) ?_
      exact re_z' hC hr hP hS PZ0 h rfl dX11_isHw_29
    · replace h := it_f c4 h
      refine lv_iload_n hx hb dX11_isHw_15 rfl (lv_at hl 1 rfl) ?_
      refine lv_bipush (v := 10) hx hb dX11_isHw_16 (by decide) ?_
      refine r_irem hx hb dX11_isHw_18 (by decide) ?_
      refine lv_bipush (v := 7) hx hb dX11_isHw_19 (by decide) ?_
      refine lv_icmp_ge (tgt := 28) hx hb dX11_isHw_21 (by decide) (fun c5 => ?_) (fun c5 => ?_)
      · replace h := it_t c5 h
        refine lv_iconst (v := 0) hx hb dX11_isHw_28 (by decide) ?_
        exact re_z' hC hr hP hS PZ0 h rfl dX11_isHw_29
      · replace h := it_f c5 h
        refine lv_iconst (v := 1) hx hb dX11_isHw_24 (by decide) ?_
        refine lv_goto (tgt := 29) hx hb dX11_isHw_25 (by decide) ?_
        exact re_z' hC hr hP hS PZ1 h rfl dX11_isHw_29
set_option maxHeartbeats 4000000 in
set_option maxRecDepth 100000 in
theorem mX11_way (l : Launch) (G : gp) (Cm : Mm) {n : Nat} {p1 : Int32} {p2 : Int32} {p3 : Int32} {C : Mm} {r0 : Int32} {C0 : Mm} (h : fX11_way n p1 p2 p3 C = some (r0, C0)) : Met l yX11_way (wsy yX11_way cX11_way 4 (some .int)) (rmv 6 149) (va_Pc [.ref (gA G 72), .int p1, .int p2, .int p3] (Rl G (Cm, C))) (Qi G PT r0 (Cm, C0)) 0 0 (lwA G) := by
  refine met_i [.ref (gA G 72), .int p1, .int p2, .int p3] wX11_way.2.2.2.2.2 (Nat.le_of_ble_eq_true rfl) ?_
  intro p e s m args below meth c ls hC hr hP hl
  have hC : Cx G p s m args meth c cX11_way RX11 4 := hC
  have hx := hC.1
  have hb := hC.2.1
  have hown := hC.2.2.2.1
  have hts := hC.2.2.2.2.1
  have hS : va_S (lwA G) s.heap s.heap [] := va_S.rf
  have hl : lv_has ls 4 [(0, .ref (gA G 72)), (1, .int p1), (2, .int p2), (3, .int p3)] := hl
  unfold fX11_way at h
  refine lv_aload_n hx hb dX11_way_0 rfl (lv_at hl 0 rfl) ?_
  refine lv_iload_n hx hb dX11_way_1 rfl (lv_at hl 1 rfl) ?_
  refine rc_i hS (run_V hC wX11_isHw k1339 (e_72 G _) rfl hP hS (As := [.int p1]) (rest := []) (mX11_isHw l G Cm rfl) rfl hl.1 (Nat.le_of_ble_eq_true rfl) ⟨by decide, by decide⟩ ⟨Nat.le_refl _, Nat.le_refl _⟩ rfl dX11_way_2) (fun H locs pb2 hP hS => ?_)
  refine lv_if_eq (tgt := 27) hx hb dX11_way_5 (by decide) (fun c3 => ?_) (fun c3 => ?_)
  · replace h := it_t c3 h
    refine lv_iconst (v := (-1)) hx hb dX11_way_27 (by decide) ?_
    exact re_i' hC hr hP hS (pr_1 h) (congrArg (fun Z : Mm => (Cm, Z)) (pr_2 h)) dX11_way_28
  · replace h := it_f c3 h
    refine lv_iload_n hx hb dX11_way_8 rfl (lv_at hl 2 rfl) ?_
    refine rc_i hS (run_S hC wX11_isAsk k1317 hP hS (As := [.int p2]) (rest := []) (mX11_isAsk l G Cm rfl) rfl hl.1 (Nat.le_of_ble_eq_true rfl) ⟨by decide, by decide⟩ ⟨Nat.le_refl _, Nat.le_refl _⟩ rfl dX11_way_9) (fun H locs pb5 hP hS => ?_)
    refine lv_if_eq (tgt := 27) hx hb dX11_way_12 (by decide) (fun c6 => ?_) (fun c6 => ?_)
    · replace h := it_t c6 h
      refine lv_iconst (v := (-1)) hx hb dX11_way_27 (by decide) ?_
      exact re_i' hC hr hP hS (pr_1 h) (congrArg (fun Z : Mm => (Cm, Z)) (pr_2 h)) dX11_way_28
    · replace h := it_f c6 h
      refine lv_iload_n hx hb dX11_way_15 rfl (lv_at hl 3 rfl) ?_
      refine lv_i2l hx hb dX11_way_16 rfl ?_
      refine lv_lconst (v := 0) hx hb dX11_way_17 (by decide) ?_
      refine lv_ldc2 hx hb (v := 2) hown (hts _ k1343) dX11_way_18 ?_
      refine rc_i hS (run_S hC wX11_within k1229 hP hS (As := [.long (Int32.toInt64 p3), .long 0, .long 2]) (rest := []) (mX11_within l G Cm rfl) rfl hl.1 (Nat.le_of_ble_eq_true rfl) ⟨by decide, by decide⟩ ⟨Nat.le_refl _, Nat.le_refl _⟩ rfl dX11_way_21) (fun H locs pb8 hP hS => ?_)
      refine lv_if_ne (tgt := 29) hx hb dX11_way_24 (by decide) (fun c9 => ?_) (fun c9 => ?_)
      · replace h := it_f c9 h
        refine lv_aload_n hx hb dX11_way_29 rfl (lv_at hl 0 rfl) ?_
        refine lv_iload_n hx hb dX11_way_30 rfl (lv_at hl 1 rfl) ?_
        refine lv_bipush (v := 10) hx hb dX11_way_31 (by decide) ?_
        refine lv_idiv hx hb dX11_way_33 (by decide) ?_
        refine lv_iload_n hx hb dX11_way_34 rfl (lv_at hl 1 rfl) ?_
        refine lv_bipush (v := 10) hx hb dX11_way_35 (by decide) ?_
        refine r_irem hx hb dX11_way_37 (by decide) ?_
        refine lv_iload_n hx hb dX11_way_38 rfl (lv_at hl 2 rfl) ?_
        refine lv_iconst (v := 0) hx hb dX11_way_39 (by decide) ?_
        obtain ⟨r11, C12, hq10, h⟩ := bp_x h
        refine rc_i hS (run_V hC wX11_layOut k1344 (e_72 G _) rfl hP hS (As := [.int (p1 / 10), .int (irm p1 10), .int p2, .int 0]) (rest := []) (mX11_layOut l G Cm hq10) rfl hl.1 (Nat.le_of_ble_eq_true rfl) ⟨by decide, by decide⟩ ⟨Nat.le_refl _, Nat.le_refl _⟩ rfl dX11_way_40) (fun H locs pb13 hP hS => ?_)
        refine lv_if_ne (tgt := 49) hx hb dX11_way_43 (by decide) (fun c14 => ?_) (fun c14 => ?_)
        · replace h := it_f c14 h
          refine lv_iload_n hx hb dX11_way_49 rfl (lv_at hl 3 rfl) ?_
          refine lv_if_ne (tgt := 60) hx hb dX11_way_50 (by decide) (fun c15 => ?_) (fun c15 => ?_)
          · replace h := it_f c15 h
            refine lv_iload_n hx hb dX11_way_60 rfl (lv_at hl 3 rfl) ?_
            refine lv_iconst (v := 1) hx hb dX11_way_61 (by decide) ?_
            refine lv_icmp_ne (tgt := 72) hx hb dX11_way_62 (by decide) (fun c16 => ?_) (fun c16 => ?_)
            · replace h := it_f c16 h
              refine lv_aload_n hx hb dX11_way_72 rfl (lv_at hl 0 rfl) ?_
              refine r_get (v := .int (C12.1 72 21)) hC inX11 hP (e_72 G _) rfl 21 (by decide) rfl k1071 rfl dX11_way_73 ?_
              exact re_i' hC hr hP hS (pr_1 h) (congrArg (fun Z : Mm => (Cm, Z)) (pr_2 h)) dX11_way_76
            · replace h := it_t c16 h
              refine lv_aload_n hx hb dX11_way_65 rfl (lv_at hl 0 rfl) ?_
              obtain ⟨r18, hq17, h⟩ := bn_x h
              refine rc_i hS (run_V hC wX11_mostHeld k1404 (e_72 G _) rfl hP hS (As := []) (rest := []) (mX11_mostHeld l G Cm hq17) rfl hl.1 (Nat.le_of_ble_eq_true rfl) ⟨by decide, by decide⟩ ⟨Nat.le_refl _, Nat.le_refl _⟩ rfl dX11_way_66) (fun H locs pb19 hP hS => ?_)
              refine lv_goto (tgt := 76) hx hb dX11_way_69 (by decide) ?_
              exact re_i' hC hr hP hS (pr_1 h) (congrArg (fun Z : Mm => (Cm, Z)) (pr_2 h)) dX11_way_76
          · replace h := it_t c15 h
            refine lv_aload_n hx hb dX11_way_53 rfl (lv_at hl 0 rfl) ?_
            obtain ⟨r21, hq20, h⟩ := bn_x h
            refine rc_i hS (run_V hC wX11_seconds k1400 (e_72 G _) rfl hP hS (As := []) (rest := []) (mX11_seconds l G Cm hq20) rfl hl.1 (Nat.le_of_ble_eq_true rfl) ⟨by decide, by decide⟩ ⟨Nat.le_refl _, Nat.le_refl _⟩ rfl dX11_way_54) (fun H locs pb22 hP hS => ?_)
            refine lv_goto (tgt := 76) hx hb dX11_way_57 (by decide) ?_
            exact re_i' hC hr hP hS (pr_1 h) (congrArg (fun Z : Mm => (Cm, Z)) (pr_2 h)) dX11_way_76
        · replace h := it_t c14 h
          refine lv_bipush (v := (-2)) hx hb dX11_way_46 (by decide) ?_
          exact re_i' hC hr hP hS (pr_1 h) (congrArg (fun Z : Mm => (Cm, Z)) (pr_2 h)) dX11_way_48
      · replace h := it_t c9 h
        refine lv_iconst (v := (-1)) hx hb dX11_way_27 (by decide) ?_
        exact re_i' hC hr hP hS (pr_1 h) (congrArg (fun Z : Mm => (Cm, Z)) (pr_2 h)) dX11_way_28
set_option maxHeartbeats 4000000 in
set_option maxRecDepth 100000 in
theorem mX11_step (l : Launch) (G : gp) (Cm : Mm) {n : Nat} {p1 : Int32} {p2 : Int32} {p3 : Int32} {p4 : Int32} {C : Mm} {r0 : Int32} {C0 : Mm} (h : fX11_step n p1 p2 p3 p4 C = some (r0, C0)) : Met l yX11_step (wsy yX11_step cX11_step 5 (some .int)) (rmv 6 149) (va_Pc [.ref (gA G 72), .int p1, .int p2, .int p3, .int p4] (Rl G (Cm, C))) (Qi G PT r0 (Cm, C0)) 0 0 (lwA G) := by
  refine met_i [.ref (gA G 72), .int p1, .int p2, .int p3, .int p4] wX11_step.2.2.2.2.2 (Nat.le_of_ble_eq_true rfl) ?_
  intro p e s m args below meth c ls hC hr hP hl
  have hC : Cx G p s m args meth c cX11_step RX11 5 := hC
  have hx := hC.1
  have hb := hC.2.1
  have hown := hC.2.2.2.1
  have hts := hC.2.2.2.2.1
  have hS : va_S (lwA G) s.heap s.heap [] := va_S.rf
  have hl : lv_has ls 5 [(0, .ref (gA G 72)), (1, .int p1), (2, .int p2), (3, .int p3), (4, .int p4)] := hl
  unfold fX11_step at h
  refine lv_aload_n hx hb dX11_step_0 rfl (lv_at hl 0 rfl) ?_
  refine lv_iload_n hx hb dX11_step_1 rfl (lv_at hl 1 rfl) ?_
  refine rc_i hS (run_V hC wX11_isHw k1339 (e_72 G _) rfl hP hS (As := [.int p1]) (rest := []) (mX11_isHw l G Cm rfl) rfl hl.1 (Nat.le_of_ble_eq_true rfl) ⟨by decide, by decide⟩ ⟨Nat.le_refl _, Nat.le_refl _⟩ rfl dX11_step_2) (fun H locs pb2 hP hS => ?_)
  refine lv_if_eq (tgt := 61) hx hb dX11_step_5 (by decide) (fun c3 => ?_) (fun c3 => ?_)
  · replace h := it_t c3 h
    refine lv_ldcw hx hb (v := (-2000000000)) hown (hts _ k1413) dX11_step_61 ?_
    exact re_i' hC hr hP hS (pr_1 h) (congrArg (fun Z : Mm => (Cm, Z)) (pr_2 h)) dX11_step_64
  · replace h := it_f c3 h
    refine lv_iload_n hx hb dX11_step_8 rfl (lv_at hl 2 rfl) ?_
    refine rc_i hS (run_S hC wX11_isAsk k1317 hP hS (As := [.int p2]) (rest := []) (mX11_isAsk l G Cm rfl) rfl hl.1 (Nat.le_of_ble_eq_true rfl) ⟨by decide, by decide⟩ ⟨Nat.le_refl _, Nat.le_refl _⟩ rfl dX11_step_9) (fun H locs pb5 hP hS => ?_)
    refine lv_if_eq (tgt := 61) hx hb dX11_step_12 (by decide) (fun c6 => ?_) (fun c6 => ?_)
    · replace h := it_t c6 h
      refine lv_ldcw hx hb (v := (-2000000000)) hown (hts _ k1413) dX11_step_61 ?_
      exact re_i' hC hr hP hS (pr_1 h) (congrArg (fun Z : Mm => (Cm, Z)) (pr_2 h)) dX11_step_64
    · replace h := it_f c6 h
      refine lv_iload hx hb dX11_step_15 (lv_at hl 4 rfl) ?_
      refine lv_i2l hx hb dX11_step_17 rfl ?_
      refine lv_lconst (v := 0) hx hb dX11_step_18 (by decide) ?_
      refine lv_ldc2 hx hb (v := 3) hown (hts _ k1412) dX11_step_19 ?_
      refine rc_i hS (run_S hC wX11_within k1229 hP hS (As := [.long (Int32.toInt64 p4), .long 0, .long 3]) (rest := []) (mX11_within l G Cm rfl) rfl hl.1 (Nat.le_of_ble_eq_true rfl) ⟨by decide, by decide⟩ ⟨Nat.le_refl _, Nat.le_refl _⟩ rfl dX11_step_22) (fun H locs pb8 hP hS => ?_)
      refine lv_if_eq (tgt := 61) hx hb dX11_step_25 (by decide) (fun c9 => ?_) (fun c9 => ?_)
      · replace h := it_t c9 h
        refine lv_ldcw hx hb (v := (-2000000000)) hown (hts _ k1413) dX11_step_61 ?_
        exact re_i' hC hr hP hS (pr_1 h) (congrArg (fun Z : Mm => (Cm, Z)) (pr_2 h)) dX11_step_64
      · replace h := it_f c9 h
        refine lv_aload_n hx hb dX11_step_28 rfl (lv_at hl 0 rfl) ?_
        refine lv_iload_n hx hb dX11_step_29 rfl (lv_at hl 1 rfl) ?_
        refine lv_bipush (v := 10) hx hb dX11_step_30 (by decide) ?_
        refine lv_idiv hx hb dX11_step_32 (by decide) ?_
        refine lv_iload_n hx hb dX11_step_33 rfl (lv_at hl 1 rfl) ?_
        refine lv_bipush (v := 10) hx hb dX11_step_34 (by decide) ?_
        refine r_irem hx hb dX11_step_36 (by decide) ?_
        refine lv_iload_n hx hb dX11_step_37 rfl (lv_at hl 2 rfl) ?_
        refine lv_iconst (v := 0) hx hb dX11_step_38 (by decide) ?_
        obtain ⟨r11, C12, hq10, h⟩ := bp_x h
        refine rc_i hS (run_V hC wX11_layOut k1344 (e_72 G _) rfl hP hS (As := [.int (p1 / 10), .int (irm p1 10), .int p2, .int 0]) (rest := []) (mX11_layOut l G Cm hq10) rfl hl.1 (Nat.le_of_ble_eq_true rfl) ⟨by decide, by decide⟩ ⟨Nat.le_refl _, Nat.le_refl _⟩ rfl dX11_step_39) (fun H locs pb13 hP hS => ?_)
        refine lv_if_eq (tgt := 61) hx hb dX11_step_42 (by decide) (fun c14 => ?_) (fun c14 => ?_)
        · replace h := it_t c14 h
          refine lv_ldcw hx hb (v := (-2000000000)) hown (hts _ k1413) dX11_step_61 ?_
          exact re_i' hC hr hP hS (pr_1 h) (congrArg (fun Z : Mm => (Cm, Z)) (pr_2 h)) dX11_step_64
        · replace h := it_f c14 h
          refine lv_iload_n hx hb dX11_step_45 rfl (lv_at hl 3 rfl) ?_
          refine lv_i2l hx hb dX11_step_46 rfl ?_
          refine lv_lconst (v := 0) hx hb dX11_step_47 (by decide) ?_
          refine lv_aload_n hx hb dX11_step_48 rfl (lv_at hl 0 rfl) ?_
          refine r_get (v := .int (C12.1 72 21)) hC inX11 hP (e_72 G _) rfl 21 (by decide) rfl k1071 rfl dX11_step_49 ?_
          refine lv_iconst (v := 1) hx hb dX11_step_52 (by decide) ?_
          refine lv_isub hx hb dX11_step_53 ?_
          refine lv_i2l hx hb dX11_step_54 rfl ?_
          refine rc_i hS (run_S hC wX11_within k1229 hP hS (As := [.long (Int32.toInt64 p3), .long 0, .long (Int32.toInt64 ((C12.1 72 21) - 1))]) (rest := []) (mX11_within l G Cm rfl) rfl hl.1 (Nat.le_of_ble_eq_true rfl) ⟨by decide, by decide⟩ ⟨Nat.le_refl _, Nat.le_refl _⟩ rfl dX11_step_55) (fun H locs pb16 hP hS => ?_)
          refine lv_if_ne (tgt := 65) hx hb dX11_step_58 (by decide) (fun c17 => ?_) (fun c17 => ?_)
          · replace h := it_f c17 h
            refine lv_iload hx hb dX11_step_65 (lv_at hl 4 rfl) ?_
            refine lv_if_ne (tgt := 79) hx hb dX11_step_67 (by decide) (fun c18 => ?_) (fun c18 => ?_)
            · replace h := it_f c18 h
              refine lv_iload hx hb dX11_step_79 (lv_at hl 4 rfl) ?_
              refine lv_iconst (v := 1) hx hb dX11_step_81 (by decide) ?_
              refine lv_icmp_ne (tgt := 94) hx hb dX11_step_82 (by decide) (fun c19 => ?_) (fun c19 => ?_)
              · replace h := it_f c19 h
                refine lv_iload hx hb dX11_step_94 (lv_at hl 4 rfl) ?_
                refine lv_iconst (v := 2) hx hb dX11_step_96 (by decide) ?_
                refine lv_icmp_ne (tgt := 109) hx hb dX11_step_97 (by decide) (fun c20 => ?_) (fun c20 => ?_)
                · replace h := it_f c20 h
                  refine lv_aload_n hx hb dX11_step_109 rfl (lv_at hl 0 rfl) ?_
                  refine r_get (v := .ref (gA G 87)) hC inX11 hP (e_72 G _) rfl 25 (by decide) rfl k1075 rfl dX11_step_110 ?_
                  refine lv_iload_n hx hb dX11_step_113 rfl (lv_at hl 3 rfl) ?_
                  by_cases c21 : p3 < (0 : Int32) ∨ 200 ≤ Int32.toNatClampNeg p3
                  · cases it_t c21 h
                  replace h := it_f c21 h
                  refine r_iald hC hP (f := C12.1 87) (e_87 G _) c21 dX11_step_114 ?_
                  exact re_i' hC hr hP hS (pr_1 h) (congrArg (fun Z : Mm => (Cm, Z)) (pr_2 h)) dX11_step_115
                · replace h := it_t c20 h
                  refine lv_aload_n hx hb dX11_step_100 rfl (lv_at hl 0 rfl) ?_
                  refine r_get (v := .ref (gA G 86)) hC inX11 hP (e_72 G _) rfl 24 (by decide) rfl k1074 rfl dX11_step_101 ?_
                  refine lv_iload_n hx hb dX11_step_104 rfl (lv_at hl 3 rfl) ?_
                  by_cases c22 : p3 < (0 : Int32) ∨ 200 ≤ Int32.toNatClampNeg p3
                  · cases it_t c22 h
                  replace h := it_f c22 h
                  refine r_iald hC hP (f := C12.1 86) (e_86 G _) c22 dX11_step_105 ?_
                  refine lv_goto (tgt := 115) hx hb dX11_step_106 (by decide) ?_
                  exact re_i' hC hr hP hS (pr_1 h) (congrArg (fun Z : Mm => (Cm, Z)) (pr_2 h)) dX11_step_115
              · replace h := it_t c19 h
                refine lv_aload_n hx hb dX11_step_85 rfl (lv_at hl 0 rfl) ?_
                refine r_get (v := .ref (gA G 85)) hC inX11 hP (e_72 G _) rfl 23 (by decide) rfl k1073 rfl dX11_step_86 ?_
                refine lv_iload_n hx hb dX11_step_89 rfl (lv_at hl 3 rfl) ?_
                by_cases c23 : p3 < (0 : Int32) ∨ 200 ≤ Int32.toNatClampNeg p3
                · cases it_t c23 h
                replace h := it_f c23 h
                refine r_iald hC hP (f := C12.1 85) (e_85 G _) c23 dX11_step_90 ?_
                refine lv_goto (tgt := 115) hx hb dX11_step_91 (by decide) ?_
                exact re_i' hC hr hP hS (pr_1 h) (congrArg (fun Z : Mm => (Cm, Z)) (pr_2 h)) dX11_step_115
            · replace h := it_t c18 h
              refine lv_aload_n hx hb dX11_step_70 rfl (lv_at hl 0 rfl) ?_
              refine r_get (v := .ref (gA G 84)) hC inX11 hP (e_72 G _) rfl 22 (by decide) rfl k1072 rfl dX11_step_71 ?_
              refine lv_iload_n hx hb dX11_step_74 rfl (lv_at hl 3 rfl) ?_
              by_cases c24 : p3 < (0 : Int32) ∨ 200 ≤ Int32.toNatClampNeg p3
              · cases it_t c24 h
              replace h := it_f c24 h
              refine r_iald hC hP (f := C12.1 84) (e_84 G _) c24 dX11_step_75 ?_
              refine lv_goto (tgt := 115) hx hb dX11_step_76 (by decide) ?_
              exact re_i' hC hr hP hS (pr_1 h) (congrArg (fun Z : Mm => (Cm, Z)) (pr_2 h)) dX11_step_115
          · replace h := it_t c17 h
            refine lv_ldcw hx hb (v := (-2000000000)) hown (hts _ k1413) dX11_step_61 ?_
            exact re_i' hC hr hP hS (pr_1 h) (congrArg (fun Z : Mm => (Cm, Z)) (pr_2 h)) dX11_step_64
set_option maxHeartbeats 4000000 in
set_option maxRecDepth 100000 in
theorem mX11_noughtsOf (l : Launch) (G : gp) (Cm : Mm) {n : Nat} {p0 : Int32} {C : Mm} {r0 : Int32} (h : fX11_noughtsOf n p0 = some r0) : Met l yX11_noughtsOf (wsy yX11_noughtsOf cX11_noughtsOf 3 (some .int)) (rmv 0 0) (va_Pc [.int p0] (Rl G (Cm, C))) (Qi G PT r0 (Cm, C)) 0 0 (lwA G) := by
  refine met_i [.int p0] wX11_noughtsOf.2.2.2.2 (Nat.le_of_ble_eq_true rfl) ?_
  intro p e s m args below meth c ls hC hr hP hl
  have hC : Cx G p s m args meth c cX11_noughtsOf RX11 3 := hC
  have hx := hC.1
  have hb := hC.2.1
  have hown := hC.2.2.2.1
  have hts := hC.2.2.2.2.1
  have hS : va_S (lwA G) s.heap s.heap [] := va_S.rf
  have hl : lv_has ls 3 [(0, .int p0)] := hl
  have bl21 : ∀ (k4 : Int32 → Int32 → Option Int32) (hk4 : ∀ (y1 : Int32) (y2 : Int32) (C : Mm) (H : Heap) (locs : List Loc) (ls : Array Slot), k4 y1 y2 = some r0 → lv_has ls 3 [(1, .int y1), (2, .int y2)] → va_P (gD G) vwCl (wld G (Cm, C)) H → va_S (lwA G) s.heap H locs → W p l e (rmv 0 0) s m args below meth c H locs 0 0 (MQ below (Qi G PT r0 (Cm, C)) args s 0 0 (lwA G)) (F0 m 4 ls [])), ∀ (y2 : Int32) (s0 : Int32) (s1 : Int32) (C : Mm) (H : Heap) (locs : List Loc) (ls : Array Slot), fX11_noughtsOf_b21 n k4 y2 s0 s1 = some r0 → lv_has ls 3 [(2, .int y2)] → va_P (gD G) vwCl (wld G (Cm, C)) H → va_S (lwA G) s.heap H locs → W p l e (rmv 0 0) s m args below meth c H locs 0 0 (MQ below (Qi G PT r0 (Cm, C)) args s 0 0 (lwA G)) (F0 m 21 ls [.int s0, .int s1]) := by
    intro k4 hk4 y2 s0 s1 C H locs ls h hl hP hS
    unfold fX11_noughtsOf_b21 at h
    refine lv_iadd hx hb dX11_noughtsOf_21 ?_
    refine lv_topi (fun x1 ex1 => ?_)
    replace h := lt_y ex1 h
    refine lv_istore_n (lv' := [(1, .int x1), (2, .int y2)]) hx hb dX11_noughtsOf_22 rfl hl (by decide) rfl (fun ls hl => ?_)
    refine lv_iload_n hx hb dX11_noughtsOf_23 rfl (lv_at hl 1 rfl) ?_
    refine lv_bipush (v := 10) hx hb dX11_noughtsOf_24 (by decide) ?_
    refine lv_idiv hx hb dX11_noughtsOf_26 (by decide) ?_
    refine lv_topi (fun x2 ex2 => ?_)
    replace h := lt_y ex2 h
    refine lv_istore_n (lv' := [(2, .int x2), (1, .int x1)]) hx hb dX11_noughtsOf_27 rfl hl (by decide) rfl (fun ls hl => ?_)
    refine lv_goto (tgt := 4) hx hb dX11_noughtsOf_28 (by decide) ?_
    exact hk4 x1 x2 _ _ _ _ h (lv_sub hl [1, 0] rfl) hP hS
  have bl4 : ∀ (fu : Nat), ∀ (y1 : Int32) (y2 : Int32) (C : Mm) (H : Heap) (locs : List Loc) (ls : Array Slot), fX11_noughtsOf_h4 n fu y1 y2 = some r0 → lv_has ls 3 [(1, .int y1), (2, .int y2)] → va_P (gD G) vwCl (wld G (Cm, C)) H → va_S (lwA G) s.heap H locs → W p l e (rmv 0 0) s m args below meth c H locs 0 0 (MQ below (Qi G PT r0 (Cm, C)) args s 0 0 (lwA G)) (F0 m 4 ls []) := by
    intro fu
    induction fu with
    | zero =>
      intro y1 y2 C H locs ls h hl hP hS
      rw [fX11_noughtsOf_h4.eq_1] at h
      cases h
    | succ fu ih =>
      intro y1 y2 C H locs ls h hl hP hS
      rw [fX11_noughtsOf_h4.eq_2] at h
      refine lv_iload_n hx hb dX11_noughtsOf_4 rfl (lv_at hl 1 rfl) ?_
      refine lv_if_le (tgt := 31) hx hb dX11_noughtsOf_5 (by decide) (fun c3 => ?_) (fun c3 => ?_)
      · replace h := it_t c3 h
        refine lv_iload_n hx hb dX11_noughtsOf_31 rfl (lv_at hl 0 rfl) ?_
        exact re_i' hC hr hP hS (Option.some.inj h) rfl dX11_noughtsOf_32
      · replace h := it_f c3 h
        refine lv_iload_n hx hb dX11_noughtsOf_8 rfl (lv_at hl 0 rfl) ?_
        refine lv_iload_n hx hb dX11_noughtsOf_9 rfl (lv_at hl 1 rfl) ?_
        refine lv_bipush (v := 10) hx hb dX11_noughtsOf_10 (by decide) ?_
        refine r_irem hx hb dX11_noughtsOf_12 (by decide) ?_
        refine lv_if_ne (tgt := 20) hx hb dX11_noughtsOf_13 (by decide) (fun c4 => ?_) (fun c4 => ?_)
        · replace h := it_f c4 h
          refine lv_iconst (v := 0) hx hb dX11_noughtsOf_20 (by decide) ?_
          exact bl21 (fX11_noughtsOf_h4 n fu) ih y2 0 y1 _ _ _ _ h (lv_sub hl [1] rfl) hP hS
        · replace h := it_t c4 h
          refine lv_iconst (v := 1) hx hb dX11_noughtsOf_16 (by decide) ?_
          refine lv_goto (tgt := 21) hx hb dX11_noughtsOf_17 (by decide) ?_
          exact bl21 (fX11_noughtsOf_h4 n fu) ih y2 1 y1 _ _ _ _ h (lv_sub hl [1] rfl) hP hS
  unfold fX11_noughtsOf at h
  refine lv_iconst (v := 0) hx hb dX11_noughtsOf_0 (by decide) ?_
  refine lv_istore_n (lv' := [(1, .int 0), (0, .int p0)]) hx hb dX11_noughtsOf_1 rfl hl (by decide) rfl (fun ls hl => ?_)
  refine lv_iload_n hx hb dX11_noughtsOf_2 rfl (lv_at hl 1 rfl) ?_
  refine lv_istore_n (lv' := [(2, .int p0), (1, .int 0), (0, .int p0)]) hx hb dX11_noughtsOf_3 rfl hl (by decide) rfl (fun ls hl => ?_)
  exact bl4 n 0 p0 _ _ _ _ h (lv_sub hl [1, 0] rfl) hP hS
set_option maxHeartbeats 4000000 in
set_option maxRecDepth 100000 in
theorem mX11_chosenBy (l : Launch) (G : gp) (Cm : Mm) {n : Nat} {p1 : Int32} {p2 : Int32} {p3 : Int32} {C : Mm} {r0 : Int32} {C0 : Mm} (h : fX11_chosenBy n p1 p2 p3 C = some (r0, C0)) : Met l yX11_chosenBy (wsy yX11_chosenBy cX11_chosenBy 7 (some .int)) (rmv 81 1849) (va_Pc [.ref (gA G 72), .int p1, .int p2, .int p3] (Rl G (Cm, C))) (Qi G PT r0 (Cm, C0)) 0 0 (lwA G) := by
  refine met_i [.ref (gA G 72), .int p1, .int p2, .int p3] wX11_chosenBy.2.2.2.2.2 (Nat.le_of_ble_eq_true rfl) ?_
  intro p e s m args below meth c ls hC hr hP hl
  have hC : Cx G p s m args meth c cX11_chosenBy RX11 7 := hC
  have hx := hC.1
  have hb := hC.2.1
  have hown := hC.2.2.2.1
  have hts := hC.2.2.2.2.1
  have hS : va_S (lwA G) s.heap s.heap [] := va_S.rf
  have hl : lv_has ls 7 [(0, .ref (gA G 72)), (1, .int p1), (2, .int p2), (3, .int p3)] := hl
  have bl177 : ∀ (y1 : Int32) (y2 : Int32) (y3 : Int32) (C : Mm) (H : Heap) (locs : List Loc) (ls : Array Slot), fX11_chosenBy_b177 n y1 y2 y3 C = some (r0, C0) → lv_has ls 7 [(0, .ref (gA G 72)), (1, .int y1), (2, .int y2), (3, .int y3)] → va_P (gD G) vwCl (wld G (Cm, C)) H → va_S (lwA G) s.heap H locs → W p l e (rmv 81 1849) s m args below meth c H locs 0 0 (MQ below (Qi G PT r0 (Cm, C0)) args s 0 0 (lwA G)) (F0 m 177 ls []) := by
    intro y1 y2 y3 C H locs ls h hl hP hS
    unfold fX11_chosenBy_b177 at h
    refine lv_iconst (v := 1) hx hb dX11_chosenBy_177 (by decide) ?_
    refine lv_istore (lv' := [(4, .int 1), (0, .ref (gA G 72)), (1, .int y1), (2, .int y2), (3, .int y3)]) hx hb dX11_chosenBy_178 hl (by decide) rfl (fun ls hl => ?_)
    refine lv_aload_n hx hb dX11_chosenBy_180 rfl (lv_at hl 1 rfl) ?_
    refine lv_iload_n hx hb dX11_chosenBy_181 rfl (lv_at hl 2 rfl) ?_
    refine lv_iload hx hb dX11_chosenBy_182 (lv_at hl 0 rfl) ?_
    refine lv_iload_n hx hb dX11_chosenBy_184 rfl (lv_at hl 3 rfl) ?_
    refine lv_iload_n hx hb dX11_chosenBy_185 rfl (lv_at hl 4 rfl) ?_
    obtain ⟨r2, C3, hq1, h⟩ := bp_x h
    refine rc_i hS (run_V hC wX11_layOut k1344 (e_72 G _) rfl hP hS (As := [.int y1, .int 1, .int y2, .int y3]) (rest := []) (mX11_layOut l G Cm hq1) rfl hl.1 (Nat.le_of_ble_eq_true rfl) ⟨by decide, by decide⟩ ⟨Nat.le_refl _, Nat.le_refl _⟩ rfl dX11_chosenBy_186) (fun H locs pb4 hP hS => ?_)
    refine lv_istore (lv' := [(5, .int r2), (4, .int 1), (0, .ref (gA G 72)), (1, .int y1), (2, .int y2), (3, .int y3)]) hx hb dX11_chosenBy_189 hl (by decide) rfl (fun ls hl => ?_)
    refine lv_iload hx hb dX11_chosenBy_191 (lv_at hl 1 rfl) ?_
    exact re_i' hC hr hP hS (pr_1 h) (congrArg (fun Z : Mm => (Cm, Z)) (pr_2 h)) dX11_chosenBy_193
  have bl152 : ∀ (y1 : Int32) (y2 : Int32) (y3 : Int32) (y4 : Int32) (C : Mm) (H : Heap) (locs : List Loc) (ls : Array Slot), fX11_chosenBy_b152 n y1 y2 y3 y4 C = some (r0, C0) → lv_has ls 7 [(0, .ref (gA G 72)), (1, .int y1), (2, .int y2), (3, .int y3), (4, .int y4)] → va_P (gD G) vwCl (wld G (Cm, C)) H → va_S (lwA G) s.heap H locs → W p l e (rmv 81 1849) s m args below meth c H locs 0 0 (MQ below (Qi G PT r0 (Cm, C0)) args s 0 0 (lwA G)) (F0 m 152 ls []) := by
    intro y1 y2 y3 y4 C H locs ls h hl hP hS
    unfold fX11_chosenBy_b152 at h
    refine lv_iload hx hb dX11_chosenBy_152 (lv_at hl 4 rfl) ?_
    refine lv_i2l hx hb dX11_chosenBy_154 rfl ?_
    refine lv_lconst (v := 0) hx hb dX11_chosenBy_155 (by decide) ?_
    refine lv_ldc2 hx hb (v := 6) hown (hts _ k1425) dX11_chosenBy_156 ?_
    refine rc_i hS (run_S hC wX11_within k1229 hP hS (As := [.long (Int32.toInt64 y4), .long 0, .long 6]) (rest := []) (mX11_within l G Cm rfl) rfl hl.1 (Nat.le_of_ble_eq_true rfl) ⟨by decide, by decide⟩ ⟨Nat.le_refl _, Nat.le_refl _⟩ rfl dX11_chosenBy_159) (fun H locs pb6 hP hS => ?_)
    refine lv_if_eq (tgt := 177) hx hb dX11_chosenBy_162 (by decide) (fun c7 => ?_) (fun c7 => ?_)
    · replace h := it_t c7 h
      exact bl177 y1 y2 y3 C _ _ _ h (lv_sub hl [0, 1, 2, 3] rfl) hP hS
    · replace h := it_f c7 h
      refine lv_aload_n hx hb dX11_chosenBy_165 rfl (lv_at hl 0 rfl) ?_
      refine lv_iload_n hx hb dX11_chosenBy_166 rfl (lv_at hl 1 rfl) ?_
      refine lv_iload hx hb dX11_chosenBy_167 (lv_at hl 4 rfl) ?_
      refine lv_iload_n hx hb dX11_chosenBy_169 rfl (lv_at hl 2 rfl) ?_
      refine lv_iload_n hx hb dX11_chosenBy_170 rfl (lv_at hl 3 rfl) ?_
      obtain ⟨r9, C10, hq8, h⟩ := bp_x h
      refine rc_i hS (run_V hC wX11_layOut k1344 (e_72 G _) rfl hP hS (As := [.int y1, .int y4, .int y2, .int y3]) (rest := []) (mX11_layOut l G Cm hq8) rfl hl.1 (Nat.le_of_ble_eq_true rfl) ⟨by decide, by decide⟩ ⟨Nat.le_refl _, Nat.le_refl _⟩ rfl dX11_chosenBy_171) (fun H locs pb11 hP hS => ?_)
      refine lv_if_ne (tgt := 191) hx hb dX11_chosenBy_174 (by decide) (fun c12 => ?_) (fun c12 => ?_)
      · replace h := it_f c12 h
        refine lv_iload hx hb dX11_chosenBy_191 (lv_at hl 4 rfl) ?_
        exact re_i' hC hr hP hS (pr_1 h) (congrArg (fun Z : Mm => (Cm, Z)) (pr_2 h)) dX11_chosenBy_193
      · replace h := it_t c12 h
        exact bl177 y1 y2 y3 C10 _ _ _ h (lv_sub hl [0, 1, 2, 3] rfl) hP hS
  have bl123 : ∀ (y1 : Int32) (y2 : Int32) (y3 : Int32) (s0 : Int32) (s1 : Int32) (C : Mm) (H : Heap) (locs : List Loc) (ls : Array Slot), fX11_chosenBy_b123 n y1 y2 y3 s0 s1 C = some (r0, C0) → lv_has ls 7 [(0, .ref (gA G 72)), (1, .int y1), (2, .int y2), (3, .int y3)] → va_P (gD G) vwCl (wld G (Cm, C)) H → va_S (lwA G) s.heap H locs → W p l e (rmv 81 1849) s m args below meth c H locs 0 0 (MQ below (Qi G PT r0 (Cm, C0)) args s 0 0 (lwA G)) (F0 m 123 ls [.int s0, .int s1, .ref (gA G 79)]) := by
    intro y1 y2 y3 s0 s1 C H locs ls h hl hP hS
    unfold fX11_chosenBy_b123 at h
    by_cases c13 : s1 < (0 : Int32) ∨ 8 ≤ Int32.toNatClampNeg s1
    · cases it_t c13 h
    replace h := it_f c13 h
    obtain ⟨C14, eC14⟩ : ∃ Z : Mm, Z = wrI C 79 (Int32.toNatClampNeg s1) s0 := ⟨_, rfl⟩
    replace h := lt_y eC14 h
    refine r_iast (X' := (Cm, C14)) hC hP hS (e_79 G _) c13 (a_79 G _ _ _ _ eC14) dX11_chosenBy_123 (fun H locs hP hS => ?_)
    refine lv_aload_n hx hb dX11_chosenBy_124 rfl (lv_at hl 0 rfl) ?_
    refine r_get (v := .ref (gA G 79)) hC inX11 hP (e_72 G _) rfl 15 (by decide) rfl k1065 rfl dX11_chosenBy_125 ?_
    refine lv_bipush (v := 7) hx hb dX11_chosenBy_128 (by decide) ?_
    refine lv_aload_n hx hb dX11_chosenBy_130 rfl (lv_at hl 0 rfl) ?_
    refine r_get (v := .ref (gA G 73)) hC inX11 hP (e_72 G _) rfl 0 (by decide) rfl k1050 rfl dX11_chosenBy_131 ?_
    refine lv_iconst (v := 5) hx hb dX11_chosenBy_134 (by decide) ?_
    refine lv_iload_n hx hb dX11_chosenBy_135 rfl (lv_at hl 1 rfl) ?_
    refine lv_imul hx hb dX11_chosenBy_136 ?_
    refine lv_iconst (v := 4) hx hb dX11_chosenBy_137 (by decide) ?_
    refine lv_iadd hx hb dX11_chosenBy_138 ?_
    by_cases c15 : ((5 * y1) + 4) < (0 : Int32) ∨ 30 ≤ Int32.toNatClampNeg ((5 * y1) + 4)
    · cases it_t c15 h
    replace h := it_f c15 h
    refine r_iald hC hP (f := C14.1 73) (e_73 G _) c15 dX11_chosenBy_139 ?_
    by_cases c16 : 7 < (0 : Int32) ∨ 8 ≤ Int32.toNatClampNeg 7
    · cases it_t c16 h
    replace h := it_f c16 h
    obtain ⟨C17, eC17⟩ : ∃ Z : Mm, Z = wrI C14 79 (Int32.toNatClampNeg 7) (C14.1 73 (Int32.toNatClampNeg ((5 * y1) + 4))) := ⟨_, rfl⟩
    replace h := lt_y eC17 h
    refine r_iast (X' := (Cm, C17)) hC hP hS (e_79 G _) c16 (a_79 G _ _ _ _ eC17) dX11_chosenBy_140 (fun H locs hP hS => ?_)
    refine lv_aload_n hx hb dX11_chosenBy_141 rfl (lv_at hl 0 rfl) ?_
    refine lv_iconst (v := 0) hx hb dX11_chosenBy_142 (by decide) ?_
    refine lv_aload_n hx hb dX11_chosenBy_143 rfl (lv_at hl 0 rfl) ?_
    refine r_get (v := .int (C17.1 72 9)) hC inX11 hP (e_72 G _) rfl 9 (by decide) rfl k1059 rfl dX11_chosenBy_144 ?_
    obtain ⟨r19, C20, hq18, h⟩ := bp_x h
    refine rc_i hS (run_V hC wX11_workOut k1236 (e_72 G _) rfl hP hS (As := [.int 0, .int (C17.1 72 9)]) (rest := []) (mX11_workOut l G Cm hq18) rfl hl.1 (Nat.le_of_ble_eq_true rfl) ⟨by decide, by decide⟩ ⟨Nat.le_refl _, Nat.le_refl _⟩ rfl dX11_chosenBy_147) (fun H locs pb21 hP hS => ?_)
    refine lv_istore (lv' := [(4, .int r19), (0, .ref (gA G 72)), (1, .int y1), (2, .int y2), (3, .int y3)]) hx hb dX11_chosenBy_150 hl (by decide) rfl (fun ls hl => ?_)
    exact bl152 y1 y2 y3 r19 C20 _ _ _ h (lv_sub hl [1, 2, 3, 4, 0] rfl) hP hS
  unfold fX11_chosenBy at h
  refine lv_iconst (v := 1) hx hb dX11_chosenBy_0 (by decide) ?_
  refine lv_istore (lv' := [(4, .int 1), (0, .ref (gA G 72)), (1, .int p1), (2, .int p2), (3, .int p3)]) hx hb dX11_chosenBy_1 hl (by decide) rfl (fun ls hl => ?_)
  refine lv_aload_n hx hb dX11_chosenBy_3 rfl (lv_at hl 1 rfl) ?_
  refine r_get (v := .int (C.1 72 9)) hC inX11 hP (e_72 G _) rfl 9 (by decide) rfl k1059 rfl dX11_chosenBy_4 ?_
  refine lv_if_lt (tgt := 152) hx hb dX11_chosenBy_7 (by decide) (fun c22 => ?_) (fun c22 => ?_)
  · replace h := it_t c22 h
    exact bl152 p1 p2 p3 1 C _ _ _ h (lv_sub hl [1, 2, 3, 4, 0] rfl) hP hS
  · replace h := it_f c22 h
    refine lv_iload_n hx hb dX11_chosenBy_10 rfl (lv_at hl 3 rfl) ?_
    refine lv_sipush (v := 10000) hx hb dX11_chosenBy_11 (by decide) ?_
    refine lv_idiv hx hb dX11_chosenBy_14 (by decide) ?_
    refine lv_topi (fun x23 ex23 => ?_)
    replace h := lt_y ex23 h
    refine lv_istore (lv' := [(5, .int x23), (4, .int 1), (0, .ref (gA G 72)), (1, .int p1), (2, .int p2), (3, .int p3)]) hx hb dX11_chosenBy_15 hl (by decide) rfl (fun ls hl => ?_)
    refine lv_iload_n hx hb dX11_chosenBy_17 rfl (lv_at hl 4 rfl) ?_
    refine lv_sipush (v := 10000) hx hb dX11_chosenBy_18 (by decide) ?_
    refine r_irem hx hb dX11_chosenBy_21 (by decide) ?_
    refine lv_topi (fun x24 ex24 => ?_)
    replace h := lt_y ex24 h
    refine lv_istore (lv' := [(6, .int x24), (5, .int x23), (4, .int 1), (0, .ref (gA G 72)), (1, .int p1), (2, .int p2), (3, .int p3)]) hx hb dX11_chosenBy_22 hl (by decide) rfl (fun ls hl => ?_)
    refine lv_aload_n hx hb dX11_chosenBy_24 rfl (lv_at hl 3 rfl) ?_
    refine r_get (v := .ref (gA G 79)) hC inX11 hP (e_72 G _) rfl 15 (by decide) rfl k1065 rfl dX11_chosenBy_25 ?_
    refine lv_iconst (v := 0) hx hb dX11_chosenBy_28 (by decide) ?_
    refine lv_iload hx hb dX11_chosenBy_29 (lv_at hl 1 rfl) ?_
    obtain ⟨r26, hq25, h⟩ := bn_x h
    refine rc_i hS (run_S hC wX11_digits k1360 hP hS (As := [.int x23]) (rest := [.int 0, .ref (gA G 79)]) (mX11_digits l G Cm hq25) rfl hl.1 (Nat.le_of_ble_eq_true rfl) ⟨by decide, by decide⟩ ⟨Nat.le_refl _, Nat.le_refl _⟩ rfl dX11_chosenBy_31) (fun H locs pb27 hP hS => ?_)
    by_cases c28 : 0 < (0 : Int32) ∨ 8 ≤ Int32.toNatClampNeg 0
    · cases it_t c28 h
    replace h := it_f c28 h
    obtain ⟨C29, eC29⟩ : ∃ Z : Mm, Z = wrI C 79 (Int32.toNatClampNeg 0) r26 := ⟨_, rfl⟩
    replace h := lt_y eC29 h
    refine r_iast (X' := (Cm, C29)) hC hP hS (e_79 G _) c28 (a_79 G _ _ _ _ eC29) dX11_chosenBy_34 (fun H locs hP hS => ?_)
    refine lv_aload_n hx hb dX11_chosenBy_35 rfl (lv_at hl 3 rfl) ?_
    refine r_get (v := .ref (gA G 79)) hC inX11 hP (e_72 G _) rfl 15 (by decide) rfl k1065 rfl dX11_chosenBy_36 ?_
    refine lv_iconst (v := 1) hx hb dX11_chosenBy_39 (by decide) ?_
    refine lv_iload hx hb dX11_chosenBy_40 (lv_at hl 0 rfl) ?_
    obtain ⟨r31, hq30, h⟩ := bn_x h
    refine rc_i hS (run_S hC wX11_digits k1360 hP hS (As := [.int x24]) (rest := [.int 1, .ref (gA G 79)]) (mX11_digits l G Cm hq30) rfl hl.1 (Nat.le_of_ble_eq_true rfl) ⟨by decide, by decide⟩ ⟨Nat.le_refl _, Nat.le_refl _⟩ rfl dX11_chosenBy_42) (fun H locs pb32 hP hS => ?_)
    by_cases c33 : 1 < (0 : Int32) ∨ 8 ≤ Int32.toNatClampNeg 1
    · cases it_t c33 h
    replace h := it_f c33 h
    obtain ⟨C34, eC34⟩ : ∃ Z : Mm, Z = wrI C29 79 (Int32.toNatClampNeg 1) r31 := ⟨_, rfl⟩
    replace h := lt_y eC34 h
    refine r_iast (X' := (Cm, C34)) hC hP hS (e_79 G _) c33 (a_79 G _ _ _ _ eC34) dX11_chosenBy_45 (fun H locs hP hS => ?_)
    refine lv_aload_n hx hb dX11_chosenBy_46 rfl (lv_at hl 3 rfl) ?_
    refine r_get (v := .ref (gA G 79)) hC inX11 hP (e_72 G _) rfl 15 (by decide) rfl k1065 rfl dX11_chosenBy_47 ?_
    refine lv_iconst (v := 2) hx hb dX11_chosenBy_50 (by decide) ?_
    refine lv_iload hx hb dX11_chosenBy_51 (lv_at hl 1 rfl) ?_
    refine lv_bipush (v := 10) hx hb dX11_chosenBy_53 (by decide) ?_
    refine r_irem hx hb dX11_chosenBy_55 (by decide) ?_
    by_cases c35 : 2 < (0 : Int32) ∨ 8 ≤ Int32.toNatClampNeg 2
    · cases it_t c35 h
    replace h := it_f c35 h
    obtain ⟨C36, eC36⟩ : ∃ Z : Mm, Z = wrI C34 79 (Int32.toNatClampNeg 2) (irm x23 10) := ⟨_, rfl⟩
    replace h := lt_y eC36 h
    refine r_iast (X' := (Cm, C36)) hC hP hS (e_79 G _) c35 (a_79 G _ _ _ _ eC36) dX11_chosenBy_56 (fun H locs hP hS => ?_)
    refine lv_aload_n hx hb dX11_chosenBy_57 rfl (lv_at hl 3 rfl) ?_
    refine r_get (v := .ref (gA G 79)) hC inX11 hP (e_72 G _) rfl 15 (by decide) rfl k1065 rfl dX11_chosenBy_58 ?_
    refine lv_iconst (v := 3) hx hb dX11_chosenBy_61 (by decide) ?_
    refine lv_iload hx hb dX11_chosenBy_62 (lv_at hl 0 rfl) ?_
    refine lv_bipush (v := 10) hx hb dX11_chosenBy_64 (by decide) ?_
    refine r_irem hx hb dX11_chosenBy_66 (by decide) ?_
    by_cases c37 : 3 < (0 : Int32) ∨ 8 ≤ Int32.toNatClampNeg 3
    · cases it_t c37 h
    replace h := it_f c37 h
    obtain ⟨C38, eC38⟩ : ∃ Z : Mm, Z = wrI C36 79 (Int32.toNatClampNeg 3) (irm x24 10) := ⟨_, rfl⟩
    replace h := lt_y eC38 h
    refine r_iast (X' := (Cm, C38)) hC hP hS (e_79 G _) c37 (a_79 G _ _ _ _ eC38) dX11_chosenBy_67 (fun H locs hP hS => ?_)
    refine lv_aload_n hx hb dX11_chosenBy_68 rfl (lv_at hl 3 rfl) ?_
    refine r_get (v := .ref (gA G 79)) hC inX11 hP (e_72 G _) rfl 15 (by decide) rfl k1065 rfl dX11_chosenBy_69 ?_
    refine lv_iconst (v := 4) hx hb dX11_chosenBy_72 (by decide) ?_
    refine lv_iload hx hb dX11_chosenBy_73 (lv_at hl 1 rfl) ?_
    refine lv_iload hx hb dX11_chosenBy_75 (lv_at hl 0 rfl) ?_
    refine lv_isub hx hb dX11_chosenBy_77 ?_
    refine rc_i hS (run_S hC wX11_size k1393 hP hS (As := [.int (x23 - x24)]) (rest := [.int 4, .ref (gA G 79)]) (mX11_size l G Cm rfl) rfl hl.1 (Nat.le_of_ble_eq_true rfl) ⟨by decide, by decide⟩ ⟨Nat.le_refl _, Nat.le_refl _⟩ rfl dX11_chosenBy_78) (fun H locs pb40 hP hS => ?_)
    by_cases c41 : 4 < (0 : Int32) ∨ 8 ≤ Int32.toNatClampNeg 4
    · cases it_t c41 h
    replace h := it_f c41 h
    obtain ⟨C42, eC42⟩ : ∃ Z : Mm, Z = wrI C38 79 (Int32.toNatClampNeg 4) (fX11_size (x23 - x24)) := ⟨_, rfl⟩
    replace h := lt_y eC42 h
    refine r_iast (X' := (Cm, C42)) hC hP hS (e_79 G _) c41 (a_79 G _ _ _ _ eC42) dX11_chosenBy_81 (fun H locs hP hS => ?_)
    refine lv_aload_n hx hb dX11_chosenBy_82 rfl (lv_at hl 3 rfl) ?_
    refine r_get (v := .ref (gA G 79)) hC inX11 hP (e_72 G _) rfl 15 (by decide) rfl k1065 rfl dX11_chosenBy_83 ?_
    refine lv_iconst (v := 5) hx hb dX11_chosenBy_86 (by decide) ?_
    refine lv_iload hx hb dX11_chosenBy_87 (lv_at hl 1 rfl) ?_
    obtain ⟨r44, hq43, h⟩ := bn_x h
    refine rc_i hS (run_S hC wX11_noughtsOf k1422 hP hS (As := [.int x23]) (rest := [.int 5, .ref (gA G 79)]) (mX11_noughtsOf l G Cm hq43) rfl hl.1 (Nat.le_of_ble_eq_true rfl) ⟨by decide, by decide⟩ ⟨Nat.le_refl _, Nat.le_refl _⟩ rfl dX11_chosenBy_89) (fun H locs pb45 hP hS => ?_)
    refine lv_iload hx hb dX11_chosenBy_92 (lv_at hl 0 rfl) ?_
    obtain ⟨r47, hq46, h⟩ := bn_x h
    refine rc_i hS (run_S hC wX11_noughtsOf k1422 hP hS (As := [.int x24]) (rest := [.int r44, .int 5, .ref (gA G 79)]) (mX11_noughtsOf l G Cm hq46) rfl hl.1 (Nat.le_of_ble_eq_true rfl) ⟨by decide, by decide⟩ ⟨Nat.le_refl _, Nat.le_refl _⟩ rfl dX11_chosenBy_94) (fun H locs pb48 hP hS => ?_)
    refine lv_iadd hx hb dX11_chosenBy_97 ?_
    by_cases c49 : 5 < (0 : Int32) ∨ 8 ≤ Int32.toNatClampNeg 5
    · cases it_t c49 h
    replace h := it_f c49 h
    obtain ⟨C50, eC50⟩ : ∃ Z : Mm, Z = wrI C42 79 (Int32.toNatClampNeg 5) (r44 + r47) := ⟨_, rfl⟩
    replace h := lt_y eC50 h
    refine r_iast (X' := (Cm, C50)) hC hP hS (e_79 G _) c49 (a_79 G _ _ _ _ eC50) dX11_chosenBy_98 (fun H locs hP hS => ?_)
    refine lv_aload_n hx hb dX11_chosenBy_99 rfl (lv_at hl 3 rfl) ?_
    refine r_get (v := .ref (gA G 79)) hC inX11 hP (e_72 G _) rfl 15 (by decide) rfl k1065 rfl dX11_chosenBy_100 ?_
    refine lv_bipush (v := 6) hx hb dX11_chosenBy_103 (by decide) ?_
    refine lv_iload_n hx hb dX11_chosenBy_105 rfl (lv_at hl 6 rfl) ?_
    refine lv_if_le (tgt := 113) hx hb dX11_chosenBy_106 (by decide) (fun c51 => ?_) (fun c51 => ?_)
    · replace h := it_t c51 h
      refine lv_aload_n hx hb dX11_chosenBy_113 rfl (lv_at hl 3 rfl) ?_
      refine r_get (v := .ref (gA G 73)) hC inX11 hP (e_72 G _) rfl 0 (by decide) rfl k1050 rfl dX11_chosenBy_114 ?_
      refine lv_iconst (v := 5) hx hb dX11_chosenBy_117 (by decide) ?_
      refine lv_iload_n hx hb dX11_chosenBy_118 rfl (lv_at hl 4 rfl) ?_
      refine lv_imul hx hb dX11_chosenBy_119 ?_
      refine lv_iconst (v := 3) hx hb dX11_chosenBy_120 (by decide) ?_
      refine lv_iadd hx hb dX11_chosenBy_121 ?_
      by_cases c52 : ((5 * p1) + 3) < (0 : Int32) ∨ 30 ≤ Int32.toNatClampNeg ((5 * p1) + 3)
      · cases it_t c52 h
      replace h := it_f c52 h
      refine r_iald hC hP (f := C50.1 73) (e_73 G _) c52 dX11_chosenBy_122 ?_
      exact bl123 p1 p2 p3 (C50.1 73 (Int32.toNatClampNeg ((5 * p1) + 3))) 6 C50 _ _ _ h (lv_sub hl [3, 4, 5, 6] rfl) hP hS
    · replace h := it_f c51 h
      refine lv_iload_n hx hb dX11_chosenBy_109 rfl (lv_at hl 6 rfl) ?_
      refine lv_goto (tgt := 123) hx hb dX11_chosenBy_110 (by decide) ?_
      exact bl123 p1 p2 p3 p3 6 C50 _ _ _ h (lv_sub hl [3, 4, 5, 6] rfl) hP hS
set_option maxHeartbeats 4000000 in
set_option maxRecDepth 100000 in
theorem mX11_chosen (l : Launch) (G : gp) (Cm : Mm) {n : Nat} {p1 : Int32} {p2 : Int32} {C : Mm} {r0 : Int32} {C0 : Mm} (h : fX11_chosen n p1 p2 C = some (r0, C0)) : Met l yX11_chosen (wsy yX11_chosen cX11_chosen 3 (some .int)) (rmv 82 1875) (va_Pc [.ref (gA G 72), .int p1, .int p2] (Rl G (Cm, C))) (Qi G PT r0 (Cm, C0)) 0 0 (lwA G) := by
  refine met_i [.ref (gA G 72), .int p1, .int p2] wX11_chosen.2.2.2.2.2 (Nat.le_of_ble_eq_true rfl) ?_
  intro p e s m args below meth c ls hC hr hP hl
  have hC : Cx G p s m args meth c cX11_chosen RX11 3 := hC
  have hx := hC.1
  have hb := hC.2.1
  have hown := hC.2.2.2.1
  have hts := hC.2.2.2.2.1
  have hS : va_S (lwA G) s.heap s.heap [] := va_S.rf
  have hl : lv_has ls 3 [(0, .ref (gA G 72)), (1, .int p1), (2, .int p2)] := hl
  unfold fX11_chosen at h
  refine lv_aload_n hx hb dX11_chosen_0 rfl (lv_at hl 0 rfl) ?_
  refine lv_iload_n hx hb dX11_chosen_1 rfl (lv_at hl 1 rfl) ?_
  refine rc_i hS (run_V hC wX11_isHead k1297 (e_72 G _) rfl hP hS (As := [.int p1]) (rest := []) (mX11_isHead l G Cm rfl) rfl hl.1 (Nat.le_of_ble_eq_true rfl) ⟨by decide, by decide⟩ ⟨Nat.le_refl _, Nat.le_refl _⟩ rfl dX11_chosen_2) (fun H locs pb2 hP hS => ?_)
  refine lv_if_eq (tgt := 25) hx hb dX11_chosen_5 (by decide) (fun c3 => ?_) (fun c3 => ?_)
  · replace h := it_t c3 h
    refine lv_iconst (v := (-1)) hx hb dX11_chosen_25 (by decide) ?_
    exact re_i' hC hr hP hS (pr_1 h) (congrArg (fun Z : Mm => (Cm, Z)) (pr_2 h)) dX11_chosen_26
  · replace h := it_f c3 h
    refine lv_iload_n hx hb dX11_chosen_8 rfl (lv_at hl 2 rfl) ?_
    refine rc_i hS (run_S hC wX11_isAsk k1317 hP hS (As := [.int p2]) (rest := []) (mX11_isAsk l G Cm rfl) rfl hl.1 (Nat.le_of_ble_eq_true rfl) ⟨by decide, by decide⟩ ⟨Nat.le_refl _, Nat.le_refl _⟩ rfl dX11_chosen_9) (fun H locs pb5 hP hS => ?_)
    refine lv_if_eq (tgt := 25) hx hb dX11_chosen_12 (by decide) (fun c6 => ?_) (fun c6 => ?_)
    · replace h := it_t c6 h
      refine lv_iconst (v := (-1)) hx hb dX11_chosen_25 (by decide) ?_
      exact re_i' hC hr hP hS (pr_1 h) (congrArg (fun Z : Mm => (Cm, Z)) (pr_2 h)) dX11_chosen_26
    · replace h := it_f c6 h
      refine lv_aload_n hx hb dX11_chosen_15 rfl (lv_at hl 0 rfl) ?_
      refine lv_iload_n hx hb dX11_chosen_16 rfl (lv_at hl 1 rfl) ?_
      refine lv_iload_n hx hb dX11_chosen_17 rfl (lv_at hl 2 rfl) ?_
      refine lv_iconst (v := 0) hx hb dX11_chosen_18 (by decide) ?_
      obtain ⟨r8, C9, hq7, h⟩ := bp_x h
      refine rc_i hS (run_V hC wX11_chosenBy k1418 (e_72 G _) rfl hP hS (As := [.int p1, .int p2, .int 0]) (rest := []) (mX11_chosenBy l G Cm hq7) rfl hl.1 (Nat.le_of_ble_eq_true rfl) ⟨by decide, by decide⟩ ⟨Nat.le_refl _, Nat.le_refl _⟩ rfl dX11_chosen_19) (fun H locs pb10 hP hS => ?_)
      refine lv_goto (tgt := 26) hx hb dX11_chosen_22 (by decide) ?_
      exact re_i' hC hr hP hS (pr_1 h) (congrArg (fun Z : Mm => (Cm, Z)) (pr_2 h)) dX11_chosen_26
set_option maxHeartbeats 4000000 in
set_option maxRecDepth 100000 in
theorem mX11_answer (l : Launch) (G : gp) (Cm : Mm) {n : Nat} {p1 : Int32} {p2 : Int32} {p3 : Int32} {C : Mm} {r0 : Int32} {C0 : Mm} (h : fX11_answer n p1 p2 p3 C = some (r0, C0)) : Met l yX11_answer (wsy yX11_answer cX11_answer 9 (some .int)) (rmv 6 149) (va_Pc [.ref (gA G 72), .int p1, .int p2, .int p3] (Rl G (Cm, C))) (Qi G PT r0 (Cm, C0)) 0 0 (lwA G) := by
  refine met_i [.ref (gA G 72), .int p1, .int p2, .int p3] wX11_answer.2.2.2.2.2 (Nat.le_of_ble_eq_true rfl) ?_
  intro p e s m args below meth c ls hC hr hP hl
  have hC : Cx G p s m args meth c cX11_answer RX11 9 := hC
  have hx := hC.1
  have hb := hC.2.1
  have hown := hC.2.2.2.1
  have hts := hC.2.2.2.2.1
  have hS : va_S (lwA G) s.heap s.heap [] := va_S.rf
  have hl : lv_has ls 9 [(0, .ref (gA G 72)), (1, .int p1), (2, .int p2), (3, .int p3)] := hl
  have bl236 : ∀ (k70 : Int32 → Int32 → Int32 → Int32 → Mm → Option (Int32 × Mm)) (hk70 : ∀ (y4 : Int32) (y5 : Int32) (y6 : Int32) (y7 : Int32) (C : Mm) (H : Heap) (locs : List Loc) (ls : Array Slot), k70 y4 y5 y6 y7 C = some (r0, C0) → lv_has ls 9 [(0, .ref (gA G 72)), (4, .int y4), (5, .int y5), (6, .int y6), (7, .int y7)] → va_P (gD G) vwCl (wld G (Cm, C)) H → va_S (lwA G) s.heap H locs → W p l e (rmv 6 149) s m args below meth c H locs 0 0 (MQ below (Qi G PT r0 (Cm, C0)) args s 0 0 (lwA G)) (F0 m 70 ls [])), ∀ (y4 : Int32) (y5 : Int32) (y6 : Int32) (y7 : Int32) (C : Mm) (H : Heap) (locs : List Loc) (ls : Array Slot), fX11_answer_b236 n k70 y4 y5 y6 y7 C = some (r0, C0) → lv_has ls 9 [(0, .ref (gA G 72)), (4, .int y4), (5, .int y5), (6, .int y6), (7, .int y7)] → va_P (gD G) vwCl (wld G (Cm, C)) H → va_S (lwA G) s.heap H locs → W p l e (rmv 6 149) s m args below meth c H locs 0 0 (MQ below (Qi G PT r0 (Cm, C0)) args s 0 0 (lwA G)) (F0 m 236 ls []) := by
    intro k70 hk70 y4 y5 y6 y7 C H locs ls h hl hP hS
    unfold fX11_answer_b236 at h
    obtain ⟨x1, ex1⟩ : ∃ y : Int32, y = y7 + 1 := ⟨_, rfl⟩
    replace h := lt_y ex1 h
    refine lv_iinc (v := x1) (lv' := [(7, .int x1), (0, .ref (gA G 72)), (4, .int y4), (5, .int y5), (6, .int y6)]) hx hb dX11_answer_236 hl (k := 4) rfl (by rw [ex1]; rfl) (by decide) rfl (fun ls hl => ?_)
    refine lv_goto (tgt := 70) hx hb dX11_answer_239 (by decide) ?_
    exact hk70 y4 y5 y6 x1 C _ _ _ h (lv_sub hl [1, 2, 3, 4, 0] rfl) hP hS
  have bl184 : ∀ (k70 : Int32 → Int32 → Int32 → Int32 → Mm → Option (Int32 × Mm)) (hk70 : ∀ (y4 : Int32) (y5 : Int32) (y6 : Int32) (y7 : Int32) (C : Mm) (H : Heap) (locs : List Loc) (ls : Array Slot), k70 y4 y5 y6 y7 C = some (r0, C0) → lv_has ls 9 [(0, .ref (gA G 72)), (4, .int y4), (5, .int y5), (6, .int y6), (7, .int y7)] → va_P (gD G) vwCl (wld G (Cm, C)) H → va_S (lwA G) s.heap H locs → W p l e (rmv 6 149) s m args below meth c H locs 0 0 (MQ below (Qi G PT r0 (Cm, C0)) args s 0 0 (lwA G)) (F0 m 70 ls [])), ∀ (y4 : Int32) (y5 : Int32) (y7 : Int32) (s0 : Int32) (s1 : Int32) (C : Mm) (H : Heap) (locs : List Loc) (ls : Array Slot), fX11_answer_b184 n k70 y4 y5 y7 s0 s1 C = some (r0, C0) → lv_has ls 9 [(0, .ref (gA G 72)), (4, .int y4), (5, .int y5), (7, .int y7)] → va_P (gD G) vwCl (wld G (Cm, C)) H → va_S (lwA G) s.heap H locs → W p l e (rmv 6 149) s m args below meth c H locs 0 0 (MQ below (Qi G PT r0 (Cm, C0)) args s 0 0 (lwA G)) (F0 m 184 ls [.int s0, .int s1]) := by
    intro k70 hk70 y4 y5 y7 s0 s1 C H locs ls h hl hP hS
    unfold fX11_answer_b184 at h
    refine lv_iadd hx hb dX11_answer_184 ?_
    refine lv_topi (fun x2 ex2 => ?_)
    replace h := lt_y ex2 h
    refine lv_istore (lv' := [(6, .int x2), (0, .ref (gA G 72)), (4, .int y4), (5, .int y5), (7, .int y7)]) hx hb dX11_answer_185 hl (by decide) rfl (fun ls hl => ?_)
    refine lv_goto (tgt := 236) hx hb dX11_answer_187 (by decide) ?_
    exact bl236 k70 hk70 y4 y5 x2 y7 C _ _ _ h (lv_sub hl [1, 2, 3, 0, 4] rfl) hP hS
  have bl137 : ∀ (k70 : Int32 → Int32 → Int32 → Int32 → Mm → Option (Int32 × Mm)) (hk70 : ∀ (y4 : Int32) (y5 : Int32) (y6 : Int32) (y7 : Int32) (C : Mm) (H : Heap) (locs : List Loc) (ls : Array Slot), k70 y4 y5 y6 y7 C = some (r0, C0) → lv_has ls 9 [(0, .ref (gA G 72)), (4, .int y4), (5, .int y5), (6, .int y6), (7, .int y7)] → va_P (gD G) vwCl (wld G (Cm, C)) H → va_S (lwA G) s.heap H locs → W p l e (rmv 6 149) s m args below meth c H locs 0 0 (MQ below (Qi G PT r0 (Cm, C0)) args s 0 0 (lwA G)) (F0 m 70 ls [])), ∀ (y4 : Int32) (y5 : Int32) (y6 : Int32) (y7 : Int32) (s0 : Int32) (s1 : Int32) (C : Mm) (H : Heap) (locs : List Loc) (ls : Array Slot), fX11_answer_b137 n k70 y4 y5 y6 y7 s0 s1 C = some (r0, C0) → lv_has ls 9 [(0, .ref (gA G 72)), (4, .int y4), (5, .int y5), (6, .int y6), (7, .int y7)] → va_P (gD G) vwCl (wld G (Cm, C)) H → va_S (lwA G) s.heap H locs → W p l e (rmv 6 149) s m args below meth c H locs 0 0 (MQ below (Qi G PT r0 (Cm, C0)) args s 0 0 (lwA G)) (F0 m 137 ls [.int s0, .int s1]) := by
    intro k70 hk70 y4 y5 y6 y7 s0 s1 C H locs ls h hl hP hS
    unfold fX11_answer_b137 at h
    refine lv_icmp_lt (tgt := 143) hx hb dX11_answer_137 (by decide) (fun c3 => ?_) (fun c3 => ?_)
    · replace h := it_t c3 h
      refine lv_aload_n hx hb dX11_answer_143 rfl (lv_at hl 0 rfl) ?_
      refine r_get (v := .ref (gA G 84)) hC inX11 hP (e_72 G _) rfl 22 (by decide) rfl k1072 rfl dX11_answer_144 ?_
      refine lv_iload hx hb dX11_answer_147 (lv_at hl 4 rfl) ?_
      by_cases c4 : y7 < (0 : Int32) ∨ 200 ≤ Int32.toNatClampNeg y7
      · cases it_t c4 h
      replace h := it_f c4 h
      refine r_iald hC hP (f := C.1 84) (e_84 G _) c4 dX11_answer_149 ?_
      refine lv_if_ne (tgt := 190) hx hb dX11_answer_150 (by decide) (fun c5 => ?_) (fun c5 => ?_)
      · replace h := it_f c5 h
        refine lv_aload_n hx hb dX11_answer_190 rfl (lv_at hl 0 rfl) ?_
        refine r_get (v := .ref (gA G 84)) hC inX11 hP (e_72 G _) rfl 22 (by decide) rfl k1072 rfl dX11_answer_191 ?_
        refine lv_iload hx hb dX11_answer_194 (lv_at hl 4 rfl) ?_
        by_cases c6 : y7 < (0 : Int32) ∨ 200 ≤ Int32.toNatClampNeg y7
        · cases it_t c6 h
        replace h := it_f c6 h
        refine r_iald hC hP (f := C.1 84) (e_84 G _) c6 dX11_answer_196 ?_
        refine lv_iconst (v := 1) hx hb dX11_answer_197 (by decide) ?_
        refine lv_icmp_ne (tgt := 236) hx hb dX11_answer_198 (by decide) (fun c7 => ?_) (fun c7 => ?_)
        · replace h := it_f c7 h
          exact bl236 k70 hk70 y4 y5 y6 y7 C _ _ _ h (lv_sub hl [0, 1, 2, 3, 4] rfl) hP hS
        · replace h := it_t c7 h
          refine lv_iload hx hb dX11_answer_201 (lv_at hl 3 rfl) ?_
          refine lv_iload hx hb dX11_answer_203 (lv_at hl 2 rfl) ?_
          refine lv_bipush (v := 20) hx hb dX11_answer_205 (by decide) ?_
          refine lv_iushr (v := iush y5 20) hx hb dX11_answer_207 rfl ?_
          refine lv_aload_n hx hb dX11_answer_208 rfl (lv_at hl 0 rfl) ?_
          refine r_get (v := .ref (gA G 85)) hC inX11 hP (e_72 G _) rfl 23 (by decide) rfl k1073 rfl dX11_answer_209 ?_
          refine lv_iload hx hb dX11_answer_212 (lv_at hl 4 rfl) ?_
          by_cases c8 : y7 < (0 : Int32) ∨ 200 ≤ Int32.toNatClampNeg y7
          · cases it_t c8 h
          replace h := it_f c8 h
          refine r_iald hC hP (f := C.1 85) (e_85 G _) c8 dX11_answer_214 ?_
          obtain ⟨r10, hq9, h⟩ := bn_x h
          refine rc_i hS (run_S hC wX11_digits k1360 hP hS (As := [.int (C.1 85 (Int32.toNatClampNeg y7))]) (rest := [.int (iush y5 20), .int y6]) (mX11_digits l G Cm hq9) rfl hl.1 (Nat.le_of_ble_eq_true rfl) ⟨by decide, by decide⟩ ⟨Nat.le_refl _, Nat.le_refl _⟩ rfl dX11_answer_215) (fun H locs pb11 hP hS => ?_)
          by_cases c12 : r10 = 0
          · cases it_t c12 h
          replace h := it_f c12 h
          refine r_irem hx hb dX11_answer_218 c12 ?_
          obtain ⟨r14, hq13, h⟩ := bn_x h
          refine rc_i hS (run_S hC wX11_tens k1374 hP hS (As := [.int (irm (iush y5 20) r10)]) (rest := [.int y6]) (mX11_tens l G Cm hq13) rfl hl.1 (Nat.le_of_ble_eq_true rfl) ⟨by decide, by decide⟩ ⟨Nat.le_refl _, Nat.le_refl _⟩ rfl dX11_answer_219) (fun H locs pb15 hP hS => ?_)
          refine lv_aload_n hx hb dX11_answer_222 rfl (lv_at hl 0 rfl) ?_
          refine r_get (v := .ref (gA G 89)) hC inX11 hP (e_72 G _) rfl 27 (by decide) rfl k1077 rfl dX11_answer_223 ?_
          refine lv_iload hx hb dX11_answer_226 (lv_at hl 4 rfl) ?_
          by_cases c16 : y7 < (0 : Int32) ∨ 200 ≤ Int32.toNatClampNeg y7
          · cases it_t c16 h
          replace h := it_f c16 h
          refine r_iald hC hP (f := C.1 89) (e_89 G _) c16 dX11_answer_228 ?_
          obtain ⟨r18, hq17, h⟩ := bn_x h
          refine rc_i hS (run_S hC wX11_tens k1374 hP hS (As := [.int (C.1 89 (Int32.toNatClampNeg y7))]) (rest := [.int r14, .int y6]) (mX11_tens l G Cm hq17) rfl hl.1 (Nat.le_of_ble_eq_true rfl) ⟨by decide, by decide⟩ ⟨Nat.le_refl _, Nat.le_refl _⟩ rfl dX11_answer_229) (fun H locs pb19 hP hS => ?_)
          refine lv_imul hx hb dX11_answer_232 ?_
          refine lv_isub hx hb dX11_answer_233 ?_
          refine lv_topi (fun x20 ex20 => ?_)
          replace h := lt_y ex20 h
          refine lv_istore (lv' := [(6, .int x20), (0, .ref (gA G 72)), (4, .int y4), (5, .int y5), (7, .int y7)]) hx hb dX11_answer_234 hl (by decide) rfl (fun ls hl => ?_)
          exact bl236 k70 hk70 y4 y5 x20 y7 C _ _ _ h (lv_sub hl [1, 2, 3, 0, 4] rfl) hP hS
      · replace h := it_t c5 h
        refine lv_iload hx hb dX11_answer_153 (lv_at hl 3 rfl) ?_
        refine lv_iload hx hb dX11_answer_155 (lv_at hl 2 rfl) ?_
        refine lv_bipush (v := 20) hx hb dX11_answer_157 (by decide) ?_
        refine lv_iushr (v := iush y5 20) hx hb dX11_answer_159 rfl ?_
        refine lv_iconst (v := 2) hx hb dX11_answer_160 (by decide) ?_
        refine r_irem hx hb dX11_answer_161 (by decide) ?_
        refine lv_iconst (v := 1) hx hb dX11_answer_162 (by decide) ?_
        refine lv_icmp_ne (tgt := 176) hx hb dX11_answer_163 (by decide) (fun c21 => ?_) (fun c21 => ?_)
        · replace h := it_f c21 h
          refine lv_aload_n hx hb dX11_answer_176 rfl (lv_at hl 0 rfl) ?_
          refine r_get (v := .ref (gA G 88)) hC inX11 hP (e_72 G _) rfl 26 (by decide) rfl k1076 rfl dX11_answer_177 ?_
          refine lv_iload hx hb dX11_answer_180 (lv_at hl 4 rfl) ?_
          by_cases c22 : y7 < (0 : Int32) ∨ 200 ≤ Int32.toNatClampNeg y7
          · cases it_t c22 h
          replace h := it_f c22 h
          refine r_iald hC hP (f := C.1 88) (e_88 G _) c22 dX11_answer_182 ?_
          refine lv_ineg hx hb dX11_answer_183 ?_
          exact bl184 k70 hk70 y4 y5 y7 (-(C.1 88 (Int32.toNatClampNeg y7))) y6 C _ _ _ h (lv_sub hl [0, 1, 2, 4] rfl) hP hS
        · replace h := it_t c21 h
          refine lv_aload_n hx hb dX11_answer_166 rfl (lv_at hl 0 rfl) ?_
          refine r_get (v := .ref (gA G 88)) hC inX11 hP (e_72 G _) rfl 26 (by decide) rfl k1076 rfl dX11_answer_167 ?_
          refine lv_iload hx hb dX11_answer_170 (lv_at hl 4 rfl) ?_
          by_cases c23 : y7 < (0 : Int32) ∨ 200 ≤ Int32.toNatClampNeg y7
          · cases it_t c23 h
          replace h := it_f c23 h
          refine r_iald hC hP (f := C.1 88) (e_88 G _) c23 dX11_answer_172 ?_
          refine lv_goto (tgt := 184) hx hb dX11_answer_173 (by decide) ?_
          exact bl184 k70 hk70 y4 y5 y7 (C.1 88 (Int32.toNatClampNeg y7)) y6 C _ _ _ h (lv_sub hl [0, 1, 2, 4] rfl) hP hS
    · replace h := it_f c3 h
      refine lv_goto (tgt := 236) hx hb dX11_answer_140 (by decide) ?_
      exact bl236 k70 hk70 y4 y5 y6 y7 C _ _ _ h (lv_sub hl [0, 1, 2, 3, 4] rfl) hP hS
  have bl70 : ∀ (fu : Nat), ∀ (y4 : Int32) (y5 : Int32) (y6 : Int32) (y7 : Int32) (C : Mm) (H : Heap) (locs : List Loc) (ls : Array Slot), fX11_answer_h70 n fu y4 y5 y6 y7 C = some (r0, C0) → lv_has ls 9 [(0, .ref (gA G 72)), (4, .int y4), (5, .int y5), (6, .int y6), (7, .int y7)] → va_P (gD G) vwCl (wld G (Cm, C)) H → va_S (lwA G) s.heap H locs → W p l e (rmv 6 149) s m args below meth c H locs 0 0 (MQ below (Qi G PT r0 (Cm, C0)) args s 0 0 (lwA G)) (F0 m 70 ls []) := by
    intro fu
    induction fu with
    | zero =>
      intro y4 y5 y6 y7 C H locs ls h hl hP hS
      rw [fX11_answer_h70.eq_1] at h
      cases h
    | succ fu ih =>
      intro y4 y5 y6 y7 C H locs ls h hl hP hS
      rw [fX11_answer_h70.eq_2] at h
      refine lv_iload hx hb dX11_answer_70 (lv_at hl 4 rfl) ?_
      refine lv_aload_n hx hb dX11_answer_72 rfl (lv_at hl 0 rfl) ?_
      refine r_get (v := .int (C.1 72 21)) hC inX11 hP (e_72 G _) rfl 21 (by decide) rfl k1071 rfl dX11_answer_73 ?_
      refine lv_icmp_ge (tgt := 242) hx hb dX11_answer_76 (by decide) (fun c24 => ?_) (fun c24 => ?_)
      · replace h := it_t c24 h
        refine lv_iload hx hb dX11_answer_242 (lv_at hl 3 rfl) ?_
        exact re_i' hC hr hP hS (pr_1 h) (congrArg (fun Z : Mm => (Cm, Z)) (pr_2 h)) dX11_answer_244
      · replace h := it_f c24 h
        refine lv_aload_n hx hb dX11_answer_79 rfl (lv_at hl 0 rfl) ?_
        refine r_get (v := .ref (gA G 87)) hC inX11 hP (e_72 G _) rfl 25 (by decide) rfl k1075 rfl dX11_answer_80 ?_
        refine lv_iload hx hb dX11_answer_83 (lv_at hl 4 rfl) ?_
        by_cases c25 : y7 < (0 : Int32) ∨ 200 ≤ Int32.toNatClampNeg y7
        · cases it_t c25 h
        replace h := it_f c25 h
        refine r_iald hC hP (f := C.1 87) (e_87 G _) c25 dX11_answer_85 ?_
        refine lv_iload hx hb dX11_answer_86 (lv_at hl 1 rfl) ?_
        refine lv_isub hx hb dX11_answer_88 ?_
        refine lv_topi (fun x26 ex26 => ?_)
        replace h := lt_y ex26 h
        refine lv_istore (lv' := [(8, .int x26), (0, .ref (gA G 72)), (4, .int y4), (5, .int y5), (6, .int y6), (7, .int y7)]) hx hb dX11_answer_89 hl (by decide) rfl (fun ls hl => ?_)
        refine lv_iload hx hb dX11_answer_91 (lv_at hl 0 rfl) ?_
        refine lv_if_gt (tgt := 99) hx hb dX11_answer_93 (by decide) (fun c27 => ?_) (fun c27 => ?_)
        · replace h := it_t c27 h
          refine lv_iload hx hb dX11_answer_99 (lv_at hl 3 rfl) ?_
          refine lv_ldcw hx hb (v := 1103515245) hown (hts _ k1430) dX11_answer_101 ?_
          refine lv_imul hx hb dX11_answer_104 ?_
          refine lv_sipush (v := 12345) hx hb dX11_answer_105 (by decide) ?_
          refine lv_iadd hx hb dX11_answer_108 ?_
          refine lv_topi (fun x28 ex28 => ?_)
          replace h := lt_y ex28 h
          refine lv_istore (lv' := [(5, .int x28), (8, .int x26), (0, .ref (gA G 72)), (4, .int y4), (6, .int y6), (7, .int y7)]) hx hb dX11_answer_109 hl (by decide) rfl (fun ls hl => ?_)
          refine lv_iload hx hb dX11_answer_111 (lv_at hl 0 rfl) ?_
          refine lv_bipush (v := 8) hx hb dX11_answer_113 (by decide) ?_
          refine lv_iushr (v := iush x28 8) hx hb dX11_answer_115 rfl ?_
          refine lv_bipush (v := 100) hx hb dX11_answer_116 (by decide) ?_
          refine r_irem hx hb dX11_answer_118 (by decide) ?_
          refine lv_iconst (v := 5) hx hb dX11_answer_119 (by decide) ?_
          refine lv_iload hx hb dX11_answer_120 (lv_at hl 1 rfl) ?_
          refine lv_imul hx hb dX11_answer_122 ?_
          refine lv_bipush (v := 95) hx hb dX11_answer_123 (by decide) ?_
          refine lv_icmp_le (tgt := 133) hx hb dX11_answer_125 (by decide) (fun c29 => ?_) (fun c29 => ?_)
          · replace h := it_t c29 h
            refine lv_iconst (v := 5) hx hb dX11_answer_133 (by decide) ?_
            refine lv_iload hx hb dX11_answer_134 (lv_at hl 1 rfl) ?_
            refine lv_imul hx hb dX11_answer_136 ?_
            exact bl137 (fX11_answer_h70 n fu) ih y4 x28 y6 y7 (5 * x26) (irm (iush x28 8) 100) C _ _ _ h (lv_sub hl [2, 3, 0, 4, 5] rfl) hP hS
          · replace h := it_f c29 h
            refine lv_bipush (v := 95) hx hb dX11_answer_128 (by decide) ?_
            refine lv_goto (tgt := 137) hx hb dX11_answer_130 (by decide) ?_
            exact bl137 (fX11_answer_h70 n fu) ih y4 x28 y6 y7 95 (irm (iush x28 8) 100) C _ _ _ h (lv_sub hl [2, 3, 0, 4, 5] rfl) hP hS
        · replace h := it_f c27 h
          refine lv_goto (tgt := 236) hx hb dX11_answer_96 (by decide) ?_
          exact bl236 (fX11_answer_h70 n fu) ih y4 y5 y6 y7 C _ _ _ h (lv_sub hl [1, 2, 3, 4, 5] rfl) hP hS
  unfold fX11_answer at h
  refine lv_aload_n hx hb dX11_answer_0 rfl (lv_at hl 0 rfl) ?_
  refine lv_iload_n hx hb dX11_answer_1 rfl (lv_at hl 1 rfl) ?_
  refine rc_i hS (run_V hC wX11_isHw k1339 (e_72 G _) rfl hP hS (As := [.int p1]) (rest := []) (mX11_isHw l G Cm rfl) rfl hl.1 (Nat.le_of_ble_eq_true rfl) ⟨by decide, by decide⟩ ⟨Nat.le_refl _, Nat.le_refl _⟩ rfl dX11_answer_2) (fun H locs pb31 hP hS => ?_)
  refine lv_if_eq (tgt := 32) hx hb dX11_answer_5 (by decide) (fun c32 => ?_) (fun c32 => ?_)
  · replace h := it_t c32 h
    refine lv_ldcw hx hb (v := (-2000000000)) hown (hts _ k1413) dX11_answer_32 ?_
    exact re_i' hC hr hP hS (pr_1 h) (congrArg (fun Z : Mm => (Cm, Z)) (pr_2 h)) dX11_answer_35
  · replace h := it_f c32 h
    refine lv_iload_n hx hb dX11_answer_8 rfl (lv_at hl 2 rfl) ?_
    refine rc_i hS (run_S hC wX11_isAsk k1317 hP hS (As := [.int p2]) (rest := []) (mX11_isAsk l G Cm rfl) rfl hl.1 (Nat.le_of_ble_eq_true rfl) ⟨by decide, by decide⟩ ⟨Nat.le_refl _, Nat.le_refl _⟩ rfl dX11_answer_9) (fun H locs pb34 hP hS => ?_)
    refine lv_if_eq (tgt := 32) hx hb dX11_answer_12 (by decide) (fun c35 => ?_) (fun c35 => ?_)
    · replace h := it_t c35 h
      refine lv_ldcw hx hb (v := (-2000000000)) hown (hts _ k1413) dX11_answer_32 ?_
      exact re_i' hC hr hP hS (pr_1 h) (congrArg (fun Z : Mm => (Cm, Z)) (pr_2 h)) dX11_answer_35
    · replace h := it_f c35 h
      refine lv_aload_n hx hb dX11_answer_15 rfl (lv_at hl 0 rfl) ?_
      refine lv_iload_n hx hb dX11_answer_16 rfl (lv_at hl 1 rfl) ?_
      refine lv_bipush (v := 10) hx hb dX11_answer_17 (by decide) ?_
      refine lv_idiv hx hb dX11_answer_19 (by decide) ?_
      refine lv_iload_n hx hb dX11_answer_20 rfl (lv_at hl 1 rfl) ?_
      refine lv_bipush (v := 10) hx hb dX11_answer_21 (by decide) ?_
      refine r_irem hx hb dX11_answer_23 (by decide) ?_
      refine lv_iload_n hx hb dX11_answer_24 rfl (lv_at hl 2 rfl) ?_
      refine lv_iconst (v := 0) hx hb dX11_answer_25 (by decide) ?_
      obtain ⟨r37, C38, hq36, h⟩ := bp_x h
      refine rc_i hS (run_V hC wX11_layOut k1344 (e_72 G _) rfl hP hS (As := [.int (p1 / 10), .int (irm p1 10), .int p2, .int 0]) (rest := []) (mX11_layOut l G Cm hq36) rfl hl.1 (Nat.le_of_ble_eq_true rfl) ⟨by decide, by decide⟩ ⟨Nat.le_refl _, Nat.le_refl _⟩ rfl dX11_answer_26) (fun H locs pb39 hP hS => ?_)
      refine lv_if_ne (tgt := 36) hx hb dX11_answer_29 (by decide) (fun c40 => ?_) (fun c40 => ?_)
      · replace h := it_f c40 h
        refine lv_aload_n hx hb dX11_answer_36 rfl (lv_at hl 0 rfl) ?_
        refine r_get (v := .ref (gA G 73)) hC inX11 hP (e_72 G _) rfl 0 (by decide) rfl k1050 rfl dX11_answer_37 ?_
        refine lv_iconst (v := 5) hx hb dX11_answer_40 (by decide) ?_
        refine lv_iload_n hx hb dX11_answer_41 rfl (lv_at hl 1 rfl) ?_
        refine lv_bipush (v := 10) hx hb dX11_answer_42 (by decide) ?_
        refine lv_idiv hx hb dX11_answer_44 (by decide) ?_
        refine lv_imul hx hb dX11_answer_45 ?_
        refine lv_iconst (v := 4) hx hb dX11_answer_46 (by decide) ?_
        refine lv_iadd hx hb dX11_answer_47 ?_
        by_cases c41 : ((5 * (p1 / 10)) + 4) < (0 : Int32) ∨ 30 ≤ Int32.toNatClampNeg ((5 * (p1 / 10)) + 4)
        · cases it_t c41 h
        replace h := it_f c41 h
        refine r_iald hC hP (f := C38.1 73) (e_73 G _) c41 dX11_answer_48 ?_
        refine lv_topi (fun x42 ex42 => ?_)
        replace h := lt_y ex42 h
        refine lv_istore (lv' := [(4, .int x42), (0, .ref (gA G 72)), (1, .int p1), (2, .int p2), (3, .int p3)]) hx hb dX11_answer_49 hl (by decide) rfl (fun ls hl => ?_)
        refine lv_iload_n hx hb dX11_answer_51 rfl (lv_at hl 4 rfl) ?_
        refine lv_istore (lv' := [(5, .int p3), (4, .int x42), (0, .ref (gA G 72)), (1, .int p1), (2, .int p2), (3, .int p3)]) hx hb dX11_answer_52 hl (by decide) rfl (fun ls hl => ?_)
        refine lv_iload_n hx hb dX11_answer_54 rfl (lv_at hl 4 rfl) ?_
        refine lv_sipush (v := 10000) hx hb dX11_answer_55 (by decide) ?_
        refine lv_idiv hx hb dX11_answer_58 (by decide) ?_
        refine lv_iload_n hx hb dX11_answer_59 rfl (lv_at hl 4 rfl) ?_
        refine lv_sipush (v := 10000) hx hb dX11_answer_60 (by decide) ?_
        refine r_irem hx hb dX11_answer_63 (by decide) ?_
        refine lv_imul hx hb dX11_answer_64 ?_
        refine lv_topi (fun x43 ex43 => ?_)
        replace h := lt_y ex43 h
        refine lv_istore (lv' := [(6, .int x43), (5, .int p3), (4, .int x42), (0, .ref (gA G 72)), (1, .int p1), (2, .int p2), (3, .int p3)]) hx hb dX11_answer_65 hl (by decide) rfl (fun ls hl => ?_)
        refine lv_iconst (v := 0) hx hb dX11_answer_67 (by decide) ?_
        refine lv_istore (lv' := [(7, .int 0), (6, .int x43), (5, .int p3), (4, .int x42), (0, .ref (gA G 72)), (1, .int p1), (2, .int p2), (3, .int p3)]) hx hb dX11_answer_68 hl (by decide) rfl (fun ls hl => ?_)
        exact bl70 n x42 p3 x43 0 C38 _ _ _ h (lv_sub hl [4, 3, 2, 1, 0] rfl) hP hS
      · replace h := it_t c40 h
        refine lv_ldcw hx hb (v := (-2000000000)) hown (hts _ k1413) dX11_answer_32 ?_
        exact re_i' hC hr hP hS (pr_1 h) (congrArg (fun Z : Mm => (Cm, Z)) (pr_2 h)) dX11_answer_35
set_option maxHeartbeats 4000000 in
set_option maxRecDepth 100000 in
theorem mX11_quickest (l : Launch) (G : gp) (Cm : Mm) {n : Nat} {p1 : Int32} {p2 : Int32} {p3 : Int32} {C : Mm} {r0 : Int32} {C0 : Mm} (h : fX11_quickest n p1 p2 p3 C = some (r0, C0)) : Met l yX11_quickest (wsy yX11_quickest cX11_quickest 7 (some .int)) (rmv 6 149) (va_Pc [.ref (gA G 72), .int p1, .int p2, .int p3] (Rl G (Cm, C))) (Qi G PT r0 (Cm, C0)) 0 0 (lwA G) := by
  refine met_i [.ref (gA G 72), .int p1, .int p2, .int p3] wX11_quickest.2.2.2.2.2 (Nat.le_of_ble_eq_true rfl) ?_
  intro p e s m args below meth c ls hC hr hP hl
  have hC : Cx G p s m args meth c cX11_quickest RX11 7 := hC
  have hx := hC.1
  have hb := hC.2.1
  have hown := hC.2.2.2.1
  have hts := hC.2.2.2.2.1
  have hS : va_S (lwA G) s.heap s.heap [] := va_S.rf
  have hl : lv_has ls 7 [(0, .ref (gA G 72)), (1, .int p1), (2, .int p2), (3, .int p3)] := hl
  have bl90 : ∀ (k39 : Int32 → Int32 → Int32 → Int32 → Int32 → Int32 → Mm → Option (Int32 × Mm)) (hk39 : ∀ (y1 : Int32) (y2 : Int32) (y3 : Int32) (y4 : Int32) (y5 : Int32) (y6 : Int32) (C : Mm) (H : Heap) (locs : List Loc) (ls : Array Slot), k39 y1 y2 y3 y4 y5 y6 C = some (r0, C0) → lv_has ls 7 [(0, .ref (gA G 72)), (1, .int y1), (2, .int y2), (3, .int y3), (4, .int y4), (5, .int y5), (6, .int y6)] → va_P (gD G) vwCl (wld G (Cm, C)) H → va_S (lwA G) s.heap H locs → W p l e (rmv 6 149) s m args below meth c H locs 0 0 (MQ below (Qi G PT r0 (Cm, C0)) args s 0 0 (lwA G)) (F0 m 39 ls [])), ∀ (y1 : Int32) (y2 : Int32) (y3 : Int32) (y4 : Int32) (y5 : Int32) (y6 : Int32) (C : Mm) (H : Heap) (locs : List Loc) (ls : Array Slot), fX11_quickest_b90 n k39 y1 y2 y3 y4 y5 y6 C = some (r0, C0) → lv_has ls 7 [(0, .ref (gA G 72)), (1, .int y1), (2, .int y2), (3, .int y3), (4, .int y4), (5, .int y5), (6, .int y6)] → va_P (gD G) vwCl (wld G (Cm, C)) H → va_S (lwA G) s.heap H locs → W p l e (rmv 6 149) s m args below meth c H locs 0 0 (MQ below (Qi G PT r0 (Cm, C0)) args s 0 0 (lwA G)) (F0 m 90 ls []) := by
    intro k39 hk39 y1 y2 y3 y4 y5 y6 C H locs ls h hl hP hS
    unfold fX11_quickest_b90 at h
    obtain ⟨x1, ex1⟩ : ∃ y : Int32, y = y6 + 1 := ⟨_, rfl⟩
    replace h := lt_y ex1 h
    refine lv_iinc (v := x1) (lv' := [(6, .int x1), (0, .ref (gA G 72)), (1, .int y1), (2, .int y2), (3, .int y3), (4, .int y4), (5, .int y5)]) hx hb dX11_quickest_90 hl (k := 6) rfl (by rw [ex1]; rfl) (by decide) rfl (fun ls hl => ?_)
    refine lv_goto (tgt := 39) hx hb dX11_quickest_93 (by decide) ?_
    exact hk39 y1 y2 y3 y4 y5 x1 C _ _ _ h (lv_sub hl [1, 2, 3, 4, 5, 6, 0] rfl) hP hS
  have bl80 : ∀ (k39 : Int32 → Int32 → Int32 → Int32 → Int32 → Int32 → Mm → Option (Int32 × Mm)) (hk39 : ∀ (y1 : Int32) (y2 : Int32) (y3 : Int32) (y4 : Int32) (y5 : Int32) (y6 : Int32) (C : Mm) (H : Heap) (locs : List Loc) (ls : Array Slot), k39 y1 y2 y3 y4 y5 y6 C = some (r0, C0) → lv_has ls 7 [(0, .ref (gA G 72)), (1, .int y1), (2, .int y2), (3, .int y3), (4, .int y4), (5, .int y5), (6, .int y6)] → va_P (gD G) vwCl (wld G (Cm, C)) H → va_S (lwA G) s.heap H locs → W p l e (rmv 6 149) s m args below meth c H locs 0 0 (MQ below (Qi G PT r0 (Cm, C0)) args s 0 0 (lwA G)) (F0 m 39 ls [])), ∀ (y1 : Int32) (y2 : Int32) (y3 : Int32) (y6 : Int32) (C : Mm) (H : Heap) (locs : List Loc) (ls : Array Slot), fX11_quickest_b80 n k39 y1 y2 y3 y6 C = some (r0, C0) → lv_has ls 7 [(0, .ref (gA G 72)), (1, .int y1), (2, .int y2), (3, .int y3), (6, .int y6)] → va_P (gD G) vwCl (wld G (Cm, C)) H → va_S (lwA G) s.heap H locs → W p l e (rmv 6 149) s m args below meth c H locs 0 0 (MQ below (Qi G PT r0 (Cm, C0)) args s 0 0 (lwA G)) (F0 m 80 ls []) := by
    intro k39 hk39 y1 y2 y3 y6 C H locs ls h hl hP hS
    unfold fX11_quickest_b80 at h
    refine lv_iload hx hb dX11_quickest_80 (lv_at hl 4 rfl) ?_
    refine lv_istore (lv' := [(4, .int y6), (0, .ref (gA G 72)), (1, .int y1), (2, .int y2), (3, .int y3), (6, .int y6)]) hx hb dX11_quickest_82 hl (by decide) rfl (fun ls hl => ?_)
    refine lv_aload_n hx hb dX11_quickest_84 rfl (lv_at hl 1 rfl) ?_
    obtain ⟨r3, hq2, h⟩ := bn_x h
    refine rc_i hS (run_V hC wX11_seconds k1400 (e_72 G _) rfl hP hS (As := []) (rest := []) (mX11_seconds l G Cm hq2) rfl hl.1 (Nat.le_of_ble_eq_true rfl) ⟨by decide, by decide⟩ ⟨Nat.le_refl _, Nat.le_refl _⟩ rfl dX11_quickest_85) (fun H locs pb4 hP hS => ?_)
    refine lv_istore (lv' := [(5, .int r3), (4, .int y6), (0, .ref (gA G 72)), (1, .int y1), (2, .int y2), (3, .int y3), (6, .int y6)]) hx hb dX11_quickest_88 hl (by decide) rfl (fun ls hl => ?_)
    exact bl90 k39 hk39 y1 y2 y3 y6 r3 y6 C _ _ _ h (lv_sub hl [2, 3, 4, 5, 1, 0, 6] rfl) hP hS
  have bl39 : ∀ (fu : Nat), ∀ (y1 : Int32) (y2 : Int32) (y3 : Int32) (y4 : Int32) (y5 : Int32) (y6 : Int32) (C : Mm) (H : Heap) (locs : List Loc) (ls : Array Slot), fX11_quickest_h39 n fu y1 y2 y3 y4 y5 y6 C = some (r0, C0) → lv_has ls 7 [(0, .ref (gA G 72)), (1, .int y1), (2, .int y2), (3, .int y3), (4, .int y4), (5, .int y5), (6, .int y6)] → va_P (gD G) vwCl (wld G (Cm, C)) H → va_S (lwA G) s.heap H locs → W p l e (rmv 6 149) s m args below meth c H locs 0 0 (MQ below (Qi G PT r0 (Cm, C0)) args s 0 0 (lwA G)) (F0 m 39 ls []) := by
    intro fu
    induction fu with
    | zero =>
      intro y1 y2 y3 y4 y5 y6 C H locs ls h hl hP hS
      rw [fX11_quickest_h39.eq_1] at h
      cases h
    | succ fu ih =>
      intro y1 y2 y3 y4 y5 y6 C H locs ls h hl hP hS
      rw [fX11_quickest_h39.eq_2] at h
      refine lv_iload hx hb dX11_quickest_39 (lv_at hl 6 rfl) ?_
      refine lv_bipush (v := 7) hx hb dX11_quickest_41 (by decide) ?_
      refine lv_icmp_ge (tgt := 96) hx hb dX11_quickest_43 (by decide) (fun c5 => ?_) (fun c5 => ?_)
      · replace h := it_t c5 h
        refine lv_iload hx hb dX11_quickest_96 (lv_at hl 4 rfl) ?_
        exact re_i' hC hr hP hS (pr_1 h) (congrArg (fun Z : Mm => (Cm, Z)) (pr_2 h)) dX11_quickest_98
      · replace h := it_f c5 h
        refine lv_aload_n hx hb dX11_quickest_46 rfl (lv_at hl 0 rfl) ?_
        refine lv_iload_n hx hb dX11_quickest_47 rfl (lv_at hl 1 rfl) ?_
        refine lv_iload hx hb dX11_quickest_48 (lv_at hl 6 rfl) ?_
        refine lv_iload_n hx hb dX11_quickest_50 rfl (lv_at hl 2 rfl) ?_
        refine lv_iconst (v := 0) hx hb dX11_quickest_51 (by decide) ?_
        obtain ⟨r7, C8, hq6, h⟩ := bp_x h
        refine rc_i hS (run_V hC wX11_layOut k1344 (e_72 G _) rfl hP hS (As := [.int y1, .int y6, .int y2, .int 0]) (rest := []) (mX11_layOut l G Cm hq6) rfl hl.1 (Nat.le_of_ble_eq_true rfl) ⟨by decide, by decide⟩ ⟨Nat.le_refl _, Nat.le_refl _⟩ rfl dX11_quickest_52) (fun H locs pb9 hP hS => ?_)
        refine lv_if_eq (tgt := 90) hx hb dX11_quickest_55 (by decide) (fun c10 => ?_) (fun c10 => ?_)
        · replace h := it_t c10 h
          exact bl90 (fX11_quickest_h39 n fu) ih y1 y2 y3 y4 y5 y6 C8 _ _ _ h (lv_sub hl [0, 1, 2, 3, 4, 5, 6] rfl) hP hS
        · replace h := it_f c10 h
          refine lv_aload_n hx hb dX11_quickest_58 rfl (lv_at hl 0 rfl) ?_
          obtain ⟨r12, hq11, h⟩ := bn_x h
          refine rc_i hS (run_V hC wX11_mostHeld k1404 (e_72 G _) rfl hP hS (As := []) (rest := []) (mX11_mostHeld l G Cm hq11) rfl hl.1 (Nat.le_of_ble_eq_true rfl) ⟨by decide, by decide⟩ ⟨Nat.le_refl _, Nat.le_refl _⟩ rfl dX11_quickest_59) (fun H locs pb13 hP hS => ?_)
          refine lv_iload_n hx hb dX11_quickest_62 rfl (lv_at hl 3 rfl) ?_
          refine lv_icmp_gt (tgt := 90) hx hb dX11_quickest_63 (by decide) (fun c14 => ?_) (fun c14 => ?_)
          · replace h := it_t c14 h
            exact bl90 (fX11_quickest_h39 n fu) ih y1 y2 y3 y4 y5 y6 C8 _ _ _ h (lv_sub hl [0, 1, 2, 3, 4, 5, 6] rfl) hP hS
          · replace h := it_f c14 h
            refine lv_iload hx hb dX11_quickest_66 (lv_at hl 4 rfl) ?_
            refine lv_if_lt (tgt := 80) hx hb dX11_quickest_68 (by decide) (fun c15 => ?_) (fun c15 => ?_)
            · replace h := it_t c15 h
              exact bl80 (fX11_quickest_h39 n fu) ih y1 y2 y3 y6 C8 _ _ _ h (lv_sub hl [0, 1, 2, 3, 6] rfl) hP hS
            · replace h := it_f c15 h
              refine lv_aload_n hx hb dX11_quickest_71 rfl (lv_at hl 0 rfl) ?_
              obtain ⟨r17, hq16, h⟩ := bn_x h
              refine rc_i hS (run_V hC wX11_seconds k1400 (e_72 G _) rfl hP hS (As := []) (rest := []) (mX11_seconds l G Cm hq16) rfl hl.1 (Nat.le_of_ble_eq_true rfl) ⟨by decide, by decide⟩ ⟨Nat.le_refl _, Nat.le_refl _⟩ rfl dX11_quickest_72) (fun H locs pb18 hP hS => ?_)
              refine lv_iload hx hb dX11_quickest_75 (lv_at hl 5 rfl) ?_
              refine lv_icmp_ge (tgt := 90) hx hb dX11_quickest_77 (by decide) (fun c19 => ?_) (fun c19 => ?_)
              · replace h := it_t c19 h
                exact bl90 (fX11_quickest_h39 n fu) ih y1 y2 y3 y4 y5 y6 C8 _ _ _ h (lv_sub hl [0, 1, 2, 3, 4, 5, 6] rfl) hP hS
              · replace h := it_f c19 h
                exact bl80 (fX11_quickest_h39 n fu) ih y1 y2 y3 y6 C8 _ _ _ h (lv_sub hl [0, 1, 2, 3, 6] rfl) hP hS
  unfold fX11_quickest at h
  refine lv_aload_n hx hb dX11_quickest_0 rfl (lv_at hl 0 rfl) ?_
  refine lv_iload_n hx hb dX11_quickest_1 rfl (lv_at hl 1 rfl) ?_
  refine rc_i hS (run_V hC wX11_isHead k1297 (e_72 G _) rfl hP hS (As := [.int p1]) (rest := []) (mX11_isHead l G Cm rfl) rfl hl.1 (Nat.le_of_ble_eq_true rfl) ⟨by decide, by decide⟩ ⟨Nat.le_refl _, Nat.le_refl _⟩ rfl dX11_quickest_2) (fun H locs pb21 hP hS => ?_)
  refine lv_if_eq (tgt := 27) hx hb dX11_quickest_5 (by decide) (fun c22 => ?_) (fun c22 => ?_)
  · replace h := it_t c22 h
    refine lv_iconst (v := (-1)) hx hb dX11_quickest_27 (by decide) ?_
    exact re_i' hC hr hP hS (pr_1 h) (congrArg (fun Z : Mm => (Cm, Z)) (pr_2 h)) dX11_quickest_28
  · replace h := it_f c22 h
    refine lv_iload_n hx hb dX11_quickest_8 rfl (lv_at hl 2 rfl) ?_
    refine rc_i hS (run_S hC wX11_isAsk k1317 hP hS (As := [.int p2]) (rest := []) (mX11_isAsk l G Cm rfl) rfl hl.1 (Nat.le_of_ble_eq_true rfl) ⟨by decide, by decide⟩ ⟨Nat.le_refl _, Nat.le_refl _⟩ rfl dX11_quickest_9) (fun H locs pb24 hP hS => ?_)
    refine lv_if_eq (tgt := 27) hx hb dX11_quickest_12 (by decide) (fun c25 => ?_) (fun c25 => ?_)
    · replace h := it_t c25 h
      refine lv_iconst (v := (-1)) hx hb dX11_quickest_27 (by decide) ?_
      exact re_i' hC hr hP hS (pr_1 h) (congrArg (fun Z : Mm => (Cm, Z)) (pr_2 h)) dX11_quickest_28
    · replace h := it_f c25 h
      refine lv_iload_n hx hb dX11_quickest_15 rfl (lv_at hl 3 rfl) ?_
      refine lv_i2l hx hb dX11_quickest_16 rfl ?_
      refine lv_lconst (v := 1) hx hb dX11_quickest_17 (by decide) ?_
      refine lv_ldc2 hx hb (v := 99) hown (hts _ k1290) dX11_quickest_18 ?_
      refine rc_i hS (run_S hC wX11_within k1229 hP hS (As := [.long (Int32.toInt64 p3), .long 1, .long 99]) (rest := []) (mX11_within l G Cm rfl) rfl hl.1 (Nat.le_of_ble_eq_true rfl) ⟨by decide, by decide⟩ ⟨Nat.le_refl _, Nat.le_refl _⟩ rfl dX11_quickest_21) (fun H locs pb27 hP hS => ?_)
      refine lv_if_ne (tgt := 29) hx hb dX11_quickest_24 (by decide) (fun c28 => ?_) (fun c28 => ?_)
      · replace h := it_f c28 h
        refine lv_bipush (v := (-2)) hx hb dX11_quickest_29 (by decide) ?_
        refine lv_istore (lv' := [(4, .int (-2)), (0, .ref (gA G 72)), (1, .int p1), (2, .int p2), (3, .int p3)]) hx hb dX11_quickest_31 hl (by decide) rfl (fun ls hl => ?_)
        refine lv_iconst (v := 0) hx hb dX11_quickest_33 (by decide) ?_
        refine lv_istore (lv' := [(5, .int 0), (4, .int (-2)), (0, .ref (gA G 72)), (1, .int p1), (2, .int p2), (3, .int p3)]) hx hb dX11_quickest_34 hl (by decide) rfl (fun ls hl => ?_)
        refine lv_iconst (v := 0) hx hb dX11_quickest_36 (by decide) ?_
        refine lv_istore (lv' := [(6, .int 0), (5, .int 0), (4, .int (-2)), (0, .ref (gA G 72)), (1, .int p1), (2, .int p2), (3, .int p3)]) hx hb dX11_quickest_37 hl (by decide) rfl (fun ls hl => ?_)
        exact bl39 n p1 p2 p3 (-2) 0 0 C _ _ _ h (lv_sub hl [3, 4, 5, 6, 2, 1, 0] rfl) hP hS
      · replace h := it_t c28 h
        refine lv_iconst (v := (-1)) hx hb dX11_quickest_27 (by decide) ?_
        exact re_i' hC hr hP hS (pr_1 h) (congrArg (fun Z : Mm => (Cm, Z)) (pr_2 h)) dX11_quickest_28
