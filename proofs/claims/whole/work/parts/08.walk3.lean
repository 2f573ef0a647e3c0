set_option maxHeartbeats 4000000 in
set_option maxRecDepth 100000 in
theorem mX3_writeCode (l : Launch) (G : gp) (Rm : Mm) {p1 : Int32} {C : Mm} {C0 : Mm} (h : fX3_writeCode p1 C = some C0) : Met l yX3_writeCode (wsy yX3_writeCode cX3_writeCode 2 none) (rmv 0 0) (va_Pc [.ref (gA G 32), .int p1] (Rl G (C, Rm))) (Qv G (C0, Rm)) 0 0 (lwA G) := by
  refine met_i [.ref (gA G 32), .int p1] wX3_writeCode.2.2.2.2.2 (Nat.le_of_ble_eq_true rfl) ?_
  intro p e s m args below meth c ls hC hr hP hl
  have hC : Cx G p s m args meth c cX3_writeCode RX3 2 := hC
  have hx := hC.1
  have hb := hC.2.1
  have hown := hC.2.2.2.1
  have hts := hC.2.2.2.2.1
  have hS : va_S (lwA G) s.heap s.heap [] := va_S.rf
  have hl : lv_has ls 2 [(0, .ref (gA G 32)), (1, .int p1)] := hl
  unfold fX3_writeCode at h
  refine lv_aload_n hx hb dX3_writeCode_0 rfl (lv_at hl 0 rfl) ?_
  refine r_get (v := .int (C.1 32 3)) hC inX3 hP (e_32 G _) rfl 3 (by decide) rfl k68 rfl dX3_writeCode_1 ?_
  refine lv_sipush (v := 128) hx hb dX3_writeCode_4 (by decide) ?_
  refine lv_icmp_ge (tgt := 30) hx hb dX3_writeCode_7 (by decide) (fun c1 => ?_) (fun c1 => ?_)
  · replace h := it_t c1 h
    exact re_v' hC hr hP hS (congrArg (fun Z : Mm => (Z, Rm)) (Option.some.inj h)) dX3_writeCode_30
  · replace h := it_f c1 h
    refine lv_aload_n hx hb dX3_writeCode_10 rfl (lv_at hl 0 rfl) ?_
    refine r_get (v := .ref (gA G 34)) hC inX3 hP (e_32 G _) rfl 2 (by decide) rfl k67 rfl dX3_writeCode_11 ?_
    refine lv_aload_n hx hb dX3_writeCode_14 rfl (lv_at hl 0 rfl) ?_
    refine r_get (v := .int (C.1 32 3)) hC inX3 hP (e_32 G _) rfl 3 (by decide) rfl k68 rfl dX3_writeCode_15 ?_
    refine lv_iload_n hx hb dX3_writeCode_18 rfl (lv_at hl 1 rfl) ?_
    by_cases c2 : (C.1 32 3) < (0 : Int32) ∨ 128 ≤ Int32.toNatClampNeg (C.1 32 3)
    · cases it_t c2 h
    replace h := it_f c2 h
    obtain ⟨C3, eC3⟩ : ∃ Z : Mm, Z = wrI C 34 (Int32.toNatClampNeg (C.1 32 3)) p1 := ⟨_, rfl⟩
    replace h := lt_y eC3 h
    refine r_iast (X' := (C3, Rm)) hC hP hS (e_34 G _) c2 (a_34 G _ _ _ _ eC3) dX3_writeCode_19 (fun H locs hP hS => ?_)
    refine lv_aload_n hx hb dX3_writeCode_20 rfl (lv_at hl 0 rfl) ?_
    refine lv_dup hx hb dX3_writeCode_21 rfl ?_
    refine r_get (v := .int (C3.1 32 3)) hC inX3 hP (e_32 G _) rfl 3 (by decide) rfl k68 rfl dX3_writeCode_22 ?_
    refine lv_iconst (v := 1) hx hb dX3_writeCode_25 (by decide) ?_
    refine lv_iadd hx hb dX3_writeCode_26 ?_
    obtain ⟨C4, eC4⟩ : ∃ Z : Mm, Z = wrI C3 32 3 ((C3.1 32 3) + 1) := ⟨_, rfl⟩
    replace h := lt_y eC4 h
    refine r_put (X' := (C4, Rm)) hC inX3 tyX3 tyX3_ok nmX3 hP hS (e_32 G _) rfl 3 (by decide) rfl k68 rfl (v := .int ((C3.1 32 3) + 1)) rfl rfl (Nat.le_of_ble_eq_true rfl) (p_32_3 G _ _ eC4) dX3_writeCode_27 (fun H locs hP hS => ?_)
    exact re_v' hC hr hP hS (congrArg (fun Z : Mm => (Z, Rm)) (Option.some.inj h)) dX3_writeCode_30
set_option maxHeartbeats 4000000 in
set_option maxRecDepth 100000 in
theorem mX3_readNumber (l : Launch) (G : gp) (Rm : Mm) {n : Nat} {C : Mm} {C0 : Mm} (h : fX3_readNumber n C = some C0) : Met l yX3_readNumber (wsy yX3_readNumber cX3_readNumber 3 none) (rmv 1 21) (va_Pc [.ref (gA G 32)] (Rl G (C, Rm))) (Qv G (C0, Rm)) 0 0 (lwA G) := by
  refine met_i [.ref (gA G 32)] wX3_readNumber.2.2.2.2.2 (Nat.le_of_ble_eq_true rfl) ?_
  intro p e s m args below meth c ls hC hr hP hl
  have hC : Cx G p s m args meth c cX3_readNumber RX3 3 := hC
  have hx := hC.1
  have hb := hC.2.1
  have hown := hC.2.2.2.1
  have hts := hC.2.2.2.2.1
  have hS : va_S (lwA G) s.heap s.heap [] := va_S.rf
  have hl : lv_has ls 3 [(0, .ref (gA G 32))] := hl
  have bl62 : ∀ (y1 : Int32) (C : Mm) (H : Heap) (locs : List Loc) (ls : Array Slot), fX3_readNumber_b62 n y1 C = some C0 → lv_has ls 3 [(0, .ref (gA G 32)), (1, .int y1)] → va_P (gD G) vwCl (wld G (C, Rm)) H → va_S (lwA G) s.heap H locs → W p l e (rmv 1 21) s m args below meth c H locs 0 0 (MQ below (Qv G (C0, Rm)) args s 0 0 (lwA G)) (F0 m 62 ls []) := by
    intro y1 C H locs ls h hl hP hS
    unfold fX3_readNumber_b62 at h
    refine lv_aload_n hx hb dX3_readNumber_62 rfl (lv_at hl 0 rfl) ?_
    refine lv_iload_n hx hb dX3_readNumber_63 rfl (lv_at hl 1 rfl) ?_
    obtain ⟨C2, hq1, h⟩ := bn_x h
    refine rc_v hS (run_V hC wX3_writeCode k425 (e_32 G _) rfl hP hS (As := [.int y1]) (rest := []) (mX3_writeCode l G Rm hq1) rfl hl.1 (Nat.le_of_ble_eq_true rfl) ⟨by decide, by decide⟩ ⟨Nat.le_refl _, Nat.le_refl _⟩ rfl dX3_readNumber_64) (fun H locs hP hS => ?_)
    exact re_v' hC hr hP hS (congrArg (fun Z : Mm => (Z, Rm)) (Option.some.inj h)) dX3_readNumber_67
  have bl4 : ∀ (fu : Nat), ∀ (y1 : Int32) (y2 : Int32) (C : Mm) (H : Heap) (locs : List Loc) (ls : Array Slot), fX3_readNumber_h4 n fu y1 y2 C = some C0 → lv_has ls 3 [(0, .ref (gA G 32)), (1, .int y1), (2, .int y2)] → va_P (gD G) vwCl (wld G (C, Rm)) H → va_S (lwA G) s.heap H locs → W p l e (rmv 1 21) s m args below meth c H locs 0 0 (MQ below (Qv G (C0, Rm)) args s 0 0 (lwA G)) (F0 m 4 ls []) := by
    intro fu
    induction fu with
    | zero =>
      intro y1 y2 C H locs ls h hl hP hS
      rw [fX3_readNumber_h4.eq_1] at h
      cases h
    | succ fu ih =>
      intro y1 y2 C H locs ls h hl hP hS
      rw [fX3_readNumber_h4.eq_2] at h
      refine lv_iload_n hx hb dX3_readNumber_4 rfl (lv_at hl 2 rfl) ?_
      refine lv_iconst (v := 4) hx hb dX3_readNumber_5 (by decide) ?_
      refine lv_icmp_ge (tgt := 62) hx hb dX3_readNumber_6 (by decide) (fun c3 => ?_) (fun c3 => ?_)
      · replace h := it_t c3 h
        exact bl62 y1 C _ _ _ h (lv_sub hl [0, 1] rfl) hP hS
      · replace h := it_f c3 h
        refine lv_aload_n hx hb dX3_readNumber_9 rfl (lv_at hl 0 rfl) ?_
        refine r_get (v := .ref (gA G 103)) hC inX3 hP (e_32 G _) rfl 6 (by decide) rfl k71 rfl dX3_readNumber_10 ?_
        refine lv_aload_n hx hb dX3_readNumber_13 rfl (lv_at hl 0 rfl) ?_
        refine r_get (v := .int (C.1 32 7)) hC inX3 hP (e_32 G _) rfl 7 (by decide) rfl k72 rfl dX3_readNumber_14 ?_
        obtain ⟨r5, hq4, h⟩ := bn_x h
        refine rc_i hS (run_V hC wX9_at k412 (e_103 G _) rfl hP hS (As := [.int (C.1 32 7)]) (rest := []) (mX9t_at l G Rm hq4) rfl hl.1 (Nat.le_of_ble_eq_true rfl) ⟨by decide, by decide⟩ ⟨Nat.le_refl _, Nat.le_refl _⟩ rfl dX3_readNumber_17) (fun H locs pb6 hP hS => ?_)
        refine rc_i hS (run_S hC wX4_isDigit k429 hP hS (As := [.int r5]) (rest := []) (mX4_isDigit l G Rm rfl) rfl hl.1 (Nat.le_of_ble_eq_true rfl) ⟨by decide, by decide⟩ ⟨Nat.le_refl _, Nat.le_refl _⟩ rfl dX3_readNumber_20) (fun H locs pb8 hP hS => ?_)
        refine lv_if_eq (tgt := 62) hx hb dX3_readNumber_23 (by decide) (fun c9 => ?_) (fun c9 => ?_)
        · replace h := it_t c9 h
          exact bl62 y1 C _ _ _ h (lv_sub hl [0, 1] rfl) hP hS
        · replace h := it_f c9 h
          refine lv_iload_n hx hb dX3_readNumber_26 rfl (lv_at hl 1 rfl) ?_
          refine lv_bipush (v := 10) hx hb dX3_readNumber_27 (by decide) ?_
          refine lv_imul hx hb dX3_readNumber_29 ?_
          refine lv_aload_n hx hb dX3_readNumber_30 rfl (lv_at hl 0 rfl) ?_
          refine r_get (v := .ref (gA G 103)) hC inX3 hP (e_32 G _) rfl 6 (by decide) rfl k71 rfl dX3_readNumber_31 ?_
          refine lv_aload_n hx hb dX3_readNumber_34 rfl (lv_at hl 0 rfl) ?_
          refine r_get (v := .int (C.1 32 7)) hC inX3 hP (e_32 G _) rfl 7 (by decide) rfl k72 rfl dX3_readNumber_35 ?_
          obtain ⟨r11, hq10, h⟩ := bn_x h
          refine rc_i hS (run_V hC wX9_at k412 (e_103 G _) rfl hP hS (As := [.int (C.1 32 7)]) (rest := [.int (y1 * 10)]) (mX9t_at l G Rm hq10) rfl hl.1 (Nat.le_of_ble_eq_true rfl) ⟨by decide, by decide⟩ ⟨Nat.le_refl _, Nat.le_refl _⟩ rfl dX3_readNumber_38) (fun H locs pb12 hP hS => ?_)
          refine lv_iadd hx hb dX3_readNumber_41 ?_
          refine lv_bipush (v := 48) hx hb dX3_readNumber_42 (by decide) ?_
          refine lv_isub hx hb dX3_readNumber_44 ?_
          refine lv_topi (fun x13 ex13 => ?_)
          replace h := lt_y ex13 h
          refine lv_istore_n (lv' := [(1, .int x13), (0, .ref (gA G 32)), (2, .int y2)]) hx hb dX3_readNumber_45 rfl hl (by decide) rfl (fun ls hl => ?_)
          refine lv_aload_n hx hb dX3_readNumber_46 rfl (lv_at hl 1 rfl) ?_
          refine lv_dup hx hb dX3_readNumber_47 rfl ?_
          refine r_get (v := .int (C.1 32 7)) hC inX3 hP (e_32 G _) rfl 7 (by decide) rfl k72 rfl dX3_readNumber_48 ?_
          refine lv_iconst (v := 1) hx hb dX3_readNumber_51 (by decide) ?_
          refine lv_iadd hx hb dX3_readNumber_52 ?_
          obtain ⟨C14, eC14⟩ : ∃ Z : Mm, Z = wrI C 32 7 ((C.1 32 7) + 1) := ⟨_, rfl⟩
          replace h := lt_y eC14 h
          refine r_put (X' := (C14, Rm)) hC inX3 tyX3 tyX3_ok nmX3 hP hS (e_32 G _) rfl 7 (by decide) rfl k72 rfl (v := .int ((C.1 32 7) + 1)) rfl rfl (Nat.le_of_ble_eq_true rfl) (p_32_7 G _ _ eC14) dX3_readNumber_53 (fun H locs hP hS => ?_)
          obtain ⟨x15, ex15⟩ : ∃ y : Int32, y = y2 + 1 := ⟨_, rfl⟩
          replace h := lt_y ex15 h
          refine lv_iinc (v := x15) (lv' := [(2, .int x15), (1, .int x13), (0, .ref (gA G 32))]) hx hb dX3_readNumber_56 hl (k := 2) rfl (by rw [ex15]; rfl) (by decide) rfl (fun ls hl => ?_)
          refine lv_goto (tgt := 4) hx hb dX3_readNumber_59 (by decide) ?_
          exact ih x13 x15 C14 _ _ _ h (lv_sub hl [2, 1, 0] rfl) hP hS
  unfold fX3_readNumber at h
  refine lv_iconst (v := 0) hx hb dX3_readNumber_0 (by decide) ?_
  refine lv_istore_n (lv' := [(1, .int 0), (0, .ref (gA G 32))]) hx hb dX3_readNumber_1 rfl hl (by decide) rfl (fun ls hl => ?_)
  refine lv_iconst (v := 0) hx hb dX3_readNumber_2 (by decide) ?_
  refine lv_istore_n (lv' := [(2, .int 0), (1, .int 0), (0, .ref (gA G 32))]) hx hb dX3_readNumber_3 rfl hl (by decide) rfl (fun ls hl => ?_)
  exact bl4 n 0 0 C _ _ _ h (lv_sub hl [2, 1, 0] rfl) hP hS
set_option maxHeartbeats 4000000 in
set_option maxRecDepth 100000 in
theorem mX3_isName (l : Launch) (G : gp) (Rm : Mm) {p0 : Int32} {C : Mm} {r0 : Int32} (h : fX3_isName p0 = r0) : Met l yX3_isName (wsy yX3_isName cX3_isName 1 (some .boolean)) (rmv 0 0) (va_Pc [.int p0] (Rl G (C, Rm))) (Qi G PZ r0 (C, Rm)) 0 0 (lwA G) := by
  refine met_i [.int p0] wX3_isName.2.2.2.2 (Nat.le_of_ble_eq_true rfl) ?_
  intro p e s m args below meth c ls hC hr hP hl
  have hC : Cx G p s m args meth c cX3_isName RX3 1 := hC
  have hx := hC.1
  have hb := hC.2.1
  have hown := hC.2.2.2.1
  have hts := hC.2.2.2.2.1
  have hS : va_S (lwA G) s.heap s.heap [] := va_S.rf
  have hl : lv_has ls 1 [(0, .int p0)] := hl
  unfold fX3_isName at h
  refine lv_iload_n hx hb dX3_isName_0 rfl (lv_at hl 0 rfl) ?_
  by_cases c1 : p0 = 99
  · replace h := it_t c1 h
    refine lv_tableIn (off := 111) (tgt := 112) hx hb dX3_isName_1 (by rw [c1]; decide) (by rw [c1]; decide) (by rw [c1]; rfl) (by decide) ?_
    refine lv_iconst (v := 1) hx hb dX3_isName_112 (by decide) ?_
    exact re_z' hC hr hP hS PZ1 h rfl dX3_isName_113
  replace h := it_f c1 h
  by_cases c2 : p0 = 100
  · replace h := it_t c2 h
    refine lv_tableIn (off := 111) (tgt := 112) hx hb dX3_isName_1 (by rw [c2]; decide) (by rw [c2]; decide) (by rw [c2]; rfl) (by decide) ?_
    refine lv_iconst (v := 1) hx hb dX3_isName_112 (by decide) ?_
    exact re_z' hC hr hP hS PZ1 h rfl dX3_isName_113
  replace h := it_f c2 h
  by_cases c3 : p0 = 109
  · replace h := it_t c3 h
    refine lv_tableIn (off := 111) (tgt := 112) hx hb dX3_isName_1 (by rw [c3]; decide) (by rw [c3]; decide) (by rw [c3]; rfl) (by decide) ?_
    refine lv_iconst (v := 1) hx hb dX3_isName_112 (by decide) ?_
    exact re_z' hC hr hP hS PZ1 h rfl dX3_isName_113
  replace h := it_f c3 h
  by_cases c4 : p0 = 110
  · replace h := it_t c4 h
    refine lv_tableIn (off := 111) (tgt := 112) hx hb dX3_isName_1 (by rw [c4]; decide) (by rw [c4]; decide) (by rw [c4]; rfl) (by decide) ?_
    refine lv_iconst (v := 1) hx hb dX3_isName_112 (by decide) ?_
    exact re_z' hC hr hP hS PZ1 h rfl dX3_isName_113
  replace h := it_f c4 h
  by_cases c5 : p0 = 116
  · replace h := it_t c5 h
    refine lv_tableIn (off := 111) (tgt := 112) hx hb dX3_isName_1 (by rw [c5]; decide) (by rw [c5]; decide) (by rw [c5]; rfl) (by decide) ?_
    refine lv_iconst (v := 1) hx hb dX3_isName_112 (by decide) ?_
    exact re_z' hC hr hP hS PZ1 h rfl dX3_isName_113
  replace h := it_f c5 h
  by_cases c6 : p0 = 120
  · replace h := it_t c6 h
    refine lv_tableIn (off := 111) (tgt := 112) hx hb dX3_isName_1 (by rw [c6]; decide) (by rw [c6]; decide) (by rw [c6]; rfl) (by decide) ?_
    refine lv_iconst (v := 1) hx hb dX3_isName_112 (by decide) ?_
    exact re_z' hC hr hP hS PZ1 h rfl dX3_isName_113
  replace h := it_f c6 h
  by_cases c7 : p0 = 121
  · replace h := it_t c7 h
    refine lv_tableIn (off := 111) (tgt := 112) hx hb dX3_isName_1 (by rw [c7]; decide) (by rw [c7]; decide) (by rw [c7]; rfl) (by decide) ?_
    refine lv_iconst (v := 1) hx hb dX3_isName_112 (by decide) ?_
    exact re_z' hC hr hP hS PZ1 h rfl dX3_isName_113
  replace h := it_f c7 h
  by_cases c8 : p0 = 122
  · replace h := it_t c8 h
    refine lv_tableIn (off := 111) (tgt := 112) hx hb dX3_isName_1 (by rw [c8]; decide) (by rw [c8]; decide) (by rw [c8]; rfl) (by decide) ?_
    refine lv_iconst (v := 1) hx hb dX3_isName_112 (by decide) ?_
    exact re_z' hC hr hP hS PZ1 h rfl dX3_isName_113
  replace h := it_f c8 h
  refine lv_tsD (tgt := 114) hx hb dX3_isName_1 rfl (ex_c (ti_ne (z := 99) rfl c1) (ex_c (ti_ne (z := 100) rfl c2) (ex_c (ti_ne (z := 109) rfl c3) (ex_c (ti_ne (z := 110) rfl c4) (ex_c (ti_ne (z := 116) rfl c5) (ex_c (ti_ne (z := 120) rfl c6) (ex_c (ti_ne (z := 121) rfl c7) (ex_c (ti_ne (z := 122) rfl c8) ex_0)))))))) (by decide) (by decide) ?_
  refine lv_iconst (v := 0) hx hb dX3_isName_114 (by decide) ?_
  exact re_z' hC hr hP hS PZ0 h rfl dX3_isName_115
set_option maxHeartbeats 4000000 in
set_option maxRecDepth 100000 in
theorem mX3_write (l : Launch) (G : gp) (Rm : Mm) {p1 : Int32} {C : Mm} {C0 : Mm} (h : fX3_write p1 C = some C0) : Met l yX3_write (wsy yX3_write cX3_write 2 none) (rmv 1 21) (va_Pc [.ref (gA G 32), .int p1] (Rl G (C, Rm))) (Qv G (C0, Rm)) 0 0 (lwA G) := by
  refine met_i [.ref (gA G 32), .int p1] wX3_write.2.2.2.2.2 (Nat.le_of_ble_eq_true rfl) ?_
  intro p e s m args below meth c ls hC hr hP hl
  have hC : Cx G p s m args meth c cX3_write RX3 2 := hC
  have hx := hC.1
  have hb := hC.2.1
  have hown := hC.2.2.2.1
  have hts := hC.2.2.2.2.1
  have hS : va_S (lwA G) s.heap s.heap [] := va_S.rf
  have hl : lv_has ls 2 [(0, .ref (gA G 32)), (1, .int p1)] := hl
  unfold fX3_write at h
  refine lv_aload_n hx hb dX3_write_0 rfl (lv_at hl 0 rfl) ?_
  refine lv_iload_n hx hb dX3_write_1 rfl (lv_at hl 1 rfl) ?_
  refine lv_ineg hx hb dX3_write_2 ?_
  obtain ⟨C2, hq1, h⟩ := bn_x h
  refine rc_v hS (run_V hC wX3_writeCode k425 (e_32 G _) rfl hP hS (As := [.int (-p1)]) (rest := []) (mX3_writeCode l G Rm hq1) rfl hl.1 (Nat.le_of_ble_eq_true rfl) ⟨by decide, by decide⟩ ⟨Nat.le_refl _, Nat.le_refl _⟩ rfl dX3_write_3) (fun H locs hP hS => ?_)
  exact re_v' hC hr hP hS (congrArg (fun Z : Mm => (Z, Rm)) (Option.some.inj h)) dX3_write_6
set_option maxHeartbeats 4000000 in
set_option maxRecDepth 100000 in
theorem mX3_readOperand (l : Launch) (G : gp) (Rm : Mm) {n : Nat} {z : Int32 → Mm → Option (Int32 × Mm)} {fr lo : Nat} (hz : ∀ (Rm : Mm) {p1 : Int32} {C : Mm} {r0 : Int32} {C0 : Mm} (_ : z p1 C = some (r0, C0)), Met l yX3_readOpened (wsy yX3_readOpened cX3_readOpened 3 (some .boolean)) (rmv fr lo) (va_Pc [.ref (gA G 32), .int p1] (Rl G (C, Rm))) (Qi G PZ r0 (C0, Rm)) 0 0 (lwA G)) {p1 : Int32} {C : Mm} {r0 : Int32} {C0 : Mm} (h : fX3_readOperand n z p1 C = some (r0, C0)) : Met l yX3_readOperand (wsy yX3_readOperand cX3_readOperand 3 (some .boolean)) (rmv (fr + 2) (lo + 43)) (va_Pc [.ref (gA G 32), .int p1] (Rl G (C, Rm))) (Qi G PZ r0 (C0, Rm)) 0 0 (lwA G) := by
  refine met_i [.ref (gA G 32), .int p1] wX3_readOperand.2.2.2.2.2 (Nat.le_of_ble_eq_true rfl) ?_
  intro p e s m args below meth c ls hC hr hP hl
  have hC : Cx G p s m args meth c cX3_readOperand RX3 3 := hC
  have hx := hC.1
  have hb := hC.2.1
  have hown := hC.2.2.2.1
  have hts := hC.2.2.2.2.1
  have hS : va_S (lwA G) s.heap s.heap [] := va_S.rf
  have hl : lv_has ls 3 [(0, .ref (gA G 32)), (1, .int p1)] := hl
  have bl30 : ∀ (y1 : Int32) (C : Mm) (H : Heap) (locs : List Loc) (ls : Array Slot), fX3_readOperand_b30 n z y1 C = some (r0, C0) → lv_has ls 3 [(0, .ref (gA G 32)), (1, .int y1)] → va_P (gD G) vwCl (wld G (C, Rm)) H → va_S (lwA G) s.heap H locs → W p l e (rmv (fr + 2) (lo + 43)) s m args below meth c H locs 0 0 (MQ below (Qi G PZ r0 (C0, Rm)) args s 0 0 (lwA G)) (F0 m 30 ls []) := by
    intro y1 C H locs ls h hl hP hS
    unfold fX3_readOperand_b30 at h
    refine lv_iload_n hx hb dX3_readOperand_30 rfl (lv_at hl 1 rfl) ?_
    refine lv_bipush (v := 6) hx hb dX3_readOperand_31 (by decide) ?_
    refine lv_icmp_ge (tgt := 50) hx hb dX3_readOperand_33 (by decide) (fun c1 => ?_) (fun c1 => ?_)
    · replace h := it_t c1 h
      refine lv_iconst (v := 0) hx hb dX3_readOperand_50 (by decide) ?_
      exact re_z' hC hr hP hS PZ0 (pr_1 h) (congrArg (fun Z : Mm => (Z, Rm)) (pr_2 h)) dX3_readOperand_51
    · replace h := it_f c1 h
      refine lv_aload_n hx hb dX3_readOperand_36 rfl (lv_at hl 0 rfl) ?_
      refine lv_iload_n hx hb dX3_readOperand_37 rfl (lv_at hl 1 rfl) ?_
      refine lv_iconst (v := 1) hx hb dX3_readOperand_38 (by decide) ?_
      refine lv_iadd hx hb dX3_readOperand_39 ?_
      obtain ⟨r3, C4, hq2, h⟩ := bp_x h
      refine rc_i hS (run_V hC wX3_readOpened k413 (e_32 G _) rfl hP hS (As := [.int (y1 + 1)]) (rest := []) (hz Rm hq2) rfl hl.1 (Nat.le_of_ble_eq_true rfl) (rm_le (by omega) (by omega)) ⟨Nat.le_refl _, Nat.le_refl _⟩ rfl dX3_readOperand_40) (fun H locs pb5 hP hS => ?_)
      refine lv_if_eq (tgt := 50) hx hb dX3_readOperand_43 (by decide) (fun c6 => ?_) (fun c6 => ?_)
      · replace h := it_t c6 h
        refine lv_iconst (v := 0) hx hb dX3_readOperand_50 (by decide) ?_
        exact re_z' hC hr hP hS PZ0 (pr_1 h) (congrArg (fun Z : Mm => (Z, Rm)) (pr_2 h)) dX3_readOperand_51
      · replace h := it_f c6 h
        refine lv_iconst (v := 1) hx hb dX3_readOperand_46 (by decide) ?_
        refine lv_goto (tgt := 51) hx hb dX3_readOperand_47 (by decide) ?_
        exact re_z' hC hr hP hS PZ1 (pr_1 h) (congrArg (fun Z : Mm => (Z, Rm)) (pr_2 h)) dX3_readOperand_51
  unfold fX3_readOperand at h
  refine lv_aload_n hx hb dX3_readOperand_0 rfl (lv_at hl 0 rfl) ?_
  refine r_get (v := .ref (gA G 103)) hC inX3 hP (e_32 G _) rfl 6 (by decide) rfl k71 rfl dX3_readOperand_1 ?_
  refine lv_aload_n hx hb dX3_readOperand_4 rfl (lv_at hl 0 rfl) ?_
  refine r_get (v := .int (C.1 32 7)) hC inX3 hP (e_32 G _) rfl 7 (by decide) rfl k72 rfl dX3_readOperand_5 ?_
  obtain ⟨r8, hq7, h⟩ := bn_x h
  refine rc_i hS (run_V hC wX9_at k412 (e_103 G _) rfl hP hS (As := [.int (C.1 32 7)]) (rest := []) (mX9t_at l G Rm hq7) rfl hl.1 (Nat.le_of_ble_eq_true rfl) (rm_le (by omega) (by omega)) ⟨Nat.le_refl _, Nat.le_refl _⟩ rfl dX3_readOperand_8) (fun H locs pb9 hP hS => ?_)
  refine lv_istore_n (lv' := [(2, .int r8), (0, .ref (gA G 32)), (1, .int p1)]) hx hb dX3_readOperand_11 rfl hl (by decide) rfl (fun ls hl => ?_)
  refine lv_iload_n hx hb dX3_readOperand_12 rfl (lv_at hl 0 rfl) ?_
  refine lv_bipush (v := 40) hx hb dX3_readOperand_13 (by decide) ?_
  refine lv_icmp_eq (tgt := 30) hx hb dX3_readOperand_15 (by decide) (fun c10 => ?_) (fun c10 => ?_)
  · replace h := it_t c10 h
    exact bl30 p1 C _ _ _ h (lv_sub hl [1, 2] rfl) hP hS
  · replace h := it_f c10 h
    refine lv_iload_n hx hb dX3_readOperand_18 rfl (lv_at hl 0 rfl) ?_
    refine lv_bipush (v := 33) hx hb dX3_readOperand_19 (by decide) ?_
    refine lv_icmp_eq (tgt := 30) hx hb dX3_readOperand_21 (by decide) (fun c11 => ?_) (fun c11 => ?_)
    · replace h := it_t c11 h
      exact bl30 p1 C _ _ _ h (lv_sub hl [1, 2] rfl) hP hS
    · replace h := it_f c11 h
      refine lv_iload_n hx hb dX3_readOperand_24 rfl (lv_at hl 0 rfl) ?_
      refine lv_bipush (v := 45) hx hb dX3_readOperand_25 (by decide) ?_
      refine lv_icmp_ne (tgt := 52) hx hb dX3_readOperand_27 (by decide) (fun c12 => ?_) (fun c12 => ?_)
      · replace h := it_f c12 h
        refine lv_iload_n hx hb dX3_readOperand_52 rfl (lv_at hl 0 rfl) ?_
        refine rc_i hS (run_S hC wX4_isDigit k429 hP hS (As := [.int r8]) (rest := []) (mX4_isDigit l G Rm rfl) rfl hl.1 (Nat.le_of_ble_eq_true rfl) (rm_le (by omega) (by omega)) ⟨Nat.le_refl _, Nat.le_refl _⟩ rfl dX3_readOperand_53) (fun H locs pb14 hP hS => ?_)
        refine lv_if_eq (tgt := 65) hx hb dX3_readOperand_56 (by decide) (fun c15 => ?_) (fun c15 => ?_)
        · replace h := it_t c15 h
          refine lv_iload_n hx hb dX3_readOperand_65 rfl (lv_at hl 0 rfl) ?_
          refine rc_i hS (run_S hC wX3_isName k434 hP hS (As := [.int r8]) (rest := []) (mX3_isName l G Rm rfl) rfl hl.1 (Nat.le_of_ble_eq_true rfl) (rm_le (by omega) (by omega)) ⟨Nat.le_refl _, Nat.le_refl _⟩ rfl dX3_readOperand_66) (fun H locs pb17 hP hS => ?_)
          refine lv_if_ne (tgt := 74) hx hb dX3_readOperand_69 (by decide) (fun c18 => ?_) (fun c18 => ?_)
          · replace h := it_f c18 h
            refine lv_aload_n hx hb dX3_readOperand_74 rfl (lv_at hl 1 rfl) ?_
            refine lv_dup hx hb dX3_readOperand_75 rfl ?_
            refine r_get (v := .int (C.1 32 7)) hC inX3 hP (e_32 G _) rfl 7 (by decide) rfl k72 rfl dX3_readOperand_76 ?_
            refine lv_iconst (v := 1) hx hb dX3_readOperand_79 (by decide) ?_
            refine lv_iadd hx hb dX3_readOperand_80 ?_
            obtain ⟨C19, eC19⟩ : ∃ Z : Mm, Z = wrI C 32 7 ((C.1 32 7) + 1) := ⟨_, rfl⟩
            replace h := lt_y eC19 h
            refine r_put (X' := (C19, Rm)) hC inX3 tyX3 tyX3_ok nmX3 hP hS (e_32 G _) rfl 7 (by decide) rfl k72 rfl (v := .int ((C.1 32 7) + 1)) rfl rfl (Nat.le_of_ble_eq_true rfl) (p_32_7 G _ _ eC19) dX3_readOperand_81 (fun H locs hP hS => ?_)
            refine lv_aload_n hx hb dX3_readOperand_84 rfl (lv_at hl 1 rfl) ?_
            refine lv_iload_n hx hb dX3_readOperand_85 rfl (lv_at hl 0 rfl) ?_
            obtain ⟨C21, hq20, h⟩ := bn_x h
            refine rc_v hS (run_V hC wX3_write k421 (e_32 G _) rfl hP hS (As := [.int r8]) (rest := []) (mX3_write l G Rm hq20) rfl hl.1 (Nat.le_of_ble_eq_true rfl) (rm_le (by omega) (by omega)) ⟨Nat.le_refl _, Nat.le_refl _⟩ rfl dX3_readOperand_86) (fun H locs hP hS => ?_)
            refine lv_iconst (v := 1) hx hb dX3_readOperand_89 (by decide) ?_
            exact re_z' hC hr hP hS PZ1 (pr_1 h) (congrArg (fun Z : Mm => (Z, Rm)) (pr_2 h)) dX3_readOperand_90
          · replace h := it_t c18 h
            refine lv_iconst (v := 0) hx hb dX3_readOperand_72 (by decide) ?_
            exact re_z' hC hr hP hS PZ0 (pr_1 h) (congrArg (fun Z : Mm => (Z, Rm)) (pr_2 h)) dX3_readOperand_73
        · replace h := it_f c15 h
          refine lv_aload_n hx hb dX3_readOperand_59 rfl (lv_at hl 1 rfl) ?_
          obtain ⟨C23, hq22, h⟩ := bn_x h
          refine rc_v hS (run_V hC wX3_readNumber k430 (e_32 G _) rfl hP hS (As := []) (rest := []) (mX3_readNumber l G Rm hq22) rfl hl.1 (Nat.le_of_ble_eq_true rfl) (rm_le (by omega) (by omega)) ⟨Nat.le_refl _, Nat.le_refl _⟩ rfl dX3_readOperand_60) (fun H locs hP hS => ?_)
          refine lv_iconst (v := 1) hx hb dX3_readOperand_63 (by decide) ?_
          exact re_z' hC hr hP hS PZ1 (pr_1 h) (congrArg (fun Z : Mm => (Z, Rm)) (pr_2 h)) dX3_readOperand_64
      · replace h := it_t c12 h
        exact bl30 p1 C _ _ _ h (lv_sub hl [1, 2] rfl) hP hS
set_option maxHeartbeats 4000000 in
set_option maxRecDepth 100000 in
theorem mX3_readProduct (l : Launch) (G : gp) (Rm : Mm) {n : Nat} {z : Int32 → Mm → Option (Int32 × Mm)} {fr lo : Nat} (hz : ∀ (Rm : Mm) {p1 : Int32} {C : Mm} {r0 : Int32} {C0 : Mm} (_ : z p1 C = some (r0, C0)), Met l yX3_readOpened (wsy yX3_readOpened cX3_readOpened 3 (some .boolean)) (rmv fr lo) (va_Pc [.ref (gA G 32), .int p1] (Rl G (C, Rm))) (Qi G PZ r0 (C0, Rm)) 0 0 (lwA G)) {p1 : Int32} {C : Mm} {r0 : Int32} {C0 : Mm} (h : fX3_readProduct n z p1 C = some (r0, C0)) : Met l yX3_readProduct (wsy yX3_readProduct cX3_readProduct 4 (some .boolean)) (rmv (fr + 3) (lo + 65)) (va_Pc [.ref (gA G 32), .int p1] (Rl G (C, Rm))) (Qi G PZ r0 (C0, Rm)) 0 0 (lwA G) := by
  refine met_i [.ref (gA G 32), .int p1] wX3_readProduct.2.2.2.2.2 (Nat.le_of_ble_eq_true rfl) ?_
  intro p e s m args below meth c ls hC hr hP hl
  have hC : Cx G p s m args meth c cX3_readProduct RX3 4 := hC
  have hx := hC.1
  have hb := hC.2.1
  have hown := hC.2.2.2.1
  have hts := hC.2.2.2.2.1
  have hS : va_S (lwA G) s.heap s.heap [] := va_S.rf
  have hl : lv_has ls 4 [(0, .ref (gA G 32)), (1, .int p1)] := hl
  have bl55 : ∀ (k12 : Int32 → Int32 → Mm → Option (Int32 × Mm)) (hk12 : ∀ (y1 : Int32) (y2 : Int32) (C : Mm) (H : Heap) (locs : List Loc) (ls : Array Slot), k12 y1 y2 C = some (r0, C0) → lv_has ls 4 [(0, .ref (gA G 32)), (1, .int y1), (2, .int y2)] → va_P (gD G) vwCl (wld G (C, Rm)) H → va_S (lwA G) s.heap H locs → W p l e (rmv (fr + 3) (lo + 65)) s m args below meth c H locs 0 0 (MQ below (Qi G PZ r0 (C0, Rm)) args s 0 0 (lwA G)) (F0 m 12 ls [])), ∀ (y1 : Int32) (y2 : Int32) (y3 : Int32) (C : Mm) (H : Heap) (locs : List Loc) (ls : Array Slot), fX3_readProduct_b55 n z k12 y1 y2 y3 C = some (r0, C0) → lv_has ls 4 [(0, .ref (gA G 32)), (1, .int y1), (2, .int y2), (3, .int y3)] → va_P (gD G) vwCl (wld G (C, Rm)) H → va_S (lwA G) s.heap H locs → W p l e (rmv (fr + 3) (lo + 65)) s m args below meth c H locs 0 0 (MQ below (Qi G PZ r0 (C0, Rm)) args s 0 0 (lwA G)) (F0 m 55 ls []) := by
    intro k12 hk12 y1 y2 y3 C H locs ls h hl hP hS
    unfold fX3_readProduct_b55 at h
    refine lv_aload_n hx hb dX3_readProduct_55 rfl (lv_at hl 0 rfl) ?_
    refine lv_dup hx hb dX3_readProduct_56 rfl ?_
    refine r_get (v := .int (C.1 32 7)) hC inX3 hP (e_32 G _) rfl 7 (by decide) rfl k72 rfl dX3_readProduct_57 ?_
    refine lv_iconst (v := 1) hx hb dX3_readProduct_60 (by decide) ?_
    refine lv_iadd hx hb dX3_readProduct_61 ?_
    obtain ⟨C1, eC1⟩ : ∃ Z : Mm, Z = wrI C 32 7 ((C.1 32 7) + 1) := ⟨_, rfl⟩
    replace h := lt_y eC1 h
    refine r_put (X' := (C1, Rm)) hC inX3 tyX3 tyX3_ok nmX3 hP hS (e_32 G _) rfl 7 (by decide) rfl k72 rfl (v := .int ((C.1 32 7) + 1)) rfl rfl (Nat.le_of_ble_eq_true rfl) (p_32_7 G _ _ eC1) dX3_readProduct_62 (fun H locs hP hS => ?_)
    refine lv_aload_n hx hb dX3_readProduct_65 rfl (lv_at hl 0 rfl) ?_
    refine lv_iload_n hx hb dX3_readProduct_66 rfl (lv_at hl 1 rfl) ?_
    obtain ⟨r3, C4, hq2, h⟩ := bp_x h
    refine rc_i hS (run_V hC wX3_readOperand k408 (e_32 G _) rfl hP hS (As := [.int y1]) (rest := []) (mX3_readOperand l G Rm hz hq2) rfl hl.1 (Nat.le_of_ble_eq_true rfl) (rm_le (by omega) (by omega)) ⟨Nat.le_refl _, Nat.le_refl _⟩ rfl dX3_readProduct_67) (fun H locs pb5 hP hS => ?_)
    refine lv_if_ne (tgt := 75) hx hb dX3_readProduct_70 (by decide) (fun c6 => ?_) (fun c6 => ?_)
    · replace h := it_f c6 h
      refine lv_aload_n hx hb dX3_readProduct_75 rfl (lv_at hl 0 rfl) ?_
      refine lv_iload_n hx hb dX3_readProduct_76 rfl (lv_at hl 3 rfl) ?_
      obtain ⟨C8, hq7, h⟩ := bn_x h
      refine rc_v hS (run_V hC wX3_write k421 (e_32 G _) rfl hP hS (As := [.int y3]) (rest := []) (mX3_write l G Rm hq7) rfl hl.1 (Nat.le_of_ble_eq_true rfl) (rm_le (by omega) (by omega)) ⟨Nat.le_refl _, Nat.le_refl _⟩ rfl dX3_readProduct_77) (fun H locs hP hS => ?_)
      obtain ⟨x9, ex9⟩ : ∃ y : Int32, y = y2 + 1 := ⟨_, rfl⟩
      replace h := lt_y ex9 h
      refine lv_iinc (v := x9) (lv' := [(2, .int x9), (0, .ref (gA G 32)), (1, .int y1), (3, .int y3)]) hx hb dX3_readProduct_80 hl (k := 2) rfl (by rw [ex9]; rfl) (by decide) rfl (fun ls hl => ?_)
      refine lv_goto (tgt := 12) hx hb dX3_readProduct_83 (by decide) ?_
      exact hk12 y1 x9 C8 _ _ _ h (lv_sub hl [1, 2, 0] rfl) hP hS
    · replace h := it_t c6 h
      refine lv_iconst (v := 0) hx hb dX3_readProduct_73 (by decide) ?_
      exact re_z' hC hr hP hS PZ0 (pr_1 h) (congrArg (fun Z : Mm => (Z, Rm)) (pr_2 h)) dX3_readProduct_74
  have bl12 : ∀ (fu : Nat), ∀ (y1 : Int32) (y2 : Int32) (C : Mm) (H : Heap) (locs : List Loc) (ls : Array Slot), fX3_readProduct_h12 n z fu y1 y2 C = some (r0, C0) → lv_has ls 4 [(0, .ref (gA G 32)), (1, .int y1), (2, .int y2)] → va_P (gD G) vwCl (wld G (C, Rm)) H → va_S (lwA G) s.heap H locs → W p l e (rmv (fr + 3) (lo + 65)) s m args below meth c H locs 0 0 (MQ below (Qi G PZ r0 (C0, Rm)) args s 0 0 (lwA G)) (F0 m 12 ls []) := by
    intro fu
    induction fu with
    | zero =>
      intro y1 y2 C H locs ls h hl hP hS
      rw [fX3_readProduct_h12.eq_1] at h
      cases h
    | succ fu ih =>
      intro y1 y2 C H locs ls h hl hP hS
      rw [fX3_readProduct_h12.eq_2] at h
      refine lv_iload_n hx hb dX3_readProduct_12 rfl (lv_at hl 2 rfl) ?_
      refine lv_aload_n hx hb dX3_readProduct_13 rfl (lv_at hl 0 rfl) ?_
      refine r_get (v := .ref (gA G 103)) hC inX3 hP (e_32 G _) rfl 6 (by decide) rfl k71 rfl dX3_readProduct_14 ?_
      refine rc_i hS (run_V hC wX9_length k383 (e_103 G _) rfl hP hS (As := []) (rest := [.int y2]) (mX9t_length l G Rm rfl) rfl hl.1 (Nat.le_of_ble_eq_true rfl) (rm_le (by omega) (by omega)) ⟨Nat.le_refl _, Nat.le_refl _⟩ rfl dX3_readProduct_17) (fun H locs pb11 hP hS => ?_)
      refine lv_icmp_ge (tgt := 86) hx hb dX3_readProduct_20 (by decide) (fun c12 => ?_) (fun c12 => ?_)
      · replace h := it_t c12 h
        refine lv_iconst (v := 1) hx hb dX3_readProduct_86 (by decide) ?_
        exact re_z' hC hr hP hS PZ1 (pr_1 h) (congrArg (fun Z : Mm => (Z, Rm)) (pr_2 h)) dX3_readProduct_87
      · replace h := it_f c12 h
        refine lv_aload_n hx hb dX3_readProduct_23 rfl (lv_at hl 0 rfl) ?_
        refine r_get (v := .ref (gA G 103)) hC inX3 hP (e_32 G _) rfl 6 (by decide) rfl k71 rfl dX3_readProduct_24 ?_
        refine lv_aload_n hx hb dX3_readProduct_27 rfl (lv_at hl 0 rfl) ?_
        refine r_get (v := .int (C.1 32 7)) hC inX3 hP (e_32 G _) rfl 7 (by decide) rfl k72 rfl dX3_readProduct_28 ?_
        obtain ⟨r14, hq13, h⟩ := bn_x h
        refine rc_i hS (run_V hC wX9_at k412 (e_103 G _) rfl hP hS (As := [.int (C.1 32 7)]) (rest := []) (mX9t_at l G Rm hq13) rfl hl.1 (Nat.le_of_ble_eq_true rfl) (rm_le (by omega) (by omega)) ⟨Nat.le_refl _, Nat.le_refl _⟩ rfl dX3_readProduct_31) (fun H locs pb15 hP hS => ?_)
        refine lv_istore_n (lv' := [(3, .int r14), (0, .ref (gA G 32)), (1, .int y1), (2, .int y2)]) hx hb dX3_readProduct_34 rfl hl (by decide) rfl (fun ls hl => ?_)
        refine lv_iload_n hx hb dX3_readProduct_35 rfl (lv_at hl 0 rfl) ?_
        refine lv_bipush (v := 42) hx hb dX3_readProduct_36 (by decide) ?_
        refine lv_icmp_eq (tgt := 55) hx hb dX3_readProduct_38 (by decide) (fun c16 => ?_) (fun c16 => ?_)
        · replace h := it_t c16 h
          exact bl55 (fX3_readProduct_h12 n z fu) ih y1 y2 r14 C _ _ _ h (lv_sub hl [1, 2, 3, 0] rfl) hP hS
        · replace h := it_f c16 h
          refine lv_iload_n hx hb dX3_readProduct_41 rfl (lv_at hl 0 rfl) ?_
          refine lv_bipush (v := 47) hx hb dX3_readProduct_42 (by decide) ?_
          refine lv_icmp_eq (tgt := 55) hx hb dX3_readProduct_44 (by decide) (fun c17 => ?_) (fun c17 => ?_)
          · replace h := it_t c17 h
            exact bl55 (fX3_readProduct_h12 n z fu) ih y1 y2 r14 C _ _ _ h (lv_sub hl [1, 2, 3, 0] rfl) hP hS
          · replace h := it_f c17 h
            refine lv_iload_n hx hb dX3_readProduct_47 rfl (lv_at hl 0 rfl) ?_
            refine lv_bipush (v := 37) hx hb dX3_readProduct_48 (by decide) ?_
            refine lv_icmp_eq (tgt := 55) hx hb dX3_readProduct_50 (by decide) (fun c18 => ?_) (fun c18 => ?_)
            · replace h := it_t c18 h
              exact bl55 (fX3_readProduct_h12 n z fu) ih y1 y2 r14 C _ _ _ h (lv_sub hl [1, 2, 3, 0] rfl) hP hS
            · replace h := it_f c18 h
              refine lv_iconst (v := 1) hx hb dX3_readProduct_53 (by decide) ?_
              exact re_z' hC hr hP hS PZ1 (pr_1 h) (congrArg (fun Z : Mm => (Z, Rm)) (pr_2 h)) dX3_readProduct_54
  unfold fX3_readProduct at h
  refine lv_aload_n hx hb dX3_readProduct_0 rfl (lv_at hl 0 rfl) ?_
  refine lv_iload_n hx hb dX3_readProduct_1 rfl (lv_at hl 1 rfl) ?_
  obtain ⟨r20, C21, hq19, h⟩ := bp_x h
  refine rc_i hS (run_V hC wX3_readOperand k408 (e_32 G _) rfl hP hS (As := [.int p1]) (rest := []) (mX3_readOperand l G Rm hz hq19) rfl hl.1 (Nat.le_of_ble_eq_true rfl) (rm_le (by omega) (by omega)) ⟨Nat.le_refl _, Nat.le_refl _⟩ rfl dX3_readProduct_2) (fun H locs pb22 hP hS => ?_)
  refine lv_if_ne (tgt := 10) hx hb dX3_readProduct_5 (by decide) (fun c23 => ?_) (fun c23 => ?_)
  · replace h := it_f c23 h
    refine lv_iconst (v := 0) hx hb dX3_readProduct_10 (by decide) ?_
    refine lv_istore_n (lv' := [(2, .int 0), (0, .ref (gA G 32)), (1, .int p1)]) hx hb dX3_readProduct_11 rfl hl (by decide) rfl (fun ls hl => ?_)
    exact bl12 n p1 0 C21 _ _ _ h (lv_sub hl [1, 2, 0] rfl) hP hS
  · replace h := it_t c23 h
    refine lv_iconst (v := 0) hx hb dX3_readProduct_8 (by decide) ?_
    exact re_z' hC hr hP hS PZ0 (pr_1 h) (congrArg (fun Z : Mm => (Z, Rm)) (pr_2 h)) dX3_readProduct_9
set_option maxHeartbeats 4000000 in
set_option maxRecDepth 100000 in
theorem mX3_readSum (l : Launch) (G : gp) (Rm : Mm) {n : Nat} {z : Int32 → Mm → Option (Int32 × Mm)} {fr lo : Nat} (hz : ∀ (Rm : Mm) {p1 : Int32} {C : Mm} {r0 : Int32} {C0 : Mm} (_ : z p1 C = some (r0, C0)), Met l yX3_readOpened (wsy yX3_readOpened cX3_readOpened 3 (some .boolean)) (rmv fr lo) (va_Pc [.ref (gA G 32), .int p1] (Rl G (C, Rm))) (Qi G PZ r0 (C0, Rm)) 0 0 (lwA G)) {p1 : Int32} {C : Mm} {r0 : Int32} {C0 : Mm} (h : fX3_readSum n z p1 C = some (r0, C0)) : Met l yX3_readSum (wsy yX3_readSum cX3_readSum 4 (some .boolean)) (rmv (fr + 4) (lo + 88)) (va_Pc [.ref (gA G 32), .int p1] (Rl G (C, Rm))) (Qi G PZ r0 (C0, Rm)) 0 0 (lwA G) := by
  refine met_i [.ref (gA G 32), .int p1] wX3_readSum.2.2.2.2.2 (Nat.le_of_ble_eq_true rfl) ?_
  intro p e s m args below meth c ls hC hr hP hl
  have hC : Cx G p s m args meth c cX3_readSum RX3 4 := hC
  have hx := hC.1
  have hb := hC.2.1
  have hown := hC.2.2.2.1
  have hts := hC.2.2.2.2.1
  have hS : va_S (lwA G) s.heap s.heap [] := va_S.rf
  have hl : lv_has ls 4 [(0, .ref (gA G 32)), (1, .int p1)] := hl
  have bl49 : ∀ (k12 : Int32 → Int32 → Mm → Option (Int32 × Mm)) (hk12 : ∀ (y1 : Int32) (y2 : Int32) (C : Mm) (H : Heap) (locs : List Loc) (ls : Array Slot), k12 y1 y2 C = some (r0, C0) → lv_has ls 4 [(0, .ref (gA G 32)), (1, .int y1), (2, .int y2)] → va_P (gD G) vwCl (wld G (C, Rm)) H → va_S (lwA G) s.heap H locs → W p l e (rmv (fr + 4) (lo + 88)) s m args below meth c H locs 0 0 (MQ below (Qi G PZ r0 (C0, Rm)) args s 0 0 (lwA G)) (F0 m 12 ls [])), ∀ (y1 : Int32) (y2 : Int32) (y3 : Int32) (C : Mm) (H : Heap) (locs : List Loc) (ls : Array Slot), fX3_readSum_b49 n z k12 y1 y2 y3 C = some (r0, C0) → lv_has ls 4 [(0, .ref (gA G 32)), (1, .int y1), (2, .int y2), (3, .int y3)] → va_P (gD G) vwCl (wld G (C, Rm)) H → va_S (lwA G) s.heap H locs → W p l e (rmv (fr + 4) (lo + 88)) s m args below meth c H locs 0 0 (MQ below (Qi G PZ r0 (C0, Rm)) args s 0 0 (lwA G)) (F0 m 49 ls []) := by
    intro k12 hk12 y1 y2 y3 C H locs ls h hl hP hS
    unfold fX3_readSum_b49 at h
    refine lv_aload_n hx hb dX3_readSum_49 rfl (lv_at hl 0 rfl) ?_
    refine lv_dup hx hb dX3_readSum_50 rfl ?_
    refine r_get (v := .int (C.1 32 7)) hC inX3 hP (e_32 G _) rfl 7 (by decide) rfl k72 rfl dX3_readSum_51 ?_
    refine lv_iconst (v := 1) hx hb dX3_readSum_54 (by decide) ?_
    refine lv_iadd hx hb dX3_readSum_55 ?_
    obtain ⟨C1, eC1⟩ : ∃ Z : Mm, Z = wrI C 32 7 ((C.1 32 7) + 1) := ⟨_, rfl⟩
    replace h := lt_y eC1 h
    refine r_put (X' := (C1, Rm)) hC inX3 tyX3 tyX3_ok nmX3 hP hS (e_32 G _) rfl 7 (by decide) rfl k72 rfl (v := .int ((C.1 32 7) + 1)) rfl rfl (Nat.le_of_ble_eq_true rfl) (p_32_7 G _ _ eC1) dX3_readSum_56 (fun H locs hP hS => ?_)
    refine lv_aload_n hx hb dX3_readSum_59 rfl (lv_at hl 0 rfl) ?_
    refine lv_iload_n hx hb dX3_readSum_60 rfl (lv_at hl 1 rfl) ?_
    obtain ⟨r3, C4, hq2, h⟩ := bp_x h
    refine rc_i hS (run_V hC wX3_readProduct k404 (e_32 G _) rfl hP hS (As := [.int y1]) (rest := []) (mX3_readProduct l G Rm hz hq2) rfl hl.1 (Nat.le_of_ble_eq_true rfl) (rm_le (by omega) (by omega)) ⟨Nat.le_refl _, Nat.le_refl _⟩ rfl dX3_readSum_61) (fun H locs pb5 hP hS => ?_)
    refine lv_if_ne (tgt := 69) hx hb dX3_readSum_64 (by decide) (fun c6 => ?_) (fun c6 => ?_)
    · replace h := it_f c6 h
      refine lv_aload_n hx hb dX3_readSum_69 rfl (lv_at hl 0 rfl) ?_
      refine lv_iload_n hx hb dX3_readSum_70 rfl (lv_at hl 3 rfl) ?_
      obtain ⟨C8, hq7, h⟩ := bn_x h
      refine rc_v hS (run_V hC wX3_write k421 (e_32 G _) rfl hP hS (As := [.int y3]) (rest := []) (mX3_write l G Rm hq7) rfl hl.1 (Nat.le_of_ble_eq_true rfl) (rm_le (by omega) (by omega)) ⟨Nat.le_refl _, Nat.le_refl _⟩ rfl dX3_readSum_71) (fun H locs hP hS => ?_)
      obtain ⟨x9, ex9⟩ : ∃ y : Int32, y = y2 + 1 := ⟨_, rfl⟩
      replace h := lt_y ex9 h
      refine lv_iinc (v := x9) (lv' := [(2, .int x9), (0, .ref (gA G 32)), (1, .int y1), (3, .int y3)]) hx hb dX3_readSum_74 hl (k := 2) rfl (by rw [ex9]; rfl) (by decide) rfl (fun ls hl => ?_)
      refine lv_goto (tgt := 12) hx hb dX3_readSum_77 (by decide) ?_
      exact hk12 y1 x9 C8 _ _ _ h (lv_sub hl [1, 2, 0] rfl) hP hS
    · replace h := it_t c6 h
      refine lv_iconst (v := 0) hx hb dX3_readSum_67 (by decide) ?_
      exact re_z' hC hr hP hS PZ0 (pr_1 h) (congrArg (fun Z : Mm => (Z, Rm)) (pr_2 h)) dX3_readSum_68
  have bl12 : ∀ (fu : Nat), ∀ (y1 : Int32) (y2 : Int32) (C : Mm) (H : Heap) (locs : List Loc) (ls : Array Slot), fX3_readSum_h12 n z fu y1 y2 C = some (r0, C0) → lv_has ls 4 [(0, .ref (gA G 32)), (1, .int y1), (2, .int y2)] → va_P (gD G) vwCl (wld G (C, Rm)) H → va_S (lwA G) s.heap H locs → W p l e (rmv (fr + 4) (lo + 88)) s m args below meth c H locs 0 0 (MQ below (Qi G PZ r0 (C0, Rm)) args s 0 0 (lwA G)) (F0 m 12 ls []) := by
    intro fu
    induction fu with
    | zero =>
      intro y1 y2 C H locs ls h hl hP hS
      rw [fX3_readSum_h12.eq_1] at h
      cases h
    | succ fu ih =>
      intro y1 y2 C H locs ls h hl hP hS
      rw [fX3_readSum_h12.eq_2] at h
      refine lv_iload_n hx hb dX3_readSum_12 rfl (lv_at hl 2 rfl) ?_
      refine lv_aload_n hx hb dX3_readSum_13 rfl (lv_at hl 0 rfl) ?_
      refine r_get (v := .ref (gA G 103)) hC inX3 hP (e_32 G _) rfl 6 (by decide) rfl k71 rfl dX3_readSum_14 ?_
      refine rc_i hS (run_V hC wX9_length k383 (e_103 G _) rfl hP hS (As := []) (rest := [.int y2]) (mX9t_length l G Rm rfl) rfl hl.1 (Nat.le_of_ble_eq_true rfl) (rm_le (by omega) (by omega)) ⟨Nat.le_refl _, Nat.le_refl _⟩ rfl dX3_readSum_17) (fun H locs pb11 hP hS => ?_)
      refine lv_icmp_ge (tgt := 80) hx hb dX3_readSum_20 (by decide) (fun c12 => ?_) (fun c12 => ?_)
      · replace h := it_t c12 h
        refine lv_iconst (v := 1) hx hb dX3_readSum_80 (by decide) ?_
        exact re_z' hC hr hP hS PZ1 (pr_1 h) (congrArg (fun Z : Mm => (Z, Rm)) (pr_2 h)) dX3_readSum_81
      · replace h := it_f c12 h
        refine lv_aload_n hx hb dX3_readSum_23 rfl (lv_at hl 0 rfl) ?_
        refine r_get (v := .ref (gA G 103)) hC inX3 hP (e_32 G _) rfl 6 (by decide) rfl k71 rfl dX3_readSum_24 ?_
        refine lv_aload_n hx hb dX3_readSum_27 rfl (lv_at hl 0 rfl) ?_
        refine r_get (v := .int (C.1 32 7)) hC inX3 hP (e_32 G _) rfl 7 (by decide) rfl k72 rfl dX3_readSum_28 ?_
        obtain ⟨r14, hq13, h⟩ := bn_x h
        refine rc_i hS (run_V hC wX9_at k412 (e_103 G _) rfl hP hS (As := [.int (C.1 32 7)]) (rest := []) (mX9t_at l G Rm hq13) rfl hl.1 (Nat.le_of_ble_eq_true rfl) (rm_le (by omega) (by omega)) ⟨Nat.le_refl _, Nat.le_refl _⟩ rfl dX3_readSum_31) (fun H locs pb15 hP hS => ?_)
        refine lv_istore_n (lv' := [(3, .int r14), (0, .ref (gA G 32)), (1, .int y1), (2, .int y2)]) hx hb dX3_readSum_34 rfl hl (by decide) rfl (fun ls hl => ?_)
        refine lv_iload_n hx hb dX3_readSum_35 rfl (lv_at hl 0 rfl) ?_
        refine lv_bipush (v := 43) hx hb dX3_readSum_36 (by decide) ?_
        refine lv_icmp_eq (tgt := 49) hx hb dX3_readSum_38 (by decide) (fun c16 => ?_) (fun c16 => ?_)
        · replace h := it_t c16 h
          exact bl49 (fX3_readSum_h12 n z fu) ih y1 y2 r14 C _ _ _ h (lv_sub hl [1, 2, 3, 0] rfl) hP hS
        · replace h := it_f c16 h
          refine lv_iload_n hx hb dX3_readSum_41 rfl (lv_at hl 0 rfl) ?_
          refine lv_bipush (v := 45) hx hb dX3_readSum_42 (by decide) ?_
          refine lv_icmp_eq (tgt := 49) hx hb dX3_readSum_44 (by decide) (fun c17 => ?_) (fun c17 => ?_)
          · replace h := it_t c17 h
            exact bl49 (fX3_readSum_h12 n z fu) ih y1 y2 r14 C _ _ _ h (lv_sub hl [1, 2, 3, 0] rfl) hP hS
          · replace h := it_f c17 h
            refine lv_iconst (v := 1) hx hb dX3_readSum_47 (by decide) ?_
            exact re_z' hC hr hP hS PZ1 (pr_1 h) (congrArg (fun Z : Mm => (Z, Rm)) (pr_2 h)) dX3_readSum_48
  unfold fX3_readSum at h
  refine lv_aload_n hx hb dX3_readSum_0 rfl (lv_at hl 0 rfl) ?_
  refine lv_iload_n hx hb dX3_readSum_1 rfl (lv_at hl 1 rfl) ?_
  obtain ⟨r19, C20, hq18, h⟩ := bp_x h
  refine rc_i hS (run_V hC wX3_readProduct k404 (e_32 G _) rfl hP hS (As := [.int p1]) (rest := []) (mX3_readProduct l G Rm hz hq18) rfl hl.1 (Nat.le_of_ble_eq_true rfl) (rm_le (by omega) (by omega)) ⟨Nat.le_refl _, Nat.le_refl _⟩ rfl dX3_readSum_2) (fun H locs pb21 hP hS => ?_)
  refine lv_if_ne (tgt := 10) hx hb dX3_readSum_5 (by decide) (fun c22 => ?_) (fun c22 => ?_)
  · replace h := it_f c22 h
    refine lv_iconst (v := 0) hx hb dX3_readSum_10 (by decide) ?_
    refine lv_istore_n (lv' := [(2, .int 0), (0, .ref (gA G 32)), (1, .int p1)]) hx hb dX3_readSum_11 rfl hl (by decide) rfl (fun ls hl => ?_)
    exact bl12 n p1 0 C20 _ _ _ h (lv_sub hl [1, 2, 0] rfl) hP hS
  · replace h := it_t c22 h
    refine lv_iconst (v := 0) hx hb dX3_readSum_8 (by decide) ?_
    exact re_z' hC hr hP hS PZ0 (pr_1 h) (congrArg (fun Z : Mm => (Z, Rm)) (pr_2 h)) dX3_readSum_9
set_option maxHeartbeats 4000000 in
set_option maxRecDepth 100000 in
theorem mX3_readCompared (l : Launch) (G : gp) (Rm : Mm) {n : Nat} {z : Int32 → Mm → Option (Int32 × Mm)} {fr lo : Nat} (hz : ∀ (Rm : Mm) {p1 : Int32} {C : Mm} {r0 : Int32} {C0 : Mm} (_ : z p1 C = some (r0, C0)), Met l yX3_readOpened (wsy yX3_readOpened cX3_readOpened 3 (some .boolean)) (rmv fr lo) (va_Pc [.ref (gA G 32), .int p1] (Rl G (C, Rm))) (Qi G PZ r0 (C0, Rm)) 0 0 (lwA G)) {p1 : Int32} {C : Mm} {r0 : Int32} {C0 : Mm} (h : fX3_readCompared n z p1 C = some (r0, C0)) : Met l yX3_readCompared (wsy yX3_readCompared cX3_readCompared 3 (some .boolean)) (rmv (fr + 5) (lo + 111)) (va_Pc [.ref (gA G 32), .int p1] (Rl G (C, Rm))) (Qi G PZ r0 (C0, Rm)) 0 0 (lwA G) := by
  refine met_i [.ref (gA G 32), .int p1] wX3_readCompared.2.2.2.2.2 (Nat.le_of_ble_eq_true rfl) ?_
  intro p e s m args below meth c ls hC hr hP hl
  have hC : Cx G p s m args meth c cX3_readCompared RX3 3 := hC
  have hx := hC.1
  have hb := hC.2.1
  have hown := hC.2.2.2.1
  have hts := hC.2.2.2.2.1
  have hS : va_S (lwA G) s.heap s.heap [] := va_S.rf
  have hl : lv_has ls 3 [(0, .ref (gA G 32)), (1, .int p1)] := hl
  have bl42 : ∀ (y1 : Int32) (y2 : Int32) (C : Mm) (H : Heap) (locs : List Loc) (ls : Array Slot), fX3_readCompared_b42 n z y1 y2 C = some (r0, C0) → lv_has ls 3 [(0, .ref (gA G 32)), (1, .int y1), (2, .int y2)] → va_P (gD G) vwCl (wld G (C, Rm)) H → va_S (lwA G) s.heap H locs → W p l e (rmv (fr + 5) (lo + 111)) s m args below meth c H locs 0 0 (MQ below (Qi G PZ r0 (C0, Rm)) args s 0 0 (lwA G)) (F0 m 42 ls []) := by
    intro y1 y2 C H locs ls h hl hP hS
    unfold fX3_readCompared_b42 at h
    refine lv_aload_n hx hb dX3_readCompared_42 rfl (lv_at hl 0 rfl) ?_
    refine lv_dup hx hb dX3_readCompared_43 rfl ?_
    refine r_get (v := .int (C.1 32 7)) hC inX3 hP (e_32 G _) rfl 7 (by decide) rfl k72 rfl dX3_readCompared_44 ?_
    refine lv_iconst (v := 1) hx hb dX3_readCompared_47 (by decide) ?_
    refine lv_iadd hx hb dX3_readCompared_48 ?_
    obtain ⟨C1, eC1⟩ : ∃ Z : Mm, Z = wrI C 32 7 ((C.1 32 7) + 1) := ⟨_, rfl⟩
    replace h := lt_y eC1 h
    refine r_put (X' := (C1, Rm)) hC inX3 tyX3 tyX3_ok nmX3 hP hS (e_32 G _) rfl 7 (by decide) rfl k72 rfl (v := .int ((C.1 32 7) + 1)) rfl rfl (Nat.le_of_ble_eq_true rfl) (p_32_7 G _ _ eC1) dX3_readCompared_49 (fun H locs hP hS => ?_)
    refine lv_aload_n hx hb dX3_readCompared_52 rfl (lv_at hl 0 rfl) ?_
    refine lv_iload_n hx hb dX3_readCompared_53 rfl (lv_at hl 1 rfl) ?_
    obtain ⟨r3, C4, hq2, h⟩ := bp_x h
    refine rc_i hS (run_V hC wX3_readSum k400 (e_32 G _) rfl hP hS (As := [.int y1]) (rest := []) (mX3_readSum l G Rm hz hq2) rfl hl.1 (Nat.le_of_ble_eq_true rfl) (rm_le (by omega) (by omega)) ⟨Nat.le_refl _, Nat.le_refl _⟩ rfl dX3_readCompared_54) (fun H locs pb5 hP hS => ?_)
    refine lv_if_ne (tgt := 62) hx hb dX3_readCompared_57 (by decide) (fun c6 => ?_) (fun c6 => ?_)
    · replace h := it_f c6 h
      refine lv_aload_n hx hb dX3_readCompared_62 rfl (lv_at hl 0 rfl) ?_
      refine lv_iload_n hx hb dX3_readCompared_63 rfl (lv_at hl 2 rfl) ?_
      obtain ⟨C8, hq7, h⟩ := bn_x h
      refine rc_v hS (run_V hC wX3_write k421 (e_32 G _) rfl hP hS (As := [.int y2]) (rest := []) (mX3_write l G Rm hq7) rfl hl.1 (Nat.le_of_ble_eq_true rfl) (rm_le (by omega) (by omega)) ⟨Nat.le_refl _, Nat.le_refl _⟩ rfl dX3_readCompared_64) (fun H locs hP hS => ?_)
      refine lv_iconst (v := 1) hx hb dX3_readCompared_67 (by decide) ?_
      exact re_z' hC hr hP hS PZ1 (pr_1 h) (congrArg (fun Z : Mm => (Z, Rm)) (pr_2 h)) dX3_readCompared_68
    · replace h := it_t c6 h
      refine lv_iconst (v := 0) hx hb dX3_readCompared_60 (by decide) ?_
      exact re_z' hC hr hP hS PZ0 (pr_1 h) (congrArg (fun Z : Mm => (Z, Rm)) (pr_2 h)) dX3_readCompared_61
  unfold fX3_readCompared at h
  refine lv_aload_n hx hb dX3_readCompared_0 rfl (lv_at hl 0 rfl) ?_
  refine lv_iload_n hx hb dX3_readCompared_1 rfl (lv_at hl 1 rfl) ?_
  obtain ⟨r10, C11, hq9, h⟩ := bp_x h
  refine rc_i hS (run_V hC wX3_readSum k400 (e_32 G _) rfl hP hS (As := [.int p1]) (rest := []) (mX3_readSum l G Rm hz hq9) rfl hl.1 (Nat.le_of_ble_eq_true rfl) (rm_le (by omega) (by omega)) ⟨Nat.le_refl _, Nat.le_refl _⟩ rfl dX3_readCompared_2) (fun H locs pb12 hP hS => ?_)
  refine lv_if_ne (tgt := 10) hx hb dX3_readCompared_5 (by decide) (fun c13 => ?_) (fun c13 => ?_)
  · replace h := it_f c13 h
    refine lv_aload_n hx hb dX3_readCompared_10 rfl (lv_at hl 0 rfl) ?_
    refine r_get (v := .ref (gA G 103)) hC inX3 hP (e_32 G _) rfl 6 (by decide) rfl k71 rfl dX3_readCompared_11 ?_
    refine lv_aload_n hx hb dX3_readCompared_14 rfl (lv_at hl 0 rfl) ?_
    refine r_get (v := .int (C11.1 32 7)) hC inX3 hP (e_32 G _) rfl 7 (by decide) rfl k72 rfl dX3_readCompared_15 ?_
    obtain ⟨r15, hq14, h⟩ := bn_x h
    refine rc_i hS (run_V hC wX9_at k412 (e_103 G _) rfl hP hS (As := [.int (C11.1 32 7)]) (rest := []) (mX9t_at l G Rm hq14) rfl hl.1 (Nat.le_of_ble_eq_true rfl) (rm_le (by omega) (by omega)) ⟨Nat.le_refl _, Nat.le_refl _⟩ rfl dX3_readCompared_18) (fun H locs pb16 hP hS => ?_)
    refine lv_istore_n (lv' := [(2, .int r15), (0, .ref (gA G 32)), (1, .int p1)]) hx hb dX3_readCompared_21 rfl hl (by decide) rfl (fun ls hl => ?_)
    refine lv_iload_n hx hb dX3_readCompared_22 rfl (lv_at hl 0 rfl) ?_
    refine lv_bipush (v := 60) hx hb dX3_readCompared_23 (by decide) ?_
    refine lv_icmp_eq (tgt := 42) hx hb dX3_readCompared_25 (by decide) (fun c17 => ?_) (fun c17 => ?_)
    · replace h := it_t c17 h
      exact bl42 p1 r15 C11 _ _ _ h (lv_sub hl [1, 2, 0] rfl) hP hS
    · replace h := it_f c17 h
      refine lv_iload_n hx hb dX3_readCompared_28 rfl (lv_at hl 0 rfl) ?_
      refine lv_bipush (v := 61) hx hb dX3_readCompared_29 (by decide) ?_
      refine lv_icmp_eq (tgt := 42) hx hb dX3_readCompared_31 (by decide) (fun c18 => ?_) (fun c18 => ?_)
      · replace h := it_t c18 h
        exact bl42 p1 r15 C11 _ _ _ h (lv_sub hl [1, 2, 0] rfl) hP hS
      · replace h := it_f c18 h
        refine lv_iload_n hx hb dX3_readCompared_34 rfl (lv_at hl 0 rfl) ?_
        refine lv_bipush (v := 62) hx hb dX3_readCompared_35 (by decide) ?_
        refine lv_icmp_eq (tgt := 42) hx hb dX3_readCompared_37 (by decide) (fun c19 => ?_) (fun c19 => ?_)
        · replace h := it_t c19 h
          exact bl42 p1 r15 C11 _ _ _ h (lv_sub hl [1, 2, 0] rfl) hP hS
        · replace h := it_f c19 h
          refine lv_iconst (v := 1) hx hb dX3_readCompared_40 (by decide) ?_
          exact re_z' hC hr hP hS PZ1 (pr_1 h) (congrArg (fun Z : Mm => (Z, Rm)) (pr_2 h)) dX3_readCompared_41
  · replace h := it_t c13 h
    refine lv_iconst (v := 0) hx hb dX3_readCompared_8 (by decide) ?_
    exact re_z' hC hr hP hS PZ0 (pr_1 h) (congrArg (fun Z : Mm => (Z, Rm)) (pr_2 h)) dX3_readCompared_9
set_option maxHeartbeats 4000000 in
set_option maxRecDepth 100000 in
theorem mX3_goesOnWith (l : Launch) (G : gp) (Rm : Mm) {p1 : Int32} {C : Mm} {r0 : Int32} {C0 : Mm} (h : fX3_goesOnWith p1 C = some (r0, C0)) : Met l yX3_goesOnWith (wsy yX3_goesOnWith cX3_goesOnWith 2 (some .boolean)) (rmv 1 21) (va_Pc [.ref (gA G 32), .int p1] (Rl G (C, Rm))) (Qi G PZ r0 (C0, Rm)) 0 0 (lwA G) := by
  refine met_i [.ref (gA G 32), .int p1] wX3_goesOnWith.2.2.2.2.2 (Nat.le_of_ble_eq_true rfl) ?_
  intro p e s m args below meth c ls hC hr hP hl
  have hC : Cx G p s m args meth c cX3_goesOnWith RX3 2 := hC
  have hx := hC.1
  have hb := hC.2.1
  have hown := hC.2.2.2.1
  have hts := hC.2.2.2.2.1
  have hS : va_S (lwA G) s.heap s.heap [] := va_S.rf
  have hl : lv_has ls 2 [(0, .ref (gA G 32)), (1, .int p1)] := hl
  unfold fX3_goesOnWith at h
  refine lv_aload_n hx hb dX3_goesOnWith_0 rfl (lv_at hl 0 rfl) ?_
  refine r_get (v := .ref (gA G 103)) hC inX3 hP (e_32 G _) rfl 6 (by decide) rfl k71 rfl dX3_goesOnWith_1 ?_
  refine lv_aload_n hx hb dX3_goesOnWith_4 rfl (lv_at hl 0 rfl) ?_
  refine r_get (v := .int (C.1 32 7)) hC inX3 hP (e_32 G _) rfl 7 (by decide) rfl k72 rfl dX3_goesOnWith_5 ?_
  obtain ⟨r2, hq1, h⟩ := bn_x h
  refine rc_i hS (run_V hC wX9_at k412 (e_103 G _) rfl hP hS (As := [.int (C.1 32 7)]) (rest := []) (mX9t_at l G Rm hq1) rfl hl.1 (Nat.le_of_ble_eq_true rfl) ⟨by decide, by decide⟩ ⟨Nat.le_refl _, Nat.le_refl _⟩ rfl dX3_goesOnWith_8) (fun H locs pb3 hP hS => ?_)
  refine lv_iload_n hx hb dX3_goesOnWith_11 rfl (lv_at hl 1 rfl) ?_
  refine lv_icmp_eq (tgt := 17) hx hb dX3_goesOnWith_12 (by decide) (fun c4 => ?_) (fun c4 => ?_)
  · replace h := it_t c4 h
    refine lv_aload_n hx hb dX3_goesOnWith_17 rfl (lv_at hl 0 rfl) ?_
    refine lv_dup hx hb dX3_goesOnWith_18 rfl ?_
    refine r_get (v := .int (C.1 32 7)) hC inX3 hP (e_32 G _) rfl 7 (by decide) rfl k72 rfl dX3_goesOnWith_19 ?_
    refine lv_iconst (v := 1) hx hb dX3_goesOnWith_22 (by decide) ?_
    refine lv_iadd hx hb dX3_goesOnWith_23 ?_
    obtain ⟨C5, eC5⟩ : ∃ Z : Mm, Z = wrI C 32 7 ((C.1 32 7) + 1) := ⟨_, rfl⟩
    replace h := lt_y eC5 h
    refine r_put (X' := (C5, Rm)) hC inX3 tyX3 tyX3_ok nmX3 hP hS (e_32 G _) rfl 7 (by decide) rfl k72 rfl (v := .int ((C.1 32 7) + 1)) rfl rfl (Nat.le_of_ble_eq_true rfl) (p_32_7 G _ _ eC5) dX3_goesOnWith_24 (fun H locs hP hS => ?_)
    refine lv_iconst (v := 1) hx hb dX3_goesOnWith_27 (by decide) ?_
    exact re_z' hC hr hP hS PZ1 (pr_1 h) (congrArg (fun Z : Mm => (Z, Rm)) (pr_2 h)) dX3_goesOnWith_28
  · replace h := it_f c4 h
    refine lv_iconst (v := 0) hx hb dX3_goesOnWith_15 (by decide) ?_
    exact re_z' hC hr hP hS PZ0 (pr_1 h) (congrArg (fun Z : Mm => (Z, Rm)) (pr_2 h)) dX3_goesOnWith_16
set_option maxHeartbeats 4000000 in
set_option maxRecDepth 100000 in
theorem mX3_readAll (l : Launch) (G : gp) (Rm : Mm) {n : Nat} {z : Int32 → Mm → Option (Int32 × Mm)} {fr lo : Nat} (hz : ∀ (Rm : Mm) {p1 : Int32} {C : Mm} {r0 : Int32} {C0 : Mm} (_ : z p1 C = some (r0, C0)), Met l yX3_readOpened (wsy yX3_readOpened cX3_readOpened 3 (some .boolean)) (rmv fr lo) (va_Pc [.ref (gA G 32), .int p1] (Rl G (C, Rm))) (Qi G PZ r0 (C0, Rm)) 0 0 (lwA G)) {p1 : Int32} {C : Mm} {r0 : Int32} {C0 : Mm} (h : fX3_readAll n z p1 C = some (r0, C0)) : Met l yX3_readAll (wsy yX3_readAll cX3_readAll 3 (some .boolean)) (rmv (fr + 6) (lo + 133)) (va_Pc [.ref (gA G 32), .int p1] (Rl G (C, Rm))) (Qi G PZ r0 (C0, Rm)) 0 0 (lwA G) := by
  refine met_i [.ref (gA G 32), .int p1] wX3_readAll.2.2.2.2.2 (Nat.le_of_ble_eq_true rfl) ?_
  intro p e s m args below meth c ls hC hr hP hl
  have hC : Cx G p s m args meth c cX3_readAll RX3 3 := hC
  have hx := hC.1
  have hb := hC.2.1
  have hown := hC.2.2.2.1
  have hts := hC.2.2.2.2.1
  have hS : va_S (lwA G) s.heap s.heap [] := va_S.rf
  have hl : lv_has ls 3 [(0, .ref (gA G 32)), (1, .int p1)] := hl
  have bl12 : ∀ (fu : Nat), ∀ (y1 : Int32) (y2 : Int32) (C : Mm) (H : Heap) (locs : List Loc) (ls : Array Slot), fX3_readAll_h12 n z fu y1 y2 C = some (r0, C0) → lv_has ls 3 [(0, .ref (gA G 32)), (1, .int y1), (2, .int y2)] → va_P (gD G) vwCl (wld G (C, Rm)) H → va_S (lwA G) s.heap H locs → W p l e (rmv (fr + 6) (lo + 133)) s m args below meth c H locs 0 0 (MQ below (Qi G PZ r0 (C0, Rm)) args s 0 0 (lwA G)) (F0 m 12 ls []) := by
    intro fu
    induction fu with
    | zero =>
      intro y1 y2 C H locs ls h hl hP hS
      rw [fX3_readAll_h12.eq_1] at h
      cases h
    | succ fu ih =>
      intro y1 y2 C H locs ls h hl hP hS
      rw [fX3_readAll_h12.eq_2] at h
      refine lv_iload_n hx hb dX3_readAll_12 rfl (lv_at hl 2 rfl) ?_
      refine lv_aload_n hx hb dX3_readAll_13 rfl (lv_at hl 0 rfl) ?_
      refine r_get (v := .ref (gA G 103)) hC inX3 hP (e_32 G _) rfl 6 (by decide) rfl k71 rfl dX3_readAll_14 ?_
      refine rc_i hS (run_V hC wX9_length k383 (e_103 G _) rfl hP hS (As := []) (rest := [.int y2]) (mX9t_length l G Rm rfl) rfl hl.1 (Nat.le_of_ble_eq_true rfl) (rm_le (by omega) (by omega)) ⟨Nat.le_refl _, Nat.le_refl _⟩ rfl dX3_readAll_17) (fun H locs pb2 hP hS => ?_)
      refine lv_icmp_ge (tgt := 54) hx hb dX3_readAll_20 (by decide) (fun c3 => ?_) (fun c3 => ?_)
      · replace h := it_t c3 h
        refine lv_iconst (v := 1) hx hb dX3_readAll_54 (by decide) ?_
        exact re_z' hC hr hP hS PZ1 (pr_1 h) (congrArg (fun Z : Mm => (Z, Rm)) (pr_2 h)) dX3_readAll_55
      · replace h := it_f c3 h
        refine lv_aload_n hx hb dX3_readAll_23 rfl (lv_at hl 0 rfl) ?_
        refine lv_bipush (v := 38) hx hb dX3_readAll_24 (by decide) ?_
        obtain ⟨r5, C6, hq4, h⟩ := bp_x h
        refine rc_i hS (run_V hC wX3_goesOnWith k417 (e_32 G _) rfl hP hS (As := [.int 38]) (rest := []) (mX3_goesOnWith l G Rm hq4) rfl hl.1 (Nat.le_of_ble_eq_true rfl) (rm_le (by omega) (by omega)) ⟨Nat.le_refl _, Nat.le_refl _⟩ rfl dX3_readAll_26) (fun H locs pb7 hP hS => ?_)
        refine lv_if_eq (tgt := 54) hx hb dX3_readAll_29 (by decide) (fun c8 => ?_) (fun c8 => ?_)
        · replace h := it_t c8 h
          refine lv_iconst (v := 1) hx hb dX3_readAll_54 (by decide) ?_
          exact re_z' hC hr hP hS PZ1 (pr_1 h) (congrArg (fun Z : Mm => (Z, Rm)) (pr_2 h)) dX3_readAll_55
        · replace h := it_f c8 h
          refine lv_aload_n hx hb dX3_readAll_32 rfl (lv_at hl 0 rfl) ?_
          refine lv_iload_n hx hb dX3_readAll_33 rfl (lv_at hl 1 rfl) ?_
          obtain ⟨r10, C11, hq9, h⟩ := bp_x h
          refine rc_i hS (run_V hC wX3_readCompared k396 (e_32 G _) rfl hP hS (As := [.int y1]) (rest := []) (mX3_readCompared l G Rm hz hq9) rfl hl.1 (Nat.le_of_ble_eq_true rfl) (rm_le (by omega) (by omega)) ⟨Nat.le_refl _, Nat.le_refl _⟩ rfl dX3_readAll_34) (fun H locs pb12 hP hS => ?_)
          refine lv_if_ne (tgt := 42) hx hb dX3_readAll_37 (by decide) (fun c13 => ?_) (fun c13 => ?_)
          · replace h := it_f c13 h
            refine lv_aload_n hx hb dX3_readAll_42 rfl (lv_at hl 0 rfl) ?_
            refine lv_bipush (v := 38) hx hb dX3_readAll_43 (by decide) ?_
            obtain ⟨C15, hq14, h⟩ := bn_x h
            refine rc_v hS (run_V hC wX3_write k421 (e_32 G _) rfl hP hS (As := [.int 38]) (rest := []) (mX3_write l G Rm hq14) rfl hl.1 (Nat.le_of_ble_eq_true rfl) (rm_le (by omega) (by omega)) ⟨Nat.le_refl _, Nat.le_refl _⟩ rfl dX3_readAll_45) (fun H locs hP hS => ?_)
            obtain ⟨x16, ex16⟩ : ∃ y : Int32, y = y2 + 1 := ⟨_, rfl⟩
            replace h := lt_y ex16 h
            refine lv_iinc (v := x16) (lv' := [(2, .int x16), (0, .ref (gA G 32)), (1, .int y1)]) hx hb dX3_readAll_48 hl (k := 2) rfl (by rw [ex16]; rfl) (by decide) rfl (fun ls hl => ?_)
            refine lv_goto (tgt := 12) hx hb dX3_readAll_51 (by decide) ?_
            exact ih y1 x16 C15 _ _ _ h (lv_sub hl [1, 2, 0] rfl) hP hS
          · replace h := it_t c13 h
            refine lv_iconst (v := 0) hx hb dX3_readAll_40 (by decide) ?_
            exact re_z' hC hr hP hS PZ0 (pr_1 h) (congrArg (fun Z : Mm => (Z, Rm)) (pr_2 h)) dX3_readAll_41
  unfold fX3_readAll at h
  refine lv_aload_n hx hb dX3_readAll_0 rfl (lv_at hl 0 rfl) ?_
  refine lv_iload_n hx hb dX3_readAll_1 rfl (lv_at hl 1 rfl) ?_
  obtain ⟨r18, C19, hq17, h⟩ := bp_x h
  refine rc_i hS (run_V hC wX3_readCompared k396 (e_32 G _) rfl hP hS (As := [.int p1]) (rest := []) (mX3_readCompared l G Rm hz hq17) rfl hl.1 (Nat.le_of_ble_eq_true rfl) (rm_le (by omega) (by omega)) ⟨Nat.le_refl _, Nat.le_refl _⟩ rfl dX3_readAll_2) (fun H locs pb20 hP hS => ?_)
  refine lv_if_ne (tgt := 10) hx hb dX3_readAll_5 (by decide) (fun c21 => ?_) (fun c21 => ?_)
  · replace h := it_f c21 h
    refine lv_iconst (v := 0) hx hb dX3_readAll_10 (by decide) ?_
    refine lv_istore_n (lv' := [(2, .int 0), (0, .ref (gA G 32)), (1, .int p1)]) hx hb dX3_readAll_11 rfl hl (by decide) rfl (fun ls hl => ?_)
    exact bl12 n p1 0 C19 _ _ _ h (lv_sub hl [1, 2, 0] rfl) hP hS
  · replace h := it_t c21 h
    refine lv_iconst (v := 0) hx hb dX3_readAll_8 (by decide) ?_
    exact re_z' hC hr hP hS PZ0 (pr_1 h) (congrArg (fun Z : Mm => (Z, Rm)) (pr_2 h)) dX3_readAll_9
set_option maxHeartbeats 4000000 in
set_option maxRecDepth 100000 in
theorem mX3_readAny (l : Launch) (G : gp) (Rm : Mm) {n : Nat} {z : Int32 → Mm → Option (Int32 × Mm)} {fr lo : Nat} (hz : ∀ (Rm : Mm) {p1 : Int32} {C : Mm} {r0 : Int32} {C0 : Mm} (_ : z p1 C = some (r0, C0)), Met l yX3_readOpened (wsy yX3_readOpened cX3_readOpened 3 (some .boolean)) (rmv fr lo) (va_Pc [.ref (gA G 32), .int p1] (Rl G (C, Rm))) (Qi G PZ r0 (C0, Rm)) 0 0 (lwA G)) {p1 : Int32} {C : Mm} {r0 : Int32} {C0 : Mm} (h : fX3_readAny n z p1 C = some (r0, C0)) : Met l yX3_readAny (wsy yX3_readAny cX3_readAny 3 (some .boolean)) (rmv (fr + 7) (lo + 155)) (va_Pc [.ref (gA G 32), .int p1] (Rl G (C, Rm))) (Qi G PZ r0 (C0, Rm)) 0 0 (lwA G) := by
  refine met_i [.ref (gA G 32), .int p1] wX3_readAny.2.2.2.2.2 (Nat.le_of_ble_eq_true rfl) ?_
  intro p e s m args below meth c ls hC hr hP hl
  have hC : Cx G p s m args meth c cX3_readAny RX3 3 := hC
  have hx := hC.1
  have hb := hC.2.1
  have hown := hC.2.2.2.1
  have hts := hC.2.2.2.2.1
  have hS : va_S (lwA G) s.heap s.heap [] := va_S.rf
  have hl : lv_has ls 3 [(0, .ref (gA G 32)), (1, .int p1)] := hl
  have bl12 : ∀ (fu : Nat), ∀ (y1 : Int32) (y2 : Int32) (C : Mm) (H : Heap) (locs : List Loc) (ls : Array Slot), fX3_readAny_h12 n z fu y1 y2 C = some (r0, C0) → lv_has ls 3 [(0, .ref (gA G 32)), (1, .int y1), (2, .int y2)] → va_P (gD G) vwCl (wld G (C, Rm)) H → va_S (lwA G) s.heap H locs → W p l e (rmv (fr + 7) (lo + 155)) s m args below meth c H locs 0 0 (MQ below (Qi G PZ r0 (C0, Rm)) args s 0 0 (lwA G)) (F0 m 12 ls []) := by
    intro fu
    induction fu with
    | zero =>
      intro y1 y2 C H locs ls h hl hP hS
      rw [fX3_readAny_h12.eq_1] at h
      cases h
    | succ fu ih =>
      intro y1 y2 C H locs ls h hl hP hS
      rw [fX3_readAny_h12.eq_2] at h
      refine lv_iload_n hx hb dX3_readAny_12 rfl (lv_at hl 2 rfl) ?_
      refine lv_aload_n hx hb dX3_readAny_13 rfl (lv_at hl 0 rfl) ?_
      refine r_get (v := .ref (gA G 103)) hC inX3 hP (e_32 G _) rfl 6 (by decide) rfl k71 rfl dX3_readAny_14 ?_
      refine rc_i hS (run_V hC wX9_length k383 (e_103 G _) rfl hP hS (As := []) (rest := [.int y2]) (mX9t_length l G Rm rfl) rfl hl.1 (Nat.le_of_ble_eq_true rfl) (rm_le (by omega) (by omega)) ⟨Nat.le_refl _, Nat.le_refl _⟩ rfl dX3_readAny_17) (fun H locs pb2 hP hS => ?_)
      refine lv_icmp_ge (tgt := 54) hx hb dX3_readAny_20 (by decide) (fun c3 => ?_) (fun c3 => ?_)
      · replace h := it_t c3 h
        refine lv_iconst (v := 1) hx hb dX3_readAny_54 (by decide) ?_
        exact re_z' hC hr hP hS PZ1 (pr_1 h) (congrArg (fun Z : Mm => (Z, Rm)) (pr_2 h)) dX3_readAny_55
      · replace h := it_f c3 h
        refine lv_aload_n hx hb dX3_readAny_23 rfl (lv_at hl 0 rfl) ?_
        refine lv_bipush (v := 124) hx hb dX3_readAny_24 (by decide) ?_
        obtain ⟨r5, C6, hq4, h⟩ := bp_x h
        refine rc_i hS (run_V hC wX3_goesOnWith k417 (e_32 G _) rfl hP hS (As := [.int 124]) (rest := []) (mX3_goesOnWith l G Rm hq4) rfl hl.1 (Nat.le_of_ble_eq_true rfl) (rm_le (by omega) (by omega)) ⟨Nat.le_refl _, Nat.le_refl _⟩ rfl dX3_readAny_26) (fun H locs pb7 hP hS => ?_)
        refine lv_if_eq (tgt := 54) hx hb dX3_readAny_29 (by decide) (fun c8 => ?_) (fun c8 => ?_)
        · replace h := it_t c8 h
          refine lv_iconst (v := 1) hx hb dX3_readAny_54 (by decide) ?_
          exact re_z' hC hr hP hS PZ1 (pr_1 h) (congrArg (fun Z : Mm => (Z, Rm)) (pr_2 h)) dX3_readAny_55
        · replace h := it_f c8 h
          refine lv_aload_n hx hb dX3_readAny_32 rfl (lv_at hl 0 rfl) ?_
          refine lv_iload_n hx hb dX3_readAny_33 rfl (lv_at hl 1 rfl) ?_
          obtain ⟨r10, C11, hq9, h⟩ := bp_x h
          refine rc_i hS (run_V hC wX3_readAll k392 (e_32 G _) rfl hP hS (As := [.int y1]) (rest := []) (mX3_readAll l G Rm hz hq9) rfl hl.1 (Nat.le_of_ble_eq_true rfl) (rm_le (by omega) (by omega)) ⟨Nat.le_refl _, Nat.le_refl _⟩ rfl dX3_readAny_34) (fun H locs pb12 hP hS => ?_)
          refine lv_if_ne (tgt := 42) hx hb dX3_readAny_37 (by decide) (fun c13 => ?_) (fun c13 => ?_)
          · replace h := it_f c13 h
            refine lv_aload_n hx hb dX3_readAny_42 rfl (lv_at hl 0 rfl) ?_
            refine lv_bipush (v := 124) hx hb dX3_readAny_43 (by decide) ?_
            obtain ⟨C15, hq14, h⟩ := bn_x h
            refine rc_v hS (run_V hC wX3_write k421 (e_32 G _) rfl hP hS (As := [.int 124]) (rest := []) (mX3_write l G Rm hq14) rfl hl.1 (Nat.le_of_ble_eq_true rfl) (rm_le (by omega) (by omega)) ⟨Nat.le_refl _, Nat.le_refl _⟩ rfl dX3_readAny_45) (fun H locs hP hS => ?_)
            obtain ⟨x16, ex16⟩ : ∃ y : Int32, y = y2 + 1 := ⟨_, rfl⟩
            replace h := lt_y ex16 h
            refine lv_iinc (v := x16) (lv' := [(2, .int x16), (0, .ref (gA G 32)), (1, .int y1)]) hx hb dX3_readAny_48 hl (k := 2) rfl (by rw [ex16]; rfl) (by decide) rfl (fun ls hl => ?_)
            refine lv_goto (tgt := 12) hx hb dX3_readAny_51 (by decide) ?_
            exact ih y1 x16 C15 _ _ _ h (lv_sub hl [1, 2, 0] rfl) hP hS
          · replace h := it_t c13 h
            refine lv_iconst (v := 0) hx hb dX3_readAny_40 (by decide) ?_
            exact re_z' hC hr hP hS PZ0 (pr_1 h) (congrArg (fun Z : Mm => (Z, Rm)) (pr_2 h)) dX3_readAny_41
  unfold fX3_readAny at h
  refine lv_aload_n hx hb dX3_readAny_0 rfl (lv_at hl 0 rfl) ?_
  refine lv_iload_n hx hb dX3_readAny_1 rfl (lv_at hl 1 rfl) ?_
  obtain ⟨r18, C19, hq17, h⟩ := bp_x h
  refine rc_i hS (run_V hC wX3_readAll k392 (e_32 G _) rfl hP hS (As := [.int p1]) (rest := []) (mX3_readAll l G Rm hz hq17) rfl hl.1 (Nat.le_of_ble_eq_true rfl) (rm_le (by omega) (by omega)) ⟨Nat.le_refl _, Nat.le_refl _⟩ rfl dX3_readAny_2) (fun H locs pb20 hP hS => ?_)
  refine lv_if_ne (tgt := 10) hx hb dX3_readAny_5 (by decide) (fun c21 => ?_) (fun c21 => ?_)
  · replace h := it_f c21 h
    refine lv_iconst (v := 0) hx hb dX3_readAny_10 (by decide) ?_
    refine lv_istore_n (lv' := [(2, .int 0), (0, .ref (gA G 32)), (1, .int p1)]) hx hb dX3_readAny_11 rfl hl (by decide) rfl (fun ls hl => ?_)
    exact bl12 n p1 0 C19 _ _ _ h (lv_sub hl [1, 2, 0] rfl) hP hS
  · replace h := it_t c21 h
    refine lv_iconst (v := 0) hx hb dX3_readAny_8 (by decide) ?_
    exact re_z' hC hr hP hS PZ0 (pr_1 h) (congrArg (fun Z : Mm => (Z, Rm)) (pr_2 h)) dX3_readAny_9
set_option maxHeartbeats 4000000 in
set_option maxRecDepth 100000 in
theorem mX3_readOpened_w (l : Launch) (G : gp) {n : Nat} {z : Int32 → Mm → Option (Int32 × Mm)} (d : Nat) (hz : ∀ (Rm : Mm) {p1 : Int32} {C : Mm} {r0 : Int32} {C0 : Mm} (_ : z p1 C = some (r0, C0)), Met l yX3_readOpened (wsy yX3_readOpened cX3_readOpened 3 (some .boolean)) (rmv (8 * d + 2) (177 * d + 42)) (va_Pc [.ref (gA G 32), .int p1] (Rl G (C, Rm))) (Qi G PZ r0 (C0, Rm)) 0 0 (lwA G)) (Rm : Mm) {p1 : Int32} {C : Mm} {r0 : Int32} {C0 : Mm} (h : fX3_readOpened_w n z p1 C = some (r0, C0)) : Met l yX3_readOpened (wsy yX3_readOpened cX3_readOpened 3 (some .boolean)) (rmv (8 * d + 10) (177 * d + 219)) (va_Pc [.ref (gA G 32), .int p1] (Rl G (C, Rm))) (Qi G PZ r0 (C0, Rm)) 0 0 (lwA G) := by
  refine met_i [.ref (gA G 32), .int p1] wX3_readOpened.2.2.2.2.2 (Nat.le_of_ble_eq_true rfl) ?_
  intro p e s m args below meth c ls hC hr hP hl
  have hC : Cx G p s m args meth c cX3_readOpened RX3 3 := hC
  have hx := hC.1
  have hb := hC.2.1
  have hown := hC.2.2.2.1
  have hts := hC.2.2.2.2.1
  have hS : va_S (lwA G) s.heap s.heap [] := va_S.rf
  have hl : lv_has ls 3 [(0, .ref (gA G 32)), (1, .int p1)] := hl
  have bl74 : ∀ (s0 : Int32) (C : Mm) (H : Heap) (locs : List Loc) (ls : Array Slot), fX3_readOpened_b74 n z s0 C = some (r0, C0) → lv_has ls 3 [] → va_P (gD G) vwCl (wld G (C, Rm)) H → va_S (lwA G) s.heap H locs → W p l e (rmv (8 * d + 10) (177 * d + 219)) s m args below meth c H locs 0 0 (MQ below (Qi G PZ r0 (C0, Rm)) args s 0 0 (lwA G)) (F0 m 74 ls [.int s0, .ref (gA G 32)]) := by
    intro s0 C H locs ls h hl hP hS
    unfold fX3_readOpened_b74 at h
    obtain ⟨C2, hq1, h⟩ := bn_x h
    refine rc_v hS (run_V hC wX3_write k421 (e_32 G _) rfl hP hS (As := [.int s0]) (rest := []) (mX3_write l G Rm hq1) rfl hl.1 (Nat.le_of_ble_eq_true rfl) (rm_le (by omega) (by omega)) ⟨Nat.le_refl _, Nat.le_refl _⟩ rfl dX3_readOpened_74) (fun H locs hP hS => ?_)
    refine lv_iconst (v := 1) hx hb dX3_readOpened_77 (by decide) ?_
    exact re_z' hC hr hP hS PZ1 (pr_1 h) (congrArg (fun Z : Mm => (Z, Rm)) (pr_2 h)) dX3_readOpened_78
  unfold fX3_readOpened_w at h
  refine lv_aload_n hx hb dX3_readOpened_0 rfl (lv_at hl 0 rfl) ?_
  refine r_get (v := .ref (gA G 103)) hC inX3 hP (e_32 G _) rfl 6 (by decide) rfl k71 rfl dX3_readOpened_1 ?_
  refine lv_aload_n hx hb dX3_readOpened_4 rfl (lv_at hl 0 rfl) ?_
  refine r_get (v := .int (C.1 32 7)) hC inX3 hP (e_32 G _) rfl 7 (by decide) rfl k72 rfl dX3_readOpened_5 ?_
  obtain ⟨r4, hq3, h⟩ := bn_x h
  refine rc_i hS (run_V hC wX9_at k412 (e_103 G _) rfl hP hS (As := [.int (C.1 32 7)]) (rest := []) (mX9t_at l G Rm hq3) rfl hl.1 (Nat.le_of_ble_eq_true rfl) (rm_le (by omega) (by omega)) ⟨Nat.le_refl _, Nat.le_refl _⟩ rfl dX3_readOpened_8) (fun H locs pb5 hP hS => ?_)
  refine lv_istore_n (lv' := [(2, .int r4), (0, .ref (gA G 32)), (1, .int p1)]) hx hb dX3_readOpened_11 rfl hl (by decide) rfl (fun ls hl => ?_)
  refine lv_aload_n hx hb dX3_readOpened_12 rfl (lv_at hl 1 rfl) ?_
  refine lv_dup hx hb dX3_readOpened_13 rfl ?_
  refine r_get (v := .int (C.1 32 7)) hC inX3 hP (e_32 G _) rfl 7 (by decide) rfl k72 rfl dX3_readOpened_14 ?_
  refine lv_iconst (v := 1) hx hb dX3_readOpened_17 (by decide) ?_
  refine lv_iadd hx hb dX3_readOpened_18 ?_
  obtain ⟨C6, eC6⟩ : ∃ Z : Mm, Z = wrI C 32 7 ((C.1 32 7) + 1) := ⟨_, rfl⟩
  replace h := lt_y eC6 h
  refine r_put (X' := (C6, Rm)) hC inX3 tyX3 tyX3_ok nmX3 hP hS (e_32 G _) rfl 7 (by decide) rfl k72 rfl (v := .int ((C.1 32 7) + 1)) rfl rfl (Nat.le_of_ble_eq_true rfl) (p_32_7 G _ _ eC6) dX3_readOpened_19 (fun H locs hP hS => ?_)
  refine lv_iload_n hx hb dX3_readOpened_22 rfl (lv_at hl 0 rfl) ?_
  refine lv_bipush (v := 40) hx hb dX3_readOpened_23 (by decide) ?_
  refine lv_icmp_ne (tgt := 51) hx hb dX3_readOpened_25 (by decide) (fun c7 => ?_) (fun c7 => ?_)
  · replace h := it_f c7 h
    refine lv_aload_n hx hb dX3_readOpened_51 rfl (lv_at hl 1 rfl) ?_
    refine lv_iload_n hx hb dX3_readOpened_52 rfl (lv_at hl 2 rfl) ?_
    obtain ⟨r9, C10, hq8, h⟩ := bp_x h
    refine rc_i hS (run_V hC wX3_readOperand k408 (e_32 G _) rfl hP hS (As := [.int p1]) (rest := []) (mX3_readOperand l G Rm hz hq8) rfl hl.1 (Nat.le_of_ble_eq_true rfl) (rm_le (by omega) (by omega)) ⟨Nat.le_refl _, Nat.le_refl _⟩ rfl dX3_readOpened_53) (fun H locs pb11 hP hS => ?_)
    refine lv_if_ne (tgt := 61) hx hb dX3_readOpened_56 (by decide) (fun c12 => ?_) (fun c12 => ?_)
    · replace h := it_f c12 h
      refine lv_aload_n hx hb dX3_readOpened_61 rfl (lv_at hl 1 rfl) ?_
      refine lv_iload_n hx hb dX3_readOpened_62 rfl (lv_at hl 0 rfl) ?_
      refine lv_bipush (v := 45) hx hb dX3_readOpened_63 (by decide) ?_
      refine lv_icmp_ne (tgt := 73) hx hb dX3_readOpened_65 (by decide) (fun c13 => ?_) (fun c13 => ?_)
      · replace h := it_f c13 h
        refine lv_iload_n hx hb dX3_readOpened_73 rfl (lv_at hl 0 rfl) ?_
        exact bl74 r4 C10 _ _ _ h (lv_sub hl [] rfl) hP hS
      · replace h := it_t c13 h
        refine lv_bipush (v := 126) hx hb dX3_readOpened_68 (by decide) ?_
        refine lv_goto (tgt := 74) hx hb dX3_readOpened_70 (by decide) ?_
        exact bl74 126 C10 _ _ _ h (lv_sub hl [] rfl) hP hS
    · replace h := it_t c12 h
      refine lv_iconst (v := 0) hx hb dX3_readOpened_59 (by decide) ?_
      exact re_z' hC hr hP hS PZ0 (pr_1 h) (congrArg (fun Z : Mm => (Z, Rm)) (pr_2 h)) dX3_readOpened_60
  · replace h := it_t c7 h
    refine lv_aload_n hx hb dX3_readOpened_28 rfl (lv_at hl 1 rfl) ?_
    refine lv_iload_n hx hb dX3_readOpened_29 rfl (lv_at hl 2 rfl) ?_
    obtain ⟨r15, C16, hq14, h⟩ := bp_x h
    refine rc_i hS (run_V hC wX3_readAny k388 (e_32 G _) rfl hP hS (As := [.int p1]) (rest := []) (mX3_readAny l G Rm hz hq14) rfl hl.1 (Nat.le_of_ble_eq_true rfl) (rm_le (by omega) (by omega)) ⟨Nat.le_refl _, Nat.le_refl _⟩ rfl dX3_readOpened_30) (fun H locs pb17 hP hS => ?_)
    refine lv_if_eq (tgt := 49) hx hb dX3_readOpened_33 (by decide) (fun c18 => ?_) (fun c18 => ?_)
    · replace h := it_t c18 h
      refine lv_iconst (v := 0) hx hb dX3_readOpened_49 (by decide) ?_
      exact re_z' hC hr hP hS PZ0 (pr_1 h) (congrArg (fun Z : Mm => (Z, Rm)) (pr_2 h)) dX3_readOpened_50
    · replace h := it_f c18 h
      refine lv_aload_n hx hb dX3_readOpened_36 rfl (lv_at hl 1 rfl) ?_
      refine lv_bipush (v := 41) hx hb dX3_readOpened_37 (by decide) ?_
      obtain ⟨r20, C21, hq19, h⟩ := bp_x h
      refine rc_i hS (run_V hC wX3_goesOnWith k417 (e_32 G _) rfl hP hS (As := [.int 41]) (rest := []) (mX3_goesOnWith l G Rm hq19) rfl hl.1 (Nat.le_of_ble_eq_true rfl) (rm_le (by omega) (by omega)) ⟨Nat.le_refl _, Nat.le_refl _⟩ rfl dX3_readOpened_39) (fun H locs pb22 hP hS => ?_)
      refine lv_if_eq (tgt := 49) hx hb dX3_readOpened_42 (by decide) (fun c23 => ?_) (fun c23 => ?_)
      · replace h := it_t c23 h
        refine lv_iconst (v := 0) hx hb dX3_readOpened_49 (by decide) ?_
        exact re_z' hC hr hP hS PZ0 (pr_1 h) (congrArg (fun Z : Mm => (Z, Rm)) (pr_2 h)) dX3_readOpened_50
      · replace h := it_f c23 h
        refine lv_iconst (v := 1) hx hb dX3_readOpened_45 (by decide) ?_
        refine lv_goto (tgt := 50) hx hb dX3_readOpened_46 (by decide) ?_
        exact re_z' hC hr hP hS PZ1 (pr_1 h) (congrArg (fun Z : Mm => (Z, Rm)) (pr_2 h)) dX3_readOpened_50
set_option maxHeartbeats 4000000 in
set_option maxRecDepth 100000 in
theorem mX3_readOpened_d (l : Launch) (G : gp) {n : Nat} (d : Nat) : ∀ (Rm : Mm) {p1 : Int32} {C : Mm} {r0 : Int32} {C0 : Mm} (_ : fX3_readOpened n d p1 C = some (r0, C0)), Met l yX3_readOpened (wsy yX3_readOpened cX3_readOpened 3 (some .boolean)) (rmv (8 * d + 2) (177 * d + 42)) (va_Pc [.ref (gA G 32), .int p1] (Rl G (C, Rm))) (Qi G PZ r0 (C0, Rm)) 0 0 (lwA G) := by
  induction d with
  | zero =>
    intro Rm p1 C r0 C0 h
    rw [fX3_readOpened.eq_1] at h
    cases h
  | succ d ih =>
    intro Rm p1 C r0 C0 h
    rw [fX3_readOpened.eq_2] at h
    have q := mX3_readOpened_w l G d (@fun Q _ _ _ _ hq => ih Q hq) Rm h
    rw [show 8 * (d + 1) + 2 = 8 * d + 10 by omega, show 177 * (d + 1) + 42 = 177 * d + 219 by omega]
    exact q
theorem mX3_readOpened (l : Launch) (G : gp) {n : Nat} (Rm : Mm) {p1 : Int32} {C : Mm} {r0 : Int32} {C0 : Mm} (h : fX3_readOpened n 12 p1 C = some (r0, C0)) : Met l yX3_readOpened (wsy yX3_readOpened cX3_readOpened 3 (some .boolean)) (rmv 98 2166) (va_Pc [.ref (gA G 32), .int p1] (Rl G (C, Rm))) (Qi G PZ r0 (C0, Rm)) 0 0 (lwA G) := mX3_readOpened_d l G 12 Rm h
set_option maxHeartbeats 4000000 in
set_option maxRecDepth 100000 in
theorem mX3_readLine (l : Launch) (G : gp) (Rm : Mm) {n : Nat} {C : Mm} {r0 : Int32} {C0 : Mm} (h : fX3_readLine n C = some (r0, C0)) : Met l yX3_readLine (wsy yX3_readLine cX3_readLine 1 (some .boolean)) (rmv 106 2343) (va_Pc [.ref (gA G 32)] (Rl G (C, Rm))) (Qi G PZ r0 (C0, Rm)) 0 0 (lwA G) := by
  refine met_i [.ref (gA G 32)] wX3_readLine.2.2.2.2.2 (Nat.le_of_ble_eq_true rfl) ?_
  intro p e s m args below meth c ls hC hr hP hl
  have hC : Cx G p s m args meth c cX3_readLine RX3 1 := hC
  have hx := hC.1
  have hb := hC.2.1
  have hown := hC.2.2.2.1
  have hts := hC.2.2.2.2.1
  have hS : va_S (lwA G) s.heap s.heap [] := va_S.rf
  have hl : lv_has ls 1 [(0, .ref (gA G 32))] := hl
  have bl35 : ∀  (C : Mm) (H : Heap) (locs : List Loc) (ls : Array Slot), fX3_readLine_b35 n C = some (r0, C0) → lv_has ls 1 [(0, .ref (gA G 32))] → va_P (gD G) vwCl (wld G (C, Rm)) H → va_S (lwA G) s.heap H locs → W p l e (rmv 106 2343) s m args below meth c H locs 0 0 (MQ below (Qi G PZ r0 (C0, Rm)) args s 0 0 (lwA G)) (F0 m 35 ls []) := by
    intro C H locs ls h hl hP hS
    unfold fX3_readLine_b35 at h
    refine lv_aload_n hx hb dX3_readLine_35 rfl (lv_at hl 0 rfl) ?_
    refine lv_bipush (v := 59) hx hb dX3_readLine_36 (by decide) ?_
    obtain ⟨C2, hq1, h⟩ := bn_x h
    refine rc_v hS (run_V hC wX3_write k421 (e_32 G _) rfl hP hS (As := [.int 59]) (rest := []) (mX3_write l G Rm hq1) rfl hl.1 (Nat.le_of_ble_eq_true rfl) ⟨by decide, by decide⟩ ⟨Nat.le_refl _, Nat.le_refl _⟩ rfl dX3_readLine_38) (fun H locs hP hS => ?_)
    refine lv_iconst (v := 1) hx hb dX3_readLine_41 (by decide) ?_
    exact re_z' hC hr hP hS PZ1 (pr_1 h) (congrArg (fun Z : Mm => (Z, Rm)) (pr_2 h)) dX3_readLine_42
  unfold fX3_readLine at h
  refine lv_aload_n hx hb dX3_readLine_0 rfl (lv_at hl 0 rfl) ?_
  refine lv_iconst (v := 0) hx hb dX3_readLine_1 (by decide) ?_
  obtain ⟨r4, C5, hq3, h⟩ := bp_x h
  refine rc_i hS (run_V hC wX3_readAny k388 (e_32 G _) rfl hP hS (As := [.int 0]) (rest := []) (mX3_readAny l G Rm (@fun Q _ _ _ _ hq => mX3_readOpened l G Q hq) hq3) rfl hl.1 (Nat.le_of_ble_eq_true rfl) ⟨by decide, by decide⟩ ⟨Nat.le_refl _, Nat.le_refl _⟩ rfl dX3_readLine_2) (fun H locs pb6 hP hS => ?_)
  refine lv_if_ne (tgt := 10) hx hb dX3_readLine_5 (by decide) (fun c7 => ?_) (fun c7 => ?_)
  · replace h := it_f c7 h
    refine lv_aload_n hx hb dX3_readLine_10 rfl (lv_at hl 0 rfl) ?_
    refine lv_bipush (v := 63) hx hb dX3_readLine_11 (by decide) ?_
    obtain ⟨r9, C10, hq8, h⟩ := bp_x h
    refine rc_i hS (run_V hC wX3_goesOnWith k417 (e_32 G _) rfl hP hS (As := [.int 63]) (rest := []) (mX3_goesOnWith l G Rm hq8) rfl hl.1 (Nat.le_of_ble_eq_true rfl) ⟨by decide, by decide⟩ ⟨Nat.le_refl _, Nat.le_refl _⟩ rfl dX3_readLine_13) (fun H locs pb11 hP hS => ?_)
    refine lv_if_eq (tgt := 35) hx hb dX3_readLine_16 (by decide) (fun c12 => ?_) (fun c12 => ?_)
    · replace h := it_t c12 h
      exact bl35 C10 _ _ _ h (lv_sub hl [0] rfl) hP hS
    · replace h := it_f c12 h
      refine lv_aload_n hx hb dX3_readLine_19 rfl (lv_at hl 0 rfl) ?_
      refine lv_bipush (v := 63) hx hb dX3_readLine_20 (by decide) ?_
      obtain ⟨C14, hq13, h⟩ := bn_x h
      refine rc_v hS (run_V hC wX3_write k421 (e_32 G _) rfl hP hS (As := [.int 63]) (rest := []) (mX3_write l G Rm hq13) rfl hl.1 (Nat.le_of_ble_eq_true rfl) ⟨by decide, by decide⟩ ⟨Nat.le_refl _, Nat.le_refl _⟩ rfl dX3_readLine_22) (fun H locs hP hS => ?_)
      refine lv_aload_n hx hb dX3_readLine_25 rfl (lv_at hl 0 rfl) ?_
      refine lv_iconst (v := 0) hx hb dX3_readLine_26 (by decide) ?_
      obtain ⟨r16, C17, hq15, h⟩ := bp_x h
      refine rc_i hS (run_V hC wX3_readAny k388 (e_32 G _) rfl hP hS (As := [.int 0]) (rest := []) (mX3_readAny l G Rm (@fun Q _ _ _ _ hq => mX3_readOpened l G Q hq) hq15) rfl hl.1 (Nat.le_of_ble_eq_true rfl) ⟨by decide, by decide⟩ ⟨Nat.le_refl _, Nat.le_refl _⟩ rfl dX3_readLine_27) (fun H locs pb18 hP hS => ?_)
      refine lv_if_ne (tgt := 35) hx hb dX3_readLine_30 (by decide) (fun c19 => ?_) (fun c19 => ?_)
      · replace h := it_f c19 h
        exact bl35 C17 _ _ _ h (lv_sub hl [0] rfl) hP hS
      · replace h := it_t c19 h
        refine lv_iconst (v := 0) hx hb dX3_readLine_33 (by decide) ?_
        exact re_z' hC hr hP hS PZ0 (pr_1 h) (congrArg (fun Z : Mm => (Z, Rm)) (pr_2 h)) dX3_readLine_34
  · replace h := it_t c7 h
    refine lv_iconst (v := 0) hx hb dX3_readLine_8 (by decide) ?_
    exact re_z' hC hr hP hS PZ0 (pr_1 h) (congrArg (fun Z : Mm => (Z, Rm)) (pr_2 h)) dX3_readLine_9
set_option maxHeartbeats 4000000 in
set_option maxRecDepth 100000 in
theorem mX3_readLines (l : Launch) (G : gp) (Rm : Mm) {n : Nat} {C : Mm} {r0 : Int32} {C0 : Mm} (h : fX3_readLines n C = some (r0, C0)) : Met l yX3_readLines (wsy yX3_readLines cX3_readLines 2 (some .boolean)) (rmv 107 2363) (va_Pc [.ref (gA G 32)] (Rl G (C, Rm))) (Qi G PZ r0 (C0, Rm)) 0 0 (lwA G) := by
  refine met_i [.ref (gA G 32)] wX3_readLines.2.2.2.2.2 (Nat.le_of_ble_eq_true rfl) ?_
  intro p e s m args below meth c ls hC hr hP hl
  have hC : Cx G p s m args meth c cX3_readLines RX3 2 := hC
  have hx := hC.1
  have hb := hC.2.1
  have hown := hC.2.2.2.1
  have hts := hC.2.2.2.2.1
  have hS : va_S (lwA G) s.heap s.heap [] := va_S.rf
  have hl : lv_has ls 2 [(0, .ref (gA G 32))] := hl
  have bl2 : ∀ (fu : Nat), ∀ (y1 : Int32) (C : Mm) (H : Heap) (locs : List Loc) (ls : Array Slot), fX3_readLines_h2 n fu y1 C = some (r0, C0) → lv_has ls 2 [(0, .ref (gA G 32)), (1, .int y1)] → va_P (gD G) vwCl (wld G (C, Rm)) H → va_S (lwA G) s.heap H locs → W p l e (rmv 107 2363) s m args below meth c H locs 0 0 (MQ below (Qi G PZ r0 (C0, Rm)) args s 0 0 (lwA G)) (F0 m 2 ls []) := by
    intro fu
    induction fu with
    | zero =>
      intro y1 C H locs ls h hl hP hS
      rw [fX3_readLines_h2.eq_1] at h
      cases h
    | succ fu ih =>
      intro y1 C H locs ls h hl hP hS
      rw [fX3_readLines_h2.eq_2] at h
      refine lv_iload_n hx hb dX3_readLines_2 rfl (lv_at hl 1 rfl) ?_
      refine lv_aload_n hx hb dX3_readLines_3 rfl (lv_at hl 0 rfl) ?_
      refine r_get (v := .ref (gA G 103)) hC inX3 hP (e_32 G _) rfl 6 (by decide) rfl k71 rfl dX3_readLines_4 ?_
      refine rc_i hS (run_V hC wX9_length k383 (e_103 G _) rfl hP hS (As := []) (rest := [.int y1]) (mX9t_length l G Rm rfl) rfl hl.1 (Nat.le_of_ble_eq_true rfl) ⟨by decide, by decide⟩ ⟨Nat.le_refl _, Nat.le_refl _⟩ rfl dX3_readLines_7) (fun H locs pb2 hP hS => ?_)
      refine lv_icmp_gt (tgt := 57) hx hb dX3_readLines_10 (by decide) (fun c3 => ?_) (fun c3 => ?_)
      · replace h := it_t c3 h
        refine lv_iconst (v := 0) hx hb dX3_readLines_57 (by decide) ?_
        exact re_z' hC hr hP hS PZ0 (pr_1 h) (congrArg (fun Z : Mm => (Z, Rm)) (pr_2 h)) dX3_readLines_58
      · replace h := it_f c3 h
        refine lv_aload_n hx hb dX3_readLines_13 rfl (lv_at hl 0 rfl) ?_
        obtain ⟨r5, C6, hq4, h⟩ := bp_x h
        refine rc_i hS (run_V hC wX3_readLine k384 (e_32 G _) rfl hP hS (As := []) (rest := []) (mX3_readLine l G Rm hq4) rfl hl.1 (Nat.le_of_ble_eq_true rfl) ⟨by decide, by decide⟩ ⟨Nat.le_refl _, Nat.le_refl _⟩ rfl dX3_readLines_14) (fun H locs pb7 hP hS => ?_)
        refine lv_if_ne (tgt := 22) hx hb dX3_readLines_17 (by decide) (fun c8 => ?_) (fun c8 => ?_)
        · replace h := it_f c8 h
          refine lv_aload_n hx hb dX3_readLines_22 rfl (lv_at hl 0 rfl) ?_
          refine lv_bipush (v := 59) hx hb dX3_readLines_23 (by decide) ?_
          obtain ⟨r10, C11, hq9, h⟩ := bp_x h
          refine rc_i hS (run_V hC wX3_goesOnWith k417 (e_32 G _) rfl hP hS (As := [.int 59]) (rest := []) (mX3_goesOnWith l G Rm hq9) rfl hl.1 (Nat.le_of_ble_eq_true rfl) ⟨by decide, by decide⟩ ⟨Nat.le_refl _, Nat.le_refl _⟩ rfl dX3_readLines_25) (fun H locs pb12 hP hS => ?_)
          refine lv_if_ne (tgt := 51) hx hb dX3_readLines_28 (by decide) (fun c13 => ?_) (fun c13 => ?_)
          · replace h := it_f c13 h
            obtain ⟨x14, ex14⟩ : ∃ y : Int32, y = y1 + 1 := ⟨_, rfl⟩
            replace h := lt_y ex14 h
            refine lv_iinc (v := x14) (lv' := [(1, .int x14), (0, .ref (gA G 32))]) hx hb dX3_readLines_51 hl (k := 1) rfl (by rw [ex14]; rfl) (by decide) rfl (fun ls hl => ?_)
            refine lv_goto (tgt := 2) hx hb dX3_readLines_54 (by decide) ?_
            exact ih x14 C11 _ _ _ h (lv_sub hl [1, 0] rfl) hP hS
          · replace h := it_t c13 h
            refine lv_aload_n hx hb dX3_readLines_31 rfl (lv_at hl 0 rfl) ?_
            refine r_get (v := .int (C11.1 32 7)) hC inX3 hP (e_32 G _) rfl 7 (by decide) rfl k72 rfl dX3_readLines_32 ?_
            refine lv_aload_n hx hb dX3_readLines_35 rfl (lv_at hl 0 rfl) ?_
            refine r_get (v := .ref (gA G 103)) hC inX3 hP (e_32 G _) rfl 6 (by decide) rfl k71 rfl dX3_readLines_36 ?_
            refine rc_i hS (run_V hC wX9_length k383 (e_103 G _) rfl hP hS (As := []) (rest := [.int (C11.1 32 7)]) (mX9t_length l G Rm rfl) rfl hl.1 (Nat.le_of_ble_eq_true rfl) ⟨by decide, by decide⟩ ⟨Nat.le_refl _, Nat.le_refl _⟩ rfl dX3_readLines_39) (fun H locs pb16 hP hS => ?_)
            refine lv_icmp_ne (tgt := 49) hx hb dX3_readLines_42 (by decide) (fun c17 => ?_) (fun c17 => ?_)
            · replace h := it_f c17 h
              refine lv_iconst (v := 0) hx hb dX3_readLines_49 (by decide) ?_
              exact re_z' hC hr hP hS PZ0 (pr_1 h) (congrArg (fun Z : Mm => (Z, Rm)) (pr_2 h)) dX3_readLines_50
            · replace h := it_t c17 h
              refine lv_iconst (v := 1) hx hb dX3_readLines_45 (by decide) ?_
              refine lv_goto (tgt := 50) hx hb dX3_readLines_46 (by decide) ?_
              exact re_z' hC hr hP hS PZ1 (pr_1 h) (congrArg (fun Z : Mm => (Z, Rm)) (pr_2 h)) dX3_readLines_50
        · replace h := it_t c8 h
          refine lv_iconst (v := 0) hx hb dX3_readLines_20 (by decide) ?_
          exact re_z' hC hr hP hS PZ0 (pr_1 h) (congrArg (fun Z : Mm => (Z, Rm)) (pr_2 h)) dX3_readLines_21
  unfold fX3_readLines at h
  refine lv_iconst (v := 0) hx hb dX3_readLines_0 (by decide) ?_
  refine lv_istore_n (lv' := [(1, .int 0), (0, .ref (gA G 32))]) hx hb dX3_readLines_1 rfl hl (by decide) rfl (fun ls hl => ?_)
  exact bl2 n 0 C _ _ _ h (lv_sub hl [1, 0] rfl) hP hS
set_option maxHeartbeats 4000000 in
set_option maxRecDepth 100000 in
theorem mX3_read (l : Launch) (G : gp) (Rm : Mm) {n : Nat} {C : Mm} {r0 : Int32} {C0 : Mm} (h : fX3_read n C = some (r0, C0)) : Met l yX3_read (wsy yX3_read cX3_read 2 (some .int)) (rmv 108 2384) (va_Pc [.ref (gA G 32), .ref (gA G 1)] (Rl G (C, Rm))) (Qi G PT r0 (C0, Rm)) 0 0 (lwA G) := by
  refine met_i [.ref (gA G 32), .ref (gA G 1)] wX3_read.2.2.2.2.2 (Nat.le_of_ble_eq_true rfl) ?_
  intro p e s m args below meth c ls hC hr hP hl
  have hC : Cx G p s m args meth c cX3_read RX3 2 := hC
  have hx := hC.1
  have hb := hC.2.1
  have hown := hC.2.2.2.1
  have hts := hC.2.2.2.2.1
  have hS : va_S (lwA G) s.heap s.heap [] := va_S.rf
  have hl : lv_has ls 2 [(0, .ref (gA G 32)), (1, .ref (gA G 1))] := hl
  unfold fX3_read at h
  refine lv_aload_n hx hb dX3_read_0 rfl (lv_at hl 0 rfl) ?_
  refine r_get (v := .ref (gA G 103)) hC inX3 hP (e_32 G _) rfl 6 (by decide) rfl k71 rfl dX3_read_1 ?_
  refine lv_aload_n hx hb dX3_read_4 rfl (lv_at hl 1 rfl) ?_
  obtain ⟨C2, hq1, h⟩ := bn_x h
  refine rc_v hS (run_V hC wX9_become k374 (e_103 G _) rfl hP hS (As := [.ref (gA G 1)]) (rest := []) (mX9t_become l G Rm hq1) rfl hl.1 (Nat.le_of_ble_eq_true rfl) ⟨by decide, by decide⟩ ⟨Nat.le_refl _, Nat.le_refl _⟩ rfl dX3_read_5) (fun H locs hP hS => ?_)
  refine lv_aload_n hx hb dX3_read_8 rfl (lv_at hl 0 rfl) ?_
  refine lv_iconst (v := 0) hx hb dX3_read_9 (by decide) ?_
  obtain ⟨C3, eC3⟩ : ∃ Z : Mm, Z = wrI C2 32 7 0 := ⟨_, rfl⟩
  replace h := lt_y eC3 h
  refine r_put (X' := (C3, Rm)) hC inX3 tyX3 tyX3_ok nmX3 hP hS (e_32 G _) rfl 7 (by decide) rfl k72 rfl (v := .int 0) rfl rfl (Nat.le_of_ble_eq_true rfl) (p_32_7 G _ _ eC3) dX3_read_10 (fun H locs hP hS => ?_)
  refine lv_aload_n hx hb dX3_read_13 rfl (lv_at hl 0 rfl) ?_
  refine lv_iconst (v := 0) hx hb dX3_read_14 (by decide) ?_
  obtain ⟨C4, eC4⟩ : ∃ Z : Mm, Z = wrI C3 32 3 0 := ⟨_, rfl⟩
  replace h := lt_y eC4 h
  refine r_put (X' := (C4, Rm)) hC inX3 tyX3 tyX3_ok nmX3 hP hS (e_32 G _) rfl 3 (by decide) rfl k68 rfl (v := .int 0) rfl rfl (Nat.le_of_ble_eq_true rfl) (p_32_3 G _ _ eC4) dX3_read_15 (fun H locs hP hS => ?_)
  refine lv_aload_n hx hb dX3_read_18 rfl (lv_at hl 0 rfl) ?_
  obtain ⟨r6, C7, hq5, h⟩ := bp_x h
  refine rc_i hS (run_V hC wX3_readLines k379 (e_32 G _) rfl hP hS (As := []) (rest := []) (mX3_readLines l G Rm hq5) rfl hl.1 (Nat.le_of_ble_eq_true rfl) ⟨by decide, by decide⟩ ⟨Nat.le_refl _, Nat.le_refl _⟩ rfl dX3_read_19) (fun H locs pb8 hP hS => ?_)
  refine lv_if_ne (tgt := 30) hx hb dX3_read_22 (by decide) (fun c9 => ?_) (fun c9 => ?_)
  · replace h := it_f c9 h
    refine lv_aload_n hx hb dX3_read_30 rfl (lv_at hl 0 rfl) ?_
    refine r_get (v := .ref (gA G 34)) hC inX3 hP (e_32 G _) rfl 2 (by decide) rfl k67 rfl dX3_read_31 ?_
    refine lv_iconst (v := 0) hx hb dX3_read_34 (by decide) ?_
    refine lv_aload_n hx hb dX3_read_35 rfl (lv_at hl 0 rfl) ?_
    refine r_get (v := .ref (gA G 33)) hC inX3 hP (e_32 G _) rfl 0 (by decide) rfl k65 rfl dX3_read_36 ?_
    refine lv_iconst (v := 0) hx hb dX3_read_39 (by decide) ?_
    refine lv_aload_n hx hb dX3_read_40 rfl (lv_at hl 0 rfl) ?_
    refine r_get (v := .int (C7.1 32 3)) hC inX3 hP (e_32 G _) rfl 3 (by decide) rfl k68 rfl dX3_read_41 ?_
    by_cases c10 : 0 < (0 : Int32) ∨ 0 < (0 : Int32) ∨ (C7.1 32 3) < (0 : Int32) ∨ 128 < (Int32.toNatClampNeg 0) + (Int32.toNatClampNeg (C7.1 32 3)) ∨ 128 < (Int32.toNatClampNeg 0) + (Int32.toNatClampNeg (C7.1 32 3))
    · cases it_t c10 h
    replace h := it_f c10 h
    obtain ⟨C11, eC11⟩ : ∃ Z : Mm, Z = cpI C7 34 (Int32.toNatClampNeg 0) 33 (Int32.toNatClampNeg 0) (Int32.toNatClampNeg (C7.1 32 3)) := ⟨_, rfl⟩
    replace h := lt_y eC11 h
    refine r_cpI (X' := (C11, Rm)) hC (rest := []) k437 k331 k330 k12 hl.1 hP hS (e_34 G _) (e_33 G _) c10 (ac_33 G _ _ _ _ _ _ eC11) (by decide) (Nat.le_of_ble_eq_true rfl) dX3_read_44 (fun H locs hP hS => ?_)
    refine lv_aload_n hx hb dX3_read_47 rfl (lv_at hl 0 rfl) ?_
    refine lv_aload_n hx hb dX3_read_48 rfl (lv_at hl 0 rfl) ?_
    refine r_get (v := .int (C11.1 32 3)) hC inX3 hP (e_32 G _) rfl 3 (by decide) rfl k68 rfl dX3_read_49 ?_
    obtain ⟨C12, eC12⟩ : ∃ Z : Mm, Z = wrI C11 32 1 (C11.1 32 3) := ⟨_, rfl⟩
    replace h := lt_y eC12 h
    refine r_put (X' := (C12, Rm)) hC inX3 tyX3 tyX3_ok nmX3 hP hS (e_32 G _) rfl 1 (by decide) rfl k66 rfl (v := .int (C11.1 32 3)) rfl rfl (Nat.le_of_ble_eq_true rfl) (p_32_1 G _ _ eC12) dX3_read_52 (fun H locs hP hS => ?_)
    refine lv_iconst (v := (-1)) hx hb dX3_read_55 (by decide) ?_
    exact re_i' hC hr hP hS (pr_1 h) (congrArg (fun Z : Mm => (Z, Rm)) (pr_2 h)) dX3_read_56
  · replace h := it_t c9 h
    refine lv_aload_n hx hb dX3_read_25 rfl (lv_at hl 0 rfl) ?_
    refine r_get (v := .int (C7.1 32 7)) hC inX3 hP (e_32 G _) rfl 7 (by decide) rfl k72 rfl dX3_read_26 ?_
    exact re_i' hC hr hP hS (pr_1 h) (congrArg (fun Z : Mm => (Z, Rm)) (pr_2 h)) dX3_read_29
set_option maxHeartbeats 4000000 in
set_option maxRecDepth 100000 in
theorem mX3_pop (l : Launch) (G : gp) (Rm : Mm) {C : Mm} {r0 : Int32} {C0 : Mm} (h : fX3_pop C = some (r0, C0)) : Met l yX3_pop (wsy yX3_pop cX3_pop 1 (some .int)) (rmv 0 0) (va_Pc [.ref (gA G 32)] (Rl G (C, Rm))) (Qi G PT r0 (C0, Rm)) 0 0 (lwA G) := by
  refine met_i [.ref (gA G 32)] wX3_pop.2.2.2.2.2 (Nat.le_of_ble_eq_true rfl) ?_
  intro p e s m args below meth c ls hC hr hP hl
  have hC : Cx G p s m args meth c cX3_pop RX3 1 := hC
  have hx := hC.1
  have hb := hC.2.1
  have hown := hC.2.2.2.1
  have hts := hC.2.2.2.2.1
  have hS : va_S (lwA G) s.heap s.heap [] := va_S.rf
  have hl : lv_has ls 1 [(0, .ref (gA G 32))] := hl
  unfold fX3_pop at h
  refine lv_aload_n hx hb dX3_pop_0 rfl (lv_at hl 0 rfl) ?_
  refine r_get (v := .int (C.1 32 5)) hC inX3 hP (e_32 G _) rfl 5 (by decide) rfl k70 rfl dX3_pop_1 ?_
  refine lv_if_ne (tgt := 9) hx hb dX3_pop_4 (by decide) (fun c1 => ?_) (fun c1 => ?_)
  · replace h := it_f c1 h
    refine lv_aload_n hx hb dX3_pop_9 rfl (lv_at hl 0 rfl) ?_
    refine lv_dup hx hb dX3_pop_10 rfl ?_
    refine r_get (v := .int (C.1 32 5)) hC inX3 hP (e_32 G _) rfl 5 (by decide) rfl k70 rfl dX3_pop_11 ?_
    refine lv_iconst (v := 1) hx hb dX3_pop_14 (by decide) ?_
    refine lv_isub hx hb dX3_pop_15 ?_
    obtain ⟨C2, eC2⟩ : ∃ Z : Mm, Z = wrI C 32 5 ((C.1 32 5) - 1) := ⟨_, rfl⟩
    replace h := lt_y eC2 h
    refine r_put (X' := (C2, Rm)) hC inX3 tyX3 tyX3_ok nmX3 hP hS (e_32 G _) rfl 5 (by decide) rfl k70 rfl (v := .int ((C.1 32 5) - 1)) rfl rfl (Nat.le_of_ble_eq_true rfl) (p_32_5 G _ _ eC2) dX3_pop_16 (fun H locs hP hS => ?_)
    refine lv_aload_n hx hb dX3_pop_19 rfl (lv_at hl 0 rfl) ?_
    refine r_get (v := .ref (gA G 35)) hC inX3 hP (e_32 G _) rfl 4 (by decide) rfl k69 rfl dX3_pop_20 ?_
    refine lv_aload_n hx hb dX3_pop_23 rfl (lv_at hl 0 rfl) ?_
    refine r_get (v := .int (C2.1 32 5)) hC inX3 hP (e_32 G _) rfl 5 (by decide) rfl k70 rfl dX3_pop_24 ?_
    by_cases c3 : (C2.1 32 5) < (0 : Int32) ∨ 128 ≤ Int32.toNatClampNeg (C2.1 32 5)
    · cases it_t c3 h
    replace h := it_f c3 h
    refine r_iald hC hP (f := C2.1 35) (e_35 G _) c3 dX3_pop_27 ?_
    exact re_i' hC hr hP hS (pr_1 h) (congrArg (fun Z : Mm => (Z, Rm)) (pr_2 h)) dX3_pop_28
  · replace h := it_t c1 h
    refine lv_iconst (v := 0) hx hb dX3_pop_7 (by decide) ?_
    exact re_i' hC hr hP hS (pr_1 h) (congrArg (fun Z : Mm => (Z, Rm)) (pr_2 h)) dX3_pop_8
set_option maxHeartbeats 4000000 in
set_option maxRecDepth 100000 in
theorem mX3_push (l : Launch) (G : gp) (Rm : Mm) {p1 : Int32} {C : Mm} {C0 : Mm} (h : fX3_push p1 C = some C0) : Met l yX3_push (wsy yX3_push cX3_push 2 none) (rmv 0 0) (va_Pc [.ref (gA G 32), .int p1] (Rl G (C, Rm))) (Qv G (C0, Rm)) 0 0 (lwA G) := by
  refine met_i [.ref (gA G 32), .int p1] wX3_push.2.2.2.2.2 (Nat.le_of_ble_eq_true rfl) ?_
  intro p e s m args below meth c ls hC hr hP hl
  have hC : Cx G p s m args meth c cX3_push RX3 2 := hC
  have hx := hC.1
  have hb := hC.2.1
  have hown := hC.2.2.2.1
  have hts := hC.2.2.2.2.1
  have hS : va_S (lwA G) s.heap s.heap [] := va_S.rf
  have hl : lv_has ls 2 [(0, .ref (gA G 32)), (1, .int p1)] := hl
  unfold fX3_push at h
  refine lv_aload_n hx hb dX3_push_0 rfl (lv_at hl 0 rfl) ?_
  refine r_get (v := .int (C.1 32 5)) hC inX3 hP (e_32 G _) rfl 5 (by decide) rfl k70 rfl dX3_push_1 ?_
  refine lv_sipush (v := 128) hx hb dX3_push_4 (by decide) ?_
  refine lv_icmp_ge (tgt := 30) hx hb dX3_push_7 (by decide) (fun c1 => ?_) (fun c1 => ?_)
  · replace h := it_t c1 h
    exact re_v' hC hr hP hS (congrArg (fun Z : Mm => (Z, Rm)) (Option.some.inj h)) dX3_push_30
  · replace h := it_f c1 h
    refine lv_aload_n hx hb dX3_push_10 rfl (lv_at hl 0 rfl) ?_
    refine r_get (v := .ref (gA G 35)) hC inX3 hP (e_32 G _) rfl 4 (by decide) rfl k69 rfl dX3_push_11 ?_
    refine lv_aload_n hx hb dX3_push_14 rfl (lv_at hl 0 rfl) ?_
    refine r_get (v := .int (C.1 32 5)) hC inX3 hP (e_32 G _) rfl 5 (by decide) rfl k70 rfl dX3_push_15 ?_
    refine lv_iload_n hx hb dX3_push_18 rfl (lv_at hl 1 rfl) ?_
    by_cases c2 : (C.1 32 5) < (0 : Int32) ∨ 128 ≤ Int32.toNatClampNeg (C.1 32 5)
    · cases it_t c2 h
    replace h := it_f c2 h
    obtain ⟨C3, eC3⟩ : ∃ Z : Mm, Z = wrI C 35 (Int32.toNatClampNeg (C.1 32 5)) p1 := ⟨_, rfl⟩
    replace h := lt_y eC3 h
    refine r_iast (X' := (C3, Rm)) hC hP hS (e_35 G _) c2 (a_35 G _ _ _ _ eC3) dX3_push_19 (fun H locs hP hS => ?_)
    refine lv_aload_n hx hb dX3_push_20 rfl (lv_at hl 0 rfl) ?_
    refine lv_dup hx hb dX3_push_21 rfl ?_
    refine r_get (v := .int (C3.1 32 5)) hC inX3 hP (e_32 G _) rfl 5 (by decide) rfl k70 rfl dX3_push_22 ?_
    refine lv_iconst (v := 1) hx hb dX3_push_25 (by decide) ?_
    refine lv_iadd hx hb dX3_push_26 ?_
    obtain ⟨C4, eC4⟩ : ∃ Z : Mm, Z = wrI C3 32 5 ((C3.1 32 5) + 1) := ⟨_, rfl⟩
    replace h := lt_y eC4 h
    refine r_put (X' := (C4, Rm)) hC inX3 tyX3 tyX3_ok nmX3 hP hS (e_32 G _) rfl 5 (by decide) rfl k70 rfl (v := .int ((C3.1 32 5) + 1)) rfl rfl (Nat.le_of_ble_eq_true rfl) (p_32_5 G _ _ eC4) dX3_push_27 (fun H locs hP hS => ?_)
    exact re_v' hC hr hP hS (congrArg (fun Z : Mm => (Z, Rm)) (Option.some.inj h)) dX3_push_30
set_option maxHeartbeats 4000000 in
set_option maxRecDepth 100000 in
theorem mX3_valueOf (l : Launch) (G : gp) (Rm : Mm) {n : Nat} {j1 : Nat} (hj1 : j1 < 7) {p0 : Int32} {p2 : Int32} {p3 : Int32} {C : Mm} {r0 : Int32} (h : fX3_valueOf n j1 p0 p2 p3 C = some r0) : Met l yX3_valueOf (wsy yX3_valueOf cX3_valueOf 4 (some .int)) (rmv 1 40) (va_Pc [.int p0, .ref (gA G (hdc j1)), .int p2, .int p3] (Rl G (C, Rm))) (Qi G PT r0 (C, Rm)) 0 0 (lwA G) := by
  refine met_i [.int p0, .ref (gA G (hdc j1)), .int p2, .int p3] wX3_valueOf.2.2.2.2 (Nat.le_of_ble_eq_true rfl) ?_
  intro p e s m args below meth c ls hC hr hP hl
  have hC : Cx G p s m args meth c cX3_valueOf RX3 4 := hC
  have hx := hC.1
  have hb := hC.2.1
  have hown := hC.2.2.2.1
  have hts := hC.2.2.2.2.1
  have hS : va_S (lwA G) s.heap s.heap [] := va_S.rf
  have hl : lv_has ls 4 [(0, .int p0), (1, .ref (gA G (hdc j1))), (2, .int p2), (3, .int p3)] := hl
  unfold fX3_valueOf at h
  refine lv_iload_n hx hb dX3_valueOf_0 rfl (lv_at hl 0 rfl) ?_
  by_cases c1 : p0 = 100
  · replace h := it_t c1 h
    refine lv_tableIn (off := 129) (tgt := 130) hx hb dX3_valueOf_1 (by rw [c1]; decide) (by rw [c1]; decide) (by rw [c1]; rfl) (by decide) ?_
    refine lv_iload_n hx hb dX3_valueOf_130 rfl (lv_at hl 2 rfl) ?_
    refine lv_iload_n hx hb dX3_valueOf_131 rfl (lv_at hl 3 rfl) ?_
    refine lv_isub hx hb dX3_valueOf_132 ?_
    refine r_abs hC (rest := []) k601 k545 k13 k546 hl.1 (by decide) (Nat.le_of_ble_eq_true rfl) (Nat.le_refl _) (Nat.le_refl _) dX3_valueOf_133 ?_
    exact re_i' hC hr hP hS (Option.some.inj h) rfl dX3_valueOf_136
  replace h := it_f c1 h
  by_cases c2 : p0 = 109
  · replace h := it_t c2 h
    refine lv_tableIn (off := 107) (tgt := 108) hx hb dX3_valueOf_1 (by rw [c2]; decide) (by rw [c2]; decide) (by rw [c2]; rfl) (by decide) ?_
    refine lv_iload_n hx hb dX3_valueOf_108 rfl (lv_at hl 2 rfl) ?_
    refine lv_i2l hx hb dX3_valueOf_109 rfl ?_
    obtain ⟨r4, hq3, h⟩ := bn_x h
    refine rc_i hS (run_S hC wX4_sizeOf k600 hP hS (As := [.long (Int32.toInt64 p2)]) (rest := []) (mX4_sizeOf l G Rm hq3) rfl hl.1 (Nat.le_of_ble_eq_true rfl) ⟨by decide, by decide⟩ ⟨Nat.le_refl _, Nat.le_refl _⟩ rfl dX3_valueOf_110) (fun H locs pb5 hP hS => ?_)
    exact re_i' hC hr hP hS (Option.some.inj h) rfl dX3_valueOf_113
  replace h := it_f c2 h
  by_cases c6 : p0 = 110
  · replace h := it_t c6 h
    refine lv_tableIn (off := 113) (tgt := 114) hx hb dX3_valueOf_1 (by rw [c6]; decide) (by rw [c6]; decide) (by rw [c6]; rfl) (by decide) ?_
    refine lv_iload_n hx hb dX3_valueOf_114 rfl (lv_at hl 3 rfl) ?_
    refine lv_i2l hx hb dX3_valueOf_115 rfl ?_
    obtain ⟨r8, hq7, h⟩ := bn_x h
    refine rc_i hS (run_S hC wX4_sizeOf k600 hP hS (As := [.long (Int32.toInt64 p3)]) (rest := []) (mX4_sizeOf l G Rm hq7) rfl hl.1 (Nat.le_of_ble_eq_true rfl) ⟨by decide, by decide⟩ ⟨Nat.le_refl _, Nat.le_refl _⟩ rfl dX3_valueOf_116) (fun H locs pb9 hP hS => ?_)
    exact re_i' hC hr hP hS (Option.some.inj h) rfl dX3_valueOf_119
  replace h := it_f c6 h
  by_cases c10 : p0 = 116
  · replace h := it_t c10 h
    refine lv_tableIn (off := 146) (tgt := 147) hx hb dX3_valueOf_1 (by rw [c10]; decide) (by rw [c10]; decide) (by rw [c10]; rfl) (by decide) ?_
    refine lv_aload_n hx hb dX3_valueOf_147 rfl (lv_at hl 1 rfl) ?_
    refine lv_iconst (v := 3) hx hb dX3_valueOf_148 (by decide) ?_
    obtain ⟨r12, hq11, h⟩ := bn_x h
    refine rc_i hS (run_V hC wX5_number k605 (e_hc G _ hj1) rfl hP hS (As := [.int 3]) (rest := []) (mX5_number l G Rm hj1 hq11) rfl hl.1 (Nat.le_of_ble_eq_true rfl) ⟨by decide, by decide⟩ ⟨Nat.le_refl _, Nat.le_refl _⟩ rfl dX3_valueOf_149) (fun H locs pb13 hP hS => ?_)
    exact re_i' hC hr hP hS (Option.some.inj h) rfl dX3_valueOf_152
  replace h := it_f c10 h
  by_cases c14 : p0 = 120
  · replace h := it_t c14 h
    refine lv_tableIn (off := 119) (tgt := 120) hx hb dX3_valueOf_1 (by rw [c14]; decide) (by rw [c14]; decide) (by rw [c14]; rfl) (by decide) ?_
    refine lv_iload_n hx hb dX3_valueOf_120 rfl (lv_at hl 2 rfl) ?_
    refine lv_bipush (v := 10) hx hb dX3_valueOf_121 (by decide) ?_
    refine r_irem hx hb dX3_valueOf_123 (by decide) ?_
    exact re_i' hC hr hP hS (Option.some.inj h) rfl dX3_valueOf_124
  replace h := it_f c14 h
  by_cases c15 : p0 = 121
  · replace h := it_t c15 h
    refine lv_tableIn (off := 124) (tgt := 125) hx hb dX3_valueOf_1 (by rw [c15]; decide) (by rw [c15]; decide) (by rw [c15]; rfl) (by decide) ?_
    refine lv_iload_n hx hb dX3_valueOf_125 rfl (lv_at hl 3 rfl) ?_
    refine lv_bipush (v := 10) hx hb dX3_valueOf_126 (by decide) ?_
    refine r_irem hx hb dX3_valueOf_128 (by decide) ?_
    exact re_i' hC hr hP hS (Option.some.inj h) rfl dX3_valueOf_129
  replace h := it_f c15 h
  by_cases c16 : p0 = 122
  · replace h := it_t c16 h
    refine lv_tableIn (off := 136) (tgt := 137) hx hb dX3_valueOf_1 (by rw [c16]; decide) (by rw [c16]; decide) (by rw [c16]; rfl) (by decide) ?_
    refine lv_iload_n hx hb dX3_valueOf_137 rfl (lv_at hl 2 rfl) ?_
    obtain ⟨r18, hq17, h⟩ := bn_x h
    refine rc_i hS (run_S hC wX4_noughtsIn k602 hP hS (As := [.int p2]) (rest := []) (mX4_noughtsIn l G Rm hq17) rfl hl.1 (Nat.le_of_ble_eq_true rfl) ⟨by decide, by decide⟩ ⟨Nat.le_refl _, Nat.le_refl _⟩ rfl dX3_valueOf_138) (fun H locs pb19 hP hS => ?_)
    refine lv_iload_n hx hb dX3_valueOf_141 rfl (lv_at hl 3 rfl) ?_
    obtain ⟨r21, hq20, h⟩ := bn_x h
    refine rc_i hS (run_S hC wX4_noughtsIn k602 hP hS (As := [.int p3]) (rest := [.int r18]) (mX4_noughtsIn l G Rm hq20) rfl hl.1 (Nat.le_of_ble_eq_true rfl) ⟨by decide, by decide⟩ ⟨Nat.le_refl _, Nat.le_refl _⟩ rfl dX3_valueOf_142) (fun H locs pb22 hP hS => ?_)
    refine lv_iadd hx hb dX3_valueOf_145 ?_
    exact re_i' hC hr hP hS (Option.some.inj h) rfl dX3_valueOf_146
  replace h := it_f c16 h
  refine lv_tsD (tgt := 153) hx hb dX3_valueOf_1 rfl (ex_c (ti_ne (z := 100) rfl c1) (ex_c (ti_ne (z := 109) rfl c2) (ex_c (ti_ne (z := 110) rfl c6) (ex_c (ti_ne (z := 116) rfl c10) (ex_c (ti_ne (z := 120) rfl c14) (ex_c (ti_ne (z := 121) rfl c15) (ex_c (ti_ne (z := 122) rfl c16) ex_0))))))) (by decide) (by decide) ?_
  refine lv_aload_n hx hb dX3_valueOf_153 rfl (lv_at hl 1 rfl) ?_
  obtain ⟨r24, hq23, h⟩ := bn_x h
  refine rc_i hS (run_V hC wX5_capacity k606 (e_hc G _ hj1) rfl hP hS (As := []) (rest := []) (mX5_capacity l G Rm hj1 hq23) rfl hl.1 (Nat.le_of_ble_eq_true rfl) ⟨by decide, by decide⟩ ⟨Nat.le_refl _, Nat.le_refl _⟩ rfl dX3_valueOf_154) (fun H locs pb25 hP hS => ?_)
  exact re_i' hC hr hP hS (Option.some.inj h) rfl dX3_valueOf_157
set_option maxHeartbeats 4000000 in
set_option maxRecDepth 100000 in
theorem mX3_joined (l : Launch) (G : gp) (Rm : Mm) {p0 : Int32} {p1 : Int32} {p2 : Int32} {C : Mm} {r0 : Int32} (h : fX3_joined p0 p1 p2 = some r0) : Met l yX3_joined (wsy yX3_joined cX3_joined 3 (some .int)) (rmv 0 0) (va_Pc [.int p0, .int p1, .int p2] (Rl G (C, Rm))) (Qi G PT r0 (C, Rm)) 0 0 (lwA G) := by
  refine met_i [.int p0, .int p1, .int p2] wX3_joined.2.2.2.2 (Nat.le_of_ble_eq_true rfl) ?_
  intro p e s m args below meth c ls hC hr hP hl
  have hC : Cx G p s m args meth c cX3_joined RX3 3 := hC
  have hx := hC.1
  have hb := hC.2.1
  have hown := hC.2.2.2.1
  have hts := hC.2.2.2.2.1
  have hS : va_S (lwA G) s.heap s.heap [] := va_S.rf
  have hl : lv_has ls 3 [(0, .int p0), (1, .int p1), (2, .int p2)] := hl
  unfold fX3_joined at h
  refine lv_iload_n hx hb dX3_joined_0 rfl (lv_at hl 0 rfl) ?_
  by_cases c1 : p0 = 37
  · replace h := it_t c1 h
    refine lv_tableIn (off := 143) (tgt := 144) hx hb dX3_joined_1 (by rw [c1]; decide) (by rw [c1]; decide) (by rw [c1]; rfl) (by decide) ?_
    refine lv_iload_n hx hb dX3_joined_144 rfl (lv_at hl 2 rfl) ?_
    refine lv_if_ne (tgt := 152) hx hb dX3_joined_145 (by decide) (fun c2 => ?_) (fun c2 => ?_)
    · replace h := it_f c2 h
      refine lv_iload_n hx hb dX3_joined_152 rfl (lv_at hl 1 rfl) ?_
      refine lv_iload_n hx hb dX3_joined_153 rfl (lv_at hl 2 rfl) ?_
      by_cases c3 : p2 = 0
      · cases it_t c3 h
      replace h := it_f c3 h
      refine r_irem hx hb dX3_joined_154 c3 ?_
      exact re_i' hC hr hP hS (Option.some.inj h) rfl dX3_joined_155
    · replace h := it_t c2 h
      refine lv_iconst (v := 0) hx hb dX3_joined_148 (by decide) ?_
      refine lv_goto (tgt := 155) hx hb dX3_joined_149 (by decide) ?_
      exact re_i' hC hr hP hS (Option.some.inj h) rfl dX3_joined_155
  replace h := it_f c1 h
  by_cases c4 : p0 = 38
  · replace h := it_t c4 h
    refine lv_tableIn (off := 188) (tgt := 189) hx hb dX3_joined_1 (by rw [c4]; decide) (by rw [c4]; decide) (by rw [c4]; rfl) (by decide) ?_
    refine lv_iload_n hx hb dX3_joined_189 rfl (lv_at hl 1 rfl) ?_
    refine lv_if_eq (tgt := 201) hx hb dX3_joined_190 (by decide) (fun c5 => ?_) (fun c5 => ?_)
    · replace h := it_t c5 h
      refine lv_iconst (v := 0) hx hb dX3_joined_201 (by decide) ?_
      exact re_i' hC hr hP hS (Option.some.inj h) rfl dX3_joined_202
    · replace h := it_f c5 h
      refine lv_iload_n hx hb dX3_joined_193 rfl (lv_at hl 2 rfl) ?_
      refine lv_if_eq (tgt := 201) hx hb dX3_joined_194 (by decide) (fun c6 => ?_) (fun c6 => ?_)
      · replace h := it_t c6 h
        refine lv_iconst (v := 0) hx hb dX3_joined_201 (by decide) ?_
        exact re_i' hC hr hP hS (Option.some.inj h) rfl dX3_joined_202
      · replace h := it_f c6 h
        refine lv_iconst (v := 1) hx hb dX3_joined_197 (by decide) ?_
        refine lv_goto (tgt := 202) hx hb dX3_joined_198 (by decide) ?_
        exact re_i' hC hr hP hS (Option.some.inj h) rfl dX3_joined_202
  replace h := it_f c4 h
  by_cases c7 : p0 = 42
  · replace h := it_t c7 h
    refine lv_tableIn (off := 127) (tgt := 128) hx hb dX3_joined_1 (by rw [c7]; decide) (by rw [c7]; decide) (by rw [c7]; rfl) (by decide) ?_
    refine lv_iload_n hx hb dX3_joined_128 rfl (lv_at hl 1 rfl) ?_
    refine lv_iload_n hx hb dX3_joined_129 rfl (lv_at hl 2 rfl) ?_
    refine lv_imul hx hb dX3_joined_130 ?_
    exact re_i' hC hr hP hS (Option.some.inj h) rfl dX3_joined_131
  replace h := it_f c7 h
  by_cases c8 : p0 = 43
  · replace h := it_t c8 h
    refine lv_tableIn (off := 119) (tgt := 120) hx hb dX3_joined_1 (by rw [c8]; decide) (by rw [c8]; decide) (by rw [c8]; rfl) (by decide) ?_
    refine lv_iload_n hx hb dX3_joined_120 rfl (lv_at hl 1 rfl) ?_
    refine lv_iload_n hx hb dX3_joined_121 rfl (lv_at hl 2 rfl) ?_
    refine lv_iadd hx hb dX3_joined_122 ?_
    exact re_i' hC hr hP hS (Option.some.inj h) rfl dX3_joined_123
  replace h := it_f c8 h
  by_cases c9 : p0 = 45
  · replace h := it_t c9 h
    refine lv_tableIn (off := 123) (tgt := 124) hx hb dX3_joined_1 (by rw [c9]; decide) (by rw [c9]; decide) (by rw [c9]; rfl) (by decide) ?_
    refine lv_iload_n hx hb dX3_joined_124 rfl (lv_at hl 1 rfl) ?_
    refine lv_iload_n hx hb dX3_joined_125 rfl (lv_at hl 2 rfl) ?_
    refine lv_isub hx hb dX3_joined_126 ?_
    exact re_i' hC hr hP hS (Option.some.inj h) rfl dX3_joined_127
  replace h := it_f c9 h
  by_cases c10 : p0 = 47
  · replace h := it_t c10 h
    refine lv_tableIn (off := 131) (tgt := 132) hx hb dX3_joined_1 (by rw [c10]; decide) (by rw [c10]; decide) (by rw [c10]; rfl) (by decide) ?_
    refine lv_iload_n hx hb dX3_joined_132 rfl (lv_at hl 2 rfl) ?_
    refine lv_if_ne (tgt := 140) hx hb dX3_joined_133 (by decide) (fun c11 => ?_) (fun c11 => ?_)
    · replace h := it_f c11 h
      refine lv_iload_n hx hb dX3_joined_140 rfl (lv_at hl 1 rfl) ?_
      refine lv_iload_n hx hb dX3_joined_141 rfl (lv_at hl 2 rfl) ?_
      by_cases c12 : p2 = 0
      · cases it_t c12 h
      replace h := it_f c12 h
      refine lv_idiv hx hb dX3_joined_142 c12 ?_
      exact re_i' hC hr hP hS (Option.some.inj h) rfl dX3_joined_143
    · replace h := it_t c11 h
      refine lv_iconst (v := 0) hx hb dX3_joined_136 (by decide) ?_
      refine lv_goto (tgt := 143) hx hb dX3_joined_137 (by decide) ?_
      exact re_i' hC hr hP hS (Option.some.inj h) rfl dX3_joined_143
  replace h := it_f c10 h
  by_cases c13 : p0 = 60
  · replace h := it_t c13 h
    refine lv_tableIn (off := 155) (tgt := 156) hx hb dX3_joined_1 (by rw [c13]; decide) (by rw [c13]; decide) (by rw [c13]; rfl) (by decide) ?_
    refine lv_iload_n hx hb dX3_joined_156 rfl (lv_at hl 1 rfl) ?_
    refine lv_iload_n hx hb dX3_joined_157 rfl (lv_at hl 2 rfl) ?_
    refine lv_icmp_ge (tgt := 165) hx hb dX3_joined_158 (by decide) (fun c14 => ?_) (fun c14 => ?_)
    · replace h := it_t c14 h
      refine lv_iconst (v := 0) hx hb dX3_joined_165 (by decide) ?_
      exact re_i' hC hr hP hS (Option.some.inj h) rfl dX3_joined_166
    · replace h := it_f c14 h
      refine lv_iconst (v := 1) hx hb dX3_joined_161 (by decide) ?_
      refine lv_goto (tgt := 166) hx hb dX3_joined_162 (by decide) ?_
      exact re_i' hC hr hP hS (Option.some.inj h) rfl dX3_joined_166
  replace h := it_f c13 h
  by_cases c15 : p0 = 61
  · replace h := it_t c15 h
    refine lv_tableIn (off := 166) (tgt := 167) hx hb dX3_joined_1 (by rw [c15]; decide) (by rw [c15]; decide) (by rw [c15]; rfl) (by decide) ?_
    refine lv_iload_n hx hb dX3_joined_167 rfl (lv_at hl 1 rfl) ?_
    refine lv_iload_n hx hb dX3_joined_168 rfl (lv_at hl 2 rfl) ?_
    refine lv_icmp_ne (tgt := 176) hx hb dX3_joined_169 (by decide) (fun c16 => ?_) (fun c16 => ?_)
    · replace h := it_f c16 h
      refine lv_iconst (v := 0) hx hb dX3_joined_176 (by decide) ?_
      exact re_i' hC hr hP hS (Option.some.inj h) rfl dX3_joined_177
    · replace h := it_t c16 h
      refine lv_iconst (v := 1) hx hb dX3_joined_172 (by decide) ?_
      refine lv_goto (tgt := 177) hx hb dX3_joined_173 (by decide) ?_
      exact re_i' hC hr hP hS (Option.some.inj h) rfl dX3_joined_177
  replace h := it_f c15 h
  by_cases c17 : p0 = 62
  · replace h := it_t c17 h
    refine lv_tableIn (off := 177) (tgt := 178) hx hb dX3_joined_1 (by rw [c17]; decide) (by rw [c17]; decide) (by rw [c17]; rfl) (by decide) ?_
    refine lv_iload_n hx hb dX3_joined_178 rfl (lv_at hl 1 rfl) ?_
    refine lv_iload_n hx hb dX3_joined_179 rfl (lv_at hl 2 rfl) ?_
    refine lv_icmp_le (tgt := 187) hx hb dX3_joined_180 (by decide) (fun c18 => ?_) (fun c18 => ?_)
    · replace h := it_t c18 h
      refine lv_iconst (v := 0) hx hb dX3_joined_187 (by decide) ?_
      exact re_i' hC hr hP hS (Option.some.inj h) rfl dX3_joined_188
    · replace h := it_f c18 h
      refine lv_iconst (v := 1) hx hb dX3_joined_183 (by decide) ?_
      refine lv_goto (tgt := 188) hx hb dX3_joined_184 (by decide) ?_
      exact re_i' hC hr hP hS (Option.some.inj h) rfl dX3_joined_188
  replace h := it_f c17 h
  refine lv_tsD (tgt := 203) hx hb dX3_joined_1 rfl (ex_c (ti_ne (z := 37) rfl c1) (ex_c (ti_ne (z := 38) rfl c4) (ex_c (ti_ne (z := 42) rfl c7) (ex_c (ti_ne (z := 43) rfl c8) (ex_c (ti_ne (z := 45) rfl c9) (ex_c (ti_ne (z := 47) rfl c10) (ex_c (ti_ne (z := 60) rfl c13) (ex_c (ti_ne (z := 61) rfl c15) (ex_c (ti_ne (z := 62) rfl c17) ex_0))))))))) (by decide) (by decide) ?_
  refine lv_iload_n hx hb dX3_joined_203 rfl (lv_at hl 1 rfl) ?_
  refine lv_if_ne (tgt := 211) hx hb dX3_joined_204 (by decide) (fun c19 => ?_) (fun c19 => ?_)
  · replace h := it_f c19 h
    refine lv_iconst (v := 1) hx hb dX3_joined_211 (by decide) ?_
    refine lv_goto (tgt := 216) hx hb dX3_joined_212 (by decide) ?_
    exact re_i' hC hr hP hS (Option.some.inj h) rfl dX3_joined_216
  · replace h := it_t c19 h
    refine lv_iload_n hx hb dX3_joined_207 rfl (lv_at hl 2 rfl) ?_
    refine lv_if_eq (tgt := 215) hx hb dX3_joined_208 (by decide) (fun c20 => ?_) (fun c20 => ?_)
    · replace h := it_t c20 h
      refine lv_iconst (v := 0) hx hb dX3_joined_215 (by decide) ?_
      exact re_i' hC hr hP hS (Option.some.inj h) rfl dX3_joined_216
    · replace h := it_f c20 h
      refine lv_iconst (v := 1) hx hb dX3_joined_211 (by decide) ?_
      refine lv_goto (tgt := 216) hx hb dX3_joined_212 (by decide) ?_
      exact re_i' hC hr hP hS (Option.some.inj h) rfl dX3_joined_216
set_option maxHeartbeats 4000000 in
set_option maxRecDepth 100000 in
theorem mX3_workOut (l : Launch) (G : gp) (Rm : Mm) {n : Nat} {j2 : Nat} (hj2 : j2 < 7) {p1 : Int32} {p3 : Int32} {C : Mm} {C0 : Mm} (h : fX3_workOut n j2 p1 p3 C = some C0) : Met l yX3_workOut (wsy yX3_workOut cX3_workOut 6 none) (rmv 2 63) (va_Pc [.ref (gA G 32), .int p1, .ref (gA G (hdc j2)), .int p3] (Rl G (C, Rm))) (Qv G (C0, Rm)) 0 0 (lwA G) := by
  refine met_i [.ref (gA G 32), .int p1, .ref (gA G (hdc j2)), .int p3] wX3_workOut.2.2.2.2.2 (Nat.le_of_ble_eq_true rfl) ?_
  intro p e s m args below meth c ls hC hr hP hl
  have hC : Cx G p s m args meth c cX3_workOut RX3 6 := hC
  have hx := hC.1
  have hb := hC.2.1
  have hown := hC.2.2.2.1
  have hts := hC.2.2.2.2.1
  have hS : va_S (lwA G) s.heap s.heap [] := va_S.rf
  have hl : lv_has ls 6 [(0, .ref (gA G 32)), (1, .int p1), (2, .ref (gA G (hdc j2))), (3, .int p3)] := hl
  have bl62 : ∀ (s0 : Int32) (C : Mm) (H : Heap) (locs : List Loc) (ls : Array Slot), fX3_workOut_b62 n j2 s0 C = some C0 → lv_has ls 6 [] → va_P (gD G) vwCl (wld G (C, Rm)) H → va_S (lwA G) s.heap H locs → W p l e (rmv 2 63) s m args below meth c H locs 0 0 (MQ below (Qv G (C0, Rm)) args s 0 0 (lwA G)) (F0 m 62 ls [.int s0, .ref (gA G 32)]) := by
    intro s0 C H locs ls h hl hP hS
    unfold fX3_workOut_b62 at h
    obtain ⟨C2, hq1, h⟩ := bn_x h
    refine rc_v hS (run_V hC wX3_push k593 (e_32 G _) rfl hP hS (As := [.int s0]) (rest := []) (mX3_push l G Rm hq1) rfl hl.1 (Nat.le_of_ble_eq_true rfl) ⟨by decide, by decide⟩ ⟨Nat.le_refl _, Nat.le_refl _⟩ rfl dX3_workOut_62) (fun H locs hP hS => ?_)
    refine lv_goto (tgt := 111) hx hb dX3_workOut_65 (by decide) ?_
    exact re_v' hC hr hP hS (congrArg (fun Z : Mm => (Z, Rm)) (Option.some.inj h)) dX3_workOut_111
  unfold fX3_workOut at h
  refine lv_iload_n hx hb dX3_workOut_0 rfl (lv_at hl 1 rfl) ?_
  refine lv_if_lt (tgt := 12) hx hb dX3_workOut_1 (by decide) (fun c3 => ?_) (fun c3 => ?_)
  · replace h := it_t c3 h
    refine lv_iload_n hx hb dX3_workOut_12 rfl (lv_at hl 1 rfl) ?_
    refine lv_ineg hx hb dX3_workOut_13 ?_
    refine rc_i hS (run_S hC wX3_isName k434 hP hS (As := [.int (-p1)]) (rest := []) (mX3_isName l G Rm rfl) rfl hl.1 (Nat.le_of_ble_eq_true rfl) ⟨by decide, by decide⟩ ⟨Nat.le_refl _, Nat.le_refl _⟩ rfl dX3_workOut_14) (fun H locs pb5 hP hS => ?_)
    refine lv_if_eq (tgt := 43) hx hb dX3_workOut_17 (by decide) (fun c6 => ?_) (fun c6 => ?_)
    · replace h := it_t c6 h
      refine lv_iload_n hx hb dX3_workOut_43 rfl (lv_at hl 1 rfl) ?_
      refine lv_bipush (v := (-33)) hx hb dX3_workOut_44 (by decide) ?_
      refine lv_icmp_ne (tgt := 68) hx hb dX3_workOut_46 (by decide) (fun c7 => ?_) (fun c7 => ?_)
      · replace h := it_f c7 h
        refine lv_iload_n hx hb dX3_workOut_68 rfl (lv_at hl 1 rfl) ?_
        refine lv_bipush (v := (-126)) hx hb dX3_workOut_69 (by decide) ?_
        refine lv_icmp_ne (tgt := 86) hx hb dX3_workOut_71 (by decide) (fun c8 => ?_) (fun c8 => ?_)
        · replace h := it_f c8 h
          refine lv_aload_n hx hb dX3_workOut_86 rfl (lv_at hl 0 rfl) ?_
          obtain ⟨r10, C11, hq9, h⟩ := bp_x h
          refine rc_i hS (run_V hC wX3_pop k585 (e_32 G _) rfl hP hS (As := []) (rest := []) (mX3_pop l G Rm hq9) rfl hl.1 (Nat.le_of_ble_eq_true rfl) ⟨by decide, by decide⟩ ⟨Nat.le_refl _, Nat.le_refl _⟩ rfl dX3_workOut_87) (fun H locs pb12 hP hS => ?_)
          refine lv_istore (lv' := [(4, .int r10), (0, .ref (gA G 32)), (1, .int p1), (2, .ref (gA G (hdc j2))), (3, .int p3)]) hx hb dX3_workOut_90 hl (by decide) rfl (fun ls hl => ?_)
          refine lv_aload_n hx hb dX3_workOut_92 rfl (lv_at hl 1 rfl) ?_
          obtain ⟨r14, C15, hq13, h⟩ := bp_x h
          refine rc_i hS (run_V hC wX3_pop k585 (e_32 G _) rfl hP hS (As := []) (rest := []) (mX3_pop l G Rm hq13) rfl hl.1 (Nat.le_of_ble_eq_true rfl) ⟨by decide, by decide⟩ ⟨Nat.le_refl _, Nat.le_refl _⟩ rfl dX3_workOut_93) (fun H locs pb16 hP hS => ?_)
          refine lv_istore (lv' := [(5, .int r14), (4, .int r10), (0, .ref (gA G 32)), (1, .int p1), (2, .ref (gA G (hdc j2))), (3, .int p3)]) hx hb dX3_workOut_96 hl (by decide) rfl (fun ls hl => ?_)
          refine lv_aload_n hx hb dX3_workOut_98 rfl (lv_at hl 2 rfl) ?_
          refine lv_iload_n hx hb dX3_workOut_99 rfl (lv_at hl 3 rfl) ?_
          refine lv_ineg hx hb dX3_workOut_100 ?_
          refine lv_iload hx hb dX3_workOut_101 (lv_at hl 0 rfl) ?_
          refine lv_iload hx hb dX3_workOut_103 (lv_at hl 1 rfl) ?_
          obtain ⟨r18, hq17, h⟩ := bn_x h
          refine rc_i hS (run_S hC wX3_joined k610 hP hS (As := [.int (-p1), .int r14, .int r10]) (rest := [.ref (gA G 32)]) (mX3_joined l G Rm hq17) rfl hl.1 (Nat.le_of_ble_eq_true rfl) ⟨by decide, by decide⟩ ⟨Nat.le_refl _, Nat.le_refl _⟩ rfl dX3_workOut_105) (fun H locs pb19 hP hS => ?_)
          obtain ⟨C21, hq20, h⟩ := bn_x h
          refine rc_v hS (run_V hC wX3_push k593 (e_32 G _) rfl hP hS (As := [.int r18]) (rest := []) (mX3_push l G Rm hq20) rfl hl.1 (Nat.le_of_ble_eq_true rfl) ⟨by decide, by decide⟩ ⟨Nat.le_refl _, Nat.le_refl _⟩ rfl dX3_workOut_108) (fun H locs hP hS => ?_)
          exact re_v' hC hr hP hS (congrArg (fun Z : Mm => (Z, Rm)) (Option.some.inj h)) dX3_workOut_111
        · replace h := it_t c8 h
          refine lv_aload_n hx hb dX3_workOut_74 rfl (lv_at hl 0 rfl) ?_
          refine lv_aload_n hx hb dX3_workOut_75 rfl (lv_at hl 0 rfl) ?_
          obtain ⟨r23, C24, hq22, h⟩ := bp_x h
          refine rc_i hS (run_V hC wX3_pop k585 (e_32 G _) rfl hP hS (As := []) (rest := [.ref (gA G 32)]) (mX3_pop l G Rm hq22) rfl hl.1 (Nat.le_of_ble_eq_true rfl) ⟨by decide, by decide⟩ ⟨Nat.le_refl _, Nat.le_refl _⟩ rfl dX3_workOut_76) (fun H locs pb25 hP hS => ?_)
          refine lv_ineg hx hb dX3_workOut_79 ?_
          obtain ⟨C27, hq26, h⟩ := bn_x h
          refine rc_v hS (run_V hC wX3_push k593 (e_32 G _) rfl hP hS (As := [.int (-r23)]) (rest := []) (mX3_push l G Rm hq26) rfl hl.1 (Nat.le_of_ble_eq_true rfl) ⟨by decide, by decide⟩ ⟨Nat.le_refl _, Nat.le_refl _⟩ rfl dX3_workOut_80) (fun H locs hP hS => ?_)
          refine lv_goto (tgt := 111) hx hb dX3_workOut_83 (by decide) ?_
          exact re_v' hC hr hP hS (congrArg (fun Z : Mm => (Z, Rm)) (Option.some.inj h)) dX3_workOut_111
      · replace h := it_t c7 h
        refine lv_aload_n hx hb dX3_workOut_49 rfl (lv_at hl 0 rfl) ?_
        refine lv_aload_n hx hb dX3_workOut_50 rfl (lv_at hl 0 rfl) ?_
        obtain ⟨r29, C30, hq28, h⟩ := bp_x h
        refine rc_i hS (run_V hC wX3_pop k585 (e_32 G _) rfl hP hS (As := []) (rest := [.ref (gA G 32)]) (mX3_pop l G Rm hq28) rfl hl.1 (Nat.le_of_ble_eq_true rfl) ⟨by decide, by decide⟩ ⟨Nat.le_refl _, Nat.le_refl _⟩ rfl dX3_workOut_51) (fun H locs pb31 hP hS => ?_)
        refine lv_if_ne (tgt := 61) hx hb dX3_workOut_54 (by decide) (fun c32 => ?_) (fun c32 => ?_)
        · replace h := it_f c32 h
          refine lv_iconst (v := 0) hx hb dX3_workOut_61 (by decide) ?_
          exact bl62 0 C30 _ _ _ h (lv_sub hl [] rfl) hP hS
        · replace h := it_t c32 h
          refine lv_iconst (v := 1) hx hb dX3_workOut_57 (by decide) ?_
          refine lv_goto (tgt := 62) hx hb dX3_workOut_58 (by decide) ?_
          exact bl62 1 C30 _ _ _ h (lv_sub hl [] rfl) hP hS
    · replace h := it_f c6 h
      refine lv_aload_n hx hb dX3_workOut_20 rfl (lv_at hl 0 rfl) ?_
      refine lv_iload_n hx hb dX3_workOut_21 rfl (lv_at hl 1 rfl) ?_
      refine lv_ineg hx hb dX3_workOut_22 ?_
      refine lv_aload_n hx hb dX3_workOut_23 rfl (lv_at hl 2 rfl) ?_
      refine lv_iload_n hx hb dX3_workOut_24 rfl (lv_at hl 3 rfl) ?_
      refine lv_sipush (v := 10000) hx hb dX3_workOut_25 (by decide) ?_
      refine lv_idiv hx hb dX3_workOut_28 (by decide) ?_
      refine lv_iload_n hx hb dX3_workOut_29 rfl (lv_at hl 3 rfl) ?_
      refine lv_sipush (v := 10000) hx hb dX3_workOut_30 (by decide) ?_
      refine r_irem hx hb dX3_workOut_33 (by decide) ?_
      obtain ⟨r34, hq33, h⟩ := bn_x h
      refine rc_i hS (run_S hC wX3_valueOf k597 hP hS (As := [.int (-p1), .ref (gA G (hdc j2)), .int (p3 / 10000), .int (irm p3 10000)]) (rest := [.ref (gA G 32)]) (mX3_valueOf l G Rm hj2 hq33) rfl hl.1 (Nat.le_of_ble_eq_true rfl) ⟨by decide, by decide⟩ ⟨Nat.le_refl _, Nat.le_refl _⟩ rfl dX3_workOut_34) (fun H locs pb35 hP hS => ?_)
      obtain ⟨C37, hq36, h⟩ := bn_x h
      refine rc_v hS (run_V hC wX3_push k593 (e_32 G _) rfl hP hS (As := [.int r34]) (rest := []) (mX3_push l G Rm hq36) rfl hl.1 (Nat.le_of_ble_eq_true rfl) ⟨by decide, by decide⟩ ⟨Nat.le_refl _, Nat.le_refl _⟩ rfl dX3_workOut_37) (fun H locs hP hS => ?_)
      refine lv_goto (tgt := 111) hx hb dX3_workOut_40 (by decide) ?_
      exact re_v' hC hr hP hS (congrArg (fun Z : Mm => (Z, Rm)) (Option.some.inj h)) dX3_workOut_111
  · replace h := it_f c3 h
    refine lv_aload_n hx hb dX3_workOut_4 rfl (lv_at hl 0 rfl) ?_
    refine lv_iload_n hx hb dX3_workOut_5 rfl (lv_at hl 1 rfl) ?_
    obtain ⟨C39, hq38, h⟩ := bn_x h
    refine rc_v hS (run_V hC wX3_push k593 (e_32 G _) rfl hP hS (As := [.int p1]) (rest := []) (mX3_push l G Rm hq38) rfl hl.1 (Nat.le_of_ble_eq_true rfl) ⟨by decide, by decide⟩ ⟨Nat.le_refl _, Nat.le_refl _⟩ rfl dX3_workOut_6) (fun H locs hP hS => ?_)
    refine lv_goto (tgt := 111) hx hb dX3_workOut_9 (by decide) ?_
    exact re_v' hC hr hP hS (congrArg (fun Z : Mm => (Z, Rm)) (Option.some.inj h)) dX3_workOut_111
set_option maxHeartbeats 4000000 in
set_option maxRecDepth 100000 in
theorem mX3_numberFor (l : Launch) (G : gp) (Rm : Mm) {n : Nat} {j1 : Nat} (hj1 : j1 < 7) {p2 : Int32} {C : Mm} {r0 : Int32} {C0 : Mm} (h : fX3_numberFor n j1 p2 C = some (r0, C0)) : Met l yX3_numberFor (wsy yX3_numberFor cX3_numberFor 6 (some .int)) (rmv 3 88) (va_Pc [.ref (gA G 32), .ref (gA G (hdc j1)), .int p2] (Rl G (C, Rm))) (Qi G PT r0 (C0, Rm)) 0 0 (lwA G) := by
  refine met_i [.ref (gA G 32), .ref (gA G (hdc j1)), .int p2] wX3_numberFor.2.2.2.2.2 (Nat.le_of_ble_eq_true rfl) ?_
  intro p e s m args below meth c ls hC hr hP hl
  have hC : Cx G p s m args meth c cX3_numberFor RX3 6 := hC
  have hx := hC.1
  have hb := hC.2.1
  have hown := hC.2.2.2.1
  have hts := hC.2.2.2.2.1
  have hS : va_S (lwA G) s.heap s.heap [] := va_S.rf
  have hl : lv_has ls 6 [(0, .ref (gA G 32)), (1, .ref (gA G (hdc j1))), (2, .int p2)] := hl
  have bl100 : ∀ (k19 : Int32 → Int32 → Int32 → Mm → Option (Int32 × Mm)) (hk19 : ∀ (y2 : Int32) (y3 : Int32) (y4 : Int32) (C : Mm) (H : Heap) (locs : List Loc) (ls : Array Slot), k19 y2 y3 y4 C = some (r0, C0) → lv_has ls 6 [(0, .ref (gA G 32)), (1, .ref (gA G (hdc j1))), (2, .int y2), (3, .int y3), (4, .int y4)] → va_P (gD G) vwCl (wld G (C, Rm)) H → va_S (lwA G) s.heap H locs → W p l e (rmv 3 88) s m args below meth c H locs 0 0 (MQ below (Qi G PT r0 (C0, Rm)) args s 0 0 (lwA G)) (F0 m 19 ls [])), ∀ (y2 : Int32) (y3 : Int32) (y4 : Int32) (C : Mm) (H : Heap) (locs : List Loc) (ls : Array Slot), fX3_numberFor_b100 n j1 k19 y2 y3 y4 C = some (r0, C0) → lv_has ls 6 [(0, .ref (gA G 32)), (1, .ref (gA G (hdc j1))), (2, .int y2), (3, .int y3), (4, .int y4)] → va_P (gD G) vwCl (wld G (C, Rm)) H → va_S (lwA G) s.heap H locs → W p l e (rmv 3 88) s m args below meth c H locs 0 0 (MQ below (Qi G PT r0 (C0, Rm)) args s 0 0 (lwA G)) (F0 m 100 ls []) := by
    intro k19 hk19 y2 y3 y4 C H locs ls h hl hP hS
    unfold fX3_numberFor_b100 at h
    obtain ⟨x1, ex1⟩ : ∃ y : Int32, y = y4 + 1 := ⟨_, rfl⟩
    replace h := lt_y ex1 h
    refine lv_iinc (v := x1) (lv' := [(4, .int x1), (0, .ref (gA G 32)), (1, .ref (gA G (hdc j1))), (2, .int y2), (3, .int y3)]) hx hb dX3_numberFor_100 hl (k := 4) rfl (by rw [ex1]; rfl) (by decide) rfl (fun ls hl => ?_)
    refine lv_goto (tgt := 19) hx hb dX3_numberFor_103 (by decide) ?_
    exact hk19 y2 y3 x1 C _ _ _ h (lv_sub hl [1, 2, 3, 4, 0] rfl) hP hS
  have bl88 : ∀ (k19 : Int32 → Int32 → Int32 → Mm → Option (Int32 × Mm)) (hk19 : ∀ (y2 : Int32) (y3 : Int32) (y4 : Int32) (C : Mm) (H : Heap) (locs : List Loc) (ls : Array Slot), k19 y2 y3 y4 C = some (r0, C0) → lv_has ls 6 [(0, .ref (gA G 32)), (1, .ref (gA G (hdc j1))), (2, .int y2), (3, .int y3), (4, .int y4)] → va_P (gD G) vwCl (wld G (C, Rm)) H → va_S (lwA G) s.heap H locs → W p l e (rmv 3 88) s m args below meth c H locs 0 0 (MQ below (Qi G PT r0 (C0, Rm)) args s 0 0 (lwA G)) (F0 m 19 ls [])), ∀ (y2 : Int32) (y4 : Int32) (s0 : Int32) (C : Mm) (H : Heap) (locs : List Loc) (ls : Array Slot), fX3_numberFor_b88 n j1 k19 y2 y4 s0 C = some (r0, C0) → lv_has ls 6 [(0, .ref (gA G 32)), (1, .ref (gA G (hdc j1))), (2, .int y2), (4, .int y4)] → va_P (gD G) vwCl (wld G (C, Rm)) H → va_S (lwA G) s.heap H locs → W p l e (rmv 3 88) s m args below meth c H locs 0 0 (MQ below (Qi G PT r0 (C0, Rm)) args s 0 0 (lwA G)) (F0 m 88 ls [.int s0]) := by
    intro k19 hk19 y2 y4 s0 C H locs ls h hl hP hS
    unfold fX3_numberFor_b88 at h
    refine lv_istore_n (lv' := [(3, .int s0), (0, .ref (gA G 32)), (1, .ref (gA G (hdc j1))), (2, .int y2), (4, .int y4)]) hx hb dX3_numberFor_88 rfl hl (by decide) rfl (fun ls hl => ?_)
    refine lv_goto (tgt := 100) hx hb dX3_numberFor_89 (by decide) ?_
    exact bl100 k19 hk19 y2 s0 y4 C _ _ _ h (lv_sub hl [1, 2, 3, 0, 4] rfl) hP hS
  have bl53 : ∀ (k19 : Int32 → Int32 → Int32 → Mm → Option (Int32 × Mm)) (hk19 : ∀ (y2 : Int32) (y3 : Int32) (y4 : Int32) (C : Mm) (H : Heap) (locs : List Loc) (ls : Array Slot), k19 y2 y3 y4 C = some (r0, C0) → lv_has ls 6 [(0, .ref (gA G 32)), (1, .ref (gA G (hdc j1))), (2, .int y2), (3, .int y3), (4, .int y4)] → va_P (gD G) vwCl (wld G (C, Rm)) H → va_S (lwA G) s.heap H locs → W p l e (rmv 3 88) s m args below meth c H locs 0 0 (MQ below (Qi G PT r0 (C0, Rm)) args s 0 0 (lwA G)) (F0 m 19 ls [])), ∀ (y2 : Int32) (y4 : Int32) (s0 : Int32) (C : Mm) (H : Heap) (locs : List Loc) (ls : Array Slot), fX3_numberFor_b53 n j1 k19 y2 y4 s0 C = some (r0, C0) → lv_has ls 6 [(0, .ref (gA G 32)), (1, .ref (gA G (hdc j1))), (2, .int y2), (4, .int y4)] → va_P (gD G) vwCl (wld G (C, Rm)) H → va_S (lwA G) s.heap H locs → W p l e (rmv 3 88) s m args below meth c H locs 0 0 (MQ below (Qi G PT r0 (C0, Rm)) args s 0 0 (lwA G)) (F0 m 53 ls [.int s0]) := by
    intro k19 hk19 y2 y4 s0 C H locs ls h hl hP hS
    unfold fX3_numberFor_b53 at h
    refine lv_istore_n (lv' := [(3, .int s0), (0, .ref (gA G 32)), (1, .ref (gA G (hdc j1))), (2, .int y2), (4, .int y4)]) hx hb dX3_numberFor_53 rfl hl (by decide) rfl (fun ls hl => ?_)
    refine lv_goto (tgt := 100) hx hb dX3_numberFor_54 (by decide) ?_
    exact bl100 k19 hk19 y2 s0 y4 C _ _ _ h (lv_sub hl [1, 2, 3, 0, 4] rfl) hP hS
  have bl19 : ∀ (fu : Nat), ∀ (y2 : Int32) (y3 : Int32) (y4 : Int32) (C : Mm) (H : Heap) (locs : List Loc) (ls : Array Slot), fX3_numberFor_h19 n j1 fu y2 y3 y4 C = some (r0, C0) → lv_has ls 6 [(0, .ref (gA G 32)), (1, .ref (gA G (hdc j1))), (2, .int y2), (3, .int y3), (4, .int y4)] → va_P (gD G) vwCl (wld G (C, Rm)) H → va_S (lwA G) s.heap H locs → W p l e (rmv 3 88) s m args below meth c H locs 0 0 (MQ below (Qi G PT r0 (C0, Rm)) args s 0 0 (lwA G)) (F0 m 19 ls []) := by
    intro fu
    induction fu with
    | zero =>
      intro y2 y3 y4 C H locs ls h hl hP hS
      rw [fX3_numberFor_h19.eq_1] at h
      cases h
    | succ fu ih =>
      intro y2 y3 y4 C H locs ls h hl hP hS
      rw [fX3_numberFor_h19.eq_2] at h
      refine lv_iload hx hb dX3_numberFor_19 (lv_at hl 4 rfl) ?_
      refine lv_aload_n hx hb dX3_numberFor_21 rfl (lv_at hl 0 rfl) ?_
      refine r_get (v := .int (C.1 32 1)) hC inX3 hP (e_32 G _) rfl 1 (by decide) rfl k66 rfl dX3_numberFor_22 ?_
      refine lv_icmp_ge (tgt := 106) hx hb dX3_numberFor_25 (by decide) (fun c2 => ?_) (fun c2 => ?_)
      · replace h := it_t c2 h
        refine lv_iconst (v := 0) hx hb dX3_numberFor_106 (by decide) ?_
        exact re_i' hC hr hP hS (pr_1 h) (congrArg (fun Z : Mm => (Z, Rm)) (pr_2 h)) dX3_numberFor_107
      · replace h := it_f c2 h
        refine lv_aload_n hx hb dX3_numberFor_28 rfl (lv_at hl 0 rfl) ?_
        refine r_get (v := .ref (gA G 33)) hC inX3 hP (e_32 G _) rfl 0 (by decide) rfl k65 rfl dX3_numberFor_29 ?_
        refine lv_iload hx hb dX3_numberFor_32 (lv_at hl 4 rfl) ?_
        by_cases c3 : y4 < (0 : Int32) ∨ 128 ≤ Int32.toNatClampNeg y4
        · cases it_t c3 h
        replace h := it_f c3 h
        refine r_iald hC hP (f := C.1 33) (e_33 G _) c3 dX3_numberFor_34 ?_
        refine lv_topi (fun x4 ex4 => ?_)
        replace h := lt_y ex4 h
        refine lv_istore (lv' := [(5, .int x4), (0, .ref (gA G 32)), (1, .ref (gA G (hdc j1))), (2, .int y2), (3, .int y3), (4, .int y4)]) hx hb dX3_numberFor_35 hl (by decide) rfl (fun ls hl => ?_)
        refine lv_iload_n hx hb dX3_numberFor_37 rfl (lv_at hl 4 rfl) ?_
        refine lv_if_eq (tgt := 57) hx hb dX3_numberFor_38 (by decide) (fun c5 => ?_) (fun c5 => ?_)
        · replace h := it_t c5 h
          refine lv_iload hx hb dX3_numberFor_57 (lv_at hl 0 rfl) ?_
          refine lv_bipush (v := (-59)) hx hb dX3_numberFor_59 (by decide) ?_
          refine lv_icmp_ne (tgt := 69) hx hb dX3_numberFor_61 (by decide) (fun c6 => ?_) (fun c6 => ?_)
          · replace h := it_f c6 h
            refine lv_iload hx hb dX3_numberFor_69 (lv_at hl 0 rfl) ?_
            refine lv_bipush (v := (-63)) hx hb dX3_numberFor_71 (by decide) ?_
            refine lv_icmp_ne (tgt := 92) hx hb dX3_numberFor_73 (by decide) (fun c7 => ?_) (fun c7 => ?_)
            · replace h := it_f c7 h
              refine lv_aload_n hx hb dX3_numberFor_92 rfl (lv_at hl 1 rfl) ?_
              refine lv_iload hx hb dX3_numberFor_93 (lv_at hl 0 rfl) ?_
              refine lv_aload_n hx hb dX3_numberFor_95 rfl (lv_at hl 2 rfl) ?_
              refine lv_iload_n hx hb dX3_numberFor_96 rfl (lv_at hl 3 rfl) ?_
              obtain ⟨C9, hq8, h⟩ := bn_x h
              refine rc_v hS (run_V hC wX3_workOut k589 (e_32 G _) rfl hP hS (As := [.int x4, .ref (gA G (hdc j1)), .int y2]) (rest := []) (mX3_workOut l G Rm hj1 hq8) rfl hl.1 (Nat.le_of_ble_eq_true rfl) ⟨by decide, by decide⟩ ⟨Nat.le_refl _, Nat.le_refl _⟩ rfl dX3_numberFor_97) (fun H locs hP hS => ?_)
              exact bl100 (fX3_numberFor_h19 n j1 fu) ih y2 y3 y4 C9 _ _ _ h (lv_sub hl [1, 2, 3, 4, 5] rfl) hP hS
            · replace h := it_t c7 h
              refine lv_aload_n hx hb dX3_numberFor_76 rfl (lv_at hl 1 rfl) ?_
              obtain ⟨r11, C12, hq10, h⟩ := bp_x h
              refine rc_i hS (run_V hC wX3_pop k585 (e_32 G _) rfl hP hS (As := []) (rest := []) (mX3_pop l G Rm hq10) rfl hl.1 (Nat.le_of_ble_eq_true rfl) ⟨by decide, by decide⟩ ⟨Nat.le_refl _, Nat.le_refl _⟩ rfl dX3_numberFor_77) (fun H locs pb13 hP hS => ?_)
              refine lv_if_ne (tgt := 87) hx hb dX3_numberFor_80 (by decide) (fun c14 => ?_) (fun c14 => ?_)
              · replace h := it_f c14 h
                refine lv_iconst (v := 0) hx hb dX3_numberFor_87 (by decide) ?_
                exact bl88 (fX3_numberFor_h19 n j1 fu) ih y2 y4 0 C12 _ _ _ h (lv_sub hl [1, 2, 3, 5] rfl) hP hS
              · replace h := it_t c14 h
                refine lv_iconst (v := 1) hx hb dX3_numberFor_83 (by decide) ?_
                refine lv_goto (tgt := 88) hx hb dX3_numberFor_84 (by decide) ?_
                exact bl88 (fX3_numberFor_h19 n j1 fu) ih y2 y4 1 C12 _ _ _ h (lv_sub hl [1, 2, 3, 5] rfl) hP hS
          · replace h := it_t c6 h
            refine lv_aload_n hx hb dX3_numberFor_64 rfl (lv_at hl 1 rfl) ?_
            obtain ⟨r16, C17, hq15, h⟩ := bp_x h
            refine rc_i hS (run_V hC wX3_pop k585 (e_32 G _) rfl hP hS (As := []) (rest := []) (mX3_pop l G Rm hq15) rfl hl.1 (Nat.le_of_ble_eq_true rfl) ⟨by decide, by decide⟩ ⟨Nat.le_refl _, Nat.le_refl _⟩ rfl dX3_numberFor_65) (fun H locs pb18 hP hS => ?_)
            exact re_i' hC hr hP hS (pr_1 h) (congrArg (fun Z : Mm => (Z, Rm)) (pr_2 h)) dX3_numberFor_68
        · replace h := it_f c5 h
          refine lv_iload hx hb dX3_numberFor_41 (lv_at hl 0 rfl) ?_
          refine lv_bipush (v := (-59)) hx hb dX3_numberFor_43 (by decide) ?_
          refine lv_icmp_eq (tgt := 52) hx hb dX3_numberFor_45 (by decide) (fun c19 => ?_) (fun c19 => ?_)
          · replace h := it_t c19 h
            refine lv_iconst (v := 0) hx hb dX3_numberFor_52 (by decide) ?_
            exact bl53 (fX3_numberFor_h19 n j1 fu) ih y2 y4 0 C _ _ _ h (lv_sub hl [1, 2, 3, 5] rfl) hP hS
          · replace h := it_f c19 h
            refine lv_iconst (v := 1) hx hb dX3_numberFor_48 (by decide) ?_
            refine lv_goto (tgt := 53) hx hb dX3_numberFor_49 (by decide) ?_
            exact bl53 (fX3_numberFor_h19 n j1 fu) ih y2 y4 1 C _ _ _ h (lv_sub hl [1, 2, 3, 5] rfl) hP hS
  unfold fX3_numberFor at h
  refine lv_aload_n hx hb dX3_numberFor_0 rfl (lv_at hl 0 rfl) ?_
  refine r_get (v := .int (C.1 32 1)) hC inX3 hP (e_32 G _) rfl 1 (by decide) rfl k66 rfl dX3_numberFor_1 ?_
  refine lv_if_ne (tgt := 9) hx hb dX3_numberFor_4 (by decide) (fun c20 => ?_) (fun c20 => ?_)
  · replace h := it_f c20 h
    refine lv_aload_n hx hb dX3_numberFor_9 rfl (lv_at hl 0 rfl) ?_
    refine lv_iconst (v := 0) hx hb dX3_numberFor_10 (by decide) ?_
    obtain ⟨C21, eC21⟩ : ∃ Z : Mm, Z = wrI C 32 5 0 := ⟨_, rfl⟩
    replace h := lt_y eC21 h
    refine r_put (X' := (C21, Rm)) hC inX3 tyX3 tyX3_ok nmX3 hP hS (e_32 G _) rfl 5 (by decide) rfl k70 rfl (v := .int 0) rfl rfl (Nat.le_of_ble_eq_true rfl) (p_32_5 G _ _ eC21) dX3_numberFor_11 (fun H locs hP hS => ?_)
    refine lv_iconst (v := 0) hx hb dX3_numberFor_14 (by decide) ?_
    refine lv_istore_n (lv' := [(3, .int 0), (0, .ref (gA G 32)), (1, .ref (gA G (hdc j1))), (2, .int p2)]) hx hb dX3_numberFor_15 rfl hl (by decide) rfl (fun ls hl => ?_)
    refine lv_iconst (v := 0) hx hb dX3_numberFor_16 (by decide) ?_
    refine lv_istore (lv' := [(4, .int 0), (3, .int 0), (0, .ref (gA G 32)), (1, .ref (gA G (hdc j1))), (2, .int p2)]) hx hb dX3_numberFor_17 hl (by decide) rfl (fun ls hl => ?_)
    exact bl19 n p2 0 0 C21 _ _ _ h (lv_sub hl [2, 3, 4, 1, 0] rfl) hP hS
  · replace h := it_t c20 h
    refine lv_iconst (v := 1) hx hb dX3_numberFor_7 (by decide) ?_
    exact re_i' hC hr hP hS (pr_1 h) (congrArg (fun Z : Mm => (Z, Rm)) (pr_2 h)) dX3_numberFor_8
