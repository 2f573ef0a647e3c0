set_option maxHeartbeats 4000000 in
set_option maxRecDepth 100000 in
theorem mX0_size (l : Launch) (G : gp) (Rm : Mm) {C : Mm} {r0 : Int32} (h : fX0_size C = r0) : Met l yX0_size (wsy yX0_size cX0_size 1 (some .int)) (rmv 0 0) (va_Pc [.ref (gA G 36)] (Rl G (C, Rm))) (Qi G PT r0 (C, Rm)) 0 0 (lwA G) := by
  refine met_i [.ref (gA G 36)] wX0_size.2.2.2.2.2 (Nat.le_of_ble_eq_true rfl) ?_
  intro p e s m args below meth c ls hC hr hP hl
  have hC : Cx G p s m args meth c cX0_size RX0 1 := hC
  have hx := hC.1
  have hb := hC.2.1
  have hown := hC.2.2.2.1
  have hts := hC.2.2.2.2.1
  have hS : va_S (lwA G) s.heap s.heap [] := va_S.rf
  have hl : lv_has ls 1 [(0, .ref (gA G 36))] := hl
  unfold fX0_size at h
  refine lv_aload_n hx hb dX0_size_0 rfl (lv_at hl 0 rfl) ?_
  refine r_get (v := .int (C.1 36 6)) hC inX0 hP (e_36 G _) rfl 6 (by decide) rfl k102 rfl dX0_size_1 ?_
  exact re_i' hC hr hP hS h rfl dX0_size_4
set_option maxHeartbeats 4000000 in
set_option maxRecDepth 100000 in
theorem mX0_seconds (l : Launch) (G : gp) (Rm : Mm) {C : Mm} {r0 : Int32} (h : fX0_seconds C = r0) : Met l yX0_seconds (wsy yX0_seconds cX0_seconds 1 (some .int)) (rmv 0 0) (va_Pc [.ref (gA G 36)] (Rl G (C, Rm))) (Qi G PT r0 (C, Rm)) 0 0 (lwA G) := by
  refine met_i [.ref (gA G 36)] wX0_seconds.2.2.2.2.2 (Nat.le_of_ble_eq_true rfl) ?_
  intro p e s m args below meth c ls hC hr hP hl
  have hC : Cx G p s m args meth c cX0_seconds RX0 1 := hC
  have hx := hC.1
  have hb := hC.2.1
  have hown := hC.2.2.2.1
  have hts := hC.2.2.2.2.1
  have hS : va_S (lwA G) s.heap s.heap [] := va_S.rf
  have hl : lv_has ls 1 [(0, .ref (gA G 36))] := hl
  unfold fX0_seconds at h
  refine lv_aload_n hx hb dX0_seconds_0 rfl (lv_at hl 0 rfl) ?_
  refine r_get (v := .int (C.1 36 7)) hC inX0 hP (e_36 G _) rfl 7 (by decide) rfl k103 rfl dX0_seconds_1 ?_
  exact re_i' hC hr hP hS h rfl dX0_seconds_4
set_option maxHeartbeats 4000000 in
set_option maxRecDepth 100000 in
theorem mX0_holds (l : Launch) (G : gp) (Rm : Mm) {C : Mm} {r0 : Int32} (h : fX0_holds C = r0) : Met l yX0_holds (wsy yX0_holds cX0_holds 1 (some .int)) (rmv 0 0) (va_Pc [.ref (gA G 36)] (Rl G (C, Rm))) (Qi G PT r0 (C, Rm)) 0 0 (lwA G) := by
  refine met_i [.ref (gA G 36)] wX0_holds.2.2.2.2.2 (Nat.le_of_ble_eq_true rfl) ?_
  intro p e s m args below meth c ls hC hr hP hl
  have hC : Cx G p s m args meth c cX0_holds RX0 1 := hC
  have hx := hC.1
  have hb := hC.2.1
  have hown := hC.2.2.2.1
  have hts := hC.2.2.2.2.1
  have hS : va_S (lwA G) s.heap s.heap [] := va_S.rf
  have hl : lv_has ls 1 [(0, .ref (gA G 36))] := hl
  unfold fX0_holds at h
  refine lv_aload_n hx hb dX0_holds_0 rfl (lv_at hl 0 rfl) ?_
  refine r_get (v := .int (C.1 36 8)) hC inX0 hP (e_36 G _) rfl 8 (by decide) rfl k104 rfl dX0_holds_1 ?_
  exact re_i' hC hr hP hS h rfl dX0_holds_4
set_option maxHeartbeats 4000000 in
set_option maxRecDepth 100000 in
theorem mX0_told (l : Launch) (G : gp) (Rm : Mm) {p1 : Int32} {p2 : Int32} {C : Mm} {r0 : Int32} (h : fX0_told p1 p2 C = some r0) : Met l yX0_told (wsy yX0_told cX0_told 3 (some .int)) (rmv 0 0) (va_Pc [.ref (gA G 36), .int p1, .int p2] (Rl G (C, Rm))) (Qi G PT r0 (C, Rm)) 0 0 (lwA G) := by
  refine met_i [.ref (gA G 36), .int p1, .int p2] wX0_told.2.2.2.2.2 (Nat.le_of_ble_eq_true rfl) ?_
  intro p e s m args below meth c ls hC hr hP hl
  have hC : Cx G p s m args meth c cX0_told RX0 3 := hC
  have hx := hC.1
  have hb := hC.2.1
  have hown := hC.2.2.2.1
  have hts := hC.2.2.2.2.1
  have hS : va_S (lwA G) s.heap s.heap [] := va_S.rf
  have hl : lv_has ls 3 [(0, .ref (gA G 36)), (1, .int p1), (2, .int p2)] := hl
  unfold fX0_told at h
  refine lv_iload_n hx hb dX0_told_0 rfl (lv_at hl 1 rfl) ?_
  refine lv_if_lt (tgt := 12) hx hb dX0_told_1 (by decide) (fun c1 => ?_) (fun c1 => ?_)
  · replace h := it_t c1 h
    refine lv_ldc hx hb (v := (-2000000000)) hown (hts _ k572) dX0_told_12 ?_
    exact re_i' hC hr hP hS (Option.some.inj h) rfl dX0_told_14
  · replace h := it_f c1 h
    refine lv_iload_n hx hb dX0_told_4 rfl (lv_at hl 1 rfl) ?_
    refine lv_aload_n hx hb dX0_told_5 rfl (lv_at hl 0 rfl) ?_
    refine r_get (v := .int (C.1 36 6)) hC inX0 hP (e_36 G _) rfl 6 (by decide) rfl k102 rfl dX0_told_6 ?_
    refine lv_icmp_lt (tgt := 15) hx hb dX0_told_9 (by decide) (fun c2 => ?_) (fun c2 => ?_)
    · replace h := it_t c2 h
      refine lv_iload_n hx hb dX0_told_15 rfl (lv_at hl 2 rfl) ?_
      by_cases c3 : p2 = 0
      · replace h := it_t c3 h
        refine lv_tableIn (off := 28) (tgt := 44) hx hb dX0_told_16 (by rw [c3]; decide) (by rw [c3]; decide) (by rw [c3]; rfl) (by decide) ?_
        refine lv_aload_n hx hb dX0_told_44 rfl (lv_at hl 0 rfl) ?_
        refine r_get (v := .ref (gA G 37)) hC inX0 hP (e_36 G _) rfl 0 (by decide) rfl k96 rfl dX0_told_45 ?_
        refine lv_iload_n hx hb dX0_told_48 rfl (lv_at hl 1 rfl) ?_
        by_cases c4 : p1 < (0 : Int32) ∨ 80 ≤ Int32.toNatClampNeg p1
        · cases it_t c4 h
        replace h := it_f c4 h
        refine r_iald hC hP (f := C.1 37) (e_37 G _) c4 dX0_told_49 ?_
        exact re_i' hC hr hP hS (Option.some.inj h) rfl dX0_told_50
      replace h := it_f c3 h
      by_cases c5 : p2 = 1
      · replace h := it_t c5 h
        refine lv_tableIn (off := 35) (tgt := 51) hx hb dX0_told_16 (by rw [c5]; decide) (by rw [c5]; decide) (by rw [c5]; rfl) (by decide) ?_
        refine lv_aload_n hx hb dX0_told_51 rfl (lv_at hl 0 rfl) ?_
        refine r_get (v := .ref (gA G 38)) hC inX0 hP (e_36 G _) rfl 1 (by decide) rfl k97 rfl dX0_told_52 ?_
        refine lv_iload_n hx hb dX0_told_55 rfl (lv_at hl 1 rfl) ?_
        by_cases c6 : p1 < (0 : Int32) ∨ 80 ≤ Int32.toNatClampNeg p1
        · cases it_t c6 h
        replace h := it_f c6 h
        refine r_iald hC hP (f := C.1 38) (e_38 G _) c6 dX0_told_56 ?_
        exact re_i' hC hr hP hS (Option.some.inj h) rfl dX0_told_57
      replace h := it_f c5 h
      by_cases c7 : p2 = 2
      · replace h := it_t c7 h
        refine lv_tableIn (off := 42) (tgt := 58) hx hb dX0_told_16 (by rw [c7]; decide) (by rw [c7]; decide) (by rw [c7]; rfl) (by decide) ?_
        refine lv_aload_n hx hb dX0_told_58 rfl (lv_at hl 0 rfl) ?_
        refine r_get (v := .ref (gA G 39)) hC inX0 hP (e_36 G _) rfl 2 (by decide) rfl k98 rfl dX0_told_59 ?_
        refine lv_iload_n hx hb dX0_told_62 rfl (lv_at hl 1 rfl) ?_
        by_cases c8 : p1 < (0 : Int32) ∨ 80 ≤ Int32.toNatClampNeg p1
        · cases it_t c8 h
        replace h := it_f c8 h
        refine r_iald hC hP (f := C.1 39) (e_39 G _) c8 dX0_told_63 ?_
        exact re_i' hC hr hP hS (Option.some.inj h) rfl dX0_told_64
      replace h := it_f c7 h
      refine lv_tsD (tgt := 65) hx hb dX0_told_16 rfl (ex_c (ti_ne (z := 0) rfl c3) (ex_c (ti_ne (z := 1) rfl c5) (ex_c (ti_ne (z := 2) rfl c7) ex_0))) (by decide) (by decide) ?_
      refine lv_aload_n hx hb dX0_told_65 rfl (lv_at hl 0 rfl) ?_
      refine r_get (v := .ref (gA G 40)) hC inX0 hP (e_36 G _) rfl 3 (by decide) rfl k99 rfl dX0_told_66 ?_
      refine lv_iload_n hx hb dX0_told_69 rfl (lv_at hl 1 rfl) ?_
      by_cases c9 : p1 < (0 : Int32) ∨ 80 ≤ Int32.toNatClampNeg p1
      · cases it_t c9 h
      replace h := it_f c9 h
      refine r_iald hC hP (f := C.1 40) (e_40 G _) c9 dX0_told_70 ?_
      exact re_i' hC hr hP hS (Option.some.inj h) rfl dX0_told_71
    · replace h := it_f c2 h
      refine lv_ldc hx hb (v := (-2000000000)) hown (hts _ k572) dX0_told_12 ?_
      exact re_i' hC hr hP hS (Option.some.inj h) rfl dX0_told_14
set_option maxHeartbeats 4000000 in
set_option maxRecDepth 100000 in
theorem mX0_beginAnew (l : Launch) (G : gp) (Rm : Mm) {C : Mm} {C0 : Mm} (h : fX0_beginAnew C = C0) : Met l yX0_beginAnew (wsy yX0_beginAnew cX0_beginAnew 1 none) (rmv 0 0) (va_Pc [.ref (gA G 36)] (Rl G (C, Rm))) (Qv G (C0, Rm)) 0 0 (lwA G) := by
  refine met_i [.ref (gA G 36)] wX0_beginAnew.2.2.2.2.2 (Nat.le_of_ble_eq_true rfl) ?_
  intro p e s m args below meth c ls hC hr hP hl
  have hC : Cx G p s m args meth c cX0_beginAnew RX0 1 := hC
  have hx := hC.1
  have hb := hC.2.1
  have hown := hC.2.2.2.1
  have hts := hC.2.2.2.2.1
  have hS : va_S (lwA G) s.heap s.heap [] := va_S.rf
  have hl : lv_has ls 1 [(0, .ref (gA G 36))] := hl
  unfold fX0_beginAnew at h
  refine lv_aload_n hx hb dX0_beginAnew_0 rfl (lv_at hl 0 rfl) ?_
  refine lv_iconst (v := 0) hx hb dX0_beginAnew_1 (by decide) ?_
  obtain ⟨C1, eC1⟩ : ∃ Z : Mm, Z = wrI C 36 13 0 := ⟨_, rfl⟩
  replace h := lt_y eC1 h
  refine r_put (X' := (C1, Rm)) hC inX0 tyX0 tyX0_ok nmX0 hP hS (e_36 G _) rfl 13 (by decide) rfl k109 rfl (v := .int 0) rfl rfl (Nat.le_of_ble_eq_true rfl) (p_36_13 G _ _ eC1) dX0_beginAnew_2 (fun H locs hP hS => ?_)
  refine lv_aload_n hx hb dX0_beginAnew_5 rfl (lv_at hl 0 rfl) ?_
  refine lv_iconst (v := 0) hx hb dX0_beginAnew_6 (by decide) ?_
  obtain ⟨C2, eC2⟩ : ∃ Z : Mm, Z = wrI C1 36 14 0 := ⟨_, rfl⟩
  replace h := lt_y eC2 h
  refine r_put (X' := (C2, Rm)) hC inX0 tyX0 tyX0_ok nmX0 hP hS (e_36 G _) rfl 14 (by decide) rfl k110 rfl (v := .int 0) rfl rfl (Nat.le_of_ble_eq_true rfl) (p_36_14 G _ _ eC2) dX0_beginAnew_7 (fun H locs hP hS => ?_)
  refine lv_aload_n hx hb dX0_beginAnew_10 rfl (lv_at hl 0 rfl) ?_
  refine lv_iconst (v := 0) hx hb dX0_beginAnew_11 (by decide) ?_
  obtain ⟨C3, eC3⟩ : ∃ Z : Mm, Z = wrI C2 36 15 0 := ⟨_, rfl⟩
  replace h := lt_y eC3 h
  refine r_put (X' := (C3, Rm)) hC inX0 tyX0 tyX0_ok nmX0 hP hS (e_36 G _) rfl 15 (by decide) rfl k111 rfl (v := .int 0) PZ0 rfl (Nat.le_of_ble_eq_true rfl) (p_36_15 G _ _ eC3) dX0_beginAnew_12 (fun H locs hP hS => ?_)
  exact re_v' hC hr hP hS (congrArg (fun Z : Mm => (Z, Rm)) h) dX0_beginAnew_15
set_option maxHeartbeats 4000000 in
set_option maxRecDepth 100000 in
theorem mX0_begin (l : Launch) (G : gp) (Rm : Mm) {j1 : Nat} (hj1 : j1 < 7) {C : Mm} {C0 : Mm} (h : fX0_begin j1 C = some C0) : Met l yX0_begin (wsy yX0_begin cX0_begin 2 none) (rmv 1 21) (va_Pc [.ref (gA G 36), .ref (gA G (hdc j1))] (Rl G (C, Rm))) (Qv G (C0, Rm)) 0 0 (lwA G) := by
  refine met_i [.ref (gA G 36), .ref (gA G (hdc j1))] wX0_begin.2.2.2.2.2 (Nat.le_of_ble_eq_true rfl) ?_
  intro p e s m args below meth c ls hC hr hP hl
  have hC : Cx G p s m args meth c cX0_begin RX0 2 := hC
  have hx := hC.1
  have hb := hC.2.1
  have hown := hC.2.2.2.1
  have hts := hC.2.2.2.2.1
  have hS : va_S (lwA G) s.heap s.heap [] := va_S.rf
  have hl : lv_has ls 2 [(0, .ref (gA G 36)), (1, .ref (gA G (hdc j1)))] := hl
  unfold fX0_begin at h
  refine lv_aload_n hx hb dX0_begin_0 rfl (lv_at hl 0 rfl) ?_
  refine lv_aload_n hx hb dX0_begin_1 rfl (lv_at hl 1 rfl) ?_
  refine lv_iconst (v := 0) hx hb dX0_begin_2 (by decide) ?_
  obtain ⟨r2, hq1, h⟩ := bn_x h
  refine rc_i hS (run_V hC wX5_number k460 (e_hc G _ hj1) rfl hP hS (As := [.int 0]) (rest := [.ref (gA G 36)]) (mX5_number l G Rm hj1 hq1) rfl hl.1 (Nat.le_of_ble_eq_true rfl) ⟨by decide, by decide⟩ ⟨Nat.le_refl _, Nat.le_refl _⟩ rfl dX0_begin_3) (fun H locs pb3 hP hS => ?_)
  obtain ⟨C4, eC4⟩ : ∃ Z : Mm, Z = wrI C 36 9 r2 := ⟨_, rfl⟩
  replace h := lt_y eC4 h
  refine r_put (X' := (C4, Rm)) hC inX0 tyX0 tyX0_ok nmX0 hP hS (e_36 G _) rfl 9 (by decide) rfl k105 rfl (v := .int r2) rfl rfl (Nat.le_of_ble_eq_true rfl) (p_36_9 G _ _ eC4) dX0_begin_6 (fun H locs hP hS => ?_)
  refine lv_aload_n hx hb dX0_begin_9 rfl (lv_at hl 0 rfl) ?_
  refine lv_aload_n hx hb dX0_begin_10 rfl (lv_at hl 1 rfl) ?_
  refine lv_iconst (v := 1) hx hb dX0_begin_11 (by decide) ?_
  obtain ⟨r6, hq5, h⟩ := bn_x h
  refine rc_i hS (run_V hC wX5_number k460 (e_hc G _ hj1) rfl hP hS (As := [.int 1]) (rest := [.ref (gA G 36)]) (mX5_number l G Rm hj1 hq5) rfl hl.1 (Nat.le_of_ble_eq_true rfl) ⟨by decide, by decide⟩ ⟨Nat.le_refl _, Nat.le_refl _⟩ rfl dX0_begin_12) (fun H locs pb7 hP hS => ?_)
  obtain ⟨C8, eC8⟩ : ∃ Z : Mm, Z = wrI C4 36 10 r6 := ⟨_, rfl⟩
  replace h := lt_y eC8 h
  refine r_put (X' := (C8, Rm)) hC inX0 tyX0 tyX0_ok nmX0 hP hS (e_36 G _) rfl 10 (by decide) rfl k106 rfl (v := .int r6) rfl rfl (Nat.le_of_ble_eq_true rfl) (p_36_10 G _ _ eC8) dX0_begin_15 (fun H locs hP hS => ?_)
  refine lv_aload_n hx hb dX0_begin_18 rfl (lv_at hl 0 rfl) ?_
  refine lv_aload_n hx hb dX0_begin_19 rfl (lv_at hl 1 rfl) ?_
  refine lv_iconst (v := 2) hx hb dX0_begin_20 (by decide) ?_
  obtain ⟨r10, hq9, h⟩ := bn_x h
  refine rc_i hS (run_V hC wX5_number k460 (e_hc G _ hj1) rfl hP hS (As := [.int 2]) (rest := [.ref (gA G 36)]) (mX5_number l G Rm hj1 hq9) rfl hl.1 (Nat.le_of_ble_eq_true rfl) ⟨by decide, by decide⟩ ⟨Nat.le_refl _, Nat.le_refl _⟩ rfl dX0_begin_21) (fun H locs pb11 hP hS => ?_)
  obtain ⟨C12, eC12⟩ : ∃ Z : Mm, Z = wrI C8 36 11 r10 := ⟨_, rfl⟩
  replace h := lt_y eC12 h
  refine r_put (X' := (C12, Rm)) hC inX0 tyX0 tyX0_ok nmX0 hP hS (e_36 G _) rfl 11 (by decide) rfl k107 rfl (v := .int r10) rfl rfl (Nat.le_of_ble_eq_true rfl) (p_36_11 G _ _ eC12) dX0_begin_24 (fun H locs hP hS => ?_)
  refine lv_aload_n hx hb dX0_begin_27 rfl (lv_at hl 0 rfl) ?_
  refine lv_iconst (v := 0) hx hb dX0_begin_28 (by decide) ?_
  obtain ⟨C13, eC13⟩ : ∃ Z : Mm, Z = wrI C12 36 6 0 := ⟨_, rfl⟩
  replace h := lt_y eC13 h
  refine r_put (X' := (C13, Rm)) hC inX0 tyX0 tyX0_ok nmX0 hP hS (e_36 G _) rfl 6 (by decide) rfl k102 rfl (v := .int 0) rfl rfl (Nat.le_of_ble_eq_true rfl) (p_36_6 G _ _ eC13) dX0_begin_29 (fun H locs hP hS => ?_)
  refine lv_aload_n hx hb dX0_begin_32 rfl (lv_at hl 0 rfl) ?_
  refine lv_iconst (v := 0) hx hb dX0_begin_33 (by decide) ?_
  obtain ⟨C14, eC14⟩ : ∃ Z : Mm, Z = wrI C13 36 7 0 := ⟨_, rfl⟩
  replace h := lt_y eC14 h
  refine r_put (X' := (C14, Rm)) hC inX0 tyX0 tyX0_ok nmX0 hP hS (e_36 G _) rfl 7 (by decide) rfl k103 rfl (v := .int 0) rfl rfl (Nat.le_of_ble_eq_true rfl) (p_36_7 G _ _ eC14) dX0_begin_34 (fun H locs hP hS => ?_)
  refine lv_aload_n hx hb dX0_begin_37 rfl (lv_at hl 0 rfl) ?_
  refine lv_iconst (v := 0) hx hb dX0_begin_38 (by decide) ?_
  obtain ⟨C15, eC15⟩ : ∃ Z : Mm, Z = wrI C14 36 8 0 := ⟨_, rfl⟩
  replace h := lt_y eC15 h
  refine r_put (X' := (C15, Rm)) hC inX0 tyX0 tyX0_ok nmX0 hP hS (e_36 G _) rfl 8 (by decide) rfl k104 rfl (v := .int 0) rfl rfl (Nat.le_of_ble_eq_true rfl) (p_36_8 G _ _ eC15) dX0_begin_39 (fun H locs hP hS => ?_)
  refine lv_aload_n hx hb dX0_begin_42 rfl (lv_at hl 0 rfl) ?_
  refine lv_iconst (v := 0) hx hb dX0_begin_43 (by decide) ?_
  obtain ⟨C16, eC16⟩ : ∃ Z : Mm, Z = wrI C15 36 12 0 := ⟨_, rfl⟩
  replace h := lt_y eC16 h
  refine r_put (X' := (C16, Rm)) hC inX0 tyX0 tyX0_ok nmX0 hP hS (e_36 G _) rfl 12 (by decide) rfl k108 rfl (v := .int 0) rfl rfl (Nat.le_of_ble_eq_true rfl) (p_36_12 G _ _ eC16) dX0_begin_44 (fun H locs hP hS => ?_)
  refine lv_aload_n hx hb dX0_begin_47 rfl (lv_at hl 0 rfl) ?_
  obtain ⟨C18, hq17⟩ : ∃ Z : Mm, fX0_beginAnew C16 = Z := ⟨_, rfl⟩
  replace h := lt_y hq17.symm h
  refine rc_v hS (run_V hC wX0_beginAnew k461 (e_36 G _) rfl hP hS (As := []) (rest := []) (mX0_beginAnew l G Rm hq17) rfl hl.1 (Nat.le_of_ble_eq_true rfl) ⟨by decide, by decide⟩ ⟨Nat.le_refl _, Nat.le_refl _⟩ rfl dX0_begin_48) (fun H locs hP hS => ?_)
  exact re_v' hC hr hP hS (congrArg (fun Z : Mm => (Z, Rm)) (Option.some.inj h)) dX0_begin_51
set_option maxHeartbeats 4000000 in
set_option maxRecDepth 100000 in
theorem mX0_run (l : Launch) (G : gp) (Rm : Mm) {n : Nat} {p1 : Int32} {C : Mm} {C0 : Mm} (h : fX0_run n p1 C = some C0) : Met l yX0_run (wsy yX0_run cX0_run 3 none) (rmv 0 0) (va_Pc [.ref (gA G 36), .int p1] (Rl G (C, Rm))) (Qv G (C0, Rm)) 0 0 (lwA G) := by
  refine met_i [.ref (gA G 36), .int p1] wX0_run.2.2.2.2.2 (Nat.le_of_ble_eq_true rfl) ?_
  intro p e s m args below meth c ls hC hr hP hl
  have hC : Cx G p s m args meth c cX0_run RX0 3 := hC
  have hx := hC.1
  have hb := hC.2.1
  have hown := hC.2.2.2.1
  have hts := hC.2.2.2.2.1
  have hS : va_S (lwA G) s.heap s.heap [] := va_S.rf
  have hl : lv_has ls 3 [(0, .ref (gA G 36)), (1, .int p1)] := hl
  have bl12 : ∀ (fu : Nat), ∀ (y2 : Int32) (C : Mm) (H : Heap) (locs : List Loc) (ls : Array Slot), fX0_run_h12 n fu y2 C = some C0 → lv_has ls 3 [(0, .ref (gA G 36)), (2, .int y2)] → va_P (gD G) vwCl (wld G (C, Rm)) H → va_S (lwA G) s.heap H locs → W p l e (rmv 0 0) s m args below meth c H locs 0 0 (MQ below (Qv G (C0, Rm)) args s 0 0 (lwA G)) (F0 m 12 ls []) := by
    intro fu
    induction fu with
    | zero =>
      intro y2 C H locs ls h hl hP hS
      rw [fX0_run_h12.eq_1] at h
      cases h
    | succ fu ih =>
      intro y2 C H locs ls h hl hP hS
      rw [fX0_run_h12.eq_2] at h
      refine lv_iload_n hx hb dX0_run_12 rfl (lv_at hl 1 rfl) ?_
      refine lv_if_le (tgt := 34) hx hb dX0_run_13 (by decide) (fun c1 => ?_) (fun c1 => ?_)
      · replace h := it_t c1 h
        refine lv_aload_n hx hb dX0_run_34 rfl (lv_at hl 0 rfl) ?_
        refine lv_iconst (v := 1) hx hb dX0_run_35 (by decide) ?_
        obtain ⟨C2, eC2⟩ : ∃ Z : Mm, Z = wrI C 36 15 1 := ⟨_, rfl⟩
        replace h := lt_y eC2 h
        refine r_put (X' := (C2, Rm)) hC inX0 tyX0 tyX0_ok nmX0 hP hS (e_36 G _) rfl 15 (by decide) rfl k111 rfl (v := .int 1) PZ1 rfl (Nat.le_of_ble_eq_true rfl) (p_36_15 G _ _ eC2) dX0_run_36 (fun H locs hP hS => ?_)
        exact re_v' hC hr hP hS (congrArg (fun Z : Mm => (Z, Rm)) (Option.some.inj h)) dX0_run_39
      · replace h := it_f c1 h
        refine lv_aload_n hx hb dX0_run_16 rfl (lv_at hl 0 rfl) ?_
        refine lv_dup hx hb dX0_run_17 rfl ?_
        refine r_get (v := .int (C.1 36 14)) hC inX0 hP (e_36 G _) rfl 14 (by decide) rfl k110 rfl dX0_run_18 ?_
        refine lv_iconst (v := 1) hx hb dX0_run_21 (by decide) ?_
        refine lv_iadd hx hb dX0_run_22 ?_
        obtain ⟨C3, eC3⟩ : ∃ Z : Mm, Z = wrI C 36 14 ((C.1 36 14) + 1) := ⟨_, rfl⟩
        replace h := lt_y eC3 h
        refine r_put (X' := (C3, Rm)) hC inX0 tyX0 tyX0_ok nmX0 hP hS (e_36 G _) rfl 14 (by decide) rfl k110 rfl (v := .int ((C.1 36 14) + 1)) rfl rfl (Nat.le_of_ble_eq_true rfl) (p_36_14 G _ _ eC3) dX0_run_23 (fun H locs hP hS => ?_)
        refine lv_iload_n hx hb dX0_run_26 rfl (lv_at hl 1 rfl) ?_
        refine lv_bipush (v := 10) hx hb dX0_run_27 (by decide) ?_
        refine lv_idiv hx hb dX0_run_29 (by decide) ?_
        refine lv_topi (fun x4 ex4 => ?_)
        replace h := lt_y ex4 h
        refine lv_istore_n (lv' := [(2, .int x4), (0, .ref (gA G 36))]) hx hb dX0_run_30 rfl hl (by decide) rfl (fun ls hl => ?_)
        refine lv_goto (tgt := 12) hx hb dX0_run_31 (by decide) ?_
        exact ih x4 C3 _ _ _ h (lv_sub hl [1, 0] rfl) hP hS
  unfold fX0_run at h
  refine lv_aload_n hx hb dX0_run_0 rfl (lv_at hl 0 rfl) ?_
  refine lv_iload_n hx hb dX0_run_1 rfl (lv_at hl 1 rfl) ?_
  obtain ⟨C5, eC5⟩ : ∃ Z : Mm, Z = wrI C 36 13 p1 := ⟨_, rfl⟩
  replace h := lt_y eC5 h
  refine r_put (X' := (C5, Rm)) hC inX0 tyX0 tyX0_ok nmX0 hP hS (e_36 G _) rfl 13 (by decide) rfl k109 rfl (v := .int p1) rfl rfl (Nat.le_of_ble_eq_true rfl) (p_36_13 G _ _ eC5) dX0_run_2 (fun H locs hP hS => ?_)
  refine lv_aload_n hx hb dX0_run_5 rfl (lv_at hl 0 rfl) ?_
  refine lv_iconst (v := 0) hx hb dX0_run_6 (by decide) ?_
  obtain ⟨C6, eC6⟩ : ∃ Z : Mm, Z = wrI C5 36 14 0 := ⟨_, rfl⟩
  replace h := lt_y eC6 h
  refine r_put (X' := (C6, Rm)) hC inX0 tyX0 tyX0_ok nmX0 hP hS (e_36 G _) rfl 14 (by decide) rfl k110 rfl (v := .int 0) rfl rfl (Nat.le_of_ble_eq_true rfl) (p_36_14 G _ _ eC6) dX0_run_7 (fun H locs hP hS => ?_)
  refine lv_iload_n hx hb dX0_run_10 rfl (lv_at hl 1 rfl) ?_
  refine lv_istore_n (lv' := [(2, .int p1), (0, .ref (gA G 36)), (1, .int p1)]) hx hb dX0_run_11 rfl hl (by decide) rfl (fun ls hl => ?_)
  exact bl12 n p1 C6 _ _ _ h (lv_sub hl [1, 0] rfl) hP hS
set_option maxHeartbeats 4000000 in
set_option maxRecDepth 100000 in
theorem mX0_note (l : Launch) (G : gp) (Rm : Mm) {p1 : Int32} {p2 : Int32} {p3 : Int32} {p4 : Int32} {C : Mm} {C0 : Mm} (h : fX0_note p1 p2 p3 p4 C = some C0) : Met l yX0_note (wsy yX0_note cX0_note 5 none) (rmv 0 0) (va_Pc [.ref (gA G 36), .int p1, .int p2, .int p3, .int p4] (Rl G (C, Rm))) (Qv G (C0, Rm)) 0 0 (lwA G) := by
  refine met_i [.ref (gA G 36), .int p1, .int p2, .int p3, .int p4] wX0_note.2.2.2.2.2 (Nat.le_of_ble_eq_true rfl) ?_
  intro p e s m args below meth c ls hC hr hP hl
  have hC : Cx G p s m args meth c cX0_note RX0 5 := hC
  have hx := hC.1
  have hb := hC.2.1
  have hown := hC.2.2.2.1
  have hts := hC.2.2.2.2.1
  have hS : va_S (lwA G) s.heap s.heap [] := va_S.rf
  have hl : lv_has ls 5 [(0, .ref (gA G 36)), (1, .int p1), (2, .int p2), (3, .int p3), (4, .int p4)] := hl
  have bl108 : ∀  (C : Mm) (H : Heap) (locs : List Loc) (ls : Array Slot), fX0_note_b108 C = some C0 → lv_has ls 5 [(0, .ref (gA G 36))] → va_P (gD G) vwCl (wld G (C, Rm)) H → va_S (lwA G) s.heap H locs → W p l e (rmv 0 0) s m args below meth c H locs 0 0 (MQ below (Qv G (C0, Rm)) args s 0 0 (lwA G)) (F0 m 108 ls []) := by
    intro C H locs ls h hl hP hS
    unfold fX0_note_b108 at h
    refine lv_aload_n hx hb dX0_note_108 rfl (lv_at hl 0 rfl) ?_
    refine lv_dup hx hb dX0_note_109 rfl ?_
    refine r_get (v := .int (C.1 36 6)) hC inX0 hP (e_36 G _) rfl 6 (by decide) rfl k102 rfl dX0_note_110 ?_
    refine lv_iconst (v := 1) hx hb dX0_note_113 (by decide) ?_
    refine lv_iadd hx hb dX0_note_114 ?_
    obtain ⟨C1, eC1⟩ : ∃ Z : Mm, Z = wrI C 36 6 ((C.1 36 6) + 1) := ⟨_, rfl⟩
    replace h := lt_y eC1 h
    refine r_put (X' := (C1, Rm)) hC inX0 tyX0 tyX0_ok nmX0 hP hS (e_36 G _) rfl 6 (by decide) rfl k102 rfl (v := .int ((C.1 36 6) + 1)) rfl rfl (Nat.le_of_ble_eq_true rfl) (p_36_6 G _ _ eC1) dX0_note_115 (fun H locs hP hS => ?_)
    exact re_v' hC hr hP hS (congrArg (fun Z : Mm => (Z, Rm)) (Option.some.inj h)) dX0_note_118
  unfold fX0_note at h
  refine lv_aload_n hx hb dX0_note_0 rfl (lv_at hl 0 rfl) ?_
  refine r_get (v := .int (C.1 36 6)) hC inX0 hP (e_36 G _) rfl 6 (by decide) rfl k102 rfl dX0_note_1 ?_
  refine lv_bipush (v := 80) hx hb dX0_note_4 (by decide) ?_
  refine lv_icmp_lt (tgt := 10) hx hb dX0_note_6 (by decide) (fun c2 => ?_) (fun c2 => ?_)
  · replace h := it_t c2 h
    refine lv_aload_n hx hb dX0_note_10 rfl (lv_at hl 0 rfl) ?_
    refine r_get (v := .ref (gA G 37)) hC inX0 hP (e_36 G _) rfl 0 (by decide) rfl k96 rfl dX0_note_11 ?_
    refine lv_aload_n hx hb dX0_note_14 rfl (lv_at hl 0 rfl) ?_
    refine r_get (v := .int (C.1 36 6)) hC inX0 hP (e_36 G _) rfl 6 (by decide) rfl k102 rfl dX0_note_15 ?_
    refine lv_iload_n hx hb dX0_note_18 rfl (lv_at hl 1 rfl) ?_
    by_cases c3 : (C.1 36 6) < (0 : Int32) ∨ 80 ≤ Int32.toNatClampNeg (C.1 36 6)
    · cases it_t c3 h
    replace h := it_f c3 h
    obtain ⟨C4, eC4⟩ : ∃ Z : Mm, Z = wrI C 37 (Int32.toNatClampNeg (C.1 36 6)) p1 := ⟨_, rfl⟩
    replace h := lt_y eC4 h
    refine r_iast (X' := (C4, Rm)) hC hP hS (e_37 G _) c3 (a_37 G _ _ _ _ eC4) dX0_note_19 (fun H locs hP hS => ?_)
    refine lv_aload_n hx hb dX0_note_20 rfl (lv_at hl 0 rfl) ?_
    refine r_get (v := .ref (gA G 38)) hC inX0 hP (e_36 G _) rfl 1 (by decide) rfl k97 rfl dX0_note_21 ?_
    refine lv_aload_n hx hb dX0_note_24 rfl (lv_at hl 0 rfl) ?_
    refine r_get (v := .int (C4.1 36 6)) hC inX0 hP (e_36 G _) rfl 6 (by decide) rfl k102 rfl dX0_note_25 ?_
    refine lv_iload_n hx hb dX0_note_28 rfl (lv_at hl 2 rfl) ?_
    by_cases c5 : (C4.1 36 6) < (0 : Int32) ∨ 80 ≤ Int32.toNatClampNeg (C4.1 36 6)
    · cases it_t c5 h
    replace h := it_f c5 h
    obtain ⟨C6, eC6⟩ : ∃ Z : Mm, Z = wrI C4 38 (Int32.toNatClampNeg (C4.1 36 6)) p2 := ⟨_, rfl⟩
    replace h := lt_y eC6 h
    refine r_iast (X' := (C6, Rm)) hC hP hS (e_38 G _) c5 (a_38 G _ _ _ _ eC6) dX0_note_29 (fun H locs hP hS => ?_)
    refine lv_aload_n hx hb dX0_note_30 rfl (lv_at hl 0 rfl) ?_
    refine r_get (v := .ref (gA G 39)) hC inX0 hP (e_36 G _) rfl 2 (by decide) rfl k98 rfl dX0_note_31 ?_
    refine lv_aload_n hx hb dX0_note_34 rfl (lv_at hl 0 rfl) ?_
    refine r_get (v := .int (C6.1 36 6)) hC inX0 hP (e_36 G _) rfl 6 (by decide) rfl k102 rfl dX0_note_35 ?_
    refine lv_iload_n hx hb dX0_note_38 rfl (lv_at hl 3 rfl) ?_
    by_cases c7 : (C6.1 36 6) < (0 : Int32) ∨ 80 ≤ Int32.toNatClampNeg (C6.1 36 6)
    · cases it_t c7 h
    replace h := it_f c7 h
    obtain ⟨C8, eC8⟩ : ∃ Z : Mm, Z = wrI C6 39 (Int32.toNatClampNeg (C6.1 36 6)) p3 := ⟨_, rfl⟩
    replace h := lt_y eC8 h
    refine r_iast (X' := (C8, Rm)) hC hP hS (e_39 G _) c7 (a_39 G _ _ _ _ eC8) dX0_note_39 (fun H locs hP hS => ?_)
    refine lv_aload_n hx hb dX0_note_40 rfl (lv_at hl 0 rfl) ?_
    refine r_get (v := .ref (gA G 40)) hC inX0 hP (e_36 G _) rfl 3 (by decide) rfl k99 rfl dX0_note_41 ?_
    refine lv_aload_n hx hb dX0_note_44 rfl (lv_at hl 0 rfl) ?_
    refine r_get (v := .int (C8.1 36 6)) hC inX0 hP (e_36 G _) rfl 6 (by decide) rfl k102 rfl dX0_note_45 ?_
    refine lv_aload_n hx hb dX0_note_48 rfl (lv_at hl 0 rfl) ?_
    refine r_get (v := .int (C8.1 36 12)) hC inX0 hP (e_36 G _) rfl 12 (by decide) rfl k108 rfl dX0_note_49 ?_
    refine lv_aload_n hx hb dX0_note_52 rfl (lv_at hl 0 rfl) ?_
    refine r_get (v := .int (C8.1 36 14)) hC inX0 hP (e_36 G _) rfl 14 (by decide) rfl k110 rfl dX0_note_53 ?_
    refine lv_iadd hx hb dX0_note_56 ?_
    by_cases c9 : (C8.1 36 6) < (0 : Int32) ∨ 80 ≤ Int32.toNatClampNeg (C8.1 36 6)
    · cases it_t c9 h
    replace h := it_f c9 h
    obtain ⟨C10, eC10⟩ : ∃ Z : Mm, Z = wrI C8 40 (Int32.toNatClampNeg (C8.1 36 6)) ((C8.1 36 12) + (C8.1 36 14)) := ⟨_, rfl⟩
    replace h := lt_y eC10 h
    refine r_iast (X' := (C10, Rm)) hC hP hS (e_40 G _) c9 (a_40 G _ _ _ _ eC10) dX0_note_57 (fun H locs hP hS => ?_)
    refine lv_aload_n hx hb dX0_note_58 rfl (lv_at hl 0 rfl) ?_
    refine r_get (v := .ref (gA G 41)) hC inX0 hP (e_36 G _) rfl 4 (by decide) rfl k100 rfl dX0_note_59 ?_
    refine lv_aload_n hx hb dX0_note_62 rfl (lv_at hl 0 rfl) ?_
    refine r_get (v := .int (C10.1 36 6)) hC inX0 hP (e_36 G _) rfl 6 (by decide) rfl k102 rfl dX0_note_63 ?_
    refine lv_iload hx hb dX0_note_66 (lv_at hl 4 rfl) ?_
    by_cases c11 : (C10.1 36 6) < (0 : Int32) ∨ 80 ≤ Int32.toNatClampNeg (C10.1 36 6)
    · cases it_t c11 h
    replace h := it_f c11 h
    obtain ⟨C12, eC12⟩ : ∃ Z : Mm, Z = wrI C10 41 (Int32.toNatClampNeg (C10.1 36 6)) p4 := ⟨_, rfl⟩
    replace h := lt_y eC12 h
    refine r_iast (X' := (C12, Rm)) hC hP hS (e_41 G _) c11 (a_41 G _ _ _ _ eC12) dX0_note_68 (fun H locs hP hS => ?_)
    refine lv_aload_n hx hb dX0_note_69 rfl (lv_at hl 0 rfl) ?_
    refine lv_dup hx hb dX0_note_70 rfl ?_
    refine r_get (v := .int (C12.1 36 7)) hC inX0 hP (e_36 G _) rfl 7 (by decide) rfl k103 rfl dX0_note_71 ?_
    refine lv_iload_n hx hb dX0_note_74 rfl (lv_at hl 3 rfl) ?_
    refine lv_iadd hx hb dX0_note_75 ?_
    obtain ⟨C13, eC13⟩ : ∃ Z : Mm, Z = wrI C12 36 7 ((C12.1 36 7) + p3) := ⟨_, rfl⟩
    replace h := lt_y eC13 h
    refine r_put (X' := (C13, Rm)) hC inX0 tyX0 tyX0_ok nmX0 hP hS (e_36 G _) rfl 7 (by decide) rfl k103 rfl (v := .int ((C12.1 36 7) + p3)) rfl rfl (Nat.le_of_ble_eq_true rfl) (p_36_7 G _ _ eC13) dX0_note_76 (fun H locs hP hS => ?_)
    refine lv_aload_n hx hb dX0_note_79 rfl (lv_at hl 0 rfl) ?_
    refine r_get (v := .ref (gA G 40)) hC inX0 hP (e_36 G _) rfl 3 (by decide) rfl k99 rfl dX0_note_80 ?_
    refine lv_aload_n hx hb dX0_note_83 rfl (lv_at hl 0 rfl) ?_
    refine r_get (v := .int (C13.1 36 6)) hC inX0 hP (e_36 G _) rfl 6 (by decide) rfl k102 rfl dX0_note_84 ?_
    by_cases c14 : (C13.1 36 6) < (0 : Int32) ∨ 80 ≤ Int32.toNatClampNeg (C13.1 36 6)
    · cases it_t c14 h
    replace h := it_f c14 h
    refine r_iald hC hP (f := C13.1 40) (e_40 G _) c14 dX0_note_87 ?_
    refine lv_aload_n hx hb dX0_note_88 rfl (lv_at hl 0 rfl) ?_
    refine r_get (v := .int (C13.1 36 8)) hC inX0 hP (e_36 G _) rfl 8 (by decide) rfl k104 rfl dX0_note_89 ?_
    refine lv_icmp_le (tgt := 108) hx hb dX0_note_92 (by decide) (fun c15 => ?_) (fun c15 => ?_)
    · replace h := it_t c15 h
      exact bl108 C13 _ _ _ h (lv_sub hl [0] rfl) hP hS
    · replace h := it_f c15 h
      refine lv_aload_n hx hb dX0_note_95 rfl (lv_at hl 0 rfl) ?_
      refine lv_aload_n hx hb dX0_note_96 rfl (lv_at hl 0 rfl) ?_
      refine r_get (v := .ref (gA G 40)) hC inX0 hP (e_36 G _) rfl 3 (by decide) rfl k99 rfl dX0_note_97 ?_
      refine lv_aload_n hx hb dX0_note_100 rfl (lv_at hl 0 rfl) ?_
      refine r_get (v := .int (C13.1 36 6)) hC inX0 hP (e_36 G _) rfl 6 (by decide) rfl k102 rfl dX0_note_101 ?_
      by_cases c16 : (C13.1 36 6) < (0 : Int32) ∨ 80 ≤ Int32.toNatClampNeg (C13.1 36 6)
      · cases it_t c16 h
      replace h := it_f c16 h
      refine r_iald hC hP (f := C13.1 40) (e_40 G _) c16 dX0_note_104 ?_
      obtain ⟨C17, eC17⟩ : ∃ Z : Mm, Z = wrI C13 36 8 (C13.1 40 (Int32.toNatClampNeg (C13.1 36 6))) := ⟨_, rfl⟩
      replace h := lt_y eC17 h
      refine r_put (X' := (C17, Rm)) hC inX0 tyX0 tyX0_ok nmX0 hP hS (e_36 G _) rfl 8 (by decide) rfl k104 rfl (v := .int (C13.1 40 (Int32.toNatClampNeg (C13.1 36 6)))) rfl rfl (Nat.le_of_ble_eq_true rfl) (p_36_8 G _ _ eC17) dX0_note_105 (fun H locs hP hS => ?_)
      exact bl108 C17 _ _ _ h (lv_sub hl [0] rfl) hP hS
  · replace h := it_f c2 h
    exact re_v' hC hr hP hS (congrArg (fun Z : Mm => (Z, Rm)) (Option.some.inj h)) dX0_note_9
set_option maxHeartbeats 4000000 in
set_option maxRecDepth 100000 in
theorem mX0_goKnown (l : Launch) (G : gp) (Rm : Mm) {n : Nat} {p1 : Int32} {p2 : Int32} {C : Mm} {r0 : Int32} {C0 : Mm} (h : fX0_goKnown n p1 p2 C = some (r0, C0)) : Met l yX0_goKnown (wsy yX0_goKnown cX0_goKnown 3 (some .boolean)) (rmv 1 40) (va_Pc [.ref (gA G 36), .int p1, .int p2] (Rl G (C, Rm))) (Qi G PZ r0 (C0, Rm)) 0 0 (lwA G) := by
  refine met_i [.ref (gA G 36), .int p1, .int p2] wX0_goKnown.2.2.2.2.2 (Nat.le_of_ble_eq_true rfl) ?_
  intro p e s m args below meth c ls hC hr hP hl
  have hC : Cx G p s m args meth c cX0_goKnown RX0 3 := hC
  have hx := hC.1
  have hb := hC.2.1
  have hown := hC.2.2.2.1
  have hts := hC.2.2.2.2.1
  have hS : va_S (lwA G) s.heap s.heap [] := va_S.rf
  have hl : lv_has ls 3 [(0, .ref (gA G 36)), (1, .int p1), (2, .int p2)] := hl
  unfold fX0_goKnown at h
  refine lv_aload_n hx hb dX0_goKnown_0 rfl (lv_at hl 0 rfl) ?_
  refine lv_iload_n hx hb dX0_goKnown_1 rfl (lv_at hl 1 rfl) ?_
  refine lv_iload_n hx hb dX0_goKnown_2 rfl (lv_at hl 2 rfl) ?_
  refine lv_imul hx hb dX0_goKnown_3 ?_
  obtain ⟨C2, hq1, h⟩ := bn_x h
  refine rc_v hS (run_V hC wX0_run k477 (e_36 G _) rfl hP hS (As := [.int (p1 * p2)]) (rest := []) (mX0_run l G Rm hq1) rfl hl.1 (Nat.le_of_ble_eq_true rfl) ⟨by decide, by decide⟩ ⟨Nat.le_refl _, Nat.le_refl _⟩ rfl dX0_goKnown_4) (fun H locs hP hS => ?_)
  refine lv_aload_n hx hb dX0_goKnown_7 rfl (lv_at hl 0 rfl) ?_
  refine lv_iconst (v := 0) hx hb dX0_goKnown_8 (by decide) ?_
  refine lv_iload_n hx hb dX0_goKnown_9 rfl (lv_at hl 1 rfl) ?_
  refine lv_iload_n hx hb dX0_goKnown_10 rfl (lv_at hl 2 rfl) ?_
  refine lv_imul hx hb dX0_goKnown_11 ?_
  refine lv_aload_n hx hb dX0_goKnown_12 rfl (lv_at hl 0 rfl) ?_
  refine r_get (v := .int (C2.1 36 9)) hC inX0 hP (e_36 G _) rfl 9 (by decide) rfl k105 rfl dX0_goKnown_13 ?_
  refine lv_iload_n hx hb dX0_goKnown_16 rfl (lv_at hl 1 rfl) ?_
  refine lv_iload_n hx hb dX0_goKnown_17 rfl (lv_at hl 2 rfl) ?_
  refine r_min hC (rest := [.int (C2.1 36 9), .int (p1 * p2), .int 0, .ref (gA G 36)]) k481 k482 k13 k483 hl.1 (by decide) (Nat.le_of_ble_eq_true rfl) (Nat.le_refl _) (Nat.le_refl _) dX0_goKnown_18 ?_
  obtain ⟨C4, hq3, h⟩ := bn_x h
  refine rc_v hS (run_V hC wX0_note k484 (e_36 G _) rfl hP hS (As := [.int 0, .int (p1 * p2), .int (C2.1 36 9), .int (imin p1 p2)]) (rest := []) (mX0_note l G Rm hq3) rfl hl.1 (Nat.le_of_ble_eq_true rfl) ⟨by decide, by decide⟩ ⟨Nat.le_refl _, Nat.le_refl _⟩ rfl dX0_goKnown_21) (fun H locs hP hS => ?_)
  refine lv_iconst (v := 1) hx hb dX0_goKnown_24 (by decide) ?_
  exact re_z' hC hr hP hS PZ1 (pr_1 h) (congrArg (fun Z : Mm => (Z, Rm)) (pr_2 h)) dX0_goKnown_25
set_option maxHeartbeats 4000000 in
set_option maxRecDepth 100000 in
theorem mX0_lookAndAdd (l : Launch) (G : gp) (Rm : Mm) {n : Nat} {p1 : Int32} {p2 : Int32} {p3 : Int32} {p4 : Int32} {C : Mm} {C0 : Mm} (h : fX0_lookAndAdd n p1 p2 p3 p4 C = some C0) : Met l yX0_lookAndAdd (wsy yX0_lookAndAdd cX0_lookAndAdd 7 none) (rmv 1 40) (va_Pc [.ref (gA G 36), .int p1, .int p2, .int p3, .int p4] (Rl G (C, Rm))) (Qv G (C0, Rm)) 0 0 (lwA G) := by
  refine met_i [.ref (gA G 36), .int p1, .int p2, .int p3, .int p4] wX0_lookAndAdd.2.2.2.2.2 (Nat.le_of_ble_eq_true rfl) ?_
  intro p e s m args below meth c ls hC hr hP hl
  have hC : Cx G p s m args meth c cX0_lookAndAdd RX0 7 := hC
  have hx := hC.1
  have hb := hC.2.1
  have hown := hC.2.2.2.1
  have hts := hC.2.2.2.2.1
  have hS : va_S (lwA G) s.heap s.heap [] := va_S.rf
  have hl : lv_has ls 7 [(0, .ref (gA G 36)), (1, .int p1), (2, .int p2), (3, .int p3), (4, .int p4)] := hl
  have bl33 : ∀ (y1 : Int32) (y2 : Int32) (y3 : Int32) (y4 : Int32) (y5 : Int32) (y6 : Int32) (C : Mm) (H : Heap) (locs : List Loc) (ls : Array Slot), fX0_lookAndAdd_b33 n y1 y2 y3 y4 y5 y6 C = some C0 → lv_has ls 7 [(0, .ref (gA G 36)), (1, .int y1), (2, .int y2), (3, .int y3), (4, .int y4), (5, .int y5), (6, .int y6)] → va_P (gD G) vwCl (wld G (C, Rm)) H → va_S (lwA G) s.heap H locs → W p l e (rmv 1 40) s m args below meth c H locs 0 0 (MQ below (Qv G (C0, Rm)) args s 0 0 (lwA G)) (F0 m 33 ls []) := by
    intro y1 y2 y3 y4 y5 y6 C H locs ls h hl hP hS
    unfold fX0_lookAndAdd_b33 at h
    refine lv_aload_n hx hb dX0_lookAndAdd_33 rfl (lv_at hl 0 rfl) ?_
    refine lv_iconst (v := 0) hx hb dX0_lookAndAdd_34 (by decide) ?_
    refine lv_iload hx hb dX0_lookAndAdd_35 (lv_at hl 5 rfl) ?_
    refine lv_aload_n hx hb dX0_lookAndAdd_37 rfl (lv_at hl 0 rfl) ?_
    refine r_get (v := .int (C.1 36 9)) hC inX0 hP (e_36 G _) rfl 9 (by decide) rfl k105 rfl dX0_lookAndAdd_38 ?_
    refine lv_iload_n hx hb dX0_lookAndAdd_41 rfl (lv_at hl 1 rfl) ?_
    refine lv_iload_n hx hb dX0_lookAndAdd_42 rfl (lv_at hl 2 rfl) ?_
    refine r_min hC (rest := [.int (C.1 36 9), .int y5, .int 0, .ref (gA G 36)]) k481 k482 k13 k483 hl.1 (by decide) (Nat.le_of_ble_eq_true rfl) (Nat.le_refl _) (Nat.le_refl _) dX0_lookAndAdd_43 ?_
    refine lv_iload_n hx hb dX0_lookAndAdd_46 rfl (lv_at hl 3 rfl) ?_
    refine lv_imul hx hb dX0_lookAndAdd_47 ?_
    refine lv_iload hx hb dX0_lookAndAdd_48 (lv_at hl 4 rfl) ?_
    refine lv_imul hx hb dX0_lookAndAdd_50 ?_
    obtain ⟨C2, hq1, h⟩ := bn_x h
    refine rc_v hS (run_V hC wX0_note k484 (e_36 G _) rfl hP hS (As := [.int 0, .int y5, .int (C.1 36 9), .int (((imin y1 y2) * y3) * y4)]) (rest := []) (mX0_note l G Rm hq1) rfl hl.1 (Nat.le_of_ble_eq_true rfl) ⟨by decide, by decide⟩ ⟨Nat.le_refl _, Nat.le_refl _⟩ rfl dX0_lookAndAdd_51) (fun H locs hP hS => ?_)
    refine lv_iload hx hb dX0_lookAndAdd_54 (lv_at hl 6 rfl) ?_
    refine lv_if_eq (tgt := 90) hx hb dX0_lookAndAdd_56 (by decide) (fun c3 => ?_) (fun c3 => ?_)
    · replace h := it_t c3 h
      exact re_v' hC hr hP hS (congrArg (fun Z : Mm => (Z, Rm)) (Option.some.inj h)) dX0_lookAndAdd_90
    · replace h := it_f c3 h
      refine lv_aload_n hx hb dX0_lookAndAdd_59 rfl (lv_at hl 0 rfl) ?_
      refine lv_aload_n hx hb dX0_lookAndAdd_60 rfl (lv_at hl 0 rfl) ?_
      refine r_get (v := .int (C2.1 36 13)) hC inX0 hP (e_36 G _) rfl 13 (by decide) rfl k109 rfl dX0_lookAndAdd_61 ?_
      refine lv_iload hx hb dX0_lookAndAdd_64 (lv_at hl 5 rfl) ?_
      refine lv_iadd hx hb dX0_lookAndAdd_66 ?_
      obtain ⟨C5, hq4, h⟩ := bn_x h
      refine rc_v hS (run_V hC wX0_run k477 (e_36 G _) rfl hP hS (As := [.int ((C2.1 36 13) + y5)]) (rest := []) (mX0_run l G Rm hq4) rfl hl.1 (Nat.le_of_ble_eq_true rfl) ⟨by decide, by decide⟩ ⟨Nat.le_refl _, Nat.le_refl _⟩ rfl dX0_lookAndAdd_67) (fun H locs hP hS => ?_)
      refine lv_aload_n hx hb dX0_lookAndAdd_70 rfl (lv_at hl 0 rfl) ?_
      refine lv_iconst (v := 1) hx hb dX0_lookAndAdd_71 (by decide) ?_
      refine lv_aload_n hx hb dX0_lookAndAdd_72 rfl (lv_at hl 0 rfl) ?_
      refine r_get (v := .int (C5.1 36 13)) hC inX0 hP (e_36 G _) rfl 13 (by decide) rfl k109 rfl dX0_lookAndAdd_73 ?_
      refine lv_aload_n hx hb dX0_lookAndAdd_76 rfl (lv_at hl 0 rfl) ?_
      refine r_get (v := .int (C5.1 36 10)) hC inX0 hP (e_36 G _) rfl 10 (by decide) rfl k106 rfl dX0_lookAndAdd_77 ?_
      refine lv_aload_n hx hb dX0_lookAndAdd_80 rfl (lv_at hl 0 rfl) ?_
      refine r_get (v := .int (C5.1 36 14)) hC inX0 hP (e_36 G _) rfl 14 (by decide) rfl k110 rfl dX0_lookAndAdd_81 ?_
      refine lv_imul hx hb dX0_lookAndAdd_84 ?_
      refine lv_iload hx hb dX0_lookAndAdd_85 (lv_at hl 4 rfl) ?_
      obtain ⟨C7, hq6, h⟩ := bn_x h
      refine rc_v hS (run_V hC wX0_note k484 (e_36 G _) rfl hP hS (As := [.int 1, .int (C5.1 36 13), .int ((C5.1 36 10) * (C5.1 36 14)), .int y4]) (rest := []) (mX0_note l G Rm hq6) rfl hl.1 (Nat.le_of_ble_eq_true rfl) ⟨by decide, by decide⟩ ⟨Nat.le_refl _, Nat.le_refl _⟩ rfl dX0_lookAndAdd_87) (fun H locs hP hS => ?_)
      exact re_v' hC hr hP hS (congrArg (fun Z : Mm => (Z, Rm)) (Option.some.inj h)) dX0_lookAndAdd_90
  unfold fX0_lookAndAdd at h
  refine lv_iload_n hx hb dX0_lookAndAdd_0 rfl (lv_at hl 1 rfl) ?_
  refine lv_if_eq (tgt := 8) hx hb dX0_lookAndAdd_1 (by decide) (fun c8 => ?_) (fun c8 => ?_)
  · replace h := it_t c8 h
    exact re_v' hC hr hP hS (congrArg (fun Z : Mm => (Z, Rm)) (Option.some.inj h)) dX0_lookAndAdd_8
  · replace h := it_f c8 h
    refine lv_iload_n hx hb dX0_lookAndAdd_4 rfl (lv_at hl 2 rfl) ?_
    refine lv_if_ne (tgt := 9) hx hb dX0_lookAndAdd_5 (by decide) (fun c9 => ?_) (fun c9 => ?_)
    · replace h := it_f c9 h
      refine lv_iload_n hx hb dX0_lookAndAdd_9 rfl (lv_at hl 1 rfl) ?_
      refine lv_iload_n hx hb dX0_lookAndAdd_10 rfl (lv_at hl 2 rfl) ?_
      refine lv_imul hx hb dX0_lookAndAdd_11 ?_
      refine lv_iload_n hx hb dX0_lookAndAdd_12 rfl (lv_at hl 3 rfl) ?_
      refine lv_imul hx hb dX0_lookAndAdd_13 ?_
      refine lv_topi (fun x10 ex10 => ?_)
      replace h := lt_y ex10 h
      refine lv_istore (lv' := [(5, .int x10), (0, .ref (gA G 36)), (1, .int p1), (2, .int p2), (3, .int p3), (4, .int p4)]) hx hb dX0_lookAndAdd_14 hl (by decide) rfl (fun ls hl => ?_)
      refine lv_aload_n hx hb dX0_lookAndAdd_16 rfl (lv_at hl 1 rfl) ?_
      refine r_get (v := .int (C.1 36 15)) hC inX0 hP (e_36 G _) rfl 15 (by decide) rfl k111 rfl dX0_lookAndAdd_17 ?_
      refine lv_topi (fun x11 ex11 => ?_)
      replace h := lt_y ex11 h
      refine lv_istore (lv' := [(6, .int x11), (5, .int x10), (0, .ref (gA G 36)), (1, .int p1), (2, .int p2), (3, .int p3), (4, .int p4)]) hx hb dX0_lookAndAdd_20 hl (by decide) rfl (fun ls hl => ?_)
      refine lv_iload hx hb dX0_lookAndAdd_22 (lv_at hl 0 rfl) ?_
      refine lv_if_ne (tgt := 33) hx hb dX0_lookAndAdd_24 (by decide) (fun c12 => ?_) (fun c12 => ?_)
      · replace h := it_f c12 h
        exact bl33 p1 p2 p3 p4 x10 x11 C _ _ _ h (lv_sub hl [2, 3, 4, 5, 6, 1, 0] rfl) hP hS
      · replace h := it_t c12 h
        refine lv_aload_n hx hb dX0_lookAndAdd_27 rfl (lv_at hl 2 rfl) ?_
        refine lv_iload hx hb dX0_lookAndAdd_28 (lv_at hl 1 rfl) ?_
        obtain ⟨C14, hq13, h⟩ := bn_x h
        refine rc_v hS (run_V hC wX0_run k477 (e_36 G _) rfl hP hS (As := [.int x10]) (rest := []) (mX0_run l G Rm hq13) rfl hl.1 (Nat.le_of_ble_eq_true rfl) ⟨by decide, by decide⟩ ⟨Nat.le_refl _, Nat.le_refl _⟩ rfl dX0_lookAndAdd_30) (fun H locs hP hS => ?_)
        exact bl33 p1 p2 p3 p4 x10 x11 C14 _ _ _ h (lv_sub hl [2, 3, 4, 5, 6, 1, 0] rfl) hP hS
    · replace h := it_t c9 h
      exact re_v' hC hr hP hS (congrArg (fun Z : Mm => (Z, Rm)) (Option.some.inj h)) dX0_lookAndAdd_8
set_option maxHeartbeats 4000000 in
set_option maxRecDepth 100000 in
theorem mX0_goLeft (l : Launch) (G : gp) (Rm : Mm) {n : Nat} {p1 : Int32} {p2 : Int32} {C : Mm} {r0 : Int32} {C0 : Mm} (h : fX0_goLeft n p1 p2 C = some (r0, C0)) : Met l yX0_goLeft (wsy yX0_goLeft cX0_goLeft 6 (some .boolean)) (rmv 2 66) (va_Pc [.ref (gA G 36), .int p1, .int p2] (Rl G (C, Rm))) (Qi G PZ r0 (C0, Rm)) 0 0 (lwA G) := by
  refine met_i [.ref (gA G 36), .int p1, .int p2] wX0_goLeft.2.2.2.2.2 (Nat.le_of_ble_eq_true rfl) ?_
  intro p e s m args below meth c ls hC hr hP hl
  have hC : Cx G p s m args meth c cX0_goLeft RX0 6 := hC
  have hx := hC.1
  have hb := hC.2.1
  have hown := hC.2.2.2.1
  have hts := hC.2.2.2.2.1
  have hS : va_S (lwA G) s.heap s.heap [] := va_S.rf
  have hl : lv_has ls 6 [(0, .ref (gA G 36)), (1, .int p1), (2, .int p2)] := hl
  have bl21 : ∀ (k8 : Int32 → Int32 → Int32 → Mm → Option (Int32 × Mm)) (hk8 : ∀ (y1 : Int32) (y2 : Int32) (y3 : Int32) (C : Mm) (H : Heap) (locs : List Loc) (ls : Array Slot), k8 y1 y2 y3 C = some (r0, C0) → lv_has ls 6 [(0, .ref (gA G 36)), (1, .int y1), (2, .int y2), (3, .int y3)] → va_P (gD G) vwCl (wld G (C, Rm)) H → va_S (lwA G) s.heap H locs → W p l e (rmv 2 66) s m args below meth c H locs 0 0 (MQ below (Qi G PZ r0 (C0, Rm)) args s 0 0 (lwA G)) (F0 m 8 ls [])) (fu : Nat), ∀ (y1 : Int32) (y2 : Int32) (y3 : Int32) (y4 : Int32) (C : Mm) (H : Heap) (locs : List Loc) (ls : Array Slot), fX0_goLeft_h21 n k8 fu y1 y2 y3 y4 C = some (r0, C0) → lv_has ls 6 [(0, .ref (gA G 36)), (1, .int y1), (2, .int y2), (3, .int y3), (4, .int y4)] → va_P (gD G) vwCl (wld G (C, Rm)) H → va_S (lwA G) s.heap H locs → W p l e (rmv 2 66) s m args below meth c H locs 0 0 (MQ below (Qi G PZ r0 (C0, Rm)) args s 0 0 (lwA G)) (F0 m 21 ls []) := by
    intro k8 hk8 fu
    induction fu with
    | zero =>
      intro y1 y2 y3 y4 C H locs ls h hl hP hS
      rw [fX0_goLeft_h21.eq_1] at h
      cases h
    | succ fu ih =>
      intro y1 y2 y3 y4 C H locs ls h hl hP hS
      rw [fX0_goLeft_h21.eq_2] at h
      refine lv_iload hx hb dX0_goLeft_21 (lv_at hl 4 rfl) ?_
      refine lv_if_lt (tgt := 59) hx hb dX0_goLeft_23 (by decide) (fun c1 => ?_) (fun c1 => ?_)
      · replace h := it_t c1 h
        obtain ⟨x2, ex2⟩ : ∃ y : Int32, y = y3 + (-1) := ⟨_, rfl⟩
        replace h := lt_y ex2 h
        refine lv_iinc (v := x2) (lv' := [(3, .int x2), (0, .ref (gA G 36)), (1, .int y1), (2, .int y2), (4, .int y4)]) hx hb dX0_goLeft_59 hl (k := 3) rfl (by rw [ex2]; rfl) (by decide) rfl (fun ls hl => ?_)
        refine lv_goto (tgt := 8) hx hb dX0_goLeft_62 (by decide) ?_
        exact hk8 y1 y2 x2 C _ _ _ h (lv_sub hl [1, 2, 3, 0] rfl) hP hS
      · replace h := it_f c1 h
        refine lv_iload_n hx hb dX0_goLeft_26 rfl (lv_at hl 3 rfl) ?_
        refine lv_iload hx hb dX0_goLeft_27 (lv_at hl 4 rfl) ?_
        refine lv_iadd hx hb dX0_goLeft_29 ?_
        obtain ⟨r4, hq3, h⟩ := bn_x h
        refine rc_i hS (run_S hC wX4_tenTo k497 hP hS (As := [.int (y3 + y4)]) (rest := []) (mX4_tenTo l G Rm hq3) rfl hl.1 (Nat.le_of_ble_eq_true rfl) ⟨by decide, by decide⟩ ⟨Nat.le_refl _, Nat.le_refl _⟩ rfl dX0_goLeft_30) (fun H locs pb5 hP hS => ?_)
        refine lv_istore (lv' := [(5, .int r4), (0, .ref (gA G 36)), (1, .int y1), (2, .int y2), (3, .int y3), (4, .int y4)]) hx hb dX0_goLeft_33 hl (by decide) rfl (fun ls hl => ?_)
        refine lv_aload_n hx hb dX0_goLeft_35 rfl (lv_at hl 1 rfl) ?_
        refine lv_iload_n hx hb dX0_goLeft_36 rfl (lv_at hl 2 rfl) ?_
        refine lv_iload_n hx hb dX0_goLeft_37 rfl (lv_at hl 4 rfl) ?_
        obtain ⟨r7, hq6, h⟩ := bn_x h
        refine rc_i hS (run_S hC wX4_figureAt k502 hP hS (As := [.int y1, .int y3]) (rest := [.ref (gA G 36)]) (mX4_figureAt l G Rm hq6) rfl hl.1 (Nat.le_of_ble_eq_true rfl) ⟨by decide, by decide⟩ ⟨Nat.le_refl _, Nat.le_refl _⟩ rfl dX0_goLeft_38) (fun H locs pb8 hP hS => ?_)
        refine lv_iload_n hx hb dX0_goLeft_41 rfl (lv_at hl 3 rfl) ?_
        refine lv_iload hx hb dX0_goLeft_42 (lv_at hl 5 rfl) ?_
        obtain ⟨r10, hq9, h⟩ := bn_x h
        refine rc_i hS (run_S hC wX4_figureAt k502 hP hS (As := [.int y2, .int y4]) (rest := [.int r7, .ref (gA G 36)]) (mX4_figureAt l G Rm hq9) rfl hl.1 (Nat.le_of_ble_eq_true rfl) ⟨by decide, by decide⟩ ⟨Nat.le_refl _, Nat.le_refl _⟩ rfl dX0_goLeft_44) (fun H locs pb11 hP hS => ?_)
        refine lv_iload hx hb dX0_goLeft_47 (lv_at hl 0 rfl) ?_
        refine lv_iconst (v := 1) hx hb dX0_goLeft_49 (by decide) ?_
        obtain ⟨C13, hq12, h⟩ := bn_x h
        refine rc_v hS (run_V hC wX0_lookAndAdd k505 (e_36 G _) rfl hP hS (As := [.int r7, .int r10, .int r4, .int 1]) (rest := []) (mX0_lookAndAdd l G Rm hq12) rfl hl.1 (Nat.le_of_ble_eq_true rfl) ⟨by decide, by decide⟩ ⟨Nat.le_refl _, Nat.le_refl _⟩ rfl dX0_goLeft_50) (fun H locs hP hS => ?_)
        obtain ⟨x14, ex14⟩ : ∃ y : Int32, y = y4 + (-1) := ⟨_, rfl⟩
        replace h := lt_y ex14 h
        refine lv_iinc (v := x14) (lv' := [(4, .int x14), (5, .int r4), (0, .ref (gA G 36)), (1, .int y1), (2, .int y2), (3, .int y3)]) hx hb dX0_goLeft_53 hl (k := 5) rfl (by rw [ex14]; rfl) (by decide) rfl (fun ls hl => ?_)
        refine lv_goto (tgt := 21) hx hb dX0_goLeft_56 (by decide) ?_
        exact ih y1 y2 y3 x14 C13 _ _ _ h (lv_sub hl [2, 3, 4, 5, 0] rfl) hP hS
  have bl8 : ∀ (fu : Nat), ∀ (y1 : Int32) (y2 : Int32) (y3 : Int32) (C : Mm) (H : Heap) (locs : List Loc) (ls : Array Slot), fX0_goLeft_h8 n fu y1 y2 y3 C = some (r0, C0) → lv_has ls 6 [(0, .ref (gA G 36)), (1, .int y1), (2, .int y2), (3, .int y3)] → va_P (gD G) vwCl (wld G (C, Rm)) H → va_S (lwA G) s.heap H locs → W p l e (rmv 2 66) s m args below meth c H locs 0 0 (MQ below (Qi G PZ r0 (C0, Rm)) args s 0 0 (lwA G)) (F0 m 8 ls []) := by
    intro fu
    induction fu with
    | zero =>
      intro y1 y2 y3 C H locs ls h hl hP hS
      rw [fX0_goLeft_h8.eq_1] at h
      cases h
    | succ fu ih =>
      intro y1 y2 y3 C H locs ls h hl hP hS
      rw [fX0_goLeft_h8.eq_2] at h
      refine lv_iload_n hx hb dX0_goLeft_8 rfl (lv_at hl 3 rfl) ?_
      refine lv_if_lt (tgt := 65) hx hb dX0_goLeft_9 (by decide) (fun c15 => ?_) (fun c15 => ?_)
      · replace h := it_t c15 h
        refine lv_iconst (v := 1) hx hb dX0_goLeft_65 (by decide) ?_
        exact re_z' hC hr hP hS PZ1 (pr_1 h) (congrArg (fun Z : Mm => (Z, Rm)) (pr_2 h)) dX0_goLeft_66
      · replace h := it_f c15 h
        refine lv_iload_n hx hb dX0_goLeft_12 rfl (lv_at hl 2 rfl) ?_
        refine lv_i2l hx hb dX0_goLeft_13 rfl ?_
        obtain ⟨r17, hq16, h⟩ := bn_x h
        refine rc_i hS (run_S hC wX4_sizeOf k492 hP hS (As := [.long (Int32.toInt64 y2)]) (rest := []) (mX4_sizeOf l G Rm hq16) rfl hl.1 (Nat.le_of_ble_eq_true rfl) ⟨by decide, by decide⟩ ⟨Nat.le_refl _, Nat.le_refl _⟩ rfl dX0_goLeft_14) (fun H locs pb18 hP hS => ?_)
        refine lv_iconst (v := 1) hx hb dX0_goLeft_17 (by decide) ?_
        refine lv_isub hx hb dX0_goLeft_18 ?_
        refine lv_topi (fun x19 ex19 => ?_)
        replace h := lt_y ex19 h
        refine lv_istore (lv' := [(4, .int x19), (0, .ref (gA G 36)), (1, .int y1), (2, .int y2), (3, .int y3)]) hx hb dX0_goLeft_19 hl (by decide) rfl (fun ls hl => ?_)
        exact bl21 (fX0_goLeft_h8 n fu) ih n y1 y2 y3 x19 C _ _ _ h (lv_sub hl [1, 2, 3, 4, 0] rfl) hP hS
  unfold fX0_goLeft at h
  refine lv_iload_n hx hb dX0_goLeft_0 rfl (lv_at hl 1 rfl) ?_
  refine lv_i2l hx hb dX0_goLeft_1 rfl ?_
  obtain ⟨r21, hq20, h⟩ := bn_x h
  refine rc_i hS (run_S hC wX4_sizeOf k492 hP hS (As := [.long (Int32.toInt64 p1)]) (rest := []) (mX4_sizeOf l G Rm hq20) rfl hl.1 (Nat.le_of_ble_eq_true rfl) ⟨by decide, by decide⟩ ⟨Nat.le_refl _, Nat.le_refl _⟩ rfl dX0_goLeft_2) (fun H locs pb22 hP hS => ?_)
  refine lv_iconst (v := 1) hx hb dX0_goLeft_5 (by decide) ?_
  refine lv_isub hx hb dX0_goLeft_6 ?_
  refine lv_topi (fun x23 ex23 => ?_)
  replace h := lt_y ex23 h
  refine lv_istore_n (lv' := [(3, .int x23), (0, .ref (gA G 36)), (1, .int p1), (2, .int p2)]) hx hb dX0_goLeft_7 rfl hl (by decide) rfl (fun ls hl => ?_)
  exact bl8 n p1 p2 x23 C _ _ _ h (lv_sub hl [1, 2, 3, 0] rfl) hP hS
set_option maxHeartbeats 4000000 in
set_option maxRecDepth 100000 in
theorem mX0_holdRunning (l : Launch) (G : gp) (Rm : Mm) {C : Mm} {C0 : Mm} (h : fX0_holdRunning C = some C0) : Met l yX0_holdRunning (wsy yX0_holdRunning cX0_holdRunning 3 none) (rmv 1 24) (va_Pc [.ref (gA G 36)] (Rl G (C, Rm))) (Qv G (C0, Rm)) 0 0 (lwA G) := by
  refine met_i [.ref (gA G 36)] wX0_holdRunning.2.2.2.2.2 (Nat.le_of_ble_eq_true rfl) ?_
  intro p e s m args below meth c ls hC hr hP hl
  have hC : Cx G p s m args meth c cX0_holdRunning RX0 3 := hC
  have hx := hC.1
  have hb := hC.2.1
  have hown := hC.2.2.2.1
  have hts := hC.2.2.2.2.1
  have hS : va_S (lwA G) s.heap s.heap [] := va_S.rf
  have hl : lv_has ls 3 [(0, .ref (gA G 36))] := hl
  unfold fX0_holdRunning at h
  refine lv_aload_n hx hb dX0_holdRunning_0 rfl (lv_at hl 0 rfl) ?_
  refine r_get (v := .int (C.1 36 13)) hC inX0 hP (e_36 G _) rfl 13 (by decide) rfl k109 rfl dX0_holdRunning_1 ?_
  refine lv_topi (fun x1 ex1 => ?_)
  replace h := lt_y ex1 h
  refine lv_istore_n (lv' := [(1, .int x1), (0, .ref (gA G 36))]) hx hb dX0_holdRunning_4 rfl hl (by decide) rfl (fun ls hl => ?_)
  refine lv_aload_n hx hb dX0_holdRunning_5 rfl (lv_at hl 1 rfl) ?_
  refine r_get (v := .int (C.1 36 14)) hC inX0 hP (e_36 G _) rfl 14 (by decide) rfl k110 rfl dX0_holdRunning_6 ?_
  refine lv_topi (fun x2 ex2 => ?_)
  replace h := lt_y ex2 h
  refine lv_istore_n (lv' := [(2, .int x2), (1, .int x1), (0, .ref (gA G 36))]) hx hb dX0_holdRunning_9 rfl hl (by decide) rfl (fun ls hl => ?_)
  refine lv_aload_n hx hb dX0_holdRunning_10 rfl (lv_at hl 2 rfl) ?_
  refine lv_dup hx hb dX0_holdRunning_11 rfl ?_
  refine r_get (v := .int (C.1 36 12)) hC inX0 hP (e_36 G _) rfl 12 (by decide) rfl k108 rfl dX0_holdRunning_12 ?_
  refine lv_iload_n hx hb dX0_holdRunning_15 rfl (lv_at hl 0 rfl) ?_
  refine lv_iadd hx hb dX0_holdRunning_16 ?_
  obtain ⟨C3, eC3⟩ : ∃ Z : Mm, Z = wrI C 36 12 ((C.1 36 12) + x2) := ⟨_, rfl⟩
  replace h := lt_y eC3 h
  refine r_put (X' := (C3, Rm)) hC inX0 tyX0 tyX0_ok nmX0 hP hS (e_36 G _) rfl 12 (by decide) rfl k108 rfl (v := .int ((C.1 36 12) + x2)) rfl rfl (Nat.le_of_ble_eq_true rfl) (p_36_12 G _ _ eC3) dX0_holdRunning_17 (fun H locs hP hS => ?_)
  refine lv_aload_n hx hb dX0_holdRunning_20 rfl (lv_at hl 2 rfl) ?_
  obtain ⟨C5, hq4⟩ : ∃ Z : Mm, fX0_beginAnew C3 = Z := ⟨_, rfl⟩
  replace h := lt_y hq4.symm h
  refine rc_v hS (run_V hC wX0_beginAnew k461 (e_36 G _) rfl hP hS (As := []) (rest := []) (mX0_beginAnew l G Rm hq4) rfl hl.1 (Nat.le_of_ble_eq_true rfl) ⟨by decide, by decide⟩ ⟨Nat.le_refl _, Nat.le_refl _⟩ rfl dX0_holdRunning_21) (fun H locs hP hS => ?_)
  refine lv_aload_n hx hb dX0_holdRunning_24 rfl (lv_at hl 2 rfl) ?_
  refine lv_iconst (v := 2) hx hb dX0_holdRunning_25 (by decide) ?_
  refine lv_iload_n hx hb dX0_holdRunning_26 rfl (lv_at hl 1 rfl) ?_
  refine lv_aload_n hx hb dX0_holdRunning_27 rfl (lv_at hl 2 rfl) ?_
  refine r_get (v := .int (C5.1 36 11)) hC inX0 hP (e_36 G _) rfl 11 (by decide) rfl k107 rfl dX0_holdRunning_28 ?_
  refine lv_iload_n hx hb dX0_holdRunning_31 rfl (lv_at hl 0 rfl) ?_
  refine lv_imul hx hb dX0_holdRunning_32 ?_
  refine lv_iconst (v := 0) hx hb dX0_holdRunning_33 (by decide) ?_
  obtain ⟨C7, hq6, h⟩ := bn_x h
  refine rc_v hS (run_V hC wX0_note k484 (e_36 G _) rfl hP hS (As := [.int 2, .int x1, .int ((C5.1 36 11) * x2), .int 0]) (rest := []) (mX0_note l G Rm hq6) rfl hl.1 (Nat.le_of_ble_eq_true rfl) ⟨by decide, by decide⟩ ⟨Nat.le_refl _, Nat.le_refl _⟩ rfl dX0_holdRunning_34) (fun H locs hP hS => ?_)
  exact re_v' hC hr hP hS (congrArg (fun Z : Mm => (Z, Rm)) (Option.some.inj h)) dX0_holdRunning_37
set_option maxHeartbeats 4000000 in
set_option maxRecDepth 100000 in
theorem mX0_letGo (l : Launch) (G : gp) (Rm : Mm) {n : Nat} {p1 : Int32} {C : Mm} {C0 : Mm} (h : fX0_letGo n p1 C = some C0) : Met l yX0_letGo (wsy yX0_letGo cX0_letGo 2 none) (rmv 1 22) (va_Pc [.ref (gA G 36), .int p1] (Rl G (C, Rm))) (Qv G (C0, Rm)) 0 0 (lwA G) := by
  refine met_i [.ref (gA G 36), .int p1] wX0_letGo.2.2.2.2.2 (Nat.le_of_ble_eq_true rfl) ?_
  intro p e s m args below meth c ls hC hr hP hl
  have hC : Cx G p s m args meth c cX0_letGo RX0 2 := hC
  have hx := hC.1
  have hb := hC.2.1
  have hown := hC.2.2.2.1
  have hts := hC.2.2.2.2.1
  have hS : va_S (lwA G) s.heap s.heap [] := va_S.rf
  have hl : lv_has ls 2 [(0, .ref (gA G 36)), (1, .int p1)] := hl
  unfold fX0_letGo at h
  refine lv_aload_n hx hb dX0_letGo_0 rfl (lv_at hl 0 rfl) ?_
  refine lv_dup hx hb dX0_letGo_1 rfl ?_
  refine r_get (v := .int (C.1 36 12)) hC inX0 hP (e_36 G _) rfl 12 (by decide) rfl k108 rfl dX0_letGo_2 ?_
  refine lv_iload_n hx hb dX0_letGo_5 rfl (lv_at hl 1 rfl) ?_
  refine lv_i2l hx hb dX0_letGo_6 rfl ?_
  obtain ⟨r2, hq1, h⟩ := bn_x h
  refine rc_i hS (run_S hC wX4_sizeOf k492 hP hS (As := [.long (Int32.toInt64 p1)]) (rest := [.int (C.1 36 12), .ref (gA G 36)]) (mX4_sizeOf l G Rm hq1) rfl hl.1 (Nat.le_of_ble_eq_true rfl) ⟨by decide, by decide⟩ ⟨Nat.le_refl _, Nat.le_refl _⟩ rfl dX0_letGo_7) (fun H locs pb3 hP hS => ?_)
  refine lv_isub hx hb dX0_letGo_10 ?_
  obtain ⟨C4, eC4⟩ : ∃ Z : Mm, Z = wrI C 36 12 ((C.1 36 12) - r2) := ⟨_, rfl⟩
  replace h := lt_y eC4 h
  refine r_put (X' := (C4, Rm)) hC inX0 tyX0 tyX0_ok nmX0 hP hS (e_36 G _) rfl 12 (by decide) rfl k108 rfl (v := .int ((C.1 36 12) - r2)) rfl rfl (Nat.le_of_ble_eq_true rfl) (p_36_12 G _ _ eC4) dX0_letGo_11 (fun H locs hP hS => ?_)
  exact re_v' hC hr hP hS (congrArg (fun Z : Mm => (Z, Rm)) (Option.some.inj h)) dX0_letGo_14
set_option maxHeartbeats 4000000 in
set_option maxRecDepth 100000 in
theorem mX0_add (l : Launch) (G : gp) (Rm : Mm) {n : Nat} {p1 : Int32} {p2 : Int32} {C : Mm} {C0 : Mm} (h : fX0_add n p1 p2 C = some C0) : Met l yX0_add (wsy yX0_add cX0_add 3 none) (rmv 1 24) (va_Pc [.ref (gA G 36), .int p1, .int p2] (Rl G (C, Rm))) (Qv G (C0, Rm)) 0 0 (lwA G) := by
  refine met_i [.ref (gA G 36), .int p1, .int p2] wX0_add.2.2.2.2.2 (Nat.le_of_ble_eq_true rfl) ?_
  intro p e s m args below meth c ls hC hr hP hl
  have hC : Cx G p s m args meth c cX0_add RX0 3 := hC
  have hx := hC.1
  have hb := hC.2.1
  have hown := hC.2.2.2.1
  have hts := hC.2.2.2.2.1
  have hS : va_S (lwA G) s.heap s.heap [] := va_S.rf
  have hl : lv_has ls 3 [(0, .ref (gA G 36)), (1, .int p1), (2, .int p2)] := hl
  unfold fX0_add at h
  refine lv_aload_n hx hb dX0_add_0 rfl (lv_at hl 0 rfl) ?_
  refine lv_iload_n hx hb dX0_add_1 rfl (lv_at hl 1 rfl) ?_
  obtain ⟨C2, hq1, h⟩ := bn_x h
  refine rc_v hS (run_V hC wX0_run k477 (e_36 G _) rfl hP hS (As := [.int p1]) (rest := []) (mX0_run l G Rm hq1) rfl hl.1 (Nat.le_of_ble_eq_true rfl) ⟨by decide, by decide⟩ ⟨Nat.le_refl _, Nat.le_refl _⟩ rfl dX0_add_2) (fun H locs hP hS => ?_)
  refine lv_aload_n hx hb dX0_add_5 rfl (lv_at hl 0 rfl) ?_
  refine lv_iconst (v := 1) hx hb dX0_add_6 (by decide) ?_
  refine lv_iload_n hx hb dX0_add_7 rfl (lv_at hl 1 rfl) ?_
  refine lv_aload_n hx hb dX0_add_8 rfl (lv_at hl 0 rfl) ?_
  refine r_get (v := .int (C2.1 36 10)) hC inX0 hP (e_36 G _) rfl 10 (by decide) rfl k106 rfl dX0_add_9 ?_
  refine lv_aload_n hx hb dX0_add_12 rfl (lv_at hl 0 rfl) ?_
  refine r_get (v := .int (C2.1 36 14)) hC inX0 hP (e_36 G _) rfl 14 (by decide) rfl k110 rfl dX0_add_13 ?_
  refine lv_imul hx hb dX0_add_16 ?_
  refine lv_iload_n hx hb dX0_add_17 rfl (lv_at hl 2 rfl) ?_
  obtain ⟨C4, hq3, h⟩ := bn_x h
  refine rc_v hS (run_V hC wX0_note k484 (e_36 G _) rfl hP hS (As := [.int 1, .int p1, .int ((C2.1 36 10) * (C2.1 36 14)), .int p2]) (rest := []) (mX0_note l G Rm hq3) rfl hl.1 (Nat.le_of_ble_eq_true rfl) ⟨by decide, by decide⟩ ⟨Nat.le_refl _, Nat.le_refl _⟩ rfl dX0_add_18) (fun H locs hP hS => ?_)
  exact re_v' hC hr hP hS (congrArg (fun Z : Mm => (Z, Rm)) (Option.some.inj h)) dX0_add_21
set_option maxHeartbeats 4000000 in
set_option maxRecDepth 100000 in
theorem mX0_addRows (l : Launch) (G : gp) (Rm : Mm) {n : Nat} {p1 : Int32} {C : Mm} {C0 : Mm} (h : fX0_addRows n p1 C = some C0) : Met l yX0_addRows (wsy yX0_addRows cX0_addRows 3 none) (rmv 2 46) (va_Pc [.ref (gA G 36), .int p1] (Rl G (C, Rm))) (Qv G (C0, Rm)) 0 0 (lwA G) := by
  refine met_i [.ref (gA G 36), .int p1] wX0_addRows.2.2.2.2.2 (Nat.le_of_ble_eq_true rfl) ?_
  intro p e s m args below meth c ls hC hr hP hl
  have hC : Cx G p s m args meth c cX0_addRows RX0 3 := hC
  have hx := hC.1
  have hb := hC.2.1
  have hown := hC.2.2.2.1
  have hts := hC.2.2.2.2.1
  have hS : va_S (lwA G) s.heap s.heap [] := va_S.rf
  have hl : lv_has ls 3 [(0, .ref (gA G 36)), (1, .int p1)] := hl
  have bl22 : ∀ (fu : Nat), ∀ (y1 : Int32) (y2 : Int32) (C : Mm) (H : Heap) (locs : List Loc) (ls : Array Slot), fX0_addRows_h22 n fu y1 y2 C = some C0 → lv_has ls 3 [(0, .ref (gA G 36)), (1, .int y1), (2, .int y2)] → va_P (gD G) vwCl (wld G (C, Rm)) H → va_S (lwA G) s.heap H locs → W p l e (rmv 2 46) s m args below meth c H locs 0 0 (MQ below (Qv G (C0, Rm)) args s 0 0 (lwA G)) (F0 m 22 ls []) := by
    intro fu
    induction fu with
    | zero =>
      intro y1 y2 C H locs ls h hl hP hS
      rw [fX0_addRows_h22.eq_1] at h
      cases h
    | succ fu ih =>
      intro y1 y2 C H locs ls h hl hP hS
      rw [fX0_addRows_h22.eq_2] at h
      refine lv_iload_n hx hb dX0_addRows_22 rfl (lv_at hl 2 rfl) ?_
      refine lv_iload_n hx hb dX0_addRows_23 rfl (lv_at hl 1 rfl) ?_
      refine lv_icmp_ge (tgt := 59) hx hb dX0_addRows_24 (by decide) (fun c1 => ?_) (fun c1 => ?_)
      · replace h := it_t c1 h
        exact re_v' hC hr hP hS (congrArg (fun Z : Mm => (Z, Rm)) (Option.some.inj h)) dX0_addRows_59
      · replace h := it_f c1 h
        refine lv_aload_n hx hb dX0_addRows_27 rfl (lv_at hl 0 rfl) ?_
        refine lv_aload_n hx hb dX0_addRows_28 rfl (lv_at hl 0 rfl) ?_
        refine r_get (v := .ref (gA G 42)) hC inX0 hP (e_36 G _) rfl 5 (by decide) rfl k101 rfl dX0_addRows_29 ?_
        refine lv_iload_n hx hb dX0_addRows_32 rfl (lv_at hl 2 rfl) ?_
        by_cases c2 : y2 < (0 : Int32) ∨ 4 ≤ Int32.toNatClampNeg y2
        · cases it_t c2 h
        replace h := it_f c2 h
        refine r_iald hC hP (f := C.1 42) (e_42 G _) c2 dX0_addRows_33 ?_
        obtain ⟨C4, hq3, h⟩ := bn_x h
        refine rc_v hS (run_V hC wX0_letGo k521 (e_36 G _) rfl hP hS (As := [.int (C.1 42 (Int32.toNatClampNeg y2))]) (rest := []) (mX0_letGo l G Rm hq3) rfl hl.1 (Nat.le_of_ble_eq_true rfl) ⟨by decide, by decide⟩ ⟨Nat.le_refl _, Nat.le_refl _⟩ rfl dX0_addRows_34) (fun H locs hP hS => ?_)
        refine lv_aload_n hx hb dX0_addRows_37 rfl (lv_at hl 0 rfl) ?_
        refine lv_aload_n hx hb dX0_addRows_38 rfl (lv_at hl 0 rfl) ?_
        refine r_get (v := .int (C4.1 36 13)) hC inX0 hP (e_36 G _) rfl 13 (by decide) rfl k109 rfl dX0_addRows_39 ?_
        refine lv_aload_n hx hb dX0_addRows_42 rfl (lv_at hl 0 rfl) ?_
        refine r_get (v := .ref (gA G 42)) hC inX0 hP (e_36 G _) rfl 5 (by decide) rfl k101 rfl dX0_addRows_43 ?_
        refine lv_iload_n hx hb dX0_addRows_46 rfl (lv_at hl 2 rfl) ?_
        by_cases c5 : y2 < (0 : Int32) ∨ 4 ≤ Int32.toNatClampNeg y2
        · cases it_t c5 h
        replace h := it_f c5 h
        refine r_iald hC hP (f := C4.1 42) (e_42 G _) c5 dX0_addRows_47 ?_
        refine lv_iadd hx hb dX0_addRows_48 ?_
        refine lv_iconst (v := 1) hx hb dX0_addRows_49 (by decide) ?_
        obtain ⟨C7, hq6, h⟩ := bn_x h
        refine rc_v hS (run_V hC wX0_add k525 (e_36 G _) rfl hP hS (As := [.int ((C4.1 36 13) + (C4.1 42 (Int32.toNatClampNeg y2))), .int 1]) (rest := []) (mX0_add l G Rm hq6) rfl hl.1 (Nat.le_of_ble_eq_true rfl) ⟨by decide, by decide⟩ ⟨Nat.le_refl _, Nat.le_refl _⟩ rfl dX0_addRows_50) (fun H locs hP hS => ?_)
        obtain ⟨x8, ex8⟩ : ∃ y : Int32, y = y2 + 1 := ⟨_, rfl⟩
        replace h := lt_y ex8 h
        refine lv_iinc (v := x8) (lv' := [(2, .int x8), (0, .ref (gA G 36)), (1, .int y1)]) hx hb dX0_addRows_53 hl (k := 2) rfl (by rw [ex8]; rfl) (by decide) rfl (fun ls hl => ?_)
        refine lv_goto (tgt := 22) hx hb dX0_addRows_56 (by decide) ?_
        exact ih y1 x8 C7 _ _ _ h (lv_sub hl [1, 2, 0] rfl) hP hS
  unfold fX0_addRows at h
  refine lv_aload_n hx hb dX0_addRows_0 rfl (lv_at hl 0 rfl) ?_
  refine lv_aload_n hx hb dX0_addRows_1 rfl (lv_at hl 0 rfl) ?_
  refine r_get (v := .ref (gA G 42)) hC inX0 hP (e_36 G _) rfl 5 (by decide) rfl k101 rfl dX0_addRows_2 ?_
  refine lv_iconst (v := 0) hx hb dX0_addRows_5 (by decide) ?_
  by_cases c9 : 0 < (0 : Int32) ∨ 4 ≤ Int32.toNatClampNeg 0
  · cases it_t c9 h
  replace h := it_f c9 h
  refine r_iald hC hP (f := C.1 42) (e_42 G _) c9 dX0_addRows_6 ?_
  obtain ⟨C11, hq10, h⟩ := bn_x h
  refine rc_v hS (run_V hC wX0_letGo k521 (e_36 G _) rfl hP hS (As := [.int (C.1 42 (Int32.toNatClampNeg 0))]) (rest := []) (mX0_letGo l G Rm hq10) rfl hl.1 (Nat.le_of_ble_eq_true rfl) ⟨by decide, by decide⟩ ⟨Nat.le_refl _, Nat.le_refl _⟩ rfl dX0_addRows_7) (fun H locs hP hS => ?_)
  refine lv_aload_n hx hb dX0_addRows_10 rfl (lv_at hl 0 rfl) ?_
  refine lv_aload_n hx hb dX0_addRows_11 rfl (lv_at hl 0 rfl) ?_
  refine r_get (v := .ref (gA G 42)) hC inX0 hP (e_36 G _) rfl 5 (by decide) rfl k101 rfl dX0_addRows_12 ?_
  refine lv_iconst (v := 0) hx hb dX0_addRows_15 (by decide) ?_
  by_cases c12 : 0 < (0 : Int32) ∨ 4 ≤ Int32.toNatClampNeg 0
  · cases it_t c12 h
  replace h := it_f c12 h
  refine r_iald hC hP (f := C11.1 42) (e_42 G _) c12 dX0_addRows_16 ?_
  obtain ⟨C14, hq13, h⟩ := bn_x h
  refine rc_v hS (run_V hC wX0_run k477 (e_36 G _) rfl hP hS (As := [.int (C11.1 42 (Int32.toNatClampNeg 0))]) (rest := []) (mX0_run l G Rm hq13) rfl hl.1 (Nat.le_of_ble_eq_true rfl) ⟨by decide, by decide⟩ ⟨Nat.le_refl _, Nat.le_refl _⟩ rfl dX0_addRows_17) (fun H locs hP hS => ?_)
  refine lv_iconst (v := 1) hx hb dX0_addRows_20 (by decide) ?_
  refine lv_istore_n (lv' := [(2, .int 1), (0, .ref (gA G 36)), (1, .int p1)]) hx hb dX0_addRows_21 rfl hl (by decide) rfl (fun ls hl => ?_)
  exact bl22 n p1 1 C14 _ _ _ h (lv_sub hl [1, 2, 0] rfl) hP hS
set_option maxHeartbeats 4000000 in
set_option maxRecDepth 100000 in
theorem mX0_goRight (l : Launch) (G : gp) (Rm : Mm) {n : Nat} {p1 : Int32} {p2 : Int32} {C : Mm} {r0 : Int32} {C0 : Mm} (h : fX0_goRight n p1 p2 C = some (r0, C0)) : Met l yX0_goRight (wsy yX0_goRight cX0_goRight 6 (some .boolean)) (rmv 3 91) (va_Pc [.ref (gA G 36), .int p1, .int p2] (Rl G (C, Rm))) (Qi G PZ r0 (C0, Rm)) 0 0 (lwA G) := by
  refine met_i [.ref (gA G 36), .int p1, .int p2] wX0_goRight.2.2.2.2.2 (Nat.le_of_ble_eq_true rfl) ?_
  intro p e s m args below meth c ls hC hr hP hl
  have hC : Cx G p s m args meth c cX0_goRight RX0 6 := hC
  have hx := hC.1
  have hb := hC.2.1
  have hown := hC.2.2.2.1
  have hts := hC.2.2.2.2.1
  have hS : va_S (lwA G) s.heap s.heap [] := va_S.rf
  have hl : lv_has ls 6 [(0, .ref (gA G 36)), (1, .int p1), (2, .int p2)] := hl
  have bl70 : ∀ (y3 : Int32) (C : Mm) (H : Heap) (locs : List Loc) (ls : Array Slot), fX0_goRight_b70 n y3 C = some (r0, C0) → lv_has ls 6 [(0, .ref (gA G 36)), (3, .int y3)] → va_P (gD G) vwCl (wld G (C, Rm)) H → va_S (lwA G) s.heap H locs → W p l e (rmv 3 91) s m args below meth c H locs 0 0 (MQ below (Qi G PZ r0 (C0, Rm)) args s 0 0 (lwA G)) (F0 m 70 ls []) := by
    intro y3 C H locs ls h hl hP hS
    unfold fX0_goRight_b70 at h
    refine lv_iload_n hx hb dX0_goRight_70 rfl (lv_at hl 1 rfl) ?_
    refine lv_iconst (v := 1) hx hb dX0_goRight_71 (by decide) ?_
    refine lv_icmp_le (tgt := 80) hx hb dX0_goRight_72 (by decide) (fun c1 => ?_) (fun c1 => ?_)
    · replace h := it_t c1 h
      refine lv_iconst (v := 1) hx hb dX0_goRight_80 (by decide) ?_
      exact re_z' hC hr hP hS PZ1 (pr_1 h) (congrArg (fun Z : Mm => (Z, Rm)) (pr_2 h)) dX0_goRight_81
    · replace h := it_f c1 h
      refine lv_aload_n hx hb dX0_goRight_75 rfl (lv_at hl 0 rfl) ?_
      refine lv_iload_n hx hb dX0_goRight_76 rfl (lv_at hl 1 rfl) ?_
      obtain ⟨C3, hq2, h⟩ := bn_x h
      refine rc_v hS (run_V hC wX0_addRows k517 (e_36 G _) rfl hP hS (As := [.int y3]) (rest := []) (mX0_addRows l G Rm hq2) rfl hl.1 (Nat.le_of_ble_eq_true rfl) ⟨by decide, by decide⟩ ⟨Nat.le_refl _, Nat.le_refl _⟩ rfl dX0_goRight_77) (fun H locs hP hS => ?_)
      refine lv_iconst (v := 1) hx hb dX0_goRight_80 (by decide) ?_
      exact re_z' hC hr hP hS PZ1 (pr_1 h) (congrArg (fun Z : Mm => (Z, Rm)) (pr_2 h)) dX0_goRight_81
  have bl64 : ∀ (k5 : Int32 → Int32 → Int32 → Int32 → Mm → Option (Int32 × Mm)) (hk5 : ∀ (y1 : Int32) (y2 : Int32) (y3 : Int32) (y4 : Int32) (C : Mm) (H : Heap) (locs : List Loc) (ls : Array Slot), k5 y1 y2 y3 y4 C = some (r0, C0) → lv_has ls 6 [(0, .ref (gA G 36)), (1, .int y1), (2, .int y2), (3, .int y3), (4, .int y4)] → va_P (gD G) vwCl (wld G (C, Rm)) H → va_S (lwA G) s.heap H locs → W p l e (rmv 3 91) s m args below meth c H locs 0 0 (MQ below (Qi G PZ r0 (C0, Rm)) args s 0 0 (lwA G)) (F0 m 5 ls [])), ∀ (y1 : Int32) (y2 : Int32) (y3 : Int32) (y4 : Int32) (C : Mm) (H : Heap) (locs : List Loc) (ls : Array Slot), fX0_goRight_b64 n k5 y1 y2 y3 y4 C = some (r0, C0) → lv_has ls 6 [(0, .ref (gA G 36)), (1, .int y1), (2, .int y2), (3, .int y3), (4, .int y4)] → va_P (gD G) vwCl (wld G (C, Rm)) H → va_S (lwA G) s.heap H locs → W p l e (rmv 3 91) s m args below meth c H locs 0 0 (MQ below (Qi G PZ r0 (C0, Rm)) args s 0 0 (lwA G)) (F0 m 64 ls []) := by
    intro k5 hk5 y1 y2 y3 y4 C H locs ls h hl hP hS
    unfold fX0_goRight_b64 at h
    obtain ⟨x4, ex4⟩ : ∃ y : Int32, y = y4 + 1 := ⟨_, rfl⟩
    replace h := lt_y ex4 h
    refine lv_iinc (v := x4) (lv' := [(4, .int x4), (0, .ref (gA G 36)), (1, .int y1), (2, .int y2), (3, .int y3)]) hx hb dX0_goRight_64 hl (k := 4) rfl (by rw [ex4]; rfl) (by decide) rfl (fun ls hl => ?_)
    refine lv_goto (tgt := 5) hx hb dX0_goRight_67 (by decide) ?_
    exact hk5 y1 y2 y3 x4 C _ _ _ h (lv_sub hl [1, 2, 3, 4, 0] rfl) hP hS
  have bl5 : ∀ (fu : Nat), ∀ (y1 : Int32) (y2 : Int32) (y3 : Int32) (y4 : Int32) (C : Mm) (H : Heap) (locs : List Loc) (ls : Array Slot), fX0_goRight_h5 n fu y1 y2 y3 y4 C = some (r0, C0) → lv_has ls 6 [(0, .ref (gA G 36)), (1, .int y1), (2, .int y2), (3, .int y3), (4, .int y4)] → va_P (gD G) vwCl (wld G (C, Rm)) H → va_S (lwA G) s.heap H locs → W p l e (rmv 3 91) s m args below meth c H locs 0 0 (MQ below (Qi G PZ r0 (C0, Rm)) args s 0 0 (lwA G)) (F0 m 5 ls []) := by
    intro fu
    induction fu with
    | zero =>
      intro y1 y2 y3 y4 C H locs ls h hl hP hS
      rw [fX0_goRight_h5.eq_1] at h
      cases h
    | succ fu ih =>
      intro y1 y2 y3 y4 C H locs ls h hl hP hS
      rw [fX0_goRight_h5.eq_2] at h
      refine lv_iload hx hb dX0_goRight_5 (lv_at hl 4 rfl) ?_
      refine lv_iload_n hx hb dX0_goRight_7 rfl (lv_at hl 2 rfl) ?_
      refine lv_i2l hx hb dX0_goRight_8 rfl ?_
      obtain ⟨r6, hq5, h⟩ := bn_x h
      refine rc_i hS (run_S hC wX4_sizeOf k492 hP hS (As := [.long (Int32.toInt64 y2)]) (rest := [.int y4]) (mX4_sizeOf l G Rm hq5) rfl hl.1 (Nat.le_of_ble_eq_true rfl) ⟨by decide, by decide⟩ ⟨Nat.le_refl _, Nat.le_refl _⟩ rfl dX0_goRight_9) (fun H locs pb7 hP hS => ?_)
      refine lv_icmp_ge (tgt := 70) hx hb dX0_goRight_12 (by decide) (fun c8 => ?_) (fun c8 => ?_)
      · replace h := it_t c8 h
        exact bl70 y3 C _ _ _ h (lv_sub hl [0, 3] rfl) hP hS
      · replace h := it_f c8 h
        refine lv_iload_n hx hb dX0_goRight_15 rfl (lv_at hl 3 rfl) ?_
        refine lv_iconst (v := 4) hx hb dX0_goRight_16 (by decide) ?_
        refine lv_icmp_ge (tgt := 70) hx hb dX0_goRight_17 (by decide) (fun c9 => ?_) (fun c9 => ?_)
        · replace h := it_t c9 h
          exact bl70 y3 C _ _ _ h (lv_sub hl [0, 3] rfl) hP hS
        · replace h := it_f c9 h
          refine lv_iload_n hx hb dX0_goRight_20 rfl (lv_at hl 2 rfl) ?_
          refine lv_iload hx hb dX0_goRight_21 (lv_at hl 4 rfl) ?_
          obtain ⟨r11, hq10, h⟩ := bn_x h
          refine rc_i hS (run_S hC wX4_figureAt k502 hP hS (As := [.int y2, .int y4]) (rest := []) (mX4_figureAt l G Rm hq10) rfl hl.1 (Nat.le_of_ble_eq_true rfl) ⟨by decide, by decide⟩ ⟨Nat.le_refl _, Nat.le_refl _⟩ rfl dX0_goRight_23) (fun H locs pb12 hP hS => ?_)
          refine lv_istore (lv' := [(5, .int r11), (0, .ref (gA G 36)), (1, .int y1), (2, .int y2), (3, .int y3), (4, .int y4)]) hx hb dX0_goRight_26 hl (by decide) rfl (fun ls hl => ?_)
          refine lv_iload hx hb dX0_goRight_28 (lv_at hl 0 rfl) ?_
          refine lv_if_eq (tgt := 64) hx hb dX0_goRight_30 (by decide) (fun c13 => ?_) (fun c13 => ?_)
          · replace h := it_t c13 h
            exact bl64 (fX0_goRight_h5 n fu) ih y1 y2 y3 y4 C _ _ _ h (lv_sub hl [1, 2, 3, 4, 5] rfl) hP hS
          · replace h := it_f c13 h
            refine lv_aload_n hx hb dX0_goRight_33 rfl (lv_at hl 1 rfl) ?_
            refine lv_iload_n hx hb dX0_goRight_34 rfl (lv_at hl 2 rfl) ?_
            refine lv_iload hx hb dX0_goRight_35 (lv_at hl 0 rfl) ?_
            refine lv_iload hx hb dX0_goRight_37 (lv_at hl 5 rfl) ?_
            obtain ⟨r15, hq14, h⟩ := bn_x h
            refine rc_i hS (run_S hC wX4_tenTo k497 hP hS (As := [.int y4]) (rest := [.int r11, .int y1, .ref (gA G 36)]) (mX4_tenTo l G Rm hq14) rfl hl.1 (Nat.le_of_ble_eq_true rfl) ⟨by decide, by decide⟩ ⟨Nat.le_refl _, Nat.le_refl _⟩ rfl dX0_goRight_39) (fun H locs pb16 hP hS => ?_)
            refine lv_imul hx hb dX0_goRight_42 ?_
            obtain ⟨r18, C19, hq17, h⟩ := bp_x h
            refine rc_i hS (run_V hC wX0_goLeft k488 (e_36 G _) rfl hP hS (As := [.int y1, .int (r11 * r15)]) (rest := []) (mX0_goLeft l G Rm hq17) rfl hl.1 (Nat.le_of_ble_eq_true rfl) ⟨by decide, by decide⟩ ⟨Nat.le_refl _, Nat.le_refl _⟩ rfl dX0_goRight_43) (fun H locs pb20 hP hS => ?_)
            refine lv_pop hx hb dX0_goRight_46 rfl ?_
            refine lv_aload_n hx hb dX0_goRight_47 rfl (lv_at hl 1 rfl) ?_
            refine r_get (v := .ref (gA G 42)) hC inX0 hP (e_36 G _) rfl 5 (by decide) rfl k101 rfl dX0_goRight_48 ?_
            refine lv_iload_n hx hb dX0_goRight_51 rfl (lv_at hl 4 rfl) ?_
            refine lv_aload_n hx hb dX0_goRight_52 rfl (lv_at hl 1 rfl) ?_
            refine r_get (v := .int (C19.1 36 13)) hC inX0 hP (e_36 G _) rfl 13 (by decide) rfl k109 rfl dX0_goRight_53 ?_
            by_cases c21 : y3 < (0 : Int32) ∨ 4 ≤ Int32.toNatClampNeg y3
            · cases it_t c21 h
            replace h := it_f c21 h
            obtain ⟨C22, eC22⟩ : ∃ Z : Mm, Z = wrI C19 42 (Int32.toNatClampNeg y3) (C19.1 36 13) := ⟨_, rfl⟩
            replace h := lt_y eC22 h
            refine r_iast (X' := (C22, Rm)) hC hP hS (e_42 G _) c21 (a_42 G _ _ _ _ eC22) dX0_goRight_56 (fun H locs hP hS => ?_)
            obtain ⟨x23, ex23⟩ : ∃ y : Int32, y = y3 + 1 := ⟨_, rfl⟩
            replace h := lt_y ex23 h
            refine lv_iinc (v := x23) (lv' := [(3, .int x23), (5, .int r11), (0, .ref (gA G 36)), (1, .int y1), (2, .int y2), (4, .int y4)]) hx hb dX0_goRight_57 hl (k := 4) rfl (by rw [ex23]; rfl) (by decide) rfl (fun ls hl => ?_)
            refine lv_aload_n hx hb dX0_goRight_60 rfl (lv_at hl 2 rfl) ?_
            obtain ⟨C25, hq24, h⟩ := bn_x h
            refine rc_v hS (run_V hC wX0_holdRunning k513 (e_36 G _) rfl hP hS (As := []) (rest := []) (mX0_holdRunning l G Rm hq24) rfl hl.1 (Nat.le_of_ble_eq_true rfl) ⟨by decide, by decide⟩ ⟨Nat.le_refl _, Nat.le_refl _⟩ rfl dX0_goRight_61) (fun H locs hP hS => ?_)
            exact bl64 (fX0_goRight_h5 n fu) ih y1 y2 x23 y4 C25 _ _ _ h (lv_sub hl [2, 3, 4, 0, 5] rfl) hP hS
  unfold fX0_goRight at h
  refine lv_iconst (v := 0) hx hb dX0_goRight_0 (by decide) ?_
  refine lv_istore_n (lv' := [(3, .int 0), (0, .ref (gA G 36)), (1, .int p1), (2, .int p2)]) hx hb dX0_goRight_1 rfl hl (by decide) rfl (fun ls hl => ?_)
  refine lv_iconst (v := 0) hx hb dX0_goRight_2 (by decide) ?_
  refine lv_istore (lv' := [(4, .int 0), (3, .int 0), (0, .ref (gA G 36)), (1, .int p1), (2, .int p2)]) hx hb dX0_goRight_3 hl (by decide) rfl (fun ls hl => ?_)
  exact bl5 n p1 p2 0 0 C _ _ _ h (lv_sub hl [2, 3, 4, 1, 0] rfl) hP hS
set_option maxHeartbeats 4000000 in
set_option maxRecDepth 100000 in
theorem mX0_holdLastFigure (l : Launch) (G : gp) (Rm : Mm) {C : Mm} {C0 : Mm} (h : fX0_holdLastFigure C = some C0) : Met l yX0_holdLastFigure (wsy yX0_holdLastFigure cX0_holdLastFigure 2 none) (rmv 1 40) (va_Pc [.ref (gA G 36)] (Rl G (C, Rm))) (Qv G (C0, Rm)) 0 0 (lwA G) := by
  refine met_i [.ref (gA G 36)] wX0_holdLastFigure.2.2.2.2.2 (Nat.le_of_ble_eq_true rfl) ?_
  intro p e s m args below meth c ls hC hr hP hl
  have hC : Cx G p s m args meth c cX0_holdLastFigure RX0 2 := hC
  have hx := hC.1
  have hb := hC.2.1
  have hown := hC.2.2.2.1
  have hts := hC.2.2.2.2.1
  have hS : va_S (lwA G) s.heap s.heap [] := va_S.rf
  have hl : lv_has ls 2 [(0, .ref (gA G 36))] := hl
  unfold fX0_holdLastFigure at h
  refine lv_aload_n hx hb dX0_holdLastFigure_0 rfl (lv_at hl 0 rfl) ?_
  refine r_get (v := .int (C.1 36 13)) hC inX0 hP (e_36 G _) rfl 13 (by decide) rfl k109 rfl dX0_holdLastFigure_1 ?_
  refine lv_bipush (v := 10) hx hb dX0_holdLastFigure_4 (by decide) ?_
  refine r_irem hx hb dX0_holdLastFigure_6 (by decide) ?_
  refine lv_topi (fun x1 ex1 => ?_)
  replace h := lt_y ex1 h
  refine lv_istore_n (lv' := [(1, .int x1), (0, .ref (gA G 36))]) hx hb dX0_holdLastFigure_7 rfl hl (by decide) rfl (fun ls hl => ?_)
  refine lv_aload_n hx hb dX0_holdLastFigure_8 rfl (lv_at hl 1 rfl) ?_
  refine lv_dup hx hb dX0_holdLastFigure_9 rfl ?_
  refine r_get (v := .int (C.1 36 12)) hC inX0 hP (e_36 G _) rfl 12 (by decide) rfl k108 rfl dX0_holdLastFigure_10 ?_
  refine lv_iconst (v := 1) hx hb dX0_holdLastFigure_13 (by decide) ?_
  refine lv_iadd hx hb dX0_holdLastFigure_14 ?_
  obtain ⟨C2, eC2⟩ : ∃ Z : Mm, Z = wrI C 36 12 ((C.1 36 12) + 1) := ⟨_, rfl⟩
  replace h := lt_y eC2 h
  refine r_put (X' := (C2, Rm)) hC inX0 tyX0 tyX0_ok nmX0 hP hS (e_36 G _) rfl 12 (by decide) rfl k108 rfl (v := .int ((C.1 36 12) + 1)) rfl rfl (Nat.le_of_ble_eq_true rfl) (p_36_12 G _ _ eC2) dX0_holdLastFigure_15 (fun H locs hP hS => ?_)
  refine lv_aload_n hx hb dX0_holdLastFigure_18 rfl (lv_at hl 1 rfl) ?_
  refine lv_dup hx hb dX0_holdLastFigure_19 rfl ?_
  refine r_get (v := .int (C2.1 36 13)) hC inX0 hP (e_36 G _) rfl 13 (by decide) rfl k109 rfl dX0_holdLastFigure_20 ?_
  refine lv_bipush (v := 10) hx hb dX0_holdLastFigure_23 (by decide) ?_
  refine lv_idiv hx hb dX0_holdLastFigure_25 (by decide) ?_
  obtain ⟨C3, eC3⟩ : ∃ Z : Mm, Z = wrI C2 36 13 ((C2.1 36 13) / 10) := ⟨_, rfl⟩
  replace h := lt_y eC3 h
  refine r_put (X' := (C3, Rm)) hC inX0 tyX0 tyX0_ok nmX0 hP hS (e_36 G _) rfl 13 (by decide) rfl k109 rfl (v := .int ((C2.1 36 13) / 10)) rfl rfl (Nat.le_of_ble_eq_true rfl) (p_36_13 G _ _ eC3) dX0_holdLastFigure_26 (fun H locs hP hS => ?_)
  refine lv_aload_n hx hb dX0_holdLastFigure_29 rfl (lv_at hl 1 rfl) ?_
  refine lv_iconst (v := 0) hx hb dX0_holdLastFigure_30 (by decide) ?_
  refine lv_aload_n hx hb dX0_holdLastFigure_31 rfl (lv_at hl 1 rfl) ?_
  refine r_get (v := .int (C3.1 36 14)) hC inX0 hP (e_36 G _) rfl 14 (by decide) rfl k110 rfl dX0_holdLastFigure_32 ?_
  refine lv_iconst (v := 1) hx hb dX0_holdLastFigure_35 (by decide) ?_
  refine lv_isub hx hb dX0_holdLastFigure_36 ?_
  refine r_max hC (rest := [.ref (gA G 36)]) k537 k538 k13 k539 hl.1 (by decide) (Nat.le_of_ble_eq_true rfl) (Nat.le_refl _) (Nat.le_refl _) dX0_holdLastFigure_37 ?_
  obtain ⟨C4, eC4⟩ : ∃ Z : Mm, Z = wrI C3 36 14 (imax 0 ((C3.1 36 14) - 1)) := ⟨_, rfl⟩
  replace h := lt_y eC4 h
  refine r_put (X' := (C4, Rm)) hC inX0 tyX0 tyX0_ok nmX0 hP hS (e_36 G _) rfl 14 (by decide) rfl k110 rfl (v := .int (imax 0 ((C3.1 36 14) - 1))) rfl rfl (Nat.le_of_ble_eq_true rfl) (p_36_14 G _ _ eC4) dX0_holdLastFigure_40 (fun H locs hP hS => ?_)
  refine lv_aload_n hx hb dX0_holdLastFigure_43 rfl (lv_at hl 1 rfl) ?_
  refine lv_iconst (v := 2) hx hb dX0_holdLastFigure_44 (by decide) ?_
  refine lv_iload_n hx hb dX0_holdLastFigure_45 rfl (lv_at hl 0 rfl) ?_
  refine lv_aload_n hx hb dX0_holdLastFigure_46 rfl (lv_at hl 1 rfl) ?_
  refine r_get (v := .int (C4.1 36 11)) hC inX0 hP (e_36 G _) rfl 11 (by decide) rfl k107 rfl dX0_holdLastFigure_47 ?_
  refine lv_iconst (v := 0) hx hb dX0_holdLastFigure_50 (by decide) ?_
  obtain ⟨C6, hq5, h⟩ := bn_x h
  refine rc_v hS (run_V hC wX0_note k484 (e_36 G _) rfl hP hS (As := [.int 2, .int x1, .int (C4.1 36 11), .int 0]) (rest := []) (mX0_note l G Rm hq5) rfl hl.1 (Nat.le_of_ble_eq_true rfl) ⟨by decide, by decide⟩ ⟨Nat.le_refl _, Nat.le_refl _⟩ rfl dX0_holdLastFigure_51) (fun H locs hP hS => ?_)
  exact re_v' hC hr hP hS (congrArg (fun Z : Mm => (Z, Rm)) (Option.some.inj h)) dX0_holdLastFigure_54
set_option maxHeartbeats 4000000 in
set_option maxRecDepth 100000 in
theorem mX0_goCrossed (l : Launch) (G : gp) (Rm : Mm) {n : Nat} {p1 : Int32} {p2 : Int32} {C : Mm} {r0 : Int32} {C0 : Mm} (h : fX0_goCrossed n p1 p2 C = some (r0, C0)) : Met l yX0_goCrossed (wsy yX0_goCrossed cX0_goCrossed 6 (some .boolean)) (rmv 2 66) (va_Pc [.ref (gA G 36), .int p1, .int p2] (Rl G (C, Rm))) (Qi G PZ r0 (C0, Rm)) 0 0 (lwA G) := by
  refine met_i [.ref (gA G 36), .int p1, .int p2] wX0_goCrossed.2.2.2.2.2 (Nat.le_of_ble_eq_true rfl) ?_
  intro p e s m args below meth c ls hC hr hP hl
  have hC : Cx G p s m args meth c cX0_goCrossed RX0 6 := hC
  have hx := hC.1
  have hb := hC.2.1
  have hown := hC.2.2.2.1
  have hts := hC.2.2.2.2.1
  have hS : va_S (lwA G) s.heap s.heap [] := va_S.rf
  have hl : lv_has ls 6 [(0, .ref (gA G 36)), (1, .int p1), (2, .int p2)] := hl
  have bl26 : ∀ (k17 : Int32 → Int32 → Int32 → Int32 → Mm → Option (Int32 × Mm)) (hk17 : ∀ (y1 : Int32) (y2 : Int32) (y3 : Int32) (y4 : Int32) (C : Mm) (H : Heap) (locs : List Loc) (ls : Array Slot), k17 y1 y2 y3 y4 C = some (r0, C0) → lv_has ls 6 [(0, .ref (gA G 36)), (1, .int y1), (2, .int y2), (3, .int y3), (4, .int y4)] → va_P (gD G) vwCl (wld G (C, Rm)) H → va_S (lwA G) s.heap H locs → W p l e (rmv 2 66) s m args below meth c H locs 0 0 (MQ below (Qi G PZ r0 (C0, Rm)) args s 0 0 (lwA G)) (F0 m 17 ls [])) (fu : Nat), ∀ (y1 : Int32) (y2 : Int32) (y3 : Int32) (y4 : Int32) (y5 : Int32) (C : Mm) (H : Heap) (locs : List Loc) (ls : Array Slot), fX0_goCrossed_h26 n k17 fu y1 y2 y3 y4 y5 C = some (r0, C0) → lv_has ls 6 [(0, .ref (gA G 36)), (1, .int y1), (2, .int y2), (3, .int y3), (4, .int y4), (5, .int y5)] → va_P (gD G) vwCl (wld G (C, Rm)) H → va_S (lwA G) s.heap H locs → W p l e (rmv 2 66) s m args below meth c H locs 0 0 (MQ below (Qi G PZ r0 (C0, Rm)) args s 0 0 (lwA G)) (F0 m 26 ls []) := by
    intro k17 hk17 fu
    induction fu with
    | zero =>
      intro y1 y2 y3 y4 y5 C H locs ls h hl hP hS
      rw [fX0_goCrossed_h26.eq_1] at h
      cases h
    | succ fu ih =>
      intro y1 y2 y3 y4 y5 C H locs ls h hl hP hS
      rw [fX0_goCrossed_h26.eq_2] at h
      refine lv_iload hx hb dX0_goCrossed_26 (lv_at hl 5 rfl) ?_
      refine lv_iload hx hb dX0_goCrossed_28 (lv_at hl 4 rfl) ?_
      refine lv_icmp_gt (tgt := 64) hx hb dX0_goCrossed_30 (by decide) (fun c1 => ?_) (fun c1 => ?_)
      · replace h := it_t c1 h
        refine lv_aload_n hx hb dX0_goCrossed_64 rfl (lv_at hl 0 rfl) ?_
        obtain ⟨C3, hq2, h⟩ := bn_x h
        refine rc_v hS (run_V hC wX0_holdLastFigure k533 (e_36 G _) rfl hP hS (As := []) (rest := []) (mX0_holdLastFigure l G Rm hq2) rfl hl.1 (Nat.le_of_ble_eq_true rfl) ⟨by decide, by decide⟩ ⟨Nat.le_refl _, Nat.le_refl _⟩ rfl dX0_goCrossed_65) (fun H locs hP hS => ?_)
        obtain ⟨x4, ex4⟩ : ∃ y : Int32, y = y4 + 1 := ⟨_, rfl⟩
        replace h := lt_y ex4 h
        refine lv_iinc (v := x4) (lv' := [(4, .int x4), (0, .ref (gA G 36)), (1, .int y1), (2, .int y2), (3, .int y3), (5, .int y5)]) hx hb dX0_goCrossed_68 hl (k := 4) rfl (by rw [ex4]; rfl) (by decide) rfl (fun ls hl => ?_)
        refine lv_goto (tgt := 17) hx hb dX0_goCrossed_71 (by decide) ?_
        exact hk17 y1 y2 y3 x4 C3 _ _ _ h (lv_sub hl [1, 2, 3, 4, 0] rfl) hP hS
      · replace h := it_f c1 h
        refine lv_aload_n hx hb dX0_goCrossed_33 rfl (lv_at hl 0 rfl) ?_
        refine lv_iload_n hx hb dX0_goCrossed_34 rfl (lv_at hl 1 rfl) ?_
        refine lv_iload hx hb dX0_goCrossed_35 (lv_at hl 5 rfl) ?_
        obtain ⟨r6, hq5, h⟩ := bn_x h
        refine rc_i hS (run_S hC wX4_figureAt k502 hP hS (As := [.int y1, .int y5]) (rest := [.ref (gA G 36)]) (mX4_figureAt l G Rm hq5) rfl hl.1 (Nat.le_of_ble_eq_true rfl) ⟨by decide, by decide⟩ ⟨Nat.le_refl _, Nat.le_refl _⟩ rfl dX0_goCrossed_37) (fun H locs pb7 hP hS => ?_)
        refine lv_iload_n hx hb dX0_goCrossed_40 rfl (lv_at hl 2 rfl) ?_
        refine lv_iload hx hb dX0_goCrossed_41 (lv_at hl 4 rfl) ?_
        refine lv_iload hx hb dX0_goCrossed_43 (lv_at hl 5 rfl) ?_
        refine lv_isub hx hb dX0_goCrossed_45 ?_
        obtain ⟨r9, hq8, h⟩ := bn_x h
        refine rc_i hS (run_S hC wX4_figureAt k502 hP hS (As := [.int y2, .int (y4 - y5)]) (rest := [.int r6, .ref (gA G 36)]) (mX4_figureAt l G Rm hq8) rfl hl.1 (Nat.le_of_ble_eq_true rfl) ⟨by decide, by decide⟩ ⟨Nat.le_refl _, Nat.le_refl _⟩ rfl dX0_goCrossed_46) (fun H locs pb10 hP hS => ?_)
        refine lv_iconst (v := 1) hx hb dX0_goCrossed_49 (by decide) ?_
        refine lv_iload hx hb dX0_goCrossed_50 (lv_at hl 4 rfl) ?_
        obtain ⟨r12, hq11, h⟩ := bn_x h
        refine rc_i hS (run_S hC wX4_tenTo k497 hP hS (As := [.int y4]) (rest := [.int 1, .int r9, .int r6, .ref (gA G 36)]) (mX4_tenTo l G Rm hq11) rfl hl.1 (Nat.le_of_ble_eq_true rfl) ⟨by decide, by decide⟩ ⟨Nat.le_refl _, Nat.le_refl _⟩ rfl dX0_goCrossed_52) (fun H locs pb13 hP hS => ?_)
        obtain ⟨C15, hq14, h⟩ := bn_x h
        refine rc_v hS (run_V hC wX0_lookAndAdd k505 (e_36 G _) rfl hP hS (As := [.int r6, .int r9, .int 1, .int r12]) (rest := []) (mX0_lookAndAdd l G Rm hq14) rfl hl.1 (Nat.le_of_ble_eq_true rfl) ⟨by decide, by decide⟩ ⟨Nat.le_refl _, Nat.le_refl _⟩ rfl dX0_goCrossed_55) (fun H locs hP hS => ?_)
        obtain ⟨x16, ex16⟩ : ∃ y : Int32, y = y5 + 1 := ⟨_, rfl⟩
        replace h := lt_y ex16 h
        refine lv_iinc (v := x16) (lv' := [(5, .int x16), (0, .ref (gA G 36)), (1, .int y1), (2, .int y2), (3, .int y3), (4, .int y4)]) hx hb dX0_goCrossed_58 hl (k := 5) rfl (by rw [ex16]; rfl) (by decide) rfl (fun ls hl => ?_)
        refine lv_goto (tgt := 26) hx hb dX0_goCrossed_61 (by decide) ?_
        exact ih y1 y2 y3 y4 x16 C15 _ _ _ h (lv_sub hl [1, 2, 3, 4, 5, 0] rfl) hP hS
  have bl17 : ∀ (fu : Nat), ∀ (y1 : Int32) (y2 : Int32) (y3 : Int32) (y4 : Int32) (C : Mm) (H : Heap) (locs : List Loc) (ls : Array Slot), fX0_goCrossed_h17 n fu y1 y2 y3 y4 C = some (r0, C0) → lv_has ls 6 [(0, .ref (gA G 36)), (1, .int y1), (2, .int y2), (3, .int y3), (4, .int y4)] → va_P (gD G) vwCl (wld G (C, Rm)) H → va_S (lwA G) s.heap H locs → W p l e (rmv 2 66) s m args below meth c H locs 0 0 (MQ below (Qi G PZ r0 (C0, Rm)) args s 0 0 (lwA G)) (F0 m 17 ls []) := by
    intro fu
    induction fu with
    | zero =>
      intro y1 y2 y3 y4 C H locs ls h hl hP hS
      rw [fX0_goCrossed_h17.eq_1] at h
      cases h
    | succ fu ih =>
      intro y1 y2 y3 y4 C H locs ls h hl hP hS
      rw [fX0_goCrossed_h17.eq_2] at h
      refine lv_iload hx hb dX0_goCrossed_17 (lv_at hl 4 rfl) ?_
      refine lv_iload_n hx hb dX0_goCrossed_19 rfl (lv_at hl 3 rfl) ?_
      refine lv_icmp_gt (tgt := 74) hx hb dX0_goCrossed_20 (by decide) (fun c17 => ?_) (fun c17 => ?_)
      · replace h := it_t c17 h
        refine lv_iconst (v := 1) hx hb dX0_goCrossed_74 (by decide) ?_
        exact re_z' hC hr hP hS PZ1 (pr_1 h) (congrArg (fun Z : Mm => (Z, Rm)) (pr_2 h)) dX0_goCrossed_75
      · replace h := it_f c17 h
        refine lv_iconst (v := 0) hx hb dX0_goCrossed_23 (by decide) ?_
        refine lv_istore (lv' := [(5, .int 0), (0, .ref (gA G 36)), (1, .int y1), (2, .int y2), (3, .int y3), (4, .int y4)]) hx hb dX0_goCrossed_24 hl (by decide) rfl (fun ls hl => ?_)
        exact bl26 (fX0_goCrossed_h17 n fu) ih n y1 y2 y3 y4 0 C _ _ _ h (lv_sub hl [1, 2, 3, 4, 5, 0] rfl) hP hS
  unfold fX0_goCrossed at h
  refine lv_iload_n hx hb dX0_goCrossed_0 rfl (lv_at hl 1 rfl) ?_
  refine lv_i2l hx hb dX0_goCrossed_1 rfl ?_
  obtain ⟨r19, hq18, h⟩ := bn_x h
  refine rc_i hS (run_S hC wX4_sizeOf k492 hP hS (As := [.long (Int32.toInt64 p1)]) (rest := []) (mX4_sizeOf l G Rm hq18) rfl hl.1 (Nat.le_of_ble_eq_true rfl) ⟨by decide, by decide⟩ ⟨Nat.le_refl _, Nat.le_refl _⟩ rfl dX0_goCrossed_2) (fun H locs pb20 hP hS => ?_)
  refine lv_iload_n hx hb dX0_goCrossed_5 rfl (lv_at hl 2 rfl) ?_
  refine lv_i2l hx hb dX0_goCrossed_6 rfl ?_
  obtain ⟨r22, hq21, h⟩ := bn_x h
  refine rc_i hS (run_S hC wX4_sizeOf k492 hP hS (As := [.long (Int32.toInt64 p2)]) (rest := [.int r19]) (mX4_sizeOf l G Rm hq21) rfl hl.1 (Nat.le_of_ble_eq_true rfl) ⟨by decide, by decide⟩ ⟨Nat.le_refl _, Nat.le_refl _⟩ rfl dX0_goCrossed_7) (fun H locs pb23 hP hS => ?_)
  refine lv_iadd hx hb dX0_goCrossed_10 ?_
  refine lv_iconst (v := 2) hx hb dX0_goCrossed_11 (by decide) ?_
  refine lv_isub hx hb dX0_goCrossed_12 ?_
  refine lv_topi (fun x24 ex24 => ?_)
  replace h := lt_y ex24 h
  refine lv_istore_n (lv' := [(3, .int x24), (0, .ref (gA G 36)), (1, .int p1), (2, .int p2)]) hx hb dX0_goCrossed_13 rfl hl (by decide) rfl (fun ls hl => ?_)
  refine lv_iconst (v := 0) hx hb dX0_goCrossed_14 (by decide) ?_
  refine lv_istore (lv' := [(4, .int 0), (3, .int x24), (0, .ref (gA G 36)), (1, .int p1), (2, .int p2)]) hx hb dX0_goCrossed_15 hl (by decide) rfl (fun ls hl => ?_)
  exact bl17 n p1 p2 x24 0 C _ _ _ h (lv_sub hl [2, 3, 4, 1, 0] rfl) hP hS
set_option maxHeartbeats 4000000 in
set_option maxRecDepth 100000 in
theorem mX0_goSquared (l : Launch) (G : gp) (Rm : Mm) {n : Nat} {p1 : Int32} {p2 : Int32} {C : Mm} {r0 : Int32} {C0 : Mm} (h : fX0_goSquared n p1 p2 C = some (r0, C0)) : Met l yX0_goSquared (wsy yX0_goSquared cX0_goSquared 6 (some .boolean)) (rmv 3 91) (va_Pc [.ref (gA G 36), .int p1, .int p2] (Rl G (C, Rm))) (Qi G PZ r0 (C0, Rm)) 0 0 (lwA G) := by
  refine met_i [.ref (gA G 36), .int p1, .int p2] wX0_goSquared.2.2.2.2.2 (Nat.le_of_ble_eq_true rfl) ?_
  intro p e s m args below meth c ls hC hr hP hl
  have hC : Cx G p s m args meth c cX0_goSquared RX0 6 := hC
  have hx := hC.1
  have hb := hC.2.1
  have hown := hC.2.2.2.1
  have hts := hC.2.2.2.2.1
  have hS : va_S (lwA G) s.heap s.heap [] := va_S.rf
  have hl : lv_has ls 6 [(0, .ref (gA G 36)), (1, .int p1), (2, .int p2)] := hl
  have bl47 : ∀ (y5 : Int32) (C : Mm) (H : Heap) (locs : List Loc) (ls : Array Slot), fX0_goSquared_b47 n y5 C = some (r0, C0) → lv_has ls 6 [(0, .ref (gA G 36)), (5, .int y5)] → va_P (gD G) vwCl (wld G (C, Rm)) H → va_S (lwA G) s.heap H locs → W p l e (rmv 3 91) s m args below meth c H locs 0 0 (MQ below (Qi G PZ r0 (C0, Rm)) args s 0 0 (lwA G)) (F0 m 47 ls []) := by
    intro y5 C H locs ls h hl hP hS
    unfold fX0_goSquared_b47 at h
    refine lv_aload_n hx hb dX0_goSquared_47 rfl (lv_at hl 0 rfl) ?_
    refine lv_iload hx hb dX0_goSquared_48 (lv_at hl 1 rfl) ?_
    obtain ⟨C2, hq1, h⟩ := bn_x h
    refine rc_v hS (run_V hC wX0_letGo k521 (e_36 G _) rfl hP hS (As := [.int y5]) (rest := []) (mX0_letGo l G Rm hq1) rfl hl.1 (Nat.le_of_ble_eq_true rfl) ⟨by decide, by decide⟩ ⟨Nat.le_refl _, Nat.le_refl _⟩ rfl dX0_goSquared_50) (fun H locs hP hS => ?_)
    refine lv_aload_n hx hb dX0_goSquared_53 rfl (lv_at hl 0 rfl) ?_
    refine lv_iload hx hb dX0_goSquared_54 (lv_at hl 1 rfl) ?_
    refine lv_aload_n hx hb dX0_goSquared_56 rfl (lv_at hl 0 rfl) ?_
    refine r_get (v := .int (C2.1 36 13)) hC inX0 hP (e_36 G _) rfl 13 (by decide) rfl k109 rfl dX0_goSquared_57 ?_
    refine lv_isub hx hb dX0_goSquared_60 ?_
    refine lv_iconst (v := 1) hx hb dX0_goSquared_61 (by decide) ?_
    obtain ⟨C4, hq3, h⟩ := bn_x h
    refine rc_v hS (run_V hC wX0_add k525 (e_36 G _) rfl hP hS (As := [.int (y5 - (C2.1 36 13)), .int 1]) (rest := []) (mX0_add l G Rm hq3) rfl hl.1 (Nat.le_of_ble_eq_true rfl) ⟨by decide, by decide⟩ ⟨Nat.le_refl _, Nat.le_refl _⟩ rfl dX0_goSquared_62) (fun H locs hP hS => ?_)
    refine lv_iconst (v := 1) hx hb dX0_goSquared_65 (by decide) ?_
    exact re_z' hC hr hP hS PZ1 (pr_1 h) (congrArg (fun Z : Mm => (Z, Rm)) (pr_2 h)) dX0_goSquared_66
  unfold fX0_goSquared at h
  refine lv_iload_n hx hb dX0_goSquared_0 rfl (lv_at hl 1 rfl) ?_
  refine lv_iload_n hx hb dX0_goSquared_1 rfl (lv_at hl 2 rfl) ?_
  refine lv_iadd hx hb dX0_goSquared_2 ?_
  refine lv_iconst (v := 2) hx hb dX0_goSquared_3 (by decide) ?_
  refine lv_idiv hx hb dX0_goSquared_4 (by decide) ?_
  refine lv_topi (fun x5 ex5 => ?_)
  replace h := lt_y ex5 h
  refine lv_istore_n (lv' := [(3, .int x5), (0, .ref (gA G 36)), (1, .int p1), (2, .int p2)]) hx hb dX0_goSquared_5 rfl hl (by decide) rfl (fun ls hl => ?_)
  refine lv_iload_n hx hb dX0_goSquared_6 rfl (lv_at hl 2 rfl) ?_
  refine lv_iload_n hx hb dX0_goSquared_7 rfl (lv_at hl 3 rfl) ?_
  refine lv_isub hx hb dX0_goSquared_8 ?_
  refine r_abs hC (rest := []) k544 k545 k13 k546 hl.1 (by decide) (Nat.le_of_ble_eq_true rfl) (Nat.le_refl _) (Nat.le_refl _) dX0_goSquared_9 ?_
  refine lv_iconst (v := 2) hx hb dX0_goSquared_12 (by decide) ?_
  refine lv_idiv hx hb dX0_goSquared_13 (by decide) ?_
  refine lv_topi (fun x6 ex6 => ?_)
  replace h := lt_y ex6 h
  refine lv_istore (lv' := [(4, .int x6), (3, .int x5), (0, .ref (gA G 36)), (1, .int p1), (2, .int p2)]) hx hb dX0_goSquared_14 hl (by decide) rfl (fun ls hl => ?_)
  refine lv_aload_n hx hb dX0_goSquared_16 rfl (lv_at hl 2 rfl) ?_
  refine lv_iload_n hx hb dX0_goSquared_17 rfl (lv_at hl 1 rfl) ?_
  refine lv_iload_n hx hb dX0_goSquared_18 rfl (lv_at hl 1 rfl) ?_
  obtain ⟨r8, C9, hq7, h⟩ := bp_x h
  refine rc_i hS (run_V hC wX0_goLeft k488 (e_36 G _) rfl hP hS (As := [.int x5, .int x5]) (rest := []) (mX0_goLeft l G Rm hq7) rfl hl.1 (Nat.le_of_ble_eq_true rfl) ⟨by decide, by decide⟩ ⟨Nat.le_refl _, Nat.le_refl _⟩ rfl dX0_goSquared_19) (fun H locs pb10 hP hS => ?_)
  refine lv_pop hx hb dX0_goSquared_22 rfl ?_
  refine lv_aload_n hx hb dX0_goSquared_23 rfl (lv_at hl 2 rfl) ?_
  refine r_get (v := .int (C9.1 36 13)) hC inX0 hP (e_36 G _) rfl 13 (by decide) rfl k109 rfl dX0_goSquared_24 ?_
  refine lv_topi (fun x11 ex11 => ?_)
  replace h := lt_y ex11 h
  refine lv_istore (lv' := [(5, .int x11), (4, .int x6), (3, .int x5), (0, .ref (gA G 36)), (1, .int p1), (2, .int p2)]) hx hb dX0_goSquared_27 hl (by decide) rfl (fun ls hl => ?_)
  refine lv_aload_n hx hb dX0_goSquared_29 rfl (lv_at hl 3 rfl) ?_
  obtain ⟨C13, hq12, h⟩ := bn_x h
  refine rc_v hS (run_V hC wX0_holdRunning k513 (e_36 G _) rfl hP hS (As := []) (rest := []) (mX0_holdRunning l G Rm hq12) rfl hl.1 (Nat.le_of_ble_eq_true rfl) ⟨by decide, by decide⟩ ⟨Nat.le_refl _, Nat.le_refl _⟩ rfl dX0_goSquared_30) (fun H locs hP hS => ?_)
  refine lv_iload hx hb dX0_goSquared_33 (lv_at hl 1 rfl) ?_
  refine lv_if_le (tgt := 47) hx hb dX0_goSquared_35 (by decide) (fun c14 => ?_) (fun c14 => ?_)
  · replace h := it_t c14 h
    exact bl47 x11 C13 _ _ _ h (lv_sub hl [3, 0] rfl) hP hS
  · replace h := it_f c14 h
    refine lv_aload_n hx hb dX0_goSquared_38 rfl (lv_at hl 3 rfl) ?_
    refine lv_iload hx hb dX0_goSquared_39 (lv_at hl 1 rfl) ?_
    refine lv_iload hx hb dX0_goSquared_41 (lv_at hl 1 rfl) ?_
    obtain ⟨r16, C17, hq15, h⟩ := bp_x h
    refine rc_i hS (run_V hC wX0_goLeft k488 (e_36 G _) rfl hP hS (As := [.int x6, .int x6]) (rest := []) (mX0_goLeft l G Rm hq15) rfl hl.1 (Nat.le_of_ble_eq_true rfl) ⟨by decide, by decide⟩ ⟨Nat.le_refl _, Nat.le_refl _⟩ rfl dX0_goSquared_43) (fun H locs pb18 hP hS => ?_)
    refine lv_pop hx hb dX0_goSquared_46 rfl ?_
    exact bl47 x11 C17 _ _ _ h (lv_sub hl [3, 0] rfl) hP hS
set_option maxHeartbeats 4000000 in
set_option maxRecDepth 100000 in
theorem mX0_goSplit (l : Launch) (G : gp) (Rm : Mm) {n : Nat} {p1 : Int32} {p2 : Int32} {p3 : Int32} {C : Mm} {r0 : Int32} {C0 : Mm} (h : fX0_goSplit n p1 p2 p3 C = some (r0, C0)) : Met l yX0_goSplit (wsy yX0_goSplit cX0_goSplit 6 (some .boolean)) (rmv 3 91) (va_Pc [.ref (gA G 36), .int p1, .int p2, .int p3] (Rl G (C, Rm))) (Qi G PZ r0 (C0, Rm)) 0 0 (lwA G) := by
  refine met_i [.ref (gA G 36), .int p1, .int p2, .int p3] wX0_goSplit.2.2.2.2.2 (Nat.le_of_ble_eq_true rfl) ?_
  intro p e s m args below meth c ls hC hr hP hl
  have hC : Cx G p s m args meth c cX0_goSplit RX0 6 := hC
  have hx := hC.1
  have hb := hC.2.1
  have hown := hC.2.2.2.1
  have hts := hC.2.2.2.2.1
  have hS : va_S (lwA G) s.heap s.heap [] := va_S.rf
  have hl : lv_has ls 6 [(0, .ref (gA G 36)), (1, .int p1), (2, .int p2), (3, .int p3)] := hl
  have bl53 : ∀ (k3 : Int32 → Int32 → Int32 → Mm → Option (Int32 × Mm)) (hk3 : ∀ (y1 : Int32) (y2 : Int32) (y4 : Int32) (C : Mm) (H : Heap) (locs : List Loc) (ls : Array Slot), k3 y1 y2 y4 C = some (r0, C0) → lv_has ls 6 [(0, .ref (gA G 36)), (1, .int y1), (2, .int y2), (4, .int y4)] → va_P (gD G) vwCl (wld G (C, Rm)) H → va_S (lwA G) s.heap H locs → W p l e (rmv 3 91) s m args below meth c H locs 0 0 (MQ below (Qi G PZ r0 (C0, Rm)) args s 0 0 (lwA G)) (F0 m 3 ls [])), ∀ (y1 : Int32) (y2 : Int32) (y4 : Int32) (C : Mm) (H : Heap) (locs : List Loc) (ls : Array Slot), fX0_goSplit_b53 n k3 y1 y2 y4 C = some (r0, C0) → lv_has ls 6 [(0, .ref (gA G 36)), (1, .int y1), (2, .int y2), (4, .int y4)] → va_P (gD G) vwCl (wld G (C, Rm)) H → va_S (lwA G) s.heap H locs → W p l e (rmv 3 91) s m args below meth c H locs 0 0 (MQ below (Qi G PZ r0 (C0, Rm)) args s 0 0 (lwA G)) (F0 m 53 ls []) := by
    intro k3 hk3 y1 y2 y4 C H locs ls h hl hP hS
    unfold fX0_goSplit_b53 at h
    obtain ⟨x1, ex1⟩ : ∃ y : Int32, y = y4 + (-1) := ⟨_, rfl⟩
    replace h := lt_y ex1 h
    refine lv_iinc (v := x1) (lv' := [(4, .int x1), (0, .ref (gA G 36)), (1, .int y1), (2, .int y2)]) hx hb dX0_goSplit_53 hl (k := 3) rfl (by rw [ex1]; rfl) (by decide) rfl (fun ls hl => ?_)
    refine lv_goto (tgt := 3) hx hb dX0_goSplit_56 (by decide) ?_
    exact hk3 y1 y2 x1 C _ _ _ h (lv_sub hl [1, 2, 3, 0] rfl) hP hS
  have bl3 : ∀ (fu : Nat), ∀ (y1 : Int32) (y2 : Int32) (y4 : Int32) (C : Mm) (H : Heap) (locs : List Loc) (ls : Array Slot), fX0_goSplit_h3 n fu y1 y2 y4 C = some (r0, C0) → lv_has ls 6 [(0, .ref (gA G 36)), (1, .int y1), (2, .int y2), (4, .int y4)] → va_P (gD G) vwCl (wld G (C, Rm)) H → va_S (lwA G) s.heap H locs → W p l e (rmv 3 91) s m args below meth c H locs 0 0 (MQ below (Qi G PZ r0 (C0, Rm)) args s 0 0 (lwA G)) (F0 m 3 ls []) := by
    intro fu
    induction fu with
    | zero =>
      intro y1 y2 y4 C H locs ls h hl hP hS
      rw [fX0_goSplit_h3.eq_1] at h
      cases h
    | succ fu ih =>
      intro y1 y2 y4 C H locs ls h hl hP hS
      rw [fX0_goSplit_h3.eq_2] at h
      refine lv_iload hx hb dX0_goSplit_3 (lv_at hl 3 rfl) ?_
      refine lv_iconst (v := 2) hx hb dX0_goSplit_5 (by decide) ?_
      refine lv_icmp_lt (tgt := 59) hx hb dX0_goSplit_6 (by decide) (fun c2 => ?_) (fun c2 => ?_)
      · replace h := it_t c2 h
        refine lv_iconst (v := 0) hx hb dX0_goSplit_59 (by decide) ?_
        exact re_z' hC hr hP hS PZ0 (pr_1 h) (congrArg (fun Z : Mm => (Z, Rm)) (pr_2 h)) dX0_goSplit_60
      · replace h := it_f c2 h
        refine lv_iload_n hx hb dX0_goSplit_9 rfl (lv_at hl 2 rfl) ?_
        refine lv_iload hx hb dX0_goSplit_10 (lv_at hl 3 rfl) ?_
        by_cases c3 : y4 = 0
        · cases it_t c3 h
        replace h := it_f c3 h
        refine r_irem hx hb dX0_goSplit_12 c3 ?_
        refine lv_if_ne (tgt := 53) hx hb dX0_goSplit_13 (by decide) (fun c4 => ?_) (fun c4 => ?_)
        · replace h := it_f c4 h
          exact bl53 (fX0_goSplit_h3 n fu) ih y1 y2 y4 C _ _ _ h (lv_sub hl [0, 1, 2, 3] rfl) hP hS
        · replace h := it_t c4 h
          refine lv_iload_n hx hb dX0_goSplit_16 rfl (lv_at hl 2 rfl) ?_
          refine lv_iload hx hb dX0_goSplit_17 (lv_at hl 3 rfl) ?_
          by_cases c5 : y4 = 0
          · cases it_t c5 h
          replace h := it_f c5 h
          refine lv_idiv hx hb dX0_goSplit_19 c5 ?_
          refine lv_iconst (v := 1) hx hb dX0_goSplit_20 (by decide) ?_
          refine lv_icmp_le (tgt := 53) hx hb dX0_goSplit_21 (by decide) (fun c6 => ?_) (fun c6 => ?_)
          · replace h := it_t c6 h
            exact bl53 (fX0_goSplit_h3 n fu) ih y1 y2 y4 C _ _ _ h (lv_sub hl [0, 1, 2, 3] rfl) hP hS
          · replace h := it_f c6 h
            refine lv_aload_n hx hb dX0_goSplit_24 rfl (lv_at hl 0 rfl) ?_
            refine lv_iload_n hx hb dX0_goSplit_25 rfl (lv_at hl 1 rfl) ?_
            refine lv_iload hx hb dX0_goSplit_26 (lv_at hl 3 rfl) ?_
            obtain ⟨r8, C9, hq7, h⟩ := bp_x h
            refine rc_i hS (run_V hC wX0_goLeft k488 (e_36 G _) rfl hP hS (As := [.int y1, .int y4]) (rest := []) (mX0_goLeft l G Rm hq7) rfl hl.1 (Nat.le_of_ble_eq_true rfl) ⟨by decide, by decide⟩ ⟨Nat.le_refl _, Nat.le_refl _⟩ rfl dX0_goSplit_28) (fun H locs pb10 hP hS => ?_)
            refine lv_pop hx hb dX0_goSplit_31 rfl ?_
            refine lv_aload_n hx hb dX0_goSplit_32 rfl (lv_at hl 0 rfl) ?_
            refine r_get (v := .int (C9.1 36 13)) hC inX0 hP (e_36 G _) rfl 13 (by decide) rfl k109 rfl dX0_goSplit_33 ?_
            refine lv_topi (fun x11 ex11 => ?_)
            replace h := lt_y ex11 h
            refine lv_istore (lv' := [(5, .int x11), (0, .ref (gA G 36)), (1, .int y1), (2, .int y2), (4, .int y4)]) hx hb dX0_goSplit_36 hl (by decide) rfl (fun ls hl => ?_)
            refine lv_aload_n hx hb dX0_goSplit_38 rfl (lv_at hl 1 rfl) ?_
            obtain ⟨C13, hq12, h⟩ := bn_x h
            refine rc_v hS (run_V hC wX0_holdRunning k513 (e_36 G _) rfl hP hS (As := []) (rest := []) (mX0_holdRunning l G Rm hq12) rfl hl.1 (Nat.le_of_ble_eq_true rfl) ⟨by decide, by decide⟩ ⟨Nat.le_refl _, Nat.le_refl _⟩ rfl dX0_goSplit_39) (fun H locs hP hS => ?_)
            refine lv_aload_n hx hb dX0_goSplit_42 rfl (lv_at hl 1 rfl) ?_
            refine lv_iload hx hb dX0_goSplit_43 (lv_at hl 0 rfl) ?_
            refine lv_iload_n hx hb dX0_goSplit_45 rfl (lv_at hl 3 rfl) ?_
            refine lv_iload hx hb dX0_goSplit_46 (lv_at hl 4 rfl) ?_
            by_cases c14 : y4 = 0
            · cases it_t c14 h
            replace h := it_f c14 h
            refine lv_idiv hx hb dX0_goSplit_48 c14 ?_
            obtain ⟨r16, C17, hq15, h⟩ := bp_x h
            refine rc_i hS (run_V hC wX0_goLeft k488 (e_36 G _) rfl hP hS (As := [.int x11, .int (y2 / y4)]) (rest := []) (mX0_goLeft l G Rm hq15) rfl hl.1 (Nat.le_of_ble_eq_true rfl) ⟨by decide, by decide⟩ ⟨Nat.le_refl _, Nat.le_refl _⟩ rfl dX0_goSplit_49) (fun H locs pb18 hP hS => ?_)
            exact re_z' hC hr hP hS pb18 (pr_1 h) (congrArg (fun Z : Mm => (Z, Rm)) (pr_2 h)) dX0_goSplit_52
  unfold fX0_goSplit at h
  refine lv_iload_n hx hb dX0_goSplit_0 rfl (lv_at hl 3 rfl) ?_
  refine lv_istore (lv' := [(4, .int p3), (0, .ref (gA G 36)), (1, .int p1), (2, .int p2), (3, .int p3)]) hx hb dX0_goSplit_1 hl (by decide) rfl (fun ls hl => ?_)
  exact bl3 n p1 p2 p3 C _ _ _ h (lv_sub hl [1, 2, 3, 0] rfl) hP hS
set_option maxHeartbeats 4000000 in
set_option maxRecDepth 100000 in
theorem mX0_reckon (l : Launch) (G : gp) (Rm : Mm) {n : Nat} {j1 : Nat} (hj1 : j1 < 7) {p2 : Int32} {p3 : Int32} {C : Mm} {r0 : Int32} {C0 : Mm} (h : fX0_reckon n j1 p2 p3 C = some (r0, C0)) : Met l yX0_reckon (wsy yX0_reckon cX0_reckon 6 (some .boolean)) (rmv 4 116) (va_Pc [.ref (gA G 36), .ref (gA G (hdc j1)), .int p2, .int p3] (Rl G (C, Rm))) (Qi G PZ r0 (C0, Rm)) 0 0 (lwA G) := by
  refine met_i [.ref (gA G 36), .ref (gA G (hdc j1)), .int p2, .int p3] wX0_reckon.2.2.2.2.2 (Nat.le_of_ble_eq_true rfl) ?_
  intro p e s m args below meth c ls hC hr hP hl
  have hC : Cx G p s m args meth c cX0_reckon RX0 6 := hC
  have hx := hC.1
  have hb := hC.2.1
  have hown := hC.2.2.2.1
  have hts := hC.2.2.2.2.1
  have hS : va_S (lwA G) s.heap s.heap [] := va_S.rf
  have hl : lv_has ls 6 [(0, .ref (gA G 36)), (1, .ref (gA G (hdc j1))), (2, .int p2), (3, .int p3)] := hl
  unfold fX0_reckon at h
  refine lv_iload_n hx hb dX0_reckon_0 rfl (lv_at hl 3 rfl) ?_
  refine lv_sipush (v := 10000) hx hb dX0_reckon_1 (by decide) ?_
  refine lv_idiv hx hb dX0_reckon_4 (by decide) ?_
  refine lv_topi (fun x1 ex1 => ?_)
  replace h := lt_y ex1 h
  refine lv_istore (lv' := [(4, .int x1), (0, .ref (gA G 36)), (1, .ref (gA G (hdc j1))), (2, .int p2), (3, .int p3)]) hx hb dX0_reckon_5 hl (by decide) rfl (fun ls hl => ?_)
  refine lv_iload_n hx hb dX0_reckon_7 rfl (lv_at hl 4 rfl) ?_
  refine lv_sipush (v := 10000) hx hb dX0_reckon_8 (by decide) ?_
  refine r_irem hx hb dX0_reckon_11 (by decide) ?_
  refine lv_topi (fun x2 ex2 => ?_)
  replace h := lt_y ex2 h
  refine lv_istore (lv' := [(5, .int x2), (4, .int x1), (0, .ref (gA G 36)), (1, .ref (gA G (hdc j1))), (2, .int p2), (3, .int p3)]) hx hb dX0_reckon_12 hl (by decide) rfl (fun ls hl => ?_)
  refine lv_aload_n hx hb dX0_reckon_14 rfl (lv_at hl 2 rfl) ?_
  refine lv_aload_n hx hb dX0_reckon_15 rfl (lv_at hl 3 rfl) ?_
  obtain ⟨C4, hq3, h⟩ := bn_x h
  refine rc_v hS (run_V hC wX0_begin k456 (e_36 G _) rfl hP hS (As := [.ref (gA G (hdc j1))]) (rest := []) (mX0_begin l G Rm hj1 hq3) rfl hl.1 (Nat.le_of_ble_eq_true rfl) ⟨by decide, by decide⟩ ⟨Nat.le_refl _, Nat.le_refl _⟩ rfl dX0_reckon_16) (fun H locs hP hS => ?_)
  refine lv_iload_n hx hb dX0_reckon_19 rfl (lv_at hl 4 rfl) ?_
  by_cases c5 : p2 = 0
  · replace h := it_t c5 h
    refine lv_tableIn (off := 44) (tgt := 64) hx hb dX0_reckon_20 (by rw [c5]; decide) (by rw [c5]; decide) (by rw [c5]; rfl) (by decide) ?_
    refine lv_aload_n hx hb dX0_reckon_64 rfl (lv_at hl 3 rfl) ?_
    refine lv_iload_n hx hb dX0_reckon_65 rfl (lv_at hl 5 rfl) ?_
    obtain ⟨r7, hq6, h⟩ := bn_x h
    refine rc_i hS (run_V hC wX5_looksUp k465 (e_hc G _ hj1) rfl hP hS (As := [.int p3]) (rest := []) (mX5_looksUp l G Rm hj1 hq6) rfl hl.1 (Nat.le_of_ble_eq_true rfl) ⟨by decide, by decide⟩ ⟨Nat.le_refl _, Nat.le_refl _⟩ rfl dX0_reckon_66) (fun H locs pb8 hP hS => ?_)
    refine lv_if_eq (tgt := 87) hx hb dX0_reckon_69 (by decide) (fun c9 => ?_) (fun c9 => ?_)
    · replace h := it_t c9 h
      refine lv_iconst (v := 0) hx hb dX0_reckon_87 (by decide) ?_
      exact re_z' hC hr hP hS PZ0 (pr_1 h) (congrArg (fun Z : Mm => (Z, Rm)) (pr_2 h)) dX0_reckon_88
    · replace h := it_f c9 h
      refine lv_aload_n hx hb dX0_reckon_72 rfl (lv_at hl 2 rfl) ?_
      refine lv_iload hx hb dX0_reckon_73 (lv_at hl 1 rfl) ?_
      refine lv_iload hx hb dX0_reckon_75 (lv_at hl 0 rfl) ?_
      obtain ⟨r11, C12, hq10, h⟩ := bp_x h
      refine rc_i hS (run_V hC wX0_goKnown k473 (e_36 G _) rfl hP hS (As := [.int x1, .int x2]) (rest := []) (mX0_goKnown l G Rm hq10) rfl hl.1 (Nat.le_of_ble_eq_true rfl) ⟨by decide, by decide⟩ ⟨Nat.le_refl _, Nat.le_refl _⟩ rfl dX0_reckon_77) (fun H locs pb13 hP hS => ?_)
      refine lv_if_eq (tgt := 87) hx hb dX0_reckon_80 (by decide) (fun c14 => ?_) (fun c14 => ?_)
      · replace h := it_t c14 h
        refine lv_iconst (v := 0) hx hb dX0_reckon_87 (by decide) ?_
        exact re_z' hC hr hP hS PZ0 (pr_1 h) (congrArg (fun Z : Mm => (Z, Rm)) (pr_2 h)) dX0_reckon_88
      · replace h := it_f c14 h
        refine lv_iconst (v := 1) hx hb dX0_reckon_83 (by decide) ?_
        refine lv_goto (tgt := 88) hx hb dX0_reckon_84 (by decide) ?_
        exact re_z' hC hr hP hS PZ1 (pr_1 h) (congrArg (fun Z : Mm => (Z, Rm)) (pr_2 h)) dX0_reckon_88
  replace h := it_f c5 h
  by_cases c15 : p2 = 1
  · replace h := it_t c15 h
    refine lv_tableIn (off := 69) (tgt := 89) hx hb dX0_reckon_20 (by rw [c15]; decide) (by rw [c15]; decide) (by rw [c15]; rfl) (by decide) ?_
    refine lv_aload_n hx hb dX0_reckon_89 rfl (lv_at hl 2 rfl) ?_
    refine lv_iload hx hb dX0_reckon_90 (lv_at hl 1 rfl) ?_
    refine lv_iload hx hb dX0_reckon_92 (lv_at hl 0 rfl) ?_
    obtain ⟨r17, C18, hq16, h⟩ := bp_x h
    refine rc_i hS (run_V hC wX0_goLeft k488 (e_36 G _) rfl hP hS (As := [.int x1, .int x2]) (rest := []) (mX0_goLeft l G Rm hq16) rfl hl.1 (Nat.le_of_ble_eq_true rfl) ⟨by decide, by decide⟩ ⟨Nat.le_refl _, Nat.le_refl _⟩ rfl dX0_reckon_94) (fun H locs pb19 hP hS => ?_)
    exact re_z' hC hr hP hS pb19 (pr_1 h) (congrArg (fun Z : Mm => (Z, Rm)) (pr_2 h)) dX0_reckon_97
  replace h := it_f c15 h
  by_cases c20 : p2 = 2
  · replace h := it_t c20 h
    refine lv_tableIn (off := 78) (tgt := 98) hx hb dX0_reckon_20 (by rw [c20]; decide) (by rw [c20]; decide) (by rw [c20]; rfl) (by decide) ?_
    refine lv_aload_n hx hb dX0_reckon_98 rfl (lv_at hl 2 rfl) ?_
    refine lv_iload hx hb dX0_reckon_99 (lv_at hl 1 rfl) ?_
    refine lv_iload hx hb dX0_reckon_101 (lv_at hl 0 rfl) ?_
    obtain ⟨r22, C23, hq21, h⟩ := bp_x h
    refine rc_i hS (run_V hC wX0_goRight k509 (e_36 G _) rfl hP hS (As := [.int x1, .int x2]) (rest := []) (mX0_goRight l G Rm hq21) rfl hl.1 (Nat.le_of_ble_eq_true rfl) ⟨by decide, by decide⟩ ⟨Nat.le_refl _, Nat.le_refl _⟩ rfl dX0_reckon_103) (fun H locs pb24 hP hS => ?_)
    exact re_z' hC hr hP hS pb24 (pr_1 h) (congrArg (fun Z : Mm => (Z, Rm)) (pr_2 h)) dX0_reckon_106
  replace h := it_f c20 h
  by_cases c25 : p2 = 3
  · replace h := it_t c25 h
    refine lv_tableIn (off := 87) (tgt := 107) hx hb dX0_reckon_20 (by rw [c25]; decide) (by rw [c25]; decide) (by rw [c25]; rfl) (by decide) ?_
    refine lv_aload_n hx hb dX0_reckon_107 rfl (lv_at hl 2 rfl) ?_
    refine lv_iload hx hb dX0_reckon_108 (lv_at hl 1 rfl) ?_
    refine lv_iload hx hb dX0_reckon_110 (lv_at hl 0 rfl) ?_
    obtain ⟨r27, C28, hq26, h⟩ := bp_x h
    refine rc_i hS (run_V hC wX0_goCrossed k529 (e_36 G _) rfl hP hS (As := [.int x1, .int x2]) (rest := []) (mX0_goCrossed l G Rm hq26) rfl hl.1 (Nat.le_of_ble_eq_true rfl) ⟨by decide, by decide⟩ ⟨Nat.le_refl _, Nat.le_refl _⟩ rfl dX0_reckon_112) (fun H locs pb29 hP hS => ?_)
    exact re_z' hC hr hP hS pb29 (pr_1 h) (congrArg (fun Z : Mm => (Z, Rm)) (pr_2 h)) dX0_reckon_115
  replace h := it_f c25 h
  by_cases c30 : p2 = 4
  · replace h := it_t c30 h
    refine lv_tableIn (off := 96) (tgt := 116) hx hb dX0_reckon_20 (by rw [c30]; decide) (by rw [c30]; decide) (by rw [c30]; rfl) (by decide) ?_
    refine lv_iload hx hb dX0_reckon_116 (lv_at hl 1 rfl) ?_
    refine lv_iload hx hb dX0_reckon_118 (lv_at hl 0 rfl) ?_
    refine lv_iadd hx hb dX0_reckon_120 ?_
    refine lv_iconst (v := 2) hx hb dX0_reckon_121 (by decide) ?_
    refine r_irem hx hb dX0_reckon_122 (by decide) ?_
    refine lv_if_ne (tgt := 141) hx hb dX0_reckon_123 (by decide) (fun c31 => ?_) (fun c31 => ?_)
    · replace h := it_f c31 h
      refine lv_iconst (v := 0) hx hb dX0_reckon_141 (by decide) ?_
      exact re_z' hC hr hP hS PZ0 (pr_1 h) (congrArg (fun Z : Mm => (Z, Rm)) (pr_2 h)) dX0_reckon_142
    · replace h := it_t c31 h
      refine lv_aload_n hx hb dX0_reckon_126 rfl (lv_at hl 2 rfl) ?_
      refine lv_iload hx hb dX0_reckon_127 (lv_at hl 1 rfl) ?_
      refine lv_iload hx hb dX0_reckon_129 (lv_at hl 0 rfl) ?_
      obtain ⟨r33, C34, hq32, h⟩ := bp_x h
      refine rc_i hS (run_V hC wX0_goSquared k540 (e_36 G _) rfl hP hS (As := [.int x1, .int x2]) (rest := []) (mX0_goSquared l G Rm hq32) rfl hl.1 (Nat.le_of_ble_eq_true rfl) ⟨by decide, by decide⟩ ⟨Nat.le_refl _, Nat.le_refl _⟩ rfl dX0_reckon_131) (fun H locs pb35 hP hS => ?_)
      refine lv_if_eq (tgt := 141) hx hb dX0_reckon_134 (by decide) (fun c36 => ?_) (fun c36 => ?_)
      · replace h := it_t c36 h
        refine lv_iconst (v := 0) hx hb dX0_reckon_141 (by decide) ?_
        exact re_z' hC hr hP hS PZ0 (pr_1 h) (congrArg (fun Z : Mm => (Z, Rm)) (pr_2 h)) dX0_reckon_142
      · replace h := it_f c36 h
        refine lv_iconst (v := 1) hx hb dX0_reckon_137 (by decide) ?_
        refine lv_goto (tgt := 142) hx hb dX0_reckon_138 (by decide) ?_
        exact re_z' hC hr hP hS PZ1 (pr_1 h) (congrArg (fun Z : Mm => (Z, Rm)) (pr_2 h)) dX0_reckon_142
  replace h := it_f c30 h
  by_cases c37 : p2 = 5
  · replace h := it_t c37 h
    refine lv_tableIn (off := 123) (tgt := 143) hx hb dX0_reckon_20 (by rw [c37]; decide) (by rw [c37]; decide) (by rw [c37]; rfl) (by decide) ?_
    refine lv_aload_n hx hb dX0_reckon_143 rfl (lv_at hl 2 rfl) ?_
    refine lv_iload hx hb dX0_reckon_144 (lv_at hl 1 rfl) ?_
    refine lv_iload hx hb dX0_reckon_146 (lv_at hl 0 rfl) ?_
    refine lv_aload_n hx hb dX0_reckon_148 rfl (lv_at hl 3 rfl) ?_
    refine lv_iconst (v := 3) hx hb dX0_reckon_149 (by decide) ?_
    obtain ⟨r39, hq38, h⟩ := bn_x h
    refine rc_i hS (run_V hC wX5_number k460 (e_hc G _ hj1) rfl hP hS (As := [.int 3]) (rest := [.int x2, .int x1, .ref (gA G 36)]) (mX5_number l G Rm hj1 hq38) rfl hl.1 (Nat.le_of_ble_eq_true rfl) ⟨by decide, by decide⟩ ⟨Nat.le_refl _, Nat.le_refl _⟩ rfl dX0_reckon_150) (fun H locs pb40 hP hS => ?_)
    obtain ⟨r42, C43, hq41, h⟩ := bp_x h
    refine rc_i hS (run_V hC wX0_goSplit k547 (e_36 G _) rfl hP hS (As := [.int x1, .int x2, .int r39]) (rest := []) (mX0_goSplit l G Rm hq41) rfl hl.1 (Nat.le_of_ble_eq_true rfl) ⟨by decide, by decide⟩ ⟨Nat.le_refl _, Nat.le_refl _⟩ rfl dX0_reckon_153) (fun H locs pb44 hP hS => ?_)
    exact re_z' hC hr hP hS pb44 (pr_1 h) (congrArg (fun Z : Mm => (Z, Rm)) (pr_2 h)) dX0_reckon_156
  replace h := it_f c37 h
  by_cases c45 : p2 = 6
  · replace h := it_t c45 h
    refine lv_tableIn (off := 137) (tgt := 157) hx hb dX0_reckon_20 (by rw [c45]; decide) (by rw [c45]; decide) (by rw [c45]; rfl) (by decide) ?_
    refine lv_aload_n hx hb dX0_reckon_157 rfl (lv_at hl 2 rfl) ?_
    refine lv_iload hx hb dX0_reckon_158 (lv_at hl 0 rfl) ?_
    refine lv_iload hx hb dX0_reckon_160 (lv_at hl 1 rfl) ?_
    obtain ⟨r47, C48, hq46, h⟩ := bp_x h
    refine rc_i hS (run_V hC wX0_goRight k509 (e_36 G _) rfl hP hS (As := [.int x2, .int x1]) (rest := []) (mX0_goRight l G Rm hq46) rfl hl.1 (Nat.le_of_ble_eq_true rfl) ⟨by decide, by decide⟩ ⟨Nat.le_refl _, Nat.le_refl _⟩ rfl dX0_reckon_162) (fun H locs pb49 hP hS => ?_)
    exact re_z' hC hr hP hS pb49 (pr_1 h) (congrArg (fun Z : Mm => (Z, Rm)) (pr_2 h)) dX0_reckon_165
  replace h := it_f c45 h
  refine lv_tsD (tgt := 166) hx hb dX0_reckon_20 rfl (ex_c (ti_ne (z := 0) rfl c5) (ex_c (ti_ne (z := 1) rfl c15) (ex_c (ti_ne (z := 2) rfl c20) (ex_c (ti_ne (z := 3) rfl c25) (ex_c (ti_ne (z := 4) rfl c30) (ex_c (ti_ne (z := 5) rfl c37) (ex_c (ti_ne (z := 6) rfl c45) ex_0))))))) (by decide) (by decide) ?_
  refine lv_iconst (v := 0) hx hb dX0_reckon_166 (by decide) ?_
  exact re_z' hC hr hP hS PZ0 (pr_1 h) (congrArg (fun Z : Mm => (Z, Rm)) (pr_2 h)) dX0_reckon_167
set_option maxHeartbeats 4000000 in
set_option maxRecDepth 100000 in
theorem mX0_slipDrawn (l : Launch) (G : gp) (Rm : Mm) {n : Nat} {p1 : Int32} {p2 : Int32} {C : Mm} {r0 : Int32} (h : fX0_slipDrawn n p1 p2 C = some r0) : Met l yX0_slipDrawn (wsy yX0_slipDrawn cX0_slipDrawn 4 (some .int)) (rmv 1 22) (va_Pc [.ref (gA G 36), .int p1, .int p2] (Rl G (C, Rm))) (Qi G PT r0 (C, Rm)) 0 0 (lwA G) := by
  refine met_i [.ref (gA G 36), .int p1, .int p2] wX0_slipDrawn.2.2.2.2.2 (Nat.le_of_ble_eq_true rfl) ?_
  intro p e s m args below meth c ls hC hr hP hl
  have hC : Cx G p s m args meth c cX0_slipDrawn RX0 4 := hC
  have hx := hC.1
  have hb := hC.2.1
  have hown := hC.2.2.2.1
  have hts := hC.2.2.2.2.1
  have hS : va_S (lwA G) s.heap s.heap [] := va_S.rf
  have hl : lv_has ls 4 [(0, .ref (gA G 36)), (1, .int p1), (2, .int p2)] := hl
  unfold fX0_slipDrawn at h
  refine lv_aload_n hx hb dX0_slipDrawn_0 rfl (lv_at hl 0 rfl) ?_
  refine r_get (v := .ref (gA G 37)) hC inX0 hP (e_36 G _) rfl 0 (by decide) rfl k96 rfl dX0_slipDrawn_1 ?_
  refine lv_iload_n hx hb dX0_slipDrawn_4 rfl (lv_at hl 1 rfl) ?_
  by_cases c1 : p1 < (0 : Int32) ∨ 80 ≤ Int32.toNatClampNeg p1
  · cases it_t c1 h
  replace h := it_f c1 h
  refine r_iald hC hP (f := C.1 37) (e_37 G _) c1 dX0_slipDrawn_5 ?_
  refine lv_if_ne (tgt := 33) hx hb dX0_slipDrawn_6 (by decide) (fun c2 => ?_) (fun c2 => ?_)
  · replace h := it_f c2 h
    refine lv_aload_n hx hb dX0_slipDrawn_33 rfl (lv_at hl 0 rfl) ?_
    refine r_get (v := .ref (gA G 37)) hC inX0 hP (e_36 G _) rfl 0 (by decide) rfl k96 rfl dX0_slipDrawn_34 ?_
    refine lv_iload_n hx hb dX0_slipDrawn_37 rfl (lv_at hl 1 rfl) ?_
    by_cases c3 : p1 < (0 : Int32) ∨ 80 ≤ Int32.toNatClampNeg p1
    · cases it_t c3 h
    replace h := it_f c3 h
    refine r_iald hC hP (f := C.1 37) (e_37 G _) c3 dX0_slipDrawn_38 ?_
    refine lv_iconst (v := 1) hx hb dX0_slipDrawn_39 (by decide) ?_
    refine lv_icmp_ne (tgt := 78) hx hb dX0_slipDrawn_40 (by decide) (fun c4 => ?_) (fun c4 => ?_)
    · replace h := it_f c4 h
      refine lv_iconst (v := 0) hx hb dX0_slipDrawn_78 (by decide) ?_
      exact re_i' hC hr hP hS (Option.some.inj h) rfl dX0_slipDrawn_79
    · replace h := it_t c4 h
      refine lv_aload_n hx hb dX0_slipDrawn_43 rfl (lv_at hl 0 rfl) ?_
      refine r_get (v := .ref (gA G 38)) hC inX0 hP (e_36 G _) rfl 1 (by decide) rfl k97 rfl dX0_slipDrawn_44 ?_
      refine lv_iload_n hx hb dX0_slipDrawn_47 rfl (lv_at hl 1 rfl) ?_
      by_cases c5 : p1 < (0 : Int32) ∨ 80 ≤ Int32.toNatClampNeg p1
      · cases it_t c5 h
      replace h := it_f c5 h
      refine r_iald hC hP (f := C.1 38) (e_38 G _) c5 dX0_slipDrawn_48 ?_
      refine lv_i2l hx hb dX0_slipDrawn_49 rfl ?_
      obtain ⟨r7, hq6, h⟩ := bn_x h
      refine rc_i hS (run_S hC wX4_sizeOf k492 hP hS (As := [.long (Int32.toInt64 (C.1 38 (Int32.toNatClampNeg p1)))]) (rest := []) (mX4_sizeOf l G Rm hq6) rfl hl.1 (Nat.le_of_ble_eq_true rfl) ⟨by decide, by decide⟩ ⟨Nat.le_refl _, Nat.le_refl _⟩ rfl dX0_slipDrawn_50) (fun H locs pb8 hP hS => ?_)
      refine lv_istore_n (lv' := [(3, .int r7), (0, .ref (gA G 36)), (1, .int p1), (2, .int p2)]) hx hb dX0_slipDrawn_53 rfl hl (by decide) rfl (fun ls hl => ?_)
      refine lv_iload_n hx hb dX0_slipDrawn_54 rfl (lv_at hl 0 rfl) ?_
      refine lv_iconst (v := 1) hx hb dX0_slipDrawn_55 (by decide) ?_
      refine lv_icmp_ge (tgt := 63) hx hb dX0_slipDrawn_56 (by decide) (fun c9 => ?_) (fun c9 => ?_)
      · replace h := it_t c9 h
        refine lv_aload_n hx hb dX0_slipDrawn_63 rfl (lv_at hl 1 rfl) ?_
        refine r_get (v := .ref (gA G 41)) hC inX0 hP (e_36 G _) rfl 4 (by decide) rfl k100 rfl dX0_slipDrawn_64 ?_
        refine lv_iload_n hx hb dX0_slipDrawn_67 rfl (lv_at hl 2 rfl) ?_
        by_cases c10 : p1 < (0 : Int32) ∨ 80 ≤ Int32.toNatClampNeg p1
        · cases it_t c10 h
        replace h := it_f c10 h
        refine r_iald hC hP (f := C.1 41) (e_41 G _) c10 dX0_slipDrawn_68 ?_
        refine lv_ineg hx hb dX0_slipDrawn_69 ?_
        refine lv_iload_n hx hb dX0_slipDrawn_70 rfl (lv_at hl 3 rfl) ?_
        refine lv_iload_n hx hb dX0_slipDrawn_71 rfl (lv_at hl 0 rfl) ?_
        by_cases c11 : r7 = 0
        · cases it_t c11 h
        replace h := it_f c11 h
        refine r_irem hx hb dX0_slipDrawn_72 c11 ?_
        obtain ⟨r13, hq12, h⟩ := bn_x h
        refine rc_i hS (run_S hC wX4_tenTo k497 hP hS (As := [.int (irm p2 r7)]) (rest := [.int (-(C.1 41 (Int32.toNatClampNeg p1)))]) (mX4_tenTo l G Rm hq12) rfl hl.1 (Nat.le_of_ble_eq_true rfl) ⟨by decide, by decide⟩ ⟨Nat.le_refl _, Nat.le_refl _⟩ rfl dX0_slipDrawn_73) (fun H locs pb14 hP hS => ?_)
        refine lv_imul hx hb dX0_slipDrawn_76 ?_
        exact re_i' hC hr hP hS (Option.some.inj h) rfl dX0_slipDrawn_77
      · replace h := it_f c9 h
        refine lv_iconst (v := 0) hx hb dX0_slipDrawn_59 (by decide) ?_
        refine lv_goto (tgt := 77) hx hb dX0_slipDrawn_60 (by decide) ?_
        exact re_i' hC hr hP hS (Option.some.inj h) rfl dX0_slipDrawn_77
  · replace h := it_t c2 h
    refine lv_iload_n hx hb dX0_slipDrawn_9 rfl (lv_at hl 2 rfl) ?_
    refine lv_iconst (v := 2) hx hb dX0_slipDrawn_10 (by decide) ?_
    refine r_irem hx hb dX0_slipDrawn_11 (by decide) ?_
    refine lv_iconst (v := 1) hx hb dX0_slipDrawn_12 (by decide) ?_
    refine lv_icmp_ne (tgt := 25) hx hb dX0_slipDrawn_13 (by decide) (fun c15 => ?_) (fun c15 => ?_)
    · replace h := it_f c15 h
      refine lv_aload_n hx hb dX0_slipDrawn_25 rfl (lv_at hl 0 rfl) ?_
      refine r_get (v := .ref (gA G 41)) hC inX0 hP (e_36 G _) rfl 4 (by decide) rfl k100 rfl dX0_slipDrawn_26 ?_
      refine lv_iload_n hx hb dX0_slipDrawn_29 rfl (lv_at hl 1 rfl) ?_
      by_cases c16 : p1 < (0 : Int32) ∨ 80 ≤ Int32.toNatClampNeg p1
      · cases it_t c16 h
      replace h := it_f c16 h
      refine r_iald hC hP (f := C.1 41) (e_41 G _) c16 dX0_slipDrawn_30 ?_
      refine lv_ineg hx hb dX0_slipDrawn_31 ?_
      exact re_i' hC hr hP hS (Option.some.inj h) rfl dX0_slipDrawn_32
    · replace h := it_t c15 h
      refine lv_aload_n hx hb dX0_slipDrawn_16 rfl (lv_at hl 0 rfl) ?_
      refine r_get (v := .ref (gA G 41)) hC inX0 hP (e_36 G _) rfl 4 (by decide) rfl k100 rfl dX0_slipDrawn_17 ?_
      refine lv_iload_n hx hb dX0_slipDrawn_20 rfl (lv_at hl 1 rfl) ?_
      by_cases c17 : p1 < (0 : Int32) ∨ 80 ≤ Int32.toNatClampNeg p1
      · cases it_t c17 h
      replace h := it_f c17 h
      refine r_iald hC hP (f := C.1 41) (e_41 G _) c17 dX0_slipDrawn_21 ?_
      refine lv_goto (tgt := 32) hx hb dX0_slipDrawn_22 (by decide) ?_
      exact re_i' hC hr hP hS (Option.some.inj h) rfl dX0_slipDrawn_32
set_option maxHeartbeats 4000000 in
set_option maxRecDepth 100000 in
theorem mX0_slipsDrawn (l : Launch) (G : gp) (Rm : Mm) {n : Nat} {p1 : Int32} {p2 : Int32} {C : Mm} {r0 : Int32} (h : fX0_slipsDrawn n p1 p2 C = some r0) : Met l yX0_slipsDrawn (wsy yX0_slipsDrawn cX0_slipsDrawn 7 (some .int)) (rmv 2 45) (va_Pc [.ref (gA G 36), .int p1, .int p2] (Rl G (C, Rm))) (Qi G PT r0 (C, Rm)) 0 0 (lwA G) := by
  refine met_i [.ref (gA G 36), .int p1, .int p2] wX0_slipsDrawn.2.2.2.2.2 (Nat.le_of_ble_eq_true rfl) ?_
  intro p e s m args below meth c ls hC hr hP hl
  have hC : Cx G p s m args meth c cX0_slipsDrawn RX0 7 := hC
  have hx := hC.1
  have hb := hC.2.1
  have hown := hC.2.2.2.1
  have hts := hC.2.2.2.2.1
  have hS : va_S (lwA G) s.heap s.heap [] := va_S.rf
  have hl : lv_has ls 7 [(0, .ref (gA G 36)), (1, .int p1), (2, .int p2)] := hl
  have bl79 : ∀ (k8 : Int32 → Int32 → Int32 → Int32 → Mm → Option Int32) (hk8 : ∀ (y2 : Int32) (y3 : Int32) (y4 : Int32) (y5 : Int32) (C : Mm) (H : Heap) (locs : List Loc) (ls : Array Slot), k8 y2 y3 y4 y5 C = some r0 → lv_has ls 7 [(0, .ref (gA G 36)), (2, .int y2), (3, .int y3), (4, .int y4), (5, .int y5)] → va_P (gD G) vwCl (wld G (C, Rm)) H → va_S (lwA G) s.heap H locs → W p l e (rmv 2 45) s m args below meth c H locs 0 0 (MQ below (Qi G PT r0 (C, Rm)) args s 0 0 (lwA G)) (F0 m 8 ls [])), ∀ (y2 : Int32) (y3 : Int32) (y4 : Int32) (y5 : Int32) (C : Mm) (H : Heap) (locs : List Loc) (ls : Array Slot), fX0_slipsDrawn_b79 n k8 y2 y3 y4 y5 C = some r0 → lv_has ls 7 [(0, .ref (gA G 36)), (2, .int y2), (3, .int y3), (4, .int y4), (5, .int y5)] → va_P (gD G) vwCl (wld G (C, Rm)) H → va_S (lwA G) s.heap H locs → W p l e (rmv 2 45) s m args below meth c H locs 0 0 (MQ below (Qi G PT r0 (C, Rm)) args s 0 0 (lwA G)) (F0 m 79 ls []) := by
    intro k8 hk8 y2 y3 y4 y5 C H locs ls h hl hP hS
    unfold fX0_slipsDrawn_b79 at h
    obtain ⟨x1, ex1⟩ : ∃ y : Int32, y = y5 + 1 := ⟨_, rfl⟩
    replace h := lt_y ex1 h
    refine lv_iinc (v := x1) (lv' := [(5, .int x1), (0, .ref (gA G 36)), (2, .int y2), (3, .int y3), (4, .int y4)]) hx hb dX0_slipsDrawn_79 hl (k := 4) rfl (by rw [ex1]; rfl) (by decide) rfl (fun ls hl => ?_)
    refine lv_goto (tgt := 8) hx hb dX0_slipsDrawn_82 (by decide) ?_
    exact hk8 y2 y3 y4 x1 C _ _ _ h (lv_sub hl [1, 2, 3, 4, 0] rfl) hP hS
  have bl8 : ∀ (fu : Nat), ∀ (y2 : Int32) (y3 : Int32) (y4 : Int32) (y5 : Int32) (C : Mm) (H : Heap) (locs : List Loc) (ls : Array Slot), fX0_slipsDrawn_h8 n fu y2 y3 y4 y5 C = some r0 → lv_has ls 7 [(0, .ref (gA G 36)), (2, .int y2), (3, .int y3), (4, .int y4), (5, .int y5)] → va_P (gD G) vwCl (wld G (C, Rm)) H → va_S (lwA G) s.heap H locs → W p l e (rmv 2 45) s m args below meth c H locs 0 0 (MQ below (Qi G PT r0 (C, Rm)) args s 0 0 (lwA G)) (F0 m 8 ls []) := by
    intro fu
    induction fu with
    | zero =>
      intro y2 y3 y4 y5 C H locs ls h hl hP hS
      rw [fX0_slipsDrawn_h8.eq_1] at h
      cases h
    | succ fu ih =>
      intro y2 y3 y4 y5 C H locs ls h hl hP hS
      rw [fX0_slipsDrawn_h8.eq_2] at h
      refine lv_iload hx hb dX0_slipsDrawn_8 (lv_at hl 4 rfl) ?_
      refine lv_aload_n hx hb dX0_slipsDrawn_10 rfl (lv_at hl 0 rfl) ?_
      refine r_get (v := .int (C.1 36 6)) hC inX0 hP (e_36 G _) rfl 6 (by decide) rfl k102 rfl dX0_slipsDrawn_11 ?_
      refine lv_icmp_ge (tgt := 85) hx hb dX0_slipsDrawn_14 (by decide) (fun c2 => ?_) (fun c2 => ?_)
      · replace h := it_t c2 h
        refine lv_iload hx hb dX0_slipsDrawn_85 (lv_at hl 3 rfl) ?_
        exact re_i' hC hr hP hS (Option.some.inj h) rfl dX0_slipsDrawn_87
      · replace h := it_f c2 h
        refine lv_aload_n hx hb dX0_slipsDrawn_17 rfl (lv_at hl 0 rfl) ?_
        refine r_get (v := .ref (gA G 40)) hC inX0 hP (e_36 G _) rfl 3 (by decide) rfl k99 rfl dX0_slipsDrawn_18 ?_
        refine lv_iload hx hb dX0_slipsDrawn_21 (lv_at hl 4 rfl) ?_
        by_cases c3 : y5 < (0 : Int32) ∨ 80 ≤ Int32.toNatClampNeg y5
        · cases it_t c3 h
        replace h := it_f c3 h
        refine r_iald hC hP (f := C.1 40) (e_40 G _) c3 dX0_slipsDrawn_23 ?_
        refine lv_iload_n hx hb dX0_slipsDrawn_24 rfl (lv_at hl 1 rfl) ?_
        refine lv_isub hx hb dX0_slipsDrawn_25 ?_
        refine lv_topi (fun x4 ex4 => ?_)
        replace h := lt_y ex4 h
        refine lv_istore (lv' := [(6, .int x4), (0, .ref (gA G 36)), (2, .int y2), (3, .int y3), (4, .int y4), (5, .int y5)]) hx hb dX0_slipsDrawn_26 hl (by decide) rfl (fun ls hl => ?_)
        refine lv_iload hx hb dX0_slipsDrawn_28 (lv_at hl 0 rfl) ?_
        refine lv_if_gt (tgt := 36) hx hb dX0_slipsDrawn_30 (by decide) (fun c5 => ?_) (fun c5 => ?_)
        · replace h := it_t c5 h
          refine lv_iload_n hx hb dX0_slipsDrawn_36 rfl (lv_at hl 3 rfl) ?_
          refine lv_ldc hx hb (v := 1103515245) hown (hts _ k625) dX0_slipsDrawn_37 ?_
          refine lv_imul hx hb dX0_slipsDrawn_39 ?_
          refine lv_sipush (v := 12345) hx hb dX0_slipsDrawn_40 (by decide) ?_
          refine lv_iadd hx hb dX0_slipsDrawn_43 ?_
          refine lv_topi (fun x6 ex6 => ?_)
          replace h := lt_y ex6 h
          refine lv_istore_n (lv' := [(3, .int x6), (6, .int x4), (0, .ref (gA G 36)), (2, .int y2), (4, .int y4), (5, .int y5)]) hx hb dX0_slipsDrawn_44 rfl hl (by decide) rfl (fun ls hl => ?_)
          refine lv_iload_n hx hb dX0_slipsDrawn_45 rfl (lv_at hl 0 rfl) ?_
          refine lv_bipush (v := 8) hx hb dX0_slipsDrawn_46 (by decide) ?_
          refine lv_iushr (v := iush x6 8) hx hb dX0_slipsDrawn_48 rfl ?_
          refine lv_bipush (v := 100) hx hb dX0_slipsDrawn_49 (by decide) ?_
          refine r_irem hx hb dX0_slipsDrawn_51 (by decide) ?_
          refine lv_iconst (v := 5) hx hb dX0_slipsDrawn_52 (by decide) ?_
          refine lv_iload hx hb dX0_slipsDrawn_53 (lv_at hl 1 rfl) ?_
          refine lv_imul hx hb dX0_slipsDrawn_55 ?_
          refine lv_bipush (v := 95) hx hb dX0_slipsDrawn_56 (by decide) ?_
          refine r_min hC (rest := [.int (irm (iush x6 8) 100)]) k481 k482 k13 k483 hl.1 (by decide) (Nat.le_of_ble_eq_true rfl) (Nat.le_refl _) (Nat.le_refl _) dX0_slipsDrawn_58 ?_
          refine lv_icmp_ge (tgt := 79) hx hb dX0_slipsDrawn_61 (by decide) (fun c7 => ?_) (fun c7 => ?_)
          · replace h := it_t c7 h
            exact bl79 (fX0_slipsDrawn_h8 n fu) ih y2 x6 y4 y5 C _ _ _ h (lv_sub hl [2, 3, 0, 4, 5] rfl) hP hS
          · replace h := it_f c7 h
            refine lv_iload hx hb dX0_slipsDrawn_64 (lv_at hl 4 rfl) ?_
            refine lv_aload_n hx hb dX0_slipsDrawn_66 rfl (lv_at hl 2 rfl) ?_
            refine lv_iload hx hb dX0_slipsDrawn_67 (lv_at hl 5 rfl) ?_
            refine lv_iload_n hx hb dX0_slipsDrawn_69 rfl (lv_at hl 0 rfl) ?_
            refine lv_bipush (v := 20) hx hb dX0_slipsDrawn_70 (by decide) ?_
            refine lv_iushr (v := iush x6 20) hx hb dX0_slipsDrawn_72 rfl ?_
            obtain ⟨r9, hq8, h⟩ := bn_x h
            refine rc_i hS (run_V hC wX0_slipDrawn k626 (e_36 G _) rfl hP hS (As := [.int y5, .int (iush x6 20)]) (rest := [.int y4]) (mX0_slipDrawn l G Rm hq8) rfl hl.1 (Nat.le_of_ble_eq_true rfl) ⟨by decide, by decide⟩ ⟨Nat.le_refl _, Nat.le_refl _⟩ rfl dX0_slipsDrawn_73) (fun H locs pb10 hP hS => ?_)
            refine lv_iadd hx hb dX0_slipsDrawn_76 ?_
            refine lv_topi (fun x11 ex11 => ?_)
            replace h := lt_y ex11 h
            refine lv_istore (lv' := [(4, .int x11), (3, .int x6), (6, .int x4), (0, .ref (gA G 36)), (2, .int y2), (5, .int y5)]) hx hb dX0_slipsDrawn_77 hl (by decide) rfl (fun ls hl => ?_)
            exact bl79 (fX0_slipsDrawn_h8 n fu) ih y2 x6 x11 y5 C _ _ _ h (lv_sub hl [3, 4, 1, 0, 5] rfl) hP hS
        · replace h := it_f c5 h
          refine lv_goto (tgt := 79) hx hb dX0_slipsDrawn_33 (by decide) ?_
          exact bl79 (fX0_slipsDrawn_h8 n fu) ih y2 y3 y4 y5 C _ _ _ h (lv_sub hl [1, 2, 3, 4, 5] rfl) hP hS
  unfold fX0_slipsDrawn at h
  refine lv_iload_n hx hb dX0_slipsDrawn_0 rfl (lv_at hl 1 rfl) ?_
  refine lv_istore_n (lv' := [(3, .int p1), (0, .ref (gA G 36)), (1, .int p1), (2, .int p2)]) hx hb dX0_slipsDrawn_1 rfl hl (by decide) rfl (fun ls hl => ?_)
  refine lv_iconst (v := 0) hx hb dX0_slipsDrawn_2 (by decide) ?_
  refine lv_istore (lv' := [(4, .int 0), (3, .int p1), (0, .ref (gA G 36)), (1, .int p1), (2, .int p2)]) hx hb dX0_slipsDrawn_3 hl (by decide) rfl (fun ls hl => ?_)
  refine lv_iconst (v := 0) hx hb dX0_slipsDrawn_5 (by decide) ?_
  refine lv_istore (lv' := [(5, .int 0), (4, .int 0), (3, .int p1), (0, .ref (gA G 36)), (1, .int p1), (2, .int p2)]) hx hb dX0_slipsDrawn_6 hl (by decide) rfl (fun ls hl => ?_)
  exact bl8 n p2 p1 0 0 C _ _ _ h (lv_sub hl [3, 5, 2, 1, 0] rfl) hP hS
set_option maxHeartbeats 4000000 in
set_option maxRecDepth 100000 in
theorem mX0_canSlip (l : Launch) (G : gp) (Rm : Mm) {n : Nat} {p1 : Int32} {p2 : Int32} {C : Mm} {r0 : Int32} (h : fX0_canSlip n p1 p2 C = some r0) : Met l yX0_canSlip (wsy yX0_canSlip cX0_canSlip 4 (some .boolean)) (rmv 1 22) (va_Pc [.ref (gA G 36), .int p1, .int p2] (Rl G (C, Rm))) (Qi G PZ r0 (C, Rm)) 0 0 (lwA G) := by
  refine met_i [.ref (gA G 36), .int p1, .int p2] wX0_canSlip.2.2.2.2.2 (Nat.le_of_ble_eq_true rfl) ?_
  intro p e s m args below meth c ls hC hr hP hl
  have hC : Cx G p s m args meth c cX0_canSlip RX0 4 := hC
  have hx := hC.1
  have hb := hC.2.1
  have hown := hC.2.2.2.1
  have hts := hC.2.2.2.2.1
  have hS : va_S (lwA G) s.heap s.heap [] := va_S.rf
  have hl : lv_has ls 4 [(0, .ref (gA G 36)), (1, .int p1), (2, .int p2)] := hl
  have bl59 : ∀ (fu : Nat), ∀ (y1 : Int32) (y2 : Int32) (y3 : Int32) (C : Mm) (H : Heap) (locs : List Loc) (ls : Array Slot), fX0_canSlip_h59 n fu y1 y2 y3 C = some r0 → lv_has ls 4 [(0, .ref (gA G 36)), (1, .int y1), (2, .int y2), (3, .int y3)] → va_P (gD G) vwCl (wld G (C, Rm)) H → va_S (lwA G) s.heap H locs → W p l e (rmv 1 22) s m args below meth c H locs 0 0 (MQ below (Qi G PZ r0 (C, Rm)) args s 0 0 (lwA G)) (F0 m 59 ls []) := by
    intro fu
    induction fu with
    | zero =>
      intro y1 y2 y3 C H locs ls h hl hP hS
      rw [fX0_canSlip_h59.eq_1] at h
      cases h
    | succ fu ih =>
      intro y1 y2 y3 C H locs ls h hl hP hS
      rw [fX0_canSlip_h59.eq_2] at h
      refine lv_iload_n hx hb dX0_canSlip_59 rfl (lv_at hl 3 rfl) ?_
      refine lv_if_lt (tgt := 87) hx hb dX0_canSlip_60 (by decide) (fun c1 => ?_) (fun c1 => ?_)
      · replace h := it_t c1 h
        refine lv_iconst (v := 0) hx hb dX0_canSlip_87 (by decide) ?_
        exact re_z' hC hr hP hS PZ0 (Option.some.inj h) rfl dX0_canSlip_88
      · replace h := it_f c1 h
        refine lv_iload_n hx hb dX0_canSlip_63 rfl (lv_at hl 2 rfl) ?_
        refine lv_aload_n hx hb dX0_canSlip_64 rfl (lv_at hl 0 rfl) ?_
        refine r_get (v := .ref (gA G 41)) hC inX0 hP (e_36 G _) rfl 4 (by decide) rfl k100 rfl dX0_canSlip_65 ?_
        refine lv_iload_n hx hb dX0_canSlip_68 rfl (lv_at hl 1 rfl) ?_
        by_cases c2 : y1 < (0 : Int32) ∨ 80 ≤ Int32.toNatClampNeg y1
        · cases it_t c2 h
        replace h := it_f c2 h
        refine r_iald hC hP (f := C.1 41) (e_41 G _) c2 dX0_canSlip_69 ?_
        refine lv_ineg hx hb dX0_canSlip_70 ?_
        refine lv_iload_n hx hb dX0_canSlip_71 rfl (lv_at hl 3 rfl) ?_
        obtain ⟨r4, hq3, h⟩ := bn_x h
        refine rc_i hS (run_S hC wX4_tenTo k497 hP hS (As := [.int y3]) (rest := [.int (-(C.1 41 (Int32.toNatClampNeg y1))), .int y2]) (mX4_tenTo l G Rm hq3) rfl hl.1 (Nat.le_of_ble_eq_true rfl) ⟨by decide, by decide⟩ ⟨Nat.le_refl _, Nat.le_refl _⟩ rfl dX0_canSlip_72) (fun H locs pb5 hP hS => ?_)
        refine lv_imul hx hb dX0_canSlip_75 ?_
        refine lv_icmp_ne (tgt := 81) hx hb dX0_canSlip_76 (by decide) (fun c6 => ?_) (fun c6 => ?_)
        · replace h := it_f c6 h
          obtain ⟨x7, ex7⟩ : ∃ y : Int32, y = y3 + (-1) := ⟨_, rfl⟩
          replace h := lt_y ex7 h
          refine lv_iinc (v := x7) (lv' := [(3, .int x7), (0, .ref (gA G 36)), (1, .int y1), (2, .int y2)]) hx hb dX0_canSlip_81 hl (k := 3) rfl (by rw [ex7]; rfl) (by decide) rfl (fun ls hl => ?_)
          refine lv_goto (tgt := 59) hx hb dX0_canSlip_84 (by decide) ?_
          exact ih y1 y2 x7 C _ _ _ h (lv_sub hl [1, 2, 3, 0] rfl) hP hS
        · replace h := it_t c6 h
          refine lv_iconst (v := 1) hx hb dX0_canSlip_79 (by decide) ?_
          exact re_z' hC hr hP hS PZ1 (Option.some.inj h) rfl dX0_canSlip_80
  unfold fX0_canSlip at h
  refine lv_aload_n hx hb dX0_canSlip_0 rfl (lv_at hl 0 rfl) ?_
  refine r_get (v := .ref (gA G 37)) hC inX0 hP (e_36 G _) rfl 0 (by decide) rfl k96 rfl dX0_canSlip_1 ?_
  refine lv_iload_n hx hb dX0_canSlip_4 rfl (lv_at hl 1 rfl) ?_
  by_cases c8 : p1 < (0 : Int32) ∨ 80 ≤ Int32.toNatClampNeg p1
  · cases it_t c8 h
  replace h := it_f c8 h
  refine r_iald hC hP (f := C.1 37) (e_37 G _) c8 dX0_canSlip_5 ?_
  refine lv_if_ne (tgt := 36) hx hb dX0_canSlip_6 (by decide) (fun c9 => ?_) (fun c9 => ?_)
  · replace h := it_f c9 h
    refine lv_aload_n hx hb dX0_canSlip_36 rfl (lv_at hl 0 rfl) ?_
    refine r_get (v := .ref (gA G 37)) hC inX0 hP (e_36 G _) rfl 0 (by decide) rfl k96 rfl dX0_canSlip_37 ?_
    refine lv_iload_n hx hb dX0_canSlip_40 rfl (lv_at hl 1 rfl) ?_
    by_cases c10 : p1 < (0 : Int32) ∨ 80 ≤ Int32.toNatClampNeg p1
    · cases it_t c10 h
    replace h := it_f c10 h
    refine r_iald hC hP (f := C.1 37) (e_37 G _) c10 dX0_canSlip_41 ?_
    refine lv_iconst (v := 1) hx hb dX0_canSlip_42 (by decide) ?_
    refine lv_icmp_ne (tgt := 87) hx hb dX0_canSlip_43 (by decide) (fun c11 => ?_) (fun c11 => ?_)
    · replace h := it_f c11 h
      refine lv_iconst (v := 0) hx hb dX0_canSlip_87 (by decide) ?_
      exact re_z' hC hr hP hS PZ0 (Option.some.inj h) rfl dX0_canSlip_88
    · replace h := it_t c11 h
      refine lv_aload_n hx hb dX0_canSlip_46 rfl (lv_at hl 0 rfl) ?_
      refine r_get (v := .ref (gA G 38)) hC inX0 hP (e_36 G _) rfl 1 (by decide) rfl k97 rfl dX0_canSlip_47 ?_
      refine lv_iload_n hx hb dX0_canSlip_50 rfl (lv_at hl 1 rfl) ?_
      by_cases c12 : p1 < (0 : Int32) ∨ 80 ≤ Int32.toNatClampNeg p1
      · cases it_t c12 h
      replace h := it_f c12 h
      refine r_iald hC hP (f := C.1 38) (e_38 G _) c12 dX0_canSlip_51 ?_
      refine lv_i2l hx hb dX0_canSlip_52 rfl ?_
      obtain ⟨r14, hq13, h⟩ := bn_x h
      refine rc_i hS (run_S hC wX4_sizeOf k492 hP hS (As := [.long (Int32.toInt64 (C.1 38 (Int32.toNatClampNeg p1)))]) (rest := []) (mX4_sizeOf l G Rm hq13) rfl hl.1 (Nat.le_of_ble_eq_true rfl) ⟨by decide, by decide⟩ ⟨Nat.le_refl _, Nat.le_refl _⟩ rfl dX0_canSlip_53) (fun H locs pb15 hP hS => ?_)
      refine lv_iconst (v := 1) hx hb dX0_canSlip_56 (by decide) ?_
      refine lv_isub hx hb dX0_canSlip_57 ?_
      refine lv_topi (fun x16 ex16 => ?_)
      replace h := lt_y ex16 h
      refine lv_istore_n (lv' := [(3, .int x16), (0, .ref (gA G 36)), (1, .int p1), (2, .int p2)]) hx hb dX0_canSlip_58 rfl hl (by decide) rfl (fun ls hl => ?_)
      exact bl59 n p1 p2 x16 C _ _ _ h (lv_sub hl [1, 2, 3, 0] rfl) hP hS
  · replace h := it_t c9 h
    refine lv_iload_n hx hb dX0_canSlip_9 rfl (lv_at hl 2 rfl) ?_
    refine lv_aload_n hx hb dX0_canSlip_10 rfl (lv_at hl 0 rfl) ?_
    refine r_get (v := .ref (gA G 41)) hC inX0 hP (e_36 G _) rfl 4 (by decide) rfl k100 rfl dX0_canSlip_11 ?_
    refine lv_iload_n hx hb dX0_canSlip_14 rfl (lv_at hl 1 rfl) ?_
    by_cases c17 : p1 < (0 : Int32) ∨ 80 ≤ Int32.toNatClampNeg p1
    · cases it_t c17 h
    replace h := it_f c17 h
    refine r_iald hC hP (f := C.1 41) (e_41 G _) c17 dX0_canSlip_15 ?_
    refine lv_icmp_eq (tgt := 30) hx hb dX0_canSlip_16 (by decide) (fun c18 => ?_) (fun c18 => ?_)
    · replace h := it_t c18 h
      refine lv_iconst (v := 1) hx hb dX0_canSlip_30 (by decide) ?_
      refine lv_goto (tgt := 35) hx hb dX0_canSlip_31 (by decide) ?_
      exact re_z' hC hr hP hS PZ1 (Option.some.inj h) rfl dX0_canSlip_35
    · replace h := it_f c18 h
      refine lv_iload_n hx hb dX0_canSlip_19 rfl (lv_at hl 2 rfl) ?_
      refine lv_aload_n hx hb dX0_canSlip_20 rfl (lv_at hl 0 rfl) ?_
      refine r_get (v := .ref (gA G 41)) hC inX0 hP (e_36 G _) rfl 4 (by decide) rfl k100 rfl dX0_canSlip_21 ?_
      refine lv_iload_n hx hb dX0_canSlip_24 rfl (lv_at hl 1 rfl) ?_
      by_cases c19 : p1 < (0 : Int32) ∨ 80 ≤ Int32.toNatClampNeg p1
      · cases it_t c19 h
      replace h := it_f c19 h
      refine r_iald hC hP (f := C.1 41) (e_41 G _) c19 dX0_canSlip_25 ?_
      refine lv_ineg hx hb dX0_canSlip_26 ?_
      refine lv_icmp_ne (tgt := 34) hx hb dX0_canSlip_27 (by decide) (fun c20 => ?_) (fun c20 => ?_)
      · replace h := it_f c20 h
        refine lv_iconst (v := 0) hx hb dX0_canSlip_34 (by decide) ?_
        exact re_z' hC hr hP hS PZ0 (Option.some.inj h) rfl dX0_canSlip_35
      · replace h := it_t c20 h
        refine lv_iconst (v := 1) hx hb dX0_canSlip_30 (by decide) ?_
        refine lv_goto (tgt := 35) hx hb dX0_canSlip_31 (by decide) ?_
        exact re_z' hC hr hP hS PZ1 (Option.some.inj h) rfl dX0_canSlip_35
set_option maxHeartbeats 4000000 in
set_option maxRecDepth 100000 in
theorem mX0_firstThatCan (l : Launch) (G : gp) (Rm : Mm) {n : Nat} {p1 : Int32} {C : Mm} {r0 : Int32} (h : fX0_firstThatCan n p1 C = some r0) : Met l yX0_firstThatCan (wsy yX0_firstThatCan cX0_firstThatCan 3 (some .int)) (rmv 2 45) (va_Pc [.ref (gA G 36), .int p1] (Rl G (C, Rm))) (Qi G PT r0 (C, Rm)) 0 0 (lwA G) := by
  refine met_i [.ref (gA G 36), .int p1] wX0_firstThatCan.2.2.2.2.2 (Nat.le_of_ble_eq_true rfl) ?_
  intro p e s m args below meth c ls hC hr hP hl
  have hC : Cx G p s m args meth c cX0_firstThatCan RX0 3 := hC
  have hx := hC.1
  have hb := hC.2.1
  have hown := hC.2.2.2.1
  have hts := hC.2.2.2.2.1
  have hS : va_S (lwA G) s.heap s.heap [] := va_S.rf
  have hl : lv_has ls 3 [(0, .ref (gA G 36)), (1, .int p1)] := hl
  have bl2 : ∀ (fu : Nat), ∀ (y1 : Int32) (y2 : Int32) (C : Mm) (H : Heap) (locs : List Loc) (ls : Array Slot), fX0_firstThatCan_h2 n fu y1 y2 C = some r0 → lv_has ls 3 [(0, .ref (gA G 36)), (1, .int y1), (2, .int y2)] → va_P (gD G) vwCl (wld G (C, Rm)) H → va_S (lwA G) s.heap H locs → W p l e (rmv 2 45) s m args below meth c H locs 0 0 (MQ below (Qi G PT r0 (C, Rm)) args s 0 0 (lwA G)) (F0 m 2 ls []) := by
    intro fu
    induction fu with
    | zero =>
      intro y1 y2 C H locs ls h hl hP hS
      rw [fX0_firstThatCan_h2.eq_1] at h
      cases h
    | succ fu ih =>
      intro y1 y2 C H locs ls h hl hP hS
      rw [fX0_firstThatCan_h2.eq_2] at h
      refine lv_iload_n hx hb dX0_firstThatCan_2 rfl (lv_at hl 2 rfl) ?_
      refine lv_aload_n hx hb dX0_firstThatCan_3 rfl (lv_at hl 0 rfl) ?_
      refine r_get (v := .int (C.1 36 6)) hC inX0 hP (e_36 G _) rfl 6 (by decide) rfl k102 rfl dX0_firstThatCan_4 ?_
      refine lv_icmp_ge (tgt := 27) hx hb dX0_firstThatCan_7 (by decide) (fun c1 => ?_) (fun c1 => ?_)
      · replace h := it_t c1 h
        refine lv_bipush (v := (-2)) hx hb dX0_firstThatCan_27 (by decide) ?_
        exact re_i' hC hr hP hS (Option.some.inj h) rfl dX0_firstThatCan_29
      · replace h := it_f c1 h
        refine lv_aload_n hx hb dX0_firstThatCan_10 rfl (lv_at hl 0 rfl) ?_
        refine lv_iload_n hx hb dX0_firstThatCan_11 rfl (lv_at hl 2 rfl) ?_
        refine lv_iload_n hx hb dX0_firstThatCan_12 rfl (lv_at hl 1 rfl) ?_
        obtain ⟨r3, hq2, h⟩ := bn_x h
        refine rc_i hS (run_V hC wX0_canSlip k725 (e_36 G _) rfl hP hS (As := [.int y2, .int y1]) (rest := []) (mX0_canSlip l G Rm hq2) rfl hl.1 (Nat.le_of_ble_eq_true rfl) ⟨by decide, by decide⟩ ⟨Nat.le_refl _, Nat.le_refl _⟩ rfl dX0_firstThatCan_13) (fun H locs pb4 hP hS => ?_)
        refine lv_if_eq (tgt := 21) hx hb dX0_firstThatCan_16 (by decide) (fun c5 => ?_) (fun c5 => ?_)
        · replace h := it_t c5 h
          obtain ⟨x6, ex6⟩ : ∃ y : Int32, y = y2 + 1 := ⟨_, rfl⟩
          replace h := lt_y ex6 h
          refine lv_iinc (v := x6) (lv' := [(2, .int x6), (0, .ref (gA G 36)), (1, .int y1)]) hx hb dX0_firstThatCan_21 hl (k := 2) rfl (by rw [ex6]; rfl) (by decide) rfl (fun ls hl => ?_)
          refine lv_goto (tgt := 2) hx hb dX0_firstThatCan_24 (by decide) ?_
          exact ih y1 x6 C _ _ _ h (lv_sub hl [1, 2, 0] rfl) hP hS
        · replace h := it_f c5 h
          refine lv_iload_n hx hb dX0_firstThatCan_19 rfl (lv_at hl 2 rfl) ?_
          exact re_i' hC hr hP hS (Option.some.inj h) rfl dX0_firstThatCan_20
  unfold fX0_firstThatCan at h
  refine lv_iconst (v := 0) hx hb dX0_firstThatCan_0 (by decide) ?_
  refine lv_istore_n (lv' := [(2, .int 0), (0, .ref (gA G 36)), (1, .int p1)]) hx hb dX0_firstThatCan_1 rfl hl (by decide) rfl (fun ls hl => ?_)
  exact bl2 n p1 0 C _ _ _ h (lv_sub hl [1, 2, 0] rfl) hP hS
set_option maxHeartbeats 4000000 in
set_option maxRecDepth 100000 in
theorem mX0_howManyCan (l : Launch) (G : gp) (Rm : Mm) {n : Nat} {p1 : Int32} {C : Mm} {r0 : Int32} (h : fX0_howManyCan n p1 C = some r0) : Met l yX0_howManyCan (wsy yX0_howManyCan cX0_howManyCan 4 (some .int)) (rmv 2 45) (va_Pc [.ref (gA G 36), .int p1] (Rl G (C, Rm))) (Qi G PT r0 (C, Rm)) 0 0 (lwA G) := by
  refine met_i [.ref (gA G 36), .int p1] wX0_howManyCan.2.2.2.2.2 (Nat.le_of_ble_eq_true rfl) ?_
  intro p e s m args below meth c ls hC hr hP hl
  have hC : Cx G p s m args meth c cX0_howManyCan RX0 4 := hC
  have hx := hC.1
  have hb := hC.2.1
  have hown := hC.2.2.2.1
  have hts := hC.2.2.2.2.1
  have hS : va_S (lwA G) s.heap s.heap [] := va_S.rf
  have hl : lv_has ls 4 [(0, .ref (gA G 36)), (1, .int p1)] := hl
  have bl24 : ∀ (k4 : Int32 → Int32 → Int32 → Mm → Option Int32) (hk4 : ∀ (y1 : Int32) (y2 : Int32) (y3 : Int32) (C : Mm) (H : Heap) (locs : List Loc) (ls : Array Slot), k4 y1 y2 y3 C = some r0 → lv_has ls 4 [(0, .ref (gA G 36)), (1, .int y1), (2, .int y2), (3, .int y3)] → va_P (gD G) vwCl (wld G (C, Rm)) H → va_S (lwA G) s.heap H locs → W p l e (rmv 2 45) s m args below meth c H locs 0 0 (MQ below (Qi G PT r0 (C, Rm)) args s 0 0 (lwA G)) (F0 m 4 ls [])), ∀ (y1 : Int32) (y2 : Int32) (y3 : Int32) (C : Mm) (H : Heap) (locs : List Loc) (ls : Array Slot), fX0_howManyCan_b24 n k4 y1 y2 y3 C = some r0 → lv_has ls 4 [(0, .ref (gA G 36)), (1, .int y1), (2, .int y2), (3, .int y3)] → va_P (gD G) vwCl (wld G (C, Rm)) H → va_S (lwA G) s.heap H locs → W p l e (rmv 2 45) s m args below meth c H locs 0 0 (MQ below (Qi G PT r0 (C, Rm)) args s 0 0 (lwA G)) (F0 m 24 ls []) := by
    intro k4 hk4 y1 y2 y3 C H locs ls h hl hP hS
    unfold fX0_howManyCan_b24 at h
    obtain ⟨x1, ex1⟩ : ∃ y : Int32, y = y3 + 1 := ⟨_, rfl⟩
    replace h := lt_y ex1 h
    refine lv_iinc (v := x1) (lv' := [(3, .int x1), (0, .ref (gA G 36)), (1, .int y1), (2, .int y2)]) hx hb dX0_howManyCan_24 hl (k := 3) rfl (by rw [ex1]; rfl) (by decide) rfl (fun ls hl => ?_)
    refine lv_goto (tgt := 4) hx hb dX0_howManyCan_27 (by decide) ?_
    exact hk4 y1 y2 x1 C _ _ _ h (lv_sub hl [1, 2, 3, 0] rfl) hP hS
  have bl4 : ∀ (fu : Nat), ∀ (y1 : Int32) (y2 : Int32) (y3 : Int32) (C : Mm) (H : Heap) (locs : List Loc) (ls : Array Slot), fX0_howManyCan_h4 n fu y1 y2 y3 C = some r0 → lv_has ls 4 [(0, .ref (gA G 36)), (1, .int y1), (2, .int y2), (3, .int y3)] → va_P (gD G) vwCl (wld G (C, Rm)) H → va_S (lwA G) s.heap H locs → W p l e (rmv 2 45) s m args below meth c H locs 0 0 (MQ below (Qi G PT r0 (C, Rm)) args s 0 0 (lwA G)) (F0 m 4 ls []) := by
    intro fu
    induction fu with
    | zero =>
      intro y1 y2 y3 C H locs ls h hl hP hS
      rw [fX0_howManyCan_h4.eq_1] at h
      cases h
    | succ fu ih =>
      intro y1 y2 y3 C H locs ls h hl hP hS
      rw [fX0_howManyCan_h4.eq_2] at h
      refine lv_iload_n hx hb dX0_howManyCan_4 rfl (lv_at hl 3 rfl) ?_
      refine lv_aload_n hx hb dX0_howManyCan_5 rfl (lv_at hl 0 rfl) ?_
      refine r_get (v := .int (C.1 36 6)) hC inX0 hP (e_36 G _) rfl 6 (by decide) rfl k102 rfl dX0_howManyCan_6 ?_
      refine lv_icmp_ge (tgt := 30) hx hb dX0_howManyCan_9 (by decide) (fun c2 => ?_) (fun c2 => ?_)
      · replace h := it_t c2 h
        refine lv_iload_n hx hb dX0_howManyCan_30 rfl (lv_at hl 2 rfl) ?_
        exact re_i' hC hr hP hS (Option.some.inj h) rfl dX0_howManyCan_31
      · replace h := it_f c2 h
        refine lv_aload_n hx hb dX0_howManyCan_12 rfl (lv_at hl 0 rfl) ?_
        refine lv_iload_n hx hb dX0_howManyCan_13 rfl (lv_at hl 3 rfl) ?_
        refine lv_iload_n hx hb dX0_howManyCan_14 rfl (lv_at hl 1 rfl) ?_
        obtain ⟨r4, hq3, h⟩ := bn_x h
        refine rc_i hS (run_V hC wX0_canSlip k725 (e_36 G _) rfl hP hS (As := [.int y3, .int y1]) (rest := []) (mX0_canSlip l G Rm hq3) rfl hl.1 (Nat.le_of_ble_eq_true rfl) ⟨by decide, by decide⟩ ⟨Nat.le_refl _, Nat.le_refl _⟩ rfl dX0_howManyCan_15) (fun H locs pb5 hP hS => ?_)
        refine lv_if_eq (tgt := 24) hx hb dX0_howManyCan_18 (by decide) (fun c6 => ?_) (fun c6 => ?_)
        · replace h := it_t c6 h
          exact bl24 (fX0_howManyCan_h4 n fu) ih y1 y2 y3 C _ _ _ h (lv_sub hl [0, 1, 2, 3] rfl) hP hS
        · replace h := it_f c6 h
          obtain ⟨x7, ex7⟩ : ∃ y : Int32, y = y2 + 1 := ⟨_, rfl⟩
          replace h := lt_y ex7 h
          refine lv_iinc (v := x7) (lv' := [(2, .int x7), (0, .ref (gA G 36)), (1, .int y1), (3, .int y3)]) hx hb dX0_howManyCan_21 hl (k := 2) rfl (by rw [ex7]; rfl) (by decide) rfl (fun ls hl => ?_)
          exact bl24 (fX0_howManyCan_h4 n fu) ih y1 x7 y3 C _ _ _ h (lv_sub hl [1, 2, 0, 3] rfl) hP hS
  unfold fX0_howManyCan at h
  refine lv_iconst (v := 0) hx hb dX0_howManyCan_0 (by decide) ?_
  refine lv_istore_n (lv' := [(2, .int 0), (0, .ref (gA G 36)), (1, .int p1)]) hx hb dX0_howManyCan_1 rfl hl (by decide) rfl (fun ls hl => ?_)
  refine lv_iconst (v := 0) hx hb dX0_howManyCan_2 (by decide) ?_
  refine lv_istore_n (lv' := [(3, .int 0), (2, .int 0), (0, .ref (gA G 36)), (1, .int p1)]) hx hb dX0_howManyCan_3 rfl hl (by decide) rfl (fun ls hl => ?_)
  exact bl4 n p1 0 0 C _ _ _ h (lv_sub hl [2, 3, 1, 0] rfl) hP hS
set_option maxHeartbeats 4000000 in
set_option maxRecDepth 100000 in
theorem mX1_isKind (l : Launch) (G : gp) (Rm : Mm) {p0 : Int32} {C : Mm} {r0 : Int32} (h : fX1_isKind p0 = r0) : Met l yX1_isKind (wsy yX1_isKind cX1_isKind 1 (some .boolean)) (rmv 0 0) (va_Pc [.int p0] (Rl G (C, Rm))) (Qi G PZ r0 (C, Rm)) 0 0 (lwA G) := by
  refine met_i [.int p0] wX1_isKind.2.2.2.2 (Nat.le_of_ble_eq_true rfl) ?_
  intro p e s m args below meth c ls hC hr hP hl
  have hC : Cx G p s m args meth c cX1_isKind RX1 1 := hC
  have hx := hC.1
  have hb := hC.2.1
  have hown := hC.2.2.2.1
  have hts := hC.2.2.2.2.1
  have hS : va_S (lwA G) s.heap s.heap [] := va_S.rf
  have hl : lv_has ls 1 [(0, .int p0)] := hl
  unfold fX1_isKind at h
  refine lv_iload_n hx hb dX1_isKind_0 rfl (lv_at hl 0 rfl) ?_
  refine lv_if_lt (tgt := 14) hx hb dX1_isKind_1 (by decide) (fun c1 => ?_) (fun c1 => ?_)
  · replace h := it_t c1 h
    refine lv_iconst (v := 0) hx hb dX1_isKind_14 (by decide) ?_
    exact re_z' hC hr hP hS PZ0 h rfl dX1_isKind_15
  · replace h := it_f c1 h
    refine lv_iload_n hx hb dX1_isKind_4 rfl (lv_at hl 0 rfl) ?_
    refine lv_bipush (v := 8) hx hb dX1_isKind_5 (by decide) ?_
    refine lv_icmp_ge (tgt := 14) hx hb dX1_isKind_7 (by decide) (fun c2 => ?_) (fun c2 => ?_)
    · replace h := it_t c2 h
      refine lv_iconst (v := 0) hx hb dX1_isKind_14 (by decide) ?_
      exact re_z' hC hr hP hS PZ0 h rfl dX1_isKind_15
    · replace h := it_f c2 h
      refine lv_iconst (v := 1) hx hb dX1_isKind_10 (by decide) ?_
      refine lv_goto (tgt := 15) hx hb dX1_isKind_11 (by decide) ?_
      exact re_z' hC hr hP hS PZ1 h rfl dX1_isKind_15
set_option maxHeartbeats 4000000 in
set_option maxRecDepth 100000 in
theorem mX1_isUnder (l : Launch) (G : gp) (Rm : Mm) {n : Nat} {p0 : Int32} {p1 : Int32} {C : Mm} {r0 : Int32} (h : fX1_isUnder n p0 p1 = some r0) : Met l yX1_isUnder (wsy yX1_isUnder cX1_isUnder 4 (some .boolean)) (rmv 1 20) (va_Pc [.int p0, .int p1] (Rl G (C, Rm))) (Qi G PZ r0 (C, Rm)) 0 0 (lwA G) := by
  refine met_i [.int p0, .int p1] wX1_isUnder.2.2.2.2 (Nat.le_of_ble_eq_true rfl) ?_
  intro p e s m args below meth c ls hC hr hP hl
  have hC : Cx G p s m args meth c cX1_isUnder RX1 4 := hC
  have hx := hC.1
  have hb := hC.2.1
  have hown := hC.2.2.2.1
  have hts := hC.2.2.2.2.1
  have hS : va_S (lwA G) s.heap s.heap [] := va_S.rf
  have hl : lv_has ls 4 [(0, .int p0), (1, .int p1)] := hl
  have bl4 : ∀ (fu : Nat), ∀ (y1 : Int32) (y2 : Int32) (y3 : Int32) (C : Mm) (H : Heap) (locs : List Loc) (ls : Array Slot), fX1_isUnder_h4 n fu y1 y2 y3 = some r0 → lv_has ls 4 [(1, .int y1), (2, .int y2), (3, .int y3)] → va_P (gD G) vwCl (wld G (C, Rm)) H → va_S (lwA G) s.heap H locs → W p l e (rmv 1 20) s m args below meth c H locs 0 0 (MQ below (Qi G PZ r0 (C, Rm)) args s 0 0 (lwA G)) (F0 m 4 ls []) := by
    intro fu
    induction fu with
    | zero =>
      intro y1 y2 y3 C H locs ls h hl hP hS
      rw [fX1_isUnder_h4.eq_1] at h
      cases h
    | succ fu ih =>
      intro y1 y2 y3 C H locs ls h hl hP hS
      rw [fX1_isUnder_h4.eq_2] at h
      refine lv_iload_n hx hb dX1_isUnder_4 rfl (lv_at hl 2 rfl) ?_
      refine lv_bipush (v := 8) hx hb dX1_isUnder_5 (by decide) ?_
      refine lv_icmp_ge (tgt := 36) hx hb dX1_isUnder_7 (by decide) (fun c1 => ?_) (fun c1 => ?_)
      · replace h := it_t c1 h
        refine lv_iconst (v := 0) hx hb dX1_isUnder_36 (by decide) ?_
        exact re_z' hC hr hP hS PZ0 (Option.some.inj h) rfl dX1_isUnder_37
      · replace h := it_f c1 h
        refine lv_iload_n hx hb dX1_isUnder_10 rfl (lv_at hl 1 rfl) ?_
        refine rc_i hS (run_S hC wX1_isKind k942 hP hS (As := [.int y2]) (rest := []) (mX1_isKind l G Rm rfl) rfl hl.1 (Nat.le_of_ble_eq_true rfl) ⟨by decide, by decide⟩ ⟨Nat.le_refl _, Nat.le_refl _⟩ rfl dX1_isUnder_11) (fun H locs pb3 hP hS => ?_)
        refine lv_if_eq (tgt := 36) hx hb dX1_isUnder_14 (by decide) (fun c4 => ?_) (fun c4 => ?_)
        · replace h := it_t c4 h
          refine lv_iconst (v := 0) hx hb dX1_isUnder_36 (by decide) ?_
          exact re_z' hC hr hP hS PZ0 (Option.some.inj h) rfl dX1_isUnder_37
        · replace h := it_f c4 h
          refine lv_iload_n hx hb dX1_isUnder_17 rfl (lv_at hl 1 rfl) ?_
          refine lv_iload_n hx hb dX1_isUnder_18 rfl (lv_at hl 0 rfl) ?_
          refine lv_icmp_ne (tgt := 24) hx hb dX1_isUnder_19 (by decide) (fun c5 => ?_) (fun c5 => ?_)
          · replace h := it_f c5 h
            refine r_gets hC hS (hC.2.2.2.2.2.2.2.2.1.2.2.2.2.2.1.1) k957 dX1_isUnder_24 ?_
            refine lv_iload_n hx hb dX1_isUnder_27 rfl (lv_at hl 1 rfl) ?_
            by_cases c6 : y2 < (0 : Int32) ∨ 8 ≤ Int32.toNatClampNeg y2
            · cases it_t c6 h
            replace h := it_f c6 h
            refine r_ti hC hS (hC.2.2.2.2.2.2.2.2.1.2.2.2.2.2.1.2) c6 dX1_isUnder_28 ?_
            refine lv_topi (fun x7 ex7 => ?_)
            replace h := lt_y ex7 h
            refine lv_istore_n (lv' := [(2, .int x7), (1, .int y1), (3, .int y3)]) hx hb dX1_isUnder_29 rfl hl (by decide) rfl (fun ls hl => ?_)
            obtain ⟨x8, ex8⟩ : ∃ y : Int32, y = y3 + 1 := ⟨_, rfl⟩
            replace h := lt_y ex8 h
            refine lv_iinc (v := x8) (lv' := [(3, .int x8), (2, .int x7), (1, .int y1)]) hx hb dX1_isUnder_30 hl (k := 2) rfl (by rw [ex8]; rfl) (by decide) rfl (fun ls hl => ?_)
            refine lv_goto (tgt := 4) hx hb dX1_isUnder_33 (by decide) ?_
            exact ih y1 x7 x8 _ _ _ _ h (lv_sub hl [2, 1, 0] rfl) hP hS
          · replace h := it_t c5 h
            refine lv_iconst (v := 1) hx hb dX1_isUnder_22 (by decide) ?_
            exact re_z' hC hr hP hS PZ1 (Option.some.inj h) rfl dX1_isUnder_23
  unfold fX1_isUnder at h
  refine lv_iload_n hx hb dX1_isUnder_0 rfl (lv_at hl 0 rfl) ?_
  refine lv_istore_n (lv' := [(2, .int p0), (0, .int p0), (1, .int p1)]) hx hb dX1_isUnder_1 rfl hl (by decide) rfl (fun ls hl => ?_)
  refine lv_iconst (v := 0) hx hb dX1_isUnder_2 (by decide) ?_
  refine lv_istore_n (lv' := [(3, .int 0), (2, .int p0), (0, .int p0), (1, .int p1)]) hx hb dX1_isUnder_3 rfl hl (by decide) rfl (fun ls hl => ?_)
  exact bl4 n p1 p0 0 _ _ _ _ h (lv_sub hl [3, 1, 0] rfl) hP hS
set_option maxHeartbeats 4000000 in
set_option maxRecDepth 100000 in
theorem mX1_size (l : Launch) (G : gp) (Rm : Mm) {C : Mm} {r0 : Int32} (h : fX1_size C = r0) : Met l yX1_size (wsy yX1_size cX1_size 1 (some .int)) (rmv 0 0) (va_Pc [.ref (gA G 56)] (Rl G (C, Rm))) (Qi G PT r0 (C, Rm)) 0 0 (lwA G) := by
  refine met_i [.ref (gA G 56)] wX1_size.2.2.2.2.2 (Nat.le_of_ble_eq_true rfl) ?_
  intro p e s m args below meth c ls hC hr hP hl
  have hC : Cx G p s m args meth c cX1_size RX1 1 := hC
  have hx := hC.1
  have hb := hC.2.1
  have hown := hC.2.2.2.1
  have hts := hC.2.2.2.2.1
  have hS : va_S (lwA G) s.heap s.heap [] := va_S.rf
  have hl : lv_has ls 1 [(0, .ref (gA G 56))] := hl
  unfold fX1_size at h
  refine lv_aload_n hx hb dX1_size_0 rfl (lv_at hl 0 rfl) ?_
  refine r_get (v := .int (C.1 56 1)) hC inX1 hP (e_56 G _) rfl 1 (by decide) rfl k196 rfl dX1_size_1 ?_
  exact re_i' hC hr hP hS h rfl dX1_size_4
set_option maxHeartbeats 4000000 in
set_option maxRecDepth 100000 in
theorem mX1_ranCount (l : Launch) (G : gp) (Rm : Mm) {C : Mm} {r0 : Int32} (h : fX1_ranCount C = r0) : Met l yX1_ranCount (wsy yX1_ranCount cX1_ranCount 1 (some .int)) (rmv 0 0) (va_Pc [.ref (gA G 56)] (Rl G (C, Rm))) (Qi G PT r0 (C, Rm)) 0 0 (lwA G) := by
  refine met_i [.ref (gA G 56)] wX1_ranCount.2.2.2.2.2 (Nat.le_of_ble_eq_true rfl) ?_
  intro p e s m args below meth c ls hC hr hP hl
  have hC : Cx G p s m args meth c cX1_ranCount RX1 1 := hC
  have hx := hC.1
  have hb := hC.2.1
  have hown := hC.2.2.2.1
  have hts := hC.2.2.2.2.1
  have hS : va_S (lwA G) s.heap s.heap [] := va_S.rf
  have hl : lv_has ls 1 [(0, .ref (gA G 56))] := hl
  unfold fX1_ranCount at h
  refine lv_aload_n hx hb dX1_ranCount_0 rfl (lv_at hl 0 rfl) ?_
  refine r_get (v := .int (C.1 56 3)) hC inX1 hP (e_56 G _) rfl 3 (by decide) rfl k198 rfl dX1_ranCount_1 ?_
  exact re_i' hC hr hP hS h rfl dX1_ranCount_4
set_option maxHeartbeats 4000000 in
set_option maxRecDepth 100000 in
theorem mX1_has (l : Launch) (G : gp) (Rm : Mm) {p1 : Int32} {C : Mm} {r0 : Int32} (h : fX1_has p1 C = r0) : Met l yX1_has (wsy yX1_has cX1_has 2 (some .boolean)) (rmv 0 0) (va_Pc [.ref (gA G 56), .int p1] (Rl G (C, Rm))) (Qi G PZ r0 (C, Rm)) 0 0 (lwA G) := by
  refine met_i [.ref (gA G 56), .int p1] wX1_has.2.2.2.2.2 (Nat.le_of_ble_eq_true rfl) ?_
  intro p e s m args below meth c ls hC hr hP hl
  have hC : Cx G p s m args meth c cX1_has RX1 2 := hC
  have hx := hC.1
  have hb := hC.2.1
  have hown := hC.2.2.2.1
  have hts := hC.2.2.2.2.1
  have hS : va_S (lwA G) s.heap s.heap [] := va_S.rf
  have hl : lv_has ls 2 [(0, .ref (gA G 56)), (1, .int p1)] := hl
  unfold fX1_has at h
  refine lv_iload_n hx hb dX1_has_0 rfl (lv_at hl 1 rfl) ?_
  refine lv_if_lt (tgt := 16) hx hb dX1_has_1 (by decide) (fun c1 => ?_) (fun c1 => ?_)
  · replace h := it_t c1 h
    refine lv_iconst (v := 0) hx hb dX1_has_16 (by decide) ?_
    exact re_z' hC hr hP hS PZ0 h rfl dX1_has_17
  · replace h := it_f c1 h
    refine lv_iload_n hx hb dX1_has_4 rfl (lv_at hl 1 rfl) ?_
    refine lv_aload_n hx hb dX1_has_5 rfl (lv_at hl 0 rfl) ?_
    refine r_get (v := .int (C.1 56 1)) hC inX1 hP (e_56 G _) rfl 1 (by decide) rfl k196 rfl dX1_has_6 ?_
    refine lv_icmp_ge (tgt := 16) hx hb dX1_has_9 (by decide) (fun c2 => ?_) (fun c2 => ?_)
    · replace h := it_t c2 h
      refine lv_iconst (v := 0) hx hb dX1_has_16 (by decide) ?_
      exact re_z' hC hr hP hS PZ0 h rfl dX1_has_17
    · replace h := it_f c2 h
      refine lv_iconst (v := 1) hx hb dX1_has_12 (by decide) ?_
      refine lv_goto (tgt := 17) hx hb dX1_has_13 (by decide) ?_
      exact re_z' hC hr hP hS PZ1 h rfl dX1_has_17
set_option maxHeartbeats 4000000 in
set_option maxRecDepth 100000 in
theorem mX1_kindOf (l : Launch) (G : gp) (Rm : Mm) {p1 : Int32} {C : Mm} {r0 : Int32} (h : fX1_kindOf p1 C = some r0) : Met l yX1_kindOf (wsy yX1_kindOf cX1_kindOf 2 (some .int)) (rmv 1 21) (va_Pc [.ref (gA G 56), .int p1] (Rl G (C, Rm))) (Qi G PT r0 (C, Rm)) 0 0 (lwA G) := by
  refine met_i [.ref (gA G 56), .int p1] wX1_kindOf.2.2.2.2.2 (Nat.le_of_ble_eq_true rfl) ?_
  intro p e s m args below meth c ls hC hr hP hl
  have hC : Cx G p s m args meth c cX1_kindOf RX1 2 := hC
  have hx := hC.1
  have hb := hC.2.1
  have hown := hC.2.2.2.1
  have hts := hC.2.2.2.2.1
  have hS : va_S (lwA G) s.heap s.heap [] := va_S.rf
  have hl : lv_has ls 2 [(0, .ref (gA G 56)), (1, .int p1)] := hl
  unfold fX1_kindOf at h
  refine lv_aload_n hx hb dX1_kindOf_0 rfl (lv_at hl 0 rfl) ?_
  refine lv_iload_n hx hb dX1_kindOf_1 rfl (lv_at hl 1 rfl) ?_
  refine rc_i hS (run_V hC wX1_has k926 (e_56 G _) rfl hP hS (As := [.int p1]) (rest := []) (mX1_has l G Rm rfl) rfl hl.1 (Nat.le_of_ble_eq_true rfl) ⟨by decide, by decide⟩ ⟨Nat.le_refl _, Nat.le_refl _⟩ rfl dX1_kindOf_2) (fun H locs pb2 hP hS => ?_)
  refine lv_if_eq (tgt := 17) hx hb dX1_kindOf_5 (by decide) (fun c3 => ?_) (fun c3 => ?_)
  · replace h := it_t c3 h
    refine lv_iconst (v := (-1)) hx hb dX1_kindOf_17 (by decide) ?_
    exact re_i' hC hr hP hS (Option.some.inj h) rfl dX1_kindOf_18
  · replace h := it_f c3 h
    refine lv_aload_n hx hb dX1_kindOf_8 rfl (lv_at hl 0 rfl) ?_
    refine r_get (v := .ref (gA G 57)) hC inX1 hP (e_56 G _) rfl 0 (by decide) rfl k195 rfl dX1_kindOf_9 ?_
    refine lv_iload_n hx hb dX1_kindOf_12 rfl (lv_at hl 1 rfl) ?_
    by_cases c4 : p1 < (0 : Int32) ∨ 50 ≤ Int32.toNatClampNeg p1
    · cases it_t c4 h
    replace h := it_f c4 h
    refine r_iald hC hP (f := C.1 57) (e_57 G _) c4 dX1_kindOf_13 ?_
    refine lv_goto (tgt := 18) hx hb dX1_kindOf_14 (by decide) ?_
    exact re_i' hC hr hP hS (Option.some.inj h) rfl dX1_kindOf_18
set_option maxHeartbeats 4000000 in
set_option maxRecDepth 100000 in
theorem mX1_takes (l : Launch) (G : gp) (Rm : Mm) {p1 : Int32} {C : Mm} {r0 : Int32} {C0 : Mm} (h : fX1_takes p1 C = some (r0, C0)) : Met l yX1_takes (wsy yX1_takes cX1_takes 2 (some .boolean)) (rmv 0 0) (va_Pc [.ref (gA G 56), .int p1] (Rl G (C, Rm))) (Qi G PZ r0 (C0, Rm)) 0 0 (lwA G) := by
  refine met_i [.ref (gA G 56), .int p1] wX1_takes.2.2.2.2.2 (Nat.le_of_ble_eq_true rfl) ?_
  intro p e s m args below meth c ls hC hr hP hl
  have hC : Cx G p s m args meth c cX1_takes RX1 2 := hC
  have hx := hC.1
  have hb := hC.2.1
  have hown := hC.2.2.2.1
  have hts := hC.2.2.2.2.1
  have hS : va_S (lwA G) s.heap s.heap [] := va_S.rf
  have hl : lv_has ls 2 [(0, .ref (gA G 56)), (1, .int p1)] := hl
  unfold fX1_takes at h
  refine lv_aload_n hx hb dX1_takes_0 rfl (lv_at hl 0 rfl) ?_
  refine r_get (v := .int (C.1 56 1)) hC inX1 hP (e_56 G _) rfl 1 (by decide) rfl k196 rfl dX1_takes_1 ?_
  refine lv_bipush (v := 50) hx hb dX1_takes_4 (by decide) ?_
  refine lv_icmp_lt (tgt := 11) hx hb dX1_takes_6 (by decide) (fun c1 => ?_) (fun c1 => ?_)
  · replace h := it_t c1 h
    refine lv_aload_n hx hb dX1_takes_11 rfl (lv_at hl 0 rfl) ?_
    refine r_get (v := .ref (gA G 57)) hC inX1 hP (e_56 G _) rfl 0 (by decide) rfl k195 rfl dX1_takes_12 ?_
    refine lv_aload_n hx hb dX1_takes_15 rfl (lv_at hl 0 rfl) ?_
    refine r_get (v := .int (C.1 56 1)) hC inX1 hP (e_56 G _) rfl 1 (by decide) rfl k196 rfl dX1_takes_16 ?_
    refine lv_iload_n hx hb dX1_takes_19 rfl (lv_at hl 1 rfl) ?_
    by_cases c2 : (C.1 56 1) < (0 : Int32) ∨ 50 ≤ Int32.toNatClampNeg (C.1 56 1)
    · cases it_t c2 h
    replace h := it_f c2 h
    obtain ⟨C3, eC3⟩ : ∃ Z : Mm, Z = wrI C 57 (Int32.toNatClampNeg (C.1 56 1)) p1 := ⟨_, rfl⟩
    replace h := lt_y eC3 h
    refine r_iast (X' := (C3, Rm)) hC hP hS (e_57 G _) c2 (a_57 G _ _ _ _ eC3) dX1_takes_20 (fun H locs hP hS => ?_)
    refine lv_aload_n hx hb dX1_takes_21 rfl (lv_at hl 0 rfl) ?_
    refine lv_dup hx hb dX1_takes_22 rfl ?_
    refine r_get (v := .int (C3.1 56 1)) hC inX1 hP (e_56 G _) rfl 1 (by decide) rfl k196 rfl dX1_takes_23 ?_
    refine lv_iconst (v := 1) hx hb dX1_takes_26 (by decide) ?_
    refine lv_iadd hx hb dX1_takes_27 ?_
    obtain ⟨C4, eC4⟩ : ∃ Z : Mm, Z = wrI C3 56 1 ((C3.1 56 1) + 1) := ⟨_, rfl⟩
    replace h := lt_y eC4 h
    refine r_put (X' := (C4, Rm)) hC inX1 tyX1 tyX1_ok nmX1 hP hS (e_56 G _) rfl 1 (by decide) rfl k196 rfl (v := .int ((C3.1 56 1) + 1)) rfl rfl (Nat.le_of_ble_eq_true rfl) (p_56_1 G _ _ eC4) dX1_takes_28 (fun H locs hP hS => ?_)
    refine lv_iconst (v := 1) hx hb dX1_takes_31 (by decide) ?_
    exact re_z' hC hr hP hS PZ1 (pr_1 h) (congrArg (fun Z : Mm => (Z, Rm)) (pr_2 h)) dX1_takes_32
  · replace h := it_f c1 h
    refine lv_iconst (v := 0) hx hb dX1_takes_9 (by decide) ?_
    exact re_z' hC hr hP hS PZ0 (pr_1 h) (congrArg (fun Z : Mm => (Z, Rm)) (pr_2 h)) dX1_takes_10
set_option maxHeartbeats 4000000 in
set_option maxRecDepth 100000 in
theorem mX1_traced (l : Launch) (G : gp) (Rm : Mm) {p1 : Int32} {C : Mm} {r0 : Int32} (h : fX1_traced p1 C = some r0) : Met l yX1_traced (wsy yX1_traced cX1_traced 2 (some .int)) (rmv 0 0) (va_Pc [.ref (gA G 56), .int p1] (Rl G (C, Rm))) (Qi G PT r0 (C, Rm)) 0 0 (lwA G) := by
  refine met_i [.ref (gA G 56), .int p1] wX1_traced.2.2.2.2.2 (Nat.le_of_ble_eq_true rfl) ?_
  intro p e s m args below meth c ls hC hr hP hl
  have hC : Cx G p s m args meth c cX1_traced RX1 2 := hC
  have hx := hC.1
  have hb := hC.2.1
  have hown := hC.2.2.2.1
  have hts := hC.2.2.2.2.1
  have hS : va_S (lwA G) s.heap s.heap [] := va_S.rf
  have hl : lv_has ls 2 [(0, .ref (gA G 56)), (1, .int p1)] := hl
  unfold fX1_traced at h
  refine lv_iload_n hx hb dX1_traced_0 rfl (lv_at hl 1 rfl) ?_
  refine lv_if_lt (tgt := 27) hx hb dX1_traced_1 (by decide) (fun c1 => ?_) (fun c1 => ?_)
  · replace h := it_t c1 h
    refine lv_iconst (v := (-1)) hx hb dX1_traced_27 (by decide) ?_
    exact re_i' hC hr hP hS (Option.some.inj h) rfl dX1_traced_28
  · replace h := it_f c1 h
    refine lv_iload_n hx hb dX1_traced_4 rfl (lv_at hl 1 rfl) ?_
    refine lv_aload_n hx hb dX1_traced_5 rfl (lv_at hl 0 rfl) ?_
    refine r_get (v := .int (C.1 56 3)) hC inX1 hP (e_56 G _) rfl 3 (by decide) rfl k198 rfl dX1_traced_6 ?_
    refine lv_icmp_ge (tgt := 27) hx hb dX1_traced_9 (by decide) (fun c2 => ?_) (fun c2 => ?_)
    · replace h := it_t c2 h
      refine lv_iconst (v := (-1)) hx hb dX1_traced_27 (by decide) ?_
      exact re_i' hC hr hP hS (Option.some.inj h) rfl dX1_traced_28
    · replace h := it_f c2 h
      refine lv_iload_n hx hb dX1_traced_12 rfl (lv_at hl 1 rfl) ?_
      refine lv_bipush (v := 24) hx hb dX1_traced_13 (by decide) ?_
      refine lv_icmp_ge (tgt := 27) hx hb dX1_traced_15 (by decide) (fun c3 => ?_) (fun c3 => ?_)
      · replace h := it_t c3 h
        refine lv_iconst (v := (-1)) hx hb dX1_traced_27 (by decide) ?_
        exact re_i' hC hr hP hS (Option.some.inj h) rfl dX1_traced_28
      · replace h := it_f c3 h
        refine lv_aload_n hx hb dX1_traced_18 rfl (lv_at hl 0 rfl) ?_
        refine r_get (v := .ref (gA G 58)) hC inX1 hP (e_56 G _) rfl 2 (by decide) rfl k197 rfl dX1_traced_19 ?_
        refine lv_iload_n hx hb dX1_traced_22 rfl (lv_at hl 1 rfl) ?_
        by_cases c4 : p1 < (0 : Int32) ∨ 24 ≤ Int32.toNatClampNeg p1
        · cases it_t c4 h
        replace h := it_f c4 h
        refine r_iald hC hP (f := C.1 58) (e_58 G _) c4 dX1_traced_23 ?_
        refine lv_goto (tgt := 28) hx hb dX1_traced_24 (by decide) ?_
        exact re_i' hC hr hP hS (Option.some.inj h) rfl dX1_traced_28
set_option maxHeartbeats 4000000 in
set_option maxRecDepth 100000 in
theorem mX1_nearest (l : Launch) (G : gp) (Rm : Mm) {n : Nat} {z : Int32 → Int32 → Int32 → Mm → Option (Int32 × Mm)} {fr lo : Nat} (hz : ∀ (Rm : Mm) {p1 : Int32} {p2 : Int32} {p3 : Int32} {C : Mm} {r0 : Int32} {C0 : Mm} (_ : z p1 p2 p3 C = some (r0, C0)), Met l yX1_run (wsy yX1_run cX1_run 4 (some .int)) (rmv fr lo) (va_Pc [.ref (gA G 56), .int p1, .int p2, .int p3] (Rl G (C, Rm))) (Qi G PT r0 (C0, Rm)) 0 0 (lwA G)) {p1 : Int32} {p2 : Int32} {p3 : Int32} {p4 : Int32} {C : Mm} {r0 : Int32} {C0 : Mm} (h : fX1_nearest n z p1 p2 p3 p4 C = some (r0, C0)) : Met l yX1_nearest (wsy yX1_nearest cX1_nearest 8 (some .int)) (rmv (fr + 1) (lo + 23)) (va_Pc [.ref (gA G 56), .int p1, .int p2, .int p3, .int p4] (Rl G (C, Rm))) (Qi G PT r0 (C0, Rm)) 0 0 (lwA G) := by
  refine met_i [.ref (gA G 56), .int p1, .int p2, .int p3, .int p4] wX1_nearest.2.2.2.2.2 (Nat.le_of_ble_eq_true rfl) ?_
  intro p e s m args below meth c ls hC hr hP hl
  have hC : Cx G p s m args meth c cX1_nearest RX1 8 := hC
  have hx := hC.1
  have hb := hC.2.1
  have hown := hC.2.2.2.1
  have hts := hC.2.2.2.2.1
  have hS : va_S (lwA G) s.heap s.heap [] := va_S.rf
  have hl : lv_has ls 8 [(0, .ref (gA G 56)), (1, .int p1), (2, .int p2), (3, .int p3), (4, .int p4)] := hl
  have bl6 : ∀ (fu : Nat), ∀ (y2 : Int32) (y3 : Int32) (y4 : Int32) (y5 : Int32) (y6 : Int32) (C : Mm) (H : Heap) (locs : List Loc) (ls : Array Slot), fX1_nearest_h6 n z fu y2 y3 y4 y5 y6 C = some (r0, C0) → lv_has ls 8 [(0, .ref (gA G 56)), (2, .int y2), (3, .int y3), (4, .int y4), (5, .int y5), (6, .int y6)] → va_P (gD G) vwCl (wld G (C, Rm)) H → va_S (lwA G) s.heap H locs → W p l e (rmv (fr + 1) (lo + 23)) s m args below meth c H locs 0 0 (MQ below (Qi G PT r0 (C0, Rm)) args s 0 0 (lwA G)) (F0 m 6 ls []) := by
    intro fu
    induction fu with
    | zero =>
      intro y2 y3 y4 y5 y6 C H locs ls h hl hP hS
      rw [fX1_nearest_h6.eq_1] at h
      cases h
    | succ fu ih =>
      intro y2 y3 y4 y5 y6 C H locs ls h hl hP hS
      rw [fX1_nearest_h6.eq_2] at h
      refine lv_iload hx hb dX1_nearest_6 (lv_at hl 5 rfl) ?_
      refine lv_bipush (v := 8) hx hb dX1_nearest_8 (by decide) ?_
      refine lv_icmp_ge (tgt := 75) hx hb dX1_nearest_10 (by decide) (fun c1 => ?_) (fun c1 => ?_)
      · replace h := it_t c1 h
        refine lv_iconst (v := 0) hx hb dX1_nearest_75 (by decide) ?_
        exact re_i' hC hr hP hS (pr_1 h) (congrArg (fun Z : Mm => (Z, Rm)) (pr_2 h)) dX1_nearest_76
      · replace h := it_f c1 h
        refine lv_iload hx hb dX1_nearest_13 (lv_at hl 4 rfl) ?_
        refine rc_i hS (run_S hC wX1_isKind k942 hP hS (As := [.int y5]) (rest := []) (mX1_isKind l G Rm rfl) rfl hl.1 (Nat.le_of_ble_eq_true rfl) (rm_le (by omega) (by omega)) ⟨Nat.le_refl _, Nat.le_refl _⟩ rfl dX1_nearest_15) (fun H locs pb3 hP hS => ?_)
        refine lv_if_eq (tgt := 75) hx hb dX1_nearest_18 (by decide) (fun c4 => ?_) (fun c4 => ?_)
        · replace h := it_t c4 h
          refine lv_iconst (v := 0) hx hb dX1_nearest_75 (by decide) ?_
          exact re_i' hC hr hP hS (pr_1 h) (congrArg (fun Z : Mm => (Z, Rm)) (pr_2 h)) dX1_nearest_76
        · replace h := it_f c4 h
          refine r_gets hC hS (hC.2.2.2.2.2.2.2.2.1.2.2.2.2.2.2.1) k943 dX1_nearest_21 ?_
          refine lv_iload hx hb dX1_nearest_24 (lv_at hl 4 rfl) ?_
          refine lv_iconst (v := 4) hx hb dX1_nearest_26 (by decide) ?_
          refine lv_imul hx hb dX1_nearest_27 ?_
          refine lv_iload_n hx hb dX1_nearest_28 rfl (lv_at hl 1 rfl) ?_
          refine lv_iadd hx hb dX1_nearest_29 ?_
          by_cases c5 : ((y5 * 4) + y2) < (0 : Int32) ∨ 32 ≤ Int32.toNatClampNeg ((y5 * 4) + y2)
          · cases it_t c5 h
          replace h := it_f c5 h
          refine r_ti hC hS (hC.2.2.2.2.2.2.2.2.1.2.2.2.2.2.2.2) c5 dX1_nearest_30 ?_
          refine lv_topi (fun x6 ex6 => ?_)
          replace h := lt_y ex6 h
          refine lv_istore (lv' := [(7, .int x6), (0, .ref (gA G 56)), (2, .int y2), (3, .int y3), (4, .int y4), (5, .int y5), (6, .int y6)]) hx hb dX1_nearest_31 hl (by decide) rfl (fun ls hl => ?_)
          refine lv_iload hx hb dX1_nearest_33 (lv_at hl 0 rfl) ?_
          refine lv_if_eq (tgt := 61) hx hb dX1_nearest_35 (by decide) (fun c7 => ?_) (fun c7 => ?_)
          · replace h := it_t c7 h
            refine r_gets hC hS (hC.2.2.2.2.2.2.2.2.1.2.2.2.2.2.1.1) k957 dX1_nearest_61 ?_
            refine lv_iload hx hb dX1_nearest_64 (lv_at hl 5 rfl) ?_
            by_cases c8 : y5 < (0 : Int32) ∨ 8 ≤ Int32.toNatClampNeg y5
            · cases it_t c8 h
            replace h := it_f c8 h
            refine r_ti hC hS (hC.2.2.2.2.2.2.2.2.1.2.2.2.2.2.1.2) c8 dX1_nearest_66 ?_
            refine lv_topi (fun x9 ex9 => ?_)
            replace h := lt_y ex9 h
            refine lv_istore (lv' := [(5, .int x9), (7, .int x6), (0, .ref (gA G 56)), (2, .int y2), (3, .int y3), (4, .int y4), (6, .int y6)]) hx hb dX1_nearest_67 hl (by decide) rfl (fun ls hl => ?_)
            obtain ⟨x10, ex10⟩ : ∃ y : Int32, y = y6 + 1 := ⟨_, rfl⟩
            replace h := lt_y ex10 h
            refine lv_iinc (v := x10) (lv' := [(6, .int x10), (5, .int x9), (7, .int x6), (0, .ref (gA G 56)), (2, .int y2), (3, .int y3), (4, .int y4)]) hx hb dX1_nearest_69 hl (k := 6) rfl (by rw [ex10]; rfl) (by decide) rfl (fun ls hl => ?_)
            refine lv_goto (tgt := 6) hx hb dX1_nearest_72 (by decide) ?_
            exact ih y2 y3 y4 x9 x10 C _ _ _ h (lv_sub hl [3, 4, 5, 6, 1, 0] rfl) hP hS
          · replace h := it_f c7 h
            refine lv_iload hx hb dX1_nearest_38 (lv_at hl 4 rfl) ?_
            refine lv_bipush (v := 40) hx hb dX1_nearest_40 (by decide) ?_
            refine lv_icmp_ge (tgt := 59) hx hb dX1_nearest_42 (by decide) (fun c11 => ?_) (fun c11 => ?_)
            · replace h := it_t c11 h
              refine lv_iconst (v := 0) hx hb dX1_nearest_59 (by decide) ?_
              exact re_i' hC hr hP hS (pr_1 h) (congrArg (fun Z : Mm => (Z, Rm)) (pr_2 h)) dX1_nearest_60
            · replace h := it_f c11 h
              refine lv_aload_n hx hb dX1_nearest_45 rfl (lv_at hl 1 rfl) ?_
              refine lv_iload hx hb dX1_nearest_46 (lv_at hl 0 rfl) ?_
              refine lv_iload_n hx hb dX1_nearest_48 rfl (lv_at hl 3 rfl) ?_
              refine lv_iload hx hb dX1_nearest_49 (lv_at hl 4 rfl) ?_
              refine lv_iconst (v := 1) hx hb dX1_nearest_51 (by decide) ?_
              refine lv_iadd hx hb dX1_nearest_52 ?_
              obtain ⟨r13, C14, hq12, h⟩ := bp_x h
              refine rc_i hS (run_V hC wX1_run k945 (e_56 G _) rfl hP hS (As := [.int x6, .int y3, .int (y4 + 1)]) (rest := []) (hz Rm hq12) rfl hl.1 (Nat.le_of_ble_eq_true rfl) (rm_le (by omega) (by omega)) ⟨Nat.le_refl _, Nat.le_refl _⟩ rfl dX1_nearest_53) (fun H locs pb15 hP hS => ?_)
              refine lv_goto (tgt := 60) hx hb dX1_nearest_56 (by decide) ?_
              exact re_i' hC hr hP hS (pr_1 h) (congrArg (fun Z : Mm => (Z, Rm)) (pr_2 h)) dX1_nearest_60
  unfold fX1_nearest at h
  refine lv_iload_n hx hb dX1_nearest_0 rfl (lv_at hl 1 rfl) ?_
  refine lv_istore (lv' := [(5, .int p1), (0, .ref (gA G 56)), (1, .int p1), (2, .int p2), (3, .int p3), (4, .int p4)]) hx hb dX1_nearest_1 hl (by decide) rfl (fun ls hl => ?_)
  refine lv_iconst (v := 0) hx hb dX1_nearest_3 (by decide) ?_
  refine lv_istore (lv' := [(6, .int 0), (5, .int p1), (0, .ref (gA G 56)), (1, .int p1), (2, .int p2), (3, .int p3), (4, .int p4)]) hx hb dX1_nearest_4 hl (by decide) rfl (fun ls hl => ?_)
  exact bl6 n p2 p3 p4 p1 0 C _ _ _ h (lv_sub hl [2, 4, 5, 6, 1, 0] rfl) hP hS
set_option maxHeartbeats 4000000 in
set_option maxRecDepth 100000 in
theorem mX1_own (l : Launch) (G : gp) (Rm : Mm) {n : Nat} {z : Int32 → Int32 → Int32 → Mm → Option (Int32 × Mm)} {fr lo : Nat} (hz : ∀ (Rm : Mm) {p1 : Int32} {p2 : Int32} {p3 : Int32} {C : Mm} {r0 : Int32} {C0 : Mm} (_ : z p1 p2 p3 C = some (r0, C0)), Met l yX1_run (wsy yX1_run cX1_run 4 (some .int)) (rmv fr lo) (va_Pc [.ref (gA G 56), .int p1, .int p2, .int p3] (Rl G (C, Rm))) (Qi G PT r0 (C0, Rm)) 0 0 (lwA G)) {p1 : Int32} {p2 : Int32} {p3 : Int32} {C : Mm} {r0 : Int32} {C0 : Mm} (h : fX1_own n z p1 p2 p3 C = some (r0, C0)) : Met l yX1_own (wsy yX1_own cX1_own 4 (some .int)) (rmv (fr + 2) (lo + 50)) (va_Pc [.ref (gA G 56), .int p1, .int p2, .int p3] (Rl G (C, Rm))) (Qi G PT r0 (C0, Rm)) 0 0 (lwA G) := by
  refine met_i [.ref (gA G 56), .int p1, .int p2, .int p3] wX1_own.2.2.2.2.2 (Nat.le_of_ble_eq_true rfl) ?_
  intro p e s m args below meth c ls hC hr hP hl
  have hC : Cx G p s m args meth c cX1_own RX1 4 := hC
  have hx := hC.1
  have hb := hC.2.1
  have hown := hC.2.2.2.1
  have hts := hC.2.2.2.2.1
  have hS : va_S (lwA G) s.heap s.heap [] := va_S.rf
  have hl : lv_has ls 4 [(0, .ref (gA G 56)), (1, .int p1), (2, .int p2), (3, .int p3)] := hl
  unfold fX1_own at h
  refine lv_aload_n hx hb dX1_own_0 rfl (lv_at hl 0 rfl) ?_
  refine lv_aload_n hx hb dX1_own_1 rfl (lv_at hl 0 rfl) ?_
  refine lv_aload_n hx hb dX1_own_2 rfl (lv_at hl 0 rfl) ?_
  refine r_get (v := .int (C.1 56 4)) hC inX1 hP (e_56 G _) rfl 4 (by decide) rfl k199 rfl dX1_own_3 ?_
  obtain ⟨r2, hq1, h⟩ := bn_x h
  refine rc_i hS (run_V hC wX1_kindOf k934 (e_56 G _) rfl hP hS (As := [.int (C.1 56 4)]) (rest := [.ref (gA G 56)]) (mX1_kindOf l G Rm hq1) rfl hl.1 (Nat.le_of_ble_eq_true rfl) (rm_le (by omega) (by omega)) ⟨Nat.le_refl _, Nat.le_refl _⟩ rfl dX1_own_6) (fun H locs pb3 hP hS => ?_)
  refine lv_iload_n hx hb dX1_own_9 rfl (lv_at hl 1 rfl) ?_
  refine lv_iload_n hx hb dX1_own_10 rfl (lv_at hl 2 rfl) ?_
  refine lv_iload_n hx hb dX1_own_11 rfl (lv_at hl 3 rfl) ?_
  obtain ⟨r5, C6, hq4, h⟩ := bp_x h
  refine rc_i hS (run_V hC wX1_nearest k938 (e_56 G _) rfl hP hS (As := [.int r2, .int p1, .int p2, .int p3]) (rest := []) (mX1_nearest l G Rm hz hq4) rfl hl.1 (Nat.le_of_ble_eq_true rfl) (rm_le (by omega) (by omega)) ⟨Nat.le_refl _, Nat.le_refl _⟩ rfl dX1_own_12) (fun H locs pb7 hP hS => ?_)
  exact re_i' hC hr hP hS (pr_1 h) (congrArg (fun Z : Mm => (Z, Rm)) (pr_2 h)) dX1_own_15
set_option maxHeartbeats 4000000 in
set_option maxRecDepth 100000 in
theorem mX1_noteRun (l : Launch) (G : gp) (Rm : Mm) {p1 : Int32} {C : Mm} {C0 : Mm} (h : fX1_noteRun p1 C = some C0) : Met l yX1_noteRun (wsy yX1_noteRun cX1_noteRun 2 none) (rmv 0 0) (va_Pc [.ref (gA G 56), .int p1] (Rl G (C, Rm))) (Qv G (C0, Rm)) 0 0 (lwA G) := by
  refine met_i [.ref (gA G 56), .int p1] wX1_noteRun.2.2.2.2.2 (Nat.le_of_ble_eq_true rfl) ?_
  intro p e s m args below meth c ls hC hr hP hl
  have hC : Cx G p s m args meth c cX1_noteRun RX1 2 := hC
  have hx := hC.1
  have hb := hC.2.1
  have hown := hC.2.2.2.1
  have hts := hC.2.2.2.2.1
  have hS : va_S (lwA G) s.heap s.heap [] := va_S.rf
  have hl : lv_has ls 2 [(0, .ref (gA G 56)), (1, .int p1)] := hl
  have bl19 : ∀  (C : Mm) (H : Heap) (locs : List Loc) (ls : Array Slot), fX1_noteRun_b19 C = some C0 → lv_has ls 2 [(0, .ref (gA G 56))] → va_P (gD G) vwCl (wld G (C, Rm)) H → va_S (lwA G) s.heap H locs → W p l e (rmv 0 0) s m args below meth c H locs 0 0 (MQ below (Qv G (C0, Rm)) args s 0 0 (lwA G)) (F0 m 19 ls []) := by
    intro C H locs ls h hl hP hS
    unfold fX1_noteRun_b19 at h
    refine lv_aload_n hx hb dX1_noteRun_19 rfl (lv_at hl 0 rfl) ?_
    refine lv_dup hx hb dX1_noteRun_20 rfl ?_
    refine r_get (v := .int (C.1 56 3)) hC inX1 hP (e_56 G _) rfl 3 (by decide) rfl k198 rfl dX1_noteRun_21 ?_
    refine lv_iconst (v := 1) hx hb dX1_noteRun_24 (by decide) ?_
    refine lv_iadd hx hb dX1_noteRun_25 ?_
    obtain ⟨C1, eC1⟩ : ∃ Z : Mm, Z = wrI C 56 3 ((C.1 56 3) + 1) := ⟨_, rfl⟩
    replace h := lt_y eC1 h
    refine r_put (X' := (C1, Rm)) hC inX1 tyX1 tyX1_ok nmX1 hP hS (e_56 G _) rfl 3 (by decide) rfl k198 rfl (v := .int ((C.1 56 3) + 1)) rfl rfl (Nat.le_of_ble_eq_true rfl) (p_56_3 G _ _ eC1) dX1_noteRun_26 (fun H locs hP hS => ?_)
    exact re_v' hC hr hP hS (congrArg (fun Z : Mm => (Z, Rm)) (Option.some.inj h)) dX1_noteRun_29
  unfold fX1_noteRun at h
  refine lv_aload_n hx hb dX1_noteRun_0 rfl (lv_at hl 0 rfl) ?_
  refine r_get (v := .int (C.1 56 3)) hC inX1 hP (e_56 G _) rfl 3 (by decide) rfl k198 rfl dX1_noteRun_1 ?_
  refine lv_bipush (v := 24) hx hb dX1_noteRun_4 (by decide) ?_
  refine lv_icmp_ge (tgt := 19) hx hb dX1_noteRun_6 (by decide) (fun c2 => ?_) (fun c2 => ?_)
  · replace h := it_t c2 h
    exact bl19 C _ _ _ h (lv_sub hl [0] rfl) hP hS
  · replace h := it_f c2 h
    refine lv_aload_n hx hb dX1_noteRun_9 rfl (lv_at hl 0 rfl) ?_
    refine r_get (v := .ref (gA G 58)) hC inX1 hP (e_56 G _) rfl 2 (by decide) rfl k197 rfl dX1_noteRun_10 ?_
    refine lv_aload_n hx hb dX1_noteRun_13 rfl (lv_at hl 0 rfl) ?_
    refine r_get (v := .int (C.1 56 3)) hC inX1 hP (e_56 G _) rfl 3 (by decide) rfl k198 rfl dX1_noteRun_14 ?_
    refine lv_iload_n hx hb dX1_noteRun_17 rfl (lv_at hl 1 rfl) ?_
    by_cases c3 : (C.1 56 3) < (0 : Int32) ∨ 24 ≤ Int32.toNatClampNeg (C.1 56 3)
    · cases it_t c3 h
    replace h := it_f c3 h
    obtain ⟨C4, eC4⟩ : ∃ Z : Mm, Z = wrI C 58 (Int32.toNatClampNeg (C.1 56 3)) p1 := ⟨_, rfl⟩
    replace h := lt_y eC4 h
    refine r_iast (X' := (C4, Rm)) hC hP hS (e_58 G _) c3 (a_58 G _ _ _ _ eC4) dX1_noteRun_18 (fun H locs hP hS => ?_)
    exact bl19 C4 _ _ _ h (lv_sub hl [0] rfl) hP hS
set_option maxHeartbeats 4000000 in
set_option maxRecDepth 100000 in
theorem mX1_fromAbove (l : Launch) (G : gp) (Rm : Mm) {n : Nat} {z : Int32 → Int32 → Int32 → Mm → Option (Int32 × Mm)} {fr lo : Nat} (hz : ∀ (Rm : Mm) {p1 : Int32} {p2 : Int32} {p3 : Int32} {C : Mm} {r0 : Int32} {C0 : Mm} (_ : z p1 p2 p3 C = some (r0, C0)), Met l yX1_run (wsy yX1_run cX1_run 4 (some .int)) (rmv fr lo) (va_Pc [.ref (gA G 56), .int p1, .int p2, .int p3] (Rl G (C, Rm))) (Qi G PT r0 (C0, Rm)) 0 0 (lwA G)) {p1 : Int32} {p2 : Int32} {p3 : Int32} {p4 : Int32} {C : Mm} {r0 : Int32} {C0 : Mm} (h : fX1_fromAbove n z p1 p2 p3 p4 C = some (r0, C0)) : Met l yX1_fromAbove (wsy yX1_fromAbove cX1_fromAbove 5 (some .int)) (rmv (fr + 2) (lo + 50)) (va_Pc [.ref (gA G 56), .int p1, .int p2, .int p3, .int p4] (Rl G (C, Rm))) (Qi G PT r0 (C0, Rm)) 0 0 (lwA G) := by
  refine met_i [.ref (gA G 56), .int p1, .int p2, .int p3, .int p4] wX1_fromAbove.2.2.2.2.2 (Nat.le_of_ble_eq_true rfl) ?_
  intro p e s m args below meth c ls hC hr hP hl
  have hC : Cx G p s m args meth c cX1_fromAbove RX1 5 := hC
  have hx := hC.1
  have hb := hC.2.1
  have hown := hC.2.2.2.1
  have hts := hC.2.2.2.2.1
  have hS : va_S (lwA G) s.heap s.heap [] := va_S.rf
  have hl : lv_has ls 5 [(0, .ref (gA G 56)), (1, .int p1), (2, .int p2), (3, .int p3), (4, .int p4)] := hl
  have bl17 : ∀ (y2 : Int32) (y3 : Int32) (y4 : Int32) (s0 : Int32) (C : Mm) (H : Heap) (locs : List Loc) (ls : Array Slot), fX1_fromAbove_b17 n z y2 y3 y4 s0 C = some (r0, C0) → lv_has ls 5 [(2, .int y2), (3, .int y3), (4, .int y4)] → va_P (gD G) vwCl (wld G (C, Rm)) H → va_S (lwA G) s.heap H locs → W p l e (rmv (fr + 2) (lo + 50)) s m args below meth c H locs 0 0 (MQ below (Qi G PT r0 (C0, Rm)) args s 0 0 (lwA G)) (F0 m 17 ls [.int s0, .ref (gA G 56)]) := by
    intro y2 y3 y4 s0 C H locs ls h hl hP hS
    unfold fX1_fromAbove_b17 at h
    refine lv_iload_n hx hb dX1_fromAbove_17 rfl (lv_at hl 0 rfl) ?_
    refine lv_iload_n hx hb dX1_fromAbove_18 rfl (lv_at hl 1 rfl) ?_
    refine lv_iload hx hb dX1_fromAbove_19 (lv_at hl 2 rfl) ?_
    obtain ⟨r2, C3, hq1, h⟩ := bp_x h
    refine rc_i hS (run_V hC wX1_nearest k938 (e_56 G _) rfl hP hS (As := [.int s0, .int y2, .int y3, .int y4]) (rest := []) (mX1_nearest l G Rm hz hq1) rfl hl.1 (Nat.le_of_ble_eq_true rfl) (rm_le (by omega) (by omega)) ⟨Nat.le_refl _, Nat.le_refl _⟩ rfl dX1_fromAbove_21) (fun H locs pb4 hP hS => ?_)
    exact re_i' hC hr hP hS (pr_1 h) (congrArg (fun Z : Mm => (Z, Rm)) (pr_2 h)) dX1_fromAbove_24
  unfold fX1_fromAbove at h
  refine lv_aload_n hx hb dX1_fromAbove_0 rfl (lv_at hl 0 rfl) ?_
  refine lv_iload_n hx hb dX1_fromAbove_1 rfl (lv_at hl 1 rfl) ?_
  refine rc_i hS (run_S hC wX1_isKind k942 hP hS (As := [.int p1]) (rest := [.ref (gA G 56)]) (mX1_isKind l G Rm rfl) rfl hl.1 (Nat.le_of_ble_eq_true rfl) (rm_le (by omega) (by omega)) ⟨Nat.le_refl _, Nat.le_refl _⟩ rfl dX1_fromAbove_2) (fun H locs pb6 hP hS => ?_)
  refine lv_if_eq (tgt := 16) hx hb dX1_fromAbove_5 (by decide) (fun c7 => ?_) (fun c7 => ?_)
  · replace h := it_t c7 h
    refine lv_iconst (v := (-1)) hx hb dX1_fromAbove_16 (by decide) ?_
    exact bl17 p2 p3 p4 (-1) C _ _ _ h (lv_sub hl [2, 3, 4] rfl) hP hS
  · replace h := it_f c7 h
    refine r_gets hC hS (hC.2.2.2.2.2.2.2.2.1.2.2.2.2.2.1.1) k957 dX1_fromAbove_8 ?_
    refine lv_iload_n hx hb dX1_fromAbove_11 rfl (lv_at hl 1 rfl) ?_
    by_cases c8 : p1 < (0 : Int32) ∨ 8 ≤ Int32.toNatClampNeg p1
    · cases it_t c8 h
    replace h := it_f c8 h
    refine r_ti hC hS (hC.2.2.2.2.2.2.2.2.1.2.2.2.2.2.1.2) c8 dX1_fromAbove_12 ?_
    refine lv_goto (tgt := 17) hx hb dX1_fromAbove_13 (by decide) ?_
    exact bl17 p2 p3 p4 (stv5 (Int32.toNatClampNeg p1)) C _ _ _ h (lv_sub hl [2, 3, 4] rfl) hP hS
set_option maxHeartbeats 4000000 in
set_option maxRecDepth 100000 in
theorem mX1_run_w (l : Launch) (G : gp) {n : Nat} {z : Int32 → Int32 → Int32 → Mm → Option (Int32 × Mm)} (d : Nat) (hz : ∀ (Rm : Mm) {p1 : Int32} {p2 : Int32} {p3 : Int32} {C : Mm} {r0 : Int32} {C0 : Mm} (_ : z p1 p2 p3 C = some (r0, C0)), Met l yX1_run (wsy yX1_run cX1_run 4 (some .int)) (rmv (3 * d + 1) (74 * d + 21)) (va_Pc [.ref (gA G 56), .int p1, .int p2, .int p3] (Rl G (C, Rm))) (Qi G PT r0 (C0, Rm)) 0 0 (lwA G)) (Rm : Mm) {p1 : Int32} {p2 : Int32} {p3 : Int32} {C : Mm} {r0 : Int32} {C0 : Mm} (h : fX1_run_w n z p1 p2 p3 C = some (r0, C0)) : Met l yX1_run (wsy yX1_run cX1_run 4 (some .int)) (rmv (3 * d + 4) (74 * d + 95)) (va_Pc [.ref (gA G 56), .int p1, .int p2, .int p3] (Rl G (C, Rm))) (Qi G PT r0 (C0, Rm)) 0 0 (lwA G) := by
  refine met_i [.ref (gA G 56), .int p1, .int p2, .int p3] wX1_run.2.2.2.2.2 (Nat.le_of_ble_eq_true rfl) ?_
  intro p e s m args below meth c ls hC hr hP hl
  have hC : Cx G p s m args meth c cX1_run RX1 4 := hC
  have hx := hC.1
  have hb := hC.2.1
  have hown := hC.2.2.2.1
  have hts := hC.2.2.2.2.1
  have hS : va_S (lwA G) s.heap s.heap [] := va_S.rf
  have hl : lv_has ls 4 [(0, .ref (gA G 56)), (1, .int p1), (2, .int p2), (3, .int p3)] := hl
  unfold fX1_run_w at h
  refine lv_aload_n hx hb dX1_run_0 rfl (lv_at hl 0 rfl) ?_
  refine lv_iload_n hx hb dX1_run_1 rfl (lv_at hl 1 rfl) ?_
  obtain ⟨C2, hq1, h⟩ := bn_x h
  refine rc_v hS (run_V hC wX1_noteRun k949 (e_56 G _) rfl hP hS (As := [.int p1]) (rest := []) (mX1_noteRun l G Rm hq1) rfl hl.1 (Nat.le_of_ble_eq_true rfl) (rm_le (by omega) (by omega)) ⟨Nat.le_refl _, Nat.le_refl _⟩ rfl dX1_run_2) (fun H locs hP hS => ?_)
  refine lv_iload_n hx hb dX1_run_5 rfl (lv_at hl 1 rfl) ?_
  by_cases c3 : p1 = 1
  · replace h := it_t c3 h
    refine lv_lookup (off := 114) (tgt := 120) hx hb dX1_run_6 (by decide) (by rw [c3]; rfl) (by decide) ?_
    refine lv_iload_n hx hb dX1_run_120 rfl (lv_at hl 2 rfl) ?_
    refine lv_aload_n hx hb dX1_run_121 rfl (lv_at hl 0 rfl) ?_
    refine r_get (v := .int (C2.1 56 4)) hC inX1 hP (e_56 G _) rfl 4 (by decide) rfl k199 rfl dX1_run_122 ?_
    refine lv_iadd hx hb dX1_run_125 ?_
    exact re_i' hC hr hP hS (pr_1 h) (congrArg (fun Z : Mm => (Z, Rm)) (pr_2 h)) dX1_run_126
  replace h := it_f c3 h
  by_cases c4 : p1 = 2
  · replace h := it_t c4 h
    refine lv_lookup (off := 121) (tgt := 127) hx hb dX1_run_6 (by decide) (by rw [c4]; rfl) (by decide) ?_
    refine lv_aload_n hx hb dX1_run_127 rfl (lv_at hl 0 rfl) ?_
    refine lv_iconst (v := 1) hx hb dX1_run_128 (by decide) ?_
    refine lv_iload_n hx hb dX1_run_129 rfl (lv_at hl 2 rfl) ?_
    refine lv_iload_n hx hb dX1_run_130 rfl (lv_at hl 3 rfl) ?_
    obtain ⟨r6, C7, hq5, h⟩ := bp_x h
    refine rc_i hS (run_V hC wX1_own k930 (e_56 G _) rfl hP hS (As := [.int 1, .int p2, .int p3]) (rest := []) (mX1_own l G Rm hz hq5) rfl hl.1 (Nat.le_of_ble_eq_true rfl) (rm_le (by omega) (by omega)) ⟨Nat.le_refl _, Nat.le_refl _⟩ rfl dX1_run_131) (fun H locs pb8 hP hS => ?_)
    refine lv_aload_n hx hb dX1_run_134 rfl (lv_at hl 0 rfl) ?_
    refine lv_iconst (v := 2) hx hb dX1_run_135 (by decide) ?_
    refine lv_iconst (v := 1) hx hb dX1_run_136 (by decide) ?_
    refine lv_iload_n hx hb dX1_run_137 rfl (lv_at hl 3 rfl) ?_
    obtain ⟨r10, C11, hq9, h⟩ := bp_x h
    refine rc_i hS (run_V hC wX1_own k930 (e_56 G _) rfl hP hS (As := [.int 2, .int 1, .int p3]) (rest := [.int r6]) (mX1_own l G Rm hz hq9) rfl hl.1 (Nat.le_of_ble_eq_true rfl) (rm_le (by omega) (by omega)) ⟨Nat.le_refl _, Nat.le_refl _⟩ rfl dX1_run_138) (fun H locs pb12 hP hS => ?_)
    refine lv_isub hx hb dX1_run_141 ?_
    exact re_i' hC hr hP hS (pr_1 h) (congrArg (fun Z : Mm => (Z, Rm)) (pr_2 h)) dX1_run_142
  replace h := it_f c4 h
  by_cases c13 : p1 = 10
  · replace h := it_t c13 h
    refine lv_lookup (off := 137) (tgt := 143) hx hb dX1_run_6 (by decide) (by rw [c13]; rfl) (by decide) ?_
    refine lv_aload_n hx hb dX1_run_143 rfl (lv_at hl 0 rfl) ?_
    refine lv_iconst (v := 0) hx hb dX1_run_144 (by decide) ?_
    refine lv_iload_n hx hb dX1_run_145 rfl (lv_at hl 2 rfl) ?_
    refine lv_iload_n hx hb dX1_run_146 rfl (lv_at hl 3 rfl) ?_
    obtain ⟨r15, C16, hq14, h⟩ := bp_x h
    refine rc_i hS (run_V hC wX1_own k930 (e_56 G _) rfl hP hS (As := [.int 0, .int p2, .int p3]) (rest := []) (mX1_own l G Rm hz hq14) rfl hl.1 (Nat.le_of_ble_eq_true rfl) (rm_le (by omega) (by omega)) ⟨Nat.le_refl _, Nat.le_refl _⟩ rfl dX1_run_147) (fun H locs pb17 hP hS => ?_)
    refine lv_iconst (v := 2) hx hb dX1_run_150 (by decide) ?_
    refine lv_imul hx hb dX1_run_151 ?_
    exact re_i' hC hr hP hS (pr_1 h) (congrArg (fun Z : Mm => (Z, Rm)) (pr_2 h)) dX1_run_152
  replace h := it_f c13 h
  by_cases c18 : p1 = 11
  · replace h := it_t c18 h
    refine lv_lookup (off := 147) (tgt := 153) hx hb dX1_run_6 (by decide) (by rw [c18]; rfl) (by decide) ?_
    refine lv_iload_n hx hb dX1_run_153 rfl (lv_at hl 2 rfl) ?_
    refine lv_aload_n hx hb dX1_run_154 rfl (lv_at hl 0 rfl) ?_
    refine r_get (v := .int (C2.1 56 4)) hC inX1 hP (e_56 G _) rfl 4 (by decide) rfl k199 rfl dX1_run_155 ?_
    refine lv_ixor hx hb dX1_run_158 ?_
    exact re_i' hC hr hP hS (pr_1 h) (congrArg (fun Z : Mm => (Z, Rm)) (pr_2 h)) dX1_run_159
  replace h := it_f c18 h
  by_cases c19 : p1 = 20
  · replace h := it_t c19 h
    refine lv_lookup (off := 154) (tgt := 160) hx hb dX1_run_6 (by decide) (by rw [c19]; rfl) (by decide) ?_
    refine lv_aload_n hx hb dX1_run_160 rfl (lv_at hl 0 rfl) ?_
    refine lv_iconst (v := 1) hx hb dX1_run_161 (by decide) ?_
    refine lv_iconst (v := 0) hx hb dX1_run_162 (by decide) ?_
    refine lv_iload_n hx hb dX1_run_163 rfl (lv_at hl 2 rfl) ?_
    refine lv_iload_n hx hb dX1_run_164 rfl (lv_at hl 3 rfl) ?_
    obtain ⟨r21, C22, hq20, h⟩ := bp_x h
    refine rc_i hS (run_V hC wX1_fromAbove k953 (e_56 G _) rfl hP hS (As := [.int 1, .int 0, .int p2, .int p3]) (rest := []) (mX1_fromAbove l G Rm hz hq20) rfl hl.1 (Nat.le_of_ble_eq_true rfl) (rm_le (by omega) (by omega)) ⟨Nat.le_refl _, Nat.le_refl _⟩ rfl dX1_run_165) (fun H locs pb23 hP hS => ?_)
    refine lv_iconst (v := 3) hx hb dX1_run_168 (by decide) ?_
    refine lv_iadd hx hb dX1_run_169 ?_
    exact re_i' hC hr hP hS (pr_1 h) (congrArg (fun Z : Mm => (Z, Rm)) (pr_2 h)) dX1_run_170
  replace h := it_f c19 h
  by_cases c24 : p1 = 30
  · replace h := it_t c24 h
    refine lv_lookup (off := 165) (tgt := 171) hx hb dX1_run_6 (by decide) (by rw [c24]; rfl) (by decide) ?_
    refine lv_aload_n hx hb dX1_run_171 rfl (lv_at hl 0 rfl) ?_
    refine lv_iconst (v := 2) hx hb dX1_run_172 (by decide) ?_
    refine lv_iconst (v := 1) hx hb dX1_run_173 (by decide) ?_
    refine lv_iload_n hx hb dX1_run_174 rfl (lv_at hl 2 rfl) ?_
    refine lv_iload_n hx hb dX1_run_175 rfl (lv_at hl 3 rfl) ?_
    obtain ⟨r26, C27, hq25, h⟩ := bp_x h
    refine rc_i hS (run_V hC wX1_fromAbove k953 (e_56 G _) rfl hP hS (As := [.int 2, .int 1, .int p2, .int p3]) (rest := []) (mX1_fromAbove l G Rm hz hq25) rfl hl.1 (Nat.le_of_ble_eq_true rfl) (rm_le (by omega) (by omega)) ⟨Nat.le_refl _, Nat.le_refl _⟩ rfl dX1_run_176) (fun H locs pb28 hP hS => ?_)
    refine lv_ineg hx hb dX1_run_179 ?_
    exact re_i' hC hr hP hS (pr_1 h) (congrArg (fun Z : Mm => (Z, Rm)) (pr_2 h)) dX1_run_180
  replace h := it_f c24 h
  by_cases c29 : p1 = 40
  · replace h := it_t c29 h
    refine lv_lookup (off := 175) (tgt := 181) hx hb dX1_run_6 (by decide) (by rw [c29]; rfl) (by decide) ?_
    refine lv_aload_n hx hb dX1_run_181 rfl (lv_at hl 0 rfl) ?_
    refine lv_iconst (v := 3) hx hb dX1_run_182 (by decide) ?_
    refine lv_iconst (v := 2) hx hb dX1_run_183 (by decide) ?_
    refine lv_iload_n hx hb dX1_run_184 rfl (lv_at hl 2 rfl) ?_
    refine lv_iload_n hx hb dX1_run_185 rfl (lv_at hl 3 rfl) ?_
    obtain ⟨r31, C32, hq30, h⟩ := bp_x h
    refine rc_i hS (run_V hC wX1_fromAbove k953 (e_56 G _) rfl hP hS (As := [.int 3, .int 2, .int p2, .int p3]) (rest := []) (mX1_fromAbove l G Rm hz hq30) rfl hl.1 (Nat.le_of_ble_eq_true rfl) (rm_le (by omega) (by omega)) ⟨Nat.le_refl _, Nat.le_refl _⟩ rfl dX1_run_186) (fun H locs pb33 hP hS => ?_)
    refine lv_iconst (v := 3) hx hb dX1_run_189 (by decide) ?_
    refine lv_imul hx hb dX1_run_190 ?_
    exact re_i' hC hr hP hS (pr_1 h) (congrArg (fun Z : Mm => (Z, Rm)) (pr_2 h)) dX1_run_191
  replace h := it_f c29 h
  by_cases c34 : p1 = 50
  · replace h := it_t c34 h
    refine lv_lookup (off := 186) (tgt := 192) hx hb dX1_run_6 (by decide) (by rw [c34]; rfl) (by decide) ?_
    refine lv_aload_n hx hb dX1_run_192 rfl (lv_at hl 0 rfl) ?_
    refine lv_iconst (v := 4) hx hb dX1_run_193 (by decide) ?_
    refine lv_iconst (v := 3) hx hb dX1_run_194 (by decide) ?_
    refine lv_iload_n hx hb dX1_run_195 rfl (lv_at hl 2 rfl) ?_
    refine lv_iload_n hx hb dX1_run_196 rfl (lv_at hl 3 rfl) ?_
    obtain ⟨r36, C37, hq35, h⟩ := bp_x h
    refine rc_i hS (run_V hC wX1_fromAbove k953 (e_56 G _) rfl hP hS (As := [.int 4, .int 3, .int p2, .int p3]) (rest := []) (mX1_fromAbove l G Rm hz hq35) rfl hl.1 (Nat.le_of_ble_eq_true rfl) (rm_le (by omega) (by omega)) ⟨Nat.le_refl _, Nat.le_refl _⟩ rfl dX1_run_197) (fun H locs pb38 hP hS => ?_)
    refine lv_iconst (v := 5) hx hb dX1_run_200 (by decide) ?_
    refine lv_ixor hx hb dX1_run_201 ?_
    exact re_i' hC hr hP hS (pr_1 h) (congrArg (fun Z : Mm => (Z, Rm)) (pr_2 h)) dX1_run_202
  replace h := it_f c34 h
  by_cases c39 : p1 = 60
  · replace h := it_t c39 h
    refine lv_lookup (off := 197) (tgt := 203) hx hb dX1_run_6 (by decide) (by rw [c39]; rfl) (by decide) ?_
    refine lv_aload_n hx hb dX1_run_203 rfl (lv_at hl 0 rfl) ?_
    refine lv_iconst (v := 5) hx hb dX1_run_204 (by decide) ?_
    refine lv_iconst (v := 0) hx hb dX1_run_205 (by decide) ?_
    refine lv_iload_n hx hb dX1_run_206 rfl (lv_at hl 2 rfl) ?_
    refine lv_iconst (v := 1) hx hb dX1_run_207 (by decide) ?_
    refine lv_iadd hx hb dX1_run_208 ?_
    refine lv_iload_n hx hb dX1_run_209 rfl (lv_at hl 3 rfl) ?_
    obtain ⟨r41, C42, hq40, h⟩ := bp_x h
    refine rc_i hS (run_V hC wX1_fromAbove k953 (e_56 G _) rfl hP hS (As := [.int 5, .int 0, .int (p2 + 1), .int p3]) (rest := []) (mX1_fromAbove l G Rm hz hq40) rfl hl.1 (Nat.le_of_ble_eq_true rfl) (rm_le (by omega) (by omega)) ⟨Nat.le_refl _, Nat.le_refl _⟩ rfl dX1_run_210) (fun H locs pb43 hP hS => ?_)
    exact re_i' hC hr hP hS (pr_1 h) (congrArg (fun Z : Mm => (Z, Rm)) (pr_2 h)) dX1_run_213
  replace h := it_f c39 h
  by_cases c44 : p1 = 61
  · replace h := it_t c44 h
    refine lv_lookup (off := 208) (tgt := 214) hx hb dX1_run_6 (by decide) (by rw [c44]; rfl) (by decide) ?_
    refine lv_aload_n hx hb dX1_run_214 rfl (lv_at hl 0 rfl) ?_
    refine lv_iconst (v := 5) hx hb dX1_run_215 (by decide) ?_
    refine lv_iconst (v := 2) hx hb dX1_run_216 (by decide) ?_
    refine lv_iload_n hx hb dX1_run_217 rfl (lv_at hl 2 rfl) ?_
    refine lv_iload_n hx hb dX1_run_218 rfl (lv_at hl 3 rfl) ?_
    obtain ⟨r46, C47, hq45, h⟩ := bp_x h
    refine rc_i hS (run_V hC wX1_fromAbove k953 (e_56 G _) rfl hP hS (As := [.int 5, .int 2, .int p2, .int p3]) (rest := []) (mX1_fromAbove l G Rm hz hq45) rfl hl.1 (Nat.le_of_ble_eq_true rfl) (rm_le (by omega) (by omega)) ⟨Nat.le_refl _, Nat.le_refl _⟩ rfl dX1_run_219) (fun H locs pb48 hP hS => ?_)
    refine lv_aload_n hx hb dX1_run_222 rfl (lv_at hl 0 rfl) ?_
    refine lv_iconst (v := 0) hx hb dX1_run_223 (by decide) ?_
    refine lv_iconst (v := 2) hx hb dX1_run_224 (by decide) ?_
    refine lv_iload_n hx hb dX1_run_225 rfl (lv_at hl 3 rfl) ?_
    obtain ⟨r50, C51, hq49, h⟩ := bp_x h
    refine rc_i hS (run_V hC wX1_own k930 (e_56 G _) rfl hP hS (As := [.int 0, .int 2, .int p3]) (rest := [.int r46]) (mX1_own l G Rm hz hq49) rfl hl.1 (Nat.le_of_ble_eq_true rfl) (rm_le (by omega) (by omega)) ⟨Nat.le_refl _, Nat.le_refl _⟩ rfl dX1_run_226) (fun H locs pb52 hP hS => ?_)
    refine lv_iadd hx hb dX1_run_229 ?_
    exact re_i' hC hr hP hS (pr_1 h) (congrArg (fun Z : Mm => (Z, Rm)) (pr_2 h)) dX1_run_230
  replace h := it_f c44 h
  by_cases c53 : p1 = 70
  · replace h := it_t c53 h
    refine lv_lookup (off := 225) (tgt := 231) hx hb dX1_run_6 (by decide) (by rw [c53]; rfl) (by decide) ?_
    refine lv_aload_n hx hb dX1_run_231 rfl (lv_at hl 0 rfl) ?_
    refine lv_bipush (v := 6) hx hb dX1_run_232 (by decide) ?_
    refine lv_iconst (v := 2) hx hb dX1_run_234 (by decide) ?_
    refine lv_iload_n hx hb dX1_run_235 rfl (lv_at hl 2 rfl) ?_
    refine lv_iload_n hx hb dX1_run_236 rfl (lv_at hl 3 rfl) ?_
    obtain ⟨r55, C56, hq54, h⟩ := bp_x h
    refine rc_i hS (run_V hC wX1_fromAbove k953 (e_56 G _) rfl hP hS (As := [.int 6, .int 2, .int p2, .int p3]) (rest := []) (mX1_fromAbove l G Rm hz hq54) rfl hl.1 (Nat.le_of_ble_eq_true rfl) (rm_le (by omega) (by omega)) ⟨Nat.le_refl _, Nat.le_refl _⟩ rfl dX1_run_237) (fun H locs pb57 hP hS => ?_)
    refine lv_iconst (v := 1) hx hb dX1_run_240 (by decide) ?_
    refine lv_isub hx hb dX1_run_241 ?_
    exact re_i' hC hr hP hS (pr_1 h) (congrArg (fun Z : Mm => (Z, Rm)) (pr_2 h)) dX1_run_242
  replace h := it_f c53 h
  by_cases c58 : p1 = 80
  · replace h := it_t c58 h
    refine lv_lookup (off := 237) (tgt := 243) hx hb dX1_run_6 (by decide) (by rw [c58]; rfl) (by decide) ?_
    refine lv_aload_n hx hb dX1_run_243 rfl (lv_at hl 0 rfl) ?_
    refine lv_bipush (v := 7) hx hb dX1_run_244 (by decide) ?_
    refine lv_iconst (v := 1) hx hb dX1_run_246 (by decide) ?_
    refine lv_iload_n hx hb dX1_run_247 rfl (lv_at hl 2 rfl) ?_
    refine lv_iload_n hx hb dX1_run_248 rfl (lv_at hl 3 rfl) ?_
    obtain ⟨r60, C61, hq59, h⟩ := bp_x h
    refine rc_i hS (run_V hC wX1_fromAbove k953 (e_56 G _) rfl hP hS (As := [.int 7, .int 1, .int p2, .int p3]) (rest := []) (mX1_fromAbove l G Rm hz hq59) rfl hl.1 (Nat.le_of_ble_eq_true rfl) (rm_le (by omega) (by omega)) ⟨Nat.le_refl _, Nat.le_refl _⟩ rfl dX1_run_249) (fun H locs pb62 hP hS => ?_)
    refine lv_iconst (v := 2) hx hb dX1_run_252 (by decide) ?_
    refine lv_imul hx hb dX1_run_253 ?_
    exact re_i' hC hr hP hS (pr_1 h) (congrArg (fun Z : Mm => (Z, Rm)) (pr_2 h)) dX1_run_254
  replace h := it_f c58 h
  by_cases c63 : p1 = 81
  · replace h := it_t c63 h
    refine lv_lookup (off := 249) (tgt := 255) hx hb dX1_run_6 (by decide) (by rw [c63]; rfl) (by decide) ?_
    refine lv_aload_n hx hb dX1_run_255 rfl (lv_at hl 0 rfl) ?_
    refine lv_bipush (v := 7) hx hb dX1_run_256 (by decide) ?_
    refine lv_iconst (v := 3) hx hb dX1_run_258 (by decide) ?_
    refine lv_iload_n hx hb dX1_run_259 rfl (lv_at hl 2 rfl) ?_
    refine lv_iload_n hx hb dX1_run_260 rfl (lv_at hl 3 rfl) ?_
    obtain ⟨r65, C66, hq64, h⟩ := bp_x h
    refine rc_i hS (run_V hC wX1_fromAbove k953 (e_56 G _) rfl hP hS (As := [.int 7, .int 3, .int p2, .int p3]) (rest := []) (mX1_fromAbove l G Rm hz hq64) rfl hl.1 (Nat.le_of_ble_eq_true rfl) (rm_le (by omega) (by omega)) ⟨Nat.le_refl _, Nat.le_refl _⟩ rfl dX1_run_261) (fun H locs pb67 hP hS => ?_)
    refine lv_aload_n hx hb dX1_run_264 rfl (lv_at hl 0 rfl) ?_
    refine lv_iconst (v := 2) hx hb dX1_run_265 (by decide) ?_
    refine lv_iconst (v := 2) hx hb dX1_run_266 (by decide) ?_
    refine lv_iload_n hx hb dX1_run_267 rfl (lv_at hl 3 rfl) ?_
    obtain ⟨r69, C70, hq68, h⟩ := bp_x h
    refine rc_i hS (run_V hC wX1_own k930 (e_56 G _) rfl hP hS (As := [.int 2, .int 2, .int p3]) (rest := [.int r65]) (mX1_own l G Rm hz hq68) rfl hl.1 (Nat.le_of_ble_eq_true rfl) (rm_le (by omega) (by omega)) ⟨Nat.le_refl _, Nat.le_refl _⟩ rfl dX1_run_268) (fun H locs pb71 hP hS => ?_)
    refine lv_isub hx hb dX1_run_271 ?_
    exact re_i' hC hr hP hS (pr_1 h) (congrArg (fun Z : Mm => (Z, Rm)) (pr_2 h)) dX1_run_272
  replace h := it_f c63 h
  refine lv_lookup (off := 267) (tgt := 273) hx hb dX1_run_6 (by decide) (lk_D (ex_c (ti_ne (z := 1) rfl c3) (ex_c (ti_ne (z := 2) rfl c4) (ex_c (ti_ne (z := 10) rfl c13) (ex_c (ti_ne (z := 11) rfl c18) (ex_c (ti_ne (z := 20) rfl c19) (ex_c (ti_ne (z := 30) rfl c24) (ex_c (ti_ne (z := 40) rfl c29) (ex_c (ti_ne (z := 50) rfl c34) (ex_c (ti_ne (z := 60) rfl c39) (ex_c (ti_ne (z := 61) rfl c44) (ex_c (ti_ne (z := 70) rfl c53) (ex_c (ti_ne (z := 80) rfl c58) (ex_c (ti_ne (z := 81) rfl c63) ex_0))))))))))))) (by decide)) (by decide) ?_
  refine lv_iconst (v := 0) hx hb dX1_run_273 (by decide) ?_
  exact re_i' hC hr hP hS (pr_1 h) (congrArg (fun Z : Mm => (Z, Rm)) (pr_2 h)) dX1_run_274
set_option maxHeartbeats 4000000 in
set_option maxRecDepth 100000 in
theorem mX1_run_d (l : Launch) (G : gp) {n : Nat} (d : Nat) : ∀ (Rm : Mm) {p1 : Int32} {p2 : Int32} {p3 : Int32} {C : Mm} {r0 : Int32} {C0 : Mm} (_ : fX1_run n d p1 p2 p3 C = some (r0, C0)), Met l yX1_run (wsy yX1_run cX1_run 4 (some .int)) (rmv (3 * d + 1) (74 * d + 21)) (va_Pc [.ref (gA G 56), .int p1, .int p2, .int p3] (Rl G (C, Rm))) (Qi G PT r0 (C0, Rm)) 0 0 (lwA G) := by
  induction d with
  | zero =>
    intro Rm p1 p2 p3 C r0 C0 h
    rw [fX1_run.eq_1] at h
    cases h
  | succ d ih =>
    intro Rm p1 p2 p3 C r0 C0 h
    rw [fX1_run.eq_2] at h
    have q := mX1_run_w l G d (@fun Q _ _ _ _ _ _ hq => ih Q hq) Rm h
    rw [show 3 * (d + 1) + 1 = 3 * d + 4 by omega, show 74 * (d + 1) + 21 = 74 * d + 95 by omega]
    exact q
theorem mX1_run (l : Launch) (G : gp) {n : Nat} (Rm : Mm) {p1 : Int32} {p2 : Int32} {p3 : Int32} {C : Mm} {r0 : Int32} {C0 : Mm} (h : fX1_run n 12 p1 p2 p3 C = some (r0, C0)) : Met l yX1_run (wsy yX1_run cX1_run 4 (some .int)) (rmv 37 909) (va_Pc [.ref (gA G 56), .int p1, .int p2, .int p3] (Rl G (C, Rm))) (Qi G PT r0 (C0, Rm)) 0 0 (lwA G) := mX1_run_d l G 12 Rm h
set_option maxHeartbeats 4000000 in
set_option maxRecDepth 100000 in
theorem mX1_start (l : Launch) (G : gp) (Rm : Mm) {n : Nat} {p1 : Int32} {p2 : Int32} {p3 : Int32} {C : Mm} {r0 : Int32} {C0 : Mm} (h : fX1_start n p1 p2 p3 C = some (r0, C0)) : Met l yX1_start (wsy yX1_start cX1_start 4 (some .int)) (rmv 40 982) (va_Pc [.ref (gA G 56), .int p1, .int p2, .int p3] (Rl G (C, Rm))) (Qi G PT r0 (C0, Rm)) 0 0 (lwA G) := by
  refine met_i [.ref (gA G 56), .int p1, .int p2, .int p3] wX1_start.2.2.2.2.2 (Nat.le_of_ble_eq_true rfl) ?_
  intro p e s m args below meth c ls hC hr hP hl
  have hC : Cx G p s m args meth c cX1_start RX1 4 := hC
  have hx := hC.1
  have hb := hC.2.1
  have hown := hC.2.2.2.1
  have hts := hC.2.2.2.2.1
  have hS : va_S (lwA G) s.heap s.heap [] := va_S.rf
  have hl : lv_has ls 4 [(0, .ref (gA G 56)), (1, .int p1), (2, .int p2), (3, .int p3)] := hl
  unfold fX1_start at h
  refine lv_aload_n hx hb dX1_start_0 rfl (lv_at hl 0 rfl) ?_
  refine lv_iconst (v := 0) hx hb dX1_start_1 (by decide) ?_
  obtain ⟨C1, eC1⟩ : ∃ Z : Mm, Z = wrI C 56 3 0 := ⟨_, rfl⟩
  replace h := lt_y eC1 h
  refine r_put (X' := (C1, Rm)) hC inX1 tyX1 tyX1_ok nmX1 hP hS (e_56 G _) rfl 3 (by decide) rfl k198 rfl (v := .int 0) rfl rfl (Nat.le_of_ble_eq_true rfl) (p_56_3 G _ _ eC1) dX1_start_2 (fun H locs hP hS => ?_)
  refine lv_aload_n hx hb dX1_start_5 rfl (lv_at hl 0 rfl) ?_
  refine lv_iload_n hx hb dX1_start_6 rfl (lv_at hl 1 rfl) ?_
  refine rc_i hS (run_V hC wX1_has k926 (e_56 G _) rfl hP hS (As := [.int p1]) (rest := []) (mX1_has l G Rm rfl) rfl hl.1 (Nat.le_of_ble_eq_true rfl) ⟨by decide, by decide⟩ ⟨Nat.le_refl _, Nat.le_refl _⟩ rfl dX1_start_7) (fun H locs pb3 hP hS => ?_)
  refine lv_if_eq (tgt := 22) hx hb dX1_start_10 (by decide) (fun c4 => ?_) (fun c4 => ?_)
  · replace h := it_t c4 h
    refine lv_iconst (v := 0) hx hb dX1_start_22 (by decide) ?_
    exact re_i' hC hr hP hS (pr_1 h) (congrArg (fun Z : Mm => (Z, Rm)) (pr_2 h)) dX1_start_23
  · replace h := it_f c4 h
    refine lv_iload_n hx hb dX1_start_13 rfl (lv_at hl 2 rfl) ?_
    refine lv_if_lt (tgt := 22) hx hb dX1_start_14 (by decide) (fun c5 => ?_) (fun c5 => ?_)
    · replace h := it_t c5 h
      refine lv_iconst (v := 0) hx hb dX1_start_22 (by decide) ?_
      exact re_i' hC hr hP hS (pr_1 h) (congrArg (fun Z : Mm => (Z, Rm)) (pr_2 h)) dX1_start_23
    · replace h := it_f c5 h
      refine lv_iload_n hx hb dX1_start_17 rfl (lv_at hl 2 rfl) ?_
      refine lv_iconst (v := 4) hx hb dX1_start_18 (by decide) ?_
      refine lv_icmp_lt (tgt := 24) hx hb dX1_start_19 (by decide) (fun c6 => ?_) (fun c6 => ?_)
      · replace h := it_t c6 h
        refine lv_aload_n hx hb dX1_start_24 rfl (lv_at hl 0 rfl) ?_
        refine lv_iload_n hx hb dX1_start_25 rfl (lv_at hl 1 rfl) ?_
        obtain ⟨C7, eC7⟩ : ∃ Z : Mm, Z = wrI C1 56 4 p1 := ⟨_, rfl⟩
        replace h := lt_y eC7 h
        refine r_put (X' := (C7, Rm)) hC inX1 tyX1 tyX1_ok nmX1 hP hS (e_56 G _) rfl 4 (by decide) rfl k199 rfl (v := .int p1) rfl rfl (Nat.le_of_ble_eq_true rfl) (p_56_4 G _ _ eC7) dX1_start_26 (fun H locs hP hS => ?_)
        refine lv_aload_n hx hb dX1_start_29 rfl (lv_at hl 0 rfl) ?_
        refine lv_iload_n hx hb dX1_start_30 rfl (lv_at hl 2 rfl) ?_
        refine lv_iload_n hx hb dX1_start_31 rfl (lv_at hl 3 rfl) ?_
        refine lv_iconst (v := 0) hx hb dX1_start_32 (by decide) ?_
        obtain ⟨r9, C10, hq8, h⟩ := bp_x h
        refine rc_i hS (run_V hC wX1_own k930 (e_56 G _) rfl hP hS (As := [.int p2, .int p3, .int 0]) (rest := []) (mX1_own l G Rm (@fun Q _ _ _ _ _ _ hq => mX1_run l G Q hq) hq8) rfl hl.1 (Nat.le_of_ble_eq_true rfl) ⟨by decide, by decide⟩ ⟨Nat.le_refl _, Nat.le_refl _⟩ rfl dX1_start_33) (fun H locs pb11 hP hS => ?_)
        exact re_i' hC hr hP hS (pr_1 h) (congrArg (fun Z : Mm => (Z, Rm)) (pr_2 h)) dX1_start_36
      · replace h := it_f c6 h
        refine lv_iconst (v := 0) hx hb dX1_start_22 (by decide) ?_
        exact re_i' hC hr hP hS (pr_1 h) (congrArg (fun Z : Mm => (Z, Rm)) (pr_2 h)) dX1_start_23
