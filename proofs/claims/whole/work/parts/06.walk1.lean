set_option maxHeartbeats 4000000 in
set_option maxRecDepth 100000 in
theorem mX5_number (l : Launch) (G : gp) (Rm : Mm) {j0 : Nat} (hj0 : j0 < 7) {p1 : Int32} {C : Mm} {r0 : Int32} (h : fX5_number j0 p1 C = some r0) : Met l yX5_number (wsy yX5_number cX5_number 2 (some .int)) (rmv 0 0) (va_Pc [.ref (gA G (hdc j0)), .int p1] (Rl G (C, Rm))) (Qi G PT r0 (C, Rm)) 0 0 (lwA G) := by
  refine met_i [.ref (gA G (hdc j0)), .int p1] wX5_number.2.2.2.2.2 (Nat.le_of_ble_eq_true rfl) ?_
  intro p e s m args below meth c ls hC hr hP hl
  have hC : Cx G p s m args meth c cX5_number RX5 2 := hC
  have hx := hC.1
  have hb := hC.2.1
  have hown := hC.2.2.2.1
  have hts := hC.2.2.2.2.1
  have hS : va_S (lwA G) s.heap s.heap [] := va_S.rf
  have hl : lv_has ls 2 [(0, .ref (gA G (hdc j0))), (1, .int p1)] := hl
  unfold fX5_number at h
  refine lv_iload_n hx hb dX5_number_0 rfl (lv_at hl 1 rfl) ?_
  refine lv_if_lt (tgt := 18) hx hb dX5_number_1 (by decide) (fun c1 => ?_) (fun c1 => ?_)
  · replace h := it_t c1 h
    refine lv_iconst (v := 0) hx hb dX5_number_18 (by decide) ?_
    exact re_i' hC hr hP hS (Option.some.inj h) rfl dX5_number_19
  · replace h := it_f c1 h
    refine lv_iload_n hx hb dX5_number_4 rfl (lv_at hl 1 rfl) ?_
    refine lv_iconst (v := 5) hx hb dX5_number_5 (by decide) ?_
    refine lv_icmp_ge (tgt := 18) hx hb dX5_number_6 (by decide) (fun c2 => ?_) (fun c2 => ?_)
    · replace h := it_t c2 h
      refine lv_iconst (v := 0) hx hb dX5_number_18 (by decide) ?_
      exact re_i' hC hr hP hS (Option.some.inj h) rfl dX5_number_19
    · replace h := it_f c2 h
      refine lv_aload_n hx hb dX5_number_9 rfl (lv_at hl 0 rfl) ?_
      refine r_get (v := .ref (gA G (hdn j0))) hC inX5 hP (e_hc G _ hj0) rfl 0 (by decide) rfl k44 rfl dX5_number_10 ?_
      refine lv_iload_n hx hb dX5_number_13 rfl (lv_at hl 1 rfl) ?_
      by_cases c3 : p1 < (0 : Int32) ∨ 5 ≤ Int32.toNatClampNeg p1
      · cases it_t c3 h
      replace h := it_f c3 h
      refine r_iald hC hP (f := C.1 (hdn j0)) (e_hn G _ hj0) c3 dX5_number_14 ?_
      refine lv_goto (tgt := 19) hx hb dX5_number_15 (by decide) ?_
      exact re_i' hC hr hP hS (Option.some.inj h) rfl dX5_number_19
set_option maxHeartbeats 4000000 in
set_option maxRecDepth 100000 in
theorem mX5_placeOf (l : Launch) (G : gp) (Rm : Mm) {n : Nat} {j0 : Nat} (hj0 : j0 < 7) {p1 : Int32} {C : Mm} {r0 : Int32} (h : fX5_placeOf n j0 p1 C = some r0) : Met l yX5_placeOf (wsy yX5_placeOf cX5_placeOf 4 (some .int)) (rmv 0 0) (va_Pc [.ref (gA G (hdc j0)), .int p1] (Rl G (C, Rm))) (Qi G PT r0 (C, Rm)) 0 0 (lwA G) := by
  refine met_i [.ref (gA G (hdc j0)), .int p1] wX5_placeOf.2.2.2.2.2 (Nat.le_of_ble_eq_true rfl) ?_
  intro p e s m args below meth c ls hC hr hP hl
  have hC : Cx G p s m args meth c cX5_placeOf RX5 4 := hC
  have hx := hC.1
  have hb := hC.2.1
  have hown := hC.2.2.2.1
  have hts := hC.2.2.2.2.1
  have hS : va_S (lwA G) s.heap s.heap [] := va_S.rf
  have hl : lv_has ls 4 [(0, .ref (gA G (hdc j0))), (1, .int p1)] := hl
  have bl18 : ∀ (fu : Nat), ∀ (y1 : Int32) (y2 : Int32) (y3 : Int32) (C : Mm) (H : Heap) (locs : List Loc) (ls : Array Slot), fX5_placeOf_h18 n j0 fu y1 y2 y3 C = some r0 → lv_has ls 4 [(0, .ref (gA G (hdc j0))), (1, .int y1), (2, .int y2), (3, .int y3)] → va_P (gD G) vwCl (wld G (C, Rm)) H → va_S (lwA G) s.heap H locs → W p l e (rmv 0 0) s m args below meth c H locs 0 0 (MQ below (Qi G PT r0 (C, Rm)) args s 0 0 (lwA G)) (F0 m 18 ls []) := by
    intro fu
    induction fu with
    | zero =>
      intro y1 y2 y3 C H locs ls h hl hP hS
      rw [fX5_placeOf_h18.eq_1] at h
      cases h
    | succ fu ih =>
      intro y1 y2 y3 C H locs ls h hl hP hS
      rw [fX5_placeOf_h18.eq_2] at h
      refine lv_iload_n hx hb dX5_placeOf_18 rfl (lv_at hl 3 rfl) ?_
      refine lv_aload_n hx hb dX5_placeOf_19 rfl (lv_at hl 0 rfl) ?_
      refine r_get (v := .int (C.1 (hdc j0) 3)) hC inX5 hP (e_hc G _ hj0) rfl 3 (by decide) rfl k47 rfl dX5_placeOf_20 ?_
      refine lv_icmp_ge (tgt := 54) hx hb dX5_placeOf_23 (by decide) (fun c1 => ?_) (fun c1 => ?_)
      · replace h := it_t c1 h
        refine lv_aload_n hx hb dX5_placeOf_54 rfl (lv_at hl 0 rfl) ?_
        refine r_get (v := .int (C.1 (hdc j0) 3)) hC inX5 hP (e_hc G _ hj0) rfl 3 (by decide) rfl k47 rfl dX5_placeOf_55 ?_
        exact re_i' hC hr hP hS (Option.some.inj h) rfl dX5_placeOf_58
      · replace h := it_f c1 h
        refine lv_aload_n hx hb dX5_placeOf_26 rfl (lv_at hl 0 rfl) ?_
        refine r_get (v := .ref (gA G (hdp j0))) hC inX5 hP (e_hc G _ hj0) rfl 1 (by decide) rfl k45 rfl dX5_placeOf_27 ?_
        refine lv_iload_n hx hb dX5_placeOf_30 rfl (lv_at hl 3 rfl) ?_
        by_cases c2 : y3 < (0 : Int32) ∨ 60 ≤ Int32.toNatClampNeg y3
        · cases it_t c2 h
        replace h := it_f c2 h
        refine r_iald hC hP (f := C.1 (hdp j0)) (e_hp G _ hj0) c2 dX5_placeOf_31 ?_
        refine lv_iload_n hx hb dX5_placeOf_32 rfl (lv_at hl 1 rfl) ?_
        refine lv_icmp_eq (tgt := 46) hx hb dX5_placeOf_33 (by decide) (fun c3 => ?_) (fun c3 => ?_)
        · replace h := it_t c3 h
          refine lv_iload_n hx hb dX5_placeOf_46 rfl (lv_at hl 3 rfl) ?_
          exact re_i' hC hr hP hS (Option.some.inj h) rfl dX5_placeOf_47
        · replace h := it_f c3 h
          refine lv_aload_n hx hb dX5_placeOf_36 rfl (lv_at hl 0 rfl) ?_
          refine r_get (v := .ref (gA G (hdp j0))) hC inX5 hP (e_hc G _ hj0) rfl 1 (by decide) rfl k45 rfl dX5_placeOf_37 ?_
          refine lv_iload_n hx hb dX5_placeOf_40 rfl (lv_at hl 3 rfl) ?_
          by_cases c4 : y3 < (0 : Int32) ∨ 60 ≤ Int32.toNatClampNeg y3
          · cases it_t c4 h
          replace h := it_f c4 h
          refine r_iald hC hP (f := C.1 (hdp j0)) (e_hp G _ hj0) c4 dX5_placeOf_41 ?_
          refine lv_iload_n hx hb dX5_placeOf_42 rfl (lv_at hl 2 rfl) ?_
          refine lv_icmp_ne (tgt := 48) hx hb dX5_placeOf_43 (by decide) (fun c5 => ?_) (fun c5 => ?_)
          · replace h := it_f c5 h
            obtain ⟨x6, ex6⟩ : ∃ y : Int32, y = y3 + 1 := ⟨_, rfl⟩
            replace h := lt_y ex6 h
            refine lv_iinc (v := x6) (lv' := [(3, .int x6), (0, .ref (gA G (hdc j0))), (1, .int y1), (2, .int y2)]) hx hb dX5_placeOf_48 hl (k := 3) rfl (by rw [ex6]; rfl) (by decide) rfl (fun ls hl => ?_)
            refine lv_goto (tgt := 18) hx hb dX5_placeOf_51 (by decide) ?_
            exact ih y1 y2 x6 C _ _ _ h (lv_sub hl [1, 2, 3, 0] rfl) hP hS
          · replace h := it_t c5 h
            refine lv_iload_n hx hb dX5_placeOf_46 rfl (lv_at hl 3 rfl) ?_
            exact re_i' hC hr hP hS (Option.some.inj h) rfl dX5_placeOf_47
  unfold fX5_placeOf at h
  refine lv_iload_n hx hb dX5_placeOf_0 rfl (lv_at hl 1 rfl) ?_
  refine lv_sipush (v := 10000) hx hb dX5_placeOf_1 (by decide) ?_
  refine r_irem hx hb dX5_placeOf_4 (by decide) ?_
  refine lv_sipush (v := 10000) hx hb dX5_placeOf_5 (by decide) ?_
  refine lv_imul hx hb dX5_placeOf_8 ?_
  refine lv_iload_n hx hb dX5_placeOf_9 rfl (lv_at hl 1 rfl) ?_
  refine lv_sipush (v := 10000) hx hb dX5_placeOf_10 (by decide) ?_
  refine lv_idiv hx hb dX5_placeOf_13 (by decide) ?_
  refine lv_iadd hx hb dX5_placeOf_14 ?_
  refine lv_topi (fun x7 ex7 => ?_)
  replace h := lt_y ex7 h
  refine lv_istore_n (lv' := [(2, .int x7), (0, .ref (gA G (hdc j0))), (1, .int p1)]) hx hb dX5_placeOf_15 rfl hl (by decide) rfl (fun ls hl => ?_)
  refine lv_iconst (v := 0) hx hb dX5_placeOf_16 (by decide) ?_
  refine lv_istore_n (lv' := [(3, .int 0), (2, .int x7), (0, .ref (gA G (hdc j0))), (1, .int p1)]) hx hb dX5_placeOf_17 rfl hl (by decide) rfl (fun ls hl => ?_)
  exact bl18 n p1 x7 0 C _ _ _ h (lv_sub hl [2, 3, 1, 0] rfl) hP hS
set_option maxHeartbeats 4000000 in
set_option maxRecDepth 100000 in
theorem mX5_looksUp (l : Launch) (G : gp) (Rm : Mm) {n : Nat} {j0 : Nat} (hj0 : j0 < 7) {p1 : Int32} {C : Mm} {r0 : Int32} (h : fX5_looksUp n j0 p1 C = some r0) : Met l yX5_looksUp (wsy yX5_looksUp cX5_looksUp 3 (some .boolean)) (rmv 1 23) (va_Pc [.ref (gA G (hdc j0)), .int p1] (Rl G (C, Rm))) (Qi G PZ r0 (C, Rm)) 0 0 (lwA G) := by
  refine met_i [.ref (gA G (hdc j0)), .int p1] wX5_looksUp.2.2.2.2.2 (Nat.le_of_ble_eq_true rfl) ?_
  intro p e s m args below meth c ls hC hr hP hl
  have hC : Cx G p s m args meth c cX5_looksUp RX5 3 := hC
  have hx := hC.1
  have hb := hC.2.1
  have hown := hC.2.2.2.1
  have hts := hC.2.2.2.2.1
  have hS : va_S (lwA G) s.heap s.heap [] := va_S.rf
  have hl : lv_has ls 3 [(0, .ref (gA G (hdc j0))), (1, .int p1)] := hl
  have bl30 : ∀ (y1 : Int32) (C : Mm) (H : Heap) (locs : List Loc) (ls : Array Slot), fX5_looksUp_b30 n j0 y1 C = some r0 → lv_has ls 3 [(0, .ref (gA G (hdc j0))), (1, .int y1)] → va_P (gD G) vwCl (wld G (C, Rm)) H → va_S (lwA G) s.heap H locs → W p l e (rmv 1 23) s m args below meth c H locs 0 0 (MQ below (Qi G PZ r0 (C, Rm)) args s 0 0 (lwA G)) (F0 m 30 ls []) := by
    intro y1 C H locs ls h hl hP hS
    unfold fX5_looksUp_b30 at h
    refine lv_aload_n hx hb dX5_looksUp_30 rfl (lv_at hl 0 rfl) ?_
    refine lv_iload_n hx hb dX5_looksUp_31 rfl (lv_at hl 1 rfl) ?_
    obtain ⟨r2, hq1, h⟩ := bn_x h
    refine rc_i hS (run_V hC wX5_placeOf k469 (e_hc G _ hj0) rfl hP hS (As := [.int y1]) (rest := []) (mX5_placeOf l G Rm hj0 hq1) rfl hl.1 (Nat.le_of_ble_eq_true rfl) ⟨by decide, by decide⟩ ⟨Nat.le_refl _, Nat.le_refl _⟩ rfl dX5_looksUp_32) (fun H locs pb3 hP hS => ?_)
    refine lv_istore_n (lv' := [(2, .int r2), (0, .ref (gA G (hdc j0))), (1, .int y1)]) hx hb dX5_looksUp_35 rfl hl (by decide) rfl (fun ls hl => ?_)
    refine lv_iload_n hx hb dX5_looksUp_36 rfl (lv_at hl 0 rfl) ?_
    refine lv_aload_n hx hb dX5_looksUp_37 rfl (lv_at hl 1 rfl) ?_
    refine r_get (v := .int (C.1 (hdc j0) 3)) hC inX5 hP (e_hc G _ hj0) rfl 3 (by decide) rfl k47 rfl dX5_looksUp_38 ?_
    refine lv_icmp_ge (tgt := 58) hx hb dX5_looksUp_41 (by decide) (fun c4 => ?_) (fun c4 => ?_)
    · replace h := it_t c4 h
      refine lv_iconst (v := 0) hx hb dX5_looksUp_58 (by decide) ?_
      exact re_z' hC hr hP hS PZ0 (Option.some.inj h) rfl dX5_looksUp_59
    · replace h := it_f c4 h
      refine lv_aload_n hx hb dX5_looksUp_44 rfl (lv_at hl 1 rfl) ?_
      refine r_get (v := .ref (gA G (hdk j0))) hC inX5 hP (e_hc G _ hj0) rfl 2 (by decide) rfl k46 rfl dX5_looksUp_45 ?_
      refine lv_iload_n hx hb dX5_looksUp_48 rfl (lv_at hl 0 rfl) ?_
      by_cases c5 : r2 < (0 : Int32) ∨ 60 ≤ Int32.toNatClampNeg r2
      · cases it_t c5 h
      replace h := it_f c5 h
      refine r_iald hC hP (f := C.1 (hdk j0)) (e_hk G _ hj0) c5 dX5_looksUp_49 ?_
      refine lv_iconst (v := 3) hx hb dX5_looksUp_50 (by decide) ?_
      refine lv_icmp_lt (tgt := 58) hx hb dX5_looksUp_51 (by decide) (fun c6 => ?_) (fun c6 => ?_)
      · replace h := it_t c6 h
        refine lv_iconst (v := 0) hx hb dX5_looksUp_58 (by decide) ?_
        exact re_z' hC hr hP hS PZ0 (Option.some.inj h) rfl dX5_looksUp_59
      · replace h := it_f c6 h
        refine lv_iconst (v := 1) hx hb dX5_looksUp_54 (by decide) ?_
        refine lv_goto (tgt := 59) hx hb dX5_looksUp_55 (by decide) ?_
        exact re_z' hC hr hP hS PZ1 (Option.some.inj h) rfl dX5_looksUp_59
  unfold fX5_looksUp at h
  refine lv_iload_n hx hb dX5_looksUp_0 rfl (lv_at hl 1 rfl) ?_
  refine lv_sipush (v := 10000) hx hb dX5_looksUp_1 (by decide) ?_
  refine lv_idiv hx hb dX5_looksUp_4 (by decide) ?_
  refine lv_aload_n hx hb dX5_looksUp_5 rfl (lv_at hl 0 rfl) ?_
  refine r_get (v := .ref (gA G (hdn j0))) hC inX5 hP (e_hc G _ hj0) rfl 0 (by decide) rfl k44 rfl dX5_looksUp_6 ?_
  refine lv_iconst (v := 3) hx hb dX5_looksUp_9 (by decide) ?_
  by_cases c7 : 3 < (0 : Int32) ∨ 5 ≤ Int32.toNatClampNeg 3
  · cases it_t c7 h
  replace h := it_f c7 h
  refine r_iald hC hP (f := C.1 (hdn j0)) (e_hn G _ hj0) c7 dX5_looksUp_10 ?_
  refine lv_icmp_gt (tgt := 30) hx hb dX5_looksUp_11 (by decide) (fun c8 => ?_) (fun c8 => ?_)
  · replace h := it_t c8 h
    exact bl30 p1 C _ _ _ h (lv_sub hl [0, 1] rfl) hP hS
  · replace h := it_f c8 h
    refine lv_iload_n hx hb dX5_looksUp_14 rfl (lv_at hl 1 rfl) ?_
    refine lv_sipush (v := 10000) hx hb dX5_looksUp_15 (by decide) ?_
    refine r_irem hx hb dX5_looksUp_18 (by decide) ?_
    refine lv_aload_n hx hb dX5_looksUp_19 rfl (lv_at hl 0 rfl) ?_
    refine r_get (v := .ref (gA G (hdn j0))) hC inX5 hP (e_hc G _ hj0) rfl 0 (by decide) rfl k44 rfl dX5_looksUp_20 ?_
    refine lv_iconst (v := 3) hx hb dX5_looksUp_23 (by decide) ?_
    by_cases c9 : 3 < (0 : Int32) ∨ 5 ≤ Int32.toNatClampNeg 3
    · cases it_t c9 h
    replace h := it_f c9 h
    refine r_iald hC hP (f := C.1 (hdn j0)) (e_hn G _ hj0) c9 dX5_looksUp_24 ?_
    refine lv_icmp_gt (tgt := 30) hx hb dX5_looksUp_25 (by decide) (fun c10 => ?_) (fun c10 => ?_)
    · replace h := it_t c10 h
      exact bl30 p1 C _ _ _ h (lv_sub hl [0, 1] rfl) hP hS
    · replace h := it_f c10 h
      refine lv_iconst (v := 1) hx hb dX5_looksUp_28 (by decide) ?_
      exact re_z' hC hr hP hS PZ1 (Option.some.inj h) rfl dX5_looksUp_29
set_option maxHeartbeats 4000000 in
set_option maxRecDepth 100000 in
theorem mX4_sizeOf (l : Launch) (G : gp) (Rm : Mm) {n : Nat} {p0 : Int64} {C : Mm} {r0 : Int32} (h : fX4_sizeOf n p0 = some r0) : Met l yX4_sizeOf (wsy yX4_sizeOf cX4_sizeOf 3 (some .int)) (rmv 0 0) (va_Pc [.long p0] (Rl G (C, Rm))) (Qi G PT r0 (C, Rm)) 0 0 (lwA G) := by
  refine met_i [.long p0] wX4_sizeOf.2.2.2.2 (Nat.le_of_ble_eq_true rfl) ?_
  intro p e s m args below meth c ls hC hr hP hl
  have hC : Cx G p s m args meth c cX4_sizeOf RX4 3 := hC
  have hx := hC.1
  have hb := hC.2.1
  have hown := hC.2.2.2.1
  have hts := hC.2.2.2.2.1
  have hS : va_S (lwA G) s.heap s.heap [] := va_S.rf
  have hl : lv_has ls 3 [(0, .long p0)] := hl
  have bl2 : ∀ (fu : Nat), ∀ (y0 : Int64) (y2 : Int32) (C : Mm) (H : Heap) (locs : List Loc) (ls : Array Slot), fX4_sizeOf_h2 n fu y0 y2 = some r0 → lv_has ls 3 [(0, .long y0), (2, .int y2)] → va_P (gD G) vwCl (wld G (C, Rm)) H → va_S (lwA G) s.heap H locs → W p l e (rmv 0 0) s m args below meth c H locs 0 0 (MQ below (Qi G PT r0 (C, Rm)) args s 0 0 (lwA G)) (F0 m 2 ls []) := by
    intro fu
    induction fu with
    | zero =>
      intro y0 y2 C H locs ls h hl hP hS
      rw [fX4_sizeOf_h2.eq_1] at h
      cases h
    | succ fu ih =>
      intro y0 y2 C H locs ls h hl hP hS
      rw [fX4_sizeOf_h2.eq_2] at h
      refine lv_iload_n hx hb dX4_sizeOf_2 rfl (lv_at hl 1 rfl) ?_
      refine r_gets hC hS (hC.2.2.2.2.2.2.2.2.1.2.2.2.1.1) k495 dX4_sizeOf_3 ?_
      refine r_tlen hC hS (hC.2.2.2.2.2.2.2.2.1.2.2.2.1.2) (v := 19) (by decide) dX4_sizeOf_6 ?_
      refine lv_icmp_ge (tgt := 28) hx hb dX4_sizeOf_7 (by decide) (fun c1 => ?_) (fun c1 => ?_)
      · replace h := it_t c1 h
        refine r_gets hC hS (hC.2.2.2.2.2.2.2.2.1.2.2.2.1.1) k495 dX4_sizeOf_28 ?_
        refine r_tlen hC hS (hC.2.2.2.2.2.2.2.2.1.2.2.2.1.2) (v := 19) (by decide) dX4_sizeOf_31 ?_
        exact re_i' hC hr hP hS (Option.some.inj h) rfl dX4_sizeOf_32
      · replace h := it_f c1 h
        refine lv_lload_n hx hb dX4_sizeOf_10 rfl (lv_at hl 0 rfl) ?_
        refine r_gets hC hS (hC.2.2.2.2.2.2.2.2.1.2.2.2.1.1) k495 dX4_sizeOf_11 ?_
        refine lv_iload_n hx hb dX4_sizeOf_14 rfl (lv_at hl 1 rfl) ?_
        by_cases c2 : y2 < (0 : Int32) ∨ 19 ≤ Int32.toNatClampNeg y2
        · cases it_t c2 h
        replace h := it_f c2 h
        refine r_tl hC hS (hC.2.2.2.2.2.2.2.2.1.2.2.2.1.2) c2 dX4_sizeOf_15 ?_
        refine W.lcmp hx hb dX4_sizeOf_16 ?_
        refine lv_if_ge (tgt := 22) hx hb dX4_sizeOf_17 (by decide) (fun c3 => ?_) (fun c3 => ?_)
        · replace h := it_t c3 h
          obtain ⟨x4, ex4⟩ : ∃ y : Int32, y = y2 + 1 := ⟨_, rfl⟩
          replace h := lt_y ex4 h
          refine lv_iinc (v := x4) (lv' := [(2, .int x4), (0, .long y0)]) hx hb dX4_sizeOf_22 hl (k := 1) rfl (by rw [ex4]; rfl) (by decide) rfl (fun ls hl => ?_)
          refine lv_goto (tgt := 2) hx hb dX4_sizeOf_25 (by decide) ?_
          exact ih y0 x4 _ _ _ _ h (lv_sub hl [1, 0] rfl) hP hS
        · replace h := it_f c3 h
          refine lv_iload_n hx hb dX4_sizeOf_20 rfl (lv_at hl 1 rfl) ?_
          exact re_i' hC hr hP hS (Option.some.inj h) rfl dX4_sizeOf_21
  unfold fX4_sizeOf at h
  refine lv_iconst (v := 1) hx hb dX4_sizeOf_0 (by decide) ?_
  refine lv_istore_n (lv' := [(2, .int 1), (0, .long p0)]) hx hb dX4_sizeOf_1 rfl hl (by decide) rfl (fun ls hl => ?_)
  exact bl2 n p0 1 _ _ _ _ h (lv_sub hl [1, 0] rfl) hP hS
set_option maxHeartbeats 4000000 in
set_option maxRecDepth 100000 in
theorem mX4_tenTo (l : Launch) (G : gp) (Rm : Mm) {p0 : Int32} {C : Mm} {r0 : Int32} (h : fX4_tenTo p0 = some r0) : Met l yX4_tenTo (wsy yX4_tenTo cX4_tenTo 1 (some .int)) (rmv 0 0) (va_Pc [.int p0] (Rl G (C, Rm))) (Qi G PT r0 (C, Rm)) 0 0 (lwA G) := by
  refine met_i [.int p0] wX4_tenTo.2.2.2.2 (Nat.le_of_ble_eq_true rfl) ?_
  intro p e s m args below meth c ls hC hr hP hl
  have hC : Cx G p s m args meth c cX4_tenTo RX4 1 := hC
  have hx := hC.1
  have hb := hC.2.1
  have hown := hC.2.2.2.1
  have hts := hC.2.2.2.2.1
  have hS : va_S (lwA G) s.heap s.heap [] := va_S.rf
  have hl : lv_has ls 1 [(0, .int p0)] := hl
  unfold fX4_tenTo at h
  refine lv_iload_n hx hb dX4_tenTo_0 rfl (lv_at hl 0 rfl) ?_
  refine lv_if_lt (tgt := 12) hx hb dX4_tenTo_1 (by decide) (fun c1 => ?_) (fun c1 => ?_)
  · replace h := it_t c1 h
    refine lv_iconst (v := 1) hx hb dX4_tenTo_12 (by decide) ?_
    refine lv_goto (tgt := 21) hx hb dX4_tenTo_13 (by decide) ?_
    exact re_i' hC hr hP hS (Option.some.inj h) rfl dX4_tenTo_21
  · replace h := it_f c1 h
    refine lv_iload_n hx hb dX4_tenTo_4 rfl (lv_at hl 0 rfl) ?_
    refine r_gets hC hS (hC.2.2.2.2.2.2.2.2.1.2.2.2.2.1.1) k500 dX4_tenTo_5 ?_
    refine r_tlen hC hS (hC.2.2.2.2.2.2.2.2.1.2.2.2.2.1.2) (v := 10) (by decide) dX4_tenTo_8 ?_
    refine lv_icmp_lt (tgt := 16) hx hb dX4_tenTo_9 (by decide) (fun c2 => ?_) (fun c2 => ?_)
    · replace h := it_t c2 h
      refine r_gets hC hS (hC.2.2.2.2.2.2.2.2.1.2.2.2.2.1.1) k500 dX4_tenTo_16 ?_
      refine lv_iload_n hx hb dX4_tenTo_19 rfl (lv_at hl 0 rfl) ?_
      by_cases c3 : p0 < (0 : Int32) ∨ 10 ≤ Int32.toNatClampNeg p0
      · cases it_t c3 h
      replace h := it_f c3 h
      refine r_ti hC hS (hC.2.2.2.2.2.2.2.2.1.2.2.2.2.1.2) c3 dX4_tenTo_20 ?_
      exact re_i' hC hr hP hS (Option.some.inj h) rfl dX4_tenTo_21
    · replace h := it_f c2 h
      refine lv_iconst (v := 1) hx hb dX4_tenTo_12 (by decide) ?_
      refine lv_goto (tgt := 21) hx hb dX4_tenTo_13 (by decide) ?_
      exact re_i' hC hr hP hS (Option.some.inj h) rfl dX4_tenTo_21
set_option maxHeartbeats 4000000 in
set_option maxRecDepth 100000 in
theorem mX4_figureAt (l : Launch) (G : gp) (Rm : Mm) {p0 : Int32} {p1 : Int32} {C : Mm} {r0 : Int32} (h : fX4_figureAt p0 p1 = some r0) : Met l yX4_figureAt (wsy yX4_figureAt cX4_figureAt 2 (some .int)) (rmv 0 0) (va_Pc [.int p0, .int p1] (Rl G (C, Rm))) (Qi G PT r0 (C, Rm)) 0 0 (lwA G) := by
  refine met_i [.int p0, .int p1] wX4_figureAt.2.2.2.2 (Nat.le_of_ble_eq_true rfl) ?_
  intro p e s m args below meth c ls hC hr hP hl
  have hC : Cx G p s m args meth c cX4_figureAt RX4 2 := hC
  have hx := hC.1
  have hb := hC.2.1
  have hown := hC.2.2.2.1
  have hts := hC.2.2.2.2.1
  have hS : va_S (lwA G) s.heap s.heap [] := va_S.rf
  have hl : lv_has ls 2 [(0, .int p0), (1, .int p1)] := hl
  unfold fX4_figureAt at h
  refine lv_iload_n hx hb dX4_figureAt_0 rfl (lv_at hl 1 rfl) ?_
  refine lv_if_lt (tgt := 12) hx hb dX4_figureAt_1 (by decide) (fun c1 => ?_) (fun c1 => ?_)
  · replace h := it_t c1 h
    refine lv_iconst (v := 0) hx hb dX4_figureAt_12 (by decide) ?_
    refine lv_goto (tgt := 26) hx hb dX4_figureAt_13 (by decide) ?_
    exact re_i' hC hr hP hS (Option.some.inj h) rfl dX4_figureAt_26
  · replace h := it_f c1 h
    refine lv_iload_n hx hb dX4_figureAt_4 rfl (lv_at hl 1 rfl) ?_
    refine r_gets hC hS (hC.2.2.2.2.2.2.2.2.1.2.2.2.2.1.1) k500 dX4_figureAt_5 ?_
    refine r_tlen hC hS (hC.2.2.2.2.2.2.2.2.1.2.2.2.2.1.2) (v := 10) (by decide) dX4_figureAt_8 ?_
    refine lv_icmp_lt (tgt := 16) hx hb dX4_figureAt_9 (by decide) (fun c2 => ?_) (fun c2 => ?_)
    · replace h := it_t c2 h
      refine lv_iload_n hx hb dX4_figureAt_16 rfl (lv_at hl 0 rfl) ?_
      refine r_gets hC hS (hC.2.2.2.2.2.2.2.2.1.2.2.2.2.1.1) k500 dX4_figureAt_17 ?_
      refine lv_iload_n hx hb dX4_figureAt_20 rfl (lv_at hl 1 rfl) ?_
      by_cases c3 : p1 < (0 : Int32) ∨ 10 ≤ Int32.toNatClampNeg p1
      · cases it_t c3 h
      replace h := it_f c3 h
      refine r_ti hC hS (hC.2.2.2.2.2.2.2.2.1.2.2.2.2.1.2) c3 dX4_figureAt_21 ?_
      by_cases c4 : (stv4 (Int32.toNatClampNeg p1)) = 0
      · cases it_t c4 h
      replace h := it_f c4 h
      refine lv_idiv hx hb dX4_figureAt_22 c4 ?_
      refine lv_bipush (v := 10) hx hb dX4_figureAt_23 (by decide) ?_
      refine r_irem hx hb dX4_figureAt_25 (by decide) ?_
      exact re_i' hC hr hP hS (Option.some.inj h) rfl dX4_figureAt_26
    · replace h := it_f c2 h
      refine lv_iconst (v := 0) hx hb dX4_figureAt_12 (by decide) ?_
      refine lv_goto (tgt := 26) hx hb dX4_figureAt_13 (by decide) ?_
      exact re_i' hC hr hP hS (Option.some.inj h) rfl dX4_figureAt_26
set_option maxHeartbeats 4000000 in
set_option maxRecDepth 100000 in
theorem mX2_undoable (l : Launch) (G : gp) (Rm : Mm) {C : Mm} {r0 : Int32} (h : fX2_undoable C = r0) : Met l yX2_undoable (wsy yX2_undoable cX2_undoable 1 (some .int)) (rmv 0 0) (va_Pc [.ref (gA G 51)] (Rl G (C, Rm))) (Qi G PT r0 (C, Rm)) 0 0 (lwA G) := by
  refine met_i [.ref (gA G 51)] wX2_undoable.2.2.2.2.2 (Nat.le_of_ble_eq_true rfl) ?_
  intro p e s m args below meth c ls hC hr hP hl
  have hC : Cx G p s m args meth c cX2_undoable RX2 1 := hC
  have hx := hC.1
  have hb := hC.2.1
  have hown := hC.2.2.2.1
  have hts := hC.2.2.2.2.1
  have hS : va_S (lwA G) s.heap s.heap [] := va_S.rf
  have hl : lv_has ls 1 [(0, .ref (gA G 51))] := hl
  unfold fX2_undoable at h
  refine lv_aload_n hx hb dX2_undoable_0 rfl (lv_at hl 0 rfl) ?_
  refine r_get (v := .int (C.1 51 4)) hC inX2 hP (e_51 G _) rfl 4 (by decide) rfl k174 rfl dX2_undoable_1 ?_
  exact re_i' hC hr hP hS h rfl dX2_undoable_4
set_option maxHeartbeats 4000000 in
set_option maxRecDepth 100000 in
theorem mX2_redoable (l : Launch) (G : gp) (Rm : Mm) {C : Mm} {r0 : Int32} (h : fX2_redoable C = r0) : Met l yX2_redoable (wsy yX2_redoable cX2_redoable 1 (some .int)) (rmv 0 0) (va_Pc [.ref (gA G 51)] (Rl G (C, Rm))) (Qi G PT r0 (C, Rm)) 0 0 (lwA G) := by
  refine met_i [.ref (gA G 51)] wX2_redoable.2.2.2.2.2 (Nat.le_of_ble_eq_true rfl) ?_
  intro p e s m args below meth c ls hC hr hP hl
  have hC : Cx G p s m args meth c cX2_redoable RX2 1 := hC
  have hx := hC.1
  have hb := hC.2.1
  have hown := hC.2.2.2.1
  have hts := hC.2.2.2.2.1
  have hS : va_S (lwA G) s.heap s.heap [] := va_S.rf
  have hl : lv_has ls 1 [(0, .ref (gA G 51))] := hl
  unfold fX2_redoable at h
  refine lv_aload_n hx hb dX2_redoable_0 rfl (lv_at hl 0 rfl) ?_
  refine r_get (v := .int (C.1 51 5)) hC inX2 hP (e_51 G _) rfl 5 (by decide) rfl k175 rfl dX2_redoable_1 ?_
  refine lv_aload_n hx hb dX2_redoable_4 rfl (lv_at hl 0 rfl) ?_
  refine r_get (v := .int (C.1 51 4)) hC inX2 hP (e_51 G _) rfl 4 (by decide) rfl k174 rfl dX2_redoable_5 ?_
  refine lv_isub hx hb dX2_redoable_8 ?_
  exact re_i' hC hr hP hS h rfl dX2_redoable_9
set_option maxHeartbeats 4000000 in
set_option maxRecDepth 100000 in
theorem mX2_forgetOldest (l : Launch) (G : gp) (Rm : Mm) {C : Mm} {C0 : Mm} (h : fX2_forgetOldest C = some C0) : Met l yX2_forgetOldest (wsy yX2_forgetOldest cX2_forgetOldest 1 none) (rmv 1 40) (va_Pc [.ref (gA G 51)] (Rl G (C, Rm))) (Qv G (C0, Rm)) 0 0 (lwA G) := by
  refine met_i [.ref (gA G 51)] wX2_forgetOldest.2.2.2.2.2 (Nat.le_of_ble_eq_true rfl) ?_
  intro p e s m args below meth c ls hC hr hP hl
  have hC : Cx G p s m args meth c cX2_forgetOldest RX2 1 := hC
  have hx := hC.1
  have hb := hC.2.1
  have hown := hC.2.2.2.1
  have hts := hC.2.2.2.2.1
  have hS : va_S (lwA G) s.heap s.heap [] := va_S.rf
  have hl : lv_has ls 1 [(0, .ref (gA G 51))] := hl
  unfold fX2_forgetOldest at h
  refine lv_aload_n hx hb dX2_forgetOldest_0 rfl (lv_at hl 0 rfl) ?_
  refine lv_bipush (v := 39) hx hb dX2_forgetOldest_1 (by decide) ?_
  obtain ⟨C1, eC1⟩ : ∃ Z : Mm, Z = wrI C 51 4 39 := ⟨_, rfl⟩
  replace h := lt_y eC1 h
  refine r_put (X' := (C1, Rm)) hC inX2 tyX2 tyX2_ok nmX2 hP hS (e_51 G _) rfl 4 (by decide) rfl k174 rfl (v := .int 39) rfl rfl (Nat.le_of_ble_eq_true rfl) (p_51_4 G _ _ eC1) dX2_forgetOldest_3 (fun H locs hP hS => ?_)
  refine lv_aload_n hx hb dX2_forgetOldest_6 rfl (lv_at hl 0 rfl) ?_
  refine r_get (v := .ref (gA G 52)) hC inX2 hP (e_51 G _) rfl 0 (by decide) rfl k170 rfl dX2_forgetOldest_7 ?_
  refine lv_iconst (v := 1) hx hb dX2_forgetOldest_10 (by decide) ?_
  refine lv_aload_n hx hb dX2_forgetOldest_11 rfl (lv_at hl 0 rfl) ?_
  refine r_get (v := .ref (gA G 52)) hC inX2 hP (e_51 G _) rfl 0 (by decide) rfl k170 rfl dX2_forgetOldest_12 ?_
  refine lv_iconst (v := 0) hx hb dX2_forgetOldest_15 (by decide) ?_
  refine lv_aload_n hx hb dX2_forgetOldest_16 rfl (lv_at hl 0 rfl) ?_
  refine r_get (v := .int (C1.1 51 4)) hC inX2 hP (e_51 G _) rfl 4 (by decide) rfl k174 rfl dX2_forgetOldest_17 ?_
  by_cases c2 : 1 < (0 : Int32) ∨ 0 < (0 : Int32) ∨ (C1.1 51 4) < (0 : Int32) ∨ 40 < (Int32.toNatClampNeg 1) + (Int32.toNatClampNeg (C1.1 51 4)) ∨ 40 < (Int32.toNatClampNeg 0) + (Int32.toNatClampNeg (C1.1 51 4))
  · cases it_t c2 h
  replace h := it_f c2 h
  obtain ⟨C3, eC3⟩ : ∃ Z : Mm, Z = cpI C1 52 (Int32.toNatClampNeg 1) 52 (Int32.toNatClampNeg 0) (Int32.toNatClampNeg (C1.1 51 4)) := ⟨_, rfl⟩
  replace h := lt_y eC3 h
  refine r_cpI (X' := (C3, Rm)) hC (rest := []) k361 k331 k330 k12 hl.1 hP hS (e_52 G _) (e_52 G _) c2 (ac_52 G _ _ _ _ _ _ eC3) (by decide) (Nat.le_of_ble_eq_true rfl) dX2_forgetOldest_20 (fun H locs hP hS => ?_)
  refine lv_aload_n hx hb dX2_forgetOldest_23 rfl (lv_at hl 0 rfl) ?_
  refine r_get (v := .ref (gA G 53)) hC inX2 hP (e_51 G _) rfl 1 (by decide) rfl k171 rfl dX2_forgetOldest_24 ?_
  refine lv_iconst (v := 1) hx hb dX2_forgetOldest_27 (by decide) ?_
  refine lv_aload_n hx hb dX2_forgetOldest_28 rfl (lv_at hl 0 rfl) ?_
  refine r_get (v := .ref (gA G 53)) hC inX2 hP (e_51 G _) rfl 1 (by decide) rfl k171 rfl dX2_forgetOldest_29 ?_
  refine lv_iconst (v := 0) hx hb dX2_forgetOldest_32 (by decide) ?_
  refine lv_aload_n hx hb dX2_forgetOldest_33 rfl (lv_at hl 0 rfl) ?_
  refine r_get (v := .int (C3.1 51 4)) hC inX2 hP (e_51 G _) rfl 4 (by decide) rfl k174 rfl dX2_forgetOldest_34 ?_
  by_cases c4 : 1 < (0 : Int32) ∨ 0 < (0 : Int32) ∨ (C3.1 51 4) < (0 : Int32) ∨ 40 < (Int32.toNatClampNeg 1) + (Int32.toNatClampNeg (C3.1 51 4)) ∨ 40 < (Int32.toNatClampNeg 0) + (Int32.toNatClampNeg (C3.1 51 4))
  · cases it_t c4 h
  replace h := it_f c4 h
  obtain ⟨C5, eC5⟩ : ∃ Z : Mm, Z = cpI C3 53 (Int32.toNatClampNeg 1) 53 (Int32.toNatClampNeg 0) (Int32.toNatClampNeg (C3.1 51 4)) := ⟨_, rfl⟩
  replace h := lt_y eC5 h
  refine r_cpI (X' := (C5, Rm)) hC (rest := []) k361 k331 k330 k12 hl.1 hP hS (e_53 G _) (e_53 G _) c4 (ac_53 G _ _ _ _ _ _ eC5) (by decide) (Nat.le_of_ble_eq_true rfl) dX2_forgetOldest_37 (fun H locs hP hS => ?_)
  refine lv_aload_n hx hb dX2_forgetOldest_40 rfl (lv_at hl 0 rfl) ?_
  refine r_get (v := .ref (gA G 54)) hC inX2 hP (e_51 G _) rfl 2 (by decide) rfl k172 rfl dX2_forgetOldest_41 ?_
  refine lv_iconst (v := 1) hx hb dX2_forgetOldest_44 (by decide) ?_
  refine lv_aload_n hx hb dX2_forgetOldest_45 rfl (lv_at hl 0 rfl) ?_
  refine r_get (v := .ref (gA G 54)) hC inX2 hP (e_51 G _) rfl 2 (by decide) rfl k172 rfl dX2_forgetOldest_46 ?_
  refine lv_iconst (v := 0) hx hb dX2_forgetOldest_49 (by decide) ?_
  refine lv_aload_n hx hb dX2_forgetOldest_50 rfl (lv_at hl 0 rfl) ?_
  refine r_get (v := .int (C5.1 51 4)) hC inX2 hP (e_51 G _) rfl 4 (by decide) rfl k174 rfl dX2_forgetOldest_51 ?_
  by_cases c6 : 1 < (0 : Int32) ∨ 0 < (0 : Int32) ∨ (C5.1 51 4) < (0 : Int32) ∨ 40 < (Int32.toNatClampNeg 1) + (Int32.toNatClampNeg (C5.1 51 4)) ∨ 40 < (Int32.toNatClampNeg 0) + (Int32.toNatClampNeg (C5.1 51 4))
  · cases it_t c6 h
  replace h := it_f c6 h
  obtain ⟨C7, eC7⟩ : ∃ Z : Mm, Z = cpI C5 54 (Int32.toNatClampNeg 1) 54 (Int32.toNatClampNeg 0) (Int32.toNatClampNeg (C5.1 51 4)) := ⟨_, rfl⟩
  replace h := lt_y eC7 h
  refine r_cpI (X' := (C7, Rm)) hC (rest := []) k361 k331 k330 k12 hl.1 hP hS (e_54 G _) (e_54 G _) c6 (ac_54 G _ _ _ _ _ _ eC7) (by decide) (Nat.le_of_ble_eq_true rfl) dX2_forgetOldest_54 (fun H locs hP hS => ?_)
  refine lv_aload_n hx hb dX2_forgetOldest_57 rfl (lv_at hl 0 rfl) ?_
  refine r_get (v := .ref (gA G 55)) hC inX2 hP (e_51 G _) rfl 3 (by decide) rfl k173 rfl dX2_forgetOldest_58 ?_
  refine lv_iconst (v := 1) hx hb dX2_forgetOldest_61 (by decide) ?_
  refine lv_aload_n hx hb dX2_forgetOldest_62 rfl (lv_at hl 0 rfl) ?_
  refine r_get (v := .ref (gA G 55)) hC inX2 hP (e_51 G _) rfl 3 (by decide) rfl k173 rfl dX2_forgetOldest_63 ?_
  refine lv_iconst (v := 0) hx hb dX2_forgetOldest_66 (by decide) ?_
  refine lv_aload_n hx hb dX2_forgetOldest_67 rfl (lv_at hl 0 rfl) ?_
  refine r_get (v := .int (C7.1 51 4)) hC inX2 hP (e_51 G _) rfl 4 (by decide) rfl k174 rfl dX2_forgetOldest_68 ?_
  by_cases c8 : 1 < (0 : Int32) ∨ 0 < (0 : Int32) ∨ (C7.1 51 4) < (0 : Int32) ∨ 40 < (Int32.toNatClampNeg 1) + (Int32.toNatClampNeg (C7.1 51 4)) ∨ 40 < (Int32.toNatClampNeg 0) + (Int32.toNatClampNeg (C7.1 51 4))
  · cases it_t c8 h
  replace h := it_f c8 h
  obtain ⟨C9, eC9⟩ : ∃ Z : Mm, Z = cpI C7 55 (Int32.toNatClampNeg 1) 55 (Int32.toNatClampNeg 0) (Int32.toNatClampNeg (C7.1 51 4)) := ⟨_, rfl⟩
  replace h := lt_y eC9 h
  refine r_cpI (X' := (C9, Rm)) hC (rest := []) k361 k331 k330 k12 hl.1 hP hS (e_55 G _) (e_55 G _) c8 (ac_55 G _ _ _ _ _ _ eC9) (by decide) (Nat.le_of_ble_eq_true rfl) dX2_forgetOldest_71 (fun H locs hP hS => ?_)
  exact re_v' hC hr hP hS (congrArg (fun Z : Mm => (Z, Rm)) (Option.some.inj h)) dX2_forgetOldest_74
set_option maxHeartbeats 4000000 in
set_option maxRecDepth 100000 in
theorem mX2_came (l : Launch) (G : gp) (Rm : Mm) {p1 : Int32} {p2 : Int32} {p3 : Int32} {p4 : Int32} {C : Mm} {C0 : Mm} (h : fX2_came p1 p2 p3 p4 C = some C0) : Met l yX2_came (wsy yX2_came cX2_came 5 none) (rmv 2 60) (va_Pc [.ref (gA G 51), .int p1, .int p2, .int p3, .int p4] (Rl G (C, Rm))) (Qv G (C0, Rm)) 0 0 (lwA G) := by
  refine met_i [.ref (gA G 51), .int p1, .int p2, .int p3, .int p4] wX2_came.2.2.2.2.2 (Nat.le_of_ble_eq_true rfl) ?_
  intro p e s m args below meth c ls hC hr hP hl
  have hC : Cx G p s m args meth c cX2_came RX2 5 := hC
  have hx := hC.1
  have hb := hC.2.1
  have hown := hC.2.2.2.1
  have hts := hC.2.2.2.2.1
  have hS : va_S (lwA G) s.heap s.heap [] := va_S.rf
  have hl : lv_has ls 5 [(0, .ref (gA G 51)), (1, .int p1), (2, .int p2), (3, .int p3), (4, .int p4)] := hl
  have bl13 : ∀ (y1 : Int32) (y2 : Int32) (y3 : Int32) (y4 : Int32) (C : Mm) (H : Heap) (locs : List Loc) (ls : Array Slot), fX2_came_b13 y1 y2 y3 y4 C = some C0 → lv_has ls 5 [(0, .ref (gA G 51)), (1, .int y1), (2, .int y2), (3, .int y3), (4, .int y4)] → va_P (gD G) vwCl (wld G (C, Rm)) H → va_S (lwA G) s.heap H locs → W p l e (rmv 2 60) s m args below meth c H locs 0 0 (MQ below (Qv G (C0, Rm)) args s 0 0 (lwA G)) (F0 m 13 ls []) := by
    intro y1 y2 y3 y4 C H locs ls h hl hP hS
    unfold fX2_came_b13 at h
    refine lv_aload_n hx hb dX2_came_13 rfl (lv_at hl 0 rfl) ?_
    refine r_get (v := .ref (gA G 52)) hC inX2 hP (e_51 G _) rfl 0 (by decide) rfl k170 rfl dX2_came_14 ?_
    refine lv_aload_n hx hb dX2_came_17 rfl (lv_at hl 0 rfl) ?_
    refine r_get (v := .int (C.1 51 4)) hC inX2 hP (e_51 G _) rfl 4 (by decide) rfl k174 rfl dX2_came_18 ?_
    refine lv_iload_n hx hb dX2_came_21 rfl (lv_at hl 1 rfl) ?_
    by_cases c1 : (C.1 51 4) < (0 : Int32) ∨ 40 ≤ Int32.toNatClampNeg (C.1 51 4)
    · cases it_t c1 h
    replace h := it_f c1 h
    obtain ⟨C2, eC2⟩ : ∃ Z : Mm, Z = wrI C 52 (Int32.toNatClampNeg (C.1 51 4)) y1 := ⟨_, rfl⟩
    replace h := lt_y eC2 h
    refine r_iast (X' := (C2, Rm)) hC hP hS (e_52 G _) c1 (a_52 G _ _ _ _ eC2) dX2_came_22 (fun H locs hP hS => ?_)
    refine lv_aload_n hx hb dX2_came_23 rfl (lv_at hl 0 rfl) ?_
    refine r_get (v := .ref (gA G 53)) hC inX2 hP (e_51 G _) rfl 1 (by decide) rfl k171 rfl dX2_came_24 ?_
    refine lv_aload_n hx hb dX2_came_27 rfl (lv_at hl 0 rfl) ?_
    refine r_get (v := .int (C2.1 51 4)) hC inX2 hP (e_51 G _) rfl 4 (by decide) rfl k174 rfl dX2_came_28 ?_
    refine lv_iload_n hx hb dX2_came_31 rfl (lv_at hl 2 rfl) ?_
    by_cases c3 : (C2.1 51 4) < (0 : Int32) ∨ 40 ≤ Int32.toNatClampNeg (C2.1 51 4)
    · cases it_t c3 h
    replace h := it_f c3 h
    obtain ⟨C4, eC4⟩ : ∃ Z : Mm, Z = wrI C2 53 (Int32.toNatClampNeg (C2.1 51 4)) y2 := ⟨_, rfl⟩
    replace h := lt_y eC4 h
    refine r_iast (X' := (C4, Rm)) hC hP hS (e_53 G _) c3 (a_53 G _ _ _ _ eC4) dX2_came_32 (fun H locs hP hS => ?_)
    refine lv_aload_n hx hb dX2_came_33 rfl (lv_at hl 0 rfl) ?_
    refine r_get (v := .ref (gA G 54)) hC inX2 hP (e_51 G _) rfl 2 (by decide) rfl k172 rfl dX2_came_34 ?_
    refine lv_aload_n hx hb dX2_came_37 rfl (lv_at hl 0 rfl) ?_
    refine r_get (v := .int (C4.1 51 4)) hC inX2 hP (e_51 G _) rfl 4 (by decide) rfl k174 rfl dX2_came_38 ?_
    refine lv_iload_n hx hb dX2_came_41 rfl (lv_at hl 3 rfl) ?_
    by_cases c5 : (C4.1 51 4) < (0 : Int32) ∨ 40 ≤ Int32.toNatClampNeg (C4.1 51 4)
    · cases it_t c5 h
    replace h := it_f c5 h
    obtain ⟨C6, eC6⟩ : ∃ Z : Mm, Z = wrI C4 54 (Int32.toNatClampNeg (C4.1 51 4)) y3 := ⟨_, rfl⟩
    replace h := lt_y eC6 h
    refine r_iast (X' := (C6, Rm)) hC hP hS (e_54 G _) c5 (a_54 G _ _ _ _ eC6) dX2_came_42 (fun H locs hP hS => ?_)
    refine lv_aload_n hx hb dX2_came_43 rfl (lv_at hl 0 rfl) ?_
    refine r_get (v := .ref (gA G 55)) hC inX2 hP (e_51 G _) rfl 3 (by decide) rfl k173 rfl dX2_came_44 ?_
    refine lv_aload_n hx hb dX2_came_47 rfl (lv_at hl 0 rfl) ?_
    refine r_get (v := .int (C6.1 51 4)) hC inX2 hP (e_51 G _) rfl 4 (by decide) rfl k174 rfl dX2_came_48 ?_
    refine lv_iload hx hb dX2_came_51 (lv_at hl 4 rfl) ?_
    by_cases c7 : (C6.1 51 4) < (0 : Int32) ∨ 40 ≤ Int32.toNatClampNeg (C6.1 51 4)
    · cases it_t c7 h
    replace h := it_f c7 h
    obtain ⟨C8, eC8⟩ : ∃ Z : Mm, Z = wrI C6 55 (Int32.toNatClampNeg (C6.1 51 4)) y4 := ⟨_, rfl⟩
    replace h := lt_y eC8 h
    refine r_iast (X' := (C8, Rm)) hC hP hS (e_55 G _) c7 (a_55 G _ _ _ _ eC8) dX2_came_53 (fun H locs hP hS => ?_)
    refine lv_aload_n hx hb dX2_came_54 rfl (lv_at hl 0 rfl) ?_
    refine lv_dup hx hb dX2_came_55 rfl ?_
    refine r_get (v := .int (C8.1 51 4)) hC inX2 hP (e_51 G _) rfl 4 (by decide) rfl k174 rfl dX2_came_56 ?_
    refine lv_iconst (v := 1) hx hb dX2_came_59 (by decide) ?_
    refine lv_iadd hx hb dX2_came_60 ?_
    obtain ⟨C9, eC9⟩ : ∃ Z : Mm, Z = wrI C8 51 4 ((C8.1 51 4) + 1) := ⟨_, rfl⟩
    replace h := lt_y eC9 h
    refine r_put (X' := (C9, Rm)) hC inX2 tyX2 tyX2_ok nmX2 hP hS (e_51 G _) rfl 4 (by decide) rfl k174 rfl (v := .int ((C8.1 51 4) + 1)) rfl rfl (Nat.le_of_ble_eq_true rfl) (p_51_4 G _ _ eC9) dX2_came_61 (fun H locs hP hS => ?_)
    refine lv_aload_n hx hb dX2_came_64 rfl (lv_at hl 0 rfl) ?_
    refine lv_aload_n hx hb dX2_came_65 rfl (lv_at hl 0 rfl) ?_
    refine r_get (v := .int (C9.1 51 4)) hC inX2 hP (e_51 G _) rfl 4 (by decide) rfl k174 rfl dX2_came_66 ?_
    obtain ⟨C10, eC10⟩ : ∃ Z : Mm, Z = wrI C9 51 5 (C9.1 51 4) := ⟨_, rfl⟩
    replace h := lt_y eC10 h
    refine r_put (X' := (C10, Rm)) hC inX2 tyX2 tyX2_ok nmX2 hP hS (e_51 G _) rfl 5 (by decide) rfl k175 rfl (v := .int (C9.1 51 4)) rfl rfl (Nat.le_of_ble_eq_true rfl) (p_51_5 G _ _ eC10) dX2_came_69 (fun H locs hP hS => ?_)
    exact re_v' hC hr hP hS (congrArg (fun Z : Mm => (Z, Rm)) (Option.some.inj h)) dX2_came_72
  unfold fX2_came at h
  refine lv_aload_n hx hb dX2_came_0 rfl (lv_at hl 0 rfl) ?_
  refine r_get (v := .int (C.1 51 4)) hC inX2 hP (e_51 G _) rfl 4 (by decide) rfl k174 rfl dX2_came_1 ?_
  refine lv_bipush (v := 40) hx hb dX2_came_4 (by decide) ?_
  refine lv_icmp_lt (tgt := 13) hx hb dX2_came_6 (by decide) (fun c11 => ?_) (fun c11 => ?_)
  · replace h := it_t c11 h
    exact bl13 p1 p2 p3 p4 C _ _ _ h (lv_sub hl [0, 1, 2, 3, 4] rfl) hP hS
  · replace h := it_f c11 h
    refine lv_aload_n hx hb dX2_came_9 rfl (lv_at hl 0 rfl) ?_
    obtain ⟨C13, hq12, h⟩ := bn_x h
    refine rc_v hS (run_V hC wX2_forgetOldest k357 (e_51 G _) rfl hP hS (As := []) (rest := []) (mX2_forgetOldest l G Rm hq12) rfl hl.1 (Nat.le_of_ble_eq_true rfl) ⟨by decide, by decide⟩ ⟨Nat.le_refl _, Nat.le_refl _⟩ rfl dX2_came_10) (fun H locs hP hS => ?_)
    exact bl13 p1 p2 p3 p4 C13 _ _ _ h (lv_sub hl [0, 1, 2, 3, 4] rfl) hP hS
set_option maxHeartbeats 4000000 in
set_option maxRecDepth 100000 in
theorem mX5_setNumber (l : Launch) (G : gp) (Rm : Mm) {j0 : Nat} (hj0 : j0 < 7) {p1 : Int32} {p2 : Int32} {C : Mm} {C0 : Mm} (h : fX5_setNumber j0 p1 p2 C = some C0) : Met l yX5_setNumber (wsy yX5_setNumber cX5_setNumber 3 none) (rmv 0 0) (va_Pc [.ref (gA G (hdc j0)), .int p1, .int p2] (Rl G (C, Rm))) (Qv G (C0, Rm)) 0 0 (lwA G) := by
  refine met_i [.ref (gA G (hdc j0)), .int p1, .int p2] wX5_setNumber.2.2.2.2.2 (Nat.le_of_ble_eq_true rfl) ?_
  intro p e s m args below meth c ls hC hr hP hl
  have hC : Cx G p s m args meth c cX5_setNumber RX5 3 := hC
  have hx := hC.1
  have hb := hC.2.1
  have hown := hC.2.2.2.1
  have hts := hC.2.2.2.2.1
  have hS : va_S (lwA G) s.heap s.heap [] := va_S.rf
  have hl : lv_has ls 3 [(0, .ref (gA G (hdc j0))), (1, .int p1), (2, .int p2)] := hl
  unfold fX5_setNumber at h
  refine lv_iload_n hx hb dX5_setNumber_0 rfl (lv_at hl 1 rfl) ?_
  refine lv_if_lt (tgt := 16) hx hb dX5_setNumber_1 (by decide) (fun c1 => ?_) (fun c1 => ?_)
  · replace h := it_t c1 h
    exact re_v' hC hr hP hS (congrArg (fun Z : Mm => (Z, Rm)) (Option.some.inj h)) dX5_setNumber_16
  · replace h := it_f c1 h
    refine lv_iload_n hx hb dX5_setNumber_4 rfl (lv_at hl 1 rfl) ?_
    refine lv_iconst (v := 5) hx hb dX5_setNumber_5 (by decide) ?_
    refine lv_icmp_ge (tgt := 16) hx hb dX5_setNumber_6 (by decide) (fun c2 => ?_) (fun c2 => ?_)
    · replace h := it_t c2 h
      exact re_v' hC hr hP hS (congrArg (fun Z : Mm => (Z, Rm)) (Option.some.inj h)) dX5_setNumber_16
    · replace h := it_f c2 h
      refine lv_aload_n hx hb dX5_setNumber_9 rfl (lv_at hl 0 rfl) ?_
      refine r_get (v := .ref (gA G (hdn j0))) hC inX5 hP (e_hc G _ hj0) rfl 0 (by decide) rfl k44 rfl dX5_setNumber_10 ?_
      refine lv_iload_n hx hb dX5_setNumber_13 rfl (lv_at hl 1 rfl) ?_
      refine lv_iload_n hx hb dX5_setNumber_14 rfl (lv_at hl 2 rfl) ?_
      by_cases c3 : p1 < (0 : Int32) ∨ 5 ≤ Int32.toNatClampNeg p1
      · cases it_t c3 h
      replace h := it_f c3 h
      obtain ⟨C4, eC4⟩ : ∃ Z : Mm, Z = wrI C (hdn j0) (Int32.toNatClampNeg p1) p2 := ⟨_, rfl⟩
      replace h := lt_y eC4 h
      refine r_iast (X' := (C4, Rm)) hC hP hS (e_hn G _ hj0) c3 (a_hn G _ _ hj0 _ _ eC4) dX5_setNumber_15 (fun H locs hP hS => ?_)
      exact re_v' hC hr hP hS (congrArg (fun Z : Mm => (Z, Rm)) (Option.some.inj h)) dX5_setNumber_16
set_option maxHeartbeats 4000000 in
set_option maxRecDepth 100000 in
theorem mX2_apply (l : Launch) (G : gp) (Rm : Mm) {p2 : Int32} {p3 : Int32} {C : Mm} {C0 : Mm} (h : fX2_apply p2 p3 C = some C0) : Met l yX2_apply (wsy yX2_apply cX2_apply 4 none) (rmv 1 22) (va_Pc [.ref (gA G 51), .ref (gA G 3), .int p2, .int p3] (Rl G (C, Rm))) (Qv G (C0, Rm)) 0 0 (lwA G) := by
  refine met_i [.ref (gA G 51), .ref (gA G 3), .int p2, .int p3] wX2_apply.2.2.2.2.2 (Nat.le_of_ble_eq_true rfl) ?_
  intro p e s m args below meth c ls hC hr hP hl
  have hC : Cx G p s m args meth c cX2_apply RX2 4 := hC
  have hx := hC.1
  have hb := hC.2.1
  have hown := hC.2.2.2.1
  have hts := hC.2.2.2.2.1
  have hS : va_S (lwA G) s.heap s.heap [] := va_S.rf
  have hl : lv_has ls 4 [(0, .ref (gA G 51)), (1, .ref (gA G 3)), (2, .int p2), (3, .int p3)] := hl
  unfold fX2_apply at h
  refine lv_aload_n hx hb dX2_apply_0 rfl (lv_at hl 0 rfl) ?_
  refine r_get (v := .ref (gA G 52)) hC inX2 hP (e_51 G _) rfl 0 (by decide) rfl k170 rfl dX2_apply_1 ?_
  refine lv_iload_n hx hb dX2_apply_4 rfl (lv_at hl 2 rfl) ?_
  by_cases c1 : p2 < (0 : Int32) ∨ 40 ≤ Int32.toNatClampNeg p2
  · cases it_t c1 h
  replace h := it_f c1 h
  refine r_iald hC hP (f := C.1 52) (e_52 G _) c1 dX2_apply_5 ?_
  refine lv_if_lt (tgt := 38) hx hb dX2_apply_6 (by decide) (fun c2 => ?_) (fun c2 => ?_)
  · replace h := it_t c2 h
    exact re_v' hC hr hP hS (congrArg (fun Z : Mm => (Z, Rm)) (Option.some.inj h)) dX2_apply_38
  · replace h := it_f c2 h
    refine lv_aload_n hx hb dX2_apply_9 rfl (lv_at hl 0 rfl) ?_
    refine r_get (v := .ref (gA G 52)) hC inX2 hP (e_51 G _) rfl 0 (by decide) rfl k170 rfl dX2_apply_10 ?_
    refine lv_iload_n hx hb dX2_apply_13 rfl (lv_at hl 2 rfl) ?_
    by_cases c3 : p2 < (0 : Int32) ∨ 40 ≤ Int32.toNatClampNeg p2
    · cases it_t c3 h
    replace h := it_f c3 h
    refine r_iald hC hP (f := C.1 52) (e_52 G _) c3 dX2_apply_14 ?_
    refine lv_aload_n hx hb dX2_apply_15 rfl (lv_at hl 1 rfl) ?_
    refine r_alen hC hP 2 (e_3 G _) rfl (v := 6) rfl dX2_apply_16 ?_
    refine lv_icmp_ge (tgt := 38) hx hb dX2_apply_17 (by decide) (fun c4 => ?_) (fun c4 => ?_)
    · replace h := it_t c4 h
      exact re_v' hC hr hP hS (congrArg (fun Z : Mm => (Z, Rm)) (Option.some.inj h)) dX2_apply_38
    · replace h := it_f c4 h
      refine lv_aload_n hx hb dX2_apply_20 rfl (lv_at hl 1 rfl) ?_
      refine lv_aload_n hx hb dX2_apply_21 rfl (lv_at hl 0 rfl) ?_
      refine r_get (v := .ref (gA G 52)) hC inX2 hP (e_51 G _) rfl 0 (by decide) rfl k170 rfl dX2_apply_22 ?_
      refine lv_iload_n hx hb dX2_apply_25 rfl (lv_at hl 2 rfl) ?_
      by_cases c5 : p2 < (0 : Int32) ∨ 40 ≤ Int32.toNatClampNeg p2
      · cases it_t c5 h
      replace h := it_f c5 h
      refine r_iald hC hP (f := C.1 52) (e_52 G _) c5 dX2_apply_26 ?_
      by_cases c6 : (C.1 52 (Int32.toNatClampNeg p2)) < (0 : Int32) ∨ 6 ≤ Int32.toNatClampNeg (C.1 52 (Int32.toNatClampNeg p2))
      · cases it_t c6 h
      replace h := it_f c6 h
      refine r_hd hC hP c6 dX2_apply_27 (fun hj7 => ?_)
      refine lv_aload_n hx hb dX2_apply_28 rfl (lv_at hl 0 rfl) ?_
      refine r_get (v := .ref (gA G 53)) hC inX2 hP (e_51 G _) rfl 1 (by decide) rfl k171 rfl dX2_apply_29 ?_
      refine lv_iload_n hx hb dX2_apply_32 rfl (lv_at hl 2 rfl) ?_
      by_cases c8 : p2 < (0 : Int32) ∨ 40 ≤ Int32.toNatClampNeg p2
      · cases it_t c8 h
      replace h := it_f c8 h
      refine r_iald hC hP (f := C.1 53) (e_53 G _) c8 dX2_apply_33 ?_
      refine lv_iload_n hx hb dX2_apply_34 rfl (lv_at hl 3 rfl) ?_
      obtain ⟨C10, hq9, h⟩ := bn_x h
      refine rc_v hS (run_V hC wX5_setNumber k890 (e_hc G _ (Nat.lt_trans hj7 (by decide))) rfl hP hS (As := [.int (C.1 53 (Int32.toNatClampNeg p2)), .int p3]) (rest := []) (mX5_setNumber l G Rm (Nat.lt_trans hj7 (by decide)) hq9) rfl hl.1 (Nat.le_of_ble_eq_true rfl) ⟨by decide, by decide⟩ ⟨Nat.le_refl _, Nat.le_refl _⟩ rfl dX2_apply_35) (fun H locs hP hS => ?_)
      exact re_v' hC hr hP hS (congrArg (fun Z : Mm => (Z, Rm)) (Option.some.inj h)) dX2_apply_38
set_option maxHeartbeats 4000000 in
set_option maxRecDepth 100000 in
theorem mX2_stepBack (l : Launch) (G : gp) (Rm : Mm) {C : Mm} {C0 : Mm} (h : fX2_stepBack C = some C0) : Met l yX2_stepBack (wsy yX2_stepBack cX2_stepBack 2 none) (rmv 2 45) (va_Pc [.ref (gA G 51), .ref (gA G 3)] (Rl G (C, Rm))) (Qv G (C0, Rm)) 0 0 (lwA G) := by
  refine met_i [.ref (gA G 51), .ref (gA G 3)] wX2_stepBack.2.2.2.2.2 (Nat.le_of_ble_eq_true rfl) ?_
  intro p e s m args below meth c ls hC hr hP hl
  have hC : Cx G p s m args meth c cX2_stepBack RX2 2 := hC
  have hx := hC.1
  have hb := hC.2.1
  have hown := hC.2.2.2.1
  have hts := hC.2.2.2.2.1
  have hS : va_S (lwA G) s.heap s.heap [] := va_S.rf
  have hl : lv_has ls 2 [(0, .ref (gA G 51)), (1, .ref (gA G 3))] := hl
  unfold fX2_stepBack at h
  refine lv_aload_n hx hb dX2_stepBack_0 rfl (lv_at hl 0 rfl) ?_
  refine r_get (v := .int (C.1 51 4)) hC inX2 hP (e_51 G _) rfl 4 (by decide) rfl k174 rfl dX2_stepBack_1 ?_
  refine lv_if_le (tgt := 35) hx hb dX2_stepBack_4 (by decide) (fun c1 => ?_) (fun c1 => ?_)
  · replace h := it_t c1 h
    exact re_v' hC hr hP hS (congrArg (fun Z : Mm => (Z, Rm)) (Option.some.inj h)) dX2_stepBack_35
  · replace h := it_f c1 h
    refine lv_aload_n hx hb dX2_stepBack_7 rfl (lv_at hl 0 rfl) ?_
    refine lv_dup hx hb dX2_stepBack_8 rfl ?_
    refine r_get (v := .int (C.1 51 4)) hC inX2 hP (e_51 G _) rfl 4 (by decide) rfl k174 rfl dX2_stepBack_9 ?_
    refine lv_iconst (v := 1) hx hb dX2_stepBack_12 (by decide) ?_
    refine lv_isub hx hb dX2_stepBack_13 ?_
    obtain ⟨C2, eC2⟩ : ∃ Z : Mm, Z = wrI C 51 4 ((C.1 51 4) - 1) := ⟨_, rfl⟩
    replace h := lt_y eC2 h
    refine r_put (X' := (C2, Rm)) hC inX2 tyX2 tyX2_ok nmX2 hP hS (e_51 G _) rfl 4 (by decide) rfl k174 rfl (v := .int ((C.1 51 4) - 1)) rfl rfl (Nat.le_of_ble_eq_true rfl) (p_51_4 G _ _ eC2) dX2_stepBack_14 (fun H locs hP hS => ?_)
    refine lv_aload_n hx hb dX2_stepBack_17 rfl (lv_at hl 0 rfl) ?_
    refine lv_aload_n hx hb dX2_stepBack_18 rfl (lv_at hl 1 rfl) ?_
    refine lv_aload_n hx hb dX2_stepBack_19 rfl (lv_at hl 0 rfl) ?_
    refine r_get (v := .int (C2.1 51 4)) hC inX2 hP (e_51 G _) rfl 4 (by decide) rfl k174 rfl dX2_stepBack_20 ?_
    refine lv_aload_n hx hb dX2_stepBack_23 rfl (lv_at hl 0 rfl) ?_
    refine r_get (v := .ref (gA G 54)) hC inX2 hP (e_51 G _) rfl 2 (by decide) rfl k172 rfl dX2_stepBack_24 ?_
    refine lv_aload_n hx hb dX2_stepBack_27 rfl (lv_at hl 0 rfl) ?_
    refine r_get (v := .int (C2.1 51 4)) hC inX2 hP (e_51 G _) rfl 4 (by decide) rfl k174 rfl dX2_stepBack_28 ?_
    by_cases c3 : (C2.1 51 4) < (0 : Int32) ∨ 40 ≤ Int32.toNatClampNeg (C2.1 51 4)
    · cases it_t c3 h
    replace h := it_f c3 h
    refine r_iald hC hP (f := C2.1 54) (e_54 G _) c3 dX2_stepBack_31 ?_
    obtain ⟨C5, hq4, h⟩ := bn_x h
    refine rc_v hS (run_V hC wX2_apply k886 (e_51 G _) rfl hP hS (As := [.ref (gA G 3), .int (C2.1 51 4), .int (C2.1 54 (Int32.toNatClampNeg (C2.1 51 4)))]) (rest := []) (mX2_apply l G Rm hq4) rfl hl.1 (Nat.le_of_ble_eq_true rfl) ⟨by decide, by decide⟩ ⟨Nat.le_refl _, Nat.le_refl _⟩ rfl dX2_stepBack_32) (fun H locs hP hS => ?_)
    exact re_v' hC hr hP hS (congrArg (fun Z : Mm => (Z, Rm)) (Option.some.inj h)) dX2_stepBack_35
set_option maxHeartbeats 4000000 in
set_option maxRecDepth 100000 in
theorem mX2_stepOn (l : Launch) (G : gp) (Rm : Mm) {C : Mm} {C0 : Mm} (h : fX2_stepOn C = some C0) : Met l yX2_stepOn (wsy yX2_stepOn cX2_stepOn 2 none) (rmv 2 45) (va_Pc [.ref (gA G 51), .ref (gA G 3)] (Rl G (C, Rm))) (Qv G (C0, Rm)) 0 0 (lwA G) := by
  refine met_i [.ref (gA G 51), .ref (gA G 3)] wX2_stepOn.2.2.2.2.2 (Nat.le_of_ble_eq_true rfl) ?_
  intro p e s m args below meth c ls hC hr hP hl
  have hC : Cx G p s m args meth c cX2_stepOn RX2 2 := hC
  have hx := hC.1
  have hb := hC.2.1
  have hown := hC.2.2.2.1
  have hts := hC.2.2.2.2.1
  have hS : va_S (lwA G) s.heap s.heap [] := va_S.rf
  have hl : lv_has ls 2 [(0, .ref (gA G 51)), (1, .ref (gA G 3))] := hl
  unfold fX2_stepOn at h
  refine lv_aload_n hx hb dX2_stepOn_0 rfl (lv_at hl 0 rfl) ?_
  refine r_get (v := .int (C.1 51 4)) hC inX2 hP (e_51 G _) rfl 4 (by decide) rfl k174 rfl dX2_stepOn_1 ?_
  refine lv_aload_n hx hb dX2_stepOn_4 rfl (lv_at hl 0 rfl) ?_
  refine r_get (v := .int (C.1 51 5)) hC inX2 hP (e_51 G _) rfl 5 (by decide) rfl k175 rfl dX2_stepOn_5 ?_
  refine lv_icmp_ge (tgt := 39) hx hb dX2_stepOn_8 (by decide) (fun c1 => ?_) (fun c1 => ?_)
  · replace h := it_t c1 h
    exact re_v' hC hr hP hS (congrArg (fun Z : Mm => (Z, Rm)) (Option.some.inj h)) dX2_stepOn_39
  · replace h := it_f c1 h
    refine lv_aload_n hx hb dX2_stepOn_11 rfl (lv_at hl 0 rfl) ?_
    refine lv_aload_n hx hb dX2_stepOn_12 rfl (lv_at hl 1 rfl) ?_
    refine lv_aload_n hx hb dX2_stepOn_13 rfl (lv_at hl 0 rfl) ?_
    refine r_get (v := .int (C.1 51 4)) hC inX2 hP (e_51 G _) rfl 4 (by decide) rfl k174 rfl dX2_stepOn_14 ?_
    refine lv_aload_n hx hb dX2_stepOn_17 rfl (lv_at hl 0 rfl) ?_
    refine r_get (v := .ref (gA G 55)) hC inX2 hP (e_51 G _) rfl 3 (by decide) rfl k173 rfl dX2_stepOn_18 ?_
    refine lv_aload_n hx hb dX2_stepOn_21 rfl (lv_at hl 0 rfl) ?_
    refine r_get (v := .int (C.1 51 4)) hC inX2 hP (e_51 G _) rfl 4 (by decide) rfl k174 rfl dX2_stepOn_22 ?_
    by_cases c2 : (C.1 51 4) < (0 : Int32) ∨ 40 ≤ Int32.toNatClampNeg (C.1 51 4)
    · cases it_t c2 h
    replace h := it_f c2 h
    refine r_iald hC hP (f := C.1 55) (e_55 G _) c2 dX2_stepOn_25 ?_
    obtain ⟨C4, hq3, h⟩ := bn_x h
    refine rc_v hS (run_V hC wX2_apply k886 (e_51 G _) rfl hP hS (As := [.ref (gA G 3), .int (C.1 51 4), .int (C.1 55 (Int32.toNatClampNeg (C.1 51 4)))]) (rest := []) (mX2_apply l G Rm hq3) rfl hl.1 (Nat.le_of_ble_eq_true rfl) ⟨by decide, by decide⟩ ⟨Nat.le_refl _, Nat.le_refl _⟩ rfl dX2_stepOn_26) (fun H locs hP hS => ?_)
    refine lv_aload_n hx hb dX2_stepOn_29 rfl (lv_at hl 0 rfl) ?_
    refine lv_dup hx hb dX2_stepOn_30 rfl ?_
    refine r_get (v := .int (C4.1 51 4)) hC inX2 hP (e_51 G _) rfl 4 (by decide) rfl k174 rfl dX2_stepOn_31 ?_
    refine lv_iconst (v := 1) hx hb dX2_stepOn_34 (by decide) ?_
    refine lv_iadd hx hb dX2_stepOn_35 ?_
    obtain ⟨C5, eC5⟩ : ∃ Z : Mm, Z = wrI C4 51 4 ((C4.1 51 4) + 1) := ⟨_, rfl⟩
    replace h := lt_y eC5 h
    refine r_put (X' := (C5, Rm)) hC inX2 tyX2 tyX2_ok nmX2 hP hS (e_51 G _) rfl 4 (by decide) rfl k174 rfl (v := .int ((C4.1 51 4) + 1)) rfl rfl (Nat.le_of_ble_eq_true rfl) (p_51_4 G _ _ eC5) dX2_stepOn_36 (fun H locs hP hS => ?_)
    exact re_v' hC hr hP hS (congrArg (fun Z : Mm => (Z, Rm)) (Option.some.inj h)) dX2_stepOn_39
set_option maxHeartbeats 4000000 in
set_option maxRecDepth 100000 in
theorem mX9t_become (l : Launch) (G : gp) (Rm : Mm) {C : Mm} {C0 : Mm} (h : fX9t_become C = some C0) : Met l yX9_become (wsy yX9_become cX9_become 2 none) (rmv 1 40) (va_Pc [.ref (gA G 103), .ref (gA G 1)] (Rl G (C, Rm))) (Qv G (C0, Rm)) 0 0 (lwA G) := by
  refine met_i [.ref (gA G 103), .ref (gA G 1)] wX9_become.2.2.2.2.2 (Nat.le_of_ble_eq_true rfl) ?_
  intro p e s m args below meth c ls hC hr hP hl
  have hC : Cx G p s m args meth c cX9_become RX9 2 := hC
  have hx := hC.1
  have hb := hC.2.1
  have hown := hC.2.2.2.1
  have hts := hC.2.2.2.2.1
  have hS : va_S (lwA G) s.heap s.heap [] := va_S.rf
  have hl : lv_has ls 2 [(0, .ref (gA G 103)), (1, .ref (gA G 1))] := hl
  unfold fX9t_become at h
  refine lv_aload_n hx hb dX9_become_0 rfl (lv_at hl 1 rfl) ?_
  refine r_get (v := .ref (gA G 2)) hC inX9 hP (e_1 G _) rfl 0 (by decide) rfl k29 rfl dX9_become_1 ?_
  refine lv_iconst (v := 0) hx hb dX9_become_4 (by decide) ?_
  refine lv_aload_n hx hb dX9_become_5 rfl (lv_at hl 0 rfl) ?_
  refine r_get (v := .ref (gA G 104)) hC inX9 hP (e_103 G _) rfl 0 (by decide) rfl k29 rfl dX9_become_6 ?_
  refine lv_iconst (v := 0) hx hb dX9_become_9 (by decide) ?_
  refine lv_aload_n hx hb dX9_become_10 rfl (lv_at hl 1 rfl) ?_
  refine r_get (v := .int (C.1 1 1)) hC inX9 hP (e_1 G _) rfl 1 (by decide) rfl k30 rfl dX9_become_11 ?_
  by_cases c1 : 0 < (0 : Int32) ∨ 0 < (0 : Int32) ∨ (C.1 1 1) < (0 : Int32) ∨ 120 < (Int32.toNatClampNeg 0) + (Int32.toNatClampNeg (C.1 1 1)) ∨ 120 < (Int32.toNatClampNeg 0) + (Int32.toNatClampNeg (C.1 1 1))
  · cases it_t c1 h
  replace h := it_f c1 h
  obtain ⟨C2, eC2⟩ : ∃ Z : Mm, Z = cpI C 2 (Int32.toNatClampNeg 0) 104 (Int32.toNatClampNeg 0) (Int32.toNatClampNeg (C.1 1 1)) := ⟨_, rfl⟩
  replace h := lt_y eC2 h
  refine r_cpI (X' := (C2, Rm)) hC (rest := []) k378 k331 k330 k12 hl.1 hP hS (e_2 G _) (e_104 G _) c1 (ac_104 G _ _ _ _ _ _ eC2) (by decide) (Nat.le_of_ble_eq_true rfl) dX9_become_14 (fun H locs hP hS => ?_)
  refine lv_aload_n hx hb dX9_become_17 rfl (lv_at hl 0 rfl) ?_
  refine lv_aload_n hx hb dX9_become_18 rfl (lv_at hl 1 rfl) ?_
  refine r_get (v := .int (C2.1 1 1)) hC inX9 hP (e_1 G _) rfl 1 (by decide) rfl k30 rfl dX9_become_19 ?_
  obtain ⟨C3, eC3⟩ : ∃ Z : Mm, Z = wrI C2 103 1 (C2.1 1 1) := ⟨_, rfl⟩
  replace h := lt_y eC3 h
  refine r_put (X' := (C3, Rm)) hC inX9 tyX9 tyX9_ok nmX9 hP hS (e_103 G _) rfl 1 (by decide) rfl k30 rfl (v := .int (C2.1 1 1)) rfl rfl (Nat.le_of_ble_eq_true rfl) (p_103_1 G _ _ eC3) dX9_become_22 (fun H locs hP hS => ?_)
  exact re_v' hC hr hP hS (congrArg (fun Z : Mm => (Z, Rm)) (Option.some.inj h)) dX9_become_25
set_option maxHeartbeats 4000000 in
set_option maxRecDepth 100000 in
theorem mX9t_length (l : Launch) (G : gp) (Rm : Mm) {C : Mm} {r0 : Int32} (h : fX9t_length C = r0) : Met l yX9_length (wsy yX9_length cX9_length 1 (some .int)) (rmv 0 0) (va_Pc [.ref (gA G 103)] (Rl G (C, Rm))) (Qi G PT r0 (C, Rm)) 0 0 (lwA G) := by
  refine met_i [.ref (gA G 103)] wX9_length.2.2.2.2.2 (Nat.le_of_ble_eq_true rfl) ?_
  intro p e s m args below meth c ls hC hr hP hl
  have hC : Cx G p s m args meth c cX9_length RX9 1 := hC
  have hx := hC.1
  have hb := hC.2.1
  have hown := hC.2.2.2.1
  have hts := hC.2.2.2.2.1
  have hS : va_S (lwA G) s.heap s.heap [] := va_S.rf
  have hl : lv_has ls 1 [(0, .ref (gA G 103))] := hl
  unfold fX9t_length at h
  refine lv_aload_n hx hb dX9_length_0 rfl (lv_at hl 0 rfl) ?_
  refine r_get (v := .int (C.1 103 1)) hC inX9 hP (e_103 G _) rfl 1 (by decide) rfl k30 rfl dX9_length_1 ?_
  exact re_i' hC hr hP hS h rfl dX9_length_4
set_option maxHeartbeats 4000000 in
set_option maxRecDepth 100000 in
theorem mX9t_at (l : Launch) (G : gp) (Rm : Mm) {p1 : Int32} {C : Mm} {r0 : Int32} (h : fX9t_at p1 C = some r0) : Met l yX9_at (wsy yX9_at cX9_at 2 (some .int)) (rmv 0 0) (va_Pc [.ref (gA G 103), .int p1] (Rl G (C, Rm))) (Qi G PT r0 (C, Rm)) 0 0 (lwA G) := by
  refine met_i [.ref (gA G 103), .int p1] wX9_at.2.2.2.2.2 (Nat.le_of_ble_eq_true rfl) ?_
  intro p e s m args below meth c ls hC hr hP hl
  have hC : Cx G p s m args meth c cX9_at RX9 2 := hC
  have hx := hC.1
  have hb := hC.2.1
  have hown := hC.2.2.2.1
  have hts := hC.2.2.2.2.1
  have hS : va_S (lwA G) s.heap s.heap [] := va_S.rf
  have hl : lv_has ls 2 [(0, .ref (gA G 103)), (1, .int p1)] := hl
  unfold fX9t_at at h
  refine lv_iload_n hx hb dX9_at_0 rfl (lv_at hl 1 rfl) ?_
  refine lv_if_lt (tgt := 21) hx hb dX9_at_1 (by decide) (fun c1 => ?_) (fun c1 => ?_)
  · replace h := it_t c1 h
    refine lv_iconst (v := (-1)) hx hb dX9_at_21 (by decide) ?_
    exact re_i' hC hr hP hS (Option.some.inj h) rfl dX9_at_22
  · replace h := it_f c1 h
    refine lv_iload_n hx hb dX9_at_4 rfl (lv_at hl 1 rfl) ?_
    refine lv_aload_n hx hb dX9_at_5 rfl (lv_at hl 0 rfl) ?_
    refine r_get (v := .int (C.1 103 1)) hC inX9 hP (e_103 G _) rfl 1 (by decide) rfl k30 rfl dX9_at_6 ?_
    refine lv_icmp_ge (tgt := 21) hx hb dX9_at_9 (by decide) (fun c2 => ?_) (fun c2 => ?_)
    · replace h := it_t c2 h
      refine lv_iconst (v := (-1)) hx hb dX9_at_21 (by decide) ?_
      exact re_i' hC hr hP hS (Option.some.inj h) rfl dX9_at_22
    · replace h := it_f c2 h
      refine lv_aload_n hx hb dX9_at_12 rfl (lv_at hl 0 rfl) ?_
      refine r_get (v := .ref (gA G 104)) hC inX9 hP (e_103 G _) rfl 0 (by decide) rfl k29 rfl dX9_at_13 ?_
      refine lv_iload_n hx hb dX9_at_16 rfl (lv_at hl 1 rfl) ?_
      by_cases c3 : p1 < (0 : Int32) ∨ 120 ≤ Int32.toNatClampNeg p1
      · cases it_t c3 h
      replace h := it_f c3 h
      refine r_iald hC hP (f := C.1 104) (e_104 G _) c3 dX9_at_17 ?_
      refine lv_goto (tgt := 22) hx hb dX9_at_18 (by decide) ?_
      exact re_i' hC hr hP hS (Option.some.inj h) rfl dX9_at_22
set_option maxHeartbeats 4000000 in
set_option maxRecDepth 100000 in
theorem mX4_isDigit (l : Launch) (G : gp) (Rm : Mm) {p0 : Int32} {C : Mm} {r0 : Int32} (h : fX4_isDigit p0 = r0) : Met l yX4_isDigit (wsy yX4_isDigit cX4_isDigit 1 (some .boolean)) (rmv 0 0) (va_Pc [.int p0] (Rl G (C, Rm))) (Qi G PZ r0 (C, Rm)) 0 0 (lwA G) := by
  refine met_i [.int p0] wX4_isDigit.2.2.2.2 (Nat.le_of_ble_eq_true rfl) ?_
  intro p e s m args below meth c ls hC hr hP hl
  have hC : Cx G p s m args meth c cX4_isDigit RX4 1 := hC
  have hx := hC.1
  have hb := hC.2.1
  have hown := hC.2.2.2.1
  have hts := hC.2.2.2.2.1
  have hS : va_S (lwA G) s.heap s.heap [] := va_S.rf
  have hl : lv_has ls 1 [(0, .int p0)] := hl
  unfold fX4_isDigit at h
  refine lv_iload_n hx hb dX4_isDigit_0 rfl (lv_at hl 0 rfl) ?_
  refine lv_bipush (v := 48) hx hb dX4_isDigit_1 (by decide) ?_
  refine lv_icmp_lt (tgt := 16) hx hb dX4_isDigit_3 (by decide) (fun c1 => ?_) (fun c1 => ?_)
  · replace h := it_t c1 h
    refine lv_iconst (v := 0) hx hb dX4_isDigit_16 (by decide) ?_
    exact re_z' hC hr hP hS PZ0 h rfl dX4_isDigit_17
  · replace h := it_f c1 h
    refine lv_iload_n hx hb dX4_isDigit_6 rfl (lv_at hl 0 rfl) ?_
    refine lv_bipush (v := 57) hx hb dX4_isDigit_7 (by decide) ?_
    refine lv_icmp_gt (tgt := 16) hx hb dX4_isDigit_9 (by decide) (fun c2 => ?_) (fun c2 => ?_)
    · replace h := it_t c2 h
      refine lv_iconst (v := 0) hx hb dX4_isDigit_16 (by decide) ?_
      exact re_z' hC hr hP hS PZ0 h rfl dX4_isDigit_17
    · replace h := it_f c2 h
      refine lv_iconst (v := 1) hx hb dX4_isDigit_12 (by decide) ?_
      refine lv_goto (tgt := 17) hx hb dX4_isDigit_13 (by decide) ?_
      exact re_z' hC hr hP hS PZ1 h rfl dX4_isDigit_17
set_option maxHeartbeats 4000000 in
set_option maxRecDepth 100000 in
theorem mX4_noughtsIn (l : Launch) (G : gp) (Rm : Mm) {n : Nat} {p0 : Int32} {C : Mm} {r0 : Int32} (h : fX4_noughtsIn n p0 = some r0) : Met l yX4_noughtsIn (wsy yX4_noughtsIn cX4_noughtsIn 3 (some .int)) (rmv 0 0) (va_Pc [.int p0] (Rl G (C, Rm))) (Qi G PT r0 (C, Rm)) 0 0 (lwA G) := by
  refine met_i [.int p0] wX4_noughtsIn.2.2.2.2 (Nat.le_of_ble_eq_true rfl) ?_
  intro p e s m args below meth c ls hC hr hP hl
  have hC : Cx G p s m args meth c cX4_noughtsIn RX4 3 := hC
  have hx := hC.1
  have hb := hC.2.1
  have hown := hC.2.2.2.1
  have hts := hC.2.2.2.2.1
  have hS : va_S (lwA G) s.heap s.heap [] := va_S.rf
  have hl : lv_has ls 3 [(0, .int p0)] := hl
  have bl18 : ∀ (k4 : Int32 → Int32 → Option Int32) (hk4 : ∀ (y1 : Int32) (y2 : Int32) (C : Mm) (H : Heap) (locs : List Loc) (ls : Array Slot), k4 y1 y2 = some r0 → lv_has ls 3 [(1, .int y1), (2, .int y2)] → va_P (gD G) vwCl (wld G (C, Rm)) H → va_S (lwA G) s.heap H locs → W p l e (rmv 0 0) s m args below meth c H locs 0 0 (MQ below (Qi G PT r0 (C, Rm)) args s 0 0 (lwA G)) (F0 m 4 ls [])), ∀ (y1 : Int32) (y2 : Int32) (C : Mm) (H : Heap) (locs : List Loc) (ls : Array Slot), fX4_noughtsIn_b18 n k4 y1 y2 = some r0 → lv_has ls 3 [(1, .int y1), (2, .int y2)] → va_P (gD G) vwCl (wld G (C, Rm)) H → va_S (lwA G) s.heap H locs → W p l e (rmv 0 0) s m args below meth c H locs 0 0 (MQ below (Qi G PT r0 (C, Rm)) args s 0 0 (lwA G)) (F0 m 18 ls []) := by
    intro k4 hk4 y1 y2 C H locs ls h hl hP hS
    unfold fX4_noughtsIn_b18 at h
    refine lv_iload_n hx hb dX4_noughtsIn_18 rfl (lv_at hl 1 rfl) ?_
    refine lv_bipush (v := 10) hx hb dX4_noughtsIn_19 (by decide) ?_
    refine lv_idiv hx hb dX4_noughtsIn_21 (by decide) ?_
    refine lv_topi (fun x1 ex1 => ?_)
    replace h := lt_y ex1 h
    refine lv_istore_n (lv' := [(2, .int x1), (1, .int y1)]) hx hb dX4_noughtsIn_22 rfl hl (by decide) rfl (fun ls hl => ?_)
    refine lv_goto (tgt := 4) hx hb dX4_noughtsIn_23 (by decide) ?_
    exact hk4 y1 x1 _ _ _ _ h (lv_sub hl [1, 0] rfl) hP hS
  have bl4 : ∀ (fu : Nat), ∀ (y1 : Int32) (y2 : Int32) (C : Mm) (H : Heap) (locs : List Loc) (ls : Array Slot), fX4_noughtsIn_h4 n fu y1 y2 = some r0 → lv_has ls 3 [(1, .int y1), (2, .int y2)] → va_P (gD G) vwCl (wld G (C, Rm)) H → va_S (lwA G) s.heap H locs → W p l e (rmv 0 0) s m args below meth c H locs 0 0 (MQ below (Qi G PT r0 (C, Rm)) args s 0 0 (lwA G)) (F0 m 4 ls []) := by
    intro fu
    induction fu with
    | zero =>
      intro y1 y2 C H locs ls h hl hP hS
      rw [fX4_noughtsIn_h4.eq_1] at h
      cases h
    | succ fu ih =>
      intro y1 y2 C H locs ls h hl hP hS
      rw [fX4_noughtsIn_h4.eq_2] at h
      refine lv_iload_n hx hb dX4_noughtsIn_4 rfl (lv_at hl 1 rfl) ?_
      refine lv_if_le (tgt := 26) hx hb dX4_noughtsIn_5 (by decide) (fun c2 => ?_) (fun c2 => ?_)
      · replace h := it_t c2 h
        refine lv_iload_n hx hb dX4_noughtsIn_26 rfl (lv_at hl 0 rfl) ?_
        exact re_i' hC hr hP hS (Option.some.inj h) rfl dX4_noughtsIn_27
      · replace h := it_f c2 h
        refine lv_iload_n hx hb dX4_noughtsIn_8 rfl (lv_at hl 1 rfl) ?_
        refine lv_bipush (v := 10) hx hb dX4_noughtsIn_9 (by decide) ?_
        refine r_irem hx hb dX4_noughtsIn_11 (by decide) ?_
        refine lv_if_ne (tgt := 18) hx hb dX4_noughtsIn_12 (by decide) (fun c3 => ?_) (fun c3 => ?_)
        · replace h := it_f c3 h
          exact bl18 (fX4_noughtsIn_h4 n fu) ih y1 y2 _ _ _ _ h (lv_sub hl [0, 1] rfl) hP hS
        · replace h := it_t c3 h
          obtain ⟨x4, ex4⟩ : ∃ y : Int32, y = y1 + 1 := ⟨_, rfl⟩
          replace h := lt_y ex4 h
          refine lv_iinc (v := x4) (lv' := [(1, .int x4), (2, .int y2)]) hx hb dX4_noughtsIn_15 hl (k := 0) rfl (by rw [ex4]; rfl) (by decide) rfl (fun ls hl => ?_)
          exact bl18 (fX4_noughtsIn_h4 n fu) ih x4 y2 _ _ _ _ h (lv_sub hl [0, 1] rfl) hP hS
  unfold fX4_noughtsIn at h
  refine lv_iconst (v := 0) hx hb dX4_noughtsIn_0 (by decide) ?_
  refine lv_istore_n (lv' := [(1, .int 0), (0, .int p0)]) hx hb dX4_noughtsIn_1 rfl hl (by decide) rfl (fun ls hl => ?_)
  refine lv_iload_n hx hb dX4_noughtsIn_2 rfl (lv_at hl 1 rfl) ?_
  refine lv_istore_n (lv' := [(2, .int p0), (1, .int 0), (0, .int p0)]) hx hb dX4_noughtsIn_3 rfl hl (by decide) rfl (fun ls hl => ?_)
  exact bl4 n 0 p0 _ _ _ _ h (lv_sub hl [1, 0] rfl) hP hS
set_option maxHeartbeats 4000000 in
set_option maxRecDepth 100000 in
theorem mX5_capacity (l : Launch) (G : gp) (Rm : Mm) {j0 : Nat} (hj0 : j0 < 7) {C : Mm} {r0 : Int32} (h : fX5_capacity j0 C = some r0) : Met l yX5_capacity (wsy yX5_capacity cX5_capacity 1 (some .int)) (rmv 0 0) (va_Pc [.ref (gA G (hdc j0))] (Rl G (C, Rm))) (Qi G PT r0 (C, Rm)) 0 0 (lwA G) := by
  refine met_i [.ref (gA G (hdc j0))] wX5_capacity.2.2.2.2.2 (Nat.le_of_ble_eq_true rfl) ?_
  intro p e s m args below meth c ls hC hr hP hl
  have hC : Cx G p s m args meth c cX5_capacity RX5 1 := hC
  have hx := hC.1
  have hb := hC.2.1
  have hown := hC.2.2.2.1
  have hts := hC.2.2.2.2.1
  have hS : va_S (lwA G) s.heap s.heap [] := va_S.rf
  have hl : lv_has ls 1 [(0, .ref (gA G (hdc j0)))] := hl
  unfold fX5_capacity at h
  refine lv_aload_n hx hb dX5_capacity_0 rfl (lv_at hl 0 rfl) ?_
  refine r_get (v := .ref (gA G (hdn j0))) hC inX5 hP (e_hc G _ hj0) rfl 0 (by decide) rfl k44 rfl dX5_capacity_1 ?_
  refine lv_iconst (v := 4) hx hb dX5_capacity_4 (by decide) ?_
  by_cases c1 : 4 < (0 : Int32) ∨ 5 ≤ Int32.toNatClampNeg 4
  · cases it_t c1 h
  replace h := it_f c1 h
  refine r_iald hC hP (f := C.1 (hdn j0)) (e_hn G _ hj0) c1 dX5_capacity_5 ?_
  exact re_i' hC hr hP hS (Option.some.inj h) rfl dX5_capacity_6
set_option maxHeartbeats 4000000 in
set_option maxRecDepth 100000 in
theorem mX4_longTenTo (l : Launch) (G : gp) (Rm : Mm) {p0 : Int32} {C : Mm} {r0 : Int64} (h : fX4_longTenTo p0 = some r0) : Met l yX4_longTenTo (wsy yX4_longTenTo cX4_longTenTo 1 (some .long)) (rmv 0 0) (va_Pc [.int p0] (Rl G (C, Rm))) (Ql G r0 (C, Rm)) 0 0 (lwA G) := by
  refine met_i [.int p0] wX4_longTenTo.2.2.2.2 (Nat.le_of_ble_eq_true rfl) ?_
  intro p e s m args below meth c ls hC hr hP hl
  have hC : Cx G p s m args meth c cX4_longTenTo RX4 1 := hC
  have hx := hC.1
  have hb := hC.2.1
  have hown := hC.2.2.2.1
  have hts := hC.2.2.2.2.1
  have hS : va_S (lwA G) s.heap s.heap [] := va_S.rf
  have hl : lv_has ls 1 [(0, .int p0)] := hl
  unfold fX4_longTenTo at h
  refine lv_iload_n hx hb dX4_longTenTo_0 rfl (lv_at hl 0 rfl) ?_
  refine lv_if_lt (tgt := 12) hx hb dX4_longTenTo_1 (by decide) (fun c1 => ?_) (fun c1 => ?_)
  · replace h := it_t c1 h
    refine lv_lconst (v := 1) hx hb dX4_longTenTo_12 (by decide) ?_
    refine lv_goto (tgt := 21) hx hb dX4_longTenTo_13 (by decide) ?_
    exact re_l' hC hr hP hS (Option.some.inj h) rfl dX4_longTenTo_21
  · replace h := it_f c1 h
    refine lv_iload_n hx hb dX4_longTenTo_4 rfl (lv_at hl 0 rfl) ?_
    refine r_gets hC hS (hC.2.2.2.2.2.2.2.2.1.2.2.2.1.1) k495 dX4_longTenTo_5 ?_
    refine r_tlen hC hS (hC.2.2.2.2.2.2.2.2.1.2.2.2.1.2) (v := 19) (by decide) dX4_longTenTo_8 ?_
    refine lv_icmp_lt (tgt := 16) hx hb dX4_longTenTo_9 (by decide) (fun c2 => ?_) (fun c2 => ?_)
    · replace h := it_t c2 h
      refine r_gets hC hS (hC.2.2.2.2.2.2.2.2.1.2.2.2.1.1) k495 dX4_longTenTo_16 ?_
      refine lv_iload_n hx hb dX4_longTenTo_19 rfl (lv_at hl 0 rfl) ?_
      by_cases c3 : p0 < (0 : Int32) ∨ 19 ≤ Int32.toNatClampNeg p0
      · cases it_t c3 h
      replace h := it_f c3 h
      refine r_tl hC hS (hC.2.2.2.2.2.2.2.2.1.2.2.2.1.2) c3 dX4_longTenTo_20 ?_
      exact re_l' hC hr hP hS (Option.some.inj h) rfl dX4_longTenTo_21
    · replace h := it_f c2 h
      refine lv_lconst (v := 1) hx hb dX4_longTenTo_12 (by decide) ?_
      refine lv_goto (tgt := 21) hx hb dX4_longTenTo_13 (by decide) ?_
      exact re_l' hC hr hP hS (Option.some.inj h) rfl dX4_longTenTo_21
set_option maxHeartbeats 4000000 in
set_option maxRecDepth 100000 in
theorem mX5_mayBe (l : Launch) (G : gp) (Rm : Mm) {p0 : Int32} {p1 : Int32} {C : Mm} {r0 : Int32} (h : fX5_mayBe p0 p1 = some r0) : Met l yX5_mayBe (wsy yX5_mayBe cX5_mayBe 2 (some .boolean)) (rmv 0 0) (va_Pc [.int p0, .int p1] (Rl G (C, Rm))) (Qi G PZ r0 (C, Rm)) 0 0 (lwA G) := by
  refine met_i [.int p0, .int p1] wX5_mayBe.2.2.2.2 (Nat.le_of_ble_eq_true rfl) ?_
  intro p e s m args below meth c ls hC hr hP hl
  have hC : Cx G p s m args meth c cX5_mayBe RX5 2 := hC
  have hx := hC.1
  have hb := hC.2.1
  have hown := hC.2.2.2.1
  have hts := hC.2.2.2.2.1
  have hS : va_S (lwA G) s.heap s.heap [] := va_S.rf
  have hl : lv_has ls 2 [(0, .int p0), (1, .int p1)] := hl
  unfold fX5_mayBe at h
  refine lv_iload_n hx hb dX5_mayBe_0 rfl (lv_at hl 0 rfl) ?_
  refine lv_if_lt (tgt := 31) hx hb dX5_mayBe_1 (by decide) (fun c1 => ?_) (fun c1 => ?_)
  · replace h := it_t c1 h
    refine lv_iconst (v := 0) hx hb dX5_mayBe_31 (by decide) ?_
    exact re_z' hC hr hP hS PZ0 (Option.some.inj h) rfl dX5_mayBe_32
  · replace h := it_f c1 h
    refine lv_iload_n hx hb dX5_mayBe_4 rfl (lv_at hl 0 rfl) ?_
    refine lv_iconst (v := 5) hx hb dX5_mayBe_5 (by decide) ?_
    refine lv_icmp_ge (tgt := 31) hx hb dX5_mayBe_6 (by decide) (fun c2 => ?_) (fun c2 => ?_)
    · replace h := it_t c2 h
      refine lv_iconst (v := 0) hx hb dX5_mayBe_31 (by decide) ?_
      exact re_z' hC hr hP hS PZ0 (Option.some.inj h) rfl dX5_mayBe_32
    · replace h := it_f c2 h
      refine lv_iload_n hx hb dX5_mayBe_9 rfl (lv_at hl 1 rfl) ?_
      refine r_gets hC hS (hC.2.2.2.2.2.2.2.2.1.2.1.1) k316 dX5_mayBe_10 ?_
      refine lv_iload_n hx hb dX5_mayBe_13 rfl (lv_at hl 0 rfl) ?_
      by_cases c3 : p0 < (0 : Int32) ∨ 5 ≤ Int32.toNatClampNeg p0
      · cases it_t c3 h
      replace h := it_f c3 h
      refine r_ti hC hS (hC.2.2.2.2.2.2.2.2.1.2.1.2) c3 dX5_mayBe_14 ?_
      refine lv_icmp_lt (tgt := 31) hx hb dX5_mayBe_15 (by decide) (fun c4 => ?_) (fun c4 => ?_)
      · replace h := it_t c4 h
        refine lv_iconst (v := 0) hx hb dX5_mayBe_31 (by decide) ?_
        exact re_z' hC hr hP hS PZ0 (Option.some.inj h) rfl dX5_mayBe_32
      · replace h := it_f c4 h
        refine lv_iload_n hx hb dX5_mayBe_18 rfl (lv_at hl 1 rfl) ?_
        refine r_gets hC hS (hC.2.2.2.2.2.2.2.2.1.2.2.1.1) k318 dX5_mayBe_19 ?_
        refine lv_iload_n hx hb dX5_mayBe_22 rfl (lv_at hl 0 rfl) ?_
        by_cases c5 : p0 < (0 : Int32) ∨ 5 ≤ Int32.toNatClampNeg p0
        · cases it_t c5 h
        replace h := it_f c5 h
        refine r_ti hC hS (hC.2.2.2.2.2.2.2.2.1.2.2.1.2) c5 dX5_mayBe_23 ?_
        refine lv_icmp_gt (tgt := 31) hx hb dX5_mayBe_24 (by decide) (fun c6 => ?_) (fun c6 => ?_)
        · replace h := it_t c6 h
          refine lv_iconst (v := 0) hx hb dX5_mayBe_31 (by decide) ?_
          exact re_z' hC hr hP hS PZ0 (Option.some.inj h) rfl dX5_mayBe_32
        · replace h := it_f c6 h
          refine lv_iconst (v := 1) hx hb dX5_mayBe_27 (by decide) ?_
          refine lv_goto (tgt := 32) hx hb dX5_mayBe_28 (by decide) ?_
          exact re_z' hC hr hP hS PZ1 (Option.some.inj h) rfl dX5_mayBe_32
set_option maxHeartbeats 4000000 in
set_option maxRecDepth 100000 in
theorem mX9_at (l : Launch) (G : gp) (Rm : Mm) {p1 : Int32} {C : Mm} {r0 : Int32} (h : fX9_at p1 C = some r0) : Met l yX9_at (wsy yX9_at cX9_at 2 (some .int)) (rmv 0 0) (va_Pc [.ref (gA G 1), .int p1] (Rl G (C, Rm))) (Qi G PT r0 (C, Rm)) 0 0 (lwA G) := by
  refine met_i [.ref (gA G 1), .int p1] wX9_at.2.2.2.2.2 (Nat.le_of_ble_eq_true rfl) ?_
  intro p e s m args below meth c ls hC hr hP hl
  have hC : Cx G p s m args meth c cX9_at RX9 2 := hC
  have hx := hC.1
  have hb := hC.2.1
  have hown := hC.2.2.2.1
  have hts := hC.2.2.2.2.1
  have hS : va_S (lwA G) s.heap s.heap [] := va_S.rf
  have hl : lv_has ls 2 [(0, .ref (gA G 1)), (1, .int p1)] := hl
  unfold fX9_at at h
  refine lv_iload_n hx hb dX9_at_0 rfl (lv_at hl 1 rfl) ?_
  refine lv_if_lt (tgt := 21) hx hb dX9_at_1 (by decide) (fun c1 => ?_) (fun c1 => ?_)
  · replace h := it_t c1 h
    refine lv_iconst (v := (-1)) hx hb dX9_at_21 (by decide) ?_
    exact re_i' hC hr hP hS (Option.some.inj h) rfl dX9_at_22
  · replace h := it_f c1 h
    refine lv_iload_n hx hb dX9_at_4 rfl (lv_at hl 1 rfl) ?_
    refine lv_aload_n hx hb dX9_at_5 rfl (lv_at hl 0 rfl) ?_
    refine r_get (v := .int (C.1 1 1)) hC inX9 hP (e_1 G _) rfl 1 (by decide) rfl k30 rfl dX9_at_6 ?_
    refine lv_icmp_ge (tgt := 21) hx hb dX9_at_9 (by decide) (fun c2 => ?_) (fun c2 => ?_)
    · replace h := it_t c2 h
      refine lv_iconst (v := (-1)) hx hb dX9_at_21 (by decide) ?_
      exact re_i' hC hr hP hS (Option.some.inj h) rfl dX9_at_22
    · replace h := it_f c2 h
      refine lv_aload_n hx hb dX9_at_12 rfl (lv_at hl 0 rfl) ?_
      refine r_get (v := .ref (gA G 2)) hC inX9 hP (e_1 G _) rfl 0 (by decide) rfl k29 rfl dX9_at_13 ?_
      refine lv_iload_n hx hb dX9_at_16 rfl (lv_at hl 1 rfl) ?_
      by_cases c3 : p1 < (0 : Int32) ∨ 120 ≤ Int32.toNatClampNeg p1
      · cases it_t c3 h
      replace h := it_f c3 h
      refine r_iald hC hP (f := C.1 2) (e_2 G _) c3 dX9_at_17 ?_
      refine lv_goto (tgt := 22) hx hb dX9_at_18 (by decide) ?_
      exact re_i' hC hr hP hS (Option.some.inj h) rfl dX9_at_22
set_option maxHeartbeats 4000000 in
set_option maxRecDepth 100000 in
theorem mX5_digitsAt (l : Launch) (G : gp) (Rm : Mm) {n : Nat} {p1 : Int32} {C : Mm} {r0 : Int32} (h : fX5_digitsAt n p1 C = some r0) : Met l yX5_digitsAt (wsy yX5_digitsAt cX5_digitsAt 3 (some .int)) (rmv 1 21) (va_Pc [.ref (gA G 1), .int p1] (Rl G (C, Rm))) (Qi G PT r0 (C, Rm)) 0 0 (lwA G) := by
  refine met_i [.ref (gA G 1), .int p1] wX5_digitsAt.2.2.2.2 (Nat.le_of_ble_eq_true rfl) ?_
  intro p e s m args below meth c ls hC hr hP hl
  have hC : Cx G p s m args meth c cX5_digitsAt RX5 3 := hC
  have hx := hC.1
  have hb := hC.2.1
  have hown := hC.2.2.2.1
  have hts := hC.2.2.2.2.1
  have hS : va_S (lwA G) s.heap s.heap [] := va_S.rf
  have hl : lv_has ls 3 [(0, .ref (gA G 1)), (1, .int p1)] := hl
  have bl2 : ∀ (fu : Nat), ∀ (y1 : Int32) (y2 : Int32) (C : Mm) (H : Heap) (locs : List Loc) (ls : Array Slot), fX5_digitsAt_h2 n fu y1 y2 C = some r0 → lv_has ls 3 [(0, .ref (gA G 1)), (1, .int y1), (2, .int y2)] → va_P (gD G) vwCl (wld G (C, Rm)) H → va_S (lwA G) s.heap H locs → W p l e (rmv 1 21) s m args below meth c H locs 0 0 (MQ below (Qi G PT r0 (C, Rm)) args s 0 0 (lwA G)) (F0 m 2 ls []) := by
    intro fu
    induction fu with
    | zero =>
      intro y1 y2 C H locs ls h hl hP hS
      rw [fX5_digitsAt_h2.eq_1] at h
      cases h
    | succ fu ih =>
      intro y1 y2 C H locs ls h hl hP hS
      rw [fX5_digitsAt_h2.eq_2] at h
      refine lv_iload_n hx hb dX5_digitsAt_2 rfl (lv_at hl 2 rfl) ?_
      refine lv_iconst (v := 2) hx hb dX5_digitsAt_3 (by decide) ?_
      refine lv_icmp_ge (tgt := 26) hx hb dX5_digitsAt_4 (by decide) (fun c1 => ?_) (fun c1 => ?_)
      · replace h := it_t c1 h
        refine lv_iload_n hx hb dX5_digitsAt_26 rfl (lv_at hl 2 rfl) ?_
        exact re_i' hC hr hP hS (Option.some.inj h) rfl dX5_digitsAt_27
      · replace h := it_f c1 h
        refine lv_aload_n hx hb dX5_digitsAt_7 rfl (lv_at hl 0 rfl) ?_
        refine lv_iload_n hx hb dX5_digitsAt_8 rfl (lv_at hl 1 rfl) ?_
        refine lv_iload_n hx hb dX5_digitsAt_9 rfl (lv_at hl 2 rfl) ?_
        refine lv_iadd hx hb dX5_digitsAt_10 ?_
        obtain ⟨r3, hq2, h⟩ := bn_x h
        refine rc_i hS (run_V hC wX9_at k298 (e_1 G _) rfl hP hS (As := [.int (y1 + y2)]) (rest := []) (mX9_at l G Rm hq2) rfl hl.1 (Nat.le_of_ble_eq_true rfl) ⟨by decide, by decide⟩ ⟨Nat.le_refl _, Nat.le_refl _⟩ rfl dX5_digitsAt_11) (fun H locs pb4 hP hS => ?_)
        refine rc_i hS (run_S hC wX4_isDigit k307 hP hS (As := [.int r3]) (rest := []) (mX4_isDigit l G Rm rfl) rfl hl.1 (Nat.le_of_ble_eq_true rfl) ⟨by decide, by decide⟩ ⟨Nat.le_refl _, Nat.le_refl _⟩ rfl dX5_digitsAt_14) (fun H locs pb6 hP hS => ?_)
        refine lv_if_eq (tgt := 26) hx hb dX5_digitsAt_17 (by decide) (fun c7 => ?_) (fun c7 => ?_)
        · replace h := it_t c7 h
          refine lv_iload_n hx hb dX5_digitsAt_26 rfl (lv_at hl 2 rfl) ?_
          exact re_i' hC hr hP hS (Option.some.inj h) rfl dX5_digitsAt_27
        · replace h := it_f c7 h
          obtain ⟨x8, ex8⟩ : ∃ y : Int32, y = y2 + 1 := ⟨_, rfl⟩
          replace h := lt_y ex8 h
          refine lv_iinc (v := x8) (lv' := [(2, .int x8), (0, .ref (gA G 1)), (1, .int y1)]) hx hb dX5_digitsAt_20 hl (k := 2) rfl (by rw [ex8]; rfl) (by decide) rfl (fun ls hl => ?_)
          refine lv_goto (tgt := 2) hx hb dX5_digitsAt_23 (by decide) ?_
          exact ih y1 x8 C _ _ _ h (lv_sub hl [1, 2, 0] rfl) hP hS
  unfold fX5_digitsAt at h
  refine lv_iconst (v := 0) hx hb dX5_digitsAt_0 (by decide) ?_
  refine lv_istore_n (lv' := [(2, .int 0), (0, .ref (gA G 1)), (1, .int p1)]) hx hb dX5_digitsAt_1 rfl hl (by decide) rfl (fun ls hl => ?_)
  exact bl2 n p1 0 C _ _ _ h (lv_sub hl [1, 2, 0] rfl) hP hS
set_option maxHeartbeats 4000000 in
set_option maxRecDepth 100000 in
theorem mX5_valueAt (l : Launch) (G : gp) (Rm : Mm) {n : Nat} {p1 : Int32} {p2 : Int32} {C : Mm} {r0 : Int32} (h : fX5_valueAt n p1 p2 C = some r0) : Met l yX5_valueAt (wsy yX5_valueAt cX5_valueAt 5 (some .int)) (rmv 1 21) (va_Pc [.ref (gA G 1), .int p1, .int p2] (Rl G (C, Rm))) (Qi G PT r0 (C, Rm)) 0 0 (lwA G) := by
  refine met_i [.ref (gA G 1), .int p1, .int p2] wX5_valueAt.2.2.2.2 (Nat.le_of_ble_eq_true rfl) ?_
  intro p e s m args below meth c ls hC hr hP hl
  have hC : Cx G p s m args meth c cX5_valueAt RX5 5 := hC
  have hx := hC.1
  have hb := hC.2.1
  have hown := hC.2.2.2.1
  have hts := hC.2.2.2.2.1
  have hS : va_S (lwA G) s.heap s.heap [] := va_S.rf
  have hl : lv_has ls 5 [(0, .ref (gA G 1)), (1, .int p1), (2, .int p2)] := hl
  have bl5 : ∀ (fu : Nat), ∀ (y1 : Int32) (y2 : Int32) (y3 : Int32) (y4 : Int32) (C : Mm) (H : Heap) (locs : List Loc) (ls : Array Slot), fX5_valueAt_h5 n fu y1 y2 y3 y4 C = some r0 → lv_has ls 5 [(0, .ref (gA G 1)), (1, .int y1), (2, .int y2), (3, .int y3), (4, .int y4)] → va_P (gD G) vwCl (wld G (C, Rm)) H → va_S (lwA G) s.heap H locs → W p l e (rmv 1 21) s m args below meth c H locs 0 0 (MQ below (Qi G PT r0 (C, Rm)) args s 0 0 (lwA G)) (F0 m 5 ls []) := by
    intro fu
    induction fu with
    | zero =>
      intro y1 y2 y3 y4 C H locs ls h hl hP hS
      rw [fX5_valueAt_h5.eq_1] at h
      cases h
    | succ fu ih =>
      intro y1 y2 y3 y4 C H locs ls h hl hP hS
      rw [fX5_valueAt_h5.eq_2] at h
      refine lv_iload hx hb dX5_valueAt_5 (lv_at hl 4 rfl) ?_
      refine lv_iload_n hx hb dX5_valueAt_7 rfl (lv_at hl 2 rfl) ?_
      refine lv_icmp_ge (tgt := 34) hx hb dX5_valueAt_8 (by decide) (fun c1 => ?_) (fun c1 => ?_)
      · replace h := it_t c1 h
        refine lv_iload_n hx hb dX5_valueAt_34 rfl (lv_at hl 3 rfl) ?_
        exact re_i' hC hr hP hS (Option.some.inj h) rfl dX5_valueAt_35
      · replace h := it_f c1 h
        refine lv_iload_n hx hb dX5_valueAt_11 rfl (lv_at hl 3 rfl) ?_
        refine lv_bipush (v := 10) hx hb dX5_valueAt_12 (by decide) ?_
        refine lv_imul hx hb dX5_valueAt_14 ?_
        refine lv_aload_n hx hb dX5_valueAt_15 rfl (lv_at hl 0 rfl) ?_
        refine lv_iload_n hx hb dX5_valueAt_16 rfl (lv_at hl 1 rfl) ?_
        refine lv_iload hx hb dX5_valueAt_17 (lv_at hl 4 rfl) ?_
        refine lv_iadd hx hb dX5_valueAt_19 ?_
        obtain ⟨r3, hq2, h⟩ := bn_x h
        refine rc_i hS (run_V hC wX9_at k298 (e_1 G _) rfl hP hS (As := [.int (y1 + y4)]) (rest := [.int (y3 * 10)]) (mX9_at l G Rm hq2) rfl hl.1 (Nat.le_of_ble_eq_true rfl) ⟨by decide, by decide⟩ ⟨Nat.le_refl _, Nat.le_refl _⟩ rfl dX5_valueAt_20) (fun H locs pb4 hP hS => ?_)
        refine lv_iadd hx hb dX5_valueAt_23 ?_
        refine lv_bipush (v := 48) hx hb dX5_valueAt_24 (by decide) ?_
        refine lv_isub hx hb dX5_valueAt_26 ?_
        refine lv_topi (fun x5 ex5 => ?_)
        replace h := lt_y ex5 h
        refine lv_istore_n (lv' := [(3, .int x5), (0, .ref (gA G 1)), (1, .int y1), (2, .int y2), (4, .int y4)]) hx hb dX5_valueAt_27 rfl hl (by decide) rfl (fun ls hl => ?_)
        obtain ⟨x6, ex6⟩ : ∃ y : Int32, y = y4 + 1 := ⟨_, rfl⟩
        replace h := lt_y ex6 h
        refine lv_iinc (v := x6) (lv' := [(4, .int x6), (3, .int x5), (0, .ref (gA G 1)), (1, .int y1), (2, .int y2)]) hx hb dX5_valueAt_28 hl (k := 4) rfl (by rw [ex6]; rfl) (by decide) rfl (fun ls hl => ?_)
        refine lv_goto (tgt := 5) hx hb dX5_valueAt_31 (by decide) ?_
        exact ih y1 y2 x5 x6 C _ _ _ h (lv_sub hl [2, 3, 4, 1, 0] rfl) hP hS
  unfold fX5_valueAt at h
  refine lv_iconst (v := 0) hx hb dX5_valueAt_0 (by decide) ?_
  refine lv_istore_n (lv' := [(3, .int 0), (0, .ref (gA G 1)), (1, .int p1), (2, .int p2)]) hx hb dX5_valueAt_1 rfl hl (by decide) rfl (fun ls hl => ?_)
  refine lv_iconst (v := 0) hx hb dX5_valueAt_2 (by decide) ?_
  refine lv_istore (lv' := [(4, .int 0), (3, .int 0), (0, .ref (gA G 1)), (1, .int p1), (2, .int p2)]) hx hb dX5_valueAt_3 hl (by decide) rfl (fun ls hl => ?_)
  exact bl5 n p1 p2 0 0 C _ _ _ h (lv_sub hl [2, 3, 4, 1, 0] rfl) hP hS
set_option maxHeartbeats 4000000 in
set_option maxRecDepth 100000 in
theorem mX9_length (l : Launch) (G : gp) (Rm : Mm) {C : Mm} {r0 : Int32} (h : fX9_length C = r0) : Met l yX9_length (wsy yX9_length cX9_length 1 (some .int)) (rmv 0 0) (va_Pc [.ref (gA G 1)] (Rl G (C, Rm))) (Qi G PT r0 (C, Rm)) 0 0 (lwA G) := by
  refine met_i [.ref (gA G 1)] wX9_length.2.2.2.2.2 (Nat.le_of_ble_eq_true rfl) ?_
  intro p e s m args below meth c ls hC hr hP hl
  have hC : Cx G p s m args meth c cX9_length RX9 1 := hC
  have hx := hC.1
  have hb := hC.2.1
  have hown := hC.2.2.2.1
  have hts := hC.2.2.2.2.1
  have hS : va_S (lwA G) s.heap s.heap [] := va_S.rf
  have hl : lv_has ls 1 [(0, .ref (gA G 1))] := hl
  unfold fX9_length at h
  refine lv_aload_n hx hb dX9_length_0 rfl (lv_at hl 0 rfl) ?_
  refine r_get (v := .int (C.1 1 1)) hC inX9 hP (e_1 G _) rfl 1 (by decide) rfl k30 rfl dX9_length_1 ?_
  exact re_i' hC hr hP hS h rfl dX9_length_4
set_option maxHeartbeats 4000000 in
set_option maxRecDepth 100000 in
theorem mX5_read (l : Launch) (G : gp) (Rm : Mm) {n : Nat} {j0 : Nat} (hj0 : j0 < 7) {C : Mm} {r0 : Int32} {C0 : Mm} (h : fX5_read n j0 C = some (r0, C0)) : Met l yX5_read (wsy yX5_read cX5_read 6 (some .int)) (rmv 2 45) (va_Pc [.ref (gA G (hdc j0)), .ref (gA G 1)] (Rl G (C, Rm))) (Qi G PT r0 (C0, Rm)) 0 0 (lwA G) := by
  refine met_i [.ref (gA G (hdc j0)), .ref (gA G 1)] wX5_read.2.2.2.2.2 (Nat.le_of_ble_eq_true rfl) ?_
  intro p e s m args below meth c ls hC hr hP hl
  have hC : Cx G p s m args meth c cX5_read RX5 6 := hC
  have hx := hC.1
  have hb := hC.2.1
  have hown := hC.2.2.2.1
  have hts := hC.2.2.2.2.1
  have hS : va_S (lwA G) s.heap s.heap [] := va_S.rf
  have hl : lv_has ls 6 [(0, .ref (gA G (hdc j0))), (1, .ref (gA G 1))] := hl
  have bl9 : ∀ (fu : Nat), ∀ (y2 : Int32) (y3 : Int32) (C : Mm) (H : Heap) (locs : List Loc) (ls : Array Slot), fX5_read_h9 n j0 fu y2 y3 C = some (r0, C0) → lv_has ls 6 [(0, .ref (gA G (hdc j0))), (1, .ref (gA G 1)), (2, .int y2), (3, .int y3)] → va_P (gD G) vwCl (wld G (C, Rm)) H → va_S (lwA G) s.heap H locs → W p l e (rmv 2 45) s m args below meth c H locs 0 0 (MQ below (Qi G PT r0 (C0, Rm)) args s 0 0 (lwA G)) (F0 m 9 ls []) := by
    intro fu
    induction fu with
    | zero =>
      intro y2 y3 C H locs ls h hl hP hS
      rw [fX5_read_h9.eq_1] at h
      cases h
    | succ fu ih =>
      intro y2 y3 C H locs ls h hl hP hS
      rw [fX5_read_h9.eq_2] at h
      refine lv_iload_n hx hb dX5_read_9 rfl (lv_at hl 3 rfl) ?_
      refine lv_iconst (v := 5) hx hb dX5_read_10 (by decide) ?_
      refine lv_icmp_ge (tgt := 83) hx hb dX5_read_11 (by decide) (fun c1 => ?_) (fun c1 => ?_)
      · replace h := it_t c1 h
        refine lv_iload_n hx hb dX5_read_83 rfl (lv_at hl 2 rfl) ?_
        refine lv_aload_n hx hb dX5_read_84 rfl (lv_at hl 1 rfl) ?_
        refine rc_i hS (run_V hC wX9_length k320 (e_1 G _) rfl hP hS (As := []) (rest := [.int y2]) (mX9_length l G Rm rfl) rfl hl.1 (Nat.le_of_ble_eq_true rfl) ⟨by decide, by decide⟩ ⟨Nat.le_refl _, Nat.le_refl _⟩ rfl dX5_read_85) (fun H locs pb3 hP hS => ?_)
        refine lv_icmp_ne (tgt := 95) hx hb dX5_read_88 (by decide) (fun c4 => ?_) (fun c4 => ?_)
        · replace h := it_f c4 h
          refine lv_iload_n hx hb dX5_read_95 rfl (lv_at hl 2 rfl) ?_
          exact re_i' hC hr hP hS (pr_1 h) (congrArg (fun Z : Mm => (Z, Rm)) (pr_2 h)) dX5_read_96
        · replace h := it_t c4 h
          refine lv_iconst (v := (-1)) hx hb dX5_read_91 (by decide) ?_
          refine lv_goto (tgt := 96) hx hb dX5_read_92 (by decide) ?_
          exact re_i' hC hr hP hS (pr_1 h) (congrArg (fun Z : Mm => (Z, Rm)) (pr_2 h)) dX5_read_96
      · replace h := it_f c1 h
        refine lv_aload_n hx hb dX5_read_14 rfl (lv_at hl 1 rfl) ?_
        refine lv_iload_n hx hb dX5_read_15 rfl (lv_at hl 2 rfl) ?_
        obtain ⟨r6, hq5, h⟩ := bn_x h
        refine rc_i hS (run_V hC wX9_at k298 (e_1 G _) rfl hP hS (As := [.int y2]) (rest := []) (mX9_at l G Rm hq5) rfl hl.1 (Nat.le_of_ble_eq_true rfl) ⟨by decide, by decide⟩ ⟨Nat.le_refl _, Nat.le_refl _⟩ rfl dX5_read_16) (fun H locs pb7 hP hS => ?_)
        refine r_gets hC hS (hC.2.2.2.2.2.2.2.2.1.1.1) k302 dX5_read_19 ?_
        refine lv_iload_n hx hb dX5_read_22 rfl (lv_at hl 3 rfl) ?_
        by_cases c8 : y3 < (0 : Int32) ∨ 5 ≤ Int32.toNatClampNeg y3
        · cases it_t c8 h
        replace h := it_f c8 h
        refine r_ti hC hS (hC.2.2.2.2.2.2.2.2.1.1.2) c8 dX5_read_23 ?_
        refine lv_icmp_eq (tgt := 29) hx hb dX5_read_24 (by decide) (fun c9 => ?_) (fun c9 => ?_)
        · replace h := it_t c9 h
          obtain ⟨x10, ex10⟩ : ∃ y : Int32, y = y2 + 1 := ⟨_, rfl⟩
          replace h := lt_y ex10 h
          refine lv_iinc (v := x10) (lv' := [(2, .int x10), (0, .ref (gA G (hdc j0))), (1, .ref (gA G 1)), (3, .int y3)]) hx hb dX5_read_29 hl (k := 2) rfl (by rw [ex10]; rfl) (by decide) rfl (fun ls hl => ?_)
          refine lv_aload_n hx hb dX5_read_32 rfl (lv_at hl 2 rfl) ?_
          refine lv_iload_n hx hb dX5_read_33 rfl (lv_at hl 0 rfl) ?_
          obtain ⟨r12, hq11, h⟩ := bn_x h
          refine rc_i hS (run_S hC wX5_digitsAt k304 hP hS (As := [.ref (gA G 1), .int x10]) (rest := []) (mX5_digitsAt l G Rm hq11) rfl hl.1 (Nat.le_of_ble_eq_true rfl) ⟨by decide, by decide⟩ ⟨Nat.le_refl _, Nat.le_refl _⟩ rfl dX5_read_34) (fun H locs pb13 hP hS => ?_)
          refine lv_istore (lv' := [(4, .int r12), (2, .int x10), (0, .ref (gA G (hdc j0))), (1, .ref (gA G 1)), (3, .int y3)]) hx hb dX5_read_37 hl (by decide) rfl (fun ls hl => ?_)
          refine lv_aload_n hx hb dX5_read_39 rfl (lv_at hl 3 rfl) ?_
          refine lv_iload_n hx hb dX5_read_40 rfl (lv_at hl 1 rfl) ?_
          refine lv_iload hx hb dX5_read_41 (lv_at hl 0 rfl) ?_
          obtain ⟨r15, hq14, h⟩ := bn_x h
          refine rc_i hS (run_S hC wX5_valueAt k310 hP hS (As := [.ref (gA G 1), .int x10, .int r12]) (rest := []) (mX5_valueAt l G Rm hq14) rfl hl.1 (Nat.le_of_ble_eq_true rfl) ⟨by decide, by decide⟩ ⟨Nat.le_refl _, Nat.le_refl _⟩ rfl dX5_read_43) (fun H locs pb16 hP hS => ?_)
          refine lv_istore (lv' := [(5, .int r15), (4, .int r12), (2, .int x10), (0, .ref (gA G (hdc j0))), (1, .ref (gA G 1)), (3, .int y3)]) hx hb dX5_read_46 hl (by decide) rfl (fun ls hl => ?_)
          refine lv_iload hx hb dX5_read_48 (lv_at hl 1 rfl) ?_
          refine lv_if_eq (tgt := 62) hx hb dX5_read_50 (by decide) (fun c17 => ?_) (fun c17 => ?_)
          · replace h := it_t c17 h
            refine lv_iload_n hx hb dX5_read_62 rfl (lv_at hl 2 rfl) ?_
            exact re_i' hC hr hP hS (pr_1 h) (congrArg (fun Z : Mm => (Z, Rm)) (pr_2 h)) dX5_read_63
          · replace h := it_f c17 h
            refine lv_iload_n hx hb dX5_read_53 rfl (lv_at hl 5 rfl) ?_
            refine lv_iload hx hb dX5_read_54 (lv_at hl 0 rfl) ?_
            obtain ⟨r19, hq18, h⟩ := bn_x h
            refine rc_i hS (run_S hC wX5_mayBe k313 hP hS (As := [.int y3, .int r15]) (rest := []) (mX5_mayBe l G Rm hq18) rfl hl.1 (Nat.le_of_ble_eq_true rfl) ⟨by decide, by decide⟩ ⟨Nat.le_refl _, Nat.le_refl _⟩ rfl dX5_read_56) (fun H locs pb20 hP hS => ?_)
            refine lv_if_ne (tgt := 64) hx hb dX5_read_59 (by decide) (fun c21 => ?_) (fun c21 => ?_)
            · replace h := it_f c21 h
              refine lv_aload_n hx hb dX5_read_64 rfl (lv_at hl 3 rfl) ?_
              refine r_get (v := .ref (gA G (hdn j0))) hC inX5 hP (e_hc G _ hj0) rfl 0 (by decide) rfl k44 rfl dX5_read_65 ?_
              refine lv_iload_n hx hb dX5_read_68 rfl (lv_at hl 5 rfl) ?_
              refine lv_iload hx hb dX5_read_69 (lv_at hl 0 rfl) ?_
              by_cases c22 : y3 < (0 : Int32) ∨ 5 ≤ Int32.toNatClampNeg y3
              · cases it_t c22 h
              replace h := it_f c22 h
              obtain ⟨C23, eC23⟩ : ∃ Z : Mm, Z = wrI C (hdn j0) (Int32.toNatClampNeg y3) r15 := ⟨_, rfl⟩
              replace h := lt_y eC23 h
              refine r_iast (X' := (C23, Rm)) hC hP hS (e_hn G _ hj0) c22 (a_hn G _ _ hj0 _ _ eC23) dX5_read_71 (fun H locs hP hS => ?_)
              refine lv_iload_n hx hb dX5_read_72 rfl (lv_at hl 2 rfl) ?_
              refine lv_iload hx hb dX5_read_73 (lv_at hl 1 rfl) ?_
              refine lv_iadd hx hb dX5_read_75 ?_
              refine lv_topi (fun x24 ex24 => ?_)
              replace h := lt_y ex24 h
              refine lv_istore_n (lv' := [(2, .int x24), (5, .int r15), (4, .int r12), (0, .ref (gA G (hdc j0))), (1, .ref (gA G 1)), (3, .int y3)]) hx hb dX5_read_76 rfl hl (by decide) rfl (fun ls hl => ?_)
              obtain ⟨x25, ex25⟩ : ∃ y : Int32, y = y3 + 1 := ⟨_, rfl⟩
              replace h := lt_y ex25 h
              refine lv_iinc (v := x25) (lv' := [(3, .int x25), (2, .int x24), (5, .int r15), (4, .int r12), (0, .ref (gA G (hdc j0))), (1, .ref (gA G 1))]) hx hb dX5_read_77 hl (k := 5) rfl (by rw [ex25]; rfl) (by decide) rfl (fun ls hl => ?_)
              refine lv_goto (tgt := 9) hx hb dX5_read_80 (by decide) ?_
              exact ih x24 x25 C23 _ _ _ h (lv_sub hl [4, 5, 1, 0] rfl) hP hS
            · replace h := it_t c21 h
              refine lv_iload_n hx hb dX5_read_62 rfl (lv_at hl 2 rfl) ?_
              exact re_i' hC hr hP hS (pr_1 h) (congrArg (fun Z : Mm => (Z, Rm)) (pr_2 h)) dX5_read_63
        · replace h := it_f c9 h
          refine lv_iload_n hx hb dX5_read_27 rfl (lv_at hl 2 rfl) ?_
          exact re_i' hC hr hP hS (pr_1 h) (congrArg (fun Z : Mm => (Z, Rm)) (pr_2 h)) dX5_read_28
  unfold fX5_read at h
  refine lv_aload_n hx hb dX5_read_0 rfl (lv_at hl 0 rfl) ?_
  refine lv_iconst (v := 0) hx hb dX5_read_1 (by decide) ?_
  obtain ⟨C26, eC26⟩ : ∃ Z : Mm, Z = wrI C (hdc j0) 3 0 := ⟨_, rfl⟩
  replace h := lt_y eC26 h
  refine r_put (X' := (C26, Rm)) hC inX5 tyX5 tyX5_ok nmX5 hP hS (e_hc G _ hj0) rfl 3 (by decide) rfl k47 rfl (v := .int 0) rfl rfl (Nat.le_of_ble_eq_true rfl) (p_hc G _ _ hj0 eC26) dX5_read_2 (fun H locs hP hS => ?_)
  refine lv_iconst (v := 0) hx hb dX5_read_5 (by decide) ?_
  refine lv_istore_n (lv' := [(2, .int 0), (0, .ref (gA G (hdc j0))), (1, .ref (gA G 1))]) hx hb dX5_read_6 rfl hl (by decide) rfl (fun ls hl => ?_)
  refine lv_iconst (v := 0) hx hb dX5_read_7 (by decide) ?_
  refine lv_istore_n (lv' := [(3, .int 0), (2, .int 0), (0, .ref (gA G (hdc j0))), (1, .ref (gA G 1))]) hx hb dX5_read_8 rfl hl (by decide) rfl (fun ls hl => ?_)
  exact bl9 n 0 0 C26 _ _ _ h (lv_sub hl [2, 3, 1, 0] rfl) hP hS
set_option maxHeartbeats 4000000 in
set_option maxRecDepth 100000 in
theorem mX5_become (l : Launch) (G : gp) (Rm : Mm) {j0 : Nat} {j1 : Nat} (hj0 : j0 < 7) (hj1 : j1 < 7) {C : Mm} {C0 : Mm} (h : fX5_become j0 j1 C = some C0) : Met l yX5_become (wsy yX5_become cX5_become 2 none) (rmv 1 40) (va_Pc [.ref (gA G (hdc j0)), .ref (gA G (hdc j1))] (Rl G (C, Rm))) (Qv G (C0, Rm)) 0 0 (lwA G) := by
  refine met_i [.ref (gA G (hdc j0)), .ref (gA G (hdc j1))] wX5_become.2.2.2.2.2 (Nat.le_of_ble_eq_true rfl) ?_
  intro p e s m args below meth c ls hC hr hP hl
  have hC : Cx G p s m args meth c cX5_become RX5 2 := hC
  have hx := hC.1
  have hb := hC.2.1
  have hown := hC.2.2.2.1
  have hts := hC.2.2.2.2.1
  have hS : va_S (lwA G) s.heap s.heap [] := va_S.rf
  have hl : lv_has ls 2 [(0, .ref (gA G (hdc j0))), (1, .ref (gA G (hdc j1)))] := hl
  unfold fX5_become at h
  refine lv_aload_n hx hb dX5_become_0 rfl (lv_at hl 1 rfl) ?_
  refine r_get (v := .ref (gA G (hdn j1))) hC inX5 hP (e_hc G _ hj1) rfl 0 (by decide) rfl k44 rfl dX5_become_1 ?_
  refine lv_iconst (v := 0) hx hb dX5_become_4 (by decide) ?_
  refine lv_aload_n hx hb dX5_become_5 rfl (lv_at hl 0 rfl) ?_
  refine r_get (v := .ref (gA G (hdn j0))) hC inX5 hP (e_hc G _ hj0) rfl 0 (by decide) rfl k44 rfl dX5_become_6 ?_
  refine lv_iconst (v := 0) hx hb dX5_become_9 (by decide) ?_
  refine lv_iconst (v := 5) hx hb dX5_become_10 (by decide) ?_
  by_cases c1 : 0 < (0 : Int32) ∨ 0 < (0 : Int32) ∨ 5 < (0 : Int32) ∨ 5 < (Int32.toNatClampNeg 0) + (Int32.toNatClampNeg 5) ∨ 5 < (Int32.toNatClampNeg 0) + (Int32.toNatClampNeg 5)
  · cases it_t c1 h
  replace h := it_f c1 h
  obtain ⟨C2, eC2⟩ : ∃ Z : Mm, Z = cpI C (hdn j1) (Int32.toNatClampNeg 0) (hdn j0) (Int32.toNatClampNeg 0) (Int32.toNatClampNeg 5) := ⟨_, rfl⟩
  replace h := lt_y eC2 h
  refine r_cpI (X' := (C2, Rm)) hC (rest := []) k329 k331 k330 k12 hl.1 hP hS (e_hn G _ hj1) (e_hn G _ hj0) c1 (ac_hn G _ _ hj0 _ _ _ _ eC2) (by decide) (Nat.le_of_ble_eq_true rfl) dX5_become_11 (fun H locs hP hS => ?_)
  refine lv_aload_n hx hb dX5_become_14 rfl (lv_at hl 1 rfl) ?_
  refine r_get (v := .ref (gA G (hdp j1))) hC inX5 hP (e_hc G _ hj1) rfl 1 (by decide) rfl k45 rfl dX5_become_15 ?_
  refine lv_iconst (v := 0) hx hb dX5_become_18 (by decide) ?_
  refine lv_aload_n hx hb dX5_become_19 rfl (lv_at hl 0 rfl) ?_
  refine r_get (v := .ref (gA G (hdp j0))) hC inX5 hP (e_hc G _ hj0) rfl 1 (by decide) rfl k45 rfl dX5_become_20 ?_
  refine lv_iconst (v := 0) hx hb dX5_become_23 (by decide) ?_
  refine lv_aload_n hx hb dX5_become_24 rfl (lv_at hl 1 rfl) ?_
  refine r_get (v := .int (C2.1 (hdc j1) 3)) hC inX5 hP (e_hc G _ hj1) rfl 3 (by decide) rfl k47 rfl dX5_become_25 ?_
  by_cases c3 : 0 < (0 : Int32) ∨ 0 < (0 : Int32) ∨ (C2.1 (hdc j1) 3) < (0 : Int32) ∨ 60 < (Int32.toNatClampNeg 0) + (Int32.toNatClampNeg (C2.1 (hdc j1) 3)) ∨ 60 < (Int32.toNatClampNeg 0) + (Int32.toNatClampNeg (C2.1 (hdc j1) 3))
  · cases it_t c3 h
  replace h := it_f c3 h
  obtain ⟨C4, eC4⟩ : ∃ Z : Mm, Z = cpI C2 (hdp j1) (Int32.toNatClampNeg 0) (hdp j0) (Int32.toNatClampNeg 0) (Int32.toNatClampNeg (C2.1 (hdc j1) 3)) := ⟨_, rfl⟩
  replace h := lt_y eC4 h
  refine r_cpI (X' := (C4, Rm)) hC (rest := []) k329 k331 k330 k12 hl.1 hP hS (e_hp G _ hj1) (e_hp G _ hj0) c3 (ac_hp G _ _ hj0 _ _ _ _ eC4) (by decide) (Nat.le_of_ble_eq_true rfl) dX5_become_28 (fun H locs hP hS => ?_)
  refine lv_aload_n hx hb dX5_become_31 rfl (lv_at hl 1 rfl) ?_
  refine r_get (v := .ref (gA G (hdk j1))) hC inX5 hP (e_hc G _ hj1) rfl 2 (by decide) rfl k46 rfl dX5_become_32 ?_
  refine lv_iconst (v := 0) hx hb dX5_become_35 (by decide) ?_
  refine lv_aload_n hx hb dX5_become_36 rfl (lv_at hl 0 rfl) ?_
  refine r_get (v := .ref (gA G (hdk j0))) hC inX5 hP (e_hc G _ hj0) rfl 2 (by decide) rfl k46 rfl dX5_become_37 ?_
  refine lv_iconst (v := 0) hx hb dX5_become_40 (by decide) ?_
  refine lv_aload_n hx hb dX5_become_41 rfl (lv_at hl 1 rfl) ?_
  refine r_get (v := .int (C4.1 (hdc j1) 3)) hC inX5 hP (e_hc G _ hj1) rfl 3 (by decide) rfl k47 rfl dX5_become_42 ?_
  by_cases c5 : 0 < (0 : Int32) ∨ 0 < (0 : Int32) ∨ (C4.1 (hdc j1) 3) < (0 : Int32) ∨ 60 < (Int32.toNatClampNeg 0) + (Int32.toNatClampNeg (C4.1 (hdc j1) 3)) ∨ 60 < (Int32.toNatClampNeg 0) + (Int32.toNatClampNeg (C4.1 (hdc j1) 3))
  · cases it_t c5 h
  replace h := it_f c5 h
  obtain ⟨C6, eC6⟩ : ∃ Z : Mm, Z = cpI C4 (hdk j1) (Int32.toNatClampNeg 0) (hdk j0) (Int32.toNatClampNeg 0) (Int32.toNatClampNeg (C4.1 (hdc j1) 3)) := ⟨_, rfl⟩
  replace h := lt_y eC6 h
  refine r_cpI (X' := (C6, Rm)) hC (rest := []) k329 k331 k330 k12 hl.1 hP hS (e_hk G _ hj1) (e_hk G _ hj0) c5 (ac_hk G _ _ hj0 _ _ _ _ eC6) (by decide) (Nat.le_of_ble_eq_true rfl) dX5_become_45 (fun H locs hP hS => ?_)
  refine lv_aload_n hx hb dX5_become_48 rfl (lv_at hl 0 rfl) ?_
  refine lv_aload_n hx hb dX5_become_49 rfl (lv_at hl 1 rfl) ?_
  refine r_get (v := .int (C6.1 (hdc j1) 3)) hC inX5 hP (e_hc G _ hj1) rfl 3 (by decide) rfl k47 rfl dX5_become_50 ?_
  obtain ⟨C7, eC7⟩ : ∃ Z : Mm, Z = wrI C6 (hdc j0) 3 (C6.1 (hdc j1) 3) := ⟨_, rfl⟩
  replace h := lt_y eC7 h
  refine r_put (X' := (C7, Rm)) hC inX5 tyX5 tyX5_ok nmX5 hP hS (e_hc G _ hj0) rfl 3 (by decide) rfl k47 rfl (v := .int (C6.1 (hdc j1) 3)) rfl rfl (Nat.le_of_ble_eq_true rfl) (p_hc G _ _ hj0 eC7) dX5_become_53 (fun H locs hP hS => ?_)
  exact re_v' hC hr hP hS (congrArg (fun Z : Mm => (Z, Rm)) (Option.some.inj h)) dX5_become_56
set_option maxHeartbeats 4000000 in
set_option maxRecDepth 100000 in
theorem mX5_learntCount (l : Launch) (G : gp) (Rm : Mm) {n : Nat} {j0 : Nat} (hj0 : j0 < 7) {C : Mm} {r0 : Int32} (h : fX5_learntCount n j0 C = some r0) : Met l yX5_learntCount (wsy yX5_learntCount cX5_learntCount 3 (some .int)) (rmv 0 0) (va_Pc [.ref (gA G (hdc j0))] (Rl G (C, Rm))) (Qi G PT r0 (C, Rm)) 0 0 (lwA G) := by
  refine met_i [.ref (gA G (hdc j0))] wX5_learntCount.2.2.2.2.2 (Nat.le_of_ble_eq_true rfl) ?_
  intro p e s m args below meth c ls hC hr hP hl
  have hC : Cx G p s m args meth c cX5_learntCount RX5 3 := hC
  have hx := hC.1
  have hb := hC.2.1
  have hown := hC.2.2.2.1
  have hts := hC.2.2.2.2.1
  have hS : va_S (lwA G) s.heap s.heap [] := va_S.rf
  have hl : lv_has ls 3 [(0, .ref (gA G (hdc j0)))] := hl
  have bl25 : ∀ (k4 : Int32 → Int32 → Mm → Option Int32) (hk4 : ∀ (y1 : Int32) (y2 : Int32) (C : Mm) (H : Heap) (locs : List Loc) (ls : Array Slot), k4 y1 y2 C = some r0 → lv_has ls 3 [(0, .ref (gA G (hdc j0))), (1, .int y1), (2, .int y2)] → va_P (gD G) vwCl (wld G (C, Rm)) H → va_S (lwA G) s.heap H locs → W p l e (rmv 0 0) s m args below meth c H locs 0 0 (MQ below (Qi G PT r0 (C, Rm)) args s 0 0 (lwA G)) (F0 m 4 ls [])), ∀ (y1 : Int32) (y2 : Int32) (C : Mm) (H : Heap) (locs : List Loc) (ls : Array Slot), fX5_learntCount_b25 n j0 k4 y1 y2 C = some r0 → lv_has ls 3 [(0, .ref (gA G (hdc j0))), (1, .int y1), (2, .int y2)] → va_P (gD G) vwCl (wld G (C, Rm)) H → va_S (lwA G) s.heap H locs → W p l e (rmv 0 0) s m args below meth c H locs 0 0 (MQ below (Qi G PT r0 (C, Rm)) args s 0 0 (lwA G)) (F0 m 25 ls []) := by
    intro k4 hk4 y1 y2 C H locs ls h hl hP hS
    unfold fX5_learntCount_b25 at h
    obtain ⟨x1, ex1⟩ : ∃ y : Int32, y = y2 + 1 := ⟨_, rfl⟩
    replace h := lt_y ex1 h
    refine lv_iinc (v := x1) (lv' := [(2, .int x1), (0, .ref (gA G (hdc j0))), (1, .int y1)]) hx hb dX5_learntCount_25 hl (k := 2) rfl (by rw [ex1]; rfl) (by decide) rfl (fun ls hl => ?_)
    refine lv_goto (tgt := 4) hx hb dX5_learntCount_28 (by decide) ?_
    exact hk4 y1 x1 C _ _ _ h (lv_sub hl [1, 2, 0] rfl) hP hS
  have bl4 : ∀ (fu : Nat), ∀ (y1 : Int32) (y2 : Int32) (C : Mm) (H : Heap) (locs : List Loc) (ls : Array Slot), fX5_learntCount_h4 n j0 fu y1 y2 C = some r0 → lv_has ls 3 [(0, .ref (gA G (hdc j0))), (1, .int y1), (2, .int y2)] → va_P (gD G) vwCl (wld G (C, Rm)) H → va_S (lwA G) s.heap H locs → W p l e (rmv 0 0) s m args below meth c H locs 0 0 (MQ below (Qi G PT r0 (C, Rm)) args s 0 0 (lwA G)) (F0 m 4 ls []) := by
    intro fu
    induction fu with
    | zero =>
      intro y1 y2 C H locs ls h hl hP hS
      rw [fX5_learntCount_h4.eq_1] at h
      cases h
    | succ fu ih =>
      intro y1 y2 C H locs ls h hl hP hS
      rw [fX5_learntCount_h4.eq_2] at h
      refine lv_iload_n hx hb dX5_learntCount_4 rfl (lv_at hl 2 rfl) ?_
      refine lv_aload_n hx hb dX5_learntCount_5 rfl (lv_at hl 0 rfl) ?_
      refine r_get (v := .int (C.1 (hdc j0) 3)) hC inX5 hP (e_hc G _ hj0) rfl 3 (by decide) rfl k47 rfl dX5_learntCount_6 ?_
      refine lv_icmp_ge (tgt := 31) hx hb dX5_learntCount_9 (by decide) (fun c2 => ?_) (fun c2 => ?_)
      · replace h := it_t c2 h
        refine lv_iload_n hx hb dX5_learntCount_31 rfl (lv_at hl 1 rfl) ?_
        exact re_i' hC hr hP hS (Option.some.inj h) rfl dX5_learntCount_32
      · replace h := it_f c2 h
        refine lv_aload_n hx hb dX5_learntCount_12 rfl (lv_at hl 0 rfl) ?_
        refine r_get (v := .ref (gA G (hdk j0))) hC inX5 hP (e_hc G _ hj0) rfl 2 (by decide) rfl k46 rfl dX5_learntCount_13 ?_
        refine lv_iload_n hx hb dX5_learntCount_16 rfl (lv_at hl 2 rfl) ?_
        by_cases c3 : y2 < (0 : Int32) ∨ 60 ≤ Int32.toNatClampNeg y2
        · cases it_t c3 h
        replace h := it_f c3 h
        refine r_iald hC hP (f := C.1 (hdk j0)) (e_hk G _ hj0) c3 dX5_learntCount_17 ?_
        refine lv_iconst (v := 3) hx hb dX5_learntCount_18 (by decide) ?_
        refine lv_icmp_lt (tgt := 25) hx hb dX5_learntCount_19 (by decide) (fun c4 => ?_) (fun c4 => ?_)
        · replace h := it_t c4 h
          exact bl25 (fX5_learntCount_h4 n j0 fu) ih y1 y2 C _ _ _ h (lv_sub hl [0, 1, 2] rfl) hP hS
        · replace h := it_f c4 h
          obtain ⟨x5, ex5⟩ : ∃ y : Int32, y = y1 + 1 := ⟨_, rfl⟩
          replace h := lt_y ex5 h
          refine lv_iinc (v := x5) (lv' := [(1, .int x5), (0, .ref (gA G (hdc j0))), (2, .int y2)]) hx hb dX5_learntCount_22 hl (k := 1) rfl (by rw [ex5]; rfl) (by decide) rfl (fun ls hl => ?_)
          exact bl25 (fX5_learntCount_h4 n j0 fu) ih x5 y2 C _ _ _ h (lv_sub hl [1, 0, 2] rfl) hP hS
  unfold fX5_learntCount at h
  refine lv_iconst (v := 0) hx hb dX5_learntCount_0 (by decide) ?_
  refine lv_istore_n (lv' := [(1, .int 0), (0, .ref (gA G (hdc j0)))]) hx hb dX5_learntCount_1 rfl hl (by decide) rfl (fun ls hl => ?_)
  refine lv_iconst (v := 0) hx hb dX5_learntCount_2 (by decide) ?_
  refine lv_istore_n (lv' := [(2, .int 0), (1, .int 0), (0, .ref (gA G (hdc j0)))]) hx hb dX5_learntCount_3 rfl hl (by decide) rfl (fun ls hl => ?_)
  exact bl4 n 0 0 C _ _ _ h (lv_sub hl [2, 1, 0] rfl) hP hS
set_option maxHeartbeats 4000000 in
set_option maxRecDepth 100000 in
theorem mX10_canBeTaught (l : Launch) (G : gp) (Rm : Mm) {p0 : Int32} {C : Mm} {r0 : Int32} (h : fX10_canBeTaught p0 = r0) : Met l yX10_canBeTaught (wsy yX10_canBeTaught cX10_canBeTaught 1 (some .boolean)) (rmv 0 0) (va_Pc [.int p0] (Rl G (C, Rm))) (Qi G PZ r0 (C, Rm)) 0 0 (lwA G) := by
  refine met_i [.int p0] wX10_canBeTaught.2.2.2.2 (Nat.le_of_ble_eq_true rfl) ?_
  intro p e s m args below meth c ls hC hr hP hl
  have hC : Cx G p s m args meth c cX10_canBeTaught RX10 1 := hC
  have hx := hC.1
  have hb := hC.2.1
  have hown := hC.2.2.2.1
  have hts := hC.2.2.2.2.1
  have hS : va_S (lwA G) s.heap s.heap [] := va_S.rf
  have hl : lv_has ls 1 [(0, .int p0)] := hl
  unfold fX10_canBeTaught at h
  refine lv_iload_n hx hb dX10_canBeTaught_0 rfl (lv_at hl 0 rfl) ?_
  refine lv_sipush (v := 10000) hx hb dX10_canBeTaught_1 (by decide) ?_
  refine lv_idiv hx hb dX10_canBeTaught_4 (by decide) ?_
  refine lv_bipush (v := 99) hx hb dX10_canBeTaught_5 (by decide) ?_
  refine lv_icmp_gt (tgt := 24) hx hb dX10_canBeTaught_7 (by decide) (fun c1 => ?_) (fun c1 => ?_)
  · replace h := it_t c1 h
    refine lv_iconst (v := 0) hx hb dX10_canBeTaught_24 (by decide) ?_
    exact re_z' hC hr hP hS PZ0 h rfl dX10_canBeTaught_25
  · replace h := it_f c1 h
    refine lv_iload_n hx hb dX10_canBeTaught_10 rfl (lv_at hl 0 rfl) ?_
    refine lv_sipush (v := 10000) hx hb dX10_canBeTaught_11 (by decide) ?_
    refine r_irem hx hb dX10_canBeTaught_14 (by decide) ?_
    refine lv_bipush (v := 99) hx hb dX10_canBeTaught_15 (by decide) ?_
    refine lv_icmp_gt (tgt := 24) hx hb dX10_canBeTaught_17 (by decide) (fun c2 => ?_) (fun c2 => ?_)
    · replace h := it_t c2 h
      refine lv_iconst (v := 0) hx hb dX10_canBeTaught_24 (by decide) ?_
      exact re_z' hC hr hP hS PZ0 h rfl dX10_canBeTaught_25
    · replace h := it_f c2 h
      refine lv_iconst (v := 1) hx hb dX10_canBeTaught_20 (by decide) ?_
      refine lv_goto (tgt := 25) hx hb dX10_canBeTaught_21 (by decide) ?_
      exact re_z' hC hr hP hS PZ1 h rfl dX10_canBeTaught_25
set_option maxHeartbeats 4000000 in
set_option maxRecDepth 100000 in
theorem mX5_hear (l : Launch) (G : gp) (Rm : Mm) {n : Nat} {j0 : Nat} (hj0 : j0 < 7) {p1 : Int32} {C : Mm} {r0 : Int32} {C0 : Mm} (h : fX5_hear n j0 p1 C = some (r0, C0)) : Met l yX5_hear (wsy yX5_hear cX5_hear 3 (some .int)) (rmv 1 23) (va_Pc [.ref (gA G (hdc j0)), .int p1] (Rl G (C, Rm))) (Qi G PT r0 (C0, Rm)) 0 0 (lwA G) := by
  refine met_i [.ref (gA G (hdc j0)), .int p1] wX5_hear.2.2.2.2.2 (Nat.le_of_ble_eq_true rfl) ?_
  intro p e s m args below meth c ls hC hr hP hl
  have hC : Cx G p s m args meth c cX5_hear RX5 3 := hC
  have hx := hC.1
  have hb := hC.2.1
  have hown := hC.2.2.2.1
  have hts := hC.2.2.2.2.1
  have hS : va_S (lwA G) s.heap s.heap [] := va_S.rf
  have hl : lv_has ls 3 [(0, .ref (gA G (hdc j0))), (1, .int p1)] := hl
  have bl53 : ∀ (y2 : Int32) (C : Mm) (H : Heap) (locs : List Loc) (ls : Array Slot), fX5_hear_b53 n j0 y2 C = some (r0, C0) → lv_has ls 3 [(0, .ref (gA G (hdc j0))), (2, .int y2)] → va_P (gD G) vwCl (wld G (C, Rm)) H → va_S (lwA G) s.heap H locs → W p l e (rmv 1 23) s m args below meth c H locs 0 0 (MQ below (Qi G PT r0 (C0, Rm)) args s 0 0 (lwA G)) (F0 m 53 ls []) := by
    intro y2 C H locs ls h hl hP hS
    unfold fX5_hear_b53 at h
    refine lv_aload_n hx hb dX5_hear_53 rfl (lv_at hl 0 rfl) ?_
    refine r_get (v := .ref (gA G (hdk j0))) hC inX5 hP (e_hc G _ hj0) rfl 2 (by decide) rfl k46 rfl dX5_hear_54 ?_
    refine lv_iload_n hx hb dX5_hear_57 rfl (lv_at hl 1 rfl) ?_
    refine lv_dup2_11 hx hb dX5_hear_58 rfl rfl ?_
    by_cases c1 : y2 < (0 : Int32) ∨ 60 ≤ Int32.toNatClampNeg y2
    · cases it_t c1 h
    replace h := it_f c1 h
    refine r_iald hC hP (f := C.1 (hdk j0)) (e_hk G _ hj0) c1 dX5_hear_59 ?_
    refine lv_iconst (v := 1) hx hb dX5_hear_60 (by decide) ?_
    refine lv_iadd hx hb dX5_hear_61 ?_
    by_cases c2 : y2 < (0 : Int32) ∨ 60 ≤ Int32.toNatClampNeg y2
    · cases it_t c2 h
    replace h := it_f c2 h
    obtain ⟨C3, eC3⟩ : ∃ Z : Mm, Z = wrI C (hdk j0) (Int32.toNatClampNeg y2) ((C.1 (hdk j0) (Int32.toNatClampNeg y2)) + 1) := ⟨_, rfl⟩
    replace h := lt_y eC3 h
    refine r_iast (X' := (C3, Rm)) hC hP hS (e_hk G _ hj0) c2 (a_hk G _ _ hj0 _ _ eC3) dX5_hear_62 (fun H locs hP hS => ?_)
    refine lv_aload_n hx hb dX5_hear_63 rfl (lv_at hl 0 rfl) ?_
    refine r_get (v := .ref (gA G (hdk j0))) hC inX5 hP (e_hc G _ hj0) rfl 2 (by decide) rfl k46 rfl dX5_hear_64 ?_
    refine lv_iload_n hx hb dX5_hear_67 rfl (lv_at hl 1 rfl) ?_
    by_cases c4 : y2 < (0 : Int32) ∨ 60 ≤ Int32.toNatClampNeg y2
    · cases it_t c4 h
    replace h := it_f c4 h
    refine r_iald hC hP (f := C3.1 (hdk j0)) (e_hk G _ hj0) c4 dX5_hear_68 ?_
    exact re_i' hC hr hP hS (pr_1 h) (congrArg (fun Z : Mm => (Z, Rm)) (pr_2 h)) dX5_hear_69
  unfold fX5_hear at h
  refine lv_aload_n hx hb dX5_hear_0 rfl (lv_at hl 0 rfl) ?_
  refine lv_iload_n hx hb dX5_hear_1 rfl (lv_at hl 1 rfl) ?_
  obtain ⟨r6, hq5, h⟩ := bn_x h
  refine rc_i hS (run_V hC wX5_placeOf k469 (e_hc G _ hj0) rfl hP hS (As := [.int p1]) (rest := []) (mX5_placeOf l G Rm hj0 hq5) rfl hl.1 (Nat.le_of_ble_eq_true rfl) ⟨by decide, by decide⟩ ⟨Nat.le_refl _, Nat.le_refl _⟩ rfl dX5_hear_2) (fun H locs pb7 hP hS => ?_)
  refine lv_istore_n (lv' := [(2, .int r6), (0, .ref (gA G (hdc j0))), (1, .int p1)]) hx hb dX5_hear_5 rfl hl (by decide) rfl (fun ls hl => ?_)
  refine lv_iload_n hx hb dX5_hear_6 rfl (lv_at hl 2 rfl) ?_
  refine rc_i hS (run_SN hC wX10_canBeTaught hC.2.2.2.2.2.2.2.2.2.2 hP hS (As := [.int p1]) (rest := []) (mX10_canBeTaught l G Rm rfl) rfl hl.1 (Nat.le_of_ble_eq_true rfl) ⟨by decide, by decide⟩ ⟨Nat.le_refl _, Nat.le_refl _⟩ rfl dX5_hear_7) (fun H locs pb9 hP hS => ?_)
  refine lv_if_eq (tgt := 19) hx hb dX5_hear_10 (by decide) (fun c10 => ?_) (fun c10 => ?_)
  · replace h := it_t c10 h
    refine lv_iconst (v := 0) hx hb dX5_hear_19 (by decide) ?_
    exact re_i' hC hr hP hS (pr_1 h) (congrArg (fun Z : Mm => (Z, Rm)) (pr_2 h)) dX5_hear_20
  · replace h := it_f c10 h
    refine lv_iload_n hx hb dX5_hear_13 rfl (lv_at hl 0 rfl) ?_
    refine lv_bipush (v := 60) hx hb dX5_hear_14 (by decide) ?_
    refine lv_icmp_lt (tgt := 21) hx hb dX5_hear_16 (by decide) (fun c11 => ?_) (fun c11 => ?_)
    · replace h := it_t c11 h
      refine lv_iload_n hx hb dX5_hear_21 rfl (lv_at hl 0 rfl) ?_
      refine lv_aload_n hx hb dX5_hear_22 rfl (lv_at hl 1 rfl) ?_
      refine r_get (v := .int (C.1 (hdc j0) 3)) hC inX5 hP (e_hc G _ hj0) rfl 3 (by decide) rfl k47 rfl dX5_hear_23 ?_
      refine lv_icmp_ne (tgt := 53) hx hb dX5_hear_26 (by decide) (fun c12 => ?_) (fun c12 => ?_)
      · replace h := it_f c12 h
        exact bl53 r6 C _ _ _ h (lv_sub hl [1, 0] rfl) hP hS
      · replace h := it_t c12 h
        refine lv_aload_n hx hb dX5_hear_29 rfl (lv_at hl 1 rfl) ?_
        refine r_get (v := .ref (gA G (hdp j0))) hC inX5 hP (e_hc G _ hj0) rfl 1 (by decide) rfl k45 rfl dX5_hear_30 ?_
        refine lv_iload_n hx hb dX5_hear_33 rfl (lv_at hl 0 rfl) ?_
        refine lv_iload_n hx hb dX5_hear_34 rfl (lv_at hl 2 rfl) ?_
        by_cases c13 : r6 < (0 : Int32) ∨ 60 ≤ Int32.toNatClampNeg r6
        · cases it_t c13 h
        replace h := it_f c13 h
        obtain ⟨C14, eC14⟩ : ∃ Z : Mm, Z = wrI C (hdp j0) (Int32.toNatClampNeg r6) p1 := ⟨_, rfl⟩
        replace h := lt_y eC14 h
        refine r_iast (X' := (C14, Rm)) hC hP hS (e_hp G _ hj0) c13 (a_hp G _ _ hj0 _ _ eC14) dX5_hear_35 (fun H locs hP hS => ?_)
        refine lv_aload_n hx hb dX5_hear_36 rfl (lv_at hl 1 rfl) ?_
        refine r_get (v := .ref (gA G (hdk j0))) hC inX5 hP (e_hc G _ hj0) rfl 2 (by decide) rfl k46 rfl dX5_hear_37 ?_
        refine lv_iload_n hx hb dX5_hear_40 rfl (lv_at hl 0 rfl) ?_
        refine lv_iconst (v := 0) hx hb dX5_hear_41 (by decide) ?_
        by_cases c15 : r6 < (0 : Int32) ∨ 60 ≤ Int32.toNatClampNeg r6
        · cases it_t c15 h
        replace h := it_f c15 h
        obtain ⟨C16, eC16⟩ : ∃ Z : Mm, Z = wrI C14 (hdk j0) (Int32.toNatClampNeg r6) 0 := ⟨_, rfl⟩
        replace h := lt_y eC16 h
        refine r_iast (X' := (C16, Rm)) hC hP hS (e_hk G _ hj0) c15 (a_hk G _ _ hj0 _ _ eC16) dX5_hear_42 (fun H locs hP hS => ?_)
        refine lv_aload_n hx hb dX5_hear_43 rfl (lv_at hl 1 rfl) ?_
        refine lv_dup hx hb dX5_hear_44 rfl ?_
        refine r_get (v := .int (C16.1 (hdc j0) 3)) hC inX5 hP (e_hc G _ hj0) rfl 3 (by decide) rfl k47 rfl dX5_hear_45 ?_
        refine lv_iconst (v := 1) hx hb dX5_hear_48 (by decide) ?_
        refine lv_iadd hx hb dX5_hear_49 ?_
        obtain ⟨C17, eC17⟩ : ∃ Z : Mm, Z = wrI C16 (hdc j0) 3 ((C16.1 (hdc j0) 3) + 1) := ⟨_, rfl⟩
        replace h := lt_y eC17 h
        refine r_put (X' := (C17, Rm)) hC inX5 tyX5 tyX5_ok nmX5 hP hS (e_hc G _ hj0) rfl 3 (by decide) rfl k47 rfl (v := .int ((C16.1 (hdc j0) 3) + 1)) rfl rfl (Nat.le_of_ble_eq_true rfl) (p_hc G _ _ hj0 eC17) dX5_hear_50 (fun H locs hP hS => ?_)
        exact bl53 r6 C17 _ _ _ h (lv_sub hl [1, 0] rfl) hP hS
    · replace h := it_f c11 h
      refine lv_iconst (v := 0) hx hb dX5_hear_19 (by decide) ?_
      exact re_i' hC hr hP hS (pr_1 h) (congrArg (fun Z : Mm => (Z, Rm)) (pr_2 h)) dX5_hear_20
set_option maxHeartbeats 4000000 in
set_option maxRecDepth 100000 in
theorem mX6_isNumber (l : Launch) (G : gp) (Rm : Mm) {p0 : Int64} {C : Mm} {r0 : Int32} (h : fX6_isNumber p0 = r0) : Met l yX6_isNumber (wsy yX6_isNumber cX6_isNumber 2 (some .boolean)) (rmv 0 0) (va_Pc [.long p0] (Rl G (C, Rm))) (Qi G PZ r0 (C, Rm)) 0 0 (lwA G) := by
  refine met_i [.long p0] wX6_isNumber.2.2.2.2 (Nat.le_of_ble_eq_true rfl) ?_
  intro p e s m args below meth c ls hC hr hP hl
  have hC : Cx G p s m args meth c cX6_isNumber RX6 2 := hC
  have hx := hC.1
  have hb := hC.2.1
  have hown := hC.2.2.2.1
  have hts := hC.2.2.2.2.1
  have hS : va_S (lwA G) s.heap s.heap [] := va_S.rf
  have hl : lv_has ls 2 [(0, .long p0)] := hl
  unfold fX6_isNumber at h
  refine lv_lload_n hx hb dX6_isNumber_0 rfl (lv_at hl 0 rfl) ?_
  refine lv_lconst (v := 1) hx hb dX6_isNumber_1 (by decide) ?_
  refine W.lcmp hx hb dX6_isNumber_2 ?_
  refine lv_if_lt (tgt := 18) hx hb dX6_isNumber_3 (by decide) (fun c1 => ?_) (fun c1 => ?_)
  · replace h := it_t c1 h
    refine lv_iconst (v := 0) hx hb dX6_isNumber_18 (by decide) ?_
    exact re_z' hC hr hP hS PZ0 h rfl dX6_isNumber_19
  · replace h := it_f c1 h
    refine lv_lload_n hx hb dX6_isNumber_6 rfl (lv_at hl 0 rfl) ?_
    refine lv_ldc2 hx hb (v := 999999999999999999) hown (hts _ k819) dX6_isNumber_7 ?_
    refine W.lcmp hx hb dX6_isNumber_10 ?_
    refine lv_if_gt (tgt := 18) hx hb dX6_isNumber_11 (by decide) (fun c2 => ?_) (fun c2 => ?_)
    · replace h := it_t c2 h
      refine lv_iconst (v := 0) hx hb dX6_isNumber_18 (by decide) ?_
      exact re_z' hC hr hP hS PZ0 h rfl dX6_isNumber_19
    · replace h := it_f c2 h
      refine lv_iconst (v := 1) hx hb dX6_isNumber_14 (by decide) ?_
      refine lv_goto (tgt := 19) hx hb dX6_isNumber_15 (by decide) ?_
      exact re_z' hC hr hP hS PZ1 h rfl dX6_isNumber_19
set_option maxHeartbeats 4000000 in
set_option maxRecDepth 100000 in
theorem mX6_isPower (l : Launch) (G : gp) (Rm : Mm) {p0 : Int32} {C : Mm} {r0 : Int32} (h : fX6_isPower p0 = r0) : Met l yX6_isPower (wsy yX6_isPower cX6_isPower 1 (some .boolean)) (rmv 0 0) (va_Pc [.int p0] (Rl G (C, Rm))) (Qi G PZ r0 (C, Rm)) 0 0 (lwA G) := by
  refine met_i [.int p0] wX6_isPower.2.2.2.2 (Nat.le_of_ble_eq_true rfl) ?_
  intro p e s m args below meth c ls hC hr hP hl
  have hC : Cx G p s m args meth c cX6_isPower RX6 1 := hC
  have hx := hC.1
  have hb := hC.2.1
  have hown := hC.2.2.2.1
  have hts := hC.2.2.2.2.1
  have hS : va_S (lwA G) s.heap s.heap [] := va_S.rf
  have hl : lv_has ls 1 [(0, .int p0)] := hl
  unfold fX6_isPower at h
  refine lv_iload_n hx hb dX6_isPower_0 rfl (lv_at hl 0 rfl) ?_
  refine lv_iconst (v := 2) hx hb dX6_isPower_1 (by decide) ?_
  refine lv_icmp_eq (tgt := 15) hx hb dX6_isPower_2 (by decide) (fun c1 => ?_) (fun c1 => ?_)
  · replace h := it_t c1 h
    refine lv_iconst (v := 1) hx hb dX6_isPower_15 (by decide) ?_
    refine lv_goto (tgt := 20) hx hb dX6_isPower_16 (by decide) ?_
    exact re_z' hC hr hP hS PZ1 h rfl dX6_isPower_20
  · replace h := it_f c1 h
    refine lv_iload_n hx hb dX6_isPower_5 rfl (lv_at hl 0 rfl) ?_
    refine lv_iconst (v := 3) hx hb dX6_isPower_6 (by decide) ?_
    refine lv_icmp_eq (tgt := 15) hx hb dX6_isPower_7 (by decide) (fun c2 => ?_) (fun c2 => ?_)
    · replace h := it_t c2 h
      refine lv_iconst (v := 1) hx hb dX6_isPower_15 (by decide) ?_
      refine lv_goto (tgt := 20) hx hb dX6_isPower_16 (by decide) ?_
      exact re_z' hC hr hP hS PZ1 h rfl dX6_isPower_20
    · replace h := it_f c2 h
      refine lv_iload_n hx hb dX6_isPower_10 rfl (lv_at hl 0 rfl) ?_
      refine lv_iconst (v := 5) hx hb dX6_isPower_11 (by decide) ?_
      refine lv_icmp_ne (tgt := 19) hx hb dX6_isPower_12 (by decide) (fun c3 => ?_) (fun c3 => ?_)
      · replace h := it_f c3 h
        refine lv_iconst (v := 0) hx hb dX6_isPower_19 (by decide) ?_
        exact re_z' hC hr hP hS PZ0 h rfl dX6_isPower_20
      · replace h := it_t c3 h
        refine lv_iconst (v := 1) hx hb dX6_isPower_15 (by decide) ?_
        refine lv_goto (tgt := 20) hx hb dX6_isPower_16 (by decide) ?_
        exact re_z' hC hr hP hS PZ1 h rfl dX6_isPower_20
set_option maxHeartbeats 4000000 in
set_option maxRecDepth 100000 in
theorem mX6_mostRoot (l : Launch) (G : gp) (Rm : Mm) {p0 : Int32} {C : Mm} {r0 : Int64} (h : fX6_mostRoot p0 = r0) : Met l yX6_mostRoot (wsy yX6_mostRoot cX6_mostRoot 1 (some .long)) (rmv 0 0) (va_Pc [.int p0] (Rl G (C, Rm))) (Ql G r0 (C, Rm)) 0 0 (lwA G) := by
  refine met_i [.int p0] wX6_mostRoot.2.2.2.2 (Nat.le_of_ble_eq_true rfl) ?_
  intro p e s m args below meth c ls hC hr hP hl
  have hC : Cx G p s m args meth c cX6_mostRoot RX6 1 := hC
  have hx := hC.1
  have hb := hC.2.1
  have hown := hC.2.2.2.1
  have hts := hC.2.2.2.2.1
  have hS : va_S (lwA G) s.heap s.heap [] := va_S.rf
  have hl : lv_has ls 1 [(0, .int p0)] := hl
  unfold fX6_mostRoot at h
  refine lv_iload_n hx hb dX6_mostRoot_0 rfl (lv_at hl 0 rfl) ?_
  refine lv_iconst (v := 2) hx hb dX6_mostRoot_1 (by decide) ?_
  refine lv_icmp_ne (tgt := 9) hx hb dX6_mostRoot_2 (by decide) (fun c1 => ?_) (fun c1 => ?_)
  · replace h := it_f c1 h
    refine lv_iload_n hx hb dX6_mostRoot_9 rfl (lv_at hl 0 rfl) ?_
    refine lv_iconst (v := 3) hx hb dX6_mostRoot_10 (by decide) ?_
    refine lv_icmp_ne (tgt := 20) hx hb dX6_mostRoot_11 (by decide) (fun c2 => ?_) (fun c2 => ?_)
    · replace h := it_f c2 h
      refine lv_ldc2 hx hb (v := 3982) hown (hts _ k834) dX6_mostRoot_20 ?_
      exact re_l' hC hr hP hS h rfl dX6_mostRoot_23
    · replace h := it_t c2 h
      refine lv_ldc2 hx hb (v := 1000000) hown (hts _ k833) dX6_mostRoot_14 ?_
      refine lv_goto (tgt := 23) hx hb dX6_mostRoot_17 (by decide) ?_
      exact re_l' hC hr hP hS h rfl dX6_mostRoot_23
  · replace h := it_t c1 h
    refine lv_ldc2 hx hb (v := 1000000000) hown (hts _ k832) dX6_mostRoot_5 ?_
    exact re_l' hC hr hP hS h rfl dX6_mostRoot_8
set_option maxHeartbeats 4000000 in
set_option maxRecDepth 100000 in
theorem mX6_raised (l : Launch) (G : gp) (Rm : Mm) {n : Nat} {p0 : Int64} {p2 : Int32} {C : Mm} {r0 : Int64} (h : fX6_raised n p0 p2 = some r0) : Met l yX6_raised (wsy yX6_raised cX6_raised 6 (some .long)) (rmv 0 0) (va_Pc [.long p0, .int p2] (Rl G (C, Rm))) (Ql G r0 (C, Rm)) 0 0 (lwA G) := by
  refine met_i [.long p0, .int p2] wX6_raised.2.2.2.2 (Nat.le_of_ble_eq_true rfl) ?_
  intro p e s m args below meth c ls hC hr hP hl
  have hC : Cx G p s m args meth c cX6_raised RX6 6 := hC
  have hx := hC.1
  have hb := hC.2.1
  have hown := hC.2.2.2.1
  have hts := hC.2.2.2.2.1
  have hS : va_S (lwA G) s.heap s.heap [] := va_S.rf
  have hl : lv_has ls 6 [(0, .long p0), (2, .int p2)] := hl
  have bl5 : ∀ (fu : Nat), ∀ (y0 : Int64) (y2 : Int32) (y3 : Int64) (y5 : Int32) (C : Mm) (H : Heap) (locs : List Loc) (ls : Array Slot), fX6_raised_h5 n fu y0 y2 y3 y5 = some r0 → lv_has ls 6 [(0, .long y0), (2, .int y2), (3, .long y3), (5, .int y5)] → va_P (gD G) vwCl (wld G (C, Rm)) H → va_S (lwA G) s.heap H locs → W p l e (rmv 0 0) s m args below meth c H locs 0 0 (MQ below (Ql G r0 (C, Rm)) args s 0 0 (lwA G)) (F0 m 5 ls []) := by
    intro fu
    induction fu with
    | zero =>
      intro y0 y2 y3 y5 C H locs ls h hl hP hS
      rw [fX6_raised_h5.eq_1] at h
      cases h
    | succ fu ih =>
      intro y0 y2 y3 y5 C H locs ls h hl hP hS
      rw [fX6_raised_h5.eq_2] at h
      refine lv_iload hx hb dX6_raised_5 (lv_at hl 3 rfl) ?_
      refine lv_iload_n hx hb dX6_raised_7 rfl (lv_at hl 1 rfl) ?_
      refine lv_icmp_ge (tgt := 21) hx hb dX6_raised_8 (by decide) (fun c1 => ?_) (fun c1 => ?_)
      · replace h := it_t c1 h
        refine lv_lload_n hx hb dX6_raised_21 rfl (lv_at hl 2 rfl) ?_
        exact re_l' hC hr hP hS (Option.some.inj h) rfl dX6_raised_22
      · replace h := it_f c1 h
        refine lv_lload_n hx hb dX6_raised_11 rfl (lv_at hl 2 rfl) ?_
        refine lv_lload_n hx hb dX6_raised_12 rfl (lv_at hl 0 rfl) ?_
        refine lv_lmul hx hb dX6_raised_13 ?_
        refine lv_topl (fun x2 ex2 => ?_)
        replace h := lt_y ex2 h
        refine lv_lstore_n (lv' := [(3, .long x2), (0, .long y0), (2, .int y2), (5, .int y5)]) hx hb dX6_raised_14 rfl hl (by decide) rfl (fun ls hl => ?_)
        obtain ⟨x3, ex3⟩ : ∃ y : Int32, y = y5 + 1 := ⟨_, rfl⟩
        replace h := lt_y ex3 h
        refine lv_iinc (v := x3) (lv' := [(5, .int x3), (3, .long x2), (0, .long y0), (2, .int y2)]) hx hb dX6_raised_15 hl (k := 3) rfl (by rw [ex3]; rfl) (by decide) rfl (fun ls hl => ?_)
        refine lv_goto (tgt := 5) hx hb dX6_raised_18 (by decide) ?_
        exact ih y0 y2 x2 x3 _ _ _ _ h (lv_sub hl [2, 3, 1, 0] rfl) hP hS
  unfold fX6_raised at h
  refine lv_lconst (v := 1) hx hb dX6_raised_0 (by decide) ?_
  refine lv_lstore_n (lv' := [(3, .long 1), (0, .long p0), (2, .int p2)]) hx hb dX6_raised_1 rfl hl (by decide) rfl (fun ls hl => ?_)
  refine lv_iconst (v := 0) hx hb dX6_raised_2 (by decide) ?_
  refine lv_istore (lv' := [(5, .int 0), (3, .long 1), (0, .long p0), (2, .int p2)]) hx hb dX6_raised_3 hl (by decide) rfl (fun ls hl => ?_)
  exact bl5 n p0 p2 1 0 _ _ _ _ h (lv_sub hl [2, 3, 1, 0] rfl) hP hS
set_option maxHeartbeats 4000000 in
set_option maxRecDepth 100000 in
theorem mX6_cutRoot (l : Launch) (G : gp) (Rm : Mm) {n : Nat} {p0 : Int64} {p2 : Int32} {C : Mm} {r0 : Int64} (h : fX6_cutRoot n p0 p2 = some r0) : Met l yX6_cutRoot (wsy yX6_cutRoot cX6_cutRoot 10 (some .long)) (rmv 1 25) (va_Pc [.long p0, .int p2] (Rl G (C, Rm))) (Ql G r0 (C, Rm)) 0 0 (lwA G) := by
  refine met_i [.long p0, .int p2] wX6_cutRoot.2.2.2.2 (Nat.le_of_ble_eq_true rfl) ?_
  intro p e s m args below meth c ls hC hr hP hl
  have hC : Cx G p s m args meth c cX6_cutRoot RX6 10 := hC
  have hx := hC.1
  have hb := hC.2.1
  have hown := hC.2.2.2.1
  have hts := hC.2.2.2.2.1
  have hS : va_S (lwA G) s.heap s.heap [] := va_S.rf
  have hl : lv_has ls 10 [(0, .long p0), (2, .int p2)] := hl
  have bl60 : ∀ (k11 : Int64 → Int32 → Int64 → Int64 → Int32 → Option Int64) (hk11 : ∀ (y0 : Int64) (y2 : Int32) (y3 : Int64) (y5 : Int64) (y7 : Int32) (C : Mm) (H : Heap) (locs : List Loc) (ls : Array Slot), k11 y0 y2 y3 y5 y7 = some r0 → lv_has ls 10 [(0, .long y0), (2, .int y2), (3, .long y3), (5, .long y5), (7, .int y7)] → va_P (gD G) vwCl (wld G (C, Rm)) H → va_S (lwA G) s.heap H locs → W p l e (rmv 1 25) s m args below meth c H locs 0 0 (MQ below (Ql G r0 (C, Rm)) args s 0 0 (lwA G)) (F0 m 11 ls [])), ∀ (y0 : Int64) (y2 : Int32) (y3 : Int64) (y5 : Int64) (y7 : Int32) (C : Mm) (H : Heap) (locs : List Loc) (ls : Array Slot), fX6_cutRoot_b60 n k11 y0 y2 y3 y5 y7 = some r0 → lv_has ls 10 [(0, .long y0), (2, .int y2), (3, .long y3), (5, .long y5), (7, .int y7)] → va_P (gD G) vwCl (wld G (C, Rm)) H → va_S (lwA G) s.heap H locs → W p l e (rmv 1 25) s m args below meth c H locs 0 0 (MQ below (Ql G r0 (C, Rm)) args s 0 0 (lwA G)) (F0 m 60 ls []) := by
    intro k11 hk11 y0 y2 y3 y5 y7 C H locs ls h hl hP hS
    unfold fX6_cutRoot_b60 at h
    obtain ⟨x1, ex1⟩ : ∃ y : Int32, y = y7 + 1 := ⟨_, rfl⟩
    replace h := lt_y ex1 h
    refine lv_iinc (v := x1) (lv' := [(7, .int x1), (0, .long y0), (2, .int y2), (3, .long y3), (5, .long y5)]) hx hb dX6_cutRoot_60 hl (k := 4) rfl (by rw [ex1]; rfl) (by decide) rfl (fun ls hl => ?_)
    refine lv_goto (tgt := 11) hx hb dX6_cutRoot_63 (by decide) ?_
    exact hk11 y0 y2 y3 y5 x1 _ _ _ _ h (lv_sub hl [1, 2, 3, 4, 0] rfl) hP hS
  have bl11 : ∀ (fu : Nat), ∀ (y0 : Int64) (y2 : Int32) (y3 : Int64) (y5 : Int64) (y7 : Int32) (C : Mm) (H : Heap) (locs : List Loc) (ls : Array Slot), fX6_cutRoot_h11 n fu y0 y2 y3 y5 y7 = some r0 → lv_has ls 10 [(0, .long y0), (2, .int y2), (3, .long y3), (5, .long y5), (7, .int y7)] → va_P (gD G) vwCl (wld G (C, Rm)) H → va_S (lwA G) s.heap H locs → W p l e (rmv 1 25) s m args below meth c H locs 0 0 (MQ below (Ql G r0 (C, Rm)) args s 0 0 (lwA G)) (F0 m 11 ls []) := by
    intro fu
    induction fu with
    | zero =>
      intro y0 y2 y3 y5 y7 C H locs ls h hl hP hS
      rw [fX6_cutRoot_h11.eq_1] at h
      cases h
    | succ fu ih =>
      intro y0 y2 y3 y5 y7 C H locs ls h hl hP hS
      rw [fX6_cutRoot_h11.eq_2] at h
      refine lv_iload hx hb dX6_cutRoot_11 (lv_at hl 4 rfl) ?_
      refine lv_bipush (v := 40) hx hb dX6_cutRoot_13 (by decide) ?_
      refine lv_icmp_ge (tgt := 66) hx hb dX6_cutRoot_15 (by decide) (fun c2 => ?_) (fun c2 => ?_)
      · replace h := it_t c2 h
        refine lv_lload_n hx hb dX6_cutRoot_66 rfl (lv_at hl 2 rfl) ?_
        exact re_l' hC hr hP hS (Option.some.inj h) rfl dX6_cutRoot_67
      · replace h := it_f c2 h
        refine lv_lload_n hx hb dX6_cutRoot_18 rfl (lv_at hl 2 rfl) ?_
        refine lv_lload hx hb dX6_cutRoot_19 (lv_at hl 3 rfl) ?_
        refine W.lcmp hx hb dX6_cutRoot_21 ?_
        refine lv_if_ge (tgt := 66) hx hb dX6_cutRoot_22 (by decide) (fun c3 => ?_) (fun c3 => ?_)
        · replace h := it_t c3 h
          refine lv_lload_n hx hb dX6_cutRoot_66 rfl (lv_at hl 2 rfl) ?_
          exact re_l' hC hr hP hS (Option.some.inj h) rfl dX6_cutRoot_67
        · replace h := it_f c3 h
          refine lv_lload_n hx hb dX6_cutRoot_25 rfl (lv_at hl 2 rfl) ?_
          refine lv_lload hx hb dX6_cutRoot_26 (lv_at hl 3 rfl) ?_
          refine lv_ladd hx hb dX6_cutRoot_28 ?_
          refine lv_lconst (v := 1) hx hb dX6_cutRoot_29 (by decide) ?_
          refine lv_ladd hx hb dX6_cutRoot_30 ?_
          refine lv_ldc2 hx hb (v := 2) hown (hts _ k835) dX6_cutRoot_31 ?_
          refine lv_ldiv hx hb dX6_cutRoot_34 (by decide) ?_
          refine lv_topl (fun x4 ex4 => ?_)
          replace h := lt_y ex4 h
          refine lv_lstore (lv' := [(8, .long x4), (0, .long y0), (2, .int y2), (3, .long y3), (5, .long y5), (7, .int y7)]) hx hb dX6_cutRoot_35 hl (by decide) rfl (fun ls hl => ?_)
          refine lv_lload hx hb dX6_cutRoot_37 (lv_at hl 0 rfl) ?_
          refine lv_iload_n hx hb dX6_cutRoot_39 rfl (lv_at hl 2 rfl) ?_
          obtain ⟨r6, hq5, h⟩ := bn_x h
          refine rc_l hS (run_S hC wX6_raised k836 hP hS (As := [.long x4, .int y2]) (rest := []) (mX6_raised l G Rm hq5) rfl hl.1 (Nat.le_of_ble_eq_true rfl) ⟨by decide, by decide⟩ ⟨Nat.le_refl _, Nat.le_refl _⟩ rfl dX6_cutRoot_40) (fun H locs hP hS => ?_)
          refine lv_lload_n hx hb dX6_cutRoot_43 rfl (lv_at hl 1 rfl) ?_
          refine W.lcmp hx hb dX6_cutRoot_44 ?_
          refine lv_if_gt (tgt := 54) hx hb dX6_cutRoot_45 (by decide) (fun c7 => ?_) (fun c7 => ?_)
          · replace h := it_t c7 h
            refine lv_lload hx hb dX6_cutRoot_54 (lv_at hl 0 rfl) ?_
            refine lv_lconst (v := 1) hx hb dX6_cutRoot_56 (by decide) ?_
            refine lv_lsub hx hb dX6_cutRoot_57 ?_
            refine lv_topl (fun x8 ex8 => ?_)
            replace h := lt_y ex8 h
            refine lv_lstore (lv' := [(5, .long x8), (8, .long x4), (0, .long y0), (2, .int y2), (3, .long y3), (7, .int y7)]) hx hb dX6_cutRoot_58 hl (by decide) rfl (fun ls hl => ?_)
            exact bl60 (fX6_cutRoot_h11 n fu) ih y0 y2 y3 x8 y7 _ _ _ _ h (lv_sub hl [2, 3, 4, 0, 5] rfl) hP hS
          · replace h := it_f c7 h
            refine lv_lload hx hb dX6_cutRoot_48 (lv_at hl 0 rfl) ?_
            refine lv_lstore_n (lv' := [(3, .long x4), (8, .long x4), (0, .long y0), (2, .int y2), (5, .long y5), (7, .int y7)]) hx hb dX6_cutRoot_50 rfl hl (by decide) rfl (fun ls hl => ?_)
            refine lv_goto (tgt := 60) hx hb dX6_cutRoot_51 (by decide) ?_
            exact bl60 (fX6_cutRoot_h11 n fu) ih y0 y2 x4 y5 y7 _ _ _ _ h (lv_sub hl [2, 3, 0, 4, 5] rfl) hP hS
  unfold fX6_cutRoot at h
  refine lv_lconst (v := 0) hx hb dX6_cutRoot_0 (by decide) ?_
  refine lv_lstore_n (lv' := [(3, .long 0), (0, .long p0), (2, .int p2)]) hx hb dX6_cutRoot_1 rfl hl (by decide) rfl (fun ls hl => ?_)
  refine lv_iload_n hx hb dX6_cutRoot_2 rfl (lv_at hl 2 rfl) ?_
  refine rc_l hS (run_S hC wX6_mostRoot k829 hP hS (As := [.int p2]) (rest := []) (mX6_mostRoot l G Rm rfl) rfl hl.1 (Nat.le_of_ble_eq_true rfl) ⟨by decide, by decide⟩ ⟨Nat.le_refl _, Nat.le_refl _⟩ rfl dX6_cutRoot_3) (fun H locs hP hS => ?_)
  refine lv_topl (fun x10 ex10 => ?_)
  replace h := lt_y ex10 h
  refine lv_lstore (lv' := [(5, .long x10), (3, .long 0), (0, .long p0), (2, .int p2)]) hx hb dX6_cutRoot_6 hl (by decide) rfl (fun ls hl => ?_)
  refine lv_iconst (v := 0) hx hb dX6_cutRoot_8 (by decide) ?_
  refine lv_istore (lv' := [(7, .int 0), (5, .long x10), (3, .long 0), (0, .long p0), (2, .int p2)]) hx hb dX6_cutRoot_9 hl (by decide) rfl (fun ls hl => ?_)
  exact bl11 n p0 p2 0 x10 0 _ _ _ _ h (lv_sub hl [3, 4, 2, 1, 0] rfl) hP hS
set_option maxHeartbeats 4000000 in
set_option maxRecDepth 100000 in
theorem mX6_whole (l : Launch) (G : gp) (Rm : Mm) {n : Nat} {p0 : Int64} {p2 : Int32} {C : Mm} {r0 : Int64} (h : fX6_whole n p0 p2 = some r0) : Met l yX6_whole (wsy yX6_whole cX6_whole 5 (some .long)) (rmv 2 54) (va_Pc [.long p0, .int p2] (Rl G (C, Rm))) (Ql G r0 (C, Rm)) 0 0 (lwA G) := by
  refine met_i [.long p0, .int p2] wX6_whole.2.2.2.2 (Nat.le_of_ble_eq_true rfl) ?_
  intro p e s m args below meth c ls hC hr hP hl
  have hC : Cx G p s m args meth c cX6_whole RX6 5 := hC
  have hx := hC.1
  have hb := hC.2.1
  have hown := hC.2.2.2.1
  have hts := hC.2.2.2.2.1
  have hS : va_S (lwA G) s.heap s.heap [] := va_S.rf
  have hl : lv_has ls 5 [(0, .long p0), (2, .int p2)] := hl
  unfold fX6_whole at h
  refine lv_lload_n hx hb dX6_whole_0 rfl (lv_at hl 0 rfl) ?_
  refine lv_iload_n hx hb dX6_whole_1 rfl (lv_at hl 1 rfl) ?_
  obtain ⟨r2, hq1, h⟩ := bn_x h
  refine rc_l hS (run_S hC wX6_cutRoot k826 hP hS (As := [.long p0, .int p2]) (rest := []) (mX6_cutRoot l G Rm hq1) rfl hl.1 (Nat.le_of_ble_eq_true rfl) ⟨by decide, by decide⟩ ⟨Nat.le_refl _, Nat.le_refl _⟩ rfl dX6_whole_2) (fun H locs hP hS => ?_)
  refine lv_lstore_n (lv' := [(3, .long r2), (0, .long p0), (2, .int p2)]) hx hb dX6_whole_5 rfl hl (by decide) rfl (fun ls hl => ?_)
  refine lv_lload_n hx hb dX6_whole_6 rfl (lv_at hl 0 rfl) ?_
  refine lv_iload_n hx hb dX6_whole_7 rfl (lv_at hl 2 rfl) ?_
  obtain ⟨r4, hq3, h⟩ := bn_x h
  refine rc_l hS (run_S hC wX6_raised k836 hP hS (As := [.long r2, .int p2]) (rest := []) (mX6_raised l G Rm hq3) rfl hl.1 (Nat.le_of_ble_eq_true rfl) ⟨by decide, by decide⟩ ⟨Nat.le_refl _, Nat.le_refl _⟩ rfl dX6_whole_8) (fun H locs hP hS => ?_)
  refine lv_lload_n hx hb dX6_whole_11 rfl (lv_at hl 1 rfl) ?_
  refine W.lcmp hx hb dX6_whole_12 ?_
  refine lv_if_ne (tgt := 20) hx hb dX6_whole_13 (by decide) (fun c5 => ?_) (fun c5 => ?_)
  · replace h := it_f c5 h
    refine lv_lconst (v := 0) hx hb dX6_whole_20 (by decide) ?_
    exact re_l' hC hr hP hS (Option.some.inj h) rfl dX6_whole_21
  · replace h := it_t c5 h
    refine lv_lload_n hx hb dX6_whole_16 rfl (lv_at hl 0 rfl) ?_
    refine lv_goto (tgt := 21) hx hb dX6_whole_17 (by decide) ?_
    exact re_l' hC hr hP hS (Option.some.inj h) rfl dX6_whole_21
set_option maxHeartbeats 4000000 in
set_option maxRecDepth 100000 in
theorem mX6_unitOf (l : Launch) (G : gp) (Rm : Mm) {n : Nat} {p0 : Int64} {p2 : Int32} {C : Mm} {r0 : Int64} (h : fX6_unitOf n p0 p2 = some r0) : Met l yX6_unitOf (wsy yX6_unitOf cX6_unitOf 3 (some .long)) (rmv 1 22) (va_Pc [.long p0, .int p2] (Rl G (C, Rm))) (Ql G r0 (C, Rm)) 0 0 (lwA G) := by
  refine met_i [.long p0, .int p2] wX6_unitOf.2.2.2.2 (Nat.le_of_ble_eq_true rfl) ?_
  intro p e s m args below meth c ls hC hr hP hl
  have hC : Cx G p s m args meth c cX6_unitOf RX6 3 := hC
  have hx := hC.1
  have hb := hC.2.1
  have hown := hC.2.2.2.1
  have hts := hC.2.2.2.2.1
  have hS : va_S (lwA G) s.heap s.heap [] := va_S.rf
  have hl : lv_has ls 3 [(0, .long p0), (2, .int p2)] := hl
  unfold fX6_unitOf at h
  refine lv_lload_n hx hb dX6_unitOf_0 rfl (lv_at hl 0 rfl) ?_
  obtain ⟨r2, hq1, h⟩ := bn_x h
  refine rc_i hS (run_S hC wX4_sizeOf k856 hP hS (As := [.long p0]) (rest := []) (mX4_sizeOf l G Rm hq1) rfl hl.1 (Nat.le_of_ble_eq_true rfl) ⟨by decide, by decide⟩ ⟨Nat.le_refl _, Nat.le_refl _⟩ rfl dX6_unitOf_1) (fun H locs pb3 hP hS => ?_)
  refine lv_iload_n hx hb dX6_unitOf_4 rfl (lv_at hl 1 rfl) ?_
  refine lv_isub hx hb dX6_unitOf_5 ?_
  obtain ⟨r5, hq4, h⟩ := bn_x h
  refine rc_l hS (run_S hC wX4_longTenTo k857 hP hS (As := [.int (r2 - p2)]) (rest := []) (mX4_longTenTo l G Rm hq4) rfl hl.1 (Nat.le_of_ble_eq_true rfl) ⟨by decide, by decide⟩ ⟨Nat.le_refl _, Nat.le_refl _⟩ rfl dX6_unitOf_6) (fun H locs hP hS => ?_)
  exact re_l' hC hr hP hS (Option.some.inj h) rfl dX6_unitOf_9
set_option maxHeartbeats 4000000 in
set_option maxRecDepth 100000 in
theorem mX6_leastWithFirsts (l : Launch) (G : gp) (Rm : Mm) {n : Nat} {p0 : Int64} {p2 : Int32} {C : Mm} {r0 : Int64} (h : fX6_leastWithFirsts n p0 p2 = some r0) : Met l yX6_leastWithFirsts (wsy yX6_leastWithFirsts cX6_leastWithFirsts 5 (some .long)) (rmv 2 44) (va_Pc [.long p0, .int p2] (Rl G (C, Rm))) (Ql G r0 (C, Rm)) 0 0 (lwA G) := by
  refine met_i [.long p0, .int p2] wX6_leastWithFirsts.2.2.2.2 (Nat.le_of_ble_eq_true rfl) ?_
  intro p e s m args below meth c ls hC hr hP hl
  have hC : Cx G p s m args meth c cX6_leastWithFirsts RX6 5 := hC
  have hx := hC.1
  have hb := hC.2.1
  have hown := hC.2.2.2.1
  have hts := hC.2.2.2.2.1
  have hS : va_S (lwA G) s.heap s.heap [] := va_S.rf
  have hl : lv_has ls 5 [(0, .long p0), (2, .int p2)] := hl
  unfold fX6_leastWithFirsts at h
  refine lv_lload_n hx hb dX6_leastWithFirsts_0 rfl (lv_at hl 0 rfl) ?_
  refine lv_iload_n hx hb dX6_leastWithFirsts_1 rfl (lv_at hl 1 rfl) ?_
  obtain ⟨r2, hq1, h⟩ := bn_x h
  refine rc_l hS (run_S hC wX6_unitOf k853 hP hS (As := [.long p0, .int p2]) (rest := []) (mX6_unitOf l G Rm hq1) rfl hl.1 (Nat.le_of_ble_eq_true rfl) ⟨by decide, by decide⟩ ⟨Nat.le_refl _, Nat.le_refl _⟩ rfl dX6_leastWithFirsts_2) (fun H locs hP hS => ?_)
  refine lv_lstore_n (lv' := [(3, .long r2), (0, .long p0), (2, .int p2)]) hx hb dX6_leastWithFirsts_5 rfl hl (by decide) rfl (fun ls hl => ?_)
  refine lv_lload_n hx hb dX6_leastWithFirsts_6 rfl (lv_at hl 0 rfl) ?_
  refine lv_lconst (v := 1) hx hb dX6_leastWithFirsts_7 (by decide) ?_
  refine W.lcmp hx hb dX6_leastWithFirsts_8 ?_
  refine lv_if_ge (tgt := 16) hx hb dX6_leastWithFirsts_9 (by decide) (fun c3 => ?_) (fun c3 => ?_)
  · replace h := it_t c3 h
    refine lv_lload_n hx hb dX6_leastWithFirsts_16 rfl (lv_at hl 1 rfl) ?_
    refine lv_lload_n hx hb dX6_leastWithFirsts_17 rfl (lv_at hl 0 rfl) ?_
    by_cases c4 : r2 = 0
    · cases it_t c4 h
    replace h := it_f c4 h
    refine lv_ldiv hx hb dX6_leastWithFirsts_18 c4 ?_
    refine lv_lload_n hx hb dX6_leastWithFirsts_19 rfl (lv_at hl 0 rfl) ?_
    refine lv_lmul hx hb dX6_leastWithFirsts_20 ?_
    exact re_l' hC hr hP hS (Option.some.inj h) rfl dX6_leastWithFirsts_21
  · replace h := it_f c3 h
    refine lv_lload_n hx hb dX6_leastWithFirsts_12 rfl (lv_at hl 1 rfl) ?_
    refine lv_goto (tgt := 21) hx hb dX6_leastWithFirsts_13 (by decide) ?_
    exact re_l' hC hr hP hS (Option.some.inj h) rfl dX6_leastWithFirsts_21
set_option maxHeartbeats 4000000 in
set_option maxRecDepth 100000 in
theorem mX6_fromRoot (l : Launch) (G : gp) (Rm : Mm) {n : Nat} {p0 : Int64} {p2 : Int32} {p3 : Int32} {C : Mm} {r0 : Int64} (h : fX6_fromRoot n p0 p2 p3 = some r0) : Met l yX6_fromRoot (wsy yX6_fromRoot cX6_fromRoot 4 (some .long)) (rmv 3 68) (va_Pc [.long p0, .int p2, .int p3] (Rl G (C, Rm))) (Ql G r0 (C, Rm)) 0 0 (lwA G) := by
  refine met_i [.long p0, .int p2, .int p3] wX6_fromRoot.2.2.2.2 (Nat.le_of_ble_eq_true rfl) ?_
  intro p e s m args below meth c ls hC hr hP hl
  have hC : Cx G p s m args meth c cX6_fromRoot RX6 4 := hC
  have hx := hC.1
  have hb := hC.2.1
  have hown := hC.2.2.2.1
  have hts := hC.2.2.2.2.1
  have hS : va_S (lwA G) s.heap s.heap [] := va_S.rf
  have hl : lv_has ls 4 [(0, .long p0), (2, .int p2), (3, .int p3)] := hl
  unfold fX6_fromRoot at h
  refine lv_lload_n hx hb dX6_fromRoot_0 rfl (lv_at hl 0 rfl) ?_
  refine lv_iload_n hx hb dX6_fromRoot_1 rfl (lv_at hl 2 rfl) ?_
  obtain ⟨r2, hq1, h⟩ := bn_x h
  refine rc_l hS (run_S hC wX6_leastWithFirsts k850 hP hS (As := [.long p0, .int p3]) (rest := []) (mX6_leastWithFirsts l G Rm hq1) rfl hl.1 (Nat.le_of_ble_eq_true rfl) ⟨by decide, by decide⟩ ⟨Nat.le_refl _, Nat.le_refl _⟩ rfl dX6_fromRoot_2) (fun H locs hP hS => ?_)
  refine lv_lconst (v := 1) hx hb dX6_fromRoot_5 (by decide) ?_
  refine lv_lsub hx hb dX6_fromRoot_6 ?_
  refine lv_iload_n hx hb dX6_fromRoot_7 rfl (lv_at hl 1 rfl) ?_
  obtain ⟨r4, hq3, h⟩ := bn_x h
  refine rc_l hS (run_S hC wX6_cutRoot k826 hP hS (As := [.long (r2 - 1), .int p2]) (rest := []) (mX6_cutRoot l G Rm hq3) rfl hl.1 (Nat.le_of_ble_eq_true rfl) ⟨by decide, by decide⟩ ⟨Nat.le_refl _, Nat.le_refl _⟩ rfl dX6_fromRoot_8) (fun H locs hP hS => ?_)
  refine lv_lconst (v := 1) hx hb dX6_fromRoot_11 (by decide) ?_
  refine lv_ladd hx hb dX6_fromRoot_12 ?_
  exact re_l' hC hr hP hS (Option.some.inj h) rfl dX6_fromRoot_13
set_option maxHeartbeats 4000000 in
set_option maxRecDepth 100000 in
theorem mX6_toRoot (l : Launch) (G : gp) (Rm : Mm) {n : Nat} {p0 : Int64} {p2 : Int32} {p3 : Int32} {C : Mm} {r0 : Int64} (h : fX6_toRoot n p0 p2 p3 = some r0) : Met l yX6_toRoot (wsy yX6_toRoot cX6_toRoot 4 (some .long)) (rmv 3 68) (va_Pc [.long p0, .int p2, .int p3] (Rl G (C, Rm))) (Ql G r0 (C, Rm)) 0 0 (lwA G) := by
  refine met_i [.long p0, .int p2, .int p3] wX6_toRoot.2.2.2.2 (Nat.le_of_ble_eq_true rfl) ?_
  intro p e s m args below meth c ls hC hr hP hl
  have hC : Cx G p s m args meth c cX6_toRoot RX6 4 := hC
  have hx := hC.1
  have hb := hC.2.1
  have hown := hC.2.2.2.1
  have hts := hC.2.2.2.2.1
  have hS : va_S (lwA G) s.heap s.heap [] := va_S.rf
  have hl : lv_has ls 4 [(0, .long p0), (2, .int p2), (3, .int p3)] := hl
  unfold fX6_toRoot at h
  refine lv_lload_n hx hb dX6_toRoot_0 rfl (lv_at hl 0 rfl) ?_
  refine lv_iload_n hx hb dX6_toRoot_1 rfl (lv_at hl 2 rfl) ?_
  obtain ⟨r2, hq1, h⟩ := bn_x h
  refine rc_l hS (run_S hC wX6_leastWithFirsts k850 hP hS (As := [.long p0, .int p3]) (rest := []) (mX6_leastWithFirsts l G Rm hq1) rfl hl.1 (Nat.le_of_ble_eq_true rfl) ⟨by decide, by decide⟩ ⟨Nat.le_refl _, Nat.le_refl _⟩ rfl dX6_toRoot_2) (fun H locs hP hS => ?_)
  refine lv_lload_n hx hb dX6_toRoot_5 rfl (lv_at hl 0 rfl) ?_
  refine lv_iload_n hx hb dX6_toRoot_6 rfl (lv_at hl 2 rfl) ?_
  obtain ⟨r4, hq3, h⟩ := bn_x h
  refine rc_l hS (run_S hC wX6_unitOf k853 hP hS (As := [.long p0, .int p3]) (rest := [.long r2]) (mX6_unitOf l G Rm hq3) rfl hl.1 (Nat.le_of_ble_eq_true rfl) ⟨by decide, by decide⟩ ⟨Nat.le_refl _, Nat.le_refl _⟩ rfl dX6_toRoot_7) (fun H locs hP hS => ?_)
  refine lv_ladd hx hb dX6_toRoot_10 ?_
  refine lv_lconst (v := 1) hx hb dX6_toRoot_11 (by decide) ?_
  refine lv_lsub hx hb dX6_toRoot_12 ?_
  refine lv_iload_n hx hb dX6_toRoot_13 rfl (lv_at hl 1 rfl) ?_
  obtain ⟨r6, hq5, h⟩ := bn_x h
  refine rc_l hS (run_S hC wX6_cutRoot k826 hP hS (As := [.long ((r2 + r4) - 1), .int p2]) (rest := []) (mX6_cutRoot l G Rm hq5) rfl hl.1 (Nat.le_of_ble_eq_true rfl) ⟨by decide, by decide⟩ ⟨Nat.le_refl _, Nat.le_refl _⟩ rfl dX6_toRoot_14) (fun H locs hP hS => ?_)
  exact re_l' hC hr hP hS (Option.some.inj h) rfl dX6_toRoot_17
set_option maxHeartbeats 4000000 in
set_option maxRecDepth 100000 in
theorem mX6_endsAlike (l : Launch) (G : gp) (Rm : Mm) {n : Nat} {p0 : Int64} {p2 : Int32} {p3 : Int64} {C : Mm} {r0 : Int32} (h : fX6_endsAlike n p0 p2 p3 = some r0) : Met l yX6_endsAlike (wsy yX6_endsAlike cX6_endsAlike 5 (some .boolean)) (rmv 1 25) (va_Pc [.long p0, .int p2, .long p3] (Rl G (C, Rm))) (Qi G PZ r0 (C, Rm)) 0 0 (lwA G) := by
  refine met_i [.long p0, .int p2, .long p3] wX6_endsAlike.2.2.2.2 (Nat.le_of_ble_eq_true rfl) ?_
  intro p e s m args below meth c ls hC hr hP hl
  have hC : Cx G p s m args meth c cX6_endsAlike RX6 5 := hC
  have hx := hC.1
  have hb := hC.2.1
  have hown := hC.2.2.2.1
  have hts := hC.2.2.2.2.1
  have hS : va_S (lwA G) s.heap s.heap [] := va_S.rf
  have hl : lv_has ls 5 [(0, .long p0), (2, .int p2), (3, .long p3)] := hl
  unfold fX6_endsAlike at h
  refine lv_lload_n hx hb dX6_endsAlike_0 rfl (lv_at hl 0 rfl) ?_
  refine lv_ldc2 hx hb (v := 10) hown (hts _ k863) dX6_endsAlike_1 ?_
  refine r_lrem hx hb dX6_endsAlike_4 (by decide) ?_
  refine lv_iload_n hx hb dX6_endsAlike_5 rfl (lv_at hl 1 rfl) ?_
  obtain ⟨r2, hq1, h⟩ := bn_x h
  refine rc_l hS (run_S hC wX6_raised k836 hP hS (As := [.long (lrm p0 10), .int p2]) (rest := []) (mX6_raised l G Rm hq1) rfl hl.1 (Nat.le_of_ble_eq_true rfl) ⟨by decide, by decide⟩ ⟨Nat.le_refl _, Nat.le_refl _⟩ rfl dX6_endsAlike_6) (fun H locs hP hS => ?_)
  refine lv_ldc2 hx hb (v := 10) hown (hts _ k863) dX6_endsAlike_9 ?_
  refine r_lrem hx hb dX6_endsAlike_12 (by decide) ?_
  refine lv_lload_n hx hb dX6_endsAlike_13 rfl (lv_at hl 2 rfl) ?_
  refine lv_ldc2 hx hb (v := 10) hown (hts _ k863) dX6_endsAlike_14 ?_
  refine r_lrem hx hb dX6_endsAlike_17 (by decide) ?_
  refine W.lcmp hx hb dX6_endsAlike_18 ?_
  refine lv_if_ne (tgt := 26) hx hb dX6_endsAlike_19 (by decide) (fun c3 => ?_) (fun c3 => ?_)
  · replace h := it_f c3 h
    refine lv_iconst (v := 0) hx hb dX6_endsAlike_26 (by decide) ?_
    exact re_z' hC hr hP hS PZ0 (Option.some.inj h) rfl dX6_endsAlike_27
  · replace h := it_t c3 h
    refine lv_iconst (v := 1) hx hb dX6_endsAlike_22 (by decide) ?_
    refine lv_goto (tgt := 27) hx hb dX6_endsAlike_23 (by decide) ?_
    exact re_z' hC hr hP hS PZ1 (Option.some.inj h) rfl dX6_endsAlike_27
set_option maxHeartbeats 4000000 in
set_option maxRecDepth 100000 in
theorem mX6_howMany (l : Launch) (G : gp) (Rm : Mm) {n : Nat} {p0 : Int64} {p2 : Int32} {p3 : Int32} {C : Mm} {r0 : Int64} (h : fX6_howMany n p0 p2 p3 = some r0) : Met l yX6_howMany (wsy yX6_howMany cX6_howMany 12 (some .long)) (rmv 4 91) (va_Pc [.long p0, .int p2, .int p3] (Rl G (C, Rm))) (Ql G r0 (C, Rm)) 0 0 (lwA G) := by
  refine met_i [.long p0, .int p2, .int p3] wX6_howMany.2.2.2.2 (Nat.le_of_ble_eq_true rfl) ?_
  intro p e s m args below meth c ls hC hr hP hl
  have hC : Cx G p s m args meth c cX6_howMany RX6 12 := hC
  have hx := hC.1
  have hb := hC.2.1
  have hown := hC.2.2.2.1
  have hts := hC.2.2.2.2.1
  have hS : va_S (lwA G) s.heap s.heap [] := va_S.rf
  have hl : lv_has ls 12 [(0, .long p0), (2, .int p2), (3, .int p3)] := hl
  have bl69 : ∀ (k23 : Int64 → Int32 → Int64 → Int64 → Int64 → Int64 → Option Int64) (hk23 : ∀ (y0 : Int64) (y2 : Int32) (y4 : Int64) (y6 : Int64) (y8 : Int64) (y10 : Int64) (C : Mm) (H : Heap) (locs : List Loc) (ls : Array Slot), k23 y0 y2 y4 y6 y8 y10 = some r0 → lv_has ls 12 [(0, .long y0), (2, .int y2), (4, .long y4), (6, .long y6), (8, .long y8), (10, .long y10)] → va_P (gD G) vwCl (wld G (C, Rm)) H → va_S (lwA G) s.heap H locs → W p l e (rmv 4 91) s m args below meth c H locs 0 0 (MQ below (Ql G r0 (C, Rm)) args s 0 0 (lwA G)) (F0 m 23 ls [])), ∀ (y0 : Int64) (y2 : Int32) (y4 : Int64) (y6 : Int64) (y8 : Int64) (y10 : Int64) (C : Mm) (H : Heap) (locs : List Loc) (ls : Array Slot), fX6_howMany_b69 n k23 y0 y2 y4 y6 y8 y10 = some r0 → lv_has ls 12 [(0, .long y0), (2, .int y2), (4, .long y4), (6, .long y6), (8, .long y8), (10, .long y10)] → va_P (gD G) vwCl (wld G (C, Rm)) H → va_S (lwA G) s.heap H locs → W p l e (rmv 4 91) s m args below meth c H locs 0 0 (MQ below (Ql G r0 (C, Rm)) args s 0 0 (lwA G)) (F0 m 69 ls []) := by
    intro k23 hk23 y0 y2 y4 y6 y8 y10 C H locs ls h hl hP hS
    unfold fX6_howMany_b69 at h
    refine lv_lload hx hb dX6_howMany_69 (lv_at hl 5 rfl) ?_
    refine lv_lconst (v := 1) hx hb dX6_howMany_71 (by decide) ?_
    refine lv_ladd hx hb dX6_howMany_72 ?_
    refine lv_topl (fun x1 ex1 => ?_)
    replace h := lt_y ex1 h
    refine lv_lstore (lv' := [(10, .long x1), (0, .long y0), (2, .int y2), (4, .long y4), (6, .long y6), (8, .long y8)]) hx hb dX6_howMany_73 hl (by decide) rfl (fun ls hl => ?_)
    refine lv_goto (tgt := 23) hx hb dX6_howMany_75 (by decide) ?_
    exact hk23 y0 y2 y4 y6 y8 x1 _ _ _ _ h (lv_sub hl [1, 2, 3, 4, 5, 0] rfl) hP hS
  have bl23 : ∀ (fu : Nat), ∀ (y0 : Int64) (y2 : Int32) (y4 : Int64) (y6 : Int64) (y8 : Int64) (y10 : Int64) (C : Mm) (H : Heap) (locs : List Loc) (ls : Array Slot), fX6_howMany_h23 n fu y0 y2 y4 y6 y8 y10 = some r0 → lv_has ls 12 [(0, .long y0), (2, .int y2), (4, .long y4), (6, .long y6), (8, .long y8), (10, .long y10)] → va_P (gD G) vwCl (wld G (C, Rm)) H → va_S (lwA G) s.heap H locs → W p l e (rmv 4 91) s m args below meth c H locs 0 0 (MQ below (Ql G r0 (C, Rm)) args s 0 0 (lwA G)) (F0 m 23 ls []) := by
    intro fu
    induction fu with
    | zero =>
      intro y0 y2 y4 y6 y8 y10 C H locs ls h hl hP hS
      rw [fX6_howMany_h23.eq_1] at h
      cases h
    | succ fu ih =>
      intro y0 y2 y4 y6 y8 y10 C H locs ls h hl hP hS
      rw [fX6_howMany_h23.eq_2] at h
      refine lv_lload hx hb dX6_howMany_23 (lv_at hl 5 rfl) ?_
      refine lv_lload hx hb dX6_howMany_25 (lv_at hl 2 rfl) ?_
      refine lv_ldc2 hx hb (v := 10) hown (hts _ k863) dX6_howMany_27 ?_
      refine lv_ladd hx hb dX6_howMany_30 ?_
      refine W.lcmp hx hb dX6_howMany_31 ?_
      refine lv_if_ge (tgt := 78) hx hb dX6_howMany_32 (by decide) (fun c2 => ?_) (fun c2 => ?_)
      · replace h := it_t c2 h
        refine lv_lload hx hb dX6_howMany_78 (lv_at hl 4 rfl) ?_
        exact re_l' hC hr hP hS (Option.some.inj h) rfl dX6_howMany_80
      · replace h := it_f c2 h
        refine lv_lload hx hb dX6_howMany_35 (lv_at hl 5 rfl) ?_
        refine lv_lload hx hb dX6_howMany_37 (lv_at hl 3 rfl) ?_
        refine W.lcmp hx hb dX6_howMany_39 ?_
        refine lv_if_gt (tgt := 78) hx hb dX6_howMany_40 (by decide) (fun c3 => ?_) (fun c3 => ?_)
        · replace h := it_t c3 h
          refine lv_lload hx hb dX6_howMany_78 (lv_at hl 4 rfl) ?_
          exact re_l' hC hr hP hS (Option.some.inj h) rfl dX6_howMany_80
        · replace h := it_f c3 h
          refine lv_lload hx hb dX6_howMany_43 (lv_at hl 5 rfl) ?_
          refine lv_iload_n hx hb dX6_howMany_45 rfl (lv_at hl 1 rfl) ?_
          refine lv_lload_n hx hb dX6_howMany_46 rfl (lv_at hl 0 rfl) ?_
          obtain ⟨r5, hq4, h⟩ := bn_x h
          refine rc_i hS (run_S hC wX6_endsAlike k864 hP hS (As := [.long y10, .int y2, .long y0]) (rest := []) (mX6_endsAlike l G Rm hq4) rfl hl.1 (Nat.le_of_ble_eq_true rfl) ⟨by decide, by decide⟩ ⟨Nat.le_refl _, Nat.le_refl _⟩ rfl dX6_howMany_47) (fun H locs pb6 hP hS => ?_)
          refine lv_if_eq (tgt := 69) hx hb dX6_howMany_50 (by decide) (fun c7 => ?_) (fun c7 => ?_)
          · replace h := it_t c7 h
            exact bl69 (fX6_howMany_h23 n fu) ih y0 y2 y4 y6 y8 y10 _ _ _ _ h (lv_sub hl [0, 1, 2, 3, 4, 5] rfl) hP hS
          · replace h := it_f c7 h
            refine lv_lload hx hb dX6_howMany_53 (lv_at hl 4 rfl) ?_
            refine lv_lload hx hb dX6_howMany_55 (lv_at hl 3 rfl) ?_
            refine lv_lload hx hb dX6_howMany_57 (lv_at hl 5 rfl) ?_
            refine lv_lsub hx hb dX6_howMany_59 ?_
            refine lv_ldc2 hx hb (v := 10) hown (hts _ k863) dX6_howMany_60 ?_
            refine lv_ldiv hx hb dX6_howMany_63 (by decide) ?_
            refine lv_lconst (v := 1) hx hb dX6_howMany_64 (by decide) ?_
            refine lv_ladd hx hb dX6_howMany_65 ?_
            refine lv_ladd hx hb dX6_howMany_66 ?_
            refine lv_topl (fun x8 ex8 => ?_)
            replace h := lt_y ex8 h
            refine lv_lstore (lv' := [(8, .long x8), (0, .long y0), (2, .int y2), (4, .long y4), (6, .long y6), (10, .long y10)]) hx hb dX6_howMany_67 hl (by decide) rfl (fun ls hl => ?_)
            exact bl69 (fX6_howMany_h23 n fu) ih y0 y2 y4 y6 x8 y10 _ _ _ _ h (lv_sub hl [1, 2, 3, 4, 0, 5] rfl) hP hS
  unfold fX6_howMany at h
  refine lv_lload_n hx hb dX6_howMany_0 rfl (lv_at hl 0 rfl) ?_
  refine lv_iload_n hx hb dX6_howMany_1 rfl (lv_at hl 1 rfl) ?_
  refine lv_iload_n hx hb dX6_howMany_2 rfl (lv_at hl 2 rfl) ?_
  obtain ⟨r10, hq9, h⟩ := bn_x h
  refine rc_l hS (run_S hC wX6_fromRoot k847 hP hS (As := [.long p0, .int p2, .int p3]) (rest := []) (mX6_fromRoot l G Rm hq9) rfl hl.1 (Nat.le_of_ble_eq_true rfl) ⟨by decide, by decide⟩ ⟨Nat.le_refl _, Nat.le_refl _⟩ rfl dX6_howMany_3) (fun H locs hP hS => ?_)
  refine lv_lstore (lv' := [(4, .long r10), (0, .long p0), (2, .int p2), (3, .int p3)]) hx hb dX6_howMany_6 hl (by decide) rfl (fun ls hl => ?_)
  refine lv_lload_n hx hb dX6_howMany_8 rfl (lv_at hl 1 rfl) ?_
  refine lv_iload_n hx hb dX6_howMany_9 rfl (lv_at hl 2 rfl) ?_
  refine lv_iload_n hx hb dX6_howMany_10 rfl (lv_at hl 3 rfl) ?_
  obtain ⟨r12, hq11, h⟩ := bn_x h
  refine rc_l hS (run_S hC wX6_toRoot k860 hP hS (As := [.long p0, .int p2, .int p3]) (rest := []) (mX6_toRoot l G Rm hq11) rfl hl.1 (Nat.le_of_ble_eq_true rfl) ⟨by decide, by decide⟩ ⟨Nat.le_refl _, Nat.le_refl _⟩ rfl dX6_howMany_11) (fun H locs hP hS => ?_)
  refine lv_lstore (lv' := [(6, .long r12), (4, .long r10), (0, .long p0), (2, .int p2), (3, .int p3)]) hx hb dX6_howMany_14 hl (by decide) rfl (fun ls hl => ?_)
  refine lv_lconst (v := 0) hx hb dX6_howMany_16 (by decide) ?_
  refine lv_lstore (lv' := [(8, .long 0), (6, .long r12), (4, .long r10), (0, .long p0), (2, .int p2), (3, .int p3)]) hx hb dX6_howMany_17 hl (by decide) rfl (fun ls hl => ?_)
  refine lv_lload hx hb dX6_howMany_19 (lv_at hl 2 rfl) ?_
  refine lv_lstore (lv' := [(10, .long r10), (8, .long 0), (6, .long r12), (4, .long r10), (0, .long p0), (2, .int p2), (3, .int p3)]) hx hb dX6_howMany_21 hl (by decide) rfl (fun ls hl => ?_)
  exact bl23 n p0 p2 r10 r12 0 r10 _ _ _ _ h (lv_sub hl [4, 5, 3, 2, 1, 0] rfl) hP hS
set_option maxHeartbeats 4000000 in
set_option maxRecDepth 100000 in
theorem mX6_least (l : Launch) (G : gp) (Rm : Mm) {n : Nat} {p0 : Int64} {p2 : Int32} {p3 : Int32} {C : Mm} {r0 : Int64} (h : fX6_least n p0 p2 p3 = some r0) : Met l yX6_least (wsy yX6_least cX6_least 10 (some .long)) (rmv 4 91) (va_Pc [.long p0, .int p2, .int p3] (Rl G (C, Rm))) (Ql G r0 (C, Rm)) 0 0 (lwA G) := by
  refine met_i [.long p0, .int p2, .int p3] wX6_least.2.2.2.2 (Nat.le_of_ble_eq_true rfl) ?_
  intro p e s m args below meth c ls hC hr hP hl
  have hC : Cx G p s m args meth c cX6_least RX6 10 := hC
  have hx := hC.1
  have hb := hC.2.1
  have hown := hC.2.2.2.1
  have hts := hC.2.2.2.2.1
  have hS : va_S (lwA G) s.heap s.heap [] := va_S.rf
  have hl : lv_has ls 10 [(0, .long p0), (2, .int p2), (3, .int p3)] := hl
  have bl20 : ∀ (fu : Nat), ∀ (y0 : Int64) (y2 : Int32) (y4 : Int64) (y6 : Int64) (y8 : Int64) (C : Mm) (H : Heap) (locs : List Loc) (ls : Array Slot), fX6_least_h20 n fu y0 y2 y4 y6 y8 = some r0 → lv_has ls 10 [(0, .long y0), (2, .int y2), (4, .long y4), (6, .long y6), (8, .long y8)] → va_P (gD G) vwCl (wld G (C, Rm)) H → va_S (lwA G) s.heap H locs → W p l e (rmv 4 91) s m args below meth c H locs 0 0 (MQ below (Ql G r0 (C, Rm)) args s 0 0 (lwA G)) (F0 m 20 ls []) := by
    intro fu
    induction fu with
    | zero =>
      intro y0 y2 y4 y6 y8 C H locs ls h hl hP hS
      rw [fX6_least_h20.eq_1] at h
      cases h
    | succ fu ih =>
      intro y0 y2 y4 y6 y8 C H locs ls h hl hP hS
      rw [fX6_least_h20.eq_2] at h
      refine lv_lload hx hb dX6_least_20 (lv_at hl 4 rfl) ?_
      refine lv_lload hx hb dX6_least_22 (lv_at hl 2 rfl) ?_
      refine lv_ldc2 hx hb (v := 10) hown (hts _ k863) dX6_least_24 ?_
      refine lv_ladd hx hb dX6_least_27 ?_
      refine W.lcmp hx hb dX6_least_28 ?_
      refine lv_if_ge (tgt := 62) hx hb dX6_least_29 (by decide) (fun c1 => ?_) (fun c1 => ?_)
      · replace h := it_t c1 h
        refine lv_lconst (v := 0) hx hb dX6_least_62 (by decide) ?_
        exact re_l' hC hr hP hS (Option.some.inj h) rfl dX6_least_63
      · replace h := it_f c1 h
        refine lv_lload hx hb dX6_least_32 (lv_at hl 4 rfl) ?_
        refine lv_lload hx hb dX6_least_34 (lv_at hl 3 rfl) ?_
        refine W.lcmp hx hb dX6_least_36 ?_
        refine lv_if_gt (tgt := 62) hx hb dX6_least_37 (by decide) (fun c2 => ?_) (fun c2 => ?_)
        · replace h := it_t c2 h
          refine lv_lconst (v := 0) hx hb dX6_least_62 (by decide) ?_
          exact re_l' hC hr hP hS (Option.some.inj h) rfl dX6_least_63
        · replace h := it_f c2 h
          refine lv_lload hx hb dX6_least_40 (lv_at hl 4 rfl) ?_
          refine lv_iload_n hx hb dX6_least_42 rfl (lv_at hl 1 rfl) ?_
          refine lv_lload_n hx hb dX6_least_43 rfl (lv_at hl 0 rfl) ?_
          obtain ⟨r4, hq3, h⟩ := bn_x h
          refine rc_i hS (run_S hC wX6_endsAlike k864 hP hS (As := [.long y8, .int y2, .long y0]) (rest := []) (mX6_endsAlike l G Rm hq3) rfl hl.1 (Nat.le_of_ble_eq_true rfl) ⟨by decide, by decide⟩ ⟨Nat.le_refl _, Nat.le_refl _⟩ rfl dX6_least_44) (fun H locs pb5 hP hS => ?_)
          refine lv_if_eq (tgt := 53) hx hb dX6_least_47 (by decide) (fun c6 => ?_) (fun c6 => ?_)
          · replace h := it_t c6 h
            refine lv_lload hx hb dX6_least_53 (lv_at hl 4 rfl) ?_
            refine lv_lconst (v := 1) hx hb dX6_least_55 (by decide) ?_
            refine lv_ladd hx hb dX6_least_56 ?_
            refine lv_topl (fun x7 ex7 => ?_)
            replace h := lt_y ex7 h
            refine lv_lstore (lv' := [(8, .long x7), (0, .long y0), (2, .int y2), (4, .long y4), (6, .long y6)]) hx hb dX6_least_57 hl (by decide) rfl (fun ls hl => ?_)
            refine lv_goto (tgt := 20) hx hb dX6_least_59 (by decide) ?_
            exact ih y0 y2 y4 y6 x7 _ _ _ _ h (lv_sub hl [1, 2, 3, 4, 0] rfl) hP hS
          · replace h := it_f c6 h
            refine lv_lload hx hb dX6_least_50 (lv_at hl 4 rfl) ?_
            exact re_l' hC hr hP hS (Option.some.inj h) rfl dX6_least_52
  unfold fX6_least at h
  refine lv_lload_n hx hb dX6_least_0 rfl (lv_at hl 0 rfl) ?_
  refine lv_iload_n hx hb dX6_least_1 rfl (lv_at hl 1 rfl) ?_
  refine lv_iload_n hx hb dX6_least_2 rfl (lv_at hl 2 rfl) ?_
  obtain ⟨r9, hq8, h⟩ := bn_x h
  refine rc_l hS (run_S hC wX6_fromRoot k847 hP hS (As := [.long p0, .int p2, .int p3]) (rest := []) (mX6_fromRoot l G Rm hq8) rfl hl.1 (Nat.le_of_ble_eq_true rfl) ⟨by decide, by decide⟩ ⟨Nat.le_refl _, Nat.le_refl _⟩ rfl dX6_least_3) (fun H locs hP hS => ?_)
  refine lv_lstore (lv' := [(4, .long r9), (0, .long p0), (2, .int p2), (3, .int p3)]) hx hb dX6_least_6 hl (by decide) rfl (fun ls hl => ?_)
  refine lv_lload_n hx hb dX6_least_8 rfl (lv_at hl 1 rfl) ?_
  refine lv_iload_n hx hb dX6_least_9 rfl (lv_at hl 2 rfl) ?_
  refine lv_iload_n hx hb dX6_least_10 rfl (lv_at hl 3 rfl) ?_
  obtain ⟨r11, hq10, h⟩ := bn_x h
  refine rc_l hS (run_S hC wX6_toRoot k860 hP hS (As := [.long p0, .int p2, .int p3]) (rest := []) (mX6_toRoot l G Rm hq10) rfl hl.1 (Nat.le_of_ble_eq_true rfl) ⟨by decide, by decide⟩ ⟨Nat.le_refl _, Nat.le_refl _⟩ rfl dX6_least_11) (fun H locs hP hS => ?_)
  refine lv_lstore (lv' := [(6, .long r11), (4, .long r9), (0, .long p0), (2, .int p2), (3, .int p3)]) hx hb dX6_least_14 hl (by decide) rfl (fun ls hl => ?_)
  refine lv_lload hx hb dX6_least_16 (lv_at hl 1 rfl) ?_
  refine lv_lstore (lv' := [(8, .long r9), (6, .long r11), (4, .long r9), (0, .long p0), (2, .int p2), (3, .int p3)]) hx hb dX6_least_18 hl (by decide) rfl (fun ls hl => ?_)
  exact bl20 n p0 p2 r9 r11 r9 _ _ _ _ h (lv_sub hl [3, 4, 2, 1, 0] rfl) hP hS
set_option maxHeartbeats 4000000 in
set_option maxRecDepth 100000 in
theorem mX7_mayBe (l : Launch) (G : gp) (Rm : Mm) {p0 : Int32} {p1 : Int32} {C : Mm} {r0 : Int32} (h : fX7_mayBe p0 p1 = r0) : Met l yX7_mayBe (wsy yX7_mayBe cX7_mayBe 2 (some .boolean)) (rmv 0 0) (va_Pc [.int p0, .int p1] (Rl G (C, Rm))) (Qi G PZ r0 (C, Rm)) 0 0 (lwA G) := by
  refine met_i [.int p0, .int p1] wX7_mayBe.2.2.2.2 (Nat.le_of_ble_eq_true rfl) ?_
  intro p e s m args below meth c ls hC hr hP hl
  have hC : Cx G p s m args meth c cX7_mayBe RX7 2 := hC
  have hx := hC.1
  have hb := hC.2.1
  have hown := hC.2.2.2.1
  have hts := hC.2.2.2.2.1
  have hS : va_S (lwA G) s.heap s.heap [] := va_S.rf
  have hl : lv_has ls 2 [(0, .int p0), (1, .int p1)] := hl
  unfold fX7_mayBe at h
  refine lv_iload_n hx hb dX7_mayBe_0 rfl (lv_at hl 0 rfl) ?_
  refine lv_if_lt (tgt := 27) hx hb dX7_mayBe_1 (by decide) (fun c1 => ?_) (fun c1 => ?_)
  · replace h := it_t c1 h
    refine lv_iconst (v := 0) hx hb dX7_mayBe_27 (by decide) ?_
    exact re_z' hC hr hP hS PZ0 h rfl dX7_mayBe_28
  · replace h := it_f c1 h
    refine lv_iload_n hx hb dX7_mayBe_4 rfl (lv_at hl 0 rfl) ?_
    refine lv_sipush (v := 9999) hx hb dX7_mayBe_5 (by decide) ?_
    refine lv_icmp_gt (tgt := 27) hx hb dX7_mayBe_8 (by decide) (fun c2 => ?_) (fun c2 => ?_)
    · replace h := it_t c2 h
      refine lv_iconst (v := 0) hx hb dX7_mayBe_27 (by decide) ?_
      exact re_z' hC hr hP hS PZ0 h rfl dX7_mayBe_28
    · replace h := it_f c2 h
      refine lv_iload_n hx hb dX7_mayBe_11 rfl (lv_at hl 1 rfl) ?_
      refine lv_ldc hx hb (v := (-999999999)) hown (hts _ k645) dX7_mayBe_12 ?_
      refine lv_icmp_lt (tgt := 27) hx hb dX7_mayBe_14 (by decide) (fun c3 => ?_) (fun c3 => ?_)
      · replace h := it_t c3 h
        refine lv_iconst (v := 0) hx hb dX7_mayBe_27 (by decide) ?_
        exact re_z' hC hr hP hS PZ0 h rfl dX7_mayBe_28
      · replace h := it_f c3 h
        refine lv_iload_n hx hb dX7_mayBe_17 rfl (lv_at hl 1 rfl) ?_
        refine lv_ldc hx hb (v := 999999999) hown (hts _ k646) dX7_mayBe_18 ?_
        refine lv_icmp_gt (tgt := 27) hx hb dX7_mayBe_20 (by decide) (fun c4 => ?_) (fun c4 => ?_)
        · replace h := it_t c4 h
          refine lv_iconst (v := 0) hx hb dX7_mayBe_27 (by decide) ?_
          exact re_z' hC hr hP hS PZ0 h rfl dX7_mayBe_28
        · replace h := it_f c4 h
          refine lv_iconst (v := 1) hx hb dX7_mayBe_23 (by decide) ?_
          refine lv_goto (tgt := 28) hx hb dX7_mayBe_24 (by decide) ?_
          exact re_z' hC hr hP hS PZ1 h rfl dX7_mayBe_28
set_option maxHeartbeats 4000000 in
set_option maxRecDepth 100000 in
theorem mX7_size (l : Launch) (G : gp) (Rm : Mm) {C : Mm} {r0 : Int32} (h : fX7_size C = r0) : Met l yX7_size (wsy yX7_size cX7_size 1 (some .int)) (rmv 0 0) (va_Pc [.ref (gA G 43)] (Rl G (C, Rm))) (Qi G PT r0 (C, Rm)) 0 0 (lwA G) := by
  refine met_i [.ref (gA G 43)] wX7_size.2.2.2.2.2 (Nat.le_of_ble_eq_true rfl) ?_
  intro p e s m args below meth c ls hC hr hP hl
  have hC : Cx G p s m args meth c cX7_size RX7 1 := hC
  have hx := hC.1
  have hb := hC.2.1
  have hown := hC.2.2.2.1
  have hts := hC.2.2.2.2.1
  have hS : va_S (lwA G) s.heap s.heap [] := va_S.rf
  have hl : lv_has ls 1 [(0, .ref (gA G 43))] := hl
  unfold fX7_size at h
  refine lv_aload_n hx hb dX7_size_0 rfl (lv_at hl 0 rfl) ?_
  refine r_get (v := .int (C.1 43 3)) hC inX7 hP (e_43 G _) rfl 3 (by decide) rfl k154 rfl dX7_size_1 ?_
  exact re_i' hC hr hP hS h rfl dX7_size_4
set_option maxHeartbeats 4000000 in
set_option maxRecDepth 100000 in
theorem mX7_has (l : Launch) (G : gp) (Rm : Mm) {p1 : Int32} {C : Mm} {r0 : Int32} (h : fX7_has p1 C = r0) : Met l yX7_has (wsy yX7_has cX7_has 2 (some .boolean)) (rmv 0 0) (va_Pc [.ref (gA G 43), .int p1] (Rl G (C, Rm))) (Qi G PZ r0 (C, Rm)) 0 0 (lwA G) := by
  refine met_i [.ref (gA G 43), .int p1] wX7_has.2.2.2.2.2 (Nat.le_of_ble_eq_true rfl) ?_
  intro p e s m args below meth c ls hC hr hP hl
  have hC : Cx G p s m args meth c cX7_has RX7 2 := hC
  have hx := hC.1
  have hb := hC.2.1
  have hown := hC.2.2.2.1
  have hts := hC.2.2.2.2.1
  have hS : va_S (lwA G) s.heap s.heap [] := va_S.rf
  have hl : lv_has ls 2 [(0, .ref (gA G 43)), (1, .int p1)] := hl
  unfold fX7_has at h
  refine lv_iload_n hx hb dX7_has_0 rfl (lv_at hl 1 rfl) ?_
  refine lv_if_lt (tgt := 16) hx hb dX7_has_1 (by decide) (fun c1 => ?_) (fun c1 => ?_)
  · replace h := it_t c1 h
    refine lv_iconst (v := 0) hx hb dX7_has_16 (by decide) ?_
    exact re_z' hC hr hP hS PZ0 h rfl dX7_has_17
  · replace h := it_f c1 h
    refine lv_iload_n hx hb dX7_has_4 rfl (lv_at hl 1 rfl) ?_
    refine lv_aload_n hx hb dX7_has_5 rfl (lv_at hl 0 rfl) ?_
    refine r_get (v := .int (C.1 43 3)) hC inX7 hP (e_43 G _) rfl 3 (by decide) rfl k154 rfl dX7_has_6 ?_
    refine lv_icmp_ge (tgt := 16) hx hb dX7_has_9 (by decide) (fun c2 => ?_) (fun c2 => ?_)
    · replace h := it_t c2 h
      refine lv_iconst (v := 0) hx hb dX7_has_16 (by decide) ?_
      exact re_z' hC hr hP hS PZ0 h rfl dX7_has_17
    · replace h := it_f c2 h
      refine lv_iconst (v := 1) hx hb dX7_has_12 (by decide) ?_
      refine lv_goto (tgt := 17) hx hb dX7_has_13 (by decide) ?_
      exact re_z' hC hr hP hS PZ1 h rfl dX7_has_17
set_option maxHeartbeats 4000000 in
set_option maxRecDepth 100000 in
theorem mX7_takes (l : Launch) (G : gp) (Rm : Mm) {p1 : Int32} {p2 : Int32} {p3 : Int32} {C : Mm} {r0 : Int32} {C0 : Mm} (h : fX7_takes p1 p2 p3 C = some (r0, C0)) : Met l yX7_takes (wsy yX7_takes cX7_takes 4 (some .boolean)) (rmv 0 0) (va_Pc [.ref (gA G 43), .int p1, .int p2, .int p3] (Rl G (C, Rm))) (Qi G PZ r0 (C0, Rm)) 0 0 (lwA G) := by
  refine met_i [.ref (gA G 43), .int p1, .int p2, .int p3] wX7_takes.2.2.2.2.2 (Nat.le_of_ble_eq_true rfl) ?_
  intro p e s m args below meth c ls hC hr hP hl
  have hC : Cx G p s m args meth c cX7_takes RX7 4 := hC
  have hx := hC.1
  have hb := hC.2.1
  have hown := hC.2.2.2.1
  have hts := hC.2.2.2.2.1
  have hS : va_S (lwA G) s.heap s.heap [] := va_S.rf
  have hl : lv_has ls 4 [(0, .ref (gA G 43)), (1, .int p1), (2, .int p2), (3, .int p3)] := hl
  unfold fX7_takes at h
  refine lv_aload_n hx hb dX7_takes_0 rfl (lv_at hl 0 rfl) ?_
  refine r_get (v := .int (C.1 43 3)) hC inX7 hP (e_43 G _) rfl 3 (by decide) rfl k154 rfl dX7_takes_1 ?_
  refine lv_bipush (v := 40) hx hb dX7_takes_4 (by decide) ?_
  refine lv_icmp_lt (tgt := 11) hx hb dX7_takes_6 (by decide) (fun c1 => ?_) (fun c1 => ?_)
  · replace h := it_t c1 h
    refine lv_aload_n hx hb dX7_takes_11 rfl (lv_at hl 0 rfl) ?_
    refine r_get (v := .ref (gA G 44)) hC inX7 hP (e_43 G _) rfl 0 (by decide) rfl k151 rfl dX7_takes_12 ?_
    refine lv_aload_n hx hb dX7_takes_15 rfl (lv_at hl 0 rfl) ?_
    refine r_get (v := .int (C.1 43 3)) hC inX7 hP (e_43 G _) rfl 3 (by decide) rfl k154 rfl dX7_takes_16 ?_
    refine lv_iload_n hx hb dX7_takes_19 rfl (lv_at hl 1 rfl) ?_
    by_cases c2 : (C.1 43 3) < (0 : Int32) ∨ 40 ≤ Int32.toNatClampNeg (C.1 43 3)
    · cases it_t c2 h
    replace h := it_f c2 h
    obtain ⟨C3, eC3⟩ : ∃ Z : Mm, Z = wrI C 44 (Int32.toNatClampNeg (C.1 43 3)) p1 := ⟨_, rfl⟩
    replace h := lt_y eC3 h
    refine r_iast (X' := (C3, Rm)) hC hP hS (e_44 G _) c2 (a_44 G _ _ _ _ eC3) dX7_takes_20 (fun H locs hP hS => ?_)
    refine lv_aload_n hx hb dX7_takes_21 rfl (lv_at hl 0 rfl) ?_
    refine r_get (v := .ref (gA G 45)) hC inX7 hP (e_43 G _) rfl 1 (by decide) rfl k152 rfl dX7_takes_22 ?_
    refine lv_aload_n hx hb dX7_takes_25 rfl (lv_at hl 0 rfl) ?_
    refine r_get (v := .int (C3.1 43 3)) hC inX7 hP (e_43 G _) rfl 3 (by decide) rfl k154 rfl dX7_takes_26 ?_
    refine lv_iload_n hx hb dX7_takes_29 rfl (lv_at hl 2 rfl) ?_
    by_cases c4 : (C3.1 43 3) < (0 : Int32) ∨ 40 ≤ Int32.toNatClampNeg (C3.1 43 3)
    · cases it_t c4 h
    replace h := it_f c4 h
    obtain ⟨C5, eC5⟩ : ∃ Z : Mm, Z = wrI C3 45 (Int32.toNatClampNeg (C3.1 43 3)) p2 := ⟨_, rfl⟩
    replace h := lt_y eC5 h
    refine r_iast (X' := (C5, Rm)) hC hP hS (e_45 G _) c4 (a_45 G _ _ _ _ eC5) dX7_takes_30 (fun H locs hP hS => ?_)
    refine lv_aload_n hx hb dX7_takes_31 rfl (lv_at hl 0 rfl) ?_
    refine r_get (v := .ref (gA G 46)) hC inX7 hP (e_43 G _) rfl 2 (by decide) rfl k153 rfl dX7_takes_32 ?_
    refine lv_aload_n hx hb dX7_takes_35 rfl (lv_at hl 0 rfl) ?_
    refine r_get (v := .int (C5.1 43 3)) hC inX7 hP (e_43 G _) rfl 3 (by decide) rfl k154 rfl dX7_takes_36 ?_
    refine lv_iload_n hx hb dX7_takes_39 rfl (lv_at hl 3 rfl) ?_
    by_cases c6 : (C5.1 43 3) < (0 : Int32) ∨ 40 ≤ Int32.toNatClampNeg (C5.1 43 3)
    · cases it_t c6 h
    replace h := it_f c6 h
    obtain ⟨C7, eC7⟩ : ∃ Z : Mm, Z = wrI C5 46 (Int32.toNatClampNeg (C5.1 43 3)) p3 := ⟨_, rfl⟩
    replace h := lt_y eC7 h
    refine r_iast (X' := (C7, Rm)) hC hP hS (e_46 G _) c6 (a_46 G _ _ _ _ eC7) dX7_takes_40 (fun H locs hP hS => ?_)
    refine lv_aload_n hx hb dX7_takes_41 rfl (lv_at hl 0 rfl) ?_
    refine lv_dup hx hb dX7_takes_42 rfl ?_
    refine r_get (v := .int (C7.1 43 3)) hC inX7 hP (e_43 G _) rfl 3 (by decide) rfl k154 rfl dX7_takes_43 ?_
    refine lv_iconst (v := 1) hx hb dX7_takes_46 (by decide) ?_
    refine lv_iadd hx hb dX7_takes_47 ?_
    obtain ⟨C8, eC8⟩ : ∃ Z : Mm, Z = wrI C7 43 3 ((C7.1 43 3) + 1) := ⟨_, rfl⟩
    replace h := lt_y eC8 h
    refine r_put (X' := (C8, Rm)) hC inX7 tyX7 tyX7_ok nmX7 hP hS (e_43 G _) rfl 3 (by decide) rfl k154 rfl (v := .int ((C7.1 43 3) + 1)) rfl rfl (Nat.le_of_ble_eq_true rfl) (p_43_3 G _ _ eC8) dX7_takes_48 (fun H locs hP hS => ?_)
    refine lv_iconst (v := 1) hx hb dX7_takes_51 (by decide) ?_
    exact re_z' hC hr hP hS PZ1 (pr_1 h) (congrArg (fun Z : Mm => (Z, Rm)) (pr_2 h)) dX7_takes_52
  · replace h := it_f c1 h
    refine lv_iconst (v := 0) hx hb dX7_takes_9 (by decide) ?_
    exact re_z' hC hr hP hS PZ0 (pr_1 h) (congrArg (fun Z : Mm => (Z, Rm)) (pr_2 h)) dX7_takes_10
set_option maxHeartbeats 4000000 in
set_option maxRecDepth 100000 in
theorem mX7_pair (l : Launch) (G : gp) (Rm : Mm) {p1 : Int32} {C : Mm} {r0 : Int32} (h : fX7_pair p1 C = some r0) : Met l yX7_pair (wsy yX7_pair cX7_pair 2 (some .int)) (rmv 1 21) (va_Pc [.ref (gA G 43), .int p1] (Rl G (C, Rm))) (Qi G PT r0 (C, Rm)) 0 0 (lwA G) := by
  refine met_i [.ref (gA G 43), .int p1] wX7_pair.2.2.2.2.2 (Nat.le_of_ble_eq_true rfl) ?_
  intro p e s m args below meth c ls hC hr hP hl
  have hC : Cx G p s m args meth c cX7_pair RX7 2 := hC
  have hx := hC.1
  have hb := hC.2.1
  have hown := hC.2.2.2.1
  have hts := hC.2.2.2.2.1
  have hS : va_S (lwA G) s.heap s.heap [] := va_S.rf
  have hl : lv_has ls 2 [(0, .ref (gA G 43)), (1, .int p1)] := hl
  unfold fX7_pair at h
  refine lv_aload_n hx hb dX7_pair_0 rfl (lv_at hl 0 rfl) ?_
  refine lv_iload_n hx hb dX7_pair_1 rfl (lv_at hl 1 rfl) ?_
  refine rc_i hS (run_V hC wX7_has k700 (e_43 G _) rfl hP hS (As := [.int p1]) (rest := []) (mX7_has l G Rm rfl) rfl hl.1 (Nat.le_of_ble_eq_true rfl) ⟨by decide, by decide⟩ ⟨Nat.le_refl _, Nat.le_refl _⟩ rfl dX7_pair_2) (fun H locs pb2 hP hS => ?_)
  refine lv_if_eq (tgt := 17) hx hb dX7_pair_5 (by decide) (fun c3 => ?_) (fun c3 => ?_)
  · replace h := it_t c3 h
    refine lv_iconst (v := 0) hx hb dX7_pair_17 (by decide) ?_
    exact re_i' hC hr hP hS (Option.some.inj h) rfl dX7_pair_18
  · replace h := it_f c3 h
    refine lv_aload_n hx hb dX7_pair_8 rfl (lv_at hl 0 rfl) ?_
    refine r_get (v := .ref (gA G 44)) hC inX7 hP (e_43 G _) rfl 0 (by decide) rfl k151 rfl dX7_pair_9 ?_
    refine lv_iload_n hx hb dX7_pair_12 rfl (lv_at hl 1 rfl) ?_
    by_cases c4 : p1 < (0 : Int32) ∨ 40 ≤ Int32.toNatClampNeg p1
    · cases it_t c4 h
    replace h := it_f c4 h
    refine r_iald hC hP (f := C.1 44) (e_44 G _) c4 dX7_pair_13 ?_
    refine lv_goto (tgt := 18) hx hb dX7_pair_14 (by decide) ?_
    exact re_i' hC hr hP hS (Option.some.inj h) rfl dX7_pair_18
set_option maxHeartbeats 4000000 in
set_option maxRecDepth 100000 in
theorem mX7_tenths (l : Launch) (G : gp) (Rm : Mm) {p1 : Int32} {C : Mm} {r0 : Int32} (h : fX7_tenths p1 C = some r0) : Met l yX7_tenths (wsy yX7_tenths cX7_tenths 2 (some .int)) (rmv 1 21) (va_Pc [.ref (gA G 43), .int p1] (Rl G (C, Rm))) (Qi G PT r0 (C, Rm)) 0 0 (lwA G) := by
  refine met_i [.ref (gA G 43), .int p1] wX7_tenths.2.2.2.2.2 (Nat.le_of_ble_eq_true rfl) ?_
  intro p e s m args below meth c ls hC hr hP hl
  have hC : Cx G p s m args meth c cX7_tenths RX7 2 := hC
  have hx := hC.1
  have hb := hC.2.1
  have hown := hC.2.2.2.1
  have hts := hC.2.2.2.2.1
  have hS : va_S (lwA G) s.heap s.heap [] := va_S.rf
  have hl : lv_has ls 2 [(0, .ref (gA G 43)), (1, .int p1)] := hl
  unfold fX7_tenths at h
  refine lv_aload_n hx hb dX7_tenths_0 rfl (lv_at hl 0 rfl) ?_
  refine lv_iload_n hx hb dX7_tenths_1 rfl (lv_at hl 1 rfl) ?_
  refine rc_i hS (run_V hC wX7_has k700 (e_43 G _) rfl hP hS (As := [.int p1]) (rest := []) (mX7_has l G Rm rfl) rfl hl.1 (Nat.le_of_ble_eq_true rfl) ⟨by decide, by decide⟩ ⟨Nat.le_refl _, Nat.le_refl _⟩ rfl dX7_tenths_2) (fun H locs pb2 hP hS => ?_)
  refine lv_if_eq (tgt := 17) hx hb dX7_tenths_5 (by decide) (fun c3 => ?_) (fun c3 => ?_)
  · replace h := it_t c3 h
    refine lv_iconst (v := 0) hx hb dX7_tenths_17 (by decide) ?_
    exact re_i' hC hr hP hS (Option.some.inj h) rfl dX7_tenths_18
  · replace h := it_f c3 h
    refine lv_aload_n hx hb dX7_tenths_8 rfl (lv_at hl 0 rfl) ?_
    refine r_get (v := .ref (gA G 45)) hC inX7 hP (e_43 G _) rfl 1 (by decide) rfl k152 rfl dX7_tenths_9 ?_
    refine lv_iload_n hx hb dX7_tenths_12 rfl (lv_at hl 1 rfl) ?_
    by_cases c4 : p1 < (0 : Int32) ∨ 40 ≤ Int32.toNatClampNeg p1
    · cases it_t c4 h
    replace h := it_f c4 h
    refine r_iald hC hP (f := C.1 45) (e_45 G _) c4 dX7_tenths_13 ?_
    refine lv_goto (tgt := 18) hx hb dX7_tenths_14 (by decide) ?_
    exact re_i' hC hr hP hS (Option.some.inj h) rfl dX7_tenths_18
set_option maxHeartbeats 4000000 in
set_option maxRecDepth 100000 in
theorem mX7_answerOf (l : Launch) (G : gp) (Rm : Mm) {p1 : Int32} {C : Mm} {r0 : Int32} (h : fX7_answerOf p1 C = some r0) : Met l yX7_answerOf (wsy yX7_answerOf cX7_answerOf 2 (some .int)) (rmv 1 21) (va_Pc [.ref (gA G 43), .int p1] (Rl G (C, Rm))) (Qi G PT r0 (C, Rm)) 0 0 (lwA G) := by
  refine met_i [.ref (gA G 43), .int p1] wX7_answerOf.2.2.2.2.2 (Nat.le_of_ble_eq_true rfl) ?_
  intro p e s m args below meth c ls hC hr hP hl
  have hC : Cx G p s m args meth c cX7_answerOf RX7 2 := hC
  have hx := hC.1
  have hb := hC.2.1
  have hown := hC.2.2.2.1
  have hts := hC.2.2.2.2.1
  have hS : va_S (lwA G) s.heap s.heap [] := va_S.rf
  have hl : lv_has ls 2 [(0, .ref (gA G 43)), (1, .int p1)] := hl
  unfold fX7_answerOf at h
  refine lv_aload_n hx hb dX7_answerOf_0 rfl (lv_at hl 0 rfl) ?_
  refine lv_iload_n hx hb dX7_answerOf_1 rfl (lv_at hl 1 rfl) ?_
  refine rc_i hS (run_V hC wX7_has k700 (e_43 G _) rfl hP hS (As := [.int p1]) (rest := []) (mX7_has l G Rm rfl) rfl hl.1 (Nat.le_of_ble_eq_true rfl) ⟨by decide, by decide⟩ ⟨Nat.le_refl _, Nat.le_refl _⟩ rfl dX7_answerOf_2) (fun H locs pb2 hP hS => ?_)
  refine lv_if_eq (tgt := 17) hx hb dX7_answerOf_5 (by decide) (fun c3 => ?_) (fun c3 => ?_)
  · replace h := it_t c3 h
    refine lv_iconst (v := 0) hx hb dX7_answerOf_17 (by decide) ?_
    exact re_i' hC hr hP hS (Option.some.inj h) rfl dX7_answerOf_18
  · replace h := it_f c3 h
    refine lv_aload_n hx hb dX7_answerOf_8 rfl (lv_at hl 0 rfl) ?_
    refine r_get (v := .ref (gA G 46)) hC inX7 hP (e_43 G _) rfl 2 (by decide) rfl k153 rfl dX7_answerOf_9 ?_
    refine lv_iload_n hx hb dX7_answerOf_12 rfl (lv_at hl 1 rfl) ?_
    by_cases c4 : p1 < (0 : Int32) ∨ 40 ≤ Int32.toNatClampNeg p1
    · cases it_t c4 h
    replace h := it_f c4 h
    refine r_iald hC hP (f := C.1 46) (e_46 G _) c4 dX7_answerOf_13 ?_
    refine lv_goto (tgt := 18) hx hb dX7_answerOf_14 (by decide) ?_
    exact re_i' hC hr hP hS (Option.some.inj h) rfl dX7_answerOf_18
set_option maxHeartbeats 4000000 in
set_option maxRecDepth 100000 in
theorem mX8_isSort (l : Launch) (G : gp) (Rm : Mm) {p0 : Int32} {C : Mm} {r0 : Int32} (h : fX8_isSort p0 = r0) : Met l yX8_isSort (wsy yX8_isSort cX8_isSort 1 (some .boolean)) (rmv 0 0) (va_Pc [.int p0] (Rl G (C, Rm))) (Qi G PZ r0 (C, Rm)) 0 0 (lwA G) := by
  refine met_i [.int p0] wX8_isSort.2.2.2.2 (Nat.le_of_ble_eq_true rfl) ?_
  intro p e s m args below meth c ls hC hr hP hl
  have hC : Cx G p s m args meth c cX8_isSort RX8 1 := hC
  have hx := hC.1
  have hb := hC.2.1
  have hown := hC.2.2.2.1
  have hts := hC.2.2.2.2.1
  have hS : va_S (lwA G) s.heap s.heap [] := va_S.rf
  have hl : lv_has ls 1 [(0, .int p0)] := hl
  unfold fX8_isSort at h
  refine lv_iload_n hx hb dX8_isSort_0 rfl (lv_at hl 0 rfl) ?_
  refine lv_if_lt (tgt := 13) hx hb dX8_isSort_1 (by decide) (fun c1 => ?_) (fun c1 => ?_)
  · replace h := it_t c1 h
    refine lv_iconst (v := 0) hx hb dX8_isSort_13 (by decide) ?_
    exact re_z' hC hr hP hS PZ0 h rfl dX8_isSort_14
  · replace h := it_f c1 h
    refine lv_iload_n hx hb dX8_isSort_4 rfl (lv_at hl 0 rfl) ?_
    refine lv_iconst (v := 5) hx hb dX8_isSort_5 (by decide) ?_
    refine lv_icmp_ge (tgt := 13) hx hb dX8_isSort_6 (by decide) (fun c2 => ?_) (fun c2 => ?_)
    · replace h := it_t c2 h
      refine lv_iconst (v := 0) hx hb dX8_isSort_13 (by decide) ?_
      exact re_z' hC hr hP hS PZ0 h rfl dX8_isSort_14
    · replace h := it_f c2 h
      refine lv_iconst (v := 1) hx hb dX8_isSort_9 (by decide) ?_
      refine lv_goto (tgt := 14) hx hb dX8_isSort_10 (by decide) ?_
      exact re_z' hC hr hP hS PZ1 h rfl dX8_isSort_14
set_option maxHeartbeats 4000000 in
set_option maxRecDepth 100000 in
theorem mX8_isEmpty (l : Launch) (G : gp) (Rm : Mm) {j0 : Nat} (hj0 : j0 < 6) {C : Mm} {r0 : Int32} (h : fX8_isEmpty j0 C = r0) : Met l yX8_isEmpty (wsy yX8_isEmpty cX8_isEmpty 1 (some .boolean)) (rmv 0 0) (va_Pc [.ref (gA G (shc j0))] (Rl G (C, Rm))) (Qi G PZ r0 (C, Rm)) 0 0 (lwA G) := by
  refine met_i [.ref (gA G (shc j0))] wX8_isEmpty.2.2.2.2.2 (Nat.le_of_ble_eq_true rfl) ?_
  intro p e s m args below meth c ls hC hr hP hl
  have hC : Cx G p s m args meth c cX8_isEmpty RX8 1 := hC
  have hx := hC.1
  have hb := hC.2.1
  have hown := hC.2.2.2.1
  have hts := hC.2.2.2.2.1
  have hS : va_S (lwA G) s.heap s.heap [] := va_S.rf
  have hl : lv_has ls 1 [(0, .ref (gA G (shc j0)))] := hl
  unfold fX8_isEmpty at h
  refine lv_aload_n hx hb dX8_isEmpty_0 rfl (lv_at hl 0 rfl) ?_
  refine r_get (v := .int (C.1 (shc j0) 0)) hC inX8 hP (e_sc G _ hj0) rfl 0 (by decide) rfl k218 rfl dX8_isEmpty_1 ?_
  refine lv_iconst (v := (-1)) hx hb dX8_isEmpty_4 (by decide) ?_
  refine lv_icmp_ne (tgt := 20) hx hb dX8_isEmpty_5 (by decide) (fun c1 => ?_) (fun c1 => ?_)
  · replace h := it_f c1 h
    refine lv_iconst (v := 0) hx hb dX8_isEmpty_20 (by decide) ?_
    exact re_z' hC hr hP hS PZ0 h rfl dX8_isEmpty_21
  · replace h := it_t c1 h
    refine lv_aload_n hx hb dX8_isEmpty_8 rfl (lv_at hl 0 rfl) ?_
    refine r_get (v := .int (C.1 (shc j0) 1)) hC inX8 hP (e_sc G _ hj0) rfl 1 (by decide) rfl k219 rfl dX8_isEmpty_9 ?_
    refine lv_iconst (v := (-1)) hx hb dX8_isEmpty_12 (by decide) ?_
    refine lv_icmp_ne (tgt := 20) hx hb dX8_isEmpty_13 (by decide) (fun c2 => ?_) (fun c2 => ?_)
    · replace h := it_f c2 h
      refine lv_iconst (v := 0) hx hb dX8_isEmpty_20 (by decide) ?_
      exact re_z' hC hr hP hS PZ0 h rfl dX8_isEmpty_21
    · replace h := it_t c2 h
      refine lv_iconst (v := 1) hx hb dX8_isEmpty_16 (by decide) ?_
      refine lv_goto (tgt := 21) hx hb dX8_isEmpty_17 (by decide) ?_
      exact re_z' hC hr hP hS PZ1 h rfl dX8_isEmpty_21
set_option maxHeartbeats 4000000 in
set_option maxRecDepth 100000 in
theorem mX8_holdsRow (l : Launch) (G : gp) (Rm : Mm) {j0 : Nat} (hj0 : j0 < 6) {C : Mm} {r0 : Int32} (h : fX8_holdsRow j0 C = r0) : Met l yX8_holdsRow (wsy yX8_holdsRow cX8_holdsRow 1 (some .boolean)) (rmv 0 0) (va_Pc [.ref (gA G (shc j0))] (Rl G (C, Rm))) (Qi G PZ r0 (C, Rm)) 0 0 (lwA G) := by
  refine met_i [.ref (gA G (shc j0))] wX8_holdsRow.2.2.2.2.2 (Nat.le_of_ble_eq_true rfl) ?_
  intro p e s m args below meth c ls hC hr hP hl
  have hC : Cx G p s m args meth c cX8_holdsRow RX8 1 := hC
  have hx := hC.1
  have hb := hC.2.1
  have hown := hC.2.2.2.1
  have hts := hC.2.2.2.2.1
  have hS : va_S (lwA G) s.heap s.heap [] := va_S.rf
  have hl : lv_has ls 1 [(0, .ref (gA G (shc j0)))] := hl
  unfold fX8_holdsRow at h
  refine lv_aload_n hx hb dX8_holdsRow_0 rfl (lv_at hl 0 rfl) ?_
  refine r_get (v := .int (C.1 (shc j0) 1)) hC inX8 hP (e_sc G _ hj0) rfl 1 (by decide) rfl k219 rfl dX8_holdsRow_1 ?_
  refine lv_iconst (v := (-1)) hx hb dX8_holdsRow_4 (by decide) ?_
  refine lv_icmp_eq (tgt := 12) hx hb dX8_holdsRow_5 (by decide) (fun c1 => ?_) (fun c1 => ?_)
  · replace h := it_t c1 h
    refine lv_iconst (v := 0) hx hb dX8_holdsRow_12 (by decide) ?_
    exact re_z' hC hr hP hS PZ0 h rfl dX8_holdsRow_13
  · replace h := it_f c1 h
    refine lv_iconst (v := 1) hx hb dX8_holdsRow_8 (by decide) ?_
    refine lv_goto (tgt := 13) hx hb dX8_holdsRow_9 (by decide) ?_
    exact re_z' hC hr hP hS PZ1 h rfl dX8_holdsRow_13
set_option maxHeartbeats 4000000 in
set_option maxRecDepth 100000 in
theorem mX8_holdsInts (l : Launch) (G : gp) (Rm : Mm) {j0 : Nat} (hj0 : j0 < 6) {C : Mm} {r0 : Int32} (h : fX8_holdsInts j0 C = r0) : Met l yX8_holdsInts (wsy yX8_holdsInts cX8_holdsInts 1 (some .boolean)) (rmv 0 0) (va_Pc [.ref (gA G (shc j0))] (Rl G (C, Rm))) (Qi G PZ r0 (C, Rm)) 0 0 (lwA G) := by
  refine met_i [.ref (gA G (shc j0))] wX8_holdsInts.2.2.2.2.2 (Nat.le_of_ble_eq_true rfl) ?_
  intro p e s m args below meth c ls hC hr hP hl
  have hC : Cx G p s m args meth c cX8_holdsInts RX8 1 := hC
  have hx := hC.1
  have hb := hC.2.1
  have hown := hC.2.2.2.1
  have hts := hC.2.2.2.2.1
  have hS : va_S (lwA G) s.heap s.heap [] := va_S.rf
  have hl : lv_has ls 1 [(0, .ref (gA G (shc j0)))] := hl
  unfold fX8_holdsInts at h
  refine lv_aload_n hx hb dX8_holdsInts_0 rfl (lv_at hl 0 rfl) ?_
  refine r_get (v := .int (C.1 (shc j0) 1)) hC inX8 hP (e_sc G _ hj0) rfl 1 (by decide) rfl k219 rfl dX8_holdsInts_1 ?_
  refine lv_iconst (v := 2) hx hb dX8_holdsInts_4 (by decide) ?_
  refine lv_icmp_ne (tgt := 12) hx hb dX8_holdsInts_5 (by decide) (fun c1 => ?_) (fun c1 => ?_)
  · replace h := it_f c1 h
    refine lv_iconst (v := 0) hx hb dX8_holdsInts_12 (by decide) ?_
    exact re_z' hC hr hP hS PZ0 h rfl dX8_holdsInts_13
  · replace h := it_t c1 h
    refine lv_iconst (v := 1) hx hb dX8_holdsInts_8 (by decide) ?_
    refine lv_goto (tgt := 13) hx hb dX8_holdsInts_9 (by decide) ?_
    exact re_z' hC hr hP hS PZ1 h rfl dX8_holdsInts_13
set_option maxHeartbeats 4000000 in
set_option maxRecDepth 100000 in
theorem mX8_bodyHeld (l : Launch) (G : gp) (Rm : Mm) {j0 : Nat} (hj0 : j0 < 6) {C : Mm} {r0 : Int32} (h : fX8_bodyHeld j0 C = r0) : Met l yX8_bodyHeld (wsy yX8_bodyHeld cX8_bodyHeld 1 (some .int)) (rmv 0 0) (va_Pc [.ref (gA G (shc j0))] (Rl G (C, Rm))) (Qi G PT r0 (C, Rm)) 0 0 (lwA G) := by
  refine met_i [.ref (gA G (shc j0))] wX8_bodyHeld.2.2.2.2.2 (Nat.le_of_ble_eq_true rfl) ?_
  intro p e s m args below meth c ls hC hr hP hl
  have hC : Cx G p s m args meth c cX8_bodyHeld RX8 1 := hC
  have hx := hC.1
  have hb := hC.2.1
  have hown := hC.2.2.2.1
  have hts := hC.2.2.2.2.1
  have hS : va_S (lwA G) s.heap s.heap [] := va_S.rf
  have hl : lv_has ls 1 [(0, .ref (gA G (shc j0)))] := hl
  unfold fX8_bodyHeld at h
  refine lv_aload_n hx hb dX8_bodyHeld_0 rfl (lv_at hl 0 rfl) ?_
  refine r_get (v := .int (C.1 (shc j0) 0)) hC inX8 hP (e_sc G _ hj0) rfl 0 (by decide) rfl k218 rfl dX8_bodyHeld_1 ?_
  exact re_i' hC hr hP hS h rfl dX8_bodyHeld_4
set_option maxHeartbeats 4000000 in
set_option maxRecDepth 100000 in
theorem mX8_sort (l : Launch) (G : gp) (Rm : Mm) {j0 : Nat} (hj0 : j0 < 6) {C : Mm} {r0 : Int32} (h : fX8_sort j0 C = r0) : Met l yX8_sort (wsy yX8_sort cX8_sort 1 (some .int)) (rmv 0 0) (va_Pc [.ref (gA G (shc j0))] (Rl G (C, Rm))) (Qi G PT r0 (C, Rm)) 0 0 (lwA G) := by
  refine met_i [.ref (gA G (shc j0))] wX8_sort.2.2.2.2.2 (Nat.le_of_ble_eq_true rfl) ?_
  intro p e s m args below meth c ls hC hr hP hl
  have hC : Cx G p s m args meth c cX8_sort RX8 1 := hC
  have hx := hC.1
  have hb := hC.2.1
  have hown := hC.2.2.2.1
  have hts := hC.2.2.2.2.1
  have hS : va_S (lwA G) s.heap s.heap [] := va_S.rf
  have hl : lv_has ls 1 [(0, .ref (gA G (shc j0)))] := hl
  unfold fX8_sort at h
  refine lv_aload_n hx hb dX8_sort_0 rfl (lv_at hl 0 rfl) ?_
  refine r_get (v := .int (C.1 (shc j0) 1)) hC inX8 hP (e_sc G _ hj0) rfl 1 (by decide) rfl k219 rfl dX8_sort_1 ?_
  exact re_i' hC hr hP hS h rfl dX8_sort_4
set_option maxHeartbeats 4000000 in
set_option maxRecDepth 100000 in
theorem mX8_size (l : Launch) (G : gp) (Rm : Mm) {j0 : Nat} (hj0 : j0 < 6) {C : Mm} {r0 : Int32} (h : fX8_size j0 C = r0) : Met l yX8_size (wsy yX8_size cX8_size 1 (some .int)) (rmv 0 0) (va_Pc [.ref (gA G (shc j0))] (Rl G (C, Rm))) (Qi G PT r0 (C, Rm)) 0 0 (lwA G) := by
  refine met_i [.ref (gA G (shc j0))] wX8_size.2.2.2.2.2 (Nat.le_of_ble_eq_true rfl) ?_
  intro p e s m args below meth c ls hC hr hP hl
  have hC : Cx G p s m args meth c cX8_size RX8 1 := hC
  have hx := hC.1
  have hb := hC.2.1
  have hown := hC.2.2.2.1
  have hts := hC.2.2.2.2.1
  have hS : va_S (lwA G) s.heap s.heap [] := va_S.rf
  have hl : lv_has ls 1 [(0, .ref (gA G (shc j0)))] := hl
  unfold fX8_size at h
  refine lv_aload_n hx hb dX8_size_0 rfl (lv_at hl 0 rfl) ?_
  refine r_get (v := .int (C.1 (shc j0) 2)) hC inX8 hP (e_sc G _ hj0) rfl 2 (by decide) rfl k220 rfl dX8_size_1 ?_
  exact re_i' hC hr hP hS h rfl dX8_size_4
set_option maxHeartbeats 4000000 in
set_option maxRecDepth 100000 in
theorem mX8_holdBody (l : Launch) (G : gp) (Rm : Mm) {j0 : Nat} (hj0 : j0 < 6) {p1 : Int32} {C : Mm} {C0 : Mm} (h : fX8_holdBody j0 p1 C = C0) : Met l yX8_holdBody (wsy yX8_holdBody cX8_holdBody 2 none) (rmv 0 0) (va_Pc [.ref (gA G (shc j0)), .int p1] (Rl G (C, Rm))) (Qv G (C0, Rm)) 0 0 (lwA G) := by
  refine met_i [.ref (gA G (shc j0)), .int p1] wX8_holdBody.2.2.2.2.2 (Nat.le_of_ble_eq_true rfl) ?_
  intro p e s m args below meth c ls hC hr hP hl
  have hC : Cx G p s m args meth c cX8_holdBody RX8 2 := hC
  have hx := hC.1
  have hb := hC.2.1
  have hown := hC.2.2.2.1
  have hts := hC.2.2.2.2.1
  have hS : va_S (lwA G) s.heap s.heap [] := va_S.rf
  have hl : lv_has ls 2 [(0, .ref (gA G (shc j0))), (1, .int p1)] := hl
  unfold fX8_holdBody at h
  refine lv_aload_n hx hb dX8_holdBody_0 rfl (lv_at hl 0 rfl) ?_
  refine lv_iload_n hx hb dX8_holdBody_1 rfl (lv_at hl 1 rfl) ?_
  obtain ⟨C1, eC1⟩ : ∃ Z : Mm, Z = wrI C (shc j0) 0 p1 := ⟨_, rfl⟩
  replace h := lt_y eC1 h
  refine r_put (X' := (C1, Rm)) hC inX8 tyX8 tyX8_ok nmX8 hP hS (e_sc G _ hj0) rfl 0 (by decide) rfl k218 rfl (v := .int p1) rfl rfl (Nat.le_of_ble_eq_true rfl) (p_sc0 G _ _ hj0 eC1) dX8_holdBody_2 (fun H locs hP hS => ?_)
  refine lv_aload_n hx hb dX8_holdBody_5 rfl (lv_at hl 0 rfl) ?_
  refine lv_iconst (v := (-1)) hx hb dX8_holdBody_6 (by decide) ?_
  obtain ⟨C2, eC2⟩ : ∃ Z : Mm, Z = wrI C1 (shc j0) 1 (-1) := ⟨_, rfl⟩
  replace h := lt_y eC2 h
  refine r_put (X' := (C2, Rm)) hC inX8 tyX8 tyX8_ok nmX8 hP hS (e_sc G _ hj0) rfl 1 (by decide) rfl k219 rfl (v := .int (-1)) rfl rfl (Nat.le_of_ble_eq_true rfl) (p_sc1 G _ _ hj0 eC2) dX8_holdBody_7 (fun H locs hP hS => ?_)
  refine lv_aload_n hx hb dX8_holdBody_10 rfl (lv_at hl 0 rfl) ?_
  refine lv_iconst (v := 0) hx hb dX8_holdBody_11 (by decide) ?_
  obtain ⟨C3, eC3⟩ : ∃ Z : Mm, Z = wrI C2 (shc j0) 2 0 := ⟨_, rfl⟩
  replace h := lt_y eC3 h
  refine r_put (X' := (C3, Rm)) hC inX8 tyX8 tyX8_ok nmX8 hP hS (e_sc G _ hj0) rfl 2 (by decide) rfl k220 rfl (v := .int 0) rfl rfl (Nat.le_of_ble_eq_true rfl) (p_sc2 G _ _ hj0 eC3) dX8_holdBody_12 (fun H locs hP hS => ?_)
  exact re_v' hC hr hP hS (congrArg (fun Z : Mm => (Z, Rm)) h) dX8_holdBody_15
set_option maxHeartbeats 4000000 in
set_option maxRecDepth 100000 in
theorem mX8_holdRow (l : Launch) (G : gp) (Rm : Mm) {n : Nat} {j0 : Nat} (hj0 : j0 < 6) {p1 : Int32} {p2 : Int32} {C : Mm} {C0 : Mm} (h : fX8_holdRow n j0 p1 p2 C = some C0) : Met l yX8_holdRow (wsy yX8_holdRow cX8_holdRow 4 none) (rmv 1 40) (va_Pc [.ref (gA G (shc j0)), .int p1, .int p2] (Rl G (C, Rm))) (Qv G (C0, Rm)) 0 0 (lwA G) := by
  refine met_i [.ref (gA G (shc j0)), .int p1, .int p2] wX8_holdRow.2.2.2.2.2 (Nat.le_of_ble_eq_true rfl) ?_
  intro p e s m args below meth c ls hC hr hP hl
  have hC : Cx G p s m args meth c cX8_holdRow RX8 4 := hC
  have hx := hC.1
  have hb := hC.2.1
  have hown := hC.2.2.2.1
  have hts := hC.2.2.2.2.1
  have hS : va_S (lwA G) s.heap s.heap [] := va_S.rf
  have hl : lv_has ls 4 [(0, .ref (gA G (shc j0))), (1, .int p1), (2, .int p2)] := hl
  have bl26 : ∀ (fu : Nat), ∀ (y3 : Int32) (C : Mm) (H : Heap) (locs : List Loc) (ls : Array Slot), fX8_holdRow_h26 n j0 fu y3 C = some C0 → lv_has ls 4 [(0, .ref (gA G (shc j0))), (3, .int y3)] → va_P (gD G) vwCl (wld G (C, Rm)) H → va_S (lwA G) s.heap H locs → W p l e (rmv 1 40) s m args below meth c H locs 0 0 (MQ below (Qv G (C0, Rm)) args s 0 0 (lwA G)) (F0 m 26 ls []) := by
    intro fu
    induction fu with
    | zero =>
      intro y3 C H locs ls h hl hP hS
      rw [fX8_holdRow_h26.eq_1] at h
      cases h
    | succ fu ih =>
      intro y3 C H locs ls h hl hP hS
      rw [fX8_holdRow_h26.eq_2] at h
      refine lv_iload_n hx hb dX8_holdRow_26 rfl (lv_at hl 1 rfl) ?_
      refine lv_bipush (v := 60) hx hb dX8_holdRow_27 (by decide) ?_
      refine lv_icmp_ge (tgt := 45) hx hb dX8_holdRow_29 (by decide) (fun c1 => ?_) (fun c1 => ?_)
      · replace h := it_t c1 h
        exact re_v' hC hr hP hS (congrArg (fun Z : Mm => (Z, Rm)) (Option.some.inj h)) dX8_holdRow_45
      · replace h := it_f c1 h
        refine lv_aload_n hx hb dX8_holdRow_32 rfl (lv_at hl 0 rfl) ?_
        refine r_get (v := .ref (gA G (she j0))) hC inX8 hP (e_sc G _ hj0) rfl 3 (by decide) rfl k221 rfl dX8_holdRow_33 ?_
        refine lv_iload_n hx hb dX8_holdRow_36 rfl (lv_at hl 1 rfl) ?_
        refine lv_lconst (v := 0) hx hb dX8_holdRow_37 (by decide) ?_
        by_cases c2 : y3 < (0 : Int32) ∨ 60 ≤ Int32.toNatClampNeg y3
        · cases it_t c2 h
        replace h := it_f c2 h
        obtain ⟨C3, eC3⟩ : ∃ Z : Mm, Z = wrL C (she j0) (Int32.toNatClampNeg y3) 0 := ⟨_, rfl⟩
        replace h := lt_y eC3 h
        refine r_last (X' := (C3, Rm)) hC hP hS (e_se G _ hj0) c2 (a_se G _ _ hj0 _ _ eC3) dX8_holdRow_38 (fun H locs hP hS => ?_)
        obtain ⟨x4, ex4⟩ : ∃ y : Int32, y = y3 + 1 := ⟨_, rfl⟩
        replace h := lt_y ex4 h
        refine lv_iinc (v := x4) (lv' := [(3, .int x4), (0, .ref (gA G (shc j0)))]) hx hb dX8_holdRow_39 hl (k := 1) rfl (by rw [ex4]; rfl) (by decide) rfl (fun ls hl => ?_)
        refine lv_goto (tgt := 26) hx hb dX8_holdRow_42 (by decide) ?_
        exact ih x4 C3 _ _ _ h (lv_sub hl [1, 0] rfl) hP hS
  unfold fX8_holdRow at h
  refine lv_aload_n hx hb dX8_holdRow_0 rfl (lv_at hl 0 rfl) ?_
  refine lv_iconst (v := (-1)) hx hb dX8_holdRow_1 (by decide) ?_
  obtain ⟨C5, eC5⟩ : ∃ Z : Mm, Z = wrI C (shc j0) 0 (-1) := ⟨_, rfl⟩
  replace h := lt_y eC5 h
  refine r_put (X' := (C5, Rm)) hC inX8 tyX8 tyX8_ok nmX8 hP hS (e_sc G _ hj0) rfl 0 (by decide) rfl k218 rfl (v := .int (-1)) rfl rfl (Nat.le_of_ble_eq_true rfl) (p_sc0 G _ _ hj0 eC5) dX8_holdRow_2 (fun H locs hP hS => ?_)
  refine lv_aload_n hx hb dX8_holdRow_5 rfl (lv_at hl 0 rfl) ?_
  refine lv_iload_n hx hb dX8_holdRow_6 rfl (lv_at hl 1 rfl) ?_
  obtain ⟨C6, eC6⟩ : ∃ Z : Mm, Z = wrI C5 (shc j0) 1 p1 := ⟨_, rfl⟩
  replace h := lt_y eC6 h
  refine r_put (X' := (C6, Rm)) hC inX8 tyX8 tyX8_ok nmX8 hP hS (e_sc G _ hj0) rfl 1 (by decide) rfl k219 rfl (v := .int p1) rfl rfl (Nat.le_of_ble_eq_true rfl) (p_sc1 G _ _ hj0 eC6) dX8_holdRow_7 (fun H locs hP hS => ?_)
  refine lv_aload_n hx hb dX8_holdRow_10 rfl (lv_at hl 0 rfl) ?_
  refine lv_iconst (v := 0) hx hb dX8_holdRow_11 (by decide) ?_
  refine lv_iload_n hx hb dX8_holdRow_12 rfl (lv_at hl 2 rfl) ?_
  refine lv_bipush (v := 60) hx hb dX8_holdRow_13 (by decide) ?_
  refine r_min hC (rest := [.int 0, .ref (gA G (shc j0))]) k987 k482 k13 k483 hl.1 (by decide) (Nat.le_of_ble_eq_true rfl) (Nat.le_refl _) (Nat.le_refl _) dX8_holdRow_15 ?_
  refine r_max hC (rest := [.ref (gA G (shc j0))]) k988 k538 k13 k539 hl.1 (by decide) (Nat.le_of_ble_eq_true rfl) (Nat.le_refl _) (Nat.le_refl _) dX8_holdRow_18 ?_
  obtain ⟨C7, eC7⟩ : ∃ Z : Mm, Z = wrI C6 (shc j0) 2 (imax 0 (imin p2 60)) := ⟨_, rfl⟩
  replace h := lt_y eC7 h
  refine r_put (X' := (C7, Rm)) hC inX8 tyX8 tyX8_ok nmX8 hP hS (e_sc G _ hj0) rfl 2 (by decide) rfl k220 rfl (v := .int (imax 0 (imin p2 60))) rfl rfl (Nat.le_of_ble_eq_true rfl) (p_sc2 G _ _ hj0 eC7) dX8_holdRow_21 (fun H locs hP hS => ?_)
  refine lv_iconst (v := 0) hx hb dX8_holdRow_24 (by decide) ?_
  refine lv_istore_n (lv' := [(3, .int 0), (0, .ref (gA G (shc j0))), (1, .int p1), (2, .int p2)]) hx hb dX8_holdRow_25 rfl hl (by decide) rfl (fun ls hl => ?_)
  exact bl26 n 0 C7 _ _ _ h (lv_sub hl [1, 0] rfl) hP hS
set_option maxHeartbeats 4000000 in
set_option maxRecDepth 100000 in
theorem mX8_hasPlaces (l : Launch) (G : gp) (Rm : Mm) {j0 : Nat} (hj0 : j0 < 6) {p1 : Int32} {p2 : Int32} {C : Mm} {r0 : Int32} (h : fX8_hasPlaces j0 p1 p2 C = r0) : Met l yX8_hasPlaces (wsy yX8_hasPlaces cX8_hasPlaces 3 (some .boolean)) (rmv 0 0) (va_Pc [.ref (gA G (shc j0)), .int p1, .int p2] (Rl G (C, Rm))) (Qi G PZ r0 (C, Rm)) 0 0 (lwA G) := by
  refine met_i [.ref (gA G (shc j0)), .int p1, .int p2] wX8_hasPlaces.2.2.2.2.2 (Nat.le_of_ble_eq_true rfl) ?_
  intro p e s m args below meth c ls hC hr hP hl
  have hC : Cx G p s m args meth c cX8_hasPlaces RX8 3 := hC
  have hx := hC.1
  have hb := hC.2.1
  have hown := hC.2.2.2.1
  have hts := hC.2.2.2.2.1
  have hS : va_S (lwA G) s.heap s.heap [] := va_S.rf
  have hl : lv_has ls 3 [(0, .ref (gA G (shc j0))), (1, .int p1), (2, .int p2)] := hl
  unfold fX8_hasPlaces at h
  refine lv_iload_n hx hb dX8_hasPlaces_0 rfl (lv_at hl 1 rfl) ?_
  refine lv_if_lt (tgt := 26) hx hb dX8_hasPlaces_1 (by decide) (fun c1 => ?_) (fun c1 => ?_)
  · replace h := it_t c1 h
    refine lv_iconst (v := 0) hx hb dX8_hasPlaces_26 (by decide) ?_
    exact re_z' hC hr hP hS PZ0 h rfl dX8_hasPlaces_27
  · replace h := it_f c1 h
    refine lv_iload_n hx hb dX8_hasPlaces_4 rfl (lv_at hl 2 rfl) ?_
    refine lv_if_lt (tgt := 26) hx hb dX8_hasPlaces_5 (by decide) (fun c2 => ?_) (fun c2 => ?_)
    · replace h := it_t c2 h
      refine lv_iconst (v := 0) hx hb dX8_hasPlaces_26 (by decide) ?_
      exact re_z' hC hr hP hS PZ0 h rfl dX8_hasPlaces_27
    · replace h := it_f c2 h
      refine lv_iload_n hx hb dX8_hasPlaces_8 rfl (lv_at hl 1 rfl) ?_
      refine lv_i2l hx hb dX8_hasPlaces_9 rfl ?_
      refine lv_iload_n hx hb dX8_hasPlaces_10 rfl (lv_at hl 2 rfl) ?_
      refine lv_i2l hx hb dX8_hasPlaces_11 rfl ?_
      refine lv_ladd hx hb dX8_hasPlaces_12 ?_
      refine lv_aload_n hx hb dX8_hasPlaces_13 rfl (lv_at hl 0 rfl) ?_
      refine r_get (v := .int (C.1 (shc j0) 2)) hC inX8 hP (e_sc G _ hj0) rfl 2 (by decide) rfl k220 rfl dX8_hasPlaces_14 ?_
      refine lv_i2l hx hb dX8_hasPlaces_17 rfl ?_
      refine W.lcmp hx hb dX8_hasPlaces_18 ?_
      refine lv_if_gt (tgt := 26) hx hb dX8_hasPlaces_19 (by decide) (fun c3 => ?_) (fun c3 => ?_)
      · replace h := it_t c3 h
        refine lv_iconst (v := 0) hx hb dX8_hasPlaces_26 (by decide) ?_
        exact re_z' hC hr hP hS PZ0 h rfl dX8_hasPlaces_27
      · replace h := it_f c3 h
        refine lv_iconst (v := 1) hx hb dX8_hasPlaces_22 (by decide) ?_
        refine lv_goto (tgt := 27) hx hb dX8_hasPlaces_23 (by decide) ?_
        exact re_z' hC hr hP hS PZ1 h rfl dX8_hasPlaces_27
set_option maxHeartbeats 4000000 in
set_option maxRecDepth 100000 in
theorem mX8_elementAt (l : Launch) (G : gp) (Rm : Mm) {j0 : Nat} (hj0 : j0 < 6) {p1 : Int32} {C : Mm} {r0 : Int64} (h : fX8_elementAt j0 p1 C = some r0) : Met l yX8_elementAt (wsy yX8_elementAt cX8_elementAt 2 (some .long)) (rmv 1 22) (va_Pc [.ref (gA G (shc j0)), .int p1] (Rl G (C, Rm))) (Ql G r0 (C, Rm)) 0 0 (lwA G) := by
  refine met_i [.ref (gA G (shc j0)), .int p1] wX8_elementAt.2.2.2.2.2 (Nat.le_of_ble_eq_true rfl) ?_
  intro p e s m args below meth c ls hC hr hP hl
  have hC : Cx G p s m args meth c cX8_elementAt RX8 2 := hC
  have hx := hC.1
  have hb := hC.2.1
  have hown := hC.2.2.2.1
  have hts := hC.2.2.2.2.1
  have hS : va_S (lwA G) s.heap s.heap [] := va_S.rf
  have hl : lv_has ls 2 [(0, .ref (gA G (shc j0))), (1, .int p1)] := hl
  unfold fX8_elementAt at h
  refine lv_aload_n hx hb dX8_elementAt_0 rfl (lv_at hl 0 rfl) ?_
  refine lv_iload_n hx hb dX8_elementAt_1 rfl (lv_at hl 1 rfl) ?_
  refine lv_iconst (v := 1) hx hb dX8_elementAt_2 (by decide) ?_
  refine rc_i hS (run_V hC wX8_hasPlaces k684 (e_sc G _ hj0) rfl hP hS (As := [.int p1, .int 1]) (rest := []) (mX8_hasPlaces l G Rm hj0 rfl) rfl hl.1 (Nat.le_of_ble_eq_true rfl) ⟨by decide, by decide⟩ ⟨Nat.le_refl _, Nat.le_refl _⟩ rfl dX8_elementAt_3) (fun H locs pb2 hP hS => ?_)
  refine lv_if_eq (tgt := 18) hx hb dX8_elementAt_6 (by decide) (fun c3 => ?_) (fun c3 => ?_)
  · replace h := it_t c3 h
    refine lv_lconst (v := 0) hx hb dX8_elementAt_18 (by decide) ?_
    exact re_l' hC hr hP hS (Option.some.inj h) rfl dX8_elementAt_19
  · replace h := it_f c3 h
    refine lv_aload_n hx hb dX8_elementAt_9 rfl (lv_at hl 0 rfl) ?_
    refine r_get (v := .ref (gA G (she j0))) hC inX8 hP (e_sc G _ hj0) rfl 3 (by decide) rfl k221 rfl dX8_elementAt_10 ?_
    refine lv_iload_n hx hb dX8_elementAt_13 rfl (lv_at hl 1 rfl) ?_
    by_cases c4 : p1 < (0 : Int32) ∨ 60 ≤ Int32.toNatClampNeg p1
    · cases it_t c4 h
    replace h := it_f c4 h
    refine r_lald hC hP (f := C.2 (she j0)) (e_se G _ hj0) c4 dX8_elementAt_14 ?_
    refine lv_goto (tgt := 19) hx hb dX8_elementAt_15 (by decide) ?_
    exact re_l' hC hr hP hS (Option.some.inj h) rfl dX8_elementAt_19
set_option maxHeartbeats 4000000 in
set_option maxRecDepth 100000 in
theorem mX8_setElement (l : Launch) (G : gp) (Rm : Mm) {j0 : Nat} (hj0 : j0 < 6) {p1 : Int32} {p2 : Int64} {C : Mm} {C0 : Mm} (h : fX8_setElement j0 p1 p2 C = some C0) : Met l yX8_setElement (wsy yX8_setElement cX8_setElement 4 none) (rmv 1 22) (va_Pc [.ref (gA G (shc j0)), .int p1, .long p2] (Rl G (C, Rm))) (Qv G (C0, Rm)) 0 0 (lwA G) := by
  refine met_i [.ref (gA G (shc j0)), .int p1, .long p2] wX8_setElement.2.2.2.2.2 (Nat.le_of_ble_eq_true rfl) ?_
  intro p e s m args below meth c ls hC hr hP hl
  have hC : Cx G p s m args meth c cX8_setElement RX8 4 := hC
  have hx := hC.1
  have hb := hC.2.1
  have hown := hC.2.2.2.1
  have hts := hC.2.2.2.2.1
  have hS : va_S (lwA G) s.heap s.heap [] := va_S.rf
  have hl : lv_has ls 4 [(0, .ref (gA G (shc j0))), (1, .int p1), (2, .long p2)] := hl
  have bl102 : ∀ (s0 : Int64) (s1 : Int32) (C : Mm) (H : Heap) (locs : List Loc) (ls : Array Slot), fX8_setElement_b102 j0 s0 s1 C = some C0 → lv_has ls 4 [] → va_P (gD G) vwCl (wld G (C, Rm)) H → va_S (lwA G) s.heap H locs → W p l e (rmv 1 22) s m args below meth c H locs 0 0 (MQ below (Qv G (C0, Rm)) args s 0 0 (lwA G)) (F0 m 102 ls [.long s0, .int s1, .ref (gA G (she j0))]) := by
    intro s0 s1 C H locs ls h hl hP hS
    unfold fX8_setElement_b102 at h
    by_cases c1 : s1 < (0 : Int32) ∨ 60 ≤ Int32.toNatClampNeg s1
    · cases it_t c1 h
    replace h := it_f c1 h
    obtain ⟨C2, eC2⟩ : ∃ Z : Mm, Z = wrL C (she j0) (Int32.toNatClampNeg s1) s0 := ⟨_, rfl⟩
    replace h := lt_y eC2 h
    refine r_last (X' := (C2, Rm)) hC hP hS (e_se G _ hj0) c1 (a_se G _ _ hj0 _ _ eC2) dX8_setElement_102 (fun H locs hP hS => ?_)
    refine lv_goto (tgt := 113) hx hb dX8_setElement_103 (by decide) ?_
    exact re_v' hC hr hP hS (congrArg (fun Z : Mm => (Z, Rm)) (Option.some.inj h)) dX8_setElement_113
  unfold fX8_setElement at h
  refine lv_aload_n hx hb dX8_setElement_0 rfl (lv_at hl 0 rfl) ?_
  refine lv_iload_n hx hb dX8_setElement_1 rfl (lv_at hl 1 rfl) ?_
  refine lv_iconst (v := 1) hx hb dX8_setElement_2 (by decide) ?_
  refine rc_i hS (run_V hC wX8_hasPlaces k684 (e_sc G _ hj0) rfl hP hS (As := [.int p1, .int 1]) (rest := []) (mX8_hasPlaces l G Rm hj0 rfl) rfl hl.1 (Nat.le_of_ble_eq_true rfl) ⟨by decide, by decide⟩ ⟨Nat.le_refl _, Nat.le_refl _⟩ rfl dX8_setElement_3) (fun H locs pb4 hP hS => ?_)
  refine lv_if_ne (tgt := 10) hx hb dX8_setElement_6 (by decide) (fun c5 => ?_) (fun c5 => ?_)
  · replace h := it_f c5 h
    refine lv_aload_n hx hb dX8_setElement_10 rfl (lv_at hl 0 rfl) ?_
    refine r_get (v := .int (C.1 (shc j0) 1)) hC inX8 hP (e_sc G _ hj0) rfl 1 (by decide) rfl k219 rfl dX8_setElement_11 ?_
    by_cases c6 : (C.1 (shc j0) 1) = 0
    · replace h := it_t c6 h
      refine lv_tableIn (off := 34) (tgt := 48) hx hb dX8_setElement_14 (by rw [c6]; decide) (by rw [c6]; decide) (by rw [c6]; rfl) (by decide) ?_
      refine lv_aload_n hx hb dX8_setElement_48 rfl (lv_at hl 0 rfl) ?_
      refine r_get (v := .ref (gA G (she j0))) hC inX8 hP (e_sc G _ hj0) rfl 3 (by decide) rfl k221 rfl dX8_setElement_49 ?_
      refine lv_iload_n hx hb dX8_setElement_52 rfl (lv_at hl 1 rfl) ?_
      refine lv_lload_n hx hb dX8_setElement_53 rfl (lv_at hl 2 rfl) ?_
      refine lv_l2i hx hb dX8_setElement_54 rfl ?_
      refine lv_i2b hx hb dX8_setElement_55 rfl ?_
      refine lv_i2l hx hb dX8_setElement_56 rfl ?_
      by_cases c7 : p1 < (0 : Int32) ∨ 60 ≤ Int32.toNatClampNeg p1
      · cases it_t c7 h
      replace h := it_f c7 h
      obtain ⟨C8, eC8⟩ : ∃ Z : Mm, Z = wrL C (she j0) (Int32.toNatClampNeg p1) (Int32.toInt64 (Int8.toInt32 (Int32.toInt8 (Int64.toInt32 p2)))) := ⟨_, rfl⟩
      replace h := lt_y eC8 h
      refine r_last (X' := (C8, Rm)) hC hP hS (e_se G _ hj0) c7 (a_se G _ _ hj0 _ _ eC8) dX8_setElement_57 (fun H locs hP hS => ?_)
      refine lv_goto (tgt := 113) hx hb dX8_setElement_58 (by decide) ?_
      exact re_v' hC hr hP hS (congrArg (fun Z : Mm => (Z, Rm)) (Option.some.inj h)) dX8_setElement_113
    replace h := it_f c6 h
    by_cases c9 : (C.1 (shc j0) 1) = 1
    · replace h := it_t c9 h
      refine lv_tableIn (off := 47) (tgt := 61) hx hb dX8_setElement_14 (by rw [c9]; decide) (by rw [c9]; decide) (by rw [c9]; rfl) (by decide) ?_
      refine lv_aload_n hx hb dX8_setElement_61 rfl (lv_at hl 0 rfl) ?_
      refine r_get (v := .ref (gA G (she j0))) hC inX8 hP (e_sc G _ hj0) rfl 3 (by decide) rfl k221 rfl dX8_setElement_62 ?_
      refine lv_iload_n hx hb dX8_setElement_65 rfl (lv_at hl 1 rfl) ?_
      refine lv_lload_n hx hb dX8_setElement_66 rfl (lv_at hl 2 rfl) ?_
      refine lv_l2i hx hb dX8_setElement_67 rfl ?_
      refine lv_i2s hx hb dX8_setElement_68 rfl ?_
      refine lv_i2l hx hb dX8_setElement_69 rfl ?_
      by_cases c10 : p1 < (0 : Int32) ∨ 60 ≤ Int32.toNatClampNeg p1
      · cases it_t c10 h
      replace h := it_f c10 h
      obtain ⟨C11, eC11⟩ : ∃ Z : Mm, Z = wrL C (she j0) (Int32.toNatClampNeg p1) (Int32.toInt64 (Int16.toInt32 (Int32.toInt16 (Int64.toInt32 p2)))) := ⟨_, rfl⟩
      replace h := lt_y eC11 h
      refine r_last (X' := (C11, Rm)) hC hP hS (e_se G _ hj0) c10 (a_se G _ _ hj0 _ _ eC11) dX8_setElement_70 (fun H locs hP hS => ?_)
      refine lv_goto (tgt := 113) hx hb dX8_setElement_71 (by decide) ?_
      exact re_v' hC hr hP hS (congrArg (fun Z : Mm => (Z, Rm)) (Option.some.inj h)) dX8_setElement_113
    replace h := it_f c9 h
    by_cases c12 : (C.1 (shc j0) 1) = 2
    · replace h := it_t c12 h
      refine lv_tableIn (off := 60) (tgt := 74) hx hb dX8_setElement_14 (by rw [c12]; decide) (by rw [c12]; decide) (by rw [c12]; rfl) (by decide) ?_
      refine lv_aload_n hx hb dX8_setElement_74 rfl (lv_at hl 0 rfl) ?_
      refine r_get (v := .ref (gA G (she j0))) hC inX8 hP (e_sc G _ hj0) rfl 3 (by decide) rfl k221 rfl dX8_setElement_75 ?_
      refine lv_iload_n hx hb dX8_setElement_78 rfl (lv_at hl 1 rfl) ?_
      refine lv_lload_n hx hb dX8_setElement_79 rfl (lv_at hl 2 rfl) ?_
      refine lv_l2i hx hb dX8_setElement_80 rfl ?_
      refine lv_i2l hx hb dX8_setElement_81 rfl ?_
      by_cases c13 : p1 < (0 : Int32) ∨ 60 ≤ Int32.toNatClampNeg p1
      · cases it_t c13 h
      replace h := it_f c13 h
      obtain ⟨C14, eC14⟩ : ∃ Z : Mm, Z = wrL C (she j0) (Int32.toNatClampNeg p1) (Int32.toInt64 (Int64.toInt32 p2)) := ⟨_, rfl⟩
      replace h := lt_y eC14 h
      refine r_last (X' := (C14, Rm)) hC hP hS (e_se G _ hj0) c13 (a_se G _ _ hj0 _ _ eC14) dX8_setElement_82 (fun H locs hP hS => ?_)
      refine lv_goto (tgt := 113) hx hb dX8_setElement_83 (by decide) ?_
      exact re_v' hC hr hP hS (congrArg (fun Z : Mm => (Z, Rm)) (Option.some.inj h)) dX8_setElement_113
    replace h := it_f c12 h
    by_cases c15 : (C.1 (shc j0) 1) = 4
    · replace h := it_t c15 h
      refine lv_tableIn (off := 72) (tgt := 86) hx hb dX8_setElement_14 (by rw [c15]; decide) (by rw [c15]; decide) (by rw [c15]; rfl) (by decide) ?_
      refine lv_aload_n hx hb dX8_setElement_86 rfl (lv_at hl 0 rfl) ?_
      refine r_get (v := .ref (gA G (she j0))) hC inX8 hP (e_sc G _ hj0) rfl 3 (by decide) rfl k221 rfl dX8_setElement_87 ?_
      refine lv_iload_n hx hb dX8_setElement_90 rfl (lv_at hl 1 rfl) ?_
      refine lv_lload_n hx hb dX8_setElement_91 rfl (lv_at hl 2 rfl) ?_
      refine lv_lconst (v := 0) hx hb dX8_setElement_92 (by decide) ?_
      refine W.lcmp hx hb dX8_setElement_93 ?_
      refine lv_if_eq (tgt := 101) hx hb dX8_setElement_94 (by decide) (fun c16 => ?_) (fun c16 => ?_)
      · replace h := it_t c16 h
        refine lv_lconst (v := 0) hx hb dX8_setElement_101 (by decide) ?_
        exact bl102 0 p1 C _ _ _ h (lv_sub hl [] rfl) hP hS
      · replace h := it_f c16 h
        refine lv_lconst (v := 1) hx hb dX8_setElement_97 (by decide) ?_
        refine lv_goto (tgt := 102) hx hb dX8_setElement_98 (by decide) ?_
        exact bl102 1 p1 C _ _ _ h (lv_sub hl [] rfl) hP hS
    replace h := it_f c15 h
    refine lv_tsD (tgt := 106) hx hb dX8_setElement_14 rfl (ex_c (ti_ne (z := 0) rfl c6) (ex_c (ti_ne (z := 1) rfl c9) (ex_c (ti_ne (z := 2) rfl c12) (ex_c (ti_ne (z := 4) rfl c15) ex_0)))) (by decide) (by decide) ?_
    refine lv_aload_n hx hb dX8_setElement_106 rfl (lv_at hl 0 rfl) ?_
    refine r_get (v := .ref (gA G (she j0))) hC inX8 hP (e_sc G _ hj0) rfl 3 (by decide) rfl k221 rfl dX8_setElement_107 ?_
    refine lv_iload_n hx hb dX8_setElement_110 rfl (lv_at hl 1 rfl) ?_
    refine lv_lload_n hx hb dX8_setElement_111 rfl (lv_at hl 2 rfl) ?_
    by_cases c17 : p1 < (0 : Int32) ∨ 60 ≤ Int32.toNatClampNeg p1
    · cases it_t c17 h
    replace h := it_f c17 h
    obtain ⟨C18, eC18⟩ : ∃ Z : Mm, Z = wrL C (she j0) (Int32.toNatClampNeg p1) p2 := ⟨_, rfl⟩
    replace h := lt_y eC18 h
    refine r_last (X' := (C18, Rm)) hC hP hS (e_se G _ hj0) c17 (a_se G _ _ hj0 _ _ eC18) dX8_setElement_112 (fun H locs hP hS => ?_)
    exact re_v' hC hr hP hS (congrArg (fun Z : Mm => (Z, Rm)) (Option.some.inj h)) dX8_setElement_113
  · replace h := it_t c5 h
    exact re_v' hC hr hP hS (congrArg (fun Z : Mm => (Z, Rm)) (Option.some.inj h)) dX8_setElement_9
set_option maxHeartbeats 4000000 in
set_option maxRecDepth 100000 in
theorem mX8_copyFrom (l : Launch) (G : gp) (Rm : Mm) {j0 : Nat} {j1 : Nat} (hj0 : j0 < 6) (hj1 : j1 < 6) {p2 : Int32} {p3 : Int32} {p4 : Int32} {C : Mm} {C0 : Mm} (h : fX8_copyFrom j0 j1 p2 p3 p4 C = some C0) : Met l yX8_copyFrom (wsy yX8_copyFrom cX8_copyFrom 5 none) (rmv 1 40) (va_Pc [.ref (gA G (shc j0)), .ref (gA G (shc j1)), .int p2, .int p3, .int p4] (Rl G (C, Rm))) (Qv G (C0, Rm)) 0 0 (lwA G) := by
  refine met_i [.ref (gA G (shc j0)), .ref (gA G (shc j1)), .int p2, .int p3, .int p4] wX8_copyFrom.2.2.2.2.2 (Nat.le_of_ble_eq_true rfl) ?_
  intro p e s m args below meth c ls hC hr hP hl
  have hC : Cx G p s m args meth c cX8_copyFrom RX8 5 := hC
  have hx := hC.1
  have hb := hC.2.1
  have hown := hC.2.2.2.1
  have hts := hC.2.2.2.2.1
  have hS : va_S (lwA G) s.heap s.heap [] := va_S.rf
  have hl : lv_has ls 5 [(0, .ref (gA G (shc j0))), (1, .ref (gA G (shc j1))), (2, .int p2), (3, .int p3), (4, .int p4)] := hl
  unfold fX8_copyFrom at h
  refine lv_aload_n hx hb dX8_copyFrom_0 rfl (lv_at hl 1 rfl) ?_
  refine lv_iload_n hx hb dX8_copyFrom_1 rfl (lv_at hl 2 rfl) ?_
  refine lv_iload hx hb dX8_copyFrom_2 (lv_at hl 4 rfl) ?_
  refine rc_i hS (run_V hC wX8_hasPlaces k684 (e_sc G _ hj1) rfl hP hS (As := [.int p2, .int p4]) (rest := []) (mX8_hasPlaces l G Rm hj1 rfl) rfl hl.1 (Nat.le_of_ble_eq_true rfl) ⟨by decide, by decide⟩ ⟨Nat.le_refl _, Nat.le_refl _⟩ rfl dX8_copyFrom_4) (fun H locs pb2 hP hS => ?_)
  refine lv_if_eq (tgt := 35) hx hb dX8_copyFrom_7 (by decide) (fun c3 => ?_) (fun c3 => ?_)
  · replace h := it_t c3 h
    exact re_v' hC hr hP hS (congrArg (fun Z : Mm => (Z, Rm)) (Option.some.inj h)) dX8_copyFrom_35
  · replace h := it_f c3 h
    refine lv_aload_n hx hb dX8_copyFrom_10 rfl (lv_at hl 0 rfl) ?_
    refine lv_iload_n hx hb dX8_copyFrom_11 rfl (lv_at hl 3 rfl) ?_
    refine lv_iload hx hb dX8_copyFrom_12 (lv_at hl 4 rfl) ?_
    refine rc_i hS (run_V hC wX8_hasPlaces k684 (e_sc G _ hj0) rfl hP hS (As := [.int p3, .int p4]) (rest := []) (mX8_hasPlaces l G Rm hj0 rfl) rfl hl.1 (Nat.le_of_ble_eq_true rfl) ⟨by decide, by decide⟩ ⟨Nat.le_refl _, Nat.le_refl _⟩ rfl dX8_copyFrom_14) (fun H locs pb5 hP hS => ?_)
    refine lv_if_eq (tgt := 35) hx hb dX8_copyFrom_17 (by decide) (fun c6 => ?_) (fun c6 => ?_)
    · replace h := it_t c6 h
      exact re_v' hC hr hP hS (congrArg (fun Z : Mm => (Z, Rm)) (Option.some.inj h)) dX8_copyFrom_35
    · replace h := it_f c6 h
      refine lv_aload_n hx hb dX8_copyFrom_20 rfl (lv_at hl 1 rfl) ?_
      refine r_get (v := .ref (gA G (she j1))) hC inX8 hP (e_sc G _ hj1) rfl 3 (by decide) rfl k221 rfl dX8_copyFrom_21 ?_
      refine lv_iload_n hx hb dX8_copyFrom_24 rfl (lv_at hl 2 rfl) ?_
      refine lv_aload_n hx hb dX8_copyFrom_25 rfl (lv_at hl 0 rfl) ?_
      refine r_get (v := .ref (gA G (she j0))) hC inX8 hP (e_sc G _ hj0) rfl 3 (by decide) rfl k221 rfl dX8_copyFrom_26 ?_
      refine lv_iload_n hx hb dX8_copyFrom_29 rfl (lv_at hl 3 rfl) ?_
      refine lv_iload hx hb dX8_copyFrom_30 (lv_at hl 4 rfl) ?_
      by_cases c7 : p2 < (0 : Int32) ∨ p3 < (0 : Int32) ∨ p4 < (0 : Int32) ∨ 60 < (Int32.toNatClampNeg p2) + (Int32.toNatClampNeg p4) ∨ 60 < (Int32.toNatClampNeg p3) + (Int32.toNatClampNeg p4)
      · cases it_t c7 h
      replace h := it_f c7 h
      obtain ⟨C8, eC8⟩ : ∃ Z : Mm, Z = cpL C (she j1) (Int32.toNatClampNeg p2) (she j0) (Int32.toNatClampNeg p3) (Int32.toNatClampNeg p4) := ⟨_, rfl⟩
      replace h := lt_y eC8 h
      refine r_cpL (X' := (C8, Rm)) hC (rest := []) k1023 k331 k330 k12 hl.1 hP hS (e_se G _ hj1) (e_se G _ hj0) c7 (ac_se G _ _ hj0 _ _ _ _ eC8) (by decide) (Nat.le_of_ble_eq_true rfl) dX8_copyFrom_32 (fun H locs hP hS => ?_)
      exact re_v' hC hr hP hS (congrArg (fun Z : Mm => (Z, Rm)) (Option.some.inj h)) dX8_copyFrom_35
set_option maxHeartbeats 4000000 in
set_option maxRecDepth 100000 in
theorem mX9_clear (l : Launch) (G : gp) (Rm : Mm) {C : Mm} {C0 : Mm} (h : fX9_clear C = C0) : Met l yX9_clear (wsy yX9_clear cX9_clear 1 none) (rmv 0 0) (va_Pc [.ref (gA G 1)] (Rl G (C, Rm))) (Qv G (C0, Rm)) 0 0 (lwA G) := by
  refine met_i [.ref (gA G 1)] wX9_clear.2.2.2.2.2 (Nat.le_of_ble_eq_true rfl) ?_
  intro p e s m args below meth c ls hC hr hP hl
  have hC : Cx G p s m args meth c cX9_clear RX9 1 := hC
  have hx := hC.1
  have hb := hC.2.1
  have hown := hC.2.2.2.1
  have hts := hC.2.2.2.2.1
  have hS : va_S (lwA G) s.heap s.heap [] := va_S.rf
  have hl : lv_has ls 1 [(0, .ref (gA G 1))] := hl
  unfold fX9_clear at h
  refine lv_aload_n hx hb dX9_clear_0 rfl (lv_at hl 0 rfl) ?_
  refine lv_iconst (v := 0) hx hb dX9_clear_1 (by decide) ?_
  obtain ⟨C1, eC1⟩ : ∃ Z : Mm, Z = wrI C 1 1 0 := ⟨_, rfl⟩
  replace h := lt_y eC1 h
  refine r_put (X' := (C1, Rm)) hC inX9 tyX9 tyX9_ok nmX9 hP hS (e_1 G _) rfl 1 (by decide) rfl k30 rfl (v := .int 0) rfl rfl (Nat.le_of_ble_eq_true rfl) (p_1_1 G _ _ eC1) dX9_clear_2 (fun H locs hP hS => ?_)
  exact re_v' hC hr hP hS (congrArg (fun Z : Mm => (Z, Rm)) h) dX9_clear_5
set_option maxHeartbeats 4000000 in
set_option maxRecDepth 100000 in
theorem mX9_takes (l : Launch) (G : gp) (Rm : Mm) {n : Nat} {p1 : Int32} {p2 : Int32} {C : Mm} {r0 : Int32} {C0 : Mm} (h : fX9_takes n p1 p2 C = some (r0, C0)) : Met l yX9_takes (wsy yX9_takes cX9_takes 4 (some .boolean)) (rmv 0 0) (va_Pc [.ref (gA G 1), .int p1, .int p2] (Rl G (C, Rm))) (Qi G PZ r0 (C0, Rm)) 0 0 (lwA G) := by
  refine met_i [.ref (gA G 1), .int p1, .int p2] wX9_takes.2.2.2.2.2 (Nat.le_of_ble_eq_true rfl) ?_
  intro p e s m args below meth c ls hC hr hP hl
  have hC : Cx G p s m args meth c cX9_takes RX9 4 := hC
  have hx := hC.1
  have hb := hC.2.1
  have hown := hC.2.2.2.1
  have hts := hC.2.2.2.2.1
  have hS : va_S (lwA G) s.heap s.heap [] := va_S.rf
  have hl : lv_has ls 4 [(0, .ref (gA G 1)), (1, .int p1), (2, .int p2)] := hl
  have bl15 : ∀ (fu : Nat), ∀ (y1 : Int32) (y2 : Int32) (y3 : Int32) (C : Mm) (H : Heap) (locs : List Loc) (ls : Array Slot), fX9_takes_h15 n fu y1 y2 y3 C = some (r0, C0) → lv_has ls 4 [(0, .ref (gA G 1)), (1, .int y1), (2, .int y2), (3, .int y3)] → va_P (gD G) vwCl (wld G (C, Rm)) H → va_S (lwA G) s.heap H locs → W p l e (rmv 0 0) s m args below meth c H locs 0 0 (MQ below (Qi G PZ r0 (C0, Rm)) args s 0 0 (lwA G)) (F0 m 15 ls []) := by
    intro fu
    induction fu with
    | zero =>
      intro y1 y2 y3 C H locs ls h hl hP hS
      rw [fX9_takes_h15.eq_1] at h
      cases h
    | succ fu ih =>
      intro y1 y2 y3 C H locs ls h hl hP hS
      rw [fX9_takes_h15.eq_2] at h
      refine lv_iload_n hx hb dX9_takes_15 rfl (lv_at hl 3 rfl) ?_
      refine lv_iload_n hx hb dX9_takes_16 rfl (lv_at hl 1 rfl) ?_
      refine lv_icmp_ge (tgt := 55) hx hb dX9_takes_17 (by decide) (fun c1 => ?_) (fun c1 => ?_)
      · replace h := it_t c1 h
        refine lv_iconst (v := 1) hx hb dX9_takes_55 (by decide) ?_
        exact re_z' hC hr hP hS PZ1 (pr_1 h) (congrArg (fun Z : Mm => (Z, Rm)) (pr_2 h)) dX9_takes_56
      · replace h := it_f c1 h
        refine lv_aload_n hx hb dX9_takes_20 rfl (lv_at hl 0 rfl) ?_
        refine r_get (v := .ref (gA G 2)) hC inX9 hP (e_1 G _) rfl 0 (by decide) rfl k29 rfl dX9_takes_21 ?_
        refine lv_aload_n hx hb dX9_takes_24 rfl (lv_at hl 0 rfl) ?_
        refine r_get (v := .int (C.1 1 1)) hC inX9 hP (e_1 G _) rfl 1 (by decide) rfl k30 rfl dX9_takes_25 ?_
        refine lv_iload_n hx hb dX9_takes_28 rfl (lv_at hl 2 rfl) ?_
        refine lv_bipush (v := 8) hx hb dX9_takes_29 (by decide) ?_
        refine lv_iload_n hx hb dX9_takes_31 rfl (lv_at hl 3 rfl) ?_
        refine lv_imul hx hb dX9_takes_32 ?_
        refine lv_iushr (v := iush y2 (8 * y3)) hx hb dX9_takes_33 rfl ?_
        refine lv_sipush (v := 255) hx hb dX9_takes_34 (by decide) ?_
        refine lv_iand hx hb dX9_takes_37 ?_
        by_cases c2 : (C.1 1 1) < (0 : Int32) ∨ 120 ≤ Int32.toNatClampNeg (C.1 1 1)
        · cases it_t c2 h
        replace h := it_f c2 h
        obtain ⟨C3, eC3⟩ : ∃ Z : Mm, Z = wrI C 2 (Int32.toNatClampNeg (C.1 1 1)) ((iush y2 (8 * y3)) &&& 255) := ⟨_, rfl⟩
        replace h := lt_y eC3 h
        refine r_iast (X' := (C3, Rm)) hC hP hS (e_2 G _) c2 (a_2 G _ _ _ _ eC3) dX9_takes_38 (fun H locs hP hS => ?_)
        refine lv_aload_n hx hb dX9_takes_39 rfl (lv_at hl 0 rfl) ?_
        refine lv_dup hx hb dX9_takes_40 rfl ?_
        refine r_get (v := .int (C3.1 1 1)) hC inX9 hP (e_1 G _) rfl 1 (by decide) rfl k30 rfl dX9_takes_41 ?_
        refine lv_iconst (v := 1) hx hb dX9_takes_44 (by decide) ?_
        refine lv_iadd hx hb dX9_takes_45 ?_
        obtain ⟨C4, eC4⟩ : ∃ Z : Mm, Z = wrI C3 1 1 ((C3.1 1 1) + 1) := ⟨_, rfl⟩
        replace h := lt_y eC4 h
        refine r_put (X' := (C4, Rm)) hC inX9 tyX9 tyX9_ok nmX9 hP hS (e_1 G _) rfl 1 (by decide) rfl k30 rfl (v := .int ((C3.1 1 1) + 1)) rfl rfl (Nat.le_of_ble_eq_true rfl) (p_1_1 G _ _ eC4) dX9_takes_46 (fun H locs hP hS => ?_)
        obtain ⟨x5, ex5⟩ : ∃ y : Int32, y = y3 + 1 := ⟨_, rfl⟩
        replace h := lt_y ex5 h
        refine lv_iinc (v := x5) (lv' := [(3, .int x5), (0, .ref (gA G 1)), (1, .int y1), (2, .int y2)]) hx hb dX9_takes_49 hl (k := 3) rfl (by rw [ex5]; rfl) (by decide) rfl (fun ls hl => ?_)
        refine lv_goto (tgt := 15) hx hb dX9_takes_52 (by decide) ?_
        exact ih y1 y2 x5 C4 _ _ _ h (lv_sub hl [1, 2, 3, 0] rfl) hP hS
  unfold fX9_takes at h
  refine lv_aload_n hx hb dX9_takes_0 rfl (lv_at hl 0 rfl) ?_
  refine r_get (v := .int (C.1 1 1)) hC inX9 hP (e_1 G _) rfl 1 (by decide) rfl k30 rfl dX9_takes_1 ?_
  refine lv_iload_n hx hb dX9_takes_4 rfl (lv_at hl 1 rfl) ?_
  refine lv_iadd hx hb dX9_takes_5 ?_
  refine lv_bipush (v := 120) hx hb dX9_takes_6 (by decide) ?_
  refine lv_icmp_le (tgt := 13) hx hb dX9_takes_8 (by decide) (fun c6 => ?_) (fun c6 => ?_)
  · replace h := it_t c6 h
    refine lv_iconst (v := 0) hx hb dX9_takes_13 (by decide) ?_
    refine lv_istore_n (lv' := [(3, .int 0), (0, .ref (gA G 1)), (1, .int p1), (2, .int p2)]) hx hb dX9_takes_14 rfl hl (by decide) rfl (fun ls hl => ?_)
    exact bl15 n p1 p2 0 C _ _ _ h (lv_sub hl [1, 2, 3, 0] rfl) hP hS
  · replace h := it_f c6 h
    refine lv_iconst (v := 0) hx hb dX9_takes_11 (by decide) ?_
    exact re_z' hC hr hP hS PZ0 (pr_1 h) (congrArg (fun Z : Mm => (Z, Rm)) (pr_2 h)) dX9_takes_12
