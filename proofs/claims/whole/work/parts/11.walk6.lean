set_option maxHeartbeats 4000000 in
set_option maxRecDepth 100000 in
theorem mX11_table (l : Launch) (G : gp) (Cm : Mm) {n : Nat} {p1 : Int32} {p2 : Int32} {p3 : Int32} {C : Mm} {r0 : Int32} {C0 : Mm} (h : fX11_table n p1 p2 p3 C = some (r0, C0)) : Met l yX11_table (wsy yX11_table cX11_table 6 (some .int)) (rmv 82 1875) (va_Pc [.ref (gA G 72), .int p1, .int p2, .int p3] (Rl G (Cm, C))) (Qi G PT r0 (Cm, C0)) 0 0 (lwA G) := by
  refine met_i [.ref (gA G 72), .int p1, .int p2, .int p3] wX11_table.2.2.2.2.2 (Nat.le_of_ble_eq_true rfl) ?_
  intro p e s m args below meth c ls hC hr hP hl
  have hC : Cx G p s m args meth c cX11_table RX11 6 := hC
  have hx := hC.1
  have hb := hC.2.1
  have hown := hC.2.2.2.1
  have hts := hC.2.2.2.2.1
  have hS : va_S (lwA G) s.heap s.heap [] := va_S.rf
  have hl : lv_has ls 6 [(0, .ref (gA G 72)), (1, .int p1), (2, .int p2), (3, .int p3)] := hl
  have bl21 : ∀ (fu : Nat), ∀ (y1 : Int32) (y2 : Int32) (y3 : Int32) (y4 : Int32) (C : Mm) (H : Heap) (locs : List Loc) (ls : Array Slot), fX11_table_h21 n fu y1 y2 y3 y4 C = some (r0, C0) → lv_has ls 6 [(0, .ref (gA G 72)), (1, .int y1), (2, .int y2), (3, .int y3), (4, .int y4)] → va_P (gD G) vwCl (wld G (Cm, C)) H → va_S (lwA G) s.heap H locs → W p l e (rmv 82 1875) s m args below meth c H locs 0 0 (MQ below (Qi G PT r0 (Cm, C0)) args s 0 0 (lwA G)) (F0 m 21 ls []) := by
    intro fu
    induction fu with
    | zero =>
      intro y1 y2 y3 y4 C H locs ls h hl hP hS
      rw [fX11_table_h21.eq_1] at h
      cases h
    | succ fu ih =>
      intro y1 y2 y3 y4 C H locs ls h hl hP hS
      rw [fX11_table_h21.eq_2] at h
      refine lv_iload hx hb dX11_table_21 (lv_at hl 4 rfl) ?_
      refine lv_bipush (v := 99) hx hb dX11_table_23 (by decide) ?_
      refine lv_icmp_gt (tgt := 55) hx hb dX11_table_25 (by decide) (fun c1 => ?_) (fun c1 => ?_)
      · replace h := it_t c1 h
        refine lv_bipush (v := (-2)) hx hb dX11_table_55 (by decide) ?_
        exact re_i' hC hr hP hS (pr_1 h) (congrArg (fun Z : Mm => (Cm, Z)) (pr_2 h)) dX11_table_57
      · replace h := it_f c1 h
        refine lv_aload_n hx hb dX11_table_28 rfl (lv_at hl 0 rfl) ?_
        refine lv_iload_n hx hb dX11_table_29 rfl (lv_at hl 1 rfl) ?_
        refine lv_iload_n hx hb dX11_table_30 rfl (lv_at hl 2 rfl) ?_
        refine lv_iload hx hb dX11_table_31 (lv_at hl 4 rfl) ?_
        obtain ⟨r3, C4, hq2, h⟩ := bp_x h
        refine rc_i hS (run_V hC wX11_chosenBy k1418 (e_72 G _) rfl hP hS (As := [.int y1, .int y2, .int y4]) (rest := []) (mX11_chosenBy l G Cm hq2) rfl hl.1 (Nat.le_of_ble_eq_true rfl) ⟨by decide, by decide⟩ ⟨Nat.le_refl _, Nat.le_refl _⟩ rfl dX11_table_33) (fun H locs pb5 hP hS => ?_)
        refine lv_istore (lv' := [(5, .int r3), (0, .ref (gA G 72)), (1, .int y1), (2, .int y2), (3, .int y3), (4, .int y4)]) hx hb dX11_table_36 hl (by decide) rfl (fun ls hl => ?_)
        refine lv_aload_n hx hb dX11_table_38 rfl (lv_at hl 1 rfl) ?_
        obtain ⟨r7, hq6, h⟩ := bn_x h
        refine rc_i hS (run_V hC wX11_seconds k1400 (e_72 G _) rfl hP hS (As := []) (rest := []) (mX11_seconds l G Cm hq6) rfl hl.1 (Nat.le_of_ble_eq_true rfl) ⟨by decide, by decide⟩ ⟨Nat.le_refl _, Nat.le_refl _⟩ rfl dX11_table_39) (fun H locs pb8 hP hS => ?_)
        refine lv_iload_n hx hb dX11_table_42 rfl (lv_at hl 4 rfl) ?_
        refine lv_icmp_gt (tgt := 49) hx hb dX11_table_43 (by decide) (fun c9 => ?_) (fun c9 => ?_)
        · replace h := it_t c9 h
          obtain ⟨x10, ex10⟩ : ∃ y : Int32, y = y4 + 1 := ⟨_, rfl⟩
          replace h := lt_y ex10 h
          refine lv_iinc (v := x10) (lv' := [(4, .int x10), (5, .int r3), (0, .ref (gA G 72)), (1, .int y1), (2, .int y2), (3, .int y3)]) hx hb dX11_table_49 hl (k := 5) rfl (by rw [ex10]; rfl) (by decide) rfl (fun ls hl => ?_)
          refine lv_goto (tgt := 21) hx hb dX11_table_52 (by decide) ?_
          exact ih y1 y2 y3 x10 C4 _ _ _ h (lv_sub hl [2, 3, 4, 5, 0] rfl) hP hS
        · replace h := it_f c9 h
          refine lv_iload hx hb dX11_table_46 (lv_at hl 5 rfl) ?_
          exact re_i' hC hr hP hS (pr_1 h) (congrArg (fun Z : Mm => (Cm, Z)) (pr_2 h)) dX11_table_48
  unfold fX11_table at h
  refine lv_aload_n hx hb dX11_table_0 rfl (lv_at hl 0 rfl) ?_
  refine lv_iload_n hx hb dX11_table_1 rfl (lv_at hl 1 rfl) ?_
  refine rc_i hS (run_V hC wX11_isHead k1297 (e_72 G _) rfl hP hS (As := [.int p1]) (rest := []) (mX11_isHead l G Cm rfl) rfl hl.1 (Nat.le_of_ble_eq_true rfl) ⟨by decide, by decide⟩ ⟨Nat.le_refl _, Nat.le_refl _⟩ rfl dX11_table_2) (fun H locs pb12 hP hS => ?_)
  refine lv_if_eq (tgt := 15) hx hb dX11_table_5 (by decide) (fun c13 => ?_) (fun c13 => ?_)
  · replace h := it_t c13 h
    refine lv_iconst (v := (-1)) hx hb dX11_table_15 (by decide) ?_
    exact re_i' hC hr hP hS (pr_1 h) (congrArg (fun Z : Mm => (Cm, Z)) (pr_2 h)) dX11_table_16
  · replace h := it_f c13 h
    refine lv_iload_n hx hb dX11_table_8 rfl (lv_at hl 2 rfl) ?_
    refine rc_i hS (run_S hC wX11_isAsk k1317 hP hS (As := [.int p2]) (rest := []) (mX11_isAsk l G Cm rfl) rfl hl.1 (Nat.le_of_ble_eq_true rfl) ⟨by decide, by decide⟩ ⟨Nat.le_refl _, Nat.le_refl _⟩ rfl dX11_table_9) (fun H locs pb15 hP hS => ?_)
    refine lv_if_ne (tgt := 17) hx hb dX11_table_12 (by decide) (fun c16 => ?_) (fun c16 => ?_)
    · replace h := it_f c16 h
      refine lv_bipush (v := 9) hx hb dX11_table_17 (by decide) ?_
      refine lv_istore (lv' := [(4, .int 9), (0, .ref (gA G 72)), (1, .int p1), (2, .int p2), (3, .int p3)]) hx hb dX11_table_19 hl (by decide) rfl (fun ls hl => ?_)
      exact bl21 n p1 p2 p3 9 C _ _ _ h (lv_sub hl [1, 2, 3, 4, 0] rfl) hP hS
    · replace h := it_t c16 h
      refine lv_iconst (v := (-1)) hx hb dX11_table_15 (by decide) ?_
      exact re_i' hC hr hP hS (pr_1 h) (congrArg (fun Z : Mm => (Cm, Z)) (pr_2 h)) dX11_table_16
set_option maxHeartbeats 4000000 in
set_option maxRecDepth 100000 in
theorem mX11_see (l : Launch) (G : gp) (Cm : Mm) {p1 : Int32} {p2 : Int32} {p3 : Int32} {C : Mm} {r0 : Int32} {C0 : Mm} (h : fX11_see p1 p2 p3 C = some (r0, C0)) : Met l yX11_see (wsy yX11_see cX11_see 4 (some .int)) (rmv 2 45) (va_Pc [.ref (gA G 72), .int p1, .int p2, .int p3] (Rl G (Cm, C))) (Qi G PT r0 (Cm, C0)) 0 0 (lwA G) := by
  refine met_i [.ref (gA G 72), .int p1, .int p2, .int p3] wX11_see.2.2.2.2.2 (Nat.le_of_ble_eq_true rfl) ?_
  intro p e s m args below meth c ls hC hr hP hl
  have hC : Cx G p s m args meth c cX11_see RX11 4 := hC
  have hx := hC.1
  have hb := hC.2.1
  have hown := hC.2.2.2.1
  have hts := hC.2.2.2.2.1
  have hS : va_S (lwA G) s.heap s.heap [] := va_S.rf
  have hl : lv_has ls 4 [(0, .ref (gA G 72)), (1, .int p1), (2, .int p2), (3, .int p3)] := hl
  unfold fX11_see at h
  refine lv_iload_n hx hb dX11_see_0 rfl (lv_at hl 1 rfl) ?_
  refine rc_i hS (run_S hC wX11_isAsk k1317 hP hS (As := [.int p1]) (rest := []) (mX11_isAsk l G Cm rfl) rfl hl.1 (Nat.le_of_ble_eq_true rfl) ⟨by decide, by decide⟩ ⟨Nat.le_refl _, Nat.le_refl _⟩ rfl dX11_see_1) (fun H locs pb2 hP hS => ?_)
  refine lv_if_eq (tgt := 33) hx hb dX11_see_4 (by decide) (fun c3 => ?_) (fun c3 => ?_)
  · replace h := it_t c3 h
    refine lv_iconst (v := (-1)) hx hb dX11_see_33 (by decide) ?_
    exact re_i' hC hr hP hS (pr_1 h) (congrArg (fun Z : Mm => (Cm, Z)) (pr_2 h)) dX11_see_34
  · replace h := it_f c3 h
    refine lv_iload_n hx hb dX11_see_7 rfl (lv_at hl 2 rfl) ?_
    refine lv_i2l hx hb dX11_see_8 rfl ?_
    refine lv_lconst (v := 0) hx hb dX11_see_9 (by decide) ?_
    refine lv_ldc2 hx hb (v := 9999) hown (hts _ k1320) dX11_see_10 ?_
    refine rc_i hS (run_S hC wX11_within k1229 hP hS (As := [.long (Int32.toInt64 p2), .long 0, .long 9999]) (rest := []) (mX11_within l G Cm rfl) rfl hl.1 (Nat.le_of_ble_eq_true rfl) ⟨by decide, by decide⟩ ⟨Nat.le_refl _, Nat.le_refl _⟩ rfl dX11_see_13) (fun H locs pb5 hP hS => ?_)
    refine lv_if_eq (tgt := 33) hx hb dX11_see_16 (by decide) (fun c6 => ?_) (fun c6 => ?_)
    · replace h := it_t c6 h
      refine lv_iconst (v := (-1)) hx hb dX11_see_33 (by decide) ?_
      exact re_i' hC hr hP hS (pr_1 h) (congrArg (fun Z : Mm => (Cm, Z)) (pr_2 h)) dX11_see_34
    · replace h := it_f c6 h
      refine lv_iload_n hx hb dX11_see_19 rfl (lv_at hl 3 rfl) ?_
      refine lv_i2l hx hb dX11_see_20 rfl ?_
      refine lv_ldc2 hx hb (v := (-999999999)) hown (hts _ k1443) dX11_see_21 ?_
      refine lv_ldc2 hx hb (v := 999999999) hown (hts _ k1444) dX11_see_24 ?_
      refine rc_i hS (run_S hC wX11_within k1229 hP hS (As := [.long (Int32.toInt64 p3), .long (-999999999), .long 999999999]) (rest := []) (mX11_within l G Cm rfl) rfl hl.1 (Nat.le_of_ble_eq_true rfl) ⟨by decide, by decide⟩ ⟨Nat.le_refl _, Nat.le_refl _⟩ rfl dX11_see_27) (fun H locs pb8 hP hS => ?_)
      refine lv_if_ne (tgt := 35) hx hb dX11_see_30 (by decide) (fun c9 => ?_) (fun c9 => ?_)
      · replace h := it_f c9 h
        refine lv_aload_n hx hb dX11_see_35 rfl (lv_at hl 0 rfl) ?_
        refine r_get (v := .int (C.1 72 33)) hC inX11 hP (e_72 G _) rfl 33 (by decide) rfl k1083 rfl dX11_see_36 ?_
        refine lv_bipush (v := 40) hx hb dX11_see_39 (by decide) ?_
        refine lv_icmp_ne (tgt := 47) hx hb dX11_see_41 (by decide) (fun c10 => ?_) (fun c10 => ?_)
        · replace h := it_f c10 h
          refine lv_aload_n hx hb dX11_see_47 rfl (lv_at hl 0 rfl) ?_
          refine r_get (v := .ref (gA G 91)) hC inX11 hP (e_72 G _) rfl 34 (by decide) rfl k1084 rfl dX11_see_48 ?_
          refine lv_aload_n hx hb dX11_see_51 rfl (lv_at hl 0 rfl) ?_
          refine r_get (v := .int (C.1 72 33)) hC inX11 hP (e_72 G _) rfl 33 (by decide) rfl k1083 rfl dX11_see_52 ?_
          refine lv_iload_n hx hb dX11_see_55 rfl (lv_at hl 1 rfl) ?_
          by_cases c11 : (C.1 72 33) < (0 : Int32) ∨ 40 ≤ Int32.toNatClampNeg (C.1 72 33)
          · cases it_t c11 h
          replace h := it_f c11 h
          obtain ⟨C12, eC12⟩ : ∃ Z : Mm, Z = wrI C 91 (Int32.toNatClampNeg (C.1 72 33)) p1 := ⟨_, rfl⟩
          replace h := lt_y eC12 h
          refine r_iast (X' := (Cm, C12)) hC hP hS (e_91 G _) c11 (a_91 G _ _ _ _ eC12) dX11_see_56 (fun H locs hP hS => ?_)
          refine lv_aload_n hx hb dX11_see_57 rfl (lv_at hl 0 rfl) ?_
          refine r_get (v := .ref (gA G 92)) hC inX11 hP (e_72 G _) rfl 35 (by decide) rfl k1085 rfl dX11_see_58 ?_
          refine lv_aload_n hx hb dX11_see_61 rfl (lv_at hl 0 rfl) ?_
          refine r_get (v := .int (C12.1 72 33)) hC inX11 hP (e_72 G _) rfl 33 (by decide) rfl k1083 rfl dX11_see_62 ?_
          refine lv_iload_n hx hb dX11_see_65 rfl (lv_at hl 2 rfl) ?_
          by_cases c13 : (C12.1 72 33) < (0 : Int32) ∨ 40 ≤ Int32.toNatClampNeg (C12.1 72 33)
          · cases it_t c13 h
          replace h := it_f c13 h
          obtain ⟨C14, eC14⟩ : ∃ Z : Mm, Z = wrI C12 92 (Int32.toNatClampNeg (C12.1 72 33)) p2 := ⟨_, rfl⟩
          replace h := lt_y eC14 h
          refine r_iast (X' := (Cm, C14)) hC hP hS (e_92 G _) c13 (a_92 G _ _ _ _ eC14) dX11_see_66 (fun H locs hP hS => ?_)
          refine lv_aload_n hx hb dX11_see_67 rfl (lv_at hl 0 rfl) ?_
          refine r_get (v := .ref (gA G 93)) hC inX11 hP (e_72 G _) rfl 36 (by decide) rfl k1086 rfl dX11_see_68 ?_
          refine lv_aload_n hx hb dX11_see_71 rfl (lv_at hl 0 rfl) ?_
          refine r_get (v := .int (C14.1 72 33)) hC inX11 hP (e_72 G _) rfl 33 (by decide) rfl k1083 rfl dX11_see_72 ?_
          refine lv_iload_n hx hb dX11_see_75 rfl (lv_at hl 3 rfl) ?_
          by_cases c15 : (C14.1 72 33) < (0 : Int32) ∨ 40 ≤ Int32.toNatClampNeg (C14.1 72 33)
          · cases it_t c15 h
          replace h := it_f c15 h
          obtain ⟨C16, eC16⟩ : ∃ Z : Mm, Z = wrI C14 93 (Int32.toNatClampNeg (C14.1 72 33)) p3 := ⟨_, rfl⟩
          replace h := lt_y eC16 h
          refine r_iast (X' := (Cm, C16)) hC hP hS (e_93 G _) c15 (a_93 G _ _ _ _ eC16) dX11_see_76 (fun H locs hP hS => ?_)
          refine lv_aload_n hx hb dX11_see_77 rfl (lv_at hl 0 rfl) ?_
          refine lv_dup hx hb dX11_see_78 rfl ?_
          refine r_get (v := .int (C16.1 72 33)) hC inX11 hP (e_72 G _) rfl 33 (by decide) rfl k1083 rfl dX11_see_79 ?_
          refine lv_iconst (v := 1) hx hb dX11_see_82 (by decide) ?_
          refine lv_iadd hx hb dX11_see_83 ?_
          obtain ⟨C17, eC17⟩ : ∃ Z : Mm, Z = wrI C16 72 33 ((C16.1 72 33) + 1) := ⟨_, rfl⟩
          replace h := lt_y eC17 h
          refine r_put (X' := (Cm, C17)) hC inX11 tyX11 tyX11_ok nmX11 hP hS (e_72 G _) rfl 33 (by decide) rfl k1083 rfl (v := .int ((C16.1 72 33) + 1)) rfl rfl (Nat.le_of_ble_eq_true rfl) (p_72_33 G _ _ eC17) dX11_see_84 (fun H locs hP hS => ?_)
          refine lv_aload_n hx hb dX11_see_87 rfl (lv_at hl 0 rfl) ?_
          refine r_get (v := .int (C17.1 72 33)) hC inX11 hP (e_72 G _) rfl 33 (by decide) rfl k1083 rfl dX11_see_88 ?_
          refine lv_iconst (v := 1) hx hb dX11_see_91 (by decide) ?_
          refine lv_isub hx hb dX11_see_92 ?_
          exact re_i' hC hr hP hS (pr_1 h) (congrArg (fun Z : Mm => (Cm, Z)) (pr_2 h)) dX11_see_93
        · replace h := it_t c10 h
          refine lv_bipush (v := (-3)) hx hb dX11_see_44 (by decide) ?_
          exact re_i' hC hr hP hS (pr_1 h) (congrArg (fun Z : Mm => (Cm, Z)) (pr_2 h)) dX11_see_46
      · replace h := it_t c9 h
        refine lv_iconst (v := (-1)) hx hb dX11_see_33 (by decide) ?_
        exact re_i' hC hr hP hS (pr_1 h) (congrArg (fun Z : Mm => (Cm, Z)) (pr_2 h)) dX11_see_34
set_option maxHeartbeats 4000000 in
set_option maxRecDepth 100000 in
theorem mX11_isShelf (l : Launch) (G : gp) (Cm : Mm) {p0 : Int32} {C : Mm} {r0 : Int32} (h : fX11_isShelf p0 = r0) : Met l yX11_isShelf (wsy yX11_isShelf cX11_isShelf 1 (some .boolean)) (rmv 1 25) (va_Pc [.int p0] (Rl G (Cm, C))) (Qi G PZ r0 (Cm, C)) 0 0 (lwA G) := by
  refine met_i [.int p0] wX11_isShelf.2.2.2.2 (Nat.le_of_ble_eq_true rfl) ?_
  intro p e s m args below meth c ls hC hr hP hl
  have hC : Cx G p s m args meth c cX11_isShelf RX11 1 := hC
  have hx := hC.1
  have hb := hC.2.1
  have hown := hC.2.2.2.1
  have hts := hC.2.2.2.2.1
  have hS : va_S (lwA G) s.heap s.heap [] := va_S.rf
  have hl : lv_has ls 1 [(0, .int p0)] := hl
  unfold fX11_isShelf at h
  refine lv_iload_n hx hb dX11_isShelf_0 rfl (lv_at hl 0 rfl) ?_
  refine lv_i2l hx hb dX11_isShelf_1 rfl ?_
  refine lv_lconst (v := 0) hx hb dX11_isShelf_2 (by decide) ?_
  refine lv_ldc2 hx hb (v := 5) hown (hts _ k1452) dX11_isShelf_3 ?_
  refine rc_i hS (run_S hC wX11_within k1229 hP hS (As := [.long (Int32.toInt64 p0), .long 0, .long 5]) (rest := []) (mX11_within l G Cm rfl) rfl hl.1 (Nat.le_of_ble_eq_true rfl) ⟨by decide, by decide⟩ ⟨Nat.le_refl _, Nat.le_refl _⟩ rfl dX11_isShelf_6) (fun H locs pb2 hP hS => ?_)
  exact re_z' hC hr hP hS pb2 h rfl dX11_isShelf_9
set_option maxHeartbeats 4000000 in
set_option maxRecDepth 100000 in
theorem mX11_asks (l : Launch) (G : gp) (Cm : Mm) {n : Nat} {p1 : Int32} {p2 : Int32} {p3 : Int32} {C : Mm} {r0 : Int32} {C0 : Mm} (h : fX11_asks n p1 p2 p3 C = some (r0, C0)) : Met l yX11_asks (wsy yX11_asks cX11_asks 7 (some .int)) (rmv 3 68) (va_Pc [.ref (gA G 72), .int p1, .int p2, .int p3] (Rl G (Cm, C))) (Qi G PT r0 (Cm, C0)) 0 0 (lwA G) := by
  refine met_i [.ref (gA G 72), .int p1, .int p2, .int p3] wX11_asks.2.2.2.2.2 (Nat.le_of_ble_eq_true rfl) ?_
  intro p e s m args below meth c ls hC hr hP hl
  have hC : Cx G p s m args meth c cX11_asks RX11 7 := hC
  have hx := hC.1
  have hb := hC.2.1
  have hown := hC.2.2.2.1
  have hts := hC.2.2.2.2.1
  have hS : va_S (lwA G) s.heap s.heap [] := va_S.rf
  have hl : lv_has ls 7 [(0, .ref (gA G 72)), (1, .int p1), (2, .int p2), (3, .int p3)] := hl
  have bl227 : ∀ (k69 : Int32 → Int32 → Int32 → Int32 → Int32 → Mm → Option (Int32 × Mm)) (hk69 : ∀ (y1 : Int32) (y2 : Int32) (y3 : Int32) (y4 : Int32) (y5 : Int32) (C : Mm) (H : Heap) (locs : List Loc) (ls : Array Slot), k69 y1 y2 y3 y4 y5 C = some (r0, C0) → lv_has ls 7 [(0, .ref (gA G 72)), (1, .int y1), (2, .int y2), (3, .int y3), (4, .int y4), (5, .int y5)] → va_P (gD G) vwCl (wld G (Cm, C)) H → va_S (lwA G) s.heap H locs → W p l e (rmv 3 68) s m args below meth c H locs 0 0 (MQ below (Qi G PT r0 (Cm, C0)) args s 0 0 (lwA G)) (F0 m 69 ls [])), ∀ (y1 : Int32) (y2 : Int32) (y3 : Int32) (y5 : Int32) (s0 : Int32) (s1 : Int32) (C : Mm) (H : Heap) (locs : List Loc) (ls : Array Slot), fX11_asks_b227 n k69 y1 y2 y3 y5 s0 s1 C = some (r0, C0) → lv_has ls 7 [(0, .ref (gA G 72)), (1, .int y1), (2, .int y2), (3, .int y3), (5, .int y5)] → va_P (gD G) vwCl (wld G (Cm, C)) H → va_S (lwA G) s.heap H locs → W p l e (rmv 3 68) s m args below meth c H locs 0 0 (MQ below (Qi G PT r0 (Cm, C0)) args s 0 0 (lwA G)) (F0 m 227 ls [.int s0, .int s1]) := by
    intro k69 hk69 y1 y2 y3 y5 s0 s1 C H locs ls h hl hP hS
    unfold fX11_asks_b227 at h
    refine lv_iadd hx hb dX11_asks_227 ?_
    refine lv_topi (fun x1 ex1 => ?_)
    replace h := lt_y ex1 h
    refine lv_istore (lv' := [(4, .int x1), (0, .ref (gA G 72)), (1, .int y1), (2, .int y2), (3, .int y3), (5, .int y5)]) hx hb dX11_asks_228 hl (by decide) rfl (fun ls hl => ?_)
    refine lv_goto (tgt := 69) hx hb dX11_asks_230 (by decide) ?_
    exact hk69 y1 y2 y3 x1 y5 C _ _ _ h (lv_sub hl [1, 2, 3, 4, 0, 5] rfl) hP hS
  have bl213 : ∀ (k69 : Int32 → Int32 → Int32 → Int32 → Int32 → Mm → Option (Int32 × Mm)) (hk69 : ∀ (y1 : Int32) (y2 : Int32) (y3 : Int32) (y4 : Int32) (y5 : Int32) (C : Mm) (H : Heap) (locs : List Loc) (ls : Array Slot), k69 y1 y2 y3 y4 y5 C = some (r0, C0) → lv_has ls 7 [(0, .ref (gA G 72)), (1, .int y1), (2, .int y2), (3, .int y3), (4, .int y4), (5, .int y5)] → va_P (gD G) vwCl (wld G (Cm, C)) H → va_S (lwA G) s.heap H locs → W p l e (rmv 3 68) s m args below meth c H locs 0 0 (MQ below (Qi G PT r0 (Cm, C0)) args s 0 0 (lwA G)) (F0 m 69 ls [])), ∀ (y1 : Int32) (y2 : Int32) (y3 : Int32) (y4 : Int32) (s0 : Int32) (C : Mm) (H : Heap) (locs : List Loc) (ls : Array Slot), fX11_asks_b213 n k69 y1 y2 y3 y4 s0 C = some (r0, C0) → lv_has ls 7 [(0, .ref (gA G 72)), (1, .int y1), (2, .int y2), (3, .int y3), (4, .int y4)] → va_P (gD G) vwCl (wld G (Cm, C)) H → va_S (lwA G) s.heap H locs → W p l e (rmv 3 68) s m args below meth c H locs 0 0 (MQ below (Qi G PT r0 (Cm, C0)) args s 0 0 (lwA G)) (F0 m 213 ls [.int s0]) := by
    intro k69 hk69 y1 y2 y3 y4 s0 C H locs ls h hl hP hS
    unfold fX11_asks_b213 at h
    refine lv_istore (lv' := [(5, .int s0), (0, .ref (gA G 72)), (1, .int y1), (2, .int y2), (3, .int y3), (4, .int y4)]) hx hb dX11_asks_213 hl (by decide) rfl (fun ls hl => ?_)
    refine lv_iload hx hb dX11_asks_215 (lv_at hl 5 rfl) ?_
    refine lv_iload hx hb dX11_asks_217 (lv_at hl 0 rfl) ?_
    refine lv_if_eq (tgt := 226) hx hb dX11_asks_219 (by decide) (fun c2 => ?_) (fun c2 => ?_)
    · replace h := it_t c2 h
      refine lv_iconst (v := 0) hx hb dX11_asks_226 (by decide) ?_
      exact bl227 k69 hk69 y1 y2 y3 s0 0 y4 C _ _ _ h (lv_sub hl [1, 2, 3, 4, 0] rfl) hP hS
    · replace h := it_f c2 h
      refine lv_iconst (v := 1) hx hb dX11_asks_222 (by decide) ?_
      refine lv_goto (tgt := 227) hx hb dX11_asks_223 (by decide) ?_
      exact bl227 k69 hk69 y1 y2 y3 s0 1 y4 C _ _ _ h (lv_sub hl [1, 2, 3, 4, 0] rfl) hP hS
  have bl212 : ∀ (k69 : Int32 → Int32 → Int32 → Int32 → Int32 → Mm → Option (Int32 × Mm)) (hk69 : ∀ (y1 : Int32) (y2 : Int32) (y3 : Int32) (y4 : Int32) (y5 : Int32) (C : Mm) (H : Heap) (locs : List Loc) (ls : Array Slot), k69 y1 y2 y3 y4 y5 C = some (r0, C0) → lv_has ls 7 [(0, .ref (gA G 72)), (1, .int y1), (2, .int y2), (3, .int y3), (4, .int y4), (5, .int y5)] → va_P (gD G) vwCl (wld G (Cm, C)) H → va_S (lwA G) s.heap H locs → W p l e (rmv 3 68) s m args below meth c H locs 0 0 (MQ below (Qi G PT r0 (Cm, C0)) args s 0 0 (lwA G)) (F0 m 69 ls [])), ∀ (y1 : Int32) (y2 : Int32) (y3 : Int32) (y4 : Int32) (C : Mm) (H : Heap) (locs : List Loc) (ls : Array Slot), fX11_asks_b212 n k69 y1 y2 y3 y4 C = some (r0, C0) → lv_has ls 7 [(0, .ref (gA G 72)), (1, .int y1), (2, .int y2), (3, .int y3), (4, .int y4)] → va_P (gD G) vwCl (wld G (Cm, C)) H → va_S (lwA G) s.heap H locs → W p l e (rmv 3 68) s m args below meth c H locs 0 0 (MQ below (Qi G PT r0 (Cm, C0)) args s 0 0 (lwA G)) (F0 m 212 ls []) := by
    intro k69 hk69 y1 y2 y3 y4 C H locs ls h hl hP hS
    unfold fX11_asks_b212 at h
    refine lv_iconst (v := 0) hx hb dX11_asks_212 (by decide) ?_
    exact bl213 k69 hk69 y1 y2 y3 y4 0 C _ _ _ h (lv_sub hl [0, 1, 2, 3, 4] rfl) hP hS
  have bl102 : ∀ (k69 : Int32 → Int32 → Int32 → Int32 → Int32 → Mm → Option (Int32 × Mm)) (hk69 : ∀ (y1 : Int32) (y2 : Int32) (y3 : Int32) (y4 : Int32) (y5 : Int32) (C : Mm) (H : Heap) (locs : List Loc) (ls : Array Slot), k69 y1 y2 y3 y4 y5 C = some (r0, C0) → lv_has ls 7 [(0, .ref (gA G 72)), (1, .int y1), (2, .int y2), (3, .int y3), (4, .int y4), (5, .int y5)] → va_P (gD G) vwCl (wld G (Cm, C)) H → va_S (lwA G) s.heap H locs → W p l e (rmv 3 68) s m args below meth c H locs 0 0 (MQ below (Qi G PT r0 (Cm, C0)) args s 0 0 (lwA G)) (F0 m 69 ls [])), ∀ (y1 : Int32) (y2 : Int32) (y3 : Int32) (y4 : Int32) (s0 : Int32) (C : Mm) (H : Heap) (locs : List Loc) (ls : Array Slot), fX11_asks_b102 n k69 y1 y2 y3 y4 s0 C = some (r0, C0) → lv_has ls 7 [(0, .ref (gA G 72)), (1, .int y1), (2, .int y2), (3, .int y3), (4, .int y4)] → va_P (gD G) vwCl (wld G (Cm, C)) H → va_S (lwA G) s.heap H locs → W p l e (rmv 3 68) s m args below meth c H locs 0 0 (MQ below (Qi G PT r0 (Cm, C0)) args s 0 0 (lwA G)) (F0 m 102 ls [.int s0]) := by
    intro k69 hk69 y1 y2 y3 y4 s0 C H locs ls h hl hP hS
    unfold fX11_asks_b102 at h
    refine lv_istore (lv' := [(5, .int s0), (0, .ref (gA G 72)), (1, .int y1), (2, .int y2), (3, .int y3), (4, .int y4)]) hx hb dX11_asks_102 hl (by decide) rfl (fun ls hl => ?_)
    refine lv_bipush (v := 60) hx hb dX11_asks_104 (by decide) ?_
    refine lv_iload_n hx hb dX11_asks_106 rfl (lv_at hl 2 rfl) ?_
    refine lv_imul hx hb dX11_asks_107 ?_
    refine lv_iload_n hx hb dX11_asks_108 rfl (lv_at hl 3 rfl) ?_
    refine lv_iadd hx hb dX11_asks_109 ?_
    refine lv_iconst (v := 4) hx hb dX11_asks_110 (by decide) ?_
    refine lv_iload hx hb dX11_asks_111 (lv_at hl 5 rfl) ?_
    refine lv_imul hx hb dX11_asks_113 ?_
    refine lv_iadd hx hb dX11_asks_114 ?_
    refine lv_topi (fun x3 ex3 => ?_)
    replace h := lt_y ex3 h
    refine lv_istore (lv' := [(6, .int x3), (5, .int s0), (0, .ref (gA G 72)), (1, .int y1), (2, .int y2), (3, .int y3), (4, .int y4)]) hx hb dX11_asks_115 hl (by decide) rfl (fun ls hl => ?_)
    refine lv_iload hx hb dX11_asks_117 (lv_at hl 1 rfl) ?_
    refine lv_if_eq (tgt := 212) hx hb dX11_asks_119 (by decide) (fun c4 => ?_) (fun c4 => ?_)
    · replace h := it_t c4 h
      exact bl212 k69 hk69 y1 y2 y3 y4 C _ _ _ h (lv_sub hl [2, 3, 4, 5, 6] rfl) hP hS
    · replace h := it_f c4 h
      refine lv_aload_n hx hb dX11_asks_122 rfl (lv_at hl 2 rfl) ?_
      refine r_get (v := .ref (gA G 101)) hC inX11 hP (e_72 G _) rfl 53 (by decide) rfl k1103 rfl dX11_asks_123 ?_
      refine lv_iload hx hb dX11_asks_126 (lv_at hl 0 rfl) ?_
      by_cases c5 : x3 < (0 : Int32) ∨ 360 ≤ Int32.toNatClampNeg x3
      · cases it_t c5 h
      replace h := it_f c5 h
      refine r_lald hC hP (f := C.2 101) (e_101 G _) c5 dX11_asks_128 ?_
      refine lv_lconst (v := 1) hx hb dX11_asks_129 (by decide) ?_
      refine lv_ldc2 hx hb (v := 9999) hown (hts _ k1320) dX11_asks_130 ?_
      refine rc_i hS (run_S hC wX11_within k1229 hP hS (As := [.long (C.2 101 (Int32.toNatClampNeg x3)), .long 1, .long 9999]) (rest := []) (mX11_within l G Cm rfl) rfl hl.1 (Nat.le_of_ble_eq_true rfl) ⟨by decide, by decide⟩ ⟨Nat.le_refl _, Nat.le_refl _⟩ rfl dX11_asks_133) (fun H locs pb7 hP hS => ?_)
      refine lv_if_eq (tgt := 212) hx hb dX11_asks_136 (by decide) (fun c8 => ?_) (fun c8 => ?_)
      · replace h := it_t c8 h
        exact bl212 k69 hk69 y1 y2 y3 y4 C _ _ _ h (lv_sub hl [2, 3, 4, 5, 6] rfl) hP hS
      · replace h := it_f c8 h
        refine lv_aload_n hx hb dX11_asks_139 rfl (lv_at hl 2 rfl) ?_
        refine r_get (v := .ref (gA G 101)) hC inX11 hP (e_72 G _) rfl 53 (by decide) rfl k1103 rfl dX11_asks_140 ?_
        refine lv_iload hx hb dX11_asks_143 (lv_at hl 0 rfl) ?_
        refine lv_iconst (v := 1) hx hb dX11_asks_145 (by decide) ?_
        refine lv_iadd hx hb dX11_asks_146 ?_
        by_cases c9 : (x3 + 1) < (0 : Int32) ∨ 360 ≤ Int32.toNatClampNeg (x3 + 1)
        · cases it_t c9 h
        replace h := it_f c9 h
        refine r_lald hC hP (f := C.2 101) (e_101 G _) c9 dX11_asks_147 ?_
        refine lv_lconst (v := 1) hx hb dX11_asks_148 (by decide) ?_
        refine lv_ldc2 hx hb (v := 9999) hown (hts _ k1320) dX11_asks_149 ?_
        refine rc_i hS (run_S hC wX11_within k1229 hP hS (As := [.long (C.2 101 (Int32.toNatClampNeg (x3 + 1))), .long 1, .long 9999]) (rest := []) (mX11_within l G Cm rfl) rfl hl.1 (Nat.le_of_ble_eq_true rfl) ⟨by decide, by decide⟩ ⟨Nat.le_refl _, Nat.le_refl _⟩ rfl dX11_asks_152) (fun H locs pb11 hP hS => ?_)
        refine lv_if_eq (tgt := 212) hx hb dX11_asks_155 (by decide) (fun c12 => ?_) (fun c12 => ?_)
        · replace h := it_t c12 h
          exact bl212 k69 hk69 y1 y2 y3 y4 C _ _ _ h (lv_sub hl [2, 3, 4, 5, 6] rfl) hP hS
        · replace h := it_f c12 h
          refine lv_aload_n hx hb dX11_asks_158 rfl (lv_at hl 2 rfl) ?_
          refine lv_sipush (v := 10000) hx hb dX11_asks_159 (by decide) ?_
          refine lv_aload_n hx hb dX11_asks_162 rfl (lv_at hl 2 rfl) ?_
          refine r_get (v := .ref (gA G 101)) hC inX11 hP (e_72 G _) rfl 53 (by decide) rfl k1103 rfl dX11_asks_163 ?_
          refine lv_iload hx hb dX11_asks_166 (lv_at hl 0 rfl) ?_
          by_cases c13 : x3 < (0 : Int32) ∨ 360 ≤ Int32.toNatClampNeg x3
          · cases it_t c13 h
          replace h := it_f c13 h
          refine r_lald hC hP (f := C.2 101) (e_101 G _) c13 dX11_asks_168 ?_
          refine lv_l2i hx hb dX11_asks_169 rfl ?_
          refine lv_imul hx hb dX11_asks_170 ?_
          refine lv_aload_n hx hb dX11_asks_171 rfl (lv_at hl 2 rfl) ?_
          refine r_get (v := .ref (gA G 101)) hC inX11 hP (e_72 G _) rfl 53 (by decide) rfl k1103 rfl dX11_asks_172 ?_
          refine lv_iload hx hb dX11_asks_175 (lv_at hl 0 rfl) ?_
          refine lv_iconst (v := 1) hx hb dX11_asks_177 (by decide) ?_
          refine lv_iadd hx hb dX11_asks_178 ?_
          by_cases c14 : (x3 + 1) < (0 : Int32) ∨ 360 ≤ Int32.toNatClampNeg (x3 + 1)
          · cases it_t c14 h
          replace h := it_f c14 h
          refine r_lald hC hP (f := C.2 101) (e_101 G _) c14 dX11_asks_179 ?_
          refine lv_l2i hx hb dX11_asks_180 rfl ?_
          refine lv_iadd hx hb dX11_asks_181 ?_
          refine lv_aload_n hx hb dX11_asks_182 rfl (lv_at hl 2 rfl) ?_
          refine r_get (v := .ref (gA G 101)) hC inX11 hP (e_72 G _) rfl 53 (by decide) rfl k1103 rfl dX11_asks_183 ?_
          refine lv_iload hx hb dX11_asks_186 (lv_at hl 0 rfl) ?_
          refine lv_iconst (v := 2) hx hb dX11_asks_188 (by decide) ?_
          refine lv_iadd hx hb dX11_asks_189 ?_
          by_cases c15 : (x3 + 2) < (0 : Int32) ∨ 360 ≤ Int32.toNatClampNeg (x3 + 2)
          · cases it_t c15 h
          replace h := it_f c15 h
          refine r_lald hC hP (f := C.2 101) (e_101 G _) c15 dX11_asks_190 ?_
          refine lv_l2i hx hb dX11_asks_191 rfl ?_
          refine lv_aload_n hx hb dX11_asks_192 rfl (lv_at hl 2 rfl) ?_
          refine r_get (v := .ref (gA G 101)) hC inX11 hP (e_72 G _) rfl 53 (by decide) rfl k1103 rfl dX11_asks_193 ?_
          refine lv_iload hx hb dX11_asks_196 (lv_at hl 0 rfl) ?_
          refine lv_iconst (v := 3) hx hb dX11_asks_198 (by decide) ?_
          refine lv_iadd hx hb dX11_asks_199 ?_
          by_cases c16 : (x3 + 3) < (0 : Int32) ∨ 360 ≤ Int32.toNatClampNeg (x3 + 3)
          · cases it_t c16 h
          replace h := it_f c16 h
          refine r_lald hC hP (f := C.2 101) (e_101 G _) c16 dX11_asks_200 ?_
          refine lv_l2i hx hb dX11_asks_201 rfl ?_
          obtain ⟨r18, C19, hq17, h⟩ := bp_x h
          refine rc_i hS (run_V hC wX11_see k1454 (e_72 G _) rfl hP hS (As := [.int ((10000 * (Int64.toInt32 (C.2 101 (Int32.toNatClampNeg x3)))) + (Int64.toInt32 (C.2 101 (Int32.toNatClampNeg (x3 + 1))))), .int (Int64.toInt32 (C.2 101 (Int32.toNatClampNeg (x3 + 2)))), .int (Int64.toInt32 (C.2 101 (Int32.toNatClampNeg (x3 + 3))))]) (rest := []) (mX11_see l G Cm hq17) rfl hl.1 (Nat.le_of_ble_eq_true rfl) ⟨by decide, by decide⟩ ⟨Nat.le_refl _, Nat.le_refl _⟩ rfl dX11_asks_202) (fun H locs pb20 hP hS => ?_)
          refine lv_if_lt (tgt := 212) hx hb dX11_asks_205 (by decide) (fun c21 => ?_) (fun c21 => ?_)
          · replace h := it_t c21 h
            exact bl212 k69 hk69 y1 y2 y3 y4 C19 _ _ _ h (lv_sub hl [2, 3, 4, 5, 6] rfl) hP hS
          · replace h := it_f c21 h
            refine lv_iconst (v := 1) hx hb dX11_asks_208 (by decide) ?_
            refine lv_goto (tgt := 213) hx hb dX11_asks_209 (by decide) ?_
            exact bl213 k69 hk69 y1 y2 y3 y4 1 C19 _ _ _ h (lv_sub hl [2, 3, 4, 5, 6] rfl) hP hS
  have bl69 : ∀ (fu : Nat), ∀ (y1 : Int32) (y2 : Int32) (y3 : Int32) (y4 : Int32) (y5 : Int32) (C : Mm) (H : Heap) (locs : List Loc) (ls : Array Slot), fX11_asks_h69 n fu y1 y2 y3 y4 y5 C = some (r0, C0) → lv_has ls 7 [(0, .ref (gA G 72)), (1, .int y1), (2, .int y2), (3, .int y3), (4, .int y4), (5, .int y5)] → va_P (gD G) vwCl (wld G (Cm, C)) H → va_S (lwA G) s.heap H locs → W p l e (rmv 3 68) s m args below meth c H locs 0 0 (MQ below (Qi G PT r0 (Cm, C0)) args s 0 0 (lwA G)) (F0 m 69 ls []) := by
    intro fu
    induction fu with
    | zero =>
      intro y1 y2 y3 y4 y5 C H locs ls h hl hP hS
      rw [fX11_asks_h69.eq_1] at h
      cases h
    | succ fu ih =>
      intro y1 y2 y3 y4 y5 C H locs ls h hl hP hS
      rw [fX11_asks_h69.eq_2] at h
      refine lv_iload hx hb dX11_asks_69 (lv_at hl 5 rfl) ?_
      refine lv_if_eq (tgt := 233) hx hb dX11_asks_71 (by decide) (fun c22 => ?_) (fun c22 => ?_)
      · replace h := it_t c22 h
        refine lv_iload hx hb dX11_asks_233 (lv_at hl 4 rfl) ?_
        exact re_i' hC hr hP hS (pr_1 h) (congrArg (fun Z : Mm => (Cm, Z)) (pr_2 h)) dX11_asks_235
      · replace h := it_f c22 h
        refine lv_iload hx hb dX11_asks_74 (lv_at hl 4 rfl) ?_
        refine lv_iload_n hx hb dX11_asks_76 rfl (lv_at hl 3 rfl) ?_
        refine lv_icmp_ge (tgt := 233) hx hb dX11_asks_77 (by decide) (fun c23 => ?_) (fun c23 => ?_)
        · replace h := it_t c23 h
          refine lv_iload hx hb dX11_asks_233 (lv_at hl 4 rfl) ?_
          exact re_i' hC hr hP hS (pr_1 h) (congrArg (fun Z : Mm => (Cm, Z)) (pr_2 h)) dX11_asks_235
        · replace h := it_f c23 h
          refine lv_iload_n hx hb dX11_asks_80 rfl (lv_at hl 2 rfl) ?_
          refine lv_aload_n hx hb dX11_asks_81 rfl (lv_at hl 0 rfl) ?_
          refine r_get (v := .ref (gA G 100)) hC inX11 hP (e_72 G _) rfl 52 (by decide) rfl k1102 rfl dX11_asks_82 ?_
          refine lv_iload_n hx hb dX11_asks_85 rfl (lv_at hl 1 rfl) ?_
          by_cases c24 : y1 < (0 : Int32) ∨ 6 ≤ Int32.toNatClampNeg y1
          · cases it_t c24 h
          replace h := it_f c24 h
          refine r_iald hC hP (f := C.1 100) (e_100 G _) c24 dX11_asks_86 ?_
          refine lv_iconst (v := 4) hx hb dX11_asks_87 (by decide) ?_
          refine lv_isub hx hb dX11_asks_88 ?_
          refine lv_iconst (v := 4) hx hb dX11_asks_89 (by decide) ?_
          refine lv_iload hx hb dX11_asks_90 (lv_at hl 4 rfl) ?_
          refine lv_imul hx hb dX11_asks_92 ?_
          refine lv_isub hx hb dX11_asks_93 ?_
          refine lv_icmp_gt (tgt := 101) hx hb dX11_asks_94 (by decide) (fun c25 => ?_) (fun c25 => ?_)
          · replace h := it_t c25 h
            refine lv_iconst (v := 0) hx hb dX11_asks_101 (by decide) ?_
            exact bl102 (fX11_asks_h69 n fu) ih y1 y2 y3 y4 0 C _ _ _ h (lv_sub hl [0, 1, 2, 3, 4] rfl) hP hS
          · replace h := it_f c25 h
            refine lv_iconst (v := 1) hx hb dX11_asks_97 (by decide) ?_
            refine lv_goto (tgt := 102) hx hb dX11_asks_98 (by decide) ?_
            exact bl102 (fX11_asks_h69 n fu) ih y1 y2 y3 y4 1 C _ _ _ h (lv_sub hl [0, 1, 2, 3, 4] rfl) hP hS
  have bl67 : ∀ (y1 : Int32) (y2 : Int32) (y3 : Int32) (y4 : Int32) (s0 : Int32) (C : Mm) (H : Heap) (locs : List Loc) (ls : Array Slot), fX11_asks_b67 n y1 y2 y3 y4 s0 C = some (r0, C0) → lv_has ls 7 [(0, .ref (gA G 72)), (1, .int y1), (2, .int y2), (3, .int y3), (4, .int y4)] → va_P (gD G) vwCl (wld G (Cm, C)) H → va_S (lwA G) s.heap H locs → W p l e (rmv 3 68) s m args below meth c H locs 0 0 (MQ below (Qi G PT r0 (Cm, C0)) args s 0 0 (lwA G)) (F0 m 67 ls [.int s0]) := by
    intro y1 y2 y3 y4 s0 C H locs ls h hl hP hS
    unfold fX11_asks_b67 at h
    refine lv_istore (lv' := [(5, .int s0), (0, .ref (gA G 72)), (1, .int y1), (2, .int y2), (3, .int y3), (4, .int y4)]) hx hb dX11_asks_67 hl (by decide) rfl (fun ls hl => ?_)
    exact bl69 n y1 y2 y3 y4 s0 C _ _ _ h (lv_sub hl [1, 2, 3, 4, 5, 0] rfl) hP hS
  have bl66 : ∀ (y1 : Int32) (y2 : Int32) (y3 : Int32) (y4 : Int32) (C : Mm) (H : Heap) (locs : List Loc) (ls : Array Slot), fX11_asks_b66 n y1 y2 y3 y4 C = some (r0, C0) → lv_has ls 7 [(0, .ref (gA G 72)), (1, .int y1), (2, .int y2), (3, .int y3), (4, .int y4)] → va_P (gD G) vwCl (wld G (Cm, C)) H → va_S (lwA G) s.heap H locs → W p l e (rmv 3 68) s m args below meth c H locs 0 0 (MQ below (Qi G PT r0 (Cm, C0)) args s 0 0 (lwA G)) (F0 m 66 ls []) := by
    intro y1 y2 y3 y4 C H locs ls h hl hP hS
    unfold fX11_asks_b66 at h
    refine lv_iconst (v := 0) hx hb dX11_asks_66 (by decide) ?_
    exact bl67 y1 y2 y3 y4 0 C _ _ _ h (lv_sub hl [0, 1, 2, 3, 4] rfl) hP hS
  have bl44 : ∀ (y1 : Int32) (y2 : Int32) (y3 : Int32) (C : Mm) (H : Heap) (locs : List Loc) (ls : Array Slot), fX11_asks_b44 n y1 y2 y3 C = some (r0, C0) → lv_has ls 7 [(0, .ref (gA G 72)), (1, .int y1), (2, .int y2), (3, .int y3)] → va_P (gD G) vwCl (wld G (Cm, C)) H → va_S (lwA G) s.heap H locs → W p l e (rmv 3 68) s m args below meth c H locs 0 0 (MQ below (Qi G PT r0 (Cm, C0)) args s 0 0 (lwA G)) (F0 m 44 ls []) := by
    intro y1 y2 y3 C H locs ls h hl hP hS
    unfold fX11_asks_b44 at h
    refine lv_iconst (v := 0) hx hb dX11_asks_44 (by decide) ?_
    refine lv_istore (lv' := [(4, .int 0), (0, .ref (gA G 72)), (1, .int y1), (2, .int y2), (3, .int y3)]) hx hb dX11_asks_45 hl (by decide) rfl (fun ls hl => ?_)
    refine lv_aload_n hx hb dX11_asks_47 rfl (lv_at hl 1 rfl) ?_
    refine r_get (v := .ref (gA G 99)) hC inX11 hP (e_72 G _) rfl 51 (by decide) rfl k1101 rfl dX11_asks_48 ?_
    refine lv_iload_n hx hb dX11_asks_51 rfl (lv_at hl 2 rfl) ?_
    by_cases c26 : y1 < (0 : Int32) ∨ 6 ≤ Int32.toNatClampNeg y1
    · cases it_t c26 h
    replace h := it_f c26 h
    refine r_iald hC hP (f := C.1 99) (e_99 G _) c26 dX11_asks_52 ?_
    refine lv_bipush (v := 52) hx hb dX11_asks_53 (by decide) ?_
    refine lv_icmp_ne (tgt := 66) hx hb dX11_asks_55 (by decide) (fun c27 => ?_) (fun c27 => ?_)
    · replace h := it_f c27 h
      exact bl66 y1 y2 y3 0 C _ _ _ h (lv_sub hl [1, 2, 3, 4, 0] rfl) hP hS
    · replace h := it_t c27 h
      refine lv_iload_n hx hb dX11_asks_58 rfl (lv_at hl 3 rfl) ?_
      refine lv_if_lt (tgt := 66) hx hb dX11_asks_59 (by decide) (fun c28 => ?_) (fun c28 => ?_)
      · replace h := it_t c28 h
        exact bl66 y1 y2 y3 0 C _ _ _ h (lv_sub hl [1, 2, 3, 4, 0] rfl) hP hS
      · replace h := it_f c28 h
        refine lv_iconst (v := 1) hx hb dX11_asks_62 (by decide) ?_
        refine lv_goto (tgt := 67) hx hb dX11_asks_63 (by decide) ?_
        exact bl67 y1 y2 y3 0 1 C _ _ _ h (lv_sub hl [1, 2, 3, 4, 0] rfl) hP hS
  unfold fX11_asks at h
  refine lv_iload_n hx hb dX11_asks_0 rfl (lv_at hl 1 rfl) ?_
  refine rc_i hS (run_S hC wX11_isShelf k1449 hP hS (As := [.int p1]) (rest := []) (mX11_isShelf l G Cm rfl) rfl hl.1 (Nat.le_of_ble_eq_true rfl) ⟨by decide, by decide⟩ ⟨Nat.le_refl _, Nat.le_refl _⟩ rfl dX11_asks_1) (fun H locs pb30 hP hS => ?_)
  refine lv_if_eq (tgt := 19) hx hb dX11_asks_4 (by decide) (fun c31 => ?_) (fun c31 => ?_)
  · replace h := it_t c31 h
    refine lv_iconst (v := (-1)) hx hb dX11_asks_19 (by decide) ?_
    exact re_i' hC hr hP hS (pr_1 h) (congrArg (fun Z : Mm => (Cm, Z)) (pr_2 h)) dX11_asks_20
  · replace h := it_f c31 h
    refine lv_iload_n hx hb dX11_asks_7 rfl (lv_at hl 3 rfl) ?_
    refine lv_i2l hx hb dX11_asks_8 rfl ?_
    refine lv_lconst (v := 1) hx hb dX11_asks_9 (by decide) ?_
    refine lv_ldc2 hx hb (v := 15) hown (hts _ k1453) dX11_asks_10 ?_
    refine rc_i hS (run_S hC wX11_within k1229 hP hS (As := [.long (Int32.toInt64 p3), .long 1, .long 15]) (rest := []) (mX11_within l G Cm rfl) rfl hl.1 (Nat.le_of_ble_eq_true rfl) ⟨by decide, by decide⟩ ⟨Nat.le_refl _, Nat.le_refl _⟩ rfl dX11_asks_13) (fun H locs pb33 hP hS => ?_)
    refine lv_if_ne (tgt := 21) hx hb dX11_asks_16 (by decide) (fun c34 => ?_) (fun c34 => ?_)
    · replace h := it_f c34 h
      refine lv_aload_n hx hb dX11_asks_21 rfl (lv_at hl 0 rfl) ?_
      refine r_get (v := .ref (gA G 99)) hC inX11 hP (e_72 G _) rfl 51 (by decide) rfl k1101 rfl dX11_asks_22 ?_
      refine lv_iload_n hx hb dX11_asks_25 rfl (lv_at hl 1 rfl) ?_
      by_cases c35 : p1 < (0 : Int32) ∨ 6 ≤ Int32.toNatClampNeg p1
      · cases it_t c35 h
      replace h := it_f c35 h
      refine r_iald hC hP (f := C.1 99) (e_99 G _) c35 dX11_asks_26 ?_
      refine lv_if_lt (tgt := 44) hx hb dX11_asks_27 (by decide) (fun c36 => ?_) (fun c36 => ?_)
      · replace h := it_t c36 h
        exact bl44 p1 p2 p3 C _ _ _ h (lv_sub hl [0, 1, 2, 3] rfl) hP hS
      · replace h := it_f c36 h
        refine lv_aload_n hx hb dX11_asks_30 rfl (lv_at hl 0 rfl) ?_
        refine r_get (v := .ref (gA G 99)) hC inX11 hP (e_72 G _) rfl 51 (by decide) rfl k1101 rfl dX11_asks_31 ?_
        refine lv_iload_n hx hb dX11_asks_34 rfl (lv_at hl 1 rfl) ?_
        by_cases c37 : p1 < (0 : Int32) ∨ 6 ≤ Int32.toNatClampNeg p1
        · cases it_t c37 h
        replace h := it_f c37 h
        refine r_iald hC hP (f := C.1 99) (e_99 G _) c37 dX11_asks_35 ?_
        refine lv_bipush (v := 52) hx hb dX11_asks_36 (by decide) ?_
        refine lv_icmp_eq (tgt := 44) hx hb dX11_asks_38 (by decide) (fun c38 => ?_) (fun c38 => ?_)
        · replace h := it_t c38 h
          exact bl44 p1 p2 p3 C _ _ _ h (lv_sub hl [0, 1, 2, 3] rfl) hP hS
        · replace h := it_f c38 h
          refine lv_bipush (v := (-12)) hx hb dX11_asks_41 (by decide) ?_
          exact re_i' hC hr hP hS (pr_1 h) (congrArg (fun Z : Mm => (Cm, Z)) (pr_2 h)) dX11_asks_43
    · replace h := it_t c34 h
      refine lv_iconst (v := (-1)) hx hb dX11_asks_19 (by decide) ?_
      exact re_i' hC hr hP hS (pr_1 h) (congrArg (fun Z : Mm => (Cm, Z)) (pr_2 h)) dX11_asks_20
set_option maxHeartbeats 4000000 in
set_option maxRecDepth 100000 in
theorem mX11_offBy (l : Launch) (G : gp) (Cm : Mm) {p1 : Int32} {C : Mm} {r0 : Int32} (h : fX11_offBy p1 C = some r0) : Met l yX11_offBy (wsy yX11_offBy cX11_offBy 2 (some .int)) (rmv 0 0) (va_Pc [.ref (gA G 72), .int p1] (Rl G (Cm, C))) (Qi G PT r0 (Cm, C)) 0 0 (lwA G) := by
  refine met_i [.ref (gA G 72), .int p1] wX11_offBy.2.2.2.2.2 (Nat.le_of_ble_eq_true rfl) ?_
  intro p e s m args below meth c ls hC hr hP hl
  have hC : Cx G p s m args meth c cX11_offBy RX11 2 := hC
  have hx := hC.1
  have hb := hC.2.1
  have hown := hC.2.2.2.1
  have hts := hC.2.2.2.2.1
  have hS : va_S (lwA G) s.heap s.heap [] := va_S.rf
  have hl : lv_has ls 2 [(0, .ref (gA G 72)), (1, .int p1)] := hl
  unfold fX11_offBy at h
  refine lv_aload_n hx hb dX11_offBy_0 rfl (lv_at hl 0 rfl) ?_
  refine r_get (v := .ref (gA G 93)) hC inX11 hP (e_72 G _) rfl 36 (by decide) rfl k1086 rfl dX11_offBy_1 ?_
  refine lv_iload_n hx hb dX11_offBy_4 rfl (lv_at hl 1 rfl) ?_
  by_cases c1 : p1 < (0 : Int32) ∨ 40 ≤ Int32.toNatClampNeg p1
  · cases it_t c1 h
  replace h := it_f c1 h
  refine r_iald hC hP (f := C.1 93) (e_93 G _) c1 dX11_offBy_5 ?_
  refine lv_aload_n hx hb dX11_offBy_6 rfl (lv_at hl 0 rfl) ?_
  refine r_get (v := .ref (gA G 91)) hC inX11 hP (e_72 G _) rfl 34 (by decide) rfl k1084 rfl dX11_offBy_7 ?_
  refine lv_iload_n hx hb dX11_offBy_10 rfl (lv_at hl 1 rfl) ?_
  by_cases c2 : p1 < (0 : Int32) ∨ 40 ≤ Int32.toNatClampNeg p1
  · cases it_t c2 h
  replace h := it_f c2 h
  refine r_iald hC hP (f := C.1 91) (e_91 G _) c2 dX11_offBy_11 ?_
  refine lv_sipush (v := 10000) hx hb dX11_offBy_12 (by decide) ?_
  refine lv_idiv hx hb dX11_offBy_15 (by decide) ?_
  refine lv_aload_n hx hb dX11_offBy_16 rfl (lv_at hl 0 rfl) ?_
  refine r_get (v := .ref (gA G 91)) hC inX11 hP (e_72 G _) rfl 34 (by decide) rfl k1084 rfl dX11_offBy_17 ?_
  refine lv_iload_n hx hb dX11_offBy_20 rfl (lv_at hl 1 rfl) ?_
  by_cases c3 : p1 < (0 : Int32) ∨ 40 ≤ Int32.toNatClampNeg p1
  · cases it_t c3 h
  replace h := it_f c3 h
  refine r_iald hC hP (f := C.1 91) (e_91 G _) c3 dX11_offBy_21 ?_
  refine lv_sipush (v := 10000) hx hb dX11_offBy_22 (by decide) ?_
  refine r_irem hx hb dX11_offBy_25 (by decide) ?_
  refine lv_imul hx hb dX11_offBy_26 ?_
  refine lv_isub hx hb dX11_offBy_27 ?_
  exact re_i' hC hr hP hS (Option.some.inj h) rfl dX11_offBy_28
set_option maxHeartbeats 4000000 in
set_option maxRecDepth 100000 in
theorem mX11_seen (l : Launch) (G : gp) (Cm : Mm) {p1 : Int32} {p2 : Int32} {C : Mm} {r0 : Int32} (h : fX11_seen p1 p2 C = some r0) : Met l yX11_seen (wsy yX11_seen cX11_seen 3 (some .int)) (rmv 1 25) (va_Pc [.ref (gA G 72), .int p1, .int p2] (Rl G (Cm, C))) (Qi G PT r0 (Cm, C)) 0 0 (lwA G) := by
  refine met_i [.ref (gA G 72), .int p1, .int p2] wX11_seen.2.2.2.2.2 (Nat.le_of_ble_eq_true rfl) ?_
  intro p e s m args below meth c ls hC hr hP hl
  have hC : Cx G p s m args meth c cX11_seen RX11 3 := hC
  have hx := hC.1
  have hb := hC.2.1
  have hown := hC.2.2.2.1
  have hts := hC.2.2.2.2.1
  have hS : va_S (lwA G) s.heap s.heap [] := va_S.rf
  have hl : lv_has ls 3 [(0, .ref (gA G 72)), (1, .int p1), (2, .int p2)] := hl
  unfold fX11_seen at h
  refine lv_iload_n hx hb dX11_seen_0 rfl (lv_at hl 1 rfl) ?_
  refine lv_i2l hx hb dX11_seen_1 rfl ?_
  refine lv_lconst (v := 0) hx hb dX11_seen_2 (by decide) ?_
  refine lv_aload_n hx hb dX11_seen_3 rfl (lv_at hl 0 rfl) ?_
  refine r_get (v := .int (C.1 72 33)) hC inX11 hP (e_72 G _) rfl 33 (by decide) rfl k1083 rfl dX11_seen_4 ?_
  refine lv_iconst (v := 1) hx hb dX11_seen_7 (by decide) ?_
  refine lv_isub hx hb dX11_seen_8 ?_
  refine lv_i2l hx hb dX11_seen_9 rfl ?_
  refine rc_i hS (run_S hC wX11_within k1229 hP hS (As := [.long (Int32.toInt64 p1), .long 0, .long (Int32.toInt64 ((C.1 72 33) - 1))]) (rest := []) (mX11_within l G Cm rfl) rfl hl.1 (Nat.le_of_ble_eq_true rfl) ⟨by decide, by decide⟩ ⟨Nat.le_refl _, Nat.le_refl _⟩ rfl dX11_seen_10) (fun H locs pb2 hP hS => ?_)
  refine lv_if_ne (tgt := 20) hx hb dX11_seen_13 (by decide) (fun c3 => ?_) (fun c3 => ?_)
  · replace h := it_f c3 h
    refine lv_iload_n hx hb dX11_seen_20 rfl (lv_at hl 2 rfl) ?_
    by_cases c4 : p2 = 0
    · replace h := it_t c4 h
      refine lv_tableIn (off := 31) (tgt := 52) hx hb dX11_seen_21 (by rw [c4]; decide) (by rw [c4]; decide) (by rw [c4]; rfl) (by decide) ?_
      refine lv_aload_n hx hb dX11_seen_52 rfl (lv_at hl 0 rfl) ?_
      refine r_get (v := .ref (gA G 91)) hC inX11 hP (e_72 G _) rfl 34 (by decide) rfl k1084 rfl dX11_seen_53 ?_
      refine lv_iload_n hx hb dX11_seen_56 rfl (lv_at hl 1 rfl) ?_
      by_cases c5 : p1 < (0 : Int32) ∨ 40 ≤ Int32.toNatClampNeg p1
      · cases it_t c5 h
      replace h := it_f c5 h
      refine r_iald hC hP (f := C.1 91) (e_91 G _) c5 dX11_seen_57 ?_
      refine lv_sipush (v := 10000) hx hb dX11_seen_58 (by decide) ?_
      refine lv_idiv hx hb dX11_seen_61 (by decide) ?_
      exact re_i' hC hr hP hS (Option.some.inj h) rfl dX11_seen_62
    replace h := it_f c4 h
    by_cases c6 : p2 = 1
    · replace h := it_t c6 h
      refine lv_tableIn (off := 42) (tgt := 63) hx hb dX11_seen_21 (by rw [c6]; decide) (by rw [c6]; decide) (by rw [c6]; rfl) (by decide) ?_
      refine lv_aload_n hx hb dX11_seen_63 rfl (lv_at hl 0 rfl) ?_
      refine r_get (v := .ref (gA G 91)) hC inX11 hP (e_72 G _) rfl 34 (by decide) rfl k1084 rfl dX11_seen_64 ?_
      refine lv_iload_n hx hb dX11_seen_67 rfl (lv_at hl 1 rfl) ?_
      by_cases c7 : p1 < (0 : Int32) ∨ 40 ≤ Int32.toNatClampNeg p1
      · cases it_t c7 h
      replace h := it_f c7 h
      refine r_iald hC hP (f := C.1 91) (e_91 G _) c7 dX11_seen_68 ?_
      refine lv_sipush (v := 10000) hx hb dX11_seen_69 (by decide) ?_
      refine r_irem hx hb dX11_seen_72 (by decide) ?_
      exact re_i' hC hr hP hS (Option.some.inj h) rfl dX11_seen_73
    replace h := it_f c6 h
    by_cases c8 : p2 = 2
    · replace h := it_t c8 h
      refine lv_tableIn (off := 53) (tgt := 74) hx hb dX11_seen_21 (by rw [c8]; decide) (by rw [c8]; decide) (by rw [c8]; rfl) (by decide) ?_
      refine lv_aload_n hx hb dX11_seen_74 rfl (lv_at hl 0 rfl) ?_
      refine r_get (v := .ref (gA G 92)) hC inX11 hP (e_72 G _) rfl 35 (by decide) rfl k1085 rfl dX11_seen_75 ?_
      refine lv_iload_n hx hb dX11_seen_78 rfl (lv_at hl 1 rfl) ?_
      by_cases c9 : p1 < (0 : Int32) ∨ 40 ≤ Int32.toNatClampNeg p1
      · cases it_t c9 h
      replace h := it_f c9 h
      refine r_iald hC hP (f := C.1 92) (e_92 G _) c9 dX11_seen_79 ?_
      exact re_i' hC hr hP hS (Option.some.inj h) rfl dX11_seen_80
    replace h := it_f c8 h
    by_cases c10 : p2 = 3
    · replace h := it_t c10 h
      refine lv_tableIn (off := 60) (tgt := 81) hx hb dX11_seen_21 (by rw [c10]; decide) (by rw [c10]; decide) (by rw [c10]; rfl) (by decide) ?_
      refine lv_aload_n hx hb dX11_seen_81 rfl (lv_at hl 0 rfl) ?_
      refine lv_iload_n hx hb dX11_seen_82 rfl (lv_at hl 1 rfl) ?_
      obtain ⟨r12, hq11, h⟩ := bn_x h
      refine rc_i hS (run_V hC wX11_offBy k1459 (e_72 G _) rfl hP hS (As := [.int p1]) (rest := []) (mX11_offBy l G Cm hq11) rfl hl.1 (Nat.le_of_ble_eq_true rfl) ⟨by decide, by decide⟩ ⟨Nat.le_refl _, Nat.le_refl _⟩ rfl dX11_seen_83) (fun H locs pb13 hP hS => ?_)
      exact re_i' hC hr hP hS (Option.some.inj h) rfl dX11_seen_86
    replace h := it_f c10 h
    refine lv_tsD (tgt := 87) hx hb dX11_seen_21 rfl (ex_c (ti_ne (z := 0) rfl c4) (ex_c (ti_ne (z := 1) rfl c6) (ex_c (ti_ne (z := 2) rfl c8) (ex_c (ti_ne (z := 3) rfl c10) ex_0)))) (by decide) (by decide) ?_
    refine lv_ldcw hx hb (v := (-2000000000)) hown (hts _ k1413) dX11_seen_87 ?_
    exact re_i' hC hr hP hS (Option.some.inj h) rfl dX11_seen_90
  · replace h := it_t c3 h
    refine lv_ldcw hx hb (v := (-2000000000)) hown (hts _ k1413) dX11_seen_16 ?_
    exact re_i' hC hr hP hS (Option.some.inj h) rfl dX11_seen_19
set_option maxHeartbeats 4000000 in
set_option maxRecDepth 100000 in
theorem mX11_canSlip (l : Launch) (G : gp) (Cm : Mm) {n : Nat} {p1 : Int32} {p2 : Int32} {C : Mm} {r0 : Int32} (h : fX11_canSlip n p1 p2 C = some r0) : Met l yX11_canSlip (wsy yX11_canSlip cX11_canSlip 4 (some .boolean)) (rmv 1 22) (va_Pc [.ref (gA G 72), .int p1, .int p2] (Rl G (Cm, C))) (Qi G PZ r0 (Cm, C)) 0 0 (lwA G) := by
  refine met_i [.ref (gA G 72), .int p1, .int p2] wX11_canSlip.2.2.2.2.2 (Nat.le_of_ble_eq_true rfl) ?_
  intro p e s m args below meth c ls hC hr hP hl
  have hC : Cx G p s m args meth c cX11_canSlip RX11 4 := hC
  have hx := hC.1
  have hb := hC.2.1
  have hown := hC.2.2.2.1
  have hts := hC.2.2.2.2.1
  have hS : va_S (lwA G) s.heap s.heap [] := va_S.rf
  have hl : lv_has ls 4 [(0, .ref (gA G 72)), (1, .int p1), (2, .int p2)] := hl
  have bl38 : ∀ (fu : Nat), ∀ (y1 : Int32) (y2 : Int32) (y3 : Int32) (C : Mm) (H : Heap) (locs : List Loc) (ls : Array Slot), fX11_canSlip_h38 n fu y1 y2 y3 C = some r0 → lv_has ls 4 [(0, .ref (gA G 72)), (1, .int y1), (2, .int y2), (3, .int y3)] → va_P (gD G) vwCl (wld G (Cm, C)) H → va_S (lwA G) s.heap H locs → W p l e (rmv 1 22) s m args below meth c H locs 0 0 (MQ below (Qi G PZ r0 (Cm, C)) args s 0 0 (lwA G)) (F0 m 38 ls []) := by
    intro fu
    induction fu with
    | zero =>
      intro y1 y2 y3 C H locs ls h hl hP hS
      rw [fX11_canSlip_h38.eq_1] at h
      cases h
    | succ fu ih =>
      intro y1 y2 y3 C H locs ls h hl hP hS
      rw [fX11_canSlip_h38.eq_2] at h
      refine lv_iload_n hx hb dX11_canSlip_38 rfl (lv_at hl 3 rfl) ?_
      refine lv_aload_n hx hb dX11_canSlip_39 rfl (lv_at hl 0 rfl) ?_
      refine r_get (v := .ref (gA G 85)) hC inX11 hP (e_72 G _) rfl 23 (by decide) rfl k1073 rfl dX11_canSlip_40 ?_
      refine lv_iload_n hx hb dX11_canSlip_43 rfl (lv_at hl 1 rfl) ?_
      by_cases c1 : y1 < (0 : Int32) ∨ 200 ≤ Int32.toNatClampNeg y1
      · cases it_t c1 h
      replace h := it_f c1 h
      refine r_iald hC hP (f := C.1 85) (e_85 G _) c1 dX11_canSlip_44 ?_
      obtain ⟨r3, hq2, h⟩ := bn_x h
      refine rc_i hS (run_S hC wX11_digits k1360 hP hS (As := [.int (C.1 85 (Int32.toNatClampNeg y1))]) (rest := [.int y3]) (mX11_digits l G Cm hq2) rfl hl.1 (Nat.le_of_ble_eq_true rfl) ⟨by decide, by decide⟩ ⟨Nat.le_refl _, Nat.le_refl _⟩ rfl dX11_canSlip_45) (fun H locs pb4 hP hS => ?_)
      refine lv_icmp_ge (tgt := 88) hx hb dX11_canSlip_48 (by decide) (fun c5 => ?_) (fun c5 => ?_)
      · replace h := it_t c5 h
        refine lv_iconst (v := 0) hx hb dX11_canSlip_88 (by decide) ?_
        exact re_z' hC hr hP hS PZ0 (Option.some.inj h) rfl dX11_canSlip_89
      · replace h := it_f c5 h
        refine lv_aload_n hx hb dX11_canSlip_51 rfl (lv_at hl 0 rfl) ?_
        refine r_get (v := .ref (gA G 84)) hC inX11 hP (e_72 G _) rfl 22 (by decide) rfl k1072 rfl dX11_canSlip_52 ?_
        refine lv_iload_n hx hb dX11_canSlip_55 rfl (lv_at hl 1 rfl) ?_
        by_cases c6 : y1 < (0 : Int32) ∨ 200 ≤ Int32.toNatClampNeg y1
        · cases it_t c6 h
        replace h := it_f c6 h
        refine r_iald hC hP (f := C.1 84) (e_84 G _) c6 dX11_canSlip_56 ?_
        refine lv_iconst (v := 1) hx hb dX11_canSlip_57 (by decide) ?_
        refine lv_icmp_ne (tgt := 88) hx hb dX11_canSlip_58 (by decide) (fun c7 => ?_) (fun c7 => ?_)
        · replace h := it_f c7 h
          refine lv_iconst (v := 0) hx hb dX11_canSlip_88 (by decide) ?_
          exact re_z' hC hr hP hS PZ0 (Option.some.inj h) rfl dX11_canSlip_89
        · replace h := it_t c7 h
          refine lv_iload_n hx hb dX11_canSlip_61 rfl (lv_at hl 2 rfl) ?_
          refine lv_iload_n hx hb dX11_canSlip_62 rfl (lv_at hl 3 rfl) ?_
          obtain ⟨r9, hq8, h⟩ := bn_x h
          refine rc_i hS (run_S hC wX11_tens k1374 hP hS (As := [.int y3]) (rest := [.int y2]) (mX11_tens l G Cm hq8) rfl hl.1 (Nat.le_of_ble_eq_true rfl) ⟨by decide, by decide⟩ ⟨Nat.le_refl _, Nat.le_refl _⟩ rfl dX11_canSlip_63) (fun H locs pb10 hP hS => ?_)
          refine lv_ineg hx hb dX11_canSlip_66 ?_
          refine lv_aload_n hx hb dX11_canSlip_67 rfl (lv_at hl 0 rfl) ?_
          refine r_get (v := .ref (gA G 89)) hC inX11 hP (e_72 G _) rfl 27 (by decide) rfl k1077 rfl dX11_canSlip_68 ?_
          refine lv_iload_n hx hb dX11_canSlip_71 rfl (lv_at hl 1 rfl) ?_
          by_cases c11 : y1 < (0 : Int32) ∨ 200 ≤ Int32.toNatClampNeg y1
          · cases it_t c11 h
          replace h := it_f c11 h
          refine r_iald hC hP (f := C.1 89) (e_89 G _) c11 dX11_canSlip_72 ?_
          obtain ⟨r13, hq12, h⟩ := bn_x h
          refine rc_i hS (run_S hC wX11_tens k1374 hP hS (As := [.int (C.1 89 (Int32.toNatClampNeg y1))]) (rest := [.int (-r9), .int y2]) (mX11_tens l G Cm hq12) rfl hl.1 (Nat.le_of_ble_eq_true rfl) ⟨by decide, by decide⟩ ⟨Nat.le_refl _, Nat.le_refl _⟩ rfl dX11_canSlip_73) (fun H locs pb14 hP hS => ?_)
          refine lv_imul hx hb dX11_canSlip_76 ?_
          refine lv_icmp_ne (tgt := 82) hx hb dX11_canSlip_77 (by decide) (fun c15 => ?_) (fun c15 => ?_)
          · replace h := it_f c15 h
            obtain ⟨x16, ex16⟩ : ∃ y : Int32, y = y3 + 1 := ⟨_, rfl⟩
            replace h := lt_y ex16 h
            refine lv_iinc (v := x16) (lv' := [(3, .int x16), (0, .ref (gA G 72)), (1, .int y1), (2, .int y2)]) hx hb dX11_canSlip_82 hl (k := 3) rfl (by rw [ex16]; rfl) (by decide) rfl (fun ls hl => ?_)
            refine lv_goto (tgt := 38) hx hb dX11_canSlip_85 (by decide) ?_
            exact ih y1 y2 x16 C _ _ _ h (lv_sub hl [1, 2, 3, 0] rfl) hP hS
          · replace h := it_t c15 h
            refine lv_iconst (v := 1) hx hb dX11_canSlip_80 (by decide) ?_
            exact re_z' hC hr hP hS PZ1 (Option.some.inj h) rfl dX11_canSlip_81
  unfold fX11_canSlip at h
  refine lv_aload_n hx hb dX11_canSlip_0 rfl (lv_at hl 0 rfl) ?_
  refine r_get (v := .ref (gA G 84)) hC inX11 hP (e_72 G _) rfl 22 (by decide) rfl k1072 rfl dX11_canSlip_1 ?_
  refine lv_iload_n hx hb dX11_canSlip_4 rfl (lv_at hl 1 rfl) ?_
  by_cases c17 : p1 < (0 : Int32) ∨ 200 ≤ Int32.toNatClampNeg p1
  · cases it_t c17 h
  replace h := it_f c17 h
  refine r_iald hC hP (f := C.1 84) (e_84 G _) c17 dX11_canSlip_5 ?_
  refine lv_if_ne (tgt := 36) hx hb dX11_canSlip_6 (by decide) (fun c18 => ?_) (fun c18 => ?_)
  · replace h := it_f c18 h
    refine lv_iconst (v := 0) hx hb dX11_canSlip_36 (by decide) ?_
    refine lv_istore_n (lv' := [(3, .int 0), (0, .ref (gA G 72)), (1, .int p1), (2, .int p2)]) hx hb dX11_canSlip_37 rfl hl (by decide) rfl (fun ls hl => ?_)
    exact bl38 n p1 p2 0 C _ _ _ h (lv_sub hl [1, 2, 3, 0] rfl) hP hS
  · replace h := it_t c18 h
    refine lv_iload_n hx hb dX11_canSlip_9 rfl (lv_at hl 2 rfl) ?_
    refine lv_aload_n hx hb dX11_canSlip_10 rfl (lv_at hl 0 rfl) ?_
    refine r_get (v := .ref (gA G 88)) hC inX11 hP (e_72 G _) rfl 26 (by decide) rfl k1076 rfl dX11_canSlip_11 ?_
    refine lv_iload_n hx hb dX11_canSlip_14 rfl (lv_at hl 1 rfl) ?_
    by_cases c19 : p1 < (0 : Int32) ∨ 200 ≤ Int32.toNatClampNeg p1
    · cases it_t c19 h
    replace h := it_f c19 h
    refine r_iald hC hP (f := C.1 88) (e_88 G _) c19 dX11_canSlip_15 ?_
    refine lv_icmp_eq (tgt := 30) hx hb dX11_canSlip_16 (by decide) (fun c20 => ?_) (fun c20 => ?_)
    · replace h := it_t c20 h
      refine lv_iconst (v := 1) hx hb dX11_canSlip_30 (by decide) ?_
      refine lv_goto (tgt := 35) hx hb dX11_canSlip_31 (by decide) ?_
      exact re_z' hC hr hP hS PZ1 (Option.some.inj h) rfl dX11_canSlip_35
    · replace h := it_f c20 h
      refine lv_iload_n hx hb dX11_canSlip_19 rfl (lv_at hl 2 rfl) ?_
      refine lv_aload_n hx hb dX11_canSlip_20 rfl (lv_at hl 0 rfl) ?_
      refine r_get (v := .ref (gA G 88)) hC inX11 hP (e_72 G _) rfl 26 (by decide) rfl k1076 rfl dX11_canSlip_21 ?_
      refine lv_iload_n hx hb dX11_canSlip_24 rfl (lv_at hl 1 rfl) ?_
      by_cases c21 : p1 < (0 : Int32) ∨ 200 ≤ Int32.toNatClampNeg p1
      · cases it_t c21 h
      replace h := it_f c21 h
      refine r_iald hC hP (f := C.1 88) (e_88 G _) c21 dX11_canSlip_25 ?_
      refine lv_ineg hx hb dX11_canSlip_26 ?_
      refine lv_icmp_ne (tgt := 34) hx hb dX11_canSlip_27 (by decide) (fun c22 => ?_) (fun c22 => ?_)
      · replace h := it_f c22 h
        refine lv_iconst (v := 0) hx hb dX11_canSlip_34 (by decide) ?_
        exact re_z' hC hr hP hS PZ0 (Option.some.inj h) rfl dX11_canSlip_35
      · replace h := it_t c22 h
        refine lv_iconst (v := 1) hx hb dX11_canSlip_30 (by decide) ?_
        refine lv_goto (tgt := 35) hx hb dX11_canSlip_31 (by decide) ?_
        exact re_z' hC hr hP hS PZ1 (Option.some.inj h) rfl dX11_canSlip_35
set_option maxHeartbeats 4000000 in
set_option maxRecDepth 100000 in
theorem mX11_slipsOf (l : Launch) (G : gp) (Cm : Mm) {n : Nat} {p1 : Int32} {C : Mm} {r0 : Int32} (h : fX11_slipsOf n p1 C = some r0) : Met l yX11_slipsOf (wsy yX11_slipsOf cX11_slipsOf 4 (some .int)) (rmv 2 45) (va_Pc [.ref (gA G 72), .int p1] (Rl G (Cm, C))) (Qi G PT r0 (Cm, C)) 0 0 (lwA G) := by
  refine met_i [.ref (gA G 72), .int p1] wX11_slipsOf.2.2.2.2.2 (Nat.le_of_ble_eq_true rfl) ?_
  intro p e s m args below meth c ls hC hr hP hl
  have hC : Cx G p s m args meth c cX11_slipsOf RX11 4 := hC
  have hx := hC.1
  have hb := hC.2.1
  have hown := hC.2.2.2.1
  have hts := hC.2.2.2.2.1
  have hS : va_S (lwA G) s.heap s.heap [] := va_S.rf
  have hl : lv_has ls 4 [(0, .ref (gA G 72)), (1, .int p1)] := hl
  have bl27 : ∀ (k4 : Int32 → Int32 → Int32 → Mm → Option Int32) (hk4 : ∀ (y1 : Int32) (y2 : Int32) (y3 : Int32) (C : Mm) (H : Heap) (locs : List Loc) (ls : Array Slot), k4 y1 y2 y3 C = some r0 → lv_has ls 4 [(0, .ref (gA G 72)), (1, .int y1), (2, .int y2), (3, .int y3)] → va_P (gD G) vwCl (wld G (Cm, C)) H → va_S (lwA G) s.heap H locs → W p l e (rmv 2 45) s m args below meth c H locs 0 0 (MQ below (Qi G PT r0 (Cm, C)) args s 0 0 (lwA G)) (F0 m 4 ls [])), ∀ (y1 : Int32) (y3 : Int32) (s0 : Int32) (s1 : Int32) (C : Mm) (H : Heap) (locs : List Loc) (ls : Array Slot), fX11_slipsOf_b27 n k4 y1 y3 s0 s1 C = some r0 → lv_has ls 4 [(0, .ref (gA G 72)), (1, .int y1), (3, .int y3)] → va_P (gD G) vwCl (wld G (Cm, C)) H → va_S (lwA G) s.heap H locs → W p l e (rmv 2 45) s m args below meth c H locs 0 0 (MQ below (Qi G PT r0 (Cm, C)) args s 0 0 (lwA G)) (F0 m 27 ls [.int s0, .int s1]) := by
    intro k4 hk4 y1 y3 s0 s1 C H locs ls h hl hP hS
    unfold fX11_slipsOf_b27 at h
    refine lv_iadd hx hb dX11_slipsOf_27 ?_
    refine lv_topi (fun x1 ex1 => ?_)
    replace h := lt_y ex1 h
    refine lv_istore_n (lv' := [(2, .int x1), (0, .ref (gA G 72)), (1, .int y1), (3, .int y3)]) hx hb dX11_slipsOf_28 rfl hl (by decide) rfl (fun ls hl => ?_)
    obtain ⟨x2, ex2⟩ : ∃ y : Int32, y = y3 + 1 := ⟨_, rfl⟩
    replace h := lt_y ex2 h
    refine lv_iinc (v := x2) (lv' := [(3, .int x2), (2, .int x1), (0, .ref (gA G 72)), (1, .int y1)]) hx hb dX11_slipsOf_29 hl (k := 3) rfl (by rw [ex2]; rfl) (by decide) rfl (fun ls hl => ?_)
    refine lv_goto (tgt := 4) hx hb dX11_slipsOf_32 (by decide) ?_
    exact hk4 y1 x1 x2 C _ _ _ h (lv_sub hl [2, 3, 1, 0] rfl) hP hS
  have bl4 : ∀ (fu : Nat), ∀ (y1 : Int32) (y2 : Int32) (y3 : Int32) (C : Mm) (H : Heap) (locs : List Loc) (ls : Array Slot), fX11_slipsOf_h4 n fu y1 y2 y3 C = some r0 → lv_has ls 4 [(0, .ref (gA G 72)), (1, .int y1), (2, .int y2), (3, .int y3)] → va_P (gD G) vwCl (wld G (Cm, C)) H → va_S (lwA G) s.heap H locs → W p l e (rmv 2 45) s m args below meth c H locs 0 0 (MQ below (Qi G PT r0 (Cm, C)) args s 0 0 (lwA G)) (F0 m 4 ls []) := by
    intro fu
    induction fu with
    | zero =>
      intro y1 y2 y3 C H locs ls h hl hP hS
      rw [fX11_slipsOf_h4.eq_1] at h
      cases h
    | succ fu ih =>
      intro y1 y2 y3 C H locs ls h hl hP hS
      rw [fX11_slipsOf_h4.eq_2] at h
      refine lv_iload_n hx hb dX11_slipsOf_4 rfl (lv_at hl 3 rfl) ?_
      refine lv_aload_n hx hb dX11_slipsOf_5 rfl (lv_at hl 0 rfl) ?_
      refine r_get (v := .int (C.1 72 21)) hC inX11 hP (e_72 G _) rfl 21 (by decide) rfl k1071 rfl dX11_slipsOf_6 ?_
      refine lv_icmp_ge (tgt := 35) hx hb dX11_slipsOf_9 (by decide) (fun c3 => ?_) (fun c3 => ?_)
      · replace h := it_t c3 h
        refine lv_iload_n hx hb dX11_slipsOf_35 rfl (lv_at hl 2 rfl) ?_
        exact re_i' hC hr hP hS (Option.some.inj h) rfl dX11_slipsOf_36
      · replace h := it_f c3 h
        refine lv_iload_n hx hb dX11_slipsOf_12 rfl (lv_at hl 2 rfl) ?_
        refine lv_aload_n hx hb dX11_slipsOf_13 rfl (lv_at hl 0 rfl) ?_
        refine lv_iload_n hx hb dX11_slipsOf_14 rfl (lv_at hl 3 rfl) ?_
        refine lv_iload_n hx hb dX11_slipsOf_15 rfl (lv_at hl 1 rfl) ?_
        obtain ⟨r5, hq4, h⟩ := bn_x h
        refine rc_i hS (run_V hC wX11_canSlip k1475 (e_72 G _) rfl hP hS (As := [.int y3, .int y1]) (rest := [.int y2]) (mX11_canSlip l G Cm hq4) rfl hl.1 (Nat.le_of_ble_eq_true rfl) ⟨by decide, by decide⟩ ⟨Nat.le_refl _, Nat.le_refl _⟩ rfl dX11_slipsOf_16) (fun H locs pb6 hP hS => ?_)
        refine lv_if_eq (tgt := 26) hx hb dX11_slipsOf_19 (by decide) (fun c7 => ?_) (fun c7 => ?_)
        · replace h := it_t c7 h
          refine lv_iconst (v := 0) hx hb dX11_slipsOf_26 (by decide) ?_
          exact bl27 (fX11_slipsOf_h4 n fu) ih y1 y3 0 y2 C _ _ _ h (lv_sub hl [0, 1, 3] rfl) hP hS
        · replace h := it_f c7 h
          refine lv_iconst (v := 1) hx hb dX11_slipsOf_22 (by decide) ?_
          refine lv_goto (tgt := 27) hx hb dX11_slipsOf_23 (by decide) ?_
          exact bl27 (fX11_slipsOf_h4 n fu) ih y1 y3 1 y2 C _ _ _ h (lv_sub hl [0, 1, 3] rfl) hP hS
  unfold fX11_slipsOf at h
  refine lv_iconst (v := 0) hx hb dX11_slipsOf_0 (by decide) ?_
  refine lv_istore_n (lv' := [(2, .int 0), (0, .ref (gA G 72)), (1, .int p1)]) hx hb dX11_slipsOf_1 rfl hl (by decide) rfl (fun ls hl => ?_)
  refine lv_iconst (v := 0) hx hb dX11_slipsOf_2 (by decide) ?_
  refine lv_istore_n (lv' := [(3, .int 0), (2, .int 0), (0, .ref (gA G 72)), (1, .int p1)]) hx hb dX11_slipsOf_3 rfl hl (by decide) rfl (fun ls hl => ?_)
  exact bl4 n p1 0 0 C _ _ _ h (lv_sub hl [2, 3, 1, 0] rfl) hP hS
set_option maxHeartbeats 4000000 in
set_option maxRecDepth 100000 in
theorem mX11_doesFit (l : Launch) (G : gp) (Cm : Mm) {n : Nat} {p1 : Int32} {p2 : Int32} {p3 : Int32} {C : Mm} {r0 : Int32} {C0 : Mm} (h : fX11_doesFit n p1 p2 p3 C = some (r0, C0)) : Met l yX11_doesFit (wsy yX11_doesFit cX11_doesFit 5 (some .boolean)) (rmv 6 149) (va_Pc [.ref (gA G 72), .int p1, .int p2, .int p3] (Rl G (Cm, C))) (Qi G PZ r0 (Cm, C0)) 0 0 (lwA G) := by
  refine met_i [.ref (gA G 72), .int p1, .int p2, .int p3] wX11_doesFit.2.2.2.2.2 (Nat.le_of_ble_eq_true rfl) ?_
  intro p e s m args below meth c ls hC hr hP hl
  have hC : Cx G p s m args meth c cX11_doesFit RX11 5 := hC
  have hx := hC.1
  have hb := hC.2.1
  have hown := hC.2.2.2.1
  have hts := hC.2.2.2.2.1
  have hS : va_S (lwA G) s.heap s.heap [] := va_S.rf
  have hl : lv_has ls 5 [(0, .ref (gA G 72)), (1, .int p1), (2, .int p2), (3, .int p3)] := hl
  have bl74 : ∀ (k3 : Int32 → Int32 → Int32 → Int32 → Mm → Option (Int32 × Mm)) (hk3 : ∀ (y1 : Int32) (y2 : Int32) (y3 : Int32) (y4 : Int32) (C : Mm) (H : Heap) (locs : List Loc) (ls : Array Slot), k3 y1 y2 y3 y4 C = some (r0, C0) → lv_has ls 5 [(0, .ref (gA G 72)), (1, .int y1), (2, .int y2), (3, .int y3), (4, .int y4)] → va_P (gD G) vwCl (wld G (Cm, C)) H → va_S (lwA G) s.heap H locs → W p l e (rmv 6 149) s m args below meth c H locs 0 0 (MQ below (Qi G PZ r0 (Cm, C0)) args s 0 0 (lwA G)) (F0 m 3 ls [])), ∀ (y1 : Int32) (y2 : Int32) (y3 : Int32) (y4 : Int32) (C : Mm) (H : Heap) (locs : List Loc) (ls : Array Slot), fX11_doesFit_b74 n k3 y1 y2 y3 y4 C = some (r0, C0) → lv_has ls 5 [(0, .ref (gA G 72)), (1, .int y1), (2, .int y2), (3, .int y3), (4, .int y4)] → va_P (gD G) vwCl (wld G (Cm, C)) H → va_S (lwA G) s.heap H locs → W p l e (rmv 6 149) s m args below meth c H locs 0 0 (MQ below (Qi G PZ r0 (Cm, C0)) args s 0 0 (lwA G)) (F0 m 74 ls []) := by
    intro k3 hk3 y1 y2 y3 y4 C H locs ls h hl hP hS
    unfold fX11_doesFit_b74 at h
    obtain ⟨x1, ex1⟩ : ∃ y : Int32, y = y4 + 1 := ⟨_, rfl⟩
    replace h := lt_y ex1 h
    refine lv_iinc (v := x1) (lv' := [(4, .int x1), (0, .ref (gA G 72)), (1, .int y1), (2, .int y2), (3, .int y3)]) hx hb dX11_doesFit_74 hl (k := 4) rfl (by rw [ex1]; rfl) (by decide) rfl (fun ls hl => ?_)
    refine lv_goto (tgt := 3) hx hb dX11_doesFit_77 (by decide) ?_
    exact hk3 y1 y2 y3 x1 C _ _ _ h (lv_sub hl [1, 2, 3, 4, 0] rfl) hP hS
  have bl3 : ∀ (fu : Nat), ∀ (y1 : Int32) (y2 : Int32) (y3 : Int32) (y4 : Int32) (C : Mm) (H : Heap) (locs : List Loc) (ls : Array Slot), fX11_doesFit_h3 n fu y1 y2 y3 y4 C = some (r0, C0) → lv_has ls 5 [(0, .ref (gA G 72)), (1, .int y1), (2, .int y2), (3, .int y3), (4, .int y4)] → va_P (gD G) vwCl (wld G (Cm, C)) H → va_S (lwA G) s.heap H locs → W p l e (rmv 6 149) s m args below meth c H locs 0 0 (MQ below (Qi G PZ r0 (Cm, C0)) args s 0 0 (lwA G)) (F0 m 3 ls []) := by
    intro fu
    induction fu with
    | zero =>
      intro y1 y2 y3 y4 C H locs ls h hl hP hS
      rw [fX11_doesFit_h3.eq_1] at h
      cases h
    | succ fu ih =>
      intro y1 y2 y3 y4 C H locs ls h hl hP hS
      rw [fX11_doesFit_h3.eq_2] at h
      refine lv_iload hx hb dX11_doesFit_3 (lv_at hl 4 rfl) ?_
      refine lv_aload_n hx hb dX11_doesFit_5 rfl (lv_at hl 0 rfl) ?_
      refine r_get (v := .int (C.1 72 33)) hC inX11 hP (e_72 G _) rfl 33 (by decide) rfl k1083 rfl dX11_doesFit_6 ?_
      refine lv_icmp_ge (tgt := 80) hx hb dX11_doesFit_9 (by decide) (fun c2 => ?_) (fun c2 => ?_)
      · replace h := it_t c2 h
        refine lv_iconst (v := 1) hx hb dX11_doesFit_80 (by decide) ?_
        exact re_z' hC hr hP hS PZ1 (pr_1 h) (congrArg (fun Z : Mm => (Cm, Z)) (pr_2 h)) dX11_doesFit_81
      · replace h := it_f c2 h
        refine lv_aload_n hx hb dX11_doesFit_12 rfl (lv_at hl 0 rfl) ?_
        refine lv_iload_n hx hb dX11_doesFit_13 rfl (lv_at hl 1 rfl) ?_
        refine lv_iload_n hx hb dX11_doesFit_14 rfl (lv_at hl 2 rfl) ?_
        refine lv_aload_n hx hb dX11_doesFit_15 rfl (lv_at hl 0 rfl) ?_
        refine r_get (v := .ref (gA G 91)) hC inX11 hP (e_72 G _) rfl 34 (by decide) rfl k1084 rfl dX11_doesFit_16 ?_
        refine lv_iload hx hb dX11_doesFit_19 (lv_at hl 4 rfl) ?_
        by_cases c3 : y4 < (0 : Int32) ∨ 40 ≤ Int32.toNatClampNeg y4
        · cases it_t c3 h
        replace h := it_f c3 h
        refine r_iald hC hP (f := C.1 91) (e_91 G _) c3 dX11_doesFit_21 ?_
        refine lv_iconst (v := 0) hx hb dX11_doesFit_22 (by decide) ?_
        obtain ⟨r5, C6, hq4, h⟩ := bp_x h
        refine rc_i hS (run_V hC wX11_layOut k1344 (e_72 G _) rfl hP hS (As := [.int y1, .int y2, .int (C.1 91 (Int32.toNatClampNeg y4)), .int 0]) (rest := []) (mX11_layOut l G Cm hq4) rfl hl.1 (Nat.le_of_ble_eq_true rfl) ⟨by decide, by decide⟩ ⟨Nat.le_refl _, Nat.le_refl _⟩ rfl dX11_doesFit_23) (fun H locs pb7 hP hS => ?_)
        refine lv_if_eq (tgt := 48) hx hb dX11_doesFit_26 (by decide) (fun c8 => ?_) (fun c8 => ?_)
        · replace h := it_t c8 h
          refine lv_iconst (v := 0) hx hb dX11_doesFit_48 (by decide) ?_
          exact re_z' hC hr hP hS PZ0 (pr_1 h) (congrArg (fun Z : Mm => (Cm, Z)) (pr_2 h)) dX11_doesFit_49
        · replace h := it_f c8 h
          refine lv_aload_n hx hb dX11_doesFit_29 rfl (lv_at hl 0 rfl) ?_
          obtain ⟨r10, hq9, h⟩ := bn_x h
          refine rc_i hS (run_V hC wX11_seconds k1400 (e_72 G _) rfl hP hS (As := []) (rest := []) (mX11_seconds l G Cm hq9) rfl hl.1 (Nat.le_of_ble_eq_true rfl) ⟨by decide, by decide⟩ ⟨Nat.le_refl _, Nat.le_refl _⟩ rfl dX11_doesFit_30) (fun H locs pb11 hP hS => ?_)
          refine lv_aload_n hx hb dX11_doesFit_33 rfl (lv_at hl 0 rfl) ?_
          refine r_get (v := .ref (gA G 92)) hC inX11 hP (e_72 G _) rfl 35 (by decide) rfl k1085 rfl dX11_doesFit_34 ?_
          refine lv_iload hx hb dX11_doesFit_37 (lv_at hl 4 rfl) ?_
          by_cases c12 : y4 < (0 : Int32) ∨ 40 ≤ Int32.toNatClampNeg y4
          · cases it_t c12 h
          replace h := it_f c12 h
          refine r_iald hC hP (f := C6.1 92) (e_92 G _) c12 dX11_doesFit_39 ?_
          refine lv_isub hx hb dX11_doesFit_40 ?_
          refine rc_i hS (run_S hC wX11_size k1393 hP hS (As := [.int (r10 - (C6.1 92 (Int32.toNatClampNeg y4)))]) (rest := []) (mX11_size l G Cm rfl) rfl hl.1 (Nat.le_of_ble_eq_true rfl) ⟨by decide, by decide⟩ ⟨Nat.le_refl _, Nat.le_refl _⟩ rfl dX11_doesFit_41) (fun H locs pb14 hP hS => ?_)
          refine lv_iload_n hx hb dX11_doesFit_44 rfl (lv_at hl 3 rfl) ?_
          refine lv_icmp_le (tgt := 50) hx hb dX11_doesFit_45 (by decide) (fun c15 => ?_) (fun c15 => ?_)
          · replace h := it_t c15 h
            refine lv_aload_n hx hb dX11_doesFit_50 rfl (lv_at hl 0 rfl) ?_
            refine lv_iload hx hb dX11_doesFit_51 (lv_at hl 4 rfl) ?_
            obtain ⟨r17, hq16, h⟩ := bn_x h
            refine rc_i hS (run_V hC wX11_offBy k1459 (e_72 G _) rfl hP hS (As := [.int y4]) (rest := []) (mX11_offBy l G Cm hq16) rfl hl.1 (Nat.le_of_ble_eq_true rfl) ⟨by decide, by decide⟩ ⟨Nat.le_refl _, Nat.le_refl _⟩ rfl dX11_doesFit_53) (fun H locs pb18 hP hS => ?_)
            refine lv_if_eq (tgt := 74) hx hb dX11_doesFit_56 (by decide) (fun c19 => ?_) (fun c19 => ?_)
            · replace h := it_t c19 h
              exact bl74 (fX11_doesFit_h3 n fu) ih y1 y2 y3 y4 C6 _ _ _ h (lv_sub hl [0, 1, 2, 3, 4] rfl) hP hS
            · replace h := it_f c19 h
              refine lv_aload_n hx hb dX11_doesFit_59 rfl (lv_at hl 0 rfl) ?_
              refine lv_aload_n hx hb dX11_doesFit_60 rfl (lv_at hl 0 rfl) ?_
              refine lv_iload hx hb dX11_doesFit_61 (lv_at hl 4 rfl) ?_
              obtain ⟨r21, hq20, h⟩ := bn_x h
              refine rc_i hS (run_V hC wX11_offBy k1459 (e_72 G _) rfl hP hS (As := [.int y4]) (rest := [.ref (gA G 72)]) (mX11_offBy l G Cm hq20) rfl hl.1 (Nat.le_of_ble_eq_true rfl) ⟨by decide, by decide⟩ ⟨Nat.le_refl _, Nat.le_refl _⟩ rfl dX11_doesFit_63) (fun H locs pb22 hP hS => ?_)
              obtain ⟨r24, hq23, h⟩ := bn_x h
              refine rc_i hS (run_V hC wX11_slipsOf k1471 (e_72 G _) rfl hP hS (As := [.int r21]) (rest := []) (mX11_slipsOf l G Cm hq23) rfl hl.1 (Nat.le_of_ble_eq_true rfl) ⟨by decide, by decide⟩ ⟨Nat.le_refl _, Nat.le_refl _⟩ rfl dX11_doesFit_66) (fun H locs pb25 hP hS => ?_)
              refine lv_if_ne (tgt := 74) hx hb dX11_doesFit_69 (by decide) (fun c26 => ?_) (fun c26 => ?_)
              · replace h := it_f c26 h
                exact bl74 (fX11_doesFit_h3 n fu) ih y1 y2 y3 y4 C6 _ _ _ h (lv_sub hl [0, 1, 2, 3, 4] rfl) hP hS
              · replace h := it_t c26 h
                refine lv_iconst (v := 0) hx hb dX11_doesFit_72 (by decide) ?_
                exact re_z' hC hr hP hS PZ0 (pr_1 h) (congrArg (fun Z : Mm => (Cm, Z)) (pr_2 h)) dX11_doesFit_73
          · replace h := it_f c15 h
            refine lv_iconst (v := 0) hx hb dX11_doesFit_48 (by decide) ?_
            exact re_z' hC hr hP hS PZ0 (pr_1 h) (congrArg (fun Z : Mm => (Cm, Z)) (pr_2 h)) dX11_doesFit_49
  unfold fX11_doesFit at h
  refine lv_iconst (v := 0) hx hb dX11_doesFit_0 (by decide) ?_
  refine lv_istore (lv' := [(4, .int 0), (0, .ref (gA G 72)), (1, .int p1), (2, .int p2), (3, .int p3)]) hx hb dX11_doesFit_1 hl (by decide) rfl (fun ls hl => ?_)
  exact bl3 n p1 p2 p3 0 C _ _ _ h (lv_sub hl [1, 2, 3, 4, 0] rfl) hP hS
set_option maxHeartbeats 4000000 in
set_option maxRecDepth 100000 in
theorem mX11_fits (l : Launch) (G : gp) (Cm : Mm) {n : Nat} {p1 : Int32} {p2 : Int32} {C : Mm} {r0 : Int32} {C0 : Mm} (h : fX11_fits n p1 p2 C = some (r0, C0)) : Met l yX11_fits (wsy yX11_fits cX11_fits 5 (some .int)) (rmv 7 173) (va_Pc [.ref (gA G 72), .int p1, .int p2] (Rl G (Cm, C))) (Qi G PT r0 (Cm, C0)) 0 0 (lwA G) := by
  refine met_i [.ref (gA G 72), .int p1, .int p2] wX11_fits.2.2.2.2.2 (Nat.le_of_ble_eq_true rfl) ?_
  intro p e s m args below meth c ls hC hr hP hl
  have hC : Cx G p s m args meth c cX11_fits RX11 5 := hC
  have hx := hC.1
  have hb := hC.2.1
  have hown := hC.2.2.2.1
  have hts := hC.2.2.2.2.1
  have hS : va_S (lwA G) s.heap s.heap [] := va_S.rf
  have hl : lv_has ls 5 [(0, .ref (gA G 72)), (1, .int p1), (2, .int p2)] := hl
  have bl64 : ∀ (k37 : Int32 → Int32 → Int32 → Int32 → Mm → Option (Int32 × Mm)) (hk37 : ∀ (y1 : Int32) (y2 : Int32) (y3 : Int32) (y4 : Int32) (C : Mm) (H : Heap) (locs : List Loc) (ls : Array Slot), k37 y1 y2 y3 y4 C = some (r0, C0) → lv_has ls 5 [(0, .ref (gA G 72)), (1, .int y1), (2, .int y2), (3, .int y3), (4, .int y4)] → va_P (gD G) vwCl (wld G (Cm, C)) H → va_S (lwA G) s.heap H locs → W p l e (rmv 7 173) s m args below meth c H locs 0 0 (MQ below (Qi G PT r0 (Cm, C0)) args s 0 0 (lwA G)) (F0 m 37 ls [])), ∀ (y1 : Int32) (y2 : Int32) (y4 : Int32) (s0 : Int32) (s1 : Int32) (C : Mm) (H : Heap) (locs : List Loc) (ls : Array Slot), fX11_fits_b64 n k37 y1 y2 y4 s0 s1 C = some (r0, C0) → lv_has ls 5 [(0, .ref (gA G 72)), (1, .int y1), (2, .int y2), (4, .int y4)] → va_P (gD G) vwCl (wld G (Cm, C)) H → va_S (lwA G) s.heap H locs → W p l e (rmv 7 173) s m args below meth c H locs 0 0 (MQ below (Qi G PT r0 (Cm, C0)) args s 0 0 (lwA G)) (F0 m 64 ls [.int s0, .int s1]) := by
    intro k37 hk37 y1 y2 y4 s0 s1 C H locs ls h hl hP hS
    unfold fX11_fits_b64 at h
    refine lv_ior hx hb dX11_fits_64 ?_
    refine lv_topi (fun x1 ex1 => ?_)
    replace h := lt_y ex1 h
    refine lv_istore_n (lv' := [(3, .int x1), (0, .ref (gA G 72)), (1, .int y1), (2, .int y2), (4, .int y4)]) hx hb dX11_fits_65 rfl hl (by decide) rfl (fun ls hl => ?_)
    obtain ⟨x2, ex2⟩ : ∃ y : Int32, y = y4 + 1 := ⟨_, rfl⟩
    replace h := lt_y ex2 h
    refine lv_iinc (v := x2) (lv' := [(4, .int x2), (3, .int x1), (0, .ref (gA G 72)), (1, .int y1), (2, .int y2)]) hx hb dX11_fits_66 hl (k := 4) rfl (by rw [ex2]; rfl) (by decide) rfl (fun ls hl => ?_)
    refine lv_goto (tgt := 37) hx hb dX11_fits_69 (by decide) ?_
    exact hk37 y1 y2 x1 x2 C _ _ _ h (lv_sub hl [2, 3, 4, 1, 0] rfl) hP hS
  have bl37 : ∀ (fu : Nat), ∀ (y1 : Int32) (y2 : Int32) (y3 : Int32) (y4 : Int32) (C : Mm) (H : Heap) (locs : List Loc) (ls : Array Slot), fX11_fits_h37 n fu y1 y2 y3 y4 C = some (r0, C0) → lv_has ls 5 [(0, .ref (gA G 72)), (1, .int y1), (2, .int y2), (3, .int y3), (4, .int y4)] → va_P (gD G) vwCl (wld G (Cm, C)) H → va_S (lwA G) s.heap H locs → W p l e (rmv 7 173) s m args below meth c H locs 0 0 (MQ below (Qi G PT r0 (Cm, C0)) args s 0 0 (lwA G)) (F0 m 37 ls []) := by
    intro fu
    induction fu with
    | zero =>
      intro y1 y2 y3 y4 C H locs ls h hl hP hS
      rw [fX11_fits_h37.eq_1] at h
      cases h
    | succ fu ih =>
      intro y1 y2 y3 y4 C H locs ls h hl hP hS
      rw [fX11_fits_h37.eq_2] at h
      refine lv_iload hx hb dX11_fits_37 (lv_at hl 4 rfl) ?_
      refine lv_bipush (v := 7) hx hb dX11_fits_39 (by decide) ?_
      refine lv_icmp_ge (tgt := 72) hx hb dX11_fits_41 (by decide) (fun c3 => ?_) (fun c3 => ?_)
      · replace h := it_t c3 h
        refine lv_iload_n hx hb dX11_fits_72 rfl (lv_at hl 3 rfl) ?_
        exact re_i' hC hr hP hS (pr_1 h) (congrArg (fun Z : Mm => (Cm, Z)) (pr_2 h)) dX11_fits_73
      · replace h := it_f c3 h
        refine lv_iload_n hx hb dX11_fits_44 rfl (lv_at hl 3 rfl) ?_
        refine lv_aload_n hx hb dX11_fits_45 rfl (lv_at hl 0 rfl) ?_
        refine lv_iload_n hx hb dX11_fits_46 rfl (lv_at hl 1 rfl) ?_
        refine lv_iload hx hb dX11_fits_47 (lv_at hl 4 rfl) ?_
        refine lv_iload_n hx hb dX11_fits_49 rfl (lv_at hl 2 rfl) ?_
        obtain ⟨r5, C6, hq4, h⟩ := bp_x h
        refine rc_i hS (run_V hC wX11_doesFit k1467 (e_72 G _) rfl hP hS (As := [.int y1, .int y4, .int y2]) (rest := [.int y3]) (mX11_doesFit l G Cm hq4) rfl hl.1 (Nat.le_of_ble_eq_true rfl) ⟨by decide, by decide⟩ ⟨Nat.le_refl _, Nat.le_refl _⟩ rfl dX11_fits_50) (fun H locs pb7 hP hS => ?_)
        refine lv_if_eq (tgt := 63) hx hb dX11_fits_53 (by decide) (fun c8 => ?_) (fun c8 => ?_)
        · replace h := it_t c8 h
          refine lv_iconst (v := 0) hx hb dX11_fits_63 (by decide) ?_
          exact bl64 (fX11_fits_h37 n fu) ih y1 y2 y4 0 y3 C6 _ _ _ h (lv_sub hl [0, 1, 2, 4] rfl) hP hS
        · replace h := it_f c8 h
          refine lv_iconst (v := 1) hx hb dX11_fits_56 (by decide) ?_
          refine lv_iload hx hb dX11_fits_57 (lv_at hl 4 rfl) ?_
          refine lv_ishl hx hb dX11_fits_59 ?_
          refine lv_goto (tgt := 64) hx hb dX11_fits_60 (by decide) ?_
          exact bl64 (fX11_fits_h37 n fu) ih y1 y2 y4 (1 <<< (y4 &&& 31)) y3 C6 _ _ _ h (lv_sub hl [0, 1, 2, 4] rfl) hP hS
  unfold fX11_fits at h
  refine lv_aload_n hx hb dX11_fits_0 rfl (lv_at hl 0 rfl) ?_
  refine lv_iload_n hx hb dX11_fits_1 rfl (lv_at hl 1 rfl) ?_
  refine rc_i hS (run_V hC wX11_isHead k1297 (e_72 G _) rfl hP hS (As := [.int p1]) (rest := []) (mX11_isHead l G Cm rfl) rfl hl.1 (Nat.le_of_ble_eq_true rfl) ⟨by decide, by decide⟩ ⟨Nat.le_refl _, Nat.le_refl _⟩ rfl dX11_fits_2) (fun H locs pb10 hP hS => ?_)
  refine lv_if_eq (tgt := 20) hx hb dX11_fits_5 (by decide) (fun c11 => ?_) (fun c11 => ?_)
  · replace h := it_t c11 h
    refine lv_iconst (v := (-1)) hx hb dX11_fits_20 (by decide) ?_
    exact re_i' hC hr hP hS (pr_1 h) (congrArg (fun Z : Mm => (Cm, Z)) (pr_2 h)) dX11_fits_21
  · replace h := it_f c11 h
    refine lv_iload_n hx hb dX11_fits_8 rfl (lv_at hl 2 rfl) ?_
    refine lv_i2l hx hb dX11_fits_9 rfl ?_
    refine lv_lconst (v := 0) hx hb dX11_fits_10 (by decide) ?_
    refine lv_ldc2 hx hb (v := 9999) hown (hts _ k1320) dX11_fits_11 ?_
    refine rc_i hS (run_S hC wX11_within k1229 hP hS (As := [.long (Int32.toInt64 p2), .long 0, .long 9999]) (rest := []) (mX11_within l G Cm rfl) rfl hl.1 (Nat.le_of_ble_eq_true rfl) ⟨by decide, by decide⟩ ⟨Nat.le_refl _, Nat.le_refl _⟩ rfl dX11_fits_14) (fun H locs pb13 hP hS => ?_)
    refine lv_if_ne (tgt := 22) hx hb dX11_fits_17 (by decide) (fun c14 => ?_) (fun c14 => ?_)
    · replace h := it_f c14 h
      refine lv_aload_n hx hb dX11_fits_22 rfl (lv_at hl 0 rfl) ?_
      refine r_get (v := .int (C.1 72 33)) hC inX11 hP (e_72 G _) rfl 33 (by decide) rfl k1083 rfl dX11_fits_23 ?_
      refine lv_if_ne (tgt := 32) hx hb dX11_fits_26 (by decide) (fun c15 => ?_) (fun c15 => ?_)
      · replace h := it_f c15 h
        refine lv_iconst (v := 0) hx hb dX11_fits_32 (by decide) ?_
        refine lv_istore_n (lv' := [(3, .int 0), (0, .ref (gA G 72)), (1, .int p1), (2, .int p2)]) hx hb dX11_fits_33 rfl hl (by decide) rfl (fun ls hl => ?_)
        refine lv_iconst (v := 0) hx hb dX11_fits_34 (by decide) ?_
        refine lv_istore (lv' := [(4, .int 0), (3, .int 0), (0, .ref (gA G 72)), (1, .int p1), (2, .int p2)]) hx hb dX11_fits_35 hl (by decide) rfl (fun ls hl => ?_)
        exact bl37 n p1 p2 0 0 C _ _ _ h (lv_sub hl [2, 3, 4, 1, 0] rfl) hP hS
      · replace h := it_t c15 h
        refine lv_bipush (v := (-5)) hx hb dX11_fits_29 (by decide) ?_
        exact re_i' hC hr hP hS (pr_1 h) (congrArg (fun Z : Mm => (Cm, Z)) (pr_2 h)) dX11_fits_31
    · replace h := it_t c14 h
      refine lv_iconst (v := (-1)) hx hb dX11_fits_20 (by decide) ?_
      exact re_i' hC hr hP hS (pr_1 h) (congrArg (fun Z : Mm => (Cm, Z)) (pr_2 h)) dX11_fits_21
set_option maxHeartbeats 4000000 in
set_option maxRecDepth 100000 in
theorem mX11_offSum (l : Launch) (G : gp) (Cm : Mm) {n : Nat} {p1 : Int32} {p2 : Int32} {C : Mm} {r0 : Int32} {C0 : Mm} (h : fX11_offSum n p1 p2 C = some (r0, C0)) : Met l yX11_offSum (wsy yX11_offSum cX11_offSum 7 (some .int)) (rmv 82 1875) (va_Pc [.ref (gA G 72), .int p1, .int p2] (Rl G (Cm, C))) (Qi G PT r0 (Cm, C0)) 0 0 (lwA G) := by
  refine met_i [.ref (gA G 72), .int p1, .int p2] wX11_offSum.2.2.2.2.2 (Nat.le_of_ble_eq_true rfl) ?_
  intro p e s m args below meth c ls hC hr hP hl
  have hC : Cx G p s m args meth c cX11_offSum RX11 7 := hC
  have hx := hC.1
  have hb := hC.2.1
  have hown := hC.2.2.2.1
  have hts := hC.2.2.2.2.1
  have hS : va_S (lwA G) s.heap s.heap [] := va_S.rf
  have hl : lv_has ls 7 [(0, .ref (gA G 72)), (1, .int p1), (2, .int p2)] := hl
  have bl57 : ∀ (k5 : Int32 → Int32 → Int32 → Int32 → Mm → Option (Int32 × Mm)) (hk5 : ∀ (y1 : Int32) (y2 : Int32) (y3 : Int32) (y4 : Int32) (C : Mm) (H : Heap) (locs : List Loc) (ls : Array Slot), k5 y1 y2 y3 y4 C = some (r0, C0) → lv_has ls 7 [(0, .ref (gA G 72)), (1, .int y1), (2, .int y2), (3, .int y3), (4, .int y4)] → va_P (gD G) vwCl (wld G (Cm, C)) H → va_S (lwA G) s.heap H locs → W p l e (rmv 82 1875) s m args below meth c H locs 0 0 (MQ below (Qi G PT r0 (Cm, C0)) args s 0 0 (lwA G)) (F0 m 5 ls [])), ∀ (y1 : Int32) (y2 : Int32) (y3 : Int32) (y4 : Int32) (y5 : Int32) (C : Mm) (H : Heap) (locs : List Loc) (ls : Array Slot), fX11_offSum_b57 n k5 y1 y2 y3 y4 y5 C = some (r0, C0) → lv_has ls 7 [(0, .ref (gA G 72)), (1, .int y1), (2, .int y2), (3, .int y3), (4, .int y4), (5, .int y5)] → va_P (gD G) vwCl (wld G (Cm, C)) H → va_S (lwA G) s.heap H locs → W p l e (rmv 82 1875) s m args below meth c H locs 0 0 (MQ below (Qi G PT r0 (Cm, C0)) args s 0 0 (lwA G)) (F0 m 57 ls []) := by
    intro k5 hk5 y1 y2 y3 y4 y5 C H locs ls h hl hP hS
    unfold fX11_offSum_b57 at h
    refine lv_iload hx hb dX11_offSum_57 (lv_at hl 5 rfl) ?_
    refine lv_if_ne (tgt := 64) hx hb dX11_offSum_59 (by decide) (fun c1 => ?_) (fun c1 => ?_)
    · replace h := it_f c1 h
      refine lv_iload_n hx hb dX11_offSum_64 rfl (lv_at hl 3 rfl) ?_
      refine lv_aload_n hx hb dX11_offSum_65 rfl (lv_at hl 0 rfl) ?_
      obtain ⟨r3, hq2, h⟩ := bn_x h
      refine rc_i hS (run_V hC wX11_seconds k1400 (e_72 G _) rfl hP hS (As := []) (rest := [.int y3]) (mX11_seconds l G Cm hq2) rfl hl.1 (Nat.le_of_ble_eq_true rfl) ⟨by decide, by decide⟩ ⟨Nat.le_refl _, Nat.le_refl _⟩ rfl dX11_offSum_66) (fun H locs pb4 hP hS => ?_)
      refine lv_aload_n hx hb dX11_offSum_69 rfl (lv_at hl 0 rfl) ?_
      refine r_get (v := .ref (gA G 92)) hC inX11 hP (e_72 G _) rfl 35 (by decide) rfl k1085 rfl dX11_offSum_70 ?_
      refine lv_iload hx hb dX11_offSum_73 (lv_at hl 4 rfl) ?_
      by_cases c5 : y4 < (0 : Int32) ∨ 40 ≤ Int32.toNatClampNeg y4
      · cases it_t c5 h
      replace h := it_f c5 h
      refine r_iald hC hP (f := C.1 92) (e_92 G _) c5 dX11_offSum_75 ?_
      refine lv_isub hx hb dX11_offSum_76 ?_
      refine rc_i hS (run_S hC wX11_size k1393 hP hS (As := [.int (r3 - (C.1 92 (Int32.toNatClampNeg y4)))]) (rest := [.int y3]) (mX11_size l G Cm rfl) rfl hl.1 (Nat.le_of_ble_eq_true rfl) ⟨by decide, by decide⟩ ⟨Nat.le_refl _, Nat.le_refl _⟩ rfl dX11_offSum_77) (fun H locs pb7 hP hS => ?_)
      refine lv_iadd hx hb dX11_offSum_80 ?_
      refine lv_topi (fun x8 ex8 => ?_)
      replace h := lt_y ex8 h
      refine lv_istore_n (lv' := [(3, .int x8), (0, .ref (gA G 72)), (1, .int y1), (2, .int y2), (4, .int y4), (5, .int y5)]) hx hb dX11_offSum_81 rfl hl (by decide) rfl (fun ls hl => ?_)
      obtain ⟨x9, ex9⟩ : ∃ y : Int32, y = y4 + 1 := ⟨_, rfl⟩
      replace h := lt_y ex9 h
      refine lv_iinc (v := x9) (lv' := [(4, .int x9), (3, .int x8), (0, .ref (gA G 72)), (1, .int y1), (2, .int y2), (5, .int y5)]) hx hb dX11_offSum_82 hl (k := 4) rfl (by rw [ex9]; rfl) (by decide) rfl (fun ls hl => ?_)
      refine lv_goto (tgt := 5) hx hb dX11_offSum_85 (by decide) ?_
      exact hk5 y1 y2 x8 x9 C _ _ _ h (lv_sub hl [2, 3, 4, 1, 0] rfl) hP hS
    · replace h := it_t c1 h
      refine lv_iconst (v := (-1)) hx hb dX11_offSum_62 (by decide) ?_
      exact re_i' hC hr hP hS (pr_1 h) (congrArg (fun Z : Mm => (Cm, Z)) (pr_2 h)) dX11_offSum_63
  have bl5 : ∀ (fu : Nat), ∀ (y1 : Int32) (y2 : Int32) (y3 : Int32) (y4 : Int32) (C : Mm) (H : Heap) (locs : List Loc) (ls : Array Slot), fX11_offSum_h5 n fu y1 y2 y3 y4 C = some (r0, C0) → lv_has ls 7 [(0, .ref (gA G 72)), (1, .int y1), (2, .int y2), (3, .int y3), (4, .int y4)] → va_P (gD G) vwCl (wld G (Cm, C)) H → va_S (lwA G) s.heap H locs → W p l e (rmv 82 1875) s m args below meth c H locs 0 0 (MQ below (Qi G PT r0 (Cm, C0)) args s 0 0 (lwA G)) (F0 m 5 ls []) := by
    intro fu
    induction fu with
    | zero =>
      intro y1 y2 y3 y4 C H locs ls h hl hP hS
      rw [fX11_offSum_h5.eq_1] at h
      cases h
    | succ fu ih =>
      intro y1 y2 y3 y4 C H locs ls h hl hP hS
      rw [fX11_offSum_h5.eq_2] at h
      refine lv_iload hx hb dX11_offSum_5 (lv_at hl 4 rfl) ?_
      refine lv_aload_n hx hb dX11_offSum_7 rfl (lv_at hl 0 rfl) ?_
      refine r_get (v := .int (C.1 72 33)) hC inX11 hP (e_72 G _) rfl 33 (by decide) rfl k1083 rfl dX11_offSum_8 ?_
      refine lv_icmp_ge (tgt := 88) hx hb dX11_offSum_11 (by decide) (fun c10 => ?_) (fun c10 => ?_)
      · replace h := it_t c10 h
        refine lv_iload_n hx hb dX11_offSum_88 rfl (lv_at hl 3 rfl) ?_
        exact re_i' hC hr hP hS (pr_1 h) (congrArg (fun Z : Mm => (Cm, Z)) (pr_2 h)) dX11_offSum_89
      · replace h := it_f c10 h
        refine lv_iconst (v := 1) hx hb dX11_offSum_14 (by decide) ?_
        refine lv_istore (lv' := [(5, .int 1), (0, .ref (gA G 72)), (1, .int y1), (2, .int y2), (3, .int y3), (4, .int y4)]) hx hb dX11_offSum_15 hl (by decide) rfl (fun ls hl => ?_)
        refine lv_iload_n hx hb dX11_offSum_17 rfl (lv_at hl 3 rfl) ?_
        refine lv_bipush (v := 7) hx hb dX11_offSum_18 (by decide) ?_
        refine lv_icmp_ne (tgt := 41) hx hb dX11_offSum_20 (by decide) (fun c11 => ?_) (fun c11 => ?_)
        · replace h := it_f c11 h
          refine lv_aload_n hx hb dX11_offSum_41 rfl (lv_at hl 1 rfl) ?_
          refine lv_iload_n hx hb dX11_offSum_42 rfl (lv_at hl 2 rfl) ?_
          refine lv_iload_n hx hb dX11_offSum_43 rfl (lv_at hl 3 rfl) ?_
          refine lv_aload_n hx hb dX11_offSum_44 rfl (lv_at hl 1 rfl) ?_
          refine r_get (v := .ref (gA G 91)) hC inX11 hP (e_72 G _) rfl 34 (by decide) rfl k1084 rfl dX11_offSum_45 ?_
          refine lv_iload hx hb dX11_offSum_48 (lv_at hl 5 rfl) ?_
          by_cases c12 : y4 < (0 : Int32) ∨ 40 ≤ Int32.toNatClampNeg y4
          · cases it_t c12 h
          replace h := it_f c12 h
          refine r_iald hC hP (f := C.1 91) (e_91 G _) c12 dX11_offSum_50 ?_
          refine lv_iconst (v := 0) hx hb dX11_offSum_51 (by decide) ?_
          obtain ⟨r14, C15, hq13, h⟩ := bp_x h
          refine rc_i hS (run_V hC wX11_layOut k1344 (e_72 G _) rfl hP hS (As := [.int y1, .int y2, .int (C.1 91 (Int32.toNatClampNeg y4)), .int 0]) (rest := []) (mX11_layOut l G Cm hq13) rfl hl.1 (Nat.le_of_ble_eq_true rfl) ⟨by decide, by decide⟩ ⟨Nat.le_refl _, Nat.le_refl _⟩ rfl dX11_offSum_52) (fun H locs pb16 hP hS => ?_)
          refine lv_istore (lv' := [(5, .int r14), (0, .ref (gA G 72)), (1, .int y1), (2, .int y2), (3, .int y3), (4, .int y4)]) hx hb dX11_offSum_55 hl (by decide) rfl (fun ls hl => ?_)
          exact bl57 (fX11_offSum_h5 n fu) ih y1 y2 y3 y4 r14 C15 _ _ _ h (lv_sub hl [1, 2, 3, 4, 5, 0] rfl) hP hS
        · replace h := it_t c11 h
          refine lv_aload_n hx hb dX11_offSum_23 rfl (lv_at hl 1 rfl) ?_
          refine lv_iload_n hx hb dX11_offSum_24 rfl (lv_at hl 2 rfl) ?_
          refine lv_aload_n hx hb dX11_offSum_25 rfl (lv_at hl 1 rfl) ?_
          refine r_get (v := .ref (gA G 91)) hC inX11 hP (e_72 G _) rfl 34 (by decide) rfl k1084 rfl dX11_offSum_26 ?_
          refine lv_iload hx hb dX11_offSum_29 (lv_at hl 5 rfl) ?_
          by_cases c17 : y4 < (0 : Int32) ∨ 40 ≤ Int32.toNatClampNeg y4
          · cases it_t c17 h
          replace h := it_f c17 h
          refine r_iald hC hP (f := C.1 91) (e_91 G _) c17 dX11_offSum_31 ?_
          refine lv_iconst (v := 0) hx hb dX11_offSum_32 (by decide) ?_
          obtain ⟨r19, C20, hq18, h⟩ := bp_x h
          refine rc_i hS (run_V hC wX11_chosenBy k1418 (e_72 G _) rfl hP hS (As := [.int y1, .int (C.1 91 (Int32.toNatClampNeg y4)), .int 0]) (rest := []) (mX11_chosenBy l G Cm hq18) rfl hl.1 (Nat.le_of_ble_eq_true rfl) ⟨by decide, by decide⟩ ⟨Nat.le_refl _, Nat.le_refl _⟩ rfl dX11_offSum_33) (fun H locs pb21 hP hS => ?_)
          refine lv_istore (lv' := [(6, .int r19), (5, .int 1), (0, .ref (gA G 72)), (1, .int y1), (2, .int y2), (3, .int y3), (4, .int y4)]) hx hb dX11_offSum_36 hl (by decide) rfl (fun ls hl => ?_)
          refine lv_goto (tgt := 57) hx hb dX11_offSum_38 (by decide) ?_
          exact bl57 (fX11_offSum_h5 n fu) ih y1 y2 y3 y4 1 C20 _ _ _ h (lv_sub hl [2, 3, 4, 5, 6, 1] rfl) hP hS
  unfold fX11_offSum at h
  refine lv_iconst (v := 0) hx hb dX11_offSum_0 (by decide) ?_
  refine lv_istore_n (lv' := [(3, .int 0), (0, .ref (gA G 72)), (1, .int p1), (2, .int p2)]) hx hb dX11_offSum_1 rfl hl (by decide) rfl (fun ls hl => ?_)
  refine lv_iconst (v := 0) hx hb dX11_offSum_2 (by decide) ?_
  refine lv_istore (lv' := [(4, .int 0), (3, .int 0), (0, .ref (gA G 72)), (1, .int p1), (2, .int p2)]) hx hb dX11_offSum_3 hl (by decide) rfl (fun ls hl => ?_)
  exact bl5 n p1 p2 0 0 C _ _ _ h (lv_sub hl [2, 3, 4, 1, 0] rfl) hP hS
set_option maxHeartbeats 4000000 in
set_option maxRecDepth 100000 in
theorem mX11_best (l : Launch) (G : gp) (Cm : Mm) {n : Nat} {p1 : Int32} {p2 : Int32} {C : Mm} {r0 : Int32} {C0 : Mm} (h : fX11_best n p1 p2 C = some (r0, C0)) : Met l yX11_best (wsy yX11_best cX11_best 7 (some .int)) (rmv 83 1901) (va_Pc [.ref (gA G 72), .int p1, .int p2] (Rl G (Cm, C))) (Qi G PT r0 (Cm, C0)) 0 0 (lwA G) := by
  refine met_i [.ref (gA G 72), .int p1, .int p2] wX11_best.2.2.2.2.2 (Nat.le_of_ble_eq_true rfl) ?_
  intro p e s m args below meth c ls hC hr hP hl
  have hC : Cx G p s m args meth c cX11_best RX11 7 := hC
  have hx := hC.1
  have hb := hC.2.1
  have hown := hC.2.2.2.1
  have hts := hC.2.2.2.2.1
  have hS : va_S (lwA G) s.heap s.heap [] := va_S.rf
  have hl : lv_has ls 7 [(0, .ref (gA G 72)), (1, .int p1), (2, .int p2)] := hl
  have bl77 : ∀ (k38 : Int32 → Int32 → Int32 → Int32 → Int32 → Mm → Option (Int32 × Mm)) (hk38 : ∀ (y1 : Int32) (y2 : Int32) (y3 : Int32) (y4 : Int32) (y5 : Int32) (C : Mm) (H : Heap) (locs : List Loc) (ls : Array Slot), k38 y1 y2 y3 y4 y5 C = some (r0, C0) → lv_has ls 7 [(0, .ref (gA G 72)), (1, .int y1), (2, .int y2), (3, .int y3), (4, .int y4), (5, .int y5)] → va_P (gD G) vwCl (wld G (Cm, C)) H → va_S (lwA G) s.heap H locs → W p l e (rmv 83 1901) s m args below meth c H locs 0 0 (MQ below (Qi G PT r0 (Cm, C0)) args s 0 0 (lwA G)) (F0 m 38 ls [])), ∀ (y1 : Int32) (y2 : Int32) (y3 : Int32) (y4 : Int32) (y5 : Int32) (C : Mm) (H : Heap) (locs : List Loc) (ls : Array Slot), fX11_best_b77 n k38 y1 y2 y3 y4 y5 C = some (r0, C0) → lv_has ls 7 [(0, .ref (gA G 72)), (1, .int y1), (2, .int y2), (3, .int y3), (4, .int y4), (5, .int y5)] → va_P (gD G) vwCl (wld G (Cm, C)) H → va_S (lwA G) s.heap H locs → W p l e (rmv 83 1901) s m args below meth c H locs 0 0 (MQ below (Qi G PT r0 (Cm, C0)) args s 0 0 (lwA G)) (F0 m 77 ls []) := by
    intro k38 hk38 y1 y2 y3 y4 y5 C H locs ls h hl hP hS
    unfold fX11_best_b77 at h
    obtain ⟨x1, ex1⟩ : ∃ y : Int32, y = y5 + 1 := ⟨_, rfl⟩
    replace h := lt_y ex1 h
    refine lv_iinc (v := x1) (lv' := [(5, .int x1), (0, .ref (gA G 72)), (1, .int y1), (2, .int y2), (3, .int y3), (4, .int y4)]) hx hb dX11_best_77 hl (k := 5) rfl (by rw [ex1]; rfl) (by decide) rfl (fun ls hl => ?_)
    refine lv_goto (tgt := 38) hx hb dX11_best_80 (by decide) ?_
    exact hk38 y1 y2 y3 y4 x1 C _ _ _ h (lv_sub hl [1, 2, 3, 4, 5, 0] rfl) hP hS
  have bl70 : ∀ (k38 : Int32 → Int32 → Int32 → Int32 → Int32 → Mm → Option (Int32 × Mm)) (hk38 : ∀ (y1 : Int32) (y2 : Int32) (y3 : Int32) (y4 : Int32) (y5 : Int32) (C : Mm) (H : Heap) (locs : List Loc) (ls : Array Slot), k38 y1 y2 y3 y4 y5 C = some (r0, C0) → lv_has ls 7 [(0, .ref (gA G 72)), (1, .int y1), (2, .int y2), (3, .int y3), (4, .int y4), (5, .int y5)] → va_P (gD G) vwCl (wld G (Cm, C)) H → va_S (lwA G) s.heap H locs → W p l e (rmv 83 1901) s m args below meth c H locs 0 0 (MQ below (Qi G PT r0 (Cm, C0)) args s 0 0 (lwA G)) (F0 m 38 ls [])), ∀ (y1 : Int32) (y2 : Int32) (y5 : Int32) (y6 : Int32) (C : Mm) (H : Heap) (locs : List Loc) (ls : Array Slot), fX11_best_b70 n k38 y1 y2 y5 y6 C = some (r0, C0) → lv_has ls 7 [(0, .ref (gA G 72)), (1, .int y1), (2, .int y2), (5, .int y5), (6, .int y6)] → va_P (gD G) vwCl (wld G (Cm, C)) H → va_S (lwA G) s.heap H locs → W p l e (rmv 83 1901) s m args below meth c H locs 0 0 (MQ below (Qi G PT r0 (Cm, C0)) args s 0 0 (lwA G)) (F0 m 70 ls []) := by
    intro k38 hk38 y1 y2 y5 y6 C H locs ls h hl hP hS
    unfold fX11_best_b70 at h
    refine lv_iload hx hb dX11_best_70 (lv_at hl 3 rfl) ?_
    refine lv_istore_n (lv' := [(3, .int y5), (0, .ref (gA G 72)), (1, .int y1), (2, .int y2), (5, .int y5), (6, .int y6)]) hx hb dX11_best_72 rfl hl (by decide) rfl (fun ls hl => ?_)
    refine lv_iload hx hb dX11_best_73 (lv_at hl 5 rfl) ?_
    refine lv_istore (lv' := [(4, .int y6), (3, .int y5), (0, .ref (gA G 72)), (1, .int y1), (2, .int y2), (5, .int y5), (6, .int y6)]) hx hb dX11_best_75 hl (by decide) rfl (fun ls hl => ?_)
    exact bl77 k38 hk38 y1 y2 y5 y6 y5 C _ _ _ h (lv_sub hl [2, 3, 4, 1, 0, 5] rfl) hP hS
  have bl38 : ∀ (fu : Nat), ∀ (y1 : Int32) (y2 : Int32) (y3 : Int32) (y4 : Int32) (y5 : Int32) (C : Mm) (H : Heap) (locs : List Loc) (ls : Array Slot), fX11_best_h38 n fu y1 y2 y3 y4 y5 C = some (r0, C0) → lv_has ls 7 [(0, .ref (gA G 72)), (1, .int y1), (2, .int y2), (3, .int y3), (4, .int y4), (5, .int y5)] → va_P (gD G) vwCl (wld G (Cm, C)) H → va_S (lwA G) s.heap H locs → W p l e (rmv 83 1901) s m args below meth c H locs 0 0 (MQ below (Qi G PT r0 (Cm, C0)) args s 0 0 (lwA G)) (F0 m 38 ls []) := by
    intro fu
    induction fu with
    | zero =>
      intro y1 y2 y3 y4 y5 C H locs ls h hl hP hS
      rw [fX11_best_h38.eq_1] at h
      cases h
    | succ fu ih =>
      intro y1 y2 y3 y4 y5 C H locs ls h hl hP hS
      rw [fX11_best_h38.eq_2] at h
      refine lv_iload hx hb dX11_best_38 (lv_at hl 5 rfl) ?_
      refine lv_bipush (v := 7) hx hb dX11_best_40 (by decide) ?_
      refine lv_icmp_gt (tgt := 83) hx hb dX11_best_42 (by decide) (fun c2 => ?_) (fun c2 => ?_)
      · replace h := it_t c2 h
        refine lv_iload_n hx hb dX11_best_83 rfl (lv_at hl 2 rfl) ?_
        refine lv_if_ne (tgt := 91) hx hb dX11_best_84 (by decide) (fun c3 => ?_) (fun c3 => ?_)
        · replace h := it_f c3 h
          refine lv_iload hx hb dX11_best_91 (lv_at hl 4 rfl) ?_
          exact re_i' hC hr hP hS (pr_1 h) (congrArg (fun Z : Mm => (Cm, Z)) (pr_2 h)) dX11_best_93
        · replace h := it_t c3 h
          refine lv_iload_n hx hb dX11_best_87 rfl (lv_at hl 3 rfl) ?_
          refine lv_goto (tgt := 93) hx hb dX11_best_88 (by decide) ?_
          exact re_i' hC hr hP hS (pr_1 h) (congrArg (fun Z : Mm => (Cm, Z)) (pr_2 h)) dX11_best_93
      · replace h := it_f c2 h
        refine lv_aload_n hx hb dX11_best_45 rfl (lv_at hl 0 rfl) ?_
        refine lv_iload_n hx hb dX11_best_46 rfl (lv_at hl 1 rfl) ?_
        refine lv_iload hx hb dX11_best_47 (lv_at hl 5 rfl) ?_
        obtain ⟨r5, C6, hq4, h⟩ := bp_x h
        refine rc_i hS (run_V hC wX11_offSum k1483 (e_72 G _) rfl hP hS (As := [.int y1, .int y5]) (rest := []) (mX11_offSum l G Cm hq4) rfl hl.1 (Nat.le_of_ble_eq_true rfl) ⟨by decide, by decide⟩ ⟨Nat.le_refl _, Nat.le_refl _⟩ rfl dX11_best_49) (fun H locs pb7 hP hS => ?_)
        refine lv_istore (lv' := [(6, .int r5), (0, .ref (gA G 72)), (1, .int y1), (2, .int y2), (3, .int y3), (4, .int y4), (5, .int y5)]) hx hb dX11_best_52 hl (by decide) rfl (fun ls hl => ?_)
        refine lv_iload hx hb dX11_best_54 (lv_at hl 0 rfl) ?_
        refine lv_if_lt (tgt := 77) hx hb dX11_best_56 (by decide) (fun c8 => ?_) (fun c8 => ?_)
        · replace h := it_t c8 h
          exact bl77 (fX11_best_h38 n fu) ih y1 y2 y3 y4 y5 C6 _ _ _ h (lv_sub hl [1, 2, 3, 4, 5, 6] rfl) hP hS
        · replace h := it_f c8 h
          refine lv_iload_n hx hb dX11_best_59 rfl (lv_at hl 4 rfl) ?_
          refine lv_if_lt (tgt := 70) hx hb dX11_best_60 (by decide) (fun c9 => ?_) (fun c9 => ?_)
          · replace h := it_t c9 h
            exact bl70 (fX11_best_h38 n fu) ih y1 y2 y5 r5 C6 _ _ _ h (lv_sub hl [1, 2, 3, 6, 0] rfl) hP hS
          · replace h := it_f c9 h
            refine lv_iload hx hb dX11_best_63 (lv_at hl 0 rfl) ?_
            refine lv_iload hx hb dX11_best_65 (lv_at hl 5 rfl) ?_
            refine lv_icmp_ge (tgt := 77) hx hb dX11_best_67 (by decide) (fun c10 => ?_) (fun c10 => ?_)
            · replace h := it_t c10 h
              exact bl77 (fX11_best_h38 n fu) ih y1 y2 y3 y4 y5 C6 _ _ _ h (lv_sub hl [1, 2, 3, 4, 5, 6] rfl) hP hS
            · replace h := it_f c10 h
              exact bl70 (fX11_best_h38 n fu) ih y1 y2 y5 r5 C6 _ _ _ h (lv_sub hl [1, 2, 3, 6, 0] rfl) hP hS
  unfold fX11_best at h
  refine lv_aload_n hx hb dX11_best_0 rfl (lv_at hl 0 rfl) ?_
  refine lv_iload_n hx hb dX11_best_1 rfl (lv_at hl 1 rfl) ?_
  refine rc_i hS (run_V hC wX11_isHead k1297 (e_72 G _) rfl hP hS (As := [.int p1]) (rest := []) (mX11_isHead l G Cm rfl) rfl hl.1 (Nat.le_of_ble_eq_true rfl) ⟨by decide, by decide⟩ ⟨Nat.le_refl _, Nat.le_refl _⟩ rfl dX11_best_2) (fun H locs pb12 hP hS => ?_)
  refine lv_if_eq (tgt := 18) hx hb dX11_best_5 (by decide) (fun c13 => ?_) (fun c13 => ?_)
  · replace h := it_t c13 h
    refine lv_iconst (v := (-1)) hx hb dX11_best_18 (by decide) ?_
    exact re_i' hC hr hP hS (pr_1 h) (congrArg (fun Z : Mm => (Cm, Z)) (pr_2 h)) dX11_best_19
  · replace h := it_f c13 h
    refine lv_iload_n hx hb dX11_best_8 rfl (lv_at hl 2 rfl) ?_
    refine lv_i2l hx hb dX11_best_9 rfl ?_
    refine lv_lconst (v := 0) hx hb dX11_best_10 (by decide) ?_
    refine lv_lconst (v := 1) hx hb dX11_best_11 (by decide) ?_
    refine rc_i hS (run_S hC wX11_within k1229 hP hS (As := [.long (Int32.toInt64 p2), .long 0, .long 1]) (rest := []) (mX11_within l G Cm rfl) rfl hl.1 (Nat.le_of_ble_eq_true rfl) ⟨by decide, by decide⟩ ⟨Nat.le_refl _, Nat.le_refl _⟩ rfl dX11_best_12) (fun H locs pb15 hP hS => ?_)
    refine lv_if_ne (tgt := 20) hx hb dX11_best_15 (by decide) (fun c16 => ?_) (fun c16 => ?_)
    · replace h := it_f c16 h
      refine lv_aload_n hx hb dX11_best_20 rfl (lv_at hl 0 rfl) ?_
      refine r_get (v := .int (C.1 72 33)) hC inX11 hP (e_72 G _) rfl 33 (by decide) rfl k1083 rfl dX11_best_21 ?_
      refine lv_if_ne (tgt := 30) hx hb dX11_best_24 (by decide) (fun c17 => ?_) (fun c17 => ?_)
      · replace h := it_f c17 h
        refine lv_iconst (v := (-1)) hx hb dX11_best_30 (by decide) ?_
        refine lv_istore_n (lv' := [(3, .int (-1)), (0, .ref (gA G 72)), (1, .int p1), (2, .int p2)]) hx hb dX11_best_31 rfl hl (by decide) rfl (fun ls hl => ?_)
        refine lv_iconst (v := 0) hx hb dX11_best_32 (by decide) ?_
        refine lv_istore (lv' := [(4, .int 0), (3, .int (-1)), (0, .ref (gA G 72)), (1, .int p1), (2, .int p2)]) hx hb dX11_best_33 hl (by decide) rfl (fun ls hl => ?_)
        refine lv_iconst (v := 0) hx hb dX11_best_35 (by decide) ?_
        refine lv_istore (lv' := [(5, .int 0), (4, .int 0), (3, .int (-1)), (0, .ref (gA G 72)), (1, .int p1), (2, .int p2)]) hx hb dX11_best_36 hl (by decide) rfl (fun ls hl => ?_)
        exact bl38 n p1 p2 (-1) 0 0 C _ _ _ h (lv_sub hl [3, 4, 5, 2, 1, 0] rfl) hP hS
      · replace h := it_t c17 h
        refine lv_bipush (v := (-5)) hx hb dX11_best_27 (by decide) ?_
        exact re_i' hC hr hP hS (pr_1 h) (congrArg (fun Z : Mm => (Cm, Z)) (pr_2 h)) dX11_best_29
    · replace h := it_t c16 h
      refine lv_iconst (v := (-1)) hx hb dX11_best_18 (by decide) ?_
      exact re_i' hC hr hP hS (pr_1 h) (congrArg (fun Z : Mm => (Cm, Z)) (pr_2 h)) dX11_best_19
set_option maxHeartbeats 4000000 in
set_option maxRecDepth 100000 in
theorem mX11_slip (l : Launch) (G : gp) (Cm : Mm) {n : Nat} {p1 : Int32} {p2 : Int32} {p3 : Int32} {C : Mm} {r0 : Int32} {C0 : Mm} (h : fX11_slip n p1 p2 p3 C = some (r0, C0)) : Met l yX11_slip (wsy yX11_slip cX11_slip 5 (some .int)) (rmv 6 149) (va_Pc [.ref (gA G 72), .int p1, .int p2, .int p3] (Rl G (Cm, C))) (Qi G PT r0 (Cm, C0)) 0 0 (lwA G) := by
  refine met_i [.ref (gA G 72), .int p1, .int p2, .int p3] wX11_slip.2.2.2.2.2 (Nat.le_of_ble_eq_true rfl) ?_
  intro p e s m args below meth c ls hC hr hP hl
  have hC : Cx G p s m args meth c cX11_slip RX11 5 := hC
  have hx := hC.1
  have hb := hC.2.1
  have hown := hC.2.2.2.1
  have hts := hC.2.2.2.2.1
  have hS : va_S (lwA G) s.heap s.heap [] := va_S.rf
  have hl : lv_has ls 5 [(0, .ref (gA G 72)), (1, .int p1), (2, .int p2), (3, .int p3)] := hl
  have bl87 : ∀ (fu : Nat), ∀ (y2 : Int32) (y4 : Int32) (C : Mm) (H : Heap) (locs : List Loc) (ls : Array Slot), fX11_slip_h87 n fu y2 y4 C = some (r0, C0) → lv_has ls 5 [(0, .ref (gA G 72)), (2, .int y2), (4, .int y4)] → va_P (gD G) vwCl (wld G (Cm, C)) H → va_S (lwA G) s.heap H locs → W p l e (rmv 6 149) s m args below meth c H locs 0 0 (MQ below (Qi G PT r0 (Cm, C0)) args s 0 0 (lwA G)) (F0 m 87 ls []) := by
    intro fu
    induction fu with
    | zero =>
      intro y2 y4 C H locs ls h hl hP hS
      rw [fX11_slip_h87.eq_1] at h
      cases h
    | succ fu ih =>
      intro y2 y4 C H locs ls h hl hP hS
      rw [fX11_slip_h87.eq_2] at h
      refine lv_iload hx hb dX11_slip_87 (lv_at hl 2 rfl) ?_
      refine lv_aload_n hx hb dX11_slip_89 rfl (lv_at hl 0 rfl) ?_
      refine r_get (v := .int (C.1 72 21)) hC inX11 hP (e_72 G _) rfl 21 (by decide) rfl k1071 rfl dX11_slip_90 ?_
      refine lv_icmp_ge (tgt := 119) hx hb dX11_slip_93 (by decide) (fun c1 => ?_) (fun c1 => ?_)
      · replace h := it_t c1 h
        refine lv_bipush (v := (-2)) hx hb dX11_slip_119 (by decide) ?_
        exact re_i' hC hr hP hS (pr_1 h) (congrArg (fun Z : Mm => (Cm, Z)) (pr_2 h)) dX11_slip_121
      · replace h := it_f c1 h
        refine lv_aload_n hx hb dX11_slip_96 rfl (lv_at hl 0 rfl) ?_
        refine lv_iload hx hb dX11_slip_97 (lv_at hl 2 rfl) ?_
        refine lv_aload_n hx hb dX11_slip_99 rfl (lv_at hl 0 rfl) ?_
        refine lv_iload_n hx hb dX11_slip_100 rfl (lv_at hl 1 rfl) ?_
        obtain ⟨r3, hq2, h⟩ := bn_x h
        refine rc_i hS (run_V hC wX11_offBy k1459 (e_72 G _) rfl hP hS (As := [.int y2]) (rest := [.int y4, .ref (gA G 72)]) (mX11_offBy l G Cm hq2) rfl hl.1 (Nat.le_of_ble_eq_true rfl) ⟨by decide, by decide⟩ ⟨Nat.le_refl _, Nat.le_refl _⟩ rfl dX11_slip_101) (fun H locs pb4 hP hS => ?_)
        obtain ⟨r6, hq5, h⟩ := bn_x h
        refine rc_i hS (run_V hC wX11_canSlip k1475 (e_72 G _) rfl hP hS (As := [.int y4, .int r3]) (rest := []) (mX11_canSlip l G Cm hq5) rfl hl.1 (Nat.le_of_ble_eq_true rfl) ⟨by decide, by decide⟩ ⟨Nat.le_refl _, Nat.le_refl _⟩ rfl dX11_slip_104) (fun H locs pb7 hP hS => ?_)
        refine lv_if_eq (tgt := 113) hx hb dX11_slip_107 (by decide) (fun c8 => ?_) (fun c8 => ?_)
        · replace h := it_t c8 h
          obtain ⟨x9, ex9⟩ : ∃ y : Int32, y = y4 + 1 := ⟨_, rfl⟩
          replace h := lt_y ex9 h
          refine lv_iinc (v := x9) (lv' := [(4, .int x9), (0, .ref (gA G 72)), (2, .int y2)]) hx hb dX11_slip_113 hl (k := 2) rfl (by rw [ex9]; rfl) (by decide) rfl (fun ls hl => ?_)
          refine lv_goto (tgt := 87) hx hb dX11_slip_116 (by decide) ?_
          exact ih y2 x9 C _ _ _ h (lv_sub hl [1, 2, 0] rfl) hP hS
        · replace h := it_f c8 h
          refine lv_iload hx hb dX11_slip_110 (lv_at hl 2 rfl) ?_
          exact re_i' hC hr hP hS (pr_1 h) (congrArg (fun Z : Mm => (Cm, Z)) (pr_2 h)) dX11_slip_112
  unfold fX11_slip at h
  refine lv_aload_n hx hb dX11_slip_0 rfl (lv_at hl 0 rfl) ?_
  refine lv_iload_n hx hb dX11_slip_1 rfl (lv_at hl 1 rfl) ?_
  refine rc_i hS (run_V hC wX11_isHw k1339 (e_72 G _) rfl hP hS (As := [.int p1]) (rest := []) (mX11_isHw l G Cm rfl) rfl hl.1 (Nat.le_of_ble_eq_true rfl) ⟨by decide, by decide⟩ ⟨Nat.le_refl _, Nat.le_refl _⟩ rfl dX11_slip_2) (fun H locs pb11 hP hS => ?_)
  refine lv_if_eq (tgt := 42) hx hb dX11_slip_5 (by decide) (fun c12 => ?_) (fun c12 => ?_)
  · replace h := it_t c12 h
    refine lv_iconst (v := (-1)) hx hb dX11_slip_42 (by decide) ?_
    exact re_i' hC hr hP hS (pr_1 h) (congrArg (fun Z : Mm => (Cm, Z)) (pr_2 h)) dX11_slip_43
  · replace h := it_f c12 h
    refine lv_iload_n hx hb dX11_slip_8 rfl (lv_at hl 2 rfl) ?_
    refine lv_i2l hx hb dX11_slip_9 rfl ?_
    refine lv_lconst (v := 0) hx hb dX11_slip_10 (by decide) ?_
    refine lv_aload_n hx hb dX11_slip_11 rfl (lv_at hl 0 rfl) ?_
    refine r_get (v := .int (C.1 72 33)) hC inX11 hP (e_72 G _) rfl 33 (by decide) rfl k1083 rfl dX11_slip_12 ?_
    refine lv_iconst (v := 1) hx hb dX11_slip_15 (by decide) ?_
    refine lv_isub hx hb dX11_slip_16 ?_
    refine lv_i2l hx hb dX11_slip_17 rfl ?_
    refine rc_i hS (run_S hC wX11_within k1229 hP hS (As := [.long (Int32.toInt64 p2), .long 0, .long (Int32.toInt64 ((C.1 72 33) - 1))]) (rest := []) (mX11_within l G Cm rfl) rfl hl.1 (Nat.le_of_ble_eq_true rfl) ⟨by decide, by decide⟩ ⟨Nat.le_refl _, Nat.le_refl _⟩ rfl dX11_slip_18) (fun H locs pb14 hP hS => ?_)
    refine lv_if_eq (tgt := 42) hx hb dX11_slip_21 (by decide) (fun c15 => ?_) (fun c15 => ?_)
    · replace h := it_t c15 h
      refine lv_iconst (v := (-1)) hx hb dX11_slip_42 (by decide) ?_
      exact re_i' hC hr hP hS (pr_1 h) (congrArg (fun Z : Mm => (Cm, Z)) (pr_2 h)) dX11_slip_43
    · replace h := it_f c15 h
      refine lv_iload_n hx hb dX11_slip_24 rfl (lv_at hl 3 rfl) ?_
      refine lv_i2l hx hb dX11_slip_25 rfl ?_
      refine lv_lconst (v := 0) hx hb dX11_slip_26 (by decide) ?_
      refine lv_lconst (v := 1) hx hb dX11_slip_27 (by decide) ?_
      refine rc_i hS (run_S hC wX11_within k1229 hP hS (As := [.long (Int32.toInt64 p3), .long 0, .long 1]) (rest := []) (mX11_within l G Cm rfl) rfl hl.1 (Nat.le_of_ble_eq_true rfl) ⟨by decide, by decide⟩ ⟨Nat.le_refl _, Nat.le_refl _⟩ rfl dX11_slip_28) (fun H locs pb17 hP hS => ?_)
      refine lv_if_eq (tgt := 42) hx hb dX11_slip_31 (by decide) (fun c18 => ?_) (fun c18 => ?_)
      · replace h := it_t c18 h
        refine lv_iconst (v := (-1)) hx hb dX11_slip_42 (by decide) ?_
        exact re_i' hC hr hP hS (pr_1 h) (congrArg (fun Z : Mm => (Cm, Z)) (pr_2 h)) dX11_slip_43
      · replace h := it_f c18 h
        refine lv_aload_n hx hb dX11_slip_34 rfl (lv_at hl 0 rfl) ?_
        refine lv_iload_n hx hb dX11_slip_35 rfl (lv_at hl 2 rfl) ?_
        obtain ⟨r20, hq19, h⟩ := bn_x h
        refine rc_i hS (run_V hC wX11_offBy k1459 (e_72 G _) rfl hP hS (As := [.int p2]) (rest := []) (mX11_offBy l G Cm hq19) rfl hl.1 (Nat.le_of_ble_eq_true rfl) ⟨by decide, by decide⟩ ⟨Nat.le_refl _, Nat.le_refl _⟩ rfl dX11_slip_36) (fun H locs pb21 hP hS => ?_)
        refine lv_if_ne (tgt := 44) hx hb dX11_slip_39 (by decide) (fun c22 => ?_) (fun c22 => ?_)
        · replace h := it_f c22 h
          refine lv_aload_n hx hb dX11_slip_44 rfl (lv_at hl 0 rfl) ?_
          refine lv_iload_n hx hb dX11_slip_45 rfl (lv_at hl 1 rfl) ?_
          refine lv_bipush (v := 10) hx hb dX11_slip_46 (by decide) ?_
          refine lv_idiv hx hb dX11_slip_48 (by decide) ?_
          refine lv_iload_n hx hb dX11_slip_49 rfl (lv_at hl 1 rfl) ?_
          refine lv_bipush (v := 10) hx hb dX11_slip_50 (by decide) ?_
          refine r_irem hx hb dX11_slip_52 (by decide) ?_
          refine lv_aload_n hx hb dX11_slip_53 rfl (lv_at hl 0 rfl) ?_
          refine r_get (v := .ref (gA G 91)) hC inX11 hP (e_72 G _) rfl 34 (by decide) rfl k1084 rfl dX11_slip_54 ?_
          refine lv_iload_n hx hb dX11_slip_57 rfl (lv_at hl 2 rfl) ?_
          by_cases c23 : p2 < (0 : Int32) ∨ 40 ≤ Int32.toNatClampNeg p2
          · cases it_t c23 h
          replace h := it_f c23 h
          refine r_iald hC hP (f := C.1 91) (e_91 G _) c23 dX11_slip_58 ?_
          refine lv_iconst (v := 0) hx hb dX11_slip_59 (by decide) ?_
          obtain ⟨r25, C26, hq24, h⟩ := bp_x h
          refine rc_i hS (run_V hC wX11_layOut k1344 (e_72 G _) rfl hP hS (As := [.int (p1 / 10), .int (irm p1 10), .int (C.1 91 (Int32.toNatClampNeg p2)), .int 0]) (rest := []) (mX11_layOut l G Cm hq24) rfl hl.1 (Nat.le_of_ble_eq_true rfl) ⟨by decide, by decide⟩ ⟨Nat.le_refl _, Nat.le_refl _⟩ rfl dX11_slip_60) (fun H locs pb27 hP hS => ?_)
          refine lv_if_ne (tgt := 69) hx hb dX11_slip_63 (by decide) (fun c28 => ?_) (fun c28 => ?_)
          · replace h := it_f c28 h
            refine lv_iload_n hx hb dX11_slip_69 rfl (lv_at hl 3 rfl) ?_
            refine lv_iconst (v := 1) hx hb dX11_slip_70 (by decide) ?_
            refine lv_icmp_ne (tgt := 84) hx hb dX11_slip_71 (by decide) (fun c29 => ?_) (fun c29 => ?_)
            · replace h := it_f c29 h
              refine lv_iconst (v := 0) hx hb dX11_slip_84 (by decide) ?_
              refine lv_istore (lv' := [(4, .int 0), (0, .ref (gA G 72)), (1, .int p1), (2, .int p2), (3, .int p3)]) hx hb dX11_slip_85 hl (by decide) rfl (fun ls hl => ?_)
              exact bl87 n p2 0 C26 _ _ _ h (lv_sub hl [1, 3, 0] rfl) hP hS
            · replace h := it_t c29 h
              refine lv_aload_n hx hb dX11_slip_74 rfl (lv_at hl 0 rfl) ?_
              refine lv_aload_n hx hb dX11_slip_75 rfl (lv_at hl 0 rfl) ?_
              refine lv_iload_n hx hb dX11_slip_76 rfl (lv_at hl 2 rfl) ?_
              obtain ⟨r31, hq30, h⟩ := bn_x h
              refine rc_i hS (run_V hC wX11_offBy k1459 (e_72 G _) rfl hP hS (As := [.int p2]) (rest := [.ref (gA G 72)]) (mX11_offBy l G Cm hq30) rfl hl.1 (Nat.le_of_ble_eq_true rfl) ⟨by decide, by decide⟩ ⟨Nat.le_refl _, Nat.le_refl _⟩ rfl dX11_slip_77) (fun H locs pb32 hP hS => ?_)
              obtain ⟨r34, hq33, h⟩ := bn_x h
              refine rc_i hS (run_V hC wX11_slipsOf k1471 (e_72 G _) rfl hP hS (As := [.int r31]) (rest := []) (mX11_slipsOf l G Cm hq33) rfl hl.1 (Nat.le_of_ble_eq_true rfl) ⟨by decide, by decide⟩ ⟨Nat.le_refl _, Nat.le_refl _⟩ rfl dX11_slip_80) (fun H locs pb35 hP hS => ?_)
              exact re_i' hC hr hP hS (pr_1 h) (congrArg (fun Z : Mm => (Cm, Z)) (pr_2 h)) dX11_slip_83
          · replace h := it_t c28 h
            refine lv_bipush (v := (-2)) hx hb dX11_slip_66 (by decide) ?_
            exact re_i' hC hr hP hS (pr_1 h) (congrArg (fun Z : Mm => (Cm, Z)) (pr_2 h)) dX11_slip_68
        · replace h := it_t c22 h
          refine lv_iconst (v := (-1)) hx hb dX11_slip_42 (by decide) ?_
          exact re_i' hC hr hP hS (pr_1 h) (congrArg (fun Z : Mm => (Cm, Z)) (pr_2 h)) dX11_slip_43
set_option maxHeartbeats 4000000 in
set_option maxRecDepth 100000 in
theorem mX11_suits (l : Launch) (G : gp) (Cm : Mm) {n : Nat} {p1 : Int32} {C : Mm} {r0 : Int32} {C0 : Mm} (h : fX11_suits n p1 C = some (r0, C0)) : Met l yX11_suits (wsy yX11_suits cX11_suits 7 (some .int)) (rmv 82 1875) (va_Pc [.ref (gA G 72), .int p1] (Rl G (Cm, C))) (Qi G PT r0 (Cm, C0)) 0 0 (lwA G) := by
  refine met_i [.ref (gA G 72), .int p1] wX11_suits.2.2.2.2.2 (Nat.le_of_ble_eq_true rfl) ?_
  intro p e s m args below meth c ls hC hr hP hl
  have hC : Cx G p s m args meth c cX11_suits RX11 7 := hC
  have hx := hC.1
  have hb := hC.2.1
  have hown := hC.2.2.2.1
  have hts := hC.2.2.2.2.1
  have hS : va_S (lwA G) s.heap s.heap [] := va_S.rf
  have hl : lv_has ls 7 [(0, .ref (gA G 72)), (1, .int p1)] := hl
  have bl84 : ∀ (k24 : Int32 → Int32 → Int32 → Mm → Option (Int32 × Mm)) (hk24 : ∀ (y1 : Int32) (y2 : Int32) (y3 : Int32) (C : Mm) (H : Heap) (locs : List Loc) (ls : Array Slot), k24 y1 y2 y3 C = some (r0, C0) → lv_has ls 7 [(0, .ref (gA G 72)), (1, .int y1), (2, .int y2), (3, .int y3)] → va_P (gD G) vwCl (wld G (Cm, C)) H → va_S (lwA G) s.heap H locs → W p l e (rmv 82 1875) s m args below meth c H locs 0 0 (MQ below (Qi G PT r0 (Cm, C0)) args s 0 0 (lwA G)) (F0 m 24 ls [])), ∀ (y1 : Int32) (y3 : Int32) (s0 : Int32) (s1 : Int32) (C : Mm) (H : Heap) (locs : List Loc) (ls : Array Slot), fX11_suits_b84 n k24 y1 y3 s0 s1 C = some (r0, C0) → lv_has ls 7 [(0, .ref (gA G 72)), (1, .int y1), (3, .int y3)] → va_P (gD G) vwCl (wld G (Cm, C)) H → va_S (lwA G) s.heap H locs → W p l e (rmv 82 1875) s m args below meth c H locs 0 0 (MQ below (Qi G PT r0 (Cm, C0)) args s 0 0 (lwA G)) (F0 m 84 ls [.int s0, .int s1]) := by
    intro k24 hk24 y1 y3 s0 s1 C H locs ls h hl hP hS
    unfold fX11_suits_b84 at h
    refine lv_iadd hx hb dX11_suits_84 ?_
    refine lv_topi (fun x1 ex1 => ?_)
    replace h := lt_y ex1 h
    refine lv_istore_n (lv' := [(2, .int x1), (0, .ref (gA G 72)), (1, .int y1), (3, .int y3)]) hx hb dX11_suits_85 rfl hl (by decide) rfl (fun ls hl => ?_)
    obtain ⟨x2, ex2⟩ : ∃ y : Int32, y = y3 + 1 := ⟨_, rfl⟩
    replace h := lt_y ex2 h
    refine lv_iinc (v := x2) (lv' := [(3, .int x2), (2, .int x1), (0, .ref (gA G 72)), (1, .int y1)]) hx hb dX11_suits_86 hl (k := 3) rfl (by rw [ex2]; rfl) (by decide) rfl (fun ls hl => ?_)
    refine lv_goto (tgt := 24) hx hb dX11_suits_89 (by decide) ?_
    exact hk24 y1 x1 x2 C _ _ _ h (lv_sub hl [2, 3, 1, 0] rfl) hP hS
  have bl24 : ∀ (fu : Nat), ∀ (y1 : Int32) (y2 : Int32) (y3 : Int32) (C : Mm) (H : Heap) (locs : List Loc) (ls : Array Slot), fX11_suits_h24 n fu y1 y2 y3 C = some (r0, C0) → lv_has ls 7 [(0, .ref (gA G 72)), (1, .int y1), (2, .int y2), (3, .int y3)] → va_P (gD G) vwCl (wld G (Cm, C)) H → va_S (lwA G) s.heap H locs → W p l e (rmv 82 1875) s m args below meth c H locs 0 0 (MQ below (Qi G PT r0 (Cm, C0)) args s 0 0 (lwA G)) (F0 m 24 ls []) := by
    intro fu
    induction fu with
    | zero =>
      intro y1 y2 y3 C H locs ls h hl hP hS
      rw [fX11_suits_h24.eq_1] at h
      cases h
    | succ fu ih =>
      intro y1 y2 y3 C H locs ls h hl hP hS
      rw [fX11_suits_h24.eq_2] at h
      refine lv_iload_n hx hb dX11_suits_24 rfl (lv_at hl 3 rfl) ?_
      refine lv_aload_n hx hb dX11_suits_25 rfl (lv_at hl 0 rfl) ?_
      refine r_get (v := .int (C.1 72 33)) hC inX11 hP (e_72 G _) rfl 33 (by decide) rfl k1083 rfl dX11_suits_26 ?_
      refine lv_icmp_ge (tgt := 92) hx hb dX11_suits_29 (by decide) (fun c3 => ?_) (fun c3 => ?_)
      · replace h := it_t c3 h
        refine lv_sipush (v := 1000) hx hb dX11_suits_92 (by decide) ?_
        refine lv_iload_n hx hb dX11_suits_95 rfl (lv_at hl 2 rfl) ?_
        refine lv_imul hx hb dX11_suits_96 ?_
        refine lv_aload_n hx hb dX11_suits_97 rfl (lv_at hl 0 rfl) ?_
        refine r_get (v := .int (C.1 72 33)) hC inX11 hP (e_72 G _) rfl 33 (by decide) rfl k1083 rfl dX11_suits_98 ?_
        by_cases c4 : (C.1 72 33) = 0
        · cases it_t c4 h
        replace h := it_f c4 h
        refine lv_idiv hx hb dX11_suits_101 c4 ?_
        exact re_i' hC hr hP hS (pr_1 h) (congrArg (fun Z : Mm => (Cm, Z)) (pr_2 h)) dX11_suits_102
      · replace h := it_f c3 h
        refine lv_aload_n hx hb dX11_suits_32 rfl (lv_at hl 0 rfl) ?_
        refine lv_iload_n hx hb dX11_suits_33 rfl (lv_at hl 1 rfl) ?_
        refine lv_aload_n hx hb dX11_suits_34 rfl (lv_at hl 0 rfl) ?_
        refine r_get (v := .ref (gA G 91)) hC inX11 hP (e_72 G _) rfl 34 (by decide) rfl k1084 rfl dX11_suits_35 ?_
        refine lv_iload_n hx hb dX11_suits_38 rfl (lv_at hl 3 rfl) ?_
        by_cases c5 : y3 < (0 : Int32) ∨ 40 ≤ Int32.toNatClampNeg y3
        · cases it_t c5 h
        replace h := it_f c5 h
        refine r_iald hC hP (f := C.1 91) (e_91 G _) c5 dX11_suits_39 ?_
        refine lv_iconst (v := 0) hx hb dX11_suits_40 (by decide) ?_
        obtain ⟨r7, C8, hq6, h⟩ := bp_x h
        refine rc_i hS (run_V hC wX11_chosenBy k1418 (e_72 G _) rfl hP hS (As := [.int y1, .int (C.1 91 (Int32.toNatClampNeg y3)), .int 0]) (rest := []) (mX11_chosenBy l G Cm hq6) rfl hl.1 (Nat.le_of_ble_eq_true rfl) ⟨by decide, by decide⟩ ⟨Nat.le_refl _, Nat.le_refl _⟩ rfl dX11_suits_41) (fun H locs pb9 hP hS => ?_)
        refine lv_istore (lv' := [(4, .int r7), (0, .ref (gA G 72)), (1, .int y1), (2, .int y2), (3, .int y3)]) hx hb dX11_suits_44 hl (by decide) rfl (fun ls hl => ?_)
        refine lv_aload_n hx hb dX11_suits_46 rfl (lv_at hl 1 rfl) ?_
        obtain ⟨r11, hq10, h⟩ := bn_x h
        refine rc_i hS (run_V hC wX11_seconds k1400 (e_72 G _) rfl hP hS (As := []) (rest := []) (mX11_seconds l G Cm hq10) rfl hl.1 (Nat.le_of_ble_eq_true rfl) ⟨by decide, by decide⟩ ⟨Nat.le_refl _, Nat.le_refl _⟩ rfl dX11_suits_47) (fun H locs pb12 hP hS => ?_)
        refine lv_istore (lv' := [(5, .int r11), (4, .int r7), (0, .ref (gA G 72)), (1, .int y1), (2, .int y2), (3, .int y3)]) hx hb dX11_suits_50 hl (by decide) rfl (fun ls hl => ?_)
        refine lv_aload_n hx hb dX11_suits_52 rfl (lv_at hl 2 rfl) ?_
        refine lv_iload_n hx hb dX11_suits_53 rfl (lv_at hl 3 rfl) ?_
        refine lv_iconst (v := 1) hx hb dX11_suits_54 (by decide) ?_
        refine lv_aload_n hx hb dX11_suits_55 rfl (lv_at hl 2 rfl) ?_
        refine r_get (v := .ref (gA G 91)) hC inX11 hP (e_72 G _) rfl 34 (by decide) rfl k1084 rfl dX11_suits_56 ?_
        refine lv_iload_n hx hb dX11_suits_59 rfl (lv_at hl 5 rfl) ?_
        by_cases c13 : y3 < (0 : Int32) ∨ 40 ≤ Int32.toNatClampNeg y3
        · cases it_t c13 h
        replace h := it_f c13 h
        refine r_iald hC hP (f := C8.1 91) (e_91 G _) c13 dX11_suits_60 ?_
        refine lv_iconst (v := 0) hx hb dX11_suits_61 (by decide) ?_
        obtain ⟨r15, C16, hq14, h⟩ := bp_x h
        refine rc_i hS (run_V hC wX11_layOut k1344 (e_72 G _) rfl hP hS (As := [.int y1, .int 1, .int (C8.1 91 (Int32.toNatClampNeg y3)), .int 0]) (rest := []) (mX11_layOut l G Cm hq14) rfl hl.1 (Nat.le_of_ble_eq_true rfl) ⟨by decide, by decide⟩ ⟨Nat.le_refl _, Nat.le_refl _⟩ rfl dX11_suits_62) (fun H locs pb17 hP hS => ?_)
        refine lv_istore (lv' := [(6, .int r15), (5, .int r11), (4, .int r7), (0, .ref (gA G 72)), (1, .int y1), (2, .int y2), (3, .int y3)]) hx hb dX11_suits_65 hl (by decide) rfl (fun ls hl => ?_)
        refine lv_iload_n hx hb dX11_suits_67 rfl (lv_at hl 5 rfl) ?_
        refine lv_iload hx hb dX11_suits_68 (lv_at hl 1 rfl) ?_
        refine lv_aload_n hx hb dX11_suits_70 rfl (lv_at hl 3 rfl) ?_
        obtain ⟨r19, hq18, h⟩ := bn_x h
        refine rc_i hS (run_V hC wX11_seconds k1400 (e_72 G _) rfl hP hS (As := []) (rest := [.int r11, .int y2]) (mX11_seconds l G Cm hq18) rfl hl.1 (Nat.le_of_ble_eq_true rfl) ⟨by decide, by decide⟩ ⟨Nat.le_refl _, Nat.le_refl _⟩ rfl dX11_suits_71) (fun H locs pb20 hP hS => ?_)
        refine lv_iconst (v := 2) hx hb dX11_suits_74 (by decide) ?_
        refine lv_idiv hx hb dX11_suits_75 (by decide) ?_
        refine lv_icmp_gt (tgt := 83) hx hb dX11_suits_76 (by decide) (fun c21 => ?_) (fun c21 => ?_)
        · replace h := it_t c21 h
          refine lv_iconst (v := 0) hx hb dX11_suits_83 (by decide) ?_
          exact bl84 (fX11_suits_h24 n fu) ih y1 y3 0 y2 C16 _ _ _ h (lv_sub hl [3, 4, 6] rfl) hP hS
        · replace h := it_f c21 h
          refine lv_iconst (v := 1) hx hb dX11_suits_79 (by decide) ?_
          refine lv_goto (tgt := 84) hx hb dX11_suits_80 (by decide) ?_
          exact bl84 (fX11_suits_h24 n fu) ih y1 y3 1 y2 C16 _ _ _ h (lv_sub hl [3, 4, 6] rfl) hP hS
  unfold fX11_suits at h
  refine lv_aload_n hx hb dX11_suits_0 rfl (lv_at hl 0 rfl) ?_
  refine lv_iload_n hx hb dX11_suits_1 rfl (lv_at hl 1 rfl) ?_
  refine rc_i hS (run_V hC wX11_isHead k1297 (e_72 G _) rfl hP hS (As := [.int p1]) (rest := []) (mX11_isHead l G Cm rfl) rfl hl.1 (Nat.le_of_ble_eq_true rfl) ⟨by decide, by decide⟩ ⟨Nat.le_refl _, Nat.le_refl _⟩ rfl dX11_suits_2) (fun H locs pb23 hP hS => ?_)
  refine lv_if_ne (tgt := 10) hx hb dX11_suits_5 (by decide) (fun c24 => ?_) (fun c24 => ?_)
  · replace h := it_f c24 h
    refine lv_aload_n hx hb dX11_suits_10 rfl (lv_at hl 0 rfl) ?_
    refine r_get (v := .int (C.1 72 33)) hC inX11 hP (e_72 G _) rfl 33 (by decide) rfl k1083 rfl dX11_suits_11 ?_
    refine lv_if_ne (tgt := 20) hx hb dX11_suits_14 (by decide) (fun c25 => ?_) (fun c25 => ?_)
    · replace h := it_f c25 h
      refine lv_iconst (v := 0) hx hb dX11_suits_20 (by decide) ?_
      refine lv_istore_n (lv' := [(2, .int 0), (0, .ref (gA G 72)), (1, .int p1)]) hx hb dX11_suits_21 rfl hl (by decide) rfl (fun ls hl => ?_)
      refine lv_iconst (v := 0) hx hb dX11_suits_22 (by decide) ?_
      refine lv_istore_n (lv' := [(3, .int 0), (2, .int 0), (0, .ref (gA G 72)), (1, .int p1)]) hx hb dX11_suits_23 rfl hl (by decide) rfl (fun ls hl => ?_)
      exact bl24 n p1 0 0 C _ _ _ h (lv_sub hl [2, 3, 1, 0] rfl) hP hS
    · replace h := it_t c25 h
      refine lv_bipush (v := (-5)) hx hb dX11_suits_17 (by decide) ?_
      exact re_i' hC hr hP hS (pr_1 h) (congrArg (fun Z : Mm => (Cm, Z)) (pr_2 h)) dX11_suits_19
  · replace h := it_t c24 h
    refine lv_iconst (v := (-1)) hx hb dX11_suits_8 (by decide) ?_
    exact re_i' hC hr hP hS (pr_1 h) (congrArg (fun Z : Mm => (Cm, Z)) (pr_2 h)) dX11_suits_9
set_option maxHeartbeats 4000000 in
set_option maxRecDepth 100000 in
theorem mX11_tell (l : Launch) (G : gp) (Cm : Mm) {p1 : Int32} {C : Mm} {r0 : Int32} {C0 : Mm} (h : fX11_tell p1 C = some (r0, C0)) : Met l yX11_tell (wsy yX11_tell cX11_tell 2 (some .int)) (rmv 2 45) (va_Pc [.ref (gA G 72), .int p1] (Rl G (Cm, C))) (Qi G PT r0 (Cm, C0)) 0 0 (lwA G) := by
  refine met_i [.ref (gA G 72), .int p1] wX11_tell.2.2.2.2.2 (Nat.le_of_ble_eq_true rfl) ?_
  intro p e s m args below meth c ls hC hr hP hl
  have hC : Cx G p s m args meth c cX11_tell RX11 2 := hC
  have hx := hC.1
  have hb := hC.2.1
  have hown := hC.2.2.2.1
  have hts := hC.2.2.2.2.1
  have hS : va_S (lwA G) s.heap s.heap [] := va_S.rf
  have hl : lv_has ls 2 [(0, .ref (gA G 72)), (1, .int p1)] := hl
  unfold fX11_tell at h
  refine lv_iload_n hx hb dX11_tell_0 rfl (lv_at hl 1 rfl) ?_
  refine rc_i hS (run_S hC wX11_isAsk k1317 hP hS (As := [.int p1]) (rest := []) (mX11_isAsk l G Cm rfl) rfl hl.1 (Nat.le_of_ble_eq_true rfl) ⟨by decide, by decide⟩ ⟨Nat.le_refl _, Nat.le_refl _⟩ rfl dX11_tell_1) (fun H locs pb2 hP hS => ?_)
  refine lv_if_ne (tgt := 9) hx hb dX11_tell_4 (by decide) (fun c3 => ?_) (fun c3 => ?_)
  · replace h := it_f c3 h
    refine lv_aload_n hx hb dX11_tell_9 rfl (lv_at hl 0 rfl) ?_
    refine r_get (v := .int (C.1 72 37)) hC inX11 hP (e_72 G _) rfl 37 (by decide) rfl k1087 rfl dX11_tell_10 ?_
    refine lv_bipush (v := 8) hx hb dX11_tell_13 (by decide) ?_
    refine lv_icmp_ne (tgt := 21) hx hb dX11_tell_15 (by decide) (fun c4 => ?_) (fun c4 => ?_)
    · replace h := it_f c4 h
      refine lv_aload_n hx hb dX11_tell_21 rfl (lv_at hl 0 rfl) ?_
      refine r_get (v := .ref (gA G 94)) hC inX11 hP (e_72 G _) rfl 38 (by decide) rfl k1088 rfl dX11_tell_22 ?_
      refine lv_aload_n hx hb dX11_tell_25 rfl (lv_at hl 0 rfl) ?_
      refine r_get (v := .int (C.1 72 37)) hC inX11 hP (e_72 G _) rfl 37 (by decide) rfl k1087 rfl dX11_tell_26 ?_
      refine lv_iload_n hx hb dX11_tell_29 rfl (lv_at hl 1 rfl) ?_
      by_cases c5 : (C.1 72 37) < (0 : Int32) ∨ 8 ≤ Int32.toNatClampNeg (C.1 72 37)
      · cases it_t c5 h
      replace h := it_f c5 h
      obtain ⟨C6, eC6⟩ : ∃ Z : Mm, Z = wrI C 94 (Int32.toNatClampNeg (C.1 72 37)) p1 := ⟨_, rfl⟩
      replace h := lt_y eC6 h
      refine r_iast (X' := (Cm, C6)) hC hP hS (e_94 G _) c5 (a_94 G _ _ _ _ eC6) dX11_tell_30 (fun H locs hP hS => ?_)
      refine lv_aload_n hx hb dX11_tell_31 rfl (lv_at hl 0 rfl) ?_
      refine lv_dup hx hb dX11_tell_32 rfl ?_
      refine r_get (v := .int (C6.1 72 37)) hC inX11 hP (e_72 G _) rfl 37 (by decide) rfl k1087 rfl dX11_tell_33 ?_
      refine lv_iconst (v := 1) hx hb dX11_tell_36 (by decide) ?_
      refine lv_iadd hx hb dX11_tell_37 ?_
      obtain ⟨C7, eC7⟩ : ∃ Z : Mm, Z = wrI C6 72 37 ((C6.1 72 37) + 1) := ⟨_, rfl⟩
      replace h := lt_y eC7 h
      refine r_put (X' := (Cm, C7)) hC inX11 tyX11 tyX11_ok nmX11 hP hS (e_72 G _) rfl 37 (by decide) rfl k1087 rfl (v := .int ((C6.1 72 37) + 1)) rfl rfl (Nat.le_of_ble_eq_true rfl) (p_72_37 G _ _ eC7) dX11_tell_38 (fun H locs hP hS => ?_)
      refine lv_aload_n hx hb dX11_tell_41 rfl (lv_at hl 0 rfl) ?_
      refine r_get (v := .int (C7.1 72 37)) hC inX11 hP (e_72 G _) rfl 37 (by decide) rfl k1087 rfl dX11_tell_42 ?_
      exact re_i' hC hr hP hS (pr_1 h) (congrArg (fun Z : Mm => (Cm, Z)) (pr_2 h)) dX11_tell_45
    · replace h := it_t c4 h
      refine lv_bipush (v := (-3)) hx hb dX11_tell_18 (by decide) ?_
      exact re_i' hC hr hP hS (pr_1 h) (congrArg (fun Z : Mm => (Cm, Z)) (pr_2 h)) dX11_tell_20
  · replace h := it_t c3 h
    refine lv_iconst (v := (-1)) hx hb dX11_tell_7 (by decide) ?_
    exact re_i' hC hr hP hS (pr_1 h) (congrArg (fun Z : Mm => (Cm, Z)) (pr_2 h)) dX11_tell_8
set_option maxHeartbeats 4000000 in
set_option maxRecDepth 100000 in
theorem mX11_untell (l : Launch) (G : gp) (Cm : Mm) {C : Mm} {r0 : Int32} {C0 : Mm} (h : fX11_untell C = some (r0, C0)) : Met l yX11_untell (wsy yX11_untell cX11_untell 2 (some .int)) (rmv 0 0) (va_Pc [.ref (gA G 72)] (Rl G (Cm, C))) (Qi G PT r0 (Cm, C0)) 0 0 (lwA G) := by
  refine met_i [.ref (gA G 72)] wX11_untell.2.2.2.2.2 (Nat.le_of_ble_eq_true rfl) ?_
  intro p e s m args below meth c ls hC hr hP hl
  have hC : Cx G p s m args meth c cX11_untell RX11 2 := hC
  have hx := hC.1
  have hb := hC.2.1
  have hown := hC.2.2.2.1
  have hts := hC.2.2.2.2.1
  have hS : va_S (lwA G) s.heap s.heap [] := va_S.rf
  have hl : lv_has ls 2 [(0, .ref (gA G 72))] := hl
  unfold fX11_untell at h
  refine lv_aload_n hx hb dX11_untell_0 rfl (lv_at hl 0 rfl) ?_
  refine r_get (v := .int (C.1 72 37)) hC inX11 hP (e_72 G _) rfl 37 (by decide) rfl k1087 rfl dX11_untell_1 ?_
  refine lv_topi (fun x1 ex1 => ?_)
  replace h := lt_y ex1 h
  refine lv_istore_n (lv' := [(1, .int x1), (0, .ref (gA G 72))]) hx hb dX11_untell_4 rfl hl (by decide) rfl (fun ls hl => ?_)
  refine lv_aload_n hx hb dX11_untell_5 rfl (lv_at hl 1 rfl) ?_
  refine lv_iconst (v := 0) hx hb dX11_untell_6 (by decide) ?_
  obtain ⟨C2, eC2⟩ : ∃ Z : Mm, Z = wrI C 72 37 0 := ⟨_, rfl⟩
  replace h := lt_y eC2 h
  refine r_put (X' := (Cm, C2)) hC inX11 tyX11 tyX11_ok nmX11 hP hS (e_72 G _) rfl 37 (by decide) rfl k1087 rfl (v := .int 0) rfl rfl (Nat.le_of_ble_eq_true rfl) (p_72_37 G _ _ eC2) dX11_untell_7 (fun H locs hP hS => ?_)
  refine lv_iload_n hx hb dX11_untell_10 rfl (lv_at hl 0 rfl) ?_
  exact re_i' hC hr hP hS (pr_1 h) (congrArg (fun Z : Mm => (Cm, Z)) (pr_2 h)) dX11_untell_11
set_option maxHeartbeats 4000000 in
set_option maxRecDepth 100000 in
theorem mX11_parts (l : Launch) (G : gp) (Cm : Mm) {n : Nat} {p1 : Int32} {p2 : Int32} {p3 : Int32} {C : Mm} {r0 : Int32} {C0 : Mm} (h : fX11_parts n p1 p2 p3 C = some (r0, C0)) : Met l yX11_parts (wsy yX11_parts cX11_parts 10 (some .int)) (rmv 6 149) (va_Pc [.ref (gA G 72), .int p1, .int p2, .int p3] (Rl G (Cm, C))) (Qi G PT r0 (Cm, C0)) 0 0 (lwA G) := by
  refine met_i [.ref (gA G 72), .int p1, .int p2, .int p3] wX11_parts.2.2.2.2.2 (Nat.le_of_ble_eq_true rfl) ?_
  intro p e s m args below meth c ls hC hr hP hl
  have hC : Cx G p s m args meth c cX11_parts RX11 10 := hC
  have hx := hC.1
  have hb := hC.2.1
  have hown := hC.2.2.2.1
  have hts := hC.2.2.2.2.1
  have hS : va_S (lwA G) s.heap s.heap [] := va_S.rf
  have hl : lv_has ls 10 [(0, .ref (gA G 72)), (1, .int p1), (2, .int p2), (3, .int p3)] := hl
  have bl182 : ∀ (k52 : Int32 → Int32 → Int32 → Int32 → Int32 → Int32 → Mm → Option (Int32 × Mm)) (hk52 : ∀ (y1 : Int32) (y2 : Int32) (y3 : Int32) (y4 : Int32) (y5 : Int32) (y6 : Int32) (C : Mm) (H : Heap) (locs : List Loc) (ls : Array Slot), k52 y1 y2 y3 y4 y5 y6 C = some (r0, C0) → lv_has ls 10 [(0, .ref (gA G 72)), (1, .int y1), (2, .int y2), (3, .int y3), (4, .int y4), (5, .int y5), (6, .int y6)] → va_P (gD G) vwCl (wld G (Cm, C)) H → va_S (lwA G) s.heap H locs → W p l e (rmv 6 149) s m args below meth c H locs 0 0 (MQ below (Qi G PT r0 (Cm, C0)) args s 0 0 (lwA G)) (F0 m 52 ls [])), ∀ (y1 : Int32) (y2 : Int32) (y3 : Int32) (y4 : Int32) (y5 : Int32) (y6 : Int32) (C : Mm) (H : Heap) (locs : List Loc) (ls : Array Slot), fX11_parts_b182 n k52 y1 y2 y3 y4 y5 y6 C = some (r0, C0) → lv_has ls 10 [(0, .ref (gA G 72)), (1, .int y1), (2, .int y2), (3, .int y3), (4, .int y4), (5, .int y5), (6, .int y6)] → va_P (gD G) vwCl (wld G (Cm, C)) H → va_S (lwA G) s.heap H locs → W p l e (rmv 6 149) s m args below meth c H locs 0 0 (MQ below (Qi G PT r0 (Cm, C0)) args s 0 0 (lwA G)) (F0 m 182 ls []) := by
    intro k52 hk52 y1 y2 y3 y4 y5 y6 C H locs ls h hl hP hS
    unfold fX11_parts_b182 at h
    obtain ⟨x1, ex1⟩ : ∃ y : Int32, y = y6 + 1 := ⟨_, rfl⟩
    replace h := lt_y ex1 h
    refine lv_iinc (v := x1) (lv' := [(6, .int x1), (0, .ref (gA G 72)), (1, .int y1), (2, .int y2), (3, .int y3), (4, .int y4), (5, .int y5)]) hx hb dX11_parts_182 hl (k := 6) rfl (by rw [ex1]; rfl) (by decide) rfl (fun ls hl => ?_)
    refine lv_goto (tgt := 52) hx hb dX11_parts_185 (by decide) ?_
    exact hk52 y1 y2 y3 y4 y5 x1 C _ _ _ h (lv_sub hl [1, 2, 3, 4, 5, 6, 0] rfl) hP hS
  have bl150 : ∀ (k52 : Int32 → Int32 → Int32 → Int32 → Int32 → Int32 → Mm → Option (Int32 × Mm)) (hk52 : ∀ (y1 : Int32) (y2 : Int32) (y3 : Int32) (y4 : Int32) (y5 : Int32) (y6 : Int32) (C : Mm) (H : Heap) (locs : List Loc) (ls : Array Slot), k52 y1 y2 y3 y4 y5 y6 C = some (r0, C0) → lv_has ls 10 [(0, .ref (gA G 72)), (1, .int y1), (2, .int y2), (3, .int y3), (4, .int y4), (5, .int y5), (6, .int y6)] → va_P (gD G) vwCl (wld G (Cm, C)) H → va_S (lwA G) s.heap H locs → W p l e (rmv 6 149) s m args below meth c H locs 0 0 (MQ below (Qi G PT r0 (Cm, C0)) args s 0 0 (lwA G)) (F0 m 52 ls [])) (k70 : Int32 → Int32 → Int32 → Int32 → Int32 → Int32 → Int32 → Int32 → Int32 → Mm → Option (Int32 × Mm)) (hk70 : ∀ (y1 : Int32) (y2 : Int32) (y3 : Int32) (y4 : Int32) (y5 : Int32) (y6 : Int32) (y7 : Int32) (y8 : Int32) (y9 : Int32) (C : Mm) (H : Heap) (locs : List Loc) (ls : Array Slot), k70 y1 y2 y3 y4 y5 y6 y7 y8 y9 C = some (r0, C0) → lv_has ls 10 [(0, .ref (gA G 72)), (1, .int y1), (2, .int y2), (3, .int y3), (4, .int y4), (5, .int y5), (6, .int y6), (7, .int y7), (8, .int y8), (9, .int y9)] → va_P (gD G) vwCl (wld G (Cm, C)) H → va_S (lwA G) s.heap H locs → W p l e (rmv 6 149) s m args below meth c H locs 0 0 (MQ below (Qi G PT r0 (Cm, C0)) args s 0 0 (lwA G)) (F0 m 70 ls [])), ∀ (y1 : Int32) (y2 : Int32) (y3 : Int32) (y4 : Int32) (y5 : Int32) (y6 : Int32) (y7 : Int32) (y8 : Int32) (y9 : Int32) (C : Mm) (H : Heap) (locs : List Loc) (ls : Array Slot), fX11_parts_b150 n k52 k70 y1 y2 y3 y4 y5 y6 y7 y8 y9 C = some (r0, C0) → lv_has ls 10 [(0, .ref (gA G 72)), (1, .int y1), (2, .int y2), (3, .int y3), (4, .int y4), (5, .int y5), (6, .int y6), (7, .int y7), (8, .int y8), (9, .int y9)] → va_P (gD G) vwCl (wld G (Cm, C)) H → va_S (lwA G) s.heap H locs → W p l e (rmv 6 149) s m args below meth c H locs 0 0 (MQ below (Qi G PT r0 (Cm, C0)) args s 0 0 (lwA G)) (F0 m 150 ls []) := by
    intro k52 hk52 k70 hk70 y1 y2 y3 y4 y5 y6 y7 y8 y9 C H locs ls h hl hP hS
    unfold fX11_parts_b150 at h
    obtain ⟨x2, ex2⟩ : ∃ y : Int32, y = y9 + 1 := ⟨_, rfl⟩
    replace h := lt_y ex2 h
    refine lv_iinc (v := x2) (lv' := [(9, .int x2), (0, .ref (gA G 72)), (1, .int y1), (2, .int y2), (3, .int y3), (4, .int y4), (5, .int y5), (6, .int y6), (7, .int y7), (8, .int y8)]) hx hb dX11_parts_150 hl (k := 9) rfl (by rw [ex2]; rfl) (by decide) rfl (fun ls hl => ?_)
    refine lv_goto (tgt := 70) hx hb dX11_parts_153 (by decide) ?_
    exact hk70 y1 y2 y3 y4 y5 y6 y7 y8 x2 C _ _ _ h (lv_sub hl [1, 2, 3, 4, 5, 6, 7, 8, 9, 0] rfl) hP hS
  have bl148 : ∀ (k52 : Int32 → Int32 → Int32 → Int32 → Int32 → Int32 → Mm → Option (Int32 × Mm)) (hk52 : ∀ (y1 : Int32) (y2 : Int32) (y3 : Int32) (y4 : Int32) (y5 : Int32) (y6 : Int32) (C : Mm) (H : Heap) (locs : List Loc) (ls : Array Slot), k52 y1 y2 y3 y4 y5 y6 C = some (r0, C0) → lv_has ls 10 [(0, .ref (gA G 72)), (1, .int y1), (2, .int y2), (3, .int y3), (4, .int y4), (5, .int y5), (6, .int y6)] → va_P (gD G) vwCl (wld G (Cm, C)) H → va_S (lwA G) s.heap H locs → W p l e (rmv 6 149) s m args below meth c H locs 0 0 (MQ below (Qi G PT r0 (Cm, C0)) args s 0 0 (lwA G)) (F0 m 52 ls [])) (k70 : Int32 → Int32 → Int32 → Int32 → Int32 → Int32 → Int32 → Int32 → Int32 → Mm → Option (Int32 × Mm)) (hk70 : ∀ (y1 : Int32) (y2 : Int32) (y3 : Int32) (y4 : Int32) (y5 : Int32) (y6 : Int32) (y7 : Int32) (y8 : Int32) (y9 : Int32) (C : Mm) (H : Heap) (locs : List Loc) (ls : Array Slot), k70 y1 y2 y3 y4 y5 y6 y7 y8 y9 C = some (r0, C0) → lv_has ls 10 [(0, .ref (gA G 72)), (1, .int y1), (2, .int y2), (3, .int y3), (4, .int y4), (5, .int y5), (6, .int y6), (7, .int y7), (8, .int y8), (9, .int y9)] → va_P (gD G) vwCl (wld G (Cm, C)) H → va_S (lwA G) s.heap H locs → W p l e (rmv 6 149) s m args below meth c H locs 0 0 (MQ below (Qi G PT r0 (Cm, C0)) args s 0 0 (lwA G)) (F0 m 70 ls [])), ∀ (y1 : Int32) (y2 : Int32) (y3 : Int32) (y4 : Int32) (y5 : Int32) (y6 : Int32) (y7 : Int32) (y9 : Int32) (s0 : Int32) (C : Mm) (H : Heap) (locs : List Loc) (ls : Array Slot), fX11_parts_b148 n k52 k70 y1 y2 y3 y4 y5 y6 y7 y9 s0 C = some (r0, C0) → lv_has ls 10 [(0, .ref (gA G 72)), (1, .int y1), (2, .int y2), (3, .int y3), (4, .int y4), (5, .int y5), (6, .int y6), (7, .int y7), (9, .int y9)] → va_P (gD G) vwCl (wld G (Cm, C)) H → va_S (lwA G) s.heap H locs → W p l e (rmv 6 149) s m args below meth c H locs 0 0 (MQ below (Qi G PT r0 (Cm, C0)) args s 0 0 (lwA G)) (F0 m 148 ls [.int s0]) := by
    intro k52 hk52 k70 hk70 y1 y2 y3 y4 y5 y6 y7 y9 s0 C H locs ls h hl hP hS
    unfold fX11_parts_b148 at h
    refine lv_istore (lv' := [(8, .int s0), (0, .ref (gA G 72)), (1, .int y1), (2, .int y2), (3, .int y3), (4, .int y4), (5, .int y5), (6, .int y6), (7, .int y7), (9, .int y9)]) hx hb dX11_parts_148 hl (by decide) rfl (fun ls hl => ?_)
    exact bl150 k52 hk52 k70 hk70 y1 y2 y3 y4 y5 y6 y7 s0 y9 C _ _ _ h (lv_sub hl [1, 2, 3, 4, 5, 6, 7, 8, 0, 9] rfl) hP hS
  have bl128 : ∀ (k52 : Int32 → Int32 → Int32 → Int32 → Int32 → Int32 → Mm → Option (Int32 × Mm)) (hk52 : ∀ (y1 : Int32) (y2 : Int32) (y3 : Int32) (y4 : Int32) (y5 : Int32) (y6 : Int32) (C : Mm) (H : Heap) (locs : List Loc) (ls : Array Slot), k52 y1 y2 y3 y4 y5 y6 C = some (r0, C0) → lv_has ls 10 [(0, .ref (gA G 72)), (1, .int y1), (2, .int y2), (3, .int y3), (4, .int y4), (5, .int y5), (6, .int y6)] → va_P (gD G) vwCl (wld G (Cm, C)) H → va_S (lwA G) s.heap H locs → W p l e (rmv 6 149) s m args below meth c H locs 0 0 (MQ below (Qi G PT r0 (Cm, C0)) args s 0 0 (lwA G)) (F0 m 52 ls [])) (k70 : Int32 → Int32 → Int32 → Int32 → Int32 → Int32 → Int32 → Int32 → Int32 → Mm → Option (Int32 × Mm)) (hk70 : ∀ (y1 : Int32) (y2 : Int32) (y3 : Int32) (y4 : Int32) (y5 : Int32) (y6 : Int32) (y7 : Int32) (y8 : Int32) (y9 : Int32) (C : Mm) (H : Heap) (locs : List Loc) (ls : Array Slot), k70 y1 y2 y3 y4 y5 y6 y7 y8 y9 C = some (r0, C0) → lv_has ls 10 [(0, .ref (gA G 72)), (1, .int y1), (2, .int y2), (3, .int y3), (4, .int y4), (5, .int y5), (6, .int y6), (7, .int y7), (8, .int y8), (9, .int y9)] → va_P (gD G) vwCl (wld G (Cm, C)) H → va_S (lwA G) s.heap H locs → W p l e (rmv 6 149) s m args below meth c H locs 0 0 (MQ below (Qi G PT r0 (Cm, C0)) args s 0 0 (lwA G)) (F0 m 70 ls [])), ∀ (y1 : Int32) (y2 : Int32) (y3 : Int32) (y4 : Int32) (y5 : Int32) (y6 : Int32) (y8 : Int32) (y9 : Int32) (s0 : Int32) (C : Mm) (H : Heap) (locs : List Loc) (ls : Array Slot), fX11_parts_b128 n k52 k70 y1 y2 y3 y4 y5 y6 y8 y9 s0 C = some (r0, C0) → lv_has ls 10 [(0, .ref (gA G 72)), (1, .int y1), (2, .int y2), (3, .int y3), (4, .int y4), (5, .int y5), (6, .int y6), (8, .int y8), (9, .int y9)] → va_P (gD G) vwCl (wld G (Cm, C)) H → va_S (lwA G) s.heap H locs → W p l e (rmv 6 149) s m args below meth c H locs 0 0 (MQ below (Qi G PT r0 (Cm, C0)) args s 0 0 (lwA G)) (F0 m 128 ls [.int s0]) := by
    intro k52 hk52 k70 hk70 y1 y2 y3 y4 y5 y6 y8 y9 s0 C H locs ls h hl hP hS
    unfold fX11_parts_b128 at h
    refine lv_istore (lv' := [(7, .int s0), (0, .ref (gA G 72)), (1, .int y1), (2, .int y2), (3, .int y3), (4, .int y4), (5, .int y5), (6, .int y6), (8, .int y8), (9, .int y9)]) hx hb dX11_parts_128 hl (by decide) rfl (fun ls hl => ?_)
    refine lv_aload_n hx hb dX11_parts_130 rfl (lv_at hl 1 rfl) ?_
    obtain ⟨r4, hq3, h⟩ := bn_x h
    refine rc_i hS (run_V hC wX11_seconds k1400 (e_72 G _) rfl hP hS (As := []) (rest := []) (mX11_seconds l G Cm hq3) rfl hl.1 (Nat.le_of_ble_eq_true rfl) ⟨by decide, by decide⟩ ⟨Nat.le_refl _, Nat.le_refl _⟩ rfl dX11_parts_131) (fun H locs pb5 hP hS => ?_)
    refine lv_iload hx hb dX11_parts_134 (lv_at hl 8 rfl) ?_
    refine lv_icmp_le (tgt := 146) hx hb dX11_parts_136 (by decide) (fun c6 => ?_) (fun c6 => ?_)
    · replace h := it_t c6 h
      refine lv_iload hx hb dX11_parts_146 (lv_at hl 8 rfl) ?_
      exact bl148 k52 hk52 k70 hk70 y1 y2 y3 y4 y5 y6 s0 y9 y8 C _ _ _ h (lv_sub hl [1, 2, 3, 4, 5, 6, 7, 0, 9] rfl) hP hS
    · replace h := it_f c6 h
      refine lv_aload_n hx hb dX11_parts_139 rfl (lv_at hl 1 rfl) ?_
      obtain ⟨r8, hq7, h⟩ := bn_x h
      refine rc_i hS (run_V hC wX11_seconds k1400 (e_72 G _) rfl hP hS (As := []) (rest := []) (mX11_seconds l G Cm hq7) rfl hl.1 (Nat.le_of_ble_eq_true rfl) ⟨by decide, by decide⟩ ⟨Nat.le_refl _, Nat.le_refl _⟩ rfl dX11_parts_140) (fun H locs pb9 hP hS => ?_)
      refine lv_goto (tgt := 148) hx hb dX11_parts_143 (by decide) ?_
      exact bl148 k52 hk52 k70 hk70 y1 y2 y3 y4 y5 y6 s0 y9 r8 C _ _ _ h (lv_sub hl [1, 2, 3, 4, 5, 6, 7, 0, 9] rfl) hP hS
  have bl119 : ∀ (k52 : Int32 → Int32 → Int32 → Int32 → Int32 → Int32 → Mm → Option (Int32 × Mm)) (hk52 : ∀ (y1 : Int32) (y2 : Int32) (y3 : Int32) (y4 : Int32) (y5 : Int32) (y6 : Int32) (C : Mm) (H : Heap) (locs : List Loc) (ls : Array Slot), k52 y1 y2 y3 y4 y5 y6 C = some (r0, C0) → lv_has ls 10 [(0, .ref (gA G 72)), (1, .int y1), (2, .int y2), (3, .int y3), (4, .int y4), (5, .int y5), (6, .int y6)] → va_P (gD G) vwCl (wld G (Cm, C)) H → va_S (lwA G) s.heap H locs → W p l e (rmv 6 149) s m args below meth c H locs 0 0 (MQ below (Qi G PT r0 (Cm, C0)) args s 0 0 (lwA G)) (F0 m 52 ls [])) (k70 : Int32 → Int32 → Int32 → Int32 → Int32 → Int32 → Int32 → Int32 → Int32 → Mm → Option (Int32 × Mm)) (hk70 : ∀ (y1 : Int32) (y2 : Int32) (y3 : Int32) (y4 : Int32) (y5 : Int32) (y6 : Int32) (y7 : Int32) (y8 : Int32) (y9 : Int32) (C : Mm) (H : Heap) (locs : List Loc) (ls : Array Slot), k70 y1 y2 y3 y4 y5 y6 y7 y8 y9 C = some (r0, C0) → lv_has ls 10 [(0, .ref (gA G 72)), (1, .int y1), (2, .int y2), (3, .int y3), (4, .int y4), (5, .int y5), (6, .int y6), (7, .int y7), (8, .int y8), (9, .int y9)] → va_P (gD G) vwCl (wld G (Cm, C)) H → va_S (lwA G) s.heap H locs → W p l e (rmv 6 149) s m args below meth c H locs 0 0 (MQ below (Qi G PT r0 (Cm, C0)) args s 0 0 (lwA G)) (F0 m 70 ls [])), ∀ (y1 : Int32) (y2 : Int32) (y3 : Int32) (y4 : Int32) (y5 : Int32) (y6 : Int32) (y8 : Int32) (y9 : Int32) (C : Mm) (H : Heap) (locs : List Loc) (ls : Array Slot), fX11_parts_b119 n k52 k70 y1 y2 y3 y4 y5 y6 y8 y9 C = some (r0, C0) → lv_has ls 10 [(0, .ref (gA G 72)), (1, .int y1), (2, .int y2), (3, .int y3), (4, .int y4), (5, .int y5), (6, .int y6), (8, .int y8), (9, .int y9)] → va_P (gD G) vwCl (wld G (Cm, C)) H → va_S (lwA G) s.heap H locs → W p l e (rmv 6 149) s m args below meth c H locs 0 0 (MQ below (Qi G PT r0 (Cm, C0)) args s 0 0 (lwA G)) (F0 m 119 ls []) := by
    intro k52 hk52 k70 hk70 y1 y2 y3 y4 y5 y6 y8 y9 C H locs ls h hl hP hS
    unfold fX11_parts_b119 at h
    refine lv_aload_n hx hb dX11_parts_119 rfl (lv_at hl 0 rfl) ?_
    obtain ⟨r11, hq10, h⟩ := bn_x h
    refine rc_i hS (run_V hC wX11_seconds k1400 (e_72 G _) rfl hP hS (As := []) (rest := []) (mX11_seconds l G Cm hq10) rfl hl.1 (Nat.le_of_ble_eq_true rfl) ⟨by decide, by decide⟩ ⟨Nat.le_refl _, Nat.le_refl _⟩ rfl dX11_parts_120) (fun H locs pb12 hP hS => ?_)
    refine lv_goto (tgt := 128) hx hb dX11_parts_123 (by decide) ?_
    exact bl128 k52 hk52 k70 hk70 y1 y2 y3 y4 y5 y6 y8 y9 r11 C _ _ _ h (lv_sub hl [0, 1, 2, 3, 4, 5, 6, 7, 8] rfl) hP hS
  have bl70 : ∀ (k52 : Int32 → Int32 → Int32 → Int32 → Int32 → Int32 → Mm → Option (Int32 × Mm)) (hk52 : ∀ (y1 : Int32) (y2 : Int32) (y3 : Int32) (y4 : Int32) (y5 : Int32) (y6 : Int32) (C : Mm) (H : Heap) (locs : List Loc) (ls : Array Slot), k52 y1 y2 y3 y4 y5 y6 C = some (r0, C0) → lv_has ls 10 [(0, .ref (gA G 72)), (1, .int y1), (2, .int y2), (3, .int y3), (4, .int y4), (5, .int y5), (6, .int y6)] → va_P (gD G) vwCl (wld G (Cm, C)) H → va_S (lwA G) s.heap H locs → W p l e (rmv 6 149) s m args below meth c H locs 0 0 (MQ below (Qi G PT r0 (Cm, C0)) args s 0 0 (lwA G)) (F0 m 52 ls [])) (fu : Nat), ∀ (y1 : Int32) (y2 : Int32) (y3 : Int32) (y4 : Int32) (y5 : Int32) (y6 : Int32) (y7 : Int32) (y8 : Int32) (y9 : Int32) (C : Mm) (H : Heap) (locs : List Loc) (ls : Array Slot), fX11_parts_h70 n k52 fu y1 y2 y3 y4 y5 y6 y7 y8 y9 C = some (r0, C0) → lv_has ls 10 [(0, .ref (gA G 72)), (1, .int y1), (2, .int y2), (3, .int y3), (4, .int y4), (5, .int y5), (6, .int y6), (7, .int y7), (8, .int y8), (9, .int y9)] → va_P (gD G) vwCl (wld G (Cm, C)) H → va_S (lwA G) s.heap H locs → W p l e (rmv 6 149) s m args below meth c H locs 0 0 (MQ below (Qi G PT r0 (Cm, C0)) args s 0 0 (lwA G)) (F0 m 70 ls []) := by
    intro k52 hk52 fu
    induction fu with
    | zero =>
      intro y1 y2 y3 y4 y5 y6 y7 y8 y9 C H locs ls h hl hP hS
      rw [fX11_parts_h70.eq_1] at h
      cases h
    | succ fu ih =>
      intro y1 y2 y3 y4 y5 y6 y7 y8 y9 C H locs ls h hl hP hS
      rw [fX11_parts_h70.eq_2] at h
      refine lv_iload hx hb dX11_parts_70 (lv_at hl 9 rfl) ?_
      refine lv_bipush (v := 7) hx hb dX11_parts_72 (by decide) ?_
      refine lv_icmp_ge (tgt := 156) hx hb dX11_parts_74 (by decide) (fun c13 => ?_) (fun c13 => ?_)
      · replace h := it_t c13 h
        refine lv_iload hx hb dX11_parts_156 (lv_at hl 7 rfl) ?_
        refine lv_if_lt (tgt := 182) hx hb dX11_parts_158 (by decide) (fun c14 => ?_) (fun c14 => ?_)
        · replace h := it_t c14 h
          exact bl182 k52 hk52 y1 y2 y3 y4 y5 y6 C _ _ _ h (lv_sub hl [0, 1, 2, 3, 4, 5, 6] rfl) hP hS
        · replace h := it_f c14 h
          refine lv_iload hx hb dX11_parts_161 (lv_at hl 8 rfl) ?_
          refine lv_iload hx hb dX11_parts_163 (lv_at hl 7 rfl) ?_
          refine lv_isub hx hb dX11_parts_165 ?_
          refine lv_iload hx hb dX11_parts_166 (lv_at hl 5 rfl) ?_
          refine lv_icmp_le (tgt := 182) hx hb dX11_parts_168 (by decide) (fun c15 => ?_) (fun c15 => ?_)
          · replace h := it_t c15 h
            exact bl182 k52 hk52 y1 y2 y3 y4 y5 y6 C _ _ _ h (lv_sub hl [0, 1, 2, 3, 4, 5, 6] rfl) hP hS
          · replace h := it_f c15 h
            refine lv_iload hx hb dX11_parts_171 (lv_at hl 6 rfl) ?_
            refine lv_istore (lv' := [(4, .int y6), (0, .ref (gA G 72)), (1, .int y1), (2, .int y2), (3, .int y3), (5, .int y5), (6, .int y6), (7, .int y7), (8, .int y8), (9, .int y9)]) hx hb dX11_parts_173 hl (by decide) rfl (fun ls hl => ?_)
            refine lv_iload hx hb dX11_parts_175 (lv_at hl 8 rfl) ?_
            refine lv_iload hx hb dX11_parts_177 (lv_at hl 7 rfl) ?_
            refine lv_isub hx hb dX11_parts_179 ?_
            refine lv_topi (fun x16 ex16 => ?_)
            replace h := lt_y ex16 h
            refine lv_istore (lv' := [(5, .int x16), (4, .int y6), (0, .ref (gA G 72)), (1, .int y1), (2, .int y2), (3, .int y3), (6, .int y6), (7, .int y7), (8, .int y8), (9, .int y9)]) hx hb dX11_parts_180 hl (by decide) rfl (fun ls hl => ?_)
            exact bl182 k52 hk52 y1 y2 y3 y6 x16 y6 C _ _ _ h (lv_sub hl [2, 3, 4, 5, 1, 0, 6] rfl) hP hS
      · replace h := it_f c13 h
        refine lv_iload_n hx hb dX11_parts_77 rfl (lv_at hl 2 rfl) ?_
        refine lv_iload hx hb dX11_parts_78 (lv_at hl 9 rfl) ?_
        refine lv_ishr hx hb dX11_parts_80 ?_
        refine lv_iconst (v := 1) hx hb dX11_parts_81 (by decide) ?_
        refine lv_iand hx hb dX11_parts_82 ?_
        refine lv_iconst (v := 1) hx hb dX11_parts_83 (by decide) ?_
        refine lv_icmp_ne (tgt := 150) hx hb dX11_parts_84 (by decide) (fun c17 => ?_) (fun c17 => ?_)
        · replace h := it_f c17 h
          exact bl150 k52 hk52 (fX11_parts_h70 n k52 fu) ih y1 y2 y3 y4 y5 y6 y7 y8 y9 C _ _ _ h (lv_sub hl [0, 1, 2, 3, 4, 5, 6, 7, 8, 9] rfl) hP hS
        · replace h := it_t c17 h
          refine lv_aload_n hx hb dX11_parts_87 rfl (lv_at hl 0 rfl) ?_
          refine lv_iload_n hx hb dX11_parts_88 rfl (lv_at hl 1 rfl) ?_
          refine lv_iload hx hb dX11_parts_89 (lv_at hl 9 rfl) ?_
          refine lv_aload_n hx hb dX11_parts_91 rfl (lv_at hl 0 rfl) ?_
          refine r_get (v := .ref (gA G 94)) hC inX11 hP (e_72 G _) rfl 38 (by decide) rfl k1088 rfl dX11_parts_92 ?_
          refine lv_iload hx hb dX11_parts_95 (lv_at hl 6 rfl) ?_
          by_cases c18 : y6 < (0 : Int32) ∨ 8 ≤ Int32.toNatClampNeg y6
          · cases it_t c18 h
          replace h := it_f c18 h
          refine r_iald hC hP (f := C.1 94) (e_94 G _) c18 dX11_parts_97 ?_
          refine lv_iconst (v := 0) hx hb dX11_parts_98 (by decide) ?_
          obtain ⟨r20, C21, hq19, h⟩ := bp_x h
          refine rc_i hS (run_V hC wX11_layOut k1344 (e_72 G _) rfl hP hS (As := [.int y1, .int y9, .int (C.1 94 (Int32.toNatClampNeg y6)), .int 0]) (rest := []) (mX11_layOut l G Cm hq19) rfl hl.1 (Nat.le_of_ble_eq_true rfl) ⟨by decide, by decide⟩ ⟨Nat.le_refl _, Nat.le_refl _⟩ rfl dX11_parts_99) (fun H locs pb22 hP hS => ?_)
          refine lv_if_eq (tgt := 150) hx hb dX11_parts_102 (by decide) (fun c23 => ?_) (fun c23 => ?_)
          · replace h := it_t c23 h
            exact bl150 k52 hk52 (fX11_parts_h70 n k52 fu) ih y1 y2 y3 y4 y5 y6 y7 y8 y9 C21 _ _ _ h (lv_sub hl [0, 1, 2, 3, 4, 5, 6, 7, 8, 9] rfl) hP hS
          · replace h := it_f c23 h
            refine lv_iload hx hb dX11_parts_105 (lv_at hl 7 rfl) ?_
            refine lv_if_lt (tgt := 119) hx hb dX11_parts_107 (by decide) (fun c24 => ?_) (fun c24 => ?_)
            · replace h := it_t c24 h
              exact bl119 k52 hk52 (fX11_parts_h70 n k52 fu) ih y1 y2 y3 y4 y5 y6 y8 y9 C21 _ _ _ h (lv_sub hl [0, 1, 2, 3, 4, 5, 6, 8, 9] rfl) hP hS
            · replace h := it_f c24 h
              refine lv_aload_n hx hb dX11_parts_110 rfl (lv_at hl 0 rfl) ?_
              obtain ⟨r26, hq25, h⟩ := bn_x h
              refine rc_i hS (run_V hC wX11_seconds k1400 (e_72 G _) rfl hP hS (As := []) (rest := []) (mX11_seconds l G Cm hq25) rfl hl.1 (Nat.le_of_ble_eq_true rfl) ⟨by decide, by decide⟩ ⟨Nat.le_refl _, Nat.le_refl _⟩ rfl dX11_parts_111) (fun H locs pb27 hP hS => ?_)
              refine lv_iload hx hb dX11_parts_114 (lv_at hl 7 rfl) ?_
              refine lv_icmp_ge (tgt := 126) hx hb dX11_parts_116 (by decide) (fun c28 => ?_) (fun c28 => ?_)
              · replace h := it_t c28 h
                refine lv_iload hx hb dX11_parts_126 (lv_at hl 7 rfl) ?_
                exact bl128 k52 hk52 (fX11_parts_h70 n k52 fu) ih y1 y2 y3 y4 y5 y6 y8 y9 y7 C21 _ _ _ h (lv_sub hl [0, 1, 2, 3, 4, 5, 6, 8, 9] rfl) hP hS
              · replace h := it_f c28 h
                exact bl119 k52 hk52 (fX11_parts_h70 n k52 fu) ih y1 y2 y3 y4 y5 y6 y8 y9 C21 _ _ _ h (lv_sub hl [0, 1, 2, 3, 4, 5, 6, 8, 9] rfl) hP hS
  have bl52 : ∀ (fu : Nat), ∀ (y1 : Int32) (y2 : Int32) (y3 : Int32) (y4 : Int32) (y5 : Int32) (y6 : Int32) (C : Mm) (H : Heap) (locs : List Loc) (ls : Array Slot), fX11_parts_h52 n fu y1 y2 y3 y4 y5 y6 C = some (r0, C0) → lv_has ls 10 [(0, .ref (gA G 72)), (1, .int y1), (2, .int y2), (3, .int y3), (4, .int y4), (5, .int y5), (6, .int y6)] → va_P (gD G) vwCl (wld G (Cm, C)) H → va_S (lwA G) s.heap H locs → W p l e (rmv 6 149) s m args below meth c H locs 0 0 (MQ below (Qi G PT r0 (Cm, C0)) args s 0 0 (lwA G)) (F0 m 52 ls []) := by
    intro fu
    induction fu with
    | zero =>
      intro y1 y2 y3 y4 y5 y6 C H locs ls h hl hP hS
      rw [fX11_parts_h52.eq_1] at h
      cases h
    | succ fu ih =>
      intro y1 y2 y3 y4 y5 y6 C H locs ls h hl hP hS
      rw [fX11_parts_h52.eq_2] at h
      refine lv_iload hx hb dX11_parts_52 (lv_at hl 6 rfl) ?_
      refine lv_aload_n hx hb dX11_parts_54 rfl (lv_at hl 0 rfl) ?_
      refine r_get (v := .int (C.1 72 37)) hC inX11 hP (e_72 G _) rfl 37 (by decide) rfl k1087 rfl dX11_parts_55 ?_
      refine lv_icmp_ge (tgt := 188) hx hb dX11_parts_58 (by decide) (fun c29 => ?_) (fun c29 => ?_)
      · replace h := it_t c29 h
        refine lv_iload hx hb dX11_parts_188 (lv_at hl 4 rfl) ?_
        refine lv_if_ge (tgt := 198) hx hb dX11_parts_190 (by decide) (fun c30 => ?_) (fun c30 => ?_)
        · replace h := it_t c30 h
          refine lv_iload_n hx hb dX11_parts_198 rfl (lv_at hl 3 rfl) ?_
          refine lv_if_ne (tgt := 207) hx hb dX11_parts_199 (by decide) (fun c31 => ?_) (fun c31 => ?_)
          · replace h := it_f c31 h
            refine lv_iload hx hb dX11_parts_207 (lv_at hl 5 rfl) ?_
            exact re_i' hC hr hP hS (pr_1 h) (congrArg (fun Z : Mm => (Cm, Z)) (pr_2 h)) dX11_parts_209
          · replace h := it_t c31 h
            refine lv_iload hx hb dX11_parts_202 (lv_at hl 4 rfl) ?_
            refine lv_goto (tgt := 209) hx hb dX11_parts_204 (by decide) ?_
            exact re_i' hC hr hP hS (pr_1 h) (congrArg (fun Z : Mm => (Cm, Z)) (pr_2 h)) dX11_parts_209
        · replace h := it_f c30 h
          refine lv_bipush (v := (-2)) hx hb dX11_parts_193 (by decide) ?_
          refine lv_goto (tgt := 209) hx hb dX11_parts_195 (by decide) ?_
          exact re_i' hC hr hP hS (pr_1 h) (congrArg (fun Z : Mm => (Cm, Z)) (pr_2 h)) dX11_parts_209
      · replace h := it_f c29 h
        refine lv_iconst (v := (-1)) hx hb dX11_parts_61 (by decide) ?_
        refine lv_istore (lv' := [(7, .int (-1)), (0, .ref (gA G 72)), (1, .int y1), (2, .int y2), (3, .int y3), (4, .int y4), (5, .int y5), (6, .int y6)]) hx hb dX11_parts_62 hl (by decide) rfl (fun ls hl => ?_)
        refine lv_iconst (v := (-1)) hx hb dX11_parts_64 (by decide) ?_
        refine lv_istore (lv' := [(8, .int (-1)), (7, .int (-1)), (0, .ref (gA G 72)), (1, .int y1), (2, .int y2), (3, .int y3), (4, .int y4), (5, .int y5), (6, .int y6)]) hx hb dX11_parts_65 hl (by decide) rfl (fun ls hl => ?_)
        refine lv_iconst (v := 0) hx hb dX11_parts_67 (by decide) ?_
        refine lv_istore (lv' := [(9, .int 0), (8, .int (-1)), (7, .int (-1)), (0, .ref (gA G 72)), (1, .int y1), (2, .int y2), (3, .int y3), (4, .int y4), (5, .int y5), (6, .int y6)]) hx hb dX11_parts_68 hl (by decide) rfl (fun ls hl => ?_)
        exact bl70 (fX11_parts_h52 n fu) ih n y1 y2 y3 y4 y5 y6 (-1) (-1) 0 C _ _ _ h (lv_sub hl [3, 4, 5, 6, 7, 8, 9, 2, 1, 0] rfl) hP hS
  unfold fX11_parts at h
  refine lv_aload_n hx hb dX11_parts_0 rfl (lv_at hl 0 rfl) ?_
  refine lv_iload_n hx hb dX11_parts_1 rfl (lv_at hl 1 rfl) ?_
  refine rc_i hS (run_V hC wX11_isHead k1297 (e_72 G _) rfl hP hS (As := [.int p1]) (rest := []) (mX11_isHead l G Cm rfl) rfl hl.1 (Nat.le_of_ble_eq_true rfl) ⟨by decide, by decide⟩ ⟨Nat.le_refl _, Nat.le_refl _⟩ rfl dX11_parts_2) (fun H locs pb33 hP hS => ?_)
  refine lv_if_eq (tgt := 30) hx hb dX11_parts_5 (by decide) (fun c34 => ?_) (fun c34 => ?_)
  · replace h := it_t c34 h
    refine lv_iconst (v := (-1)) hx hb dX11_parts_30 (by decide) ?_
    exact re_i' hC hr hP hS (pr_1 h) (congrArg (fun Z : Mm => (Cm, Z)) (pr_2 h)) dX11_parts_31
  · replace h := it_f c34 h
    refine lv_iload_n hx hb dX11_parts_8 rfl (lv_at hl 2 rfl) ?_
    refine lv_i2l hx hb dX11_parts_9 rfl ?_
    refine lv_lconst (v := 0) hx hb dX11_parts_10 (by decide) ?_
    refine lv_ldc2 hx hb (v := 127) hown (hts _ k1507) dX11_parts_11 ?_
    refine rc_i hS (run_S hC wX11_within k1229 hP hS (As := [.long (Int32.toInt64 p2), .long 0, .long 127]) (rest := []) (mX11_within l G Cm rfl) rfl hl.1 (Nat.le_of_ble_eq_true rfl) ⟨by decide, by decide⟩ ⟨Nat.le_refl _, Nat.le_refl _⟩ rfl dX11_parts_14) (fun H locs pb36 hP hS => ?_)
    refine lv_if_eq (tgt := 30) hx hb dX11_parts_17 (by decide) (fun c37 => ?_) (fun c37 => ?_)
    · replace h := it_t c37 h
      refine lv_iconst (v := (-1)) hx hb dX11_parts_30 (by decide) ?_
      exact re_i' hC hr hP hS (pr_1 h) (congrArg (fun Z : Mm => (Cm, Z)) (pr_2 h)) dX11_parts_31
    · replace h := it_f c37 h
      refine lv_iload_n hx hb dX11_parts_20 rfl (lv_at hl 3 rfl) ?_
      refine lv_i2l hx hb dX11_parts_21 rfl ?_
      refine lv_lconst (v := 0) hx hb dX11_parts_22 (by decide) ?_
      refine lv_lconst (v := 1) hx hb dX11_parts_23 (by decide) ?_
      refine rc_i hS (run_S hC wX11_within k1229 hP hS (As := [.long (Int32.toInt64 p3), .long 0, .long 1]) (rest := []) (mX11_within l G Cm rfl) rfl hl.1 (Nat.le_of_ble_eq_true rfl) ⟨by decide, by decide⟩ ⟨Nat.le_refl _, Nat.le_refl _⟩ rfl dX11_parts_24) (fun H locs pb39 hP hS => ?_)
      refine lv_if_ne (tgt := 32) hx hb dX11_parts_27 (by decide) (fun c40 => ?_) (fun c40 => ?_)
      · replace h := it_f c40 h
        refine lv_aload_n hx hb dX11_parts_32 rfl (lv_at hl 0 rfl) ?_
        refine r_get (v := .int (C.1 72 37)) hC inX11 hP (e_72 G _) rfl 37 (by decide) rfl k1087 rfl dX11_parts_33 ?_
        refine lv_if_ne (tgt := 42) hx hb dX11_parts_36 (by decide) (fun c41 => ?_) (fun c41 => ?_)
        · replace h := it_f c41 h
          refine lv_bipush (v := (-2)) hx hb dX11_parts_42 (by decide) ?_
          refine lv_istore (lv' := [(4, .int (-2)), (0, .ref (gA G 72)), (1, .int p1), (2, .int p2), (3, .int p3)]) hx hb dX11_parts_44 hl (by decide) rfl (fun ls hl => ?_)
          refine lv_iconst (v := (-1)) hx hb dX11_parts_46 (by decide) ?_
          refine lv_istore (lv' := [(5, .int (-1)), (4, .int (-2)), (0, .ref (gA G 72)), (1, .int p1), (2, .int p2), (3, .int p3)]) hx hb dX11_parts_47 hl (by decide) rfl (fun ls hl => ?_)
          refine lv_iconst (v := 0) hx hb dX11_parts_49 (by decide) ?_
          refine lv_istore (lv' := [(6, .int 0), (5, .int (-1)), (4, .int (-2)), (0, .ref (gA G 72)), (1, .int p1), (2, .int p2), (3, .int p3)]) hx hb dX11_parts_50 hl (by decide) rfl (fun ls hl => ?_)
          exact bl52 n p1 p2 p3 (-2) (-1) 0 C _ _ _ h (lv_sub hl [3, 4, 5, 6, 2, 1, 0] rfl) hP hS
        · replace h := it_t c41 h
          refine lv_bipush (v := (-5)) hx hb dX11_parts_39 (by decide) ?_
          exact re_i' hC hr hP hS (pr_1 h) (congrArg (fun Z : Mm => (Cm, Z)) (pr_2 h)) dX11_parts_41
      · replace h := it_t c40 h
        refine lv_iconst (v := (-1)) hx hb dX11_parts_30 (by decide) ?_
        exact re_i' hC hr hP hS (pr_1 h) (congrArg (fun Z : Mm => (Cm, Z)) (pr_2 h)) dX11_parts_31
set_option maxHeartbeats 4000000 in
set_option maxRecDepth 100000 in
theorem mX11_keeps (l : Launch) (G : gp) (Cm : Mm) {n : Nat} {p1 : Int32} {C : Mm} {C0 : Mm} (h : fX11_keeps n p1 C = some C0) : Met l yX11_keeps (wsy yX11_keeps cX11_keeps 3 none) (rmv 0 0) (va_Pc [.ref (gA G 72), .int p1] (Rl G (Cm, C))) (Qv G (Cm, C0)) 0 0 (lwA G) := by
  refine met_i [.ref (gA G 72), .int p1] wX11_keeps.2.2.2.2.2 (Nat.le_of_ble_eq_true rfl) ?_
  intro p e s m args below meth c ls hC hr hP hl
  have hC : Cx G p s m args meth c cX11_keeps RX11 3 := hC
  have hx := hC.1
  have hb := hC.2.1
  have hown := hC.2.2.2.1
  have hts := hC.2.2.2.2.1
  have hS : va_S (lwA G) s.heap s.heap [] := va_S.rf
  have hl : lv_has ls 3 [(0, .ref (gA G 72)), (1, .int p1)] := hl
  have bl12 : ∀ (fu : Nat), ∀ (y1 : Int32) (y2 : Int32) (C : Mm) (H : Heap) (locs : List Loc) (ls : Array Slot), fX11_keeps_h12 n fu y1 y2 C = some C0 → lv_has ls 3 [(0, .ref (gA G 72)), (1, .int y1), (2, .int y2)] → va_P (gD G) vwCl (wld G (Cm, C)) H → va_S (lwA G) s.heap H locs → W p l e (rmv 0 0) s m args below meth c H locs 0 0 (MQ below (Qv G (Cm, C0)) args s 0 0 (lwA G)) (F0 m 12 ls []) := by
    intro fu
    induction fu with
    | zero =>
      intro y1 y2 C H locs ls h hl hP hS
      rw [fX11_keeps_h12.eq_1] at h
      cases h
    | succ fu ih =>
      intro y1 y2 C H locs ls h hl hP hS
      rw [fX11_keeps_h12.eq_2] at h
      refine lv_iload_n hx hb dX11_keeps_12 rfl (lv_at hl 2 rfl) ?_
      refine lv_bipush (v := 60) hx hb dX11_keeps_13 (by decide) ?_
      refine lv_icmp_ge (tgt := 41) hx hb dX11_keeps_15 (by decide) (fun c1 => ?_) (fun c1 => ?_)
      · replace h := it_t c1 h
        exact re_v' hC hr hP hS (congrArg (fun Z : Mm => (Cm, Z)) (Option.some.inj h)) dX11_keeps_41
      · replace h := it_f c1 h
        refine lv_aload_n hx hb dX11_keeps_18 rfl (lv_at hl 0 rfl) ?_
        refine r_get (v := .ref (gA G 95)) hC inX11 hP (e_72 G _) rfl 39 (by decide) rfl k1089 rfl dX11_keeps_19 ?_
        refine lv_iload_n hx hb dX11_keeps_22 rfl (lv_at hl 2 rfl) ?_
        refine lv_aload_n hx hb dX11_keeps_23 rfl (lv_at hl 0 rfl) ?_
        refine r_get (v := .ref (gA G 83)) hC inX11 hP (e_72 G _) rfl 20 (by decide) rfl k1070 rfl dX11_keeps_24 ?_
        refine lv_bipush (v := 60) hx hb dX11_keeps_27 (by decide) ?_
        refine lv_iload_n hx hb dX11_keeps_29 rfl (lv_at hl 1 rfl) ?_
        refine lv_imul hx hb dX11_keeps_30 ?_
        refine lv_iload_n hx hb dX11_keeps_31 rfl (lv_at hl 2 rfl) ?_
        refine lv_iadd hx hb dX11_keeps_32 ?_
        by_cases c2 : ((60 * y1) + y2) < (0 : Int32) ∨ 360 ≤ Int32.toNatClampNeg ((60 * y1) + y2)
        · cases it_t c2 h
        replace h := it_f c2 h
        refine r_iald hC hP (f := C.1 83) (e_83 G _) c2 dX11_keeps_33 ?_
        by_cases c3 : y2 < (0 : Int32) ∨ 60 ≤ Int32.toNatClampNeg y2
        · cases it_t c3 h
        replace h := it_f c3 h
        obtain ⟨C4, eC4⟩ : ∃ Z : Mm, Z = wrI C 95 (Int32.toNatClampNeg y2) (C.1 83 (Int32.toNatClampNeg ((60 * y1) + y2))) := ⟨_, rfl⟩
        replace h := lt_y eC4 h
        refine r_iast (X' := (Cm, C4)) hC hP hS (e_95 G _) c3 (a_95 G _ _ _ _ eC4) dX11_keeps_34 (fun H locs hP hS => ?_)
        obtain ⟨x5, ex5⟩ : ∃ y : Int32, y = y2 + 1 := ⟨_, rfl⟩
        replace h := lt_y ex5 h
        refine lv_iinc (v := x5) (lv' := [(2, .int x5), (0, .ref (gA G 72)), (1, .int y1)]) hx hb dX11_keeps_35 hl (k := 2) rfl (by rw [ex5]; rfl) (by decide) rfl (fun ls hl => ?_)
        refine lv_goto (tgt := 12) hx hb dX11_keeps_38 (by decide) ?_
        exact ih y1 x5 C4 _ _ _ h (lv_sub hl [1, 2, 0] rfl) hP hS
  unfold fX11_keeps at h
  refine lv_aload_n hx hb dX11_keeps_0 rfl (lv_at hl 0 rfl) ?_
  refine lv_aload_n hx hb dX11_keeps_1 rfl (lv_at hl 0 rfl) ?_
  refine r_get (v := .ref (gA G 81)) hC inX11 hP (e_72 G _) rfl 18 (by decide) rfl k1068 rfl dX11_keeps_2 ?_
  refine lv_iload_n hx hb dX11_keeps_5 rfl (lv_at hl 1 rfl) ?_
  by_cases c6 : p1 < (0 : Int32) ∨ 6 ≤ Int32.toNatClampNeg p1
  · cases it_t c6 h
  replace h := it_f c6 h
  refine r_iald hC hP (f := C.1 81) (e_81 G _) c6 dX11_keeps_6 ?_
  obtain ⟨C7, eC7⟩ : ∃ Z : Mm, Z = wrI C 72 40 (C.1 81 (Int32.toNatClampNeg p1)) := ⟨_, rfl⟩
  replace h := lt_y eC7 h
  refine r_put (X' := (Cm, C7)) hC inX11 tyX11 tyX11_ok nmX11 hP hS (e_72 G _) rfl 40 (by decide) rfl k1090 rfl (v := .int (C.1 81 (Int32.toNatClampNeg p1))) rfl rfl (Nat.le_of_ble_eq_true rfl) (p_72_40 G _ _ eC7) dX11_keeps_7 (fun H locs hP hS => ?_)
  refine lv_iconst (v := 0) hx hb dX11_keeps_10 (by decide) ?_
  refine lv_istore_n (lv' := [(2, .int 0), (0, .ref (gA G 72)), (1, .int p1)]) hx hb dX11_keeps_11 rfl hl (by decide) rfl (fun ls hl => ?_)
  exact bl12 n p1 0 C7 _ _ _ h (lv_sub hl [1, 2, 0] rfl) hP hS
set_option maxHeartbeats 4000000 in
set_option maxRecDepth 100000 in
theorem mX11_putsBack (l : Launch) (G : gp) (Cm : Mm) {n : Nat} {p1 : Int32} {C : Mm} {C0 : Mm} (h : fX11_putsBack n p1 C = some C0) : Met l yX11_putsBack (wsy yX11_putsBack cX11_putsBack 3 none) (rmv 0 0) (va_Pc [.ref (gA G 72), .int p1] (Rl G (Cm, C))) (Qv G (Cm, C0)) 0 0 (lwA G) := by
  refine met_i [.ref (gA G 72), .int p1] wX11_putsBack.2.2.2.2.2 (Nat.le_of_ble_eq_true rfl) ?_
  intro p e s m args below meth c ls hC hr hP hl
  have hC : Cx G p s m args meth c cX11_putsBack RX11 3 := hC
  have hx := hC.1
  have hb := hC.2.1
  have hown := hC.2.2.2.1
  have hts := hC.2.2.2.2.1
  have hS : va_S (lwA G) s.heap s.heap [] := va_S.rf
  have hl : lv_has ls 3 [(0, .ref (gA G 72)), (1, .int p1)] := hl
  have bl12 : ∀ (fu : Nat), ∀ (y1 : Int32) (y2 : Int32) (C : Mm) (H : Heap) (locs : List Loc) (ls : Array Slot), fX11_putsBack_h12 n fu y1 y2 C = some C0 → lv_has ls 3 [(0, .ref (gA G 72)), (1, .int y1), (2, .int y2)] → va_P (gD G) vwCl (wld G (Cm, C)) H → va_S (lwA G) s.heap H locs → W p l e (rmv 0 0) s m args below meth c H locs 0 0 (MQ below (Qv G (Cm, C0)) args s 0 0 (lwA G)) (F0 m 12 ls []) := by
    intro fu
    induction fu with
    | zero =>
      intro y1 y2 C H locs ls h hl hP hS
      rw [fX11_putsBack_h12.eq_1] at h
      cases h
    | succ fu ih =>
      intro y1 y2 C H locs ls h hl hP hS
      rw [fX11_putsBack_h12.eq_2] at h
      refine lv_iload_n hx hb dX11_putsBack_12 rfl (lv_at hl 2 rfl) ?_
      refine lv_bipush (v := 60) hx hb dX11_putsBack_13 (by decide) ?_
      refine lv_icmp_ge (tgt := 41) hx hb dX11_putsBack_15 (by decide) (fun c1 => ?_) (fun c1 => ?_)
      · replace h := it_t c1 h
        exact re_v' hC hr hP hS (congrArg (fun Z : Mm => (Cm, Z)) (Option.some.inj h)) dX11_putsBack_41
      · replace h := it_f c1 h
        refine lv_aload_n hx hb dX11_putsBack_18 rfl (lv_at hl 0 rfl) ?_
        refine r_get (v := .ref (gA G 83)) hC inX11 hP (e_72 G _) rfl 20 (by decide) rfl k1070 rfl dX11_putsBack_19 ?_
        refine lv_bipush (v := 60) hx hb dX11_putsBack_22 (by decide) ?_
        refine lv_iload_n hx hb dX11_putsBack_24 rfl (lv_at hl 1 rfl) ?_
        refine lv_imul hx hb dX11_putsBack_25 ?_
        refine lv_iload_n hx hb dX11_putsBack_26 rfl (lv_at hl 2 rfl) ?_
        refine lv_iadd hx hb dX11_putsBack_27 ?_
        refine lv_aload_n hx hb dX11_putsBack_28 rfl (lv_at hl 0 rfl) ?_
        refine r_get (v := .ref (gA G 95)) hC inX11 hP (e_72 G _) rfl 39 (by decide) rfl k1089 rfl dX11_putsBack_29 ?_
        refine lv_iload_n hx hb dX11_putsBack_32 rfl (lv_at hl 2 rfl) ?_
        by_cases c2 : y2 < (0 : Int32) ∨ 60 ≤ Int32.toNatClampNeg y2
        · cases it_t c2 h
        replace h := it_f c2 h
        refine r_iald hC hP (f := C.1 95) (e_95 G _) c2 dX11_putsBack_33 ?_
        by_cases c3 : ((60 * y1) + y2) < (0 : Int32) ∨ 360 ≤ Int32.toNatClampNeg ((60 * y1) + y2)
        · cases it_t c3 h
        replace h := it_f c3 h
        obtain ⟨C4, eC4⟩ : ∃ Z : Mm, Z = wrI C 83 (Int32.toNatClampNeg ((60 * y1) + y2)) (C.1 95 (Int32.toNatClampNeg y2)) := ⟨_, rfl⟩
        replace h := lt_y eC4 h
        refine r_iast (X' := (Cm, C4)) hC hP hS (e_83 G _) c3 (a_83 G _ _ _ _ eC4) dX11_putsBack_34 (fun H locs hP hS => ?_)
        obtain ⟨x5, ex5⟩ : ∃ y : Int32, y = y2 + 1 := ⟨_, rfl⟩
        replace h := lt_y ex5 h
        refine lv_iinc (v := x5) (lv' := [(2, .int x5), (0, .ref (gA G 72)), (1, .int y1)]) hx hb dX11_putsBack_35 hl (k := 2) rfl (by rw [ex5]; rfl) (by decide) rfl (fun ls hl => ?_)
        refine lv_goto (tgt := 12) hx hb dX11_putsBack_38 (by decide) ?_
        exact ih y1 x5 C4 _ _ _ h (lv_sub hl [1, 2, 0] rfl) hP hS
  unfold fX11_putsBack at h
  refine lv_aload_n hx hb dX11_putsBack_0 rfl (lv_at hl 0 rfl) ?_
  refine r_get (v := .ref (gA G 81)) hC inX11 hP (e_72 G _) rfl 18 (by decide) rfl k1068 rfl dX11_putsBack_1 ?_
  refine lv_iload_n hx hb dX11_putsBack_4 rfl (lv_at hl 1 rfl) ?_
  refine lv_aload_n hx hb dX11_putsBack_5 rfl (lv_at hl 0 rfl) ?_
  refine r_get (v := .int (C.1 72 40)) hC inX11 hP (e_72 G _) rfl 40 (by decide) rfl k1090 rfl dX11_putsBack_6 ?_
  by_cases c6 : p1 < (0 : Int32) ∨ 6 ≤ Int32.toNatClampNeg p1
  · cases it_t c6 h
  replace h := it_f c6 h
  obtain ⟨C7, eC7⟩ : ∃ Z : Mm, Z = wrI C 81 (Int32.toNatClampNeg p1) (C.1 72 40) := ⟨_, rfl⟩
  replace h := lt_y eC7 h
  refine r_iast (X' := (Cm, C7)) hC hP hS (e_81 G _) c6 (a_81 G _ _ _ _ eC7) dX11_putsBack_9 (fun H locs hP hS => ?_)
  refine lv_iconst (v := 0) hx hb dX11_putsBack_10 (by decide) ?_
  refine lv_istore_n (lv' := [(2, .int 0), (0, .ref (gA G 72)), (1, .int p1)]) hx hb dX11_putsBack_11 rfl hl (by decide) rfl (fun ls hl => ?_)
  exact bl12 n p1 0 C7 _ _ _ h (lv_sub hl [1, 2, 0] rfl) hP hS
set_option maxHeartbeats 4000000 in
set_option maxRecDepth 100000 in
theorem mX11_asksOne (l : Launch) (G : gp) (Cm : Mm) {n : Nat} {p1 : Int32} {p2 : Int32} {C : Mm} {r0 : Int32} {C0 : Mm} (h : fX11_asksOne n p1 p2 C = some (r0, C0)) : Met l yX11_asksOne (wsy yX11_asksOne cX11_asksOne 6 (some .int)) (rmv 82 1875) (va_Pc [.ref (gA G 72), .int p1, .int p2] (Rl G (Cm, C))) (Qi G PT r0 (Cm, C0)) 0 0 (lwA G) := by
  refine met_i [.ref (gA G 72), .int p1, .int p2] wX11_asksOne.2.2.2.2.2 (Nat.le_of_ble_eq_true rfl) ?_
  intro p e s m args below meth c ls hC hr hP hl
  have hC : Cx G p s m args meth c cX11_asksOne RX11 6 := hC
  have hx := hC.1
  have hb := hC.2.1
  have hown := hC.2.2.2.1
  have hts := hC.2.2.2.2.1
  have hS : va_S (lwA G) s.heap s.heap [] := va_S.rf
  have hl : lv_has ls 6 [(0, .ref (gA G 72)), (1, .int p1), (2, .int p2)] := hl
  unfold fX11_asksOne at h
  refine lv_aload_n hx hb dX11_asksOne_0 rfl (lv_at hl 0 rfl) ?_
  refine lv_iload_n hx hb dX11_asksOne_1 rfl (lv_at hl 1 rfl) ?_
  refine lv_iload_n hx hb dX11_asksOne_2 rfl (lv_at hl 2 rfl) ?_
  refine lv_iconst (v := 0) hx hb dX11_asksOne_3 (by decide) ?_
  obtain ⟨r2, C3, hq1, h⟩ := bp_x h
  refine rc_i hS (run_V hC wX11_chosenBy k1418 (e_72 G _) rfl hP hS (As := [.int p1, .int p2, .int 0]) (rest := []) (mX11_chosenBy l G Cm hq1) rfl hl.1 (Nat.le_of_ble_eq_true rfl) ⟨by decide, by decide⟩ ⟨Nat.le_refl _, Nat.le_refl _⟩ rfl dX11_asksOne_4) (fun H locs pb4 hP hS => ?_)
  refine lv_istore_n (lv' := [(3, .int r2), (0, .ref (gA G 72)), (1, .int p1), (2, .int p2)]) hx hb dX11_asksOne_7 rfl hl (by decide) rfl (fun ls hl => ?_)
  refine lv_aload_n hx hb dX11_asksOne_8 rfl (lv_at hl 1 rfl) ?_
  obtain ⟨r6, hq5, h⟩ := bn_x h
  refine rc_i hS (run_V hC wX11_seconds k1400 (e_72 G _) rfl hP hS (As := []) (rest := []) (mX11_seconds l G Cm hq5) rfl hl.1 (Nat.le_of_ble_eq_true rfl) ⟨by decide, by decide⟩ ⟨Nat.le_refl _, Nat.le_refl _⟩ rfl dX11_asksOne_9) (fun H locs pb7 hP hS => ?_)
  refine lv_istore (lv' := [(4, .int r6), (3, .int r2), (0, .ref (gA G 72)), (1, .int p1), (2, .int p2)]) hx hb dX11_asksOne_12 hl (by decide) rfl (fun ls hl => ?_)
  refine lv_aload_n hx hb dX11_asksOne_14 rfl (lv_at hl 2 rfl) ?_
  refine lv_iload_n hx hb dX11_asksOne_15 rfl (lv_at hl 3 rfl) ?_
  refine lv_iload_n hx hb dX11_asksOne_16 rfl (lv_at hl 4 rfl) ?_
  obtain ⟨r9, C10, hq8, h⟩ := bp_x h
  refine rc_i hS (run_V hC wX11_askOf k1321 (e_72 G _) rfl hP hS (As := [.int p1, .int p2]) (rest := []) (mX11_askOf l G Cm hq8) rfl hl.1 (Nat.le_of_ble_eq_true rfl) ⟨by decide, by decide⟩ ⟨Nat.le_refl _, Nat.le_refl _⟩ rfl dX11_asksOne_17) (fun H locs pb11 hP hS => ?_)
  refine lv_istore (lv' := [(5, .int r9), (4, .int r6), (3, .int r2), (0, .ref (gA G 72)), (1, .int p1), (2, .int p2)]) hx hb dX11_asksOne_20 hl (by decide) rfl (fun ls hl => ?_)
  refine lv_iload hx hb dX11_asksOne_22 (lv_at hl 1 rfl) ?_
  exact re_i' hC hr hP hS (pr_1 h) (congrArg (fun Z : Mm => (Cm, Z)) (pr_2 h)) dX11_asksOne_24
set_option maxHeartbeats 4000000 in
set_option maxRecDepth 100000 in
theorem mX11_isListBad (l : Launch) (G : gp) (Cm : Mm) {n : Nat} {C : Mm} {r0 : Int32} (h : fX11_isListBad n C = some r0) : Met l yX11_isListBad (wsy yX11_isListBad cX11_isListBad 2 (some .boolean)) (rmv 1 20) (va_Pc [.ref (gA G 72)] (Rl G (Cm, C))) (Qi G PZ r0 (Cm, C)) 0 0 (lwA G) := by
  refine met_i [.ref (gA G 72)] wX11_isListBad.2.2.2.2.2 (Nat.le_of_ble_eq_true rfl) ?_
  intro p e s m args below meth c ls hC hr hP hl
  have hC : Cx G p s m args meth c cX11_isListBad RX11 2 := hC
  have hx := hC.1
  have hb := hC.2.1
  have hown := hC.2.2.2.1
  have hts := hC.2.2.2.2.1
  have hS : va_S (lwA G) s.heap s.heap [] := va_S.rf
  have hl : lv_has ls 2 [(0, .ref (gA G 72))] := hl
  have bl2 : ∀ (fu : Nat), ∀ (y1 : Int32) (C : Mm) (H : Heap) (locs : List Loc) (ls : Array Slot), fX11_isListBad_h2 n fu y1 C = some r0 → lv_has ls 2 [(0, .ref (gA G 72)), (1, .int y1)] → va_P (gD G) vwCl (wld G (Cm, C)) H → va_S (lwA G) s.heap H locs → W p l e (rmv 1 20) s m args below meth c H locs 0 0 (MQ below (Qi G PZ r0 (Cm, C)) args s 0 0 (lwA G)) (F0 m 2 ls []) := by
    intro fu
    induction fu with
    | zero =>
      intro y1 C H locs ls h hl hP hS
      rw [fX11_isListBad_h2.eq_1] at h
      cases h
    | succ fu ih =>
      intro y1 C H locs ls h hl hP hS
      rw [fX11_isListBad_h2.eq_2] at h
      refine lv_iload_n hx hb dX11_isListBad_2 rfl (lv_at hl 1 rfl) ?_
      refine lv_aload_n hx hb dX11_isListBad_3 rfl (lv_at hl 0 rfl) ?_
      refine r_get (v := .int (C.1 72 37)) hC inX11 hP (e_72 G _) rfl 37 (by decide) rfl k1087 rfl dX11_isListBad_4 ?_
      refine lv_icmp_ge (tgt := 30) hx hb dX11_isListBad_7 (by decide) (fun c1 => ?_) (fun c1 => ?_)
      · replace h := it_t c1 h
        refine lv_iconst (v := 0) hx hb dX11_isListBad_30 (by decide) ?_
        exact re_z' hC hr hP hS PZ0 (Option.some.inj h) rfl dX11_isListBad_31
      · replace h := it_f c1 h
        refine lv_aload_n hx hb dX11_isListBad_10 rfl (lv_at hl 0 rfl) ?_
        refine r_get (v := .ref (gA G 94)) hC inX11 hP (e_72 G _) rfl 38 (by decide) rfl k1088 rfl dX11_isListBad_11 ?_
        refine lv_iload_n hx hb dX11_isListBad_14 rfl (lv_at hl 1 rfl) ?_
        by_cases c2 : y1 < (0 : Int32) ∨ 8 ≤ Int32.toNatClampNeg y1
        · cases it_t c2 h
        replace h := it_f c2 h
        refine r_iald hC hP (f := C.1 94) (e_94 G _) c2 dX11_isListBad_15 ?_
        refine rc_i hS (run_S hC wX11_isSmall k1325 hP hS (As := [.int (C.1 94 (Int32.toNatClampNeg y1))]) (rest := []) (mX11_isSmall l G Cm rfl) rfl hl.1 (Nat.le_of_ble_eq_true rfl) ⟨by decide, by decide⟩ ⟨Nat.le_refl _, Nat.le_refl _⟩ rfl dX11_isListBad_16) (fun H locs pb4 hP hS => ?_)
        refine lv_if_ne (tgt := 24) hx hb dX11_isListBad_19 (by decide) (fun c5 => ?_) (fun c5 => ?_)
        · replace h := it_f c5 h
          obtain ⟨x6, ex6⟩ : ∃ y : Int32, y = y1 + 1 := ⟨_, rfl⟩
          replace h := lt_y ex6 h
          refine lv_iinc (v := x6) (lv' := [(1, .int x6), (0, .ref (gA G 72))]) hx hb dX11_isListBad_24 hl (k := 1) rfl (by rw [ex6]; rfl) (by decide) rfl (fun ls hl => ?_)
          refine lv_goto (tgt := 2) hx hb dX11_isListBad_27 (by decide) ?_
          exact ih x6 C _ _ _ h (lv_sub hl [1, 0] rfl) hP hS
        · replace h := it_t c5 h
          refine lv_iconst (v := 1) hx hb dX11_isListBad_22 (by decide) ?_
          exact re_z' hC hr hP hS PZ1 (Option.some.inj h) rfl dX11_isListBad_23
  unfold fX11_isListBad at h
  refine lv_iconst (v := 0) hx hb dX11_isListBad_0 (by decide) ?_
  refine lv_istore_n (lv' := [(1, .int 0), (0, .ref (gA G 72))]) hx hb dX11_isListBad_1 rfl hl (by decide) rfl (fun ls hl => ?_)
  exact bl2 n 0 C _ _ _ h (lv_sub hl [1, 0] rfl) hP hS
set_option maxHeartbeats 4000000 in
set_option maxRecDepth 100000 in
theorem mX11_taught (l : Launch) (G : gp) (Cm : Mm) {n : Nat} {p1 : Int32} {p2 : Int32} {p3 : Int32} {C : Mm} {r0 : Int32} {C0 : Mm} (h : fX11_taught n p1 p2 p3 C = some (r0, C0)) : Met l yX11_taught (wsy yX11_taught cX11_taught 6 (some .int)) (rmv 83 1900) (va_Pc [.ref (gA G 72), .int p1, .int p2, .int p3] (Rl G (Cm, C))) (Qi G PT r0 (Cm, C0)) 0 0 (lwA G) := by
  refine met_i [.ref (gA G 72), .int p1, .int p2, .int p3] wX11_taught.2.2.2.2.2 (Nat.le_of_ble_eq_true rfl) ?_
  intro p e s m args below meth c ls hC hr hP hl
  have hC : Cx G p s m args meth c cX11_taught RX11 6 := hC
  have hx := hC.1
  have hb := hC.2.1
  have hown := hC.2.2.2.1
  have hts := hC.2.2.2.2.1
  have hS : va_S (lwA G) s.heap s.heap [] := va_S.rf
  have hl : lv_has ls 6 [(0, .ref (gA G 72)), (1, .int p1), (2, .int p2), (3, .int p3)] := hl
  have bl60 : ∀ (fu : Nat), ∀ (y1 : Int32) (y2 : Int32) (y3 : Int32) (y4 : Int32) (y5 : Int32) (C : Mm) (H : Heap) (locs : List Loc) (ls : Array Slot), fX11_taught_h60 n fu y1 y2 y3 y4 y5 C = some (r0, C0) → lv_has ls 6 [(0, .ref (gA G 72)), (1, .int y1), (2, .int y2), (3, .int y3), (4, .int y4), (5, .int y5)] → va_P (gD G) vwCl (wld G (Cm, C)) H → va_S (lwA G) s.heap H locs → W p l e (rmv 83 1900) s m args below meth c H locs 0 0 (MQ below (Qi G PT r0 (Cm, C0)) args s 0 0 (lwA G)) (F0 m 60 ls []) := by
    intro fu
    induction fu with
    | zero =>
      intro y1 y2 y3 y4 y5 C H locs ls h hl hP hS
      rw [fX11_taught_h60.eq_1] at h
      cases h
    | succ fu ih =>
      intro y1 y2 y3 y4 y5 C H locs ls h hl hP hS
      rw [fX11_taught_h60.eq_2] at h
      refine lv_iload hx hb dX11_taught_60 (lv_at hl 5 rfl) ?_
      refine lv_iload_n hx hb dX11_taught_62 rfl (lv_at hl 2 rfl) ?_
      refine lv_icmp_ge (tgt := 94) hx hb dX11_taught_63 (by decide) (fun c1 => ?_) (fun c1 => ?_)
      · replace h := it_t c1 h
        refine lv_aload_n hx hb dX11_taught_94 rfl (lv_at hl 0 rfl) ?_
        refine lv_iload_n hx hb dX11_taught_95 rfl (lv_at hl 1 rfl) ?_
        obtain ⟨r3, hq2, h⟩ := bn_x h
        refine rc_i hS (run_V hC wX11_learntOf k1301 (e_72 G _) rfl hP hS (As := [.int y1]) (rest := []) (mX11_learntOf l G Cm hq2) rfl hl.1 (Nat.le_of_ble_eq_true rfl) ⟨by decide, by decide⟩ ⟨Nat.le_refl _, Nat.le_refl _⟩ rfl dX11_taught_96) (fun H locs pb4 hP hS => ?_)
        refine lv_istore (lv' := [(5, .int r3), (0, .ref (gA G 72)), (1, .int y1), (2, .int y2), (3, .int y3), (4, .int y4)]) hx hb dX11_taught_99 hl (by decide) rfl (fun ls hl => ?_)
        refine lv_aload_n hx hb dX11_taught_101 rfl (lv_at hl 1 rfl) ?_
        refine lv_iload_n hx hb dX11_taught_102 rfl (lv_at hl 2 rfl) ?_
        obtain ⟨C6, hq5, h⟩ := bn_x h
        refine rc_v hS (run_V hC wX11_putsBack k1525 (e_72 G _) rfl hP hS (As := [.int y1]) (rest := []) (mX11_putsBack l G Cm hq5) rfl hl.1 (Nat.le_of_ble_eq_true rfl) ⟨by decide, by decide⟩ ⟨Nat.le_refl _, Nat.le_refl _⟩ rfl dX11_taught_103) (fun H locs hP hS => ?_)
        refine lv_iload_n hx hb dX11_taught_106 rfl (lv_at hl 4 rfl) ?_
        refine lv_if_ne (tgt := 115) hx hb dX11_taught_107 (by decide) (fun c7 => ?_) (fun c7 => ?_)
        · replace h := it_f c7 h
          refine lv_iload hx hb dX11_taught_115 (lv_at hl 0 rfl) ?_
          exact re_i' hC hr hP hS (pr_1 h) (congrArg (fun Z : Mm => (Cm, Z)) (pr_2 h)) dX11_taught_117
        · replace h := it_t c7 h
          refine lv_iload hx hb dX11_taught_110 (lv_at hl 5 rfl) ?_
          refine lv_goto (tgt := 117) hx hb dX11_taught_112 (by decide) ?_
          exact re_i' hC hr hP hS (pr_1 h) (congrArg (fun Z : Mm => (Cm, Z)) (pr_2 h)) dX11_taught_117
      · replace h := it_f c1 h
        refine lv_iload hx hb dX11_taught_66 (lv_at hl 4 rfl) ?_
        refine lv_aload_n hx hb dX11_taught_68 rfl (lv_at hl 0 rfl) ?_
        refine lv_iload_n hx hb dX11_taught_69 rfl (lv_at hl 1 rfl) ?_
        refine lv_aload_n hx hb dX11_taught_70 rfl (lv_at hl 0 rfl) ?_
        refine r_get (v := .ref (gA G 94)) hC inX11 hP (e_72 G _) rfl 38 (by decide) rfl k1088 rfl dX11_taught_71 ?_
        refine lv_iload hx hb dX11_taught_74 (lv_at hl 5 rfl) ?_
        refine lv_aload_n hx hb dX11_taught_76 rfl (lv_at hl 0 rfl) ?_
        refine r_get (v := .int (C.1 72 37)) hC inX11 hP (e_72 G _) rfl 37 (by decide) rfl k1087 rfl dX11_taught_77 ?_
        by_cases c8 : (C.1 72 37) = 0
        · cases it_t c8 h
        replace h := it_f c8 h
        refine r_irem hx hb dX11_taught_80 c8 ?_
        by_cases c9 : (irm y5 (C.1 72 37)) < (0 : Int32) ∨ 8 ≤ Int32.toNatClampNeg (irm y5 (C.1 72 37))
        · cases it_t c9 h
        replace h := it_f c9 h
        refine r_iald hC hP (f := C.1 94) (e_94 G _) c9 dX11_taught_81 ?_
        obtain ⟨r11, C12, hq10, h⟩ := bp_x h
        refine rc_i hS (run_V hC wX11_asksOne k1521 (e_72 G _) rfl hP hS (As := [.int y1, .int (C.1 94 (Int32.toNatClampNeg (irm y5 (C.1 72 37))))]) (rest := [.int y4]) (mX11_asksOne l G Cm hq10) rfl hl.1 (Nat.le_of_ble_eq_true rfl) ⟨by decide, by decide⟩ ⟨Nat.le_refl _, Nat.le_refl _⟩ rfl dX11_taught_82) (fun H locs pb13 hP hS => ?_)
        refine lv_iadd hx hb dX11_taught_85 ?_
        refine lv_topi (fun x14 ex14 => ?_)
        replace h := lt_y ex14 h
        refine lv_istore (lv' := [(4, .int x14), (0, .ref (gA G 72)), (1, .int y1), (2, .int y2), (3, .int y3), (5, .int y5)]) hx hb dX11_taught_86 hl (by decide) rfl (fun ls hl => ?_)
        obtain ⟨x15, ex15⟩ : ∃ y : Int32, y = y5 + 1 := ⟨_, rfl⟩
        replace h := lt_y ex15 h
        refine lv_iinc (v := x15) (lv' := [(5, .int x15), (4, .int x14), (0, .ref (gA G 72)), (1, .int y1), (2, .int y2), (3, .int y3)]) hx hb dX11_taught_88 hl (k := 5) rfl (by rw [ex15]; rfl) (by decide) rfl (fun ls hl => ?_)
        refine lv_goto (tgt := 60) hx hb dX11_taught_91 (by decide) ?_
        exact ih y1 y2 y3 x14 x15 C12 _ _ _ h (lv_sub hl [2, 3, 4, 5, 1, 0] rfl) hP hS
  unfold fX11_taught at h
  refine lv_aload_n hx hb dX11_taught_0 rfl (lv_at hl 0 rfl) ?_
  refine lv_iload_n hx hb dX11_taught_1 rfl (lv_at hl 1 rfl) ?_
  refine rc_i hS (run_V hC wX11_isHead k1297 (e_72 G _) rfl hP hS (As := [.int p1]) (rest := []) (mX11_isHead l G Cm rfl) rfl hl.1 (Nat.le_of_ble_eq_true rfl) ⟨by decide, by decide⟩ ⟨Nat.le_refl _, Nat.le_refl _⟩ rfl dX11_taught_2) (fun H locs pb17 hP hS => ?_)
  refine lv_if_eq (tgt := 37) hx hb dX11_taught_5 (by decide) (fun c18 => ?_) (fun c18 => ?_)
  · replace h := it_t c18 h
    refine lv_iconst (v := (-1)) hx hb dX11_taught_37 (by decide) ?_
    exact re_i' hC hr hP hS (pr_1 h) (congrArg (fun Z : Mm => (Cm, Z)) (pr_2 h)) dX11_taught_38
  · replace h := it_f c18 h
    refine lv_iload_n hx hb dX11_taught_8 rfl (lv_at hl 2 rfl) ?_
    refine lv_i2l hx hb dX11_taught_9 rfl ?_
    refine lv_lconst (v := 1) hx hb dX11_taught_10 (by decide) ?_
    refine lv_ldc2 hx hb (v := 50) hown (hts _ k1512) dX11_taught_11 ?_
    refine rc_i hS (run_S hC wX11_within k1229 hP hS (As := [.long (Int32.toInt64 p2), .long 1, .long 50]) (rest := []) (mX11_within l G Cm rfl) rfl hl.1 (Nat.le_of_ble_eq_true rfl) ⟨by decide, by decide⟩ ⟨Nat.le_refl _, Nat.le_refl _⟩ rfl dX11_taught_14) (fun H locs pb20 hP hS => ?_)
    refine lv_if_eq (tgt := 37) hx hb dX11_taught_17 (by decide) (fun c21 => ?_) (fun c21 => ?_)
    · replace h := it_t c21 h
      refine lv_iconst (v := (-1)) hx hb dX11_taught_37 (by decide) ?_
      exact re_i' hC hr hP hS (pr_1 h) (congrArg (fun Z : Mm => (Cm, Z)) (pr_2 h)) dX11_taught_38
    · replace h := it_f c21 h
      refine lv_iload_n hx hb dX11_taught_20 rfl (lv_at hl 3 rfl) ?_
      refine lv_i2l hx hb dX11_taught_21 rfl ?_
      refine lv_lconst (v := 0) hx hb dX11_taught_22 (by decide) ?_
      refine lv_lconst (v := 1) hx hb dX11_taught_23 (by decide) ?_
      refine rc_i hS (run_S hC wX11_within k1229 hP hS (As := [.long (Int32.toInt64 p3), .long 0, .long 1]) (rest := []) (mX11_within l G Cm rfl) rfl hl.1 (Nat.le_of_ble_eq_true rfl) ⟨by decide, by decide⟩ ⟨Nat.le_refl _, Nat.le_refl _⟩ rfl dX11_taught_24) (fun H locs pb23 hP hS => ?_)
      refine lv_if_eq (tgt := 37) hx hb dX11_taught_27 (by decide) (fun c24 => ?_) (fun c24 => ?_)
      · replace h := it_t c24 h
        refine lv_iconst (v := (-1)) hx hb dX11_taught_37 (by decide) ?_
        exact re_i' hC hr hP hS (pr_1 h) (congrArg (fun Z : Mm => (Cm, Z)) (pr_2 h)) dX11_taught_38
      · replace h := it_f c24 h
        refine lv_aload_n hx hb dX11_taught_30 rfl (lv_at hl 0 rfl) ?_
        obtain ⟨r26, hq25, h⟩ := bn_x h
        refine rc_i hS (run_V hC wX11_isListBad k1513 (e_72 G _) rfl hP hS (As := []) (rest := []) (mX11_isListBad l G Cm hq25) rfl hl.1 (Nat.le_of_ble_eq_true rfl) ⟨by decide, by decide⟩ ⟨Nat.le_refl _, Nat.le_refl _⟩ rfl dX11_taught_31) (fun H locs pb27 hP hS => ?_)
        refine lv_if_eq (tgt := 39) hx hb dX11_taught_34 (by decide) (fun c28 => ?_) (fun c28 => ?_)
        · replace h := it_t c28 h
          refine lv_aload_n hx hb dX11_taught_39 rfl (lv_at hl 0 rfl) ?_
          refine r_get (v := .int (C.1 72 37)) hC inX11 hP (e_72 G _) rfl 37 (by decide) rfl k1087 rfl dX11_taught_40 ?_
          refine lv_if_ne (tgt := 49) hx hb dX11_taught_43 (by decide) (fun c29 => ?_) (fun c29 => ?_)
          · replace h := it_f c29 h
            refine lv_aload_n hx hb dX11_taught_49 rfl (lv_at hl 0 rfl) ?_
            refine lv_iload_n hx hb dX11_taught_50 rfl (lv_at hl 1 rfl) ?_
            obtain ⟨C31, hq30, h⟩ := bn_x h
            refine rc_v hS (run_V hC wX11_keeps k1517 (e_72 G _) rfl hP hS (As := [.int p1]) (rest := []) (mX11_keeps l G Cm hq30) rfl hl.1 (Nat.le_of_ble_eq_true rfl) ⟨by decide, by decide⟩ ⟨Nat.le_refl _, Nat.le_refl _⟩ rfl dX11_taught_51) (fun H locs hP hS => ?_)
            refine lv_iconst (v := 0) hx hb dX11_taught_54 (by decide) ?_
            refine lv_istore (lv' := [(4, .int 0), (0, .ref (gA G 72)), (1, .int p1), (2, .int p2), (3, .int p3)]) hx hb dX11_taught_55 hl (by decide) rfl (fun ls hl => ?_)
            refine lv_iconst (v := 0) hx hb dX11_taught_57 (by decide) ?_
            refine lv_istore (lv' := [(5, .int 0), (4, .int 0), (0, .ref (gA G 72)), (1, .int p1), (2, .int p2), (3, .int p3)]) hx hb dX11_taught_58 hl (by decide) rfl (fun ls hl => ?_)
            exact bl60 n p1 p2 p3 0 0 C31 _ _ _ h (lv_sub hl [2, 3, 4, 5, 1, 0] rfl) hP hS
          · replace h := it_t c29 h
            refine lv_bipush (v := (-5)) hx hb dX11_taught_46 (by decide) ?_
            exact re_i' hC hr hP hS (pr_1 h) (congrArg (fun Z : Mm => (Cm, Z)) (pr_2 h)) dX11_taught_48
        · replace h := it_f c28 h
          refine lv_iconst (v := (-1)) hx hb dX11_taught_37 (by decide) ?_
          exact re_i' hC hr hP hS (pr_1 h) (congrArg (fun Z : Mm => (Cm, Z)) (pr_2 h)) dX11_taught_38
set_option maxHeartbeats 4000000 in
set_option maxRecDepth 100000 in
theorem mX11_ordersFrom_w (l : Launch) (G : gp) {n : Nat} {z : Int32 → Int32 → Int32 → Int32 → Int32 → Mm → Option Mm} (d : Nat) (hz : ∀ (Cm : Mm) {p1 : Int32} {p2 : Int32} {p3 : Int32} {p4 : Int32} {p5 : Int32} {C : Mm} {C0 : Mm} (_ : z p1 p2 p3 p4 p5 C = some C0), Met l yX11_ordersFrom (wsy yX11_ordersFrom cX11_ordersFrom 8 none) (rmv (1 * d + 83) (27 * d + 1900)) (va_Pc [.ref (gA G 72), .int p1, .int p2, .int p3, .int p4, .int p5] (Rl G (Cm, C))) (Qv G (Cm, C0)) 0 0 (lwA G)) (Cm : Mm) {p1 : Int32} {p2 : Int32} {p3 : Int32} {p4 : Int32} {p5 : Int32} {C : Mm} {C0 : Mm} (h : fX11_ordersFrom_w n z p1 p2 p3 p4 p5 C = some C0) : Met l yX11_ordersFrom (wsy yX11_ordersFrom cX11_ordersFrom 8 none) (rmv (1 * d + 84) (27 * d + 1927)) (va_Pc [.ref (gA G 72), .int p1, .int p2, .int p3, .int p4, .int p5] (Rl G (Cm, C))) (Qv G (Cm, C0)) 0 0 (lwA G) := by
  refine met_i [.ref (gA G 72), .int p1, .int p2, .int p3, .int p4, .int p5] wX11_ordersFrom.2.2.2.2.2 (Nat.le_of_ble_eq_true rfl) ?_
  intro p e s m args below meth c ls hC hr hP hl
  have hC : Cx G p s m args meth c cX11_ordersFrom RX11 8 := hC
  have hx := hC.1
  have hb := hC.2.1
  have hown := hC.2.2.2.1
  have hts := hC.2.2.2.2.1
  have hS : va_S (lwA G) s.heap s.heap [] := va_S.rf
  have hl : lv_has ls 8 [(0, .ref (gA G 72)), (1, .int p1), (2, .int p2), (3, .int p3), (4, .int p4), (5, .int p5)] := hl
  have bl136 : ∀ (k86 : Int32 → Int32 → Int32 → Int32 → Int32 → Int32 → Mm → Option Mm) (hk86 : ∀ (y1 : Int32) (y2 : Int32) (y3 : Int32) (y4 : Int32) (y5 : Int32) (y6 : Int32) (C : Mm) (H : Heap) (locs : List Loc) (ls : Array Slot), k86 y1 y2 y3 y4 y5 y6 C = some C0 → lv_has ls 8 [(0, .ref (gA G 72)), (1, .int y1), (2, .int y2), (3, .int y3), (4, .int y4), (5, .int y5), (6, .int y6)] → va_P (gD G) vwCl (wld G (Cm, C)) H → va_S (lwA G) s.heap H locs → W p l e (rmv (1 * d + 84) (27 * d + 1927)) s m args below meth c H locs 0 0 (MQ below (Qv G (Cm, C0)) args s 0 0 (lwA G)) (F0 m 86 ls [])), ∀ (y1 : Int32) (y2 : Int32) (y3 : Int32) (y4 : Int32) (y5 : Int32) (y6 : Int32) (C : Mm) (H : Heap) (locs : List Loc) (ls : Array Slot), fX11_ordersFrom_b136 n z k86 y1 y2 y3 y4 y5 y6 C = some C0 → lv_has ls 8 [(0, .ref (gA G 72)), (1, .int y1), (2, .int y2), (3, .int y3), (4, .int y4), (5, .int y5), (6, .int y6)] → va_P (gD G) vwCl (wld G (Cm, C)) H → va_S (lwA G) s.heap H locs → W p l e (rmv (1 * d + 84) (27 * d + 1927)) s m args below meth c H locs 0 0 (MQ below (Qv G (Cm, C0)) args s 0 0 (lwA G)) (F0 m 136 ls []) := by
    intro k86 hk86 y1 y2 y3 y4 y5 y6 C H locs ls h hl hP hS
    unfold fX11_ordersFrom_b136 at h
    obtain ⟨x1, ex1⟩ : ∃ y : Int32, y = y6 + 1 := ⟨_, rfl⟩
    replace h := lt_y ex1 h
    refine lv_iinc (v := x1) (lv' := [(6, .int x1), (0, .ref (gA G 72)), (1, .int y1), (2, .int y2), (3, .int y3), (4, .int y4), (5, .int y5)]) hx hb dX11_ordersFrom_136 hl (k := 6) rfl (by rw [ex1]; rfl) (by decide) rfl (fun ls hl => ?_)
    refine lv_goto (tgt := 86) hx hb dX11_ordersFrom_139 (by decide) ?_
    exact hk86 y1 y2 y3 y4 y5 x1 C _ _ _ h (lv_sub hl [1, 2, 3, 4, 5, 6, 0] rfl) hP hS
  have bl86 : ∀ (fu : Nat), ∀ (y1 : Int32) (y2 : Int32) (y3 : Int32) (y4 : Int32) (y5 : Int32) (y6 : Int32) (C : Mm) (H : Heap) (locs : List Loc) (ls : Array Slot), fX11_ordersFrom_h86 n z fu y1 y2 y3 y4 y5 y6 C = some C0 → lv_has ls 8 [(0, .ref (gA G 72)), (1, .int y1), (2, .int y2), (3, .int y3), (4, .int y4), (5, .int y5), (6, .int y6)] → va_P (gD G) vwCl (wld G (Cm, C)) H → va_S (lwA G) s.heap H locs → W p l e (rmv (1 * d + 84) (27 * d + 1927)) s m args below meth c H locs 0 0 (MQ below (Qv G (Cm, C0)) args s 0 0 (lwA G)) (F0 m 86 ls []) := by
    intro fu
    induction fu with
    | zero =>
      intro y1 y2 y3 y4 y5 y6 C H locs ls h hl hP hS
      rw [fX11_ordersFrom_h86.eq_1] at h
      cases h
    | succ fu ih =>
      intro y1 y2 y3 y4 y5 y6 C H locs ls h hl hP hS
      rw [fX11_ordersFrom_h86.eq_2] at h
      refine lv_iload hx hb dX11_ordersFrom_86 (lv_at hl 6 rfl) ?_
      refine lv_iload_n hx hb dX11_ordersFrom_88 rfl (lv_at hl 2 rfl) ?_
      refine lv_icmp_ge (tgt := 142) hx hb dX11_ordersFrom_89 (by decide) (fun c2 => ?_) (fun c2 => ?_)
      · replace h := it_t c2 h
        exact re_v' hC hr hP hS (congrArg (fun Z : Mm => (Cm, Z)) (Option.some.inj h)) dX11_ordersFrom_142
      · replace h := it_f c2 h
        refine lv_iload hx hb dX11_ordersFrom_92 (lv_at hl 4 rfl) ?_
        refine lv_iload hx hb dX11_ordersFrom_94 (lv_at hl 6 rfl) ?_
        refine lv_ishr hx hb dX11_ordersFrom_96 ?_
        refine lv_iconst (v := 1) hx hb dX11_ordersFrom_97 (by decide) ?_
        refine lv_iand hx hb dX11_ordersFrom_98 ?_
        refine lv_if_ne (tgt := 136) hx hb dX11_ordersFrom_99 (by decide) (fun c3 => ?_) (fun c3 => ?_)
        · replace h := it_f c3 h
          exact bl136 (fX11_ordersFrom_h86 n z fu) ih y1 y2 y3 y4 y5 y6 C _ _ _ h (lv_sub hl [0, 1, 2, 3, 4, 5, 6] rfl) hP hS
        · replace h := it_t c3 h
          refine lv_aload_n hx hb dX11_ordersFrom_102 rfl (lv_at hl 0 rfl) ?_
          refine r_get (v := .ref (gA G 96)) hC inX11 hP (e_72 G _) rfl 41 (by decide) rfl k1091 rfl dX11_ordersFrom_103 ?_
          refine lv_iload_n hx hb dX11_ordersFrom_106 rfl (lv_at hl 3 rfl) ?_
          refine lv_iload hx hb dX11_ordersFrom_107 (lv_at hl 6 rfl) ?_
          by_cases c4 : y3 < (0 : Int32) ∨ 5 ≤ Int32.toNatClampNeg y3
          · cases it_t c4 h
          replace h := it_f c4 h
          obtain ⟨C5, eC5⟩ : ∃ Z : Mm, Z = wrI C 96 (Int32.toNatClampNeg y3) y6 := ⟨_, rfl⟩
          replace h := lt_y eC5 h
          refine r_iast (X' := (Cm, C5)) hC hP hS (e_96 G _) c4 (a_96 G _ _ _ _ eC5) dX11_ordersFrom_109 (fun H locs hP hS => ?_)
          refine lv_aload_n hx hb dX11_ordersFrom_110 rfl (lv_at hl 0 rfl) ?_
          refine lv_iload_n hx hb dX11_ordersFrom_111 rfl (lv_at hl 1 rfl) ?_
          refine lv_iload_n hx hb dX11_ordersFrom_112 rfl (lv_at hl 2 rfl) ?_
          refine lv_iload_n hx hb dX11_ordersFrom_113 rfl (lv_at hl 3 rfl) ?_
          refine lv_iconst (v := 1) hx hb dX11_ordersFrom_114 (by decide) ?_
          refine lv_iadd hx hb dX11_ordersFrom_115 ?_
          refine lv_iload hx hb dX11_ordersFrom_116 (lv_at hl 4 rfl) ?_
          refine lv_iconst (v := 1) hx hb dX11_ordersFrom_118 (by decide) ?_
          refine lv_iload hx hb dX11_ordersFrom_119 (lv_at hl 6 rfl) ?_
          refine lv_ishl hx hb dX11_ordersFrom_121 ?_
          refine lv_ior hx hb dX11_ordersFrom_122 ?_
          refine lv_bipush (v := 10) hx hb dX11_ordersFrom_123 (by decide) ?_
          refine lv_iload hx hb dX11_ordersFrom_125 (lv_at hl 5 rfl) ?_
          refine lv_imul hx hb dX11_ordersFrom_127 ?_
          refine lv_iload hx hb dX11_ordersFrom_128 (lv_at hl 6 rfl) ?_
          refine lv_iadd hx hb dX11_ordersFrom_130 ?_
          refine lv_iconst (v := 1) hx hb dX11_ordersFrom_131 (by decide) ?_
          refine lv_iadd hx hb dX11_ordersFrom_132 ?_
          obtain ⟨C7, hq6, h⟩ := bn_x h
          refine rc_v hS (run_V hC wX11_ordersFrom k1533 (e_72 G _) rfl hP hS (As := [.int y1, .int y2, .int (y3 + 1), .int (y4 ||| (1 <<< (y6 &&& 31))), .int (((10 * y5) + y6) + 1)]) (rest := []) (hz Cm hq6) rfl hl.1 (Nat.le_of_ble_eq_true rfl) (rm_le (by omega) (by omega)) ⟨Nat.le_refl _, Nat.le_refl _⟩ rfl dX11_ordersFrom_133) (fun H locs hP hS => ?_)
          exact bl136 (fX11_ordersFrom_h86 n z fu) ih y1 y2 y3 y4 y5 y6 C7 _ _ _ h (lv_sub hl [0, 1, 2, 3, 4, 5, 6] rfl) hP hS
  have bl70 : ∀ (y5 : Int32) (y6 : Int32) (C : Mm) (H : Heap) (locs : List Loc) (ls : Array Slot), fX11_ordersFrom_b70 n z y5 y6 C = some C0 → lv_has ls 8 [(0, .ref (gA G 72)), (5, .int y5), (6, .int y6)] → va_P (gD G) vwCl (wld G (Cm, C)) H → va_S (lwA G) s.heap H locs → W p l e (rmv (1 * d + 84) (27 * d + 1927)) s m args below meth c H locs 0 0 (MQ below (Qv G (Cm, C0)) args s 0 0 (lwA G)) (F0 m 70 ls []) := by
    intro y5 y6 C H locs ls h hl hP hS
    unfold fX11_ordersFrom_b70 at h
    refine lv_aload_n hx hb dX11_ordersFrom_70 rfl (lv_at hl 0 rfl) ?_
    refine lv_iload hx hb dX11_ordersFrom_71 (lv_at hl 2 rfl) ?_
    obtain ⟨C8, eC8⟩ : ∃ Z : Mm, Z = wrI C 72 42 y6 := ⟨_, rfl⟩
    replace h := lt_y eC8 h
    refine r_put (X' := (Cm, C8)) hC inX11 tyX11 tyX11_ok nmX11 hP hS (e_72 G _) rfl 42 (by decide) rfl k1092 rfl (v := .int y6) rfl rfl (Nat.le_of_ble_eq_true rfl) (p_72_42 G _ _ eC8) dX11_ordersFrom_73 (fun H locs hP hS => ?_)
    refine lv_aload_n hx hb dX11_ordersFrom_76 rfl (lv_at hl 0 rfl) ?_
    refine lv_iload hx hb dX11_ordersFrom_77 (lv_at hl 1 rfl) ?_
    obtain ⟨C9, eC9⟩ : ∃ Z : Mm, Z = wrI C8 72 43 y5 := ⟨_, rfl⟩
    replace h := lt_y eC9 h
    refine r_put (X' := (Cm, C9)) hC inX11 tyX11 tyX11_ok nmX11 hP hS (e_72 G _) rfl 43 (by decide) rfl k1093 rfl (v := .int y5) rfl rfl (Nat.le_of_ble_eq_true rfl) (p_72_43 G _ _ eC9) dX11_ordersFrom_79 (fun H locs hP hS => ?_)
    exact re_v' hC hr hP hS (congrArg (fun Z : Mm => (Cm, Z)) (Option.some.inj h)) dX11_ordersFrom_82
  have bl11 : ∀ (fu : Nat), ∀ (y1 : Int32) (y2 : Int32) (y5 : Int32) (y6 : Int32) (y7 : Int32) (C : Mm) (H : Heap) (locs : List Loc) (ls : Array Slot), fX11_ordersFrom_h11 n z fu y1 y2 y5 y6 y7 C = some C0 → lv_has ls 8 [(0, .ref (gA G 72)), (1, .int y1), (2, .int y2), (5, .int y5), (6, .int y6), (7, .int y7)] → va_P (gD G) vwCl (wld G (Cm, C)) H → va_S (lwA G) s.heap H locs → W p l e (rmv (1 * d + 84) (27 * d + 1927)) s m args below meth c H locs 0 0 (MQ below (Qv G (Cm, C0)) args s 0 0 (lwA G)) (F0 m 11 ls []) := by
    intro fu
    induction fu with
    | zero =>
      intro y1 y2 y5 y6 y7 C H locs ls h hl hP hS
      rw [fX11_ordersFrom_h11.eq_1] at h
      cases h
    | succ fu ih =>
      intro y1 y2 y5 y6 y7 C H locs ls h hl hP hS
      rw [fX11_ordersFrom_h11.eq_2] at h
      refine lv_iload hx hb dX11_ordersFrom_11 (lv_at hl 5 rfl) ?_
      refine lv_iconst (v := 3) hx hb dX11_ordersFrom_13 (by decide) ?_
      refine lv_iload_n hx hb dX11_ordersFrom_14 rfl (lv_at hl 2 rfl) ?_
      refine lv_imul hx hb dX11_ordersFrom_15 ?_
      refine lv_icmp_ge (tgt := 49) hx hb dX11_ordersFrom_16 (by decide) (fun c10 => ?_) (fun c10 => ?_)
      · replace h := it_t c10 h
        refine lv_aload_n hx hb dX11_ordersFrom_49 rfl (lv_at hl 0 rfl) ?_
        refine lv_iload_n hx hb dX11_ordersFrom_50 rfl (lv_at hl 1 rfl) ?_
        obtain ⟨C12, hq11, h⟩ := bn_x h
        refine rc_v hS (run_V hC wX11_putsBack k1525 (e_72 G _) rfl hP hS (As := [.int y1]) (rest := []) (mX11_putsBack l G Cm hq11) rfl hl.1 (Nat.le_of_ble_eq_true rfl) (rm_le (by omega) (by omega)) ⟨Nat.le_refl _, Nat.le_refl _⟩ rfl dX11_ordersFrom_51) (fun H locs hP hS => ?_)
        refine lv_aload_n hx hb dX11_ordersFrom_54 rfl (lv_at hl 0 rfl) ?_
        refine r_get (v := .int (C12.1 72 42)) hC inX11 hP (e_72 G _) rfl 42 (by decide) rfl k1092 rfl dX11_ordersFrom_55 ?_
        refine lv_if_lt (tgt := 70) hx hb dX11_ordersFrom_58 (by decide) (fun c13 => ?_) (fun c13 => ?_)
        · replace h := it_t c13 h
          exact bl70 y5 y6 C12 _ _ _ h (lv_sub hl [0, 3, 4] rfl) hP hS
        · replace h := it_f c13 h
          refine lv_iload hx hb dX11_ordersFrom_61 (lv_at hl 4 rfl) ?_
          refine lv_aload_n hx hb dX11_ordersFrom_63 rfl (lv_at hl 0 rfl) ?_
          refine r_get (v := .int (C12.1 72 42)) hC inX11 hP (e_72 G _) rfl 42 (by decide) rfl k1092 rfl dX11_ordersFrom_64 ?_
          refine lv_icmp_ge (tgt := 82) hx hb dX11_ordersFrom_67 (by decide) (fun c14 => ?_) (fun c14 => ?_)
          · replace h := it_t c14 h
            exact re_v' hC hr hP hS (congrArg (fun Z : Mm => (Cm, Z)) (Option.some.inj h)) dX11_ordersFrom_82
          · replace h := it_f c14 h
            exact bl70 y5 y6 C12 _ _ _ h (lv_sub hl [0, 3, 4] rfl) hP hS
      · replace h := it_f c10 h
        refine lv_iload hx hb dX11_ordersFrom_19 (lv_at hl 4 rfl) ?_
        refine lv_aload_n hx hb dX11_ordersFrom_21 rfl (lv_at hl 0 rfl) ?_
        refine lv_iload_n hx hb dX11_ordersFrom_22 rfl (lv_at hl 1 rfl) ?_
        refine lv_aload_n hx hb dX11_ordersFrom_23 rfl (lv_at hl 0 rfl) ?_
        refine r_get (v := .ref (gA G 94)) hC inX11 hP (e_72 G _) rfl 38 (by decide) rfl k1088 rfl dX11_ordersFrom_24 ?_
        refine lv_aload_n hx hb dX11_ordersFrom_27 rfl (lv_at hl 0 rfl) ?_
        refine r_get (v := .ref (gA G 96)) hC inX11 hP (e_72 G _) rfl 41 (by decide) rfl k1091 rfl dX11_ordersFrom_28 ?_
        refine lv_iload hx hb dX11_ordersFrom_31 (lv_at hl 5 rfl) ?_
        refine lv_iconst (v := 3) hx hb dX11_ordersFrom_33 (by decide) ?_
        refine lv_idiv hx hb dX11_ordersFrom_34 (by decide) ?_
        by_cases c15 : (y7 / 3) < (0 : Int32) ∨ 5 ≤ Int32.toNatClampNeg (y7 / 3)
        · cases it_t c15 h
        replace h := it_f c15 h
        refine r_iald hC hP (f := C.1 96) (e_96 G _) c15 dX11_ordersFrom_35 ?_
        by_cases c16 : (C.1 96 (Int32.toNatClampNeg (y7 / 3))) < (0 : Int32) ∨ 8 ≤ Int32.toNatClampNeg (C.1 96 (Int32.toNatClampNeg (y7 / 3)))
        · cases it_t c16 h
        replace h := it_f c16 h
        refine r_iald hC hP (f := C.1 94) (e_94 G _) c16 dX11_ordersFrom_36 ?_
        obtain ⟨r18, C19, hq17, h⟩ := bp_x h
        refine rc_i hS (run_V hC wX11_asksOne k1521 (e_72 G _) rfl hP hS (As := [.int y1, .int (C.1 94 (Int32.toNatClampNeg (C.1 96 (Int32.toNatClampNeg (y7 / 3)))))]) (rest := [.int y6]) (mX11_asksOne l G Cm hq17) rfl hl.1 (Nat.le_of_ble_eq_true rfl) (rm_le (by omega) (by omega)) ⟨Nat.le_refl _, Nat.le_refl _⟩ rfl dX11_ordersFrom_37) (fun H locs pb20 hP hS => ?_)
        refine lv_iadd hx hb dX11_ordersFrom_40 ?_
        refine lv_topi (fun x21 ex21 => ?_)
        replace h := lt_y ex21 h
        refine lv_istore (lv' := [(6, .int x21), (0, .ref (gA G 72)), (1, .int y1), (2, .int y2), (5, .int y5), (7, .int y7)]) hx hb dX11_ordersFrom_41 hl (by decide) rfl (fun ls hl => ?_)
        obtain ⟨x22, ex22⟩ : ∃ y : Int32, y = y7 + 1 := ⟨_, rfl⟩
        replace h := lt_y ex22 h
        refine lv_iinc (v := x22) (lv' := [(7, .int x22), (6, .int x21), (0, .ref (gA G 72)), (1, .int y1), (2, .int y2), (5, .int y5)]) hx hb dX11_ordersFrom_43 hl (k := 5) rfl (by rw [ex22]; rfl) (by decide) rfl (fun ls hl => ?_)
        refine lv_goto (tgt := 11) hx hb dX11_ordersFrom_46 (by decide) ?_
        exact ih y1 y2 y5 x21 x22 C19 _ _ _ h (lv_sub hl [2, 3, 4, 5, 1, 0] rfl) hP hS
  unfold fX11_ordersFrom_w at h
  refine lv_iload_n hx hb dX11_ordersFrom_0 rfl (lv_at hl 3 rfl) ?_
  refine lv_iload_n hx hb dX11_ordersFrom_1 rfl (lv_at hl 2 rfl) ?_
  refine lv_icmp_ne (tgt := 83) hx hb dX11_ordersFrom_2 (by decide) (fun c23 => ?_) (fun c23 => ?_)
  · replace h := it_f c23 h
    refine lv_iconst (v := 0) hx hb dX11_ordersFrom_83 (by decide) ?_
    refine lv_istore (lv' := [(6, .int 0), (0, .ref (gA G 72)), (1, .int p1), (2, .int p2), (3, .int p3), (4, .int p4), (5, .int p5)]) hx hb dX11_ordersFrom_84 hl (by decide) rfl (fun ls hl => ?_)
    exact bl86 n p1 p2 p3 p4 p5 0 C _ _ _ h (lv_sub hl [1, 2, 3, 4, 5, 6, 0] rfl) hP hS
  · replace h := it_t c23 h
    refine lv_iconst (v := 0) hx hb dX11_ordersFrom_5 (by decide) ?_
    refine lv_istore (lv' := [(6, .int 0), (0, .ref (gA G 72)), (1, .int p1), (2, .int p2), (3, .int p3), (4, .int p4), (5, .int p5)]) hx hb dX11_ordersFrom_6 hl (by decide) rfl (fun ls hl => ?_)
    refine lv_iconst (v := 0) hx hb dX11_ordersFrom_8 (by decide) ?_
    refine lv_istore (lv' := [(7, .int 0), (6, .int 0), (0, .ref (gA G 72)), (1, .int p1), (2, .int p2), (3, .int p3), (4, .int p4), (5, .int p5)]) hx hb dX11_ordersFrom_9 hl (by decide) rfl (fun ls hl => ?_)
    exact bl11 n p1 p2 p5 0 0 C _ _ _ h (lv_sub hl [2, 3, 4, 7, 1, 0] rfl) hP hS
set_option maxHeartbeats 4000000 in
set_option maxRecDepth 100000 in
theorem mX11_ordersFrom_d (l : Launch) (G : gp) {n : Nat} (d : Nat) : ∀ (Cm : Mm) {p1 : Int32} {p2 : Int32} {p3 : Int32} {p4 : Int32} {p5 : Int32} {C : Mm} {C0 : Mm} (_ : fX11_ordersFrom n d p1 p2 p3 p4 p5 C = some C0), Met l yX11_ordersFrom (wsy yX11_ordersFrom cX11_ordersFrom 8 none) (rmv (1 * d + 83) (27 * d + 1900)) (va_Pc [.ref (gA G 72), .int p1, .int p2, .int p3, .int p4, .int p5] (Rl G (Cm, C))) (Qv G (Cm, C0)) 0 0 (lwA G) := by
  induction d with
  | zero =>
    intro Cm p1 p2 p3 p4 p5 C C0 h
    rw [fX11_ordersFrom.eq_1] at h
    cases h
  | succ d ih =>
    intro Cm p1 p2 p3 p4 p5 C C0 h
    rw [fX11_ordersFrom.eq_2] at h
    have q := mX11_ordersFrom_w l G d (@fun Q _ _ _ _ _ _ _ hq => ih Q hq) Cm h
    rw [show 1 * (d + 1) + 83 = 1 * d + 84 by omega, show 27 * (d + 1) + 1900 = 27 * d + 1927 by omega]
    exact q
theorem mX11_ordersFrom (l : Launch) (G : gp) {n : Nat} (Cm : Mm) {p1 : Int32} {p2 : Int32} {p3 : Int32} {p4 : Int32} {p5 : Int32} {C : Mm} {C0 : Mm} (h : fX11_ordersFrom n 12 p1 p2 p3 p4 p5 C = some C0) : Met l yX11_ordersFrom (wsy yX11_ordersFrom cX11_ordersFrom 8 none) (rmv 95 2224) (va_Pc [.ref (gA G 72), .int p1, .int p2, .int p3, .int p4, .int p5] (Rl G (Cm, C))) (Qv G (Cm, C0)) 0 0 (lwA G) := mX11_ordersFrom_d l G 12 Cm h
set_option maxHeartbeats 4000000 in
set_option maxRecDepth 100000 in
theorem mX11_first (l : Launch) (G : gp) (Cm : Mm) {n : Nat} {p1 : Int32} {p2 : Int32} {C : Mm} {r0 : Int32} {C0 : Mm} (h : fX11_first n p1 p2 C = some (r0, C0)) : Met l yX11_first (wsy yX11_first cX11_first 3 (some .int)) (rmv 96 2251) (va_Pc [.ref (gA G 72), .int p1, .int p2] (Rl G (Cm, C))) (Qi G PT r0 (Cm, C0)) 0 0 (lwA G) := by
  refine met_i [.ref (gA G 72), .int p1, .int p2] wX11_first.2.2.2.2.2 (Nat.le_of_ble_eq_true rfl) ?_
  intro p e s m args below meth c ls hC hr hP hl
  have hC : Cx G p s m args meth c cX11_first RX11 3 := hC
  have hx := hC.1
  have hb := hC.2.1
  have hown := hC.2.2.2.1
  have hts := hC.2.2.2.2.1
  have hS : va_S (lwA G) s.heap s.heap [] := va_S.rf
  have hl : lv_has ls 3 [(0, .ref (gA G 72)), (1, .int p1), (2, .int p2)] := hl
  have bl65 : ∀ (y2 : Int32) (s0 : Int32) (s1 : Int32) (C : Mm) (H : Heap) (locs : List Loc) (ls : Array Slot), fX11_first_b65 n y2 s0 s1 C = some (r0, C0) → lv_has ls 3 [(0, .ref (gA G 72)), (2, .int y2)] → va_P (gD G) vwCl (wld G (Cm, C)) H → va_S (lwA G) s.heap H locs → W p l e (rmv 96 2251) s m args below meth c H locs 0 0 (MQ below (Qi G PT r0 (Cm, C0)) args s 0 0 (lwA G)) (F0 m 65 ls [.int s0, .int s1, .ref (gA G 72)]) := by
    intro y2 s0 s1 C H locs ls h hl hP hS
    unfold fX11_first_b65 at h
    refine lv_iconst (v := 0) hx hb dX11_first_65 (by decide) ?_
    refine lv_iconst (v := 0) hx hb dX11_first_66 (by decide) ?_
    refine lv_iconst (v := 0) hx hb dX11_first_67 (by decide) ?_
    obtain ⟨C2, hq1, h⟩ := bn_x h
    refine rc_v hS (run_V hC wX11_ordersFrom k1533 (e_72 G _) rfl hP hS (As := [.int s1, .int s0, .int 0, .int 0, .int 0]) (rest := []) (mX11_ordersFrom l G Cm hq1) rfl hl.1 (Nat.le_of_ble_eq_true rfl) ⟨by decide, by decide⟩ ⟨Nat.le_refl _, Nat.le_refl _⟩ rfl dX11_first_68) (fun H locs hP hS => ?_)
    refine lv_iload_n hx hb dX11_first_71 rfl (lv_at hl 1 rfl) ?_
    refine lv_if_ne (tgt := 82) hx hb dX11_first_72 (by decide) (fun c3 => ?_) (fun c3 => ?_)
    · replace h := it_f c3 h
      refine lv_aload_n hx hb dX11_first_82 rfl (lv_at hl 0 rfl) ?_
      refine r_get (v := .int (C2.1 72 42)) hC inX11 hP (e_72 G _) rfl 42 (by decide) rfl k1092 rfl dX11_first_83 ?_
      exact re_i' hC hr hP hS (pr_1 h) (congrArg (fun Z : Mm => (Cm, Z)) (pr_2 h)) dX11_first_86
    · replace h := it_t c3 h
      refine lv_aload_n hx hb dX11_first_75 rfl (lv_at hl 0 rfl) ?_
      refine r_get (v := .int (C2.1 72 43)) hC inX11 hP (e_72 G _) rfl 43 (by decide) rfl k1093 rfl dX11_first_76 ?_
      refine lv_goto (tgt := 86) hx hb dX11_first_79 (by decide) ?_
      exact re_i' hC hr hP hS (pr_1 h) (congrArg (fun Z : Mm => (Cm, Z)) (pr_2 h)) dX11_first_86
  unfold fX11_first at h
  refine lv_aload_n hx hb dX11_first_0 rfl (lv_at hl 0 rfl) ?_
  refine lv_iload_n hx hb dX11_first_1 rfl (lv_at hl 1 rfl) ?_
  refine rc_i hS (run_V hC wX11_isHead k1297 (e_72 G _) rfl hP hS (As := [.int p1]) (rest := []) (mX11_isHead l G Cm rfl) rfl hl.1 (Nat.le_of_ble_eq_true rfl) ⟨by decide, by decide⟩ ⟨Nat.le_refl _, Nat.le_refl _⟩ rfl dX11_first_2) (fun H locs pb5 hP hS => ?_)
  refine lv_if_eq (tgt := 25) hx hb dX11_first_5 (by decide) (fun c6 => ?_) (fun c6 => ?_)
  · replace h := it_t c6 h
    refine lv_iconst (v := (-1)) hx hb dX11_first_25 (by decide) ?_
    exact re_i' hC hr hP hS (pr_1 h) (congrArg (fun Z : Mm => (Cm, Z)) (pr_2 h)) dX11_first_26
  · replace h := it_f c6 h
    refine lv_iload_n hx hb dX11_first_8 rfl (lv_at hl 2 rfl) ?_
    refine lv_i2l hx hb dX11_first_9 rfl ?_
    refine lv_lconst (v := 0) hx hb dX11_first_10 (by decide) ?_
    refine lv_lconst (v := 1) hx hb dX11_first_11 (by decide) ?_
    refine rc_i hS (run_S hC wX11_within k1229 hP hS (As := [.long (Int32.toInt64 p2), .long 0, .long 1]) (rest := []) (mX11_within l G Cm rfl) rfl hl.1 (Nat.le_of_ble_eq_true rfl) ⟨by decide, by decide⟩ ⟨Nat.le_refl _, Nat.le_refl _⟩ rfl dX11_first_12) (fun H locs pb8 hP hS => ?_)
    refine lv_if_eq (tgt := 25) hx hb dX11_first_15 (by decide) (fun c9 => ?_) (fun c9 => ?_)
    · replace h := it_t c9 h
      refine lv_iconst (v := (-1)) hx hb dX11_first_25 (by decide) ?_
      exact re_i' hC hr hP hS (pr_1 h) (congrArg (fun Z : Mm => (Cm, Z)) (pr_2 h)) dX11_first_26
    · replace h := it_f c9 h
      refine lv_aload_n hx hb dX11_first_18 rfl (lv_at hl 0 rfl) ?_
      obtain ⟨r11, hq10, h⟩ := bn_x h
      refine rc_i hS (run_V hC wX11_isListBad k1513 (e_72 G _) rfl hP hS (As := []) (rest := []) (mX11_isListBad l G Cm hq10) rfl hl.1 (Nat.le_of_ble_eq_true rfl) ⟨by decide, by decide⟩ ⟨Nat.le_refl _, Nat.le_refl _⟩ rfl dX11_first_19) (fun H locs pb12 hP hS => ?_)
      refine lv_if_eq (tgt := 27) hx hb dX11_first_22 (by decide) (fun c13 => ?_) (fun c13 => ?_)
      · replace h := it_t c13 h
        refine lv_aload_n hx hb dX11_first_27 rfl (lv_at hl 0 rfl) ?_
        refine r_get (v := .int (C.1 72 37)) hC inX11 hP (e_72 G _) rfl 37 (by decide) rfl k1087 rfl dX11_first_28 ?_
        refine lv_if_ne (tgt := 37) hx hb dX11_first_31 (by decide) (fun c14 => ?_) (fun c14 => ?_)
        · replace h := it_f c14 h
          refine lv_aload_n hx hb dX11_first_37 rfl (lv_at hl 0 rfl) ?_
          refine lv_iload_n hx hb dX11_first_38 rfl (lv_at hl 1 rfl) ?_
          obtain ⟨C16, hq15, h⟩ := bn_x h
          refine rc_v hS (run_V hC wX11_keeps k1517 (e_72 G _) rfl hP hS (As := [.int p1]) (rest := []) (mX11_keeps l G Cm hq15) rfl hl.1 (Nat.le_of_ble_eq_true rfl) ⟨by decide, by decide⟩ ⟨Nat.le_refl _, Nat.le_refl _⟩ rfl dX11_first_39) (fun H locs hP hS => ?_)
          refine lv_aload_n hx hb dX11_first_42 rfl (lv_at hl 0 rfl) ?_
          refine lv_iconst (v := (-1)) hx hb dX11_first_43 (by decide) ?_
          obtain ⟨C17, eC17⟩ : ∃ Z : Mm, Z = wrI C16 72 42 (-1) := ⟨_, rfl⟩
          replace h := lt_y eC17 h
          refine r_put (X' := (Cm, C17)) hC inX11 tyX11 tyX11_ok nmX11 hP hS (e_72 G _) rfl 42 (by decide) rfl k1092 rfl (v := .int (-1)) rfl rfl (Nat.le_of_ble_eq_true rfl) (p_72_42 G _ _ eC17) dX11_first_44 (fun H locs hP hS => ?_)
          refine lv_aload_n hx hb dX11_first_47 rfl (lv_at hl 0 rfl) ?_
          refine lv_iload_n hx hb dX11_first_48 rfl (lv_at hl 1 rfl) ?_
          refine lv_aload_n hx hb dX11_first_49 rfl (lv_at hl 0 rfl) ?_
          refine r_get (v := .int (C17.1 72 37)) hC inX11 hP (e_72 G _) rfl 37 (by decide) rfl k1087 rfl dX11_first_50 ?_
          refine lv_iconst (v := 5) hx hb dX11_first_53 (by decide) ?_
          refine lv_icmp_ge (tgt := 64) hx hb dX11_first_54 (by decide) (fun c18 => ?_) (fun c18 => ?_)
          · replace h := it_t c18 h
            refine lv_iconst (v := 5) hx hb dX11_first_64 (by decide) ?_
            exact bl65 p2 5 p1 C17 _ _ _ h (lv_sub hl [0, 2] rfl) hP hS
          · replace h := it_f c18 h
            refine lv_aload_n hx hb dX11_first_57 rfl (lv_at hl 0 rfl) ?_
            refine r_get (v := .int (C17.1 72 37)) hC inX11 hP (e_72 G _) rfl 37 (by decide) rfl k1087 rfl dX11_first_58 ?_
            refine lv_goto (tgt := 65) hx hb dX11_first_61 (by decide) ?_
            exact bl65 p2 (C17.1 72 37) p1 C17 _ _ _ h (lv_sub hl [0, 2] rfl) hP hS
        · replace h := it_t c14 h
          refine lv_bipush (v := (-5)) hx hb dX11_first_34 (by decide) ?_
          exact re_i' hC hr hP hS (pr_1 h) (congrArg (fun Z : Mm => (Cm, Z)) (pr_2 h)) dX11_first_36
      · replace h := it_f c13 h
        refine lv_iconst (v := (-1)) hx hb dX11_first_25 (by decide) ?_
        exact re_i' hC hr hP hS (pr_1 h) (congrArg (fun Z : Mm => (Cm, Z)) (pr_2 h)) dX11_first_26
set_option maxHeartbeats 4000000 in
set_option maxRecDepth 100000 in
theorem mX11_isPower (l : Launch) (G : gp) (Cm : Mm) {p0 : Int32} {C : Mm} {r0 : Int32} (h : fX11_isPower p0 = r0) : Met l yX11_isPower (wsy yX11_isPower cX11_isPower 1 (some .boolean)) (rmv 0 0) (va_Pc [.int p0] (Rl G (Cm, C))) (Qi G PZ r0 (Cm, C)) 0 0 (lwA G) := by
  refine met_i [.int p0] wX11_isPower.2.2.2.2 (Nat.le_of_ble_eq_true rfl) ?_
  intro p e s m args below meth c ls hC hr hP hl
  have hC : Cx G p s m args meth c cX11_isPower RX11 1 := hC
  have hx := hC.1
  have hb := hC.2.1
  have hown := hC.2.2.2.1
  have hts := hC.2.2.2.2.1
  have hS : va_S (lwA G) s.heap s.heap [] := va_S.rf
  have hl : lv_has ls 1 [(0, .int p0)] := hl
  unfold fX11_isPower at h
  refine lv_iload_n hx hb dX11_isPower_0 rfl (lv_at hl 0 rfl) ?_
  refine lv_iconst (v := 2) hx hb dX11_isPower_1 (by decide) ?_
  refine lv_icmp_eq (tgt := 15) hx hb dX11_isPower_2 (by decide) (fun c1 => ?_) (fun c1 => ?_)
  · replace h := it_t c1 h
    refine lv_iconst (v := 1) hx hb dX11_isPower_15 (by decide) ?_
    refine lv_goto (tgt := 20) hx hb dX11_isPower_16 (by decide) ?_
    exact re_z' hC hr hP hS PZ1 h rfl dX11_isPower_20
  · replace h := it_f c1 h
    refine lv_iload_n hx hb dX11_isPower_5 rfl (lv_at hl 0 rfl) ?_
    refine lv_iconst (v := 3) hx hb dX11_isPower_6 (by decide) ?_
    refine lv_icmp_eq (tgt := 15) hx hb dX11_isPower_7 (by decide) (fun c2 => ?_) (fun c2 => ?_)
    · replace h := it_t c2 h
      refine lv_iconst (v := 1) hx hb dX11_isPower_15 (by decide) ?_
      refine lv_goto (tgt := 20) hx hb dX11_isPower_16 (by decide) ?_
      exact re_z' hC hr hP hS PZ1 h rfl dX11_isPower_20
    · replace h := it_f c2 h
      refine lv_iload_n hx hb dX11_isPower_10 rfl (lv_at hl 0 rfl) ?_
      refine lv_iconst (v := 5) hx hb dX11_isPower_11 (by decide) ?_
      refine lv_icmp_ne (tgt := 19) hx hb dX11_isPower_12 (by decide) (fun c3 => ?_) (fun c3 => ?_)
      · replace h := it_f c3 h
        refine lv_iconst (v := 0) hx hb dX11_isPower_19 (by decide) ?_
        exact re_z' hC hr hP hS PZ0 h rfl dX11_isPower_20
      · replace h := it_t c3 h
        refine lv_iconst (v := 1) hx hb dX11_isPower_15 (by decide) ?_
        refine lv_goto (tgt := 20) hx hb dX11_isPower_16 (by decide) ?_
        exact re_z' hC hr hP hS PZ1 h rfl dX11_isPower_20
set_option maxHeartbeats 4000000 in
set_option maxRecDepth 100000 in
theorem mX11_powerOf (l : Launch) (G : gp) (Cm : Mm) {n : Nat} {p0 : Int64} {p2 : Int32} {C : Mm} {r0 : Int64} (h : fX11_powerOf n p0 p2 = some r0) : Met l yX11_powerOf (wsy yX11_powerOf cX11_powerOf 6 (some .long)) (rmv 0 0) (va_Pc [.long p0, .int p2] (Rl G (Cm, C))) (Ql G r0 (Cm, C)) 0 0 (lwA G) := by
  refine met_i [.long p0, .int p2] wX11_powerOf.2.2.2.2 (Nat.le_of_ble_eq_true rfl) ?_
  intro p e s m args below meth c ls hC hr hP hl
  have hC : Cx G p s m args meth c cX11_powerOf RX11 6 := hC
  have hx := hC.1
  have hb := hC.2.1
  have hown := hC.2.2.2.1
  have hts := hC.2.2.2.2.1
  have hS : va_S (lwA G) s.heap s.heap [] := va_S.rf
  have hl : lv_has ls 6 [(0, .long p0), (2, .int p2)] := hl
  have bl5 : ∀ (fu : Nat), ∀ (y0 : Int64) (y2 : Int32) (y3 : Int64) (y5 : Int32) (C : Mm) (H : Heap) (locs : List Loc) (ls : Array Slot), fX11_powerOf_h5 n fu y0 y2 y3 y5 = some r0 → lv_has ls 6 [(0, .long y0), (2, .int y2), (3, .long y3), (5, .int y5)] → va_P (gD G) vwCl (wld G (Cm, C)) H → va_S (lwA G) s.heap H locs → W p l e (rmv 0 0) s m args below meth c H locs 0 0 (MQ below (Ql G r0 (Cm, C)) args s 0 0 (lwA G)) (F0 m 5 ls []) := by
    intro fu
    induction fu with
    | zero =>
      intro y0 y2 y3 y5 C H locs ls h hl hP hS
      rw [fX11_powerOf_h5.eq_1] at h
      cases h
    | succ fu ih =>
      intro y0 y2 y3 y5 C H locs ls h hl hP hS
      rw [fX11_powerOf_h5.eq_2] at h
      refine lv_iload hx hb dX11_powerOf_5 (lv_at hl 3 rfl) ?_
      refine lv_iload_n hx hb dX11_powerOf_7 rfl (lv_at hl 1 rfl) ?_
      refine lv_icmp_ge (tgt := 35) hx hb dX11_powerOf_8 (by decide) (fun c1 => ?_) (fun c1 => ?_)
      · replace h := it_t c1 h
        refine lv_lload_n hx hb dX11_powerOf_35 rfl (lv_at hl 2 rfl) ?_
        exact re_l' hC hr hP hS (Option.some.inj h) rfl dX11_powerOf_36
      · replace h := it_f c1 h
        refine lv_lload_n hx hb dX11_powerOf_11 rfl (lv_at hl 2 rfl) ?_
        refine lv_ldc2 hx hb (v := 999999999999999999) hown (hts _ k1544) dX11_powerOf_12 ?_
        refine lv_lload_n hx hb dX11_powerOf_15 rfl (lv_at hl 0 rfl) ?_
        by_cases c2 : y0 = 0
        · cases it_t c2 h
        replace h := it_f c2 h
        refine lv_ldiv hx hb dX11_powerOf_16 c2 ?_
        refine W.lcmp hx hb dX11_powerOf_17 ?_
        refine lv_if_le (tgt := 25) hx hb dX11_powerOf_18 (by decide) (fun c3 => ?_) (fun c3 => ?_)
        · replace h := it_t c3 h
          refine lv_lload_n hx hb dX11_powerOf_25 rfl (lv_at hl 2 rfl) ?_
          refine lv_lload_n hx hb dX11_powerOf_26 rfl (lv_at hl 0 rfl) ?_
          refine lv_lmul hx hb dX11_powerOf_27 ?_
          refine lv_topl (fun x4 ex4 => ?_)
          replace h := lt_y ex4 h
          refine lv_lstore_n (lv' := [(3, .long x4), (0, .long y0), (2, .int y2), (5, .int y5)]) hx hb dX11_powerOf_28 rfl hl (by decide) rfl (fun ls hl => ?_)
          obtain ⟨x5, ex5⟩ : ∃ y : Int32, y = y5 + 1 := ⟨_, rfl⟩
          replace h := lt_y ex5 h
          refine lv_iinc (v := x5) (lv' := [(5, .int x5), (3, .long x4), (0, .long y0), (2, .int y2)]) hx hb dX11_powerOf_29 hl (k := 3) rfl (by rw [ex5]; rfl) (by decide) rfl (fun ls hl => ?_)
          refine lv_goto (tgt := 5) hx hb dX11_powerOf_32 (by decide) ?_
          exact ih y0 y2 x4 x5 _ _ _ _ h (lv_sub hl [2, 3, 1, 0] rfl) hP hS
        · replace h := it_f c3 h
          refine lv_ldc2 hx hb (v := 1000000000000000000) hown (hts _ k1558) dX11_powerOf_21 ?_
          exact re_l' hC hr hP hS (Option.some.inj h) rfl dX11_powerOf_24
  unfold fX11_powerOf at h
  refine lv_lconst (v := 1) hx hb dX11_powerOf_0 (by decide) ?_
  refine lv_lstore_n (lv' := [(3, .long 1), (0, .long p0), (2, .int p2)]) hx hb dX11_powerOf_1 rfl hl (by decide) rfl (fun ls hl => ?_)
  refine lv_iconst (v := 0) hx hb dX11_powerOf_2 (by decide) ?_
  refine lv_istore (lv' := [(5, .int 0), (3, .long 1), (0, .long p0), (2, .int p2)]) hx hb dX11_powerOf_3 hl (by decide) rfl (fun ls hl => ?_)
  exact bl5 n p0 p2 1 0 _ _ _ _ h (lv_sub hl [2, 3, 1, 0] rfl) hP hS
set_option maxHeartbeats 4000000 in
set_option maxRecDepth 100000 in
theorem mX11_leastOf (l : Launch) (G : gp) (Cm : Mm) {n : Nat} {p0 : Int64} {p2 : Int32} {C : Mm} {r0 : Int64} (h : fX11_leastOf n p0 p2 = some r0) : Met l yX11_leastOf (wsy yX11_leastOf cX11_leastOf 9 (some .long)) (rmv 1 25) (va_Pc [.long p0, .int p2] (Rl G (Cm, C))) (Ql G r0 (Cm, C)) 0 0 (lwA G) := by
  refine met_i [.long p0, .int p2] wX11_leastOf.2.2.2.2 (Nat.le_of_ble_eq_true rfl) ?_
  intro p e s m args below meth c ls hC hr hP hl
  have hC : Cx G p s m args meth c cX11_leastOf RX11 9 := hC
  have hx := hC.1
  have hb := hC.2.1
  have hown := hC.2.2.2.1
  have hts := hC.2.2.2.2.1
  have hS : va_S (lwA G) s.heap s.heap [] := va_S.rf
  have hl : lv_has ls 9 [(0, .long p0), (2, .int p2)] := hl
  have bl47 : ∀ (k7 : Int64 → Int32 → Int64 → Int64 → Option Int64) (hk7 : ∀ (y0 : Int64) (y2 : Int32) (y3 : Int64) (y5 : Int64) (C : Mm) (H : Heap) (locs : List Loc) (ls : Array Slot), k7 y0 y2 y3 y5 = some r0 → lv_has ls 9 [(0, .long y0), (2, .int y2), (3, .long y3), (5, .long y5)] → va_P (gD G) vwCl (wld G (Cm, C)) H → va_S (lwA G) s.heap H locs → W p l e (rmv 1 25) s m args below meth c H locs 0 0 (MQ below (Ql G r0 (Cm, C)) args s 0 0 (lwA G)) (F0 m 7 ls [])), ∀ (y0 : Int64) (y2 : Int32) (y3 : Int64) (y5 : Int64) (C : Mm) (H : Heap) (locs : List Loc) (ls : Array Slot), fX11_leastOf_b47 n k7 y0 y2 y3 y5 = some r0 → lv_has ls 9 [(0, .long y0), (2, .int y2), (3, .long y3), (5, .long y5)] → va_P (gD G) vwCl (wld G (Cm, C)) H → va_S (lwA G) s.heap H locs → W p l e (rmv 1 25) s m args below meth c H locs 0 0 (MQ below (Ql G r0 (Cm, C)) args s 0 0 (lwA G)) (F0 m 47 ls []) := by
    intro k7 hk7 y0 y2 y3 y5 C H locs ls h hl hP hS
    unfold fX11_leastOf_b47 at h
    refine lv_goto (tgt := 7) hx hb dX11_leastOf_47 (by decide) ?_
    exact hk7 y0 y2 y3 y5 _ _ _ _ h (lv_sub hl [0, 1, 2, 3] rfl) hP hS
  have bl7 : ∀ (fu : Nat), ∀ (y0 : Int64) (y2 : Int32) (y3 : Int64) (y5 : Int64) (C : Mm) (H : Heap) (locs : List Loc) (ls : Array Slot), fX11_leastOf_h7 n fu y0 y2 y3 y5 = some r0 → lv_has ls 9 [(0, .long y0), (2, .int y2), (3, .long y3), (5, .long y5)] → va_P (gD G) vwCl (wld G (Cm, C)) H → va_S (lwA G) s.heap H locs → W p l e (rmv 1 25) s m args below meth c H locs 0 0 (MQ below (Ql G r0 (Cm, C)) args s 0 0 (lwA G)) (F0 m 7 ls []) := by
    intro fu
    induction fu with
    | zero =>
      intro y0 y2 y3 y5 C H locs ls h hl hP hS
      rw [fX11_leastOf_h7.eq_1] at h
      cases h
    | succ fu ih =>
      intro y0 y2 y3 y5 C H locs ls h hl hP hS
      rw [fX11_leastOf_h7.eq_2] at h
      refine lv_lload hx hb dX11_leastOf_7 (lv_at hl 3 rfl) ?_
      refine lv_lload_n hx hb dX11_leastOf_9 rfl (lv_at hl 2 rfl) ?_
      refine lv_lsub hx hb dX11_leastOf_10 ?_
      refine lv_lconst (v := 1) hx hb dX11_leastOf_11 (by decide) ?_
      refine W.lcmp hx hb dX11_leastOf_12 ?_
      refine lv_if_le (tgt := 50) hx hb dX11_leastOf_13 (by decide) (fun c1 => ?_) (fun c1 => ?_)
      · replace h := it_t c1 h
        refine lv_lload hx hb dX11_leastOf_50 (lv_at hl 3 rfl) ?_
        exact re_l' hC hr hP hS (Option.some.inj h) rfl dX11_leastOf_52
      · replace h := it_f c1 h
        refine lv_lload_n hx hb dX11_leastOf_16 rfl (lv_at hl 2 rfl) ?_
        refine lv_lload hx hb dX11_leastOf_17 (lv_at hl 3 rfl) ?_
        refine lv_ladd hx hb dX11_leastOf_19 ?_
        refine lv_ldc2 hx hb (v := 2) hown (hts _ k1343) dX11_leastOf_20 ?_
        refine lv_ldiv hx hb dX11_leastOf_23 (by decide) ?_
        refine lv_topl (fun x2 ex2 => ?_)
        replace h := lt_y ex2 h
        refine lv_lstore (lv' := [(7, .long x2), (0, .long y0), (2, .int y2), (3, .long y3), (5, .long y5)]) hx hb dX11_leastOf_24 hl (by decide) rfl (fun ls hl => ?_)
        refine lv_lload hx hb dX11_leastOf_26 (lv_at hl 0 rfl) ?_
        refine lv_iload_n hx hb dX11_leastOf_28 rfl (lv_at hl 2 rfl) ?_
        obtain ⟨r4, hq3, h⟩ := bn_x h
        refine rc_l hS (run_S hC wX11_powerOf k1555 hP hS (As := [.long x2, .int y2]) (rest := []) (mX11_powerOf l G Cm hq3) rfl hl.1 (Nat.le_of_ble_eq_true rfl) ⟨by decide, by decide⟩ ⟨Nat.le_refl _, Nat.le_refl _⟩ rfl dX11_leastOf_29) (fun H locs hP hS => ?_)
        refine lv_lload_n hx hb dX11_leastOf_32 rfl (lv_at hl 1 rfl) ?_
        refine W.lcmp hx hb dX11_leastOf_33 ?_
        refine lv_if_lt (tgt := 44) hx hb dX11_leastOf_34 (by decide) (fun c5 => ?_) (fun c5 => ?_)
        · replace h := it_t c5 h
          refine lv_lload hx hb dX11_leastOf_44 (lv_at hl 0 rfl) ?_
          refine lv_lstore_n (lv' := [(3, .long x2), (7, .long x2), (0, .long y0), (2, .int y2), (5, .long y5)]) hx hb dX11_leastOf_46 rfl hl (by decide) rfl (fun ls hl => ?_)
          exact bl47 (fX11_leastOf_h7 n fu) ih y0 y2 x2 y5 _ _ _ _ h (lv_sub hl [2, 3, 0, 4] rfl) hP hS
        · replace h := it_f c5 h
          refine lv_lload hx hb dX11_leastOf_37 (lv_at hl 0 rfl) ?_
          refine lv_lstore (lv' := [(5, .long x2), (7, .long x2), (0, .long y0), (2, .int y2), (3, .long y3)]) hx hb dX11_leastOf_39 hl (by decide) rfl (fun ls hl => ?_)
          refine lv_goto (tgt := 47) hx hb dX11_leastOf_41 (by decide) ?_
          exact bl47 (fX11_leastOf_h7 n fu) ih y0 y2 y3 x2 _ _ _ _ h (lv_sub hl [2, 3, 4, 0] rfl) hP hS
  unfold fX11_leastOf at h
  refine lv_lconst (v := 0) hx hb dX11_leastOf_0 (by decide) ?_
  refine lv_lstore_n (lv' := [(3, .long 0), (0, .long p0), (2, .int p2)]) hx hb dX11_leastOf_1 rfl hl (by decide) rfl (fun ls hl => ?_)
  refine lv_ldc2 hx hb (v := 1000000001) hown (hts _ k1554) dX11_leastOf_2 ?_
  refine lv_lstore (lv' := [(5, .long 1000000001), (3, .long 0), (0, .long p0), (2, .int p2)]) hx hb dX11_leastOf_5 hl (by decide) rfl (fun ls hl => ?_)
  exact bl7 n p0 p2 0 1000000001 _ _ _ _ h (lv_sub hl [2, 3, 1, 0] rfl) hP hS
set_option maxHeartbeats 4000000 in
set_option maxRecDepth 100000 in
theorem mX11_isNumber (l : Launch) (G : gp) (Cm : Mm) {p0 : Int64} {p2 : Int32} {C : Mm} {r0 : Int32} (h : fX11_isNumber p0 p2 = r0) : Met l yX11_isNumber (wsy yX11_isNumber cX11_isNumber 3 (some .boolean)) (rmv 1 25) (va_Pc [.long p0, .int p2] (Rl G (Cm, C))) (Qi G PZ r0 (Cm, C)) 0 0 (lwA G) := by
  refine met_i [.long p0, .int p2] wX11_isNumber.2.2.2.2 (Nat.le_of_ble_eq_true rfl) ?_
  intro p e s m args below meth c ls hC hr hP hl
  have hC : Cx G p s m args meth c cX11_isNumber RX11 3 := hC
  have hx := hC.1
  have hb := hC.2.1
  have hown := hC.2.2.2.1
  have hts := hC.2.2.2.2.1
  have hS : va_S (lwA G) s.heap s.heap [] := va_S.rf
  have hl : lv_has ls 3 [(0, .long p0), (2, .int p2)] := hl
  unfold fX11_isNumber at h
  refine lv_lload_n hx hb dX11_isNumber_0 rfl (lv_at hl 0 rfl) ?_
  refine lv_lconst (v := 1) hx hb dX11_isNumber_1 (by decide) ?_
  refine lv_ldc2 hx hb (v := 999999999999999999) hown (hts _ k1544) dX11_isNumber_2 ?_
  refine rc_i hS (run_S hC wX11_within k1229 hP hS (As := [.long p0, .long 1, .long 999999999999999999]) (rest := []) (mX11_within l G Cm rfl) rfl hl.1 (Nat.le_of_ble_eq_true rfl) ⟨by decide, by decide⟩ ⟨Nat.le_refl _, Nat.le_refl _⟩ rfl dX11_isNumber_5) (fun H locs pb2 hP hS => ?_)
  refine lv_if_eq (tgt := 22) hx hb dX11_isNumber_8 (by decide) (fun c3 => ?_) (fun c3 => ?_)
  · replace h := it_t c3 h
    refine lv_iconst (v := 0) hx hb dX11_isNumber_22 (by decide) ?_
    exact re_z' hC hr hP hS PZ0 h rfl dX11_isNumber_23
  · replace h := it_f c3 h
    refine lv_iload_n hx hb dX11_isNumber_11 rfl (lv_at hl 1 rfl) ?_
    refine rc_i hS (run_S hC wX11_isPower k1545 hP hS (As := [.int p2]) (rest := []) (mX11_isPower l G Cm rfl) rfl hl.1 (Nat.le_of_ble_eq_true rfl) ⟨by decide, by decide⟩ ⟨Nat.le_refl _, Nat.le_refl _⟩ rfl dX11_isNumber_12) (fun H locs pb5 hP hS => ?_)
    refine lv_if_eq (tgt := 22) hx hb dX11_isNumber_15 (by decide) (fun c6 => ?_) (fun c6 => ?_)
    · replace h := it_t c6 h
      refine lv_iconst (v := 0) hx hb dX11_isNumber_22 (by decide) ?_
      exact re_z' hC hr hP hS PZ0 h rfl dX11_isNumber_23
    · replace h := it_f c6 h
      refine lv_iconst (v := 1) hx hb dX11_isNumber_18 (by decide) ?_
      refine lv_goto (tgt := 23) hx hb dX11_isNumber_19 (by decide) ?_
      exact re_z' hC hr hP hS PZ1 h rfl dX11_isNumber_23
set_option maxHeartbeats 4000000 in
set_option maxRecDepth 100000 in
theorem mX11_rootOf (l : Launch) (G : gp) (Cm : Mm) {n : Nat} {p0 : Int64} {p2 : Int32} {C : Mm} {r0 : Int32} (h : fX11_rootOf n p0 p2 = some r0) : Met l yX11_rootOf (wsy yX11_rootOf cX11_rootOf 5 (some .int)) (rmv 2 53) (va_Pc [.long p0, .int p2] (Rl G (Cm, C))) (Qi G PT r0 (Cm, C)) 0 0 (lwA G) := by
  refine met_i [.long p0, .int p2] wX11_rootOf.2.2.2.2 (Nat.le_of_ble_eq_true rfl) ?_
  intro p e s m args below meth c ls hC hr hP hl
  have hC : Cx G p s m args meth c cX11_rootOf RX11 5 := hC
  have hx := hC.1
  have hb := hC.2.1
  have hown := hC.2.2.2.1
  have hts := hC.2.2.2.2.1
  have hS : va_S (lwA G) s.heap s.heap [] := va_S.rf
  have hl : lv_has ls 5 [(0, .long p0), (2, .int p2)] := hl
  unfold fX11_rootOf at h
  refine lv_lload_n hx hb dX11_rootOf_0 rfl (lv_at hl 0 rfl) ?_
  refine lv_iload_n hx hb dX11_rootOf_1 rfl (lv_at hl 1 rfl) ?_
  obtain ⟨r2, hq1, h⟩ := bn_x h
  refine rc_l hS (run_S hC wX11_leastOf k1551 hP hS (As := [.long p0, .int p2]) (rest := []) (mX11_leastOf l G Cm hq1) rfl hl.1 (Nat.le_of_ble_eq_true rfl) ⟨by decide, by decide⟩ ⟨Nat.le_refl _, Nat.le_refl _⟩ rfl dX11_rootOf_2) (fun H locs hP hS => ?_)
  refine lv_lstore_n (lv' := [(3, .long r2), (0, .long p0), (2, .int p2)]) hx hb dX11_rootOf_5 rfl hl (by decide) rfl (fun ls hl => ?_)
  refine lv_lload_n hx hb dX11_rootOf_6 rfl (lv_at hl 0 rfl) ?_
  refine lv_iload_n hx hb dX11_rootOf_7 rfl (lv_at hl 2 rfl) ?_
  obtain ⟨r4, hq3, h⟩ := bn_x h
  refine rc_l hS (run_S hC wX11_powerOf k1555 hP hS (As := [.long r2, .int p2]) (rest := []) (mX11_powerOf l G Cm hq3) rfl hl.1 (Nat.le_of_ble_eq_true rfl) ⟨by decide, by decide⟩ ⟨Nat.le_refl _, Nat.le_refl _⟩ rfl dX11_rootOf_8) (fun H locs hP hS => ?_)
  refine lv_lload_n hx hb dX11_rootOf_11 rfl (lv_at hl 1 rfl) ?_
  refine W.lcmp hx hb dX11_rootOf_12 ?_
  refine lv_if_ne (tgt := 21) hx hb dX11_rootOf_13 (by decide) (fun c5 => ?_) (fun c5 => ?_)
  · replace h := it_f c5 h
    refine lv_iconst (v := 0) hx hb dX11_rootOf_21 (by decide) ?_
    exact re_i' hC hr hP hS (Option.some.inj h) rfl dX11_rootOf_22
  · replace h := it_t c5 h
    refine lv_lload_n hx hb dX11_rootOf_16 rfl (lv_at hl 0 rfl) ?_
    refine lv_l2i hx hb dX11_rootOf_17 rfl ?_
    refine lv_goto (tgt := 22) hx hb dX11_rootOf_18 (by decide) ?_
    exact re_i' hC hr hP hS (Option.some.inj h) rfl dX11_rootOf_22
set_option maxHeartbeats 4000000 in
set_option maxRecDepth 100000 in
theorem mX11_root (l : Launch) (G : gp) (Cm : Mm) {n : Nat} {p1 : Int64} {p3 : Int32} {C : Mm} {r0 : Int32} (h : fX11_root n p1 p3 = some r0) : Met l yX11_root (wsy yX11_root cX11_root 4 (some .int)) (rmv 3 77) (va_Pc [.ref (gA G 72), .long p1, .int p3] (Rl G (Cm, C))) (Qi G PT r0 (Cm, C)) 0 0 (lwA G) := by
  refine met_i [.ref (gA G 72), .long p1, .int p3] wX11_root.2.2.2.2.2 (Nat.le_of_ble_eq_true rfl) ?_
  intro p e s m args below meth c ls hC hr hP hl
  have hC : Cx G p s m args meth c cX11_root RX11 4 := hC
  have hx := hC.1
  have hb := hC.2.1
  have hown := hC.2.2.2.1
  have hts := hC.2.2.2.2.1
  have hS : va_S (lwA G) s.heap s.heap [] := va_S.rf
  have hl : lv_has ls 4 [(0, .ref (gA G 72)), (1, .long p1), (3, .int p3)] := hl
  unfold fX11_root at h
  refine lv_lload_n hx hb dX11_root_0 rfl (lv_at hl 1 rfl) ?_
  refine lv_iload_n hx hb dX11_root_1 rfl (lv_at hl 2 rfl) ?_
  refine rc_i hS (run_S hC wX11_isNumber k1541 hP hS (As := [.long p1, .int p3]) (rest := []) (mX11_isNumber l G Cm rfl) rfl hl.1 (Nat.le_of_ble_eq_true rfl) ⟨by decide, by decide⟩ ⟨Nat.le_refl _, Nat.le_refl _⟩ rfl dX11_root_2) (fun H locs pb2 hP hS => ?_)
  refine lv_if_eq (tgt := 16) hx hb dX11_root_5 (by decide) (fun c3 => ?_) (fun c3 => ?_)
  · replace h := it_t c3 h
    refine lv_iconst (v := (-1)) hx hb dX11_root_16 (by decide) ?_
    exact re_i' hC hr hP hS (Option.some.inj h) rfl dX11_root_17
  · replace h := it_f c3 h
    refine lv_lload_n hx hb dX11_root_8 rfl (lv_at hl 1 rfl) ?_
    refine lv_iload_n hx hb dX11_root_9 rfl (lv_at hl 2 rfl) ?_
    obtain ⟨r5, hq4, h⟩ := bn_x h
    refine rc_i hS (run_S hC wX11_rootOf k1548 hP hS (As := [.long p1, .int p3]) (rest := []) (mX11_rootOf l G Cm hq4) rfl hl.1 (Nat.le_of_ble_eq_true rfl) ⟨by decide, by decide⟩ ⟨Nat.le_refl _, Nat.le_refl _⟩ rfl dX11_root_10) (fun H locs pb6 hP hS => ?_)
    refine lv_goto (tgt := 17) hx hb dX11_root_13 (by decide) ?_
    exact re_i' hC hr hP hS (Option.some.inj h) rfl dX11_root_17
set_option maxHeartbeats 4000000 in
set_option maxRecDepth 100000 in
theorem mX11_digitsOf (l : Launch) (G : gp) (Cm : Mm) {n : Nat} {p0 : Int64} {C : Mm} {r0 : Int32} (h : fX11_digitsOf n p0 = some r0) : Met l yX11_digitsOf (wsy yX11_digitsOf cX11_digitsOf 5 (some .int)) (rmv 0 0) (va_Pc [.long p0] (Rl G (Cm, C))) (Qi G PT r0 (Cm, C)) 0 0 (lwA G) := by
  refine met_i [.long p0] wX11_digitsOf.2.2.2.2 (Nat.le_of_ble_eq_true rfl) ?_
  intro p e s m args below meth c ls hC hr hP hl
  have hC : Cx G p s m args meth c cX11_digitsOf RX11 5 := hC
  have hx := hC.1
  have hb := hC.2.1
  have hown := hC.2.2.2.1
  have hts := hC.2.2.2.2.1
  have hS : va_S (lwA G) s.heap s.heap [] := va_S.rf
  have hl : lv_has ls 5 [(0, .long p0)] := hl
  have bl4 : ∀ (fu : Nat), ∀ (y2 : Int32) (y3 : Int64) (C : Mm) (H : Heap) (locs : List Loc) (ls : Array Slot), fX11_digitsOf_h4 n fu y2 y3 = some r0 → lv_has ls 5 [(2, .int y2), (3, .long y3)] → va_P (gD G) vwCl (wld G (Cm, C)) H → va_S (lwA G) s.heap H locs → W p l e (rmv 0 0) s m args below meth c H locs 0 0 (MQ below (Qi G PT r0 (Cm, C)) args s 0 0 (lwA G)) (F0 m 4 ls []) := by
    intro fu
    induction fu with
    | zero =>
      intro y2 y3 C H locs ls h hl hP hS
      rw [fX11_digitsOf_h4.eq_1] at h
      cases h
    | succ fu ih =>
      intro y2 y3 C H locs ls h hl hP hS
      rw [fX11_digitsOf_h4.eq_2] at h
      refine lv_lload_n hx hb dX11_digitsOf_4 rfl (lv_at hl 1 rfl) ?_
      refine lv_lconst (v := 0) hx hb dX11_digitsOf_5 (by decide) ?_
      refine W.lcmp hx hb dX11_digitsOf_6 ?_
      refine lv_if_le (tgt := 22) hx hb dX11_digitsOf_7 (by decide) (fun c1 => ?_) (fun c1 => ?_)
      · replace h := it_t c1 h
        refine lv_iload_n hx hb dX11_digitsOf_22 rfl (lv_at hl 0 rfl) ?_
        exact re_i' hC hr hP hS (Option.some.inj h) rfl dX11_digitsOf_23
      · replace h := it_f c1 h
        obtain ⟨x2, ex2⟩ : ∃ y : Int32, y = y2 + 1 := ⟨_, rfl⟩
        replace h := lt_y ex2 h
        refine lv_iinc (v := x2) (lv' := [(2, .int x2), (3, .long y3)]) hx hb dX11_digitsOf_10 hl (k := 0) rfl (by rw [ex2]; rfl) (by decide) rfl (fun ls hl => ?_)
        refine lv_lload_n hx hb dX11_digitsOf_13 rfl (lv_at hl 1 rfl) ?_
        refine lv_ldc2 hx hb (v := 10) hown (hts _ k1566) dX11_digitsOf_14 ?_
        refine lv_ldiv hx hb dX11_digitsOf_17 (by decide) ?_
        refine lv_topl (fun x3 ex3 => ?_)
        replace h := lt_y ex3 h
        refine lv_lstore_n (lv' := [(3, .long x3), (2, .int x2)]) hx hb dX11_digitsOf_18 rfl hl (by decide) rfl (fun ls hl => ?_)
        refine lv_goto (tgt := 4) hx hb dX11_digitsOf_19 (by decide) ?_
        exact ih x2 x3 _ _ _ _ h (lv_sub hl [1, 0] rfl) hP hS
  unfold fX11_digitsOf at h
  refine lv_iconst (v := 0) hx hb dX11_digitsOf_0 (by decide) ?_
  refine lv_istore_n (lv' := [(2, .int 0), (0, .long p0)]) hx hb dX11_digitsOf_1 rfl hl (by decide) rfl (fun ls hl => ?_)
  refine lv_lload_n hx hb dX11_digitsOf_2 rfl (lv_at hl 1 rfl) ?_
  refine lv_lstore_n (lv' := [(3, .long p0), (2, .int 0), (0, .long p0)]) hx hb dX11_digitsOf_3 rfl hl (by decide) rfl (fun ls hl => ?_)
  exact bl4 n 0 p0 _ _ _ _ h (lv_sub hl [1, 0] rfl) hP hS
set_option maxHeartbeats 4000000 in
set_option maxRecDepth 100000 in
theorem mX11_lastOf (l : Launch) (G : gp) (Cm : Mm) {n : Nat} {p0 : Int32} {p1 : Int32} {C : Mm} {r0 : Int32} (h : fX11_lastOf n p0 p1 = some r0) : Met l yX11_lastOf (wsy yX11_lastOf cX11_lastOf 4 (some .int)) (rmv 0 0) (va_Pc [.int p0, .int p1] (Rl G (Cm, C))) (Qi G PT r0 (Cm, C)) 0 0 (lwA G) := by
  refine met_i [.int p0, .int p1] wX11_lastOf.2.2.2.2 (Nat.le_of_ble_eq_true rfl) ?_
  intro p e s m args below meth c ls hC hr hP hl
  have hC : Cx G p s m args meth c cX11_lastOf RX11 4 := hC
  have hx := hC.1
  have hb := hC.2.1
  have hown := hC.2.2.2.1
  have hts := hC.2.2.2.2.1
  have hS : va_S (lwA G) s.heap s.heap [] := va_S.rf
  have hl : lv_has ls 4 [(0, .int p0), (1, .int p1)] := hl
  have bl4 : ∀ (fu : Nat), ∀ (y0 : Int32) (y1 : Int32) (y2 : Int32) (y3 : Int32) (C : Mm) (H : Heap) (locs : List Loc) (ls : Array Slot), fX11_lastOf_h4 n fu y0 y1 y2 y3 = some r0 → lv_has ls 4 [(0, .int y0), (1, .int y1), (2, .int y2), (3, .int y3)] → va_P (gD G) vwCl (wld G (Cm, C)) H → va_S (lwA G) s.heap H locs → W p l e (rmv 0 0) s m args below meth c H locs 0 0 (MQ below (Qi G PT r0 (Cm, C)) args s 0 0 (lwA G)) (F0 m 4 ls []) := by
    intro fu
    induction fu with
    | zero =>
      intro y0 y1 y2 y3 C H locs ls h hl hP hS
      rw [fX11_lastOf_h4.eq_1] at h
      cases h
    | succ fu ih =>
      intro y0 y1 y2 y3 C H locs ls h hl hP hS
      rw [fX11_lastOf_h4.eq_2] at h
      refine lv_iload_n hx hb dX11_lastOf_4 rfl (lv_at hl 3 rfl) ?_
      refine lv_iload_n hx hb dX11_lastOf_5 rfl (lv_at hl 1 rfl) ?_
      refine lv_icmp_ge (tgt := 22) hx hb dX11_lastOf_6 (by decide) (fun c1 => ?_) (fun c1 => ?_)
      · replace h := it_t c1 h
        refine lv_iload_n hx hb dX11_lastOf_22 rfl (lv_at hl 2 rfl) ?_
        exact re_i' hC hr hP hS (Option.some.inj h) rfl dX11_lastOf_23
      · replace h := it_f c1 h
        refine lv_iload_n hx hb dX11_lastOf_9 rfl (lv_at hl 2 rfl) ?_
        refine lv_iload_n hx hb dX11_lastOf_10 rfl (lv_at hl 0 rfl) ?_
        refine lv_imul hx hb dX11_lastOf_11 ?_
        refine lv_bipush (v := 10) hx hb dX11_lastOf_12 (by decide) ?_
        refine r_irem hx hb dX11_lastOf_14 (by decide) ?_
        refine lv_topi (fun x2 ex2 => ?_)
        replace h := lt_y ex2 h
        refine lv_istore_n (lv' := [(2, .int x2), (0, .int y0), (1, .int y1), (3, .int y3)]) hx hb dX11_lastOf_15 rfl hl (by decide) rfl (fun ls hl => ?_)
        obtain ⟨x3, ex3⟩ : ∃ y : Int32, y = y3 + 1 := ⟨_, rfl⟩
        replace h := lt_y ex3 h
        refine lv_iinc (v := x3) (lv' := [(3, .int x3), (2, .int x2), (0, .int y0), (1, .int y1)]) hx hb dX11_lastOf_16 hl (k := 3) rfl (by rw [ex3]; rfl) (by decide) rfl (fun ls hl => ?_)
        refine lv_goto (tgt := 4) hx hb dX11_lastOf_19 (by decide) ?_
        exact ih y0 y1 x2 x3 _ _ _ _ h (lv_sub hl [2, 3, 1, 0] rfl) hP hS
  unfold fX11_lastOf at h
  refine lv_iconst (v := 1) hx hb dX11_lastOf_0 (by decide) ?_
  refine lv_istore_n (lv' := [(2, .int 1), (0, .int p0), (1, .int p1)]) hx hb dX11_lastOf_1 rfl hl (by decide) rfl (fun ls hl => ?_)
  refine lv_iconst (v := 0) hx hb dX11_lastOf_2 (by decide) ?_
  refine lv_istore_n (lv' := [(3, .int 0), (2, .int 1), (0, .int p0), (1, .int p1)]) hx hb dX11_lastOf_3 rfl hl (by decide) rfl (fun ls hl => ?_)
  exact bl4 n p0 p1 1 0 _ _ _ _ h (lv_sub hl [2, 3, 1, 0] rfl) hP hS
set_option maxHeartbeats 4000000 in
set_option maxRecDepth 100000 in
theorem mX11_endingBelow (l : Launch) (G : gp) (Cm : Mm) {p0 : Int64} {p2 : Int32} {C : Mm} {r0 : Int64} (h : fX11_endingBelow p0 p2 = r0) : Met l yX11_endingBelow (wsy yX11_endingBelow cX11_endingBelow 3 (some .long)) (rmv 0 0) (va_Pc [.long p0, .int p2] (Rl G (Cm, C))) (Ql G r0 (Cm, C)) 0 0 (lwA G) := by
  refine met_i [.long p0, .int p2] wX11_endingBelow.2.2.2.2 (Nat.le_of_ble_eq_true rfl) ?_
  intro p e s m args below meth c ls hC hr hP hl
  have hC : Cx G p s m args meth c cX11_endingBelow RX11 3 := hC
  have hx := hC.1
  have hb := hC.2.1
  have hown := hC.2.2.2.1
  have hts := hC.2.2.2.2.1
  have hS : va_S (lwA G) s.heap s.heap [] := va_S.rf
  have hl : lv_has ls 3 [(0, .long p0), (2, .int p2)] := hl
  unfold fX11_endingBelow at h
  refine lv_lload_n hx hb dX11_endingBelow_0 rfl (lv_at hl 0 rfl) ?_
  refine lv_iload_n hx hb dX11_endingBelow_1 rfl (lv_at hl 1 rfl) ?_
  refine lv_i2l hx hb dX11_endingBelow_2 rfl ?_
  refine W.lcmp hx hb dX11_endingBelow_3 ?_
  refine lv_if_gt (tgt := 11) hx hb dX11_endingBelow_4 (by decide) (fun c1 => ?_) (fun c1 => ?_)
  · replace h := it_t c1 h
    refine lv_lload_n hx hb dX11_endingBelow_11 rfl (lv_at hl 0 rfl) ?_
    refine lv_lconst (v := 1) hx hb dX11_endingBelow_12 (by decide) ?_
    refine lv_lsub hx hb dX11_endingBelow_13 ?_
    refine lv_iload_n hx hb dX11_endingBelow_14 rfl (lv_at hl 1 rfl) ?_
    refine lv_i2l hx hb dX11_endingBelow_15 rfl ?_
    refine lv_lsub hx hb dX11_endingBelow_16 ?_
    refine lv_ldc2 hx hb (v := 10) hown (hts _ k1566) dX11_endingBelow_17 ?_
    refine lv_ldiv hx hb dX11_endingBelow_20 (by decide) ?_
    refine lv_lconst (v := 1) hx hb dX11_endingBelow_21 (by decide) ?_
    refine lv_ladd hx hb dX11_endingBelow_22 ?_
    exact re_l' hC hr hP hS h rfl dX11_endingBelow_23
  · replace h := it_f c1 h
    refine lv_lconst (v := 0) hx hb dX11_endingBelow_7 (by decide) ?_
    refine lv_goto (tgt := 23) hx hb dX11_endingBelow_8 (by decide) ?_
    exact re_l' hC hr hP hS h rfl dX11_endingBelow_23
set_option maxHeartbeats 4000000 in
set_option maxRecDepth 100000 in
theorem mX11_manyFirsts (l : Launch) (G : gp) (Cm : Mm) {n : Nat} {p1 : Int64} {p3 : Int32} {p4 : Int32} {C : Mm} {r0 : Int64} {C0 : Mm} (h : fX11_manyFirsts n p1 p3 p4 C = some (r0, C0)) : Met l yX11_manyFirsts (wsy yX11_manyFirsts cX11_manyFirsts 20 (some .long)) (rmv 2 53) (va_Pc [.ref (gA G 72), .long p1, .int p3, .int p4] (Rl G (Cm, C))) (Ql G r0 (Cm, C0)) 0 0 (lwA G) := by
  refine met_i [.ref (gA G 72), .long p1, .int p3, .int p4] wX11_manyFirsts.2.2.2.2.2 (Nat.le_of_ble_eq_true rfl) ?_
  intro p e s m args below meth c ls hC hr hP hl
  have hC : Cx G p s m args meth c cX11_manyFirsts RX11 20 := hC
  have hx := hC.1
  have hb := hC.2.1
  have hown := hC.2.2.2.1
  have hts := hC.2.2.2.2.1
  have hS : va_S (lwA G) s.heap s.heap [] := va_S.rf
  have hl : lv_has ls 20 [(0, .ref (gA G 72)), (1, .long p1), (3, .int p3), (4, .int p4)] := hl
  have bl228 : ∀ (k131 : Int32 → Int64 → Int64 → Int32 → Int64 → Int32 → Mm → Option (Int64 × Mm)) (hk131 : ∀ (y3 : Int32) (y10 : Int64) (y12 : Int64) (y14 : Int32) (y15 : Int64) (y17 : Int32) (C : Mm) (H : Heap) (locs : List Loc) (ls : Array Slot), k131 y3 y10 y12 y14 y15 y17 C = some (r0, C0) → lv_has ls 20 [(0, .ref (gA G 72)), (3, .int y3), (10, .long y10), (12, .long y12), (14, .int y14), (15, .long y15), (17, .int y17)] → va_P (gD G) vwCl (wld G (Cm, C)) H → va_S (lwA G) s.heap H locs → W p l e (rmv 2 53) s m args below meth c H locs 0 0 (MQ below (Ql G r0 (Cm, C0)) args s 0 0 (lwA G)) (F0 m 131 ls [])), ∀ (y3 : Int32) (y10 : Int64) (y12 : Int64) (y14 : Int32) (y15 : Int64) (y17 : Int32) (C : Mm) (H : Heap) (locs : List Loc) (ls : Array Slot), fX11_manyFirsts_b228 n k131 y3 y10 y12 y14 y15 y17 C = some (r0, C0) → lv_has ls 20 [(0, .ref (gA G 72)), (3, .int y3), (10, .long y10), (12, .long y12), (14, .int y14), (15, .long y15), (17, .int y17)] → va_P (gD G) vwCl (wld G (Cm, C)) H → va_S (lwA G) s.heap H locs → W p l e (rmv 2 53) s m args below meth c H locs 0 0 (MQ below (Ql G r0 (Cm, C0)) args s 0 0 (lwA G)) (F0 m 228 ls []) := by
    intro k131 hk131 y3 y10 y12 y14 y15 y17 C H locs ls h hl hP hS
    unfold fX11_manyFirsts_b228 at h
    obtain ⟨x1, ex1⟩ : ∃ y : Int32, y = y17 + 1 := ⟨_, rfl⟩
    replace h := lt_y ex1 h
    refine lv_iinc (v := x1) (lv' := [(17, .int x1), (0, .ref (gA G 72)), (3, .int y3), (10, .long y10), (12, .long y12), (14, .int y14), (15, .long y15)]) hx hb dX11_manyFirsts_228 hl (k := 6) rfl (by rw [ex1]; rfl) (by decide) rfl (fun ls hl => ?_)
    refine lv_goto (tgt := 131) hx hb dX11_manyFirsts_231 (by decide) ?_
    exact hk131 y3 y10 y12 y14 y15 x1 C _ _ _ h (lv_sub hl [1, 2, 3, 4, 5, 6, 0] rfl) hP hS
  have bl222 : ∀ (k131 : Int32 → Int64 → Int64 → Int32 → Int64 → Int32 → Mm → Option (Int64 × Mm)) (hk131 : ∀ (y3 : Int32) (y10 : Int64) (y12 : Int64) (y14 : Int32) (y15 : Int64) (y17 : Int32) (C : Mm) (H : Heap) (locs : List Loc) (ls : Array Slot), k131 y3 y10 y12 y14 y15 y17 C = some (r0, C0) → lv_has ls 20 [(0, .ref (gA G 72)), (3, .int y3), (10, .long y10), (12, .long y12), (14, .int y14), (15, .long y15), (17, .int y17)] → va_P (gD G) vwCl (wld G (Cm, C)) H → va_S (lwA G) s.heap H locs → W p l e (rmv 2 53) s m args below meth c H locs 0 0 (MQ below (Ql G r0 (Cm, C0)) args s 0 0 (lwA G)) (F0 m 131 ls [])), ∀ (y3 : Int32) (y10 : Int64) (y12 : Int64) (y14 : Int32) (y15 : Int64) (y17 : Int32) (y18 : Int64) (C : Mm) (H : Heap) (locs : List Loc) (ls : Array Slot), fX11_manyFirsts_b222 n k131 y3 y10 y12 y14 y15 y17 y18 C = some (r0, C0) → lv_has ls 20 [(0, .ref (gA G 72)), (3, .int y3), (10, .long y10), (12, .long y12), (14, .int y14), (15, .long y15), (17, .int y17), (18, .long y18)] → va_P (gD G) vwCl (wld G (Cm, C)) H → va_S (lwA G) s.heap H locs → W p l e (rmv 2 53) s m args below meth c H locs 0 0 (MQ below (Ql G r0 (Cm, C0)) args s 0 0 (lwA G)) (F0 m 222 ls []) := by
    intro k131 hk131 y3 y10 y12 y14 y15 y17 y18 C H locs ls h hl hP hS
    unfold fX11_manyFirsts_b222 at h
    refine lv_aload_n hx hb dX11_manyFirsts_222 rfl (lv_at hl 0 rfl) ?_
    refine lv_lload hx hb dX11_manyFirsts_223 (lv_at hl 7 rfl) ?_
    obtain ⟨C2, eC2⟩ : ∃ Z : Mm, Z = wrL C 72 44 y18 := ⟨_, rfl⟩
    replace h := lt_y eC2 h
    refine r_put (X' := (Cm, C2)) hC inX11 tyX11 tyX11_ok nmX11 hP hS (e_72 G _) rfl 44 (by decide) rfl k1094 rfl (v := .long y18) rfl rfl (Nat.le_of_ble_eq_true rfl) (p_72_44 G _ _ eC2) dX11_manyFirsts_225 (fun H locs hP hS => ?_)
    exact bl228 k131 hk131 y3 y10 y12 y14 y15 y17 C2 _ _ _ h (lv_sub hl [0, 1, 2, 3, 4, 5, 6] rfl) hP hS
  have bl131 : ∀ (fu : Nat), ∀ (y3 : Int32) (y10 : Int64) (y12 : Int64) (y14 : Int32) (y15 : Int64) (y17 : Int32) (C : Mm) (H : Heap) (locs : List Loc) (ls : Array Slot), fX11_manyFirsts_h131 n fu y3 y10 y12 y14 y15 y17 C = some (r0, C0) → lv_has ls 20 [(0, .ref (gA G 72)), (3, .int y3), (10, .long y10), (12, .long y12), (14, .int y14), (15, .long y15), (17, .int y17)] → va_P (gD G) vwCl (wld G (Cm, C)) H → va_S (lwA G) s.heap H locs → W p l e (rmv 2 53) s m args below meth c H locs 0 0 (MQ below (Ql G r0 (Cm, C0)) args s 0 0 (lwA G)) (F0 m 131 ls []) := by
    intro fu
    induction fu with
    | zero =>
      intro y3 y10 y12 y14 y15 y17 C H locs ls h hl hP hS
      rw [fX11_manyFirsts_h131.eq_1] at h
      cases h
    | succ fu ih =>
      intro y3 y10 y12 y14 y15 y17 C H locs ls h hl hP hS
      rw [fX11_manyFirsts_h131.eq_2] at h
      refine lv_iload hx hb dX11_manyFirsts_131 (lv_at hl 6 rfl) ?_
      refine lv_bipush (v := 10) hx hb dX11_manyFirsts_133 (by decide) ?_
      refine lv_icmp_ge (tgt := 234) hx hb dX11_manyFirsts_135 (by decide) (fun c3 => ?_) (fun c3 => ?_)
      · replace h := it_t c3 h
        refine lv_lload hx hb dX11_manyFirsts_234 (lv_at hl 5 rfl) ?_
        exact re_l' hC hr hP hS (pr_1 h) (congrArg (fun Z : Mm => (Cm, Z)) (pr_2 h)) dX11_manyFirsts_236
      · replace h := it_f c3 h
        refine lv_iload hx hb dX11_manyFirsts_138 (lv_at hl 6 rfl) ?_
        refine lv_iload_n hx hb dX11_manyFirsts_140 rfl (lv_at hl 1 rfl) ?_
        obtain ⟨r5, hq4, h⟩ := bn_x h
        refine rc_i hS (run_S hC wX11_lastOf k1571 hP hS (As := [.int y17, .int y3]) (rest := []) (mX11_lastOf l G Cm hq4) rfl hl.1 (Nat.le_of_ble_eq_true rfl) ⟨by decide, by decide⟩ ⟨Nat.le_refl _, Nat.le_refl _⟩ rfl dX11_manyFirsts_141) (fun H locs pb6 hP hS => ?_)
        refine lv_iload hx hb dX11_manyFirsts_144 (lv_at hl 4 rfl) ?_
        refine lv_icmp_eq (tgt := 152) hx hb dX11_manyFirsts_146 (by decide) (fun c7 => ?_) (fun c7 => ?_)
        · replace h := it_t c7 h
          refine lv_lload hx hb dX11_manyFirsts_152 (lv_at hl 5 rfl) ?_
          refine lv_lload hx hb dX11_manyFirsts_154 (lv_at hl 3 rfl) ?_
          refine lv_iload hx hb dX11_manyFirsts_156 (lv_at hl 6 rfl) ?_
          refine rc_l hS (run_S hC wX11_endingBelow k1574 hP hS (As := [.long y12, .int y17]) (rest := [.long y15]) (mX11_endingBelow l G Cm rfl) rfl hl.1 (Nat.le_of_ble_eq_true rfl) ⟨by decide, by decide⟩ ⟨Nat.le_refl _, Nat.le_refl _⟩ rfl dX11_manyFirsts_158) (fun H locs hP hS => ?_)
          refine lv_lload hx hb dX11_manyFirsts_161 (lv_at hl 2 rfl) ?_
          refine lv_iload hx hb dX11_manyFirsts_163 (lv_at hl 6 rfl) ?_
          refine rc_l hS (run_S hC wX11_endingBelow k1574 hP hS (As := [.long y10, .int y17]) (rest := [.long (fX11_endingBelow y12 y17), .long y15]) (mX11_endingBelow l G Cm rfl) rfl hl.1 (Nat.le_of_ble_eq_true rfl) ⟨by decide, by decide⟩ ⟨Nat.le_refl _, Nat.le_refl _⟩ rfl dX11_manyFirsts_165) (fun H locs hP hS => ?_)
          refine lv_lsub hx hb dX11_manyFirsts_168 ?_
          refine lv_ladd hx hb dX11_manyFirsts_169 ?_
          refine lv_topl (fun x10 ex10 => ?_)
          replace h := lt_y ex10 h
          refine lv_lstore (lv' := [(15, .long x10), (0, .ref (gA G 72)), (3, .int y3), (10, .long y10), (12, .long y12), (14, .int y14), (17, .int y17)]) hx hb dX11_manyFirsts_170 hl (by decide) rfl (fun ls hl => ?_)
          refine lv_lload hx hb dX11_manyFirsts_172 (lv_at hl 3 rfl) ?_
          refine lv_iload hx hb dX11_manyFirsts_174 (lv_at hl 6 rfl) ?_
          refine lv_i2l hx hb dX11_manyFirsts_176 rfl ?_
          refine lv_lload hx hb dX11_manyFirsts_177 (lv_at hl 3 rfl) ?_
          refine lv_lsub hx hb dX11_manyFirsts_179 ?_
          refine lv_ldc2 hx hb (v := 10) hown (hts _ k1566) dX11_manyFirsts_180 ?_
          refine r_lrem hx hb dX11_manyFirsts_183 (by decide) ?_
          refine lv_ldc2 hx hb (v := 10) hown (hts _ k1566) dX11_manyFirsts_184 ?_
          refine lv_ladd hx hb dX11_manyFirsts_187 ?_
          refine lv_ldc2 hx hb (v := 10) hown (hts _ k1566) dX11_manyFirsts_188 ?_
          refine r_lrem hx hb dX11_manyFirsts_191 (by decide) ?_
          refine lv_ladd hx hb dX11_manyFirsts_192 ?_
          refine lv_topl (fun x11 ex11 => ?_)
          replace h := lt_y ex11 h
          refine lv_lstore (lv' := [(18, .long x11), (15, .long x10), (0, .ref (gA G 72)), (3, .int y3), (10, .long y10), (12, .long y12), (14, .int y14), (17, .int y17)]) hx hb dX11_manyFirsts_193 hl (by decide) rfl (fun ls hl => ?_)
          refine lv_lload hx hb dX11_manyFirsts_195 (lv_at hl 0 rfl) ?_
          refine lv_lload hx hb dX11_manyFirsts_197 (lv_at hl 5 rfl) ?_
          refine W.lcmp hx hb dX11_manyFirsts_199 ?_
          refine lv_if_ge (tgt := 228) hx hb dX11_manyFirsts_200 (by decide) (fun c12 => ?_) (fun c12 => ?_)
          · replace h := it_t c12 h
            exact bl228 (fX11_manyFirsts_h131 n fu) ih y3 y10 y12 y14 x10 y17 C _ _ _ h (lv_sub hl [2, 3, 4, 5, 6, 1, 7] rfl) hP hS
          · replace h := it_f c12 h
            refine lv_aload_n hx hb dX11_manyFirsts_203 rfl (lv_at hl 2 rfl) ?_
            refine r_get (v := .long (C.2 72 44)) hC inX11 hP (e_72 G _) rfl 44 (by decide) rfl k1094 rfl dX11_manyFirsts_204 ?_
            refine lv_lconst (v := 0) hx hb dX11_manyFirsts_207 (by decide) ?_
            refine W.lcmp hx hb dX11_manyFirsts_208 ?_
            refine lv_if_eq (tgt := 222) hx hb dX11_manyFirsts_209 (by decide) (fun c13 => ?_) (fun c13 => ?_)
            · replace h := it_t c13 h
              exact bl222 (fX11_manyFirsts_h131 n fu) ih y3 y10 y12 y14 x10 y17 x11 C _ _ _ h (lv_sub hl [2, 3, 4, 5, 6, 1, 7, 0] rfl) hP hS
            · replace h := it_f c13 h
              refine lv_lload hx hb dX11_manyFirsts_212 (lv_at hl 0 rfl) ?_
              refine lv_aload_n hx hb dX11_manyFirsts_214 rfl (lv_at hl 2 rfl) ?_
              refine r_get (v := .long (C.2 72 44)) hC inX11 hP (e_72 G _) rfl 44 (by decide) rfl k1094 rfl dX11_manyFirsts_215 ?_
              refine W.lcmp hx hb dX11_manyFirsts_218 ?_
              refine lv_if_ge (tgt := 228) hx hb dX11_manyFirsts_219 (by decide) (fun c14 => ?_) (fun c14 => ?_)
              · replace h := it_t c14 h
                exact bl228 (fX11_manyFirsts_h131 n fu) ih y3 y10 y12 y14 x10 y17 C _ _ _ h (lv_sub hl [2, 3, 4, 5, 6, 1, 7] rfl) hP hS
              · replace h := it_f c14 h
                exact bl222 (fX11_manyFirsts_h131 n fu) ih y3 y10 y12 y14 x10 y17 x11 C _ _ _ h (lv_sub hl [2, 3, 4, 5, 6, 1, 7, 0] rfl) hP hS
        · replace h := it_f c7 h
          refine lv_goto (tgt := 228) hx hb dX11_manyFirsts_149 (by decide) ?_
          exact bl228 (fX11_manyFirsts_h131 n fu) ih y3 y10 y12 y14 y15 y17 C _ _ _ h (lv_sub hl [0, 1, 2, 3, 4, 5, 6] rfl) hP hS
  have bl110 : ∀ (y1 : Int64) (y3 : Int32) (y10 : Int64) (s0 : Int64) (C : Mm) (H : Heap) (locs : List Loc) (ls : Array Slot), fX11_manyFirsts_b110 n y1 y3 y10 s0 C = some (r0, C0) → lv_has ls 20 [(0, .ref (gA G 72)), (1, .long y1), (3, .int y3), (10, .long y10)] → va_P (gD G) vwCl (wld G (Cm, C)) H → va_S (lwA G) s.heap H locs → W p l e (rmv 2 53) s m args below meth c H locs 0 0 (MQ below (Ql G r0 (Cm, C0)) args s 0 0 (lwA G)) (F0 m 110 ls [.long s0]) := by
    intro y1 y3 y10 s0 C H locs ls h hl hP hS
    unfold fX11_manyFirsts_b110 at h
    refine lv_lstore (lv' := [(12, .long s0), (0, .ref (gA G 72)), (1, .long y1), (3, .int y3), (10, .long y10)]) hx hb dX11_manyFirsts_110 hl (by decide) rfl (fun ls hl => ?_)
    refine lv_lload_n hx hb dX11_manyFirsts_112 rfl (lv_at hl 2 rfl) ?_
    refine lv_ldc2 hx hb (v := 10) hown (hts _ k1566) dX11_manyFirsts_113 ?_
    refine r_lrem hx hb dX11_manyFirsts_116 (by decide) ?_
    refine lv_l2i hx hb dX11_manyFirsts_117 rfl ?_
    refine lv_topi (fun x15 ex15 => ?_)
    replace h := lt_y ex15 h
    refine lv_istore (lv' := [(14, .int x15), (12, .long s0), (0, .ref (gA G 72)), (1, .long y1), (3, .int y3), (10, .long y10)]) hx hb dX11_manyFirsts_118 hl (by decide) rfl (fun ls hl => ?_)
    refine lv_lconst (v := 0) hx hb dX11_manyFirsts_120 (by decide) ?_
    refine lv_lstore (lv' := [(15, .long 0), (14, .int x15), (12, .long s0), (0, .ref (gA G 72)), (1, .long y1), (3, .int y3), (10, .long y10)]) hx hb dX11_manyFirsts_121 hl (by decide) rfl (fun ls hl => ?_)
    refine lv_aload_n hx hb dX11_manyFirsts_123 rfl (lv_at hl 3 rfl) ?_
    refine lv_lconst (v := 0) hx hb dX11_manyFirsts_124 (by decide) ?_
    obtain ⟨C16, eC16⟩ : ∃ Z : Mm, Z = wrL C 72 44 0 := ⟨_, rfl⟩
    replace h := lt_y eC16 h
    refine r_put (X' := (Cm, C16)) hC inX11 tyX11 tyX11_ok nmX11 hP hS (e_72 G _) rfl 44 (by decide) rfl k1094 rfl (v := .long 0) rfl rfl (Nat.le_of_ble_eq_true rfl) (p_72_44 G _ _ eC16) dX11_manyFirsts_125 (fun H locs hP hS => ?_)
    refine lv_iconst (v := 0) hx hb dX11_manyFirsts_128 (by decide) ?_
    refine lv_istore (lv' := [(17, .int 0), (15, .long 0), (14, .int x15), (12, .long s0), (0, .ref (gA G 72)), (1, .long y1), (3, .int y3), (10, .long y10)]) hx hb dX11_manyFirsts_129 hl (by decide) rfl (fun ls hl => ?_)
    exact bl131 n y3 y10 s0 x15 0 0 C16 _ _ _ h (lv_sub hl [4, 6, 7, 3, 2, 1, 0] rfl) hP hS
  have bl97 : ∀ (y1 : Int64) (y3 : Int32) (y10 : Int64) (s0 : Int64) (s1 : Int64) (C : Mm) (H : Heap) (locs : List Loc) (ls : Array Slot), fX11_manyFirsts_b97 n y1 y3 y10 s0 s1 C = some (r0, C0) → lv_has ls 20 [(0, .ref (gA G 72)), (1, .long y1), (3, .int y3), (10, .long y10)] → va_P (gD G) vwCl (wld G (Cm, C)) H → va_S (lwA G) s.heap H locs → W p l e (rmv 2 53) s m args below meth c H locs 0 0 (MQ below (Ql G r0 (Cm, C0)) args s 0 0 (lwA G)) (F0 m 97 ls [.long s0, .long s1]) := by
    intro y1 y3 y10 s0 s1 C H locs ls h hl hP hS
    unfold fX11_manyFirsts_b97 at h
    refine lv_ladd hx hb dX11_manyFirsts_97 ?_
    refine lv_goto (tgt := 110) hx hb dX11_manyFirsts_98 (by decide) ?_
    exact bl110 y1 y3 y10 (s1 + s0) C _ _ _ h (lv_sub hl [0, 1, 2, 3] rfl) hP hS
  have bl12 : ∀ (fu : Nat), ∀ (y1 : Int64) (y3 : Int32) (y4 : Int32) (y5 : Int32) (y6 : Int64) (y8 : Int32) (C : Mm) (H : Heap) (locs : List Loc) (ls : Array Slot), fX11_manyFirsts_h12 n fu y1 y3 y4 y5 y6 y8 C = some (r0, C0) → lv_has ls 20 [(0, .ref (gA G 72)), (1, .long y1), (3, .int y3), (4, .int y4), (5, .int y5), (6, .long y6), (8, .int y8)] → va_P (gD G) vwCl (wld G (Cm, C)) H → va_S (lwA G) s.heap H locs → W p l e (rmv 2 53) s m args below meth c H locs 0 0 (MQ below (Ql G r0 (Cm, C0)) args s 0 0 (lwA G)) (F0 m 12 ls []) := by
    intro fu
    induction fu with
    | zero =>
      intro y1 y3 y4 y5 y6 y8 C H locs ls h hl hP hS
      rw [fX11_manyFirsts_h12.eq_1] at h
      cases h
    | succ fu ih =>
      intro y1 y3 y4 y5 y6 y8 C H locs ls h hl hP hS
      rw [fX11_manyFirsts_h12.eq_2] at h
      refine lv_iload hx hb dX11_manyFirsts_12 (lv_at hl 6 rfl) ?_
      refine lv_iload hx hb dX11_manyFirsts_14 (lv_at hl 4 rfl) ?_
      refine lv_iload hx hb dX11_manyFirsts_16 (lv_at hl 3 rfl) ?_
      refine lv_isub hx hb dX11_manyFirsts_18 ?_
      refine lv_icmp_ge (tgt := 36) hx hb dX11_manyFirsts_19 (by decide) (fun c17 => ?_) (fun c17 => ?_)
      · replace h := it_t c17 h
        refine lv_lload_n hx hb dX11_manyFirsts_36 rfl (lv_at hl 1 rfl) ?_
        refine lv_lload hx hb dX11_manyFirsts_37 (lv_at hl 5 rfl) ?_
        by_cases c18 : y6 = 0
        · cases it_t c18 h
        replace h := it_f c18 h
        refine lv_ldiv hx hb dX11_manyFirsts_39 c18 ?_
        refine lv_lload hx hb dX11_manyFirsts_40 (lv_at hl 5 rfl) ?_
        refine lv_lmul hx hb dX11_manyFirsts_42 ?_
        refine lv_topl (fun x19 ex19 => ?_)
        replace h := lt_y ex19 h
        refine lv_lstore (lv' := [(8, .long x19), (0, .ref (gA G 72)), (1, .long y1), (3, .int y3), (4, .int y4), (5, .int y5), (6, .long y6)]) hx hb dX11_manyFirsts_43 hl (by decide) rfl (fun ls hl => ?_)
        refine lv_lload hx hb dX11_manyFirsts_45 (lv_at hl 0 rfl) ?_
        refine lv_iload_n hx hb dX11_manyFirsts_47 rfl (lv_at hl 3 rfl) ?_
        obtain ⟨r21, hq20, h⟩ := bn_x h
        refine rc_l hS (run_S hC wX11_leastOf k1551 hP hS (As := [.long x19, .int y3]) (rest := []) (mX11_leastOf l G Cm hq20) rfl hl.1 (Nat.le_of_ble_eq_true rfl) ⟨by decide, by decide⟩ ⟨Nat.le_refl _, Nat.le_refl _⟩ rfl dX11_manyFirsts_48) (fun H locs hP hS => ?_)
        refine lv_lstore (lv' := [(10, .long r21), (8, .long x19), (0, .ref (gA G 72)), (1, .long y1), (3, .int y3), (4, .int y4), (5, .int y5), (6, .long y6)]) hx hb dX11_manyFirsts_51 hl (by decide) rfl (fun ls hl => ?_)
        refine lv_lload hx hb dX11_manyFirsts_53 (lv_at hl 1 rfl) ?_
        refine lv_lload hx hb dX11_manyFirsts_55 (lv_at hl 7 rfl) ?_
        refine lv_ladd hx hb dX11_manyFirsts_57 ?_
        refine lv_lconst (v := 1) hx hb dX11_manyFirsts_58 (by decide) ?_
        refine lv_lsub hx hb dX11_manyFirsts_59 ?_
        refine lv_ldc2 hx hb (v := 999999999999999999) hown (hts _ k1544) dX11_manyFirsts_60 ?_
        refine W.lcmp hx hb dX11_manyFirsts_63 ?_
        refine lv_if_lt (tgt := 101) hx hb dX11_manyFirsts_64 (by decide) (fun c22 => ?_) (fun c22 => ?_)
        · replace h := it_t c22 h
          refine lv_lload hx hb dX11_manyFirsts_101 (lv_at hl 1 rfl) ?_
          refine lv_lload hx hb dX11_manyFirsts_103 (lv_at hl 7 rfl) ?_
          refine lv_ladd hx hb dX11_manyFirsts_105 ?_
          refine lv_iload_n hx hb dX11_manyFirsts_106 rfl (lv_at hl 4 rfl) ?_
          obtain ⟨r24, hq23, h⟩ := bn_x h
          refine rc_l hS (run_S hC wX11_leastOf k1551 hP hS (As := [.long (x19 + y6), .int y3]) (rest := []) (mX11_leastOf l G Cm hq23) rfl hl.1 (Nat.le_of_ble_eq_true rfl) ⟨by decide, by decide⟩ ⟨Nat.le_refl _, Nat.le_refl _⟩ rfl dX11_manyFirsts_107) (fun H locs hP hS => ?_)
          exact bl110 y1 y3 r21 r24 C _ _ _ h (lv_sub hl [2, 3, 4, 0] rfl) hP hS
        · replace h := it_f c22 h
          refine lv_ldc2 hx hb (v := 999999999999999999) hown (hts _ k1544) dX11_manyFirsts_67 ?_
          refine lv_iload_n hx hb dX11_manyFirsts_70 rfl (lv_at hl 4 rfl) ?_
          obtain ⟨r26, hq25, h⟩ := bn_x h
          refine rc_l hS (run_S hC wX11_leastOf k1551 hP hS (As := [.long 999999999999999999, .int y3]) (rest := []) (mX11_leastOf l G Cm hq25) rfl hl.1 (Nat.le_of_ble_eq_true rfl) ⟨by decide, by decide⟩ ⟨Nat.le_refl _, Nat.le_refl _⟩ rfl dX11_manyFirsts_71) (fun H locs hP hS => ?_)
          refine lv_ldc2 hx hb (v := 999999999999999999) hown (hts _ k1544) dX11_manyFirsts_74 ?_
          refine lv_iload_n hx hb dX11_manyFirsts_77 rfl (lv_at hl 4 rfl) ?_
          obtain ⟨r28, hq27, h⟩ := bn_x h
          refine rc_l hS (run_S hC wX11_leastOf k1551 hP hS (As := [.long 999999999999999999, .int y3]) (rest := [.long r26]) (mX11_leastOf l G Cm hq27) rfl hl.1 (Nat.le_of_ble_eq_true rfl) ⟨by decide, by decide⟩ ⟨Nat.le_refl _, Nat.le_refl _⟩ rfl dX11_manyFirsts_78) (fun H locs hP hS => ?_)
          refine lv_iload_n hx hb dX11_manyFirsts_81 rfl (lv_at hl 4 rfl) ?_
          obtain ⟨r30, hq29, h⟩ := bn_x h
          refine rc_l hS (run_S hC wX11_powerOf k1555 hP hS (As := [.long r28, .int y3]) (rest := [.long r26]) (mX11_powerOf l G Cm hq29) rfl hl.1 (Nat.le_of_ble_eq_true rfl) ⟨by decide, by decide⟩ ⟨Nat.le_refl _, Nat.le_refl _⟩ rfl dX11_manyFirsts_82) (fun H locs hP hS => ?_)
          refine lv_ldc2 hx hb (v := 999999999999999999) hown (hts _ k1544) dX11_manyFirsts_85 ?_
          refine W.lcmp hx hb dX11_manyFirsts_88 ?_
          refine lv_if_gt (tgt := 96) hx hb dX11_manyFirsts_89 (by decide) (fun c31 => ?_) (fun c31 => ?_)
          · replace h := it_t c31 h
            refine lv_lconst (v := 0) hx hb dX11_manyFirsts_96 (by decide) ?_
            exact bl97 y1 y3 r21 0 r26 C _ _ _ h (lv_sub hl [2, 3, 4, 0] rfl) hP hS
          · replace h := it_f c31 h
            refine lv_lconst (v := 1) hx hb dX11_manyFirsts_92 (by decide) ?_
            refine lv_goto (tgt := 97) hx hb dX11_manyFirsts_93 (by decide) ?_
            exact bl97 y1 y3 r21 1 r26 C _ _ _ h (lv_sub hl [2, 3, 4, 0] rfl) hP hS
      · replace h := it_f c17 h
        refine lv_lload hx hb dX11_manyFirsts_22 (lv_at hl 5 rfl) ?_
        refine lv_ldc2 hx hb (v := 10) hown (hts _ k1566) dX11_manyFirsts_24 ?_
        refine lv_lmul hx hb dX11_manyFirsts_27 ?_
        refine lv_topl (fun x32 ex32 => ?_)
        replace h := lt_y ex32 h
        refine lv_lstore (lv' := [(6, .long x32), (0, .ref (gA G 72)), (1, .long y1), (3, .int y3), (4, .int y4), (5, .int y5), (8, .int y8)]) hx hb dX11_manyFirsts_28 hl (by decide) rfl (fun ls hl => ?_)
        obtain ⟨x33, ex33⟩ : ∃ y : Int32, y = y8 + 1 := ⟨_, rfl⟩
        replace h := lt_y ex33 h
        refine lv_iinc (v := x33) (lv' := [(8, .int x33), (6, .long x32), (0, .ref (gA G 72)), (1, .long y1), (3, .int y3), (4, .int y4), (5, .int y5)]) hx hb dX11_manyFirsts_30 hl (k := 6) rfl (by rw [ex33]; rfl) (by decide) rfl (fun ls hl => ?_)
        refine lv_goto (tgt := 12) hx hb dX11_manyFirsts_33 (by decide) ?_
        exact ih y1 y3 y4 y5 x32 x33 C _ _ _ h (lv_sub hl [2, 3, 4, 5, 6, 1, 0] rfl) hP hS
  unfold fX11_manyFirsts at h
  refine lv_lload_n hx hb dX11_manyFirsts_0 rfl (lv_at hl 1 rfl) ?_
  obtain ⟨r35, hq34, h⟩ := bn_x h
  refine rc_i hS (run_S hC wX11_digitsOf k1563 hP hS (As := [.long p1]) (rest := []) (mX11_digitsOf l G Cm hq34) rfl hl.1 (Nat.le_of_ble_eq_true rfl) ⟨by decide, by decide⟩ ⟨Nat.le_refl _, Nat.le_refl _⟩ rfl dX11_manyFirsts_1) (fun H locs pb36 hP hS => ?_)
  refine lv_istore (lv' := [(5, .int r35), (0, .ref (gA G 72)), (1, .long p1), (3, .int p3), (4, .int p4)]) hx hb dX11_manyFirsts_4 hl (by decide) rfl (fun ls hl => ?_)
  refine lv_lconst (v := 1) hx hb dX11_manyFirsts_6 (by decide) ?_
  refine lv_lstore (lv' := [(6, .long 1), (5, .int r35), (0, .ref (gA G 72)), (1, .long p1), (3, .int p3), (4, .int p4)]) hx hb dX11_manyFirsts_7 hl (by decide) rfl (fun ls hl => ?_)
  refine lv_iconst (v := 0) hx hb dX11_manyFirsts_9 (by decide) ?_
  refine lv_istore (lv' := [(8, .int 0), (6, .long 1), (5, .int r35), (0, .ref (gA G 72)), (1, .long p1), (3, .int p3), (4, .int p4)]) hx hb dX11_manyFirsts_10 hl (by decide) rfl (fun ls hl => ?_)
  exact bl12 n p1 p3 p4 r35 1 0 C _ _ _ h (lv_sub hl [3, 4, 5, 6, 2, 1, 0] rfl) hP hS
set_option maxHeartbeats 4000000 in
set_option maxRecDepth 100000 in
theorem mX11_firsts (l : Launch) (G : gp) (Cm : Mm) {n : Nat} {p1 : Int64} {p3 : Int32} {p4 : Int32} {C : Mm} {r0 : Int32} {C0 : Mm} (h : fX11_firsts n p1 p3 p4 C = some (r0, C0)) : Met l yX11_firsts (wsy yX11_firsts cX11_firsts 7 (some .int)) (rmv 3 92) (va_Pc [.ref (gA G 72), .long p1, .int p3, .int p4] (Rl G (Cm, C))) (Qi G PT r0 (Cm, C0)) 0 0 (lwA G) := by
  refine met_i [.ref (gA G 72), .long p1, .int p3, .int p4] wX11_firsts.2.2.2.2.2 (Nat.le_of_ble_eq_true rfl) ?_
  intro p e s m args below meth c ls hC hr hP hl
  have hC : Cx G p s m args meth c cX11_firsts RX11 7 := hC
  have hx := hC.1
  have hb := hC.2.1
  have hown := hC.2.2.2.1
  have hts := hC.2.2.2.2.1
  have hS : va_S (lwA G) s.heap s.heap [] := va_S.rf
  have hl : lv_has ls 7 [(0, .ref (gA G 72)), (1, .long p1), (3, .int p3), (4, .int p4)] := hl
  unfold fX11_firsts at h
  refine lv_iload_n hx hb dX11_firsts_0 rfl (lv_at hl 2 rfl) ?_
  refine lv_if_lt (tgt := 43) hx hb dX11_firsts_1 (by decide) (fun c1 => ?_) (fun c1 => ?_)
  · replace h := it_t c1 h
    refine lv_iconst (v := (-1)) hx hb dX11_firsts_43 (by decide) ?_
    exact re_i' hC hr hP hS (pr_1 h) (congrArg (fun Z : Mm => (Cm, Z)) (pr_2 h)) dX11_firsts_44
  · replace h := it_f c1 h
    refine lv_lload_n hx hb dX11_firsts_4 rfl (lv_at hl 1 rfl) ?_
    refine lv_iload_n hx hb dX11_firsts_5 rfl (lv_at hl 2 rfl) ?_
    refine lv_bipush (v := 100) hx hb dX11_firsts_6 (by decide) ?_
    refine lv_idiv hx hb dX11_firsts_8 (by decide) ?_
    refine rc_i hS (run_S hC wX11_isNumber k1541 hP hS (As := [.long p1, .int (p3 / 100)]) (rest := []) (mX11_isNumber l G Cm rfl) rfl hl.1 (Nat.le_of_ble_eq_true rfl) ⟨by decide, by decide⟩ ⟨Nat.le_refl _, Nat.le_refl _⟩ rfl dX11_firsts_9) (fun H locs pb3 hP hS => ?_)
    refine lv_if_eq (tgt := 43) hx hb dX11_firsts_12 (by decide) (fun c4 => ?_) (fun c4 => ?_)
    · replace h := it_t c4 h
      refine lv_iconst (v := (-1)) hx hb dX11_firsts_43 (by decide) ?_
      exact re_i' hC hr hP hS (pr_1 h) (congrArg (fun Z : Mm => (Cm, Z)) (pr_2 h)) dX11_firsts_44
    · replace h := it_f c4 h
      refine lv_iload_n hx hb dX11_firsts_15 rfl (lv_at hl 2 rfl) ?_
      refine lv_bipush (v := 100) hx hb dX11_firsts_16 (by decide) ?_
      refine r_irem hx hb dX11_firsts_18 (by decide) ?_
      refine lv_i2l hx hb dX11_firsts_19 rfl ?_
      refine lv_lconst (v := 1) hx hb dX11_firsts_20 (by decide) ?_
      refine lv_lload_n hx hb dX11_firsts_21 rfl (lv_at hl 1 rfl) ?_
      obtain ⟨r6, hq5, h⟩ := bn_x h
      refine rc_i hS (run_S hC wX11_digitsOf k1563 hP hS (As := [.long p1]) (rest := [.long 1, .long (Int32.toInt64 (irm p3 100))]) (mX11_digitsOf l G Cm hq5) rfl hl.1 (Nat.le_of_ble_eq_true rfl) ⟨by decide, by decide⟩ ⟨Nat.le_refl _, Nat.le_refl _⟩ rfl dX11_firsts_22) (fun H locs pb7 hP hS => ?_)
      refine lv_i2l hx hb dX11_firsts_25 rfl ?_
      refine rc_i hS (run_S hC wX11_within k1229 hP hS (As := [.long (Int32.toInt64 (irm p3 100)), .long 1, .long (Int32.toInt64 r6)]) (rest := []) (mX11_within l G Cm rfl) rfl hl.1 (Nat.le_of_ble_eq_true rfl) ⟨by decide, by decide⟩ ⟨Nat.le_refl _, Nat.le_refl _⟩ rfl dX11_firsts_26) (fun H locs pb9 hP hS => ?_)
      refine lv_if_eq (tgt := 43) hx hb dX11_firsts_29 (by decide) (fun c10 => ?_) (fun c10 => ?_)
      · replace h := it_t c10 h
        refine lv_iconst (v := (-1)) hx hb dX11_firsts_43 (by decide) ?_
        exact re_i' hC hr hP hS (pr_1 h) (congrArg (fun Z : Mm => (Cm, Z)) (pr_2 h)) dX11_firsts_44
      · replace h := it_f c10 h
        refine lv_iload hx hb dX11_firsts_32 (lv_at hl 3 rfl) ?_
        refine lv_i2l hx hb dX11_firsts_34 rfl ?_
        refine lv_lconst (v := 0) hx hb dX11_firsts_35 (by decide) ?_
        refine lv_lconst (v := 1) hx hb dX11_firsts_36 (by decide) ?_
        refine rc_i hS (run_S hC wX11_within k1229 hP hS (As := [.long (Int32.toInt64 p4), .long 0, .long 1]) (rest := []) (mX11_within l G Cm rfl) rfl hl.1 (Nat.le_of_ble_eq_true rfl) ⟨by decide, by decide⟩ ⟨Nat.le_refl _, Nat.le_refl _⟩ rfl dX11_firsts_37) (fun H locs pb12 hP hS => ?_)
        refine lv_if_ne (tgt := 45) hx hb dX11_firsts_40 (by decide) (fun c13 => ?_) (fun c13 => ?_)
        · replace h := it_f c13 h
          refine lv_aload_n hx hb dX11_firsts_45 rfl (lv_at hl 0 rfl) ?_
          refine lv_lload_n hx hb dX11_firsts_46 rfl (lv_at hl 1 rfl) ?_
          refine lv_iload_n hx hb dX11_firsts_47 rfl (lv_at hl 2 rfl) ?_
          refine lv_bipush (v := 100) hx hb dX11_firsts_48 (by decide) ?_
          refine lv_idiv hx hb dX11_firsts_50 (by decide) ?_
          refine lv_iload_n hx hb dX11_firsts_51 rfl (lv_at hl 2 rfl) ?_
          refine lv_bipush (v := 100) hx hb dX11_firsts_52 (by decide) ?_
          refine r_irem hx hb dX11_firsts_54 (by decide) ?_
          obtain ⟨r15, C16, hq14, h⟩ := bp_x h
          refine rc_l hS (run_V hC wX11_manyFirsts k1567 (e_72 G _) rfl hP hS (As := [.long p1, .int (p3 / 100), .int (irm p3 100)]) (rest := []) (mX11_manyFirsts l G Cm hq14) rfl hl.1 (Nat.le_of_ble_eq_true rfl) ⟨by decide, by decide⟩ ⟨Nat.le_refl _, Nat.le_refl _⟩ rfl dX11_firsts_55) (fun H locs hP hS => ?_)
          refine lv_lstore (lv' := [(5, .long r15), (0, .ref (gA G 72)), (1, .long p1), (3, .int p3), (4, .int p4)]) hx hb dX11_firsts_58 hl (by decide) rfl (fun ls hl => ?_)
          refine lv_iload hx hb dX11_firsts_60 (lv_at hl 4 rfl) ?_
          refine lv_if_ne (tgt := 71) hx hb dX11_firsts_62 (by decide) (fun c17 => ?_) (fun c17 => ?_)
          · replace h := it_f c17 h
            refine lv_aload_n hx hb dX11_firsts_71 rfl (lv_at hl 1 rfl) ?_
            refine r_get (v := .long (C16.2 72 44)) hC inX11 hP (e_72 G _) rfl 44 (by decide) rfl k1094 rfl dX11_firsts_72 ?_
            refine lv_l2i hx hb dX11_firsts_75 rfl ?_
            exact re_i' hC hr hP hS (pr_1 h) (congrArg (fun Z : Mm => (Cm, Z)) (pr_2 h)) dX11_firsts_76
          · replace h := it_t c17 h
            refine lv_lload hx hb dX11_firsts_65 (lv_at hl 0 rfl) ?_
            refine lv_l2i hx hb dX11_firsts_67 rfl ?_
            refine lv_goto (tgt := 76) hx hb dX11_firsts_68 (by decide) ?_
            exact re_i' hC hr hP hS (pr_1 h) (congrArg (fun Z : Mm => (Cm, Z)) (pr_2 h)) dX11_firsts_76
        · replace h := it_t c13 h
          refine lv_iconst (v := (-1)) hx hb dX11_firsts_43 (by decide) ?_
          exact re_i' hC hr hP hS (pr_1 h) (congrArg (fun Z : Mm => (Cm, Z)) (pr_2 h)) dX11_firsts_44
set_option maxHeartbeats 4000000 in
set_option maxRecDepth 100000 in
theorem mX11_enough (l : Launch) (G : gp) (Cm : Mm) {n : Nat} {p1 : Int64} {p3 : Int32} {C : Mm} {r0 : Int32} {C0 : Mm} (h : fX11_enough n p1 p3 C = some (r0, C0)) : Met l yX11_enough (wsy yX11_enough cX11_enough 5 (some .int)) (rmv 3 92) (va_Pc [.ref (gA G 72), .long p1, .int p3] (Rl G (Cm, C))) (Qi G PT r0 (Cm, C0)) 0 0 (lwA G) := by
  refine met_i [.ref (gA G 72), .long p1, .int p3] wX11_enough.2.2.2.2.2 (Nat.le_of_ble_eq_true rfl) ?_
  intro p e s m args below meth c ls hC hr hP hl
  have hC : Cx G p s m args meth c cX11_enough RX11 5 := hC
  have hx := hC.1
  have hb := hC.2.1
  have hown := hC.2.2.2.1
  have hts := hC.2.2.2.2.1
  have hS : va_S (lwA G) s.heap s.heap [] := va_S.rf
  have hl : lv_has ls 5 [(0, .ref (gA G 72)), (1, .long p1), (3, .int p3)] := hl
  have bl24 : ∀ (fu : Nat), ∀ (y1 : Int64) (y3 : Int32) (y4 : Int32) (C : Mm) (H : Heap) (locs : List Loc) (ls : Array Slot), fX11_enough_h24 n fu y1 y3 y4 C = some (r0, C0) → lv_has ls 5 [(0, .ref (gA G 72)), (1, .long y1), (3, .int y3), (4, .int y4)] → va_P (gD G) vwCl (wld G (Cm, C)) H → va_S (lwA G) s.heap H locs → W p l e (rmv 3 92) s m args below meth c H locs 0 0 (MQ below (Qi G PT r0 (Cm, C0)) args s 0 0 (lwA G)) (F0 m 24 ls []) := by
    intro fu
    induction fu with
    | zero =>
      intro y1 y3 y4 C H locs ls h hl hP hS
      rw [fX11_enough_h24.eq_1] at h
      cases h
    | succ fu ih =>
      intro y1 y3 y4 C H locs ls h hl hP hS
      rw [fX11_enough_h24.eq_2] at h
      refine lv_aload_n hx hb dX11_enough_24 rfl (lv_at hl 0 rfl) ?_
      refine lv_lload_n hx hb dX11_enough_25 rfl (lv_at hl 1 rfl) ?_
      refine lv_iload_n hx hb dX11_enough_26 rfl (lv_at hl 2 rfl) ?_
      refine lv_iload hx hb dX11_enough_27 (lv_at hl 3 rfl) ?_
      obtain ⟨r2, C3, hq1, h⟩ := bp_x h
      refine rc_l hS (run_V hC wX11_manyFirsts k1567 (e_72 G _) rfl hP hS (As := [.long y1, .int y3, .int y4]) (rest := []) (mX11_manyFirsts l G Cm hq1) rfl hl.1 (Nat.le_of_ble_eq_true rfl) ⟨by decide, by decide⟩ ⟨Nat.le_refl _, Nat.le_refl _⟩ rfl dX11_enough_29) (fun H locs hP hS => ?_)
      refine lv_lconst (v := 1) hx hb dX11_enough_32 (by decide) ?_
      refine W.lcmp hx hb dX11_enough_33 ?_
      refine lv_if_le (tgt := 43) hx hb dX11_enough_34 (by decide) (fun c4 => ?_) (fun c4 => ?_)
      · replace h := it_t c4 h
        refine lv_iload hx hb dX11_enough_43 (lv_at hl 3 rfl) ?_
        exact re_i' hC hr hP hS (pr_1 h) (congrArg (fun Z : Mm => (Cm, Z)) (pr_2 h)) dX11_enough_45
      · replace h := it_f c4 h
        obtain ⟨x5, ex5⟩ : ∃ y : Int32, y = y4 + 1 := ⟨_, rfl⟩
        replace h := lt_y ex5 h
        refine lv_iinc (v := x5) (lv' := [(4, .int x5), (0, .ref (gA G 72)), (1, .long y1), (3, .int y3)]) hx hb dX11_enough_37 hl (k := 3) rfl (by rw [ex5]; rfl) (by decide) rfl (fun ls hl => ?_)
        refine lv_goto (tgt := 24) hx hb dX11_enough_40 (by decide) ?_
        exact ih y1 y3 x5 C3 _ _ _ h (lv_sub hl [1, 2, 3, 0] rfl) hP hS
  unfold fX11_enough at h
  refine lv_lload_n hx hb dX11_enough_0 rfl (lv_at hl 1 rfl) ?_
  refine lv_iload_n hx hb dX11_enough_1 rfl (lv_at hl 2 rfl) ?_
  refine rc_i hS (run_S hC wX11_isNumber k1541 hP hS (As := [.long p1, .int p3]) (rest := []) (mX11_isNumber l G Cm rfl) rfl hl.1 (Nat.le_of_ble_eq_true rfl) ⟨by decide, by decide⟩ ⟨Nat.le_refl _, Nat.le_refl _⟩ rfl dX11_enough_2) (fun H locs pb7 hP hS => ?_)
  refine lv_if_ne (tgt := 10) hx hb dX11_enough_5 (by decide) (fun c8 => ?_) (fun c8 => ?_)
  · replace h := it_f c8 h
    refine lv_lload_n hx hb dX11_enough_10 rfl (lv_at hl 1 rfl) ?_
    refine lv_iload_n hx hb dX11_enough_11 rfl (lv_at hl 2 rfl) ?_
    obtain ⟨r10, hq9, h⟩ := bn_x h
    refine rc_i hS (run_S hC wX11_rootOf k1548 hP hS (As := [.long p1, .int p3]) (rest := []) (mX11_rootOf l G Cm hq9) rfl hl.1 (Nat.le_of_ble_eq_true rfl) ⟨by decide, by decide⟩ ⟨Nat.le_refl _, Nat.le_refl _⟩ rfl dX11_enough_12) (fun H locs pb11 hP hS => ?_)
    refine lv_if_ne (tgt := 21) hx hb dX11_enough_15 (by decide) (fun c12 => ?_) (fun c12 => ?_)
    · replace h := it_f c12 h
      refine lv_iconst (v := 1) hx hb dX11_enough_21 (by decide) ?_
      refine lv_istore (lv' := [(4, .int 1), (0, .ref (gA G 72)), (1, .long p1), (3, .int p3)]) hx hb dX11_enough_22 hl (by decide) rfl (fun ls hl => ?_)
      exact bl24 n p1 p3 1 C _ _ _ h (lv_sub hl [1, 2, 3, 0] rfl) hP hS
    · replace h := it_t c12 h
      refine lv_bipush (v := (-2)) hx hb dX11_enough_18 (by decide) ?_
      exact re_i' hC hr hP hS (pr_1 h) (congrArg (fun Z : Mm => (Cm, Z)) (pr_2 h)) dX11_enough_20
  · replace h := it_t c8 h
    refine lv_iconst (v := (-1)) hx hb dX11_enough_8 (by decide) ?_
    exact re_i' hC hr hP hS (pr_1 h) (congrArg (fun Z : Mm => (Cm, Z)) (pr_2 h)) dX11_enough_9
set_option maxHeartbeats 4000000 in
set_option maxRecDepth 100000 in
theorem mX11_isBody (l : Launch) (G : gp) (Cm : Mm) {p1 : Int32} {C : Mm} {r0 : Int32} (h : fX11_isBody p1 C = r0) : Met l yX11_isBody (wsy yX11_isBody cX11_isBody 2 (some .boolean)) (rmv 1 25) (va_Pc [.ref (gA G 72), .int p1] (Rl G (Cm, C))) (Qi G PZ r0 (Cm, C)) 0 0 (lwA G) := by
  refine met_i [.ref (gA G 72), .int p1] wX11_isBody.2.2.2.2.2 (Nat.le_of_ble_eq_true rfl) ?_
  intro p e s m args below meth c ls hC hr hP hl
  have hC : Cx G p s m args meth c cX11_isBody RX11 2 := hC
  have hx := hC.1
  have hb := hC.2.1
  have hown := hC.2.2.2.1
  have hts := hC.2.2.2.2.1
  have hS : va_S (lwA G) s.heap s.heap [] := va_S.rf
  have hl : lv_has ls 2 [(0, .ref (gA G 72)), (1, .int p1)] := hl
  unfold fX11_isBody at h
  refine lv_iload_n hx hb dX11_isBody_0 rfl (lv_at hl 1 rfl) ?_
  refine lv_i2l hx hb dX11_isBody_1 rfl ?_
  refine lv_lconst (v := 0) hx hb dX11_isBody_2 (by decide) ?_
  refine lv_aload_n hx hb dX11_isBody_3 rfl (lv_at hl 0 rfl) ?_
  refine r_get (v := .int (C.1 72 45)) hC inX11 hP (e_72 G _) rfl 45 (by decide) rfl k1095 rfl dX11_isBody_4 ?_
  refine lv_iconst (v := 1) hx hb dX11_isBody_7 (by decide) ?_
  refine lv_isub hx hb dX11_isBody_8 ?_
  refine lv_i2l hx hb dX11_isBody_9 rfl ?_
  refine rc_i hS (run_S hC wX11_within k1229 hP hS (As := [.long (Int32.toInt64 p1), .long 0, .long (Int32.toInt64 ((C.1 72 45) - 1))]) (rest := []) (mX11_within l G Cm rfl) rfl hl.1 (Nat.le_of_ble_eq_true rfl) ⟨by decide, by decide⟩ ⟨Nat.le_refl _, Nat.le_refl _⟩ rfl dX11_isBody_10) (fun H locs pb2 hP hS => ?_)
  exact re_z' hC hr hP hS pb2 h rfl dX11_isBody_13
set_option maxHeartbeats 4000000 in
set_option maxRecDepth 100000 in
theorem mX11_kindOf (l : Launch) (G : gp) (Cm : Mm) {p1 : Int32} {C : Mm} {r0 : Int32} (h : fX11_kindOf p1 C = some r0) : Met l yX11_kindOf (wsy yX11_kindOf cX11_kindOf 2 (some .int)) (rmv 0 0) (va_Pc [.ref (gA G 72), .int p1] (Rl G (Cm, C))) (Qi G PT r0 (Cm, C)) 0 0 (lwA G) := by
  refine met_i [.ref (gA G 72), .int p1] wX11_kindOf.2.2.2.2.2 (Nat.le_of_ble_eq_true rfl) ?_
  intro p e s m args below meth c ls hC hr hP hl
  have hC : Cx G p s m args meth c cX11_kindOf RX11 2 := hC
  have hx := hC.1
  have hb := hC.2.1
  have hown := hC.2.2.2.1
  have hts := hC.2.2.2.2.1
  have hS : va_S (lwA G) s.heap s.heap [] := va_S.rf
  have hl : lv_has ls 2 [(0, .ref (gA G 72)), (1, .int p1)] := hl
  unfold fX11_kindOf at h
  refine lv_aload_n hx hb dX11_kindOf_0 rfl (lv_at hl 0 rfl) ?_
  refine r_get (v := .ref (gA G 97)) hC inX11 hP (e_72 G _) rfl 46 (by decide) rfl k1096 rfl dX11_kindOf_1 ?_
  refine lv_iload_n hx hb dX11_kindOf_4 rfl (lv_at hl 1 rfl) ?_
  by_cases c1 : p1 < (0 : Int32) ∨ 50 ≤ Int32.toNatClampNeg p1
  · cases it_t c1 h
  replace h := it_f c1 h
  refine r_iald hC hP (f := C.1 97) (e_97 G _) c1 dX11_kindOf_5 ?_
  exact re_i' hC hr hP hS (Option.some.inj h) rfl dX11_kindOf_6
set_option maxHeartbeats 4000000 in
set_option maxRecDepth 100000 in
theorem mX11_body (l : Launch) (G : gp) (Cm : Mm) {p1 : Int32} {C : Mm} {r0 : Int32} {C0 : Mm} (h : fX11_body p1 C = some (r0, C0)) : Met l yX11_body (wsy yX11_body cX11_body 2 (some .int)) (rmv 1 25) (va_Pc [.ref (gA G 72), .int p1] (Rl G (Cm, C))) (Qi G PT r0 (Cm, C0)) 0 0 (lwA G) := by
  refine met_i [.ref (gA G 72), .int p1] wX11_body.2.2.2.2.2 (Nat.le_of_ble_eq_true rfl) ?_
  intro p e s m args below meth c ls hC hr hP hl
  have hC : Cx G p s m args meth c cX11_body RX11 2 := hC
  have hx := hC.1
  have hb := hC.2.1
  have hown := hC.2.2.2.1
  have hts := hC.2.2.2.2.1
  have hS : va_S (lwA G) s.heap s.heap [] := va_S.rf
  have hl : lv_has ls 2 [(0, .ref (gA G 72)), (1, .int p1)] := hl
  unfold fX11_body at h
  refine lv_iload_n hx hb dX11_body_0 rfl (lv_at hl 1 rfl) ?_
  refine lv_i2l hx hb dX11_body_1 rfl ?_
  refine lv_lconst (v := 0) hx hb dX11_body_2 (by decide) ?_
  refine lv_ldc2 hx hb (v := 7) hown (hts _ k1585) dX11_body_3 ?_
  refine rc_i hS (run_S hC wX11_within k1229 hP hS (As := [.long (Int32.toInt64 p1), .long 0, .long 7]) (rest := []) (mX11_within l G Cm rfl) rfl hl.1 (Nat.le_of_ble_eq_true rfl) ⟨by decide, by decide⟩ ⟨Nat.le_refl _, Nat.le_refl _⟩ rfl dX11_body_6) (fun H locs pb2 hP hS => ?_)
  refine lv_if_ne (tgt := 14) hx hb dX11_body_9 (by decide) (fun c3 => ?_) (fun c3 => ?_)
  · replace h := it_f c3 h
    refine lv_aload_n hx hb dX11_body_14 rfl (lv_at hl 0 rfl) ?_
    refine r_get (v := .int (C.1 72 45)) hC inX11 hP (e_72 G _) rfl 45 (by decide) rfl k1095 rfl dX11_body_15 ?_
    refine lv_bipush (v := 50) hx hb dX11_body_18 (by decide) ?_
    refine lv_icmp_ne (tgt := 26) hx hb dX11_body_20 (by decide) (fun c4 => ?_) (fun c4 => ?_)
    · replace h := it_f c4 h
      refine lv_aload_n hx hb dX11_body_26 rfl (lv_at hl 0 rfl) ?_
      refine r_get (v := .ref (gA G 97)) hC inX11 hP (e_72 G _) rfl 46 (by decide) rfl k1096 rfl dX11_body_27 ?_
      refine lv_aload_n hx hb dX11_body_30 rfl (lv_at hl 0 rfl) ?_
      refine r_get (v := .int (C.1 72 45)) hC inX11 hP (e_72 G _) rfl 45 (by decide) rfl k1095 rfl dX11_body_31 ?_
      refine lv_iload_n hx hb dX11_body_34 rfl (lv_at hl 1 rfl) ?_
      by_cases c5 : (C.1 72 45) < (0 : Int32) ∨ 50 ≤ Int32.toNatClampNeg (C.1 72 45)
      · cases it_t c5 h
      replace h := it_f c5 h
      obtain ⟨C6, eC6⟩ : ∃ Z : Mm, Z = wrI C 97 (Int32.toNatClampNeg (C.1 72 45)) p1 := ⟨_, rfl⟩
      replace h := lt_y eC6 h
      refine r_iast (X' := (Cm, C6)) hC hP hS (e_97 G _) c5 (a_97 G _ _ _ _ eC6) dX11_body_35 (fun H locs hP hS => ?_)
      refine lv_aload_n hx hb dX11_body_36 rfl (lv_at hl 0 rfl) ?_
      refine lv_dup hx hb dX11_body_37 rfl ?_
      refine r_get (v := .int (C6.1 72 45)) hC inX11 hP (e_72 G _) rfl 45 (by decide) rfl k1095 rfl dX11_body_38 ?_
      refine lv_iconst (v := 1) hx hb dX11_body_41 (by decide) ?_
      refine lv_iadd hx hb dX11_body_42 ?_
      obtain ⟨C7, eC7⟩ : ∃ Z : Mm, Z = wrI C6 72 45 ((C6.1 72 45) + 1) := ⟨_, rfl⟩
      replace h := lt_y eC7 h
      refine r_put (X' := (Cm, C7)) hC inX11 tyX11 tyX11_ok nmX11 hP hS (e_72 G _) rfl 45 (by decide) rfl k1095 rfl (v := .int ((C6.1 72 45) + 1)) rfl rfl (Nat.le_of_ble_eq_true rfl) (p_72_45 G _ _ eC7) dX11_body_43 (fun H locs hP hS => ?_)
      refine lv_aload_n hx hb dX11_body_46 rfl (lv_at hl 0 rfl) ?_
      refine r_get (v := .int (C7.1 72 45)) hC inX11 hP (e_72 G _) rfl 45 (by decide) rfl k1095 rfl dX11_body_47 ?_
      refine lv_iconst (v := 1) hx hb dX11_body_50 (by decide) ?_
      refine lv_isub hx hb dX11_body_51 ?_
      exact re_i' hC hr hP hS (pr_1 h) (congrArg (fun Z : Mm => (Cm, Z)) (pr_2 h)) dX11_body_52
    · replace h := it_t c4 h
      refine lv_bipush (v := (-3)) hx hb dX11_body_23 (by decide) ?_
      exact re_i' hC hr hP hS (pr_1 h) (congrArg (fun Z : Mm => (Cm, Z)) (pr_2 h)) dX11_body_25
  · replace h := it_t c3 h
    refine lv_iconst (v := (-1)) hx hb dX11_body_12 (by decide) ?_
    exact re_i' hC hr hP hS (pr_1 h) (congrArg (fun Z : Mm => (Cm, Z)) (pr_2 h)) dX11_body_13
set_option maxHeartbeats 4000000 in
set_option maxRecDepth 100000 in
theorem mX11_above (l : Launch) (G : gp) (Cm : Mm) {p0 : Int32} {C : Mm} {r0 : Int32} (h : fX11_above p0 = r0) : Met l yX11_above (wsy yX11_above cX11_above 1 (some .int)) (rmv 0 0) (va_Pc [.int p0] (Rl G (Cm, C))) (Qi G PT r0 (Cm, C)) 0 0 (lwA G) := by
  refine met_i [.int p0] wX11_above.2.2.2.2 (Nat.le_of_ble_eq_true rfl) ?_
  intro p e s m args below meth c ls hC hr hP hl
  have hC : Cx G p s m args meth c cX11_above RX11 1 := hC
  have hx := hC.1
  have hb := hC.2.1
  have hown := hC.2.2.2.1
  have hts := hC.2.2.2.2.1
  have hS : va_S (lwA G) s.heap s.heap [] := va_S.rf
  have hl : lv_has ls 1 [(0, .int p0)] := hl
  unfold fX11_above at h
  refine lv_iload_n hx hb dX11_above_0 rfl (lv_at hl 0 rfl) ?_
  refine lv_iconst (v := 3) hx hb dX11_above_1 (by decide) ?_
  refine lv_icmp_ne (tgt := 9) hx hb dX11_above_2 (by decide) (fun c1 => ?_) (fun c1 => ?_)
  · replace h := it_f c1 h
    refine lv_iload_n hx hb dX11_above_9 rfl (lv_at hl 0 rfl) ?_
    refine lv_iconst (v := 5) hx hb dX11_above_10 (by decide) ?_
    refine lv_icmp_ne (tgt := 18) hx hb dX11_above_11 (by decide) (fun c2 => ?_) (fun c2 => ?_)
    · replace h := it_f c2 h
      refine lv_iload_n hx hb dX11_above_18 rfl (lv_at hl 0 rfl) ?_
      refine lv_bipush (v := 7) hx hb dX11_above_19 (by decide) ?_
      refine lv_icmp_ne (tgt := 29) hx hb dX11_above_21 (by decide) (fun c3 => ?_) (fun c3 => ?_)
      · replace h := it_f c3 h
        refine lv_iconst (v := 0) hx hb dX11_above_29 (by decide) ?_
        exact re_i' hC hr hP hS h rfl dX11_above_30
      · replace h := it_t c3 h
        refine lv_bipush (v := 6) hx hb dX11_above_24 (by decide) ?_
        refine lv_goto (tgt := 30) hx hb dX11_above_26 (by decide) ?_
        exact re_i' hC hr hP hS h rfl dX11_above_30
    · replace h := it_t c2 h
      refine lv_iconst (v := 1) hx hb dX11_above_14 (by decide) ?_
      refine lv_goto (tgt := 30) hx hb dX11_above_15 (by decide) ?_
      exact re_i' hC hr hP hS h rfl dX11_above_30
  · replace h := it_t c1 h
    refine lv_iconst (v := 2) hx hb dX11_above_5 (by decide) ?_
    refine lv_goto (tgt := 30) hx hb dX11_above_6 (by decide) ?_
    exact re_i' hC hr hP hS h rfl dX11_above_30
set_option maxHeartbeats 4000000 in
set_option maxRecDepth 100000 in
theorem mX11_begins (l : Launch) (G : gp) (Cm : Mm) {p1 : Int32} {C : Mm} {C0 : Mm} (h : fX11_begins p1 C = some C0) : Met l yX11_begins (wsy yX11_begins cX11_begins 2 none) (rmv 0 0) (va_Pc [.ref (gA G 72), .int p1] (Rl G (Cm, C))) (Qv G (Cm, C0)) 0 0 (lwA G) := by
  refine met_i [.ref (gA G 72), .int p1] wX11_begins.2.2.2.2.2 (Nat.le_of_ble_eq_true rfl) ?_
  intro p e s m args below meth c ls hC hr hP hl
  have hC : Cx G p s m args meth c cX11_begins RX11 2 := hC
  have hx := hC.1
  have hb := hC.2.1
  have hown := hC.2.2.2.1
  have hts := hC.2.2.2.2.1
  have hS : va_S (lwA G) s.heap s.heap [] := va_S.rf
  have hl : lv_has ls 2 [(0, .ref (gA G 72)), (1, .int p1)] := hl
  have bl19 : ∀  (C : Mm) (H : Heap) (locs : List Loc) (ls : Array Slot), fX11_begins_b19 C = some C0 → lv_has ls 2 [(0, .ref (gA G 72))] → va_P (gD G) vwCl (wld G (Cm, C)) H → va_S (lwA G) s.heap H locs → W p l e (rmv 0 0) s m args below meth c H locs 0 0 (MQ below (Qv G (Cm, C0)) args s 0 0 (lwA G)) (F0 m 19 ls []) := by
    intro C H locs ls h hl hP hS
    unfold fX11_begins_b19 at h
    refine lv_aload_n hx hb dX11_begins_19 rfl (lv_at hl 0 rfl) ?_
    refine lv_dup hx hb dX11_begins_20 rfl ?_
    refine r_get (v := .int (C.1 72 48)) hC inX11 hP (e_72 G _) rfl 48 (by decide) rfl k1098 rfl dX11_begins_21 ?_
    refine lv_iconst (v := 1) hx hb dX11_begins_24 (by decide) ?_
    refine lv_iadd hx hb dX11_begins_25 ?_
    obtain ⟨C1, eC1⟩ : ∃ Z : Mm, Z = wrI C 72 48 ((C.1 72 48) + 1) := ⟨_, rfl⟩
    replace h := lt_y eC1 h
    refine r_put (X' := (Cm, C1)) hC inX11 tyX11 tyX11_ok nmX11 hP hS (e_72 G _) rfl 48 (by decide) rfl k1098 rfl (v := .int ((C.1 72 48) + 1)) rfl rfl (Nat.le_of_ble_eq_true rfl) (p_72_48 G _ _ eC1) dX11_begins_26 (fun H locs hP hS => ?_)
    exact re_v' hC hr hP hS (congrArg (fun Z : Mm => (Cm, Z)) (Option.some.inj h)) dX11_begins_29
  unfold fX11_begins at h
  refine lv_aload_n hx hb dX11_begins_0 rfl (lv_at hl 0 rfl) ?_
  refine r_get (v := .int (C.1 72 48)) hC inX11 hP (e_72 G _) rfl 48 (by decide) rfl k1098 rfl dX11_begins_1 ?_
  refine lv_bipush (v := 24) hx hb dX11_begins_4 (by decide) ?_
  refine lv_icmp_ge (tgt := 19) hx hb dX11_begins_6 (by decide) (fun c2 => ?_) (fun c2 => ?_)
  · replace h := it_t c2 h
    exact bl19 C _ _ _ h (lv_sub hl [0] rfl) hP hS
  · replace h := it_f c2 h
    refine lv_aload_n hx hb dX11_begins_9 rfl (lv_at hl 0 rfl) ?_
    refine r_get (v := .ref (gA G 98)) hC inX11 hP (e_72 G _) rfl 47 (by decide) rfl k1097 rfl dX11_begins_10 ?_
    refine lv_aload_n hx hb dX11_begins_13 rfl (lv_at hl 0 rfl) ?_
    refine r_get (v := .int (C.1 72 48)) hC inX11 hP (e_72 G _) rfl 48 (by decide) rfl k1098 rfl dX11_begins_14 ?_
    refine lv_iload_n hx hb dX11_begins_17 rfl (lv_at hl 1 rfl) ?_
    by_cases c3 : (C.1 72 48) < (0 : Int32) ∨ 24 ≤ Int32.toNatClampNeg (C.1 72 48)
    · cases it_t c3 h
    replace h := it_f c3 h
    obtain ⟨C4, eC4⟩ : ∃ Z : Mm, Z = wrI C 98 (Int32.toNatClampNeg (C.1 72 48)) p1 := ⟨_, rfl⟩
    replace h := lt_y eC4 h
    refine r_iast (X' := (Cm, C4)) hC hP hS (e_98 G _) c3 (a_98 G _ _ _ _ eC4) dX11_begins_18 (fun H locs hP hS => ?_)
    exact bl19 C4 _ _ _ h (lv_sub hl [0] rfl) hP hS
set_option maxHeartbeats 4000000 in
set_option maxRecDepth 100000 in
theorem mX11_costsAs_w (l : Launch) (G : gp) {z : Int32 → Int32 → Mm → Option (Int32 × Mm)} (d : Nat) (hz : ∀ (Cm : Mm) {p1 : Int32} {p2 : Int32} {C : Mm} {r0 : Int32} {C0 : Mm} (_ : z p1 p2 C = some (r0, C0)), Met l yX11_costsAs (wsy yX11_costsAs cX11_costsAs 3 (some .int)) (rmv (1 * d + 1) (22 * d + 21)) (va_Pc [.ref (gA G 72), .int p1, .int p2] (Rl G (Cm, C))) (Qi G PT r0 (Cm, C0)) 0 0 (lwA G)) (Cm : Mm) {p1 : Int32} {p2 : Int32} {C : Mm} {r0 : Int32} {C0 : Mm} (h : fX11_costsAs_w z p1 p2 C = some (r0, C0)) : Met l yX11_costsAs (wsy yX11_costsAs cX11_costsAs 3 (some .int)) (rmv (1 * d + 2) (22 * d + 43)) (va_Pc [.ref (gA G 72), .int p1, .int p2] (Rl G (Cm, C))) (Qi G PT r0 (Cm, C0)) 0 0 (lwA G) := by
  refine met_i [.ref (gA G 72), .int p1, .int p2] wX11_costsAs.2.2.2.2.2 (Nat.le_of_ble_eq_true rfl) ?_
  intro p e s m args below meth c ls hC hr hP hl
  have hC : Cx G p s m args meth c cX11_costsAs RX11 3 := hC
  have hx := hC.1
  have hb := hC.2.1
  have hown := hC.2.2.2.1
  have hts := hC.2.2.2.2.1
  have hS : va_S (lwA G) s.heap s.heap [] := va_S.rf
  have hl : lv_has ls 3 [(0, .ref (gA G 72)), (1, .int p1), (2, .int p2)] := hl
  unfold fX11_costsAs_w at h
  refine lv_iload_n hx hb dX11_costsAs_0 rfl (lv_at hl 1 rfl) ?_
  refine lv_iconst (v := 5) hx hb dX11_costsAs_1 (by decide) ?_
  refine lv_icmp_ne (tgt := 20) hx hb dX11_costsAs_2 (by decide) (fun c1 => ?_) (fun c1 => ?_)
  · replace h := it_f c1 h
    refine lv_iload_n hx hb dX11_costsAs_20 rfl (lv_at hl 1 rfl) ?_
    refine lv_iconst (v := 1) hx hb dX11_costsAs_21 (by decide) ?_
    refine lv_icmp_ne (tgt := 40) hx hb dX11_costsAs_22 (by decide) (fun c2 => ?_) (fun c2 => ?_)
    · replace h := it_f c2 h
      refine lv_aload_n hx hb dX11_costsAs_40 rfl (lv_at hl 0 rfl) ?_
      refine lv_iconst (v := 1) hx hb dX11_costsAs_41 (by decide) ?_
      obtain ⟨C4, hq3, h⟩ := bn_x h
      refine rc_v hS (run_V hC wX11_begins k1598 (e_72 G _) rfl hP hS (As := [.int 1]) (rest := []) (mX11_begins l G Cm hq3) rfl hl.1 (Nat.le_of_ble_eq_true rfl) (rm_le (by omega) (by omega)) ⟨Nat.le_refl _, Nat.le_refl _⟩ rfl dX11_costsAs_42) (fun H locs hP hS => ?_)
      refine lv_iload_n hx hb dX11_costsAs_45 rfl (lv_at hl 2 rfl) ?_
      refine lv_aload_n hx hb dX11_costsAs_46 rfl (lv_at hl 0 rfl) ?_
      refine r_get (v := .int (C4.1 72 50)) hC inX11 hP (e_72 G _) rfl 50 (by decide) rfl k1100 rfl dX11_costsAs_47 ?_
      refine lv_iadd hx hb dX11_costsAs_50 ?_
      exact re_i' hC hr hP hS (pr_1 h) (congrArg (fun Z : Mm => (Cm, Z)) (pr_2 h)) dX11_costsAs_51
    · replace h := it_t c2 h
      refine lv_aload_n hx hb dX11_costsAs_25 rfl (lv_at hl 0 rfl) ?_
      refine lv_bipush (v := 20) hx hb dX11_costsAs_26 (by decide) ?_
      obtain ⟨C6, hq5, h⟩ := bn_x h
      refine rc_v hS (run_V hC wX11_begins k1598 (e_72 G _) rfl hP hS (As := [.int 20]) (rest := []) (mX11_begins l G Cm hq5) rfl hl.1 (Nat.le_of_ble_eq_true rfl) (rm_le (by omega) (by omega)) ⟨Nat.le_refl _, Nat.le_refl _⟩ rfl dX11_costsAs_28) (fun H locs hP hS => ?_)
      refine lv_aload_n hx hb dX11_costsAs_31 rfl (lv_at hl 0 rfl) ?_
      refine lv_iconst (v := 0) hx hb dX11_costsAs_32 (by decide) ?_
      refine lv_iload_n hx hb dX11_costsAs_33 rfl (lv_at hl 2 rfl) ?_
      obtain ⟨r8, C9, hq7, h⟩ := bp_x h
      refine rc_i hS (run_V hC wX11_costsAs k1594 (e_72 G _) rfl hP hS (As := [.int 0, .int p2]) (rest := []) (hz Cm hq7) rfl hl.1 (Nat.le_of_ble_eq_true rfl) (rm_le (by omega) (by omega)) ⟨Nat.le_refl _, Nat.le_refl _⟩ rfl dX11_costsAs_34) (fun H locs pb10 hP hS => ?_)
      refine lv_iconst (v := 3) hx hb dX11_costsAs_37 (by decide) ?_
      refine lv_iadd hx hb dX11_costsAs_38 ?_
      exact re_i' hC hr hP hS (pr_1 h) (congrArg (fun Z : Mm => (Cm, Z)) (pr_2 h)) dX11_costsAs_39
  · replace h := it_t c1 h
    refine lv_aload_n hx hb dX11_costsAs_5 rfl (lv_at hl 0 rfl) ?_
    refine lv_bipush (v := 60) hx hb dX11_costsAs_6 (by decide) ?_
    obtain ⟨C12, hq11, h⟩ := bn_x h
    refine rc_v hS (run_V hC wX11_begins k1598 (e_72 G _) rfl hP hS (As := [.int 60]) (rest := []) (mX11_begins l G Cm hq11) rfl hl.1 (Nat.le_of_ble_eq_true rfl) (rm_le (by omega) (by omega)) ⟨Nat.le_refl _, Nat.le_refl _⟩ rfl dX11_costsAs_8) (fun H locs hP hS => ?_)
    refine lv_aload_n hx hb dX11_costsAs_11 rfl (lv_at hl 0 rfl) ?_
    refine lv_iconst (v := 1) hx hb dX11_costsAs_12 (by decide) ?_
    refine lv_iload_n hx hb dX11_costsAs_13 rfl (lv_at hl 2 rfl) ?_
    refine lv_iconst (v := 1) hx hb dX11_costsAs_14 (by decide) ?_
    refine lv_iadd hx hb dX11_costsAs_15 ?_
    obtain ⟨r14, C15, hq13, h⟩ := bp_x h
    refine rc_i hS (run_V hC wX11_costsAs k1594 (e_72 G _) rfl hP hS (As := [.int 1, .int (p2 + 1)]) (rest := []) (hz Cm hq13) rfl hl.1 (Nat.le_of_ble_eq_true rfl) (rm_le (by omega) (by omega)) ⟨Nat.le_refl _, Nat.le_refl _⟩ rfl dX11_costsAs_16) (fun H locs pb16 hP hS => ?_)
    exact re_i' hC hr hP hS (pr_1 h) (congrArg (fun Z : Mm => (Cm, Z)) (pr_2 h)) dX11_costsAs_19
set_option maxHeartbeats 4000000 in
set_option maxRecDepth 100000 in
theorem mX11_costsAs_d (l : Launch) (G : gp) (d : Nat) : ∀ (Cm : Mm) {p1 : Int32} {p2 : Int32} {C : Mm} {r0 : Int32} {C0 : Mm} (_ : fX11_costsAs d p1 p2 C = some (r0, C0)), Met l yX11_costsAs (wsy yX11_costsAs cX11_costsAs 3 (some .int)) (rmv (1 * d + 1) (22 * d + 21)) (va_Pc [.ref (gA G 72), .int p1, .int p2] (Rl G (Cm, C))) (Qi G PT r0 (Cm, C0)) 0 0 (lwA G) := by
  induction d with
  | zero =>
    intro Cm p1 p2 C r0 C0 h
    rw [fX11_costsAs.eq_1] at h
    cases h
  | succ d ih =>
    intro Cm p1 p2 C r0 C0 h
    rw [fX11_costsAs.eq_2] at h
    have q := mX11_costsAs_w l G d (@fun Q _ _ _ _ _ hq => ih Q hq) Cm h
    rw [show 1 * (d + 1) + 1 = 1 * d + 2 by omega, show 22 * (d + 1) + 21 = 22 * d + 43 by omega]
    exact q
theorem mX11_costsAs (l : Launch) (G : gp) (Cm : Mm) {p1 : Int32} {p2 : Int32} {C : Mm} {r0 : Int32} {C0 : Mm} (h : fX11_costsAs 12 p1 p2 C = some (r0, C0)) : Met l yX11_costsAs (wsy yX11_costsAs cX11_costsAs 3 (some .int)) (rmv 13 285) (va_Pc [.ref (gA G 72), .int p1, .int p2] (Rl G (Cm, C))) (Qi G PT r0 (Cm, C0)) 0 0 (lwA G) := mX11_costsAs_d l G 12 Cm h
set_option maxHeartbeats 4000000 in
set_option maxRecDepth 100000 in
theorem mX11_keepsAs_w (l : Launch) (G : gp) {z : Int32 → Int32 → Mm → Option (Int32 × Mm)} (d : Nat) (hz : ∀ (Cm : Mm) {p1 : Int32} {p2 : Int32} {C : Mm} {r0 : Int32} {C0 : Mm} (_ : z p1 p2 C = some (r0, C0)), Met l yX11_keepsAs (wsy yX11_keepsAs cX11_keepsAs 3 (some .int)) (rmv (1 * d + 14) (22 * d + 307)) (va_Pc [.ref (gA G 72), .int p1, .int p2] (Rl G (Cm, C))) (Qi G PT r0 (Cm, C0)) 0 0 (lwA G)) (Cm : Mm) {p1 : Int32} {p2 : Int32} {C : Mm} {r0 : Int32} {C0 : Mm} (h : fX11_keepsAs_w z p1 p2 C = some (r0, C0)) : Met l yX11_keepsAs (wsy yX11_keepsAs cX11_keepsAs 3 (some .int)) (rmv (1 * d + 15) (22 * d + 329)) (va_Pc [.ref (gA G 72), .int p1, .int p2] (Rl G (Cm, C))) (Qi G PT r0 (Cm, C0)) 0 0 (lwA G) := by
  refine met_i [.ref (gA G 72), .int p1, .int p2] wX11_keepsAs.2.2.2.2.2 (Nat.le_of_ble_eq_true rfl) ?_
  intro p e s m args below meth c ls hC hr hP hl
  have hC : Cx G p s m args meth c cX11_keepsAs RX11 3 := hC
  have hx := hC.1
  have hb := hC.2.1
  have hown := hC.2.2.2.1
  have hts := hC.2.2.2.2.1
  have hS : va_S (lwA G) s.heap s.heap [] := va_S.rf
  have hl : lv_has ls 3 [(0, .ref (gA G 72)), (1, .int p1), (2, .int p2)] := hl
  have bl10 : ∀ (y2 : Int32) (C : Mm) (H : Heap) (locs : List Loc) (ls : Array Slot), fX11_keepsAs_b10 z y2 C = some (r0, C0) → lv_has ls 3 [(0, .ref (gA G 72)), (2, .int y2)] → va_P (gD G) vwCl (wld G (Cm, C)) H → va_S (lwA G) s.heap H locs → W p l e (rmv (1 * d + 15) (22 * d + 329)) s m args below meth c H locs 0 0 (MQ below (Qi G PT r0 (Cm, C0)) args s 0 0 (lwA G)) (F0 m 10 ls []) := by
    intro y2 C H locs ls h hl hP hS
    unfold fX11_keepsAs_b10 at h
    refine lv_aload_n hx hb dX11_keepsAs_10 rfl (lv_at hl 0 rfl) ?_
    refine lv_bipush (v := 30) hx hb dX11_keepsAs_11 (by decide) ?_
    obtain ⟨C2, hq1, h⟩ := bn_x h
    refine rc_v hS (run_V hC wX11_begins k1598 (e_72 G _) rfl hP hS (As := [.int 30]) (rest := []) (mX11_begins l G Cm hq1) rfl hl.1 (Nat.le_of_ble_eq_true rfl) (rm_le (by omega) (by omega)) ⟨Nat.le_refl _, Nat.le_refl _⟩ rfl dX11_keepsAs_13) (fun H locs hP hS => ?_)
    refine lv_aload_n hx hb dX11_keepsAs_16 rfl (lv_at hl 0 rfl) ?_
    refine lv_iconst (v := 0) hx hb dX11_keepsAs_17 (by decide) ?_
    refine lv_iload_n hx hb dX11_keepsAs_18 rfl (lv_at hl 1 rfl) ?_
    obtain ⟨r4, C5, hq3, h⟩ := bp_x h
    refine rc_i hS (run_V hC wX11_keepsAs k1602 (e_72 G _) rfl hP hS (As := [.int 0, .int y2]) (rest := []) (hz Cm hq3) rfl hl.1 (Nat.le_of_ble_eq_true rfl) (rm_le (by omega) (by omega)) ⟨Nat.le_refl _, Nat.le_refl _⟩ rfl dX11_keepsAs_19) (fun H locs pb6 hP hS => ?_)
    refine lv_ineg hx hb dX11_keepsAs_22 ?_
    exact re_i' hC hr hP hS (pr_1 h) (congrArg (fun Z : Mm => (Cm, Z)) (pr_2 h)) dX11_keepsAs_23
  unfold fX11_keepsAs_w at h
  refine lv_iload_n hx hb dX11_keepsAs_0 rfl (lv_at hl 1 rfl) ?_
  refine lv_iconst (v := 2) hx hb dX11_keepsAs_1 (by decide) ?_
  refine lv_icmp_eq (tgt := 10) hx hb dX11_keepsAs_2 (by decide) (fun c7 => ?_) (fun c7 => ?_)
  · replace h := it_t c7 h
    exact bl10 p2 C _ _ _ h (lv_sub hl [0, 2] rfl) hP hS
  · replace h := it_f c7 h
    refine lv_iload_n hx hb dX11_keepsAs_5 rfl (lv_at hl 1 rfl) ?_
    refine lv_iconst (v := 3) hx hb dX11_keepsAs_6 (by decide) ?_
    refine lv_icmp_ne (tgt := 24) hx hb dX11_keepsAs_7 (by decide) (fun c8 => ?_) (fun c8 => ?_)
    · replace h := it_f c8 h
      refine lv_iload_n hx hb dX11_keepsAs_24 rfl (lv_at hl 1 rfl) ?_
      refine lv_bipush (v := 7) hx hb dX11_keepsAs_25 (by decide) ?_
      refine lv_icmp_ne (tgt := 46) hx hb dX11_keepsAs_27 (by decide) (fun c9 => ?_) (fun c9 => ?_)
      · replace h := it_f c9 h
        refine lv_aload_n hx hb dX11_keepsAs_46 rfl (lv_at hl 0 rfl) ?_
        refine lv_bipush (v := 10) hx hb dX11_keepsAs_47 (by decide) ?_
        obtain ⟨C11, hq10, h⟩ := bn_x h
        refine rc_v hS (run_V hC wX11_begins k1598 (e_72 G _) rfl hP hS (As := [.int 10]) (rest := []) (mX11_begins l G Cm hq10) rfl hl.1 (Nat.le_of_ble_eq_true rfl) (rm_le (by omega) (by omega)) ⟨Nat.le_refl _, Nat.le_refl _⟩ rfl dX11_keepsAs_49) (fun H locs hP hS => ?_)
        refine lv_aload_n hx hb dX11_keepsAs_52 rfl (lv_at hl 0 rfl) ?_
        refine lv_aload_n hx hb dX11_keepsAs_53 rfl (lv_at hl 0 rfl) ?_
        refine r_get (v := .int (C11.1 72 49)) hC inX11 hP (e_72 G _) rfl 49 (by decide) rfl k1099 rfl dX11_keepsAs_54 ?_
        refine lv_iload_n hx hb dX11_keepsAs_57 rfl (lv_at hl 2 rfl) ?_
        obtain ⟨r13, C14, hq12, h⟩ := bp_x h
        refine rc_i hS (run_V hC wX11_costsAs k1594 (e_72 G _) rfl hP hS (As := [.int (C11.1 72 49), .int p2]) (rest := []) (mX11_costsAs l G Cm hq12) rfl hl.1 (Nat.le_of_ble_eq_true rfl) (rm_le (by omega) (by omega)) ⟨Nat.le_refl _, Nat.le_refl _⟩ rfl dX11_keepsAs_58) (fun H locs pb15 hP hS => ?_)
        refine lv_iconst (v := 2) hx hb dX11_keepsAs_61 (by decide) ?_
        refine lv_imul hx hb dX11_keepsAs_62 ?_
        exact re_i' hC hr hP hS (pr_1 h) (congrArg (fun Z : Mm => (Cm, Z)) (pr_2 h)) dX11_keepsAs_63
      · replace h := it_t c9 h
        refine lv_aload_n hx hb dX11_keepsAs_30 rfl (lv_at hl 0 rfl) ?_
        refine lv_bipush (v := 80) hx hb dX11_keepsAs_31 (by decide) ?_
        obtain ⟨C17, hq16, h⟩ := bn_x h
        refine rc_v hS (run_V hC wX11_begins k1598 (e_72 G _) rfl hP hS (As := [.int 80]) (rest := []) (mX11_begins l G Cm hq16) rfl hl.1 (Nat.le_of_ble_eq_true rfl) (rm_le (by omega) (by omega)) ⟨Nat.le_refl _, Nat.le_refl _⟩ rfl dX11_keepsAs_33) (fun H locs hP hS => ?_)
        refine lv_aload_n hx hb dX11_keepsAs_36 rfl (lv_at hl 0 rfl) ?_
        refine lv_bipush (v := 6) hx hb dX11_keepsAs_37 (by decide) ?_
        refine lv_iload_n hx hb dX11_keepsAs_39 rfl (lv_at hl 2 rfl) ?_
        obtain ⟨r19, C20, hq18, h⟩ := bp_x h
        refine rc_i hS (run_V hC wX11_keepsAs k1602 (e_72 G _) rfl hP hS (As := [.int 6, .int p2]) (rest := []) (hz Cm hq18) rfl hl.1 (Nat.le_of_ble_eq_true rfl) (rm_le (by omega) (by omega)) ⟨Nat.le_refl _, Nat.le_refl _⟩ rfl dX11_keepsAs_40) (fun H locs pb21 hP hS => ?_)
        refine lv_iconst (v := 2) hx hb dX11_keepsAs_43 (by decide) ?_
        refine lv_imul hx hb dX11_keepsAs_44 ?_
        exact re_i' hC hr hP hS (pr_1 h) (congrArg (fun Z : Mm => (Cm, Z)) (pr_2 h)) dX11_keepsAs_45
    · replace h := it_t c8 h
      exact bl10 p2 C _ _ _ h (lv_sub hl [0, 2] rfl) hP hS
set_option maxHeartbeats 4000000 in
set_option maxRecDepth 100000 in
theorem mX11_keepsAs_d (l : Launch) (G : gp) (d : Nat) : ∀ (Cm : Mm) {p1 : Int32} {p2 : Int32} {C : Mm} {r0 : Int32} {C0 : Mm} (_ : fX11_keepsAs d p1 p2 C = some (r0, C0)), Met l yX11_keepsAs (wsy yX11_keepsAs cX11_keepsAs 3 (some .int)) (rmv (1 * d + 14) (22 * d + 307)) (va_Pc [.ref (gA G 72), .int p1, .int p2] (Rl G (Cm, C))) (Qi G PT r0 (Cm, C0)) 0 0 (lwA G) := by
  induction d with
  | zero =>
    intro Cm p1 p2 C r0 C0 h
    rw [fX11_keepsAs.eq_1] at h
    cases h
  | succ d ih =>
    intro Cm p1 p2 C r0 C0 h
    rw [fX11_keepsAs.eq_2] at h
    have q := mX11_keepsAs_w l G d (@fun Q _ _ _ _ _ hq => ih Q hq) Cm h
    rw [show 1 * (d + 1) + 14 = 1 * d + 15 by omega, show 22 * (d + 1) + 307 = 22 * d + 329 by omega]
    exact q
theorem mX11_keepsAs (l : Launch) (G : gp) (Cm : Mm) {p1 : Int32} {p2 : Int32} {C : Mm} {r0 : Int32} {C0 : Mm} (h : fX11_keepsAs 12 p1 p2 C = some (r0, C0)) : Met l yX11_keepsAs (wsy yX11_keepsAs cX11_keepsAs 3 (some .int)) (rmv 26 571) (va_Pc [.ref (gA G 72), .int p1, .int p2] (Rl G (Cm, C))) (Qi G PT r0 (Cm, C0)) 0 0 (lwA G) := mX11_keepsAs_d l G 12 Cm h
set_option maxHeartbeats 4000000 in
set_option maxRecDepth 100000 in
theorem mX11_slipsAs_w (l : Launch) (G : gp) {z : Int32 → Int32 → Mm → Option (Int32 × Mm)} (d : Nat) (hz : ∀ (Cm : Mm) {p1 : Int32} {p2 : Int32} {C : Mm} {r0 : Int32} {C0 : Mm} (_ : z p1 p2 C = some (r0, C0)), Met l yX11_slipsAs (wsy yX11_slipsAs cX11_slipsAs 4 (some .int)) (rmv (1 * d + 14) (23 * d + 307)) (va_Pc [.ref (gA G 72), .int p1, .int p2] (Rl G (Cm, C))) (Qi G PT r0 (Cm, C0)) 0 0 (lwA G)) (Cm : Mm) {p1 : Int32} {p2 : Int32} {C : Mm} {r0 : Int32} {C0 : Mm} (h : fX11_slipsAs_w z p1 p2 C = some (r0, C0)) : Met l yX11_slipsAs (wsy yX11_slipsAs cX11_slipsAs 4 (some .int)) (rmv (1 * d + 15) (23 * d + 330)) (va_Pc [.ref (gA G 72), .int p1, .int p2] (Rl G (Cm, C))) (Qi G PT r0 (Cm, C0)) 0 0 (lwA G) := by
  refine met_i [.ref (gA G 72), .int p1, .int p2] wX11_slipsAs.2.2.2.2.2 (Nat.le_of_ble_eq_true rfl) ?_
  intro p e s m args below meth c ls hC hr hP hl
  have hC : Cx G p s m args meth c cX11_slipsAs RX11 4 := hC
  have hx := hC.1
  have hb := hC.2.1
  have hown := hC.2.2.2.1
  have hts := hC.2.2.2.2.1
  have hS : va_S (lwA G) s.heap s.heap [] := va_S.rf
  have hl : lv_has ls 4 [(0, .ref (gA G 72)), (1, .int p1), (2, .int p2)] := hl
  have bl62 : ∀ (y2 : Int32) (C : Mm) (H : Heap) (locs : List Loc) (ls : Array Slot), fX11_slipsAs_b62 z y2 C = some (r0, C0) → lv_has ls 4 [(0, .ref (gA G 72)), (2, .int y2)] → va_P (gD G) vwCl (wld G (Cm, C)) H → va_S (lwA G) s.heap H locs → W p l e (rmv (1 * d + 15) (23 * d + 330)) s m args below meth c H locs 0 0 (MQ below (Qi G PT r0 (Cm, C0)) args s 0 0 (lwA G)) (F0 m 62 ls []) := by
    intro y2 C H locs ls h hl hP hS
    unfold fX11_slipsAs_b62 at h
    refine lv_aload_n hx hb dX11_slipsAs_62 rfl (lv_at hl 0 rfl) ?_
    refine lv_bipush (v := 70) hx hb dX11_slipsAs_63 (by decide) ?_
    obtain ⟨C2, hq1, h⟩ := bn_x h
    refine rc_v hS (run_V hC wX11_begins k1598 (e_72 G _) rfl hP hS (As := [.int 70]) (rest := []) (mX11_begins l G Cm hq1) rfl hl.1 (Nat.le_of_ble_eq_true rfl) (rm_le (by omega) (by omega)) ⟨Nat.le_refl _, Nat.le_refl _⟩ rfl dX11_slipsAs_65) (fun H locs hP hS => ?_)
    refine lv_aload_n hx hb dX11_slipsAs_68 rfl (lv_at hl 0 rfl) ?_
    refine lv_iconst (v := 0) hx hb dX11_slipsAs_69 (by decide) ?_
    refine lv_iload_n hx hb dX11_slipsAs_70 rfl (lv_at hl 1 rfl) ?_
    obtain ⟨r4, C5, hq3, h⟩ := bp_x h
    refine rc_i hS (run_V hC wX11_slipsAs k1606 (e_72 G _) rfl hP hS (As := [.int 0, .int y2]) (rest := []) (hz Cm hq3) rfl hl.1 (Nat.le_of_ble_eq_true rfl) (rm_le (by omega) (by omega)) ⟨Nat.le_refl _, Nat.le_refl _⟩ rfl dX11_slipsAs_71) (fun H locs pb6 hP hS => ?_)
    refine lv_iconst (v := 1) hx hb dX11_slipsAs_74 (by decide) ?_
    refine lv_isub hx hb dX11_slipsAs_75 ?_
    exact re_i' hC hr hP hS (pr_1 h) (congrArg (fun Z : Mm => (Cm, Z)) (pr_2 h)) dX11_slipsAs_76
  unfold fX11_slipsAs_w at h
  refine lv_iload_n hx hb dX11_slipsAs_0 rfl (lv_at hl 1 rfl) ?_
  refine lv_iconst (v := 3) hx hb dX11_slipsAs_1 (by decide) ?_
  refine lv_icmp_ne (tgt := 20) hx hb dX11_slipsAs_2 (by decide) (fun c7 => ?_) (fun c7 => ?_)
  · replace h := it_f c7 h
    refine lv_iload_n hx hb dX11_slipsAs_20 rfl (lv_at hl 1 rfl) ?_
    refine lv_iconst (v := 5) hx hb dX11_slipsAs_21 (by decide) ?_
    refine lv_icmp_ne (tgt := 50) hx hb dX11_slipsAs_22 (by decide) (fun c8 => ?_) (fun c8 => ?_)
    · replace h := it_f c8 h
      refine lv_iload_n hx hb dX11_slipsAs_50 rfl (lv_at hl 1 rfl) ?_
      refine lv_bipush (v := 6) hx hb dX11_slipsAs_51 (by decide) ?_
      refine lv_icmp_eq (tgt := 62) hx hb dX11_slipsAs_53 (by decide) (fun c9 => ?_) (fun c9 => ?_)
      · replace h := it_t c9 h
        exact bl62 p2 C _ _ _ h (lv_sub hl [0, 2] rfl) hP hS
      · replace h := it_f c9 h
        refine lv_iload_n hx hb dX11_slipsAs_56 rfl (lv_at hl 1 rfl) ?_
        refine lv_bipush (v := 7) hx hb dX11_slipsAs_57 (by decide) ?_
        refine lv_icmp_ne (tgt := 77) hx hb dX11_slipsAs_59 (by decide) (fun c10 => ?_) (fun c10 => ?_)
        · replace h := it_f c10 h
          refine lv_aload_n hx hb dX11_slipsAs_77 rfl (lv_at hl 0 rfl) ?_
          refine lv_bipush (v := 11) hx hb dX11_slipsAs_78 (by decide) ?_
          obtain ⟨C12, hq11, h⟩ := bn_x h
          refine rc_v hS (run_V hC wX11_begins k1598 (e_72 G _) rfl hP hS (As := [.int 11]) (rest := []) (mX11_begins l G Cm hq11) rfl hl.1 (Nat.le_of_ble_eq_true rfl) (rm_le (by omega) (by omega)) ⟨Nat.le_refl _, Nat.le_refl _⟩ rfl dX11_slipsAs_80) (fun H locs hP hS => ?_)
          refine lv_iload_n hx hb dX11_slipsAs_83 rfl (lv_at hl 2 rfl) ?_
          refine lv_aload_n hx hb dX11_slipsAs_84 rfl (lv_at hl 0 rfl) ?_
          refine r_get (v := .int (C12.1 72 50)) hC inX11 hP (e_72 G _) rfl 50 (by decide) rfl k1100 rfl dX11_slipsAs_85 ?_
          refine lv_ixor hx hb dX11_slipsAs_88 ?_
          exact re_i' hC hr hP hS (pr_1 h) (congrArg (fun Z : Mm => (Cm, Z)) (pr_2 h)) dX11_slipsAs_89
        · replace h := it_t c10 h
          exact bl62 p2 C _ _ _ h (lv_sub hl [0, 2] rfl) hP hS
    · replace h := it_t c8 h
      refine lv_aload_n hx hb dX11_slipsAs_25 rfl (lv_at hl 0 rfl) ?_
      refine lv_bipush (v := 61) hx hb dX11_slipsAs_26 (by decide) ?_
      obtain ⟨C14, hq13, h⟩ := bn_x h
      refine rc_v hS (run_V hC wX11_begins k1598 (e_72 G _) rfl hP hS (As := [.int 61]) (rest := []) (mX11_begins l G Cm hq13) rfl hl.1 (Nat.le_of_ble_eq_true rfl) (rm_le (by omega) (by omega)) ⟨Nat.le_refl _, Nat.le_refl _⟩ rfl dX11_slipsAs_28) (fun H locs hP hS => ?_)
      refine lv_aload_n hx hb dX11_slipsAs_31 rfl (lv_at hl 0 rfl) ?_
      refine lv_iconst (v := 1) hx hb dX11_slipsAs_32 (by decide) ?_
      refine lv_iload_n hx hb dX11_slipsAs_33 rfl (lv_at hl 2 rfl) ?_
      obtain ⟨r16, C17, hq15, h⟩ := bp_x h
      refine rc_i hS (run_V hC wX11_slipsAs k1606 (e_72 G _) rfl hP hS (As := [.int 1, .int p2]) (rest := []) (hz Cm hq15) rfl hl.1 (Nat.le_of_ble_eq_true rfl) (rm_le (by omega) (by omega)) ⟨Nat.le_refl _, Nat.le_refl _⟩ rfl dX11_slipsAs_34) (fun H locs pb18 hP hS => ?_)
      refine lv_istore_n (lv' := [(3, .int r16), (0, .ref (gA G 72)), (1, .int p1), (2, .int p2)]) hx hb dX11_slipsAs_37 rfl hl (by decide) rfl (fun ls hl => ?_)
      refine lv_iload_n hx hb dX11_slipsAs_38 rfl (lv_at hl 0 rfl) ?_
      refine lv_aload_n hx hb dX11_slipsAs_39 rfl (lv_at hl 1 rfl) ?_
      refine lv_aload_n hx hb dX11_slipsAs_40 rfl (lv_at hl 1 rfl) ?_
      refine r_get (v := .int (C17.1 72 49)) hC inX11 hP (e_72 G _) rfl 49 (by decide) rfl k1099 rfl dX11_slipsAs_41 ?_
      refine lv_iconst (v := 2) hx hb dX11_slipsAs_44 (by decide) ?_
      obtain ⟨r20, C21, hq19, h⟩ := bp_x h
      refine rc_i hS (run_V hC wX11_costsAs k1594 (e_72 G _) rfl hP hS (As := [.int (C17.1 72 49), .int 2]) (rest := [.int r16]) (mX11_costsAs l G Cm hq19) rfl hl.1 (Nat.le_of_ble_eq_true rfl) (rm_le (by omega) (by omega)) ⟨Nat.le_refl _, Nat.le_refl _⟩ rfl dX11_slipsAs_45) (fun H locs pb22 hP hS => ?_)
      refine lv_iadd hx hb dX11_slipsAs_48 ?_
      exact re_i' hC hr hP hS (pr_1 h) (congrArg (fun Z : Mm => (Cm, Z)) (pr_2 h)) dX11_slipsAs_49
  · replace h := it_t c7 h
    refine lv_aload_n hx hb dX11_slipsAs_5 rfl (lv_at hl 0 rfl) ?_
    refine lv_bipush (v := 40) hx hb dX11_slipsAs_6 (by decide) ?_
    obtain ⟨C24, hq23, h⟩ := bn_x h
    refine rc_v hS (run_V hC wX11_begins k1598 (e_72 G _) rfl hP hS (As := [.int 40]) (rest := []) (mX11_begins l G Cm hq23) rfl hl.1 (Nat.le_of_ble_eq_true rfl) (rm_le (by omega) (by omega)) ⟨Nat.le_refl _, Nat.le_refl _⟩ rfl dX11_slipsAs_8) (fun H locs hP hS => ?_)
    refine lv_aload_n hx hb dX11_slipsAs_11 rfl (lv_at hl 0 rfl) ?_
    refine lv_iconst (v := 2) hx hb dX11_slipsAs_12 (by decide) ?_
    refine lv_iload_n hx hb dX11_slipsAs_13 rfl (lv_at hl 2 rfl) ?_
    obtain ⟨r26, C27, hq25, h⟩ := bp_x h
    refine rc_i hS (run_V hC wX11_slipsAs k1606 (e_72 G _) rfl hP hS (As := [.int 2, .int p2]) (rest := []) (hz Cm hq25) rfl hl.1 (Nat.le_of_ble_eq_true rfl) (rm_le (by omega) (by omega)) ⟨Nat.le_refl _, Nat.le_refl _⟩ rfl dX11_slipsAs_14) (fun H locs pb28 hP hS => ?_)
    refine lv_iconst (v := 3) hx hb dX11_slipsAs_17 (by decide) ?_
    refine lv_imul hx hb dX11_slipsAs_18 ?_
    exact re_i' hC hr hP hS (pr_1 h) (congrArg (fun Z : Mm => (Cm, Z)) (pr_2 h)) dX11_slipsAs_19
set_option maxHeartbeats 4000000 in
set_option maxRecDepth 100000 in
theorem mX11_slipsAs_d (l : Launch) (G : gp) (d : Nat) : ∀ (Cm : Mm) {p1 : Int32} {p2 : Int32} {C : Mm} {r0 : Int32} {C0 : Mm} (_ : fX11_slipsAs d p1 p2 C = some (r0, C0)), Met l yX11_slipsAs (wsy yX11_slipsAs cX11_slipsAs 4 (some .int)) (rmv (1 * d + 14) (23 * d + 307)) (va_Pc [.ref (gA G 72), .int p1, .int p2] (Rl G (Cm, C))) (Qi G PT r0 (Cm, C0)) 0 0 (lwA G) := by
  induction d with
  | zero =>
    intro Cm p1 p2 C r0 C0 h
    rw [fX11_slipsAs.eq_1] at h
    cases h
  | succ d ih =>
    intro Cm p1 p2 C r0 C0 h
    rw [fX11_slipsAs.eq_2] at h
    have q := mX11_slipsAs_w l G d (@fun Q _ _ _ _ _ hq => ih Q hq) Cm h
    rw [show 1 * (d + 1) + 14 = 1 * d + 15 by omega, show 23 * (d + 1) + 307 = 23 * d + 330 by omega]
    exact q
theorem mX11_slipsAs (l : Launch) (G : gp) (Cm : Mm) {p1 : Int32} {p2 : Int32} {C : Mm} {r0 : Int32} {C0 : Mm} (h : fX11_slipsAs 12 p1 p2 C = some (r0, C0)) : Met l yX11_slipsAs (wsy yX11_slipsAs cX11_slipsAs 4 (some .int)) (rmv 26 583) (va_Pc [.ref (gA G 72), .int p1, .int p2] (Rl G (Cm, C))) (Qi G PT r0 (Cm, C0)) 0 0 (lwA G) := mX11_slipsAs_d l G 12 Cm h
set_option maxHeartbeats 4000000 in
set_option maxRecDepth 100000 in
theorem mX11_tellsAs_w (l : Launch) (G : gp) {z : Int32 → Int32 → Mm → Option (Int32 × Mm)} (d : Nat) (hz : ∀ (Cm : Mm) {p1 : Int32} {p2 : Int32} {C : Mm} {r0 : Int32} {C0 : Mm} (_ : z p1 p2 C = some (r0, C0)), Met l yX11_tellsAs (wsy yX11_tellsAs cX11_tellsAs 4 (some .int)) (rmv (1 * d + 27) (23 * d + 606)) (va_Pc [.ref (gA G 72), .int p1, .int p2] (Rl G (Cm, C))) (Qi G PT r0 (Cm, C0)) 0 0 (lwA G)) (Cm : Mm) {p1 : Int32} {p2 : Int32} {C : Mm} {r0 : Int32} {C0 : Mm} (h : fX11_tellsAs_w z p1 p2 C = some (r0, C0)) : Met l yX11_tellsAs (wsy yX11_tellsAs cX11_tellsAs 4 (some .int)) (rmv (1 * d + 28) (23 * d + 629)) (va_Pc [.ref (gA G 72), .int p1, .int p2] (Rl G (Cm, C))) (Qi G PT r0 (Cm, C0)) 0 0 (lwA G) := by
  refine met_i [.ref (gA G 72), .int p1, .int p2] wX11_tellsAs.2.2.2.2.2 (Nat.le_of_ble_eq_true rfl) ?_
  intro p e s m args below meth c ls hC hr hP hl
  have hC : Cx G p s m args meth c cX11_tellsAs RX11 4 := hC
  have hx := hC.1
  have hb := hC.2.1
  have hown := hC.2.2.2.1
  have hts := hC.2.2.2.2.1
  have hS : va_S (lwA G) s.heap s.heap [] := va_S.rf
  have hl : lv_has ls 4 [(0, .ref (gA G 72)), (1, .int p1), (2, .int p2)] := hl
  unfold fX11_tellsAs_w at h
  refine lv_iload_n hx hb dX11_tellsAs_0 rfl (lv_at hl 1 rfl) ?_
  refine lv_iconst (v := 4) hx hb dX11_tellsAs_1 (by decide) ?_
  refine lv_icmp_ne (tgt := 20) hx hb dX11_tellsAs_2 (by decide) (fun c1 => ?_) (fun c1 => ?_)
  · replace h := it_f c1 h
    refine lv_iload_n hx hb dX11_tellsAs_20 rfl (lv_at hl 1 rfl) ?_
    refine lv_bipush (v := 7) hx hb dX11_tellsAs_21 (by decide) ?_
    refine lv_icmp_ne (tgt := 52) hx hb dX11_tellsAs_23 (by decide) (fun c2 => ?_) (fun c2 => ?_)
    · replace h := it_f c2 h
      refine lv_aload_n hx hb dX11_tellsAs_52 rfl (lv_at hl 0 rfl) ?_
      refine lv_iconst (v := 2) hx hb dX11_tellsAs_53 (by decide) ?_
      obtain ⟨C4, hq3, h⟩ := bn_x h
      refine rc_v hS (run_V hC wX11_begins k1598 (e_72 G _) rfl hP hS (As := [.int 2]) (rest := []) (mX11_begins l G Cm hq3) rfl hl.1 (Nat.le_of_ble_eq_true rfl) (rm_le (by omega) (by omega)) ⟨Nat.le_refl _, Nat.le_refl _⟩ rfl dX11_tellsAs_54) (fun H locs hP hS => ?_)
      refine lv_aload_n hx hb dX11_tellsAs_57 rfl (lv_at hl 0 rfl) ?_
      refine lv_aload_n hx hb dX11_tellsAs_58 rfl (lv_at hl 0 rfl) ?_
      refine r_get (v := .int (C4.1 72 49)) hC inX11 hP (e_72 G _) rfl 49 (by decide) rfl k1099 rfl dX11_tellsAs_59 ?_
      refine lv_iload_n hx hb dX11_tellsAs_62 rfl (lv_at hl 2 rfl) ?_
      obtain ⟨r6, C7, hq5, h⟩ := bp_x h
      refine rc_i hS (run_V hC wX11_keepsAs k1602 (e_72 G _) rfl hP hS (As := [.int (C4.1 72 49), .int p2]) (rest := []) (mX11_keepsAs l G Cm hq5) rfl hl.1 (Nat.le_of_ble_eq_true rfl) (rm_le (by omega) (by omega)) ⟨Nat.le_refl _, Nat.le_refl _⟩ rfl dX11_tellsAs_63) (fun H locs pb8 hP hS => ?_)
      refine lv_istore_n (lv' := [(3, .int r6), (0, .ref (gA G 72)), (1, .int p1), (2, .int p2)]) hx hb dX11_tellsAs_66 rfl hl (by decide) rfl (fun ls hl => ?_)
      refine lv_iload_n hx hb dX11_tellsAs_67 rfl (lv_at hl 0 rfl) ?_
      refine lv_aload_n hx hb dX11_tellsAs_68 rfl (lv_at hl 1 rfl) ?_
      refine lv_aload_n hx hb dX11_tellsAs_69 rfl (lv_at hl 1 rfl) ?_
      refine r_get (v := .int (C7.1 72 49)) hC inX11 hP (e_72 G _) rfl 49 (by decide) rfl k1099 rfl dX11_tellsAs_70 ?_
      refine lv_iconst (v := 1) hx hb dX11_tellsAs_73 (by decide) ?_
      obtain ⟨r10, C11, hq9, h⟩ := bp_x h
      refine rc_i hS (run_V hC wX11_slipsAs k1606 (e_72 G _) rfl hP hS (As := [.int (C7.1 72 49), .int 1]) (rest := [.int r6]) (mX11_slipsAs l G Cm hq9) rfl hl.1 (Nat.le_of_ble_eq_true rfl) (rm_le (by omega) (by omega)) ⟨Nat.le_refl _, Nat.le_refl _⟩ rfl dX11_tellsAs_74) (fun H locs pb12 hP hS => ?_)
      refine lv_isub hx hb dX11_tellsAs_77 ?_
      exact re_i' hC hr hP hS (pr_1 h) (congrArg (fun Z : Mm => (Cm, Z)) (pr_2 h)) dX11_tellsAs_78
    · replace h := it_t c2 h
      refine lv_aload_n hx hb dX11_tellsAs_26 rfl (lv_at hl 0 rfl) ?_
      refine lv_bipush (v := 81) hx hb dX11_tellsAs_27 (by decide) ?_
      obtain ⟨C14, hq13, h⟩ := bn_x h
      refine rc_v hS (run_V hC wX11_begins k1598 (e_72 G _) rfl hP hS (As := [.int 81]) (rest := []) (mX11_begins l G Cm hq13) rfl hl.1 (Nat.le_of_ble_eq_true rfl) (rm_le (by omega) (by omega)) ⟨Nat.le_refl _, Nat.le_refl _⟩ rfl dX11_tellsAs_29) (fun H locs hP hS => ?_)
      refine lv_aload_n hx hb dX11_tellsAs_32 rfl (lv_at hl 0 rfl) ?_
      refine lv_bipush (v := 6) hx hb dX11_tellsAs_33 (by decide) ?_
      refine lv_iload_n hx hb dX11_tellsAs_35 rfl (lv_at hl 2 rfl) ?_
      obtain ⟨r16, C17, hq15, h⟩ := bp_x h
      refine rc_i hS (run_V hC wX11_tellsAs k1610 (e_72 G _) rfl hP hS (As := [.int 6, .int p2]) (rest := []) (hz Cm hq15) rfl hl.1 (Nat.le_of_ble_eq_true rfl) (rm_le (by omega) (by omega)) ⟨Nat.le_refl _, Nat.le_refl _⟩ rfl dX11_tellsAs_36) (fun H locs pb18 hP hS => ?_)
      refine lv_istore_n (lv' := [(3, .int r16), (0, .ref (gA G 72)), (1, .int p1), (2, .int p2)]) hx hb dX11_tellsAs_39 rfl hl (by decide) rfl (fun ls hl => ?_)
      refine lv_iload_n hx hb dX11_tellsAs_40 rfl (lv_at hl 0 rfl) ?_
      refine lv_aload_n hx hb dX11_tellsAs_41 rfl (lv_at hl 1 rfl) ?_
      refine lv_aload_n hx hb dX11_tellsAs_42 rfl (lv_at hl 1 rfl) ?_
      refine r_get (v := .int (C17.1 72 49)) hC inX11 hP (e_72 G _) rfl 49 (by decide) rfl k1099 rfl dX11_tellsAs_43 ?_
      refine lv_iconst (v := 2) hx hb dX11_tellsAs_46 (by decide) ?_
      obtain ⟨r20, C21, hq19, h⟩ := bp_x h
      refine rc_i hS (run_V hC wX11_slipsAs k1606 (e_72 G _) rfl hP hS (As := [.int (C17.1 72 49), .int 2]) (rest := [.int r16]) (mX11_slipsAs l G Cm hq19) rfl hl.1 (Nat.le_of_ble_eq_true rfl) (rm_le (by omega) (by omega)) ⟨Nat.le_refl _, Nat.le_refl _⟩ rfl dX11_tellsAs_47) (fun H locs pb22 hP hS => ?_)
      refine lv_isub hx hb dX11_tellsAs_50 ?_
      exact re_i' hC hr hP hS (pr_1 h) (congrArg (fun Z : Mm => (Cm, Z)) (pr_2 h)) dX11_tellsAs_51
  · replace h := it_t c1 h
    refine lv_aload_n hx hb dX11_tellsAs_5 rfl (lv_at hl 0 rfl) ?_
    refine lv_bipush (v := 50) hx hb dX11_tellsAs_6 (by decide) ?_
    obtain ⟨C24, hq23, h⟩ := bn_x h
    refine rc_v hS (run_V hC wX11_begins k1598 (e_72 G _) rfl hP hS (As := [.int 50]) (rest := []) (mX11_begins l G Cm hq23) rfl hl.1 (Nat.le_of_ble_eq_true rfl) (rm_le (by omega) (by omega)) ⟨Nat.le_refl _, Nat.le_refl _⟩ rfl dX11_tellsAs_8) (fun H locs hP hS => ?_)
    refine lv_aload_n hx hb dX11_tellsAs_11 rfl (lv_at hl 0 rfl) ?_
    refine lv_iconst (v := 0) hx hb dX11_tellsAs_12 (by decide) ?_
    refine lv_iload_n hx hb dX11_tellsAs_13 rfl (lv_at hl 2 rfl) ?_
    obtain ⟨r26, C27, hq25, h⟩ := bp_x h
    refine rc_i hS (run_V hC wX11_tellsAs k1610 (e_72 G _) rfl hP hS (As := [.int 0, .int p2]) (rest := []) (hz Cm hq25) rfl hl.1 (Nat.le_of_ble_eq_true rfl) (rm_le (by omega) (by omega)) ⟨Nat.le_refl _, Nat.le_refl _⟩ rfl dX11_tellsAs_14) (fun H locs pb28 hP hS => ?_)
    refine lv_iconst (v := 5) hx hb dX11_tellsAs_17 (by decide) ?_
    refine lv_ixor hx hb dX11_tellsAs_18 ?_
    exact re_i' hC hr hP hS (pr_1 h) (congrArg (fun Z : Mm => (Cm, Z)) (pr_2 h)) dX11_tellsAs_19
set_option maxHeartbeats 4000000 in
set_option maxRecDepth 100000 in
theorem mX11_tellsAs_d (l : Launch) (G : gp) (d : Nat) : ∀ (Cm : Mm) {p1 : Int32} {p2 : Int32} {C : Mm} {r0 : Int32} {C0 : Mm} (_ : fX11_tellsAs d p1 p2 C = some (r0, C0)), Met l yX11_tellsAs (wsy yX11_tellsAs cX11_tellsAs 4 (some .int)) (rmv (1 * d + 27) (23 * d + 606)) (va_Pc [.ref (gA G 72), .int p1, .int p2] (Rl G (Cm, C))) (Qi G PT r0 (Cm, C0)) 0 0 (lwA G) := by
  induction d with
  | zero =>
    intro Cm p1 p2 C r0 C0 h
    rw [fX11_tellsAs.eq_1] at h
    cases h
  | succ d ih =>
    intro Cm p1 p2 C r0 C0 h
    rw [fX11_tellsAs.eq_2] at h
    have q := mX11_tellsAs_w l G d (@fun Q _ _ _ _ _ hq => ih Q hq) Cm h
    rw [show 1 * (d + 1) + 27 = 1 * d + 28 by omega, show 23 * (d + 1) + 606 = 23 * d + 629 by omega]
    exact q
theorem mX11_tellsAs (l : Launch) (G : gp) (Cm : Mm) {p1 : Int32} {p2 : Int32} {C : Mm} {r0 : Int32} {C0 : Mm} (h : fX11_tellsAs 12 p1 p2 C = some (r0, C0)) : Met l yX11_tellsAs (wsy yX11_tellsAs cX11_tellsAs 4 (some .int)) (rmv 39 882) (va_Pc [.ref (gA G 72), .int p1, .int p2] (Rl G (Cm, C))) (Qi G PT r0 (Cm, C0)) 0 0 (lwA G) := mX11_tellsAs_d l G 12 Cm h
set_option maxHeartbeats 4000000 in
set_option maxRecDepth 100000 in
theorem mX11_act (l : Launch) (G : gp) (Cm : Mm) {p1 : Int32} {p2 : Int32} {p3 : Int32} {C : Mm} {r0 : Int32} {C0 : Mm} (h : fX11_act p1 p2 p3 C = some (r0, C0)) : Met l yX11_act (wsy yX11_act cX11_act 4 (some .int)) (rmv 40 905) (va_Pc [.ref (gA G 72), .int p1, .int p2, .int p3] (Rl G (Cm, C))) (Qi G PT r0 (Cm, C0)) 0 0 (lwA G) := by
  refine met_i [.ref (gA G 72), .int p1, .int p2, .int p3] wX11_act.2.2.2.2.2 (Nat.le_of_ble_eq_true rfl) ?_
  intro p e s m args below meth c ls hC hr hP hl
  have hC : Cx G p s m args meth c cX11_act RX11 4 := hC
  have hx := hC.1
  have hb := hC.2.1
  have hown := hC.2.2.2.1
  have hts := hC.2.2.2.2.1
  have hS : va_S (lwA G) s.heap s.heap [] := va_S.rf
  have hl : lv_has ls 4 [(0, .ref (gA G 72)), (1, .int p1), (2, .int p2), (3, .int p3)] := hl
  unfold fX11_act at h
  refine lv_aload_n hx hb dX11_act_0 rfl (lv_at hl 0 rfl) ?_
  refine lv_iconst (v := 0) hx hb dX11_act_1 (by decide) ?_
  obtain ⟨C1, eC1⟩ : ∃ Z : Mm, Z = wrI C 72 48 0 := ⟨_, rfl⟩
  replace h := lt_y eC1 h
  refine r_put (X' := (Cm, C1)) hC inX11 tyX11 tyX11_ok nmX11 hP hS (e_72 G _) rfl 48 (by decide) rfl k1098 rfl (v := .int 0) rfl rfl (Nat.le_of_ble_eq_true rfl) (p_72_48 G _ _ eC1) dX11_act_2 (fun H locs hP hS => ?_)
  refine lv_aload_n hx hb dX11_act_5 rfl (lv_at hl 0 rfl) ?_
  refine lv_iload_n hx hb dX11_act_6 rfl (lv_at hl 1 rfl) ?_
  refine rc_i hS (run_V hC wX11_isBody k1590 (e_72 G _) rfl hP hS (As := [.int p1]) (rest := []) (mX11_isBody l G Cm rfl) rfl hl.1 (Nat.le_of_ble_eq_true rfl) ⟨by decide, by decide⟩ ⟨Nat.le_refl _, Nat.le_refl _⟩ rfl dX11_act_7) (fun H locs pb3 hP hS => ?_)
  refine lv_if_ne (tgt := 15) hx hb dX11_act_10 (by decide) (fun c4 => ?_) (fun c4 => ?_)
  · replace h := it_f c4 h
    refine lv_aload_n hx hb dX11_act_15 rfl (lv_at hl 0 rfl) ?_
    refine lv_aload_n hx hb dX11_act_16 rfl (lv_at hl 0 rfl) ?_
    refine r_get (v := .ref (gA G 97)) hC inX11 hP (e_72 G _) rfl 46 (by decide) rfl k1096 rfl dX11_act_17 ?_
    refine lv_iload_n hx hb dX11_act_20 rfl (lv_at hl 1 rfl) ?_
    by_cases c5 : p1 < (0 : Int32) ∨ 50 ≤ Int32.toNatClampNeg p1
    · cases it_t c5 h
    replace h := it_f c5 h
    refine r_iald hC hP (f := C1.1 97) (e_97 G _) c5 dX11_act_21 ?_
    obtain ⟨C6, eC6⟩ : ∃ Z : Mm, Z = wrI C1 72 49 (C1.1 97 (Int32.toNatClampNeg p1)) := ⟨_, rfl⟩
    replace h := lt_y eC6 h
    refine r_put (X' := (Cm, C6)) hC inX11 tyX11 tyX11_ok nmX11 hP hS (e_72 G _) rfl 49 (by decide) rfl k1099 rfl (v := .int (C1.1 97 (Int32.toNatClampNeg p1))) rfl rfl (Nat.le_of_ble_eq_true rfl) (p_72_49 G _ _ eC6) dX11_act_22 (fun H locs hP hS => ?_)
    refine lv_aload_n hx hb dX11_act_25 rfl (lv_at hl 0 rfl) ?_
    refine lv_iload_n hx hb dX11_act_26 rfl (lv_at hl 1 rfl) ?_
    obtain ⟨C7, eC7⟩ : ∃ Z : Mm, Z = wrI C6 72 50 p1 := ⟨_, rfl⟩
    replace h := lt_y eC7 h
    refine r_put (X' := (Cm, C7)) hC inX11 tyX11 tyX11_ok nmX11 hP hS (e_72 G _) rfl 50 (by decide) rfl k1100 rfl (v := .int p1) rfl rfl (Nat.le_of_ble_eq_true rfl) (p_72_50 G _ _ eC7) dX11_act_27 (fun H locs hP hS => ?_)
    refine lv_iload_n hx hb dX11_act_30 rfl (lv_at hl 2 rfl) ?_
    by_cases c8 : p2 = 0
    · replace h := it_t c8 h
      refine lv_tableIn (off := 29) (tgt := 60) hx hb dX11_act_31 (by rw [c8]; decide) (by rw [c8]; decide) (by rw [c8]; rfl) (by decide) ?_
      refine lv_aload_n hx hb dX11_act_60 rfl (lv_at hl 0 rfl) ?_
      refine lv_aload_n hx hb dX11_act_61 rfl (lv_at hl 0 rfl) ?_
      refine r_get (v := .int (C7.1 72 49)) hC inX11 hP (e_72 G _) rfl 49 (by decide) rfl k1099 rfl dX11_act_62 ?_
      refine lv_iload_n hx hb dX11_act_65 rfl (lv_at hl 3 rfl) ?_
      obtain ⟨r10, C11, hq9, h⟩ := bp_x h
      refine rc_i hS (run_V hC wX11_costsAs k1594 (e_72 G _) rfl hP hS (As := [.int (C7.1 72 49), .int p3]) (rest := []) (mX11_costsAs l G Cm hq9) rfl hl.1 (Nat.le_of_ble_eq_true rfl) ⟨by decide, by decide⟩ ⟨Nat.le_refl _, Nat.le_refl _⟩ rfl dX11_act_66) (fun H locs pb12 hP hS => ?_)
      exact re_i' hC hr hP hS (pr_1 h) (congrArg (fun Z : Mm => (Cm, Z)) (pr_2 h)) dX11_act_69
    replace h := it_f c8 h
    by_cases c13 : p2 = 1
    · replace h := it_t c13 h
      refine lv_tableIn (off := 39) (tgt := 70) hx hb dX11_act_31 (by rw [c13]; decide) (by rw [c13]; decide) (by rw [c13]; rfl) (by decide) ?_
      refine lv_aload_n hx hb dX11_act_70 rfl (lv_at hl 0 rfl) ?_
      refine lv_aload_n hx hb dX11_act_71 rfl (lv_at hl 0 rfl) ?_
      refine r_get (v := .int (C7.1 72 49)) hC inX11 hP (e_72 G _) rfl 49 (by decide) rfl k1099 rfl dX11_act_72 ?_
      refine lv_iload_n hx hb dX11_act_75 rfl (lv_at hl 3 rfl) ?_
      obtain ⟨r15, C16, hq14, h⟩ := bp_x h
      refine rc_i hS (run_V hC wX11_keepsAs k1602 (e_72 G _) rfl hP hS (As := [.int (C7.1 72 49), .int p3]) (rest := []) (mX11_keepsAs l G Cm hq14) rfl hl.1 (Nat.le_of_ble_eq_true rfl) ⟨by decide, by decide⟩ ⟨Nat.le_refl _, Nat.le_refl _⟩ rfl dX11_act_76) (fun H locs pb17 hP hS => ?_)
      exact re_i' hC hr hP hS (pr_1 h) (congrArg (fun Z : Mm => (Cm, Z)) (pr_2 h)) dX11_act_79
    replace h := it_f c13 h
    by_cases c18 : p2 = 2
    · replace h := it_t c18 h
      refine lv_tableIn (off := 49) (tgt := 80) hx hb dX11_act_31 (by rw [c18]; decide) (by rw [c18]; decide) (by rw [c18]; rfl) (by decide) ?_
      refine lv_aload_n hx hb dX11_act_80 rfl (lv_at hl 0 rfl) ?_
      refine lv_aload_n hx hb dX11_act_81 rfl (lv_at hl 0 rfl) ?_
      refine r_get (v := .int (C7.1 72 49)) hC inX11 hP (e_72 G _) rfl 49 (by decide) rfl k1099 rfl dX11_act_82 ?_
      refine lv_iload_n hx hb dX11_act_85 rfl (lv_at hl 3 rfl) ?_
      obtain ⟨r20, C21, hq19, h⟩ := bp_x h
      refine rc_i hS (run_V hC wX11_slipsAs k1606 (e_72 G _) rfl hP hS (As := [.int (C7.1 72 49), .int p3]) (rest := []) (mX11_slipsAs l G Cm hq19) rfl hl.1 (Nat.le_of_ble_eq_true rfl) ⟨by decide, by decide⟩ ⟨Nat.le_refl _, Nat.le_refl _⟩ rfl dX11_act_86) (fun H locs pb22 hP hS => ?_)
      exact re_i' hC hr hP hS (pr_1 h) (congrArg (fun Z : Mm => (Cm, Z)) (pr_2 h)) dX11_act_89
    replace h := it_f c18 h
    by_cases c23 : p2 = 3
    · replace h := it_t c23 h
      refine lv_tableIn (off := 59) (tgt := 90) hx hb dX11_act_31 (by rw [c23]; decide) (by rw [c23]; decide) (by rw [c23]; rfl) (by decide) ?_
      refine lv_aload_n hx hb dX11_act_90 rfl (lv_at hl 0 rfl) ?_
      refine lv_aload_n hx hb dX11_act_91 rfl (lv_at hl 0 rfl) ?_
      refine r_get (v := .int (C7.1 72 49)) hC inX11 hP (e_72 G _) rfl 49 (by decide) rfl k1099 rfl dX11_act_92 ?_
      refine lv_iload_n hx hb dX11_act_95 rfl (lv_at hl 3 rfl) ?_
      obtain ⟨r25, C26, hq24, h⟩ := bp_x h
      refine rc_i hS (run_V hC wX11_tellsAs k1610 (e_72 G _) rfl hP hS (As := [.int (C7.1 72 49), .int p3]) (rest := []) (mX11_tellsAs l G Cm hq24) rfl hl.1 (Nat.le_of_ble_eq_true rfl) ⟨by decide, by decide⟩ ⟨Nat.le_refl _, Nat.le_refl _⟩ rfl dX11_act_96) (fun H locs pb27 hP hS => ?_)
      exact re_i' hC hr hP hS (pr_1 h) (congrArg (fun Z : Mm => (Cm, Z)) (pr_2 h)) dX11_act_99
    replace h := it_f c23 h
    refine lv_tsD (tgt := 100) hx hb dX11_act_31 rfl (ex_c (ti_ne (z := 0) rfl c8) (ex_c (ti_ne (z := 1) rfl c13) (ex_c (ti_ne (z := 2) rfl c18) (ex_c (ti_ne (z := 3) rfl c23) ex_0)))) (by decide) (by decide) ?_
    refine lv_iconst (v := 0) hx hb dX11_act_100 (by decide) ?_
    exact re_i' hC hr hP hS (pr_1 h) (congrArg (fun Z : Mm => (Cm, Z)) (pr_2 h)) dX11_act_101
  · replace h := it_t c4 h
    refine lv_iconst (v := 0) hx hb dX11_act_13 (by decide) ?_
    exact re_i' hC hr hP hS (pr_1 h) (congrArg (fun Z : Mm => (Cm, Z)) (pr_2 h)) dX11_act_14
set_option maxHeartbeats 4000000 in
set_option maxRecDepth 100000 in
theorem mX11_trace (l : Launch) (G : gp) (Cm : Mm) {p1 : Int32} {C : Mm} {r0 : Int32} (h : fX11_trace p1 C = some r0) : Met l yX11_trace (wsy yX11_trace cX11_trace 2 (some .int)) (rmv 0 0) (va_Pc [.ref (gA G 72), .int p1] (Rl G (Cm, C))) (Qi G PT r0 (Cm, C)) 0 0 (lwA G) := by
  refine met_i [.ref (gA G 72), .int p1] wX11_trace.2.2.2.2.2 (Nat.le_of_ble_eq_true rfl) ?_
  intro p e s m args below meth c ls hC hr hP hl
  have hC : Cx G p s m args meth c cX11_trace RX11 2 := hC
  have hx := hC.1
  have hb := hC.2.1
  have hown := hC.2.2.2.1
  have hts := hC.2.2.2.2.1
  have hS : va_S (lwA G) s.heap s.heap [] := va_S.rf
  have hl : lv_has ls 2 [(0, .ref (gA G 72)), (1, .int p1)] := hl
  unfold fX11_trace at h
  refine lv_iload_n hx hb dX11_trace_0 rfl (lv_at hl 1 rfl) ?_
  refine lv_if_lt (tgt := 27) hx hb dX11_trace_1 (by decide) (fun c1 => ?_) (fun c1 => ?_)
  · replace h := it_t c1 h
    refine lv_iconst (v := (-1)) hx hb dX11_trace_27 (by decide) ?_
    exact re_i' hC hr hP hS (Option.some.inj h) rfl dX11_trace_28
  · replace h := it_f c1 h
    refine lv_iload_n hx hb dX11_trace_4 rfl (lv_at hl 1 rfl) ?_
    refine lv_aload_n hx hb dX11_trace_5 rfl (lv_at hl 0 rfl) ?_
    refine r_get (v := .int (C.1 72 48)) hC inX11 hP (e_72 G _) rfl 48 (by decide) rfl k1098 rfl dX11_trace_6 ?_
    refine lv_icmp_ge (tgt := 27) hx hb dX11_trace_9 (by decide) (fun c2 => ?_) (fun c2 => ?_)
    · replace h := it_t c2 h
      refine lv_iconst (v := (-1)) hx hb dX11_trace_27 (by decide) ?_
      exact re_i' hC hr hP hS (Option.some.inj h) rfl dX11_trace_28
    · replace h := it_f c2 h
      refine lv_iload_n hx hb dX11_trace_12 rfl (lv_at hl 1 rfl) ?_
      refine lv_bipush (v := 24) hx hb dX11_trace_13 (by decide) ?_
      refine lv_icmp_ge (tgt := 27) hx hb dX11_trace_15 (by decide) (fun c3 => ?_) (fun c3 => ?_)
      · replace h := it_t c3 h
        refine lv_iconst (v := (-1)) hx hb dX11_trace_27 (by decide) ?_
        exact re_i' hC hr hP hS (Option.some.inj h) rfl dX11_trace_28
      · replace h := it_f c3 h
        refine lv_aload_n hx hb dX11_trace_18 rfl (lv_at hl 0 rfl) ?_
        refine r_get (v := .ref (gA G 98)) hC inX11 hP (e_72 G _) rfl 47 (by decide) rfl k1097 rfl dX11_trace_19 ?_
        refine lv_iload_n hx hb dX11_trace_22 rfl (lv_at hl 1 rfl) ?_
        by_cases c4 : p1 < (0 : Int32) ∨ 24 ≤ Int32.toNatClampNeg p1
        · cases it_t c4 h
        replace h := it_f c4 h
        refine r_iald hC hP (f := C.1 98) (e_98 G _) c4 dX11_trace_23 ?_
        refine lv_goto (tgt := 28) hx hb dX11_trace_24 (by decide) ?_
        exact re_i' hC hr hP hS (Option.some.inj h) rfl dX11_trace_28
set_option maxHeartbeats 4000000 in
set_option maxRecDepth 100000 in
theorem mX11_keep (l : Launch) (G : gp) (Cm : Mm) {p1 : Int32} {p2 : Int32} {C : Mm} {r0 : Int32} {C0 : Mm} (h : fX11_keep p1 p2 C = some (r0, C0)) : Met l yX11_keep (wsy yX11_keep cX11_keep 3 (some .int)) (rmv 2 46) (va_Pc [.ref (gA G 72), .int p1, .int p2] (Rl G (Cm, C))) (Qi G PT r0 (Cm, C0)) 0 0 (lwA G) := by
  refine met_i [.ref (gA G 72), .int p1, .int p2] wX11_keep.2.2.2.2.2 (Nat.le_of_ble_eq_true rfl) ?_
  intro p e s m args below meth c ls hC hr hP hl
  have hC : Cx G p s m args meth c cX11_keep RX11 3 := hC
  have hx := hC.1
  have hb := hC.2.1
  have hown := hC.2.2.2.1
  have hts := hC.2.2.2.2.1
  have hS : va_S (lwA G) s.heap s.heap [] := va_S.rf
  have hl : lv_has ls 3 [(0, .ref (gA G 72)), (1, .int p1), (2, .int p2)] := hl
  have bl22 : ∀ (y1 : Int32) (y2 : Int32) (C : Mm) (H : Heap) (locs : List Loc) (ls : Array Slot), fX11_keep_b22 y1 y2 C = some (r0, C0) → lv_has ls 3 [(0, .ref (gA G 72)), (1, .int y1), (2, .int y2)] → va_P (gD G) vwCl (wld G (Cm, C)) H → va_S (lwA G) s.heap H locs → W p l e (rmv 2 46) s m args below meth c H locs 0 0 (MQ below (Qi G PT r0 (Cm, C0)) args s 0 0 (lwA G)) (F0 m 22 ls []) := by
    intro y1 y2 C H locs ls h hl hP hS
    unfold fX11_keep_b22 at h
    refine lv_aload_n hx hb dX11_keep_22 rfl (lv_at hl 0 rfl) ?_
    refine r_get (v := .ref (gA G 99)) hC inX11 hP (e_72 G _) rfl 51 (by decide) rfl k1101 rfl dX11_keep_23 ?_
    refine lv_iload_n hx hb dX11_keep_26 rfl (lv_at hl 1 rfl) ?_
    refine lv_iload_n hx hb dX11_keep_27 rfl (lv_at hl 2 rfl) ?_
    by_cases c1 : y1 < (0 : Int32) ∨ 6 ≤ Int32.toNatClampNeg y1
    · cases it_t c1 h
    replace h := it_f c1 h
    obtain ⟨C2, eC2⟩ : ∃ Z : Mm, Z = wrI C 99 (Int32.toNatClampNeg y1) y2 := ⟨_, rfl⟩
    replace h := lt_y eC2 h
    refine r_iast (X' := (Cm, C2)) hC hP hS (e_99 G _) c1 (a_99 G _ _ _ _ eC2) dX11_keep_28 (fun H locs hP hS => ?_)
    refine lv_aload_n hx hb dX11_keep_29 rfl (lv_at hl 0 rfl) ?_
    refine r_get (v := .ref (gA G 100)) hC inX11 hP (e_72 G _) rfl 52 (by decide) rfl k1102 rfl dX11_keep_30 ?_
    refine lv_iload_n hx hb dX11_keep_33 rfl (lv_at hl 1 rfl) ?_
    refine lv_iconst (v := 0) hx hb dX11_keep_34 (by decide) ?_
    by_cases c3 : y1 < (0 : Int32) ∨ 6 ≤ Int32.toNatClampNeg y1
    · cases it_t c3 h
    replace h := it_f c3 h
    obtain ⟨C4, eC4⟩ : ∃ Z : Mm, Z = wrI C2 100 (Int32.toNatClampNeg y1) 0 := ⟨_, rfl⟩
    replace h := lt_y eC4 h
    refine r_iast (X' := (Cm, C4)) hC hP hS (e_100 G _) c3 (a_100 G _ _ _ _ eC4) dX11_keep_35 (fun H locs hP hS => ?_)
    refine lv_iconst (v := 1) hx hb dX11_keep_36 (by decide) ?_
    exact re_i' hC hr hP hS (pr_1 h) (congrArg (fun Z : Mm => (Cm, Z)) (pr_2 h)) dX11_keep_37
  unfold fX11_keep at h
  refine lv_iload_n hx hb dX11_keep_0 rfl (lv_at hl 1 rfl) ?_
  refine rc_i hS (run_S hC wX11_isShelf k1449 hP hS (As := [.int p1]) (rest := []) (mX11_isShelf l G Cm rfl) rfl hl.1 (Nat.le_of_ble_eq_true rfl) ⟨by decide, by decide⟩ ⟨Nat.le_refl _, Nat.le_refl _⟩ rfl dX11_keep_1) (fun H locs pb6 hP hS => ?_)
  refine lv_if_eq (tgt := 20) hx hb dX11_keep_4 (by decide) (fun c7 => ?_) (fun c7 => ?_)
  · replace h := it_t c7 h
    refine lv_iconst (v := (-1)) hx hb dX11_keep_20 (by decide) ?_
    exact re_i' hC hr hP hS (pr_1 h) (congrArg (fun Z : Mm => (Cm, Z)) (pr_2 h)) dX11_keep_21
  · replace h := it_f c7 h
    refine lv_iload_n hx hb dX11_keep_7 rfl (lv_at hl 2 rfl) ?_
    refine lv_iconst (v := (-1)) hx hb dX11_keep_8 (by decide) ?_
    refine lv_icmp_eq (tgt := 22) hx hb dX11_keep_9 (by decide) (fun c8 => ?_) (fun c8 => ?_)
    · replace h := it_t c8 h
      exact bl22 p1 p2 C _ _ _ h (lv_sub hl [0, 1, 2] rfl) hP hS
    · replace h := it_f c8 h
      refine lv_aload_n hx hb dX11_keep_12 rfl (lv_at hl 0 rfl) ?_
      refine lv_iload_n hx hb dX11_keep_13 rfl (lv_at hl 2 rfl) ?_
      refine rc_i hS (run_V hC wX11_isBody k1590 (e_72 G _) rfl hP hS (As := [.int p2]) (rest := []) (mX11_isBody l G Cm rfl) rfl hl.1 (Nat.le_of_ble_eq_true rfl) ⟨by decide, by decide⟩ ⟨Nat.le_refl _, Nat.le_refl _⟩ rfl dX11_keep_14) (fun H locs pb10 hP hS => ?_)
      refine lv_if_ne (tgt := 22) hx hb dX11_keep_17 (by decide) (fun c11 => ?_) (fun c11 => ?_)
      · replace h := it_f c11 h
        exact bl22 p1 p2 C _ _ _ h (lv_sub hl [0, 1, 2] rfl) hP hS
      · replace h := it_t c11 h
        refine lv_iconst (v := (-1)) hx hb dX11_keep_20 (by decide) ?_
        exact re_i' hC hr hP hS (pr_1 h) (congrArg (fun Z : Mm => (Cm, Z)) (pr_2 h)) dX11_keep_21
set_option maxHeartbeats 4000000 in
set_option maxRecDepth 100000 in
theorem mX11_row (l : Launch) (G : gp) (Cm : Mm) {n : Nat} {p1 : Int32} {p2 : Int32} {p3 : Int32} {C : Mm} {r0 : Int32} {C0 : Mm} (h : fX11_row n p1 p2 p3 C = some (r0, C0)) : Met l yX11_row (wsy yX11_row cX11_row 5 (some .int)) (rmv 2 45) (va_Pc [.ref (gA G 72), .int p1, .int p2, .int p3] (Rl G (Cm, C))) (Qi G PT r0 (Cm, C0)) 0 0 (lwA G) := by
  refine met_i [.ref (gA G 72), .int p1, .int p2, .int p3] wX11_row.2.2.2.2.2 (Nat.le_of_ble_eq_true rfl) ?_
  intro p e s m args below meth c ls hC hr hP hl
  have hC : Cx G p s m args meth c cX11_row RX11 5 := hC
  have hx := hC.1
  have hb := hC.2.1
  have hown := hC.2.2.2.1
  have hts := hC.2.2.2.2.1
  have hS : va_S (lwA G) s.heap s.heap [] := va_S.rf
  have hl : lv_has ls 5 [(0, .ref (gA G 72)), (1, .int p1), (2, .int p2), (3, .int p3)] := hl
  have bl57 : ∀ (fu : Nat), ∀ (y1 : Int32) (y4 : Int32) (C : Mm) (H : Heap) (locs : List Loc) (ls : Array Slot), fX11_row_h57 n fu y1 y4 C = some (r0, C0) → lv_has ls 5 [(0, .ref (gA G 72)), (1, .int y1), (4, .int y4)] → va_P (gD G) vwCl (wld G (Cm, C)) H → va_S (lwA G) s.heap H locs → W p l e (rmv 2 45) s m args below meth c H locs 0 0 (MQ below (Qi G PT r0 (Cm, C0)) args s 0 0 (lwA G)) (F0 m 57 ls []) := by
    intro fu
    induction fu with
    | zero =>
      intro y1 y4 C H locs ls h hl hP hS
      rw [fX11_row_h57.eq_1] at h
      cases h
    | succ fu ih =>
      intro y1 y4 C H locs ls h hl hP hS
      rw [fX11_row_h57.eq_2] at h
      refine lv_iload hx hb dX11_row_57 (lv_at hl 2 rfl) ?_
      refine lv_bipush (v := 60) hx hb dX11_row_59 (by decide) ?_
      refine lv_iload_n hx hb dX11_row_61 rfl (lv_at hl 1 rfl) ?_
      refine lv_imul hx hb dX11_row_62 ?_
      refine lv_bipush (v := 60) hx hb dX11_row_63 (by decide) ?_
      refine lv_iadd hx hb dX11_row_65 ?_
      refine lv_icmp_ge (tgt := 83) hx hb dX11_row_66 (by decide) (fun c1 => ?_) (fun c1 => ?_)
      · replace h := it_t c1 h
        refine lv_iconst (v := 1) hx hb dX11_row_83 (by decide) ?_
        exact re_i' hC hr hP hS (pr_1 h) (congrArg (fun Z : Mm => (Cm, Z)) (pr_2 h)) dX11_row_84
      · replace h := it_f c1 h
        refine lv_aload_n hx hb dX11_row_69 rfl (lv_at hl 0 rfl) ?_
        refine r_get (v := .ref (gA G 101)) hC inX11 hP (e_72 G _) rfl 53 (by decide) rfl k1103 rfl dX11_row_70 ?_
        refine lv_iload hx hb dX11_row_73 (lv_at hl 2 rfl) ?_
        refine lv_lconst (v := 0) hx hb dX11_row_75 (by decide) ?_
        by_cases c2 : y4 < (0 : Int32) ∨ 360 ≤ Int32.toNatClampNeg y4
        · cases it_t c2 h
        replace h := it_f c2 h
        obtain ⟨C3, eC3⟩ : ∃ Z : Mm, Z = wrL C 101 (Int32.toNatClampNeg y4) 0 := ⟨_, rfl⟩
        replace h := lt_y eC3 h
        refine r_last (X' := (Cm, C3)) hC hP hS (e_101 G _) c2 (a_101 G _ _ _ _ eC3) dX11_row_76 (fun H locs hP hS => ?_)
        obtain ⟨x4, ex4⟩ : ∃ y : Int32, y = y4 + 1 := ⟨_, rfl⟩
        replace h := lt_y ex4 h
        refine lv_iinc (v := x4) (lv' := [(4, .int x4), (0, .ref (gA G 72)), (1, .int y1)]) hx hb dX11_row_77 hl (k := 2) rfl (by rw [ex4]; rfl) (by decide) rfl (fun ls hl => ?_)
        refine lv_goto (tgt := 57) hx hb dX11_row_80 (by decide) ?_
        exact ih y1 x4 C3 _ _ _ h (lv_sub hl [1, 2, 0] rfl) hP hS
  unfold fX11_row at h
  refine lv_iload_n hx hb dX11_row_0 rfl (lv_at hl 1 rfl) ?_
  refine rc_i hS (run_S hC wX11_isShelf k1449 hP hS (As := [.int p1]) (rest := []) (mX11_isShelf l G Cm rfl) rfl hl.1 (Nat.le_of_ble_eq_true rfl) ⟨by decide, by decide⟩ ⟨Nat.le_refl _, Nat.le_refl _⟩ rfl dX11_row_1) (fun H locs pb6 hP hS => ?_)
  refine lv_if_eq (tgt := 25) hx hb dX11_row_4 (by decide) (fun c7 => ?_) (fun c7 => ?_)
  · replace h := it_t c7 h
    refine lv_iconst (v := (-1)) hx hb dX11_row_25 (by decide) ?_
    exact re_i' hC hr hP hS (pr_1 h) (congrArg (fun Z : Mm => (Cm, Z)) (pr_2 h)) dX11_row_26
  · replace h := it_f c7 h
    refine lv_iload_n hx hb dX11_row_7 rfl (lv_at hl 2 rfl) ?_
    refine lv_i2l hx hb dX11_row_8 rfl ?_
    refine lv_lconst (v := 0) hx hb dX11_row_9 (by decide) ?_
    refine lv_ldc2 hx hb (v := 4) hown (hts _ k1228) dX11_row_10 ?_
    refine rc_i hS (run_S hC wX11_within k1229 hP hS (As := [.long (Int32.toInt64 p2), .long 0, .long 4]) (rest := []) (mX11_within l G Cm rfl) rfl hl.1 (Nat.le_of_ble_eq_true rfl) ⟨by decide, by decide⟩ ⟨Nat.le_refl _, Nat.le_refl _⟩ rfl dX11_row_13) (fun H locs pb9 hP hS => ?_)
    refine lv_if_eq (tgt := 25) hx hb dX11_row_16 (by decide) (fun c10 => ?_) (fun c10 => ?_)
    · replace h := it_t c10 h
      refine lv_iconst (v := (-1)) hx hb dX11_row_25 (by decide) ?_
      exact re_i' hC hr hP hS (pr_1 h) (congrArg (fun Z : Mm => (Cm, Z)) (pr_2 h)) dX11_row_26
    · replace h := it_f c10 h
      refine lv_iload_n hx hb dX11_row_19 rfl (lv_at hl 3 rfl) ?_
      refine lv_bipush (v := 60) hx hb dX11_row_20 (by decide) ?_
      refine lv_icmp_le (tgt := 27) hx hb dX11_row_22 (by decide) (fun c11 => ?_) (fun c11 => ?_)
      · replace h := it_t c11 h
        refine lv_iload_n hx hb dX11_row_27 rfl (lv_at hl 3 rfl) ?_
        refine lv_if_ge (tgt := 34) hx hb dX11_row_28 (by decide) (fun c12 => ?_) (fun c12 => ?_)
        · replace h := it_t c12 h
          refine lv_aload_n hx hb dX11_row_34 rfl (lv_at hl 0 rfl) ?_
          refine r_get (v := .ref (gA G 99)) hC inX11 hP (e_72 G _) rfl 51 (by decide) rfl k1101 rfl dX11_row_35 ?_
          refine lv_iload_n hx hb dX11_row_38 rfl (lv_at hl 1 rfl) ?_
          refine lv_bipush (v := 50) hx hb dX11_row_39 (by decide) ?_
          refine lv_iload_n hx hb dX11_row_41 rfl (lv_at hl 2 rfl) ?_
          refine lv_iadd hx hb dX11_row_42 ?_
          by_cases c13 : p1 < (0 : Int32) ∨ 6 ≤ Int32.toNatClampNeg p1
          · cases it_t c13 h
          replace h := it_f c13 h
          obtain ⟨C14, eC14⟩ : ∃ Z : Mm, Z = wrI C 99 (Int32.toNatClampNeg p1) (50 + p2) := ⟨_, rfl⟩
          replace h := lt_y eC14 h
          refine r_iast (X' := (Cm, C14)) hC hP hS (e_99 G _) c13 (a_99 G _ _ _ _ eC14) dX11_row_43 (fun H locs hP hS => ?_)
          refine lv_aload_n hx hb dX11_row_44 rfl (lv_at hl 0 rfl) ?_
          refine r_get (v := .ref (gA G 100)) hC inX11 hP (e_72 G _) rfl 52 (by decide) rfl k1102 rfl dX11_row_45 ?_
          refine lv_iload_n hx hb dX11_row_48 rfl (lv_at hl 1 rfl) ?_
          refine lv_iload_n hx hb dX11_row_49 rfl (lv_at hl 3 rfl) ?_
          by_cases c15 : p1 < (0 : Int32) ∨ 6 ≤ Int32.toNatClampNeg p1
          · cases it_t c15 h
          replace h := it_f c15 h
          obtain ⟨C16, eC16⟩ : ∃ Z : Mm, Z = wrI C14 100 (Int32.toNatClampNeg p1) p3 := ⟨_, rfl⟩
          replace h := lt_y eC16 h
          refine r_iast (X' := (Cm, C16)) hC hP hS (e_100 G _) c15 (a_100 G _ _ _ _ eC16) dX11_row_50 (fun H locs hP hS => ?_)
          refine lv_bipush (v := 60) hx hb dX11_row_51 (by decide) ?_
          refine lv_iload_n hx hb dX11_row_53 rfl (lv_at hl 1 rfl) ?_
          refine lv_imul hx hb dX11_row_54 ?_
          refine lv_topi (fun x17 ex17 => ?_)
          replace h := lt_y ex17 h
          refine lv_istore (lv' := [(4, .int x17), (0, .ref (gA G 72)), (1, .int p1), (2, .int p2), (3, .int p3)]) hx hb dX11_row_55 hl (by decide) rfl (fun ls hl => ?_)
          exact bl57 n p1 x17 C16 _ _ _ h (lv_sub hl [1, 2, 0] rfl) hP hS
        · replace h := it_f c12 h
          refine lv_bipush (v := (-14)) hx hb dX11_row_31 (by decide) ?_
          exact re_i' hC hr hP hS (pr_1 h) (congrArg (fun Z : Mm => (Cm, Z)) (pr_2 h)) dX11_row_33
      · replace h := it_f c11 h
        refine lv_iconst (v := (-1)) hx hb dX11_row_25 (by decide) ?_
        exact re_i' hC hr hP hS (pr_1 h) (congrArg (fun Z : Mm => (Cm, Z)) (pr_2 h)) dX11_row_26
set_option maxHeartbeats 4000000 in
set_option maxRecDepth 100000 in
theorem mX11_refusal (l : Launch) (G : gp) (Cm : Mm) {p1 : Int32} {p2 : Int32} {C : Mm} {r0 : Int32} (h : fX11_refusal p1 p2 C = some r0) : Met l yX11_refusal (wsy yX11_refusal cX11_refusal 3 (some .int)) (rmv 2 45) (va_Pc [.ref (gA G 72), .int p1, .int p2] (Rl G (Cm, C))) (Qi G PT r0 (Cm, C)) 0 0 (lwA G) := by
  refine met_i [.ref (gA G 72), .int p1, .int p2] wX11_refusal.2.2.2.2.2 (Nat.le_of_ble_eq_true rfl) ?_
  intro p e s m args below meth c ls hC hr hP hl
  have hC : Cx G p s m args meth c cX11_refusal RX11 3 := hC
  have hx := hC.1
  have hb := hC.2.1
  have hown := hC.2.2.2.1
  have hts := hC.2.2.2.2.1
  have hS : va_S (lwA G) s.heap s.heap [] := va_S.rf
  have hl : lv_has ls 3 [(0, .ref (gA G 72)), (1, .int p1), (2, .int p2)] := hl
  unfold fX11_refusal at h
  refine lv_iload_n hx hb dX11_refusal_0 rfl (lv_at hl 1 rfl) ?_
  refine rc_i hS (run_S hC wX11_isShelf k1449 hP hS (As := [.int p1]) (rest := []) (mX11_isShelf l G Cm rfl) rfl hl.1 (Nat.le_of_ble_eq_true rfl) ⟨by decide, by decide⟩ ⟨Nat.le_refl _, Nat.le_refl _⟩ rfl dX11_refusal_1) (fun H locs pb2 hP hS => ?_)
  refine lv_if_ne (tgt := 9) hx hb dX11_refusal_4 (by decide) (fun c3 => ?_) (fun c3 => ?_)
  · replace h := it_f c3 h
    refine lv_aload_n hx hb dX11_refusal_9 rfl (lv_at hl 0 rfl) ?_
    refine r_get (v := .ref (gA G 99)) hC inX11 hP (e_72 G _) rfl 51 (by decide) rfl k1101 rfl dX11_refusal_10 ?_
    refine lv_iload_n hx hb dX11_refusal_13 rfl (lv_at hl 1 rfl) ?_
    by_cases c4 : p1 < (0 : Int32) ∨ 6 ≤ Int32.toNatClampNeg p1
    · cases it_t c4 h
    replace h := it_f c4 h
    refine r_iald hC hP (f := C.1 99) (e_99 G _) c4 dX11_refusal_14 ?_
    refine lv_if_ge (tgt := 21) hx hb dX11_refusal_15 (by decide) (fun c5 => ?_) (fun c5 => ?_)
    · replace h := it_t c5 h
      refine lv_aload_n hx hb dX11_refusal_21 rfl (lv_at hl 0 rfl) ?_
      refine r_get (v := .ref (gA G 99)) hC inX11 hP (e_72 G _) rfl 51 (by decide) rfl k1101 rfl dX11_refusal_22 ?_
      refine lv_iload_n hx hb dX11_refusal_25 rfl (lv_at hl 1 rfl) ?_
      by_cases c6 : p1 < (0 : Int32) ∨ 6 ≤ Int32.toNatClampNeg p1
      · cases it_t c6 h
      replace h := it_f c6 h
      refine r_iald hC hP (f := C.1 99) (e_99 G _) c6 dX11_refusal_26 ?_
      refine lv_bipush (v := 50) hx hb dX11_refusal_27 (by decide) ?_
      refine lv_icmp_ge (tgt := 35) hx hb dX11_refusal_29 (by decide) (fun c7 => ?_) (fun c7 => ?_)
      · replace h := it_t c7 h
        refine lv_iload_n hx hb dX11_refusal_35 rfl (lv_at hl 2 rfl) ?_
        refine lv_if_lt (tgt := 53) hx hb dX11_refusal_36 (by decide) (fun c8 => ?_) (fun c8 => ?_)
        · replace h := it_t c8 h
          refine lv_bipush (v := (-13)) hx hb dX11_refusal_53 (by decide) ?_
          exact re_i' hC hr hP hS (Option.some.inj h) rfl dX11_refusal_55
        · replace h := it_f c8 h
          refine lv_iload_n hx hb dX11_refusal_39 rfl (lv_at hl 2 rfl) ?_
          refine lv_aload_n hx hb dX11_refusal_40 rfl (lv_at hl 0 rfl) ?_
          refine r_get (v := .ref (gA G 100)) hC inX11 hP (e_72 G _) rfl 52 (by decide) rfl k1102 rfl dX11_refusal_41 ?_
          refine lv_iload_n hx hb dX11_refusal_44 rfl (lv_at hl 1 rfl) ?_
          by_cases c9 : p1 < (0 : Int32) ∨ 6 ≤ Int32.toNatClampNeg p1
          · cases it_t c9 h
          replace h := it_f c9 h
          refine r_iald hC hP (f := C.1 100) (e_100 G _) c9 dX11_refusal_45 ?_
          refine lv_icmp_ge (tgt := 53) hx hb dX11_refusal_46 (by decide) (fun c10 => ?_) (fun c10 => ?_)
          · replace h := it_t c10 h
            refine lv_bipush (v := (-13)) hx hb dX11_refusal_53 (by decide) ?_
            exact re_i' hC hr hP hS (Option.some.inj h) rfl dX11_refusal_55
          · replace h := it_f c10 h
            refine lv_iconst (v := 0) hx hb dX11_refusal_49 (by decide) ?_
            refine lv_goto (tgt := 55) hx hb dX11_refusal_50 (by decide) ?_
            exact re_i' hC hr hP hS (Option.some.inj h) rfl dX11_refusal_55
      · replace h := it_f c7 h
        refine lv_bipush (v := (-12)) hx hb dX11_refusal_32 (by decide) ?_
        exact re_i' hC hr hP hS (Option.some.inj h) rfl dX11_refusal_34
    · replace h := it_f c5 h
      refine lv_bipush (v := (-11)) hx hb dX11_refusal_18 (by decide) ?_
      exact re_i' hC hr hP hS (Option.some.inj h) rfl dX11_refusal_20
  · replace h := it_t c3 h
    refine lv_iconst (v := (-1)) hx hb dX11_refusal_7 (by decide) ?_
    exact re_i' hC hr hP hS (Option.some.inj h) rfl dX11_refusal_8
set_option maxHeartbeats 4000000 in
set_option maxRecDepth 100000 in
theorem mX11_asSort (l : Launch) (G : gp) (Cm : Mm) {p0 : Int32} {p1 : Int64} {C : Mm} {r0 : Int64} (h : fX11_asSort p0 p1 = r0) : Met l yX11_asSort (wsy yX11_asSort cX11_asSort 3 (some .long)) (rmv 0 0) (va_Pc [.int p0, .long p1] (Rl G (Cm, C))) (Ql G r0 (Cm, C)) 0 0 (lwA G) := by
  refine met_i [.int p0, .long p1] wX11_asSort.2.2.2.2 (Nat.le_of_ble_eq_true rfl) ?_
  intro p e s m args below meth c ls hC hr hP hl
  have hC : Cx G p s m args meth c cX11_asSort RX11 3 := hC
  have hx := hC.1
  have hb := hC.2.1
  have hown := hC.2.2.2.1
  have hts := hC.2.2.2.2.1
  have hS : va_S (lwA G) s.heap s.heap [] := va_S.rf
  have hl : lv_has ls 3 [(0, .int p0), (1, .long p1)] := hl
  unfold fX11_asSort at h
  refine lv_iload_n hx hb dX11_asSort_0 rfl (lv_at hl 0 rfl) ?_
  refine lv_if_ne (tgt := 11) hx hb dX11_asSort_1 (by decide) (fun c1 => ?_) (fun c1 => ?_)
  · replace h := it_f c1 h
    refine lv_iload_n hx hb dX11_asSort_11 rfl (lv_at hl 0 rfl) ?_
    refine lv_iconst (v := 1) hx hb dX11_asSort_12 (by decide) ?_
    refine lv_icmp_ne (tgt := 23) hx hb dX11_asSort_13 (by decide) (fun c2 => ?_) (fun c2 => ?_)
    · replace h := it_f c2 h
      refine lv_iload_n hx hb dX11_asSort_23 rfl (lv_at hl 0 rfl) ?_
      refine lv_iconst (v := 2) hx hb dX11_asSort_24 (by decide) ?_
      refine lv_icmp_ne (tgt := 34) hx hb dX11_asSort_25 (by decide) (fun c3 => ?_) (fun c3 => ?_)
      · replace h := it_f c3 h
        refine lv_iload_n hx hb dX11_asSort_34 rfl (lv_at hl 0 rfl) ?_
        refine lv_iconst (v := 4) hx hb dX11_asSort_35 (by decide) ?_
        refine lv_icmp_ne (tgt := 53) hx hb dX11_asSort_36 (by decide) (fun c4 => ?_) (fun c4 => ?_)
        · replace h := it_f c4 h
          refine lv_lload_n hx hb dX11_asSort_53 rfl (lv_at hl 1 rfl) ?_
          exact re_l' hC hr hP hS h rfl dX11_asSort_54
        · replace h := it_t c4 h
          refine lv_lload_n hx hb dX11_asSort_39 rfl (lv_at hl 1 rfl) ?_
          refine lv_lconst (v := 0) hx hb dX11_asSort_40 (by decide) ?_
          refine W.lcmp hx hb dX11_asSort_41 ?_
          refine lv_if_eq (tgt := 49) hx hb dX11_asSort_42 (by decide) (fun c5 => ?_) (fun c5 => ?_)
          · replace h := it_t c5 h
            refine lv_lconst (v := 0) hx hb dX11_asSort_49 (by decide) ?_
            refine lv_goto (tgt := 54) hx hb dX11_asSort_50 (by decide) ?_
            exact re_l' hC hr hP hS h rfl dX11_asSort_54
          · replace h := it_f c5 h
            refine lv_lconst (v := 1) hx hb dX11_asSort_45 (by decide) ?_
            refine lv_goto (tgt := 54) hx hb dX11_asSort_46 (by decide) ?_
            exact re_l' hC hr hP hS h rfl dX11_asSort_54
      · replace h := it_t c3 h
        refine lv_lload_n hx hb dX11_asSort_28 rfl (lv_at hl 1 rfl) ?_
        refine lv_l2i hx hb dX11_asSort_29 rfl ?_
        refine lv_i2l hx hb dX11_asSort_30 rfl ?_
        refine lv_goto (tgt := 54) hx hb dX11_asSort_31 (by decide) ?_
        exact re_l' hC hr hP hS h rfl dX11_asSort_54
    · replace h := it_t c2 h
      refine lv_lload_n hx hb dX11_asSort_16 rfl (lv_at hl 1 rfl) ?_
      refine lv_l2i hx hb dX11_asSort_17 rfl ?_
      refine lv_i2s hx hb dX11_asSort_18 rfl ?_
      refine lv_i2l hx hb dX11_asSort_19 rfl ?_
      refine lv_goto (tgt := 54) hx hb dX11_asSort_20 (by decide) ?_
      exact re_l' hC hr hP hS h rfl dX11_asSort_54
  · replace h := it_t c1 h
    refine lv_lload_n hx hb dX11_asSort_4 rfl (lv_at hl 1 rfl) ?_
    refine lv_l2i hx hb dX11_asSort_5 rfl ?_
    refine lv_i2b hx hb dX11_asSort_6 rfl ?_
    refine lv_i2l hx hb dX11_asSort_7 rfl ?_
    refine lv_goto (tgt := 54) hx hb dX11_asSort_8 (by decide) ?_
    exact re_l' hC hr hP hS h rfl dX11_asSort_54
set_option maxHeartbeats 4000000 in
set_option maxRecDepth 100000 in
theorem mX11_put (l : Launch) (G : gp) (Cm : Mm) {p1 : Int32} {p2 : Int32} {p3 : Int64} {C : Mm} {r0 : Int32} {C0 : Mm} (h : fX11_put p1 p2 p3 C = some (r0, C0)) : Met l yX11_put (wsy yX11_put cX11_put 6 (some .int)) (rmv 3 67) (va_Pc [.ref (gA G 72), .int p1, .int p2, .long p3] (Rl G (Cm, C))) (Qi G PT r0 (Cm, C0)) 0 0 (lwA G) := by
  refine met_i [.ref (gA G 72), .int p1, .int p2, .long p3] wX11_put.2.2.2.2.2 (Nat.le_of_ble_eq_true rfl) ?_
  intro p e s m args below meth c ls hC hr hP hl
  have hC : Cx G p s m args meth c cX11_put RX11 6 := hC
  have hx := hC.1
  have hb := hC.2.1
  have hown := hC.2.2.2.1
  have hts := hC.2.2.2.2.1
  have hS : va_S (lwA G) s.heap s.heap [] := va_S.rf
  have hl : lv_has ls 6 [(0, .ref (gA G 72)), (1, .int p1), (2, .int p2), (3, .long p3)] := hl
  have bl37 : ∀ (y5 : Int32) (C : Mm) (H : Heap) (locs : List Loc) (ls : Array Slot), fX11_put_b37 y5 C = some (r0, C0) → lv_has ls 6 [(5, .int y5)] → va_P (gD G) vwCl (wld G (Cm, C)) H → va_S (lwA G) s.heap H locs → W p l e (rmv 3 67) s m args below meth c H locs 0 0 (MQ below (Qi G PT r0 (Cm, C0)) args s 0 0 (lwA G)) (F0 m 37 ls []) := by
    intro y5 C H locs ls h hl hP hS
    unfold fX11_put_b37 at h
    refine lv_iload hx hb dX11_put_37 (lv_at hl 0 rfl) ?_
    refine lv_if_ne (tgt := 46) hx hb dX11_put_39 (by decide) (fun c1 => ?_) (fun c1 => ?_)
    · replace h := it_f c1 h
      refine lv_iload hx hb dX11_put_46 (lv_at hl 0 rfl) ?_
      exact re_i' hC hr hP hS (pr_1 h) (congrArg (fun Z : Mm => (Cm, Z)) (pr_2 h)) dX11_put_48
    · replace h := it_t c1 h
      refine lv_iconst (v := 1) hx hb dX11_put_42 (by decide) ?_
      refine lv_goto (tgt := 48) hx hb dX11_put_43 (by decide) ?_
      exact re_i' hC hr hP hS (pr_1 h) (congrArg (fun Z : Mm => (Cm, Z)) (pr_2 h)) dX11_put_48
  unfold fX11_put at h
  refine lv_aload_n hx hb dX11_put_0 rfl (lv_at hl 0 rfl) ?_
  refine lv_iload_n hx hb dX11_put_1 rfl (lv_at hl 1 rfl) ?_
  refine lv_iload_n hx hb dX11_put_2 rfl (lv_at hl 2 rfl) ?_
  obtain ⟨r3, hq2, h⟩ := bn_x h
  refine rc_i hS (run_V hC wX11_refusal k1630 (e_72 G _) rfl hP hS (As := [.int p1, .int p2]) (rest := []) (mX11_refusal l G Cm hq2) rfl hl.1 (Nat.le_of_ble_eq_true rfl) ⟨by decide, by decide⟩ ⟨Nat.le_refl _, Nat.le_refl _⟩ rfl dX11_put_3) (fun H locs pb4 hP hS => ?_)
  refine lv_istore (lv' := [(5, .int r3), (0, .ref (gA G 72)), (1, .int p1), (2, .int p2), (3, .long p3)]) hx hb dX11_put_6 hl (by decide) rfl (fun ls hl => ?_)
  refine lv_iload hx hb dX11_put_8 (lv_at hl 0 rfl) ?_
  refine lv_if_ne (tgt := 37) hx hb dX11_put_10 (by decide) (fun c5 => ?_) (fun c5 => ?_)
  · replace h := it_f c5 h
    exact bl37 r3 C _ _ _ h (lv_sub hl [0] rfl) hP hS
  · replace h := it_t c5 h
    refine lv_aload_n hx hb dX11_put_13 rfl (lv_at hl 1 rfl) ?_
    refine r_get (v := .ref (gA G 101)) hC inX11 hP (e_72 G _) rfl 53 (by decide) rfl k1103 rfl dX11_put_14 ?_
    refine lv_bipush (v := 60) hx hb dX11_put_17 (by decide) ?_
    refine lv_iload_n hx hb dX11_put_19 rfl (lv_at hl 2 rfl) ?_
    refine lv_imul hx hb dX11_put_20 ?_
    refine lv_iload_n hx hb dX11_put_21 rfl (lv_at hl 3 rfl) ?_
    refine lv_iadd hx hb dX11_put_22 ?_
    refine lv_aload_n hx hb dX11_put_23 rfl (lv_at hl 1 rfl) ?_
    refine r_get (v := .ref (gA G 99)) hC inX11 hP (e_72 G _) rfl 51 (by decide) rfl k1101 rfl dX11_put_24 ?_
    refine lv_iload_n hx hb dX11_put_27 rfl (lv_at hl 2 rfl) ?_
    by_cases c6 : p1 < (0 : Int32) ∨ 6 ≤ Int32.toNatClampNeg p1
    · cases it_t c6 h
    replace h := it_f c6 h
    refine r_iald hC hP (f := C.1 99) (e_99 G _) c6 dX11_put_28 ?_
    refine lv_bipush (v := 50) hx hb dX11_put_29 (by decide) ?_
    refine lv_isub hx hb dX11_put_31 ?_
    refine lv_lload_n hx hb dX11_put_32 rfl (lv_at hl 4 rfl) ?_
    refine rc_l hS (run_S hC wX11_asSort k1634 hP hS (As := [.int ((C.1 99 (Int32.toNatClampNeg p1)) - 50), .long p3]) (rest := [.int ((60 * p1) + p2), .ref (gA G 101)]) (mX11_asSort l G Cm rfl) rfl hl.1 (Nat.le_of_ble_eq_true rfl) ⟨by decide, by decide⟩ ⟨Nat.le_refl _, Nat.le_refl _⟩ rfl dX11_put_33) (fun H locs hP hS => ?_)
    by_cases c8 : ((60 * p1) + p2) < (0 : Int32) ∨ 360 ≤ Int32.toNatClampNeg ((60 * p1) + p2)
    · cases it_t c8 h
    replace h := it_f c8 h
    obtain ⟨C9, eC9⟩ : ∃ Z : Mm, Z = wrL C 101 (Int32.toNatClampNeg ((60 * p1) + p2)) (fX11_asSort ((C.1 99 (Int32.toNatClampNeg p1)) - 50) p3) := ⟨_, rfl⟩
    replace h := lt_y eC9 h
    refine r_last (X' := (Cm, C9)) hC hP hS (e_101 G _) c8 (a_101 G _ _ _ _ eC9) dX11_put_36 (fun H locs hP hS => ?_)
    exact bl37 r3 C9 _ _ _ h (lv_sub hl [0] rfl) hP hS
set_option maxHeartbeats 4000000 in
set_option maxRecDepth 100000 in
theorem mX11_element (l : Launch) (G : gp) (Cm : Mm) {p1 : Int32} {p2 : Int32} {C : Mm} {r0 : Int64} (h : fX11_element p1 p2 C = some r0) : Met l yX11_element (wsy yX11_element cX11_element 3 (some .long)) (rmv 3 67) (va_Pc [.ref (gA G 72), .int p1, .int p2] (Rl G (Cm, C))) (Ql G r0 (Cm, C)) 0 0 (lwA G) := by
  refine met_i [.ref (gA G 72), .int p1, .int p2] wX11_element.2.2.2.2.2 (Nat.le_of_ble_eq_true rfl) ?_
  intro p e s m args below meth c ls hC hr hP hl
  have hC : Cx G p s m args meth c cX11_element RX11 3 := hC
  have hx := hC.1
  have hb := hC.2.1
  have hown := hC.2.2.2.1
  have hts := hC.2.2.2.2.1
  have hS : va_S (lwA G) s.heap s.heap [] := va_S.rf
  have hl : lv_has ls 3 [(0, .ref (gA G 72)), (1, .int p1), (2, .int p2)] := hl
  unfold fX11_element at h
  refine lv_aload_n hx hb dX11_element_0 rfl (lv_at hl 0 rfl) ?_
  refine lv_iload_n hx hb dX11_element_1 rfl (lv_at hl 1 rfl) ?_
  refine lv_iload_n hx hb dX11_element_2 rfl (lv_at hl 2 rfl) ?_
  obtain ⟨r2, hq1, h⟩ := bn_x h
  refine rc_i hS (run_V hC wX11_refusal k1630 (e_72 G _) rfl hP hS (As := [.int p1, .int p2]) (rest := []) (mX11_refusal l G Cm hq1) rfl hl.1 (Nat.le_of_ble_eq_true rfl) ⟨by decide, by decide⟩ ⟨Nat.le_refl _, Nat.le_refl _⟩ rfl dX11_element_3) (fun H locs pb3 hP hS => ?_)
  refine lv_if_eq (tgt := 15) hx hb dX11_element_6 (by decide) (fun c4 => ?_) (fun c4 => ?_)
  · replace h := it_t c4 h
    refine lv_aload_n hx hb dX11_element_15 rfl (lv_at hl 0 rfl) ?_
    refine r_get (v := .ref (gA G 101)) hC inX11 hP (e_72 G _) rfl 53 (by decide) rfl k1103 rfl dX11_element_16 ?_
    refine lv_bipush (v := 60) hx hb dX11_element_19 (by decide) ?_
    refine lv_iload_n hx hb dX11_element_21 rfl (lv_at hl 1 rfl) ?_
    refine lv_imul hx hb dX11_element_22 ?_
    refine lv_iload_n hx hb dX11_element_23 rfl (lv_at hl 2 rfl) ?_
    refine lv_iadd hx hb dX11_element_24 ?_
    by_cases c5 : ((60 * p1) + p2) < (0 : Int32) ∨ 360 ≤ Int32.toNatClampNeg ((60 * p1) + p2)
    · cases it_t c5 h
    replace h := it_f c5 h
    refine r_lald hC hP (f := C.2 101) (e_101 G _) c5 dX11_element_25 ?_
    exact re_l' hC hr hP hS (Option.some.inj h) rfl dX11_element_26
  · replace h := it_f c4 h
    refine lv_ldc2 hx hb (v := (-9223372036854775808)) hown (hts _ k1641) dX11_element_9 ?_
    refine lv_goto (tgt := 26) hx hb dX11_element_12 (by decide) ?_
    exact re_l' hC hr hP hS (Option.some.inj h) rfl dX11_element_26
set_option maxHeartbeats 4000000 in
set_option maxRecDepth 100000 in
theorem mX11_shift (l : Launch) (G : gp) (Cm : Mm) {n : Nat} {p1 : Int32} {p2 : Int32} {p3 : Int32} {p4 : Int32} {p5 : Int32} {C : Mm} {r0 : Int32} {C0 : Mm} (h : fX11_shift n p1 p2 p3 p4 p5 C = some (r0, C0)) : Met l yX11_shift (wsy yX11_shift cX11_shift 7 (some .int)) (rmv 2 45) (va_Pc [.ref (gA G 72), .int p1, .int p2, .int p3, .int p4, .int p5] (Rl G (Cm, C))) (Qi G PT r0 (Cm, C0)) 0 0 (lwA G) := by
  refine met_i [.ref (gA G 72), .int p1, .int p2, .int p3, .int p4, .int p5] wX11_shift.2.2.2.2.2 (Nat.le_of_ble_eq_true rfl) ?_
  intro p e s m args below meth c ls hC hr hP hl
  have hC : Cx G p s m args meth c cX11_shift RX11 7 := hC
  have hx := hC.1
  have hb := hC.2.1
  have hown := hC.2.2.2.1
  have hts := hC.2.2.2.2.1
  have hS : va_S (lwA G) s.heap s.heap [] := va_S.rf
  have hl : lv_has ls 7 [(0, .ref (gA G 72)), (1, .int p1), (2, .int p2), (3, .int p3), (4, .int p4), (5, .int p5)] := hl
  have bl150 : ∀ (fu : Nat), ∀ (y3 : Int32) (y4 : Int32) (y5 : Int32) (y6 : Int32) (C : Mm) (H : Heap) (locs : List Loc) (ls : Array Slot), fX11_shift_h150 n fu y3 y4 y5 y6 C = some (r0, C0) → lv_has ls 7 [(0, .ref (gA G 72)), (3, .int y3), (4, .int y4), (5, .int y5), (6, .int y6)] → va_P (gD G) vwCl (wld G (Cm, C)) H → va_S (lwA G) s.heap H locs → W p l e (rmv 2 45) s m args below meth c H locs 0 0 (MQ below (Qi G PT r0 (Cm, C0)) args s 0 0 (lwA G)) (F0 m 150 ls []) := by
    intro fu
    induction fu with
    | zero =>
      intro y3 y4 y5 y6 C H locs ls h hl hP hS
      rw [fX11_shift_h150.eq_1] at h
      cases h
    | succ fu ih =>
      intro y3 y4 y5 y6 C H locs ls h hl hP hS
      rw [fX11_shift_h150.eq_2] at h
      refine lv_iload hx hb dX11_shift_150 (lv_at hl 4 rfl) ?_
      refine lv_iload hx hb dX11_shift_152 (lv_at hl 3 rfl) ?_
      refine lv_icmp_ge (tgt := 185) hx hb dX11_shift_154 (by decide) (fun c1 => ?_) (fun c1 => ?_)
      · replace h := it_t c1 h
        refine lv_iload hx hb dX11_shift_185 (lv_at hl 3 rfl) ?_
        exact re_i' hC hr hP hS (pr_1 h) (congrArg (fun Z : Mm => (Cm, Z)) (pr_2 h)) dX11_shift_187
      · replace h := it_f c1 h
        refine lv_aload_n hx hb dX11_shift_157 rfl (lv_at hl 0 rfl) ?_
        refine r_get (v := .ref (gA G 101)) hC inX11 hP (e_72 G _) rfl 53 (by decide) rfl k1103 rfl dX11_shift_158 ?_
        refine lv_bipush (v := 60) hx hb dX11_shift_161 (by decide) ?_
        refine lv_iload_n hx hb dX11_shift_163 rfl (lv_at hl 1 rfl) ?_
        refine lv_imul hx hb dX11_shift_164 ?_
        refine lv_iload hx hb dX11_shift_165 (lv_at hl 2 rfl) ?_
        refine lv_iadd hx hb dX11_shift_167 ?_
        refine lv_iload hx hb dX11_shift_168 (lv_at hl 4 rfl) ?_
        refine lv_iadd hx hb dX11_shift_170 ?_
        refine lv_aload_n hx hb dX11_shift_171 rfl (lv_at hl 0 rfl) ?_
        refine r_get (v := .ref (gA G 102)) hC inX11 hP (e_72 G _) rfl 54 (by decide) rfl k1104 rfl dX11_shift_172 ?_
        refine lv_iload hx hb dX11_shift_175 (lv_at hl 4 rfl) ?_
        by_cases c2 : y6 < (0 : Int32) ∨ 60 ≤ Int32.toNatClampNeg y6
        · cases it_t c2 h
        replace h := it_f c2 h
        refine r_lald hC hP (f := C.2 102) (e_102 G _) c2 dX11_shift_177 ?_
        by_cases c3 : (((60 * y3) + y4) + y6) < (0 : Int32) ∨ 360 ≤ Int32.toNatClampNeg (((60 * y3) + y4) + y6)
        · cases it_t c3 h
        replace h := it_f c3 h
        obtain ⟨C4, eC4⟩ : ∃ Z : Mm, Z = wrL C 101 (Int32.toNatClampNeg (((60 * y3) + y4) + y6)) (C.2 102 (Int32.toNatClampNeg y6)) := ⟨_, rfl⟩
        replace h := lt_y eC4 h
        refine r_last (X' := (Cm, C4)) hC hP hS (e_101 G _) c3 (a_101 G _ _ _ _ eC4) dX11_shift_178 (fun H locs hP hS => ?_)
        obtain ⟨x5, ex5⟩ : ∃ y : Int32, y = y6 + 1 := ⟨_, rfl⟩
        replace h := lt_y ex5 h
        refine lv_iinc (v := x5) (lv' := [(6, .int x5), (0, .ref (gA G 72)), (3, .int y3), (4, .int y4), (5, .int y5)]) hx hb dX11_shift_179 hl (k := 4) rfl (by rw [ex5]; rfl) (by decide) rfl (fun ls hl => ?_)
        refine lv_goto (tgt := 150) hx hb dX11_shift_182 (by decide) ?_
        exact ih y3 y4 y5 x5 C4 _ _ _ h (lv_sub hl [1, 2, 3, 4, 0] rfl) hP hS
  have bl113 : ∀ (fu : Nat), ∀ (y1 : Int32) (y2 : Int32) (y3 : Int32) (y4 : Int32) (y5 : Int32) (y6 : Int32) (C : Mm) (H : Heap) (locs : List Loc) (ls : Array Slot), fX11_shift_h113 n fu y1 y2 y3 y4 y5 y6 C = some (r0, C0) → lv_has ls 7 [(0, .ref (gA G 72)), (1, .int y1), (2, .int y2), (3, .int y3), (4, .int y4), (5, .int y5), (6, .int y6)] → va_P (gD G) vwCl (wld G (Cm, C)) H → va_S (lwA G) s.heap H locs → W p l e (rmv 2 45) s m args below meth c H locs 0 0 (MQ below (Qi G PT r0 (Cm, C0)) args s 0 0 (lwA G)) (F0 m 113 ls []) := by
    intro fu
    induction fu with
    | zero =>
      intro y1 y2 y3 y4 y5 y6 C H locs ls h hl hP hS
      rw [fX11_shift_h113.eq_1] at h
      cases h
    | succ fu ih =>
      intro y1 y2 y3 y4 y5 y6 C H locs ls h hl hP hS
      rw [fX11_shift_h113.eq_2] at h
      refine lv_iload hx hb dX11_shift_113 (lv_at hl 6 rfl) ?_
      refine lv_iload hx hb dX11_shift_115 (lv_at hl 5 rfl) ?_
      refine lv_icmp_ge (tgt := 147) hx hb dX11_shift_117 (by decide) (fun c6 => ?_) (fun c6 => ?_)
      · replace h := it_t c6 h
        refine lv_iconst (v := 0) hx hb dX11_shift_147 (by decide) ?_
        refine lv_istore (lv' := [(6, .int 0), (0, .ref (gA G 72)), (1, .int y1), (2, .int y2), (3, .int y3), (4, .int y4), (5, .int y5)]) hx hb dX11_shift_148 hl (by decide) rfl (fun ls hl => ?_)
        exact bl150 n y3 y4 y5 0 C _ _ _ h (lv_sub hl [1, 4, 5, 6, 0] rfl) hP hS
      · replace h := it_f c6 h
        refine lv_aload_n hx hb dX11_shift_120 rfl (lv_at hl 0 rfl) ?_
        refine r_get (v := .ref (gA G 102)) hC inX11 hP (e_72 G _) rfl 54 (by decide) rfl k1104 rfl dX11_shift_121 ?_
        refine lv_iload hx hb dX11_shift_124 (lv_at hl 6 rfl) ?_
        refine lv_aload_n hx hb dX11_shift_126 rfl (lv_at hl 0 rfl) ?_
        refine r_get (v := .ref (gA G 101)) hC inX11 hP (e_72 G _) rfl 53 (by decide) rfl k1103 rfl dX11_shift_127 ?_
        refine lv_bipush (v := 60) hx hb dX11_shift_130 (by decide) ?_
        refine lv_iload_n hx hb dX11_shift_132 rfl (lv_at hl 1 rfl) ?_
        refine lv_imul hx hb dX11_shift_133 ?_
        refine lv_iload_n hx hb dX11_shift_134 rfl (lv_at hl 2 rfl) ?_
        refine lv_iadd hx hb dX11_shift_135 ?_
        refine lv_iload hx hb dX11_shift_136 (lv_at hl 6 rfl) ?_
        refine lv_iadd hx hb dX11_shift_138 ?_
        by_cases c7 : (((60 * y1) + y2) + y6) < (0 : Int32) ∨ 360 ≤ Int32.toNatClampNeg (((60 * y1) + y2) + y6)
        · cases it_t c7 h
        replace h := it_f c7 h
        refine r_lald hC hP (f := C.2 101) (e_101 G _) c7 dX11_shift_139 ?_
        by_cases c8 : y6 < (0 : Int32) ∨ 60 ≤ Int32.toNatClampNeg y6
        · cases it_t c8 h
        replace h := it_f c8 h
        obtain ⟨C9, eC9⟩ : ∃ Z : Mm, Z = wrL C 102 (Int32.toNatClampNeg y6) (C.2 101 (Int32.toNatClampNeg (((60 * y1) + y2) + y6))) := ⟨_, rfl⟩
        replace h := lt_y eC9 h
        refine r_last (X' := (Cm, C9)) hC hP hS (e_102 G _) c8 (a_102 G _ _ _ _ eC9) dX11_shift_140 (fun H locs hP hS => ?_)
        obtain ⟨x10, ex10⟩ : ∃ y : Int32, y = y6 + 1 := ⟨_, rfl⟩
        replace h := lt_y ex10 h
        refine lv_iinc (v := x10) (lv' := [(6, .int x10), (0, .ref (gA G 72)), (1, .int y1), (2, .int y2), (3, .int y3), (4, .int y4), (5, .int y5)]) hx hb dX11_shift_141 hl (k := 6) rfl (by rw [ex10]; rfl) (by decide) rfl (fun ls hl => ?_)
        refine lv_goto (tgt := 113) hx hb dX11_shift_144 (by decide) ?_
        exact ih y1 y2 y3 y4 y5 x10 C9 _ _ _ h (lv_sub hl [1, 2, 3, 4, 5, 6, 0] rfl) hP hS
  unfold fX11_shift at h
  refine lv_iload_n hx hb dX11_shift_0 rfl (lv_at hl 1 rfl) ?_
  refine rc_i hS (run_S hC wX11_isShelf k1449 hP hS (As := [.int p1]) (rest := []) (mX11_isShelf l G Cm rfl) rfl hl.1 (Nat.le_of_ble_eq_true rfl) ⟨by decide, by decide⟩ ⟨Nat.le_refl _, Nat.le_refl _⟩ rfl dX11_shift_1) (fun H locs pb12 hP hS => ?_)
  refine lv_if_eq (tgt := 14) hx hb dX11_shift_4 (by decide) (fun c13 => ?_) (fun c13 => ?_)
  · replace h := it_t c13 h
    refine lv_iconst (v := (-1)) hx hb dX11_shift_14 (by decide) ?_
    exact re_i' hC hr hP hS (pr_1 h) (congrArg (fun Z : Mm => (Cm, Z)) (pr_2 h)) dX11_shift_15
  · replace h := it_f c13 h
    refine lv_iload_n hx hb dX11_shift_7 rfl (lv_at hl 3 rfl) ?_
    refine rc_i hS (run_S hC wX11_isShelf k1449 hP hS (As := [.int p3]) (rest := []) (mX11_isShelf l G Cm rfl) rfl hl.1 (Nat.le_of_ble_eq_true rfl) ⟨by decide, by decide⟩ ⟨Nat.le_refl _, Nat.le_refl _⟩ rfl dX11_shift_8) (fun H locs pb15 hP hS => ?_)
    refine lv_if_ne (tgt := 16) hx hb dX11_shift_11 (by decide) (fun c16 => ?_) (fun c16 => ?_)
    · replace h := it_f c16 h
      refine lv_aload_n hx hb dX11_shift_16 rfl (lv_at hl 0 rfl) ?_
      refine r_get (v := .ref (gA G 99)) hC inX11 hP (e_72 G _) rfl 51 (by decide) rfl k1101 rfl dX11_shift_17 ?_
      refine lv_iload_n hx hb dX11_shift_20 rfl (lv_at hl 1 rfl) ?_
      by_cases c17 : p1 < (0 : Int32) ∨ 6 ≤ Int32.toNatClampNeg p1
      · cases it_t c17 h
      replace h := it_f c17 h
      refine r_iald hC hP (f := C.1 99) (e_99 G _) c17 dX11_shift_21 ?_
      refine lv_if_lt (tgt := 34) hx hb dX11_shift_22 (by decide) (fun c18 => ?_) (fun c18 => ?_)
      · replace h := it_t c18 h
        refine lv_bipush (v := (-11)) hx hb dX11_shift_34 (by decide) ?_
        exact re_i' hC hr hP hS (pr_1 h) (congrArg (fun Z : Mm => (Cm, Z)) (pr_2 h)) dX11_shift_36
      · replace h := it_f c18 h
        refine lv_aload_n hx hb dX11_shift_25 rfl (lv_at hl 0 rfl) ?_
        refine r_get (v := .ref (gA G 99)) hC inX11 hP (e_72 G _) rfl 51 (by decide) rfl k1101 rfl dX11_shift_26 ?_
        refine lv_iload_n hx hb dX11_shift_29 rfl (lv_at hl 3 rfl) ?_
        by_cases c19 : p3 < (0 : Int32) ∨ 6 ≤ Int32.toNatClampNeg p3
        · cases it_t c19 h
        replace h := it_f c19 h
        refine r_iald hC hP (f := C.1 99) (e_99 G _) c19 dX11_shift_30 ?_
        refine lv_if_ge (tgt := 37) hx hb dX11_shift_31 (by decide) (fun c20 => ?_) (fun c20 => ?_)
        · replace h := it_t c20 h
          refine lv_aload_n hx hb dX11_shift_37 rfl (lv_at hl 0 rfl) ?_
          refine r_get (v := .ref (gA G 99)) hC inX11 hP (e_72 G _) rfl 51 (by decide) rfl k1101 rfl dX11_shift_38 ?_
          refine lv_iload_n hx hb dX11_shift_41 rfl (lv_at hl 1 rfl) ?_
          by_cases c21 : p1 < (0 : Int32) ∨ 6 ≤ Int32.toNatClampNeg p1
          · cases it_t c21 h
          replace h := it_f c21 h
          refine r_iald hC hP (f := C.1 99) (e_99 G _) c21 dX11_shift_42 ?_
          refine lv_bipush (v := 50) hx hb dX11_shift_43 (by decide) ?_
          refine lv_icmp_lt (tgt := 63) hx hb dX11_shift_45 (by decide) (fun c22 => ?_) (fun c22 => ?_)
          · replace h := it_t c22 h
            refine lv_bipush (v := (-12)) hx hb dX11_shift_63 (by decide) ?_
            exact re_i' hC hr hP hS (pr_1 h) (congrArg (fun Z : Mm => (Cm, Z)) (pr_2 h)) dX11_shift_65
          · replace h := it_f c22 h
            refine lv_aload_n hx hb dX11_shift_48 rfl (lv_at hl 0 rfl) ?_
            refine r_get (v := .ref (gA G 99)) hC inX11 hP (e_72 G _) rfl 51 (by decide) rfl k1101 rfl dX11_shift_49 ?_
            refine lv_iload_n hx hb dX11_shift_52 rfl (lv_at hl 1 rfl) ?_
            by_cases c23 : p1 < (0 : Int32) ∨ 6 ≤ Int32.toNatClampNeg p1
            · cases it_t c23 h
            replace h := it_f c23 h
            refine r_iald hC hP (f := C.1 99) (e_99 G _) c23 dX11_shift_53 ?_
            refine lv_aload_n hx hb dX11_shift_54 rfl (lv_at hl 0 rfl) ?_
            refine r_get (v := .ref (gA G 99)) hC inX11 hP (e_72 G _) rfl 51 (by decide) rfl k1101 rfl dX11_shift_55 ?_
            refine lv_iload_n hx hb dX11_shift_58 rfl (lv_at hl 3 rfl) ?_
            by_cases c24 : p3 < (0 : Int32) ∨ 6 ≤ Int32.toNatClampNeg p3
            · cases it_t c24 h
            replace h := it_f c24 h
            refine r_iald hC hP (f := C.1 99) (e_99 G _) c24 dX11_shift_59 ?_
            refine lv_icmp_eq (tgt := 66) hx hb dX11_shift_60 (by decide) (fun c25 => ?_) (fun c25 => ?_)
            · replace h := it_t c25 h
              refine lv_iload hx hb dX11_shift_66 (lv_at hl 5 rfl) ?_
              refine lv_if_lt (tgt := 107) hx hb dX11_shift_68 (by decide) (fun c26 => ?_) (fun c26 => ?_)
              · replace h := it_t c26 h
                refine lv_bipush (v := (-13)) hx hb dX11_shift_107 (by decide) ?_
                exact re_i' hC hr hP hS (pr_1 h) (congrArg (fun Z : Mm => (Cm, Z)) (pr_2 h)) dX11_shift_109
              · replace h := it_f c26 h
                refine lv_iload_n hx hb dX11_shift_71 rfl (lv_at hl 2 rfl) ?_
                refine lv_if_lt (tgt := 107) hx hb dX11_shift_72 (by decide) (fun c27 => ?_) (fun c27 => ?_)
                · replace h := it_t c27 h
                  refine lv_bipush (v := (-13)) hx hb dX11_shift_107 (by decide) ?_
                  exact re_i' hC hr hP hS (pr_1 h) (congrArg (fun Z : Mm => (Cm, Z)) (pr_2 h)) dX11_shift_109
                · replace h := it_f c27 h
                  refine lv_iload hx hb dX11_shift_75 (lv_at hl 4 rfl) ?_
                  refine lv_if_lt (tgt := 107) hx hb dX11_shift_77 (by decide) (fun c28 => ?_) (fun c28 => ?_)
                  · replace h := it_t c28 h
                    refine lv_bipush (v := (-13)) hx hb dX11_shift_107 (by decide) ?_
                    exact re_i' hC hr hP hS (pr_1 h) (congrArg (fun Z : Mm => (Cm, Z)) (pr_2 h)) dX11_shift_109
                  · replace h := it_f c28 h
                    refine lv_iload_n hx hb dX11_shift_80 rfl (lv_at hl 2 rfl) ?_
                    refine lv_aload_n hx hb dX11_shift_81 rfl (lv_at hl 0 rfl) ?_
                    refine r_get (v := .ref (gA G 100)) hC inX11 hP (e_72 G _) rfl 52 (by decide) rfl k1102 rfl dX11_shift_82 ?_
                    refine lv_iload_n hx hb dX11_shift_85 rfl (lv_at hl 1 rfl) ?_
                    by_cases c29 : p1 < (0 : Int32) ∨ 6 ≤ Int32.toNatClampNeg p1
                    · cases it_t c29 h
                    replace h := it_f c29 h
                    refine r_iald hC hP (f := C.1 100) (e_100 G _) c29 dX11_shift_86 ?_
                    refine lv_iload hx hb dX11_shift_87 (lv_at hl 5 rfl) ?_
                    refine lv_isub hx hb dX11_shift_89 ?_
                    refine lv_icmp_gt (tgt := 107) hx hb dX11_shift_90 (by decide) (fun c30 => ?_) (fun c30 => ?_)
                    · replace h := it_t c30 h
                      refine lv_bipush (v := (-13)) hx hb dX11_shift_107 (by decide) ?_
                      exact re_i' hC hr hP hS (pr_1 h) (congrArg (fun Z : Mm => (Cm, Z)) (pr_2 h)) dX11_shift_109
                    · replace h := it_f c30 h
                      refine lv_iload hx hb dX11_shift_93 (lv_at hl 4 rfl) ?_
                      refine lv_aload_n hx hb dX11_shift_95 rfl (lv_at hl 0 rfl) ?_
                      refine r_get (v := .ref (gA G 100)) hC inX11 hP (e_72 G _) rfl 52 (by decide) rfl k1102 rfl dX11_shift_96 ?_
                      refine lv_iload_n hx hb dX11_shift_99 rfl (lv_at hl 3 rfl) ?_
                      by_cases c31 : p3 < (0 : Int32) ∨ 6 ≤ Int32.toNatClampNeg p3
                      · cases it_t c31 h
                      replace h := it_f c31 h
                      refine r_iald hC hP (f := C.1 100) (e_100 G _) c31 dX11_shift_100 ?_
                      refine lv_iload hx hb dX11_shift_101 (lv_at hl 5 rfl) ?_
                      refine lv_isub hx hb dX11_shift_103 ?_
                      refine lv_icmp_le (tgt := 110) hx hb dX11_shift_104 (by decide) (fun c32 => ?_) (fun c32 => ?_)
                      · replace h := it_t c32 h
                        refine lv_iconst (v := 0) hx hb dX11_shift_110 (by decide) ?_
                        refine lv_istore (lv' := [(6, .int 0), (0, .ref (gA G 72)), (1, .int p1), (2, .int p2), (3, .int p3), (4, .int p4), (5, .int p5)]) hx hb dX11_shift_111 hl (by decide) rfl (fun ls hl => ?_)
                        exact bl113 n p1 p2 p3 p4 p5 0 C _ _ _ h (lv_sub hl [1, 2, 3, 4, 5, 6, 0] rfl) hP hS
                      · replace h := it_f c32 h
                        refine lv_bipush (v := (-13)) hx hb dX11_shift_107 (by decide) ?_
                        exact re_i' hC hr hP hS (pr_1 h) (congrArg (fun Z : Mm => (Cm, Z)) (pr_2 h)) dX11_shift_109
            · replace h := it_f c25 h
              refine lv_bipush (v := (-12)) hx hb dX11_shift_63 (by decide) ?_
              exact re_i' hC hr hP hS (pr_1 h) (congrArg (fun Z : Mm => (Cm, Z)) (pr_2 h)) dX11_shift_65
        · replace h := it_f c20 h
          refine lv_bipush (v := (-11)) hx hb dX11_shift_34 (by decide) ?_
          exact re_i' hC hr hP hS (pr_1 h) (congrArg (fun Z : Mm => (Cm, Z)) (pr_2 h)) dX11_shift_36
    · replace h := it_t c16 h
      refine lv_iconst (v := (-1)) hx hb dX11_shift_14 (by decide) ?_
      exact re_i' hC hr hP hS (pr_1 h) (congrArg (fun Z : Mm => (Cm, Z)) (pr_2 h)) dX11_shift_15
set_option maxHeartbeats 4000000 in
set_option maxRecDepth 100000 in
theorem mX11_taken (l : Launch) (G : gp) (Cm : Mm) {n : Nat} {p1 : Int32} {p2 : Int32} {C : Mm} {r0 : Int32} (h : fX11_taken n p1 p2 C = some r0) : Met l yX11_taken (wsy yX11_taken cX11_taken 4 (some .int)) (rmv 2 45) (va_Pc [.ref (gA G 72), .int p1, .int p2] (Rl G (Cm, C))) (Qi G PT r0 (Cm, C)) 0 0 (lwA G) := by
  refine met_i [.ref (gA G 72), .int p1, .int p2] wX11_taken.2.2.2.2.2 (Nat.le_of_ble_eq_true rfl) ?_
  intro p e s m args below meth c ls hC hr hP hl
  have hC : Cx G p s m args meth c cX11_taken RX11 4 := hC
  have hx := hC.1
  have hb := hC.2.1
  have hown := hC.2.2.2.1
  have hts := hC.2.2.2.2.1
  have hS : va_S (lwA G) s.heap s.heap [] := va_S.rf
  have hl : lv_has ls 4 [(0, .ref (gA G 72)), (1, .int p1), (2, .int p2)] := hl
  have bl75 : ∀ (y1 : Int32) (y2 : Int32) (y3 : Int32) (C : Mm) (H : Heap) (locs : List Loc) (ls : Array Slot), fX11_taken_b75 n y1 y2 y3 C = some r0 → lv_has ls 4 [(0, .ref (gA G 72)), (1, .int y1), (2, .int y2), (3, .int y3)] → va_P (gD G) vwCl (wld G (Cm, C)) H → va_S (lwA G) s.heap H locs → W p l e (rmv 2 45) s m args below meth c H locs 0 0 (MQ below (Qi G PT r0 (Cm, C)) args s 0 0 (lwA G)) (F0 m 75 ls []) := by
    intro y1 y2 y3 C H locs ls h hl hP hS
    unfold fX11_taken_b75 at h
    refine lv_iload_n hx hb dX11_taken_75 rfl (lv_at hl 3 rfl) ?_
    refine lv_iload_n hx hb dX11_taken_76 rfl (lv_at hl 2 rfl) ?_
    refine lv_icmp_ne (tgt := 93) hx hb dX11_taken_77 (by decide) (fun c1 => ?_) (fun c1 => ?_)
    · replace h := it_f c1 h
      refine lv_bipush (v := (-12)) hx hb dX11_taken_93 (by decide) ?_
      exact re_i' hC hr hP hS (Option.some.inj h) rfl dX11_taken_95
    · replace h := it_t c1 h
      refine lv_aload_n hx hb dX11_taken_80 rfl (lv_at hl 0 rfl) ?_
      refine lv_aload_n hx hb dX11_taken_81 rfl (lv_at hl 0 rfl) ?_
      refine r_get (v := .ref (gA G 99)) hC inX11 hP (e_72 G _) rfl 51 (by decide) rfl k1101 rfl dX11_taken_82 ?_
      refine lv_iload_n hx hb dX11_taken_85 rfl (lv_at hl 1 rfl) ?_
      by_cases c2 : y1 < (0 : Int32) ∨ 6 ≤ Int32.toNatClampNeg y1
      · cases it_t c2 h
      replace h := it_f c2 h
      refine r_iald hC hP (f := C.1 99) (e_99 G _) c2 dX11_taken_86 ?_
      obtain ⟨r4, hq3, h⟩ := bn_x h
      refine rc_i hS (run_V hC wX11_kindOf k1650 (e_72 G _) rfl hP hS (As := [.int (C.1 99 (Int32.toNatClampNeg y1))]) (rest := []) (mX11_kindOf l G Cm hq3) rfl hl.1 (Nat.le_of_ble_eq_true rfl) ⟨by decide, by decide⟩ ⟨Nat.le_refl _, Nat.le_refl _⟩ rfl dX11_taken_87) (fun H locs pb5 hP hS => ?_)
      refine lv_goto (tgt := 95) hx hb dX11_taken_90 (by decide) ?_
      exact re_i' hC hr hP hS (Option.some.inj h) rfl dX11_taken_95
  have bl58 : ∀ (fu : Nat), ∀ (y1 : Int32) (y2 : Int32) (y3 : Int32) (C : Mm) (H : Heap) (locs : List Loc) (ls : Array Slot), fX11_taken_h58 n fu y1 y2 y3 C = some r0 → lv_has ls 4 [(0, .ref (gA G 72)), (1, .int y1), (2, .int y2), (3, .int y3)] → va_P (gD G) vwCl (wld G (Cm, C)) H → va_S (lwA G) s.heap H locs → W p l e (rmv 2 45) s m args below meth c H locs 0 0 (MQ below (Qi G PT r0 (Cm, C)) args s 0 0 (lwA G)) (F0 m 58 ls []) := by
    intro fu
    induction fu with
    | zero =>
      intro y1 y2 y3 C H locs ls h hl hP hS
      rw [fX11_taken_h58.eq_1] at h
      cases h
    | succ fu ih =>
      intro y1 y2 y3 C H locs ls h hl hP hS
      rw [fX11_taken_h58.eq_2] at h
      refine lv_iload_n hx hb dX11_taken_58 rfl (lv_at hl 3 rfl) ?_
      refine lv_iload_n hx hb dX11_taken_59 rfl (lv_at hl 2 rfl) ?_
      refine lv_icmp_eq (tgt := 75) hx hb dX11_taken_60 (by decide) (fun c6 => ?_) (fun c6 => ?_)
      · replace h := it_t c6 h
        exact bl75 y1 y2 y3 C _ _ _ h (lv_sub hl [0, 1, 2, 3] rfl) hP hS
      · replace h := it_f c6 h
        refine lv_iload_n hx hb dX11_taken_63 rfl (lv_at hl 3 rfl) ?_
        refine lv_if_le (tgt := 75) hx hb dX11_taken_64 (by decide) (fun c7 => ?_) (fun c7 => ?_)
        · replace h := it_t c7 h
          exact bl75 y1 y2 y3 C _ _ _ h (lv_sub hl [0, 1, 2, 3] rfl) hP hS
        · replace h := it_f c7 h
          refine lv_iload_n hx hb dX11_taken_67 rfl (lv_at hl 3 rfl) ?_
          refine rc_i hS (run_S hC wX11_above k1654 hP hS (As := [.int y3]) (rest := []) (mX11_above l G Cm rfl) rfl hl.1 (Nat.le_of_ble_eq_true rfl) ⟨by decide, by decide⟩ ⟨Nat.le_refl _, Nat.le_refl _⟩ rfl dX11_taken_68) (fun H locs pb9 hP hS => ?_)
          refine lv_topi (fun x10 ex10 => ?_)
          replace h := lt_y ex10 h
          refine lv_istore_n (lv' := [(3, .int x10), (0, .ref (gA G 72)), (1, .int y1), (2, .int y2)]) hx hb dX11_taken_71 rfl hl (by decide) rfl (fun ls hl => ?_)
          refine lv_goto (tgt := 58) hx hb dX11_taken_72 (by decide) ?_
          exact ih y1 y2 x10 C _ _ _ h (lv_sub hl [1, 2, 3, 0] rfl) hP hS
  unfold fX11_taken at h
  refine lv_iload_n hx hb dX11_taken_0 rfl (lv_at hl 1 rfl) ?_
  refine rc_i hS (run_S hC wX11_isShelf k1449 hP hS (As := [.int p1]) (rest := []) (mX11_isShelf l G Cm rfl) rfl hl.1 (Nat.le_of_ble_eq_true rfl) ⟨by decide, by decide⟩ ⟨Nat.le_refl _, Nat.le_refl _⟩ rfl dX11_taken_1) (fun H locs pb12 hP hS => ?_)
  refine lv_if_eq (tgt := 19) hx hb dX11_taken_4 (by decide) (fun c13 => ?_) (fun c13 => ?_)
  · replace h := it_t c13 h
    refine lv_iconst (v := (-1)) hx hb dX11_taken_19 (by decide) ?_
    exact re_i' hC hr hP hS (Option.some.inj h) rfl dX11_taken_20
  · replace h := it_f c13 h
    refine lv_iload_n hx hb dX11_taken_7 rfl (lv_at hl 2 rfl) ?_
    refine lv_i2l hx hb dX11_taken_8 rfl ?_
    refine lv_lconst (v := 0) hx hb dX11_taken_9 (by decide) ?_
    refine lv_ldc2 hx hb (v := 7) hown (hts _ k1585) dX11_taken_10 ?_
    refine rc_i hS (run_S hC wX11_within k1229 hP hS (As := [.long (Int32.toInt64 p2), .long 0, .long 7]) (rest := []) (mX11_within l G Cm rfl) rfl hl.1 (Nat.le_of_ble_eq_true rfl) ⟨by decide, by decide⟩ ⟨Nat.le_refl _, Nat.le_refl _⟩ rfl dX11_taken_13) (fun H locs pb15 hP hS => ?_)
    refine lv_if_ne (tgt := 21) hx hb dX11_taken_16 (by decide) (fun c16 => ?_) (fun c16 => ?_)
    · replace h := it_f c16 h
      refine lv_aload_n hx hb dX11_taken_21 rfl (lv_at hl 0 rfl) ?_
      refine r_get (v := .ref (gA G 99)) hC inX11 hP (e_72 G _) rfl 51 (by decide) rfl k1101 rfl dX11_taken_22 ?_
      refine lv_iload_n hx hb dX11_taken_25 rfl (lv_at hl 1 rfl) ?_
      by_cases c17 : p1 < (0 : Int32) ∨ 6 ≤ Int32.toNatClampNeg p1
      · cases it_t c17 h
      replace h := it_f c17 h
      refine r_iald hC hP (f := C.1 99) (e_99 G _) c17 dX11_taken_26 ?_
      refine lv_if_ge (tgt := 33) hx hb dX11_taken_27 (by decide) (fun c18 => ?_) (fun c18 => ?_)
      · replace h := it_t c18 h
        refine lv_aload_n hx hb dX11_taken_33 rfl (lv_at hl 0 rfl) ?_
        refine r_get (v := .ref (gA G 99)) hC inX11 hP (e_72 G _) rfl 51 (by decide) rfl k1101 rfl dX11_taken_34 ?_
        refine lv_iload_n hx hb dX11_taken_37 rfl (lv_at hl 1 rfl) ?_
        by_cases c19 : p1 < (0 : Int32) ∨ 6 ≤ Int32.toNatClampNeg p1
        · cases it_t c19 h
        replace h := it_f c19 h
        refine r_iald hC hP (f := C.1 99) (e_99 G _) c19 dX11_taken_38 ?_
        refine lv_bipush (v := 50) hx hb dX11_taken_39 (by decide) ?_
        refine lv_icmp_lt (tgt := 47) hx hb dX11_taken_41 (by decide) (fun c20 => ?_) (fun c20 => ?_)
        · replace h := it_t c20 h
          refine lv_aload_n hx hb dX11_taken_47 rfl (lv_at hl 0 rfl) ?_
          refine lv_aload_n hx hb dX11_taken_48 rfl (lv_at hl 0 rfl) ?_
          refine r_get (v := .ref (gA G 99)) hC inX11 hP (e_72 G _) rfl 51 (by decide) rfl k1101 rfl dX11_taken_49 ?_
          refine lv_iload_n hx hb dX11_taken_52 rfl (lv_at hl 1 rfl) ?_
          by_cases c21 : p1 < (0 : Int32) ∨ 6 ≤ Int32.toNatClampNeg p1
          · cases it_t c21 h
          replace h := it_f c21 h
          refine r_iald hC hP (f := C.1 99) (e_99 G _) c21 dX11_taken_53 ?_
          obtain ⟨r23, hq22, h⟩ := bn_x h
          refine rc_i hS (run_V hC wX11_kindOf k1650 (e_72 G _) rfl hP hS (As := [.int (C.1 99 (Int32.toNatClampNeg p1))]) (rest := []) (mX11_kindOf l G Cm hq22) rfl hl.1 (Nat.le_of_ble_eq_true rfl) ⟨by decide, by decide⟩ ⟨Nat.le_refl _, Nat.le_refl _⟩ rfl dX11_taken_54) (fun H locs pb24 hP hS => ?_)
          refine lv_istore_n (lv' := [(3, .int r23), (0, .ref (gA G 72)), (1, .int p1), (2, .int p2)]) hx hb dX11_taken_57 rfl hl (by decide) rfl (fun ls hl => ?_)
          exact bl58 n p1 p2 r23 C _ _ _ h (lv_sub hl [1, 2, 3, 0] rfl) hP hS
        · replace h := it_f c20 h
          refine lv_bipush (v := (-12)) hx hb dX11_taken_44 (by decide) ?_
          exact re_i' hC hr hP hS (Option.some.inj h) rfl dX11_taken_46
      · replace h := it_f c18 h
        refine lv_bipush (v := (-11)) hx hb dX11_taken_30 (by decide) ?_
        exact re_i' hC hr hP hS (Option.some.inj h) rfl dX11_taken_32
    · replace h := it_t c16 h
      refine lv_iconst (v := (-1)) hx hb dX11_taken_19 (by decide) ?_
      exact re_i' hC hr hP hS (Option.some.inj h) rfl dX11_taken_20
set_option maxHeartbeats 4000000 in
set_option maxRecDepth 100000 in
theorem mX11_count (l : Launch) (G : gp) (Cm : Mm) {p1 : Int32} {C : Mm} {r0 : Int32} (h : fX11_count p1 C = r0) : Met l yX11_count (wsy yX11_count cX11_count 2 (some .int)) (rmv 0 0) (va_Pc [.ref (gA G 72), .int p1] (Rl G (Cm, C))) (Qi G PT r0 (Cm, C)) 0 0 (lwA G) := by
  refine met_i [.ref (gA G 72), .int p1] wX11_count.2.2.2.2.2 (Nat.le_of_ble_eq_true rfl) ?_
  intro p e s m args below meth c ls hC hr hP hl
  have hC : Cx G p s m args meth c cX11_count RX11 2 := hC
  have hx := hC.1
  have hb := hC.2.1
  have hown := hC.2.2.2.1
  have hts := hC.2.2.2.2.1
  have hS : va_S (lwA G) s.heap s.heap [] := va_S.rf
  have hl : lv_has ls 2 [(0, .ref (gA G 72)), (1, .int p1)] := hl
  unfold fX11_count at h
  refine lv_iload_n hx hb dX11_count_0 rfl (lv_at hl 1 rfl) ?_
  by_cases c1 : p1 = 0
  · replace h := it_t c1 h
    refine lv_tableIn (off := 43) (tgt := 44) hx hb dX11_count_1 (by rw [c1]; decide) (by rw [c1]; decide) (by rw [c1]; rfl) (by decide) ?_
    refine lv_aload_n hx hb dX11_count_44 rfl (lv_at hl 0 rfl) ?_
    refine r_get (v := .int (C.1 72 16)) hC inX11 hP (e_72 G _) rfl 16 (by decide) rfl k1066 rfl dX11_count_45 ?_
    exact re_i' hC hr hP hS h rfl dX11_count_48
  replace h := it_f c1 h
  by_cases c2 : p1 = 1
  · replace h := it_t c2 h
    refine lv_tableIn (off := 48) (tgt := 49) hx hb dX11_count_1 (by rw [c2]; decide) (by rw [c2]; decide) (by rw [c2]; rfl) (by decide) ?_
    refine lv_aload_n hx hb dX11_count_49 rfl (lv_at hl 0 rfl) ?_
    refine r_get (v := .int (C.1 72 33)) hC inX11 hP (e_72 G _) rfl 33 (by decide) rfl k1083 rfl dX11_count_50 ?_
    exact re_i' hC hr hP hS h rfl dX11_count_53
  replace h := it_f c2 h
  by_cases c3 : p1 = 2
  · replace h := it_t c3 h
    refine lv_tableIn (off := 53) (tgt := 54) hx hb dX11_count_1 (by rw [c3]; decide) (by rw [c3]; decide) (by rw [c3]; rfl) (by decide) ?_
    refine lv_aload_n hx hb dX11_count_54 rfl (lv_at hl 0 rfl) ?_
    refine r_get (v := .int (C.1 72 7)) hC inX11 hP (e_72 G _) rfl 7 (by decide) rfl k1057 rfl dX11_count_55 ?_
    exact re_i' hC hr hP hS h rfl dX11_count_58
  replace h := it_f c3 h
  by_cases c4 : p1 = 3
  · replace h := it_t c4 h
    refine lv_tableIn (off := 58) (tgt := 59) hx hb dX11_count_1 (by rw [c4]; decide) (by rw [c4]; decide) (by rw [c4]; rfl) (by decide) ?_
    refine lv_aload_n hx hb dX11_count_59 rfl (lv_at hl 0 rfl) ?_
    refine r_get (v := .int (C.1 72 37)) hC inX11 hP (e_72 G _) rfl 37 (by decide) rfl k1087 rfl dX11_count_60 ?_
    exact re_i' hC hr hP hS h rfl dX11_count_63
  replace h := it_f c4 h
  by_cases c5 : p1 = 4
  · replace h := it_t c5 h
    refine lv_tableIn (off := 63) (tgt := 64) hx hb dX11_count_1 (by rw [c5]; decide) (by rw [c5]; decide) (by rw [c5]; rfl) (by decide) ?_
    refine lv_aload_n hx hb dX11_count_64 rfl (lv_at hl 0 rfl) ?_
    refine r_get (v := .int (C.1 72 5)) hC inX11 hP (e_72 G _) rfl 5 (by decide) rfl k1055 rfl dX11_count_65 ?_
    exact re_i' hC hr hP hS h rfl dX11_count_68
  replace h := it_f c5 h
  by_cases c6 : p1 = 5
  · replace h := it_t c6 h
    refine lv_tableIn (off := 68) (tgt := 69) hx hb dX11_count_1 (by rw [c6]; decide) (by rw [c6]; decide) (by rw [c6]; rfl) (by decide) ?_
    refine lv_aload_n hx hb dX11_count_69 rfl (lv_at hl 0 rfl) ?_
    refine r_get (v := .int (C.1 72 45)) hC inX11 hP (e_72 G _) rfl 45 (by decide) rfl k1095 rfl dX11_count_70 ?_
    exact re_i' hC hr hP hS h rfl dX11_count_73
  replace h := it_f c6 h
  by_cases c7 : p1 = 6
  · replace h := it_t c7 h
    refine lv_tableIn (off := 73) (tgt := 74) hx hb dX11_count_1 (by rw [c7]; decide) (by rw [c7]; decide) (by rw [c7]; rfl) (by decide) ?_
    refine lv_aload_n hx hb dX11_count_74 rfl (lv_at hl 0 rfl) ?_
    refine r_get (v := .int (C.1 72 48)) hC inX11 hP (e_72 G _) rfl 48 (by decide) rfl k1098 rfl dX11_count_75 ?_
    exact re_i' hC hr hP hS h rfl dX11_count_78
  replace h := it_f c7 h
  refine lv_tsD (tgt := 79) hx hb dX11_count_1 rfl (ex_c (ti_ne (z := 0) rfl c1) (ex_c (ti_ne (z := 1) rfl c2) (ex_c (ti_ne (z := 2) rfl c3) (ex_c (ti_ne (z := 3) rfl c4) (ex_c (ti_ne (z := 4) rfl c5) (ex_c (ti_ne (z := 5) rfl c6) (ex_c (ti_ne (z := 6) rfl c7) ex_0))))))) (by decide) (by decide) ?_
  refine lv_iconst (v := (-1)) hx hb dX11_count_79 (by decide) ?_
  exact re_i' hC hr hP hS h rfl dX11_count_80
