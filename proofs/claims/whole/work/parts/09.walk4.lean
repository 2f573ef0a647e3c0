set_option maxHeartbeats 4000000 in
set_option maxRecDepth 100000 in
theorem mX10_feed (l : Launch) (G : gp) (Rm : Mm) {n : Nat} {p1 : Int32} {p2 : Int32} {C : Mm} {r0 : Int32} {C0 : Mm} (h : fX10_feed n p1 p2 C = some (r0, C0)) : Met l yX10_feed (wsy yX10_feed cX10_feed 3 (some .int)) (rmv 1 23) (va_Pc [.ref (gA G 0), .int p1, .int p2] (Rl G (C, Rm))) (Qi G PT r0 (C0, Rm)) 0 0 (lwA G) := by
  refine met_i [.ref (gA G 0), .int p1, .int p2] wX10_feed.2.2.2.2.2 (Nat.le_of_ble_eq_true rfl) ?_
  intro p e s m args below meth c ls hC hr hP hl
  have hC : Cx G p s m args meth c cX10_feed RX10 3 := hC
  have hx := hC.1
  have hb := hC.2.1
  have hown := hC.2.2.2.1
  have hts := hC.2.2.2.2.1
  have hS : va_S (lwA G) s.heap s.heap [] := va_S.rf
  have hl : lv_has ls 3 [(0, .ref (gA G 0)), (1, .int p1), (2, .int p2)] := hl
  unfold fX10_feed at h
  refine lv_iload_n hx hb dX10_feed_0 rfl (lv_at hl 1 rfl) ?_
  refine lv_iconst (v := 1) hx hb dX10_feed_1 (by decide) ?_
  refine lv_icmp_lt (tgt := 10) hx hb dX10_feed_2 (by decide) (fun c1 => ?_) (fun c1 => ?_)
  · replace h := it_t c1 h
    refine lv_iconst (v := (-1)) hx hb dX10_feed_10 (by decide) ?_
    exact re_i' hC hr hP hS (pr_1 h) (congrArg (fun Z : Mm => (Z, Rm)) (pr_2 h)) dX10_feed_11
  · replace h := it_f c1 h
    refine lv_iload_n hx hb dX10_feed_5 rfl (lv_at hl 1 rfl) ?_
    refine lv_iconst (v := 4) hx hb dX10_feed_6 (by decide) ?_
    refine lv_icmp_le (tgt := 12) hx hb dX10_feed_7 (by decide) (fun c2 => ?_) (fun c2 => ?_)
    · replace h := it_t c2 h
      refine lv_aload_n hx hb dX10_feed_12 rfl (lv_at hl 0 rfl) ?_
      refine r_get (v := .ref (gA G 1)) hC inX10 hP (e_0 G _) rfl 0 (by decide) rfl k232 rfl dX10_feed_13 ?_
      refine lv_iload_n hx hb dX10_feed_16 rfl (lv_at hl 1 rfl) ?_
      refine lv_iload_n hx hb dX10_feed_17 rfl (lv_at hl 2 rfl) ?_
      obtain ⟨r4, C5, hq3, h⟩ := bp_x h
      refine rc_i hS (run_V hC wX9_takes k282 (e_1 G _) rfl hP hS (As := [.int p1, .int p2]) (rest := []) (mX9_takes l G Rm hq3) rfl hl.1 (Nat.le_of_ble_eq_true rfl) ⟨by decide, by decide⟩ ⟨Nat.le_refl _, Nat.le_refl _⟩ rfl dX10_feed_18) (fun H locs pb6 hP hS => ?_)
      refine lv_if_eq (tgt := 34) hx hb dX10_feed_21 (by decide) (fun c7 => ?_) (fun c7 => ?_)
      · replace h := it_t c7 h
        refine lv_bipush (v := (-3)) hx hb dX10_feed_34 (by decide) ?_
        exact re_i' hC hr hP hS (pr_1 h) (congrArg (fun Z : Mm => (Z, Rm)) (pr_2 h)) dX10_feed_36
      · replace h := it_f c7 h
        refine lv_aload_n hx hb dX10_feed_24 rfl (lv_at hl 0 rfl) ?_
        refine r_get (v := .ref (gA G 1)) hC inX10 hP (e_0 G _) rfl 0 (by decide) rfl k232 rfl dX10_feed_25 ?_
        refine rc_i hS (run_V hC wX9_length k286 (e_1 G _) rfl hP hS (As := []) (rest := []) (mX9_length l G Rm rfl) rfl hl.1 (Nat.le_of_ble_eq_true rfl) ⟨by decide, by decide⟩ ⟨Nat.le_refl _, Nat.le_refl _⟩ rfl dX10_feed_28) (fun H locs pb9 hP hS => ?_)
        refine lv_goto (tgt := 36) hx hb dX10_feed_31 (by decide) ?_
        exact re_i' hC hr hP hS (pr_1 h) (congrArg (fun Z : Mm => (Z, Rm)) (pr_2 h)) dX10_feed_36
    · replace h := it_f c2 h
      refine lv_iconst (v := (-1)) hx hb dX10_feed_10 (by decide) ?_
      exact re_i' hC hr hP hS (pr_1 h) (congrArg (fun Z : Mm => (Z, Rm)) (pr_2 h)) dX10_feed_11
set_option maxHeartbeats 4000000 in
set_option maxRecDepth 100000 in
theorem mX10_head (l : Launch) (G : gp) (Rm : Mm) {n : Nat} {C : Mm} {r0 : Int32} {C0 : Mm} (h : fX10_head n C = some (r0, C0)) : Met l yX10_head (wsy yX10_head cX10_head 2 (some .int)) (rmv 3 70) (va_Pc [.ref (gA G 0)] (Rl G (C, Rm))) (Qi G PT r0 (C0, Rm)) 0 0 (lwA G) := by
  refine met_i [.ref (gA G 0)] wX10_head.2.2.2.2.2 (Nat.le_of_ble_eq_true rfl) ?_
  intro p e s m args below meth c ls hC hr hP hl
  have hC : Cx G p s m args meth c cX10_head RX10 2 := hC
  have hx := hC.1
  have hb := hC.2.1
  have hown := hC.2.2.2.1
  have hts := hC.2.2.2.2.1
  have hS : va_S (lwA G) s.heap s.heap [] := va_S.rf
  have hl : lv_has ls 2 [(0, .ref (gA G 0))] := hl
  unfold fX10_head at h
  refine lv_aload_n hx hb dX10_head_0 rfl (lv_at hl 0 rfl) ?_
  refine r_get (v := .int (C.1 0 2)) hC inX10 hP (e_0 G _) rfl 2 (by decide) rfl k234 rfl dX10_head_1 ?_
  refine lv_bipush (v := 6) hx hb dX10_head_4 (by decide) ?_
  refine lv_icmp_lt (tgt := 12) hx hb dX10_head_6 (by decide) (fun c1 => ?_) (fun c1 => ?_)
  · replace h := it_t c1 h
    refine lv_aload_n hx hb dX10_head_12 rfl (lv_at hl 0 rfl) ?_
    refine r_get (v := .ref (gA G (hdc 6))) hC inX10 hP (e_0 G _) rfl 3 (by decide) rfl k235 rfl dX10_head_13 ?_
    refine lv_aload_n hx hb dX10_head_16 rfl (lv_at hl 0 rfl) ?_
    refine r_get (v := .ref (gA G 1)) hC inX10 hP (e_0 G _) rfl 0 (by decide) rfl k232 rfl dX10_head_17 ?_
    obtain ⟨r3, C4, hq2, h⟩ := bp_x h
    refine rc_i hS (run_V hC wX5_read k294 (e_hc G _ (show 6 < 7 by decide)) rfl hP hS (As := [.ref (gA G 1)]) (rest := []) (mX5_read l G Rm (show 6 < 7 by decide) hq2) rfl hl.1 (Nat.le_of_ble_eq_true rfl) ⟨by decide, by decide⟩ ⟨Nat.le_refl _, Nat.le_refl _⟩ rfl dX10_head_20) (fun H locs pb5 hP hS => ?_)
    refine lv_istore_n (lv' := [(1, .int r3), (0, .ref (gA G 0))]) hx hb dX10_head_23 rfl hl (by decide) rfl (fun ls hl => ?_)
    refine lv_aload_n hx hb dX10_head_24 rfl (lv_at hl 1 rfl) ?_
    refine r_get (v := .ref (gA G 1)) hC inX10 hP (e_0 G _) rfl 0 (by decide) rfl k232 rfl dX10_head_25 ?_
    obtain ⟨C7, hq6⟩ : ∃ Z : Mm, fX9_clear C4 = Z := ⟨_, rfl⟩
    replace h := lt_y hq6.symm h
    refine rc_v hS (run_V hC wX9_clear k321 (e_1 G _) rfl hP hS (As := []) (rest := []) (mX9_clear l G Rm hq6) rfl hl.1 (Nat.le_of_ble_eq_true rfl) ⟨by decide, by decide⟩ ⟨Nat.le_refl _, Nat.le_refl _⟩ rfl dX10_head_28) (fun H locs hP hS => ?_)
    refine lv_iload_n hx hb dX10_head_31 rfl (lv_at hl 0 rfl) ?_
    refine lv_if_lt (tgt := 40) hx hb dX10_head_32 (by decide) (fun c8 => ?_) (fun c8 => ?_)
    · replace h := it_t c8 h
      refine lv_aload_n hx hb dX10_head_40 rfl (lv_at hl 1 rfl) ?_
      refine r_get (v := .ref (gA G 3)) hC inX10 hP (e_0 G _) rfl 1 (by decide) rfl k233 rfl dX10_head_41 ?_
      refine lv_aload_n hx hb dX10_head_44 rfl (lv_at hl 1 rfl) ?_
      refine r_get (v := .int (C7.1 0 2)) hC inX10 hP (e_0 G _) rfl 2 (by decide) rfl k234 rfl dX10_head_45 ?_
      by_cases c9 : (C7.1 0 2) < (0 : Int32) ∨ 6 ≤ Int32.toNatClampNeg (C7.1 0 2)
      · cases it_t c9 h
      replace h := it_f c9 h
      refine r_hd hC hP c9 dX10_head_48 (fun hj10 => ?_)
      refine lv_aload_n hx hb dX10_head_49 rfl (lv_at hl 1 rfl) ?_
      refine r_get (v := .ref (gA G (hdc 6))) hC inX10 hP (e_0 G _) rfl 3 (by decide) rfl k235 rfl dX10_head_50 ?_
      obtain ⟨C12, hq11, h⟩ := bn_x h
      refine rc_v hS (run_V hC wX5_become k325 (e_hc G _ (Nat.lt_trans hj10 (by decide))) rfl hP hS (As := [.ref (gA G (hdc 6))]) (rest := []) (mX5_become l G Rm (Nat.lt_trans hj10 (by decide)) (show 6 < 7 by decide) hq11) rfl hl.1 (Nat.le_of_ble_eq_true rfl) ⟨by decide, by decide⟩ ⟨Nat.le_refl _, Nat.le_refl _⟩ rfl dX10_head_53) (fun H locs hP hS => ?_)
      refine lv_aload_n hx hb dX10_head_56 rfl (lv_at hl 1 rfl) ?_
      refine lv_dup hx hb dX10_head_57 rfl ?_
      refine r_get (v := .int (C12.1 0 2)) hC inX10 hP (e_0 G _) rfl 2 (by decide) rfl k234 rfl dX10_head_58 ?_
      refine lv_iconst (v := 1) hx hb dX10_head_61 (by decide) ?_
      refine lv_iadd hx hb dX10_head_62 ?_
      obtain ⟨C13, eC13⟩ : ∃ Z : Mm, Z = wrI C12 0 2 ((C12.1 0 2) + 1) := ⟨_, rfl⟩
      replace h := lt_y eC13 h
      refine r_put (X' := (C13, Rm)) hC inX10 tyX10 tyX10_ok nmX10 hP hS (e_0 G _) rfl 2 (by decide) rfl k234 rfl (v := .int ((C12.1 0 2) + 1)) rfl rfl (Nat.le_of_ble_eq_true rfl) (p_0_2 G _ _ eC13) dX10_head_63 (fun H locs hP hS => ?_)
      refine lv_aload_n hx hb dX10_head_66 rfl (lv_at hl 1 rfl) ?_
      refine r_get (v := .int (C13.1 0 2)) hC inX10 hP (e_0 G _) rfl 2 (by decide) rfl k234 rfl dX10_head_67 ?_
      refine lv_iconst (v := 1) hx hb dX10_head_70 (by decide) ?_
      refine lv_isub hx hb dX10_head_71 ?_
      exact re_i' hC hr hP hS (pr_1 h) (congrArg (fun Z : Mm => (Z, Rm)) (pr_2 h)) dX10_head_72
    · replace h := it_f c8 h
      refine lv_bipush (v := (-100)) hx hb dX10_head_35 (by decide) ?_
      refine lv_iload_n hx hb dX10_head_37 rfl (lv_at hl 0 rfl) ?_
      refine lv_isub hx hb dX10_head_38 ?_
      exact re_i' hC hr hP hS (pr_1 h) (congrArg (fun Z : Mm => (Z, Rm)) (pr_2 h)) dX10_head_39
  · replace h := it_f c1 h
    refine lv_bipush (v := (-3)) hx hb dX10_head_9 (by decide) ?_
    exact re_i' hC hr hP hS (pr_1 h) (congrArg (fun Z : Mm => (Z, Rm)) (pr_2 h)) dX10_head_11
set_option maxHeartbeats 4000000 in
set_option maxRecDepth 100000 in
theorem mX10_isHead (l : Launch) (G : gp) (Rm : Mm) {p1 : Int32} {C : Mm} {r0 : Int32} (h : fX10_isHead p1 C = r0) : Met l yX10_isHead (wsy yX10_isHead cX10_isHead 2 (some .boolean)) (rmv 0 0) (va_Pc [.ref (gA G 0), .int p1] (Rl G (C, Rm))) (Qi G PZ r0 (C, Rm)) 0 0 (lwA G) := by
  refine met_i [.ref (gA G 0), .int p1] wX10_isHead.2.2.2.2.2 (Nat.le_of_ble_eq_true rfl) ?_
  intro p e s m args below meth c ls hC hr hP hl
  have hC : Cx G p s m args meth c cX10_isHead RX10 2 := hC
  have hx := hC.1
  have hb := hC.2.1
  have hown := hC.2.2.2.1
  have hts := hC.2.2.2.2.1
  have hS : va_S (lwA G) s.heap s.heap [] := va_S.rf
  have hl : lv_has ls 2 [(0, .ref (gA G 0)), (1, .int p1)] := hl
  unfold fX10_isHead at h
  refine lv_iload_n hx hb dX10_isHead_0 rfl (lv_at hl 1 rfl) ?_
  refine lv_if_lt (tgt := 16) hx hb dX10_isHead_1 (by decide) (fun c1 => ?_) (fun c1 => ?_)
  · replace h := it_t c1 h
    refine lv_iconst (v := 0) hx hb dX10_isHead_16 (by decide) ?_
    exact re_z' hC hr hP hS PZ0 h rfl dX10_isHead_17
  · replace h := it_f c1 h
    refine lv_iload_n hx hb dX10_isHead_4 rfl (lv_at hl 1 rfl) ?_
    refine lv_aload_n hx hb dX10_isHead_5 rfl (lv_at hl 0 rfl) ?_
    refine r_get (v := .int (C.1 0 2)) hC inX10 hP (e_0 G _) rfl 2 (by decide) rfl k234 rfl dX10_isHead_6 ?_
    refine lv_icmp_ge (tgt := 16) hx hb dX10_isHead_9 (by decide) (fun c2 => ?_) (fun c2 => ?_)
    · replace h := it_t c2 h
      refine lv_iconst (v := 0) hx hb dX10_isHead_16 (by decide) ?_
      exact re_z' hC hr hP hS PZ0 h rfl dX10_isHead_17
    · replace h := it_f c2 h
      refine lv_iconst (v := 1) hx hb dX10_isHead_12 (by decide) ?_
      refine lv_goto (tgt := 17) hx hb dX10_isHead_13 (by decide) ?_
      exact re_z' hC hr hP hS PZ1 h rfl dX10_isHead_17
set_option maxHeartbeats 4000000 in
set_option maxRecDepth 100000 in
theorem mX10_of (l : Launch) (G : gp) (Rm : Mm) {n : Nat} {p1 : Int32} {p2 : Int32} {C : Mm} {r0 : Int32} (h : fX10_of n p1 p2 C = some r0) : Met l yX10_of (wsy yX10_of cX10_of 3 (some .int)) (rmv 1 22) (va_Pc [.ref (gA G 0), .int p1, .int p2] (Rl G (C, Rm))) (Qi G PT r0 (C, Rm)) 0 0 (lwA G) := by
  refine met_i [.ref (gA G 0), .int p1, .int p2] wX10_of.2.2.2.2.2 (Nat.le_of_ble_eq_true rfl) ?_
  intro p e s m args below meth c ls hC hr hP hl
  have hC : Cx G p s m args meth c cX10_of RX10 3 := hC
  have hx := hC.1
  have hb := hC.2.1
  have hown := hC.2.2.2.1
  have hts := hC.2.2.2.2.1
  have hS : va_S (lwA G) s.heap s.heap [] := va_S.rf
  have hl : lv_has ls 3 [(0, .ref (gA G 0)), (1, .int p1), (2, .int p2)] := hl
  unfold fX10_of at h
  refine lv_aload_n hx hb dX10_of_0 rfl (lv_at hl 0 rfl) ?_
  refine lv_iload_n hx hb dX10_of_1 rfl (lv_at hl 1 rfl) ?_
  refine rc_i hS (run_V hC wX10_isHead k336 (e_0 G _) rfl hP hS (As := [.int p1]) (rest := []) (mX10_isHead l G Rm rfl) rfl hl.1 (Nat.le_of_ble_eq_true rfl) ⟨by decide, by decide⟩ ⟨Nat.le_refl _, Nat.le_refl _⟩ rfl dX10_of_2) (fun H locs pb2 hP hS => ?_)
  refine lv_if_eq (tgt := 17) hx hb dX10_of_5 (by decide) (fun c3 => ?_) (fun c3 => ?_)
  · replace h := it_t c3 h
    refine lv_iconst (v := (-1)) hx hb dX10_of_17 (by decide) ?_
    exact re_i' hC hr hP hS (Option.some.inj h) rfl dX10_of_18
  · replace h := it_f c3 h
    refine lv_iload_n hx hb dX10_of_8 rfl (lv_at hl 2 rfl) ?_
    refine lv_if_lt (tgt := 17) hx hb dX10_of_9 (by decide) (fun c4 => ?_) (fun c4 => ?_)
    · replace h := it_t c4 h
      refine lv_iconst (v := (-1)) hx hb dX10_of_17 (by decide) ?_
      exact re_i' hC hr hP hS (Option.some.inj h) rfl dX10_of_18
    · replace h := it_f c4 h
      refine lv_iload_n hx hb dX10_of_12 rfl (lv_at hl 2 rfl) ?_
      refine lv_iconst (v := 5) hx hb dX10_of_13 (by decide) ?_
      refine lv_icmp_le (tgt := 19) hx hb dX10_of_14 (by decide) (fun c5 => ?_) (fun c5 => ?_)
      · replace h := it_t c5 h
        refine lv_iload_n hx hb dX10_of_19 rfl (lv_at hl 2 rfl) ?_
        refine lv_iconst (v := 5) hx hb dX10_of_20 (by decide) ?_
        refine lv_icmp_ne (tgt := 36) hx hb dX10_of_21 (by decide) (fun c6 => ?_) (fun c6 => ?_)
        · replace h := it_f c6 h
          refine lv_aload_n hx hb dX10_of_36 rfl (lv_at hl 0 rfl) ?_
          refine r_get (v := .ref (gA G 3)) hC inX10 hP (e_0 G _) rfl 1 (by decide) rfl k233 rfl dX10_of_37 ?_
          refine lv_iload_n hx hb dX10_of_40 rfl (lv_at hl 1 rfl) ?_
          by_cases c7 : p1 < (0 : Int32) ∨ 6 ≤ Int32.toNatClampNeg p1
          · cases it_t c7 h
          replace h := it_f c7 h
          refine r_hd hC hP c7 dX10_of_41 (fun hj8 => ?_)
          refine lv_iload_n hx hb dX10_of_42 rfl (lv_at hl 2 rfl) ?_
          obtain ⟨r10, hq9, h⟩ := bn_x h
          refine rc_i hS (run_V hC wX5_number k344 (e_hc G _ (Nat.lt_trans hj8 (by decide))) rfl hP hS (As := [.int p2]) (rest := []) (mX5_number l G Rm (Nat.lt_trans hj8 (by decide)) hq9) rfl hl.1 (Nat.le_of_ble_eq_true rfl) ⟨by decide, by decide⟩ ⟨Nat.le_refl _, Nat.le_refl _⟩ rfl dX10_of_43) (fun H locs pb11 hP hS => ?_)
          exact re_i' hC hr hP hS (Option.some.inj h) rfl dX10_of_46
        · replace h := it_t c6 h
          refine lv_aload_n hx hb dX10_of_24 rfl (lv_at hl 0 rfl) ?_
          refine r_get (v := .ref (gA G 3)) hC inX10 hP (e_0 G _) rfl 1 (by decide) rfl k233 rfl dX10_of_25 ?_
          refine lv_iload_n hx hb dX10_of_28 rfl (lv_at hl 1 rfl) ?_
          by_cases c12 : p1 < (0 : Int32) ∨ 6 ≤ Int32.toNatClampNeg p1
          · cases it_t c12 h
          replace h := it_f c12 h
          refine r_hd hC hP c12 dX10_of_29 (fun hj13 => ?_)
          obtain ⟨r15, hq14, h⟩ := bn_x h
          refine rc_i hS (run_V hC wX5_learntCount k340 (e_hc G _ (Nat.lt_trans hj13 (by decide))) rfl hP hS (As := []) (rest := []) (mX5_learntCount l G Rm (Nat.lt_trans hj13 (by decide)) hq14) rfl hl.1 (Nat.le_of_ble_eq_true rfl) ⟨by decide, by decide⟩ ⟨Nat.le_refl _, Nat.le_refl _⟩ rfl dX10_of_30) (fun H locs pb16 hP hS => ?_)
          refine lv_goto (tgt := 46) hx hb dX10_of_33 (by decide) ?_
          exact re_i' hC hr hP hS (Option.some.inj h) rfl dX10_of_46
      · replace h := it_f c5 h
        refine lv_iconst (v := (-1)) hx hb dX10_of_17 (by decide) ?_
        exact re_i' hC hr hP hS (Option.some.inj h) rfl dX10_of_18
set_option maxHeartbeats 4000000 in
set_option maxRecDepth 100000 in
theorem mX10_turn (l : Launch) (G : gp) (Rm : Mm) {p1 : Int32} {p2 : Int32} {p3 : Int32} {C : Mm} {r0 : Int32} {C0 : Mm} (h : fX10_turn p1 p2 p3 C = some (r0, C0)) : Met l yX10_turn (wsy yX10_turn cX10_turn 5 (some .int)) (rmv 3 84) (va_Pc [.ref (gA G 0), .int p1, .int p2, .int p3] (Rl G (C, Rm))) (Qi G PT r0 (C0, Rm)) 0 0 (lwA G) := by
  refine met_i [.ref (gA G 0), .int p1, .int p2, .int p3] wX10_turn.2.2.2.2.2 (Nat.le_of_ble_eq_true rfl) ?_
  intro p e s m args below meth c ls hC hr hP hl
  have hC : Cx G p s m args meth c cX10_turn RX10 5 := hC
  have hx := hC.1
  have hb := hC.2.1
  have hown := hC.2.2.2.1
  have hts := hC.2.2.2.2.1
  have hS : va_S (lwA G) s.heap s.heap [] := va_S.rf
  have hl : lv_has ls 5 [(0, .ref (gA G 0)), (1, .int p1), (2, .int p2), (3, .int p3)] := hl
  unfold fX10_turn at h
  refine lv_aload_n hx hb dX10_turn_0 rfl (lv_at hl 0 rfl) ?_
  refine lv_iload_n hx hb dX10_turn_1 rfl (lv_at hl 1 rfl) ?_
  refine rc_i hS (run_V hC wX10_isHead k336 (e_0 G _) rfl hP hS (As := [.int p1]) (rest := []) (mX10_isHead l G Rm rfl) rfl hl.1 (Nat.le_of_ble_eq_true rfl) ⟨by decide, by decide⟩ ⟨Nat.le_refl _, Nat.le_refl _⟩ rfl dX10_turn_2) (fun H locs pb2 hP hS => ?_)
  refine lv_if_eq (tgt := 16) hx hb dX10_turn_5 (by decide) (fun c3 => ?_) (fun c3 => ?_)
  · replace h := it_t c3 h
    refine lv_iconst (v := (-1)) hx hb dX10_turn_16 (by decide) ?_
    exact re_i' hC hr hP hS (pr_1 h) (congrArg (fun Z : Mm => (Z, Rm)) (pr_2 h)) dX10_turn_17
  · replace h := it_f c3 h
    refine lv_iload_n hx hb dX10_turn_8 rfl (lv_at hl 2 rfl) ?_
    refine lv_iload_n hx hb dX10_turn_9 rfl (lv_at hl 3 rfl) ?_
    obtain ⟨r5, hq4, h⟩ := bn_x h
    refine rc_i hS (run_S hC wX5_mayBe k352 hP hS (As := [.int p2, .int p3]) (rest := []) (mX5_mayBe l G Rm hq4) rfl hl.1 (Nat.le_of_ble_eq_true rfl) ⟨by decide, by decide⟩ ⟨Nat.le_refl _, Nat.le_refl _⟩ rfl dX10_turn_10) (fun H locs pb6 hP hS => ?_)
    refine lv_if_ne (tgt := 18) hx hb dX10_turn_13 (by decide) (fun c7 => ?_) (fun c7 => ?_)
    · replace h := it_f c7 h
      refine lv_aload_n hx hb dX10_turn_18 rfl (lv_at hl 0 rfl) ?_
      refine r_get (v := .ref (gA G 3)) hC inX10 hP (e_0 G _) rfl 1 (by decide) rfl k233 rfl dX10_turn_19 ?_
      refine lv_iload_n hx hb dX10_turn_22 rfl (lv_at hl 1 rfl) ?_
      by_cases c8 : p1 < (0 : Int32) ∨ 6 ≤ Int32.toNatClampNeg p1
      · cases it_t c8 h
      replace h := it_f c8 h
      refine r_hd hC hP c8 dX10_turn_23 (fun hj9 => ?_)
      refine lv_iload_n hx hb dX10_turn_24 rfl (lv_at hl 2 rfl) ?_
      obtain ⟨r11, hq10, h⟩ := bn_x h
      refine rc_i hS (run_V hC wX5_number k344 (e_hc G _ (Nat.lt_trans hj9 (by decide))) rfl hP hS (As := [.int p2]) (rest := []) (mX5_number l G Rm (Nat.lt_trans hj9 (by decide)) hq10) rfl hl.1 (Nat.le_of_ble_eq_true rfl) ⟨by decide, by decide⟩ ⟨Nat.le_refl _, Nat.le_refl _⟩ rfl dX10_turn_25) (fun H locs pb12 hP hS => ?_)
      refine lv_istore (lv' := [(4, .int r11), (0, .ref (gA G 0)), (1, .int p1), (2, .int p2), (3, .int p3)]) hx hb dX10_turn_28 hl (by decide) rfl (fun ls hl => ?_)
      refine lv_iload hx hb dX10_turn_30 (lv_at hl 0 rfl) ?_
      refine lv_iload_n hx hb dX10_turn_32 rfl (lv_at hl 4 rfl) ?_
      refine lv_icmp_eq (tgt := 59) hx hb dX10_turn_33 (by decide) (fun c13 => ?_) (fun c13 => ?_)
      · replace h := it_t c13 h
        refine lv_iload hx hb dX10_turn_59 (lv_at hl 0 rfl) ?_
        exact re_i' hC hr hP hS (pr_1 h) (congrArg (fun Z : Mm => (Z, Rm)) (pr_2 h)) dX10_turn_61
      · replace h := it_f c13 h
        refine lv_aload_n hx hb dX10_turn_36 rfl (lv_at hl 1 rfl) ?_
        refine r_get (v := .ref (gA G 51)) hC inX10 hP (e_0 G _) rfl 12 (by decide) rfl k244 rfl dX10_turn_37 ?_
        refine lv_iload_n hx hb dX10_turn_40 rfl (lv_at hl 2 rfl) ?_
        refine lv_iload_n hx hb dX10_turn_41 rfl (lv_at hl 3 rfl) ?_
        refine lv_iload hx hb dX10_turn_42 (lv_at hl 0 rfl) ?_
        refine lv_iload_n hx hb dX10_turn_44 rfl (lv_at hl 4 rfl) ?_
        obtain ⟨C15, hq14, h⟩ := bn_x h
        refine rc_v hS (run_V hC wX2_came k353 (e_51 G _) rfl hP hS (As := [.int p1, .int p2, .int r11, .int p3]) (rest := []) (mX2_came l G Rm hq14) rfl hl.1 (Nat.le_of_ble_eq_true rfl) ⟨by decide, by decide⟩ ⟨Nat.le_refl _, Nat.le_refl _⟩ rfl dX10_turn_45) (fun H locs hP hS => ?_)
        refine lv_aload_n hx hb dX10_turn_48 rfl (lv_at hl 1 rfl) ?_
        refine r_get (v := .ref (gA G 3)) hC inX10 hP (e_0 G _) rfl 1 (by decide) rfl k233 rfl dX10_turn_49 ?_
        refine lv_iload_n hx hb dX10_turn_52 rfl (lv_at hl 2 rfl) ?_
        by_cases c16 : p1 < (0 : Int32) ∨ 6 ≤ Int32.toNatClampNeg p1
        · cases it_t c16 h
        replace h := it_f c16 h
        refine r_hd hC hP c16 dX10_turn_53 (fun hj17 => ?_)
        refine lv_iload_n hx hb dX10_turn_54 rfl (lv_at hl 3 rfl) ?_
        refine lv_iload_n hx hb dX10_turn_55 rfl (lv_at hl 4 rfl) ?_
        obtain ⟨C19, hq18, h⟩ := bn_x h
        refine rc_v hS (run_V hC wX5_setNumber k362 (e_hc G _ (Nat.lt_trans hj17 (by decide))) rfl hP hS (As := [.int p2, .int p3]) (rest := []) (mX5_setNumber l G Rm (Nat.lt_trans hj17 (by decide)) hq18) rfl hl.1 (Nat.le_of_ble_eq_true rfl) ⟨by decide, by decide⟩ ⟨Nat.le_refl _, Nat.le_refl _⟩ rfl dX10_turn_56) (fun H locs hP hS => ?_)
        refine lv_iload hx hb dX10_turn_59 (lv_at hl 0 rfl) ?_
        exact re_i' hC hr hP hS (pr_1 h) (congrArg (fun Z : Mm => (Z, Rm)) (pr_2 h)) dX10_turn_61
    · replace h := it_t c7 h
      refine lv_iconst (v := (-1)) hx hb dX10_turn_16 (by decide) ?_
      exact re_i' hC hr hP hS (pr_1 h) (congrArg (fun Z : Mm => (Z, Rm)) (pr_2 h)) dX10_turn_17
set_option maxHeartbeats 4000000 in
set_option maxRecDepth 100000 in
theorem mX10_choice (l : Launch) (G : gp) (Rm : Mm) {n : Nat} {C : Mm} {r0 : Int32} {C0 : Mm} (h : fX10_choice n C = some (r0, C0)) : Met l yX10_choice (wsy yX10_choice cX10_choice 2 (some .int)) (rmv 109 2405) (va_Pc [.ref (gA G 0)] (Rl G (C, Rm))) (Qi G PT r0 (C0, Rm)) 0 0 (lwA G) := by
  refine met_i [.ref (gA G 0)] wX10_choice.2.2.2.2.2 (Nat.le_of_ble_eq_true rfl) ?_
  intro p e s m args below meth c ls hC hr hP hl
  have hC : Cx G p s m args meth c cX10_choice RX10 2 := hC
  have hx := hC.1
  have hb := hC.2.1
  have hown := hC.2.2.2.1
  have hts := hC.2.2.2.2.1
  have hS : va_S (lwA G) s.heap s.heap [] := va_S.rf
  have hl : lv_has ls 2 [(0, .ref (gA G 0))] := hl
  unfold fX10_choice at h
  refine lv_aload_n hx hb dX10_choice_0 rfl (lv_at hl 0 rfl) ?_
  refine r_get (v := .ref (gA G 32)) hC inX10 hP (e_0 G _) rfl 4 (by decide) rfl k236 rfl dX10_choice_1 ?_
  refine lv_aload_n hx hb dX10_choice_4 rfl (lv_at hl 0 rfl) ?_
  refine r_get (v := .ref (gA G 1)) hC inX10 hP (e_0 G _) rfl 0 (by decide) rfl k232 rfl dX10_choice_5 ?_
  obtain ⟨r2, C3, hq1, h⟩ := bp_x h
  refine rc_i hS (run_V hC wX3_read k370 (e_32 G _) rfl hP hS (As := [.ref (gA G 1)]) (rest := []) (mX3_read l G Rm hq1) rfl hl.1 (Nat.le_of_ble_eq_true rfl) ⟨by decide, by decide⟩ ⟨Nat.le_refl _, Nat.le_refl _⟩ rfl dX10_choice_8) (fun H locs pb4 hP hS => ?_)
  refine lv_istore_n (lv' := [(1, .int r2), (0, .ref (gA G 0))]) hx hb dX10_choice_11 rfl hl (by decide) rfl (fun ls hl => ?_)
  refine lv_aload_n hx hb dX10_choice_12 rfl (lv_at hl 1 rfl) ?_
  refine r_get (v := .ref (gA G 1)) hC inX10 hP (e_0 G _) rfl 0 (by decide) rfl k232 rfl dX10_choice_13 ?_
  obtain ⟨C6, hq5⟩ : ∃ Z : Mm, fX9_clear C3 = Z := ⟨_, rfl⟩
  replace h := lt_y hq5.symm h
  refine rc_v hS (run_V hC wX9_clear k321 (e_1 G _) rfl hP hS (As := []) (rest := []) (mX9_clear l G Rm hq5) rfl hl.1 (Nat.le_of_ble_eq_true rfl) ⟨by decide, by decide⟩ ⟨Nat.le_refl _, Nat.le_refl _⟩ rfl dX10_choice_16) (fun H locs hP hS => ?_)
  refine lv_iload_n hx hb dX10_choice_19 rfl (lv_at hl 0 rfl) ?_
  refine lv_if_lt (tgt := 30) hx hb dX10_choice_20 (by decide) (fun c7 => ?_) (fun c7 => ?_)
  · replace h := it_t c7 h
    refine lv_iconst (v := 1) hx hb dX10_choice_30 (by decide) ?_
    exact re_i' hC hr hP hS (pr_1 h) (congrArg (fun Z : Mm => (Z, Rm)) (pr_2 h)) dX10_choice_31
  · replace h := it_f c7 h
    refine lv_bipush (v := (-100)) hx hb dX10_choice_23 (by decide) ?_
    refine lv_iload_n hx hb dX10_choice_25 rfl (lv_at hl 0 rfl) ?_
    refine lv_isub hx hb dX10_choice_26 ?_
    refine lv_goto (tgt := 31) hx hb dX10_choice_27 (by decide) ?_
    exact re_i' hC hr hP hS (pr_1 h) (congrArg (fun Z : Mm => (Z, Rm)) (pr_2 h)) dX10_choice_31
set_option maxHeartbeats 4000000 in
set_option maxRecDepth 100000 in
theorem mX10_isHeadAndWay (l : Launch) (G : gp) (Rm : Mm) {p1 : Int32} {C : Mm} {r0 : Int32} (h : fX10_isHeadAndWay p1 C = r0) : Met l yX10_isHeadAndWay (wsy yX10_isHeadAndWay cX10_isHeadAndWay 2 (some .boolean)) (rmv 0 0) (va_Pc [.ref (gA G 0), .int p1] (Rl G (C, Rm))) (Qi G PZ r0 (C, Rm)) 0 0 (lwA G) := by
  refine met_i [.ref (gA G 0), .int p1] wX10_isHeadAndWay.2.2.2.2.2 (Nat.le_of_ble_eq_true rfl) ?_
  intro p e s m args below meth c ls hC hr hP hl
  have hC : Cx G p s m args meth c cX10_isHeadAndWay RX10 2 := hC
  have hx := hC.1
  have hb := hC.2.1
  have hown := hC.2.2.2.1
  have hts := hC.2.2.2.2.1
  have hS : va_S (lwA G) s.heap s.heap [] := va_S.rf
  have hl : lv_has ls 2 [(0, .ref (gA G 0)), (1, .int p1)] := hl
  unfold fX10_isHeadAndWay at h
  refine lv_iload_n hx hb dX10_isHeadAndWay_0 rfl (lv_at hl 1 rfl) ?_
  refine lv_if_lt (tgt := 28) hx hb dX10_isHeadAndWay_1 (by decide) (fun c1 => ?_) (fun c1 => ?_)
  · replace h := it_t c1 h
    refine lv_iconst (v := 0) hx hb dX10_isHeadAndWay_28 (by decide) ?_
    exact re_z' hC hr hP hS PZ0 h rfl dX10_isHeadAndWay_29
  · replace h := it_f c1 h
    refine lv_iload_n hx hb dX10_isHeadAndWay_4 rfl (lv_at hl 1 rfl) ?_
    refine lv_bipush (v := 10) hx hb dX10_isHeadAndWay_5 (by decide) ?_
    refine lv_idiv hx hb dX10_isHeadAndWay_7 (by decide) ?_
    refine lv_aload_n hx hb dX10_isHeadAndWay_8 rfl (lv_at hl 0 rfl) ?_
    refine r_get (v := .int (C.1 0 2)) hC inX10 hP (e_0 G _) rfl 2 (by decide) rfl k234 rfl dX10_isHeadAndWay_9 ?_
    refine lv_icmp_ge (tgt := 28) hx hb dX10_isHeadAndWay_12 (by decide) (fun c2 => ?_) (fun c2 => ?_)
    · replace h := it_t c2 h
      refine lv_iconst (v := 0) hx hb dX10_isHeadAndWay_28 (by decide) ?_
      exact re_z' hC hr hP hS PZ0 h rfl dX10_isHeadAndWay_29
    · replace h := it_f c2 h
      refine lv_iload_n hx hb dX10_isHeadAndWay_15 rfl (lv_at hl 1 rfl) ?_
      refine lv_bipush (v := 10) hx hb dX10_isHeadAndWay_16 (by decide) ?_
      refine r_irem hx hb dX10_isHeadAndWay_18 (by decide) ?_
      refine lv_bipush (v := 7) hx hb dX10_isHeadAndWay_19 (by decide) ?_
      refine lv_icmp_ge (tgt := 28) hx hb dX10_isHeadAndWay_21 (by decide) (fun c3 => ?_) (fun c3 => ?_)
      · replace h := it_t c3 h
        refine lv_iconst (v := 0) hx hb dX10_isHeadAndWay_28 (by decide) ?_
        exact re_z' hC hr hP hS PZ0 h rfl dX10_isHeadAndWay_29
      · replace h := it_f c3 h
        refine lv_iconst (v := 1) hx hb dX10_isHeadAndWay_24 (by decide) ?_
        refine lv_goto (tgt := 29) hx hb dX10_isHeadAndWay_25 (by decide) ?_
        exact re_z' hC hr hP hS PZ1 h rfl dX10_isHeadAndWay_29
set_option maxHeartbeats 4000000 in
set_option maxRecDepth 100000 in
theorem mX10_isNumber (l : Launch) (G : gp) (Rm : Mm) {p0 : Int32} {C : Mm} {r0 : Int32} (h : fX10_isNumber p0 = r0) : Met l yX10_isNumber (wsy yX10_isNumber cX10_isNumber 1 (some .boolean)) (rmv 0 0) (va_Pc [.int p0] (Rl G (C, Rm))) (Qi G PZ r0 (C, Rm)) 0 0 (lwA G) := by
  refine met_i [.int p0] wX10_isNumber.2.2.2.2 (Nat.le_of_ble_eq_true rfl) ?_
  intro p e s m args below meth c ls hC hr hP hl
  have hC : Cx G p s m args meth c cX10_isNumber RX10 1 := hC
  have hx := hC.1
  have hb := hC.2.1
  have hown := hC.2.2.2.1
  have hts := hC.2.2.2.2.1
  have hS : va_S (lwA G) s.heap s.heap [] := va_S.rf
  have hl : lv_has ls 1 [(0, .int p0)] := hl
  unfold fX10_isNumber at h
  refine lv_iload_n hx hb dX10_isNumber_0 rfl (lv_at hl 0 rfl) ?_
  refine lv_iconst (v := 1) hx hb dX10_isNumber_1 (by decide) ?_
  refine lv_icmp_lt (tgt := 16) hx hb dX10_isNumber_2 (by decide) (fun c1 => ?_) (fun c1 => ?_)
  · replace h := it_t c1 h
    refine lv_iconst (v := 0) hx hb dX10_isNumber_16 (by decide) ?_
    exact re_z' hC hr hP hS PZ0 h rfl dX10_isNumber_17
  · replace h := it_f c1 h
    refine lv_iload_n hx hb dX10_isNumber_5 rfl (lv_at hl 0 rfl) ?_
    refine lv_sipush (v := 9999) hx hb dX10_isNumber_6 (by decide) ?_
    refine lv_icmp_gt (tgt := 16) hx hb dX10_isNumber_9 (by decide) (fun c2 => ?_) (fun c2 => ?_)
    · replace h := it_t c2 h
      refine lv_iconst (v := 0) hx hb dX10_isNumber_16 (by decide) ?_
      exact re_z' hC hr hP hS PZ0 h rfl dX10_isNumber_17
    · replace h := it_f c2 h
      refine lv_iconst (v := 1) hx hb dX10_isNumber_12 (by decide) ?_
      refine lv_goto (tgt := 17) hx hb dX10_isNumber_13 (by decide) ?_
      exact re_z' hC hr hP hS PZ1 h rfl dX10_isNumber_17
set_option maxHeartbeats 4000000 in
set_option maxRecDepth 100000 in
theorem mX10_isPair (l : Launch) (G : gp) (Rm : Mm) {p0 : Int32} {C : Mm} {r0 : Int32} (h : fX10_isPair p0 = r0) : Met l yX10_isPair (wsy yX10_isPair cX10_isPair 1 (some .boolean)) (rmv 1 20) (va_Pc [.int p0] (Rl G (C, Rm))) (Qi G PZ r0 (C, Rm)) 0 0 (lwA G) := by
  refine met_i [.int p0] wX10_isPair.2.2.2.2 (Nat.le_of_ble_eq_true rfl) ?_
  intro p e s m args below meth c ls hC hr hP hl
  have hC : Cx G p s m args meth c cX10_isPair RX10 1 := hC
  have hx := hC.1
  have hb := hC.2.1
  have hown := hC.2.2.2.1
  have hts := hC.2.2.2.2.1
  have hS : va_S (lwA G) s.heap s.heap [] := va_S.rf
  have hl : lv_has ls 1 [(0, .int p0)] := hl
  unfold fX10_isPair at h
  refine lv_iload_n hx hb dX10_isPair_0 rfl (lv_at hl 0 rfl) ?_
  refine lv_sipush (v := 10000) hx hb dX10_isPair_1 (by decide) ?_
  refine lv_idiv hx hb dX10_isPair_4 (by decide) ?_
  refine rc_i hS (run_S hC wX10_isNumber k449 hP hS (As := [.int (p0 / 10000)]) (rest := []) (mX10_isNumber l G Rm rfl) rfl hl.1 (Nat.le_of_ble_eq_true rfl) ⟨by decide, by decide⟩ ⟨Nat.le_refl _, Nat.le_refl _⟩ rfl dX10_isPair_5) (fun H locs pb2 hP hS => ?_)
  refine lv_if_eq (tgt := 26) hx hb dX10_isPair_8 (by decide) (fun c3 => ?_) (fun c3 => ?_)
  · replace h := it_t c3 h
    refine lv_iconst (v := 0) hx hb dX10_isPair_26 (by decide) ?_
    exact re_z' hC hr hP hS PZ0 h rfl dX10_isPair_27
  · replace h := it_f c3 h
    refine lv_iload_n hx hb dX10_isPair_11 rfl (lv_at hl 0 rfl) ?_
    refine lv_sipush (v := 10000) hx hb dX10_isPair_12 (by decide) ?_
    refine r_irem hx hb dX10_isPair_15 (by decide) ?_
    refine rc_i hS (run_S hC wX10_isNumber k449 hP hS (As := [.int (irm p0 10000)]) (rest := []) (mX10_isNumber l G Rm rfl) rfl hl.1 (Nat.le_of_ble_eq_true rfl) ⟨by decide, by decide⟩ ⟨Nat.le_refl _, Nat.le_refl _⟩ rfl dX10_isPair_16) (fun H locs pb5 hP hS => ?_)
    refine lv_if_eq (tgt := 26) hx hb dX10_isPair_19 (by decide) (fun c6 => ?_) (fun c6 => ?_)
    · replace h := it_t c6 h
      refine lv_iconst (v := 0) hx hb dX10_isPair_26 (by decide) ?_
      exact re_z' hC hr hP hS PZ0 h rfl dX10_isPair_27
    · replace h := it_f c6 h
      refine lv_iconst (v := 1) hx hb dX10_isPair_22 (by decide) ?_
      refine lv_goto (tgt := 27) hx hb dX10_isPair_23 (by decide) ?_
      exact re_z' hC hr hP hS PZ1 h rfl dX10_isPair_27
set_option maxHeartbeats 4000000 in
set_option maxRecDepth 100000 in
theorem mX10_way (l : Launch) (G : gp) (Rm : Mm) {n : Nat} {p1 : Int32} {p2 : Int32} {p3 : Int32} {C : Mm} {r0 : Int32} {C0 : Mm} (h : fX10_way n p1 p2 p3 C = some (r0, C0)) : Met l yX10_way (wsy yX10_way cX10_way 4 (some .int)) (rmv 5 141) (va_Pc [.ref (gA G 0), .int p1, .int p2, .int p3] (Rl G (C, Rm))) (Qi G PT r0 (C0, Rm)) 0 0 (lwA G) := by
  refine met_i [.ref (gA G 0), .int p1, .int p2, .int p3] wX10_way.2.2.2.2.2 (Nat.le_of_ble_eq_true rfl) ?_
  intro p e s m args below meth c ls hC hr hP hl
  have hC : Cx G p s m args meth c cX10_way RX10 4 := hC
  have hx := hC.1
  have hb := hC.2.1
  have hown := hC.2.2.2.1
  have hts := hC.2.2.2.2.1
  have hS : va_S (lwA G) s.heap s.heap [] := va_S.rf
  have hl : lv_has ls 4 [(0, .ref (gA G 0)), (1, .int p1), (2, .int p2), (3, .int p3)] := hl
  unfold fX10_way at h
  refine lv_aload_n hx hb dX10_way_0 rfl (lv_at hl 0 rfl) ?_
  refine lv_iload_n hx hb dX10_way_1 rfl (lv_at hl 1 rfl) ?_
  refine rc_i hS (run_V hC wX10_isHeadAndWay k442 (e_0 G _) rfl hP hS (As := [.int p1]) (rest := []) (mX10_isHeadAndWay l G Rm rfl) rfl hl.1 (Nat.le_of_ble_eq_true rfl) ⟨by decide, by decide⟩ ⟨Nat.le_refl _, Nat.le_refl _⟩ rfl dX10_way_2) (fun H locs pb2 hP hS => ?_)
  refine lv_if_eq (tgt := 24) hx hb dX10_way_5 (by decide) (fun c3 => ?_) (fun c3 => ?_)
  · replace h := it_t c3 h
    refine lv_iconst (v := (-1)) hx hb dX10_way_24 (by decide) ?_
    exact re_i' hC hr hP hS (pr_1 h) (congrArg (fun Z : Mm => (Z, Rm)) (pr_2 h)) dX10_way_25
  · replace h := it_f c3 h
    refine lv_iload_n hx hb dX10_way_8 rfl (lv_at hl 2 rfl) ?_
    refine rc_i hS (run_S hC wX10_isPair k446 hP hS (As := [.int p2]) (rest := []) (mX10_isPair l G Rm rfl) rfl hl.1 (Nat.le_of_ble_eq_true rfl) ⟨by decide, by decide⟩ ⟨Nat.le_refl _, Nat.le_refl _⟩ rfl dX10_way_9) (fun H locs pb5 hP hS => ?_)
    refine lv_if_eq (tgt := 24) hx hb dX10_way_12 (by decide) (fun c6 => ?_) (fun c6 => ?_)
    · replace h := it_t c6 h
      refine lv_iconst (v := (-1)) hx hb dX10_way_24 (by decide) ?_
      exact re_i' hC hr hP hS (pr_1 h) (congrArg (fun Z : Mm => (Z, Rm)) (pr_2 h)) dX10_way_25
    · replace h := it_f c6 h
      refine lv_iload_n hx hb dX10_way_15 rfl (lv_at hl 3 rfl) ?_
      refine lv_if_lt (tgt := 24) hx hb dX10_way_16 (by decide) (fun c7 => ?_) (fun c7 => ?_)
      · replace h := it_t c7 h
        refine lv_iconst (v := (-1)) hx hb dX10_way_24 (by decide) ?_
        exact re_i' hC hr hP hS (pr_1 h) (congrArg (fun Z : Mm => (Z, Rm)) (pr_2 h)) dX10_way_25
      · replace h := it_f c7 h
        refine lv_iload_n hx hb dX10_way_19 rfl (lv_at hl 3 rfl) ?_
        refine lv_iconst (v := 2) hx hb dX10_way_20 (by decide) ?_
        refine lv_icmp_le (tgt := 26) hx hb dX10_way_21 (by decide) (fun c8 => ?_) (fun c8 => ?_)
        · replace h := it_t c8 h
          refine lv_aload_n hx hb dX10_way_26 rfl (lv_at hl 0 rfl) ?_
          refine r_get (v := .ref (gA G 36)) hC inX10 hP (e_0 G _) rfl 5 (by decide) rfl k237 rfl dX10_way_27 ?_
          refine lv_aload_n hx hb dX10_way_30 rfl (lv_at hl 0 rfl) ?_
          refine r_get (v := .ref (gA G 3)) hC inX10 hP (e_0 G _) rfl 1 (by decide) rfl k233 rfl dX10_way_31 ?_
          refine lv_iload_n hx hb dX10_way_34 rfl (lv_at hl 1 rfl) ?_
          refine lv_bipush (v := 10) hx hb dX10_way_35 (by decide) ?_
          refine lv_idiv hx hb dX10_way_37 (by decide) ?_
          by_cases c9 : (p1 / 10) < (0 : Int32) ∨ 6 ≤ Int32.toNatClampNeg (p1 / 10)
          · cases it_t c9 h
          replace h := it_f c9 h
          refine r_hd hC hP c9 dX10_way_38 (fun hj10 => ?_)
          refine lv_iload_n hx hb dX10_way_39 rfl (lv_at hl 1 rfl) ?_
          refine lv_bipush (v := 10) hx hb dX10_way_40 (by decide) ?_
          refine r_irem hx hb dX10_way_42 (by decide) ?_
          refine lv_iload_n hx hb dX10_way_43 rfl (lv_at hl 2 rfl) ?_
          obtain ⟨r12, C13, hq11, h⟩ := bp_x h
          refine rc_i hS (run_V hC wX0_reckon k452 (e_36 G _) rfl hP hS (As := [.ref (gA G (hdc (Int32.toNatClampNeg (p1 / 10)))), .int (irm p1 10), .int p2]) (rest := []) (mX0_reckon l G Rm (Nat.lt_trans hj10 (by decide)) hq11) rfl hl.1 (Nat.le_of_ble_eq_true rfl) ⟨by decide, by decide⟩ ⟨Nat.le_refl _, Nat.le_refl _⟩ rfl dX10_way_44) (fun H locs pb14 hP hS => ?_)
          refine lv_if_ne (tgt := 53) hx hb dX10_way_47 (by decide) (fun c15 => ?_) (fun c15 => ?_)
          · replace h := it_f c15 h
            refine lv_iload_n hx hb dX10_way_53 rfl (lv_at hl 3 rfl) ?_
            refine lv_if_ne (tgt := 65) hx hb dX10_way_54 (by decide) (fun c16 => ?_) (fun c16 => ?_)
            · replace h := it_f c16 h
              refine lv_iload_n hx hb dX10_way_65 rfl (lv_at hl 3 rfl) ?_
              refine lv_iconst (v := 1) hx hb dX10_way_66 (by decide) ?_
              refine lv_icmp_ne (tgt := 80) hx hb dX10_way_67 (by decide) (fun c17 => ?_) (fun c17 => ?_)
              · replace h := it_f c17 h
                refine lv_aload_n hx hb dX10_way_80 rfl (lv_at hl 0 rfl) ?_
                refine r_get (v := .ref (gA G 36)) hC inX10 hP (e_0 G _) rfl 5 (by decide) rfl k237 rfl dX10_way_81 ?_
                refine rc_i hS (run_V hC wX0_size k559 (e_36 G _) rfl hP hS (As := []) (rest := []) (mX0_size l G Rm rfl) rfl hl.1 (Nat.le_of_ble_eq_true rfl) ⟨by decide, by decide⟩ ⟨Nat.le_refl _, Nat.le_refl _⟩ rfl dX10_way_84) (fun H locs pb19 hP hS => ?_)
                exact re_i' hC hr hP hS (pr_1 h) (congrArg (fun Z : Mm => (Z, Rm)) (pr_2 h)) dX10_way_87
              · replace h := it_t c17 h
                refine lv_aload_n hx hb dX10_way_70 rfl (lv_at hl 0 rfl) ?_
                refine r_get (v := .ref (gA G 36)) hC inX10 hP (e_0 G _) rfl 5 (by decide) rfl k237 rfl dX10_way_71 ?_
                refine rc_i hS (run_V hC wX0_holds k555 (e_36 G _) rfl hP hS (As := []) (rest := []) (mX0_holds l G Rm rfl) rfl hl.1 (Nat.le_of_ble_eq_true rfl) ⟨by decide, by decide⟩ ⟨Nat.le_refl _, Nat.le_refl _⟩ rfl dX10_way_74) (fun H locs pb21 hP hS => ?_)
                refine lv_goto (tgt := 87) hx hb dX10_way_77 (by decide) ?_
                exact re_i' hC hr hP hS (pr_1 h) (congrArg (fun Z : Mm => (Z, Rm)) (pr_2 h)) dX10_way_87
            · replace h := it_t c16 h
              refine lv_aload_n hx hb dX10_way_57 rfl (lv_at hl 0 rfl) ?_
              refine r_get (v := .ref (gA G 36)) hC inX10 hP (e_0 G _) rfl 5 (by decide) rfl k237 rfl dX10_way_58 ?_
              refine rc_i hS (run_V hC wX0_seconds k551 (e_36 G _) rfl hP hS (As := []) (rest := []) (mX0_seconds l G Rm rfl) rfl hl.1 (Nat.le_of_ble_eq_true rfl) ⟨by decide, by decide⟩ ⟨Nat.le_refl _, Nat.le_refl _⟩ rfl dX10_way_61) (fun H locs pb23 hP hS => ?_)
              exact re_i' hC hr hP hS (pr_1 h) (congrArg (fun Z : Mm => (Z, Rm)) (pr_2 h)) dX10_way_64
          · replace h := it_t c15 h
            refine lv_bipush (v := (-2)) hx hb dX10_way_50 (by decide) ?_
            exact re_i' hC hr hP hS (pr_1 h) (congrArg (fun Z : Mm => (Z, Rm)) (pr_2 h)) dX10_way_52
        · replace h := it_f c8 h
          refine lv_iconst (v := (-1)) hx hb dX10_way_24 (by decide) ?_
          exact re_i' hC hr hP hS (pr_1 h) (congrArg (fun Z : Mm => (Z, Rm)) (pr_2 h)) dX10_way_25
set_option maxHeartbeats 4000000 in
set_option maxRecDepth 100000 in
theorem mX10_step (l : Launch) (G : gp) (Rm : Mm) {n : Nat} {p1 : Int32} {p2 : Int32} {p3 : Int32} {p4 : Int32} {C : Mm} {r0 : Int32} {C0 : Mm} (h : fX10_step n p1 p2 p3 p4 C = some (r0, C0)) : Met l yX10_step (wsy yX10_step cX10_step 5 (some .int)) (rmv 5 141) (va_Pc [.ref (gA G 0), .int p1, .int p2, .int p3, .int p4] (Rl G (C, Rm))) (Qi G PT r0 (C0, Rm)) 0 0 (lwA G) := by
  refine met_i [.ref (gA G 0), .int p1, .int p2, .int p3, .int p4] wX10_step.2.2.2.2.2 (Nat.le_of_ble_eq_true rfl) ?_
  intro p e s m args below meth c ls hC hr hP hl
  have hC : Cx G p s m args meth c cX10_step RX10 5 := hC
  have hx := hC.1
  have hb := hC.2.1
  have hown := hC.2.2.2.1
  have hts := hC.2.2.2.2.1
  have hS : va_S (lwA G) s.heap s.heap [] := va_S.rf
  have hl : lv_has ls 5 [(0, .ref (gA G 0)), (1, .int p1), (2, .int p2), (3, .int p3), (4, .int p4)] := hl
  unfold fX10_step at h
  refine lv_aload_n hx hb dX10_step_0 rfl (lv_at hl 0 rfl) ?_
  refine lv_iload_n hx hb dX10_step_1 rfl (lv_at hl 1 rfl) ?_
  refine rc_i hS (run_V hC wX10_isHeadAndWay k442 (e_0 G _) rfl hP hS (As := [.int p1]) (rest := []) (mX10_isHeadAndWay l G Rm rfl) rfl hl.1 (Nat.le_of_ble_eq_true rfl) ⟨by decide, by decide⟩ ⟨Nat.le_refl _, Nat.le_refl _⟩ rfl dX10_step_2) (fun H locs pb2 hP hS => ?_)
  refine lv_if_eq (tgt := 26) hx hb dX10_step_5 (by decide) (fun c3 => ?_) (fun c3 => ?_)
  · replace h := it_t c3 h
    refine lv_ldc hx hb (v := (-2000000000)) hown (hts _ k567) dX10_step_26 ?_
    exact re_i' hC hr hP hS (pr_1 h) (congrArg (fun Z : Mm => (Z, Rm)) (pr_2 h)) dX10_step_28
  · replace h := it_f c3 h
    refine lv_iload_n hx hb dX10_step_8 rfl (lv_at hl 2 rfl) ?_
    refine rc_i hS (run_S hC wX10_isPair k446 hP hS (As := [.int p2]) (rest := []) (mX10_isPair l G Rm rfl) rfl hl.1 (Nat.le_of_ble_eq_true rfl) ⟨by decide, by decide⟩ ⟨Nat.le_refl _, Nat.le_refl _⟩ rfl dX10_step_9) (fun H locs pb5 hP hS => ?_)
    refine lv_if_eq (tgt := 26) hx hb dX10_step_12 (by decide) (fun c6 => ?_) (fun c6 => ?_)
    · replace h := it_t c6 h
      refine lv_ldc hx hb (v := (-2000000000)) hown (hts _ k567) dX10_step_26 ?_
      exact re_i' hC hr hP hS (pr_1 h) (congrArg (fun Z : Mm => (Z, Rm)) (pr_2 h)) dX10_step_28
    · replace h := it_f c6 h
      refine lv_iload hx hb dX10_step_15 (lv_at hl 4 rfl) ?_
      refine lv_if_lt (tgt := 26) hx hb dX10_step_17 (by decide) (fun c7 => ?_) (fun c7 => ?_)
      · replace h := it_t c7 h
        refine lv_ldc hx hb (v := (-2000000000)) hown (hts _ k567) dX10_step_26 ?_
        exact re_i' hC hr hP hS (pr_1 h) (congrArg (fun Z : Mm => (Z, Rm)) (pr_2 h)) dX10_step_28
      · replace h := it_f c7 h
        refine lv_iload hx hb dX10_step_20 (lv_at hl 4 rfl) ?_
        refine lv_iconst (v := 3) hx hb dX10_step_22 (by decide) ?_
        refine lv_icmp_le (tgt := 29) hx hb dX10_step_23 (by decide) (fun c8 => ?_) (fun c8 => ?_)
        · replace h := it_t c8 h
          refine lv_aload_n hx hb dX10_step_29 rfl (lv_at hl 0 rfl) ?_
          refine r_get (v := .ref (gA G 36)) hC inX10 hP (e_0 G _) rfl 5 (by decide) rfl k237 rfl dX10_step_30 ?_
          refine lv_aload_n hx hb dX10_step_33 rfl (lv_at hl 0 rfl) ?_
          refine r_get (v := .ref (gA G 3)) hC inX10 hP (e_0 G _) rfl 1 (by decide) rfl k233 rfl dX10_step_34 ?_
          refine lv_iload_n hx hb dX10_step_37 rfl (lv_at hl 1 rfl) ?_
          refine lv_bipush (v := 10) hx hb dX10_step_38 (by decide) ?_
          refine lv_idiv hx hb dX10_step_40 (by decide) ?_
          by_cases c9 : (p1 / 10) < (0 : Int32) ∨ 6 ≤ Int32.toNatClampNeg (p1 / 10)
          · cases it_t c9 h
          replace h := it_f c9 h
          refine r_hd hC hP c9 dX10_step_41 (fun hj10 => ?_)
          refine lv_iload_n hx hb dX10_step_42 rfl (lv_at hl 1 rfl) ?_
          refine lv_bipush (v := 10) hx hb dX10_step_43 (by decide) ?_
          refine r_irem hx hb dX10_step_45 (by decide) ?_
          refine lv_iload_n hx hb dX10_step_46 rfl (lv_at hl 2 rfl) ?_
          obtain ⟨r12, C13, hq11, h⟩ := bp_x h
          refine rc_i hS (run_V hC wX0_reckon k452 (e_36 G _) rfl hP hS (As := [.ref (gA G (hdc (Int32.toNatClampNeg (p1 / 10)))), .int (irm p1 10), .int p2]) (rest := []) (mX0_reckon l G Rm (Nat.lt_trans hj10 (by decide)) hq11) rfl hl.1 (Nat.le_of_ble_eq_true rfl) ⟨by decide, by decide⟩ ⟨Nat.le_refl _, Nat.le_refl _⟩ rfl dX10_step_47) (fun H locs pb14 hP hS => ?_)
          refine lv_if_eq (tgt := 68) hx hb dX10_step_50 (by decide) (fun c15 => ?_) (fun c15 => ?_)
          · replace h := it_t c15 h
            refine lv_ldc hx hb (v := (-2000000000)) hown (hts _ k567) dX10_step_68 ?_
            exact re_i' hC hr hP hS (pr_1 h) (congrArg (fun Z : Mm => (Z, Rm)) (pr_2 h)) dX10_step_70
          · replace h := it_f c15 h
            refine lv_iload_n hx hb dX10_step_53 rfl (lv_at hl 3 rfl) ?_
            refine lv_if_lt (tgt := 68) hx hb dX10_step_54 (by decide) (fun c16 => ?_) (fun c16 => ?_)
            · replace h := it_t c16 h
              refine lv_ldc hx hb (v := (-2000000000)) hown (hts _ k567) dX10_step_68 ?_
              exact re_i' hC hr hP hS (pr_1 h) (congrArg (fun Z : Mm => (Z, Rm)) (pr_2 h)) dX10_step_70
            · replace h := it_f c16 h
              refine lv_iload_n hx hb dX10_step_57 rfl (lv_at hl 3 rfl) ?_
              refine lv_aload_n hx hb dX10_step_58 rfl (lv_at hl 0 rfl) ?_
              refine r_get (v := .ref (gA G 36)) hC inX10 hP (e_0 G _) rfl 5 (by decide) rfl k237 rfl dX10_step_59 ?_
              refine rc_i hS (run_V hC wX0_size k559 (e_36 G _) rfl hP hS (As := []) (rest := [.int p3]) (mX0_size l G Rm rfl) rfl hl.1 (Nat.le_of_ble_eq_true rfl) ⟨by decide, by decide⟩ ⟨Nat.le_refl _, Nat.le_refl _⟩ rfl dX10_step_62) (fun H locs pb18 hP hS => ?_)
              refine lv_icmp_lt (tgt := 71) hx hb dX10_step_65 (by decide) (fun c19 => ?_) (fun c19 => ?_)
              · replace h := it_t c19 h
                refine lv_aload_n hx hb dX10_step_71 rfl (lv_at hl 0 rfl) ?_
                refine r_get (v := .ref (gA G 36)) hC inX10 hP (e_0 G _) rfl 5 (by decide) rfl k237 rfl dX10_step_72 ?_
                refine lv_iload_n hx hb dX10_step_75 rfl (lv_at hl 3 rfl) ?_
                refine lv_iload hx hb dX10_step_76 (lv_at hl 4 rfl) ?_
                obtain ⟨r21, hq20, h⟩ := bn_x h
                refine rc_i hS (run_V hC wX0_told k568 (e_36 G _) rfl hP hS (As := [.int p3, .int p4]) (rest := []) (mX0_told l G Rm hq20) rfl hl.1 (Nat.le_of_ble_eq_true rfl) ⟨by decide, by decide⟩ ⟨Nat.le_refl _, Nat.le_refl _⟩ rfl dX10_step_78) (fun H locs pb22 hP hS => ?_)
                exact re_i' hC hr hP hS (pr_1 h) (congrArg (fun Z : Mm => (Z, Rm)) (pr_2 h)) dX10_step_81
              · replace h := it_f c19 h
                refine lv_ldc hx hb (v := (-2000000000)) hown (hts _ k567) dX10_step_68 ?_
                exact re_i' hC hr hP hS (pr_1 h) (congrArg (fun Z : Mm => (Z, Rm)) (pr_2 h)) dX10_step_70
        · replace h := it_f c8 h
          refine lv_ldc hx hb (v := (-2000000000)) hown (hts _ k567) dX10_step_26 ?_
          exact re_i' hC hr hP hS (pr_1 h) (congrArg (fun Z : Mm => (Z, Rm)) (pr_2 h)) dX10_step_28
set_option maxHeartbeats 4000000 in
set_option maxRecDepth 100000 in
theorem mX10_reckonChosen (l : Launch) (G : gp) (Rm : Mm) {n : Nat} {j1 : Nat} (hj1 : j1 < 7) {p2 : Int32} {C : Mm} {r0 : Int32} {C0 : Mm} (h : fX10_reckonChosen n j1 p2 C = some (r0, C0)) : Met l yX10_reckonChosen (wsy yX10_reckonChosen cX10_reckonChosen 4 (some .int)) (rmv 5 141) (va_Pc [.ref (gA G 0), .ref (gA G (hdc j1)), .int p2] (Rl G (C, Rm))) (Qi G PT r0 (C0, Rm)) 0 0 (lwA G) := by
  refine met_i [.ref (gA G 0), .ref (gA G (hdc j1)), .int p2] wX10_reckonChosen.2.2.2.2.2 (Nat.le_of_ble_eq_true rfl) ?_
  intro p e s m args below meth c ls hC hr hP hl
  have hC : Cx G p s m args meth c cX10_reckonChosen RX10 4 := hC
  have hx := hC.1
  have hb := hC.2.1
  have hown := hC.2.2.2.1
  have hts := hC.2.2.2.2.1
  have hS : va_S (lwA G) s.heap s.heap [] := va_S.rf
  have hl : lv_has ls 4 [(0, .ref (gA G 0)), (1, .ref (gA G (hdc j1))), (2, .int p2)] := hl
  unfold fX10_reckonChosen at h
  refine lv_aload_n hx hb dX10_reckonChosen_0 rfl (lv_at hl 0 rfl) ?_
  refine r_get (v := .ref (gA G 32)) hC inX10 hP (e_0 G _) rfl 4 (by decide) rfl k236 rfl dX10_reckonChosen_1 ?_
  refine lv_aload_n hx hb dX10_reckonChosen_4 rfl (lv_at hl 1 rfl) ?_
  refine lv_iload_n hx hb dX10_reckonChosen_5 rfl (lv_at hl 2 rfl) ?_
  obtain ⟨r2, C3, hq1, h⟩ := bp_x h
  refine rc_i hS (run_V hC wX3_numberFor k581 (e_32 G _) rfl hP hS (As := [.ref (gA G (hdc j1)), .int p2]) (rest := []) (mX3_numberFor l G Rm hj1 hq1) rfl hl.1 (Nat.le_of_ble_eq_true rfl) ⟨by decide, by decide⟩ ⟨Nat.le_refl _, Nat.le_refl _⟩ rfl dX10_reckonChosen_6) (fun H locs pb4 hP hS => ?_)
  refine lv_istore_n (lv' := [(3, .int r2), (0, .ref (gA G 0)), (1, .ref (gA G (hdc j1))), (2, .int p2)]) hx hb dX10_reckonChosen_9 rfl hl (by decide) rfl (fun ls hl => ?_)
  refine lv_aload_n hx hb dX10_reckonChosen_10 rfl (lv_at hl 1 rfl) ?_
  refine r_get (v := .ref (gA G 36)) hC inX10 hP (e_0 G _) rfl 5 (by decide) rfl k237 rfl dX10_reckonChosen_11 ?_
  refine lv_aload_n hx hb dX10_reckonChosen_14 rfl (lv_at hl 2 rfl) ?_
  refine lv_iload_n hx hb dX10_reckonChosen_15 rfl (lv_at hl 0 rfl) ?_
  refine lv_iload_n hx hb dX10_reckonChosen_16 rfl (lv_at hl 3 rfl) ?_
  obtain ⟨r6, C7, hq5, h⟩ := bp_x h
  refine rc_i hS (run_V hC wX0_reckon k452 (e_36 G _) rfl hP hS (As := [.ref (gA G (hdc j1)), .int r2, .int p2]) (rest := []) (mX0_reckon l G Rm hj1 hq5) rfl hl.1 (Nat.le_of_ble_eq_true rfl) ⟨by decide, by decide⟩ ⟨Nat.le_refl _, Nat.le_refl _⟩ rfl dX10_reckonChosen_17) (fun H locs pb8 hP hS => ?_)
  refine lv_if_eq (tgt := 25) hx hb dX10_reckonChosen_20 (by decide) (fun c9 => ?_) (fun c9 => ?_)
  · replace h := it_t c9 h
    refine lv_aload_n hx hb dX10_reckonChosen_25 rfl (lv_at hl 1 rfl) ?_
    refine r_get (v := .ref (gA G 36)) hC inX10 hP (e_0 G _) rfl 5 (by decide) rfl k237 rfl dX10_reckonChosen_26 ?_
    refine lv_aload_n hx hb dX10_reckonChosen_29 rfl (lv_at hl 2 rfl) ?_
    refine lv_iconst (v := 1) hx hb dX10_reckonChosen_30 (by decide) ?_
    refine lv_iload_n hx hb dX10_reckonChosen_31 rfl (lv_at hl 3 rfl) ?_
    obtain ⟨r11, C12, hq10, h⟩ := bp_x h
    refine rc_i hS (run_V hC wX0_reckon k452 (e_36 G _) rfl hP hS (As := [.ref (gA G (hdc j1)), .int 1, .int p2]) (rest := []) (mX0_reckon l G Rm hj1 hq10) rfl hl.1 (Nat.le_of_ble_eq_true rfl) ⟨by decide, by decide⟩ ⟨Nat.le_refl _, Nat.le_refl _⟩ rfl dX10_reckonChosen_32) (fun H locs pb13 hP hS => ?_)
    refine lv_pop hx hb dX10_reckonChosen_35 rfl ?_
    refine lv_iconst (v := 1) hx hb dX10_reckonChosen_36 (by decide) ?_
    exact re_i' hC hr hP hS (pr_1 h) (congrArg (fun Z : Mm => (Z, Rm)) (pr_2 h)) dX10_reckonChosen_37
  · replace h := it_f c9 h
    refine lv_iload_n hx hb dX10_reckonChosen_23 rfl (lv_at hl 0 rfl) ?_
    exact re_i' hC hr hP hS (pr_1 h) (congrArg (fun Z : Mm => (Z, Rm)) (pr_2 h)) dX10_reckonChosen_24
set_option maxHeartbeats 4000000 in
set_option maxRecDepth 100000 in
theorem mX10_chosen (l : Launch) (G : gp) (Rm : Mm) {n : Nat} {p1 : Int32} {p2 : Int32} {C : Mm} {r0 : Int32} {C0 : Mm} (h : fX10_chosen n p1 p2 C = some (r0, C0)) : Met l yX10_chosen (wsy yX10_chosen cX10_chosen 3 (some .int)) (rmv 6 164) (va_Pc [.ref (gA G 0), .int p1, .int p2] (Rl G (C, Rm))) (Qi G PT r0 (C0, Rm)) 0 0 (lwA G) := by
  refine met_i [.ref (gA G 0), .int p1, .int p2] wX10_chosen.2.2.2.2.2 (Nat.le_of_ble_eq_true rfl) ?_
  intro p e s m args below meth c ls hC hr hP hl
  have hC : Cx G p s m args meth c cX10_chosen RX10 3 := hC
  have hx := hC.1
  have hb := hC.2.1
  have hown := hC.2.2.2.1
  have hts := hC.2.2.2.2.1
  have hS : va_S (lwA G) s.heap s.heap [] := va_S.rf
  have hl : lv_has ls 3 [(0, .ref (gA G 0)), (1, .int p1), (2, .int p2)] := hl
  unfold fX10_chosen at h
  refine lv_aload_n hx hb dX10_chosen_0 rfl (lv_at hl 0 rfl) ?_
  refine lv_iload_n hx hb dX10_chosen_1 rfl (lv_at hl 1 rfl) ?_
  refine rc_i hS (run_V hC wX10_isHead k336 (e_0 G _) rfl hP hS (As := [.int p1]) (rest := []) (mX10_isHead l G Rm rfl) rfl hl.1 (Nat.le_of_ble_eq_true rfl) ⟨by decide, by decide⟩ ⟨Nat.le_refl _, Nat.le_refl _⟩ rfl dX10_chosen_2) (fun H locs pb2 hP hS => ?_)
  refine lv_if_eq (tgt := 15) hx hb dX10_chosen_5 (by decide) (fun c3 => ?_) (fun c3 => ?_)
  · replace h := it_t c3 h
    refine lv_iconst (v := (-1)) hx hb dX10_chosen_15 (by decide) ?_
    exact re_i' hC hr hP hS (pr_1 h) (congrArg (fun Z : Mm => (Z, Rm)) (pr_2 h)) dX10_chosen_16
  · replace h := it_f c3 h
    refine lv_iload_n hx hb dX10_chosen_8 rfl (lv_at hl 2 rfl) ?_
    refine rc_i hS (run_S hC wX10_isPair k446 hP hS (As := [.int p2]) (rest := []) (mX10_isPair l G Rm rfl) rfl hl.1 (Nat.le_of_ble_eq_true rfl) ⟨by decide, by decide⟩ ⟨Nat.le_refl _, Nat.le_refl _⟩ rfl dX10_chosen_9) (fun H locs pb5 hP hS => ?_)
    refine lv_if_ne (tgt := 17) hx hb dX10_chosen_12 (by decide) (fun c6 => ?_) (fun c6 => ?_)
    · replace h := it_f c6 h
      refine lv_aload_n hx hb dX10_chosen_17 rfl (lv_at hl 0 rfl) ?_
      refine lv_aload_n hx hb dX10_chosen_18 rfl (lv_at hl 0 rfl) ?_
      refine r_get (v := .ref (gA G 3)) hC inX10 hP (e_0 G _) rfl 1 (by decide) rfl k233 rfl dX10_chosen_19 ?_
      refine lv_iload_n hx hb dX10_chosen_22 rfl (lv_at hl 1 rfl) ?_
      by_cases c7 : p1 < (0 : Int32) ∨ 6 ≤ Int32.toNatClampNeg p1
      · cases it_t c7 h
      replace h := it_f c7 h
      refine r_hd hC hP c7 dX10_chosen_23 (fun hj8 => ?_)
      refine lv_iload_n hx hb dX10_chosen_24 rfl (lv_at hl 2 rfl) ?_
      obtain ⟨r10, C11, hq9, h⟩ := bp_x h
      refine rc_i hS (run_V hC wX10_reckonChosen k577 (e_0 G _) rfl hP hS (As := [.ref (gA G (hdc (Int32.toNatClampNeg p1))), .int p2]) (rest := []) (mX10_reckonChosen l G Rm (Nat.lt_trans hj8 (by decide)) hq9) rfl hl.1 (Nat.le_of_ble_eq_true rfl) ⟨by decide, by decide⟩ ⟨Nat.le_refl _, Nat.le_refl _⟩ rfl dX10_chosen_25) (fun H locs pb12 hP hS => ?_)
      exact re_i' hC hr hP hS (pr_1 h) (congrArg (fun Z : Mm => (Z, Rm)) (pr_2 h)) dX10_chosen_28
    · replace h := it_t c6 h
      refine lv_iconst (v := (-1)) hx hb dX10_chosen_15 (by decide) ?_
      exact re_i' hC hr hP hS (pr_1 h) (congrArg (fun Z : Mm => (Z, Rm)) (pr_2 h)) dX10_chosen_16
set_option maxHeartbeats 4000000 in
set_option maxRecDepth 100000 in
theorem mX10_productOf (l : Launch) (G : gp) (Rm : Mm) {p0 : Int32} {C : Mm} {r0 : Int32} (h : fX10_productOf p0 = r0) : Met l yX10_productOf (wsy yX10_productOf cX10_productOf 1 (some .int)) (rmv 0 0) (va_Pc [.int p0] (Rl G (C, Rm))) (Qi G PT r0 (C, Rm)) 0 0 (lwA G) := by
  refine met_i [.int p0] wX10_productOf.2.2.2.2 (Nat.le_of_ble_eq_true rfl) ?_
  intro p e s m args below meth c ls hC hr hP hl
  have hC : Cx G p s m args meth c cX10_productOf RX10 1 := hC
  have hx := hC.1
  have hb := hC.2.1
  have hown := hC.2.2.2.1
  have hts := hC.2.2.2.2.1
  have hS : va_S (lwA G) s.heap s.heap [] := va_S.rf
  have hl : lv_has ls 1 [(0, .int p0)] := hl
  unfold fX10_productOf at h
  refine lv_iload_n hx hb dX10_productOf_0 rfl (lv_at hl 0 rfl) ?_
  refine lv_sipush (v := 10000) hx hb dX10_productOf_1 (by decide) ?_
  refine lv_idiv hx hb dX10_productOf_4 (by decide) ?_
  refine lv_iload_n hx hb dX10_productOf_5 rfl (lv_at hl 0 rfl) ?_
  refine lv_sipush (v := 10000) hx hb dX10_productOf_6 (by decide) ?_
  refine r_irem hx hb dX10_productOf_9 (by decide) ?_
  refine lv_imul hx hb dX10_productOf_10 ?_
  exact re_i' hC hr hP hS h rfl dX10_productOf_11
set_option maxHeartbeats 4000000 in
set_option maxRecDepth 100000 in
theorem mX10_answer (l : Launch) (G : gp) (Rm : Mm) {n : Nat} {p1 : Int32} {p2 : Int32} {p3 : Int32} {C : Mm} {r0 : Int32} {C0 : Mm} (h : fX10_answer n p1 p2 p3 C = some (r0, C0)) : Met l yX10_answer (wsy yX10_answer cX10_answer 5 (some .int)) (rmv 5 141) (va_Pc [.ref (gA G 0), .int p1, .int p2, .int p3] (Rl G (C, Rm))) (Qi G PT r0 (C0, Rm)) 0 0 (lwA G) := by
  refine met_i [.ref (gA G 0), .int p1, .int p2, .int p3] wX10_answer.2.2.2.2.2 (Nat.le_of_ble_eq_true rfl) ?_
  intro p e s m args below meth c ls hC hr hP hl
  have hC : Cx G p s m args meth c cX10_answer RX10 5 := hC
  have hx := hC.1
  have hb := hC.2.1
  have hown := hC.2.2.2.1
  have hts := hC.2.2.2.2.1
  have hS : va_S (lwA G) s.heap s.heap [] := va_S.rf
  have hl : lv_has ls 5 [(0, .ref (gA G 0)), (1, .int p1), (2, .int p2), (3, .int p3)] := hl
  unfold fX10_answer at h
  refine lv_aload_n hx hb dX10_answer_0 rfl (lv_at hl 0 rfl) ?_
  refine lv_iload_n hx hb dX10_answer_1 rfl (lv_at hl 1 rfl) ?_
  refine rc_i hS (run_V hC wX10_isHeadAndWay k442 (e_0 G _) rfl hP hS (As := [.int p1]) (rest := []) (mX10_isHeadAndWay l G Rm rfl) rfl hl.1 (Nat.le_of_ble_eq_true rfl) ⟨by decide, by decide⟩ ⟨Nat.le_refl _, Nat.le_refl _⟩ rfl dX10_answer_2) (fun H locs pb2 hP hS => ?_)
  refine lv_if_eq (tgt := 15) hx hb dX10_answer_5 (by decide) (fun c3 => ?_) (fun c3 => ?_)
  · replace h := it_t c3 h
    refine lv_ldc hx hb (v := (-2000000000)) hown (hts _ k567) dX10_answer_15 ?_
    exact re_i' hC hr hP hS (pr_1 h) (congrArg (fun Z : Mm => (Z, Rm)) (pr_2 h)) dX10_answer_17
  · replace h := it_f c3 h
    refine lv_iload_n hx hb dX10_answer_8 rfl (lv_at hl 2 rfl) ?_
    refine rc_i hS (run_S hC wX10_isPair k446 hP hS (As := [.int p2]) (rest := []) (mX10_isPair l G Rm rfl) rfl hl.1 (Nat.le_of_ble_eq_true rfl) ⟨by decide, by decide⟩ ⟨Nat.le_refl _, Nat.le_refl _⟩ rfl dX10_answer_9) (fun H locs pb5 hP hS => ?_)
    refine lv_if_ne (tgt := 18) hx hb dX10_answer_12 (by decide) (fun c6 => ?_) (fun c6 => ?_)
    · replace h := it_f c6 h
      refine lv_aload_n hx hb dX10_answer_18 rfl (lv_at hl 0 rfl) ?_
      refine r_get (v := .ref (gA G 3)) hC inX10 hP (e_0 G _) rfl 1 (by decide) rfl k233 rfl dX10_answer_19 ?_
      refine lv_iload_n hx hb dX10_answer_22 rfl (lv_at hl 1 rfl) ?_
      refine lv_bipush (v := 10) hx hb dX10_answer_23 (by decide) ?_
      refine lv_idiv hx hb dX10_answer_25 (by decide) ?_
      by_cases c7 : (p1 / 10) < (0 : Int32) ∨ 6 ≤ Int32.toNatClampNeg (p1 / 10)
      · cases it_t c7 h
      replace h := it_f c7 h
      refine r_hd hC hP c7 dX10_answer_26 (fun hj8 => ?_)
      refine lv_astore (lv' := [(4, .ref (gA G (hdc (Int32.toNatClampNeg (p1 / 10))))), (0, .ref (gA G 0)), (1, .int p1), (2, .int p2), (3, .int p3)]) hx hb dX10_answer_27 hl (by decide) rfl (fun ls hl => ?_)
      refine lv_aload_n hx hb dX10_answer_29 rfl (lv_at hl 1 rfl) ?_
      refine r_get (v := .ref (gA G 36)) hC inX10 hP (e_0 G _) rfl 5 (by decide) rfl k237 rfl dX10_answer_30 ?_
      refine lv_aload hx hb dX10_answer_33 (lv_at hl 0 rfl) ?_
      refine lv_iload_n hx hb dX10_answer_35 rfl (lv_at hl 2 rfl) ?_
      refine lv_bipush (v := 10) hx hb dX10_answer_36 (by decide) ?_
      refine r_irem hx hb dX10_answer_38 (by decide) ?_
      refine lv_iload_n hx hb dX10_answer_39 rfl (lv_at hl 3 rfl) ?_
      obtain ⟨r10, C11, hq9, h⟩ := bp_x h
      refine rc_i hS (run_V hC wX0_reckon k452 (e_36 G _) rfl hP hS (As := [.ref (gA G (hdc (Int32.toNatClampNeg (p1 / 10)))), .int (irm p1 10), .int p2]) (rest := []) (mX0_reckon l G Rm (Nat.lt_trans hj8 (by decide)) hq9) rfl hl.1 (Nat.le_of_ble_eq_true rfl) ⟨by decide, by decide⟩ ⟨Nat.le_refl _, Nat.le_refl _⟩ rfl dX10_answer_40) (fun H locs pb12 hP hS => ?_)
      refine lv_if_ne (tgt := 49) hx hb dX10_answer_43 (by decide) (fun c13 => ?_) (fun c13 => ?_)
      · replace h := it_f c13 h
        refine lv_iload_n hx hb dX10_answer_49 rfl (lv_at hl 3 rfl) ?_
        refine rc_i hS (run_S hC wX10_productOf k617 hP hS (As := [.int p2]) (rest := []) (mX10_productOf l G Rm rfl) rfl hl.1 (Nat.le_of_ble_eq_true rfl) ⟨by decide, by decide⟩ ⟨Nat.le_refl _, Nat.le_refl _⟩ rfl dX10_answer_50) (fun H locs pb15 hP hS => ?_)
        refine lv_aload_n hx hb dX10_answer_53 rfl (lv_at hl 1 rfl) ?_
        refine r_get (v := .ref (gA G 36)) hC inX10 hP (e_0 G _) rfl 5 (by decide) rfl k237 rfl dX10_answer_54 ?_
        refine lv_iload_n hx hb dX10_answer_57 rfl (lv_at hl 4 rfl) ?_
        refine lv_aload hx hb dX10_answer_58 (lv_at hl 0 rfl) ?_
        obtain ⟨r17, hq16, h⟩ := bn_x h
        refine rc_i hS (run_V hC wX5_capacity k620 (e_hc G _ (Nat.lt_trans hj8 (by decide))) rfl hP hS (As := []) (rest := [.int p3, .ref (gA G 36), .int (fX10_productOf p2)]) (mX5_capacity l G Rm (Nat.lt_trans hj8 (by decide)) hq16) rfl hl.1 (Nat.le_of_ble_eq_true rfl) ⟨by decide, by decide⟩ ⟨Nat.le_refl _, Nat.le_refl _⟩ rfl dX10_answer_60) (fun H locs pb18 hP hS => ?_)
        obtain ⟨r20, hq19, h⟩ := bn_x h
        refine rc_i hS (run_V hC wX0_slipsDrawn k621 (e_36 G _) rfl hP hS (As := [.int p3, .int r17]) (rest := [.int (fX10_productOf p2)]) (mX0_slipsDrawn l G Rm hq19) rfl hl.1 (Nat.le_of_ble_eq_true rfl) ⟨by decide, by decide⟩ ⟨Nat.le_refl _, Nat.le_refl _⟩ rfl dX10_answer_63) (fun H locs pb21 hP hS => ?_)
        refine lv_iadd hx hb dX10_answer_66 ?_
        exact re_i' hC hr hP hS (pr_1 h) (congrArg (fun Z : Mm => (Z, Rm)) (pr_2 h)) dX10_answer_67
      · replace h := it_t c13 h
        refine lv_ldc hx hb (v := (-2000000000)) hown (hts _ k567) dX10_answer_46 ?_
        exact re_i' hC hr hP hS (pr_1 h) (congrArg (fun Z : Mm => (Z, Rm)) (pr_2 h)) dX10_answer_48
    · replace h := it_t c6 h
      refine lv_ldc hx hb (v := (-2000000000)) hown (hts _ k567) dX10_answer_15 ?_
      exact re_i' hC hr hP hS (pr_1 h) (congrArg (fun Z : Mm => (Z, Rm)) (pr_2 h)) dX10_answer_17
set_option maxHeartbeats 4000000 in
set_option maxRecDepth 100000 in
theorem mX10_quickest (l : Launch) (G : gp) (Rm : Mm) {n : Nat} {p1 : Int32} {p2 : Int32} {p3 : Int32} {C : Mm} {r0 : Int32} {C0 : Mm} (h : fX10_quickest n p1 p2 p3 C = some (r0, C0)) : Met l yX10_quickest (wsy yX10_quickest cX10_quickest 7 (some .int)) (rmv 5 141) (va_Pc [.ref (gA G 0), .int p1, .int p2, .int p3] (Rl G (C, Rm))) (Qi G PT r0 (C0, Rm)) 0 0 (lwA G) := by
  refine met_i [.ref (gA G 0), .int p1, .int p2, .int p3] wX10_quickest.2.2.2.2.2 (Nat.le_of_ble_eq_true rfl) ?_
  intro p e s m args below meth c ls hC hr hP hl
  have hC : Cx G p s m args meth c cX10_quickest RX10 7 := hC
  have hx := hC.1
  have hb := hC.2.1
  have hown := hC.2.2.2.1
  have hts := hC.2.2.2.2.1
  have hS : va_S (lwA G) s.heap s.heap [] := va_S.rf
  have hl : lv_has ls 7 [(0, .ref (gA G 0)), (1, .int p1), (2, .int p2), (3, .int p3)] := hl
  have bl107 : ∀ (k38 : Int32 → Int32 → Int32 → Int32 → Int32 → Int32 → Mm → Option (Int32 × Mm)) (hk38 : ∀ (y1 : Int32) (y2 : Int32) (y3 : Int32) (y4 : Int32) (y5 : Int32) (y6 : Int32) (C : Mm) (H : Heap) (locs : List Loc) (ls : Array Slot), k38 y1 y2 y3 y4 y5 y6 C = some (r0, C0) → lv_has ls 7 [(0, .ref (gA G 0)), (1, .int y1), (2, .int y2), (3, .int y3), (4, .int y4), (5, .int y5), (6, .int y6)] → va_P (gD G) vwCl (wld G (C, Rm)) H → va_S (lwA G) s.heap H locs → W p l e (rmv 5 141) s m args below meth c H locs 0 0 (MQ below (Qi G PT r0 (C0, Rm)) args s 0 0 (lwA G)) (F0 m 38 ls [])), ∀ (y1 : Int32) (y2 : Int32) (y3 : Int32) (y4 : Int32) (y5 : Int32) (y6 : Int32) (C : Mm) (H : Heap) (locs : List Loc) (ls : Array Slot), fX10_quickest_b107 n k38 y1 y2 y3 y4 y5 y6 C = some (r0, C0) → lv_has ls 7 [(0, .ref (gA G 0)), (1, .int y1), (2, .int y2), (3, .int y3), (4, .int y4), (5, .int y5), (6, .int y6)] → va_P (gD G) vwCl (wld G (C, Rm)) H → va_S (lwA G) s.heap H locs → W p l e (rmv 5 141) s m args below meth c H locs 0 0 (MQ below (Qi G PT r0 (C0, Rm)) args s 0 0 (lwA G)) (F0 m 107 ls []) := by
    intro k38 hk38 y1 y2 y3 y4 y5 y6 C H locs ls h hl hP hS
    unfold fX10_quickest_b107 at h
    obtain ⟨x1, ex1⟩ : ∃ y : Int32, y = y6 + 1 := ⟨_, rfl⟩
    replace h := lt_y ex1 h
    refine lv_iinc (v := x1) (lv' := [(6, .int x1), (0, .ref (gA G 0)), (1, .int y1), (2, .int y2), (3, .int y3), (4, .int y4), (5, .int y5)]) hx hb dX10_quickest_107 hl (k := 6) rfl (by rw [ex1]; rfl) (by decide) rfl (fun ls hl => ?_)
    refine lv_goto (tgt := 38) hx hb dX10_quickest_110 (by decide) ?_
    exact hk38 y1 y2 y3 y4 y5 x1 C _ _ _ h (lv_sub hl [1, 2, 3, 4, 5, 6, 0] rfl) hP hS
  have bl94 : ∀ (k38 : Int32 → Int32 → Int32 → Int32 → Int32 → Int32 → Mm → Option (Int32 × Mm)) (hk38 : ∀ (y1 : Int32) (y2 : Int32) (y3 : Int32) (y4 : Int32) (y5 : Int32) (y6 : Int32) (C : Mm) (H : Heap) (locs : List Loc) (ls : Array Slot), k38 y1 y2 y3 y4 y5 y6 C = some (r0, C0) → lv_has ls 7 [(0, .ref (gA G 0)), (1, .int y1), (2, .int y2), (3, .int y3), (4, .int y4), (5, .int y5), (6, .int y6)] → va_P (gD G) vwCl (wld G (C, Rm)) H → va_S (lwA G) s.heap H locs → W p l e (rmv 5 141) s m args below meth c H locs 0 0 (MQ below (Qi G PT r0 (C0, Rm)) args s 0 0 (lwA G)) (F0 m 38 ls [])), ∀ (y1 : Int32) (y2 : Int32) (y3 : Int32) (y6 : Int32) (C : Mm) (H : Heap) (locs : List Loc) (ls : Array Slot), fX10_quickest_b94 n k38 y1 y2 y3 y6 C = some (r0, C0) → lv_has ls 7 [(0, .ref (gA G 0)), (1, .int y1), (2, .int y2), (3, .int y3), (6, .int y6)] → va_P (gD G) vwCl (wld G (C, Rm)) H → va_S (lwA G) s.heap H locs → W p l e (rmv 5 141) s m args below meth c H locs 0 0 (MQ below (Qi G PT r0 (C0, Rm)) args s 0 0 (lwA G)) (F0 m 94 ls []) := by
    intro k38 hk38 y1 y2 y3 y6 C H locs ls h hl hP hS
    unfold fX10_quickest_b94 at h
    refine lv_iload hx hb dX10_quickest_94 (lv_at hl 4 rfl) ?_
    refine lv_istore (lv' := [(4, .int y6), (0, .ref (gA G 0)), (1, .int y1), (2, .int y2), (3, .int y3), (6, .int y6)]) hx hb dX10_quickest_96 hl (by decide) rfl (fun ls hl => ?_)
    refine lv_aload_n hx hb dX10_quickest_98 rfl (lv_at hl 1 rfl) ?_
    refine r_get (v := .ref (gA G 36)) hC inX10 hP (e_0 G _) rfl 5 (by decide) rfl k237 rfl dX10_quickest_99 ?_
    refine rc_i hS (run_V hC wX0_seconds k551 (e_36 G _) rfl hP hS (As := []) (rest := []) (mX0_seconds l G Rm rfl) rfl hl.1 (Nat.le_of_ble_eq_true rfl) ⟨by decide, by decide⟩ ⟨Nat.le_refl _, Nat.le_refl _⟩ rfl dX10_quickest_102) (fun H locs pb3 hP hS => ?_)
    refine lv_topi (fun x4 ex4 => ?_)
    replace h := lt_y ex4 h
    refine lv_istore (lv' := [(5, .int x4), (4, .int y6), (0, .ref (gA G 0)), (1, .int y1), (2, .int y2), (3, .int y3), (6, .int y6)]) hx hb dX10_quickest_105 hl (by decide) rfl (fun ls hl => ?_)
    exact bl107 k38 hk38 y1 y2 y3 y6 x4 y6 C _ _ _ h (lv_sub hl [2, 3, 4, 5, 1, 0, 6] rfl) hP hS
  have bl38 : ∀ (fu : Nat), ∀ (y1 : Int32) (y2 : Int32) (y3 : Int32) (y4 : Int32) (y5 : Int32) (y6 : Int32) (C : Mm) (H : Heap) (locs : List Loc) (ls : Array Slot), fX10_quickest_h38 n fu y1 y2 y3 y4 y5 y6 C = some (r0, C0) → lv_has ls 7 [(0, .ref (gA G 0)), (1, .int y1), (2, .int y2), (3, .int y3), (4, .int y4), (5, .int y5), (6, .int y6)] → va_P (gD G) vwCl (wld G (C, Rm)) H → va_S (lwA G) s.heap H locs → W p l e (rmv 5 141) s m args below meth c H locs 0 0 (MQ below (Qi G PT r0 (C0, Rm)) args s 0 0 (lwA G)) (F0 m 38 ls []) := by
    intro fu
    induction fu with
    | zero =>
      intro y1 y2 y3 y4 y5 y6 C H locs ls h hl hP hS
      rw [fX10_quickest_h38.eq_1] at h
      cases h
    | succ fu ih =>
      intro y1 y2 y3 y4 y5 y6 C H locs ls h hl hP hS
      rw [fX10_quickest_h38.eq_2] at h
      refine lv_iload hx hb dX10_quickest_38 (lv_at hl 6 rfl) ?_
      refine lv_bipush (v := 7) hx hb dX10_quickest_40 (by decide) ?_
      refine lv_icmp_ge (tgt := 113) hx hb dX10_quickest_42 (by decide) (fun c5 => ?_) (fun c5 => ?_)
      · replace h := it_t c5 h
        refine lv_iload hx hb dX10_quickest_113 (lv_at hl 4 rfl) ?_
        exact re_i' hC hr hP hS (pr_1 h) (congrArg (fun Z : Mm => (Z, Rm)) (pr_2 h)) dX10_quickest_115
      · replace h := it_f c5 h
        refine lv_aload_n hx hb dX10_quickest_45 rfl (lv_at hl 0 rfl) ?_
        refine r_get (v := .ref (gA G 36)) hC inX10 hP (e_0 G _) rfl 5 (by decide) rfl k237 rfl dX10_quickest_46 ?_
        refine lv_aload_n hx hb dX10_quickest_49 rfl (lv_at hl 0 rfl) ?_
        refine r_get (v := .ref (gA G 3)) hC inX10 hP (e_0 G _) rfl 1 (by decide) rfl k233 rfl dX10_quickest_50 ?_
        refine lv_iload_n hx hb dX10_quickest_53 rfl (lv_at hl 1 rfl) ?_
        by_cases c6 : y1 < (0 : Int32) ∨ 6 ≤ Int32.toNatClampNeg y1
        · cases it_t c6 h
        replace h := it_f c6 h
        refine r_hd hC hP c6 dX10_quickest_54 (fun hj7 => ?_)
        refine lv_iload hx hb dX10_quickest_55 (lv_at hl 6 rfl) ?_
        refine lv_iload_n hx hb dX10_quickest_57 rfl (lv_at hl 2 rfl) ?_
        obtain ⟨r9, C10, hq8, h⟩ := bp_x h
        refine rc_i hS (run_V hC wX0_reckon k452 (e_36 G _) rfl hP hS (As := [.ref (gA G (hdc (Int32.toNatClampNeg y1))), .int y6, .int y2]) (rest := []) (mX0_reckon l G Rm (Nat.lt_trans hj7 (by decide)) hq8) rfl hl.1 (Nat.le_of_ble_eq_true rfl) ⟨by decide, by decide⟩ ⟨Nat.le_refl _, Nat.le_refl _⟩ rfl dX10_quickest_58) (fun H locs pb11 hP hS => ?_)
        refine lv_if_eq (tgt := 107) hx hb dX10_quickest_61 (by decide) (fun c12 => ?_) (fun c12 => ?_)
        · replace h := it_t c12 h
          exact bl107 (fX10_quickest_h38 n fu) ih y1 y2 y3 y4 y5 y6 C10 _ _ _ h (lv_sub hl [0, 1, 2, 3, 4, 5, 6] rfl) hP hS
        · replace h := it_f c12 h
          refine lv_aload_n hx hb dX10_quickest_64 rfl (lv_at hl 0 rfl) ?_
          refine r_get (v := .ref (gA G 36)) hC inX10 hP (e_0 G _) rfl 5 (by decide) rfl k237 rfl dX10_quickest_65 ?_
          refine rc_i hS (run_V hC wX0_holds k555 (e_36 G _) rfl hP hS (As := []) (rest := []) (mX0_holds l G Rm rfl) rfl hl.1 (Nat.le_of_ble_eq_true rfl) ⟨by decide, by decide⟩ ⟨Nat.le_refl _, Nat.le_refl _⟩ rfl dX10_quickest_68) (fun H locs pb14 hP hS => ?_)
          refine lv_iload_n hx hb dX10_quickest_71 rfl (lv_at hl 3 rfl) ?_
          refine lv_icmp_gt (tgt := 107) hx hb dX10_quickest_72 (by decide) (fun c15 => ?_) (fun c15 => ?_)
          · replace h := it_t c15 h
            exact bl107 (fX10_quickest_h38 n fu) ih y1 y2 y3 y4 y5 y6 C10 _ _ _ h (lv_sub hl [0, 1, 2, 3, 4, 5, 6] rfl) hP hS
          · replace h := it_f c15 h
            refine lv_iload hx hb dX10_quickest_75 (lv_at hl 4 rfl) ?_
            refine lv_bipush (v := (-2)) hx hb dX10_quickest_77 (by decide) ?_
            refine lv_icmp_eq (tgt := 94) hx hb dX10_quickest_79 (by decide) (fun c16 => ?_) (fun c16 => ?_)
            · replace h := it_t c16 h
              exact bl94 (fX10_quickest_h38 n fu) ih y1 y2 y3 y6 C10 _ _ _ h (lv_sub hl [0, 1, 2, 3, 6] rfl) hP hS
            · replace h := it_f c16 h
              refine lv_aload_n hx hb dX10_quickest_82 rfl (lv_at hl 0 rfl) ?_
              refine r_get (v := .ref (gA G 36)) hC inX10 hP (e_0 G _) rfl 5 (by decide) rfl k237 rfl dX10_quickest_83 ?_
              refine rc_i hS (run_V hC wX0_seconds k551 (e_36 G _) rfl hP hS (As := []) (rest := []) (mX0_seconds l G Rm rfl) rfl hl.1 (Nat.le_of_ble_eq_true rfl) ⟨by decide, by decide⟩ ⟨Nat.le_refl _, Nat.le_refl _⟩ rfl dX10_quickest_86) (fun H locs pb18 hP hS => ?_)
              refine lv_iload hx hb dX10_quickest_89 (lv_at hl 5 rfl) ?_
              refine lv_icmp_ge (tgt := 107) hx hb dX10_quickest_91 (by decide) (fun c19 => ?_) (fun c19 => ?_)
              · replace h := it_t c19 h
                exact bl107 (fX10_quickest_h38 n fu) ih y1 y2 y3 y4 y5 y6 C10 _ _ _ h (lv_sub hl [0, 1, 2, 3, 4, 5, 6] rfl) hP hS
              · replace h := it_f c19 h
                exact bl94 (fX10_quickest_h38 n fu) ih y1 y2 y3 y6 C10 _ _ _ h (lv_sub hl [0, 1, 2, 3, 6] rfl) hP hS
  unfold fX10_quickest at h
  refine lv_aload_n hx hb dX10_quickest_0 rfl (lv_at hl 0 rfl) ?_
  refine lv_iload_n hx hb dX10_quickest_1 rfl (lv_at hl 1 rfl) ?_
  refine rc_i hS (run_V hC wX10_isHead k336 (e_0 G _) rfl hP hS (As := [.int p1]) (rest := []) (mX10_isHead l G Rm rfl) rfl hl.1 (Nat.le_of_ble_eq_true rfl) ⟨by decide, by decide⟩ ⟨Nat.le_refl _, Nat.le_refl _⟩ rfl dX10_quickest_2) (fun H locs pb21 hP hS => ?_)
  refine lv_if_eq (tgt := 26) hx hb dX10_quickest_5 (by decide) (fun c22 => ?_) (fun c22 => ?_)
  · replace h := it_t c22 h
    refine lv_iconst (v := (-1)) hx hb dX10_quickest_26 (by decide) ?_
    exact re_i' hC hr hP hS (pr_1 h) (congrArg (fun Z : Mm => (Z, Rm)) (pr_2 h)) dX10_quickest_27
  · replace h := it_f c22 h
    refine lv_iload_n hx hb dX10_quickest_8 rfl (lv_at hl 2 rfl) ?_
    refine rc_i hS (run_S hC wX10_isPair k446 hP hS (As := [.int p2]) (rest := []) (mX10_isPair l G Rm rfl) rfl hl.1 (Nat.le_of_ble_eq_true rfl) ⟨by decide, by decide⟩ ⟨Nat.le_refl _, Nat.le_refl _⟩ rfl dX10_quickest_9) (fun H locs pb24 hP hS => ?_)
    refine lv_if_eq (tgt := 26) hx hb dX10_quickest_12 (by decide) (fun c25 => ?_) (fun c25 => ?_)
    · replace h := it_t c25 h
      refine lv_iconst (v := (-1)) hx hb dX10_quickest_26 (by decide) ?_
      exact re_i' hC hr hP hS (pr_1 h) (congrArg (fun Z : Mm => (Z, Rm)) (pr_2 h)) dX10_quickest_27
    · replace h := it_f c25 h
      refine lv_iload_n hx hb dX10_quickest_15 rfl (lv_at hl 3 rfl) ?_
      refine lv_iconst (v := 1) hx hb dX10_quickest_16 (by decide) ?_
      refine lv_icmp_lt (tgt := 26) hx hb dX10_quickest_17 (by decide) (fun c26 => ?_) (fun c26 => ?_)
      · replace h := it_t c26 h
        refine lv_iconst (v := (-1)) hx hb dX10_quickest_26 (by decide) ?_
        exact re_i' hC hr hP hS (pr_1 h) (congrArg (fun Z : Mm => (Z, Rm)) (pr_2 h)) dX10_quickest_27
      · replace h := it_f c26 h
        refine lv_iload_n hx hb dX10_quickest_20 rfl (lv_at hl 3 rfl) ?_
        refine lv_bipush (v := 99) hx hb dX10_quickest_21 (by decide) ?_
        refine lv_icmp_le (tgt := 28) hx hb dX10_quickest_23 (by decide) (fun c27 => ?_) (fun c27 => ?_)
        · replace h := it_t c27 h
          refine lv_bipush (v := (-2)) hx hb dX10_quickest_28 (by decide) ?_
          refine lv_istore (lv' := [(4, .int (-2)), (0, .ref (gA G 0)), (1, .int p1), (2, .int p2), (3, .int p3)]) hx hb dX10_quickest_30 hl (by decide) rfl (fun ls hl => ?_)
          refine lv_iconst (v := 0) hx hb dX10_quickest_32 (by decide) ?_
          refine lv_istore (lv' := [(5, .int 0), (4, .int (-2)), (0, .ref (gA G 0)), (1, .int p1), (2, .int p2), (3, .int p3)]) hx hb dX10_quickest_33 hl (by decide) rfl (fun ls hl => ?_)
          refine lv_iconst (v := 0) hx hb dX10_quickest_35 (by decide) ?_
          refine lv_istore (lv' := [(6, .int 0), (5, .int 0), (4, .int (-2)), (0, .ref (gA G 0)), (1, .int p1), (2, .int p2), (3, .int p3)]) hx hb dX10_quickest_36 hl (by decide) rfl (fun ls hl => ?_)
          exact bl38 n p1 p2 p3 (-2) 0 0 C _ _ _ h (lv_sub hl [3, 4, 5, 6, 2, 1, 0] rfl) hP hS
        · replace h := it_f c27 h
          refine lv_iconst (v := (-1)) hx hb dX10_quickest_26 (by decide) ?_
          exact re_i' hC hr hP hS (pr_1 h) (congrArg (fun Z : Mm => (Z, Rm)) (pr_2 h)) dX10_quickest_27
set_option maxHeartbeats 4000000 in
set_option maxRecDepth 100000 in
theorem mX10_table (l : Launch) (G : gp) (Rm : Mm) {n : Nat} {p1 : Int32} {p2 : Int32} {p3 : Int32} {C : Mm} {r0 : Int32} {C0 : Mm} (h : fX10_table n p1 p2 p3 C = some (r0, C0)) : Met l yX10_table (wsy yX10_table cX10_table 5 (some .int)) (rmv 6 164) (va_Pc [.ref (gA G 0), .int p1, .int p2, .int p3] (Rl G (C, Rm))) (Qi G PT r0 (C0, Rm)) 0 0 (lwA G) := by
  refine met_i [.ref (gA G 0), .int p1, .int p2, .int p3] wX10_table.2.2.2.2.2 (Nat.le_of_ble_eq_true rfl) ?_
  intro p e s m args below meth c ls hC hr hP hl
  have hC : Cx G p s m args meth c cX10_table RX10 5 := hC
  have hx := hC.1
  have hb := hC.2.1
  have hown := hC.2.2.2.1
  have hts := hC.2.2.2.2.1
  have hS : va_S (lwA G) s.heap s.heap [] := va_S.rf
  have hl : lv_has ls 5 [(0, .ref (gA G 0)), (1, .int p1), (2, .int p2), (3, .int p3)] := hl
  have bl34 : ∀ (fu : Nat), ∀ (y2 : Int32) (y3 : Int32) (y4 : Int32) (C : Mm) (H : Heap) (locs : List Loc) (ls : Array Slot), fX10_table_h34 n fu y2 y3 y4 C = some (r0, C0) → lv_has ls 5 [(0, .ref (gA G 0)), (2, .int y2), (3, .int y3), (4, .int y4)] → va_P (gD G) vwCl (wld G (C, Rm)) H → va_S (lwA G) s.heap H locs → W p l e (rmv 6 164) s m args below meth c H locs 0 0 (MQ below (Qi G PT r0 (C0, Rm)) args s 0 0 (lwA G)) (F0 m 34 ls []) := by
    intro fu
    induction fu with
    | zero =>
      intro y2 y3 y4 C H locs ls h hl hP hS
      rw [fX10_table_h34.eq_1] at h
      cases h
    | succ fu ih =>
      intro y2 y3 y4 C H locs ls h hl hP hS
      rw [fX10_table_h34.eq_2] at h
      refine lv_iload hx hb dX10_table_34 (lv_at hl 3 rfl) ?_
      refine lv_bipush (v := 99) hx hb dX10_table_36 (by decide) ?_
      refine lv_icmp_gt (tgt := 81) hx hb dX10_table_38 (by decide) (fun c1 => ?_) (fun c1 => ?_)
      · replace h := it_t c1 h
        refine lv_bipush (v := (-2)) hx hb dX10_table_81 (by decide) ?_
        exact re_i' hC hr hP hS (pr_1 h) (congrArg (fun Z : Mm => (Z, Rm)) (pr_2 h)) dX10_table_83
      · replace h := it_f c1 h
        refine lv_aload_n hx hb dX10_table_41 rfl (lv_at hl 0 rfl) ?_
        refine r_get (v := .ref (gA G (hdc 6))) hC inX10 hP (e_0 G _) rfl 3 (by decide) rfl k235 rfl dX10_table_42 ?_
        refine lv_iconst (v := 3) hx hb dX10_table_45 (by decide) ?_
        refine lv_iload hx hb dX10_table_46 (lv_at hl 3 rfl) ?_
        obtain ⟨C3, hq2, h⟩ := bn_x h
        refine rc_v hS (run_V hC wX5_setNumber k362 (e_hc G _ (show 6 < 7 by decide)) rfl hP hS (As := [.int 3, .int y4]) (rest := []) (mX5_setNumber l G Rm (show 6 < 7 by decide) hq2) rfl hl.1 (Nat.le_of_ble_eq_true rfl) ⟨by decide, by decide⟩ ⟨Nat.le_refl _, Nat.le_refl _⟩ rfl dX10_table_48) (fun H locs hP hS => ?_)
        refine lv_aload_n hx hb dX10_table_51 rfl (lv_at hl 0 rfl) ?_
        refine lv_aload_n hx hb dX10_table_52 rfl (lv_at hl 0 rfl) ?_
        refine r_get (v := .ref (gA G (hdc 6))) hC inX10 hP (e_0 G _) rfl 3 (by decide) rfl k235 rfl dX10_table_53 ?_
        refine lv_iload_n hx hb dX10_table_56 rfl (lv_at hl 1 rfl) ?_
        obtain ⟨r5, C6, hq4, h⟩ := bp_x h
        refine rc_i hS (run_V hC wX10_reckonChosen k577 (e_0 G _) rfl hP hS (As := [.ref (gA G (hdc 6)), .int y2]) (rest := []) (mX10_reckonChosen l G Rm (show 6 < 7 by decide) hq4) rfl hl.1 (Nat.le_of_ble_eq_true rfl) ⟨by decide, by decide⟩ ⟨Nat.le_refl _, Nat.le_refl _⟩ rfl dX10_table_57) (fun H locs pb7 hP hS => ?_)
        refine lv_pop hx hb dX10_table_60 rfl ?_
        refine lv_aload_n hx hb dX10_table_61 rfl (lv_at hl 0 rfl) ?_
        refine r_get (v := .ref (gA G 36)) hC inX10 hP (e_0 G _) rfl 5 (by decide) rfl k237 rfl dX10_table_62 ?_
        refine rc_i hS (run_V hC wX0_seconds k551 (e_36 G _) rfl hP hS (As := []) (rest := []) (mX0_seconds l G Rm rfl) rfl hl.1 (Nat.le_of_ble_eq_true rfl) ⟨by decide, by decide⟩ ⟨Nat.le_refl _, Nat.le_refl _⟩ rfl dX10_table_65) (fun H locs pb9 hP hS => ?_)
        refine lv_iload_n hx hb dX10_table_68 rfl (lv_at hl 2 rfl) ?_
        refine lv_icmp_gt (tgt := 75) hx hb dX10_table_69 (by decide) (fun c10 => ?_) (fun c10 => ?_)
        · replace h := it_t c10 h
          obtain ⟨x11, ex11⟩ : ∃ y : Int32, y = y4 + 1 := ⟨_, rfl⟩
          replace h := lt_y ex11 h
          refine lv_iinc (v := x11) (lv' := [(4, .int x11), (0, .ref (gA G 0)), (2, .int y2), (3, .int y3)]) hx hb dX10_table_75 hl (k := 3) rfl (by rw [ex11]; rfl) (by decide) rfl (fun ls hl => ?_)
          refine lv_goto (tgt := 34) hx hb dX10_table_78 (by decide) ?_
          exact ih y2 y3 x11 C6 _ _ _ h (lv_sub hl [1, 2, 3, 0] rfl) hP hS
        · replace h := it_f c10 h
          refine lv_iload hx hb dX10_table_72 (lv_at hl 3 rfl) ?_
          exact re_i' hC hr hP hS (pr_1 h) (congrArg (fun Z : Mm => (Z, Rm)) (pr_2 h)) dX10_table_74
  unfold fX10_table at h
  refine lv_aload_n hx hb dX10_table_0 rfl (lv_at hl 0 rfl) ?_
  refine lv_iload_n hx hb dX10_table_1 rfl (lv_at hl 1 rfl) ?_
  refine rc_i hS (run_V hC wX10_isHead k336 (e_0 G _) rfl hP hS (As := [.int p1]) (rest := []) (mX10_isHead l G Rm rfl) rfl hl.1 (Nat.le_of_ble_eq_true rfl) ⟨by decide, by decide⟩ ⟨Nat.le_refl _, Nat.le_refl _⟩ rfl dX10_table_2) (fun H locs pb13 hP hS => ?_)
  refine lv_if_eq (tgt := 15) hx hb dX10_table_5 (by decide) (fun c14 => ?_) (fun c14 => ?_)
  · replace h := it_t c14 h
    refine lv_iconst (v := (-1)) hx hb dX10_table_15 (by decide) ?_
    exact re_i' hC hr hP hS (pr_1 h) (congrArg (fun Z : Mm => (Z, Rm)) (pr_2 h)) dX10_table_16
  · replace h := it_f c14 h
    refine lv_iload_n hx hb dX10_table_8 rfl (lv_at hl 2 rfl) ?_
    refine rc_i hS (run_S hC wX10_isPair k446 hP hS (As := [.int p2]) (rest := []) (mX10_isPair l G Rm rfl) rfl hl.1 (Nat.le_of_ble_eq_true rfl) ⟨by decide, by decide⟩ ⟨Nat.le_refl _, Nat.le_refl _⟩ rfl dX10_table_9) (fun H locs pb16 hP hS => ?_)
    refine lv_if_ne (tgt := 17) hx hb dX10_table_12 (by decide) (fun c17 => ?_) (fun c17 => ?_)
    · replace h := it_f c17 h
      refine lv_aload_n hx hb dX10_table_17 rfl (lv_at hl 0 rfl) ?_
      refine r_get (v := .ref (gA G (hdc 6))) hC inX10 hP (e_0 G _) rfl 3 (by decide) rfl k235 rfl dX10_table_18 ?_
      refine lv_aload_n hx hb dX10_table_21 rfl (lv_at hl 0 rfl) ?_
      refine r_get (v := .ref (gA G 3)) hC inX10 hP (e_0 G _) rfl 1 (by decide) rfl k233 rfl dX10_table_22 ?_
      refine lv_iload_n hx hb dX10_table_25 rfl (lv_at hl 1 rfl) ?_
      by_cases c18 : p1 < (0 : Int32) ∨ 6 ≤ Int32.toNatClampNeg p1
      · cases it_t c18 h
      replace h := it_f c18 h
      refine r_hd hC hP c18 dX10_table_26 (fun hj19 => ?_)
      obtain ⟨C21, hq20, h⟩ := bn_x h
      refine rc_v hS (run_V hC wX5_become k325 (e_hc G _ (show 6 < 7 by decide)) rfl hP hS (As := [.ref (gA G (hdc (Int32.toNatClampNeg p1)))]) (rest := []) (mX5_become l G Rm (show 6 < 7 by decide) (Nat.lt_trans hj19 (by decide)) hq20) rfl hl.1 (Nat.le_of_ble_eq_true rfl) ⟨by decide, by decide⟩ ⟨Nat.le_refl _, Nat.le_refl _⟩ rfl dX10_table_27) (fun H locs hP hS => ?_)
      refine lv_bipush (v := 9) hx hb dX10_table_30 (by decide) ?_
      refine lv_istore (lv' := [(4, .int 9), (0, .ref (gA G 0)), (1, .int p1), (2, .int p2), (3, .int p3)]) hx hb dX10_table_32 hl (by decide) rfl (fun ls hl => ?_)
      exact bl34 n p2 p3 9 C21 _ _ _ h (lv_sub hl [1, 3, 4, 0] rfl) hP hS
    · replace h := it_t c17 h
      refine lv_iconst (v := (-1)) hx hb dX10_table_15 (by decide) ?_
      exact re_i' hC hr hP hS (pr_1 h) (congrArg (fun Z : Mm => (Z, Rm)) (pr_2 h)) dX10_table_16
set_option maxHeartbeats 4000000 in
set_option maxRecDepth 100000 in
theorem mX10_see (l : Launch) (G : gp) (Rm : Mm) {p1 : Int32} {p2 : Int32} {p3 : Int32} {C : Mm} {r0 : Int32} {C0 : Mm} (h : fX10_see p1 p2 p3 C = some (r0, C0)) : Met l yX10_see (wsy yX10_see cX10_see 4 (some .int)) (rmv 2 40) (va_Pc [.ref (gA G 0), .int p1, .int p2, .int p3] (Rl G (C, Rm))) (Qi G PT r0 (C0, Rm)) 0 0 (lwA G) := by
  refine met_i [.ref (gA G 0), .int p1, .int p2, .int p3] wX10_see.2.2.2.2.2 (Nat.le_of_ble_eq_true rfl) ?_
  intro p e s m args below meth c ls hC hr hP hl
  have hC : Cx G p s m args meth c cX10_see RX10 4 := hC
  have hx := hC.1
  have hb := hC.2.1
  have hown := hC.2.2.2.1
  have hts := hC.2.2.2.2.1
  have hS : va_S (lwA G) s.heap s.heap [] := va_S.rf
  have hl : lv_has ls 4 [(0, .ref (gA G 0)), (1, .int p1), (2, .int p2), (3, .int p3)] := hl
  unfold fX10_see at h
  refine lv_iload_n hx hb dX10_see_0 rfl (lv_at hl 1 rfl) ?_
  refine rc_i hS (run_S hC wX10_isPair k446 hP hS (As := [.int p1]) (rest := []) (mX10_isPair l G Rm rfl) rfl hl.1 (Nat.le_of_ble_eq_true rfl) ⟨by decide, by decide⟩ ⟨Nat.le_refl _, Nat.le_refl _⟩ rfl dX10_see_1) (fun H locs pb2 hP hS => ?_)
  refine lv_if_eq (tgt := 15) hx hb dX10_see_4 (by decide) (fun c3 => ?_) (fun c3 => ?_)
  · replace h := it_t c3 h
    refine lv_iconst (v := (-1)) hx hb dX10_see_15 (by decide) ?_
    exact re_i' hC hr hP hS (pr_1 h) (congrArg (fun Z : Mm => (Z, Rm)) (pr_2 h)) dX10_see_16
  · replace h := it_f c3 h
    refine lv_iload_n hx hb dX10_see_7 rfl (lv_at hl 2 rfl) ?_
    refine lv_iload_n hx hb dX10_see_8 rfl (lv_at hl 3 rfl) ?_
    refine rc_i hS (run_S hC wX7_mayBe k642 hP hS (As := [.int p2, .int p3]) (rest := []) (mX7_mayBe l G Rm rfl) rfl hl.1 (Nat.le_of_ble_eq_true rfl) ⟨by decide, by decide⟩ ⟨Nat.le_refl _, Nat.le_refl _⟩ rfl dX10_see_9) (fun H locs pb5 hP hS => ?_)
    refine lv_if_ne (tgt := 17) hx hb dX10_see_12 (by decide) (fun c6 => ?_) (fun c6 => ?_)
    · replace h := it_f c6 h
      refine lv_aload_n hx hb dX10_see_17 rfl (lv_at hl 0 rfl) ?_
      refine r_get (v := .ref (gA G 43)) hC inX10 hP (e_0 G _) rfl 6 (by decide) rfl k238 rfl dX10_see_18 ?_
      refine lv_iload_n hx hb dX10_see_21 rfl (lv_at hl 1 rfl) ?_
      refine lv_iload_n hx hb dX10_see_22 rfl (lv_at hl 2 rfl) ?_
      refine lv_iload_n hx hb dX10_see_23 rfl (lv_at hl 3 rfl) ?_
      obtain ⟨r8, C9, hq7, h⟩ := bp_x h
      refine rc_i hS (run_V hC wX7_takes k647 (e_43 G _) rfl hP hS (As := [.int p1, .int p2, .int p3]) (rest := []) (mX7_takes l G Rm hq7) rfl hl.1 (Nat.le_of_ble_eq_true rfl) ⟨by decide, by decide⟩ ⟨Nat.le_refl _, Nat.le_refl _⟩ rfl dX10_see_24) (fun H locs pb10 hP hS => ?_)
      refine lv_if_eq (tgt := 42) hx hb dX10_see_27 (by decide) (fun c11 => ?_) (fun c11 => ?_)
      · replace h := it_t c11 h
        refine lv_bipush (v := (-3)) hx hb dX10_see_42 (by decide) ?_
        exact re_i' hC hr hP hS (pr_1 h) (congrArg (fun Z : Mm => (Z, Rm)) (pr_2 h)) dX10_see_44
      · replace h := it_f c11 h
        refine lv_aload_n hx hb dX10_see_30 rfl (lv_at hl 0 rfl) ?_
        refine r_get (v := .ref (gA G 43)) hC inX10 hP (e_0 G _) rfl 6 (by decide) rfl k238 rfl dX10_see_31 ?_
        refine rc_i hS (run_V hC wX7_size k651 (e_43 G _) rfl hP hS (As := []) (rest := []) (mX7_size l G Rm rfl) rfl hl.1 (Nat.le_of_ble_eq_true rfl) ⟨by decide, by decide⟩ ⟨Nat.le_refl _, Nat.le_refl _⟩ rfl dX10_see_34) (fun H locs pb13 hP hS => ?_)
        refine lv_iconst (v := 1) hx hb dX10_see_37 (by decide) ?_
        refine lv_isub hx hb dX10_see_38 ?_
        refine lv_goto (tgt := 44) hx hb dX10_see_39 (by decide) ?_
        exact re_i' hC hr hP hS (pr_1 h) (congrArg (fun Z : Mm => (Z, Rm)) (pr_2 h)) dX10_see_44
    · replace h := it_t c6 h
      refine lv_iconst (v := (-1)) hx hb dX10_see_15 (by decide) ?_
      exact re_i' hC hr hP hS (pr_1 h) (congrArg (fun Z : Mm => (Z, Rm)) (pr_2 h)) dX10_see_16
set_option maxHeartbeats 4000000 in
set_option maxRecDepth 100000 in
theorem mX10_isShelf (l : Launch) (G : gp) (Rm : Mm) {p0 : Int32} {C : Mm} {r0 : Int32} (h : fX10_isShelf p0 = r0) : Met l yX10_isShelf (wsy yX10_isShelf cX10_isShelf 1 (some .boolean)) (rmv 0 0) (va_Pc [.int p0] (Rl G (C, Rm))) (Qi G PZ r0 (C, Rm)) 0 0 (lwA G) := by
  refine met_i [.int p0] wX10_isShelf.2.2.2.2 (Nat.le_of_ble_eq_true rfl) ?_
  intro p e s m args below meth c ls hC hr hP hl
  have hC : Cx G p s m args meth c cX10_isShelf RX10 1 := hC
  have hx := hC.1
  have hb := hC.2.1
  have hown := hC.2.2.2.1
  have hts := hC.2.2.2.2.1
  have hS : va_S (lwA G) s.heap s.heap [] := va_S.rf
  have hl : lv_has ls 1 [(0, .int p0)] := hl
  unfold fX10_isShelf at h
  refine lv_iload_n hx hb dX10_isShelf_0 rfl (lv_at hl 0 rfl) ?_
  refine lv_if_lt (tgt := 14) hx hb dX10_isShelf_1 (by decide) (fun c1 => ?_) (fun c1 => ?_)
  · replace h := it_t c1 h
    refine lv_iconst (v := 0) hx hb dX10_isShelf_14 (by decide) ?_
    exact re_z' hC hr hP hS PZ0 h rfl dX10_isShelf_15
  · replace h := it_f c1 h
    refine lv_iload_n hx hb dX10_isShelf_4 rfl (lv_at hl 0 rfl) ?_
    refine lv_bipush (v := 6) hx hb dX10_isShelf_5 (by decide) ?_
    refine lv_icmp_ge (tgt := 14) hx hb dX10_isShelf_7 (by decide) (fun c2 => ?_) (fun c2 => ?_)
    · replace h := it_t c2 h
      refine lv_iconst (v := 0) hx hb dX10_isShelf_14 (by decide) ?_
      exact re_z' hC hr hP hS PZ0 h rfl dX10_isShelf_15
    · replace h := it_f c2 h
      refine lv_iconst (v := 1) hx hb dX10_isShelf_10 (by decide) ?_
      refine lv_goto (tgt := 15) hx hb dX10_isShelf_11 (by decide) ?_
      exact re_z' hC hr hP hS PZ1 h rfl dX10_isShelf_15
set_option maxHeartbeats 4000000 in
set_option maxRecDepth 100000 in
theorem mX10_comesFrom (l : Launch) (G : gp) (Rm : Mm) {j1 : Nat} (hj1 : j1 < 6) {p2 : Int64} {C : Mm} {r0 : Int32} {C0 : Mm} (h : fX10_comesFrom j1 p2 C = some (r0, C0)) : Met l yX10_comesFrom (wsy yX10_comesFrom cX10_comesFrom 9 (some .boolean)) (rmv 2 43) (va_Pc [.ref (gA G 0), .ref (gA G (shc j1)), .long p2] (Rl G (C, Rm))) (Qi G PZ r0 (C0, Rm)) 0 0 (lwA G) := by
  refine met_i [.ref (gA G 0), .ref (gA G (shc j1)), .long p2] wX10_comesFrom.2.2.2.2.2 (Nat.le_of_ble_eq_true rfl) ?_
  intro p e s m args below meth c ls hC hr hP hl
  have hC : Cx G p s m args meth c cX10_comesFrom RX10 9 := hC
  have hx := hC.1
  have hb := hC.2.1
  have hown := hC.2.2.2.1
  have hts := hC.2.2.2.2.1
  have hS : va_S (lwA G) s.heap s.heap [] := va_S.rf
  have hl : lv_has ls 9 [(0, .ref (gA G 0)), (1, .ref (gA G (shc j1))), (2, .long p2)] := hl
  unfold fX10_comesFrom at h
  refine lv_lload_n hx hb dX10_comesFrom_0 rfl (lv_at hl 2 rfl) ?_
  refine lv_lconst (v := 0) hx hb dX10_comesFrom_1 (by decide) ?_
  refine W.lcmp hx hb dX10_comesFrom_2 ?_
  refine lv_if_lt (tgt := 20) hx hb dX10_comesFrom_3 (by decide) (fun c1 => ?_) (fun c1 => ?_)
  · replace h := it_t c1 h
    refine lv_iconst (v := 0) hx hb dX10_comesFrom_20 (by decide) ?_
    exact re_z' hC hr hP hS PZ0 (pr_1 h) (congrArg (fun Z : Mm => (Z, Rm)) (pr_2 h)) dX10_comesFrom_21
  · replace h := it_f c1 h
    refine lv_lload_n hx hb dX10_comesFrom_6 rfl (lv_at hl 2 rfl) ?_
    refine lv_ldc2 hx hb (v := 3) hown (hts _ k675) dX10_comesFrom_7 ?_
    refine lv_ladd hx hb dX10_comesFrom_10 ?_
    refine lv_aload_n hx hb dX10_comesFrom_11 rfl (lv_at hl 1 rfl) ?_
    refine rc_i hS (run_V hC wX8_size k676 (e_sc G _ hj1) rfl hP hS (As := []) (rest := [.long (p2 + 3)]) (mX8_size l G Rm hj1 rfl) rfl hl.1 (Nat.le_of_ble_eq_true rfl) ⟨by decide, by decide⟩ ⟨Nat.le_refl _, Nat.le_refl _⟩ rfl dX10_comesFrom_12) (fun H locs pb3 hP hS => ?_)
    refine lv_i2l hx hb dX10_comesFrom_15 rfl ?_
    refine W.lcmp hx hb dX10_comesFrom_16 ?_
    refine lv_if_lt (tgt := 22) hx hb dX10_comesFrom_17 (by decide) (fun c4 => ?_) (fun c4 => ?_)
    · replace h := it_t c4 h
      refine lv_lload_n hx hb dX10_comesFrom_22 rfl (lv_at hl 2 rfl) ?_
      refine lv_l2i hx hb dX10_comesFrom_23 rfl ?_
      refine lv_topi (fun x5 ex5 => ?_)
      replace h := lt_y ex5 h
      refine lv_istore (lv' := [(4, .int x5), (0, .ref (gA G 0)), (1, .ref (gA G (shc j1))), (2, .long p2)]) hx hb dX10_comesFrom_24 hl (by decide) rfl (fun ls hl => ?_)
      refine lv_aload_n hx hb dX10_comesFrom_26 rfl (lv_at hl 2 rfl) ?_
      refine lv_iload hx hb dX10_comesFrom_27 (lv_at hl 0 rfl) ?_
      obtain ⟨r7, hq6, h⟩ := bn_x h
      refine rc_l hS (run_V hC wX8_elementAt k680 (e_sc G _ hj1) rfl hP hS (As := [.int x5]) (rest := []) (mX8_elementAt l G Rm hj1 hq6) rfl hl.1 (Nat.le_of_ble_eq_true rfl) ⟨by decide, by decide⟩ ⟨Nat.le_refl _, Nat.le_refl _⟩ rfl dX10_comesFrom_29) (fun H locs hP hS => ?_)
      refine lv_l2i hx hb dX10_comesFrom_32 rfl ?_
      refine lv_topi (fun x8 ex8 => ?_)
      replace h := lt_y ex8 h
      refine lv_istore (lv' := [(5, .int x8), (4, .int x5), (0, .ref (gA G 0)), (1, .ref (gA G (shc j1))), (2, .long p2)]) hx hb dX10_comesFrom_33 hl (by decide) rfl (fun ls hl => ?_)
      refine lv_aload_n hx hb dX10_comesFrom_35 rfl (lv_at hl 3 rfl) ?_
      refine lv_iload hx hb dX10_comesFrom_36 (lv_at hl 1 rfl) ?_
      refine lv_iconst (v := 1) hx hb dX10_comesFrom_38 (by decide) ?_
      refine lv_iadd hx hb dX10_comesFrom_39 ?_
      obtain ⟨r10, hq9, h⟩ := bn_x h
      refine rc_l hS (run_V hC wX8_elementAt k680 (e_sc G _ hj1) rfl hP hS (As := [.int (x5 + 1)]) (rest := []) (mX8_elementAt l G Rm hj1 hq9) rfl hl.1 (Nat.le_of_ble_eq_true rfl) ⟨by decide, by decide⟩ ⟨Nat.le_refl _, Nat.le_refl _⟩ rfl dX10_comesFrom_40) (fun H locs hP hS => ?_)
      refine lv_l2i hx hb dX10_comesFrom_43 rfl ?_
      refine lv_topi (fun x11 ex11 => ?_)
      replace h := lt_y ex11 h
      refine lv_istore (lv' := [(6, .int x11), (5, .int x8), (4, .int x5), (0, .ref (gA G 0)), (1, .ref (gA G (shc j1))), (2, .long p2)]) hx hb dX10_comesFrom_44 hl (by decide) rfl (fun ls hl => ?_)
      refine lv_aload_n hx hb dX10_comesFrom_46 rfl (lv_at hl 4 rfl) ?_
      refine lv_iload hx hb dX10_comesFrom_47 (lv_at hl 2 rfl) ?_
      refine lv_iconst (v := 2) hx hb dX10_comesFrom_49 (by decide) ?_
      refine lv_iadd hx hb dX10_comesFrom_50 ?_
      obtain ⟨r13, hq12, h⟩ := bn_x h
      refine rc_l hS (run_V hC wX8_elementAt k680 (e_sc G _ hj1) rfl hP hS (As := [.int (x5 + 2)]) (rest := []) (mX8_elementAt l G Rm hj1 hq12) rfl hl.1 (Nat.le_of_ble_eq_true rfl) ⟨by decide, by decide⟩ ⟨Nat.le_refl _, Nat.le_refl _⟩ rfl dX10_comesFrom_51) (fun H locs hP hS => ?_)
      refine lv_l2i hx hb dX10_comesFrom_54 rfl ?_
      refine lv_topi (fun x14 ex14 => ?_)
      replace h := lt_y ex14 h
      refine lv_istore (lv' := [(7, .int x14), (6, .int x11), (5, .int x8), (4, .int x5), (0, .ref (gA G 0)), (1, .ref (gA G (shc j1))), (2, .long p2)]) hx hb dX10_comesFrom_55 hl (by decide) rfl (fun ls hl => ?_)
      refine lv_aload_n hx hb dX10_comesFrom_57 rfl (lv_at hl 5 rfl) ?_
      refine lv_iload hx hb dX10_comesFrom_58 (lv_at hl 3 rfl) ?_
      refine lv_iconst (v := 3) hx hb dX10_comesFrom_60 (by decide) ?_
      refine lv_iadd hx hb dX10_comesFrom_61 ?_
      obtain ⟨r16, hq15, h⟩ := bn_x h
      refine rc_l hS (run_V hC wX8_elementAt k680 (e_sc G _ hj1) rfl hP hS (As := [.int (x5 + 3)]) (rest := []) (mX8_elementAt l G Rm hj1 hq15) rfl hl.1 (Nat.le_of_ble_eq_true rfl) ⟨by decide, by decide⟩ ⟨Nat.le_refl _, Nat.le_refl _⟩ rfl dX10_comesFrom_62) (fun H locs hP hS => ?_)
      refine lv_l2i hx hb dX10_comesFrom_65 rfl ?_
      refine lv_topi (fun x17 ex17 => ?_)
      replace h := lt_y ex17 h
      refine lv_istore (lv' := [(8, .int x17), (7, .int x14), (6, .int x11), (5, .int x8), (4, .int x5), (0, .ref (gA G 0)), (1, .ref (gA G (shc j1))), (2, .long p2)]) hx hb dX10_comesFrom_66 hl (by decide) rfl (fun ls hl => ?_)
      refine lv_iload hx hb dX10_comesFrom_68 (lv_at hl 3 rfl) ?_
      refine rc_i hS (run_S hC wX10_isNumber k449 hP hS (As := [.int x8]) (rest := []) (mX10_isNumber l G Rm rfl) rfl hl.1 (Nat.le_of_ble_eq_true rfl) ⟨by decide, by decide⟩ ⟨Nat.le_refl _, Nat.le_refl _⟩ rfl dX10_comesFrom_70) (fun H locs pb19 hP hS => ?_)
      refine lv_if_eq (tgt := 121) hx hb dX10_comesFrom_73 (by decide) (fun c20 => ?_) (fun c20 => ?_)
      · replace h := it_t c20 h
        refine lv_iconst (v := 0) hx hb dX10_comesFrom_121 (by decide) ?_
        exact re_z' hC hr hP hS PZ0 (pr_1 h) (congrArg (fun Z : Mm => (Z, Rm)) (pr_2 h)) dX10_comesFrom_122
      · replace h := it_f c20 h
        refine lv_iload hx hb dX10_comesFrom_76 (lv_at hl 2 rfl) ?_
        refine rc_i hS (run_S hC wX10_isNumber k449 hP hS (As := [.int x11]) (rest := []) (mX10_isNumber l G Rm rfl) rfl hl.1 (Nat.le_of_ble_eq_true rfl) ⟨by decide, by decide⟩ ⟨Nat.le_refl _, Nat.le_refl _⟩ rfl dX10_comesFrom_78) (fun H locs pb22 hP hS => ?_)
        refine lv_if_eq (tgt := 121) hx hb dX10_comesFrom_81 (by decide) (fun c23 => ?_) (fun c23 => ?_)
        · replace h := it_t c23 h
          refine lv_iconst (v := 0) hx hb dX10_comesFrom_121 (by decide) ?_
          exact re_z' hC hr hP hS PZ0 (pr_1 h) (congrArg (fun Z : Mm => (Z, Rm)) (pr_2 h)) dX10_comesFrom_122
        · replace h := it_f c23 h
          refine lv_iload hx hb dX10_comesFrom_84 (lv_at hl 1 rfl) ?_
          refine lv_iload hx hb dX10_comesFrom_86 (lv_at hl 0 rfl) ?_
          refine rc_i hS (run_S hC wX7_mayBe k642 hP hS (As := [.int x14, .int x17]) (rest := []) (mX7_mayBe l G Rm rfl) rfl hl.1 (Nat.le_of_ble_eq_true rfl) ⟨by decide, by decide⟩ ⟨Nat.le_refl _, Nat.le_refl _⟩ rfl dX10_comesFrom_88) (fun H locs pb25 hP hS => ?_)
          refine lv_if_eq (tgt := 121) hx hb dX10_comesFrom_91 (by decide) (fun c26 => ?_) (fun c26 => ?_)
          · replace h := it_t c26 h
            refine lv_iconst (v := 0) hx hb dX10_comesFrom_121 (by decide) ?_
            exact re_z' hC hr hP hS PZ0 (pr_1 h) (congrArg (fun Z : Mm => (Z, Rm)) (pr_2 h)) dX10_comesFrom_122
          · replace h := it_f c26 h
            refine lv_aload_n hx hb dX10_comesFrom_94 rfl (lv_at hl 5 rfl) ?_
            refine r_get (v := .ref (gA G 43)) hC inX10 hP (e_0 G _) rfl 6 (by decide) rfl k238 rfl dX10_comesFrom_95 ?_
            refine lv_iload hx hb dX10_comesFrom_98 (lv_at hl 3 rfl) ?_
            refine lv_sipush (v := 10000) hx hb dX10_comesFrom_100 (by decide) ?_
            refine lv_imul hx hb dX10_comesFrom_103 ?_
            refine lv_iload hx hb dX10_comesFrom_104 (lv_at hl 2 rfl) ?_
            refine lv_iadd hx hb dX10_comesFrom_106 ?_
            refine lv_iload hx hb dX10_comesFrom_107 (lv_at hl 1 rfl) ?_
            refine lv_iload hx hb dX10_comesFrom_109 (lv_at hl 0 rfl) ?_
            obtain ⟨r28, C29, hq27, h⟩ := bp_x h
            refine rc_i hS (run_V hC wX7_takes k647 (e_43 G _) rfl hP hS (As := [.int ((x8 * 10000) + x11), .int x14, .int x17]) (rest := []) (mX7_takes l G Rm hq27) rfl hl.1 (Nat.le_of_ble_eq_true rfl) ⟨by decide, by decide⟩ ⟨Nat.le_refl _, Nat.le_refl _⟩ rfl dX10_comesFrom_111) (fun H locs pb30 hP hS => ?_)
            refine lv_if_eq (tgt := 121) hx hb dX10_comesFrom_114 (by decide) (fun c31 => ?_) (fun c31 => ?_)
            · replace h := it_t c31 h
              refine lv_iconst (v := 0) hx hb dX10_comesFrom_121 (by decide) ?_
              exact re_z' hC hr hP hS PZ0 (pr_1 h) (congrArg (fun Z : Mm => (Z, Rm)) (pr_2 h)) dX10_comesFrom_122
            · replace h := it_f c31 h
              refine lv_iconst (v := 1) hx hb dX10_comesFrom_117 (by decide) ?_
              refine lv_goto (tgt := 122) hx hb dX10_comesFrom_118 (by decide) ?_
              exact re_z' hC hr hP hS PZ1 (pr_1 h) (congrArg (fun Z : Mm => (Z, Rm)) (pr_2 h)) dX10_comesFrom_122
    · replace h := it_f c4 h
      refine lv_iconst (v := 0) hx hb dX10_comesFrom_20 (by decide) ?_
      exact re_z' hC hr hP hS PZ0 (pr_1 h) (congrArg (fun Z : Mm => (Z, Rm)) (pr_2 h)) dX10_comesFrom_21
set_option maxHeartbeats 4000000 in
set_option maxRecDepth 100000 in
theorem mX10_asks (l : Launch) (G : gp) (Rm : Mm) {n : Nat} {p1 : Int32} {p2 : Int32} {p3 : Int32} {C : Mm} {r0 : Int32} {C0 : Mm} (h : fX10_asks n p1 p2 p3 C = some (r0, C0)) : Met l yX10_asks (wsy yX10_asks cX10_asks 6 (some .int)) (rmv 3 71) (va_Pc [.ref (gA G 0), .int p1, .int p2, .int p3] (Rl G (C, Rm))) (Qi G PT r0 (C0, Rm)) 0 0 (lwA G) := by
  refine met_i [.ref (gA G 0), .int p1, .int p2, .int p3] wX10_asks.2.2.2.2.2 (Nat.le_of_ble_eq_true rfl) ?_
  intro p e s m args below meth c ls hC hr hP hl
  have hC : Cx G p s m args meth c cX10_asks RX10 6 := hC
  have hx := hC.1
  have hb := hC.2.1
  have hown := hC.2.2.2.1
  have hts := hC.2.2.2.2.1
  have hS : va_S (lwA G) s.heap s.heap [] := va_S.rf
  have hl : lv_has ls 6 [(0, .ref (gA G 0)), (1, .int p1), (2, .int p2), (3, .int p3)] := hl
  have bl52 : ∀ (fu : Nat), ∀ (y2 : Int32) (y3 : Int32) (jy4 : Nat) (y5 : Int32) (hjy4 : jy4 < 6) (C : Mm) (H : Heap) (locs : List Loc) (ls : Array Slot), fX10_asks_h52 n fu y2 y3 jy4 y5 C = some (r0, C0) → lv_has ls 6 [(0, .ref (gA G 0)), (2, .int y2), (3, .int y3), (4, .ref (gA G (shc jy4))), (5, .int y5)] → va_P (gD G) vwCl (wld G (C, Rm)) H → va_S (lwA G) s.heap H locs → W p l e (rmv 3 71) s m args below meth c H locs 0 0 (MQ below (Qi G PT r0 (C0, Rm)) args s 0 0 (lwA G)) (F0 m 52 ls []) := by
    intro fu
    induction fu with
    | zero =>
      intro y2 y3 jy4 y5 hjy4 C H locs ls h hl hP hS
      rw [fX10_asks_h52.eq_1] at h
      cases h
    | succ fu ih =>
      intro y2 y3 jy4 y5 hjy4 C H locs ls h hl hP hS
      rw [fX10_asks_h52.eq_2] at h
      refine lv_iload hx hb dX10_asks_52 (lv_at hl 4 rfl) ?_
      refine lv_iload_n hx hb dX10_asks_54 rfl (lv_at hl 2 rfl) ?_
      refine lv_icmp_ge (tgt := 86) hx hb dX10_asks_55 (by decide) (fun c1 => ?_) (fun c1 => ?_)
      · replace h := it_t c1 h
        refine lv_iload_n hx hb dX10_asks_86 rfl (lv_at hl 2 rfl) ?_
        exact re_i' hC hr hP hS (pr_1 h) (congrArg (fun Z : Mm => (Z, Rm)) (pr_2 h)) dX10_asks_87
      · replace h := it_f c1 h
        refine lv_aload_n hx hb dX10_asks_58 rfl (lv_at hl 0 rfl) ?_
        refine lv_aload hx hb dX10_asks_59 (lv_at hl 3 rfl) ?_
        refine lv_iload_n hx hb dX10_asks_61 rfl (lv_at hl 1 rfl) ?_
        refine lv_i2l hx hb dX10_asks_62 rfl ?_
        refine lv_ldc2 hx hb (v := 4) hown (hts _ k670) dX10_asks_63 ?_
        refine lv_iload hx hb dX10_asks_66 (lv_at hl 4 rfl) ?_
        refine lv_i2l hx hb dX10_asks_68 rfl ?_
        refine lv_lmul hx hb dX10_asks_69 ?_
        refine lv_ladd hx hb dX10_asks_70 ?_
        obtain ⟨r3, C4, hq2, h⟩ := bp_x h
        refine rc_i hS (run_V hC wX10_comesFrom k671 (e_0 G _) rfl hP hS (As := [.ref (gA G (shc jy4)), .long ((Int32.toInt64 y2) + (4 * (Int32.toInt64 y5)))]) (rest := []) (mX10_comesFrom l G Rm hjy4 hq2) rfl hl.1 (Nat.le_of_ble_eq_true rfl) ⟨by decide, by decide⟩ ⟨Nat.le_refl _, Nat.le_refl _⟩ rfl dX10_asks_71) (fun H locs pb5 hP hS => ?_)
        refine lv_if_ne (tgt := 80) hx hb dX10_asks_74 (by decide) (fun c6 => ?_) (fun c6 => ?_)
        · replace h := it_f c6 h
          obtain ⟨x7, ex7⟩ : ∃ y : Int32, y = y5 + 1 := ⟨_, rfl⟩
          replace h := lt_y ex7 h
          refine lv_iinc (v := x7) (lv' := [(5, .int x7), (0, .ref (gA G 0)), (2, .int y2), (3, .int y3), (4, .ref (gA G (shc jy4)))]) hx hb dX10_asks_80 hl (k := 4) rfl (by rw [ex7]; rfl) (by decide) rfl (fun ls hl => ?_)
          refine lv_goto (tgt := 52) hx hb dX10_asks_83 (by decide) ?_
          exact ih y2 y3 jy4 x7 hjy4 C4 _ _ _ h (lv_sub hl [1, 2, 3, 4, 0] rfl) hP hS
        · replace h := it_t c6 h
          refine lv_iload hx hb dX10_asks_77 (lv_at hl 4 rfl) ?_
          exact re_i' hC hr hP hS (pr_1 h) (congrArg (fun Z : Mm => (Z, Rm)) (pr_2 h)) dX10_asks_79
  unfold fX10_asks at h
  refine lv_iload_n hx hb dX10_asks_0 rfl (lv_at hl 1 rfl) ?_
  refine rc_i hS (run_S hC wX10_isShelf k659 hP hS (As := [.int p1]) (rest := []) (mX10_isShelf l G Rm rfl) rfl hl.1 (Nat.le_of_ble_eq_true rfl) ⟨by decide, by decide⟩ ⟨Nat.le_refl _, Nat.le_refl _⟩ rfl dX10_asks_1) (fun H locs pb9 hP hS => ?_)
  refine lv_if_eq (tgt := 18) hx hb dX10_asks_4 (by decide) (fun c10 => ?_) (fun c10 => ?_)
  · replace h := it_t c10 h
    refine lv_iconst (v := (-1)) hx hb dX10_asks_18 (by decide) ?_
    exact re_i' hC hr hP hS (pr_1 h) (congrArg (fun Z : Mm => (Z, Rm)) (pr_2 h)) dX10_asks_19
  · replace h := it_f c10 h
    refine lv_iload_n hx hb dX10_asks_7 rfl (lv_at hl 3 rfl) ?_
    refine lv_iconst (v := 1) hx hb dX10_asks_8 (by decide) ?_
    refine lv_icmp_lt (tgt := 18) hx hb dX10_asks_9 (by decide) (fun c11 => ?_) (fun c11 => ?_)
    · replace h := it_t c11 h
      refine lv_iconst (v := (-1)) hx hb dX10_asks_18 (by decide) ?_
      exact re_i' hC hr hP hS (pr_1 h) (congrArg (fun Z : Mm => (Z, Rm)) (pr_2 h)) dX10_asks_19
    · replace h := it_f c11 h
      refine lv_iload_n hx hb dX10_asks_12 rfl (lv_at hl 3 rfl) ?_
      refine lv_bipush (v := 15) hx hb dX10_asks_13 (by decide) ?_
      refine lv_icmp_le (tgt := 20) hx hb dX10_asks_15 (by decide) (fun c12 => ?_) (fun c12 => ?_)
      · replace h := it_t c12 h
        refine lv_aload_n hx hb dX10_asks_20 rfl (lv_at hl 0 rfl) ?_
        refine r_get (v := .ref (gA G 59)) hC inX10 hP (e_0 G _) rfl 14 (by decide) rfl k246 rfl dX10_asks_21 ?_
        refine lv_iload_n hx hb dX10_asks_24 rfl (lv_at hl 1 rfl) ?_
        by_cases c13 : p1 < (0 : Int32) ∨ 6 ≤ Int32.toNatClampNeg p1
        · cases it_t c13 h
        replace h := it_f c13 h
        refine r_sh hC hP c13 dX10_asks_25 (fun hj14 => ?_)
        refine lv_astore (lv' := [(4, .ref (gA G (shc (Int32.toNatClampNeg p1)))), (0, .ref (gA G 0)), (1, .int p1), (2, .int p2), (3, .int p3)]) hx hb dX10_asks_26 hl (by decide) rfl (fun ls hl => ?_)
        refine lv_aload hx hb dX10_asks_28 (lv_at hl 0 rfl) ?_
        refine rc_i hS (run_V hC wX8_isEmpty k662 (e_sc G _ hj14) rfl hP hS (As := []) (rest := []) (mX8_isEmpty l G Rm hj14 rfl) rfl hl.1 (Nat.le_of_ble_eq_true rfl) ⟨by decide, by decide⟩ ⟨Nat.le_refl _, Nat.le_refl _⟩ rfl dX10_asks_30) (fun H locs pb16 hP hS => ?_)
        refine lv_if_eq (tgt := 38) hx hb dX10_asks_33 (by decide) (fun c17 => ?_) (fun c17 => ?_)
        · replace h := it_t c17 h
          refine lv_aload hx hb dX10_asks_38 (lv_at hl 0 rfl) ?_
          refine rc_i hS (run_V hC wX8_holdsInts k666 (e_sc G _ hj14) rfl hP hS (As := []) (rest := []) (mX8_holdsInts l G Rm hj14 rfl) rfl hl.1 (Nat.le_of_ble_eq_true rfl) ⟨by decide, by decide⟩ ⟨Nat.le_refl _, Nat.le_refl _⟩ rfl dX10_asks_40) (fun H locs pb19 hP hS => ?_)
          refine lv_if_ne (tgt := 49) hx hb dX10_asks_43 (by decide) (fun c20 => ?_) (fun c20 => ?_)
          · replace h := it_f c20 h
            refine lv_iconst (v := 0) hx hb dX10_asks_49 (by decide) ?_
            refine lv_istore (lv' := [(5, .int 0), (4, .ref (gA G (shc (Int32.toNatClampNeg p1)))), (0, .ref (gA G 0)), (1, .int p1), (2, .int p2), (3, .int p3)]) hx hb dX10_asks_50 hl (by decide) rfl (fun ls hl => ?_)
            exact bl52 n p2 p3 (Int32.toNatClampNeg p1) 0 hj14 C _ _ _ h (lv_sub hl [2, 4, 5, 1, 0] rfl) hP hS
          · replace h := it_t c20 h
            refine lv_bipush (v := (-12)) hx hb dX10_asks_46 (by decide) ?_
            exact re_i' hC hr hP hS (pr_1 h) (congrArg (fun Z : Mm => (Z, Rm)) (pr_2 h)) dX10_asks_48
        · replace h := it_f c17 h
          refine lv_iconst (v := 0) hx hb dX10_asks_36 (by decide) ?_
          exact re_i' hC hr hP hS (pr_1 h) (congrArg (fun Z : Mm => (Z, Rm)) (pr_2 h)) dX10_asks_37
      · replace h := it_f c12 h
        refine lv_iconst (v := (-1)) hx hb dX10_asks_18 (by decide) ?_
        exact re_i' hC hr hP hS (pr_1 h) (congrArg (fun Z : Mm => (Z, Rm)) (pr_2 h)) dX10_asks_19
set_option maxHeartbeats 4000000 in
set_option maxRecDepth 100000 in
theorem mX10_offOf (l : Launch) (G : gp) (Rm : Mm) {p1 : Int32} {C : Mm} {r0 : Int32} (h : fX10_offOf p1 C = some r0) : Met l yX10_offOf (wsy yX10_offOf cX10_offOf 2 (some .int)) (rmv 2 42) (va_Pc [.ref (gA G 0), .int p1] (Rl G (C, Rm))) (Qi G PT r0 (C, Rm)) 0 0 (lwA G) := by
  refine met_i [.ref (gA G 0), .int p1] wX10_offOf.2.2.2.2.2 (Nat.le_of_ble_eq_true rfl) ?_
  intro p e s m args below meth c ls hC hr hP hl
  have hC : Cx G p s m args meth c cX10_offOf RX10 2 := hC
  have hx := hC.1
  have hb := hC.2.1
  have hown := hC.2.2.2.1
  have hts := hC.2.2.2.2.1
  have hS : va_S (lwA G) s.heap s.heap [] := va_S.rf
  have hl : lv_has ls 2 [(0, .ref (gA G 0)), (1, .int p1)] := hl
  unfold fX10_offOf at h
  refine lv_aload_n hx hb dX10_offOf_0 rfl (lv_at hl 0 rfl) ?_
  refine r_get (v := .ref (gA G 43)) hC inX10 hP (e_0 G _) rfl 6 (by decide) rfl k238 rfl dX10_offOf_1 ?_
  refine lv_iload_n hx hb dX10_offOf_4 rfl (lv_at hl 1 rfl) ?_
  obtain ⟨r2, hq1, h⟩ := bn_x h
  refine rc_i hS (run_V hC wX7_answerOf k709 (e_43 G _) rfl hP hS (As := [.int p1]) (rest := []) (mX7_answerOf l G Rm hq1) rfl hl.1 (Nat.le_of_ble_eq_true rfl) ⟨by decide, by decide⟩ ⟨Nat.le_refl _, Nat.le_refl _⟩ rfl dX10_offOf_5) (fun H locs pb3 hP hS => ?_)
  refine lv_aload_n hx hb dX10_offOf_8 rfl (lv_at hl 0 rfl) ?_
  refine r_get (v := .ref (gA G 43)) hC inX10 hP (e_0 G _) rfl 6 (by decide) rfl k238 rfl dX10_offOf_9 ?_
  refine lv_iload_n hx hb dX10_offOf_12 rfl (lv_at hl 1 rfl) ?_
  obtain ⟨r5, hq4, h⟩ := bn_x h
  refine rc_i hS (run_V hC wX7_pair k696 (e_43 G _) rfl hP hS (As := [.int p1]) (rest := [.int r2]) (mX7_pair l G Rm hq4) rfl hl.1 (Nat.le_of_ble_eq_true rfl) ⟨by decide, by decide⟩ ⟨Nat.le_refl _, Nat.le_refl _⟩ rfl dX10_offOf_13) (fun H locs pb6 hP hS => ?_)
  refine rc_i hS (run_S hC wX10_productOf k617 hP hS (As := [.int r5]) (rest := [.int r2]) (mX10_productOf l G Rm rfl) rfl hl.1 (Nat.le_of_ble_eq_true rfl) ⟨by decide, by decide⟩ ⟨Nat.le_refl _, Nat.le_refl _⟩ rfl dX10_offOf_16) (fun H locs pb8 hP hS => ?_)
  refine lv_isub hx hb dX10_offOf_19 ?_
  exact re_i' hC hr hP hS (Option.some.inj h) rfl dX10_offOf_20
set_option maxHeartbeats 4000000 in
set_option maxRecDepth 100000 in
theorem mX10_seen (l : Launch) (G : gp) (Rm : Mm) {p1 : Int32} {p2 : Int32} {C : Mm} {r0 : Int32} (h : fX10_seen p1 p2 C = some r0) : Met l yX10_seen (wsy yX10_seen cX10_seen 3 (some .int)) (rmv 3 63) (va_Pc [.ref (gA G 0), .int p1, .int p2] (Rl G (C, Rm))) (Qi G PT r0 (C, Rm)) 0 0 (lwA G) := by
  refine met_i [.ref (gA G 0), .int p1, .int p2] wX10_seen.2.2.2.2.2 (Nat.le_of_ble_eq_true rfl) ?_
  intro p e s m args below meth c ls hC hr hP hl
  have hC : Cx G p s m args meth c cX10_seen RX10 3 := hC
  have hx := hC.1
  have hb := hC.2.1
  have hown := hC.2.2.2.1
  have hts := hC.2.2.2.2.1
  have hS : va_S (lwA G) s.heap s.heap [] := va_S.rf
  have hl : lv_has ls 3 [(0, .ref (gA G 0)), (1, .int p1), (2, .int p2)] := hl
  unfold fX10_seen at h
  refine lv_aload_n hx hb dX10_seen_0 rfl (lv_at hl 0 rfl) ?_
  refine r_get (v := .ref (gA G 43)) hC inX10 hP (e_0 G _) rfl 6 (by decide) rfl k238 rfl dX10_seen_1 ?_
  refine lv_iload_n hx hb dX10_seen_4 rfl (lv_at hl 1 rfl) ?_
  refine rc_i hS (run_V hC wX7_has k692 (e_43 G _) rfl hP hS (As := [.int p1]) (rest := []) (mX7_has l G Rm rfl) rfl hl.1 (Nat.le_of_ble_eq_true rfl) ⟨by decide, by decide⟩ ⟨Nat.le_refl _, Nat.le_refl _⟩ rfl dX10_seen_5) (fun H locs pb2 hP hS => ?_)
  refine lv_if_ne (tgt := 14) hx hb dX10_seen_8 (by decide) (fun c3 => ?_) (fun c3 => ?_)
  · replace h := it_f c3 h
    refine lv_iload_n hx hb dX10_seen_14 rfl (lv_at hl 2 rfl) ?_
    by_cases c4 : p2 = 0
    · replace h := it_t c4 h
      refine lv_tableIn (off := 29) (tgt := 44) hx hb dX10_seen_15 (by rw [c4]; decide) (by rw [c4]; decide) (by rw [c4]; rfl) (by decide) ?_
      refine lv_aload_n hx hb dX10_seen_44 rfl (lv_at hl 0 rfl) ?_
      refine r_get (v := .ref (gA G 43)) hC inX10 hP (e_0 G _) rfl 6 (by decide) rfl k238 rfl dX10_seen_45 ?_
      refine lv_iload_n hx hb dX10_seen_48 rfl (lv_at hl 1 rfl) ?_
      obtain ⟨r6, hq5, h⟩ := bn_x h
      refine rc_i hS (run_V hC wX7_pair k696 (e_43 G _) rfl hP hS (As := [.int p1]) (rest := []) (mX7_pair l G Rm hq5) rfl hl.1 (Nat.le_of_ble_eq_true rfl) ⟨by decide, by decide⟩ ⟨Nat.le_refl _, Nat.le_refl _⟩ rfl dX10_seen_49) (fun H locs pb7 hP hS => ?_)
      refine lv_sipush (v := 10000) hx hb dX10_seen_52 (by decide) ?_
      refine lv_idiv hx hb dX10_seen_55 (by decide) ?_
      exact re_i' hC hr hP hS (Option.some.inj h) rfl dX10_seen_56
    replace h := it_f c4 h
    by_cases c8 : p2 = 1
    · replace h := it_t c8 h
      refine lv_tableIn (off := 42) (tgt := 57) hx hb dX10_seen_15 (by rw [c8]; decide) (by rw [c8]; decide) (by rw [c8]; rfl) (by decide) ?_
      refine lv_aload_n hx hb dX10_seen_57 rfl (lv_at hl 0 rfl) ?_
      refine r_get (v := .ref (gA G 43)) hC inX10 hP (e_0 G _) rfl 6 (by decide) rfl k238 rfl dX10_seen_58 ?_
      refine lv_iload_n hx hb dX10_seen_61 rfl (lv_at hl 1 rfl) ?_
      obtain ⟨r10, hq9, h⟩ := bn_x h
      refine rc_i hS (run_V hC wX7_pair k696 (e_43 G _) rfl hP hS (As := [.int p1]) (rest := []) (mX7_pair l G Rm hq9) rfl hl.1 (Nat.le_of_ble_eq_true rfl) ⟨by decide, by decide⟩ ⟨Nat.le_refl _, Nat.le_refl _⟩ rfl dX10_seen_62) (fun H locs pb11 hP hS => ?_)
      refine lv_sipush (v := 10000) hx hb dX10_seen_65 (by decide) ?_
      refine r_irem hx hb dX10_seen_68 (by decide) ?_
      exact re_i' hC hr hP hS (Option.some.inj h) rfl dX10_seen_69
    replace h := it_f c8 h
    by_cases c12 : p2 = 2
    · replace h := it_t c12 h
      refine lv_tableIn (off := 55) (tgt := 70) hx hb dX10_seen_15 (by rw [c12]; decide) (by rw [c12]; decide) (by rw [c12]; rfl) (by decide) ?_
      refine lv_aload_n hx hb dX10_seen_70 rfl (lv_at hl 0 rfl) ?_
      refine r_get (v := .ref (gA G 43)) hC inX10 hP (e_0 G _) rfl 6 (by decide) rfl k238 rfl dX10_seen_71 ?_
      refine lv_iload_n hx hb dX10_seen_74 rfl (lv_at hl 1 rfl) ?_
      obtain ⟨r14, hq13, h⟩ := bn_x h
      refine rc_i hS (run_V hC wX7_tenths k701 (e_43 G _) rfl hP hS (As := [.int p1]) (rest := []) (mX7_tenths l G Rm hq13) rfl hl.1 (Nat.le_of_ble_eq_true rfl) ⟨by decide, by decide⟩ ⟨Nat.le_refl _, Nat.le_refl _⟩ rfl dX10_seen_75) (fun H locs pb15 hP hS => ?_)
      exact re_i' hC hr hP hS (Option.some.inj h) rfl dX10_seen_78
    replace h := it_f c12 h
    by_cases c16 : p2 = 3
    · replace h := it_t c16 h
      refine lv_tableIn (off := 64) (tgt := 79) hx hb dX10_seen_15 (by rw [c16]; decide) (by rw [c16]; decide) (by rw [c16]; rfl) (by decide) ?_
      refine lv_aload_n hx hb dX10_seen_79 rfl (lv_at hl 0 rfl) ?_
      refine lv_iload_n hx hb dX10_seen_80 rfl (lv_at hl 1 rfl) ?_
      obtain ⟨r18, hq17, h⟩ := bn_x h
      refine rc_i hS (run_V hC wX10_offOf k705 (e_0 G _) rfl hP hS (As := [.int p1]) (rest := []) (mX10_offOf l G Rm hq17) rfl hl.1 (Nat.le_of_ble_eq_true rfl) ⟨by decide, by decide⟩ ⟨Nat.le_refl _, Nat.le_refl _⟩ rfl dX10_seen_81) (fun H locs pb19 hP hS => ?_)
      exact re_i' hC hr hP hS (Option.some.inj h) rfl dX10_seen_84
    replace h := it_f c16 h
    refine lv_tsD (tgt := 85) hx hb dX10_seen_15 rfl (ex_c (ti_ne (z := 0) rfl c4) (ex_c (ti_ne (z := 1) rfl c8) (ex_c (ti_ne (z := 2) rfl c12) (ex_c (ti_ne (z := 3) rfl c16) ex_0)))) (by decide) (by decide) ?_
    refine lv_ldc hx hb (v := (-2000000000)) hown (hts _ k567) dX10_seen_85 ?_
    exact re_i' hC hr hP hS (Option.some.inj h) rfl dX10_seen_87
  · replace h := it_t c3 h
    refine lv_ldc hx hb (v := (-2000000000)) hown (hts _ k567) dX10_seen_11 ?_
    exact re_i' hC hr hP hS (Option.some.inj h) rfl dX10_seen_13
set_option maxHeartbeats 4000000 in
set_option maxRecDepth 100000 in
theorem mX10_fitsAll (l : Launch) (G : gp) (Rm : Mm) {n : Nat} {j1 : Nat} (hj1 : j1 < 7) {p2 : Int32} {p3 : Int32} {C : Mm} {r0 : Int32} {C0 : Mm} (h : fX10_fitsAll n j1 p2 p3 C = some (r0, C0)) : Met l yX10_fitsAll (wsy yX10_fitsAll cX10_fitsAll 7 (some .boolean)) (rmv 5 141) (va_Pc [.ref (gA G 0), .ref (gA G (hdc j1)), .int p2, .int p3] (Rl G (C, Rm))) (Qi G PZ r0 (C0, Rm)) 0 0 (lwA G) := by
  refine met_i [.ref (gA G 0), .ref (gA G (hdc j1)), .int p2, .int p3] wX10_fitsAll.2.2.2.2.2 (Nat.le_of_ble_eq_true rfl) ?_
  intro p e s m args below meth c ls hC hr hP hl
  have hC : Cx G p s m args meth c cX10_fitsAll RX10 7 := hC
  have hx := hC.1
  have hb := hC.2.1
  have hown := hC.2.2.2.1
  have hts := hC.2.2.2.2.1
  have hS : va_S (lwA G) s.heap s.heap [] := va_S.rf
  have hl : lv_has ls 7 [(0, .ref (gA G 0)), (1, .ref (gA G (hdc j1))), (2, .int p2), (3, .int p3)] := hl
  have bl70 : ∀ (k3 : Int32 → Int32 → Int32 → Mm → Option (Int32 × Mm)) (hk3 : ∀ (y2 : Int32) (y3 : Int32) (y4 : Int32) (C : Mm) (H : Heap) (locs : List Loc) (ls : Array Slot), k3 y2 y3 y4 C = some (r0, C0) → lv_has ls 7 [(0, .ref (gA G 0)), (1, .ref (gA G (hdc j1))), (2, .int y2), (3, .int y3), (4, .int y4)] → va_P (gD G) vwCl (wld G (C, Rm)) H → va_S (lwA G) s.heap H locs → W p l e (rmv 5 141) s m args below meth c H locs 0 0 (MQ below (Qi G PZ r0 (C0, Rm)) args s 0 0 (lwA G)) (F0 m 3 ls [])), ∀ (y2 : Int32) (y3 : Int32) (y4 : Int32) (s0 : Int32) (C : Mm) (H : Heap) (locs : List Loc) (ls : Array Slot), fX10_fitsAll_b70 n j1 k3 y2 y3 y4 s0 C = some (r0, C0) → lv_has ls 7 [(0, .ref (gA G 0)), (1, .ref (gA G (hdc j1))), (2, .int y2), (3, .int y3), (4, .int y4)] → va_P (gD G) vwCl (wld G (C, Rm)) H → va_S (lwA G) s.heap H locs → W p l e (rmv 5 141) s m args below meth c H locs 0 0 (MQ below (Qi G PZ r0 (C0, Rm)) args s 0 0 (lwA G)) (F0 m 70 ls [.int s0]) := by
    intro k3 hk3 y2 y3 y4 s0 C H locs ls h hl hP hS
    unfold fX10_fitsAll_b70 at h
    refine lv_istore (lv' := [(6, .int s0), (0, .ref (gA G 0)), (1, .ref (gA G (hdc j1))), (2, .int y2), (3, .int y3), (4, .int y4)]) hx hb dX10_fitsAll_70 hl (by decide) rfl (fun ls hl => ?_)
    refine lv_iload hx hb dX10_fitsAll_72 (lv_at hl 0 rfl) ?_
    refine lv_if_eq (tgt := 101) hx hb dX10_fitsAll_74 (by decide) (fun c1 => ?_) (fun c1 => ?_)
    · replace h := it_t c1 h
      refine lv_iconst (v := 0) hx hb dX10_fitsAll_101 (by decide) ?_
      exact re_z' hC hr hP hS PZ0 (pr_1 h) (congrArg (fun Z : Mm => (Z, Rm)) (pr_2 h)) dX10_fitsAll_102
    · replace h := it_f c1 h
      refine lv_aload_n hx hb dX10_fitsAll_77 rfl (lv_at hl 1 rfl) ?_
      refine r_get (v := .ref (gA G 36)) hC inX10 hP (e_0 G _) rfl 5 (by decide) rfl k237 rfl dX10_fitsAll_78 ?_
      refine rc_i hS (run_V hC wX0_seconds k551 (e_36 G _) rfl hP hS (As := []) (rest := []) (mX0_seconds l G Rm rfl) rfl hl.1 (Nat.le_of_ble_eq_true rfl) ⟨by decide, by decide⟩ ⟨Nat.le_refl _, Nat.le_refl _⟩ rfl dX10_fitsAll_81) (fun H locs pb3 hP hS => ?_)
      refine lv_aload_n hx hb dX10_fitsAll_84 rfl (lv_at hl 1 rfl) ?_
      refine r_get (v := .ref (gA G 43)) hC inX10 hP (e_0 G _) rfl 6 (by decide) rfl k238 rfl dX10_fitsAll_85 ?_
      refine lv_iload hx hb dX10_fitsAll_88 (lv_at hl 5 rfl) ?_
      obtain ⟨r5, hq4, h⟩ := bn_x h
      refine rc_i hS (run_V hC wX7_tenths k701 (e_43 G _) rfl hP hS (As := [.int y4]) (rest := [.int (fX0_seconds C)]) (mX7_tenths l G Rm hq4) rfl hl.1 (Nat.le_of_ble_eq_true rfl) ⟨by decide, by decide⟩ ⟨Nat.le_refl _, Nat.le_refl _⟩ rfl dX10_fitsAll_90) (fun H locs pb6 hP hS => ?_)
      refine lv_isub hx hb dX10_fitsAll_93 ?_
      refine r_abs hC (rest := []) k729 k545 k13 k546 hl.1 (by decide) (Nat.le_of_ble_eq_true rfl) (Nat.le_refl _) (Nat.le_refl _) dX10_fitsAll_94 ?_
      refine lv_iload_n hx hb dX10_fitsAll_97 rfl (lv_at hl 4 rfl) ?_
      refine lv_icmp_le (tgt := 103) hx hb dX10_fitsAll_98 (by decide) (fun c7 => ?_) (fun c7 => ?_)
      · replace h := it_t c7 h
        obtain ⟨x8, ex8⟩ : ∃ y : Int32, y = y4 + 1 := ⟨_, rfl⟩
        replace h := lt_y ex8 h
        refine lv_iinc (v := x8) (lv' := [(4, .int x8), (6, .int s0), (0, .ref (gA G 0)), (1, .ref (gA G (hdc j1))), (2, .int y2), (3, .int y3)]) hx hb dX10_fitsAll_103 hl (k := 5) rfl (by rw [ex8]; rfl) (by decide) rfl (fun ls hl => ?_)
        refine lv_goto (tgt := 3) hx hb dX10_fitsAll_106 (by decide) ?_
        exact hk3 y2 y3 x8 C _ _ _ h (lv_sub hl [2, 3, 4, 5, 0] rfl) hP hS
      · replace h := it_f c7 h
        refine lv_iconst (v := 0) hx hb dX10_fitsAll_101 (by decide) ?_
        exact re_z' hC hr hP hS PZ0 (pr_1 h) (congrArg (fun Z : Mm => (Z, Rm)) (pr_2 h)) dX10_fitsAll_102
  have bl65 : ∀ (k3 : Int32 → Int32 → Int32 → Mm → Option (Int32 × Mm)) (hk3 : ∀ (y2 : Int32) (y3 : Int32) (y4 : Int32) (C : Mm) (H : Heap) (locs : List Loc) (ls : Array Slot), k3 y2 y3 y4 C = some (r0, C0) → lv_has ls 7 [(0, .ref (gA G 0)), (1, .ref (gA G (hdc j1))), (2, .int y2), (3, .int y3), (4, .int y4)] → va_P (gD G) vwCl (wld G (C, Rm)) H → va_S (lwA G) s.heap H locs → W p l e (rmv 5 141) s m args below meth c H locs 0 0 (MQ below (Qi G PZ r0 (C0, Rm)) args s 0 0 (lwA G)) (F0 m 3 ls [])), ∀ (y2 : Int32) (y3 : Int32) (y4 : Int32) (C : Mm) (H : Heap) (locs : List Loc) (ls : Array Slot), fX10_fitsAll_b65 n j1 k3 y2 y3 y4 C = some (r0, C0) → lv_has ls 7 [(0, .ref (gA G 0)), (1, .ref (gA G (hdc j1))), (2, .int y2), (3, .int y3), (4, .int y4)] → va_P (gD G) vwCl (wld G (C, Rm)) H → va_S (lwA G) s.heap H locs → W p l e (rmv 5 141) s m args below meth c H locs 0 0 (MQ below (Qi G PZ r0 (C0, Rm)) args s 0 0 (lwA G)) (F0 m 65 ls []) := by
    intro k3 hk3 y2 y3 y4 C H locs ls h hl hP hS
    unfold fX10_fitsAll_b65 at h
    refine lv_iconst (v := 1) hx hb dX10_fitsAll_65 (by decide) ?_
    refine lv_goto (tgt := 70) hx hb dX10_fitsAll_66 (by decide) ?_
    exact bl70 k3 hk3 y2 y3 y4 1 C _ _ _ h (lv_sub hl [0, 1, 2, 3, 4] rfl) hP hS
  have bl3 : ∀ (fu : Nat), ∀ (y2 : Int32) (y3 : Int32) (y4 : Int32) (C : Mm) (H : Heap) (locs : List Loc) (ls : Array Slot), fX10_fitsAll_h3 n j1 fu y2 y3 y4 C = some (r0, C0) → lv_has ls 7 [(0, .ref (gA G 0)), (1, .ref (gA G (hdc j1))), (2, .int y2), (3, .int y3), (4, .int y4)] → va_P (gD G) vwCl (wld G (C, Rm)) H → va_S (lwA G) s.heap H locs → W p l e (rmv 5 141) s m args below meth c H locs 0 0 (MQ below (Qi G PZ r0 (C0, Rm)) args s 0 0 (lwA G)) (F0 m 3 ls []) := by
    intro fu
    induction fu with
    | zero =>
      intro y2 y3 y4 C H locs ls h hl hP hS
      rw [fX10_fitsAll_h3.eq_1] at h
      cases h
    | succ fu ih =>
      intro y2 y3 y4 C H locs ls h hl hP hS
      rw [fX10_fitsAll_h3.eq_2] at h
      refine lv_iload hx hb dX10_fitsAll_3 (lv_at hl 4 rfl) ?_
      refine lv_aload_n hx hb dX10_fitsAll_5 rfl (lv_at hl 0 rfl) ?_
      refine r_get (v := .ref (gA G 43)) hC inX10 hP (e_0 G _) rfl 6 (by decide) rfl k238 rfl dX10_fitsAll_6 ?_
      refine rc_i hS (run_V hC wX7_size k651 (e_43 G _) rfl hP hS (As := []) (rest := [.int y4]) (mX7_size l G Rm rfl) rfl hl.1 (Nat.le_of_ble_eq_true rfl) ⟨by decide, by decide⟩ ⟨Nat.le_refl _, Nat.le_refl _⟩ rfl dX10_fitsAll_9) (fun H locs pb10 hP hS => ?_)
      refine lv_icmp_ge (tgt := 109) hx hb dX10_fitsAll_12 (by decide) (fun c11 => ?_) (fun c11 => ?_)
      · replace h := it_t c11 h
        refine lv_iconst (v := 1) hx hb dX10_fitsAll_109 (by decide) ?_
        exact re_z' hC hr hP hS PZ1 (pr_1 h) (congrArg (fun Z : Mm => (Z, Rm)) (pr_2 h)) dX10_fitsAll_110
      · replace h := it_f c11 h
        refine lv_aload_n hx hb dX10_fitsAll_15 rfl (lv_at hl 0 rfl) ?_
        refine r_get (v := .ref (gA G 36)) hC inX10 hP (e_0 G _) rfl 5 (by decide) rfl k237 rfl dX10_fitsAll_16 ?_
        refine lv_aload_n hx hb dX10_fitsAll_19 rfl (lv_at hl 1 rfl) ?_
        refine lv_iload_n hx hb dX10_fitsAll_20 rfl (lv_at hl 2 rfl) ?_
        refine lv_aload_n hx hb dX10_fitsAll_21 rfl (lv_at hl 0 rfl) ?_
        refine r_get (v := .ref (gA G 43)) hC inX10 hP (e_0 G _) rfl 6 (by decide) rfl k238 rfl dX10_fitsAll_22 ?_
        refine lv_iload hx hb dX10_fitsAll_25 (lv_at hl 4 rfl) ?_
        obtain ⟨r13, hq12, h⟩ := bn_x h
        refine rc_i hS (run_V hC wX7_pair k696 (e_43 G _) rfl hP hS (As := [.int y4]) (rest := [.int y2, .ref (gA G (hdc j1)), .ref (gA G 36)]) (mX7_pair l G Rm hq12) rfl hl.1 (Nat.le_of_ble_eq_true rfl) ⟨by decide, by decide⟩ ⟨Nat.le_refl _, Nat.le_refl _⟩ rfl dX10_fitsAll_27) (fun H locs pb14 hP hS => ?_)
        obtain ⟨r16, C17, hq15, h⟩ := bp_x h
        refine rc_i hS (run_V hC wX0_reckon k452 (e_36 G _) rfl hP hS (As := [.ref (gA G (hdc j1)), .int y2, .int r13]) (rest := []) (mX0_reckon l G Rm hj1 hq15) rfl hl.1 (Nat.le_of_ble_eq_true rfl) ⟨by decide, by decide⟩ ⟨Nat.le_refl _, Nat.le_refl _⟩ rfl dX10_fitsAll_30) (fun H locs pb18 hP hS => ?_)
        refine lv_if_ne (tgt := 38) hx hb dX10_fitsAll_33 (by decide) (fun c19 => ?_) (fun c19 => ?_)
        · replace h := it_f c19 h
          refine lv_aload_n hx hb dX10_fitsAll_38 rfl (lv_at hl 0 rfl) ?_
          refine lv_iload hx hb dX10_fitsAll_39 (lv_at hl 4 rfl) ?_
          obtain ⟨r21, hq20, h⟩ := bn_x h
          refine rc_i hS (run_V hC wX10_offOf k705 (e_0 G _) rfl hP hS (As := [.int y4]) (rest := []) (mX10_offOf l G Rm hq20) rfl hl.1 (Nat.le_of_ble_eq_true rfl) ⟨by decide, by decide⟩ ⟨Nat.le_refl _, Nat.le_refl _⟩ rfl dX10_fitsAll_41) (fun H locs pb22 hP hS => ?_)
          refine lv_istore (lv' := [(5, .int r21), (0, .ref (gA G 0)), (1, .ref (gA G (hdc j1))), (2, .int y2), (3, .int y3), (4, .int y4)]) hx hb dX10_fitsAll_44 hl (by decide) rfl (fun ls hl => ?_)
          refine lv_iload hx hb dX10_fitsAll_46 (lv_at hl 0 rfl) ?_
          refine lv_if_eq (tgt := 65) hx hb dX10_fitsAll_48 (by decide) (fun c23 => ?_) (fun c23 => ?_)
          · replace h := it_t c23 h
            exact bl65 (fX10_fitsAll_h3 n j1 fu) ih y2 y3 y4 C17 _ _ _ h (lv_sub hl [1, 2, 3, 4, 5] rfl) hP hS
          · replace h := it_f c23 h
            refine lv_aload_n hx hb dX10_fitsAll_51 rfl (lv_at hl 1 rfl) ?_
            refine r_get (v := .ref (gA G 36)) hC inX10 hP (e_0 G _) rfl 5 (by decide) rfl k237 rfl dX10_fitsAll_52 ?_
            refine lv_iload hx hb dX10_fitsAll_55 (lv_at hl 0 rfl) ?_
            obtain ⟨r25, hq24, h⟩ := bn_x h
            refine rc_i hS (run_V hC wX0_firstThatCan k721 (e_36 G _) rfl hP hS (As := [.int r21]) (rest := []) (mX0_firstThatCan l G Rm hq24) rfl hl.1 (Nat.le_of_ble_eq_true rfl) ⟨by decide, by decide⟩ ⟨Nat.le_refl _, Nat.le_refl _⟩ rfl dX10_fitsAll_57) (fun H locs pb26 hP hS => ?_)
            refine lv_bipush (v := (-2)) hx hb dX10_fitsAll_60 (by decide) ?_
            refine lv_icmp_eq (tgt := 69) hx hb dX10_fitsAll_62 (by decide) (fun c27 => ?_) (fun c27 => ?_)
            · replace h := it_t c27 h
              refine lv_iconst (v := 0) hx hb dX10_fitsAll_69 (by decide) ?_
              exact bl70 (fX10_fitsAll_h3 n j1 fu) ih y2 y3 y4 0 C17 _ _ _ h (lv_sub hl [1, 2, 3, 4, 5] rfl) hP hS
            · replace h := it_f c27 h
              exact bl65 (fX10_fitsAll_h3 n j1 fu) ih y2 y3 y4 C17 _ _ _ h (lv_sub hl [1, 2, 3, 4, 5] rfl) hP hS
        · replace h := it_t c19 h
          refine lv_iconst (v := 0) hx hb dX10_fitsAll_36 (by decide) ?_
          exact re_z' hC hr hP hS PZ0 (pr_1 h) (congrArg (fun Z : Mm => (Z, Rm)) (pr_2 h)) dX10_fitsAll_37
  unfold fX10_fitsAll at h
  refine lv_iconst (v := 0) hx hb dX10_fitsAll_0 (by decide) ?_
  refine lv_istore (lv' := [(4, .int 0), (0, .ref (gA G 0)), (1, .ref (gA G (hdc j1))), (2, .int p2), (3, .int p3)]) hx hb dX10_fitsAll_1 hl (by decide) rfl (fun ls hl => ?_)
  exact bl3 n p2 p3 0 C _ _ _ h (lv_sub hl [1, 2, 3, 4, 0] rfl) hP hS
set_option maxHeartbeats 4000000 in
set_option maxRecDepth 100000 in
theorem mX10_fits (l : Launch) (G : gp) (Rm : Mm) {n : Nat} {p1 : Int32} {p2 : Int32} {C : Mm} {r0 : Int32} {C0 : Mm} (h : fX10_fits n p1 p2 C = some (r0, C0)) : Met l yX10_fits (wsy yX10_fits cX10_fits 5 (some .int)) (rmv 6 167) (va_Pc [.ref (gA G 0), .int p1, .int p2] (Rl G (C, Rm))) (Qi G PT r0 (C0, Rm)) 0 0 (lwA G) := by
  refine met_i [.ref (gA G 0), .int p1, .int p2] wX10_fits.2.2.2.2.2 (Nat.le_of_ble_eq_true rfl) ?_
  intro p e s m args below meth c ls hC hr hP hl
  have hC : Cx G p s m args meth c cX10_fits RX10 5 := hC
  have hx := hC.1
  have hb := hC.2.1
  have hown := hC.2.2.2.1
  have hts := hC.2.2.2.2.1
  have hS : va_S (lwA G) s.heap s.heap [] := va_S.rf
  have hl : lv_has ls 5 [(0, .ref (gA G 0)), (1, .int p1), (2, .int p2)] := hl
  have bl69 : ∀ (k39 : Int32 → Int32 → Int32 → Int32 → Mm → Option (Int32 × Mm)) (hk39 : ∀ (y1 : Int32) (y2 : Int32) (y3 : Int32) (y4 : Int32) (C : Mm) (H : Heap) (locs : List Loc) (ls : Array Slot), k39 y1 y2 y3 y4 C = some (r0, C0) → lv_has ls 5 [(0, .ref (gA G 0)), (1, .int y1), (2, .int y2), (3, .int y3), (4, .int y4)] → va_P (gD G) vwCl (wld G (C, Rm)) H → va_S (lwA G) s.heap H locs → W p l e (rmv 6 167) s m args below meth c H locs 0 0 (MQ below (Qi G PT r0 (C0, Rm)) args s 0 0 (lwA G)) (F0 m 39 ls [])), ∀ (y1 : Int32) (y2 : Int32) (y3 : Int32) (y4 : Int32) (C : Mm) (H : Heap) (locs : List Loc) (ls : Array Slot), fX10_fits_b69 n k39 y1 y2 y3 y4 C = some (r0, C0) → lv_has ls 5 [(0, .ref (gA G 0)), (1, .int y1), (2, .int y2), (3, .int y3), (4, .int y4)] → va_P (gD G) vwCl (wld G (C, Rm)) H → va_S (lwA G) s.heap H locs → W p l e (rmv 6 167) s m args below meth c H locs 0 0 (MQ below (Qi G PT r0 (C0, Rm)) args s 0 0 (lwA G)) (F0 m 69 ls []) := by
    intro k39 hk39 y1 y2 y3 y4 C H locs ls h hl hP hS
    unfold fX10_fits_b69 at h
    obtain ⟨x1, ex1⟩ : ∃ y : Int32, y = y4 + 1 := ⟨_, rfl⟩
    replace h := lt_y ex1 h
    refine lv_iinc (v := x1) (lv' := [(4, .int x1), (0, .ref (gA G 0)), (1, .int y1), (2, .int y2), (3, .int y3)]) hx hb dX10_fits_69 hl (k := 4) rfl (by rw [ex1]; rfl) (by decide) rfl (fun ls hl => ?_)
    refine lv_goto (tgt := 39) hx hb dX10_fits_72 (by decide) ?_
    exact hk39 y1 y2 y3 x1 C _ _ _ h (lv_sub hl [1, 2, 3, 4, 0] rfl) hP hS
  have bl39 : ∀ (fu : Nat), ∀ (y1 : Int32) (y2 : Int32) (y3 : Int32) (y4 : Int32) (C : Mm) (H : Heap) (locs : List Loc) (ls : Array Slot), fX10_fits_h39 n fu y1 y2 y3 y4 C = some (r0, C0) → lv_has ls 5 [(0, .ref (gA G 0)), (1, .int y1), (2, .int y2), (3, .int y3), (4, .int y4)] → va_P (gD G) vwCl (wld G (C, Rm)) H → va_S (lwA G) s.heap H locs → W p l e (rmv 6 167) s m args below meth c H locs 0 0 (MQ below (Qi G PT r0 (C0, Rm)) args s 0 0 (lwA G)) (F0 m 39 ls []) := by
    intro fu
    induction fu with
    | zero =>
      intro y1 y2 y3 y4 C H locs ls h hl hP hS
      rw [fX10_fits_h39.eq_1] at h
      cases h
    | succ fu ih =>
      intro y1 y2 y3 y4 C H locs ls h hl hP hS
      rw [fX10_fits_h39.eq_2] at h
      refine lv_iload hx hb dX10_fits_39 (lv_at hl 4 rfl) ?_
      refine lv_bipush (v := 7) hx hb dX10_fits_41 (by decide) ?_
      refine lv_icmp_ge (tgt := 75) hx hb dX10_fits_43 (by decide) (fun c2 => ?_) (fun c2 => ?_)
      · replace h := it_t c2 h
        refine lv_iload_n hx hb dX10_fits_75 rfl (lv_at hl 3 rfl) ?_
        exact re_i' hC hr hP hS (pr_1 h) (congrArg (fun Z : Mm => (Z, Rm)) (pr_2 h)) dX10_fits_76
      · replace h := it_f c2 h
        refine lv_aload_n hx hb dX10_fits_46 rfl (lv_at hl 0 rfl) ?_
        refine lv_aload_n hx hb dX10_fits_47 rfl (lv_at hl 0 rfl) ?_
        refine r_get (v := .ref (gA G 3)) hC inX10 hP (e_0 G _) rfl 1 (by decide) rfl k233 rfl dX10_fits_48 ?_
        refine lv_iload_n hx hb dX10_fits_51 rfl (lv_at hl 1 rfl) ?_
        by_cases c3 : y1 < (0 : Int32) ∨ 6 ≤ Int32.toNatClampNeg y1
        · cases it_t c3 h
        replace h := it_f c3 h
        refine r_hd hC hP c3 dX10_fits_52 (fun hj4 => ?_)
        refine lv_iload hx hb dX10_fits_53 (lv_at hl 4 rfl) ?_
        refine lv_iload_n hx hb dX10_fits_55 rfl (lv_at hl 2 rfl) ?_
        obtain ⟨r6, C7, hq5, h⟩ := bp_x h
        refine rc_i hS (run_V hC wX10_fitsAll k717 (e_0 G _) rfl hP hS (As := [.ref (gA G (hdc (Int32.toNatClampNeg y1))), .int y4, .int y2]) (rest := []) (mX10_fitsAll l G Rm (Nat.lt_trans hj4 (by decide)) hq5) rfl hl.1 (Nat.le_of_ble_eq_true rfl) ⟨by decide, by decide⟩ ⟨Nat.le_refl _, Nat.le_refl _⟩ rfl dX10_fits_56) (fun H locs pb8 hP hS => ?_)
        refine lv_if_eq (tgt := 69) hx hb dX10_fits_59 (by decide) (fun c9 => ?_) (fun c9 => ?_)
        · replace h := it_t c9 h
          exact bl69 (fX10_fits_h39 n fu) ih y1 y2 y3 y4 C7 _ _ _ h (lv_sub hl [0, 1, 2, 3, 4] rfl) hP hS
        · replace h := it_f c9 h
          refine lv_iload_n hx hb dX10_fits_62 rfl (lv_at hl 3 rfl) ?_
          refine lv_iconst (v := 1) hx hb dX10_fits_63 (by decide) ?_
          refine lv_iload hx hb dX10_fits_64 (lv_at hl 4 rfl) ?_
          refine lv_ishl hx hb dX10_fits_66 ?_
          refine lv_ior hx hb dX10_fits_67 ?_
          refine lv_topi (fun x10 ex10 => ?_)
          replace h := lt_y ex10 h
          refine lv_istore_n (lv' := [(3, .int x10), (0, .ref (gA G 0)), (1, .int y1), (2, .int y2), (4, .int y4)]) hx hb dX10_fits_68 rfl hl (by decide) rfl (fun ls hl => ?_)
          exact bl69 (fX10_fits_h39 n fu) ih y1 y2 x10 y4 C7 _ _ _ h (lv_sub hl [1, 2, 3, 0, 4] rfl) hP hS
  unfold fX10_fits at h
  refine lv_aload_n hx hb dX10_fits_0 rfl (lv_at hl 0 rfl) ?_
  refine lv_iload_n hx hb dX10_fits_1 rfl (lv_at hl 1 rfl) ?_
  refine rc_i hS (run_V hC wX10_isHead k336 (e_0 G _) rfl hP hS (As := [.int p1]) (rest := []) (mX10_isHead l G Rm rfl) rfl hl.1 (Nat.le_of_ble_eq_true rfl) ⟨by decide, by decide⟩ ⟨Nat.le_refl _, Nat.le_refl _⟩ rfl dX10_fits_2) (fun H locs pb12 hP hS => ?_)
  refine lv_if_eq (tgt := 19) hx hb dX10_fits_5 (by decide) (fun c13 => ?_) (fun c13 => ?_)
  · replace h := it_t c13 h
    refine lv_iconst (v := (-1)) hx hb dX10_fits_19 (by decide) ?_
    exact re_i' hC hr hP hS (pr_1 h) (congrArg (fun Z : Mm => (Z, Rm)) (pr_2 h)) dX10_fits_20
  · replace h := it_f c13 h
    refine lv_iload_n hx hb dX10_fits_8 rfl (lv_at hl 2 rfl) ?_
    refine lv_if_lt (tgt := 19) hx hb dX10_fits_9 (by decide) (fun c14 => ?_) (fun c14 => ?_)
    · replace h := it_t c14 h
      refine lv_iconst (v := (-1)) hx hb dX10_fits_19 (by decide) ?_
      exact re_i' hC hr hP hS (pr_1 h) (congrArg (fun Z : Mm => (Z, Rm)) (pr_2 h)) dX10_fits_20
    · replace h := it_f c14 h
      refine lv_iload_n hx hb dX10_fits_12 rfl (lv_at hl 2 rfl) ?_
      refine lv_sipush (v := 9999) hx hb dX10_fits_13 (by decide) ?_
      refine lv_icmp_le (tgt := 21) hx hb dX10_fits_16 (by decide) (fun c15 => ?_) (fun c15 => ?_)
      · replace h := it_t c15 h
        refine lv_aload_n hx hb dX10_fits_21 rfl (lv_at hl 0 rfl) ?_
        refine r_get (v := .ref (gA G 43)) hC inX10 hP (e_0 G _) rfl 6 (by decide) rfl k238 rfl dX10_fits_22 ?_
        refine rc_i hS (run_V hC wX7_size k651 (e_43 G _) rfl hP hS (As := []) (rest := []) (mX7_size l G Rm rfl) rfl hl.1 (Nat.le_of_ble_eq_true rfl) ⟨by decide, by decide⟩ ⟨Nat.le_refl _, Nat.le_refl _⟩ rfl dX10_fits_25) (fun H locs pb17 hP hS => ?_)
        refine lv_if_ne (tgt := 34) hx hb dX10_fits_28 (by decide) (fun c18 => ?_) (fun c18 => ?_)
        · replace h := it_f c18 h
          refine lv_iconst (v := 0) hx hb dX10_fits_34 (by decide) ?_
          refine lv_istore_n (lv' := [(3, .int 0), (0, .ref (gA G 0)), (1, .int p1), (2, .int p2)]) hx hb dX10_fits_35 rfl hl (by decide) rfl (fun ls hl => ?_)
          refine lv_iconst (v := 0) hx hb dX10_fits_36 (by decide) ?_
          refine lv_istore (lv' := [(4, .int 0), (3, .int 0), (0, .ref (gA G 0)), (1, .int p1), (2, .int p2)]) hx hb dX10_fits_37 hl (by decide) rfl (fun ls hl => ?_)
          exact bl39 n p1 p2 0 0 C _ _ _ h (lv_sub hl [2, 3, 4, 1, 0] rfl) hP hS
        · replace h := it_t c18 h
          refine lv_bipush (v := (-5)) hx hb dX10_fits_31 (by decide) ?_
          exact re_i' hC hr hP hS (pr_1 h) (congrArg (fun Z : Mm => (Z, Rm)) (pr_2 h)) dX10_fits_33
      · replace h := it_f c15 h
        refine lv_iconst (v := (-1)) hx hb dX10_fits_19 (by decide) ?_
        exact re_i' hC hr hP hS (pr_1 h) (congrArg (fun Z : Mm => (Z, Rm)) (pr_2 h)) dX10_fits_20
set_option maxHeartbeats 4000000 in
set_option maxRecDepth 100000 in
theorem mX10_sumOfDifferences (l : Launch) (G : gp) (Rm : Mm) {n : Nat} {j1 : Nat} (hj1 : j1 < 7) {p2 : Int32} {C : Mm} {r0 : Int32} {C0 : Mm} (h : fX10_sumOfDifferences n j1 p2 C = some (r0, C0)) : Met l yX10_sumOfDifferences (wsy yX10_sumOfDifferences cX10_sumOfDifferences 5 (some .int)) (rmv 6 164) (va_Pc [.ref (gA G 0), .ref (gA G (hdc j1)), .int p2] (Rl G (C, Rm))) (Qi G PT r0 (C0, Rm)) 0 0 (lwA G) := by
  refine met_i [.ref (gA G 0), .ref (gA G (hdc j1)), .int p2] wX10_sumOfDifferences.2.2.2.2.2 (Nat.le_of_ble_eq_true rfl) ?_
  intro p e s m args below meth c ls hC hr hP hl
  have hC : Cx G p s m args meth c cX10_sumOfDifferences RX10 5 := hC
  have hx := hC.1
  have hb := hC.2.1
  have hown := hC.2.2.2.1
  have hts := hC.2.2.2.2.1
  have hS : va_S (lwA G) s.heap s.heap [] := va_S.rf
  have hl : lv_has ls 5 [(0, .ref (gA G 0)), (1, .ref (gA G (hdc j1))), (2, .int p2)] := hl
  have bl65 : ∀ (k5 : Int32 → Int32 → Int32 → Mm → Option (Int32 × Mm)) (hk5 : ∀ (y2 : Int32) (y3 : Int32) (y4 : Int32) (C : Mm) (H : Heap) (locs : List Loc) (ls : Array Slot), k5 y2 y3 y4 C = some (r0, C0) → lv_has ls 5 [(0, .ref (gA G 0)), (1, .ref (gA G (hdc j1))), (2, .int y2), (3, .int y3), (4, .int y4)] → va_P (gD G) vwCl (wld G (C, Rm)) H → va_S (lwA G) s.heap H locs → W p l e (rmv 6 164) s m args below meth c H locs 0 0 (MQ below (Qi G PT r0 (C0, Rm)) args s 0 0 (lwA G)) (F0 m 5 ls [])), ∀ (y2 : Int32) (y3 : Int32) (y4 : Int32) (C : Mm) (H : Heap) (locs : List Loc) (ls : Array Slot), fX10_sumOfDifferences_b65 n j1 k5 y2 y3 y4 C = some (r0, C0) → lv_has ls 5 [(0, .ref (gA G 0)), (1, .ref (gA G (hdc j1))), (2, .int y2), (3, .int y3), (4, .int y4)] → va_P (gD G) vwCl (wld G (C, Rm)) H → va_S (lwA G) s.heap H locs → W p l e (rmv 6 164) s m args below meth c H locs 0 0 (MQ below (Qi G PT r0 (C0, Rm)) args s 0 0 (lwA G)) (F0 m 65 ls []) := by
    intro k5 hk5 y2 y3 y4 C H locs ls h hl hP hS
    unfold fX10_sumOfDifferences_b65 at h
    refine lv_iload_n hx hb dX10_sumOfDifferences_65 rfl (lv_at hl 3 rfl) ?_
    refine lv_aload_n hx hb dX10_sumOfDifferences_66 rfl (lv_at hl 0 rfl) ?_
    refine r_get (v := .ref (gA G 36)) hC inX10 hP (e_0 G _) rfl 5 (by decide) rfl k237 rfl dX10_sumOfDifferences_67 ?_
    refine rc_i hS (run_V hC wX0_seconds k551 (e_36 G _) rfl hP hS (As := []) (rest := [.int y3]) (mX0_seconds l G Rm rfl) rfl hl.1 (Nat.le_of_ble_eq_true rfl) ⟨by decide, by decide⟩ ⟨Nat.le_refl _, Nat.le_refl _⟩ rfl dX10_sumOfDifferences_70) (fun H locs pb2 hP hS => ?_)
    refine lv_aload_n hx hb dX10_sumOfDifferences_73 rfl (lv_at hl 0 rfl) ?_
    refine r_get (v := .ref (gA G 43)) hC inX10 hP (e_0 G _) rfl 6 (by decide) rfl k238 rfl dX10_sumOfDifferences_74 ?_
    refine lv_iload hx hb dX10_sumOfDifferences_77 (lv_at hl 4 rfl) ?_
    obtain ⟨r4, hq3, h⟩ := bn_x h
    refine rc_i hS (run_V hC wX7_tenths k701 (e_43 G _) rfl hP hS (As := [.int y4]) (rest := [.int (fX0_seconds C), .int y3]) (mX7_tenths l G Rm hq3) rfl hl.1 (Nat.le_of_ble_eq_true rfl) ⟨by decide, by decide⟩ ⟨Nat.le_refl _, Nat.le_refl _⟩ rfl dX10_sumOfDifferences_79) (fun H locs pb5 hP hS => ?_)
    refine lv_isub hx hb dX10_sumOfDifferences_82 ?_
    refine r_abs hC (rest := [.int y3]) k729 k545 k13 k546 hl.1 (by decide) (Nat.le_of_ble_eq_true rfl) (Nat.le_refl _) (Nat.le_refl _) dX10_sumOfDifferences_83 ?_
    refine lv_iadd hx hb dX10_sumOfDifferences_86 ?_
    refine lv_topi (fun x6 ex6 => ?_)
    replace h := lt_y ex6 h
    refine lv_istore_n (lv' := [(3, .int x6), (0, .ref (gA G 0)), (1, .ref (gA G (hdc j1))), (2, .int y2), (4, .int y4)]) hx hb dX10_sumOfDifferences_87 rfl hl (by decide) rfl (fun ls hl => ?_)
    obtain ⟨x7, ex7⟩ : ∃ y : Int32, y = y4 + 1 := ⟨_, rfl⟩
    replace h := lt_y ex7 h
    refine lv_iinc (v := x7) (lv' := [(4, .int x7), (3, .int x6), (0, .ref (gA G 0)), (1, .ref (gA G (hdc j1))), (2, .int y2)]) hx hb dX10_sumOfDifferences_88 hl (k := 4) rfl (by rw [ex7]; rfl) (by decide) rfl (fun ls hl => ?_)
    refine lv_goto (tgt := 5) hx hb dX10_sumOfDifferences_91 (by decide) ?_
    exact hk5 y2 x6 x7 C _ _ _ h (lv_sub hl [2, 3, 4, 1, 0] rfl) hP hS
  have bl5 : ∀ (fu : Nat), ∀ (y2 : Int32) (y3 : Int32) (y4 : Int32) (C : Mm) (H : Heap) (locs : List Loc) (ls : Array Slot), fX10_sumOfDifferences_h5 n j1 fu y2 y3 y4 C = some (r0, C0) → lv_has ls 5 [(0, .ref (gA G 0)), (1, .ref (gA G (hdc j1))), (2, .int y2), (3, .int y3), (4, .int y4)] → va_P (gD G) vwCl (wld G (C, Rm)) H → va_S (lwA G) s.heap H locs → W p l e (rmv 6 164) s m args below meth c H locs 0 0 (MQ below (Qi G PT r0 (C0, Rm)) args s 0 0 (lwA G)) (F0 m 5 ls []) := by
    intro fu
    induction fu with
    | zero =>
      intro y2 y3 y4 C H locs ls h hl hP hS
      rw [fX10_sumOfDifferences_h5.eq_1] at h
      cases h
    | succ fu ih =>
      intro y2 y3 y4 C H locs ls h hl hP hS
      rw [fX10_sumOfDifferences_h5.eq_2] at h
      refine lv_iload hx hb dX10_sumOfDifferences_5 (lv_at hl 4 rfl) ?_
      refine lv_aload_n hx hb dX10_sumOfDifferences_7 rfl (lv_at hl 0 rfl) ?_
      refine r_get (v := .ref (gA G 43)) hC inX10 hP (e_0 G _) rfl 6 (by decide) rfl k238 rfl dX10_sumOfDifferences_8 ?_
      refine rc_i hS (run_V hC wX7_size k651 (e_43 G _) rfl hP hS (As := []) (rest := [.int y4]) (mX7_size l G Rm rfl) rfl hl.1 (Nat.le_of_ble_eq_true rfl) ⟨by decide, by decide⟩ ⟨Nat.le_refl _, Nat.le_refl _⟩ rfl dX10_sumOfDifferences_11) (fun H locs pb9 hP hS => ?_)
      refine lv_icmp_ge (tgt := 94) hx hb dX10_sumOfDifferences_14 (by decide) (fun c10 => ?_) (fun c10 => ?_)
      · replace h := it_t c10 h
        refine lv_iload_n hx hb dX10_sumOfDifferences_94 rfl (lv_at hl 3 rfl) ?_
        exact re_i' hC hr hP hS (pr_1 h) (congrArg (fun Z : Mm => (Z, Rm)) (pr_2 h)) dX10_sumOfDifferences_95
      · replace h := it_f c10 h
        refine lv_iload_n hx hb dX10_sumOfDifferences_17 rfl (lv_at hl 2 rfl) ?_
        refine lv_bipush (v := 7) hx hb dX10_sumOfDifferences_18 (by decide) ?_
        refine lv_icmp_ne (tgt := 41) hx hb dX10_sumOfDifferences_20 (by decide) (fun c11 => ?_) (fun c11 => ?_)
        · replace h := it_f c11 h
          refine lv_aload_n hx hb dX10_sumOfDifferences_41 rfl (lv_at hl 0 rfl) ?_
          refine r_get (v := .ref (gA G 36)) hC inX10 hP (e_0 G _) rfl 5 (by decide) rfl k237 rfl dX10_sumOfDifferences_42 ?_
          refine lv_aload_n hx hb dX10_sumOfDifferences_45 rfl (lv_at hl 1 rfl) ?_
          refine lv_iload_n hx hb dX10_sumOfDifferences_46 rfl (lv_at hl 2 rfl) ?_
          refine lv_aload_n hx hb dX10_sumOfDifferences_47 rfl (lv_at hl 0 rfl) ?_
          refine r_get (v := .ref (gA G 43)) hC inX10 hP (e_0 G _) rfl 6 (by decide) rfl k238 rfl dX10_sumOfDifferences_48 ?_
          refine lv_iload hx hb dX10_sumOfDifferences_51 (lv_at hl 4 rfl) ?_
          obtain ⟨r13, hq12, h⟩ := bn_x h
          refine rc_i hS (run_V hC wX7_pair k696 (e_43 G _) rfl hP hS (As := [.int y4]) (rest := [.int y2, .ref (gA G (hdc j1)), .ref (gA G 36)]) (mX7_pair l G Rm hq12) rfl hl.1 (Nat.le_of_ble_eq_true rfl) ⟨by decide, by decide⟩ ⟨Nat.le_refl _, Nat.le_refl _⟩ rfl dX10_sumOfDifferences_53) (fun H locs pb14 hP hS => ?_)
          obtain ⟨r16, C17, hq15, h⟩ := bp_x h
          refine rc_i hS (run_V hC wX0_reckon k452 (e_36 G _) rfl hP hS (As := [.ref (gA G (hdc j1)), .int y2, .int r13]) (rest := []) (mX0_reckon l G Rm hj1 hq15) rfl hl.1 (Nat.le_of_ble_eq_true rfl) ⟨by decide, by decide⟩ ⟨Nat.le_refl _, Nat.le_refl _⟩ rfl dX10_sumOfDifferences_56) (fun H locs pb18 hP hS => ?_)
          refine lv_if_ne (tgt := 65) hx hb dX10_sumOfDifferences_59 (by decide) (fun c19 => ?_) (fun c19 => ?_)
          · replace h := it_f c19 h
            exact bl65 (fX10_sumOfDifferences_h5 n j1 fu) ih y2 y3 y4 C17 _ _ _ h (lv_sub hl [0, 1, 2, 3, 4] rfl) hP hS
          · replace h := it_t c19 h
            refine lv_bipush (v := (-2)) hx hb dX10_sumOfDifferences_62 (by decide) ?_
            exact re_i' hC hr hP hS (pr_1 h) (congrArg (fun Z : Mm => (Z, Rm)) (pr_2 h)) dX10_sumOfDifferences_64
        · replace h := it_t c11 h
          refine lv_aload_n hx hb dX10_sumOfDifferences_23 rfl (lv_at hl 0 rfl) ?_
          refine lv_aload_n hx hb dX10_sumOfDifferences_24 rfl (lv_at hl 1 rfl) ?_
          refine lv_aload_n hx hb dX10_sumOfDifferences_25 rfl (lv_at hl 0 rfl) ?_
          refine r_get (v := .ref (gA G 43)) hC inX10 hP (e_0 G _) rfl 6 (by decide) rfl k238 rfl dX10_sumOfDifferences_26 ?_
          refine lv_iload hx hb dX10_sumOfDifferences_29 (lv_at hl 4 rfl) ?_
          obtain ⟨r21, hq20, h⟩ := bn_x h
          refine rc_i hS (run_V hC wX7_pair k696 (e_43 G _) rfl hP hS (As := [.int y4]) (rest := [.ref (gA G (hdc j1)), .ref (gA G 0)]) (mX7_pair l G Rm hq20) rfl hl.1 (Nat.le_of_ble_eq_true rfl) ⟨by decide, by decide⟩ ⟨Nat.le_refl _, Nat.le_refl _⟩ rfl dX10_sumOfDifferences_31) (fun H locs pb22 hP hS => ?_)
          obtain ⟨r24, C25, hq23, h⟩ := bp_x h
          refine rc_i hS (run_V hC wX10_reckonChosen k577 (e_0 G _) rfl hP hS (As := [.ref (gA G (hdc j1)), .int r21]) (rest := []) (mX10_reckonChosen l G Rm hj1 hq23) rfl hl.1 (Nat.le_of_ble_eq_true rfl) ⟨by decide, by decide⟩ ⟨Nat.le_refl _, Nat.le_refl _⟩ rfl dX10_sumOfDifferences_34) (fun H locs pb26 hP hS => ?_)
          refine lv_pop hx hb dX10_sumOfDifferences_37 rfl ?_
          refine lv_goto (tgt := 65) hx hb dX10_sumOfDifferences_38 (by decide) ?_
          exact bl65 (fX10_sumOfDifferences_h5 n j1 fu) ih y2 y3 y4 C25 _ _ _ h (lv_sub hl [0, 1, 2, 3, 4] rfl) hP hS
  unfold fX10_sumOfDifferences at h
  refine lv_iconst (v := 0) hx hb dX10_sumOfDifferences_0 (by decide) ?_
  refine lv_istore_n (lv' := [(3, .int 0), (0, .ref (gA G 0)), (1, .ref (gA G (hdc j1))), (2, .int p2)]) hx hb dX10_sumOfDifferences_1 rfl hl (by decide) rfl (fun ls hl => ?_)
  refine lv_iconst (v := 0) hx hb dX10_sumOfDifferences_2 (by decide) ?_
  refine lv_istore (lv' := [(4, .int 0), (3, .int 0), (0, .ref (gA G 0)), (1, .ref (gA G (hdc j1))), (2, .int p2)]) hx hb dX10_sumOfDifferences_3 hl (by decide) rfl (fun ls hl => ?_)
  exact bl5 n p2 0 0 C _ _ _ h (lv_sub hl [2, 3, 4, 1, 0] rfl) hP hS
set_option maxHeartbeats 4000000 in
set_option maxRecDepth 100000 in
theorem mX10_best (l : Launch) (G : gp) (Rm : Mm) {n : Nat} {p1 : Int32} {p2 : Int32} {C : Mm} {r0 : Int32} {C0 : Mm} (h : fX10_best n p1 p2 C = some (r0, C0)) : Met l yX10_best (wsy yX10_best cX10_best 7 (some .int)) (rmv 7 188) (va_Pc [.ref (gA G 0), .int p1, .int p2] (Rl G (C, Rm))) (Qi G PT r0 (C0, Rm)) 0 0 (lwA G) := by
  refine met_i [.ref (gA G 0), .int p1, .int p2] wX10_best.2.2.2.2.2 (Nat.le_of_ble_eq_true rfl) ?_
  intro p e s m args below meth c ls hC hr hP hl
  have hC : Cx G p s m args meth c cX10_best RX10 7 := hC
  have hx := hC.1
  have hb := hC.2.1
  have hown := hC.2.2.2.1
  have hts := hC.2.2.2.2.1
  have hS : va_S (lwA G) s.heap s.heap [] := va_S.rf
  have hl : lv_has ls 7 [(0, .ref (gA G 0)), (1, .int p1), (2, .int p2)] := hl
  have bl93 : ∀ (k53 : Int32 → Int32 → Int32 → Int32 → Int32 → Mm → Option (Int32 × Mm)) (hk53 : ∀ (y1 : Int32) (y2 : Int32) (y3 : Int32) (y4 : Int32) (y5 : Int32) (C : Mm) (H : Heap) (locs : List Loc) (ls : Array Slot), k53 y1 y2 y3 y4 y5 C = some (r0, C0) → lv_has ls 7 [(0, .ref (gA G 0)), (1, .int y1), (2, .int y2), (3, .int y3), (4, .int y4), (5, .int y5)] → va_P (gD G) vwCl (wld G (C, Rm)) H → va_S (lwA G) s.heap H locs → W p l e (rmv 7 188) s m args below meth c H locs 0 0 (MQ below (Qi G PT r0 (C0, Rm)) args s 0 0 (lwA G)) (F0 m 53 ls [])), ∀ (y1 : Int32) (y2 : Int32) (y3 : Int32) (y4 : Int32) (y5 : Int32) (C : Mm) (H : Heap) (locs : List Loc) (ls : Array Slot), fX10_best_b93 n k53 y1 y2 y3 y4 y5 C = some (r0, C0) → lv_has ls 7 [(0, .ref (gA G 0)), (1, .int y1), (2, .int y2), (3, .int y3), (4, .int y4), (5, .int y5)] → va_P (gD G) vwCl (wld G (C, Rm)) H → va_S (lwA G) s.heap H locs → W p l e (rmv 7 188) s m args below meth c H locs 0 0 (MQ below (Qi G PT r0 (C0, Rm)) args s 0 0 (lwA G)) (F0 m 93 ls []) := by
    intro k53 hk53 y1 y2 y3 y4 y5 C H locs ls h hl hP hS
    unfold fX10_best_b93 at h
    obtain ⟨x1, ex1⟩ : ∃ y : Int32, y = y5 + (-1) := ⟨_, rfl⟩
    replace h := lt_y ex1 h
    refine lv_iinc (v := x1) (lv' := [(5, .int x1), (0, .ref (gA G 0)), (1, .int y1), (2, .int y2), (3, .int y3), (4, .int y4)]) hx hb dX10_best_93 hl (k := 5) rfl (by rw [ex1]; rfl) (by decide) rfl (fun ls hl => ?_)
    refine lv_goto (tgt := 53) hx hb dX10_best_96 (by decide) ?_
    exact hk53 y1 y2 y3 y4 x1 C _ _ _ h (lv_sub hl [1, 2, 3, 4, 5, 0] rfl) hP hS
  have bl53 : ∀ (fu : Nat), ∀ (y1 : Int32) (y2 : Int32) (y3 : Int32) (y4 : Int32) (y5 : Int32) (C : Mm) (H : Heap) (locs : List Loc) (ls : Array Slot), fX10_best_h53 n fu y1 y2 y3 y4 y5 C = some (r0, C0) → lv_has ls 7 [(0, .ref (gA G 0)), (1, .int y1), (2, .int y2), (3, .int y3), (4, .int y4), (5, .int y5)] → va_P (gD G) vwCl (wld G (C, Rm)) H → va_S (lwA G) s.heap H locs → W p l e (rmv 7 188) s m args below meth c H locs 0 0 (MQ below (Qi G PT r0 (C0, Rm)) args s 0 0 (lwA G)) (F0 m 53 ls []) := by
    intro fu
    induction fu with
    | zero =>
      intro y1 y2 y3 y4 y5 C H locs ls h hl hP hS
      rw [fX10_best_h53.eq_1] at h
      cases h
    | succ fu ih =>
      intro y1 y2 y3 y4 y5 C H locs ls h hl hP hS
      rw [fX10_best_h53.eq_2] at h
      refine lv_iload hx hb dX10_best_53 (lv_at hl 5 rfl) ?_
      refine lv_if_lt (tgt := 99) hx hb dX10_best_55 (by decide) (fun c2 => ?_) (fun c2 => ?_)
      · replace h := it_t c2 h
        refine lv_iload_n hx hb dX10_best_99 rfl (lv_at hl 2 rfl) ?_
        refine lv_if_ne (tgt := 107) hx hb dX10_best_100 (by decide) (fun c3 => ?_) (fun c3 => ?_)
        · replace h := it_f c3 h
          refine lv_iload hx hb dX10_best_107 (lv_at hl 4 rfl) ?_
          exact re_i' hC hr hP hS (pr_1 h) (congrArg (fun Z : Mm => (Z, Rm)) (pr_2 h)) dX10_best_109
        · replace h := it_t c3 h
          refine lv_iload_n hx hb dX10_best_103 rfl (lv_at hl 3 rfl) ?_
          refine lv_goto (tgt := 109) hx hb dX10_best_104 (by decide) ?_
          exact re_i' hC hr hP hS (pr_1 h) (congrArg (fun Z : Mm => (Z, Rm)) (pr_2 h)) dX10_best_109
      · replace h := it_f c2 h
        refine lv_aload_n hx hb dX10_best_58 rfl (lv_at hl 0 rfl) ?_
        refine lv_aload_n hx hb dX10_best_59 rfl (lv_at hl 0 rfl) ?_
        refine r_get (v := .ref (gA G 3)) hC inX10 hP (e_0 G _) rfl 1 (by decide) rfl k233 rfl dX10_best_60 ?_
        refine lv_iload_n hx hb dX10_best_63 rfl (lv_at hl 1 rfl) ?_
        by_cases c4 : y1 < (0 : Int32) ∨ 6 ≤ Int32.toNatClampNeg y1
        · cases it_t c4 h
        replace h := it_f c4 h
        refine r_hd hC hP c4 dX10_best_64 (fun hj5 => ?_)
        refine lv_iload hx hb dX10_best_65 (lv_at hl 5 rfl) ?_
        obtain ⟨r7, C8, hq6, h⟩ := bp_x h
        refine rc_i hS (run_V hC wX10_sumOfDifferences k734 (e_0 G _) rfl hP hS (As := [.ref (gA G (hdc (Int32.toNatClampNeg y1))), .int y5]) (rest := []) (mX10_sumOfDifferences l G Rm (Nat.lt_trans hj5 (by decide)) hq6) rfl hl.1 (Nat.le_of_ble_eq_true rfl) ⟨by decide, by decide⟩ ⟨Nat.le_refl _, Nat.le_refl _⟩ rfl dX10_best_67) (fun H locs pb9 hP hS => ?_)
        refine lv_istore (lv' := [(6, .int r7), (0, .ref (gA G 0)), (1, .int y1), (2, .int y2), (3, .int y3), (4, .int y4), (5, .int y5)]) hx hb dX10_best_70 hl (by decide) rfl (fun ls hl => ?_)
        refine lv_iload hx hb dX10_best_72 (lv_at hl 0 rfl) ?_
        refine lv_bipush (v := (-2)) hx hb dX10_best_74 (by decide) ?_
        refine lv_icmp_eq (tgt := 93) hx hb dX10_best_76 (by decide) (fun c10 => ?_) (fun c10 => ?_)
        · replace h := it_t c10 h
          exact bl93 (fX10_best_h53 n fu) ih y1 y2 y3 y4 y5 C8 _ _ _ h (lv_sub hl [1, 2, 3, 4, 5, 6] rfl) hP hS
        · replace h := it_f c10 h
          refine lv_iload hx hb dX10_best_79 (lv_at hl 0 rfl) ?_
          refine lv_iload hx hb dX10_best_81 (lv_at hl 5 rfl) ?_
          refine lv_icmp_gt (tgt := 93) hx hb dX10_best_83 (by decide) (fun c11 => ?_) (fun c11 => ?_)
          · replace h := it_t c11 h
            exact bl93 (fX10_best_h53 n fu) ih y1 y2 y3 y4 y5 C8 _ _ _ h (lv_sub hl [1, 2, 3, 4, 5, 6] rfl) hP hS
          · replace h := it_f c11 h
            refine lv_iload hx hb dX10_best_86 (lv_at hl 6 rfl) ?_
            refine lv_istore_n (lv' := [(3, .int y5), (6, .int r7), (0, .ref (gA G 0)), (1, .int y1), (2, .int y2), (4, .int y4), (5, .int y5)]) hx hb dX10_best_88 rfl hl (by decide) rfl (fun ls hl => ?_)
            refine lv_iload hx hb dX10_best_89 (lv_at hl 1 rfl) ?_
            refine lv_istore (lv' := [(4, .int r7), (3, .int y5), (6, .int r7), (0, .ref (gA G 0)), (1, .int y1), (2, .int y2), (5, .int y5)]) hx hb dX10_best_91 hl (by decide) rfl (fun ls hl => ?_)
            exact bl93 (fX10_best_h53 n fu) ih y1 y2 y5 r7 y5 C8 _ _ _ h (lv_sub hl [3, 4, 5, 1, 0, 6] rfl) hP hS
  unfold fX10_best at h
  refine lv_aload_n hx hb dX10_best_0 rfl (lv_at hl 0 rfl) ?_
  refine lv_iload_n hx hb dX10_best_1 rfl (lv_at hl 1 rfl) ?_
  refine rc_i hS (run_V hC wX10_isHead k336 (e_0 G _) rfl hP hS (As := [.int p1]) (rest := []) (mX10_isHead l G Rm rfl) rfl hl.1 (Nat.le_of_ble_eq_true rfl) ⟨by decide, by decide⟩ ⟨Nat.le_refl _, Nat.le_refl _⟩ rfl dX10_best_2) (fun H locs pb13 hP hS => ?_)
  refine lv_if_eq (tgt := 17) hx hb dX10_best_5 (by decide) (fun c14 => ?_) (fun c14 => ?_)
  · replace h := it_t c14 h
    refine lv_iconst (v := (-1)) hx hb dX10_best_17 (by decide) ?_
    exact re_i' hC hr hP hS (pr_1 h) (congrArg (fun Z : Mm => (Z, Rm)) (pr_2 h)) dX10_best_18
  · replace h := it_f c14 h
    refine lv_iload_n hx hb dX10_best_8 rfl (lv_at hl 2 rfl) ?_
    refine lv_if_lt (tgt := 17) hx hb dX10_best_9 (by decide) (fun c15 => ?_) (fun c15 => ?_)
    · replace h := it_t c15 h
      refine lv_iconst (v := (-1)) hx hb dX10_best_17 (by decide) ?_
      exact re_i' hC hr hP hS (pr_1 h) (congrArg (fun Z : Mm => (Z, Rm)) (pr_2 h)) dX10_best_18
    · replace h := it_f c15 h
      refine lv_iload_n hx hb dX10_best_12 rfl (lv_at hl 2 rfl) ?_
      refine lv_iconst (v := 1) hx hb dX10_best_13 (by decide) ?_
      refine lv_icmp_le (tgt := 19) hx hb dX10_best_14 (by decide) (fun c16 => ?_) (fun c16 => ?_)
      · replace h := it_t c16 h
        refine lv_aload_n hx hb dX10_best_19 rfl (lv_at hl 0 rfl) ?_
        refine r_get (v := .ref (gA G 43)) hC inX10 hP (e_0 G _) rfl 6 (by decide) rfl k238 rfl dX10_best_20 ?_
        refine rc_i hS (run_V hC wX7_size k651 (e_43 G _) rfl hP hS (As := []) (rest := []) (mX7_size l G Rm rfl) rfl hl.1 (Nat.le_of_ble_eq_true rfl) ⟨by decide, by decide⟩ ⟨Nat.le_refl _, Nat.le_refl _⟩ rfl dX10_best_23) (fun H locs pb18 hP hS => ?_)
        refine lv_if_ne (tgt := 32) hx hb dX10_best_26 (by decide) (fun c19 => ?_) (fun c19 => ?_)
        · replace h := it_f c19 h
          refine lv_bipush (v := 7) hx hb dX10_best_32 (by decide) ?_
          refine lv_istore_n (lv' := [(3, .int 7), (0, .ref (gA G 0)), (1, .int p1), (2, .int p2)]) hx hb dX10_best_34 rfl hl (by decide) rfl (fun ls hl => ?_)
          refine lv_aload_n hx hb dX10_best_35 rfl (lv_at hl 1 rfl) ?_
          refine lv_aload_n hx hb dX10_best_36 rfl (lv_at hl 1 rfl) ?_
          refine r_get (v := .ref (gA G 3)) hC inX10 hP (e_0 G _) rfl 1 (by decide) rfl k233 rfl dX10_best_37 ?_
          refine lv_iload_n hx hb dX10_best_40 rfl (lv_at hl 2 rfl) ?_
          by_cases c20 : p1 < (0 : Int32) ∨ 6 ≤ Int32.toNatClampNeg p1
          · cases it_t c20 h
          replace h := it_f c20 h
          refine r_hd hC hP c20 dX10_best_41 (fun hj21 => ?_)
          refine lv_bipush (v := 7) hx hb dX10_best_42 (by decide) ?_
          obtain ⟨r23, C24, hq22, h⟩ := bp_x h
          refine rc_i hS (run_V hC wX10_sumOfDifferences k734 (e_0 G _) rfl hP hS (As := [.ref (gA G (hdc (Int32.toNatClampNeg p1))), .int 7]) (rest := []) (mX10_sumOfDifferences l G Rm (Nat.lt_trans hj21 (by decide)) hq22) rfl hl.1 (Nat.le_of_ble_eq_true rfl) ⟨by decide, by decide⟩ ⟨Nat.le_refl _, Nat.le_refl _⟩ rfl dX10_best_44) (fun H locs pb25 hP hS => ?_)
          refine lv_istore (lv' := [(4, .int r23), (3, .int 7), (0, .ref (gA G 0)), (1, .int p1), (2, .int p2)]) hx hb dX10_best_47 hl (by decide) rfl (fun ls hl => ?_)
          refine lv_bipush (v := 6) hx hb dX10_best_49 (by decide) ?_
          refine lv_istore (lv' := [(5, .int 6), (4, .int r23), (3, .int 7), (0, .ref (gA G 0)), (1, .int p1), (2, .int p2)]) hx hb dX10_best_51 hl (by decide) rfl (fun ls hl => ?_)
          exact bl53 n p1 p2 7 r23 6 C24 _ _ _ h (lv_sub hl [3, 4, 5, 2, 1, 0] rfl) hP hS
        · replace h := it_t c19 h
          refine lv_bipush (v := (-5)) hx hb dX10_best_29 (by decide) ?_
          exact re_i' hC hr hP hS (pr_1 h) (congrArg (fun Z : Mm => (Z, Rm)) (pr_2 h)) dX10_best_31
      · replace h := it_f c16 h
        refine lv_iconst (v := (-1)) hx hb dX10_best_17 (by decide) ?_
        exact re_i' hC hr hP hS (pr_1 h) (congrArg (fun Z : Mm => (Z, Rm)) (pr_2 h)) dX10_best_18
set_option maxHeartbeats 4000000 in
set_option maxRecDepth 100000 in
theorem mX10_slip (l : Launch) (G : gp) (Rm : Mm) {n : Nat} {p1 : Int32} {p2 : Int32} {p3 : Int32} {C : Mm} {r0 : Int32} {C0 : Mm} (h : fX10_slip n p1 p2 p3 C = some (r0, C0)) : Met l yX10_slip (wsy yX10_slip cX10_slip 5 (some .int)) (rmv 5 141) (va_Pc [.ref (gA G 0), .int p1, .int p2, .int p3] (Rl G (C, Rm))) (Qi G PT r0 (C0, Rm)) 0 0 (lwA G) := by
  refine met_i [.ref (gA G 0), .int p1, .int p2, .int p3] wX10_slip.2.2.2.2.2 (Nat.le_of_ble_eq_true rfl) ?_
  intro p e s m args below meth c ls hC hr hP hl
  have hC : Cx G p s m args meth c cX10_slip RX10 5 := hC
  have hx := hC.1
  have hb := hC.2.1
  have hown := hC.2.2.2.1
  have hts := hC.2.2.2.2.1
  have hS : va_S (lwA G) s.heap s.heap [] := va_S.rf
  have hl : lv_has ls 5 [(0, .ref (gA G 0)), (1, .int p1), (2, .int p2), (3, .int p3)] := hl
  unfold fX10_slip at h
  refine lv_aload_n hx hb dX10_slip_0 rfl (lv_at hl 0 rfl) ?_
  refine lv_iload_n hx hb dX10_slip_1 rfl (lv_at hl 1 rfl) ?_
  refine rc_i hS (run_V hC wX10_isHeadAndWay k442 (e_0 G _) rfl hP hS (As := [.int p1]) (rest := []) (mX10_isHeadAndWay l G Rm rfl) rfl hl.1 (Nat.le_of_ble_eq_true rfl) ⟨by decide, by decide⟩ ⟨Nat.le_refl _, Nat.le_refl _⟩ rfl dX10_slip_2) (fun H locs pb2 hP hS => ?_)
  refine lv_if_eq (tgt := 28) hx hb dX10_slip_5 (by decide) (fun c3 => ?_) (fun c3 => ?_)
  · replace h := it_t c3 h
    refine lv_iconst (v := (-1)) hx hb dX10_slip_28 (by decide) ?_
    exact re_i' hC hr hP hS (pr_1 h) (congrArg (fun Z : Mm => (Z, Rm)) (pr_2 h)) dX10_slip_29
  · replace h := it_f c3 h
    refine lv_aload_n hx hb dX10_slip_8 rfl (lv_at hl 0 rfl) ?_
    refine r_get (v := .ref (gA G 43)) hC inX10 hP (e_0 G _) rfl 6 (by decide) rfl k238 rfl dX10_slip_9 ?_
    refine lv_iload_n hx hb dX10_slip_12 rfl (lv_at hl 2 rfl) ?_
    refine rc_i hS (run_V hC wX7_has k692 (e_43 G _) rfl hP hS (As := [.int p2]) (rest := []) (mX7_has l G Rm rfl) rfl hl.1 (Nat.le_of_ble_eq_true rfl) ⟨by decide, by decide⟩ ⟨Nat.le_refl _, Nat.le_refl _⟩ rfl dX10_slip_13) (fun H locs pb5 hP hS => ?_)
    refine lv_if_eq (tgt := 28) hx hb dX10_slip_16 (by decide) (fun c6 => ?_) (fun c6 => ?_)
    · replace h := it_t c6 h
      refine lv_iconst (v := (-1)) hx hb dX10_slip_28 (by decide) ?_
      exact re_i' hC hr hP hS (pr_1 h) (congrArg (fun Z : Mm => (Z, Rm)) (pr_2 h)) dX10_slip_29
    · replace h := it_f c6 h
      refine lv_iload_n hx hb dX10_slip_19 rfl (lv_at hl 3 rfl) ?_
      refine lv_if_lt (tgt := 28) hx hb dX10_slip_20 (by decide) (fun c7 => ?_) (fun c7 => ?_)
      · replace h := it_t c7 h
        refine lv_iconst (v := (-1)) hx hb dX10_slip_28 (by decide) ?_
        exact re_i' hC hr hP hS (pr_1 h) (congrArg (fun Z : Mm => (Z, Rm)) (pr_2 h)) dX10_slip_29
      · replace h := it_f c7 h
        refine lv_iload_n hx hb dX10_slip_23 rfl (lv_at hl 3 rfl) ?_
        refine lv_iconst (v := 1) hx hb dX10_slip_24 (by decide) ?_
        refine lv_icmp_le (tgt := 30) hx hb dX10_slip_25 (by decide) (fun c8 => ?_) (fun c8 => ?_)
        · replace h := it_t c8 h
          refine lv_aload_n hx hb dX10_slip_30 rfl (lv_at hl 0 rfl) ?_
          refine lv_iload_n hx hb dX10_slip_31 rfl (lv_at hl 2 rfl) ?_
          obtain ⟨r10, hq9, h⟩ := bn_x h
          refine rc_i hS (run_V hC wX10_offOf k705 (e_0 G _) rfl hP hS (As := [.int p2]) (rest := []) (mX10_offOf l G Rm hq9) rfl hl.1 (Nat.le_of_ble_eq_true rfl) ⟨by decide, by decide⟩ ⟨Nat.le_refl _, Nat.le_refl _⟩ rfl dX10_slip_32) (fun H locs pb11 hP hS => ?_)
          refine lv_istore (lv' := [(4, .int r10), (0, .ref (gA G 0)), (1, .int p1), (2, .int p2), (3, .int p3)]) hx hb dX10_slip_35 hl (by decide) rfl (fun ls hl => ?_)
          refine lv_iload hx hb dX10_slip_37 (lv_at hl 0 rfl) ?_
          refine lv_if_ne (tgt := 44) hx hb dX10_slip_39 (by decide) (fun c12 => ?_) (fun c12 => ?_)
          · replace h := it_f c12 h
            refine lv_aload_n hx hb dX10_slip_44 rfl (lv_at hl 1 rfl) ?_
            refine r_get (v := .ref (gA G 36)) hC inX10 hP (e_0 G _) rfl 5 (by decide) rfl k237 rfl dX10_slip_45 ?_
            refine lv_aload_n hx hb dX10_slip_48 rfl (lv_at hl 1 rfl) ?_
            refine r_get (v := .ref (gA G 3)) hC inX10 hP (e_0 G _) rfl 1 (by decide) rfl k233 rfl dX10_slip_49 ?_
            refine lv_iload_n hx hb dX10_slip_52 rfl (lv_at hl 2 rfl) ?_
            refine lv_bipush (v := 10) hx hb dX10_slip_53 (by decide) ?_
            refine lv_idiv hx hb dX10_slip_55 (by decide) ?_
            by_cases c13 : (p1 / 10) < (0 : Int32) ∨ 6 ≤ Int32.toNatClampNeg (p1 / 10)
            · cases it_t c13 h
            replace h := it_f c13 h
            refine r_hd hC hP c13 dX10_slip_56 (fun hj14 => ?_)
            refine lv_iload_n hx hb dX10_slip_57 rfl (lv_at hl 2 rfl) ?_
            refine lv_bipush (v := 10) hx hb dX10_slip_58 (by decide) ?_
            refine r_irem hx hb dX10_slip_60 (by decide) ?_
            refine lv_aload_n hx hb dX10_slip_61 rfl (lv_at hl 1 rfl) ?_
            refine r_get (v := .ref (gA G 43)) hC inX10 hP (e_0 G _) rfl 6 (by decide) rfl k238 rfl dX10_slip_62 ?_
            refine lv_iload_n hx hb dX10_slip_65 rfl (lv_at hl 3 rfl) ?_
            obtain ⟨r16, hq15, h⟩ := bn_x h
            refine rc_i hS (run_V hC wX7_pair k696 (e_43 G _) rfl hP hS (As := [.int p2]) (rest := [.int (irm p1 10), .ref (gA G (hdc (Int32.toNatClampNeg (p1 / 10)))), .ref (gA G 36)]) (mX7_pair l G Rm hq15) rfl hl.1 (Nat.le_of_ble_eq_true rfl) ⟨by decide, by decide⟩ ⟨Nat.le_refl _, Nat.le_refl _⟩ rfl dX10_slip_66) (fun H locs pb17 hP hS => ?_)
            obtain ⟨r19, C20, hq18, h⟩ := bp_x h
            refine rc_i hS (run_V hC wX0_reckon k452 (e_36 G _) rfl hP hS (As := [.ref (gA G (hdc (Int32.toNatClampNeg (p1 / 10)))), .int (irm p1 10), .int r16]) (rest := []) (mX0_reckon l G Rm (Nat.lt_trans hj14 (by decide)) hq18) rfl hl.1 (Nat.le_of_ble_eq_true rfl) ⟨by decide, by decide⟩ ⟨Nat.le_refl _, Nat.le_refl _⟩ rfl dX10_slip_69) (fun H locs pb21 hP hS => ?_)
            refine lv_if_ne (tgt := 78) hx hb dX10_slip_72 (by decide) (fun c22 => ?_) (fun c22 => ?_)
            · replace h := it_f c22 h
              refine lv_iload_n hx hb dX10_slip_78 rfl (lv_at hl 4 rfl) ?_
              refine lv_if_ne (tgt := 94) hx hb dX10_slip_79 (by decide) (fun c23 => ?_) (fun c23 => ?_)
              · replace h := it_f c23 h
                refine lv_aload_n hx hb dX10_slip_94 rfl (lv_at hl 1 rfl) ?_
                refine r_get (v := .ref (gA G 36)) hC inX10 hP (e_0 G _) rfl 5 (by decide) rfl k237 rfl dX10_slip_95 ?_
                refine lv_iload hx hb dX10_slip_98 (lv_at hl 0 rfl) ?_
                obtain ⟨r25, hq24, h⟩ := bn_x h
                refine rc_i hS (run_V hC wX0_howManyCan k742 (e_36 G _) rfl hP hS (As := [.int r10]) (rest := []) (mX0_howManyCan l G Rm hq24) rfl hl.1 (Nat.le_of_ble_eq_true rfl) ⟨by decide, by decide⟩ ⟨Nat.le_refl _, Nat.le_refl _⟩ rfl dX10_slip_100) (fun H locs pb26 hP hS => ?_)
                exact re_i' hC hr hP hS (pr_1 h) (congrArg (fun Z : Mm => (Z, Rm)) (pr_2 h)) dX10_slip_103
              · replace h := it_t c23 h
                refine lv_aload_n hx hb dX10_slip_82 rfl (lv_at hl 1 rfl) ?_
                refine r_get (v := .ref (gA G 36)) hC inX10 hP (e_0 G _) rfl 5 (by decide) rfl k237 rfl dX10_slip_83 ?_
                refine lv_iload hx hb dX10_slip_86 (lv_at hl 0 rfl) ?_
                obtain ⟨r28, hq27, h⟩ := bn_x h
                refine rc_i hS (run_V hC wX0_firstThatCan k721 (e_36 G _) rfl hP hS (As := [.int r10]) (rest := []) (mX0_firstThatCan l G Rm hq27) rfl hl.1 (Nat.le_of_ble_eq_true rfl) ⟨by decide, by decide⟩ ⟨Nat.le_refl _, Nat.le_refl _⟩ rfl dX10_slip_88) (fun H locs pb29 hP hS => ?_)
                refine lv_goto (tgt := 103) hx hb dX10_slip_91 (by decide) ?_
                exact re_i' hC hr hP hS (pr_1 h) (congrArg (fun Z : Mm => (Z, Rm)) (pr_2 h)) dX10_slip_103
            · replace h := it_t c22 h
              refine lv_bipush (v := (-2)) hx hb dX10_slip_75 (by decide) ?_
              exact re_i' hC hr hP hS (pr_1 h) (congrArg (fun Z : Mm => (Z, Rm)) (pr_2 h)) dX10_slip_77
          · replace h := it_t c12 h
            refine lv_iconst (v := (-1)) hx hb dX10_slip_42 (by decide) ?_
            exact re_i' hC hr hP hS (pr_1 h) (congrArg (fun Z : Mm => (Z, Rm)) (pr_2 h)) dX10_slip_43
        · replace h := it_f c8 h
          refine lv_iconst (v := (-1)) hx hb dX10_slip_28 (by decide) ?_
          exact re_i' hC hr hP hS (pr_1 h) (congrArg (fun Z : Mm => (Z, Rm)) (pr_2 h)) dX10_slip_29
set_option maxHeartbeats 4000000 in
set_option maxRecDepth 100000 in
theorem mX10_suits (l : Launch) (G : gp) (Rm : Mm) {n : Nat} {p1 : Int32} {C : Mm} {r0 : Int32} {C0 : Mm} (h : fX10_suits n p1 C = some (r0, C0)) : Met l yX10_suits (wsy yX10_suits cX10_suits 6 (some .int)) (rmv 6 164) (va_Pc [.ref (gA G 0), .int p1] (Rl G (C, Rm))) (Qi G PT r0 (C0, Rm)) 0 0 (lwA G) := by
  refine met_i [.ref (gA G 0), .int p1] wX10_suits.2.2.2.2.2 (Nat.le_of_ble_eq_true rfl) ?_
  intro p e s m args below meth c ls hC hr hP hl
  have hC : Cx G p s m args meth c cX10_suits RX10 6 := hC
  have hx := hC.1
  have hb := hC.2.1
  have hown := hC.2.2.2.1
  have hts := hC.2.2.2.2.1
  have hS : va_S (lwA G) s.heap s.heap [] := va_S.rf
  have hl : lv_has ls 6 [(0, .ref (gA G 0)), (1, .int p1)] := hl
  have bl106 : ∀ (k30 : Int32 → Int32 → Int32 → Int32 → Mm → Option (Int32 × Mm)) (hk30 : ∀ (y1 : Int32) (y2 : Int32) (y3 : Int32) (y4 : Int32) (C : Mm) (H : Heap) (locs : List Loc) (ls : Array Slot), k30 y1 y2 y3 y4 C = some (r0, C0) → lv_has ls 6 [(0, .ref (gA G 0)), (1, .int y1), (2, .int y2), (3, .int y3), (4, .int y4)] → va_P (gD G) vwCl (wld G (C, Rm)) H → va_S (lwA G) s.heap H locs → W p l e (rmv 6 164) s m args below meth c H locs 0 0 (MQ below (Qi G PT r0 (C0, Rm)) args s 0 0 (lwA G)) (F0 m 30 ls [])), ∀ (y1 : Int32) (y2 : Int32) (y3 : Int32) (y4 : Int32) (C : Mm) (H : Heap) (locs : List Loc) (ls : Array Slot), fX10_suits_b106 n k30 y1 y2 y3 y4 C = some (r0, C0) → lv_has ls 6 [(0, .ref (gA G 0)), (1, .int y1), (2, .int y2), (3, .int y3), (4, .int y4)] → va_P (gD G) vwCl (wld G (C, Rm)) H → va_S (lwA G) s.heap H locs → W p l e (rmv 6 164) s m args below meth c H locs 0 0 (MQ below (Qi G PT r0 (C0, Rm)) args s 0 0 (lwA G)) (F0 m 106 ls []) := by
    intro k30 hk30 y1 y2 y3 y4 C H locs ls h hl hP hS
    unfold fX10_suits_b106 at h
    obtain ⟨x1, ex1⟩ : ∃ y : Int32, y = y4 + 1 := ⟨_, rfl⟩
    replace h := lt_y ex1 h
    refine lv_iinc (v := x1) (lv' := [(4, .int x1), (0, .ref (gA G 0)), (1, .int y1), (2, .int y2), (3, .int y3)]) hx hb dX10_suits_106 hl (k := 4) rfl (by rw [ex1]; rfl) (by decide) rfl (fun ls hl => ?_)
    refine lv_goto (tgt := 30) hx hb dX10_suits_109 (by decide) ?_
    exact hk30 y1 y2 y3 x1 C _ _ _ h (lv_sub hl [1, 2, 3, 4, 0] rfl) hP hS
  have bl30 : ∀ (fu : Nat), ∀ (y1 : Int32) (y2 : Int32) (y3 : Int32) (y4 : Int32) (C : Mm) (H : Heap) (locs : List Loc) (ls : Array Slot), fX10_suits_h30 n fu y1 y2 y3 y4 C = some (r0, C0) → lv_has ls 6 [(0, .ref (gA G 0)), (1, .int y1), (2, .int y2), (3, .int y3), (4, .int y4)] → va_P (gD G) vwCl (wld G (C, Rm)) H → va_S (lwA G) s.heap H locs → W p l e (rmv 6 164) s m args below meth c H locs 0 0 (MQ below (Qi G PT r0 (C0, Rm)) args s 0 0 (lwA G)) (F0 m 30 ls []) := by
    intro fu
    induction fu with
    | zero =>
      intro y1 y2 y3 y4 C H locs ls h hl hP hS
      rw [fX10_suits_h30.eq_1] at h
      cases h
    | succ fu ih =>
      intro y1 y2 y3 y4 C H locs ls h hl hP hS
      rw [fX10_suits_h30.eq_2] at h
      refine lv_iload hx hb dX10_suits_30 (lv_at hl 4 rfl) ?_
      refine lv_iload_n hx hb dX10_suits_32 rfl (lv_at hl 2 rfl) ?_
      refine lv_icmp_ge (tgt := 112) hx hb dX10_suits_33 (by decide) (fun c2 => ?_) (fun c2 => ?_)
      · replace h := it_t c2 h
        refine lv_iload_n hx hb dX10_suits_112 rfl (lv_at hl 3 rfl) ?_
        refine lv_sipush (v := 1000) hx hb dX10_suits_113 (by decide) ?_
        refine lv_imul hx hb dX10_suits_116 ?_
        refine lv_iload_n hx hb dX10_suits_117 rfl (lv_at hl 2 rfl) ?_
        by_cases c3 : y2 = 0
        · cases it_t c3 h
        replace h := it_f c3 h
        refine lv_idiv hx hb dX10_suits_118 c3 ?_
        exact re_i' hC hr hP hS (pr_1 h) (congrArg (fun Z : Mm => (Z, Rm)) (pr_2 h)) dX10_suits_119
      · replace h := it_f c2 h
        refine lv_aload_n hx hb dX10_suits_36 rfl (lv_at hl 0 rfl) ?_
        refine r_get (v := .ref (gA G 36)) hC inX10 hP (e_0 G _) rfl 5 (by decide) rfl k237 rfl dX10_suits_37 ?_
        refine lv_aload_n hx hb dX10_suits_40 rfl (lv_at hl 0 rfl) ?_
        refine r_get (v := .ref (gA G 3)) hC inX10 hP (e_0 G _) rfl 1 (by decide) rfl k233 rfl dX10_suits_41 ?_
        refine lv_iload_n hx hb dX10_suits_44 rfl (lv_at hl 1 rfl) ?_
        by_cases c4 : y1 < (0 : Int32) ∨ 6 ≤ Int32.toNatClampNeg y1
        · cases it_t c4 h
        replace h := it_f c4 h
        refine r_hd hC hP c4 dX10_suits_45 (fun hj5 => ?_)
        refine lv_iconst (v := 1) hx hb dX10_suits_46 (by decide) ?_
        refine lv_aload_n hx hb dX10_suits_47 rfl (lv_at hl 0 rfl) ?_
        refine r_get (v := .ref (gA G 43)) hC inX10 hP (e_0 G _) rfl 6 (by decide) rfl k238 rfl dX10_suits_48 ?_
        refine lv_iload hx hb dX10_suits_51 (lv_at hl 4 rfl) ?_
        obtain ⟨r7, hq6, h⟩ := bn_x h
        refine rc_i hS (run_V hC wX7_pair k696 (e_43 G _) rfl hP hS (As := [.int y4]) (rest := [.int 1, .ref (gA G (hdc (Int32.toNatClampNeg y1))), .ref (gA G 36)]) (mX7_pair l G Rm hq6) rfl hl.1 (Nat.le_of_ble_eq_true rfl) ⟨by decide, by decide⟩ ⟨Nat.le_refl _, Nat.le_refl _⟩ rfl dX10_suits_53) (fun H locs pb8 hP hS => ?_)
        obtain ⟨r10, C11, hq9, h⟩ := bp_x h
        refine rc_i hS (run_V hC wX0_reckon k452 (e_36 G _) rfl hP hS (As := [.ref (gA G (hdc (Int32.toNatClampNeg y1))), .int 1, .int r7]) (rest := []) (mX0_reckon l G Rm (Nat.lt_trans hj5 (by decide)) hq9) rfl hl.1 (Nat.le_of_ble_eq_true rfl) ⟨by decide, by decide⟩ ⟨Nat.le_refl _, Nat.le_refl _⟩ rfl dX10_suits_56) (fun H locs pb12 hP hS => ?_)
        refine lv_pop hx hb dX10_suits_59 rfl ?_
        refine lv_aload_n hx hb dX10_suits_60 rfl (lv_at hl 0 rfl) ?_
        refine r_get (v := .ref (gA G 36)) hC inX10 hP (e_0 G _) rfl 5 (by decide) rfl k237 rfl dX10_suits_61 ?_
        refine rc_i hS (run_V hC wX0_seconds k551 (e_36 G _) rfl hP hS (As := []) (rest := []) (mX0_seconds l G Rm rfl) rfl hl.1 (Nat.le_of_ble_eq_true rfl) ⟨by decide, by decide⟩ ⟨Nat.le_refl _, Nat.le_refl _⟩ rfl dX10_suits_64) (fun H locs pb14 hP hS => ?_)
        refine lv_iconst (v := 2) hx hb dX10_suits_67 (by decide) ?_
        refine lv_idiv hx hb dX10_suits_68 (by decide) ?_
        refine lv_topi (fun x15 ex15 => ?_)
        replace h := lt_y ex15 h
        refine lv_istore (lv' := [(5, .int x15), (0, .ref (gA G 0)), (1, .int y1), (2, .int y2), (3, .int y3), (4, .int y4)]) hx hb dX10_suits_69 hl (by decide) rfl (fun ls hl => ?_)
        refine lv_aload_n hx hb dX10_suits_71 rfl (lv_at hl 1 rfl) ?_
        refine lv_aload_n hx hb dX10_suits_72 rfl (lv_at hl 1 rfl) ?_
        refine r_get (v := .ref (gA G 3)) hC inX10 hP (e_0 G _) rfl 1 (by decide) rfl k233 rfl dX10_suits_73 ?_
        refine lv_iload_n hx hb dX10_suits_76 rfl (lv_at hl 2 rfl) ?_
        by_cases c16 : y1 < (0 : Int32) ∨ 6 ≤ Int32.toNatClampNeg y1
        · cases it_t c16 h
        replace h := it_f c16 h
        refine r_hd hC hP c16 dX10_suits_77 (fun hj17 => ?_)
        refine lv_aload_n hx hb dX10_suits_78 rfl (lv_at hl 1 rfl) ?_
        refine r_get (v := .ref (gA G 43)) hC inX10 hP (e_0 G _) rfl 6 (by decide) rfl k238 rfl dX10_suits_79 ?_
        refine lv_iload hx hb dX10_suits_82 (lv_at hl 5 rfl) ?_
        obtain ⟨r19, hq18, h⟩ := bn_x h
        refine rc_i hS (run_V hC wX7_pair k696 (e_43 G _) rfl hP hS (As := [.int y4]) (rest := [.ref (gA G (hdc (Int32.toNatClampNeg y1))), .ref (gA G 0)]) (mX7_pair l G Rm hq18) rfl hl.1 (Nat.le_of_ble_eq_true rfl) ⟨by decide, by decide⟩ ⟨Nat.le_refl _, Nat.le_refl _⟩ rfl dX10_suits_84) (fun H locs pb20 hP hS => ?_)
        obtain ⟨r22, C23, hq21, h⟩ := bp_x h
        refine rc_i hS (run_V hC wX10_reckonChosen k577 (e_0 G _) rfl hP hS (As := [.ref (gA G (hdc (Int32.toNatClampNeg y1))), .int r19]) (rest := []) (mX10_reckonChosen l G Rm (Nat.lt_trans hj17 (by decide)) hq21) rfl hl.1 (Nat.le_of_ble_eq_true rfl) ⟨by decide, by decide⟩ ⟨Nat.le_refl _, Nat.le_refl _⟩ rfl dX10_suits_87) (fun H locs pb24 hP hS => ?_)
        refine lv_pop hx hb dX10_suits_90 rfl ?_
        refine lv_aload_n hx hb dX10_suits_91 rfl (lv_at hl 1 rfl) ?_
        refine r_get (v := .ref (gA G 36)) hC inX10 hP (e_0 G _) rfl 5 (by decide) rfl k237 rfl dX10_suits_92 ?_
        refine rc_i hS (run_V hC wX0_seconds k551 (e_36 G _) rfl hP hS (As := []) (rest := []) (mX0_seconds l G Rm rfl) rfl hl.1 (Nat.le_of_ble_eq_true rfl) ⟨by decide, by decide⟩ ⟨Nat.le_refl _, Nat.le_refl _⟩ rfl dX10_suits_95) (fun H locs pb26 hP hS => ?_)
        refine lv_iload hx hb dX10_suits_98 (lv_at hl 0 rfl) ?_
        refine lv_icmp_gt (tgt := 106) hx hb dX10_suits_100 (by decide) (fun c27 => ?_) (fun c27 => ?_)
        · replace h := it_t c27 h
          exact bl106 (fX10_suits_h30 n fu) ih y1 y2 y3 y4 C23 _ _ _ h (lv_sub hl [1, 2, 3, 4, 5] rfl) hP hS
        · replace h := it_f c27 h
          obtain ⟨x28, ex28⟩ : ∃ y : Int32, y = y3 + 1 := ⟨_, rfl⟩
          replace h := lt_y ex28 h
          refine lv_iinc (v := x28) (lv' := [(3, .int x28), (5, .int x15), (0, .ref (gA G 0)), (1, .int y1), (2, .int y2), (4, .int y4)]) hx hb dX10_suits_103 hl (k := 4) rfl (by rw [ex28]; rfl) (by decide) rfl (fun ls hl => ?_)
          exact bl106 (fX10_suits_h30 n fu) ih y1 y2 x28 y4 C23 _ _ _ h (lv_sub hl [2, 3, 4, 0, 5] rfl) hP hS
  unfold fX10_suits at h
  refine lv_aload_n hx hb dX10_suits_0 rfl (lv_at hl 0 rfl) ?_
  refine lv_iload_n hx hb dX10_suits_1 rfl (lv_at hl 1 rfl) ?_
  refine rc_i hS (run_V hC wX10_isHead k336 (e_0 G _) rfl hP hS (As := [.int p1]) (rest := []) (mX10_isHead l G Rm rfl) rfl hl.1 (Nat.le_of_ble_eq_true rfl) ⟨by decide, by decide⟩ ⟨Nat.le_refl _, Nat.le_refl _⟩ rfl dX10_suits_2) (fun H locs pb30 hP hS => ?_)
  refine lv_if_ne (tgt := 10) hx hb dX10_suits_5 (by decide) (fun c31 => ?_) (fun c31 => ?_)
  · replace h := it_f c31 h
    refine lv_aload_n hx hb dX10_suits_10 rfl (lv_at hl 0 rfl) ?_
    refine r_get (v := .ref (gA G 43)) hC inX10 hP (e_0 G _) rfl 6 (by decide) rfl k238 rfl dX10_suits_11 ?_
    refine rc_i hS (run_V hC wX7_size k651 (e_43 G _) rfl hP hS (As := []) (rest := []) (mX7_size l G Rm rfl) rfl hl.1 (Nat.le_of_ble_eq_true rfl) ⟨by decide, by decide⟩ ⟨Nat.le_refl _, Nat.le_refl _⟩ rfl dX10_suits_14) (fun H locs pb33 hP hS => ?_)
    refine lv_topi (fun x34 ex34 => ?_)
    replace h := lt_y ex34 h
    refine lv_istore_n (lv' := [(2, .int x34), (0, .ref (gA G 0)), (1, .int p1)]) hx hb dX10_suits_17 rfl hl (by decide) rfl (fun ls hl => ?_)
    refine lv_iload_n hx hb dX10_suits_18 rfl (lv_at hl 0 rfl) ?_
    refine lv_if_ne (tgt := 25) hx hb dX10_suits_19 (by decide) (fun c35 => ?_) (fun c35 => ?_)
    · replace h := it_f c35 h
      refine lv_iconst (v := 0) hx hb dX10_suits_25 (by decide) ?_
      refine lv_istore_n (lv' := [(3, .int 0), (2, .int x34), (0, .ref (gA G 0)), (1, .int p1)]) hx hb dX10_suits_26 rfl hl (by decide) rfl (fun ls hl => ?_)
      refine lv_iconst (v := 0) hx hb dX10_suits_27 (by decide) ?_
      refine lv_istore (lv' := [(4, .int 0), (3, .int 0), (2, .int x34), (0, .ref (gA G 0)), (1, .int p1)]) hx hb dX10_suits_28 hl (by decide) rfl (fun ls hl => ?_)
      exact bl30 n p1 x34 0 0 C _ _ _ h (lv_sub hl [3, 4, 2, 1, 0] rfl) hP hS
    · replace h := it_t c35 h
      refine lv_bipush (v := (-5)) hx hb dX10_suits_22 (by decide) ?_
      exact re_i' hC hr hP hS (pr_1 h) (congrArg (fun Z : Mm => (Z, Rm)) (pr_2 h)) dX10_suits_24
  · replace h := it_t c31 h
    refine lv_iconst (v := (-1)) hx hb dX10_suits_8 (by decide) ?_
    exact re_i' hC hr hP hS (pr_1 h) (congrArg (fun Z : Mm => (Z, Rm)) (pr_2 h)) dX10_suits_9
set_option maxHeartbeats 4000000 in
set_option maxRecDepth 100000 in
theorem mX10_tell (l : Launch) (G : gp) (Rm : Mm) {p1 : Int32} {C : Mm} {r0 : Int32} {C0 : Mm} (h : fX10_tell p1 C = some (r0, C0)) : Met l yX10_tell (wsy yX10_tell cX10_tell 2 (some .int)) (rmv 2 40) (va_Pc [.ref (gA G 0), .int p1] (Rl G (C, Rm))) (Qi G PT r0 (C0, Rm)) 0 0 (lwA G) := by
  refine met_i [.ref (gA G 0), .int p1] wX10_tell.2.2.2.2.2 (Nat.le_of_ble_eq_true rfl) ?_
  intro p e s m args below meth c ls hC hr hP hl
  have hC : Cx G p s m args meth c cX10_tell RX10 2 := hC
  have hx := hC.1
  have hb := hC.2.1
  have hown := hC.2.2.2.1
  have hts := hC.2.2.2.2.1
  have hS : va_S (lwA G) s.heap s.heap [] := va_S.rf
  have hl : lv_has ls 2 [(0, .ref (gA G 0)), (1, .int p1)] := hl
  unfold fX10_tell at h
  refine lv_iload_n hx hb dX10_tell_0 rfl (lv_at hl 1 rfl) ?_
  refine rc_i hS (run_S hC wX10_isPair k446 hP hS (As := [.int p1]) (rest := []) (mX10_isPair l G Rm rfl) rfl hl.1 (Nat.le_of_ble_eq_true rfl) ⟨by decide, by decide⟩ ⟨Nat.le_refl _, Nat.le_refl _⟩ rfl dX10_tell_1) (fun H locs pb2 hP hS => ?_)
  refine lv_if_ne (tgt := 9) hx hb dX10_tell_4 (by decide) (fun c3 => ?_) (fun c3 => ?_)
  · replace h := it_f c3 h
    refine lv_aload_n hx hb dX10_tell_9 rfl (lv_at hl 0 rfl) ?_
    refine r_get (v := .int (C.1 0 8)) hC inX10 hP (e_0 G _) rfl 8 (by decide) rfl k240 rfl dX10_tell_10 ?_
    refine lv_bipush (v := 8) hx hb dX10_tell_13 (by decide) ?_
    refine lv_icmp_lt (tgt := 21) hx hb dX10_tell_15 (by decide) (fun c4 => ?_) (fun c4 => ?_)
    · replace h := it_t c4 h
      refine lv_aload_n hx hb dX10_tell_21 rfl (lv_at hl 0 rfl) ?_
      refine r_get (v := .ref (gA G 47)) hC inX10 hP (e_0 G _) rfl 7 (by decide) rfl k239 rfl dX10_tell_22 ?_
      refine lv_aload_n hx hb dX10_tell_25 rfl (lv_at hl 0 rfl) ?_
      refine r_get (v := .int (C.1 0 8)) hC inX10 hP (e_0 G _) rfl 8 (by decide) rfl k240 rfl dX10_tell_26 ?_
      refine lv_iload_n hx hb dX10_tell_29 rfl (lv_at hl 1 rfl) ?_
      by_cases c5 : (C.1 0 8) < (0 : Int32) ∨ 8 ≤ Int32.toNatClampNeg (C.1 0 8)
      · cases it_t c5 h
      replace h := it_f c5 h
      obtain ⟨C6, eC6⟩ : ∃ Z : Mm, Z = wrI C 47 (Int32.toNatClampNeg (C.1 0 8)) p1 := ⟨_, rfl⟩
      replace h := lt_y eC6 h
      refine r_iast (X' := (C6, Rm)) hC hP hS (e_47 G _) c5 (a_47 G _ _ _ _ eC6) dX10_tell_30 (fun H locs hP hS => ?_)
      refine lv_aload_n hx hb dX10_tell_31 rfl (lv_at hl 0 rfl) ?_
      refine lv_dup hx hb dX10_tell_32 rfl ?_
      refine r_get (v := .int (C6.1 0 8)) hC inX10 hP (e_0 G _) rfl 8 (by decide) rfl k240 rfl dX10_tell_33 ?_
      refine lv_iconst (v := 1) hx hb dX10_tell_36 (by decide) ?_
      refine lv_iadd hx hb dX10_tell_37 ?_
      obtain ⟨C7, eC7⟩ : ∃ Z : Mm, Z = wrI C6 0 8 ((C6.1 0 8) + 1) := ⟨_, rfl⟩
      replace h := lt_y eC7 h
      refine r_put (X' := (C7, Rm)) hC inX10 tyX10 tyX10_ok nmX10 hP hS (e_0 G _) rfl 8 (by decide) rfl k240 rfl (v := .int ((C6.1 0 8) + 1)) rfl rfl (Nat.le_of_ble_eq_true rfl) (p_0_8 G _ _ eC7) dX10_tell_38 (fun H locs hP hS => ?_)
      refine lv_aload_n hx hb dX10_tell_41 rfl (lv_at hl 0 rfl) ?_
      refine r_get (v := .int (C7.1 0 8)) hC inX10 hP (e_0 G _) rfl 8 (by decide) rfl k240 rfl dX10_tell_42 ?_
      exact re_i' hC hr hP hS (pr_1 h) (congrArg (fun Z : Mm => (Z, Rm)) (pr_2 h)) dX10_tell_45
    · replace h := it_f c4 h
      refine lv_bipush (v := (-3)) hx hb dX10_tell_18 (by decide) ?_
      exact re_i' hC hr hP hS (pr_1 h) (congrArg (fun Z : Mm => (Z, Rm)) (pr_2 h)) dX10_tell_20
  · replace h := it_t c3 h
    refine lv_iconst (v := (-1)) hx hb dX10_tell_7 (by decide) ?_
    exact re_i' hC hr hP hS (pr_1 h) (congrArg (fun Z : Mm => (Z, Rm)) (pr_2 h)) dX10_tell_8
set_option maxHeartbeats 4000000 in
set_option maxRecDepth 100000 in
theorem mX10_untell (l : Launch) (G : gp) (Rm : Mm) {C : Mm} {r0 : Int32} {C0 : Mm} (h : fX10_untell C = some (r0, C0)) : Met l yX10_untell (wsy yX10_untell cX10_untell 2 (some .int)) (rmv 0 0) (va_Pc [.ref (gA G 0)] (Rl G (C, Rm))) (Qi G PT r0 (C0, Rm)) 0 0 (lwA G) := by
  refine met_i [.ref (gA G 0)] wX10_untell.2.2.2.2.2 (Nat.le_of_ble_eq_true rfl) ?_
  intro p e s m args below meth c ls hC hr hP hl
  have hC : Cx G p s m args meth c cX10_untell RX10 2 := hC
  have hx := hC.1
  have hb := hC.2.1
  have hown := hC.2.2.2.1
  have hts := hC.2.2.2.2.1
  have hS : va_S (lwA G) s.heap s.heap [] := va_S.rf
  have hl : lv_has ls 2 [(0, .ref (gA G 0))] := hl
  unfold fX10_untell at h
  refine lv_aload_n hx hb dX10_untell_0 rfl (lv_at hl 0 rfl) ?_
  refine r_get (v := .int (C.1 0 8)) hC inX10 hP (e_0 G _) rfl 8 (by decide) rfl k240 rfl dX10_untell_1 ?_
  refine lv_topi (fun x1 ex1 => ?_)
  replace h := lt_y ex1 h
  refine lv_istore_n (lv' := [(1, .int x1), (0, .ref (gA G 0))]) hx hb dX10_untell_4 rfl hl (by decide) rfl (fun ls hl => ?_)
  refine lv_aload_n hx hb dX10_untell_5 rfl (lv_at hl 1 rfl) ?_
  refine lv_iconst (v := 0) hx hb dX10_untell_6 (by decide) ?_
  obtain ⟨C2, eC2⟩ : ∃ Z : Mm, Z = wrI C 0 8 0 := ⟨_, rfl⟩
  replace h := lt_y eC2 h
  refine r_put (X' := (C2, Rm)) hC inX10 tyX10 tyX10_ok nmX10 hP hS (e_0 G _) rfl 8 (by decide) rfl k240 rfl (v := .int 0) rfl rfl (Nat.le_of_ble_eq_true rfl) (p_0_8 G _ _ eC2) dX10_untell_7 (fun H locs hP hS => ?_)
  refine lv_iload_n hx hb dX10_untell_10 rfl (lv_at hl 0 rfl) ?_
  exact re_i' hC hr hP hS (pr_1 h) (congrArg (fun Z : Mm => (Z, Rm)) (pr_2 h)) dX10_untell_11
set_option maxHeartbeats 4000000 in
set_option maxRecDepth 100000 in
theorem mX10_spreadOf (l : Launch) (G : gp) (Rm : Mm) {n : Nat} {j1 : Nat} (hj1 : j1 < 7) {p2 : Int32} {p3 : Int32} {C : Mm} {r0 : Int32} {C0 : Mm} (h : fX10_spreadOf n j1 p2 p3 C = some (r0, C0)) : Met l yX10_spreadOf (wsy yX10_spreadOf cX10_spreadOf 8 (some .int)) (rmv 5 141) (va_Pc [.ref (gA G 0), .ref (gA G (hdc j1)), .int p2, .int p3] (Rl G (C, Rm))) (Qi G PT r0 (C0, Rm)) 0 0 (lwA G) := by
  refine met_i [.ref (gA G 0), .ref (gA G (hdc j1)), .int p2, .int p3] wX10_spreadOf.2.2.2.2.2 (Nat.le_of_ble_eq_true rfl) ?_
  intro p e s m args below meth c ls hC hr hP hl
  have hC : Cx G p s m args meth c cX10_spreadOf RX10 8 := hC
  have hx := hC.1
  have hb := hC.2.1
  have hown := hC.2.2.2.1
  have hts := hC.2.2.2.2.1
  have hS : va_S (lwA G) s.heap s.heap [] := va_S.rf
  have hl : lv_has ls 8 [(0, .ref (gA G 0)), (1, .ref (gA G (hdc j1))), (2, .int p2), (3, .int p3)] := hl
  have bl83 : ∀ (k11 : Int32 → Int32 → Int32 → Int32 → Int32 → Mm → Option (Int32 × Mm)) (hk11 : ∀ (y2 : Int32) (y3 : Int32) (y4 : Int32) (y5 : Int32) (y6 : Int32) (C : Mm) (H : Heap) (locs : List Loc) (ls : Array Slot), k11 y2 y3 y4 y5 y6 C = some (r0, C0) → lv_has ls 8 [(0, .ref (gA G 0)), (1, .ref (gA G (hdc j1))), (2, .int y2), (3, .int y3), (4, .int y4), (5, .int y5), (6, .int y6)] → va_P (gD G) vwCl (wld G (C, Rm)) H → va_S (lwA G) s.heap H locs → W p l e (rmv 5 141) s m args below meth c H locs 0 0 (MQ below (Qi G PT r0 (C0, Rm)) args s 0 0 (lwA G)) (F0 m 11 ls [])), ∀ (y2 : Int32) (y3 : Int32) (y4 : Int32) (y5 : Int32) (y6 : Int32) (C : Mm) (H : Heap) (locs : List Loc) (ls : Array Slot), fX10_spreadOf_b83 n j1 k11 y2 y3 y4 y5 y6 C = some (r0, C0) → lv_has ls 8 [(0, .ref (gA G 0)), (1, .ref (gA G (hdc j1))), (2, .int y2), (3, .int y3), (4, .int y4), (5, .int y5), (6, .int y6)] → va_P (gD G) vwCl (wld G (C, Rm)) H → va_S (lwA G) s.heap H locs → W p l e (rmv 5 141) s m args below meth c H locs 0 0 (MQ below (Qi G PT r0 (C0, Rm)) args s 0 0 (lwA G)) (F0 m 83 ls []) := by
    intro k11 hk11 y2 y3 y4 y5 y6 C H locs ls h hl hP hS
    unfold fX10_spreadOf_b83 at h
    obtain ⟨x1, ex1⟩ : ∃ y : Int32, y = y6 + 1 := ⟨_, rfl⟩
    replace h := lt_y ex1 h
    refine lv_iinc (v := x1) (lv' := [(6, .int x1), (0, .ref (gA G 0)), (1, .ref (gA G (hdc j1))), (2, .int y2), (3, .int y3), (4, .int y4), (5, .int y5)]) hx hb dX10_spreadOf_83 hl (k := 6) rfl (by rw [ex1]; rfl) (by decide) rfl (fun ls hl => ?_)
    refine lv_goto (tgt := 11) hx hb dX10_spreadOf_86 (by decide) ?_
    exact hk11 y2 y3 y4 y5 x1 C _ _ _ h (lv_sub hl [1, 2, 3, 4, 5, 6, 0] rfl) hP hS
  have bl72 : ∀ (k11 : Int32 → Int32 → Int32 → Int32 → Int32 → Mm → Option (Int32 × Mm)) (hk11 : ∀ (y2 : Int32) (y3 : Int32) (y4 : Int32) (y5 : Int32) (y6 : Int32) (C : Mm) (H : Heap) (locs : List Loc) (ls : Array Slot), k11 y2 y3 y4 y5 y6 C = some (r0, C0) → lv_has ls 8 [(0, .ref (gA G 0)), (1, .ref (gA G (hdc j1))), (2, .int y2), (3, .int y3), (4, .int y4), (5, .int y5), (6, .int y6)] → va_P (gD G) vwCl (wld G (C, Rm)) H → va_S (lwA G) s.heap H locs → W p l e (rmv 5 141) s m args below meth c H locs 0 0 (MQ below (Qi G PT r0 (C0, Rm)) args s 0 0 (lwA G)) (F0 m 11 ls [])), ∀ (y2 : Int32) (y3 : Int32) (y5 : Int32) (y6 : Int32) (y7 : Int32) (s0 : Int32) (C : Mm) (H : Heap) (locs : List Loc) (ls : Array Slot), fX10_spreadOf_b72 n j1 k11 y2 y3 y5 y6 y7 s0 C = some (r0, C0) → lv_has ls 8 [(0, .ref (gA G 0)), (1, .ref (gA G (hdc j1))), (2, .int y2), (3, .int y3), (5, .int y5), (6, .int y6), (7, .int y7)] → va_P (gD G) vwCl (wld G (C, Rm)) H → va_S (lwA G) s.heap H locs → W p l e (rmv 5 141) s m args below meth c H locs 0 0 (MQ below (Qi G PT r0 (C0, Rm)) args s 0 0 (lwA G)) (F0 m 72 ls [.int s0]) := by
    intro k11 hk11 y2 y3 y5 y6 y7 s0 C H locs ls h hl hP hS
    unfold fX10_spreadOf_b72 at h
    refine lv_istore (lv' := [(4, .int s0), (0, .ref (gA G 0)), (1, .ref (gA G (hdc j1))), (2, .int y2), (3, .int y3), (5, .int y5), (6, .int y6), (7, .int y7)]) hx hb dX10_spreadOf_72 hl (by decide) rfl (fun ls hl => ?_)
    refine lv_iload hx hb dX10_spreadOf_74 (lv_at hl 5 rfl) ?_
    refine lv_iload hx hb dX10_spreadOf_76 (lv_at hl 7 rfl) ?_
    refine r_max hC (rest := []) k767 k538 k13 k539 hl.1 (by decide) (Nat.le_of_ble_eq_true rfl) (Nat.le_refl _) (Nat.le_refl _) dX10_spreadOf_78 ?_
    refine lv_topi (fun x2 ex2 => ?_)
    replace h := lt_y ex2 h
    refine lv_istore (lv' := [(5, .int x2), (4, .int s0), (0, .ref (gA G 0)), (1, .ref (gA G (hdc j1))), (2, .int y2), (3, .int y3), (6, .int y6), (7, .int y7)]) hx hb dX10_spreadOf_81 hl (by decide) rfl (fun ls hl => ?_)
    exact bl83 k11 hk11 y2 y3 s0 x2 y6 C _ _ _ h (lv_sub hl [2, 3, 4, 5, 1, 0, 6] rfl) hP hS
  have bl11 : ∀ (fu : Nat), ∀ (y2 : Int32) (y3 : Int32) (y4 : Int32) (y5 : Int32) (y6 : Int32) (C : Mm) (H : Heap) (locs : List Loc) (ls : Array Slot), fX10_spreadOf_h11 n j1 fu y2 y3 y4 y5 y6 C = some (r0, C0) → lv_has ls 8 [(0, .ref (gA G 0)), (1, .ref (gA G (hdc j1))), (2, .int y2), (3, .int y3), (4, .int y4), (5, .int y5), (6, .int y6)] → va_P (gD G) vwCl (wld G (C, Rm)) H → va_S (lwA G) s.heap H locs → W p l e (rmv 5 141) s m args below meth c H locs 0 0 (MQ below (Qi G PT r0 (C0, Rm)) args s 0 0 (lwA G)) (F0 m 11 ls []) := by
    intro fu
    induction fu with
    | zero =>
      intro y2 y3 y4 y5 y6 C H locs ls h hl hP hS
      rw [fX10_spreadOf_h11.eq_1] at h
      cases h
    | succ fu ih =>
      intro y2 y3 y4 y5 y6 C H locs ls h hl hP hS
      rw [fX10_spreadOf_h11.eq_2] at h
      refine lv_iload hx hb dX10_spreadOf_11 (lv_at hl 6 rfl) ?_
      refine lv_bipush (v := 7) hx hb dX10_spreadOf_13 (by decide) ?_
      refine lv_icmp_ge (tgt := 89) hx hb dX10_spreadOf_15 (by decide) (fun c3 => ?_) (fun c3 => ?_)
      · replace h := it_t c3 h
        refine lv_iload hx hb dX10_spreadOf_89 (lv_at hl 4 rfl) ?_
        refine lv_bipush (v := (-2)) hx hb dX10_spreadOf_91 (by decide) ?_
        refine lv_icmp_ne (tgt := 101) hx hb dX10_spreadOf_93 (by decide) (fun c4 => ?_) (fun c4 => ?_)
        · replace h := it_f c4 h
          refine lv_iload hx hb dX10_spreadOf_101 (lv_at hl 5 rfl) ?_
          refine lv_iload hx hb dX10_spreadOf_103 (lv_at hl 4 rfl) ?_
          refine lv_isub hx hb dX10_spreadOf_105 ?_
          exact re_i' hC hr hP hS (pr_1 h) (congrArg (fun Z : Mm => (Z, Rm)) (pr_2 h)) dX10_spreadOf_106
        · replace h := it_t c4 h
          refine lv_bipush (v := (-2)) hx hb dX10_spreadOf_96 (by decide) ?_
          refine lv_goto (tgt := 106) hx hb dX10_spreadOf_98 (by decide) ?_
          exact re_i' hC hr hP hS (pr_1 h) (congrArg (fun Z : Mm => (Z, Rm)) (pr_2 h)) dX10_spreadOf_106
      · replace h := it_f c3 h
        refine lv_iload_n hx hb dX10_spreadOf_18 rfl (lv_at hl 2 rfl) ?_
        refine lv_iload hx hb dX10_spreadOf_19 (lv_at hl 6 rfl) ?_
        refine lv_ishr hx hb dX10_spreadOf_21 ?_
        refine lv_iconst (v := 1) hx hb dX10_spreadOf_22 (by decide) ?_
        refine lv_iand hx hb dX10_spreadOf_23 ?_
        refine lv_if_eq (tgt := 83) hx hb dX10_spreadOf_24 (by decide) (fun c5 => ?_) (fun c5 => ?_)
        · replace h := it_t c5 h
          exact bl83 (fX10_spreadOf_h11 n j1 fu) ih y2 y3 y4 y5 y6 C _ _ _ h (lv_sub hl [0, 1, 2, 3, 4, 5, 6] rfl) hP hS
        · replace h := it_f c5 h
          refine lv_aload_n hx hb dX10_spreadOf_27 rfl (lv_at hl 0 rfl) ?_
          refine r_get (v := .ref (gA G 36)) hC inX10 hP (e_0 G _) rfl 5 (by decide) rfl k237 rfl dX10_spreadOf_28 ?_
          refine lv_aload_n hx hb dX10_spreadOf_31 rfl (lv_at hl 1 rfl) ?_
          refine lv_iload hx hb dX10_spreadOf_32 (lv_at hl 6 rfl) ?_
          refine lv_iload_n hx hb dX10_spreadOf_34 rfl (lv_at hl 3 rfl) ?_
          obtain ⟨r7, C8, hq6, h⟩ := bp_x h
          refine rc_i hS (run_V hC wX0_reckon k452 (e_36 G _) rfl hP hS (As := [.ref (gA G (hdc j1)), .int y6, .int y3]) (rest := []) (mX0_reckon l G Rm hj1 hq6) rfl hl.1 (Nat.le_of_ble_eq_true rfl) ⟨by decide, by decide⟩ ⟨Nat.le_refl _, Nat.le_refl _⟩ rfl dX10_spreadOf_35) (fun H locs pb9 hP hS => ?_)
          refine lv_if_ne (tgt := 44) hx hb dX10_spreadOf_38 (by decide) (fun c10 => ?_) (fun c10 => ?_)
          · replace h := it_f c10 h
            refine lv_aload_n hx hb dX10_spreadOf_44 rfl (lv_at hl 0 rfl) ?_
            refine r_get (v := .ref (gA G 36)) hC inX10 hP (e_0 G _) rfl 5 (by decide) rfl k237 rfl dX10_spreadOf_45 ?_
            refine rc_i hS (run_V hC wX0_seconds k551 (e_36 G _) rfl hP hS (As := []) (rest := []) (mX0_seconds l G Rm rfl) rfl hl.1 (Nat.le_of_ble_eq_true rfl) ⟨by decide, by decide⟩ ⟨Nat.le_refl _, Nat.le_refl _⟩ rfl dX10_spreadOf_48) (fun H locs pb12 hP hS => ?_)
            refine lv_topi (fun x13 ex13 => ?_)
            replace h := lt_y ex13 h
            refine lv_istore (lv' := [(7, .int x13), (0, .ref (gA G 0)), (1, .ref (gA G (hdc j1))), (2, .int y2), (3, .int y3), (4, .int y4), (5, .int y5), (6, .int y6)]) hx hb dX10_spreadOf_51 hl (by decide) rfl (fun ls hl => ?_)
            refine lv_iload hx hb dX10_spreadOf_53 (lv_at hl 5 rfl) ?_
            refine lv_bipush (v := (-2)) hx hb dX10_spreadOf_55 (by decide) ?_
            refine lv_icmp_ne (tgt := 65) hx hb dX10_spreadOf_57 (by decide) (fun c14 => ?_) (fun c14 => ?_)
            · replace h := it_f c14 h
              refine lv_iload hx hb dX10_spreadOf_65 (lv_at hl 5 rfl) ?_
              refine lv_iload hx hb dX10_spreadOf_67 (lv_at hl 0 rfl) ?_
              refine r_min hC (rest := []) k766 k482 k13 k483 hl.1 (by decide) (Nat.le_of_ble_eq_true rfl) (Nat.le_refl _) (Nat.le_refl _) dX10_spreadOf_69 ?_
              exact bl72 (fX10_spreadOf_h11 n j1 fu) ih y2 y3 y5 y6 x13 (imin y4 x13) C8 _ _ _ h (lv_sub hl [1, 2, 3, 4, 6, 7, 0] rfl) hP hS
            · replace h := it_t c14 h
              refine lv_iload hx hb dX10_spreadOf_60 (lv_at hl 0 rfl) ?_
              refine lv_goto (tgt := 72) hx hb dX10_spreadOf_62 (by decide) ?_
              exact bl72 (fX10_spreadOf_h11 n j1 fu) ih y2 y3 y5 y6 x13 x13 C8 _ _ _ h (lv_sub hl [1, 2, 3, 4, 6, 7, 0] rfl) hP hS
          · replace h := it_t c10 h
            refine lv_goto (tgt := 83) hx hb dX10_spreadOf_41 (by decide) ?_
            exact bl83 (fX10_spreadOf_h11 n j1 fu) ih y2 y3 y4 y5 y6 C8 _ _ _ h (lv_sub hl [0, 1, 2, 3, 4, 5, 6] rfl) hP hS
  unfold fX10_spreadOf at h
  refine lv_bipush (v := (-2)) hx hb dX10_spreadOf_0 (by decide) ?_
  refine lv_istore (lv' := [(4, .int (-2)), (0, .ref (gA G 0)), (1, .ref (gA G (hdc j1))), (2, .int p2), (3, .int p3)]) hx hb dX10_spreadOf_2 hl (by decide) rfl (fun ls hl => ?_)
  refine lv_bipush (v := (-2)) hx hb dX10_spreadOf_4 (by decide) ?_
  refine lv_istore (lv' := [(5, .int (-2)), (4, .int (-2)), (0, .ref (gA G 0)), (1, .ref (gA G (hdc j1))), (2, .int p2), (3, .int p3)]) hx hb dX10_spreadOf_6 hl (by decide) rfl (fun ls hl => ?_)
  refine lv_iconst (v := 0) hx hb dX10_spreadOf_8 (by decide) ?_
  refine lv_istore (lv' := [(6, .int 0), (5, .int (-2)), (4, .int (-2)), (0, .ref (gA G 0)), (1, .ref (gA G (hdc j1))), (2, .int p2), (3, .int p3)]) hx hb dX10_spreadOf_9 hl (by decide) rfl (fun ls hl => ?_)
  exact bl11 n p2 p3 (-2) (-2) 0 C _ _ _ h (lv_sub hl [3, 4, 5, 6, 2, 1, 0] rfl) hP hS
set_option maxHeartbeats 4000000 in
set_option maxRecDepth 100000 in
theorem mX10_parts (l : Launch) (G : gp) (Rm : Mm) {n : Nat} {p1 : Int32} {p2 : Int32} {p3 : Int32} {C : Mm} {r0 : Int32} {C0 : Mm} (h : fX10_parts n p1 p2 p3 C = some (r0, C0)) : Met l yX10_parts (wsy yX10_parts cX10_parts 8 (some .int)) (rmv 6 168) (va_Pc [.ref (gA G 0), .int p1, .int p2, .int p3] (Rl G (C, Rm))) (Qi G PT r0 (C0, Rm)) 0 0 (lwA G) := by
  refine met_i [.ref (gA G 0), .int p1, .int p2, .int p3] wX10_parts.2.2.2.2.2 (Nat.le_of_ble_eq_true rfl) ?_
  intro p e s m args below meth c ls hC hr hP hl
  have hC : Cx G p s m args meth c cX10_parts RX10 8 := hC
  have hx := hC.1
  have hb := hC.2.1
  have hown := hC.2.2.2.1
  have hts := hC.2.2.2.2.1
  have hS : va_S (lwA G) s.heap s.heap [] := va_S.rf
  have hl : lv_has ls 8 [(0, .ref (gA G 0)), (1, .int p1), (2, .int p2), (3, .int p3)] := hl
  have bl95 : ∀ (k51 : Int32 → Int32 → Int32 → Int32 → Int32 → Int32 → Mm → Option (Int32 × Mm)) (hk51 : ∀ (y1 : Int32) (y2 : Int32) (y3 : Int32) (y4 : Int32) (y5 : Int32) (y6 : Int32) (C : Mm) (H : Heap) (locs : List Loc) (ls : Array Slot), k51 y1 y2 y3 y4 y5 y6 C = some (r0, C0) → lv_has ls 8 [(0, .ref (gA G 0)), (1, .int y1), (2, .int y2), (3, .int y3), (4, .int y4), (5, .int y5), (6, .int y6)] → va_P (gD G) vwCl (wld G (C, Rm)) H → va_S (lwA G) s.heap H locs → W p l e (rmv 6 168) s m args below meth c H locs 0 0 (MQ below (Qi G PT r0 (C0, Rm)) args s 0 0 (lwA G)) (F0 m 51 ls [])), ∀ (y1 : Int32) (y2 : Int32) (y3 : Int32) (y4 : Int32) (y5 : Int32) (y6 : Int32) (C : Mm) (H : Heap) (locs : List Loc) (ls : Array Slot), fX10_parts_b95 n k51 y1 y2 y3 y4 y5 y6 C = some (r0, C0) → lv_has ls 8 [(0, .ref (gA G 0)), (1, .int y1), (2, .int y2), (3, .int y3), (4, .int y4), (5, .int y5), (6, .int y6)] → va_P (gD G) vwCl (wld G (C, Rm)) H → va_S (lwA G) s.heap H locs → W p l e (rmv 6 168) s m args below meth c H locs 0 0 (MQ below (Qi G PT r0 (C0, Rm)) args s 0 0 (lwA G)) (F0 m 95 ls []) := by
    intro k51 hk51 y1 y2 y3 y4 y5 y6 C H locs ls h hl hP hS
    unfold fX10_parts_b95 at h
    obtain ⟨x1, ex1⟩ : ∃ y : Int32, y = y6 + 1 := ⟨_, rfl⟩
    replace h := lt_y ex1 h
    refine lv_iinc (v := x1) (lv' := [(6, .int x1), (0, .ref (gA G 0)), (1, .int y1), (2, .int y2), (3, .int y3), (4, .int y4), (5, .int y5)]) hx hb dX10_parts_95 hl (k := 6) rfl (by rw [ex1]; rfl) (by decide) rfl (fun ls hl => ?_)
    refine lv_goto (tgt := 51) hx hb dX10_parts_98 (by decide) ?_
    exact hk51 y1 y2 y3 y4 y5 x1 C _ _ _ h (lv_sub hl [1, 2, 3, 4, 5, 6, 0] rfl) hP hS
  have bl51 : ∀ (fu : Nat), ∀ (y1 : Int32) (y2 : Int32) (y3 : Int32) (y4 : Int32) (y5 : Int32) (y6 : Int32) (C : Mm) (H : Heap) (locs : List Loc) (ls : Array Slot), fX10_parts_h51 n fu y1 y2 y3 y4 y5 y6 C = some (r0, C0) → lv_has ls 8 [(0, .ref (gA G 0)), (1, .int y1), (2, .int y2), (3, .int y3), (4, .int y4), (5, .int y5), (6, .int y6)] → va_P (gD G) vwCl (wld G (C, Rm)) H → va_S (lwA G) s.heap H locs → W p l e (rmv 6 168) s m args below meth c H locs 0 0 (MQ below (Qi G PT r0 (C0, Rm)) args s 0 0 (lwA G)) (F0 m 51 ls []) := by
    intro fu
    induction fu with
    | zero =>
      intro y1 y2 y3 y4 y5 y6 C H locs ls h hl hP hS
      rw [fX10_parts_h51.eq_1] at h
      cases h
    | succ fu ih =>
      intro y1 y2 y3 y4 y5 y6 C H locs ls h hl hP hS
      rw [fX10_parts_h51.eq_2] at h
      refine lv_iload hx hb dX10_parts_51 (lv_at hl 6 rfl) ?_
      refine lv_aload_n hx hb dX10_parts_53 rfl (lv_at hl 0 rfl) ?_
      refine r_get (v := .int (C.1 0 8)) hC inX10 hP (e_0 G _) rfl 8 (by decide) rfl k240 rfl dX10_parts_54 ?_
      refine lv_icmp_ge (tgt := 101) hx hb dX10_parts_57 (by decide) (fun c2 => ?_) (fun c2 => ?_)
      · replace h := it_t c2 h
        refine lv_iload_n hx hb dX10_parts_101 rfl (lv_at hl 3 rfl) ?_
        refine lv_if_ne (tgt := 110) hx hb dX10_parts_102 (by decide) (fun c3 => ?_) (fun c3 => ?_)
        · replace h := it_f c3 h
          refine lv_iload hx hb dX10_parts_110 (lv_at hl 5 rfl) ?_
          exact re_i' hC hr hP hS (pr_1 h) (congrArg (fun Z : Mm => (Z, Rm)) (pr_2 h)) dX10_parts_112
        · replace h := it_t c3 h
          refine lv_iload hx hb dX10_parts_105 (lv_at hl 4 rfl) ?_
          refine lv_goto (tgt := 112) hx hb dX10_parts_107 (by decide) ?_
          exact re_i' hC hr hP hS (pr_1 h) (congrArg (fun Z : Mm => (Z, Rm)) (pr_2 h)) dX10_parts_112
      · replace h := it_f c2 h
        refine lv_aload_n hx hb dX10_parts_60 rfl (lv_at hl 0 rfl) ?_
        refine lv_aload_n hx hb dX10_parts_61 rfl (lv_at hl 0 rfl) ?_
        refine r_get (v := .ref (gA G 3)) hC inX10 hP (e_0 G _) rfl 1 (by decide) rfl k233 rfl dX10_parts_62 ?_
        refine lv_iload_n hx hb dX10_parts_65 rfl (lv_at hl 1 rfl) ?_
        by_cases c4 : y1 < (0 : Int32) ∨ 6 ≤ Int32.toNatClampNeg y1
        · cases it_t c4 h
        replace h := it_f c4 h
        refine r_hd hC hP c4 dX10_parts_66 (fun hj5 => ?_)
        refine lv_iload_n hx hb dX10_parts_67 rfl (lv_at hl 2 rfl) ?_
        refine lv_aload_n hx hb dX10_parts_68 rfl (lv_at hl 0 rfl) ?_
        refine r_get (v := .ref (gA G 47)) hC inX10 hP (e_0 G _) rfl 7 (by decide) rfl k239 rfl dX10_parts_69 ?_
        refine lv_iload hx hb dX10_parts_72 (lv_at hl 6 rfl) ?_
        by_cases c6 : y6 < (0 : Int32) ∨ 8 ≤ Int32.toNatClampNeg y6
        · cases it_t c6 h
        replace h := it_f c6 h
        refine r_iald hC hP (f := C.1 47) (e_47 G _) c6 dX10_parts_74 ?_
        obtain ⟨r8, C9, hq7, h⟩ := bp_x h
        refine rc_i hS (run_V hC wX10_spreadOf k762 (e_0 G _) rfl hP hS (As := [.ref (gA G (hdc (Int32.toNatClampNeg y1))), .int y2, .int (C.1 47 (Int32.toNatClampNeg y6))]) (rest := []) (mX10_spreadOf l G Rm (Nat.lt_trans hj5 (by decide)) hq7) rfl hl.1 (Nat.le_of_ble_eq_true rfl) ⟨by decide, by decide⟩ ⟨Nat.le_refl _, Nat.le_refl _⟩ rfl dX10_parts_75) (fun H locs pb10 hP hS => ?_)
        refine lv_istore (lv' := [(7, .int r8), (0, .ref (gA G 0)), (1, .int y1), (2, .int y2), (3, .int y3), (4, .int y4), (5, .int y5), (6, .int y6)]) hx hb dX10_parts_78 hl (by decide) rfl (fun ls hl => ?_)
        refine lv_iload hx hb dX10_parts_80 (lv_at hl 0 rfl) ?_
        refine lv_iload hx hb dX10_parts_82 (lv_at hl 6 rfl) ?_
        refine lv_icmp_le (tgt := 95) hx hb dX10_parts_84 (by decide) (fun c11 => ?_) (fun c11 => ?_)
        · replace h := it_t c11 h
          exact bl95 (fX10_parts_h51 n fu) ih y1 y2 y3 y4 y5 y6 C9 _ _ _ h (lv_sub hl [1, 2, 3, 4, 5, 6, 7] rfl) hP hS
        · replace h := it_f c11 h
          refine lv_iload hx hb dX10_parts_87 (lv_at hl 7 rfl) ?_
          refine lv_istore (lv' := [(4, .int y6), (7, .int r8), (0, .ref (gA G 0)), (1, .int y1), (2, .int y2), (3, .int y3), (5, .int y5), (6, .int y6)]) hx hb dX10_parts_89 hl (by decide) rfl (fun ls hl => ?_)
          refine lv_iload hx hb dX10_parts_91 (lv_at hl 1 rfl) ?_
          refine lv_istore (lv' := [(5, .int r8), (4, .int y6), (7, .int r8), (0, .ref (gA G 0)), (1, .int y1), (2, .int y2), (3, .int y3), (6, .int y6)]) hx hb dX10_parts_93 hl (by decide) rfl (fun ls hl => ?_)
          exact bl95 (fX10_parts_h51 n fu) ih y1 y2 y3 y6 r8 y6 C9 _ _ _ h (lv_sub hl [3, 4, 5, 6, 1, 0, 7] rfl) hP hS
  unfold fX10_parts at h
  refine lv_aload_n hx hb dX10_parts_0 rfl (lv_at hl 0 rfl) ?_
  refine lv_iload_n hx hb dX10_parts_1 rfl (lv_at hl 1 rfl) ?_
  refine rc_i hS (run_V hC wX10_isHead k336 (e_0 G _) rfl hP hS (As := [.int p1]) (rest := []) (mX10_isHead l G Rm rfl) rfl hl.1 (Nat.le_of_ble_eq_true rfl) ⟨by decide, by decide⟩ ⟨Nat.le_refl _, Nat.le_refl _⟩ rfl dX10_parts_2) (fun H locs pb13 hP hS => ?_)
  refine lv_if_eq (tgt := 28) hx hb dX10_parts_5 (by decide) (fun c14 => ?_) (fun c14 => ?_)
  · replace h := it_t c14 h
    refine lv_iconst (v := (-1)) hx hb dX10_parts_28 (by decide) ?_
    exact re_i' hC hr hP hS (pr_1 h) (congrArg (fun Z : Mm => (Z, Rm)) (pr_2 h)) dX10_parts_29
  · replace h := it_f c14 h
    refine lv_iload_n hx hb dX10_parts_8 rfl (lv_at hl 2 rfl) ?_
    refine lv_if_lt (tgt := 28) hx hb dX10_parts_9 (by decide) (fun c15 => ?_) (fun c15 => ?_)
    · replace h := it_t c15 h
      refine lv_iconst (v := (-1)) hx hb dX10_parts_28 (by decide) ?_
      exact re_i' hC hr hP hS (pr_1 h) (congrArg (fun Z : Mm => (Z, Rm)) (pr_2 h)) dX10_parts_29
    · replace h := it_f c15 h
      refine lv_iload_n hx hb dX10_parts_12 rfl (lv_at hl 2 rfl) ?_
      refine lv_sipush (v := 128) hx hb dX10_parts_13 (by decide) ?_
      refine lv_icmp_ge (tgt := 28) hx hb dX10_parts_16 (by decide) (fun c16 => ?_) (fun c16 => ?_)
      · replace h := it_t c16 h
        refine lv_iconst (v := (-1)) hx hb dX10_parts_28 (by decide) ?_
        exact re_i' hC hr hP hS (pr_1 h) (congrArg (fun Z : Mm => (Z, Rm)) (pr_2 h)) dX10_parts_29
      · replace h := it_f c16 h
        refine lv_iload_n hx hb dX10_parts_19 rfl (lv_at hl 3 rfl) ?_
        refine lv_if_lt (tgt := 28) hx hb dX10_parts_20 (by decide) (fun c17 => ?_) (fun c17 => ?_)
        · replace h := it_t c17 h
          refine lv_iconst (v := (-1)) hx hb dX10_parts_28 (by decide) ?_
          exact re_i' hC hr hP hS (pr_1 h) (congrArg (fun Z : Mm => (Z, Rm)) (pr_2 h)) dX10_parts_29
        · replace h := it_f c17 h
          refine lv_iload_n hx hb dX10_parts_23 rfl (lv_at hl 3 rfl) ?_
          refine lv_iconst (v := 1) hx hb dX10_parts_24 (by decide) ?_
          refine lv_icmp_le (tgt := 30) hx hb dX10_parts_25 (by decide) (fun c18 => ?_) (fun c18 => ?_)
          · replace h := it_t c18 h
            refine lv_aload_n hx hb dX10_parts_30 rfl (lv_at hl 0 rfl) ?_
            refine r_get (v := .int (C.1 0 8)) hC inX10 hP (e_0 G _) rfl 8 (by decide) rfl k240 rfl dX10_parts_31 ?_
            refine lv_if_ne (tgt := 40) hx hb dX10_parts_34 (by decide) (fun c19 => ?_) (fun c19 => ?_)
            · replace h := it_f c19 h
              refine lv_bipush (v := (-2)) hx hb dX10_parts_40 (by decide) ?_
              refine lv_istore (lv' := [(4, .int (-2)), (0, .ref (gA G 0)), (1, .int p1), (2, .int p2), (3, .int p3)]) hx hb dX10_parts_42 hl (by decide) rfl (fun ls hl => ?_)
              refine lv_bipush (v := (-2)) hx hb dX10_parts_44 (by decide) ?_
              refine lv_istore (lv' := [(5, .int (-2)), (4, .int (-2)), (0, .ref (gA G 0)), (1, .int p1), (2, .int p2), (3, .int p3)]) hx hb dX10_parts_46 hl (by decide) rfl (fun ls hl => ?_)
              refine lv_iconst (v := 0) hx hb dX10_parts_48 (by decide) ?_
              refine lv_istore (lv' := [(6, .int 0), (5, .int (-2)), (4, .int (-2)), (0, .ref (gA G 0)), (1, .int p1), (2, .int p2), (3, .int p3)]) hx hb dX10_parts_49 hl (by decide) rfl (fun ls hl => ?_)
              exact bl51 n p1 p2 p3 (-2) (-2) 0 C _ _ _ h (lv_sub hl [3, 4, 5, 6, 2, 1, 0] rfl) hP hS
            · replace h := it_t c19 h
              refine lv_bipush (v := (-5)) hx hb dX10_parts_37 (by decide) ?_
              exact re_i' hC hr hP hS (pr_1 h) (congrArg (fun Z : Mm => (Z, Rm)) (pr_2 h)) dX10_parts_39
          · replace h := it_f c18 h
            refine lv_iconst (v := (-1)) hx hb dX10_parts_28 (by decide) ?_
            exact re_i' hC hr hP hS (pr_1 h) (congrArg (fun Z : Mm => (Z, Rm)) (pr_2 h)) dX10_parts_29
set_option maxHeartbeats 4000000 in
set_option maxRecDepth 100000 in
theorem mX10_ask (l : Launch) (G : gp) (Rm : Mm) {n : Nat} {p1 : Int32} {p2 : Int32} {C : Mm} {r0 : Int32} {C0 : Mm} (h : fX10_ask n p1 p2 C = some (r0, C0)) : Met l yX10_ask (wsy yX10_ask cX10_ask 3 (some .int)) (rmv 2 45) (va_Pc [.ref (gA G 0), .int p1, .int p2] (Rl G (C, Rm))) (Qi G PT r0 (C0, Rm)) 0 0 (lwA G) := by
  refine met_i [.ref (gA G 0), .int p1, .int p2] wX10_ask.2.2.2.2.2 (Nat.le_of_ble_eq_true rfl) ?_
  intro p e s m args below meth c ls hC hr hP hl
  have hC : Cx G p s m args meth c cX10_ask RX10 3 := hC
  have hx := hC.1
  have hb := hC.2.1
  have hown := hC.2.2.2.1
  have hts := hC.2.2.2.2.1
  have hS : va_S (lwA G) s.heap s.heap [] := va_S.rf
  have hl : lv_has ls 3 [(0, .ref (gA G 0)), (1, .int p1), (2, .int p2)] := hl
  unfold fX10_ask at h
  refine lv_aload_n hx hb dX10_ask_0 rfl (lv_at hl 0 rfl) ?_
  refine lv_iload_n hx hb dX10_ask_1 rfl (lv_at hl 1 rfl) ?_
  refine rc_i hS (run_V hC wX10_isHead k336 (e_0 G _) rfl hP hS (As := [.int p1]) (rest := []) (mX10_isHead l G Rm rfl) rfl hl.1 (Nat.le_of_ble_eq_true rfl) ⟨by decide, by decide⟩ ⟨Nat.le_refl _, Nat.le_refl _⟩ rfl dX10_ask_2) (fun H locs pb2 hP hS => ?_)
  refine lv_if_eq (tgt := 15) hx hb dX10_ask_5 (by decide) (fun c3 => ?_) (fun c3 => ?_)
  · replace h := it_t c3 h
    refine lv_iconst (v := (-1)) hx hb dX10_ask_15 (by decide) ?_
    exact re_i' hC hr hP hS (pr_1 h) (congrArg (fun Z : Mm => (Z, Rm)) (pr_2 h)) dX10_ask_16
  · replace h := it_f c3 h
    refine lv_iload_n hx hb dX10_ask_8 rfl (lv_at hl 2 rfl) ?_
    refine rc_i hS (run_S hC wX10_isPair k446 hP hS (As := [.int p2]) (rest := []) (mX10_isPair l G Rm rfl) rfl hl.1 (Nat.le_of_ble_eq_true rfl) ⟨by decide, by decide⟩ ⟨Nat.le_refl _, Nat.le_refl _⟩ rfl dX10_ask_9) (fun H locs pb5 hP hS => ?_)
    refine lv_if_ne (tgt := 17) hx hb dX10_ask_12 (by decide) (fun c6 => ?_) (fun c6 => ?_)
    · replace h := it_f c6 h
      refine lv_aload_n hx hb dX10_ask_17 rfl (lv_at hl 0 rfl) ?_
      refine r_get (v := .ref (gA G 3)) hC inX10 hP (e_0 G _) rfl 1 (by decide) rfl k233 rfl dX10_ask_18 ?_
      refine lv_iload_n hx hb dX10_ask_21 rfl (lv_at hl 1 rfl) ?_
      by_cases c7 : p1 < (0 : Int32) ∨ 6 ≤ Int32.toNatClampNeg p1
      · cases it_t c7 h
      replace h := it_f c7 h
      refine r_hd hC hP c7 dX10_ask_22 (fun hj8 => ?_)
      refine lv_iload_n hx hb dX10_ask_23 rfl (lv_at hl 2 rfl) ?_
      obtain ⟨r10, C11, hq9, h⟩ := bp_x h
      refine rc_i hS (run_V hC wX5_hear k772 (e_hc G _ (Nat.lt_trans hj8 (by decide))) rfl hP hS (As := [.int p2]) (rest := []) (mX5_hear l G Rm (Nat.lt_trans hj8 (by decide)) hq9) rfl hl.1 (Nat.le_of_ble_eq_true rfl) ⟨by decide, by decide⟩ ⟨Nat.le_refl _, Nat.le_refl _⟩ rfl dX10_ask_24) (fun H locs pb12 hP hS => ?_)
      exact re_i' hC hr hP hS (pr_1 h) (congrArg (fun Z : Mm => (Z, Rm)) (pr_2 h)) dX10_ask_27
    · replace h := it_t c6 h
      refine lv_iconst (v := (-1)) hx hb dX10_ask_15 (by decide) ?_
      exact re_i' hC hr hP hS (pr_1 h) (congrArg (fun Z : Mm => (Z, Rm)) (pr_2 h)) dX10_ask_16
set_option maxHeartbeats 4000000 in
set_option maxRecDepth 100000 in
theorem mX10_allToldCanBeTaught (l : Launch) (G : gp) (Rm : Mm) {n : Nat} {C : Mm} {r0 : Int32} (h : fX10_allToldCanBeTaught n C = some r0) : Met l yX10_allToldCanBeTaught (wsy yX10_allToldCanBeTaught cX10_allToldCanBeTaught 2 (some .boolean)) (rmv 1 20) (va_Pc [.ref (gA G 0)] (Rl G (C, Rm))) (Qi G PZ r0 (C, Rm)) 0 0 (lwA G) := by
  refine met_i [.ref (gA G 0)] wX10_allToldCanBeTaught.2.2.2.2.2 (Nat.le_of_ble_eq_true rfl) ?_
  intro p e s m args below meth c ls hC hr hP hl
  have hC : Cx G p s m args meth c cX10_allToldCanBeTaught RX10 2 := hC
  have hx := hC.1
  have hb := hC.2.1
  have hown := hC.2.2.2.1
  have hts := hC.2.2.2.2.1
  have hS : va_S (lwA G) s.heap s.heap [] := va_S.rf
  have hl : lv_has ls 2 [(0, .ref (gA G 0))] := hl
  have bl2 : ∀ (fu : Nat), ∀ (y1 : Int32) (C : Mm) (H : Heap) (locs : List Loc) (ls : Array Slot), fX10_allToldCanBeTaught_h2 n fu y1 C = some r0 → lv_has ls 2 [(0, .ref (gA G 0)), (1, .int y1)] → va_P (gD G) vwCl (wld G (C, Rm)) H → va_S (lwA G) s.heap H locs → W p l e (rmv 1 20) s m args below meth c H locs 0 0 (MQ below (Qi G PZ r0 (C, Rm)) args s 0 0 (lwA G)) (F0 m 2 ls []) := by
    intro fu
    induction fu with
    | zero =>
      intro y1 C H locs ls h hl hP hS
      rw [fX10_allToldCanBeTaught_h2.eq_1] at h
      cases h
    | succ fu ih =>
      intro y1 C H locs ls h hl hP hS
      rw [fX10_allToldCanBeTaught_h2.eq_2] at h
      refine lv_iload_n hx hb dX10_allToldCanBeTaught_2 rfl (lv_at hl 1 rfl) ?_
      refine lv_aload_n hx hb dX10_allToldCanBeTaught_3 rfl (lv_at hl 0 rfl) ?_
      refine r_get (v := .int (C.1 0 8)) hC inX10 hP (e_0 G _) rfl 8 (by decide) rfl k240 rfl dX10_allToldCanBeTaught_4 ?_
      refine lv_icmp_ge (tgt := 30) hx hb dX10_allToldCanBeTaught_7 (by decide) (fun c1 => ?_) (fun c1 => ?_)
      · replace h := it_t c1 h
        refine lv_iconst (v := 1) hx hb dX10_allToldCanBeTaught_30 (by decide) ?_
        exact re_z' hC hr hP hS PZ1 (Option.some.inj h) rfl dX10_allToldCanBeTaught_31
      · replace h := it_f c1 h
        refine lv_aload_n hx hb dX10_allToldCanBeTaught_10 rfl (lv_at hl 0 rfl) ?_
        refine r_get (v := .ref (gA G 47)) hC inX10 hP (e_0 G _) rfl 7 (by decide) rfl k239 rfl dX10_allToldCanBeTaught_11 ?_
        refine lv_iload_n hx hb dX10_allToldCanBeTaught_14 rfl (lv_at hl 1 rfl) ?_
        by_cases c2 : y1 < (0 : Int32) ∨ 8 ≤ Int32.toNatClampNeg y1
        · cases it_t c2 h
        replace h := it_f c2 h
        refine r_iald hC hP (f := C.1 47) (e_47 G _) c2 dX10_allToldCanBeTaught_15 ?_
        refine rc_i hS (run_S hC wX10_canBeTaught k787 hP hS (As := [.int (C.1 47 (Int32.toNatClampNeg y1))]) (rest := []) (mX10_canBeTaught l G Rm rfl) rfl hl.1 (Nat.le_of_ble_eq_true rfl) ⟨by decide, by decide⟩ ⟨Nat.le_refl _, Nat.le_refl _⟩ rfl dX10_allToldCanBeTaught_16) (fun H locs pb4 hP hS => ?_)
        refine lv_if_ne (tgt := 24) hx hb dX10_allToldCanBeTaught_19 (by decide) (fun c5 => ?_) (fun c5 => ?_)
        · replace h := it_f c5 h
          obtain ⟨x6, ex6⟩ : ∃ y : Int32, y = y1 + 1 := ⟨_, rfl⟩
          replace h := lt_y ex6 h
          refine lv_iinc (v := x6) (lv' := [(1, .int x6), (0, .ref (gA G 0))]) hx hb dX10_allToldCanBeTaught_24 hl (k := 1) rfl (by rw [ex6]; rfl) (by decide) rfl (fun ls hl => ?_)
          refine lv_goto (tgt := 2) hx hb dX10_allToldCanBeTaught_27 (by decide) ?_
          exact ih x6 C _ _ _ h (lv_sub hl [1, 0] rfl) hP hS
        · replace h := it_t c5 h
          refine lv_iconst (v := 0) hx hb dX10_allToldCanBeTaught_22 (by decide) ?_
          exact re_z' hC hr hP hS PZ0 (Option.some.inj h) rfl dX10_allToldCanBeTaught_23
  unfold fX10_allToldCanBeTaught at h
  refine lv_iconst (v := 0) hx hb dX10_allToldCanBeTaught_0 (by decide) ?_
  refine lv_istore_n (lv' := [(1, .int 0), (0, .ref (gA G 0))]) hx hb dX10_allToldCanBeTaught_1 rfl hl (by decide) rfl (fun ls hl => ?_)
  exact bl2 n 0 C _ _ _ h (lv_sub hl [1, 0] rfl) hP hS
set_option maxHeartbeats 4000000 in
set_option maxRecDepth 100000 in
theorem mX10_taught (l : Launch) (G : gp) (Rm : Mm) {n : Nat} {p1 : Int32} {p2 : Int32} {p3 : Int32} {C : Mm} {r0 : Int32} {C0 : Mm} (h : fX10_taught n p1 p2 p3 C = some (r0, C0)) : Met l yX10_taught (wsy yX10_taught cX10_taught 7 (some .int)) (rmv 6 164) (va_Pc [.ref (gA G 0), .int p1, .int p2, .int p3] (Rl G (C, Rm))) (Qi G PT r0 (C0, Rm)) 0 0 (lwA G) := by
  refine met_i [.ref (gA G 0), .int p1, .int p2, .int p3] wX10_taught.2.2.2.2.2 (Nat.le_of_ble_eq_true rfl) ?_
  intro p e s m args below meth c ls hC hr hP hl
  have hC : Cx G p s m args meth c cX10_taught RX10 7 := hC
  have hx := hC.1
  have hb := hC.2.1
  have hown := hC.2.2.2.1
  have hts := hC.2.2.2.2.1
  have hS : va_S (lwA G) s.heap s.heap [] := va_S.rf
  have hl : lv_has ls 7 [(0, .ref (gA G 0)), (1, .int p1), (2, .int p2), (3, .int p3)] := hl
  have bl66 : ∀ (fu : Nat), ∀ (y2 : Int32) (y3 : Int32) (y4 : Int32) (y5 : Int32) (C : Mm) (H : Heap) (locs : List Loc) (ls : Array Slot), fX10_taught_h66 n fu y2 y3 y4 y5 C = some (r0, C0) → lv_has ls 7 [(0, .ref (gA G 0)), (2, .int y2), (3, .int y3), (4, .int y4), (5, .int y5)] → va_P (gD G) vwCl (wld G (C, Rm)) H → va_S (lwA G) s.heap H locs → W p l e (rmv 6 164) s m args below meth c H locs 0 0 (MQ below (Qi G PT r0 (C0, Rm)) args s 0 0 (lwA G)) (F0 m 66 ls []) := by
    intro fu
    induction fu with
    | zero =>
      intro y2 y3 y4 y5 C H locs ls h hl hP hS
      rw [fX10_taught_h66.eq_1] at h
      cases h
    | succ fu ih =>
      intro y2 y3 y4 y5 C H locs ls h hl hP hS
      rw [fX10_taught_h66.eq_2] at h
      refine lv_iload hx hb dX10_taught_66 (lv_at hl 4 rfl) ?_
      refine lv_iload_n hx hb dX10_taught_68 rfl (lv_at hl 1 rfl) ?_
      refine lv_icmp_ge (tgt := 125) hx hb dX10_taught_69 (by decide) (fun c1 => ?_) (fun c1 => ?_)
      · replace h := it_t c1 h
        refine lv_iload_n hx hb dX10_taught_125 rfl (lv_at hl 2 rfl) ?_
        refine lv_if_ne (tgt := 134) hx hb dX10_taught_126 (by decide) (fun c2 => ?_) (fun c2 => ?_)
        · replace h := it_f c2 h
          refine lv_aload_n hx hb dX10_taught_134 rfl (lv_at hl 0 rfl) ?_
          refine r_get (v := .ref (gA G (hdc 6))) hC inX10 hP (e_0 G _) rfl 3 (by decide) rfl k235 rfl dX10_taught_135 ?_
          obtain ⟨r4, hq3, h⟩ := bn_x h
          refine rc_i hS (run_V hC wX5_learntCount k340 (e_hc G _ (show 6 < 7 by decide)) rfl hP hS (As := []) (rest := []) (mX5_learntCount l G Rm (show 6 < 7 by decide) hq3) rfl hl.1 (Nat.le_of_ble_eq_true rfl) ⟨by decide, by decide⟩ ⟨Nat.le_refl _, Nat.le_refl _⟩ rfl dX10_taught_138) (fun H locs pb5 hP hS => ?_)
          exact re_i' hC hr hP hS (pr_1 h) (congrArg (fun Z : Mm => (Z, Rm)) (pr_2 h)) dX10_taught_141
        · replace h := it_t c2 h
          refine lv_iload hx hb dX10_taught_129 (lv_at hl 3 rfl) ?_
          refine lv_goto (tgt := 141) hx hb dX10_taught_131 (by decide) ?_
          exact re_i' hC hr hP hS (pr_1 h) (congrArg (fun Z : Mm => (Z, Rm)) (pr_2 h)) dX10_taught_141
      · replace h := it_f c1 h
        refine lv_aload_n hx hb dX10_taught_72 rfl (lv_at hl 0 rfl) ?_
        refine r_get (v := .ref (gA G 47)) hC inX10 hP (e_0 G _) rfl 7 (by decide) rfl k239 rfl dX10_taught_73 ?_
        refine lv_iload hx hb dX10_taught_76 (lv_at hl 4 rfl) ?_
        refine lv_aload_n hx hb dX10_taught_78 rfl (lv_at hl 0 rfl) ?_
        refine r_get (v := .int (C.1 0 8)) hC inX10 hP (e_0 G _) rfl 8 (by decide) rfl k240 rfl dX10_taught_79 ?_
        by_cases c6 : (C.1 0 8) = 0
        · cases it_t c6 h
        replace h := it_f c6 h
        refine r_irem hx hb dX10_taught_82 c6 ?_
        by_cases c7 : (irm y5 (C.1 0 8)) < (0 : Int32) ∨ 8 ≤ Int32.toNatClampNeg (irm y5 (C.1 0 8))
        · cases it_t c7 h
        replace h := it_f c7 h
        refine r_iald hC hP (f := C.1 47) (e_47 G _) c7 dX10_taught_83 ?_
        refine lv_topi (fun x8 ex8 => ?_)
        replace h := lt_y ex8 h
        refine lv_istore (lv' := [(6, .int x8), (0, .ref (gA G 0)), (2, .int y2), (3, .int y3), (4, .int y4), (5, .int y5)]) hx hb dX10_taught_84 hl (by decide) rfl (fun ls hl => ?_)
        refine lv_aload_n hx hb dX10_taught_86 rfl (lv_at hl 1 rfl) ?_
        refine lv_aload_n hx hb dX10_taught_87 rfl (lv_at hl 1 rfl) ?_
        refine r_get (v := .ref (gA G (hdc 6))) hC inX10 hP (e_0 G _) rfl 3 (by decide) rfl k235 rfl dX10_taught_88 ?_
        refine lv_iload hx hb dX10_taught_91 (lv_at hl 0 rfl) ?_
        obtain ⟨r10, C11, hq9, h⟩ := bp_x h
        refine rc_i hS (run_V hC wX10_reckonChosen k577 (e_0 G _) rfl hP hS (As := [.ref (gA G (hdc 6)), .int x8]) (rest := []) (mX10_reckonChosen l G Rm (show 6 < 7 by decide) hq9) rfl hl.1 (Nat.le_of_ble_eq_true rfl) ⟨by decide, by decide⟩ ⟨Nat.le_refl _, Nat.le_refl _⟩ rfl dX10_taught_93) (fun H locs pb12 hP hS => ?_)
        refine lv_pop hx hb dX10_taught_96 rfl ?_
        refine lv_iload hx hb dX10_taught_97 (lv_at hl 4 rfl) ?_
        refine lv_aload_n hx hb dX10_taught_99 rfl (lv_at hl 1 rfl) ?_
        refine r_get (v := .ref (gA G 36)) hC inX10 hP (e_0 G _) rfl 5 (by decide) rfl k237 rfl dX10_taught_100 ?_
        refine rc_i hS (run_V hC wX0_seconds k551 (e_36 G _) rfl hP hS (As := []) (rest := [.int y4]) (mX0_seconds l G Rm rfl) rfl hl.1 (Nat.le_of_ble_eq_true rfl) ⟨by decide, by decide⟩ ⟨Nat.le_refl _, Nat.le_refl _⟩ rfl dX10_taught_103) (fun H locs pb14 hP hS => ?_)
        refine lv_iadd hx hb dX10_taught_106 ?_
        refine lv_topi (fun x15 ex15 => ?_)
        replace h := lt_y ex15 h
        refine lv_istore (lv' := [(4, .int x15), (6, .int x8), (0, .ref (gA G 0)), (2, .int y2), (3, .int y3), (5, .int y5)]) hx hb dX10_taught_107 hl (by decide) rfl (fun ls hl => ?_)
        refine lv_aload_n hx hb dX10_taught_109 rfl (lv_at hl 2 rfl) ?_
        refine r_get (v := .ref (gA G (hdc 6))) hC inX10 hP (e_0 G _) rfl 3 (by decide) rfl k235 rfl dX10_taught_110 ?_
        refine lv_iload hx hb dX10_taught_113 (lv_at hl 1 rfl) ?_
        obtain ⟨r17, C18, hq16, h⟩ := bp_x h
        refine rc_i hS (run_V hC wX5_hear k772 (e_hc G _ (show 6 < 7 by decide)) rfl hP hS (As := [.int x8]) (rest := []) (mX5_hear l G Rm (show 6 < 7 by decide) hq16) rfl hl.1 (Nat.le_of_ble_eq_true rfl) ⟨by decide, by decide⟩ ⟨Nat.le_refl _, Nat.le_refl _⟩ rfl dX10_taught_115) (fun H locs pb19 hP hS => ?_)
        refine lv_pop hx hb dX10_taught_118 rfl ?_
        obtain ⟨x20, ex20⟩ : ∃ y : Int32, y = y5 + 1 := ⟨_, rfl⟩
        replace h := lt_y ex20 h
        refine lv_iinc (v := x20) (lv' := [(5, .int x20), (4, .int x15), (6, .int x8), (0, .ref (gA G 0)), (2, .int y2), (3, .int y3)]) hx hb dX10_taught_119 hl (k := 5) rfl (by rw [ex20]; rfl) (by decide) rfl (fun ls hl => ?_)
        refine lv_goto (tgt := 66) hx hb dX10_taught_122 (by decide) ?_
        exact ih y2 y3 x15 x20 C18 _ _ _ h (lv_sub hl [3, 4, 5, 1, 0] rfl) hP hS
  unfold fX10_taught at h
  refine lv_aload_n hx hb dX10_taught_0 rfl (lv_at hl 0 rfl) ?_
  refine lv_iload_n hx hb dX10_taught_1 rfl (lv_at hl 1 rfl) ?_
  refine rc_i hS (run_V hC wX10_isHead k336 (e_0 G _) rfl hP hS (As := [.int p1]) (rest := []) (mX10_isHead l G Rm rfl) rfl hl.1 (Nat.le_of_ble_eq_true rfl) ⟨by decide, by decide⟩ ⟨Nat.le_refl _, Nat.le_refl _⟩ rfl dX10_taught_2) (fun H locs pb22 hP hS => ?_)
  refine lv_if_eq (tgt := 35) hx hb dX10_taught_5 (by decide) (fun c23 => ?_) (fun c23 => ?_)
  · replace h := it_t c23 h
    refine lv_iconst (v := (-1)) hx hb dX10_taught_35 (by decide) ?_
    exact re_i' hC hr hP hS (pr_1 h) (congrArg (fun Z : Mm => (Z, Rm)) (pr_2 h)) dX10_taught_36
  · replace h := it_f c23 h
    refine lv_iload_n hx hb dX10_taught_8 rfl (lv_at hl 2 rfl) ?_
    refine lv_iconst (v := 1) hx hb dX10_taught_9 (by decide) ?_
    refine lv_icmp_lt (tgt := 35) hx hb dX10_taught_10 (by decide) (fun c24 => ?_) (fun c24 => ?_)
    · replace h := it_t c24 h
      refine lv_iconst (v := (-1)) hx hb dX10_taught_35 (by decide) ?_
      exact re_i' hC hr hP hS (pr_1 h) (congrArg (fun Z : Mm => (Z, Rm)) (pr_2 h)) dX10_taught_36
    · replace h := it_f c24 h
      refine lv_iload_n hx hb dX10_taught_13 rfl (lv_at hl 2 rfl) ?_
      refine lv_bipush (v := 50) hx hb dX10_taught_14 (by decide) ?_
      refine lv_icmp_gt (tgt := 35) hx hb dX10_taught_16 (by decide) (fun c25 => ?_) (fun c25 => ?_)
      · replace h := it_t c25 h
        refine lv_iconst (v := (-1)) hx hb dX10_taught_35 (by decide) ?_
        exact re_i' hC hr hP hS (pr_1 h) (congrArg (fun Z : Mm => (Z, Rm)) (pr_2 h)) dX10_taught_36
      · replace h := it_f c25 h
        refine lv_iload_n hx hb dX10_taught_19 rfl (lv_at hl 3 rfl) ?_
        refine lv_if_lt (tgt := 35) hx hb dX10_taught_20 (by decide) (fun c26 => ?_) (fun c26 => ?_)
        · replace h := it_t c26 h
          refine lv_iconst (v := (-1)) hx hb dX10_taught_35 (by decide) ?_
          exact re_i' hC hr hP hS (pr_1 h) (congrArg (fun Z : Mm => (Z, Rm)) (pr_2 h)) dX10_taught_36
        · replace h := it_f c26 h
          refine lv_iload_n hx hb dX10_taught_23 rfl (lv_at hl 3 rfl) ?_
          refine lv_iconst (v := 1) hx hb dX10_taught_24 (by decide) ?_
          refine lv_icmp_gt (tgt := 35) hx hb dX10_taught_25 (by decide) (fun c27 => ?_) (fun c27 => ?_)
          · replace h := it_t c27 h
            refine lv_iconst (v := (-1)) hx hb dX10_taught_35 (by decide) ?_
            exact re_i' hC hr hP hS (pr_1 h) (congrArg (fun Z : Mm => (Z, Rm)) (pr_2 h)) dX10_taught_36
          · replace h := it_f c27 h
            refine lv_aload_n hx hb dX10_taught_28 rfl (lv_at hl 0 rfl) ?_
            obtain ⟨r29, hq28, h⟩ := bn_x h
            refine rc_i hS (run_V hC wX10_allToldCanBeTaught k783 (e_0 G _) rfl hP hS (As := []) (rest := []) (mX10_allToldCanBeTaught l G Rm hq28) rfl hl.1 (Nat.le_of_ble_eq_true rfl) ⟨by decide, by decide⟩ ⟨Nat.le_refl _, Nat.le_refl _⟩ rfl dX10_taught_29) (fun H locs pb30 hP hS => ?_)
            refine lv_if_ne (tgt := 37) hx hb dX10_taught_32 (by decide) (fun c31 => ?_) (fun c31 => ?_)
            · replace h := it_f c31 h
              refine lv_aload_n hx hb dX10_taught_37 rfl (lv_at hl 0 rfl) ?_
              refine r_get (v := .int (C.1 0 8)) hC inX10 hP (e_0 G _) rfl 8 (by decide) rfl k240 rfl dX10_taught_38 ?_
              refine lv_if_ne (tgt := 47) hx hb dX10_taught_41 (by decide) (fun c32 => ?_) (fun c32 => ?_)
              · replace h := it_f c32 h
                refine lv_aload_n hx hb dX10_taught_47 rfl (lv_at hl 0 rfl) ?_
                refine r_get (v := .ref (gA G (hdc 6))) hC inX10 hP (e_0 G _) rfl 3 (by decide) rfl k235 rfl dX10_taught_48 ?_
                refine lv_aload_n hx hb dX10_taught_51 rfl (lv_at hl 0 rfl) ?_
                refine r_get (v := .ref (gA G 3)) hC inX10 hP (e_0 G _) rfl 1 (by decide) rfl k233 rfl dX10_taught_52 ?_
                refine lv_iload_n hx hb dX10_taught_55 rfl (lv_at hl 1 rfl) ?_
                by_cases c33 : p1 < (0 : Int32) ∨ 6 ≤ Int32.toNatClampNeg p1
                · cases it_t c33 h
                replace h := it_f c33 h
                refine r_hd hC hP c33 dX10_taught_56 (fun hj34 => ?_)
                obtain ⟨C36, hq35, h⟩ := bn_x h
                refine rc_v hS (run_V hC wX5_become k325 (e_hc G _ (show 6 < 7 by decide)) rfl hP hS (As := [.ref (gA G (hdc (Int32.toNatClampNeg p1)))]) (rest := []) (mX5_become l G Rm (show 6 < 7 by decide) (Nat.lt_trans hj34 (by decide)) hq35) rfl hl.1 (Nat.le_of_ble_eq_true rfl) ⟨by decide, by decide⟩ ⟨Nat.le_refl _, Nat.le_refl _⟩ rfl dX10_taught_57) (fun H locs hP hS => ?_)
                refine lv_iconst (v := 0) hx hb dX10_taught_60 (by decide) ?_
                refine lv_istore (lv' := [(4, .int 0), (0, .ref (gA G 0)), (1, .int p1), (2, .int p2), (3, .int p3)]) hx hb dX10_taught_61 hl (by decide) rfl (fun ls hl => ?_)
                refine lv_iconst (v := 0) hx hb dX10_taught_63 (by decide) ?_
                refine lv_istore (lv' := [(5, .int 0), (4, .int 0), (0, .ref (gA G 0)), (1, .int p1), (2, .int p2), (3, .int p3)]) hx hb dX10_taught_64 hl (by decide) rfl (fun ls hl => ?_)
                exact bl66 n p2 p3 0 0 C36 _ _ _ h (lv_sub hl [2, 4, 5, 1, 0] rfl) hP hS
              · replace h := it_t c32 h
                refine lv_bipush (v := (-5)) hx hb dX10_taught_44 (by decide) ?_
                exact re_i' hC hr hP hS (pr_1 h) (congrArg (fun Z : Mm => (Z, Rm)) (pr_2 h)) dX10_taught_46
            · replace h := it_t c31 h
              refine lv_iconst (v := (-1)) hx hb dX10_taught_35 (by decide) ?_
              exact re_i' hC hr hP hS (pr_1 h) (congrArg (fun Z : Mm => (Z, Rm)) (pr_2 h)) dX10_taught_36
set_option maxHeartbeats 4000000 in
set_option maxRecDepth 100000 in
theorem mX10_prepareOrders (l : Launch) (G : gp) (Rm : Mm) {n : Nat} {j1 : Nat} (hj1 : j1 < 7) {p2 : Int32} {C : Mm} {C0 : Mm} (h : fX10_prepareOrders n j1 p2 C = some C0) : Met l yX10_prepareOrders (wsy yX10_prepareOrders cX10_prepareOrders 5 none) (rmv 6 164) (va_Pc [.ref (gA G 0), .ref (gA G (hdc j1)), .int p2] (Rl G (C, Rm))) (Qv G (C0, Rm)) 0 0 (lwA G) := by
  refine met_i [.ref (gA G 0), .ref (gA G (hdc j1)), .int p2] wX10_prepareOrders.2.2.2.2.2 (Nat.le_of_ble_eq_true rfl) ?_
  intro p e s m args below meth c ls hC hr hP hl
  have hC : Cx G p s m args meth c cX10_prepareOrders RX10 5 := hC
  have hx := hC.1
  have hb := hC.2.1
  have hown := hC.2.2.2.1
  have hts := hC.2.2.2.2.1
  have hS : va_S (lwA G) s.heap s.heap [] := va_S.rf
  have hl : lv_has ls 5 [(0, .ref (gA G 0)), (1, .ref (gA G (hdc j1))), (2, .int p2)] := hl
  have bl53 : ∀ (k2 : Int32 → Int32 → Mm → Option Mm) (hk2 : ∀ (y2 : Int32) (y3 : Int32) (C : Mm) (H : Heap) (locs : List Loc) (ls : Array Slot), k2 y2 y3 C = some C0 → lv_has ls 5 [(0, .ref (gA G 0)), (1, .ref (gA G (hdc j1))), (2, .int y2), (3, .int y3)] → va_P (gD G) vwCl (wld G (C, Rm)) H → va_S (lwA G) s.heap H locs → W p l e (rmv 6 164) s m args below meth c H locs 0 0 (MQ below (Qv G (C0, Rm)) args s 0 0 (lwA G)) (F0 m 2 ls [])) (fu : Nat), ∀ (y2 : Int32) (y3 : Int32) (y4 : Int32) (C : Mm) (H : Heap) (locs : List Loc) (ls : Array Slot), fX10_prepareOrders_h53 n j1 k2 fu y2 y3 y4 C = some C0 → lv_has ls 5 [(0, .ref (gA G 0)), (1, .ref (gA G (hdc j1))), (2, .int y2), (3, .int y3), (4, .int y4)] → va_P (gD G) vwCl (wld G (C, Rm)) H → va_S (lwA G) s.heap H locs → W p l e (rmv 6 164) s m args below meth c H locs 0 0 (MQ below (Qv G (C0, Rm)) args s 0 0 (lwA G)) (F0 m 53 ls []) := by
    intro k2 hk2 fu
    induction fu with
    | zero =>
      intro y2 y3 y4 C H locs ls h hl hP hS
      rw [fX10_prepareOrders_h53.eq_1] at h
      cases h
    | succ fu ih =>
      intro y2 y3 y4 C H locs ls h hl hP hS
      rw [fX10_prepareOrders_h53.eq_2] at h
      refine lv_iload hx hb dX10_prepareOrders_53 (lv_at hl 4 rfl) ?_
      refine lv_iconst (v := 3) hx hb dX10_prepareOrders_55 (by decide) ?_
      refine lv_icmp_ge (tgt := 79) hx hb dX10_prepareOrders_56 (by decide) (fun c1 => ?_) (fun c1 => ?_)
      · replace h := it_t c1 h
        refine lv_aload_n hx hb dX10_prepareOrders_79 rfl (lv_at hl 0 rfl) ?_
        refine lv_aload_n hx hb dX10_prepareOrders_80 rfl (lv_at hl 0 rfl) ?_
        refine r_get (v := .ref (gA G (hdc 6))) hC inX10 hP (e_0 G _) rfl 3 (by decide) rfl k235 rfl dX10_prepareOrders_81 ?_
        refine lv_aload_n hx hb dX10_prepareOrders_84 rfl (lv_at hl 0 rfl) ?_
        refine r_get (v := .ref (gA G 47)) hC inX10 hP (e_0 G _) rfl 7 (by decide) rfl k239 rfl dX10_prepareOrders_85 ?_
        refine lv_iload_n hx hb dX10_prepareOrders_88 rfl (lv_at hl 3 rfl) ?_
        by_cases c2 : y3 < (0 : Int32) ∨ 8 ≤ Int32.toNatClampNeg y3
        · cases it_t c2 h
        replace h := it_f c2 h
        refine r_iald hC hP (f := C.1 47) (e_47 G _) c2 dX10_prepareOrders_89 ?_
        obtain ⟨r4, C5, hq3, h⟩ := bp_x h
        refine rc_i hS (run_V hC wX10_reckonChosen k577 (e_0 G _) rfl hP hS (As := [.ref (gA G (hdc 6)), .int (C.1 47 (Int32.toNatClampNeg y3))]) (rest := []) (mX10_reckonChosen l G Rm (show 6 < 7 by decide) hq3) rfl hl.1 (Nat.le_of_ble_eq_true rfl) ⟨by decide, by decide⟩ ⟨Nat.le_refl _, Nat.le_refl _⟩ rfl dX10_prepareOrders_90) (fun H locs pb6 hP hS => ?_)
        refine lv_pop hx hb dX10_prepareOrders_93 rfl ?_
        refine lv_aload_n hx hb dX10_prepareOrders_94 rfl (lv_at hl 0 rfl) ?_
        refine r_get (v := .ref (gA G 49)) hC inX10 hP (e_0 G _) rfl 10 (by decide) rfl k242 rfl dX10_prepareOrders_95 ?_
        refine lv_iload_n hx hb dX10_prepareOrders_98 rfl (lv_at hl 3 rfl) ?_
        refine lv_aload_n hx hb dX10_prepareOrders_99 rfl (lv_at hl 0 rfl) ?_
        refine r_get (v := .ref (gA G 36)) hC inX10 hP (e_0 G _) rfl 5 (by decide) rfl k237 rfl dX10_prepareOrders_100 ?_
        refine rc_i hS (run_V hC wX0_seconds k551 (e_36 G _) rfl hP hS (As := []) (rest := [.int y3, .ref (gA G 49)]) (mX0_seconds l G Rm rfl) rfl hl.1 (Nat.le_of_ble_eq_true rfl) ⟨by decide, by decide⟩ ⟨Nat.le_refl _, Nat.le_refl _⟩ rfl dX10_prepareOrders_103) (fun H locs pb8 hP hS => ?_)
        by_cases c9 : y3 < (0 : Int32) ∨ 5 ≤ Int32.toNatClampNeg y3
        · cases it_t c9 h
        replace h := it_f c9 h
        obtain ⟨C10, eC10⟩ : ∃ Z : Mm, Z = wrI C5 49 (Int32.toNatClampNeg y3) (fX0_seconds C5) := ⟨_, rfl⟩
        replace h := lt_y eC10 h
        refine r_iast (X' := (C10, Rm)) hC hP hS (e_49 G _) c9 (a_49 G _ _ _ _ eC10) dX10_prepareOrders_106 (fun H locs hP hS => ?_)
        obtain ⟨x11, ex11⟩ : ∃ y : Int32, y = y3 + 1 := ⟨_, rfl⟩
        replace h := lt_y ex11 h
        refine lv_iinc (v := x11) (lv' := [(3, .int x11), (0, .ref (gA G 0)), (1, .ref (gA G (hdc j1))), (2, .int y2), (4, .int y4)]) hx hb dX10_prepareOrders_107 hl (k := 3) rfl (by rw [ex11]; rfl) (by decide) rfl (fun ls hl => ?_)
        refine lv_goto (tgt := 2) hx hb dX10_prepareOrders_110 (by decide) ?_
        exact hk2 y2 x11 C10 _ _ _ h (lv_sub hl [1, 2, 3, 0] rfl) hP hS
      · replace h := it_f c1 h
        refine lv_aload_n hx hb dX10_prepareOrders_59 rfl (lv_at hl 0 rfl) ?_
        refine r_get (v := .ref (gA G (hdc 6))) hC inX10 hP (e_0 G _) rfl 3 (by decide) rfl k235 rfl dX10_prepareOrders_60 ?_
        refine lv_aload_n hx hb dX10_prepareOrders_63 rfl (lv_at hl 0 rfl) ?_
        refine r_get (v := .ref (gA G 47)) hC inX10 hP (e_0 G _) rfl 7 (by decide) rfl k239 rfl dX10_prepareOrders_64 ?_
        refine lv_iload_n hx hb dX10_prepareOrders_67 rfl (lv_at hl 3 rfl) ?_
        by_cases c12 : y3 < (0 : Int32) ∨ 8 ≤ Int32.toNatClampNeg y3
        · cases it_t c12 h
        replace h := it_f c12 h
        refine r_iald hC hP (f := C.1 47) (e_47 G _) c12 dX10_prepareOrders_68 ?_
        obtain ⟨r14, C15, hq13, h⟩ := bp_x h
        refine rc_i hS (run_V hC wX5_hear k772 (e_hc G _ (show 6 < 7 by decide)) rfl hP hS (As := [.int (C.1 47 (Int32.toNatClampNeg y3))]) (rest := []) (mX5_hear l G Rm (show 6 < 7 by decide) hq13) rfl hl.1 (Nat.le_of_ble_eq_true rfl) ⟨by decide, by decide⟩ ⟨Nat.le_refl _, Nat.le_refl _⟩ rfl dX10_prepareOrders_69) (fun H locs pb16 hP hS => ?_)
        refine lv_pop hx hb dX10_prepareOrders_72 rfl ?_
        obtain ⟨x17, ex17⟩ : ∃ y : Int32, y = y4 + 1 := ⟨_, rfl⟩
        replace h := lt_y ex17 h
        refine lv_iinc (v := x17) (lv' := [(4, .int x17), (0, .ref (gA G 0)), (1, .ref (gA G (hdc j1))), (2, .int y2), (3, .int y3)]) hx hb dX10_prepareOrders_73 hl (k := 4) rfl (by rw [ex17]; rfl) (by decide) rfl (fun ls hl => ?_)
        refine lv_goto (tgt := 53) hx hb dX10_prepareOrders_76 (by decide) ?_
        exact ih y2 y3 x17 C15 _ _ _ h (lv_sub hl [1, 2, 3, 4, 0] rfl) hP hS
  have bl2 : ∀ (fu : Nat), ∀ (y2 : Int32) (y3 : Int32) (C : Mm) (H : Heap) (locs : List Loc) (ls : Array Slot), fX10_prepareOrders_h2 n j1 fu y2 y3 C = some C0 → lv_has ls 5 [(0, .ref (gA G 0)), (1, .ref (gA G (hdc j1))), (2, .int y2), (3, .int y3)] → va_P (gD G) vwCl (wld G (C, Rm)) H → va_S (lwA G) s.heap H locs → W p l e (rmv 6 164) s m args below meth c H locs 0 0 (MQ below (Qv G (C0, Rm)) args s 0 0 (lwA G)) (F0 m 2 ls []) := by
    intro fu
    induction fu with
    | zero =>
      intro y2 y3 C H locs ls h hl hP hS
      rw [fX10_prepareOrders_h2.eq_1] at h
      cases h
    | succ fu ih =>
      intro y2 y3 C H locs ls h hl hP hS
      rw [fX10_prepareOrders_h2.eq_2] at h
      refine lv_iload_n hx hb dX10_prepareOrders_2 rfl (lv_at hl 3 rfl) ?_
      refine lv_iload_n hx hb dX10_prepareOrders_3 rfl (lv_at hl 2 rfl) ?_
      refine lv_icmp_ge (tgt := 113) hx hb dX10_prepareOrders_4 (by decide) (fun c18 => ?_) (fun c18 => ?_)
      · replace h := it_t c18 h
        exact re_v' hC hr hP hS (congrArg (fun Z : Mm => (Z, Rm)) (Option.some.inj h)) dX10_prepareOrders_113
      · replace h := it_f c18 h
        refine lv_aload_n hx hb dX10_prepareOrders_7 rfl (lv_at hl 0 rfl) ?_
        refine r_get (v := .ref (gA G 50)) hC inX10 hP (e_0 G _) rfl 11 (by decide) rfl k243 rfl dX10_prepareOrders_8 ?_
        refine lv_iload_n hx hb dX10_prepareOrders_11 rfl (lv_at hl 3 rfl) ?_
        refine lv_iload_n hx hb dX10_prepareOrders_12 rfl (lv_at hl 3 rfl) ?_
        by_cases c19 : y3 < (0 : Int32) ∨ 5 ≤ Int32.toNatClampNeg y3
        · cases it_t c19 h
        replace h := it_f c19 h
        obtain ⟨C20, eC20⟩ : ∃ Z : Mm, Z = wrI C 50 (Int32.toNatClampNeg y3) y3 := ⟨_, rfl⟩
        replace h := lt_y eC20 h
        refine r_iast (X' := (C20, Rm)) hC hP hS (e_50 G _) c19 (a_50 G _ _ _ _ eC20) dX10_prepareOrders_13 (fun H locs hP hS => ?_)
        refine lv_aload_n hx hb dX10_prepareOrders_14 rfl (lv_at hl 0 rfl) ?_
        refine r_get (v := .ref (gA G (hdc 6))) hC inX10 hP (e_0 G _) rfl 3 (by decide) rfl k235 rfl dX10_prepareOrders_15 ?_
        refine lv_aload_n hx hb dX10_prepareOrders_18 rfl (lv_at hl 1 rfl) ?_
        obtain ⟨C22, hq21, h⟩ := bn_x h
        refine rc_v hS (run_V hC wX5_become k325 (e_hc G _ (show 6 < 7 by decide)) rfl hP hS (As := [.ref (gA G (hdc j1))]) (rest := []) (mX5_become l G Rm (show 6 < 7 by decide) hj1 hq21) rfl hl.1 (Nat.le_of_ble_eq_true rfl) ⟨by decide, by decide⟩ ⟨Nat.le_refl _, Nat.le_refl _⟩ rfl dX10_prepareOrders_19) (fun H locs hP hS => ?_)
        refine lv_aload_n hx hb dX10_prepareOrders_22 rfl (lv_at hl 0 rfl) ?_
        refine lv_aload_n hx hb dX10_prepareOrders_23 rfl (lv_at hl 0 rfl) ?_
        refine r_get (v := .ref (gA G (hdc 6))) hC inX10 hP (e_0 G _) rfl 3 (by decide) rfl k235 rfl dX10_prepareOrders_24 ?_
        refine lv_aload_n hx hb dX10_prepareOrders_27 rfl (lv_at hl 0 rfl) ?_
        refine r_get (v := .ref (gA G 47)) hC inX10 hP (e_0 G _) rfl 7 (by decide) rfl k239 rfl dX10_prepareOrders_28 ?_
        refine lv_iload_n hx hb dX10_prepareOrders_31 rfl (lv_at hl 3 rfl) ?_
        by_cases c23 : y3 < (0 : Int32) ∨ 8 ≤ Int32.toNatClampNeg y3
        · cases it_t c23 h
        replace h := it_f c23 h
        refine r_iald hC hP (f := C22.1 47) (e_47 G _) c23 dX10_prepareOrders_32 ?_
        obtain ⟨r25, C26, hq24, h⟩ := bp_x h
        refine rc_i hS (run_V hC wX10_reckonChosen k577 (e_0 G _) rfl hP hS (As := [.ref (gA G (hdc 6)), .int (C22.1 47 (Int32.toNatClampNeg y3))]) (rest := []) (mX10_reckonChosen l G Rm (show 6 < 7 by decide) hq24) rfl hl.1 (Nat.le_of_ble_eq_true rfl) ⟨by decide, by decide⟩ ⟨Nat.le_refl _, Nat.le_refl _⟩ rfl dX10_prepareOrders_33) (fun H locs pb27 hP hS => ?_)
        refine lv_pop hx hb dX10_prepareOrders_36 rfl ?_
        refine lv_aload_n hx hb dX10_prepareOrders_37 rfl (lv_at hl 0 rfl) ?_
        refine r_get (v := .ref (gA G 48)) hC inX10 hP (e_0 G _) rfl 9 (by decide) rfl k241 rfl dX10_prepareOrders_38 ?_
        refine lv_iload_n hx hb dX10_prepareOrders_41 rfl (lv_at hl 3 rfl) ?_
        refine lv_aload_n hx hb dX10_prepareOrders_42 rfl (lv_at hl 0 rfl) ?_
        refine r_get (v := .ref (gA G 36)) hC inX10 hP (e_0 G _) rfl 5 (by decide) rfl k237 rfl dX10_prepareOrders_43 ?_
        refine rc_i hS (run_V hC wX0_seconds k551 (e_36 G _) rfl hP hS (As := []) (rest := [.int y3, .ref (gA G 48)]) (mX0_seconds l G Rm rfl) rfl hl.1 (Nat.le_of_ble_eq_true rfl) ⟨by decide, by decide⟩ ⟨Nat.le_refl _, Nat.le_refl _⟩ rfl dX10_prepareOrders_46) (fun H locs pb29 hP hS => ?_)
        by_cases c30 : y3 < (0 : Int32) ∨ 5 ≤ Int32.toNatClampNeg y3
        · cases it_t c30 h
        replace h := it_f c30 h
        obtain ⟨C31, eC31⟩ : ∃ Z : Mm, Z = wrI C26 48 (Int32.toNatClampNeg y3) (fX0_seconds C26) := ⟨_, rfl⟩
        replace h := lt_y eC31 h
        refine r_iast (X' := (C31, Rm)) hC hP hS (e_48 G _) c30 (a_48 G _ _ _ _ eC31) dX10_prepareOrders_49 (fun H locs hP hS => ?_)
        refine lv_iconst (v := 0) hx hb dX10_prepareOrders_50 (by decide) ?_
        refine lv_istore (lv' := [(4, .int 0), (0, .ref (gA G 0)), (1, .ref (gA G (hdc j1))), (2, .int y2), (3, .int y3)]) hx hb dX10_prepareOrders_51 hl (by decide) rfl (fun ls hl => ?_)
        exact bl53 (fX10_prepareOrders_h2 n j1 fu) ih n y2 y3 0 C31 _ _ _ h (lv_sub hl [1, 2, 3, 4, 0] rfl) hP hS
  unfold fX10_prepareOrders at h
  refine lv_iconst (v := 0) hx hb dX10_prepareOrders_0 (by decide) ?_
  refine lv_istore_n (lv' := [(3, .int 0), (0, .ref (gA G 0)), (1, .ref (gA G (hdc j1))), (2, .int p2)]) hx hb dX10_prepareOrders_1 rfl hl (by decide) rfl (fun ls hl => ?_)
  exact bl2 n p2 0 C _ _ _ h (lv_sub hl [1, 2, 3, 0] rfl) hP hS
set_option maxHeartbeats 4000000 in
set_option maxRecDepth 100000 in
theorem mX10_orderAsDigits (l : Launch) (G : gp) (Rm : Mm) {n : Nat} {p1 : Int32} {C : Mm} {r0 : Int32} (h : fX10_orderAsDigits n p1 C = some r0) : Met l yX10_orderAsDigits (wsy yX10_orderAsDigits cX10_orderAsDigits 4 (some .int)) (rmv 0 0) (va_Pc [.ref (gA G 0), .int p1] (Rl G (C, Rm))) (Qi G PT r0 (C, Rm)) 0 0 (lwA G) := by
  refine met_i [.ref (gA G 0), .int p1] wX10_orderAsDigits.2.2.2.2.2 (Nat.le_of_ble_eq_true rfl) ?_
  intro p e s m args below meth c ls hC hr hP hl
  have hC : Cx G p s m args meth c cX10_orderAsDigits RX10 4 := hC
  have hx := hC.1
  have hb := hC.2.1
  have hown := hC.2.2.2.1
  have hts := hC.2.2.2.2.1
  have hS : va_S (lwA G) s.heap s.heap [] := va_S.rf
  have hl : lv_has ls 4 [(0, .ref (gA G 0)), (1, .int p1)] := hl
  have bl4 : ∀ (fu : Nat), ∀ (y1 : Int32) (y2 : Int32) (y3 : Int32) (C : Mm) (H : Heap) (locs : List Loc) (ls : Array Slot), fX10_orderAsDigits_h4 n fu y1 y2 y3 C = some r0 → lv_has ls 4 [(0, .ref (gA G 0)), (1, .int y1), (2, .int y2), (3, .int y3)] → va_P (gD G) vwCl (wld G (C, Rm)) H → va_S (lwA G) s.heap H locs → W p l e (rmv 0 0) s m args below meth c H locs 0 0 (MQ below (Qi G PT r0 (C, Rm)) args s 0 0 (lwA G)) (F0 m 4 ls []) := by
    intro fu
    induction fu with
    | zero =>
      intro y1 y2 y3 C H locs ls h hl hP hS
      rw [fX10_orderAsDigits_h4.eq_1] at h
      cases h
    | succ fu ih =>
      intro y1 y2 y3 C H locs ls h hl hP hS
      rw [fX10_orderAsDigits_h4.eq_2] at h
      refine lv_iload_n hx hb dX10_orderAsDigits_4 rfl (lv_at hl 3 rfl) ?_
      refine lv_iload_n hx hb dX10_orderAsDigits_5 rfl (lv_at hl 1 rfl) ?_
      refine lv_icmp_ge (tgt := 29) hx hb dX10_orderAsDigits_6 (by decide) (fun c1 => ?_) (fun c1 => ?_)
      · replace h := it_t c1 h
        refine lv_iload_n hx hb dX10_orderAsDigits_29 rfl (lv_at hl 2 rfl) ?_
        exact re_i' hC hr hP hS (Option.some.inj h) rfl dX10_orderAsDigits_30
      · replace h := it_f c1 h
        refine lv_iload_n hx hb dX10_orderAsDigits_9 rfl (lv_at hl 2 rfl) ?_
        refine lv_bipush (v := 10) hx hb dX10_orderAsDigits_10 (by decide) ?_
        refine lv_imul hx hb dX10_orderAsDigits_12 ?_
        refine lv_aload_n hx hb dX10_orderAsDigits_13 rfl (lv_at hl 0 rfl) ?_
        refine r_get (v := .ref (gA G 50)) hC inX10 hP (e_0 G _) rfl 11 (by decide) rfl k243 rfl dX10_orderAsDigits_14 ?_
        refine lv_iload_n hx hb dX10_orderAsDigits_17 rfl (lv_at hl 3 rfl) ?_
        by_cases c2 : y3 < (0 : Int32) ∨ 5 ≤ Int32.toNatClampNeg y3
        · cases it_t c2 h
        replace h := it_f c2 h
        refine r_iald hC hP (f := C.1 50) (e_50 G _) c2 dX10_orderAsDigits_18 ?_
        refine lv_iadd hx hb dX10_orderAsDigits_19 ?_
        refine lv_iconst (v := 1) hx hb dX10_orderAsDigits_20 (by decide) ?_
        refine lv_iadd hx hb dX10_orderAsDigits_21 ?_
        refine lv_topi (fun x3 ex3 => ?_)
        replace h := lt_y ex3 h
        refine lv_istore_n (lv' := [(2, .int x3), (0, .ref (gA G 0)), (1, .int y1), (3, .int y3)]) hx hb dX10_orderAsDigits_22 rfl hl (by decide) rfl (fun ls hl => ?_)
        obtain ⟨x4, ex4⟩ : ∃ y : Int32, y = y3 + 1 := ⟨_, rfl⟩
        replace h := lt_y ex4 h
        refine lv_iinc (v := x4) (lv' := [(3, .int x4), (2, .int x3), (0, .ref (gA G 0)), (1, .int y1)]) hx hb dX10_orderAsDigits_23 hl (k := 3) rfl (by rw [ex4]; rfl) (by decide) rfl (fun ls hl => ?_)
        refine lv_goto (tgt := 4) hx hb dX10_orderAsDigits_26 (by decide) ?_
        exact ih y1 x3 x4 C _ _ _ h (lv_sub hl [2, 3, 1, 0] rfl) hP hS
  unfold fX10_orderAsDigits at h
  refine lv_iconst (v := 0) hx hb dX10_orderAsDigits_0 (by decide) ?_
  refine lv_istore_n (lv' := [(2, .int 0), (0, .ref (gA G 0)), (1, .int p1)]) hx hb dX10_orderAsDigits_1 rfl hl (by decide) rfl (fun ls hl => ?_)
  refine lv_iconst (v := 0) hx hb dX10_orderAsDigits_2 (by decide) ?_
  refine lv_istore_n (lv' := [(3, .int 0), (2, .int 0), (0, .ref (gA G 0)), (1, .int p1)]) hx hb dX10_orderAsDigits_3 rfl hl (by decide) rfl (fun ls hl => ?_)
  exact bl4 n p1 0 0 C _ _ _ h (lv_sub hl [2, 3, 1, 0] rfl) hP hS
set_option maxHeartbeats 4000000 in
set_option maxRecDepth 100000 in
theorem mX10_secondsOfOrder (l : Launch) (G : gp) (Rm : Mm) {n : Nat} {j1 : Nat} (hj1 : j1 < 7) {p2 : Int32} {C : Mm} {r0 : Int32} {C0 : Mm} (h : fX10_secondsOfOrder n j1 p2 C = some (r0, C0)) : Met l yX10_secondsOfOrder (wsy yX10_secondsOfOrder cX10_secondsOfOrder 8 (some .int)) (rmv 2 61) (va_Pc [.ref (gA G 0), .ref (gA G (hdc j1)), .int p2] (Rl G (C, Rm))) (Qi G PT r0 (C0, Rm)) 0 0 (lwA G) := by
  refine met_i [.ref (gA G 0), .ref (gA G (hdc j1)), .int p2] wX10_secondsOfOrder.2.2.2.2.2 (Nat.le_of_ble_eq_true rfl) ?_
  intro p e s m args below meth c ls hC hr hP hl
  have hC : Cx G p s m args meth c cX10_secondsOfOrder RX10 8 := hC
  have hx := hC.1
  have hb := hC.2.1
  have hown := hC.2.2.2.1
  have hts := hC.2.2.2.2.1
  have hS : va_S (lwA G) s.heap s.heap [] := va_S.rf
  have hl : lv_has ls 8 [(0, .ref (gA G 0)), (1, .ref (gA G (hdc j1))), (2, .int p2)] := hl
  have bl85 : ∀ (k13 : Int32 → Int32 → Int32 → Mm → Option (Int32 × Mm)) (hk13 : ∀ (y2 : Int32) (y3 : Int32) (y4 : Int32) (C : Mm) (H : Heap) (locs : List Loc) (ls : Array Slot), k13 y2 y3 y4 C = some (r0, C0) → lv_has ls 8 [(0, .ref (gA G 0)), (2, .int y2), (3, .int y3), (4, .int y4)] → va_P (gD G) vwCl (wld G (C, Rm)) H → va_S (lwA G) s.heap H locs → W p l e (rmv 2 61) s m args below meth c H locs 0 0 (MQ below (Qi G PT r0 (C0, Rm)) args s 0 0 (lwA G)) (F0 m 13 ls [])) (k31 : Int32 → Int32 → Int32 → Int32 → Int32 → Mm → Option (Int32 × Mm)) (hk31 : ∀ (y2 : Int32) (y3 : Int32) (y4 : Int32) (y5 : Int32) (y6 : Int32) (C : Mm) (H : Heap) (locs : List Loc) (ls : Array Slot), k31 y2 y3 y4 y5 y6 C = some (r0, C0) → lv_has ls 8 [(0, .ref (gA G 0)), (2, .int y2), (3, .int y3), (4, .int y4), (5, .int y5), (6, .int y6)] → va_P (gD G) vwCl (wld G (C, Rm)) H → va_S (lwA G) s.heap H locs → W p l e (rmv 2 61) s m args below meth c H locs 0 0 (MQ below (Qi G PT r0 (C0, Rm)) args s 0 0 (lwA G)) (F0 m 31 ls [])), ∀ (y2 : Int32) (y4 : Int32) (y5 : Int32) (y6 : Int32) (s0 : Int32) (s1 : Int32) (C : Mm) (H : Heap) (locs : List Loc) (ls : Array Slot), fX10_secondsOfOrder_b85 n j1 k13 k31 y2 y4 y5 y6 s0 s1 C = some (r0, C0) → lv_has ls 8 [(0, .ref (gA G 0)), (2, .int y2), (4, .int y4), (5, .int y5), (6, .int y6)] → va_P (gD G) vwCl (wld G (C, Rm)) H → va_S (lwA G) s.heap H locs → W p l e (rmv 2 61) s m args below meth c H locs 0 0 (MQ below (Qi G PT r0 (C0, Rm)) args s 0 0 (lwA G)) (F0 m 85 ls [.int s0, .int s1]) := by
    intro k13 hk13 k31 hk31 y2 y4 y5 y6 s0 s1 C H locs ls h hl hP hS
    unfold fX10_secondsOfOrder_b85 at h
    refine lv_iadd hx hb dX10_secondsOfOrder_85 ?_
    refine lv_topi (fun x1 ex1 => ?_)
    replace h := lt_y ex1 h
    refine lv_istore_n (lv' := [(3, .int x1), (0, .ref (gA G 0)), (2, .int y2), (4, .int y4), (5, .int y5), (6, .int y6)]) hx hb dX10_secondsOfOrder_86 rfl hl (by decide) rfl (fun ls hl => ?_)
    obtain ⟨x2, ex2⟩ : ∃ y : Int32, y = y6 + 1 := ⟨_, rfl⟩
    replace h := lt_y ex2 h
    refine lv_iinc (v := x2) (lv' := [(6, .int x2), (3, .int x1), (0, .ref (gA G 0)), (2, .int y2), (4, .int y4), (5, .int y5)]) hx hb dX10_secondsOfOrder_87 hl (k := 5) rfl (by rw [ex2]; rfl) (by decide) rfl (fun ls hl => ?_)
    refine lv_goto (tgt := 31) hx hb dX10_secondsOfOrder_90 (by decide) ?_
    exact hk31 y2 x1 y4 y5 x2 C _ _ _ h (lv_sub hl [2, 3, 1, 4, 5, 0] rfl) hP hS
  have bl60 : ∀ (k13 : Int32 → Int32 → Int32 → Mm → Option (Int32 × Mm)) (hk13 : ∀ (y2 : Int32) (y3 : Int32) (y4 : Int32) (C : Mm) (H : Heap) (locs : List Loc) (ls : Array Slot), k13 y2 y3 y4 C = some (r0, C0) → lv_has ls 8 [(0, .ref (gA G 0)), (2, .int y2), (3, .int y3), (4, .int y4)] → va_P (gD G) vwCl (wld G (C, Rm)) H → va_S (lwA G) s.heap H locs → W p l e (rmv 2 61) s m args below meth c H locs 0 0 (MQ below (Qi G PT r0 (C0, Rm)) args s 0 0 (lwA G)) (F0 m 13 ls [])) (k31 : Int32 → Int32 → Int32 → Int32 → Int32 → Mm → Option (Int32 × Mm)) (hk31 : ∀ (y2 : Int32) (y3 : Int32) (y4 : Int32) (y5 : Int32) (y6 : Int32) (C : Mm) (H : Heap) (locs : List Loc) (ls : Array Slot), k31 y2 y3 y4 y5 y6 C = some (r0, C0) → lv_has ls 8 [(0, .ref (gA G 0)), (2, .int y2), (3, .int y3), (4, .int y4), (5, .int y5), (6, .int y6)] → va_P (gD G) vwCl (wld G (C, Rm)) H → va_S (lwA G) s.heap H locs → W p l e (rmv 2 61) s m args below meth c H locs 0 0 (MQ below (Qi G PT r0 (C0, Rm)) args s 0 0 (lwA G)) (F0 m 31 ls [])), ∀ (y2 : Int32) (y3 : Int32) (y4 : Int32) (y5 : Int32) (y6 : Int32) (s0 : Int32) (C : Mm) (H : Heap) (locs : List Loc) (ls : Array Slot), fX10_secondsOfOrder_b60 n j1 k13 k31 y2 y3 y4 y5 y6 s0 C = some (r0, C0) → lv_has ls 8 [(0, .ref (gA G 0)), (2, .int y2), (3, .int y3), (4, .int y4), (5, .int y5), (6, .int y6)] → va_P (gD G) vwCl (wld G (C, Rm)) H → va_S (lwA G) s.heap H locs → W p l e (rmv 2 61) s m args below meth c H locs 0 0 (MQ below (Qi G PT r0 (C0, Rm)) args s 0 0 (lwA G)) (F0 m 60 ls [.int s0]) := by
    intro k13 hk13 k31 hk31 y2 y3 y4 y5 y6 s0 C H locs ls h hl hP hS
    unfold fX10_secondsOfOrder_b60 at h
    refine lv_istore (lv' := [(7, .int s0), (0, .ref (gA G 0)), (2, .int y2), (3, .int y3), (4, .int y4), (5, .int y5), (6, .int y6)]) hx hb dX10_secondsOfOrder_60 hl (by decide) rfl (fun ls hl => ?_)
    refine lv_iload_n hx hb dX10_secondsOfOrder_62 rfl (lv_at hl 3 rfl) ?_
    refine lv_iload hx hb dX10_secondsOfOrder_63 (lv_at hl 0 rfl) ?_
    refine lv_if_eq (tgt := 78) hx hb dX10_secondsOfOrder_65 (by decide) (fun c3 => ?_) (fun c3 => ?_)
    · replace h := it_t c3 h
      refine lv_aload_n hx hb dX10_secondsOfOrder_78 rfl (lv_at hl 1 rfl) ?_
      refine r_get (v := .ref (gA G 48)) hC inX10 hP (e_0 G _) rfl 9 (by decide) rfl k241 rfl dX10_secondsOfOrder_79 ?_
      refine lv_iload hx hb dX10_secondsOfOrder_82 (lv_at hl 5 rfl) ?_
      by_cases c4 : y5 < (0 : Int32) ∨ 5 ≤ Int32.toNatClampNeg y5
      · cases it_t c4 h
      replace h := it_f c4 h
      refine r_iald hC hP (f := C.1 48) (e_48 G _) c4 dX10_secondsOfOrder_84 ?_
      exact bl85 k13 hk13 k31 hk31 y2 y4 y5 y6 (C.1 48 (Int32.toNatClampNeg y5)) y3 C _ _ _ h (lv_sub hl [1, 2, 4, 5, 6] rfl) hP hS
    · replace h := it_f c3 h
      refine lv_aload_n hx hb dX10_secondsOfOrder_68 rfl (lv_at hl 1 rfl) ?_
      refine r_get (v := .ref (gA G 49)) hC inX10 hP (e_0 G _) rfl 10 (by decide) rfl k242 rfl dX10_secondsOfOrder_69 ?_
      refine lv_iload hx hb dX10_secondsOfOrder_72 (lv_at hl 5 rfl) ?_
      by_cases c5 : y5 < (0 : Int32) ∨ 5 ≤ Int32.toNatClampNeg y5
      · cases it_t c5 h
      replace h := it_f c5 h
      refine r_iald hC hP (f := C.1 49) (e_49 G _) c5 dX10_secondsOfOrder_74 ?_
      refine lv_goto (tgt := 85) hx hb dX10_secondsOfOrder_75 (by decide) ?_
      exact bl85 k13 hk13 k31 hk31 y2 y4 y5 y6 (C.1 49 (Int32.toNatClampNeg y5)) y3 C _ _ _ h (lv_sub hl [1, 2, 4, 5, 6] rfl) hP hS
  have bl31 : ∀ (k13 : Int32 → Int32 → Int32 → Mm → Option (Int32 × Mm)) (hk13 : ∀ (y2 : Int32) (y3 : Int32) (y4 : Int32) (C : Mm) (H : Heap) (locs : List Loc) (ls : Array Slot), k13 y2 y3 y4 C = some (r0, C0) → lv_has ls 8 [(0, .ref (gA G 0)), (2, .int y2), (3, .int y3), (4, .int y4)] → va_P (gD G) vwCl (wld G (C, Rm)) H → va_S (lwA G) s.heap H locs → W p l e (rmv 2 61) s m args below meth c H locs 0 0 (MQ below (Qi G PT r0 (C0, Rm)) args s 0 0 (lwA G)) (F0 m 13 ls [])) (fu : Nat), ∀ (y2 : Int32) (y3 : Int32) (y4 : Int32) (y5 : Int32) (y6 : Int32) (C : Mm) (H : Heap) (locs : List Loc) (ls : Array Slot), fX10_secondsOfOrder_h31 n j1 k13 fu y2 y3 y4 y5 y6 C = some (r0, C0) → lv_has ls 8 [(0, .ref (gA G 0)), (2, .int y2), (3, .int y3), (4, .int y4), (5, .int y5), (6, .int y6)] → va_P (gD G) vwCl (wld G (C, Rm)) H → va_S (lwA G) s.heap H locs → W p l e (rmv 2 61) s m args below meth c H locs 0 0 (MQ below (Qi G PT r0 (C0, Rm)) args s 0 0 (lwA G)) (F0 m 31 ls []) := by
    intro k13 hk13 fu
    induction fu with
    | zero =>
      intro y2 y3 y4 y5 y6 C H locs ls h hl hP hS
      rw [fX10_secondsOfOrder_h31.eq_1] at h
      cases h
    | succ fu ih =>
      intro y2 y3 y4 y5 y6 C H locs ls h hl hP hS
      rw [fX10_secondsOfOrder_h31.eq_2] at h
      refine lv_iload hx hb dX10_secondsOfOrder_31 (lv_at hl 5 rfl) ?_
      refine lv_iconst (v := 3) hx hb dX10_secondsOfOrder_33 (by decide) ?_
      refine lv_icmp_ge (tgt := 93) hx hb dX10_secondsOfOrder_34 (by decide) (fun c6 => ?_) (fun c6 => ?_)
      · replace h := it_t c6 h
        obtain ⟨x7, ex7⟩ : ∃ y : Int32, y = y4 + 1 := ⟨_, rfl⟩
        replace h := lt_y ex7 h
        refine lv_iinc (v := x7) (lv' := [(4, .int x7), (0, .ref (gA G 0)), (2, .int y2), (3, .int y3), (5, .int y5), (6, .int y6)]) hx hb dX10_secondsOfOrder_93 hl (k := 3) rfl (by rw [ex7]; rfl) (by decide) rfl (fun ls hl => ?_)
        refine lv_goto (tgt := 13) hx hb dX10_secondsOfOrder_96 (by decide) ?_
        exact hk13 y2 y3 x7 C _ _ _ h (lv_sub hl [1, 2, 3, 0] rfl) hP hS
      · replace h := it_f c6 h
        refine lv_aload_n hx hb dX10_secondsOfOrder_37 rfl (lv_at hl 0 rfl) ?_
        refine r_get (v := .ref (gA G (hdc 6))) hC inX10 hP (e_0 G _) rfl 3 (by decide) rfl k235 rfl dX10_secondsOfOrder_38 ?_
        refine lv_aload_n hx hb dX10_secondsOfOrder_41 rfl (lv_at hl 0 rfl) ?_
        refine r_get (v := .ref (gA G 47)) hC inX10 hP (e_0 G _) rfl 7 (by decide) rfl k239 rfl dX10_secondsOfOrder_42 ?_
        refine lv_iload hx hb dX10_secondsOfOrder_45 (lv_at hl 4 rfl) ?_
        by_cases c8 : y5 < (0 : Int32) ∨ 8 ≤ Int32.toNatClampNeg y5
        · cases it_t c8 h
        replace h := it_f c8 h
        refine r_iald hC hP (f := C.1 47) (e_47 G _) c8 dX10_secondsOfOrder_47 ?_
        obtain ⟨r10, C11, hq9, h⟩ := bp_x h
        refine rc_i hS (run_V hC wX5_hear k772 (e_hc G _ (show 6 < 7 by decide)) rfl hP hS (As := [.int (C.1 47 (Int32.toNatClampNeg y5))]) (rest := []) (mX5_hear l G Rm (show 6 < 7 by decide) hq9) rfl hl.1 (Nat.le_of_ble_eq_true rfl) ⟨by decide, by decide⟩ ⟨Nat.le_refl _, Nat.le_refl _⟩ rfl dX10_secondsOfOrder_48) (fun H locs pb12 hP hS => ?_)
        refine lv_iconst (v := 3) hx hb dX10_secondsOfOrder_51 (by decide) ?_
        refine lv_icmp_le (tgt := 59) hx hb dX10_secondsOfOrder_52 (by decide) (fun c13 => ?_) (fun c13 => ?_)
        · replace h := it_t c13 h
          refine lv_iconst (v := 0) hx hb dX10_secondsOfOrder_59 (by decide) ?_
          exact bl60 k13 hk13 (fX10_secondsOfOrder_h31 n j1 k13 fu) ih y2 y3 y4 y5 y6 0 C11 _ _ _ h (lv_sub hl [0, 1, 2, 3, 4, 5] rfl) hP hS
        · replace h := it_f c13 h
          refine lv_iconst (v := 1) hx hb dX10_secondsOfOrder_55 (by decide) ?_
          refine lv_goto (tgt := 60) hx hb dX10_secondsOfOrder_56 (by decide) ?_
          exact bl60 k13 hk13 (fX10_secondsOfOrder_h31 n j1 k13 fu) ih y2 y3 y4 y5 y6 1 C11 _ _ _ h (lv_sub hl [0, 1, 2, 3, 4, 5] rfl) hP hS
  have bl13 : ∀ (fu : Nat), ∀ (y2 : Int32) (y3 : Int32) (y4 : Int32) (C : Mm) (H : Heap) (locs : List Loc) (ls : Array Slot), fX10_secondsOfOrder_h13 n j1 fu y2 y3 y4 C = some (r0, C0) → lv_has ls 8 [(0, .ref (gA G 0)), (2, .int y2), (3, .int y3), (4, .int y4)] → va_P (gD G) vwCl (wld G (C, Rm)) H → va_S (lwA G) s.heap H locs → W p l e (rmv 2 61) s m args below meth c H locs 0 0 (MQ below (Qi G PT r0 (C0, Rm)) args s 0 0 (lwA G)) (F0 m 13 ls []) := by
    intro fu
    induction fu with
    | zero =>
      intro y2 y3 y4 C H locs ls h hl hP hS
      rw [fX10_secondsOfOrder_h13.eq_1] at h
      cases h
    | succ fu ih =>
      intro y2 y3 y4 C H locs ls h hl hP hS
      rw [fX10_secondsOfOrder_h13.eq_2] at h
      refine lv_iload hx hb dX10_secondsOfOrder_13 (lv_at hl 3 rfl) ?_
      refine lv_iload_n hx hb dX10_secondsOfOrder_15 rfl (lv_at hl 1 rfl) ?_
      refine lv_icmp_ge (tgt := 99) hx hb dX10_secondsOfOrder_16 (by decide) (fun c14 => ?_) (fun c14 => ?_)
      · replace h := it_t c14 h
        refine lv_iload_n hx hb dX10_secondsOfOrder_99 rfl (lv_at hl 2 rfl) ?_
        exact re_i' hC hr hP hS (pr_1 h) (congrArg (fun Z : Mm => (Z, Rm)) (pr_2 h)) dX10_secondsOfOrder_100
      · replace h := it_f c14 h
        refine lv_aload_n hx hb dX10_secondsOfOrder_19 rfl (lv_at hl 0 rfl) ?_
        refine r_get (v := .ref (gA G 50)) hC inX10 hP (e_0 G _) rfl 11 (by decide) rfl k243 rfl dX10_secondsOfOrder_20 ?_
        refine lv_iload hx hb dX10_secondsOfOrder_23 (lv_at hl 3 rfl) ?_
        by_cases c15 : y4 < (0 : Int32) ∨ 5 ≤ Int32.toNatClampNeg y4
        · cases it_t c15 h
        replace h := it_f c15 h
        refine r_iald hC hP (f := C.1 50) (e_50 G _) c15 dX10_secondsOfOrder_25 ?_
        refine lv_topi (fun x16 ex16 => ?_)
        replace h := lt_y ex16 h
        refine lv_istore (lv' := [(5, .int x16), (0, .ref (gA G 0)), (2, .int y2), (3, .int y3), (4, .int y4)]) hx hb dX10_secondsOfOrder_26 hl (by decide) rfl (fun ls hl => ?_)
        refine lv_iconst (v := 0) hx hb dX10_secondsOfOrder_28 (by decide) ?_
        refine lv_istore (lv' := [(6, .int 0), (5, .int x16), (0, .ref (gA G 0)), (2, .int y2), (3, .int y3), (4, .int y4)]) hx hb dX10_secondsOfOrder_29 hl (by decide) rfl (fun ls hl => ?_)
        exact bl31 (fX10_secondsOfOrder_h13 n j1 fu) ih n y2 y3 y4 x16 0 C _ _ _ h (lv_sub hl [2, 3, 4, 5, 1, 0] rfl) hP hS
  unfold fX10_secondsOfOrder at h
  refine lv_aload_n hx hb dX10_secondsOfOrder_0 rfl (lv_at hl 0 rfl) ?_
  refine r_get (v := .ref (gA G (hdc 6))) hC inX10 hP (e_0 G _) rfl 3 (by decide) rfl k235 rfl dX10_secondsOfOrder_1 ?_
  refine lv_aload_n hx hb dX10_secondsOfOrder_4 rfl (lv_at hl 1 rfl) ?_
  obtain ⟨C18, hq17, h⟩ := bn_x h
  refine rc_v hS (run_V hC wX5_become k325 (e_hc G _ (show 6 < 7 by decide)) rfl hP hS (As := [.ref (gA G (hdc j1))]) (rest := []) (mX5_become l G Rm (show 6 < 7 by decide) hj1 hq17) rfl hl.1 (Nat.le_of_ble_eq_true rfl) ⟨by decide, by decide⟩ ⟨Nat.le_refl _, Nat.le_refl _⟩ rfl dX10_secondsOfOrder_5) (fun H locs hP hS => ?_)
  refine lv_iconst (v := 0) hx hb dX10_secondsOfOrder_8 (by decide) ?_
  refine lv_istore_n (lv' := [(3, .int 0), (0, .ref (gA G 0)), (1, .ref (gA G (hdc j1))), (2, .int p2)]) hx hb dX10_secondsOfOrder_9 rfl hl (by decide) rfl (fun ls hl => ?_)
  refine lv_iconst (v := 0) hx hb dX10_secondsOfOrder_10 (by decide) ?_
  refine lv_istore (lv' := [(4, .int 0), (3, .int 0), (0, .ref (gA G 0)), (1, .ref (gA G (hdc j1))), (2, .int p2)]) hx hb dX10_secondsOfOrder_11 hl (by decide) rfl (fun ls hl => ?_)
  exact bl13 n p2 0 0 C18 _ _ _ h (lv_sub hl [2, 4, 1, 0] rfl) hP hS
set_option maxHeartbeats 4000000 in
set_option maxRecDepth 100000 in
theorem mX10_swapPlaces (l : Launch) (G : gp) (Rm : Mm) {p1 : Int32} {p2 : Int32} {C : Mm} {C0 : Mm} (h : fX10_swapPlaces p1 p2 C = some C0) : Met l yX10_swapPlaces (wsy yX10_swapPlaces cX10_swapPlaces 4 none) (rmv 0 0) (va_Pc [.ref (gA G 0), .int p1, .int p2] (Rl G (C, Rm))) (Qv G (C0, Rm)) 0 0 (lwA G) := by
  refine met_i [.ref (gA G 0), .int p1, .int p2] wX10_swapPlaces.2.2.2.2.2 (Nat.le_of_ble_eq_true rfl) ?_
  intro p e s m args below meth c ls hC hr hP hl
  have hC : Cx G p s m args meth c cX10_swapPlaces RX10 4 := hC
  have hx := hC.1
  have hb := hC.2.1
  have hown := hC.2.2.2.1
  have hts := hC.2.2.2.2.1
  have hS : va_S (lwA G) s.heap s.heap [] := va_S.rf
  have hl : lv_has ls 4 [(0, .ref (gA G 0)), (1, .int p1), (2, .int p2)] := hl
  unfold fX10_swapPlaces at h
  refine lv_aload_n hx hb dX10_swapPlaces_0 rfl (lv_at hl 0 rfl) ?_
  refine r_get (v := .ref (gA G 50)) hC inX10 hP (e_0 G _) rfl 11 (by decide) rfl k243 rfl dX10_swapPlaces_1 ?_
  refine lv_iload_n hx hb dX10_swapPlaces_4 rfl (lv_at hl 1 rfl) ?_
  by_cases c1 : p1 < (0 : Int32) ∨ 5 ≤ Int32.toNatClampNeg p1
  · cases it_t c1 h
  replace h := it_f c1 h
  refine r_iald hC hP (f := C.1 50) (e_50 G _) c1 dX10_swapPlaces_5 ?_
  refine lv_topi (fun x2 ex2 => ?_)
  replace h := lt_y ex2 h
  refine lv_istore_n (lv' := [(3, .int x2), (0, .ref (gA G 0)), (1, .int p1), (2, .int p2)]) hx hb dX10_swapPlaces_6 rfl hl (by decide) rfl (fun ls hl => ?_)
  refine lv_aload_n hx hb dX10_swapPlaces_7 rfl (lv_at hl 1 rfl) ?_
  refine r_get (v := .ref (gA G 50)) hC inX10 hP (e_0 G _) rfl 11 (by decide) rfl k243 rfl dX10_swapPlaces_8 ?_
  refine lv_iload_n hx hb dX10_swapPlaces_11 rfl (lv_at hl 2 rfl) ?_
  refine lv_aload_n hx hb dX10_swapPlaces_12 rfl (lv_at hl 1 rfl) ?_
  refine r_get (v := .ref (gA G 50)) hC inX10 hP (e_0 G _) rfl 11 (by decide) rfl k243 rfl dX10_swapPlaces_13 ?_
  refine lv_iload_n hx hb dX10_swapPlaces_16 rfl (lv_at hl 3 rfl) ?_
  by_cases c3 : p2 < (0 : Int32) ∨ 5 ≤ Int32.toNatClampNeg p2
  · cases it_t c3 h
  replace h := it_f c3 h
  refine r_iald hC hP (f := C.1 50) (e_50 G _) c3 dX10_swapPlaces_17 ?_
  by_cases c4 : p1 < (0 : Int32) ∨ 5 ≤ Int32.toNatClampNeg p1
  · cases it_t c4 h
  replace h := it_f c4 h
  obtain ⟨C5, eC5⟩ : ∃ Z : Mm, Z = wrI C 50 (Int32.toNatClampNeg p1) (C.1 50 (Int32.toNatClampNeg p2)) := ⟨_, rfl⟩
  replace h := lt_y eC5 h
  refine r_iast (X' := (C5, Rm)) hC hP hS (e_50 G _) c4 (a_50 G _ _ _ _ eC5) dX10_swapPlaces_18 (fun H locs hP hS => ?_)
  refine lv_aload_n hx hb dX10_swapPlaces_19 rfl (lv_at hl 1 rfl) ?_
  refine r_get (v := .ref (gA G 50)) hC inX10 hP (e_0 G _) rfl 11 (by decide) rfl k243 rfl dX10_swapPlaces_20 ?_
  refine lv_iload_n hx hb dX10_swapPlaces_23 rfl (lv_at hl 3 rfl) ?_
  refine lv_iload_n hx hb dX10_swapPlaces_24 rfl (lv_at hl 0 rfl) ?_
  by_cases c6 : p2 < (0 : Int32) ∨ 5 ≤ Int32.toNatClampNeg p2
  · cases it_t c6 h
  replace h := it_f c6 h
  obtain ⟨C7, eC7⟩ : ∃ Z : Mm, Z = wrI C5 50 (Int32.toNatClampNeg p2) x2 := ⟨_, rfl⟩
  replace h := lt_y eC7 h
  refine r_iast (X' := (C7, Rm)) hC hP hS (e_50 G _) c6 (a_50 G _ _ _ _ eC7) dX10_swapPlaces_25 (fun H locs hP hS => ?_)
  exact re_v' hC hr hP hS (congrArg (fun Z : Mm => (Z, Rm)) (Option.some.inj h)) dX10_swapPlaces_26
set_option maxHeartbeats 4000000 in
set_option maxRecDepth 100000 in
theorem mX10_nextOrder (l : Launch) (G : gp) (Rm : Mm) {n : Nat} {p1 : Int32} {C : Mm} {r0 : Int32} {C0 : Mm} (h : fX10_nextOrder n p1 C = some (r0, C0)) : Met l yX10_nextOrder (wsy yX10_nextOrder cX10_nextOrder 6 (some .boolean)) (rmv 1 23) (va_Pc [.ref (gA G 0), .int p1] (Rl G (C, Rm))) (Qi G PZ r0 (C0, Rm)) 0 0 (lwA G) := by
  refine met_i [.ref (gA G 0), .int p1] wX10_nextOrder.2.2.2.2.2 (Nat.le_of_ble_eq_true rfl) ?_
  intro p e s m args below meth c ls hC hr hP hl
  have hC : Cx G p s m args meth c cX10_nextOrder RX10 6 := hC
  have hx := hC.1
  have hb := hC.2.1
  have hown := hC.2.2.2.1
  have hts := hC.2.2.2.2.1
  have hS : va_S (lwA G) s.heap s.heap [] := va_S.rf
  have hl : lv_has ls 6 [(0, .ref (gA G 0)), (1, .int p1)] := hl
  have bl85 : ∀ (fu : Nat), ∀ (y4 : Int32) (y5 : Int32) (C : Mm) (H : Heap) (locs : List Loc) (ls : Array Slot), fX10_nextOrder_h85 n fu y4 y5 C = some (r0, C0) → lv_has ls 6 [(0, .ref (gA G 0)), (4, .int y4), (5, .int y5)] → va_P (gD G) vwCl (wld G (C, Rm)) H → va_S (lwA G) s.heap H locs → W p l e (rmv 1 23) s m args below meth c H locs 0 0 (MQ below (Qi G PZ r0 (C0, Rm)) args s 0 0 (lwA G)) (F0 m 85 ls []) := by
    intro fu
    induction fu with
    | zero =>
      intro y4 y5 C H locs ls h hl hP hS
      rw [fX10_nextOrder_h85.eq_1] at h
      cases h
    | succ fu ih =>
      intro y4 y5 C H locs ls h hl hP hS
      rw [fX10_nextOrder_h85.eq_2] at h
      refine lv_iload hx hb dX10_nextOrder_85 (lv_at hl 1 rfl) ?_
      refine lv_iload hx hb dX10_nextOrder_87 (lv_at hl 2 rfl) ?_
      refine lv_icmp_ge (tgt := 109) hx hb dX10_nextOrder_89 (by decide) (fun c1 => ?_) (fun c1 => ?_)
      · replace h := it_t c1 h
        refine lv_iconst (v := 1) hx hb dX10_nextOrder_109 (by decide) ?_
        exact re_z' hC hr hP hS PZ1 (pr_1 h) (congrArg (fun Z : Mm => (Z, Rm)) (pr_2 h)) dX10_nextOrder_110
      · replace h := it_f c1 h
        refine lv_aload_n hx hb dX10_nextOrder_92 rfl (lv_at hl 0 rfl) ?_
        refine lv_iload hx hb dX10_nextOrder_93 (lv_at hl 1 rfl) ?_
        refine lv_iload hx hb dX10_nextOrder_95 (lv_at hl 2 rfl) ?_
        obtain ⟨C3, hq2, h⟩ := bn_x h
        refine rc_v hS (run_V hC wX10_swapPlaces k808 (e_0 G _) rfl hP hS (As := [.int y4, .int y5]) (rest := []) (mX10_swapPlaces l G Rm hq2) rfl hl.1 (Nat.le_of_ble_eq_true rfl) ⟨by decide, by decide⟩ ⟨Nat.le_refl _, Nat.le_refl _⟩ rfl dX10_nextOrder_97) (fun H locs hP hS => ?_)
        obtain ⟨x4, ex4⟩ : ∃ y : Int32, y = y4 + 1 := ⟨_, rfl⟩
        replace h := lt_y ex4 h
        refine lv_iinc (v := x4) (lv' := [(4, .int x4), (0, .ref (gA G 0)), (5, .int y5)]) hx hb dX10_nextOrder_100 hl (k := 1) rfl (by rw [ex4]; rfl) (by decide) rfl (fun ls hl => ?_)
        obtain ⟨x5, ex5⟩ : ∃ y : Int32, y = y5 + (-1) := ⟨_, rfl⟩
        replace h := lt_y ex5 h
        refine lv_iinc (v := x5) (lv' := [(5, .int x5), (4, .int x4), (0, .ref (gA G 0))]) hx hb dX10_nextOrder_103 hl (k := 2) rfl (by rw [ex5]; rfl) (by decide) rfl (fun ls hl => ?_)
        refine lv_goto (tgt := 85) hx hb dX10_nextOrder_106 (by decide) ?_
        exact ih x4 x5 C3 _ _ _ h (lv_sub hl [2, 1, 0] rfl) hP hS
  have bl69 : ∀ (y1 : Int32) (y2 : Int32) (y3 : Int32) (C : Mm) (H : Heap) (locs : List Loc) (ls : Array Slot), fX10_nextOrder_b69 n y1 y2 y3 C = some (r0, C0) → lv_has ls 6 [(0, .ref (gA G 0)), (1, .int y1), (2, .int y2), (3, .int y3)] → va_P (gD G) vwCl (wld G (C, Rm)) H → va_S (lwA G) s.heap H locs → W p l e (rmv 1 23) s m args below meth c H locs 0 0 (MQ below (Qi G PZ r0 (C0, Rm)) args s 0 0 (lwA G)) (F0 m 69 ls []) := by
    intro y1 y2 y3 C H locs ls h hl hP hS
    unfold fX10_nextOrder_b69 at h
    refine lv_aload_n hx hb dX10_nextOrder_69 rfl (lv_at hl 0 rfl) ?_
    refine lv_iload_n hx hb dX10_nextOrder_70 rfl (lv_at hl 2 rfl) ?_
    refine lv_iload_n hx hb dX10_nextOrder_71 rfl (lv_at hl 3 rfl) ?_
    obtain ⟨C7, hq6, h⟩ := bn_x h
    refine rc_v hS (run_V hC wX10_swapPlaces k808 (e_0 G _) rfl hP hS (As := [.int y2, .int y3]) (rest := []) (mX10_swapPlaces l G Rm hq6) rfl hl.1 (Nat.le_of_ble_eq_true rfl) ⟨by decide, by decide⟩ ⟨Nat.le_refl _, Nat.le_refl _⟩ rfl dX10_nextOrder_72) (fun H locs hP hS => ?_)
    refine lv_iload_n hx hb dX10_nextOrder_75 rfl (lv_at hl 2 rfl) ?_
    refine lv_iconst (v := 1) hx hb dX10_nextOrder_76 (by decide) ?_
    refine lv_iadd hx hb dX10_nextOrder_77 ?_
    refine lv_topi (fun x8 ex8 => ?_)
    replace h := lt_y ex8 h
    refine lv_istore (lv' := [(4, .int x8), (0, .ref (gA G 0)), (1, .int y1), (2, .int y2), (3, .int y3)]) hx hb dX10_nextOrder_78 hl (by decide) rfl (fun ls hl => ?_)
    refine lv_iload_n hx hb dX10_nextOrder_80 rfl (lv_at hl 2 rfl) ?_
    refine lv_iconst (v := 1) hx hb dX10_nextOrder_81 (by decide) ?_
    refine lv_isub hx hb dX10_nextOrder_82 ?_
    refine lv_topi (fun x9 ex9 => ?_)
    replace h := lt_y ex9 h
    refine lv_istore (lv' := [(5, .int x9), (4, .int x8), (0, .ref (gA G 0)), (1, .int y1), (2, .int y2), (3, .int y3)]) hx hb dX10_nextOrder_83 hl (by decide) rfl (fun ls hl => ?_)
    exact bl85 n x8 x9 C7 _ _ _ h (lv_sub hl [2, 1, 0] rfl) hP hS
  have bl41 : ∀ (fu : Nat), ∀ (y1 : Int32) (y2 : Int32) (y3 : Int32) (C : Mm) (H : Heap) (locs : List Loc) (ls : Array Slot), fX10_nextOrder_h41 n fu y1 y2 y3 C = some (r0, C0) → lv_has ls 6 [(0, .ref (gA G 0)), (1, .int y1), (2, .int y2), (3, .int y3)] → va_P (gD G) vwCl (wld G (C, Rm)) H → va_S (lwA G) s.heap H locs → W p l e (rmv 1 23) s m args below meth c H locs 0 0 (MQ below (Qi G PZ r0 (C0, Rm)) args s 0 0 (lwA G)) (F0 m 41 ls []) := by
    intro fu
    induction fu with
    | zero =>
      intro y1 y2 y3 C H locs ls h hl hP hS
      rw [fX10_nextOrder_h41.eq_1] at h
      cases h
    | succ fu ih =>
      intro y1 y2 y3 C H locs ls h hl hP hS
      rw [fX10_nextOrder_h41.eq_2] at h
      refine lv_iload_n hx hb dX10_nextOrder_41 rfl (lv_at hl 3 rfl) ?_
      refine lv_iload_n hx hb dX10_nextOrder_42 rfl (lv_at hl 2 rfl) ?_
      refine lv_iconst (v := 1) hx hb dX10_nextOrder_43 (by decide) ?_
      refine lv_iadd hx hb dX10_nextOrder_44 ?_
      refine lv_icmp_le (tgt := 69) hx hb dX10_nextOrder_45 (by decide) (fun c10 => ?_) (fun c10 => ?_)
      · replace h := it_t c10 h
        exact bl69 y1 y2 y3 C _ _ _ h (lv_sub hl [0, 1, 2, 3] rfl) hP hS
      · replace h := it_f c10 h
        refine lv_aload_n hx hb dX10_nextOrder_48 rfl (lv_at hl 0 rfl) ?_
        refine r_get (v := .ref (gA G 50)) hC inX10 hP (e_0 G _) rfl 11 (by decide) rfl k243 rfl dX10_nextOrder_49 ?_
        refine lv_iload_n hx hb dX10_nextOrder_52 rfl (lv_at hl 3 rfl) ?_
        by_cases c11 : y3 < (0 : Int32) ∨ 5 ≤ Int32.toNatClampNeg y3
        · cases it_t c11 h
        replace h := it_f c11 h
        refine r_iald hC hP (f := C.1 50) (e_50 G _) c11 dX10_nextOrder_53 ?_
        refine lv_aload_n hx hb dX10_nextOrder_54 rfl (lv_at hl 0 rfl) ?_
        refine r_get (v := .ref (gA G 50)) hC inX10 hP (e_0 G _) rfl 11 (by decide) rfl k243 rfl dX10_nextOrder_55 ?_
        refine lv_iload_n hx hb dX10_nextOrder_58 rfl (lv_at hl 2 rfl) ?_
        by_cases c12 : y2 < (0 : Int32) ∨ 5 ≤ Int32.toNatClampNeg y2
        · cases it_t c12 h
        replace h := it_f c12 h
        refine r_iald hC hP (f := C.1 50) (e_50 G _) c12 dX10_nextOrder_59 ?_
        refine lv_icmp_ge (tgt := 69) hx hb dX10_nextOrder_60 (by decide) (fun c13 => ?_) (fun c13 => ?_)
        · replace h := it_t c13 h
          exact bl69 y1 y2 y3 C _ _ _ h (lv_sub hl [0, 1, 2, 3] rfl) hP hS
        · replace h := it_f c13 h
          obtain ⟨x14, ex14⟩ : ∃ y : Int32, y = y3 + (-1) := ⟨_, rfl⟩
          replace h := lt_y ex14 h
          refine lv_iinc (v := x14) (lv' := [(3, .int x14), (0, .ref (gA G 0)), (1, .int y1), (2, .int y2)]) hx hb dX10_nextOrder_63 hl (k := 3) rfl (by rw [ex14]; rfl) (by decide) rfl (fun ls hl => ?_)
          refine lv_goto (tgt := 41) hx hb dX10_nextOrder_66 (by decide) ?_
          exact ih y1 y2 x14 C _ _ _ h (lv_sub hl [1, 2, 3, 0] rfl) hP hS
  have bl31 : ∀ (y1 : Int32) (y2 : Int32) (C : Mm) (H : Heap) (locs : List Loc) (ls : Array Slot), fX10_nextOrder_b31 n y1 y2 C = some (r0, C0) → lv_has ls 6 [(0, .ref (gA G 0)), (1, .int y1), (2, .int y2)] → va_P (gD G) vwCl (wld G (C, Rm)) H → va_S (lwA G) s.heap H locs → W p l e (rmv 1 23) s m args below meth c H locs 0 0 (MQ below (Qi G PZ r0 (C0, Rm)) args s 0 0 (lwA G)) (F0 m 31 ls []) := by
    intro y1 y2 C H locs ls h hl hP hS
    unfold fX10_nextOrder_b31 at h
    refine lv_iload_n hx hb dX10_nextOrder_31 rfl (lv_at hl 2 rfl) ?_
    refine lv_if_ge (tgt := 37) hx hb dX10_nextOrder_32 (by decide) (fun c15 => ?_) (fun c15 => ?_)
    · replace h := it_t c15 h
      refine lv_iload_n hx hb dX10_nextOrder_37 rfl (lv_at hl 1 rfl) ?_
      refine lv_iconst (v := 1) hx hb dX10_nextOrder_38 (by decide) ?_
      refine lv_isub hx hb dX10_nextOrder_39 ?_
      refine lv_topi (fun x16 ex16 => ?_)
      replace h := lt_y ex16 h
      refine lv_istore_n (lv' := [(3, .int x16), (0, .ref (gA G 0)), (1, .int y1), (2, .int y2)]) hx hb dX10_nextOrder_40 rfl hl (by decide) rfl (fun ls hl => ?_)
      exact bl41 n y1 y2 x16 C _ _ _ h (lv_sub hl [1, 2, 3, 0] rfl) hP hS
    · replace h := it_f c15 h
      refine lv_iconst (v := 0) hx hb dX10_nextOrder_35 (by decide) ?_
      exact re_z' hC hr hP hS PZ0 (pr_1 h) (congrArg (fun Z : Mm => (Z, Rm)) (pr_2 h)) dX10_nextOrder_36
  have bl4 : ∀ (fu : Nat), ∀ (y1 : Int32) (y2 : Int32) (C : Mm) (H : Heap) (locs : List Loc) (ls : Array Slot), fX10_nextOrder_h4 n fu y1 y2 C = some (r0, C0) → lv_has ls 6 [(0, .ref (gA G 0)), (1, .int y1), (2, .int y2)] → va_P (gD G) vwCl (wld G (C, Rm)) H → va_S (lwA G) s.heap H locs → W p l e (rmv 1 23) s m args below meth c H locs 0 0 (MQ below (Qi G PZ r0 (C0, Rm)) args s 0 0 (lwA G)) (F0 m 4 ls []) := by
    intro fu
    induction fu with
    | zero =>
      intro y1 y2 C H locs ls h hl hP hS
      rw [fX10_nextOrder_h4.eq_1] at h
      cases h
    | succ fu ih =>
      intro y1 y2 C H locs ls h hl hP hS
      rw [fX10_nextOrder_h4.eq_2] at h
      refine lv_iload_n hx hb dX10_nextOrder_4 rfl (lv_at hl 2 rfl) ?_
      refine lv_if_lt (tgt := 31) hx hb dX10_nextOrder_5 (by decide) (fun c17 => ?_) (fun c17 => ?_)
      · replace h := it_t c17 h
        exact bl31 y1 y2 C _ _ _ h (lv_sub hl [0, 1, 2] rfl) hP hS
      · replace h := it_f c17 h
        refine lv_aload_n hx hb dX10_nextOrder_8 rfl (lv_at hl 0 rfl) ?_
        refine r_get (v := .ref (gA G 50)) hC inX10 hP (e_0 G _) rfl 11 (by decide) rfl k243 rfl dX10_nextOrder_9 ?_
        refine lv_iload_n hx hb dX10_nextOrder_12 rfl (lv_at hl 2 rfl) ?_
        by_cases c18 : y2 < (0 : Int32) ∨ 5 ≤ Int32.toNatClampNeg y2
        · cases it_t c18 h
        replace h := it_f c18 h
        refine r_iald hC hP (f := C.1 50) (e_50 G _) c18 dX10_nextOrder_13 ?_
        refine lv_aload_n hx hb dX10_nextOrder_14 rfl (lv_at hl 0 rfl) ?_
        refine r_get (v := .ref (gA G 50)) hC inX10 hP (e_0 G _) rfl 11 (by decide) rfl k243 rfl dX10_nextOrder_15 ?_
        refine lv_iload_n hx hb dX10_nextOrder_18 rfl (lv_at hl 2 rfl) ?_
        refine lv_iconst (v := 1) hx hb dX10_nextOrder_19 (by decide) ?_
        refine lv_iadd hx hb dX10_nextOrder_20 ?_
        by_cases c19 : (y2 + 1) < (0 : Int32) ∨ 5 ≤ Int32.toNatClampNeg (y2 + 1)
        · cases it_t c19 h
        replace h := it_f c19 h
        refine r_iald hC hP (f := C.1 50) (e_50 G _) c19 dX10_nextOrder_21 ?_
        refine lv_icmp_le (tgt := 31) hx hb dX10_nextOrder_22 (by decide) (fun c20 => ?_) (fun c20 => ?_)
        · replace h := it_t c20 h
          exact bl31 y1 y2 C _ _ _ h (lv_sub hl [0, 1, 2] rfl) hP hS
        · replace h := it_f c20 h
          obtain ⟨x21, ex21⟩ : ∃ y : Int32, y = y2 + (-1) := ⟨_, rfl⟩
          replace h := lt_y ex21 h
          refine lv_iinc (v := x21) (lv' := [(2, .int x21), (0, .ref (gA G 0)), (1, .int y1)]) hx hb dX10_nextOrder_25 hl (k := 2) rfl (by rw [ex21]; rfl) (by decide) rfl (fun ls hl => ?_)
          refine lv_goto (tgt := 4) hx hb dX10_nextOrder_28 (by decide) ?_
          exact ih y1 x21 C _ _ _ h (lv_sub hl [1, 2, 0] rfl) hP hS
  unfold fX10_nextOrder at h
  refine lv_iload_n hx hb dX10_nextOrder_0 rfl (lv_at hl 1 rfl) ?_
  refine lv_iconst (v := 2) hx hb dX10_nextOrder_1 (by decide) ?_
  refine lv_isub hx hb dX10_nextOrder_2 ?_
  refine lv_topi (fun x22 ex22 => ?_)
  replace h := lt_y ex22 h
  refine lv_istore_n (lv' := [(2, .int x22), (0, .ref (gA G 0)), (1, .int p1)]) hx hb dX10_nextOrder_3 rfl hl (by decide) rfl (fun ls hl => ?_)
  exact bl4 n p1 x22 C _ _ _ h (lv_sub hl [1, 2, 0] rfl) hP hS
set_option maxHeartbeats 4000000 in
set_option maxRecDepth 100000 in
theorem mX10_first (l : Launch) (G : gp) (Rm : Mm) {n : Nat} {p1 : Int32} {p2 : Int32} {C : Mm} {r0 : Int32} {C0 : Mm} (h : fX10_first n p1 p2 C = some (r0, C0)) : Met l yX10_first (wsy yX10_first cX10_first 8 (some .int)) (rmv 7 188) (va_Pc [.ref (gA G 0), .int p1, .int p2] (Rl G (C, Rm))) (Qi G PT r0 (C0, Rm)) 0 0 (lwA G) := by
  refine met_i [.ref (gA G 0), .int p1, .int p2] wX10_first.2.2.2.2.2 (Nat.le_of_ble_eq_true rfl) ?_
  intro p e s m args below meth c ls hC hr hP hl
  have hC : Cx G p s m args meth c cX10_first RX10 8 := hC
  have hx := hC.1
  have hb := hC.2.1
  have hown := hC.2.2.2.1
  have hts := hC.2.2.2.2.1
  have hS : va_S (lwA G) s.heap s.heap [] := va_S.rf
  have hl : lv_has ls 8 [(0, .ref (gA G 0)), (1, .int p1), (2, .int p2)] := hl
  have bl131 : ∀ (y2 : Int32) (y4 : Int32) (y5 : Int32) (C : Mm) (H : Heap) (locs : List Loc) (ls : Array Slot), fX10_first_b131 n y2 y4 y5 C = some (r0, C0) → lv_has ls 8 [(2, .int y2), (4, .int y4), (5, .int y5)] → va_P (gD G) vwCl (wld G (C, Rm)) H → va_S (lwA G) s.heap H locs → W p l e (rmv 7 188) s m args below meth c H locs 0 0 (MQ below (Qi G PT r0 (C0, Rm)) args s 0 0 (lwA G)) (F0 m 131 ls []) := by
    intro y2 y4 y5 C H locs ls h hl hP hS
    unfold fX10_first_b131 at h
    refine lv_iload_n hx hb dX10_first_131 rfl (lv_at hl 0 rfl) ?_
    refine lv_if_ne (tgt := 140) hx hb dX10_first_132 (by decide) (fun c1 => ?_) (fun c1 => ?_)
    · replace h := it_f c1 h
      refine lv_iload hx hb dX10_first_140 (lv_at hl 2 rfl) ?_
      exact re_i' hC hr hP hS (pr_1 h) (congrArg (fun Z : Mm => (Z, Rm)) (pr_2 h)) dX10_first_142
    · replace h := it_t c1 h
      refine lv_iload hx hb dX10_first_135 (lv_at hl 1 rfl) ?_
      refine lv_goto (tgt := 142) hx hb dX10_first_137 (by decide) ?_
      exact re_i' hC hr hP hS (pr_1 h) (congrArg (fun Z : Mm => (Z, Rm)) (pr_2 h)) dX10_first_142
  have bl125 : ∀ (k79 : Int32 → Int32 → Int32 → Int32 → Int32 → Int32 → Mm → Option (Int32 × Mm)) (hk79 : ∀ (y1 : Int32) (y2 : Int32) (y3 : Int32) (y4 : Int32) (y5 : Int32) (y6 : Int32) (C : Mm) (H : Heap) (locs : List Loc) (ls : Array Slot), k79 y1 y2 y3 y4 y5 y6 C = some (r0, C0) → lv_has ls 8 [(0, .ref (gA G 0)), (1, .int y1), (2, .int y2), (3, .int y3), (4, .int y4), (5, .int y5), (6, .int y6)] → va_P (gD G) vwCl (wld G (C, Rm)) H → va_S (lwA G) s.heap H locs → W p l e (rmv 7 188) s m args below meth c H locs 0 0 (MQ below (Qi G PT r0 (C0, Rm)) args s 0 0 (lwA G)) (F0 m 79 ls [])), ∀ (y1 : Int32) (y2 : Int32) (y3 : Int32) (y4 : Int32) (y5 : Int32) (y6 : Int32) (C : Mm) (H : Heap) (locs : List Loc) (ls : Array Slot), fX10_first_b125 n k79 y1 y2 y3 y4 y5 y6 C = some (r0, C0) → lv_has ls 8 [(0, .ref (gA G 0)), (1, .int y1), (2, .int y2), (3, .int y3), (4, .int y4), (5, .int y5), (6, .int y6)] → va_P (gD G) vwCl (wld G (C, Rm)) H → va_S (lwA G) s.heap H locs → W p l e (rmv 7 188) s m args below meth c H locs 0 0 (MQ below (Qi G PT r0 (C0, Rm)) args s 0 0 (lwA G)) (F0 m 125 ls []) := by
    intro k79 hk79 y1 y2 y3 y4 y5 y6 C H locs ls h hl hP hS
    unfold fX10_first_b125 at h
    obtain ⟨x2, ex2⟩ : ∃ y : Int32, y = y6 + 1 := ⟨_, rfl⟩
    replace h := lt_y ex2 h
    refine lv_iinc (v := x2) (lv' := [(6, .int x2), (0, .ref (gA G 0)), (1, .int y1), (2, .int y2), (3, .int y3), (4, .int y4), (5, .int y5)]) hx hb dX10_first_125 hl (k := 6) rfl (by rw [ex2]; rfl) (by decide) rfl (fun ls hl => ?_)
    refine lv_goto (tgt := 79) hx hb dX10_first_128 (by decide) ?_
    exact hk79 y1 y2 y3 y4 y5 x2 C _ _ _ h (lv_sub hl [1, 2, 3, 4, 5, 6, 0] rfl) hP hS
  have bl79 : ∀ (fu : Nat), ∀ (y1 : Int32) (y2 : Int32) (y3 : Int32) (y4 : Int32) (y5 : Int32) (y6 : Int32) (C : Mm) (H : Heap) (locs : List Loc) (ls : Array Slot), fX10_first_h79 n fu y1 y2 y3 y4 y5 y6 C = some (r0, C0) → lv_has ls 8 [(0, .ref (gA G 0)), (1, .int y1), (2, .int y2), (3, .int y3), (4, .int y4), (5, .int y5), (6, .int y6)] → va_P (gD G) vwCl (wld G (C, Rm)) H → va_S (lwA G) s.heap H locs → W p l e (rmv 7 188) s m args below meth c H locs 0 0 (MQ below (Qi G PT r0 (C0, Rm)) args s 0 0 (lwA G)) (F0 m 79 ls []) := by
    intro fu
    induction fu with
    | zero =>
      intro y1 y2 y3 y4 y5 y6 C H locs ls h hl hP hS
      rw [fX10_first_h79.eq_1] at h
      cases h
    | succ fu ih =>
      intro y1 y2 y3 y4 y5 y6 C H locs ls h hl hP hS
      rw [fX10_first_h79.eq_2] at h
      refine lv_iload hx hb dX10_first_79 (lv_at hl 6 rfl) ?_
      refine lv_bipush (v := 120) hx hb dX10_first_81 (by decide) ?_
      refine lv_icmp_ge (tgt := 131) hx hb dX10_first_83 (by decide) (fun c3 => ?_) (fun c3 => ?_)
      · replace h := it_t c3 h
        exact bl131 y2 y4 y5 C _ _ _ h (lv_sub hl [2, 4, 5] rfl) hP hS
      · replace h := it_f c3 h
        refine lv_aload_n hx hb dX10_first_86 rfl (lv_at hl 0 rfl) ?_
        refine lv_iload_n hx hb dX10_first_87 rfl (lv_at hl 3 rfl) ?_
        obtain ⟨r5, C6, hq4, h⟩ := bp_x h
        refine rc_i hS (run_V hC wX10_nextOrder k804 (e_0 G _) rfl hP hS (As := [.int y3]) (rest := []) (mX10_nextOrder l G Rm hq4) rfl hl.1 (Nat.le_of_ble_eq_true rfl) ⟨by decide, by decide⟩ ⟨Nat.le_refl _, Nat.le_refl _⟩ rfl dX10_first_88) (fun H locs pb7 hP hS => ?_)
        refine lv_if_eq (tgt := 131) hx hb dX10_first_91 (by decide) (fun c8 => ?_) (fun c8 => ?_)
        · replace h := it_t c8 h
          exact bl131 y2 y4 y5 C6 _ _ _ h (lv_sub hl [2, 4, 5] rfl) hP hS
        · replace h := it_f c8 h
          refine lv_aload_n hx hb dX10_first_94 rfl (lv_at hl 0 rfl) ?_
          refine lv_aload_n hx hb dX10_first_95 rfl (lv_at hl 0 rfl) ?_
          refine r_get (v := .ref (gA G 3)) hC inX10 hP (e_0 G _) rfl 1 (by decide) rfl k233 rfl dX10_first_96 ?_
          refine lv_iload_n hx hb dX10_first_99 rfl (lv_at hl 1 rfl) ?_
          by_cases c9 : y1 < (0 : Int32) ∨ 6 ≤ Int32.toNatClampNeg y1
          · cases it_t c9 h
          replace h := it_f c9 h
          refine r_hd hC hP c9 dX10_first_100 (fun hj10 => ?_)
          refine lv_iload_n hx hb dX10_first_101 rfl (lv_at hl 3 rfl) ?_
          obtain ⟨r12, C13, hq11, h⟩ := bp_x h
          refine rc_i hS (run_V hC wX10_secondsOfOrder k800 (e_0 G _) rfl hP hS (As := [.ref (gA G (hdc (Int32.toNatClampNeg y1))), .int y3]) (rest := []) (mX10_secondsOfOrder l G Rm (Nat.lt_trans hj10 (by decide)) hq11) rfl hl.1 (Nat.le_of_ble_eq_true rfl) ⟨by decide, by decide⟩ ⟨Nat.le_refl _, Nat.le_refl _⟩ rfl dX10_first_102) (fun H locs pb14 hP hS => ?_)
          refine lv_istore (lv' := [(7, .int r12), (0, .ref (gA G 0)), (1, .int y1), (2, .int y2), (3, .int y3), (4, .int y4), (5, .int y5), (6, .int y6)]) hx hb dX10_first_105 hl (by decide) rfl (fun ls hl => ?_)
          refine lv_iload hx hb dX10_first_107 (lv_at hl 0 rfl) ?_
          refine lv_iload hx hb dX10_first_109 (lv_at hl 6 rfl) ?_
          refine lv_icmp_ge (tgt := 125) hx hb dX10_first_111 (by decide) (fun c15 => ?_) (fun c15 => ?_)
          · replace h := it_t c15 h
            exact bl125 (fX10_first_h79 n fu) ih y1 y2 y3 y4 y5 y6 C13 _ _ _ h (lv_sub hl [1, 2, 3, 4, 5, 6, 7] rfl) hP hS
          · replace h := it_f c15 h
            refine lv_aload_n hx hb dX10_first_114 rfl (lv_at hl 1 rfl) ?_
            refine lv_iload_n hx hb dX10_first_115 rfl (lv_at hl 4 rfl) ?_
            obtain ⟨r17, hq16, h⟩ := bn_x h
            refine rc_i hS (run_V hC wX10_orderAsDigits k796 (e_0 G _) rfl hP hS (As := [.int y3]) (rest := []) (mX10_orderAsDigits l G Rm hq16) rfl hl.1 (Nat.le_of_ble_eq_true rfl) ⟨by decide, by decide⟩ ⟨Nat.le_refl _, Nat.le_refl _⟩ rfl dX10_first_116) (fun H locs pb18 hP hS => ?_)
            refine lv_istore (lv' := [(4, .int r17), (7, .int r12), (0, .ref (gA G 0)), (1, .int y1), (2, .int y2), (3, .int y3), (5, .int y5), (6, .int y6)]) hx hb dX10_first_119 hl (by decide) rfl (fun ls hl => ?_)
            refine lv_iload hx hb dX10_first_121 (lv_at hl 1 rfl) ?_
            refine lv_istore (lv' := [(5, .int r12), (4, .int r17), (7, .int r12), (0, .ref (gA G 0)), (1, .int y1), (2, .int y2), (3, .int y3), (6, .int y6)]) hx hb dX10_first_123 hl (by decide) rfl (fun ls hl => ?_)
            exact bl125 (fX10_first_h79 n fu) ih y1 y2 y3 r17 r12 y6 C13 _ _ _ h (lv_sub hl [3, 4, 5, 6, 1, 0, 7] rfl) hP hS
  unfold fX10_first at h
  refine lv_aload_n hx hb dX10_first_0 rfl (lv_at hl 0 rfl) ?_
  refine lv_iload_n hx hb dX10_first_1 rfl (lv_at hl 1 rfl) ?_
  refine rc_i hS (run_V hC wX10_isHead k336 (e_0 G _) rfl hP hS (As := [.int p1]) (rest := []) (mX10_isHead l G Rm rfl) rfl hl.1 (Nat.le_of_ble_eq_true rfl) ⟨by decide, by decide⟩ ⟨Nat.le_refl _, Nat.le_refl _⟩ rfl dX10_first_2) (fun H locs pb20 hP hS => ?_)
  refine lv_if_eq (tgt := 24) hx hb dX10_first_5 (by decide) (fun c21 => ?_) (fun c21 => ?_)
  · replace h := it_t c21 h
    refine lv_iconst (v := (-1)) hx hb dX10_first_24 (by decide) ?_
    exact re_i' hC hr hP hS (pr_1 h) (congrArg (fun Z : Mm => (Z, Rm)) (pr_2 h)) dX10_first_25
  · replace h := it_f c21 h
    refine lv_iload_n hx hb dX10_first_8 rfl (lv_at hl 2 rfl) ?_
    refine lv_if_lt (tgt := 24) hx hb dX10_first_9 (by decide) (fun c22 => ?_) (fun c22 => ?_)
    · replace h := it_t c22 h
      refine lv_iconst (v := (-1)) hx hb dX10_first_24 (by decide) ?_
      exact re_i' hC hr hP hS (pr_1 h) (congrArg (fun Z : Mm => (Z, Rm)) (pr_2 h)) dX10_first_25
    · replace h := it_f c22 h
      refine lv_iload_n hx hb dX10_first_12 rfl (lv_at hl 2 rfl) ?_
      refine lv_iconst (v := 1) hx hb dX10_first_13 (by decide) ?_
      refine lv_icmp_gt (tgt := 24) hx hb dX10_first_14 (by decide) (fun c23 => ?_) (fun c23 => ?_)
      · replace h := it_t c23 h
        refine lv_iconst (v := (-1)) hx hb dX10_first_24 (by decide) ?_
        exact re_i' hC hr hP hS (pr_1 h) (congrArg (fun Z : Mm => (Z, Rm)) (pr_2 h)) dX10_first_25
      · replace h := it_f c23 h
        refine lv_aload_n hx hb dX10_first_17 rfl (lv_at hl 0 rfl) ?_
        obtain ⟨r25, hq24, h⟩ := bn_x h
        refine rc_i hS (run_V hC wX10_allToldCanBeTaught k783 (e_0 G _) rfl hP hS (As := []) (rest := []) (mX10_allToldCanBeTaught l G Rm hq24) rfl hl.1 (Nat.le_of_ble_eq_true rfl) ⟨by decide, by decide⟩ ⟨Nat.le_refl _, Nat.le_refl _⟩ rfl dX10_first_18) (fun H locs pb26 hP hS => ?_)
        refine lv_if_ne (tgt := 26) hx hb dX10_first_21 (by decide) (fun c27 => ?_) (fun c27 => ?_)
        · replace h := it_f c27 h
          refine lv_aload_n hx hb dX10_first_26 rfl (lv_at hl 0 rfl) ?_
          refine r_get (v := .int (C.1 0 8)) hC inX10 hP (e_0 G _) rfl 8 (by decide) rfl k240 rfl dX10_first_27 ?_
          refine lv_if_ne (tgt := 36) hx hb dX10_first_30 (by decide) (fun c28 => ?_) (fun c28 => ?_)
          · replace h := it_f c28 h
            refine lv_aload_n hx hb dX10_first_36 rfl (lv_at hl 0 rfl) ?_
            refine r_get (v := .int (C.1 0 8)) hC inX10 hP (e_0 G _) rfl 8 (by decide) rfl k240 rfl dX10_first_37 ?_
            refine lv_iconst (v := 5) hx hb dX10_first_40 (by decide) ?_
            refine r_min hC (rest := []) k766 k482 k13 k483 hl.1 (by decide) (Nat.le_of_ble_eq_true rfl) (Nat.le_refl _) (Nat.le_refl _) dX10_first_41 ?_
            refine lv_topi (fun x29 ex29 => ?_)
            replace h := lt_y ex29 h
            refine lv_istore_n (lv' := [(3, .int x29), (0, .ref (gA G 0)), (1, .int p1), (2, .int p2)]) hx hb dX10_first_44 rfl hl (by decide) rfl (fun ls hl => ?_)
            refine lv_aload_n hx hb dX10_first_45 rfl (lv_at hl 1 rfl) ?_
            refine lv_aload_n hx hb dX10_first_46 rfl (lv_at hl 1 rfl) ?_
            refine r_get (v := .ref (gA G 3)) hC inX10 hP (e_0 G _) rfl 1 (by decide) rfl k233 rfl dX10_first_47 ?_
            refine lv_iload_n hx hb dX10_first_50 rfl (lv_at hl 2 rfl) ?_
            by_cases c30 : p1 < (0 : Int32) ∨ 6 ≤ Int32.toNatClampNeg p1
            · cases it_t c30 h
            replace h := it_f c30 h
            refine r_hd hC hP c30 dX10_first_51 (fun hj31 => ?_)
            refine lv_iload_n hx hb dX10_first_52 rfl (lv_at hl 0 rfl) ?_
            obtain ⟨C33, hq32, h⟩ := bn_x h
            refine rc_v hS (run_V hC wX10_prepareOrders k792 (e_0 G _) rfl hP hS (As := [.ref (gA G (hdc (Int32.toNatClampNeg p1))), .int x29]) (rest := []) (mX10_prepareOrders l G Rm (Nat.lt_trans hj31 (by decide)) hq32) rfl hl.1 (Nat.le_of_ble_eq_true rfl) ⟨by decide, by decide⟩ ⟨Nat.le_refl _, Nat.le_refl _⟩ rfl dX10_first_53) (fun H locs hP hS => ?_)
            refine lv_aload_n hx hb dX10_first_56 rfl (lv_at hl 1 rfl) ?_
            refine lv_iload_n hx hb dX10_first_57 rfl (lv_at hl 0 rfl) ?_
            obtain ⟨r35, hq34, h⟩ := bn_x h
            refine rc_i hS (run_V hC wX10_orderAsDigits k796 (e_0 G _) rfl hP hS (As := [.int x29]) (rest := []) (mX10_orderAsDigits l G Rm hq34) rfl hl.1 (Nat.le_of_ble_eq_true rfl) ⟨by decide, by decide⟩ ⟨Nat.le_refl _, Nat.le_refl _⟩ rfl dX10_first_58) (fun H locs pb36 hP hS => ?_)
            refine lv_istore (lv' := [(4, .int r35), (3, .int x29), (0, .ref (gA G 0)), (1, .int p1), (2, .int p2)]) hx hb dX10_first_61 hl (by decide) rfl (fun ls hl => ?_)
            refine lv_aload_n hx hb dX10_first_63 rfl (lv_at hl 2 rfl) ?_
            refine lv_aload_n hx hb dX10_first_64 rfl (lv_at hl 2 rfl) ?_
            refine r_get (v := .ref (gA G 3)) hC inX10 hP (e_0 G _) rfl 1 (by decide) rfl k233 rfl dX10_first_65 ?_
            refine lv_iload_n hx hb dX10_first_68 rfl (lv_at hl 3 rfl) ?_
            by_cases c37 : p1 < (0 : Int32) ∨ 6 ≤ Int32.toNatClampNeg p1
            · cases it_t c37 h
            replace h := it_f c37 h
            refine r_hd hC hP c37 dX10_first_69 (fun hj38 => ?_)
            refine lv_iload_n hx hb dX10_first_70 rfl (lv_at hl 1 rfl) ?_
            obtain ⟨r40, C41, hq39, h⟩ := bp_x h
            refine rc_i hS (run_V hC wX10_secondsOfOrder k800 (e_0 G _) rfl hP hS (As := [.ref (gA G (hdc (Int32.toNatClampNeg p1))), .int x29]) (rest := []) (mX10_secondsOfOrder l G Rm (Nat.lt_trans hj38 (by decide)) hq39) rfl hl.1 (Nat.le_of_ble_eq_true rfl) ⟨by decide, by decide⟩ ⟨Nat.le_refl _, Nat.le_refl _⟩ rfl dX10_first_71) (fun H locs pb42 hP hS => ?_)
            refine lv_istore (lv' := [(5, .int r40), (4, .int r35), (3, .int x29), (0, .ref (gA G 0)), (1, .int p1), (2, .int p2)]) hx hb dX10_first_74 hl (by decide) rfl (fun ls hl => ?_)
            refine lv_iconst (v := 0) hx hb dX10_first_76 (by decide) ?_
            refine lv_istore (lv' := [(6, .int 0), (5, .int r40), (4, .int r35), (3, .int x29), (0, .ref (gA G 0)), (1, .int p1), (2, .int p2)]) hx hb dX10_first_77 hl (by decide) rfl (fun ls hl => ?_)
            exact bl79 n p1 p2 x29 r35 r40 0 C41 _ _ _ h (lv_sub hl [4, 5, 6, 3, 2, 1, 0] rfl) hP hS
          · replace h := it_t c28 h
            refine lv_bipush (v := (-5)) hx hb dX10_first_33 (by decide) ?_
            exact re_i' hC hr hP hS (pr_1 h) (congrArg (fun Z : Mm => (Z, Rm)) (pr_2 h)) dX10_first_35
        · replace h := it_t c27 h
          refine lv_iconst (v := (-1)) hx hb dX10_first_24 (by decide) ?_
          exact re_i' hC hr hP hS (pr_1 h) (congrArg (fun Z : Mm => (Z, Rm)) (pr_2 h)) dX10_first_25
set_option maxHeartbeats 4000000 in
set_option maxRecDepth 100000 in
theorem mX10_root (l : Launch) (G : gp) (Rm : Mm) {n : Nat} {p1 : Int64} {p3 : Int32} {C : Mm} {r0 : Int32} (h : fX10_root n p1 p3 = some r0) : Met l yX10_root (wsy yX10_root cX10_root 4 (some .int)) (rmv 3 78) (va_Pc [.ref (gA G 0), .long p1, .int p3] (Rl G (C, Rm))) (Qi G PT r0 (C, Rm)) 0 0 (lwA G) := by
  refine met_i [.ref (gA G 0), .long p1, .int p3] wX10_root.2.2.2.2.2 (Nat.le_of_ble_eq_true rfl) ?_
  intro p e s m args below meth c ls hC hr hP hl
  have hC : Cx G p s m args meth c cX10_root RX10 4 := hC
  have hx := hC.1
  have hb := hC.2.1
  have hown := hC.2.2.2.1
  have hts := hC.2.2.2.2.1
  have hS : va_S (lwA G) s.heap s.heap [] := va_S.rf
  have hl : lv_has ls 4 [(0, .ref (gA G 0)), (1, .long p1), (3, .int p3)] := hl
  unfold fX10_root at h
  refine lv_lload_n hx hb dX10_root_0 rfl (lv_at hl 1 rfl) ?_
  refine rc_i hS (run_S hC wX6_isNumber k816 hP hS (As := [.long p1]) (rest := []) (mX6_isNumber l G Rm rfl) rfl hl.1 (Nat.le_of_ble_eq_true rfl) ⟨by decide, by decide⟩ ⟨Nat.le_refl _, Nat.le_refl _⟩ rfl dX10_root_1) (fun H locs pb2 hP hS => ?_)
  refine lv_if_eq (tgt := 14) hx hb dX10_root_4 (by decide) (fun c3 => ?_) (fun c3 => ?_)
  · replace h := it_t c3 h
    refine lv_iconst (v := (-1)) hx hb dX10_root_14 (by decide) ?_
    exact re_i' hC hr hP hS (Option.some.inj h) rfl dX10_root_15
  · replace h := it_f c3 h
    refine lv_iload_n hx hb dX10_root_7 rfl (lv_at hl 2 rfl) ?_
    refine rc_i hS (run_S hC wX6_isPower k820 hP hS (As := [.int p3]) (rest := []) (mX6_isPower l G Rm rfl) rfl hl.1 (Nat.le_of_ble_eq_true rfl) ⟨by decide, by decide⟩ ⟨Nat.le_refl _, Nat.le_refl _⟩ rfl dX10_root_8) (fun H locs pb5 hP hS => ?_)
    refine lv_if_ne (tgt := 16) hx hb dX10_root_11 (by decide) (fun c6 => ?_) (fun c6 => ?_)
    · replace h := it_f c6 h
      refine lv_lload_n hx hb dX10_root_16 rfl (lv_at hl 1 rfl) ?_
      refine lv_iload_n hx hb dX10_root_17 rfl (lv_at hl 2 rfl) ?_
      obtain ⟨r8, hq7, h⟩ := bn_x h
      refine rc_l hS (run_S hC wX6_whole k823 hP hS (As := [.long p1, .int p3]) (rest := []) (mX6_whole l G Rm hq7) rfl hl.1 (Nat.le_of_ble_eq_true rfl) ⟨by decide, by decide⟩ ⟨Nat.le_refl _, Nat.le_refl _⟩ rfl dX10_root_18) (fun H locs hP hS => ?_)
      refine lv_l2i hx hb dX10_root_21 rfl ?_
      exact re_i' hC hr hP hS (Option.some.inj h) rfl dX10_root_22
    · replace h := it_t c6 h
      refine lv_iconst (v := (-1)) hx hb dX10_root_14 (by decide) ?_
      exact re_i' hC hr hP hS (Option.some.inj h) rfl dX10_root_15
set_option maxHeartbeats 4000000 in
set_option maxRecDepth 100000 in
theorem mX10_firsts (l : Launch) (G : gp) (Rm : Mm) {n : Nat} {p1 : Int64} {p3 : Int32} {p4 : Int32} {C : Mm} {r0 : Int32} (h : fX10_firsts n p1 p3 p4 = some r0) : Met l yX10_firsts (wsy yX10_firsts cX10_firsts 7 (some .int)) (rmv 5 122) (va_Pc [.ref (gA G 0), .long p1, .int p3, .int p4] (Rl G (C, Rm))) (Qi G PT r0 (C, Rm)) 0 0 (lwA G) := by
  refine met_i [.ref (gA G 0), .long p1, .int p3, .int p4] wX10_firsts.2.2.2.2.2 (Nat.le_of_ble_eq_true rfl) ?_
  intro p e s m args below meth c ls hC hr hP hl
  have hC : Cx G p s m args meth c cX10_firsts RX10 7 := hC
  have hx := hC.1
  have hb := hC.2.1
  have hown := hC.2.2.2.1
  have hts := hC.2.2.2.2.1
  have hS : va_S (lwA G) s.heap s.heap [] := va_S.rf
  have hl : lv_has ls 7 [(0, .ref (gA G 0)), (1, .long p1), (3, .int p3), (4, .int p4)] := hl
  unfold fX10_firsts at h
  refine lv_iload_n hx hb dX10_firsts_0 rfl (lv_at hl 2 rfl) ?_
  refine lv_bipush (v := 100) hx hb dX10_firsts_1 (by decide) ?_
  refine lv_idiv hx hb dX10_firsts_3 (by decide) ?_
  refine lv_topi (fun x1 ex1 => ?_)
  replace h := lt_y ex1 h
  refine lv_istore (lv' := [(5, .int x1), (0, .ref (gA G 0)), (1, .long p1), (3, .int p3), (4, .int p4)]) hx hb dX10_firsts_4 hl (by decide) rfl (fun ls hl => ?_)
  refine lv_iload_n hx hb dX10_firsts_6 rfl (lv_at hl 3 rfl) ?_
  refine lv_bipush (v := 100) hx hb dX10_firsts_7 (by decide) ?_
  refine r_irem hx hb dX10_firsts_9 (by decide) ?_
  refine lv_topi (fun x2 ex2 => ?_)
  replace h := lt_y ex2 h
  refine lv_istore (lv' := [(6, .int x2), (5, .int x1), (0, .ref (gA G 0)), (1, .long p1), (3, .int p3), (4, .int p4)]) hx hb dX10_firsts_10 hl (by decide) rfl (fun ls hl => ?_)
  refine lv_lload_n hx hb dX10_firsts_12 rfl (lv_at hl 3 rfl) ?_
  refine rc_i hS (run_S hC wX6_isNumber k816 hP hS (As := [.long p1]) (rest := []) (mX6_isNumber l G Rm rfl) rfl hl.1 (Nat.le_of_ble_eq_true rfl) ⟨by decide, by decide⟩ ⟨Nat.le_refl _, Nat.le_refl _⟩ rfl dX10_firsts_13) (fun H locs pb4 hP hS => ?_)
  refine lv_if_eq (tgt := 42) hx hb dX10_firsts_16 (by decide) (fun c5 => ?_) (fun c5 => ?_)
  · replace h := it_t c5 h
    refine lv_iconst (v := (-1)) hx hb dX10_firsts_42 (by decide) ?_
    exact re_i' hC hr hP hS (Option.some.inj h) rfl dX10_firsts_43
  · replace h := it_f c5 h
    refine lv_iload hx hb dX10_firsts_19 (lv_at hl 1 rfl) ?_
    refine rc_i hS (run_S hC wX6_isPower k820 hP hS (As := [.int x1]) (rest := []) (mX6_isPower l G Rm rfl) rfl hl.1 (Nat.le_of_ble_eq_true rfl) ⟨by decide, by decide⟩ ⟨Nat.le_refl _, Nat.le_refl _⟩ rfl dX10_firsts_21) (fun H locs pb7 hP hS => ?_)
    refine lv_if_eq (tgt := 42) hx hb dX10_firsts_24 (by decide) (fun c8 => ?_) (fun c8 => ?_)
    · replace h := it_t c8 h
      refine lv_iconst (v := (-1)) hx hb dX10_firsts_42 (by decide) ?_
      exact re_i' hC hr hP hS (Option.some.inj h) rfl dX10_firsts_43
    · replace h := it_f c8 h
      refine lv_iload hx hb dX10_firsts_27 (lv_at hl 0 rfl) ?_
      refine lv_iconst (v := 1) hx hb dX10_firsts_29 (by decide) ?_
      refine lv_icmp_lt (tgt := 42) hx hb dX10_firsts_30 (by decide) (fun c9 => ?_) (fun c9 => ?_)
      · replace h := it_t c9 h
        refine lv_iconst (v := (-1)) hx hb dX10_firsts_42 (by decide) ?_
        exact re_i' hC hr hP hS (Option.some.inj h) rfl dX10_firsts_43
      · replace h := it_f c9 h
        refine lv_iload hx hb dX10_firsts_33 (lv_at hl 0 rfl) ?_
        refine lv_lload_n hx hb dX10_firsts_35 rfl (lv_at hl 3 rfl) ?_
        obtain ⟨r11, hq10, h⟩ := bn_x h
        refine rc_i hS (run_S hC wX4_sizeOf k843 hP hS (As := [.long p1]) (rest := [.int x2]) (mX4_sizeOf l G Rm hq10) rfl hl.1 (Nat.le_of_ble_eq_true rfl) ⟨by decide, by decide⟩ ⟨Nat.le_refl _, Nat.le_refl _⟩ rfl dX10_firsts_36) (fun H locs pb12 hP hS => ?_)
        refine lv_icmp_le (tgt := 44) hx hb dX10_firsts_39 (by decide) (fun c13 => ?_) (fun c13 => ?_)
        · replace h := it_t c13 h
          refine lv_iload hx hb dX10_firsts_44 (lv_at hl 5 rfl) ?_
          refine lv_if_ne (tgt := 59) hx hb dX10_firsts_46 (by decide) (fun c14 => ?_) (fun c14 => ?_)
          · replace h := it_f c14 h
            refine lv_iload hx hb dX10_firsts_59 (lv_at hl 5 rfl) ?_
            refine lv_iconst (v := 1) hx hb dX10_firsts_61 (by decide) ?_
            refine lv_icmp_ne (tgt := 77) hx hb dX10_firsts_62 (by decide) (fun c15 => ?_) (fun c15 => ?_)
            · replace h := it_f c15 h
              refine lv_iconst (v := (-1)) hx hb dX10_firsts_77 (by decide) ?_
              exact re_i' hC hr hP hS (Option.some.inj h) rfl dX10_firsts_78
            · replace h := it_t c15 h
              refine lv_lload_n hx hb dX10_firsts_65 rfl (lv_at hl 3 rfl) ?_
              refine lv_iload hx hb dX10_firsts_66 (lv_at hl 1 rfl) ?_
              refine lv_iload hx hb dX10_firsts_68 (lv_at hl 0 rfl) ?_
              obtain ⟨r17, hq16, h⟩ := bn_x h
              refine rc_l hS (run_S hC wX6_least k867 hP hS (As := [.long p1, .int x1, .int x2]) (rest := []) (mX6_least l G Rm hq16) rfl hl.1 (Nat.le_of_ble_eq_true rfl) ⟨by decide, by decide⟩ ⟨Nat.le_refl _, Nat.le_refl _⟩ rfl dX10_firsts_70) (fun H locs hP hS => ?_)
              refine lv_l2i hx hb dX10_firsts_73 rfl ?_
              refine lv_goto (tgt := 78) hx hb dX10_firsts_74 (by decide) ?_
              exact re_i' hC hr hP hS (Option.some.inj h) rfl dX10_firsts_78
          · replace h := it_t c14 h
            refine lv_lload_n hx hb dX10_firsts_49 rfl (lv_at hl 3 rfl) ?_
            refine lv_iload hx hb dX10_firsts_50 (lv_at hl 1 rfl) ?_
            refine lv_iload hx hb dX10_firsts_52 (lv_at hl 0 rfl) ?_
            obtain ⟨r19, hq18, h⟩ := bn_x h
            refine rc_l hS (run_S hC wX6_howMany k844 hP hS (As := [.long p1, .int x1, .int x2]) (rest := []) (mX6_howMany l G Rm hq18) rfl hl.1 (Nat.le_of_ble_eq_true rfl) ⟨by decide, by decide⟩ ⟨Nat.le_refl _, Nat.le_refl _⟩ rfl dX10_firsts_54) (fun H locs hP hS => ?_)
            refine lv_l2i hx hb dX10_firsts_57 rfl ?_
            exact re_i' hC hr hP hS (Option.some.inj h) rfl dX10_firsts_58
        · replace h := it_f c13 h
          refine lv_iconst (v := (-1)) hx hb dX10_firsts_42 (by decide) ?_
          exact re_i' hC hr hP hS (Option.some.inj h) rfl dX10_firsts_43
set_option maxHeartbeats 4000000 in
set_option maxRecDepth 100000 in
theorem mX10_enough (l : Launch) (G : gp) (Rm : Mm) {n : Nat} {p1 : Int64} {p3 : Int32} {C : Mm} {r0 : Int32} (h : fX10_enough n p1 p3 = some r0) : Met l yX10_enough (wsy yX10_enough cX10_enough 6 (some .int)) (rmv 5 122) (va_Pc [.ref (gA G 0), .long p1, .int p3] (Rl G (C, Rm))) (Qi G PT r0 (C, Rm)) 0 0 (lwA G) := by
  refine met_i [.ref (gA G 0), .long p1, .int p3] wX10_enough.2.2.2.2.2 (Nat.le_of_ble_eq_true rfl) ?_
  intro p e s m args below meth c ls hC hr hP hl
  have hC : Cx G p s m args meth c cX10_enough RX10 6 := hC
  have hx := hC.1
  have hb := hC.2.1
  have hown := hC.2.2.2.1
  have hts := hC.2.2.2.2.1
  have hS : va_S (lwA G) s.heap s.heap [] := va_S.rf
  have hl : lv_has ls 6 [(0, .ref (gA G 0)), (1, .long p1), (3, .int p3)] := hl
  have bl38 : ∀ (fu : Nat), ∀ (y1 : Int64) (y3 : Int32) (y4 : Int32) (y5 : Int32) (C : Mm) (H : Heap) (locs : List Loc) (ls : Array Slot), fX10_enough_h38 n fu y1 y3 y4 y5 = some r0 → lv_has ls 6 [(1, .long y1), (3, .int y3), (4, .int y4), (5, .int y5)] → va_P (gD G) vwCl (wld G (C, Rm)) H → va_S (lwA G) s.heap H locs → W p l e (rmv 5 122) s m args below meth c H locs 0 0 (MQ below (Qi G PT r0 (C, Rm)) args s 0 0 (lwA G)) (F0 m 38 ls []) := by
    intro fu
    induction fu with
    | zero =>
      intro y1 y3 y4 y5 C H locs ls h hl hP hS
      rw [fX10_enough_h38.eq_1] at h
      cases h
    | succ fu ih =>
      intro y1 y3 y4 y5 C H locs ls h hl hP hS
      rw [fX10_enough_h38.eq_2] at h
      refine lv_iload hx hb dX10_enough_38 (lv_at hl 3 rfl) ?_
      refine lv_iload hx hb dX10_enough_40 (lv_at hl 2 rfl) ?_
      refine lv_icmp_ge (tgt := 66) hx hb dX10_enough_42 (by decide) (fun c1 => ?_) (fun c1 => ?_)
      · replace h := it_t c1 h
        refine lv_iload hx hb dX10_enough_66 (lv_at hl 2 rfl) ?_
        exact re_i' hC hr hP hS (Option.some.inj h) rfl dX10_enough_68
      · replace h := it_f c1 h
        refine lv_lload_n hx hb dX10_enough_45 rfl (lv_at hl 0 rfl) ?_
        refine lv_iload_n hx hb dX10_enough_46 rfl (lv_at hl 1 rfl) ?_
        refine lv_iload hx hb dX10_enough_47 (lv_at hl 3 rfl) ?_
        obtain ⟨r3, hq2, h⟩ := bn_x h
        refine rc_l hS (run_S hC wX6_howMany k844 hP hS (As := [.long y1, .int y3, .int y5]) (rest := []) (mX6_howMany l G Rm hq2) rfl hl.1 (Nat.le_of_ble_eq_true rfl) ⟨by decide, by decide⟩ ⟨Nat.le_refl _, Nat.le_refl _⟩ rfl dX10_enough_49) (fun H locs hP hS => ?_)
        refine lv_lconst (v := 1) hx hb dX10_enough_52 (by decide) ?_
        refine W.lcmp hx hb dX10_enough_53 ?_
        refine lv_if_ne (tgt := 60) hx hb dX10_enough_54 (by decide) (fun c4 => ?_) (fun c4 => ?_)
        · replace h := it_f c4 h
          obtain ⟨x5, ex5⟩ : ∃ y : Int32, y = y5 + 1 := ⟨_, rfl⟩
          replace h := lt_y ex5 h
          refine lv_iinc (v := x5) (lv' := [(5, .int x5), (1, .long y1), (3, .int y3), (4, .int y4)]) hx hb dX10_enough_60 hl (k := 3) rfl (by rw [ex5]; rfl) (by decide) rfl (fun ls hl => ?_)
          refine lv_goto (tgt := 38) hx hb dX10_enough_63 (by decide) ?_
          exact ih y1 y3 y4 x5 _ _ _ _ h (lv_sub hl [1, 2, 3, 0] rfl) hP hS
        · replace h := it_t c4 h
          refine lv_iload hx hb dX10_enough_57 (lv_at hl 3 rfl) ?_
          exact re_i' hC hr hP hS (Option.some.inj h) rfl dX10_enough_59
  unfold fX10_enough at h
  refine lv_lload_n hx hb dX10_enough_0 rfl (lv_at hl 1 rfl) ?_
  refine rc_i hS (run_S hC wX6_isNumber k816 hP hS (As := [.long p1]) (rest := []) (mX6_isNumber l G Rm rfl) rfl hl.1 (Nat.le_of_ble_eq_true rfl) ⟨by decide, by decide⟩ ⟨Nat.le_refl _, Nat.le_refl _⟩ rfl dX10_enough_1) (fun H locs pb7 hP hS => ?_)
  refine lv_if_eq (tgt := 14) hx hb dX10_enough_4 (by decide) (fun c8 => ?_) (fun c8 => ?_)
  · replace h := it_t c8 h
    refine lv_iconst (v := (-1)) hx hb dX10_enough_14 (by decide) ?_
    exact re_i' hC hr hP hS (Option.some.inj h) rfl dX10_enough_15
  · replace h := it_f c8 h
    refine lv_iload_n hx hb dX10_enough_7 rfl (lv_at hl 2 rfl) ?_
    refine rc_i hS (run_S hC wX6_isPower k820 hP hS (As := [.int p3]) (rest := []) (mX6_isPower l G Rm rfl) rfl hl.1 (Nat.le_of_ble_eq_true rfl) ⟨by decide, by decide⟩ ⟨Nat.le_refl _, Nat.le_refl _⟩ rfl dX10_enough_8) (fun H locs pb10 hP hS => ?_)
    refine lv_if_ne (tgt := 16) hx hb dX10_enough_11 (by decide) (fun c11 => ?_) (fun c11 => ?_)
    · replace h := it_f c11 h
      refine lv_lload_n hx hb dX10_enough_16 rfl (lv_at hl 1 rfl) ?_
      refine lv_iload_n hx hb dX10_enough_17 rfl (lv_at hl 2 rfl) ?_
      obtain ⟨r13, hq12, h⟩ := bn_x h
      refine rc_l hS (run_S hC wX6_whole k823 hP hS (As := [.long p1, .int p3]) (rest := []) (mX6_whole l G Rm hq12) rfl hl.1 (Nat.le_of_ble_eq_true rfl) ⟨by decide, by decide⟩ ⟨Nat.le_refl _, Nat.le_refl _⟩ rfl dX10_enough_18) (fun H locs hP hS => ?_)
      refine lv_lconst (v := 0) hx hb dX10_enough_21 (by decide) ?_
      refine W.lcmp hx hb dX10_enough_22 ?_
      refine lv_if_ne (tgt := 29) hx hb dX10_enough_23 (by decide) (fun c14 => ?_) (fun c14 => ?_)
      · replace h := it_f c14 h
        refine lv_lload_n hx hb dX10_enough_29 rfl (lv_at hl 1 rfl) ?_
        obtain ⟨r16, hq15, h⟩ := bn_x h
        refine rc_i hS (run_S hC wX4_sizeOf k843 hP hS (As := [.long p1]) (rest := []) (mX4_sizeOf l G Rm hq15) rfl hl.1 (Nat.le_of_ble_eq_true rfl) ⟨by decide, by decide⟩ ⟨Nat.le_refl _, Nat.le_refl _⟩ rfl dX10_enough_30) (fun H locs pb17 hP hS => ?_)
        refine lv_istore (lv' := [(4, .int r16), (0, .ref (gA G 0)), (1, .long p1), (3, .int p3)]) hx hb dX10_enough_33 hl (by decide) rfl (fun ls hl => ?_)
        refine lv_iconst (v := 1) hx hb dX10_enough_35 (by decide) ?_
        refine lv_istore (lv' := [(5, .int 1), (4, .int r16), (0, .ref (gA G 0)), (1, .long p1), (3, .int p3)]) hx hb dX10_enough_36 hl (by decide) rfl (fun ls hl => ?_)
        exact bl38 n p1 p3 r16 1 _ _ _ _ h (lv_sub hl [3, 4, 1, 0] rfl) hP hS
      · replace h := it_t c14 h
        refine lv_bipush (v := (-2)) hx hb dX10_enough_26 (by decide) ?_
        exact re_i' hC hr hP hS (Option.some.inj h) rfl dX10_enough_28
    · replace h := it_t c11 h
      refine lv_iconst (v := (-1)) hx hb dX10_enough_14 (by decide) ?_
      exact re_i' hC hr hP hS (Option.some.inj h) rfl dX10_enough_15
set_option maxHeartbeats 4000000 in
set_option maxRecDepth 100000 in
theorem mX10_undo (l : Launch) (G : gp) (Rm : Mm) {C : Mm} {r0 : Int32} {C0 : Mm} (h : fX10_undo C = some (r0, C0)) : Met l yX10_undo (wsy yX10_undo cX10_undo 1 (some .int)) (rmv 3 66) (va_Pc [.ref (gA G 0)] (Rl G (C, Rm))) (Qi G PT r0 (C0, Rm)) 0 0 (lwA G) := by
  refine met_i [.ref (gA G 0)] wX10_undo.2.2.2.2.2 (Nat.le_of_ble_eq_true rfl) ?_
  intro p e s m args below meth c ls hC hr hP hl
  have hC : Cx G p s m args meth c cX10_undo RX10 1 := hC
  have hx := hC.1
  have hb := hC.2.1
  have hown := hC.2.2.2.1
  have hts := hC.2.2.2.2.1
  have hS : va_S (lwA G) s.heap s.heap [] := va_S.rf
  have hl : lv_has ls 1 [(0, .ref (gA G 0))] := hl
  unfold fX10_undo at h
  refine lv_aload_n hx hb dX10_undo_0 rfl (lv_at hl 0 rfl) ?_
  refine r_get (v := .ref (gA G 51)) hC inX10 hP (e_0 G _) rfl 12 (by decide) rfl k244 rfl dX10_undo_1 ?_
  refine rc_i hS (run_V hC wX2_undoable k878 (e_51 G _) rfl hP hS (As := []) (rest := []) (mX2_undoable l G Rm rfl) rfl hl.1 (Nat.le_of_ble_eq_true rfl) ⟨by decide, by decide⟩ ⟨Nat.le_refl _, Nat.le_refl _⟩ rfl dX10_undo_4) (fun H locs pb2 hP hS => ?_)
  refine lv_if_ne (tgt := 13) hx hb dX10_undo_7 (by decide) (fun c3 => ?_) (fun c3 => ?_)
  · replace h := it_f c3 h
    refine lv_aload_n hx hb dX10_undo_13 rfl (lv_at hl 0 rfl) ?_
    refine r_get (v := .ref (gA G 51)) hC inX10 hP (e_0 G _) rfl 12 (by decide) rfl k244 rfl dX10_undo_14 ?_
    refine lv_aload_n hx hb dX10_undo_17 rfl (lv_at hl 0 rfl) ?_
    refine r_get (v := .ref (gA G 3)) hC inX10 hP (e_0 G _) rfl 1 (by decide) rfl k233 rfl dX10_undo_18 ?_
    obtain ⟨C5, hq4, h⟩ := bn_x h
    refine rc_v hS (run_V hC wX2_stepBack k882 (e_51 G _) rfl hP hS (As := [.ref (gA G 3)]) (rest := []) (mX2_stepBack l G Rm hq4) rfl hl.1 (Nat.le_of_ble_eq_true rfl) ⟨by decide, by decide⟩ ⟨Nat.le_refl _, Nat.le_refl _⟩ rfl dX10_undo_21) (fun H locs hP hS => ?_)
    refine lv_aload_n hx hb dX10_undo_24 rfl (lv_at hl 0 rfl) ?_
    refine r_get (v := .ref (gA G 51)) hC inX10 hP (e_0 G _) rfl 12 (by decide) rfl k244 rfl dX10_undo_25 ?_
    refine rc_i hS (run_V hC wX2_undoable k878 (e_51 G _) rfl hP hS (As := []) (rest := []) (mX2_undoable l G Rm rfl) rfl hl.1 (Nat.le_of_ble_eq_true rfl) ⟨by decide, by decide⟩ ⟨Nat.le_refl _, Nat.le_refl _⟩ rfl dX10_undo_28) (fun H locs pb7 hP hS => ?_)
    exact re_i' hC hr hP hS (pr_1 h) (congrArg (fun Z : Mm => (Z, Rm)) (pr_2 h)) dX10_undo_31
  · replace h := it_t c3 h
    refine lv_bipush (v := (-5)) hx hb dX10_undo_10 (by decide) ?_
    exact re_i' hC hr hP hS (pr_1 h) (congrArg (fun Z : Mm => (Z, Rm)) (pr_2 h)) dX10_undo_12
set_option maxHeartbeats 4000000 in
set_option maxRecDepth 100000 in
theorem mX10_redo (l : Launch) (G : gp) (Rm : Mm) {C : Mm} {r0 : Int32} {C0 : Mm} (h : fX10_redo C = some (r0, C0)) : Met l yX10_redo (wsy yX10_redo cX10_redo 1 (some .int)) (rmv 3 66) (va_Pc [.ref (gA G 0)] (Rl G (C, Rm))) (Qi G PT r0 (C0, Rm)) 0 0 (lwA G) := by
  refine met_i [.ref (gA G 0)] wX10_redo.2.2.2.2.2 (Nat.le_of_ble_eq_true rfl) ?_
  intro p e s m args below meth c ls hC hr hP hl
  have hC : Cx G p s m args meth c cX10_redo RX10 1 := hC
  have hx := hC.1
  have hb := hC.2.1
  have hown := hC.2.2.2.1
  have hts := hC.2.2.2.2.1
  have hS : va_S (lwA G) s.heap s.heap [] := va_S.rf
  have hl : lv_has ls 1 [(0, .ref (gA G 0))] := hl
  unfold fX10_redo at h
  refine lv_aload_n hx hb dX10_redo_0 rfl (lv_at hl 0 rfl) ?_
  refine r_get (v := .ref (gA G 51)) hC inX10 hP (e_0 G _) rfl 12 (by decide) rfl k244 rfl dX10_redo_1 ?_
  refine rc_i hS (run_V hC wX2_redoable k895 (e_51 G _) rfl hP hS (As := []) (rest := []) (mX2_redoable l G Rm rfl) rfl hl.1 (Nat.le_of_ble_eq_true rfl) ⟨by decide, by decide⟩ ⟨Nat.le_refl _, Nat.le_refl _⟩ rfl dX10_redo_4) (fun H locs pb2 hP hS => ?_)
  refine lv_if_ne (tgt := 13) hx hb dX10_redo_7 (by decide) (fun c3 => ?_) (fun c3 => ?_)
  · replace h := it_f c3 h
    refine lv_aload_n hx hb dX10_redo_13 rfl (lv_at hl 0 rfl) ?_
    refine r_get (v := .ref (gA G 51)) hC inX10 hP (e_0 G _) rfl 12 (by decide) rfl k244 rfl dX10_redo_14 ?_
    refine lv_aload_n hx hb dX10_redo_17 rfl (lv_at hl 0 rfl) ?_
    refine r_get (v := .ref (gA G 3)) hC inX10 hP (e_0 G _) rfl 1 (by decide) rfl k233 rfl dX10_redo_18 ?_
    obtain ⟨C5, hq4, h⟩ := bn_x h
    refine rc_v hS (run_V hC wX2_stepOn k899 (e_51 G _) rfl hP hS (As := [.ref (gA G 3)]) (rest := []) (mX2_stepOn l G Rm hq4) rfl hl.1 (Nat.le_of_ble_eq_true rfl) ⟨by decide, by decide⟩ ⟨Nat.le_refl _, Nat.le_refl _⟩ rfl dX10_redo_21) (fun H locs hP hS => ?_)
    refine lv_aload_n hx hb dX10_redo_24 rfl (lv_at hl 0 rfl) ?_
    refine r_get (v := .ref (gA G 51)) hC inX10 hP (e_0 G _) rfl 12 (by decide) rfl k244 rfl dX10_redo_25 ?_
    refine rc_i hS (run_V hC wX2_redoable k895 (e_51 G _) rfl hP hS (As := []) (rest := []) (mX2_redoable l G Rm rfl) rfl hl.1 (Nat.le_of_ble_eq_true rfl) ⟨by decide, by decide⟩ ⟨Nat.le_refl _, Nat.le_refl _⟩ rfl dX10_redo_28) (fun H locs pb7 hP hS => ?_)
    exact re_i' hC hr hP hS (pr_1 h) (congrArg (fun Z : Mm => (Z, Rm)) (pr_2 h)) dX10_redo_31
  · replace h := it_t c3 h
    refine lv_bipush (v := (-5)) hx hb dX10_redo_10 (by decide) ?_
    exact re_i' hC hr hP hS (pr_1 h) (congrArg (fun Z : Mm => (Z, Rm)) (pr_2 h)) dX10_redo_12
set_option maxHeartbeats 4000000 in
set_option maxRecDepth 100000 in
theorem mX10_body (l : Launch) (G : gp) (Rm : Mm) {p1 : Int32} {C : Mm} {r0 : Int32} {C0 : Mm} (h : fX10_body p1 C = some (r0, C0)) : Met l yX10_body (wsy yX10_body cX10_body 2 (some .int)) (rmv 1 21) (va_Pc [.ref (gA G 0), .int p1] (Rl G (C, Rm))) (Qi G PT r0 (C0, Rm)) 0 0 (lwA G) := by
  refine met_i [.ref (gA G 0), .int p1] wX10_body.2.2.2.2.2 (Nat.le_of_ble_eq_true rfl) ?_
  intro p e s m args below meth c ls hC hr hP hl
  have hC : Cx G p s m args meth c cX10_body RX10 2 := hC
  have hx := hC.1
  have hb := hC.2.1
  have hown := hC.2.2.2.1
  have hts := hC.2.2.2.2.1
  have hS : va_S (lwA G) s.heap s.heap [] := va_S.rf
  have hl : lv_has ls 2 [(0, .ref (gA G 0)), (1, .int p1)] := hl
  unfold fX10_body at h
  refine lv_iload_n hx hb dX10_body_0 rfl (lv_at hl 1 rfl) ?_
  refine rc_i hS (run_S hC wX1_isKind k907 hP hS (As := [.int p1]) (rest := []) (mX1_isKind l G Rm rfl) rfl hl.1 (Nat.le_of_ble_eq_true rfl) ⟨by decide, by decide⟩ ⟨Nat.le_refl _, Nat.le_refl _⟩ rfl dX10_body_1) (fun H locs pb2 hP hS => ?_)
  refine lv_if_ne (tgt := 9) hx hb dX10_body_4 (by decide) (fun c3 => ?_) (fun c3 => ?_)
  · replace h := it_f c3 h
    refine lv_aload_n hx hb dX10_body_9 rfl (lv_at hl 0 rfl) ?_
    refine r_get (v := .ref (gA G 56)) hC inX10 hP (e_0 G _) rfl 13 (by decide) rfl k245 rfl dX10_body_10 ?_
    refine lv_iload_n hx hb dX10_body_13 rfl (lv_at hl 1 rfl) ?_
    obtain ⟨r5, C6, hq4, h⟩ := bp_x h
    refine rc_i hS (run_V hC wX1_takes k910 (e_56 G _) rfl hP hS (As := [.int p1]) (rest := []) (mX1_takes l G Rm hq4) rfl hl.1 (Nat.le_of_ble_eq_true rfl) ⟨by decide, by decide⟩ ⟨Nat.le_refl _, Nat.le_refl _⟩ rfl dX10_body_14) (fun H locs pb7 hP hS => ?_)
    refine lv_if_eq (tgt := 32) hx hb dX10_body_17 (by decide) (fun c8 => ?_) (fun c8 => ?_)
    · replace h := it_t c8 h
      refine lv_bipush (v := (-3)) hx hb dX10_body_32 (by decide) ?_
      exact re_i' hC hr hP hS (pr_1 h) (congrArg (fun Z : Mm => (Z, Rm)) (pr_2 h)) dX10_body_34
    · replace h := it_f c8 h
      refine lv_aload_n hx hb dX10_body_20 rfl (lv_at hl 0 rfl) ?_
      refine r_get (v := .ref (gA G 56)) hC inX10 hP (e_0 G _) rfl 13 (by decide) rfl k245 rfl dX10_body_21 ?_
      refine rc_i hS (run_V hC wX1_size k914 (e_56 G _) rfl hP hS (As := []) (rest := []) (mX1_size l G Rm rfl) rfl hl.1 (Nat.le_of_ble_eq_true rfl) ⟨by decide, by decide⟩ ⟨Nat.le_refl _, Nat.le_refl _⟩ rfl dX10_body_24) (fun H locs pb10 hP hS => ?_)
      refine lv_iconst (v := 1) hx hb dX10_body_27 (by decide) ?_
      refine lv_isub hx hb dX10_body_28 ?_
      refine lv_goto (tgt := 34) hx hb dX10_body_29 (by decide) ?_
      exact re_i' hC hr hP hS (pr_1 h) (congrArg (fun Z : Mm => (Z, Rm)) (pr_2 h)) dX10_body_34
  · replace h := it_t c3 h
    refine lv_iconst (v := (-1)) hx hb dX10_body_7 (by decide) ?_
    exact re_i' hC hr hP hS (pr_1 h) (congrArg (fun Z : Mm => (Z, Rm)) (pr_2 h)) dX10_body_8
set_option maxHeartbeats 4000000 in
set_option maxRecDepth 100000 in
theorem mX10_act (l : Launch) (G : gp) (Rm : Mm) {n : Nat} {p1 : Int32} {p2 : Int32} {p3 : Int32} {C : Mm} {r0 : Int32} {C0 : Mm} (h : fX10_act n p1 p2 p3 C = some (r0, C0)) : Met l yX10_act (wsy yX10_act cX10_act 4 (some .int)) (rmv 41 1005) (va_Pc [.ref (gA G 0), .int p1, .int p2, .int p3] (Rl G (C, Rm))) (Qi G PT r0 (C0, Rm)) 0 0 (lwA G) := by
  refine met_i [.ref (gA G 0), .int p1, .int p2, .int p3] wX10_act.2.2.2.2.2 (Nat.le_of_ble_eq_true rfl) ?_
  intro p e s m args below meth c ls hC hr hP hl
  have hC : Cx G p s m args meth c cX10_act RX10 4 := hC
  have hx := hC.1
  have hb := hC.2.1
  have hown := hC.2.2.2.1
  have hts := hC.2.2.2.2.1
  have hS : va_S (lwA G) s.heap s.heap [] := va_S.rf
  have hl : lv_has ls 4 [(0, .ref (gA G 0)), (1, .int p1), (2, .int p2), (3, .int p3)] := hl
  unfold fX10_act at h
  refine lv_aload_n hx hb dX10_act_0 rfl (lv_at hl 0 rfl) ?_
  refine r_get (v := .ref (gA G 56)) hC inX10 hP (e_0 G _) rfl 13 (by decide) rfl k245 rfl dX10_act_1 ?_
  refine lv_iload_n hx hb dX10_act_4 rfl (lv_at hl 1 rfl) ?_
  refine lv_iload_n hx hb dX10_act_5 rfl (lv_at hl 2 rfl) ?_
  refine lv_iload_n hx hb dX10_act_6 rfl (lv_at hl 3 rfl) ?_
  obtain ⟨r2, C3, hq1, h⟩ := bp_x h
  refine rc_i hS (run_V hC wX1_start k922 (e_56 G _) rfl hP hS (As := [.int p1, .int p2, .int p3]) (rest := []) (mX1_start l G Rm hq1) rfl hl.1 (Nat.le_of_ble_eq_true rfl) ⟨by decide, by decide⟩ ⟨Nat.le_refl _, Nat.le_refl _⟩ rfl dX10_act_7) (fun H locs pb4 hP hS => ?_)
  exact re_i' hC hr hP hS (pr_1 h) (congrArg (fun Z : Mm => (Z, Rm)) (pr_2 h)) dX10_act_10
set_option maxHeartbeats 4000000 in
set_option maxRecDepth 100000 in
theorem mX10_trace (l : Launch) (G : gp) (Rm : Mm) {p1 : Int32} {C : Mm} {r0 : Int32} (h : fX10_trace p1 C = some r0) : Met l yX10_trace (wsy yX10_trace cX10_trace 2 (some .int)) (rmv 1 21) (va_Pc [.ref (gA G 0), .int p1] (Rl G (C, Rm))) (Qi G PT r0 (C, Rm)) 0 0 (lwA G) := by
  refine met_i [.ref (gA G 0), .int p1] wX10_trace.2.2.2.2.2 (Nat.le_of_ble_eq_true rfl) ?_
  intro p e s m args below meth c ls hC hr hP hl
  have hC : Cx G p s m args meth c cX10_trace RX10 2 := hC
  have hx := hC.1
  have hb := hC.2.1
  have hown := hC.2.2.2.1
  have hts := hC.2.2.2.2.1
  have hS : va_S (lwA G) s.heap s.heap [] := va_S.rf
  have hl : lv_has ls 2 [(0, .ref (gA G 0)), (1, .int p1)] := hl
  unfold fX10_trace at h
  refine lv_aload_n hx hb dX10_trace_0 rfl (lv_at hl 0 rfl) ?_
  refine r_get (v := .ref (gA G 56)) hC inX10 hP (e_0 G _) rfl 13 (by decide) rfl k245 rfl dX10_trace_1 ?_
  refine lv_iload_n hx hb dX10_trace_4 rfl (lv_at hl 1 rfl) ?_
  obtain ⟨r2, hq1, h⟩ := bn_x h
  refine rc_i hS (run_V hC wX1_traced k963 (e_56 G _) rfl hP hS (As := [.int p1]) (rest := []) (mX1_traced l G Rm hq1) rfl hl.1 (Nat.le_of_ble_eq_true rfl) ⟨by decide, by decide⟩ ⟨Nat.le_refl _, Nat.le_refl _⟩ rfl dX10_trace_5) (fun H locs pb3 hP hS => ?_)
  exact re_i' hC hr hP hS (Option.some.inj h) rfl dX10_trace_8
set_option maxHeartbeats 4000000 in
set_option maxRecDepth 100000 in
theorem mX10_keep (l : Launch) (G : gp) (Rm : Mm) {p1 : Int32} {p2 : Int32} {C : Mm} {r0 : Int32} {C0 : Mm} (h : fX10_keep p1 p2 C = some (r0, C0)) : Met l yX10_keep (wsy yX10_keep cX10_keep 3 (some .int)) (rmv 1 21) (va_Pc [.ref (gA G 0), .int p1, .int p2] (Rl G (C, Rm))) (Qi G PT r0 (C0, Rm)) 0 0 (lwA G) := by
  refine met_i [.ref (gA G 0), .int p1, .int p2] wX10_keep.2.2.2.2.2 (Nat.le_of_ble_eq_true rfl) ?_
  intro p e s m args below meth c ls hC hr hP hl
  have hC : Cx G p s m args meth c cX10_keep RX10 3 := hC
  have hx := hC.1
  have hb := hC.2.1
  have hown := hC.2.2.2.1
  have hts := hC.2.2.2.2.1
  have hS : va_S (lwA G) s.heap s.heap [] := va_S.rf
  have hl : lv_has ls 3 [(0, .ref (gA G 0)), (1, .int p1), (2, .int p2)] := hl
  have bl25 : ∀ (y1 : Int32) (y2 : Int32) (C : Mm) (H : Heap) (locs : List Loc) (ls : Array Slot), fX10_keep_b25 y1 y2 C = some (r0, C0) → lv_has ls 3 [(0, .ref (gA G 0)), (1, .int y1), (2, .int y2)] → va_P (gD G) vwCl (wld G (C, Rm)) H → va_S (lwA G) s.heap H locs → W p l e (rmv 1 21) s m args below meth c H locs 0 0 (MQ below (Qi G PT r0 (C0, Rm)) args s 0 0 (lwA G)) (F0 m 25 ls []) := by
    intro y1 y2 C H locs ls h hl hP hS
    unfold fX10_keep_b25 at h
    refine lv_aload_n hx hb dX10_keep_25 rfl (lv_at hl 0 rfl) ?_
    refine r_get (v := .ref (gA G 59)) hC inX10 hP (e_0 G _) rfl 14 (by decide) rfl k246 rfl dX10_keep_26 ?_
    refine lv_iload_n hx hb dX10_keep_29 rfl (lv_at hl 1 rfl) ?_
    by_cases c1 : y1 < (0 : Int32) ∨ 6 ≤ Int32.toNatClampNeg y1
    · cases it_t c1 h
    replace h := it_f c1 h
    refine r_sh hC hP c1 dX10_keep_30 (fun hj2 => ?_)
    refine lv_iload_n hx hb dX10_keep_31 rfl (lv_at hl 2 rfl) ?_
    obtain ⟨C4, hq3⟩ : ∃ Z : Mm, fX8_holdBody (Int32.toNatClampNeg y1) y2 C = Z := ⟨_, rfl⟩
    replace h := lt_y hq3.symm h
    refine rc_v hS (run_V hC wX8_holdBody k972 (e_sc G _ hj2) rfl hP hS (As := [.int y2]) (rest := []) (mX8_holdBody l G Rm hj2 hq3) rfl hl.1 (Nat.le_of_ble_eq_true rfl) ⟨by decide, by decide⟩ ⟨Nat.le_refl _, Nat.le_refl _⟩ rfl dX10_keep_32) (fun H locs hP hS => ?_)
    refine lv_iconst (v := 1) hx hb dX10_keep_35 (by decide) ?_
    exact re_i' hC hr hP hS (pr_1 h) (congrArg (fun Z : Mm => (Z, Rm)) (pr_2 h)) dX10_keep_36
  unfold fX10_keep at h
  refine lv_iload_n hx hb dX10_keep_0 rfl (lv_at hl 1 rfl) ?_
  refine rc_i hS (run_S hC wX10_isShelf k659 hP hS (As := [.int p1]) (rest := []) (mX10_isShelf l G Rm rfl) rfl hl.1 (Nat.le_of_ble_eq_true rfl) ⟨by decide, by decide⟩ ⟨Nat.le_refl _, Nat.le_refl _⟩ rfl dX10_keep_1) (fun H locs pb6 hP hS => ?_)
  refine lv_if_eq (tgt := 23) hx hb dX10_keep_4 (by decide) (fun c7 => ?_) (fun c7 => ?_)
  · replace h := it_t c7 h
    refine lv_iconst (v := (-1)) hx hb dX10_keep_23 (by decide) ?_
    exact re_i' hC hr hP hS (pr_1 h) (congrArg (fun Z : Mm => (Z, Rm)) (pr_2 h)) dX10_keep_24
  · replace h := it_f c7 h
    refine lv_iload_n hx hb dX10_keep_7 rfl (lv_at hl 2 rfl) ?_
    refine lv_iconst (v := (-1)) hx hb dX10_keep_8 (by decide) ?_
    refine lv_icmp_eq (tgt := 25) hx hb dX10_keep_9 (by decide) (fun c8 => ?_) (fun c8 => ?_)
    · replace h := it_t c8 h
      exact bl25 p1 p2 C _ _ _ h (lv_sub hl [0, 1, 2] rfl) hP hS
    · replace h := it_f c8 h
      refine lv_aload_n hx hb dX10_keep_12 rfl (lv_at hl 0 rfl) ?_
      refine r_get (v := .ref (gA G 56)) hC inX10 hP (e_0 G _) rfl 13 (by decide) rfl k245 rfl dX10_keep_13 ?_
      refine lv_iload_n hx hb dX10_keep_16 rfl (lv_at hl 2 rfl) ?_
      refine rc_i hS (run_V hC wX1_has k971 (e_56 G _) rfl hP hS (As := [.int p2]) (rest := []) (mX1_has l G Rm rfl) rfl hl.1 (Nat.le_of_ble_eq_true rfl) ⟨by decide, by decide⟩ ⟨Nat.le_refl _, Nat.le_refl _⟩ rfl dX10_keep_17) (fun H locs pb10 hP hS => ?_)
      refine lv_if_ne (tgt := 25) hx hb dX10_keep_20 (by decide) (fun c11 => ?_) (fun c11 => ?_)
      · replace h := it_f c11 h
        exact bl25 p1 p2 C _ _ _ h (lv_sub hl [0, 1, 2] rfl) hP hS
      · replace h := it_t c11 h
        refine lv_iconst (v := (-1)) hx hb dX10_keep_23 (by decide) ?_
        exact re_i' hC hr hP hS (pr_1 h) (congrArg (fun Z : Mm => (Z, Rm)) (pr_2 h)) dX10_keep_24
set_option maxHeartbeats 4000000 in
set_option maxRecDepth 100000 in
theorem mX10_row (l : Launch) (G : gp) (Rm : Mm) {n : Nat} {p1 : Int32} {p2 : Int32} {p3 : Int32} {C : Mm} {r0 : Int32} {C0 : Mm} (h : fX10_row n p1 p2 p3 C = some (r0, C0)) : Met l yX10_row (wsy yX10_row cX10_row 4 (some .int)) (rmv 2 63) (va_Pc [.ref (gA G 0), .int p1, .int p2, .int p3] (Rl G (C, Rm))) (Qi G PT r0 (C0, Rm)) 0 0 (lwA G) := by
  refine met_i [.ref (gA G 0), .int p1, .int p2, .int p3] wX10_row.2.2.2.2.2 (Nat.le_of_ble_eq_true rfl) ?_
  intro p e s m args below meth c ls hC hr hP hl
  have hC : Cx G p s m args meth c cX10_row RX10 4 := hC
  have hx := hC.1
  have hb := hC.2.1
  have hown := hC.2.2.2.1
  have hts := hC.2.2.2.2.1
  have hS : va_S (lwA G) s.heap s.heap [] := va_S.rf
  have hl : lv_has ls 4 [(0, .ref (gA G 0)), (1, .int p1), (2, .int p2), (3, .int p3)] := hl
  unfold fX10_row at h
  refine lv_iload_n hx hb dX10_row_0 rfl (lv_at hl 1 rfl) ?_
  refine rc_i hS (run_S hC wX10_isShelf k659 hP hS (As := [.int p1]) (rest := []) (mX10_isShelf l G Rm rfl) rfl hl.1 (Nat.le_of_ble_eq_true rfl) ⟨by decide, by decide⟩ ⟨Nat.le_refl _, Nat.le_refl _⟩ rfl dX10_row_1) (fun H locs pb2 hP hS => ?_)
  refine lv_if_eq (tgt := 20) hx hb dX10_row_4 (by decide) (fun c3 => ?_) (fun c3 => ?_)
  · replace h := it_t c3 h
    refine lv_iconst (v := (-1)) hx hb dX10_row_20 (by decide) ?_
    exact re_i' hC hr hP hS (pr_1 h) (congrArg (fun Z : Mm => (Z, Rm)) (pr_2 h)) dX10_row_21
  · replace h := it_f c3 h
    refine lv_iload_n hx hb dX10_row_7 rfl (lv_at hl 2 rfl) ?_
    refine rc_i hS (run_S hC wX8_isSort k980 hP hS (As := [.int p2]) (rest := []) (mX8_isSort l G Rm rfl) rfl hl.1 (Nat.le_of_ble_eq_true rfl) ⟨by decide, by decide⟩ ⟨Nat.le_refl _, Nat.le_refl _⟩ rfl dX10_row_8) (fun H locs pb5 hP hS => ?_)
    refine lv_if_eq (tgt := 20) hx hb dX10_row_11 (by decide) (fun c6 => ?_) (fun c6 => ?_)
    · replace h := it_t c6 h
      refine lv_iconst (v := (-1)) hx hb dX10_row_20 (by decide) ?_
      exact re_i' hC hr hP hS (pr_1 h) (congrArg (fun Z : Mm => (Z, Rm)) (pr_2 h)) dX10_row_21
    · replace h := it_f c6 h
      refine lv_iload_n hx hb dX10_row_14 rfl (lv_at hl 3 rfl) ?_
      refine lv_bipush (v := 60) hx hb dX10_row_15 (by decide) ?_
      refine lv_icmp_le (tgt := 22) hx hb dX10_row_17 (by decide) (fun c7 => ?_) (fun c7 => ?_)
      · replace h := it_t c7 h
        refine lv_iload_n hx hb dX10_row_22 rfl (lv_at hl 3 rfl) ?_
        refine lv_if_ge (tgt := 29) hx hb dX10_row_23 (by decide) (fun c8 => ?_) (fun c8 => ?_)
        · replace h := it_t c8 h
          refine lv_aload_n hx hb dX10_row_29 rfl (lv_at hl 0 rfl) ?_
          refine r_get (v := .ref (gA G 59)) hC inX10 hP (e_0 G _) rfl 14 (by decide) rfl k246 rfl dX10_row_30 ?_
          refine lv_iload_n hx hb dX10_row_33 rfl (lv_at hl 1 rfl) ?_
          by_cases c9 : p1 < (0 : Int32) ∨ 6 ≤ Int32.toNatClampNeg p1
          · cases it_t c9 h
          replace h := it_f c9 h
          refine r_sh hC hP c9 dX10_row_34 (fun hj10 => ?_)
          refine lv_iload_n hx hb dX10_row_35 rfl (lv_at hl 2 rfl) ?_
          refine lv_iload_n hx hb dX10_row_36 rfl (lv_at hl 3 rfl) ?_
          obtain ⟨C12, hq11, h⟩ := bn_x h
          refine rc_v hS (run_V hC wX8_holdRow k983 (e_sc G _ hj10) rfl hP hS (As := [.int p2, .int p3]) (rest := []) (mX8_holdRow l G Rm hj10 hq11) rfl hl.1 (Nat.le_of_ble_eq_true rfl) ⟨by decide, by decide⟩ ⟨Nat.le_refl _, Nat.le_refl _⟩ rfl dX10_row_37) (fun H locs hP hS => ?_)
          refine lv_iconst (v := 1) hx hb dX10_row_40 (by decide) ?_
          exact re_i' hC hr hP hS (pr_1 h) (congrArg (fun Z : Mm => (Z, Rm)) (pr_2 h)) dX10_row_41
        · replace h := it_f c8 h
          refine lv_bipush (v := (-14)) hx hb dX10_row_26 (by decide) ?_
          exact re_i' hC hr hP hS (pr_1 h) (congrArg (fun Z : Mm => (Z, Rm)) (pr_2 h)) dX10_row_28
      · replace h := it_f c7 h
        refine lv_iconst (v := (-1)) hx hb dX10_row_20 (by decide) ?_
        exact re_i' hC hr hP hS (pr_1 h) (congrArg (fun Z : Mm => (Z, Rm)) (pr_2 h)) dX10_row_21
set_option maxHeartbeats 4000000 in
set_option maxRecDepth 100000 in
theorem mX10_refusalAt (l : Launch) (G : gp) (Rm : Mm) {p1 : Int32} {p2 : Int32} {C : Mm} {r0 : Int32} (h : fX10_refusalAt p1 p2 C = some r0) : Met l yX10_refusalAt (wsy yX10_refusalAt cX10_refusalAt 3 (some .int)) (rmv 1 22) (va_Pc [.ref (gA G 0), .int p1, .int p2] (Rl G (C, Rm))) (Qi G PT r0 (C, Rm)) 0 0 (lwA G) := by
  refine met_i [.ref (gA G 0), .int p1, .int p2] wX10_refusalAt.2.2.2.2.2 (Nat.le_of_ble_eq_true rfl) ?_
  intro p e s m args below meth c ls hC hr hP hl
  have hC : Cx G p s m args meth c cX10_refusalAt RX10 3 := hC
  have hx := hC.1
  have hb := hC.2.1
  have hown := hC.2.2.2.1
  have hts := hC.2.2.2.2.1
  have hS : va_S (lwA G) s.heap s.heap [] := va_S.rf
  have hl : lv_has ls 3 [(0, .ref (gA G 0)), (1, .int p1), (2, .int p2)] := hl
  unfold fX10_refusalAt at h
  refine lv_iload_n hx hb dX10_refusalAt_0 rfl (lv_at hl 1 rfl) ?_
  refine rc_i hS (run_S hC wX10_isShelf k659 hP hS (As := [.int p1]) (rest := []) (mX10_isShelf l G Rm rfl) rfl hl.1 (Nat.le_of_ble_eq_true rfl) ⟨by decide, by decide⟩ ⟨Nat.le_refl _, Nat.le_refl _⟩ rfl dX10_refusalAt_1) (fun H locs pb2 hP hS => ?_)
  refine lv_if_ne (tgt := 9) hx hb dX10_refusalAt_4 (by decide) (fun c3 => ?_) (fun c3 => ?_)
  · replace h := it_f c3 h
    refine lv_aload_n hx hb dX10_refusalAt_9 rfl (lv_at hl 0 rfl) ?_
    refine r_get (v := .ref (gA G 59)) hC inX10 hP (e_0 G _) rfl 14 (by decide) rfl k246 rfl dX10_refusalAt_10 ?_
    refine lv_iload_n hx hb dX10_refusalAt_13 rfl (lv_at hl 1 rfl) ?_
    by_cases c4 : p1 < (0 : Int32) ∨ 6 ≤ Int32.toNatClampNeg p1
    · cases it_t c4 h
    replace h := it_f c4 h
    refine r_sh hC hP c4 dX10_refusalAt_14 (fun hj5 => ?_)
    refine rc_i hS (run_V hC wX8_isEmpty k662 (e_sc G _ hj5) rfl hP hS (As := []) (rest := []) (mX8_isEmpty l G Rm hj5 rfl) rfl hl.1 (Nat.le_of_ble_eq_true rfl) ⟨by decide, by decide⟩ ⟨Nat.le_refl _, Nat.le_refl _⟩ rfl dX10_refusalAt_15) (fun H locs pb7 hP hS => ?_)
    refine lv_if_eq (tgt := 24) hx hb dX10_refusalAt_18 (by decide) (fun c8 => ?_) (fun c8 => ?_)
    · replace h := it_t c8 h
      refine lv_aload_n hx hb dX10_refusalAt_24 rfl (lv_at hl 0 rfl) ?_
      refine r_get (v := .ref (gA G 59)) hC inX10 hP (e_0 G _) rfl 14 (by decide) rfl k246 rfl dX10_refusalAt_25 ?_
      refine lv_iload_n hx hb dX10_refusalAt_28 rfl (lv_at hl 1 rfl) ?_
      by_cases c9 : p1 < (0 : Int32) ∨ 6 ≤ Int32.toNatClampNeg p1
      · cases it_t c9 h
      replace h := it_f c9 h
      refine r_sh hC hP c9 dX10_refusalAt_29 (fun hj10 => ?_)
      refine rc_i hS (run_V hC wX8_holdsRow k997 (e_sc G _ hj10) rfl hP hS (As := []) (rest := []) (mX8_holdsRow l G Rm hj10 rfl) rfl hl.1 (Nat.le_of_ble_eq_true rfl) ⟨by decide, by decide⟩ ⟨Nat.le_refl _, Nat.le_refl _⟩ rfl dX10_refusalAt_30) (fun H locs pb12 hP hS => ?_)
      refine lv_if_ne (tgt := 39) hx hb dX10_refusalAt_33 (by decide) (fun c13 => ?_) (fun c13 => ?_)
      · replace h := it_f c13 h
        refine lv_aload_n hx hb dX10_refusalAt_39 rfl (lv_at hl 0 rfl) ?_
        refine r_get (v := .ref (gA G 59)) hC inX10 hP (e_0 G _) rfl 14 (by decide) rfl k246 rfl dX10_refusalAt_40 ?_
        refine lv_iload_n hx hb dX10_refusalAt_43 rfl (lv_at hl 1 rfl) ?_
        by_cases c14 : p1 < (0 : Int32) ∨ 6 ≤ Int32.toNatClampNeg p1
        · cases it_t c14 h
        replace h := it_f c14 h
        refine r_sh hC hP c14 dX10_refusalAt_44 (fun hj15 => ?_)
        refine lv_iload_n hx hb dX10_refusalAt_45 rfl (lv_at hl 2 rfl) ?_
        refine lv_iconst (v := 1) hx hb dX10_refusalAt_46 (by decide) ?_
        refine rc_i hS (run_V hC wX8_hasPlaces k1001 (e_sc G _ hj15) rfl hP hS (As := [.int p2, .int 1]) (rest := []) (mX8_hasPlaces l G Rm hj15 rfl) rfl hl.1 (Nat.le_of_ble_eq_true rfl) ⟨by decide, by decide⟩ ⟨Nat.le_refl _, Nat.le_refl _⟩ rfl dX10_refusalAt_47) (fun H locs pb17 hP hS => ?_)
        refine lv_if_eq (tgt := 57) hx hb dX10_refusalAt_50 (by decide) (fun c18 => ?_) (fun c18 => ?_)
        · replace h := it_t c18 h
          refine lv_bipush (v := (-13)) hx hb dX10_refusalAt_57 (by decide) ?_
          exact re_i' hC hr hP hS (Option.some.inj h) rfl dX10_refusalAt_59
        · replace h := it_f c18 h
          refine lv_iconst (v := 0) hx hb dX10_refusalAt_53 (by decide) ?_
          refine lv_goto (tgt := 59) hx hb dX10_refusalAt_54 (by decide) ?_
          exact re_i' hC hr hP hS (Option.some.inj h) rfl dX10_refusalAt_59
      · replace h := it_t c13 h
        refine lv_bipush (v := (-12)) hx hb dX10_refusalAt_36 (by decide) ?_
        exact re_i' hC hr hP hS (Option.some.inj h) rfl dX10_refusalAt_38
    · replace h := it_f c8 h
      refine lv_bipush (v := (-11)) hx hb dX10_refusalAt_21 (by decide) ?_
      exact re_i' hC hr hP hS (Option.some.inj h) rfl dX10_refusalAt_23
  · replace h := it_t c3 h
    refine lv_iconst (v := (-1)) hx hb dX10_refusalAt_7 (by decide) ?_
    exact re_i' hC hr hP hS (Option.some.inj h) rfl dX10_refusalAt_8
set_option maxHeartbeats 4000000 in
set_option maxRecDepth 100000 in
theorem mX10_put (l : Launch) (G : gp) (Rm : Mm) {p1 : Int32} {p2 : Int32} {p3 : Int64} {C : Mm} {r0 : Int32} {C0 : Mm} (h : fX10_put p1 p2 p3 C = some (r0, C0)) : Met l yX10_put (wsy yX10_put cX10_put 6 (some .int)) (rmv 2 45) (va_Pc [.ref (gA G 0), .int p1, .int p2, .long p3] (Rl G (C, Rm))) (Qi G PT r0 (C0, Rm)) 0 0 (lwA G) := by
  refine met_i [.ref (gA G 0), .int p1, .int p2, .long p3] wX10_put.2.2.2.2.2 (Nat.le_of_ble_eq_true rfl) ?_
  intro p e s m args below meth c ls hC hr hP hl
  have hC : Cx G p s m args meth c cX10_put RX10 6 := hC
  have hx := hC.1
  have hb := hC.2.1
  have hown := hC.2.2.2.1
  have hts := hC.2.2.2.2.1
  have hS : va_S (lwA G) s.heap s.heap [] := va_S.rf
  have hl : lv_has ls 6 [(0, .ref (gA G 0)), (1, .int p1), (2, .int p2), (3, .long p3)] := hl
  unfold fX10_put at h
  refine lv_aload_n hx hb dX10_put_0 rfl (lv_at hl 0 rfl) ?_
  refine lv_iload_n hx hb dX10_put_1 rfl (lv_at hl 1 rfl) ?_
  refine lv_iload_n hx hb dX10_put_2 rfl (lv_at hl 2 rfl) ?_
  obtain ⟨r2, hq1, h⟩ := bn_x h
  refine rc_i hS (run_V hC wX10_refusalAt k993 (e_0 G _) rfl hP hS (As := [.int p1, .int p2]) (rest := []) (mX10_refusalAt l G Rm hq1) rfl hl.1 (Nat.le_of_ble_eq_true rfl) ⟨by decide, by decide⟩ ⟨Nat.le_refl _, Nat.le_refl _⟩ rfl dX10_put_3) (fun H locs pb3 hP hS => ?_)
  refine lv_istore (lv' := [(5, .int r2), (0, .ref (gA G 0)), (1, .int p1), (2, .int p2), (3, .long p3)]) hx hb dX10_put_6 hl (by decide) rfl (fun ls hl => ?_)
  refine lv_iload hx hb dX10_put_8 (lv_at hl 0 rfl) ?_
  refine lv_if_eq (tgt := 16) hx hb dX10_put_10 (by decide) (fun c4 => ?_) (fun c4 => ?_)
  · replace h := it_t c4 h
    refine lv_aload_n hx hb dX10_put_16 rfl (lv_at hl 1 rfl) ?_
    refine r_get (v := .ref (gA G 59)) hC inX10 hP (e_0 G _) rfl 14 (by decide) rfl k246 rfl dX10_put_17 ?_
    refine lv_iload_n hx hb dX10_put_20 rfl (lv_at hl 2 rfl) ?_
    by_cases c5 : p1 < (0 : Int32) ∨ 6 ≤ Int32.toNatClampNeg p1
    · cases it_t c5 h
    replace h := it_f c5 h
    refine r_sh hC hP c5 dX10_put_21 (fun hj6 => ?_)
    refine lv_iload_n hx hb dX10_put_22 rfl (lv_at hl 3 rfl) ?_
    refine lv_lload_n hx hb dX10_put_23 rfl (lv_at hl 4 rfl) ?_
    obtain ⟨C8, hq7, h⟩ := bn_x h
    refine rc_v hS (run_V hC wX8_setElement k1002 (e_sc G _ hj6) rfl hP hS (As := [.int p2, .long p3]) (rest := []) (mX8_setElement l G Rm hj6 hq7) rfl hl.1 (Nat.le_of_ble_eq_true rfl) ⟨by decide, by decide⟩ ⟨Nat.le_refl _, Nat.le_refl _⟩ rfl dX10_put_24) (fun H locs hP hS => ?_)
    refine lv_iconst (v := 1) hx hb dX10_put_27 (by decide) ?_
    exact re_i' hC hr hP hS (pr_1 h) (congrArg (fun Z : Mm => (Z, Rm)) (pr_2 h)) dX10_put_28
  · replace h := it_f c4 h
    refine lv_iload hx hb dX10_put_13 (lv_at hl 0 rfl) ?_
    exact re_i' hC hr hP hS (pr_1 h) (congrArg (fun Z : Mm => (Z, Rm)) (pr_2 h)) dX10_put_15
set_option maxHeartbeats 4000000 in
set_option maxRecDepth 100000 in
theorem mX10_element (l : Launch) (G : gp) (Rm : Mm) {p1 : Int32} {p2 : Int32} {C : Mm} {r0 : Int64} (h : fX10_element p1 p2 C = some r0) : Met l yX10_element (wsy yX10_element cX10_element 3 (some .long)) (rmv 2 44) (va_Pc [.ref (gA G 0), .int p1, .int p2] (Rl G (C, Rm))) (Ql G r0 (C, Rm)) 0 0 (lwA G) := by
  refine met_i [.ref (gA G 0), .int p1, .int p2] wX10_element.2.2.2.2.2 (Nat.le_of_ble_eq_true rfl) ?_
  intro p e s m args below meth c ls hC hr hP hl
  have hC : Cx G p s m args meth c cX10_element RX10 3 := hC
  have hx := hC.1
  have hb := hC.2.1
  have hown := hC.2.2.2.1
  have hts := hC.2.2.2.2.1
  have hS : va_S (lwA G) s.heap s.heap [] := va_S.rf
  have hl : lv_has ls 3 [(0, .ref (gA G 0)), (1, .int p1), (2, .int p2)] := hl
  unfold fX10_element at h
  refine lv_aload_n hx hb dX10_element_0 rfl (lv_at hl 0 rfl) ?_
  refine lv_iload_n hx hb dX10_element_1 rfl (lv_at hl 1 rfl) ?_
  refine lv_iload_n hx hb dX10_element_2 rfl (lv_at hl 2 rfl) ?_
  obtain ⟨r2, hq1, h⟩ := bn_x h
  refine rc_i hS (run_V hC wX10_refusalAt k993 (e_0 G _) rfl hP hS (As := [.int p1, .int p2]) (rest := []) (mX10_refusalAt l G Rm hq1) rfl hl.1 (Nat.le_of_ble_eq_true rfl) ⟨by decide, by decide⟩ ⟨Nat.le_refl _, Nat.le_refl _⟩ rfl dX10_element_3) (fun H locs pb3 hP hS => ?_)
  refine lv_if_eq (tgt := 15) hx hb dX10_element_6 (by decide) (fun c4 => ?_) (fun c4 => ?_)
  · replace h := it_t c4 h
    refine lv_aload_n hx hb dX10_element_15 rfl (lv_at hl 0 rfl) ?_
    refine r_get (v := .ref (gA G 59)) hC inX10 hP (e_0 G _) rfl 14 (by decide) rfl k246 rfl dX10_element_16 ?_
    refine lv_iload_n hx hb dX10_element_19 rfl (lv_at hl 1 rfl) ?_
    by_cases c5 : p1 < (0 : Int32) ∨ 6 ≤ Int32.toNatClampNeg p1
    · cases it_t c5 h
    replace h := it_f c5 h
    refine r_sh hC hP c5 dX10_element_20 (fun hj6 => ?_)
    refine lv_iload_n hx hb dX10_element_21 rfl (lv_at hl 2 rfl) ?_
    obtain ⟨r8, hq7, h⟩ := bn_x h
    refine rc_l hS (run_V hC wX8_elementAt k680 (e_sc G _ hj6) rfl hP hS (As := [.int p2]) (rest := []) (mX8_elementAt l G Rm hj6 hq7) rfl hl.1 (Nat.le_of_ble_eq_true rfl) ⟨by decide, by decide⟩ ⟨Nat.le_refl _, Nat.le_refl _⟩ rfl dX10_element_22) (fun H locs hP hS => ?_)
    exact re_l' hC hr hP hS (Option.some.inj h) rfl dX10_element_25
  · replace h := it_f c4 h
    refine lv_ldc2 hx hb (v := (-9223372036854775808)) hown (hts _ k1010) dX10_element_9 ?_
    refine lv_goto (tgt := 25) hx hb dX10_element_12 (by decide) ?_
    exact re_l' hC hr hP hS (Option.some.inj h) rfl dX10_element_25
set_option maxHeartbeats 4000000 in
set_option maxRecDepth 100000 in
theorem mX10_shift (l : Launch) (G : gp) (Rm : Mm) {p1 : Int32} {p2 : Int32} {p3 : Int32} {p4 : Int32} {p5 : Int32} {C : Mm} {r0 : Int32} {C0 : Mm} (h : fX10_shift p1 p2 p3 p4 p5 C = some (r0, C0)) : Met l yX10_shift (wsy yX10_shift cX10_shift 8 (some .int)) (rmv 2 64) (va_Pc [.ref (gA G 0), .int p1, .int p2, .int p3, .int p4, .int p5] (Rl G (C, Rm))) (Qi G PT r0 (C0, Rm)) 0 0 (lwA G) := by
  refine met_i [.ref (gA G 0), .int p1, .int p2, .int p3, .int p4, .int p5] wX10_shift.2.2.2.2.2 (Nat.le_of_ble_eq_true rfl) ?_
  intro p e s m args below meth c ls hC hr hP hl
  have hC : Cx G p s m args meth c cX10_shift RX10 8 := hC
  have hx := hC.1
  have hb := hC.2.1
  have hown := hC.2.2.2.1
  have hts := hC.2.2.2.2.1
  have hS : va_S (lwA G) s.heap s.heap [] := va_S.rf
  have hl : lv_has ls 8 [(0, .ref (gA G 0)), (1, .int p1), (2, .int p2), (3, .int p3), (4, .int p4), (5, .int p5)] := hl
  unfold fX10_shift at h
  refine lv_iload_n hx hb dX10_shift_0 rfl (lv_at hl 1 rfl) ?_
  refine rc_i hS (run_S hC wX10_isShelf k659 hP hS (As := [.int p1]) (rest := []) (mX10_isShelf l G Rm rfl) rfl hl.1 (Nat.le_of_ble_eq_true rfl) ⟨by decide, by decide⟩ ⟨Nat.le_refl _, Nat.le_refl _⟩ rfl dX10_shift_1) (fun H locs pb2 hP hS => ?_)
  refine lv_if_eq (tgt := 14) hx hb dX10_shift_4 (by decide) (fun c3 => ?_) (fun c3 => ?_)
  · replace h := it_t c3 h
    refine lv_iconst (v := (-1)) hx hb dX10_shift_14 (by decide) ?_
    exact re_i' hC hr hP hS (pr_1 h) (congrArg (fun Z : Mm => (Z, Rm)) (pr_2 h)) dX10_shift_15
  · replace h := it_f c3 h
    refine lv_iload_n hx hb dX10_shift_7 rfl (lv_at hl 3 rfl) ?_
    refine rc_i hS (run_S hC wX10_isShelf k659 hP hS (As := [.int p3]) (rest := []) (mX10_isShelf l G Rm rfl) rfl hl.1 (Nat.le_of_ble_eq_true rfl) ⟨by decide, by decide⟩ ⟨Nat.le_refl _, Nat.le_refl _⟩ rfl dX10_shift_8) (fun H locs pb5 hP hS => ?_)
    refine lv_if_ne (tgt := 16) hx hb dX10_shift_11 (by decide) (fun c6 => ?_) (fun c6 => ?_)
    · replace h := it_f c6 h
      refine lv_aload_n hx hb dX10_shift_16 rfl (lv_at hl 0 rfl) ?_
      refine r_get (v := .ref (gA G 59)) hC inX10 hP (e_0 G _) rfl 14 (by decide) rfl k246 rfl dX10_shift_17 ?_
      refine lv_iload_n hx hb dX10_shift_20 rfl (lv_at hl 1 rfl) ?_
      by_cases c7 : p1 < (0 : Int32) ∨ 6 ≤ Int32.toNatClampNeg p1
      · cases it_t c7 h
      replace h := it_f c7 h
      refine r_sh hC hP c7 dX10_shift_21 (fun hj8 => ?_)
      refine lv_astore (lv' := [(6, .ref (gA G (shc (Int32.toNatClampNeg p1)))), (0, .ref (gA G 0)), (1, .int p1), (2, .int p2), (3, .int p3), (4, .int p4), (5, .int p5)]) hx hb dX10_shift_22 hl (by decide) rfl (fun ls hl => ?_)
      refine lv_aload_n hx hb dX10_shift_24 rfl (lv_at hl 1 rfl) ?_
      refine r_get (v := .ref (gA G 59)) hC inX10 hP (e_0 G _) rfl 14 (by decide) rfl k246 rfl dX10_shift_25 ?_
      refine lv_iload_n hx hb dX10_shift_28 rfl (lv_at hl 4 rfl) ?_
      by_cases c9 : p3 < (0 : Int32) ∨ 6 ≤ Int32.toNatClampNeg p3
      · cases it_t c9 h
      replace h := it_f c9 h
      refine r_sh hC hP c9 dX10_shift_29 (fun hj10 => ?_)
      refine lv_astore (lv' := [(7, .ref (gA G (shc (Int32.toNatClampNeg p3)))), (6, .ref (gA G (shc (Int32.toNatClampNeg p1)))), (0, .ref (gA G 0)), (1, .int p1), (2, .int p2), (3, .int p3), (4, .int p4), (5, .int p5)]) hx hb dX10_shift_30 hl (by decide) rfl (fun ls hl => ?_)
      refine lv_aload hx hb dX10_shift_32 (lv_at hl 1 rfl) ?_
      refine rc_i hS (run_V hC wX8_isEmpty k662 (e_sc G _ hj8) rfl hP hS (As := []) (rest := []) (mX8_isEmpty l G Rm hj8 rfl) rfl hl.1 (Nat.le_of_ble_eq_true rfl) ⟨by decide, by decide⟩ ⟨Nat.le_refl _, Nat.le_refl _⟩ rfl dX10_shift_34) (fun H locs pb12 hP hS => ?_)
      refine lv_if_ne (tgt := 48) hx hb dX10_shift_37 (by decide) (fun c13 => ?_) (fun c13 => ?_)
      · replace h := it_f c13 h
        refine lv_bipush (v := (-11)) hx hb dX10_shift_48 (by decide) ?_
        exact re_i' hC hr hP hS (pr_1 h) (congrArg (fun Z : Mm => (Z, Rm)) (pr_2 h)) dX10_shift_50
      · replace h := it_t c13 h
        refine lv_aload hx hb dX10_shift_40 (lv_at hl 0 rfl) ?_
        refine rc_i hS (run_V hC wX8_isEmpty k662 (e_sc G _ hj10) rfl hP hS (As := []) (rest := []) (mX8_isEmpty l G Rm hj10 rfl) rfl hl.1 (Nat.le_of_ble_eq_true rfl) ⟨by decide, by decide⟩ ⟨Nat.le_refl _, Nat.le_refl _⟩ rfl dX10_shift_42) (fun H locs pb15 hP hS => ?_)
        refine lv_if_eq (tgt := 51) hx hb dX10_shift_45 (by decide) (fun c16 => ?_) (fun c16 => ?_)
        · replace h := it_t c16 h
          refine lv_aload hx hb dX10_shift_51 (lv_at hl 1 rfl) ?_
          refine rc_i hS (run_V hC wX8_holdsRow k997 (e_sc G _ hj8) rfl hP hS (As := []) (rest := []) (mX8_holdsRow l G Rm hj8 rfl) rfl hl.1 (Nat.le_of_ble_eq_true rfl) ⟨by decide, by decide⟩ ⟨Nat.le_refl _, Nat.le_refl _⟩ rfl dX10_shift_53) (fun H locs pb18 hP hS => ?_)
          refine lv_if_eq (tgt := 80) hx hb dX10_shift_56 (by decide) (fun c19 => ?_) (fun c19 => ?_)
          · replace h := it_t c19 h
            refine lv_bipush (v := (-12)) hx hb dX10_shift_80 (by decide) ?_
            exact re_i' hC hr hP hS (pr_1 h) (congrArg (fun Z : Mm => (Z, Rm)) (pr_2 h)) dX10_shift_82
          · replace h := it_f c19 h
            refine lv_aload hx hb dX10_shift_59 (lv_at hl 0 rfl) ?_
            refine rc_i hS (run_V hC wX8_holdsRow k997 (e_sc G _ hj10) rfl hP hS (As := []) (rest := []) (mX8_holdsRow l G Rm hj10 rfl) rfl hl.1 (Nat.le_of_ble_eq_true rfl) ⟨by decide, by decide⟩ ⟨Nat.le_refl _, Nat.le_refl _⟩ rfl dX10_shift_61) (fun H locs pb21 hP hS => ?_)
            refine lv_if_eq (tgt := 80) hx hb dX10_shift_64 (by decide) (fun c22 => ?_) (fun c22 => ?_)
            · replace h := it_t c22 h
              refine lv_bipush (v := (-12)) hx hb dX10_shift_80 (by decide) ?_
              exact re_i' hC hr hP hS (pr_1 h) (congrArg (fun Z : Mm => (Z, Rm)) (pr_2 h)) dX10_shift_82
            · replace h := it_f c22 h
              refine lv_aload hx hb dX10_shift_67 (lv_at hl 1 rfl) ?_
              refine rc_i hS (run_V hC wX8_sort k1015 (e_sc G _ hj8) rfl hP hS (As := []) (rest := []) (mX8_sort l G Rm hj8 rfl) rfl hl.1 (Nat.le_of_ble_eq_true rfl) ⟨by decide, by decide⟩ ⟨Nat.le_refl _, Nat.le_refl _⟩ rfl dX10_shift_69) (fun H locs pb24 hP hS => ?_)
              refine lv_aload hx hb dX10_shift_72 (lv_at hl 0 rfl) ?_
              refine rc_i hS (run_V hC wX8_sort k1015 (e_sc G _ hj10) rfl hP hS (As := []) (rest := [.int (fX8_sort (Int32.toNatClampNeg p1) C)]) (mX8_sort l G Rm hj10 rfl) rfl hl.1 (Nat.le_of_ble_eq_true rfl) ⟨by decide, by decide⟩ ⟨Nat.le_refl _, Nat.le_refl _⟩ rfl dX10_shift_74) (fun H locs pb26 hP hS => ?_)
              refine lv_icmp_eq (tgt := 83) hx hb dX10_shift_77 (by decide) (fun c27 => ?_) (fun c27 => ?_)
              · replace h := it_t c27 h
                refine lv_aload hx hb dX10_shift_83 (lv_at hl 1 rfl) ?_
                refine lv_iload_n hx hb dX10_shift_85 rfl (lv_at hl 4 rfl) ?_
                refine lv_iload hx hb dX10_shift_86 (lv_at hl 7 rfl) ?_
                refine rc_i hS (run_V hC wX8_hasPlaces k1001 (e_sc G _ hj8) rfl hP hS (As := [.int p2, .int p5]) (rest := []) (mX8_hasPlaces l G Rm hj8 rfl) rfl hl.1 (Nat.le_of_ble_eq_true rfl) ⟨by decide, by decide⟩ ⟨Nat.le_refl _, Nat.le_refl _⟩ rfl dX10_shift_88) (fun H locs pb29 hP hS => ?_)
                refine lv_if_eq (tgt := 106) hx hb dX10_shift_91 (by decide) (fun c30 => ?_) (fun c30 => ?_)
                · replace h := it_t c30 h
                  refine lv_bipush (v := (-13)) hx hb dX10_shift_106 (by decide) ?_
                  exact re_i' hC hr hP hS (pr_1 h) (congrArg (fun Z : Mm => (Z, Rm)) (pr_2 h)) dX10_shift_108
                · replace h := it_f c30 h
                  refine lv_aload hx hb dX10_shift_94 (lv_at hl 0 rfl) ?_
                  refine lv_iload hx hb dX10_shift_96 (lv_at hl 6 rfl) ?_
                  refine lv_iload hx hb dX10_shift_98 (lv_at hl 7 rfl) ?_
                  refine rc_i hS (run_V hC wX8_hasPlaces k1001 (e_sc G _ hj10) rfl hP hS (As := [.int p4, .int p5]) (rest := []) (mX8_hasPlaces l G Rm hj10 rfl) rfl hl.1 (Nat.le_of_ble_eq_true rfl) ⟨by decide, by decide⟩ ⟨Nat.le_refl _, Nat.le_refl _⟩ rfl dX10_shift_100) (fun H locs pb32 hP hS => ?_)
                  refine lv_if_ne (tgt := 109) hx hb dX10_shift_103 (by decide) (fun c33 => ?_) (fun c33 => ?_)
                  · replace h := it_f c33 h
                    refine lv_aload hx hb dX10_shift_109 (lv_at hl 0 rfl) ?_
                    refine lv_aload hx hb dX10_shift_111 (lv_at hl 1 rfl) ?_
                    refine lv_iload_n hx hb dX10_shift_113 rfl (lv_at hl 4 rfl) ?_
                    refine lv_iload hx hb dX10_shift_114 (lv_at hl 6 rfl) ?_
                    refine lv_iload hx hb dX10_shift_116 (lv_at hl 7 rfl) ?_
                    obtain ⟨C35, hq34, h⟩ := bn_x h
                    refine rc_v hS (run_V hC wX8_copyFrom k1019 (e_sc G _ hj10) rfl hP hS (As := [.ref (gA G (shc (Int32.toNatClampNeg p1))), .int p2, .int p4, .int p5]) (rest := []) (mX8_copyFrom l G Rm hj10 hj8 hq34) rfl hl.1 (Nat.le_of_ble_eq_true rfl) ⟨by decide, by decide⟩ ⟨Nat.le_refl _, Nat.le_refl _⟩ rfl dX10_shift_118) (fun H locs hP hS => ?_)
                    refine lv_iload hx hb dX10_shift_121 (lv_at hl 7 rfl) ?_
                    exact re_i' hC hr hP hS (pr_1 h) (congrArg (fun Z : Mm => (Z, Rm)) (pr_2 h)) dX10_shift_123
                  · replace h := it_t c33 h
                    refine lv_bipush (v := (-13)) hx hb dX10_shift_106 (by decide) ?_
                    exact re_i' hC hr hP hS (pr_1 h) (congrArg (fun Z : Mm => (Z, Rm)) (pr_2 h)) dX10_shift_108
              · replace h := it_f c27 h
                refine lv_bipush (v := (-12)) hx hb dX10_shift_80 (by decide) ?_
                exact re_i' hC hr hP hS (pr_1 h) (congrArg (fun Z : Mm => (Z, Rm)) (pr_2 h)) dX10_shift_82
        · replace h := it_f c16 h
          refine lv_bipush (v := (-11)) hx hb dX10_shift_48 (by decide) ?_
          exact re_i' hC hr hP hS (pr_1 h) (congrArg (fun Z : Mm => (Z, Rm)) (pr_2 h)) dX10_shift_50
    · replace h := it_t c6 h
      refine lv_iconst (v := (-1)) hx hb dX10_shift_14 (by decide) ?_
      exact re_i' hC hr hP hS (pr_1 h) (congrArg (fun Z : Mm => (Z, Rm)) (pr_2 h)) dX10_shift_15
set_option maxHeartbeats 4000000 in
set_option maxRecDepth 100000 in
theorem mX10_taken (l : Launch) (G : gp) (Rm : Mm) {n : Nat} {p1 : Int32} {p2 : Int32} {C : Mm} {r0 : Int32} (h : fX10_taken n p1 p2 C = some r0) : Met l yX10_taken (wsy yX10_taken cX10_taken 4 (some .int)) (rmv 2 43) (va_Pc [.ref (gA G 0), .int p1, .int p2] (Rl G (C, Rm))) (Qi G PT r0 (C, Rm)) 0 0 (lwA G) := by
  refine met_i [.ref (gA G 0), .int p1, .int p2] wX10_taken.2.2.2.2.2 (Nat.le_of_ble_eq_true rfl) ?_
  intro p e s m args below meth c ls hC hr hP hl
  have hC : Cx G p s m args meth c cX10_taken RX10 4 := hC
  have hx := hC.1
  have hb := hC.2.1
  have hown := hC.2.2.2.1
  have hts := hC.2.2.2.2.1
  have hS : va_S (lwA G) s.heap s.heap [] := va_S.rf
  have hl : lv_has ls 4 [(0, .ref (gA G 0)), (1, .int p1), (2, .int p2)] := hl
  unfold fX10_taken at h
  refine lv_iload_n hx hb dX10_taken_0 rfl (lv_at hl 1 rfl) ?_
  refine rc_i hS (run_S hC wX10_isShelf k659 hP hS (As := [.int p1]) (rest := []) (mX10_isShelf l G Rm rfl) rfl hl.1 (Nat.le_of_ble_eq_true rfl) ⟨by decide, by decide⟩ ⟨Nat.le_refl _, Nat.le_refl _⟩ rfl dX10_taken_1) (fun H locs pb2 hP hS => ?_)
  refine lv_if_eq (tgt := 14) hx hb dX10_taken_4 (by decide) (fun c3 => ?_) (fun c3 => ?_)
  · replace h := it_t c3 h
    refine lv_iconst (v := (-1)) hx hb dX10_taken_14 (by decide) ?_
    exact re_i' hC hr hP hS (Option.some.inj h) rfl dX10_taken_15
  · replace h := it_f c3 h
    refine lv_iload_n hx hb dX10_taken_7 rfl (lv_at hl 2 rfl) ?_
    refine rc_i hS (run_S hC wX1_isKind k907 hP hS (As := [.int p2]) (rest := []) (mX1_isKind l G Rm rfl) rfl hl.1 (Nat.le_of_ble_eq_true rfl) ⟨by decide, by decide⟩ ⟨Nat.le_refl _, Nat.le_refl _⟩ rfl dX10_taken_8) (fun H locs pb5 hP hS => ?_)
    refine lv_if_ne (tgt := 16) hx hb dX10_taken_11 (by decide) (fun c6 => ?_) (fun c6 => ?_)
    · replace h := it_f c6 h
      refine lv_aload_n hx hb dX10_taken_16 rfl (lv_at hl 0 rfl) ?_
      refine r_get (v := .ref (gA G 59)) hC inX10 hP (e_0 G _) rfl 14 (by decide) rfl k246 rfl dX10_taken_17 ?_
      refine lv_iload_n hx hb dX10_taken_20 rfl (lv_at hl 1 rfl) ?_
      by_cases c7 : p1 < (0 : Int32) ∨ 6 ≤ Int32.toNatClampNeg p1
      · cases it_t c7 h
      replace h := it_f c7 h
      refine r_sh hC hP c7 dX10_taken_21 (fun hj8 => ?_)
      refine lv_astore_n (lv' := [(3, .ref (gA G (shc (Int32.toNatClampNeg p1)))), (0, .ref (gA G 0)), (1, .int p1), (2, .int p2)]) hx hb dX10_taken_22 rfl hl (by decide) rfl (fun ls hl => ?_)
      refine lv_aload_n hx hb dX10_taken_23 rfl (lv_at hl 0 rfl) ?_
      refine rc_i hS (run_V hC wX8_isEmpty k662 (e_sc G _ hj8) rfl hP hS (As := []) (rest := []) (mX8_isEmpty l G Rm hj8 rfl) rfl hl.1 (Nat.le_of_ble_eq_true rfl) ⟨by decide, by decide⟩ ⟨Nat.le_refl _, Nat.le_refl _⟩ rfl dX10_taken_24) (fun H locs pb10 hP hS => ?_)
      refine lv_if_eq (tgt := 33) hx hb dX10_taken_27 (by decide) (fun c11 => ?_) (fun c11 => ?_)
      · replace h := it_t c11 h
        refine lv_aload_n hx hb dX10_taken_33 rfl (lv_at hl 0 rfl) ?_
        refine rc_i hS (run_V hC wX8_holdsRow k997 (e_sc G _ hj8) rfl hP hS (As := []) (rest := []) (mX8_holdsRow l G Rm hj8 rfl) rfl hl.1 (Nat.le_of_ble_eq_true rfl) ⟨by decide, by decide⟩ ⟨Nat.le_refl _, Nat.le_refl _⟩ rfl dX10_taken_34) (fun H locs pb13 hP hS => ?_)
        refine lv_if_ne (tgt := 58) hx hb dX10_taken_37 (by decide) (fun c14 => ?_) (fun c14 => ?_)
        · replace h := it_f c14 h
          refine lv_bipush (v := (-12)) hx hb dX10_taken_58 (by decide) ?_
          exact re_i' hC hr hP hS (Option.some.inj h) rfl dX10_taken_60
        · replace h := it_t c14 h
          refine lv_aload_n hx hb dX10_taken_40 rfl (lv_at hl 1 rfl) ?_
          refine r_get (v := .ref (gA G 56)) hC inX10 hP (e_0 G _) rfl 13 (by decide) rfl k245 rfl dX10_taken_41 ?_
          refine lv_aload_n hx hb dX10_taken_44 rfl (lv_at hl 0 rfl) ?_
          refine rc_i hS (run_V hC wX8_bodyHeld k1028 (e_sc G _ hj8) rfl hP hS (As := []) (rest := [.ref (gA G 56)]) (mX8_bodyHeld l G Rm hj8 rfl) rfl hl.1 (Nat.le_of_ble_eq_true rfl) ⟨by decide, by decide⟩ ⟨Nat.le_refl _, Nat.le_refl _⟩ rfl dX10_taken_45) (fun H locs pb16 hP hS => ?_)
          obtain ⟨r18, hq17, h⟩ := bn_x h
          refine rc_i hS (run_V hC wX1_kindOf k1032 (e_56 G _) rfl hP hS (As := [.int (fX8_bodyHeld (Int32.toNatClampNeg p1) C)]) (rest := []) (mX1_kindOf l G Rm hq17) rfl hl.1 (Nat.le_of_ble_eq_true rfl) ⟨by decide, by decide⟩ ⟨Nat.le_refl _, Nat.le_refl _⟩ rfl dX10_taken_48) (fun H locs pb19 hP hS => ?_)
          refine lv_iload_n hx hb dX10_taken_51 rfl (lv_at hl 3 rfl) ?_
          obtain ⟨r21, hq20, h⟩ := bn_x h
          refine rc_i hS (run_S hC wX1_isUnder k1033 hP hS (As := [.int r18, .int p2]) (rest := []) (mX1_isUnder l G Rm hq20) rfl hl.1 (Nat.le_of_ble_eq_true rfl) ⟨by decide, by decide⟩ ⟨Nat.le_refl _, Nat.le_refl _⟩ rfl dX10_taken_52) (fun H locs pb22 hP hS => ?_)
          refine lv_if_ne (tgt := 61) hx hb dX10_taken_55 (by decide) (fun c23 => ?_) (fun c23 => ?_)
          · replace h := it_f c23 h
            refine lv_aload_n hx hb dX10_taken_61 rfl (lv_at hl 1 rfl) ?_
            refine r_get (v := .ref (gA G 56)) hC inX10 hP (e_0 G _) rfl 13 (by decide) rfl k245 rfl dX10_taken_62 ?_
            refine lv_aload_n hx hb dX10_taken_65 rfl (lv_at hl 0 rfl) ?_
            refine rc_i hS (run_V hC wX8_bodyHeld k1028 (e_sc G _ hj8) rfl hP hS (As := []) (rest := [.ref (gA G 56)]) (mX8_bodyHeld l G Rm hj8 rfl) rfl hl.1 (Nat.le_of_ble_eq_true rfl) ⟨by decide, by decide⟩ ⟨Nat.le_refl _, Nat.le_refl _⟩ rfl dX10_taken_66) (fun H locs pb25 hP hS => ?_)
            obtain ⟨r27, hq26, h⟩ := bn_x h
            refine rc_i hS (run_V hC wX1_kindOf k1032 (e_56 G _) rfl hP hS (As := [.int (fX8_bodyHeld (Int32.toNatClampNeg p1) C)]) (rest := []) (mX1_kindOf l G Rm hq26) rfl hl.1 (Nat.le_of_ble_eq_true rfl) ⟨by decide, by decide⟩ ⟨Nat.le_refl _, Nat.le_refl _⟩ rfl dX10_taken_69) (fun H locs pb28 hP hS => ?_)
            exact re_i' hC hr hP hS (Option.some.inj h) rfl dX10_taken_72
          · replace h := it_t c23 h
            refine lv_bipush (v := (-12)) hx hb dX10_taken_58 (by decide) ?_
            exact re_i' hC hr hP hS (Option.some.inj h) rfl dX10_taken_60
      · replace h := it_f c11 h
        refine lv_bipush (v := (-11)) hx hb dX10_taken_30 (by decide) ?_
        exact re_i' hC hr hP hS (Option.some.inj h) rfl dX10_taken_32
    · replace h := it_t c6 h
      refine lv_iconst (v := (-1)) hx hb dX10_taken_14 (by decide) ?_
      exact re_i' hC hr hP hS (Option.some.inj h) rfl dX10_taken_15
set_option maxHeartbeats 4000000 in
set_option maxRecDepth 100000 in
theorem mX10_count (l : Launch) (G : gp) (Rm : Mm) {p1 : Int32} {C : Mm} {r0 : Int32} (h : fX10_count p1 C = r0) : Met l yX10_count (wsy yX10_count cX10_count 2 (some .int)) (rmv 1 20) (va_Pc [.ref (gA G 0), .int p1] (Rl G (C, Rm))) (Qi G PT r0 (C, Rm)) 0 0 (lwA G) := by
  refine met_i [.ref (gA G 0), .int p1] wX10_count.2.2.2.2.2 (Nat.le_of_ble_eq_true rfl) ?_
  intro p e s m args below meth c ls hC hr hP hl
  have hC : Cx G p s m args meth c cX10_count RX10 2 := hC
  have hx := hC.1
  have hb := hC.2.1
  have hown := hC.2.2.2.1
  have hts := hC.2.2.2.2.1
  have hS : va_S (lwA G) s.heap s.heap [] := va_S.rf
  have hl : lv_has ls 2 [(0, .ref (gA G 0)), (1, .int p1)] := hl
  unfold fX10_count at h
  refine lv_iload_n hx hb dX10_count_0 rfl (lv_at hl 1 rfl) ?_
  by_cases c1 : p1 = 0
  · replace h := it_t c1 h
    refine lv_tableIn (off := 43) (tgt := 44) hx hb dX10_count_1 (by rw [c1]; decide) (by rw [c1]; decide) (by rw [c1]; rfl) (by decide) ?_
    refine lv_aload_n hx hb dX10_count_44 rfl (lv_at hl 0 rfl) ?_
    refine r_get (v := .int (C.1 0 2)) hC inX10 hP (e_0 G _) rfl 2 (by decide) rfl k234 rfl dX10_count_45 ?_
    exact re_i' hC hr hP hS h rfl dX10_count_48
  replace h := it_f c1 h
  by_cases c2 : p1 = 1
  · replace h := it_t c2 h
    refine lv_tableIn (off := 48) (tgt := 49) hx hb dX10_count_1 (by rw [c2]; decide) (by rw [c2]; decide) (by rw [c2]; rfl) (by decide) ?_
    refine lv_aload_n hx hb dX10_count_49 rfl (lv_at hl 0 rfl) ?_
    refine r_get (v := .ref (gA G 43)) hC inX10 hP (e_0 G _) rfl 6 (by decide) rfl k238 rfl dX10_count_50 ?_
    refine rc_i hS (run_V hC wX7_size k651 (e_43 G _) rfl hP hS (As := []) (rest := []) (mX7_size l G Rm rfl) rfl hl.1 (Nat.le_of_ble_eq_true rfl) ⟨by decide, by decide⟩ ⟨Nat.le_refl _, Nat.le_refl _⟩ rfl dX10_count_53) (fun H locs pb4 hP hS => ?_)
    exact re_i' hC hr hP hS h rfl dX10_count_56
  replace h := it_f c2 h
  by_cases c5 : p1 = 2
  · replace h := it_t c5 h
    refine lv_tableIn (off := 56) (tgt := 57) hx hb dX10_count_1 (by rw [c5]; decide) (by rw [c5]; decide) (by rw [c5]; rfl) (by decide) ?_
    refine lv_aload_n hx hb dX10_count_57 rfl (lv_at hl 0 rfl) ?_
    refine r_get (v := .ref (gA G 1)) hC inX10 hP (e_0 G _) rfl 0 (by decide) rfl k232 rfl dX10_count_58 ?_
    refine rc_i hS (run_V hC wX9_length k286 (e_1 G _) rfl hP hS (As := []) (rest := []) (mX9_length l G Rm rfl) rfl hl.1 (Nat.le_of_ble_eq_true rfl) ⟨by decide, by decide⟩ ⟨Nat.le_refl _, Nat.le_refl _⟩ rfl dX10_count_61) (fun H locs pb7 hP hS => ?_)
    exact re_i' hC hr hP hS h rfl dX10_count_64
  replace h := it_f c5 h
  by_cases c8 : p1 = 3
  · replace h := it_t c8 h
    refine lv_tableIn (off := 64) (tgt := 65) hx hb dX10_count_1 (by rw [c8]; decide) (by rw [c8]; decide) (by rw [c8]; rfl) (by decide) ?_
    refine lv_aload_n hx hb dX10_count_65 rfl (lv_at hl 0 rfl) ?_
    refine r_get (v := .int (C.1 0 8)) hC inX10 hP (e_0 G _) rfl 8 (by decide) rfl k240 rfl dX10_count_66 ?_
    exact re_i' hC hr hP hS h rfl dX10_count_69
  replace h := it_f c8 h
  by_cases c9 : p1 = 4
  · replace h := it_t c9 h
    refine lv_tableIn (off := 69) (tgt := 70) hx hb dX10_count_1 (by rw [c9]; decide) (by rw [c9]; decide) (by rw [c9]; rfl) (by decide) ?_
    refine lv_aload_n hx hb dX10_count_70 rfl (lv_at hl 0 rfl) ?_
    refine r_get (v := .ref (gA G 51)) hC inX10 hP (e_0 G _) rfl 12 (by decide) rfl k244 rfl dX10_count_71 ?_
    refine rc_i hS (run_V hC wX2_undoable k878 (e_51 G _) rfl hP hS (As := []) (rest := []) (mX2_undoable l G Rm rfl) rfl hl.1 (Nat.le_of_ble_eq_true rfl) ⟨by decide, by decide⟩ ⟨Nat.le_refl _, Nat.le_refl _⟩ rfl dX10_count_74) (fun H locs pb11 hP hS => ?_)
    exact re_i' hC hr hP hS h rfl dX10_count_77
  replace h := it_f c9 h
  by_cases c12 : p1 = 5
  · replace h := it_t c12 h
    refine lv_tableIn (off := 77) (tgt := 78) hx hb dX10_count_1 (by rw [c12]; decide) (by rw [c12]; decide) (by rw [c12]; rfl) (by decide) ?_
    refine lv_aload_n hx hb dX10_count_78 rfl (lv_at hl 0 rfl) ?_
    refine r_get (v := .ref (gA G 56)) hC inX10 hP (e_0 G _) rfl 13 (by decide) rfl k245 rfl dX10_count_79 ?_
    refine rc_i hS (run_V hC wX1_size k914 (e_56 G _) rfl hP hS (As := []) (rest := []) (mX1_size l G Rm rfl) rfl hl.1 (Nat.le_of_ble_eq_true rfl) ⟨by decide, by decide⟩ ⟨Nat.le_refl _, Nat.le_refl _⟩ rfl dX10_count_82) (fun H locs pb14 hP hS => ?_)
    exact re_i' hC hr hP hS h rfl dX10_count_85
  replace h := it_f c12 h
  by_cases c15 : p1 = 6
  · replace h := it_t c15 h
    refine lv_tableIn (off := 85) (tgt := 86) hx hb dX10_count_1 (by rw [c15]; decide) (by rw [c15]; decide) (by rw [c15]; rfl) (by decide) ?_
    refine lv_aload_n hx hb dX10_count_86 rfl (lv_at hl 0 rfl) ?_
    refine r_get (v := .ref (gA G 56)) hC inX10 hP (e_0 G _) rfl 13 (by decide) rfl k245 rfl dX10_count_87 ?_
    refine rc_i hS (run_V hC wX1_ranCount k1040 (e_56 G _) rfl hP hS (As := []) (rest := []) (mX1_ranCount l G Rm rfl) rfl hl.1 (Nat.le_of_ble_eq_true rfl) ⟨by decide, by decide⟩ ⟨Nat.le_refl _, Nat.le_refl _⟩ rfl dX10_count_90) (fun H locs pb17 hP hS => ?_)
    exact re_i' hC hr hP hS h rfl dX10_count_93
  replace h := it_f c15 h
  refine lv_tsD (tgt := 94) hx hb dX10_count_1 rfl (ex_c (ti_ne (z := 0) rfl c1) (ex_c (ti_ne (z := 1) rfl c2) (ex_c (ti_ne (z := 2) rfl c5) (ex_c (ti_ne (z := 3) rfl c8) (ex_c (ti_ne (z := 4) rfl c9) (ex_c (ti_ne (z := 5) rfl c12) (ex_c (ti_ne (z := 6) rfl c15) ex_0))))))) (by decide) (by decide) ?_
  refine lv_iconst (v := (-1)) hx hb dX10_count_94 (by decide) ?_
  exact re_i' hC hr hP hS h rfl dX10_count_95
