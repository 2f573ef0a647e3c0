theorem lw_end {p : Program} {l : Launch} {e : Env} {s : State} {m : MethodId} {below : List Frame} {meth : Method} {c : Code} {b : Nat} {G : gp} (hx : p.tables.exec = Jvm.exec) (hb : c.code = code) (hr : meth.sig.returnType = ret) (hlocks : meth.locks = false) (hgB : gB G = s.heap.size) {pc : Nat} {H : Heap} {locs : List Loc} {ls : Array Slot} (hS : va_S (lwA G) s.heap H locs) (hdg : decode code pc = .ok (.ireturn, 1)) : W p l e room_1 s m #[Value.ref b] below meth c H locs 600000 7302250 (lw_Z below #[Value.ref b] s) (F0 m pc ls [.int 1]) := by
  refine va_forget (fun q hq => ?_) (lw_ret hx hb hr hlocks hdg)
  have h1 : gB G ≤ q.base := hS.2.2 q hq
  omega
set_option maxHeartbeats 40000000 in
set_option maxRecDepth 100000 in
theorem law_loop {p : Program} {l : Launch} {e : Env} {s : State} {m : MethodId} {below : List Frame} {meth : Method} {c : Code} {b L n : Nat} {xs : Nat → Int32} {G : gp} (hC : Cx G p s m #[Value.ref b] meth c cL_law RL 4) (hr : meth.sig.returnType = ret) (hX : va_X b L xs s s.heap) (hbl : b < s.heap.size) (hgB : gB G = s.heap.size) : ∀ (fu : Nat) (y3 : Int32) (C R : Mm) (H : Heap) (locs : List Loc) (ls : Array Slot), fL_h18 n xs L fu y3 C R = some 1 → lv_has ls 4 [(0, .ref b), (1, .ref (gA G 0)), (2, .ref (gA G 72)), (3, .int y3)] → va_P (gD G) vwCl (wld G (C, R)) H → va_S (lwA G) s.heap H locs → W p l e room_1 s m #[Value.ref b] below meth c H locs 600000 7302250 (lw_Z below #[Value.ref b] s) (F0 m 18 ls []) := by
  have hx := hC.1
  have hb := hC.2.1
  have hown := hC.2.2.2.1
  have hts := hC.2.2.2.2.1
  have hlocks := hC.2.2.2.2.2.2.2.2.2.1
  have hbA : ¬ lwA G b := by
    show ¬ gB G ≤ b
    omega
  intro fu
  induction fu with
  | zero =>
    intro y3 C R H locs ls h hl hP hS
    rw [fL_h18.eq_1] at h
    cases h
  | succ fu ih =>
    intro y3 C R H locs ls h hl hP hS
    rw [fL_h18.eq_2] at h
    refine lv_iload_n hx hb dL_law_18 rfl (lv_at hl 3 rfl) ?_
    refine lv_aload_n hx hb dL_law_19 rfl (lv_at hl 0 rfl) ?_
    refine va_slen hx hb hX hbl hbA hS dL_law_20 ?_
    refine lv_bipush (v := 6) hx hb dL_law_21 (by decide) ?_
    refine lv_isub hx hb dL_law_23 ?_
    refine lv_icmp_gt (tgt := 1658) hx hb dL_law_24 (by decide) (fun c1 => ?_) (fun c1 => ?_)
    · replace h := it_t c1 h
      refine lv_iconst (v := 1) hx hb dL_law_1658 (by decide) ?_
      exact lw_end hx hb hr hlocks hgB hS dL_law_1659
    · replace h := it_f c1 h
      refine lv_aload_n hx hb dL_law_27 rfl (lv_at hl 0 rfl) ?_
      refine lv_iload_n hx hb dL_law_28 rfl (lv_at hl 3 rfl) ?_
      by_cases c2 : y3 < (0 : Int32) ∨ L ≤ Int32.toNatClampNeg y3
      · cases it_t c2 h
      replace h := it_f c2 h
      refine va_sld hx hb hX hbl hbA hS c2 dL_law_29 ?_
      refine lv_bipush (v := 63) hx hb dL_law_30 (by decide) ?_
      refine lv_iand hx hb dL_law_32 ?_
      by_cases c3 : ((xs (Int32.toNatClampNeg y3)) &&& 63) = 0
      · replace h := it_t c3 h
        refine lv_tableIn (off := 171) (tgt := 204) hx hb dL_law_33 (by rw [c3]; decide) (by rw [c3]; decide) (by rw [c3]; rfl) (by decide) ?_
        refine lv_aload_n hx hb dL_law_204 rfl (lv_at hl 1 rfl) ?_
        refine lv_aload_n hx hb dL_law_205 rfl (lv_at hl 0 rfl) ?_
        refine lv_iload_n hx hb dL_law_206 rfl (lv_at hl 3 rfl) ?_
        refine lv_iconst (v := 1) hx hb dL_law_207 (by decide) ?_
        refine lv_iadd hx hb dL_law_208 ?_
        by_cases c4 : (y3 + 1) < (0 : Int32) ∨ L ≤ Int32.toNatClampNeg (y3 + 1)
        · cases it_t c4 h
        replace h := it_f c4 h
        refine va_sld hx hb hX hbl hbA hS c4 dL_law_209 ?_
        refine lv_aload_n hx hb dL_law_210 rfl (lv_at hl 0 rfl) ?_
        refine lv_iload_n hx hb dL_law_211 rfl (lv_at hl 3 rfl) ?_
        refine lv_iconst (v := 2) hx hb dL_law_212 (by decide) ?_
        refine lv_iadd hx hb dL_law_213 ?_
        by_cases c5 : (y3 + 2) < (0 : Int32) ∨ L ≤ Int32.toNatClampNeg (y3 + 2)
        · cases it_t c5 h
        replace h := it_f c5 h
        refine va_sld hx hb hX hbl hbA hS c5 dL_law_214 ?_
        obtain ⟨r7, C8, hq6, h⟩ := bp_x h
        refine rc_i hS (run_V hC wX10_feed k278 (e_0 G _) rfl hP hS (As := [.int (xs (Int32.toNatClampNeg (y3 + 1))), .int (xs (Int32.toNatClampNeg (y3 + 2)))]) (rest := []) (mX10_feed l G R hq6) rfl hl.1 (Nat.le_of_ble_eq_true rfl) ⟨Nat.le_of_ble_eq_true rfl, Nat.le_of_ble_eq_true rfl⟩ ⟨Nat.le_of_ble_eq_true rfl, Nat.le_of_ble_eq_true rfl⟩ rfl dL_law_215) (fun H locs pb9 hP hS => ?_)
        refine lv_aload_n hx hb dL_law_218 rfl (lv_at hl 2 rfl) ?_
        refine lv_aload_n hx hb dL_law_219 rfl (lv_at hl 0 rfl) ?_
        refine lv_iload_n hx hb dL_law_220 rfl (lv_at hl 3 rfl) ?_
        refine lv_iconst (v := 1) hx hb dL_law_221 (by decide) ?_
        refine lv_iadd hx hb dL_law_222 ?_
        by_cases c10 : (y3 + 1) < (0 : Int32) ∨ L ≤ Int32.toNatClampNeg (y3 + 1)
        · cases it_t c10 h
        replace h := it_f c10 h
        refine va_sld hx hb hX hbl hbA hS c10 dL_law_223 ?_
        refine lv_aload_n hx hb dL_law_224 rfl (lv_at hl 0 rfl) ?_
        refine lv_iload_n hx hb dL_law_225 rfl (lv_at hl 3 rfl) ?_
        refine lv_iconst (v := 2) hx hb dL_law_226 (by decide) ?_
        refine lv_iadd hx hb dL_law_227 ?_
        by_cases c11 : (y3 + 2) < (0 : Int32) ∨ L ≤ Int32.toNatClampNeg (y3 + 2)
        · cases it_t c11 h
        replace h := it_f c11 h
        refine va_sld hx hb hX hbl hbA hS c11 dL_law_228 ?_
        obtain ⟨r13, C14, hq12, h⟩ := bp_x h
        refine rc_i hS (run_V hC wX11_feed k1224 (e_72 G _) rfl hP hS (As := [.int (xs (Int32.toNatClampNeg (y3 + 1))), .int (xs (Int32.toNatClampNeg (y3 + 2)))]) (rest := [.int r7]) (mX11_feed l G C8 hq12) rfl hl.1 (Nat.le_of_ble_eq_true rfl) ⟨Nat.le_of_ble_eq_true rfl, Nat.le_of_ble_eq_true rfl⟩ ⟨Nat.le_of_ble_eq_true rfl, Nat.le_of_ble_eq_true rfl⟩ rfl dL_law_229) (fun H locs pb15 hP hS => ?_)
        refine lv_icmp_eq (tgt := 1652) hx hb dL_law_232 (by decide) (fun c16 => ?_) (fun c16 => ?_)
        · replace h := it_t c16 h
          obtain ⟨x17, ex17⟩ : ∃ y : Int32, y = y3 + 6 := ⟨_, rfl⟩
          replace h := lt_y ex17 h
          refine lv_iinc (v := x17) (lv' := [(3, .int x17), (0, .ref b), (1, .ref (gA G 0)), (2, .ref (gA G 72))]) hx hb dL_law_1652 hl (k := 3) rfl (by rw [ex17]; rfl) (by decide) rfl (fun ls hl => ?_)
          refine lv_goto (tgt := 18) hx hb dL_law_1655 (by decide) ?_
          exact ih x17 C8 C14 _ _ _ h (lv_sub hl [1, 2, 3, 0] rfl) hP hS
        · replace h := it_f c16 h
          refine lv_iconst (v := 0) hx hb dL_law_235 (by decide) ?_
          exact absurd (Option.some.inj h) (by decide)
      replace h := it_f c3 h
      by_cases c18 : ((xs (Int32.toNatClampNeg y3)) &&& 63) = 1
      · replace h := it_t c18 h
        refine lv_tableIn (off := 204) (tgt := 237) hx hb dL_law_33 (by rw [c18]; decide) (by rw [c18]; decide) (by rw [c18]; rfl) (by decide) ?_
        refine lv_aload_n hx hb dL_law_237 rfl (lv_at hl 1 rfl) ?_
        obtain ⟨r20, C21, hq19, h⟩ := bp_x h
        refine rc_i hS (run_V hC wX10_head k290 (e_0 G _) rfl hP hS (As := []) (rest := []) (mX10_head l G R hq19) rfl hl.1 (Nat.le_of_ble_eq_true rfl) ⟨Nat.le_of_ble_eq_true rfl, Nat.le_of_ble_eq_true rfl⟩ ⟨Nat.le_of_ble_eq_true rfl, Nat.le_of_ble_eq_true rfl⟩ rfl dL_law_238) (fun H locs pb22 hP hS => ?_)
        refine lv_aload_n hx hb dL_law_241 rfl (lv_at hl 2 rfl) ?_
        obtain ⟨r24, C25, hq23, h⟩ := bp_x h
        refine rc_i hS (run_V hC wX11_head k1279 (e_72 G _) rfl hP hS (As := []) (rest := [.int r20]) (mX11_head l G C21 hq23) rfl hl.1 (Nat.le_of_ble_eq_true rfl) ⟨Nat.le_of_ble_eq_true rfl, Nat.le_of_ble_eq_true rfl⟩ ⟨Nat.le_of_ble_eq_true rfl, Nat.le_of_ble_eq_true rfl⟩ rfl dL_law_242) (fun H locs pb26 hP hS => ?_)
        refine lv_icmp_eq (tgt := 1652) hx hb dL_law_245 (by decide) (fun c27 => ?_) (fun c27 => ?_)
        · replace h := it_t c27 h
          obtain ⟨x28, ex28⟩ : ∃ y : Int32, y = y3 + 6 := ⟨_, rfl⟩
          replace h := lt_y ex28 h
          refine lv_iinc (v := x28) (lv' := [(3, .int x28), (0, .ref b), (1, .ref (gA G 0)), (2, .ref (gA G 72))]) hx hb dL_law_1652 hl (k := 3) rfl (by rw [ex28]; rfl) (by decide) rfl (fun ls hl => ?_)
          refine lv_goto (tgt := 18) hx hb dL_law_1655 (by decide) ?_
          exact ih x28 C21 C25 _ _ _ h (lv_sub hl [1, 2, 3, 0] rfl) hP hS
        · replace h := it_f c27 h
          refine lv_iconst (v := 0) hx hb dL_law_248 (by decide) ?_
          exact absurd (Option.some.inj h) (by decide)
      replace h := it_f c18 h
      by_cases c29 : ((xs (Int32.toNatClampNeg y3)) &&& 63) = 2
      · replace h := it_t c29 h
        refine lv_tableIn (off := 217) (tgt := 250) hx hb dL_law_33 (by rw [c29]; decide) (by rw [c29]; decide) (by rw [c29]; rfl) (by decide) ?_
        refine lv_aload_n hx hb dL_law_250 rfl (lv_at hl 1 rfl) ?_
        refine lv_aload_n hx hb dL_law_251 rfl (lv_at hl 0 rfl) ?_
        refine lv_iload_n hx hb dL_law_252 rfl (lv_at hl 3 rfl) ?_
        refine lv_iconst (v := 1) hx hb dL_law_253 (by decide) ?_
        refine lv_iadd hx hb dL_law_254 ?_
        by_cases c30 : (y3 + 1) < (0 : Int32) ∨ L ≤ Int32.toNatClampNeg (y3 + 1)
        · cases it_t c30 h
        replace h := it_f c30 h
        refine va_sld hx hb hX hbl hbA hS c30 dL_law_255 ?_
        refine lv_aload_n hx hb dL_law_256 rfl (lv_at hl 0 rfl) ?_
        refine lv_iload_n hx hb dL_law_257 rfl (lv_at hl 3 rfl) ?_
        refine lv_iconst (v := 2) hx hb dL_law_258 (by decide) ?_
        refine lv_iadd hx hb dL_law_259 ?_
        by_cases c31 : (y3 + 2) < (0 : Int32) ∨ L ≤ Int32.toNatClampNeg (y3 + 2)
        · cases it_t c31 h
        replace h := it_f c31 h
        refine va_sld hx hb hX hbl hbA hS c31 dL_law_260 ?_
        obtain ⟨r33, hq32, h⟩ := bn_x h
        refine rc_i hS (run_V hC wX10_of k332 (e_0 G _) rfl hP hS (As := [.int (xs (Int32.toNatClampNeg (y3 + 1))), .int (xs (Int32.toNatClampNeg (y3 + 2)))]) (rest := []) (mX10_of l G R hq32) rfl hl.1 (Nat.le_of_ble_eq_true rfl) ⟨Nat.le_of_ble_eq_true rfl, Nat.le_of_ble_eq_true rfl⟩ ⟨Nat.le_of_ble_eq_true rfl, Nat.le_of_ble_eq_true rfl⟩ rfl dL_law_261) (fun H locs pb34 hP hS => ?_)
        refine lv_aload_n hx hb dL_law_264 rfl (lv_at hl 2 rfl) ?_
        refine lv_aload_n hx hb dL_law_265 rfl (lv_at hl 0 rfl) ?_
        refine lv_iload_n hx hb dL_law_266 rfl (lv_at hl 3 rfl) ?_
        refine lv_iconst (v := 1) hx hb dL_law_267 (by decide) ?_
        refine lv_iadd hx hb dL_law_268 ?_
        by_cases c35 : (y3 + 1) < (0 : Int32) ∨ L ≤ Int32.toNatClampNeg (y3 + 1)
        · cases it_t c35 h
        replace h := it_f c35 h
        refine va_sld hx hb hX hbl hbA hS c35 dL_law_269 ?_
        refine lv_aload_n hx hb dL_law_270 rfl (lv_at hl 0 rfl) ?_
        refine lv_iload_n hx hb dL_law_271 rfl (lv_at hl 3 rfl) ?_
        refine lv_iconst (v := 2) hx hb dL_law_272 (by decide) ?_
        refine lv_iadd hx hb dL_law_273 ?_
        by_cases c36 : (y3 + 2) < (0 : Int32) ∨ L ≤ Int32.toNatClampNeg (y3 + 2)
        · cases it_t c36 h
        replace h := it_f c36 h
        refine va_sld hx hb hX hbl hbA hS c36 dL_law_274 ?_
        obtain ⟨r38, hq37, h⟩ := bn_x h
        refine rc_i hS (run_V hC wX11_of k1293 (e_72 G _) rfl hP hS (As := [.int (xs (Int32.toNatClampNeg (y3 + 1))), .int (xs (Int32.toNatClampNeg (y3 + 2)))]) (rest := [.int r33]) (mX11_of l G C hq37) rfl hl.1 (Nat.le_of_ble_eq_true rfl) ⟨Nat.le_of_ble_eq_true rfl, Nat.le_of_ble_eq_true rfl⟩ ⟨Nat.le_of_ble_eq_true rfl, Nat.le_of_ble_eq_true rfl⟩ rfl dL_law_275) (fun H locs pb39 hP hS => ?_)
        refine lv_icmp_eq (tgt := 1652) hx hb dL_law_278 (by decide) (fun c40 => ?_) (fun c40 => ?_)
        · replace h := it_t c40 h
          obtain ⟨x41, ex41⟩ : ∃ y : Int32, y = y3 + 6 := ⟨_, rfl⟩
          replace h := lt_y ex41 h
          refine lv_iinc (v := x41) (lv' := [(3, .int x41), (0, .ref b), (1, .ref (gA G 0)), (2, .ref (gA G 72))]) hx hb dL_law_1652 hl (k := 3) rfl (by rw [ex41]; rfl) (by decide) rfl (fun ls hl => ?_)
          refine lv_goto (tgt := 18) hx hb dL_law_1655 (by decide) ?_
          exact ih x41 C R _ _ _ h (lv_sub hl [1, 2, 3, 0] rfl) hP hS
        · replace h := it_f c40 h
          refine lv_iconst (v := 0) hx hb dL_law_281 (by decide) ?_
          exact absurd (Option.some.inj h) (by decide)
      replace h := it_f c29 h
      by_cases c42 : ((xs (Int32.toNatClampNeg y3)) &&& 63) = 3
      · replace h := it_t c42 h
        refine lv_tableIn (off := 250) (tgt := 283) hx hb dL_law_33 (by rw [c42]; decide) (by rw [c42]; decide) (by rw [c42]; rfl) (by decide) ?_
        refine lv_aload_n hx hb dL_law_283 rfl (lv_at hl 1 rfl) ?_
        refine lv_aload_n hx hb dL_law_284 rfl (lv_at hl 0 rfl) ?_
        refine lv_iload_n hx hb dL_law_285 rfl (lv_at hl 3 rfl) ?_
        refine lv_iconst (v := 1) hx hb dL_law_286 (by decide) ?_
        refine lv_iadd hx hb dL_law_287 ?_
        by_cases c43 : (y3 + 1) < (0 : Int32) ∨ L ≤ Int32.toNatClampNeg (y3 + 1)
        · cases it_t c43 h
        replace h := it_f c43 h
        refine va_sld hx hb hX hbl hbA hS c43 dL_law_288 ?_
        refine lv_aload_n hx hb dL_law_289 rfl (lv_at hl 0 rfl) ?_
        refine lv_iload_n hx hb dL_law_290 rfl (lv_at hl 3 rfl) ?_
        refine lv_iconst (v := 2) hx hb dL_law_291 (by decide) ?_
        refine lv_iadd hx hb dL_law_292 ?_
        by_cases c44 : (y3 + 2) < (0 : Int32) ∨ L ≤ Int32.toNatClampNeg (y3 + 2)
        · cases it_t c44 h
        replace h := it_f c44 h
        refine va_sld hx hb hX hbl hbA hS c44 dL_law_293 ?_
        refine lv_aload_n hx hb dL_law_294 rfl (lv_at hl 0 rfl) ?_
        refine lv_iload_n hx hb dL_law_295 rfl (lv_at hl 3 rfl) ?_
        refine lv_iconst (v := 3) hx hb dL_law_296 (by decide) ?_
        refine lv_iadd hx hb dL_law_297 ?_
        by_cases c45 : (y3 + 3) < (0 : Int32) ∨ L ≤ Int32.toNatClampNeg (y3 + 3)
        · cases it_t c45 h
        replace h := it_f c45 h
        refine va_sld hx hb hX hbl hbA hS c45 dL_law_298 ?_
        obtain ⟨r47, C48, hq46, h⟩ := bp_x h
        refine rc_i hS (run_V hC wX10_turn k348 (e_0 G _) rfl hP hS (As := [.int (xs (Int32.toNatClampNeg (y3 + 1))), .int (xs (Int32.toNatClampNeg (y3 + 2))), .int (xs (Int32.toNatClampNeg (y3 + 3)))]) (rest := []) (mX10_turn l G R hq46) rfl hl.1 (Nat.le_of_ble_eq_true rfl) ⟨Nat.le_of_ble_eq_true rfl, Nat.le_of_ble_eq_true rfl⟩ ⟨Nat.le_of_ble_eq_true rfl, Nat.le_of_ble_eq_true rfl⟩ rfl dL_law_299) (fun H locs pb49 hP hS => ?_)
        refine lv_aload_n hx hb dL_law_302 rfl (lv_at hl 2 rfl) ?_
        refine lv_aload_n hx hb dL_law_303 rfl (lv_at hl 0 rfl) ?_
        refine lv_iload_n hx hb dL_law_304 rfl (lv_at hl 3 rfl) ?_
        refine lv_iconst (v := 1) hx hb dL_law_305 (by decide) ?_
        refine lv_iadd hx hb dL_law_306 ?_
        by_cases c50 : (y3 + 1) < (0 : Int32) ∨ L ≤ Int32.toNatClampNeg (y3 + 1)
        · cases it_t c50 h
        replace h := it_f c50 h
        refine va_sld hx hb hX hbl hbA hS c50 dL_law_307 ?_
        refine lv_aload_n hx hb dL_law_308 rfl (lv_at hl 0 rfl) ?_
        refine lv_iload_n hx hb dL_law_309 rfl (lv_at hl 3 rfl) ?_
        refine lv_iconst (v := 2) hx hb dL_law_310 (by decide) ?_
        refine lv_iadd hx hb dL_law_311 ?_
        by_cases c51 : (y3 + 2) < (0 : Int32) ∨ L ≤ Int32.toNatClampNeg (y3 + 2)
        · cases it_t c51 h
        replace h := it_f c51 h
        refine va_sld hx hb hX hbl hbA hS c51 dL_law_312 ?_
        refine lv_aload_n hx hb dL_law_313 rfl (lv_at hl 0 rfl) ?_
        refine lv_iload_n hx hb dL_law_314 rfl (lv_at hl 3 rfl) ?_
        refine lv_iconst (v := 3) hx hb dL_law_315 (by decide) ?_
        refine lv_iadd hx hb dL_law_316 ?_
        by_cases c52 : (y3 + 3) < (0 : Int32) ∨ L ≤ Int32.toNatClampNeg (y3 + 3)
        · cases it_t c52 h
        replace h := it_f c52 h
        refine va_sld hx hb hX hbl hbA hS c52 dL_law_317 ?_
        obtain ⟨r54, C55, hq53, h⟩ := bp_x h
        refine rc_i hS (run_V hC wX11_turn k1305 (e_72 G _) rfl hP hS (As := [.int (xs (Int32.toNatClampNeg (y3 + 1))), .int (xs (Int32.toNatClampNeg (y3 + 2))), .int (xs (Int32.toNatClampNeg (y3 + 3)))]) (rest := [.int r47]) (mX11_turn l G C48 hq53) rfl hl.1 (Nat.le_of_ble_eq_true rfl) ⟨Nat.le_of_ble_eq_true rfl, Nat.le_of_ble_eq_true rfl⟩ ⟨Nat.le_of_ble_eq_true rfl, Nat.le_of_ble_eq_true rfl⟩ rfl dL_law_318) (fun H locs pb56 hP hS => ?_)
        refine lv_icmp_eq (tgt := 1652) hx hb dL_law_321 (by decide) (fun c57 => ?_) (fun c57 => ?_)
        · replace h := it_t c57 h
          obtain ⟨x58, ex58⟩ : ∃ y : Int32, y = y3 + 6 := ⟨_, rfl⟩
          replace h := lt_y ex58 h
          refine lv_iinc (v := x58) (lv' := [(3, .int x58), (0, .ref b), (1, .ref (gA G 0)), (2, .ref (gA G 72))]) hx hb dL_law_1652 hl (k := 3) rfl (by rw [ex58]; rfl) (by decide) rfl (fun ls hl => ?_)
          refine lv_goto (tgt := 18) hx hb dL_law_1655 (by decide) ?_
          exact ih x58 C48 C55 _ _ _ h (lv_sub hl [1, 2, 3, 0] rfl) hP hS
        · replace h := it_f c57 h
          refine lv_iconst (v := 0) hx hb dL_law_324 (by decide) ?_
          exact absurd (Option.some.inj h) (by decide)
      replace h := it_f c42 h
      by_cases c59 : ((xs (Int32.toNatClampNeg y3)) &&& 63) = 4
      · replace h := it_t c59 h
        refine lv_tableIn (off := 293) (tgt := 326) hx hb dL_law_33 (by rw [c59]; decide) (by rw [c59]; decide) (by rw [c59]; rfl) (by decide) ?_
        refine lv_aload_n hx hb dL_law_326 rfl (lv_at hl 1 rfl) ?_
        obtain ⟨r61, C62, hq60, h⟩ := bp_x h
        refine rc_i hS (run_V hC wX10_choice k366 (e_0 G _) rfl hP hS (As := []) (rest := []) (mX10_choice l G R hq60) rfl hl.1 (Nat.le_of_ble_eq_true rfl) ⟨Nat.le_of_ble_eq_true rfl, Nat.le_of_ble_eq_true rfl⟩ ⟨Nat.le_of_ble_eq_true rfl, Nat.le_of_ble_eq_true rfl⟩ rfl dL_law_327) (fun H locs pb63 hP hS => ?_)
        refine lv_aload_n hx hb dL_law_330 rfl (lv_at hl 2 rfl) ?_
        obtain ⟨r65, C66, hq64, h⟩ := bp_x h
        refine rc_i hS (run_V hC wX11_choice k1232 (e_72 G _) rfl hP hS (As := []) (rest := [.int r61]) (mX11_choice l G C62 hq64) rfl hl.1 (Nat.le_of_ble_eq_true rfl) ⟨Nat.le_of_ble_eq_true rfl, Nat.le_of_ble_eq_true rfl⟩ ⟨Nat.le_of_ble_eq_true rfl, Nat.le_of_ble_eq_true rfl⟩ rfl dL_law_331) (fun H locs pb67 hP hS => ?_)
        refine lv_icmp_eq (tgt := 1652) hx hb dL_law_334 (by decide) (fun c68 => ?_) (fun c68 => ?_)
        · replace h := it_t c68 h
          obtain ⟨x69, ex69⟩ : ∃ y : Int32, y = y3 + 6 := ⟨_, rfl⟩
          replace h := lt_y ex69 h
          refine lv_iinc (v := x69) (lv' := [(3, .int x69), (0, .ref b), (1, .ref (gA G 0)), (2, .ref (gA G 72))]) hx hb dL_law_1652 hl (k := 3) rfl (by rw [ex69]; rfl) (by decide) rfl (fun ls hl => ?_)
          refine lv_goto (tgt := 18) hx hb dL_law_1655 (by decide) ?_
          exact ih x69 C62 C66 _ _ _ h (lv_sub hl [1, 2, 3, 0] rfl) hP hS
        · replace h := it_f c68 h
          refine lv_iconst (v := 0) hx hb dL_law_337 (by decide) ?_
          exact absurd (Option.some.inj h) (by decide)
      replace h := it_f c59 h
      by_cases c70 : ((xs (Int32.toNatClampNeg y3)) &&& 63) = 5
      · replace h := it_t c70 h
        refine lv_tableIn (off := 306) (tgt := 339) hx hb dL_law_33 (by rw [c70]; decide) (by rw [c70]; decide) (by rw [c70]; rfl) (by decide) ?_
        refine lv_aload_n hx hb dL_law_339 rfl (lv_at hl 1 rfl) ?_
        refine lv_aload_n hx hb dL_law_340 rfl (lv_at hl 0 rfl) ?_
        refine lv_iload_n hx hb dL_law_341 rfl (lv_at hl 3 rfl) ?_
        refine lv_iconst (v := 1) hx hb dL_law_342 (by decide) ?_
        refine lv_iadd hx hb dL_law_343 ?_
        by_cases c71 : (y3 + 1) < (0 : Int32) ∨ L ≤ Int32.toNatClampNeg (y3 + 1)
        · cases it_t c71 h
        replace h := it_f c71 h
        refine va_sld hx hb hX hbl hbA hS c71 dL_law_344 ?_
        refine lv_aload_n hx hb dL_law_345 rfl (lv_at hl 0 rfl) ?_
        refine lv_iload_n hx hb dL_law_346 rfl (lv_at hl 3 rfl) ?_
        refine lv_iconst (v := 2) hx hb dL_law_347 (by decide) ?_
        refine lv_iadd hx hb dL_law_348 ?_
        by_cases c72 : (y3 + 2) < (0 : Int32) ∨ L ≤ Int32.toNatClampNeg (y3 + 2)
        · cases it_t c72 h
        replace h := it_f c72 h
        refine va_sld hx hb hX hbl hbA hS c72 dL_law_349 ?_
        refine lv_aload_n hx hb dL_law_350 rfl (lv_at hl 0 rfl) ?_
        refine lv_iload_n hx hb dL_law_351 rfl (lv_at hl 3 rfl) ?_
        refine lv_iconst (v := 3) hx hb dL_law_352 (by decide) ?_
        refine lv_iadd hx hb dL_law_353 ?_
        by_cases c73 : (y3 + 3) < (0 : Int32) ∨ L ≤ Int32.toNatClampNeg (y3 + 3)
        · cases it_t c73 h
        replace h := it_f c73 h
        refine va_sld hx hb hX hbl hbA hS c73 dL_law_354 ?_
        obtain ⟨r75, C76, hq74, h⟩ := bp_x h
        refine rc_i hS (run_V hC wX10_way k438 (e_0 G _) rfl hP hS (As := [.int (xs (Int32.toNatClampNeg (y3 + 1))), .int (xs (Int32.toNatClampNeg (y3 + 2))), .int (xs (Int32.toNatClampNeg (y3 + 3)))]) (rest := []) (mX10_way l G R hq74) rfl hl.1 (Nat.le_of_ble_eq_true rfl) ⟨Nat.le_of_ble_eq_true rfl, Nat.le_of_ble_eq_true rfl⟩ ⟨Nat.le_of_ble_eq_true rfl, Nat.le_of_ble_eq_true rfl⟩ rfl dL_law_355) (fun H locs pb77 hP hS => ?_)
        refine lv_aload_n hx hb dL_law_358 rfl (lv_at hl 2 rfl) ?_
        refine lv_aload_n hx hb dL_law_359 rfl (lv_at hl 0 rfl) ?_
        refine lv_iload_n hx hb dL_law_360 rfl (lv_at hl 3 rfl) ?_
        refine lv_iconst (v := 1) hx hb dL_law_361 (by decide) ?_
        refine lv_iadd hx hb dL_law_362 ?_
        by_cases c78 : (y3 + 1) < (0 : Int32) ∨ L ≤ Int32.toNatClampNeg (y3 + 1)
        · cases it_t c78 h
        replace h := it_f c78 h
        refine va_sld hx hb hX hbl hbA hS c78 dL_law_363 ?_
        refine lv_aload_n hx hb dL_law_364 rfl (lv_at hl 0 rfl) ?_
        refine lv_iload_n hx hb dL_law_365 rfl (lv_at hl 3 rfl) ?_
        refine lv_iconst (v := 2) hx hb dL_law_366 (by decide) ?_
        refine lv_iadd hx hb dL_law_367 ?_
        by_cases c79 : (y3 + 2) < (0 : Int32) ∨ L ≤ Int32.toNatClampNeg (y3 + 2)
        · cases it_t c79 h
        replace h := it_f c79 h
        refine va_sld hx hb hX hbl hbA hS c79 dL_law_368 ?_
        refine lv_aload_n hx hb dL_law_369 rfl (lv_at hl 0 rfl) ?_
        refine lv_iload_n hx hb dL_law_370 rfl (lv_at hl 3 rfl) ?_
        refine lv_iconst (v := 3) hx hb dL_law_371 (by decide) ?_
        refine lv_iadd hx hb dL_law_372 ?_
        by_cases c80 : (y3 + 3) < (0 : Int32) ∨ L ≤ Int32.toNatClampNeg (y3 + 3)
        · cases it_t c80 h
        replace h := it_f c80 h
        refine va_sld hx hb hX hbl hbA hS c80 dL_law_373 ?_
        obtain ⟨r82, C83, hq81, h⟩ := bp_x h
        refine rc_i hS (run_V hC wX11_way k1335 (e_72 G _) rfl hP hS (As := [.int (xs (Int32.toNatClampNeg (y3 + 1))), .int (xs (Int32.toNatClampNeg (y3 + 2))), .int (xs (Int32.toNatClampNeg (y3 + 3)))]) (rest := [.int r75]) (mX11_way l G C76 hq81) rfl hl.1 (Nat.le_of_ble_eq_true rfl) ⟨Nat.le_of_ble_eq_true rfl, Nat.le_of_ble_eq_true rfl⟩ ⟨Nat.le_of_ble_eq_true rfl, Nat.le_of_ble_eq_true rfl⟩ rfl dL_law_374) (fun H locs pb84 hP hS => ?_)
        refine lv_icmp_eq (tgt := 1652) hx hb dL_law_377 (by decide) (fun c85 => ?_) (fun c85 => ?_)
        · replace h := it_t c85 h
          obtain ⟨x86, ex86⟩ : ∃ y : Int32, y = y3 + 6 := ⟨_, rfl⟩
          replace h := lt_y ex86 h
          refine lv_iinc (v := x86) (lv' := [(3, .int x86), (0, .ref b), (1, .ref (gA G 0)), (2, .ref (gA G 72))]) hx hb dL_law_1652 hl (k := 3) rfl (by rw [ex86]; rfl) (by decide) rfl (fun ls hl => ?_)
          refine lv_goto (tgt := 18) hx hb dL_law_1655 (by decide) ?_
          exact ih x86 C76 C83 _ _ _ h (lv_sub hl [1, 2, 3, 0] rfl) hP hS
        · replace h := it_f c85 h
          refine lv_iconst (v := 0) hx hb dL_law_380 (by decide) ?_
          exact absurd (Option.some.inj h) (by decide)
      replace h := it_f c70 h
      by_cases c87 : ((xs (Int32.toNatClampNeg y3)) &&& 63) = 6
      · replace h := it_t c87 h
        refine lv_tableIn (off := 349) (tgt := 382) hx hb dL_law_33 (by rw [c87]; decide) (by rw [c87]; decide) (by rw [c87]; rfl) (by decide) ?_
        refine lv_aload_n hx hb dL_law_382 rfl (lv_at hl 1 rfl) ?_
        refine lv_aload_n hx hb dL_law_383 rfl (lv_at hl 0 rfl) ?_
        refine lv_iload_n hx hb dL_law_384 rfl (lv_at hl 3 rfl) ?_
        refine lv_iconst (v := 1) hx hb dL_law_385 (by decide) ?_
        refine lv_iadd hx hb dL_law_386 ?_
        by_cases c88 : (y3 + 1) < (0 : Int32) ∨ L ≤ Int32.toNatClampNeg (y3 + 1)
        · cases it_t c88 h
        replace h := it_f c88 h
        refine va_sld hx hb hX hbl hbA hS c88 dL_law_387 ?_
        refine lv_aload_n hx hb dL_law_388 rfl (lv_at hl 0 rfl) ?_
        refine lv_iload_n hx hb dL_law_389 rfl (lv_at hl 3 rfl) ?_
        refine lv_iconst (v := 2) hx hb dL_law_390 (by decide) ?_
        refine lv_iadd hx hb dL_law_391 ?_
        by_cases c89 : (y3 + 2) < (0 : Int32) ∨ L ≤ Int32.toNatClampNeg (y3 + 2)
        · cases it_t c89 h
        replace h := it_f c89 h
        refine va_sld hx hb hX hbl hbA hS c89 dL_law_392 ?_
        refine lv_aload_n hx hb dL_law_393 rfl (lv_at hl 0 rfl) ?_
        refine lv_iload_n hx hb dL_law_394 rfl (lv_at hl 3 rfl) ?_
        refine lv_iconst (v := 3) hx hb dL_law_395 (by decide) ?_
        refine lv_iadd hx hb dL_law_396 ?_
        by_cases c90 : (y3 + 3) < (0 : Int32) ∨ L ≤ Int32.toNatClampNeg (y3 + 3)
        · cases it_t c90 h
        replace h := it_f c90 h
        refine va_sld hx hb hX hbl hbA hS c90 dL_law_397 ?_
        refine lv_aload_n hx hb dL_law_398 rfl (lv_at hl 0 rfl) ?_
        refine lv_iload_n hx hb dL_law_399 rfl (lv_at hl 3 rfl) ?_
        refine lv_iconst (v := 4) hx hb dL_law_400 (by decide) ?_
        refine lv_iadd hx hb dL_law_401 ?_
        by_cases c91 : (y3 + 4) < (0 : Int32) ∨ L ≤ Int32.toNatClampNeg (y3 + 4)
        · cases it_t c91 h
        replace h := it_f c91 h
        refine va_sld hx hb hX hbl hbA hS c91 dL_law_402 ?_
        obtain ⟨r93, C94, hq92, h⟩ := bp_x h
        refine rc_i hS (run_V hC wX10_step k563 (e_0 G _) rfl hP hS (As := [.int (xs (Int32.toNatClampNeg (y3 + 1))), .int (xs (Int32.toNatClampNeg (y3 + 2))), .int (xs (Int32.toNatClampNeg (y3 + 3))), .int (xs (Int32.toNatClampNeg (y3 + 4)))]) (rest := []) (mX10_step l G R hq92) rfl hl.1 (Nat.le_of_ble_eq_true rfl) ⟨Nat.le_of_ble_eq_true rfl, Nat.le_of_ble_eq_true rfl⟩ ⟨Nat.le_of_ble_eq_true rfl, Nat.le_of_ble_eq_true rfl⟩ rfl dL_law_403) (fun H locs pb95 hP hS => ?_)
        refine lv_aload_n hx hb dL_law_406 rfl (lv_at hl 2 rfl) ?_
        refine lv_aload_n hx hb dL_law_407 rfl (lv_at hl 0 rfl) ?_
        refine lv_iload_n hx hb dL_law_408 rfl (lv_at hl 3 rfl) ?_
        refine lv_iconst (v := 1) hx hb dL_law_409 (by decide) ?_
        refine lv_iadd hx hb dL_law_410 ?_
        by_cases c96 : (y3 + 1) < (0 : Int32) ∨ L ≤ Int32.toNatClampNeg (y3 + 1)
        · cases it_t c96 h
        replace h := it_f c96 h
        refine va_sld hx hb hX hbl hbA hS c96 dL_law_411 ?_
        refine lv_aload_n hx hb dL_law_412 rfl (lv_at hl 0 rfl) ?_
        refine lv_iload_n hx hb dL_law_413 rfl (lv_at hl 3 rfl) ?_
        refine lv_iconst (v := 2) hx hb dL_law_414 (by decide) ?_
        refine lv_iadd hx hb dL_law_415 ?_
        by_cases c97 : (y3 + 2) < (0 : Int32) ∨ L ≤ Int32.toNatClampNeg (y3 + 2)
        · cases it_t c97 h
        replace h := it_f c97 h
        refine va_sld hx hb hX hbl hbA hS c97 dL_law_416 ?_
        refine lv_aload_n hx hb dL_law_417 rfl (lv_at hl 0 rfl) ?_
        refine lv_iload_n hx hb dL_law_418 rfl (lv_at hl 3 rfl) ?_
        refine lv_iconst (v := 3) hx hb dL_law_419 (by decide) ?_
        refine lv_iadd hx hb dL_law_420 ?_
        by_cases c98 : (y3 + 3) < (0 : Int32) ∨ L ≤ Int32.toNatClampNeg (y3 + 3)
        · cases it_t c98 h
        replace h := it_f c98 h
        refine va_sld hx hb hX hbl hbA hS c98 dL_law_421 ?_
        refine lv_aload_n hx hb dL_law_422 rfl (lv_at hl 0 rfl) ?_
        refine lv_iload_n hx hb dL_law_423 rfl (lv_at hl 3 rfl) ?_
        refine lv_iconst (v := 4) hx hb dL_law_424 (by decide) ?_
        refine lv_iadd hx hb dL_law_425 ?_
        by_cases c99 : (y3 + 4) < (0 : Int32) ∨ L ≤ Int32.toNatClampNeg (y3 + 4)
        · cases it_t c99 h
        replace h := it_f c99 h
        refine va_sld hx hb hX hbl hbA hS c99 dL_law_426 ?_
        obtain ⟨r101, C102, hq100, h⟩ := bp_x h
        refine rc_i hS (run_V hC wX11_step k1408 (e_72 G _) rfl hP hS (As := [.int (xs (Int32.toNatClampNeg (y3 + 1))), .int (xs (Int32.toNatClampNeg (y3 + 2))), .int (xs (Int32.toNatClampNeg (y3 + 3))), .int (xs (Int32.toNatClampNeg (y3 + 4)))]) (rest := [.int r93]) (mX11_step l G C94 hq100) rfl hl.1 (Nat.le_of_ble_eq_true rfl) ⟨Nat.le_of_ble_eq_true rfl, Nat.le_of_ble_eq_true rfl⟩ ⟨Nat.le_of_ble_eq_true rfl, Nat.le_of_ble_eq_true rfl⟩ rfl dL_law_427) (fun H locs pb103 hP hS => ?_)
        refine lv_icmp_eq (tgt := 1652) hx hb dL_law_430 (by decide) (fun c104 => ?_) (fun c104 => ?_)
        · replace h := it_t c104 h
          obtain ⟨x105, ex105⟩ : ∃ y : Int32, y = y3 + 6 := ⟨_, rfl⟩
          replace h := lt_y ex105 h
          refine lv_iinc (v := x105) (lv' := [(3, .int x105), (0, .ref b), (1, .ref (gA G 0)), (2, .ref (gA G 72))]) hx hb dL_law_1652 hl (k := 3) rfl (by rw [ex105]; rfl) (by decide) rfl (fun ls hl => ?_)
          refine lv_goto (tgt := 18) hx hb dL_law_1655 (by decide) ?_
          exact ih x105 C94 C102 _ _ _ h (lv_sub hl [1, 2, 3, 0] rfl) hP hS
        · replace h := it_f c104 h
          refine lv_iconst (v := 0) hx hb dL_law_433 (by decide) ?_
          exact absurd (Option.some.inj h) (by decide)
      replace h := it_f c87 h
      by_cases c106 : ((xs (Int32.toNatClampNeg y3)) &&& 63) = 7
      · replace h := it_t c106 h
        refine lv_tableIn (off := 402) (tgt := 435) hx hb dL_law_33 (by rw [c106]; decide) (by rw [c106]; decide) (by rw [c106]; rfl) (by decide) ?_
        refine lv_aload_n hx hb dL_law_435 rfl (lv_at hl 1 rfl) ?_
        refine lv_aload_n hx hb dL_law_436 rfl (lv_at hl 0 rfl) ?_
        refine lv_iload_n hx hb dL_law_437 rfl (lv_at hl 3 rfl) ?_
        refine lv_iconst (v := 1) hx hb dL_law_438 (by decide) ?_
        refine lv_iadd hx hb dL_law_439 ?_
        by_cases c107 : (y3 + 1) < (0 : Int32) ∨ L ≤ Int32.toNatClampNeg (y3 + 1)
        · cases it_t c107 h
        replace h := it_f c107 h
        refine va_sld hx hb hX hbl hbA hS c107 dL_law_440 ?_
        refine lv_aload_n hx hb dL_law_441 rfl (lv_at hl 0 rfl) ?_
        refine lv_iload_n hx hb dL_law_442 rfl (lv_at hl 3 rfl) ?_
        refine lv_iconst (v := 2) hx hb dL_law_443 (by decide) ?_
        refine lv_iadd hx hb dL_law_444 ?_
        by_cases c108 : (y3 + 2) < (0 : Int32) ∨ L ≤ Int32.toNatClampNeg (y3 + 2)
        · cases it_t c108 h
        replace h := it_f c108 h
        refine va_sld hx hb hX hbl hbA hS c108 dL_law_445 ?_
        obtain ⟨r110, C111, hq109, h⟩ := bp_x h
        refine rc_i hS (run_V hC wX10_chosen k573 (e_0 G _) rfl hP hS (As := [.int (xs (Int32.toNatClampNeg (y3 + 1))), .int (xs (Int32.toNatClampNeg (y3 + 2)))]) (rest := []) (mX10_chosen l G R hq109) rfl hl.1 (Nat.le_of_ble_eq_true rfl) ⟨Nat.le_of_ble_eq_true rfl, Nat.le_of_ble_eq_true rfl⟩ ⟨Nat.le_of_ble_eq_true rfl, Nat.le_of_ble_eq_true rfl⟩ rfl dL_law_446) (fun H locs pb112 hP hS => ?_)
        refine lv_aload_n hx hb dL_law_449 rfl (lv_at hl 2 rfl) ?_
        refine lv_aload_n hx hb dL_law_450 rfl (lv_at hl 0 rfl) ?_
        refine lv_iload_n hx hb dL_law_451 rfl (lv_at hl 3 rfl) ?_
        refine lv_iconst (v := 1) hx hb dL_law_452 (by decide) ?_
        refine lv_iadd hx hb dL_law_453 ?_
        by_cases c113 : (y3 + 1) < (0 : Int32) ∨ L ≤ Int32.toNatClampNeg (y3 + 1)
        · cases it_t c113 h
        replace h := it_f c113 h
        refine va_sld hx hb hX hbl hbA hS c113 dL_law_454 ?_
        refine lv_aload_n hx hb dL_law_455 rfl (lv_at hl 0 rfl) ?_
        refine lv_iload_n hx hb dL_law_456 rfl (lv_at hl 3 rfl) ?_
        refine lv_iconst (v := 2) hx hb dL_law_457 (by decide) ?_
        refine lv_iadd hx hb dL_law_458 ?_
        by_cases c114 : (y3 + 2) < (0 : Int32) ∨ L ≤ Int32.toNatClampNeg (y3 + 2)
        · cases it_t c114 h
        replace h := it_f c114 h
        refine va_sld hx hb hX hbl hbA hS c114 dL_law_459 ?_
        obtain ⟨r116, C117, hq115, h⟩ := bp_x h
        refine rc_i hS (run_V hC wX11_chosen k1414 (e_72 G _) rfl hP hS (As := [.int (xs (Int32.toNatClampNeg (y3 + 1))), .int (xs (Int32.toNatClampNeg (y3 + 2)))]) (rest := [.int r110]) (mX11_chosen l G C111 hq115) rfl hl.1 (Nat.le_of_ble_eq_true rfl) ⟨Nat.le_of_ble_eq_true rfl, Nat.le_of_ble_eq_true rfl⟩ ⟨Nat.le_of_ble_eq_true rfl, Nat.le_of_ble_eq_true rfl⟩ rfl dL_law_460) (fun H locs pb118 hP hS => ?_)
        refine lv_icmp_eq (tgt := 1652) hx hb dL_law_463 (by decide) (fun c119 => ?_) (fun c119 => ?_)
        · replace h := it_t c119 h
          obtain ⟨x120, ex120⟩ : ∃ y : Int32, y = y3 + 6 := ⟨_, rfl⟩
          replace h := lt_y ex120 h
          refine lv_iinc (v := x120) (lv' := [(3, .int x120), (0, .ref b), (1, .ref (gA G 0)), (2, .ref (gA G 72))]) hx hb dL_law_1652 hl (k := 3) rfl (by rw [ex120]; rfl) (by decide) rfl (fun ls hl => ?_)
          refine lv_goto (tgt := 18) hx hb dL_law_1655 (by decide) ?_
          exact ih x120 C111 C117 _ _ _ h (lv_sub hl [1, 2, 3, 0] rfl) hP hS
        · replace h := it_f c119 h
          refine lv_iconst (v := 0) hx hb dL_law_466 (by decide) ?_
          exact absurd (Option.some.inj h) (by decide)
      replace h := it_f c106 h
      by_cases c121 : ((xs (Int32.toNatClampNeg y3)) &&& 63) = 8
      · replace h := it_t c121 h
        refine lv_tableIn (off := 435) (tgt := 468) hx hb dL_law_33 (by rw [c121]; decide) (by rw [c121]; decide) (by rw [c121]; rfl) (by decide) ?_
        refine lv_aload_n hx hb dL_law_468 rfl (lv_at hl 1 rfl) ?_
        refine lv_aload_n hx hb dL_law_469 rfl (lv_at hl 0 rfl) ?_
        refine lv_iload_n hx hb dL_law_470 rfl (lv_at hl 3 rfl) ?_
        refine lv_iconst (v := 1) hx hb dL_law_471 (by decide) ?_
        refine lv_iadd hx hb dL_law_472 ?_
        by_cases c122 : (y3 + 1) < (0 : Int32) ∨ L ≤ Int32.toNatClampNeg (y3 + 1)
        · cases it_t c122 h
        replace h := it_f c122 h
        refine va_sld hx hb hX hbl hbA hS c122 dL_law_473 ?_
        refine lv_aload_n hx hb dL_law_474 rfl (lv_at hl 0 rfl) ?_
        refine lv_iload_n hx hb dL_law_475 rfl (lv_at hl 3 rfl) ?_
        refine lv_iconst (v := 2) hx hb dL_law_476 (by decide) ?_
        refine lv_iadd hx hb dL_law_477 ?_
        by_cases c123 : (y3 + 2) < (0 : Int32) ∨ L ≤ Int32.toNatClampNeg (y3 + 2)
        · cases it_t c123 h
        replace h := it_f c123 h
        refine va_sld hx hb hX hbl hbA hS c123 dL_law_478 ?_
        refine lv_aload_n hx hb dL_law_479 rfl (lv_at hl 0 rfl) ?_
        refine lv_iload_n hx hb dL_law_480 rfl (lv_at hl 3 rfl) ?_
        refine lv_iconst (v := 3) hx hb dL_law_481 (by decide) ?_
        refine lv_iadd hx hb dL_law_482 ?_
        by_cases c124 : (y3 + 3) < (0 : Int32) ∨ L ≤ Int32.toNatClampNeg (y3 + 3)
        · cases it_t c124 h
        replace h := it_f c124 h
        refine va_sld hx hb hX hbl hbA hS c124 dL_law_483 ?_
        obtain ⟨r126, C127, hq125, h⟩ := bp_x h
        refine rc_i hS (run_V hC wX10_answer k613 (e_0 G _) rfl hP hS (As := [.int (xs (Int32.toNatClampNeg (y3 + 1))), .int (xs (Int32.toNatClampNeg (y3 + 2))), .int (xs (Int32.toNatClampNeg (y3 + 3)))]) (rest := []) (mX10_answer l G R hq125) rfl hl.1 (Nat.le_of_ble_eq_true rfl) ⟨Nat.le_of_ble_eq_true rfl, Nat.le_of_ble_eq_true rfl⟩ ⟨Nat.le_of_ble_eq_true rfl, Nat.le_of_ble_eq_true rfl⟩ rfl dL_law_484) (fun H locs pb128 hP hS => ?_)
        refine lv_aload_n hx hb dL_law_487 rfl (lv_at hl 2 rfl) ?_
        refine lv_aload_n hx hb dL_law_488 rfl (lv_at hl 0 rfl) ?_
        refine lv_iload_n hx hb dL_law_489 rfl (lv_at hl 3 rfl) ?_
        refine lv_iconst (v := 1) hx hb dL_law_490 (by decide) ?_
        refine lv_iadd hx hb dL_law_491 ?_
        by_cases c129 : (y3 + 1) < (0 : Int32) ∨ L ≤ Int32.toNatClampNeg (y3 + 1)
        · cases it_t c129 h
        replace h := it_f c129 h
        refine va_sld hx hb hX hbl hbA hS c129 dL_law_492 ?_
        refine lv_aload_n hx hb dL_law_493 rfl (lv_at hl 0 rfl) ?_
        refine lv_iload_n hx hb dL_law_494 rfl (lv_at hl 3 rfl) ?_
        refine lv_iconst (v := 2) hx hb dL_law_495 (by decide) ?_
        refine lv_iadd hx hb dL_law_496 ?_
        by_cases c130 : (y3 + 2) < (0 : Int32) ∨ L ≤ Int32.toNatClampNeg (y3 + 2)
        · cases it_t c130 h
        replace h := it_f c130 h
        refine va_sld hx hb hX hbl hbA hS c130 dL_law_497 ?_
        refine lv_aload_n hx hb dL_law_498 rfl (lv_at hl 0 rfl) ?_
        refine lv_iload_n hx hb dL_law_499 rfl (lv_at hl 3 rfl) ?_
        refine lv_iconst (v := 3) hx hb dL_law_500 (by decide) ?_
        refine lv_iadd hx hb dL_law_501 ?_
        by_cases c131 : (y3 + 3) < (0 : Int32) ∨ L ≤ Int32.toNatClampNeg (y3 + 3)
        · cases it_t c131 h
        replace h := it_f c131 h
        refine va_sld hx hb hX hbl hbA hS c131 dL_law_502 ?_
        obtain ⟨r133, C134, hq132, h⟩ := bp_x h
        refine rc_i hS (run_V hC wX11_answer k1426 (e_72 G _) rfl hP hS (As := [.int (xs (Int32.toNatClampNeg (y3 + 1))), .int (xs (Int32.toNatClampNeg (y3 + 2))), .int (xs (Int32.toNatClampNeg (y3 + 3)))]) (rest := [.int r126]) (mX11_answer l G C127 hq132) rfl hl.1 (Nat.le_of_ble_eq_true rfl) ⟨Nat.le_of_ble_eq_true rfl, Nat.le_of_ble_eq_true rfl⟩ ⟨Nat.le_of_ble_eq_true rfl, Nat.le_of_ble_eq_true rfl⟩ rfl dL_law_503) (fun H locs pb135 hP hS => ?_)
        refine lv_icmp_eq (tgt := 1652) hx hb dL_law_506 (by decide) (fun c136 => ?_) (fun c136 => ?_)
        · replace h := it_t c136 h
          obtain ⟨x137, ex137⟩ : ∃ y : Int32, y = y3 + 6 := ⟨_, rfl⟩
          replace h := lt_y ex137 h
          refine lv_iinc (v := x137) (lv' := [(3, .int x137), (0, .ref b), (1, .ref (gA G 0)), (2, .ref (gA G 72))]) hx hb dL_law_1652 hl (k := 3) rfl (by rw [ex137]; rfl) (by decide) rfl (fun ls hl => ?_)
          refine lv_goto (tgt := 18) hx hb dL_law_1655 (by decide) ?_
          exact ih x137 C127 C134 _ _ _ h (lv_sub hl [1, 2, 3, 0] rfl) hP hS
        · replace h := it_f c136 h
          refine lv_iconst (v := 0) hx hb dL_law_509 (by decide) ?_
          exact absurd (Option.some.inj h) (by decide)
      replace h := it_f c121 h
      by_cases c138 : ((xs (Int32.toNatClampNeg y3)) &&& 63) = 9
      · replace h := it_t c138 h
        refine lv_tableIn (off := 478) (tgt := 511) hx hb dL_law_33 (by rw [c138]; decide) (by rw [c138]; decide) (by rw [c138]; rfl) (by decide) ?_
        refine lv_aload_n hx hb dL_law_511 rfl (lv_at hl 1 rfl) ?_
        refine lv_aload_n hx hb dL_law_512 rfl (lv_at hl 0 rfl) ?_
        refine lv_iload_n hx hb dL_law_513 rfl (lv_at hl 3 rfl) ?_
        refine lv_iconst (v := 1) hx hb dL_law_514 (by decide) ?_
        refine lv_iadd hx hb dL_law_515 ?_
        by_cases c139 : (y3 + 1) < (0 : Int32) ∨ L ≤ Int32.toNatClampNeg (y3 + 1)
        · cases it_t c139 h
        replace h := it_f c139 h
        refine va_sld hx hb hX hbl hbA hS c139 dL_law_516 ?_
        refine lv_aload_n hx hb dL_law_517 rfl (lv_at hl 0 rfl) ?_
        refine lv_iload_n hx hb dL_law_518 rfl (lv_at hl 3 rfl) ?_
        refine lv_iconst (v := 2) hx hb dL_law_519 (by decide) ?_
        refine lv_iadd hx hb dL_law_520 ?_
        by_cases c140 : (y3 + 2) < (0 : Int32) ∨ L ≤ Int32.toNatClampNeg (y3 + 2)
        · cases it_t c140 h
        replace h := it_f c140 h
        refine va_sld hx hb hX hbl hbA hS c140 dL_law_521 ?_
        refine lv_aload_n hx hb dL_law_522 rfl (lv_at hl 0 rfl) ?_
        refine lv_iload_n hx hb dL_law_523 rfl (lv_at hl 3 rfl) ?_
        refine lv_iconst (v := 3) hx hb dL_law_524 (by decide) ?_
        refine lv_iadd hx hb dL_law_525 ?_
        by_cases c141 : (y3 + 3) < (0 : Int32) ∨ L ≤ Int32.toNatClampNeg (y3 + 3)
        · cases it_t c141 h
        replace h := it_f c141 h
        refine va_sld hx hb hX hbl hbA hS c141 dL_law_526 ?_
        obtain ⟨r143, C144, hq142, h⟩ := bp_x h
        refine rc_i hS (run_V hC wX10_quickest k630 (e_0 G _) rfl hP hS (As := [.int (xs (Int32.toNatClampNeg (y3 + 1))), .int (xs (Int32.toNatClampNeg (y3 + 2))), .int (xs (Int32.toNatClampNeg (y3 + 3)))]) (rest := []) (mX10_quickest l G R hq142) rfl hl.1 (Nat.le_of_ble_eq_true rfl) ⟨Nat.le_of_ble_eq_true rfl, Nat.le_of_ble_eq_true rfl⟩ ⟨Nat.le_of_ble_eq_true rfl, Nat.le_of_ble_eq_true rfl⟩ rfl dL_law_527) (fun H locs pb145 hP hS => ?_)
        refine lv_aload_n hx hb dL_law_530 rfl (lv_at hl 2 rfl) ?_
        refine lv_aload_n hx hb dL_law_531 rfl (lv_at hl 0 rfl) ?_
        refine lv_iload_n hx hb dL_law_532 rfl (lv_at hl 3 rfl) ?_
        refine lv_iconst (v := 1) hx hb dL_law_533 (by decide) ?_
        refine lv_iadd hx hb dL_law_534 ?_
        by_cases c146 : (y3 + 1) < (0 : Int32) ∨ L ≤ Int32.toNatClampNeg (y3 + 1)
        · cases it_t c146 h
        replace h := it_f c146 h
        refine va_sld hx hb hX hbl hbA hS c146 dL_law_535 ?_
        refine lv_aload_n hx hb dL_law_536 rfl (lv_at hl 0 rfl) ?_
        refine lv_iload_n hx hb dL_law_537 rfl (lv_at hl 3 rfl) ?_
        refine lv_iconst (v := 2) hx hb dL_law_538 (by decide) ?_
        refine lv_iadd hx hb dL_law_539 ?_
        by_cases c147 : (y3 + 2) < (0 : Int32) ∨ L ≤ Int32.toNatClampNeg (y3 + 2)
        · cases it_t c147 h
        replace h := it_f c147 h
        refine va_sld hx hb hX hbl hbA hS c147 dL_law_540 ?_
        refine lv_aload_n hx hb dL_law_541 rfl (lv_at hl 0 rfl) ?_
        refine lv_iload_n hx hb dL_law_542 rfl (lv_at hl 3 rfl) ?_
        refine lv_iconst (v := 3) hx hb dL_law_543 (by decide) ?_
        refine lv_iadd hx hb dL_law_544 ?_
        by_cases c148 : (y3 + 3) < (0 : Int32) ∨ L ≤ Int32.toNatClampNeg (y3 + 3)
        · cases it_t c148 h
        replace h := it_f c148 h
        refine va_sld hx hb hX hbl hbA hS c148 dL_law_545 ?_
        obtain ⟨r150, C151, hq149, h⟩ := bp_x h
        refine rc_i hS (run_V hC wX11_quickest k1431 (e_72 G _) rfl hP hS (As := [.int (xs (Int32.toNatClampNeg (y3 + 1))), .int (xs (Int32.toNatClampNeg (y3 + 2))), .int (xs (Int32.toNatClampNeg (y3 + 3)))]) (rest := [.int r143]) (mX11_quickest l G C144 hq149) rfl hl.1 (Nat.le_of_ble_eq_true rfl) ⟨Nat.le_of_ble_eq_true rfl, Nat.le_of_ble_eq_true rfl⟩ ⟨Nat.le_of_ble_eq_true rfl, Nat.le_of_ble_eq_true rfl⟩ rfl dL_law_546) (fun H locs pb152 hP hS => ?_)
        refine lv_icmp_eq (tgt := 1652) hx hb dL_law_549 (by decide) (fun c153 => ?_) (fun c153 => ?_)
        · replace h := it_t c153 h
          obtain ⟨x154, ex154⟩ : ∃ y : Int32, y = y3 + 6 := ⟨_, rfl⟩
          replace h := lt_y ex154 h
          refine lv_iinc (v := x154) (lv' := [(3, .int x154), (0, .ref b), (1, .ref (gA G 0)), (2, .ref (gA G 72))]) hx hb dL_law_1652 hl (k := 3) rfl (by rw [ex154]; rfl) (by decide) rfl (fun ls hl => ?_)
          refine lv_goto (tgt := 18) hx hb dL_law_1655 (by decide) ?_
          exact ih x154 C144 C151 _ _ _ h (lv_sub hl [1, 2, 3, 0] rfl) hP hS
        · replace h := it_f c153 h
          refine lv_iconst (v := 0) hx hb dL_law_552 (by decide) ?_
          exact absurd (Option.some.inj h) (by decide)
      replace h := it_f c138 h
      by_cases c155 : ((xs (Int32.toNatClampNeg y3)) &&& 63) = 10
      · replace h := it_t c155 h
        refine lv_tableIn (off := 521) (tgt := 554) hx hb dL_law_33 (by rw [c155]; decide) (by rw [c155]; decide) (by rw [c155]; rfl) (by decide) ?_
        refine lv_aload_n hx hb dL_law_554 rfl (lv_at hl 1 rfl) ?_
        refine lv_aload_n hx hb dL_law_555 rfl (lv_at hl 0 rfl) ?_
        refine lv_iload_n hx hb dL_law_556 rfl (lv_at hl 3 rfl) ?_
        refine lv_iconst (v := 1) hx hb dL_law_557 (by decide) ?_
        refine lv_iadd hx hb dL_law_558 ?_
        by_cases c156 : (y3 + 1) < (0 : Int32) ∨ L ≤ Int32.toNatClampNeg (y3 + 1)
        · cases it_t c156 h
        replace h := it_f c156 h
        refine va_sld hx hb hX hbl hbA hS c156 dL_law_559 ?_
        refine lv_aload_n hx hb dL_law_560 rfl (lv_at hl 0 rfl) ?_
        refine lv_iload_n hx hb dL_law_561 rfl (lv_at hl 3 rfl) ?_
        refine lv_iconst (v := 2) hx hb dL_law_562 (by decide) ?_
        refine lv_iadd hx hb dL_law_563 ?_
        by_cases c157 : (y3 + 2) < (0 : Int32) ∨ L ≤ Int32.toNatClampNeg (y3 + 2)
        · cases it_t c157 h
        replace h := it_f c157 h
        refine va_sld hx hb hX hbl hbA hS c157 dL_law_564 ?_
        refine lv_aload_n hx hb dL_law_565 rfl (lv_at hl 0 rfl) ?_
        refine lv_iload_n hx hb dL_law_566 rfl (lv_at hl 3 rfl) ?_
        refine lv_iconst (v := 3) hx hb dL_law_567 (by decide) ?_
        refine lv_iadd hx hb dL_law_568 ?_
        by_cases c158 : (y3 + 3) < (0 : Int32) ∨ L ≤ Int32.toNatClampNeg (y3 + 3)
        · cases it_t c158 h
        replace h := it_f c158 h
        refine va_sld hx hb hX hbl hbA hS c158 dL_law_569 ?_
        obtain ⟨r160, C161, hq159, h⟩ := bp_x h
        refine rc_i hS (run_V hC wX10_table k634 (e_0 G _) rfl hP hS (As := [.int (xs (Int32.toNatClampNeg (y3 + 1))), .int (xs (Int32.toNatClampNeg (y3 + 2))), .int (xs (Int32.toNatClampNeg (y3 + 3)))]) (rest := []) (mX10_table l G R hq159) rfl hl.1 (Nat.le_of_ble_eq_true rfl) ⟨Nat.le_of_ble_eq_true rfl, Nat.le_of_ble_eq_true rfl⟩ ⟨Nat.le_of_ble_eq_true rfl, Nat.le_of_ble_eq_true rfl⟩ rfl dL_law_570) (fun H locs pb162 hP hS => ?_)
        refine lv_aload_n hx hb dL_law_573 rfl (lv_at hl 2 rfl) ?_
        refine lv_aload_n hx hb dL_law_574 rfl (lv_at hl 0 rfl) ?_
        refine lv_iload_n hx hb dL_law_575 rfl (lv_at hl 3 rfl) ?_
        refine lv_iconst (v := 1) hx hb dL_law_576 (by decide) ?_
        refine lv_iadd hx hb dL_law_577 ?_
        by_cases c163 : (y3 + 1) < (0 : Int32) ∨ L ≤ Int32.toNatClampNeg (y3 + 1)
        · cases it_t c163 h
        replace h := it_f c163 h
        refine va_sld hx hb hX hbl hbA hS c163 dL_law_578 ?_
        refine lv_aload_n hx hb dL_law_579 rfl (lv_at hl 0 rfl) ?_
        refine lv_iload_n hx hb dL_law_580 rfl (lv_at hl 3 rfl) ?_
        refine lv_iconst (v := 2) hx hb dL_law_581 (by decide) ?_
        refine lv_iadd hx hb dL_law_582 ?_
        by_cases c164 : (y3 + 2) < (0 : Int32) ∨ L ≤ Int32.toNatClampNeg (y3 + 2)
        · cases it_t c164 h
        replace h := it_f c164 h
        refine va_sld hx hb hX hbl hbA hS c164 dL_law_583 ?_
        refine lv_aload_n hx hb dL_law_584 rfl (lv_at hl 0 rfl) ?_
        refine lv_iload_n hx hb dL_law_585 rfl (lv_at hl 3 rfl) ?_
        refine lv_iconst (v := 3) hx hb dL_law_586 (by decide) ?_
        refine lv_iadd hx hb dL_law_587 ?_
        by_cases c165 : (y3 + 3) < (0 : Int32) ∨ L ≤ Int32.toNatClampNeg (y3 + 3)
        · cases it_t c165 h
        replace h := it_f c165 h
        refine va_sld hx hb hX hbl hbA hS c165 dL_law_588 ?_
        obtain ⟨r167, C168, hq166, h⟩ := bp_x h
        refine rc_i hS (run_V hC wX11_table k1435 (e_72 G _) rfl hP hS (As := [.int (xs (Int32.toNatClampNeg (y3 + 1))), .int (xs (Int32.toNatClampNeg (y3 + 2))), .int (xs (Int32.toNatClampNeg (y3 + 3)))]) (rest := [.int r160]) (mX11_table l G C161 hq166) rfl hl.1 (Nat.le_of_ble_eq_true rfl) ⟨Nat.le_of_ble_eq_true rfl, Nat.le_of_ble_eq_true rfl⟩ ⟨Nat.le_of_ble_eq_true rfl, Nat.le_of_ble_eq_true rfl⟩ rfl dL_law_589) (fun H locs pb169 hP hS => ?_)
        refine lv_icmp_eq (tgt := 1652) hx hb dL_law_592 (by decide) (fun c170 => ?_) (fun c170 => ?_)
        · replace h := it_t c170 h
          obtain ⟨x171, ex171⟩ : ∃ y : Int32, y = y3 + 6 := ⟨_, rfl⟩
          replace h := lt_y ex171 h
          refine lv_iinc (v := x171) (lv' := [(3, .int x171), (0, .ref b), (1, .ref (gA G 0)), (2, .ref (gA G 72))]) hx hb dL_law_1652 hl (k := 3) rfl (by rw [ex171]; rfl) (by decide) rfl (fun ls hl => ?_)
          refine lv_goto (tgt := 18) hx hb dL_law_1655 (by decide) ?_
          exact ih x171 C161 C168 _ _ _ h (lv_sub hl [1, 2, 3, 0] rfl) hP hS
        · replace h := it_f c170 h
          refine lv_iconst (v := 0) hx hb dL_law_595 (by decide) ?_
          exact absurd (Option.some.inj h) (by decide)
      replace h := it_f c155 h
      by_cases c172 : ((xs (Int32.toNatClampNeg y3)) &&& 63) = 11
      · replace h := it_t c172 h
        refine lv_tableIn (off := 564) (tgt := 597) hx hb dL_law_33 (by rw [c172]; decide) (by rw [c172]; decide) (by rw [c172]; rfl) (by decide) ?_
        refine lv_aload_n hx hb dL_law_597 rfl (lv_at hl 1 rfl) ?_
        refine lv_aload_n hx hb dL_law_598 rfl (lv_at hl 0 rfl) ?_
        refine lv_iload_n hx hb dL_law_599 rfl (lv_at hl 3 rfl) ?_
        refine lv_iconst (v := 1) hx hb dL_law_600 (by decide) ?_
        refine lv_iadd hx hb dL_law_601 ?_
        by_cases c173 : (y3 + 1) < (0 : Int32) ∨ L ≤ Int32.toNatClampNeg (y3 + 1)
        · cases it_t c173 h
        replace h := it_f c173 h
        refine va_sld hx hb hX hbl hbA hS c173 dL_law_602 ?_
        refine lv_aload_n hx hb dL_law_603 rfl (lv_at hl 0 rfl) ?_
        refine lv_iload_n hx hb dL_law_604 rfl (lv_at hl 3 rfl) ?_
        refine lv_iconst (v := 2) hx hb dL_law_605 (by decide) ?_
        refine lv_iadd hx hb dL_law_606 ?_
        by_cases c174 : (y3 + 2) < (0 : Int32) ∨ L ≤ Int32.toNatClampNeg (y3 + 2)
        · cases it_t c174 h
        replace h := it_f c174 h
        refine va_sld hx hb hX hbl hbA hS c174 dL_law_607 ?_
        refine lv_aload_n hx hb dL_law_608 rfl (lv_at hl 0 rfl) ?_
        refine lv_iload_n hx hb dL_law_609 rfl (lv_at hl 3 rfl) ?_
        refine lv_iconst (v := 3) hx hb dL_law_610 (by decide) ?_
        refine lv_iadd hx hb dL_law_611 ?_
        by_cases c175 : (y3 + 3) < (0 : Int32) ∨ L ≤ Int32.toNatClampNeg (y3 + 3)
        · cases it_t c175 h
        replace h := it_f c175 h
        refine va_sld hx hb hX hbl hbA hS c175 dL_law_612 ?_
        obtain ⟨r177, C178, hq176, h⟩ := bp_x h
        refine rc_i hS (run_V hC wX10_see k638 (e_0 G _) rfl hP hS (As := [.int (xs (Int32.toNatClampNeg (y3 + 1))), .int (xs (Int32.toNatClampNeg (y3 + 2))), .int (xs (Int32.toNatClampNeg (y3 + 3)))]) (rest := []) (mX10_see l G R hq176) rfl hl.1 (Nat.le_of_ble_eq_true rfl) ⟨Nat.le_of_ble_eq_true rfl, Nat.le_of_ble_eq_true rfl⟩ ⟨Nat.le_of_ble_eq_true rfl, Nat.le_of_ble_eq_true rfl⟩ rfl dL_law_613) (fun H locs pb179 hP hS => ?_)
        refine lv_aload_n hx hb dL_law_616 rfl (lv_at hl 2 rfl) ?_
        refine lv_aload_n hx hb dL_law_617 rfl (lv_at hl 0 rfl) ?_
        refine lv_iload_n hx hb dL_law_618 rfl (lv_at hl 3 rfl) ?_
        refine lv_iconst (v := 1) hx hb dL_law_619 (by decide) ?_
        refine lv_iadd hx hb dL_law_620 ?_
        by_cases c180 : (y3 + 1) < (0 : Int32) ∨ L ≤ Int32.toNatClampNeg (y3 + 1)
        · cases it_t c180 h
        replace h := it_f c180 h
        refine va_sld hx hb hX hbl hbA hS c180 dL_law_621 ?_
        refine lv_aload_n hx hb dL_law_622 rfl (lv_at hl 0 rfl) ?_
        refine lv_iload_n hx hb dL_law_623 rfl (lv_at hl 3 rfl) ?_
        refine lv_iconst (v := 2) hx hb dL_law_624 (by decide) ?_
        refine lv_iadd hx hb dL_law_625 ?_
        by_cases c181 : (y3 + 2) < (0 : Int32) ∨ L ≤ Int32.toNatClampNeg (y3 + 2)
        · cases it_t c181 h
        replace h := it_f c181 h
        refine va_sld hx hb hX hbl hbA hS c181 dL_law_626 ?_
        refine lv_aload_n hx hb dL_law_627 rfl (lv_at hl 0 rfl) ?_
        refine lv_iload_n hx hb dL_law_628 rfl (lv_at hl 3 rfl) ?_
        refine lv_iconst (v := 3) hx hb dL_law_629 (by decide) ?_
        refine lv_iadd hx hb dL_law_630 ?_
        by_cases c182 : (y3 + 3) < (0 : Int32) ∨ L ≤ Int32.toNatClampNeg (y3 + 3)
        · cases it_t c182 h
        replace h := it_f c182 h
        refine va_sld hx hb hX hbl hbA hS c182 dL_law_631 ?_
        obtain ⟨r184, C185, hq183, h⟩ := bp_x h
        refine rc_i hS (run_V hC wX11_see k1439 (e_72 G _) rfl hP hS (As := [.int (xs (Int32.toNatClampNeg (y3 + 1))), .int (xs (Int32.toNatClampNeg (y3 + 2))), .int (xs (Int32.toNatClampNeg (y3 + 3)))]) (rest := [.int r177]) (mX11_see l G C178 hq183) rfl hl.1 (Nat.le_of_ble_eq_true rfl) ⟨Nat.le_of_ble_eq_true rfl, Nat.le_of_ble_eq_true rfl⟩ ⟨Nat.le_of_ble_eq_true rfl, Nat.le_of_ble_eq_true rfl⟩ rfl dL_law_632) (fun H locs pb186 hP hS => ?_)
        refine lv_icmp_eq (tgt := 1652) hx hb dL_law_635 (by decide) (fun c187 => ?_) (fun c187 => ?_)
        · replace h := it_t c187 h
          obtain ⟨x188, ex188⟩ : ∃ y : Int32, y = y3 + 6 := ⟨_, rfl⟩
          replace h := lt_y ex188 h
          refine lv_iinc (v := x188) (lv' := [(3, .int x188), (0, .ref b), (1, .ref (gA G 0)), (2, .ref (gA G 72))]) hx hb dL_law_1652 hl (k := 3) rfl (by rw [ex188]; rfl) (by decide) rfl (fun ls hl => ?_)
          refine lv_goto (tgt := 18) hx hb dL_law_1655 (by decide) ?_
          exact ih x188 C178 C185 _ _ _ h (lv_sub hl [1, 2, 3, 0] rfl) hP hS
        · replace h := it_f c187 h
          refine lv_iconst (v := 0) hx hb dL_law_638 (by decide) ?_
          exact absurd (Option.some.inj h) (by decide)
      replace h := it_f c172 h
      by_cases c189 : ((xs (Int32.toNatClampNeg y3)) &&& 63) = 12
      · replace h := it_t c189 h
        refine lv_tableIn (off := 607) (tgt := 640) hx hb dL_law_33 (by rw [c189]; decide) (by rw [c189]; decide) (by rw [c189]; rfl) (by decide) ?_
        refine lv_aload_n hx hb dL_law_640 rfl (lv_at hl 1 rfl) ?_
        refine lv_aload_n hx hb dL_law_641 rfl (lv_at hl 0 rfl) ?_
        refine lv_iload_n hx hb dL_law_642 rfl (lv_at hl 3 rfl) ?_
        refine lv_iconst (v := 1) hx hb dL_law_643 (by decide) ?_
        refine lv_iadd hx hb dL_law_644 ?_
        by_cases c190 : (y3 + 1) < (0 : Int32) ∨ L ≤ Int32.toNatClampNeg (y3 + 1)
        · cases it_t c190 h
        replace h := it_f c190 h
        refine va_sld hx hb hX hbl hbA hS c190 dL_law_645 ?_
        refine lv_aload_n hx hb dL_law_646 rfl (lv_at hl 0 rfl) ?_
        refine lv_iload_n hx hb dL_law_647 rfl (lv_at hl 3 rfl) ?_
        refine lv_iconst (v := 2) hx hb dL_law_648 (by decide) ?_
        refine lv_iadd hx hb dL_law_649 ?_
        by_cases c191 : (y3 + 2) < (0 : Int32) ∨ L ≤ Int32.toNatClampNeg (y3 + 2)
        · cases it_t c191 h
        replace h := it_f c191 h
        refine va_sld hx hb hX hbl hbA hS c191 dL_law_650 ?_
        refine lv_aload_n hx hb dL_law_651 rfl (lv_at hl 0 rfl) ?_
        refine lv_iload_n hx hb dL_law_652 rfl (lv_at hl 3 rfl) ?_
        refine lv_iconst (v := 3) hx hb dL_law_653 (by decide) ?_
        refine lv_iadd hx hb dL_law_654 ?_
        by_cases c192 : (y3 + 3) < (0 : Int32) ∨ L ≤ Int32.toNatClampNeg (y3 + 3)
        · cases it_t c192 h
        replace h := it_f c192 h
        refine va_sld hx hb hX hbl hbA hS c192 dL_law_655 ?_
        obtain ⟨r194, C195, hq193, h⟩ := bp_x h
        refine rc_i hS (run_V hC wX10_asks k655 (e_0 G _) rfl hP hS (As := [.int (xs (Int32.toNatClampNeg (y3 + 1))), .int (xs (Int32.toNatClampNeg (y3 + 2))), .int (xs (Int32.toNatClampNeg (y3 + 3)))]) (rest := []) (mX10_asks l G R hq193) rfl hl.1 (Nat.le_of_ble_eq_true rfl) ⟨Nat.le_of_ble_eq_true rfl, Nat.le_of_ble_eq_true rfl⟩ ⟨Nat.le_of_ble_eq_true rfl, Nat.le_of_ble_eq_true rfl⟩ rfl dL_law_656) (fun H locs pb196 hP hS => ?_)
        refine lv_aload_n hx hb dL_law_659 rfl (lv_at hl 2 rfl) ?_
        refine lv_aload_n hx hb dL_law_660 rfl (lv_at hl 0 rfl) ?_
        refine lv_iload_n hx hb dL_law_661 rfl (lv_at hl 3 rfl) ?_
        refine lv_iconst (v := 1) hx hb dL_law_662 (by decide) ?_
        refine lv_iadd hx hb dL_law_663 ?_
        by_cases c197 : (y3 + 1) < (0 : Int32) ∨ L ≤ Int32.toNatClampNeg (y3 + 1)
        · cases it_t c197 h
        replace h := it_f c197 h
        refine va_sld hx hb hX hbl hbA hS c197 dL_law_664 ?_
        refine lv_aload_n hx hb dL_law_665 rfl (lv_at hl 0 rfl) ?_
        refine lv_iload_n hx hb dL_law_666 rfl (lv_at hl 3 rfl) ?_
        refine lv_iconst (v := 2) hx hb dL_law_667 (by decide) ?_
        refine lv_iadd hx hb dL_law_668 ?_
        by_cases c198 : (y3 + 2) < (0 : Int32) ∨ L ≤ Int32.toNatClampNeg (y3 + 2)
        · cases it_t c198 h
        replace h := it_f c198 h
        refine va_sld hx hb hX hbl hbA hS c198 dL_law_669 ?_
        refine lv_aload_n hx hb dL_law_670 rfl (lv_at hl 0 rfl) ?_
        refine lv_iload_n hx hb dL_law_671 rfl (lv_at hl 3 rfl) ?_
        refine lv_iconst (v := 3) hx hb dL_law_672 (by decide) ?_
        refine lv_iadd hx hb dL_law_673 ?_
        by_cases c199 : (y3 + 3) < (0 : Int32) ∨ L ≤ Int32.toNatClampNeg (y3 + 3)
        · cases it_t c199 h
        replace h := it_f c199 h
        refine va_sld hx hb hX hbl hbA hS c199 dL_law_674 ?_
        obtain ⟨r201, C202, hq200, h⟩ := bp_x h
        refine rc_i hS (run_V hC wX11_asks k1445 (e_72 G _) rfl hP hS (As := [.int (xs (Int32.toNatClampNeg (y3 + 1))), .int (xs (Int32.toNatClampNeg (y3 + 2))), .int (xs (Int32.toNatClampNeg (y3 + 3)))]) (rest := [.int r194]) (mX11_asks l G C195 hq200) rfl hl.1 (Nat.le_of_ble_eq_true rfl) ⟨Nat.le_of_ble_eq_true rfl, Nat.le_of_ble_eq_true rfl⟩ ⟨Nat.le_of_ble_eq_true rfl, Nat.le_of_ble_eq_true rfl⟩ rfl dL_law_675) (fun H locs pb203 hP hS => ?_)
        refine lv_icmp_eq (tgt := 1652) hx hb dL_law_678 (by decide) (fun c204 => ?_) (fun c204 => ?_)
        · replace h := it_t c204 h
          obtain ⟨x205, ex205⟩ : ∃ y : Int32, y = y3 + 6 := ⟨_, rfl⟩
          replace h := lt_y ex205 h
          refine lv_iinc (v := x205) (lv' := [(3, .int x205), (0, .ref b), (1, .ref (gA G 0)), (2, .ref (gA G 72))]) hx hb dL_law_1652 hl (k := 3) rfl (by rw [ex205]; rfl) (by decide) rfl (fun ls hl => ?_)
          refine lv_goto (tgt := 18) hx hb dL_law_1655 (by decide) ?_
          exact ih x205 C195 C202 _ _ _ h (lv_sub hl [1, 2, 3, 0] rfl) hP hS
        · replace h := it_f c204 h
          refine lv_iconst (v := 0) hx hb dL_law_681 (by decide) ?_
          exact absurd (Option.some.inj h) (by decide)
      replace h := it_f c189 h
      by_cases c206 : ((xs (Int32.toNatClampNeg y3)) &&& 63) = 13
      · replace h := it_t c206 h
        refine lv_tableIn (off := 650) (tgt := 683) hx hb dL_law_33 (by rw [c206]; decide) (by rw [c206]; decide) (by rw [c206]; rfl) (by decide) ?_
        refine lv_aload_n hx hb dL_law_683 rfl (lv_at hl 1 rfl) ?_
        refine lv_aload_n hx hb dL_law_684 rfl (lv_at hl 0 rfl) ?_
        refine lv_iload_n hx hb dL_law_685 rfl (lv_at hl 3 rfl) ?_
        refine lv_iconst (v := 1) hx hb dL_law_686 (by decide) ?_
        refine lv_iadd hx hb dL_law_687 ?_
        by_cases c207 : (y3 + 1) < (0 : Int32) ∨ L ≤ Int32.toNatClampNeg (y3 + 1)
        · cases it_t c207 h
        replace h := it_f c207 h
        refine va_sld hx hb hX hbl hbA hS c207 dL_law_688 ?_
        refine lv_aload_n hx hb dL_law_689 rfl (lv_at hl 0 rfl) ?_
        refine lv_iload_n hx hb dL_law_690 rfl (lv_at hl 3 rfl) ?_
        refine lv_iconst (v := 2) hx hb dL_law_691 (by decide) ?_
        refine lv_iadd hx hb dL_law_692 ?_
        by_cases c208 : (y3 + 2) < (0 : Int32) ∨ L ≤ Int32.toNatClampNeg (y3 + 2)
        · cases it_t c208 h
        replace h := it_f c208 h
        refine va_sld hx hb hX hbl hbA hS c208 dL_law_693 ?_
        obtain ⟨r210, hq209, h⟩ := bn_x h
        refine rc_i hS (run_V hC wX10_seen k688 (e_0 G _) rfl hP hS (As := [.int (xs (Int32.toNatClampNeg (y3 + 1))), .int (xs (Int32.toNatClampNeg (y3 + 2)))]) (rest := []) (mX10_seen l G R hq209) rfl hl.1 (Nat.le_of_ble_eq_true rfl) ⟨Nat.le_of_ble_eq_true rfl, Nat.le_of_ble_eq_true rfl⟩ ⟨Nat.le_of_ble_eq_true rfl, Nat.le_of_ble_eq_true rfl⟩ rfl dL_law_694) (fun H locs pb211 hP hS => ?_)
        refine lv_aload_n hx hb dL_law_697 rfl (lv_at hl 2 rfl) ?_
        refine lv_aload_n hx hb dL_law_698 rfl (lv_at hl 0 rfl) ?_
        refine lv_iload_n hx hb dL_law_699 rfl (lv_at hl 3 rfl) ?_
        refine lv_iconst (v := 1) hx hb dL_law_700 (by decide) ?_
        refine lv_iadd hx hb dL_law_701 ?_
        by_cases c212 : (y3 + 1) < (0 : Int32) ∨ L ≤ Int32.toNatClampNeg (y3 + 1)
        · cases it_t c212 h
        replace h := it_f c212 h
        refine va_sld hx hb hX hbl hbA hS c212 dL_law_702 ?_
        refine lv_aload_n hx hb dL_law_703 rfl (lv_at hl 0 rfl) ?_
        refine lv_iload_n hx hb dL_law_704 rfl (lv_at hl 3 rfl) ?_
        refine lv_iconst (v := 2) hx hb dL_law_705 (by decide) ?_
        refine lv_iadd hx hb dL_law_706 ?_
        by_cases c213 : (y3 + 2) < (0 : Int32) ∨ L ≤ Int32.toNatClampNeg (y3 + 2)
        · cases it_t c213 h
        replace h := it_f c213 h
        refine va_sld hx hb hX hbl hbA hS c213 dL_law_707 ?_
        obtain ⟨r215, hq214, h⟩ := bn_x h
        refine rc_i hS (run_V hC wX11_seen k1455 (e_72 G _) rfl hP hS (As := [.int (xs (Int32.toNatClampNeg (y3 + 1))), .int (xs (Int32.toNatClampNeg (y3 + 2)))]) (rest := [.int r210]) (mX11_seen l G C hq214) rfl hl.1 (Nat.le_of_ble_eq_true rfl) ⟨Nat.le_of_ble_eq_true rfl, Nat.le_of_ble_eq_true rfl⟩ ⟨Nat.le_of_ble_eq_true rfl, Nat.le_of_ble_eq_true rfl⟩ rfl dL_law_708) (fun H locs pb216 hP hS => ?_)
        refine lv_icmp_eq (tgt := 1652) hx hb dL_law_711 (by decide) (fun c217 => ?_) (fun c217 => ?_)
        · replace h := it_t c217 h
          obtain ⟨x218, ex218⟩ : ∃ y : Int32, y = y3 + 6 := ⟨_, rfl⟩
          replace h := lt_y ex218 h
          refine lv_iinc (v := x218) (lv' := [(3, .int x218), (0, .ref b), (1, .ref (gA G 0)), (2, .ref (gA G 72))]) hx hb dL_law_1652 hl (k := 3) rfl (by rw [ex218]; rfl) (by decide) rfl (fun ls hl => ?_)
          refine lv_goto (tgt := 18) hx hb dL_law_1655 (by decide) ?_
          exact ih x218 C R _ _ _ h (lv_sub hl [1, 2, 3, 0] rfl) hP hS
        · replace h := it_f c217 h
          refine lv_iconst (v := 0) hx hb dL_law_714 (by decide) ?_
          exact absurd (Option.some.inj h) (by decide)
      replace h := it_f c206 h
      by_cases c219 : ((xs (Int32.toNatClampNeg y3)) &&& 63) = 14
      · replace h := it_t c219 h
        refine lv_tableIn (off := 683) (tgt := 716) hx hb dL_law_33 (by rw [c219]; decide) (by rw [c219]; decide) (by rw [c219]; rfl) (by decide) ?_
        refine lv_aload_n hx hb dL_law_716 rfl (lv_at hl 1 rfl) ?_
        refine lv_aload_n hx hb dL_law_717 rfl (lv_at hl 0 rfl) ?_
        refine lv_iload_n hx hb dL_law_718 rfl (lv_at hl 3 rfl) ?_
        refine lv_iconst (v := 1) hx hb dL_law_719 (by decide) ?_
        refine lv_iadd hx hb dL_law_720 ?_
        by_cases c220 : (y3 + 1) < (0 : Int32) ∨ L ≤ Int32.toNatClampNeg (y3 + 1)
        · cases it_t c220 h
        replace h := it_f c220 h
        refine va_sld hx hb hX hbl hbA hS c220 dL_law_721 ?_
        refine lv_aload_n hx hb dL_law_722 rfl (lv_at hl 0 rfl) ?_
        refine lv_iload_n hx hb dL_law_723 rfl (lv_at hl 3 rfl) ?_
        refine lv_iconst (v := 2) hx hb dL_law_724 (by decide) ?_
        refine lv_iadd hx hb dL_law_725 ?_
        by_cases c221 : (y3 + 2) < (0 : Int32) ∨ L ≤ Int32.toNatClampNeg (y3 + 2)
        · cases it_t c221 h
        replace h := it_f c221 h
        refine va_sld hx hb hX hbl hbA hS c221 dL_law_726 ?_
        obtain ⟨r223, C224, hq222, h⟩ := bp_x h
        refine rc_i hS (run_V hC wX10_fits k713 (e_0 G _) rfl hP hS (As := [.int (xs (Int32.toNatClampNeg (y3 + 1))), .int (xs (Int32.toNatClampNeg (y3 + 2)))]) (rest := []) (mX10_fits l G R hq222) rfl hl.1 (Nat.le_of_ble_eq_true rfl) ⟨Nat.le_of_ble_eq_true rfl, Nat.le_of_ble_eq_true rfl⟩ ⟨Nat.le_of_ble_eq_true rfl, Nat.le_of_ble_eq_true rfl⟩ rfl dL_law_727) (fun H locs pb225 hP hS => ?_)
        refine lv_aload_n hx hb dL_law_730 rfl (lv_at hl 2 rfl) ?_
        refine lv_aload_n hx hb dL_law_731 rfl (lv_at hl 0 rfl) ?_
        refine lv_iload_n hx hb dL_law_732 rfl (lv_at hl 3 rfl) ?_
        refine lv_iconst (v := 1) hx hb dL_law_733 (by decide) ?_
        refine lv_iadd hx hb dL_law_734 ?_
        by_cases c226 : (y3 + 1) < (0 : Int32) ∨ L ≤ Int32.toNatClampNeg (y3 + 1)
        · cases it_t c226 h
        replace h := it_f c226 h
        refine va_sld hx hb hX hbl hbA hS c226 dL_law_735 ?_
        refine lv_aload_n hx hb dL_law_736 rfl (lv_at hl 0 rfl) ?_
        refine lv_iload_n hx hb dL_law_737 rfl (lv_at hl 3 rfl) ?_
        refine lv_iconst (v := 2) hx hb dL_law_738 (by decide) ?_
        refine lv_iadd hx hb dL_law_739 ?_
        by_cases c227 : (y3 + 2) < (0 : Int32) ∨ L ≤ Int32.toNatClampNeg (y3 + 2)
        · cases it_t c227 h
        replace h := it_f c227 h
        refine va_sld hx hb hX hbl hbA hS c227 dL_law_740 ?_
        obtain ⟨r229, C230, hq228, h⟩ := bp_x h
        refine rc_i hS (run_V hC wX11_fits k1463 (e_72 G _) rfl hP hS (As := [.int (xs (Int32.toNatClampNeg (y3 + 1))), .int (xs (Int32.toNatClampNeg (y3 + 2)))]) (rest := [.int r223]) (mX11_fits l G C224 hq228) rfl hl.1 (Nat.le_of_ble_eq_true rfl) ⟨Nat.le_of_ble_eq_true rfl, Nat.le_of_ble_eq_true rfl⟩ ⟨Nat.le_of_ble_eq_true rfl, Nat.le_of_ble_eq_true rfl⟩ rfl dL_law_741) (fun H locs pb231 hP hS => ?_)
        refine lv_icmp_eq (tgt := 1652) hx hb dL_law_744 (by decide) (fun c232 => ?_) (fun c232 => ?_)
        · replace h := it_t c232 h
          obtain ⟨x233, ex233⟩ : ∃ y : Int32, y = y3 + 6 := ⟨_, rfl⟩
          replace h := lt_y ex233 h
          refine lv_iinc (v := x233) (lv' := [(3, .int x233), (0, .ref b), (1, .ref (gA G 0)), (2, .ref (gA G 72))]) hx hb dL_law_1652 hl (k := 3) rfl (by rw [ex233]; rfl) (by decide) rfl (fun ls hl => ?_)
          refine lv_goto (tgt := 18) hx hb dL_law_1655 (by decide) ?_
          exact ih x233 C224 C230 _ _ _ h (lv_sub hl [1, 2, 3, 0] rfl) hP hS
        · replace h := it_f c232 h
          refine lv_iconst (v := 0) hx hb dL_law_747 (by decide) ?_
          exact absurd (Option.some.inj h) (by decide)
      replace h := it_f c219 h
      by_cases c234 : ((xs (Int32.toNatClampNeg y3)) &&& 63) = 15
      · replace h := it_t c234 h
        refine lv_tableIn (off := 716) (tgt := 749) hx hb dL_law_33 (by rw [c234]; decide) (by rw [c234]; decide) (by rw [c234]; rfl) (by decide) ?_
        refine lv_aload_n hx hb dL_law_749 rfl (lv_at hl 1 rfl) ?_
        refine lv_aload_n hx hb dL_law_750 rfl (lv_at hl 0 rfl) ?_
        refine lv_iload_n hx hb dL_law_751 rfl (lv_at hl 3 rfl) ?_
        refine lv_iconst (v := 1) hx hb dL_law_752 (by decide) ?_
        refine lv_iadd hx hb dL_law_753 ?_
        by_cases c235 : (y3 + 1) < (0 : Int32) ∨ L ≤ Int32.toNatClampNeg (y3 + 1)
        · cases it_t c235 h
        replace h := it_f c235 h
        refine va_sld hx hb hX hbl hbA hS c235 dL_law_754 ?_
        refine lv_aload_n hx hb dL_law_755 rfl (lv_at hl 0 rfl) ?_
        refine lv_iload_n hx hb dL_law_756 rfl (lv_at hl 3 rfl) ?_
        refine lv_iconst (v := 2) hx hb dL_law_757 (by decide) ?_
        refine lv_iadd hx hb dL_law_758 ?_
        by_cases c236 : (y3 + 2) < (0 : Int32) ∨ L ≤ Int32.toNatClampNeg (y3 + 2)
        · cases it_t c236 h
        replace h := it_f c236 h
        refine va_sld hx hb hX hbl hbA hS c236 dL_law_759 ?_
        obtain ⟨r238, C239, hq237, h⟩ := bp_x h
        refine rc_i hS (run_V hC wX10_best k730 (e_0 G _) rfl hP hS (As := [.int (xs (Int32.toNatClampNeg (y3 + 1))), .int (xs (Int32.toNatClampNeg (y3 + 2)))]) (rest := []) (mX10_best l G R hq237) rfl hl.1 (Nat.le_of_ble_eq_true rfl) ⟨Nat.le_of_ble_eq_true rfl, Nat.le_of_ble_eq_true rfl⟩ ⟨Nat.le_of_ble_eq_true rfl, Nat.le_of_ble_eq_true rfl⟩ rfl dL_law_760) (fun H locs pb240 hP hS => ?_)
        refine lv_aload_n hx hb dL_law_763 rfl (lv_at hl 2 rfl) ?_
        refine lv_aload_n hx hb dL_law_764 rfl (lv_at hl 0 rfl) ?_
        refine lv_iload_n hx hb dL_law_765 rfl (lv_at hl 3 rfl) ?_
        refine lv_iconst (v := 1) hx hb dL_law_766 (by decide) ?_
        refine lv_iadd hx hb dL_law_767 ?_
        by_cases c241 : (y3 + 1) < (0 : Int32) ∨ L ≤ Int32.toNatClampNeg (y3 + 1)
        · cases it_t c241 h
        replace h := it_f c241 h
        refine va_sld hx hb hX hbl hbA hS c241 dL_law_768 ?_
        refine lv_aload_n hx hb dL_law_769 rfl (lv_at hl 0 rfl) ?_
        refine lv_iload_n hx hb dL_law_770 rfl (lv_at hl 3 rfl) ?_
        refine lv_iconst (v := 2) hx hb dL_law_771 (by decide) ?_
        refine lv_iadd hx hb dL_law_772 ?_
        by_cases c242 : (y3 + 2) < (0 : Int32) ∨ L ≤ Int32.toNatClampNeg (y3 + 2)
        · cases it_t c242 h
        replace h := it_f c242 h
        refine va_sld hx hb hX hbl hbA hS c242 dL_law_773 ?_
        obtain ⟨r244, C245, hq243, h⟩ := bp_x h
        refine rc_i hS (run_V hC wX11_best k1479 (e_72 G _) rfl hP hS (As := [.int (xs (Int32.toNatClampNeg (y3 + 1))), .int (xs (Int32.toNatClampNeg (y3 + 2)))]) (rest := [.int r238]) (mX11_best l G C239 hq243) rfl hl.1 (Nat.le_of_ble_eq_true rfl) ⟨Nat.le_of_ble_eq_true rfl, Nat.le_of_ble_eq_true rfl⟩ ⟨Nat.le_of_ble_eq_true rfl, Nat.le_of_ble_eq_true rfl⟩ rfl dL_law_774) (fun H locs pb246 hP hS => ?_)
        refine lv_icmp_eq (tgt := 1652) hx hb dL_law_777 (by decide) (fun c247 => ?_) (fun c247 => ?_)
        · replace h := it_t c247 h
          obtain ⟨x248, ex248⟩ : ∃ y : Int32, y = y3 + 6 := ⟨_, rfl⟩
          replace h := lt_y ex248 h
          refine lv_iinc (v := x248) (lv' := [(3, .int x248), (0, .ref b), (1, .ref (gA G 0)), (2, .ref (gA G 72))]) hx hb dL_law_1652 hl (k := 3) rfl (by rw [ex248]; rfl) (by decide) rfl (fun ls hl => ?_)
          refine lv_goto (tgt := 18) hx hb dL_law_1655 (by decide) ?_
          exact ih x248 C239 C245 _ _ _ h (lv_sub hl [1, 2, 3, 0] rfl) hP hS
        · replace h := it_f c247 h
          refine lv_iconst (v := 0) hx hb dL_law_780 (by decide) ?_
          exact absurd (Option.some.inj h) (by decide)
      replace h := it_f c234 h
      by_cases c249 : ((xs (Int32.toNatClampNeg y3)) &&& 63) = 16
      · replace h := it_t c249 h
        refine lv_tableIn (off := 749) (tgt := 782) hx hb dL_law_33 (by rw [c249]; decide) (by rw [c249]; decide) (by rw [c249]; rfl) (by decide) ?_
        refine lv_aload_n hx hb dL_law_782 rfl (lv_at hl 1 rfl) ?_
        refine lv_aload_n hx hb dL_law_783 rfl (lv_at hl 0 rfl) ?_
        refine lv_iload_n hx hb dL_law_784 rfl (lv_at hl 3 rfl) ?_
        refine lv_iconst (v := 1) hx hb dL_law_785 (by decide) ?_
        refine lv_iadd hx hb dL_law_786 ?_
        by_cases c250 : (y3 + 1) < (0 : Int32) ∨ L ≤ Int32.toNatClampNeg (y3 + 1)
        · cases it_t c250 h
        replace h := it_f c250 h
        refine va_sld hx hb hX hbl hbA hS c250 dL_law_787 ?_
        refine lv_aload_n hx hb dL_law_788 rfl (lv_at hl 0 rfl) ?_
        refine lv_iload_n hx hb dL_law_789 rfl (lv_at hl 3 rfl) ?_
        refine lv_iconst (v := 2) hx hb dL_law_790 (by decide) ?_
        refine lv_iadd hx hb dL_law_791 ?_
        by_cases c251 : (y3 + 2) < (0 : Int32) ∨ L ≤ Int32.toNatClampNeg (y3 + 2)
        · cases it_t c251 h
        replace h := it_f c251 h
        refine va_sld hx hb hX hbl hbA hS c251 dL_law_792 ?_
        refine lv_aload_n hx hb dL_law_793 rfl (lv_at hl 0 rfl) ?_
        refine lv_iload_n hx hb dL_law_794 rfl (lv_at hl 3 rfl) ?_
        refine lv_iconst (v := 3) hx hb dL_law_795 (by decide) ?_
        refine lv_iadd hx hb dL_law_796 ?_
        by_cases c252 : (y3 + 3) < (0 : Int32) ∨ L ≤ Int32.toNatClampNeg (y3 + 3)
        · cases it_t c252 h
        replace h := it_f c252 h
        refine va_sld hx hb hX hbl hbA hS c252 dL_law_797 ?_
        obtain ⟨r254, C255, hq253, h⟩ := bp_x h
        refine rc_i hS (run_V hC wX10_slip k738 (e_0 G _) rfl hP hS (As := [.int (xs (Int32.toNatClampNeg (y3 + 1))), .int (xs (Int32.toNatClampNeg (y3 + 2))), .int (xs (Int32.toNatClampNeg (y3 + 3)))]) (rest := []) (mX10_slip l G R hq253) rfl hl.1 (Nat.le_of_ble_eq_true rfl) ⟨Nat.le_of_ble_eq_true rfl, Nat.le_of_ble_eq_true rfl⟩ ⟨Nat.le_of_ble_eq_true rfl, Nat.le_of_ble_eq_true rfl⟩ rfl dL_law_798) (fun H locs pb256 hP hS => ?_)
        refine lv_aload_n hx hb dL_law_801 rfl (lv_at hl 2 rfl) ?_
        refine lv_aload_n hx hb dL_law_802 rfl (lv_at hl 0 rfl) ?_
        refine lv_iload_n hx hb dL_law_803 rfl (lv_at hl 3 rfl) ?_
        refine lv_iconst (v := 1) hx hb dL_law_804 (by decide) ?_
        refine lv_iadd hx hb dL_law_805 ?_
        by_cases c257 : (y3 + 1) < (0 : Int32) ∨ L ≤ Int32.toNatClampNeg (y3 + 1)
        · cases it_t c257 h
        replace h := it_f c257 h
        refine va_sld hx hb hX hbl hbA hS c257 dL_law_806 ?_
        refine lv_aload_n hx hb dL_law_807 rfl (lv_at hl 0 rfl) ?_
        refine lv_iload_n hx hb dL_law_808 rfl (lv_at hl 3 rfl) ?_
        refine lv_iconst (v := 2) hx hb dL_law_809 (by decide) ?_
        refine lv_iadd hx hb dL_law_810 ?_
        by_cases c258 : (y3 + 2) < (0 : Int32) ∨ L ≤ Int32.toNatClampNeg (y3 + 2)
        · cases it_t c258 h
        replace h := it_f c258 h
        refine va_sld hx hb hX hbl hbA hS c258 dL_law_811 ?_
        refine lv_aload_n hx hb dL_law_812 rfl (lv_at hl 0 rfl) ?_
        refine lv_iload_n hx hb dL_law_813 rfl (lv_at hl 3 rfl) ?_
        refine lv_iconst (v := 3) hx hb dL_law_814 (by decide) ?_
        refine lv_iadd hx hb dL_law_815 ?_
        by_cases c259 : (y3 + 3) < (0 : Int32) ∨ L ≤ Int32.toNatClampNeg (y3 + 3)
        · cases it_t c259 h
        replace h := it_f c259 h
        refine va_sld hx hb hX hbl hbA hS c259 dL_law_816 ?_
        obtain ⟨r261, C262, hq260, h⟩ := bp_x h
        refine rc_i hS (run_V hC wX11_slip k1487 (e_72 G _) rfl hP hS (As := [.int (xs (Int32.toNatClampNeg (y3 + 1))), .int (xs (Int32.toNatClampNeg (y3 + 2))), .int (xs (Int32.toNatClampNeg (y3 + 3)))]) (rest := [.int r254]) (mX11_slip l G C255 hq260) rfl hl.1 (Nat.le_of_ble_eq_true rfl) ⟨Nat.le_of_ble_eq_true rfl, Nat.le_of_ble_eq_true rfl⟩ ⟨Nat.le_of_ble_eq_true rfl, Nat.le_of_ble_eq_true rfl⟩ rfl dL_law_817) (fun H locs pb263 hP hS => ?_)
        refine lv_icmp_eq (tgt := 1652) hx hb dL_law_820 (by decide) (fun c264 => ?_) (fun c264 => ?_)
        · replace h := it_t c264 h
          obtain ⟨x265, ex265⟩ : ∃ y : Int32, y = y3 + 6 := ⟨_, rfl⟩
          replace h := lt_y ex265 h
          refine lv_iinc (v := x265) (lv' := [(3, .int x265), (0, .ref b), (1, .ref (gA G 0)), (2, .ref (gA G 72))]) hx hb dL_law_1652 hl (k := 3) rfl (by rw [ex265]; rfl) (by decide) rfl (fun ls hl => ?_)
          refine lv_goto (tgt := 18) hx hb dL_law_1655 (by decide) ?_
          exact ih x265 C255 C262 _ _ _ h (lv_sub hl [1, 2, 3, 0] rfl) hP hS
        · replace h := it_f c264 h
          refine lv_iconst (v := 0) hx hb dL_law_823 (by decide) ?_
          exact absurd (Option.some.inj h) (by decide)
      replace h := it_f c249 h
      by_cases c266 : ((xs (Int32.toNatClampNeg y3)) &&& 63) = 17
      · replace h := it_t c266 h
        refine lv_tableIn (off := 792) (tgt := 825) hx hb dL_law_33 (by rw [c266]; decide) (by rw [c266]; decide) (by rw [c266]; rfl) (by decide) ?_
        refine lv_aload_n hx hb dL_law_825 rfl (lv_at hl 1 rfl) ?_
        refine lv_aload_n hx hb dL_law_826 rfl (lv_at hl 0 rfl) ?_
        refine lv_iload_n hx hb dL_law_827 rfl (lv_at hl 3 rfl) ?_
        refine lv_iconst (v := 1) hx hb dL_law_828 (by decide) ?_
        refine lv_iadd hx hb dL_law_829 ?_
        by_cases c267 : (y3 + 1) < (0 : Int32) ∨ L ≤ Int32.toNatClampNeg (y3 + 1)
        · cases it_t c267 h
        replace h := it_f c267 h
        refine va_sld hx hb hX hbl hbA hS c267 dL_law_830 ?_
        obtain ⟨r269, C270, hq268, h⟩ := bp_x h
        refine rc_i hS (run_V hC wX10_suits k746 (e_0 G _) rfl hP hS (As := [.int (xs (Int32.toNatClampNeg (y3 + 1)))]) (rest := []) (mX10_suits l G R hq268) rfl hl.1 (Nat.le_of_ble_eq_true rfl) ⟨Nat.le_of_ble_eq_true rfl, Nat.le_of_ble_eq_true rfl⟩ ⟨Nat.le_of_ble_eq_true rfl, Nat.le_of_ble_eq_true rfl⟩ rfl dL_law_831) (fun H locs pb271 hP hS => ?_)
        refine lv_aload_n hx hb dL_law_834 rfl (lv_at hl 2 rfl) ?_
        refine lv_aload_n hx hb dL_law_835 rfl (lv_at hl 0 rfl) ?_
        refine lv_iload_n hx hb dL_law_836 rfl (lv_at hl 3 rfl) ?_
        refine lv_iconst (v := 1) hx hb dL_law_837 (by decide) ?_
        refine lv_iadd hx hb dL_law_838 ?_
        by_cases c272 : (y3 + 1) < (0 : Int32) ∨ L ≤ Int32.toNatClampNeg (y3 + 1)
        · cases it_t c272 h
        replace h := it_f c272 h
        refine va_sld hx hb hX hbl hbA hS c272 dL_law_839 ?_
        obtain ⟨r274, C275, hq273, h⟩ := bp_x h
        refine rc_i hS (run_V hC wX11_suits k1491 (e_72 G _) rfl hP hS (As := [.int (xs (Int32.toNatClampNeg (y3 + 1)))]) (rest := [.int r269]) (mX11_suits l G C270 hq273) rfl hl.1 (Nat.le_of_ble_eq_true rfl) ⟨Nat.le_of_ble_eq_true rfl, Nat.le_of_ble_eq_true rfl⟩ ⟨Nat.le_of_ble_eq_true rfl, Nat.le_of_ble_eq_true rfl⟩ rfl dL_law_840) (fun H locs pb276 hP hS => ?_)
        refine lv_icmp_eq (tgt := 1652) hx hb dL_law_843 (by decide) (fun c277 => ?_) (fun c277 => ?_)
        · replace h := it_t c277 h
          obtain ⟨x278, ex278⟩ : ∃ y : Int32, y = y3 + 6 := ⟨_, rfl⟩
          replace h := lt_y ex278 h
          refine lv_iinc (v := x278) (lv' := [(3, .int x278), (0, .ref b), (1, .ref (gA G 0)), (2, .ref (gA G 72))]) hx hb dL_law_1652 hl (k := 3) rfl (by rw [ex278]; rfl) (by decide) rfl (fun ls hl => ?_)
          refine lv_goto (tgt := 18) hx hb dL_law_1655 (by decide) ?_
          exact ih x278 C270 C275 _ _ _ h (lv_sub hl [1, 2, 3, 0] rfl) hP hS
        · replace h := it_f c277 h
          refine lv_iconst (v := 0) hx hb dL_law_846 (by decide) ?_
          exact absurd (Option.some.inj h) (by decide)
      replace h := it_f c266 h
      by_cases c279 : ((xs (Int32.toNatClampNeg y3)) &&& 63) = 18
      · replace h := it_t c279 h
        refine lv_tableIn (off := 815) (tgt := 848) hx hb dL_law_33 (by rw [c279]; decide) (by rw [c279]; decide) (by rw [c279]; rfl) (by decide) ?_
        refine lv_aload_n hx hb dL_law_848 rfl (lv_at hl 1 rfl) ?_
        refine lv_aload_n hx hb dL_law_849 rfl (lv_at hl 0 rfl) ?_
        refine lv_iload_n hx hb dL_law_850 rfl (lv_at hl 3 rfl) ?_
        refine lv_iconst (v := 1) hx hb dL_law_851 (by decide) ?_
        refine lv_iadd hx hb dL_law_852 ?_
        by_cases c280 : (y3 + 1) < (0 : Int32) ∨ L ≤ Int32.toNatClampNeg (y3 + 1)
        · cases it_t c280 h
        replace h := it_f c280 h
        refine va_sld hx hb hX hbl hbA hS c280 dL_law_853 ?_
        obtain ⟨r282, C283, hq281, h⟩ := bp_x h
        refine rc_i hS (run_V hC wX10_tell k750 (e_0 G _) rfl hP hS (As := [.int (xs (Int32.toNatClampNeg (y3 + 1)))]) (rest := []) (mX10_tell l G R hq281) rfl hl.1 (Nat.le_of_ble_eq_true rfl) ⟨Nat.le_of_ble_eq_true rfl, Nat.le_of_ble_eq_true rfl⟩ ⟨Nat.le_of_ble_eq_true rfl, Nat.le_of_ble_eq_true rfl⟩ rfl dL_law_854) (fun H locs pb284 hP hS => ?_)
        refine lv_aload_n hx hb dL_law_857 rfl (lv_at hl 2 rfl) ?_
        refine lv_aload_n hx hb dL_law_858 rfl (lv_at hl 0 rfl) ?_
        refine lv_iload_n hx hb dL_law_859 rfl (lv_at hl 3 rfl) ?_
        refine lv_iconst (v := 1) hx hb dL_law_860 (by decide) ?_
        refine lv_iadd hx hb dL_law_861 ?_
        by_cases c285 : (y3 + 1) < (0 : Int32) ∨ L ≤ Int32.toNatClampNeg (y3 + 1)
        · cases it_t c285 h
        replace h := it_f c285 h
        refine va_sld hx hb hX hbl hbA hS c285 dL_law_862 ?_
        obtain ⟨r287, C288, hq286, h⟩ := bp_x h
        refine rc_i hS (run_V hC wX11_tell k1495 (e_72 G _) rfl hP hS (As := [.int (xs (Int32.toNatClampNeg (y3 + 1)))]) (rest := [.int r282]) (mX11_tell l G C283 hq286) rfl hl.1 (Nat.le_of_ble_eq_true rfl) ⟨Nat.le_of_ble_eq_true rfl, Nat.le_of_ble_eq_true rfl⟩ ⟨Nat.le_of_ble_eq_true rfl, Nat.le_of_ble_eq_true rfl⟩ rfl dL_law_863) (fun H locs pb289 hP hS => ?_)
        refine lv_icmp_eq (tgt := 1652) hx hb dL_law_866 (by decide) (fun c290 => ?_) (fun c290 => ?_)
        · replace h := it_t c290 h
          obtain ⟨x291, ex291⟩ : ∃ y : Int32, y = y3 + 6 := ⟨_, rfl⟩
          replace h := lt_y ex291 h
          refine lv_iinc (v := x291) (lv' := [(3, .int x291), (0, .ref b), (1, .ref (gA G 0)), (2, .ref (gA G 72))]) hx hb dL_law_1652 hl (k := 3) rfl (by rw [ex291]; rfl) (by decide) rfl (fun ls hl => ?_)
          refine lv_goto (tgt := 18) hx hb dL_law_1655 (by decide) ?_
          exact ih x291 C283 C288 _ _ _ h (lv_sub hl [1, 2, 3, 0] rfl) hP hS
        · replace h := it_f c290 h
          refine lv_iconst (v := 0) hx hb dL_law_869 (by decide) ?_
          exact absurd (Option.some.inj h) (by decide)
      replace h := it_f c279 h
      by_cases c292 : ((xs (Int32.toNatClampNeg y3)) &&& 63) = 19
      · replace h := it_t c292 h
        refine lv_tableIn (off := 838) (tgt := 871) hx hb dL_law_33 (by rw [c292]; decide) (by rw [c292]; decide) (by rw [c292]; rfl) (by decide) ?_
        refine lv_aload_n hx hb dL_law_871 rfl (lv_at hl 1 rfl) ?_
        obtain ⟨r294, C295, hq293, h⟩ := bp_x h
        refine rc_i hS (run_V hC wX10_untell k754 (e_0 G _) rfl hP hS (As := []) (rest := []) (mX10_untell l G R hq293) rfl hl.1 (Nat.le_of_ble_eq_true rfl) ⟨Nat.le_of_ble_eq_true rfl, Nat.le_of_ble_eq_true rfl⟩ ⟨Nat.le_of_ble_eq_true rfl, Nat.le_of_ble_eq_true rfl⟩ rfl dL_law_872) (fun H locs pb296 hP hS => ?_)
        refine lv_aload_n hx hb dL_law_875 rfl (lv_at hl 2 rfl) ?_
        obtain ⟨r298, C299, hq297, h⟩ := bp_x h
        refine rc_i hS (run_V hC wX11_untell k1499 (e_72 G _) rfl hP hS (As := []) (rest := [.int r294]) (mX11_untell l G C295 hq297) rfl hl.1 (Nat.le_of_ble_eq_true rfl) ⟨Nat.le_of_ble_eq_true rfl, Nat.le_of_ble_eq_true rfl⟩ ⟨Nat.le_of_ble_eq_true rfl, Nat.le_of_ble_eq_true rfl⟩ rfl dL_law_876) (fun H locs pb300 hP hS => ?_)
        refine lv_icmp_eq (tgt := 1652) hx hb dL_law_879 (by decide) (fun c301 => ?_) (fun c301 => ?_)
        · replace h := it_t c301 h
          obtain ⟨x302, ex302⟩ : ∃ y : Int32, y = y3 + 6 := ⟨_, rfl⟩
          replace h := lt_y ex302 h
          refine lv_iinc (v := x302) (lv' := [(3, .int x302), (0, .ref b), (1, .ref (gA G 0)), (2, .ref (gA G 72))]) hx hb dL_law_1652 hl (k := 3) rfl (by rw [ex302]; rfl) (by decide) rfl (fun ls hl => ?_)
          refine lv_goto (tgt := 18) hx hb dL_law_1655 (by decide) ?_
          exact ih x302 C295 C299 _ _ _ h (lv_sub hl [1, 2, 3, 0] rfl) hP hS
        · replace h := it_f c301 h
          refine lv_iconst (v := 0) hx hb dL_law_882 (by decide) ?_
          exact absurd (Option.some.inj h) (by decide)
      replace h := it_f c292 h
      by_cases c303 : ((xs (Int32.toNatClampNeg y3)) &&& 63) = 20
      · replace h := it_t c303 h
        refine lv_tableIn (off := 851) (tgt := 884) hx hb dL_law_33 (by rw [c303]; decide) (by rw [c303]; decide) (by rw [c303]; rfl) (by decide) ?_
        refine lv_aload_n hx hb dL_law_884 rfl (lv_at hl 1 rfl) ?_
        refine lv_aload_n hx hb dL_law_885 rfl (lv_at hl 0 rfl) ?_
        refine lv_iload_n hx hb dL_law_886 rfl (lv_at hl 3 rfl) ?_
        refine lv_iconst (v := 1) hx hb dL_law_887 (by decide) ?_
        refine lv_iadd hx hb dL_law_888 ?_
        by_cases c304 : (y3 + 1) < (0 : Int32) ∨ L ≤ Int32.toNatClampNeg (y3 + 1)
        · cases it_t c304 h
        replace h := it_f c304 h
        refine va_sld hx hb hX hbl hbA hS c304 dL_law_889 ?_
        refine lv_aload_n hx hb dL_law_890 rfl (lv_at hl 0 rfl) ?_
        refine lv_iload_n hx hb dL_law_891 rfl (lv_at hl 3 rfl) ?_
        refine lv_iconst (v := 2) hx hb dL_law_892 (by decide) ?_
        refine lv_iadd hx hb dL_law_893 ?_
        by_cases c305 : (y3 + 2) < (0 : Int32) ∨ L ≤ Int32.toNatClampNeg (y3 + 2)
        · cases it_t c305 h
        replace h := it_f c305 h
        refine va_sld hx hb hX hbl hbA hS c305 dL_law_894 ?_
        refine lv_aload_n hx hb dL_law_895 rfl (lv_at hl 0 rfl) ?_
        refine lv_iload_n hx hb dL_law_896 rfl (lv_at hl 3 rfl) ?_
        refine lv_iconst (v := 3) hx hb dL_law_897 (by decide) ?_
        refine lv_iadd hx hb dL_law_898 ?_
        by_cases c306 : (y3 + 3) < (0 : Int32) ∨ L ≤ Int32.toNatClampNeg (y3 + 3)
        · cases it_t c306 h
        replace h := it_f c306 h
        refine va_sld hx hb hX hbl hbA hS c306 dL_law_899 ?_
        obtain ⟨r308, C309, hq307, h⟩ := bp_x h
        refine rc_i hS (run_V hC wX10_parts k758 (e_0 G _) rfl hP hS (As := [.int (xs (Int32.toNatClampNeg (y3 + 1))), .int (xs (Int32.toNatClampNeg (y3 + 2))), .int (xs (Int32.toNatClampNeg (y3 + 3)))]) (rest := []) (mX10_parts l G R hq307) rfl hl.1 (Nat.le_of_ble_eq_true rfl) ⟨Nat.le_of_ble_eq_true rfl, Nat.le_of_ble_eq_true rfl⟩ ⟨Nat.le_of_ble_eq_true rfl, Nat.le_of_ble_eq_true rfl⟩ rfl dL_law_900) (fun H locs pb310 hP hS => ?_)
        refine lv_aload_n hx hb dL_law_903 rfl (lv_at hl 2 rfl) ?_
        refine lv_aload_n hx hb dL_law_904 rfl (lv_at hl 0 rfl) ?_
        refine lv_iload_n hx hb dL_law_905 rfl (lv_at hl 3 rfl) ?_
        refine lv_iconst (v := 1) hx hb dL_law_906 (by decide) ?_
        refine lv_iadd hx hb dL_law_907 ?_
        by_cases c311 : (y3 + 1) < (0 : Int32) ∨ L ≤ Int32.toNatClampNeg (y3 + 1)
        · cases it_t c311 h
        replace h := it_f c311 h
        refine va_sld hx hb hX hbl hbA hS c311 dL_law_908 ?_
        refine lv_aload_n hx hb dL_law_909 rfl (lv_at hl 0 rfl) ?_
        refine lv_iload_n hx hb dL_law_910 rfl (lv_at hl 3 rfl) ?_
        refine lv_iconst (v := 2) hx hb dL_law_911 (by decide) ?_
        refine lv_iadd hx hb dL_law_912 ?_
        by_cases c312 : (y3 + 2) < (0 : Int32) ∨ L ≤ Int32.toNatClampNeg (y3 + 2)
        · cases it_t c312 h
        replace h := it_f c312 h
        refine va_sld hx hb hX hbl hbA hS c312 dL_law_913 ?_
        refine lv_aload_n hx hb dL_law_914 rfl (lv_at hl 0 rfl) ?_
        refine lv_iload_n hx hb dL_law_915 rfl (lv_at hl 3 rfl) ?_
        refine lv_iconst (v := 3) hx hb dL_law_916 (by decide) ?_
        refine lv_iadd hx hb dL_law_917 ?_
        by_cases c313 : (y3 + 3) < (0 : Int32) ∨ L ≤ Int32.toNatClampNeg (y3 + 3)
        · cases it_t c313 h
        replace h := it_f c313 h
        refine va_sld hx hb hX hbl hbA hS c313 dL_law_918 ?_
        obtain ⟨r315, C316, hq314, h⟩ := bp_x h
        refine rc_i hS (run_V hC wX11_parts k1503 (e_72 G _) rfl hP hS (As := [.int (xs (Int32.toNatClampNeg (y3 + 1))), .int (xs (Int32.toNatClampNeg (y3 + 2))), .int (xs (Int32.toNatClampNeg (y3 + 3)))]) (rest := [.int r308]) (mX11_parts l G C309 hq314) rfl hl.1 (Nat.le_of_ble_eq_true rfl) ⟨Nat.le_of_ble_eq_true rfl, Nat.le_of_ble_eq_true rfl⟩ ⟨Nat.le_of_ble_eq_true rfl, Nat.le_of_ble_eq_true rfl⟩ rfl dL_law_919) (fun H locs pb317 hP hS => ?_)
        refine lv_icmp_eq (tgt := 1652) hx hb dL_law_922 (by decide) (fun c318 => ?_) (fun c318 => ?_)
        · replace h := it_t c318 h
          obtain ⟨x319, ex319⟩ : ∃ y : Int32, y = y3 + 6 := ⟨_, rfl⟩
          replace h := lt_y ex319 h
          refine lv_iinc (v := x319) (lv' := [(3, .int x319), (0, .ref b), (1, .ref (gA G 0)), (2, .ref (gA G 72))]) hx hb dL_law_1652 hl (k := 3) rfl (by rw [ex319]; rfl) (by decide) rfl (fun ls hl => ?_)
          refine lv_goto (tgt := 18) hx hb dL_law_1655 (by decide) ?_
          exact ih x319 C309 C316 _ _ _ h (lv_sub hl [1, 2, 3, 0] rfl) hP hS
        · replace h := it_f c318 h
          refine lv_iconst (v := 0) hx hb dL_law_925 (by decide) ?_
          exact absurd (Option.some.inj h) (by decide)
      replace h := it_f c303 h
      by_cases c320 : ((xs (Int32.toNatClampNeg y3)) &&& 63) = 21
      · replace h := it_t c320 h
        refine lv_tableIn (off := 894) (tgt := 927) hx hb dL_law_33 (by rw [c320]; decide) (by rw [c320]; decide) (by rw [c320]; rfl) (by decide) ?_
        refine lv_aload_n hx hb dL_law_927 rfl (lv_at hl 1 rfl) ?_
        refine lv_aload_n hx hb dL_law_928 rfl (lv_at hl 0 rfl) ?_
        refine lv_iload_n hx hb dL_law_929 rfl (lv_at hl 3 rfl) ?_
        refine lv_iconst (v := 1) hx hb dL_law_930 (by decide) ?_
        refine lv_iadd hx hb dL_law_931 ?_
        by_cases c321 : (y3 + 1) < (0 : Int32) ∨ L ≤ Int32.toNatClampNeg (y3 + 1)
        · cases it_t c321 h
        replace h := it_f c321 h
        refine va_sld hx hb hX hbl hbA hS c321 dL_law_932 ?_
        refine lv_aload_n hx hb dL_law_933 rfl (lv_at hl 0 rfl) ?_
        refine lv_iload_n hx hb dL_law_934 rfl (lv_at hl 3 rfl) ?_
        refine lv_iconst (v := 2) hx hb dL_law_935 (by decide) ?_
        refine lv_iadd hx hb dL_law_936 ?_
        by_cases c322 : (y3 + 2) < (0 : Int32) ∨ L ≤ Int32.toNatClampNeg (y3 + 2)
        · cases it_t c322 h
        replace h := it_f c322 h
        refine va_sld hx hb hX hbl hbA hS c322 dL_law_937 ?_
        obtain ⟨r324, C325, hq323, h⟩ := bp_x h
        refine rc_i hS (run_V hC wX10_ask k768 (e_0 G _) rfl hP hS (As := [.int (xs (Int32.toNatClampNeg (y3 + 1))), .int (xs (Int32.toNatClampNeg (y3 + 2)))]) (rest := []) (mX10_ask l G R hq323) rfl hl.1 (Nat.le_of_ble_eq_true rfl) ⟨Nat.le_of_ble_eq_true rfl, Nat.le_of_ble_eq_true rfl⟩ ⟨Nat.le_of_ble_eq_true rfl, Nat.le_of_ble_eq_true rfl⟩ rfl dL_law_938) (fun H locs pb326 hP hS => ?_)
        refine lv_aload_n hx hb dL_law_941 rfl (lv_at hl 2 rfl) ?_
        refine lv_aload_n hx hb dL_law_942 rfl (lv_at hl 0 rfl) ?_
        refine lv_iload_n hx hb dL_law_943 rfl (lv_at hl 3 rfl) ?_
        refine lv_iconst (v := 1) hx hb dL_law_944 (by decide) ?_
        refine lv_iadd hx hb dL_law_945 ?_
        by_cases c327 : (y3 + 1) < (0 : Int32) ∨ L ≤ Int32.toNatClampNeg (y3 + 1)
        · cases it_t c327 h
        replace h := it_f c327 h
        refine va_sld hx hb hX hbl hbA hS c327 dL_law_946 ?_
        refine lv_aload_n hx hb dL_law_947 rfl (lv_at hl 0 rfl) ?_
        refine lv_iload_n hx hb dL_law_948 rfl (lv_at hl 3 rfl) ?_
        refine lv_iconst (v := 2) hx hb dL_law_949 (by decide) ?_
        refine lv_iadd hx hb dL_law_950 ?_
        by_cases c328 : (y3 + 2) < (0 : Int32) ∨ L ≤ Int32.toNatClampNeg (y3 + 2)
        · cases it_t c328 h
        replace h := it_f c328 h
        refine va_sld hx hb hX hbl hbA hS c328 dL_law_951 ?_
        obtain ⟨r330, C331, hq329, h⟩ := bp_x h
        refine rc_i hS (run_V hC wX11_ask k1313 (e_72 G _) rfl hP hS (As := [.int (xs (Int32.toNatClampNeg (y3 + 1))), .int (xs (Int32.toNatClampNeg (y3 + 2)))]) (rest := [.int r324]) (mX11_ask l G C325 hq329) rfl hl.1 (Nat.le_of_ble_eq_true rfl) ⟨Nat.le_of_ble_eq_true rfl, Nat.le_of_ble_eq_true rfl⟩ ⟨Nat.le_of_ble_eq_true rfl, Nat.le_of_ble_eq_true rfl⟩ rfl dL_law_952) (fun H locs pb332 hP hS => ?_)
        refine lv_icmp_eq (tgt := 1652) hx hb dL_law_955 (by decide) (fun c333 => ?_) (fun c333 => ?_)
        · replace h := it_t c333 h
          obtain ⟨x334, ex334⟩ : ∃ y : Int32, y = y3 + 6 := ⟨_, rfl⟩
          replace h := lt_y ex334 h
          refine lv_iinc (v := x334) (lv' := [(3, .int x334), (0, .ref b), (1, .ref (gA G 0)), (2, .ref (gA G 72))]) hx hb dL_law_1652 hl (k := 3) rfl (by rw [ex334]; rfl) (by decide) rfl (fun ls hl => ?_)
          refine lv_goto (tgt := 18) hx hb dL_law_1655 (by decide) ?_
          exact ih x334 C325 C331 _ _ _ h (lv_sub hl [1, 2, 3, 0] rfl) hP hS
        · replace h := it_f c333 h
          refine lv_iconst (v := 0) hx hb dL_law_958 (by decide) ?_
          exact absurd (Option.some.inj h) (by decide)
      replace h := it_f c320 h
      by_cases c335 : ((xs (Int32.toNatClampNeg y3)) &&& 63) = 22
      · replace h := it_t c335 h
        refine lv_tableIn (off := 927) (tgt := 960) hx hb dL_law_33 (by rw [c335]; decide) (by rw [c335]; decide) (by rw [c335]; rfl) (by decide) ?_
        refine lv_aload_n hx hb dL_law_960 rfl (lv_at hl 1 rfl) ?_
        refine lv_aload_n hx hb dL_law_961 rfl (lv_at hl 0 rfl) ?_
        refine lv_iload_n hx hb dL_law_962 rfl (lv_at hl 3 rfl) ?_
        refine lv_iconst (v := 1) hx hb dL_law_963 (by decide) ?_
        refine lv_iadd hx hb dL_law_964 ?_
        by_cases c336 : (y3 + 1) < (0 : Int32) ∨ L ≤ Int32.toNatClampNeg (y3 + 1)
        · cases it_t c336 h
        replace h := it_f c336 h
        refine va_sld hx hb hX hbl hbA hS c336 dL_law_965 ?_
        refine lv_aload_n hx hb dL_law_966 rfl (lv_at hl 0 rfl) ?_
        refine lv_iload_n hx hb dL_law_967 rfl (lv_at hl 3 rfl) ?_
        refine lv_iconst (v := 2) hx hb dL_law_968 (by decide) ?_
        refine lv_iadd hx hb dL_law_969 ?_
        by_cases c337 : (y3 + 2) < (0 : Int32) ∨ L ≤ Int32.toNatClampNeg (y3 + 2)
        · cases it_t c337 h
        replace h := it_f c337 h
        refine va_sld hx hb hX hbl hbA hS c337 dL_law_970 ?_
        refine lv_aload_n hx hb dL_law_971 rfl (lv_at hl 0 rfl) ?_
        refine lv_iload_n hx hb dL_law_972 rfl (lv_at hl 3 rfl) ?_
        refine lv_iconst (v := 3) hx hb dL_law_973 (by decide) ?_
        refine lv_iadd hx hb dL_law_974 ?_
        by_cases c338 : (y3 + 3) < (0 : Int32) ∨ L ≤ Int32.toNatClampNeg (y3 + 3)
        · cases it_t c338 h
        replace h := it_f c338 h
        refine va_sld hx hb hX hbl hbA hS c338 dL_law_975 ?_
        obtain ⟨r340, C341, hq339, h⟩ := bp_x h
        refine rc_i hS (run_V hC wX10_taught k779 (e_0 G _) rfl hP hS (As := [.int (xs (Int32.toNatClampNeg (y3 + 1))), .int (xs (Int32.toNatClampNeg (y3 + 2))), .int (xs (Int32.toNatClampNeg (y3 + 3)))]) (rest := []) (mX10_taught l G R hq339) rfl hl.1 (Nat.le_of_ble_eq_true rfl) ⟨Nat.le_of_ble_eq_true rfl, Nat.le_of_ble_eq_true rfl⟩ ⟨Nat.le_of_ble_eq_true rfl, Nat.le_of_ble_eq_true rfl⟩ rfl dL_law_976) (fun H locs pb342 hP hS => ?_)
        refine lv_aload_n hx hb dL_law_979 rfl (lv_at hl 2 rfl) ?_
        refine lv_aload_n hx hb dL_law_980 rfl (lv_at hl 0 rfl) ?_
        refine lv_iload_n hx hb dL_law_981 rfl (lv_at hl 3 rfl) ?_
        refine lv_iconst (v := 1) hx hb dL_law_982 (by decide) ?_
        refine lv_iadd hx hb dL_law_983 ?_
        by_cases c343 : (y3 + 1) < (0 : Int32) ∨ L ≤ Int32.toNatClampNeg (y3 + 1)
        · cases it_t c343 h
        replace h := it_f c343 h
        refine va_sld hx hb hX hbl hbA hS c343 dL_law_984 ?_
        refine lv_aload_n hx hb dL_law_985 rfl (lv_at hl 0 rfl) ?_
        refine lv_iload_n hx hb dL_law_986 rfl (lv_at hl 3 rfl) ?_
        refine lv_iconst (v := 2) hx hb dL_law_987 (by decide) ?_
        refine lv_iadd hx hb dL_law_988 ?_
        by_cases c344 : (y3 + 2) < (0 : Int32) ∨ L ≤ Int32.toNatClampNeg (y3 + 2)
        · cases it_t c344 h
        replace h := it_f c344 h
        refine va_sld hx hb hX hbl hbA hS c344 dL_law_989 ?_
        refine lv_aload_n hx hb dL_law_990 rfl (lv_at hl 0 rfl) ?_
        refine lv_iload_n hx hb dL_law_991 rfl (lv_at hl 3 rfl) ?_
        refine lv_iconst (v := 3) hx hb dL_law_992 (by decide) ?_
        refine lv_iadd hx hb dL_law_993 ?_
        by_cases c345 : (y3 + 3) < (0 : Int32) ∨ L ≤ Int32.toNatClampNeg (y3 + 3)
        · cases it_t c345 h
        replace h := it_f c345 h
        refine va_sld hx hb hX hbl hbA hS c345 dL_law_994 ?_
        obtain ⟨r347, C348, hq346, h⟩ := bp_x h
        refine rc_i hS (run_V hC wX11_taught k1508 (e_72 G _) rfl hP hS (As := [.int (xs (Int32.toNatClampNeg (y3 + 1))), .int (xs (Int32.toNatClampNeg (y3 + 2))), .int (xs (Int32.toNatClampNeg (y3 + 3)))]) (rest := [.int r340]) (mX11_taught l G C341 hq346) rfl hl.1 (Nat.le_of_ble_eq_true rfl) ⟨Nat.le_of_ble_eq_true rfl, Nat.le_of_ble_eq_true rfl⟩ ⟨Nat.le_of_ble_eq_true rfl, Nat.le_of_ble_eq_true rfl⟩ rfl dL_law_995) (fun H locs pb349 hP hS => ?_)
        refine lv_icmp_eq (tgt := 1652) hx hb dL_law_998 (by decide) (fun c350 => ?_) (fun c350 => ?_)
        · replace h := it_t c350 h
          obtain ⟨x351, ex351⟩ : ∃ y : Int32, y = y3 + 6 := ⟨_, rfl⟩
          replace h := lt_y ex351 h
          refine lv_iinc (v := x351) (lv' := [(3, .int x351), (0, .ref b), (1, .ref (gA G 0)), (2, .ref (gA G 72))]) hx hb dL_law_1652 hl (k := 3) rfl (by rw [ex351]; rfl) (by decide) rfl (fun ls hl => ?_)
          refine lv_goto (tgt := 18) hx hb dL_law_1655 (by decide) ?_
          exact ih x351 C341 C348 _ _ _ h (lv_sub hl [1, 2, 3, 0] rfl) hP hS
        · replace h := it_f c350 h
          refine lv_iconst (v := 0) hx hb dL_law_1001 (by decide) ?_
          exact absurd (Option.some.inj h) (by decide)
      replace h := it_f c335 h
      by_cases c352 : ((xs (Int32.toNatClampNeg y3)) &&& 63) = 23
      · replace h := it_t c352 h
        refine lv_tableIn (off := 970) (tgt := 1003) hx hb dL_law_33 (by rw [c352]; decide) (by rw [c352]; decide) (by rw [c352]; rfl) (by decide) ?_
        refine lv_aload_n hx hb dL_law_1003 rfl (lv_at hl 1 rfl) ?_
        refine lv_aload_n hx hb dL_law_1004 rfl (lv_at hl 0 rfl) ?_
        refine lv_iload_n hx hb dL_law_1005 rfl (lv_at hl 3 rfl) ?_
        refine lv_iconst (v := 1) hx hb dL_law_1006 (by decide) ?_
        refine lv_iadd hx hb dL_law_1007 ?_
        by_cases c353 : (y3 + 1) < (0 : Int32) ∨ L ≤ Int32.toNatClampNeg (y3 + 1)
        · cases it_t c353 h
        replace h := it_f c353 h
        refine va_sld hx hb hX hbl hbA hS c353 dL_law_1008 ?_
        refine lv_aload_n hx hb dL_law_1009 rfl (lv_at hl 0 rfl) ?_
        refine lv_iload_n hx hb dL_law_1010 rfl (lv_at hl 3 rfl) ?_
        refine lv_iconst (v := 2) hx hb dL_law_1011 (by decide) ?_
        refine lv_iadd hx hb dL_law_1012 ?_
        by_cases c354 : (y3 + 2) < (0 : Int32) ∨ L ≤ Int32.toNatClampNeg (y3 + 2)
        · cases it_t c354 h
        replace h := it_f c354 h
        refine va_sld hx hb hX hbl hbA hS c354 dL_law_1013 ?_
        obtain ⟨r356, C357, hq355, h⟩ := bp_x h
        refine rc_i hS (run_V hC wX10_first k788 (e_0 G _) rfl hP hS (As := [.int (xs (Int32.toNatClampNeg (y3 + 1))), .int (xs (Int32.toNatClampNeg (y3 + 2)))]) (rest := []) (mX10_first l G R hq355) rfl hl.1 (Nat.le_of_ble_eq_true rfl) ⟨Nat.le_of_ble_eq_true rfl, Nat.le_of_ble_eq_true rfl⟩ ⟨Nat.le_of_ble_eq_true rfl, Nat.le_of_ble_eq_true rfl⟩ rfl dL_law_1014) (fun H locs pb358 hP hS => ?_)
        refine lv_aload_n hx hb dL_law_1017 rfl (lv_at hl 2 rfl) ?_
        refine lv_aload_n hx hb dL_law_1018 rfl (lv_at hl 0 rfl) ?_
        refine lv_iload_n hx hb dL_law_1019 rfl (lv_at hl 3 rfl) ?_
        refine lv_iconst (v := 1) hx hb dL_law_1020 (by decide) ?_
        refine lv_iadd hx hb dL_law_1021 ?_
        by_cases c359 : (y3 + 1) < (0 : Int32) ∨ L ≤ Int32.toNatClampNeg (y3 + 1)
        · cases it_t c359 h
        replace h := it_f c359 h
        refine va_sld hx hb hX hbl hbA hS c359 dL_law_1022 ?_
        refine lv_aload_n hx hb dL_law_1023 rfl (lv_at hl 0 rfl) ?_
        refine lv_iload_n hx hb dL_law_1024 rfl (lv_at hl 3 rfl) ?_
        refine lv_iconst (v := 2) hx hb dL_law_1025 (by decide) ?_
        refine lv_iadd hx hb dL_law_1026 ?_
        by_cases c360 : (y3 + 2) < (0 : Int32) ∨ L ≤ Int32.toNatClampNeg (y3 + 2)
        · cases it_t c360 h
        replace h := it_f c360 h
        refine va_sld hx hb hX hbl hbA hS c360 dL_law_1027 ?_
        obtain ⟨r362, C363, hq361, h⟩ := bp_x h
        refine rc_i hS (run_V hC wX11_first k1529 (e_72 G _) rfl hP hS (As := [.int (xs (Int32.toNatClampNeg (y3 + 1))), .int (xs (Int32.toNatClampNeg (y3 + 2)))]) (rest := [.int r356]) (mX11_first l G C357 hq361) rfl hl.1 (Nat.le_of_ble_eq_true rfl) ⟨Nat.le_of_ble_eq_true rfl, Nat.le_of_ble_eq_true rfl⟩ ⟨Nat.le_of_ble_eq_true rfl, Nat.le_of_ble_eq_true rfl⟩ rfl dL_law_1028) (fun H locs pb364 hP hS => ?_)
        refine lv_icmp_eq (tgt := 1652) hx hb dL_law_1031 (by decide) (fun c365 => ?_) (fun c365 => ?_)
        · replace h := it_t c365 h
          obtain ⟨x366, ex366⟩ : ∃ y : Int32, y = y3 + 6 := ⟨_, rfl⟩
          replace h := lt_y ex366 h
          refine lv_iinc (v := x366) (lv' := [(3, .int x366), (0, .ref b), (1, .ref (gA G 0)), (2, .ref (gA G 72))]) hx hb dL_law_1652 hl (k := 3) rfl (by rw [ex366]; rfl) (by decide) rfl (fun ls hl => ?_)
          refine lv_goto (tgt := 18) hx hb dL_law_1655 (by decide) ?_
          exact ih x366 C357 C363 _ _ _ h (lv_sub hl [1, 2, 3, 0] rfl) hP hS
        · replace h := it_f c365 h
          refine lv_iconst (v := 0) hx hb dL_law_1034 (by decide) ?_
          exact absurd (Option.some.inj h) (by decide)
      replace h := it_f c352 h
      by_cases c367 : ((xs (Int32.toNatClampNeg y3)) &&& 63) = 24
      · replace h := it_t c367 h
        refine lv_tableIn (off := 1003) (tgt := 1036) hx hb dL_law_33 (by rw [c367]; decide) (by rw [c367]; decide) (by rw [c367]; rfl) (by decide) ?_
        refine lv_aload_n hx hb dL_law_1036 rfl (lv_at hl 1 rfl) ?_
        refine lv_aload_n hx hb dL_law_1037 rfl (lv_at hl 0 rfl) ?_
        refine lv_iload_n hx hb dL_law_1038 rfl (lv_at hl 3 rfl) ?_
        refine lv_iconst (v := 1) hx hb dL_law_1039 (by decide) ?_
        refine lv_iadd hx hb dL_law_1040 ?_
        by_cases c368 : (y3 + 1) < (0 : Int32) ∨ L ≤ Int32.toNatClampNeg (y3 + 1)
        · cases it_t c368 h
        replace h := it_f c368 h
        refine va_sld hx hb hX hbl hbA hS c368 dL_law_1041 ?_
        refine lv_i2l hx hb dL_law_1042 rfl ?_
        refine lv_bipush (v := 32) hx hb dL_law_1043 (by decide) ?_
        refine lv_lshl hx hb dL_law_1045 rfl ?_
        refine lv_aload_n hx hb dL_law_1046 rfl (lv_at hl 0 rfl) ?_
        refine lv_iload_n hx hb dL_law_1047 rfl (lv_at hl 3 rfl) ?_
        refine lv_iconst (v := 2) hx hb dL_law_1048 (by decide) ?_
        refine lv_iadd hx hb dL_law_1049 ?_
        by_cases c369 : (y3 + 2) < (0 : Int32) ∨ L ≤ Int32.toNatClampNeg (y3 + 2)
        · cases it_t c369 h
        replace h := it_f c369 h
        refine va_sld hx hb hX hbl hbA hS c369 dL_law_1050 ?_
        refine lv_i2l hx hb dL_law_1051 rfl ?_
        refine lv_ldc2 hx hb (v := 4294967295) hown (hts _ k1661) dL_law_1052 ?_
        refine lv_land hx hb dL_law_1055 ?_
        refine lv_lor hx hb dL_law_1056 ?_
        refine lv_aload_n hx hb dL_law_1057 rfl (lv_at hl 0 rfl) ?_
        refine lv_iload_n hx hb dL_law_1058 rfl (lv_at hl 3 rfl) ?_
        refine lv_iconst (v := 3) hx hb dL_law_1059 (by decide) ?_
        refine lv_iadd hx hb dL_law_1060 ?_
        by_cases c370 : (y3 + 3) < (0 : Int32) ∨ L ≤ Int32.toNatClampNeg (y3 + 3)
        · cases it_t c370 h
        replace h := it_f c370 h
        refine va_sld hx hb hX hbl hbA hS c370 dL_law_1061 ?_
        obtain ⟨r372, hq371, h⟩ := bn_x h
        refine rc_i hS (run_V hC wX10_root k812 (e_0 G _) rfl hP hS (As := [.long (((Int32.toInt64 (xs (Int32.toNatClampNeg (y3 + 1)))) <<< (Int32.toInt64 32 &&& 63)) ||| ((Int32.toInt64 (xs (Int32.toNatClampNeg (y3 + 2)))) &&& 4294967295)), .int (xs (Int32.toNatClampNeg (y3 + 3)))]) (rest := []) (mX10_root l G R hq371) rfl hl.1 (Nat.le_of_ble_eq_true rfl) ⟨Nat.le_of_ble_eq_true rfl, Nat.le_of_ble_eq_true rfl⟩ ⟨Nat.le_of_ble_eq_true rfl, Nat.le_of_ble_eq_true rfl⟩ rfl dL_law_1062) (fun H locs pb373 hP hS => ?_)
        refine lv_aload_n hx hb dL_law_1065 rfl (lv_at hl 2 rfl) ?_
        refine lv_aload_n hx hb dL_law_1066 rfl (lv_at hl 0 rfl) ?_
        refine lv_iload_n hx hb dL_law_1067 rfl (lv_at hl 3 rfl) ?_
        refine lv_iconst (v := 1) hx hb dL_law_1068 (by decide) ?_
        refine lv_iadd hx hb dL_law_1069 ?_
        by_cases c374 : (y3 + 1) < (0 : Int32) ∨ L ≤ Int32.toNatClampNeg (y3 + 1)
        · cases it_t c374 h
        replace h := it_f c374 h
        refine va_sld hx hb hX hbl hbA hS c374 dL_law_1070 ?_
        refine lv_i2l hx hb dL_law_1071 rfl ?_
        refine lv_bipush (v := 32) hx hb dL_law_1072 (by decide) ?_
        refine lv_lshl hx hb dL_law_1074 rfl ?_
        refine lv_aload_n hx hb dL_law_1075 rfl (lv_at hl 0 rfl) ?_
        refine lv_iload_n hx hb dL_law_1076 rfl (lv_at hl 3 rfl) ?_
        refine lv_iconst (v := 2) hx hb dL_law_1077 (by decide) ?_
        refine lv_iadd hx hb dL_law_1078 ?_
        by_cases c375 : (y3 + 2) < (0 : Int32) ∨ L ≤ Int32.toNatClampNeg (y3 + 2)
        · cases it_t c375 h
        replace h := it_f c375 h
        refine va_sld hx hb hX hbl hbA hS c375 dL_law_1079 ?_
        refine lv_i2l hx hb dL_law_1080 rfl ?_
        refine lv_ldc2 hx hb (v := 4294967295) hown (hts _ k1661) dL_law_1081 ?_
        refine lv_land hx hb dL_law_1084 ?_
        refine lv_lor hx hb dL_law_1085 ?_
        refine lv_aload_n hx hb dL_law_1086 rfl (lv_at hl 0 rfl) ?_
        refine lv_iload_n hx hb dL_law_1087 rfl (lv_at hl 3 rfl) ?_
        refine lv_iconst (v := 3) hx hb dL_law_1088 (by decide) ?_
        refine lv_iadd hx hb dL_law_1089 ?_
        by_cases c376 : (y3 + 3) < (0 : Int32) ∨ L ≤ Int32.toNatClampNeg (y3 + 3)
        · cases it_t c376 h
        replace h := it_f c376 h
        refine va_sld hx hb hX hbl hbA hS c376 dL_law_1090 ?_
        obtain ⟨r378, hq377, h⟩ := bn_x h
        refine rc_i hS (run_V hC wX11_root k1537 (e_72 G _) rfl hP hS (As := [.long (((Int32.toInt64 (xs (Int32.toNatClampNeg (y3 + 1)))) <<< (Int32.toInt64 32 &&& 63)) ||| ((Int32.toInt64 (xs (Int32.toNatClampNeg (y3 + 2)))) &&& 4294967295)), .int (xs (Int32.toNatClampNeg (y3 + 3)))]) (rest := [.int r372]) (mX11_root l G C hq377) rfl hl.1 (Nat.le_of_ble_eq_true rfl) ⟨Nat.le_of_ble_eq_true rfl, Nat.le_of_ble_eq_true rfl⟩ ⟨Nat.le_of_ble_eq_true rfl, Nat.le_of_ble_eq_true rfl⟩ rfl dL_law_1091) (fun H locs pb379 hP hS => ?_)
        refine lv_icmp_eq (tgt := 1652) hx hb dL_law_1094 (by decide) (fun c380 => ?_) (fun c380 => ?_)
        · replace h := it_t c380 h
          obtain ⟨x381, ex381⟩ : ∃ y : Int32, y = y3 + 6 := ⟨_, rfl⟩
          replace h := lt_y ex381 h
          refine lv_iinc (v := x381) (lv' := [(3, .int x381), (0, .ref b), (1, .ref (gA G 0)), (2, .ref (gA G 72))]) hx hb dL_law_1652 hl (k := 3) rfl (by rw [ex381]; rfl) (by decide) rfl (fun ls hl => ?_)
          refine lv_goto (tgt := 18) hx hb dL_law_1655 (by decide) ?_
          exact ih x381 C R _ _ _ h (lv_sub hl [1, 2, 3, 0] rfl) hP hS
        · replace h := it_f c380 h
          refine lv_iconst (v := 0) hx hb dL_law_1097 (by decide) ?_
          exact absurd (Option.some.inj h) (by decide)
      replace h := it_f c367 h
      by_cases c382 : ((xs (Int32.toNatClampNeg y3)) &&& 63) = 25
      · replace h := it_t c382 h
        refine lv_tableIn (off := 1066) (tgt := 1099) hx hb dL_law_33 (by rw [c382]; decide) (by rw [c382]; decide) (by rw [c382]; rfl) (by decide) ?_
        refine lv_aload_n hx hb dL_law_1099 rfl (lv_at hl 1 rfl) ?_
        refine lv_aload_n hx hb dL_law_1100 rfl (lv_at hl 0 rfl) ?_
        refine lv_iload_n hx hb dL_law_1101 rfl (lv_at hl 3 rfl) ?_
        refine lv_iconst (v := 1) hx hb dL_law_1102 (by decide) ?_
        refine lv_iadd hx hb dL_law_1103 ?_
        by_cases c383 : (y3 + 1) < (0 : Int32) ∨ L ≤ Int32.toNatClampNeg (y3 + 1)
        · cases it_t c383 h
        replace h := it_f c383 h
        refine va_sld hx hb hX hbl hbA hS c383 dL_law_1104 ?_
        refine lv_i2l hx hb dL_law_1105 rfl ?_
        refine lv_bipush (v := 32) hx hb dL_law_1106 (by decide) ?_
        refine lv_lshl hx hb dL_law_1108 rfl ?_
        refine lv_aload_n hx hb dL_law_1109 rfl (lv_at hl 0 rfl) ?_
        refine lv_iload_n hx hb dL_law_1110 rfl (lv_at hl 3 rfl) ?_
        refine lv_iconst (v := 2) hx hb dL_law_1111 (by decide) ?_
        refine lv_iadd hx hb dL_law_1112 ?_
        by_cases c384 : (y3 + 2) < (0 : Int32) ∨ L ≤ Int32.toNatClampNeg (y3 + 2)
        · cases it_t c384 h
        replace h := it_f c384 h
        refine va_sld hx hb hX hbl hbA hS c384 dL_law_1113 ?_
        refine lv_i2l hx hb dL_law_1114 rfl ?_
        refine lv_ldc2 hx hb (v := 4294967295) hown (hts _ k1661) dL_law_1115 ?_
        refine lv_land hx hb dL_law_1118 ?_
        refine lv_lor hx hb dL_law_1119 ?_
        refine lv_aload_n hx hb dL_law_1120 rfl (lv_at hl 0 rfl) ?_
        refine lv_iload_n hx hb dL_law_1121 rfl (lv_at hl 3 rfl) ?_
        refine lv_iconst (v := 3) hx hb dL_law_1122 (by decide) ?_
        refine lv_iadd hx hb dL_law_1123 ?_
        by_cases c385 : (y3 + 3) < (0 : Int32) ∨ L ≤ Int32.toNatClampNeg (y3 + 3)
        · cases it_t c385 h
        replace h := it_f c385 h
        refine va_sld hx hb hX hbl hbA hS c385 dL_law_1124 ?_
        refine lv_aload_n hx hb dL_law_1125 rfl (lv_at hl 0 rfl) ?_
        refine lv_iload_n hx hb dL_law_1126 rfl (lv_at hl 3 rfl) ?_
        refine lv_iconst (v := 4) hx hb dL_law_1127 (by decide) ?_
        refine lv_iadd hx hb dL_law_1128 ?_
        by_cases c386 : (y3 + 4) < (0 : Int32) ∨ L ≤ Int32.toNatClampNeg (y3 + 4)
        · cases it_t c386 h
        replace h := it_f c386 h
        refine va_sld hx hb hX hbl hbA hS c386 dL_law_1129 ?_
        obtain ⟨r388, hq387, h⟩ := bn_x h
        refine rc_i hS (run_V hC wX10_firsts k839 (e_0 G _) rfl hP hS (As := [.long (((Int32.toInt64 (xs (Int32.toNatClampNeg (y3 + 1)))) <<< (Int32.toInt64 32 &&& 63)) ||| ((Int32.toInt64 (xs (Int32.toNatClampNeg (y3 + 2)))) &&& 4294967295)), .int (xs (Int32.toNatClampNeg (y3 + 3))), .int (xs (Int32.toNatClampNeg (y3 + 4)))]) (rest := []) (mX10_firsts l G R hq387) rfl hl.1 (Nat.le_of_ble_eq_true rfl) ⟨Nat.le_of_ble_eq_true rfl, Nat.le_of_ble_eq_true rfl⟩ ⟨Nat.le_of_ble_eq_true rfl, Nat.le_of_ble_eq_true rfl⟩ rfl dL_law_1130) (fun H locs pb389 hP hS => ?_)
        refine lv_aload_n hx hb dL_law_1133 rfl (lv_at hl 2 rfl) ?_
        refine lv_aload_n hx hb dL_law_1134 rfl (lv_at hl 0 rfl) ?_
        refine lv_iload_n hx hb dL_law_1135 rfl (lv_at hl 3 rfl) ?_
        refine lv_iconst (v := 1) hx hb dL_law_1136 (by decide) ?_
        refine lv_iadd hx hb dL_law_1137 ?_
        by_cases c390 : (y3 + 1) < (0 : Int32) ∨ L ≤ Int32.toNatClampNeg (y3 + 1)
        · cases it_t c390 h
        replace h := it_f c390 h
        refine va_sld hx hb hX hbl hbA hS c390 dL_law_1138 ?_
        refine lv_i2l hx hb dL_law_1139 rfl ?_
        refine lv_bipush (v := 32) hx hb dL_law_1140 (by decide) ?_
        refine lv_lshl hx hb dL_law_1142 rfl ?_
        refine lv_aload_n hx hb dL_law_1143 rfl (lv_at hl 0 rfl) ?_
        refine lv_iload_n hx hb dL_law_1144 rfl (lv_at hl 3 rfl) ?_
        refine lv_iconst (v := 2) hx hb dL_law_1145 (by decide) ?_
        refine lv_iadd hx hb dL_law_1146 ?_
        by_cases c391 : (y3 + 2) < (0 : Int32) ∨ L ≤ Int32.toNatClampNeg (y3 + 2)
        · cases it_t c391 h
        replace h := it_f c391 h
        refine va_sld hx hb hX hbl hbA hS c391 dL_law_1147 ?_
        refine lv_i2l hx hb dL_law_1148 rfl ?_
        refine lv_ldc2 hx hb (v := 4294967295) hown (hts _ k1661) dL_law_1149 ?_
        refine lv_land hx hb dL_law_1152 ?_
        refine lv_lor hx hb dL_law_1153 ?_
        refine lv_aload_n hx hb dL_law_1154 rfl (lv_at hl 0 rfl) ?_
        refine lv_iload_n hx hb dL_law_1155 rfl (lv_at hl 3 rfl) ?_
        refine lv_iconst (v := 3) hx hb dL_law_1156 (by decide) ?_
        refine lv_iadd hx hb dL_law_1157 ?_
        by_cases c392 : (y3 + 3) < (0 : Int32) ∨ L ≤ Int32.toNatClampNeg (y3 + 3)
        · cases it_t c392 h
        replace h := it_f c392 h
        refine va_sld hx hb hX hbl hbA hS c392 dL_law_1158 ?_
        refine lv_aload_n hx hb dL_law_1159 rfl (lv_at hl 0 rfl) ?_
        refine lv_iload_n hx hb dL_law_1160 rfl (lv_at hl 3 rfl) ?_
        refine lv_iconst (v := 4) hx hb dL_law_1161 (by decide) ?_
        refine lv_iadd hx hb dL_law_1162 ?_
        by_cases c393 : (y3 + 4) < (0 : Int32) ∨ L ≤ Int32.toNatClampNeg (y3 + 4)
        · cases it_t c393 h
        replace h := it_f c393 h
        refine va_sld hx hb hX hbl hbA hS c393 dL_law_1163 ?_
        obtain ⟨r395, C396, hq394, h⟩ := bp_x h
        refine rc_i hS (run_V hC wX11_firsts k1559 (e_72 G _) rfl hP hS (As := [.long (((Int32.toInt64 (xs (Int32.toNatClampNeg (y3 + 1)))) <<< (Int32.toInt64 32 &&& 63)) ||| ((Int32.toInt64 (xs (Int32.toNatClampNeg (y3 + 2)))) &&& 4294967295)), .int (xs (Int32.toNatClampNeg (y3 + 3))), .int (xs (Int32.toNatClampNeg (y3 + 4)))]) (rest := [.int r388]) (mX11_firsts l G C hq394) rfl hl.1 (Nat.le_of_ble_eq_true rfl) ⟨Nat.le_of_ble_eq_true rfl, Nat.le_of_ble_eq_true rfl⟩ ⟨Nat.le_of_ble_eq_true rfl, Nat.le_of_ble_eq_true rfl⟩ rfl dL_law_1164) (fun H locs pb397 hP hS => ?_)
        refine lv_icmp_eq (tgt := 1652) hx hb dL_law_1167 (by decide) (fun c398 => ?_) (fun c398 => ?_)
        · replace h := it_t c398 h
          obtain ⟨x399, ex399⟩ : ∃ y : Int32, y = y3 + 6 := ⟨_, rfl⟩
          replace h := lt_y ex399 h
          refine lv_iinc (v := x399) (lv' := [(3, .int x399), (0, .ref b), (1, .ref (gA G 0)), (2, .ref (gA G 72))]) hx hb dL_law_1652 hl (k := 3) rfl (by rw [ex399]; rfl) (by decide) rfl (fun ls hl => ?_)
          refine lv_goto (tgt := 18) hx hb dL_law_1655 (by decide) ?_
          exact ih x399 C C396 _ _ _ h (lv_sub hl [1, 2, 3, 0] rfl) hP hS
        · replace h := it_f c398 h
          refine lv_iconst (v := 0) hx hb dL_law_1170 (by decide) ?_
          exact absurd (Option.some.inj h) (by decide)
      replace h := it_f c382 h
      by_cases c400 : ((xs (Int32.toNatClampNeg y3)) &&& 63) = 26
      · replace h := it_t c400 h
        refine lv_tableIn (off := 1139) (tgt := 1172) hx hb dL_law_33 (by rw [c400]; decide) (by rw [c400]; decide) (by rw [c400]; rfl) (by decide) ?_
        refine lv_aload_n hx hb dL_law_1172 rfl (lv_at hl 1 rfl) ?_
        refine lv_aload_n hx hb dL_law_1173 rfl (lv_at hl 0 rfl) ?_
        refine lv_iload_n hx hb dL_law_1174 rfl (lv_at hl 3 rfl) ?_
        refine lv_iconst (v := 1) hx hb dL_law_1175 (by decide) ?_
        refine lv_iadd hx hb dL_law_1176 ?_
        by_cases c401 : (y3 + 1) < (0 : Int32) ∨ L ≤ Int32.toNatClampNeg (y3 + 1)
        · cases it_t c401 h
        replace h := it_f c401 h
        refine va_sld hx hb hX hbl hbA hS c401 dL_law_1177 ?_
        refine lv_i2l hx hb dL_law_1178 rfl ?_
        refine lv_bipush (v := 32) hx hb dL_law_1179 (by decide) ?_
        refine lv_lshl hx hb dL_law_1181 rfl ?_
        refine lv_aload_n hx hb dL_law_1182 rfl (lv_at hl 0 rfl) ?_
        refine lv_iload_n hx hb dL_law_1183 rfl (lv_at hl 3 rfl) ?_
        refine lv_iconst (v := 2) hx hb dL_law_1184 (by decide) ?_
        refine lv_iadd hx hb dL_law_1185 ?_
        by_cases c402 : (y3 + 2) < (0 : Int32) ∨ L ≤ Int32.toNatClampNeg (y3 + 2)
        · cases it_t c402 h
        replace h := it_f c402 h
        refine va_sld hx hb hX hbl hbA hS c402 dL_law_1186 ?_
        refine lv_i2l hx hb dL_law_1187 rfl ?_
        refine lv_ldc2 hx hb (v := 4294967295) hown (hts _ k1661) dL_law_1188 ?_
        refine lv_land hx hb dL_law_1191 ?_
        refine lv_lor hx hb dL_law_1192 ?_
        refine lv_aload_n hx hb dL_law_1193 rfl (lv_at hl 0 rfl) ?_
        refine lv_iload_n hx hb dL_law_1194 rfl (lv_at hl 3 rfl) ?_
        refine lv_iconst (v := 3) hx hb dL_law_1195 (by decide) ?_
        refine lv_iadd hx hb dL_law_1196 ?_
        by_cases c403 : (y3 + 3) < (0 : Int32) ∨ L ≤ Int32.toNatClampNeg (y3 + 3)
        · cases it_t c403 h
        replace h := it_f c403 h
        refine va_sld hx hb hX hbl hbA hS c403 dL_law_1197 ?_
        obtain ⟨r405, hq404, h⟩ := bn_x h
        refine rc_i hS (run_V hC wX10_enough k870 (e_0 G _) rfl hP hS (As := [.long (((Int32.toInt64 (xs (Int32.toNatClampNeg (y3 + 1)))) <<< (Int32.toInt64 32 &&& 63)) ||| ((Int32.toInt64 (xs (Int32.toNatClampNeg (y3 + 2)))) &&& 4294967295)), .int (xs (Int32.toNatClampNeg (y3 + 3)))]) (rest := []) (mX10_enough l G R hq404) rfl hl.1 (Nat.le_of_ble_eq_true rfl) ⟨Nat.le_of_ble_eq_true rfl, Nat.le_of_ble_eq_true rfl⟩ ⟨Nat.le_of_ble_eq_true rfl, Nat.le_of_ble_eq_true rfl⟩ rfl dL_law_1198) (fun H locs pb406 hP hS => ?_)
        refine lv_aload_n hx hb dL_law_1201 rfl (lv_at hl 2 rfl) ?_
        refine lv_aload_n hx hb dL_law_1202 rfl (lv_at hl 0 rfl) ?_
        refine lv_iload_n hx hb dL_law_1203 rfl (lv_at hl 3 rfl) ?_
        refine lv_iconst (v := 1) hx hb dL_law_1204 (by decide) ?_
        refine lv_iadd hx hb dL_law_1205 ?_
        by_cases c407 : (y3 + 1) < (0 : Int32) ∨ L ≤ Int32.toNatClampNeg (y3 + 1)
        · cases it_t c407 h
        replace h := it_f c407 h
        refine va_sld hx hb hX hbl hbA hS c407 dL_law_1206 ?_
        refine lv_i2l hx hb dL_law_1207 rfl ?_
        refine lv_bipush (v := 32) hx hb dL_law_1208 (by decide) ?_
        refine lv_lshl hx hb dL_law_1210 rfl ?_
        refine lv_aload_n hx hb dL_law_1211 rfl (lv_at hl 0 rfl) ?_
        refine lv_iload_n hx hb dL_law_1212 rfl (lv_at hl 3 rfl) ?_
        refine lv_iconst (v := 2) hx hb dL_law_1213 (by decide) ?_
        refine lv_iadd hx hb dL_law_1214 ?_
        by_cases c408 : (y3 + 2) < (0 : Int32) ∨ L ≤ Int32.toNatClampNeg (y3 + 2)
        · cases it_t c408 h
        replace h := it_f c408 h
        refine va_sld hx hb hX hbl hbA hS c408 dL_law_1215 ?_
        refine lv_i2l hx hb dL_law_1216 rfl ?_
        refine lv_ldc2 hx hb (v := 4294967295) hown (hts _ k1661) dL_law_1217 ?_
        refine lv_land hx hb dL_law_1220 ?_
        refine lv_lor hx hb dL_law_1221 ?_
        refine lv_aload_n hx hb dL_law_1222 rfl (lv_at hl 0 rfl) ?_
        refine lv_iload_n hx hb dL_law_1223 rfl (lv_at hl 3 rfl) ?_
        refine lv_iconst (v := 3) hx hb dL_law_1224 (by decide) ?_
        refine lv_iadd hx hb dL_law_1225 ?_
        by_cases c409 : (y3 + 3) < (0 : Int32) ∨ L ≤ Int32.toNatClampNeg (y3 + 3)
        · cases it_t c409 h
        replace h := it_f c409 h
        refine va_sld hx hb hX hbl hbA hS c409 dL_law_1226 ?_
        obtain ⟨r411, C412, hq410, h⟩ := bp_x h
        refine rc_i hS (run_V hC wX11_enough k1577 (e_72 G _) rfl hP hS (As := [.long (((Int32.toInt64 (xs (Int32.toNatClampNeg (y3 + 1)))) <<< (Int32.toInt64 32 &&& 63)) ||| ((Int32.toInt64 (xs (Int32.toNatClampNeg (y3 + 2)))) &&& 4294967295)), .int (xs (Int32.toNatClampNeg (y3 + 3)))]) (rest := [.int r405]) (mX11_enough l G C hq410) rfl hl.1 (Nat.le_of_ble_eq_true rfl) ⟨Nat.le_of_ble_eq_true rfl, Nat.le_of_ble_eq_true rfl⟩ ⟨Nat.le_of_ble_eq_true rfl, Nat.le_of_ble_eq_true rfl⟩ rfl dL_law_1227) (fun H locs pb413 hP hS => ?_)
        refine lv_icmp_eq (tgt := 1652) hx hb dL_law_1230 (by decide) (fun c414 => ?_) (fun c414 => ?_)
        · replace h := it_t c414 h
          obtain ⟨x415, ex415⟩ : ∃ y : Int32, y = y3 + 6 := ⟨_, rfl⟩
          replace h := lt_y ex415 h
          refine lv_iinc (v := x415) (lv' := [(3, .int x415), (0, .ref b), (1, .ref (gA G 0)), (2, .ref (gA G 72))]) hx hb dL_law_1652 hl (k := 3) rfl (by rw [ex415]; rfl) (by decide) rfl (fun ls hl => ?_)
          refine lv_goto (tgt := 18) hx hb dL_law_1655 (by decide) ?_
          exact ih x415 C C412 _ _ _ h (lv_sub hl [1, 2, 3, 0] rfl) hP hS
        · replace h := it_f c414 h
          refine lv_iconst (v := 0) hx hb dL_law_1233 (by decide) ?_
          exact absurd (Option.some.inj h) (by decide)
      replace h := it_f c400 h
      by_cases c416 : ((xs (Int32.toNatClampNeg y3)) &&& 63) = 27
      · replace h := it_t c416 h
        refine lv_tableIn (off := 1202) (tgt := 1235) hx hb dL_law_33 (by rw [c416]; decide) (by rw [c416]; decide) (by rw [c416]; rfl) (by decide) ?_
        refine lv_aload_n hx hb dL_law_1235 rfl (lv_at hl 1 rfl) ?_
        obtain ⟨r418, C419, hq417, h⟩ := bp_x h
        refine rc_i hS (run_V hC wX10_undo k874 (e_0 G _) rfl hP hS (As := []) (rest := []) (mX10_undo l G R hq417) rfl hl.1 (Nat.le_of_ble_eq_true rfl) ⟨Nat.le_of_ble_eq_true rfl, Nat.le_of_ble_eq_true rfl⟩ ⟨Nat.le_of_ble_eq_true rfl, Nat.le_of_ble_eq_true rfl⟩ rfl dL_law_1236) (fun H locs pb420 hP hS => ?_)
        refine lv_aload_n hx hb dL_law_1239 rfl (lv_at hl 2 rfl) ?_
        obtain ⟨r422, C423, hq421, h⟩ := bp_x h
        refine rc_i hS (run_V hC wX11_undo k1216 (e_72 G _) rfl hP hS (As := []) (rest := [.int r418]) (mX11_undo l G C419 hq421) rfl hl.1 (Nat.le_of_ble_eq_true rfl) ⟨Nat.le_of_ble_eq_true rfl, Nat.le_of_ble_eq_true rfl⟩ ⟨Nat.le_of_ble_eq_true rfl, Nat.le_of_ble_eq_true rfl⟩ rfl dL_law_1240) (fun H locs pb424 hP hS => ?_)
        refine lv_icmp_eq (tgt := 1652) hx hb dL_law_1243 (by decide) (fun c425 => ?_) (fun c425 => ?_)
        · replace h := it_t c425 h
          obtain ⟨x426, ex426⟩ : ∃ y : Int32, y = y3 + 6 := ⟨_, rfl⟩
          replace h := lt_y ex426 h
          refine lv_iinc (v := x426) (lv' := [(3, .int x426), (0, .ref b), (1, .ref (gA G 0)), (2, .ref (gA G 72))]) hx hb dL_law_1652 hl (k := 3) rfl (by rw [ex426]; rfl) (by decide) rfl (fun ls hl => ?_)
          refine lv_goto (tgt := 18) hx hb dL_law_1655 (by decide) ?_
          exact ih x426 C419 C423 _ _ _ h (lv_sub hl [1, 2, 3, 0] rfl) hP hS
        · replace h := it_f c425 h
          refine lv_iconst (v := 0) hx hb dL_law_1246 (by decide) ?_
          exact absurd (Option.some.inj h) (by decide)
      replace h := it_f c416 h
      by_cases c427 : ((xs (Int32.toNatClampNeg y3)) &&& 63) = 28
      · replace h := it_t c427 h
        refine lv_tableIn (off := 1215) (tgt := 1248) hx hb dL_law_33 (by rw [c427]; decide) (by rw [c427]; decide) (by rw [c427]; rfl) (by decide) ?_
        refine lv_aload_n hx hb dL_law_1248 rfl (lv_at hl 1 rfl) ?_
        obtain ⟨r429, C430, hq428, h⟩ := bp_x h
        refine rc_i hS (run_V hC wX10_redo k891 (e_0 G _) rfl hP hS (As := []) (rest := []) (mX10_redo l G R hq428) rfl hl.1 (Nat.le_of_ble_eq_true rfl) ⟨Nat.le_of_ble_eq_true rfl, Nat.le_of_ble_eq_true rfl⟩ ⟨Nat.le_of_ble_eq_true rfl, Nat.le_of_ble_eq_true rfl⟩ rfl dL_law_1249) (fun H locs pb431 hP hS => ?_)
        refine lv_aload_n hx hb dL_law_1252 rfl (lv_at hl 2 rfl) ?_
        obtain ⟨r433, C434, hq432, h⟩ := bp_x h
        refine rc_i hS (run_V hC wX11_redo k1220 (e_72 G _) rfl hP hS (As := []) (rest := [.int r429]) (mX11_redo l G C430 hq432) rfl hl.1 (Nat.le_of_ble_eq_true rfl) ⟨Nat.le_of_ble_eq_true rfl, Nat.le_of_ble_eq_true rfl⟩ ⟨Nat.le_of_ble_eq_true rfl, Nat.le_of_ble_eq_true rfl⟩ rfl dL_law_1253) (fun H locs pb435 hP hS => ?_)
        refine lv_icmp_eq (tgt := 1652) hx hb dL_law_1256 (by decide) (fun c436 => ?_) (fun c436 => ?_)
        · replace h := it_t c436 h
          obtain ⟨x437, ex437⟩ : ∃ y : Int32, y = y3 + 6 := ⟨_, rfl⟩
          replace h := lt_y ex437 h
          refine lv_iinc (v := x437) (lv' := [(3, .int x437), (0, .ref b), (1, .ref (gA G 0)), (2, .ref (gA G 72))]) hx hb dL_law_1652 hl (k := 3) rfl (by rw [ex437]; rfl) (by decide) rfl (fun ls hl => ?_)
          refine lv_goto (tgt := 18) hx hb dL_law_1655 (by decide) ?_
          exact ih x437 C430 C434 _ _ _ h (lv_sub hl [1, 2, 3, 0] rfl) hP hS
        · replace h := it_f c436 h
          refine lv_iconst (v := 0) hx hb dL_law_1259 (by decide) ?_
          exact absurd (Option.some.inj h) (by decide)
      replace h := it_f c427 h
      by_cases c438 : ((xs (Int32.toNatClampNeg y3)) &&& 63) = 29
      · replace h := it_t c438 h
        refine lv_tableIn (off := 1228) (tgt := 1261) hx hb dL_law_33 (by rw [c438]; decide) (by rw [c438]; decide) (by rw [c438]; rfl) (by decide) ?_
        refine lv_aload_n hx hb dL_law_1261 rfl (lv_at hl 1 rfl) ?_
        refine lv_aload_n hx hb dL_law_1262 rfl (lv_at hl 0 rfl) ?_
        refine lv_iload_n hx hb dL_law_1263 rfl (lv_at hl 3 rfl) ?_
        refine lv_iconst (v := 1) hx hb dL_law_1264 (by decide) ?_
        refine lv_iadd hx hb dL_law_1265 ?_
        by_cases c439 : (y3 + 1) < (0 : Int32) ∨ L ≤ Int32.toNatClampNeg (y3 + 1)
        · cases it_t c439 h
        replace h := it_f c439 h
        refine va_sld hx hb hX hbl hbA hS c439 dL_law_1266 ?_
        obtain ⟨r441, C442, hq440, h⟩ := bp_x h
        refine rc_i hS (run_V hC wX10_body k903 (e_0 G _) rfl hP hS (As := [.int (xs (Int32.toNatClampNeg (y3 + 1)))]) (rest := []) (mX10_body l G R hq440) rfl hl.1 (Nat.le_of_ble_eq_true rfl) ⟨Nat.le_of_ble_eq_true rfl, Nat.le_of_ble_eq_true rfl⟩ ⟨Nat.le_of_ble_eq_true rfl, Nat.le_of_ble_eq_true rfl⟩ rfl dL_law_1267) (fun H locs pb443 hP hS => ?_)
        refine lv_aload_n hx hb dL_law_1270 rfl (lv_at hl 2 rfl) ?_
        refine lv_aload_n hx hb dL_law_1271 rfl (lv_at hl 0 rfl) ?_
        refine lv_iload_n hx hb dL_law_1272 rfl (lv_at hl 3 rfl) ?_
        refine lv_iconst (v := 1) hx hb dL_law_1273 (by decide) ?_
        refine lv_iadd hx hb dL_law_1274 ?_
        by_cases c444 : (y3 + 1) < (0 : Int32) ∨ L ≤ Int32.toNatClampNeg (y3 + 1)
        · cases it_t c444 h
        replace h := it_f c444 h
        refine va_sld hx hb hX hbl hbA hS c444 dL_law_1275 ?_
        obtain ⟨r446, C447, hq445, h⟩ := bp_x h
        refine rc_i hS (run_V hC wX11_body k1581 (e_72 G _) rfl hP hS (As := [.int (xs (Int32.toNatClampNeg (y3 + 1)))]) (rest := [.int r441]) (mX11_body l G C442 hq445) rfl hl.1 (Nat.le_of_ble_eq_true rfl) ⟨Nat.le_of_ble_eq_true rfl, Nat.le_of_ble_eq_true rfl⟩ ⟨Nat.le_of_ble_eq_true rfl, Nat.le_of_ble_eq_true rfl⟩ rfl dL_law_1276) (fun H locs pb448 hP hS => ?_)
        refine lv_icmp_eq (tgt := 1652) hx hb dL_law_1279 (by decide) (fun c449 => ?_) (fun c449 => ?_)
        · replace h := it_t c449 h
          obtain ⟨x450, ex450⟩ : ∃ y : Int32, y = y3 + 6 := ⟨_, rfl⟩
          replace h := lt_y ex450 h
          refine lv_iinc (v := x450) (lv' := [(3, .int x450), (0, .ref b), (1, .ref (gA G 0)), (2, .ref (gA G 72))]) hx hb dL_law_1652 hl (k := 3) rfl (by rw [ex450]; rfl) (by decide) rfl (fun ls hl => ?_)
          refine lv_goto (tgt := 18) hx hb dL_law_1655 (by decide) ?_
          exact ih x450 C442 C447 _ _ _ h (lv_sub hl [1, 2, 3, 0] rfl) hP hS
        · replace h := it_f c449 h
          refine lv_iconst (v := 0) hx hb dL_law_1282 (by decide) ?_
          exact absurd (Option.some.inj h) (by decide)
      replace h := it_f c438 h
      by_cases c451 : ((xs (Int32.toNatClampNeg y3)) &&& 63) = 30
      · replace h := it_t c451 h
        refine lv_tableIn (off := 1251) (tgt := 1284) hx hb dL_law_33 (by rw [c451]; decide) (by rw [c451]; decide) (by rw [c451]; rfl) (by decide) ?_
        refine lv_aload_n hx hb dL_law_1284 rfl (lv_at hl 1 rfl) ?_
        refine lv_aload_n hx hb dL_law_1285 rfl (lv_at hl 0 rfl) ?_
        refine lv_iload_n hx hb dL_law_1286 rfl (lv_at hl 3 rfl) ?_
        refine lv_iconst (v := 1) hx hb dL_law_1287 (by decide) ?_
        refine lv_iadd hx hb dL_law_1288 ?_
        by_cases c452 : (y3 + 1) < (0 : Int32) ∨ L ≤ Int32.toNatClampNeg (y3 + 1)
        · cases it_t c452 h
        replace h := it_f c452 h
        refine va_sld hx hb hX hbl hbA hS c452 dL_law_1289 ?_
        refine lv_aload_n hx hb dL_law_1290 rfl (lv_at hl 0 rfl) ?_
        refine lv_iload_n hx hb dL_law_1291 rfl (lv_at hl 3 rfl) ?_
        refine lv_iconst (v := 2) hx hb dL_law_1292 (by decide) ?_
        refine lv_iadd hx hb dL_law_1293 ?_
        by_cases c453 : (y3 + 2) < (0 : Int32) ∨ L ≤ Int32.toNatClampNeg (y3 + 2)
        · cases it_t c453 h
        replace h := it_f c453 h
        refine va_sld hx hb hX hbl hbA hS c453 dL_law_1294 ?_
        refine lv_aload_n hx hb dL_law_1295 rfl (lv_at hl 0 rfl) ?_
        refine lv_iload_n hx hb dL_law_1296 rfl (lv_at hl 3 rfl) ?_
        refine lv_iconst (v := 3) hx hb dL_law_1297 (by decide) ?_
        refine lv_iadd hx hb dL_law_1298 ?_
        by_cases c454 : (y3 + 3) < (0 : Int32) ∨ L ≤ Int32.toNatClampNeg (y3 + 3)
        · cases it_t c454 h
        replace h := it_f c454 h
        refine va_sld hx hb hX hbl hbA hS c454 dL_law_1299 ?_
        obtain ⟨r456, C457, hq455, h⟩ := bp_x h
        refine rc_i hS (run_V hC wX10_act k918 (e_0 G _) rfl hP hS (As := [.int (xs (Int32.toNatClampNeg (y3 + 1))), .int (xs (Int32.toNatClampNeg (y3 + 2))), .int (xs (Int32.toNatClampNeg (y3 + 3)))]) (rest := []) (mX10_act l G R hq455) rfl hl.1 (Nat.le_of_ble_eq_true rfl) ⟨Nat.le_of_ble_eq_true rfl, Nat.le_of_ble_eq_true rfl⟩ ⟨Nat.le_of_ble_eq_true rfl, Nat.le_of_ble_eq_true rfl⟩ rfl dL_law_1300) (fun H locs pb458 hP hS => ?_)
        refine lv_aload_n hx hb dL_law_1303 rfl (lv_at hl 2 rfl) ?_
        refine lv_aload_n hx hb dL_law_1304 rfl (lv_at hl 0 rfl) ?_
        refine lv_iload_n hx hb dL_law_1305 rfl (lv_at hl 3 rfl) ?_
        refine lv_iconst (v := 1) hx hb dL_law_1306 (by decide) ?_
        refine lv_iadd hx hb dL_law_1307 ?_
        by_cases c459 : (y3 + 1) < (0 : Int32) ∨ L ≤ Int32.toNatClampNeg (y3 + 1)
        · cases it_t c459 h
        replace h := it_f c459 h
        refine va_sld hx hb hX hbl hbA hS c459 dL_law_1308 ?_
        refine lv_aload_n hx hb dL_law_1309 rfl (lv_at hl 0 rfl) ?_
        refine lv_iload_n hx hb dL_law_1310 rfl (lv_at hl 3 rfl) ?_
        refine lv_iconst (v := 2) hx hb dL_law_1311 (by decide) ?_
        refine lv_iadd hx hb dL_law_1312 ?_
        by_cases c460 : (y3 + 2) < (0 : Int32) ∨ L ≤ Int32.toNatClampNeg (y3 + 2)
        · cases it_t c460 h
        replace h := it_f c460 h
        refine va_sld hx hb hX hbl hbA hS c460 dL_law_1313 ?_
        refine lv_aload_n hx hb dL_law_1314 rfl (lv_at hl 0 rfl) ?_
        refine lv_iload_n hx hb dL_law_1315 rfl (lv_at hl 3 rfl) ?_
        refine lv_iconst (v := 3) hx hb dL_law_1316 (by decide) ?_
        refine lv_iadd hx hb dL_law_1317 ?_
        by_cases c461 : (y3 + 3) < (0 : Int32) ∨ L ≤ Int32.toNatClampNeg (y3 + 3)
        · cases it_t c461 h
        replace h := it_f c461 h
        refine va_sld hx hb hX hbl hbA hS c461 dL_law_1318 ?_
        obtain ⟨r463, C464, hq462, h⟩ := bp_x h
        refine rc_i hS (run_V hC wX11_act k1586 (e_72 G _) rfl hP hS (As := [.int (xs (Int32.toNatClampNeg (y3 + 1))), .int (xs (Int32.toNatClampNeg (y3 + 2))), .int (xs (Int32.toNatClampNeg (y3 + 3)))]) (rest := [.int r456]) (mX11_act l G C457 hq462) rfl hl.1 (Nat.le_of_ble_eq_true rfl) ⟨Nat.le_of_ble_eq_true rfl, Nat.le_of_ble_eq_true rfl⟩ ⟨Nat.le_of_ble_eq_true rfl, Nat.le_of_ble_eq_true rfl⟩ rfl dL_law_1319) (fun H locs pb465 hP hS => ?_)
        refine lv_icmp_eq (tgt := 1652) hx hb dL_law_1322 (by decide) (fun c466 => ?_) (fun c466 => ?_)
        · replace h := it_t c466 h
          obtain ⟨x467, ex467⟩ : ∃ y : Int32, y = y3 + 6 := ⟨_, rfl⟩
          replace h := lt_y ex467 h
          refine lv_iinc (v := x467) (lv' := [(3, .int x467), (0, .ref b), (1, .ref (gA G 0)), (2, .ref (gA G 72))]) hx hb dL_law_1652 hl (k := 3) rfl (by rw [ex467]; rfl) (by decide) rfl (fun ls hl => ?_)
          refine lv_goto (tgt := 18) hx hb dL_law_1655 (by decide) ?_
          exact ih x467 C457 C464 _ _ _ h (lv_sub hl [1, 2, 3, 0] rfl) hP hS
        · replace h := it_f c466 h
          refine lv_iconst (v := 0) hx hb dL_law_1325 (by decide) ?_
          exact absurd (Option.some.inj h) (by decide)
      replace h := it_f c451 h
      by_cases c468 : ((xs (Int32.toNatClampNeg y3)) &&& 63) = 31
      · replace h := it_t c468 h
        refine lv_tableIn (off := 1294) (tgt := 1327) hx hb dL_law_33 (by rw [c468]; decide) (by rw [c468]; decide) (by rw [c468]; rfl) (by decide) ?_
        refine lv_aload_n hx hb dL_law_1327 rfl (lv_at hl 1 rfl) ?_
        refine lv_aload_n hx hb dL_law_1328 rfl (lv_at hl 0 rfl) ?_
        refine lv_iload_n hx hb dL_law_1329 rfl (lv_at hl 3 rfl) ?_
        refine lv_iconst (v := 1) hx hb dL_law_1330 (by decide) ?_
        refine lv_iadd hx hb dL_law_1331 ?_
        by_cases c469 : (y3 + 1) < (0 : Int32) ∨ L ≤ Int32.toNatClampNeg (y3 + 1)
        · cases it_t c469 h
        replace h := it_f c469 h
        refine va_sld hx hb hX hbl hbA hS c469 dL_law_1332 ?_
        obtain ⟨r471, hq470, h⟩ := bn_x h
        refine rc_i hS (run_V hC wX10_trace k959 (e_0 G _) rfl hP hS (As := [.int (xs (Int32.toNatClampNeg (y3 + 1)))]) (rest := []) (mX10_trace l G R hq470) rfl hl.1 (Nat.le_of_ble_eq_true rfl) ⟨Nat.le_of_ble_eq_true rfl, Nat.le_of_ble_eq_true rfl⟩ ⟨Nat.le_of_ble_eq_true rfl, Nat.le_of_ble_eq_true rfl⟩ rfl dL_law_1333) (fun H locs pb472 hP hS => ?_)
        refine lv_aload_n hx hb dL_law_1336 rfl (lv_at hl 2 rfl) ?_
        refine lv_aload_n hx hb dL_law_1337 rfl (lv_at hl 0 rfl) ?_
        refine lv_iload_n hx hb dL_law_1338 rfl (lv_at hl 3 rfl) ?_
        refine lv_iconst (v := 1) hx hb dL_law_1339 (by decide) ?_
        refine lv_iadd hx hb dL_law_1340 ?_
        by_cases c473 : (y3 + 1) < (0 : Int32) ∨ L ≤ Int32.toNatClampNeg (y3 + 1)
        · cases it_t c473 h
        replace h := it_f c473 h
        refine va_sld hx hb hX hbl hbA hS c473 dL_law_1341 ?_
        obtain ⟨r475, hq474, h⟩ := bn_x h
        refine rc_i hS (run_V hC wX11_trace k1614 (e_72 G _) rfl hP hS (As := [.int (xs (Int32.toNatClampNeg (y3 + 1)))]) (rest := [.int r471]) (mX11_trace l G C hq474) rfl hl.1 (Nat.le_of_ble_eq_true rfl) ⟨Nat.le_of_ble_eq_true rfl, Nat.le_of_ble_eq_true rfl⟩ ⟨Nat.le_of_ble_eq_true rfl, Nat.le_of_ble_eq_true rfl⟩ rfl dL_law_1342) (fun H locs pb476 hP hS => ?_)
        refine lv_icmp_eq (tgt := 1652) hx hb dL_law_1345 (by decide) (fun c477 => ?_) (fun c477 => ?_)
        · replace h := it_t c477 h
          obtain ⟨x478, ex478⟩ : ∃ y : Int32, y = y3 + 6 := ⟨_, rfl⟩
          replace h := lt_y ex478 h
          refine lv_iinc (v := x478) (lv' := [(3, .int x478), (0, .ref b), (1, .ref (gA G 0)), (2, .ref (gA G 72))]) hx hb dL_law_1652 hl (k := 3) rfl (by rw [ex478]; rfl) (by decide) rfl (fun ls hl => ?_)
          refine lv_goto (tgt := 18) hx hb dL_law_1655 (by decide) ?_
          exact ih x478 C R _ _ _ h (lv_sub hl [1, 2, 3, 0] rfl) hP hS
        · replace h := it_f c477 h
          refine lv_iconst (v := 0) hx hb dL_law_1348 (by decide) ?_
          exact absurd (Option.some.inj h) (by decide)
      replace h := it_f c468 h
      by_cases c479 : ((xs (Int32.toNatClampNeg y3)) &&& 63) = 32
      · replace h := it_t c479 h
        refine lv_tableIn (off := 1317) (tgt := 1350) hx hb dL_law_33 (by rw [c479]; decide) (by rw [c479]; decide) (by rw [c479]; rfl) (by decide) ?_
        refine lv_aload_n hx hb dL_law_1350 rfl (lv_at hl 1 rfl) ?_
        refine lv_aload_n hx hb dL_law_1351 rfl (lv_at hl 0 rfl) ?_
        refine lv_iload_n hx hb dL_law_1352 rfl (lv_at hl 3 rfl) ?_
        refine lv_iconst (v := 1) hx hb dL_law_1353 (by decide) ?_
        refine lv_iadd hx hb dL_law_1354 ?_
        by_cases c480 : (y3 + 1) < (0 : Int32) ∨ L ≤ Int32.toNatClampNeg (y3 + 1)
        · cases it_t c480 h
        replace h := it_f c480 h
        refine va_sld hx hb hX hbl hbA hS c480 dL_law_1355 ?_
        refine lv_aload_n hx hb dL_law_1356 rfl (lv_at hl 0 rfl) ?_
        refine lv_iload_n hx hb dL_law_1357 rfl (lv_at hl 3 rfl) ?_
        refine lv_iconst (v := 2) hx hb dL_law_1358 (by decide) ?_
        refine lv_iadd hx hb dL_law_1359 ?_
        by_cases c481 : (y3 + 2) < (0 : Int32) ∨ L ≤ Int32.toNatClampNeg (y3 + 2)
        · cases it_t c481 h
        replace h := it_f c481 h
        refine va_sld hx hb hX hbl hbA hS c481 dL_law_1360 ?_
        obtain ⟨r483, C484, hq482, h⟩ := bp_x h
        refine rc_i hS (run_V hC wX10_keep k967 (e_0 G _) rfl hP hS (As := [.int (xs (Int32.toNatClampNeg (y3 + 1))), .int (xs (Int32.toNatClampNeg (y3 + 2)))]) (rest := []) (mX10_keep l G R hq482) rfl hl.1 (Nat.le_of_ble_eq_true rfl) ⟨Nat.le_of_ble_eq_true rfl, Nat.le_of_ble_eq_true rfl⟩ ⟨Nat.le_of_ble_eq_true rfl, Nat.le_of_ble_eq_true rfl⟩ rfl dL_law_1361) (fun H locs pb485 hP hS => ?_)
        refine lv_aload_n hx hb dL_law_1364 rfl (lv_at hl 2 rfl) ?_
        refine lv_aload_n hx hb dL_law_1365 rfl (lv_at hl 0 rfl) ?_
        refine lv_iload_n hx hb dL_law_1366 rfl (lv_at hl 3 rfl) ?_
        refine lv_iconst (v := 1) hx hb dL_law_1367 (by decide) ?_
        refine lv_iadd hx hb dL_law_1368 ?_
        by_cases c486 : (y3 + 1) < (0 : Int32) ∨ L ≤ Int32.toNatClampNeg (y3 + 1)
        · cases it_t c486 h
        replace h := it_f c486 h
        refine va_sld hx hb hX hbl hbA hS c486 dL_law_1369 ?_
        refine lv_aload_n hx hb dL_law_1370 rfl (lv_at hl 0 rfl) ?_
        refine lv_iload_n hx hb dL_law_1371 rfl (lv_at hl 3 rfl) ?_
        refine lv_iconst (v := 2) hx hb dL_law_1372 (by decide) ?_
        refine lv_iadd hx hb dL_law_1373 ?_
        by_cases c487 : (y3 + 2) < (0 : Int32) ∨ L ≤ Int32.toNatClampNeg (y3 + 2)
        · cases it_t c487 h
        replace h := it_f c487 h
        refine va_sld hx hb hX hbl hbA hS c487 dL_law_1374 ?_
        obtain ⟨r489, C490, hq488, h⟩ := bp_x h
        refine rc_i hS (run_V hC wX11_keep k1618 (e_72 G _) rfl hP hS (As := [.int (xs (Int32.toNatClampNeg (y3 + 1))), .int (xs (Int32.toNatClampNeg (y3 + 2)))]) (rest := [.int r483]) (mX11_keep l G C484 hq488) rfl hl.1 (Nat.le_of_ble_eq_true rfl) ⟨Nat.le_of_ble_eq_true rfl, Nat.le_of_ble_eq_true rfl⟩ ⟨Nat.le_of_ble_eq_true rfl, Nat.le_of_ble_eq_true rfl⟩ rfl dL_law_1375) (fun H locs pb491 hP hS => ?_)
        refine lv_icmp_eq (tgt := 1652) hx hb dL_law_1378 (by decide) (fun c492 => ?_) (fun c492 => ?_)
        · replace h := it_t c492 h
          obtain ⟨x493, ex493⟩ : ∃ y : Int32, y = y3 + 6 := ⟨_, rfl⟩
          replace h := lt_y ex493 h
          refine lv_iinc (v := x493) (lv' := [(3, .int x493), (0, .ref b), (1, .ref (gA G 0)), (2, .ref (gA G 72))]) hx hb dL_law_1652 hl (k := 3) rfl (by rw [ex493]; rfl) (by decide) rfl (fun ls hl => ?_)
          refine lv_goto (tgt := 18) hx hb dL_law_1655 (by decide) ?_
          exact ih x493 C484 C490 _ _ _ h (lv_sub hl [1, 2, 3, 0] rfl) hP hS
        · replace h := it_f c492 h
          refine lv_iconst (v := 0) hx hb dL_law_1381 (by decide) ?_
          exact absurd (Option.some.inj h) (by decide)
      replace h := it_f c479 h
      by_cases c494 : ((xs (Int32.toNatClampNeg y3)) &&& 63) = 33
      · replace h := it_t c494 h
        refine lv_tableIn (off := 1350) (tgt := 1383) hx hb dL_law_33 (by rw [c494]; decide) (by rw [c494]; decide) (by rw [c494]; rfl) (by decide) ?_
        refine lv_aload_n hx hb dL_law_1383 rfl (lv_at hl 1 rfl) ?_
        refine lv_aload_n hx hb dL_law_1384 rfl (lv_at hl 0 rfl) ?_
        refine lv_iload_n hx hb dL_law_1385 rfl (lv_at hl 3 rfl) ?_
        refine lv_iconst (v := 1) hx hb dL_law_1386 (by decide) ?_
        refine lv_iadd hx hb dL_law_1387 ?_
        by_cases c495 : (y3 + 1) < (0 : Int32) ∨ L ≤ Int32.toNatClampNeg (y3 + 1)
        · cases it_t c495 h
        replace h := it_f c495 h
        refine va_sld hx hb hX hbl hbA hS c495 dL_law_1388 ?_
        refine lv_aload_n hx hb dL_law_1389 rfl (lv_at hl 0 rfl) ?_
        refine lv_iload_n hx hb dL_law_1390 rfl (lv_at hl 3 rfl) ?_
        refine lv_iconst (v := 2) hx hb dL_law_1391 (by decide) ?_
        refine lv_iadd hx hb dL_law_1392 ?_
        by_cases c496 : (y3 + 2) < (0 : Int32) ∨ L ≤ Int32.toNatClampNeg (y3 + 2)
        · cases it_t c496 h
        replace h := it_f c496 h
        refine va_sld hx hb hX hbl hbA hS c496 dL_law_1393 ?_
        refine lv_aload_n hx hb dL_law_1394 rfl (lv_at hl 0 rfl) ?_
        refine lv_iload_n hx hb dL_law_1395 rfl (lv_at hl 3 rfl) ?_
        refine lv_iconst (v := 3) hx hb dL_law_1396 (by decide) ?_
        refine lv_iadd hx hb dL_law_1397 ?_
        by_cases c497 : (y3 + 3) < (0 : Int32) ∨ L ≤ Int32.toNatClampNeg (y3 + 3)
        · cases it_t c497 h
        replace h := it_f c497 h
        refine va_sld hx hb hX hbl hbA hS c497 dL_law_1398 ?_
        obtain ⟨r499, C500, hq498, h⟩ := bp_x h
        refine rc_i hS (run_V hC wX10_row k976 (e_0 G _) rfl hP hS (As := [.int (xs (Int32.toNatClampNeg (y3 + 1))), .int (xs (Int32.toNatClampNeg (y3 + 2))), .int (xs (Int32.toNatClampNeg (y3 + 3)))]) (rest := []) (mX10_row l G R hq498) rfl hl.1 (Nat.le_of_ble_eq_true rfl) ⟨Nat.le_of_ble_eq_true rfl, Nat.le_of_ble_eq_true rfl⟩ ⟨Nat.le_of_ble_eq_true rfl, Nat.le_of_ble_eq_true rfl⟩ rfl dL_law_1399) (fun H locs pb501 hP hS => ?_)
        refine lv_aload_n hx hb dL_law_1402 rfl (lv_at hl 2 rfl) ?_
        refine lv_aload_n hx hb dL_law_1403 rfl (lv_at hl 0 rfl) ?_
        refine lv_iload_n hx hb dL_law_1404 rfl (lv_at hl 3 rfl) ?_
        refine lv_iconst (v := 1) hx hb dL_law_1405 (by decide) ?_
        refine lv_iadd hx hb dL_law_1406 ?_
        by_cases c502 : (y3 + 1) < (0 : Int32) ∨ L ≤ Int32.toNatClampNeg (y3 + 1)
        · cases it_t c502 h
        replace h := it_f c502 h
        refine va_sld hx hb hX hbl hbA hS c502 dL_law_1407 ?_
        refine lv_aload_n hx hb dL_law_1408 rfl (lv_at hl 0 rfl) ?_
        refine lv_iload_n hx hb dL_law_1409 rfl (lv_at hl 3 rfl) ?_
        refine lv_iconst (v := 2) hx hb dL_law_1410 (by decide) ?_
        refine lv_iadd hx hb dL_law_1411 ?_
        by_cases c503 : (y3 + 2) < (0 : Int32) ∨ L ≤ Int32.toNatClampNeg (y3 + 2)
        · cases it_t c503 h
        replace h := it_f c503 h
        refine va_sld hx hb hX hbl hbA hS c503 dL_law_1412 ?_
        refine lv_aload_n hx hb dL_law_1413 rfl (lv_at hl 0 rfl) ?_
        refine lv_iload_n hx hb dL_law_1414 rfl (lv_at hl 3 rfl) ?_
        refine lv_iconst (v := 3) hx hb dL_law_1415 (by decide) ?_
        refine lv_iadd hx hb dL_law_1416 ?_
        by_cases c504 : (y3 + 3) < (0 : Int32) ∨ L ≤ Int32.toNatClampNeg (y3 + 3)
        · cases it_t c504 h
        replace h := it_f c504 h
        refine va_sld hx hb hX hbl hbA hS c504 dL_law_1417 ?_
        obtain ⟨r506, C507, hq505, h⟩ := bp_x h
        refine rc_i hS (run_V hC wX11_row k1622 (e_72 G _) rfl hP hS (As := [.int (xs (Int32.toNatClampNeg (y3 + 1))), .int (xs (Int32.toNatClampNeg (y3 + 2))), .int (xs (Int32.toNatClampNeg (y3 + 3)))]) (rest := [.int r499]) (mX11_row l G C500 hq505) rfl hl.1 (Nat.le_of_ble_eq_true rfl) ⟨Nat.le_of_ble_eq_true rfl, Nat.le_of_ble_eq_true rfl⟩ ⟨Nat.le_of_ble_eq_true rfl, Nat.le_of_ble_eq_true rfl⟩ rfl dL_law_1418) (fun H locs pb508 hP hS => ?_)
        refine lv_icmp_eq (tgt := 1652) hx hb dL_law_1421 (by decide) (fun c509 => ?_) (fun c509 => ?_)
        · replace h := it_t c509 h
          obtain ⟨x510, ex510⟩ : ∃ y : Int32, y = y3 + 6 := ⟨_, rfl⟩
          replace h := lt_y ex510 h
          refine lv_iinc (v := x510) (lv' := [(3, .int x510), (0, .ref b), (1, .ref (gA G 0)), (2, .ref (gA G 72))]) hx hb dL_law_1652 hl (k := 3) rfl (by rw [ex510]; rfl) (by decide) rfl (fun ls hl => ?_)
          refine lv_goto (tgt := 18) hx hb dL_law_1655 (by decide) ?_
          exact ih x510 C500 C507 _ _ _ h (lv_sub hl [1, 2, 3, 0] rfl) hP hS
        · replace h := it_f c509 h
          refine lv_iconst (v := 0) hx hb dL_law_1424 (by decide) ?_
          exact absurd (Option.some.inj h) (by decide)
      replace h := it_f c494 h
      by_cases c511 : ((xs (Int32.toNatClampNeg y3)) &&& 63) = 34
      · replace h := it_t c511 h
        refine lv_tableIn (off := 1393) (tgt := 1426) hx hb dL_law_33 (by rw [c511]; decide) (by rw [c511]; decide) (by rw [c511]; rfl) (by decide) ?_
        refine lv_aload_n hx hb dL_law_1426 rfl (lv_at hl 1 rfl) ?_
        refine lv_aload_n hx hb dL_law_1427 rfl (lv_at hl 0 rfl) ?_
        refine lv_iload_n hx hb dL_law_1428 rfl (lv_at hl 3 rfl) ?_
        refine lv_iconst (v := 1) hx hb dL_law_1429 (by decide) ?_
        refine lv_iadd hx hb dL_law_1430 ?_
        by_cases c512 : (y3 + 1) < (0 : Int32) ∨ L ≤ Int32.toNatClampNeg (y3 + 1)
        · cases it_t c512 h
        replace h := it_f c512 h
        refine va_sld hx hb hX hbl hbA hS c512 dL_law_1431 ?_
        refine lv_aload_n hx hb dL_law_1432 rfl (lv_at hl 0 rfl) ?_
        refine lv_iload_n hx hb dL_law_1433 rfl (lv_at hl 3 rfl) ?_
        refine lv_iconst (v := 2) hx hb dL_law_1434 (by decide) ?_
        refine lv_iadd hx hb dL_law_1435 ?_
        by_cases c513 : (y3 + 2) < (0 : Int32) ∨ L ≤ Int32.toNatClampNeg (y3 + 2)
        · cases it_t c513 h
        replace h := it_f c513 h
        refine va_sld hx hb hX hbl hbA hS c513 dL_law_1436 ?_
        refine lv_aload_n hx hb dL_law_1437 rfl (lv_at hl 0 rfl) ?_
        refine lv_iload_n hx hb dL_law_1438 rfl (lv_at hl 3 rfl) ?_
        refine lv_iconst (v := 3) hx hb dL_law_1439 (by decide) ?_
        refine lv_iadd hx hb dL_law_1440 ?_
        by_cases c514 : (y3 + 3) < (0 : Int32) ∨ L ≤ Int32.toNatClampNeg (y3 + 3)
        · cases it_t c514 h
        replace h := it_f c514 h
        refine va_sld hx hb hX hbl hbA hS c514 dL_law_1441 ?_
        refine lv_i2l hx hb dL_law_1442 rfl ?_
        refine lv_bipush (v := 32) hx hb dL_law_1443 (by decide) ?_
        refine lv_lshl hx hb dL_law_1445 rfl ?_
        refine lv_aload_n hx hb dL_law_1446 rfl (lv_at hl 0 rfl) ?_
        refine lv_iload_n hx hb dL_law_1447 rfl (lv_at hl 3 rfl) ?_
        refine lv_iconst (v := 4) hx hb dL_law_1448 (by decide) ?_
        refine lv_iadd hx hb dL_law_1449 ?_
        by_cases c515 : (y3 + 4) < (0 : Int32) ∨ L ≤ Int32.toNatClampNeg (y3 + 4)
        · cases it_t c515 h
        replace h := it_f c515 h
        refine va_sld hx hb hX hbl hbA hS c515 dL_law_1450 ?_
        refine lv_i2l hx hb dL_law_1451 rfl ?_
        refine lv_ldc2 hx hb (v := 4294967295) hown (hts _ k1661) dL_law_1452 ?_
        refine lv_land hx hb dL_law_1455 ?_
        refine lv_lor hx hb dL_law_1456 ?_
        obtain ⟨r517, C518, hq516, h⟩ := bp_x h
        refine rc_i hS (run_V hC wX10_put k989 (e_0 G _) rfl hP hS (As := [.int (xs (Int32.toNatClampNeg (y3 + 1))), .int (xs (Int32.toNatClampNeg (y3 + 2))), .long (((Int32.toInt64 (xs (Int32.toNatClampNeg (y3 + 3)))) <<< (Int32.toInt64 32 &&& 63)) ||| ((Int32.toInt64 (xs (Int32.toNatClampNeg (y3 + 4)))) &&& 4294967295))]) (rest := []) (mX10_put l G R hq516) rfl hl.1 (Nat.le_of_ble_eq_true rfl) ⟨Nat.le_of_ble_eq_true rfl, Nat.le_of_ble_eq_true rfl⟩ ⟨Nat.le_of_ble_eq_true rfl, Nat.le_of_ble_eq_true rfl⟩ rfl dL_law_1457) (fun H locs pb519 hP hS => ?_)
        refine lv_aload_n hx hb dL_law_1460 rfl (lv_at hl 2 rfl) ?_
        refine lv_aload_n hx hb dL_law_1461 rfl (lv_at hl 0 rfl) ?_
        refine lv_iload_n hx hb dL_law_1462 rfl (lv_at hl 3 rfl) ?_
        refine lv_iconst (v := 1) hx hb dL_law_1463 (by decide) ?_
        refine lv_iadd hx hb dL_law_1464 ?_
        by_cases c520 : (y3 + 1) < (0 : Int32) ∨ L ≤ Int32.toNatClampNeg (y3 + 1)
        · cases it_t c520 h
        replace h := it_f c520 h
        refine va_sld hx hb hX hbl hbA hS c520 dL_law_1465 ?_
        refine lv_aload_n hx hb dL_law_1466 rfl (lv_at hl 0 rfl) ?_
        refine lv_iload_n hx hb dL_law_1467 rfl (lv_at hl 3 rfl) ?_
        refine lv_iconst (v := 2) hx hb dL_law_1468 (by decide) ?_
        refine lv_iadd hx hb dL_law_1469 ?_
        by_cases c521 : (y3 + 2) < (0 : Int32) ∨ L ≤ Int32.toNatClampNeg (y3 + 2)
        · cases it_t c521 h
        replace h := it_f c521 h
        refine va_sld hx hb hX hbl hbA hS c521 dL_law_1470 ?_
        refine lv_aload_n hx hb dL_law_1471 rfl (lv_at hl 0 rfl) ?_
        refine lv_iload_n hx hb dL_law_1472 rfl (lv_at hl 3 rfl) ?_
        refine lv_iconst (v := 3) hx hb dL_law_1473 (by decide) ?_
        refine lv_iadd hx hb dL_law_1474 ?_
        by_cases c522 : (y3 + 3) < (0 : Int32) ∨ L ≤ Int32.toNatClampNeg (y3 + 3)
        · cases it_t c522 h
        replace h := it_f c522 h
        refine va_sld hx hb hX hbl hbA hS c522 dL_law_1475 ?_
        refine lv_i2l hx hb dL_law_1476 rfl ?_
        refine lv_bipush (v := 32) hx hb dL_law_1477 (by decide) ?_
        refine lv_lshl hx hb dL_law_1479 rfl ?_
        refine lv_aload_n hx hb dL_law_1480 rfl (lv_at hl 0 rfl) ?_
        refine lv_iload_n hx hb dL_law_1481 rfl (lv_at hl 3 rfl) ?_
        refine lv_iconst (v := 4) hx hb dL_law_1482 (by decide) ?_
        refine lv_iadd hx hb dL_law_1483 ?_
        by_cases c523 : (y3 + 4) < (0 : Int32) ∨ L ≤ Int32.toNatClampNeg (y3 + 4)
        · cases it_t c523 h
        replace h := it_f c523 h
        refine va_sld hx hb hX hbl hbA hS c523 dL_law_1484 ?_
        refine lv_i2l hx hb dL_law_1485 rfl ?_
        refine lv_ldc2 hx hb (v := 4294967295) hown (hts _ k1661) dL_law_1486 ?_
        refine lv_land hx hb dL_law_1489 ?_
        refine lv_lor hx hb dL_law_1490 ?_
        obtain ⟨r525, C526, hq524, h⟩ := bp_x h
        refine rc_i hS (run_V hC wX11_put k1626 (e_72 G _) rfl hP hS (As := [.int (xs (Int32.toNatClampNeg (y3 + 1))), .int (xs (Int32.toNatClampNeg (y3 + 2))), .long (((Int32.toInt64 (xs (Int32.toNatClampNeg (y3 + 3)))) <<< (Int32.toInt64 32 &&& 63)) ||| ((Int32.toInt64 (xs (Int32.toNatClampNeg (y3 + 4)))) &&& 4294967295))]) (rest := [.int r517]) (mX11_put l G C518 hq524) rfl hl.1 (Nat.le_of_ble_eq_true rfl) ⟨Nat.le_of_ble_eq_true rfl, Nat.le_of_ble_eq_true rfl⟩ ⟨Nat.le_of_ble_eq_true rfl, Nat.le_of_ble_eq_true rfl⟩ rfl dL_law_1491) (fun H locs pb527 hP hS => ?_)
        refine lv_icmp_eq (tgt := 1652) hx hb dL_law_1494 (by decide) (fun c528 => ?_) (fun c528 => ?_)
        · replace h := it_t c528 h
          obtain ⟨x529, ex529⟩ : ∃ y : Int32, y = y3 + 6 := ⟨_, rfl⟩
          replace h := lt_y ex529 h
          refine lv_iinc (v := x529) (lv' := [(3, .int x529), (0, .ref b), (1, .ref (gA G 0)), (2, .ref (gA G 72))]) hx hb dL_law_1652 hl (k := 3) rfl (by rw [ex529]; rfl) (by decide) rfl (fun ls hl => ?_)
          refine lv_goto (tgt := 18) hx hb dL_law_1655 (by decide) ?_
          exact ih x529 C518 C526 _ _ _ h (lv_sub hl [1, 2, 3, 0] rfl) hP hS
        · replace h := it_f c528 h
          refine lv_iconst (v := 0) hx hb dL_law_1497 (by decide) ?_
          exact absurd (Option.some.inj h) (by decide)
      replace h := it_f c511 h
      by_cases c530 : ((xs (Int32.toNatClampNeg y3)) &&& 63) = 35
      · replace h := it_t c530 h
        refine lv_tableIn (off := 1466) (tgt := 1499) hx hb dL_law_33 (by rw [c530]; decide) (by rw [c530]; decide) (by rw [c530]; rfl) (by decide) ?_
        refine lv_aload_n hx hb dL_law_1499 rfl (lv_at hl 1 rfl) ?_
        refine lv_aload_n hx hb dL_law_1500 rfl (lv_at hl 0 rfl) ?_
        refine lv_iload_n hx hb dL_law_1501 rfl (lv_at hl 3 rfl) ?_
        refine lv_iconst (v := 1) hx hb dL_law_1502 (by decide) ?_
        refine lv_iadd hx hb dL_law_1503 ?_
        by_cases c531 : (y3 + 1) < (0 : Int32) ∨ L ≤ Int32.toNatClampNeg (y3 + 1)
        · cases it_t c531 h
        replace h := it_f c531 h
        refine va_sld hx hb hX hbl hbA hS c531 dL_law_1504 ?_
        refine lv_aload_n hx hb dL_law_1505 rfl (lv_at hl 0 rfl) ?_
        refine lv_iload_n hx hb dL_law_1506 rfl (lv_at hl 3 rfl) ?_
        refine lv_iconst (v := 2) hx hb dL_law_1507 (by decide) ?_
        refine lv_iadd hx hb dL_law_1508 ?_
        by_cases c532 : (y3 + 2) < (0 : Int32) ∨ L ≤ Int32.toNatClampNeg (y3 + 2)
        · cases it_t c532 h
        replace h := it_f c532 h
        refine va_sld hx hb hX hbl hbA hS c532 dL_law_1509 ?_
        obtain ⟨r534, hq533, h⟩ := bn_x h
        refine rc_l hS (run_V hC wX10_element k1006 (e_0 G _) rfl hP hS (As := [.int (xs (Int32.toNatClampNeg (y3 + 1))), .int (xs (Int32.toNatClampNeg (y3 + 2)))]) (rest := []) (mX10_element l G R hq533) rfl hl.1 (Nat.le_of_ble_eq_true rfl) ⟨Nat.le_of_ble_eq_true rfl, Nat.le_of_ble_eq_true rfl⟩ ⟨Nat.le_of_ble_eq_true rfl, Nat.le_of_ble_eq_true rfl⟩ rfl dL_law_1510) (fun H locs hP hS => ?_)
        refine lv_aload_n hx hb dL_law_1513 rfl (lv_at hl 2 rfl) ?_
        refine lv_aload_n hx hb dL_law_1514 rfl (lv_at hl 0 rfl) ?_
        refine lv_iload_n hx hb dL_law_1515 rfl (lv_at hl 3 rfl) ?_
        refine lv_iconst (v := 1) hx hb dL_law_1516 (by decide) ?_
        refine lv_iadd hx hb dL_law_1517 ?_
        by_cases c535 : (y3 + 1) < (0 : Int32) ∨ L ≤ Int32.toNatClampNeg (y3 + 1)
        · cases it_t c535 h
        replace h := it_f c535 h
        refine va_sld hx hb hX hbl hbA hS c535 dL_law_1518 ?_
        refine lv_aload_n hx hb dL_law_1519 rfl (lv_at hl 0 rfl) ?_
        refine lv_iload_n hx hb dL_law_1520 rfl (lv_at hl 3 rfl) ?_
        refine lv_iconst (v := 2) hx hb dL_law_1521 (by decide) ?_
        refine lv_iadd hx hb dL_law_1522 ?_
        by_cases c536 : (y3 + 2) < (0 : Int32) ∨ L ≤ Int32.toNatClampNeg (y3 + 2)
        · cases it_t c536 h
        replace h := it_f c536 h
        refine va_sld hx hb hX hbl hbA hS c536 dL_law_1523 ?_
        obtain ⟨r538, hq537, h⟩ := bn_x h
        refine rc_l hS (run_V hC wX11_element k1637 (e_72 G _) rfl hP hS (As := [.int (xs (Int32.toNatClampNeg (y3 + 1))), .int (xs (Int32.toNatClampNeg (y3 + 2)))]) (rest := [.long r534]) (mX11_element l G C hq537) rfl hl.1 (Nat.le_of_ble_eq_true rfl) ⟨Nat.le_of_ble_eq_true rfl, Nat.le_of_ble_eq_true rfl⟩ ⟨Nat.le_of_ble_eq_true rfl, Nat.le_of_ble_eq_true rfl⟩ rfl dL_law_1524) (fun H locs hP hS => ?_)
        refine W.lcmp hx hb dL_law_1527 ?_
        refine lv_if_eq (tgt := 1652) hx hb dL_law_1528 (by decide) (fun c539 => ?_) (fun c539 => ?_)
        · replace h := it_t c539 h
          obtain ⟨x540, ex540⟩ : ∃ y : Int32, y = y3 + 6 := ⟨_, rfl⟩
          replace h := lt_y ex540 h
          refine lv_iinc (v := x540) (lv' := [(3, .int x540), (0, .ref b), (1, .ref (gA G 0)), (2, .ref (gA G 72))]) hx hb dL_law_1652 hl (k := 3) rfl (by rw [ex540]; rfl) (by decide) rfl (fun ls hl => ?_)
          refine lv_goto (tgt := 18) hx hb dL_law_1655 (by decide) ?_
          exact ih x540 C R _ _ _ h (lv_sub hl [1, 2, 3, 0] rfl) hP hS
        · replace h := it_f c539 h
          refine lv_iconst (v := 0) hx hb dL_law_1531 (by decide) ?_
          exact absurd (Option.some.inj h) (by decide)
      replace h := it_f c530 h
      by_cases c541 : ((xs (Int32.toNatClampNeg y3)) &&& 63) = 36
      · replace h := it_t c541 h
        refine lv_tableIn (off := 1500) (tgt := 1533) hx hb dL_law_33 (by rw [c541]; decide) (by rw [c541]; decide) (by rw [c541]; rfl) (by decide) ?_
        refine lv_aload_n hx hb dL_law_1533 rfl (lv_at hl 1 rfl) ?_
        refine lv_aload_n hx hb dL_law_1534 rfl (lv_at hl 0 rfl) ?_
        refine lv_iload_n hx hb dL_law_1535 rfl (lv_at hl 3 rfl) ?_
        refine lv_iconst (v := 1) hx hb dL_law_1536 (by decide) ?_
        refine lv_iadd hx hb dL_law_1537 ?_
        by_cases c542 : (y3 + 1) < (0 : Int32) ∨ L ≤ Int32.toNatClampNeg (y3 + 1)
        · cases it_t c542 h
        replace h := it_f c542 h
        refine va_sld hx hb hX hbl hbA hS c542 dL_law_1538 ?_
        refine lv_aload_n hx hb dL_law_1539 rfl (lv_at hl 0 rfl) ?_
        refine lv_iload_n hx hb dL_law_1540 rfl (lv_at hl 3 rfl) ?_
        refine lv_iconst (v := 2) hx hb dL_law_1541 (by decide) ?_
        refine lv_iadd hx hb dL_law_1542 ?_
        by_cases c543 : (y3 + 2) < (0 : Int32) ∨ L ≤ Int32.toNatClampNeg (y3 + 2)
        · cases it_t c543 h
        replace h := it_f c543 h
        refine va_sld hx hb hX hbl hbA hS c543 dL_law_1543 ?_
        refine lv_aload_n hx hb dL_law_1544 rfl (lv_at hl 0 rfl) ?_
        refine lv_iload_n hx hb dL_law_1545 rfl (lv_at hl 3 rfl) ?_
        refine lv_iconst (v := 3) hx hb dL_law_1546 (by decide) ?_
        refine lv_iadd hx hb dL_law_1547 ?_
        by_cases c544 : (y3 + 3) < (0 : Int32) ∨ L ≤ Int32.toNatClampNeg (y3 + 3)
        · cases it_t c544 h
        replace h := it_f c544 h
        refine va_sld hx hb hX hbl hbA hS c544 dL_law_1548 ?_
        refine lv_aload_n hx hb dL_law_1549 rfl (lv_at hl 0 rfl) ?_
        refine lv_iload_n hx hb dL_law_1550 rfl (lv_at hl 3 rfl) ?_
        refine lv_iconst (v := 4) hx hb dL_law_1551 (by decide) ?_
        refine lv_iadd hx hb dL_law_1552 ?_
        by_cases c545 : (y3 + 4) < (0 : Int32) ∨ L ≤ Int32.toNatClampNeg (y3 + 4)
        · cases it_t c545 h
        replace h := it_f c545 h
        refine va_sld hx hb hX hbl hbA hS c545 dL_law_1553 ?_
        refine lv_aload_n hx hb dL_law_1554 rfl (lv_at hl 0 rfl) ?_
        refine lv_iload_n hx hb dL_law_1555 rfl (lv_at hl 3 rfl) ?_
        refine lv_iconst (v := 5) hx hb dL_law_1556 (by decide) ?_
        refine lv_iadd hx hb dL_law_1557 ?_
        by_cases c546 : (y3 + 5) < (0 : Int32) ∨ L ≤ Int32.toNatClampNeg (y3 + 5)
        · cases it_t c546 h
        replace h := it_f c546 h
        refine va_sld hx hb hX hbl hbA hS c546 dL_law_1558 ?_
        obtain ⟨r548, C549, hq547, h⟩ := bp_x h
        refine rc_i hS (run_V hC wX10_shift k1011 (e_0 G _) rfl hP hS (As := [.int (xs (Int32.toNatClampNeg (y3 + 1))), .int (xs (Int32.toNatClampNeg (y3 + 2))), .int (xs (Int32.toNatClampNeg (y3 + 3))), .int (xs (Int32.toNatClampNeg (y3 + 4))), .int (xs (Int32.toNatClampNeg (y3 + 5)))]) (rest := []) (mX10_shift l G R hq547) rfl hl.1 (Nat.le_of_ble_eq_true rfl) ⟨Nat.le_of_ble_eq_true rfl, Nat.le_of_ble_eq_true rfl⟩ ⟨Nat.le_of_ble_eq_true rfl, Nat.le_of_ble_eq_true rfl⟩ rfl dL_law_1559) (fun H locs pb550 hP hS => ?_)
        refine lv_aload_n hx hb dL_law_1562 rfl (lv_at hl 2 rfl) ?_
        refine lv_aload_n hx hb dL_law_1563 rfl (lv_at hl 0 rfl) ?_
        refine lv_iload_n hx hb dL_law_1564 rfl (lv_at hl 3 rfl) ?_
        refine lv_iconst (v := 1) hx hb dL_law_1565 (by decide) ?_
        refine lv_iadd hx hb dL_law_1566 ?_
        by_cases c551 : (y3 + 1) < (0 : Int32) ∨ L ≤ Int32.toNatClampNeg (y3 + 1)
        · cases it_t c551 h
        replace h := it_f c551 h
        refine va_sld hx hb hX hbl hbA hS c551 dL_law_1567 ?_
        refine lv_aload_n hx hb dL_law_1568 rfl (lv_at hl 0 rfl) ?_
        refine lv_iload_n hx hb dL_law_1569 rfl (lv_at hl 3 rfl) ?_
        refine lv_iconst (v := 2) hx hb dL_law_1570 (by decide) ?_
        refine lv_iadd hx hb dL_law_1571 ?_
        by_cases c552 : (y3 + 2) < (0 : Int32) ∨ L ≤ Int32.toNatClampNeg (y3 + 2)
        · cases it_t c552 h
        replace h := it_f c552 h
        refine va_sld hx hb hX hbl hbA hS c552 dL_law_1572 ?_
        refine lv_aload_n hx hb dL_law_1573 rfl (lv_at hl 0 rfl) ?_
        refine lv_iload_n hx hb dL_law_1574 rfl (lv_at hl 3 rfl) ?_
        refine lv_iconst (v := 3) hx hb dL_law_1575 (by decide) ?_
        refine lv_iadd hx hb dL_law_1576 ?_
        by_cases c553 : (y3 + 3) < (0 : Int32) ∨ L ≤ Int32.toNatClampNeg (y3 + 3)
        · cases it_t c553 h
        replace h := it_f c553 h
        refine va_sld hx hb hX hbl hbA hS c553 dL_law_1577 ?_
        refine lv_aload_n hx hb dL_law_1578 rfl (lv_at hl 0 rfl) ?_
        refine lv_iload_n hx hb dL_law_1579 rfl (lv_at hl 3 rfl) ?_
        refine lv_iconst (v := 4) hx hb dL_law_1580 (by decide) ?_
        refine lv_iadd hx hb dL_law_1581 ?_
        by_cases c554 : (y3 + 4) < (0 : Int32) ∨ L ≤ Int32.toNatClampNeg (y3 + 4)
        · cases it_t c554 h
        replace h := it_f c554 h
        refine va_sld hx hb hX hbl hbA hS c554 dL_law_1582 ?_
        refine lv_aload_n hx hb dL_law_1583 rfl (lv_at hl 0 rfl) ?_
        refine lv_iload_n hx hb dL_law_1584 rfl (lv_at hl 3 rfl) ?_
        refine lv_iconst (v := 5) hx hb dL_law_1585 (by decide) ?_
        refine lv_iadd hx hb dL_law_1586 ?_
        by_cases c555 : (y3 + 5) < (0 : Int32) ∨ L ≤ Int32.toNatClampNeg (y3 + 5)
        · cases it_t c555 h
        replace h := it_f c555 h
        refine va_sld hx hb hX hbl hbA hS c555 dL_law_1587 ?_
        obtain ⟨r557, C558, hq556, h⟩ := bp_x h
        refine rc_i hS (run_V hC wX11_shift k1642 (e_72 G _) rfl hP hS (As := [.int (xs (Int32.toNatClampNeg (y3 + 1))), .int (xs (Int32.toNatClampNeg (y3 + 2))), .int (xs (Int32.toNatClampNeg (y3 + 3))), .int (xs (Int32.toNatClampNeg (y3 + 4))), .int (xs (Int32.toNatClampNeg (y3 + 5)))]) (rest := [.int r548]) (mX11_shift l G C549 hq556) rfl hl.1 (Nat.le_of_ble_eq_true rfl) ⟨Nat.le_of_ble_eq_true rfl, Nat.le_of_ble_eq_true rfl⟩ ⟨Nat.le_of_ble_eq_true rfl, Nat.le_of_ble_eq_true rfl⟩ rfl dL_law_1588) (fun H locs pb559 hP hS => ?_)
        refine lv_icmp_eq (tgt := 1652) hx hb dL_law_1591 (by decide) (fun c560 => ?_) (fun c560 => ?_)
        · replace h := it_t c560 h
          obtain ⟨x561, ex561⟩ : ∃ y : Int32, y = y3 + 6 := ⟨_, rfl⟩
          replace h := lt_y ex561 h
          refine lv_iinc (v := x561) (lv' := [(3, .int x561), (0, .ref b), (1, .ref (gA G 0)), (2, .ref (gA G 72))]) hx hb dL_law_1652 hl (k := 3) rfl (by rw [ex561]; rfl) (by decide) rfl (fun ls hl => ?_)
          refine lv_goto (tgt := 18) hx hb dL_law_1655 (by decide) ?_
          exact ih x561 C549 C558 _ _ _ h (lv_sub hl [1, 2, 3, 0] rfl) hP hS
        · replace h := it_f c560 h
          refine lv_iconst (v := 0) hx hb dL_law_1594 (by decide) ?_
          exact absurd (Option.some.inj h) (by decide)
      replace h := it_f c541 h
      by_cases c562 : ((xs (Int32.toNatClampNeg y3)) &&& 63) = 37
      · replace h := it_t c562 h
        refine lv_tableIn (off := 1563) (tgt := 1596) hx hb dL_law_33 (by rw [c562]; decide) (by rw [c562]; decide) (by rw [c562]; rfl) (by decide) ?_
        refine lv_aload_n hx hb dL_law_1596 rfl (lv_at hl 1 rfl) ?_
        refine lv_aload_n hx hb dL_law_1597 rfl (lv_at hl 0 rfl) ?_
        refine lv_iload_n hx hb dL_law_1598 rfl (lv_at hl 3 rfl) ?_
        refine lv_iconst (v := 1) hx hb dL_law_1599 (by decide) ?_
        refine lv_iadd hx hb dL_law_1600 ?_
        by_cases c563 : (y3 + 1) < (0 : Int32) ∨ L ≤ Int32.toNatClampNeg (y3 + 1)
        · cases it_t c563 h
        replace h := it_f c563 h
        refine va_sld hx hb hX hbl hbA hS c563 dL_law_1601 ?_
        refine lv_aload_n hx hb dL_law_1602 rfl (lv_at hl 0 rfl) ?_
        refine lv_iload_n hx hb dL_law_1603 rfl (lv_at hl 3 rfl) ?_
        refine lv_iconst (v := 2) hx hb dL_law_1604 (by decide) ?_
        refine lv_iadd hx hb dL_law_1605 ?_
        by_cases c564 : (y3 + 2) < (0 : Int32) ∨ L ≤ Int32.toNatClampNeg (y3 + 2)
        · cases it_t c564 h
        replace h := it_f c564 h
        refine va_sld hx hb hX hbl hbA hS c564 dL_law_1606 ?_
        obtain ⟨r566, hq565, h⟩ := bn_x h
        refine rc_i hS (run_V hC wX10_taken k1024 (e_0 G _) rfl hP hS (As := [.int (xs (Int32.toNatClampNeg (y3 + 1))), .int (xs (Int32.toNatClampNeg (y3 + 2)))]) (rest := []) (mX10_taken l G R hq565) rfl hl.1 (Nat.le_of_ble_eq_true rfl) ⟨Nat.le_of_ble_eq_true rfl, Nat.le_of_ble_eq_true rfl⟩ ⟨Nat.le_of_ble_eq_true rfl, Nat.le_of_ble_eq_true rfl⟩ rfl dL_law_1607) (fun H locs pb567 hP hS => ?_)
        refine lv_aload_n hx hb dL_law_1610 rfl (lv_at hl 2 rfl) ?_
        refine lv_aload_n hx hb dL_law_1611 rfl (lv_at hl 0 rfl) ?_
        refine lv_iload_n hx hb dL_law_1612 rfl (lv_at hl 3 rfl) ?_
        refine lv_iconst (v := 1) hx hb dL_law_1613 (by decide) ?_
        refine lv_iadd hx hb dL_law_1614 ?_
        by_cases c568 : (y3 + 1) < (0 : Int32) ∨ L ≤ Int32.toNatClampNeg (y3 + 1)
        · cases it_t c568 h
        replace h := it_f c568 h
        refine va_sld hx hb hX hbl hbA hS c568 dL_law_1615 ?_
        refine lv_aload_n hx hb dL_law_1616 rfl (lv_at hl 0 rfl) ?_
        refine lv_iload_n hx hb dL_law_1617 rfl (lv_at hl 3 rfl) ?_
        refine lv_iconst (v := 2) hx hb dL_law_1618 (by decide) ?_
        refine lv_iadd hx hb dL_law_1619 ?_
        by_cases c569 : (y3 + 2) < (0 : Int32) ∨ L ≤ Int32.toNatClampNeg (y3 + 2)
        · cases it_t c569 h
        replace h := it_f c569 h
        refine va_sld hx hb hX hbl hbA hS c569 dL_law_1620 ?_
        obtain ⟨r571, hq570, h⟩ := bn_x h
        refine rc_i hS (run_V hC wX11_taken k1646 (e_72 G _) rfl hP hS (As := [.int (xs (Int32.toNatClampNeg (y3 + 1))), .int (xs (Int32.toNatClampNeg (y3 + 2)))]) (rest := [.int r566]) (mX11_taken l G C hq570) rfl hl.1 (Nat.le_of_ble_eq_true rfl) ⟨Nat.le_of_ble_eq_true rfl, Nat.le_of_ble_eq_true rfl⟩ ⟨Nat.le_of_ble_eq_true rfl, Nat.le_of_ble_eq_true rfl⟩ rfl dL_law_1621) (fun H locs pb572 hP hS => ?_)
        refine lv_icmp_eq (tgt := 1652) hx hb dL_law_1624 (by decide) (fun c573 => ?_) (fun c573 => ?_)
        · replace h := it_t c573 h
          obtain ⟨x574, ex574⟩ : ∃ y : Int32, y = y3 + 6 := ⟨_, rfl⟩
          replace h := lt_y ex574 h
          refine lv_iinc (v := x574) (lv' := [(3, .int x574), (0, .ref b), (1, .ref (gA G 0)), (2, .ref (gA G 72))]) hx hb dL_law_1652 hl (k := 3) rfl (by rw [ex574]; rfl) (by decide) rfl (fun ls hl => ?_)
          refine lv_goto (tgt := 18) hx hb dL_law_1655 (by decide) ?_
          exact ih x574 C R _ _ _ h (lv_sub hl [1, 2, 3, 0] rfl) hP hS
        · replace h := it_f c573 h
          refine lv_iconst (v := 0) hx hb dL_law_1627 (by decide) ?_
          exact absurd (Option.some.inj h) (by decide)
      replace h := it_f c562 h
      by_cases c575 : ((xs (Int32.toNatClampNeg y3)) &&& 63) = 38
      · replace h := it_t c575 h
        refine lv_tableIn (off := 1596) (tgt := 1629) hx hb dL_law_33 (by rw [c575]; decide) (by rw [c575]; decide) (by rw [c575]; rfl) (by decide) ?_
        refine lv_aload_n hx hb dL_law_1629 rfl (lv_at hl 1 rfl) ?_
        refine lv_aload_n hx hb dL_law_1630 rfl (lv_at hl 0 rfl) ?_
        refine lv_iload_n hx hb dL_law_1631 rfl (lv_at hl 3 rfl) ?_
        refine lv_iconst (v := 1) hx hb dL_law_1632 (by decide) ?_
        refine lv_iadd hx hb dL_law_1633 ?_
        by_cases c576 : (y3 + 1) < (0 : Int32) ∨ L ≤ Int32.toNatClampNeg (y3 + 1)
        · cases it_t c576 h
        replace h := it_f c576 h
        refine va_sld hx hb hX hbl hbA hS c576 dL_law_1634 ?_
        refine rc_i hS (run_V hC wX10_count k1036 (e_0 G _) rfl hP hS (As := [.int (xs (Int32.toNatClampNeg (y3 + 1)))]) (rest := []) (mX10_count l G R rfl) rfl hl.1 (Nat.le_of_ble_eq_true rfl) ⟨Nat.le_of_ble_eq_true rfl, Nat.le_of_ble_eq_true rfl⟩ ⟨Nat.le_of_ble_eq_true rfl, Nat.le_of_ble_eq_true rfl⟩ rfl dL_law_1635) (fun H locs pb578 hP hS => ?_)
        refine lv_aload_n hx hb dL_law_1638 rfl (lv_at hl 2 rfl) ?_
        refine lv_aload_n hx hb dL_law_1639 rfl (lv_at hl 0 rfl) ?_
        refine lv_iload_n hx hb dL_law_1640 rfl (lv_at hl 3 rfl) ?_
        refine lv_iconst (v := 1) hx hb dL_law_1641 (by decide) ?_
        refine lv_iadd hx hb dL_law_1642 ?_
        by_cases c579 : (y3 + 1) < (0 : Int32) ∨ L ≤ Int32.toNatClampNeg (y3 + 1)
        · cases it_t c579 h
        replace h := it_f c579 h
        refine va_sld hx hb hX hbl hbA hS c579 dL_law_1643 ?_
        refine rc_i hS (run_V hC wX11_count k1657 (e_72 G _) rfl hP hS (As := [.int (xs (Int32.toNatClampNeg (y3 + 1)))]) (rest := [.int (fX10_count (xs (Int32.toNatClampNeg (y3 + 1))) C)]) (mX11_count l G C rfl) rfl hl.1 (Nat.le_of_ble_eq_true rfl) ⟨Nat.le_of_ble_eq_true rfl, Nat.le_of_ble_eq_true rfl⟩ ⟨Nat.le_of_ble_eq_true rfl, Nat.le_of_ble_eq_true rfl⟩ rfl dL_law_1644) (fun H locs pb581 hP hS => ?_)
        refine lv_icmp_eq (tgt := 1652) hx hb dL_law_1647 (by decide) (fun c582 => ?_) (fun c582 => ?_)
        · replace h := it_t c582 h
          obtain ⟨x583, ex583⟩ : ∃ y : Int32, y = y3 + 6 := ⟨_, rfl⟩
          replace h := lt_y ex583 h
          refine lv_iinc (v := x583) (lv' := [(3, .int x583), (0, .ref b), (1, .ref (gA G 0)), (2, .ref (gA G 72))]) hx hb dL_law_1652 hl (k := 3) rfl (by rw [ex583]; rfl) (by decide) rfl (fun ls hl => ?_)
          refine lv_goto (tgt := 18) hx hb dL_law_1655 (by decide) ?_
          exact ih x583 C R _ _ _ h (lv_sub hl [1, 2, 3, 0] rfl) hP hS
        · replace h := it_f c582 h
          refine lv_iconst (v := 0) hx hb dL_law_1650 (by decide) ?_
          exact absurd (Option.some.inj h) (by decide)
      replace h := it_f c575 h
      refine lv_tsD (tgt := 1652) hx hb dL_law_33 rfl (ex_c (ti_ne (z := 0) rfl c3) (ex_c (ti_ne (z := 1) rfl c18) (ex_c (ti_ne (z := 2) rfl c29) (ex_c (ti_ne (z := 3) rfl c42) (ex_c (ti_ne (z := 4) rfl c59) (ex_c (ti_ne (z := 5) rfl c70) (ex_c (ti_ne (z := 6) rfl c87) (ex_c (ti_ne (z := 7) rfl c106) (ex_c (ti_ne (z := 8) rfl c121) (ex_c (ti_ne (z := 9) rfl c138) (ex_c (ti_ne (z := 10) rfl c155) (ex_c (ti_ne (z := 11) rfl c172) (ex_c (ti_ne (z := 12) rfl c189) (ex_c (ti_ne (z := 13) rfl c206) (ex_c (ti_ne (z := 14) rfl c219) (ex_c (ti_ne (z := 15) rfl c234) (ex_c (ti_ne (z := 16) rfl c249) (ex_c (ti_ne (z := 17) rfl c266) (ex_c (ti_ne (z := 18) rfl c279) (ex_c (ti_ne (z := 19) rfl c292) (ex_c (ti_ne (z := 20) rfl c303) (ex_c (ti_ne (z := 21) rfl c320) (ex_c (ti_ne (z := 22) rfl c335) (ex_c (ti_ne (z := 23) rfl c352) (ex_c (ti_ne (z := 24) rfl c367) (ex_c (ti_ne (z := 25) rfl c382) (ex_c (ti_ne (z := 26) rfl c400) (ex_c (ti_ne (z := 27) rfl c416) (ex_c (ti_ne (z := 28) rfl c427) (ex_c (ti_ne (z := 29) rfl c438) (ex_c (ti_ne (z := 30) rfl c451) (ex_c (ti_ne (z := 31) rfl c468) (ex_c (ti_ne (z := 32) rfl c479) (ex_c (ti_ne (z := 33) rfl c494) (ex_c (ti_ne (z := 34) rfl c511) (ex_c (ti_ne (z := 35) rfl c530) (ex_c (ti_ne (z := 36) rfl c541) (ex_c (ti_ne (z := 37) rfl c562) (ex_c (ti_ne (z := 38) rfl c575) ex_0))))))))))))))))))))))))))))))))))))))) (by decide) (by decide) ?_
      obtain ⟨x584, ex584⟩ : ∃ y : Int32, y = y3 + 6 := ⟨_, rfl⟩
      replace h := lt_y ex584 h
      refine lv_iinc (v := x584) (lv' := [(3, .int x584), (0, .ref b), (1, .ref (gA G 0)), (2, .ref (gA G 72))]) hx hb dL_law_1652 hl (k := 3) rfl (by rw [ex584]; rfl) (by decide) rfl (fun ls hl => ?_)
      refine lv_goto (tgt := 18) hx hb dL_law_1655 (by decide) ?_
      exact ih x584 C R _ _ _ h (lv_sub hl [1, 2, 3, 0] rfl) hP hS
