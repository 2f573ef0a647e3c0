/-- the law's loop, plain: xs the script, L its length -/
def fL_h18 (n : Nat) (xs : Nat → Int32) (L : Nat) : Nat → Int32 → Mm → Mm → Option Int32
  | 0, _, _, _ => none
  | fu + 1, y3, C, R =>
    if ((Int32.ofNat L) - 6) < y3 then
    (some 1)
    else
    (if y3 < (0 : Int32) ∨ L ≤ Int32.toNatClampNeg y3 then none else
    if ((xs (Int32.toNatClampNeg y3)) &&& 63) = 0 then
    (if (y3 + 1) < (0 : Int32) ∨ L ≤ Int32.toNatClampNeg (y3 + 1) then none else
    if (y3 + 2) < (0 : Int32) ∨ L ≤ Int32.toNatClampNeg (y3 + 2) then none else
    bp' (fX10_feed n (xs (Int32.toNatClampNeg (y3 + 1))) (xs (Int32.toNatClampNeg (y3 + 2))) C) fun r7 C8 =>
    if (y3 + 1) < (0 : Int32) ∨ L ≤ Int32.toNatClampNeg (y3 + 1) then none else
    if (y3 + 2) < (0 : Int32) ∨ L ≤ Int32.toNatClampNeg (y3 + 2) then none else
    bp' (fX11_feed n (xs (Int32.toNatClampNeg (y3 + 1))) (xs (Int32.toNatClampNeg (y3 + 2))) R) fun r13 C14 =>
    if r7 = r13 then
    (lt' (y3 + 6) fun x17 =>
    fL_h18 n xs L fu x17 C8 C14)
    else
    (some 0))
    else
    (if ((xs (Int32.toNatClampNeg y3)) &&& 63) = 1 then
    (bp' (fX10_head n C) fun r20 C21 =>
    bp' (fX11_head n R) fun r24 C25 =>
    if r20 = r24 then
    (lt' (y3 + 6) fun x28 =>
    fL_h18 n xs L fu x28 C21 C25)
    else
    (some 0))
    else
    (if ((xs (Int32.toNatClampNeg y3)) &&& 63) = 2 then
    (if (y3 + 1) < (0 : Int32) ∨ L ≤ Int32.toNatClampNeg (y3 + 1) then none else
    if (y3 + 2) < (0 : Int32) ∨ L ≤ Int32.toNatClampNeg (y3 + 2) then none else
    Option.bind (fX10_of n (xs (Int32.toNatClampNeg (y3 + 1))) (xs (Int32.toNatClampNeg (y3 + 2))) C) fun r33 =>
    if (y3 + 1) < (0 : Int32) ∨ L ≤ Int32.toNatClampNeg (y3 + 1) then none else
    if (y3 + 2) < (0 : Int32) ∨ L ≤ Int32.toNatClampNeg (y3 + 2) then none else
    Option.bind (fX11_of n (xs (Int32.toNatClampNeg (y3 + 1))) (xs (Int32.toNatClampNeg (y3 + 2))) R) fun r38 =>
    if r33 = r38 then
    (lt' (y3 + 6) fun x41 =>
    fL_h18 n xs L fu x41 C R)
    else
    (some 0))
    else
    (if ((xs (Int32.toNatClampNeg y3)) &&& 63) = 3 then
    (if (y3 + 1) < (0 : Int32) ∨ L ≤ Int32.toNatClampNeg (y3 + 1) then none else
    if (y3 + 2) < (0 : Int32) ∨ L ≤ Int32.toNatClampNeg (y3 + 2) then none else
    if (y3 + 3) < (0 : Int32) ∨ L ≤ Int32.toNatClampNeg (y3 + 3) then none else
    bp' (fX10_turn (xs (Int32.toNatClampNeg (y3 + 1))) (xs (Int32.toNatClampNeg (y3 + 2))) (xs (Int32.toNatClampNeg (y3 + 3))) C) fun r47 C48 =>
    if (y3 + 1) < (0 : Int32) ∨ L ≤ Int32.toNatClampNeg (y3 + 1) then none else
    if (y3 + 2) < (0 : Int32) ∨ L ≤ Int32.toNatClampNeg (y3 + 2) then none else
    if (y3 + 3) < (0 : Int32) ∨ L ≤ Int32.toNatClampNeg (y3 + 3) then none else
    bp' (fX11_turn n (xs (Int32.toNatClampNeg (y3 + 1))) (xs (Int32.toNatClampNeg (y3 + 2))) (xs (Int32.toNatClampNeg (y3 + 3))) R) fun r54 C55 =>
    if r47 = r54 then
    (lt' (y3 + 6) fun x58 =>
    fL_h18 n xs L fu x58 C48 C55)
    else
    (some 0))
    else
    (if ((xs (Int32.toNatClampNeg y3)) &&& 63) = 4 then
    (bp' (fX10_choice n C) fun r61 C62 =>
    bp' (fX11_choice n R) fun r65 C66 =>
    if r61 = r65 then
    (lt' (y3 + 6) fun x69 =>
    fL_h18 n xs L fu x69 C62 C66)
    else
    (some 0))
    else
    (if ((xs (Int32.toNatClampNeg y3)) &&& 63) = 5 then
    (if (y3 + 1) < (0 : Int32) ∨ L ≤ Int32.toNatClampNeg (y3 + 1) then none else
    if (y3 + 2) < (0 : Int32) ∨ L ≤ Int32.toNatClampNeg (y3 + 2) then none else
    if (y3 + 3) < (0 : Int32) ∨ L ≤ Int32.toNatClampNeg (y3 + 3) then none else
    bp' (fX10_way n (xs (Int32.toNatClampNeg (y3 + 1))) (xs (Int32.toNatClampNeg (y3 + 2))) (xs (Int32.toNatClampNeg (y3 + 3))) C) fun r75 C76 =>
    if (y3 + 1) < (0 : Int32) ∨ L ≤ Int32.toNatClampNeg (y3 + 1) then none else
    if (y3 + 2) < (0 : Int32) ∨ L ≤ Int32.toNatClampNeg (y3 + 2) then none else
    if (y3 + 3) < (0 : Int32) ∨ L ≤ Int32.toNatClampNeg (y3 + 3) then none else
    bp' (fX11_way n (xs (Int32.toNatClampNeg (y3 + 1))) (xs (Int32.toNatClampNeg (y3 + 2))) (xs (Int32.toNatClampNeg (y3 + 3))) R) fun r82 C83 =>
    if r75 = r82 then
    (lt' (y3 + 6) fun x86 =>
    fL_h18 n xs L fu x86 C76 C83)
    else
    (some 0))
    else
    (if ((xs (Int32.toNatClampNeg y3)) &&& 63) = 6 then
    (if (y3 + 1) < (0 : Int32) ∨ L ≤ Int32.toNatClampNeg (y3 + 1) then none else
    if (y3 + 2) < (0 : Int32) ∨ L ≤ Int32.toNatClampNeg (y3 + 2) then none else
    if (y3 + 3) < (0 : Int32) ∨ L ≤ Int32.toNatClampNeg (y3 + 3) then none else
    if (y3 + 4) < (0 : Int32) ∨ L ≤ Int32.toNatClampNeg (y3 + 4) then none else
    bp' (fX10_step n (xs (Int32.toNatClampNeg (y3 + 1))) (xs (Int32.toNatClampNeg (y3 + 2))) (xs (Int32.toNatClampNeg (y3 + 3))) (xs (Int32.toNatClampNeg (y3 + 4))) C) fun r93 C94 =>
    if (y3 + 1) < (0 : Int32) ∨ L ≤ Int32.toNatClampNeg (y3 + 1) then none else
    if (y3 + 2) < (0 : Int32) ∨ L ≤ Int32.toNatClampNeg (y3 + 2) then none else
    if (y3 + 3) < (0 : Int32) ∨ L ≤ Int32.toNatClampNeg (y3 + 3) then none else
    if (y3 + 4) < (0 : Int32) ∨ L ≤ Int32.toNatClampNeg (y3 + 4) then none else
    bp' (fX11_step n (xs (Int32.toNatClampNeg (y3 + 1))) (xs (Int32.toNatClampNeg (y3 + 2))) (xs (Int32.toNatClampNeg (y3 + 3))) (xs (Int32.toNatClampNeg (y3 + 4))) R) fun r101 C102 =>
    if r93 = r101 then
    (lt' (y3 + 6) fun x105 =>
    fL_h18 n xs L fu x105 C94 C102)
    else
    (some 0))
    else
    (if ((xs (Int32.toNatClampNeg y3)) &&& 63) = 7 then
    (if (y3 + 1) < (0 : Int32) ∨ L ≤ Int32.toNatClampNeg (y3 + 1) then none else
    if (y3 + 2) < (0 : Int32) ∨ L ≤ Int32.toNatClampNeg (y3 + 2) then none else
    bp' (fX10_chosen n (xs (Int32.toNatClampNeg (y3 + 1))) (xs (Int32.toNatClampNeg (y3 + 2))) C) fun r110 C111 =>
    if (y3 + 1) < (0 : Int32) ∨ L ≤ Int32.toNatClampNeg (y3 + 1) then none else
    if (y3 + 2) < (0 : Int32) ∨ L ≤ Int32.toNatClampNeg (y3 + 2) then none else
    bp' (fX11_chosen n (xs (Int32.toNatClampNeg (y3 + 1))) (xs (Int32.toNatClampNeg (y3 + 2))) R) fun r116 C117 =>
    if r110 = r116 then
    (lt' (y3 + 6) fun x120 =>
    fL_h18 n xs L fu x120 C111 C117)
    else
    (some 0))
    else
    (if ((xs (Int32.toNatClampNeg y3)) &&& 63) = 8 then
    (if (y3 + 1) < (0 : Int32) ∨ L ≤ Int32.toNatClampNeg (y3 + 1) then none else
    if (y3 + 2) < (0 : Int32) ∨ L ≤ Int32.toNatClampNeg (y3 + 2) then none else
    if (y3 + 3) < (0 : Int32) ∨ L ≤ Int32.toNatClampNeg (y3 + 3) then none else
    bp' (fX10_answer n (xs (Int32.toNatClampNeg (y3 + 1))) (xs (Int32.toNatClampNeg (y3 + 2))) (xs (Int32.toNatClampNeg (y3 + 3))) C) fun r126 C127 =>
    if (y3 + 1) < (0 : Int32) ∨ L ≤ Int32.toNatClampNeg (y3 + 1) then none else
    if (y3 + 2) < (0 : Int32) ∨ L ≤ Int32.toNatClampNeg (y3 + 2) then none else
    if (y3 + 3) < (0 : Int32) ∨ L ≤ Int32.toNatClampNeg (y3 + 3) then none else
    bp' (fX11_answer n (xs (Int32.toNatClampNeg (y3 + 1))) (xs (Int32.toNatClampNeg (y3 + 2))) (xs (Int32.toNatClampNeg (y3 + 3))) R) fun r133 C134 =>
    if r126 = r133 then
    (lt' (y3 + 6) fun x137 =>
    fL_h18 n xs L fu x137 C127 C134)
    else
    (some 0))
    else
    (if ((xs (Int32.toNatClampNeg y3)) &&& 63) = 9 then
    (if (y3 + 1) < (0 : Int32) ∨ L ≤ Int32.toNatClampNeg (y3 + 1) then none else
    if (y3 + 2) < (0 : Int32) ∨ L ≤ Int32.toNatClampNeg (y3 + 2) then none else
    if (y3 + 3) < (0 : Int32) ∨ L ≤ Int32.toNatClampNeg (y3 + 3) then none else
    bp' (fX10_quickest n (xs (Int32.toNatClampNeg (y3 + 1))) (xs (Int32.toNatClampNeg (y3 + 2))) (xs (Int32.toNatClampNeg (y3 + 3))) C) fun r143 C144 =>
    if (y3 + 1) < (0 : Int32) ∨ L ≤ Int32.toNatClampNeg (y3 + 1) then none else
    if (y3 + 2) < (0 : Int32) ∨ L ≤ Int32.toNatClampNeg (y3 + 2) then none else
    if (y3 + 3) < (0 : Int32) ∨ L ≤ Int32.toNatClampNeg (y3 + 3) then none else
    bp' (fX11_quickest n (xs (Int32.toNatClampNeg (y3 + 1))) (xs (Int32.toNatClampNeg (y3 + 2))) (xs (Int32.toNatClampNeg (y3 + 3))) R) fun r150 C151 =>
    if r143 = r150 then
    (lt' (y3 + 6) fun x154 =>
    fL_h18 n xs L fu x154 C144 C151)
    else
    (some 0))
    else
    (if ((xs (Int32.toNatClampNeg y3)) &&& 63) = 10 then
    (if (y3 + 1) < (0 : Int32) ∨ L ≤ Int32.toNatClampNeg (y3 + 1) then none else
    if (y3 + 2) < (0 : Int32) ∨ L ≤ Int32.toNatClampNeg (y3 + 2) then none else
    if (y3 + 3) < (0 : Int32) ∨ L ≤ Int32.toNatClampNeg (y3 + 3) then none else
    bp' (fX10_table n (xs (Int32.toNatClampNeg (y3 + 1))) (xs (Int32.toNatClampNeg (y3 + 2))) (xs (Int32.toNatClampNeg (y3 + 3))) C) fun r160 C161 =>
    if (y3 + 1) < (0 : Int32) ∨ L ≤ Int32.toNatClampNeg (y3 + 1) then none else
    if (y3 + 2) < (0 : Int32) ∨ L ≤ Int32.toNatClampNeg (y3 + 2) then none else
    if (y3 + 3) < (0 : Int32) ∨ L ≤ Int32.toNatClampNeg (y3 + 3) then none else
    bp' (fX11_table n (xs (Int32.toNatClampNeg (y3 + 1))) (xs (Int32.toNatClampNeg (y3 + 2))) (xs (Int32.toNatClampNeg (y3 + 3))) R) fun r167 C168 =>
    if r160 = r167 then
    (lt' (y3 + 6) fun x171 =>
    fL_h18 n xs L fu x171 C161 C168)
    else
    (some 0))
    else
    (if ((xs (Int32.toNatClampNeg y3)) &&& 63) = 11 then
    (if (y3 + 1) < (0 : Int32) ∨ L ≤ Int32.toNatClampNeg (y3 + 1) then none else
    if (y3 + 2) < (0 : Int32) ∨ L ≤ Int32.toNatClampNeg (y3 + 2) then none else
    if (y3 + 3) < (0 : Int32) ∨ L ≤ Int32.toNatClampNeg (y3 + 3) then none else
    bp' (fX10_see (xs (Int32.toNatClampNeg (y3 + 1))) (xs (Int32.toNatClampNeg (y3 + 2))) (xs (Int32.toNatClampNeg (y3 + 3))) C) fun r177 C178 =>
    if (y3 + 1) < (0 : Int32) ∨ L ≤ Int32.toNatClampNeg (y3 + 1) then none else
    if (y3 + 2) < (0 : Int32) ∨ L ≤ Int32.toNatClampNeg (y3 + 2) then none else
    if (y3 + 3) < (0 : Int32) ∨ L ≤ Int32.toNatClampNeg (y3 + 3) then none else
    bp' (fX11_see (xs (Int32.toNatClampNeg (y3 + 1))) (xs (Int32.toNatClampNeg (y3 + 2))) (xs (Int32.toNatClampNeg (y3 + 3))) R) fun r184 C185 =>
    if r177 = r184 then
    (lt' (y3 + 6) fun x188 =>
    fL_h18 n xs L fu x188 C178 C185)
    else
    (some 0))
    else
    (if ((xs (Int32.toNatClampNeg y3)) &&& 63) = 12 then
    (if (y3 + 1) < (0 : Int32) ∨ L ≤ Int32.toNatClampNeg (y3 + 1) then none else
    if (y3 + 2) < (0 : Int32) ∨ L ≤ Int32.toNatClampNeg (y3 + 2) then none else
    if (y3 + 3) < (0 : Int32) ∨ L ≤ Int32.toNatClampNeg (y3 + 3) then none else
    bp' (fX10_asks n (xs (Int32.toNatClampNeg (y3 + 1))) (xs (Int32.toNatClampNeg (y3 + 2))) (xs (Int32.toNatClampNeg (y3 + 3))) C) fun r194 C195 =>
    if (y3 + 1) < (0 : Int32) ∨ L ≤ Int32.toNatClampNeg (y3 + 1) then none else
    if (y3 + 2) < (0 : Int32) ∨ L ≤ Int32.toNatClampNeg (y3 + 2) then none else
    if (y3 + 3) < (0 : Int32) ∨ L ≤ Int32.toNatClampNeg (y3 + 3) then none else
    bp' (fX11_asks n (xs (Int32.toNatClampNeg (y3 + 1))) (xs (Int32.toNatClampNeg (y3 + 2))) (xs (Int32.toNatClampNeg (y3 + 3))) R) fun r201 C202 =>
    if r194 = r201 then
    (lt' (y3 + 6) fun x205 =>
    fL_h18 n xs L fu x205 C195 C202)
    else
    (some 0))
    else
    (if ((xs (Int32.toNatClampNeg y3)) &&& 63) = 13 then
    (if (y3 + 1) < (0 : Int32) ∨ L ≤ Int32.toNatClampNeg (y3 + 1) then none else
    if (y3 + 2) < (0 : Int32) ∨ L ≤ Int32.toNatClampNeg (y3 + 2) then none else
    Option.bind (fX10_seen (xs (Int32.toNatClampNeg (y3 + 1))) (xs (Int32.toNatClampNeg (y3 + 2))) C) fun r210 =>
    if (y3 + 1) < (0 : Int32) ∨ L ≤ Int32.toNatClampNeg (y3 + 1) then none else
    if (y3 + 2) < (0 : Int32) ∨ L ≤ Int32.toNatClampNeg (y3 + 2) then none else
    Option.bind (fX11_seen (xs (Int32.toNatClampNeg (y3 + 1))) (xs (Int32.toNatClampNeg (y3 + 2))) R) fun r215 =>
    if r210 = r215 then
    (lt' (y3 + 6) fun x218 =>
    fL_h18 n xs L fu x218 C R)
    else
    (some 0))
    else
    (if ((xs (Int32.toNatClampNeg y3)) &&& 63) = 14 then
    (if (y3 + 1) < (0 : Int32) ∨ L ≤ Int32.toNatClampNeg (y3 + 1) then none else
    if (y3 + 2) < (0 : Int32) ∨ L ≤ Int32.toNatClampNeg (y3 + 2) then none else
    bp' (fX10_fits n (xs (Int32.toNatClampNeg (y3 + 1))) (xs (Int32.toNatClampNeg (y3 + 2))) C) fun r223 C224 =>
    if (y3 + 1) < (0 : Int32) ∨ L ≤ Int32.toNatClampNeg (y3 + 1) then none else
    if (y3 + 2) < (0 : Int32) ∨ L ≤ Int32.toNatClampNeg (y3 + 2) then none else
    bp' (fX11_fits n (xs (Int32.toNatClampNeg (y3 + 1))) (xs (Int32.toNatClampNeg (y3 + 2))) R) fun r229 C230 =>
    if r223 = r229 then
    (lt' (y3 + 6) fun x233 =>
    fL_h18 n xs L fu x233 C224 C230)
    else
    (some 0))
    else
    (if ((xs (Int32.toNatClampNeg y3)) &&& 63) = 15 then
    (if (y3 + 1) < (0 : Int32) ∨ L ≤ Int32.toNatClampNeg (y3 + 1) then none else
    if (y3 + 2) < (0 : Int32) ∨ L ≤ Int32.toNatClampNeg (y3 + 2) then none else
    bp' (fX10_best n (xs (Int32.toNatClampNeg (y3 + 1))) (xs (Int32.toNatClampNeg (y3 + 2))) C) fun r238 C239 =>
    if (y3 + 1) < (0 : Int32) ∨ L ≤ Int32.toNatClampNeg (y3 + 1) then none else
    if (y3 + 2) < (0 : Int32) ∨ L ≤ Int32.toNatClampNeg (y3 + 2) then none else
    bp' (fX11_best n (xs (Int32.toNatClampNeg (y3 + 1))) (xs (Int32.toNatClampNeg (y3 + 2))) R) fun r244 C245 =>
    if r238 = r244 then
    (lt' (y3 + 6) fun x248 =>
    fL_h18 n xs L fu x248 C239 C245)
    else
    (some 0))
    else
    (if ((xs (Int32.toNatClampNeg y3)) &&& 63) = 16 then
    (if (y3 + 1) < (0 : Int32) ∨ L ≤ Int32.toNatClampNeg (y3 + 1) then none else
    if (y3 + 2) < (0 : Int32) ∨ L ≤ Int32.toNatClampNeg (y3 + 2) then none else
    if (y3 + 3) < (0 : Int32) ∨ L ≤ Int32.toNatClampNeg (y3 + 3) then none else
    bp' (fX10_slip n (xs (Int32.toNatClampNeg (y3 + 1))) (xs (Int32.toNatClampNeg (y3 + 2))) (xs (Int32.toNatClampNeg (y3 + 3))) C) fun r254 C255 =>
    if (y3 + 1) < (0 : Int32) ∨ L ≤ Int32.toNatClampNeg (y3 + 1) then none else
    if (y3 + 2) < (0 : Int32) ∨ L ≤ Int32.toNatClampNeg (y3 + 2) then none else
    if (y3 + 3) < (0 : Int32) ∨ L ≤ Int32.toNatClampNeg (y3 + 3) then none else
    bp' (fX11_slip n (xs (Int32.toNatClampNeg (y3 + 1))) (xs (Int32.toNatClampNeg (y3 + 2))) (xs (Int32.toNatClampNeg (y3 + 3))) R) fun r261 C262 =>
    if r254 = r261 then
    (lt' (y3 + 6) fun x265 =>
    fL_h18 n xs L fu x265 C255 C262)
    else
    (some 0))
    else
    (if ((xs (Int32.toNatClampNeg y3)) &&& 63) = 17 then
    (if (y3 + 1) < (0 : Int32) ∨ L ≤ Int32.toNatClampNeg (y3 + 1) then none else
    bp' (fX10_suits n (xs (Int32.toNatClampNeg (y3 + 1))) C) fun r269 C270 =>
    if (y3 + 1) < (0 : Int32) ∨ L ≤ Int32.toNatClampNeg (y3 + 1) then none else
    bp' (fX11_suits n (xs (Int32.toNatClampNeg (y3 + 1))) R) fun r274 C275 =>
    if r269 = r274 then
    (lt' (y3 + 6) fun x278 =>
    fL_h18 n xs L fu x278 C270 C275)
    else
    (some 0))
    else
    (if ((xs (Int32.toNatClampNeg y3)) &&& 63) = 18 then
    (if (y3 + 1) < (0 : Int32) ∨ L ≤ Int32.toNatClampNeg (y3 + 1) then none else
    bp' (fX10_tell (xs (Int32.toNatClampNeg (y3 + 1))) C) fun r282 C283 =>
    if (y3 + 1) < (0 : Int32) ∨ L ≤ Int32.toNatClampNeg (y3 + 1) then none else
    bp' (fX11_tell (xs (Int32.toNatClampNeg (y3 + 1))) R) fun r287 C288 =>
    if r282 = r287 then
    (lt' (y3 + 6) fun x291 =>
    fL_h18 n xs L fu x291 C283 C288)
    else
    (some 0))
    else
    (if ((xs (Int32.toNatClampNeg y3)) &&& 63) = 19 then
    (bp' (fX10_untell C) fun r294 C295 =>
    bp' (fX11_untell R) fun r298 C299 =>
    if r294 = r298 then
    (lt' (y3 + 6) fun x302 =>
    fL_h18 n xs L fu x302 C295 C299)
    else
    (some 0))
    else
    (if ((xs (Int32.toNatClampNeg y3)) &&& 63) = 20 then
    (if (y3 + 1) < (0 : Int32) ∨ L ≤ Int32.toNatClampNeg (y3 + 1) then none else
    if (y3 + 2) < (0 : Int32) ∨ L ≤ Int32.toNatClampNeg (y3 + 2) then none else
    if (y3 + 3) < (0 : Int32) ∨ L ≤ Int32.toNatClampNeg (y3 + 3) then none else
    bp' (fX10_parts n (xs (Int32.toNatClampNeg (y3 + 1))) (xs (Int32.toNatClampNeg (y3 + 2))) (xs (Int32.toNatClampNeg (y3 + 3))) C) fun r308 C309 =>
    if (y3 + 1) < (0 : Int32) ∨ L ≤ Int32.toNatClampNeg (y3 + 1) then none else
    if (y3 + 2) < (0 : Int32) ∨ L ≤ Int32.toNatClampNeg (y3 + 2) then none else
    if (y3 + 3) < (0 : Int32) ∨ L ≤ Int32.toNatClampNeg (y3 + 3) then none else
    bp' (fX11_parts n (xs (Int32.toNatClampNeg (y3 + 1))) (xs (Int32.toNatClampNeg (y3 + 2))) (xs (Int32.toNatClampNeg (y3 + 3))) R) fun r315 C316 =>
    if r308 = r315 then
    (lt' (y3 + 6) fun x319 =>
    fL_h18 n xs L fu x319 C309 C316)
    else
    (some 0))
    else
    (if ((xs (Int32.toNatClampNeg y3)) &&& 63) = 21 then
    (if (y3 + 1) < (0 : Int32) ∨ L ≤ Int32.toNatClampNeg (y3 + 1) then none else
    if (y3 + 2) < (0 : Int32) ∨ L ≤ Int32.toNatClampNeg (y3 + 2) then none else
    bp' (fX10_ask n (xs (Int32.toNatClampNeg (y3 + 1))) (xs (Int32.toNatClampNeg (y3 + 2))) C) fun r324 C325 =>
    if (y3 + 1) < (0 : Int32) ∨ L ≤ Int32.toNatClampNeg (y3 + 1) then none else
    if (y3 + 2) < (0 : Int32) ∨ L ≤ Int32.toNatClampNeg (y3 + 2) then none else
    bp' (fX11_ask n (xs (Int32.toNatClampNeg (y3 + 1))) (xs (Int32.toNatClampNeg (y3 + 2))) R) fun r330 C331 =>
    if r324 = r330 then
    (lt' (y3 + 6) fun x334 =>
    fL_h18 n xs L fu x334 C325 C331)
    else
    (some 0))
    else
    (if ((xs (Int32.toNatClampNeg y3)) &&& 63) = 22 then
    (if (y3 + 1) < (0 : Int32) ∨ L ≤ Int32.toNatClampNeg (y3 + 1) then none else
    if (y3 + 2) < (0 : Int32) ∨ L ≤ Int32.toNatClampNeg (y3 + 2) then none else
    if (y3 + 3) < (0 : Int32) ∨ L ≤ Int32.toNatClampNeg (y3 + 3) then none else
    bp' (fX10_taught n (xs (Int32.toNatClampNeg (y3 + 1))) (xs (Int32.toNatClampNeg (y3 + 2))) (xs (Int32.toNatClampNeg (y3 + 3))) C) fun r340 C341 =>
    if (y3 + 1) < (0 : Int32) ∨ L ≤ Int32.toNatClampNeg (y3 + 1) then none else
    if (y3 + 2) < (0 : Int32) ∨ L ≤ Int32.toNatClampNeg (y3 + 2) then none else
    if (y3 + 3) < (0 : Int32) ∨ L ≤ Int32.toNatClampNeg (y3 + 3) then none else
    bp' (fX11_taught n (xs (Int32.toNatClampNeg (y3 + 1))) (xs (Int32.toNatClampNeg (y3 + 2))) (xs (Int32.toNatClampNeg (y3 + 3))) R) fun r347 C348 =>
    if r340 = r347 then
    (lt' (y3 + 6) fun x351 =>
    fL_h18 n xs L fu x351 C341 C348)
    else
    (some 0))
    else
    (if ((xs (Int32.toNatClampNeg y3)) &&& 63) = 23 then
    (if (y3 + 1) < (0 : Int32) ∨ L ≤ Int32.toNatClampNeg (y3 + 1) then none else
    if (y3 + 2) < (0 : Int32) ∨ L ≤ Int32.toNatClampNeg (y3 + 2) then none else
    bp' (fX10_first n (xs (Int32.toNatClampNeg (y3 + 1))) (xs (Int32.toNatClampNeg (y3 + 2))) C) fun r356 C357 =>
    if (y3 + 1) < (0 : Int32) ∨ L ≤ Int32.toNatClampNeg (y3 + 1) then none else
    if (y3 + 2) < (0 : Int32) ∨ L ≤ Int32.toNatClampNeg (y3 + 2) then none else
    bp' (fX11_first n (xs (Int32.toNatClampNeg (y3 + 1))) (xs (Int32.toNatClampNeg (y3 + 2))) R) fun r362 C363 =>
    if r356 = r362 then
    (lt' (y3 + 6) fun x366 =>
    fL_h18 n xs L fu x366 C357 C363)
    else
    (some 0))
    else
    (if ((xs (Int32.toNatClampNeg y3)) &&& 63) = 24 then
    (if (y3 + 1) < (0 : Int32) ∨ L ≤ Int32.toNatClampNeg (y3 + 1) then none else
    if (y3 + 2) < (0 : Int32) ∨ L ≤ Int32.toNatClampNeg (y3 + 2) then none else
    if (y3 + 3) < (0 : Int32) ∨ L ≤ Int32.toNatClampNeg (y3 + 3) then none else
    Option.bind (fX10_root n (((Int32.toInt64 (xs (Int32.toNatClampNeg (y3 + 1)))) <<< (Int32.toInt64 32 &&& 63)) ||| ((Int32.toInt64 (xs (Int32.toNatClampNeg (y3 + 2)))) &&& 4294967295)) (xs (Int32.toNatClampNeg (y3 + 3)))) fun r372 =>
    if (y3 + 1) < (0 : Int32) ∨ L ≤ Int32.toNatClampNeg (y3 + 1) then none else
    if (y3 + 2) < (0 : Int32) ∨ L ≤ Int32.toNatClampNeg (y3 + 2) then none else
    if (y3 + 3) < (0 : Int32) ∨ L ≤ Int32.toNatClampNeg (y3 + 3) then none else
    Option.bind (fX11_root n (((Int32.toInt64 (xs (Int32.toNatClampNeg (y3 + 1)))) <<< (Int32.toInt64 32 &&& 63)) ||| ((Int32.toInt64 (xs (Int32.toNatClampNeg (y3 + 2)))) &&& 4294967295)) (xs (Int32.toNatClampNeg (y3 + 3)))) fun r378 =>
    if r372 = r378 then
    (lt' (y3 + 6) fun x381 =>
    fL_h18 n xs L fu x381 C R)
    else
    (some 0))
    else
    (if ((xs (Int32.toNatClampNeg y3)) &&& 63) = 25 then
    (if (y3 + 1) < (0 : Int32) ∨ L ≤ Int32.toNatClampNeg (y3 + 1) then none else
    if (y3 + 2) < (0 : Int32) ∨ L ≤ Int32.toNatClampNeg (y3 + 2) then none else
    if (y3 + 3) < (0 : Int32) ∨ L ≤ Int32.toNatClampNeg (y3 + 3) then none else
    if (y3 + 4) < (0 : Int32) ∨ L ≤ Int32.toNatClampNeg (y3 + 4) then none else
    Option.bind (fX10_firsts n (((Int32.toInt64 (xs (Int32.toNatClampNeg (y3 + 1)))) <<< (Int32.toInt64 32 &&& 63)) ||| ((Int32.toInt64 (xs (Int32.toNatClampNeg (y3 + 2)))) &&& 4294967295)) (xs (Int32.toNatClampNeg (y3 + 3))) (xs (Int32.toNatClampNeg (y3 + 4)))) fun r388 =>
    if (y3 + 1) < (0 : Int32) ∨ L ≤ Int32.toNatClampNeg (y3 + 1) then none else
    if (y3 + 2) < (0 : Int32) ∨ L ≤ Int32.toNatClampNeg (y3 + 2) then none else
    if (y3 + 3) < (0 : Int32) ∨ L ≤ Int32.toNatClampNeg (y3 + 3) then none else
    if (y3 + 4) < (0 : Int32) ∨ L ≤ Int32.toNatClampNeg (y3 + 4) then none else
    bp' (fX11_firsts n (((Int32.toInt64 (xs (Int32.toNatClampNeg (y3 + 1)))) <<< (Int32.toInt64 32 &&& 63)) ||| ((Int32.toInt64 (xs (Int32.toNatClampNeg (y3 + 2)))) &&& 4294967295)) (xs (Int32.toNatClampNeg (y3 + 3))) (xs (Int32.toNatClampNeg (y3 + 4))) R) fun r395 C396 =>
    if r388 = r395 then
    (lt' (y3 + 6) fun x399 =>
    fL_h18 n xs L fu x399 C C396)
    else
    (some 0))
    else
    (if ((xs (Int32.toNatClampNeg y3)) &&& 63) = 26 then
    (if (y3 + 1) < (0 : Int32) ∨ L ≤ Int32.toNatClampNeg (y3 + 1) then none else
    if (y3 + 2) < (0 : Int32) ∨ L ≤ Int32.toNatClampNeg (y3 + 2) then none else
    if (y3 + 3) < (0 : Int32) ∨ L ≤ Int32.toNatClampNeg (y3 + 3) then none else
    Option.bind (fX10_enough n (((Int32.toInt64 (xs (Int32.toNatClampNeg (y3 + 1)))) <<< (Int32.toInt64 32 &&& 63)) ||| ((Int32.toInt64 (xs (Int32.toNatClampNeg (y3 + 2)))) &&& 4294967295)) (xs (Int32.toNatClampNeg (y3 + 3)))) fun r405 =>
    if (y3 + 1) < (0 : Int32) ∨ L ≤ Int32.toNatClampNeg (y3 + 1) then none else
    if (y3 + 2) < (0 : Int32) ∨ L ≤ Int32.toNatClampNeg (y3 + 2) then none else
    if (y3 + 3) < (0 : Int32) ∨ L ≤ Int32.toNatClampNeg (y3 + 3) then none else
    bp' (fX11_enough n (((Int32.toInt64 (xs (Int32.toNatClampNeg (y3 + 1)))) <<< (Int32.toInt64 32 &&& 63)) ||| ((Int32.toInt64 (xs (Int32.toNatClampNeg (y3 + 2)))) &&& 4294967295)) (xs (Int32.toNatClampNeg (y3 + 3))) R) fun r411 C412 =>
    if r405 = r411 then
    (lt' (y3 + 6) fun x415 =>
    fL_h18 n xs L fu x415 C C412)
    else
    (some 0))
    else
    (if ((xs (Int32.toNatClampNeg y3)) &&& 63) = 27 then
    (bp' (fX10_undo C) fun r418 C419 =>
    bp' (fX11_undo R) fun r422 C423 =>
    if r418 = r422 then
    (lt' (y3 + 6) fun x426 =>
    fL_h18 n xs L fu x426 C419 C423)
    else
    (some 0))
    else
    (if ((xs (Int32.toNatClampNeg y3)) &&& 63) = 28 then
    (bp' (fX10_redo C) fun r429 C430 =>
    bp' (fX11_redo R) fun r433 C434 =>
    if r429 = r433 then
    (lt' (y3 + 6) fun x437 =>
    fL_h18 n xs L fu x437 C430 C434)
    else
    (some 0))
    else
    (if ((xs (Int32.toNatClampNeg y3)) &&& 63) = 29 then
    (if (y3 + 1) < (0 : Int32) ∨ L ≤ Int32.toNatClampNeg (y3 + 1) then none else
    bp' (fX10_body (xs (Int32.toNatClampNeg (y3 + 1))) C) fun r441 C442 =>
    if (y3 + 1) < (0 : Int32) ∨ L ≤ Int32.toNatClampNeg (y3 + 1) then none else
    bp' (fX11_body (xs (Int32.toNatClampNeg (y3 + 1))) R) fun r446 C447 =>
    if r441 = r446 then
    (lt' (y3 + 6) fun x450 =>
    fL_h18 n xs L fu x450 C442 C447)
    else
    (some 0))
    else
    (if ((xs (Int32.toNatClampNeg y3)) &&& 63) = 30 then
    (if (y3 + 1) < (0 : Int32) ∨ L ≤ Int32.toNatClampNeg (y3 + 1) then none else
    if (y3 + 2) < (0 : Int32) ∨ L ≤ Int32.toNatClampNeg (y3 + 2) then none else
    if (y3 + 3) < (0 : Int32) ∨ L ≤ Int32.toNatClampNeg (y3 + 3) then none else
    bp' (fX10_act n (xs (Int32.toNatClampNeg (y3 + 1))) (xs (Int32.toNatClampNeg (y3 + 2))) (xs (Int32.toNatClampNeg (y3 + 3))) C) fun r456 C457 =>
    if (y3 + 1) < (0 : Int32) ∨ L ≤ Int32.toNatClampNeg (y3 + 1) then none else
    if (y3 + 2) < (0 : Int32) ∨ L ≤ Int32.toNatClampNeg (y3 + 2) then none else
    if (y3 + 3) < (0 : Int32) ∨ L ≤ Int32.toNatClampNeg (y3 + 3) then none else
    bp' (fX11_act (xs (Int32.toNatClampNeg (y3 + 1))) (xs (Int32.toNatClampNeg (y3 + 2))) (xs (Int32.toNatClampNeg (y3 + 3))) R) fun r463 C464 =>
    if r456 = r463 then
    (lt' (y3 + 6) fun x467 =>
    fL_h18 n xs L fu x467 C457 C464)
    else
    (some 0))
    else
    (if ((xs (Int32.toNatClampNeg y3)) &&& 63) = 31 then
    (if (y3 + 1) < (0 : Int32) ∨ L ≤ Int32.toNatClampNeg (y3 + 1) then none else
    Option.bind (fX10_trace (xs (Int32.toNatClampNeg (y3 + 1))) C) fun r471 =>
    if (y3 + 1) < (0 : Int32) ∨ L ≤ Int32.toNatClampNeg (y3 + 1) then none else
    Option.bind (fX11_trace (xs (Int32.toNatClampNeg (y3 + 1))) R) fun r475 =>
    if r471 = r475 then
    (lt' (y3 + 6) fun x478 =>
    fL_h18 n xs L fu x478 C R)
    else
    (some 0))
    else
    (if ((xs (Int32.toNatClampNeg y3)) &&& 63) = 32 then
    (if (y3 + 1) < (0 : Int32) ∨ L ≤ Int32.toNatClampNeg (y3 + 1) then none else
    if (y3 + 2) < (0 : Int32) ∨ L ≤ Int32.toNatClampNeg (y3 + 2) then none else
    bp' (fX10_keep (xs (Int32.toNatClampNeg (y3 + 1))) (xs (Int32.toNatClampNeg (y3 + 2))) C) fun r483 C484 =>
    if (y3 + 1) < (0 : Int32) ∨ L ≤ Int32.toNatClampNeg (y3 + 1) then none else
    if (y3 + 2) < (0 : Int32) ∨ L ≤ Int32.toNatClampNeg (y3 + 2) then none else
    bp' (fX11_keep (xs (Int32.toNatClampNeg (y3 + 1))) (xs (Int32.toNatClampNeg (y3 + 2))) R) fun r489 C490 =>
    if r483 = r489 then
    (lt' (y3 + 6) fun x493 =>
    fL_h18 n xs L fu x493 C484 C490)
    else
    (some 0))
    else
    (if ((xs (Int32.toNatClampNeg y3)) &&& 63) = 33 then
    (if (y3 + 1) < (0 : Int32) ∨ L ≤ Int32.toNatClampNeg (y3 + 1) then none else
    if (y3 + 2) < (0 : Int32) ∨ L ≤ Int32.toNatClampNeg (y3 + 2) then none else
    if (y3 + 3) < (0 : Int32) ∨ L ≤ Int32.toNatClampNeg (y3 + 3) then none else
    bp' (fX10_row n (xs (Int32.toNatClampNeg (y3 + 1))) (xs (Int32.toNatClampNeg (y3 + 2))) (xs (Int32.toNatClampNeg (y3 + 3))) C) fun r499 C500 =>
    if (y3 + 1) < (0 : Int32) ∨ L ≤ Int32.toNatClampNeg (y3 + 1) then none else
    if (y3 + 2) < (0 : Int32) ∨ L ≤ Int32.toNatClampNeg (y3 + 2) then none else
    if (y3 + 3) < (0 : Int32) ∨ L ≤ Int32.toNatClampNeg (y3 + 3) then none else
    bp' (fX11_row n (xs (Int32.toNatClampNeg (y3 + 1))) (xs (Int32.toNatClampNeg (y3 + 2))) (xs (Int32.toNatClampNeg (y3 + 3))) R) fun r506 C507 =>
    if r499 = r506 then
    (lt' (y3 + 6) fun x510 =>
    fL_h18 n xs L fu x510 C500 C507)
    else
    (some 0))
    else
    (if ((xs (Int32.toNatClampNeg y3)) &&& 63) = 34 then
    (if (y3 + 1) < (0 : Int32) ∨ L ≤ Int32.toNatClampNeg (y3 + 1) then none else
    if (y3 + 2) < (0 : Int32) ∨ L ≤ Int32.toNatClampNeg (y3 + 2) then none else
    if (y3 + 3) < (0 : Int32) ∨ L ≤ Int32.toNatClampNeg (y3 + 3) then none else
    if (y3 + 4) < (0 : Int32) ∨ L ≤ Int32.toNatClampNeg (y3 + 4) then none else
    bp' (fX10_put (xs (Int32.toNatClampNeg (y3 + 1))) (xs (Int32.toNatClampNeg (y3 + 2))) (((Int32.toInt64 (xs (Int32.toNatClampNeg (y3 + 3)))) <<< (Int32.toInt64 32 &&& 63)) ||| ((Int32.toInt64 (xs (Int32.toNatClampNeg (y3 + 4)))) &&& 4294967295)) C) fun r517 C518 =>
    if (y3 + 1) < (0 : Int32) ∨ L ≤ Int32.toNatClampNeg (y3 + 1) then none else
    if (y3 + 2) < (0 : Int32) ∨ L ≤ Int32.toNatClampNeg (y3 + 2) then none else
    if (y3 + 3) < (0 : Int32) ∨ L ≤ Int32.toNatClampNeg (y3 + 3) then none else
    if (y3 + 4) < (0 : Int32) ∨ L ≤ Int32.toNatClampNeg (y3 + 4) then none else
    bp' (fX11_put (xs (Int32.toNatClampNeg (y3 + 1))) (xs (Int32.toNatClampNeg (y3 + 2))) (((Int32.toInt64 (xs (Int32.toNatClampNeg (y3 + 3)))) <<< (Int32.toInt64 32 &&& 63)) ||| ((Int32.toInt64 (xs (Int32.toNatClampNeg (y3 + 4)))) &&& 4294967295)) R) fun r525 C526 =>
    if r517 = r525 then
    (lt' (y3 + 6) fun x529 =>
    fL_h18 n xs L fu x529 C518 C526)
    else
    (some 0))
    else
    (if ((xs (Int32.toNatClampNeg y3)) &&& 63) = 35 then
    (if (y3 + 1) < (0 : Int32) ∨ L ≤ Int32.toNatClampNeg (y3 + 1) then none else
    if (y3 + 2) < (0 : Int32) ∨ L ≤ Int32.toNatClampNeg (y3 + 2) then none else
    Option.bind (fX10_element (xs (Int32.toNatClampNeg (y3 + 1))) (xs (Int32.toNatClampNeg (y3 + 2))) C) fun r534 =>
    if (y3 + 1) < (0 : Int32) ∨ L ≤ Int32.toNatClampNeg (y3 + 1) then none else
    if (y3 + 2) < (0 : Int32) ∨ L ≤ Int32.toNatClampNeg (y3 + 2) then none else
    Option.bind (fX11_element (xs (Int32.toNatClampNeg (y3 + 1))) (xs (Int32.toNatClampNeg (y3 + 2))) R) fun r538 =>
    if (lg_cmp r534 r538) = 0 then
    (lt' (y3 + 6) fun x540 =>
    fL_h18 n xs L fu x540 C R)
    else
    (some 0))
    else
    (if ((xs (Int32.toNatClampNeg y3)) &&& 63) = 36 then
    (if (y3 + 1) < (0 : Int32) ∨ L ≤ Int32.toNatClampNeg (y3 + 1) then none else
    if (y3 + 2) < (0 : Int32) ∨ L ≤ Int32.toNatClampNeg (y3 + 2) then none else
    if (y3 + 3) < (0 : Int32) ∨ L ≤ Int32.toNatClampNeg (y3 + 3) then none else
    if (y3 + 4) < (0 : Int32) ∨ L ≤ Int32.toNatClampNeg (y3 + 4) then none else
    if (y3 + 5) < (0 : Int32) ∨ L ≤ Int32.toNatClampNeg (y3 + 5) then none else
    bp' (fX10_shift (xs (Int32.toNatClampNeg (y3 + 1))) (xs (Int32.toNatClampNeg (y3 + 2))) (xs (Int32.toNatClampNeg (y3 + 3))) (xs (Int32.toNatClampNeg (y3 + 4))) (xs (Int32.toNatClampNeg (y3 + 5))) C) fun r548 C549 =>
    if (y3 + 1) < (0 : Int32) ∨ L ≤ Int32.toNatClampNeg (y3 + 1) then none else
    if (y3 + 2) < (0 : Int32) ∨ L ≤ Int32.toNatClampNeg (y3 + 2) then none else
    if (y3 + 3) < (0 : Int32) ∨ L ≤ Int32.toNatClampNeg (y3 + 3) then none else
    if (y3 + 4) < (0 : Int32) ∨ L ≤ Int32.toNatClampNeg (y3 + 4) then none else
    if (y3 + 5) < (0 : Int32) ∨ L ≤ Int32.toNatClampNeg (y3 + 5) then none else
    bp' (fX11_shift n (xs (Int32.toNatClampNeg (y3 + 1))) (xs (Int32.toNatClampNeg (y3 + 2))) (xs (Int32.toNatClampNeg (y3 + 3))) (xs (Int32.toNatClampNeg (y3 + 4))) (xs (Int32.toNatClampNeg (y3 + 5))) R) fun r557 C558 =>
    if r548 = r557 then
    (lt' (y3 + 6) fun x561 =>
    fL_h18 n xs L fu x561 C549 C558)
    else
    (some 0))
    else
    (if ((xs (Int32.toNatClampNeg y3)) &&& 63) = 37 then
    (if (y3 + 1) < (0 : Int32) ∨ L ≤ Int32.toNatClampNeg (y3 + 1) then none else
    if (y3 + 2) < (0 : Int32) ∨ L ≤ Int32.toNatClampNeg (y3 + 2) then none else
    Option.bind (fX10_taken n (xs (Int32.toNatClampNeg (y3 + 1))) (xs (Int32.toNatClampNeg (y3 + 2))) C) fun r566 =>
    if (y3 + 1) < (0 : Int32) ∨ L ≤ Int32.toNatClampNeg (y3 + 1) then none else
    if (y3 + 2) < (0 : Int32) ∨ L ≤ Int32.toNatClampNeg (y3 + 2) then none else
    Option.bind (fX11_taken n (xs (Int32.toNatClampNeg (y3 + 1))) (xs (Int32.toNatClampNeg (y3 + 2))) R) fun r571 =>
    if r566 = r571 then
    (lt' (y3 + 6) fun x574 =>
    fL_h18 n xs L fu x574 C R)
    else
    (some 0))
    else
    (if ((xs (Int32.toNatClampNeg y3)) &&& 63) = 38 then
    (if (y3 + 1) < (0 : Int32) ∨ L ≤ Int32.toNatClampNeg (y3 + 1) then none else
    if (y3 + 1) < (0 : Int32) ∨ L ≤ Int32.toNatClampNeg (y3 + 1) then none else
    if (fX10_count (xs (Int32.toNatClampNeg (y3 + 1))) C) = (fX11_count (xs (Int32.toNatClampNeg (y3 + 1))) R) then
    (lt' (y3 + 6) fun x583 =>
    fL_h18 n xs L fu x583 C R)
    else
    (some 0))
    else
    (lt' (y3 + 6) fun x584 =>
    fL_h18 n xs L fu x584 C R))))))))))))))))))))))))))))))))))))))))
