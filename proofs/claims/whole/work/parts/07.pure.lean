def xf_W_number_5 (a0 : Nat) (n1 : Int32) (n2 : Int32) (S : xs_T) : Nat → Int32 → Int32 → Option (Int32)
  | 0, _, _ => none
  | f + 1, i3, i4 =>
    if n2 ≤ i4 then
    (some i3)
    else
    ((xs_rd S a0 (n1 + i4)).bind fun v2 =>
    (some (i3 ||| (v2 <<< (((8 * i4) : Int32) &&& 31) : Int32))).bind fun v3 =>
    xf_W_number_5 a0 n1 n2 S f v3 (i4 + 1))
def xf_W_number (a0 : Nat) (n1 : Int32) (n2 : Int32) (S : xs_T) : Option (Int32) :=
  xf_W_number_5 a0 n1 n2 S xs_fuel 0 0
def xf_C_gathered (a0 : Nat) (n1 : Int32) (n2 : Int32) (n3 : Int32) (n4 : Int32) : Option (Int32) :=
  (xs_rdT a0 (n1 &&& 255)).bind fun v1 =>
  (xs_rdT a0 ((xs_ush n2 8) &&& 255)).bind fun v2 =>
  (xs_rdT a0 ((xs_ush n3 16) &&& 255)).bind fun v3 =>
  (xs_rdT a0 (xs_ush n4 24)).bind fun v4 =>
  some (((v1 ||| (v2 <<< ((8 : Int32) &&& 31) : Int32)) ||| (v3 <<< ((16 : Int32) &&& 31) : Int32)) ||| (v4 <<< ((24 : Int32) &&& 31) : Int32))
def xf_C_doubled (n0 : Int32) : Option (Int32) :=
  some (((n0 &&& 2139062143) <<< ((1 : Int32) &&& 31) : Int32) ^^^ (((xs_ush n0 7) &&& 16843009) * 27))
def xf_C_takeKey_92 (k : Nat) (a1 : Nat) (c31 : Int32 → Int32 → xs_T → Option (xs_T)) (i2 : Int32) (i3 : Int32) (i4 : Int32) (S : xs_T) : Option (xs_T) :=
  (xs_rd S (k + 1) (i3 - 4)).bind fun v5 =>
  (xs_wr S (k + 1) i3 (v5 ^^^ i4)).bind fun S6 =>
  c31 i2 (i3 + 1) S6
def xf_C_takeKey_31 (k : Nat) (a1 : Nat) : Nat → Int32 → Int32 → xs_T → Option (xs_T)
  | 0, _, _, _ => none
  | f + 1, i2, i3, S =>
    if (nI (xs_ln (k + 1))) ≤ i3 then
    (some S)
    else
    ((xs_rd S (k + 1) (i3 - 1)).bind fun v3 =>
    if (xs_rem i3 4) = 0 then
    ((some ((xs_ush v3 8) ||| (v3 <<< ((24 : Int32) &&& 31) : Int32))).bind fun v7 =>
    (xf_C_gathered 171 v7 v7 v7 v7).bind fun q8 =>
    (xf_C_doubled i2).bind fun q9 =>
    xf_C_takeKey_92 k a1 (xf_C_takeKey_31 k a1 f) q9 i3 (q8 ^^^ i2) S)
    else
    (xf_C_takeKey_92 k a1 (xf_C_takeKey_31 k a1 f) i2 i3 v3 S))
def xf_C_takeKey_2 (k : Nat) (a1 : Nat) : Nat → Int32 → xs_T → Option (xs_T)
  | 0, _, _ => none
  | f + 1, i2, S =>
    if 4 ≤ i2 then
    (xf_C_takeKey_31 k a1 xs_fuel 1 4 S)
    else
    ((xf_W_number a1 (4 * i2) 4 S).bind fun q10 =>
    (xs_wr S (k + 1) i2 q10).bind fun S11 =>
    xf_C_takeKey_2 k a1 f (i2 + 1) S11)
def xf_C_takeKey (k : Nat) (a1 : Nat) (S : xs_T) : Option (xs_T) :=
  xf_C_takeKey_2 k a1 xs_fuel 0 S
def xf_J_fill_5 (a0 : Nat) (n1 : Int32) : Nat → Int32 → Int32 → xs_T → Option (xs_T)
  | 0, _, _, _ => none
  | f + 1, i2, i3, S =>
    if i3 ≤ i2 then
    (some S)
    else
    ((xs_wr S a0 i2 n1).bind fun S3 =>
    xf_J_fill_5 a0 n1 f (i2 + 1) i3 S3)
def xf_J_fill (a0 : Nat) (n1 : Int32) (S : xs_T) : Option (xs_T) :=
  (some (nI (xs_ln a0))).bind fun v1 =>
  xf_J_fill_5 a0 n1 xs_fuel 0 v1 S
def xf_C_mixed (n0 : Int32) (n1 : Int32) : Option (Int32) :=
  some (((n1 ^^^ ((xs_ush (n0 ^^^ n1) 8) ||| ((n0 ^^^ n1) <<< ((24 : Int32) &&& 31) : Int32))) ^^^ ((xs_ush n0 16) ||| (n0 <<< ((16 : Int32) &&& 31) : Int32))) ^^^ ((xs_ush n0 24) ||| (n0 <<< ((8 : Int32) &&& 31) : Int32)))
def xf_W_putNumber_3 (a0 : Nat) (n1 : Int32) (n2 : Int32) (n3 : Int32) : Nat → Int32 → xs_T → Option (xs_T)
  | 0, _, _ => none
  | f + 1, i4, S =>
    if n3 ≤ i4 then
    (some S)
    else
    ((xs_wr S a0 (n1 + i4) ((xs_ush n2 (8 * i4)) &&& 255)).bind fun S2 =>
    xf_W_putNumber_3 a0 n1 n2 n3 f (i4 + 1) S2)
def xf_W_putNumber (a0 : Nat) (n1 : Int32) (n2 : Int32) (n3 : Int32) (S : xs_T) : Option (xs_T) :=
  xf_W_putNumber_3 a0 n1 n2 n3 xs_fuel 0 S
def xf_C_encipher_64 (k : Nat) (a1 : Nat) (n2 : Int32) : Nat → Int32 → Int32 → Int32 → Int32 → Int32 → xs_T → Option (xs_T)
  | 0, _, _, _, _, _, _ => none
  | f + 1, i4, i5, i6, i7, i8, S =>
    if 40 ≤ i8 then
    ((xf_C_gathered 171 i4 i5 i6 i7).bind fun q10 =>
    (xs_rd S (k + 1) 40).bind fun v11 =>
    (xf_W_putNumber a1 n2 (q10 ^^^ v11) 4 S).bind fun q12 =>
    (xf_C_gathered 171 i5 i6 i7 i4).bind fun q13 =>
    (xs_rd q12 (k + 1) (40 + 1)).bind fun v14 =>
    (xf_W_putNumber a1 (n2 + 4) (q13 ^^^ v14) 4 q12).bind fun q15 =>
    (xf_C_gathered 171 i6 i7 i4 i5).bind fun q16 =>
    (xs_rd q15 (k + 1) (40 + 2)).bind fun v17 =>
    (xf_W_putNumber a1 (n2 + 8) (q16 ^^^ v17) 4 q15).bind fun q18 =>
    (xf_C_gathered 171 i7 i4 i5 i6).bind fun q19 =>
    (xs_rd q18 (k + 1) (40 + 3)).bind fun v20 =>
    (xf_W_putNumber a1 (n2 + 12) (q19 ^^^ v20) 4 q18).bind fun q21 =>
    some q21)
    else
    ((xf_C_gathered 171 i4 i5 i6 i7).bind fun q22 =>
    (xf_C_gathered 171 i5 i6 i7 i4).bind fun q23 =>
    (xf_C_gathered 171 i6 i7 i4 i5).bind fun q24 =>
    (xf_C_gathered 171 i7 i4 i5 i6).bind fun q25 =>
    (xf_C_doubled q22).bind fun q26 =>
    (xf_C_mixed q22 q26).bind fun q27 =>
    (xs_rd S (k + 1) i8).bind fun v28 =>
    (xf_C_doubled q23).bind fun q29 =>
    (xf_C_mixed q23 q29).bind fun q30 =>
    (xs_rd S (k + 1) (i8 + 1)).bind fun v31 =>
    (xf_C_doubled q24).bind fun q32 =>
    (xf_C_mixed q24 q32).bind fun q33 =>
    (xs_rd S (k + 1) (i8 + 2)).bind fun v34 =>
    (xf_C_doubled q25).bind fun q35 =>
    (xf_C_mixed q25 q35).bind fun q36 =>
    (xs_rd S (k + 1) (i8 + 3)).bind fun v37 =>
    xf_C_encipher_64 k a1 n2 f (q27 ^^^ v28) (q30 ^^^ v31) (q33 ^^^ v34) (q36 ^^^ v37) (i8 + 4) S)
def xf_C_encipher (k : Nat) (a1 : Nat) (n2 : Int32) (S : xs_T) : Option (xs_T) :=
  (xf_W_number a1 n2 4 S).bind fun q1 =>
  (xs_rd S (k + 1) 0).bind fun v2 =>
  (xf_W_number a1 (n2 + 4) 4 S).bind fun q3 =>
  (xs_rd S (k + 1) 1).bind fun v4 =>
  (xf_W_number a1 (n2 + 8) 4 S).bind fun q5 =>
  (xs_rd S (k + 1) 2).bind fun v6 =>
  (xf_W_number a1 (n2 + 12) 4 S).bind fun q7 =>
  (xs_rd S (k + 1) 3).bind fun v8 =>
  xf_C_encipher_64 k a1 n2 xs_fuel (q1 ^^^ v2) (q3 ^^^ v4) (q5 ^^^ v6) (q7 ^^^ v8) 4 S
def xf_M_moveUp_32 (a0 : Nat) (c9 : Int32 → Int32 → xs_T → Option (xs_T)) (i1 : Int32) (i2 : Int32) (t0 : Int32) (S : xs_T) : Option (xs_T) :=
  (xs_rd S a0 i2).bind fun v6 =>
  (xs_wr S a0 i2 (((v6 <<< ((1 : Int32) &&& 31) : Int32) ||| (xs_ush t0 7)) &&& 255)).bind fun S7 =>
  c9 i1 (i2 + 1) S7
def xf_M_moveUp_9 (a0 : Nat) : Nat → Int32 → Int32 → xs_T → Option (xs_T)
  | 0, _, _, _ => none
  | f + 1, i1, i2, S =>
    if 16 ≤ i2 then
    ((xs_rd S a0 15).bind fun v3 =>
    (xs_wr S a0 15 (v3 ^^^ (i1 * 135))).bind fun S4 =>
    some S4)
    else
    (if 16 ≤ (i2 + 1) then
    (xf_M_moveUp_32 a0 (xf_M_moveUp_9 a0 f) i1 i2 0 S)
    else
    ((xs_rd S a0 (i2 + 1)).bind fun v8 =>
    xf_M_moveUp_32 a0 (xf_M_moveUp_9 a0 f) i1 i2 v8 S))
def xf_M_moveUp (a0 : Nat) (S : xs_T) : Option (xs_T) :=
  (xs_rd S a0 0).bind fun v1 =>
  xf_M_moveUp_9 a0 xs_fuel (xs_ush v1 7) 0 S
def xf_M_takeKey (k : Nat) (a1 : Nat) (S : xs_T) : Option (xs_T) :=
  (xf_C_takeKey (k + 1) a1 S).bind fun q1 =>
  (xf_J_fill (k + 3) 0 q1).bind fun q2 =>
  (xf_C_encipher (k + 1) (k + 3) 0 q2).bind fun q3 =>
  (xf_M_moveUp (k + 3) q3).bind fun q4 =>
  (xs_cpy q4 (k + 3) 0 (k + 4) 0 16).bind fun S5 =>
  (xf_M_moveUp (k + 4) S5).bind fun q6 =>
  some q6
def xf_W_isDevice (n0 : Int32) : Option (Int32) :=
  if n0 < 0 then
  (xs_rb 0)
  else
  (if 3 ≤ n0 then
  (xs_rb 0)
  else
  (xs_rb 1))
def xf_F_append (k : Nat) (n1 : Int32) (n2 : Int32) (S : xs_T) : Option (xs_T) :=
  if 24 < ((xs_gI S k 1) + n2) then
  (some S)
  else
  ((xf_W_putNumber (k + 1) (xs_gI S k 1) n1 n2 S).bind fun q2 =>
  (some (xs_sI q2 k 1 ((xs_gI q2 k 1) + n2))).bind fun S3 =>
  some S3)
def xf_F_begin (k : Nat) (n1 : Int32) (n2 : Int32) (S : xs_T) : Option (xs_T) :=
  (some (xs_sI S k 1 0)).bind fun S1 =>
  (some (xs_sI S1 k 2 n2)).bind fun S2 =>
  (xf_F_append k n1 1 S2).bind fun q3 =>
  some q3
def xf_F_appendZeros_2 (k : Nat) (n1 : Int32) : Nat → Int32 → xs_T → Option (xs_T)
  | 0, _, _ => none
  | f + 1, i2, S =>
    if n1 ≤ i2 then
    (some S)
    else
    ((xf_F_append k 0 1 S).bind fun q2 =>
    xf_F_appendZeros_2 k n1 f (i2 + 1) q2)
def xf_F_appendZeros (k : Nat) (n1 : Int32) (S : xs_T) : Option (xs_T) :=
  xf_F_appendZeros_2 k n1 xs_fuel 0 S
def xf_M_combine_3 (k : Nat) (a1 : Nat) (n2 : Int32) (n3 : Int32) : Nat → Int32 → xs_T → Option (xs_T)
  | 0, _, _ => none
  | f + 1, i4, S =>
    if n3 ≤ i4 then
    (some S)
    else
    ((xs_rd S (k + 5) i4).bind fun v2 =>
    (xs_rd S a1 (n2 + i4)).bind fun v3 =>
    (xs_wr S (k + 5) i4 (v2 ^^^ v3)).bind fun S4 =>
    xf_M_combine_3 k a1 n2 n3 f (i4 + 1) S4)
def xf_M_combine (k : Nat) (a1 : Nat) (n2 : Int32) (n3 : Int32) (S : xs_T) : Option (xs_T) :=
  xf_M_combine_3 k a1 n2 n3 xs_fuel 0 S
def xf_M_codeOf_96 (k : Nat) (a1 : Nat) (n2 : Int32) (t1 : Nat) (S : xs_T) : Option (Int32 × xs_T) :=
  (xf_M_combine k t1 0 16 S).bind fun q6 =>
  (xf_C_encipher (k + 1) (k + 5) 0 q6).bind fun q7 =>
  (xf_W_number (k + 5) 0 4 q7).bind fun q8 =>
  some (q8, q7)
def xf_M_codeOf_77 (k : Nat) (a1 : Nat) (n2 : Int32) (i4 : Int32) (S : xs_T) : Option (Int32 × xs_T) :=
  if 16 ≤ i4 then
  (xf_M_codeOf_96 k a1 n2 (k + 3) S)
  else
  (xf_M_codeOf_96 k a1 n2 (k + 4) S)
def xf_M_codeOf_10 (k : Nat) (a1 : Nat) (n2 : Int32) : Nat → Int32 → xs_T → Option (Int32 × xs_T)
  | 0, _, _ => none
  | f + 1, i3, S =>
    if (n2 - i3) ≤ 16 then
    ((xf_M_combine k a1 i3 (n2 - i3) S).bind fun q3 =>
    if 16 ≤ (n2 - i3) then
    (xf_M_codeOf_77 k a1 n2 (n2 - i3) q3)
    else
    ((xs_rd q3 (k + 5) (n2 - i3)).bind fun v9 =>
    (xs_wr q3 (k + 5) (n2 - i3) (v9 ^^^ 128)).bind fun S10 =>
    xf_M_codeOf_77 k a1 n2 (n2 - i3) S10))
    else
    ((xf_M_combine k a1 i3 16 S).bind fun q11 =>
    (xf_C_encipher (k + 1) (k + 5) 0 q11).bind fun q12 =>
    xf_M_codeOf_10 k a1 n2 f (i3 + 16) q12)
def xf_M_codeOf (k : Nat) (a1 : Nat) (n2 : Int32) (S : xs_T) : Option (Int32 × xs_T) :=
  (xf_J_fill (k + 5) 0 S).bind fun q1 =>
  xf_M_codeOf_10 k a1 n2 xs_fuel 0 q1
def xf_D_writeJoin (k : Nat) (S : xs_T) : Option (xs_T) :=
  (some (xs_sI S k 7 ((xs_gI S k 7) + 1))).bind fun S1 =>
  (some (xs_sI S1 k 6 1)).bind fun S2 =>
  (xs_sZ S2 k 14 0).bind fun S3 =>
  (some (xs_sI S3 k 13 0)).bind fun S4 =>
  (xf_F_begin (k + 14) 0 3 S4).bind fun q5 =>
  (xf_F_appendZeros (k + 14) 8 q5).bind fun q6 =>
  (xf_F_append (k + 14) (xs_gI q6 k 0) 1 q6).bind fun q7 =>
  (xf_F_appendZeros (k + 14) 7 q7).bind fun q8 =>
  (xf_F_append (k + 14) (xs_gI q8 k 7) 2 q8).bind fun q9 =>
  (xf_M_codeOf (k - 6) (k + 15) (xs_gI q9 (k + 14) 1) q9).bind fun q10 =>
  (xf_F_append (k + 14) q10.1 4 q10.2).bind fun q11 =>
  some q11
def xf_F_copy (k : Nat) (a1 : Nat) (S : xs_T) : Option (xs_T) :=
  (xs_cpy S (a1 + 1) 0 (k + 1) 0 24).bind fun S1 =>
  (some (xs_sI S1 k 1 (xs_gI S1 a1 1))).bind fun S2 =>
  (some (xs_sI S2 k 2 (xs_gI S2 a1 2))).bind fun S3 =>
  some S3
def xf_A_add (k : Nat) (a1 : Nat) (S : xs_T) : Option (Int32 × xs_T) :=
  if (xs_gI S k 2) = 12 then
  (xs_rz 0 S)
  else
  ((xs_rdU S (k + 1) (xs_gI S k 2) xs_cF).bind fun u2 =>
  (xf_F_copy u2 a1 S).bind fun q3 =>
  (some (xs_sI q3 k 2 ((xs_gI q3 k 2) + 1))).bind fun S4 =>
  xs_rz 1 S4)
def xf_A_transmit (k : Nat) (a1 : Nat) (S : xs_T) : Option (xs_T) :=
  (xs_rdU S (k + 2) (xs_rem (xs_gI S k 3) 8) xs_cF).bind fun u1 =>
  (xf_F_copy u1 a1 S).bind fun q2 =>
  (some (xs_sI q2 k 3 ((xs_gI q2 k 3) + 1))).bind fun S3 =>
  (xf_A_add k a1 S3).bind fun q4 =>
  some q4.2
def xf_D_transmit (k : Nat) (a1 : Nat) (n2 : Int32) (S : xs_T) : Option (xs_T) :=
  (xf_A_transmit a1 (k + 14) S).bind fun q1 =>
  (some (xs_sI q1 k 13 ((xs_gI q1 k 13) + 1))).bind fun S2 =>
  (some (xs_sI S2 k 12 n2)).bind fun S3 =>
  (xs_sZ S3 k 11 1).bind fun S4 =>
  some S4
def xf_W_join (k : Nat) (n1 : Int32) (S : xs_T) : Option (Int32 × xs_T) :=
  (xf_W_isDevice n1).bind fun q1 =>
  if q1 = 0 then
  (some ((-1), S))
  else
  ((xs_rdU S (k + 44) n1 xs_cD).bind fun u3 =>
  if (xs_gI S u3 11) = 0 then
  ((xs_rdU S (k + 44) n1 xs_cD).bind fun u5 =>
  if (xs_gI S u5 7) < 65535 then
  ((xs_rdU S (k + 44) n1 xs_cD).bind fun u7 =>
  (xf_D_writeJoin u7 S).bind fun q8 =>
  (xs_rdU q8 (k + 44) n1 xs_cD).bind fun u9 =>
  (xf_D_transmit u9 (k + 1) (xs_gI q8 k 3) q8).bind fun q10 =>
  (xs_rdU q10 (k + 44) n1 xs_cD).bind fun u11 =>
  some (xs_gI q10 u11 7, q10))
  else
  (some ((-1), S)))
  else
  (some ((-1), S)))
def xf_D_isFree (k : Nat) (S : xs_T) : Option (Int32) :=
  if (xs_gI S k 6) = 2 then
  (if (xs_gI S k 11) = 0 then
  (xs_rb 1)
  else
  (xs_rb 0))
  else
  (xs_rb 0)
def xf_S_begin (k : Nat) (a1 : Nat) (n2 : Int32) (n3 : Int32) (n4 : Int32) (n5 : Int32) (S : xs_T) : Option (xs_T) :=
  (xf_F_begin a1 n2 n3 S).bind fun q1 =>
  (xf_F_append a1 (xs_gI q1 k 4) 4 q1).bind fun q2 =>
  (xf_F_append a1 n4 1 q2).bind fun q3 =>
  (xf_F_append a1 n5 2 q3).bind fun q4 =>
  some q4
def xf_S_layFirstBlock (k : Nat) (n1 : Int32) (n2 : Int32) (n3 : Int32) (n4 : Int32) (S : xs_T) : Option (xs_T) :=
  (xf_J_fill (k + 9) 0 S).bind fun q1 =>
  (xs_wr q1 (k + 9) 0 n1).bind fun S2 =>
  (xs_wr S2 (k + 9) 5 n2).bind fun S3 =>
  (xf_W_putNumber (k + 9) 6 (xs_gI S3 k 4) 4 S3).bind fun q4 =>
  (xf_W_putNumber (k + 9) 10 n3 4 q4).bind fun q5 =>
  (xs_wr q5 (k + 9) 15 n4).bind fun S6 =>
  some S6
def xf_S_stream (k : Nat) (n1 : Int32) (n2 : Int32) (S : xs_T) : Option (Int64 × xs_T) :=
  (xf_S_layFirstBlock k 1 n1 n2 1 S).bind fun q1 =>
  (xf_C_encipher (k + 7) (k + 9) 0 q1).bind fun q2 =>
  (xf_W_number (k + 9) 0 4 q2).bind fun q3 =>
  (some ((Int32.toInt64 q3) &&& 4294967295)).bind fun v4 =>
  (xf_W_number (k + 9) 4 4 q2).bind fun q5 =>
  some ((xs_lshl (Int32.toInt64 q5) 32) ||| v4, q2)
def xf_S_layRow (k : Nat) (a1 : Nat) (n2 : Int32) (n3 : Int32) (n4 : Int32) (S : xs_T) : Option (xs_T) :=
  (xf_S_layFirstBlock k 73 n3 n4 n2 S).bind fun q1 =>
  (xs_cpy q1 (a1 + 1) 0 (k + 9) 16 n2).bind fun S2 =>
  some S2
def xf_S_finish_52 (k : Nat) (a1 : Nat) (n2 : Int32) (n3 : Int32) (n4 : Int64) (n6 : Int32) (S : xs_T) : Option (xs_T) :=
  (xf_S_layRow k a1 (xs_gI S a1 1) n2 n3 S).bind fun q2 =>
  (xf_M_codeOf (k + 1) (k + 9) (16 + (xs_gI S a1 1)) q2).bind fun q3 =>
  (xf_F_append a1 q3.1 4 q3.2).bind fun q4 =>
  some q4
def xf_S_finish_25 (k : Nat) (a1 : Nat) (n2 : Int32) (n3 : Int32) (n4 : Int64) (n6 : Int32) : Nat → Int64 → Int32 → xs_T → Option (xs_T)
  | 0, _, _, _ => none
  | f + 1, i7, i9, S =>
    if n6 ≤ i9 then
    (xf_S_finish_52 k a1 n2 n3 n4 n6 S)
    else
    ((xf_F_append a1 (Int64.toInt32 (xs_lush i7 (8 * i9))) 1 S).bind fun q8 =>
    xf_S_finish_25 k a1 n2 n3 n4 n6 f i7 (i9 + 1) q8)
def xf_S_finish (k : Nat) (a1 : Nat) (n2 : Int32) (n3 : Int32) (n4 : Int64) (n6 : Int32) (S : xs_T) : Option (xs_T) :=
  if n6 ≤ 0 then
  (xf_S_finish_52 k a1 n2 n3 n4 n6 S)
  else
  ((xf_F_append a1 1 1 S).bind fun q5 =>
  (xf_S_stream k n2 n3 q5).bind fun q6 =>
  xf_S_finish_25 k a1 n2 n3 n4 n6 xs_fuel (n4 ^^^ q6.1) 0 q6.2)
def xf_D_writeData_64 (k : Nat) (n1 : Int64) (n3 : Int32) (n4 : Int32) (n5 : Int32) (S : xs_T) : Option (xs_T) :=
  (xf_S_finish (k + 1) (k + 14) 0 (xs_gI S k 9) n1 n3 S).bind fun q7 =>
  (some (xs_sI q7 k 9 ((xs_gI q7 k 9) + 1))).bind fun S8 =>
  some S8
def xf_D_writeData_43 (k : Nat) (n1 : Int64) (n3 : Int32) (n4 : Int32) (n5 : Int32) (t2 : Int32) (t3 : Int32) (t4 : Int32) (S : xs_T) : Option (xs_T) :=
  (xf_S_begin (k + 1) (k + 14) t2 t3 t4 (xs_gI S k 9) S).bind fun q5 =>
  if n5 = 0 then
  (xf_D_writeData_64 k n1 n3 n4 n5 q5)
  else
  ((xf_F_append (k + 14) 2 1 q5).bind fun q9 =>
  xf_D_writeData_64 k n1 n3 n4 n5 q9)
def xf_D_writeData_32 (k : Nat) (n1 : Int64) (n3 : Int32) (n4 : Int32) (n5 : Int32) (t2 : Int32) (S : xs_T) : Option (xs_T) :=
  if n5 = 0 then
  (xf_D_writeData_43 k n1 n3 n4 n5 t2 3 0 S)
  else
  (xf_D_writeData_43 k n1 n3 n4 n5 t2 3 1 S)
def xf_D_writeData (k : Nat) (n1 : Int64) (n3 : Int32) (n4 : Int32) (n5 : Int32) (S : xs_T) : Option (xs_T) :=
  (xs_sZ S k 14 n4).bind fun S1 =>
  (some (xs_sI S1 k 13 0)).bind fun S2 =>
  if n4 = 0 then
  (xf_D_writeData_32 k n1 n3 n4 n5 64 S2)
  else
  (xf_D_writeData_32 k n1 n3 n4 n5 128 S2)
def xf_W_send (k : Nat) (n1 : Int32) (n2 : Int64) (n4 : Int32) (n5 : Int32) (n6 : Int32) (S : xs_T) : Option (Int32 × xs_T) :=
  (xf_W_isDevice n1).bind fun q1 =>
  if q1 = 0 then
  (some ((-1), S))
  else
  ((xs_rdU S (k + 44) n1 xs_cD).bind fun u3 =>
  (xf_D_isFree u3 S).bind fun q4 =>
  if q4 = 0 then
  (some ((-1), S))
  else
  (if n4 < 0 then
  (some ((-1), S))
  else
  (if n4 ≤ 8 then
  ((xs_rdU S (k + 44) n1 xs_cD).bind fun u8 =>
  (xs_rdU S (k + 44) n1 xs_cD).bind fun u9 =>
  (xf_D_writeData u9 n2 n4 n5 n6 S).bind fun q10 =>
  (xs_rdU q10 (k + 44) n1 xs_cD).bind fun u11 =>
  (xf_D_transmit u11 (k + 1) (xs_gI q10 k 3) q10).bind fun q12 =>
  some (xs_gI S u8 9, q12))
  else
  (some ((-1), S)))))
def xf_W_skip (k : Nat) (n1 : Int32) (n2 : Int32) (S : xs_T) : Option (Int32 × xs_T) :=
  (xf_W_isDevice n1).bind fun q1 =>
  if q1 = 0 then
  (some ((-1), S))
  else
  ((xs_rdU S (k + 44) n1 xs_cD).bind fun u3 =>
  (xf_D_isFree u3 S).bind fun q4 =>
  if q4 = 0 then
  (some ((-1), S))
  else
  (if n2 < 1 then
  (some ((-1), S))
  else
  (if n2 ≤ 70000 then
  ((xs_rdU S (k + 44) n1 xs_cD).bind fun u8 =>
  (some (xs_sI S u8 9 ((xs_gI S u8 9) + n2))).bind fun S9 =>
  (xs_rdU S9 (k + 44) n1 xs_cD).bind fun u10 =>
  some (xs_gI S9 u10 9, S9))
  else
  (some ((-1), S)))))
def xf_K_enqueue (k : Nat) (n1 : Int64) (n3 : Int32) (S : xs_T) : Option (Int32 × xs_T) :=
  if (xs_gI S k 6) = 4 then
  (some ((-1), S))
  else
  ((xs_wrL S (k + 14) (xs_gI S k 6) n1).bind fun S2 =>
  (xs_wr S2 (k + 15) (xs_gI S2 k 6) n3).bind fun S3 =>
  (some (xs_sI S3 k 6 ((xs_gI S3 k 6) + 1))).bind fun S4 =>
  some (xs_gI S4 k 6, S4))
def xf_W_queue (k : Nat) (n1 : Int32) (n2 : Int64) (n4 : Int32) (S : xs_T) : Option (Int32 × xs_T) :=
  (xf_W_isDevice n1).bind fun q1 =>
  if q1 = 0 then
  (some ((-1), S))
  else
  (if n4 < 1 then
  (some ((-1), S))
  else
  (if n4 ≤ 8 then
  ((xs_rdU S (k + 120) n1 xs_cK).bind fun u5 =>
  (xf_K_enqueue u5 n2 n4 S).bind fun q6 =>
  some (q6.1, q6.2))
  else
  (some ((-1), S))))
def xf_C_unmixed (n0 : Int32) : Option (Int32) :=
  (some (n0 ^^^ ((xs_ush n0 16) ||| (n0 <<< ((16 : Int32) &&& 31) : Int32)))).bind fun v1 =>
  (xf_C_doubled v1).bind fun q2 =>
  (xf_C_doubled q2).bind fun q3 =>
  (xf_C_doubled (n0 ^^^ q3)).bind fun q4 =>
  (xf_C_mixed (n0 ^^^ q3) q4).bind fun q5 =>
  some q5
def xf_C_decipher_81 (k : Nat) (a1 : Nat) (n2 : Int32) : Nat → Int32 → Int32 → Int32 → Int32 → Int32 → xs_T → Option (xs_T)
  | 0, _, _, _, _, _, _ => none
  | f + 1, i5, i6, i7, i8, i9, S =>
    if i9 ≤ 0 then
    ((xf_C_gathered 172 i5 i8 i7 i6).bind fun q10 =>
    (xs_rd S (k + 1) 0).bind fun v11 =>
    (xf_W_putNumber a1 n2 (q10 ^^^ v11) 4 S).bind fun q12 =>
    (xf_C_gathered 172 i6 i5 i8 i7).bind fun q13 =>
    (xs_rd q12 (k + 1) 1).bind fun v14 =>
    (xf_W_putNumber a1 (n2 + 4) (q13 ^^^ v14) 4 q12).bind fun q15 =>
    (xf_C_gathered 172 i7 i6 i5 i8).bind fun q16 =>
    (xs_rd q15 (k + 1) 2).bind fun v17 =>
    (xf_W_putNumber a1 (n2 + 8) (q16 ^^^ v17) 4 q15).bind fun q18 =>
    (xf_C_gathered 172 i8 i7 i6 i5).bind fun q19 =>
    (xs_rd q18 (k + 1) 3).bind fun v20 =>
    (xf_W_putNumber a1 (n2 + 12) (q19 ^^^ v20) 4 q18).bind fun q21 =>
    some q21)
    else
    ((xf_C_gathered 172 i5 i8 i7 i6).bind fun q22 =>
    (xf_C_gathered 172 i6 i5 i8 i7).bind fun q23 =>
    (xf_C_gathered 172 i7 i6 i5 i8).bind fun q24 =>
    (xf_C_gathered 172 i8 i7 i6 i5).bind fun q25 =>
    (xs_rd S (k + 1) i9).bind fun v26 =>
    (xf_C_unmixed (q22 ^^^ v26)).bind fun q27 =>
    (xs_rd S (k + 1) (i9 + 1)).bind fun v28 =>
    (xf_C_unmixed (q23 ^^^ v28)).bind fun q29 =>
    (xs_rd S (k + 1) (i9 + 2)).bind fun v30 =>
    (xf_C_unmixed (q24 ^^^ v30)).bind fun q31 =>
    (xs_rd S (k + 1) (i9 + 3)).bind fun v32 =>
    (xf_C_unmixed (q25 ^^^ v32)).bind fun q33 =>
    xf_C_decipher_81 k a1 n2 f q27 q29 q31 q33 (i9 + (-4)) S)
def xf_C_decipher (k : Nat) (a1 : Nat) (n2 : Int32) (S : xs_T) : Option (xs_T) :=
  (xf_W_number a1 n2 4 S).bind fun q1 =>
  (xs_rd S (k + 1) 40).bind fun v2 =>
  (xf_W_number a1 (n2 + 4) 4 S).bind fun q3 =>
  (xs_rd S (k + 1) (40 + 1)).bind fun v4 =>
  (xf_W_number a1 (n2 + 8) 4 S).bind fun q5 =>
  (xs_rd S (k + 1) (40 + 2)).bind fun v6 =>
  (xf_W_number a1 (n2 + 12) 4 S).bind fun q7 =>
  (xs_rd S (k + 1) (40 + 3)).bind fun v8 =>
  xf_C_decipher_81 k a1 n2 xs_fuel (q1 ^^^ v2) (q3 ^^^ v4) (q5 ^^^ v6) (q7 ^^^ v8) (40 - 4) S
def xf_K_writeAccept (k : Nat) (a1 : Nat) (S : xs_T) : Option (xs_T) :=
  (xf_F_begin a1 32 (xs_gI S k 0) S).bind fun q1 =>
  (xf_F_append a1 (xs_gI q1 k 8) 3 q1).bind fun q2 =>
  (xf_F_append a1 19 3 q2).bind fun q3 =>
  (xf_F_append a1 (xs_gI q3 (k + 1) 4) 4 q3).bind fun q4 =>
  (xf_F_append a1 0 1 q4).bind fun q5 =>
  (xf_F_append a1 1 1 q5).bind fun q6 =>
  (xf_M_codeOf (xs_rt k) (a1 + 1) (xs_gI q6 a1 1) q6).bind fun q7 =>
  (xf_F_append a1 q7.1 4 q7.2).bind fun q8 =>
  (xf_C_decipher ((xs_rt k) + 1) (a1 + 1) 1 q8).bind fun q9 =>
  some q9
def xf_N_bitCount (n0 : Int32) : Option (Int32) :=
  (some (n0 - ((xs_ush n0 1) &&& 1431655765))).bind fun v1 =>
  (some ((v1 &&& 858993459) + ((xs_ush v1 2) &&& 858993459))).bind fun v2 =>
  (some ((v2 + (xs_ush v2 4)) &&& 252645135)).bind fun v3 =>
  (some (v3 + (xs_ush v3 8))).bind fun v4 =>
  (some (v4 + (xs_ush v4 16))).bind fun v5 =>
  some (v5 &&& 63)
def xf_K_dequeue_20 (k : Nat) : Nat → Int32 → xs_T → Option (xs_T)
  | 0, _, _ => none
  | f + 1, i1, S =>
    if (xs_gI S k 6) ≤ i1 then
    (some S)
    else
    ((xs_rdL S (k + 14) (i1 + 1)).bind fun v4 =>
    (xs_wrL S (k + 14) i1 v4).bind fun S5 =>
    (xs_rd S5 (k + 15) (i1 + 1)).bind fun v6 =>
    (xs_wr S5 (k + 15) i1 v6).bind fun S7 =>
    xf_K_dequeue_20 k f (i1 + 1) S7)
def xf_K_dequeue (k : Nat) (S : xs_T) : Option (xs_T) :=
  if (xs_gI S k 6) = 0 then
  (some S)
  else
  ((some (xs_sI S k 6 ((xs_gI S k 6) - 1))).bind fun S2 =>
  xf_K_dequeue_20 k xs_fuel 0 S2)
def xf_K_writeAnswer_126 (k : Nat) (a1 : Nat) (t2 : Int32) (t3 : Int32) (t4 : Int64) (t5 : Int32) (S : xs_T) : Option (xs_T) :=
  (xf_S_finish (k + 1) a1 t2 t3 t4 t5 S).bind fun q8 =>
  (some (xs_sI q8 k 11 ((xs_gI q8 k 11) + 1))).bind fun S9 =>
  (xf_K_dequeue k S9).bind fun q10 =>
  some q10
def xf_K_writeAnswer_93 (k : Nat) (a1 : Nat) (S : xs_T) : Option (xs_T) :=
  (xs_rdL S (k + 14) 0).bind fun v6 =>
  if (xs_gI S k 6) ≤ 0 then
  (xf_K_writeAnswer_126 k a1 1 (xs_gI S k 11) v6 0 S)
  else
  ((xs_rd S (k + 15) 0).bind fun v11 =>
  xf_K_writeAnswer_126 k a1 1 (xs_gI S k 11) v6 v11 S)
def xf_K_writeAnswer_40 (k : Nat) (a1 : Nat) (t0 : Int32) (t1 : Int32) (S : xs_T) : Option (xs_T) :=
  (xf_S_begin (k + 1) a1 96 (xs_gI S k 0) (t0 + t1) (xs_gI S k 11) S).bind fun q4 =>
  if (xs_gI q4 k 15) = 0 then
  (xf_K_writeAnswer_93 k a1 q4)
  else
  ((xf_F_append a1 2 1 q4).bind fun q12 =>
  (xf_F_append a1 10 1 q12).bind fun q13 =>
  (xf_N_bitCount (xs_gI q13 k 12)).bind fun q14 =>
  (xf_F_append a1 q14 1 q13).bind fun q15 =>
  xf_K_writeAnswer_93 k a1 q15)
def xf_K_writeAnswer_27 (k : Nat) (a1 : Nat) (t0 : Int32) (t1 : Int32) (S : xs_T) : Option (xs_T) :=
  if (xs_gI S k 15) = 0 then
  (xf_K_writeAnswer_40 k a1 (t0 + t1) 0 S)
  else
  (xf_K_writeAnswer_40 k a1 (t0 + t1) 3 S)
def xf_K_writeAnswer_13 (k : Nat) (a1 : Nat) (t0 : Int32) (S : xs_T) : Option (xs_T) :=
  if (xs_gI S k 6) ≤ 1 then
  (xf_K_writeAnswer_27 k a1 t0 0 S)
  else
  (xf_K_writeAnswer_27 k a1 t0 16 S)
def xf_K_writeAnswer (k : Nat) (a1 : Nat) (S : xs_T) : Option (xs_T) :=
  if (xs_gI S k 14) = 0 then
  (xf_K_writeAnswer_13 k a1 0 S)
  else
  (xf_K_writeAnswer_13 k a1 32 S)
def xf_K_setDue (k : Nat) (n1 : Int32) (n2 : Int32) (n3 : Int32) (S : xs_T) : Option (xs_T) :=
  (some (xs_sI S k 13 n1)).bind fun S1 =>
  (xs_sZ S1 k 14 n2).bind fun S2 =>
  (xs_sZ S2 k 15 n3).bind fun S3 =>
  some S3
def xf_V_sendWhatIsDue_65 (k : Nat) (a1 : Nat) (c2 : Int32 → xs_T → Option (xs_T)) (i2 : Int32) (i3 : Nat) (S : xs_T) : Option (xs_T) :=
  (xf_K_setDue i3 0 0 0 S).bind fun q5 =>
  c2 (i2 + 1) q5
def xf_V_sendWhatIsDue_2 (k : Nat) (a1 : Nat) : Nat → Int32 → xs_T → Option (xs_T)
  | 0, _, _ => none
  | f + 1, i2, S =>
    if 3 ≤ i2 then
    (some S)
    else
    ((xs_rdU S (k + 1) i2 xs_cK).bind fun u2 =>
    if (xs_gI S u2 13) = 1 then
    ((xf_K_writeAccept u2 (k + 2) S).bind fun q8 =>
    (xf_A_transmit a1 (k + 2) q8).bind fun q9 =>
    xf_V_sendWhatIsDue_65 k a1 (xf_V_sendWhatIsDue_2 k a1 f) i2 u2 q9)
    else
    (if (xs_gI S u2 13) = 2 then
    ((xf_K_writeAnswer u2 (k + 2) S).bind fun q6 =>
    (xf_A_transmit a1 (k + 2) q6).bind fun q7 =>
    xf_V_sendWhatIsDue_65 k a1 (xf_V_sendWhatIsDue_2 k a1 f) i2 u2 q7)
    else
    (xf_V_sendWhatIsDue_65 k a1 (xf_V_sendWhatIsDue_2 k a1 f) i2 u2 S)))
def xf_V_sendWhatIsDue (k : Nat) (a1 : Nat) (S : xs_T) : Option (xs_T) :=
  xf_V_sendWhatIsDue_2 k a1 xs_fuel 0 S
def xf_D_endWaiting_72 (k : Nat) (a1 : Nat) (n2 : Int32) (S : xs_T) : Option (xs_T) :=
  if (xs_gI S k 14) = 0 then
  (some S)
  else
  ((xf_D_transmit k a1 n2 S).bind fun q7 =>
  some q7)
def xf_D_endWaiting (k : Nat) (a1 : Nat) (n2 : Int32) (S : xs_T) : Option (xs_T) :=
  if (xs_gI S k 11) = 0 then
  (some S)
  else
  (if ((xs_gI S k 12) + 3) ≤ n2 then
  ((xs_sZ S k 11 0).bind fun S3 =>
  if (xs_gI S3 k 6) = 1 then
  ((some (xs_sI S3 k 6 0)).bind fun S11 =>
  some S11)
  else
  (if (xs_gI S3 k 14) = 0 then
  (xf_D_endWaiting_72 k a1 n2 S3)
  else
  (if (xs_gI S3 k 13) < 4 then
  (xf_D_endWaiting_72 k a1 n2 S3)
  else
  ((some (xs_sI S3 k 6 0)).bind fun S9 =>
  (some (xs_sI S9 k 16 ((xs_gI S9 k 16) + 1))).bind fun S10 =>
  some S10))))
  else
  (some S))
def xf_W_tick_43 (k : Nat) (n1 : Int32) (c15 : Int32 → xs_T → Option (Int32 × xs_T)) : Nat → Int32 → Int32 → xs_T → Option (Int32 × xs_T)
  | 0, _, _, _ => none
  | f + 1, i2, i3, S =>
    if 3 ≤ i3 then
    (c15 (i2 + 1) S)
    else
    ((xs_rdU S (k + 44) i3 xs_cD).bind fun u7 =>
    (xf_D_endWaiting u7 (k + 1) (xs_gI S k 3) S).bind fun q8 =>
    xf_W_tick_43 k n1 c15 f i2 (i3 + 1) q8)
def xf_W_tick_15 (k : Nat) (n1 : Int32) : Nat → Int32 → xs_T → Option (Int32 × xs_T)
  | 0, _, _ => none
  | f + 1, i2, S =>
    if n1 ≤ i2 then
    (some (xs_gI S k 3, S))
    else
    ((some (xs_sI S k 3 ((xs_gI S k 3) + 1))).bind fun S4 =>
    (xf_V_sendWhatIsDue (k + 119) (k + 1) S4).bind fun q5 =>
    xf_W_tick_43 k n1 (xf_W_tick_15 k n1 f) xs_fuel i2 0 q5)
def xf_W_tick (k : Nat) (n1 : Int32) (S : xs_T) : Option (Int32 × xs_T) :=
  if n1 < 1 then
  (some ((-1), S))
  else
  (if n1 ≤ 50 then
  (xf_W_tick_15 k n1 xs_fuel 0 S)
  else
  (some ((-1), S)))
def xf_A_holds (k : Nat) (n1 : Int32) (S : xs_T) : Option (Int32) :=
  if n1 < 0 then
  (xs_rb 0)
  else
  (if (xs_gI S k 2) ≤ n1 then
  (xs_rb 0)
  else
  (xs_rb 1))
def xf_F_hasJoinForm_56 (k : Nat) (S : xs_T) (c33 : Int32 → Option (Int32)) (i1 : Int32) : Option (Int32) :=
  c33 (i1 + 1)
def xf_F_hasJoinForm_33 (k : Nat) (S : xs_T) : Nat → Int32 → Option (Int32)
  | 0, _ => none
  | f + 1, i1 =>
    if 17 ≤ i1 then
    (xs_rb 1)
    else
    (if i1 = 9 then
    (xf_F_hasJoinForm_56 k S (xf_F_hasJoinForm_33 k S f) i1)
    else
    ((xs_rd S (k + 1) i1).bind fun v8 =>
    if v8 = 0 then
    (xf_F_hasJoinForm_56 k S (xf_F_hasJoinForm_33 k S f) i1)
    else
    (xs_rb 0)))
def xf_F_hasJoinForm (k : Nat) (S : xs_T) : Option (Int32) :=
  if (xs_gI S k 1) = 23 then
  ((xs_rd S (k + 1) 0).bind fun v2 =>
  if v2 = 0 then
  ((xs_rd S (k + 1) 9).bind fun v4 =>
  if v4 < 3 then
  (xf_F_hasJoinForm_33 k S xs_fuel 1)
  else
  (xs_rb 0))
  else
  (xs_rb 0))
  else
  (xs_rb 0)
def xf_S_deriveKey (k : Nat) (a1 : Nat) (n2 : Int32) (n3 : Int32) (n4 : Int32) (S : xs_T) : Option (xs_T) :=
  (xf_J_fill (k + 10) 0 S).bind fun q1 =>
  (xs_wr q1 (k + 10) 0 n2).bind fun S2 =>
  (xf_W_putNumber (k + 10) 1 n3 3 S2).bind fun q3 =>
  (xs_wr q3 (k + 10) 4 19).bind fun S4 =>
  (xf_W_putNumber (k + 10) 7 n4 2 S4).bind fun q5 =>
  (xf_C_encipher a1 (k + 10) 0 q5).bind fun q6 =>
  some q6
def xf_S_open (k : Nat) (a1 : Nat) (n2 : Int32) (n3 : Int32) (n4 : Int32) (S : xs_T) : Option (xs_T) :=
  (some (xs_sI S k 4 n3)).bind fun S1 =>
  (xf_S_deriveKey k a1 1 n2 n4 S1).bind fun q2 =>
  (xf_M_takeKey (k + 1) (k + 10) q2).bind fun q3 =>
  (xf_S_deriveKey k a1 2 n2 n4 q3).bind fun q4 =>
  (xf_C_takeKey (k + 7) (k + 10) q4).bind fun q5 =>
  some q5
def xf_K_openSession (k : Nat) (n1 : Int32) (n2 : Int32) (S : xs_T) : Option (xs_T) :=
  (some (xs_sI S k 9 n2)).bind fun S1 =>
  (some (xs_sI S1 k 8 n1)).bind fun S2 =>
  (some (xs_sI S2 k 7 ((xs_gI S2 k 7) + 1))).bind fun S3 =>
  (some ((((xs_gI S3 k 0) + 1) ||| (((xs_gI S3 k 7) &&& 255) <<< ((8 : Int32) &&& 31) : Int32)) ||| 637534208)).bind fun v4 =>
  (xf_S_open (k + 1) ((xs_rt k) + 1) (xs_gI S3 k 8) v4 n2 S3).bind fun q5 =>
  (some (xs_sI q5 k 10 (-1))).bind fun S6 =>
  (some (xs_sI S6 k 11 0)).bind fun S7 =>
  (xf_K_setDue k 1 0 0 S7).bind fun q8 =>
  some q8
def xf_V_takeJoin (k : Nat) (a1 : Nat) (S : xs_T) : Option (xs_T) :=
  (xs_rd S (a1 + 1) 9).bind fun v1 =>
  (xs_rdU S (k + 1) v1 xs_cK).bind fun u2 =>
  (xf_W_number (a1 + 1) 17 2 S).bind fun q3 =>
  (xf_W_number (a1 + 1) 19 4 S).bind fun q4 =>
  if q3 ≤ (xs_gI S u2 9) then
  (some S)
  else
  ((xf_M_codeOf (xs_rt u2) (a1 + 1) 19 S).bind fun q6 =>
  if q6.1 = q4 then
  ((some (xs_sI q6.2 k 2 ((xs_gI q6.2 k 2) + 1))).bind fun S8 =>
  (xf_K_openSession u2 (xs_gI S8 k 2) q3 S8).bind fun q9 =>
  some q9)
  else
  (some q6.2))
def xf_F_control (k : Nat) (S : xs_T) : Option (Int32) :=
  (xs_rd S (k + 1) 5).bind fun v1 =>
  some v1
def xf_F_optionCount (k : Nat) (S : xs_T) : Option (Int32) :=
  (xf_F_control k S).bind fun q1 =>
  some (q1 &&& 15)
def xf_F_hasDataForm_28 (k : Nat) (S : xs_T) : Option (Int32) :=
  (xf_F_optionCount k S).bind fun q3 =>
  (some (((xs_gI S k 1) - 12) - q3)).bind fun v4 =>
  if v4 = 0 then
  (xs_rb 1)
  else
  (if v4 < 2 then
  (xs_rb 0)
  else
  (if 9 < v4 then
  (xs_rb 0)
  else
  (xs_rb 1)))
def xf_F_hasDataForm (k : Nat) (S : xs_T) : Option (Int32) :=
  (xs_rd S (k + 1) 0).bind fun v1 =>
  if v1 = 64 then
  (xf_F_hasDataForm_28 k S)
  else
  (if v1 = 128 then
  (xf_F_hasDataForm_28 k S)
  else
  (if v1 = 96 then
  (xf_F_hasDataForm_28 k S)
  else
  (xs_rb 0)))
def xf_F_address (k : Nat) (S : xs_T) : Option (Int32) :=
  (xf_W_number (k + 1) 1 4 S).bind fun q1 =>
  some q1
def xf_F_countEnd (k : Nat) (S : xs_T) : Option (Int32) :=
  (xf_W_number (k + 1) 6 2 S).bind fun q1 =>
  some q1
def xf_W_countFrom (n0 : Int32) (n1 : Int32) : Option (Int32) :=
  some (n0 + ((n1 - n0) &&& 65535))
def xf_S_isCodeRight (k : Nat) (a1 : Nat) (n2 : Int32) (n3 : Int32) (S : xs_T) : Option (Int32 × xs_T) :=
  (some ((xs_gI S a1 1) - 4)).bind fun v1 =>
  (xf_S_layRow k a1 v1 n2 n3 S).bind fun q2 =>
  (xf_M_codeOf (k + 1) (k + 9) (16 + v1) q2).bind fun q3 =>
  (xf_W_number (a1 + 1) v1 4 q3.2).bind fun q4 =>
  if q3.1 = q4 then
  (xs_rz 1 q3.2)
  else
  (xs_rz 0 q3.2)
def xf_F_payloadStart (k : Nat) (S : xs_T) : Option (Int32) :=
  (xf_F_optionCount k S).bind fun q1 =>
  some (9 + q1)
def xf_F_payloadBytes (k : Nat) (S : xs_T) : Option (Int32) :=
  (xf_F_payloadStart k S).bind fun q1 =>
  some (xs_max 0 (((xs_gI S k 1) - 4) - q1))
def xf_W_lowest (n0 : Int64) (n2 : Int32) : Option (Int64) :=
  some (n0 &&& (xs_lush (-1) (64 - (8 * n2))))
def xf_S_readPayload_18 (k : Nat) (a1 : Nat) (n2 : Int32) (n3 : Int32) : Nat → Int32 → Int32 → Int64 → Int32 → xs_T → Option (Int64 × xs_T)
  | 0, _, _, _, _, _ => none
  | f + 1, i4, i5, i6, i8, S =>
    if i4 ≤ i8 then
    ((xf_S_stream k n2 n3 S).bind fun q4 =>
    (xf_W_lowest (i6 ^^^ q4.1) i4).bind fun q5 =>
    some (q5, q4.2))
    else
    ((xs_rd S (a1 + 1) (i5 + i8)).bind fun v6 =>
    (some (i6 ||| (xs_lshl (Int32.toInt64 v6) (8 * i8)))).bind fun v7 =>
    xf_S_readPayload_18 k a1 n2 n3 f i4 i5 v7 (i8 + 1) S)
def xf_S_readPayload (k : Nat) (a1 : Nat) (n2 : Int32) (n3 : Int32) (S : xs_T) : Option (Int64 × xs_T) :=
  (xf_F_payloadBytes a1 S).bind fun q1 =>
  (xf_F_payloadStart a1 S).bind fun q2 =>
  xf_S_readPayload_18 k a1 n2 n3 xs_fuel q1 q2 0 0 S
def xf_I_add (k : Nat) (n1 : Int64) (S : xs_T) : Option (xs_T) :=
  (xs_wrL S (k + 1) (xs_rem (xs_gI S k 1) 4) n1).bind fun S1 =>
  (some (xs_sI S1 k 1 ((xs_gI S1 k 1) + 1))).bind fun S2 =>
  some S2
def xf_F_option (k : Nat) (n1 : Int32) (S : xs_T) : Option (Int32) :=
  (xs_rd S (k + 1) (8 + n1)).bind fun v1 =>
  some v1
def xf_K_takeData_180 (k : Nat) (a1 : Nat) (n2 : Int32) (i4 : Int32) (i5 : Int32) (t1 : Int32) (S : xs_T) : Option (xs_T) :=
  (xf_K_setDue k t1 i4 i5 S).bind fun q16 =>
  some q16
def xf_K_takeData_167 (k : Nat) (a1 : Nat) (n2 : Int32) (i4 : Int32) (i5 : Int32) (t0 : Int32) (S : xs_T) : Option (xs_T) :=
  if t0 = 0 then
  (xf_K_takeData_180 k a1 n2 i4 i5 0 S)
  else
  (xf_K_takeData_180 k a1 n2 i4 i5 2 S)
def xf_K_takeData_162 (k : Nat) (a1 : Nat) (n2 : Int32) (i4 : Int32) (i5 : Int32) (S : xs_T) : Option (xs_T) :=
  xf_K_takeData_167 k a1 n2 i4 i5 1 S
def xf_K_takeData_143 (k : Nat) (a1 : Nat) (n2 : Int32) (i4 : Int32) (t0 : Int32) (S : xs_T) : Option (xs_T) :=
  if i4 = 0 then
  (if t0 = 0 then
  (if (xs_gI S k 6) ≤ 0 then
  (xf_K_takeData_167 k a1 n2 i4 t0 0 S)
  else
  (xf_K_takeData_162 k a1 n2 i4 t0 S))
  else
  (xf_K_takeData_162 k a1 n2 i4 t0 S))
  else
  (xf_K_takeData_162 k a1 n2 i4 t0 S)
def xf_K_takeData_142 (k : Nat) (a1 : Nat) (n2 : Int32) (i4 : Int32) (S : xs_T) : Option (xs_T) :=
  xf_K_takeData_143 k a1 n2 i4 0 S
def xf_K_takeData_121 (k : Nat) (a1 : Nat) (n2 : Int32) (i4 : Int32) (S : xs_T) : Option (xs_T) :=
  (xf_F_optionCount a1 S).bind fun q12 =>
  if q12 = 1 then
  ((xf_F_option a1 0 S).bind fun q19 =>
  if q19 = 2 then
  (xf_K_takeData_143 k a1 n2 i4 1 S)
  else
  (xf_K_takeData_142 k a1 n2 i4 S))
  else
  (xf_K_takeData_142 k a1 n2 i4 S)
def xf_K_takeData_47 (k : Nat) (a1 : Nat) (n2 : Int32) (i3 : Int32) (t0 : Int32) (S : xs_T) : Option (xs_T) :=
  if i3 = (xs_gI S k 10) then
  ((some (xs_sI S k 12 ((xs_gI S k 12) ||| (1 <<< ((n2 : Int32) &&& 31) : Int32)))).bind fun S23 =>
  if t0 = 0 then
  (some S23)
  else
  ((xf_K_setDue k 2 1 (xs_gI S23 k 15) S23).bind fun q25 =>
  some q25))
  else
  ((some (xs_sI S k 10 i3)).bind fun S8 =>
  (some (xs_sI S8 k 12 (1 <<< ((n2 : Int32) &&& 31) : Int32))).bind fun S9 =>
  (xf_F_payloadBytes a1 S9).bind fun q10 =>
  if q10 ≤ 0 then
  (xf_K_takeData_121 k a1 n2 t0 S9)
  else
  ((xf_S_readPayload (k + 1) a1 0 i3 S9).bind fun q21 =>
  (xf_I_add (k + 12) q21.1 q21.2).bind fun q22 =>
  xf_K_takeData_121 k a1 n2 t0 q22))
def xf_K_takeData (k : Nat) (a1 : Nat) (n2 : Int32) (S : xs_T) : Option (xs_T) :=
  (xf_F_countEnd a1 S).bind fun q1 =>
  (xf_W_countFrom (xs_max (xs_gI S k 10) 0) q1).bind fun q2 =>
  (xf_S_isCodeRight (k + 1) a1 0 q2 S).bind fun q3 =>
  if q3.1 = 0 then
  (some q3.2)
  else
  ((xs_rd q3.2 (a1 + 1) 0).bind fun v5 =>
  if v5 = 128 then
  (xf_K_takeData_47 k a1 n2 q2 1 q3.2)
  else
  (xf_K_takeData_47 k a1 n2 q2 0 q3.2))
def xf_V_takeData_49 (k : Nat) (a1 : Nat) (n2 : Int32) (c2 : Int32 → xs_T → Option (xs_T)) (i3 : Int32) (S : xs_T) : Option (xs_T) :=
  c2 (i3 + 1) S
def xf_V_takeData_2 (k : Nat) (a1 : Nat) (n2 : Int32) : Nat → Int32 → xs_T → Option (xs_T)
  | 0, _, _ => none
  | f + 1, i3, S =>
    if 3 ≤ i3 then
    (some S)
    else
    ((xs_rdU S (k + 1) i3 xs_cK).bind fun u2 =>
    if (xs_gI S u2 7) ≤ 0 then
    (xf_V_takeData_49 k a1 n2 (xf_V_takeData_2 k a1 n2 f) i3 S)
    else
    ((xs_rdU S (k + 1) i3 xs_cK).bind fun u4 =>
    (xf_F_address a1 S).bind fun q5 =>
    if (xs_gI S (u4 + 1) 4) = q5 then
    ((xs_rdU S (k + 1) i3 xs_cK).bind fun u7 =>
    (xf_K_takeData u7 a1 n2 S).bind fun q8 =>
    xf_V_takeData_49 k a1 n2 (xf_V_takeData_2 k a1 n2 f) i3 q8)
    else
    (xf_V_takeData_49 k a1 n2 (xf_V_takeData_2 k a1 n2 f) i3 S)))
def xf_V_takeData (k : Nat) (a1 : Nat) (n2 : Int32) (S : xs_T) : Option (xs_T) :=
  xf_V_takeData_2 k a1 n2 xs_fuel 0 S
def xf_W_hear (k : Nat) (n1 : Int32) (n2 : Int32) (S : xs_T) : Option (Int32 × xs_T) :=
  (xf_A_holds (k + 1) n1 S).bind fun q1 =>
  if q1 = 0 then
  (xs_rz 0 S)
  else
  (if n2 < 0 then
  (xs_rz 0 S)
  else
  (if n2 < 2 then
  ((xs_rdU S (k + 2) n1 xs_cF).bind fun u5 =>
  if (xs_gI S u5 2) = 3 then
  ((xf_F_hasJoinForm u5 S).bind fun q7 =>
  if q7 = 0 then
  ((xf_F_hasDataForm u5 S).bind fun q9 =>
  if q9 = 0 then
  (xs_rz 1 S)
  else
  ((xs_rd S (u5 + 1) 0).bind fun v11 =>
  if v11 = 96 then
  (xs_rz 1 S)
  else
  ((xf_V_takeData (k + 119) u5 n2 S).bind fun q13 =>
  xs_rz 1 q13)))
  else
  ((xf_V_takeJoin (k + 119) u5 S).bind fun q14 =>
  xs_rz 1 q14))
  else
  (xs_rz 0 S))
  else
  (xs_rz 0 S)))
def xf_A_takeOut_19 (k : Nat) (n1 : Int32) : Nat → Nat → Int32 → xs_T → Option (Nat × xs_T)
  | 0, _, _, _ => none
  | f + 1, i2, i3, S =>
    if (xs_gI S k 2) ≤ i3 then
    ((xs_wrU S (k + 1) (xs_gI S k 2) i2).bind fun S4 =>
    some (i2, S4))
    else
    ((xs_rdU S (k + 1) (i3 + 1) xs_cF).bind fun u5 =>
    (xs_wrU S (k + 1) i3 u5).bind fun S6 =>
    xf_A_takeOut_19 k n1 f i2 (i3 + 1) S6)
def xf_A_takeOut (k : Nat) (n1 : Int32) (S : xs_T) : Option (Nat × xs_T) :=
  (xs_rdU S (k + 1) n1 xs_cF).bind fun u1 =>
  (some (xs_sI S k 2 ((xs_gI S k 2) - 1))).bind fun S2 =>
  xf_A_takeOut_19 k n1 xs_fuel u1 n1 S2
def xf_F_hasAcceptForm (k : Nat) (S : xs_T) : Option (Int32) :=
  if (xs_gI S k 1) = 17 then
  ((xs_rd S (k + 1) 0).bind fun v2 =>
  if v2 = 32 then
  (xs_rb 1)
  else
  (xs_rb 0))
  else
  (xs_rb 0)
def xf_D_takeAccept (k : Nat) (a1 : Nat) (S : xs_T) : Option (xs_T) :=
  (xf_F_copy (k + 16) a1 S).bind fun q1 =>
  (xf_C_encipher ((k - 6) + 1) (k + 17) 1 q1).bind fun q2 =>
  (xf_W_number (k + 17) 1 3 q2).bind fun q3 =>
  if q3 ≤ (xs_gI q2 k 8) then
  (some q2)
  else
  ((xf_M_codeOf (k - 6) (k + 17) 13 q2).bind fun q5 =>
  (xf_W_number (k + 17) 13 4 q5.2).bind fun q6 =>
  if q5.1 = q6 then
  ((some (xs_sI q5.2 k 8 q3)).bind fun S8 =>
  (xf_W_number (k + 17) 7 4 S8).bind fun q9 =>
  (xf_S_open (k + 1) ((k - 6) + 1) q3 q9 (xs_gI S8 k 7) S8).bind fun q10 =>
  (some (xs_sI q10 k 9 0)).bind fun S11 =>
  (some (xs_sI S11 k 10 (-1))).bind fun S12 =>
  (some (xs_sI S12 k 6 2)).bind fun S13 =>
  (xs_sZ S13 k 11 0).bind fun S14 =>
  some S14)
  else
  (some q5.2))
def xf_D_takeData_134 (k : Nat) (a1 : Nat) (i3 : Int32) (S : xs_T) : Option (xs_T) :=
  if (xs_gI S k 14) = 0 then
  ((xs_sZ S k 11 0).bind fun S16 =>
  some S16)
  else
  (if i3 = 0 then
  ((xs_sZ S k 11 1).bind fun S19 =>
  some S19)
  else
  ((xs_sZ S k 11 0).bind fun S18 =>
  some S18))
def xf_D_takeData_112 (k : Nat) (a1 : Nat) (t0 : Int32) (S : xs_T) : Option (xs_T) :=
  if (xs_gI S k 14) = 0 then
  (xf_D_takeData_134 k a1 t0 S)
  else
  (if t0 = 0 then
  (xf_D_takeData_134 k a1 t0 S)
  else
  ((some (xs_sI S k 15 ((xs_gI S k 15) + 1))).bind fun S21 =>
  xf_D_takeData_134 k a1 t0 S21))
def xf_D_takeData_97 (k : Nat) (a1 : Nat) (S : xs_T) : Option (xs_T) :=
  (xf_F_control a1 S).bind fun q12 =>
  if (q12 &&& 32) = 0 then
  (xf_D_takeData_112 k a1 0 S)
  else
  (xf_D_takeData_112 k a1 1 S)
def xf_D_takeData_71 (k : Nat) (a1 : Nat) (S : xs_T) : Option (xs_T) :=
  (xf_F_optionCount a1 S).bind fun q10 =>
  if q10 = 3 then
  ((xf_F_option a1 0 S).bind fun q22 =>
  if q22 = 2 then
  ((xf_F_option a1 2 S).bind fun q24 =>
  (some (xs_sI S k 17 q24)).bind fun S25 =>
  xf_D_takeData_97 k a1 S25)
  else
  (xf_D_takeData_97 k a1 S))
  else
  (xf_D_takeData_97 k a1 S)
def xf_D_takeData (k : Nat) (a1 : Nat) (S : xs_T) : Option (xs_T) :=
  (xf_F_countEnd a1 S).bind fun q1 =>
  (xf_W_countFrom ((xs_gI S k 10) + 1) q1).bind fun q2 =>
  (xf_F_address a1 S).bind fun q3 =>
  if q3 = (xs_gI S (k + 1) 4) then
  ((xf_S_isCodeRight (k + 1) a1 1 q2 S).bind fun q5 =>
  if q5.1 = 0 then
  (some q5.2)
  else
  ((some (xs_sI q5.2 k 10 q2)).bind fun S7 =>
  (xf_F_payloadBytes a1 S7).bind fun q8 =>
  if q8 ≤ 0 then
  (xf_D_takeData_71 k a1 S7)
  else
  ((xf_S_readPayload (k + 1) a1 1 q2 S7).bind fun q26 =>
  (xf_I_add (k + 12) q26.1 q26.2).bind fun q27 =>
  xf_D_takeData_71 k a1 q27)))
  else
  (some S)
def xf_D_take_49 (k : Nat) (a1 : Nat) (n2 : Int32) (S : xs_T) : Option (xs_T) :=
  if (xs_gI S k 6) = 2 then
  ((xf_F_hasDataForm a1 S).bind fun q6 =>
  if q6 = 0 then
  (some S)
  else
  ((xs_rd S (a1 + 1) 0).bind fun v8 =>
  if v8 = 96 then
  ((xf_D_takeData k a1 S).bind fun q10 =>
  some q10)
  else
  (some S)))
  else
  (some S)
def xf_D_take (k : Nat) (a1 : Nat) (n2 : Int32) (S : xs_T) : Option (xs_T) :=
  if (xs_gI S k 11) = 0 then
  (some S)
  else
  (if n2 ≤ (xs_gI S k 12) then
  (some S)
  else
  (if n2 < ((xs_gI S k 12) + 3) then
  (if (xs_gI S k 6) = 1 then
  ((xf_F_hasAcceptForm a1 S).bind fun q11 =>
  if q11 = 0 then
  (xf_D_take_49 k a1 n2 S)
  else
  ((xf_D_takeAccept k a1 S).bind fun q13 =>
  some q13))
  else
  (xf_D_take_49 k a1 n2 S))
  else
  (some S)))
def xf_W_reach (k : Nat) (n1 : Int32) (S : xs_T) : Option (Int32 × xs_T) :=
  (xf_A_holds (k + 1) n1 S).bind fun q1 =>
  if q1 = 0 then
  (xs_rz 0 S)
  else
  ((xs_rdU S (k + 2) n1 xs_cF).bind fun u3 =>
  if (xs_gI S u3 2) = 3 then
  (xs_rz 0 S)
  else
  ((xf_A_takeOut (k + 1) n1 S).bind fun q5 =>
  (xs_ckU q5.1 xs_cF).bind fun u6 =>
  (xs_rdU q5.2 (k + 44) (xs_gI q5.2 u6 2) xs_cD).bind fun u7 =>
  (xf_D_take u7 u6 (xs_gI q5.2 k 3) q5.2).bind fun q8 =>
  xs_rz 1 q8))
def xf_W_lose (k : Nat) (n1 : Int32) (S : xs_T) : Option (Int32 × xs_T) :=
  (xf_A_holds (k + 1) n1 S).bind fun q1 =>
  if q1 = 0 then
  (xs_rz 0 S)
  else
  ((xf_A_takeOut (k + 1) n1 S).bind fun q3 =>
  (xs_ckU q3.1 xs_cF).bind fun u4 =>
  xs_rz 1 q3.2)
def xf_A_repeat (k : Nat) (n1 : Int32) (S : xs_T) : Option (Int32 × xs_T) :=
  if n1 < 0 then
  (xs_rz 0 S)
  else
  (if n1 < (xs_min (xs_gI S k 3) 8) then
  ((xs_rdU S (k + 2) (xs_rem (((xs_gI S k 3) - 1) - n1) 8) xs_cF).bind fun u3 =>
  (xf_A_add k u3 S).bind fun q4 =>
  xs_rz q4.1 q4.2)
  else
  (xs_rz 0 S))
def xf_W_replay (k : Nat) (n1 : Int32) (S : xs_T) : Option (Int32 × xs_T) :=
  (xf_A_repeat (k + 1) n1 S).bind fun q1 =>
  xs_rz q1.1 q1.2
def xf_F_holds (k : Nat) (n1 : Int32) (S : xs_T) : Option (Int32) :=
  if n1 < 0 then
  (xs_rb 0)
  else
  (if (xs_gI S k 1) ≤ n1 then
  (xs_rb 0)
  else
  (xs_rb 1))
def xf_W_spoil (k : Nat) (n1 : Int32) (n2 : Int32) (n3 : Int32) (S : xs_T) : Option (Int32 × xs_T) :=
  (xf_A_holds (k + 1) n1 S).bind fun q1 =>
  if q1 = 0 then
  (xs_rz 0 S)
  else
  ((xs_rdU S (k + 2) n1 xs_cF).bind fun u3 =>
  (xf_F_holds u3 n2 S).bind fun q4 =>
  if q4 = 0 then
  (xs_rz 0 S)
  else
  (if n3 < 1 then
  (xs_rz 0 S)
  else
  (if n3 ≤ 255 then
  ((xs_rdU S (k + 2) n1 xs_cF).bind fun u8 =>
  (xs_rd S (u8 + 1) n2).bind fun v9 =>
  (xs_wr S (u8 + 1) n2 (v9 ^^^ n3)).bind fun S10 =>
  xs_rz 1 S10)
  else
  (xs_rz 0 S))))
def xf_W_frames (k : Nat) (S : xs_T) : Option (Int32) :=
  some (xs_gI S (k + 1) 2)
def xf_W_length (k : Nat) (n1 : Int32) (S : xs_T) : Option (Int32) :=
  (xf_A_holds (k + 1) n1 S).bind fun q1 =>
  if q1 = 0 then
  (some (-1))
  else
  ((xs_rdU S (k + 2) n1 xs_cF).bind fun u3 =>
  some (xs_gI S u3 1))
def xf_W_octet (k : Nat) (n1 : Int32) (n2 : Int32) (S : xs_T) : Option (Int32) :=
  (xf_A_holds (k + 1) n1 S).bind fun q1 =>
  if q1 = 0 then
  (some (-1))
  else
  ((xs_rdU S (k + 2) n1 xs_cF).bind fun u3 =>
  (xf_F_holds u3 n2 S).bind fun q4 =>
  if q4 = 0 then
  (some (-1))
  else
  ((xs_rdU S (k + 2) n1 xs_cF).bind fun u6 =>
  (xs_rd S (u6 + 1) n2).bind fun v7 =>
  some v7))
def xf_W_goal (k : Nat) (n1 : Int32) (S : xs_T) : Option (Int32) :=
  (xf_A_holds (k + 1) n1 S).bind fun q1 =>
  if q1 = 0 then
  (some (-1))
  else
  ((xs_rdU S (k + 2) n1 xs_cF).bind fun u3 =>
  some (xs_gI S u3 2))
def xf_W_state (k : Nat) (n1 : Int32) (S : xs_T) : Option (Int32) :=
  (xf_W_isDevice n1).bind fun q1 =>
  if q1 = 0 then
  (some (-1))
  else
  ((xs_rdU S (k + 44) n1 xs_cD).bind fun u3 =>
  (xs_rdU S (k + 44) n1 xs_cD).bind fun u4 =>
  if (xs_gI S u4 11) = 0 then
  (some ((xs_gI S u3 6) + 0))
  else
  (some ((xs_gI S u3 6) + 10)))
def xf_W_inbox (k : Nat) (n1 : Int32) (n2 : Int32) (S : xs_T) : Option (Nat) :=
  if n2 = 0 then
  ((xs_rdU S (k + 44) n1 xs_cD).bind fun u2 =>
  some (u2 + 12))
  else
  ((xs_rdU S (k + 120) n1 xs_cK).bind fun u3 =>
  some (u3 + 12))
def xf_W_received (k : Nat) (n1 : Int32) (n2 : Int32) (S : xs_T) : Option (Int32) :=
  (xf_W_isDevice n1).bind fun q1 =>
  if q1 = 0 then
  (some (-1))
  else
  ((xf_W_inbox k n1 n2 S).bind fun q3 =>
  (xs_ckU q3 xs_cI).bind fun u4 =>
  some (xs_gI S u4 1))
def xf_I_get (k : Nat) (n1 : Int32) (S : xs_T) : Option (Int64) :=
  if n1 < 0 then
  (some (-1))
  else
  (if (xs_gI S k 1) ≤ n1 then
  (some (-1))
  else
  (if n1 < ((xs_gI S k 1) - 4) then
  (some (-1))
  else
  ((xs_rdL S (k + 1) (xs_rem n1 4)).bind fun v4 =>
  some v4)))
def xf_W_payload (k : Nat) (n1 : Int32) (n2 : Int32) (n3 : Int32) (S : xs_T) : Option (Int64) :=
  (xf_W_isDevice n1).bind fun q1 =>
  if q1 = 0 then
  (some (-1))
  else
  ((xf_W_inbox k n1 n2 S).bind fun q3 =>
  (xs_ckU q3 xs_cI).bind fun u4 =>
  (xf_I_get u4 n3 S).bind fun q5 =>
  some q5)
def xf_W_tally (k : Nat) (n1 : Int32) (n2 : Int32) (S : xs_T) : Option (Int32) :=
  (xf_W_isDevice n1).bind fun q1 =>
  if q1 = 0 then
  (some (-1))
  else
  (if n2 = 0 then
  ((xs_rdU S (k + 44) n1 xs_cD).bind fun u4 =>
  some (xs_gI S u4 15))
  else
  (if n2 = 1 then
  ((xs_rdU S (k + 44) n1 xs_cD).bind fun u6 =>
  some (xs_gI S u6 16))
  else
  (if n2 = 2 then
  ((xs_rdU S (k + 44) n1 xs_cD).bind fun u8 =>
  some (xs_gI S u8 17))
  else
  (if n2 = 3 then
  ((xs_rdU S (k + 120) n1 xs_cK).bind fun u10 =>
  some (xs_gI S u10 7))
  else
  (some (-1))))))
def xf_R_twice (n0 : Int32) : Option (Int32) :=
  if 128 ≤ n0 then
  (some ((2 * n0) ^^^ 283))
  else
  (some (2 * n0))
def xf_R_times_27 (n0 : Int32) (n1 : Int32) (c7 : Int32 → Int32 → Int32 → Option (Int32)) (i3 : Int32) (i4 : Int32) (t0 : Int32) : Option (Int32) :=
  (xf_R_twice i3).bind fun q3 =>
  (some ((i4 >>> ((1 : Int32) &&& 31) : Int32))).bind fun v4 =>
  c7 t0 q3 v4
def xf_R_times_7 (n0 : Int32) (n1 : Int32) : Nat → Int32 → Int32 → Int32 → Option (Int32)
  | 0, _, _, _ => none
  | f + 1, i2, i3, i4 =>
    if i4 ≤ 0 then
    (some i2)
    else
    (if (i4 &&& 1) = 1 then
    (xf_R_times_27 n0 n1 (xf_R_times_7 n0 n1 f) i3 i4 (i2 ^^^ i3))
    else
    (xf_R_times_27 n0 n1 (xf_R_times_7 n0 n1 f) i3 i4 i2))
def xf_R_times (n0 : Int32) (n1 : Int32) : Option (Int32) :=
  xf_R_times_7 n0 n1 xs_fuel 0 n0 n1
def xf_R_enter_6 (k : Nat) (n1 : Int32) (n2 : Int32) : Nat → Int32 → Int32 → xs_T → Option (xs_T)
  | 0, _, _, _ => none
  | f + 1, i3, i4, S =>
    if 5 ≤ i4 then
    ((xs_wr S (k + 1) n1 i3).bind fun S2 =>
    (xs_wr S2 (k + 2) i3 n1).bind fun S3 =>
    some S3)
    else
    ((some (i3 ^^^ (((n2 <<< ((i4 : Int32) &&& 31) : Int32) ||| (n2 >>> (((8 - i4) : Int32) &&& 31) : Int32)) &&& 255))).bind fun v4 =>
    xf_R_enter_6 k n1 n2 f v4 (i4 + 1) S)
def xf_R_enter (k : Nat) (n1 : Int32) (n2 : Int32) (S : xs_T) : Option (xs_T) :=
  xf_R_enter_6 k n1 n2 xs_fuel 99 0 S
def xf_R_boxes_44 (k : Nat) (c4 : Int32 → Int32 → xs_T → Option (xs_T)) (c21 : Int32 → Int32 → Int32 → Int32 → Int32 → xs_T → Option (xs_T)) (i1 : Int32) (i2 : Int32) (i4 : Int32) (i5 : Int32) (t0 : Int32) (S : xs_T) : Option (xs_T) :=
  (xf_R_times i4 i4).bind fun q7 =>
  (some ((i5 >>> ((1 : Int32) &&& 31) : Int32))).bind fun v8 =>
  c21 i1 i2 t0 q7 v8 S
def xf_R_boxes_21 (k : Nat) (c4 : Int32 → Int32 → xs_T → Option (xs_T)) : Nat → Int32 → Int32 → Int32 → Int32 → Int32 → xs_T → Option (xs_T)
  | 0, _, _, _, _, _, _ => none
  | f + 1, i1, i2, i3, i4, i5, S =>
    if i5 ≤ 0 then
    ((xf_R_enter k i1 i3 S).bind fun q4 =>
    (xf_R_twice i1).bind fun q5 =>
    c4 (i1 ^^^ q5) (i2 + 1) q4)
    else
    (if (i5 &&& 1) = 1 then
    ((xf_R_times i3 i4).bind fun q9 =>
    xf_R_boxes_44 k c4 (xf_R_boxes_21 k c4 f) i1 i2 i4 i5 q9 S)
    else
    (xf_R_boxes_44 k c4 (xf_R_boxes_21 k c4 f) i1 i2 i4 i5 i3 S))
def xf_R_boxes_4 (k : Nat) : Nat → Int32 → Int32 → xs_T → Option (xs_T)
  | 0, _, _, _ => none
  | f + 1, i1, i2, S =>
    if 255 ≤ i2 then
    ((xf_R_enter k 0 0 S).bind fun q2 =>
    some q2)
    else
    (xf_R_boxes_21 k (xf_R_boxes_4 k f) xs_fuel i1 i2 1 i1 254 S)
def xf_R_boxes (k : Nat) (S : xs_T) : Option (xs_T) :=
  xf_R_boxes_4 k xs_fuel 1 0 S
def xf_R_schedule_166 (k : Nat) (n1 : Int32) (c36 : Int32 → Int32 → xs_T → Option (xs_T)) (i3 : Int32) (t0 : Int32) (S : xs_T) : Option (xs_T) :=
  c36 t0 (i3 + 4) S
def xf_R_schedule_145 (k : Nat) (n1 : Int32) (c36 : Int32 → Int32 → xs_T → Option (xs_T)) (c60 : Int32 → Int32 → Int32 → Int32 → xs_T → Option (xs_T)) (i2 : Int32) (i3 : Int32) (i4 : Int32) (i5 : Int32) (t1 : Int32) (t2 : Int32) (t3 : Int32) (S : xs_T) : Option (xs_T) :=
  (xs_wr S (k + 3) t1 (t2 ^^^ t3)).bind fun S11 =>
  c60 i2 i3 i4 (i5 + 1) S11
def xf_R_schedule_144 (k : Nat) (n1 : Int32) (c36 : Int32 → Int32 → xs_T → Option (xs_T)) (c60 : Int32 → Int32 → Int32 → Int32 → xs_T → Option (xs_T)) (i2 : Int32) (i3 : Int32) (i4 : Int32) (i5 : Int32) (t1 : Int32) (t2 : Int32) (S : xs_T) : Option (xs_T) :=
  xf_R_schedule_145 k n1 c36 c60 i2 i3 i4 i5 t1 t2 0 S
def xf_R_schedule_105 (k : Nat) (n1 : Int32) (c36 : Int32 → Int32 → xs_T → Option (xs_T)) (c60 : Int32 → Int32 → Int32 → Int32 → xs_T → Option (xs_T)) (i2 : Int32) (i3 : Int32) (i4 : Int32) (i5 : Int32) (t0 : Int32) (S : xs_T) : Option (xs_T) :=
  (xs_rd S (k + 3) ((i3 - 16) + i5)).bind fun v9 =>
  if i4 = 0 then
  (xf_R_schedule_144 k n1 c36 c60 i2 i3 i4 i5 (i3 + i5) (v9 ^^^ t0) S)
  else
  (if i5 = 0 then
  (xf_R_schedule_145 k n1 c36 c60 i2 i3 i4 i5 (i3 + i5) (v9 ^^^ t0) i2 S)
  else
  (xf_R_schedule_144 k n1 c36 c60 i2 i3 i4 i5 (i3 + i5) (v9 ^^^ t0) S))
def xf_R_schedule_60 (k : Nat) (n1 : Int32) (c36 : Int32 → Int32 → xs_T → Option (xs_T)) : Nat → Int32 → Int32 → Int32 → Int32 → xs_T → Option (xs_T)
  | 0, _, _, _, _, _ => none
  | f + 1, i2, i3, i4, i5, S =>
    if 4 ≤ i5 then
    (if i4 = 0 then
    (xf_R_schedule_166 k n1 c36 i3 i2 S)
    else
    ((xf_R_twice i2).bind fun q6 =>
    xf_R_schedule_166 k n1 c36 i3 q6 S))
    else
    (if i4 = 0 then
    ((xs_rd S (k + 3) ((i3 - 4) + i5)).bind fun v8 =>
    xf_R_schedule_105 k n1 c36 (xf_R_schedule_60 k n1 c36 f) i2 i3 i4 i5 v8 S)
    else
    ((xs_rd S (k + 3) ((i3 - 4) + (xs_rem (i5 + 1) 4))).bind fun v13 =>
    (xs_rd S (k + 1) v13).bind fun v14 =>
    xf_R_schedule_105 k n1 c36 (xf_R_schedule_60 k n1 c36 f) i2 i3 i4 i5 v14 S))
def xf_R_schedule_55 (k : Nat) (n1 : Int32) (c36 : Int32 → Int32 → xs_T → Option (xs_T)) (i2 : Int32) (i3 : Int32) (t0 : Int32) (S : xs_T) : Option (xs_T) :=
  xf_R_schedule_60 k n1 c36 xs_fuel i2 i3 t0 0 S
def xf_R_schedule_36 (k : Nat) (n1 : Int32) : Nat → Int32 → Int32 → xs_T → Option (xs_T)
  | 0, _, _, _ => none
  | f + 1, i2, i3, S =>
    if 176 ≤ i3 then
    (some S)
    else
    (if (xs_rem i3 16) = 0 then
    (xf_R_schedule_55 k n1 (xf_R_schedule_36 k n1 f) i2 i3 1 S)
    else
    (xf_R_schedule_55 k n1 (xf_R_schedule_36 k n1 f) i2 i3 0 S))
def xf_R_schedule_4 (k : Nat) (n1 : Int32) : Nat → Int32 → Int32 → xs_T → Option (xs_T)
  | 0, _, _, _ => none
  | f + 1, i2, i3, S =>
    if 16 ≤ i3 then
    (xf_R_schedule_36 k n1 xs_fuel i2 16 S)
    else
    ((xs_rd S (k + 7) ((16 * n1) + i3)).bind fun v15 =>
    (xs_wr S (k + 3) i3 v15).bind fun S16 =>
    xf_R_schedule_4 k n1 f i2 (i3 + 1) S16)
def xf_R_schedule (k : Nat) (n1 : Int32) (S : xs_T) : Option (xs_T) :=
  xf_R_schedule_4 k n1 xs_fuel 1 0 S
def xf_R_addKey_2 (k : Nat) (n1 : Int32) : Nat → Int32 → xs_T → Option (xs_T)
  | 0, _, _ => none
  | f + 1, i2, S =>
    if 16 ≤ i2 then
    (some S)
    else
    ((xs_rd S (k + 4) i2).bind fun v2 =>
    (xs_rd S (k + 3) ((16 * n1) + i2)).bind fun v3 =>
    (xs_wr S (k + 4) i2 (v2 ^^^ v3)).bind fun S4 =>
    xf_R_addKey_2 k n1 f (i2 + 1) S4)
def xf_R_addKey (k : Nat) (n1 : Int32) (S : xs_T) : Option (xs_T) :=
  xf_R_addKey_2 k n1 xs_fuel 0 S
def xf_R_copyBlock_2 (k : Nat) : Nat → Int32 → xs_T → Option (xs_T)
  | 0, _, _ => none
  | f + 1, i1, S =>
    if 16 ≤ i1 then
    (some S)
    else
    ((xs_rd S (k + 4) i1).bind fun v2 =>
    (xs_wr S (k + 5) i1 v2).bind fun S3 =>
    xf_R_copyBlock_2 k f (i1 + 1) S3)
def xf_R_copyBlock (k : Nat) (S : xs_T) : Option (xs_T) :=
  xf_R_copyBlock_2 k xs_fuel 0 S
def xf_R_mix_7 (k : Nat) (n1 : Int32) (n2 : Int32) (n3 : Int32) (n4 : Int32) : Nat → Int32 → xs_T → Option (xs_T)
  | 0, _, _ => none
  | f + 1, i5, S =>
    if 16 ≤ i5 then
    (some S)
    else
    ((xs_rd S (k + 5) i5).bind fun v3 =>
    (xf_R_times v3 n1).bind fun q4 =>
    (xs_rd S (k + 5) (((i5 / 4) * 4) + (xs_rem (i5 + 1) 4))).bind fun v5 =>
    (xf_R_times v5 n2).bind fun q6 =>
    (xs_rd S (k + 5) (((i5 / 4) * 4) + (xs_rem (i5 + 2) 4))).bind fun v7 =>
    (xf_R_times v7 n3).bind fun q8 =>
    (xs_rd S (k + 5) (((i5 / 4) * 4) + (xs_rem (i5 + 3) 4))).bind fun v9 =>
    (xf_R_times v9 n4).bind fun q10 =>
    (xs_wr S (k + 4) i5 (((q4 ^^^ q6) ^^^ q8) ^^^ q10)).bind fun S11 =>
    xf_R_mix_7 k n1 n2 n3 n4 f (i5 + 1) S11)
def xf_R_mix (k : Nat) (n1 : Int32) (n2 : Int32) (n3 : Int32) (n4 : Int32) (S : xs_T) : Option (xs_T) :=
  (xf_R_copyBlock k S).bind fun q1 =>
  xf_R_mix_7 k n1 n2 n3 n4 xs_fuel 0 q1
def xf_R_cipher_76 (k : Nat) (n1 : Int32) (c12 : Int32 → xs_T → Option (xs_T)) (i2 : Int32) (S : xs_T) : Option (xs_T) :=
  (xf_R_addKey k i2 S).bind fun q7 =>
  c12 (i2 + 1) q7
def xf_R_cipher_24 (k : Nat) (n1 : Int32) (c12 : Int32 → xs_T → Option (xs_T)) : Nat → Int32 → Int32 → xs_T → Option (xs_T)
  | 0, _, _, _ => none
  | f + 1, i2, i3, S =>
    if 16 ≤ i3 then
    (if 10 ≤ i2 then
    (xf_R_cipher_76 k n1 c12 i2 S)
    else
    ((xf_R_mix k 2 3 1 1 S).bind fun q8 =>
    xf_R_cipher_76 k n1 c12 i2 q8))
    else
    ((xs_rd S (k + 5) (xs_rem (i3 + (4 * (xs_rem i3 4))) 16)).bind fun v9 =>
    (xs_rd S (k + 1) v9).bind fun v10 =>
    (xs_wr S (k + 4) i3 v10).bind fun S11 =>
    xf_R_cipher_24 k n1 c12 f i2 (i3 + 1) S11)
def xf_R_cipher_12 (k : Nat) (n1 : Int32) : Nat → Int32 → xs_T → Option (xs_T)
  | 0, _, _ => none
  | f + 1, i2, S =>
    if 10 < i2 then
    (some S)
    else
    ((xf_R_copyBlock k S).bind fun q4 =>
    xf_R_cipher_24 k n1 (xf_R_cipher_12 k n1 f) xs_fuel i2 0 q4)
def xf_R_cipher (k : Nat) (n1 : Int32) (S : xs_T) : Option (xs_T) :=
  (xf_R_schedule k n1 S).bind fun q1 =>
  (xf_R_addKey k 0 q1).bind fun q2 =>
  xf_R_cipher_12 k n1 xs_fuel 1 q2
def xf_R_decipher_42 (k : Nat) (n1 : Int32) (c8 : Int32 → xs_T → Option (xs_T)) : Nat → Int32 → Int32 → xs_T → Option (xs_T)
  | 0, _, _, _ => none
  | f + 1, i2, i3, S =>
    if 16 ≤ i3 then
    (c8 (i2 + (-1)) S)
    else
    ((xs_rd S (k + 5) (xs_rem ((i3 + 16) - (4 * (xs_rem i3 4))) 16)).bind fun v8 =>
    (xs_rd S (k + 2) v8).bind fun v9 =>
    (xs_wr S (k + 4) i3 v9).bind fun S10 =>
    xf_R_decipher_42 k n1 c8 f i2 (i3 + 1) S10)
def xf_R_decipher_36 (k : Nat) (n1 : Int32) (c8 : Int32 → xs_T → Option (xs_T)) (i2 : Int32) (S : xs_T) : Option (xs_T) :=
  (xf_R_copyBlock k S).bind fun q6 =>
  xf_R_decipher_42 k n1 c8 xs_fuel i2 0 q6
def xf_R_decipher_8 (k : Nat) (n1 : Int32) : Nat → Int32 → xs_T → Option (xs_T)
  | 0, _, _ => none
  | f + 1, i2, S =>
    if i2 < 1 then
    ((xf_R_addKey k 0 S).bind fun q3 =>
    some q3)
    else
    ((xf_R_addKey k i2 S).bind fun q4 =>
    if 10 ≤ i2 then
    (xf_R_decipher_36 k n1 (xf_R_decipher_8 k n1 f) i2 q4)
    else
    ((xf_R_mix k 14 11 13 9 q4).bind fun q11 =>
    xf_R_decipher_36 k n1 (xf_R_decipher_8 k n1 f) i2 q11))
def xf_R_decipher (k : Nat) (n1 : Int32) (S : xs_T) : Option (xs_T) :=
  (xf_R_schedule k n1 S).bind fun q1 =>
  xf_R_decipher_8 k n1 xs_fuel 10 q1
def xf_R_doubled_63 (k : Nat) (c19 : Int32 → Int32 → xs_T → Option (xs_T)) (i1 : Int32) (i2 : Int32) (t1 : Int32) (t2 : Int32) (t3 : Int32) (S : xs_T) : Option (xs_T) :=
  (xs_wr S (k + 6) t1 (t2 ||| t3)).bind fun S11 =>
  c19 i1 (i2 + 1) S11
def xf_R_doubled_19 (k : Nat) : Nat → Int32 → Int32 → xs_T → Option (xs_T)
  | 0, _, _, _ => none
  | f + 1, i1, i2, S =>
    if 16 ≤ i2 then
    (if i1 = 0 then
    ((xs_rd S (k + 6) 15).bind fun v5 =>
    (xs_wr S (k + 6) 15 v5).bind fun S6 =>
    some S6)
    else
    ((xs_rd S (k + 6) 15).bind fun v7 =>
    (xs_wr S (k + 6) 15 (v7 ^^^ 135)).bind fun S8 =>
    some S8))
    else
    ((xs_rd S (k + 6) i2).bind fun v9 =>
    if 15 ≤ i2 then
    (xf_R_doubled_63 k (xf_R_doubled_19 k f) i1 i2 i2 ((2 * v9) &&& 255) 0 S)
    else
    ((xs_rd S (k + 6) (i2 + 1)).bind fun v12 =>
    xf_R_doubled_63 k (xf_R_doubled_19 k f) i1 i2 i2 ((2 * v9) &&& 255) (v12 >>> ((7 : Int32) &&& 31) : Int32) S))
def xf_R_doubled_16 (k : Nat) (t0 : Int32) (S : xs_T) : Option (xs_T) :=
  xf_R_doubled_19 k xs_fuel t0 0 S
def xf_R_doubled (k : Nat) (S : xs_T) : Option (xs_T) :=
  (xs_rd S (k + 6) 0).bind fun v1 =>
  if v1 ≤ 127 then
  (xf_R_doubled_16 k 0 S)
  else
  (xf_R_doubled_16 k 1 S)
def xf_R_mac_247 (k : Nat) (n1 : Int32) (n2 : Int32) : Nat → Int32 → xs_T → Option (xs_T)
  | 0, _, _ => none
  | f + 1, i5, S =>
    if 16 ≤ i5 then
    (some S)
    else
    ((xs_rd S (k + 4) i5).bind fun v11 =>
    (xs_wr S (k + 6) i5 v11).bind fun S12 =>
    xf_R_mac_247 k n1 n2 f (i5 + 1) S12)
def xf_R_mac_225 (k : Nat) (n1 : Int32) (n2 : Int32) (c163 : Int32 → Int32 → xs_T → Option (xs_T)) (c172 : Int32 → Int32 → Int32 → xs_T → Option (xs_T)) (i3 : Int32) (i5 : Int32) (i6 : Int32) (t1 : Int32) (t2 : Int32) (t3 : Int32) (S : xs_T) : Option (xs_T) :=
  (xs_wr S (k + 4) t1 (t2 ^^^ t3)).bind fun S18 =>
  c172 i3 i5 (i6 + 1) S18
def xf_R_mac_172 (k : Nat) (n1 : Int32) (n2 : Int32) (c163 : Int32 → Int32 → xs_T → Option (xs_T)) : Nat → Int32 → Int32 → Int32 → xs_T → Option (xs_T)
  | 0, _, _, _, _ => none
  | f + 1, i3, i5, i6, S =>
    if 16 ≤ i6 then
    ((xf_R_cipher k n1 S).bind fun q14 =>
    c163 i3 (i5 + 1) q14)
    else
    ((xs_rd S (k + 4) i6).bind fun v15 =>
    (xs_rd S (k + 8) ((16 * i5) + i6)).bind fun v16 =>
    if i5 = (i3 - 1) then
    ((xs_rd S (k + 6) i6).bind fun v19 =>
    xf_R_mac_225 k n1 n2 c163 (xf_R_mac_172 k n1 n2 c163 f) i3 i5 i6 i6 (v15 ^^^ v16) v19 S)
    else
    (xf_R_mac_225 k n1 n2 c163 (xf_R_mac_172 k n1 n2 c163 f) i3 i5 i6 i6 (v15 ^^^ v16) 0 S))
def xf_R_mac_163 (k : Nat) (n1 : Int32) (n2 : Int32) : Nat → Int32 → Int32 → xs_T → Option (xs_T)
  | 0, _, _, _ => none
  | f + 1, i3, i5, S =>
    if i3 ≤ i5 then
    (xf_R_mac_247 k n1 n2 xs_fuel 0 S)
    else
    (xf_R_mac_172 k n1 n2 (xf_R_mac_163 k n1 n2 f) xs_fuel i3 i5 0 S)
def xf_R_mac_139 (k : Nat) (n1 : Int32) (n2 : Int32) : Nat → Int32 → Int32 → xs_T → Option (xs_T)
  | 0, _, _, _ => none
  | f + 1, i3, i5, S =>
    if 16 ≤ i5 then
    (xf_R_mac_163 k n1 n2 xs_fuel i3 0 S)
    else
    ((xs_wr S (k + 4) i5 0).bind fun S20 =>
    xf_R_mac_139 k n1 n2 f i3 (i5 + 1) S20)
def xf_R_mac_136 (k : Nat) (n1 : Int32) (n2 : Int32) (i3 : Int32) (S : xs_T) : Option (xs_T) :=
  xf_R_mac_139 k n1 n2 xs_fuel i3 0 S
def xf_R_mac_113 (k : Nat) (n1 : Int32) (n2 : Int32) : Nat → Int32 → Int32 → xs_T → Option (xs_T)
  | 0, _, _, _ => none
  | f + 1, i3, i5, S =>
    if (16 * i3) ≤ i5 then
    (xf_R_mac_136 k n1 n2 i3 S)
    else
    ((xs_wr S (k + 8) i5 0).bind fun S24 =>
    xf_R_mac_113 k n1 n2 f i3 (i5 + 1) S24)
def xf_R_mac_88 (k : Nat) (n1 : Int32) (n2 : Int32) (i3 : Int32) (t0 : Int32) (S : xs_T) : Option (xs_T) :=
  if t0 = 0 then
  ((xf_R_doubled k S).bind fun q21 =>
  (xs_wr q21 (k + 8) n2 128).bind fun S22 =>
  xf_R_mac_113 k n1 n2 xs_fuel i3 (n2 + 1) S22)
  else
  (xf_R_mac_136 k n1 n2 i3 S)
def xf_R_mac_87 (k : Nat) (n1 : Int32) (n2 : Int32) (i3 : Int32) (S : xs_T) : Option (xs_T) :=
  xf_R_mac_88 k n1 n2 i3 0 S
def xf_R_mac_71 (k : Nat) (n1 : Int32) (n2 : Int32) (t0 : Int32) (S : xs_T) : Option (xs_T) :=
  if n2 ≤ 0 then
  (xf_R_mac_87 k n1 n2 t0 S)
  else
  (if (xs_rem n2 16) = 0 then
  (xf_R_mac_88 k n1 n2 t0 1 S)
  else
  (xf_R_mac_87 k n1 n2 t0 S))
def xf_R_mac_28 (k : Nat) (n1 : Int32) (n2 : Int32) : Nat → Int32 → xs_T → Option (xs_T)
  | 0, _, _ => none
  | f + 1, i3, S =>
    if 16 ≤ i3 then
    ((xf_R_doubled k S).bind fun q4 =>
    if n2 = 0 then
    (xf_R_mac_71 k n1 n2 1 q4)
    else
    (xf_R_mac_71 k n1 n2 ((n2 + 15) / 16) q4))
    else
    ((xs_rd S (k + 4) i3).bind fun v26 =>
    (xs_wr S (k + 6) i3 v26).bind fun S27 =>
    xf_R_mac_28 k n1 n2 f (i3 + 1) S27)
def xf_R_mac_2 (k : Nat) (n1 : Int32) (n2 : Int32) : Nat → Int32 → xs_T → Option (xs_T)
  | 0, _, _ => none
  | f + 1, i3, S =>
    if 16 ≤ i3 then
    ((xf_R_cipher k n1 S).bind fun q2 =>
    xf_R_mac_28 k n1 n2 xs_fuel 0 q2)
    else
    ((xs_wr S (k + 4) i3 0).bind fun S28 =>
    xf_R_mac_2 k n1 n2 f (i3 + 1) S28)
def xf_R_mac (k : Nat) (n1 : Int32) (n2 : Int32) (S : xs_T) : Option (xs_T) :=
  xf_R_mac_2 k n1 n2 xs_fuel 0 S
def xf_R_derive_119 (k : Nat) (n1 : Int32) (n2 : Int32) (n3 : Int32) (n4 : Int32) (c3 : Int32 → xs_T → Option (xs_T)) : Nat → Int32 → Int32 → xs_T → Option (xs_T)
  | 0, _, _, _ => none
  | f + 1, i5, i6, S =>
    if 16 ≤ i6 then
    (c3 (i5 + 1) S)
    else
    ((xs_rd S (k + 4) i6).bind fun v10 =>
    (xs_wr S (k + 7) ((16 * ((n4 + i5) - 1)) + i6) v10).bind fun S11 =>
    xf_R_derive_119 k n1 n2 n3 n4 c3 f i5 (i6 + 1) S11)
def xf_R_derive_44 (k : Nat) (n1 : Int32) (n2 : Int32) (n3 : Int32) (n4 : Int32) (c3 : Int32 → xs_T → Option (xs_T)) : Nat → Int32 → Int32 → xs_T → Option (xs_T)
  | 0, _, _, _ => none
  | f + 1, i5, i6, S =>
    if 3 ≤ i6 then
    ((xs_wr S (k + 4) 4 19).bind fun S5 =>
    (xs_wr S5 (k + 4) 7 (n3 &&& 255)).bind fun S6 =>
    (xs_wr S6 (k + 4) 8 ((n3 >>> ((8 : Int32) &&& 31) : Int32) &&& 255)).bind fun S7 =>
    (xf_R_cipher k n1 S7).bind fun q8 =>
    xf_R_derive_119 k n1 n2 n3 n4 c3 xs_fuel i5 0 q8)
    else
    ((xs_wr S (k + 4) (1 + i6) ((n2 >>> (((8 * i6) : Int32) &&& 31) : Int32) &&& 255)).bind fun S12 =>
    xf_R_derive_44 k n1 n2 n3 n4 c3 f i5 (i6 + 1) S12)
def xf_R_derive_12 (k : Nat) (n1 : Int32) (n2 : Int32) (n3 : Int32) (n4 : Int32) (c3 : Int32 → xs_T → Option (xs_T)) : Nat → Int32 → Int32 → xs_T → Option (xs_T)
  | 0, _, _, _ => none
  | f + 1, i5, i6, S =>
    if 16 ≤ i6 then
    ((xs_wr S (k + 4) 0 i5).bind fun S3 =>
    xf_R_derive_44 k n1 n2 n3 n4 c3 xs_fuel i5 0 S3)
    else
    ((xs_wr S (k + 4) i6 0).bind fun S13 =>
    xf_R_derive_12 k n1 n2 n3 n4 c3 f i5 (i6 + 1) S13)
def xf_R_derive_3 (k : Nat) (n1 : Int32) (n2 : Int32) (n3 : Int32) (n4 : Int32) : Nat → Int32 → xs_T → Option (xs_T)
  | 0, _, _ => none
  | f + 1, i5, S =>
    if 2 < i5 then
    (some S)
    else
    (xf_R_derive_12 k n1 n2 n3 n4 (xf_R_derive_3 k n1 n2 n3 n4 f) xs_fuel i5 0 S)
def xf_R_derive (k : Nat) (n1 : Int32) (n2 : Int32) (n3 : Int32) (n4 : Int32) (S : xs_T) : Option (xs_T) :=
  xf_R_derive_3 k n1 n2 n3 n4 xs_fuel 1 S
def xf_R_at (k : Nat) (n1 : Int32) (n2 : Int32) (S : xs_T) : Option (Int32) :=
  (xs_rd S (k + 9) ((32 * n1) + n2)).bind fun v1 =>
  some v1
def xf_R_write (k : Nat) (n1 : Int32) (n2 : Int32) (S : xs_T) : Option (xs_T) :=
  (xs_rd S (k + 10) n1).bind fun v1 =>
  (xs_wr S (k + 9) ((32 * n1) + v1) (n2 &&& 255)).bind fun S2 =>
  (xs_rd S2 (k + 10) n1).bind fun v3 =>
  (xs_wr S2 (k + 10) n1 (v3 + 1)).bind fun S4 =>
  some S4
def xf_R_writeNumber_3 (k : Nat) (n1 : Int32) (n2 : Int32) (n3 : Int32) : Nat → Int32 → xs_T → Option (xs_T)
  | 0, _, _ => none
  | f + 1, i4, S =>
    if n3 ≤ i4 then
    (some S)
    else
    ((xf_R_write k n1 (n2 >>> (((8 * i4) : Int32) &&& 31) : Int32) S).bind fun q2 =>
    xf_R_writeNumber_3 k n1 n2 n3 f (i4 + 1) q2)
def xf_R_writeNumber (k : Nat) (n1 : Int32) (n2 : Int32) (n3 : Int32) (S : xs_T) : Option (xs_T) :=
  xf_R_writeNumber_3 k n1 n2 n3 xs_fuel 0 S
def xf_R_numberAt_6 (k : Nat) (n1 : Int32) (n2 : Int32) (n3 : Int32) (S : xs_T) : Nat → Int32 → Int32 → Option (Int32)
  | 0, _, _ => none
  | f + 1, i4, i5 =>
    if n3 ≤ i5 then
    (some i4)
    else
    ((xf_R_at k n1 (n2 + i5) S).bind fun q2 =>
    (some (i4 ||| (q2 <<< (((8 * i5) : Int32) &&& 31) : Int32))).bind fun v3 =>
    xf_R_numberAt_6 k n1 n2 n3 S f v3 (i5 + 1))
def xf_R_numberAt (k : Nat) (n1 : Int32) (n2 : Int32) (n3 : Int32) (S : xs_T) : Option (Int32) :=
  xf_R_numberAt_6 k n1 n2 n3 S xs_fuel 0 0
def xf_R_copyFrame_2 (k : Nat) (n1 : Int32) (n2 : Int32) : Nat → Int32 → xs_T → Option (xs_T)
  | 0, _, _ => none
  | f + 1, i3, S =>
    if 32 ≤ i3 then
    ((xs_rd S (k + 10) n1).bind fun v2 =>
    (xs_wr S (k + 10) n2 v2).bind fun S3 =>
    (xs_rd S3 (k + 11) n1).bind fun v4 =>
    (xs_wr S3 (k + 11) n2 v4).bind fun S5 =>
    some S5)
    else
    ((xs_rd S (k + 9) ((32 * n1) + i3)).bind fun v6 =>
    (xs_wr S (k + 9) ((32 * n2) + i3) v6).bind fun S7 =>
    xf_R_copyFrame_2 k n1 n2 f (i3 + 1) S7)
def xf_R_copyFrame (k : Nat) (n1 : Int32) (n2 : Int32) (S : xs_T) : Option (xs_T) :=
  xf_R_copyFrame_2 k n1 n2 xs_fuel 0 S
def xf_R_post (k : Nat) (n1 : Int32) (S : xs_T) : Option (xs_T) :=
  (xf_R_copyFrame k n1 (12 + (xs_rem (xs_gI S k 13) 8)) S).bind fun q1 =>
  (some (xs_sI q1 k 13 ((xs_gI q1 k 13) + 1))).bind fun S2 =>
  if 12 ≤ (xs_gI S2 k 12) then
  (some S2)
  else
  ((xf_R_copyFrame k n1 (xs_gI S2 k 12) S2).bind fun q4 =>
  (some (xs_sI q4 k 12 ((xs_gI q4 k 12) + 1))).bind fun S5 =>
  some S5)
def xf_R_leave_12 (k : Nat) (n1 : Int32) : Nat → Int32 → xs_T → Option (xs_T)
  | 0, _, _ => none
  | f + 1, i2, S =>
    if (xs_gI S k 12) ≤ i2 then
    (some S)
    else
    ((xf_R_copyFrame k (i2 + 1) i2 S).bind fun q3 =>
    xf_R_leave_12 k n1 f (i2 + 1) q3)
def xf_R_leave (k : Nat) (n1 : Int32) (S : xs_T) : Option (xs_T) :=
  (some (xs_sI S k 12 ((xs_gI S k 12) - 1))).bind fun S1 =>
  xf_R_leave_12 k n1 xs_fuel n1 S1
def xf_R_rowHead_41 (k : Nat) (n1 : Int32) (n2 : Int32) (n3 : Int32) (n4 : Int32) : Nat → Int32 → xs_T → Option (xs_T)
  | 0, _, _ => none
  | f + 1, i5, S =>
    if 4 ≤ i5 then
    (some S)
    else
    ((xs_wr S (k + 8) (6 + i5) ((n3 >>> (((8 * i5) : Int32) &&& 31) : Int32) &&& 255)).bind fun S5 =>
    (xs_wr S5 (k + 8) (10 + i5) ((n4 >>> (((8 * i5) : Int32) &&& 31) : Int32) &&& 255)).bind fun S6 =>
    xf_R_rowHead_41 k n1 n2 n3 n4 f (i5 + 1) S6)
def xf_R_rowHead_3 (k : Nat) (n1 : Int32) (n2 : Int32) (n3 : Int32) (n4 : Int32) : Nat → Int32 → xs_T → Option (xs_T)
  | 0, _, _ => none
  | f + 1, i5, S =>
    if 16 ≤ i5 then
    ((xs_wr S (k + 8) 0 n1).bind fun S2 =>
    (xs_wr S2 (k + 8) 5 n2).bind fun S3 =>
    xf_R_rowHead_41 k n1 n2 n3 n4 xs_fuel 0 S3)
    else
    ((xs_wr S (k + 8) i5 0).bind fun S7 =>
    xf_R_rowHead_3 k n1 n2 n3 n4 f (i5 + 1) S7)
def xf_R_rowHead (k : Nat) (n1 : Int32) (n2 : Int32) (n3 : Int32) (n4 : Int32) (S : xs_T) : Option (xs_T) :=
  xf_R_rowHead_3 k n1 n2 n3 n4 xs_fuel 0 S
def xf_R_dataCode_23 (k : Nat) (n1 : Int32) (n2 : Int32) (n3 : Int32) (n4 : Int32) (n5 : Int32) (n6 : Int32) : Nat → Int32 → xs_T → Option (xs_T)
  | 0, _, _ => none
  | f + 1, i7, S =>
    if n2 ≤ i7 then
    ((xf_R_mac k n3 (16 + n2) S).bind fun q4 =>
    some q4)
    else
    ((xf_R_at k n1 i7 S).bind fun q5 =>
    (xs_wr S (k + 8) (16 + i7) q5).bind fun S6 =>
    xf_R_dataCode_23 k n1 n2 n3 n4 n5 n6 f (i7 + 1) S6)
def xf_R_dataCode (k : Nat) (n1 : Int32) (n2 : Int32) (n3 : Int32) (n4 : Int32) (n5 : Int32) (n6 : Int32) (S : xs_T) : Option (xs_T) :=
  (xf_R_rowHead k 73 n4 n5 n6 S).bind fun q1 =>
  (xs_wr q1 (k + 8) 15 n2).bind fun S2 =>
  xf_R_dataCode_23 k n1 n2 n3 n4 n5 n6 xs_fuel 0 S2
def xf_R_rootCode_3 (k : Nat) (n1 : Int32) (n2 : Int32) (n3 : Int32) : Nat → Int32 → xs_T → Option (xs_T)
  | 0, _, _ => none
  | f + 1, i4, S =>
    if n2 ≤ i4 then
    ((xf_R_mac k n3 n2 S).bind fun q2 =>
    some q2)
    else
    ((xf_R_at k n1 i4 S).bind fun q3 =>
    (xs_wr S (k + 8) i4 q3).bind fun S4 =>
    xf_R_rootCode_3 k n1 n2 n3 f (i4 + 1) S4)
def xf_R_rootCode (k : Nat) (n1 : Int32) (n2 : Int32) (n3 : Int32) (S : xs_T) : Option (xs_T) :=
  xf_R_rootCode_3 k n1 n2 n3 xs_fuel 0 S
def xf_R_endsWithCode_42 (k : Nat) (n1 : Int32) (S : xs_T) (c4 : Int32 → Int32 → Option (Int32)) (i3 : Int32) (t0 : Int32) : Option (Int32) :=
  c4 t0 (i3 + 1)
def xf_R_endsWithCode_41 (k : Nat) (n1 : Int32) (S : xs_T) (c4 : Int32 → Int32 → Option (Int32)) (i3 : Int32) : Option (Int32) :=
  xf_R_endsWithCode_42 k n1 S c4 i3 0
def xf_R_endsWithCode_4 (k : Nat) (n1 : Int32) (S : xs_T) : Nat → Int32 → Int32 → Option (Int32)
  | 0, _, _ => none
  | f + 1, i2, i3 =>
    if 4 ≤ i3 then
    (xs_rb i2)
    else
    (if i2 = 0 then
    (xf_R_endsWithCode_41 k n1 S (xf_R_endsWithCode_4 k n1 S f) i3)
    else
    ((xs_rd S (k + 10) n1).bind fun v3 =>
    (xf_R_at k n1 ((v3 - 4) + i3) S).bind fun q4 =>
    (xs_rd S (k + 6) i3).bind fun v5 =>
    if q4 = v5 then
    (xf_R_endsWithCode_42 k n1 S (xf_R_endsWithCode_4 k n1 S f) i3 1)
    else
    (xf_R_endsWithCode_41 k n1 S (xf_R_endsWithCode_4 k n1 S f) i3)))
def xf_R_endsWithCode (k : Nat) (n1 : Int32) (S : xs_T) : Option (Int32) :=
  xf_R_endsWithCode_4 k n1 S xs_fuel 1 0
def xf_R_enciphered_61 (k : Nat) (n1 : Int64) (n3 : Int32) (n4 : Int32) (n5 : Int32) (n6 : Int32) (n7 : Int32) : Nat → Int64 → Int32 → xs_T → Option (Int64 × xs_T)
  | 0, _, _, _ => none
  | f + 1, i8, i10, S =>
    if n3 ≤ i10 then
    (some (i8, S))
    else
    ((xs_rd S (k + 4) i10).bind fun v6 =>
    (some (i8 ||| (xs_lshl (((xs_lshr n1 (8 * i10)) &&& 255) ^^^ (Int32.toInt64 v6)) (8 * i10)))).bind fun v7 =>
    xf_R_enciphered_61 k n1 n3 n4 n5 n6 n7 f v7 (i10 + 1) S)
def xf_R_enciphered_22 (k : Nat) (n1 : Int64) (n3 : Int32) (n4 : Int32) (n5 : Int32) (n6 : Int32) (n7 : Int32) : Nat → Int32 → xs_T → Option (Int64 × xs_T)
  | 0, _, _ => none
  | f + 1, i8, S =>
    if 16 ≤ i8 then
    ((xf_R_cipher k n4 S).bind fun q4 =>
    xf_R_enciphered_61 k n1 n3 n4 n5 n6 n7 xs_fuel 0 0 q4)
    else
    ((xs_rd S (k + 8) i8).bind fun v8 =>
    (xs_wr S (k + 4) i8 v8).bind fun S9 =>
    xf_R_enciphered_22 k n1 n3 n4 n5 n6 n7 f (i8 + 1) S9)
def xf_R_enciphered (k : Nat) (n1 : Int64) (n3 : Int32) (n4 : Int32) (n5 : Int32) (n6 : Int32) (n7 : Int32) (S : xs_T) : Option (Int64 × xs_T) :=
  (xf_R_rowHead k 1 n5 n6 n7 S).bind fun q1 =>
  (xs_wr q1 (k + 8) 15 1).bind fun S2 =>
  xf_R_enciphered_22 k n1 n3 n4 n5 n6 n7 xs_fuel 0 S2
def xf_R_begin (k : Nat) (n1 : Int32) (n2 : Int32) (n3 : Int32) (n4 : Int32) (n5 : Int32) (S : xs_T) : Option (xs_T) :=
  (xs_wr S (k + 10) n1 0).bind fun S1 =>
  (xf_R_write k n1 n2 S1).bind fun q2 =>
  (xf_R_writeNumber k n1 n3 4 q2).bind fun q3 =>
  (xf_R_write k n1 n4 q3).bind fun q4 =>
  (xf_R_writeNumber k n1 n5 2 q4).bind fun q5 =>
  some q5
def xf_R_finish_90 (k : Nat) (n1 : Int32) (n2 : Int64) (n4 : Int32) (n5 : Int32) (n6 : Int32) (n7 : Int32) (n8 : Int32) : Nat → Int32 → xs_T → Option (xs_T)
  | 0, _, _ => none
  | f + 1, i12, S =>
    if 4 ≤ i12 then
    (some S)
    else
    ((xs_rd S (k + 6) i12).bind fun v7 =>
    (xf_R_write k n1 v7 S).bind fun q8 =>
    xf_R_finish_90 k n1 n2 n4 n5 n6 n7 n8 f (i12 + 1) q8)
def xf_R_finish_33 (k : Nat) (n1 : Int32) (n2 : Int64) (n4 : Int32) (n5 : Int32) (n6 : Int32) (n7 : Int32) (n8 : Int32) : Nat → Int64 → Int32 → xs_T → Option (xs_T)
  | 0, _, _, _ => none
  | f + 1, i9, i11, S =>
    if n4 ≤ i11 then
    ((xs_rd S (k + 10) n1).bind fun v4 =>
    (xf_R_dataCode k n1 v4 n5 n6 n7 n8 S).bind fun q5 =>
    xf_R_finish_90 k n1 n2 n4 n5 n6 n7 n8 xs_fuel 0 q5)
    else
    ((xf_R_write k n1 (Int64.toInt32 ((xs_lshr i9 (8 * i11)) &&& 255)) S).bind fun q9 =>
    xf_R_finish_33 k n1 n2 n4 n5 n6 n7 n8 f i9 (i11 + 1) q9)
def xf_R_finish_30 (k : Nat) (n1 : Int32) (n2 : Int64) (n4 : Int32) (n5 : Int32) (n6 : Int32) (n7 : Int32) (n8 : Int32) (i9 : Int64) (S : xs_T) : Option (xs_T) :=
  xf_R_finish_33 k n1 n2 n4 n5 n6 n7 n8 xs_fuel i9 0 S
def xf_R_finish (k : Nat) (n1 : Int32) (n2 : Int64) (n4 : Int32) (n5 : Int32) (n6 : Int32) (n7 : Int32) (n8 : Int32) (S : xs_T) : Option (xs_T) :=
  (xf_R_enciphered k n2 n4 (n5 + 1) n6 n7 n8 S).bind fun q1 =>
  if n4 ≤ 0 then
  (xf_R_finish_30 k n1 n2 n4 n5 n6 n7 n8 q1.1 q1.2)
  else
  ((xf_R_write k n1 1 q1.2).bind fun q10 =>
  xf_R_finish_30 k n1 n2 n4 n5 n6 n7 n8 q1.1 q10)
def xf_R_payloadOf_34 (k : Nat) (n1 : Int32) (S : xs_T) (t0 : Int32) : Option (Int32) :=
  if t0 = 0 then
  (some 0)
  else
  (if t0 < 2 then
  (some (-1))
  else
  (if 9 < t0 then
  (some (-1))
  else
  (some (t0 - 1))))
def xf_R_payloadOf (k : Nat) (n1 : Int32) (S : xs_T) : Option (Int32) :=
  (xs_rd S (k + 10) n1).bind fun v1 =>
  if 12 ≤ v1 then
  ((xs_rd S (k + 10) n1).bind fun v3 =>
  (xf_R_at k n1 5 S).bind fun q4 =>
  xf_R_payloadOf_34 k n1 S ((v3 - 12) - (xs_rem q4 16)))
  else
  (xf_R_payloadOf_34 k n1 S (-1))
def xf_R_payloadAt_5 (k : Nat) (n1 : Int32) (n2 : Int32) (S : xs_T) : Nat → Int64 → Int32 → Option (Int64)
  | 0, _, _ => none
  | f + 1, i3, i5 =>
    if n2 ≤ i5 then
    (some i3)
    else
    ((xf_R_at k n1 5 S).bind fun q2 =>
    (xf_R_at k n1 ((9 + (xs_rem q2 16)) + i5) S).bind fun q3 =>
    (some (i3 ||| (xs_lshl (Int32.toInt64 q3) (8 * i5)))).bind fun v4 =>
    xf_R_payloadAt_5 k n1 n2 S f v4 (i5 + 1))
def xf_R_payloadAt (k : Nat) (n1 : Int32) (n2 : Int32) (S : xs_T) : Option (Int64) :=
  xf_R_payloadAt_5 k n1 n2 S xs_fuel 0 0
def xf_R_receive (k : Nat) (n1 : Int32) (n2 : Int64) (S : xs_T) : Option (xs_T) :=
  (xs_rd S (k + 34) n1).bind fun v1 =>
  (xs_wrL S (k + 35) ((4 * n1) + (xs_rem v1 4)) n2).bind fun S2 =>
  (xs_rd S2 (k + 34) n1).bind fun v3 =>
  (xs_wr S2 (k + 34) n1 (v3 + 1)).bind fun S4 =>
  some S4
def xf_R_below (n0 : Int32) (n1 : Int32) : Option (Int32) :=
  if n0 < 0 then
  (xs_rb 0)
  else
  (if n1 ≤ n0 then
  (xs_rb 0)
  else
  (xs_rb 1))
def xf_R_transmit (k : Nat) (n1 : Int32) (S : xs_T) : Option (xs_T) :=
  (xs_wr S (k + 11) (20 + n1) 3).bind fun S1 =>
  (xs_wrZ S1 (k + 13) n1 1).bind fun S2 =>
  (xs_wr S2 (k + 14) n1 (xs_gI S2 k 8)).bind fun S3 =>
  (xs_rd S3 (k + 15) n1).bind fun v4 =>
  (xs_wr S3 (k + 15) n1 (v4 + 1)).bind fun S5 =>
  (xf_R_post k (20 + n1) S5).bind fun q6 =>
  some q6
def xf_R_join_115 (k : Nat) (n1 : Int32) : Nat → Int32 → Int32 → xs_T → Option (Int32 × xs_T)
  | 0, _, _, _ => none
  | f + 1, i2, i3, S =>
    if 4 ≤ i3 then
    ((xs_wr S (k + 15) n1 0).bind fun S18 =>
    (xf_R_transmit k n1 S18).bind fun q19 =>
    (xs_rd q19 (k + 16) n1).bind fun v20 =>
    some (v20, q19))
    else
    ((xs_rd S (k + 6) i3).bind fun v21 =>
    (xf_R_write k i2 v21 S).bind fun q22 =>
    xf_R_join_115 k n1 f i2 (i3 + 1) q22)
def xf_R_join_61 (k : Nat) (n1 : Int32) : Nat → Int32 → Int32 → xs_T → Option (Int32 × xs_T)
  | 0, _, _, _ => none
  | f + 1, i2, i3, S =>
    if 9 ≤ i3 then
    ((xf_R_writeNumber k i2 n1 4 S).bind fun q12 =>
    (xf_R_writeNumber k i2 0 4 q12).bind fun q13 =>
    (xs_rd q13 (k + 16) n1).bind fun v14 =>
    (xf_R_writeNumber k i2 v14 2 q13).bind fun q15 =>
    (xf_R_rootCode k i2 19 n1 q15).bind fun q16 =>
    xf_R_join_115 k n1 xs_fuel i2 0 q16)
    else
    ((xf_R_write k i2 0 S).bind fun q23 =>
    xf_R_join_61 k n1 f i2 (i3 + 1) q23)
def xf_R_join (k : Nat) (n1 : Int32) (S : xs_T) : Option (Int32 × xs_T) :=
  (xf_R_below n1 3).bind fun q1 =>
  if q1 = 0 then
  (some ((-1), S))
  else
  ((xs_rd S (k + 13) n1).bind fun v3 =>
  if v3 = 0 then
  ((xs_rd S (k + 16) n1).bind fun v5 =>
  if v5 = 65535 then
  (some ((-1), S))
  else
  ((xs_rd S (k + 16) n1).bind fun v7 =>
  (xs_wr S (k + 16) n1 (v7 + 1)).bind fun S8 =>
  (xs_wr S8 (k + 12) n1 1).bind fun S9 =>
  (xs_wr S9 (k + 10) (20 + n1) 0).bind fun S10 =>
  xf_R_join_61 k n1 xs_fuel (20 + n1) 0 S10))
  else
  (some ((-1), S)))
def xf_R_send_104 (k : Nat) (n1 : Int32) (n2 : Int64) (n4 : Int32) (n5 : Int32) (n6 : Int32) (i7 : Int32) (i8 : Int32) (S : xs_T) : Option (Int32 × xs_T) :=
  (xs_rd S (k + 18) n1).bind fun v15 =>
  (xf_R_finish k i7 n2 n4 (3 + (2 * n1)) 0 v15 i8 S).bind fun q16 =>
  (xs_rd q16 (k + 19) n1).bind fun v17 =>
  (xs_wr q16 (k + 19) n1 (v17 + 1)).bind fun S18 =>
  (xs_wr S18 (k + 15) n1 0).bind fun S19 =>
  (xf_R_transmit k n1 S19).bind fun q20 =>
  some (i8, q20)
def xf_R_send_87 (k : Nat) (n1 : Int32) (n2 : Int64) (n4 : Int32) (n5 : Int32) (n6 : Int32) (i7 : Int32) (i8 : Int32) (t1 : Int32) (t2 : Int32) (t3 : Int32) (t4 : Int32) (S : xs_T) : Option (Int32 × xs_T) :=
  (xf_R_begin k t1 t2 t3 t4 i8 S).bind fun q13 =>
  if n6 = 0 then
  (xf_R_send_104 k n1 n2 n4 n5 n6 i7 i8 q13)
  else
  ((xf_R_write k i7 2 q13).bind fun q21 =>
  xf_R_send_104 k n1 n2 n4 n5 n6 i7 i8 q21)
def xf_R_send_71 (k : Nat) (n1 : Int32) (n2 : Int64) (n4 : Int32) (n5 : Int32) (n6 : Int32) (i7 : Int32) (i8 : Int32) (t1 : Int32) (t2 : Int32) (S : xs_T) : Option (Int32 × xs_T) :=
  (xs_rd S (k + 18) n1).bind fun v11 =>
  if n6 = 0 then
  (xf_R_send_87 k n1 n2 n4 n5 n6 i7 i8 t1 t2 v11 0 S)
  else
  (xf_R_send_87 k n1 n2 n4 n5 n6 i7 i8 t1 t2 v11 1 S)
def xf_R_send (k : Nat) (n1 : Int32) (n2 : Int64) (n4 : Int32) (n5 : Int32) (n6 : Int32) (S : xs_T) : Option (Int32 × xs_T) :=
  (xf_R_below n1 3).bind fun q1 =>
  if q1 = 0 then
  (some ((-1), S))
  else
  ((xs_rd S (k + 12) n1).bind fun v3 =>
  if v3 = 2 then
  ((xs_rd S (k + 13) n1).bind fun v5 =>
  if v5 = 0 then
  (if n4 < 0 then
  (some ((-1), S))
  else
  (if n4 ≤ 8 then
  ((xs_rd S (k + 19) n1).bind fun v9 =>
  if n5 = 0 then
  (xf_R_send_71 k n1 n2 n4 n5 n6 (20 + n1) v9 (20 + n1) 64 S)
  else
  (xf_R_send_71 k n1 n2 n4 n5 n6 (20 + n1) v9 (20 + n1) 128 S))
  else
  (some ((-1), S))))
  else
  (some ((-1), S)))
  else
  (some ((-1), S)))
def xf_R_skip (k : Nat) (n1 : Int32) (n2 : Int32) (S : xs_T) : Option (Int32 × xs_T) :=
  (xf_R_below n1 3).bind fun q1 =>
  if q1 = 0 then
  (some ((-1), S))
  else
  ((xs_rd S (k + 12) n1).bind fun v3 =>
  if v3 = 2 then
  ((xs_rd S (k + 13) n1).bind fun v5 =>
  if v5 = 0 then
  (if n2 < 1 then
  (some ((-1), S))
  else
  (if n2 ≤ 70000 then
  ((xs_rd S (k + 19) n1).bind fun v9 =>
  (xs_wr S (k + 19) n1 (v9 + n2)).bind fun S10 =>
  (xs_rd S10 (k + 19) n1).bind fun v11 =>
  some (v11, S10))
  else
  (some ((-1), S))))
  else
  (some ((-1), S)))
  else
  (some ((-1), S)))
def xf_R_confirmed (k : Nat) (n1 : Int32) (S : xs_T) : Option (Int32) :=
  (xs_rd S (k + 12) n1).bind fun v1 =>
  if v1 = 2 then
  ((xf_R_at k (20 + n1) 0 S).bind fun q3 =>
  if q3 = 128 then
  (xs_rb 1)
  else
  (xs_rb 0))
  else
  (xs_rb 0)
def xf_R_timeOut_94 (k : Nat) (n1 : Int32) (S : xs_T) : Option (xs_T) :=
  (xf_R_confirmed k n1 S).bind fun q10 =>
  if q10 = 0 then
  (some S)
  else
  ((xf_R_transmit k n1 S).bind fun q12 =>
  some q12)
def xf_R_timeOut (k : Nat) (n1 : Int32) (S : xs_T) : Option (xs_T) :=
  (xs_rd S (k + 13) n1).bind fun v1 =>
  if v1 = 0 then
  (some S)
  else
  ((xs_rd S (k + 14) n1).bind fun v3 =>
  if (xs_gI S k 8) = (v3 + 3) then
  ((xs_wrZ S (k + 13) n1 0).bind fun S5 =>
  (xs_rd S5 (k + 12) n1).bind fun v6 =>
  if v6 = 1 then
  ((xs_wr S5 (k + 12) n1 0).bind fun S18 =>
  some S18)
  else
  ((xf_R_confirmed k n1 S5).bind fun q8 =>
  if q8 = 0 then
  (xf_R_timeOut_94 k n1 S5)
  else
  ((xs_rd S5 (k + 15) n1).bind fun v13 =>
  if v13 = 4 then
  ((xs_wr S5 (k + 12) n1 0).bind fun S15 =>
  (xs_rd S15 (k + 36) ((3 * n1) + 1)).bind fun v16 =>
  (xs_wr S15 (k + 36) ((3 * n1) + 1) (v16 + 1)).bind fun S17 =>
  some S17)
  else
  (xf_R_timeOut_94 k n1 S5))))
  else
  (some S))
def xf_R_takeAccept_61 (k : Nat) (n1 : Int32) : Nat → Int32 → xs_T → Option (xs_T)
  | 0, _, _ => none
  | f + 1, i2, S =>
    if 16 ≤ i2 then
    ((xf_R_rootCode k 23 13 n1 S).bind fun q8 =>
    (xf_R_numberAt k 23 1 3 q8).bind fun q9 =>
    (xf_R_endsWithCode k 23 q8).bind fun q10 =>
    if q10 = 0 then
    (some q8)
    else
    ((xs_rd q8 (k + 17) n1).bind fun v12 =>
    if v12 < q9 then
    ((xs_wr q8 (k + 17) n1 q9).bind fun S14 =>
    (xf_R_numberAt k 23 7 4 S14).bind fun q15 =>
    (xs_wr S14 (k + 18) n1 q15).bind fun S16 =>
    (xs_rd S16 (k + 16) n1).bind fun v17 =>
    (xf_R_derive k n1 q9 v17 (3 + (2 * n1)) S16).bind fun q18 =>
    (xs_wr q18 (k + 12) n1 2).bind fun S19 =>
    (xs_wrZ S19 (k + 13) n1 0).bind fun S20 =>
    (xs_wr S20 (k + 19) n1 0).bind fun S21 =>
    (xs_wr S21 (k + 20) n1 (-1)).bind fun S22 =>
    some S22)
    else
    (some q8)))
    else
    ((xs_rd S (k + 4) i2).bind fun v23 =>
    (xs_wr S (k + 9) (737 + i2) v23).bind fun S24 =>
    xf_R_takeAccept_61 k n1 f (i2 + 1) S24)
def xf_R_takeAccept_27 (k : Nat) (n1 : Int32) : Nat → Int32 → xs_T → Option (xs_T)
  | 0, _, _ => none
  | f + 1, i2, S =>
    if 16 ≤ i2 then
    ((xf_R_cipher k n1 S).bind fun q6 =>
    xf_R_takeAccept_61 k n1 xs_fuel 0 q6)
    else
    ((xf_R_at k 23 (1 + i2) S).bind fun q25 =>
    (xs_wr S (k + 4) i2 q25).bind fun S26 =>
    xf_R_takeAccept_27 k n1 f (i2 + 1) S26)
def xf_R_takeAccept (k : Nat) (n1 : Int32) (S : xs_T) : Option (xs_T) :=
  (xs_rd S (k + 10) 23).bind fun v1 =>
  if v1 = 17 then
  ((xf_R_at k 23 0 S).bind fun q3 =>
  if q3 = 32 then
  (xf_R_takeAccept_27 k n1 xs_fuel 0 S)
  else
  (some S))
  else
  (some S)
def xf_R_ending (n0 : Int32) (n1 : Int32) : Option (Int32) :=
  (some ((n1 - (xs_rem n1 65536)) + n0)).bind fun v1 =>
  if n1 ≤ v1 then
  (some v1)
  else
  (some (v1 + 65536))
def xf_R_takeData_235 (k : Nat) (n1 : Int32) (i5 : Int32) (S : xs_T) : Option (xs_T) :=
  (xf_R_confirmed k n1 S).bind fun q23 =>
  if q23 = 0 then
  ((xs_wrZ S (k + 13) n1 0).bind fun S25 =>
  some S25)
  else
  (if i5 = 0 then
  ((xs_wrZ S (k + 13) n1 1).bind fun S28 =>
  some S28)
  else
  ((xs_wrZ S (k + 13) n1 0).bind fun S27 =>
  some S27))
def xf_R_takeData_208 (k : Nat) (n1 : Int32) (t0 : Int32) (S : xs_T) : Option (xs_T) :=
  (xf_R_confirmed k n1 S).bind fun q21 =>
  if q21 = 0 then
  (xf_R_takeData_235 k n1 t0 S)
  else
  (if t0 = 0 then
  (xf_R_takeData_235 k n1 t0 S)
  else
  ((xs_rd S (k + 36) (3 * n1)).bind fun v30 =>
  (xs_wr S (k + 36) (3 * n1) (v30 + 1)).bind fun S31 =>
  xf_R_takeData_235 k n1 t0 S31))
def xf_R_takeData_195 (k : Nat) (n1 : Int32) (i4 : Int32) (S : xs_T) : Option (xs_T) :=
  if (i4 &&& 32) = 0 then
  (xf_R_takeData_208 k n1 0 S)
  else
  (xf_R_takeData_208 k n1 1 S)
def xf_R_takeData_147 (k : Nat) (n1 : Int32) (S : xs_T) : Option (xs_T) :=
  (xf_R_at k 23 5 S).bind fun q18 =>
  if (xs_rem q18 16) = 3 then
  ((xf_R_at k 23 8 S).bind fun q32 =>
  if q32 = 2 then
  ((xf_R_at k 23 10 S).bind fun q34 =>
  (xs_wr S (k + 36) ((3 * n1) + 2) q34).bind fun S35 =>
  xf_R_takeData_195 k n1 q18 S35)
  else
  (xf_R_takeData_195 k n1 q18 S))
  else
  (xf_R_takeData_195 k n1 q18 S)
def xf_R_takeData (k : Nat) (n1 : Int32) (S : xs_T) : Option (xs_T) :=
  (xf_R_payloadOf k 23 S).bind fun q1 =>
  if q1 < 0 then
  (some S)
  else
  ((xf_R_at k 23 0 S).bind fun q3 =>
  if q3 = 96 then
  ((xf_R_numberAt k 23 1 4 S).bind fun q5 =>
  (xs_rd S (k + 18) n1).bind fun v6 =>
  if q5 = v6 then
  ((xf_R_numberAt k 23 6 2 S).bind fun q8 =>
  (xs_rd S (k + 20) n1).bind fun v9 =>
  (xf_R_ending q8 (v9 + 1)).bind fun q10 =>
  (xs_rd S (k + 10) 23).bind fun v11 =>
  (xs_rd S (k + 18) n1).bind fun v12 =>
  (xf_R_dataCode k 23 (v11 - 4) (3 + (2 * n1)) 1 v12 q10 S).bind fun q13 =>
  (xf_R_endsWithCode k 23 q13).bind fun q14 =>
  if q14 = 0 then
  (some q13)
  else
  ((xs_wr q13 (k + 20) n1 q10).bind fun S16 =>
  if q1 ≤ 0 then
  (xf_R_takeData_147 k n1 S16)
  else
  ((xf_R_payloadAt k 23 q1 S16).bind fun q36 =>
  (xs_rd S16 (k + 18) n1).bind fun v37 =>
  (xf_R_enciphered k q36 q1 (4 + (2 * n1)) 1 v37 q10 S16).bind fun q38 =>
  (xf_R_receive k (3 + n1) q38.1 q38.2).bind fun q39 =>
  xf_R_takeData_147 k n1 q39)))
  else
  (some S))
  else
  (some S))
def xf_R_reach_109 (k : Nat) (n1 : Int32) (i2 : Int32) (i3 : Int32) (S : xs_T) : Option (Int32 × xs_T) :=
  if i3 = 0 then
  (xs_rz 1 S)
  else
  ((xs_rd S (k + 12) i2).bind fun v12 =>
  if v12 = 2 then
  ((xf_R_takeData k i2 S).bind fun q14 =>
  xs_rz 1 q14)
  else
  (xs_rz 1 S))
def xf_R_reach_86 (k : Nat) (n1 : Int32) (i2 : Int32) (t0 : Int32) (S : xs_T) : Option (Int32 × xs_T) :=
  if t0 = 0 then
  (xf_R_reach_109 k n1 i2 t0 S)
  else
  ((xs_rd S (k + 12) i2).bind fun v15 =>
  if v15 = 1 then
  ((xf_R_takeAccept k i2 S).bind fun q17 =>
  xs_rz 1 q17)
  else
  (xf_R_reach_109 k n1 i2 t0 S))
def xf_R_reach_85 (k : Nat) (n1 : Int32) (i2 : Int32) (S : xs_T) : Option (Int32 × xs_T) :=
  xf_R_reach_86 k n1 i2 0 S
def xf_R_reach_81 (k : Nat) (n1 : Int32) (i2 : Int32) (S : xs_T) : Option (Int32 × xs_T) :=
  xf_R_reach_86 k n1 i2 1 S
def xf_R_reach (k : Nat) (n1 : Int32) (S : xs_T) : Option (Int32 × xs_T) :=
  (xf_R_below n1 (xs_gI S k 12)).bind fun q1 =>
  if q1 = 0 then
  (xs_rz 0 S)
  else
  ((xs_rd S (k + 11) n1).bind fun v3 =>
  if v3 = 3 then
  (xs_rz 0 S)
  else
  ((xs_rd S (k + 11) n1).bind fun v5 =>
  (xf_R_copyFrame k n1 23 S).bind fun q6 =>
  (xf_R_leave k n1 q6).bind fun q7 =>
  (xs_rd q7 (k + 13) v5).bind fun v8 =>
  if v8 = 0 then
  (xf_R_reach_85 k n1 v5 q7)
  else
  ((xs_rd q7 (k + 14) v5).bind fun v18 =>
  if (xs_gI q7 k 8) = (v18 + 1) then
  (xf_R_reach_81 k n1 v5 q7)
  else
  ((xs_rd q7 (k + 14) v5).bind fun v20 =>
  if (xs_gI q7 k 8) = (v20 + 2) then
  (xf_R_reach_81 k n1 v5 q7)
  else
  (xf_R_reach_85 k n1 v5 q7)))))
def xf_R_queue (k : Nat) (n1 : Int32) (n2 : Int64) (n4 : Int32) (S : xs_T) : Option (Int32 × xs_T) :=
  (xf_R_below n1 3).bind fun q1 =>
  if q1 = 0 then
  (some ((-1), S))
  else
  (if n4 < 1 then
  (some ((-1), S))
  else
  (if 8 < n4 then
  (some ((-1), S))
  else
  ((xs_rd S (k + 33) n1).bind fun v5 =>
  if v5 = 4 then
  (some ((-1), S))
  else
  ((xs_rd S (k + 33) n1).bind fun v7 =>
  (xs_wrL S (k + 31) ((4 * n1) + v7) n2).bind fun S8 =>
  (xs_rd S8 (k + 33) n1).bind fun v9 =>
  (xs_wr S8 (k + 32) ((4 * n1) + v9) n4).bind fun S10 =>
  (xs_rd S10 (k + 33) n1).bind fun v11 =>
  (xs_wr S10 (k + 33) n1 (v11 + 1)).bind fun S12 =>
  (xs_rd S12 (k + 33) n1).bind fun v13 =>
  some (v13, S12)))))
def xf_R_zeros_32 (k : Nat) (n1 : Int32) (n2 : Int32) (n3 : Int32) (S : xs_T) (c6 : Int32 → Int32 → Option (Int32)) (i5 : Int32) (t0 : Int32) : Option (Int32) :=
  c6 t0 (i5 + 1)
def xf_R_zeros_31 (k : Nat) (n1 : Int32) (n2 : Int32) (n3 : Int32) (S : xs_T) (c6 : Int32 → Int32 → Option (Int32)) (i5 : Int32) : Option (Int32) :=
  xf_R_zeros_32 k n1 n2 n3 S c6 i5 0
def xf_R_zeros_6 (k : Nat) (n1 : Int32) (n2 : Int32) (n3 : Int32) (S : xs_T) : Nat → Int32 → Int32 → Option (Int32)
  | 0, _, _ => none
  | f + 1, i4, i5 =>
    if n3 ≤ i5 then
    (xs_rb i4)
    else
    (if i4 = 0 then
    (xf_R_zeros_31 k n1 n2 n3 S (xf_R_zeros_6 k n1 n2 n3 S f) i5)
    else
    ((xf_R_at k n1 i5 S).bind fun q3 =>
    if q3 = 0 then
    (xf_R_zeros_32 k n1 n2 n3 S (xf_R_zeros_6 k n1 n2 n3 S f) i5 1)
    else
    (xf_R_zeros_31 k n1 n2 n3 S (xf_R_zeros_6 k n1 n2 n3 S f) i5)))
def xf_R_zeros (k : Nat) (n1 : Int32) (n2 : Int32) (n3 : Int32) (S : xs_T) : Option (Int32) :=
  xf_R_zeros_6 k n1 n2 n3 S xs_fuel 1 n2
def xf_R_heardJoin (k : Nat) (S : xs_T) : Option (xs_T) :=
  (xf_R_at k 23 9 S).bind fun q1 =>
  (xs_rd S (k + 10) 23).bind fun v2 =>
  if v2 = 23 then
  ((xf_R_zeros k 23 1 9 S).bind fun q4 =>
  if q4 = 0 then
  (some S)
  else
  (if 2 < q1 then
  (some S)
  else
  ((xf_R_zeros k 23 10 17 S).bind fun q7 =>
  if q7 = 0 then
  (some S)
  else
  ((xf_R_rootCode k 23 19 q1 S).bind fun q9 =>
  (xf_R_numberAt k 23 17 2 q9).bind fun q10 =>
  (xf_R_endsWithCode k 23 q9).bind fun q11 =>
  if q11 = 0 then
  (some q9)
  else
  ((xs_rd q9 (k + 26) q1).bind fun v13 =>
  if v13 < q10 then
  ((xs_wr q9 (k + 26) q1 q10).bind fun S15 =>
  (some (xs_sI S15 k 23 ((xs_gI S15 k 23) + 1))).bind fun S16 =>
  (xs_rd S16 (k + 21) q1).bind fun v17 =>
  (xs_wr S16 (k + 21) q1 (v17 + 1)).bind fun S18 =>
  (xs_wr S18 (k + 23) q1 (xs_gI S18 k 23)).bind fun S19 =>
  (xs_rd S19 (k + 21) q1).bind fun v20 =>
  (xs_wr S19 (k + 22) q1 (((q1 + 1) + ((xs_rem v20 256) <<< ((8 : Int32) &&& 31) : Int32)) + 637534208)).bind fun S21 =>
  (xf_R_derive k q1 (xs_gI S21 k 23) q10 (9 + (2 * q1)) S21).bind fun q22 =>
  (xs_wr q22 (k + 24) q1 (-1)).bind fun S23 =>
  (xs_wr S23 (k + 25) q1 0).bind fun S24 =>
  (xs_wr S24 (k + 28) q1 1).bind fun S25 =>
  some S25)
  else
  (some q9))))))
  else
  (some S)
def xf_R_deviceOf_33 (k : Nat) (n1 : Int32) (S : xs_T) (c4 : Int32 → Int32 → Option (Int32)) (i3 : Int32) (t0 : Int32) : Option (Int32) :=
  c4 t0 (i3 + 1)
def xf_R_deviceOf_32 (k : Nat) (n1 : Int32) (S : xs_T) (c4 : Int32 → Int32 → Option (Int32)) (i2 : Int32) (i3 : Int32) : Option (Int32) :=
  xf_R_deviceOf_33 k n1 S c4 i3 i2
def xf_R_deviceOf_4 (k : Nat) (n1 : Int32) (S : xs_T) : Nat → Int32 → Int32 → Option (Int32)
  | 0, _, _ => none
  | f + 1, i2, i3 =>
    if 3 ≤ i3 then
    (some i2)
    else
    ((xs_rd S (k + 21) i3).bind fun v2 =>
    if v2 ≤ 0 then
    (xf_R_deviceOf_32 k n1 S (xf_R_deviceOf_4 k n1 S f) i2 i3)
    else
    ((xs_rd S (k + 22) i3).bind fun v4 =>
    if v4 = n1 then
    (xf_R_deviceOf_33 k n1 S (xf_R_deviceOf_4 k n1 S f) i3 i3)
    else
    (xf_R_deviceOf_32 k n1 S (xf_R_deviceOf_4 k n1 S f) i2 i3)))
def xf_R_deviceOf (k : Nat) (n1 : Int32) (S : xs_T) : Option (Int32) :=
  xf_R_deviceOf_4 k n1 S xs_fuel (-1) 0
def xf_R_heardData_305 (k : Nat) (n1 : Int32) (i3 : Int32) (i6 : Int32) (t1 : Int32) (t2 : Int32) (S : xs_T) : Option (xs_T) :=
  (xs_wrZ S (k + 30) t1 t2).bind fun S26 =>
  if i6 = 0 then
  ((xs_rd S26 (k + 30) i3).bind fun v29 =>
  if v29 = 0 then
  ((xs_rd S26 (k + 33) i3).bind fun v32 =>
  if v32 ≤ 0 then
  ((xs_wr S26 (k + 28) i3 0).bind fun S34 =>
  some S34)
  else
  ((xs_wr S26 (k + 28) i3 2).bind fun S35 =>
  some S35))
  else
  ((xs_wr S26 (k + 28) i3 2).bind fun S31 =>
  some S31))
  else
  ((xs_wr S26 (k + 28) i3 2).bind fun S28 =>
  some S28)
def xf_R_heardData_304 (k : Nat) (n1 : Int32) (i3 : Int32) (i6 : Int32) (t1 : Int32) (S : xs_T) : Option (xs_T) :=
  xf_R_heardData_305 k n1 i3 i6 t1 0 S
def xf_R_heardData_261 (k : Nat) (n1 : Int32) (i3 : Int32) (i6 : Int32) (S : xs_T) : Option (xs_T) :=
  (xs_wrZ S (k + 29) i3 i6).bind fun S23 =>
  (xf_R_at k 23 5 S23).bind fun q24 =>
  if (xs_rem q24 16) = 1 then
  ((xf_R_at k 23 8 S23).bind fun q36 =>
  if q36 = 2 then
  (xf_R_heardData_305 k n1 i3 i6 i3 1 S23)
  else
  (xf_R_heardData_304 k n1 i3 i6 i3 S23))
  else
  (xf_R_heardData_304 k n1 i3 i6 i3 S23)
def xf_R_heardData_188 (k : Nat) (n1 : Int32) (i3 : Int32) (t1 : Int32) (t2 : Int32) (S : xs_T) : Option (xs_T) :=
  (xs_wrZ S (k + 30) t1 t2).bind fun S47 =>
  (xs_wrZ S47 (k + 29) i3 1).bind fun S48 =>
  (xs_wr S48 (k + 28) i3 2).bind fun S49 =>
  some S49
def xf_R_heardData_187 (k : Nat) (n1 : Int32) (i3 : Int32) (t1 : Int32) (S : xs_T) : Option (xs_T) :=
  xf_R_heardData_188 k n1 i3 t1 0 S
def xf_R_heardData_129 (k : Nat) (n1 : Int32) (i2 : Int32) (i3 : Int32) (i5 : Int32) (t0 : Int32) (S : xs_T) : Option (xs_T) :=
  (xs_rd S (k + 24) i3).bind fun v18 =>
  if i5 = v18 then
  ((xs_rd S (k + 27) i3).bind fun v42 =>
  (xs_wr S (k + 27) i3 (v42 ||| (1 <<< ((n1 : Int32) &&& 31) : Int32))).bind fun S43 =>
  if t0 = 0 then
  (some S43)
  else
  ((xs_rd S43 (k + 28) i3).bind fun v45 =>
  if v45 = 2 then
  ((xs_rd S43 (k + 30) i3).bind fun v50 =>
  if v50 = 0 then
  (xf_R_heardData_187 k n1 i3 i3 S43)
  else
  (xf_R_heardData_188 k n1 i3 i3 1 S43))
  else
  (xf_R_heardData_187 k n1 i3 i3 S43)))
  else
  ((xs_wr S (k + 24) i3 i5).bind fun S20 =>
  (xs_wr S20 (k + 27) i3 (1 <<< ((n1 : Int32) &&& 31) : Int32)).bind fun S21 =>
  if i2 ≤ 0 then
  (xf_R_heardData_261 k n1 i3 t0 S21)
  else
  ((xf_R_payloadAt k 23 i2 S21).bind fun q38 =>
  (xs_rd S21 (k + 22) i3).bind fun v39 =>
  (xf_R_enciphered k q38 i2 (10 + (2 * i3)) 0 v39 i5 S21).bind fun q40 =>
  (xf_R_receive k i3 q40.1 q40.2).bind fun q41 =>
  xf_R_heardData_261 k n1 i3 t0 q41))
def xf_R_heardData_69 (k : Nat) (n1 : Int32) (i2 : Int32) (i3 : Int32) (t0 : Int32) (S : xs_T) : Option (xs_T) :=
  (xs_rd S (k + 10) 23).bind fun v11 =>
  (xs_rd S (k + 22) i3).bind fun v12 =>
  (xf_R_dataCode k 23 (v11 - 4) (9 + (2 * i3)) 0 v12 t0 S).bind fun q13 =>
  (xf_R_endsWithCode k 23 q13).bind fun q14 =>
  if q14 = 0 then
  (some q13)
  else
  ((xf_R_at k 23 0 q13).bind fun q16 =>
  if q16 = 128 then
  (xf_R_heardData_129 k n1 i2 i3 t0 1 q13)
  else
  (xf_R_heardData_129 k n1 i2 i3 t0 0 q13))
def xf_R_heardData_27 (k : Nat) (n1 : Int32) (i2 : Int32) (t0 : Int32) (S : xs_T) : Option (xs_T) :=
  if 0 ≤ t0 then
  ((xf_R_numberAt k 23 6 2 S).bind fun q6 =>
  (xs_rd S (k + 24) t0).bind fun v7 =>
  if 0 ≤ v7 then
  ((xs_rd S (k + 24) t0).bind fun v9 =>
  (xf_R_ending q6 v9).bind fun q10 =>
  xf_R_heardData_69 k n1 i2 t0 q10 S)
  else
  (xf_R_heardData_69 k n1 i2 t0 q6 S))
  else
  (some S)
def xf_R_heardData (k : Nat) (n1 : Int32) (S : xs_T) : Option (xs_T) :=
  (xf_R_payloadOf k 23 S).bind fun q1 =>
  if 0 ≤ q1 then
  ((xf_R_numberAt k 23 1 4 S).bind fun q3 =>
  (xf_R_deviceOf k q3 S).bind fun q4 =>
  xf_R_heardData_27 k n1 q1 q4 S)
  else
  (xf_R_heardData_27 k n1 q1 (-1) S)
def xf_R_hear_70 (k : Nat) (n1 : Int32) (n2 : Int32) (S : xs_T) : Option (Int32 × xs_T) :=
  (xf_R_heardData k n2 S).bind fun q11 =>
  xs_rz 1 q11
def xf_R_hear (k : Nat) (n1 : Int32) (n2 : Int32) (S : xs_T) : Option (Int32 × xs_T) :=
  (xf_R_below n1 (xs_gI S k 12)).bind fun q1 =>
  if q1 = 0 then
  (xs_rz 0 S)
  else
  ((xf_R_below n2 2).bind fun q3 =>
  if q3 = 0 then
  (xs_rz 0 S)
  else
  ((xs_rd S (k + 11) n1).bind fun v5 =>
  if v5 = 3 then
  ((xf_R_copyFrame k n1 23 S).bind fun q7 =>
  (xf_R_at k 23 0 q7).bind fun q8 =>
  if q8 = 0 then
  ((xf_R_heardJoin k q7).bind fun q13 =>
  xs_rz 1 q13)
  else
  (if q8 = 64 then
  (xf_R_hear_70 k n1 n2 q7)
  else
  (if q8 = 128 then
  (xf_R_hear_70 k n1 n2 q7)
  else
  (xs_rz 1 q7))))
  else
  (xs_rz 0 S)))
def xf_R_sendAccept_135 (k : Nat) (n1 : Int32) : Nat → Int32 → xs_T → Option (xs_T)
  | 0, _, _ => none
  | f + 1, i2, S =>
    if 16 ≤ i2 then
    (some S)
    else
    ((xs_rd S (k + 4) i2).bind fun v15 =>
    (xs_wr S (k + 9) (737 + i2) v15).bind fun S16 =>
    xf_R_sendAccept_135 k n1 f (i2 + 1) S16)
def xf_R_sendAccept_101 (k : Nat) (n1 : Int32) : Nat → Int32 → xs_T → Option (xs_T)
  | 0, _, _ => none
  | f + 1, i2, S =>
    if 16 ≤ i2 then
    ((xf_R_decipher k n1 S).bind fun q13 =>
    xf_R_sendAccept_135 k n1 xs_fuel 0 q13)
    else
    ((xf_R_at k 23 (1 + i2) S).bind fun q17 =>
    (xs_wr S (k + 4) i2 q17).bind fun S18 =>
    xf_R_sendAccept_101 k n1 f (i2 + 1) S18)
def xf_R_sendAccept_76 (k : Nat) (n1 : Int32) : Nat → Int32 → xs_T → Option (xs_T)
  | 0, _, _ => none
  | f + 1, i2, S =>
    if 4 ≤ i2 then
    (xf_R_sendAccept_101 k n1 xs_fuel 0 S)
    else
    ((xs_rd S (k + 6) i2).bind fun v19 =>
    (xf_R_write k 23 v19 S).bind fun q20 =>
    xf_R_sendAccept_76 k n1 f (i2 + 1) q20)
def xf_R_sendAccept (k : Nat) (n1 : Int32) (S : xs_T) : Option (xs_T) :=
  (xs_wr S (k + 10) 23 0).bind fun S1 =>
  (xf_R_write k 23 32 S1).bind fun q2 =>
  (xs_rd q2 (k + 23) n1).bind fun v3 =>
  (xf_R_writeNumber k 23 v3 3 q2).bind fun q4 =>
  (xf_R_writeNumber k 23 19 3 q4).bind fun q5 =>
  (xs_rd q5 (k + 22) n1).bind fun v6 =>
  (xf_R_writeNumber k 23 v6 4 q5).bind fun q7 =>
  (xf_R_write k 23 0 q7).bind fun q8 =>
  (xf_R_write k 23 1 q8).bind fun q9 =>
  (xf_R_rootCode k 23 13 n1 q9).bind fun q10 =>
  xf_R_sendAccept_76 k n1 xs_fuel 0 q10
def xf_R_sendAnswer_218 (k : Nat) (n1 : Int32) : Nat → Int32 → xs_T → Option (xs_T)
  | 0, _, _ => none
  | f + 1, i5, S =>
    (xs_rd S (k + 33) n1).bind fun v23 =>
    if ((4 * n1) + v23) ≤ i5 then
    (some S)
    else
    ((xs_rdL S (k + 31) (i5 + 1)).bind fun v25 =>
    (xs_wrL S (k + 31) i5 v25).bind fun S26 =>
    (xs_rd S26 (k + 32) (i5 + 1)).bind fun v27 =>
    (xs_wr S26 (k + 32) i5 v27).bind fun S28 =>
    xf_R_sendAnswer_218 k n1 f (i5 + 1) S28)
def xf_R_sendAnswer_171 (k : Nat) (n1 : Int32) (i2 : Int32) (i4 : Int32) (t1 : Int32) (t2 : Int64) (t3 : Int32) (S : xs_T) : Option (xs_T) :=
  (xs_rd S (k + 22) n1).bind fun v16 =>
  (xf_R_finish k t1 t2 t3 (9 + (2 * n1)) 1 v16 i2 S).bind fun q17 =>
  (xs_rd q17 (k + 25) n1).bind fun v18 =>
  (xs_wr q17 (k + 25) n1 (v18 + 1)).bind fun S19 =>
  if i4 = 0 then
  (some S19)
  else
  ((xs_rd S19 (k + 33) n1).bind fun v21 =>
  (xs_wr S19 (k + 33) n1 (v21 - 1)).bind fun S22 =>
  xf_R_sendAnswer_218 k n1 xs_fuel (4 * n1) S22)
def xf_R_sendAnswer_154 (k : Nat) (n1 : Int32) (i2 : Int32) (i4 : Int32) (t1 : Int32) (t2 : Int64) (S : xs_T) : Option (xs_T) :=
  if i4 = 0 then
  (xf_R_sendAnswer_171 k n1 i2 i4 t1 t2 0 S)
  else
  ((xs_rd S (k + 32) (4 * n1)).bind fun v29 =>
  xf_R_sendAnswer_171 k n1 i2 i4 t1 t2 v29 S)
def xf_R_sendAnswer_132 (k : Nat) (n1 : Int32) (i2 : Int32) (t0 : Int32) (S : xs_T) : Option (xs_T) :=
  if t0 = 0 then
  (xf_R_sendAnswer_154 k n1 i2 t0 23 0 S)
  else
  ((xs_rdL S (k + 31) (4 * n1)).bind fun v30 =>
  xf_R_sendAnswer_154 k n1 i2 t0 23 v30 S)
def xf_R_sendAnswer_118 (k : Nat) (n1 : Int32) (i2 : Int32) (S : xs_T) : Option (xs_T) :=
  (xs_rd S (k + 33) n1).bind fun v12 =>
  if v12 ≤ 0 then
  (xf_R_sendAnswer_132 k n1 i2 0 S)
  else
  (xf_R_sendAnswer_132 k n1 i2 1 S)
def xf_R_sendAnswer_53 (k : Nat) (n1 : Int32) (i2 : Int32) (t0 : Int32) (t1 : Int32) (S : xs_T) : Option (xs_T) :=
  (xs_rd S (k + 22) n1).bind fun v8 =>
  (xf_R_begin k 23 96 v8 (t0 + t1) i2 S).bind fun q9 =>
  (xs_rd q9 (k + 30) n1).bind fun v10 =>
  if v10 = 0 then
  (xf_R_sendAnswer_118 k n1 i2 q9)
  else
  ((xf_R_write k 23 2 q9).bind fun q31 =>
  (xf_R_write k 23 10 q31).bind fun q32 =>
  (xs_rd q32 (k + 27) n1).bind fun v33 =>
  (xs_rd q32 (k + 27) n1).bind fun v34 =>
  (xf_R_write k 23 ((v33 &&& 1) + (v34 >>> ((1 : Int32) &&& 31) : Int32)) q32).bind fun q35 =>
  xf_R_sendAnswer_118 k n1 i2 q35)
def xf_R_sendAnswer_38 (k : Nat) (n1 : Int32) (i2 : Int32) (t0 : Int32) (t1 : Int32) (S : xs_T) : Option (xs_T) :=
  (xs_rd S (k + 30) n1).bind fun v6 =>
  if v6 = 0 then
  (xf_R_sendAnswer_53 k n1 i2 (t0 + t1) 0 S)
  else
  (xf_R_sendAnswer_53 k n1 i2 (t0 + t1) 3 S)
def xf_R_sendAnswer_22 (k : Nat) (n1 : Int32) (i2 : Int32) (t0 : Int32) (S : xs_T) : Option (xs_T) :=
  (xs_rd S (k + 33) n1).bind fun v4 =>
  if v4 ≤ 1 then
  (xf_R_sendAnswer_38 k n1 i2 t0 0 S)
  else
  (xf_R_sendAnswer_38 k n1 i2 t0 16 S)
def xf_R_sendAnswer (k : Nat) (n1 : Int32) (S : xs_T) : Option (xs_T) :=
  (xs_rd S (k + 25) n1).bind fun v1 =>
  (xs_rd S (k + 29) n1).bind fun v2 =>
  if v2 = 0 then
  (xf_R_sendAnswer_22 k n1 v1 0 S)
  else
  (xf_R_sendAnswer_22 k n1 v1 32 S)
def xf_R_tick_105 (k : Nat) (n1 : Int32) (c15 : Int32 → xs_T → Option (Int32 × xs_T)) : Nat → Int32 → Int32 → xs_T → Option (Int32 × xs_T)
  | 0, _, _, _ => none
  | f + 1, i2, i3, S =>
    if 3 ≤ i3 then
    (c15 (i2 + 1) S)
    else
    ((xf_R_timeOut k i3 S).bind fun q7 =>
    xf_R_tick_105 k n1 c15 f i2 (i3 + 1) q7)
def xf_R_tick_90 (k : Nat) (n1 : Int32) (c15 : Int32 → xs_T → Option (Int32 × xs_T)) (c32 : Int32 → Int32 → xs_T → Option (Int32 × xs_T)) (i2 : Int32) (i3 : Int32) (S : xs_T) : Option (Int32 × xs_T) :=
  (xs_wr S (k + 28) i3 0).bind fun S15 =>
  c32 i2 (i3 + 1) S15
def xf_R_tick_67 (k : Nat) (n1 : Int32) (c15 : Int32 → xs_T → Option (Int32 × xs_T)) (c32 : Int32 → Int32 → xs_T → Option (Int32 × xs_T)) (i2 : Int32) (i3 : Int32) (S : xs_T) : Option (Int32 × xs_T) :=
  (xs_wr S (k + 11) 23 i3).bind fun S12 =>
  (xs_rd S12 (k + 28) i3).bind fun v13 =>
  if v13 = 0 then
  (xf_R_tick_90 k n1 c15 c32 i2 i3 S12)
  else
  ((xf_R_post k 23 S12).bind fun q16 =>
  xf_R_tick_90 k n1 c15 c32 i2 i3 q16)
def xf_R_tick_52 (k : Nat) (n1 : Int32) (c15 : Int32 → xs_T → Option (Int32 × xs_T)) (c32 : Int32 → Int32 → xs_T → Option (Int32 × xs_T)) (i2 : Int32) (i3 : Int32) (S : xs_T) : Option (Int32 × xs_T) :=
  (xs_rd S (k + 28) i3).bind fun v10 =>
  if v10 = 2 then
  ((xf_R_sendAnswer k i3 S).bind fun q17 =>
  xf_R_tick_67 k n1 c15 c32 i2 i3 q17)
  else
  (xf_R_tick_67 k n1 c15 c32 i2 i3 S)
def xf_R_tick_32 (k : Nat) (n1 : Int32) (c15 : Int32 → xs_T → Option (Int32 × xs_T)) : Nat → Int32 → Int32 → xs_T → Option (Int32 × xs_T)
  | 0, _, _, _ => none
  | f + 1, i2, i3, S =>
    if 3 ≤ i3 then
    (xf_R_tick_105 k n1 c15 xs_fuel i2 0 S)
    else
    ((xs_rd S (k + 28) i3).bind fun v8 =>
    if v8 = 1 then
    ((xf_R_sendAccept k i3 S).bind fun q18 =>
    xf_R_tick_52 k n1 c15 (xf_R_tick_32 k n1 c15 f) i2 i3 q18)
    else
    (xf_R_tick_52 k n1 c15 (xf_R_tick_32 k n1 c15 f) i2 i3 S))
def xf_R_tick_15 (k : Nat) (n1 : Int32) : Nat → Int32 → xs_T → Option (Int32 × xs_T)
  | 0, _, _ => none
  | f + 1, i2, S =>
    if n1 ≤ i2 then
    (some (xs_gI S k 8, S))
    else
    ((some (xs_sI S k 8 ((xs_gI S k 8) + 1))).bind fun S4 =>
    xf_R_tick_32 k n1 (xf_R_tick_15 k n1 f) xs_fuel i2 0 S4)
def xf_R_tick (k : Nat) (n1 : Int32) (S : xs_T) : Option (Int32 × xs_T) :=
  if n1 < 1 then
  (some ((-1), S))
  else
  (if n1 ≤ 50 then
  (xf_R_tick_15 k n1 xs_fuel 0 S)
  else
  (some ((-1), S)))
def xf_R_lose (k : Nat) (n1 : Int32) (S : xs_T) : Option (Int32 × xs_T) :=
  (xf_R_below n1 (xs_gI S k 12)).bind fun q1 =>
  if q1 = 0 then
  (xs_rz 0 S)
  else
  ((xf_R_leave k n1 S).bind fun q3 =>
  xs_rz 1 q3)
def xf_R_replay (k : Nat) (n1 : Int32) (S : xs_T) : Option (Int32 × xs_T) :=
  (xf_R_below n1 8).bind fun q1 =>
  if q1 = 0 then
  (xs_rz 0 S)
  else
  (if (xs_gI S k 13) ≤ n1 then
  (xs_rz 0 S)
  else
  (if (xs_gI S k 12) = 12 then
  (xs_rz 0 S)
  else
  ((xf_R_copyFrame k (12 + (xs_rem (((xs_gI S k 13) - 1) - n1) 8)) (xs_gI S k 12) S).bind fun q5 =>
  (some (xs_sI q5 k 12 ((xs_gI q5 k 12) + 1))).bind fun S6 =>
  xs_rz 1 S6)))
def xf_R_spoil (k : Nat) (n1 : Int32) (n2 : Int32) (n3 : Int32) (S : xs_T) : Option (Int32 × xs_T) :=
  (xf_R_below n1 (xs_gI S k 12)).bind fun q1 =>
  if q1 = 0 then
  (xs_rz 0 S)
  else
  ((xs_rd S (k + 10) n1).bind fun v3 =>
  (xf_R_below n2 v3).bind fun q4 =>
  if q4 = 0 then
  (xs_rz 0 S)
  else
  (if n3 < 1 then
  (xs_rz 0 S)
  else
  (if n3 ≤ 255 then
  ((xs_rd S (k + 9) ((32 * n1) + n2)).bind fun v8 =>
  (xs_wr S (k + 9) ((32 * n1) + n2) (v8 ^^^ n3)).bind fun S9 =>
  xs_rz 1 S9)
  else
  (xs_rz 0 S))))
def xf_R_frames (k : Nat) (S : xs_T) : Option (Int32) :=
  some (xs_gI S k 12)
def xf_R_length (k : Nat) (n1 : Int32) (S : xs_T) : Option (Int32) :=
  (xf_R_below n1 (xs_gI S k 12)).bind fun q1 =>
  if q1 = 0 then
  (some (-1))
  else
  ((xs_rd S (k + 10) n1).bind fun v3 =>
  some v3)
def xf_R_octet (k : Nat) (n1 : Int32) (n2 : Int32) (S : xs_T) : Option (Int32) :=
  (xf_R_below n1 (xs_gI S k 12)).bind fun q1 =>
  if q1 = 0 then
  (some (-1))
  else
  ((xs_rd S (k + 10) n1).bind fun v3 =>
  (xf_R_below n2 v3).bind fun q4 =>
  if q4 = 0 then
  (some (-1))
  else
  ((xf_R_at k n1 n2 S).bind fun q6 =>
  some q6))
def xf_R_goal (k : Nat) (n1 : Int32) (S : xs_T) : Option (Int32) :=
  (xf_R_below n1 (xs_gI S k 12)).bind fun q1 =>
  if q1 = 0 then
  (some (-1))
  else
  ((xs_rd S (k + 11) n1).bind fun v3 =>
  some v3)
def xf_R_state (k : Nat) (n1 : Int32) (S : xs_T) : Option (Int32) :=
  (xf_R_below n1 3).bind fun q1 =>
  if q1 = 0 then
  (some (-1))
  else
  ((xs_rd S (k + 12) n1).bind fun v3 =>
  (xs_rd S (k + 13) n1).bind fun v4 =>
  if v4 = 0 then
  (some (v3 + 0))
  else
  (some (v3 + 10)))
def xf_R_received (k : Nat) (n1 : Int32) (n2 : Int32) (S : xs_T) : Option (Int32) :=
  (xf_R_below n1 3).bind fun q1 =>
  if q1 = 0 then
  (some (-1))
  else
  (if n2 = 0 then
  ((xs_rd S (k + 34) (3 + n1)).bind fun v4 =>
  some v4)
  else
  ((xs_rd S (k + 34) n1).bind fun v5 =>
  some v5))
def xf_R_payload_11 (k : Nat) (n1 : Int32) (n2 : Int32) (n3 : Int32) (S : xs_T) (t0 : Int32) : Option (Int64) :=
  (xf_R_below n1 3).bind fun q2 =>
  if q2 = 0 then
  (some (-1))
  else
  ((xs_rd S (k + 34) t0).bind fun v4 =>
  (xf_R_below n3 v4).bind fun q5 =>
  if q5 = 0 then
  (some (-1))
  else
  ((xs_rd S (k + 34) t0).bind fun v7 =>
  if (v7 - 4) ≤ n3 then
  ((xs_rdL S (k + 35) ((4 * t0) + (xs_rem n3 4))).bind fun v9 =>
  some v9)
  else
  (some (-1))))
def xf_R_payload (k : Nat) (n1 : Int32) (n2 : Int32) (n3 : Int32) (S : xs_T) : Option (Int64) :=
  if n2 = 0 then
  (xf_R_payload_11 k n1 n2 n3 S (3 + n1))
  else
  (xf_R_payload_11 k n1 n2 n3 S n1)
def xf_R_tally (k : Nat) (n1 : Int32) (n2 : Int32) (S : xs_T) : Option (Int32) :=
  (xf_R_below n1 3).bind fun q1 =>
  if q1 = 0 then
  (some (-1))
  else
  ((xf_R_below n2 4).bind fun q3 =>
  if q3 = 0 then
  (some (-1))
  else
  (if n2 = 3 then
  ((xs_rd S (k + 21) n1).bind fun v7 =>
  some v7)
  else
  ((xs_rd S (k + 36) ((3 * n1) + n2)).bind fun v6 =>
  some v6)))
