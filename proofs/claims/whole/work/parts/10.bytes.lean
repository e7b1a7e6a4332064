/-! Bytes and words as numbers: a word is yP of its four bytes, the lowest first. -/
def yP (a b c d : Nat) : Nat := 256 * (256 * (256 * d + c) + b) + a
def yTw (a : Nat) : Nat := if a < 128 then 2 * a else (2 * a) ^^^ 283
def yS (k a : Nat) : Nat := (xs_tb k a).toNatClampNeg
theorem y_xor1 {a b x y : Nat} (hx : x < 256) (hy : y < 256) : (256 * a + x) ^^^ (256 * b + y) = 256 * (a ^^^ b) + (x ^^^ y) := by
  have hxy : x ^^^ y < 2 ^ 8 := Nat.xor_lt_two_pow (n := 8) hx hy
  apply Nat.eq_of_testBit_eq
  intro j
  have e1 := Nat.testBit_two_pow_mul_add a (i := 8) hx j
  have e2 := Nat.testBit_two_pow_mul_add b (i := 8) hy j
  have e3 := Nat.testBit_two_pow_mul_add (a ^^^ b) (i := 8) hxy j
  rw [show (2 : Nat) ^ 8 = 256 from rfl] at e1 e2 e3
  rw [Nat.testBit_xor, e1, e2, e3]
  split
  · rw [Nat.testBit_xor]
  · rw [Nat.testBit_xor]
theorem y_and1 {a b x y : Nat} (hx : x < 256) (hy : y < 256) : (256 * a + x) &&& (256 * b + y) = 256 * (a &&& b) + (x &&& y) := by
  have hxy : x &&& y < 2 ^ 8 := Nat.and_lt_two_pow (n := 8) x hy
  apply Nat.eq_of_testBit_eq
  intro j
  have e1 := Nat.testBit_two_pow_mul_add a (i := 8) hx j
  have e2 := Nat.testBit_two_pow_mul_add b (i := 8) hy j
  have e3 := Nat.testBit_two_pow_mul_add (a &&& b) (i := 8) hxy j
  rw [show (2 : Nat) ^ 8 = 256 from rfl] at e1 e2 e3
  rw [Nat.testBit_and, e1, e2, e3]
  split
  · rw [Nat.testBit_and]
  · rw [Nat.testBit_and]
theorem y_or1 {a b x y : Nat} (hx : x < 256) (hy : y < 256) : (256 * a + x) ||| (256 * b + y) = 256 * (a ||| b) + (x ||| y) := by
  have hxy : x ||| y < 2 ^ 8 := Nat.or_lt_two_pow (n := 8) hx hy
  apply Nat.eq_of_testBit_eq
  intro j
  have e1 := Nat.testBit_two_pow_mul_add a (i := 8) hx j
  have e2 := Nat.testBit_two_pow_mul_add b (i := 8) hy j
  have e3 := Nat.testBit_two_pow_mul_add (a ||| b) (i := 8) hxy j
  rw [show (2 : Nat) ^ 8 = 256 from rfl] at e1 e2 e3
  rw [Nat.testBit_or, e1, e2, e3]
  split
  · rw [Nat.testBit_or]
  · rw [Nat.testBit_or]
theorem y_xlt {x y : Nat} (hx : x < 256) (hy : y < 256) : x ^^^ y < 256 := Nat.xor_lt_two_pow (n := 8) hx hy
section YP
variable {a b c d a2 b2 c2 d2 : Nat}
theorem y_xor (h1 : a < 256) (h2 : b < 256) (h3 : c < 256) (g1 : a2 < 256) (g2 : b2 < 256) (g3 : c2 < 256) : yP a b c d ^^^ yP a2 b2 c2 d2 = yP (a ^^^ a2) (b ^^^ b2) (c ^^^ c2) (d ^^^ d2) := by
  unfold yP
  rw [y_xor1 h1 g1, y_xor1 h2 g2, y_xor1 h3 g3]
theorem y_and (h1 : a < 256) (h2 : b < 256) (h3 : c < 256) (g1 : a2 < 256) (g2 : b2 < 256) (g3 : c2 < 256) : yP a b c d &&& yP a2 b2 c2 d2 = yP (a &&& a2) (b &&& b2) (c &&& c2) (d &&& d2) := by
  unfold yP
  rw [y_and1 h1 g1, y_and1 h2 g2, y_and1 h3 g3]
theorem y_or (h1 : a < 256) (h2 : b < 256) (h3 : c < 256) (g1 : a2 < 256) (g2 : b2 < 256) (g3 : c2 < 256) : yP a b c d ||| yP a2 b2 c2 d2 = yP (a ||| a2) (b ||| b2) (c ||| c2) (d ||| d2) := by
  unfold yP
  rw [y_or1 h1 g1, y_or1 h2 g2, y_or1 h3 g3]
theorem y_lt (h1 : a < 256) (h2 : b < 256) (h3 : c < 256) (h4 : d < 256) : yP a b c d < 2 ^ 32 := by
  unfold yP
  omega
theorem y_inj (h1 : a < 256) (h2 : b < 256) (h3 : c < 256) (g1 : a2 < 256) (g2 : b2 < 256) (g3 : c2 < 256) (h : yP a b c d = yP a2 b2 c2 d2) : a = a2 ∧ b = b2 ∧ c = c2 ∧ d = d2 := by
  unfold yP at h
  omega
end YP
/-! the same of Int32 -/
theorem n_xor (a b : Nat) : nI a ^^^ nI b = nI (a ^^^ b) := by
  apply Int32.toBitVec_inj.1
  show BitVec.ofNat 32 a ^^^ BitVec.ofNat 32 b = BitVec.ofNat 32 (a ^^^ b)
  apply BitVec.eq_of_getLsbD_eq
  intro i hi
  simp [hi]
theorem n_and (a b : Nat) : nI a &&& nI b = nI (a &&& b) := by
  apply Int32.toBitVec_inj.1
  show BitVec.ofNat 32 a &&& BitVec.ofNat 32 b = BitVec.ofNat 32 (a &&& b)
  apply BitVec.eq_of_getLsbD_eq
  intro i hi
  simp [hi]
theorem n_or (a b : Nat) : nI a ||| nI b = nI (a ||| b) := by
  apply Int32.toBitVec_inj.1
  show BitVec.ofNat 32 a ||| BitVec.ofNat 32 b = BitVec.ofNat 32 (a ||| b)
  apply BitVec.eq_of_getLsbD_eq
  intro i hi
  simp [hi]
theorem n_mod (a : Nat) : nI a = nI (a % 2 ^ 32) := by
  apply Int32.toBitVec_inj.1
  show BitVec.ofNat 32 a = BitVec.ofNat 32 (a % 2 ^ 32)
  apply BitVec.eq_of_toNat_eq
  simp
theorem n_shl (x : Nat) {s : Int32} (k : Nat) (hs : (s.toBitVec.smod 32).toNat = k) : nI x <<< s = nI (x * 2 ^ k) := by
  apply Int32.toBitVec_inj.mp
  apply BitVec.eq_of_toNat_eq
  rw [pk_shl _ _ k hs]
  show (BitVec.ofNat 32 x).toNat * 2 ^ k % 2 ^ 32 = (BitVec.ofNat 32 (x * 2 ^ k)).toNat
  rw [BitVec.toNat_ofNat, BitVec.toNat_ofNat, Nat.mod_mul_mod]
theorem n_ush {x : Nat} (hx : x < 2 ^ 32) (s : Int32) (k : Nat) (hs : ((s.toUInt32 &&& Int32.toUInt32 31).toBitVec % 32).toNat = k) : xs_ush (nI x) s = nI (x / 2 ^ k) := pk_ushrN hx s k hs
theorem n_inj {a b : Nat} (ha : a < 2 ^ 32) (hb : b < 2 ^ 32) (h : nI a = nI b) : a = b := by
  have := congrArg (fun x : Int32 => x.toBitVec.toNat) h
  simpa [pk_tn ha, pk_tn hb] using this
theorem n_of (x : Int32) : ∃ n, n < 2 ^ 32 ∧ x = nI n := ⟨x.toBitVec.toNat, x.toBitVec.isLt, Int32.toBitVec_inj.mp (by show _ = BitVec.ofNat 32 _; simp)⟩
theorem y_of {x : Nat} (h : x < 2 ^ 32) : x = yP (x % 256) (x / 256 % 256) (x / 65536 % 256) (x / 16777216) := by
  unfold yP
  omega
theorem y_rot8 {a b c d : Nat} (h1 : a < 256) (h2 : b < 256) (h3 : c < 256) (h4 : d < 256) : (xs_ush (nI (yP a b c d)) 8) ||| (nI (yP a b c d) <<< (24 &&& 31)) = nI (yP b c d a) := by
  rw [n_ush (y_lt h1 h2 h3 h4) 8 8 (by decide), n_shl _ 24 (by decide), n_mod (_ * 2 ^ 24), n_or,
    show yP a b c d / 2 ^ 8 = yP b c d 0 by unfold yP; omega, show yP a b c d * 2 ^ 24 % 2 ^ 32 = yP 0 0 0 a by unfold yP; omega,
    y_or h2 h3 h4 (by decide) (by decide) (by decide)]
  simp
theorem y_rot16 {a b c d : Nat} (h1 : a < 256) (h2 : b < 256) (h3 : c < 256) (h4 : d < 256) : (xs_ush (nI (yP a b c d)) 16) ||| (nI (yP a b c d) <<< (16 &&& 31)) = nI (yP c d a b) := by
  rw [n_ush (y_lt h1 h2 h3 h4) 16 16 (by decide), n_shl _ 16 (by decide), n_mod (_ * 2 ^ 16), n_or,
    show yP a b c d / 2 ^ 16 = yP c d 0 0 by unfold yP; omega, show yP a b c d * 2 ^ 16 % 2 ^ 32 = yP 0 0 a b by unfold yP; omega,
    y_or h3 h4 (by decide) (by decide) (by decide) h1]
  simp
theorem y_rot24 {a b c d : Nat} (h1 : a < 256) (h2 : b < 256) (h3 : c < 256) (h4 : d < 256) : (xs_ush (nI (yP a b c d)) 24) ||| (nI (yP a b c d) <<< (8 &&& 31)) = nI (yP d a b c) := by
  rw [n_ush (y_lt h1 h2 h3 h4) 24 24 (by decide), n_shl _ 8 (by decide), n_mod (_ * 2 ^ 8), n_or,
    show yP a b c d / 2 ^ 24 = yP d 0 0 0 by unfold yP; omega, show yP a b c d * 2 ^ 8 % 2 ^ 32 = yP 0 a b c by unfold yP; omega,
    y_or h4 (by decide) (by decide) (by decide) h1 h2]
  simp
theorem y_orp {x y k : Nat} (h : x < 2 ^ k) : x ||| y * 2 ^ k = x + y * 2 ^ k := by
  rw [Nat.or_comm, Nat.mul_comm, ← Nat.two_pow_add_eq_or_of_lt h, Nat.add_comm]
theorem y_or4 {a b c d : Nat} (h1 : a < 256) (h2 : b < 256) (h3 : c < 256) (h4 : d < 256) : ((nI a ||| (nI b <<< (8 &&& 31))) ||| (nI c <<< (16 &&& 31))) ||| (nI d <<< (24 &&& 31)) = nI (yP a b c d) := by
  rw [n_shl _ 8 (by decide), n_shl _ 16 (by decide), n_shl _ 24 (by decide), n_or, n_or, n_or,
    y_orp (k := 8) h1, y_orp (k := 16) (by omega), y_orp (k := 24) (by omega)]
  congr 1
  unfold yP
  omega
theorem y_tw_lt : ∀ a, a < 256 → yTw a < 256 := by decide +kernel
theorem y_tw_eq : ∀ a, a < 256 → (2 * (a % 128)) ^^^ (27 * (a / 128)) = yTw a := by decide +kernel
theorem y_tw_xor : ∀ a, a < 256 → ∀ b, b < 256 → yTw (a ^^^ b) = yTw a ^^^ yTw b := by
  intro a ha b hb
  have e := y_tw_eq (a ^^^ b) (y_xlt ha hb)
  rw [← e, ← y_tw_eq a ha, ← y_tw_eq b hb]
  have e1 : (a ^^^ b) % 128 = a % 128 ^^^ b % 128 := Nat.xor_mod_two_pow (n := 7)
  have e2 : (a ^^^ b) / 128 = a / 128 ^^^ b / 128 := Nat.xor_div_two_pow (n := 7)
  rw [e1, e2]
  have e3 : ∀ x, x < 128 → ∀ y, y < 128 → 2 * (x ^^^ y) = 2 * x ^^^ 2 * y := by decide +kernel
  have e4 : ∀ x, x < 2 → ∀ y, y < 2 → 27 * (x ^^^ y) = 27 * x ^^^ 27 * y := by decide +kernel
  rw [e3 _ (Nat.mod_lt _ (by decide)) _ (Nat.mod_lt _ (by decide)), e4 _ (by omega) _ (by omega)]
  ac_rfl
theorem y_doubled {a b c d : Nat} (h1 : a < 256) (h2 : b < 256) (h3 : c < 256) (h4 : d < 256) : xf_C_doubled (nI (yP a b c d)) = some (nI (yP (yTw a) (yTw b) (yTw c) (yTw d))) := by
  unfold xf_C_doubled
  rw [n_ush (y_lt h1 h2 h3 h4) 7 7 (by decide)]
  rw [show (2139062143 : Int32) = nI (yP 127 127 127 127) by decide, show (16843009 : Int32) = nI (yP 1 1 1 1) by decide, show (27 : Int32) = nI 27 by decide, n_and, n_and, n_shl _ 1 (by decide), pk_mul, n_xor,
    y_and h1 h2 h3 (by decide) (by decide) (by decide),
    show yP a b c d / 2 ^ 7 = yP (a / 128 + 2 * (b % 128)) (b / 128 + 2 * (c % 128)) (c / 128 + 2 * (d % 128)) (d / 128) by unfold yP; omega,
    y_and (by omega) (by omega) (by omega) (by decide) (by decide) (by decide)]
  have m : ∀ x : Nat, x &&& 127 = x % 128 := fun x => Nat.and_two_pow_sub_one_eq_mod x 7
  have m1 : ∀ x : Nat, x &&& 1 = x % 2 := fun x => Nat.and_two_pow_sub_one_eq_mod x 1
  rw [m, m, m, m, m1, m1, m1, m1, show (a / 128 + 2 * (b % 128)) % 2 = a / 128 by omega, show (b / 128 + 2 * (c % 128)) % 2 = b / 128 by omega, show (c / 128 + 2 * (d % 128)) % 2 = c / 128 by omega, show d / 128 % 2 = d / 128 by omega]
  rw [show yP (a % 128) (b % 128) (c % 128) (d % 128) * 2 ^ 1 = yP (2 * (a % 128)) (2 * (b % 128)) (2 * (c % 128)) (2 * (d % 128)) by unfold yP; omega, show yP (a / 128) (b / 128) (c / 128) (d / 128) * 27 = yP (27 * (a / 128)) (27 * (b / 128)) (27 * (c / 128)) (27 * (d / 128)) by unfold yP; omega,
    y_xor (by omega) (by omega) (by omega) (by omega) (by omega) (by omega), y_tw_eq a h1, y_tw_eq b h2, y_tw_eq c h3, y_tw_eq d h4]
theorem y_mixed {a b c d : Nat} (h1 : a < 256) (h2 : b < 256) (h3 : c < 256) (h4 : d < 256) {p q r s : Nat} (g1 : p < 256) (g2 : q < 256) (g3 : r < 256) (g4 : s < 256) : xf_C_mixed (nI (yP a b c d)) (nI (yP p q r s)) = some (nI (yP (((p ^^^ (b ^^^ q)) ^^^ c) ^^^ d) (((q ^^^ (c ^^^ r)) ^^^ d) ^^^ a) (((r ^^^ (d ^^^ s)) ^^^ a) ^^^ b) (((s ^^^ (a ^^^ p)) ^^^ b) ^^^ c))) := by
  unfold xf_C_mixed
  have x1 := y_xlt h1 g1
  have x2 := y_xlt h2 g2
  have x3 := y_xlt h3 g3
  have x4 := y_xlt h4 g4
  rw [n_xor, y_xor h1 h2 h3 g1 g2 g3, y_rot8 x1 x2 x3 x4, y_rot16 h1 h2 h3 h4, y_rot24 h1 h2 h3 h4, n_xor, y_xor g1 g2 g3 x2 x3 x4, n_xor,
    y_xor (y_xlt g1 x2) (y_xlt g2 x3) (y_xlt g3 x4) h3 h4 h1, n_xor, y_xor (y_xlt (y_xlt g1 x2) h3) (y_xlt (y_xlt g2 x3) h4) (y_xlt (y_xlt g3 x4) h1) h4 h1 h2]
/-- one column mixed, as the class does it -/
def yMx (a b c d : Nat) : Nat := ((yTw a ^^^ (b ^^^ yTw b)) ^^^ c) ^^^ d
theorem y_mix {a b c d : Nat} (h1 : a < 256) (h2 : b < 256) (h3 : c < 256) (h4 : d < 256) : ((xf_C_doubled (nI (yP a b c d))).bind fun q => xf_C_mixed (nI (yP a b c d)) q) = some (nI (yP (yMx a b c d) (yMx b c d a) (yMx c d a b) (yMx d a b c))) := by
  rw [y_doubled h1 h2 h3 h4, Option.bind_some, y_mixed h1 h2 h3 h4 (y_tw_lt a h1) (y_tw_lt b h2) (y_tw_lt c h3) (y_tw_lt d h4)]
  rfl
theorem y_mx_lt {a b c d : Nat} (h1 : a < 256) (h2 : b < 256) (h3 : c < 256) (h4 : d < 256) : yMx a b c d < 256 := y_xlt (y_xlt (y_xlt (y_tw_lt a h1) (y_xlt h2 (y_tw_lt b h2))) h3) h4
theorem y_S171 : ∀ a, a < 256 → xs_tb 171 a = nI (yS 171 a) ∧ yS 171 a < 256 := by decide +kernel
theorem y_S172 : ∀ a, a < 256 → xs_tb 172 a = nI (yS 172 a) ∧ yS 172 a < 256 := by decide +kernel
