/-! rows of kit/laws/BITS.to-paste, pasted -/
theorem wb_tb (n : Nat) : (lN n).toBitVec = BitVec.ofNat 64 n := rfl
theorem wb_inj {a b : Int64} (h : a.toBitVec = b.toBitVec) : a = b := Int64.toBitVec_inj.mp h
theorem wb_tn {n : Nat} (h : n < 2 ^ 64) : (lN n).toBitVec.toNat = n := by rw [wb_tb, BitVec.toNat_ofNat, Nat.mod_eq_of_lt h]
theorem wb_of (x : Int64) : ∃ n, n < 2 ^ 64 ∧ x = lN n := ⟨x.toBitVec.toNat, x.toBitVec.isLt, wb_inj (by rw [wb_tb]; simp)⟩
theorem wb_of32 (x : Int32) : ∃ n, n < 2 ^ 32 ∧ x = nI n := ⟨x.toBitVec.toNat, x.toBitVec.isLt, Int32.toBitVec_inj.mp (by show _ = BitVec.ofNat 32 _; simp)⟩
theorem wb_c : ∀ k, k < 64 → ((nI k).toInt64 &&& 63) = lN k := by decide +kernel
theorem wb_cu : ∀ k, k < 64 → ((nI k).toInt64.toUInt64 &&& Int64.toUInt64 63) = UInt64.ofNat k := by decide +kernel
theorem wb_sm : ∀ k, k < 64 → (BitVec.ofNat 64 k).smod 64 = BitVec.ofNat 64 k := by decide +kernel
theorem wb_pw {a b : Nat} (h : a ≤ b) : 2 ^ b = 2 ^ a * 2 ^ (b - a) := by rw [← Nat.pow_add]; congr 1; omega
theorem wb_lt2 {a b : Nat} (h : a < b) : 2 ^ a < 2 ^ b := Nat.pow_lt_pow_right (by decide) h
theorem wb_mod (n : Nat) : lN n = lN (n % 2 ^ 64) := wb_inj (by rw [wb_tb, wb_tb]; apply BitVec.eq_of_toNat_eq; rw [BitVec.toNat_ofNat, BitVec.toNat_ofNat, Nat.mod_mod])
theorem wb_shr {n k : Nat} (hn : n < 2 ^ 64) (hk : k < 64) : ((lN n).toUInt64 >>> ((nI k).toInt64.toUInt64 &&& Int64.toUInt64 63)).toInt64 = lN (n / 2 ^ k) := by
  rw [wb_cu k hk]
  apply wb_inj
  apply BitVec.eq_of_toNat_eq
  show ((lN n).toUInt64 >>> UInt64.ofNat k).toNat = (BitVec.ofNat 64 _).toNat
  have h1 : (UInt64.ofNat k).toNat = k := by
    show (BitVec.ofNat 64 k).toNat = k
    rw [BitVec.toNat_ofNat, Nat.mod_eq_of_lt (by omega)]
  have h2 : (lN n).toUInt64.toNat = n := wb_tn hn
  rw [UInt64.toNat_shiftRight, h1, h2, Nat.mod_eq_of_lt hk, Nat.shiftRight_eq_div_pow, BitVec.toNat_ofNat, Nat.mod_eq_of_lt (Nat.lt_of_le_of_lt (Nat.div_le_self _ _) hn)]
theorem wb_shl (n : Nat) {k : Nat} (hk : k < 64) : lN n <<< ((nI k).toInt64 &&& 63) = lN (n * 2 ^ k) := by
  rw [wb_c k hk]
  apply wb_inj
  rw [Int64.toBitVec_shiftLeft, wb_tb, wb_tb, wb_tb, wb_sm k hk]
  apply BitVec.eq_of_toNat_eq
  rw [BitVec.shiftLeft_eq', BitVec.toNat_shiftLeft, BitVec.toNat_ofNat, BitVec.toNat_ofNat, BitVec.toNat_ofNat, Nat.mod_eq_of_lt (show k < 2 ^ 64 by omega), Nat.shiftLeft_eq, Nat.mul_mod, Nat.mod_mod, ← Nat.mul_mod]
theorem wb_and {a b : Nat} (ha : a < 2 ^ 64) (hb : b < 2 ^ 64) : lN a &&& lN b = lN (a &&& b) := by
  apply wb_inj
  rw [Int64.toBitVec_and, wb_tb, wb_tb, wb_tb]
  apply BitVec.eq_of_toNat_eq
  rw [BitVec.toNat_and, BitVec.toNat_ofNat, BitVec.toNat_ofNat, BitVec.toNat_ofNat, Nat.mod_eq_of_lt ha, Nat.mod_eq_of_lt hb, Nat.mod_eq_of_lt (Nat.and_lt_two_pow _ hb)]
theorem wb_or {a b : Nat} (ha : a < 2 ^ 64) (hb : b < 2 ^ 64) : lN a ||| lN b = lN (a ||| b) := by
  apply wb_inj
  rw [Int64.toBitVec_or, wb_tb, wb_tb, wb_tb]
  apply BitVec.eq_of_toNat_eq
  rw [BitVec.toNat_or, BitVec.toNat_ofNat, BitVec.toNat_ofNat, BitVec.toNat_ofNat, Nat.mod_eq_of_lt ha, Nat.mod_eq_of_lt hb, Nat.mod_eq_of_lt (Nat.or_lt_two_pow ha hb)]
theorem wb_mask {n k : Nat} (hn : n < 2 ^ 64) (hk : k < 64) : lN n &&& lN (2 ^ k - 1) = lN (n % 2 ^ k) := by
  rw [wb_and hn (by have := wb_lt2 hk; omega), Nat.and_two_pow_sub_one_eq_mod]
/-! own rows -/
theorem w_xor (a b : Nat) : lN a ^^^ lN b = lN (a ^^^ b) := by
  apply wb_inj
  rw [Int64.toBitVec_xor, wb_tb, wb_tb, wb_tb]
  apply BitVec.eq_of_getLsbD_eq
  intro i hi
  simp [hi]
theorem w_t32 (n : Nat) : Int64.toInt32 (lN n) = nI n := by
  show Int64.toInt32 (Int64.ofNat n) = Int32.ofNat n
  simp
theorem w_low {a : Nat} (h : a < 2 ^ 32) : (Int32.toInt64 (nI a)) &&& 4294967295 = lN a := by
  apply wb_inj
  rw [Int64.toBitVec_and, Int32.toBitVec_toInt64, wb_tb]
  show (BitVec.signExtend 64 (BitVec.ofNat 32 a)) &&& BitVec.ofNat 64 4294967295 = _
  apply BitVec.eq_of_getLsbD_eq
  intro i hi
  have t : (4294967295 : Nat).testBit i = decide (i < 32) := by
    rw [show (4294967295 : Nat) = 2 ^ 32 - 1 from rfl, Nat.testBit_two_pow_sub_one]
  rw [BitVec.getLsbD_and, BitVec.getLsbD_signExtend, BitVec.getLsbD_ofNat, BitVec.getLsbD_ofNat, BitVec.getLsbD_ofNat, t]
  by_cases h32 : i < 32
  · simp [h32, hi]
  · have : a.testBit i = false := Nat.testBit_lt_two_pow (Nat.lt_of_lt_of_le h (Nat.pow_le_pow_right (by decide) (by omega)))
    simp [h32, this]
theorem w_high {a : Nat} (h : a < 2 ^ 32) : xs_lshl (Int32.toInt64 (nI a)) 32 = lN (a * 2 ^ 32) := by
  show Int32.toInt64 (nI a) <<< ((nI 32).toInt64 &&& 63) = _
  rw [wb_c 32 (by decide)]
  apply wb_inj
  rw [Int64.toBitVec_shiftLeft, wb_tb, wb_tb, wb_sm 32 (by decide), Int32.toBitVec_toInt64, BitVec.shiftLeft_eq']
  show (BitVec.signExtend 64 (BitVec.ofNat 32 a)) <<< 32 = _
  apply BitVec.eq_of_getLsbD_eq
  intro i hi
  rw [BitVec.getLsbD_shiftLeft, BitVec.getLsbD_signExtend, BitVec.getLsbD_ofNat, BitVec.getLsbD_ofNat, Nat.testBit_mul_two_pow]
  by_cases h32 : i < 32
  · simp [h32, hi, show ¬ 32 ≤ i by omega]
  · simp [h32, hi, show 32 ≤ i by omega, show i - 32 < 32 by omega, show i - 32 < 64 by omega]
theorem w_sar : ∀ i, i < 8 → ∀ {v : Nat}, v < 2 ^ 64 → (xs_lshr (lN v) ((8 : Int32) * nI i)) &&& 255 = lN (v / 2 ^ (8 * i) % 256) := by
  intro i hi v hv
  rw [show (8 : Int32) * nI i = nI (8 * i) from pk_mul 8 i]
  show (lN v >>> ((nI (8 * i)).toInt64 &&& 63)) &&& 255 = _
  rw [wb_c _ (by omega)]
  apply wb_inj
  rw [Int64.toBitVec_and, Int64.toBitVec_shiftRight, wb_tb, wb_tb, wb_tb, wb_sm _ (by omega)]
  show (BitVec.sshiftRight' (BitVec.ofNat 64 v) (BitVec.ofNat 64 (8 * i))) &&& BitVec.ofNat 64 255 = _
  rw [BitVec.sshiftRight_eq', BitVec.toNat_ofNat, Nat.mod_eq_of_lt (show 8 * i < 2 ^ 64 by omega)]
  apply BitVec.eq_of_getLsbD_eq
  intro j hj
  have t : (255 : Nat).testBit j = decide (j < 8) := by
    rw [show (255 : Nat) = 2 ^ 8 - 1 from rfl, Nat.testBit_two_pow_sub_one]
  rw [BitVec.getLsbD_and, BitVec.getLsbD_sshiftRight, BitVec.getLsbD_ofNat, BitVec.getLsbD_ofNat, BitVec.getLsbD_ofNat, show (256 : Nat) = 2 ^ 8 from rfl, Nat.testBit_mod_two_pow, Nat.testBit_div_two_pow, t]
  by_cases h8 : j < 8
  · rw [if_pos (by omega)]
    simp [h8, hj, show ¬ (64 ≤ j) by omega, Nat.add_comm, show 8 * i + j < 64 by omega]
    omega
  · simp [h8]
/-- one byte more of a number -/
theorem w_or {a c i : Nat} (hi : i < 8) (ha : a < 2 ^ (8 * i)) (hc : c < 256) : lN a ||| (xs_lshl (lN c) ((8 : Int32) * nI i)) = lN (a + c * 2 ^ (8 * i)) := by
  rw [show (8 : Int32) * nI i = nI (8 * i) from pk_mul 8 i]
  show lN a ||| (lN c <<< ((nI (8 * i)).toInt64 &&& 63)) = _
  have hp : 2 ^ (8 * i) ≤ 2 ^ 56 := Nat.pow_le_pow_right (by decide) (by omega)
  have h2 : c * 2 ^ (8 * i) ≤ 255 * 2 ^ 56 := Nat.mul_le_mul (by omega) hp
  rw [wb_shl _ (by omega), wb_or (by omega) (by omega), y_orp ha]
theorem y_num_xor {s t : Nat → Nat} : ∀ n, (∀ i, i < n → s i < 256 ∧ t i < 256) → yNum s n ^^^ yNum t n = yNum (fun i => s i ^^^ t i) n
  | 0, _ => Nat.xor_self 0
  | n + 1, h => by
    have ih := y_num_xor n (fun i hi => h i (by omega))
    have a1 := y_num_lt (s := s) n (fun i hi => (h i (by omega)).1)
    have a2 := y_num_lt (s := t) n (fun i hi => (h i (by omega)).2)
    have a3 := y_num_lt (s := fun i => s i ^^^ t i) n (fun i hi => y_xlt (h i (by omega)).1 (h i (by omega)).2)
    show (yNum s n + s n * 2 ^ (8 * n)) ^^^ (yNum t n + t n * 2 ^ (8 * n)) = yNum (fun i => s i ^^^ t i) n + (s n ^^^ t n) * 2 ^ (8 * n)
    apply Nat.eq_of_testBit_eq
    intro j
    have e1 := Nat.testBit_two_pow_mul_add (s n) a1 j
    have e2 := Nat.testBit_two_pow_mul_add (t n) a2 j
    have e3 := Nat.testBit_two_pow_mul_add (s n ^^^ t n) a3 j
    rw [Nat.add_comm (yNum s n), Nat.add_comm (yNum t n), Nat.add_comm (yNum _ n), Nat.mul_comm (s n), Nat.mul_comm (t n), Nat.mul_comm (s n ^^^ t n), Nat.testBit_xor, e1, e2, e3, ← ih]
    split
    · rw [Nat.testBit_xor]
    · rw [Nat.testBit_xor]
theorem y_num_byte {s : Nat → Nat} : ∀ n, (∀ i, i < n → s i < 256) → ∀ i, i < n → yNum s n / 2 ^ (8 * i) % 256 = s i
  | 0, _, i, hi => absurd hi (Nat.not_lt_zero i)
  | n + 1, h, i, hi => by
    have a1 := y_num_lt (s := s) n (fun i hi => h i (by omega))
    have hn := h n (by omega)
    show (yNum s n + s n * 2 ^ (8 * n)) / 2 ^ (8 * i) % 256 = s i
    by_cases hin : i < n
    · have ih := y_num_byte n (fun i hi => h i (by omega)) i hin
      rw [show 2 ^ (8 * n) = 2 ^ (8 * i) * (256 * 2 ^ (8 * (n - i - 1))) by
        rw [show (256 : Nat) = 2 ^ 8 from rfl, ← Nat.pow_add, ← Nat.pow_add]
        congr 1
        omega, Nat.mul_left_comm, Nat.add_mul_div_left _ _ (Nat.two_pow_pos _), Nat.mul_left_comm, Nat.add_mul_mod_self_left, ih]
    · rw [show i = n by omega, Nat.add_mul_div_right _ _ (Nat.two_pow_pos _), Nat.div_eq_of_lt a1, Nat.zero_add, Nat.mod_eq_of_lt hn]
theorem y_num_cg {s t : Nat → Nat} : ∀ n, (∀ i, i < n → s i = t i) → yNum s n = yNum t n
  | 0, _ => rfl
  | n + 1, h => by
    show yNum s n + s n * _ = yNum t n + t n * _
    rw [y_num_cg n (fun i hi => h i (by omega)), h n (by omega)]
theorem y_num_of : ∀ n (v : Nat), v < 2 ^ (8 * n) → yNum (fun i => v / 2 ^ (8 * i) % 256) n = v
  | 0, v, h => by
    have : v < 1 := h
    show 0 = v
    omega
  | n + 1, v, h => by
    show yNum (fun i => v / 2 ^ (8 * i) % 256) n + v / 2 ^ (8 * n) % 256 * 2 ^ (8 * n) = v
    have ih := y_num_of n (v % 2 ^ (8 * n)) (Nat.mod_lt _ (Nat.two_pow_pos _))
    have e : yNum (fun i => v / 2 ^ (8 * i) % 256) n = yNum (fun i => v % 2 ^ (8 * n) / 2 ^ (8 * i) % 256) n := y_num_cg n fun i hi => by
      rw [show 2 ^ (8 * n) = 2 ^ (8 * i) * (256 * 2 ^ (8 * (n - i - 1))) by
        rw [show (256 : Nat) = 2 ^ 8 from rfl, ← Nat.pow_add, ← Nat.pow_add]
        congr 1
        omega, Nat.mod_mul_right_div_self, Nat.mod_mul_right_mod]
    have hd : v / 2 ^ (8 * n) < 256 := by
      rw [Nat.div_lt_iff_lt_mul (Nat.two_pow_pos _)]
      rw [show 8 * (n + 1) = 8 + 8 * n by omega, Nat.pow_add] at h
      exact h
    rw [e, ih, Nat.mod_eq_of_lt hd, Nat.mul_comm (v / _)]
    exact Nat.mod_add_div v _
theorem y_num_mod {s : Nat → Nat} {n m : Nat} (h : ∀ i, i < m → s i < 256) (hn : n ≤ m) : yNum s m % 2 ^ (8 * n) = yNum s n := by
  have hm := y_num_lt (s := s) n (fun i hi => h i (by omega))
  have e : ∀ d, n + d ≤ m → yNum s (n + d) % 2 ^ (8 * n) = yNum s n := by
    intro d
    induction d with
    | zero => intro _; exact Nat.mod_eq_of_lt hm
    | succ d ih =>
      intro hd
      show (yNum s (n + d) + s (n + d) * 2 ^ (8 * (n + d))) % 2 ^ (8 * n) = _
      rw [show 8 * (n + d) = 8 * n + 8 * d by omega, Nat.pow_add, Nat.mul_left_comm, Nat.add_mul_mod_self_left, ih (by omega)]
  have := e (m - n) (by omega)
  rwa [show n + (m - n) = m by omega] at this
theorem w_mask0 : ∀ n, n < 9 → 1 ≤ n → xs_lush (-1) (64 - (8 * nI n)) = lN (2 ^ (8 * n) - 1) := by decide +kernel
theorem w_mask : ∀ n, 1 ≤ n → n < 9 → xs_lush (-1) (64 - (8 * nI n)) = lN (2 ^ (8 * n) - 1) := fun n h1 h2 => w_mask0 n h2 h1
theorem w_and {a n : Nat} (ha : a < 2 ^ 64) (h1 : 1 ≤ n) (h : n < 9) : lN a &&& lN (2 ^ (8 * n) - 1) = lN (a % 2 ^ (8 * n)) := by
  have hp : 2 ^ (8 * n) ≤ 2 ^ 64 := Nat.pow_le_pow_right (by decide) (by omega)
  rw [wb_and ha (by omega), Nat.and_two_pow_sub_one_eq_mod]
