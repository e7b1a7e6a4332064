/-! frames, both ways -/
def yApp (b : Nat → Nat) (n v : Nat) : Nat → Nat := fun i => if i < n then b i else v / 2 ^ (8 * (i - n)) % 256
/-- the class's frame at k holds the n bytes b -/
def xs_cf (S : xs_T) (k n : Nat) (b : Nat → Nat) : Prop := S.1 k 1 = nI n ∧ n ≤ 24 ∧ xs_by S (k + 1) 0 n b
/-- the reference's frame f does -/
def xs_rf (S : xs_T) (f n : Nat) (b : Nat → Nat) : Prop := S.1 210 f = nI n ∧ n ≤ 24 ∧ xs_by S 209 (32 * f) n b
/-- the reference has changed in frame f alone -/
def xs_ef (f : Nat) (S T : xs_T) : Prop := xs_eq [209, 210] S T ∧ (∀ j, j < 32 * f ∨ 32 * f + 32 ≤ j → T.1 209 j = S.1 209 j) ∧ ∀ j, j ≠ f → T.1 210 j = S.1 210 j
theorem ef_rf {f : Nat} {S : xs_T} : xs_ef f S S := ⟨e_rf, fun _ _ => rfl, fun _ _ => rfl⟩
theorem ef_tr {f : Nat} {S T U : xs_T} (h1 : xs_ef f S T) (h2 : xs_ef f T U) : xs_ef f S U := ⟨e_tr h1.1 h2.1, fun j h => (h2.2.1 j h).trans (h1.2.1 j h), fun j h => (h2.2.2 j h).trans (h1.2.2 j h)⟩
theorem x_kF {k : Nat} (h : xs_kd k = 2) : xs_ln (k + 1) = 24 := (by decide +kernel : ∀ k ∈ [4, 6, 8, 10, 12, 14, 16, 18, 20, 22, 24, 26, 28, 30, 32, 34, 36, 38, 40, 42, 67, 69, 91, 93, 115, 117, 121], xs_ln (k + 1) = 24) k (xs_k_F k (xs_kd_lt k (by rw [h]; decide)) h)
theorem y_app_lt {b : Nat → Nat} {n v m : Nat} (h : ∀ i, i < n → b i < 256) : ∀ i, i < m → yApp b n v i < 256 := fun i _ => by
  unfold yApp
  split
  · exact h i (by assumption)
  · exact Nat.mod_lt _ (by decide)
theorem x_fI {S : xs_T} {k j : Nat} {v : Int32} : (xs_sI S k j v).1 k j = v := by rw [xs_sI_at, pk_us]
theorem x_fN {S : xs_T} {k j i : Nat} {v : Int32} (h : i ≠ j) : (xs_sI S k j v).1 k i = S.1 k i := by rw [xs_sI_at, pk_un h]
theorem x_fP {S : xs_T} {k j q : Nat} {v : Int32} (h : q ≠ k) : (xs_sI S k j v).1 q = S.1 q := xs_up_ne h
theorem x_cf_app {S : xs_T} {k n v j : Nat} {b : Nat → Nat} (hk : xs_kd k = 2) (h : xs_cf S k n b) (hv : v < 2 ^ 32) (hj : j ≤ 4) (hn : n + j ≤ 24) :
    ∃ T, xf_F_append k (nI v) (nI j) S = some T ∧ xs_cf T k (n + j) (yApp b n v) ∧ T.1 k 2 = S.1 k 2 ∧ xs_eq [k, k + 1] S T := by
  obtain ⟨h1, h2, h3⟩ := h
  have hl := x_kF hk
  unfold xf_F_append
  rw [show xs_gI S k 1 = nI n from h1, nI_add, if_neg (show ¬ (24 : Int32) < nI (n + j) from nI_nlt (a := 24) hn (by decide)), x_put hj (by omega) hv, Option.bind_some, Option.bind_some]
  have e1 : xs_gI (xs_mp S (k + 1) n j fun i => nI (v / 2 ^ (8 * i) % 256)) k 1 = nI n := by
    show (xs_mp S (k + 1) n j fun i => nI (v / 2 ^ (8 * i) % 256)).1 k 1 = _
    rw [m_ne (by omega), h1]
  rw [e1, nI_add]
  refine ⟨_, rfl, ⟨x_fI, hn, fun i hi => ⟨?_, y_app_lt (fun i hi => (h3 i hi).2) i hi⟩⟩, ?_, e_tr (e_mp (by simp)) (e_sI (by simp))⟩
  · rw [x_fP (by omega), Nat.zero_add]
    unfold yApp
    by_cases h : i < n
    · rw [m_out (by omega), if_pos h]
      exact b_at h3 h
    · obtain ⟨t, rfl⟩ : ∃ t, i = n + t := ⟨i - n, by omega⟩
      rw [m_in (by omega), if_neg h, show n + t - n = t by omega]
  · rw [x_fN (by decide), m_ne (by omega)]
theorem x_cf_begin {S : xs_T} {k h : Nat} {t : Int32} (hk : xs_kd k = 2) (hh : h < 256) :
    ∃ T, xf_F_begin k (nI h) t S = some T ∧ xs_cf T k 1 (fun _ => h) ∧ T.1 k 2 = t ∧ xs_eq [k, k + 1] S T := by
  unfold xf_F_begin
  rw [Option.bind_some, Option.bind_some]
  have c0 : xs_cf (xs_sI (xs_sI S k 1 0) k 2 t) k 0 (fun _ => h) := ⟨by
    rw [x_fN (by decide), x_fI]
    rfl, by decide, fun i hi => absurd hi (Nat.not_lt_zero i)⟩
  obtain ⟨T, e, h1, h2, h3⟩ := x_cf_app (v := h) (j := 1) hk c0 (by omega) (by decide) (by decide)
  rw [show xf_F_append k (nI h) 1 _ = _ from e, Option.bind_some]
  refine ⟨T, rfl, ⟨h1.1, h1.2.1, by_cg (fun i hi => ?_) h1.2.2⟩, by rw [h2, x_fI], e_tr (e_tr (e_sI (by simp)) (e_sI (by simp))) h3⟩
  unfold yApp
  rw [if_neg (Nat.not_lt_zero i), show i = 0 by omega]
  show h / 1 % 256 = h
  omega
theorem x_cf_zeros {S : xs_T} {k n m : Nat} {b : Nat → Nat} (hk : xs_kd k = 2) (h : xs_cf S k n b) (hn : n + m ≤ 24) :
    ∃ T, xf_F_appendZeros k (nI m) S = some T ∧ xs_cf T k (n + m) (fun i => if i < n then b i else 0) ∧ T.1 k 2 = S.1 k 2 ∧ xs_eq [k, k + 1] S T := by
  unfold xf_F_appendZeros
  obtain ⟨T, ⟨h1, h2, h3⟩, e⟩ := xl_for (fun f i (T : xs_T) => xf_F_appendZeros_2 k (nI m) f (nI i) T) (fun i T => xs_cf T k (n + i) (fun i => if i < n then b i else 0) ∧ T.1 k 2 = S.1 k 2 ∧ xs_eq [k, k + 1] S T) m
    (fun f i T hi hT => by
      obtain ⟨h1, h2, h3⟩ := hT
      obtain ⟨T2, e2, g1, g2, g3⟩ := x_cf_app (v := 0) (j := 1) hk h1 (by decide) (by decide) (by omega)
      refine ⟨T2, ⟨⟨g1.1, g1.2.1, by_cg (fun j hj => ?_) g1.2.2⟩, g2.trans h2, e_tr h3 g3⟩, ?_⟩
      · unfold yApp
        by_cases hjn : j < n + i
        · rw [if_pos hjn]
        · rw [if_neg hjn, if_neg (by omega), Nat.zero_div]
      · show xf_F_appendZeros_2 k (nI m) (f + 1) (nI i) T = _
        rw [xf_F_appendZeros_2, if_neg (nI_ge hi (by omega)), show xf_F_append k 0 1 T = _ from e2, Option.bind_some, nI_1]) m 0 xs_fuel S (Nat.zero_add _) (by unfold xs_fuel; omega) ⟨⟨h.1, h.2.1, by_cg (fun i hi => (if_pos hi).symm) h.2.2⟩, rfl, e_rf⟩
  refine ⟨T, Eq.trans e ?_, h1, h2, h3⟩
  show xf_F_appendZeros_2 k (nI m) (xs_fuel - m) (nI m) T = _
  rw [show xs_fuel - m = (999 - m) + 1 by unfold xs_fuel; omega, xf_F_appendZeros_2, if_pos (nI_le (Nat.le_refl _) (by omega))]
theorem x_cf_copy {S : xs_T} {k a n : Nat} {b : Nat → Nat} (hk : xs_kd k = 2) (ha : xs_kd a = 2) (hne : k ≠ a) (h : xs_cf S a n b) :
    ∃ T, xf_F_copy k a S = some T ∧ xs_cf T k n b ∧ T.1 k 2 = S.1 a 2 ∧ xs_eq [k, k + 1] S T := by
  obtain ⟨h1, h2, h3⟩ := h
  have hl := x_kF hk
  have hl2 := x_kF ha
  have n1 : a ≠ k + 1 := fun e => by
    have := (by decide +kernel : ∀ k ∈ [4, 6, 8, 10, 12, 14, 16, 18, 20, 22, 24, 26, 28, 30, 32, 34, 36, 38, 40, 42, 67, 69, 91, 93, 115, 117, 121], xs_kd (k + 1) ≠ 2) k (xs_k_F k (xs_kd_lt k (by rw [hk]; decide)) hk)
    exact this (e ▸ ha)
  unfold xf_F_copy
  rw [show xs_cpy S (a + 1) 0 (k + 1) 0 24 = _ from x_cpy (fr := 0) (to := 0) (n := 24) (by omega) (by omega), Option.bind_some, Option.bind_some, Option.bind_some]
  refine ⟨_, rfl, ⟨?_, h2, fun i hi => ⟨?_, (h3 i hi).2⟩⟩, ?_, e_tr (e_mp (by simp)) (e_tr (e_sI (by simp)) (e_sI (by simp)))⟩
  · rw [x_fN (by decide), x_fI]
    show (xs_mp S (k + 1) 0 24 fun i => S.1 (a + 1) (0 + i)).1 a 1 = _
    rw [m_ne n1, h1]
  · rw [x_fP (by omega), x_fP (by omega), m_in (by omega)]
    exact (h3 i hi).1
  · rw [x_fI]
    show (xs_sI _ k 1 _).1 a 2 = _
    rw [x_fP (Ne.symm hne), m_ne n1]
theorem n_sar : ∀ i, i < 4 → ∀ {v : Nat}, v < 2 ^ 32 → (nI v >>> (((8 : Int32) * nI i) &&& 31)) &&& 255 = nI (v / 2 ^ (8 * i) % 256) := by
  intro i hi v hv
  apply Int32.toBitVec_inj.1
  rw [Int32.toBitVec_and]
  show (BitVec.sshiftRight (BitVec.ofNat 32 v) ((((8 : Int32) * nI i) &&& 31).toBitVec.smod 32).toNat) &&& BitVec.ofNat 32 255 = BitVec.ofNat 32 (v / 2 ^ (8 * i) % 256)
  rw [y_sh i hi]
  apply BitVec.eq_of_getLsbD_eq
  intro j hj
  rw [BitVec.getLsbD_and, BitVec.getLsbD_sshiftRight, BitVec.getLsbD_ofNat, BitVec.getLsbD_ofNat, BitVec.getLsbD_ofNat, show (256 : Nat) = 2 ^ 8 from rfl, Nat.testBit_mod_two_pow, Nat.testBit_div_two_pow]
  have t : (255 : Nat).testBit j = decide (j < 8) := by
    rw [show (255 : Nat) = 2 ^ 8 - 1 from rfl, Nat.testBit_two_pow_sub_one]
  rw [t]
  by_cases h8 : j < 8
  · rw [if_pos (by omega)]
    simp [h8, hj, show ¬ (32 ≤ j) by omega, Nat.add_comm, show 8 * i + j < 32 by omega]
    omega
  · simp [h8]
theorem r_write {S : xs_T} {f n v : Nat} {b : Nat → Nat} (hf : f < 24) (h : xs_rf S f n b) (hv : v < 2 ^ 32) (hn : n < 24) :
    ∃ T, xf_R_write 200 (nI f) (nI v) S = some T ∧ xs_rf T f (n + 1) (yApp b n v) ∧ xs_ef f S T := by
  obtain ⟨h1, h2, h3⟩ := h
  unfold xf_R_write
  rw [x_rd (k := 200 + 10) (show f < 24 from hf), Option.bind_some, show S.1 (200 + 10) f = nI n from h1, show (32 : Int32) * nI f = nI (32 * f) from pk_mul 32 f, nI_add, x_wr (k := 200 + 9) (show 32 * f + n < 768 by omega), Option.bind_some, x_rd (k := 200 + 10) (show f < 24 from hf), Option.bind_some,
    show (xs_sI S (200 + 9) (32 * f + n) (nI v &&& 255)).1 (200 + 10) f = nI n from h1, nI_1, x_wr (k := 200 + 10) (show f < 24 from hf), Option.bind_some, pk_andN hv 8 (by decide)]
  refine ⟨_, rfl, ⟨x_fI, by omega, fun i hi => ⟨?_, y_app_lt (fun i hi => (h3 i hi).2) i hi⟩⟩, e_tr (e_sI (by decide)) (e_sI (by decide)), fun j hj => ?_, fun j hj => ?_⟩
  · show (xs_sI (xs_sI S 209 (32 * f + n) _) 210 f _).1 209 _ = _
    rw [x_fP (by decide)]
    unfold yApp
    by_cases hin : i < n
    · rw [x_fN (by omega), if_pos hin]
      exact (h3 i hin).1
    · rw [show i = n by omega, x_fI, if_neg (Nat.lt_irrefl n), Nat.sub_self]
      rw [show v / 2 ^ (8 * 0) = v from Nat.div_one v]
  · show (xs_sI (xs_sI S 209 (32 * f + n) _) 210 f _).1 209 _ = _
    rw [x_fP (by decide), x_fN (by omega)]
  · show (xs_sI (xs_sI S 209 (32 * f + n) _) 210 f _).1 210 _ = _
    rw [x_fN hj]
    rfl
