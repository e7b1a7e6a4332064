/-! AES as the reference does it (its object at place 200). -/
def yT9 (a : Nat) : Nat := a ^^^ yTw (yTw (yTw a))
def yT11 (a : Nat) : Nat := (a ^^^ yTw a) ^^^ yTw (yTw (yTw a))
def yT13 (a : Nat) : Nat := (a ^^^ yTw (yTw a)) ^^^ yTw (yTw (yTw a))
def yT14 (a : Nat) : Nat := (yTw a ^^^ yTw (yTw a)) ^^^ yTw (yTw (yTw a))
theorem x_twice : ∀ a, a < 256 → xf_R_twice (nI a) = some (nI (yTw a)) := by decide +kernel
theorem x_t1 : ∀ a, a < 256 → xf_R_times (nI a) 1 = some (nI a) := by decide +kernel
theorem x_t2 : ∀ a, a < 256 → xf_R_times (nI a) 2 = some (nI (yTw a)) := by decide +kernel
theorem x_t3 : ∀ a, a < 256 → xf_R_times (nI a) 3 = some (nI (a ^^^ yTw a)) := by decide +kernel
theorem x_t9 : ∀ a, a < 256 → xf_R_times (nI a) 9 = some (nI (yT9 a)) := by decide +kernel
theorem x_t11 : ∀ a, a < 256 → xf_R_times (nI a) 11 = some (nI (yT11 a)) := by decide +kernel
theorem x_t13 : ∀ a, a < 256 → xf_R_times (nI a) 13 = some (nI (yT13 a)) := by decide +kernel
theorem x_t14 : ∀ a, a < 256 → xf_R_times (nI a) 14 = some (nI (yT14 a)) := by decide +kernel
theorem x_r16 {a : Nat} (h : a < 2 ^ 31) : xs_rem (nI a) 16 = nI (a % 16) := pk_rem (d := 16) h (by decide) (by decide)
theorem x_r4 {a : Nat} (h : a < 2 ^ 31) : xs_rem (nI a) 4 = nI (a % 4) := pk_rem (d := 4) h (by decide) (by decide)
theorem r_addKey {S : xs_T} {r : Nat} {u W : Nat → Nat} (hr : r ≤ 10) (hu : xs_by S 204 0 16 u) (hW : xs_by S 203 0 176 W) : xf_R_addKey 200 (nI r) S = some (xs_mp S 204 0 16 fun i => nI (yAdd W r u i)) := by
  unfold xf_R_addKey
  refine Eq.trans (xl_map (fun f i (T : xs_T) => xf_R_addKey_2 200 (nI r) f (nI i) T) S 204 0 16 (fun i => nI (yAdd W r u i)) (fun f i hi => ?_) xs_fuel (by decide)) ?_
  · show xf_R_addKey_2 200 (nI r) (f + 1) (nI i) _ = xf_R_addKey_2 200 (nI r) f (nI (i + 1)) _
    have e1 : (xs_mp S 204 0 i fun i => nI (yAdd W r u i)).1 204 i = nI (u i) := by
      rw [m_out (by omega)]
      have := (hu i hi).1
      rwa [Nat.zero_add] at this
    have e2 : (xs_mp S 204 0 i fun i => nI (yAdd W r u i)).1 203 (16 * r + i) = nI (W (16 * r + i)) := by
      rw [m_ne (by decide)]
      have := (hW (16 * r + i) (by omega)).1
      rwa [Nat.zero_add] at this
    rw [xf_R_addKey_2, if_neg (show ¬ (16 : Int32) ≤ nI i from nI_ge (b := 16) hi (by decide)), x_rd (k := 200 + 4) hi, Option.bind_some, show (16 : Int32) * nI r = nI (16 * r) from pk_mul 16 r, nI_add, x_rd (k := 200 + 3) (show 16 * r + i < 176 by omega), Option.bind_some, x_wr (k := 200 + 4) hi, Option.bind_some, nI_1, Nat.zero_add]
    show xf_R_addKey_2 200 (nI r) f (nI (i + 1)) (xs_sI _ 204 i ((xs_mp S 204 0 i fun i => nI (yAdd W r u i)).1 204 i ^^^ (xs_mp S 204 0 i fun i => nI (yAdd W r u i)).1 203 (16 * r + i))) = _
    rw [e1, e2, n_xor]
    rfl
  · show xf_R_addKey_2 200 (nI r) (983 + 1) (nI 16) _ = _
    rw [xf_R_addKey_2, if_pos (show (16 : Int32) ≤ nI 16 from nI_le (a := 16) (Nat.le_refl _) (by decide))]
theorem r_copy {S : xs_T} {u : Nat → Nat} (hu : xs_by S 204 0 16 u) : xf_R_copyBlock 200 S = some (xs_mp S 205 0 16 fun i => nI (u i)) := by
  unfold xf_R_copyBlock
  refine Eq.trans (xl_map (fun f i (T : xs_T) => xf_R_copyBlock_2 200 f (nI i) T) S 205 0 16 (fun i => nI (u i)) (fun f i hi => ?_) xs_fuel (by decide)) ?_
  · show xf_R_copyBlock_2 200 (f + 1) (nI i) _ = xf_R_copyBlock_2 200 f (nI (i + 1)) _
    have e1 : (xs_mp S 205 0 i fun i => nI (u i)).1 204 i = nI (u i) := by
      rw [m_ne (by decide)]
      have := (hu i hi).1
      rwa [Nat.zero_add] at this
    rw [xf_R_copyBlock_2, if_neg (show ¬ (16 : Int32) ≤ nI i from nI_ge (b := 16) hi (by decide)), x_rd (k := 200 + 4) hi, Option.bind_some, x_wr (k := 200 + 5) hi, Option.bind_some, nI_1, Nat.zero_add]
    show xf_R_copyBlock_2 200 f (nI (i + 1)) (xs_sI _ 205 i ((xs_mp S 205 0 i fun i => nI (u i)).1 204 i)) = _
    rw [e1]
  · show xf_R_copyBlock_2 200 (983 + 1) (nI 16) _ = _
    rw [xf_R_copyBlock_2, if_pos (show (16 : Int32) ≤ nI 16 from nI_le (a := 16) (Nat.le_refl _) (by decide))]
/-- all places but these are as before; longs and references too -/
def xs_eq (ps : List Nat) (S T : xs_T) : Prop := (∀ q, q ∉ ps → T.1 q = S.1 q) ∧ T.2 = S.2
theorem e_rf {ps : List Nat} {S : xs_T} : xs_eq ps S S := ⟨fun _ _ => rfl, rfl⟩
theorem e_tr {ps : List Nat} {S T U : xs_T} (h1 : xs_eq ps S T) (h2 : xs_eq ps T U) : xs_eq ps S U := ⟨fun q hq => (h2.1 q hq).trans (h1.1 q hq), h2.2.trans h1.2⟩
theorem e_mp {ps : List Nat} {S : xs_T} {p fr n : Nat} {g : Nat → Int32} (h : p ∈ ps) : xs_eq ps S (xs_mp S p fr n g) := ⟨fun q hq => m_ne fun e => hq (e ▸ h), rfl⟩
theorem e_sI {ps : List Nat} {S : xs_T} {p j : Nat} {v : Int32} (h : p ∈ ps) : xs_eq ps S (xs_sI S p j v) := ⟨fun q hq => xs_up_ne fun e => hq (e ▸ h), rfl⟩
theorem e_by {ps : List Nat} {S T : xs_T} {p fr n : Nat} {u : Nat → Nat} (h : xs_eq ps S T) (hp : p ∉ ps) (hu : xs_by S p fr n u) : xs_by T p fr n u := fun i hi => by
  rw [h.1 p hp]
  exact hu i hi
theorem b_at {S : xs_T} {p n i : Nat} {u : Nat → Nat} (h : xs_by S p 0 n u) (hi : i < n) : S.1 p i = nI (u i) := by
  have := (h i hi).1
  rwa [Nat.zero_add] at this
/-- the reference's tables -/
def xs_bx (S : xs_T) : Prop := ∀ a, a < 256 → S.1 201 a = nI (yS 171 a) ∧ S.1 202 a = nI (yS 172 a)
theorem r_mix {S : xs_T} {u : Nat → Nat} (hu : xs_by S 204 0 16 u) : ∃ T, xf_R_mix 200 2 3 1 1 S = some T ∧ xs_by T 204 0 16 (yMix u) ∧ xs_eq [204, 205] S T := by
  have hb : yB 16 u := fun i hi => (hu i hi).2
  unfold xf_R_mix
  rw [r_copy hu, Option.bind_some]
  refine ⟨xs_mp (xs_mp S 205 0 16 fun i => nI (u i)) 204 0 16 fun i => nI (yMix u i), Eq.trans (xl_map (fun f i (T : xs_T) => xf_R_mix_7 200 2 3 1 1 f (nI i) T) (xs_mp S 205 0 16 fun i => nI (u i)) 204 0 16 (fun i => nI (yMix u i)) (fun f i hi => ?_) xs_fuel (by decide)) ?_, m_by (y_b_mix hb), e_tr (e_mp (p := 205) (by decide)) (e_mp (p := 204) (by decide))⟩
  · show xf_R_mix_7 200 2 3 1 1 (f + 1) (nI i) _ = xf_R_mix_7 200 2 3 1 1 f (nI (i + 1)) _
    generalize hT : (xs_mp (xs_mp S 205 0 16 fun i => nI (u i)) 204 0 i fun i => nI (yMix u i)) = T
    have rd : ∀ j, j < 16 → xs_rd T 205 (nI j) = some (nI (u j)) := fun j hj => by
      rw [x_rd (show j < 16 from hj), ← hT, m_ne (by decide)]
      have := m_in (S := S) (p := 205) (fr := 0) (n := 16) (g := fun i => nI (u i)) hj
      rw [Nat.zero_add] at this
      rw [this]
    have ix : ∀ o, o < 4 → (nI i / 4 * 4 + xs_rem (nI i + nI o) 4) = nI (i / 4 * 4 + (i + o) % 4) := fun o ho => by
      rw [show nI i / 4 = nI (i / 4) from pk_div (d := 4) (by omega) (by decide) (by decide), show nI (i / 4) * 4 = nI (i / 4 * 4) from pk_mul _ 4, nI_add, x_r4 (by omega), nI_add]
    rw [xf_R_mix_7, if_neg (show ¬ (16 : Int32) ≤ nI i from nI_ge (b := 16) hi (by decide)), show xs_rd T (200 + 5) (nI i) = _ from rd i hi, Option.bind_some, x_t2 _ (hb i hi), Option.bind_some,
      show nI i / 4 * 4 + xs_rem (nI i + 1) 4 = _ from ix 1 (by decide), show xs_rd T (200 + 5) (nI (i / 4 * 4 + (i + 1) % 4)) = _ from rd _ (by omega), Option.bind_some, x_t3 _ (hb _ (by omega)), Option.bind_some,
      show nI i / 4 * 4 + xs_rem (nI i + 2) 4 = _ from ix 2 (by decide), show xs_rd T (200 + 5) (nI (i / 4 * 4 + (i + 2) % 4)) = _ from rd _ (by omega), Option.bind_some, x_t1 _ (hb _ (by omega)), Option.bind_some,
      show nI i / 4 * 4 + xs_rem (nI i + 3) 4 = _ from ix 3 (by decide), show xs_rd T (200 + 5) (nI (i / 4 * 4 + (i + 3) % 4)) = _ from rd _ (by omega), Option.bind_some, x_t1 _ (hb _ (by omega)), Option.bind_some,
      x_wr (k := 200 + 4) (show i < 16 from hi), Option.bind_some, nI_1, n_xor, n_xor, n_xor, Nat.zero_add]
    rfl
  · show xf_R_mix_7 200 2 3 1 1 (983 + 1) (nI 16) _ = _
    rw [xf_R_mix_7, if_pos (show (16 : Int32) ≤ nI 16 from nI_le (a := 16) (Nat.le_refl _) (by decide))]
theorem r_sub {S : xs_T} {u : Nat → Nat} {n1 i2 : Int32} {c12 : Int32 → xs_T → Option xs_T} (hx : xs_bx S) (hu : xs_by S 205 0 16 u) :
    xf_R_cipher_24 200 n1 c12 xs_fuel i2 0 S = xf_R_cipher_24 200 n1 c12 984 i2 16 (xs_mp S 204 0 16 fun i => nI (ySub u i)) := by
  have hb : yB 16 u := fun i hi => (hu i hi).2
  refine xl_map (fun f i (T : xs_T) => xf_R_cipher_24 200 n1 c12 f i2 (nI i) T) S 204 0 16 (fun i => nI (ySub u i)) (fun f i hi => ?_) xs_fuel (by decide)
  show xf_R_cipher_24 200 n1 c12 (f + 1) i2 (nI i) _ = xf_R_cipher_24 200 n1 c12 f i2 (nI (i + 1)) _
  generalize hT : (xs_mp S 204 0 i fun i => nI (ySub u i)) = T
  have hb2 := hb ((i + 4 * (i % 4)) % 16) (Nat.mod_lt _ (by decide))
  rw [xf_R_cipher_24, if_neg (show ¬ (16 : Int32) ≤ nI i from nI_ge (b := 16) hi (by decide)), x_r4 (by omega), show (4 : Int32) * nI (i % 4) = nI (4 * (i % 4)) from pk_mul 4 _, nI_add, x_r16 (by omega), x_rd (k := 200 + 5) (show _ < 16 from Nat.mod_lt _ (by decide)), Option.bind_some]
  rw [show T.1 (200 + 5) ((i + 4 * (i % 4)) % 16) = nI (u ((i + 4 * (i % 4)) % 16)) by
    rw [← hT, m_ne (by decide)]
    exact b_at hu (Nat.mod_lt _ (by decide))]
  rw [x_rd (k := 200 + 1) (show _ < 256 from hb2), Option.bind_some, show T.1 (200 + 1) (u ((i + 4 * (i % 4)) % 16)) = nI (ySub u i) by
    rw [← hT, m_ne (by decide)]
    exact (hx _ hb2).1, x_wr (k := 200 + 4) (show i < 16 from hi), Option.bind_some, nI_1, Nat.zero_add]
