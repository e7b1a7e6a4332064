/-! Loops and accesses of the pure functions. -/
theorem xl_for {σ β : Type} (L : Nat → Nat → σ → Option β) (I : Nat → σ → Prop) (n : Nat) (step : ∀ f i s, i < n → I i s → ∃ s', I (i + 1) s' ∧ L (f + 1) i s = L f (i + 1) s') : ∀ (m i f : Nat) (s : σ), i + m = n → m ≤ f → I i s → ∃ s', I n s' ∧ L f i s = L (f - m) n s' := by
  intro m
  induction m with
  | zero =>
    intro i f s h _ hs
    obtain rfl : i = n := by omega
    exact ⟨s, hs, rfl⟩
  | succ m ih =>
    intro i f s h hf hs
    obtain ⟨g, rfl⟩ : ∃ g, f = g + 1 := ⟨f - 1, by omega⟩
    obtain ⟨s1, h1, e1⟩ := step g i s (by omega) hs
    obtain ⟨s2, h2, e2⟩ := ih (i + 1) g s1 (by omega) (by omega) h1
    exact ⟨s2, h2, by rw [e1, e2, show g + 1 - (m + 1) = g - m by omega]⟩
theorem xs_ln_le (k : Nat) : xs_ln k ≤ 768 := by
  by_cases h : k < 237
  · exact (by decide +kernel : ∀ k, k < 237 → xs_ln k ≤ 768) k h
  · unfold xs_ln
    rw [List.getD_eq_getElem?_getD, List.getElem?_eq_none (show xs_lens.length ≤ k from Nat.le_of_not_lt h)]
    exact Nat.zero_le _
theorem x_in {k j : Nat} (h : j < xs_ln k) : ¬ (nI j < 0 ∨ xs_ln k ≤ (nI j).toNatClampNeg) := nI_in h (Nat.lt_of_le_of_lt (xs_ln_le k) (by decide))
theorem x_cl {k j : Nat} (h : j < xs_ln k) : (nI j).toNatClampNeg = j := nI_clamp (Nat.lt_trans h (Nat.lt_of_le_of_lt (xs_ln_le k) (by decide)))
theorem x_rd {S : xs_T} {k j : Nat} (h : j < xs_ln k) : xs_rd S k (nI j) = some (S.1 k j) := by
  unfold xs_rd
  rw [if_neg (x_in h), x_cl h]
theorem x_rdL {S : xs_T} {k j : Nat} (h : j < xs_ln k) : xs_rdL S k (nI j) = some (S.2.1 k j) := by
  unfold xs_rdL
  rw [if_neg (x_in h), x_cl h]
theorem x_wr {S : xs_T} {k j : Nat} {v : Int32} (h : j < xs_ln k) : xs_wr S k (nI j) v = some (xs_sI S k j v) := by
  unfold xs_wr
  rw [if_neg (x_in h), x_cl h]
theorem x_wrL {S : xs_T} {k j : Nat} {v : Int64} (h : j < xs_ln k) : xs_wrL S k (nI j) v = some (xs_sL S k j v) := by
  unfold xs_wrL
  rw [if_neg (x_in h), x_cl h]
theorem x_wrU {S : xs_T} {k j u : Nat} (h : j < xs_ln k) : xs_wrU S k (nI j) u = some (xs_sU S k j u) := by
  unfold xs_wrU
  rw [if_neg (x_in h), x_cl h]
theorem x_rdU {S : xs_T} {k j c : Nat} (h : j < xs_ln k) (hu : xs_kd (S.2.2 k j) = c) : xs_rdU S k (nI j) c = some (S.2.2 k j) := by
  unfold xs_rdU xs_ckU
  rw [if_neg (x_in h), x_cl h, if_pos hu]
theorem x_rdT {k j : Nat} (h : j < 256) : xs_rdT k (nI j) = some (xs_tb k j) := by
  unfold xs_rdT
  rw [if_neg (nI_in h (by decide)), nI_clamp (by omega)]
def xs_pI (S : xs_T) (k : Nat) (f : Nat → Int32) : xs_T := (va_up S.1 k f, S.2)
theorem p_at {S : xs_T} {k : Nat} {f : Nat → Int32} : (xs_pI S k f).1 k = f := xs_up_eq
theorem p_ne {S : xs_T} {k j : Nat} {f : Nat → Int32} (h : j ≠ k) : (xs_pI S k f).1 j = S.1 j := xs_up_ne h
theorem p_pp {S : xs_T} {k : Nat} {f g : Nat → Int32} : xs_pI (xs_pI S k f) k g = xs_pI S k g := by
  unfold xs_pI
  rw [bx_uu]
theorem p_self {S : xs_T} {k : Nat} : xs_pI S k (S.1 k) = S := by
  unfold xs_pI
  rw [show va_up S.1 k (S.1 k) = S.1 from funext fun j => by unfold va_up; split <;> simp_all]
theorem p_sI {S : xs_T} {k j : Nat} {v : Int32} : xs_sI S k j v = xs_pI S k (upd (S.1 k) j v) := rfl
theorem p_psI {S : xs_T} {k j : Nat} {f : Nat → Int32} {v : Int32} : xs_sI (xs_pI S k f) k j v = xs_pI S k (upd f j v) := by
  rw [p_sI, p_at, p_pp]
/-- a row of bytes in a place -/
def xs_by (S : xs_T) (k fr n : Nat) (s : Nat → Nat) : Prop := ∀ i, i < n → S.1 k (fr + i) = nI (s i) ∧ s i < 256
/-- n values written into a place from fr on -/
def xs_mp (S : xs_T) (p fr n : Nat) (g : Nat → Int32) : xs_T := xs_pI S p fun j => if fr ≤ j ∧ j < fr + n then g (j - fr) else S.1 p j
section XM
variable {S : xs_T} {p fr n : Nat} {g : Nat → Int32}
theorem m_0 : xs_mp S p fr 0 g = S := by
  unfold xs_mp
  rw [show (fun j => if fr ≤ j ∧ j < fr + 0 then g (j - fr) else S.1 p j) = S.1 p from funext fun j => if_neg (by omega), p_self]
theorem m_s : xs_sI (xs_mp S p fr n g) p (fr + n) (g n) = xs_mp S p fr (n + 1) g := by
  unfold xs_mp
  rw [p_psI]
  refine congrArg (xs_pI S p) (funext fun j => ?_)
  unfold upd
  by_cases h1 : j = fr + n
  · subst h1
    rw [if_pos rfl, if_pos (by omega), show fr + n - fr = n by omega]
  · rw [if_neg h1]
    dsimp only
    by_cases h2 : fr ≤ j ∧ j < fr + n
    · rw [if_pos h2, if_pos (by omega)]
    · rw [if_neg h2, if_neg (by omega)]
theorem m_ne {q : Nat} (h : q ≠ p) : (xs_mp S p fr n g).1 q = S.1 q := p_ne h
theorem m_in {j : Nat} (h : j < n) : (xs_mp S p fr n g).1 p (fr + j) = g j := by
  unfold xs_mp
  rw [p_at]
  show (if _ then _ else _) = _
  rw [if_pos (by omega), show fr + j - fr = j by omega]
theorem m_out {j : Nat} (h : j < fr ∨ fr + n ≤ j) : (xs_mp S p fr n g).1 p j = S.1 p j := by
  unfold xs_mp
  rw [p_at]
  show (if _ then _ else _) = _
  rw [if_neg (by omega)]
theorem m_2 : (xs_mp S p fr n g).2 = S.2 := rfl
theorem m_by {s : Nat → Nat} (h : ∀ i, i < n → s i < 256) : xs_by (xs_mp S p fr n fun i => nI (s i)) p fr n s := fun i hi => ⟨m_in hi, h i hi⟩
theorem m_g {g2 : Nat → Int32} (h : ∀ i, i < n → g i = g2 i) : xs_mp S p fr n g = xs_mp S p fr n g2 := by
  unfold xs_mp
  refine congrArg (xs_pI S p) (funext fun j => ?_)
  by_cases h2 : fr ≤ j ∧ j < fr + n
  · rw [if_pos h2, if_pos h2, h _ (by omega)]
  · rw [if_neg h2, if_neg h2]
theorem m_4 : xs_mp (xs_mp (xs_mp (xs_mp S p (fr + 4 * 0) 4 fun i => g (4 * 0 + i)) p (fr + 4 * 1) 4 fun i => g (4 * 1 + i)) p (fr + 4 * 2) 4 fun i => g (4 * 2 + i)) p (fr + 4 * 3) 4 (fun i => g (4 * 3 + i)) = xs_mp S p fr 16 g := by
  unfold xs_mp
  rw [p_pp, p_pp, p_pp]
  refine congrArg (xs_pI S p) (funext fun j => ?_)
  simp only [p_at]
  by_cases h3 : fr + 4 * 3 ≤ j ∧ j < fr + 4 * 3 + 4
  · rw [if_pos h3, if_pos (by omega), show 4 * 3 + (j - (fr + 4 * 3)) = j - fr by omega]
  rw [if_neg h3]
  by_cases h2 : fr + 4 * 2 ≤ j ∧ j < fr + 4 * 2 + 4
  · rw [if_pos h2, if_pos (by omega), show 4 * 2 + (j - (fr + 4 * 2)) = j - fr by omega]
  rw [if_neg h2]
  by_cases h1 : fr + 4 * 1 ≤ j ∧ j < fr + 4 * 1 + 4
  · rw [if_pos h1, if_pos (by omega), show 4 * 1 + (j - (fr + 4 * 1)) = j - fr by omega]
  rw [if_neg h1]
  by_cases h0 : fr + 4 * 0 ≤ j ∧ j < fr + 4 * 0 + 4
  · rw [if_pos h0, if_pos (by omega), show 4 * 0 + (j - (fr + 4 * 0)) = j - fr by omega]
  rw [if_neg h0, if_neg (by omega)]
theorem xl_map {β : Type} (L : Nat → Nat → xs_T → Option β) (S : xs_T) (p fr n : Nat) (g : Nat → Int32) (step : ∀ f i, i < n → L (f + 1) i (xs_mp S p fr i g) = L f (i + 1) (xs_sI (xs_mp S p fr i g) p (fr + i) (g i))) : ∀ f, n ≤ f → L f 0 S = L (f - n) n (xs_mp S p fr n g) := by
  intro f hf
  obtain ⟨T, hT, e⟩ := xl_for L (fun i T => T = xs_mp S p fr i g) n (fun f i T hi hT => ⟨_, rfl, by
    subst hT
    rw [step f i hi, m_s]⟩) n 0 f S (Nat.zero_add _) hf m_0.symm
  subst hT
  exact e
end XM
theorem x_fill {S : xs_T} {k : Nat} {v : Int32} : xf_J_fill k v S = some (xs_mp S k 0 (xs_ln k) fun _ => v) := by
  have hL := xs_ln_le k
  unfold xf_J_fill
  rw [Option.bind_some]
  refine Eq.trans (xl_map (fun f i (T : xs_T) => xf_J_fill_5 k v f (nI i) (nI (xs_ln k)) T) S k 0 (xs_ln k) (fun _ => v) (fun f i hi => ?_) xs_fuel (by unfold xs_fuel; omega)) ?_
  · show xf_J_fill_5 k v (f + 1) (nI i) (nI (xs_ln k)) _ = xf_J_fill_5 k v f (nI (i + 1)) (nI (xs_ln k)) _
    rw [xf_J_fill_5, if_neg (nI_ge hi (by omega)), x_wr hi, Option.bind_some, nI_1, Nat.zero_add]
  · show xf_J_fill_5 k v (xs_fuel - xs_ln k) _ _ _ = _
    rw [show xs_fuel - xs_ln k = (999 - xs_ln k) + 1 by unfold xs_fuel; omega, xf_J_fill_5, if_pos (nI_le (Nat.le_refl _) (by omega))]
def yNum (s : Nat → Nat) : Nat → Nat
  | 0 => 0
  | n + 1 => yNum s n + s n * 2 ^ (8 * n)
theorem y_num_lt {s : Nat → Nat} : ∀ n, (∀ i, i < n → s i < 256) → yNum s n < 2 ^ (8 * n)
  | 0, _ => by show 0 < 2 ^ 0; decide
  | n + 1, h => by
    have h1 := y_num_lt n (fun i hi => h i (by omega))
    have h2 := h n (by omega)
    have e : 2 ^ (8 * (n + 1)) = 2 ^ (8 * n) * 256 := by rw [show 8 * (n + 1) = 8 * n + 8 by omega, Nat.pow_add]
    have h3 : s n * 2 ^ (8 * n) ≤ 255 * 2 ^ (8 * n) := Nat.mul_le_mul_right _ (by omega)
    show yNum s n + s n * 2 ^ (8 * n) < _
    rw [e]
    omega
theorem y_num4 {s : Nat → Nat} : yNum s 4 = yP (s 0) (s 1) (s 2) (s 3) := by
  simp only [yNum, yP]
  omega
theorem y_num3 {s : Nat → Nat} : yNum s 3 = yP (s 0) (s 1) (s 2) 0 := by
  simp only [yNum, yP]
  omega
theorem y_num2 {s : Nat → Nat} : yNum s 2 = yP (s 0) (s 1) 0 0 := by
  simp only [yNum, yP]
  omega
theorem y_sh : ∀ i, i < 4 → ((((8 : Int32) * nI i) &&& 31).toBitVec.smod 32).toNat = 8 * i := by decide +kernel
theorem y_su : ∀ i, i < 4 → ((((8 : Int32) * nI i).toUInt32 &&& Int32.toUInt32 31).toBitVec % 32).toNat = 8 * i := by decide +kernel
theorem x_num {S : xs_T} {k fr n : Nat} {s : Nat → Nat} (hn : n ≤ 4) (hl : fr + n ≤ xs_ln k) (h : xs_by S k fr n s) : xf_W_number k (nI fr) (nI n) S = some (nI (yNum s n)) := by
  unfold xf_W_number
  obtain ⟨v, hv, e⟩ := xl_for (fun f i (v : Int32) => xf_W_number_5 k (nI fr) (nI n) S f v (nI i)) (fun i v => v = nI (yNum s i)) n
    (fun f i v hi hv => by
      refine ⟨_, rfl, ?_⟩
      subst hv
      show xf_W_number_5 k (nI fr) (nI n) S (f + 1) _ _ = xf_W_number_5 k (nI fr) (nI n) S f (nI (yNum s i + s i * 2 ^ (8 * i))) (nI (i + 1))
      rw [xf_W_number_5, if_neg (nI_ge hi (by omega)), nI_add, x_rd (by omega), Option.bind_some, Option.bind_some, (h i hi).1, n_shl _ (8 * i) (y_sh i (by omega)), n_or, y_orp (y_num_lt i (fun j hj => (h j (by omega)).2)), nI_1]) n 0 xs_fuel 0 (Nat.zero_add _) (by unfold xs_fuel; omega) rfl
  subst hv
  refine Eq.trans e ?_
  show xf_W_number_5 k (nI fr) (nI n) S (xs_fuel - n) _ _ = _
  rw [show xs_fuel - n = (999 - n) + 1 by unfold xs_fuel; omega, xf_W_number_5, if_pos (nI_le (Nat.le_refl _) (by omega))]
theorem x_put {S : xs_T} {k fr n v : Nat} (hn : n ≤ 4) (hl : fr + n ≤ xs_ln k) (hv : v < 2 ^ 32) : xf_W_putNumber k (nI fr) (nI v) (nI n) S = some (xs_mp S k fr n fun i => nI (v / 2 ^ (8 * i) % 256)) := by
  have hL := xs_ln_le k
  unfold xf_W_putNumber
  refine Eq.trans (xl_map (fun f i (T : xs_T) => xf_W_putNumber_3 k (nI fr) (nI v) (nI n) f (nI i) T) S k fr n (fun i => nI (v / 2 ^ (8 * i) % 256)) (fun f i hi => ?_) xs_fuel (by unfold xs_fuel; omega)) ?_
  · show xf_W_putNumber_3 k (nI fr) (nI v) (nI n) (f + 1) _ _ = xf_W_putNumber_3 k (nI fr) (nI v) (nI n) f (nI (i + 1)) _
    rw [xf_W_putNumber_3, if_neg (nI_ge hi (by omega)), nI_add, x_wr (by omega), Option.bind_some, n_ush hv _ (8 * i) (y_su i (by omega)), pk_andN (Nat.lt_of_le_of_lt (Nat.div_le_self _ _) hv) 8 (by decide), nI_1]
  · show xf_W_putNumber_3 k (nI fr) (nI v) (nI n) (xs_fuel - n) _ _ = _
    rw [show xs_fuel - n = (999 - n) + 1 by unfold xs_fuel; omega, xf_W_putNumber_3, if_pos (nI_le (Nat.le_refl _) (by omega))]
