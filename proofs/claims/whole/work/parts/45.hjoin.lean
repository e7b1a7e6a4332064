/-! the server hears a JOIN: forms, and the class's session -/
def yJf (n : Nat) (b : Nat → Nat) : Prop := n = 23 ∧ b 0 = 0 ∧ b 9 < 3 ∧ ∀ j, 1 ≤ j → j < 17 → j ≠ 9 → b j = 0
theorem x_jf33 {S : xs_T} {a : Nat} {b : Nat → Nat} (ha : xs_kd a = 2) (h : xs_cf S a 23 b) : ∀ m i f, i + m = 17 → 1 ≤ i → m < f →
    ((∀ j, i ≤ j → j < 17 → j ≠ 9 → b j = 0) ∧ xf_F_hasJoinForm_33 a S f (nI i) = some 1) ∨ (¬ (∀ j, i ≤ j → j < 17 → j ≠ 9 → b j = 0) ∧ xf_F_hasJoinForm_33 a S f (nI i) = some 0)
  | 0, i, f + 1, hi, h1, hf => by
    have e : i = 17 := by omega
    subst e
    refine Or.inl ⟨fun j h2 h3 => by omega, ?_⟩
    rw [xf_F_hasJoinForm_33, if_pos (show (17 : Int32) ≤ nI 17 by decide)]
    rfl
  | m + 1, i, f + 1, hi, h1, hf => by
    have la := x_kF ha
    have bi := h.2.2 i (by omega)
    have bb := bi.2
    rw [Nat.zero_add] at bi
    have ih := x_jf33 ha h m (i + 1) f (by omega) (by omega) (by omega)
    rw [xf_F_hasJoinForm_33, if_neg (show ¬ (17 : Int32) ≤ nI i from nI_ge (b := 17) (by omega) (by decide))]
    unfold xf_F_hasJoinForm_56
    rw [nI_1]
    have step : (i = 9 ∨ b i = 0) → ((∀ j, i + 1 ≤ j → j < 17 → j ≠ 9 → b j = 0) ↔ (∀ j, i ≤ j → j < 17 → j ≠ 9 → b j = 0)) := fun hz => by
      constructor
      · intro hh j h2 h3 h4
        by_cases hji : j = i
        · subst hji
          exact hz.resolve_left h4
        · exact hh j (by omega) h3 h4
      · intro hh j h2 h3 h4
        exact hh j (by omega) h3 h4
    by_cases h9 : i = 9
    · rw [if_pos (show nI i = 9 by rw [h9]; rfl)]
      rw [step (Or.inl h9)] at ih
      exact ih
    rw [if_neg (show ¬ nI i = 9 from fun e => h9 ((nI_eq (b := 9) (by omega) (by decide)).mp e)), x_rd (by omega), Option.bind_some, bi.1]
    by_cases hz : b i = 0
    · rw [if_pos (show nI (b i) = 0 by rw [hz]; rfl)]
      rw [step (Or.inr hz)] at ih
      exact ih
    · rw [if_neg (show ¬ nI (b i) = 0 from nI_ne0 (by omega) (by omega))]
      exact Or.inr ⟨fun hh => hz (hh i (Nat.le_refl _) (by omega) h9), rfl⟩
theorem x_joinForm {S : xs_T} {a n : Nat} {b : Nat → Nat} (ha : xs_kd a = 2) (h : xs_cf S a n b) (h12 : 12 ≤ n) : (yJf n b ∧ xf_F_hasJoinForm a S = some 1) ∨ (¬ yJf n b ∧ xf_F_hasJoinForm a S = some 0) := by
  have la := x_kF ha
  have h24 := h.2.1
  have b0 := h.2.2 0 (by omega)
  have b9 := h.2.2 9 (by omega)
  have v0 := b0.2
  have v9 := b9.2
  unfold xf_F_hasJoinForm
  rw [show xs_gI S a 1 = nI n from h.1]
  by_cases h1 : n = 23
  rotate_left
  · rw [if_neg (show ¬ nI n = 23 from fun e => h1 ((nI_eq (b := 23) (by omega) (by decide)).mp e))]
    exact Or.inr ⟨fun hh => h1 hh.1, rfl⟩
  subst h1
  rw [if_pos (show nI 23 = 23 from rfl), show xs_rd S (a + 1) 0 = _ from x_rd (j := 0) (by omega), Option.bind_some, show S.1 (a + 1) 0 = nI (b 0) from b0.1]
  by_cases h2 : b 0 = 0
  rotate_left
  · rw [if_neg (show ¬ nI (b 0) = 0 from nI_ne0 (by omega) (by omega))]
    exact Or.inr ⟨fun hh => h2 hh.2.1, rfl⟩
  rw [if_pos (show nI (b 0) = 0 by rw [h2]; rfl), show xs_rd S (a + 1) 9 = _ from x_rd (j := 9) (by omega), Option.bind_some, show S.1 (a + 1) 9 = nI (b 9) from b9.1]
  by_cases h3 : b 9 < 3
  rotate_left
  · rw [if_neg (show ¬ nI (b 9) < 3 from Int32.not_lt.mpr (nI_le (a := 3) (by omega) (by omega)))]
    exact Or.inr ⟨fun hh => h3 hh.2.2.1, rfl⟩
  rw [if_pos (show nI (b 9) < 3 from nI_lt (b := 3) h3 (by decide))]
  rcases x_jf33 ha h 16 1 xs_fuel rfl (by decide) (by decide) with ⟨hh, e⟩ | ⟨hh, e⟩
  · exact Or.inl ⟨⟨rfl, h2, h3, hh⟩, e⟩
  · exact Or.inr ⟨fun hj => hh hj.2.2.2, e⟩
theorem r_zeros {R : xs_T} {n fr m : Nat} {b : Nat → Nat} (h : xs_rf R 23 n b) (hn : fr + m ≤ n) : (xf_R_zeros 200 23 (nI fr) (nI (fr + m)) R = some 1 ∧ ∀ j, j < m → b (fr + j) = 0) ∨ (xf_R_zeros 200 23 (nI fr) (nI (fr + m)) R = some 0 ∧ ¬ ∀ j, j < m → b (fr + j) = 0) := by
  have h24 := h.2.1
  unfold xf_R_zeros
  obtain ⟨v, hv, e⟩ := xl_for (fun g i (v : Int32) => xf_R_zeros_6 200 23 (nI fr) (nI (fr + m)) R g v (nI (fr + i))) (fun i v => (v = 1 ∧ ∀ j, j < i → b (fr + j) = 0) ∨ (v = 0 ∧ ¬ ∀ j, j < i → b (fr + j) = 0)) m
    (fun g i v hi hv => by
      have bi := h.2.2 (fr + i) (by omega)
      have bb := bi.2
      show ∃ s', _ ∧ xf_R_zeros_6 200 23 (nI fr) (nI (fr + m)) R (g + 1) v (nI (fr + i)) = xf_R_zeros_6 200 23 (nI fr) (nI (fr + m)) R g s' (nI (fr + i + 1))
      rw [xf_R_zeros_6, if_neg (nI_ge (by omega) (by omega))]
      unfold xf_R_zeros_31 xf_R_zeros_32
      rw [nI_1]
      rcases hv with ⟨rfl, hv⟩ | ⟨rfl, hv⟩
      · rw [if_neg i10, show xf_R_at 200 23 (nI (fr + i)) R = _ from r_at (f := 23) (by decide) (by omega), Option.bind_some, bi.1]
        by_cases hz : b (fr + i) = 0
        · rw [if_pos (show nI (b (fr + i)) = 0 by rw [hz]; rfl)]
          refine ⟨1, Or.inl ⟨rfl, fun j hj => ?_⟩, rfl⟩
          by_cases hji : j = i
          · subst hji
            exact hz
          · exact hv j (by omega)
        · rw [if_neg (show ¬ nI (b (fr + i)) = 0 from nI_ne0 (by omega) (by omega))]
          exact ⟨0, Or.inr ⟨rfl, fun hh => hz (hh i (by omega))⟩, rfl⟩
      · rw [if_pos rfl]
        exact ⟨0, Or.inr ⟨rfl, fun hh => hv fun j hj => hh j (by omega)⟩, rfl⟩) m 0 xs_fuel 1 (Nat.zero_add _) (by unfold xs_fuel; omega) (Or.inl ⟨rfl, fun j hj => by omega⟩)
  have e' : xf_R_zeros_6 200 23 (nI fr) (nI (fr + m)) R xs_fuel 1 (nI fr) = some v := by
    refine Eq.trans e ?_
    show xf_R_zeros_6 200 23 (nI fr) (nI (fr + m)) R (xs_fuel - m) v (nI (fr + m)) = _
    rw [show xs_fuel - m = (999 - m) + 1 by unfold xs_fuel; omega, xf_R_zeros_6, if_pos (nI_le (Nat.le_refl _) (by omega))]
    rcases hv with ⟨rfl, -⟩ | ⟨rfl, -⟩ <;> rfl
  rcases hv with ⟨rfl, hv⟩ | ⟨rfl, hv⟩
  · exact Or.inl ⟨e', hv⟩
  · exact Or.inr ⟨e', hv⟩
theorem y_adC : ∀ d, d < 3 → ∀ x, x < 256 → ((nI d + 1) ||| (nI x <<< ((8 : Int32) &&& 31) : Int32)) ||| 637534208 = nI (yP (d + 1) x 0 38) := by decide +kernel
theorem y_adR : ∀ d, d < 3 → ∀ x, x < 256 → ((nI d + 1) + (nI x <<< ((8 : Int32) &&& 31) : Int32)) + 637534208 = nI (yP (d + 1) x 0 38) := by decide +kernel
theorem y_ad_lt : ∀ d, d < 3 → ∀ x, x < 256 → yP (d + 1) x 0 38 < 2 ^ 32 := by decide +kernel
theorem x_openSess {S : xs_T} {d ss serial nonce : Nat} {W : Nat → Nat} (hd : d < 3) (h0 : S.1 (123 + 16 * d) 0 = nI d) (h7 : S.1 (123 + 16 * d) 7 = nI ss) (hss : ss < 2 ^ 30) (hW : xs_rk S (49 + 24 * d) W) (h2 : serial < 2 ^ 32) (h3 : nonce < 2 ^ 32) :
    ∃ T, xf_K_openSession (123 + 16 * d) (nI serial) (nI nonce) S = some T ∧ xs_ses T (124 + 16 * d) (yP (d + 1) ((ss + 1) % 256) 0 38) (ySch (yEnc W (yDk 1 serial nonce))) (ySch (yEnc W (yDk 2 serial nonce))) ∧ T.1 (123 + 16 * d) 7 = nI (ss + 1) ∧ T.1 (123 + 16 * d) 8 = nI serial ∧ T.1 (123 + 16 * d) 9 = nI nonce ∧ T.1 (123 + 16 * d) 10 = -1 ∧ T.1 (123 + 16 * d) 11 = nI 0 ∧ T.1 (123 + 16 * d) 13 = nI 1 ∧ T.1 (123 + 16 * d) 14 = nI 0 ∧ T.1 (123 + 16 * d) 15 = nI 0 ∧ (∀ j, j < 7 ∨ j = 12 → T.1 (123 + 16 * d) j = S.1 (123 + 16 * d) j) ∧ xs_eq [123 + 16 * d, 124 + 16 * d, 127 + 16 * d, 128 + 16 * d, 129 + 16 * d, 132 + 16 * d, 134 + 16 * d] S T := by
  obtain ⟨kS, rt, kin⟩ := (by decide +kernel : ∀ d, d < 3 → xs_kd (124 + 16 * d) = 5 ∧ xs_rt (123 + 16 * d) + 1 = 48 + 24 * d ∧ 48 + 24 * d ∈ [48, 72, 96]) d hd
  unfold xf_K_openSession
  rw [Option.bind_some, Option.bind_some, Option.bind_some, Option.bind_some, rt, show 123 + 16 * d + 1 = 124 + 16 * d by omega]
  generalize hS3 : xs_sI (xs_sI (xs_sI S (123 + 16 * d) 9 (nI nonce)) (123 + 16 * d) 8 (nI serial)) (123 + 16 * d) 7 (xs_gI (xs_sI (xs_sI S (123 + 16 * d) 9 (nI nonce)) (123 + 16 * d) 8 (nI serial)) (123 + 16 * d) 7 + 1) = S3
  have g7 : xs_gI (xs_sI (xs_sI S (123 + 16 * d) 9 (nI nonce)) (123 + 16 * d) 8 (nI serial)) (123 + 16 * d) 7 = nI ss := by
    show (xs_sI (xs_sI S (123 + 16 * d) 9 (nI nonce)) (123 + 16 * d) 8 (nI serial)).1 (123 + 16 * d) 7 = _
    rw [x_fN (by decide), x_fN (by decide)]
    exact h7
  rw [g7, nI_1] at hS3
  have q3 : xs_eq [123 + 16 * d] S S3 := by
    rw [← hS3]
    exact e_tr (e_sI (by simp)) (e_tr (e_sI (by simp)) (e_sI (by simp)))
  have f7 : S3.1 (123 + 16 * d) 7 = nI (ss + 1) := by rw [← hS3, x_fI]
  have f8 : S3.1 (123 + 16 * d) 8 = nI serial := by rw [← hS3, x_fN (by decide), x_fI]
  have f9 : S3.1 (123 + 16 * d) 9 = nI nonce := by rw [← hS3, x_fN (by decide), x_fN (by decide), x_fI]
  have fj : ∀ j, j < 7 ∨ 10 ≤ j → S3.1 (123 + 16 * d) j = S.1 (123 + 16 * d) j := fun j hj => by rw [← hS3, x_fN (by omega), x_fN (by omega), x_fN (by omega)]
  rw [show xs_gI S3 (123 + 16 * d) 8 = nI serial from f8, show xs_gI S3 (123 + 16 * d) 7 = nI (ss + 1) from f7, show xs_gI S3 (123 + 16 * d) 0 = nI d from (fj 0 (by omega)).trans h0, pk_andN (by omega) 8 (by decide), y_adC d hd _ (Nat.mod_lt _ (by decide))]
  obtain ⟨T, e4, s4, q4⟩ := x_open (k := 124 + 16 * d) (a := 48 + 24 * d) (serial := serial) (addr := yP (d + 1) ((ss + 1) % 256) 0 38) (nonce := nonce) (S := S3) kS kin (by
    rw [show 48 + 24 * d + 1 = 49 + 24 * d by omega]
    exact e_rk q3 (by simp <;> omega) hW) h2 h3 (y_ad_lt d hd _ (Nat.mod_lt _ (by decide)))
  rw [show xf_S_open (124 + 16 * d) (48 + 24 * d) (nI serial) (nI (yP (d + 1) ((ss + 1) % 2 ^ 8) 0 38)) (nI nonce) S3 = _ from e4, Option.bind_some, Option.bind_some, Option.bind_some]
  unfold xf_K_setDue
  rw [Option.bind_some, z_s0, Option.bind_some, z_s0, Option.bind_some, Option.bind_some]
  rw [show 124 + 16 * d + 3 = 127 + 16 * d by omega, show 124 + 16 * d + 4 = 128 + 16 * d by omega, show 124 + 16 * d + 5 = 129 + 16 * d by omega, show 124 + 16 * d + 8 = 132 + 16 * d by omega, show 124 + 16 * d + 10 = 134 + 16 * d by omega] at q4
  have p4 : T.1 (123 + 16 * d) = S3.1 (123 + 16 * d) := q4.1 _ (by simp <;> omega)
  generalize hU : xs_sI (xs_sI (xs_sI (xs_sI (xs_sI T (123 + 16 * d) 10 (-1)) (123 + 16 * d) 11 0) (123 + 16 * d) 13 1) (123 + 16 * d) 14 0) (123 + 16 * d) 15 0 = U
  have qU : xs_eq [123 + 16 * d] T U := by
    rw [← hU]
    exact e_tr (e_sI (by simp)) (e_tr (e_sI (by simp)) (e_tr (e_sI (by simp)) (e_tr (e_sI (by simp)) (e_sI (by simp)))))
  have uj : ∀ j, j ≠ 10 → j ≠ 11 → j ≠ 13 → j ≠ 14 → j ≠ 15 → U.1 (123 + 16 * d) j = S3.1 (123 + 16 * d) j := fun j h1 h2 h3 h4 h5 => by rw [← hU, x_fN h5, x_fN h4, x_fN h3, x_fN h2, x_fN h1, p4]
  refine ⟨U, rfl, e_ses qU (by simp <;> omega) (by simp <;> omega) (by simp <;> omega) (by simp <;> omega) (by simp <;> omega) s4, by rw [uj 7 (by decide) (by decide) (by decide) (by decide) (by decide), f7], by rw [uj 8 (by decide) (by decide) (by decide) (by decide) (by decide), f8], by rw [uj 9 (by decide) (by decide) (by decide) (by decide) (by decide), f9], by rw [← hU, x_fN (by decide), x_fN (by decide), x_fN (by decide), x_fN (by decide), x_fI], by rw [← hU, x_fN (by decide), x_fN (by decide), x_fN (by decide), x_fI]; rfl, by rw [← hU, x_fN (by decide), x_fN (by decide), x_fI]; rfl, by rw [← hU, x_fN (by decide), x_fI]; rfl, by rw [← hU, x_fI]; rfl, fun j hj => by rw [uj j (by omega) (by omega) (by omega) (by omega) (by omega), fj j (by omega)], e_tr (e_mono q3 (by simp)) (e_tr (e_mono q4 (by simp)) (e_mono qU (by simp)))⟩
