/-! the first of a queue is taken away, both ways -/
theorem x_deq {S : xs_T} {k q : Nat} (hl : xs_ln (k + 14) = 4 ∧ xs_ln (k + 15) = 4) (h6 : S.1 k 6 = nI q) (hq : q ≤ 4) :
    ∃ T, xf_K_dequeue k S = some T ∧ T.1 k 6 = nI (q - 1) ∧ (∀ j, j < q - 1 → T.2.1 (k + 14) j = S.2.1 (k + 14) (j + 1) ∧ T.1 (k + 15) j = S.1 (k + 15) (j + 1)) ∧ (∀ j, j ≠ 6 → T.1 k j = S.1 k j) ∧ (∀ p, p ≠ k → p ≠ k + 15 → T.1 p = S.1 p) ∧ (∀ p, p ≠ k + 14 → T.2.1 p = S.2.1 p) ∧ T.2.2 = S.2.2 := by
  unfold xf_K_dequeue
  rw [show xs_gI S k 6 = nI q from h6]
  by_cases h0 : q = 0
  · subst h0
    rw [if_pos (show nI 0 = 0 from rfl)]
    exact ⟨S, rfl, h6, fun j hj => by omega, fun _ _ => rfl, fun _ _ _ => rfl, fun _ _ => rfl, rfl⟩
  rw [if_neg (show ¬ nI q = 0 from nI_ne0 (by omega) (by omega)), Option.bind_some, show nI q - 1 = nI (q - 1) from pk_sub (b := 1) (by omega)]
  obtain ⟨T, ⟨i1, i2, i3, i4, i5⟩, e⟩ := xl_for (fun f i (T : xs_T) => xf_K_dequeue_20 k f (nI i) T) (fun i T => (∀ j, j < i → T.2.1 (k + 14) j = S.2.1 (k + 14) (j + 1) ∧ T.1 (k + 15) j = S.1 (k + 15) (j + 1)) ∧ (∀ j, i ≤ j → T.2.1 (k + 14) j = S.2.1 (k + 14) j ∧ T.1 (k + 15) j = S.1 (k + 15) j) ∧ (∀ p, p ≠ k + 15 → T.1 p = (xs_sI S k 6 (nI (q - 1))).1 p) ∧ (∀ p, p ≠ k + 14 → T.2.1 p = S.2.1 p) ∧ T.2.2 = S.2.2) (q - 1)
    (fun f i T hi hT => by
      obtain ⟨i1, i2, i3, i4, i5⟩ := hT
      have g6 : xs_gI T k 6 = nI (q - 1) := by
        show T.1 k 6 = _
        rw [i3 k (by omega), x_fI]
      refine ⟨xs_sI (xs_sL T (k + 14) i (T.2.1 (k + 14) (i + 1))) (k + 15) i (T.1 (k + 15) (i + 1)), ⟨fun j hj => ?_, fun j hj => ?_, fun p hp => ?_, fun p hp => ?_, i5⟩, ?_⟩
      · show (xs_sL T (k + 14) i (T.2.1 (k + 14) (i + 1))).2.1 (k + 14) j = _ ∧ _
        by_cases hji : j = i
        · subst hji
          rw [x_lF, x_fI]
          exact i2 (j + 1) (by omega)
        · rw [x_lN hji, x_fN hji]
          exact i1 j (by omega)
      · show (xs_sL T (k + 14) i (T.2.1 (k + 14) (i + 1))).2.1 (k + 14) j = _ ∧ _
        rw [x_lN (by omega), x_fN (by omega)]
        exact i2 j (by omega)
      · rw [x_fP hp]
        exact i3 p hp
      · show (xs_sL T (k + 14) i (T.2.1 (k + 14) (i + 1))).2.1 p = _
        rw [show (xs_sL T (k + 14) i (T.2.1 (k + 14) (i + 1))).2.1 p = T.2.1 p from xs_up_ne hp]
        exact i4 p hp
      · show xf_K_dequeue_20 k (f + 1) (nI i) T = _
        rw [xf_K_dequeue_20, g6, if_neg (nI_ge (by omega) (by omega)), nI_1, x_rdL (by omega), Option.bind_some, x_wrL (by omega), Option.bind_some, x_rd (by omega), Option.bind_some, x_wr (by omega), Option.bind_some]
        rfl) (q - 1) 0 xs_fuel (xs_sI S k 6 (nI (q - 1))) (Nat.zero_add _) (by unfold xs_fuel; omega) ⟨fun j hj => by omega, fun j _ => ⟨rfl, by rw [x_fP (by omega)]⟩, fun _ _ => rfl, fun _ _ => rfl, rfl⟩
  have g6 : xs_gI T k 6 = nI (q - 1) := by
    show T.1 k 6 = _
    rw [i3 k (by omega), x_fI]
  refine ⟨T, ?_, g6, i1, fun j hj => by rw [i3 k (by omega), x_fN hj], fun p h1 h2 => by rw [i3 p h2, x_fP h1], i4, i5⟩
  refine Eq.trans e ?_
  show xf_K_dequeue_20 k (xs_fuel - (q - 1)) (nI (q - 1)) T = _
  rw [show xs_fuel - (q - 1) = (999 - (q - 1)) + 1 by unfold xs_fuel; omega, xf_K_dequeue_20, g6, if_pos (nI_le (Nat.le_refl _) (by omega))]
theorem r_deq {R : xs_T} {d q : Nat} (hd : d < 3) (h33 : R.1 233 d = nI (q - 1)) (hq1 : 1 ≤ q) (hq : q ≤ 4) :
    ∃ T, xf_R_sendAnswer_218 200 (nI d) xs_fuel (nI (4 * d)) R = some T ∧ (∀ j, j < q - 1 → T.2.1 231 (4 * d + j) = R.2.1 231 (4 * d + j + 1) ∧ T.1 232 (4 * d + j) = R.1 232 (4 * d + j + 1)) ∧ (∀ j, j < 4 * d ∨ 4 * d + 4 ≤ j → T.2.1 231 j = R.2.1 231 j ∧ T.1 232 j = R.1 232 j) ∧ (∀ p, p ≠ 232 → T.1 p = R.1 p) ∧ (∀ p, p ≠ 231 → T.2.1 p = R.2.1 p) ∧ T.2.2 = R.2.2 := by
  obtain ⟨T, ⟨i1, i2, i3, i4, i5⟩, e⟩ := xl_for (fun f i (T : xs_T) => xf_R_sendAnswer_218 200 (nI d) f (nI (4 * d + i)) T) (fun i T => (∀ j, j < i → T.2.1 231 (4 * d + j) = R.2.1 231 (4 * d + j + 1) ∧ T.1 232 (4 * d + j) = R.1 232 (4 * d + j + 1)) ∧ (∀ j, j < 4 * d ∨ 4 * d + i ≤ j → T.2.1 231 j = R.2.1 231 j ∧ T.1 232 j = R.1 232 j) ∧ (∀ p, p ≠ 232 → T.1 p = R.1 p) ∧ (∀ p, p ≠ 231 → T.2.1 p = R.2.1 p) ∧ T.2.2 = R.2.2) (q - 1)
    (fun f i T hi hT => by
      obtain ⟨i1, i2, i3, i4, i5⟩ := hT
      have g33 : T.1 (200 + 33) d = nI (q - 1) := by
        rw [i3 (200 + 33) (by decide)]
        exact h33
      refine ⟨xs_sI (xs_sL T 231 (4 * d + i) (T.2.1 231 (4 * d + i + 1))) 232 (4 * d + i) (T.1 232 (4 * d + i + 1)), ⟨fun j hj => ?_, fun j hj => ?_, fun p hp => ?_, fun p hp => ?_, i5⟩, ?_⟩
      · show (xs_sL T 231 (4 * d + i) (T.2.1 231 (4 * d + i + 1))).2.1 231 (4 * d + j) = _ ∧ _
        by_cases hji : j = i
        · subst hji
          rw [x_lF, x_fI]
          exact i2 (4 * d + j + 1) (by omega)
        · rw [x_lN (by omega), x_fN (by omega)]
          exact i1 j (by omega)
      · show (xs_sL T 231 (4 * d + i) (T.2.1 231 (4 * d + i + 1))).2.1 231 j = _ ∧ _
        rw [x_lN (by omega), x_fN (by omega)]
        exact i2 j (by omega)
      · rw [x_fP hp]
        exact i3 p hp
      · show (xs_sL T 231 (4 * d + i) (T.2.1 231 (4 * d + i + 1))).2.1 p = _
        rw [show (xs_sL T 231 (4 * d + i) (T.2.1 231 (4 * d + i + 1))).2.1 p = T.2.1 p from xs_up_ne hp]
        exact i4 p hp
      · show xf_R_sendAnswer_218 200 (nI d) (f + 1) (nI (4 * d + i)) T = _
        rw [xf_R_sendAnswer_218, x_rd (k := 200 + 33) (show d < 3 from hd), Option.bind_some, g33, show (4 : Int32) * nI d = nI (4 * d) from pk_mul 4 d, nI_add, if_neg (nI_ge (by omega) (by omega)), nI_1, x_rdL (k := 200 + 31) (show 4 * d + i + 1 < 12 by omega), Option.bind_some, x_wrL (k := 200 + 31) (show 4 * d + i < 12 by omega), Option.bind_some, x_rd (k := 200 + 32) (show 4 * d + i + 1 < 12 by omega), Option.bind_some, x_wr (k := 200 + 32) (show 4 * d + i < 12 by omega), Option.bind_some]
        rfl) (q - 1) 0 xs_fuel R (Nat.zero_add _) (by unfold xs_fuel; omega) ⟨fun j hj => by omega, fun j _ => ⟨rfl, rfl⟩, fun _ _ => rfl, fun _ _ => rfl, rfl⟩
  refine ⟨T, ?_, i1, fun j hj => i2 j (by omega), i3, i4, i5⟩
  refine Eq.trans e ?_
  show xf_R_sendAnswer_218 200 (nI d) (xs_fuel - (q - 1)) (nI (4 * d + (q - 1))) T = _
  rw [show xs_fuel - (q - 1) = (999 - (q - 1)) + 1 by unfold xs_fuel; omega, xf_R_sendAnswer_218, x_rd (k := 200 + 33) (show d < 3 from hd), Option.bind_some, show T.1 (200 + 33) d = nI (q - 1) by
    rw [i3 (200 + 33) (by decide)]
    exact h33, show (4 : Int32) * nI d = nI (4 * d) from pk_mul 4 d, nI_add, if_pos (nI_le (Nat.le_refl _) (by omega))]
