/-! a frame leaves the air -/
def xs_pU (S : xs_T) (k : Nat) (f : Nat → Nat) : xs_T := (S.1, S.2.1, va_up S.2.2 k f)
theorem pU_at {S : xs_T} {k : Nat} {f : Nat → Nat} : (xs_pU S k f).2.2 k = f := xs_up_eq
theorem pU_sU {S : xs_T} {k j u : Nat} {f : Nat → Nat} : xs_sU (xs_pU S k f) k j u = xs_pU S k (va_up f j u) := by
  unfold xs_sU xs_pU
  show (S.1, S.2.1, va_up (va_up S.2.2 k f) k (va_up (va_up S.2.2 k f k) j u)) = _
  rw [bx_uu, xs_up_eq]
theorem pU_self {S : xs_T} {k : Nat} : xs_pU S k (S.2.2 k) = S := by
  unfold xs_pU
  rw [show va_up S.2.2 k (S.2.2 k) = S.2.2 from funext fun j => by unfold va_up; split <;> simp_all]
def yOut (u : Nat → Nat) (j m : Nat) : Nat → Nat := fun t => if t < j then u t else if t < m then u (t + 1) else if t = m then u j else u t
theorem x_takeOut {N j m : Nat} {S R : xs_T} (h : relA N S R) (a1 : S.1 1 2 = nI (m + 1)) (hm : m + 1 ≤ 12) (hj : j ≤ m) : xf_A_takeOut 1 (nI j) S = some (S.2.2 2 j, xs_pU (xs_sI S 1 2 (nI m)) 2 (yOut (S.2.2 2) j m)) := by
  unfold xf_A_takeOut
  rw [x_rdU (k := 1 + 1) (show j < 12 by omega) (q_uF h (by omega)), Option.bind_some, Option.bind_some, show xs_gI S 1 2 = nI (m + 1) from a1, show nI (m + 1) - 1 = nI m from nI_pred m]
  have g2 : ∀ f : Nat → Nat, xs_gI (xs_pU (xs_sI S 1 2 (nI m)) 2 f) 1 2 = nI m := fun f => show (xs_sI S 1 2 (nI m)).1 1 2 = nI m from x_fI
  obtain ⟨T, hT, e⟩ := xl_for (fun f i (T : xs_T) => xf_A_takeOut_19 1 (nI j) f (S.2.2 2 j) (nI (j + i)) T) (fun i T => T = xs_pU (xs_sI S 1 2 (nI m)) 2 (fun t => if j ≤ t ∧ t < j + i then S.2.2 2 (t + 1) else S.2.2 2 t)) (m - j)
    (fun f i T hi hT => by
      subst hT
      refine ⟨_, rfl, ?_⟩
      show xf_A_takeOut_19 1 (nI j) (f + 1) (S.2.2 2 j) (nI (j + i)) _ = xf_A_takeOut_19 1 (nI j) f (S.2.2 2 j) (nI (j + (i + 1))) _
      rw [xf_A_takeOut_19, g2, if_neg (nI_ge (by omega) (by omega)), nI_1]
      have ev : (xs_pU (xs_sI S 1 2 (nI m)) 2 (fun t => if j ≤ t ∧ t < j + i then S.2.2 2 (t + 1) else S.2.2 2 t)).2.2 (1 + 1) (j + i + 1) = S.2.2 2 (j + i + 1) := by
        show (xs_pU (xs_sI S 1 2 (nI m)) 2 _).2.2 2 (j + i + 1) = _
        rw [pU_at]
        exact if_neg (by omega)
      rw [x_rdU (k := 1 + 1) (show j + i + 1 < 12 by omega) (by rw [ev]; exact q_uF h (by omega)), Option.bind_some, ev, x_wrU (k := 1 + 1) (show j + i < 12 by omega), Option.bind_some]
      show xf_A_takeOut_19 1 (nI j) f (S.2.2 2 j) (nI (j + i + 1)) (xs_sU (xs_pU _ 2 _) 2 (j + i) _) = _
      rw [pU_sU]
      refine congrArg (fun g => xf_A_takeOut_19 1 (nI j) f (S.2.2 2 j) (nI (j + i + 1)) (xs_pU (xs_sI S 1 2 (nI m)) 2 g)) (funext fun t => ?_)
      unfold va_up
      dsimp only
      by_cases h1 : t = j + i
      · subst h1
        rw [if_pos rfl, if_pos (by omega)]
      · rw [if_neg h1]
        by_cases h2 : j ≤ t ∧ t < j + i
        · rw [if_pos h2, if_pos (by omega)]
        · rw [if_neg h2, if_neg (by omega)]) (m - j) 0 xs_fuel (xs_sI S 1 2 (nI m)) (Nat.zero_add _) (by unfold xs_fuel; omega) (by
      rw [show (fun t => if j ≤ t ∧ t < j + 0 then S.2.2 2 (t + 1) else S.2.2 2 t) = (xs_sI S 1 2 (nI m)).2.2 2 from funext fun t => if_neg (by omega), pU_self])
  subst hT
  refine Eq.trans e ?_
  show xf_A_takeOut_19 1 (nI j) (xs_fuel - (m - j)) (S.2.2 2 j) (nI (j + (m - j))) _ = _
  rw [show xs_fuel - (m - j) = (999 - (m - j)) + 1 by unfold xs_fuel; omega, xf_A_takeOut_19, g2, if_pos (nI_le (by omega) (by omega)), x_wrU (k := 1 + 1) (show m < 12 by omega), Option.bind_some]
  show some (_, xs_sU (xs_pU _ 2 _) 2 m _) = _
  rw [pU_sU]
  refine congrArg (fun g => some (S.2.2 2 j, xs_pU (xs_sI S 1 2 (nI m)) 2 g)) (funext fun t => ?_)
  unfold va_up yOut
  dsimp only
  by_cases h1 : t = m
  · subst h1
    rw [if_pos rfl, if_neg (by omega), if_neg (by omega), if_pos rfl]
  · rw [if_neg h1]
    by_cases h2 : j ≤ t ∧ t < j + (m - j)
    · rw [if_pos h2, if_neg (by omega), if_pos (by omega)]
    · rw [if_neg h2]
      by_cases h3 : t < j
      · rw [if_pos h3]
      · rw [if_neg h3, if_neg (by omega), if_neg h1]
/-- frame s of R is frame t of T -/
def mvF (R T : xs_T) (s t : Nat) : Prop := ∀ n b, xs_rf R s n b → xs_rf T t n b ∧ T.1 211 t = R.1 211 s
theorem r_leave {j m : Nat} {R : xs_T} (a2 : R.1 200 12 = nI (m + 1)) (hm : m + 1 ≤ 12) (hj : j ≤ m) (hf : ∀ t, t < m + 1 → ∃ n b, xs_rf R t n b) :
    ∃ T, xf_R_leave 200 (nI j) R = some T ∧ (∀ t, t < j → agF t R T) ∧ (∀ t, j ≤ t → t < m → mvF R T (t + 1) t) ∧ (∀ t, 12 ≤ t → agF t R T) ∧ T.1 200 12 = nI m ∧ arA R T ∧ T.1 200 13 = R.1 200 13 := by
  unfold xf_R_leave
  rw [Option.bind_some, show xs_gI R 200 12 = nI (m + 1) from a2, show nI (m + 1) - 1 = nI m from nI_pred m]
  obtain ⟨T, ⟨h1, h2, h3, h4, h5⟩, e⟩ := xl_for (fun f i (T : xs_T) => xf_R_leave_12 200 (nI j) f (nI (j + i)) T) (fun i T => (∀ t, t < j ∨ j + i ≤ t → agF t R T) ∧ (∀ t, j ≤ t → t < j + i → mvF R T (t + 1) t) ∧ T.1 200 12 = nI m ∧ arA R T ∧ T.1 200 13 = R.1 200 13) (m - j)
    (fun f i T hi hT => by
      obtain ⟨h1, h2, h3, h4, h5⟩ := hT
      have hs := h1 (j + i + 1) (by omega)
      obtain ⟨n0, b0, r0⟩ := hf (j + i + 1) (by omega)
      obtain ⟨U, e1, f1, g1, q1⟩ := r_copyF (f := j + i + 1) (g := j + i) (by omega) (by omega) (by omega) (agF_rf hs r0)
      refine ⟨U, ⟨fun t ht => agF_tr (h1 t (by omega)) (eg_agF q1 (by omega)), fun t ht1 ht2 n b r => ?_, by rw [q1.1.1 200 (by decide)]; exact h3, arA_tr h4 (eg_arA q1 (by omega)), by rw [q1.1.1 200 (by decide)]; exact h5⟩, ?_⟩
      · by_cases htj : t = j + i
        · subst htj
          obtain ⟨U', e1', f1', g1', -⟩ := r_copyF (f := j + i + 1) (g := j + i) (by omega) (by omega) (by omega) (agF_rf hs r)
          cases Option.some.inj (e1.symm.trans e1')
          exact ⟨f1', by rw [g1', hs.2.2]⟩
        · obtain ⟨r1, r2⟩ := h2 t ht1 (by omega) n b r
          have ag := eg_agF q1 htj
          exact ⟨agF_rf ag r1, by rw [ag.2.2]; exact r2⟩
      · show xf_R_leave_12 200 (nI j) (f + 1) (nI (j + i)) T = _
        rw [xf_R_leave_12, show xs_gI T 200 12 = nI m from h3, if_neg (nI_ge (by omega) (by omega)), nI_1, e1, Option.bind_some]
        rfl) (m - j) 0 xs_fuel (xs_sI R 200 12 (nI m)) (Nat.zero_add _) (by unfold xs_fuel; omega) ⟨fun t _ => agF_sI, fun t h1 h2 => absurd h2 (by omega), x_fI, sI_arA (Or.inl rfl), x_fN (by decide)⟩
  refine ⟨T, Eq.trans e ?_, fun t ht => h1 t (by omega), fun t ht1 ht2 => h2 t ht1 (by omega), fun t ht => h1 t (by omega), h3, h4, h5⟩
  show xf_R_leave_12 200 (nI j) (xs_fuel - (m - j)) (nI (j + (m - j))) T = _
  rw [show xs_fuel - (m - j) = (999 - (m - j)) + 1 by unfold xs_fuel; omega, xf_R_leave_12, show xs_gI T 200 12 = nI m from h3, if_pos (nI_le (by omega) (by omega))]
theorem sim_out {N j m : Nat} {S R : xs_T} (h : relA N S R) (a1 : S.1 1 2 = nI m) (hj : j < m) (hm : m ≤ 12) :
    ∃ T U, xf_A_takeOut 1 (nI j) S = some (S.2.2 2 j, T) ∧ xf_R_leave 200 (nI j) R = some U ∧ relA N T U ∧ acA S T ∧ arA R U ∧ (∀ q, q ≠ 1 → T.1 q = S.1 q) ∧ T.2.1 = S.2.1 ∧ (∀ q, q ≠ 2 → T.2.2 q = S.2.2 q) ∧ ∀ t, 12 ≤ t → agF t R U := by
  obtain ⟨m, rfl⟩ : ∃ k, m = k + 1 := ⟨m - 1, by omega⟩
  have e1 := x_takeOut (j := j) h a1 hm (by omega)
  obtain ⟨⟨m', b1, b2, b3, b4⟩, ⟨sn, c1, c2, c3, c4⟩, hu, hi, hr⟩ := h
  have hmm : m' = m + 1 := (nI_eq (by omega) (by omega)).mp (b1.symm.trans a1)
  subst hmm
  obtain ⟨U, e2, h1, h2, h3, h4, h5, h6⟩ := r_leave b2 hm (show j ≤ m by omega) (fun t ht => by
    obtain ⟨n, b, t', d1, d2, d3, d4, d5, d6⟩ := b4 t ht
    exact ⟨n, b, d5⟩)
  have gT : ∀ q, q ≠ 1 → (xs_pU (xs_sI S 1 2 (nI m)) 2 (yOut (S.2.2 2) j m)).1 q = S.1 q := fun q hq => x_fP hq
  have agS : ∀ p : Nat → Prop, (∀ q, p q → q ≠ 1 ∧ q ≠ 2) → xs_ag p S (xs_pU (xs_sI S 1 2 (nI m)) 2 (yOut (S.2.2 2) j m)) := fun p hp q hq => ⟨gT q (hp q hq).1, rfl, xs_up_ne (f := S.2.2) (hp q hq).2⟩
  have eo : (xs_pU (xs_sI S 1 2 (nI m)) 2 (yOut (S.2.2 2) j m)).2.2 2 = yOut (S.2.2 2) j m := pU_at
  -- where yOut takes from
  have src : ∀ t, t < 12 → ∃ s, s < 12 ∧ yOut (S.2.2 2) j m t = S.2.2 2 s ∧ (s = if t < j then t else if t < m then t + 1 else if t = m then j else t) := fun t ht => by
    unfold yOut
    by_cases h1 : t < j
    · exact ⟨t, ht, if_pos h1, (if_pos h1).symm⟩
    · rw [if_neg h1, if_neg h1]
      by_cases h2 : t < m
      · exact ⟨t + 1, by omega, if_pos h2, (if_pos h2).symm⟩
      · rw [if_neg h2, if_neg h2]
        by_cases h3 : t = m
        · exact ⟨j, by omega, if_pos h3, (if_pos h3).symm⟩
        · exact ⟨t, ht, if_neg h3, (if_neg h3).symm⟩
  refine ⟨_, U, e1, e2, ⟨⟨m, show (xs_sI S 1 2 (nI m)).1 1 2 = nI m from x_fI, h4, by omega, fun t ht => ?_⟩, ⟨sn, ?_, by rw [h6]; exact c2, c3, fun t ht hn => ?_⟩, fun t ht => ?_, fun t s ht hs hts => ?_, fun t ht => ?_⟩, agS _ (fun q hq => by omega), h5, gT, rfl, fun q hq => xs_up_ne (f := S.2.2) hq, h3⟩
  · rw [eo]
    by_cases h : t < j
    · rw [show yOut (S.2.2 2) j m t = S.2.2 2 t by unfold yOut; rw [if_pos h]]
      obtain ⟨tt, htt, et⟩ := hu t (by omega)
      exact relF_fr (b4 t (by omega)) (agS (fun q => q ≠ 1 ∧ q ≠ 2) fun q hq => hq) (by rw [et]; omega) (by rw [et]; omega) (h1 t h)
    · rw [show yOut (S.2.2 2) j m t = S.2.2 2 (t + 1) by unfold yOut; rw [if_neg h, if_pos ht]]
      obtain ⟨tt, htt, et⟩ := hu (t + 1) (by omega)
      obtain ⟨n, b, t', d1, d2, d3, d4, d5, d6⟩ := b4 (t + 1) (by omega)
      obtain ⟨r1, r2⟩ := h2 t (by omega) ht n b d5
      exact ⟨n, b, t', ag_cf (agS (fun q => q ≠ 1 ∧ q ≠ 2) fun q hq => hq) (by rw [et]; omega) (by rw [et]; omega) d1, d2, by rw [gT _ (by rw [et]; omega)]; exact d3, d4, r1, by rw [r2]; exact d6⟩
  · show (xs_sI S 1 2 (nI m)).1 1 3 = _
    rw [x_fN (by decide)]
    exact c1
  · exact relF_fr (c4 t ht hn) (agS (fun q => q ≠ 1 ∧ q ≠ 2) fun q hq => hq) (by omega) (by omega) (h3 _ (by omega))
  · rw [eo]
    obtain ⟨s, hs, es, -⟩ := src t ht
    rw [es]
    exact hu s hs
  · rw [eo] at hts
    obtain ⟨s1, g1, f1, q1⟩ := src t ht
    obtain ⟨s2, g2, f2, q2⟩ := src s hs
    have := hi s1 s2 g1 g2 (by rw [← f1, ← f2]; exact hts)
    subst this
    split at q1 <;> split at q2 <;> first | omega | (split at q1 <;> split at q2 <;> first | omega | (split at q1 <;> split at q2 <;> omega) | (split at q1 <;> omega) | (split at q2 <;> omega)) | (split at q1 <;> first | omega | (split at q1 <;> omega)) | (split at q2 <;> first | omega | (split at q2 <;> omega))
  · rw [show (xs_pU (xs_sI S 1 2 (nI m)) 2 (yOut (S.2.2 2) j m)).2.2 3 = S.2.2 3 from xs_up_ne (f := S.2.2) (k := 2) (j := 3) (x := yOut (S.2.2 2) j m) (by decide)]
    exact hr t ht
theorem sim_lose {K : Nat → Nat → Nat} {N tm : Nat} {S R : xs_T} (h : Rel K N tm S R) (x : Int32) : Sim K N tm S R (xf_W_lose 0 x S) (xf_R_lose 200 x R) := by
  have hA := h.2.2.1
  obtain ⟨⟨m, a1, a2, a3, a4⟩, -⟩ := hA
  have eh := q_holds (k := 0 + 1) x a1
  rcases q_below x (n := m) (by omega) with e | ⟨j, hj, rfl, e⟩
  · exact sim_no (v := 0) h (by unfold xf_W_lose; rw [eh, e.1, Option.bind_some, if_pos rfl]; rfl) (by unfold xf_R_lose; rw [show xs_gI R 200 12 = nI m from a2, e.1, Option.bind_some, if_pos rfl]; rfl)
  obtain ⟨T, U, e1, e2, h1, h2, h3, h4, h5, h6, h7⟩ := sim_out h.2.2.1 a1 hj a3
  refine ⟨1, T, U, tm, ?_, ?_, relAr h (Nat.le_succ N) h2 h3 (relA_fr h1 (Nat.le_succ N) ag_rf ⟨rfl, rfl, fun _ _ => agF_refl⟩), ag_mono h2 fun q hq => by omega, ag_eq h3.1 fun q hq => by simp; omega⟩
  · unfold xf_W_lose xs_ckU
    rw [eh, e, Option.bind_some, if_neg i10, show xf_A_takeOut (0 + 1) (nI j) S = _ from e1, Option.bind_some, if_pos (q_uF h.2.2.1 (show j < 12 by omega)), Option.bind_some]
    rfl
  · unfold xf_R_lose
    rw [show xs_gI R 200 12 = nI m from a2, e, Option.bind_some, if_neg i10, e2, Option.bind_some]
    rfl
