/-! spoil, lose, replay -/
theorem sim_spoil {K : Nat → Nat → Nat} {N tm : Nat} {S R : xs_T} (h : Rel K N tm S R) (x y z : Int32) : Sim K N tm S R (xf_W_spoil 0 x y z S) (xf_R_spoil 200 x y z R) := by
  have hA := h.2.2.1
  obtain ⟨⟨m, a1, a2, a3, a4⟩, ⟨sn, b1, b2, b3, b4⟩, hu, hi, hr⟩ := hA
  have eh := q_holds (k := 0 + 1) x a1
  rcases q_below x (n := m) (by omega) with e | ⟨j, hj, rfl, e⟩
  · exact sim_no (v := 0) h (by unfold xf_W_spoil; rw [eh, e.1, Option.bind_some, if_pos rfl]; rfl) (by unfold xf_R_spoil; rw [show xs_gI R 200 12 = nI m from a2, e.1, Option.bind_some, if_pos rfl]; rfl)
  obtain ⟨n, b, t, c1, c2, c3, c4, c5, c6⟩ := a4 j hj
  have h24 := c1.2.1
  have eu := q_rdF h.2.2.1 (show j < 12 by omega)
  have efh := q_fholds y c1.1
  have er : xs_rd R (200 + 10) (nI j) = some (nI n) := by
    rw [x_rd (k := 200 + 10) (show j < 24 by omega)]
    exact congrArg some c5.1
  have hc : xf_W_spoil 0 (nI j) y z S = (xf_R_below y (nI n)).bind fun q4 => if q4 = 0 then xs_rz 0 S else if z < 1 then xs_rz 0 S else if z ≤ 255 then (xs_rd S (S.2.2 2 j + 1) y).bind fun v9 => (xs_wr S (S.2.2 2 j + 1) y (v9 ^^^ z)).bind fun S10 => xs_rz 1 S10 else xs_rz 0 S := by
    unfold xf_W_spoil
    rw [eh, e, Option.bind_some, if_neg i10, eu, Option.bind_some, efh]
    rfl
  have hcr : xf_R_spoil 200 (nI j) y z R = (xf_R_below y (nI n)).bind fun q4 => if q4 = 0 then xs_rz 0 R else if z < 1 then xs_rz 0 R else if z ≤ 255 then (xs_rd R (200 + 9) (32 * nI j + y)).bind fun v8 => (xs_wr R (200 + 9) (32 * nI j + y) (v8 ^^^ z)).bind fun S9 => xs_rz 1 S9 else xs_rz 0 R := by
    unfold xf_R_spoil
    rw [show xs_gI R 200 12 = nI m from a2, e, Option.bind_some, if_neg i10, er, Option.bind_some]
  rw [hc, hcr]
  rcases q_below y (n := n) (by omega) with e2 | ⟨i, hin, rfl, e2⟩
  · exact sim_no (v := 0) h (by rw [e2.1, Option.bind_some, if_pos rfl]; rfl) (by rw [e2.1, Option.bind_some, if_pos rfl]; rfl)
  by_cases hz1 : z < 1
  · exact sim_no (v := 0) h (by rw [e2, Option.bind_some, if_neg i10, if_pos hz1]; rfl) (by rw [e2, Option.bind_some, if_neg i10, if_pos hz1]; rfl)
  by_cases hz2 : z ≤ 255
  rotate_left
  · exact sim_no (v := 0) h (by rw [e2, Option.bind_some, if_neg i10, if_neg hz1, if_neg hz2]; rfl) (by rw [e2, Option.bind_some, if_neg i10, if_neg hz1, if_neg hz2]; rfl)
  obtain ⟨c, hc1, hc2, rfl⟩ := n_cs z 1 255 (by decide) (by decide) hz1 hz2
  obtain ⟨tj, htj, ej⟩ := hu j (by omega)
  have l := x_kF (q_uF h.2.2.1 (show j < 12 by omega))
  have ec : ((xf_R_below (nI i) (nI n)).bind fun q4 => if q4 = 0 then xs_rz 0 S else if nI c < 1 then xs_rz 0 S else if nI c ≤ 255 then (xs_rd S (S.2.2 2 j + 1) (nI i)).bind fun v9 => (xs_wr S (S.2.2 2 j + 1) (nI i) (v9 ^^^ nI c)).bind fun S10 => xs_rz 1 S10 else xs_rz 0 S) = some (1, xs_sI S (S.2.2 2 j + 1) i (nI (b i ^^^ c))) := by
    rw [e2, Option.bind_some, if_neg i10, if_neg hz1, if_pos hz2, x_rd (by omega), Option.bind_some, b_at c1.2.2 hin, n_xor, x_wr (by omega), Option.bind_some]
    rfl
  have ecr : ((xf_R_below (nI i) (nI n)).bind fun q4 => if q4 = 0 then xs_rz 0 R else if nI c < 1 then xs_rz 0 R else if nI c ≤ 255 then (xs_rd R (200 + 9) (32 * nI j + nI i)).bind fun v8 => (xs_wr R (200 + 9) (32 * nI j + nI i) (v8 ^^^ nI c)).bind fun S9 => xs_rz 1 S9 else xs_rz 0 R) = some (1, xs_sI R 209 (32 * j + i) (nI (b i ^^^ c))) := by
    rw [e2, Option.bind_some, if_neg i10, if_neg hz1, if_pos hz2, show (32 : Int32) * nI j = nI (32 * j) from pk_mul 32 j, nI_add, x_rd (k := 200 + 9) (show 32 * j + i < 768 by omega), Option.bind_some, show R.1 (200 + 9) (32 * j + i) = nI (b i) from (c5.2.2 i hin).1, n_xor, x_wr (k := 200 + 9) (show 32 * j + i < 768 by omega), Option.bind_some]
    rfl
  have agS : xs_ag (fun q => q ≠ S.2.2 2 j + 1) S (xs_sI S (S.2.2 2 j + 1) i (nI (b i ^^^ c))) := ag_sI fun q hq => hq
  have agR : ∀ f, f ≠ j → agF f R (xs_sI R 209 (32 * j + i) (nI (b i ^^^ c))) := fun f hf => ⟨fun t ht => x_fN (by omega), by rw [x_fP (by decide)], by rw [x_fP (by decide)]⟩
  refine ⟨1, _, _, tm, ec, ecr, relAr h (Nat.le_succ N) (ag_sI fun q hq => by rw [ej]; omega) ⟨e_sI (by decide), fun t _ _ => by rw [x_fP (by decide)], fun f h1 _ => agR f (by omega)⟩ ⟨⟨m, ?_, ?_, a3, fun f hf => ?_⟩, ⟨sn, ?_, ?_, by omega, fun f hf hn => ?_⟩, hu, hi, hr⟩, ag_sI fun q hq => by rw [ej]; omega, ag_sI fun q hq => by omega⟩
  · rw [x_fP (by rw [ej]; omega)]
    exact a1
  · rw [x_fP (by decide)]
    exact a2
  · by_cases hfj : f = j
    · subst hfj
      refine ⟨n, fun t => if t = i then b i ^^^ c else b t, t, ⟨?_, h24, fun s hs => ?_⟩, c2, ?_, c4, ⟨?_, h24, fun s hs => ?_⟩, ?_⟩
      · show (xs_sI S _ i _).1 (S.2.2 2 f) 1 = _
        rw [x_fP (by omega)]
        exact c1.1
      · show (xs_sI S _ i _).1 (S.2.2 2 f + 1) _ = _ ∧ _
        rw [Nat.zero_add]
        dsimp only
        by_cases hsi : s = i
        · subst hsi
          rw [x_fI, if_pos rfl]
          exact ⟨rfl, y_xlt (c1.2.2 s hs).2 (by omega)⟩
        · rw [x_fN hsi, if_neg hsi, b_at c1.2.2 hs]
          exact ⟨rfl, (c1.2.2 s hs).2⟩
      · show (xs_sI S _ i _).1 (S.2.2 2 f) 2 = _
        rw [x_fP (by omega)]
        exact c3
      · rw [x_fP (by decide)]
        exact c5.1
      · dsimp only
        by_cases hsi : s = i
        · subst hsi
          rw [x_fI, if_pos rfl]
          exact ⟨rfl, y_xlt (c1.2.2 s hs).2 (by omega)⟩
        · rw [x_fN (by omega), if_neg hsi]
          exact c5.2.2 s hs
      · rw [x_fP (by decide)]
        exact c6
    · obtain ⟨tf, htf, ef⟩ := hu f (by omega)
      have hne : tf ≠ tj := fun e => hfj (hi f j (by omega) (by omega) (by rw [ef, ej, e]))
      exact relF_fr (a4 f hf) agS (show S.2.2 2 f ≠ S.2.2 2 j + 1 by rw [ef, ej]; omega) (show S.2.2 2 f + 1 ≠ S.2.2 2 j + 1 by rw [ef, ej]; omega) (agR f hfj)
  · rw [x_fP (by rw [ej]; omega)]
    exact b1
  · rw [x_fP (by decide)]
    exact b2
  · exact relF_fr (b4 f hf hn) agS (by rw [ej]; omega) (by rw [ej]; omega) (agR _ (by omega))
theorem sim_replay {K : Nat → Nat → Nat} {N tm : Nat} {S R : xs_T} (h : Rel K N tm S R) (hN : N ≤ 512) (x : Int32) : Sim K N tm S R (xf_W_replay 0 x S) (xf_R_replay 200 x R) := by
  have hA := h.2.2.1
  obtain ⟨⟨m, a1, a2, a3, a4⟩, ⟨sn, b1, b2, b3, b4⟩, hu, hi, hr⟩ := hA
  have hmin : xs_min (nI sn) 8 = nI (if 8 < sn then 8 else sn) := by
    unfold xs_min
    by_cases h8 : 8 < sn
    · rw [if_pos (show (8 : Int32) < nI sn from nI_lt (a := 8) h8 (by omega)), if_pos h8]
      rfl
    · rw [if_neg (show ¬ (8 : Int32) < nI sn from nI_nlt (a := 8) (by omega) (by decide)), if_neg h8]
  have hcl : xf_W_replay 0 x S = (xf_A_repeat 1 x S).bind fun q1 => xs_rz q1.1 q1.2 := rfl
  rcases q_below x (n := if 8 < sn then 8 else sn) (by split <;> omega) with ⟨-, ne⟩ | ⟨j, hj, rfl, -⟩
  · refine sim_no (v := 0) h ?_ ?_
    · rw [hcl]
      unfold xf_A_repeat
      rw [show xs_gI S 1 3 = nI sn from b1, hmin]
      by_cases h0 : x < 0
      · rw [if_pos h0]
        rfl
      · rw [if_neg h0, if_neg (fun hlt => ?_)]
        · rfl
        · rcases pk_ix x (n := if 8 < sn then 8 else sn) (by split <;> omega) with h1 | h1 | ⟨j, hj, e⟩
          · exact h0 h1
          · exact Int32.not_lt.mpr h1 hlt
          · exact ne j hj e
    · unfold xf_R_replay
      rcases q_below x (n := 8) (by decide) with e | ⟨j, hj, rfl, e⟩
      · rw [show xf_R_below x 8 = _ from e.1, Option.bind_some, if_pos rfl]
        rfl
      · rw [show xf_R_below (nI j) 8 = _ from e, Option.bind_some, if_neg i10, show xs_gI R 200 13 = nI sn from b2, if_pos (nI_le (by
          refine Nat.le_of_not_lt fun hlt => ne j ?_ rfl
          split <;> omega) (by omega))]
        rfl
  have hjs : j < sn ∧ j < 8 := by split at hj <;> omega
  have e8 := (q_below (nI j) (n := 8) (by decide)).resolve_left (fun hh => hh.2 j hjs.2 rfl)
  obtain ⟨j', hj', ejj, e8⟩ := e8
  have t8 : (sn - 1 - j) % 8 < 8 := Nat.mod_lt _ (by decide)
  have tl : (sn - 1 - j) % 8 < sn := Nat.lt_of_le_of_lt (Nat.mod_le _ _) (by omega)
  have kr := (by decide +kernel : ∀ j, j < 8 → xs_kd (28 + 2 * j) = 2) _ t8
  have ix : xs_rem ((nI sn - 1) - nI j) 8 = nI ((sn - 1 - j) % 8) := by
    rw [show nI sn - 1 = nI (sn - 1) from pk_sub (b := 1) (by omega), pk_sub (by omega)]
    exact pk_rem (d := 8) (by omega) (by decide) (by decide)
  obtain ⟨n, b, t, c1, c2, c3, c4, c5, c6⟩ := b4 _ t8 tl
  obtain ⟨m2, S2, R2, k1, k2, k3, k4, k5, k6, k7, k8, k9, k10⟩ := sim_add h.2.2.1 kr (fun t ht => by omega) (by omega) (by omega) c1 c2 c3 c4 c5 c6
  have hm : m2 = m := (nI_eq (by omega) (by omega)).mp (k1.symm.trans a2)
  subst hm
  have ecl : xf_W_replay 0 (nI j) S = some (if m2 = 12 then 0 else 1, S2) := by
    rw [hcl]
    unfold xf_A_repeat
    rw [show xs_gI S 1 3 = nI sn from b1, hmin, if_neg (nI_pos (by omega)), if_pos (nI_lt hj (by split <;> omega)), ix, x_rdU (k := 1 + 2) (show _ < 8 from t8) (by show xs_kd (S.2.2 3 _) = 2; rw [hr _ t8]; exact kr), Option.bind_some, show S.2.2 (1 + 2) ((sn - 1 - j) % 8) = 28 + 2 * ((sn - 1 - j) % 8) from hr _ t8, k3, Option.bind_some]
    by_cases h12 : m2 = 12
    · rw [if_pos h12]
      rfl
    · rw [if_neg h12]
      rfl
  refine ⟨_, S2, R2, tm, ecl, ?_, relAr h (Nat.le_succ N) k7 k8 (relA_fr k6 (Nat.le_succ N) ag_rf ⟨rfl, rfl, fun _ _ => agF_refl⟩), ag_mono k7 fun q hq => by omega, ag_eq k8.1 fun q hq => by simp; omega⟩
  unfold xf_R_replay
  rw [show xf_R_below (nI j) 8 = _ from e8, Option.bind_some, if_neg i10, show xs_gI R 200 13 = nI sn from b2, if_neg (nI_ge hjs.1 (by omega)), show xs_gI R 200 12 = nI m2 from a2]
  by_cases h12 : m2 = 12
  · rw [if_pos (show nI m2 = 12 by rw [h12]; rfl), if_pos h12, k4 h12]
    rfl
  · rw [if_neg (show ¬ nI m2 = 12 from fun e => h12 ((nI_eq (b := 12) (by omega) (by decide)).mp e)), if_neg h12, ix, show (12 : Int32) + nI ((sn - 1 - j) % 8) = nI (12 + (sn - 1 - j) % 8) from nI_add 12 _]
    have k5' := k5 (by omega)
    cases hcp : xf_R_copyFrame 200 (nI (12 + (sn - 1 - j) % 8)) (nI m2) R with
    | none =>
      rw [hcp] at k5'
      cases k5'
    | some q4 =>
      rw [hcp, Option.bind_some, Option.bind_some] at k5'
      rw [Option.bind_some, Option.bind_some, Option.some.inj k5']
      rfl
