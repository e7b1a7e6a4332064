/-! a device transmits; join -/
theorem q_fr : ∀ d, d < 3 → xs_kd (67 + 24 * d) = 2 ∧ (∀ t, t < 12 → 67 + 24 * d ≠ 4 + 2 * t) ∧ ∀ t, t < 8 → 67 + 24 * d ≠ 28 + 2 * t := by decide +kernel
theorem sim_dtxT {K : Nat → Nat → Nat} {M tm d ts st : Nat} {S R : xs_T} {td : Nat → Nat} (h : RelT K M tm td S R) (hd : d < 3) (htd : td d = tm) (hM : M ≤ 600) (hs : ∃ s, S.1 1 3 = nI s ∧ s + 1 ≤ 400 * M) (hn : ∀ n b, xs_cf S (67 + 24 * d) n b → 12 ≤ n) (ht : S.1 (67 + 24 * d) 2 = nI 3) (hts : S.1 (53 + 24 * d) 13 = nI ts) (hts2 : ts ≤ 3) (hst : S.1 (53 + 24 * d) 6 = nI st) (hst2 : 1 ≤ st) (hst3 : st ≤ 2) :
    ∃ S2 R2, xf_D_transmit (53 + 24 * d) 1 (nI tm) S = some S2 ∧ xf_R_transmit 200 (nI d) R = some R2 ∧ RelT K M tm td S2 R2 ∧ xs_ag (fun q => 119 ≤ q) S S2 ∧ xs_ag (fun q => q < 200) R R2 ∧ (∀ j, j < 11 → S2.1 (53 + 24 * d) j = S.1 (53 + 24 * d) j) ∧ R2.1 216 = R.1 216 ∧ S2.1 0 = S.1 0 ∧ (∃ s, S.1 1 3 = nI s ∧ S2.1 1 3 = nI (s + 1)) := by
  obtain ⟨hT, hG, hA, hD, hK⟩ := h
  obtain ⟨h0, ⟨st', nc, gs, cu, w, sa, ts', cf, ⟨a1, a2, a3⟩, ⟨b1, b2, b3⟩, ⟨c1, c2, c3⟩, ⟨d1, d2, d3⟩, ⟨w1, w2, w3⟩, ⟨f1, f2, f3⟩, ⟨g1, g2, g3⟩, ⟨i1, i2⟩, j1, ⟨n, b, k1, k2, k3, k4⟩, l1⟩, h2, h3⟩ := hD d hd
  have est : st' = st := (nI_eq (by omega) (by omega)).mp (a1.symm.trans hst)
  have ets : ts' = ts := (nI_eq (by omega) (by omega)).mp (g1.symm.trans hts)
  subst est ets
  obtain ⟨kf, nf1, nf2⟩ := q_fr d hd
  have htm := hG.1.2.1
  have htm3 := hG.1.2.2
  -- the reference's own fields
  generalize hR4 : xs_sI (xs_sI (xs_sI (xs_sI R 211 (20 + d) 3) 213 d 1) 214 d (nI tm)) 215 d (nI (ts' + 1)) = R4
  have r4 : ∀ q, q ≠ 211 → q ≠ 213 → q ≠ 214 → q ≠ 215 → R4.1 q = R.1 q := fun q h1 h2 h3 h4 => by rw [← hR4, x_fP h4, x_fP h3, x_fP h2, x_fP h1]
  have r42 : R4.2 = R.2 := by rw [← hR4]; rfl
  have r4e : ∀ e, e ≠ d → R4.1 213 e = R.1 213 e ∧ R4.1 214 e = R.1 214 e ∧ R4.1 215 e = R.1 215 e := fun e he => ⟨by rw [← hR4, x_fP (by decide), x_fP (by decide), x_fN he, x_fP (by decide)], by rw [← hR4, x_fP (by decide), x_fN he, x_fP (by decide), x_fP (by decide)], by rw [← hR4, x_fN he, x_fP (by decide), x_fP (by decide), x_fP (by decide)]⟩
  have r4g : ∀ f, f ≠ 20 + d → R4.1 211 f = R.1 211 f := fun f hf => by rw [← hR4, x_fP (by decide), x_fP (by decide), x_fP (by decide), x_fN hf]
  have r4F : ∀ f, f ≠ 20 + d → agF f R R4 := fun f hf => ⟨fun j _ => by rw [r4 209 (by decide) (by decide) (by decide) (by decide)], by rw [r4 210 (by decide) (by decide) (by decide) (by decide)], r4g f hf⟩
  have r4d : R4.1 213 d = 1 ∧ R4.1 214 d = nI tm ∧ R4.1 215 d = nI (ts' + 1) ∧ R4.1 211 (20 + d) = nI 3 := ⟨by rw [← hR4, x_fP (by decide), x_fP (by decide), x_fI], by rw [← hR4, x_fP (by decide), x_fI], by rw [← hR4, x_fI], by rw [← hR4, x_fP (by decide), x_fP (by decide), x_fP (by decide), x_fI]; rfl⟩
  have r4a : relA M S R4 := relA_fr hA (Nat.le_refl M) ag_rf ⟨by rw [r4 200 (by decide) (by decide) (by decide) (by decide)], by rw [r4 200 (by decide) (by decide) (by decide) (by decide)], fun f hf => r4F f (by omega)⟩
  have k2' : xs_rf R4 (20 + d) n b := ⟨by rw [r4 210 (by decide) (by decide) (by decide) (by decide)]; exact k2.1, k2.2.1, fun i hi => by rw [r4 209 (by decide) (by decide) (by decide) (by decide)]; exact k2.2.2 i hi⟩
  obtain ⟨S5, R5, e1, e2, q1, q2, q3, s, es1, es2⟩ := sim_transmit r4a hs (by omega) kf nf1 nf2 (show 20 ≤ 20 + d by omega) (by omega) k1 (hn n b k1) ht (by decide) k2' r4d.2.2.2
  have pS : S5.1 (53 + 24 * d) = S.1 (53 + 24 * d) := (q2 _ (by omega)).1
  generalize hS2 : xs_sI (xs_sI (xs_sI S5 (53 + 24 * d) 13 (nI (ts' + 1))) (53 + 24 * d) 12 (nI tm)) (53 + 24 * d) 11 1 = S2
  have s2 : ∀ q, q ≠ 53 + 24 * d → S2.1 q = S5.1 q := fun q hq => by rw [← hS2, x_fP hq, x_fP hq, x_fP hq]
  have s22 : S2.2 = S5.2 := by rw [← hS2]; rfl
  have s2f : ∀ j, j ≠ 11 → j ≠ 12 → j ≠ 13 → S2.1 (53 + 24 * d) j = S.1 (53 + 24 * d) j := fun j h1 h2 h3 => by rw [← hS2, x_fN h1, x_fN h2, x_fN h3, pS]
  have agS : xs_ag (fun q => (q = 0 ∨ 44 ≤ q) ∧ q ≠ 53 + 24 * d) S S2 := fun q hq => ⟨by rw [s2 q hq.2]; exact (q2 q hq.1).1, by rw [s22]; exact (q2 q hq.1).2.1, by rw [s22]; exact (q2 q hq.1).2.2⟩
  have r5 : ∀ q, q ≠ 200 → q ≠ 209 → q ≠ 210 → q ≠ 211 → R5.1 q = R4.1 q := fun q h1 h2 h3 h4 => q3.1.1 q (by simp; omega)
  have rr : ∀ q, q ≠ 200 → q ≠ 209 → q ≠ 210 → q ≠ 211 → q ≠ 213 → q ≠ 214 → q ≠ 215 → R5.1 q = R.1 q := fun q h1 h2 h3 h4 h5 h6 h7 => (r5 q h1 h2 h3 h4).trans (r4 q h4 h5 h6 h7)
  have rr2 : R5.2 = R.2 := q3.1.2.trans r42
  have r200 : ∀ j, j ≠ 12 → j ≠ 13 → R5.1 200 j = R.1 200 j := fun j h1 h2 => by rw [q3.2.1 j h1 h2, r4 200 (by decide) (by decide) (by decide) (by decide)]
  have ec : xf_D_transmit (53 + 24 * d) 1 (nI tm) S = some S2 := by
    unfold xf_D_transmit
    rw [show 53 + 24 * d + 14 = 67 + 24 * d by omega, e1, Option.bind_some, Option.bind_some, Option.bind_some, show xs_gI S5 (53 + 24 * d) 13 = nI ts' by
      show S5.1 (53 + 24 * d) 13 = _
      rw [pS]
      exact hts, nI_1, ← hS2]
    rfl
  have er : xf_R_transmit 200 (nI d) R = some R5 := by
    unfold xf_R_transmit
    have z1 : ∀ T, xs_wrZ T (200 + 13) (nI d) 1 = some (xs_sI T 213 d 1) := fun T => by
      unfold xs_wrZ xs_sZ
      rw [if_neg (x_in (k := 200 + 13) (show d < 3 from hd)), x_cl (k := 200 + 13) (show d < 3 from hd), if_pos (Or.inr rfl)]
    rw [show (20 : Int32) + nI d = nI (20 + d) from nI_add 20 d, x_wr (k := 200 + 11) (show 20 + d < 24 by omega), Option.bind_some, z1, Option.bind_some, x_wr (k := 200 + 14) (show d < 3 from hd), Option.bind_some, x_rd (k := 200 + 15) (show d < 3 from hd), Option.bind_some, x_wr (k := 200 + 15) (show d < 3 from hd), Option.bind_some]
    have et : xs_gI (xs_sI (xs_sI R (200 + 11) (20 + d) 3) 213 d 1) 200 8 = nI tm := by
      show (xs_sI (xs_sI R 211 (20 + d) 3) 213 d 1).1 200 8 = _
      rw [x_fP (by decide), x_fP (by decide)]
      exact htm
    rw [et]
    have e15 : (xs_sI (xs_sI (xs_sI R (200 + 11) (20 + d) 3) 213 d 1) (200 + 14) d (nI tm)).1 (200 + 15) d = nI ts' := by
      show (xs_sI (xs_sI (xs_sI R 211 (20 + d) 3) 213 d 1) 214 d (nI tm)).1 215 d = _
      rw [x_fP (by decide), x_fP (by decide), x_fP (by decide)]
      exact g2
    rw [e15, nI_1]
    show (xf_R_post 200 (nI (20 + d)) (xs_sI (xs_sI (xs_sI (xs_sI R 211 (20 + d) 3) 213 d 1) 214 d (nI tm)) 215 d (nI (ts' + 1)))).bind _ = _
    rw [hR4, e2, Option.bind_some]
  have gF : ∀ e, e < 3 → e ≠ d → agF (20 + e) R R5 := fun e he hed => agF_tr (r4F (20 + e) (by omega)) (q3.2.2 (20 + e) (by omega) (by omega))
  refine ⟨S2, R5, ec, er, ⟨relT_fr hT (ag_mono agS fun q hq => ?_) ⟨rr 201 (by decide) (by decide) (by decide) (by decide) (by decide) (by decide) (by decide), rr 202 (by decide) (by decide) (by decide) (by decide) (by decide) (by decide) (by decide), fun j _ => by rw [rr 207 (by decide) (by decide) (by decide) (by decide) (by decide) (by decide) (by decide)]⟩, relG_fr hG (Nat.le_refl M) (ag_mono agS fun q hq => by omega) ⟨r200 8 (by decide) (by decide), r200 23 (by decide) (by decide)⟩, relA_fr q1 (Nat.le_refl M) (fun q hq => ⟨s2 q (by omega), by rw [s22], by rw [s22]⟩) ⟨rfl, rfl, fun _ _ => agF_refl⟩, fun e he => ?_, fun e he => relK_fr (hK e he) (Nat.le_refl M) (ag_mono agS fun q hq => by omega) ⟨fun q h1 h2 => by rw [rr q (by omega) (by omega) (by omega) (by omega) (by omega) (by omega) (by omega)], by rw [rr 233 (by decide) (by decide) (by decide) (by decide) (by decide) (by decide) (by decide)], fun j _ => ⟨by rw [rr2], by rw [rr 232 (by decide) (by decide) (by decide) (by decide) (by decide) (by decide) (by decide)]⟩, by rw [rr 234 (by decide) (by decide) (by decide) (by decide) (by decide) (by decide) (by decide)], fun j _ => by rw [rr2], fun j _ => by rw [rr 207 (by decide) (by decide) (by decide) (by decide) (by decide) (by decide) (by decide)]⟩⟩, ag_mono agS fun q hq => by omega, ?_, fun j hj => s2f j (by omega) (by omega) (by omega), rr 216 (by decide) (by decide) (by decide) (by decide) (by decide) (by decide) (by decide), by rw [s2 0 (by omega)]; exact (q2 0 (by omega)).1, s, es1, by rw [s2 1 (by omega)]; exact es2⟩
  · obtain ⟨e, he, h1, h2⟩ := hq
    show (q = 0 ∨ 44 ≤ q) ∧ q ≠ 53 + 24 * d
    omega
  · by_cases hed : e = d
    · subst hed
      refine ⟨by rw [s2f 0 (by decide) (by decide) (by decide)]; exact h0, ⟨st', nc, gs, cu, 1, tm, ts' + 1, cf, ⟨by rw [s2f 6 (by decide) (by decide) (by decide)]; exact a1, by rw [rr 212 (by decide) (by decide) (by decide) (by decide) (by decide) (by decide) (by decide)]; exact a2, a3⟩, ⟨by rw [s2f 7 (by decide) (by decide) (by decide)]; exact b1, by rw [rr 216 (by decide) (by decide) (by decide) (by decide) (by decide) (by decide) (by decide)]; exact b2, b3⟩, ⟨by rw [s2f 8 (by decide) (by decide) (by decide)]; exact c1, by rw [rr 217 (by decide) (by decide) (by decide) (by decide) (by decide) (by decide) (by decide)]; exact c2, c3⟩, ⟨by rw [s2f 9 (by decide) (by decide) (by decide)]; exact d1, by rw [rr 219 (by decide) (by decide) (by decide) (by decide) (by decide) (by decide) (by decide)]; exact d2, d3⟩, ⟨by rw [← hS2]; exact x_fI, by rw [r5 213 (by decide) (by decide) (by decide) (by decide)]; exact r4d.1, Nat.le_refl 1⟩, ⟨by rw [← hS2, x_fN (by decide), x_fI], by rw [r5 214 (by decide) (by decide) (by decide) (by decide)]; exact r4d.2.1, by omega⟩, ⟨by rw [← hS2, x_fN (by decide), x_fN (by decide), x_fI], by rw [r5 215 (by decide) (by decide) (by decide) (by decide)]; exact r4d.2.2.1, by omega⟩, ⟨by rw [s2f 14 (by decide) (by decide) (by decide)]; exact i1, i2⟩, fun _ => ⟨hst2, by omega⟩, ⟨n, b, ag_cf agS (by omega) (by omega) k1, agF_rf (q3.2.2 (20 + e) (by omega) (by omega)) k2', fun _ => ⟨hn n b k1, by rw [(agS (67 + 24 * e) (by omega)).1]; exact ht, by rw [(q3.2.2 (20 + e) (by omega) (by omega)).2.2]; exact r4d.2.2.2⟩, k4⟩, fun hst => ?_⟩, fun j hj => by rw [s2f _ (by omega) (by omega) (by omega), rr 236 (by decide) (by decide) (by decide) (by decide) (by decide) (by decide) (by decide)]; exact h2 j hj, relI_fr h3 (Nat.le_refl M) agS (by omega) (by omega) (by rw [rr 234 (by decide) (by decide) (by decide) (by decide) (by decide) (by decide) (by decide)]) (fun j _ => by rw [rr2])⟩
      obtain ⟨⟨m, m1, m2⟩, m3, m4⟩ := l1 hst
      exact ⟨⟨m, by rw [s2f 10 (by decide) (by decide) (by decide)]; exact m1, m2⟩, by rw [s2f 10 (by decide) (by decide) (by decide), rr 220 (by decide) (by decide) (by decide) (by decide) (by decide) (by decide) (by decide)]; exact m3, relS_fr m4 (fun a ha => by rw [rr 218 (by decide) (by decide) (by decide) (by decide) (by decide) (by decide) (by decide)]; exact ha) agS (by omega) (by omega) (by omega) (by omega) (by omega) (fun j _ => by rw [rr 207 (by decide) (by decide) (by decide) (by decide) (by decide) (by decide) (by decide)])⟩
    · refine relD_fr (hD e he) (Nat.le_refl M) (Nat.le_refl _) (ag_mono agS fun q hq => by omega) ⟨fun q h1 h2 => ?_, fun j _ => by rw [rr 236 (by decide) (by decide) (by decide) (by decide) (by decide) (by decide) (by decide)], by rw [rr 234 (by decide) (by decide) (by decide) (by decide) (by decide) (by decide) (by decide)], fun j _ => by rw [rr2], gF e he hed, fun j _ => by rw [rr 207 (by decide) (by decide) (by decide) (by decide) (by decide) (by decide) (by decide)]⟩
      rw [r5 q (by omega) (by omega) (by omega) (by omega)]
      by_cases h5 : q = 213
      · rw [h5]
        exact (r4e e hed).1
      by_cases h6 : q = 214
      · rw [h6]
        exact (r4e e hed).2.1
      by_cases h7 : q = 215
      · rw [h7]
        exact (r4e e hed).2.2
      rw [r4 q (by omega) h5 h6 h7]
  · intro q hq
    have hq : q < 200 := hq
    exact ⟨rr q (by omega) (by omega) (by omega) (by omega) (by omega) (by omega) (by omega), by rw [rr2], by rw [rr2]⟩
theorem sim_dtx {K : Nat → Nat → Nat} {M tm d ts st : Nat} {S R : xs_T} (h : Rel K M tm S R) (hd : d < 3) (hM : M ≤ 600) (hs : ∃ s, S.1 1 3 = nI s ∧ s + 1 ≤ 400 * M) (hn : ∀ n b, xs_cf S (67 + 24 * d) n b → 12 ≤ n) (ht : S.1 (67 + 24 * d) 2 = nI 3) (hts : S.1 (53 + 24 * d) 13 = nI ts) (hts2 : ts ≤ 3) (hst : S.1 (53 + 24 * d) 6 = nI st) (hst2 : 1 ≤ st) (hst3 : st ≤ 2) :
    ∃ S2 R2, xf_D_transmit (53 + 24 * d) 1 (nI tm) S = some S2 ∧ xf_R_transmit 200 (nI d) R = some R2 ∧ Rel K M tm S2 R2 ∧ xs_ag (fun q => 200 ≤ q) S S2 ∧ xs_ag (fun q => q < 200) R R2 ∧ (∀ j, j < 11 → S2.1 (53 + 24 * d) j = S.1 (53 + 24 * d) j) ∧ R2.1 216 = R.1 216 ∧ S2.1 0 = S.1 0 ∧ (∃ s, S.1 1 3 = nI s ∧ S2.1 1 3 = nI (s + 1)) := by
  obtain ⟨S2, R2, a, b, c, e, f⟩ := sim_dtxT (td := fun _ => tm) h hd rfl hM hs hn ht hts hts2 hst hst2 hst3
  exact ⟨S2, R2, a, b, c, ag_mono e fun q hq => by omega, f⟩
