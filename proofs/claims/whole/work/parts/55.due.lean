/-! what is due for one account goes out -/
theorem relArT {K : Nat → Nat → Nat} {N M tm : Nat} {td : Nat → Nat} {S S2 R R2 : xs_T} (h : RelT K N tm td S R) (hNM : N ≤ M) (hS : acA S S2) (hR : arA R R2) (hA : relA M S2 R2) : RelT K M tm td S2 R2 := by
  have r : ∀ q, 201 ≤ q → q ≠ 209 → q ≠ 210 → q ≠ 211 → R2.1 q = R.1 q := fun q h1 h2 h3 h4 => hR.1.1 q (by simp; omega)
  have r2 : ∀ q, R2.2.1 q = R.2.1 q := fun q => by rw [hR.1.2]
  refine ⟨relT_fr h.1 (ag_mono hS fun q hq => ?_) ⟨r 201 (by decide) (by decide) (by decide) (by decide), r 202 (by decide) (by decide) (by decide) (by decide), fun j _ => by rw [r 207 (by decide) (by decide) (by decide) (by decide)]⟩, relG_fr h.2.1 hNM (ag_mono hS fun q hq => by omega) ⟨hR.2.1 8 (by decide) (by decide), hR.2.1 23 (by decide) (by decide)⟩, hA, fun d hd => relD_fr (h.2.2.2.1 d hd) hNM (Nat.le_refl _) (ag_mono hS fun q hq => by omega) ⟨fun q h1 h2 => by rw [r q (by omega) (by omega) (by omega) (by omega)], fun j _ => by rw [r 236 (by decide) (by decide) (by decide) (by decide)], by rw [r 234 (by decide) (by decide) (by decide) (by decide)], fun j _ => by rw [r2 235], hR.2.2 _ (by omega) (by omega), fun j _ => by rw [r 207 (by decide) (by decide) (by decide) (by decide)]⟩, fun d hd => relK_fr (h.2.2.2.2 d hd) hNM (ag_mono hS fun q hq => by omega) ⟨fun q h1 h2 => by rw [r q (by omega) (by omega) (by omega) (by omega)], by rw [r 233 (by decide) (by decide) (by decide) (by decide)], fun j _ => ⟨by rw [r2 231], by rw [r 232 (by decide) (by decide) (by decide) (by decide)]⟩, by rw [r 234 (by decide) (by decide) (by decide) (by decide)], fun j _ => by rw [r2 235], fun j _ => by rw [r 207 (by decide) (by decide) (by decide) (by decide)]⟩⟩
  obtain ⟨d, hd, h1, h2⟩ := hq
  show q = 0 ∨ 44 ≤ q
  omega
theorem ar211 {R : xs_T} {v : Int32} : arS R (xs_sI R 211 23 v) := ⟨e_sI (by decide), fun f hf => ⟨fun j _ => by rw [x_fP (by decide)], by rw [x_fP (by decide)], x_fN (by omega)⟩⟩
theorem sim_post {K : Nat → Nat → Nat} {M tm d n du : Nat} {td b : Nat → Nat} {S R : xs_T} (h : RelT K M tm td S R) (hM : M ≤ 600) (hd : d < 3) (hs : ∃ s, S.1 1 3 = nI s ∧ s + 1 ≤ 400 * M) (cS : xs_cf S 121 n b) (cR : xs_rf R 23 n b) (h12 : 12 ≤ n) (ht : S.1 121 2 = nI d) (hdu : R.1 228 d = nI du) (hdu0 : du ≠ 0) (hdu2 : du ≤ 2) :
    ∃ S2 R2, (∀ c2, ((xf_A_transmit 1 121 S).bind fun q9 => xf_V_sendWhatIsDue_65 119 1 c2 (nI d) (123 + 16 * d) q9) = c2 (nI (d + 1)) S2) ∧ (∀ n1 c15 c32 i2, xf_R_tick_67 200 n1 c15 c32 i2 (nI d) R = c32 i2 (nI (d + 1)) R2) ∧ RelT K M tm td S2 R2 ∧ xs_ag (fun q => 200 ≤ q) S S2 ∧ xs_ag (fun q => q < 200) R R2 ∧ (∃ s, S.1 1 3 = nI s ∧ S2.1 1 3 = nI (s + 1)) ∧ ∀ e j, e < 3 → j < 13 → S2.1 (123 + 16 * e) j = S.1 (123 + 16 * e) j := by
  have h1 : RelT K M tm td S (xs_sI R 211 23 (nI d)) := relScrT h (Nat.le_refl M) ag_rf ar211
  obtain ⟨S2, R2, e1, e2, hA, aS, aR, s, es1, es2⟩ := sim_transmit h1.2.2.1 hs (by omega) (show xs_kd 121 = 2 by decide +kernel) (fun t ht => by omega) (fun t ht => by omega) (show 20 ≤ 23 by decide) (by decide) cS h12 ht (by omega) ⟨by rw [x_fP (by decide)]; exact cR.1, cR.2.1, fun i hi => by rw [x_fP (by decide)]; exact cR.2.2 i hi⟩ x_fI
  have h2 : RelT K M tm td S2 R2 := relArT h1 (Nat.le_refl M) aS aR hA
  obtain ⟨h0, ⟨q, ss, sr, gn, gw, du', ak, ck, -, ⟨b1, b2, b3⟩, -, -, ⟨g1, g2, g3⟩, ⟨f1, f2, f3⟩, -, -, j1, -, m1⟩, -⟩ := h2.2.2.2.2 d hd
  have r28 : R2.1 228 d = nI du := by
    rw [aR.1.1 228 (by decide), x_fP (by decide)]
    exact hdu
  have edu : du' = du := (nI_eq (by omega) (by omega)).mp (f2.symm.trans r28)
  subst edu
  have hss := j1 hdu0
  obtain ⟨⟨m, m2, m3⟩, m4, -, -⟩ := m1 hss
  generalize hS3 : xs_sI (xs_sI (xs_sI S2 (123 + 16 * d) 13 (nI 0)) (123 + 16 * d) 14 (nI 0)) (123 + 16 * d) 15 (nI 0) = S3
  generalize hR3 : xs_sI R2 228 d (nI 0) = R3
  have qS : xs_eq [123 + 16 * d] S2 S3 := by
    rw [← hS3]
    exact e_tr (e_sI (by simp)) (e_tr (e_sI (by simp)) (e_sI (by simp)))
  have qR : xs_eq [228] R2 R3 := by
    rw [← hR3]
    exact e_sI (by decide)
  have fj : ∀ j, j < 13 → S3.1 (123 + 16 * d) j = S2.1 (123 + 16 * d) j := fun j hj => by rw [← hS3, x_fN (by omega), x_fN (by omega), x_fN (by omega)]
  refine ⟨S3, R3, fun c2 => ?_, fun n1 c15 c32 i2 => ?_, kaG (du := 0) (ak := 0) (ck := 0) (gw := gw) h2 (Nat.le_refl M) hd qS (fun j hj => fj j (by omega)) (e_mono qR (by decide)) (fun q e he _ _ => ?_) ?_ ⟨m, by rw [fj 10 (by decide)]; exact m2, m3⟩ (by rw [fj 12 (by decide)]; exact g1) (by rw [qR.1 227 (by decide)]; exact g2) g3 (by rw [← hS3, x_fN (by decide), x_fN (by decide), x_fI]) (by rw [← hR3, x_fI]) (by decide) (by rw [← hS3, x_fN (by decide), x_fI]) (by decide) (fun _ => rfl) (fun hh => absurd hh (by decide)) (by rw [← hS3, x_fI]) (by decide) (fun _ => rfl) (fun hh => absurd hh (by decide)) b1 hss b3 (by omega), ag_tr (ag_mono aS fun q hq => by omega) (ag_eq qS fun q hq => by simp; omega), ag_tr (ag_tr (ag_sI fun q hq => by omega) (ag_eq aR.1 fun q hq => by simp; omega)) (ag_eq qR fun q hq => by simp; omega), ⟨s, es1, by rw [qS.1 1 (by simp <;> omega)]; exact es2⟩, fun e j he hj => ?_⟩
  · unfold xf_V_sendWhatIsDue_65
    rw [e1, Option.bind_some, show xf_K_setDue (123 + 16 * d) 0 0 0 S2 = _ from x_setDue (du := 0) (ak := 0) (ck := 0) (by decide) (by decide), Option.bind_some, nI_1, hS3]
  · unfold xf_R_tick_67 xf_R_tick_90
    rw [show xs_wr R (200 + 11) 23 (nI d) = some (xs_sI R 211 23 (nI d)) from x_wr (k := 211) (j := 23) (by decide), Option.bind_some, x_rd (k := 200 + 28) (show d < 3 from hd), Option.bind_some, show (xs_sI R 211 23 (nI d)).1 (200 + 28) d = nI du' by
      rw [x_fP (by decide)]
      exact hdu, if_neg (show ¬ nI du' = 0 from nI_ne0 (by omega) (by omega)), show xf_R_post 200 23 (xs_sI R 211 23 (nI d)) = _ from e2, Option.bind_some, x_wr (k := 200 + 28) (show d < 3 from hd), Option.bind_some, nI_1]
    show c32 i2 (nI (d + 1)) (xs_sI R2 228 d (nI 0)) = _
    rw [hR3]
  · rw [← hR3]
    by_cases hq : q = 228
    · subst hq
      exact x_fN he
    · rw [x_fP hq]
  · rw [qR.1 224 (by decide), fj 10 (by decide)]
    exact m4
  · by_cases hed : e = d
    · subst hed
      rw [fj j hj, (aS _ (by omega)).1]
    · rw [qS.1 _ (by simp <;> omega), (aS _ (by omega)).1]
