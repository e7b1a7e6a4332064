/-! single steps that keep the relation -/
theorem relOneDT {K : Nat → Nat → Nat} {N M tm d : Nat} {td td2 : Nat → Nat} {S S2 R R2 : xs_T} (h : RelT K N tm td S R) (hNM : N ≤ M) (hd : d < 3) (htd : ∀ e, e ≠ d → td2 e = td e) (hS : xs_ag (fun q => ¬ scC q ∧ ¬ pD d q) S S2) (hT : agT R R2) (hG : agG R R2) (hA : agA R R2) (hD : ∀ e, e < 3 → e ≠ d → agD e R R2) (hK : ∀ e, e < 3 → agK e R R2) (hn : relD M (td2 d) d S2 R2) : RelT K M tm td2 S2 R2 := by
  refine ⟨relT_fr h.1 (ag_mono hS fun q hq => ?_) hT, relG_fr h.2.1 hNM (ag_mono hS fun q hq => ?_) hG, relA_fr h.2.2.1 hNM (ag_mono hS fun q hq => ?_) hA, fun e he => ?_, fun e he => relK_fr2 (h.2.2.2.2 e he) hNM (ag_mono hS fun q hq => ⟨pK_sc he hq, ?_⟩) (hK e he)⟩
  · obtain ⟨e, he, h1, h2⟩ := hq
    refine ⟨?_, ?_⟩
    · unfold scC
      rintro (⟨e, he, h1⟩ | ⟨e, he, h1⟩ | h1 | h1) <;> omega
    · unfold pD
      omega
  · refine ⟨?_, ?_⟩
    · unfold scC
      rintro (⟨e, he, h1⟩ | ⟨e, he, h1⟩ | h1 | h1) <;> omega
    · unfold pD
      omega
  · refine ⟨?_, ?_⟩
    · unfold scC
      rintro (⟨e, he, h1⟩ | ⟨e, he, h1⟩ | h1 | h1) <;> omega
    · unfold pD
      omega
  · by_cases hed : e = d
    · subst hed
      exact hn
    · rw [htd e hed]
      exact relD_fr2 (h.2.2.2.1 e he) hNM (Nat.le_refl _) (ag_mono hS fun q hq => ⟨pD_sc he hq, by
        unfold pD at hq ⊢
        omega⟩) (hD e he hed)
  · unfold pK at hq
    unfold pD
    omega
theorem relOneKT {K : Nat → Nat → Nat} {N M tm d : Nat} {td : Nat → Nat} {S S2 R R2 : xs_T} (h : RelT K N tm td S R) (hNM : N ≤ M) (hd : d < 3) (hS : xs_ag (fun q => ¬ scC q ∧ ¬ pK d q) S S2) (hT : agT R R2) (hG : agG R R2) (hA : agA R R2) (hD : ∀ e, e < 3 → agD e R R2) (hK : ∀ e, e < 3 → e ≠ d → agK e R R2) (hn : relK M d S2 R2) : RelT K M tm td S2 R2 := by
  refine ⟨relT_fr h.1 (ag_mono hS fun q hq => ?_) hT, relG_fr h.2.1 hNM (ag_mono hS fun q hq => ?_) hG, relA_fr h.2.2.1 hNM (ag_mono hS fun q hq => ?_) hA, fun e he => relD_fr2 (h.2.2.2.1 e he) hNM (Nat.le_refl _) (ag_mono hS fun q hq => ⟨pD_sc he hq, ?_⟩) (hD e he), fun e he => ?_⟩
  · obtain ⟨e, he, h1, h2⟩ := hq
    refine ⟨?_, ?_⟩
    · unfold scC
      rintro (⟨e, he, h1⟩ | ⟨e, he, h1⟩ | h1 | h1) <;> omega
    · unfold pK
      omega
  · refine ⟨?_, ?_⟩
    · unfold scC
      rintro (⟨e, he, h1⟩ | ⟨e, he, h1⟩ | h1 | h1) <;> omega
    · unfold pK
      omega
  · refine ⟨?_, ?_⟩
    · unfold scC
      rintro (⟨e, he, h1⟩ | ⟨e, he, h1⟩ | h1 | h1) <;> omega
    · unfold pK
      omega
  · unfold pD at hq
    unfold pK
    omega
  · by_cases hed : e = d
    · subst hed
      exact hn
    · exact relK_fr2 (h.2.2.2.2 e he) hNM (ag_mono hS fun q hq => ⟨pK_sc he hq, by
        unfold pK at hq ⊢
        omega⟩) (hK e he hed)
theorem relScrT {K : Nat → Nat → Nat} {N M tm : Nat} {td : Nat → Nat} {S S2 R R2 : xs_T} (h : RelT K N tm td S R) (hNM : N ≤ M) (hS : xs_ag (fun q => ¬ scC q) S S2) (hR : arS R R2) : RelT K M tm td S2 R2 :=
  relOneDT (d := 0) h hNM (by decide) (fun _ _ => rfl) (ag_mono hS fun q hq => hq.1) (arS_T hR) (arS_G hR) (arS_A hR) (fun e he _ => arS_D he hR) (fun e he => arS_K hR) (relD_fr2 (h.2.2.2.1 0 (by decide)) hNM (Nat.le_refl _) (ag_mono hS fun q hq => pD_sc (by decide) hq) (arS_D (by decide) hR))
theorem pD_53 {d : Nat} : ∀ q, ¬ scC q ∧ ¬ pD d q → q ≠ 53 + 24 * d := fun q hq e => hq.2 (Or.inl e)
theorem x_self {S : xs_T} {k j : Nat} {v : Int32} (h : S.1 k j = v) : xs_sI S k j v = S := by
  rw [p_sI, ← h, show upd (S.1 k) j (S.1 k j) = S.1 k from funext fun i => by unfold upd; split <;> simp_all, p_self]
theorem st_cd {K : Nat → Nat → Nat} {N M tm d : Nat} {td : Nat → Nat} {S R : xs_T} {c : Nat} (hc : c + 1 ≤ 65536 * M) (h : RelT K N tm td S R) (hNM : N ≤ M) (hd : d < 3) : RelT K M tm td (xs_sI S (53 + 24 * d) 10 (nI c)) (xs_sI R 220 d (nI c)) := by
  obtain ⟨h0, ⟨st, nc, gs, cu, w, sa, ts, cf, ⟨a1, a2, a3⟩, ⟨b1, b2, b3⟩, ⟨c1, c2, c3⟩, ⟨d1, d2, d3⟩, ⟨w1, w2, w3⟩, ⟨f1, f2, f3⟩, ⟨g1, g2, g3⟩, ⟨i1, i2⟩, j1, ⟨n, b, k1, k2, k3, k4⟩, l1⟩, h2, h3⟩ := h.2.2.2.1 d hd
  have eS : ∀ j, j ≠ 10 → (xs_sI S (53 + 24 * d) 10 (nI c)).1 (53 + 24 * d) j = S.1 (53 + 24 * d) j := fun j hj => x_fN hj
  have eR : ∀ q, q ≠ 220 → (xs_sI R 220 d (nI c)).1 q = R.1 q := fun q hq => x_fP hq
  have agR : xs_eq [220] R (xs_sI R 220 d (nI c)) := e_sI (by decide)
  have agS : xs_ag (fun q => q ≠ 53 + 24 * d) S (xs_sI S (53 + 24 * d) 10 (nI c)) := ag_sI fun q hq => hq
  refine relOneDT h hNM hd (fun _ _ => rfl) (ag_sI pD_53) (agT_ne agR (by decide)) (agG_ne agR (by decide)) (agA_ne agR (by decide)) (fun e he hed => ?_) (fun e he => agK_ne agR (by decide)) ?_
  · refine ⟨fun q h1 h2 => ?_, fun j _ => by rw [eR 236 (by decide)], by rw [eR 234 (by decide)], fun j _ => rfl, ⟨fun j _ => by rw [eR 209 (by decide)], by rw [eR 210 (by decide)], by rw [eR 211 (by decide)]⟩, fun j _ => by rw [eR 207 (by decide)]⟩
    by_cases hq : q = 220
    · subst hq
      exact x_fN hed
    · rw [eR q hq]
  · refine ⟨by rw [eS 0 (by decide)]; exact h0, ⟨st, nc, gs, cu, w, sa, ts, cf, ⟨by rw [eS 6 (by decide)]; exact a1, by rw [eR 212 (by decide)]; exact a2, a3⟩, ⟨by rw [eS 7 (by decide)]; exact b1, by rw [eR 216 (by decide)]; exact b2, by omega⟩, ⟨by rw [eS 8 (by decide)]; exact c1, by rw [eR 217 (by decide)]; exact c2, c3⟩, ⟨by rw [eS 9 (by decide)]; exact d1, by rw [eR 219 (by decide)]; exact d2, Nat.le_trans d3 (Nat.mul_le_mul_left _ hNM)⟩, ⟨by rw [eS 11 (by decide)]; exact w1, by rw [eR 213 (by decide)]; exact w2, w3⟩, ⟨by rw [eS 12 (by decide)]; exact f1, by rw [eR 214 (by decide)]; exact f2, f3⟩, ⟨by rw [eS 13 (by decide)]; exact g1, by rw [eR 215 (by decide)]; exact g2, g3⟩, ⟨by rw [eS 14 (by decide)]; exact i1, i2⟩, j1, ⟨n, b, ag_cf agS (by omega) (by omega) k1, agF_rf ⟨fun j _ => by rw [eR 209 (by decide)], by rw [eR 210 (by decide)], by rw [eR 211 (by decide)]⟩ k2, fun hw => ⟨(k3 hw).1, by rw [x_fP (by omega)]; exact (k3 hw).2.1, by rw [eR 211 (by decide)]; exact (k3 hw).2.2⟩, k4⟩, fun hs => ?_⟩, fun j hj => by rw [eS _ (by omega), eR 236 (by decide)]; exact h2 j hj, relI_fr h3 hNM agS (by omega) (by omega) (by rw [eR 234 (by decide)]) (fun j _ => rfl)⟩
    obtain ⟨⟨m, m1, m2⟩, m3, m4⟩ := l1 hs
    exact ⟨⟨c + 1, by rw [x_fI, nI_1], hc⟩, x_fI.trans x_fI.symm, relS_fr m4 (fun a ha => by rw [eR 218 (by decide)]; exact ha) agS (by omega) (by omega) (by omega) (by omega) (by omega) (fun j _ => by rw [eR 207 (by decide)])⟩
theorem st_w0 {K : Nat → Nat → Nat} {N M tm d : Nat} {td td2 : Nat → Nat} {S R : xs_T} (htd : ∀ e, e ≠ d → td2 e = td e) (hle : td d ≤ td2 d) (h : RelT K N tm td S R) (hNM : N ≤ M) (hd : d < 3) : RelT K M tm td2 (xs_sI S (53 + 24 * d) 11 0) (xs_sI R 213 d 0) := by
  obtain ⟨h0, ⟨st, nc, gs, cu, w, sa, ts, cf, ⟨a1, a2, a3⟩, ⟨b1, b2, b3⟩, ⟨c1, c2, c3⟩, ⟨d1, d2, d3⟩, ⟨w1, w2, w3⟩, ⟨f1, f2, f3⟩, ⟨g1, g2, g3⟩, ⟨i1, i2⟩, j1, ⟨n, b, k1, k2, k3, k4⟩, l1⟩, h2, h3⟩ := h.2.2.2.1 d hd
  have eS : ∀ j, j ≠ 11 → (xs_sI S (53 + 24 * d) 11 0).1 (53 + 24 * d) j = S.1 (53 + 24 * d) j := fun j hj => x_fN hj
  have eR : ∀ q, q ≠ 213 → (xs_sI R 213 d 0).1 q = R.1 q := fun q hq => x_fP hq
  have agR : xs_eq [213] R (xs_sI R 213 d 0) := e_sI (by decide)
  have agS : xs_ag (fun q => q ≠ 53 + 24 * d) S (xs_sI S (53 + 24 * d) 11 0) := ag_sI fun q hq => hq
  refine relOneDT h hNM hd (fun e he => htd e he) (ag_sI pD_53) (agT_ne agR (by decide)) (agG_ne agR (by decide)) (agA_ne agR (by decide)) (fun e he hed => ?_) (fun e he => agK_ne agR (by decide)) ?_
  · refine ⟨fun q h1 h2 => ?_, fun j _ => by rw [eR 236 (by decide)], by rw [eR 234 (by decide)], fun j _ => rfl, ⟨fun j _ => by rw [eR 209 (by decide)], by rw [eR 210 (by decide)], by rw [eR 211 (by decide)]⟩, fun j _ => by rw [eR 207 (by decide)]⟩
    by_cases hq : q = 213
    · subst hq
      exact x_fN hed
    · rw [eR q hq]
  · refine ⟨by rw [eS 0 (by decide)]; exact h0, ⟨st, nc, gs, cu, 0, sa, ts, cf, ⟨by rw [eS 6 (by decide)]; exact a1, by rw [eR 212 (by decide)]; exact a2, a3⟩, ⟨by rw [eS 7 (by decide)]; exact b1, by rw [eR 216 (by decide)]; exact b2, by omega⟩, ⟨by rw [eS 8 (by decide)]; exact c1, by rw [eR 217 (by decide)]; exact c2, c3⟩, ⟨by rw [eS 9 (by decide)]; exact d1, by rw [eR 219 (by decide)]; exact d2, Nat.le_trans d3 (Nat.mul_le_mul_left _ hNM)⟩, ⟨x_fI, x_fI, by decide⟩, ⟨by rw [eS 12 (by decide)]; exact f1, by rw [eR 214 (by decide)]; exact f2, by omega⟩, ⟨by rw [eS 13 (by decide)]; exact g1, by rw [eR 215 (by decide)]; exact g2, g3⟩, ⟨by rw [eS 14 (by decide)]; exact i1, i2⟩, fun hh => absurd hh (by decide), ⟨n, b, ag_cf agS (by omega) (by omega) k1, agF_rf ⟨fun j _ => by rw [eR 209 (by decide)], by rw [eR 210 (by decide)], by rw [eR 211 (by decide)]⟩ k2, fun hh => absurd hh (by decide), k4⟩, fun hs => ?_⟩, fun j hj => by rw [eS _ (by omega), eR 236 (by decide)]; exact h2 j hj, relI_fr h3 hNM agS (by omega) (by omega) (by rw [eR 234 (by decide)]) (fun j _ => rfl)⟩
    obtain ⟨⟨m, m1, m2⟩, m3, m4⟩ := l1 hs
    exact ⟨⟨m, by rw [eS 10 (by decide)]; exact m1, Nat.le_trans m2 (Nat.mul_le_mul_left _ hNM)⟩, by rw [eS 10 (by decide), eR 220 (by decide)]; exact m3, relS_fr m4 (fun a ha => by rw [eR 218 (by decide)]; exact ha) agS (by omega) (by omega) (by omega) (by omega) (by omega) (fun j _ => by rw [eR 207 (by decide)])⟩
theorem st_s0 {K : Nat → Nat → Nat} {N M tm d : Nat} {td : Nat → Nat} {S R : xs_T} (hw : R.1 213 d = nI 0) (h : RelT K N tm td S R) (hNM : N ≤ M) (hd : d < 3) : RelT K M tm td (xs_sI S (53 + 24 * d) 6 0) (xs_sI R 212 d 0) := by
  obtain ⟨h0, ⟨st, nc, gs, cu, w, sa, ts, cf, ⟨a1, a2, a3⟩, ⟨b1, b2, b3⟩, ⟨c1, c2, c3⟩, ⟨d1, d2, d3⟩, ⟨w1, w2, w3⟩, ⟨f1, f2, f3⟩, ⟨g1, g2, g3⟩, ⟨i1, i2⟩, j1, ⟨n, b, k1, k2, k3, k4⟩, l1⟩, h2, h3⟩ := h.2.2.2.1 d hd
  have ew : w = 0 := (nI_eq (by omega) (by decide)).mp (w2.symm.trans hw)
  have eS : ∀ j, j ≠ 6 → (xs_sI S (53 + 24 * d) 6 0).1 (53 + 24 * d) j = S.1 (53 + 24 * d) j := fun j hj => x_fN hj
  have eR : ∀ q, q ≠ 212 → (xs_sI R 212 d 0).1 q = R.1 q := fun q hq => x_fP hq
  have agR : xs_eq [212] R (xs_sI R 212 d 0) := e_sI (by decide)
  have agS : xs_ag (fun q => q ≠ 53 + 24 * d) S (xs_sI S (53 + 24 * d) 6 0) := ag_sI fun q hq => hq
  refine relOneDT h hNM hd (fun _ _ => rfl) (ag_sI pD_53) (agT_ne agR (by decide)) (agG_ne agR (by decide)) (agA_ne agR (by decide)) (fun e he hed => ?_) (fun e he => agK_ne agR (by decide)) ?_
  · refine ⟨fun q h1 h2 => ?_, fun j _ => by rw [eR 236 (by decide)], by rw [eR 234 (by decide)], fun j _ => rfl, ⟨fun j _ => by rw [eR 209 (by decide)], by rw [eR 210 (by decide)], by rw [eR 211 (by decide)]⟩, fun j _ => by rw [eR 207 (by decide)]⟩
    by_cases hq : q = 212
    · subst hq
      exact x_fN hed
    · rw [eR q hq]
  · refine ⟨by rw [eS 0 (by decide)]; exact h0, ⟨0, nc, gs, cu, w, sa, ts, cf, ⟨x_fI, x_fI, by decide⟩, ⟨by rw [eS 7 (by decide)]; exact b1, by rw [eR 216 (by decide)]; exact b2, by omega⟩, ⟨by rw [eS 8 (by decide)]; exact c1, by rw [eR 217 (by decide)]; exact c2, c3⟩, ⟨by rw [eS 9 (by decide)]; exact d1, by rw [eR 219 (by decide)]; exact d2, Nat.le_trans d3 (Nat.mul_le_mul_left _ hNM)⟩, ⟨by rw [eS 11 (by decide)]; exact w1, by rw [eR 213 (by decide)]; exact w2, w3⟩, ⟨by rw [eS 12 (by decide)]; exact f1, by rw [eR 214 (by decide)]; exact f2, f3⟩, ⟨by rw [eS 13 (by decide)]; exact g1, by rw [eR 215 (by decide)]; exact g2, g3⟩, ⟨by rw [eS 14 (by decide)]; exact i1, i2⟩, fun hh => absurd hh (by rw [ew]; decide), ⟨n, b, ag_cf agS (by omega) (by omega) k1, agF_rf ⟨fun j _ => by rw [eR 209 (by decide)], by rw [eR 210 (by decide)], by rw [eR 211 (by decide)]⟩ k2, fun hw => ⟨(k3 hw).1, by rw [x_fP (by omega)]; exact (k3 hw).2.1, by rw [eR 211 (by decide)]; exact (k3 hw).2.2⟩, fun hh => absurd hh (by decide)⟩, fun hh => absurd hh (by decide)⟩, fun j hj => by rw [eS _ (by omega), eR 236 (by decide)]; exact h2 j hj, relI_fr h3 hNM agS (by omega) (by omega) (by rw [eR 234 (by decide)]) (fun j _ => rfl)⟩
theorem st_t {K : Nat → Nat → Nat} {N M tm d : Nat} {td : Nat → Nat} {S R : xs_T} {t : Nat} {v : Int32} (ht : t < 3) (h : RelT K N tm td S R) (hNM : N ≤ M) (hd : d < 3) : RelT K M tm td (xs_sI S (53 + 24 * d) (15 + t) v) (xs_sI R 236 (3 * d + t) v) := by
  obtain ⟨h0, ⟨st, nc, gs, cu, w, sa, ts, cf, ⟨a1, a2, a3⟩, ⟨b1, b2, b3⟩, ⟨c1, c2, c3⟩, ⟨d1, d2, d3⟩, ⟨w1, w2, w3⟩, ⟨f1, f2, f3⟩, ⟨g1, g2, g3⟩, ⟨i1, i2⟩, j1, ⟨n, b, k1, k2, k3, k4⟩, l1⟩, h2, h3⟩ := h.2.2.2.1 d hd
  have eS : ∀ j, j ≠ (15 + t) → (xs_sI S (53 + 24 * d) (15 + t) v).1 (53 + 24 * d) j = S.1 (53 + 24 * d) j := fun j hj => x_fN hj
  have eR : ∀ q, q ≠ 236 → (xs_sI R 236 (3 * d + t) v).1 q = R.1 q := fun q hq => x_fP hq
  have agR : xs_eq [236] R (xs_sI R 236 (3 * d + t) v) := e_sI (by decide)
  have agS : xs_ag (fun q => q ≠ 53 + 24 * d) S (xs_sI S (53 + 24 * d) (15 + t) v) := ag_sI fun q hq => hq
  refine relOneDT h hNM hd (fun _ _ => rfl) (ag_sI pD_53) (agT_ne agR (by decide)) (agG_ne agR (by decide)) (agA_ne agR (by decide)) (fun e he hed => ?_) (fun e he => agK_ne agR (by decide)) ?_
  · exact ⟨fun q h1 h2 => by rw [eR q (by omega)], fun j _ => x_fN (by omega), by rw [eR 234 (by decide)], fun j _ => rfl, ⟨fun j _ => by rw [eR 209 (by decide)], by rw [eR 210 (by decide)], by rw [eR 211 (by decide)]⟩, fun j _ => by rw [eR 207 (by decide)]⟩
  · refine ⟨by rw [eS 0 (by omega)]; exact h0, ⟨st, nc, gs, cu, w, sa, ts, cf, ⟨by rw [eS 6 (by omega)]; exact a1, by rw [eR 212 (by decide)]; exact a2, a3⟩, ⟨by rw [eS 7 (by omega)]; exact b1, by rw [eR 216 (by decide)]; exact b2, by omega⟩, ⟨by rw [eS 8 (by omega)]; exact c1, by rw [eR 217 (by decide)]; exact c2, c3⟩, ⟨by rw [eS 9 (by omega)]; exact d1, by rw [eR 219 (by decide)]; exact d2, Nat.le_trans d3 (Nat.mul_le_mul_left _ hNM)⟩, ⟨by rw [eS 11 (by omega)]; exact w1, by rw [eR 213 (by decide)]; exact w2, w3⟩, ⟨by rw [eS 12 (by omega)]; exact f1, by rw [eR 214 (by decide)]; exact f2, f3⟩, ⟨by rw [eS 13 (by omega)]; exact g1, by rw [eR 215 (by decide)]; exact g2, g3⟩, ⟨by rw [eS 14 (by omega)]; exact i1, i2⟩, j1, ⟨n, b, ag_cf agS (by omega) (by omega) k1, agF_rf ⟨fun j _ => by rw [eR 209 (by decide)], by rw [eR 210 (by decide)], by rw [eR 211 (by decide)]⟩ k2, fun hw => ⟨(k3 hw).1, by rw [x_fP (by omega)]; exact (k3 hw).2.1, by rw [eR 211 (by decide)]; exact (k3 hw).2.2⟩, k4⟩, fun hs => ?_⟩, fun j hj => ?_, relI_fr h3 hNM agS (by omega) (by omega) (by rw [eR 234 (by decide)]) (fun j _ => rfl)⟩
    rotate_left
    · by_cases hjt : j = t
      · subst hjt
        exact x_fI.trans x_fI.symm
      · rw [eS _ (by omega)]
        exact (h2 j hj).trans (x_fN (by omega)).symm
    obtain ⟨⟨m, m1, m2⟩, m3, m4⟩ := l1 hs
    exact ⟨⟨m, by rw [eS 10 (by omega)]; exact m1, Nat.le_trans m2 (Nat.mul_le_mul_left _ hNM)⟩, by rw [eS 10 (by omega), eR 220 (by decide)]; exact m3, relS_fr m4 (fun a ha => by rw [eR 218 (by decide)]; exact ha) agS (by omega) (by omega) (by omega) (by omega) (by omega) (fun j _ => by rw [eR 207 (by decide)])⟩
theorem x_iadd {S : xs_T} {k n : Nat} {P : Int64} (hl : xs_ln (k + 1) = 4) (h : S.1 k 1 = nI n) (hn : n < 2 ^ 30) : xf_I_add k P S = some (xs_sI (xs_sL S (k + 1) (n % 4) P) k 1 (nI (n + 1))) := by
  unfold xf_I_add
  rw [show xs_gI S k 1 = nI n from h, x_r4 (by omega), x_wrL (by omega), Option.bind_some, Option.bind_some, show xs_gI (xs_sL S (k + 1) (n % 4) P) k 1 = nI n from h, nI_1]
theorem r_recv {R : xs_T} {l n : Nat} {P : Int64} (hl : l < 6) (h : R.1 234 l = nI n) (hn : n < 2 ^ 30) : xf_R_receive 200 (nI l) P R = some (xs_sI (xs_sL R 235 (4 * l + n % 4) P) 234 l (nI (n + 1))) := by
  unfold xf_R_receive
  rw [x_rd (k := 200 + 34) (show l < 6 from hl), Option.bind_some, show R.1 (200 + 34) l = nI n from h, x_r4 (by omega), show (4 : Int32) * nI l = nI (4 * l) from pk_mul 4 l, nI_add, x_wrL (k := 200 + 35) (show 4 * l + n % 4 < 24 by omega), Option.bind_some, x_rd (k := 200 + 34) (show l < 6 from hl), Option.bind_some, show (xs_sL R (200 + 35) (4 * l + n % 4) P).1 (200 + 34) l = nI n from h, nI_1, x_wr (k := 200 + 34) (show l < 6 from hl), Option.bind_some]
theorem st_in {N M : Nat} {S R : xs_T} {k l n : Nat} {P : Int64} (h : relI N S R k l) (hn : S.1 k 1 = nI n) (hM : n + 1 ≤ M) (hM2 : M < 2 ^ 30) (hN2 : N < 2 ^ 30) : relI M (xs_sI (xs_sL S (k + 1) (n % 4) P) k 1 (nI (n + 1))) (xs_sI (xs_sL R 235 (4 * l + n % 4) P) 234 l (nI (n + 1))) k l := by
  obtain ⟨⟨n', a1, a2, a3⟩, b⟩ := h
  have e : n' = n := (nI_eq (by omega) (by omega)).mp (a1.symm.trans hn)
  subst e
  refine ⟨⟨n' + 1, x_fI, x_fI, hM⟩, fun j hj => ?_⟩
  show (xs_sL S (k + 1) (n' % 4) P).2.1 (k + 1) j = (xs_sL R 235 (4 * l + n' % 4) P).2.1 235 (4 * l + j)
  by_cases hjn : j = n' % 4
  · rw [hjn, x_lF, x_lF]
  · rw [x_lN hjn, x_lN (by omega)]
    exact b j hj
theorem st_inD {K : Nat → Nat → Nat} {N M tm d n : Nat} {td : Nat → Nat} {S R : xs_T} {P : Int64} (h : RelT K N tm td S R) (hNM : N ≤ M) (hd : d < 3) (hn : S.1 (65 + 24 * d) 1 = nI n) (hM : n + 1 ≤ M) (hM2 : M < 2 ^ 30) : RelT K M tm td (xs_sI (xs_sL S (66 + 24 * d) (n % 4) P) (65 + 24 * d) 1 (nI (n + 1))) (xs_sI (xs_sL R 235 (4 * (3 + d) + n % 4) P) 234 (3 + d) (nI (n + 1))) := by
  have hD := h.2.2.2.1 d hd
  have hI := hD.2.2.2
  generalize hS2 : xs_sI (xs_sL S (66 + 24 * d) (n % 4) P) (65 + 24 * d) 1 (nI (n + 1)) = S2
  generalize hR2 : xs_sI (xs_sL R 235 (4 * (3 + d) + n % 4) P) 234 (3 + d) (nI (n + 1)) = R2
  have hI2 : relI M S2 R2 (65 + 24 * d) (3 + d) := by
    have := st_in (k := 65 + 24 * d) (l := 3 + d) (P := P) hI hn hM hM2 (by omega)
    rw [show 65 + 24 * d + 1 = 66 + 24 * d by omega, hS2, hR2] at this
    exact this
  have agS : xs_ag (fun q => q ≠ 65 + 24 * d ∧ q ≠ 66 + 24 * d) S S2 := by
    rw [← hS2]
    exact ag_tr (ag_sL fun q hq => hq.2) (ag_sI fun q hq => hq.1)
  have eR : ∀ q, q ≠ 234 → R2.1 q = R.1 q := fun q hq => by
    rw [← hR2, x_fP hq]
    rfl
  have eL : ∀ q, q ≠ 235 → R2.2.1 q = R.2.1 q := fun q hq => by
    rw [← hR2]
    exact xs_up_ne hq
  have e4 : ∀ l, l ≠ 3 + d → R2.1 234 l = R.1 234 l ∧ ∀ j, j < 4 → R2.2.1 235 (4 * l + j) = R.2.1 235 (4 * l + j) := fun l hl => ⟨by
    rw [← hR2, x_fN hl]
    rfl, fun j hj => by
    rw [← hR2]
    exact x_lN (by omega)⟩
  refine relOneDT h hNM hd (fun _ _ => rfl) (ag_mono agS fun q hq => ⟨fun e => hq.2 (by unfold pD; omega), fun e => hq.2 (by unfold pD; omega)⟩) ⟨eR 201 (by decide), eR 202 (by decide), fun j _ => by rw [eR 207 (by decide)]⟩ ⟨by rw [eR 200 (by decide)], by rw [eR 200 (by decide)]⟩ ⟨by rw [eR 200 (by decide)], by rw [eR 200 (by decide)], fun f _ => ⟨fun j _ => by rw [eR 209 (by decide)], by rw [eR 210 (by decide)], by rw [eR 211 (by decide)]⟩⟩ (fun e he hed => ⟨fun q h1 h2 => by rw [eR q (by omega)], fun j _ => by rw [eR 236 (by decide)], (e4 (3 + e) (by omega)).1, (e4 (3 + e) (by omega)).2, ⟨fun j _ => by rw [eR 209 (by decide)], by rw [eR 210 (by decide)], by rw [eR 211 (by decide)]⟩, fun j _ => by rw [eR 207 (by decide)]⟩) (fun e he => ⟨fun q h1 h2 => by rw [eR q (by omega)], by rw [eR 233 (by decide)], fun j _ => ⟨by rw [eL 231 (by decide)], by rw [eR 232 (by decide)]⟩, (e4 e (by omega)).1, (e4 e (by omega)).2, fun j _ => by rw [eR 207 (by decide)]⟩) ?_
  obtain ⟨h0, hB, h2, h3⟩ := hD
  refine ⟨by rw [(agS (53 + 24 * d) (by omega)).1]; exact h0, ?_, fun j hj => by rw [(agS (53 + 24 * d) (by omega)).1, eR 236 (by decide)]; exact h2 j hj, hI2⟩
  obtain ⟨st, nc, gs, cu, w, sa, ts, cf, ⟨a1, a2, a3⟩, ⟨b1, b2, b3⟩, ⟨c1, c2, c3⟩, ⟨d1, d2, d3⟩, ⟨w1, w2, w3⟩, ⟨f1, f2, f3⟩, ⟨g1, g2, g3⟩, ⟨i1, i2⟩, j1, ⟨n, b, k1, k2, k3, k4⟩, l1⟩ := hB
  have e : S2.1 (53 + 24 * d) = S.1 (53 + 24 * d) := (agS _ (by omega)).1
  refine ⟨st, nc, gs, cu, w, sa, ts, cf, ⟨by rw [e]; exact a1, by rw [eR 212 (by decide)]; exact a2, a3⟩, ⟨by rw [e]; exact b1, by rw [eR 216 (by decide)]; exact b2, by omega⟩, ⟨by rw [e]; exact c1, by rw [eR 217 (by decide)]; exact c2, c3⟩, ⟨by rw [e]; exact d1, by rw [eR 219 (by decide)]; exact d2, Nat.le_trans d3 (Nat.mul_le_mul_left _ hNM)⟩, ⟨by rw [e]; exact w1, by rw [eR 213 (by decide)]; exact w2, w3⟩, ⟨by rw [e]; exact f1, by rw [eR 214 (by decide)]; exact f2, f3⟩, ⟨by rw [e]; exact g1, by rw [eR 215 (by decide)]; exact g2, g3⟩, ⟨by rw [e]; exact i1, i2⟩, j1, ⟨n, b, ag_cf agS (by omega) (by omega) k1, agF_rf ⟨fun j _ => by rw [eR 209 (by decide)], by rw [eR 210 (by decide)], by rw [eR 211 (by decide)]⟩ k2, fun hw => ⟨(k3 hw).1, by rw [(agS (67 + 24 * d) (by omega)).1]; exact (k3 hw).2.1, by rw [eR 211 (by decide)]; exact (k3 hw).2.2⟩, k4⟩, fun hs => ?_⟩
  obtain ⟨⟨m, m1, m2⟩, m3, m4⟩ := l1 hs
  exact ⟨⟨m, by rw [e]; exact m1, Nat.le_trans m2 (Nat.mul_le_mul_left _ hNM)⟩, by rw [e, eR 220 (by decide)]; exact m3, relS_fr m4 (fun a ha => by rw [eR 218 (by decide)]; exact ha) agS (by omega) (by omega) (by omega) (by omega) (by omega) (fun j _ => by rw [eR 207 (by decide)])⟩
