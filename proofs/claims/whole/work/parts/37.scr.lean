/-! places that nothing is read from again: scratch -/
def scC (q : Nat) : Prop := (∃ e, e < 3 ∧ (q = 52 + 24 * e ∨ q = 60 + 24 * e ∨ q = 63 + 24 * e ∨ q = 64 + 24 * e ∨ q = 69 + 24 * e ∨ q = 70 + 24 * e)) ∨ (∃ e, e < 3 ∧ (q = 130 + 16 * e ∨ q = 133 + 16 * e ∨ q = 134 + 16 * e)) ∨ q = 121 ∨ q = 122
def pD (d q : Nat) : Prop := q = 53 + 24 * d ∨ q = 54 + 24 * d ∨ q = 57 + 24 * d ∨ q = 58 + 24 * d ∨ q = 59 + 24 * d ∨ q = 62 + 24 * d ∨ q = 65 + 24 * d ∨ q = 66 + 24 * d ∨ q = 67 + 24 * d ∨ q = 68 + 24 * d
def pK (d q : Nat) : Prop := q = 123 + 16 * d ∨ q = 124 + 16 * d ∨ q = 127 + 16 * d ∨ q = 128 + 16 * d ∨ q = 129 + 16 * d ∨ q = 132 + 16 * d ∨ q = 135 + 16 * d ∨ q = 136 + 16 * d ∨ q = 137 + 16 * d ∨ q = 138 + 16 * d
theorem relD_fr2 {N M tm d : Nat} {S S2 R R2 : xs_T} (h : relD N tm d S R) (hNM : N ≤ M) (htm : tm ≤ tm) (hS : xs_ag (pD d) S S2) (hR : agD d R R2) : relD M tm d S2 R2 := by
  obtain ⟨r1, r2, r3, r4, r5, r6⟩ := hR
  obtain ⟨h0, ⟨st, nc, gs, cu, w, sa, ts, cf, ⟨a1, a2, a3⟩, ⟨b1, b2, b3⟩, ⟨c1, c2, c3⟩, ⟨d1, d2, d3⟩, ⟨e1, e2, e3⟩, ⟨f1, f2, f3⟩, ⟨g1, g2, g3⟩, ⟨i1, i2⟩, j1, ⟨n, b, k1, k2, k3, k4⟩, l1⟩, h2, h3⟩ := h
  have p : ∀ q, pD d q → pD d q := fun _ h => h
  unfold pD at p hS
  have e : S2.1 (53 + 24 * d) = S.1 (53 + 24 * d) := (hS _ (by omega)).1
  have e' : S2.1 (67 + 24 * d) = S.1 (67 + 24 * d) := (hS _ (by omega)).1
  refine ⟨by rw [e]; exact h0, ⟨st, nc, gs, cu, w, sa, ts, cf, ⟨by rw [e]; exact a1, by rw [r1 212 (by omega) (by omega)]; exact a2, a3⟩, ⟨by rw [e]; exact b1, by rw [r1 216 (by omega) (by omega)]; exact b2, by omega⟩, ⟨by rw [e]; exact c1, by rw [r1 217 (by omega) (by omega)]; exact c2, c3⟩, ⟨by rw [e]; exact d1, by rw [r1 219 (by omega) (by omega)]; exact d2, Nat.le_trans d3 (Nat.mul_le_mul_left _ hNM)⟩, ⟨by rw [e]; exact e1, by rw [r1 213 (by omega) (by omega)]; exact e2, e3⟩, ⟨by rw [e]; exact f1, by rw [r1 214 (by omega) (by omega)]; exact f2, by omega⟩, ⟨by rw [e]; exact g1, by rw [r1 215 (by omega) (by omega)]; exact g2, g3⟩, ⟨by rw [e]; exact i1, i2⟩, j1, ⟨n, b, ag_cf hS (by omega) (by omega) k1, agF_rf r5 k2, fun hw => ⟨(k3 hw).1, by rw [e']; exact (k3 hw).2.1, by rw [r5.2.2]; exact (k3 hw).2.2⟩, k4⟩, fun hst => ?_⟩, fun j hj => by rw [e, r2 j hj]; exact h2 j hj, relI_fr h3 hNM hS (by omega) (by omega) r3 r4⟩
  obtain ⟨⟨m, m1, m2⟩, m3, m4⟩ := l1 hst
  exact ⟨⟨m, by rw [e]; exact m1, Nat.le_trans m2 (Nat.mul_le_mul_left _ hNM)⟩, by rw [e, r1 220 (by omega) (by omega)]; exact m3, relS_fr m4 (fun a ha => by rw [r1 218 (by omega) (by omega)]; exact ha) hS (by omega) (by omega) (by omega) (by omega) (by omega) r6⟩
theorem relK_fr2 {N M d : Nat} {S S2 R R2 : xs_T} (h : relK N d S R) (hNM : N ≤ M) (hS : xs_ag (pK d) S S2) (hR : agK d R R2) : relK M d S2 R2 := by
  obtain ⟨r1, r2, r3, r4, r5, r6⟩ := hR
  obtain ⟨h0, ⟨q, ss, sr, gn, gw, du, ak, ck, ⟨a1, a2, a3⟩, ⟨b1, b2, b3⟩, ⟨c1, c2, c3⟩, ⟨d1, d2, d3⟩, ⟨e1, e2, e3⟩, ⟨f1, f2, f3⟩, ⟨g1, g2, g3, g4⟩, ⟨i1, i2, i3, i4⟩, j1, k1, l1⟩, h3⟩ := h
  unfold pK at hS
  have e : S2.1 (123 + 16 * d) = S.1 (123 + 16 * d) := (hS _ (by omega)).1
  refine ⟨by rw [e]; exact h0, ⟨q, ss, sr, gn, gw, du, ak, ck, ⟨by rw [e]; exact a1, by rw [r2]; exact a2, a3⟩, ⟨by rw [e]; exact b1, by rw [r1 221 (by omega) (by omega)]; exact b2, by omega⟩, ⟨by rw [e]; exact c1, by rw [r1 223 (by omega) (by omega)]; exact c2, by omega⟩, ⟨by rw [e]; exact d1, by rw [e, r1 226 (by omega) (by omega)]; exact d2, d3⟩, ⟨by rw [e]; exact e1, by rw [r1 227 (by omega) (by omega)]; exact e2, e3⟩, ⟨by rw [e]; exact f1, by rw [r1 228 (by omega) (by omega)]; exact f2, f3⟩, ⟨by rw [e]; exact g1, g2, g3, fun hd => by rw [r1 229 (by omega) (by omega)]; exact g4 hd⟩, ⟨by rw [e]; exact i1, i2, i3, fun hd => by rw [r1 230 (by omega) (by omega)]; exact i4 hd⟩, j1, fun j hj => ?_, fun hss => ?_⟩, relI_fr h3 hNM hS (by omega) (by omega) r4 r5⟩
  · obtain ⟨x1, x, x2, x3, x4⟩ := k1 j hj
    exact ⟨by rw [(hS (137 + 16 * d) (by omega)).2.1, (r3 j (by omega)).1]; exact x1, x, by rw [(hS (138 + 16 * d) (by omega)).1]; exact x2, by rw [(r3 j (by omega)).2]; exact x3, x4⟩
  · obtain ⟨⟨m, m1, m2⟩, m3, ⟨m', m4, m5, m6⟩, m7⟩ := l1 hss
    exact ⟨⟨m, by rw [e]; exact m1, Nat.le_trans m2 (Nat.mul_le_mul_left _ hNM)⟩, by rw [e, r1 224 (by omega) (by omega)]; exact m3, ⟨m', by rw [e]; exact m4, by rw [r1 225 (by omega) (by omega)]; exact m5, Nat.le_trans m6 (Nat.mul_le_mul_left _ hNM)⟩, relS_fr m7 (fun a ha => by rw [r1 222 (by omega) (by omega)]; exact ha) hS (by omega) (by omega) (by omega) (by omega) (by omega) r6⟩
theorem pD_sc {d q : Nat} (hd : d < 3) (h : pD d q) : ¬ scC q := by
  unfold pD at h
  unfold scC
  rintro (⟨e, he, h1⟩ | ⟨e, he, h1⟩ | h1 | h1) <;> omega
theorem pK_sc {d q : Nat} (hd : d < 3) (h : pK d q) : ¬ scC q := by
  unfold pK at h
  unfold scC
  rintro (⟨e, he, h1⟩ | ⟨e, he, h1⟩ | h1 | h1) <;> omega
/-- the reference has changed in its scratch alone: tables of AES, the row, frame 23 -/
def arS (R T : xs_T) : Prop := xs_eq [203, 204, 205, 206, 208, 209, 210, 211] R T ∧ ∀ f, f < 23 → agF f R T
theorem arS_rf {R : xs_T} : arS R R := ⟨e_rf, fun _ _ => agF_refl⟩
theorem arS_tr {R T U : xs_T} (h1 : arS R T) (h2 : arS T U) : arS R U := ⟨e_tr h1.1 h2.1, fun f hf => agF_tr (h1.2 f hf) (h2.2 f hf)⟩
theorem arS_eq {ps : List Nat} {R T : xs_T} (h : xs_eq ps R T) (h1 : ∀ x ∈ ps, x ∈ [203, 204, 205, 206, 208]) : arS R T := ⟨e_mono h fun x hx => by have := h1 x hx; simp at this ⊢; omega, fun f _ => ⟨fun j _ => by rw [h.1 209 (fun hx => by have := h1 _ hx; simp at this)], by rw [h.1 210 (fun hx => by have := h1 _ hx; simp at this)], by rw [h.1 211 (fun hx => by have := h1 _ hx; simp at this)]⟩⟩
theorem arS_ef {R T : xs_T} (h : xs_ef 23 R T) : arS R T := ⟨e_mono h.1 (by decide), fun f hf => ⟨fun j hj => h.2.1 _ (by omega), h.2.2 f (by omega), by rw [h.1.1 211 (by decide)]⟩⟩
theorem arS_eh {R T : xs_T} (h : xs_eh 23 R T) : arS R T := ⟨e_mono h.1 (by decide), fun f hf => ⟨fun j hj => h.2.1 _ (by omega), h.2.2 f (by omega), by rw [h.1.1 211 (by decide)]⟩⟩
theorem arS_eg {R T : xs_T} (h : xs_eg 23 R T) : arS R T := ⟨e_mono h.1 (by decide), fun f hf => eg_agF h (by omega)⟩
theorem arS_q {R T : xs_T} (h : arS R T) {q : Nat} (hq : q ∉ [203, 204, 205, 206, 208, 209, 210, 211]) : T.1 q = R.1 q := h.1.1 q hq
theorem arS_T {R T : xs_T} (h : arS R T) : agT R T := ⟨arS_q h (by decide), arS_q h (by decide), fun j _ => by rw [arS_q h (q := 207) (by decide)]⟩
theorem arS_G {R T : xs_T} (h : arS R T) : agG R T := ⟨by rw [arS_q h (q := 200) (by decide)], by rw [arS_q h (q := 200) (by decide)]⟩
theorem arS_A {R T : xs_T} (h : arS R T) : agA R T := ⟨by rw [arS_q h (q := 200) (by decide)], by rw [arS_q h (q := 200) (by decide)], fun f hf => h.2 f (by omega)⟩
theorem arS_D {R T : xs_T} {d : Nat} (hd : d < 3) (h : arS R T) : agD d R T := ⟨fun q h1 h2 => by rw [arS_q h (q := q) (by simp; omega)], fun j _ => by rw [arS_q h (q := 236) (by decide)], by rw [arS_q h (q := 234) (by decide)], fun j _ => by rw [h.1.2], h.2 _ (by omega), fun j _ => by rw [arS_q h (q := 207) (by decide)]⟩
theorem arS_K {R T : xs_T} {d : Nat} (h : arS R T) : agK d R T := ⟨fun q h1 h2 => by rw [arS_q h (q := q) (by simp; omega)], by rw [arS_q h (q := 233) (by decide)], fun j _ => ⟨by rw [h.1.2], by rw [arS_q h (q := 232) (by decide)]⟩, by rw [arS_q h (q := 234) (by decide)], fun j _ => by rw [h.1.2], fun j _ => by rw [arS_q h (q := 207) (by decide)]⟩
theorem relOneD3 {K : Nat → Nat → Nat} {N M tm d : Nat} {S S2 R R2 : xs_T} (h : Rel K N tm S R) (hNM : N ≤ M) (hd : d < 3) (hS : xs_ag (fun q => ¬ scC q ∧ ¬ pD d q) S S2) (hT : agT R R2) (hG : agG R R2) (hA : agA R R2) (hD : ∀ e, e < 3 → e ≠ d → agD e R R2) (hK : ∀ e, e < 3 → agK e R R2) (hn : relD M tm d S2 R2) : Rel K M tm S2 R2 := by
  refine ⟨relT_fr h.1 (ag_mono hS fun q hq => ?_) hT, relG_fr h.2.1 hNM (ag_mono hS fun q hq => ?_) hG, relA_fr h.2.2.1 hNM (ag_mono hS fun q hq => ?_) hA, fun e he => ?_, fun e he => relK_fr2 (h.2.2.2.2 e he) hNM (ag_mono hS fun q hq => ⟨pK_sc he hq, ?_⟩) (hK e he)⟩
  · obtain ⟨e, he, h1, h2⟩ := hq
    refine ⟨?_, ?_⟩
    · unfold scC
      rintro (⟨e, he, h1⟩ | ⟨e, he, h1⟩ | h1 | h1) <;> omega
    · unfold pD
      omega
  · refine ⟨?_, ?_⟩
    · unfold scC
      rintro (⟨e, he, h1⟩ | ⟨e, he, h1⟩ | h1 | h1) <;> omega
    · unfold pD
      omega
  · refine ⟨?_, ?_⟩
    · unfold scC
      rintro (⟨e, he, h1⟩ | ⟨e, he, h1⟩ | h1 | h1) <;> omega
    · unfold pD
      omega
  · by_cases hed : e = d
    · subst hed
      exact hn
    · exact relD_fr2 (h.2.2.2.1 e he) hNM (Nat.le_refl _) (ag_mono hS fun q hq => ⟨pD_sc he hq, by
        unfold pD at hq ⊢
        omega⟩) (hD e he hed)
  · unfold pK at hq
    unfold pD
    omega
theorem relOneK3 {K : Nat → Nat → Nat} {N M tm d : Nat} {S S2 R R2 : xs_T} (h : Rel K N tm S R) (hNM : N ≤ M) (hd : d < 3) (hS : xs_ag (fun q => ¬ scC q ∧ ¬ pK d q) S S2) (hT : agT R R2) (hG : agG R R2) (hA : agA R R2) (hD : ∀ e, e < 3 → agD e R R2) (hK : ∀ e, e < 3 → e ≠ d → agK e R R2) (hn : relK M d S2 R2) : Rel K M tm S2 R2 := by
  refine ⟨relT_fr h.1 (ag_mono hS fun q hq => ?_) hT, relG_fr h.2.1 hNM (ag_mono hS fun q hq => ?_) hG, relA_fr h.2.2.1 hNM (ag_mono hS fun q hq => ?_) hA, fun e he => relD_fr2 (h.2.2.2.1 e he) hNM (Nat.le_refl _) (ag_mono hS fun q hq => ⟨pD_sc he hq, ?_⟩) (hD e he), fun e he => ?_⟩
  · obtain ⟨e, he, h1, h2⟩ := hq
    refine ⟨?_, ?_⟩
    · unfold scC
      rintro (⟨e, he, h1⟩ | ⟨e, he, h1⟩ | h1 | h1) <;> omega
    · unfold pK
      omega
  · refine ⟨?_, ?_⟩
    · unfold scC
      rintro (⟨e, he, h1⟩ | ⟨e, he, h1⟩ | h1 | h1) <;> omega
    · unfold pK
      omega
  · refine ⟨?_, ?_⟩
    · unfold scC
      rintro (⟨e, he, h1⟩ | ⟨e, he, h1⟩ | h1 | h1) <;> omega
    · unfold pK
      omega
  · unfold pD at hq
    unfold pK
    omega
  · by_cases hed : e = d
    · subst hed
      exact hn
    · exact relK_fr2 (h.2.2.2.2 e he) hNM (ag_mono hS fun q hq => ⟨pK_sc he hq, by
        unfold pK at hq ⊢
        omega⟩) (hK e he hed)
theorem relScr {K : Nat → Nat → Nat} {N M tm : Nat} {S S2 R R2 : xs_T} (h : Rel K N tm S R) (hNM : N ≤ M) (hS : xs_ag (fun q => ¬ scC q) S S2) (hR : arS R R2) : Rel K M tm S2 R2 :=
  relOneD3 (d := 0) h hNM (by decide) (ag_mono hS fun q hq => hq.1) (arS_T hR) (arS_G hR) (arS_A hR) (fun e he _ => arS_D he hR) (fun e he => arS_K hR) (relD_fr2 (h.2.2.2.1 0 (by decide)) hNM (Nat.le_refl _) (ag_mono hS fun q hq => pD_sc (by decide) hq) (arS_D (by decide) hR))
