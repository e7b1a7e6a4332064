/-! steps of an account -/
theorem kaG {K : Nat → Nat → Nat} {N M tm d gw du ak ck ss0 : Nat} {td : Nat → Nat} {S S2 R R2 : xs_T} (h : RelT K N tm td S R) (hNM : N ≤ M) (hd : d < 3) (qS : xs_eq [123 + 16 * d] S S2) (fS : ∀ j, j < 10 ∨ j = 11 → S2.1 (123 + 16 * d) j = S.1 (123 + 16 * d) j) (qR : xs_eq [224, 227, 228, 229, 230] R R2) (oR : ∀ q e, e ≠ d → 224 ≤ q → q ≤ 230 → R2.1 q e = R.1 q e)
    (s10 : R2.1 224 d = S2.1 (123 + 16 * d) 10) (hc : ∃ m, S2.1 (123 + 16 * d) 10 + 1 = nI m ∧ m ≤ 65536 * M) (s12 : S2.1 (123 + 16 * d) 12 = nI gw) (r27 : R2.1 227 d = nI gw) (hgw : gw ≤ 3) (s13 : S2.1 (123 + 16 * d) 13 = nI du) (r28 : R2.1 228 d = nI du) (hdu : du ≤ 2) (s14 : S2.1 (123 + 16 * d) 14 = nI ak) (hak : ak ≤ 1) (ha0 : du ≠ 2 → ak = 0) (ha2 : du = 2 → R2.1 229 d = nI ak) (s15 : S2.1 (123 + 16 * d) 15 = nI ck) (hck : ck ≤ 1) (hc0 : du ≠ 2 → ck = 0) (hc2 : du = 2 → R2.1 230 d = nI ck) (h7 : S.1 (123 + 16 * d) 7 = nI ss0) (hss : 1 ≤ ss0) (hss2 : ss0 ≤ N) (hN2 : N < 2 ^ 30) : RelT K M tm td S2 R2 := by
  obtain ⟨h0, ⟨q, ss, sr, gn, gw', du', ak', ck', ⟨a1, a2, a3⟩, ⟨b1, b2, b3⟩, ⟨c1, c2, c3⟩, ⟨d1, d2, d3⟩, -, -, -, -, -, l1, m1⟩, h3⟩ := h.2.2.2.2 d hd
  have ess : ss = ss0 := (nI_eq (by omega) (by omega)).mp (b1.symm.trans h7)
  subst ess
  obtain ⟨⟨m, m2, m3⟩, m4, ⟨m', m5, m6, m7⟩, m8⟩ := m1 hss
  have rq := qR.1
  have r2 := qR.2
  have aF : ∀ f, agF f R R2 := fun f => ⟨fun j _ => by rw [rq 209 (by decide)], by rw [rq 210 (by decide)], by rw [rq 211 (by decide)]⟩
  have agS : xs_ag (fun q => q ≠ 123 + 16 * d) S S2 := ag_eq qS fun q hq => by simp; exact hq
  have o2 : ∀ q e, e ≠ d → 221 ≤ q → q ≤ 230 → R2.1 q e = R.1 q e := fun q e he h1 h2 => by
    by_cases hq : q ∈ [224, 227, 228, 229, 230]
    · exact oR q e he (by simp at hq; omega) h2
    · rw [rq q hq]
  refine relOneKT h hNM hd (ag_mono agS fun q hq e => hq.2 (Or.inl e)) ⟨rq 201 (by decide), rq 202 (by decide), fun j _ => by rw [rq 207 (by decide)]⟩ ⟨by rw [rq 200 (by decide)], by rw [rq 200 (by decide)]⟩ ⟨by rw [rq 200 (by decide)], by rw [rq 200 (by decide)], fun f _ => aF f⟩ (fun e he => ⟨fun q h1 h2 => by rw [rq q (by simp; omega)], fun j _ => by rw [rq 236 (by decide)], by rw [rq 234 (by decide)], fun j _ => by rw [r2], aF _, fun j _ => by rw [rq 207 (by decide)]⟩) (fun e he hed => ⟨fun q h1 h2 => o2 q e hed h1 h2, by rw [rq 233 (by decide)], fun j _ => ⟨by rw [r2], by rw [rq 232 (by decide)]⟩, by rw [rq 234 (by decide)], fun j _ => by rw [r2], fun j _ => by rw [rq 207 (by decide)]⟩) ?_
  refine ⟨by rw [fS 0 (by omega)]; exact h0, ⟨q, ss, sr, gn, gw, du, ak, ck, ⟨by rw [fS 6 (by omega)]; exact a1, by rw [rq 233 (by decide)]; exact a2, a3⟩, ⟨by rw [fS 7 (by omega)]; exact b1, by rw [rq 221 (by decide)]; exact b2, by omega⟩, ⟨by rw [fS 8 (by omega)]; exact c1, by rw [rq 223 (by decide)]; exact c2, by omega⟩, ⟨by rw [fS 9 (by omega)]; exact d1, by rw [fS 9 (by omega), rq 226 (by decide)]; exact d2, d3⟩, ⟨s12, r27, hgw⟩, ⟨s13, r28, hdu⟩, ⟨s14, hak, ha0, ha2⟩, ⟨s15, hck, hc0, hc2⟩, fun _ => hss, fun j hj => ?_, fun _ => ⟨hc, s10, ⟨m', by rw [fS 11 (by omega)]; exact m5, by rw [rq 225 (by decide)]; exact m6, Nat.le_trans m7 (Nat.mul_le_mul_left _ hNM)⟩, relS_fr m8 (fun a ha => by rw [rq 222 (by decide)]; exact ha) agS (by omega) (by omega) (by omega) (by omega) (by omega) (fun j _ => by rw [rq 207 (by decide)])⟩⟩, relI_fr h3 hNM agS (by omega) (by omega) (by rw [rq 234 (by decide)]) (fun j _ => by rw [r2])⟩
  obtain ⟨x1, x, x2, x3, x4⟩ := l1 j hj
  exact ⟨by rw [qS.2, r2]; exact x1, x, by rw [qS.1 _ (by simp <;> omega)]; exact x2, by rw [rq 232 (by decide)]; exact x3, x4⟩
theorem st_inK {K : Nat → Nat → Nat} {N M tm d n : Nat} {td : Nat → Nat} {S R : xs_T} {P : Int64} (h : RelT K N tm td S R) (hNM : N ≤ M) (hd : d < 3) (hn : S.1 (135 + 16 * d) 1 = nI n) (hM : n + 1 ≤ M) (hM2 : M < 2 ^ 30) : RelT K M tm td (xs_sI (xs_sL S (136 + 16 * d) (n % 4) P) (135 + 16 * d) 1 (nI (n + 1))) (xs_sI (xs_sL R 235 (4 * d + n % 4) P) 234 d (nI (n + 1))) := by
  have hD := h.2.2.2.2 d hd
  have hI := hD.2.2
  generalize hS2 : xs_sI (xs_sL S (136 + 16 * d) (n % 4) P) (135 + 16 * d) 1 (nI (n + 1)) = S2
  generalize hR2 : xs_sI (xs_sL R 235 (4 * d + n % 4) P) 234 d (nI (n + 1)) = R2
  have hI2 : relI M S2 R2 (135 + 16 * d) d := by
    have := st_in (k := 135 + 16 * d) (l := d) (P := P) hI hn hM hM2 (by omega)
    rw [show 135 + 16 * d + 1 = 136 + 16 * d by omega, hS2, hR2] at this
    exact this
  have agS : xs_ag (fun q => q ≠ 135 + 16 * d ∧ q ≠ 136 + 16 * d) S S2 := by
    rw [← hS2]
    exact ag_tr (ag_sL fun q hq => hq.2) (ag_sI fun q hq => hq.1)
  have eR : ∀ q, q ≠ 234 → R2.1 q = R.1 q := fun q hq => by
    rw [← hR2, x_fP hq]
    rfl
  have eL : ∀ q, q ≠ 235 → R2.2.1 q = R.2.1 q := fun q hq => by
    rw [← hR2]
    exact xs_up_ne hq
  have e4 : ∀ l, l ≠ d → R2.1 234 l = R.1 234 l ∧ ∀ j, j < 4 → R2.2.1 235 (4 * l + j) = R.2.1 235 (4 * l + j) := fun l hl => ⟨by
    rw [← hR2, x_fN hl]
    rfl, fun j hj => by
    rw [← hR2]
    exact x_lN (by omega)⟩
  refine relOneKT h hNM hd (ag_mono agS fun q hq => ⟨fun e => hq.2 (by unfold pK; omega), fun e => hq.2 (by unfold pK; omega)⟩) ⟨eR 201 (by decide), eR 202 (by decide), fun j _ => by rw [eR 207 (by decide)]⟩ ⟨by rw [eR 200 (by decide)], by rw [eR 200 (by decide)]⟩ ⟨by rw [eR 200 (by decide)], by rw [eR 200 (by decide)], fun f _ => ⟨fun j _ => by rw [eR 209 (by decide)], by rw [eR 210 (by decide)], by rw [eR 211 (by decide)]⟩⟩ (fun e he => ⟨fun q h1 h2 => by rw [eR q (by omega)], fun j _ => by rw [eR 236 (by decide)], (e4 (3 + e) (by omega)).1, (e4 (3 + e) (by omega)).2, ⟨fun j _ => by rw [eR 209 (by decide)], by rw [eR 210 (by decide)], by rw [eR 211 (by decide)]⟩, fun j _ => by rw [eR 207 (by decide)]⟩) (fun e he hed => ⟨fun q h1 h2 => by rw [eR q (by omega)], by rw [eR 233 (by decide)], fun j _ => ⟨by rw [eL 231 (by decide)], by rw [eR 232 (by decide)]⟩, (e4 e hed).1, (e4 e hed).2, fun j _ => by rw [eR 207 (by decide)]⟩) ?_
  obtain ⟨h0, ⟨q, ss, sr, gn, gw, du, ak, ck, ⟨a1, a2, a3⟩, ⟨b1, b2, b3⟩, ⟨c1, c2, c3⟩, ⟨d1, d2, d3⟩, ⟨g1, g2, g3⟩, ⟨f1, f2, f3⟩, ⟨k1, k2, k3, k4⟩, ⟨i1, i2, i3, i4⟩, j1, l1, m1⟩, h3⟩ := hD
  have e : S2.1 (123 + 16 * d) = S.1 (123 + 16 * d) := (agS _ (by omega)).1
  refine ⟨by rw [e]; exact h0, ⟨q, ss, sr, gn, gw, du, ak, ck, ⟨by rw [e]; exact a1, by rw [eR 233 (by decide)]; exact a2, a3⟩, ⟨by rw [e]; exact b1, by rw [eR 221 (by decide)]; exact b2, by omega⟩, ⟨by rw [e]; exact c1, by rw [eR 223 (by decide)]; exact c2, by omega⟩, ⟨by rw [e]; exact d1, by rw [e, eR 226 (by decide)]; exact d2, d3⟩, ⟨by rw [e]; exact g1, by rw [eR 227 (by decide)]; exact g2, g3⟩, ⟨by rw [e]; exact f1, by rw [eR 228 (by decide)]; exact f2, f3⟩, ⟨by rw [e]; exact k1, k2, k3, fun hd => by rw [eR 229 (by decide)]; exact k4 hd⟩, ⟨by rw [e]; exact i1, i2, i3, fun hd => by rw [eR 230 (by decide)]; exact i4 hd⟩, j1, fun j hj => ?_, fun hss => ?_⟩, hI2⟩
  · obtain ⟨x1, x, x2, x3, x4⟩ := l1 j hj
    exact ⟨by rw [(agS (137 + 16 * d) (by omega)).2.1, eL 231 (by decide)]; exact x1, x, by rw [(agS (138 + 16 * d) (by omega)).1]; exact x2, by rw [eR 232 (by decide)]; exact x3, x4⟩
  · obtain ⟨⟨m, m1, m2⟩, m3, ⟨m', m4, m5, m6⟩, m7⟩ := m1 hss
    exact ⟨⟨m, by rw [e]; exact m1, Nat.le_trans m2 (Nat.mul_le_mul_left _ hNM)⟩, by rw [e, eR 224 (by decide)]; exact m3, ⟨m', by rw [e]; exact m4, by rw [eR 225 (by decide)]; exact m5, Nat.le_trans m6 (Nat.mul_le_mul_left _ hNM)⟩, relS_fr m7 (fun a ha => by rw [eR 222 (by decide)]; exact ha) agS (by omega) (by omega) (by omega) (by omega) (by omega) (fun j _ => by rw [eR 207 (by decide)])⟩
/-- the count of a frame up -/
theorem sim_count2 {v : Int32} {m e N : Nat} (hv : v + 1 = nI m) (hm : m ≤ 65536 * N) (hN : N ≤ 600) (he : e < 65536) : ∃ c, c + 1 ≤ 65536 * (N + 1) ∧ xf_W_countFrom (xs_max v 0) (nI e) = some (nI c) ∧ ((0 ≤ v ∧ xf_R_ending (nI e) v = some (nI c)) ∨ (¬ 0 ≤ v ∧ c = e)) := by
  have ev : v = nI m - 1 := by rw [← hv, Int32.add_sub_cancel]
  by_cases h0 : m = 0
  · subst h0
    refine ⟨e, by omega, ?_, Or.inr ⟨by rw [ev]; decide, rfl⟩⟩
    rw [show xs_max v 0 = nI 0 by rw [ev]; decide]
    obtain ⟨c, h1, h2, h3, h4⟩ := sim_count (m := 0) (e := e) (by decide) he
    rw [h3]
    unfold xf_R_ending at h4
    rw [show xs_rem (nI 0) 65536 = nI 0 by decide, show nI 0 - nI 0 = nI 0 by decide, nI_add, Option.bind_some, Nat.zero_add, if_pos (show nI 0 ≤ nI e from nI_le (Nat.zero_le _) (by omega))] at h4
    exact h4.symm
  · have e1 : v = nI (m - 1) := by
      rw [ev]
      exact pk_sub (b := 1) (by omega)
    obtain ⟨c, h1, h2, h3, h4⟩ := sim_count (m := m - 1) (e := e) (by omega) he
    have ge : (0 : Int32) ≤ v := by
      rw [e1]
      exact nI_le (a := 0) (Nat.zero_le _) (by omega)
    refine ⟨c, by omega, ?_, Or.inl ⟨ge, by rw [e1]; exact h4⟩⟩
    rw [show xs_max v 0 = nI (m - 1) by
      unfold xs_max
      rw [if_neg (Int32.not_lt.mpr ge)]
      exact e1, h3]
