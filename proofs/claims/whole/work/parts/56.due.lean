/-! one account in a step of time -/
def cdB (B : Nat) (S : xs_T) : Prop := ∀ d, d < 3 → ∀ ss, S.1 (123 + 16 * d) 7 = nI ss → 1 ≤ ss → ss ≤ 600 → ∃ cd, S.1 (123 + 16 * d) 11 = nI cd ∧ cd ≤ B
theorem sim_due {K : Nat → Nat → Nat} {M tm d B s : Nat} {td : Nat → Nat} {S R : xs_T} (h : RelT K M tm td S R) (hM : M ≤ 600) (hd : d < 3) (hs : S.1 1 3 = nI s) (hs2 : s + 1 ≤ 400 * M) (hB : ∃ cd, (∀ ss, S.1 (123 + 16 * d) 7 = nI ss → 1 ≤ ss → ss ≤ 600 → S.1 (123 + 16 * d) 11 = nI cd) ∧ cd ≤ B) (hB2 : B + 1 ≤ 50 * M) :
    ∃ S2 R2, (∀ f, xf_V_sendWhatIsDue_2 119 1 (f + 1) (nI d) S = xf_V_sendWhatIsDue_2 119 1 f (nI (d + 1)) S2) ∧ (∀ n1 c15 f i2, xf_R_tick_32 200 n1 c15 (f + 1) i2 (nI d) R = xf_R_tick_32 200 n1 c15 f i2 (nI (d + 1)) R2) ∧ RelT K M tm td S2 R2 ∧ xs_ag (fun q => 200 ≤ q) S S2 ∧ xs_ag (fun q => q < 200) R R2 ∧ (∃ s2, S2.1 1 3 = nI s2 ∧ s2 ≤ s + 1) ∧ (∀ e, e < 3 → S2.1 (123 + 16 * e) 7 = S.1 (123 + 16 * e) 7) ∧ (∀ e, e < 3 → e ≠ d → S2.1 (123 + 16 * e) 11 = S.1 (123 + 16 * e) 11) ∧ (∀ cd, S.1 (123 + 16 * d) 11 = nI cd → ∃ cd2, S2.1 (123 + 16 * d) 11 = nI cd2 ∧ cd2 ≤ cd + 1) := by
  obtain ⟨h0, ⟨q, ss, sr, gn, gw, du, ak, ck, ⟨a1, a2, a3⟩, ⟨b1, b2, b3⟩, ⟨c1, c2, c3⟩, ⟨d1, d2, d3⟩, ⟨g1, g2, g3⟩, ⟨f1, f2, f3⟩, ⟨k1, k2, k3, k4⟩, ⟨i1, i2, i3, i4⟩, j1, l1, m1⟩, hI⟩ := h.2.2.2.2 d hd
  have er : xs_rdU S (119 + 1) (nI d) xs_cK = some (123 + 16 * d) := q_rdK h.2.1 hd
  have r28 : xs_rd R (200 + 28) (nI d) = some (nI du) := by
    rw [x_rd (k := 200 + 28) (show d < 3 from hd)]
    exact congrArg some f2
  have n3 : ¬ (3 : Int32) ≤ nI d := nI_ge (b := 3) hd (by decide)
  rcases (show du = 0 ∨ du = 1 ∨ du = 2 by omega) with rfl | rfl | rfl
  · -- nothing
    refine ⟨S, xs_sI R 211 23 (nI d), fun f => ?_, fun n1 c15 f x => ?_, relScrT h (Nat.le_refl M) ag_rf ar211, ag_rf, ag_sI fun q hq => by omega, ⟨s, hs, by omega⟩, fun _ _ => rfl, fun _ _ _ => rfl, fun cd hcd => ⟨cd, hcd, by omega⟩⟩
    · have z14 : S.1 (123 + 16 * d) 14 = 0 := by
        rw [k1, k3 (by decide)]
        rfl
      have z15 : S.1 (123 + 16 * d) 15 = 0 := by
        rw [i1, i3 (by decide)]
        rfl
      rw [xf_V_sendWhatIsDue_2, if_neg n3, er, Option.bind_some, show xs_gI S (123 + 16 * d) 13 = nI 0 from f1, if_neg (show ¬ nI 0 = 1 by decide), if_neg (show ¬ nI 0 = 2 by decide)]
      unfold xf_V_sendWhatIsDue_65 xf_K_setDue
      rw [Option.bind_some, x_self (show S.1 (123 + 16 * d) 13 = 0 from f1), z_s0, Option.bind_some, x_self z14, z_s0, Option.bind_some, x_self z15, Option.bind_some, nI_1]
    · rw [xf_R_tick_32, if_neg n3, r28, Option.bind_some, if_neg (show ¬ nI 0 = 1 by decide)]
      unfold xf_R_tick_52 xf_R_tick_67 xf_R_tick_90
      rw [r28, Option.bind_some, if_neg (show ¬ nI 0 = 2 by decide), show xs_wr R (200 + 11) 23 (nI d) = some (xs_sI R 211 23 (nI d)) from x_wr (k := 211) (j := 23) (by decide), Option.bind_some, x_rd (k := 200 + 28) (show d < 3 from hd), Option.bind_some, show (xs_sI R 211 23 (nI d)).1 (200 + 28) d = nI 0 by
        rw [x_fP (by decide)]
        exact f2, if_pos (show nI 0 = 0 from rfl), x_wr (k := 200 + 28) (show d < 3 from hd), Option.bind_some, x_self (show (xs_sI R 211 23 (nI d)).1 (200 + 28) d = 0 by
        rw [x_fP (by decide)]
        exact f2), nI_1]
  · -- an ACCEPT
    have hss := j1 (by decide)
    obtain ⟨⟨m, m2, m3⟩, m4, ⟨cd', m5, m6, m7⟩, ⟨addr, ky1, ky2, m8, ⟨m9, -⟩, -, -⟩⟩ := m1 hss
    obtain ⟨hkey, hmac⟩ := h.1.2 d hd
    obtain ⟨S1, e1, cS1, t1, q1⟩ := x_wacc hd h0 c1 (by omega) m8.1 m8.2.1 hmac
    obtain ⟨R1, er1, cR1, qr1⟩ := r_sacc hd h.1.1 hkey c2 (by omega) m9 m8.2.1
    have sc1 : xs_ag (fun q => ¬ scC q) S S1 := ag_eq q1 fun q hq => by
      intro hm
      simp at hm
      rcases hm with hm | hm | hm
      · exact hq (Or.inr (Or.inr (Or.inl hm)))
      · exact hq (Or.inr (Or.inr (Or.inr hm)))
      · exact hq (Or.inl ⟨d, hd, by omega⟩)
    have h1 : RelT K M tm td S1 R1 := relScrT h (Nat.le_refl M) sc1 (arS_eh qr1)
    obtain ⟨S2, R2, z1, z2, z3, z4, z5, ⟨s', z6, z7⟩, z8⟩ := sim_post h1 hM hd ⟨s, by rw [q1.1 1 (by simp <;> omega)]; exact hs, hs2⟩ cS1 cR1 (by decide) t1 (show R1.1 228 d = nI 1 by rw [qr1.1.1 228 (by decide)]; exact f2) (by decide) (by decide)
    have es : S2.1 1 3 = nI (s + 1) := z7.trans (by rw [← nI_1 s', ← z6, q1.1 1 (by simp <;> omega), hs, nI_1])
    have p1 : ∀ e, e < 3 → S1.1 (123 + 16 * e) = S.1 (123 + 16 * e) := fun e he => q1.1 _ (by simp <;> omega)
    refine ⟨S2, R2, fun f => ?_, fun n1 c15 f x => ?_, z3, ag_tr (ag_eq q1 fun q hq => by simp; omega) z4, ag_tr (ag_eq qr1.1 fun q hq => by simp; omega) z5, ⟨s + 1, es, Nat.le_refl _⟩, fun e he => by rw [z8 e 7 he (by decide), p1 e he], fun e he _ => by rw [z8 e 11 he (by decide), p1 e he], fun cd hcd => ⟨cd, by rw [z8 d 11 hd (by decide), p1 d hd]; exact hcd, by omega⟩⟩
    · rw [xf_V_sendWhatIsDue_2, if_neg n3, er, Option.bind_some, show xs_gI S (123 + 16 * d) 13 = nI 1 from f1, if_pos (show nI 1 = 1 from rfl), show xf_K_writeAccept (123 + 16 * d) (119 + 2) S = _ from e1, Option.bind_some]
      exact z1 _
    · rw [xf_R_tick_32, if_neg n3, r28, Option.bind_some, if_pos (show nI 1 = 1 from rfl), er1, Option.bind_some]
      unfold xf_R_tick_52
      rw [x_rd (k := 200 + 28) (show d < 3 from hd), Option.bind_some, show R1.1 (200 + 28) d = nI 1 by
        rw [qr1.1.1 (200 + 28) (by decide)]
        exact f2, if_neg (show ¬ nI 1 = 2 by decide)]
      exact z2 _ _ _ _
  · -- an answer
    have hss := j1 (by decide)
    obtain ⟨⟨m, m2, m3⟩, m4, ⟨cd', m5, m6, m7⟩, ⟨addr, ky1, ky2, m8, ⟨m9, m10⟩, m11, m12⟩⟩ := m1 hss
    obtain ⟨cdx, hx1, hx2⟩ := hB
    have ecd : cd' = cdx := (nI_eq (by omega) (by omega)).mp (m5.symm.trans (hx1 ss b1 hss (by omega)))
    obtain ⟨S1, R1, n1, b1', w1, w2, w3, w4, w5, w6, w7, w8, w9, w10, w11, w12, w13, w14, w15, w16, w17, w18, w19⟩ := sim_wans hd h0 m8 h.1.1 m11 m12 (by omega) m5 m6 m9 a1 a2 a3 l1 g1 g2 g3 k1 (k4 rfl) k2 i1 (i4 rfl) i2
    have ag1 : xs_ag (fun q => ¬ scC q ∧ ¬ pK d q) S S1 := ag_mono w13 fun q hq => ⟨fun e => hq.1 (Or.inr (Or.inr (Or.inl e))), fun e => hq.1 (Or.inr (Or.inr (Or.inr e))), fun e => hq.1 (Or.inr (Or.inl ⟨d, hd, by omega⟩)), fun e => hq.1 (Or.inr (Or.inl ⟨d, hd, by omega⟩)), fun e => hq.2 (by unfold pK; omega), fun e => hq.2 (by unfold pK; omega), fun e => hq.2 (by unfold pK; omega)⟩
    have h1 : RelT K M tm td S1 R1 := by
      refine relOneKT h (Nat.le_refl M) hd ag1 ⟨w14 201 (by decide), w14 202 (by decide), fun j _ => by rw [w14 207 (by decide)]⟩ ⟨by rw [w14 200 (by decide)], by rw [w14 200 (by decide)]⟩ ⟨by rw [w14 200 (by decide)], by rw [w14 200 (by decide)], fun f hf => w19 f (by omega)⟩ (fun e he => ⟨fun q h1 h2 => by rw [w14 q (by simp; omega)], fun j _ => by rw [w14 236 (by decide)], by rw [w14 234 (by decide)], fun j _ => by rw [w15 235 (by decide)], w19 _ (by omega), fun j _ => by rw [w14 207 (by decide)]⟩) (fun e he hed => ⟨fun q h1 h2 => ?_, (w17 e hed).2, fun j hj => ⟨(w18 _ (by omega)).1, (w18 _ (by omega)).2⟩, by rw [w14 234 (by decide)], fun j _ => by rw [w15 235 (by decide)], fun j _ => by rw [w14 207 (by decide)]⟩) ⟨by rw [w12 0 (by decide) (by decide)]; exact h0, ⟨q - 1, ss, sr, gn, gw, 2, ak, ck, ⟨w9, w10, by omega⟩, ⟨by rw [w12 7 (by decide) (by decide)]; exact b1, by rw [w14 221 (by decide)]; exact b2, b3⟩, ⟨by rw [w12 8 (by decide) (by decide)]; exact c1, by rw [w14 223 (by decide)]; exact c2, c3⟩, ⟨by rw [w12 9 (by decide) (by decide)]; exact d1, by rw [w12 9 (by decide) (by decide), w14 226 (by decide)]; exact d2, d3⟩, ⟨by rw [w12 12 (by decide) (by decide)]; exact g1, by rw [w14 227 (by decide)]; exact g2, g3⟩, ⟨by rw [w12 13 (by decide) (by decide)]; exact f1, by rw [w14 228 (by decide)]; exact f2, f3⟩, ⟨by rw [w12 14 (by decide) (by decide)]; exact k1, k2, k3, fun hh => by rw [w14 229 (by decide)]; exact k4 hh⟩, ⟨by rw [w12 15 (by decide) (by decide)]; exact i1, i2, i3, fun hh => by rw [w14 230 (by decide)]; exact i4 hh⟩, j1, w11, fun _ => ⟨⟨m, by rw [w12 10 (by decide) (by decide)]; exact m2, m3⟩, by rw [w12 10 (by decide) (by decide), w14 224 (by decide)]; exact m4, ⟨cd' + 1, w7, w8, by omega⟩, ⟨addr, ky1, ky2, ag_ses w13 (by omega) (by omega) (by omega) (by omega) (by omega) m8, ⟨by rw [w14 222 (by decide)]; exact m9, m10⟩, fun i hi => by rw [w14 207 (by decide)]; exact m11 i hi, fun i hi => by rw [w14 207 (by decide)]; exact m12 i hi⟩⟩⟩, relI_fr hI (Nat.le_refl M) w13 (by omega) (by omega) (by rw [w14 234 (by decide)]) (fun j _ => by rw [w15 235 (by decide)])⟩
      by_cases h25 : q = 225
      · rw [h25]
        exact (w17 e hed).1
      · rw [w14 q (by simp; omega)]
    obtain ⟨S2, R2, z1, z2, z3, z4, z5, ⟨s', z6, z7⟩, z8⟩ := sim_post h1 hM hd ⟨s, by rw [(w13 1 (by omega)).1]; exact hs, hs2⟩ w3 w4 w5 w6 (show R1.1 228 d = nI 2 by rw [w14 228 (by decide)]; exact f2) (by decide) (by decide)
    have es : S2.1 1 3 = nI (s + 1) := z7.trans (by rw [← nI_1 s', ← z6, (w13 1 (by omega)).1, hs, nI_1])
    refine ⟨S2, R2, fun f => ?_, fun n1 c15 f x => ?_, z3, ag_tr (ag_mono w13 fun q hq => by omega) z4, ag_tr (fun p hp => ⟨w14 p (by simp; omega), w15 p (by omega), by rw [w16]⟩) z5, ⟨s + 1, es, Nat.le_refl _⟩, fun e he => ?_, fun e he hed => ?_, fun cd hcd => ⟨cd + 1, ?_, Nat.le_refl _⟩⟩
    · rw [xf_V_sendWhatIsDue_2, if_neg n3, er, Option.bind_some, show xs_gI S (123 + 16 * d) 13 = nI 2 from f1, if_neg (show ¬ nI 2 = 1 by decide), if_pos (show nI 2 = 2 from rfl), show xf_K_writeAnswer (123 + 16 * d) (119 + 2) S = _ from w1, Option.bind_some]
      exact z1 _
    · rw [xf_R_tick_32, if_neg n3, r28, Option.bind_some, if_neg (show ¬ nI 2 = 1 by decide)]
      unfold xf_R_tick_52
      rw [r28, Option.bind_some, if_pos (show nI 2 = 2 from rfl), w2, Option.bind_some]
      exact z2 _ _ _ _
    · rw [z8 e 7 he (by decide)]
      by_cases hed : e = d
      · subst hed
        exact w12 7 (by decide) (by decide)
      · rw [(w13 _ (by omega)).1]
    · rw [z8 e 11 he (by decide), (w13 _ (by omega)).1]
    · rw [z8 d 11 hd (by decide), w7, ← nI_1 cd', ← m5, hcd, nI_1]
