theorem sim_send {K : Nat → Nat → Nat} {N tm : Nat} {S R : xs_T} (h : Rel K N tm S R) (hN : N ≤ 512) (x : Int32) (Q : Int64) (y u v : Int32) (hu : u = 0 ∨ u = 1) (hv : v = 0 ∨ v = 1) : Sim K N tm S R (xf_W_send 0 x Q y u v S) (xf_R_send 200 x Q y u v R) := by
  rcases q_dev x with ⟨e1, e2⟩ | ⟨d, hd, rfl, e1, e2⟩
  · exact sim_no (v := -1) h (by unfold xf_W_send; rw [e1, Option.bind_some, if_pos rfl]) (by unfold xf_R_send; rw [e2, Option.bind_some, if_pos rfl])
  obtain ⟨h0, ⟨st, nc, gs, cu, w, sa, ts, cf, ⟨a1, a2, a3⟩, ⟨b1, b2, b3⟩, ⟨c1, c2, c3⟩, ⟨d1, d2, d3⟩, ⟨w1, w2, w3⟩, ⟨f1, f2, f3⟩, ⟨g1, g2, g3⟩, ⟨i1, i2⟩, j1, ⟨n, b, k1, k2, k3, k4⟩, l1⟩, h2, h3⟩ := h.2.2.2.1 d hd
  have ed := q_rdD h.2.1 hd
  have fr : xf_D_isFree (53 + 24 * d) S = some (if st = 2 ∧ w = 0 then 1 else 0) := q_free a1 a3 w1 w3
  have r12 : xs_rd R (200 + 12) (nI d) = some (nI st) := by
    rw [x_rd (k := 200 + 12) (show d < 3 from hd)]
    exact congrArg some a2
  have r13 : xs_rd R (200 + 13) (nI d) = some (nI w) := by
    rw [x_rd (k := 200 + 13) (show d < 3 from hd)]
    exact congrArg some w2
  by_cases hst : st = 2
  rotate_left
  · exact sim_no (v := -1) h (by unfold xf_W_send; rw [e1, Option.bind_some, if_neg i10, ed, Option.bind_some, fr, Option.bind_some, if_neg (show ¬ (st = 2 ∧ w = 0) from fun hh => hst hh.1), if_pos rfl]) (by unfold xf_R_send; rw [e2, Option.bind_some, if_neg i10, r12, Option.bind_some, if_neg (show ¬ nI st = 2 from fun e => hst ((nI_eq (b := 2) (by omega) (by decide)).mp e))])
  by_cases hw : w = 0
  rotate_left
  · exact sim_no (v := -1) h (by unfold xf_W_send; rw [e1, Option.bind_some, if_neg i10, ed, Option.bind_some, fr, Option.bind_some, if_neg (show ¬ (st = 2 ∧ w = 0) from fun hh => hw hh.2), if_pos rfl]) (by unfold xf_R_send; rw [e2, Option.bind_some, if_neg i10, r12, Option.bind_some, if_pos (show nI st = 2 by rw [hst]; rfl), r13, Option.bind_some, if_neg (show ¬ nI w = 0 from nI_ne0 (by omega) (by omega))])
  subst hst hw
  rw [if_pos (show (2 = 2 ∧ 0 = 0) from ⟨rfl, rfl⟩)] at fr
  have hc0 : ∀ z, xf_W_send 0 (nI d) Q y u v S = z ↔ (if y < 0 then some (-1, S) else if y ≤ 8 then (xs_rdU S (0 + 44) (nI d) xs_cD).bind fun u8 => (xs_rdU S (0 + 44) (nI d) xs_cD).bind fun u9 => (xf_D_writeData u9 Q y u v S).bind fun q10 => (xs_rdU q10 (0 + 44) (nI d) xs_cD).bind fun u11 => (xf_D_transmit u11 (0 + 1) (xs_gI q10 0 3) q10).bind fun q12 => some (xs_gI S u8 9, q12) else some (-1, S)) = z := fun z => by
    unfold xf_W_send
    rw [e1, Option.bind_some, if_neg i10, ed, Option.bind_some, fr, Option.bind_some, if_neg i10]
  have hr0 : ∀ z, xf_R_send 200 (nI d) Q y u v R = z ↔ (if y < 0 then some (-1, R) else if y ≤ 8 then (xs_rd R (200 + 19) (nI d)).bind fun v9 => if u = 0 then xf_R_send_71 200 (nI d) Q y u v (20 + nI d) v9 (20 + nI d) 64 R else xf_R_send_71 200 (nI d) Q y u v (20 + nI d) v9 (20 + nI d) 128 R else some (-1, R)) = z := fun z => by
    unfold xf_R_send
    rw [e2, Option.bind_some, if_neg i10, r12, Option.bind_some, if_pos (show nI 2 = 2 from rfl), r13, Option.bind_some, if_pos (show nI 0 = 0 from rfl)]
  by_cases hy1 : y < 0
  · exact sim_no (v := -1) h ((hc0 _).mpr (by rw [if_pos hy1])) ((hr0 _).mpr (by rw [if_pos hy1]))
  by_cases hy2 : y ≤ 8
  rotate_left
  · exact sim_no (v := -1) h ((hc0 _).mpr (by rw [if_neg hy1, if_neg hy2])) ((hr0 _).mpr (by rw [if_neg hy1, if_neg hy2]))
  obtain ⟨pl, -, hpl, rfl⟩ := n_cs y 0 8 (by decide) (by decide) hy1 hy2
  obtain ⟨P, hP, rfl⟩ := wb_of Q
  obtain ⟨c, hc, rfl⟩ : ∃ c, c ≤ 1 ∧ u = nI c := by
    rcases hu with rfl | rfl
    · exact ⟨0, by decide, rfl⟩
    · exact ⟨1, by decide, rfl⟩
  obtain ⟨ck, hck, rfl⟩ : ∃ c, c ≤ 1 ∧ v = nI c := by
    rcases hv with rfl | rfl
    · exact ⟨0, by decide, rfl⟩
    · exact ⟨1, by decide, rfl⟩
  obtain ⟨⟨m, m1, m2⟩, m3, ⟨addr, ky1, ky2, m4, m5, m6, m7⟩⟩ := l1 rfl
  obtain ⟨S1, R1, n1, bb, es1, er1, cS, cR, hn1, hbb, tS, s9, s13, s14, sj, qS, r19, r15, qR, uR, aR⟩ := sim_data hd hc hck m4 h.1.1 m6 m7 (show cu < 2 ^ 31 by omega) d1 m5 d2 hP hpl
  have agS : xs_ag (fun q => q ≠ 53 + 24 * d ∧ q ≠ 67 + 24 * d ∧ q ≠ 68 + 24 * d ∧ q ≠ 60 + 24 * d ∧ q ≠ 63 + 24 * d) S S1 := ag_eq qS fun q hq => by simp; omega
  have rq : ∀ q, q ∉ [203, 204, 205, 206, 208, 209, 210, 215, 219] → R1.1 q = R.1 q := qR.1
  have r2 : R1.2 = R.2 := qR.2
  have hrel : Rel K (N + 1) tm S1 R1 := by
    refine relOneD2 h (Nat.le_succ N) hd (ag_mono agS fun q hq => by omega) ⟨rq 201 (by decide), rq 202 (by decide), fun j _ => by rw [rq 207 (by decide)]⟩ ⟨by rw [rq 200 (by decide)], by rw [rq 200 (by decide)]⟩ ⟨by rw [rq 200 (by decide)], by rw [rq 200 (by decide)], fun f hf => aR f (by omega)⟩ (fun e he hed => ⟨fun q h1 h2 => ?_, fun j _ => by rw [rq 236 (by decide)], by rw [rq 234 (by decide)], fun j _ => by rw [r2], aR (20 + e) (by omega), fun j _ => by rw [rq 207 (by decide)]⟩) (fun e he => ⟨fun q h1 h2 => by rw [rq q (by simp; omega)], by rw [rq 233 (by decide)], fun j _ => ⟨by rw [r2], by rw [rq 232 (by decide)]⟩, by rw [rq 234 (by decide)], fun j _ => by rw [r2], fun j _ => by rw [rq 207 (by decide)]⟩) ?_
    · by_cases h15 : q = 215
      · rw [h15]
        exact (uR e hed).1
      by_cases h19 : q = 219
      · rw [h19]
        exact (uR e hed).2
      rw [rq q (by simp; omega)]
    · refine ⟨by rw [sj 0 (by decide) (by decide) (by decide)]; exact h0, ⟨2, nc, gs, cu + 1, 0, sa, 0, c, ⟨by rw [sj 6 (by decide) (by decide) (by decide)]; exact a1, by rw [rq 212 (by decide)]; exact a2, by decide⟩, ⟨by rw [sj 7 (by decide) (by decide) (by decide)]; exact b1, by rw [rq 216 (by decide)]; exact b2, by omega⟩, ⟨by rw [sj 8 (by decide) (by decide) (by decide)]; exact c1, by rw [rq 217 (by decide)]; exact c2, c3⟩, ⟨s9, r19, by omega⟩, ⟨by rw [sj 11 (by decide) (by decide) (by decide)]; exact w1, by rw [rq 213 (by decide)]; exact w2, by decide⟩, ⟨by rw [sj 12 (by decide) (by decide) (by decide)]; exact f1, by rw [rq 214 (by decide)]; exact f2, f3⟩, ⟨s13, r15, by decide⟩, ⟨s14, hc⟩, fun hh => absurd hh (by decide), ⟨n1, bb, cS, cR, fun hh => absurd hh (by decide), fun _ => ⟨by omega, hbb⟩⟩, fun _ => ⟨⟨m, by rw [sj 10 (by decide) (by decide) (by decide)]; exact m1, by omega⟩, by rw [sj 10 (by decide) (by decide) (by decide), rq 220 (by decide)]; exact m3, ⟨addr, ky1, ky2, ag_ses agS (by omega) (by omega) (by omega) (by omega) (by omega) m4, by rw [rq 218 (by decide)]; exact m5, fun i hi => by rw [rq 207 (by decide)]; exact m6 i hi, fun i hi => by rw [rq 207 (by decide)]; exact m7 i hi⟩⟩⟩, fun j hj => by rw [sj _ (by omega) (by omega) (by omega), rq 236 (by decide)]; exact h2 j hj, relI_fr h3 (Nat.le_succ N) agS (by omega) (by omega) (by rw [rq 234 (by decide)]) (fun j _ => by rw [r2])⟩
  obtain ⟨S2, R2, k1', k2', k3', k4', k5', k6', k7', k8', k9'⟩ := sim_dtx hrel hd (by omega) (by
    obtain ⟨-, ⟨sn, z1, z2, z3, -⟩, -⟩ := h.2.2.1
    exact ⟨sn, by rw [qS.1 1 (by simp <;> omega)]; exact z1, by omega⟩) (fun n b cc => by
    have := (nI_eq (by have := cc.2.1; omega) (by have := cS.2.1; omega)).mp (cc.1.symm.trans cS.1)
    omega) tS s13 (by decide) ((sj 6 (by decide) (by decide) (by decide)).trans a1) (by decide) (by decide)
  refine ⟨nI cu, S2, R2, tm, (hc0 _).mpr ?_, (hr0 _).mpr ?_, k3', ag_tr (ag_mono agS fun q hq => by omega) k4', ag_tr (ag_eq qR fun q hq => by simp; omega) k5'⟩
  · have et : xs_gI S1 0 3 = nI tm := by
      show S1.1 0 3 = _
      rw [qS.1 0 (by simp <;> omega)]
      exact h.2.1.1.1
    have ed1 : xs_rdU S1 (0 + 44) (nI d) xs_cD = some (53 + 24 * d) := q_rdD hrel.2.1 hd
    rw [if_neg hy1, if_pos hy2, ed, Option.bind_some, Option.bind_some, es1, Option.bind_some, ed1, Option.bind_some, et, show xf_D_transmit (53 + 24 * d) (0 + 1) (nI tm) S1 = _ from k1', Option.bind_some]
    exact congrArg (fun z => some (z, S2)) d1
  · rw [if_neg hy1, if_pos hy2, x_rd (k := 200 + 19) (show d < 3 from hd), Option.bind_some, show R.1 (200 + 19) d = nI cu from d2, er1, k2', Option.bind_some]
