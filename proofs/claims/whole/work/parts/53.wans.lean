/-! the server writes an answer, both ways -/
theorem y_bits : ∀ w, w ≤ 3 → ∃ k, k ≤ 2 ∧ xf_N_bitCount (nI w) = some (nI k) ∧ ((nI w &&& 1) + (nI w >>> ((1 : Int32) &&& 31) : Int32)) = nI k := by
  intro w hw
  rcases (show w = 0 ∨ w = 1 ∨ w = 2 ∨ w = 3 by omega) with rfl | rfl | rfl | rfl
  · exact ⟨0, by decide, by decide +kernel, by decide +kernel⟩
  · exact ⟨1, by decide, by decide +kernel, by decide +kernel⟩
  · exact ⟨1, by decide, by decide +kernel, by decide +kernel⟩
  · exact ⟨2, by decide, by decide +kernel, by decide +kernel⟩
/-- the end: the frame is ended, counted, and the queue's first taken away -/
theorem sim_wend {S R : xs_T} {d n q cd addr : Nat} {b k1 k2 : Nat → Nat} (hd : d < 3) (hs : xs_ses S (124 + 16 * d) addr (ySch k1) (ySch k2)) (hx : xs_bx R) (hk1 : xs_by R 207 (16 * (9 + 2 * d)) 16 k1) (hk2 : xs_by R 207 (16 * (9 + 2 * d + 1)) 16 k2) (hcd : cd < 2 ^ 30) (h11 : S.1 (123 + 16 * d) 11 = nI cd) (r25 : R.1 225 d = nI cd) (r22 : R.1 222 d = nI addr) (h6 : S.1 (123 + 16 * d) 6 = nI q) (r33 : R.1 233 d = nI q) (hq : q ≤ 4) (hqq : ∀ j, j < q → S.2.1 (137 + 16 * d) j = R.2.1 231 (4 * d + j) ∧ ∃ x, S.1 (138 + 16 * d) j = nI x ∧ R.1 232 (4 * d + j) = nI x ∧ 1 ≤ x ∧ x ≤ 8) (hn : 8 ≤ n ∧ n ≤ 11) (cS : xs_cf S 121 n b) (cR : xs_rf R 23 n b) :
    ∃ S2 R2 n2 b2, xf_K_writeAnswer_93 (123 + 16 * d) 121 S = some S2 ∧ xf_R_sendAnswer_118 200 (nI d) (nI cd) R = some R2 ∧ xs_cf S2 121 n2 b2 ∧ xs_rf R2 23 n2 b2 ∧ 12 ≤ n2 ∧ S2.1 121 2 = S.1 121 2 ∧ S2.1 (123 + 16 * d) 11 = nI (cd + 1) ∧ R2.1 225 d = nI (cd + 1) ∧ S2.1 (123 + 16 * d) 6 = nI (q - 1) ∧ R2.1 233 d = nI (q - 1) ∧ (∀ j, j < q - 1 → S2.2.1 (137 + 16 * d) j = R2.2.1 231 (4 * d + j) ∧ ∃ x, S2.1 (138 + 16 * d) j = nI x ∧ R2.1 232 (4 * d + j) = nI x ∧ 1 ≤ x ∧ x ≤ 8) ∧ (∀ j, j ≠ 6 → j ≠ 11 → S2.1 (123 + 16 * d) j = S.1 (123 + 16 * d) j) ∧ xs_ag (fun q => q ≠ 121 ∧ q ≠ 122 ∧ q ≠ 130 + 16 * d ∧ q ≠ 133 + 16 * d ∧ q ≠ 123 + 16 * d ∧ q ≠ 137 + 16 * d ∧ q ≠ 138 + 16 * d) S S2 ∧ (∀ q, q ∉ [203, 204, 205, 206, 208, 209, 210, 225, 232, 233] → R2.1 q = R.1 q) ∧ (∀ q, q ≠ 231 → R2.2.1 q = R.2.1 q) ∧ R2.2.2 = R.2.2 ∧ (∀ e, e ≠ d → R2.1 225 e = R.1 225 e ∧ R2.1 233 e = R.1 233 e) ∧ (∀ j, j < 4 * d ∨ 4 * d + 4 ≤ j → R2.2.1 231 j = R.2.1 231 j ∧ R2.1 232 j = R.1 232 j) ∧ ∀ f, f < 23 → agF f R R2 := by
  have kS := (by decide +kernel : ∀ d, d < 3 → xs_kd (124 + 16 * d) = 5 ∧ xs_ln (123 + 16 * d + 14) = 4 ∧ xs_ln (123 + 16 * d + 15) = 4) d hd
  have kf : xs_kd 121 = 2 := by decide +kernel
  -- ended
  obtain ⟨S3, R3, n3, b3, ec3, er3, c3, cr3, hn3, t3, q3, qr3⟩ : ∃ S3 R3 n3 b3, xf_K_writeAnswer_93 (123 + 16 * d) 121 S = ((some (xs_sI S3 (123 + 16 * d) 11 ((xs_gI S3 (123 + 16 * d) 11) + 1))).bind fun S9 => (xf_K_dequeue (123 + 16 * d) S9).bind fun q10 => some q10) ∧ xf_R_sendAnswer_118 200 (nI d) (nI cd) R = ((xs_rd R3 (200 + 25) (nI d)).bind fun v18 => (xs_wr R3 (200 + 25) (nI d) (v18 + 1)).bind fun S19 => if q = 0 then some S19 else (xs_rd S19 (200 + 33) (nI d)).bind fun v21 => (xs_wr S19 (200 + 33) (nI d) (v21 - 1)).bind fun S22 => xf_R_sendAnswer_218 200 (nI d) xs_fuel (4 * nI d) S22) ∧ xs_cf S3 121 n3 b3 ∧ xs_rf R3 23 n3 b3 ∧ 12 ≤ n3 ∧ S3.1 121 2 = S.1 121 2 ∧ xs_eq [121, 122, 130 + 16 * d, 133 + 16 * d] S S3 ∧ xs_eh 23 R R3 := by
    have rd33 : xs_rd R (200 + 33) (nI d) = some (nI q) := by
      rw [x_rd (k := 200 + 33) (show d < 3 from hd)]
      exact congrArg some r33
    have rd22 : xs_rd R (200 + 22) (nI d) = some (nI addr) := by
      rw [x_rd (k := 200 + 22) (show d < 3 from hd)]
      exact congrArg some r22
    have l0 : xs_rdL S (123 + 16 * d + 14) 0 = some (S.2.1 (123 + 16 * d + 14) 0) := x_rdL (j := 0) (by omega)
    unfold xf_K_writeAnswer_93 xf_R_sendAnswer_118
    rw [l0, Option.bind_some, show xs_gI S (123 + 16 * d) 6 = nI q from h6, show xs_gI S (123 + 16 * d) 11 = nI cd from h11, rd33, Option.bind_some]
    unfold xf_K_writeAnswer_126 xf_R_sendAnswer_132 xf_R_sendAnswer_154 xf_R_sendAnswer_171
    rw [show 123 + 16 * d + 1 = 124 + 16 * d by omega]
    by_cases h0 : q = 0
    · subst h0
      obtain ⟨S3, e1, c1, t1, q1⟩ := x_finish0 (p := S.2.1 (123 + 16 * d + 14) 0) (dir := 1) (cnt := cd) kS.1 kf hs (by omega) (by decide) cS (by omega)
      obtain ⟨R3, e2, c2, q2⟩ := r_finish0 (P := 0) (i := 9 + 2 * d) (dir := 1) (addr := addr) (cnt := cd) hx (by omega) hk1 hk2 (show 23 < 24 by decide) cR (by decide) (by omega) (by decide) hs.2.1 (by omega)
      rw [show 124 + 16 * d + 6 = 130 + 16 * d by omega, show 124 + 16 * d + 9 = 133 + 16 * d by omega] at q1
      refine ⟨S3, R3, _, _, ?_, ?_, c1, c2, by omega, t1, q1, q2⟩
      · rw [if_pos (show nI 0 ≤ 0 by decide), show xf_S_finish (124 + 16 * d) 121 1 (nI cd) (S.2.1 (123 + 16 * d + 14) 0) 0 S = _ from e1, Option.bind_some]
      · rw [if_pos (show nI 0 ≤ 0 by decide), if_pos rfl, if_pos rfl, rd22, Option.bind_some, show (2 : Int32) * nI d = nI (2 * d) from pk_mul 2 d, show (9 : Int32) + nI (2 * d) = nI (9 + 2 * d) from nI_add 9 _, show xf_R_finish 200 23 0 0 (nI (9 + 2 * d)) 1 (nI addr) (nI cd) R = _ from e2, Option.bind_some]
        rfl
    · obtain ⟨w1, x, w2, w3, w4, w5⟩ := hqq 0 (by omega)
      obtain ⟨P, hP, eP⟩ := wb_of (S.2.1 (137 + 16 * d) 0)
      rw [Nat.add_zero] at w1 w3
      obtain ⟨S3, R3, n3, b3, e1, e2, c1, c2, hn3, -, t1, q1, q2⟩ := sim_finish (P := P) (pl := x) (i := 9 + 2 * d) (dir := 1) (cnt := cd) kS.1 kf hs hx (by omega) hk1 hk2 (by omega) (by decide) hP w5 hn.2 (show 23 < 24 by decide) cS cR
      rw [show 124 + 16 * d + 6 = 130 + 16 * d by omega, show 124 + 16 * d + 9 = 133 + 16 * d by omega] at q1
      have hq0 : ¬ nI q ≤ 0 := nI_ge (b := q) (a := 0) (by omega) (by omega)
      refine ⟨S3, R3, n3, b3, ?_, ?_, c1, c2, by omega, t1, q1, q2⟩
      · rw [if_neg hq0, show xs_rd S (123 + 16 * d + 15) 0 = some (nI x) by
          rw [show xs_rd S (123 + 16 * d + 15) 0 = _ from x_rd (j := 0) (by omega), show 123 + 16 * d + 15 = 138 + 16 * d by omega]
          exact congrArg some w2, Option.bind_some, show S.2.1 (123 + 16 * d + 14) 0 = lN P by
          rw [show 123 + 16 * d + 14 = 137 + 16 * d by omega]
          exact eP, show xf_S_finish (124 + 16 * d) 121 1 (nI cd) (lN P) (nI x) S = _ from e1, Option.bind_some]
      · rw [if_neg hq0, if_neg i10, show (4 : Int32) * nI d = nI (4 * d) from pk_mul 4 d, x_rdL (k := 200 + 31) (show 4 * d < 12 by omega), Option.bind_some, if_neg i10, x_rd (k := 200 + 32) (show 4 * d < 12 by omega), Option.bind_some, rd22, Option.bind_some, show R.2.1 (200 + 31) (4 * d) = lN P from w1.symm.trans eP, show R.1 (200 + 32) (4 * d) = nI x from w3, show (2 : Int32) * nI d = nI (2 * d) from pk_mul 2 d, show (9 : Int32) + nI (2 * d) = nI (9 + 2 * d) from nI_add 9 _, show xf_R_finish 200 23 (lN P) (nI x) (nI (9 + 2 * d)) 1 (nI addr) (nI cd) R = _ from e2, Option.bind_some]
        simp only [if_neg h0, if_neg i10]
  have p3 : S3.1 (123 + 16 * d) = S.1 (123 + 16 * d) := q3.1 _ (by simp <;> omega)
  rw [Option.bind_some, show xs_gI S3 (123 + 16 * d) 11 = nI cd by
    show S3.1 (123 + 16 * d) 11 = _
    rw [p3]
    exact h11, nI_1] at ec3
  generalize hS4 : xs_sI S3 (123 + 16 * d) 11 (nI (cd + 1)) = S4 at ec3
  have q4 : xs_eq [123 + 16 * d] S3 S4 := by
    rw [← hS4]
    exact e_sI (by simp)
  obtain ⟨S5, e5, d1, d2, d3, d4, d5, d6⟩ := x_deq (k := 123 + 16 * d) (S := S4) kS.2 (by rw [← hS4, x_fN (by decide), p3]; exact h6) hq
  rw [e5, Option.bind_some] at ec3
  rw [show 123 + 16 * d + 14 = 137 + 16 * d by omega, show 123 + 16 * d + 15 = 138 + 16 * d by omega] at d2
  rw [show 123 + 16 * d + 15 = 138 + 16 * d by omega] at d4
  rw [show 123 + 16 * d + 14 = 137 + 16 * d by omega] at d5
  have rq3 := qr3.1.1
  rw [x_rd (k := 200 + 25) (show d < 3 from hd), Option.bind_some, show R3.1 (200 + 25) d = nI cd by
    rw [rq3 (200 + 25) (by decide)]
    exact r25, nI_1, x_wr (k := 200 + 25) (show d < 3 from hd), Option.bind_some] at er3
  generalize hR4 : xs_sI R3 (200 + 25) d (nI (cd + 1)) = R4 at er3
  have qr4 : xs_eq [225] R3 R4 := by
    rw [← hR4]
    exact e_sI (by decide)
  -- the class's side once
  have agS : xs_ag (fun q => q ≠ 121 ∧ q ≠ 122 ∧ q ≠ 130 + 16 * d ∧ q ≠ 133 + 16 * d ∧ q ≠ 123 + 16 * d ∧ q ≠ 137 + 16 * d ∧ q ≠ 138 + 16 * d) S S5 := fun p hp => ⟨by rw [d4 p (by omega) (by omega), q4.1 p (by simp; omega), q3.1 p (by simp; omega)], by rw [d5 p (by omega), q4.2, q3.2], by rw [d6, q4.2, q3.2]⟩
  have cS5 : xs_cf S5 121 n3 b3 := ⟨by rw [d4 121 (by omega) (by omega), q4.1 121 (by simp <;> omega)]; exact c3.1, c3.2.1, fun i hi => by rw [d4 _ (by omega) (by omega), q4.1 _ (by simp <;> omega)]; exact c3.2.2 i hi⟩
  have t5 : S5.1 121 2 = S.1 121 2 := by rw [d4 121 (by omega) (by omega), q4.1 121 (by simp <;> omega), t3]
  have f11 : S5.1 (123 + 16 * d) 11 = nI (cd + 1) := by rw [d3 11 (by decide), ← hS4, x_fI]
  have fj : ∀ j, j ≠ 6 → j ≠ 11 → S5.1 (123 + 16 * d) j = S.1 (123 + 16 * d) j := fun j h1 h2 => by rw [d3 j h1, ← hS4, x_fN h2, p3]
  by_cases h0 : q = 0
  · rw [if_pos h0] at er3
    subst h0
    refine ⟨S5, R4, n3, b3, ec3, er3, cS5, e_rfr qr4 (by decide) (by decide) cr3, hn3, t5, f11, by rw [← hR4]; exact x_fI, d1, by rw [qr4.1 233 (by decide), rq3 233 (by decide)]; exact r33, fun j hj => by omega, fj, agS, fun p hp => by rw [qr4.1 p (by simp at hp ⊢; omega), rq3 p (by simp at hp ⊢; omega)], fun p _ => by rw [qr4.2, qr3.1.2], by rw [qr4.2, qr3.1.2], fun e he => ⟨by rw [← hR4]; exact (x_fN he).trans (by rw [rq3 (200 + 25) (by decide)]), by rw [qr4.1 233 (by decide), rq3 233 (by decide)]⟩, fun j _ => ⟨by rw [qr4.2, qr3.1.2], by rw [qr4.1 232 (by decide), rq3 232 (by decide)]⟩, fun f hf => ⟨fun j hj => by rw [qr4.1 209 (by decide), qr3.2.1 _ (by omega)], by rw [qr4.1 210 (by decide), qr3.2.2 f (by omega)], by rw [qr4.1 211 (by decide), rq3 211 (by decide)]⟩⟩
  rw [if_neg h0, x_rd (k := 200 + 33) (show d < 3 from hd), Option.bind_some, show R4.1 (200 + 33) d = nI q by
    rw [qr4.1 (200 + 33) (by decide), rq3 (200 + 33) (by decide)]
    exact r33, show nI q - 1 = nI (q - 1) from pk_sub (b := 1) (by omega), x_wr (k := 200 + 33) (show d < 3 from hd), Option.bind_some, show (4 : Int32) * nI d = nI (4 * d) from pk_mul 4 d] at er3
  generalize hR5 : xs_sI R4 (200 + 33) d (nI (q - 1)) = R5 at er3
  have qr5 : xs_eq [233] R4 R5 := by
    rw [← hR5]
    exact e_sI (by decide)
  obtain ⟨R6, e6, g1, g2, g3, g4, g5⟩ := r_deq (R := R5) hd (by rw [← hR5]; exact x_fI) (show 1 ≤ q by omega) hq
  rw [e6] at er3
  have q05 : ∀ p, p ∉ [203, 204, 205, 206, 208, 209, 210, 225, 233] → R5.1 p = R.1 p := fun p hp => by rw [qr5.1 p (by simp at hp ⊢; omega), qr4.1 p (by simp at hp ⊢; omega), rq3 p (by simp at hp ⊢; omega)]
  have l05 : R5.2 = R.2 := by rw [qr5.2, qr4.2, qr3.1.2]
  refine ⟨S5, R6, n3, b3, ec3, er3, cS5, ⟨by rw [g3 210 (by decide), qr5.1 210 (by decide), qr4.1 210 (by decide)]; exact cr3.1, cr3.2.1, fun i hi => by rw [g3 209 (by decide), qr5.1 209 (by decide), qr4.1 209 (by decide)]; exact cr3.2.2 i hi⟩, hn3, t5, f11, by rw [g3 225 (by decide), qr5.1 225 (by decide), ← hR4]; exact x_fI, d1, by rw [g3 233 (by decide), ← hR5]; exact x_fI, fun j hj => ?_, fj, agS, fun p hp => by rw [g3 p (by simp at hp; omega), q05 p (by simp at hp ⊢; omega)], fun p hp => by rw [g4 p hp, l05], by rw [g5, l05], fun e he => ⟨by rw [g3 225 (by decide), qr5.1 225 (by decide), ← hR4]; exact (x_fN he).trans (by rw [rq3 (200 + 25) (by decide)]), by rw [g3 233 (by decide), ← hR5]; exact (x_fN he).trans (by rw [qr4.1 (200 + 33) (by decide), rq3 (200 + 33) (by decide)])⟩, fun j hj => ⟨by rw [(g2 j hj).1, l05], by rw [(g2 j hj).2, q05 232 (by decide)]⟩, fun f hf => ⟨fun j hj => by rw [g3 209 (by decide), qr5.1 209 (by decide), qr4.1 209 (by decide), qr3.2.1 _ (by omega)], by rw [g3 210 (by decide), qr5.1 210 (by decide), qr4.1 210 (by decide), qr3.2.2 f (by omega)], by rw [g3 211 (by decide), q05 211 (by decide)]⟩⟩
  obtain ⟨w1, x, w2, w3, w4⟩ := hqq (j + 1) (by omega)
  refine ⟨?_, x, ?_, ?_, w4⟩
  · rw [(d2 j hj).1, (g1 j hj).1, q4.2, q3.2, l05]
    exact w1
  · rw [(d2 j hj).2, q4.1 _ (by simp <;> omega), q3.1 _ (by simp <;> omega)]
    exact w2
  · rw [(g1 j hj).2, q05 232 (by decide)]
    exact w3
