/-! the whole answer -/
theorem sim_wans {S R : xs_T} {d q cd addr gw ak ck : Nat} {k1 k2 : Nat → Nat} (hd : d < 3) (hid : S.1 (123 + 16 * d) 0 = nI d) (hs : xs_ses S (124 + 16 * d) addr (ySch k1) (ySch k2)) (hx : xs_bx R) (hk1 : xs_by R 207 (16 * (9 + 2 * d)) 16 k1) (hk2 : xs_by R 207 (16 * (9 + 2 * d + 1)) 16 k2) (hcd : cd < 2 ^ 30) (h11 : S.1 (123 + 16 * d) 11 = nI cd) (r25 : R.1 225 d = nI cd) (r22 : R.1 222 d = nI addr) (h6 : S.1 (123 + 16 * d) 6 = nI q) (r33 : R.1 233 d = nI q) (hq : q ≤ 4) (hqq : ∀ j, j < q → S.2.1 (137 + 16 * d) j = R.2.1 231 (4 * d + j) ∧ ∃ x, S.1 (138 + 16 * d) j = nI x ∧ R.1 232 (4 * d + j) = nI x ∧ 1 ≤ x ∧ x ≤ 8)
    (g1 : S.1 (123 + 16 * d) 12 = nI gw) (g2 : R.1 227 d = nI gw) (g3 : gw ≤ 3) (a1 : S.1 (123 + 16 * d) 14 = nI ak) (a2 : R.1 229 d = nI ak) (a3 : ak ≤ 1) (c1 : S.1 (123 + 16 * d) 15 = nI ck) (c2 : R.1 230 d = nI ck) (c3 : ck ≤ 1) :
    ∃ S2 R2 n2 b2, xf_K_writeAnswer (123 + 16 * d) 121 S = some S2 ∧ xf_R_sendAnswer 200 (nI d) R = some R2 ∧ xs_cf S2 121 n2 b2 ∧ xs_rf R2 23 n2 b2 ∧ 12 ≤ n2 ∧ S2.1 121 2 = nI d ∧ S2.1 (123 + 16 * d) 11 = nI (cd + 1) ∧ R2.1 225 d = nI (cd + 1) ∧ S2.1 (123 + 16 * d) 6 = nI (q - 1) ∧ R2.1 233 d = nI (q - 1) ∧ (∀ j, j < q - 1 → S2.2.1 (137 + 16 * d) j = R2.2.1 231 (4 * d + j) ∧ ∃ x, S2.1 (138 + 16 * d) j = nI x ∧ R2.1 232 (4 * d + j) = nI x ∧ 1 ≤ x ∧ x ≤ 8) ∧ (∀ j, j ≠ 6 → j ≠ 11 → S2.1 (123 + 16 * d) j = S.1 (123 + 16 * d) j) ∧ xs_ag (fun q => q ≠ 121 ∧ q ≠ 122 ∧ q ≠ 130 + 16 * d ∧ q ≠ 133 + 16 * d ∧ q ≠ 123 + 16 * d ∧ q ≠ 137 + 16 * d ∧ q ≠ 138 + 16 * d) S S2 ∧ (∀ q, q ∉ [203, 204, 205, 206, 208, 209, 210, 225, 232, 233] → R2.1 q = R.1 q) ∧ (∀ q, q ≠ 231 → R2.2.1 q = R.2.1 q) ∧ R2.2.2 = R.2.2 ∧ (∀ e, e ≠ d → R2.1 225 e = R.1 225 e ∧ R2.1 233 e = R.1 233 e) ∧ (∀ j, j < 4 * d ∨ 4 * d + 4 ≤ j → R2.2.1 231 j = R.2.1 231 j ∧ R2.1 232 j = R.1 232 j) ∧ ∀ f, f < 23 → agF f R R2 := by
  have kS := (by decide +kernel : ∀ d, d < 3 → xs_kd (124 + 16 * d) = 5) d hd
  have kf : xs_kd 121 = 2 := by decide +kernel
  obtain ⟨A, hA1, hA2⟩ : ∃ A, A ≤ 32 ∧ A = if ak = 0 then 0 else 32 := ⟨_, by split <;> decide, rfl⟩
  obtain ⟨B, hB1, hB2⟩ : ∃ B, B ≤ 16 ∧ B = if q ≤ 1 then 0 else 16 := ⟨_, by split <;> decide, rfl⟩
  obtain ⟨C, hC1, hC2⟩ : ∃ C, C ≤ 3 ∧ C = if ck = 0 then 0 else 3 := ⟨_, by split <;> decide, rfl⟩
  have ec : xf_K_writeAnswer (123 + 16 * d) 121 S = xf_K_writeAnswer_40 (123 + 16 * d) 121 (nI A + nI B) (nI C) S := by
    have e27 : xf_K_writeAnswer_27 (123 + 16 * d) 121 (nI A) (nI B) S = xf_K_writeAnswer_40 (123 + 16 * d) 121 (nI A + nI B) (nI C) S := by
      unfold xf_K_writeAnswer_27
      rw [show xs_gI S (123 + 16 * d) 15 = nI ck from c1]
      rcases (show ck = 0 ∨ ck = 1 by omega) with rfl | rfl
      · rw [if_pos rfl] at hC2
        subst hC2
        rw [if_pos (show nI 0 = 0 from rfl)]
        rfl
      · rw [if_neg (by decide)] at hC2
        subst hC2
        rw [if_neg (show ¬ nI 1 = 0 by decide)]
        rfl
    have e13 : xf_K_writeAnswer_13 (123 + 16 * d) 121 (nI A) S = xf_K_writeAnswer_40 (123 + 16 * d) 121 (nI A + nI B) (nI C) S := by
      unfold xf_K_writeAnswer_13
      rw [show xs_gI S (123 + 16 * d) 6 = nI q from h6]
      by_cases h : q ≤ 1
      · rw [if_pos h] at hB2
        subst hB2
        rw [if_pos (show nI q ≤ 1 from nI_le (b := 1) h (by decide))]
        exact e27
      · rw [if_neg h] at hB2
        subst hB2
        rw [if_neg (show ¬ nI q ≤ 1 from nI_ge (a := 1) (by omega) (by omega))]
        exact e27
    unfold xf_K_writeAnswer
    rw [show xs_gI S (123 + 16 * d) 14 = nI ak from a1]
    rcases (show ak = 0 ∨ ak = 1 by omega) with rfl | rfl
    · rw [if_pos rfl] at hA2
      subst hA2
      rw [if_pos (show nI 0 = 0 from rfl)]
      exact e13
    · rw [if_neg (by decide)] at hA2
      subst hA2
      rw [if_neg (show ¬ nI 1 = 0 by decide)]
      exact e13
  have er : xf_R_sendAnswer 200 (nI d) R = xf_R_sendAnswer_53 200 (nI d) (nI cd) (nI A + nI B) (nI C) R := by
    have e38 : xf_R_sendAnswer_38 200 (nI d) (nI cd) (nI A) (nI B) R = xf_R_sendAnswer_53 200 (nI d) (nI cd) (nI A + nI B) (nI C) R := by
      unfold xf_R_sendAnswer_38
      rw [x_rd (k := 200 + 30) (show d < 3 from hd), Option.bind_some, show R.1 (200 + 30) d = nI ck from c2]
      rcases (show ck = 0 ∨ ck = 1 by omega) with rfl | rfl
      · rw [if_pos rfl] at hC2
        subst hC2
        rw [if_pos (show nI 0 = 0 from rfl)]
        rfl
      · rw [if_neg (by decide)] at hC2
        subst hC2
        rw [if_neg (show ¬ nI 1 = 0 by decide)]
        rfl
    have e22 : xf_R_sendAnswer_22 200 (nI d) (nI cd) (nI A) R = xf_R_sendAnswer_53 200 (nI d) (nI cd) (nI A + nI B) (nI C) R := by
      unfold xf_R_sendAnswer_22
      rw [x_rd (k := 200 + 33) (show d < 3 from hd), Option.bind_some, show R.1 (200 + 33) d = nI q from r33]
      by_cases h : q ≤ 1
      · rw [if_pos h] at hB2
        subst hB2
        rw [if_pos (show nI q ≤ 1 from nI_le (b := 1) h (by decide))]
        exact e38
      · rw [if_neg h] at hB2
        subst hB2
        rw [if_neg (show ¬ nI q ≤ 1 from nI_ge (a := 1) (by omega) (by omega))]
        exact e38
    unfold xf_R_sendAnswer
    rw [x_rd (k := 200 + 25) (show d < 3 from hd), Option.bind_some, show R.1 (200 + 25) d = nI cd from r25, x_rd (k := 200 + 29) (show d < 3 from hd), Option.bind_some, show R.1 (200 + 29) d = nI ak from a2]
    rcases (show ak = 0 ∨ ak = 1 by omega) with rfl | rfl
    · rw [if_pos rfl] at hA2
      subst hA2
      rw [if_pos (show nI 0 = 0 from rfl)]
      exact e22
    · rw [if_neg (by decide)] at hA2
      subst hA2
      rw [if_neg (show ¬ nI 1 = 0 by decide)]
      exact e22
  -- the head
  obtain ⟨S3, e3, f3, t3, q3⟩ := x_begin (h := 96) (t := d) (control := A + B + C) (cnt := cd) kS kf hs (by decide) (by omega) (by omega)
  obtain ⟨R3, er3, fr3, qr3⟩ := r_begin (S := R) (f := 23) (h := 96) (addr := addr) (control := A + B + C) (cnt := cd) (by decide) (by decide) hs.2.1 (by omega) (by omega)
  unfold xf_K_writeAnswer_40 at ec
  rw [nI_add, nI_add, show xs_gI S (123 + 16 * d) 0 = nI d from hid, show xs_gI S (123 + 16 * d) 11 = nI cd from h11, show 123 + 16 * d + 1 = 124 + 16 * d by omega, show xf_S_begin (124 + 16 * d) 121 96 (nI d) (nI (A + B + C)) (nI cd) S = _ from e3, Option.bind_some, show xs_gI S3 (123 + 16 * d) 15 = nI ck by
    show S3.1 (123 + 16 * d) 15 = _
    rw [q3.1 _ (by simp <;> omega)]
    exact c1] at ec
  unfold xf_R_sendAnswer_53 at er
  rw [nI_add, nI_add, x_rd (k := 200 + 22) (show d < 3 from hd), Option.bind_some, show R.1 (200 + 22) d = nI addr from r22, show xf_R_begin 200 23 96 (nI addr) (nI (A + B + C)) (nI cd) R = _ from er3, Option.bind_some, x_rd (k := 200 + 30) (show d < 3 from hd), Option.bind_some, show R3.1 (200 + 30) d = nI ck by
    rw [qr3.1.1 (200 + 30) (by decide)]
    exact c2] at er
  -- the option
  obtain ⟨S4, R4, n4, b4, ec4, er4, f4, fr4, hn4, t4, q4, qr4⟩ : ∃ S4 R4 n4 b4, xf_K_writeAnswer (123 + 16 * d) 121 S = xf_K_writeAnswer_93 (123 + 16 * d) 121 S4 ∧ xf_R_sendAnswer 200 (nI d) R = xf_R_sendAnswer_118 200 (nI d) (nI cd) R4 ∧ xs_cf S4 121 n4 b4 ∧ xs_rf R4 23 n4 b4 ∧ (8 ≤ n4 ∧ n4 ≤ 11) ∧ S4.1 121 2 = nI d ∧ xs_eq [121, 122] S S4 ∧ xs_ef 23 R R4 := by
    rcases (show ck = 0 ∨ ck = 1 by omega) with rfl | rfl
    · rw [if_pos (show nI 0 = 0 from rfl)] at ec er
      exact ⟨S3, R3, 8, _, ec, er, f3, fr3, by decide, t3, q3, qr3⟩
    rw [if_neg (show ¬ nI 1 = 0 by decide)] at ec er
    obtain ⟨bt, hbt, eb1, eb2⟩ := y_bits gw g3
    obtain ⟨S5, e5, f5, t5, q5⟩ := x_cf_app (v := 2) (j := 1) kf f3 (by decide) (by decide) (by decide)
    obtain ⟨S6, e6, f6, t6, q6⟩ := x_cf_app (v := 10) (j := 1) kf f5 (by decide) (by decide) (by decide)
    obtain ⟨S7, e7, f7, t7, q7⟩ := x_cf_app (v := bt) (j := 1) kf f6 (by omega) (by decide) (by decide)
    obtain ⟨R5, er5, fr5, qr5⟩ := r_write (f := 23) (v := 2) (by decide) fr3 (by decide) (by decide)
    obtain ⟨R6, er6, fr6, qr6⟩ := r_write (f := 23) (v := 10) (by decide) fr5 (by decide) (by decide)
    obtain ⟨R7, er7, fr7, qr7⟩ := r_write (f := 23) (v := bt) (by decide) fr6 (by omega) (by decide)
    have q36 : xs_eq [121, 122] S S6 := e_tr q3 (e_tr q5 q6)
    have qr36 : xs_ef 23 R R6 := ef_tr qr3 (ef_tr qr5 qr6)
    rw [show xf_F_append 121 2 1 S3 = _ from e5, Option.bind_some, show xf_F_append 121 10 1 S5 = _ from e6, Option.bind_some, show xs_gI S6 (123 + 16 * d) 12 = nI gw by
      show S6.1 (123 + 16 * d) 12 = _
      rw [q36.1 _ (by simp <;> omega)]
      exact g1, eb1, Option.bind_some, show xf_F_append 121 (nI bt) 1 S6 = _ from e7, Option.bind_some] at ec
    rw [show xf_R_write 200 23 2 R3 = _ from er5, Option.bind_some, show xf_R_write 200 23 10 R5 = _ from er6, Option.bind_some, x_rd (k := 200 + 27) (show d < 3 from hd), Option.bind_some, show R6.1 (200 + 27) d = nI gw by
      rw [qr36.1.1 (200 + 27) (by decide)]
      exact g2, Option.bind_some, eb2, show xf_R_write 200 23 (nI bt) R6 = _ from er7, Option.bind_some] at er
    exact ⟨S7, R7, 11, _, ec, er, f7, fr7, by decide, by rw [t7, t6, t5, t3], e_tr q36 q7, ef_tr qr36 qr7⟩
  have p4 : S4.1 (123 + 16 * d) = S.1 (123 + 16 * d) := q4.1 _ (by simp <;> omega)
  obtain ⟨S5, R5, n5, b5, z1, z2, z3, z4, z5, z6, z7, z8, z9, z10, z11, z12, z13, z14, z15, z16, z17, z18, z19⟩ := sim_wend (S := S4) (R := R4) hd (e_ses q4 (by simp <;> omega) (by simp <;> omega) (by simp <;> omega) (by simp <;> omega) (by simp <;> omega) hs) (e_bx qr4.1 (by decide) (by decide) hx) (e_by qr4.1 (by decide) hk1) (e_by qr4.1 (by decide) hk2) hcd (by rw [p4]; exact h11) (by rw [qr4.1.1 225 (by decide)]; exact r25) (by rw [qr4.1.1 222 (by decide)]; exact r22) (by rw [p4]; exact h6) (by rw [qr4.1.1 233 (by decide)]; exact r33) hq (fun j hj => by
    obtain ⟨w1, x, w2, w3, w4⟩ := hqq j hj
    exact ⟨by rw [q4.2, qr4.1.2]; exact w1, x, by rw [q4.1 _ (by simp <;> omega)]; exact w2, by rw [qr4.1.1 232 (by decide)]; exact w3, w4⟩) hn4 f4 fr4
  refine ⟨S5, R5, n5, b5, ec4.trans z1, er4.trans z2, z3, z4, z5, z6.trans t4, z7, z8, z9, z10, z11, fun j h1 h2 => by rw [z12 j h1 h2, p4], ag_tr (ag_eq q4 fun q hq => by simp; omega) z13, fun q hq => by rw [z14 q hq, qr4.1.1 q (by simp at hq ⊢; omega)], fun q hq => by rw [z15 q hq, qr4.1.2], by rw [z16, qr4.1.2], fun e he => ⟨by rw [(z17 e he).1, qr4.1.1 225 (by decide)], by rw [(z17 e he).2, qr4.1.1 233 (by decide)]⟩, fun j hj => ⟨by rw [(z18 j hj).1, qr4.1.2], by rw [(z18 j hj).2, qr4.1.1 232 (by decide)]⟩, fun f hf => agF_tr ⟨fun j hj => qr4.2.1 _ (by omega), qr4.2.2 f (by omega), by rw [qr4.1.1 211 (by decide)]⟩ (z19 f hf)⟩
