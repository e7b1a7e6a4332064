/-! send -/
theorem y_app_in {b : Nat → Nat} {n v i : Nat} (h : i < n) : yApp b n v i = b i := if_pos h
theorem y_pay_in {b e : Nat → Nat} {n P i : Nat} (h : i < n) : yPay b n P e i = b i := if_pos h
/-- a data frame is ended, both ways -/
theorem sim_finish {S R : xs_T} {k a f n P pl i dir addr cnt : Nat} {b k1 k2 : Nat → Nat} (hk : xs_kd k = 5) (hka : xs_kd a = 2) (hs : xs_ses S k addr (ySch k1) (ySch k2)) (hx : xs_bx R) (hi : i < 14) (hk1 : xs_by R 207 (16 * i) 16 k1) (hk2 : xs_by R 207 (16 * (i + 1)) 16 k2) (hc : cnt < 2 ^ 32) (hd : dir < 256) (hP : P < 2 ^ 64) (hpl : pl ≤ 8) (hn : n ≤ 11) (hf : f < 24) (cS : xs_cf S a n b) (cR : xs_rf R f n b) :
    ∃ S2 R2 n2 b2, xf_S_finish k a (nI dir) (nI cnt) (lN P) (nI pl) S = some S2 ∧ xf_R_finish 200 (nI f) (lN P) (nI pl) (nI i) (nI dir) (nI addr) (nI cnt) R = some R2 ∧ xs_cf S2 a n2 b2 ∧ xs_rf R2 f n2 b2 ∧ n + 4 ≤ n2 ∧ (∀ j, j < n → b2 j = b j) ∧ S2.1 a 2 = S.1 a 2 ∧ xs_eq [a, a + 1, k + 6, k + 9] S S2 ∧ xs_eh f R R2 := by
  have ha := hs.2.1
  by_cases h0 : pl = 0
  · subst h0
    obtain ⟨S2, e1, c1, t1, q1⟩ := x_finish0 (p := lN P) (dir := dir) hk hka hs hc hd cS (by omega)
    obtain ⟨R2, e2, c2, q2⟩ := r_finish0 (P := P) (dir := dir) (addr := addr) (cnt := cnt) hx hi hk1 hk2 hf cR hP (by omega) hd ha hc
    exact ⟨S2, R2, _, _, e1, e2, c1, c2, Nat.le_refl _, fun j hj => y_app_in hj, t1, q1, q2⟩
  · obtain ⟨S2, e1, c1, t1, q1⟩ := x_finish (P := P) (dir := dir) hk hka hs hc hd hP cS (by omega) hpl (by omega)
    obtain ⟨R2, e2, c2, q2⟩ := r_finish (P := P) (dir := dir) (addr := addr) (cnt := cnt) hx hi hk1 hk2 hf cR hP (by omega) hpl (by omega) hd ha hc
    exact ⟨S2, R2, _, _, e1, e2, c1, c2, by omega, fun j hj => by rw [y_app_in (by omega), y_pay_in hj], t1, q1, q2⟩
theorem sim_data {S R : xs_T} {d P pl addr cu cf ck : Nat} {k1 k2 : Nat → Nat} (hd : d < 3) (hcf : cf ≤ 1) (hck : ck ≤ 1) (hs : xs_ses S (54 + 24 * d) addr (ySch k1) (ySch k2)) (hx : xs_bx R) (hk1 : xs_by R 207 (16 * (3 + 2 * d)) 16 k1) (hk2 : xs_by R 207 (16 * (3 + 2 * d + 1)) 16 k2) (hcu : cu < 2 ^ 31) (h9 : S.1 (53 + 24 * d) 9 = nI cu) (r18 : R.1 218 d = nI addr) (r19 : R.1 219 d = nI cu) (hP : P < 2 ^ 64) (hpl : pl ≤ 8) :
    ∃ S2 R2 n b, xf_D_writeData (53 + 24 * d) (lN P) (nI pl) (nI cf) (nI ck) S = some S2 ∧ (if nI cf = 0 then xf_R_send_71 200 (nI d) (lN P) (nI pl) (nI cf) (nI ck) (20 + nI d) (nI cu) (20 + nI d) 64 R else xf_R_send_71 200 (nI d) (lN P) (nI pl) (nI cf) (nI ck) (20 + nI d) (nI cu) (20 + nI d) 128 R) = ((xf_R_transmit 200 (nI d) R2).bind fun q20 => some (nI cu, q20)) ∧ xs_cf S2 (67 + 24 * d) n b ∧ xs_rf R2 (20 + d) n b ∧ 12 ≤ n ∧ (cf = 1 ↔ b 0 = 128) ∧ S2.1 (67 + 24 * d) 2 = nI 3 ∧ S2.1 (53 + 24 * d) 9 = nI (cu + 1) ∧ S2.1 (53 + 24 * d) 13 = nI 0 ∧ S2.1 (53 + 24 * d) 14 = nI cf ∧ (∀ j, j ≠ 9 → j ≠ 13 → j ≠ 14 → S2.1 (53 + 24 * d) j = S.1 (53 + 24 * d) j) ∧ xs_eq [53 + 24 * d, 67 + 24 * d, 68 + 24 * d, 60 + 24 * d, 63 + 24 * d] S S2 ∧ R2.1 219 d = nI (cu + 1) ∧ R2.1 215 d = nI 0 ∧ xs_eq [203, 204, 205, 206, 208, 209, 210, 215, 219] R R2 ∧ (∀ e, e ≠ d → R2.1 215 e = R.1 215 e ∧ R2.1 219 e = R.1 219 e) ∧ ∀ g, g ≠ 20 + d → agF g R R2 := by
  obtain ⟨kf, -, -⟩ := q_fr d hd
  have kS := (by decide +kernel : ∀ d, d < 3 → xs_kd (54 + 24 * d) = 5) d hd
  have ha := hs.2.1
  have i31 : 3 + 2 * d < 14 := by omega
  -- the head
  obtain ⟨hh, hh1, hh2⟩ : ∃ hh, hh = (if cf = 0 then 64 else 128) ∧ hh < 256 := ⟨_, rfl, by split <;> decide⟩
  -- the class
  generalize hS2 : xs_sI (xs_sI S (53 + 24 * d) 14 (nI cf)) (53 + 24 * d) 13 0 = S2
  have q2 : xs_eq [53 + 24 * d] S S2 := by
    rw [← hS2]
    exact e_tr (e_sI (by simp)) (e_sI (by simp))
  have f2 : S2.1 (53 + 24 * d) 14 = nI cf ∧ S2.1 (53 + 24 * d) 13 = nI 0 ∧ ∀ j, j ≠ 13 → j ≠ 14 → S2.1 (53 + 24 * d) j = S.1 (53 + 24 * d) j := ⟨by rw [← hS2, x_fN (by decide), x_fI], by rw [← hS2, x_fI]; rfl, fun j h1 h2 => by rw [← hS2, x_fN h1, x_fN h2]⟩
  have hs2 : xs_ses S2 (54 + 24 * d) addr (ySch k1) (ySch k2) := e_ses q2 (by simp <;> omega) (by simp <;> omega) (by simp <;> omega) (by simp <;> omega) (by simp <;> omega) hs
  obtain ⟨S3, e3, c3, t3, q3⟩ := x_begin (h := hh) (t := 3) (control := ck) (cnt := cu) kS kf hs2 hh2 (by omega) (by omega)
  obtain ⟨R3, er3, cr3, qr3⟩ := r_begin (S := R) (f := 20 + d) (h := hh) (addr := addr) (control := ck) (cnt := cu) (by omega) hh2 ha (by omega) (by omega)
  have hs3 := e_ses q3 (by simp <;> omega) (by simp <;> omega) (by simp <;> omega) (by simp <;> omega) (by simp <;> omega) hs2
  have rd18 : xs_rd R (200 + 18) (nI d) = some (nI addr) := by
    rw [x_rd (k := 200 + 18) (show d < 3 from hd)]
    exact congrArg some r18
  -- the option
  obtain ⟨S4, R4, n4, b4, c4, cr4, hn4, hb4, t4, q4, qr4, ec4, er4⟩ : ∃ S4 R4 n4 b4, xs_cf S4 (67 + 24 * d) n4 b4 ∧ xs_rf R4 (20 + d) n4 b4 ∧ (8 ≤ n4 ∧ n4 ≤ 9) ∧ b4 0 = hh ∧ S4.1 (67 + 24 * d) 2 = nI 3 ∧ xs_eq [67 + 24 * d, 67 + 24 * d + 1] S3 S4 ∧ xs_ef (20 + d) R3 R4 ∧ xf_D_writeData_43 (53 + 24 * d) (lN P) (nI pl) (nI cf) (nI ck) (nI hh) 3 (nI ck) S2 = xf_D_writeData_64 (53 + 24 * d) (lN P) (nI pl) (nI cf) (nI ck) S4 ∧ xf_R_send_71 200 (nI d) (lN P) (nI pl) (nI cf) (nI ck) (nI (20 + d)) (nI cu) (nI (20 + d)) (nI hh) R = xf_R_send_104 200 (nI d) (lN P) (nI pl) (nI cf) (nI ck) (nI (20 + d)) (nI cu) R4 := by
    have b0 : yApp (yApp (yApp (fun _ => hh) 1 addr) 5 ck) 6 cu 0 = hh := by rw [y_app_in (by decide), y_app_in (by decide), y_app_in (by decide)]
    have g9 : xs_gI S2 (53 + 24 * d) 9 = nI cu := (f2.2.2 9 (by decide) (by decide)).trans h9
    have e54 : 53 + 24 * d + 1 = 54 + 24 * d := by omega
    have e67 : 53 + 24 * d + 14 = 67 + 24 * d := by omega
    by_cases hc0 : ck = 0
    · subst hc0
      refine ⟨S3, R3, 8, _, c3, cr3, by decide, b0, t3, e_rf, ef_rf, ?_, ?_⟩
      · unfold xf_D_writeData_43
        rw [g9, e54, e67, show xf_S_begin (54 + 24 * d) (67 + 24 * d) (nI hh) 3 (nI 0) (nI cu) S2 = _ from e3, Option.bind_some, if_pos (show nI 0 = 0 from rfl)]
      · unfold xf_R_send_71 xf_R_send_87
        rw [rd18, Option.bind_some, if_pos (show nI 0 = 0 from rfl), show xf_R_begin 200 (nI (20 + d)) (nI hh) (nI addr) 0 (nI cu) R = _ from er3, Option.bind_some, if_pos (show nI 0 = 0 from rfl)]
    · have hc1 : ck = 1 := by omega
      subst hc1
      obtain ⟨S4, e4, c4, t4, q4⟩ := x_cf_app (v := 2) (j := 1) kf c3 (by decide) (by decide) (by decide)
      obtain ⟨R4, er4, cr4, qr4⟩ := r_write (v := 2) (show 20 + d < 24 by omega) cr3 (by decide) (by decide)
      refine ⟨S4, R4, 9, _, c4, cr4, by decide, by rw [y_app_in (by decide), b0], t4.trans t3, q4, qr4, ?_, ?_⟩
      · unfold xf_D_writeData_43
        rw [g9, e54, e67, show xf_S_begin (54 + 24 * d) (67 + 24 * d) (nI hh) 3 (nI 1) (nI cu) S2 = _ from e3, Option.bind_some, if_neg (show ¬ nI 1 = 0 by decide), show xf_F_append (67 + 24 * d) 2 1 S3 = _ from e4, Option.bind_some]
      · unfold xf_R_send_71 xf_R_send_87
        rw [rd18, Option.bind_some, if_neg (show ¬ nI 1 = 0 by decide), show xf_R_begin 200 (nI (20 + d)) (nI hh) (nI addr) 1 (nI cu) R = _ from er3, Option.bind_some, if_neg (show ¬ nI 1 = 0 by decide), show xf_R_write 200 (nI (20 + d)) 2 R3 = _ from er4, Option.bind_some]
  have e68 : 67 + 24 * d + 1 = 68 + 24 * d := by omega
  rw [e68] at q3 q4
  have q24 : xs_eq [67 + 24 * d, 68 + 24 * d] S2 S4 := e_tr q3 q4
  have hs4 := e_ses q24 (by simp <;> omega) (by simp <;> omega) (by simp <;> omega) (by simp <;> omega) (by simp <;> omega) hs2
  have qR4 : xs_ef (20 + d) R R4 := ef_tr qr3 qr4
  obtain ⟨S5, R5, n5, b5, e5, er5, c5, cr5, hn5, hb5, t5, q5, qr5⟩ := sim_finish (P := P) (pl := pl) (dir := 0) (cnt := cu) kS kf hs4 (e_bx qR4.1 (by decide) (by decide) hx) i31 (e_by qR4.1 (by decide) hk1) (e_by qR4.1 (by decide) hk2) (by omega) (by decide) hP hpl (by omega) (show 20 + d < 24 by omega) c4 cr4
  rw [e68, show 54 + 24 * d + 6 = 60 + 24 * d by omega, show 54 + 24 * d + 9 = 63 + 24 * d by omega] at q5
  have p5 : S5.1 (53 + 24 * d) = S2.1 (53 + 24 * d) := by rw [q5.1 _ (by simp <;> omega), q24.1 _ (by simp <;> omega)]
  have rr : ∀ q, q ∉ [203, 204, 205, 206, 208, 209, 210] → R5.1 q = R.1 q := fun q hq => by
    rw [qr5.1.1 q hq, qR4.1.1 q (by simp at hq ⊢; omega)]
  have aF : ∀ g, g ≠ 20 + d → agF g R R5 := fun g hg => ⟨fun j hj => by rw [qr5.2.1 _ (by omega), qR4.2.1 _ (by omega)], by rw [qr5.2.2 g hg, qR4.2.2 g hg], by rw [rr 211 (by decide)]⟩
  have b5h : b5 0 = hh := by rw [hb5 0 (by omega), hb4]
  generalize hR7 : xs_sI (xs_sI R5 219 d (nI (cu + 1))) 215 d 0 = R7
  have r7 : ∀ q, q ≠ 215 → q ≠ 219 → R7.1 q = R5.1 q := fun q h1 h2 => by rw [← hR7, x_fP h1, x_fP h2]
  refine ⟨xs_sI S5 (53 + 24 * d) 9 (nI (cu + 1)), R7, n5, b5, ?_, ?_, ⟨by rw [x_fP (by omega)]; exact c5.1, c5.2.1, fun i hi => by rw [x_fP (by omega)]; exact c5.2.2 i hi⟩, ⟨by rw [r7 210 (by decide) (by decide)]; exact cr5.1, cr5.2.1, fun i hi => by rw [r7 209 (by decide) (by decide)]; exact cr5.2.2 i hi⟩, by omega, ?_, by rw [x_fP (by omega), t5, t4], x_fI, by rw [x_fN (by decide), p5]; exact f2.2.1, by rw [x_fN (by decide), p5]; exact f2.1, fun j h1 h2 h3 => by rw [x_fN h1, p5]; exact f2.2.2 j h2 h3, e_tr (e_mono q2 (by simp)) (e_tr (e_mono q24 (by simp)) (e_tr (e_mono q5 (by simp)) (e_sI (by simp)))), by rw [← hR7, x_fP (by decide), x_fI], by rw [← hR7, x_fI]; rfl, ?_, fun e he => ⟨by rw [← hR7, x_fN he, x_fP (by decide), rr 215 (by decide)], by rw [← hR7, x_fP (by decide), x_fN he, rr 219 (by decide)]⟩, fun g hg => ⟨fun j hj => by rw [r7 209 (by decide) (by decide)]; exact (aF g hg).1 j hj, by rw [r7 210 (by decide) (by decide)]; exact (aF g hg).2.1, by rw [r7 211 (by decide) (by decide)]; exact (aF g hg).2.2⟩⟩
  · unfold xf_D_writeData xs_sZ
    rw [if_pos (show nI cf = 0 ∨ nI cf = 1 by
      rcases (show cf = 0 ∨ cf = 1 by omega) with rfl | rfl
      · exact Or.inl rfl
      · exact Or.inr rfl), Option.bind_some, Option.bind_some, hS2]
    have e64 : xf_D_writeData_64 (53 + 24 * d) (lN P) (nI pl) (nI cf) (nI ck) S4 = some (xs_sI S5 (53 + 24 * d) 9 (nI (cu + 1))) := by
      unfold xf_D_writeData_64
      have g94 : xs_gI S4 (53 + 24 * d) 9 = nI cu := by
        show S4.1 (53 + 24 * d) 9 = _
        rw [q24.1 _ (by simp <;> omega), f2.2.2 9 (by decide) (by decide), h9]
      have g95 : xs_gI S5 (53 + 24 * d) 9 = nI cu := by
        show S5.1 (53 + 24 * d) 9 = _
        rw [p5, f2.2.2 9 (by decide) (by decide), h9]
      rw [g94, show 53 + 24 * d + 1 = 54 + 24 * d by omega, show 53 + 24 * d + 14 = 67 + 24 * d by omega, show xf_S_finish (54 + 24 * d) (67 + 24 * d) 0 (nI cu) (lN P) (nI pl) S4 = _ from e5, Option.bind_some, Option.bind_some, g95, nI_1]
    have e32 : xf_D_writeData_32 (53 + 24 * d) (lN P) (nI pl) (nI cf) (nI ck) (nI hh) S2 = some (xs_sI S5 (53 + 24 * d) 9 (nI (cu + 1))) := by
      unfold xf_D_writeData_32
      rcases (show ck = 0 ∨ ck = 1 by omega) with rfl | rfl
      · rw [if_pos (show nI 0 = 0 from rfl)]
        exact ec4.trans e64
      · rw [if_neg (show ¬ nI 1 = 0 by decide)]
        exact ec4.trans e64
    rcases (show cf = 0 ∨ cf = 1 by omega) with rfl | rfl
    · rw [if_pos (show nI 0 = 0 from rfl)]
      rw [if_pos rfl] at hh1
      subst hh1
      exact e32
    · rw [if_neg (show ¬ nI 1 = 0 by decide)]
      rw [if_neg (by decide)] at hh1
      subst hh1
      exact e32
  · have e104 : xf_R_send_104 200 (nI d) (lN P) (nI pl) (nI cf) (nI ck) (nI (20 + d)) (nI cu) R4 = ((xf_R_transmit 200 (nI d) R7).bind fun q20 => some (nI cu, q20)) := by
      unfold xf_R_send_104
      rw [x_rd (k := 200 + 18) (show d < 3 from hd), Option.bind_some, show R4.1 (200 + 18) d = nI addr by
        rw [qR4.1.1 (200 + 18) (by decide)]
        exact r18, show (2 : Int32) * nI d = nI (2 * d) from pk_mul 2 d, show (3 : Int32) + nI (2 * d) = nI (3 + 2 * d) from nI_add 3 _, show xf_R_finish 200 (nI (20 + d)) (lN P) (nI pl) (nI (3 + 2 * d)) 0 (nI addr) (nI cu) R4 = _ from er5, Option.bind_some, x_rd (k := 200 + 19) (show d < 3 from hd), Option.bind_some, show R5.1 (200 + 19) d = nI cu by
        rw [rr (200 + 19) (by decide)]
        exact r19, nI_1, x_wr (k := 200 + 19) (show d < 3 from hd), Option.bind_some, x_wr (k := 200 + 15) (show d < 3 from hd), Option.bind_some]
      show (xf_R_transmit 200 (nI d) (xs_sI (xs_sI R5 219 d (nI (cu + 1))) 215 d 0)).bind _ = _
      rw [hR7]
    rw [show (20 : Int32) + nI d = nI (20 + d) from nI_add 20 d]
    rcases (show cf = 0 ∨ cf = 1 by omega) with rfl | rfl
    · rw [if_pos (show nI 0 = 0 from rfl)]
      rw [if_pos rfl] at hh1
      subst hh1
      exact er4.trans e104
    · rw [if_neg (show ¬ nI 1 = 0 by decide)]
      rw [if_neg (by decide)] at hh1
      subst hh1
      exact er4.trans e104
  · rw [b5h, hh1]
    rcases (show cf = 0 ∨ cf = 1 by omega) with rfl | rfl
    · rw [if_pos rfl]
      omega
    · rw [if_neg (by decide)]
      omega
  · rw [← hR7]
    exact e_tr (e_mono (e_tr (e_mono qR4.1 (by decide)) qr5.1) (by decide)) (e_tr (e_sI (by decide)) (e_sI (by decide)))
