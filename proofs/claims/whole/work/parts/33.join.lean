/-! join -/
def yJn (d nc : Nat) : Nat → Nat := fun i => if i = 9 then d else if i = 17 then nc % 256 else if i = 18 then nc / 256 % 256 else 0
def yJoin (W : Nat → Nat) (d nc : Nat) : Nat → Nat := yApp (yJn d nc) 19 (yNum (yMac W (yJn d nc) 19) 4)
theorem y_jn_lt {d nc : Nat} (hd : d < 3) : ∀ i, i < 19 → yJn d nc i < 256 := fun i _ => by
  unfold yJn
  split
  · omega
  · split
    · exact Nat.mod_lt _ (by decide)
    · split
      · exact Nat.mod_lt _ (by decide)
      · decide
theorem x_writeJoin {S : xs_T} {d nc : Nat} {W : Nat → Nat} (hd : d < 3) (h0 : S.1 (53 + 24 * d) 0 = nI d) (h7 : S.1 (53 + 24 * d) 7 = nI nc) (hnc : nc < 65535) (hM : xs_mac S (47 + 24 * d) W) :
    ∃ T, xf_D_writeJoin (53 + 24 * d) S = some T ∧ xs_cf T (67 + 24 * d) 23 (yJoin W d (nc + 1)) ∧ T.1 (67 + 24 * d) 2 = nI 3 ∧ T.1 (53 + 24 * d) 7 = nI (nc + 1) ∧ T.1 (53 + 24 * d) 6 = nI 1 ∧ T.1 (53 + 24 * d) 14 = nI 0 ∧ T.1 (53 + 24 * d) 13 = nI 0 ∧ (∀ j, j ≠ 6 → j ≠ 7 → j ≠ 13 → j ≠ 14 → T.1 (53 + 24 * d) j = S.1 (53 + 24 * d) j) ∧ xs_eq [53 + 24 * d, 67 + 24 * d, 68 + 24 * d, 52 + 24 * d] S T := by
  obtain ⟨kf, -, -⟩ := q_fr d hd
  have kM := (by decide +kernel : ∀ d, d < 3 → xs_kd (47 + 24 * d) = 4) d hd
  unfold xf_D_writeJoin
  rw [Option.bind_some, Option.bind_some, show xs_gI S (53 + 24 * d) 7 = nI nc from h7, nI_1]
  have z0 : ∀ T, xs_sZ T (53 + 24 * d) 14 0 = some (xs_sI T (53 + 24 * d) 14 0) := fun T => by
    unfold xs_sZ
    rw [if_pos (Or.inl rfl)]
  rw [z0, Option.bind_some, Option.bind_some, show 53 + 24 * d + 14 = 67 + 24 * d by omega, show 53 + 24 * d + 15 = 68 + 24 * d by omega, show 53 + 24 * d - 6 = 47 + 24 * d by omega]
  generalize hS4 : xs_sI (xs_sI (xs_sI (xs_sI S (53 + 24 * d) 7 (nI (nc + 1))) (53 + 24 * d) 6 1) (53 + 24 * d) 14 0) (53 + 24 * d) 13 0 = S4
  have f4 : S4.1 (53 + 24 * d) 7 = nI (nc + 1) ∧ S4.1 (53 + 24 * d) 6 = nI 1 ∧ S4.1 (53 + 24 * d) 14 = nI 0 ∧ S4.1 (53 + 24 * d) 13 = nI 0 := ⟨by rw [← hS4, x_fN (by decide), x_fN (by decide), x_fN (by decide), x_fI], by rw [← hS4, x_fN (by decide), x_fN (by decide), x_fI]; rfl, by rw [← hS4, x_fN (by decide), x_fI]; rfl, by rw [← hS4, x_fI]; rfl⟩
  have g4 : ∀ j, j ≠ 6 → j ≠ 7 → j ≠ 13 → j ≠ 14 → S4.1 (53 + 24 * d) j = S.1 (53 + 24 * d) j := fun j h1 h2 h3 h4 => by rw [← hS4, x_fN h3, x_fN h4, x_fN h1, x_fN h2]
  have q4 : xs_eq [53 + 24 * d] S S4 := by
    rw [← hS4]
    exact e_tr (e_sI (by simp)) (e_tr (e_sI (by simp)) (e_tr (e_sI (by simp)) (e_sI (by simp))))
  obtain ⟨T5, e5, c5, t5, q5⟩ := x_cf_begin (S := S4) (h := 0) (t := nI 3) kf (by decide)
  rw [show xf_F_begin (67 + 24 * d) 0 3 S4 = _ from e5, Option.bind_some]
  obtain ⟨T6, e6, c6, t6, q6⟩ := x_cf_zeros (m := 8) kf c5 (by decide)
  rw [show xf_F_appendZeros (67 + 24 * d) 8 T5 = _ from e6, Option.bind_some]
  have p6 : T6.1 (53 + 24 * d) = S4.1 (53 + 24 * d) := by rw [q6.1 _ (by simp <;> omega), q5.1 _ (by simp <;> omega)]
  rw [show xs_gI T6 (53 + 24 * d) 0 = nI d by
    show T6.1 (53 + 24 * d) 0 = _
    rw [p6, g4 0 (by decide) (by decide) (by decide) (by decide), h0]]
  obtain ⟨T7, e7, c7, t7, q7⟩ := x_cf_app (v := d) (j := 1) kf c6 (by omega) (by decide) (by decide)
  rw [show xf_F_append (67 + 24 * d) (nI d) 1 T6 = _ from e7, Option.bind_some]
  obtain ⟨T8, e8, c8, t8, q8⟩ := x_cf_zeros (m := 7) kf c7 (by decide)
  rw [show xf_F_appendZeros (67 + 24 * d) 7 T7 = _ from e8, Option.bind_some]
  have p8 : T8.1 (53 + 24 * d) = S4.1 (53 + 24 * d) := by rw [q8.1 _ (by simp <;> omega), q7.1 _ (by simp <;> omega), p6]
  rw [show xs_gI T8 (53 + 24 * d) 7 = nI (nc + 1) by
    show T8.1 (53 + 24 * d) 7 = _
    rw [p8, f4.1]]
  obtain ⟨T9, e9, c9, t9, q9⟩ := x_cf_app (v := nc + 1) (j := 2) kf c8 (by omega) (by decide) (by decide)
  rw [show xf_F_append (67 + 24 * d) (nI (nc + 1)) 2 T8 = _ from e9, Option.bind_some]
  have c9 : xs_cf T9 (67 + 24 * d) 19 (yJn d (nc + 1)) := cf_cg (fun i hi => by
    unfold yApp yJn
    dsimp only
    rcases (show i < 9 ∨ i = 9 ∨ (10 ≤ i ∧ i < 17) ∨ i = 17 ∨ i = 18 by omega) with h | h | h | h | h
    · rw [if_pos (show i < 1 + 8 + 1 + 7 by omega), if_pos (show i < 1 + 8 + 1 by omega), if_pos (show i < 1 + 8 by omega), if_neg (show ¬ i = 9 by omega), if_neg (show ¬ i = 17 by omega), if_neg (show ¬ i = 18 by omega)]
      split <;> rfl
    · subst h
      rw [if_pos (show 9 < 1 + 8 + 1 + 7 by decide), if_pos (show 9 < 1 + 8 + 1 by decide), if_neg (show ¬ 9 < 1 + 8 by decide), if_pos rfl]
      show d / 1 % 256 = d
      omega
    · rw [if_pos (show i < 1 + 8 + 1 + 7 by omega), if_neg (show ¬ i < 1 + 8 + 1 by omega), if_neg (show ¬ i = 9 by omega), if_neg (show ¬ i = 17 by omega), if_neg (show ¬ i = 18 by omega)]
    · subst h
      rw [if_neg (show ¬ 17 < 1 + 8 + 1 + 7 by decide), if_neg (show ¬ 17 = 9 by decide), if_pos rfl]
      show (nc + 1) / 1 % 256 = _
      rw [Nat.div_one]
    · subst h
      rw [if_neg (show ¬ 18 < 1 + 8 + 1 + 7 by decide), if_neg (show ¬ 18 = 9 by decide), if_neg (show ¬ 18 = 17 by decide), if_pos rfl]) c9
  have e68 : 67 + 24 * d + 1 = 68 + 24 * d := by omega
  rw [e68] at q5 q6 q7 q8 q9
  have qa : xs_eq [67 + 24 * d, 68 + 24 * d] S4 T9 := e_tr q5 (e_tr q6 (e_tr q7 (e_tr q8 q9)))
  have mM : xs_mac T9 (47 + 24 * d) W := e_mac qa (by simp <;> omega) (by simp <;> omega) (by simp <;> omega) (e_mac q4 (by simp <;> omega) (by simp <;> omega) (by simp <;> omega) hM)
  rw [show xs_gI T9 (67 + 24 * d) 1 = nI 19 from c9.1]
  have l68 : xs_ln (68 + 24 * d) = 24 := by
    have := x_kF kf
    rw [show 67 + 24 * d + 1 = 68 + 24 * d by omega] at this
    exact this
  have b9 : xs_by T9 (68 + 24 * d) 0 19 (yJn d (nc + 1)) := by
    have := c9.2.2
    rw [show 67 + 24 * d + 1 = 68 + 24 * d by omega] at this
    exact this
  obtain ⟨Ta, ea, qb⟩ := x_code (k := 47 + 24 * d) (a := 68 + 24 * d) (n := 19) kM mM (by decide) (by omega) (by omega) b9
  rw [ea, Option.bind_some]
  have qb' : xs_eq [52 + 24 * d] T9 Ta := by
    rw [show 47 + 24 * d + 5 = 52 + 24 * d by omega] at qb
    exact qb
  have ca : xs_cf Ta (67 + 24 * d) 19 (yJn d (nc + 1)) := ⟨by rw [qb'.1 _ (by simp <;> omega)]; exact c9.1, c9.2.1, e_by qb' (by simp <;> omega) c9.2.2⟩
  obtain ⟨Tb, eb, cb, tb, qc⟩ := x_cf_app (j := 4) kf ca (x_code4 mM.1.1 (y_jn_lt hd)) (by decide) (by decide)
  rw [show xf_F_append (67 + 24 * d) _ 4 Ta = _ from eb, Option.bind_some]
  rw [e68] at qc
  have pb : Tb.1 (53 + 24 * d) = S4.1 (53 + 24 * d) := by rw [qc.1 _ (by simp <;> omega), qb'.1 _ (by simp <;> omega), qa.1 _ (by simp <;> omega)]
  refine ⟨Tb, rfl, cb, ?_, by rw [pb]; exact f4.1, by rw [pb]; exact f4.2.1, by rw [pb]; exact f4.2.2.1, by rw [pb]; exact f4.2.2.2, fun j h1 h2 h3 h4 => by rw [pb]; exact g4 j h1 h2 h3 h4, e_tr (e_mono q4 (by simp)) (e_tr (e_mono qa (by simp)) (e_tr (e_mono qb' (by simp)) (e_mono qc (by simp))))⟩
  rw [tb, qb'.1 _ (by simp <;> omega), t9, t8, t7, t6, t5]
theorem r_joinHead {R : xs_T} {d nc : Nat} {key : Nat → Nat} (hx : xs_bx R) (hd : d < 3) (hk : xs_by R 207 (16 * d) 16 key) (w0 : R.1 213 d = nI 0) (h16 : R.1 216 d = nI nc) (hnc : nc < 65535) :
    ∃ T, xf_R_join 200 (nI d) R = ((xf_R_transmit 200 (nI d) T).bind fun q19 => (xs_rd q19 (200 + 16) (nI d)).bind fun v20 => some (v20, q19)) ∧ xs_rf T (20 + d) 23 (yJoin (ySch key) d (nc + 1)) ∧ T.1 216 d = nI (nc + 1) ∧ T.1 212 d = nI 1 ∧ T.1 215 d = nI 0 ∧ xs_eq [203, 204, 205, 206, 208, 209, 210, 212, 215, 216] R T ∧ (∀ e, e ≠ d → T.1 212 e = R.1 212 e ∧ T.1 215 e = R.1 215 e ∧ T.1 216 e = R.1 216 e) ∧ ∀ f, f ≠ 20 + d → agF f R T := by
  have hkb : yB 16 key := fun j hj => (hk j hj).2
  have hW := y_sc_lt (y_sch (key := key)) hkb
  unfold xf_R_join
  have eb := (q_dev (nI d)).resolve_left (fun hh => by
    rcases q_below (nI d) (n := 3) (by decide) with h | ⟨j, hj, e, h⟩
    · exact h.2 d hd rfl
    · have := hh.2.symm.trans (show xf_R_below (nI d) 3 = _ from h)
      cases this)
  obtain ⟨_, _, _, _, eb⟩ := eb
  have n0 : ¬ nI nc = 65535 := fun e => by
    have := (nI_eq (b := 65535) (by omega) (by decide)).mp e
    omega
  rw [eb, Option.bind_some, if_neg i10, x_rd (k := 200 + 13) (show d < 3 from hd), Option.bind_some, if_pos (show R.1 (200 + 13) d = 0 from w0), x_rd (k := 200 + 16) (show d < 3 from hd), Option.bind_some, show R.1 (200 + 16) d = nI nc from h16, if_neg n0, Option.bind_some, nI_1, x_wr (k := 200 + 16) (show d < 3 from hd), Option.bind_some, x_wr (k := 200 + 12) (show d < 3 from hd), Option.bind_some, show (20 : Int32) + nI d = nI (20 + d) from nI_add 20 d, x_wr (k := 200 + 10) (show 20 + d < 24 by omega), Option.bind_some]
  generalize hR1 : xs_sI (xs_sI (xs_sI R (200 + 16) d (nI (nc + 1))) (200 + 12) d 1) (200 + 10) (20 + d) 0 = R1
  have f1 : xs_rf R1 (20 + d) 0 (fun _ => 0) := ⟨by rw [← hR1]; exact x_fI, by decide, fun i hi => absurd hi (Nat.not_lt_zero i)⟩
  have v1 : R1.1 216 d = nI (nc + 1) ∧ R1.1 212 d = nI 1 := ⟨by
    rw [← hR1, x_fP (by decide), x_fP (by decide)]
    exact x_fI, by
    rw [← hR1, x_fP (by decide)]
    exact x_fI⟩
  have u1 : ∀ e, e ≠ d → R1.1 212 e = R.1 212 e ∧ R1.1 216 e = R.1 216 e := fun e he => ⟨by
    rw [← hR1, x_fP (by decide)]
    show (xs_sI (xs_sI R 216 d _) 212 d 1).1 212 e = _
    rw [x_fN he, x_fP (by decide)], by
    rw [← hR1, x_fP (by decide), x_fP (by decide)]
    exact x_fN he⟩
  have q1 : xs_eq [210, 212, 216] R R1 := by
    rw [← hR1]
    exact e_tr (e_sI (by decide)) (e_tr (e_sI (by decide)) (e_sI (by decide)))
  have a1 : ∀ f, f ≠ 20 + d → agF f R R1 := fun f hf => ⟨fun j _ => by rw [q1.1 209 (by decide)], by
    rw [← hR1]
    show (xs_sI _ 210 (20 + d) 0).1 210 f = _
    rw [x_fN hf, x_fP (by decide), x_fP (by decide)], by rw [q1.1 211 (by decide)]⟩
  obtain ⟨R2, ⟨f2, q2⟩, e2⟩ := xl_for (fun g i (T : xs_T) => xf_R_join_61 200 (nI d) g (nI (20 + d)) (nI i) T) (fun i T => xs_rf T (20 + d) i (fun _ => 0) ∧ xs_ef (20 + d) R1 T) 9
    (fun g i T hi hT => by
      obtain ⟨fT, qT⟩ := hT
      obtain ⟨T2, e2, f2, q2⟩ := r_write1 (c := 0) (show 20 + d < 24 by omega) fT (show (0 : Int32) &&& 255 = nI 0 by decide) (by decide) (by omega)
      refine ⟨T2, ⟨rf_cg (fun j hj => by split <;> rfl) f2, ef_tr qT q2⟩, ?_⟩
      show xf_R_join_61 200 (nI d) (g + 1) (nI (20 + d)) (nI i) T = _
      rw [xf_R_join_61, if_neg (show ¬ (9 : Int32) ≤ nI i from nI_ge (b := 9) hi (by decide)), e2, Option.bind_some, nI_1]) 9 0 xs_fuel R1 rfl (by decide) ⟨f1, ef_rf⟩
  rw [show xf_R_join_61 200 (nI d) xs_fuel (nI (20 + d)) 0 R1 = _ from e2]
  show ∃ T, xf_R_join_61 200 (nI d) (990 + 1) (nI (20 + d)) (nI 9) R2 = _ ∧ _
  rw [xf_R_join_61, if_pos (show (9 : Int32) ≤ nI 9 from nI_le (a := 9) (Nat.le_refl _) (by decide))]
  obtain ⟨R3, e3, f3, q3⟩ := r_wnum (v := d) (j := 4) (show 20 + d < 24 by omega) f2 (by omega) (by decide) (by decide)
  rw [show xf_R_writeNumber 200 (nI (20 + d)) (nI d) 4 R2 = _ from e3, Option.bind_some]
  obtain ⟨R4, e4, f4, q4⟩ := r_wnum (v := 0) (j := 4) (show 20 + d < 24 by omega) f3 (by decide) (by decide) (by decide)
  rw [show xf_R_writeNumber 200 (nI (20 + d)) 0 4 R3 = _ from e4, Option.bind_some]
  have qh : xs_ef (20 + d) R1 R4 := ef_tr q2 (ef_tr q3 q4)
  rw [x_rd (k := 200 + 16) (show d < 3 from hd), Option.bind_some, show R4.1 (200 + 16) d = nI (nc + 1) by
    rw [qh.1.1 (200 + 16) (by decide)]
    exact v1.1]
  obtain ⟨R5, e5, f5, q5⟩ := r_wnum (v := nc + 1) (j := 2) (show 20 + d < 24 by omega) f4 (by omega) (by decide) (by decide)
  rw [show xf_R_writeNumber 200 (nI (20 + d)) (nI (nc + 1)) 2 R4 = _ from e5, Option.bind_some]
  have f5 : xs_rf R5 (20 + d) 19 (yJn d (nc + 1)) := rf_cg (fun i hi => by
    unfold yApp yJn
    dsimp only
    rcases (show i < 9 ∨ i = 9 ∨ (10 ≤ i ∧ i < 13) ∨ (13 ≤ i ∧ i < 17) ∨ i = 17 ∨ i = 18 by omega) with h | h | h | h | h | h
    · rw [if_pos (show i < 9 + 4 + 4 by omega), if_pos (show i < 9 + 4 by omega), if_pos h, if_neg (show ¬ i = 9 by omega), if_neg (show ¬ i = 17 by omega), if_neg (show ¬ i = 18 by omega)]
    · subst h
      rw [if_pos (show 9 < 9 + 4 + 4 by decide), if_pos (show 9 < 9 + 4 by decide), if_neg (show ¬ 9 < 9 by decide), if_pos rfl]
      show d / 1 % 256 = d
      omega
    · rw [if_pos (show i < 9 + 4 + 4 by omega), if_pos (show i < 9 + 4 by omega), if_neg (show ¬ i < 9 by omega), if_neg (show ¬ i = 9 by omega), if_neg (show ¬ i = 17 by omega), if_neg (show ¬ i = 18 by omega), Nat.div_eq_of_lt]
      exact Nat.lt_of_lt_of_le (show d < 2 ^ 8 by omega) (Nat.pow_le_pow_right (by decide) (by omega))
    · rw [if_pos (show i < 9 + 4 + 4 by omega), if_neg (show ¬ i < 9 + 4 by omega), if_neg (show ¬ i = 9 by omega), if_neg (show ¬ i = 17 by omega), if_neg (show ¬ i = 18 by omega), Nat.zero_div]
    · subst h
      rw [if_neg (show ¬ 17 < 9 + 4 + 4 by decide), if_neg (show ¬ 17 = 9 by decide), if_pos rfl]
      show (nc + 1) / 1 % 256 = _
      rw [Nat.div_one]
    · subst h
      rw [if_neg (show ¬ 18 < 9 + 4 + 4 by decide), if_neg (show ¬ 18 = 9 by decide), if_neg (show ¬ 18 = 17 by decide), if_pos rfl]) f5
  have qi : xs_ef (20 + d) R1 R5 := ef_tr qh q5
  have qi' : xs_eq [209, 210, 212, 216] R R5 := e_tr (e_mono q1 (by decide)) (e_mono qi.1 (by decide))
  obtain ⟨R6, e6, s6, q6⟩ := r_rootCode (n := 19) (e_bx qi' (by decide) (by decide) hx) (by omega) (e_by qi' (by decide) hk) (show 20 + d < 24 by omega) f5.2.2 (by decide) (by decide)
  rw [show xf_R_rootCode 200 (nI (20 + d)) 19 (nI d) R5 = _ from e6, Option.bind_some]
  have f6 := e_rfr q6 (by decide) (by decide) f5
  obtain ⟨R7, ⟨f7, q7⟩, e7⟩ := xl_for (fun g i (T : xs_T) => xf_R_join_115 200 (nI d) g (nI (20 + d)) (nI i) T) (fun i T => xs_rf T (20 + d) (19 + i) (fun j => if j < 19 then yJn d (nc + 1) j else yMac (ySch key) (yJn d (nc + 1)) 19 (j - 19)) ∧ xs_ef (20 + d) R6 T) 4
    (fun g i T hi hT => by
      obtain ⟨fT, qT⟩ := hT
      have ci := (s6 i (by omega)).2
      obtain ⟨T2, e2, f2, q2⟩ := r_write1 (show 20 + d < 24 by omega) fT (y_and255 ci) ci (by omega)
      refine ⟨T2, ⟨rf_cg (fun t ht => ?_) f2, ef_tr qT q2⟩, ?_⟩
      · by_cases htn : t < 19 + i
        · rw [if_pos htn]
        · rw [if_neg htn, if_neg (by omega), show t - 19 = i by omega]
      · show xf_R_join_115 200 (nI d) (g + 1) (nI (20 + d)) (nI i) T = _
        rw [xf_R_join_115, if_neg (show ¬ (4 : Int32) ≤ nI i from nI_ge (b := 4) hi (by decide)), x_rd (k := 200 + 6) (show i < 16 by omega), Option.bind_some, show T.1 (200 + 6) i = nI (yMac (ySch key) (yJn d (nc + 1)) 19 i) by
          rw [qT.1.1 (200 + 6) (by decide)]
          exact b_at s6 (by omega), e2, Option.bind_some, nI_1]) 4 0 xs_fuel R6 rfl (by decide) ⟨rf_cg (fun i hi => (if_pos (show i < 19 from hi)).symm) f6, ef_rf⟩
  rw [show xf_R_join_115 200 (nI d) xs_fuel (nI (20 + d)) 0 R6 = _ from e7]
  show ∃ T, xf_R_join_115 200 (nI d) (995 + 1) (nI (20 + d)) (nI 4) R7 = _ ∧ _
  rw [xf_R_join_115, if_pos (show (4 : Int32) ≤ nI 4 from nI_le (a := 4) (Nat.le_refl _) (by decide)), x_wr (k := 200 + 15) (show d < 3 from hd), Option.bind_some]
  have f7 : xs_rf R7 (20 + d) 23 (yJoin (ySch key) d (nc + 1)) := rf_cg (y_app_num (fun i hi => (s6 i (by omega)).2)) f7
  have qz : xs_eq [203, 204, 205, 206, 208, 209, 210, 212, 216] R R7 := e_tr (e_mono qi' (by decide)) (e_tr (e_mono q6 (by decide)) (e_mono q7.1 (by decide)))
  have p7 : ∀ q, q = 212 ∨ q = 216 → R7.1 q = R1.1 q := fun q hq => by
    rw [q7.1.1 q (by simp <;> omega), q6.1 q (by simp <;> omega), qi.1.1 q (by simp <;> omega)]
  refine ⟨_, rfl, ⟨by rw [x_fP (by decide)]; exact f7.1, f7.2.1, fun i hi => by rw [x_fP (by decide)]; exact f7.2.2 i hi⟩, by rw [x_fP (by decide), p7 216 (by omega)]; exact v1.1, by rw [x_fP (by decide), p7 212 (by omega)]; exact v1.2, x_fI, e_tr (e_mono qz (by decide)) (e_sI (by decide)), fun e he => ⟨by rw [x_fP (by decide), p7 212 (by omega)]; exact (u1 e he).1, ?_, by rw [x_fP (by decide), p7 216 (by omega)]; exact (u1 e he).2⟩, fun f hf => ?_⟩
  · show (xs_sI R7 215 d 0).1 215 e = _
    rw [x_fN he, qz.1 215 (by decide)]
  · have t1 : agF f R1 R5 := ⟨fun j _ => qi.2.1 _ (by omega), qi.2.2 f hf, by rw [qi.1.1 211 (by decide)]⟩
    have t2 : agF f R5 R6 := ⟨fun j _ => by rw [q6.1 209 (by decide)], by rw [q6.1 210 (by decide)], by rw [q6.1 211 (by decide)]⟩
    have t3 : agF f R6 R7 := ⟨fun j _ => q7.2.1 _ (by omega), q7.2.2 f hf, by rw [q7.1.1 211 (by decide)]⟩
    have t4 : agF f R7 (xs_sI R7 (200 + 15) d 0) := ⟨fun j _ => by rw [x_fP (by decide)], by rw [x_fP (by decide)], by rw [x_fP (by decide)]⟩
    exact agF_tr (a1 f hf) (agF_tr t1 (agF_tr t2 (agF_tr t3 t4)))
theorem relOneD2 {K : Nat → Nat → Nat} {N M tm d : Nat} {S S2 R R2 : xs_T} (h : Rel K N tm S R) (hNM : N ≤ M) (hd : d < 3) (hS : xs_ag (fun q => (q < 53 + 24 * d ∨ 71 + 24 * d ≤ q) ∧ ∀ e, e < 3 → q ≠ 52 + 24 * e) S S2) (hT : agT R R2) (hG : agG R R2) (hA : agA R R2) (hD : ∀ e, e < 3 → e ≠ d → agD e R R2) (hK : ∀ e, e < 3 → agK e R R2) (hn : relD M tm d S2 R2) : Rel K M tm S2 R2 := by
  refine ⟨relT_fr h.1 (ag_mono hS fun q hq => ?_) hT, relG_fr h.2.1 hNM (ag_mono hS fun q hq => ⟨by omega, fun e he => by omega⟩) hG, relA_fr h.2.2.1 hNM (ag_mono hS fun q hq => ⟨by omega, fun e he => by omega⟩) hA, fun e he => ?_, fun e he => relK_fr (h.2.2.2.2 e he) hNM (ag_mono hS fun q hq => ⟨by omega, fun e he => by omega⟩) (hK e he)⟩
  · obtain ⟨e, he, h1, h2⟩ := hq
    exact ⟨by omega, fun e' he' => by omega⟩
  · by_cases hed : e = d
    · subst hed
      exact hn
    · exact relD_fr (h.2.2.2.1 e he) hNM (Nat.le_refl _) (ag_mono hS fun q hq => ⟨by omega, fun e' he' => by omega⟩) (hD e he hed)
theorem y_join0 {W : Nat → Nat} {d nc : Nat} : yJoin W d nc 0 = 0 := rfl
theorem sim_join {K : Nat → Nat → Nat} {N tm : Nat} {S R : xs_T} (h : Rel K N tm S R) (hN : N ≤ 512) (x : Int32) : Sim K N tm S R (xf_W_join 0 x S) (xf_R_join 200 x R) := by
  rcases q_dev x with ⟨e1, e2⟩ | ⟨d, hd, rfl, e1, e2⟩
  · exact sim_no (v := -1) h (by unfold xf_W_join; rw [e1, Option.bind_some, if_pos rfl]) (by unfold xf_R_join; rw [e2, Option.bind_some, if_pos rfl])
  obtain ⟨h0, ⟨st, nc, gs, cu, w, sa, ts, cf, ⟨a1, a2, a3⟩, ⟨b1, b2, b3⟩, ⟨c1, c2, c3⟩, ⟨d1, d2, d3⟩, ⟨w1, w2, w3⟩, ⟨f1, f2, f3⟩, ⟨g1, g2, g3⟩, ⟨i1, i2⟩, j1, ⟨n, b, k1, k2, k3, k4⟩, l1⟩, h2, h3⟩ := h.2.2.2.1 d hd
  have ed := q_rdD h.2.1 hd
  by_cases hw : w = 0
  rotate_left
  · have hw' : ¬ nI w = 0 := nI_ne0 (by omega) (by omega)
    exact sim_no (v := -1) h (by unfold xf_W_join; rw [e1, Option.bind_some, if_neg i10, ed, Option.bind_some, if_neg (show ¬ xs_gI S (53 + 24 * d) 11 = 0 from fun e => hw' (w1.symm.trans e))]) (by unfold xf_R_join; rw [e2, Option.bind_some, if_neg i10, x_rd (k := 200 + 13) (show d < 3 from hd), Option.bind_some, if_neg (show ¬ R.1 (200 + 13) d = 0 from fun e => hw' (w2.symm.trans e))])
  subst hw
  obtain ⟨kd, -⟩ := q_fr d hd
  obtain ⟨hkey, hmac⟩ := h.1.2 d hd
  obtain ⟨S1, es1, cS, tS, s7, s6, s14, s13, sj, qS⟩ := x_writeJoin hd h0 b1 (by omega) hmac
  obtain ⟨R1, er1, cR, r16, r12, r15, qR, uR, aR⟩ := r_joinHead h.1.1 hd hkey w2 b2 (by omega)
  have s2 : S1.2 = S.2 := qS.2
  have agS : xs_ag (fun q => q ≠ 53 + 24 * d ∧ q ≠ 67 + 24 * d ∧ q ≠ 68 + 24 * d ∧ q ≠ 52 + 24 * d) S S1 := ag_eq qS fun q hq => by simp; omega
  have rq : ∀ q, q ∉ [203, 204, 205, 206, 208, 209, 210, 212, 215, 216] → R1.1 q = R.1 q := qR.1
  have r2 : R1.2 = R.2 := qR.2
  have hrel : Rel K (N + 1) tm S1 R1 := by
    refine relOneD2 h (Nat.le_succ N) hd (ag_mono agS fun q hq => ?_) ⟨rq 201 (by decide), rq 202 (by decide), fun j _ => by rw [rq 207 (by decide)]⟩ ⟨by rw [rq 200 (by decide)], by rw [rq 200 (by decide)]⟩ ⟨by rw [rq 200 (by decide)], by rw [rq 200 (by decide)], fun f hf => aR f (by omega)⟩ (fun e he hed => ⟨fun q h1 h2 => ?_, fun j _ => by rw [rq 236 (by decide)], by rw [rq 234 (by decide)], fun j _ => by rw [r2], aR (20 + e) (by omega), fun j _ => by rw [rq 207 (by decide)]⟩) (fun e he => ⟨fun q h1 h2 => by rw [rq q (by simp; omega)], by rw [rq 233 (by decide)], fun j _ => ⟨by rw [r2], by rw [rq 232 (by decide)]⟩, by rw [rq 234 (by decide)], fun j _ => by rw [r2], fun j _ => by rw [rq 207 (by decide)]⟩) ?_
    · have := hq.2 d hd
      omega
    · by_cases h12 : q = 212
      · rw [h12]
        exact (uR e hed).1
      by_cases h15 : q = 215
      · rw [h15]
        exact (uR e hed).2.1
      by_cases h16 : q = 216
      · rw [h16]
        exact (uR e hed).2.2
      rw [rq q (by simp; omega)]
    · refine ⟨by rw [sj 0 (by decide) (by decide) (by decide) (by decide)]; exact h0, ⟨1, nc + 1, gs, cu, 0, sa, 0, 0, ⟨s6, r12, by decide⟩, ⟨s7, r16, by omega⟩, ⟨by rw [sj 8 (by decide) (by decide) (by decide) (by decide)]; exact c1, by rw [rq 217 (by decide)]; exact c2, c3⟩, ⟨by rw [sj 9 (by decide) (by decide) (by decide) (by decide)]; exact d1, by rw [rq 219 (by decide)]; exact d2, by omega⟩, ⟨by rw [sj 11 (by decide) (by decide) (by decide) (by decide)]; exact w1, by rw [rq 213 (by decide)]; exact w2, by decide⟩, ⟨by rw [sj 12 (by decide) (by decide) (by decide) (by decide)]; exact f1, by rw [rq 214 (by decide)]; exact f2, f3⟩, ⟨s13, r15, by decide⟩, ⟨s14, by decide⟩, fun hh => absurd hh (by decide), ⟨23, _, cS, cR, fun hh => absurd hh (by decide), fun _ => ⟨by decide, ⟨fun hh => absurd hh (by decide), fun hh => absurd hh (by rw [y_join0]; decide)⟩⟩⟩, fun hh => absurd hh (by decide)⟩, fun j hj => by rw [sj _ (by omega) (by omega) (by omega) (by omega), rq 236 (by decide)]; exact h2 j hj, relI_fr h3 (Nat.le_succ N) agS (by omega) (by omega) (by rw [rq 234 (by decide)]) (fun j _ => by rw [r2])⟩
  obtain ⟨S2, R2, k1', k2', k3', k4', k5', k6', k7', k8', k9'⟩ := sim_dtx hrel hd (by omega) (by
    obtain ⟨-, ⟨sn, z1, z2, z3, -⟩, -⟩ := h.2.2.1
    exact ⟨sn, by rw [qS.1 1 (by simp <;> omega)]; exact z1, by omega⟩) (fun n b c => by
    have := (nI_eq (by have := c.2.1; omega) (by decide)).mp (c.1.symm.trans cS.1)
    omega) tS s13 (by decide) s6 (by decide) (by decide)
  refine ⟨nI (nc + 1), S2, R2, tm, ?_, ?_, k3', ag_tr (ag_mono agS fun q hq => by omega) k4', ag_tr (ag_eq qR fun q hq => by simp; omega) k5'⟩
  · have et : xs_gI S1 0 3 = nI tm := by
      show S1.1 0 3 = _
      rw [qS.1 0 (by simp <;> omega)]
      exact h.2.1.1.1
    have ed1 : xs_rdU S1 (0 + 44) (nI d) xs_cD = some (53 + 24 * d) := q_rdD hrel.2.1 hd
    have ed2 : xs_rdU S2 (0 + 44) (nI d) xs_cD = some (53 + 24 * d) := q_rdD k3'.2.1 hd
    unfold xf_W_join
    rw [e1, Option.bind_some, if_neg i10, ed, Option.bind_some, if_pos (show xs_gI S (53 + 24 * d) 11 = 0 from w1), Option.bind_some, if_pos (show xs_gI S (53 + 24 * d) 7 < 65535 by
      rw [show xs_gI S (53 + 24 * d) 7 = nI nc from b1]
      exact nI_lt (b := 65535) (by omega) (by decide)), Option.bind_some, es1, Option.bind_some, ed1, Option.bind_some, et, show xf_D_transmit (53 + 24 * d) (0 + 1) (nI tm) S1 = _ from k1', Option.bind_some, ed2, Option.bind_some]
    exact congrArg (fun z => some (z, S2)) ((k6' 7 (by decide)).trans s7)
  · rw [er1, k2', Option.bind_some, x_rd (k := 200 + 16) (show d < 3 from hd), Option.bind_some]
    show some (R2.1 216 d, R2) = _
    rw [k7', r16]
