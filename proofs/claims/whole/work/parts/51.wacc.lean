/-! the server writes an ACCEPT, both ways -/
def yAm (sr addr : Nat) : Nat → Nat := yApp (yApp (yApp (yApp (yApp (fun _ => 32) 1 sr) 4 19) 7 addr) 11 0) 12 1
def yAw (W : Nat → Nat) (sr addr : Nat) : Nat → Nat := yApp (yAm sr addr) 13 (yNum (yMac W (yAm sr addr) 13) 4)
def yAf (W : Nat → Nat) (sr addr : Nat) : Nat → Nat := fun i => if i < 1 then yAw W sr addr i else yDec W (fun j => yAw W sr addr (1 + j)) (i - 1)
theorem y_am_lt {sr addr : Nat} : ∀ i, i < 13 → yAm sr addr i < 256 := y_app_lt (y_app_lt (y_app_lt (y_app_lt (y_app_lt (fun _ _ => by decide)))))
theorem y_aw_lt {W : Nat → Nat} {sr addr : Nat} : ∀ i, i < 17 → yAw W sr addr i < 256 := y_app_lt y_am_lt
theorem y_af_lt {W : Nat → Nat} {sr addr : Nat} (hW : yB 176 W) : ∀ i, i < 17 → yAf W sr addr i < 256 := fun i hi => by
  unfold yAf
  split
  · exact y_aw_lt i hi
  · exact y_b_dec hW (fun j hj => y_aw_lt _ (by omega)) _ (by omega)
theorem x_wacc {S : xs_T} {d sr addr : Nat} {W : Nat → Nat} (hd : d < 3) (hid : S.1 (123 + 16 * d) 0 = nI d) (h8 : S.1 (123 + 16 * d) 8 = nI sr) (hsr : sr < 2 ^ 24) (ha4 : S.1 (124 + 16 * d) 4 = nI addr) (hal : addr < 2 ^ 32) (hM : xs_mac S (47 + 24 * d) W) :
    ∃ T, xf_K_writeAccept (123 + 16 * d) 121 S = some T ∧ xs_cf T 121 17 (yAf W sr addr) ∧ T.1 121 2 = nI d ∧ xs_eq [121, 122, 52 + 24 * d] S T := by
  obtain ⟨kM, rt, l2⟩ := (by decide +kernel : ∀ d, d < 3 → xs_kd (47 + 24 * d) = 4 ∧ xs_rt (123 + 16 * d) = 47 + 24 * d ∧ xs_ln (49 + 24 * d) = 44) d hd
  have kf : xs_kd 121 = 2 := by decide +kernel
  have l122 : xs_ln 122 = 24 := by decide +kernel
  have hW := hM.1.1
  unfold xf_K_writeAccept
  rw [rt, show xs_gI S (123 + 16 * d) 0 = nI d from hid, show 123 + 16 * d + 1 = 124 + 16 * d by omega]
  obtain ⟨T1, e1, c1, t1, q1⟩ := x_cf_begin (S := S) (h := 32) (t := nI d) kf (by decide)
  rw [show xf_F_begin 121 32 (nI d) S = _ from e1, Option.bind_some, show xs_gI T1 (123 + 16 * d) 8 = nI sr by
    show T1.1 (123 + 16 * d) 8 = _
    rw [q1.1 _ (by simp <;> omega)]
    exact h8]
  obtain ⟨T2, e2, c2, t2, q2⟩ := x_cf_app (v := sr) (j := 3) kf c1 (by omega) (by decide) (by decide)
  rw [show xf_F_append 121 (nI sr) 3 T1 = _ from e2, Option.bind_some]
  obtain ⟨T3, e3, c3, t3, q3⟩ := x_cf_app (v := 19) (j := 3) kf c2 (by omega) (by decide) (by decide)
  rw [show xf_F_append 121 19 3 T2 = _ from e3, Option.bind_some, show xs_gI T3 (124 + 16 * d) 4 = nI addr by
    show T3.1 (124 + 16 * d) 4 = _
    rw [q3.1 _ (by simp <;> omega), q2.1 _ (by simp <;> omega), q1.1 _ (by simp <;> omega)]
    exact ha4]
  obtain ⟨T4, e4, c4, t4, q4⟩ := x_cf_app (v := addr) (j := 4) kf c3 hal (by decide) (by decide)
  rw [show xf_F_append 121 (nI addr) 4 T3 = _ from e4, Option.bind_some]
  obtain ⟨T5, e5, c5, t5, q5⟩ := x_cf_app (v := 0) (j := 1) kf c4 (by decide) (by decide) (by decide)
  rw [show xf_F_append 121 0 1 T4 = _ from e5, Option.bind_some]
  obtain ⟨T6, e6, c6, t6, q6⟩ := x_cf_app (v := 1) (j := 1) kf c5 (by decide) (by decide) (by decide)
  rw [show xf_F_append 121 1 1 T5 = _ from e6, Option.bind_some]
  have cm : xs_cf T6 121 13 (yAm sr addr) := c6
  have q16 : xs_eq [121, 122] S T6 := e_tr q1 (e_tr q2 (e_tr q3 (e_tr q4 (e_tr q5 q6))))
  have m6 : xs_mac T6 (47 + 24 * d) W := e_mac q16 (by simp <;> omega) (by simp <;> omega) (by simp <;> omega) hM
  rw [show xs_gI T6 121 1 = nI 13 from cm.1]
  obtain ⟨T7, e7, q7⟩ := x_code (k := 47 + 24 * d) (a := 122) (n := 13) kM m6 (by decide) (by omega) (by omega) cm.2.2
  rw [show 47 + 24 * d + 5 = 52 + 24 * d by omega] at q7
  rw [show xf_M_codeOf (47 + 24 * d) (121 + 1) (nI 13) T6 = _ from e7, Option.bind_some]
  have c7 : xs_cf T7 121 13 (yAm sr addr) := ⟨by rw [q7.1 _ (by simp <;> omega)]; exact cm.1, cm.2.1, e_by q7 (by simp <;> omega) cm.2.2⟩
  obtain ⟨T8, e8, c8, t8, q8⟩ := x_cf_app (j := 4) kf c7 (x_code4 hW y_am_lt) (by decide) (by decide)
  rw [show xf_F_append 121 _ 4 T7 = _ from e8, Option.bind_some]
  have cw : xs_cf T8 121 17 (yAw W sr addr) := c8
  have q18 : xs_eq [121, 122, 52 + 24 * d] S T8 := e_tr (e_mono q16 (by simp)) (e_tr (e_mono q7 (by simp)) (e_mono q8 (by simp)))
  have m8 := e_mac q8 (by simp <;> omega) (by simp <;> omega) (by simp <;> omega) (e_mac q7 (by simp <;> omega) (by simp <;> omega) (by simp <;> omega) m6)
  have r8 : xs_rk T8 (48 + 24 * d + 1) W := by
    have := m8.1
    rw [show 47 + 24 * d + 2 = 48 + 24 * d + 1 by omega] at this
    exact this
  rw [show xf_C_decipher (47 + 24 * d + 1) (121 + 1) 1 T8 = some (xs_mp T8 122 1 16 fun i => nI (yDec W (fun j => yAw W sr addr (1 + j)) i)) by
    have := x_dec (k := 48 + 24 * d) (a := 122) (fr := 1) (by omega) (by rw [show 48 + 24 * d + 1 = 49 + 24 * d by omega]; exact l2) (by omega) r8 (x_by_le cw.2.2 (m := 16) 1 (by decide))
    rw [show 48 + 24 * d = 47 + 24 * d + 1 by omega] at this
    exact this, Option.bind_some]
  have q9 : xs_eq [122] T8 (xs_mp T8 122 1 16 fun i => nI (yDec W (fun j => yAw W sr addr (1 + j)) i)) := e_mp (by decide)
  refine ⟨_, rfl, ⟨by rw [q9.1 121 (by decide)]; exact cw.1, by decide, fun i hi => ⟨?_, y_af_lt hW i hi⟩⟩, ?_, e_tr q18 (e_mono q9 (by simp))⟩
  · rw [Nat.zero_add]
    show (xs_mp T8 122 1 16 fun i => nI (yDec W (fun j => yAw W sr addr (1 + j)) i)).1 122 i = _
    unfold yAf
    by_cases h : i < 1
    · rw [m_out (by omega), if_pos h]
      have := (cw.2.2 i hi).1
      rw [Nat.zero_add] at this
      exact this
    · obtain ⟨t, rfl⟩ : ∃ t, i = 1 + t := ⟨i - 1, by omega⟩
      rw [m_in (by omega), if_neg h, show 1 + t - 1 = t by omega]
  · rw [q9.1 121 (by decide), t8, q7.1 121 (by simp <;> omega), t6, t5, t4, t3, t2, t1]
theorem r_sacc {R : xs_T} {d sr addr : Nat} {key : Nat → Nat} (hd : d < 3) (hx : xs_bx R) (hk : xs_by R 207 (16 * d) 16 key) (r23 : R.1 223 d = nI sr) (hsr : sr < 2 ^ 24) (r22 : R.1 222 d = nI addr) (hal : addr < 2 ^ 32) :
    ∃ T, xf_R_sendAccept 200 (nI d) R = some T ∧ xs_rf T 23 17 (yAf (ySch key) sr addr) ∧ xs_eh 23 R T := by
  have hkb : yB 16 key := fun j hj => (hk j hj).2
  have hW := y_sc_lt (y_sch (key := key)) hkb
  unfold xf_R_sendAccept
  rw [show xs_wr R (200 + 10) 23 0 = some (xs_sI R 210 23 0) from x_wr (k := 210) (j := 23) (by decide), Option.bind_some]
  have f0 : xs_rf (xs_sI R 210 23 0) 23 0 (fun _ => 32) := ⟨x_fI, by decide, fun i hi => absurd hi (Nat.not_lt_zero i)⟩
  have g0 : xs_ef 23 R (xs_sI R 210 23 0) := ⟨e_sI (by decide), fun j _ => by rw [x_fP (by decide)], fun j hj => x_fN hj⟩
  generalize xs_sI R 210 23 0 = R0 at f0 g0 ⊢
  obtain ⟨R1, e1, f1, g1⟩ := r_write (f := 23) (v := 32) (by decide) f0 (by decide) (by decide)
  rw [show xf_R_write 200 23 32 R0 = _ from e1, Option.bind_some]
  have f1' : xs_rf R1 23 1 (fun _ => 32) := rf_cg (fun i hi => by
    have : i = 0 := by omega
    subst this
    rfl) f1
  have g01 := ef_tr g0 g1
  rw [x_rd (k := 200 + 23) (show d < 3 from hd), Option.bind_some, show R1.1 (200 + 23) d = nI sr by
    rw [g01.1.1 (200 + 23) (by decide)]
    exact r23]
  obtain ⟨R2, e2, f2, g2⟩ := r_wnum (f := 23) (v := sr) (j := 3) (by decide) f1' (by omega) (by decide) (by decide)
  rw [show xf_R_writeNumber 200 23 (nI sr) 3 R1 = _ from e2, Option.bind_some]
  obtain ⟨R3, e3, f3, g3⟩ := r_wnum (f := 23) (v := 19) (j := 3) (by decide) f2 (by omega) (by decide) (by decide)
  rw [show xf_R_writeNumber 200 23 19 3 R2 = _ from e3, Option.bind_some]
  have g03 := ef_tr g01 (ef_tr g2 g3)
  rw [x_rd (k := 200 + 22) (show d < 3 from hd), Option.bind_some, show R3.1 (200 + 22) d = nI addr by
    rw [g03.1.1 (200 + 22) (by decide)]
    exact r22]
  obtain ⟨R4, e4, f4, g4⟩ := r_wnum (f := 23) (v := addr) (j := 4) (by decide) f3 hal (by decide) (by decide)
  rw [show xf_R_writeNumber 200 23 (nI addr) 4 R3 = _ from e4, Option.bind_some]
  obtain ⟨R5, e5, f5, g5⟩ := r_write (f := 23) (v := 0) (by decide) f4 (by decide) (by decide)
  rw [show xf_R_write 200 23 0 R4 = _ from e5, Option.bind_some]
  obtain ⟨R6, e6, f6, g6⟩ := r_write (f := 23) (v := 1) (by decide) f5 (by decide) (by decide)
  rw [show xf_R_write 200 23 1 R5 = _ from e6, Option.bind_some]
  have fm : xs_rf R6 23 13 (yAm sr addr) := f6
  have g06 : xs_ef 23 R R6 := ef_tr g03 (ef_tr g4 (ef_tr g5 g6))
  obtain ⟨R7, e7, s7, q7⟩ := r_rootCode (f := 23) (n := 13) (e_bx g06.1 (by decide) (by decide) hx) (show d < 15 by omega) (e_key g06.1 (by decide) hk) (by decide) fm.2.2 (by decide) (by decide)
  rw [show xf_R_rootCode 200 23 13 (nI d) R6 = _ from e7, Option.bind_some]
  have f7 : xs_rf R7 23 13 (yAm sr addr) := e_rfr q7 (by decide) (by decide) fm
  -- the code
  obtain ⟨R8, ⟨h1, h2⟩, e8⟩ := xl_for (fun g i (T : xs_T) => xf_R_sendAccept_76 200 (nI d) g (nI i) T) (fun i T => xs_rf T 23 (13 + i) (fun j => if j < 13 then yAm sr addr j else yMac (ySch key) (yAm sr addr) 13 (j - 13)) ∧ xs_ef 23 R7 T) 4
    (fun g i T hi hT => by
      obtain ⟨h1, h2⟩ := hT
      have ci := (s7 i (by omega)).2
      obtain ⟨T2, e2, g1, g2⟩ := r_write1 (f := 23) (by decide) h1 (y_and255 ci) ci (by omega)
      refine ⟨T2, ⟨rf_cg (fun t ht => ?_) g1, ef_tr h2 g2⟩, ?_⟩
      · by_cases htn : t < 13 + i
        · rw [if_pos htn]
        · rw [if_neg htn, if_neg (by omega), show t - 13 = i by omega]
      · show xf_R_sendAccept_76 200 (nI d) (g + 1) (nI i) T = _
        rw [xf_R_sendAccept_76, if_neg (show ¬ (4 : Int32) ≤ nI i from nI_ge (b := 4) hi (by decide)), x_rd (k := 200 + 6) (show i < 16 by omega), Option.bind_some, show T.1 (200 + 6) i = nI (yMac (ySch key) (yAm sr addr) 13 i) by
          rw [h2.1.1 (200 + 6) (by decide)]
          exact b_at s7 (by omega), show xf_R_write 200 23 (nI (yMac (ySch key) (yAm sr addr) 13 i)) T = _ from e2, Option.bind_some, nI_1]) 4 0 xs_fuel R7 rfl (by decide) ⟨rf_cg (fun i hi => (if_pos (show i < 13 from hi)).symm) f7, ef_rf⟩
  have fw : xs_rf R8 23 17 (yAw (ySch key) sr addr) := rf_cg (y_app_num (fun i hi => (s7 i (by omega)).2)) h1
  rw [show xf_R_sendAccept_76 200 (nI d) xs_fuel 0 R7 = _ from e8]
  show ∃ T, xf_R_sendAccept_76 200 (nI d) (995 + 1) (nI 4) R8 = some T ∧ _
  rw [xf_R_sendAccept_76, if_pos (show (4 : Int32) ≤ nI 4 from nI_le (a := 4) (Nat.le_refl _) (by decide))]
  have g08 : xs_eh 23 R R8 := eh_tr (eh_ef g06) (eh_tr (eh_eq q7 (by decide) (by decide) (by decide)) (eh_ef h2))
  -- the block
  have e9 := xl_map (fun g j (T : xs_T) => xf_R_sendAccept_101 200 (nI d) g (nI j) T) R8 204 0 16 (fun j => nI (yAw (ySch key) sr addr (1 + j))) (fun g j hj => by
    show xf_R_sendAccept_101 200 (nI d) (g + 1) (nI j) _ = xf_R_sendAccept_101 200 (nI d) g (nI (j + 1)) _
    generalize hT : (xs_mp R8 204 0 j fun j => nI (yAw (ySch key) sr addr (1 + j))) = T
    rw [xf_R_sendAccept_101, if_neg (show ¬ (16 : Int32) ≤ nI j from nI_ge (b := 16) hj (by decide)), show (1 : Int32) + nI j = nI (1 + j) from nI_add 1 j, show xf_R_at 200 23 (nI (1 + j)) T = _ from r_at (f := 23) (by decide) (by omega), Option.bind_some, show T.1 209 (32 * 23 + (1 + j)) = nI (yAw (ySch key) sr addr (1 + j)) by
      rw [← hT, m_ne (by decide)]
      exact (fw.2.2 (1 + j) (by omega)).1, x_wr (k := 200 + 4) (show j < 16 from hj), Option.bind_some, nI_1, Nat.zero_add]) xs_fuel (by decide)
  rw [show xf_R_sendAccept_101 200 (nI d) xs_fuel 0 R8 = _ from e9]
  have q9 : xs_eq [204] R8 (xs_mp R8 204 0 16 fun j => nI (yAw (ySch key) sr addr (1 + j))) := e_mp (by decide)
  have s9 : xs_by (xs_mp R8 204 0 16 fun j => nI (yAw (ySch key) sr addr (1 + j))) 204 0 16 (fun j => yAw (ySch key) sr addr (1 + j)) := m_by (fun j hj => y_aw_lt _ (by omega))
  generalize (xs_mp R8 204 0 16 fun j => nI (yAw (ySch key) sr addr (1 + j))) = R9 at q9 s9 ⊢
  show ∃ T, xf_R_sendAccept_101 200 (nI d) (983 + 1) (nI 16) R9 = some T ∧ _
  rw [xf_R_sendAccept_101, if_pos (show (16 : Int32) ≤ nI 16 from nI_le (a := 16) (Nat.le_refl _) (by decide))]
  have g09 : xs_eh 23 R R9 := eh_tr g08 (eh_eq q9 (by decide) (by decide) (by decide))
  obtain ⟨Ra, ea, sa, qa⟩ := r_dec (e_bx g09.1 (by decide) (by decide) hx) (show d < 15 by omega) (e_key g09.1 (by decide) hk) s9
  rw [ea, Option.bind_some]
  have g0a : xs_eh 23 R Ra := eh_tr g09 (eh_eq qa (by decide) (by decide) (by decide))
  have fa : xs_rf Ra 23 17 (yAw (ySch key) sr addr) := e_rfr qa (by decide) (by decide) (e_rfr q9 (by decide) (by decide) fw)
  have eb := xl_map (fun g j (T : xs_T) => xf_R_sendAccept_135 200 (nI d) g (nI j) T) Ra 209 737 16 (fun j => nI (yDec (ySch key) (fun j => yAw (ySch key) sr addr (1 + j)) j)) (fun g j hj => by
    show xf_R_sendAccept_135 200 (nI d) (g + 1) (nI j) _ = xf_R_sendAccept_135 200 (nI d) g (nI (j + 1)) _
    generalize hT : (xs_mp Ra 209 737 j fun j => nI (yDec (ySch key) (fun j => yAw (ySch key) sr addr (1 + j)) j)) = T
    rw [xf_R_sendAccept_135, if_neg (show ¬ (16 : Int32) ≤ nI j from nI_ge (b := 16) hj (by decide)), x_rd (k := 200 + 4) (show j < 16 from hj), Option.bind_some, show T.1 (200 + 4) j = nI (yDec (ySch key) (fun j => yAw (ySch key) sr addr (1 + j)) j) by
      rw [← hT, m_ne (by decide)]
      exact b_at sa hj, show (737 : Int32) + nI j = nI (737 + j) from nI_add 737 j, x_wr (k := 200 + 9) (show 737 + j < 768 by omega), Option.bind_some, nI_1]) xs_fuel (by decide)
  rw [show xf_R_sendAccept_135 200 (nI d) xs_fuel 0 Ra = _ from eb]
  show ∃ T, xf_R_sendAccept_135 200 (nI d) (983 + 1) (nI 16) _ = some T ∧ _
  rw [xf_R_sendAccept_135, if_pos (show (16 : Int32) ≤ nI 16 from nI_le (a := 16) (Nat.le_refl _) (by decide))]
  refine ⟨_, rfl, ⟨by rw [m_ne (by decide)]; exact fa.1, by decide, fun i hi => ⟨?_, y_af_lt hW i hi⟩⟩, eh_tr g0a ⟨e_mp (by decide), fun j hj => m_out (by omega), fun j _ => by rw [m_ne (by decide)]⟩⟩
  unfold yAf
  by_cases h : i < 1
  · rw [m_out (by omega), if_pos h]
    exact (fa.2.2 i hi).1
  · obtain ⟨t, rfl⟩ : ∃ t, i = 1 + t := ⟨i - 1, by omega⟩
    rw [show 32 * 23 + (1 + t) = 737 + t by omega, m_in (by omega), if_neg h, show 1 + t - 1 = t by omega]
