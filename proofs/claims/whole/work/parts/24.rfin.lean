/-! the reference's data frames -/
def xs_eh (f : Nat) (S T : xs_T) : Prop := xs_eq [203, 204, 205, 206, 208, 209, 210] S T ∧ (∀ j, j < 32 * f ∨ 32 * f + 32 ≤ j → T.1 209 j = S.1 209 j) ∧ ∀ j, j ≠ f → T.1 210 j = S.1 210 j
theorem eh_rf {f : Nat} {S : xs_T} : xs_eh f S S := ⟨e_rf, fun _ _ => rfl, fun _ _ => rfl⟩
theorem eh_tr {f : Nat} {S T U : xs_T} (h1 : xs_eh f S T) (h2 : xs_eh f T U) : xs_eh f S U := ⟨e_tr h1.1 h2.1, fun j h => (h2.2.1 j h).trans (h1.2.1 j h), fun j h => (h2.2.2 j h).trans (h1.2.2 j h)⟩
theorem eh_ef {f : Nat} {S T : xs_T} (h : xs_ef f S T) : xs_eh f S T := ⟨e_mono h.1 (by decide), h.2.1, h.2.2⟩
theorem eh_eq {f : Nat} {ps : List Nat} {S T : xs_T} (h : xs_eq ps S T) (h1 : ∀ x ∈ ps, x ∈ [203, 204, 205, 206, 208, 209, 210]) (h2 : 209 ∉ ps) (h3 : 210 ∉ ps) : xs_eh f S T := ⟨e_mono h h1, fun j _ => by rw [h.1 209 h2], fun j _ => by rw [h.1 210 h3]⟩
theorem e_rfr {ps : List Nat} {S T : xs_T} {f n : Nat} {b : Nat → Nat} (h : xs_eq ps S T) (h2 : 209 ∉ ps) (h3 : 210 ∉ ps) (hf : xs_rf S f n b) : xs_rf T f n b := ⟨by rw [h.1 210 h3]; exact hf.1, hf.2.1, e_by h h2 hf.2.2⟩
theorem r_begin {S : xs_T} {f h addr control cnt : Nat} (hf : f < 24) (hh : h < 256) (ha : addr < 2 ^ 32) (hct : control < 256) (hc : cnt < 2 ^ 32) :
    ∃ T, xf_R_begin 200 (nI f) (nI h) (nI addr) (nI control) (nI cnt) S = some T ∧ xs_rf T f 8 (yApp (yApp (yApp (fun _ => h) 1 addr) 5 control) 6 cnt) ∧ xs_ef f S T := by
  unfold xf_R_begin
  rw [x_wr (k := 200 + 10) (show f < 24 from hf), Option.bind_some]
  have f0 : xs_rf (xs_sI S 210 f 0) f 0 (fun _ => h) := ⟨x_fI, by decide, fun i hi => absurd hi (Nat.not_lt_zero i)⟩
  have q0 : xs_ef f S (xs_sI S 210 f 0) := ⟨e_sI (by decide), fun j _ => by rw [x_fP (by decide)], fun j hj => x_fN hj⟩
  show ∃ T, (xf_R_write 200 (nI f) (nI h) (xs_sI S 210 f 0)).bind _ = some T ∧ _
  obtain ⟨T1, e1, f1, q1⟩ := r_write hf f0 (v := h) (by omega) (by decide)
  rw [e1, Option.bind_some]
  have f1 : xs_rf T1 f 1 (fun _ => h) := rf_cg (fun i hi => by
    unfold yApp
    rw [if_neg (Nat.not_lt_zero i), show i = 0 by omega]
    show h / 1 % 256 = h
    omega) f1
  obtain ⟨T2, e2, f2, q2⟩ := r_wnum hf f1 ha (j := 4) (by decide) (by decide)
  rw [show xf_R_writeNumber 200 (nI f) (nI addr) 4 T1 = _ from e2, Option.bind_some]
  obtain ⟨T3, e3, f3, q3⟩ := r_write hf f2 (v := control) (by omega) (by decide)
  rw [e3, Option.bind_some]
  obtain ⟨T4, e4, f4, q4⟩ := r_wnum hf f3 hc (j := 2) (by decide) (by decide)
  rw [show xf_R_writeNumber 200 (nI f) (nI cnt) 2 T3 = _ from e4, Option.bind_some]
  exact ⟨T4, rfl, f4, ef_tr q0 (ef_tr q1 (ef_tr q2 (ef_tr q3 q4)))⟩
theorem r_encd {S : xs_T} {P n i dir addr cnt : Nat} {key : Nat → Nat} (hx : xs_bx S) (hi : i < 15) (hk : xs_by S 207 (16 * i) 16 key) (hP : P < 2 ^ 64) (hn : n ≤ 8) (hd : dir < 256) (ha : addr < 2 ^ 32) (hc : cnt < 2 ^ 32) :
    ∃ T, xf_R_enciphered 200 (lN P) (nI n) (nI i) (nI dir) (nI addr) (nI cnt) S = some (lN (yNum (fun j => (P / 2 ^ (8 * j) % 256) ^^^ yStr (ySch key) dir addr cnt j) n), T) ∧ xs_eq [203, 204, 205, 208] S T := by
  have hkb : yB 16 key := fun j hj => (hk j hj).2
  have hW := y_sc_lt (y_sch (key := key)) hkb
  unfold xf_R_enciphered
  obtain ⟨T1, e1, s1, q1⟩ := r_rowHead (S := S) (kind := 1) (by decide) hd ha hc
  rw [show xf_R_rowHead 200 1 (nI dir) (nI addr) (nI cnt) S = _ from e1, Option.bind_some, show xs_wr T1 (200 + 8) 15 1 = some (xs_sI T1 208 15 1) from x_wr (k := 208) (j := 15) (by decide), Option.bind_some]
  have s2 : ∀ j, j < 16 → (xs_sI T1 208 15 1).1 208 j = nI (yHd 1 dir addr cnt 1 j) := fun j hj => by
    by_cases h : j = 15
    · subst h
      rw [x_fI]
      rfl
    · rw [x_fN h, b_at s1 hj]
      unfold yHd
      rw [if_neg h, if_neg h]
  have q2 : xs_eq [208] S (xs_sI T1 208 15 1) := e_tr q1 (e_sI (by decide))
  generalize xs_sI T1 208 15 1 = T2 at s2 q2 ⊢
  have e3 := xl_map (fun g j (T : xs_T) => xf_R_enciphered_22 200 (lN P) (nI n) (nI i) (nI dir) (nI addr) (nI cnt) g (nI j) T) T2 204 0 16 (fun j => nI (yHd 1 dir addr cnt 1 j)) (fun g j hj => by
    show xf_R_enciphered_22 200 (lN P) (nI n) (nI i) (nI dir) (nI addr) (nI cnt) (g + 1) (nI j) _ = xf_R_enciphered_22 200 (lN P) (nI n) (nI i) (nI dir) (nI addr) (nI cnt) g (nI (j + 1)) _
    generalize hT : (xs_mp T2 204 0 j fun j => nI (yHd 1 dir addr cnt 1 j)) = T
    rw [xf_R_enciphered_22, if_neg (show ¬ (16 : Int32) ≤ nI j from nI_ge (b := 16) hj (by decide)), x_rd (k := 200 + 8) (show j < 64 by omega), Option.bind_some, show T.1 (200 + 8) j = nI (yHd 1 dir addr cnt 1 j) by
      rw [← hT, m_ne (by decide)]
      exact s2 j hj, x_wr (k := 200 + 4) (show j < 16 from hj), Option.bind_some, nI_1, Nat.zero_add]) xs_fuel (by decide)
  rw [show xf_R_enciphered_22 200 (lN P) (nI n) (nI i) (nI dir) (nI addr) (nI cnt) xs_fuel 0 T2 = _ from e3]
  have q3 : xs_eq [203, 204, 205, 208] S (xs_mp T2 204 0 16 fun j => nI (yHd 1 dir addr cnt 1 j)) := e_tr (e_mono q2 (by decide)) (e_mp (by decide))
  have s3 : xs_by (xs_mp T2 204 0 16 fun j => nI (yHd 1 dir addr cnt 1 j)) 204 0 16 (yHd 1 dir addr cnt 1) := m_by (y_hd_lt (by decide) hd (by decide))
  generalize (xs_mp T2 204 0 16 fun j => nI (yHd 1 dir addr cnt 1 j)) = T3 at q3 s3 ⊢
  show ∃ T, xf_R_enciphered_22 200 (lN P) (nI n) (nI i) (nI dir) (nI addr) (nI cnt) (983 + 1) (nI 16) T3 = _ ∧ _
  rw [xf_R_enciphered_22, if_pos (show (16 : Int32) ≤ nI 16 from nI_le (a := 16) (Nat.le_refl _) (by decide))]
  obtain ⟨T4, e4, s4, q4⟩ := r_cipher (e_bx q3 (by decide) (by decide) hx) hi (e_key q3 (by decide) hk) s3
  rw [e4, Option.bind_some]
  have hs4 : ∀ j, j < 8 → (P / 2 ^ (8 * j) % 256) ^^^ yStr (ySch key) dir addr cnt j < 256 := fun j hj => y_xlt (Nat.mod_lt _ (by decide)) (y_b_str hW hd j (by omega))
  obtain ⟨v, hv, e5⟩ := xl_for (fun g j (v : Int64) => xf_R_enciphered_61 200 (lN P) (nI n) (nI i) (nI dir) (nI addr) (nI cnt) g v (nI j) T4) (fun j v => v = lN (yNum (fun j => (P / 2 ^ (8 * j) % 256) ^^^ yStr (ySch key) dir addr cnt j) j)) n
    (fun g j v hj hv => by
      refine ⟨_, rfl, ?_⟩
      subst hv
      have hb := y_b_str (W := ySch key) (addr := addr) (cnt := cnt) hW hd j (by omega)
      show xf_R_enciphered_61 200 (lN P) (nI n) (nI i) (nI dir) (nI addr) (nI cnt) (g + 1) _ (nI j) T4 = xf_R_enciphered_61 200 (lN P) (nI n) (nI i) (nI dir) (nI addr) (nI cnt) g (lN (yNum (fun j => (P / 2 ^ (8 * j) % 256) ^^^ yStr (ySch key) dir addr cnt j) j + ((P / 2 ^ (8 * j) % 256) ^^^ yStr (ySch key) dir addr cnt j) * 2 ^ (8 * j))) (nI (j + 1)) T4
      rw [xf_R_enciphered_61, if_neg (nI_ge hj (by omega)), x_rd (k := 200 + 4) (show j < 16 by omega), Option.bind_some, Option.bind_some, show T4.1 (200 + 4) j = nI (yStr (ySch key) dir addr cnt j) from b_at s4 (by omega), nI_l (by omega), w_sar j (by omega) hP, w_xor, w_or (by omega) (y_num_lt j (fun t ht => hs4 t (by omega))) (hs4 j (by omega)), nI_1]) n 0 xs_fuel 0 (Nat.zero_add _) (by unfold xs_fuel; omega) rfl
  subst hv
  refine ⟨T4, ?_, e_tr q3 (e_mono q4 (by decide))⟩
  rw [show xf_R_enciphered_61 200 (lN P) (nI n) (nI i) (nI dir) (nI addr) (nI cnt) xs_fuel 0 0 T4 = _ from e5, show xs_fuel - n = (999 - n) + 1 by unfold xs_fuel; omega, xf_R_enciphered_61, if_pos (nI_le (Nat.le_refl _) (by omega))]
theorem y_and255 {c : Nat} (h : c < 256) : nI c &&& 255 = nI c := by rw [pk_andN (by omega) 8 (by decide), Nat.mod_eq_of_lt (show c < 2 ^ 8 from h)]
/-- the first four bytes of the code go behind frame f -/
theorem y_app_num {b c : Nat → Nat} {n : Nat} (hc : ∀ i, i < 4 → c i < 256) : ∀ i, i < n + 4 → (if i < n then b i else c (i - n)) = yApp b n (yNum c 4) i := fun i hi => by
  unfold yApp
  by_cases h : i < n
  · rw [if_pos h, if_pos h]
  · rw [if_neg h, if_neg h, y_num_byte 4 hc (i - n) (by omega)]
theorem r_fin90 {S : xs_T} {f n : Nat} {p : Int64} {a4 a5 a6 a7 a8 : Int32} {b c : Nat → Nat} (hf : f < 24) (h : xs_rf S f n b) (hn : n + 4 ≤ 24) (hc : xs_by S 206 0 16 c) :
    ∃ T, xf_R_finish_90 200 (nI f) p a4 a5 a6 a7 a8 xs_fuel 0 S = some T ∧ xs_rf T f (n + 4) (yApp b n (yNum c 4)) ∧ xs_ef f S T := by
  obtain ⟨T, ⟨h1, h2⟩, e⟩ := xl_for (fun g i (T : xs_T) => xf_R_finish_90 200 (nI f) p a4 a5 a6 a7 a8 g (nI i) T) (fun i T => xs_rf T f (n + i) (fun j => if j < n then b j else c (j - n)) ∧ xs_ef f S T) 4
    (fun g i T hi hT => by
      obtain ⟨h1, h2⟩ := hT
      have ci := (hc i (by omega)).2
      obtain ⟨T2, e2, g1, g2⟩ := r_write1 hf h1 (y_and255 ci) ci (by omega)
      refine ⟨T2, ⟨rf_cg (fun t ht => ?_) g1, ef_tr h2 g2⟩, ?_⟩
      · by_cases htn : t < n + i
        · rw [if_pos htn]
        · rw [if_neg htn, if_neg (by omega), show t - n = i by omega]
      · show xf_R_finish_90 200 (nI f) p a4 a5 a6 a7 a8 (g + 1) (nI i) T = _
        rw [xf_R_finish_90, if_neg (show ¬ (4 : Int32) ≤ nI i from nI_ge (b := 4) hi (by decide)), x_rd (k := 200 + 6) (show i < 16 by omega), Option.bind_some, show T.1 (200 + 6) i = nI (c i) by
          rw [h2.1.1 (200 + 6) (by decide)]
          exact b_at hc (by omega), e2, Option.bind_some, nI_1]) 4 0 xs_fuel S rfl (by decide) ⟨rf_cg (fun i hi => (if_pos (show i < n from hi)).symm) h, ef_rf⟩
  refine ⟨T, Eq.trans e ?_, rf_cg (y_app_num (fun i hi => (hc i (by omega)).2)) h1, h2⟩
  show xf_R_finish_90 200 (nI f) p a4 a5 a6 a7 a8 (995 + 1) (nI 4) T = _
  rw [xf_R_finish_90, if_pos (show (4 : Int32) ≤ nI 4 from nI_le (a := 4) (Nat.le_refl _) (by decide))]
theorem r_fin33 {S : xs_T} {f n P i pl dir addr cnt : Nat} {v : Int64} {key b : Nat → Nat} (hx : xs_bx S) (hi : i < 15) (hk : xs_by S 207 (16 * i) 16 key) (hf : f < 24) (h : xs_rf S f n b) (hn : n + 4 ≤ 24) (hd : dir < 256) (ha : addr < 2 ^ 32) (hc : cnt < 2 ^ 32) (hpl : pl ≤ 8) (g : Nat) :
    ∃ T, xf_R_finish_33 200 (nI f) (lN P) (nI pl) (nI i) (nI dir) (nI addr) (nI cnt) (g + 1) v (nI pl) S = some T ∧ xs_rf T f (n + 4) (yApp b n (yNum (yMac (ySch key) (yRow (yHd 73 dir addr cnt n) b) (16 + n)) 4)) ∧ xs_eh f S T := by
  rw [xf_R_finish_33, if_pos (nI_le (Nat.le_refl _) (by omega)), x_rd (k := 200 + 10) (show f < 24 from hf), Option.bind_some, show S.1 (200 + 10) f = nI n from h.1]
  obtain ⟨T1, e1, s1, q1⟩ := r_dataCode (dir := dir) (addr := addr) (cnt := cnt) hx hi hk hf h.2.2 h.2.1 hd ha hc
  rw [e1, Option.bind_some]
  obtain ⟨T2, e2, f2, q2⟩ := r_fin90 (p := lN P) (a4 := nI pl) (a5 := nI i) (a6 := nI dir) (a7 := nI addr) (a8 := nI cnt) hf (e_rfr q1 (by decide) (by decide) h) hn s1
  exact ⟨T2, e2, f2, eh_tr (eh_eq q1 (by decide) (by decide) (by decide)) (eh_ef q2)⟩
theorem eh_bx {f : Nat} {S T : xs_T} (h : xs_eh f S T) (hx : xs_bx S) : xs_bx T := e_bx h.1 (by decide) (by decide) hx
theorem eh_key {f : Nat} {S T : xs_T} (h : xs_eh f S T) {i : Nat} {key : Nat → Nat} (hk : xs_by S 207 (16 * i) 16 key) : xs_by T 207 (16 * i) 16 key := e_by h.1 (by decide) hk
theorem r_finish {S : xs_T} {f n P i pl dir addr cnt : Nat} {key1 key2 b : Nat → Nat} (hx : xs_bx S) (hi : i < 14) (hk1 : xs_by S 207 (16 * i) 16 key1) (hk2 : xs_by S 207 (16 * (i + 1)) 16 key2) (hf : f < 24) (h : xs_rf S f n b) (hP : P < 2 ^ 64) (h1 : 1 ≤ pl) (hpl : pl ≤ 8) (hn : n + 1 + pl + 4 ≤ 24) (hd : dir < 256) (ha : addr < 2 ^ 32) (hc : cnt < 2 ^ 32) :
    ∃ T, xf_R_finish 200 (nI f) (lN P) (nI pl) (nI i) (nI dir) (nI addr) (nI cnt) S = some T ∧ xs_rf T f (n + 1 + pl + 4) (yApp (yPay b n P (yStr (ySch key2) dir addr cnt)) (n + 1 + pl) (yNum (yMac (ySch key1) (yRow (yHd 73 dir addr cnt (n + 1 + pl)) (yPay b n P (yStr (ySch key2) dir addr cnt))) (16 + (n + 1 + pl))) 4)) ∧ xs_eh f S T := by
  have hkb : yB 16 key2 := fun j hj => (hk2 j hj).2
  have hW := y_sc_lt (y_sch (key := key2)) hkb
  unfold xf_R_finish
  rw [show nI i + 1 = nI (i + 1) from nI_1 i]
  obtain ⟨T1, e1, q1⟩ := r_encd (n := pl) (dir := dir) (addr := addr) (cnt := cnt) hx (by omega) hk2 hP hpl hd ha hc
  rw [e1, Option.bind_some]
  dsimp only
  have hsb : ∀ j, j < pl → (fun j => (P / 2 ^ (8 * j) % 256) ^^^ yStr (ySch key2) dir addr cnt j) j < 256 := fun j hj => y_xlt (Nat.mod_lt _ (by decide)) (y_b_str hW hd j (by omega))
  have hV := y_num_lt (s := fun j => (P / 2 ^ (8 * j) % 256) ^^^ yStr (ySch key2) dir addr cnt j) pl hsb
  have hp : 2 ^ (8 * pl) ≤ 2 ^ 64 := Nat.pow_le_pow_right (by decide) (by omega)
  have byt := y_num_byte (s := fun j => (P / 2 ^ (8 * j) % 256) ^^^ yStr (ySch key2) dir addr cnt j) pl hsb
  generalize yNum (fun j => (P / 2 ^ (8 * j) % 256) ^^^ yStr (ySch key2) dir addr cnt j) pl = V at hV byt ⊢
  rw [if_neg (nI_nle (by omega) (by omega))]
  obtain ⟨T2, e2, f2, q2⟩ := r_write1 (c := 1) hf (e_rfr q1 (by decide) (by decide) h) (show (1 : Int32) &&& 255 = nI 1 by decide) (by decide) (by omega)
  rw [e2, Option.bind_some]
  have f2 : xs_rf T2 f (n + 1) (yPay b n P (yStr (ySch key2) dir addr cnt)) := rf_cg (fun j hj => by
    unfold yPay
    by_cases h : j < n
    · rw [if_pos h, if_pos h]
    · rw [if_neg h, if_neg h, if_pos (by omega)]) f2
  have q2' : xs_eh f S T2 := eh_tr (eh_eq q1 (by decide) (by decide) (by decide)) (eh_ef q2)
  unfold xf_R_finish_30
  obtain ⟨T3, ⟨f3, q3⟩, e3⟩ := xl_for (fun g j (T : xs_T) => xf_R_finish_33 200 (nI f) (lN P) (nI pl) (nI i) (nI dir) (nI addr) (nI cnt) g (lN V) (nI j) T) (fun j T => xs_rf T f (n + 1 + j) (yPay b n P (yStr (ySch key2) dir addr cnt)) ∧ xs_eh f S T) pl
    (fun g j T hj hT => by
      obtain ⟨fT, qT⟩ := hT
      have ev : Int64.toInt32 ((xs_lshr (lN V) (8 * nI j)) &&& 255) = nI (V / 2 ^ (8 * j) % 256) := by
        rw [w_sar j (by omega) (Nat.lt_of_lt_of_le hV hp), w_t32]
      have hb : V / 2 ^ (8 * j) % 256 < 256 := Nat.mod_lt _ (by decide)
      obtain ⟨T4, e4, f4, q4⟩ := r_write1 hf fT (y_and255 hb) hb (by omega)
      refine ⟨T4, ⟨rf_cg (fun t ht => ?_) f4, eh_tr qT (eh_ef q4)⟩, ?_⟩
      · by_cases htn : t < n + 1 + j
        · rw [if_pos htn]
        · rw [if_neg htn]
          unfold yPay
          rw [if_neg (by omega), if_neg (by omega), show t - n - 1 = j by omega, byt j hj]
      · show xf_R_finish_33 200 (nI f) (lN P) (nI pl) (nI i) (nI dir) (nI addr) (nI cnt) (g + 1) (lN V) (nI j) T = _
        rw [xf_R_finish_33, if_neg (nI_ge hj (by omega)), ev, e4, Option.bind_some, nI_1]) pl 0 xs_fuel T2 (Nat.zero_add _) (by unfold xs_fuel; omega) ⟨f2, q2'⟩
  obtain ⟨T5, e5, f5, q5⟩ := r_fin33 (P := P) (v := lN V) (dir := dir) (addr := addr) (cnt := cnt) (eh_bx q3 hx) (by omega) (eh_key q3 hk1) hf f3 hn hd ha hc hpl (999 - pl)
  refine ⟨T5, ?_, f5, eh_tr q3 q5⟩
  rw [show xf_R_finish_33 200 (nI f) (lN P) (nI pl) (nI i) (nI dir) (nI addr) (nI cnt) xs_fuel (lN V) 0 T2 = _ from e3, show xs_fuel - pl = (999 - pl) + 1 by unfold xs_fuel; omega]
  exact e5
theorem r_finish0 {S : xs_T} {f n P i dir addr cnt : Nat} {key1 key2 b : Nat → Nat} (hx : xs_bx S) (hi : i < 14) (hk1 : xs_by S 207 (16 * i) 16 key1) (hk2 : xs_by S 207 (16 * (i + 1)) 16 key2) (hf : f < 24) (h : xs_rf S f n b) (hP : P < 2 ^ 64) (hn : n + 4 ≤ 24) (hd : dir < 256) (ha : addr < 2 ^ 32) (hc : cnt < 2 ^ 32) :
    ∃ T, xf_R_finish 200 (nI f) (lN P) 0 (nI i) (nI dir) (nI addr) (nI cnt) S = some T ∧ xs_rf T f (n + 4) (yApp b n (yNum (yMac (ySch key1) (yRow (yHd 73 dir addr cnt n) b) (16 + n)) 4)) ∧ xs_eh f S T := by
  unfold xf_R_finish
  rw [show nI i + 1 = nI (i + 1) from nI_1 i]
  obtain ⟨T1, e1, q1⟩ := r_encd (n := 0) (dir := dir) (addr := addr) (cnt := cnt) hx (by omega) hk2 hP (by decide) hd ha hc
  rw [show xf_R_enciphered 200 (lN P) 0 (nI (i + 1)) (nI dir) (nI addr) (nI cnt) S = _ from e1, Option.bind_some, if_pos (by decide)]
  unfold xf_R_finish_30
  have q1' : xs_eh f S T1 := eh_eq q1 (by decide) (by decide) (by decide)
  obtain ⟨T5, e5, f5, q5⟩ := r_fin33 (P := P) (pl := 0) (v := (lN (yNum (fun j => (P / 2 ^ (8 * j) % 256) ^^^ yStr (ySch key2) dir addr cnt j) 0))) (dir := dir) (addr := addr) (cnt := cnt) (eh_bx q1' hx) (by omega) (eh_key q1' hk1) hf (e_rfr q1 (by decide) (by decide) h) hn hd ha hc (by decide) 999
  exact ⟨T5, e5, f5, eh_tr q1' q5⟩
