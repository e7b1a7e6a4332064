/-! a device takes data -/
theorem x_cend {S : xs_T} {a n : Nat} {b : Nat → Nat} (ha : xs_kd a = 2) (h : xs_cf S a n b) (h12 : 12 ≤ n) : xf_F_countEnd a S = some (nI (yNum (fun i => b (6 + i)) 2)) ∧ xf_F_address a S = some (nI (yNum (fun i => b (1 + i)) 4)) := by
  have la := x_kF ha
  constructor
  · unfold xf_F_countEnd
    rw [show xf_W_number (a + 1) 6 2 S = _ from x_num (fr := 6) (n := 2) (by decide) (by omega) (x_by_le h.2.2 (m := 2) 6 (by omega)), Option.bind_some]
  · unfold xf_F_address
    rw [show xf_W_number (a + 1) 1 4 S = _ from x_num (fr := 1) (n := 4) (by decide) (by omega) (x_by_le h.2.2 (m := 4) 1 (by omega)), Option.bind_some]
/-- payload of a data frame, both ways -/
theorem sim_pay {S R : xs_T} {k a n pl i dir addr cnt : Nat} {b k1 k2 : Nat → Nat} (hk : xs_kd k = 5) (hka : xs_kd a = 2) (hs : xs_ses S k addr (ySch k1) (ySch k2)) (hx : xs_bx R) (hi : i < 15) (hk2 : xs_by R 207 (16 * i) 16 k2) (hc : cnt < 2 ^ 32) (hd : dir < 256) (cS : xs_cf S a n b) (cR : xs_rf R 23 n b) (h12 : 12 ≤ n) (h1 : 1 ≤ pl) (h8 : pl ≤ 8) (hn : n = 13 + b 5 % 16 + pl) :
    ∃ P S2 R2, xf_S_readPayload k a (nI dir) (nI cnt) S = some (P, S2) ∧ ((xf_R_payloadAt 200 23 (nI pl) R).bind fun q36 => xf_R_enciphered 200 q36 (nI pl) (nI i) (nI dir) (nI addr) (nI cnt) R) = some (P, R2) ∧ xs_eq [k + 9] S S2 ∧ xs_eq [203, 204, 205, 208] R R2 := by
  obtain ⟨S2, e1, q1⟩ := x_readP (oc := b 5 % 16) hk hka hs hc hd cS h12 rfl h1 h8 hn
  have lt : ∀ t, t < pl → b (9 + b 5 % 16 + t) < 256 := fun t ht => (cS.2.2 (9 + b 5 % 16 + t) (by omega)).2
  have P64 := y_num_lt (s := fun i => b (9 + b 5 % 16 + i)) pl lt
  obtain ⟨R2, e2, q2⟩ := r_encd (P := yNum (fun i => b (9 + b 5 % 16 + i)) pl) (n := pl) (i := i) (dir := dir) (addr := addr) (cnt := cnt) hx hi hk2 (Nat.lt_of_lt_of_le P64 (Nat.pow_le_pow_right (by decide) (by omega))) h8 hd hs.2.1 hc
  refine ⟨_, S2, R2, e1, ?_, q1, q2⟩
  rw [show xf_R_payloadAt 200 23 (nI pl) R = _ from r_payAt (f := 23) (by decide) cR h12 h8 (Or.inr hn), Option.bind_some, e2]
  refine congrArg (fun z => some (lN z, R2)) (y_num_cg pl fun j hj => ?_)
  have e := y_num_byte (s := fun i => b (9 + b 5 % 16 + i)) pl lt j hj
  rw [e]
theorem sim_tkd {K : Nat → Nat → Nat} {N tm d a n : Nat} {b : Nat → Nat} {tx : Int32} {S R : xs_T} (h : Rel K N tm S R) (hN : N ≤ 600) (hd : d < 3) (ha : ∃ t, t < 12 ∧ a = 4 + 2 * t) (ka : xs_kd a = 2) (cS : xs_cf S a n b) (cR : xs_rf R 23 n b) (h12 : 12 ≤ n) (hst : R.1 212 d = nI 2) (hw : R.1 213 d = nI 1) :
    ∃ S2 R2, xf_D_take_49 (53 + 24 * d) a tx S = some S2 ∧ xf_R_takeData 200 (nI d) R = some R2 ∧ Rel K (N + 1) tm S2 R2 ∧ xs_ag (fun q => 200 ≤ q) S S2 ∧ xs_ag (fun q => q < 200) R R2 := by
  obtain ⟨t, ht, rfl⟩ := ha
  have h24 := cS.2.1
  obtain ⟨h00, ⟨st, nc, gs, cu, w, sa, ts, cf, ⟨a1, a2, a3⟩, -, -, -, -, -, -, -, -, -, l1⟩, h2, ⟨ni, ni1, ni2, ni3⟩, -⟩ := h.2.2.2.1 d hd
  have est : st = 2 := (nI_eq (by omega) (by decide)).mp (a2.symm.trans hst)
  subst est
  obtain ⟨⟨m, m1, m2⟩, m3, ⟨addr, ky1, ky2, m4, m5, m6, m7⟩⟩ := l1 rfl
  have kS := (by decide +kernel : ∀ d, d < 3 → xs_kd (54 + 24 * d) = 5 ∧ xs_ln (66 + 24 * d) = 4) d hd
  have b0 := cS.2.2 0 (by omega)
  have v0 := b0.2
  have c0 := cR.2.2 0 (by omega)
  have none : ∀ S2 R2, S2 = S → R2 = R → Rel K (N + 1) tm S2 R2 ∧ xs_ag (fun q => 200 ≤ q) S S2 ∧ xs_ag (fun q => q < 200) R R2 := fun S2 R2 e1 e2 => by
    subst e1 e2
    exact ⟨Rel_fr h (Nat.le_succ N) ag_rf ag_rf, ag_rf, ag_rf⟩
  have rd0 : xs_rd S (4 + 2 * t + 1) 0 = some (nI (b 0)) := by
    have la := x_kF ka
    rw [show xs_rd S (4 + 2 * t + 1) 0 = _ from x_rd (j := 0) (by omega)]
    exact congrArg some b0.1
  have ra0 : xf_R_at 200 23 0 R = some (nI (b 0)) := by
    rw [show xf_R_at 200 23 0 R = _ from r_at (f := 23) (i := 0) (by decide) (by decide)]
    exact congrArg some c0.1
  have hpo := r_payOf (f := 23) (by decide) cR h12
  by_cases hok : okL n (b 5 % 16)
  rotate_left
  · refine ⟨S, R, ?_, ?_, none S R rfl rfl⟩
    · unfold xf_D_take_49
      rw [if_pos (show xs_gI S (53 + 24 * d) 6 = 2 from a1)]
      rcases x_dataForm ka cS h12 with ⟨-, hh, -⟩ | ⟨-, e⟩
      · exact absurd hh hok
      · rw [e, Option.bind_some, if_pos rfl]
    · unfold xf_R_takeData
      rw [show xf_R_payloadOf 200 23 R = _ from hpo.2 hok, Option.bind_some, if_pos (by decide)]
  have eform : xf_F_hasDataForm (4 + 2 * t) S = some 1 ∨ (xf_F_hasDataForm (4 + 2 * t) S = some 0 ∧ b 0 ≠ 96) := by
    rcases x_dataForm ka cS h12 with ⟨-, -, e⟩ | ⟨hh, e⟩
    · exact Or.inl e
    · exact Or.inr ⟨e, fun h96 => hh ⟨Or.inr (Or.inr h96), hok⟩⟩
  have hpl : n - 13 - b 5 % 16 ≤ 8 := by
    unfold okL at hok
    omega
  have epo : xf_R_payloadOf 200 23 R = some (nI (n - 13 - b 5 % 16)) := hpo.1 hok
  have ng : ¬ nI (n - 13 - b 5 % 16) < 0 := by
    rw [Int32.lt_iff_toInt_lt, nI_toInt (by omega)]
    show ¬ _ < (0 : Int)
    omega
  by_cases h96 : b 0 = 96
  rotate_left
  · have h96' : ¬ nI (b 0) = 96 := fun e => h96 ((nI_eq (b := 96) (by omega) (by decide)).mp e)
    refine ⟨S, R, ?_, ?_, none S R rfl rfl⟩
    · unfold xf_D_take_49
      rw [if_pos (show xs_gI S (53 + 24 * d) 6 = 2 from a1)]
      rcases eform with e | ⟨e, -⟩
      · rw [e, Option.bind_some, if_neg i10, rd0, Option.bind_some, if_neg h96']
      · rw [e, Option.bind_some, if_pos rfl]
    · unfold xf_R_takeData
      rw [epo, Option.bind_some, if_neg ng, ra0, Option.bind_some, if_neg h96']
  have h96' : nI (b 0) = 96 := by rw [h96]; rfl
  have eD : ∀ z, xf_D_takeData (53 + 24 * d) (4 + 2 * t) S = some z → xf_D_take_49 (53 + 24 * d) (4 + 2 * t) tx S = some z := fun z hz => by
    unfold xf_D_take_49
    rcases eform with e | ⟨-, e⟩
    · rw [if_pos (show xs_gI S (53 + 24 * d) 6 = 2 from a1), e, Option.bind_some, if_neg i10, rd0, Option.bind_some, if_pos h96', hz, Option.bind_some]
    · exact absurd h96 e
  -- the address
  have al := y_num_lt (s := fun i => b (1 + i)) 4 (fun i hi => (cS.2.2 (1 + i) (by omega)).2)
  have el := y_num_lt (s := fun i => b (6 + i)) 2 (fun i hi => (cS.2.2 (6 + i) (by omega)).2)
  obtain ⟨c, hc1, hc2, ec1, ec2⟩ := sim_count (m := m) (e := yNum (fun i => b (6 + i)) 2) (by omega) el
  have en1 : xf_R_numberAt 200 23 1 4 R = some (nI (yNum (fun i => b (1 + i)) 4)) := r_num (f := 23) (fr := 1) (n := 4) (m := n) (by decide) (by decide) cR.2.2 (by omega) (by omega)
  have en6 : xf_R_numberAt 200 23 6 2 R = some (nI (yNum (fun i => b (6 + i)) 2)) := r_num (f := 23) (fr := 6) (n := 2) (m := n) (by decide) (by decide) cR.2.2 (by omega) (by omega)
  have r18 : xs_rd R (200 + 18) (nI d) = some (nI addr) := by
    rw [x_rd (k := 200 + 18) (show d < 3 from hd)]
    exact congrArg some m5
  have r20 : xs_rd R (200 + 20) (nI d) = some (R.1 220 d) := x_rd (k := 200 + 20) (show d < 3 from hd)
  have r10 : xs_rd R (200 + 10) 23 = some (nI n) := by
    rw [show xs_rd R (200 + 10) 23 = _ from x_rd (k := 200 + 10) (j := 23) (by decide)]
    exact congrArg some cR.1
  have hr220 : R.1 220 d + 1 = nI m := by rw [← m3]; exact m1
  by_cases hadr : yNum (fun i => b (1 + i)) 4 = addr
  rotate_left
  · have hadr' : ¬ nI (yNum (fun i => b (1 + i)) 4) = nI addr := fun e => hadr (n_inj al m4.2.1 e)
    refine ⟨S, R, eD S ?_, ?_, none S R rfl rfl⟩
    · unfold xf_D_takeData
      rw [(x_cend ka cS h12).1, Option.bind_some, show xs_gI S (53 + 24 * d) 10 + 1 = nI m from m1, ec1, Option.bind_some, (x_cend ka cS h12).2, Option.bind_some, show 53 + 24 * d + 1 = 54 + 24 * d by omega, show xs_gI S (54 + 24 * d) 4 = nI addr from m4.1, if_neg hadr']
    · unfold xf_R_takeData
      rw [epo, Option.bind_some, if_neg ng, ra0, Option.bind_some, if_pos h96', en1, Option.bind_some, r18, Option.bind_some, if_neg hadr']
  -- the code
  obtain ⟨S3, e3, q3⟩ := x_right (dir := 1) (cnt := c) kS.1 ka m4 (by omega) (by decide) (show 4 ≤ n by omega) cS
  obtain ⟨R3, er3, s3, qr3⟩ := r_dataCode (f := 23) (n := n - 4) (i := 3 + 2 * d) (dir := 1) (addr := addr) (cnt := c) h.1.1 (by omega) m6 (by decide) (fun i hi => cR.2.2 i (by omega)) (by omega) (by decide) m4.2.1 (by omega)
  have cR3 : xs_rf R3 23 n b := e_rfr qr3 (by decide) (by decide) cR
  have en3 := r_ends (f := 23) (by decide) (show 4 ≤ n by omega) cR3 s3
  rw [show 54 + 24 * d + 6 = 60 + 24 * d by omega, show 54 + 24 * d + 9 = 63 + 24 * d by omega] at q3
  have sc3 : xs_ag (fun q => ¬ scC q) S S3 := ag_eq q3 fun q hq => by
    intro hm
    simp at hm
    exact hq (Or.inl ⟨d, hd, by omega⟩)
  have h3 : RelT K N tm (fun _ => tm) S3 R3 := relScrT (td := fun _ => tm) h (Nat.le_refl N) sc3 (arS_eq qr3 (by decide))
  have ecl : xf_D_takeData (53 + 24 * d) (4 + 2 * t) S = (xf_S_isCodeRight (54 + 24 * d) (4 + 2 * t) 1 (nI c) S).bind fun q5 => if q5.1 = 0 then some q5.2 else (some (xs_sI q5.2 (53 + 24 * d) 10 (nI c))).bind fun S7 => (xf_F_payloadBytes (4 + 2 * t) S7).bind fun q8 => if q8 ≤ 0 then xf_D_takeData_71 (53 + 24 * d) (4 + 2 * t) S7 else (xf_S_readPayload (54 + 24 * d) (4 + 2 * t) 1 (nI c) S7).bind fun q26 => (xf_I_add (65 + 24 * d) q26.1 q26.2).bind fun q27 => xf_D_takeData_71 (53 + 24 * d) (4 + 2 * t) q27 := by
    unfold xf_D_takeData
    rw [(x_cend ka cS h12).1, Option.bind_some, show xs_gI S (53 + 24 * d) 10 + 1 = nI m from m1, ec1, Option.bind_some, (x_cend ka cS h12).2, Option.bind_some, show 53 + 24 * d + 1 = 54 + 24 * d by omega, show xs_gI S (54 + 24 * d) 4 = nI addr from m4.1, if_pos (by rw [hadr]), show 53 + 24 * d + 12 = 65 + 24 * d by omega]
  have erf : xf_R_takeData 200 (nI d) R = (xf_R_endsWithCode 200 23 R3).bind fun q14 => if q14 = 0 then some R3 else (some (xs_sI R3 220 d (nI c))).bind fun S16 => if nI (n - 13 - b 5 % 16) ≤ 0 then xf_R_takeData_147 200 (nI d) S16 else (xf_R_payloadAt 200 23 (nI (n - 13 - b 5 % 16)) S16).bind fun q36 => (xs_rd S16 (200 + 18) (nI d)).bind fun v37 => (xf_R_enciphered 200 q36 (nI (n - 13 - b 5 % 16)) (nI (4 + 2 * d)) 1 v37 (nI c) S16).bind fun q38 => (xf_R_receive 200 (nI (3 + d)) q38.1 q38.2).bind fun q39 => xf_R_takeData_147 200 (nI d) q39 := by
    unfold xf_R_takeData
    rw [epo, Option.bind_some, if_neg ng, ra0, Option.bind_some, if_pos h96', en1, Option.bind_some, r18, Option.bind_some, if_pos (by rw [hadr]), en6, Option.bind_some, r20, Option.bind_some, hr220, ec2, Option.bind_some, r10, Option.bind_some, Option.bind_some, show nI n - 4 = nI (n - 4) from pk_sub (b := 4) (by omega), show (2 : Int32) * nI d = nI (2 * d) from pk_mul 2 d, show (3 : Int32) + nI (2 * d) = nI (3 + 2 * d) from nI_add 3 _, show (4 : Int32) + nI (2 * d) = nI (4 + 2 * d) from nI_add 4 _, show (3 : Int32) + nI d = nI (3 + d) from nI_add 3 _, show xf_R_dataCode 200 23 (nI (n - 4)) (nI (3 + 2 * d)) 1 (nI addr) (nI c) R = _ from er3, Option.bind_some, x_wr (k := 200 + 20) (show d < 3 from hd)]
  rw [show xf_S_isCodeRight (54 + 24 * d) (4 + 2 * t) 1 (nI c) S = _ from e3, Option.bind_some] at ecl
  rw [show xf_R_endsWithCode 200 23 R3 = _ from en3, Option.bind_some] at erf
  have agl : ∀ q, 200 ≤ q → ¬ scC q := fun q hq => by
    unfold scC
    rintro (⟨e, he, h1⟩ | ⟨e, he, h1⟩ | h1 | h1) <;> omega
  by_cases hcode : yNum (yMac (ySch ky1) (yRow (yHd 73 1 addr c (n - 4)) b) (16 + (n - 4))) 4 = yNum (fun i => b (n - 4 + i)) 4
  rotate_left
  · rw [if_neg hcode] at ecl erf
    refine ⟨S3, R3, eD S3 ?_, ?_, relScrT (td := fun _ => tm) h (Nat.le_succ N) sc3 (arS_eq qr3 (by decide)), ag_mono sc3 agl, ag_eq qr3 fun q hq => by simp; omega⟩
    · rw [ecl]
      rfl
    · rw [erf]
      rfl
  rw [if_pos hcode] at ecl erf
  dsimp only at ecl
  rw [if_neg i10, Option.bind_some] at ecl erf
  have h4 : RelT K (N + 1) tm (fun _ => tm) (xs_sI S3 (53 + 24 * d) 10 (nI c)) (xs_sI R3 220 d (nI c)) := st_cd (M := N + 1) (by omega) h3 (Nat.le_succ N) hd
  generalize hS4 : xs_sI S3 (53 + 24 * d) 10 (nI c) = S4 at h4 ecl
  generalize hR4 : xs_sI R3 220 d (nI c) = R4 at h4 erf
  have ag4 : xs_ag (fun q => q ≠ 53 + 24 * d ∧ q ≠ 60 + 24 * d ∧ q ≠ 63 + 24 * d) S S4 := by
    rw [← hS4]
    exact ag_tr (ag_eq q3 fun q hq => by simp; omega) (ag_sI fun q hq => hq.1)
  have qr4 : xs_eq [203, 204, 205, 206, 208, 220] R R4 := by
    rw [← hR4]
    exact e_tr (e_mono qr3 (by decide)) (e_sI (by decide))
  have cS4 := ag_cf ag4 (by omega) (by omega) cS
  have cR4 : xs_rf R4 23 n b := e_rfr qr4 (by decide) (by decide) cR
  rw [x_payB ka cS4 h12, Option.bind_some] at ecl
  -- the payload
  obtain ⟨S5, R5, ec5, er5, h5, cS5, ag5, qr5⟩ : ∃ S5 R5, xf_D_takeData (53 + 24 * d) (4 + 2 * t) S = xf_D_takeData_71 (53 + 24 * d) (4 + 2 * t) S5 ∧ xf_R_takeData 200 (nI d) R = xf_R_takeData_147 200 (nI d) R5 ∧ RelT K (N + 1) tm (fun _ => tm) S5 R5 ∧ xs_cf S5 (4 + 2 * t) n b ∧ xs_ag (fun q => 200 ≤ q) S S5 ∧ ((∀ q, q ∉ [203, 204, 205, 206, 208, 220, 234] → R5.1 q = R.1 q) ∧ xs_ag (fun q => q < 200) R R5) := by
    by_cases hz : n - 13 - b 5 % 16 = 0
    · rw [hz, if_pos (show nI 0 ≤ 0 by decide)] at ecl erf
      exact ⟨S4, R4, ecl, erf, h4, cS4, ag_mono ag4 fun q hq => by omega, fun q hq => qr4.1 q (by simp at hq ⊢; omega), ag_eq qr4 fun q hq => by simp; omega⟩
    have hz' : ¬ nI (n - 13 - b 5 % 16) ≤ 0 := by
      rw [Int32.le_iff_toInt_le, nI_toInt (by omega)]
      show ¬ _ ≤ (0 : Int)
      omega
    rw [if_neg hz'] at ecl erf
    have hn5 : n = 13 + b 5 % 16 + (n - 13 - b 5 % 16) := by
      unfold okL at hok
      omega
    obtain ⟨P, S5, R5, e5, er5, q5, qr5⟩ := sim_pay (pl := n - 13 - b 5 % 16) (i := 4 + 2 * d) (dir := 1) (addr := addr) (cnt := c) kS.1 ka (ag_ses ag4 (by omega) (by omega) (by omega) (by omega) (by omega) m4) h4.1.1 (by omega) (by
      rw [show 4 + 2 * d = 3 + 2 * d + 1 by omega]
      exact e_by qr4 (by decide) m7) (by omega) (by decide) cS4 cR4 h12 (by omega) hpl hn5
    rw [show 54 + 24 * d + 9 = 63 + 24 * d by omega] at q5
    have h5 : RelT K (N + 1) tm (fun _ => tm) S5 R5 := relScrT h4 (Nat.le_refl _) (ag_eq q5 fun q hq => by
      intro hm
      simp at hm
      exact hq (Or.inl ⟨d, hd, by omega⟩)) (arS_eq qr5 (by decide))
    have n5 : S5.1 (65 + 24 * d) 1 = nI ni := by
      rw [q5.1 _ (by simp <;> omega), (ag4 _ (by omega)).1]
      exact ni1
    have nr5 : R5.1 234 (3 + d) = nI ni := by
      rw [qr5.1 234 (by decide), qr4.1 234 (by decide)]
      exact ni2
    have h6 := st_inD (P := P) h5 (Nat.le_refl _) hd n5 (by omega) (by omega)
    refine ⟨_, _, ?_, ?_, h6, ?_, ?_, fun q hq => ?_, ?_⟩
    · rw [ecl, show xf_S_readPayload (54 + 24 * d) (4 + 2 * t) 1 (nI c) S4 = _ from e5, Option.bind_some, x_iadd (k := 65 + 24 * d) (by rw [show 65 + 24 * d + 1 = 66 + 24 * d by omega]; exact kS.2) n5 (by omega), Option.bind_some, show 65 + 24 * d + 1 = 66 + 24 * d by omega]
    · have r18b : ∀ q, (xs_rd R4 (200 + 18) (nI d)) = some q ↔ q = nI addr := fun q => by
        rw [x_rd (k := 200 + 18) (show d < 3 from hd), show R4.1 (200 + 18) d = nI addr by
          rw [qr4.1 (200 + 18) (by decide)]
          exact m5]
        exact ⟨fun e => (Option.some.inj e).symm, fun e => by rw [e]⟩
      rw [erf, (r18b _).mpr rfl]
      cases hp : xf_R_payloadAt 200 23 (nI (n - 13 - b 5 % 16)) R4 with
      | none =>
        rw [hp] at er5
        exact absurd er5 (by simp)
      | some P0 =>
        rw [hp, Option.bind_some] at er5
        rw [Option.bind_some, Option.bind_some, show xf_R_enciphered 200 P0 (nI (n - 13 - b 5 % 16)) (nI (4 + 2 * d)) 1 (nI addr) (nI c) R4 = _ from er5, Option.bind_some, r_recv (by omega) nr5 (by omega), Option.bind_some]
    · exact ag_cf (p := fun q => q ≠ 65 + 24 * d ∧ q ≠ 66 + 24 * d) (ag_tr (ag_sL fun q hq => hq.2) (ag_sI fun q hq => hq.1)) (by omega) (by omega) (ag_cf (p := fun q => q ≠ 63 + 24 * d) (ag_eq q5 fun q hq => by simp; omega) (by omega) (by omega) cS4)
    · exact ag_tr (ag_mono ag4 fun q hq => by omega) (ag_tr (ag_eq q5 fun q hq => by simp; omega) (ag_tr (ag_sL fun q hq => by omega) (ag_sI fun q hq => by omega)))
    · rw [x_fP (by simp at hq; omega)]
      show R5.1 q = R.1 q
      rw [qr5.1 q (by simp at hq ⊢; omega), qr4.1 q (by simp at hq ⊢; omega)]
    · exact ag_tr (ag_eq qr4 fun q hq => by simp; omega) (ag_tr (ag_eq qr5 fun q hq => by simp; omega) (ag_tr (ag_sL fun q hq => by omega) (ag_sI fun q hq => by omega)))
  have cR5 : xs_rf R5 23 n b := ⟨by rw [qr5.1 210 (by decide)]; exact cR.1, cR.2.1, fun i hi => by rw [qr5.1 209 (by decide)]; exact cR.2.2 i hi⟩
  obtain ⟨S6, R6, e6, er6, h6, ag6, qr6⟩ := sim_tkd2 h5 hd ka (by omega) cS5 cR5 h12 (by rw [qr5.1 212 (by decide)]; exact hst) (by rw [qr5.1 213 (by decide)]; exact hw)
  exact ⟨S6, R6, eD S6 (ec5.trans e6), er5.trans er6, h6, ag_tr ag5 (ag_mono ag6 fun q hq => by omega), ag_tr qr5.2 (ag_eq qr6 fun q hq => by simp; omega)⟩
