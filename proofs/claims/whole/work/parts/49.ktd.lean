/-! the server takes data -/
theorem y_gw : ∀ g, g < 2 → ((1 : Int32) <<< (nI g &&& 31) : Int32) = nI (2 ^ g) := by decide +kernel
theorem y_gwo : ∀ g, g < 2 → ∀ w, w ≤ 3 → (nI w ||| nI (2 ^ g) : Int32) = nI (w ||| 2 ^ g) ∧ w ||| 2 ^ g ≤ 3 := by decide +kernel
theorem y_gw3 : ∀ g, g < 2 → 2 ^ g ≤ 3 := by decide
/-- the same count again -/
theorem sim_kdup {K : Nat → Nat → Nat} {M tm d a g t ss : Nat} {td : Nat → Nat} {c : Int32} {i2 : Int32} {S R : xs_T} (h : RelT K M tm td S R) (hM : M < 2 ^ 30) (hd : d < 3) (hg : g < 2) (ht : t ≤ 1) (h7 : S.1 (123 + 16 * d) 7 = nI ss) (hss : 1 ≤ ss) (hss2 : ss ≤ M) (hc : c = S.1 (123 + 16 * d) 10) :
    ∃ S2 R2, xf_K_takeData_47 (123 + 16 * d) a (nI g) c (nI t) S = some S2 ∧ xf_R_heardData_129 200 (nI g) i2 (nI d) c (nI t) R = some R2 ∧ RelT K M tm td S2 R2 ∧ xs_ag (fun q => 200 ≤ q ∨ q < 44) S S2 ∧ xs_ag (fun q => q < 200) R R2 := by
  obtain ⟨h0, ⟨q, ss', sr, gn, gw, du, ak, ck, ⟨a1, a2, a3⟩, ⟨b1, b2, b3⟩, -, -, ⟨g1, g2, g3⟩, ⟨f1, f2, f3⟩, ⟨k1, k2, k3, k4⟩, ⟨i1, i2', i3, i4⟩, -, -, m1⟩, -⟩ := h.2.2.2.2 d hd
  have ess : ss' = ss := (nI_eq (by omega) (by omega)).mp (b1.symm.trans h7)
  subst ess
  obtain ⟨⟨m, m2, m3⟩, m4, -, -⟩ := m1 hss
  obtain ⟨o1, o2⟩ := y_gwo g hg gw g3
  have eg1 : xs_gI S (123 + 16 * d) 12 = nI gw := g1
  have er1 : R.1 (200 + 27) d = nI gw := g2
  have ec : xf_K_takeData_47 (123 + 16 * d) a (nI g) c (nI t) S = if nI t = 0 then some (xs_sI S (123 + 16 * d) 12 (nI (gw ||| 2 ^ g))) else some (xs_sI (xs_sI (xs_sI (xs_sI S (123 + 16 * d) 12 (nI (gw ||| 2 ^ g))) (123 + 16 * d) 13 (nI 2)) (123 + 16 * d) 14 (nI 1)) (123 + 16 * d) 15 (nI ck)) := by
    unfold xf_K_takeData_47
    rw [if_pos (show c = xs_gI S (123 + 16 * d) 10 from hc), y_gw g hg, eg1, o1, Option.bind_some, show xs_gI (xs_sI S (123 + 16 * d) 12 (nI (gw ||| 2 ^ g))) (123 + 16 * d) 15 = nI ck by
      show (xs_sI S (123 + 16 * d) 12 (nI (gw ||| 2 ^ g))).1 (123 + 16 * d) 15 = _
      rw [x_fN (by decide)]
      exact i1, show xf_K_setDue (123 + 16 * d) 2 1 (nI ck) (xs_sI S (123 + 16 * d) 12 (nI (gw ||| 2 ^ g))) = _ from x_setDue (du := 2) (ak := 1) (by decide) i2', Option.bind_some]
  have er : xf_R_heardData_129 200 (nI g) i2 (nI d) c (nI t) R = if nI t = 0 then some (xs_sI R 227 d (nI (gw ||| 2 ^ g))) else some (xs_sI (xs_sI (xs_sI (xs_sI R 227 d (nI (gw ||| 2 ^ g))) 230 d (nI ck)) 229 d (nI 1)) 228 d (nI 2)) := by
    have e188 : ∀ z, z = ck → xf_R_heardData_188 200 (nI g) (nI d) (nI d) (nI z) (xs_sI R 227 d (nI (gw ||| 2 ^ g))) = some (xs_sI (xs_sI (xs_sI (xs_sI R 227 d (nI (gw ||| 2 ^ g))) 230 d (nI ck)) 229 d (nI 1)) 228 d (nI 2)) := fun z hz => by
      subst hz
      unfold xf_R_heardData_188
      rw [z_wrN (k := 200 + 30) (show d < 3 from hd) i2', Option.bind_some, z_wr1 (k := 200 + 29) (show d < 3 from hd), Option.bind_some, x_wr (k := 200 + 28) (show d < 3 from hd), Option.bind_some]
      rfl
    unfold xf_R_heardData_129
    rw [x_rd (k := 200 + 24) (show d < 3 from hd), Option.bind_some, if_pos (show c = R.1 (200 + 24) d from hc.trans m4.symm), x_rd (k := 200 + 27) (show d < 3 from hd), Option.bind_some, er1, y_gw g hg, o1, x_wr (k := 200 + 27) (show d < 3 from hd), Option.bind_some]
    by_cases h0 : nI t = 0
    · rw [if_pos h0, if_pos h0]
    rw [if_neg h0, if_neg h0, x_rd (k := 200 + 28) (show d < 3 from hd), Option.bind_some, show (xs_sI R (200 + 27) d (nI (gw ||| 2 ^ g))).1 (200 + 28) d = nI du by
      rw [x_fP (by decide)]
      exact f2]
    unfold xf_R_heardData_187
    by_cases hdu : du = 2
    · rw [if_pos (show nI du = 2 by rw [hdu]; rfl), x_rd (k := 200 + 30) (show d < 3 from hd), Option.bind_some, show (xs_sI R (200 + 27) d (nI (gw ||| 2 ^ g))).1 (200 + 30) d = nI ck by
        rw [x_fP (by decide)]
        exact i4 hdu]
      rcases (show ck = 0 ∨ ck = 1 by omega) with rfl | rfl
      · rw [if_pos (show nI 0 = 0 from rfl)]
        exact e188 0 rfl
      · rw [if_neg (show ¬ nI 1 = 0 by decide)]
        exact e188 1 rfl
    · rw [if_neg (show ¬ nI du = 2 from fun e => hdu ((nI_eq (b := 2) (by omega) (by decide)).mp e))]
      exact e188 0 (i3 hdu).symm
  have sR : ∀ (q e : Nat), e ≠ d → ∀ (U : xs_T) k v, (xs_sI U k d v).1 q e = U.1 q e := fun q e he U k v => by
    by_cases hqk : q = k
    · subst hqk
      exact x_fN he
    · rw [x_fP hqk]
  by_cases ht0 : nI t = 0
  · rw [if_pos ht0] at ec er
    have qS : xs_eq [123 + 16 * d] S (xs_sI S (123 + 16 * d) 12 (nI (gw ||| 2 ^ g))) := e_sI (by simp)
    have qR : xs_eq [224, 227, 228, 229, 230] R (xs_sI R 227 d (nI (gw ||| 2 ^ g))) := e_sI (by decide)
    refine ⟨_, _, ec, er, kaG (du := du) (ak := ak) (ck := ck) (gw := gw ||| 2 ^ g) h (Nat.le_refl M) hd qS (fun j hj => x_fN (by omega)) qR (fun q e he _ _ => sR q e he _ _ _) ?_ ⟨m, ?_, m3⟩ x_fI x_fI o2 ?_ ?_ f3 ?_ k2 k3 (fun hh => ?_) ?_ i2' i3 (fun hh => ?_) h7 hss hss2 hM, ag_eq qS fun q hq => by simp; omega, ag_eq qR fun q hq => by simp; omega⟩
    · rw [x_fP (by decide), x_fN (by decide)]
      exact m4
    · rw [x_fN (by decide)]
      exact m2
    · rw [x_fN (by decide)]
      exact f1
    · rw [x_fP (by decide)]
      exact f2
    · rw [x_fN (by decide)]
      exact k1
    · rw [x_fP (by decide)]
      exact k4 hh
    · rw [x_fN (by decide)]
      exact i1
    · rw [x_fP (by decide)]
      exact i4 hh
  · rw [if_neg ht0] at ec er
    have qS : xs_eq [123 + 16 * d] S (xs_sI (xs_sI (xs_sI (xs_sI S (123 + 16 * d) 12 (nI (gw ||| 2 ^ g))) (123 + 16 * d) 13 (nI 2)) (123 + 16 * d) 14 (nI 1)) (123 + 16 * d) 15 (nI ck)) := e_tr (e_sI (by simp)) (e_tr (e_sI (by simp)) (e_tr (e_sI (by simp)) (e_sI (by simp))))
    have qR : xs_eq [224, 227, 228, 229, 230] R (xs_sI (xs_sI (xs_sI (xs_sI R 227 d (nI (gw ||| 2 ^ g))) 230 d (nI ck)) 229 d (nI 1)) 228 d (nI 2)) := e_tr (e_sI (by decide)) (e_tr (e_sI (by decide)) (e_tr (e_sI (by decide)) (e_sI (by decide))))
    refine ⟨_, _, ec, er, kaG (du := 2) (ak := 1) (ck := ck) (gw := gw ||| 2 ^ g) h (Nat.le_refl M) hd qS (fun j hj => by rw [x_fN (by omega), x_fN (by omega), x_fN (by omega), x_fN (by omega)]) qR (fun q e he _ _ => by rw [sR q e he, sR q e he, sR q e he, sR q e he]) ?_ ⟨m, ?_, m3⟩ ?_ ?_ o2 ?_ x_fI (by decide) ?_ (by decide) (fun hh => absurd rfl hh) (fun _ => ?_) x_fI i2' (fun hh => absurd rfl hh) (fun _ => ?_) h7 hss hss2 hM, ag_eq qS fun q hq => by simp; omega, ag_eq qR fun q hq => by simp; omega⟩
    · rw [x_fP (by decide), x_fP (by decide), x_fP (by decide), x_fP (by decide), x_fN (by decide), x_fN (by decide), x_fN (by decide), x_fN (by decide)]
      exact m4
    · rw [x_fN (by decide), x_fN (by decide), x_fN (by decide), x_fN (by decide)]
      exact m2
    · rw [x_fN (by decide), x_fN (by decide), x_fN (by decide), x_fI]
    · rw [x_fP (by decide), x_fP (by decide), x_fP (by decide), x_fI]
    · rw [x_fN (by decide), x_fN (by decide), x_fI]
    · rw [x_fN (by decide), x_fI]
    · rw [x_fP (by decide), x_fI]
    · rw [x_fP (by decide), x_fP (by decide), x_fI]
theorem sim_ktd {K : Nat → Nat → Nat} {N tm d a n g ss : Nat} {b : Nat → Nat} {S R : xs_T} (h : Rel K N tm S R) (hN : N ≤ 512) (hd : d < 3) (hg : g < 2) (ha : ∃ t, t < 12 ∧ a = 4 + 2 * t) (ka : xs_kd a = 2) (cS : xs_cf S a n b) (cR : xs_rf R 23 n b) (h12 : 12 ≤ n) (hok : okL n (b 5 % 16)) (h7 : S.1 (123 + 16 * d) 7 = nI ss) (hss : 1 ≤ ss) (hss2 : ss ≤ N) :
    ∃ S2 R2, xf_K_takeData (123 + 16 * d) a (nI g) S = some S2 ∧ xf_R_heardData_27 200 (nI g) (nI (n - 13 - b 5 % 16)) (nI d) R = some R2 ∧ Rel K (N + 1) tm S2 R2 ∧ xs_ag (fun q => 200 ≤ q ∨ q < 44) S S2 ∧ xs_ag (fun q => q < 200) R R2 := by
  obtain ⟨t, ht, rfl⟩ := ha
  have h24 := cS.2.1
  have la := x_kF ka
  obtain ⟨h0, ⟨q, ss', sr, gn, gw, du, ak, ck, -, ⟨b1, b2, b3⟩, -, -, ⟨g1, g2, g3⟩, ⟨f1, f2, f3⟩, ⟨k1, k2, k3, k4⟩, ⟨i1, i2, i3, i4⟩, -, -, m1⟩, ⟨ni, ni1, ni2, ni3⟩, -⟩ := h.2.2.2.2 d hd
  have ess : ss' = ss := (nI_eq (by omega) (by omega)).mp (b1.symm.trans h7)
  subst ess
  obtain ⟨⟨m, m2, m3⟩, m4, -, ⟨addr, ky1, ky2, m5, ⟨m6, -⟩, m7, m8⟩⟩ := m1 hss
  have kS := (by decide +kernel : ∀ d, d < 3 → xs_kd (124 + 16 * d) = 5 ∧ xs_ln (136 + 16 * d) = 4) d hd
  have b0 := cS.2.2 0 (by omega)
  have v0 := b0.2
  have c0 := cR.2.2 0 (by omega)
  have hpl : n - 13 - b 5 % 16 ≤ 8 := by
    unfold okL at hok
    omega
  have el := y_num_lt (s := fun i => b (6 + i)) 2 (fun i hi => (cS.2.2 (6 + i) (by omega)).2)
  obtain ⟨c, hc1, ec1, ec2⟩ := sim_count2 (N := N) (e := yNum (fun i => b (6 + i)) 2) m2 m3 (by omega) el
  have en6 : xf_R_numberAt 200 23 6 2 R = some (nI (yNum (fun i => b (6 + i)) 2)) := r_num (f := 23) (fr := 6) (n := 2) (m := n) (by decide) (by decide) cR.2.2 (by omega) (by omega)
  have r24 : xs_rd R (200 + 24) (nI d) = some (S.1 (123 + 16 * d) 10) := by
    rw [x_rd (k := 200 + 24) (show d < 3 from hd)]
    exact congrArg some m4
  have r22 : xs_rd R (200 + 22) (nI d) = some (nI addr) := by
    rw [x_rd (k := 200 + 22) (show d < 3 from hd)]
    exact congrArg some m6
  have r10 : xs_rd R (200 + 10) 23 = some (nI n) := by
    rw [show xs_rd R (200 + 10) 23 = _ from x_rd (k := 200 + 10) (j := 23) (by decide)]
    exact congrArg some cR.1
  -- the code
  obtain ⟨S3, e3, q3⟩ := x_right (dir := 0) (cnt := c) kS.1 ka m5 (by omega) (by decide) (show 4 ≤ n by omega) cS
  obtain ⟨R3, er3, s3, qr3⟩ := r_dataCode (f := 23) (n := n - 4) (i := 9 + 2 * d) (dir := 0) (addr := addr) (cnt := c) h.1.1 (by omega) m7 (by decide) (fun i hi => cR.2.2 i (by omega)) (by omega) (by decide) m5.2.1 (by omega)
  have cR3 : xs_rf R3 23 n b := e_rfr qr3 (by decide) (by decide) cR
  have en3 := r_ends (f := 23) (by decide) (show 4 ≤ n by omega) cR3 s3
  rw [show 124 + 16 * d + 6 = 130 + 16 * d by omega, show 124 + 16 * d + 9 = 133 + 16 * d by omega] at q3
  have cS3 : xs_cf S3 (4 + 2 * t) n b := ⟨by rw [q3.1 _ (by simp <;> omega)]; exact cS.1, cS.2.1, e_by q3 (by simp <;> omega) cS.2.2⟩
  have sc3 : xs_ag (fun q => ¬ scC q) S S3 := ag_eq q3 fun q hq => by
    intro hm
    simp at hm
    exact hq (Or.inr (Or.inl ⟨d, hd, by omega⟩))
  have h3 : RelT K N tm (fun _ => tm) S3 R3 := relScrT (td := fun _ => tm) h (Nat.le_refl N) sc3 (arS_eq qr3 (by decide))
  have h3' : RelT K (N + 1) tm (fun _ => tm) S3 R3 := relScrT (td := fun _ => tm) h (Nat.le_succ N) sc3 (arS_eq qr3 (by decide))
  have agl : ∀ q, 200 ≤ q ∨ q < 44 → ¬ scC q := fun q hq => by
    unfold scC
    rintro (⟨e, he, h1⟩ | ⟨e, he, h1⟩ | h1 | h1) <;> omega
  have ag3 := ag_mono sc3 agl
  have agr3 : xs_ag (fun q => q < 200) R R3 := ag_eq qr3 fun q hq => by simp; omega
  have p3 : S3.1 (123 + 16 * d) = S.1 (123 + 16 * d) := q3.1 _ (by simp <;> omega)
  obtain ⟨hh, hh1, hh2⟩ : ∃ hh, hh ≤ 1 ∧ hh = if b 0 = 128 then 1 else 0 := ⟨_, by split <;> decide, rfl⟩
  have ecl : xf_K_takeData (123 + 16 * d) (4 + 2 * t) (nI g) S = if yNum (yMac (ySch ky1) (yRow (yHd 73 0 addr c (n - 4)) b) (16 + (n - 4))) 4 = yNum (fun i => b (n - 4 + i)) 4 then xf_K_takeData_47 (123 + 16 * d) (4 + 2 * t) (nI g) (nI c) (nI hh) S3 else some S3 := by
    unfold xf_K_takeData
    rw [(x_cend ka cS h12).1, Option.bind_some, show xs_gI S (123 + 16 * d) 10 = S.1 (123 + 16 * d) 10 from rfl, ec1, Option.bind_some, show 123 + 16 * d + 1 = 124 + 16 * d by omega, show xf_S_isCodeRight (124 + 16 * d) (4 + 2 * t) 0 (nI c) S = _ from e3, Option.bind_some]
    dsimp only
    by_cases hc : yNum (yMac (ySch ky1) (yRow (yHd 73 0 addr c (n - 4)) b) (16 + (n - 4))) 4 = yNum (fun i => b (n - 4 + i)) 4
    · rw [if_pos hc, if_neg i10, if_pos hc, show xs_rd S3 (4 + 2 * t + 1) 0 = some (nI (b 0)) by
        rw [show xs_rd S3 (4 + 2 * t + 1) 0 = _ from x_rd (j := 0) (by omega)]
        exact congrArg some (cS3.2.2 0 (by omega)).1, Option.bind_some]
      by_cases h128 : b 0 = 128
      · rw [if_pos (show nI (b 0) = 128 by rw [h128]; rfl), hh2, if_pos h128]
        rfl
      · rw [if_neg (show ¬ nI (b 0) = 128 from fun e => h128 ((nI_eq (b := 128) (by omega) (by decide)).mp e)), hh2, if_neg h128]
        rfl
    · rw [if_neg hc, if_pos rfl, if_neg hc]
  have e69 : xf_R_heardData_69 200 (nI g) (nI (n - 13 - b 5 % 16)) (nI d) (nI c) R = if yNum (yMac (ySch ky1) (yRow (yHd 73 0 addr c (n - 4)) b) (16 + (n - 4))) 4 = yNum (fun i => b (n - 4 + i)) 4 then xf_R_heardData_129 200 (nI g) (nI (n - 13 - b 5 % 16)) (nI d) (nI c) (nI hh) R3 else some R3 := by
    unfold xf_R_heardData_69
    rw [r10, Option.bind_some, r22, Option.bind_some, show nI n - 4 = nI (n - 4) from pk_sub (b := 4) (by omega), show (2 : Int32) * nI d = nI (2 * d) from pk_mul 2 d, show (9 : Int32) + nI (2 * d) = nI (9 + 2 * d) from nI_add 9 _, show xf_R_dataCode 200 23 (nI (n - 4)) (nI (9 + 2 * d)) 0 (nI addr) (nI c) R = _ from er3, Option.bind_some, show xf_R_endsWithCode 200 23 R3 = _ from en3, Option.bind_some]
    by_cases hc : yNum (yMac (ySch ky1) (yRow (yHd 73 0 addr c (n - 4)) b) (16 + (n - 4))) 4 = yNum (fun i => b (n - 4 + i)) 4
    · rw [if_pos hc, if_neg i10, if_pos hc, show xf_R_at 200 23 0 R3 = some (nI (b 0)) by
        rw [show xf_R_at 200 23 0 R3 = _ from r_at (f := 23) (i := 0) (by decide) (by decide)]
        exact congrArg some (cR3.2.2 0 (by omega)).1, Option.bind_some]
      by_cases h128 : b 0 = 128
      · rw [if_pos (show nI (b 0) = 128 by rw [h128]; rfl), hh2, if_pos h128]
        rfl
      · rw [if_neg (show ¬ nI (b 0) = 128 from fun e => h128 ((nI_eq (b := 128) (by omega) (by decide)).mp e)), hh2, if_neg h128]
        rfl
    · rw [if_neg hc, if_pos rfl, if_neg hc]
  have erf : xf_R_heardData_27 200 (nI g) (nI (n - 13 - b 5 % 16)) (nI d) R = if yNum (yMac (ySch ky1) (yRow (yHd 73 0 addr c (n - 4)) b) (16 + (n - 4))) 4 = yNum (fun i => b (n - 4 + i)) 4 then xf_R_heardData_129 200 (nI g) (nI (n - 13 - b 5 % 16)) (nI d) (nI c) (nI hh) R3 else some R3 := by
    unfold xf_R_heardData_27
    rw [if_pos (show (0 : Int32) ≤ nI d from nI_le (a := 0) (Nat.zero_le _) (by omega)), en6, Option.bind_some, r24, Option.bind_some, Option.bind_some]
    rcases ec2 with ⟨z1, z2⟩ | ⟨z1, z2⟩
    · rw [if_pos z1, z2, Option.bind_some]
      exact e69
    · rw [if_neg z1, ← z2]
      exact e69
  by_cases hcode : yNum (yMac (ySch ky1) (yRow (yHd 73 0 addr c (n - 4)) b) (16 + (n - 4))) 4 = yNum (fun i => b (n - 4 + i)) 4
  rotate_left
  · rw [if_neg hcode] at ecl erf
    exact ⟨S3, R3, ecl, erf, h3', ag3, agr3⟩
  rw [if_pos hcode] at ecl erf
  by_cases hdup : nI c = S.1 (123 + 16 * d) 10
  · obtain ⟨S4, R4, z1, z2, z3, z4, z5⟩ := sim_kdup (a := 4 + 2 * t) (i2 := nI (n - 13 - b 5 % 16)) (c := nI c) (t := hh) h3' (by omega) hd hg hh1 (by rw [p3]; exact h7) hss (by omega) (by rw [p3]; exact hdup)
    exact ⟨S4, R4, ecl.trans z1, erf.trans z2, z3, ag_tr ag3 z4, ag_tr agr3 z5⟩
  -- a new count
  generalize hS4 : xs_sI (xs_sI S3 (123 + 16 * d) 10 (nI c)) (123 + 16 * d) 12 (nI (2 ^ g)) = S4
  generalize hR4 : xs_sI (xs_sI R3 224 d (nI c)) 227 d (nI (2 ^ g)) = R4
  have qS4 : xs_eq [123 + 16 * d] S3 S4 := by
    rw [← hS4]
    exact e_tr (e_sI (by simp)) (e_sI (by simp))
  have qR4 : xs_eq [224, 227] R3 R4 := by
    rw [← hR4]
    exact e_tr (e_sI (by decide)) (e_sI (by decide))
  have fj : ∀ j, j ≠ 10 → j ≠ 12 → S4.1 (123 + 16 * d) j = S.1 (123 + 16 * d) j := fun j h1 h2 => by rw [← hS4, x_fN h2, x_fN h1, p3]
  have h4 : RelT K (N + 1) tm (fun _ => tm) S4 R4 := kaG (du := du) (ak := ak) (ck := ck) (gw := 2 ^ g) h3' (Nat.le_refl _) hd qS4 (fun j hj => by rw [fj j (by omega) (by omega), p3]) (e_mono qR4 (by decide)) (fun q e he _ _ => by
      have s : ∀ (U : xs_T) k v, (xs_sI U k d v).1 q e = U.1 q e := fun U k v => by
        by_cases hqk : q = k
        · subst hqk
          exact x_fN he
        · rw [x_fP hqk]
      rw [← hR4, s, s]) (by rw [← hR4, ← hS4, x_fP (by decide), x_fI, x_fN (by decide), x_fI]) ⟨c + 1, by rw [← hS4, x_fN (by decide), x_fI, nI_1], by omega⟩ (by rw [← hS4, x_fI]) (by rw [← hR4, x_fI]) (y_gw3 g hg) (by rw [fj 13 (by decide) (by decide)]; exact f1) (by rw [qR4.1 228 (by decide), qr3.1 228 (by decide)]; exact f2) f3 (by rw [fj 14 (by decide) (by decide)]; exact k1) k2 k3 (fun hh => by rw [qR4.1 229 (by decide), qr3.1 229 (by decide)]; exact k4 hh) (by rw [fj 15 (by decide) (by decide)]; exact i1) i2 i3 (fun hh => by rw [qR4.1 230 (by decide), qr3.1 230 (by decide)]; exact i4 hh) (by rw [p3]; exact h7) hss (by omega) (by omega)
  have cS4 : xs_cf S4 (4 + 2 * t) n b := ⟨by rw [qS4.1 _ (by simp <;> omega)]; exact cS3.1, cS3.2.1, e_by qS4 (by simp <;> omega) cS3.2.2⟩
  have cR4 : xs_rf R4 23 n b := e_rfr qR4 (by decide) (by decide) cR3
  have ag4 : xs_ag (fun q => 200 ≤ q ∨ q < 44) S S4 := ag_tr ag3 (ag_eq qS4 fun q hq => by simp; omega)
  have agr4 : xs_ag (fun q => q < 200) R R4 := ag_tr agr3 (ag_eq qR4 fun q hq => by simp; omega)
  have ecl2 : xf_K_takeData (123 + 16 * d) (4 + 2 * t) (nI g) S = if nI (n - 13 - b 5 % 16) ≤ 0 then xf_K_takeData_121 (123 + 16 * d) (4 + 2 * t) (nI g) (nI hh) S4 else (xf_S_readPayload (124 + 16 * d) (4 + 2 * t) 0 (nI c) S4).bind fun q21 => (xf_I_add (135 + 16 * d) q21.1 q21.2).bind fun q22 => xf_K_takeData_121 (123 + 16 * d) (4 + 2 * t) (nI g) (nI hh) q22 := by
    rw [ecl]
    unfold xf_K_takeData_47
    rw [if_neg (show ¬ nI c = xs_gI S3 (123 + 16 * d) 10 from fun e => hdup (by rw [e]; show S3.1 (123 + 16 * d) 10 = _; rw [p3])), Option.bind_some, Option.bind_some, y_gw g hg, hS4, x_payB ka cS4 h12, Option.bind_some, show 123 + 16 * d + 1 = 124 + 16 * d by omega, show 123 + 16 * d + 12 = 135 + 16 * d by omega]
  have erf2 : xf_R_heardData_27 200 (nI g) (nI (n - 13 - b 5 % 16)) (nI d) R = if nI (n - 13 - b 5 % 16) ≤ 0 then xf_R_heardData_261 200 (nI g) (nI d) (nI hh) R4 else (xf_R_payloadAt 200 23 (nI (n - 13 - b 5 % 16)) R4).bind fun q38 => (xs_rd R4 (200 + 22) (nI d)).bind fun v39 => (xf_R_enciphered 200 q38 (nI (n - 13 - b 5 % 16)) (nI (10 + 2 * d)) 0 v39 (nI c) R4).bind fun q40 => (xf_R_receive 200 (nI d) q40.1 q40.2).bind fun q41 => xf_R_heardData_261 200 (nI g) (nI d) (nI hh) q41 := by
    rw [erf]
    unfold xf_R_heardData_129
    rw [x_rd (k := 200 + 24) (show d < 3 from hd), Option.bind_some, if_neg (show ¬ nI c = R3.1 (200 + 24) d from fun e => hdup (by rw [e, qr3.1 (200 + 24) (by decide)]; exact m4)), x_wr (k := 200 + 24) (show d < 3 from hd), Option.bind_some, y_gw g hg, x_wr (k := 200 + 27) (show d < 3 from hd), Option.bind_some, show (2 : Int32) * nI d = nI (2 * d) from pk_mul 2 d, show (10 : Int32) + nI (2 * d) = nI (10 + 2 * d) from nI_add 10 _]
    show (if nI (n - 13 - b 5 % 16) ≤ 0 then xf_R_heardData_261 200 (nI g) (nI d) (nI hh) (xs_sI (xs_sI R3 224 d (nI c)) 227 d (nI (2 ^ g))) else (xf_R_payloadAt 200 23 (nI (n - 13 - b 5 % 16)) (xs_sI (xs_sI R3 224 d (nI c)) 227 d (nI (2 ^ g)))).bind fun q38 => (xs_rd (xs_sI (xs_sI R3 224 d (nI c)) 227 d (nI (2 ^ g))) (200 + 22) (nI d)).bind fun v39 => (xf_R_enciphered 200 q38 (nI (n - 13 - b 5 % 16)) (nI (10 + 2 * d)) 0 v39 (nI c) (xs_sI (xs_sI R3 224 d (nI c)) 227 d (nI (2 ^ g)))).bind fun q40 => _) = _
    rw [hR4]
  by_cases hz : n - 13 - b 5 % 16 = 0
  · rw [hz, if_pos (show nI 0 ≤ 0 by decide)] at ecl2 erf2
    obtain ⟨S5, R5, z1, z2, z3, z4, z5⟩ := sim_kend (g := g) (t := hh) h4 (by omega) hd ka cS4 cR4 h12 hh1 (by rw [fj 7 (by decide) (by decide)]; exact h7) hss (by omega)
    rw [hz]
    exact ⟨S5, R5, ecl2.trans z1, erf2.trans z2, z3, ag_tr ag4 z4, ag_tr agr4 z5⟩
  have hz' : ¬ nI (n - 13 - b 5 % 16) ≤ 0 := by
    rw [Int32.le_iff_toInt_le, nI_toInt (by omega)]
    show ¬ _ ≤ (0 : Int)
    omega
  rw [if_neg hz'] at ecl2 erf2
  have hn5 : n = 13 + b 5 % 16 + (n - 13 - b 5 % 16) := by
    unfold okL at hok
    omega
  have hs4 : xs_ses S4 (124 + 16 * d) addr (ySch ky1) (ySch ky2) := e_ses qS4 (by simp <;> omega) (by simp <;> omega) (by simp <;> omega) (by simp <;> omega) (by simp <;> omega) (e_ses q3 (by simp <;> omega) (by simp <;> omega) (by simp <;> omega) (by simp <;> omega) (by simp <;> omega) m5)
  obtain ⟨P, S5, R5, e5, er5, q5, qr5⟩ := sim_pay (pl := n - 13 - b 5 % 16) (i := 10 + 2 * d) (dir := 0) (addr := addr) (cnt := c) kS.1 ka hs4 h4.1.1 (by omega) (by
    rw [show 10 + 2 * d = 9 + 2 * d + 1 by omega]
    exact e_by qR4 (by decide) (e_by qr3 (by decide) m8)) (by omega) (by decide) cS4 cR4 h12 (by omega) hpl hn5
  rw [show 124 + 16 * d + 9 = 133 + 16 * d by omega] at q5
  have h5 : RelT K (N + 1) tm (fun _ => tm) S5 R5 := relScrT h4 (Nat.le_refl _) (ag_eq q5 fun q hq => by
    intro hm
    simp at hm
    exact hq (Or.inr (Or.inl ⟨d, hd, by omega⟩))) (arS_eq qr5 (by decide))
  have n5 : S5.1 (135 + 16 * d) 1 = nI ni := by
    rw [q5.1 _ (by simp <;> omega), qS4.1 _ (by simp <;> omega), q3.1 _ (by simp <;> omega)]
    exact ni1
  have nr5 : R5.1 234 d = nI ni := by
    rw [qr5.1 234 (by decide), qR4.1 234 (by decide), qr3.1 234 (by decide)]
    exact ni2
  have h6 := st_inK (P := P) h5 (Nat.le_refl _) hd n5 (by omega) (by omega)
  generalize hS6 : xs_sI (xs_sL S5 (136 + 16 * d) (ni % 4) P) (135 + 16 * d) 1 (nI (ni + 1)) = S6 at h6
  generalize hR6 : xs_sI (xs_sL R5 235 (4 * d + ni % 4) P) 234 d (nI (ni + 1)) = R6 at h6
  have ag6 : xs_ag (fun q => q ≠ 135 + 16 * d ∧ q ≠ 136 + 16 * d ∧ q ≠ 133 + 16 * d) S4 S6 := by
    rw [← hS6]
    exact ag_tr (ag_eq q5 fun q hq => by simp; omega) (ag_tr (ag_sL fun q hq => hq.2.1) (ag_sI fun q hq => hq.1))
  have rq6 : ∀ q, q ≠ 234 → R6.1 q = R5.1 q := fun q hq => by
    rw [← hR6, x_fP hq]
    rfl
  have agr6 : xs_ag (fun q => q < 200) R4 R6 := by
    rw [← hR6]
    exact ag_tr (ag_eq qr5 fun q hq => by simp; omega) (ag_tr (ag_sL fun q hq => by omega) (ag_sI fun q hq => by omega))
  have cS6 := ag_cf ag6 (by omega) (by omega) cS4
  have cR6 : xs_rf R6 23 n b := ⟨by rw [rq6 210 (by decide), qr5.1 210 (by decide)]; exact cR4.1, cR4.2.1, fun i hi => by rw [rq6 209 (by decide), qr5.1 209 (by decide)]; exact cR4.2.2 i hi⟩
  obtain ⟨S7, R7, z1, z2, z3, z4, z5⟩ := sim_kend (g := g) (t := hh) h6 (by omega) hd ka cS6 cR6 h12 hh1 (by rw [(ag6 _ (by omega)).1, fj 7 (by decide) (by decide)]; exact h7) hss (by omega)
  refine ⟨S7, R7, ?_, ?_, z3, ag_tr ag4 (ag_tr (ag_mono ag6 fun q hq => by omega) z4), ag_tr agr4 (ag_tr agr6 z5)⟩
  · rw [ecl2, show xf_S_readPayload (124 + 16 * d) (4 + 2 * t) 0 (nI c) S4 = _ from e5, Option.bind_some, x_iadd (k := 135 + 16 * d) (by rw [show 135 + 16 * d + 1 = 136 + 16 * d by omega]; exact kS.2) n5 (by omega), Option.bind_some, show 135 + 16 * d + 1 = 136 + 16 * d by omega, hS6, z1]
  · rw [erf2, x_rd (k := 200 + 22) (show d < 3 from hd), show R4.1 (200 + 22) d = nI addr by
      rw [qR4.1 (200 + 22) (by decide), qr3.1 (200 + 22) (by decide)]
      exact m6]
    cases hp : xf_R_payloadAt 200 23 (nI (n - 13 - b 5 % 16)) R4 with
    | none =>
      rw [hp] at er5
      exact absurd er5 (by simp)
    | some P0 =>
      rw [hp, Option.bind_some] at er5
      rw [Option.bind_some, Option.bind_some, show xf_R_enciphered 200 P0 (nI (n - 13 - b 5 % 16)) (nI (10 + 2 * d)) 0 (nI addr) (nI c) R4 = _ from er5, Option.bind_some, r_recv (by omega) nr5 (by omega), Option.bind_some, hR6, z2]
