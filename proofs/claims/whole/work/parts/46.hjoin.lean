/-! the server hears a JOIN, both ways -/
theorem st_ser {K : Nat → Nat → Nat} {N tm n : Nat} {td : Nat → Nat} {S R : xs_T} (h : RelT K N tm td S R) (h1 : S.1 119 2 = nI n) (hn : n ≤ N) : RelT K (N + 1) tm td (xs_sI S 119 2 (nI (n + 1))) (xs_sI R 200 23 (nI (n + 1))) := by
  have aS : xs_ag (fun q => q ≠ 119) S (xs_sI S 119 2 (nI (n + 1))) := ag_sI fun q hq => hq
  have eR : ∀ q, q ≠ 200 → (xs_sI R 200 23 (nI (n + 1))).1 q = R.1 q := fun q hq => x_fP hq
  have e2 : ∀ j, j ≠ 23 → (xs_sI R 200 23 (nI (n + 1))).1 200 j = R.1 200 j := fun j hj => x_fN hj
  have aF : ∀ f, agF f R (xs_sI R 200 23 (nI (n + 1))) := fun f => ⟨fun j _ => by rw [eR 209 (by decide)], by rw [eR 210 (by decide)], by rw [eR 211 (by decide)]⟩
  obtain ⟨hT, ⟨⟨a1, a2, a3⟩, -, c⟩, hA, hD, hK⟩ := h
  refine ⟨relT_fr hT (ag_mono aS fun q hq => by omega) ⟨eR 201 (by decide), eR 202 (by decide), fun j _ => by rw [eR 207 (by decide)]⟩, ⟨⟨by rw [x_fP (by decide)]; exact a1, by rw [e2 8 (by decide)]; exact a2, by omega⟩, ⟨n + 1, x_fI, x_fI, by omega⟩, c⟩, relA_fr hA (Nat.le_succ N) (ag_mono aS fun q hq => by omega) ⟨e2 12 (by decide), e2 13 (by decide), fun f _ => aF f⟩, fun e he => relD_fr (hD e he) (Nat.le_succ N) (Nat.le_refl _) (ag_mono aS fun q hq => by omega) ⟨fun q h1 h2 => by rw [eR q (by omega)], fun j _ => by rw [eR 236 (by decide)], by rw [eR 234 (by decide)], fun j _ => rfl, aF _, fun j _ => by rw [eR 207 (by decide)]⟩, fun e he => relK_fr (hK e he) (Nat.le_succ N) (ag_mono aS fun q hq => by omega) ⟨fun q h1 h2 => by rw [eR q (by omega)], by rw [eR 233 (by decide)], fun j _ => ⟨rfl, by rw [eR 232 (by decide)]⟩, by rw [eR 234 (by decide)], fun j _ => rfl, fun j _ => by rw [eR 207 (by decide)]⟩⟩
theorem r_hjN {R : xs_T} {n : Nat} {b : Nat → Nat} (h : xs_rf R 23 n b) (h12 : 12 ≤ n) (h0 : b 0 = 0) (hj : ¬ yJf n b) : xf_R_heardJoin 200 R = some R := by
  have h24 := h.2.1
  have b9 := h.2.2 9 (by omega)
  have v9 := b9.2
  unfold xf_R_heardJoin
  rw [show xf_R_at 200 23 9 R = some (nI (b 9)) by
    rw [show xf_R_at 200 23 9 R = _ from r_at (f := 23) (i := 9) (by decide) (by decide)]
    exact congrArg some b9.1, Option.bind_some, show xs_rd R (200 + 10) 23 = some (nI n) by
    rw [show xs_rd R (200 + 10) 23 = _ from x_rd (k := 210) (j := 23) (by decide)]
    exact congrArg some h.1, Option.bind_some]
  by_cases h1 : n = 23
  rotate_left
  · rw [if_neg (show ¬ nI n = 23 from fun e => h1 ((nI_eq (b := 23) (by omega) (by decide)).mp e))]
  rw [if_pos (show nI n = 23 by rw [h1]; rfl)]
  rcases r_zeros (fr := 1) (m := 8) h (by omega) with ⟨e, z1⟩ | ⟨e, -⟩
  rotate_left
  · rw [show xf_R_zeros 200 23 1 9 R = _ from e, Option.bind_some, if_pos rfl]
  rw [show xf_R_zeros 200 23 1 9 R = _ from e, Option.bind_some, if_neg i10]
  by_cases h3 : b 9 < 3
  rotate_left
  · rw [if_pos (show (2 : Int32) < nI (b 9) from nI_lt (a := 2) (by omega) (by omega))]
  rw [if_neg (show ¬ (2 : Int32) < nI (b 9) from Int32.not_lt.mpr (nI_le (b := 2) (by omega) (by decide)))]
  rcases r_zeros (fr := 10) (m := 7) h (by omega) with ⟨e2, z2⟩ | ⟨e2, -⟩
  rotate_left
  · rw [show xf_R_zeros 200 23 10 17 R = _ from e2, Option.bind_some, if_pos rfl]
  refine absurd ⟨h1, h0, h3, fun j h4 h5 h6 => ?_⟩ hj
  rcases (show j < 9 ∨ 9 < j by omega) with h7 | h7
  · have := z1 (j - 1) (by omega)
    rw [show 1 + (j - 1) = j by omega] at this
    exact this
  · have := z2 (j - 10) (by omega)
    rw [show 10 + (j - 10) = j by omega] at this
    exact this
theorem sim_hjoin {K : Nat → Nat → Nat} {N tm a n : Nat} {b : Nat → Nat} {S R : xs_T} (h : Rel K N tm S R) (hN : N ≤ 512) (ha : ∃ t, t < 12 ∧ a = 4 + 2 * t) (ka : xs_kd a = 2) (cS : xs_cf S a n b) (cR : xs_rf R 23 n b) (hj : yJf n b) :
    ∃ S2 R2, xf_V_takeJoin 119 a S = some S2 ∧ xf_R_heardJoin 200 R = some R2 ∧ Rel K (N + 1) tm S2 R2 ∧ xs_ag (fun q => 200 ≤ q) S S2 ∧ xs_ag (fun q => q < 200) R R2 := by
  obtain ⟨t, ht, rfl⟩ := ha
  obtain ⟨rfl, hb0, hd, hz⟩ := hj
  have la := x_kF ka
  obtain ⟨d, hdd⟩ : ∃ d, d = b 9 := ⟨_, rfl⟩
  rw [← hdd] at hd
  have c9 := cS.2.2 9 (by decide)
  have cr9 := cR.2.2 9 (by decide)
  obtain ⟨h0, ⟨q, ss, sr, gn, gw, du, ak, ck, ⟨a1, a2, a3⟩, ⟨b1, b2, b3⟩, ⟨c1, c2, c3⟩, ⟨d1, d2, d3⟩, ⟨g1, g2, g3⟩, ⟨f1, f2, f3⟩, -, -, -, l1, -⟩, hI⟩ := h.2.2.2.2 d hd
  obtain ⟨⟨t1, t2, t3⟩, ⟨ns, u1, u2, u3⟩, -⟩ := h.2.1
  obtain ⟨hkey, hmac⟩ := h.1.2 d hd
  have hkb : yB 16 (K d) := fun j hj => (hkey j hj).2
  have hW := y_sc_lt (y_sch (key := K d)) hkb
  have kM := (by decide +kernel : ∀ d, d < 3 → xs_kd (47 + 24 * d) = 4 ∧ xs_rt (123 + 16 * d) = 47 + 24 * d) d hd
  have nl := y_num_lt (s := fun i => b (17 + i)) 2 (fun i hi => (cS.2.2 (17 + i) (by omega)).2)
  have cl := y_num_lt (s := fun i => b (19 + i)) 4 (fun i hi => (cS.2.2 (19 + i) (by omega)).2)
  -- both codes
  obtain ⟨S1, e1, q1⟩ := x_code (k := 47 + 24 * d) (a := 4 + 2 * t + 1) (n := 19) kM.1 hmac (by decide) (by omega) (by omega) (fun i hi => cS.2.2 i (by omega))
  rw [show 47 + 24 * d + 5 = 52 + 24 * d by omega] at q1
  obtain ⟨R1, er1, s1, qr1⟩ := r_rootCode (f := 23) (n := 19) h.1.1 (show d < 15 by omega) hkey (by decide) (fun i hi => cR.2.2 i (by omega)) (by decide) (by decide)
  have v1 := x_code4 (n := 19) hW (fun i hi => (cS.2.2 i (by omega)).2)
  have cR1 : xs_rf R1 23 23 b := e_rfr qr1 (by decide) (by decide) cR
  have en1 : xf_R_endsWithCode 200 23 R1 = some (if yNum (yMac (ySch (K d)) b 19) 4 = yNum (fun i => b (19 + i)) 4 then 1 else 0) := r_ends (f := 23) (by decide) (by decide) cR1 s1
  have n17 : xf_R_numberAt 200 23 17 2 R1 = some (nI (yNum (fun i => b (17 + i)) 2)) := r_num (f := 23) (fr := 17) (n := 2) (m := 23) (by decide) (by decide) cR1.2.2 (by decide) (by decide)
  have sc1 : xs_ag (fun q => ¬ scC q) S S1 := ag_eq q1 fun q hq => by
    intro hm
    simp at hm
    exact hq (Or.inl ⟨d, hd, by omega⟩)
  have aR1 : arS R R1 := arS_eq qr1 (by decide)
  have agl : ∀ q, 200 ≤ q → ¬ scC q := fun q hq => by
    unfold scC
    rintro (⟨e, he, h1⟩ | ⟨e, he, h1⟩ | h1 | h1) <;> omega
  have ecl : xf_V_takeJoin 119 (4 + 2 * t) S = if nI (yNum (fun i => b (17 + i)) 2) ≤ S.1 (123 + 16 * d) 9 then some S else (if nI (yNum (yMac (ySch (K d)) b 19) 4) = nI (yNum (fun i => b (19 + i)) 4) then (some (xs_sI S1 119 2 ((xs_gI S1 119 2) + 1))).bind fun S8 => (xf_K_openSession (123 + 16 * d) (xs_gI S8 119 2) (nI (yNum (fun i => b (17 + i)) 2)) S8).bind fun q9 => some q9 else some S1) := by
    unfold xf_V_takeJoin
    rw [show xs_rd S (4 + 2 * t + 1) 9 = some (nI d) by
      rw [show xs_rd S (4 + 2 * t + 1) 9 = _ from x_rd (j := 9) (by omega), hdd]
      exact congrArg some c9.1, Option.bind_some, show xs_rdU S (119 + 1) (nI d) xs_cK = some (123 + 16 * d) from q_rdK h.2.1 hd, Option.bind_some, show xf_W_number (4 + 2 * t + 1) 17 2 S = _ from x_num (fr := 17) (n := 2) (by decide) (by omega) (x_by_le cS.2.2 (m := 2) 17 (by decide)), Option.bind_some, show xf_W_number (4 + 2 * t + 1) 19 4 S = _ from x_num (fr := 19) (n := 4) (by decide) (by omega) (x_by_le cS.2.2 (m := 4) 19 (by decide)), Option.bind_some, kM.2, show xf_M_codeOf (47 + 24 * d) (4 + 2 * t + 1) 19 S = _ from e1, Option.bind_some]
  have erf : xf_R_heardJoin 200 R = (if yNum (yMac (ySch (K d)) b 19) 4 = yNum (fun i => b (19 + i)) 4 then (if S.1 (123 + 16 * d) 9 < nI (yNum (fun i => b (17 + i)) 2) then (xs_wr R1 (200 + 26) (nI d) (nI (yNum (fun i => b (17 + i)) 2))).bind fun S15 => (some (xs_sI S15 200 23 ((xs_gI S15 200 23) + 1))).bind fun S16 => (xs_rd S16 (200 + 21) (nI d)).bind fun v17 => (xs_wr S16 (200 + 21) (nI d) (v17 + 1)).bind fun S18 => (xs_wr S18 (200 + 23) (nI d) (xs_gI S18 200 23)).bind fun S19 => (xs_rd S19 (200 + 21) (nI d)).bind fun v20 => (xs_wr S19 (200 + 22) (nI d) (((nI d + 1) + ((xs_rem v20 256) <<< ((8 : Int32) &&& 31) : Int32)) + 637534208)).bind fun S21 => (xf_R_derive 200 (nI d) (xs_gI S21 200 23) (nI (yNum (fun i => b (17 + i)) 2)) (9 + (2 * nI d)) S21).bind fun q22 => (xs_wr q22 (200 + 24) (nI d) (-1)).bind fun S23 => (xs_wr S23 (200 + 25) (nI d) 0).bind fun S24 => (xs_wr S24 (200 + 28) (nI d) 1).bind fun S25 => some S25 else some R1) else some R1) := by
    unfold xf_R_heardJoin
    have z1 : xf_R_zeros 200 23 1 9 R = some 1 := by
      rcases r_zeros (fr := 1) (m := 8) cR (by decide) with ⟨e, -⟩ | ⟨-, z⟩
      · exact e
      · exact absurd (fun j hj => hz (1 + j) (by omega) (by omega) (by omega)) z
    have z2 : xf_R_zeros 200 23 10 17 R = some 1 := by
      rcases r_zeros (fr := 10) (m := 7) cR (by decide) with ⟨e, -⟩ | ⟨-, z⟩
      · exact e
      · exact absurd (fun j hj => hz (10 + j) (by omega) (by omega) (by omega)) z
    rw [show xf_R_at 200 23 9 R = some (nI d) by
      rw [show xf_R_at 200 23 9 R = _ from r_at (f := 23) (i := 9) (by decide) (by decide), hdd]
      exact congrArg some cr9.1, Option.bind_some, show xs_rd R (200 + 10) 23 = some (nI 23) by
      rw [show xs_rd R (200 + 10) 23 = _ from x_rd (k := 210) (j := 23) (by decide)]
      exact congrArg some cR.1, Option.bind_some, if_pos (show nI 23 = 23 from rfl), z1, Option.bind_some, if_neg i10, if_neg (show ¬ (2 : Int32) < nI d from Int32.not_lt.mpr (nI_le (b := 2) (by omega) (by decide))), z2, Option.bind_some, if_neg i10, show xf_R_rootCode 200 23 19 (nI d) R = _ from er1, Option.bind_some, n17, Option.bind_some, en1, Option.bind_some, x_rd (k := 200 + 26) (show d < 3 from hd), Option.bind_some, show R1.1 (200 + 26) d = S.1 (123 + 16 * d) 9 by
      rw [qr1.1 (200 + 26) (by decide)]
      exact d2]
    by_cases hc : yNum (yMac (ySch (K d)) b 19) 4 = yNum (fun i => b (19 + i)) 4
    · rw [if_pos hc, if_pos hc, if_neg i10]
    · rw [if_neg hc, if_neg hc, if_pos rfl]
  by_cases hle : nI (yNum (fun i => b (17 + i)) 2) ≤ S.1 (123 + 16 * d) 9
  · rw [if_pos hle] at ecl
    have erf' : xf_R_heardJoin 200 R = some R1 := by
      rw [erf, if_neg (Int32.not_lt.mpr hle)]
      split <;> rfl
    exact ⟨S, R1, ecl, erf', relScr h (Nat.le_succ N) ag_rf aR1, ag_rf, ag_eq qr1 fun q hq => by simp; omega⟩
  rw [if_neg hle] at ecl
  rw [if_pos (Int32.not_le.mp hle)] at erf
  by_cases hc : yNum (yMac (ySch (K d)) b 19) 4 = yNum (fun i => b (19 + i)) 4
  rotate_left
  · rw [if_neg (fun e => hc (n_inj v1 cl e))] at ecl
    rw [if_neg hc] at erf
    exact ⟨S1, R1, ecl, erf, relScr h (Nat.le_succ N) sc1 aR1, ag_mono sc1 agl, ag_eq qr1 fun q hq => by simp; omega⟩
  rw [if_pos (by rw [hc])] at ecl
  rw [if_pos hc] at erf
  -- the new session
  have hr1 : RelT K N tm (fun _ => tm) S1 R1 := relScrT (td := fun _ => tm) h (Nat.le_refl N) sc1 aR1
  have s119 : S1.1 119 2 = nI ns := by
    rw [q1.1 119 (by simp <;> omega)]
    exact u1
  have hr2 := st_ser hr1 s119 u3
  rw [Option.bind_some, show xs_gI S1 119 2 = nI ns from s119, nI_1, show xs_gI (xs_sI S1 119 2 (nI (ns + 1))) 119 2 = nI (ns + 1) from x_fI] at ecl
  have p1 : S1.1 (123 + 16 * d) = S.1 (123 + 16 * d) := q1.1 _ (by simp <;> omega)
  have q8 : xs_eq [119] S1 (xs_sI S1 119 2 (nI (ns + 1))) := e_sI (by decide)
  generalize hS8 : xs_sI S1 119 2 (nI (ns + 1)) = S8 at ecl hr2 q8
  have p8 : S8.1 (123 + 16 * d) = S.1 (123 + 16 * d) := by rw [q8.1 _ (by simp <;> omega), p1]
  obtain ⟨S9, e9, s9, w7, w8, w9, w10, w11, w13, w14, w15, wj, q9⟩ := x_openSess (S := S8) (serial := ns + 1) (nonce := yNum (fun i => b (17 + i)) 2) (W := ySch (K d)) hd (by rw [p8]; exact h0) (by rw [p8]; exact b1) (by omega) (by
    have := (e_mac q8 (by simp <;> omega) (by simp <;> omega) (by simp <;> omega) (e_mac q1 (by simp <;> omega) (by simp <;> omega) (by simp <;> omega) hmac)).1
    rw [show 47 + 24 * d + 2 = 49 + 24 * d by omega] at this
    exact this) (by omega) (by omega)
  rw [e9, Option.bind_some] at ecl
  -- the reference
  rw [x_wr (k := 200 + 26) (show d < 3 from hd), Option.bind_some] at erf
  generalize hR2 : xs_sI R1 (200 + 26) d (nI (yNum (fun i => b (17 + i)) 2)) = R2 at erf
  have qr2 : xs_eq [226] R1 R2 := by
    rw [← hR2]
    exact e_sI (by decide)
  have g23 : xs_gI R2 200 23 = nI ns := by
    show R2.1 200 23 = _
    rw [qr2.1 200 (by decide), qr1.1 200 (by decide)]
    exact u2
  rw [g23, nI_1, Option.bind_some] at erf
  generalize hR3 : xs_sI R2 200 23 (nI (ns + 1)) = R3 at erf
  have qr3 : xs_eq [200] R2 R3 := by
    rw [← hR3]
    exact e_sI (by decide)
  have r3200 : R3.1 200 = (xs_sI R1 200 23 (nI (ns + 1))).1 200 := by
    rw [← hR3, p_sI, p_at, p_sI, p_at, qr2.1 200 (by decide)]
  have e21 : ∀ T : xs_T, T.1 221 d = nI ss → xs_rd T (200 + 21) (nI d) = some (nI ss) := fun T hT => by
    rw [x_rd (k := 200 + 21) (show d < 3 from hd)]
    exact congrArg some hT
  rw [e21 R3 (by rw [qr3.1 221 (by decide), qr2.1 221 (by decide), qr1.1 221 (by decide)]; exact b2), Option.bind_some, nI_1, x_wr (k := 200 + 21) (show d < 3 from hd), Option.bind_some] at erf
  generalize hR4 : xs_sI R3 (200 + 21) d (nI (ss + 1)) = R4 at erf
  have qr4 : xs_eq [221] R3 R4 := by
    rw [← hR4]
    exact e_sI (by decide)
  have g23b : xs_gI R4 200 23 = nI (ns + 1) := by
    show R4.1 200 23 = _
    rw [qr4.1 200 (by decide), ← hR3]
    exact x_fI
  rw [g23b, x_wr (k := 200 + 23) (show d < 3 from hd), Option.bind_some] at erf
  generalize hR5 : xs_sI R4 (200 + 23) d (nI (ns + 1)) = R5 at erf
  have qr5 : xs_eq [223] R4 R5 := by
    rw [← hR5]
    exact e_sI (by decide)
  rw [x_rd (k := 200 + 21) (show d < 3 from hd), Option.bind_some, show R5.1 (200 + 21) d = nI (ss + 1) by
    rw [qr5.1 (200 + 21) (by decide), ← hR4]
    exact x_fI, show xs_rem (nI (ss + 1)) 256 = nI ((ss + 1) % 256) from pk_rem (d := 256) (by omega) (by decide) (by decide), y_adR d hd _ (Nat.mod_lt _ (by decide)), x_wr (k := 200 + 22) (show d < 3 from hd), Option.bind_some] at erf
  generalize hR6 : xs_sI R5 (200 + 22) d (nI (yP (d + 1) ((ss + 1) % 256) 0 38)) = R6 at erf
  have qr6 : xs_eq [222] R5 R6 := by
    rw [← hR6]
    exact e_sI (by decide)
  have q16 : xs_eq [200, 221, 222, 223, 226] R1 R6 := e_tr (e_mono qr2 (by decide)) (e_tr (e_mono qr3 (by decide)) (e_tr (e_mono qr4 (by decide)) (e_tr (e_mono qr5 (by decide)) (e_mono qr6 (by decide)))))
  have q06 : xs_eq [203, 204, 205, 206, 208, 200, 221, 222, 223, 226] R R6 := e_tr (e_mono qr1 (by decide)) (e_mono q16 (by decide))
  have g23c : xs_gI R6 200 23 = nI (ns + 1) := by
    show R6.1 200 23 = _
    rw [qr6.1 200 (by decide), qr5.1 200 (by decide)]
    exact g23b
  obtain ⟨R7, e7, k1, k2, k3, qr7⟩ := r_derive (r := d) (i := 9 + 2 * d) (serial := ns + 1) (nonce := yNum (fun i => b (17 + i)) 2) (e_bx q06 (by decide) (by decide) h.1.1) hd (e_key q06 (by decide) hkey) (by omega) (by omega) (by omega)
  rw [g23c, show (2 : Int32) * nI d = nI (2 * d) from pk_mul 2 d, show (9 : Int32) + nI (2 * d) = nI (9 + 2 * d) from nI_add 9 _, e7, Option.bind_some, x_wr (k := 200 + 24) (show d < 3 from hd), Option.bind_some, x_wr (k := 200 + 25) (show d < 3 from hd), Option.bind_some, x_wr (k := 200 + 28) (show d < 3 from hd), Option.bind_some] at erf
  generalize hR8 : xs_sI (xs_sI (xs_sI R7 (200 + 24) d (-1)) (200 + 25) d 0) (200 + 28) d 1 = R8 at erf
  have qr8 : xs_eq [224, 225, 228] R7 R8 := by
    rw [← hR8]
    exact e_tr (e_sI (by decide)) (e_tr (e_sI (by decide)) (e_sI (by decide)))
  have q68 : xs_eq [203, 204, 205, 207, 224, 225, 228] R6 R8 := e_tr (e_mono qr7 (by decide)) (e_mono qr8 (by decide))
  have q38 : xs_eq [203, 204, 205, 207, 221, 222, 223, 224, 225, 228] R3 R8 := e_tr (e_mono qr4 (by decide)) (e_tr (e_mono qr5 (by decide)) (e_tr (e_mono qr6 (by decide)) (e_mono q68 (by decide))))
  -- from R1 with the serial
  have rq : ∀ q, q ∉ [203, 204, 205, 207, 221, 222, 223, 224, 225, 226, 228] → R8.1 q = (xs_sI R1 200 23 (nI (ns + 1))).1 q := fun q hq => by
    rw [q38.1 q (by simp at hq ⊢; omega)]
    by_cases h200 : q = 200
    · rw [h200, r3200]
    · rw [qr3.1 q (by simp; omega), qr2.1 q (by simp at hq ⊢; omega), x_fP h200]
  have r2 : R8.2 = R1.2 := q38.2.trans (qr3.2.trans qr2.2)
  have oth : ∀ q e, e ≠ d → 221 ≤ q → R8.1 q e = (xs_sI R1 200 23 (nI (ns + 1))).1 q e := fun q e he hq => by
    have s : ∀ (U : xs_T) k v, (xs_sI U k d v).1 q e = U.1 q e := fun U k v => by
      by_cases hqk : q = k
      · subst hqk
        exact x_fN he
      · rw [x_fP hqk]
    rw [← hR8, s, s, s, qr7.1 q (by simp; omega), ← hR6, s, ← hR5, s, ← hR4, s, qr3.1 q (by simp; omega), ← hR2, s, x_fP (by omega)]
  have rk : ∀ j, j < 16 * (9 + 2 * d) ∨ 16 * (9 + 2 * d) + 32 ≤ j → R8.1 207 j = (xs_sI R1 200 23 (nI (ns + 1))).1 207 j := fun j hj => by
    rw [qr8.1 207 (by decide), k3 j hj, q16.1 207 (by decide), x_fP (by decide)]
  have aF : ∀ f, agF f (xs_sI R1 200 23 (nI (ns + 1))) R8 := fun f => ⟨fun j _ => by rw [rq 209 (by decide)], by rw [rq 210 (by decide)], by rw [rq 211 (by decide)]⟩
  have ag9 : xs_ag (fun q => ¬ scC q ∧ ¬ pK d q) S8 S9 := ag_eq q9 fun q hq => by
    intro hm
    simp at hm
    rcases hm with h | h | h | h | h | h | h
    · exact hq.2 (by unfold pK; omega)
    · exact hq.2 (by unfold pK; omega)
    · exact hq.2 (by unfold pK; omega)
    · exact hq.2 (by unfold pK; omega)
    · exact hq.2 (by unfold pK; omega)
    · exact hq.2 (by unfold pK; omega)
    · exact hq.1 (Or.inr (Or.inl ⟨d, hd, by omega⟩))
  have qS : xs_eq [52 + 24 * d, 119, 123 + 16 * d, 124 + 16 * d, 127 + 16 * d, 128 + 16 * d, 129 + 16 * d, 132 + 16 * d, 134 + 16 * d] S S9 := e_tr (e_mono q1 (by simp)) (e_tr (e_mono q8 (by simp)) (e_mono q9 (by simp)))
  have qR : xs_eq [203, 204, 205, 206, 208, 200, 221, 222, 223, 226, 207, 224, 225, 228] R R8 := e_tr (e_mono q06 (by decide)) (e_mono q68 (by decide))
  refine ⟨S9, R8, ecl, erf, relOneKT hr2 (Nat.le_refl _) hd ag9 ⟨rq 201 (by decide), rq 202 (by decide), fun j hj => rk j (by omega)⟩ ⟨by rw [rq 200 (by decide)], by rw [rq 200 (by decide)]⟩ ⟨by rw [rq 200 (by decide)], by rw [rq 200 (by decide)], fun f _ => aF f⟩ (fun e he => ⟨fun q h1 h2 => by rw [rq q (by simp; omega)], fun j _ => by rw [rq 236 (by decide)], by rw [rq 234 (by decide)], fun j _ => by rw [r2]; rfl, aF _, fun j hj => rk _ (by omega)⟩) (fun e he hed => ⟨fun q h1 h2 => oth q e hed h1, by rw [rq 233 (by decide)], fun j _ => ⟨by rw [r2]; rfl, by rw [rq 232 (by decide)]⟩, by rw [rq 234 (by decide)], fun j _ => by rw [r2]; rfl, fun j hj => rk _ (by omega)⟩) ?_, ag_eq qS fun q hq => by simp; omega, ag_eq qR fun q hq => by simp; omega⟩
  have w0 := wj 0 (by omega)
  rw [p8] at w0
  refine ⟨by rw [w0]; exact h0, ⟨q, ss + 1, ns + 1, yNum (fun i => b (17 + i)) 2 + 1, gw, 1, 0, 0, ⟨by rw [wj 6 (by omega), p8]; exact a1, by rw [qR.1 233 (by decide)]; exact a2, a3⟩, ⟨w7, ?_, by omega⟩, ⟨w8, ?_, by omega⟩, ⟨by rw [w9, nI_1], ?_, by omega⟩, ⟨by rw [wj 12 (by omega), p8]; exact g1, by rw [qR.1 227 (by decide)]; exact g2, g3⟩, ⟨w13, ?_, by decide⟩, ⟨w14, by decide, fun _ => rfl, fun hh => absurd hh (by decide)⟩, ⟨w15, by decide, fun _ => rfl, fun hh => absurd hh (by decide)⟩, fun _ => by omega, fun j hj => ?_, fun _ => ⟨⟨0, by rw [w10]; rfl, Nat.zero_le _⟩, ?_, ⟨0, w11, ?_, Nat.zero_le _⟩, ⟨_, _, _, s9, ⟨?_, (ss + 1) % 256, Nat.mod_lt _ (by decide), rfl⟩, e_by qr8 (by decide) k1, e_by qr8 (by decide) k2⟩⟩⟩, ?_⟩
  · rw [q68.1 221 (by decide), qr6.1 221 (by decide), qr5.1 221 (by decide), ← hR4]
    exact x_fI
  · rw [q68.1 223 (by decide), qr6.1 223 (by decide), ← hR5]
    exact x_fI
  · rw [w9, q68.1 226 (by decide), qr6.1 226 (by decide), qr5.1 226 (by decide), qr4.1 226 (by decide), qr3.1 226 (by decide), ← hR2]
    exact x_fI
  · rw [← hR8]
    exact x_fI
  · obtain ⟨x1, x, x2, x3, x4⟩ := l1 j hj
    exact ⟨by rw [qS.2, qR.2]; exact x1, x, by rw [qS.1 _ (by simp <;> omega)]; exact x2, by rw [qR.1 232 (by decide)]; exact x3, x4⟩
  · rw [w10, ← hR8, x_fP (by decide), x_fP (by decide)]
    exact x_fI
  · rw [← hR8, x_fP (by decide)]
    exact x_fI
  · rw [q68.1 222 (by decide), ← hR6]
    exact x_fI
  · obtain ⟨⟨z, z1, z2, z3⟩, z4⟩ := hI
    exact ⟨⟨z, by rw [qS.1 _ (by simp <;> omega)]; exact z1, by rw [qR.1 234 (by decide)]; exact z2, by omega⟩, fun j hj => by rw [qS.2, qR.2]; exact z4 j hj⟩
