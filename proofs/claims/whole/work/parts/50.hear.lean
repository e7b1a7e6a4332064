/-! hear -/
theorem q_match {K : Nat → Nat → Nat} {N tm d A : Nat} {S R : xs_T} (h : Rel K N tm S R) (hd : d < 3) (hA : A < 2 ^ 32) :
    (A % 256 = d + 1 ∧ (∃ ss, S.1 (123 + 16 * d) 7 = nI ss ∧ R.1 221 d = nI ss ∧ 1 ≤ ss ∧ ss ≤ N) ∧ S.1 (124 + 16 * d) 4 = nI A ∧ R.1 222 d = nI A) ∨ (∃ ss, S.1 (123 + 16 * d) 7 = nI ss ∧ R.1 221 d = nI ss ∧ ss ≤ N ∧ (1 ≤ ss → ¬ S.1 (124 + 16 * d) 4 = nI A ∧ ¬ R.1 222 d = nI A)) := by
  obtain ⟨h0, ⟨q, ss, sr, gn, gw, du, ak, ck, -, ⟨b1, b2, b3⟩, -, -, -, -, -, -, -, -, m1⟩, -⟩ := h.2.2.2.2 d hd
  by_cases hs : 1 ≤ ss
  · obtain ⟨-, -, -, ⟨addr, ky1, ky2, m5, ⟨m6, x, hx, ex⟩, m7, m8⟩⟩ := m1 hs
    by_cases hm : addr = A
    · subst hm
      refine Or.inl ⟨?_, ⟨ss, b1, b2, hs, b3⟩, m5.1, m6⟩
      rw [ex]
      unfold yP
      omega
    · exact Or.inr ⟨ss, b1, b2, b3, fun _ => ⟨fun e => hm (n_inj m5.2.1 hA (m5.1.symm.trans e)), fun e => hm (n_inj m5.2.1 hA (m6.symm.trans e))⟩⟩
  · exact Or.inr ⟨ss, b1, b2, b3, fun hh => absurd hh hs⟩
theorem x_vskip {K : Nat → Nat → Nat} {N tm d a n f : Nat} {b : Nat → Nat} {x : Int32} {S R : xs_T} (h : Rel K N tm S R) (hN : N ≤ 600) (hd : d < 3) (ka : xs_kd a = 2) (cS : xs_cf S a n b) (h12 : 12 ≤ n) (hm : ∃ ss, S.1 (123 + 16 * d) 7 = nI ss ∧ R.1 221 d = nI ss ∧ ss ≤ N ∧ (1 ≤ ss → ¬ S.1 (124 + 16 * d) 4 = nI (yNum (fun i => b (1 + i)) 4) ∧ ¬ R.1 222 d = nI (yNum (fun i => b (1 + i)) 4))) : xf_V_takeData_2 119 a x (f + 1) (nI d) S = xf_V_takeData_2 119 a x f (nI (d + 1)) S := by
  obtain ⟨ss, h1, h2, h3, h4⟩ := hm
  have er : xs_rdU S (119 + 1) (nI d) xs_cK = some (123 + 16 * d) := q_rdK h.2.1 hd
  rw [xf_V_takeData_2, if_neg (show ¬ (3 : Int32) ≤ nI d from nI_ge (b := 3) hd (by decide)), er, Option.bind_some, show xs_gI S (123 + 16 * d) 7 = nI ss from h1]
  unfold xf_V_takeData_49
  rw [nI_1]
  by_cases hs : ss = 0
  · rw [if_pos (show nI ss ≤ 0 by rw [hs]; decide)]
  · rw [if_neg (show ¬ nI ss ≤ 0 from nI_ge (b := ss) (a := 0) (by omega) (by omega)), Option.bind_some, (x_cend ka cS h12).2, Option.bind_some, show 123 + 16 * d + 1 = 124 + 16 * d by omega, if_neg (show ¬ xs_gI S (124 + 16 * d) 4 = nI (yNum (fun i => b (1 + i)) 4) from (h4 (by omega)).1)]
theorem x_vhit {K : Nat → Nat → Nat} {N tm d a n f : Nat} {b : Nat → Nat} {x : Int32} {S R : xs_T} (h : Rel K N tm S R) (hN : N ≤ 600) (hd : d < 3) (ka : xs_kd a = 2) (cS : xs_cf S a n b) (h12 : 12 ≤ n) (hm : ∃ ss, S.1 (123 + 16 * d) 7 = nI ss ∧ R.1 221 d = nI ss ∧ 1 ≤ ss ∧ ss ≤ N) (hA : S.1 (124 + 16 * d) 4 = nI (yNum (fun i => b (1 + i)) 4)) : xf_V_takeData_2 119 a x (f + 1) (nI d) S = (xf_K_takeData (123 + 16 * d) a x S).bind fun q8 => xf_V_takeData_2 119 a x f (nI (d + 1)) q8 := by
  obtain ⟨ss, h1, h2, h3, h4⟩ := hm
  have er : xs_rdU S (119 + 1) (nI d) xs_cK = some (123 + 16 * d) := q_rdK h.2.1 hd
  rw [xf_V_takeData_2, if_neg (show ¬ (3 : Int32) ≤ nI d from nI_ge (b := 3) hd (by decide)), er, Option.bind_some, show xs_gI S (123 + 16 * d) 7 = nI ss from h1, if_neg (show ¬ nI ss ≤ 0 from nI_ge (b := ss) (a := 0) (by omega) (by omega)), Option.bind_some, (x_cend ka cS h12).2, Option.bind_some, show 123 + 16 * d + 1 = 124 + 16 * d by omega, if_pos (show xs_gI S (124 + 16 * d) 4 = nI (yNum (fun i => b (1 + i)) 4) from hA), Option.bind_some]
  unfold xf_V_takeData_49
  rw [nI_1]
theorem r_dskip {N d f : Nat} {x A : Int32} {R : xs_T} (hN : N ≤ 600) (hd : d < 3) (hm : ∃ ss, R.1 221 d = nI ss ∧ ss ≤ N ∧ (1 ≤ ss → ¬ R.1 222 d = A)) : xf_R_deviceOf_4 200 A R (f + 1) x (nI d) = xf_R_deviceOf_4 200 A R f x (nI (d + 1)) := by
  obtain ⟨ss, h2, h3, h4⟩ := hm
  rw [xf_R_deviceOf_4, if_neg (show ¬ (3 : Int32) ≤ nI d from nI_ge (b := 3) hd (by decide)), x_rd (k := 200 + 21) (show d < 3 from hd), Option.bind_some, show R.1 (200 + 21) d = nI ss from h2]
  unfold xf_R_deviceOf_32 xf_R_deviceOf_33
  rw [nI_1]
  by_cases hs : ss = 0
  · rw [if_pos (show nI ss ≤ 0 by rw [hs]; decide)]
  · rw [if_neg (show ¬ nI ss ≤ 0 from nI_ge (b := ss) (a := 0) (by omega) (by omega)), x_rd (k := 200 + 22) (show d < 3 from hd), Option.bind_some, if_neg (show ¬ R.1 (200 + 22) d = A from h4 (by omega))]
theorem r_dhit {N d f : Nat} {x A : Int32} {R : xs_T} (hN : N ≤ 600) (hd : d < 3) (hm : ∃ ss, R.1 221 d = nI ss ∧ 1 ≤ ss ∧ ss ≤ N) (hA : R.1 222 d = A) : xf_R_deviceOf_4 200 A R (f + 1) x (nI d) = xf_R_deviceOf_4 200 A R f (nI d) (nI (d + 1)) := by
  obtain ⟨ss, h2, h3, h4⟩ := hm
  rw [xf_R_deviceOf_4, if_neg (show ¬ (3 : Int32) ≤ nI d from nI_ge (b := 3) hd (by decide)), x_rd (k := 200 + 21) (show d < 3 from hd), Option.bind_some, show R.1 (200 + 21) d = nI ss from h2, if_neg (show ¬ nI ss ≤ 0 from nI_ge (b := ss) (a := 0) (by omega) (by omega)), x_rd (k := 200 + 22) (show d < 3 from hd), Option.bind_some, if_pos (show R.1 (200 + 22) d = A from hA)]
  unfold xf_R_deviceOf_33
  rw [nI_1]
theorem x_vend {a : Nat} {x : Int32} {S : xs_T} (f : Nat) : xf_V_takeData_2 119 a x (f + 1) (nI 3) S = some S := by
  rw [xf_V_takeData_2, if_pos (show (3 : Int32) ≤ nI 3 by decide)]
theorem r_dend {A x : Int32} {R : xs_T} (f : Nat) : xf_R_deviceOf_4 200 A R (f + 1) x (nI 3) = some x := by
  rw [xf_R_deviceOf_4, if_pos (show (3 : Int32) ≤ nI 3 by decide)]
theorem sim_hdata {K : Nat → Nat → Nat} {N tm a n g : Nat} {b : Nat → Nat} {S R : xs_T} (h : Rel K N tm S R) (hN : N ≤ 512) (hg : g < 2) (ha : ∃ t, t < 12 ∧ a = 4 + 2 * t) (ka : xs_kd a = 2) (cS : xs_cf S a n b) (cR : xs_rf R 23 n b) (h12 : 12 ≤ n) (hok : okL n (b 5 % 16)) :
    ∃ S2 R2, xf_V_takeData 119 a (nI g) S = some S2 ∧ xf_R_heardData 200 (nI g) R = some R2 ∧ Rel K (N + 1) tm S2 R2 ∧ xs_ag (fun q => 200 ≤ q) S S2 ∧ xs_ag (fun q => q < 200) R R2 := by
  have h24 := cS.2.1
  have al := y_num_lt (s := fun i => b (1 + i)) 4 (fun i hi => (cS.2.2 (1 + i) (by omega)).2)
  have hpl : n - 13 - b 5 % 16 ≤ 8 := by
    unfold okL at hok
    omega
  have en1 : xf_R_numberAt 200 23 1 4 R = some (nI (yNum (fun i => b (1 + i)) 4)) := r_num (f := 23) (fr := 1) (n := 4) (m := n) (by decide) (by decide) cR.2.2 (by omega) (by omega)
  have er : xf_R_heardData 200 (nI g) R = (xf_R_deviceOf_4 200 (nI (yNum (fun i => b (1 + i)) 4)) R (997 + 3) (-1) (nI 0)).bind fun q4 => xf_R_heardData_27 200 (nI g) (nI (n - 13 - b 5 % 16)) q4 R := by
    unfold xf_R_heardData
    rw [show xf_R_payloadOf 200 23 R = _ from (r_payOf (f := 23) (by decide) cR h12).1 hok, Option.bind_some, if_pos (show (0 : Int32) ≤ nI (n - 13 - b 5 % 16) from nI_le (a := 0) (Nat.zero_le _) (by omega)), en1, Option.bind_some]
    rfl
  have ec : xf_V_takeData 119 a (nI g) S = xf_V_takeData_2 119 a (nI g) (997 + 3) (nI 0) S := rfl
  by_cases hm : ∃ d, d < 3 ∧ (yNum (fun i => b (1 + i)) 4 % 256 = d + 1 ∧ (∃ ss, S.1 (123 + 16 * d) 7 = nI ss ∧ R.1 221 d = nI ss ∧ 1 ≤ ss ∧ ss ≤ N) ∧ S.1 (124 + 16 * d) 4 = nI (yNum (fun i => b (1 + i)) 4) ∧ R.1 222 d = nI (yNum (fun i => b (1 + i)) 4))
  rotate_left
  · -- nobody's
    have no : ∀ d, d < 3 → ∃ ss, S.1 (123 + 16 * d) 7 = nI ss ∧ R.1 221 d = nI ss ∧ ss ≤ N ∧ (1 ≤ ss → ¬ S.1 (124 + 16 * d) 4 = nI (yNum (fun i => b (1 + i)) 4) ∧ ¬ R.1 222 d = nI (yNum (fun i => b (1 + i)) 4)) := fun d hd => by
      rcases q_match h hd al with hh | hh
      · exact absurd ⟨d, hd, hh⟩ hm
      · exact hh
    have rno : ∀ d, d < 3 → ∃ ss, R.1 221 d = nI ss ∧ ss ≤ N ∧ (1 ≤ ss → ¬ R.1 222 d = nI (yNum (fun i => b (1 + i)) 4)) := fun d hd => by
      obtain ⟨ss, h1, h2, h3, h4⟩ := no d hd
      exact ⟨ss, h2, h3, fun hh => (h4 hh).2⟩
    refine ⟨S, R, ?_, ?_, Rel_fr h (Nat.le_succ N) ag_rf ag_rf, ag_rf, ag_rf⟩
    · rw [ec, x_vskip h (by omega) (by decide) ka cS h12 (no 0 (by decide)), x_vskip h (by omega) (by decide) ka cS h12 (no 1 (by decide)), x_vskip h (by omega) (by decide) ka cS h12 (no 2 (by decide)), x_vend]
    · rw [er, r_dskip (N := N) (by omega) (by decide) (rno 0 (by decide)), r_dskip (N := N) (by omega) (by decide) (rno 1 (by decide)), r_dskip (N := N) (by omega) (by decide) (rno 2 (by decide)), r_dend, Option.bind_some]
      unfold xf_R_heardData_27
      rw [if_neg (by decide)]
  obtain ⟨d, hd, hlow, ⟨ss, s7, r21, hs1, hs2⟩, sA, rA⟩ := hm
  obtain ⟨S2, R2, e1, e2, h2, g1, g2⟩ := sim_ktd h hN hd hg ha ka cS cR h12 hok s7 hs1 hs2
  have skip : ∀ M T U, Rel K M tm T U → ∀ e, e < 3 → e ≠ d → ∃ ss, T.1 (123 + 16 * e) 7 = nI ss ∧ U.1 221 e = nI ss ∧ ss ≤ M ∧ (1 ≤ ss → ¬ T.1 (124 + 16 * e) 4 = nI (yNum (fun i => b (1 + i)) 4) ∧ ¬ U.1 222 e = nI (yNum (fun i => b (1 + i)) 4)) := fun M T U hTU e he hed => by
    rcases q_match hTU he al with hh | hh
    · exact absurd hh.1 (by omega)
    · exact hh
  have rskip : ∀ e, e < 3 → e ≠ d → ∃ ss, R.1 221 e = nI ss ∧ ss ≤ N ∧ (1 ≤ ss → ¬ R.1 222 e = nI (yNum (fun i => b (1 + i)) 4)) := fun e he hed => by
    obtain ⟨ss, h1, h2, h3, h4⟩ := skip N S R h e he hed
    exact ⟨ss, h2, h3, fun hh => (h4 hh).2⟩
  -- the frame stays
  have cS2 : xs_cf S2 a n b := by
    obtain ⟨t, ht, rfl⟩ := ha
    exact ag_cf g1 (by omega) (by omega) cS
  refine ⟨S2, R2, ?_, ?_, h2, ag_mono g1 fun q hq => Or.inl hq, g2⟩
  · rw [ec]
    rcases (show d = 0 ∨ d = 1 ∨ d = 2 by omega) with rfl | rfl | rfl
    · rw [x_vhit h (by omega) hd ka cS h12 ⟨ss, s7, r21, hs1, hs2⟩ sA, e1, Option.bind_some, x_vskip h2 (by omega) (by decide) ka cS2 h12 (skip _ _ _ h2 1 (by decide) (by decide)), x_vskip h2 (by omega) (by decide) ka cS2 h12 (skip _ _ _ h2 2 (by decide) (by decide)), x_vend]
    · rw [x_vskip h (by omega) (by decide) ka cS h12 (skip _ _ _ h 0 (by decide) (by decide)), x_vhit h (by omega) hd ka cS h12 ⟨ss, s7, r21, hs1, hs2⟩ sA, e1, Option.bind_some, x_vskip h2 (by omega) (by decide) ka cS2 h12 (skip _ _ _ h2 2 (by decide) (by decide)), x_vend]
    · rw [x_vskip h (by omega) (by decide) ka cS h12 (skip _ _ _ h 0 (by decide) (by decide)), x_vskip h (by omega) (by decide) ka cS h12 (skip _ _ _ h 1 (by decide) (by decide)), x_vhit h (by omega) hd ka cS h12 ⟨ss, s7, r21, hs1, hs2⟩ sA, e1, Option.bind_some, x_vend]
  · rw [er]
    rcases (show d = 0 ∨ d = 1 ∨ d = 2 by omega) with rfl | rfl | rfl
    · rw [r_dhit (N := N) (by omega) hd ⟨ss, r21, hs1, hs2⟩ rA, r_dskip (N := N) (by omega) (by decide) (rskip 1 (by decide) (by decide)), r_dskip (N := N) (by omega) (by decide) (rskip 2 (by decide) (by decide)), r_dend, Option.bind_some, e2]
    · rw [r_dskip (N := N) (by omega) (by decide) (rskip 0 (by decide) (by decide)), r_dhit (N := N) (by omega) hd ⟨ss, r21, hs1, hs2⟩ rA, r_dskip (N := N) (by omega) (by decide) (rskip 2 (by decide) (by decide)), r_dend, Option.bind_some, e2]
    · rw [r_dskip (N := N) (by omega) (by decide) (rskip 0 (by decide) (by decide)), r_dskip (N := N) (by omega) (by decide) (rskip 1 (by decide) (by decide)), r_dhit (N := N) (by omega) hd ⟨ss, r21, hs1, hs2⟩ rA, r_dend, Option.bind_some, e2]
theorem sim_hear {K : Nat → Nat → Nat} {N tm : Nat} {S R : xs_T} (h : Rel K N tm S R) (hN : N ≤ 512) (x y : Int32) : Sim K N tm S R (xf_W_hear 0 x y S) (xf_R_hear 200 x y R) := by
  have hA := h.2.2.1
  obtain ⟨⟨m, a1, a2, a3, a4⟩, -, c, -⟩ := hA
  have eh := q_holds (k := 0 + 1) x a1
  rcases q_below x (n := m) (by omega) with e | ⟨j, hj, rfl, e⟩
  · exact sim_no (v := 0) h (by unfold xf_W_hear; rw [eh, e.1, Option.bind_some, if_pos rfl]; rfl) (by unfold xf_R_hear; rw [show xs_gI R 200 12 = nI m from a2, e.1, Option.bind_some, if_pos rfl]; rfl)
  have hj12 : j < 12 := by omega
  obtain ⟨n, b, t, c1, c2, c3, c4, c5, c6⟩ := a4 j hj
  obtain ⟨p, hp, ep⟩ := c j hj12
  have kF := q_uF h.2.2.1 hj12
  have eU : xs_rdU S (0 + 2) (nI j) xs_cF = some (S.2.2 2 j) := x_rdU (k := 0 + 2) (show j < 12 from hj12) kF
  have r11 : xs_rd R (200 + 11) (nI j) = some (nI t) := by
    rw [x_rd (k := 200 + 11) (show j < 24 by omega)]
    exact congrArg some c6
  rcases q_below y (n := 2) (by decide) with ey | ⟨g, hg, rfl, ey⟩
  · refine sim_no (v := 0) h ?_ (by unfold xf_R_hear; rw [show xs_gI R 200 12 = nI m from a2, e, Option.bind_some, if_neg i10, show xf_R_below y 2 = _ from ey.1, Option.bind_some, if_pos rfl]; rfl)
    unfold xf_W_hear
    rw [eh, e, Option.bind_some, if_neg i10]
    by_cases h1 : y < 0
    · rw [if_pos h1]
      rfl
    · by_cases h2 : y < 2
      · obtain ⟨g, hg1, hg2, rfl⟩ := n_cs y 0 1 (by decide) (by decide) h1 (by
          rw [Int32.le_iff_toInt_le, nI_toInt (by decide)]
          rw [Int32.lt_iff_toInt_lt] at h2
          have : (2 : Int32).toInt = 2 := rfl
          omega)
        exact absurd rfl (ey.2 g (by omega))
      · rw [if_neg h1, if_neg h2]
        rfl
  have yc : ∀ z : Option (Int32 × xs_T), (if nI g < 0 then xs_rz 0 S else (if nI g < 2 then z else xs_rz 0 S)) = z := fun z => by
    rw [if_neg (show ¬ nI g < 0 from Int32.not_lt.mpr (nI_le (a := 0) (Nat.zero_le _) (by omega))), if_pos (show nI g < 2 from nI_lt (b := 2) hg (by decide))]
  by_cases ht3 : t = 3
  rotate_left
  · have ht3' : ¬ nI t = 3 := fun e => ht3 ((nI_eq (b := 3) (by omega) (by decide)).mp e)
    exact sim_no (v := 0) h (by unfold xf_W_hear; rw [eh, e, Option.bind_some, if_neg i10, yc, eU, Option.bind_some, if_neg (show ¬ xs_gI S (S.2.2 2 j) 2 = 3 by rw [show xs_gI S (S.2.2 2 j) 2 = nI t from c3]; exact ht3')]; rfl) (by unfold xf_R_hear; rw [show xs_gI R 200 12 = nI m from a2, e, Option.bind_some, if_neg i10, show xf_R_below (nI g) 2 = _ from ey, Option.bind_some, if_neg i10, r11, Option.bind_some, if_neg ht3']; rfl)
  have ht3' : nI t = 3 := by rw [ht3]; rfl
  obtain ⟨R1, e1, f1, g1, q1⟩ := r_copyF (f := j) (g := 23) (by omega) (by decide) (by omega) c5
  have h1 : Rel K N tm S R1 := relScr h (Nat.le_refl N) ag_rf (arS_eg q1)
  have agr1 : xs_ag (fun q => q < 200) R R1 := ag_eq q1.1 fun q hq => by simp; omega
  have b0 := c1.2.2 0 (by omega)
  have v0 := b0.2
  have ecl : xf_W_hear 0 (nI j) (nI g) S = (xf_F_hasJoinForm (S.2.2 2 j) S).bind fun q7 => if q7 = 0 then ((xf_F_hasDataForm (S.2.2 2 j) S).bind fun q9 => if q9 = 0 then (xs_rz 1 S) else if nI (b 0) = 96 then (xs_rz 1 S) else ((xf_V_takeData 119 (S.2.2 2 j) (nI g) S).bind fun q13 => xs_rz 1 q13)) else ((xf_V_takeJoin 119 (S.2.2 2 j) S).bind fun q14 => xs_rz 1 q14) := by
    have la := x_kF kF
    unfold xf_W_hear
    rw [eh, e, Option.bind_some, if_neg i10, yc, eU, Option.bind_some, if_pos (show xs_gI S (S.2.2 2 j) 2 = 3 by rw [show xs_gI S (S.2.2 2 j) 2 = nI t from c3]; exact ht3'), show xs_rd S (S.2.2 2 j + 1) 0 = some (nI (b 0)) by
      rw [show xs_rd S (S.2.2 2 j + 1) 0 = _ from x_rd (j := 0) (by omega)]
      exact congrArg some b0.1]
    rfl
  have erf : xf_R_hear 200 (nI j) (nI g) R = if nI (b 0) = 0 then ((xf_R_heardJoin 200 R1).bind fun q13 => xs_rz 1 q13) else (if nI (b 0) = 64 then (xf_R_hear_70 200 (nI j) (nI g) R1) else (if nI (b 0) = 128 then (xf_R_hear_70 200 (nI j) (nI g) R1) else (xs_rz 1 R1))) := by
    unfold xf_R_hear
    rw [show xs_gI R 200 12 = nI m from a2, e, Option.bind_some, if_neg i10, show xf_R_below (nI g) 2 = _ from ey, Option.bind_some, if_neg i10, r11, Option.bind_some, if_pos ht3', show xf_R_copyFrame 200 (nI j) 23 R = _ from e1, Option.bind_some, show xf_R_at 200 23 0 R1 = some (nI (b 0)) by
      rw [show xf_R_at 200 23 0 R1 = _ from r_at (f := 23) (i := 0) (by decide) (by decide)]
      exact congrArg some (f1.2.2 0 (by omega)).1, Option.bind_some]
  have nothing : Rel K (N + 1) tm S R1 ∧ xs_ag (fun q => 200 ≤ q) S S ∧ xs_ag (fun q => q < 200) R R1 := ⟨Rel_fr h1 (Nat.le_succ N) ag_rf ag_rf, ag_rf, agr1⟩
  have q : ∀ k, k < 256 → (nI (b 0) = nI k ↔ b 0 = k) := fun k hk => nI_eq (by omega) (by omega)
  rcases x_joinForm kF c1 c2 with ⟨hj, ej⟩ | ⟨hj, ej⟩
  · rw [ej, Option.bind_some, if_neg i10] at ecl
    rw [if_pos (show nI (b 0) = 0 from (q 0 (by decide)).mpr hj.2.1)] at erf
    obtain ⟨S2, R2, z1, z2, z3, z4, z5⟩ := sim_hjoin h1 hN ⟨p, hp, ep⟩ kF c1 f1 hj
    exact ⟨1, S2, R2, tm, by rw [ecl, z1, Option.bind_some]; rfl, by rw [erf, z2, Option.bind_some]; rfl, z3, z4, ag_tr agr1 z5⟩
  rw [ej, Option.bind_some, if_pos rfl] at ecl
  by_cases h0 : b 0 = 0
  · have ec0 : xf_W_hear 0 (nI j) (nI g) S = some (1, S) := by
      rcases x_dataForm kF c1 c2 with ⟨hh, -⟩ | ⟨-, ef⟩
      · exact absurd hh (by omega)
      · rw [ecl, ef, Option.bind_some, if_pos rfl]
        rfl
    rw [if_pos (show nI (b 0) = 0 from (q 0 (by decide)).mpr h0), r_hjN f1 c2 h0 hj, Option.bind_some] at erf
    exact ⟨1, S, R1, tm, ec0, erf, nothing⟩
  rw [if_neg (show ¬ nI (b 0) = 0 from fun e => h0 ((q 0 (by decide)).mp e))] at erf
  by_cases hup : b 0 = 64 ∨ b 0 = 128
  rotate_left
  · have ec0 : xf_W_hear 0 (nI j) (nI g) S = some (1, S) := by
      rw [ecl]
      rcases x_dataForm kF c1 c2 with ⟨hh, -, ef⟩ | ⟨-, ef⟩
      · rw [ef, Option.bind_some, if_neg i10, if_pos (show nI (b 0) = 96 from (q 96 (by decide)).mpr (by omega))]
        rfl
      · rw [ef, Option.bind_some, if_pos rfl]
        rfl
    rw [if_neg (show ¬ nI (b 0) = 64 from fun e => hup (Or.inl ((q 64 (by decide)).mp e))), if_neg (show ¬ nI (b 0) = 128 from fun e => hup (Or.inr ((q 128 (by decide)).mp e)))] at erf
    exact ⟨1, S, R1, tm, ec0, erf, nothing⟩
  have er70 : xf_R_hear 200 (nI j) (nI g) R = (xf_R_heardData 200 (nI g) R1).bind fun q11 => xs_rz 1 q11 := by
    rw [erf]
    unfold xf_R_hear_70
    rcases hup with h | h
    · rw [if_pos (show nI (b 0) = 64 from (q 64 (by decide)).mpr h)]
    · rw [if_neg (show ¬ nI (b 0) = 64 from fun e => absurd ((q 64 (by decide)).mp e) (by omega)), if_pos (show nI (b 0) = 128 from (q 128 (by decide)).mpr h)]
  by_cases hok : okL n (b 5 % 16)
  · rcases x_dataForm kF c1 c2 with ⟨-, -, ef⟩ | ⟨hh, -⟩
    · rw [ef, Option.bind_some, if_neg i10, if_neg (show ¬ nI (b 0) = 96 from fun e => absurd ((q 96 (by decide)).mp e) (by omega))] at ecl
      obtain ⟨S2, R2, z1, z2, z3, z4, z5⟩ := sim_hdata h1 hN hg ⟨p, hp, ep⟩ kF c1 f1 c2 hok
      exact ⟨1, S2, R2, tm, by rw [ecl, z1, Option.bind_some]; rfl, by rw [er70, z2, Option.bind_some]; rfl, z3, z4, ag_tr agr1 z5⟩
    · exact absurd ⟨by omega, hok⟩ hh
  · have ec0 : xf_W_hear 0 (nI j) (nI g) S = some (1, S) := by
      rcases x_dataForm kF c1 c2 with ⟨-, hh, -⟩ | ⟨-, ef⟩
      · exact absurd hh hok
      · rw [ecl, ef, Option.bind_some, if_pos rfl]
        rfl
    have er0 : xf_R_heardData 200 (nI g) R1 = some R1 := by
      unfold xf_R_heardData xf_R_heardData_27
      rw [show xf_R_payloadOf 200 23 R1 = _ from (r_payOf (f := 23) (by decide) f1 c2).2 hok, Option.bind_some, if_neg (by decide), if_neg (by decide)]
    exact ⟨1, S, R1, tm, ec0, by rw [er70, er0, Option.bind_some]; rfl, nothing⟩
