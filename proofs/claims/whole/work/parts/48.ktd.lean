/-! the server takes data: what is due then -/
theorem z_sN {S : xs_T} {k j t : Nat} (h : t ≤ 1) : xs_sZ S k j (nI t) = some (xs_sI S k j (nI t)) := by
  rcases (show t = 0 ∨ t = 1 by omega) with rfl | rfl
  · exact z_s0
  · exact z_s1
theorem z_wrN {S : xs_T} {k j t : Nat} (h : j < xs_ln k) (ht : t ≤ 1) : xs_wrZ S k (nI j) (nI t) = some (xs_sI S k j (nI t)) := by
  rcases (show t = 0 ∨ t = 1 by omega) with rfl | rfl
  · exact z_wr0 h
  · exact z_wr1 h
theorem x_setDue {S : xs_T} {k du ak ck : Nat} (ha : ak ≤ 1) (hc : ck ≤ 1) : xf_K_setDue k (nI du) (nI ak) (nI ck) S = some (xs_sI (xs_sI (xs_sI S k 13 (nI du)) k 14 (nI ak)) k 15 (nI ck)) := by
  unfold xf_K_setDue
  rw [Option.bind_some, z_sN ha, Option.bind_some, z_sN hc, Option.bind_some]
theorem sim_kend {K : Nat → Nat → Nat} {M tm d a n g t ss : Nat} {td b : Nat → Nat} {S R : xs_T} (h : RelT K M tm td S R) (hM : M < 2 ^ 30) (hd : d < 3) (ka : xs_kd a = 2) (cS : xs_cf S a n b) (cR : xs_rf R 23 n b) (h12 : 12 ≤ n) (ht : t ≤ 1) (h7 : S.1 (123 + 16 * d) 7 = nI ss) (hss : 1 ≤ ss) (hss2 : ss ≤ M) :
    ∃ S2 R2, xf_K_takeData_121 (123 + 16 * d) a (nI g) (nI t) S = some S2 ∧ xf_R_heardData_261 200 (nI g) (nI d) (nI t) R = some R2 ∧ RelT K M tm td S2 R2 ∧ xs_ag (fun q => 200 ≤ q ∨ q < 44) S S2 ∧ xs_ag (fun q => q < 200) R R2 := by
  have h24 := cS.2.1
  have b5 := cR.2.2 5 (by omega)
  have b8 := cR.2.2 8 (by omega)
  have v5 := b5.2
  have v8 := b8.2
  obtain ⟨h0, ⟨q, ss', sr, gn, gw, du', ak', ck', ⟨a1, a2, a3⟩, ⟨b1, b2, b3⟩, -, -, ⟨g1, g2, g3⟩, -, -, -, -, -, m1⟩, -⟩ := h.2.2.2.2 d hd
  have ess : ss' = ss := (nI_eq (by omega) (by omega)).mp (b1.symm.trans h7)
  subst ess
  obtain ⟨⟨m, m2, m3⟩, m4, -, -⟩ := m1 hss
  obtain ⟨ck, hck, eck⟩ : ∃ ck, ck ≤ 1 ∧ ck = if b 5 % 16 = 1 ∧ b 8 = 2 then 1 else 0 := ⟨_, by split <;> decide, rfl⟩
  obtain ⟨du, hdu, edu⟩ : ∃ du, du ≤ 2 ∧ du = if t = 0 ∧ ck = 0 ∧ q = 0 then 0 else 2 := ⟨_, by split <;> decide, rfl⟩
  -- class
  have ec : xf_K_takeData_121 (123 + 16 * d) a (nI g) (nI t) S = some (xs_sI (xs_sI (xs_sI S (123 + 16 * d) 13 (nI du)) (123 + 16 * d) 14 (nI t)) (123 + 16 * d) 15 (nI ck)) := by
    have e143 : xf_K_takeData_143 (123 + 16 * d) a (nI g) (nI t) (nI ck) S = some (xs_sI (xs_sI (xs_sI S (123 + 16 * d) 13 (nI du)) (123 + 16 * d) 14 (nI t)) (123 + 16 * d) 15 (nI ck)) := by
      unfold xf_K_takeData_143 xf_K_takeData_162 xf_K_takeData_167 xf_K_takeData_180
      have sd : ∀ u, u = du → ((xf_K_setDue (123 + 16 * d) (nI u) (nI t) (nI ck) S).bind fun q16 => some q16) = some (xs_sI (xs_sI (xs_sI S (123 + 16 * d) 13 (nI du)) (123 + 16 * d) 14 (nI t)) (123 + 16 * d) 15 (nI ck)) := fun u hu => by
        rw [hu, x_setDue ht hck, Option.bind_some]
      rcases (show t = 0 ∨ t = 1 by omega) with rfl | rfl
      · rw [if_pos (show nI 0 = 0 from rfl)]
        rcases (show ck = 0 ∨ ck = 1 by omega) with rfl | rfl
        · rw [if_pos (show nI 0 = 0 from rfl), show xs_gI S (123 + 16 * d) 6 = nI q from a1]
          by_cases hq : q = 0
          · subst hq
            rw [if_pos (show nI 0 ≤ 0 by decide), if_pos rfl]
            exact sd 0 (by rw [edu, if_pos ⟨rfl, rfl, rfl⟩])
          · rw [if_neg (show ¬ nI q ≤ 0 from nI_ge (b := q) (a := 0) (by omega) (by omega)), if_neg i10]
            exact sd 2 (by rw [edu, if_neg (fun hh => hq hh.2.2)])
        · rw [if_neg (show ¬ nI 1 = 0 by decide), if_neg i10]
          exact sd 2 (by rw [edu, if_neg (fun hh => absurd hh.2.1 (by decide))])
      · rw [if_neg (show ¬ nI 1 = 0 by decide), if_neg i10]
        exact sd 2 (by rw [edu, if_neg (fun hh => absurd hh.1 (by decide))])
    unfold xf_K_takeData_121
    rw [(x_opt ka cS h12).1, Option.bind_some]
    by_cases h1 : b 5 % 16 = 1
    · rw [if_pos (show nI (b 5 % 16) = 1 by rw [h1]; rfl), show xf_F_option a 0 S = _ from x_option (i := 0) ka cS (by omega), Option.bind_some]
      show (if nI (b 8) = 2 then _ else _) = _
      by_cases h2 : b 8 = 2
      · rw [if_pos (show nI (b 8) = 2 by rw [h2]; rfl)]
        rw [if_pos ⟨h1, h2⟩] at eck
        subst eck
        exact e143
      · rw [if_neg (show ¬ nI (b 8) = 2 from fun e => h2 ((nI_eq (b := 2) (by omega) (by decide)).mp e))]
        rw [if_neg (fun hh => h2 hh.2)] at eck
        subst eck
        exact e143
    · rw [if_neg (show ¬ nI (b 5 % 16) = 1 from fun e => h1 ((nI_eq (b := 1) (by omega) (by decide)).mp e))]
      rw [if_neg (fun hh => h1 hh.1)] at eck
      subst eck
      exact e143
  -- reference
  have er : xf_R_heardData_261 200 (nI g) (nI d) (nI t) R = some (xs_sI (xs_sI (xs_sI R 229 d (nI t)) 230 d (nI ck)) 228 d (nI du)) := by
    have e305 : xf_R_heardData_305 200 (nI g) (nI d) (nI t) (nI d) (nI ck) (xs_sI R 229 d (nI t)) = some (xs_sI (xs_sI (xs_sI R 229 d (nI t)) 230 d (nI ck)) 228 d (nI du)) := by
      unfold xf_R_heardData_305
      rw [z_wrN (k := 200 + 30) (show d < 3 from hd) hck, Option.bind_some]
      have w28 : ∀ u, u = du → ((xs_wr (xs_sI (xs_sI R 229 d (nI t)) (200 + 30) d (nI ck)) (200 + 28) (nI d) (nI u)).bind fun S => some S) = some (xs_sI (xs_sI (xs_sI R 229 d (nI t)) 230 d (nI ck)) 228 d (nI du)) := fun u hu => by
        rw [hu, x_wr (k := 200 + 28) (show d < 3 from hd), Option.bind_some]
      rcases (show t = 0 ∨ t = 1 by omega) with rfl | rfl
      · rw [if_pos (show nI 0 = 0 from rfl), x_rd (k := 200 + 30) (show d < 3 from hd), Option.bind_some, x_fI]
        rcases (show ck = 0 ∨ ck = 1 by omega) with rfl | rfl
        · rw [if_pos (show nI 0 = 0 from rfl), x_rd (k := 200 + 33) (show d < 3 from hd), Option.bind_some, show (xs_sI (xs_sI R 229 d (nI 0)) (200 + 30) d (nI 0)).1 (200 + 33) d = nI q by
            rw [x_fP (by decide), x_fP (by decide)]
            exact a2]
          by_cases hq : q = 0
          · subst hq
            rw [if_pos (show nI 0 ≤ 0 by decide)]
            exact w28 0 (by rw [edu, if_pos ⟨rfl, rfl, rfl⟩])
          · rw [if_neg (show ¬ nI q ≤ 0 from nI_ge (b := q) (a := 0) (by omega) (by omega))]
            exact w28 2 (by rw [edu, if_neg (fun hh => hq hh.2.2)])
        · rw [if_neg (show ¬ nI 1 = 0 by decide)]
          exact w28 2 (by rw [edu, if_neg (fun hh => absurd hh.2.1 (by decide))])
      · rw [if_neg (show ¬ nI 1 = 0 by decide)]
        exact w28 2 (by rw [edu, if_neg (fun hh => absurd hh.1 (by decide))])
    unfold xf_R_heardData_261 xf_R_heardData_304
    rw [z_wrN (k := 200 + 29) (show d < 3 from hd) ht, Option.bind_some, show xf_R_at 200 23 5 (xs_sI R (200 + 29) d (nI t)) = some (nI (b 5)) by
      rw [show xf_R_at 200 23 5 (xs_sI R (200 + 29) d (nI t)) = _ from r_at (f := 23) (i := 5) (by decide) (by decide), x_fP (by decide)]
      exact congrArg some b5.1, Option.bind_some, x_r16 (by omega)]
    by_cases h1 : b 5 % 16 = 1
    · rw [if_pos (show nI (b 5 % 16) = 1 by rw [h1]; rfl), show xf_R_at 200 23 8 (xs_sI R (200 + 29) d (nI t)) = some (nI (b 8)) by
        rw [show xf_R_at 200 23 8 (xs_sI R (200 + 29) d (nI t)) = _ from r_at (f := 23) (i := 8) (by decide) (by decide), x_fP (by decide)]
        exact congrArg some b8.1, Option.bind_some]
      by_cases h2 : b 8 = 2
      · rw [if_pos (show nI (b 8) = 2 by rw [h2]; rfl)]
        rw [if_pos ⟨h1, h2⟩] at eck
        subst eck
        exact e305
      · rw [if_neg (show ¬ nI (b 8) = 2 from fun e => h2 ((nI_eq (b := 2) (by omega) (by decide)).mp e))]
        rw [if_neg (fun hh => h2 hh.2)] at eck
        subst eck
        exact e305
    · rw [if_neg (show ¬ nI (b 5 % 16) = 1 from fun e => h1 ((nI_eq (b := 1) (by omega) (by decide)).mp e))]
      rw [if_neg (fun hh => h1 hh.1)] at eck
      subst eck
      exact e305
  have qS : xs_eq [123 + 16 * d] S (xs_sI (xs_sI (xs_sI S (123 + 16 * d) 13 (nI du)) (123 + 16 * d) 14 (nI t)) (123 + 16 * d) 15 (nI ck)) := e_tr (e_sI (by simp)) (e_tr (e_sI (by simp)) (e_sI (by simp)))
  have qR : xs_eq [224, 227, 228, 229, 230] R (xs_sI (xs_sI (xs_sI R 229 d (nI t)) 230 d (nI ck)) 228 d (nI du)) := e_tr (e_sI (by decide)) (e_tr (e_sI (by decide)) (e_sI (by decide)))
  have z0 : du ≠ 2 → t = 0 ∧ ck = 0 := fun hh => by
    by_cases hc : t = 0 ∧ ck = 0 ∧ q = 0
    · exact ⟨hc.1, hc.2.1⟩
    · exact absurd (by rw [edu, if_neg hc]) hh
  refine ⟨_, _, ec, er, kaG (du := du) (ak := t) (ck := ck) (gw := gw) h (Nat.le_refl M) hd qS (fun j hj => by rw [x_fN (by omega), x_fN (by omega), x_fN (by omega)]) qR (fun q e he h1 h2 => ?_) ?_ ⟨m, ?_, m3⟩ ?_ ?_ g3 ?_ x_fI hdu ?_ ht (fun hh => (z0 hh).1) (fun _ => ?_) x_fI hck (fun hh => (z0 hh).2) (fun _ => ?_) h7 hss hss2 hM, ag_eq qS fun q hq => by simp; omega, ag_eq qR fun q hq => by simp; omega⟩
  · have s : ∀ (U : xs_T) k v, (xs_sI U k d v).1 q e = U.1 q e := fun U k v => by
      by_cases hqk : q = k
      · subst hqk
        exact x_fN he
      · rw [x_fP hqk]
    rw [s, s, s]
  · rw [x_fP (by decide), x_fP (by decide), x_fP (by decide), x_fN (by decide), x_fN (by decide), x_fN (by decide)]
    exact m4
  · rw [x_fN (by decide), x_fN (by decide), x_fN (by decide)]
    exact m2
  · rw [x_fN (by decide), x_fN (by decide), x_fN (by decide)]
    exact g1
  · rw [x_fP (by decide), x_fP (by decide), x_fP (by decide)]
    exact g2
  · rw [x_fN (by decide), x_fN (by decide), x_fI]
  · rw [x_fN (by decide), x_fI]
  · rw [x_fP (by decide), x_fP (by decide), x_fI]
  · rw [x_fP (by decide), x_fI]
