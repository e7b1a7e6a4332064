/-! the air: frames are added, leave, are sent again -/
def arA (R T : xs_T) : Prop := xs_eq [200, 209, 210, 211] R T ∧ (∀ j, j ≠ 12 → j ≠ 13 → T.1 200 j = R.1 200 j) ∧ ∀ f, 20 ≤ f → f < 24 → agF f R T
def acA (S T : xs_T) : Prop := xs_ag (fun q => q = 0 ∨ 44 ≤ q) S T
theorem agF_refl {f : Nat} {R : xs_T} : agF f R R := ⟨fun _ _ => rfl, rfl, rfl⟩
theorem agF_tr {f : Nat} {R T U : xs_T} (h1 : agF f R T) (h2 : agF f T U) : agF f R U := ⟨fun j hj => (h2.1 j hj).trans (h1.1 j hj), h2.2.1.trans h1.2.1, h2.2.2.trans h1.2.2⟩
theorem arA_rf {R : xs_T} : arA R R := ⟨e_rf, fun _ _ _ => rfl, fun _ _ _ => agF_refl⟩
theorem arA_tr {R T U : xs_T} (h1 : arA R T) (h2 : arA T U) : arA R U := ⟨e_tr h1.1 h2.1, fun j a b => (h2.2.1 j a b).trans (h1.2.1 j a b), fun f a b => agF_tr (h1.2.2 f a b) (h2.2.2 f a b)⟩
theorem eg_agF {f g : Nat} {R T : xs_T} (h : xs_eg g R T) (hf : f ≠ g) : agF f R T := ⟨fun j hj => h.2.1 _ (by omega), h.2.2.1 f hf, h.2.2.2 f hf⟩
theorem eg_arA {g : Nat} {R T : xs_T} (h : xs_eg g R T) (hg : g < 20) : arA R T := ⟨e_mono h.1 (by decide), fun j _ _ => by rw [h.1.1 200 (by decide)], fun f h1 _ => eg_agF h (by omega)⟩
theorem sI_arA {R : xs_T} {j : Nat} {v : Int32} (hj : j = 12 ∨ j = 13) : arA R (xs_sI R 200 j v) := ⟨e_sI (by decide), fun i h1 h2 => x_fN (by omega), fun f _ _ => ⟨fun t _ => by rw [x_fP (by decide)], by rw [x_fP (by decide)], by rw [x_fP (by decide)]⟩⟩
theorem agF_sI {R : xs_T} {f j : Nat} {v : Int32} : agF f R (xs_sI R 200 j v) := ⟨fun t _ => by rw [x_fP (by decide)], by rw [x_fP (by decide)], by rw [x_fP (by decide)]⟩
/-- all but the air stays tied -/
theorem relAr {K : Nat → Nat → Nat} {N M tm : Nat} {S S2 R R2 : xs_T} (h : Rel K N tm S R) (hNM : N ≤ M) (hS : acA S S2) (hR : arA R R2) (hA : relA M S2 R2) : Rel K M tm S2 R2 := by
  have r : ∀ q, 201 ≤ q → q ≠ 209 → q ≠ 210 → q ≠ 211 → R2.1 q = R.1 q := fun q h1 h2 h3 h4 => hR.1.1 q (by simp; omega)
  have r2 : ∀ q, R2.2.1 q = R.2.1 q := fun q => by rw [hR.1.2]
  refine ⟨relT_fr h.1 (ag_mono hS fun q hq => ?_) ⟨r 201 (by decide) (by decide) (by decide) (by decide), r 202 (by decide) (by decide) (by decide) (by decide), fun j _ => by rw [r 207 (by decide) (by decide) (by decide) (by decide)]⟩, relG_fr h.2.1 hNM (ag_mono hS fun q hq => by omega) ⟨hR.2.1 8 (by decide) (by decide), hR.2.1 23 (by decide) (by decide)⟩, hA, fun d hd => relD_fr (h.2.2.2.1 d hd) hNM (Nat.le_refl _) (ag_mono hS fun q hq => by omega) ⟨fun q h1 h2 => by rw [r q (by omega) (by omega) (by omega) (by omega)], fun j _ => by rw [r 236 (by decide) (by decide) (by decide) (by decide)], by rw [r 234 (by decide) (by decide) (by decide) (by decide)], fun j _ => by rw [r2 235], hR.2.2 _ (by omega) (by omega), fun j _ => by rw [r 207 (by decide) (by decide) (by decide) (by decide)]⟩, fun d hd => relK_fr (h.2.2.2.2 d hd) hNM (ag_mono hS fun q hq => by omega) ⟨fun q h1 h2 => by rw [r q (by omega) (by omega) (by omega) (by omega)], by rw [r 233 (by decide) (by decide) (by decide) (by decide)], fun j _ => ⟨by rw [r2 231], by rw [r 232 (by decide) (by decide) (by decide) (by decide)]⟩, by rw [r 234 (by decide) (by decide) (by decide) (by decide)], fun j _ => by rw [r2 235], fun j _ => by rw [r 207 (by decide) (by decide) (by decide) (by decide)]⟩⟩
  obtain ⟨d, hd, h1, h2⟩ := hq
  show q = 0 ∨ 44 ≤ q
  omega
/-- a frame comes into the air: the class's is at a, the reference's is f -/
theorem sim_add {N a f n t : Nat} {b : Nat → Nat} {S R : xs_T} (h : relA N S R) (ha : xs_kd a = 2) (han : ∀ t, t < 12 → a ≠ 4 + 2 * t) (hf1 : 12 ≤ f) (hf2 : f < 24) (c1 : xs_cf S a n b) (c2 : 12 ≤ n) (c3 : S.1 a 2 = nI t) (c4 : t ≤ 3) (c5 : xs_rf R f n b) (c6 : R.1 211 f = nI t) :
    ∃ m S2 R2, R.1 200 12 = nI m ∧ m ≤ 12 ∧ xf_A_add 1 a S = some (if m = 12 then 0 else 1, S2) ∧ (m = 12 → R2 = R) ∧ (m < 12 → ((xf_R_copyFrame 200 (nI f) (nI m) R).bind fun q4 => (some (xs_sI q4 200 12 ((xs_gI q4 200 12) + 1))).bind fun S5 => some S5) = some R2) ∧ relA N S2 R2 ∧ acA S S2 ∧ arA R R2 ∧ S2.1 1 3 = S.1 1 3 ∧ R2.1 200 13 = R.1 200 13 := by
  obtain ⟨⟨m, a1, a2, a3, a4⟩, ⟨sn, b1, b2, b3, b4⟩, hu, hi, hr⟩ := h
  refine ⟨m, ?_⟩
  unfold xf_A_add
  rw [show xs_gI S 1 2 = nI m from a1]
  by_cases hm : m = 12
  · subst hm
    exact ⟨S, R, a2, a3, by rw [if_pos (show nI 12 = 12 from rfl)]; rfl, fun _ => rfl, fun h => absurd h (by decide), ⟨⟨12, a1, a2, a3, a4⟩, ⟨sn, b1, b2, b3, b4⟩, hu, hi, hr⟩, ag_rf, arA_rf, rfl, rfl⟩
  · have hm12 : m < 12 := by omega
    obtain ⟨t0, ht0, eu⟩ := hu m hm12
    have ku := q_kdF t0 ht0
    rw [if_neg (show ¬ nI m = 12 from fun e => hm ((nI_eq (b := 12) (by omega) (by decide)).mp e)), x_rdU (k := 1 + 1) (show m < 12 from hm12) (by show xs_kd (S.2.2 2 m) = 2; rw [eu]; exact ku), Option.bind_some, show S.2.2 (1 + 1) m = 4 + 2 * t0 from eu]
    obtain ⟨T, e1, f1, g1, q1⟩ := x_cf_copy (k := 4 + 2 * t0) ku ha (Ne.symm (han t0 ht0)) c1
    rw [e1, Option.bind_some, Option.bind_some]
    obtain ⟨U, e2, f2, g2, q2⟩ := r_copyF (g := m) hf2 (by omega) (by omega) c5
    rw [e2, Option.bind_some, Option.bind_some]
    have q1p : ∀ q, q ≠ 4 + 2 * t0 → q ≠ 4 + 2 * t0 + 1 → T.1 q = S.1 q := fun q h1 h2 => q1.1 q (by simp; omega)
    have eT : xs_gI T 1 2 = nI m := by
      show T.1 1 2 = _
      rw [q1p 1 (by omega) (by omega)]
      exact a1
    have eU : xs_gI U 200 12 = nI m := by
      show U.1 200 12 = _
      rw [q2.1.1 200 (by decide)]
      exact a2
    rw [eT, eU, nI_1]
    have T2 : (xs_sI T 1 2 (nI (m + 1))).2 = S.2 := q1.2
    have agS : xs_ag (fun q => q ≠ 1 ∧ q ≠ 4 + 2 * t0 ∧ q ≠ 4 + 2 * t0 + 1) S (xs_sI T 1 2 (nI (m + 1))) := fun q hq => ⟨by rw [x_fP hq.1, q1p q hq.2.1 hq.2.2], by rw [T2], by rw [T2]⟩
    refine ⟨_, _, a2, a3, by rw [if_neg hm]; rfl, fun h => absurd h hm, fun _ => rfl, ⟨⟨m + 1, x_fI, x_fI, by omega, fun j hj => ?_⟩, ⟨sn, ?_, ?_, b3, fun j hj hn => ?_⟩, fun j hj => by rw [T2]; exact hu j hj, fun i j hi' hj => by rw [T2]; exact hi i j hi' hj, fun j hj => by rw [T2]; exact hr j hj⟩, ?_, arA_tr (eg_arA q2 (by omega)) (sI_arA (Or.inl rfl)), ?_, ?_⟩
    · rw [T2]
      by_cases hjm : j = m
      · subst hjm
        rw [eu]
        refine ⟨n, b, t, ⟨?_, f1.2.1, fun i hi => ?_⟩, c2, ?_, c4, agF_rf agF_sI f2, ?_⟩
        · rw [x_fP (by omega)]
          exact f1.1
        · rw [x_fP (by omega)]
          exact f1.2.2 i hi
        · rw [x_fP (by omega), g1, c3]
        · rw [x_fP (by decide), g2, c6]
      · obtain ⟨tj, htj, ej⟩ := hu j (by omega)
        have hne : tj ≠ t0 := fun e => hjm (hi j m (by omega) hm12 (by rw [ej, eu, e]))
        refine relF_fr (a4 j (by omega)) agS ?_ ?_ (agF_tr (eg_agF q2 hjm) agF_sI)
        · rw [ej]
          omega
        · rw [ej]
          omega
    · rw [x_fN (by decide), q1p 1 (by omega) (by omega)]
      exact b1
    · rw [x_fN (by decide), q2.1.1 200 (by decide)]
      exact b2
    · exact relF_fr (b4 j hj hn) agS (by omega) (by omega) (agF_tr (eg_agF q2 (by omega)) agF_sI)
    · exact ag_mono agS fun q hq => by omega
    · rw [x_fN (by decide), q1p 1 (by omega) (by omega)]
    · rw [x_fN (by decide), q2.1.1 200 (by decide)]
/-- a frame is sent -/
theorem sim_transmit {N a f n t : Nat} {b : Nat → Nat} {S R : xs_T} (h : relA N S R) (hN : ∃ s, S.1 1 3 = nI s ∧ s + 1 ≤ 400 * N) (hN2 : 400 * N < 2 ^ 30) (ha : xs_kd a = 2) (han : ∀ t, t < 12 → a ≠ 4 + 2 * t) (han2 : ∀ t, t < 8 → a ≠ 28 + 2 * t) (hf1 : 20 ≤ f) (hf2 : f < 24) (c1 : xs_cf S a n b) (c2 : 12 ≤ n) (c3 : S.1 a 2 = nI t) (c4 : t ≤ 3) (c5 : xs_rf R f n b) (c6 : R.1 211 f = nI t) :
    ∃ S2 R2, xf_A_transmit 1 a S = some S2 ∧ xf_R_post 200 (nI f) R = some R2 ∧ relA N S2 R2 ∧ acA S S2 ∧ arA R R2 ∧ ∃ s, S.1 1 3 = nI s ∧ S2.1 1 3 = nI (s + 1) := by
  obtain ⟨⟨m, a1, a2, a3, a4⟩, ⟨sn, b1, b2, b3, b4⟩, hu, hi, hr⟩ := h
  obtain ⟨s, hs1, hs2⟩ := hN
  have hss : s = sn := (nI_eq (by omega) (by omega)).mp (hs1.symm.trans b1)
  subst hss
  unfold xf_A_transmit xf_R_post
  have r8 : ∀ x, x < 2 ^ 31 → xs_rem (nI x) 8 = nI (x % 8) := fun x hx => pk_rem (d := 8) hx (by decide) (by decide)
  have h8 : s % 8 < 8 := Nat.mod_lt _ (by decide)
  have kr := (by decide +kernel : ∀ j, j < 8 → xs_kd (28 + 2 * j) = 2) (s % 8) h8
  rw [show xs_gI S 1 3 = nI s from b1, show xs_gI R 200 13 = nI s from b2, r8 s (by omega), x_rdU (k := 1 + 2) (show s % 8 < 8 from h8) (by show xs_kd (S.2.2 3 (s % 8)) = 2; rw [hr _ h8]; exact kr), Option.bind_some, show S.2.2 (1 + 2) (s % 8) = 28 + 2 * (s % 8) from hr _ h8]
  obtain ⟨T, e1, f1, g1, q1⟩ := x_cf_copy (k := 28 + 2 * (s % 8)) kr ha (Ne.symm (han2 _ h8)) c1
  rw [e1, Option.bind_some, Option.bind_some, show (12 : Int32) + nI (s % 8) = nI (12 + s % 8) from nI_add 12 _]
  obtain ⟨U, e2, f2, g2, q2⟩ := r_copyF (g := 12 + s % 8) hf2 (by omega) (by omega) c5
  rw [e2, Option.bind_some, Option.bind_some]
  have q1p : ∀ q, q ≠ 28 + 2 * (s % 8) → q ≠ 28 + 2 * (s % 8) + 1 → T.1 q = S.1 q := fun q h1 h2 => q1.1 q (by simp; omega)
  rw [show xs_gI T 1 3 = nI s by
      show T.1 1 3 = _
      rw [q1p 1 (by omega) (by omega)]
      exact b1, show xs_gI U 200 13 = nI s by
      show U.1 200 13 = _
      rw [q2.1.1 200 (by decide)]
      exact b2, nI_1]
  have T2 : (xs_sI T 1 3 (nI (s + 1))).2 = S.2 := q1.2
  have agS : xs_ag (fun q => q ≠ 1 ∧ q ≠ 28 + 2 * (s % 8) ∧ q ≠ 28 + 2 * (s % 8) + 1) S (xs_sI T 1 3 (nI (s + 1))) := fun q hq => ⟨by rw [x_fP hq.1, q1p q hq.2.1 hq.2.2], by rw [T2], by rw [T2]⟩
  have hA1 : relA N (xs_sI T 1 3 (nI (s + 1))) (xs_sI U 200 13 (nI (s + 1))) := by
    refine ⟨⟨m, ?_, ?_, a3, fun j hj => ?_⟩, ⟨s + 1, x_fI, x_fI, hs2, fun j hj hn => ?_⟩, fun j hj => by rw [T2]; exact hu j hj, fun i j hi' hj => by rw [T2]; exact hi i j hi' hj, fun j hj => by rw [T2]; exact hr j hj⟩
    · rw [x_fN (by decide), q1p 1 (by omega) (by omega)]
      exact a1
    · rw [x_fN (by decide), q2.1.1 200 (by decide)]
      exact a2
    · rw [T2]
      obtain ⟨tj, htj, ej⟩ := hu j (by omega)
      refine relF_fr (a4 j hj) agS ?_ ?_ (agF_tr (eg_agF q2 (by omega)) agF_sI)
      · rw [ej]
        omega
      · rw [ej]
        omega
    · by_cases hjs : j = s % 8
      · subst hjs
        refine ⟨n, b, t, ⟨?_, f1.2.1, fun i hi => ?_⟩, c2, ?_, c4, agF_rf agF_sI f2, ?_⟩
        · rw [x_fP (by omega)]
          exact f1.1
        · rw [x_fP (by omega)]
          exact f1.2.2 i hi
        · rw [x_fP (by omega), g1, c3]
        · rw [x_fP (by decide), g2, c6]
      · exact relF_fr (b4 j hj (by omega)) agS (by omega) (by omega) (agF_tr (eg_agF q2 (by omega)) agF_sI)
  have na : a ≠ 1 ∧ a + 1 ≠ 1 ∧ a + 1 ≠ 28 + 2 * (s % 8) ∧ a ≠ 28 + 2 * (s % 8) + 1 ∧ a ≠ 28 + 2 * (s % 8) := by
    have t := (by decide +kernel : ∀ j, j < 8 → ∀ a ∈ [4, 6, 8, 10, 12, 14, 16, 18, 20, 22, 24, 26, 28, 30, 32, 34, 36, 38, 40, 42, 67, 69, 91, 93, 115, 117, 121], a ≠ 1 ∧ a + 1 ≠ 1 ∧ a + 1 ≠ 28 + 2 * j ∧ a ≠ 28 + 2 * j + 1) (s % 8) h8 a (xs_k_F a (xs_kd_lt a (by rw [ha]; decide)) ha)
    exact ⟨t.1, t.2.1, t.2.2.1, t.2.2.2, han2 _ h8⟩
  have gf : agF f R (xs_sI U 200 13 (nI (s + 1))) := agF_tr (eg_agF q2 (by omega)) agF_sI
  obtain ⟨m2, S3, R3, k1, k2, k3, k4, k5, k6, k7, k8, k9, k10⟩ := sim_add hA1 ha han (by omega) hf2 (ag_cf agS ⟨na.1, na.2.2.2.2, na.2.2.2.1⟩ ⟨na.2.1, na.2.2.1, by omega⟩ c1) c2 (by rw [(agS a ⟨na.1, na.2.2.2.2, na.2.2.2.1⟩).1]; exact c3) c4 (agF_rf gf c5) (by rw [gf.2.2]; exact c6)
  rw [k3, Option.bind_some]
  refine ⟨S3, R3, rfl, ?_, k6, ag_tr (ag_mono agS fun q hq => by omega) k7, arA_tr (arA_tr (eg_arA q2 (by omega)) (sI_arA (Or.inr rfl))) k8, s, b1, by rw [k9, x_fI]⟩
  rw [show xs_gI (xs_sI U 200 13 (nI (s + 1))) 200 12 = nI m2 from k1]
  by_cases hm : m2 = 12
  · rw [if_pos (show (12 : Int32) ≤ nI m2 from nI_le (a := 12) (by omega) (by omega)), k4 hm]
  · rw [if_neg (show ¬ (12 : Int32) ≤ nI m2 from nI_ge (b := 12) (by omega) (by decide))]
    exact k5 (by omega)
