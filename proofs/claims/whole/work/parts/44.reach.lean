/-! reach -/
theorem x_accF {S : xs_T} {a n : Nat} {b : Nat → Nat} (ha : xs_kd a = 2) (h : xs_cf S a n b) (h12 : 12 ≤ n) : xf_F_hasAcceptForm a S = some (if n = 17 ∧ b 0 = 32 then 1 else 0) := by
  have la := x_kF ha
  have h24 := h.2.1
  have b0 := h.2.2 0 (by omega)
  have v0 := b0.2
  unfold xf_F_hasAcceptForm
  rw [show xs_gI S a 1 = nI n from h.1]
  by_cases h1 : n = 17
  · rw [if_pos (show nI n = 17 by rw [h1]; rfl), show xs_rd S (a + 1) 0 = _ from x_rd (j := 0) (by omega), Option.bind_some, show S.1 (a + 1) 0 = nI (b 0) from b0.1]
    by_cases h2 : b 0 = 32
    · rw [if_pos (show nI (b 0) = 32 by rw [h2]; rfl), if_pos ⟨h1, h2⟩]
      rfl
    · rw [if_neg (show ¬ nI (b 0) = 32 from fun e => h2 ((nI_eq (b := 32) (by omega) (by decide)).mp e)), if_neg (fun hh => h2 hh.2)]
      rfl
  · rw [if_neg (show ¬ nI n = 17 from fun e => h1 ((nI_eq (b := 17) (by omega) (by decide)).mp e)), if_neg (fun hh => h1 hh.1)]
    rfl
theorem r_accN {R : xs_T} {d n : Nat} {b : Nat → Nat} (h : xs_rf R 23 n b) (h12 : 12 ≤ n) (hn : ¬ (n = 17 ∧ b 0 = 32)) : xf_R_takeAccept 200 (nI d) R = some R := by
  have h24 := h.2.1
  have b0 := h.2.2 0 (by omega)
  have v0 := b0.2
  unfold xf_R_takeAccept
  rw [show xs_rd R (200 + 10) 23 = some (nI n) by
    rw [show xs_rd R (200 + 10) 23 = _ from x_rd (k := 210) (j := 23) (by decide)]
    exact congrArg some h.1, Option.bind_some]
  by_cases h1 : n = 17
  · rw [if_pos (show nI n = 17 by rw [h1]; rfl), show xf_R_at 200 23 0 R = some (nI (b 0)) by
      rw [show xf_R_at 200 23 0 R = _ from r_at (f := 23) (i := 0) (by decide) (by decide)]
      exact congrArg some b0.1, Option.bind_some, if_neg (show ¬ nI (b 0) = 32 from fun e => hn ⟨h1, (nI_eq (b := 32) (by omega) (by decide)).mp e⟩)]
  · rw [if_neg (show ¬ nI n = 17 from fun e => h1 ((nI_eq (b := 17) (by omega) (by decide)).mp e))]
theorem sim_take {K : Nat → Nat → Nat} {N tm d a n : Nat} {b : Nat → Nat} {x : Int32} {S R : xs_T} (h : Rel K N tm S R) (hN : N ≤ 512) (hd : d < 3) (ha : ∃ t, t < 12 ∧ a = 4 + 2 * t) (ka : xs_kd a = 2) (cS : xs_cf S a n b) (cR : xs_rf R 23 n b) (h12 : 12 ≤ n) :
    ∃ S2 R2, xf_D_take (53 + 24 * d) a (nI tm) S = some S2 ∧ ((xs_rd R (200 + 13) (nI d)).bind fun v8 => if v8 = 0 then xf_R_reach_85 200 x (nI d) R else (xs_rd R (200 + 14) (nI d)).bind fun v18 => if xs_gI R 200 8 = v18 + 1 then xf_R_reach_81 200 x (nI d) R else (xs_rd R (200 + 14) (nI d)).bind fun v20 => if xs_gI R 200 8 = v20 + 2 then xf_R_reach_81 200 x (nI d) R else xf_R_reach_85 200 x (nI d) R) = some (1, R2) ∧ Rel K (N + 1) tm S2 R2 ∧ xs_ag (fun q => 200 ≤ q) S S2 ∧ xs_ag (fun q => q < 200) R R2 := by
  obtain ⟨h0, ⟨st, nc, gs, cu, w, sa, ts, cf, ⟨a1, a2, a3⟩, -, -, -, ⟨w1, w2, w3⟩, ⟨f1, f2, f3⟩, -, -, j1, -, -⟩, h2, h3⟩ := h.2.2.2.1 d hd
  obtain ⟨t1, t2, t3⟩ := h.2.1.1
  have h24 := cS.2.1
  have r13 : xs_rd R (200 + 13) (nI d) = some (nI w) := by
    rw [x_rd (k := 200 + 13) (show d < 3 from hd)]
    exact congrArg some w2
  have r14 : xs_rd R (200 + 14) (nI d) = some (nI sa) := by
    rw [x_rd (k := 200 + 14) (show d < 3 from hd)]
    exact congrArg some f2
  have r12 : xs_rd R (200 + 12) (nI d) = some (nI st) := by
    rw [x_rd (k := 200 + 12) (show d < 3 from hd)]
    exact congrArg some a2
  have e85 : xf_R_reach_85 200 x (nI d) R = some (1, R) := by
    unfold xf_R_reach_85 xf_R_reach_86 xf_R_reach_109
    rw [if_pos rfl, if_pos rfl]
    rfl
  have nothing : Rel K (N + 1) tm S R ∧ xs_ag (fun q => 200 ≤ q) S S ∧ xs_ag (fun q => q < 200) R R := ⟨Rel_fr h (Nat.le_succ N) ag_rf ag_rf, ag_rf, ag_rf⟩
  rw [r13, Option.bind_some]
  rcases (show w = 0 ∨ w = 1 by omega) with rfl | rfl
  · refine ⟨S, R, ?_, ?_, nothing⟩
    · unfold xf_D_take
      rw [if_pos (show xs_gI S (53 + 24 * d) 11 = 0 from w1)]
    · rw [if_pos (show nI 0 = 0 from rfl), e85]
  obtain ⟨hst1, hsa⟩ := j1 rfl
  have eq1 : ∀ z, nI tm = nI z ↔ tm = z ∨ ¬ z < 2 ^ 31 ∧ nI tm = nI z := fun z => ⟨fun e => by
    by_cases hz : z < 2 ^ 31
    · exact Or.inl ((nI_eq (by omega) hz).mp e)
    · exact Or.inr ⟨hz, e⟩, fun e => e.elim (fun e => by rw [e]) (fun e => e.2)⟩
  have cl : xf_D_take (53 + 24 * d) a (nI tm) S = if tm = sa then some S else if st = 1 then ((xf_F_hasAcceptForm a S).bind fun q11 => if q11 = 0 then xf_D_take_49 (53 + 24 * d) a (nI tm) S else (xf_D_takeAccept (53 + 24 * d) a S).bind fun q13 => some q13) else xf_D_take_49 (53 + 24 * d) a (nI tm) S := by
    unfold xf_D_take
    rw [if_neg (show ¬ xs_gI S (53 + 24 * d) 11 = 0 from fun e => absurd (w1.symm.trans e) (by decide)), show xs_gI S (53 + 24 * d) 12 = nI sa from f1]
    by_cases hts : tm = sa
    · rw [if_pos (nI_le (by omega) (by omega)), if_pos hts]
    · rw [if_neg (nI_ge (by omega) (by omega)), if_neg hts, show nI sa + 3 = nI (sa + 3) from nI_add sa 3, if_pos (nI_lt (by omega) (by omega)), show xs_gI S (53 + 24 * d) 6 = nI st from a1]
      by_cases h1 : st = 1
      · rw [if_pos (show nI st = 1 by rw [h1]; rfl), if_pos h1]
      · rw [if_neg (show ¬ nI st = 1 from fun e => h1 ((nI_eq (b := 1) (by omega) (by decide)).mp e)), if_neg h1]
  rw [cl, if_neg (show ¬ nI 1 = 0 by decide), r14, Option.bind_some, Option.bind_some, show xs_gI R 200 8 = nI tm from t2, show nI sa + 1 = nI (sa + 1) from nI_add sa 1, show nI sa + 2 = nI (sa + 2) from nI_add sa 2]
  by_cases hts : tm = sa
  · refine ⟨S, R, by rw [if_pos hts], ?_, nothing⟩
    rw [if_neg (fun e => absurd ((nI_eq (by omega) (by omega)).mp e) (by omega)), if_neg (fun e => absurd ((nI_eq (by omega) (by omega)).mp e) (by omega)), e85]
  rw [if_neg hts]
  have rr : ∀ z : Option (Int32 × xs_T), (if nI tm = nI (sa + 1) then xf_R_reach_81 200 x (nI d) R else if nI tm = nI (sa + 2) then xf_R_reach_81 200 x (nI d) R else xf_R_reach_85 200 x (nI d) R) = z ↔ xf_R_reach_81 200 x (nI d) R = z := fun z => by
    rcases (show tm = sa + 1 ∨ tm = sa + 2 by omega) with e | e
    · rw [if_pos (by rw [e])]
    · rw [if_neg (fun e => absurd ((nI_eq (by omega) (by omega)).mp e) (by omega)), if_pos (by rw [e])]
  rcases (show st = 1 ∨ st = 2 by omega) with rfl | rfl
  · rw [if_pos rfl, x_accF ka cS h12, Option.bind_some]
    have e81 : xf_R_reach_81 200 x (nI d) R = (xf_R_takeAccept 200 (nI d) R).bind fun q17 => xs_rz 1 q17 := by
      unfold xf_R_reach_81 xf_R_reach_86
      rw [if_neg i10, r12, Option.bind_some, if_pos (show nI 1 = 1 from rfl)]
    by_cases hf : n = 17 ∧ b 0 = 32
    · rw [if_pos hf, if_neg i10]
      obtain ⟨rfl, hb0⟩ := hf
      obtain ⟨t, ht, rfl⟩ := ha
      obtain ⟨S2, R2, e1, e2, e3, e4, e5⟩ := sim_acc h (by omega) hd ka (fun e he => by omega) cS cR hb0 a2
      refine ⟨S2, R2, by rw [e1, Option.bind_some], (rr _).mpr ?_, Rel_fr e3 (Nat.le_succ N) ag_rf ag_rf, e4, e5⟩
      rw [e81, e2, Option.bind_some]
      rfl
    · rw [if_neg hf, if_pos rfl]
      refine ⟨S, R, ?_, (rr _).mpr ?_, nothing⟩
      · unfold xf_D_take_49
        rw [if_neg (show ¬ xs_gI S (53 + 24 * d) 6 = 2 from fun e => absurd (a1.symm.trans e) (by decide))]
      · rw [e81, r_accN cR h12 hf, Option.bind_some]
        rfl
  · rw [if_neg (by decide)]
    have e81 : xf_R_reach_81 200 x (nI d) R = (xf_R_takeData 200 (nI d) R).bind fun q14 => xs_rz 1 q14 := by
      unfold xf_R_reach_81 xf_R_reach_86 xf_R_reach_109
      rw [if_neg i10, r12, Option.bind_some, if_neg (show ¬ nI 2 = 1 by decide), if_neg i10, Option.bind_some, if_pos (show nI 2 = 2 from rfl)]
    obtain ⟨S2, R2, e1, e2, e3, e4, e5⟩ := sim_tkd (tx := nI tm) h (by omega) hd ha ka cS cR h12 a2 w2
    refine ⟨S2, R2, e1, (rr _).mpr ?_, e3, e4, e5⟩
    rw [e81, e2, Option.bind_some]
    rfl
theorem sim_reach {K : Nat → Nat → Nat} {N tm : Nat} {S R : xs_T} (h : Rel K N tm S R) (hN : N ≤ 512) (x : Int32) : Sim K N tm S R (xf_W_reach 0 x S) (xf_R_reach 200 x R) := by
  have hA := h.2.2.1
  obtain ⟨⟨m, a1, a2, a3, a4⟩, -, c, -⟩ := hA
  have eh := q_holds (k := 0 + 1) x a1
  rcases q_below x (n := m) (by omega) with e | ⟨j, hj, rfl, e⟩
  · exact sim_no (v := 0) h (by unfold xf_W_reach; rw [eh, e.1, Option.bind_some, if_pos rfl]; rfl) (by unfold xf_R_reach; rw [show xs_gI R 200 12 = nI m from a2, e.1, Option.bind_some, if_pos rfl]; rfl)
  have hj12 : j < 12 := by omega
  obtain ⟨n, b, t, c1, c2, c3, c4, c5, c6⟩ := a4 j hj
  obtain ⟨p, hp, ep⟩ := c j hj12
  have kF := q_uF h.2.2.1 hj12
  have eU : xs_rdU S (0 + 2) (nI j) xs_cF = some (S.2.2 2 j) := x_rdU (k := 0 + 2) (show j < 12 from hj12) kF
  have r11 : xs_rd R (200 + 11) (nI j) = some (nI t) := by
    rw [x_rd (k := 200 + 11) (show j < 24 by omega)]
    exact congrArg some c6
  by_cases ht3 : t = 3
  · exact sim_no (v := 0) h (by unfold xf_W_reach; rw [eh, e, Option.bind_some, if_neg i10, eU, Option.bind_some, if_pos (show xs_gI S (S.2.2 2 j) 2 = 3 by rw [show xs_gI S (S.2.2 2 j) 2 = nI t from c3, ht3]; rfl)]; rfl) (by unfold xf_R_reach; rw [show xs_gI R 200 12 = nI m from a2, e, Option.bind_some, if_neg i10, r11, Option.bind_some, if_pos (show nI t = 3 by rw [ht3]; rfl)]; rfl)
  have ht3' : ¬ nI t = 3 := fun e => ht3 ((nI_eq (b := 3) (by omega) (by decide)).mp e)
  obtain ⟨R1, e1, f1, g1, q1⟩ := r_copyF (f := j) (g := 23) (by omega) (by decide) (by omega) c5
  have h1 : Rel K N tm S R1 := relScr h (Nat.le_refl N) ag_rf (arS_eg q1)
  obtain ⟨T, U, e2, e3, h2, h3, h4, h5, h6, h7, h8⟩ := sim_out h1.2.2.1 a1 hj a3
  have hTU : Rel K N tm T U := relAr h1 (Nat.le_refl N) h3 h4 h2
  have cT : xs_cf T (S.2.2 2 j) n b := ⟨by rw [h5 _ (by rw [ep]; omega)]; exact c1.1, c1.2.1, fun i hi => by rw [h5 _ (by rw [ep]; omega)]; exact c1.2.2 i hi⟩
  obtain ⟨S2, R2, s1, s2, s3, s4, s5⟩ := sim_take (x := nI j) (d := t) hTU hN (by omega) ⟨p, hp, ep⟩ kF cT (agF_rf (h8 23 (by decide)) f1) c2
  refine ⟨1, S2, R2, tm, ?_, ?_, s3, ag_tr (ag_mono h3 fun q hq => by omega) s4, ag_tr (ag_eq q1.1 fun q hq => by simp; omega) (ag_tr (ag_eq h4.1 fun q hq => by simp; omega) s5)⟩
  · unfold xf_W_reach xs_ckU
    have eT : xs_gI T (S.2.2 2 j) 2 = nI t := by
      show T.1 (S.2.2 2 j) 2 = _
      rw [h5 _ (by rw [ep]; omega)]
      exact c3
    rw [eh, e, Option.bind_some, if_neg i10, eU, Option.bind_some, if_neg (show ¬ xs_gI S (S.2.2 2 j) 2 = 3 by rw [show xs_gI S (S.2.2 2 j) 2 = nI t from c3]; exact ht3'), show xf_A_takeOut (0 + 1) (nI j) S = _ from e2, Option.bind_some, if_pos kF, Option.bind_some, eT, q_rdD hTU.2.1 (show t < 3 by omega), Option.bind_some, show xs_gI T 0 3 = nI tm from hTU.2.1.1.1, s1, Option.bind_some]
    rfl
  · unfold xf_R_reach
    rw [show xs_gI R 200 12 = nI m from a2, e, Option.bind_some, if_neg i10, r11, Option.bind_some, if_neg ht3', Option.bind_some, show xf_R_copyFrame 200 (nI j) 23 R = _ from e1, Option.bind_some, e3, Option.bind_some]
    exact s2
