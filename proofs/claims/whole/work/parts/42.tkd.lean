/-! a device takes data: the end -/
theorem r_conf {R : xs_T} {d n cf : Nat} {b : Nat → Nat} (hd : d < 3) (hst : R.1 212 d = nI 2) (hf : xs_rf R (20 + d) n b) (h1 : 1 ≤ n) (hcf : cf ≤ 1) (hb : cf = 1 ↔ b 0 = 128) : xf_R_confirmed 200 (nI d) R = some (nI cf) := by
  have b0 := hf.2.2 0 (by omega)
  have b2 := b0.2
  unfold xf_R_confirmed
  rw [x_rd (k := 200 + 12) (show d < 3 from hd), Option.bind_some, show R.1 (200 + 12) d = nI 2 from hst, if_pos (show nI 2 = 2 from rfl), show (20 : Int32) + nI d = nI (20 + d) from nI_add 20 d, show xf_R_at 200 (nI (20 + d)) 0 R = _ from r_at (f := 20 + d) (i := 0) (by omega) (by decide), Option.bind_some, b0.1]
  by_cases h : b 0 = 128
  · rw [if_pos (show nI (b 0) = 128 by rw [h]; rfl), hb.mpr h]
    rfl
  · rw [if_neg (show ¬ nI (b 0) = 128 from fun e => h ((nI_eq (b := 128) (by omega) (by decide)).mp e)), show cf = 0 from by
      have : cf ≠ 1 := fun e => h (hb.mp e)
      omega]
    rfl
theorem z_s0 {S : xs_T} {k j : Nat} : xs_sZ S k j 0 = some (xs_sI S k j 0) := by
  unfold xs_sZ
  rw [if_pos (Or.inl rfl)]
theorem z_s1 {S : xs_T} {k j : Nat} : xs_sZ S k j 1 = some (xs_sI S k j 1) := by
  unfold xs_sZ
  rw [if_pos (Or.inr rfl)]
theorem sim_tkd3 {K : Nat → Nat → Nat} {M tm d a t : Nat} {td : Nat → Nat} {S R : xs_T} (h : RelT K M tm td S R) (hd : d < 3) (hst : R.1 212 d = nI 2) (hw : R.1 213 d = nI 1) (ht : t ≤ 1) :
    ∃ S2 R2, xf_D_takeData_112 (53 + 24 * d) a (nI t) S = some S2 ∧ xf_R_takeData_208 200 (nI d) (nI t) R = some R2 ∧ RelT K M tm td S2 R2 ∧ xs_ag (fun q => q ≠ 53 + 24 * d) S S2 ∧ xs_eq [213, 236] R R2 := by
  obtain ⟨h0, ⟨st, nc, gs, cu, w, sa, ts, cf, ⟨a1, a2, a3⟩, ⟨b1, b2, b3⟩, ⟨c1, c2, c3⟩, ⟨d1, d2, d3⟩, ⟨w1, w2, w3⟩, ⟨f1, f2, f3⟩, ⟨g1, g2, g3⟩, ⟨i1, i2⟩, j1, ⟨n, b, k1, k2, k3, k4⟩, l1⟩, h2, h3⟩ := h.2.2.2.1 d hd
  have est : st = 2 := (nI_eq (by omega) (by decide)).mp (a2.symm.trans hst)
  have ew : w = 1 := (nI_eq (by omega) (by decide)).mp (w2.symm.trans hw)
  subst est ew
  have cn : ∀ T, T.1 212 d = nI 2 → agF (20 + d) R T → xf_R_confirmed 200 (nI d) T = some (nI cf) := fun T hT hF => r_conf hd hT (agF_rf hF k2) (k4 (by decide)).1 i2 (k4 (by decide)).2
  have e0 := cn R a2 agF_refl
  have i1' : xs_gI S (53 + 24 * d) 14 = nI cf := i1
  have wq : ∀ T, xs_wrZ T (200 + 13) (nI d) 0 = some (xs_sI T 213 d 0) := fun T => z_wr0 (k := 200 + 13) (show d < 3 from hd)
  have wq1 : ∀ T, xs_wrZ T (200 + 13) (nI d) 1 = some (xs_sI T 213 d 1) := fun T => z_wr1 (k := 200 + 13) (show d < 3 from hd)
  unfold xf_D_takeData_112 xf_R_takeData_208
  rw [i1', e0, Option.bind_some, Option.bind_some]
  rcases (show cf = 0 ∨ cf = 1 by omega) with rfl | rfl
  · rw [if_pos (show nI 0 = 0 from rfl), if_pos (show nI 0 = 0 from rfl)]
    unfold xf_D_takeData_134 xf_R_takeData_235
    rw [i1', e0, Option.bind_some, if_pos (show nI 0 = 0 from rfl), if_pos (show nI 0 = 0 from rfl), z_s0, Option.bind_some, wq, Option.bind_some]
    exact ⟨_, _, rfl, rfl, st_w0 (fun _ _ => rfl) (Nat.le_refl _) h (Nat.le_refl _) hd, ag_sI fun q hq => hq, e_sI (by decide)⟩
  rw [if_neg (show ¬ nI 1 = 0 by decide), if_neg (show ¬ nI 1 = 0 by decide)]
  rcases (show t = 0 ∨ t = 1 by omega) with rfl | rfl
  · rw [if_pos (show nI 0 = 0 from rfl), if_pos (show nI 0 = 0 from rfl)]
    unfold xf_D_takeData_134 xf_R_takeData_235
    rw [i1', e0, Option.bind_some, if_neg (show ¬ nI 1 = 0 by decide), if_neg (show ¬ nI 1 = 0 by decide), if_pos (show nI 0 = 0 from rfl), if_pos (show nI 0 = 0 from rfl), z_s1, Option.bind_some, wq1, Option.bind_some, x_self (show S.1 (53 + 24 * d) 11 = 1 from w1), x_self (show R.1 213 d = 1 from w2)]
    exact ⟨S, R, rfl, rfl, h, ag_rf, e_rf⟩
  rw [if_neg (show ¬ nI 1 = 0 by decide), if_neg (show ¬ nI 1 = 0 by decide), show (3 : Int32) * nI d = nI (3 * d) from pk_mul 3 d, x_rd (k := 200 + 36) (show 3 * d < 9 by omega), Option.bind_some, x_wr (k := 200 + 36) (show 3 * d < 9 by omega), Option.bind_some]
  have ev : R.1 (200 + 36) (3 * d) = xs_gI S (53 + 24 * d) 15 := by
    have := h2 0 (by decide)
    exact this.symm
  rw [ev]
  have h' := st_t (t := 0) (v := xs_gI S (53 + 24 * d) 15 + 1) (by decide) h (Nat.le_refl M) hd
  have i2' : xs_gI (xs_sI S (53 + 24 * d) 15 (xs_gI S (53 + 24 * d) 15 + 1)) (53 + 24 * d) 14 = nI 1 := by
    show (xs_sI S (53 + 24 * d) 15 (xs_gI S (53 + 24 * d) 15 + 1)).1 (53 + 24 * d) 14 = nI 1
    rw [x_fN (by decide)]
    exact i1
  have e2 := cn (xs_sI R (200 + 36) (3 * d) (xs_gI S (53 + 24 * d) 15 + 1)) (by rw [x_fP (by decide)]; exact a2) ⟨fun j _ => by rw [x_fP (by decide)], by rw [x_fP (by decide)], by rw [x_fP (by decide)]⟩
  unfold xf_D_takeData_134 xf_R_takeData_235
  rw [i2', e2, Option.bind_some, if_neg (show ¬ nI 1 = 0 by decide), if_neg (show ¬ nI 1 = 0 by decide), if_neg (show ¬ nI 1 = 0 by decide), if_neg (show ¬ nI 1 = 0 by decide), z_s0, Option.bind_some, wq, Option.bind_some]
  exact ⟨_, _, rfl, rfl, st_w0 (fun _ _ => rfl) (Nat.le_refl _) h' (Nat.le_refl _) hd, ag_tr (ag_sI fun q hq => hq) (ag_sI fun q hq => hq), e_tr (e_sI (by decide)) (e_sI (by decide))⟩
theorem x_option {S : xs_T} {a n i : Nat} {b : Nat → Nat} (ha : xs_kd a = 2) (h : xs_cf S a n b) (hi : 8 + i < n) : xf_F_option a (nI i) S = some (nI (b (8 + i))) := by
  have la := x_kF ha
  have h24 := h.2.1
  have bi := h.2.2 (8 + i) hi
  rw [Nat.zero_add] at bi
  unfold xf_F_option
  rw [show (8 : Int32) + nI i = nI (8 + i) from nI_add 8 i, x_rd (by omega), Option.bind_some, bi.1]
theorem sim_tkd2 {K : Nat → Nat → Nat} {M tm d a n : Nat} {td b : Nat → Nat} {S R : xs_T} (h : RelT K M tm td S R) (hd : d < 3) (ka : xs_kd a = 2) (ha : a ≠ 53 + 24 * d ∧ a + 1 ≠ 53 + 24 * d) (cS : xs_cf S a n b) (cR : xs_rf R 23 n b) (h12 : 12 ≤ n) (hst : R.1 212 d = nI 2) (hw : R.1 213 d = nI 1) :
    ∃ S2 R2, xf_D_takeData_71 (53 + 24 * d) a S = some S2 ∧ xf_R_takeData_147 200 (nI d) R = some R2 ∧ RelT K M tm td S2 R2 ∧ xs_ag (fun q => q ≠ 53 + 24 * d) S S2 ∧ xs_eq [213, 236] R R2 := by
  have h24 := cS.2.1
  have b5 := cR.2.2 5 (by omega)
  have b8 := cR.2.2 8 (by omega)
  have b10 := cR.2.2 10 (by omega)
  have v5 := b5.2
  have v8 := b8.2
  have last : ∀ S1 R1, RelT K M tm td S1 R1 → xs_cf S1 a n b → R1.1 212 d = nI 2 → R1.1 213 d = nI 1 → xs_ag (fun q => q ≠ 53 + 24 * d) S S1 → xs_eq [213, 236] R R1 →
      ∃ S2 R2, xf_D_takeData_97 (53 + 24 * d) a S1 = some S2 ∧ xf_R_takeData_195 200 (nI d) (nI (b 5)) R1 = some R2 ∧ RelT K M tm td S2 R2 ∧ xs_ag (fun q => q ≠ 53 + 24 * d) S S2 ∧ xs_eq [213, 236] R R2 := fun S1 R1 h1 c1 z1 z2 g1 g2 => by
    unfold xf_D_takeData_97 xf_R_takeData_195
    rw [(x_opt ka c1 h12).2, Option.bind_some]
    by_cases hb : (nI (b 5) &&& 32 : Int32) = 0
    · rw [if_pos hb, if_pos hb]
      obtain ⟨S2, R2, e1, e2, e3, e4, e5⟩ := sim_tkd3 (a := a) (t := 0) h1 hd z1 z2 (by decide)
      exact ⟨S2, R2, e1, e2, e3, ag_tr g1 e4, e_tr g2 e5⟩
    · rw [if_neg hb, if_neg hb]
      obtain ⟨S2, R2, e1, e2, e3, e4, e5⟩ := sim_tkd3 (a := a) (t := 1) h1 hd z1 z2 (by decide)
      exact ⟨S2, R2, e1, e2, e3, ag_tr g1 e4, e_tr g2 e5⟩
  unfold xf_D_takeData_71 xf_R_takeData_147
  rw [(x_opt ka cS h12).1, Option.bind_some, show xf_R_at 200 23 5 R = _ from r_at (f := 23) (i := 5) (by decide) (by decide), Option.bind_some, b5.1, x_r16 (by omega)]
  by_cases h3 : b 5 % 16 = 3
  rotate_left
  · have h3' : ¬ nI (b 5 % 16) = 3 := fun e => h3 ((nI_eq (b := 3) (by omega) (by decide)).mp e)
    rw [if_neg h3', if_neg h3']
    exact last S R h cS hst hw ag_rf e_rf
  have h3' : nI (b 5 % 16) = 3 := by rw [h3]; rfl
  rw [if_pos h3', if_pos h3', show xf_F_option a 0 S = _ from x_option (i := 0) ka cS (by omega), Option.bind_some, show xf_R_at 200 23 8 R = _ from r_at (f := 23) (i := 8) (by decide) (by decide), Option.bind_some, b8.1]
  show ∃ S2 R2, (if nI (b 8) = 2 then _ else _) = some S2 ∧ _
  by_cases h2 : b 8 = 2
  rotate_left
  · have h2' : ¬ nI (b 8) = 2 := fun e => h2 ((nI_eq (b := 2) (by omega) (by decide)).mp e)
    rw [if_neg h2', if_neg h2']
    exact last S R h cS hst hw ag_rf e_rf
  have h2' : nI (b 8) = 2 := by rw [h2]; rfl
  rw [if_pos h2', if_pos h2', show xf_F_option a 2 S = _ from x_option (i := 2) ka cS (by omega), Option.bind_some, show xf_R_at 200 23 10 R = _ from r_at (f := 23) (i := 10) (by decide) (by decide), Option.bind_some, b10.1, Option.bind_some, show (3 : Int32) * nI d = nI (3 * d) from pk_mul 3 d, show nI (3 * d) + 2 = nI (3 * d + 2) from nI_add _ 2, x_wr (k := 200 + 36) (show 3 * d + 2 < 9 by omega), Option.bind_some]
  have ag1 : xs_ag (fun q => q ≠ 53 + 24 * d) S (xs_sI S (53 + 24 * d) 17 (nI (b 10))) := ag_sI fun q hq => hq
  exact last _ _ (st_t (t := 2) (v := nI (b 10)) (by decide) h (Nat.le_refl M) hd) (ag_cf ag1 ha.1 ha.2 cS) (by rw [x_fP (by decide)]; exact hst) (by rw [x_fP (by decide)]; exact hw) ag1 (e_sI (by decide))
