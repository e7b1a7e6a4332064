/-! the end of waiting -/
theorem relUp {K : Nat → Nat → Nat} {M tm d : Nat} {td td2 : Nat → Nat} {S R : xs_T} (h : RelT K M tm td S R) (hd : d < 3) (htd : ∀ e, e ≠ d → td2 e = td e) (hle : td d ≤ td2 d) (hw : R.1 213 d = nI 1 → ∀ sa, R.1 214 d = nI sa → sa ≤ td d → td2 d ≤ sa + 2) : RelT K M tm td2 S R := by
  refine ⟨h.1, h.2.1, h.2.2.1, fun e he => ?_, h.2.2.2.2⟩
  by_cases hed : e = d
  · subst hed
    obtain ⟨h0, ⟨st, nc, gs, cu, w, sa, ts, cf, c1, c2, c3, c4, ⟨w1, w2, w3⟩, ⟨f1, f2, f3⟩, c7, c8, j1, k, l1⟩, h2, h3⟩ := h.2.2.2.1 e he
    exact ⟨h0, ⟨st, nc, gs, cu, w, sa, ts, cf, c1, c2, c3, c4, ⟨w1, w2, w3⟩, ⟨f1, f2, by omega⟩, c7, c8, fun hh => ⟨(j1 hh).1, hw (by rw [w2, hh]) sa f2 f3⟩, k, l1⟩, h2, h3⟩
  · rw [htd e hed]
    exact h.2.2.2.1 e he
theorem sim_end {K : Nat → Nat → Nat} {M tm d s : Nat} {td td2 : Nat → Nat} {S R : xs_T} (h : RelT K M tm td S R) (hM : M ≤ 600) (hd : d < 3) (htd : ∀ e, e ≠ d → td2 e = td e) (h1 : td d + 1 = tm) (h2 : td2 d = tm) (hs : S.1 1 3 = nI s) (hs2 : s + 1 ≤ 400 * M) :
    ∃ S2 R2, xf_D_endWaiting (53 + 24 * d) 1 (nI tm) S = some S2 ∧ xf_R_timeOut 200 (nI d) R = some R2 ∧ RelT K M tm td2 S2 R2 ∧ xs_ag (fun q => 119 ≤ q) S S2 ∧ xs_ag (fun q => q < 200) R R2 ∧ (∃ s2, S2.1 1 3 = nI s2 ∧ s2 ≤ s + 1) := by
  obtain ⟨h0, ⟨st, nc, gs, cu, w, sa, ts, cf, ⟨a1, a2, a3⟩, -, -, -, ⟨w1, w2, w3⟩, ⟨f1, f2, f3⟩, ⟨g1, g2, g3⟩, ⟨i1, i2⟩, j1, ⟨n, b, k1, k2, k3, k4⟩, -⟩, hT, -⟩ := h.2.2.2.1 d hd
  have htm := h.2.1.1.2.2
  have r13 : xs_rd R (200 + 13) (nI d) = some (nI w) := by
    rw [x_rd (k := 200 + 13) (show d < 3 from hd)]
    exact congrArg some w2
  have r14 : xs_rd R (200 + 14) (nI d) = some (nI sa) := by
    rw [x_rd (k := 200 + 14) (show d < 3 from hd)]
    exact congrArg some f2
  unfold xf_D_endWaiting xf_R_timeOut
  rw [show xs_gI S (53 + 24 * d) 11 = nI w from w1, r13, Option.bind_some, show xs_gI S (53 + 24 * d) 12 = nI sa from f1, r14, Option.bind_some, show xs_gI R 200 8 = nI tm from h.2.1.1.2.1, show nI sa + 3 = nI (sa + 3) from nI_add sa 3]
  rcases (show w = 0 ∨ w = 1 by omega) with rfl | rfl
  · rw [if_pos (show nI 0 = 0 from rfl), if_pos (show nI 0 = 0 from rfl)]
    exact ⟨S, R, rfl, rfl, relUp h hd htd (by omega) (fun e => absurd (w2.symm.trans e) (by decide)), ag_rf, ag_rf, s, hs, by omega⟩
  rw [if_neg (show ¬ nI 1 = 0 by decide), if_neg (show ¬ nI 1 = 0 by decide)]
  obtain ⟨hst1, hsa⟩ := j1 rfl
  by_cases hend : tm = sa + 3
  rotate_left
  · rw [if_neg (show ¬ nI (sa + 3) ≤ nI tm from nI_ge (by omega) (by omega)), if_neg (show ¬ nI tm = nI (sa + 3) from fun e => hend ((nI_eq (by omega) (by omega)).mp e))]
    refine ⟨S, R, rfl, rfl, relUp h hd htd (by omega) (fun _ sa' hsa' hle => ?_), ag_rf, ag_rf, s, hs, by omega⟩
    have : sa' = sa := (nI_eq (by omega) (by omega)).mp (hsa'.symm.trans f2)
    omega
  rw [if_pos (show nI (sa + 3) ≤ nI tm from nI_le (by omega) (by omega)), if_pos (show nI tm = nI (sa + 3) by rw [hend]), z_s0, Option.bind_some, z_wr0 (k := 200 + 13) (show d < 3 from hd), Option.bind_some]
  have h3 := st_w0 (M := M) htd (by omega) h (Nat.le_refl M) hd
  have p3 : ∀ j, j ≠ 11 → (xs_sI S (53 + 24 * d) 11 0).1 (53 + 24 * d) j = S.1 (53 + 24 * d) j := fun j hj => x_fN hj
  have q3 : xs_eq [213] R (xs_sI R (200 + 13) d 0) := e_sI (by decide)
  have agS3 : xs_ag (fun q => q ≠ 53 + 24 * d) S (xs_sI S (53 + 24 * d) 11 0) := ag_sI fun q hq => hq
  have w3' : (xs_sI R (200 + 13) d 0).1 213 d = nI 0 := x_fI
  have s3 : (xs_sI S (53 + 24 * d) 11 0).1 1 3 = nI s := by
    rw [x_fP (by omega)]
    exact hs
  change RelT K M tm td2 _ (xs_sI R (200 + 13) d 0) at h3
  generalize xs_sI S (53 + 24 * d) 11 0 = S3 at h3 p3 agS3 s3 ⊢
  generalize xs_sI R (200 + 13) d 0 = R3 at h3 q3 w3' ⊢
  have agR3 : xs_ag (fun q => q < 200) R R3 := ag_eq q3 fun q hq => by simp; omega
  have agS3' : xs_ag (fun q => 119 ≤ q) S S3 := ag_mono agS3 fun q hq => by omega
  have r12 : xs_rd R3 (200 + 12) (nI d) = some (nI st) := by
    rw [x_rd (k := 200 + 12) (show d < 3 from hd), q3.1 (200 + 12) (by decide)]
    exact congrArg some a2
  rw [show ∀ f : xs_T → Option xs_T, (some R3).bind f = f R3 from fun _ => rfl, show xs_gI S3 (53 + 24 * d) 6 = nI st from (p3 6 (by decide)).trans a1, r12, show ∀ f : Int32 → Option xs_T, (some (nI st)).bind f = f (nI st) from fun _ => rfl]
  rcases (show st = 1 ∨ st = 2 by omega) with rfl | rfl
  · rw [if_pos (show nI 1 = 1 from rfl), if_pos (show nI 1 = 1 from rfl), x_wr (k := 200 + 12) (show d < 3 from hd), Option.bind_some]
    exact ⟨_, _, rfl, rfl, st_s0 w3' h3 (Nat.le_refl M) hd, ag_tr agS3' (ag_sI fun q hq => by omega), ag_tr agR3 (ag_sI fun q hq => by omega), s, by rw [x_fP (by omega)]; exact s3, by omega⟩
  rw [if_neg (show ¬ nI 2 = 1 by decide), if_neg (show ¬ nI 2 = 1 by decide), show xs_gI S3 (53 + 24 * d) 14 = nI cf from (p3 14 (by decide)).trans i1]
  have ecf : xf_R_confirmed 200 (nI d) R3 = some (nI cf) := r_conf hd (by rw [q3.1 212 (by decide)]; exact a2) (e_rfr q3 (by decide) (by decide) k2) (k4 (by decide)).1 i2 (k4 (by decide)).2
  rw [ecf, show ∀ f : Int32 → Option xs_T, (some (nI cf)).bind f = f (nI cf) from fun _ => rfl]
  have e72 : xf_D_endWaiting_72 (53 + 24 * d) 1 (nI tm) S3 = if nI cf = 0 then some S3 else (xf_D_transmit (53 + 24 * d) 1 (nI tm) S3).bind fun q7 => some q7 := by
    unfold xf_D_endWaiting_72
    rw [show xs_gI S3 (53 + 24 * d) 14 = nI cf from (p3 14 (by decide)).trans i1]
  have e94 : xf_R_timeOut_94 200 (nI d) R3 = if nI cf = 0 then some R3 else (xf_R_transmit 200 (nI d) R3).bind fun q12 => some q12 := by
    unfold xf_R_timeOut_94
    rw [ecf, Option.bind_some]
  rw [e72, e94]
  rcases (show cf = 0 ∨ cf = 1 by omega) with rfl | rfl
  · rw [if_pos (show nI 0 = 0 from rfl), if_pos (show nI 0 = 0 from rfl), if_pos (show nI 0 = 0 from rfl), if_pos (show nI 0 = 0 from rfl)]
    exact ⟨S3, R3, rfl, rfl, h3, agS3', agR3, s, s3, by omega⟩
  have n10 : ¬ nI 1 = 0 := by decide
  rw [if_neg n10, if_neg n10, if_neg n10, if_neg n10, show xs_gI S3 (53 + 24 * d) 13 = nI ts from (p3 13 (by decide)).trans g1, x_rd (k := 200 + 15) (show d < 3 from hd), show ∀ f : Int32 → Option xs_T, (some (R3.1 (200 + 15) d)).bind f = f (R3.1 (200 + 15) d) from fun _ => rfl, show R3.1 (200 + 15) d = nI ts by
    rw [q3.1 (200 + 15) (by decide)]
    exact g2]
  by_cases hts : ts = 4
  rotate_left
  · rw [if_pos (show nI ts < 4 from nI_lt (b := 4) (by omega) (by decide)), if_neg (show ¬ nI ts = 4 from fun e => hts ((nI_eq (b := 4) (by omega) (by decide)).mp e))]
    obtain ⟨S4, R4, z1, z2, z3, z4, z5, -, -, -, s', z6, z7⟩ := sim_dtxT (ts := ts) (st := 2) h3 hd h2 hM ⟨s, s3, hs2⟩ (fun n' b' c => by
      have e := (agS3 (67 + 24 * d) (by omega)).1
      have e9 : nI n' = nI n := c.1.symm.trans (by rw [e]; exact k1.1)
      have := (nI_eq (by have := c.2.1; omega) (by have := k1.2.1; omega)).mp e9
      have := (k3 rfl).1
      omega) (by rw [(agS3 (67 + 24 * d) (by omega)).1]; exact (k3 rfl).2.1) ((p3 13 (by decide)).trans g1) (by omega) ((p3 6 (by decide)).trans a1) (by decide) (by decide)
    rw [z1, Option.bind_some, z2, Option.bind_some]
    exact ⟨S4, R4, rfl, rfl, z3, ag_tr agS3' z4, ag_tr agR3 z5, s + 1, z7.trans (by rw [← nI_1 s', ← z6, s3, nI_1]), Nat.le_refl _⟩
  rw [if_neg (show ¬ nI ts < 4 by rw [hts]; decide), if_pos (show nI ts = 4 by rw [hts]; rfl), x_wr (k := 200 + 12) (show d < 3 from hd), show (3 : Int32) * nI d = nI (3 * d) from pk_mul 3 d, show nI (3 * d) + 1 = nI (3 * d + 1) from nI_1 _]
  simp only [Option.bind_some]
  rw [x_rd (k := 200 + 36) (show 3 * d + 1 < 9 by omega)]
  simp only [Option.bind_some]
  rw [x_wr (k := 200 + 36) (show 3 * d + 1 < 9 by omega)]
  simp only [Option.bind_some]
  have h4 := st_s0 w3' h3 (Nat.le_refl M) hd
  have ev : (xs_sI R3 (200 + 12) d 0).1 (200 + 36) (3 * d + 1) = xs_gI (xs_sI S3 (53 + 24 * d) 6 0) (53 + 24 * d) 16 := by
    show _ = (xs_sI S3 (53 + 24 * d) 6 0).1 (53 + 24 * d) 16
    rw [x_fP (by decide), q3.1 (200 + 36) (by decide), x_fN (by decide), p3 16 (by decide)]
    exact (hT 1 (by decide)).symm
  rw [ev]
  exact ⟨_, _, rfl, rfl, st_t (t := 1) (by decide) h4 (Nat.le_refl M) hd, ag_tr agS3' (ag_tr (ag_sI fun q hq => by omega) (ag_sI fun q hq => by omega)), ag_tr agR3 (ag_tr (ag_sI fun q hq => by omega) (ag_sI fun q hq => by omega)), s, by rw [x_fP (by omega), x_fP (by omega)]; exact s3, by omega⟩
