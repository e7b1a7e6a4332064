/-! tick -/
def cdA (B : Nat) (S : xs_T) (d : Nat) : Prop := ∀ ss, S.1 (123 + 16 * d) 7 = nI ss → 1 ≤ ss → ss ≤ 600 → ∃ cd, S.1 (123 + 16 * d) 11 = nI cd ∧ cd ≤ B
theorem cdA_h {B d : Nat} {S : xs_T} (h : cdA B S d) : ∃ cd, (∀ ss, S.1 (123 + 16 * d) 7 = nI ss → 1 ≤ ss → ss ≤ 600 → S.1 (123 + 16 * d) 11 = nI cd) ∧ cd ≤ B := by
  by_cases hx : ∃ ss, S.1 (123 + 16 * d) 7 = nI ss ∧ 1 ≤ ss ∧ ss ≤ 600
  · obtain ⟨ss, e1, e2, e3⟩ := hx
    obtain ⟨cd, e4, e5⟩ := h ss e1 e2 e3
    exact ⟨cd, fun _ _ _ _ => e4, e5⟩
  · exact ⟨0, fun ss e1 e2 e3 => absurd ⟨ss, e1, e2, e3⟩ hx, by omega⟩
theorem cdA_eq {B d : Nat} {S T : xs_T} (h : cdA B S d) (e7 : T.1 (123 + 16 * d) 7 = S.1 (123 + 16 * d) 7) (e11 : T.1 (123 + 16 * d) 11 = S.1 (123 + 16 * d) 11) : cdA B T d := fun ss x y z => by
  rw [e11]
  exact h ss (by rw [← e7]; exact x) y z
theorem cdA_up {B d : Nat} {S T : xs_T} (h : cdA B S d) (e7 : T.1 (123 + 16 * d) 7 = S.1 (123 + 16 * d) 7) (hc : ∀ cd, S.1 (123 + 16 * d) 11 = nI cd → ∃ cd2, T.1 (123 + 16 * d) 11 = nI cd2 ∧ cd2 ≤ cd + 1) : cdA (B + 1) T d := fun ss x y z => by
  obtain ⟨cd, e4, e5⟩ := h ss (by rw [← e7]; exact x) y z
  obtain ⟨cd2, e6, e7⟩ := hc cd e4
  exact ⟨cd2, e6, by omega⟩
theorem relTick {K : Nat → Nat → Nat} {N tm : Nat} {td : Nat → Nat} {S R : xs_T} (h : RelT K N tm td S R) (htm : tm + 1 ≤ 50 * N) : RelT K N (tm + 1) td (xs_sI S 0 3 (nI (tm + 1))) (xs_sI R 200 8 (nI (tm + 1))) := by
  have q : xs_eq [200] R (xs_sI R 200 8 (nI (tm + 1))) := e_sI (by decide)
  obtain ⟨hT, ⟨-, ⟨n, b1, b2, b3⟩, c⟩, hA, hD, hK⟩ := h
  refine ⟨relT_fr hT (ag_sI fun q hq => ?_) (agT_ne q (by decide)), ⟨⟨x_fI, x_fI, htm⟩, ⟨n, by rw [x_fP (by decide)]; exact b1, by rw [x_fN (by decide)]; exact b2, b3⟩, c⟩, relA_fr hA (Nat.le_refl N) (ag_sI fun q hq => ?_) ⟨x_fN (by decide), x_fN (by decide), fun f _ => ⟨fun j _ => by rw [x_fP (by decide)], by rw [x_fP (by decide)], by rw [x_fP (by decide)]⟩⟩, fun d hd => relD_fr (hD d hd) (Nat.le_refl N) (Nat.le_refl _) (ag_sI fun q hq => ?_) (agD_ne q (by decide)), fun d hd => relK_fr (hK d hd) (Nat.le_refl N) (ag_sI fun q hq => ?_) (agK_ne q (by decide))⟩
  · obtain ⟨d, hd, h1, h2⟩ := hq
    omega
  · have hq : 1 ≤ q ∧ q < 44 := hq
    omega
  · have hq : 53 + 24 * d ≤ q ∧ q < 71 + 24 * d := hq
    omega
  · have hq : 123 + 16 * d ≤ q ∧ q < 139 + 16 * d := hq
    omega
theorem st43 {N tm d : Nat} {S S2 R : xs_T} (hG : relG N tm S R) (hd : d < 3) (he : xf_D_endWaiting (53 + 24 * d) 1 (nI tm) S = some S2) (n1 : Int32) (c15 : Int32 → xs_T → Option (Int32 × xs_T)) (f : Nat) (x : Int32) : xf_W_tick_43 0 n1 c15 (f + 1) x (nI d) S = xf_W_tick_43 0 n1 c15 f x (nI (d + 1)) S2 := by
  rw [xf_W_tick_43, if_neg (show ¬ (3 : Int32) ≤ nI d from nI_ge (b := 3) hd (by decide)), q_rdD hG hd, Option.bind_some, show xs_gI S 0 3 = nI tm from hG.1.1, show xf_D_endWaiting (53 + 24 * d) (0 + 1) (nI tm) S = some S2 from he, Option.bind_some, nI_1]
theorem st105 {d : Nat} {R R2 : xs_T} (hd : d < 3) (he : xf_R_timeOut 200 (nI d) R = some R2) (n1 : Int32) (c15 : Int32 → xs_T → Option (Int32 × xs_T)) (f : Nat) (x : Int32) : xf_R_tick_105 200 n1 c15 (f + 1) x (nI d) R = xf_R_tick_105 200 n1 c15 f x (nI (d + 1)) R2 := by
  rw [xf_R_tick_105, if_neg (show ¬ (3 : Int32) ≤ nI d from nI_ge (b := 3) hd (by decide)), he, Option.bind_some, nI_1]
theorem sim_step {K : Nat → Nat → Nat} {N tm B s : Nat} {S R : xs_T} (h : RelT K N tm (fun _ => tm) S R) (hM : N ≤ 600) (htm : tm + 1 ≤ 50 * N) (hB : ∀ d, d < 3 → cdA B S d) (hB2 : B + 1 ≤ 50 * N) (hs : S.1 1 3 = nI s) (hs2 : s + 6 ≤ 400 * N) :
    ∃ S2 R2, (∀ n1 f (i : Nat), ¬ n1 ≤ nI i → xf_W_tick_15 0 n1 (f + 1) (nI i) S = xf_W_tick_15 0 n1 f (nI (i + 1)) S2) ∧ (∀ n1 f (i : Nat), ¬ n1 ≤ nI i → xf_R_tick_15 200 n1 (f + 1) (nI i) R = xf_R_tick_15 200 n1 f (nI (i + 1)) R2) ∧ RelT K N (tm + 1) (fun _ => tm + 1) S2 R2 ∧ xs_ag (fun q => 200 ≤ q) S S2 ∧ xs_ag (fun q => q < 200) R R2 ∧ (∀ d, d < 3 → cdA (B + 1) S2 d) ∧ ∃ s2, S2.1 1 3 = nI s2 ∧ s2 ≤ s + 6 := by
  have h0 := relTick h htm
  have ag0S : xs_ag (fun q => 200 ≤ q) S (xs_sI S 0 3 (nI (tm + 1))) := ag_sI fun q hq => by omega
  have ag0R : xs_ag (fun q => q < 200) R (xs_sI R 200 8 (nI (tm + 1))) := ag_sI fun q hq => by omega
  have p0 : ∀ q, q ≠ 0 → (xs_sI S 0 3 (nI (tm + 1))).1 q = S.1 q := fun q hq => x_fP hq
  have gS : ∀ n1 f (i : Nat), ¬ n1 ≤ nI i → xf_W_tick_15 0 n1 (f + 1) (nI i) S = (xf_V_sendWhatIsDue (0 + 119) (0 + 1) (xs_sI S 0 3 (nI (tm + 1)))).bind fun q5 => xf_W_tick_43 0 n1 (xf_W_tick_15 0 n1 f) xs_fuel (nI i) 0 q5 := fun n1 f i hi => by
    rw [xf_W_tick_15, if_neg hi, show xs_gI S 0 3 = nI tm from h.2.1.1.1, nI_1, Option.bind_some]
  have gR : ∀ n1 f (i : Nat), ¬ n1 ≤ nI i → xf_R_tick_15 200 n1 (f + 1) (nI i) R = xf_R_tick_32 200 n1 (xf_R_tick_15 200 n1 f) xs_fuel (nI i) 0 (xs_sI R 200 8 (nI (tm + 1))) := fun n1 f i hi => by
    rw [xf_R_tick_15, if_neg hi, show xs_gI R 200 8 = nI tm from h.2.1.1.2.1, nI_1, Option.bind_some]
  generalize xs_sI S 0 3 (nI (tm + 1)) = S0 at h0 ag0S p0 gS
  generalize xs_sI R 200 8 (nI (tm + 1)) = R0 at h0 ag0R gR
  have k0 : ∀ e, e < 3 → cdA B S0 e := fun e he => cdA_eq (hB e he) (by rw [p0 _ (by omega)]) (by rw [p0 _ (by omega)])
  obtain ⟨S1, R1, a1, b1, h1, ag1S, ag1R, ⟨s1, s1a, s1b⟩, f1, g1, c1⟩ := sim_due (d := 0) (B := B) h0 hM (by decide) (by rw [p0 1 (by decide)]; exact hs) (by omega) (cdA_h (k0 0 (by decide))) hB2
  have k1 : ∀ e, e < 3 → e ≠ 0 → cdA B S1 e := fun e he hn => cdA_eq (k0 e he) (f1 e he) (g1 e he hn)
  have l1 : cdA (B + 1) S1 0 := cdA_up (k0 0 (by decide)) (f1 0 (by decide)) c1
  obtain ⟨S2, R2, a2, b2, h2, ag2S, ag2R, ⟨s2, s2a, s2b⟩, f2, g2, c2⟩ := sim_due (d := 1) (B := B) h1 hM (by decide) s1a (by omega) (cdA_h (k1 1 (by decide) (by decide))) hB2
  have k2 : cdA B S2 2 := cdA_eq (k1 2 (by decide) (by decide)) (f2 2 (by decide)) (g2 2 (by decide) (by decide))
  have l2 : cdA (B + 1) S2 0 := cdA_eq l1 (f2 0 (by decide)) (g2 0 (by decide) (by decide))
  have l2' : cdA (B + 1) S2 1 := cdA_up (k1 1 (by decide) (by decide)) (f2 1 (by decide)) c2
  obtain ⟨S3, R3, a3, b3, h3, ag3S, ag3R, ⟨s3, s3a, s3b⟩, f3, g3, c3⟩ := sim_due (d := 2) (B := B) h2 hM (by decide) s2a (by omega) (cdA_h k2) hB2
  have k3 : ∀ e, e < 3 → cdA (B + 1) S3 e := fun e he => by
    rcases (show e = 0 ∨ e = 1 ∨ e = 2 by omega) with rfl | rfl | rfl
    · exact cdA_eq l2 (f3 0 (by decide)) (g3 0 (by decide) (by decide))
    · exact cdA_eq l2' (f3 1 (by decide)) (g3 1 (by decide) (by decide))
    · exact cdA_up k2 (f3 2 (by decide)) c3
  obtain ⟨S4, R4, a4, b4, h4, ag4S, ag4R, s4, s4a, s4b⟩ := sim_end (d := 0) (td2 := fun e => if e = 0 then tm + 1 else tm) h3 hM (by decide) (fun e he => if_neg he) rfl (if_pos rfl) s3a (by omega)
  obtain ⟨S5, R5, a5, b5, h5, ag5S, ag5R, s5, s5a, s5b⟩ := sim_end (d := 1) (td2 := fun e => if e = 1 then tm + 1 else if e = 0 then tm + 1 else tm) h4 hM (by decide) (fun e he => if_neg he) rfl (if_pos rfl) s4a (by omega)
  obtain ⟨S6, R6, a6, b6, h6, ag6S, ag6R, s6, s6a, s6b⟩ := sim_end (d := 2) (td2 := fun e => if e = 2 then tm + 1 else if e = 1 then tm + 1 else if e = 0 then tm + 1 else tm) h5 hM (by decide) (fun e he => if_neg he) rfl (if_pos rfl) s5a (by omega)
  have agS : xs_ag (fun q => 119 ≤ q) S3 S6 := ag_tr ag4S (ag_tr ag5S ag6S)
  have eV : xf_V_sendWhatIsDue (0 + 119) (0 + 1) S0 = some S3 := by
    have e4 : xf_V_sendWhatIsDue_2 119 1 997 (nI 3) S3 = some S3 := by
      rw [show (997 : Nat) = 996 + 1 from rfl, xf_V_sendWhatIsDue_2, if_pos (show (3 : Int32) ≤ nI 3 by decide)]
    exact (a1 999).trans ((a2 998).trans ((a3 997).trans e4))
  have eT : ∀ n1 f (i : Nat), xf_R_tick_32 200 n1 (xf_R_tick_15 200 n1 f) xs_fuel (nI i) 0 R0 = xf_R_tick_105 200 n1 (xf_R_tick_15 200 n1 f) xs_fuel (nI i) 0 R3 := fun n1 f i => by
    have e4 : xf_R_tick_32 200 n1 (xf_R_tick_15 200 n1 f) 997 (nI i) (nI 3) R3 = xf_R_tick_105 200 n1 (xf_R_tick_15 200 n1 f) xs_fuel (nI i) 0 R3 := by
      rw [show (997 : Nat) = 996 + 1 from rfl, xf_R_tick_32, if_pos (show (3 : Int32) ≤ nI 3 by decide)]
    exact (b1 n1 _ 999 (nI i)).trans ((b2 n1 _ 998 (nI i)).trans ((b3 n1 _ 997 (nI i)).trans e4))
  refine ⟨S6, R6, fun n1 f i hi => ?_, fun n1 f i hi => ?_, ⟨h6.1, h6.2.1, h6.2.2.1, fun e he => ?_, h6.2.2.2.2⟩, ag_tr ag0S (ag_tr ag1S (ag_tr ag2S (ag_tr ag3S (ag_mono agS fun q hq => by omega)))), ag_tr ag0R (ag_tr ag1R (ag_tr ag2R (ag_tr ag3R (ag_tr ag4R (ag_tr ag5R ag6R))))), fun e he => cdA_eq (k3 e he) (by rw [(agS _ (by omega)).1]) (by rw [(agS _ (by omega)).1]), s6, s6a, by omega⟩
  · rw [gS n1 f i hi, eV, Option.bind_some]
    have e4 : xf_W_tick_43 0 n1 (xf_W_tick_15 0 n1 f) 997 (nI i) (nI 3) S6 = xf_W_tick_15 0 n1 f (nI (i + 1)) S6 := by
      rw [show (997 : Nat) = 996 + 1 from rfl, xf_W_tick_43, if_pos (show (3 : Int32) ≤ nI 3 by decide), nI_1]
    exact (st43 h3.2.1 (by decide) a4 n1 _ 999 (nI i)).trans ((st43 h4.2.1 (by decide) a5 n1 _ 998 (nI i)).trans ((st43 h5.2.1 (by decide) a6 n1 _ 997 (nI i)).trans e4))
  · rw [gR n1 f i hi, eT]
    have e4 : xf_R_tick_105 200 n1 (xf_R_tick_15 200 n1 f) 997 (nI i) (nI 3) R6 = xf_R_tick_15 200 n1 f (nI (i + 1)) R6 := by
      rw [show (997 : Nat) = 996 + 1 from rfl, xf_R_tick_105, if_pos (show (3 : Int32) ≤ nI 3 by decide), nI_1]
    exact (st105 (by decide) b4 n1 _ 999 (nI i)).trans ((st105 (by decide) b5 n1 _ 998 (nI i)).trans ((st105 (by decide) b6 n1 _ 997 (nI i)).trans e4))
  · rcases (show e = 0 ∨ e = 1 ∨ e = 2 by omega) with rfl | rfl | rfl
    · exact h6.2.2.2.1 0 (by decide)
    · exact h6.2.2.2.1 1 (by decide)
    · exact h6.2.2.2.1 2 (by decide)
theorem sim_ticks {K : Nat → Nat → Nat} {N n : Nat} (hN : N ≤ 600) (hn : n ≤ 50) : ∀ r i tm B s g (S R : xs_T), i + r = n → RelT K N tm (fun _ => tm) S R → tm + r ≤ 50 * N → (∀ d, d < 3 → cdA B S d) → B + r ≤ 50 * N → S.1 1 3 = nI s → s + 6 * r ≤ 400 * N →
    ∃ S2 R2, xf_W_tick_15 0 (nI n) (r + 1 + g) (nI i) S = some (nI (tm + r), S2) ∧ xf_R_tick_15 200 (nI n) (r + 1 + g) (nI i) R = some (nI (tm + r), R2) ∧ RelT K N (tm + r) (fun _ => tm + r) S2 R2 ∧ xs_ag (fun q => 200 ≤ q) S S2 ∧ xs_ag (fun q => q < 200) R R2 := by
  intro r
  induction r with
  | zero =>
    intro i tm B s g S R hi h _ _ _ _ _
    have hle : nI n ≤ nI i := nI_le (by omega) (by omega)
    refine ⟨S, R, ?_, ?_, h, ag_rf, ag_rf⟩
    · rw [show 0 + 1 + g = g + 1 by omega, xf_W_tick_15, if_pos hle]
      exact congrArg (fun v => some (v, S)) h.2.1.1.1
    · rw [show 0 + 1 + g = g + 1 by omega, xf_R_tick_15, if_pos hle]
      exact congrArg (fun v => some (v, R)) h.2.1.1.2.1
  | succ r ih =>
    intro i tm B s g S R hi h htm hB hB2 hs hs2
    obtain ⟨S1, R1, a1, b1, h1, ag1, ag2, k1, s1, s2, s3⟩ := sim_step h hN (by omega) hB (by omega) hs (by omega)
    obtain ⟨S2, R2, a2, b2, h2, ag3, ag4⟩ := ih (i + 1) (tm + 1) (B + 1) s1 g S1 R1 (by omega) h1 (by omega) k1 (by omega) s2 (by omega)
    have hlt : ¬ nI n ≤ nI i := nI_ge (by omega) (by omega)
    rw [show tm + 1 + r = tm + (r + 1) by omega] at a2 b2 h2
    refine ⟨S2, R2, ?_, ?_, h2, ag_tr ag1 ag3, ag_tr ag2 ag4⟩
    · rw [show r + 1 + 1 + g = r + 1 + g + 1 by omega, a1 _ _ _ hlt]
      exact a2
    · rw [show r + 1 + 1 + g = r + 1 + g + 1 by omega, b1 _ _ _ hlt]
      exact b2
theorem sim_tick {K : Nat → Nat → Nat} {N tm : Nat} {S R : xs_T} (h : Rel K N tm S R) (hN : N < 600) (x : Int32) : Sim K N tm S R (xf_W_tick 0 x S) (xf_R_tick 200 x R) := by
  unfold xf_W_tick xf_R_tick
  by_cases h1 : x < 1
  · exact sim_no h (if_pos h1) (if_pos h1)
  rw [if_neg h1, if_neg h1]
  by_cases h2 : x ≤ 50
  rotate_left
  · exact sim_no h (if_neg h2) (if_neg h2)
  rw [if_pos h2, if_pos h2]
  obtain ⟨n, hn1, hn2, rfl⟩ := n_cs x 1 50 (by decide) (by decide) h1 h2
  have hR : RelT K (N + 1) tm (fun _ => tm) S R := Rel_fr h (Nat.le_succ N) ag_rf ag_rf
  obtain ⟨s, hs, -, hs2, -⟩ := h.2.2.1.2.1
  have htm := h.2.1.1.2.2
  have hB : ∀ d, d < 3 → cdA (50 * N) S d := fun d hd ss e1 e2 e3 => by
    obtain ⟨h0, ⟨q, ss', sr, gn, gw, du, ak, ck, -, ⟨b1, b2, b3⟩, -, -, -, -, -, -, -, -, m1⟩, hI⟩ := h.2.2.2.2 d hd
    have : ss' = ss := (nI_eq (by omega) (by omega)).mp (b1.symm.trans e1)
    obtain ⟨-, -, ⟨m, m2, -, m3⟩, -⟩ := m1 (by omega)
    exact ⟨m, m2, m3⟩
  obtain ⟨S2, R2, z1, z2, z3, z4, z5⟩ := sim_ticks (n := n) (show N + 1 ≤ 600 by omega) hn2 n 0 tm (50 * N) s (999 - n) S R (by omega) hR (by omega) hB (by omega) hs (by omega)
  rw [show n + 1 + (999 - n) = xs_fuel by unfold xs_fuel; omega] at z1 z2
  exact ⟨nI (tm + n), S2, R2, tm + n, z1, z2, z3, z4, z5⟩
