/-! calls that write: skip, queue, spoil, lose, replay -/
def Sim (K : Nat → Nat → Nat) (N tm : Nat) (S R : xs_T) (c r : Option (Int32 × xs_T)) : Prop := ∃ v S2 R2 tm2, c = some (v, S2) ∧ r = some (v, R2) ∧ Rel K (N + 1) tm2 S2 R2 ∧ xs_ag (fun q => 200 ≤ q) S S2 ∧ xs_ag (fun q => q < 200) R R2
theorem sim_no {K : Nat → Nat → Nat} {N tm : Nat} {S R : xs_T} (h : Rel K N tm S R) {v : Int32} {c r : Option (Int32 × xs_T)} (hc : c = some (v, S)) (hr : r = some (v, R)) : Sim K N tm S R c r := ⟨v, S, R, tm, hc, hr, Rel_fr h (by omega) ag_rf ag_rf, ag_rf, ag_rf⟩
theorem ag_sI {S : xs_T} {k j : Nat} {v : Int32} {p : Nat → Prop} (h : ∀ q, p q → q ≠ k) : xs_ag p S (xs_sI S k j v) := fun q hq => ⟨x_fP (h q hq), rfl, rfl⟩
theorem ag_sL {S : xs_T} {k j : Nat} {v : Int64} {p : Nat → Prop} (h : ∀ q, p q → q ≠ k) : xs_ag p S (xs_sL S k j v) := fun q hq => ⟨rfl, xs_up_ne (h q hq), rfl⟩
theorem agD_ne {R T : xs_T} {d : Nat} {ps : List Nat} (h : xs_eq ps R T) (hp : ∀ q ∈ ps, q ≠ 207 ∧ q ≠ 209 ∧ q ≠ 210 ∧ q ≠ 211 ∧ q ≠ 234 ∧ q ≠ 236 ∧ (q < 212 ∨ 220 < q)) : agD d R T := by
  have r : ∀ q, q ∉ ps → T.1 q = R.1 q := h.1
  have r2 : T.2 = R.2 := h.2
  exact ⟨fun q h1 h2 => by rw [r q (fun hq => by have := hp q hq; omega)], fun j _ => by rw [r 236 (fun hq => by have := hp _ hq; omega)], by rw [r 234 (fun hq => by have := hp _ hq; omega)], fun j _ => by rw [r2], ⟨fun j _ => by rw [r 209 (fun hq => by have := hp _ hq; omega)], by rw [r 210 (fun hq => by have := hp _ hq; omega)], by rw [r 211 (fun hq => by have := hp _ hq; omega)]⟩, fun j _ => by rw [r 207 (fun hq => by have := hp _ hq; omega)]⟩
theorem agK_ne {R T : xs_T} {d : Nat} {ps : List Nat} (h : xs_eq ps R T) (hp : ∀ q ∈ ps, q ≠ 207 ∧ q ≠ 232 ∧ q ≠ 233 ∧ q ≠ 234 ∧ (q < 221 ∨ 230 < q)) : agK d R T := by
  have r : ∀ q, q ∉ ps → T.1 q = R.1 q := h.1
  have r2 : T.2 = R.2 := h.2
  exact ⟨fun q h1 h2 => by rw [r q (fun hq => by have := hp q hq; omega)], by rw [r 233 (fun hq => by have := hp _ hq; omega)], fun j _ => ⟨by rw [r2], by rw [r 232 (fun hq => by have := hp _ hq; omega)]⟩, by rw [r 234 (fun hq => by have := hp _ hq; omega)], fun j _ => by rw [r2], fun j _ => by rw [r 207 (fun hq => by have := hp _ hq; omega)]⟩
theorem agA_ne {R T : xs_T} {ps : List Nat} (h : xs_eq ps R T) (hp : ∀ q ∈ ps, q ≠ 200 ∧ q ≠ 209 ∧ q ≠ 210 ∧ q ≠ 211) : agA R T := by
  have r : ∀ q, q ∉ ps → T.1 q = R.1 q := h.1
  have n : ∀ q, (q = 200 ∨ q = 209 ∨ q = 210 ∨ q = 211) → T.1 q = R.1 q := fun q hq => r q (fun h => by have := hp q h; omega)
  exact ⟨by rw [n 200 (by omega)], by rw [n 200 (by omega)], fun f _ => ⟨fun j _ => by rw [n 209 (by omega)], by rw [n 210 (by omega)], by rw [n 211 (by omega)]⟩⟩
theorem agT_ne {R T : xs_T} {ps : List Nat} (h : xs_eq ps R T) (hp : ∀ q ∈ ps, q ≠ 201 ∧ q ≠ 202 ∧ q ≠ 207) : agT R T := by
  have n : ∀ q, (q = 201 ∨ q = 202 ∨ q = 207) → T.1 q = R.1 q := fun q hq => h.1 q (fun h => by have := hp q h; omega)
  exact ⟨n 201 (by omega), n 202 (by omega), fun j _ => by rw [n 207 (by omega)]⟩
theorem agG_ne {R T : xs_T} {ps : List Nat} (h : xs_eq ps R T) (hp : ∀ q ∈ ps, q ≠ 200) : agG R T := by
  have n : T.1 200 = R.1 200 := h.1 200 (fun h => hp 200 h rfl)
  exact ⟨by rw [n], by rw [n]⟩
/-- one device changed, and what belongs to it in the reference -/
theorem relOneD {K : Nat → Nat → Nat} {N M tm d : Nat} {S S2 R R2 : xs_T} (h : Rel K N tm S R) (hNM : N ≤ M) (hd : d < 3) (hS : xs_ag (fun q => q < 53 + 24 * d ∨ 71 + 24 * d ≤ q) S S2) (hT : agT R R2) (hG : agG R R2) (hA : agA R R2) (hD : ∀ e, e < 3 → e ≠ d → agD e R R2) (hK : ∀ e, e < 3 → agK e R R2) (hn : relD M tm d S2 R2) : Rel K M tm S2 R2 := by
  refine ⟨relT_fr h.1 (ag_mono hS fun q hq => ?_) hT, relG_fr h.2.1 hNM (ag_mono hS fun q hq => by omega) hG, relA_fr h.2.2.1 hNM (ag_mono hS fun q hq => by omega) hA, fun e he => ?_, fun e he => relK_fr (h.2.2.2.2 e he) hNM (ag_mono hS fun q hq => by omega) (hK e he)⟩
  · obtain ⟨e, he, h1, h2⟩ := hq
    show q < 53 + 24 * d ∨ 71 + 24 * d ≤ q
    omega
  · by_cases hed : e = d
    · subst hed
      exact hn
    · exact relD_fr (h.2.2.2.1 e he) hNM (Nat.le_refl _) (ag_mono hS fun q hq => by omega) (hD e he hed)
/-- one account changed -/
theorem relOneK {K : Nat → Nat → Nat} {N M tm d : Nat} {S S2 R R2 : xs_T} (h : Rel K N tm S R) (hNM : N ≤ M) (hd : d < 3) (hS : xs_ag (fun q => q < 123 + 16 * d ∨ 139 + 16 * d ≤ q) S S2) (hT : agT R R2) (hG : agG R R2) (hA : agA R R2) (hD : ∀ e, e < 3 → agD e R R2) (hK : ∀ e, e < 3 → e ≠ d → agK e R R2) (hn : relK M d S2 R2) : Rel K M tm S2 R2 := by
  refine ⟨relT_fr h.1 (ag_mono hS fun q hq => ?_) hT, relG_fr h.2.1 hNM (ag_mono hS fun q hq => by omega) hG, relA_fr h.2.2.1 hNM (ag_mono hS fun q hq => by omega) hA, fun e he => relD_fr (h.2.2.2.1 e he) hNM (Nat.le_refl _) (ag_mono hS fun q hq => by omega) (hD e he), fun e he => ?_⟩
  · obtain ⟨e, he, h1, h2⟩ := hq
    show q < 123 + 16 * d ∨ 139 + 16 * d ≤ q
    omega
  · by_cases hed : e = d
    · subst hed
      exact hn
    · exact relK_fr (h.2.2.2.2 e he) hNM (ag_mono hS fun q hq => by omega) (hK e he hed)
theorem n_cs (x : Int32) (lo hi : Nat) (hlo : lo < 2 ^ 31) (hhi : hi < 2 ^ 31) (h1 : ¬ x < nI lo) (h2 : x ≤ nI hi) : ∃ n, lo ≤ n ∧ n ≤ hi ∧ x = nI n := by
  rw [Int32.lt_iff_toInt_lt, nI_toInt hlo] at h1
  rw [Int32.le_iff_toInt_le, nI_toInt hhi] at h2
  obtain ⟨j, hj, rfl⟩ := nI_of (x := x) (by rw [Int32.lt_iff_toInt_lt]; show ¬ x.toInt < 0; omega)
  rw [nI_toInt hj] at h1 h2
  exact ⟨j, by omega, by omega, rfl⟩
theorem q_free {S : xs_T} {k st w : Nat} (a1 : S.1 k 6 = nI st) (a3 : st ≤ 2) (w1 : S.1 k 11 = nI w) (w3 : w ≤ 1) : xf_D_isFree k S = some (if st = 2 ∧ w = 0 then 1 else 0) := by
  unfold xf_D_isFree
  rw [show xs_gI S k 6 = nI st from a1, show xs_gI S k 11 = nI w from w1]
  by_cases hst : st = 2
  · rw [if_pos (show nI st = 2 by rw [hst]; rfl)]
    by_cases hw : w = 0
    · rw [if_pos (show nI w = 0 by rw [hw]; rfl), if_pos ⟨hst, hw⟩]
      rfl
    · rw [if_neg (show ¬ nI w = 0 from nI_ne0 (by omega) (by omega)), if_neg (fun hh => hw hh.2)]
      rfl
  · rw [if_neg (show ¬ nI st = 2 from fun e => hst ((nI_eq (b := 2) (by omega) (by decide)).mp e)), if_neg (fun hh => hst hh.1)]
    rfl
theorem i10 : ¬ (1 : Int32) = 0 := by decide
theorem sim_skip {K : Nat → Nat → Nat} {N tm : Nat} {S R : xs_T} (h : Rel K N tm S R) (hN : N ≤ 512) (x y : Int32) : Sim K N tm S R (xf_W_skip 0 x y S) (xf_R_skip 200 x y R) := by
  unfold xf_W_skip xf_R_skip
  rcases q_dev x with ⟨e1, e2⟩ | ⟨d, hd, rfl, e1, e2⟩
  · rw [e1, e2, Option.bind_some, Option.bind_some, if_pos rfl, if_pos rfl]
    exact sim_no h rfl rfl
  obtain ⟨h0, ⟨st, nc, gs, cu, w, sa, ts, cf, ⟨a1, a2, a3⟩, ⟨b1, b2, b3⟩, ⟨c1, c2, c3⟩, ⟨d1, d2, d3⟩, ⟨w1, w2, w3⟩, ⟨f1, f2, f3⟩, ⟨g1, g2, g3⟩, ⟨i1, i2⟩, j1, ⟨n, b, k1, k2, k3, k4⟩, l1⟩, h2, h3⟩ := h.2.2.2.1 d hd
  have fr : xf_D_isFree (53 + 24 * d) S = some (if st = 2 ∧ w = 0 then 1 else 0) := q_free a1 a3 w1 w3
  rw [e1, e2, q_rdD h.2.1 hd]
  simp only [Option.bind_some]
  rw [if_neg i10, if_neg i10, fr, x_rd (k := 200 + 12) (show d < 3 from hd), show R.1 (200 + 12) d = nI st from a2]
  simp only [Option.bind_some]
  by_cases hst : st = 2
  rotate_left
  · rw [if_neg (show ¬ (st = 2 ∧ w = 0) from fun hh => hst hh.1), if_pos rfl, if_neg (show ¬ nI st = 2 from fun e => hst ((nI_eq (b := 2) (by omega) (by decide)).mp e))]
    exact sim_no h rfl rfl
  rw [if_pos (show nI st = 2 by rw [hst]; rfl), x_rd (k := 200 + 13) (show d < 3 from hd), show R.1 (200 + 13) d = nI w from w2]
  simp only [Option.bind_some]
  by_cases hw : w = 0
  rotate_left
  · rw [if_neg (show ¬ (st = 2 ∧ w = 0) from fun hh => hw hh.2), if_pos rfl, if_neg (show ¬ nI w = 0 from nI_ne0 (by omega) (by omega))]
    exact sim_no h rfl rfl
  rw [if_pos (show st = 2 ∧ w = 0 from ⟨hst, hw⟩), if_neg i10, if_pos (show nI w = 0 by rw [hw]; rfl)]
  by_cases hy1 : y < 1
  · rw [if_pos hy1, if_pos hy1]
    exact sim_no h rfl rfl
  rw [if_neg hy1, if_neg hy1]
  by_cases hy2 : y ≤ 70000
  rotate_left
  · rw [if_neg hy2, if_neg hy2]
    exact sim_no h rfl rfl
  obtain ⟨k, hk1, hk2, rfl⟩ := n_cs y 1 70000 (by decide) (by decide) hy1 hy2
  rw [if_pos hy2, if_pos hy2, show xs_gI S (53 + 24 * d) 9 = nI cu from d1, x_rd (k := 200 + 19) (show d < 3 from hd), show R.1 (200 + 19) d = nI cu from d2]
  simp only [Option.bind_some]
  rw [nI_add cu k, x_wr (k := 200 + 19) (show d < 3 from hd)]
  simp only [Option.bind_some]
  rw [x_rd (k := 200 + 19) (show d < 3 from hd)]
  simp only [Option.bind_some]
  have eD : xs_rdU (xs_sI S (53 + 24 * d) 9 (nI (cu + k))) (0 + 44) (nI d) xs_cD = some (53 + 24 * d) := q_rdD (relG_fr h.2.1 (Nat.le_refl N) (ag_sI fun q hq => by omega) ⟨rfl, rfl⟩) hd
  rw [eD, Option.bind_some]
  have eS : ∀ j, j ≠ 9 → (xs_sI S (53 + 24 * d) 9 (nI (cu + k))).1 (53 + 24 * d) j = S.1 (53 + 24 * d) j := fun j hj => x_fN hj
  have eR : ∀ q, q ≠ 219 → (xs_sI R (200 + 19) d (nI (cu + k))).1 q = R.1 q := fun q hq => x_fP hq
  have agR : xs_eq [219] R (xs_sI R (200 + 19) d (nI (cu + k))) := e_sI (by decide)
  refine ⟨nI (cu + k), _, _, tm, congrArg (fun z => some (z, _)) x_fI, congrArg (fun z => some (z, _)) x_fI, relOneD h (Nat.le_succ N) hd (ag_sI fun q hq => by omega) (agT_ne agR (by decide)) (agG_ne agR (by decide)) (agA_ne agR (by decide)) (fun e he hed => ?_) (fun e he => agK_ne agR (by decide)) ?_, ag_sI fun q hq => by omega, ag_sI fun q hq => by omega⟩
  · refine ⟨fun q h1 h2 => ?_, fun j _ => by rw [eR 236 (by decide)], by rw [eR 234 (by decide)], fun j _ => rfl, ⟨fun j _ => by rw [eR 209 (by decide)], by rw [eR 210 (by decide)], by rw [eR 211 (by decide)]⟩, fun j _ => by rw [eR 207 (by decide)]⟩
    by_cases hq : q = 219
    · subst hq
      exact x_fN hed
    · rw [eR q hq]
  · have agS : xs_ag (fun q => q ≠ 53 + 24 * d) S (xs_sI S (53 + 24 * d) 9 (nI (cu + k))) := ag_sI fun q hq => hq
    refine ⟨by rw [eS 0 (by decide)]; exact h0, ⟨st, nc, gs, cu + k, w, sa, ts, cf, ⟨by rw [eS 6 (by decide)]; exact a1, by rw [eR 212 (by decide)]; exact a2, a3⟩, ⟨by rw [eS 7 (by decide)]; exact b1, by rw [eR 216 (by decide)]; exact b2, by omega⟩, ⟨by rw [eS 8 (by decide)]; exact c1, by rw [eR 217 (by decide)]; exact c2, c3⟩, ⟨x_fI, x_fI, by omega⟩, ⟨by rw [eS 11 (by decide)]; exact w1, by rw [eR 213 (by decide)]; exact w2, w3⟩, ⟨by rw [eS 12 (by decide)]; exact f1, by rw [eR 214 (by decide)]; exact f2, f3⟩, ⟨by rw [eS 13 (by decide)]; exact g1, by rw [eR 215 (by decide)]; exact g2, g3⟩, ⟨by rw [eS 14 (by decide)]; exact i1, i2⟩, j1, ⟨n, b, ag_cf agS (by omega) (by omega) k1, agF_rf ⟨fun j _ => by rw [eR 209 (by decide)], by rw [eR 210 (by decide)], by rw [eR 211 (by decide)]⟩ k2, fun hw => ⟨(k3 hw).1, by rw [x_fP (by omega)]; exact (k3 hw).2.1, by rw [eR 211 (by decide)]; exact (k3 hw).2.2⟩, k4⟩, fun hs => ?_⟩, fun j hj => by rw [eS _ (by omega), eR 236 (by decide)]; exact h2 j hj, relI_fr h3 (by omega) agS (by omega) (by omega) (by rw [eR 234 (by decide)]) (fun j _ => rfl)⟩
    obtain ⟨⟨m, m1, m2⟩, m3, m4⟩ := l1 hs
    exact ⟨⟨m, by rw [eS 10 (by decide)]; exact m1, by omega⟩, by rw [eS 10 (by decide), eR 220 (by decide)]; exact m3, relS_fr m4 (fun a ha => by rw [eR 218 (by decide)]; exact ha) agS (by omega) (by omega) (by omega) (by omega) (by omega) (fun j _ => by rw [eR 207 (by decide)])⟩
theorem x_lF {S : xs_T} {k j : Nat} {v : Int64} : (xs_sL S k j v).2.1 k j = v := by
  show va_up S.2.1 k _ k j = v
  rw [xs_up_eq, pk_uLs]
theorem x_lN {S : xs_T} {k j i : Nat} {v : Int64} (h : i ≠ j) : (xs_sL S k j v).2.1 k i = S.2.1 k i := by
  show va_up S.2.1 k _ k i = _
  rw [xs_up_eq, pk_uLn h]
theorem sim_queue {K : Nat → Nat → Nat} {N tm : Nat} {S R : xs_T} (h : Rel K N tm S R) (x : Int32) (P : Int64) (y : Int32) : Sim K N tm S R (xf_W_queue 0 x P y S) (xf_R_queue 200 x P y R) := by
  rcases q_dev x with ⟨e1, e2⟩ | ⟨d, hd, rfl, e1, e2⟩
  · exact sim_no (v := -1) h (by unfold xf_W_queue; rw [e1, Option.bind_some, if_pos rfl]) (by unfold xf_R_queue; rw [e2, Option.bind_some, if_pos rfl])
  obtain ⟨h0, ⟨q, ss, sr, gn, gw, du, ak, ck, ⟨a1, a2, a3⟩, ⟨b1, b2, b3⟩, ⟨c1, c2, c3⟩, ⟨d1, d2, d3⟩, ⟨g1, g2, g3⟩, ⟨f1, f2, f3⟩, ⟨k1, k2, k3, k4⟩, ⟨i1, i2, i3, i4⟩, j1, l1, m1⟩, h3⟩ := h.2.2.2.2 d hd
  by_cases hy1 : y < 1
  · exact sim_no (v := -1) h (by unfold xf_W_queue; rw [e1, Option.bind_some, if_neg i10, if_pos hy1]) (by unfold xf_R_queue; rw [e2, Option.bind_some, if_neg i10, if_pos hy1])
  by_cases hy2 : y ≤ 8
  rotate_left
  · exact sim_no (v := -1) h (by unfold xf_W_queue; rw [e1, Option.bind_some, if_neg i10, if_neg hy1, if_neg hy2]) (by unfold xf_R_queue; rw [e2, Option.bind_some, if_neg i10, if_neg hy1, if_pos (Int32.not_le.mp hy2)])
  have hy3 : ¬ (8 : Int32) < y := fun hh => Int32.not_le.mpr hh hy2
  obtain ⟨k, hk1, hk2, rfl⟩ := n_cs y 1 8 (by decide) (by decide) hy1 hy2
  have er : xs_rd R (200 + 33) (nI d) = some (nI q) := by
    rw [x_rd (k := 200 + 33) (show d < 3 from hd)]
    exact congrArg some a2
  by_cases hq : q = 4
  · subst hq
    exact sim_no (v := -1) h (by unfold xf_W_queue xf_K_enqueue; rw [e1, Option.bind_some, if_neg i10, if_neg hy1, if_pos hy2, q_rdK h.2.1 hd, Option.bind_some, if_pos (show xs_gI S (123 + 16 * d) 6 = 4 from a1)]; rfl) (by unfold xf_R_queue; rw [e2, Option.bind_some, if_neg i10, if_neg hy1, if_neg hy3, er, Option.bind_some, if_pos (show nI 4 = 4 from rfl)])
  have hq4 : ¬ nI q = 4 := fun e => hq ((nI_eq (b := 4) (by omega) (by decide)).mp e)
  have hql : q < 4 := by omega
  have l14 := (by decide +kernel : ∀ d, d < 3 → xs_ln (123 + 16 * d + 14) = 4 ∧ xs_ln (123 + 16 * d + 15) = 4) d hd
  have ec : xf_W_queue 0 (nI d) P (nI k) S = some (nI (q + 1), xs_sI (xs_sI (xs_sL S (123 + 16 * d + 14) q P) (123 + 16 * d + 15) q (nI k)) (123 + 16 * d) 6 (nI (q + 1))) := by
    unfold xf_W_queue xf_K_enqueue
    rw [e1, Option.bind_some, if_neg i10, if_neg hy1, if_pos hy2, q_rdK h.2.1 hd, Option.bind_some, show xs_gI S (123 + 16 * d) 6 = nI q from a1, if_neg hq4, x_wrL (by omega), Option.bind_some, show xs_gI (xs_sL S (123 + 16 * d + 14) q P) (123 + 16 * d) 6 = nI q from a1, x_wr (by omega), Option.bind_some, Option.bind_some,
      show xs_gI (xs_sI (xs_sL S (123 + 16 * d + 14) q P) (123 + 16 * d + 15) q (nI k)) (123 + 16 * d) 6 = nI q by
        show (xs_sI (xs_sL S (123 + 16 * d + 14) q P) (123 + 16 * d + 15) q (nI k)).1 (123 + 16 * d) 6 = _
        rw [x_fP (by omega)]
        exact a1, nI_1, Option.bind_some]
    exact congrArg (fun z => some (z, _)) x_fI
  have er2 : xf_R_queue 200 (nI d) P (nI k) R = some (nI (q + 1), xs_sI (xs_sI (xs_sL R 231 (4 * d + q) P) 232 (4 * d + q) (nI k)) 233 d (nI (q + 1))) := by
    unfold xf_R_queue
    have r3 : ∀ T : xs_T, T.1 233 d = nI q → xs_rd T (200 + 33) (nI d) = some (nI q) := fun T hT => by
      rw [x_rd (k := 200 + 33) (show d < 3 from hd)]
      exact congrArg some hT
    rw [e2, Option.bind_some, if_neg i10, if_neg hy1, if_neg hy3, er, Option.bind_some, if_neg hq4, Option.bind_some, show (4 : Int32) * nI d = nI (4 * d) from pk_mul 4 d, nI_add, x_wrL (k := 200 + 31) (show 4 * d + q < 12 by omega), Option.bind_some, r3 (xs_sL R (200 + 31) (4 * d + q) P) a2, Option.bind_some, nI_add, x_wr (k := 200 + 32) (show 4 * d + q < 12 by omega), Option.bind_some, r3 _ (by rw [x_fP (by decide)]; exact a2), Option.bind_some, nI_1, x_wr (k := 200 + 33) (show d < 3 from hd), Option.bind_some, x_rd (k := 200 + 33) (show d < 3 from hd), Option.bind_some]
    exact congrArg (fun z => some (z, _)) x_fI
  generalize hS2 : xs_sI (xs_sI (xs_sL S (123 + 16 * d + 14) q P) (123 + 16 * d + 15) q (nI k)) (123 + 16 * d) 6 (nI (q + 1)) = S2 at ec
  generalize hR2 : xs_sI (xs_sI (xs_sL R 231 (4 * d + q) P) 232 (4 * d + q) (nI k)) 233 d (nI (q + 1)) = R2 at er2
  have agS : xs_ag (fun q => q ≠ 123 + 16 * d ∧ q ≠ 137 + 16 * d ∧ q ≠ 138 + 16 * d) S S2 := by
    rw [← hS2]
    exact ag_tr (ag_tr (ag_sL fun q hq => by omega) (ag_sI fun q hq => by omega)) (ag_sI fun q hq => by omega)
  have agR : xs_ag (fun q => q ≠ 231 ∧ q ≠ 232 ∧ q ≠ 233) R R2 := by
    rw [← hR2]
    exact ag_tr (ag_tr (ag_sL fun q hq => by omega) (ag_sI fun q hq => by omega)) (ag_sI fun q hq => by omega)
  have eS : ∀ j, j ≠ 6 → S2.1 (123 + 16 * d) j = S.1 (123 + 16 * d) j := fun j hj => by
    rw [← hS2, x_fN hj, x_fP (by omega)]
    rfl
  have eR : ∀ q, q ≠ 231 → q ≠ 232 → q ≠ 233 → R2.1 q = R.1 q := fun q h1 h2 h3 => (agR q ⟨h1, h2, h3⟩).1
  have eL : ∀ q, q ≠ 231 → R2.2.1 q = R.2.1 q := fun q h1 => by
    rw [← hR2]
    exact xs_up_ne h1
  refine ⟨nI (q + 1), S2, R2, tm, ec, er2, relOneK h (Nat.le_succ N) hd (ag_mono agS fun q hq => by omega) ⟨eR 201 (by decide) (by decide) (by decide), eR 202 (by decide) (by decide) (by decide), fun j _ => by rw [eR 207 (by decide) (by decide) (by decide)]⟩ ⟨by rw [eR 200 (by decide) (by decide) (by decide)], by rw [eR 200 (by decide) (by decide) (by decide)]⟩ ⟨by rw [eR 200 (by decide) (by decide) (by decide)], by rw [eR 200 (by decide) (by decide) (by decide)], fun f _ => ⟨fun j _ => by rw [eR 209 (by decide) (by decide) (by decide)], by rw [eR 210 (by decide) (by decide) (by decide)], by rw [eR 211 (by decide) (by decide) (by decide)]⟩⟩ (fun e he => ⟨fun q h1 h2 => by rw [eR q (by omega) (by omega) (by omega)], fun j _ => by rw [eR 236 (by decide) (by decide) (by decide)], by rw [eR 234 (by decide) (by decide) (by decide)], fun j _ => by rw [eL 235 (by decide)], ⟨fun j _ => by rw [eR 209 (by decide) (by decide) (by decide)], by rw [eR 210 (by decide) (by decide) (by decide)], by rw [eR 211 (by decide) (by decide) (by decide)]⟩, fun j _ => by rw [eR 207 (by decide) (by decide) (by decide)]⟩) (fun e he hed => ⟨fun q h1 h2 => by rw [eR q (by omega) (by omega) (by omega)], ?_, fun j hj => ⟨?_, ?_⟩, by rw [eR 234 (by decide) (by decide) (by decide)], fun j _ => by rw [eL 235 (by decide)], fun j _ => by rw [eR 207 (by decide) (by decide) (by decide)]⟩) ?_, ag_mono agS fun q hq => by omega, ag_mono agR fun q hq => by omega⟩
  · rw [← hR2, x_fN hed, x_fP (by decide)]
    rfl
  · rw [← hR2]
    exact x_lN (by omega)
  · rw [← hR2, x_fP (by decide), x_fN (by omega)]
    rfl
  · refine ⟨by rw [eS 0 (by decide)]; exact h0, ⟨q + 1, ss, sr, gn, gw, du, ak, ck, ⟨by rw [← hS2]; exact x_fI, by rw [← hR2]; exact x_fI, by omega⟩, ⟨by rw [eS 7 (by decide)]; exact b1, by rw [eR 221 (by decide) (by decide) (by decide)]; exact b2, by omega⟩, ⟨by rw [eS 8 (by decide)]; exact c1, by rw [eR 223 (by decide) (by decide) (by decide)]; exact c2, by omega⟩, ⟨by rw [eS 9 (by decide)]; exact d1, by rw [eS 9 (by decide), eR 226 (by decide) (by decide) (by decide)]; exact d2, d3⟩, ⟨by rw [eS 12 (by decide)]; exact g1, by rw [eR 227 (by decide) (by decide) (by decide)]; exact g2, g3⟩, ⟨by rw [eS 13 (by decide)]; exact f1, by rw [eR 228 (by decide) (by decide) (by decide)]; exact f2, f3⟩, ⟨by rw [eS 14 (by decide)]; exact k1, k2, k3, fun hh => by rw [eR 229 (by decide) (by decide) (by decide)]; exact k4 hh⟩, ⟨by rw [eS 15 (by decide)]; exact i1, i2, i3, fun hh => by rw [eR 230 (by decide) (by decide) (by decide)]; exact i4 hh⟩, j1, fun j hj => ?_, fun hss => ?_⟩, relI_fr h3 (by omega) agS (by omega) (by omega) (by rw [eR 234 (by decide) (by decide) (by decide)]) (fun j _ => by rw [eL 235 (by decide)])⟩
    · by_cases hjq : j = q
      · subst hjq
        refine ⟨?_, k, ?_, ?_, hk1, hk2⟩
        · rw [← hS2, ← hR2, show 137 + 16 * d = 123 + 16 * d + 14 by omega]
          exact Eq.trans x_lF x_lF.symm
        · rw [← hS2, show 138 + 16 * d = 123 + 16 * d + 15 by omega, x_fP (by omega), x_fI]
        · rw [← hR2, x_fP (by decide), x_fI]
      · obtain ⟨x1, z, x2, x3, x4⟩ := l1 j (by omega)
        refine ⟨?_, z, ?_, ?_, x4⟩
        · rw [← hS2, ← hR2, show 137 + 16 * d = 123 + 16 * d + 14 by omega]
          rw [show 137 + 16 * d = 123 + 16 * d + 14 by omega] at x1
          exact Eq.trans (x_lN hjq) (x1.trans (x_lN (by omega)).symm)
        · rw [← hS2, show 138 + 16 * d = 123 + 16 * d + 15 by omega, x_fP (by omega), x_fN hjq]
          rw [show 138 + 16 * d = 123 + 16 * d + 15 by omega] at x2
          exact x2
        · rw [← hR2, x_fP (by decide), x_fN (by omega)]
          exact x3
    · obtain ⟨⟨m, m2, m3⟩, m4, ⟨m', m5, m6, m7⟩, m8⟩ := m1 hss
      exact ⟨⟨m, by rw [eS 10 (by decide)]; exact m2, by omega⟩, by rw [eS 10 (by decide), eR 224 (by decide) (by decide) (by decide)]; exact m4, ⟨m', by rw [eS 11 (by decide)]; exact m5, by rw [eR 225 (by decide) (by decide) (by decide)]; exact m6, by omega⟩, relS_fr m8 (fun a ha => by rw [eR 222 (by decide) (by decide) (by decide)]; exact ha) agS (by omega) (by omega) (by omega) (by omega) (by omega) (fun j _ => by rw [eR 207 (by decide) (by decide) (by decide)])⟩
