/-! an ACCEPT reaches a device, both ways -/
theorem sim_acc {K : Nat → Nat → Nat} {N tm d a : Nat} {b : Nat → Nat} {S R : xs_T} (h : Rel K N tm S R) (hN : N ≤ 600) (hd : d < 3) (ka : xs_kd a = 2) (hne : ∀ e, e < 3 → a ≠ 69 + 24 * e) (cS : xs_cf S a 17 b) (cR : xs_rf R 23 17 b) (h0 : b 0 = 32) (hst : R.1 212 d = nI 1) :
    ∃ S2 R2, xf_D_takeAccept (53 + 24 * d) a S = some S2 ∧ xf_R_takeAccept 200 (nI d) R = some R2 ∧ Rel K N tm S2 R2 ∧ xs_ag (fun q => 200 ≤ q) S S2 ∧ xs_ag (fun q => q < 200) R R2 := by
  obtain ⟨h00, ⟨st, nc, gs, cu, w, sa, ts, cf, ⟨a1, a2, a3⟩, ⟨b1, b2, b3⟩, ⟨c1, c2, c3⟩, ⟨d1, d2, d3⟩, ⟨w1, w2, w3⟩, ⟨f1, f2, f3⟩, ⟨g1, g2, g3⟩, ⟨i1, i2⟩, j1, ⟨n, bb, k1, k2, k3, k4⟩, l1⟩, h2, h3⟩ := h.2.2.2.1 d hd
  have est : st = 1 := (nI_eq (by omega) (by decide)).mp (a2.symm.trans hst)
  obtain ⟨hkey, hmac⟩ := h.1.2 d hd
  obtain ⟨S2, e1, ag1, hS⟩ := x_takeAcc hd ka hne hmac cS c1 c3 b1 (by omega)
  obtain ⟨R2, e2, hR⟩ := r_takeAcc hd h.1.1 hkey cR h0 c2 c3 b2 (by omega)
  have hsc : ∀ q, 200 ≤ q → ¬ scC q ∧ ¬ pD d q := fun q hq => by
    refine ⟨?_, ?_⟩
    · unfold scC
      rintro (⟨e, he, h1⟩ | ⟨e, he, h1⟩ | h1 | h1) <;> omega
    · unfold pD
      omega
  rcases hS with ⟨n1, ag2⟩ | ⟨y1, s1, s2, s3, s4, s5, s6, s7, s8, s9⟩
  · rcases hR with ⟨-, ag3⟩ | ⟨y2, -⟩
    · exact ⟨S2, R2, e1, e2, relScr h (Nat.le_refl N) ag2 ag3, ag_mono ag1 hsc, ag_eq ag3.1 fun q hq => by simp; omega⟩
    · exact absurd y2 n1
  · rcases hR with ⟨n2, -⟩ | ⟨y2, t1, t2, t3, t4, t5, t6, t7, t8, t9, t10, t11, t12⟩
    · exact absurd y1 n2
    have hkb : yB 16 (K d) := fun j hj => (hkey j hj).2
    have hW := y_sc_lt (y_sch (key := K d)) hkb
    have ob := y_op_lt hW (fun i hi => (cS.2.2 i hi).2)
    have sl := y_num_lt (s := fun i => yOp (ySch (K d)) b (1 + i)) 3 (fun i hi => ob _ (by omega))
    have rq := t10.1
    have r2 : R2.2 = R.2 := t10.2
    refine ⟨S2, R2, e1, e2, relOneD3 h (Nat.le_refl N) hd ag1 ⟨rq 201 (by decide), rq 202 (by decide), fun j hj => t9 j (by omega)⟩ ⟨by rw [rq 200 (by decide)], by rw [rq 200 (by decide)]⟩ ⟨by rw [rq 200 (by decide)], by rw [rq 200 (by decide)], fun f hf => t12 f (by omega)⟩ (fun e he hed => ⟨fun q h1 h2 => t11 q h1 h2 e hed, fun j _ => by rw [rq 236 (by decide)], by rw [rq 234 (by decide)], fun j _ => by rw [r2], t12 _ (by omega), fun j hj => t9 _ (by omega)⟩) (fun e he => ⟨fun q h1 h2 => by rw [rq q (by simp; omega)], by rw [rq 233 (by decide)], fun j _ => ⟨by rw [r2], by rw [rq 232 (by decide)]⟩, by rw [rq 234 (by decide)], fun j _ => by rw [r2], fun j hj => t9 _ (by omega)⟩) ?_, ag_mono ag1 hsc, ag_eq t10 fun q hq => by simp; omega⟩
    refine ⟨by rw [s7 0 (by decide) (by decide) (by decide) (by decide) (by decide)]; exact h00, ⟨2, nc, _, 0, 0, sa, ts, cf, ⟨s5, t3, by decide⟩, ⟨by rw [s7 7 (by decide) (by decide) (by decide) (by decide) (by decide)]; exact b1, by rw [rq 216 (by decide)]; exact b2, b3⟩, ⟨s2, t1, sl⟩, ⟨s3, t5, Nat.zero_le _⟩, ⟨s6, t4, by decide⟩, ⟨by rw [s7 12 (by decide) (by decide) (by decide) (by decide) (by decide)]; exact f1, by rw [rq 214 (by decide)]; exact f2, f3⟩, ⟨by rw [s7 13 (by decide) (by decide) (by decide) (by decide) (by decide)]; exact g1, by rw [rq 215 (by decide)]; exact g2, g3⟩, ⟨by rw [s7 14 (by decide) (by decide) (by decide) (by decide) (by decide)]; exact i1, i2⟩, fun hh => absurd hh (by decide), ⟨n, bb, ⟨by rw [s8 _ (by omega)]; exact k1.1, k1.2.1, fun i hi => by rw [s8 _ (by omega)]; exact k1.2.2 i hi⟩, agF_rf (t12 _ (by omega)) k2, fun hh => absurd hh (by decide), fun _ => k4 (by omega)⟩, fun _ => ⟨⟨0, by rw [s4]; rfl, Nat.zero_le _⟩, by rw [s4, t6], ⟨_, _, _, s1, t2, t7, t8⟩⟩⟩, fun j hj => by rw [s7 _ (by omega) (by omega) (by omega) (by omega) (by omega), rq 236 (by decide)]; exact h2 j hj, ?_⟩
    obtain ⟨⟨z, z1, z2, z3⟩, z4⟩ := h3
    exact ⟨⟨z, by rw [s8 _ (by omega)]; exact z1, by rw [rq 234 (by decide)]; exact z2, z3⟩, fun j hj => by rw [s9, r2]; exact z4 j hj⟩
