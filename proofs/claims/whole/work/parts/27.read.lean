/-! the calls that only read -/
theorem q_below (x : Int32) {n : Nat} (hn : n < 2 ^ 31) : (xf_R_below x (nI n) = some 0 ∧ ∀ j, j < n → x ≠ nI j) ∨ ∃ j, j < n ∧ x = nI j ∧ xf_R_below x (nI n) = some 1 := by
  unfold xf_R_below
  rcases pk_ix x hn with h | h | ⟨j, hj, rfl⟩
  · refine Or.inl ⟨by rw [if_pos h]; rfl, fun j hj e => ?_⟩
    rw [e] at h
    exact nI_pos (by omega) h
  · by_cases h0 : x < 0
    · refine Or.inl ⟨by rw [if_pos h0]; rfl, fun j hj e => ?_⟩
      rw [e] at h0
      exact nI_pos (by omega) h0
    · refine Or.inl ⟨by rw [if_neg h0, if_pos h]; rfl, fun j hj e => ?_⟩
      rw [e] at h
      exact nI_ge hj hn h
  · refine Or.inr ⟨j, hj, rfl, ?_⟩
    rw [if_neg (nI_pos (by omega)), if_neg (nI_ge hj hn)]
    rfl
theorem q_dev (x : Int32) : (xf_W_isDevice x = some 0 ∧ xf_R_below x 3 = some 0) ∨ ∃ d, d < 3 ∧ x = nI d ∧ xf_W_isDevice x = some 1 ∧ xf_R_below x 3 = some 1 := by
  have e : xf_W_isDevice x = xf_R_below x 3 := rfl
  rw [e]
  rcases q_below x (n := 3) (by decide) with h | ⟨d, h1, h2, h3⟩
  · exact Or.inl ⟨h.1, h.1⟩
  · exact Or.inr ⟨d, h1, h2, h3, h3⟩
theorem q_holds {S : xs_T} {k m : Nat} (x : Int32) (h : S.1 k 2 = nI m) : xf_A_holds k x S = xf_R_below x (nI m) := by
  unfold xf_A_holds xf_R_below
  rw [show xs_gI S k 2 = nI m from h]
theorem q_fholds {S : xs_T} {k m : Nat} (x : Int32) (h : S.1 k 1 = nI m) : xf_F_holds k x S = xf_R_below x (nI m) := by
  unfold xf_F_holds xf_R_below
  rw [show xs_gI S k 1 = nI m from h]
theorem q_kdD : ∀ d, d < 3 → xs_kd (53 + 24 * d) = 7 := by decide +kernel
theorem q_kdK : ∀ d, d < 3 → xs_kd (123 + 16 * d) = 8 := by decide +kernel
theorem q_kdF : ∀ t, t < 12 → xs_kd (4 + 2 * t) = 2 := by decide +kernel
theorem q_rdD {N tm d : Nat} {S R : xs_T} (h : relG N tm S R) (hd : d < 3) : xs_rdU S (0 + 44) (nI d) xs_cD = some (53 + 24 * d) := by
  have e := (h.2.2 d hd).1
  rw [x_rdU (k := 0 + 44) (show d < 3 from hd) (by show xs_kd (S.2.2 44 d) = 7; rw [e]; exact q_kdD d hd)]
  exact congrArg some e
theorem q_rdK {N tm d : Nat} {S R : xs_T} (h : relG N tm S R) (hd : d < 3) : xs_rdU S (0 + 120) (nI d) xs_cK = some (123 + 16 * d) := by
  have e := (h.2.2 d hd).2
  rw [x_rdU (k := 0 + 120) (show d < 3 from hd) (by show xs_kd (S.2.2 120 d) = 8; rw [e]; exact q_kdK d hd)]
  exact congrArg some e
theorem q_uF {N j : Nat} {S R : xs_T} (h : relA N S R) (hj : j < 12) : xs_kd (S.2.2 2 j) = 2 := by
  obtain ⟨t, ht, e⟩ := h.2.2.1 j hj
  rw [e]
  exact q_kdF t ht
theorem q_rdF {N j : Nat} {S R : xs_T} (h : relA N S R) (hj : j < 12) : xs_rdU S (0 + 2) (nI j) xs_cF = some (S.2.2 2 j) := x_rdU (k := 2) hj (q_uF h hj)
section RD
variable {K : Nat → Nat → Nat} {N tm : Nat} {S R : xs_T}
theorem sim_frames (h : Rel K N tm S R) : ∃ r, xf_W_frames 0 S = some r ∧ xf_R_frames 200 R = some r := by
  obtain ⟨⟨m, a1, a2, -⟩, -⟩ := h.2.2.1
  exact ⟨nI m, congrArg some a1, congrArg some a2⟩
theorem sim_length (h : Rel K N tm S R) (x : Int32) : ∃ r, xf_W_length 0 x S = some r ∧ xf_R_length 200 x R = some r := by
  have hA := h.2.2.1
  obtain ⟨⟨m, a1, a2, a3, a4⟩, -⟩ := hA
  unfold xf_W_length xf_R_length
  rw [show xs_gI R 200 12 = nI m from a2, q_holds (k := 0 + 1) x a1]
  rcases q_below x (n := m) (by omega) with e | ⟨j, hj, rfl, e⟩
  · rw [e.1, Option.bind_some, Option.bind_some, if_pos rfl, if_pos rfl]
    exact ⟨_, rfl, rfl⟩
  · obtain ⟨n, b, t, c1, c2, c3, c4, c5, c6⟩ := a4 j hj
    rw [e, Option.bind_some, Option.bind_some, if_neg (by decide), if_neg (by decide), q_rdF h.2.2.1 (by omega), Option.bind_some, x_rd (k := 200 + 10) (show j < 24 by omega), Option.bind_some]
    exact ⟨nI n, congrArg some c1.1, congrArg some c5.1⟩
theorem sim_goal (h : Rel K N tm S R) (x : Int32) : ∃ r, xf_W_goal 0 x S = some r ∧ xf_R_goal 200 x R = some r := by
  have hA := h.2.2.1
  obtain ⟨⟨m, a1, a2, a3, a4⟩, -⟩ := hA
  unfold xf_W_goal xf_R_goal
  rw [show xs_gI R 200 12 = nI m from a2, q_holds (k := 0 + 1) x a1]
  rcases q_below x (n := m) (by omega) with e | ⟨j, hj, rfl, e⟩
  · rw [e.1, Option.bind_some, Option.bind_some, if_pos rfl, if_pos rfl]
    exact ⟨_, rfl, rfl⟩
  · obtain ⟨n, b, t, c1, c2, c3, c4, c5, c6⟩ := a4 j hj
    rw [e, Option.bind_some, Option.bind_some, if_neg (by decide), if_neg (by decide), q_rdF h.2.2.1 (by omega), Option.bind_some, x_rd (k := 200 + 11) (show j < 24 by omega), Option.bind_some]
    exact ⟨nI t, congrArg some c3, congrArg some c6⟩
theorem sim_octet (h : Rel K N tm S R) (x y : Int32) : ∃ r, xf_W_octet 0 x y S = some r ∧ xf_R_octet 200 x y R = some r := by
  have hA := h.2.2.1
  obtain ⟨⟨m, a1, a2, a3, a4⟩, -⟩ := hA
  unfold xf_W_octet xf_R_octet
  rw [show xs_gI R 200 12 = nI m from a2, q_holds (k := 0 + 1) x a1]
  rcases q_below x (n := m) (by omega) with e | ⟨j, hj, rfl, e⟩
  · rw [e.1, Option.bind_some, Option.bind_some, if_pos rfl, if_pos rfl]
    exact ⟨_, rfl, rfl⟩
  · obtain ⟨n, b, t, c1, c2, c3, c4, c5, c6⟩ := a4 j hj
    have h24 := c1.2.1
    rw [e, Option.bind_some, Option.bind_some, if_neg (by decide), if_neg (by decide), q_rdF h.2.2.1 (by omega), Option.bind_some, x_rd (k := 200 + 10) (show j < 24 by omega), Option.bind_some, show R.1 (200 + 10) j = nI n from c5.1, q_fholds y c1.1]
    rcases q_below y (n := n) (by omega) with e2 | ⟨i, hi, rfl, e2⟩
    · refine ⟨-1, ?_, ?_⟩
      · rw [e2.1, Option.bind_some, if_pos rfl]
      · rw [Option.bind_some, e2.1, Option.bind_some, if_pos rfl]
    · have l := x_kF (q_uF h.2.2.1 (show j < 12 by omega))
      refine ⟨nI (b i), ?_, ?_⟩
      · rw [e2, Option.bind_some, if_neg (by decide), x_rd (by omega), Option.bind_some, b_at c1.2.2 hi]
      · rw [Option.bind_some, e2, Option.bind_some, if_neg (by decide), r_at (by omega) (by omega), Option.bind_some, (c5.2.2 i hi).1]
theorem sim_state (h : Rel K N tm S R) (x : Int32) : ∃ r, xf_W_state 0 x S = some r ∧ xf_R_state 200 x R = some r := by
  unfold xf_W_state xf_R_state
  rcases q_dev x with ⟨e1, e2⟩ | ⟨d, hd, rfl, e1, e2⟩
  · rw [e1, e2, Option.bind_some, Option.bind_some, if_pos rfl, if_pos rfl]
    exact ⟨_, rfl, rfl⟩
  · obtain ⟨-, ⟨st, nc, gs, cu, w, sa, ts, cf, ⟨a1, a2, a3⟩, -, -, -, ⟨w1, w2, w3⟩, -⟩, -⟩ := h.2.2.2.1 d hd
    rw [e1, e2, Option.bind_some, Option.bind_some, if_neg (by decide), if_neg (by decide), q_rdD h.2.1 hd, Option.bind_some, Option.bind_some, x_rd (k := 200 + 12) (show d < 3 from hd), Option.bind_some, x_rd (k := 200 + 13) (show d < 3 from hd), Option.bind_some, show xs_gI S (53 + 24 * d) 11 = nI w from w1, show R.1 (200 + 13) d = nI w from w2, show xs_gI S (53 + 24 * d) 6 = nI st from a1, show R.1 (200 + 12) d = nI st from a2]
    by_cases hw : nI w = 0
    · rw [if_pos hw]
      exact ⟨_, rfl, rfl⟩
    · rw [if_neg hw]
      exact ⟨_, rfl, rfl⟩
theorem sim_received (h : Rel K N tm S R) (x y : Int32) : ∃ r, xf_W_received 0 x y S = some r ∧ xf_R_received 200 x y R = some r := by
  unfold xf_W_received xf_R_received
  rcases q_dev x with ⟨e1, e2⟩ | ⟨d, hd, rfl, e1, e2⟩
  · rw [e1, e2, Option.bind_some, Option.bind_some, if_pos rfl, if_pos rfl]
    exact ⟨_, rfl, rfl⟩
  · rw [e1, e2, Option.bind_some, Option.bind_some, if_neg (by decide), if_neg (by decide)]
    unfold xf_W_inbox xs_ckU
    by_cases hy : y = 0
    · obtain ⟨⟨n, i1, i2, i3⟩, -⟩ := (h.2.2.2.1 d hd).2.2.2
      rw [if_pos hy, if_pos hy, q_rdD h.2.1 hd, Option.bind_some, Option.bind_some, if_pos ((by decide +kernel : ∀ d, d < 3 → xs_kd (53 + 24 * d + 12) = 6) d hd), Option.bind_some, show (3 : Int32) + nI d = nI (3 + d) from nI_add 3 d, x_rd (k := 200 + 34) (show 3 + d < 6 by omega), Option.bind_some]
      refine ⟨nI n, ?_, congrArg some i2⟩
      show some (S.1 (53 + 24 * d + 12) 1) = _
      rw [show 53 + 24 * d + 12 = 65 + 24 * d by omega, i1]
    · obtain ⟨⟨n, i1, i2, i3⟩, -⟩ := (h.2.2.2.2 d hd).2.2
      rw [if_neg hy, if_neg hy, q_rdK h.2.1 hd, Option.bind_some, Option.bind_some, if_pos ((by decide +kernel : ∀ d, d < 3 → xs_kd (123 + 16 * d + 12) = 6) d hd), Option.bind_some, x_rd (k := 200 + 34) (show d < 6 by omega), Option.bind_some]
      refine ⟨nI n, ?_, congrArg some i2⟩
      show some (S.1 (123 + 16 * d + 12) 1) = _
      rw [show 123 + 16 * d + 12 = 135 + 16 * d by omega, i1]
theorem q_get {k l : Nat} (h : relI N S R k l) (hN : N ≤ 512) (hk : xs_ln (k + 1) = 4) (hl : l < 6) (y : Int32) :
    ∃ r, xf_I_get k y S = some r ∧ ((xs_rd R (200 + 34) (nI l)).bind fun v4 => (xf_R_below y v4).bind fun q5 => if q5 = 0 then (some (-1)) else ((xs_rd R (200 + 34) (nI l)).bind fun v7 => if (v7 - 4) ≤ y then ((xs_rdL R (200 + 35) ((4 * nI l) + (xs_rem y 4))).bind fun v9 => some v9) else (some (-1)))) = some r := by
  obtain ⟨⟨n, i1, i2, i3⟩, i4⟩ := h
  unfold xf_I_get
  rw [show xs_gI S k 1 = nI n from i1, x_rd (k := 200 + 34) (show l < 6 from hl), Option.bind_some, show R.1 (200 + 34) l = nI n from i2]
  rcases q_below y (n := n) (by omega) with ⟨e, ne⟩ | ⟨i, hi, rfl, e⟩
  · rw [e, Option.bind_some, if_pos rfl]
    refine ⟨-1, ?_, rfl⟩
    by_cases h0 : y < 0
    · rw [if_pos h0]
    · rw [if_neg h0, if_pos]
      rcases pk_ix y (n := n) (by omega) with h | h | ⟨j, hj, e⟩
      · exact absurd h h0
      · exact h
      · exact absurd e (ne j hj)
  · have t1 : (nI n - 4).toInt = (n : Int) - 4 := pk_sub_toInt (a := n) (b := 4) (by omega) (by decide)
    have t2 : (nI i).toInt = (i : Int) := nI_toInt (by omega)
    by_cases hh : n ≤ i + 4
    · refine ⟨S.2.1 (k + 1) (i % 4), ?_, ?_⟩
      · rw [if_neg (nI_pos (by omega)), if_neg (nI_ge hi (by omega)), if_neg (fun hlt => by have := Int32.lt_iff_toInt_lt.mp hlt; omega), x_r4 (by omega), x_rdL (by omega), Option.bind_some]
      · rw [e, Option.bind_some, if_neg (by decide), Option.bind_some, if_pos (by rw [Int32.le_iff_toInt_le]; omega), x_r4 (by omega), show (4 : Int32) * nI l = nI (4 * l) from pk_mul 4 l, nI_add, x_rdL (k := 200 + 35) (show 4 * l + i % 4 < 24 by omega), Option.bind_some]
        exact congrArg some (i4 (i % 4) (Nat.mod_lt _ (by decide))).symm
    · refine ⟨-1, ?_, ?_⟩
      · rw [if_neg (nI_pos (by omega)), if_neg (nI_ge hi (by omega)), if_pos (by rw [Int32.lt_iff_toInt_lt]; omega)]
      · rw [e, Option.bind_some, if_neg (by decide), Option.bind_some, if_neg (fun hle => by have := Int32.le_iff_toInt_le.mp hle; omega)]
theorem sim_payload (h : Rel K N tm S R) (hN : N ≤ 512) (x y z : Int32) : ∃ r, xf_W_payload 0 x y z S = some r ∧ xf_R_payload 200 x y z R = some r := by
  rcases q_dev x with ⟨e1, e2⟩ | ⟨d, hd, rfl, e1, e2⟩
  · refine ⟨-1, ?_, ?_⟩
    · unfold xf_W_payload
      rw [e1, Option.bind_some, if_pos rfl]
    · unfold xf_R_payload xf_R_payload_11
      rw [e2, Option.bind_some, if_pos rfl, Option.bind_some, if_pos rfl]
      split <;> rfl
  · by_cases hy : y = 0
    · have hI := (h.2.2.2.1 d hd).2.2.2
      rw [show 65 + 24 * d = 53 + 24 * d + 12 by omega] at hI
      obtain ⟨r, g1, g2⟩ := q_get hI hN ((by decide +kernel : ∀ d, d < 3 → xs_ln (53 + 24 * d + 12 + 1) = 4) d hd) (by omega) z
      refine ⟨r, ?_, ?_⟩
      · unfold xf_W_payload xf_W_inbox xs_ckU
        rw [e1, Option.bind_some, if_neg (by decide), if_pos hy, q_rdD h.2.1 hd, Option.bind_some, Option.bind_some, if_pos ((by decide +kernel : ∀ d, d < 3 → xs_kd (53 + 24 * d + 12) = 6) d hd), Option.bind_some, g1, Option.bind_some]
      · unfold xf_R_payload
        rw [if_pos hy]
        unfold xf_R_payload_11
        rw [e2, Option.bind_some, if_neg (by decide), show (3 : Int32) + nI d = nI (3 + d) from nI_add 3 d]
        exact g2
    · have hI := (h.2.2.2.2 d hd).2.2
      rw [show 135 + 16 * d = 123 + 16 * d + 12 by omega] at hI
      obtain ⟨r, g1, g2⟩ := q_get hI hN ((by decide +kernel : ∀ d, d < 3 → xs_ln (123 + 16 * d + 12 + 1) = 4) d hd) (by omega) z
      refine ⟨r, ?_, ?_⟩
      · unfold xf_W_payload xf_W_inbox xs_ckU
        rw [e1, Option.bind_some, if_neg (by decide), if_neg hy, q_rdK h.2.1 hd, Option.bind_some, Option.bind_some, if_pos ((by decide +kernel : ∀ d, d < 3 → xs_kd (123 + 16 * d + 12) = 6) d hd), Option.bind_some, g1, Option.bind_some]
      · unfold xf_R_payload
        rw [if_neg hy]
        unfold xf_R_payload_11
        rw [e2, Option.bind_some, if_neg (by decide)]
        exact g2
theorem sim_tally (h : Rel K N tm S R) (x y : Int32) : ∃ r, xf_W_tally 0 x y S = some r ∧ xf_R_tally 200 x y R = some r := by
  unfold xf_W_tally xf_R_tally
  rcases q_dev x with ⟨e1, e2⟩ | ⟨d, hd, rfl, e1, e2⟩
  · rw [e1, e2, Option.bind_some, Option.bind_some, if_pos rfl, if_pos rfl]
    exact ⟨_, rfl, rfl⟩
  · have t := (h.2.2.2.1 d hd).2.2.1
    obtain ⟨-, ⟨q, ss, sr, gn, gw, du, ak, ck, -, ⟨b1, b2, b3⟩, -⟩, -⟩ := h.2.2.2.2 d hd
    rcases q_below y (n := 4) (by decide) with ⟨e, ne⟩ | ⟨i, hi, rfl, e⟩
    · refine ⟨-1, ?_, ?_⟩
      · rw [e1, Option.bind_some, if_neg (by decide), if_neg (show ¬ y = 0 from ne 0 (by decide)), if_neg (show ¬ y = 1 from ne 1 (by decide)), if_neg (show ¬ y = 2 from ne 2 (by decide)), if_neg (show ¬ y = 3 from ne 3 (by decide))]
      · rw [e2, Option.bind_some, if_neg (by decide), show xf_R_below y 4 = _ from e, Option.bind_some, if_pos rfl]
    · rcases (show i = 0 ∨ i = 1 ∨ i = 2 ∨ i = 3 by omega) with rfl | rfl | rfl | rfl
      · refine ⟨S.1 (53 + 24 * d) 15, ?_, ?_⟩
        · rw [e1, Option.bind_some, if_neg (by decide), if_pos (by decide), q_rdD h.2.1 hd, Option.bind_some]
        · rw [e2, Option.bind_some, if_neg (by decide), show xf_R_below (nI 0) 4 = _ from e, Option.bind_some, if_neg (by decide), if_neg (by decide), show (3 : Int32) * nI d = nI (3 * d) from pk_mul 3 d, nI_add, x_rd (k := 200 + 36) (show 3 * d + 0 < 9 by omega), Option.bind_some]
          exact congrArg some (t 0 (by decide)).symm
      · refine ⟨S.1 (53 + 24 * d) 16, ?_, ?_⟩
        · rw [e1, Option.bind_some, if_neg (by decide), if_neg (by decide), if_pos (by decide), q_rdD h.2.1 hd, Option.bind_some]
        · rw [e2, Option.bind_some, if_neg (by decide), show xf_R_below (nI 1) 4 = _ from e, Option.bind_some, if_neg (by decide), if_neg (by decide), show (3 : Int32) * nI d = nI (3 * d) from pk_mul 3 d, nI_add, x_rd (k := 200 + 36) (show 3 * d + 1 < 9 by omega), Option.bind_some]
          exact congrArg some (t 1 (by decide)).symm
      · refine ⟨S.1 (53 + 24 * d) 17, ?_, ?_⟩
        · rw [e1, Option.bind_some, if_neg (by decide), if_neg (by decide), if_neg (by decide), if_pos (by decide), q_rdD h.2.1 hd, Option.bind_some]
        · rw [e2, Option.bind_some, if_neg (by decide), show xf_R_below (nI 2) 4 = _ from e, Option.bind_some, if_neg (by decide), if_neg (by decide), show (3 : Int32) * nI d = nI (3 * d) from pk_mul 3 d, nI_add, x_rd (k := 200 + 36) (show 3 * d + 2 < 9 by omega), Option.bind_some]
          exact congrArg some (t 2 (by decide)).symm
      · refine ⟨nI ss, ?_, ?_⟩
        · rw [e1, Option.bind_some, if_neg (by decide), if_neg (by decide), if_neg (by decide), if_neg (by decide), if_pos (by decide), q_rdK h.2.1 hd, Option.bind_some]
          exact congrArg some b1
        · rw [e2, Option.bind_some, if_neg (by decide), show xf_R_below (nI 3) 4 = _ from e, Option.bind_some, if_neg (by decide), if_pos (by decide), x_rd (k := 200 + 21) (show d < 3 from hd), Option.bind_some]
          exact congrArg some b2
end RD
