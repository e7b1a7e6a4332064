/-! an ACCEPT reaches a device: the reference -/
def yAc (W b : Nat → Nat) (gs : Nat) : Prop := gs < yNum (fun i => yOp W b (1 + i)) 3 ∧ yNum (yMac W (yOp W b) 13) 4 = yNum (fun i => yOp W b (13 + i)) 4
theorem z_wr0 {S : xs_T} {k j : Nat} (h : j < xs_ln k) : xs_wrZ S k (nI j) 0 = some (xs_sI S k j 0) := by
  unfold xs_wrZ xs_sZ
  rw [if_neg (x_in h), x_cl h, if_pos (Or.inl rfl)]
theorem z_wr1 {S : xs_T} {k j : Nat} (h : j < xs_ln k) : xs_wrZ S k (nI j) 1 = some (xs_sI S k j 1) := by
  unfold xs_wrZ xs_sZ
  rw [if_neg (x_in h), x_cl h, if_pos (Or.inr rfl)]
theorem r_takeAcc {R : xs_T} {d gs nc : Nat} {key b : Nat → Nat} (hd : d < 3) (hx : xs_bx R) (hk : xs_by R 207 (16 * d) 16 key) (hR : xs_rf R 23 17 b) (h0 : b 0 = 32) (r17 : R.1 217 d = nI gs) (hgs : gs < 2 ^ 24) (r16 : R.1 216 d = nI nc) (hnc : nc < 65536) :
    ∃ T, xf_R_takeAccept 200 (nI d) R = some T ∧
      ((¬ yAc (ySch key) b gs ∧ arS R T) ∨
       (yAc (ySch key) b gs ∧ T.1 217 d = nI (yNum (fun i => yOp (ySch key) b (1 + i)) 3) ∧ T.1 218 d = nI (yNum (fun i => yOp (ySch key) b (7 + i)) 4) ∧ T.1 212 d = nI 2 ∧ T.1 213 d = nI 0 ∧ T.1 219 d = nI 0 ∧ T.1 220 d = -1 ∧ xs_by T 207 (16 * (3 + 2 * d)) 16 (yEnc (ySch key) (yDk 1 (yNum (fun i => yOp (ySch key) b (1 + i)) 3) nc)) ∧ xs_by T 207 (16 * (3 + 2 * d + 1)) 16 (yEnc (ySch key) (yDk 2 (yNum (fun i => yOp (ySch key) b (1 + i)) 3) nc)) ∧ (∀ j, j < 16 * (3 + 2 * d) ∨ 16 * (3 + 2 * d) + 32 ≤ j → T.1 207 j = R.1 207 j) ∧ xs_eq [203, 204, 205, 206, 208, 209, 210, 211, 207, 212, 213, 217, 218, 219, 220] R T ∧ (∀ q, 212 ≤ q → q ≤ 220 → ∀ e, e ≠ d → T.1 q e = R.1 q e) ∧ ∀ f, f < 23 → agF f R T)) := by
  have hkb : yB 16 key := fun j hj => (hk j hj).2
  have hW := y_sc_lt (y_sch (key := key)) hkb
  have hb : ∀ i, i < 17 → b i < 256 := fun i hi => (hR.2.2 i hi).2
  have ob := y_op_lt hW hb
  unfold xf_R_takeAccept
  rw [show xs_rd R (200 + 10) 23 = some (nI 17) by
    rw [show xs_rd R (200 + 10) 23 = _ from x_rd (k := 210) (j := 23) (by decide)]
    exact congrArg some hR.1, Option.bind_some, if_pos (show nI 17 = 17 from rfl), show xf_R_at 200 23 0 R = some (nI 32) by
    rw [show xf_R_at 200 23 0 R = _ from r_at (f := 23) (i := 0) (by decide) (by decide), (hR.2.2 0 (by decide)).1, h0], Option.bind_some, if_pos (show nI 32 = 32 from rfl)]
  have e1 := xl_map (fun g j (T : xs_T) => xf_R_takeAccept_27 200 (nI d) g (nI j) T) R 204 0 16 (fun j => nI (b (1 + j))) (fun g j hj => by
    show xf_R_takeAccept_27 200 (nI d) (g + 1) (nI j) _ = xf_R_takeAccept_27 200 (nI d) g (nI (j + 1)) _
    generalize hT : (xs_mp R 204 0 j fun j => nI (b (1 + j))) = T
    rw [xf_R_takeAccept_27, if_neg (show ¬ (16 : Int32) ≤ nI j from nI_ge (b := 16) hj (by decide)), show (1 : Int32) + nI j = nI (1 + j) from nI_add 1 j, show xf_R_at 200 23 (nI (1 + j)) T = _ from r_at (f := 23) (by decide) (by omega), Option.bind_some, show T.1 209 (32 * 23 + (1 + j)) = nI (b (1 + j)) by
      rw [← hT, m_ne (by decide)]
      exact (hR.2.2 (1 + j) (by omega)).1, x_wr (k := 200 + 4) (show j < 16 from hj), Option.bind_some, nI_1, Nat.zero_add]) xs_fuel (by decide)
  rw [show xf_R_takeAccept_27 200 (nI d) xs_fuel 0 R = _ from e1]
  have q1 : xs_eq [204] R (xs_mp R 204 0 16 fun j => nI (b (1 + j))) := e_mp (by decide)
  have s1 : xs_by (xs_mp R 204 0 16 fun j => nI (b (1 + j))) 204 0 16 (fun j => b (1 + j)) := m_by (fun j hj => hb _ (by omega))
  generalize (xs_mp R 204 0 16 fun j => nI (b (1 + j))) = T1 at q1 s1 ⊢
  show ∃ T, xf_R_takeAccept_27 200 (nI d) (983 + 1) (nI 16) T1 = some T ∧ _
  rw [xf_R_takeAccept_27, if_pos (show (16 : Int32) ≤ nI 16 from nI_le (a := 16) (Nat.le_refl _) (by decide))]
  obtain ⟨T2, e2, s2, q2⟩ := r_cipher (e_bx q1 (by decide) (by decide) hx) (by omega) (e_key q1 (by decide) hk) s1
  rw [e2, Option.bind_some]
  have e3 := xl_map (fun g j (T : xs_T) => xf_R_takeAccept_61 200 (nI d) g (nI j) T) T2 209 737 16 (fun j => nI (yEnc (ySch key) (fun j => b (1 + j)) j)) (fun g j hj => by
    show xf_R_takeAccept_61 200 (nI d) (g + 1) (nI j) _ = xf_R_takeAccept_61 200 (nI d) g (nI (j + 1)) _
    generalize hT : (xs_mp T2 209 737 j fun j => nI (yEnc (ySch key) (fun j => b (1 + j)) j)) = T
    rw [xf_R_takeAccept_61, if_neg (show ¬ (16 : Int32) ≤ nI j from nI_ge (b := 16) hj (by decide)), x_rd (k := 200 + 4) (show j < 16 from hj), Option.bind_some, show T.1 (200 + 4) j = nI (yEnc (ySch key) (fun j => b (1 + j)) j) by
      rw [← hT, m_ne (by decide)]
      exact b_at s2 hj, show (737 : Int32) + nI j = nI (737 + j) from nI_add 737 j, x_wr (k := 200 + 9) (show 737 + j < 768 by omega), Option.bind_some, nI_1]) xs_fuel (by decide)
  rw [show xf_R_takeAccept_61 200 (nI d) xs_fuel 0 T2 = _ from e3]
  have q12 : xs_eq [203, 204, 205] R T2 := e_tr (e_mono q1 (by decide)) q2
  generalize hT3 : (xs_mp T2 209 737 16 fun j => nI (yEnc (ySch key) (fun j => b (1 + j)) j)) = T3
  have q3 : xs_eq [209] T2 T3 := by
    rw [← hT3]
    exact e_mp (by decide)
  have s3 : xs_by T3 209 (32 * 23) 17 (yOp (ySch key) b) := fun i hi => by
    refine ⟨?_, ob i hi⟩
    rw [← hT3]
    unfold yOp
    by_cases h : i < 1
    · rw [m_out (by omega), if_pos h, q12.1 209 (by decide)]
      exact (hR.2.2 i hi).1
    · obtain ⟨t, rfl⟩ : ∃ t, i = 1 + t := ⟨i - 1, by omega⟩
      rw [show 32 * 23 + (1 + t) = 737 + t by omega, m_in (by omega), if_neg h, show 1 + t - 1 = t by omega]
  have q13 : xs_eq [203, 204, 205, 209] R T3 := e_tr (e_mono q12 (by decide)) (e_mono q3 (by decide))
  have aF3 : ∀ f, f < 23 → agF f R T3 := fun f hf => ⟨fun j hj => by rw [← hT3, m_out (by omega), q12.1 209 (by decide)], by rw [q13.1 210 (by decide)], by rw [q13.1 211 (by decide)]⟩
  show ∃ T, xf_R_takeAccept_61 200 (nI d) (983 + 1) (nI 16) T3 = some T ∧ _
  rw [xf_R_takeAccept_61, if_pos (show (16 : Int32) ≤ nI 16 from nI_le (a := 16) (Nat.le_refl _) (by decide))]
  obtain ⟨T4, e4, s4, q4⟩ := r_rootCode (f := 23) (n := 13) (e_bx q13 (by decide) (by decide) hx) (show d < 15 by omega) (e_key q13 (by decide) hk) (by decide) (fun i hi => s3 i (by omega)) (by decide) (by decide)
  rw [show xf_R_rootCode 200 23 13 (nI d) T3 = _ from e4, Option.bind_some]
  have b4 : xs_by T4 209 (32 * 23) 17 (yOp (ySch key) b) := e_by q4 (by decide) s3
  have q14 : xs_eq [203, 204, 205, 206, 208, 209] R T4 := e_tr (e_mono q13 (by decide)) (e_mono q4 (by decide))
  have a4 : arS R T4 := ⟨e_mono q14 (by decide), fun f hf => agF_tr (aF3 f hf) ⟨fun j _ => by rw [q4.1 209 (by decide)], by rw [q4.1 210 (by decide)], by rw [q4.1 211 (by decide)]⟩⟩
  have n1 : xf_R_numberAt 200 23 1 3 T4 = some (nI (yNum (fun i => yOp (ySch key) b (1 + i)) 3)) := r_num (f := 23) (fr := 1) (n := 3) (m := 17) (by decide) (by decide) b4 (by decide) (by decide)
  have sl := y_num_lt (s := fun i => yOp (ySch key) b (1 + i)) 3 (fun i hi => ob _ (by omega))
  have en : xf_R_endsWithCode 200 23 T4 = some (if yNum (yMac (ySch key) (yOp (ySch key) b) 13) 4 = yNum (fun i => yOp (ySch key) b (13 + i)) 4 then 1 else 0) := r_ends (f := 23) (n := 17) (by decide) (by decide) ⟨by rw [q14.1 210 (by decide)]; exact hR.1, by decide, b4⟩ s4
  rw [n1, Option.bind_some, en, Option.bind_some]
  by_cases hc : yNum (yMac (ySch key) (yOp (ySch key) b) 13) 4 = yNum (fun i => yOp (ySch key) b (13 + i)) 4
  rotate_left
  · rw [if_neg hc, if_pos rfl]
    exact ⟨T4, rfl, Or.inl ⟨fun hh => hc hh.2, a4⟩⟩
  rw [if_pos hc, if_neg i10, x_rd (k := 200 + 17) (show d < 3 from hd), Option.bind_some, show T4.1 (200 + 17) d = nI gs by
    rw [q14.1 (200 + 17) (by decide)]
    exact r17]
  by_cases hl : gs < yNum (fun i => yOp (ySch key) b (1 + i)) 3
  rotate_left
  · rw [if_neg (show ¬ nI gs < nI (yNum (fun i => yOp (ySch key) b (1 + i)) 3) from Int32.not_lt.mpr (nI_le (by omega) (by omega)))]
    exact ⟨T4, rfl, Or.inl ⟨fun hh => hl hh.1, a4⟩⟩
  rw [if_pos (nI_lt hl (by omega)), x_wr (k := 200 + 17) (show d < 3 from hd), Option.bind_some]
  generalize hT5 : xs_sI T4 (200 + 17) d (nI (yNum (fun i => yOp (ySch key) b (1 + i)) 3)) = T5
  have q5 : xs_eq [217] T4 T5 := by
    rw [← hT5]
    exact e_sI (by decide)
  have n7 : xf_R_numberAt 200 23 7 4 T5 = some (nI (yNum (fun i => yOp (ySch key) b (7 + i)) 4)) := r_num (f := 23) (fr := 7) (n := 4) (m := 17) (by decide) (by decide) (e_by q5 (by decide) b4) (by decide) (by decide)
  rw [n7, Option.bind_some, x_wr (k := 200 + 18) (show d < 3 from hd), Option.bind_some]
  generalize hT6 : xs_sI T5 (200 + 18) d (nI (yNum (fun i => yOp (ySch key) b (7 + i)) 4)) = T6
  have q6 : xs_eq [218] T5 T6 := by
    rw [← hT6]
    exact e_sI (by decide)
  have q46 : xs_eq [217, 218] T4 T6 := e_tr (e_mono q5 (by decide)) (e_mono q6 (by decide))
  have q16 : xs_eq [203, 204, 205, 206, 208, 209, 217, 218] R T6 := e_tr (e_mono q14 (by decide)) (e_mono q46 (by decide))
  rw [x_rd (k := 200 + 16) (show d < 3 from hd), Option.bind_some, show T6.1 (200 + 16) d = nI nc by
    rw [q16.1 (200 + 16) (by decide)]
    exact r16, show (2 : Int32) * nI d = nI (2 * d) from pk_mul 2 d, show (3 : Int32) + nI (2 * d) = nI (3 + 2 * d) from nI_add 3 _]
  obtain ⟨T7, e7, k1, k2, k3, q7⟩ := r_derive (r := d) (i := 3 + 2 * d) (serial := yNum (fun i => yOp (ySch key) b (1 + i)) 3) (nonce := nc) (e_bx q16 (by decide) (by decide) hx) hd (e_key q16 (by decide) hk) (by omega) (by omega) hnc
  rw [e7, Option.bind_some, x_wr (k := 200 + 12) (show d < 3 from hd), Option.bind_some, z_wr0 (k := 200 + 13) (show d < 3 from hd), Option.bind_some, x_wr (k := 200 + 19) (show d < 3 from hd), Option.bind_some, x_wr (k := 200 + 20) (show d < 3 from hd), Option.bind_some]
  generalize hT : xs_sI (xs_sI (xs_sI (xs_sI T7 (200 + 12) d 2) (200 + 13) d 0) (200 + 19) d 0) (200 + 20) d (-1) = T
  have qT : xs_eq [212, 213, 219, 220] T7 T := by
    rw [← hT]
    exact e_tr (e_sI (by decide)) (e_tr (e_sI (by decide)) (e_tr (e_sI (by decide)) (e_sI (by decide))))
  have q4T : xs_eq [203, 204, 205, 207, 212, 213, 217, 218, 219, 220] T4 T := e_tr (e_mono q46 (by decide)) (e_tr (e_mono q7 (by decide)) (e_mono qT (by decide)))
  have oth : ∀ q e, e ≠ d → 212 ≤ q → T.1 q e = T4.1 q e := fun q e he hq => by
    rw [← hT]
    have s : ∀ (U : xs_T) k v, (xs_sI U k d v).1 q e = U.1 q e := fun U k v => by
      by_cases hqk : q = k
      · subst hqk
        exact x_fN he
      · rw [x_fP hqk]
    rw [s, s, s, s, q7.1 q (by simp; omega), ← hT6, s, ← hT5, s]
  refine ⟨T, rfl, Or.inr ⟨⟨hl, hc⟩, ?_, ?_, ?_, ?_, ?_, ?_, e_by qT (by decide) k1, e_by qT (by decide) k2, fun j hj => ?_, e_tr (e_mono q14 (by decide)) (e_mono q4T (by decide)), fun q h1 h2 e he => ?_, fun f hf => agF_tr (a4.2 f hf) ⟨fun j _ => by rw [q4T.1 209 (by decide)], by rw [q4T.1 210 (by decide)], by rw [q4T.1 211 (by decide)]⟩⟩⟩
  · rw [qT.1 217 (by decide), q7.1 217 (by decide), q6.1 217 (by decide), ← hT5]
    exact x_fI
  · rw [qT.1 218 (by decide), q7.1 218 (by decide), ← hT6]
    exact x_fI
  · rw [← hT, x_fP (by decide), x_fP (by decide), x_fP (by decide)]
    exact x_fI
  · rw [← hT, x_fP (by decide), x_fP (by decide)]
    exact x_fI
  · rw [← hT, x_fP (by decide)]
    exact x_fI
  · rw [← hT]
    exact x_fI
  · rw [qT.1 207 (by decide), k3 j hj, q16.1 207 (by decide)]
  · rw [oth q e he h1, q14.1 q (by simp; omega)]
