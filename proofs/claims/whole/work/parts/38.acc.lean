/-! an ACCEPT reaches a device -/
def yOp (W b : Nat → Nat) : Nat → Nat := fun i => if i < 1 then b i else yEnc W (fun j => b (1 + j)) (i - 1)
theorem y_op_lt {W b : Nat → Nat} (hW : yB 176 W) (hb : ∀ i, i < 17 → b i < 256) : ∀ i, i < 17 → yOp W b i < 256 := fun i hi => by
  unfold yOp
  split
  · exact hb i hi
  · exact y_b_enc hW (fun j hj => hb _ (by omega)) _ (by omega)
theorem x_takeAcc {S : xs_T} {d a gs nc : Nat} {W b : Nat → Nat} (hd : d < 3) (ka : xs_kd a = 2) (hne : ∀ e, e < 3 → a ≠ 69 + 24 * e) (hM : xs_mac S (47 + 24 * d) W) (cS : xs_cf S a 17 b) (h8 : S.1 (53 + 24 * d) 8 = nI gs) (hgs : gs < 2 ^ 24) (h7 : S.1 (53 + 24 * d) 7 = nI nc) (hnc : nc < 65536) :
    ∃ T, xf_D_takeAccept (53 + 24 * d) a S = some T ∧ xs_ag (fun q => ¬ scC q ∧ ¬ pD d q) S T ∧
      ((¬ (gs < yNum (fun i => yOp W b (1 + i)) 3 ∧ yNum (yMac W (yOp W b) 13) 4 = yNum (fun i => yOp W b (13 + i)) 4) ∧ xs_ag (fun q => ¬ scC q) S T) ∨
       ((gs < yNum (fun i => yOp W b (1 + i)) 3 ∧ yNum (yMac W (yOp W b) 13) 4 = yNum (fun i => yOp W b (13 + i)) 4) ∧ xs_ses T (54 + 24 * d) (yNum (fun i => yOp W b (7 + i)) 4) (ySch (yEnc W (yDk 1 (yNum (fun i => yOp W b (1 + i)) 3) nc))) (ySch (yEnc W (yDk 2 (yNum (fun i => yOp W b (1 + i)) 3) nc))) ∧ T.1 (53 + 24 * d) 8 = nI (yNum (fun i => yOp W b (1 + i)) 3) ∧ T.1 (53 + 24 * d) 9 = nI 0 ∧ T.1 (53 + 24 * d) 10 = -1 ∧ T.1 (53 + 24 * d) 6 = nI 2 ∧ T.1 (53 + 24 * d) 11 = nI 0 ∧ (∀ j, j ≠ 6 → j ≠ 8 → j ≠ 9 → j ≠ 10 → j ≠ 11 → T.1 (53 + 24 * d) j = S.1 (53 + 24 * d) j) ∧ (∀ q, q = 65 + 24 * d ∨ q = 66 + 24 * d ∨ q = 67 + 24 * d ∨ q = 68 + 24 * d → T.1 q = S.1 q) ∧ T.2 = S.2)) := by
  have k69 := (by decide +kernel : ∀ d, d < 3 → xs_kd (69 + 24 * d) = 2) d hd
  have kM := (by decide +kernel : ∀ d, d < 3 → xs_kd (47 + 24 * d) = 4) d hd
  have kS := (by decide +kernel : ∀ d, d < 3 → xs_kd (54 + 24 * d) = 5) d hd
  obtain ⟨l2, l3, l4, l5⟩ := x_kM kM
  have hW := hM.1.1
  have hb : ∀ i, i < 17 → b i < 256 := fun i hi => (cS.2.2 i hi).2
  have l70 : xs_ln (70 + 24 * d) = 24 := by
    have := x_kF k69
    rw [show 69 + 24 * d + 1 = 70 + 24 * d by omega] at this
    exact this
  unfold xf_D_takeAccept
  rw [show 53 + 24 * d + 16 = 69 + 24 * d by omega, show 53 + 24 * d + 17 = 70 + 24 * d by omega, show 53 + 24 * d - 6 + 1 = 48 + 24 * d by omega, show 53 + 24 * d - 6 = 47 + 24 * d by omega, show 53 + 24 * d + 1 = 54 + 24 * d by omega]
  obtain ⟨S1, e1, c1, -, q1⟩ := x_cf_copy (k := 69 + 24 * d) k69 ka (Ne.symm (hne d hd)) cS
  rw [show 69 + 24 * d + 1 = 70 + 24 * d by omega] at q1
  rw [e1, Option.bind_some]
  have c1b : xs_by S1 (70 + 24 * d) 0 17 b := by
    have := c1.2.2
    rw [show 69 + 24 * d + 1 = 70 + 24 * d by omega] at this
    exact this
  have m1 : xs_mac S1 (47 + 24 * d) W := e_mac q1 (by simp <;> omega) (by simp <;> omega) (by simp <;> omega) hM
  have r1 : xs_rk S1 (48 + 24 * d + 1) W := by
    have := m1.1
    rw [show 47 + 24 * d + 2 = 48 + 24 * d + 1 by omega] at this
    exact this
  rw [show xf_C_encipher (48 + 24 * d) (70 + 24 * d) 1 S1 = _ from x_enc (k := 48 + 24 * d) (fr := 1) (by omega) (by rw [show 48 + 24 * d + 1 = 47 + 24 * d + 2 by omega]; exact l2) (by omega) r1 (by
    have := x_by_le c1b (m := 16) 1 (by decide)
    exact this), Option.bind_some]
  generalize hS2 : xs_mp S1 (70 + 24 * d) 1 16 (fun i => nI (yEnc W (fun i => b (1 + i)) i)) = S2
  have q2 : xs_eq [70 + 24 * d] S1 S2 := by
    rw [← hS2]
    exact e_mp (by simp)
  have b2 : xs_by S2 (70 + 24 * d) 0 17 (yOp W b) := fun i hi => by
    refine ⟨?_, y_op_lt hW hb i hi⟩
    rw [Nat.zero_add, ← hS2]
    unfold yOp
    by_cases h : i < 1
    · rw [m_out (by omega), if_pos h]
      exact b_at c1b hi
    · obtain ⟨t, rfl⟩ : ∃ t, i = 1 + t := ⟨i - 1, by omega⟩
      rw [m_in (by omega), if_neg h, show 1 + t - 1 = t by omega]
  have qq : xs_eq [69 + 24 * d, 70 + 24 * d] S S2 := e_tr q1 (e_mono q2 (by simp))
  have n3 : xf_W_number (70 + 24 * d) 1 3 S2 = some (nI (yNum (fun i => yOp W b (1 + i)) 3)) := x_num (fr := 1) (n := 3) (by decide) (by omega) (x_by_le b2 (m := 3) 1 (by decide))
  have sl := y_num_lt (s := fun i => yOp W b (1 + i)) 3 (fun i hi => y_op_lt hW hb _ (by omega))
  rw [n3, Option.bind_some, show xs_gI S2 (53 + 24 * d) 8 = nI gs by
    show S2.1 (53 + 24 * d) 8 = _
    rw [qq.1 _ (by simp <;> omega)]
    exact h8]
  have ag1 : xs_ag (fun q => ¬ scC q) S S2 := ag_eq qq fun q hq => by
    intro hm
    apply hq
    refine Or.inl ⟨d, hd, ?_⟩
    simp at hm
    omega
  by_cases hle : yNum (fun i => yOp W b (1 + i)) 3 ≤ gs
  · rw [if_pos (nI_le hle (by omega))]
    exact ⟨S2, rfl, ag_mono ag1 fun q hq => hq.1, Or.inl ⟨fun hh => by omega, ag1⟩⟩
  rw [if_neg (nI_ge (by omega) (by omega))]
  obtain ⟨S5, e5, q5⟩ := x_code (k := 47 + 24 * d) (a := 70 + 24 * d) (n := 13) kM (e_mac q2 (by simp <;> omega) (by simp <;> omega) (by simp <;> omega) m1) (by decide) (by omega) (by omega) (fun i hi => b2 i (by omega))
  rw [show 47 + 24 * d + 5 = 52 + 24 * d by omega] at q5
  rw [show xf_M_codeOf (47 + 24 * d) (70 + 24 * d) 13 S2 = _ from e5, Option.bind_some]
  have b5 : xs_by S5 (70 + 24 * d) 0 17 (yOp W b) := e_by q5 (by simp <;> omega) b2
  have n13 : xf_W_number (70 + 24 * d) 13 4 S5 = some (nI (yNum (fun i => yOp W b (13 + i)) 4)) := x_num (fr := 13) (n := 4) (by decide) (by omega) (x_by_le b5 (m := 4) 13 (by decide))
  rw [n13, Option.bind_some]
  dsimp only
  have qq5 : xs_eq [69 + 24 * d, 70 + 24 * d, 52 + 24 * d] S S5 := e_tr (e_mono qq (by simp)) (e_mono q5 (by simp))
  have ag5 : xs_ag (fun q => ¬ scC q) S S5 := ag_eq qq5 fun q hq => by
    intro hm
    apply hq
    refine Or.inl ⟨d, hd, ?_⟩
    simp at hm
    omega
  have v1 := x_code4 (n := 13) hW (fun i hi => y_op_lt hW hb i (by omega))
  have v2 := y_num_lt (s := fun i => yOp W b (13 + i)) 4 (fun i hi => y_op_lt hW hb _ (by omega))
  by_cases hc : yNum (yMac W (yOp W b) 13) 4 = yNum (fun i => yOp W b (13 + i)) 4
  rotate_left
  · rw [if_neg (fun e => hc (n_inj v1 v2 e))]
    exact ⟨S5, rfl, ag_mono ag5 fun q hq => hq.1, Or.inl ⟨fun hh => hc hh.2, ag5⟩⟩
  rw [if_pos (by rw [hc]), Option.bind_some]
  generalize hS8 : xs_sI S5 (53 + 24 * d) 8 (nI (yNum (fun i => yOp W b (1 + i)) 3)) = S8
  have q8 : xs_eq [53 + 24 * d] S5 S8 := by
    rw [← hS8]
    exact e_sI (by simp)
  have n7 : xf_W_number (70 + 24 * d) 7 4 S8 = some (nI (yNum (fun i => yOp W b (7 + i)) 4)) := x_num (fr := 7) (n := 4) (by decide) (by omega) (x_by_le (e_by q8 (by simp <;> omega) b5) (m := 4) 7 (by decide))
  have v7 := y_num_lt (s := fun i => yOp W b (7 + i)) 4 (fun i hi => y_op_lt hW hb _ (by omega))
  rw [n7, Option.bind_some, show xs_gI S8 (53 + 24 * d) 7 = nI nc by
    show S8.1 (53 + 24 * d) 7 = _
    rw [← hS8, x_fN (by decide), qq5.1 _ (by simp <;> omega)]
    exact h7]
  have w8 : xs_rk S8 (48 + 24 * d + 1) W := by
    have := (e_mac q8 (by simp <;> omega) (by simp <;> omega) (by simp <;> omega) (e_mac qq5 (by simp <;> omega) (by simp <;> omega) (by simp <;> omega) hM)).1
    rw [show 47 + 24 * d + 2 = 48 + 24 * d + 1 by omega] at this
    exact this
  obtain ⟨Sa, ea, sa, qa⟩ := x_open (k := 54 + 24 * d) (a := 48 + 24 * d) (serial := yNum (fun i => yOp W b (1 + i)) 3) (addr := yNum (fun i => yOp W b (7 + i)) 4) (nonce := nc) kS (by simp; omega) w8 (by omega) (by omega) v7
  rw [ea, Option.bind_some, Option.bind_some, Option.bind_some, Option.bind_some]
  have z0 : ∀ T, xs_sZ T (53 + 24 * d) 11 0 = some (xs_sI T (53 + 24 * d) 11 0) := fun T => by
    unfold xs_sZ
    rw [if_pos (Or.inl rfl)]
  rw [z0, Option.bind_some]
  generalize hT : xs_sI (xs_sI (xs_sI (xs_sI Sa (53 + 24 * d) 9 0) (53 + 24 * d) 10 (-1)) (53 + 24 * d) 6 2) (53 + 24 * d) 11 0 = T
  have pa : Sa.1 (53 + 24 * d) = S8.1 (53 + 24 * d) := qa.1 _ (by simp <;> omega)
  have pt : ∀ q, q ≠ 53 + 24 * d → T.1 q = Sa.1 q := fun q hq => by rw [← hT, x_fP hq, x_fP hq, x_fP hq, x_fP hq]
  have qt : xs_eq [53 + 24 * d] Sa T := by
    rw [← hT]
    exact e_tr (e_sI (by simp)) (e_tr (e_sI (by simp)) (e_tr (e_sI (by simp)) (e_sI (by simp))))
  have qall : xs_eq [69 + 24 * d, 70 + 24 * d, 52 + 24 * d, 53 + 24 * d, 54 + 24 * d, 57 + 24 * d, 58 + 24 * d, 59 + 24 * d, 62 + 24 * d, 64 + 24 * d] S T := by
    rw [show 54 + 24 * d + 3 = 57 + 24 * d by omega, show 54 + 24 * d + 4 = 58 + 24 * d by omega, show 54 + 24 * d + 5 = 59 + 24 * d by omega, show 54 + 24 * d + 8 = 62 + 24 * d by omega, show 54 + 24 * d + 10 = 64 + 24 * d by omega] at qa
    exact e_tr (e_mono qq5 (by simp)) (e_tr (e_mono q8 (by simp)) (e_tr (e_mono qa (by simp)) (e_mono qt (by simp))))
  refine ⟨T, rfl, ag_eq qall fun q hq => ?_, Or.inr ⟨⟨by omega, hc⟩, e_ses qt (by simp <;> omega) (by simp <;> omega) (by simp <;> omega) (by simp <;> omega) (by simp <;> omega) sa, by rw [← hT, x_fN (by decide), x_fN (by decide), x_fN (by decide), x_fN (by decide), pa, ← hS8, x_fI], by rw [← hT, x_fN (by decide), x_fN (by decide), x_fN (by decide), x_fI]; rfl, by rw [← hT, x_fN (by decide), x_fN (by decide), x_fI], by rw [← hT, x_fN (by decide), x_fI]; rfl, by rw [← hT, x_fI]; rfl, fun j h1 h2 h3 h4 h5 => by rw [← hT, x_fN h5, x_fN h1, x_fN h4, x_fN h3, pa, ← hS8, x_fN h2, qq5.1 _ (by simp <;> omega)], fun q hq => qall.1 q (by simp; omega), qall.2⟩⟩
  intro hm
  simp at hm
  rcases hm with h | h | h | h | h | h | h | h | h | h
  · exact hq.1 (Or.inl ⟨d, hd, by omega⟩)
  · exact hq.1 (Or.inl ⟨d, hd, by omega⟩)
  · exact hq.1 (Or.inl ⟨d, hd, by omega⟩)
  · exact hq.2 (by unfold pD; omega)
  · exact hq.2 (by unfold pD; omega)
  · exact hq.2 (by unfold pD; omega)
  · exact hq.2 (by unfold pD; omega)
  · exact hq.2 (by unfold pD; omega)
  · exact hq.2 (by unfold pD; omega)
  · exact hq.1 (Or.inl ⟨d, hd, by omega⟩)
