/-! CMAC, and the class's way -/
def yK0 (W : Nat → Nat) : Nat → Nat := yEnc W fun _ => 0
def yDb (z : Nat → Nat) : Nat → Nat := fun i => if i < 15 then 2 * z i % 256 + z (i + 1) / 128 else (2 * z i % 256) ^^^ (z 0 / 128 * 135)
def yDb0 (z : Nat → Nat) : Nat → Nat := fun i => 2 * z i % 256 + (if i < 15 then z (i + 1) / 128 else 0)
def yK1 (W : Nat → Nat) : Nat → Nat := yDb (yK0 W)
def yK2 (W : Nat → Nat) : Nat → Nat := yDb (yDb (yK0 W))
def yChain (W m : Nat → Nat) : Nat → (Nat → Nat)
  | 0 => fun _ => 0
  | j + 1 => yEnc W fun i => yChain W m j i ^^^ m (16 * j + i)
def yLast (m : Nat → Nat) (n q : Nat) : Nat → Nat := fun i => if i < n - 16 * q then m (16 * q + i) else if i = n - 16 * q then 128 else 0
def yMac (W m : Nat → Nat) (n : Nat) : Nat → Nat := yEnc W fun i => (yChain W m ((n - 1) / 16) i ^^^ yLast m n ((n - 1) / 16) i) ^^^ (if n - 16 * ((n - 1) / 16) < 16 then yK2 W else yK1 W) i
theorem y_b_db {z : Nat → Nat} (h : yB 16 z) : yB 16 (yDb z) := fun i hi => by
  have h0 := h 0 (by decide)
  unfold yDb
  split
  · have := h (i + 1) (by omega)
    omega
  · refine y_xlt (by omega) (by omega)
theorem y_b_0 : yB 16 fun _ => 0 := fun _ _ => (by decide : 0 < 256)
theorem y_b_k0 {W : Nat → Nat} (hW : yB 176 W) : yB 16 (yK0 W) := y_b_enc hW y_b_0
theorem y_b_k1 {W : Nat → Nat} (hW : yB 176 W) : yB 16 (yK1 W) := y_b_db (y_b_k0 hW)
theorem y_b_k2 {W : Nat → Nat} (hW : yB 176 W) : yB 16 (yK2 W) := y_b_db (y_b_k1 hW)
theorem y_b_chain {W m : Nat → Nat} (hW : yB 176 W) : ∀ j, (∀ i, i < 16 * j → m i < 256) → yB 16 (yChain W m j)
  | 0, _ => y_b_0
  | j + 1, hm => y_b_enc hW fun i hi => y_xlt (y_b_chain hW j (fun i hi => hm i (by omega)) i hi) (hm _ (by omega))
theorem y_b_last {m : Nat → Nat} {n q : Nat} (hm : ∀ i, i < n → m i < 256) : yB 16 (yLast m n q) := fun i _ => by
  unfold yLast
  split
  · exact hm _ (by omega)
  · split <;> decide
theorem y_b_mac {W m : Nat → Nat} {n : Nat} (hW : yB 176 W) (hm : ∀ i, i < n → m i < 256) : yB 16 (yMac W m n) := by
  refine y_b_enc hW fun i hi => y_xlt (y_xlt (y_b_chain hW _ (fun i hi => hm i (by omega)) i hi) (y_b_last hm i hi)) ?_
  split
  · exact y_b_k2 hW i hi
  · exact y_b_k1 hW i hi
theorem m_sI {S : xs_T} {p n j : Nat} {g g2 : Nat → Int32} {v : Int32} (hj : j < n) (hv : v = g2 j) (h : ∀ i, i < n → i ≠ j → g i = g2 i) : xs_sI (xs_mp S p 0 n g) p j v = xs_mp S p 0 n g2 := by
  unfold xs_mp
  rw [p_psI]
  refine congrArg (xs_pI S p) (funext fun i => ?_)
  unfold upd
  dsimp only
  by_cases h1 : i = j
  · subst h1
    rw [if_pos rfl, if_pos (by omega), hv, Nat.sub_zero]
  · rw [if_neg h1]
    by_cases h2 : 0 ≤ i ∧ i < 0 + n
    · rw [if_pos h2, if_pos h2, Nat.sub_zero, h i (by omega) h1]
    · rw [if_neg h2, if_neg h2]
theorem x_moveUp {S : xs_T} {a : Nat} {z : Nat → Nat} (ha : xs_ln a = 16) (hz : xs_by S a 0 16 z) : xf_M_moveUp a S = some (xs_mp S a 0 16 fun i => nI (yDb z i)) := by
  have hb : yB 16 z := fun i hi => (hz i hi).2
  have h0 := hb 0 (by decide)
  unfold xf_M_moveUp
  rw [show xs_rd S a 0 = some (S.1 a 0) from x_rd (j := 0) (by omega), Option.bind_some, b_at hz (by decide), n_ush (by omega) 7 7 (by decide)]
  have e := xl_map (fun f i (T : xs_T) => xf_M_moveUp_9 a f (nI (z 0 / 2 ^ 7)) (nI i) T) S a 0 16 (fun i => nI (yDb0 z i)) (fun f i hi => by
    show xf_M_moveUp_9 a (f + 1) (nI (z 0 / 2 ^ 7)) (nI i) _ = xf_M_moveUp_9 a f (nI (z 0 / 2 ^ 7)) (nI (i + 1)) _
    generalize hT : (xs_mp S a 0 i fun i => nI (yDb0 z i)) = T
    have at' : ∀ j, i ≤ j → j < 16 → T.1 a j = nI (z j) := fun j h1 h2 => by
      rw [← hT, m_out (by omega)]
      exact b_at hz h2
    have bi := hb i hi
    have fin : ∀ x, x < 256 → xf_M_moveUp_32 a (xf_M_moveUp_9 a f) (nI (z 0 / 2 ^ 7)) (nI i) (nI x) T = xf_M_moveUp_9 a f (nI (z 0 / 2 ^ 7)) (nI (i + 1)) (xs_sI T a i (nI (2 * z i % 256 + x / 128))) := fun x hx => by
      unfold xf_M_moveUp_32
      rw [x_rd (by omega), Option.bind_some, at' i (Nat.le_refl _) hi, n_shl _ 1 (by decide), n_ush (by omega) 7 7 (by decide), n_or, pk_andN (by rw [Nat.or_comm, y_orp (k := 1) (by omega)]; omega) 8 (by decide), Nat.or_comm, y_orp (k := 1) (by omega), x_wr (by omega), Option.bind_some, nI_1, show (x / 2 ^ 7 + z i * 2 ^ 1) % 2 ^ 8 = 2 * z i % 256 + x / 128 by omega]
    rw [xf_M_moveUp_9, if_neg (show ¬ (16 : Int32) ≤ nI i from nI_ge (b := 16) hi (by decide)), nI_1, Nat.zero_add]
    by_cases h15 : i < 15
    · have b1 := hb (i + 1) (by omega)
      rw [if_neg (show ¬ (16 : Int32) ≤ nI (i + 1) from nI_ge (b := 16) (by omega) (by decide)), x_rd (by omega), Option.bind_some, at' (i + 1) (by omega) (by omega), fin _ b1]
      unfold yDb0
      rw [if_pos h15]
    · rw [if_pos (show (16 : Int32) ≤ nI (i + 1) from nI_le (a := 16) (by omega) (by omega)), show xf_M_moveUp_32 a (xf_M_moveUp_9 a f) (nI (z 0 / 2 ^ 7)) (nI i) 0 T = _ from fin 0 (by decide)]
      unfold yDb0
      rw [if_neg h15]) xs_fuel (by decide)
  refine Eq.trans e ?_
  show xf_M_moveUp_9 a (983 + 1) (nI (z 0 / 2 ^ 7)) (nI 16) _ = _
  rw [xf_M_moveUp_9, if_pos (show (16 : Int32) ≤ nI 16 from nI_le (a := 16) (Nat.le_refl _) (by decide))]
  have e15 : (xs_mp S a 0 16 fun i => nI (yDb0 z i)).1 a 15 = nI (yDb0 z 15) := m_in (fr := 0) (j := 15) (by decide)
  rw [show ∀ T, xs_rd T a 15 = some (T.1 a 15) from fun T => x_rd (j := 15) (by omega), Option.bind_some, e15, show nI (z 0 / 2 ^ 7) * 135 = nI (z 0 / 2 ^ 7 * 135) from pk_mul _ 135, n_xor, show ∀ T v, xs_wr T a 15 v = some (xs_sI T a 15 v) from fun T v => x_wr (j := 15) (by omega), Option.bind_some]
  refine congrArg some (m_sI (by decide) ?_ ?_)
  · unfold yDb yDb0
    rw [if_neg (by decide), if_neg (by decide), Nat.add_zero]
  · intro i hi h15
    unfold yDb yDb0
    rw [if_pos (by omega), if_pos (by omega)]
theorem by_cg {S : xs_T} {p fr n : Nat} {s t : Nat → Nat} (h : ∀ i, i < n → s i = t i) (hs : xs_by S p fr n s) : xs_by S p fr n t := fun i hi => by
  rw [← h i hi]
  exact hs i hi
theorem x_kM {k : Nat} (h : xs_kd k = 4) : xs_ln (k + 2) = 44 ∧ xs_ln (k + 3) = 16 ∧ xs_ln (k + 4) = 16 ∧ xs_ln (k + 5) = 16 := (by decide +kernel : ∀ k ∈ [47, 55, 71, 79, 95, 103, 125, 141, 157], xs_ln (k + 2) = 44 ∧ xs_ln (k + 3) = 16 ∧ xs_ln (k + 4) = 16 ∧ xs_ln (k + 5) = 16) k (xs_k_M k (xs_kd_lt k (by rw [h]; decide)) h)
/-- the Mac at k has taken the key whose schedule is W -/
def xs_mac (S : xs_T) (k : Nat) (W : Nat → Nat) : Prop := xs_rk S (k + 2) W ∧ xs_by S (k + 3) 0 16 (yK1 W) ∧ xs_by S (k + 4) 0 16 (yK2 W)
theorem e_rk {ps : List Nat} {S T : xs_T} {p : Nat} {W : Nat → Nat} (h : xs_eq ps S T) (hp : p ∉ ps) (hr : xs_rk S p W) : xs_rk T p W := ⟨hr.1, fun j hj => by
  rw [h.1 p hp]
  exact hr.2 j hj⟩
theorem e_mac {ps : List Nat} {S T : xs_T} {k : Nat} {W : Nat → Nat} (h : xs_eq ps S T) (h2 : k + 2 ∉ ps) (h3 : k + 3 ∉ ps) (h4 : k + 4 ∉ ps) (hm : xs_mac S k W) : xs_mac T k W := ⟨e_rk h h2 hm.1, e_by h h3 hm.2.1, e_by h h4 hm.2.2⟩
theorem x_cpy {S : xs_T} {a b fr to n : Nat} (h1 : fr + n ≤ xs_ln a) (h2 : to + n ≤ xs_ln b) : xs_cpy S a (nI fr) b (nI to) (nI n) = some (xs_mp S b to n fun i => S.1 a (fr + i)) := by
  have l1 := xs_ln_le a
  have l2 := xs_ln_le b
  unfold xs_cpy
  rw [nI_clamp (n := fr) (by omega), nI_clamp (n := to) (by omega), nI_clamp (n := n) (by omega), if_neg]
  · refine congrArg some ?_
    unfold xs_mp xs_pI
    congr 2
  · intro h
    rcases h with h | h | h | h | h
    · exact nI_pos (by omega) h
    · exact nI_pos (by omega) h
    · exact nI_pos (by omega) h
    · omega
    · omega
theorem x_mac_take {S : xs_T} {k a : Nat} {key : Nat → Nat} (hk : xs_kd k = 4) (ha : 16 ≤ xs_ln a) (hs : xs_by S a 0 16 key) (h2 : a ≠ k + 2) :
    ∃ T, xf_M_takeKey k a S = some T ∧ xs_mac T k (ySch key) ∧ xs_eq [k + 2, k + 3, k + 4] S T := by
  obtain ⟨l2, l3, l4, l5⟩ := x_kM hk
  obtain ⟨g, e1, hW, hg⟩ := x_rk_take (k := k + 1) l2 ha h2 hs
  generalize ySch key = W at hW hg ⊢
  unfold xf_M_takeKey
  rw [e1, Option.bind_some, x_fill, Option.bind_some, l3]
  have q1 : xs_eq [k + 2, k + 3, k + 4] S (xs_pI S (k + 1 + 1) g) := e_pI (by simp)
  have r1 : xs_rk (xs_pI S (k + 1 + 1) g) (k + 2) W := ⟨hW, fun j hj => by
    show (xs_pI S (k + 2) g).1 (k + 2) j = _
    rw [p_at]
    exact hg j hj⟩
  generalize xs_pI S (k + 1 + 1) g = T1 at q1 r1 ⊢
  have q2 : xs_eq [k + 3] T1 (xs_mp T1 (k + 3) 0 16 fun _ => 0) := e_mp (by simp)
  have s2 : xs_by (xs_mp T1 (k + 3) 0 16 fun _ => 0) (k + 3) 0 16 (fun _ => 0) := m_by (s := fun _ => 0) y_b_0
  have r2 := e_rk q2 (by simp) r1
  generalize (xs_mp T1 (k + 3) 0 16 fun _ => 0) = T2 at q2 s2 r2 ⊢
  rw [show xf_C_encipher (k + 1) (k + 3) 0 T2 = _ from x_enc (k := k + 1) (fr := 0) (by omega) l2 (by omega) r2 s2, Option.bind_some]
  have q3 : xs_eq [k + 3] T2 (xs_mp T2 (k + 3) 0 16 fun i => nI (yEnc W (fun _ => 0) i)) := e_mp (by simp)
  have s3 : xs_by (xs_mp T2 (k + 3) 0 16 fun i => nI (yEnc W (fun _ => 0) i)) (k + 3) 0 16 (yK0 W) := m_by (y_b_k0 hW)
  have r3 := e_rk q3 (by simp) r2
  generalize (xs_mp T2 (k + 3) 0 16 fun i => nI (yEnc W (fun _ => 0) i)) = T3 at q3 s3 r3 ⊢
  rw [x_moveUp l3 s3, Option.bind_some]
  have q4 : xs_eq [k + 3] T3 (xs_mp T3 (k + 3) 0 16 fun i => nI (yDb (yK0 W) i)) := e_mp (by simp)
  have s4 : xs_by (xs_mp T3 (k + 3) 0 16 fun i => nI (yDb (yK0 W) i)) (k + 3) 0 16 (yK1 W) := m_by (y_b_k1 hW)
  have r4 := e_rk q4 (by simp) r3
  generalize (xs_mp T3 (k + 3) 0 16 fun i => nI (yDb (yK0 W) i)) = T4 at q4 s4 r4 ⊢
  rw [show xs_cpy T4 (k + 3) 0 (k + 4) 0 16 = _ from x_cpy (fr := 0) (to := 0) (n := 16) (by omega) (by omega), Option.bind_some]
  have q5 : xs_eq [k + 4] T4 (xs_mp T4 (k + 4) 0 16 fun i => T4.1 (k + 3) (0 + i)) := e_mp (by simp)
  have s5 : xs_by (xs_mp T4 (k + 4) 0 16 fun i => T4.1 (k + 3) (0 + i)) (k + 4) 0 16 (yK1 W) := fun i hi => ⟨by
    rw [m_in hi]
    exact (s4 i hi).1, (s4 i hi).2⟩
  have r5 := e_rk q5 (by simp) r4
  have t5 := e_by q5 (by simp) s4
  generalize (xs_mp T4 (k + 4) 0 16 fun i => T4.1 (k + 3) (0 + i)) = T5 at q5 s5 r5 t5 ⊢
  rw [x_moveUp l4 s5, Option.bind_some]
  have q6 : xs_eq [k + 4] T5 (xs_mp T5 (k + 4) 0 16 fun i => nI (yDb (yK1 W) i)) := e_mp (by simp)
  refine ⟨_, rfl, ⟨e_rk q6 (by simp) r5, e_by q6 (by simp) t5, m_by (y_b_k2 hW)⟩, ?_⟩
  exact e_tr q1 (e_tr (e_mono q2 (by simp)) (e_tr (e_mono q3 (by simp)) (e_tr (e_mono q4 (by simp)) (e_tr (e_mono q5 (by simp)) (e_mono q6 (by simp))))))
theorem x_comb {S : xs_T} {k a fr n : Nat} {c m : Nat → Nat} (hk : xs_kd k = 4) (hn : n ≤ 16) (hl : fr + n ≤ xs_ln a) (ha : a ≠ k + 5) (hc : xs_by S (k + 5) 0 16 c) (hm : xs_by S a fr n m) :
    ∃ T, xf_M_combine k a (nI fr) (nI n) S = some T ∧ xs_by T (k + 5) 0 16 (fun i => if i < n then c i ^^^ m i else c i) ∧ xs_eq [k + 5] S T := by
  have hL := xs_ln_le a
  obtain ⟨l2, l3, l4, l5⟩ := x_kM hk
  unfold xf_M_combine
  refine ⟨xs_mp S (k + 5) 0 n fun i => nI (c i ^^^ m i), Eq.trans (xl_map (fun f i (T : xs_T) => xf_M_combine_3 k a (nI fr) (nI n) f (nI i) T) S (k + 5) 0 n (fun i => nI (c i ^^^ m i)) (fun f i hi => ?_) xs_fuel (by unfold xs_fuel; omega)) ?_, fun i hi => ?_, e_mp (by simp)⟩
  · show xf_M_combine_3 k a (nI fr) (nI n) (f + 1) (nI i) _ = xf_M_combine_3 k a (nI fr) (nI n) f (nI (i + 1)) _
    generalize hT : (xs_mp S (k + 5) 0 i fun i => nI (c i ^^^ m i)) = T
    have e1 : T.1 (k + 5) i = nI (c i) := by
      rw [← hT, m_out (by omega)]
      exact b_at hc (by omega)
    have e2 : T.1 a (fr + i) = nI (m i) := by
      rw [← hT, m_ne ha]
      exact (hm i hi).1
    rw [xf_M_combine_3, if_neg (nI_ge hi (by omega)), x_rd (by omega), Option.bind_some, nI_add, x_rd (by omega), Option.bind_some, x_wr (by omega), Option.bind_some, e1, e2, n_xor, nI_1, Nat.zero_add]
  · show xf_M_combine_3 k a (nI fr) (nI n) (xs_fuel - n) (nI n) _ = _
    rw [show xs_fuel - n = (999 - n) + 1 by unfold xs_fuel; omega, xf_M_combine_3, if_pos (nI_le (Nat.le_refl _) (by omega))]
  · have bc := (hc i hi).2
    by_cases h : i < n
    · dsimp only
      rw [m_in h, if_pos h]
      exact ⟨rfl, y_xlt bc (hm i h).2⟩
    · dsimp only
      rw [m_out (by omega), if_neg h]
      exact hc i hi
theorem x_code {S : xs_T} {k a n : Nat} {W m : Nat → Nat} (hk : xs_kd k = 4) (hM : xs_mac S k W) (h1 : 1 ≤ n) (hl : n ≤ xs_ln a) (ha : a ≠ k + 5) (hm : xs_by S a 0 n m) :
    ∃ T, xf_M_codeOf k a (nI n) S = some (nI (yNum (yMac W m n) 4), T) ∧ xs_eq [k + 5] S T := by
  have hL := xs_ln_le a
  obtain ⟨l2, l3, l4, l5⟩ := x_kM hk
  have hW := hM.1.1
  have hmb : ∀ i, i < n → m i < 256 := fun i hi => (hm i hi).2
  unfold xf_M_codeOf
  rw [x_fill, Option.bind_some, l5]
  have q1 : xs_eq [k + 5] S (xs_mp S (k + 5) 0 16 fun _ => 0) := e_mp (by simp)
  have s1 : xs_by (xs_mp S (k + 5) 0 16 fun _ => 0) (k + 5) 0 16 (yChain W m 0) := m_by (s := fun _ => 0) y_b_0
  generalize (xs_mp S (k + 5) 0 16 fun _ => 0) = T1 at q1 s1 ⊢
  have nm : ∀ x, x ≠ k + 5 → x ∉ [k + 5] := fun x h hx => h (by simpa using hx)
  have enc : ∀ (T : xs_T) (u : Nat → Nat), xs_eq [k + 5] S T → xs_by T (k + 5) 0 16 u → xf_C_encipher (k + 1) (k + 5) 0 T = some (xs_mp T (k + 5) 0 16 fun i => nI (yEnc W u i)) := fun T u hq hu =>
    x_enc (k := k + 1) (fr := 0) (by omega) l2 (by omega) (e_rk hq (by simp) hM.1) hu
  obtain ⟨T2, ⟨s2, q2⟩, e2⟩ := xl_for (fun f j (T : xs_T) => xf_M_codeOf_10 k a (nI n) f (nI (16 * j)) T) (fun j T => xs_by T (k + 5) 0 16 (yChain W m j) ∧ xs_eq [k + 5] S T) ((n - 1) / 16)
    (fun f j T hj hT => by
      obtain ⟨sT, qT⟩ := hT
      obtain ⟨T3, e3, s3, q3⟩ := x_comb (a := a) (fr := 16 * j) (n := 16) (m := fun i => m (16 * j + i)) hk (by decide) (by omega) ha sT (fun i hi => by
        rw [qT.1 a (nm a ha)]
        have := hm (16 * j + i) (by omega)
        rw [Nat.zero_add] at this
        exact this)
      have q3' := e_tr qT q3
      have s3' : xs_by T3 (k + 5) 0 16 (fun i => yChain W m j i ^^^ m (16 * j + i)) := by_cg (fun i hi => if_pos hi) s3
      refine ⟨xs_mp T3 (k + 5) 0 16 fun i => nI (yEnc W (fun i => yChain W m j i ^^^ m (16 * j + i)) i), ⟨m_by (y_b_chain hW (j + 1) (fun i hi => hmb i (by omega))), e_tr q3' (e_mp (by simp))⟩, ?_⟩
      show xf_M_codeOf_10 k a (nI n) (f + 1) (nI (16 * j)) T = xf_M_codeOf_10 k a (nI n) f (nI (16 * (j + 1))) _
      rw [xf_M_codeOf_10, pk_sub (by omega), if_neg (show ¬ nI (n - 16 * j) ≤ (16 : Int32) from nI_ge (a := 16) (by omega) (by omega)), show xf_M_combine k a (nI (16 * j)) 16 T = _ from e3, Option.bind_some, enc T3 _ q3' s3', Option.bind_some, show nI (16 * j) + 16 = nI (16 * (j + 1)) from nI_add _ 16]) ((n - 1) / 16) 0 xs_fuel T1 (Nat.zero_add _) (by unfold xs_fuel; omega) ⟨s1, q1⟩
  have fin : ∀ (t1 : Nat) (K b : Nat → Nat) (T : xs_T), xs_eq [k + 5] S T → t1 ≠ k + 5 → xs_ln t1 = 16 → xs_by T (k + 5) 0 16 b → xs_by T t1 0 16 K → ∃ T', xf_M_codeOf_96 k a (nI n) t1 T = some (nI (yNum (yEnc W fun i => b i ^^^ K i) 4), T') ∧ xs_eq [k + 5] S T' := by
    intro t1 K b T hq ht hlt hb hK
    obtain ⟨T3, e3, s3, q3⟩ := x_comb (a := t1) (fr := 0) (n := 16) (m := K) hk (by decide) (by omega) ht hb hK
    have s3' : xs_by T3 (k + 5) 0 16 (fun i => b i ^^^ K i) := by_cg (fun i hi => if_pos hi) s3
    have q3' := e_tr hq q3
    unfold xf_M_codeOf_96
    rw [show xf_M_combine k t1 0 16 T = _ from e3, Option.bind_some, enc T3 _ q3' s3', Option.bind_some]
    have s4 : xs_by (xs_mp T3 (k + 5) 0 16 fun i => nI (yEnc W (fun i => b i ^^^ K i) i)) (k + 5) 0 16 (yEnc W fun i => b i ^^^ K i) := m_by (y_b_enc hW fun i hi => (s3' i hi).2)
    rw [show xf_W_number (k + 5) 0 4 _ = _ from x_num (fr := 0) (n := 4) (by decide) (by omega) (fun i hi => s4 i (by omega)), Option.bind_some]
    exact ⟨_, rfl, e_tr q3' (e_mp (by simp))⟩
  obtain ⟨T3, e3, s3, q3⟩ := x_comb (a := a) (fr := 16 * ((n - 1) / 16)) (n := n - 16 * ((n - 1) / 16)) (m := fun i => m (16 * ((n - 1) / 16) + i)) hk (by omega) (by omega) ha s2 (fun i hi => by
    rw [q2.1 a (nm a ha)]
    have := hm (16 * ((n - 1) / 16) + i) (by omega)
    rw [Nat.zero_add] at this
    exact this)
  have q3' := e_tr q2 q3
  rw [show xf_M_codeOf_10 k a (nI n) xs_fuel 0 T1 = _ from e2, show xs_fuel - (n - 1) / 16 = (999 - (n - 1) / 16) + 1 by unfold xs_fuel; omega, xf_M_codeOf_10, pk_sub (by omega), if_pos (show nI (n - 16 * ((n - 1) / 16)) ≤ (16 : Int32) from nI_le (b := 16) (by omega) (by decide)), e3, Option.bind_some]
  unfold yMac
  by_cases h16 : n - 16 * ((n - 1) / 16) < 16
  · rw [if_neg (show ¬ (16 : Int32) ≤ nI (n - 16 * ((n - 1) / 16)) from nI_ge (b := 16) h16 (by decide)), x_rd (by omega), Option.bind_some, b_at s3 h16, if_neg (Nat.lt_irrefl _), show (128 : Int32) = nI 128 from rfl, n_xor, x_wr (by omega), Option.bind_some]
    unfold xf_M_codeOf_77
    rw [if_neg (show ¬ (16 : Int32) ≤ nI (n - 16 * ((n - 1) / 16)) from nI_ge (b := 16) h16 (by decide)), if_pos h16]
    have q4 : xs_eq [k + 5] T3 (xs_sI T3 (k + 5) (n - 16 * ((n - 1) / 16)) (nI (yChain W m ((n - 1) / 16) (n - 16 * ((n - 1) / 16)) ^^^ 128))) := e_sI (by simp)
    have q4' := e_tr q3' q4
    refine fin (k + 4) (yK2 W) (fun i => yChain W m ((n - 1) / 16) i ^^^ yLast m n ((n - 1) / 16) i) _ q4' (by omega) l4 (fun i hi => ?_) (e_by q4' (by simp) hM.2.2)
    have bc := (s2 i hi).2
    refine ⟨?_, y_xlt bc (y_b_last hmb i hi)⟩
    rw [Nat.zero_add, xs_sI_at]
    unfold yLast
    dsimp only
    by_cases h1 : i = n - 16 * ((n - 1) / 16)
    · subst h1
      rw [pk_us, if_neg (Nat.lt_irrefl _), if_pos rfl]
    · rw [pk_un h1, b_at s3 hi]
      by_cases h2 : i < n - 16 * ((n - 1) / 16)
      · rw [if_pos h2, if_pos h2]
      · rw [if_neg h2, if_neg h2, if_neg h1, Nat.xor_zero]
  · rw [if_pos (show (16 : Int32) ≤ nI (n - 16 * ((n - 1) / 16)) from nI_le (a := 16) (by omega) (by omega))]
    unfold xf_M_codeOf_77
    rw [if_pos (show (16 : Int32) ≤ nI (n - 16 * ((n - 1) / 16)) from nI_le (a := 16) (by omega) (by omega)), if_neg h16]
    refine fin (k + 3) (yK1 W) (fun i => yChain W m ((n - 1) / 16) i ^^^ yLast m n ((n - 1) / 16) i) _ q3' (by omega) l3 (by_cg (fun i hi => ?_) s3) (e_by q3' (by simp) hM.2.1)
    unfold yLast
    rw [if_pos (by omega), if_pos (by omega)]
