/-! the reference's CMAC -/
theorem r_doubled {S : xs_T} {z : Nat → Nat} (hz : xs_by S 206 0 16 z) : xf_R_doubled 200 S = some (xs_mp S 206 0 16 fun i => nI (yDb z i)) := by
  have hb : yB 16 z := fun i hi => (hz i hi).2
  have h0 := hb 0 (by decide)
  have main : ∀ t0 : Int32, (t0 = 0 ∧ z 0 < 128) ∨ (t0 = 1 ∧ 128 ≤ z 0) → xf_R_doubled_16 200 t0 S = some (xs_mp S 206 0 16 fun i => nI (yDb z i)) := by
    intro t0 ht
    unfold xf_R_doubled_16
    have e := xl_map (fun f i (T : xs_T) => xf_R_doubled_19 200 f t0 (nI i) T) S 206 0 16 (fun i => nI (yDb0 z i)) (fun f i hi => by
      show xf_R_doubled_19 200 (f + 1) t0 (nI i) _ = xf_R_doubled_19 200 f t0 (nI (i + 1)) _
      generalize hT : (xs_mp S 206 0 i fun i => nI (yDb0 z i)) = T
      have rd : ∀ j, i ≤ j → j < 16 → xs_rd T (200 + 6) (nI j) = some (nI (z j)) := fun j h1 h2 => by
        rw [x_rd (k := 200 + 6) (show j < 16 from h2)]
        show some (T.1 206 j) = _
        rw [← hT, m_out (by omega), b_at hz h2]
      have bi := hb i hi
      rw [xf_R_doubled_19, if_neg (show ¬ (16 : Int32) ≤ nI i from nI_ge (b := 16) hi (by decide)), rd i (Nat.le_refl _) hi, Option.bind_some, show (2 : Int32) * nI (z i) = nI (2 * z i) from pk_mul 2 _, pk_andN (by omega) 8 (by decide), Nat.zero_add]
      by_cases h15 : i < 15
      · have b1 := hb (i + 1) (by omega)
        rw [if_neg (show ¬ (15 : Int32) ≤ nI i from nI_ge (b := 15) h15 (by decide)), nI_1, rd (i + 1) (by omega) (by omega), Option.bind_some, pk_shrN (by omega) _ 7 (by decide)]
        unfold xf_R_doubled_63
        rw [n_or, x_wr (k := 200 + 6) (show i < 16 from hi), Option.bind_some, nI_1]
        unfold yDb0
        rw [if_pos h15, show (2 * z i % 2 ^ 8 ||| z (i + 1) / 2 ^ 7) = 2 * z i % 256 + z (i + 1) / 128 by
          rw [show 2 * z i % 2 ^ 8 = (z i % 128) * 2 ^ 1 by omega, Nat.or_comm, y_orp (k := 1) (by omega)]
          omega]
      · rw [if_pos (show (15 : Int32) ≤ nI i from nI_le (a := 15) (by omega) (by omega))]
        unfold xf_R_doubled_63
        rw [show ∀ x : Nat, nI x ||| 0 = nI x from fun x => Int32.or_zero, x_wr (k := 200 + 6) (show i < 16 from hi), Option.bind_some, nI_1]
        unfold yDb0
        rw [if_neg h15]
        rfl) xs_fuel (by decide)
    refine Eq.trans e ?_
    show xf_R_doubled_19 200 (983 + 1) t0 (nI 16) _ = _
    rw [xf_R_doubled_19, if_pos (show (16 : Int32) ≤ nI 16 from nI_le (a := 16) (Nat.le_refl _) (by decide))]
    have e15 : (xs_mp S 206 0 16 fun i => nI (yDb0 z i)).1 206 15 = nI (yDb0 z 15) := m_in (fr := 0) (j := 15) (by decide)
    have rd15 : xs_rd (xs_mp S 206 0 16 fun i => nI (yDb0 z i)) (200 + 6) 15 = some (nI (yDb0 z 15)) := by
      rw [show xs_rd (xs_mp S 206 0 16 fun i => nI (yDb0 z i)) (200 + 6) 15 = _ from x_rd (k := 206) (j := 15) (by decide), e15]
    have fin : ∀ v, v = nI (yDb z 15) → (xs_wr (xs_mp S 206 0 16 fun i => nI (yDb0 z i)) (200 + 6) 15 v).bind (fun S6 => some S6) = some (xs_mp S 206 0 16 fun i => nI (yDb z i)) := by
      intro v hv
      rw [show xs_wr (xs_mp S 206 0 16 fun i => nI (yDb0 z i)) (200 + 6) 15 v = _ from x_wr (k := 206) (j := 15) (by decide), Option.bind_some]
      refine congrArg some (m_sI (by decide) hv ?_)
      intro i hi h15
      unfold yDb yDb0
      rw [if_pos (by omega), if_pos (by omega)]
    rcases ht with ⟨rfl, hz0⟩ | ⟨rfl, hz0⟩
    · rw [if_pos rfl, rd15, Option.bind_some]
      refine fin _ ?_
      unfold yDb yDb0
      rw [if_neg (by decide), if_neg (by decide), show z 0 / 128 = 0 by omega, Nat.zero_mul, Nat.xor_zero, Nat.add_zero]
    · rw [if_neg (by decide), rd15, Option.bind_some, show (135 : Int32) = nI 135 from rfl, n_xor]
      refine fin _ ?_
      unfold yDb yDb0
      rw [if_neg (by decide), if_neg (by decide), show z 0 / 128 = 1 by omega, Nat.one_mul, Nat.add_zero]
  unfold xf_R_doubled
  rw [show xs_rd S (200 + 6) 0 = _ from x_rd (k := 206) (j := 0) (by decide), Option.bind_some, b_at hz (by decide)]
  by_cases h : z 0 < 128
  · rw [if_pos (show nI (z 0) ≤ (127 : Int32) from nI_le (b := 127) (by omega) (by decide))]
    exact main 0 (Or.inl ⟨rfl, h⟩)
  · rw [if_neg (show ¬ nI (z 0) ≤ (127 : Int32) from nI_ge (a := 127) (by omega) (by omega))]
    exact main 1 (Or.inr ⟨rfl, by omega⟩)
theorem e_key {ps : List Nat} {S T : xs_T} (h : xs_eq ps S T) (hp : 207 ∉ ps) {i : Nat} {key : Nat → Nat} (hk : xs_by S 207 (16 * i) 16 key) : xs_by T 207 (16 * i) 16 key := e_by h hp hk
theorem y_enc_cg {W u v : Nat → Nat} (h : ∀ i, i < 16 → u i = v i) : ∀ i, i < 16 → yEnc W u i = yEnc W v i := by
  have hn : ∀ n i, i < 16 → yEncN W n u i = yEncN W n v i := by
    intro n
    induction n with
    | zero =>
      intro i hi
      show u i ^^^ _ = v i ^^^ _
      rw [h i hi]
    | succ n ih =>
      intro i hi
      have hs : ∀ i, i < 16 → ySub (yEncN W n u) i = ySub (yEncN W n v) i := fun i _ => by
        unfold ySub
        rw [ih _ (Nat.mod_lt _ (by decide))]
      show yMix (ySub (yEncN W n u)) i ^^^ _ = yMix (ySub (yEncN W n v)) i ^^^ _
      unfold yMix
      rw [hs i hi, hs _ (by omega), hs _ (by omega), hs _ (by omega)]
  intro i hi
  show ySub (yEncN W 9 u) i ^^^ _ = ySub (yEncN W 9 v) i ^^^ _
  unfold ySub
  rw [hn 9 _ (Nat.mod_lt _ (by decide))]
theorem r_mac {S : xs_T} {i n : Nat} {key m : Nat → Nat} (hx : xs_bx S) (hi : i < 15) (hk : xs_by S 207 (16 * i) 16 key) (h1 : 1 ≤ n) (hn : n ≤ 48) (hm : xs_by S 208 0 n m) :
    ∃ T, xf_R_mac 200 (nI i) (nI n) S = some T ∧ xs_by T 206 0 16 (yMac (ySch key) m n) ∧ xs_eq [203, 204, 205, 206, 208] S T := by
  have hkb : yB 16 key := fun j hj => (hk j hj).2
  have hW := y_sc_lt (y_sch (key := key)) hkb
  have hmb : ∀ i, i < n → m i < 256 := fun i hi => (hm i hi).2
  have ciph : ∀ (T : xs_T) (u : Nat → Nat), xs_eq [203, 204, 205, 206, 208] S T → xs_by T 204 0 16 u → ∃ T2, xf_R_cipher 200 (nI i) T = some T2 ∧ xs_by T2 204 0 16 (yEnc (ySch key) u) ∧ xs_eq [203, 204, 205] T T2 := fun T u hq hu =>
    r_cipher (e_bx hq (by decide) (by decide) hx) hi (e_key hq (by decide) hk) hu
  generalize ySch key = W at hW ciph ⊢
  unfold xf_R_mac
  -- the block is cleared
  have e := xl_map (fun f j (T : xs_T) => xf_R_mac_2 200 (nI i) (nI n) f (nI j) T) S 204 0 16 (fun _ => nI 0) (fun f j hj => by
    show xf_R_mac_2 200 (nI i) (nI n) (f + 1) (nI j) _ = xf_R_mac_2 200 (nI i) (nI n) f (nI (j + 1)) _
    rw [xf_R_mac_2, if_neg (show ¬ (16 : Int32) ≤ nI j from nI_ge (b := 16) hj (by decide)), x_wr (k := 200 + 4) (show j < 16 from hj), Option.bind_some, nI_1, Nat.zero_add]
    rfl) xs_fuel (by decide)
  rw [show xf_R_mac_2 200 (nI i) (nI n) xs_fuel 0 S = _ from e]
  have q1 : xs_eq [203, 204, 205, 206, 208] S (xs_mp S 204 0 16 fun _ => nI 0) := e_mp (by decide)
  have s1 : xs_by (xs_mp S 204 0 16 fun _ => nI 0) 204 0 16 (fun _ => 0) := m_by (s := fun _ => 0) y_b_0
  generalize (xs_mp S 204 0 16 fun _ => nI 0) = T1 at q1 s1 ⊢
  show ∃ T, xf_R_mac_2 200 (nI i) (nI n) (983 + 1) (nI 16) T1 = _ ∧ _
  rw [xf_R_mac_2, if_pos (show (16 : Int32) ≤ nI 16 from nI_le (a := 16) (Nat.le_refl _) (by decide))]
  obtain ⟨T2, e2, s2, q2⟩ := ciph T1 _ q1 s1
  rw [e2, Option.bind_some]
  have q2' := e_tr q1 (e_mono q2 (by decide))
  -- code := block
  have e3 := xl_map (fun f j (T : xs_T) => xf_R_mac_28 200 (nI i) (nI n) f (nI j) T) T2 206 0 16 (fun j => nI (yK0 W j)) (fun f j hj => by
    show xf_R_mac_28 200 (nI i) (nI n) (f + 1) (nI j) _ = xf_R_mac_28 200 (nI i) (nI n) f (nI (j + 1)) _
    generalize hT : (xs_mp T2 206 0 j fun j => nI (yK0 W j)) = T
    rw [xf_R_mac_28, if_neg (show ¬ (16 : Int32) ≤ nI j from nI_ge (b := 16) hj (by decide)), x_rd (k := 200 + 4) (show j < 16 from hj), Option.bind_some, show T.1 (200 + 4) j = nI (yK0 W j) by
      rw [← hT, m_ne (by decide)]
      exact b_at s2 hj, x_wr (k := 200 + 6) (show j < 16 from hj), Option.bind_some, nI_1, Nat.zero_add]) xs_fuel (by decide)
  rw [show xf_R_mac_28 200 (nI i) (nI n) xs_fuel 0 T2 = _ from e3]
  have q3 : xs_eq [203, 204, 205, 206, 208] S (xs_mp T2 206 0 16 fun j => nI (yK0 W j)) := e_tr q2' (e_mp (by decide))
  have s3 : xs_by (xs_mp T2 206 0 16 fun j => nI (yK0 W j)) 206 0 16 (yK0 W) := m_by (y_b_k0 hW)
  have m3 : xs_by (xs_mp T2 206 0 16 fun j => nI (yK0 W j)) 208 0 n m := e_by (e_tr (e_tr (e_mono (ps := [204]) (qs := [203, 204, 205, 206]) (by
    have : xs_eq [204] S T1 := by
      sorry
    exact this) (by decide)) (e_mono q2 (by decide))) (e_mp (by decide))) (by decide) hm
  sorry
