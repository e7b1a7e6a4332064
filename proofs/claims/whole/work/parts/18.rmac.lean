/-! the reference's CMAC -/
theorem r_doubled {S : xs_T} {z : Nat → Nat} (hz : xs_by S 206 0 16 z) : xf_R_doubled 200 S = some (xs_mp S 206 0 16 fun i => nI (yDb z i)) := by
  have hb : yB 16 z := fun i hi => (hz i hi).2
  have h0 := hb 0 (by decide)
  have main : ∀ t0 : Int32, (t0 = 0 ∧ z 0 < 128) ∨ (t0 = 1 ∧ 128 ≤ z 0) → xf_R_doubled_16 200 t0 S = some (xs_mp S 206 0 16 fun i => nI (yDb z i)) := by
    intro t0 ht
    unfold xf_R_doubled_16
    have e := xl_map (fun f i (T : xs_T) => xf_R_doubled_19 200 f t0 (nI i) T) S 206 0 16 (fun i => nI (yDb0 z i)) (fun f i hi => by
      show xf_R_doubled_19 200 (f + 1) t0 (nI i) _ = xf_R_doubled_19 200 f t0 (nI (i + 1)) _
      generalize hT : (xs_mp S 206 0 i fun i => nI (yDb0 z i)) = T
      have rd : ∀ j, i ≤ j → j < 16 → xs_rd T (200 + 6) (nI j) = some (nI (z j)) := fun j h1 h2 => by
        rw [x_rd (k := 200 + 6) (show j < 16 from h2)]
        show some (T.1 206 j) = _
        rw [← hT, m_out (by omega), b_at hz h2]
      have bi := hb i hi
      rw [xf_R_doubled_19, if_neg (show ¬ (16 : Int32) ≤ nI i from nI_ge (b := 16) hi (by decide)), rd i (Nat.le_refl _) hi, Option.bind_some, show (2 : Int32) * nI (z i) = nI (2 * z i) from pk_mul 2 _, pk_andN (by omega) 8 (by decide), Nat.zero_add]
      by_cases h15 : i < 15
      · have b1 := hb (i + 1) (by omega)
        rw [if_neg (show ¬ (15 : Int32) ≤ nI i from nI_ge (b := 15) h15 (by decide)), nI_1, rd (i + 1) (by omega) (by omega), Option.bind_some, pk_shrN (by omega) _ 7 (by decide)]
        unfold xf_R_doubled_63
        rw [n_or, x_wr (k := 200 + 6) (show i < 16 from hi), Option.bind_some, nI_1]
        unfold yDb0
        rw [if_pos h15, show (2 * z i % 2 ^ 8 ||| z (i + 1) / 2 ^ 7) = 2 * z i % 256 + z (i + 1) / 128 by
          rw [show 2 * z i % 2 ^ 8 = (z i % 128) * 2 ^ 1 by omega, Nat.or_comm, y_orp (k := 1) (by omega)]
          omega]
      · rw [if_pos (show (15 : Int32) ≤ nI i from nI_le (a := 15) (by omega) (by omega))]
        unfold xf_R_doubled_63
        rw [show ∀ x : Nat, nI x ||| 0 = nI x from fun x => Int32.or_zero, x_wr (k := 200 + 6) (show i < 16 from hi), Option.bind_some, nI_1]
        unfold yDb0
        rw [if_neg h15]
        rfl) xs_fuel (by decide)
    refine Eq.trans e ?_
    show xf_R_doubled_19 200 (983 + 1) t0 (nI 16) _ = _
    rw [xf_R_doubled_19, if_pos (show (16 : Int32) ≤ nI 16 from nI_le (a := 16) (Nat.le_refl _) (by decide))]
    have e15 : (xs_mp S 206 0 16 fun i => nI (yDb0 z i)).1 206 15 = nI (yDb0 z 15) := m_in (fr := 0) (j := 15) (by decide)
    have rd15 : xs_rd (xs_mp S 206 0 16 fun i => nI (yDb0 z i)) (200 + 6) 15 = some (nI (yDb0 z 15)) := by
      rw [show xs_rd (xs_mp S 206 0 16 fun i => nI (yDb0 z i)) (200 + 6) 15 = _ from x_rd (k := 206) (j := 15) (by decide), e15]
    have fin : ∀ v, v = nI (yDb z 15) → (xs_wr (xs_mp S 206 0 16 fun i => nI (yDb0 z i)) (200 + 6) 15 v).bind (fun S6 => some S6) = some (xs_mp S 206 0 16 fun i => nI (yDb z i)) := by
      intro v hv
      rw [show xs_wr (xs_mp S 206 0 16 fun i => nI (yDb0 z i)) (200 + 6) 15 v = _ from x_wr (k := 206) (j := 15) (by decide), Option.bind_some]
      refine congrArg some (m_sI (by decide) hv ?_)
      intro i hi h15
      unfold yDb yDb0
      rw [if_pos (by omega), if_pos (by omega)]
    rcases ht with ⟨rfl, hz0⟩ | ⟨rfl, hz0⟩
    · rw [if_pos rfl, rd15, Option.bind_some]
      refine fin _ ?_
      unfold yDb yDb0
      rw [if_neg (by decide), if_neg (by decide), show z 0 / 128 = 0 by omega, Nat.zero_mul, Nat.xor_zero, Nat.add_zero]
    · rw [if_neg (by decide), rd15, Option.bind_some, show (135 : Int32) = nI 135 from rfl, n_xor]
      refine fin _ ?_
      unfold yDb yDb0
      rw [if_neg (by decide), if_neg (by decide), show z 0 / 128 = 1 by omega, Nat.one_mul, Nat.add_zero]
  unfold xf_R_doubled
  rw [show xs_rd S (200 + 6) 0 = _ from x_rd (k := 206) (j := 0) (by decide), Option.bind_some, b_at hz (by decide)]
  by_cases h : z 0 < 128
  · rw [if_pos (show nI (z 0) ≤ (127 : Int32) from nI_le (b := 127) (by omega) (by decide))]
    exact main 0 (Or.inl ⟨rfl, h⟩)
  · rw [if_neg (show ¬ nI (z 0) ≤ (127 : Int32) from nI_ge (a := 127) (by omega) (by omega))]
    exact main 1 (Or.inr ⟨rfl, by omega⟩)
theorem e_key {ps : List Nat} {S T : xs_T} (h : xs_eq ps S T) (hp : 207 ∉ ps) {i : Nat} {key : Nat → Nat} (hk : xs_by S 207 (16 * i) 16 key) : xs_by T 207 (16 * i) 16 key := e_by h hp hk
theorem y_enc_cg {W u v : Nat → Nat} (h : ∀ i, i < 16 → u i = v i) : ∀ i, i < 16 → yEnc W u i = yEnc W v i := by
  have hn : ∀ n i, i < 16 → yEncN W n u i = yEncN W n v i := by
    intro n
    induction n with
    | zero =>
      intro i hi
      show u i ^^^ _ = v i ^^^ _
      rw [h i hi]
    | succ n ih =>
      intro i hi
      have hs : ∀ i, i < 16 → ySub (yEncN W n u) i = ySub (yEncN W n v) i := fun i _ => by
        unfold ySub
        rw [ih _ (Nat.mod_lt _ (by decide))]
      show yMix (ySub (yEncN W n u)) i ^^^ _ = yMix (ySub (yEncN W n v)) i ^^^ _
      unfold yMix
      rw [hs i hi, hs _ (by omega), hs _ (by omega), hs _ (by omega)]
  intro i hi
  show ySub (yEncN W 9 u) i ^^^ _ = ySub (yEncN W 9 v) i ^^^ _
  unfold ySub
  rw [hn 9 _ (Nat.mod_lt _ (by decide))]
theorem r_mac {S : xs_T} {i n : Nat} {key m : Nat → Nat} (hx : xs_bx S) (hi : i < 15) (hk : xs_by S 207 (16 * i) 16 key) (h1 : 1 ≤ n) (hn : n ≤ 48) (hm : xs_by S 208 0 n m) :
    ∃ T, xf_R_mac 200 (nI i) (nI n) S = some T ∧ xs_by T 206 0 16 (yMac (ySch key) m n) ∧ xs_eq [203, 204, 205, 206, 208] S T := by
  have hkb : yB 16 key := fun j hj => (hk j hj).2
  have hW := y_sc_lt (y_sch (key := key)) hkb
  have hmb : ∀ i, i < n → m i < 256 := fun i hi => (hm i hi).2
  have ciph : ∀ (T : xs_T) (u : Nat → Nat), xs_eq [203, 204, 205, 206, 208] S T → xs_by T 204 0 16 u → ∃ T2, xf_R_cipher 200 (nI i) T = some T2 ∧ xs_by T2 204 0 16 (yEnc (ySch key) u) ∧ xs_eq [203, 204, 205] T T2 := fun T u hq hu =>
    r_cipher (e_bx hq (by decide) (by decide) hx) hi (e_key hq (by decide) hk) hu
  generalize ySch key = W at hW ciph ⊢
  unfold xf_R_mac
  -- the block is cleared
  have e := xl_map (fun f j (T : xs_T) => xf_R_mac_2 200 (nI i) (nI n) f (nI j) T) S 204 0 16 (fun _ => nI 0) (fun f j hj => by
    show xf_R_mac_2 200 (nI i) (nI n) (f + 1) (nI j) _ = xf_R_mac_2 200 (nI i) (nI n) f (nI (j + 1)) _
    rw [xf_R_mac_2, if_neg (show ¬ (16 : Int32) ≤ nI j from nI_ge (b := 16) hj (by decide)), x_wr (k := 200 + 4) (show j < 16 from hj), Option.bind_some, nI_1, Nat.zero_add]
    rfl) xs_fuel (by decide)
  rw [show xf_R_mac_2 200 (nI i) (nI n) xs_fuel 0 S = _ from e]
  have q1 : xs_eq [203, 204, 205, 206] S (xs_mp S 204 0 16 fun _ => nI 0) := e_mp (by decide)
  have s1 : xs_by (xs_mp S 204 0 16 fun _ => nI 0) 204 0 16 (fun _ => 0) := m_by (s := fun _ => 0) y_b_0
  generalize (xs_mp S 204 0 16 fun _ => nI 0) = T1 at q1 s1 ⊢
  show ∃ T, xf_R_mac_2 200 (nI i) (nI n) (983 + 1) (nI 16) T1 = _ ∧ _
  rw [xf_R_mac_2, if_pos (show (16 : Int32) ≤ nI 16 from nI_le (a := 16) (Nat.le_refl _) (by decide))]
  obtain ⟨T2, e2, s2, q2⟩ := ciph T1 _ (e_mono q1 (by decide)) s1
  rw [e2, Option.bind_some]
  have q2' := e_tr q1 (e_mono q2 (by decide))
  -- code := block
  have e3 := xl_map (fun f j (T : xs_T) => xf_R_mac_28 200 (nI i) (nI n) f (nI j) T) T2 206 0 16 (fun j => nI (yK0 W j)) (fun f j hj => by
    show xf_R_mac_28 200 (nI i) (nI n) (f + 1) (nI j) _ = xf_R_mac_28 200 (nI i) (nI n) f (nI (j + 1)) _
    generalize hT : (xs_mp T2 206 0 j fun j => nI (yK0 W j)) = T
    rw [xf_R_mac_28, if_neg (show ¬ (16 : Int32) ≤ nI j from nI_ge (b := 16) hj (by decide)), x_rd (k := 200 + 4) (show j < 16 from hj), Option.bind_some, show T.1 (200 + 4) j = nI (yK0 W j) by
      rw [← hT, m_ne (by decide)]
      exact b_at s2 hj, x_wr (k := 200 + 6) (show j < 16 from hj), Option.bind_some, nI_1, Nat.zero_add]) xs_fuel (by decide)
  rw [show xf_R_mac_28 200 (nI i) (nI n) xs_fuel 0 T2 = _ from e3]
  have q3 : xs_eq [203, 204, 205, 206] S (xs_mp T2 206 0 16 fun j => nI (yK0 W j)) := e_tr q2' (e_mp (by decide))
  have s3 : xs_by (xs_mp T2 206 0 16 fun j => nI (yK0 W j)) 206 0 16 (yK0 W) := m_by (y_b_k0 hW)
  generalize (xs_mp T2 206 0 16 fun j => nI (yK0 W j)) = T3 at q3 s3 ⊢
  show ∃ T, xf_R_mac_28 200 (nI i) (nI n) (983 + 1) (nI 16) T3 = _ ∧ _
  rw [xf_R_mac_28, if_pos (show (16 : Int32) ≤ nI 16 from nI_le (a := 16) (Nat.le_refl _) (by decide)), r_doubled s3, Option.bind_some, if_neg (nI_ne0 (by omega) (by omega))]
  have q4 : xs_eq [203, 204, 205, 206] S (xs_mp T3 206 0 16 fun j => nI (yDb (yK0 W) j)) := e_tr q3 (e_mp (by decide))
  have s4 : xs_by (xs_mp T3 206 0 16 fun j => nI (yDb (yK0 W) j)) 206 0 16 (yK1 W) := m_by (y_b_k1 hW)
  generalize (xs_mp T3 206 0 16 fun j => nI (yDb (yK0 W) j)) = T4 at q4 s4 ⊢
  have m4 := e_by q4 (by decide) hm
  obtain ⟨q, hq⟩ : ∃ q, (n - 1) / 16 = q := ⟨_, rfl⟩
  rw [show nI n + 15 = nI (n + 15) from nI_add n 15, show nI (n + 15) / 16 = nI ((n + 15) / 16) from pk_div (d := 16) (by omega) (by decide) (by decide), show (n + 15) / 16 = q + 1 by omega]
  -- the blocks
  have tail : ∀ (T : xs_T) (p K : Nat → Nat), xs_eq [203, 204, 205, 206, 208] S T → xs_by T 208 0 (16 * (q + 1)) p → xs_by T 206 0 16 K → (∀ b, b < q → ∀ j, j < 16 → p (16 * b + j) = m (16 * b + j)) →
      ∃ T', xf_R_mac_136 200 (nI i) (nI n) (nI (q + 1)) T = some T' ∧ xs_by T' 206 0 16 (yEnc W fun j => (yChain W m q j ^^^ p (16 * q + j)) ^^^ K j) ∧ xs_eq [203, 204, 205, 206, 208] S T' := by
    intro T p K hT hp hK hpm
    unfold xf_R_mac_136
    have ea := xl_map (fun f j (T : xs_T) => xf_R_mac_139 200 (nI i) (nI n) f (nI (q + 1)) (nI j) T) T 204 0 16 (fun _ => nI 0) (fun f j hj => by
      show xf_R_mac_139 200 (nI i) (nI n) (f + 1) (nI (q + 1)) (nI j) _ = xf_R_mac_139 200 (nI i) (nI n) f (nI (q + 1)) (nI (j + 1)) _
      rw [xf_R_mac_139, if_neg (show ¬ (16 : Int32) ≤ nI j from nI_ge (b := 16) hj (by decide)), x_wr (k := 200 + 4) (show j < 16 from hj), Option.bind_some, nI_1, Nat.zero_add]
      rfl) xs_fuel (by decide)
    rw [show xf_R_mac_139 200 (nI i) (nI n) xs_fuel (nI (q + 1)) 0 T = _ from ea]
    have qa : xs_eq [204] T (xs_mp T 204 0 16 fun _ => nI 0) := e_mp (by decide)
    have sa : xs_by (xs_mp T 204 0 16 fun _ => nI 0) 204 0 16 (yChain W m 0) := m_by (s := fun _ => 0) y_b_0
    have pa := e_by qa (by decide) hp
    have ka := e_by qa (by decide) hK
    have qa' := e_tr hT (e_mono qa (by decide))
    generalize (xs_mp T 204 0 16 fun _ => nI 0) = Ta at qa' sa pa ka ⊢
    show ∃ T, xf_R_mac_139 200 (nI i) (nI n) (983 + 1) (nI (q + 1)) (nI 16) Ta = _ ∧ _
    rw [xf_R_mac_139, if_pos (show (16 : Int32) ≤ nI 16 from nI_le (a := 16) (Nat.le_refl _) (by decide))]
    -- one block
    have blk : ∀ (c163 : Int32 → Int32 → xs_T → Option xs_T) (T : xs_T) (b : Nat) (c : Nat → Nat), b ≤ q → xs_by T 204 0 16 c → xs_by T 208 0 (16 * (q + 1)) p → xs_by T 206 0 16 K → xs_eq [203, 204, 205, 206, 208] S T →
        ∃ T2, (xs_by T2 204 0 16 (yEnc W fun j => (c j ^^^ p (16 * b + j)) ^^^ (if b = q then K j else 0)) ∧ xs_by T2 208 0 (16 * (q + 1)) p ∧ xs_by T2 206 0 16 K ∧ xs_eq [203, 204, 205, 206, 208] S T2) ∧ xf_R_mac_172 200 (nI i) (nI n) c163 xs_fuel (nI (q + 1)) (nI b) 0 T = c163 (nI (q + 1)) (nI (b + 1)) T2 := by
      intro c163 T b c hb hc hp hK hT
      have eb := xl_map (fun f j (T : xs_T) => xf_R_mac_172 200 (nI i) (nI n) c163 f (nI (q + 1)) (nI b) (nI j) T) T 204 0 16 (fun j => nI ((c j ^^^ p (16 * b + j)) ^^^ (if b = q then K j else 0))) (fun f j hj => by
        show xf_R_mac_172 200 (nI i) (nI n) c163 (f + 1) (nI (q + 1)) (nI b) (nI j) _ = xf_R_mac_172 200 (nI i) (nI n) c163 f (nI (q + 1)) (nI b) (nI (j + 1)) _
        generalize hU : (xs_mp T 204 0 j fun j => nI ((c j ^^^ p (16 * b + j)) ^^^ (if b = q then K j else 0))) = U
        rw [xf_R_mac_172, if_neg (show ¬ (16 : Int32) ≤ nI j from nI_ge (b := 16) hj (by decide)), x_rd (k := 200 + 4) (show j < 16 from hj), Option.bind_some, show U.1 (200 + 4) j = nI (c j) by
            rw [← hU, m_out (by omega)]
            exact b_at hc hj, show (16 : Int32) * nI b = nI (16 * b) from pk_mul 16 b, nI_add, x_rd (k := 200 + 8) (show 16 * b + j < 64 by omega), Option.bind_some, show U.1 (200 + 8) (16 * b + j) = nI (p (16 * b + j)) by
            rw [← hU, m_ne (by decide)]
            exact b_at hp (by omega), show nI (q + 1) - 1 = nI q from nI_pred q, n_xor]
        by_cases hbq : b = q
        · subst hbq
          rw [if_pos rfl, x_rd (k := 200 + 6) (show j < 16 from hj), Option.bind_some, show U.1 (200 + 6) j = nI (K j) by
            rw [← hU, m_ne (by decide)]
            exact b_at hK hj]
          unfold xf_R_mac_225
          rw [n_xor, x_wr (k := 200 + 4) (show j < 16 from hj), Option.bind_some, nI_1, Nat.zero_add, if_pos rfl]
        · rw [if_neg (fun h => hbq ((nI_eq (by omega) (by omega)).mp h))]
          unfold xf_R_mac_225
          rw [show ∀ x : Nat, nI x ^^^ 0 = nI x from fun x => Int32.xor_zero, x_wr (k := 200 + 4) (show j < 16 from hj), Option.bind_some, nI_1, Nat.zero_add, if_neg hbq, Nat.xor_zero]) xs_fuel (by decide)
      have hcb : yB 16 fun j => (c j ^^^ p (16 * b + j)) ^^^ (if b = q then K j else 0) := fun j hj => by
        refine y_xlt (y_xlt (hc j hj).2 (hp _ (by omega)).2) ?_
        split
        · exact (hK j hj).2
        · decide
      have qb : xs_eq [204] T (xs_mp T 204 0 16 fun j => nI ((c j ^^^ p (16 * b + j)) ^^^ (if b = q then K j else 0))) := e_mp (by decide)
      have sb := m_by (S := T) (p := 204) (fr := 0) hcb
      generalize (xs_mp T 204 0 16 fun j => nI ((c j ^^^ p (16 * b + j)) ^^^ (if b = q then K j else 0))) = Tb at qb sb eb
      have qb' := e_tr hT (e_mono qb (by decide))
      obtain ⟨Tc, ec, sc, qc⟩ := ciph Tb _ qb' sb
      refine ⟨Tc, ⟨sc, e_by qc (by decide) (e_by qb (by decide) hp), e_by qc (by decide) (e_by qb (by decide) hK), e_tr qb' (e_mono qc (by decide))⟩, ?_⟩
      rw [show xf_R_mac_172 200 (nI i) (nI n) c163 xs_fuel (nI (q + 1)) (nI b) 0 T = _ from eb]
      show xf_R_mac_172 200 (nI i) (nI n) c163 (983 + 1) (nI (q + 1)) (nI b) (nI 16) Tb = _
      rw [xf_R_mac_172, if_pos (show (16 : Int32) ≤ nI 16 from nI_le (a := 16) (Nat.le_refl _) (by decide)), ec, Option.bind_some, nI_1]
    obtain ⟨Tz, ⟨sz, pz, kz, qz⟩, ez⟩ := xl_for (fun f b (T : xs_T) => xf_R_mac_163 200 (nI i) (nI n) f (nI (q + 1)) (nI b) T) (fun b T => xs_by T 204 0 16 (yChain W m b) ∧ xs_by T 208 0 (16 * (q + 1)) p ∧ xs_by T 206 0 16 K ∧ xs_eq [203, 204, 205, 206, 208] S T) q
      (fun f b T hb hT => by
        obtain ⟨h1, h2, h3, h4⟩ := hT
        obtain ⟨T2, ⟨g1, g2⟩, e2⟩ := blk (xf_R_mac_163 200 (nI i) (nI n) f) T b _ (by omega) h1 h2 h3 h4
        refine ⟨T2, ⟨by_cg (y_enc_cg fun j hj => ?_) g1, g2⟩, ?_⟩
        · try dsimp only
          rw [if_neg (by omega), Nat.xor_zero, hpm b hb j hj]
        · show xf_R_mac_163 200 (nI i) (nI n) (f + 1) (nI (q + 1)) (nI b) T = _
          rw [xf_R_mac_163, if_neg (nI_ge (by omega) (by omega))]
          exact e2) q 0 xs_fuel Ta (Nat.zero_add _) (by unfold xs_fuel; omega) ⟨sa, pa, ka, qa'⟩
    obtain ⟨Ty, ⟨g1, g2, g3, g4⟩, ey⟩ := blk (xf_R_mac_163 200 (nI i) (nI n) (999 - q)) Tz q _ (Nat.le_refl _) sz pz kz qz
    have g1 := by_cg (t := yEnc W fun j => (yChain W m q j ^^^ p (16 * q + j)) ^^^ K j) (y_enc_cg fun j hj => by
      try dsimp only
      rw [if_pos rfl]) g1
    have ew := xl_map (fun f j (T : xs_T) => xf_R_mac_247 200 (nI i) (nI n) f (nI j) T) Ty 206 0 16 (fun j => nI (yEnc W (fun j => (yChain W m q j ^^^ p (16 * q + j)) ^^^ K j) j)) (fun f j hj => by
      show xf_R_mac_247 200 (nI i) (nI n) (f + 1) (nI j) _ = xf_R_mac_247 200 (nI i) (nI n) f (nI (j + 1)) _
      generalize hT : (xs_mp Ty 206 0 j fun j => nI (yEnc W (fun j => (yChain W m q j ^^^ p (16 * q + j)) ^^^ K j) j)) = T
      rw [xf_R_mac_247, if_neg (show ¬ (16 : Int32) ≤ nI j from nI_ge (b := 16) hj (by decide)), x_rd (k := 200 + 4) (show j < 16 from hj), Option.bind_some, show T.1 (200 + 4) j = nI (yEnc W (fun j => (yChain W m q j ^^^ p (16 * q + j)) ^^^ K j) j) by
        rw [← hT, m_ne (by decide)]
        exact b_at g1 hj, x_wr (k := 200 + 6) (show j < 16 from hj), Option.bind_some, nI_1, Nat.zero_add]) xs_fuel (by decide)
    refine ⟨xs_mp Ty 206 0 16 fun j => nI (yEnc W (fun j => (yChain W m q j ^^^ p (16 * q + j)) ^^^ K j) j), ?_, m_by (fun j hj => (g1 j hj).2), e_tr g4 (e_mp (by decide))⟩
    rw [show xf_R_mac_163 200 (nI i) (nI n) xs_fuel (nI (q + 1)) 0 Ta = _ from ez, show xs_fuel - q = (999 - q) + 1 by unfold xs_fuel; omega, xf_R_mac_163, if_neg (nI_ge (by omega) (by omega))]
    refine Eq.trans ey ?_
    rw [show 999 - q = (998 - q) + 1 by omega, xf_R_mac_163, if_pos (nI_le (Nat.le_refl _) (by omega))]
    refine Eq.trans ew ?_
    show xf_R_mac_247 200 (nI i) (nI n) (983 + 1) (nI 16) _ = _
    rw [xf_R_mac_247, if_pos (show (16 : Int32) ≤ nI 16 from nI_le (a := 16) (Nat.le_refl _) (by decide))]
  unfold xf_R_mac_71
  rw [if_neg (nI_nle (by omega) (by omega)), x_r16 (by omega)]
  unfold yMac
  rw [hq]
  by_cases hw : n % 16 = 0
  · rw [hw, if_pos nI_0]
    unfold xf_R_mac_88
    rw [if_neg (by decide), if_neg (by omega)]
    obtain ⟨T5, e5, s5, q5⟩ := tail T4 m (yK1 W) (e_mono q4 (by decide)) (fun j hj => m4 j (by omega)) s4 (fun _ _ _ _ => rfl)
    refine ⟨T5, e5, by_cg (y_enc_cg fun j hj => ?_) s5, q5⟩
    unfold yLast
    try dsimp only
    rw [if_pos (by omega)]
  · rw [if_neg (nI_ne0 (by omega) (by omega)), if_pos (by omega)]
    unfold xf_R_mac_87 xf_R_mac_88
    rw [if_pos rfl, r_doubled s4, Option.bind_some]
    have q5 : xs_eq [203, 204, 205, 206] S (xs_mp T4 206 0 16 fun j => nI (yDb (yK1 W) j)) := e_tr q4 (e_mp (by decide))
    have s5 : xs_by (xs_mp T4 206 0 16 fun j => nI (yDb (yK1 W) j)) 206 0 16 (yK2 W) := m_by (y_b_k2 hW)
    generalize (xs_mp T4 206 0 16 fun j => nI (yDb (yK1 W) j)) = T5 at q5 s5 ⊢
    have m5 := e_by q5 (by decide) hm
    rw [x_wr (k := 200 + 8) (show n < 64 by omega), Option.bind_some]
    have q6 : xs_eq [208] T5 (xs_sI T5 (200 + 8) n 128) := e_sI (by decide)
    have m6 : ∀ j, j < n + 1 → (xs_sI T5 (200 + 8) n 128).1 208 j = nI (if j < n then m j else if j = n then 128 else 0) := fun j hj => by
      show (xs_sI T5 208 n 128).1 208 j = _
      rw [xs_sI_at]
      by_cases h : j = n
      · subst h
        rw [pk_us, if_neg (Nat.lt_irrefl _), if_pos rfl]
        rfl
      · rw [pk_un h, if_pos (by omega)]
        exact b_at m5 (by omega)
    have s6 := e_by q6 (by decide) s5
    generalize xs_sI T5 (200 + 8) n 128 = T6 at q6 m6 s6 ⊢
    have q6' := e_tr (e_mono q5 (by decide)) (e_mono q6 (qs := [203, 204, 205, 206, 208]) (by decide))
    have e7 := xl_map (fun f j (T : xs_T) => xf_R_mac_113 200 (nI i) (nI n) f (nI (q + 1)) (nI (n + 1 + j)) T) T6 208 (n + 1) (16 * (q + 1) - (n + 1)) (fun _ => nI 0) (fun f j hj => by
      show xf_R_mac_113 200 (nI i) (nI n) (f + 1) (nI (q + 1)) (nI (n + 1 + j)) _ = xf_R_mac_113 200 (nI i) (nI n) f (nI (q + 1)) (nI (n + 1 + (j + 1))) _
      rw [xf_R_mac_113, show (16 : Int32) * nI (q + 1) = nI (16 * (q + 1)) from pk_mul 16 _, if_neg (nI_ge (by omega) (by omega)), x_wr (k := 200 + 8) (show n + 1 + j < 64 by omega), Option.bind_some, nI_1]
      rfl) xs_fuel (by unfold xs_fuel; omega)
    have p7 : xs_by (xs_mp T6 208 (n + 1) (16 * (q + 1) - (n + 1)) fun _ => nI 0) 208 0 (16 * (q + 1)) (fun j => if j < n then m j else if j = n then 128 else 0) := fun j hj => by
      refine ⟨?_, ?_⟩
      · rw [Nat.zero_add]
        by_cases h : j < n + 1
        · rw [m_out (by omega)]
          exact m6 j h
        · obtain ⟨t, rfl⟩ : ∃ t, j = n + 1 + t := ⟨j - (n + 1), by omega⟩
          rw [m_in (by omega)]
          try dsimp only
          rw [if_neg (by omega), if_neg (by omega)]
      · try dsimp only
        split
        · exact hmb j (by omega)
        · split <;> decide
    have q7 : xs_eq [203, 204, 205, 206, 208] S (xs_mp T6 208 (n + 1) (16 * (q + 1) - (n + 1)) fun _ => nI 0) := e_tr q6' (e_mp (by decide))
    have s7 : xs_by (xs_mp T6 208 (n + 1) (16 * (q + 1) - (n + 1)) fun _ => nI 0) 206 0 16 (yK2 W) := e_by (e_mp (ps := [208]) (by decide)) (by decide) s6
    obtain ⟨T8, e8, s8, q8⟩ := tail _ _ (yK2 W) q7 p7 s7 (fun b hb j hj => if_pos (by omega))
    refine ⟨T8, ?_, by_cg (y_enc_cg fun j hj => ?_) s8, q8⟩
    · rw [show nI n + 1 = nI (n + 1 + 0) from nI_1 n]
      refine Eq.trans e7 ?_
      show xf_R_mac_113 200 (nI i) (nI n) (xs_fuel - (16 * (q + 1) - (n + 1))) (nI (q + 1)) (nI (n + 1 + (16 * (q + 1) - (n + 1)))) _ = _
      rw [show xs_fuel - (16 * (q + 1) - (n + 1)) = (999 - (16 * (q + 1) - (n + 1))) + 1 by unfold xs_fuel; omega, xf_R_mac_113, show (16 : Int32) * nI (q + 1) = nI (16 * (q + 1)) from pk_mul 16 _, if_pos (nI_le (by omega) (by omega))]
      exact e8
    · unfold yLast
      try dsimp only
      by_cases h : 16 * q + j < n
      · rw [if_pos h, if_pos (show j < n - 16 * q by omega)]
      · rw [if_neg h, if_neg (show ¬ j < n - 16 * q by omega)]
        by_cases h2 : 16 * q + j = n
        · rw [if_pos h2, if_pos (show j = n - 16 * q by omega)]
        · rw [if_neg h2, if_neg (show ¬ j = n - 16 * q by omega)]
