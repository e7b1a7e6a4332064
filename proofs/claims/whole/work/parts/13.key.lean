/-! Cipher.takeKey -/
theorem x_rk_take {S : xs_T} {k a : Nat} {key : Nat → Nat} (hk : xs_ln (k + 1) = 44) (ha : 16 ≤ xs_ln a) (hne : a ≠ k + 1) (hs : xs_by S a 0 16 key) :
    ∃ g, xf_C_takeKey k a S = some (xs_pI S (k + 1) g) ∧ yB 176 (ySch key) ∧ ∀ j, j < 44 → g j = nI (yCol (ySch key) j) := by
  have hkb : yB 16 key := fun i hi => (hs i hi).2
  have hsc := y_sch (key := key)
  have hW := y_sc_lt hsc hkb
  generalize ySch key = W at hsc hW ⊢
  unfold xf_C_takeKey
  obtain ⟨T, hT, e⟩ := xl_for (fun f i (T : xs_T) => xf_C_takeKey_2 k a f (nI i) T) (fun i T => ∃ g, T = xs_pI S (k + 1) g ∧ ∀ j, j < i → g j = nI (yCol W j)) 4
    (fun f i T hi hT => by
      obtain ⟨g, rfl, hg⟩ := hT
      refine ⟨xs_pI S (k + 1) (upd g i (nI (yCol W i))), ⟨_, rfl, fun j hj => ?_⟩, ?_⟩
      · by_cases h1 : j = i
        · subst h1
          exact pk_us
        · rw [pk_un h1]
          exact hg j (by omega)
      · show xf_C_takeKey_2 k a (f + 1) (nI i) _ = xf_C_takeKey_2 k a f (nI (i + 1)) _
        have hb : xs_by (xs_pI S (k + 1) g) a (4 * i) 4 (fun t => key (4 * i + t)) := fun t ht => by
          have := hs (4 * i + t) (by omega)
          rw [p_ne hne]
          rw [Nat.zero_add] at this
          exact this
        have e1 := x_num (n := 4) (by decide) (by omega) hb
        rw [y_num4] at e1
        rw [xf_C_takeKey_2, if_neg (show ¬ (4 : Int32) ≤ nI i from nI_ge (b := 4) hi (by decide)), show (4 : Int32) * nI i = nI (4 * i) from pk_mul 4 i, show xf_W_number a (nI (4 * i)) 4 _ = _ from e1, Option.bind_some, x_wr (by omega), Option.bind_some, p_psI, nI_1]
        rw [show yP (key (4 * i + 0)) (key (4 * i + 1)) (key (4 * i + 2)) (key (4 * i + 3)) = yCol W i by
          unfold yCol
          rw [hsc.1 (4 * i) (by omega), hsc.1 (4 * i + 1) (by omega), hsc.1 (4 * i + 2) (by omega), hsc.1 (4 * i + 3) (by omega)]
          rfl]) 4 0 xs_fuel S rfl (by decide) ⟨S.1 (k + 1), p_self.symm, fun j hj => absurd hj (Nat.not_lt_zero j)⟩
  obtain ⟨g, rfl, hg⟩ := hT
  obtain ⟨v, hv, e2⟩ := xl_for (fun f i (v : Int32 × xs_T) => xf_C_takeKey_31 k a f v.1 (nI (4 + i)) v.2) (fun i v => v.1 = nI (yRc ((i + 3) / 4)) ∧ ∃ g, v.2 = xs_pI S (k + 1) g ∧ ∀ j, j < 4 + i → g j = nI (yCol W j)) 40
    (fun f i v hi hv => by
      obtain ⟨v1, v2⟩ := v
      obtain ⟨h1, g, h2, hg⟩ := hv
      simp only at h1 h2
      subst h1 h2
      have r1 : xs_rd (xs_pI S (k + 1) g) (k + 1) (nI (4 + i) - 1) = some (nI (yCol W (3 + i))) := by
        rw [show nI (4 + i) - 1 = nI (3 + i) from (pk_sub (a := 4 + i) (b := 1) (by omega)).trans (by congr 1; omega), x_rd (by omega), p_at, hg _ (by omega)]
      have r4 : xs_rd (xs_pI S (k + 1) g) (k + 1) (nI (4 + i) - 4) = some (nI (yCol W i)) := by
        rw [show nI (4 + i) - 4 = nI i from (pk_sub (a := 4 + i) (b := 4) (by omega)).trans (by congr 1; omega), x_rd (by omega), p_at, hg _ (by omega)]
      have hsc2 : ∀ t, t < 4 → W (4 * (4 + i) + t) = W (4 * i + t) ^^^ yTn W (4 * (4 + i) + t) := fun t ht => by
        have := hsc.2 (4 * (4 + i) + t) (by omega) (by omega)
        rw [show 4 * (4 + i) + t - 16 = 4 * i + t by omega] at this
        exact this
      have fin : ∀ x y z w : Nat, x < 256 → y < 256 → z < 256 → yTn W (4 * (4 + i)) = x → yTn W (4 * (4 + i) + 1) = y → yTn W (4 * (4 + i) + 2) = z → yTn W (4 * (4 + i) + 3) = w → nI (yCol W i) ^^^ nI (yP x y z w) = nI (yCol W (4 + i)) := by
        intro x y z w hx hy hz e1 e2 e3 e4
        rw [n_xor]
        unfold yCol
        rw [y_xor (hW _ (by omega)) (hW _ (by omega)) (hW _ (by omega)) hx hy hz, show W (4 * (4 + i)) = W (4 * i) ^^^ yTn W (4 * (4 + i)) from hsc2 0 (by decide), hsc2 1 (by decide), hsc2 2 (by decide), hsc2 3 (by decide), e1, e2, e3, e4]
      have stp : ∀ (cst word : Int32), nI (yCol W i) ^^^ word = nI (yCol W (4 + i)) → xf_C_takeKey_92 k a (xf_C_takeKey_31 k a f) cst (nI (4 + i)) word (xs_pI S (k + 1) g) = xf_C_takeKey_31 k a f cst (nI (4 + (i + 1))) (xs_pI S (k + 1) (upd g (4 + i) (nI (yCol W (4 + i))))) := by
        intro cst word hw
        unfold xf_C_takeKey_92
        rw [r4, Option.bind_some, x_wr (by omega), Option.bind_some, p_psI, hw, nI_1]
        rfl
      have new : ∀ j, j < 4 + (i + 1) → upd g (4 + i) (nI (yCol W (4 + i))) j = nI (yCol W j) := fun j hj => by
        by_cases h1 : j = 4 + i
        · subst h1
          exact pk_us
        · rw [pk_un h1]
          exact hg j (by omega)
      have b0 := hW (4 * (3 + i)) (by omega)
      have b1 := hW (4 * (3 + i) + 1) (by omega)
      have b2 := hW (4 * (3 + i) + 2) (by omega)
      have b3 := hW (4 * (3 + i) + 3) (by omega)
      have hrc := y_rc_lt ((i + 3) / 4)
      by_cases h4 : i % 4 = 0
      · refine ⟨(nI (yRc ((i + 1 + 3) / 4)), _), ⟨rfl, _, rfl, new⟩, ?_⟩
        show xf_C_takeKey_31 k a (f + 1) (nI (yRc ((i + 3) / 4))) (nI (4 + i)) (xs_pI S (k + 1) g) = xf_C_takeKey_31 k a f (nI (yRc ((i + 1 + 3) / 4))) (nI (4 + (i + 1))) (xs_pI S (k + 1) (upd g (4 + i) (nI (yCol W (4 + i)))))
        rw [xf_C_takeKey_31, hk, if_neg (nI_ge (by omega) (by decide)), r1, Option.bind_some, show xs_rem (nI (4 + i)) 4 = nI ((4 + i) % 4) from pk_rem (a := 4 + i) (d := 4) (by omega) (by decide) (by decide), show (4 + i) % 4 = 0 by omega, if_pos nI_0, show yCol W (3 + i) = yP (W (4 * (3 + i))) (W (4 * (3 + i) + 1)) (W (4 * (3 + i) + 2)) (W (4 * (3 + i) + 3)) from rfl, y_rot8 b0 b1 b2 b3, Option.bind_some,
          y_gath y_S171 b1 b1 b2 b3 b0 b1 b2 b3 b0 b1 b2 b3 b0 (y_lt b1 b2 b3 b0), Option.bind_some]
        have ed : xf_C_doubled (nI (yRc ((i + 3) / 4))) = some (nI (yRc ((i + 1 + 3) / 4))) := by
          have := y_doubled hrc (b := 0) (c := 0) (d := 0) (by decide) (by decide) (by decide)
          rw [show yP (yRc ((i + 3) / 4)) 0 0 0 = yRc ((i + 3) / 4) by unfold yP; omega, show yTw 0 = 0 from rfl, show yP (yTw (yRc ((i + 3) / 4))) 0 0 0 = yTw (yRc ((i + 3) / 4)) by unfold yP; omega] at this
          rw [this, show (i + 1 + 3) / 4 = (i + 3) / 4 + 1 by omega]
          rfl
        rw [ed, Option.bind_some]
        refine stp _ _ ?_
        have s1 := (y_S171 _ b1).2
        have s2 := (y_S171 _ b2).2
        have s3 := (y_S171 _ b3).2
        rw [show nI (yRc ((i + 3) / 4)) = nI (yP (yRc ((i + 3) / 4)) 0 0 0) by congr 1; unfold yP; omega, n_xor (yP _ _ _ _) (yP _ _ _ _), y_xor s1 s2 s3 hrc (by decide) (by decide)]
        refine fin _ _ _ _ (y_xlt s1 hrc) (y_xlt s2 (by decide)) (y_xlt s3 (by decide)) ?_ ?_ ?_ ?_
        · unfold yTn
          rw [if_pos (by omega), if_pos (by omega), show 4 * (4 + i) - 4 - 4 * (4 + i) % 4 + (4 * (4 + i) % 4 + 1) % 4 = 4 * (3 + i) + 1 by omega, show 4 * (4 + i) / 16 - 1 = (i + 3) / 4 by omega]
        · unfold yTn
          rw [if_pos (by omega), if_neg (by omega), show 4 * (4 + i) + 1 - 4 - (4 * (4 + i) + 1) % 4 + ((4 * (4 + i) + 1) % 4 + 1) % 4 = 4 * (3 + i) + 2 by omega]
        · unfold yTn
          rw [if_pos (by omega), if_neg (by omega), show 4 * (4 + i) + 2 - 4 - (4 * (4 + i) + 2) % 4 + ((4 * (4 + i) + 2) % 4 + 1) % 4 = 4 * (3 + i) + 3 by omega]
        · unfold yTn
          rw [if_pos (by omega), if_neg (by omega), show 4 * (4 + i) + 3 - 4 - (4 * (4 + i) + 3) % 4 + ((4 * (4 + i) + 3) % 4 + 1) % 4 = 4 * (3 + i) by omega]
      · refine ⟨(nI (yRc ((i + 1 + 3) / 4)), _), ⟨rfl, _, rfl, new⟩, ?_⟩
        show xf_C_takeKey_31 k a (f + 1) (nI (yRc ((i + 3) / 4))) (nI (4 + i)) (xs_pI S (k + 1) g) = xf_C_takeKey_31 k a f (nI (yRc ((i + 1 + 3) / 4))) (nI (4 + (i + 1))) (xs_pI S (k + 1) (upd g (4 + i) (nI (yCol W (4 + i)))))
        rw [xf_C_takeKey_31, hk, if_neg (nI_ge (by omega) (by decide)), r1, Option.bind_some, show xs_rem (nI (4 + i)) 4 = nI ((4 + i) % 4) from pk_rem (a := 4 + i) (d := 4) (by omega) (by decide) (by decide), if_neg (nI_ne0 (by omega) (by omega)), show (i + 1 + 3) / 4 = (i + 3) / 4 by omega]
        refine stp _ _ ?_
        refine fin _ _ _ _ b0 b1 b2 ?_ ?_ ?_ ?_
        · unfold yTn
          rw [if_neg (by omega), show 4 * (4 + i) - 4 = 4 * (3 + i) by omega]
        · unfold yTn
          rw [if_neg (by omega), show 4 * (4 + i) + 1 - 4 = 4 * (3 + i) + 1 by omega]
        · unfold yTn
          rw [if_neg (by omega), show 4 * (4 + i) + 2 - 4 = 4 * (3 + i) + 2 by omega]
        · unfold yTn
          rw [if_neg (by omega), show 4 * (4 + i) + 3 - 4 = 4 * (3 + i) + 3 by omega]) 40 0 xs_fuel (nI (yRc 0), xs_pI S (k + 1) g) rfl (by decide) ⟨rfl, g, rfl, fun j hj => hg j (by omega)⟩
  obtain ⟨v1, v2⟩ := v
  obtain ⟨h1, g2, h2, hg2⟩ := hv
  simp only at h1 h2
  subst h1 h2
  refine ⟨g2, ?_, hW, fun j hj => hg2 j (by omega)⟩
  refine Eq.trans e ?_
  show xf_C_takeKey_2 k a (995 + 1) (nI 4) (xs_pI S (k + 1) g) = _
  rw [xf_C_takeKey_2, if_pos (show (4 : Int32) ≤ nI 4 from nI_le (a := 4) (Nat.le_refl _) (by decide))]
  refine Eq.trans e2 ?_
  show xf_C_takeKey_31 k a (959 + 1) _ (nI 44) _ = _
  rw [xf_C_takeKey_31, hk, if_pos (nI_le (Nat.le_refl _) (by decide))]
