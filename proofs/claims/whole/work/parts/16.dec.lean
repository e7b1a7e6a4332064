/-! deciphering, both ways -/
theorem x_m {a b : Nat} (h : b ≤ a) : nI a + -(nI b) = nI (a - b) := by rw [← Int32.sub_eq_add_neg, pk_sub h]
def yUx (a b c d : Nat) : Nat := ((yT14 a ^^^ yT11 b) ^^^ yT13 c) ^^^ yT9 d
theorem y_t14 : ∀ a, a < 256 → yT14 a < 256 := by decide +kernel
theorem y_t13 : ∀ a, a < 256 → yT13 a < 256 := by decide +kernel
theorem y_t11 : ∀ a, a < 256 → yT11 a < 256 := by decide +kernel
theorem y_t9 : ∀ a, a < 256 → yT9 a < 256 := by decide +kernel
theorem y_ux_lt {a b c d : Nat} (h1 : a < 256) (h2 : b < 256) (h3 : c < 256) (h4 : d < 256) : yUx a b c d < 256 := y_xlt (y_xlt (y_xlt (y_t14 a h1) (y_t11 b h2)) (y_t13 c h3)) (y_t9 d h4)
theorem y_un {a b c d : Nat} (h1 : a < 256) (h2 : b < 256) (h3 : c < 256) (h4 : d < 256) : yMx (a ^^^ yTw (yTw (a ^^^ c))) (b ^^^ yTw (yTw (b ^^^ d))) (c ^^^ yTw (yTw (c ^^^ a))) (d ^^^ yTw (yTw (d ^^^ b))) = yUx a b c d := by
  have t : ∀ x, x < 256 → yTw x < 256 := y_tw_lt
  have x2 : ∀ x y, x < 256 → y < 256 → yTw (yTw (x ^^^ y)) = yTw (yTw x) ^^^ yTw (yTw y) := fun x y hx hy => by rw [y_tw_xor x hx y hy, y_tw_xor _ (t x hx) _ (t y hy)]
  unfold yMx yUx yT14 yT13 yT11 yT9
  rw [x2 a c h1 h3, x2 b d h2 h4, x2 c a h3 h1, x2 d b h4 h2]
  rw [y_tw_xor a h1 _ (y_xlt (t _ (t _ h1)) (t _ (t _ h3))), y_tw_xor _ (t _ (t _ h1)) _ (t _ (t _ h3)), y_tw_xor b h2 _ (y_xlt (t _ (t _ h2)) (t _ (t _ h4))), y_tw_xor _ (t _ (t _ h2)) _ (t _ (t _ h4))]
  generalize yTw (yTw (yTw a)) = A3, yTw (yTw (yTw b)) = B3, yTw (yTw (yTw c)) = C3, yTw (yTw (yTw d)) = D3
  generalize yTw (yTw a) = A2, yTw (yTw b) = B2, yTw (yTw c) = C2, yTw (yTw d) = D2
  generalize yTw a = A1, yTw b = B1
  have e : ((A1 ^^^ (A3 ^^^ C3)) ^^^ ((b ^^^ (B2 ^^^ D2)) ^^^ (B1 ^^^ (B3 ^^^ D3)))) ^^^ (c ^^^ (C2 ^^^ A2)) ^^^ (d ^^^ (D2 ^^^ B2)) = (((((A1 ^^^ A2) ^^^ A3) ^^^ ((b ^^^ B1) ^^^ B3)) ^^^ ((c ^^^ C2) ^^^ C3)) ^^^ (d ^^^ D3)) ^^^ ((B2 ^^^ B2) ^^^ (D2 ^^^ D2)) := by ac_rfl
  rw [e, Nat.xor_self, Nat.xor_self, Nat.xor_self, Nat.xor_zero]
theorem y_unmixed {a b c d : Nat} (h1 : a < 256) (h2 : b < 256) (h3 : c < 256) (h4 : d < 256) : xf_C_unmixed (nI (yP a b c d)) = some (nI (yP (yUx a b c d) (yUx b c d a) (yUx c d a b) (yUx d a b c))) := by
  have t : ∀ x, x < 256 → yTw x < 256 := y_tw_lt
  have k1 := y_xlt h1 h3
  have k2 := y_xlt h2 h4
  have k3 := y_xlt h3 h1
  have k4 := y_xlt h4 h2
  have l1 := y_xlt h1 (t _ (t _ k1))
  have l2 := y_xlt h2 (t _ (t _ k2))
  have l3 := y_xlt h3 (t _ (t _ k3))
  have l4 := y_xlt h4 (t _ (t _ k4))
  unfold xf_C_unmixed
  rw [y_rot16 h1 h2 h3 h4, n_xor, y_xor h1 h2 h3 h3 h4 h1, Option.bind_some, y_doubled k1 k2 k3 k4, Option.bind_some, y_doubled (t _ k1) (t _ k2) (t _ k3) (t _ k4), Option.bind_some, n_xor, y_xor h1 h2 h3 (t _ (t _ k1)) (t _ (t _ k2)) (t _ (t _ k3)),
    y_doubled l1 l2 l3 l4, Option.bind_some, y_mixed l1 l2 l3 l4 (t _ l1) (t _ l2) (t _ l3) (t _ l4), Option.bind_some]
  rw [← y_un h1 h2 h3 h4, ← y_un h2 h3 h4 h1, ← y_un h3 h4 h1 h2, ← y_un h4 h1 h2 h3]
  rfl
def yUns (s : Nat → Nat) : Nat → Nat := fun i => yS 172 (s ((i + 16 - 4 * (i % 4)) % 16))
def yUmx (s : Nat → Nat) : Nat → Nat := fun i => yUx (s i) (s (i / 4 * 4 + (i + 1) % 4)) (s (i / 4 * 4 + (i + 2) % 4)) (s (i / 4 * 4 + (i + 3) % 4))
def yDecN (W : Nat → Nat) : Nat → (Nat → Nat) → (Nat → Nat)
  | 0, s => yAdd W 10 s
  | n + 1, s => yUmx (yAdd W (9 - n) (yUns (yDecN W n s)))
def yDec (W s : Nat → Nat) : Nat → Nat := yAdd W 0 (yUns (yDecN W 9 s))
theorem y_b_uns {s : Nat → Nat} (h : yB 16 s) : yB 16 (yUns s) := fun i _ => (y_S172 _ (h _ (Nat.mod_lt _ (by decide)))).2
theorem y_b_umx {s : Nat → Nat} (h : yB 16 s) : yB 16 (yUmx s) := fun i hi => y_ux_lt (h _ hi) (h _ (by omega)) (h _ (by omega)) (h _ (by omega))
theorem y_b_decN {W s : Nat → Nat} (hW : yB 176 W) (h : yB 16 s) : ∀ n, yB 16 (yDecN W n s)
  | 0 => y_b_add hW (by omega) h
  | n + 1 => y_b_umx (y_b_add hW (by omega) (y_b_uns (y_b_decN hW h n)))
theorem y_b_dec {W s : Nat → Nat} (hW : yB 176 W) (h : yB 16 s) : yB 16 (yDec W s) := y_b_add hW (by omega) (y_b_uns (y_b_decN hW h 9))
theorem y_o0 {u : Nat → Nat} (h : yB 16 u) : xf_C_gathered 172 (nI (yCol u 0)) (nI (yCol u 3)) (nI (yCol u 2)) (nI (yCol u 1)) = some (nI (yCol (yUns u) 0)) :=
  y_gath y_S172 (h _ (by decide)) (h _ (by decide)) (h _ (by decide)) (h _ (by decide)) (h _ (by decide)) (h _ (by decide)) (h _ (by decide)) (h _ (by decide)) (h _ (by decide)) (h _ (by decide)) (h _ (by decide)) (h _ (by decide)) (h _ (by decide)) (y_col_lt h (j := 0) (by decide))
theorem y_o1 {u : Nat → Nat} (h : yB 16 u) : xf_C_gathered 172 (nI (yCol u 1)) (nI (yCol u 0)) (nI (yCol u 3)) (nI (yCol u 2)) = some (nI (yCol (yUns u) 1)) :=
  y_gath y_S172 (h _ (by decide)) (h _ (by decide)) (h _ (by decide)) (h _ (by decide)) (h _ (by decide)) (h _ (by decide)) (h _ (by decide)) (h _ (by decide)) (h _ (by decide)) (h _ (by decide)) (h _ (by decide)) (h _ (by decide)) (h _ (by decide)) (y_col_lt h (j := 1) (by decide))
theorem y_o2 {u : Nat → Nat} (h : yB 16 u) : xf_C_gathered 172 (nI (yCol u 2)) (nI (yCol u 1)) (nI (yCol u 0)) (nI (yCol u 3)) = some (nI (yCol (yUns u) 2)) :=
  y_gath y_S172 (h _ (by decide)) (h _ (by decide)) (h _ (by decide)) (h _ (by decide)) (h _ (by decide)) (h _ (by decide)) (h _ (by decide)) (h _ (by decide)) (h _ (by decide)) (h _ (by decide)) (h _ (by decide)) (h _ (by decide)) (h _ (by decide)) (y_col_lt h (j := 2) (by decide))
theorem y_o3 {u : Nat → Nat} (h : yB 16 u) : xf_C_gathered 172 (nI (yCol u 3)) (nI (yCol u 2)) (nI (yCol u 1)) (nI (yCol u 0)) = some (nI (yCol (yUns u) 3)) :=
  y_gath y_S172 (h _ (by decide)) (h _ (by decide)) (h _ (by decide)) (h _ (by decide)) (h _ (by decide)) (h _ (by decide)) (h _ (by decide)) (h _ (by decide)) (h _ (by decide)) (h _ (by decide)) (h _ (by decide)) (h _ (by decide)) (h _ (by decide)) (y_col_lt h (j := 3) (by decide))
theorem y_u {u : Nat → Nat} (h : yB 16 u) {j : Nat} (hj : j < 4) : xf_C_unmixed (nI (yCol u j)) = some (nI (yCol (yUmx u) j)) := by
  unfold yCol
  rw [y_unmixed (h _ (by omega)) (h _ (by omega)) (h _ (by omega)) (h _ (by omega))]
  rcases (show j = 0 ∨ j = 1 ∨ j = 2 ∨ j = 3 by omega) with rfl | rfl | rfl | rfl <;> rfl
theorem x_dec {S : xs_T} {k a fr : Nat} {W s : Nat → Nat} (hl : fr + 16 ≤ xs_ln a) (hk : xs_ln (k + 1) = 44) (hne : k + 1 ≠ a) (hR : xs_rk S (k + 1) W) (hs : xs_by S a fr 16 s) :
    xf_C_decipher k a (nI fr) S = some (xs_mp S a fr 16 fun i => nI (yDec W s i)) := by
  obtain ⟨hW, hR⟩ := hR
  have hb : yB 16 s := fun i hi => (hs i hi).2
  have rd : ∀ j, j < 44 → xs_rd S (k + 1) (nI j) = some (nI (yCol W j)) := fun j hj => by rw [x_rd (by omega), hR j hj]
  unfold xf_C_decipher
  have c0 := x_col hl hs (j := 0) (by decide)
  have c1 := x_col hl hs (j := 1) (by decide)
  have c2 := x_col hl hs (j := 2) (by decide)
  have c3 := x_col hl hs (j := 3) (by decide)
  rw [show nI (fr + 4 * 0) = nI fr from rfl] at c0
  rw [c0, Option.bind_some, show xs_rd S (k + 1) 40 = _ from rd 40 (by decide), Option.bind_some,
    show nI fr + 4 = nI (fr + 4 * 1) from nI_add fr 4, c1, Option.bind_some, show xs_rd S (k + 1) (40 + 1) = _ from rd 41 (by decide), Option.bind_some,
    show nI fr + 8 = nI (fr + 4 * 2) from nI_add fr 8, c2, Option.bind_some, show xs_rd S (k + 1) (40 + 2) = _ from rd 42 (by decide), Option.bind_some,
    show nI fr + 12 = nI (fr + 4 * 3) from nI_add fr 12, c3, Option.bind_some, show xs_rd S (k + 1) (40 + 3) = _ from rd 43 (by decide), Option.bind_some]
  rw [show nI (yCol s 0) ^^^ nI (yCol W 40) = _ from y_colx hb hW (j := 0) (r := 10) (by decide) (by decide), show nI (yCol s 1) ^^^ nI (yCol W 41) = _ from y_colx hb hW (j := 1) (r := 10) (by decide) (by decide),
    show nI (yCol s 2) ^^^ nI (yCol W 42) = _ from y_colx hb hW (j := 2) (r := 10) (by decide) (by decide), show nI (yCol s 3) ^^^ nI (yCol W 43) = _ from y_colx hb hW (j := 3) (r := 10) (by decide) (by decide)]
  obtain ⟨v, hv, e⟩ := xl_for (fun f i (v : Int32 × Int32 × Int32 × Int32) => xf_C_decipher_81 k a (nI fr) f v.1 v.2.1 v.2.2.1 v.2.2.2 (nI (4 * (9 - i))) S) (fun i v => v = (nI (yCol (yDecN W i s) 0), nI (yCol (yDecN W i s) 1), nI (yCol (yDecN W i s) 2), nI (yCol (yDecN W i s) 3))) 9
    (fun f i v hi hv => by
      refine ⟨_, rfl, ?_⟩
      subst hv
      have hu := y_b_decN hW hb i
      have hg := y_b_uns hu
      have ha := y_b_add hW (r := 9 - i) (by omega) hg
      show xf_C_decipher_81 k a (nI fr) (f + 1) (nI (yCol (yDecN W i s) 0)) (nI (yCol (yDecN W i s) 1)) (nI (yCol (yDecN W i s) 2)) (nI (yCol (yDecN W i s) 3)) (nI (4 * (9 - i))) S = xf_C_decipher_81 k a (nI fr) f (nI (yCol (yDecN W (i + 1) s) 0)) (nI (yCol (yDecN W (i + 1) s) 1)) (nI (yCol (yDecN W (i + 1) s) 2)) (nI (yCol (yDecN W (i + 1) s) 3)) (nI (4 * (9 - (i + 1)))) S
      rw [xf_C_decipher_81, if_neg (nI_nle (by omega) (by omega)), y_o0 hu, Option.bind_some, y_o1 hu, Option.bind_some, y_o2 hu, Option.bind_some, y_o3 hu, Option.bind_some,
        rd _ (by omega), Option.bind_some, show nI (yCol W (4 * (9 - i))) = nI (yCol W (4 * (9 - i) + 0)) from rfl, y_colx hg hW (j := 0) (r := 9 - i) (by decide) (by omega), y_u ha (j := 0) (by decide), Option.bind_some,
        show nI (4 * (9 - i)) + 1 = nI (4 * (9 - i) + 1) from nI_add _ 1, rd _ (by omega), Option.bind_some, y_colx hg hW (j := 1) (r := 9 - i) (by decide) (by omega), y_u ha (j := 1) (by decide), Option.bind_some,
        show nI (4 * (9 - i)) + 2 = nI (4 * (9 - i) + 2) from nI_add _ 2, rd _ (by omega), Option.bind_some, y_colx hg hW (j := 2) (r := 9 - i) (by decide) (by omega), y_u ha (j := 2) (by decide), Option.bind_some,
        show nI (4 * (9 - i)) + 3 = nI (4 * (9 - i) + 3) from nI_add _ 3, rd _ (by omega), Option.bind_some, y_colx hg hW (j := 3) (r := 9 - i) (by decide) (by omega), y_u ha (j := 3) (by decide), Option.bind_some,
        show nI (4 * (9 - i)) + (-4) = nI (4 * (9 - (i + 1))) from (x_m (a := 4 * (9 - i)) (b := 4) (by omega)).trans (by congr 1; omega)]
      rfl) 9 0 xs_fuel (nI (yCol (yDecN W 0 s) 0), nI (yCol (yDecN W 0 s) 1), nI (yCol (yDecN W 0 s) 2), nI (yCol (yDecN W 0 s) 3)) rfl (by decide) rfl
  subst hv
  refine Eq.trans e ?_
  have hu := y_b_decN hW hb 9
  have hg := y_b_uns hu
  have hz := y_b_dec hW hb
  show xf_C_decipher_81 k a (nI fr) (990 + 1) (nI (yCol (yDecN W 9 s) 0)) (nI (yCol (yDecN W 9 s) 1)) (nI (yCol (yDecN W 9 s) 2)) (nI (yCol (yDecN W 9 s) 3)) (nI 0) S = _
  have rd2 : ∀ (T : xs_T) j, T.1 (k + 1) = S.1 (k + 1) → j < 44 → xs_rd T (k + 1) (nI j) = some (nI (yCol W j)) := fun T j hT hj => by rw [x_rd (by omega), hT, hR j hj]
  have cx : ∀ j, j < 4 → nI (yCol (yUns (yDecN W 9 s)) j) ^^^ nI (yCol W (4 * 0 + j)) = nI (yCol (yDec W s) j) := fun j hj => y_colx hg hW hj (by decide)
  have pt : ∀ (T : xs_T) j, j < 4 → xf_W_putNumber a (nI (fr + 4 * j)) (nI (yCol (yDec W s) j)) 4 T = some (xs_mp T a (fr + 4 * j) 4 fun i => nI (yDec W s (4 * j + i))) := fun T j hj => by
    refine Eq.trans (x_put (n := 4) (by decide) (by omega) (y_col_lt hz hj)) (congrArg some (m_g fun i hi => ?_))
    rw [y_colb hz hj hi]
  rw [xf_C_decipher_81, if_pos (show nI 0 ≤ 0 by decide), y_o0 hu, Option.bind_some, show xs_rd S (k + 1) 0 = _ from rd2 S 0 rfl (by decide), Option.bind_some, show nI (yCol W 0) = nI (yCol W (4 * 0 + 0)) from rfl, cx 0 (by decide), show nI fr = nI (fr + 4 * 0) from rfl, pt _ 0 (by decide), Option.bind_some]
  generalize hT1 : xs_mp S a (fr + 4 * 0) 4 _ = T1
  have k1 : T1.1 (k + 1) = S.1 (k + 1) := by rw [← hT1, m_ne hne]
  rw [y_o1 hu, Option.bind_some, show xs_rd T1 (k + 1) 1 = _ from rd2 T1 1 k1 (by decide), Option.bind_some, show nI (yCol W 1) = nI (yCol W (4 * 0 + 1)) from rfl, cx 1 (by decide), show nI (fr + 4 * 0) + 4 = nI (fr + 4 * 1) from nI_add fr 4, pt _ 1 (by decide), Option.bind_some]
  generalize hT2 : xs_mp T1 a (fr + 4 * 1) 4 _ = T2
  have k2 : T2.1 (k + 1) = S.1 (k + 1) := by rw [← hT2, m_ne hne, k1]
  rw [y_o2 hu, Option.bind_some, show xs_rd T2 (k + 1) 2 = _ from rd2 T2 2 k2 (by decide), Option.bind_some, show nI (yCol W 2) = nI (yCol W (4 * 0 + 2)) from rfl, cx 2 (by decide), show nI (fr + 4 * 0) + 8 = nI (fr + 4 * 2) from nI_add fr 8, pt _ 2 (by decide), Option.bind_some]
  generalize hT3 : xs_mp T2 a (fr + 4 * 2) 4 _ = T3
  have k3 : T3.1 (k + 1) = S.1 (k + 1) := by rw [← hT3, m_ne hne, k2]
  rw [y_o3 hu, Option.bind_some, show xs_rd T3 (k + 1) 3 = _ from rd2 T3 3 k3 (by decide), Option.bind_some, show nI (yCol W 3) = nI (yCol W (4 * 0 + 3)) from rfl, cx 3 (by decide), show nI (fr + 4 * 0) + 12 = nI (fr + 4 * 3) from nI_add fr 12, pt _ 3 (by decide), Option.bind_some]
  subst hT3 hT2 hT1
  exact congrArg some (m_4 (g := fun i => nI (yDec W s i)))
theorem r_umx {S : xs_T} {u : Nat → Nat} (hu : xs_by S 204 0 16 u) : ∃ T, xf_R_mix 200 14 11 13 9 S = some T ∧ xs_by T 204 0 16 (yUmx u) ∧ xs_eq [204, 205] S T := by
  have hb : yB 16 u := fun i hi => (hu i hi).2
  unfold xf_R_mix
  rw [r_copy hu, Option.bind_some]
  refine ⟨xs_mp (xs_mp S 205 0 16 fun i => nI (u i)) 204 0 16 fun i => nI (yUmx u i), Eq.trans (xl_map (fun f i (T : xs_T) => xf_R_mix_7 200 14 11 13 9 f (nI i) T) (xs_mp S 205 0 16 fun i => nI (u i)) 204 0 16 (fun i => nI (yUmx u i)) (fun f i hi => ?_) xs_fuel (by decide)) ?_, m_by (y_b_umx hb), e_tr (e_mp (p := 205) (by decide)) (e_mp (p := 204) (by decide))⟩
  · show xf_R_mix_7 200 14 11 13 9 (f + 1) (nI i) _ = xf_R_mix_7 200 14 11 13 9 f (nI (i + 1)) _
    generalize hT : (xs_mp (xs_mp S 205 0 16 fun i => nI (u i)) 204 0 i fun i => nI (yUmx u i)) = T
    have rd : ∀ j, j < 16 → xs_rd T 205 (nI j) = some (nI (u j)) := fun j hj => by
      rw [x_rd (show j < 16 from hj), ← hT, m_ne (by decide)]
      have := m_in (S := S) (p := 205) (fr := 0) (n := 16) (g := fun i => nI (u i)) hj
      rw [Nat.zero_add] at this
      rw [this]
    have ix : ∀ o, o < 4 → (nI i / 4 * 4 + xs_rem (nI i + nI o) 4) = nI (i / 4 * 4 + (i + o) % 4) := fun o ho => by
      rw [show nI i / 4 = nI (i / 4) from pk_div (d := 4) (by omega) (by decide) (by decide), show nI (i / 4) * 4 = nI (i / 4 * 4) from pk_mul _ 4, nI_add, x_r4 (by omega), nI_add]
    rw [xf_R_mix_7, if_neg (show ¬ (16 : Int32) ≤ nI i from nI_ge (b := 16) hi (by decide)), show xs_rd T (200 + 5) (nI i) = _ from rd i hi, Option.bind_some, x_t14 _ (hb i hi), Option.bind_some,
      show nI i / 4 * 4 + xs_rem (nI i + 1) 4 = _ from ix 1 (by decide), show xs_rd T (200 + 5) (nI (i / 4 * 4 + (i + 1) % 4)) = _ from rd _ (by omega), Option.bind_some, x_t11 _ (hb _ (by omega)), Option.bind_some,
      show nI i / 4 * 4 + xs_rem (nI i + 2) 4 = _ from ix 2 (by decide), show xs_rd T (200 + 5) (nI (i / 4 * 4 + (i + 2) % 4)) = _ from rd _ (by omega), Option.bind_some, x_t13 _ (hb _ (by omega)), Option.bind_some,
      show nI i / 4 * 4 + xs_rem (nI i + 3) 4 = _ from ix 3 (by decide), show xs_rd T (200 + 5) (nI (i / 4 * 4 + (i + 3) % 4)) = _ from rd _ (by omega), Option.bind_some, x_t9 _ (hb _ (by omega)), Option.bind_some,
      x_wr (k := 200 + 4) (show i < 16 from hi), Option.bind_some, nI_1, n_xor, n_xor, n_xor, Nat.zero_add]
    rfl
  · show xf_R_mix_7 200 14 11 13 9 (983 + 1) (nI 16) _ = _
    rw [xf_R_mix_7, if_pos (show (16 : Int32) ≤ nI 16 from nI_le (a := 16) (Nat.le_refl _) (by decide))]
theorem r_uns {S : xs_T} {u : Nat → Nat} {n1 i2 : Int32} {c8 : Int32 → xs_T → Option xs_T} (hx : xs_bx S) (hu : xs_by S 204 0 16 u) :
    ∃ T, xf_R_decipher_36 200 n1 c8 i2 S = c8 (i2 + (-1)) T ∧ xs_by T 204 0 16 (yUns u) ∧ xs_eq [204, 205] S T := by
  have hb : yB 16 u := fun i hi => (hu i hi).2
  unfold xf_R_decipher_36
  rw [r_copy hu, Option.bind_some]
  generalize hS1 : (xs_mp S 205 0 16 fun i => nI (u i)) = S1
  have q1 : xs_eq [205] S S1 := by
    rw [← hS1]
    exact e_mp (by decide)
  have u1 : xs_by S1 205 0 16 u := by
    rw [← hS1]
    exact m_by hb
  have hx1 := e_bx q1 (by decide) (by decide) hx
  refine ⟨xs_mp S1 204 0 16 fun i => nI (yUns u i), Eq.trans (xl_map (fun f i (T : xs_T) => xf_R_decipher_42 200 n1 c8 f i2 (nI i) T) S1 204 0 16 (fun i => nI (yUns u i)) (fun f i hi => ?_) xs_fuel (by decide)) ?_, m_by (y_b_uns hb), e_tr (e_mono q1 (by decide)) (e_mp (p := 204) (by decide))⟩
  · show xf_R_decipher_42 200 n1 c8 (f + 1) i2 (nI i) _ = xf_R_decipher_42 200 n1 c8 f i2 (nI (i + 1)) _
    generalize hT : (xs_mp S1 204 0 i fun i => nI (yUns u i)) = T
    have hb2 := hb ((i + 16 - 4 * (i % 4)) % 16) (Nat.mod_lt _ (by decide))
    rw [xf_R_decipher_42, if_neg (show ¬ (16 : Int32) ≤ nI i from nI_ge (b := 16) hi (by decide)), show nI i + 16 = nI (i + 16) from nI_add i 16, x_r4 (by omega), show (4 : Int32) * nI (i % 4) = nI (4 * (i % 4)) from pk_mul 4 _, pk_sub (by omega), x_r16 (by omega), x_rd (k := 200 + 5) (show _ < 16 from Nat.mod_lt _ (by decide)), Option.bind_some]
    rw [show T.1 (200 + 5) ((i + 16 - 4 * (i % 4)) % 16) = nI (u ((i + 16 - 4 * (i % 4)) % 16)) by
      rw [← hT, m_ne (by decide)]
      exact b_at u1 (Nat.mod_lt _ (by decide))]
    rw [x_rd (k := 200 + 2) (show _ < 256 from hb2), Option.bind_some, show T.1 (200 + 2) (u ((i + 16 - 4 * (i % 4)) % 16)) = nI (yUns u i) by
      rw [← hT, m_ne (by decide)]
      exact (hx1 _ hb2).2, x_wr (k := 200 + 4) (show i < 16 from hi), Option.bind_some, nI_1, Nat.zero_add]
  · show xf_R_decipher_42 200 n1 c8 (983 + 1) i2 (nI 16) _ = _
    rw [xf_R_decipher_42, if_pos (show (16 : Int32) ≤ nI 16 from nI_le (a := 16) (Nat.le_refl _) (by decide))]
theorem r_dec {S : xs_T} {i : Nat} {key s : Nat → Nat} (hx : xs_bx S) (hi : i < 15) (hk : xs_by S 207 (16 * i) 16 key) (hs : xs_by S 204 0 16 s) :
    ∃ T, xf_R_decipher 200 (nI i) S = some T ∧ xs_by T 204 0 16 (yDec (ySch key) s) ∧ xs_eq [203, 204, 205] S T := by
  have hb : yB 16 s := fun j hj => (hs j hj).2
  obtain ⟨g, e0, hW, hg⟩ := r_sched hx hi hk
  generalize ySch key = W at hW hg ⊢
  unfold xf_R_decipher
  rw [e0, Option.bind_some]
  have q0 : xs_eq [203, 204, 205] S (xs_pI S 203 g) := e_pI (by decide)
  have s0 : xs_by (xs_pI S 203 g) 204 0 16 s := fun j hj => by
    rw [p_ne (by decide)]
    exact hs j hj
  have w0 : xs_by (xs_pI S 203 g) 203 0 176 W := fun j hj => by
    rw [p_at, Nat.zero_add]
    exact ⟨hg j hj, hW j hj⟩
  generalize xs_pI S 203 g = T1 at q0 s0 w0 ⊢
  obtain ⟨T9, ⟨s9, w9, q9⟩, e9⟩ := xl_for (fun f n (T : xs_T) => xf_R_decipher_8 200 (nI i) f (nI (10 - n)) T) (fun n T => xs_by T 204 0 16 (if n = 0 then s else yUns (yDecN W (n - 1) s)) ∧ xs_by T 203 0 176 W ∧ xs_eq [203, 204, 205] S T) 10
    (fun f n T hn hT => by
      obtain ⟨sT, wT, qT⟩ := hT
      have hub : yB 16 (if n = 0 then s else yUns (yDecN W (n - 1) s)) := fun j hj => (sT j hj).2
      have xT := e_bx qT (by decide) (by decide) hx
      show ∃ T2, _ ∧ xf_R_decipher_8 200 (nI i) (f + 1) (nI (10 - n)) T = _
      rw [xf_R_decipher_8, if_neg (show ¬ nI (10 - n) < (1 : Int32) from nI_nlt (b := 1) (by omega) (by omega)), r_addKey (by omega) sT wT, Option.bind_some]
      have qa : xs_eq [204] T (xs_mp T 204 0 16 fun j => nI (yAdd W (10 - n) (if n = 0 then s else yUns (yDecN W (n - 1) s)) j)) := e_mp (by decide)
      have sa := m_by (S := T) (p := 204) (fr := 0) (y_b_add hW (r := 10 - n) (by omega) hub)
      generalize (xs_mp T 204 0 16 fun j => nI (yAdd W (10 - n) (if n = 0 then s else yUns (yDecN W (n - 1) s)) j)) = Ta at qa sa ⊢
      have ex : nI (10 - n) + (-1) = nI (10 - (n + 1)) := x_m (a := 10 - n) (b := 1) (by omega)
      by_cases h0 : n = 0
      · subst h0
        rw [if_pos (show (10 : Int32) ≤ nI (10 - 0) from nI_le (a := 10) (by omega) (by omega))]
        rw [if_pos rfl] at sa
        obtain ⟨T2, e2, s2, q2⟩ := r_uns (n1 := nI i) (i2 := nI (10 - 0)) (c8 := xf_R_decipher_8 200 (nI i) f) (e_bx qa (by decide) (by decide) xT) sa
        refine ⟨T2, ⟨s2, e_by q2 (by decide) (e_by qa (by decide) wT), e_tr qT (e_tr (e_mono qa (by decide)) (e_mono q2 (by decide)))⟩, ?_⟩
        rw [e2, ex]
      · rw [if_neg (show ¬ (10 : Int32) ≤ nI (10 - n) from nI_ge (b := 10) (by omega) (by decide))]
        rw [if_neg h0] at sa
        obtain ⟨T3, e3, s3, q3⟩ := r_umx sa
        rw [e3, Option.bind_some]
        obtain ⟨T2, e2, s2, q2⟩ := r_uns (n1 := nI i) (i2 := nI (10 - n)) (c8 := xf_R_decipher_8 200 (nI i) f) (e_bx q3 (by decide) (by decide) (e_bx qa (by decide) (by decide) xT)) s3
        refine ⟨T2, ⟨?_, e_by q2 (by decide) (e_by q3 (by decide) (e_by qa (by decide) wT)), e_tr qT (e_tr (e_mono qa (by decide)) (e_tr (e_mono q3 (by decide)) (e_mono q2 (by decide))))⟩, ?_⟩
        · rw [if_neg (by omega)]
          obtain ⟨n, rfl⟩ : ∃ k, n = k + 1 := ⟨n - 1, by omega⟩
          rw [show 10 - (n + 1) = 9 - n by omega] at s2
          exact s2
        · rw [e2, ex]) 10 0 xs_fuel T1 rfl (by decide) ⟨s0, w0, q0⟩
  rw [show xf_R_decipher_8 200 (nI i) xs_fuel 10 T1 = _ from e9]
  show ∃ T, xf_R_decipher_8 200 (nI i) (989 + 1) (nI 0) T9 = some T ∧ _
  rw [if_neg (by decide)] at s9
  rw [xf_R_decipher_8, if_pos (show nI 0 < (1 : Int32) by decide), show xf_R_addKey 200 0 T9 = _ from r_addKey (r := 0) (by decide) s9 w9, Option.bind_some]
  exact ⟨_, rfl, m_by (y_b_dec hW hb), e_tr q9 (e_mp (by decide))⟩
