/-! AES by bytes, and the class's way by words. -/
def yCol (s : Nat → Nat) (j : Nat) : Nat := yP (s (4 * j)) (s (4 * j + 1)) (s (4 * j + 2)) (s (4 * j + 3))
def ySub (s : Nat → Nat) : Nat → Nat := fun i => yS 171 (s ((i + 4 * (i % 4)) % 16))
def yMix (s : Nat → Nat) : Nat → Nat := fun i => yMx (s i) (s (i / 4 * 4 + (i + 1) % 4)) (s (i / 4 * 4 + (i + 2) % 4)) (s (i / 4 * 4 + (i + 3) % 4))
def yAdd (W : Nat → Nat) (r : Nat) (s : Nat → Nat) : Nat → Nat := fun i => s i ^^^ W (16 * r + i)
def yEncN (W : Nat → Nat) : Nat → (Nat → Nat) → (Nat → Nat)
  | 0, s => yAdd W 0 s
  | n + 1, s => yAdd W (n + 1) (yMix (ySub (yEncN W n s)))
def yEnc (W s : Nat → Nat) : Nat → Nat := yAdd W 10 (ySub (yEncN W 9 s))
def yB (n : Nat) (s : Nat → Nat) : Prop := ∀ i, i < n → s i < 256
theorem y_b_sub {s : Nat → Nat} (h : yB 16 s) : yB 16 (ySub s) := fun i _ => (y_S171 _ (h _ (Nat.mod_lt _ (by decide)))).2
theorem y_b_mix {s : Nat → Nat} (h : yB 16 s) : yB 16 (yMix s) := fun i hi => y_mx_lt (h _ hi) (h _ (by omega)) (h _ (by omega)) (h _ (by omega))
theorem y_b_add {W s : Nat → Nat} {r : Nat} (hW : yB 176 W) (hr : r ≤ 10) (h : yB 16 s) : yB 16 (yAdd W r s) := fun i hi => y_xlt (h i hi) (hW _ (by omega))
theorem y_b_encN {W s : Nat → Nat} (hW : yB 176 W) (h : yB 16 s) : ∀ n, n ≤ 10 → yB 16 (yEncN W n s)
  | 0, _ => y_b_add hW (by omega) h
  | n + 1, hn => y_b_add hW hn (y_b_mix (y_b_sub (y_b_encN hW h n (by omega))))
theorem y_b_enc {W s : Nat → Nat} (hW : yB 176 W) (h : yB 16 s) : yB 16 (yEnc W s) := y_b_add hW (by omega) (y_b_sub (y_b_encN hW h 9 (by omega)))
theorem y_gath {t : Nat} (ht : ∀ a, a < 256 → xs_tb t a = nI (yS t a) ∧ yS t a < 256) {a0 a1 a2 a3 b0 b1 b2 b3 c0 c1 c2 c3 d0 d1 d2 d3 : Nat} (ha0 : a0 < 256) (hb0 : b0 < 256) (hb1 : b1 < 256) (hb2 : b2 < 256) (hb3 : b3 < 256) (hc0 : c0 < 256) (hc1 : c1 < 256) (hc2 : c2 < 256) (hc3 : c3 < 256) (hd0 : d0 < 256) (hd1 : d1 < 256) (hd2 : d2 < 256) (hd3 : d3 < 256) (hA : yP a0 a1 a2 a3 < 2 ^ 32) :
    xf_C_gathered t (nI (yP a0 a1 a2 a3)) (nI (yP b0 b1 b2 b3)) (nI (yP c0 c1 c2 c3)) (nI (yP d0 d1 d2 d3)) = some (nI (yP (yS t a0) (yS t b1) (yS t c2) (yS t d3))) := by
  have hB := y_lt hb0 hb1 hb2 hb3
  have hC := y_lt hc0 hc1 hc2 hc3
  have hD := y_lt hd0 hd1 hd2 hd3
  unfold xf_C_gathered
  rw [pk_andN hA 8 (by decide), n_ush hB 8 8 (by decide), pk_andN (Nat.lt_of_le_of_lt (Nat.div_le_self _ _) hB) 8 (by decide), n_ush hC 16 16 (by decide), pk_andN (Nat.lt_of_le_of_lt (Nat.div_le_self _ _) hC) 8 (by decide), n_ush hD 24 24 (by decide),
    show yP a0 a1 a2 a3 % 2 ^ 8 = a0 by unfold yP; omega, show yP b0 b1 b2 b3 / 2 ^ 8 % 2 ^ 8 = b1 by unfold yP; omega, show yP c0 c1 c2 c3 / 2 ^ 16 % 2 ^ 8 = c2 by unfold yP; omega, show yP d0 d1 d2 d3 / 2 ^ 24 = d3 by unfold yP; omega,
    x_rdT ha0, Option.bind_some, x_rdT hb1, Option.bind_some, x_rdT hc2, Option.bind_some, x_rdT hd3, Option.bind_some, (ht a0 ha0).1, (ht b1 hb1).1, (ht c2 hc2).1, (ht d3 hd3).1, y_or4 (ht a0 ha0).2 (ht b1 hb1).2 (ht c2 hc2).2 (ht d3 hd3).2]
theorem y_col_lt {s : Nat → Nat} (h : yB 16 s) {j : Nat} (hj : j < 4) : yCol s j < 2 ^ 32 := y_lt (h _ (by omega)) (h _ (by omega)) (h _ (by omega)) (h _ (by omega))
theorem y_g0 {u : Nat → Nat} (h : yB 16 u) : xf_C_gathered 171 (nI (yCol u 0)) (nI (yCol u 1)) (nI (yCol u 2)) (nI (yCol u 3)) = some (nI (yCol (ySub u) 0)) :=
  y_gath y_S171 (h _ (by decide)) (h _ (by decide)) (h _ (by decide)) (h _ (by decide)) (h _ (by decide)) (h _ (by decide)) (h _ (by decide)) (h _ (by decide)) (h _ (by decide)) (h _ (by decide)) (h _ (by decide)) (h _ (by decide)) (h _ (by decide)) (y_col_lt h (j := 0) (by decide))
theorem y_g1 {u : Nat → Nat} (h : yB 16 u) : xf_C_gathered 171 (nI (yCol u 1)) (nI (yCol u 2)) (nI (yCol u 3)) (nI (yCol u 0)) = some (nI (yCol (ySub u) 1)) :=
  y_gath y_S171 (h _ (by decide)) (h _ (by decide)) (h _ (by decide)) (h _ (by decide)) (h _ (by decide)) (h _ (by decide)) (h _ (by decide)) (h _ (by decide)) (h _ (by decide)) (h _ (by decide)) (h _ (by decide)) (h _ (by decide)) (h _ (by decide)) (y_col_lt h (j := 1) (by decide))
theorem y_g2 {u : Nat → Nat} (h : yB 16 u) : xf_C_gathered 171 (nI (yCol u 2)) (nI (yCol u 3)) (nI (yCol u 0)) (nI (yCol u 1)) = some (nI (yCol (ySub u) 2)) :=
  y_gath y_S171 (h _ (by decide)) (h _ (by decide)) (h _ (by decide)) (h _ (by decide)) (h _ (by decide)) (h _ (by decide)) (h _ (by decide)) (h _ (by decide)) (h _ (by decide)) (h _ (by decide)) (h _ (by decide)) (h _ (by decide)) (h _ (by decide)) (y_col_lt h (j := 2) (by decide))
theorem y_g3 {u : Nat → Nat} (h : yB 16 u) : xf_C_gathered 171 (nI (yCol u 3)) (nI (yCol u 0)) (nI (yCol u 1)) (nI (yCol u 2)) = some (nI (yCol (ySub u) 3)) :=
  y_gath y_S171 (h _ (by decide)) (h _ (by decide)) (h _ (by decide)) (h _ (by decide)) (h _ (by decide)) (h _ (by decide)) (h _ (by decide)) (h _ (by decide)) (h _ (by decide)) (h _ (by decide)) (h _ (by decide)) (h _ (by decide)) (h _ (by decide)) (y_col_lt h (j := 3) (by decide))
theorem y_d {u : Nat → Nat} (h : yB 16 u) {j : Nat} (hj : j < 4) : xf_C_doubled (nI (yCol u j)) = some (nI (yP (yTw (u (4 * j))) (yTw (u (4 * j + 1))) (yTw (u (4 * j + 2))) (yTw (u (4 * j + 3))))) := y_doubled (h _ (by omega)) (h _ (by omega)) (h _ (by omega)) (h _ (by omega))
theorem y_m {u : Nat → Nat} (h : yB 16 u) {j : Nat} (hj : j < 4) : xf_C_mixed (nI (yCol u j)) (nI (yP (yTw (u (4 * j))) (yTw (u (4 * j + 1))) (yTw (u (4 * j + 2))) (yTw (u (4 * j + 3))))) = some (nI (yCol (yMix u) j)) := by
  have b0 := h (4 * j) (by omega)
  have b1 := h (4 * j + 1) (by omega)
  have b2 := h (4 * j + 2) (by omega)
  have b3 := h (4 * j + 3) (by omega)
  unfold yCol
  rw [y_mixed b0 b1 b2 b3 (y_tw_lt _ b0) (y_tw_lt _ b1) (y_tw_lt _ b2) (y_tw_lt _ b3)]
  rcases (show j = 0 ∨ j = 1 ∨ j = 2 ∨ j = 3 by omega) with rfl | rfl | rfl | rfl <;> rfl
theorem y_colx {u : Nat → Nat} (h : yB 16 u) {W : Nat → Nat} (hW : yB 176 W) {j r : Nat} (hj : j < 4) (hr : r ≤ 10) : nI (yCol u j) ^^^ nI (yCol W (4 * r + j)) = nI (yCol (yAdd W r u) j) := by
  rw [n_xor]
  unfold yCol
  rw [y_xor (h _ (by omega)) (h _ (by omega)) (h _ (by omega)) (hW _ (by omega)) (hW _ (by omega)) (hW _ (by omega))]
  unfold yAdd
  rw [show 4 * (4 * r + j) = 16 * r + 4 * j by omega]
  rfl
theorem y_colb {z : Nat → Nat} (h : yB 16 z) {j i : Nat} (hj : j < 4) (hi : i < 4) : yCol z j / 2 ^ (8 * i) % 256 = z (4 * j + i) := by
  have b0 := h (4 * j) (by omega)
  have b1 := h (4 * j + 1) (by omega)
  have b2 := h (4 * j + 2) (by omega)
  have b3 := h (4 * j + 3) (by omega)
  unfold yCol yP
  rcases (show i = 0 ∨ i = 1 ∨ i = 2 ∨ i = 3 by omega) with rfl | rfl | rfl | rfl
  · show _ / 1 % 256 = z (4 * j)
    omega
  · show _ / 256 % 256 = _
    omega
  · show _ / 65536 % 256 = _
    omega
  · show _ / 16777216 % 256 = _
    omega
/-- a place's words are the schedule W -/
def xs_rk (S : xs_T) (k : Nat) (W : Nat → Nat) : Prop := yB 176 W ∧ ∀ j, j < 44 → S.1 k j = nI (yCol W j)
theorem x_by_le {S : xs_T} {k fr n m : Nat} {s : Nat → Nat} (h : xs_by S k fr n s) (o : Nat) (hm : o + m ≤ n) : xs_by S k (fr + o) m (fun i => s (o + i)) := fun i hi => by
  have := h (o + i) (by omega)
  rw [Nat.add_assoc]
  exact this
theorem x_col {S : xs_T} {k fr : Nat} {s : Nat → Nat} (hl : fr + 16 ≤ xs_ln k) (h : xs_by S k fr 16 s) {j : Nat} (hj : j < 4) : xf_W_number k (nI (fr + 4 * j)) 4 S = some (nI (yCol s j)) := by
  have e := x_num (n := 4) (by decide) (by omega) (x_by_le h (m := 4) (4 * j) (by omega))
  rw [y_num4] at e
  exact e
theorem x_enc {S : xs_T} {k a fr : Nat} {W s : Nat → Nat} (hl : fr + 16 ≤ xs_ln a) (hk : xs_ln (k + 1) = 44) (hne : k + 1 ≠ a) (hR : xs_rk S (k + 1) W) (hs : xs_by S a fr 16 s) :
    xf_C_encipher k a (nI fr) S = some (xs_mp S a fr 16 fun i => nI (yEnc W s i)) := by
  obtain ⟨hW, hR⟩ := hR
  have hb : yB 16 s := fun i hi => (hs i hi).2
  have rd : ∀ j, j < 44 → xs_rd S (k + 1) (nI j) = some (nI (yCol W j)) := fun j hj => by rw [x_rd (by omega), hR j hj]
  unfold xf_C_encipher
  have c0 := x_col hl hs (j := 0) (by decide)
  have c1 := x_col hl hs (j := 1) (by decide)
  have c2 := x_col hl hs (j := 2) (by decide)
  have c3 := x_col hl hs (j := 3) (by decide)
  rw [show nI (fr + 4 * 0) = nI fr from rfl] at c0
  rw [c0, Option.bind_some, show xs_rd S (k + 1) 0 = _ from rd 0 (by decide), Option.bind_some,
    show nI fr + 4 = nI (fr + 4 * 1) from nI_add fr 4, c1, Option.bind_some, show xs_rd S (k + 1) 1 = _ from rd 1 (by decide), Option.bind_some,
    show nI fr + 8 = nI (fr + 4 * 2) from nI_add fr 8, c2, Option.bind_some, show xs_rd S (k + 1) 2 = _ from rd 2 (by decide), Option.bind_some,
    show nI fr + 12 = nI (fr + 4 * 3) from nI_add fr 12, c3, Option.bind_some, show xs_rd S (k + 1) 3 = _ from rd 3 (by decide), Option.bind_some]
  rw [show nI (yCol s 0) ^^^ nI (yCol W 0) = _ from y_colx hb hW (j := 0) (r := 0) (by decide) (by decide), show nI (yCol s 1) ^^^ nI (yCol W 1) = _ from y_colx hb hW (j := 1) (r := 0) (by decide) (by decide),
    show nI (yCol s 2) ^^^ nI (yCol W 2) = _ from y_colx hb hW (j := 2) (r := 0) (by decide) (by decide), show nI (yCol s 3) ^^^ nI (yCol W 3) = _ from y_colx hb hW (j := 3) (r := 0) (by decide) (by decide)]
  obtain ⟨v, hv, e⟩ := xl_for (fun f i (v : Int32 × Int32 × Int32 × Int32) => xf_C_encipher_64 k a (nI fr) f v.1 v.2.1 v.2.2.1 v.2.2.2 (nI (4 * i + 4)) S) (fun i v => v = (nI (yCol (yEncN W i s) 0), nI (yCol (yEncN W i s) 1), nI (yCol (yEncN W i s) 2), nI (yCol (yEncN W i s) 3))) 9
    (fun f i v hi hv => by
      refine ⟨_, rfl, ?_⟩
      subst hv
      have hu := y_b_encN hW hb i (by omega)
      have hg := y_b_sub hu
      have hm := y_b_mix hg
      show xf_C_encipher_64 k a (nI fr) (f + 1) (nI (yCol (yEncN W i s) 0)) (nI (yCol (yEncN W i s) 1)) (nI (yCol (yEncN W i s) 2)) (nI (yCol (yEncN W i s) 3)) (nI (4 * i + 4)) S = xf_C_encipher_64 k a (nI fr) f (nI (yCol (yEncN W (i + 1) s) 0)) (nI (yCol (yEncN W (i + 1) s) 1)) (nI (yCol (yEncN W (i + 1) s) 2)) (nI (yCol (yEncN W (i + 1) s) 3)) (nI (4 * (i + 1) + 4)) S
      rw [xf_C_encipher_64, if_neg (show ¬ (40 : Int32) ≤ nI (4 * i + 4) from nI_ge (b := 40) (by omega) (by decide)), y_g0 hu, Option.bind_some, y_g1 hu, Option.bind_some, y_g2 hu, Option.bind_some, y_g3 hu, Option.bind_some,
        y_d hg (j := 0) (by decide), Option.bind_some, y_m hg (j := 0) (by decide), Option.bind_some, rd _ (by omega), Option.bind_some,
        y_d hg (j := 1) (by decide), Option.bind_some, y_m hg (j := 1) (by decide), Option.bind_some, show nI (4 * i + 4) + 1 = nI (4 * i + 4 + 1) from nI_add _ 1, rd _ (by omega), Option.bind_some,
        y_d hg (j := 2) (by decide), Option.bind_some, y_m hg (j := 2) (by decide), Option.bind_some, show nI (4 * i + 4) + 2 = nI (4 * i + 4 + 2) from nI_add _ 2, rd _ (by omega), Option.bind_some,
        y_d hg (j := 3) (by decide), Option.bind_some, y_m hg (j := 3) (by decide), Option.bind_some, show nI (4 * i + 4) + 3 = nI (4 * i + 4 + 3) from nI_add _ 3, rd _ (by omega), Option.bind_some,
        show nI (4 * i + 4) + 4 = nI (4 * (i + 1) + 4) from nI_add _ 4]
      rw [show 4 * i + 4 = 4 * (i + 1) + 0 by omega, y_colx hm hW (j := 0) (r := i + 1) (by decide) (by omega), y_colx hm hW (j := 1) (r := i + 1) (by decide) (by omega), y_colx hm hW (j := 2) (r := i + 1) (by decide) (by omega), y_colx hm hW (j := 3) (r := i + 1) (by decide) (by omega)]
      rfl) 9 0 xs_fuel (nI (yCol (yEncN W 0 s) 0), nI (yCol (yEncN W 0 s) 1), nI (yCol (yEncN W 0 s) 2), nI (yCol (yEncN W 0 s) 3)) rfl (by decide) rfl
  subst hv
  refine Eq.trans e ?_
  have hu := y_b_encN hW hb 9 (by omega)
  have hg := y_b_sub hu
  have hz := y_b_enc hW hb
  show xf_C_encipher_64 k a (nI fr) (990 + 1) (nI (yCol (yEncN W 9 s) 0)) (nI (yCol (yEncN W 9 s) 1)) (nI (yCol (yEncN W 9 s) 2)) (nI (yCol (yEncN W 9 s) 3)) (nI 40) S = _
  have rd2 : ∀ (T : xs_T) j, T.1 (k + 1) = S.1 (k + 1) → j < 44 → xs_rd T (k + 1) (nI j) = some (nI (yCol W j)) := fun T j hT hj => by rw [x_rd (by omega), hT, hR j hj]
  have cx : ∀ j, j < 4 → nI (yCol (ySub (yEncN W 9 s)) j) ^^^ nI (yCol W (4 * 10 + j)) = nI (yCol (yEnc W s) j) := fun j hj => y_colx hg hW hj (by decide)
  have pt : ∀ (T : xs_T) j, j < 4 → xf_W_putNumber a (nI (fr + 4 * j)) (nI (yCol (yEnc W s) j)) 4 T = some (xs_mp T a (fr + 4 * j) 4 fun i => nI (yEnc W s (4 * j + i))) := fun T j hj => by
    refine Eq.trans (x_put (n := 4) (by decide) (by omega) (y_col_lt hz hj)) (congrArg some (m_g fun i hi => ?_))
    rw [y_colb hz hj hi]
  rw [xf_C_encipher_64, if_pos (show (40 : Int32) ≤ nI 40 from nI_le (a := 40) (Nat.le_refl _) (by decide)), y_g0 hu, Option.bind_some, show xs_rd S (k + 1) 40 = _ from rd2 S 40 rfl (by decide), Option.bind_some, show nI (yCol W 40) = nI (yCol W (4 * 10 + 0)) from rfl, cx 0 (by decide), show nI fr = nI (fr + 4 * 0) from rfl, pt _ 0 (by decide), Option.bind_some]
  generalize hT1 : xs_mp S a (fr + 4 * 0) 4 _ = T1
  have k1 : T1.1 (k + 1) = S.1 (k + 1) := by rw [← hT1, m_ne hne]
  rw [y_g1 hu, Option.bind_some, show xs_rd T1 (k + 1) (40 + 1) = _ from rd2 T1 41 k1 (by decide), Option.bind_some, show nI (yCol W 41) = nI (yCol W (4 * 10 + 1)) from rfl, cx 1 (by decide), show nI (fr + 4 * 0) + 4 = nI (fr + 4 * 1) from nI_add fr 4, pt _ 1 (by decide), Option.bind_some]
  generalize hT2 : xs_mp T1 a (fr + 4 * 1) 4 _ = T2
  have k2 : T2.1 (k + 1) = S.1 (k + 1) := by rw [← hT2, m_ne hne, k1]
  rw [y_g2 hu, Option.bind_some, show xs_rd T2 (k + 1) (40 + 2) = _ from rd2 T2 42 k2 (by decide), Option.bind_some, show nI (yCol W 42) = nI (yCol W (4 * 10 + 2)) from rfl, cx 2 (by decide), show nI (fr + 4 * 0) + 8 = nI (fr + 4 * 2) from nI_add fr 8, pt _ 2 (by decide), Option.bind_some]
  generalize hT3 : xs_mp T2 a (fr + 4 * 2) 4 _ = T3
  have k3 : T3.1 (k + 1) = S.1 (k + 1) := by rw [← hT3, m_ne hne, k2]
  rw [y_g3 hu, Option.bind_some, show xs_rd T3 (k + 1) (40 + 3) = _ from rd2 T3 43 k3 (by decide), Option.bind_some, show nI (yCol W 43) = nI (yCol W (4 * 10 + 3)) from rfl, cx 3 (by decide), show nI (fr + 4 * 0) + 12 = nI (fr + 4 * 3) from nI_add fr 12, pt _ 3 (by decide), Option.bind_some]
  subst hT3 hT2 hT1
  exact congrArg some (m_4 (g := fun i => nI (yEnc W s i)))
/-! the schedule of a key -/
def yRc : Nat → Nat
  | 0 => 1
  | n + 1 => yTw (yRc n)
def yTn (W : Nat → Nat) (i : Nat) : Nat := if i % 16 < 4 then yS 171 (W (i - 4 - i % 4 + (i % 4 + 1) % 4)) ^^^ (if i % 16 = 0 then yRc (i / 16 - 1) else 0) else W (i - 4)
def ySc (key W : Nat → Nat) : Prop := (∀ i, i < 16 → W i = key i) ∧ ∀ i, 16 ≤ i → i < 176 → W i = W (i - 16) ^^^ yTn W i
def yW (key : Nat → Nat) : Nat → (Nat → Nat)
  | 0 => key
  | n + 1 => fun i => if i = 16 + n then yW key n n ^^^ yTn (yW key n) (16 + n) else yW key n i
def ySch (key : Nat → Nat) : Nat → Nat := yW key 160
theorem y_tn_eq {V W : Nat → Nat} {i : Nat} (hi : 16 ≤ i) (h : ∀ j, j < i → V j = W j) : yTn V i = yTn W i := by
  unfold yTn
  rw [h (i - 4 - i % 4 + (i % 4 + 1) % 4) (by omega), h (i - 4) (by omega)]
theorem y_w_st {key : Nat → Nat} : ∀ m n i, i < 16 + n → yW key (n + m) i = yW key n i
  | 0, _, _, _ => rfl
  | m + 1, n, i, h => by
    show (if i = 16 + (n + m) then _ else yW key (n + m) i) = _
    rw [if_neg (by omega), y_w_st m n i h]
theorem y_sch {key : Nat → Nat} : ySc key (ySch key) := by
  refine ⟨fun i hi => y_w_st 160 0 i (by omega), fun i h1 h2 => ?_⟩
  obtain ⟨n, rfl⟩ : ∃ n, i = 16 + n := ⟨i - 16, by omega⟩
  have st : ∀ j, j < 16 + n → ySch key j = yW key n j := fun j hj => by
    have := y_w_st (key := key) (160 - n) n j hj
    rw [show n + (160 - n) = 160 by omega] at this
    exact this
  have e : ySch key (16 + n) = yW key (n + 1) (16 + n) := by
    have := y_w_st (key := key) (160 - (n + 1)) (n + 1) (16 + n) (by omega)
    rw [show n + 1 + (160 - (n + 1)) = 160 by omega] at this
    exact this
  rw [e, y_tn_eq h1 st, show 16 + n - 16 = n by omega, st n (by omega)]
  show (if 16 + n = 16 + n then _ else _) = _
  rw [if_pos rfl]
theorem y_rc_lt : ∀ n, yRc n < 256
  | 0 => by decide
  | n + 1 => y_tw_lt _ (y_rc_lt n)
theorem y_sc_lt {key W : Nat → Nat} (h : ySc key W) (hk : yB 16 key) : yB 176 W := by
  intro i
  induction i using Nat.strongRecOn with
  | ind i ih =>
    intro hi
    by_cases h1 : i < 16
    · rw [h.1 i h1]
      exact hk i h1
    · rw [h.2 i (by omega) hi]
      refine y_xlt (ih (i - 16) (by omega) (by omega)) ?_
      unfold yTn
      split
      · refine y_xlt (y_S171 _ (ih _ (by omega) (by omega))).2 ?_
        split
        · exact y_rc_lt _
        · decide
      · exact ih (i - 4) (by omega) (by omega)
theorem y_sc_eq {key V W : Nat → Nat} (hV : ySc key V) (hW : ySc key W) : ∀ i, i < 176 → V i = W i := by
  intro i
  induction i using Nat.strongRecOn with
  | ind i ih =>
    intro hi
    by_cases h1 : i < 16
    · rw [hV.1 i h1, hW.1 i h1]
    · rw [hV.2 i (by omega) hi, hW.2 i (by omega) hi, ih (i - 16) (by omega) (by omega), y_tn_eq (by omega) (fun j hj => ih j hj (by omega))]
