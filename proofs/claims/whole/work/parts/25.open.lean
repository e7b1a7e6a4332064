/-! a session's keys, both ways -/
def yDk (kind serial nonce : Nat) : Nat → Nat := fun i => if i = 0 then kind else if 1 ≤ i ∧ i < 4 then serial / 2 ^ (8 * (i - 1)) % 256 else if i = 4 then 19 else if 7 ≤ i ∧ i < 9 then nonce / 2 ^ (8 * (i - 7)) % 256 else 0
theorem y_dk_lt {kind serial nonce : Nat} (h : kind < 256) : yB 16 (yDk kind serial nonce) := fun i _ => by
  have m : ∀ x, x % 256 < 256 := fun x => Nat.mod_lt _ (by decide)
  unfold yDk
  split
  · exact h
  · split
    · exact m _
    · split
      · decide
      · split
        · exact m _
        · decide
theorem x_derive {S : xs_T} {k a kind serial nonce : Nat} {W : Nat → Nat} (hk : xs_kd k = 5) (ha : xs_ln (a + 1) = 44) (hne : a + 1 ≠ k + 10) (hW : xs_rk S (a + 1) W) (h1 : kind < 256) (h2 : serial < 2 ^ 32) (h3 : nonce < 2 ^ 32) :
    ∃ T, xf_S_deriveKey k a (nI kind) (nI serial) (nI nonce) S = some T ∧ xs_by T (k + 10) 0 16 (yEnc W (yDk kind serial nonce)) ∧ xs_eq [k + 10] S T := by
  obtain ⟨-, l8, l9, l10⟩ := x_kS hk
  unfold xf_S_deriveKey
  rw [x_fill, Option.bind_some, l10]
  have q1 : xs_eq [k + 10] S (xs_mp S (k + 10) 0 16 fun _ => 0) := e_mp (by simp)
  have z1 : ∀ j, j < 16 → (xs_mp S (k + 10) 0 16 fun _ => 0).1 (k + 10) j = 0 := fun j hj => by
    have := m_in (S := S) (p := k + 10) (fr := 0) (n := 16) (g := fun _ => 0) hj
    rwa [Nat.zero_add] at this
  generalize (xs_mp S (k + 10) 0 16 fun _ => 0) = T1 at q1 z1 ⊢
  rw [show xs_wr T1 (k + 10) 0 (nI kind) = some (xs_sI T1 (k + 10) 0 (nI kind)) from x_wr (j := 0) (by omega), Option.bind_some, show ∀ T, xf_W_putNumber (k + 10) 1 (nI serial) 3 T = _ from fun T => x_put (fr := 1) (n := 3) (by decide) (by omega) h2, Option.bind_some, show ∀ T, xs_wr T (k + 10) 4 19 = some (xs_sI T (k + 10) 4 19) from fun T => x_wr (j := 4) (by omega), Option.bind_some, show ∀ T, xf_W_putNumber (k + 10) 7 (nI nonce) 2 T = _ from fun T => x_put (fr := 7) (n := 2) (by decide) (by omega) h3, Option.bind_some]
  generalize hT2 : xs_mp (xs_sI (xs_mp (xs_sI T1 (k + 10) 0 (nI kind)) (k + 10) 1 3 fun i => nI (serial / 2 ^ (8 * i) % 256)) (k + 10) 4 19) (k + 10) 7 2 (fun i => nI (nonce / 2 ^ (8 * i) % 256)) = T2
  have q2 : xs_eq [k + 10] S T2 := by
    rw [← hT2]
    exact e_tr q1 (e_tr (e_sI (by simp)) (e_tr (e_mp (by simp)) (e_tr (e_sI (by simp)) (e_mp (by simp)))))
  have s2 : xs_by T2 (k + 10) 0 16 (yDk kind serial nonce) := fun j hj => by
    refine ⟨?_, y_dk_lt h1 j hj⟩
    rw [Nat.zero_add, ← hT2]
    unfold yDk
    by_cases c7 : 7 ≤ j ∧ j < 9
    · obtain ⟨t, rfl⟩ : ∃ t, j = 7 + t := ⟨j - 7, by omega⟩
      rw [m_in (by omega), if_neg (by omega), if_neg (by omega), if_neg (by omega), if_pos c7, show 7 + t - 7 = t by omega]
    rw [m_out (by omega)]
    by_cases c4 : j = 4
    · subst c4
      rw [x_fI, if_neg (by decide), if_neg (by decide), if_pos rfl]
      rfl
    rw [x_fN c4]
    by_cases c1 : 1 ≤ j ∧ j < 4
    · obtain ⟨t, rfl⟩ : ∃ t, j = 1 + t := ⟨j - 1, by omega⟩
      rw [m_in (by omega), if_neg (by omega), if_pos c1, show 1 + t - 1 = t by omega]
    rw [m_out (by omega)]
    by_cases c0 : j = 0
    · subst c0
      rw [x_fI, if_pos rfl]
    rw [x_fN c0, z1 j hj, if_neg c0, if_neg c1, if_neg c4, if_neg c7]
    rfl
  rw [show xf_C_encipher a (k + 10) 0 T2 = _ from x_enc (fr := 0) (by omega) ha hne (e_rk q2 (by simpa using hne) hW) s2, Option.bind_some]
  exact ⟨_, rfl, m_by (y_b_enc hW.1 (y_dk_lt h1)), e_tr q2 (e_mp (by simp))⟩
theorem x_kSC {k a : Nat} (h : xs_kd k = 5) (ha : a ∈ [48, 72, 96]) : xs_ln (a + 1) = 44 ∧ a + 1 ≠ k ∧ a + 1 ≠ k + 3 ∧ a + 1 ≠ k + 4 ∧ a + 1 ≠ k + 5 ∧ a + 1 ≠ k + 8 ∧ a + 1 ≠ k + 10 := by
  have t := (by decide +kernel : ∀ k ∈ [54, 78, 102, 124, 140, 156], ∀ a ∈ [48, 72, 96], xs_ln (a + 1) = 44 ∧ a + 1 ≠ k ∧ a + 1 ≠ k + 3 ∧ a + 1 ≠ k + 4 ∧ a + 1 ≠ k + 5 ∧ a + 1 ≠ k + 8 ∧ a + 1 ≠ k + 10)
  exact t k (xs_k_S k (xs_kd_lt k (by rw [h]; decide)) h) a ha
theorem x_open {S : xs_T} {k a serial addr nonce : Nat} {W : Nat → Nat} (hk : xs_kd k = 5) (ha : a ∈ [48, 72, 96]) (hW : xs_rk S (a + 1) W) (h2 : serial < 2 ^ 32) (h3 : nonce < 2 ^ 32) (h4 : addr < 2 ^ 32) :
    ∃ T, xf_S_open k a (nI serial) (nI addr) (nI nonce) S = some T ∧ xs_ses T k addr (ySch (yEnc W (yDk 1 serial nonce))) (ySch (yEnc W (yDk 2 serial nonce))) ∧ xs_eq [k, k + 3, k + 4, k + 5, k + 8, k + 10] S T := by
  obtain ⟨⟨kM, -⟩, l8, l9, l10⟩ := x_kS hk
  obtain ⟨la, a0, a3, a4, a5, a8, a10⟩ := x_kSC hk ha
  unfold xf_S_open
  rw [Option.bind_some]
  have q1 : xs_eq [k] S (xs_sI S k 4 (nI addr)) := e_sI (by simp)
  have f1 : (xs_sI S k 4 (nI addr)).1 k 4 = nI addr := x_fI
  generalize xs_sI S k 4 (nI addr) = T1 at q1 f1 ⊢
  have w1 := e_rk q1 (by simpa using a0) hW
  obtain ⟨T2, e2, s2, q2⟩ := x_derive (kind := 1) hk la a10 w1 (by decide) h2 h3
  rw [show xf_S_deriveKey k a 1 (nI serial) (nI nonce) T1 = _ from e2, Option.bind_some]
  have w2 := e_rk q2 (by simpa using a10) w1
  obtain ⟨T3, e3, s3, q3⟩ := x_mac_take (k := k + 1) (a := k + 10) kM (by omega) s2 (by omega)
  rw [e3, Option.bind_some]
  have q3 : xs_eq [k + 3, k + 4, k + 5] T2 T3 := q3
  have w3 := e_rk q3 (by simp; omega) w2
  obtain ⟨T4, e4, s4, q4⟩ := x_derive (kind := 2) hk la a10 w3 (by decide) h2 h3
  rw [show xf_S_deriveKey k a 2 (nI serial) (nI nonce) T3 = _ from e4, Option.bind_some]
  obtain ⟨g, e5, hW5, hg5⟩ := x_rk_take (k := k + 7) (a := k + 10) l8 (by omega) (by omega) s4
  rw [e5, Option.bind_some]
  have q5 : xs_eq [k + 8] T4 (xs_pI T4 (k + 8) g) := e_pI (by simp)
  refine ⟨_, rfl, ⟨?_, h4, e_mac (k := k + 1) q5 (by simp) (by simp) (by simp) (e_mac (k := k + 1) q4 (by simp) (by simp) (by simp) s3), ⟨hW5, fun j hj => ?_⟩⟩, e_tr (e_mono q1 (by simp)) (e_tr (e_mono q2 (by simp)) (e_tr (e_mono q3 (by simp)) (e_tr (e_mono q4 (by simp)) (e_mono q5 (by simp)))))⟩
  · show (xs_pI T4 (k + 8) g).1 k 4 = _
    rw [q5.1 k (by simp), q4.1 k (by simp), q3.1 k (by simp), q2.1 k (by simp), f1]
  · show (xs_pI T4 (k + 8) g).1 (k + 8) j = _
    rw [p_at]
    exact hg5 j hj
theorem r_derive {S : xs_T} {r i serial nonce : Nat} {key : Nat → Nat} (hx : xs_bx S) (hr : r < 3) (hk : xs_by S 207 (16 * r) 16 key) (hi : 3 ≤ i ∧ i < 14) (h2 : serial < 2 ^ 32) (h3 : nonce < 65536) :
    ∃ T, xf_R_derive 200 (nI r) (nI serial) (nI nonce) (nI i) S = some T ∧ xs_by T 207 (16 * i) 16 (yEnc (ySch key) (yDk 1 serial nonce)) ∧ xs_by T 207 (16 * (i + 1)) 16 (yEnc (ySch key) (yDk 2 serial nonce)) ∧ (∀ j, j < 16 * i ∨ 16 * i + 32 ≤ j → T.1 207 j = S.1 207 j) ∧ xs_eq [203, 204, 205, 207] S T := by
  have hkb : yB 16 key := fun j hj => (hk j hj).2
  have hW := y_sc_lt (y_sch (key := key)) hkb
  -- one kind
  have one : ∀ (c3 : Int32 → xs_T → Option xs_T) (T : xs_T) (kind : Nat), 1 ≤ kind → kind ≤ 2 → xs_eq [203, 204, 205, 207] S T → (∀ j, j < 16 * i ∨ 16 * i + 32 ≤ j → T.1 207 j = S.1 207 j) →
      ∃ T2, (xs_by T2 207 (16 * (i + kind - 1)) 16 (yEnc (ySch key) (yDk kind serial nonce)) ∧ (∀ j, j < 16 * (i + kind - 1) ∨ 16 * (i + kind - 1) + 16 ≤ j → T2.1 207 j = T.1 207 j) ∧ xs_eq [203, 204, 205, 207] S T2) ∧ xf_R_derive_12 200 (nI r) (nI serial) (nI nonce) (nI i) c3 xs_fuel (nI kind) 0 T = c3 (nI (kind + 1)) T2 := by
    intro c3 T kind hk1 hk2 hT hTk
    have e1 := xl_map (fun g j (T : xs_T) => xf_R_derive_12 200 (nI r) (nI serial) (nI nonce) (nI i) c3 g (nI kind) (nI j) T) T 204 0 16 (fun _ => nI 0) (fun g j hj => by
      show xf_R_derive_12 200 (nI r) (nI serial) (nI nonce) (nI i) c3 (g + 1) (nI kind) (nI j) _ = xf_R_derive_12 200 (nI r) (nI serial) (nI nonce) (nI i) c3 g (nI kind) (nI (j + 1)) _
      rw [xf_R_derive_12, if_neg (show ¬ (16 : Int32) ≤ nI j from nI_ge (b := 16) hj (by decide)), x_wr (k := 200 + 4) (show j < 16 from hj), Option.bind_some, nI_1, Nat.zero_add]
      rfl) xs_fuel (by decide)
    have z1 : ∀ j, j < 16 → (xs_mp T 204 0 16 fun _ => nI 0).1 204 j = nI 0 := fun j hj => by
      have := m_in (S := T) (p := 204) (fr := 0) (n := 16) (g := fun _ => nI 0) hj
      rwa [Nat.zero_add] at this
    have q1 : xs_eq [204] T (xs_mp T 204 0 16 fun _ => nI 0) := e_mp (by decide)
    rw [show xf_R_derive_12 200 (nI r) (nI serial) (nI nonce) (nI i) c3 xs_fuel (nI kind) 0 T = _ from e1]
    generalize (xs_mp T 204 0 16 fun _ => nI 0) = T1 at z1 q1 ⊢
    show ∃ T2, _ ∧ xf_R_derive_12 200 (nI r) (nI serial) (nI nonce) (nI i) c3 (983 + 1) (nI kind) (nI 16) T1 = _
    rw [xf_R_derive_12, if_pos (show (16 : Int32) ≤ nI 16 from nI_le (a := 16) (Nat.le_refl _) (by decide)), show xs_wr T1 (200 + 4) 0 (nI kind) = some (xs_sI T1 204 0 (nI kind)) from x_wr (k := 204) (j := 0) (by decide), Option.bind_some]
    have e2 := xl_map (fun g j (T : xs_T) => xf_R_derive_44 200 (nI r) (nI serial) (nI nonce) (nI i) c3 g (nI kind) (nI j) T) (xs_sI T1 204 0 (nI kind)) 204 1 3 (fun j => nI (serial / 2 ^ (8 * j) % 256)) (fun g j hj => by
      show xf_R_derive_44 200 (nI r) (nI serial) (nI nonce) (nI i) c3 (g + 1) (nI kind) (nI j) _ = xf_R_derive_44 200 (nI r) (nI serial) (nI nonce) (nI i) c3 g (nI kind) (nI (j + 1)) _
      rw [xf_R_derive_44, if_neg (show ¬ (3 : Int32) ≤ nI j from nI_ge (b := 3) hj (by decide)), n_sar j (by omega) h2, show (1 : Int32) + nI j = nI (1 + j) from nI_add 1 j, x_wr (k := 200 + 4) (show 1 + j < 16 by omega), Option.bind_some, nI_1]) xs_fuel (by decide)
    rw [show xf_R_derive_44 200 (nI r) (nI serial) (nI nonce) (nI i) c3 xs_fuel (nI kind) 0 (xs_sI T1 204 0 (nI kind)) = _ from e2]
    show ∃ T2, _ ∧ xf_R_derive_44 200 (nI r) (nI serial) (nI nonce) (nI i) c3 (996 + 1) (nI kind) (nI 3) _ = _
    rw [xf_R_derive_44, if_pos (show (3 : Int32) ≤ nI 3 from nI_le (a := 3) (Nat.le_refl _) (by decide)), show ∀ T, xs_wr T (200 + 4) 4 19 = some (xs_sI T 204 4 19) from fun T => x_wr (k := 204) (j := 4) (by decide), Option.bind_some, pk_andN (by omega) 8 (by decide), show ∀ T v, xs_wr T (200 + 4) 7 v = some (xs_sI T 204 7 v) from fun T v => x_wr (k := 204) (j := 7) (by decide), Option.bind_some, show (nI nonce >>> ((8 : Int32) &&& 31)) &&& 255 = nI (nonce / 2 ^ 8 % 256) from n_sar 1 (by decide) (by omega), show ∀ T v, xs_wr T (200 + 4) 8 v = some (xs_sI T 204 8 v) from fun T v => x_wr (k := 204) (j := 8) (by decide), Option.bind_some]
    generalize hT2 : xs_sI (xs_sI (xs_sI (xs_mp (xs_sI T1 204 0 (nI kind)) 204 1 3 fun j => nI (serial / 2 ^ (8 * j) % 256)) 204 4 19) 204 7 (nI (nonce % 2 ^ 8))) 204 8 (nI (nonce / 2 ^ 8 % 256)) = T2
    have q2 : xs_eq [204] T T2 := by
      rw [← hT2]
      exact e_tr q1 (e_tr (e_sI (by decide)) (e_tr (e_mp (by decide)) (e_tr (e_sI (by decide)) (e_tr (e_sI (by decide)) (e_sI (by decide))))))
    have s2 : xs_by T2 204 0 16 (yDk kind serial nonce) := fun j hj => by
      refine ⟨?_, y_dk_lt (by omega) j hj⟩
      rw [Nat.zero_add, ← hT2]
      unfold yDk
      by_cases c8 : j = 8
      · subst c8
        rw [x_fI, if_neg (by decide), if_neg (by decide), if_neg (by decide), if_pos (by decide)]
      rw [x_fN c8]
      by_cases c7 : j = 7
      · subst c7
        rw [x_fI, if_neg (by decide), if_neg (by decide), if_neg (by decide), if_pos (by decide)]
        show nI (nonce % 256) = nI (nonce / 1 % 256)
        rw [Nat.div_one]
      rw [x_fN c7]
      by_cases c4 : j = 4
      · subst c4
        rw [x_fI, if_neg (by decide), if_neg (by decide), if_pos rfl]
        rfl
      rw [x_fN c4]
      by_cases c1 : 1 ≤ j ∧ j < 4
      · obtain ⟨t, rfl⟩ : ∃ t, j = 1 + t := ⟨j - 1, by omega⟩
        rw [m_in (by omega), if_neg (by omega), if_pos c1, show 1 + t - 1 = t by omega]
      rw [m_out (by omega)]
      by_cases c0 : j = 0
      · subst c0
        rw [x_fI, if_pos rfl]
      rw [x_fN c0, z1 j hj, if_neg c0, if_neg c1, if_neg c4, if_neg (by omega)]
    have q2' := e_tr hT (e_mono q2 (by decide))
    have k2 : xs_by T2 207 (16 * r) 16 key := fun j hj => by
      rw [q2.1 207 (by decide), hTk _ (by omega)]
      exact hk j hj
    obtain ⟨T3, e3, s3, q3⟩ := r_cipher (e_bx q2' (by decide) (by decide) hx) (by omega) k2 s2
    rw [e3, Option.bind_some]
    have e4 := xl_map (fun g j (T : xs_T) => xf_R_derive_119 200 (nI r) (nI serial) (nI nonce) (nI i) c3 g (nI kind) (nI j) T) T3 207 (16 * (i + kind - 1)) 16 (fun j => nI (yEnc (ySch key) (yDk kind serial nonce) j)) (fun g j hj => by
      show xf_R_derive_119 200 (nI r) (nI serial) (nI nonce) (nI i) c3 (g + 1) (nI kind) (nI j) _ = xf_R_derive_119 200 (nI r) (nI serial) (nI nonce) (nI i) c3 g (nI kind) (nI (j + 1)) _
      generalize hT : (xs_mp T3 207 (16 * (i + kind - 1)) j fun j => nI (yEnc (ySch key) (yDk kind serial nonce) j)) = T
      rw [xf_R_derive_119, if_neg (show ¬ (16 : Int32) ≤ nI j from nI_ge (b := 16) hj (by decide)), x_rd (k := 200 + 4) (show j < 16 from hj), Option.bind_some, show T.1 (200 + 4) j = nI (yEnc (ySch key) (yDk kind serial nonce) j) by
        rw [← hT, m_ne (by decide)]
        exact b_at s3 hj, nI_add, show nI (i + kind) - 1 = nI (i + kind - 1) from pk_sub (b := 1) (by omega), show (16 : Int32) * nI (i + kind - 1) = nI (16 * (i + kind - 1)) from pk_mul 16 _, nI_add, x_wr (k := 200 + 7) (show 16 * (i + kind - 1) + j < 240 by omega), Option.bind_some, nI_1]) xs_fuel (by decide)
    refine ⟨xs_mp T3 207 (16 * (i + kind - 1)) 16 fun j => nI (yEnc (ySch key) (yDk kind serial nonce) j), ⟨m_by (y_b_enc hW (y_dk_lt (by omega))), fun j hj => ?_, e_tr q2' (e_tr (e_mono q3 (by decide)) (e_mp (by decide)))⟩, ?_⟩
    · rw [m_out hj, q3.1 207 (by decide), q2.1 207 (by decide)]
    · rw [show xf_R_derive_119 200 (nI r) (nI serial) (nI nonce) (nI i) c3 xs_fuel (nI kind) 0 T3 = _ from e4]
      show xf_R_derive_119 200 (nI r) (nI serial) (nI nonce) (nI i) c3 (983 + 1) (nI kind) (nI 16) _ = _
      rw [xf_R_derive_119, if_pos (show (16 : Int32) ≤ nI 16 from nI_le (a := 16) (Nat.le_refl _) (by decide)), nI_1]
  unfold xf_R_derive
  show ∃ T, xf_R_derive_3 200 (nI r) (nI serial) (nI nonce) (nI i) (999 + 1) (nI 1) S = some T ∧ _
  obtain ⟨T1, ⟨s1, k1, q1⟩, e1⟩ := one (xf_R_derive_3 200 (nI r) (nI serial) (nI nonce) (nI i) 999) S 1 (by decide) (by decide) e_rf (fun _ _ => rfl)
  rw [show i + 1 - 1 = i by omega] at s1 k1
  rw [xf_R_derive_3, if_neg (by decide), e1]
  show ∃ T, xf_R_derive_3 200 (nI r) (nI serial) (nI nonce) (nI i) (998 + 1) (nI 2) T1 = some T ∧ _
  obtain ⟨T2, ⟨s2, k2, q2⟩, e2⟩ := one (xf_R_derive_3 200 (nI r) (nI serial) (nI nonce) (nI i) 998) T1 2 (by decide) (by decide) q1 (fun j hj => k1 j (by omega))
  rw [show i + 2 - 1 = i + 1 by omega] at s2 k2
  rw [xf_R_derive_3, if_neg (by decide), e2]
  refine ⟨T2, ?_, fun j hj => ?_, s2, fun j hj => ?_, q2⟩
  · show xf_R_derive_3 200 (nI r) (nI serial) (nI nonce) (nI i) (997 + 1) (nI 3) T2 = _
    rw [xf_R_derive_3, if_pos (by decide)]
  · rw [k2 _ (by omega)]
    exact s1 j hj
  · rw [k2 j (by omega), k1 j (by omega)]
