/-! the reference's schedule and cipher -/
theorem e_bx {ps : List Nat} {S T : xs_T} (h : xs_eq ps S T) (h1 : 201 ∉ ps) (h2 : 202 ∉ ps) (hx : xs_bx S) : xs_bx T := fun a ha => by
  rw [h.1 201 h1, h.1 202 h2]
  exact hx a ha
theorem e_pI {ps : List Nat} {S : xs_T} {p : Nat} {g : Nat → Int32} (h : p ∈ ps) : xs_eq ps S (xs_pI S p g) := ⟨fun q hq => p_ne fun e => hq (e ▸ h), rfl⟩
theorem e_mono {ps qs : List Nat} {S T : xs_T} (h : xs_eq ps S T) (hs : ∀ x ∈ ps, x ∈ qs) : xs_eq qs S T := ⟨fun q hq => h.1 q (fun hp => hq (hs q hp)), h.2⟩
theorem r_sched {S : xs_T} {i : Nat} {key : Nat → Nat} (hx : xs_bx S) (hi : i < 15) (hk : xs_by S 207 (16 * i) 16 key) :
    ∃ g, xf_R_schedule 200 (nI i) S = some (xs_pI S 203 g) ∧ yB 176 (ySch key) ∧ ∀ j, j < 176 → g j = nI (ySch key j) := by
  have hkb : yB 16 key := fun j hj => (hk j hj).2
  have hsc := y_sch (key := key)
  have hW := y_sc_lt hsc hkb
  generalize ySch key = W at hsc hW ⊢
  unfold xf_R_schedule
  have e := xl_map (fun f j (T : xs_T) => xf_R_schedule_4 200 (nI i) f 1 (nI j) T) S 203 0 16 (fun j => nI (key j)) (fun f j hj => by
    show xf_R_schedule_4 200 (nI i) (f + 1) 1 (nI j) _ = xf_R_schedule_4 200 (nI i) f 1 (nI (j + 1)) _
    generalize hT : (xs_mp S 203 0 j fun j => nI (key j)) = T
    rw [xf_R_schedule_4, if_neg (show ¬ (16 : Int32) ≤ nI j from nI_ge (b := 16) hj (by decide)), show (16 : Int32) * nI i = nI (16 * i) from pk_mul 16 i, nI_add, x_rd (k := 200 + 7) (show 16 * i + j < 240 by omega), Option.bind_some, x_wr (k := 200 + 3) (show j < 176 by omega), Option.bind_some, nI_1, Nat.zero_add]
    rw [show T.1 (200 + 7) (16 * i + j) = nI (key j) by
      rw [← hT, m_ne (by decide)]
      exact (hk j hj).1]) xs_fuel (by decide)
  rw [show (0 : Int32) = nI 0 from rfl, show xf_R_schedule_4 200 (nI i) xs_fuel 1 (nI 0) S = _ from e]
  show ∃ g, xf_R_schedule_4 200 (nI i) (983 + 1) 1 (nI 16) (xs_mp S 203 0 16 fun j => nI (key j)) = _ ∧ _
  rw [xf_R_schedule_4, if_pos (show (16 : Int32) ≤ nI 16 from nI_le (a := 16) (Nat.le_refl _) (by decide))]
  obtain ⟨v, hv, e2⟩ := xl_for (fun f w (v : Int32 × xs_T) => xf_R_schedule_36 200 (nI i) f v.1 (nI (16 + 4 * w)) v.2) (fun w v => v.1 = nI (yRc ((w + 3) / 4)) ∧ ∃ g, v.2 = xs_pI S 203 g ∧ ∀ j, j < 16 + 4 * w → g j = nI (W j)) 40
    (fun f w v hw hv => by
      obtain ⟨v1, v2⟩ := v
      obtain ⟨h1, g, h2, hg⟩ := hv
      simp only at h1 h2
      subst h1 h2
      have hsc2 : ∀ t, t < 4 → W (16 + 4 * w + t) = W (4 * w + t) ^^^ yTn W (16 + 4 * w + t) := fun t ht => by
        have := hsc.2 (16 + 4 * w + t) (by omega) (by omega)
        rw [show 16 + 4 * w + t - 16 = 4 * w + t by omega] at this
        exact this
      have i16 : nI (16 + 4 * w) - 16 = nI (4 * w) := (pk_sub (a := 16 + 4 * w) (b := 16) (by omega)).trans (by congr 1; omega)
      have i4 : nI (16 + 4 * w) - 4 = nI (12 + 4 * w) := (pk_sub (a := 16 + 4 * w) (b := 4) (by omega)).trans (by congr 1; omega)
      have rd : ∀ (g : Nat → Int32) j, j < 176 → xs_rd (xs_pI S 203 g) (200 + 3) (nI j) = some (g j) := fun g j hj => by
        rw [x_rd (k := 200 + 3) (show j < 176 from hj)]
        show some ((xs_pI S 203 g).1 203 j) = _
        rw [p_at]
      have rdb : ∀ (g : Nat → Int32) j, j < 256 → xs_rd (xs_pI S 203 g) (200 + 1) (nI j) = some (nI (yS 171 j)) := fun g j hj => by
        rw [x_rd (k := 200 + 1) (show j < 256 from hj)]
        show some ((xs_pI S 203 g).1 201 j) = _
        rw [p_ne (by decide), (hx j hj).1]
      have wr : ∀ (g : Nat → Int32) j v, j < 176 → xs_wr (xs_pI S 203 g) (200 + 3) (nI j) v = some (xs_pI S 203 (upd g j v)) := fun g j v hj => by
        rw [x_wr (k := 200 + 3) (show j < 176 from hj)]
        exact congrArg some p_psI
      have new : ∀ (g : Nat → Int32) j, (∀ t, t < 16 + 4 * w + j → g t = nI (W t)) → ∀ t, t < 16 + 4 * w + (j + 1) → upd g (16 + 4 * w + j) (nI (W (16 + 4 * w + j))) t = nI (W t) := fun g j hg t ht => by
        by_cases h1 : t = 16 + 4 * w + j
        · subst h1
          exact pk_us
        · rw [pk_un h1]
          exact hg t (by omega)
      have hrc := y_rc_lt ((w + 3) / 4)
      by_cases h4 : w % 4 = 0
      · have inner : ∀ c36, ∃ T, (∃ g, T = xs_pI S 203 g ∧ ∀ j, j < 16 + 4 * w + 4 → g j = nI (W j)) ∧ xf_R_schedule_60 200 (nI i) c36 xs_fuel (nI (yRc ((w + 3) / 4))) (nI (16 + 4 * w)) 1 (nI 0) (xs_pI S 203 g) = xf_R_schedule_60 200 (nI i) c36 (995 + 1) (nI (yRc ((w + 3) / 4))) (nI (16 + 4 * w)) 1 (nI 4) T := by
          intro c36
          exact xl_for (fun f j (T : xs_T) => xf_R_schedule_60 200 (nI i) c36 f (nI (yRc ((w + 3) / 4))) (nI (16 + 4 * w)) 1 (nI j) T) (fun j T => ∃ g, T = xs_pI S 203 g ∧ ∀ t, t < 16 + 4 * w + j → g t = nI (W t)) 4 (fun f j T hj hT => by
            obtain ⟨g, rfl, hg⟩ := hT
            refine ⟨_, ⟨_, rfl, new g j hg⟩, ?_⟩
            show xf_R_schedule_60 200 (nI i) c36 (f + 1) _ _ 1 (nI j) _ = xf_R_schedule_60 200 (nI i) c36 f _ _ 1 (nI (j + 1)) (xs_pI S 203 (upd g (16 + 4 * w + j) (nI (W (16 + 4 * w + j)))))
            have hb := hW (12 + 4 * w + (j + 1) % 4) (by omega)
            rw [xf_R_schedule_60, if_neg (show ¬ (4 : Int32) ≤ nI j from nI_ge (b := 4) hj (by decide)), if_neg (by decide : ¬ (1 : Int32) = 0), i4, nI_1, x_r4 (by omega), nI_add, rd g _ (by omega), Option.bind_some, hg _ (by omega), rdb g _ hb, Option.bind_some]
            unfold xf_R_schedule_105
            rw [i16, nI_add, rd g _ (by omega), Option.bind_some, hg _ (by omega), if_neg (by decide : ¬ (1 : Int32) = 0), n_xor, nI_add]
            by_cases hj0 : j = 0
            · subst hj0
              rw [if_pos (show nI 0 = 0 from rfl)]
              unfold xf_R_schedule_145
              rw [n_xor, wr g _ _ (by omega), Option.bind_some, show nI 0 + 1 = nI (0 + 1) from nI_1 0]
              rw [show (W (4 * w + 0) ^^^ yS 171 (W (12 + 4 * w + (0 + 1) % 4))) ^^^ yRc ((w + 3) / 4) = W (16 + 4 * w + 0) by
                rw [hsc2 0 (by decide), Nat.xor_assoc]
                unfold yTn
                rw [if_pos (by omega), if_pos (by omega), show 16 + 4 * w + 0 - 4 - (16 + 4 * w + 0) % 4 + ((16 + 4 * w + 0) % 4 + 1) % 4 = 12 + 4 * w + (0 + 1) % 4 by omega, show (16 + 4 * w + 0) / 16 - 1 = (w + 3) / 4 by omega]]
            · rw [if_neg (nI_ne0 (by omega) (by omega))]
              unfold xf_R_schedule_144 xf_R_schedule_145
              rw [show ∀ x : Nat, nI x ^^^ 0 = nI x from fun x => Int32.xor_zero, wr g _ _ (by omega), Option.bind_some, nI_1]
              rw [show W (4 * w + j) ^^^ yS 171 (W (12 + 4 * w + (j + 1) % 4)) = W (16 + 4 * w + j) by
                rw [hsc2 j hj]
                unfold yTn
                rw [if_pos (by omega), if_neg (by omega), show 16 + 4 * w + j - 4 - (16 + 4 * w + j) % 4 + ((16 + 4 * w + j) % 4 + 1) % 4 = 12 + 4 * w + (j + 1) % 4 by omega, Nat.xor_zero]]) 4 0 xs_fuel (xs_pI S 203 g) rfl (by decide) ⟨g, rfl, hg⟩
        obtain ⟨T, ⟨g3, rfl, hg3⟩, ei⟩ := inner (xf_R_schedule_36 200 (nI i) f)
        refine ⟨(nI (yRc ((w + 1 + 3) / 4)), xs_pI S 203 g3), ⟨rfl, g3, rfl, fun j hj => hg3 j (by omega)⟩, ?_⟩
        show xf_R_schedule_36 200 (nI i) (f + 1) (nI (yRc ((w + 3) / 4))) (nI (16 + 4 * w)) (xs_pI S 203 g) = xf_R_schedule_36 200 (nI i) f (nI (yRc ((w + 1 + 3) / 4))) (nI (16 + 4 * (w + 1))) (xs_pI S 203 g3)
        rw [xf_R_schedule_36, if_neg (show ¬ (176 : Int32) ≤ nI (16 + 4 * w) from nI_ge (b := 176) (by omega) (by decide)), x_r16 (by omega), show (16 + 4 * w) % 16 = 0 by omega, if_pos nI_0]
        unfold xf_R_schedule_55
        refine Eq.trans ei ?_
        rw [xf_R_schedule_60, if_pos (show (4 : Int32) ≤ nI 4 from nI_le (a := 4) (Nat.le_refl _) (by decide)), if_neg (by decide : ¬ (1 : Int32) = 0), x_twice _ hrc, Option.bind_some]
        unfold xf_R_schedule_166
        rw [show nI (16 + 4 * w) + 4 = nI (16 + 4 * (w + 1)) from nI_add _ 4, show (w + 1 + 3) / 4 = (w + 3) / 4 + 1 by omega]
        rfl
      · have inner : ∀ c36, ∃ T, (∃ g, T = xs_pI S 203 g ∧ ∀ j, j < 16 + 4 * w + 4 → g j = nI (W j)) ∧ xf_R_schedule_60 200 (nI i) c36 xs_fuel (nI (yRc ((w + 3) / 4))) (nI (16 + 4 * w)) 0 (nI 0) (xs_pI S 203 g) = xf_R_schedule_60 200 (nI i) c36 (995 + 1) (nI (yRc ((w + 3) / 4))) (nI (16 + 4 * w)) 0 (nI 4) T := by
          intro c36
          exact xl_for (fun f j (T : xs_T) => xf_R_schedule_60 200 (nI i) c36 f (nI (yRc ((w + 3) / 4))) (nI (16 + 4 * w)) 0 (nI j) T) (fun j T => ∃ g, T = xs_pI S 203 g ∧ ∀ t, t < 16 + 4 * w + j → g t = nI (W t)) 4 (fun f j T hj hT => by
            obtain ⟨g, rfl, hg⟩ := hT
            refine ⟨_, ⟨_, rfl, new g j hg⟩, ?_⟩
            show xf_R_schedule_60 200 (nI i) c36 (f + 1) _ _ 0 (nI j) _ = xf_R_schedule_60 200 (nI i) c36 f _ _ 0 (nI (j + 1)) (xs_pI S 203 (upd g (16 + 4 * w + j) (nI (W (16 + 4 * w + j)))))
            rw [xf_R_schedule_60, if_neg (show ¬ (4 : Int32) ≤ nI j from nI_ge (b := 4) hj (by decide)), if_pos rfl, i4, nI_add, rd g _ (by omega), Option.bind_some, hg _ (by omega)]
            unfold xf_R_schedule_105
            rw [i16, nI_add, rd g _ (by omega), Option.bind_some, hg _ (by omega), if_pos rfl, n_xor, nI_add]
            unfold xf_R_schedule_144 xf_R_schedule_145
            rw [show ∀ x : Nat, nI x ^^^ 0 = nI x from fun x => Int32.xor_zero, wr g _ _ (by omega), Option.bind_some, nI_1]
            rw [show W (4 * w + j) ^^^ W (12 + 4 * w + j) = W (16 + 4 * w + j) by
              rw [hsc2 j hj]
              unfold yTn
              rw [if_neg (by omega), show 16 + 4 * w + j - 4 = 12 + 4 * w + j by omega]]) 4 0 xs_fuel (xs_pI S 203 g) rfl (by decide) ⟨g, rfl, hg⟩
        obtain ⟨T, ⟨g3, rfl, hg3⟩, ei⟩ := inner (xf_R_schedule_36 200 (nI i) f)
        refine ⟨(nI (yRc ((w + 1 + 3) / 4)), xs_pI S 203 g3), ⟨rfl, g3, rfl, fun j hj => hg3 j (by omega)⟩, ?_⟩
        show xf_R_schedule_36 200 (nI i) (f + 1) (nI (yRc ((w + 3) / 4))) (nI (16 + 4 * w)) (xs_pI S 203 g) = xf_R_schedule_36 200 (nI i) f (nI (yRc ((w + 1 + 3) / 4))) (nI (16 + 4 * (w + 1))) (xs_pI S 203 g3)
        rw [xf_R_schedule_36, if_neg (show ¬ (176 : Int32) ≤ nI (16 + 4 * w) from nI_ge (b := 176) (by omega) (by decide)), x_r16 (by omega), if_neg (nI_ne0 (by omega) (by omega))]
        unfold xf_R_schedule_55
        refine Eq.trans ei ?_
        rw [xf_R_schedule_60, if_pos (show (4 : Int32) ≤ nI 4 from nI_le (a := 4) (Nat.le_refl _) (by decide)), if_pos rfl]
        unfold xf_R_schedule_166
        rw [show nI (16 + 4 * w) + 4 = nI (16 + 4 * (w + 1)) from nI_add _ 4, show (w + 1 + 3) / 4 = (w + 3) / 4 by omega]) 40 0 xs_fuel (nI (yRc 0), xs_mp S 203 0 16 fun j => nI (key j)) rfl (by decide) ⟨rfl, _, rfl, fun j hj => by
        show (if 0 ≤ j ∧ j < 0 + 16 then nI (key (j - 0)) else S.1 203 j) = _
        rw [if_pos (by omega), hsc.1 j (by omega), Nat.sub_zero]⟩
  obtain ⟨v1, v2⟩ := v
  obtain ⟨h1, g2, h2, hg2⟩ := hv
  simp only at h1 h2
  subst h1 h2
  refine ⟨g2, ?_, hW, fun j hj => hg2 j (by omega)⟩
  refine Eq.trans e2 ?_
  show xf_R_schedule_36 200 (nI i) (959 + 1) _ (nI 176) _ = _
  rw [xf_R_schedule_36, if_pos (show (176 : Int32) ≤ nI 176 from nI_le (a := 176) (Nat.le_refl _) (by decide))]
theorem r_cipher {S : xs_T} {i : Nat} {key s : Nat → Nat} (hx : xs_bx S) (hi : i < 15) (hk : xs_by S 207 (16 * i) 16 key) (hs : xs_by S 204 0 16 s) :
    ∃ T, xf_R_cipher 200 (nI i) S = some T ∧ xs_by T 204 0 16 (yEnc (ySch key) s) ∧ xs_eq [203, 204, 205] S T := by
  have hb : yB 16 s := fun j hj => (hs j hj).2
  obtain ⟨g, e0, hW, hg⟩ := r_sched hx hi hk
  generalize ySch key = W at hW hg ⊢
  unfold xf_R_cipher
  rw [e0, Option.bind_some]
  have q0 : xs_eq [203, 204, 205] S (xs_pI S 203 g) := e_pI (by decide)
  have s0 : xs_by (xs_pI S 203 g) 204 0 16 s := fun j hj => by
    rw [p_ne (by decide)]
    exact hs j hj
  have w0 : xs_by (xs_pI S 203 g) 203 0 176 W := fun j hj => by
    rw [p_at, Nat.zero_add]
    exact ⟨hg j hj, hW j hj⟩
  rw [show xf_R_addKey 200 0 (xs_pI S 203 g) = _ from r_addKey (r := 0) (by decide) s0 w0, Option.bind_some]
  have q1 : xs_eq [203, 204, 205] S (xs_mp (xs_pI S 203 g) 204 0 16 fun j => nI (yAdd W 0 s j)) := e_tr q0 (e_mp (by decide))
  have rest : ∀ (c12 : Int32 → xs_T → Option xs_T) (T : xs_T) (r : Nat) (u : Nat → Nat), 1 ≤ r → r ≤ 10 → xs_by T 204 0 16 u → xs_by T 203 0 176 W → xs_eq [203, 204, 205] S T →
      ∃ T2, (xs_by T2 204 0 16 (yAdd W r (if r = 10 then ySub u else yMix (ySub u))) ∧ xs_by T2 203 0 176 W ∧ xs_eq [203, 204, 205] S T2) ∧ ((xf_R_copyBlock 200 T).bind fun q4 => xf_R_cipher_24 200 (nI i) c12 xs_fuel (nI r) 0 q4) = c12 (nI (r + 1)) T2 := by
    intro c12 T r u h1 h10 hu hw hq
    have hub : yB 16 u := fun j hj => (hu j hj).2
    rw [r_copy hu, Option.bind_some]
    have qa : xs_eq [205] T (xs_mp T 205 0 16 fun i => nI (u i)) := e_mp (by decide)
    rw [r_sub (e_bx (e_tr hq (e_mono qa (by decide))) (by decide) (by decide) hx) (m_by hub)]
    generalize hT3 : xs_mp (xs_mp T 205 0 16 fun i => nI (u i)) 204 0 16 (fun i => nI (ySub u i)) = T3
    have s3 : xs_by T3 204 0 16 (ySub u) := by
      rw [← hT3]
      exact m_by (y_b_sub hub)
    have q3 : xs_eq [204, 205] T T3 := by
      rw [← hT3]
      exact e_tr (e_mono qa (by decide)) (e_mp (by decide))
    have w3 := e_by q3 (by decide) hw
    have hq3 := e_tr hq (e_mono q3 (by decide))
    show ∃ T2, _ ∧ xf_R_cipher_24 200 (nI i) c12 (983 + 1) (nI r) 16 T3 = _
    rw [xf_R_cipher_24, if_pos (by decide : (16 : Int32) ≤ 16)]
    by_cases hr : r = 10
    · rw [if_pos (show (10 : Int32) ≤ nI r from nI_le (a := 10) (by omega) (by omega)), if_pos hr]
      unfold xf_R_cipher_76
      rw [r_addKey h10 s3 w3, Option.bind_some, nI_1]
      exact ⟨_, ⟨m_by (y_b_add hW h10 (y_b_sub hub)), e_by (e_mp (ps := [204]) (by decide)) (by decide) w3, e_tr hq3 (e_mp (by decide))⟩, rfl⟩
    · rw [if_neg (show ¬ (10 : Int32) ≤ nI r from nI_ge (b := 10) (by omega) (by decide)), if_neg hr]
      obtain ⟨T4, e4, s4, q4⟩ := r_mix s3
      rw [e4, Option.bind_some]
      unfold xf_R_cipher_76
      have w4 := e_by q4 (by decide) w3
      rw [r_addKey h10 s4 w4, Option.bind_some, nI_1]
      exact ⟨_, ⟨m_by (y_b_add hW h10 (y_b_mix (y_b_sub hub))), e_by (e_mp (ps := [204]) (by decide)) (by decide) w4, e_tr (e_tr hq3 (e_mono q4 (by decide))) (e_mp (by decide))⟩, rfl⟩
  have s1 : xs_by (xs_mp (xs_pI S 203 g) 204 0 16 fun j => nI (yAdd W 0 s j)) 204 0 16 (yEncN W 0 s) := m_by (y_b_add hW (by decide) hb)
  have w1 := e_by (e_mp (S := xs_pI S 203 g) (p := 204) (fr := 0) (n := 16) (g := fun j => nI (yAdd W 0 s j)) (ps := [204]) (by decide)) (by decide) w0
  generalize (xs_mp (xs_pI S 203 g) 204 0 16 fun j => nI (yAdd W 0 s j)) = T1 at q1 s1 w1 ⊢
  obtain ⟨T9, ⟨s9, w9, q9⟩, e9⟩ := xl_for (fun f r (T : xs_T) => xf_R_cipher_12 200 (nI i) f (nI (r + 1)) T) (fun r T => xs_by T 204 0 16 (yEncN W r s) ∧ xs_by T 203 0 176 W ∧ xs_eq [203, 204, 205] S T) 9
    (fun f r T hr hT => by
      obtain ⟨sT, wT, qT⟩ := hT
      obtain ⟨T2, h2, e2⟩ := rest (xf_R_cipher_12 200 (nI i) f) T (r + 1) _ (by omega) (by omega) sT wT qT
      rw [if_neg (by omega)] at h2
      refine ⟨T2, h2, ?_⟩
      show xf_R_cipher_12 200 (nI i) (f + 1) (nI (r + 1)) T = _
      rw [xf_R_cipher_12, if_neg (show ¬ (10 : Int32) < nI (r + 1) from nI_nlt (a := 10) (by omega) (by decide))]
      exact e2) 9 0 xs_fuel T1 rfl (by decide) ⟨s1, w1, q1⟩
  rw [show xf_R_cipher_12 200 (nI i) xs_fuel 1 T1 = _ from e9]
  show ∃ T, xf_R_cipher_12 200 (nI i) (990 + 1) (nI 10) T9 = some T ∧ _
  obtain ⟨T2, h2, e2⟩ := rest (xf_R_cipher_12 200 (nI i) 990) T9 10 _ (by omega) (by omega) s9 w9 q9
  rw [if_pos rfl] at h2
  rw [xf_R_cipher_12, if_neg (show ¬ (10 : Int32) < nI 10 from nI_nlt (a := 10) (by omega) (by decide))]
  refine ⟨T2, Eq.trans e2 ?_, h2.1, h2.2.2⟩
  show xf_R_cipher_12 200 (nI i) (989 + 1) (nI 11) T2 = _
  rw [xf_R_cipher_12, if_pos (show (10 : Int32) < nI 11 from nI_lt (a := 10) (by decide) (by decide))]
