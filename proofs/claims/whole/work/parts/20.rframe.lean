/-! the reference's frames, rows and codes -/
theorem r_write1 {S : xs_T} {f n c : Nat} {x : Int32} {b : Nat → Nat} (hf : f < 24) (h : xs_rf S f n b) (hx : x &&& 255 = nI c) (hc : c < 256) (hn : n < 24) :
    ∃ T, xf_R_write 200 (nI f) x S = some T ∧ xs_rf T f (n + 1) (fun i => if i < n then b i else c) ∧ xs_ef f S T := by
  obtain ⟨h1, h2, h3⟩ := h
  unfold xf_R_write
  rw [x_rd (k := 200 + 10) (show f < 24 from hf), Option.bind_some, show S.1 (200 + 10) f = nI n from h1, show (32 : Int32) * nI f = nI (32 * f) from pk_mul 32 f, nI_add, x_wr (k := 200 + 9) (show 32 * f + n < 768 by omega), Option.bind_some, x_rd (k := 200 + 10) (show f < 24 from hf), Option.bind_some,
    show (xs_sI S (200 + 9) (32 * f + n) (x &&& 255)).1 (200 + 10) f = nI n from h1, nI_1, x_wr (k := 200 + 10) (show f < 24 from hf), Option.bind_some, hx]
  refine ⟨_, rfl, ⟨x_fI, by omega, fun i hi => ?_⟩, e_tr (e_sI (by decide)) (e_sI (by decide)), fun j hj => ?_, fun j hj => ?_⟩
  · show (xs_sI (xs_sI S 209 (32 * f + n) _) 210 f _).1 209 _ = _ ∧ _
    rw [x_fP (by decide)]
    dsimp only
    by_cases hin : i < n
    · rw [x_fN (by omega), if_pos hin]
      exact h3 i hin
    · rw [show i = n by omega, x_fI, if_neg (Nat.lt_irrefl n)]
      exact ⟨rfl, hc⟩
  · show (xs_sI (xs_sI S 209 (32 * f + n) _) 210 f _).1 209 _ = _
    rw [x_fP (by decide), x_fN (by omega)]
  · show (xs_sI (xs_sI S 209 (32 * f + n) _) 210 f _).1 210 _ = _
    rw [x_fN hj]
    rfl
theorem rf_cg {S : xs_T} {f n : Nat} {b c : Nat → Nat} (h : ∀ i, i < n → b i = c i) (hs : xs_rf S f n b) : xs_rf S f n c := ⟨hs.1, hs.2.1, by_cg h hs.2.2⟩
theorem cf_cg {S : xs_T} {k n : Nat} {b c : Nat → Nat} (h : ∀ i, i < n → b i = c i) (hs : xs_cf S k n b) : xs_cf S k n c := ⟨hs.1, hs.2.1, by_cg h hs.2.2⟩
theorem r_wnum {S : xs_T} {f n v j : Nat} {b : Nat → Nat} (hf : f < 24) (h : xs_rf S f n b) (hv : v < 2 ^ 32) (hj : j ≤ 4) (hn : n + j ≤ 24) :
    ∃ T, xf_R_writeNumber 200 (nI f) (nI v) (nI j) S = some T ∧ xs_rf T f (n + j) (yApp b n v) ∧ xs_ef f S T := by
  unfold xf_R_writeNumber
  obtain ⟨T, ⟨h1, h2⟩, e⟩ := xl_for (fun g i (T : xs_T) => xf_R_writeNumber_3 200 (nI f) (nI v) (nI j) g (nI i) T) (fun i T => xs_rf T f (n + i) (yApp b n v) ∧ xs_ef f S T) j
    (fun g i T hi hT => by
      obtain ⟨h1, h2⟩ := hT
      obtain ⟨T2, e2, g1, g2⟩ := r_write1 hf h1 (n_sar i (by omega) hv) (Nat.mod_lt _ (by decide)) (by omega)
      refine ⟨T2, ⟨rf_cg (fun t ht => ?_) g1, ef_tr h2 g2⟩, ?_⟩
      · by_cases htn : t < n + i
        · rw [if_pos htn]
        · rw [if_neg htn]
          unfold yApp
          rw [if_neg (by omega), show t - n = i by omega]
      · show xf_R_writeNumber_3 200 (nI f) (nI v) (nI j) (g + 1) (nI i) T = _
        rw [xf_R_writeNumber_3, if_neg (nI_ge hi (by omega)), e2, Option.bind_some, nI_1]) j 0 xs_fuel S (Nat.zero_add _) (by unfold xs_fuel; omega) ⟨rf_cg (fun i hi => by unfold yApp; rw [if_pos (show i < n from hi)]) h, ef_rf⟩
  refine ⟨T, Eq.trans e ?_, h1, h2⟩
  show xf_R_writeNumber_3 200 (nI f) (nI v) (nI j) (xs_fuel - j) (nI j) T = _
  rw [show xs_fuel - j = (999 - j) + 1 by unfold xs_fuel; omega, xf_R_writeNumber_3, if_pos (nI_le (Nat.le_refl _) (by omega))]
theorem r_at {S : xs_T} {f i : Nat} (hf : f < 24) (hi : i < 32) : xf_R_at 200 (nI f) (nI i) S = some (S.1 209 (32 * f + i)) := by
  unfold xf_R_at
  rw [show (32 : Int32) * nI f = nI (32 * f) from pk_mul 32 f, nI_add, x_rd (k := 200 + 9) (show 32 * f + i < 768 by omega), Option.bind_some]
theorem r_num {S : xs_T} {f fr n m : Nat} {b : Nat → Nat} (hf : f < 24) (hn : n ≤ 4) (hb : xs_by S 209 (32 * f) m b) (hm : fr + n ≤ m) (h32 : m ≤ 32) : xf_R_numberAt 200 (nI f) (nI fr) (nI n) S = some (nI (yNum (fun i => b (fr + i)) n)) := by
  unfold xf_R_numberAt
  obtain ⟨v, hv, e⟩ := xl_for (fun g i (v : Int32) => xf_R_numberAt_6 200 (nI f) (nI fr) (nI n) S g v (nI i)) (fun i v => v = nI (yNum (fun i => b (fr + i)) i)) n
    (fun g i v hi hv => by
      refine ⟨_, rfl, ?_⟩
      subst hv
      show xf_R_numberAt_6 200 (nI f) (nI fr) (nI n) S (g + 1) _ _ = xf_R_numberAt_6 200 (nI f) (nI fr) (nI n) S g (nI (yNum (fun i => b (fr + i)) i + b (fr + i) * 2 ^ (8 * i))) (nI (i + 1))
      rw [xf_R_numberAt_6, if_neg (nI_ge hi (by omega)), nI_add, r_at hf (by omega), Option.bind_some, Option.bind_some, (hb (fr + i) (by omega)).1, n_shl _ (8 * i) (y_sh i (by omega)), n_or, y_orp (y_num_lt i (fun j hj => (hb (fr + j) (by omega)).2)), nI_1]) n 0 xs_fuel 0 (Nat.zero_add _) (by unfold xs_fuel; omega) rfl
  subst hv
  refine Eq.trans e ?_
  show xf_R_numberAt_6 200 (nI f) (nI fr) (nI n) S (xs_fuel - n) _ _ = _
  rw [show xs_fuel - n = (999 - n) + 1 by unfold xs_fuel; omega, xf_R_numberAt_6, if_pos (nI_le (Nat.le_refl _) (by omega))]
/-- frame g of the reference alone has changed, its goal too -/
def xs_eg (g : Nat) (S T : xs_T) : Prop := xs_eq [209, 210, 211] S T ∧ (∀ j, j < 32 * g ∨ 32 * g + 32 ≤ j → T.1 209 j = S.1 209 j) ∧ (∀ j, j ≠ g → T.1 210 j = S.1 210 j) ∧ ∀ j, j ≠ g → T.1 211 j = S.1 211 j
theorem r_copyF {S : xs_T} {f g n : Nat} {b : Nat → Nat} (hf : f < 24) (hg : g < 24) (hne : f ≠ g) (h : xs_rf S f n b) :
    ∃ T, xf_R_copyFrame 200 (nI f) (nI g) S = some T ∧ xs_rf T g n b ∧ T.1 211 g = S.1 211 f ∧ xs_eg g S T := by
  obtain ⟨h1, h2, h3⟩ := h
  unfold xf_R_copyFrame
  have e := xl_map (fun t i (T : xs_T) => xf_R_copyFrame_2 200 (nI f) (nI g) t (nI i) T) S 209 (32 * g) 32 (fun i => S.1 209 (32 * f + i)) (fun t i hi => by
    show xf_R_copyFrame_2 200 (nI f) (nI g) (t + 1) (nI i) _ = xf_R_copyFrame_2 200 (nI f) (nI g) t (nI (i + 1)) _
    generalize hT : (xs_mp S 209 (32 * g) i fun i => S.1 209 (32 * f + i)) = T
    rw [xf_R_copyFrame_2, if_neg (show ¬ (32 : Int32) ≤ nI i from nI_ge (b := 32) hi (by decide)), show (32 : Int32) * nI f = nI (32 * f) from pk_mul 32 f, nI_add, x_rd (k := 200 + 9) (show 32 * f + i < 768 by omega), Option.bind_some, show T.1 (200 + 9) (32 * f + i) = S.1 209 (32 * f + i) by
      rw [← hT]
      exact m_out (by omega), show (32 : Int32) * nI g = nI (32 * g) from pk_mul 32 g, nI_add, x_wr (k := 200 + 9) (show 32 * g + i < 768 by omega), Option.bind_some, nI_1]) xs_fuel (by decide)
  rw [show xf_R_copyFrame_2 200 (nI f) (nI g) xs_fuel 0 S = _ from e]
  generalize hT : (xs_mp S 209 (32 * g) 32 fun i => S.1 209 (32 * f + i)) = T
  have t10 : T.1 210 = S.1 210 := by rw [← hT, m_ne (by decide)]
  have t11 : T.1 211 = S.1 211 := by rw [← hT, m_ne (by decide)]
  show ∃ T', xf_R_copyFrame_2 200 (nI f) (nI g) (967 + 1) (nI 32) T = some T' ∧ _
  rw [xf_R_copyFrame_2, if_pos (show (32 : Int32) ≤ nI 32 from nI_le (a := 32) (Nat.le_refl _) (by decide)), x_rd (k := 200 + 10) (show f < 24 from hf), Option.bind_some, x_wr (k := 200 + 10) (show g < 24 from hg), Option.bind_some, x_rd (k := 200 + 11) (show f < 24 from hf), Option.bind_some, x_wr (k := 200 + 11) (show g < 24 from hg), Option.bind_some]
  refine ⟨_, rfl, ⟨?_, h2, fun i hi => ⟨?_, (h3 i hi).2⟩⟩, ?_, ?_, fun j hj => ?_, fun j hj => ?_, fun j hj => ?_⟩
  · show (xs_sI (xs_sI T 210 g (T.1 210 f)) 211 g _).1 210 g = _
    rw [x_fP (by decide), x_fI, t10, h1]
  · show (xs_sI (xs_sI T 210 g (T.1 210 f)) 211 g _).1 209 _ = _
    rw [x_fP (by decide), x_fP (by decide), ← hT, m_in (by omega)]
    exact (h3 i hi).1
  · show (xs_sI (xs_sI T 210 g (T.1 210 f)) 211 g ((xs_sI T 210 g (T.1 210 f)).1 211 f)).1 211 g = _
    rw [x_fI, x_fP (by decide), t11]
  · rw [← hT]
    exact e_tr (e_mp (by decide)) (e_tr (e_sI (by decide)) (e_sI (by decide)))
  · show (xs_sI (xs_sI T 210 g (T.1 210 f)) 211 g _).1 209 _ = _
    rw [x_fP (by decide), x_fP (by decide), ← hT, m_out (by omega)]
  · show (xs_sI (xs_sI T 210 g (T.1 210 f)) 211 g _).1 210 _ = _
    rw [x_fP (by decide), x_fN hj, t10]
  · show (xs_sI (xs_sI T 210 g (T.1 210 f)) 211 g _).1 211 _ = _
    rw [x_fN hj, x_fP (by decide), t11]
/-- a row's first block -/
def yHd (kind dir addr cnt last : Nat) : Nat → Nat := fun i => if i = 0 then kind else if i = 5 then dir else if 6 ≤ i ∧ i < 10 then addr / 2 ^ (8 * (i - 6)) % 256 else if 10 ≤ i ∧ i < 14 then cnt / 2 ^ (8 * (i - 10)) % 256 else if i = 15 then last else 0
theorem y_hd_lt {kind dir addr cnt last : Nat} (h1 : kind < 256) (h2 : dir < 256) (h3 : last < 256) : yB 16 (yHd kind dir addr cnt last) := fun i _ => by
  have m : ∀ x, x % 256 < 256 := fun x => Nat.mod_lt _ (by decide)
  unfold yHd
  split
  · exact h1
  · split
    · exact h2
    · split
      · exact m _
      · split
        · exact m _
        · split
          · exact h3
          · decide
theorem r_rowHead {S : xs_T} {kind dir addr cnt : Nat} (h1 : kind < 256) (h2 : dir < 256) (ha : addr < 2 ^ 32) (hc : cnt < 2 ^ 32) :
    ∃ T, xf_R_rowHead 200 (nI kind) (nI dir) (nI addr) (nI cnt) S = some T ∧ xs_by T 208 0 16 (yHd kind dir addr cnt 0) ∧ xs_eq [208] S T := by
  unfold xf_R_rowHead
  have e := xl_map (fun f j (T : xs_T) => xf_R_rowHead_3 200 (nI kind) (nI dir) (nI addr) (nI cnt) f (nI j) T) S 208 0 16 (fun _ => nI 0) (fun f j hj => by
    show xf_R_rowHead_3 200 (nI kind) (nI dir) (nI addr) (nI cnt) (f + 1) (nI j) _ = xf_R_rowHead_3 200 (nI kind) (nI dir) (nI addr) (nI cnt) f (nI (j + 1)) _
    rw [xf_R_rowHead_3, if_neg (show ¬ (16 : Int32) ≤ nI j from nI_ge (b := 16) hj (by decide)), x_wr (k := 200 + 8) (show j < 64 by omega), Option.bind_some, nI_1, Nat.zero_add]
    rfl) xs_fuel (by decide)
  rw [show xf_R_rowHead_3 200 (nI kind) (nI dir) (nI addr) (nI cnt) xs_fuel 0 S = _ from e]
  have z1 : ∀ j, j < 16 → (xs_mp S 208 0 16 fun _ => nI 0).1 208 j = nI 0 := fun j hj => by
    have := m_in (S := S) (p := 208) (fr := 0) (n := 16) (g := fun _ => nI 0) hj
    rwa [Nat.zero_add] at this
  have q1 : xs_eq [208] S (xs_mp S 208 0 16 fun _ => nI 0) := e_mp (by decide)
  generalize (xs_mp S 208 0 16 fun _ => nI 0) = T1 at z1 q1 ⊢
  show ∃ T, xf_R_rowHead_3 200 (nI kind) (nI dir) (nI addr) (nI cnt) (983 + 1) (nI 16) T1 = some T ∧ _
  rw [xf_R_rowHead_3, if_pos (show (16 : Int32) ≤ nI 16 from nI_le (a := 16) (Nat.le_refl _) (by decide)), show xs_wr T1 (200 + 8) 0 (nI kind) = some (xs_sI T1 208 0 (nI kind)) from x_wr (k := 208) (j := 0) (by decide), Option.bind_some, show ∀ T, xs_wr T (200 + 8) 5 (nI dir) = some (xs_sI T 208 5 (nI dir)) from fun T => x_wr (k := 208) (j := 5) (by decide), Option.bind_some]
  obtain ⟨T, ⟨h, hq⟩, e2⟩ := xl_for (fun f i (T : xs_T) => xf_R_rowHead_41 200 (nI kind) (nI dir) (nI addr) (nI cnt) f (nI i) T) (fun i T => (∀ j, j < 16 → T.1 208 j = nI (if j = 0 then kind else if j = 5 then dir else if 6 ≤ j ∧ j < 6 + i then addr / 2 ^ (8 * (j - 6)) % 256 else if 10 ≤ j ∧ j < 10 + i then cnt / 2 ^ (8 * (j - 10)) % 256 else 0)) ∧ xs_eq [208] S T) 4
    (fun f i T hi hT => by
      obtain ⟨h, hq⟩ := hT
      refine ⟨xs_sI (xs_sI T 208 (6 + i) (nI (addr / 2 ^ (8 * i) % 256))) 208 (10 + i) (nI (cnt / 2 ^ (8 * i) % 256)), ⟨fun j hj => ?_, e_tr hq (e_tr (e_sI (by decide)) (e_sI (by decide)))⟩, ?_⟩
      · by_cases hb : j = 10 + i
        · subst hb
          rw [x_fI, if_neg (by omega), if_neg (by omega), if_neg (by omega), if_pos (by omega), show 10 + i - 10 = i by omega]
        · rw [x_fN hb]
          by_cases ha : j = 6 + i
          · subst ha
            rw [x_fI, if_neg (by omega), if_neg (by omega), if_pos (by omega), show 6 + i - 6 = i by omega]
          · rw [x_fN ha, h j hj]
            by_cases c0 : j = 0
            · rw [if_pos c0, if_pos c0]
            rw [if_neg c0, if_neg c0]
            by_cases c5 : j = 5
            · rw [if_pos c5, if_pos c5]
            rw [if_neg c5, if_neg c5]
            by_cases c6 : 6 ≤ j ∧ j < 6 + i
            · rw [if_pos c6, if_pos (show 6 ≤ j ∧ j < 6 + (i + 1) by omega)]
            rw [if_neg c6, if_neg (show ¬ (6 ≤ j ∧ j < 6 + (i + 1)) by omega)]
            by_cases c10 : 10 ≤ j ∧ j < 10 + i
            · rw [if_pos c10, if_pos (show 10 ≤ j ∧ j < 10 + (i + 1) by omega)]
            rw [if_neg c10, if_neg (show ¬ (10 ≤ j ∧ j < 10 + (i + 1)) by omega)]
      · show xf_R_rowHead_41 200 (nI kind) (nI dir) (nI addr) (nI cnt) (f + 1) (nI i) T = _
        rw [xf_R_rowHead_41, if_neg (show ¬ (4 : Int32) ≤ nI i from nI_ge (b := 4) hi (by decide)), n_sar i hi ha, n_sar i hi hc, show (6 : Int32) + nI i = nI (6 + i) from nI_add 6 i, x_wr (k := 200 + 8) (show 6 + i < 64 by omega), Option.bind_some, show (10 : Int32) + nI i = nI (10 + i) from nI_add 10 i, x_wr (k := 200 + 8) (show 10 + i < 64 by omega), Option.bind_some, nI_1]) 4 0 xs_fuel (xs_sI (xs_sI T1 208 0 (nI kind)) 208 5 (nI dir)) rfl (by decide) ⟨fun j hj => by
      by_cases c5 : j = 5
      · subst c5
        rw [x_fI, if_neg (by decide), if_pos rfl]
      · rw [x_fN c5]
        by_cases c0 : j = 0
        · subst c0
          rw [x_fI, if_pos rfl]
        · rw [x_fN c0, z1 j hj, if_neg c0, if_neg c5, if_neg (by omega), if_neg (by omega)], e_tr q1 (e_tr (e_sI (by decide)) (e_sI (by decide)))⟩
  refine ⟨T, Eq.trans e2 ?_, fun j hj => ⟨?_, y_hd_lt h1 h2 (by decide) j hj⟩, hq⟩
  · show xf_R_rowHead_41 200 (nI kind) (nI dir) (nI addr) (nI cnt) (995 + 1) (nI 4) T = _
    rw [xf_R_rowHead_41, if_pos (show (4 : Int32) ≤ nI 4 from nI_le (a := 4) (Nat.le_refl _) (by decide))]
  · rw [Nat.zero_add, h j hj]
    unfold yHd
    simp only [ite_self]
def yRow (hd b : Nat → Nat) : Nat → Nat := fun i => if i < 16 then hd i else b (i - 16)
theorem r_dataCode {S : xs_T} {f n i dir addr cnt : Nat} {key b : Nat → Nat} (hx : xs_bx S) (hi : i < 15) (hk : xs_by S 207 (16 * i) 16 key) (hf : f < 24) (hb : xs_by S 209 (32 * f) n b) (hn : n ≤ 24) (h2 : dir < 256) (ha : addr < 2 ^ 32) (hc : cnt < 2 ^ 32) :
    ∃ T, xf_R_dataCode 200 (nI f) (nI n) (nI i) (nI dir) (nI addr) (nI cnt) S = some T ∧ xs_by T 206 0 16 (yMac (ySch key) (yRow (yHd 73 dir addr cnt n) b) (16 + n)) ∧ xs_eq [203, 204, 205, 206, 208] S T := by
  unfold xf_R_dataCode
  obtain ⟨T1, e1, s1, q1⟩ := r_rowHead (S := S) (kind := 73) (by decide) h2 ha hc
  rw [show xf_R_rowHead 200 73 (nI dir) (nI addr) (nI cnt) S = _ from e1, Option.bind_some, show xs_wr T1 (200 + 8) 15 (nI n) = some (xs_sI T1 208 15 (nI n)) from x_wr (k := 208) (j := 15) (by decide), Option.bind_some]
  have s2 : ∀ j, j < 16 → (xs_sI T1 208 15 (nI n)).1 208 j = nI (yHd 73 dir addr cnt n j) := fun j hj => by
    by_cases h : j = 15
    · subst h
      rw [x_fI]
      rfl
    · rw [x_fN h, b_at s1 hj]
      unfold yHd
      rw [if_neg h, if_neg h]
  have q2 : xs_eq [208] S (xs_sI T1 208 15 (nI n)) := e_tr q1 (e_sI (by decide))
  generalize xs_sI T1 208 15 (nI n) = T2 at s2 q2 ⊢
  have e3 := xl_map (fun g j (T : xs_T) => xf_R_dataCode_23 200 (nI f) (nI n) (nI i) (nI dir) (nI addr) (nI cnt) g (nI j) T) T2 208 16 n (fun j => nI (b j)) (fun g j hj => by
    show xf_R_dataCode_23 200 (nI f) (nI n) (nI i) (nI dir) (nI addr) (nI cnt) (g + 1) (nI j) _ = xf_R_dataCode_23 200 (nI f) (nI n) (nI i) (nI dir) (nI addr) (nI cnt) g (nI (j + 1)) _
    generalize hT : (xs_mp T2 208 16 j fun j => nI (b j)) = T
    rw [xf_R_dataCode_23, if_neg (nI_ge hj (by omega)), r_at hf (by omega), Option.bind_some, show T.1 209 (32 * f + j) = nI (b j) by
      rw [← hT, m_ne (by decide), q2.1 209 (by decide)]
      exact (hb j hj).1, show (16 : Int32) + nI j = nI (16 + j) from nI_add 16 j, x_wr (k := 200 + 8) (show 16 + j < 64 by omega), Option.bind_some, nI_1]) xs_fuel (by unfold xs_fuel; omega)
  rw [show xf_R_dataCode_23 200 (nI f) (nI n) (nI i) (nI dir) (nI addr) (nI cnt) xs_fuel 0 T2 = _ from e3]
  have q3 : xs_eq [208] S (xs_mp T2 208 16 n fun j => nI (b j)) := e_tr q2 (e_mp (by decide))
  have s3 : xs_by (xs_mp T2 208 16 n fun j => nI (b j)) 208 0 (16 + n) (yRow (yHd 73 dir addr cnt n) b) := fun j hj => by
    rw [Nat.zero_add]
    unfold yRow
    by_cases h : j < 16
    · rw [m_out (by omega), if_pos h]
      exact ⟨s2 j h, y_hd_lt (by decide) h2 (by omega) j h⟩
    · obtain ⟨t, rfl⟩ : ∃ t, j = 16 + t := ⟨j - 16, by omega⟩
      rw [m_in (by omega), if_neg h, show 16 + t - 16 = t by omega]
      exact ⟨rfl, (hb t (by omega)).2⟩
  generalize (xs_mp T2 208 16 n fun j => nI (b j)) = T3 at q3 s3 ⊢
  rw [show xs_fuel - n = (999 - n) + 1 by unfold xs_fuel; omega, xf_R_dataCode_23, if_pos (nI_le (Nat.le_refl _) (by omega)), show (16 : Int32) + nI n = nI (16 + n) from nI_add 16 n]
  obtain ⟨T4, e4, s4, q4⟩ := r_mac (n := 16 + n) (e_bx q3 (by decide) (by decide) hx) hi (e_key q3 (by decide) hk) (by omega) (by omega) s3
  rw [e4, Option.bind_some]
  exact ⟨T4, rfl, s4, e_tr (e_mono q3 (by decide)) q4⟩
theorem r_rootCode {S : xs_T} {f n i : Nat} {key b : Nat → Nat} (hx : xs_bx S) (hi : i < 15) (hk : xs_by S 207 (16 * i) 16 key) (hf : f < 24) (hb : xs_by S 209 (32 * f) n b) (h1 : 1 ≤ n) (hn : n ≤ 24) :
    ∃ T, xf_R_rootCode 200 (nI f) (nI n) (nI i) S = some T ∧ xs_by T 206 0 16 (yMac (ySch key) b n) ∧ xs_eq [203, 204, 205, 206, 208] S T := by
  unfold xf_R_rootCode
  have e3 := xl_map (fun g j (T : xs_T) => xf_R_rootCode_3 200 (nI f) (nI n) (nI i) g (nI j) T) S 208 0 n (fun j => nI (b j)) (fun g j hj => by
    show xf_R_rootCode_3 200 (nI f) (nI n) (nI i) (g + 1) (nI j) _ = xf_R_rootCode_3 200 (nI f) (nI n) (nI i) g (nI (j + 1)) _
    generalize hT : (xs_mp S 208 0 j fun j => nI (b j)) = T
    rw [xf_R_rootCode_3, if_neg (nI_ge hj (by omega)), r_at hf (by omega), Option.bind_some, show T.1 209 (32 * f + j) = nI (b j) by
      rw [← hT, m_ne (by decide)]
      exact (hb j hj).1, x_wr (k := 200 + 8) (show j < 64 by omega), Option.bind_some, nI_1, Nat.zero_add]) xs_fuel (by unfold xs_fuel; omega)
  rw [show xf_R_rootCode_3 200 (nI f) (nI n) (nI i) xs_fuel 0 S = _ from e3]
  have q3 : xs_eq [208] S (xs_mp S 208 0 n fun j => nI (b j)) := e_mp (by decide)
  have s3 : xs_by (xs_mp S 208 0 n fun j => nI (b j)) 208 0 n b := m_by (fun j hj => (hb j hj).2)
  generalize (xs_mp S 208 0 n fun j => nI (b j)) = T3 at q3 s3 ⊢
  rw [show xs_fuel - n = (999 - n) + 1 by unfold xs_fuel; omega, xf_R_rootCode_3, if_pos (nI_le (Nat.le_refl _) (by omega))]
  obtain ⟨T4, e4, s4, q4⟩ := r_mac (n := n) (e_bx q3 (by decide) (by decide) hx) hi (e_key q3 (by decide) hk) h1 (by omega) s3
  rw [e4, Option.bind_some]
  exact ⟨T4, rfl, s4, e_tr (e_mono q3 (by decide)) q4⟩
