/-! sessions of the class -/
theorem x_kS {k : Nat} (h : xs_kd k = 5) : (xs_kd (k + 1) = 4 ∧ xs_kd (k + 5) = 50 ∧ xs_kd (k + 6) = 50 ∧ xs_kd (k + 7) = 3 ∧ xs_kd (k + 8) = 50 ∧ xs_kd (k + 9) = 50 ∧ xs_kd (k + 10) = 50) ∧ xs_ln (k + 8) = 44 ∧ xs_ln (k + 9) = 40 ∧ xs_ln (k + 10) = 16 :=
  (by decide +kernel : ∀ k ∈ [54, 78, 102, 124, 140, 156], (xs_kd (k + 1) = 4 ∧ xs_kd (k + 5) = 50 ∧ xs_kd (k + 6) = 50 ∧ xs_kd (k + 7) = 3 ∧ xs_kd (k + 8) = 50 ∧ xs_kd (k + 9) = 50 ∧ xs_kd (k + 10) = 50) ∧ xs_ln (k + 8) = 44 ∧ xs_ln (k + 9) = 40 ∧ xs_ln (k + 10) = 16) k (xs_k_S k (xs_kd_lt k (by rw [h]; decide)) h)
theorem x_kne {a b c d : Nat} (ha : xs_kd a = c) (hb : xs_kd b = d) (h : c ≠ d) : a ≠ b := fun e => h (by rw [← ha, ← hb, e])
/-- a frame's places and a session's -/
theorem x_kSF {k a : Nat} (h : xs_kd k = 5) (ha : xs_kd a = 2) : a ≠ k ∧ a + 1 ≠ k ∧ a ≠ k + 6 ∧ a ≠ k + 8 ∧ a ≠ k + 9 ∧ a + 1 ≠ k + 9 ∧ a + 1 ≠ k + 6 ∧ a + 1 ≠ k + 8 ∧ a ≠ k + 3 ∧ a ≠ k + 4 ∧ a ≠ k + 5 ∧ a + 1 ≠ k + 3 ∧ a + 1 ≠ k + 4 ∧ a + 1 ≠ k + 5 := by
  have t := (by decide +kernel : ∀ k ∈ [54, 78, 102, 124, 140, 156], ∀ a ∈ [4, 6, 8, 10, 12, 14, 16, 18, 20, 22, 24, 26, 28, 30, 32, 34, 36, 38, 40, 42, 67, 69, 91, 93, 115, 117, 121], a ≠ k ∧ a + 1 ≠ k ∧ a ≠ k + 6 ∧ a ≠ k + 8 ∧ a ≠ k + 9 ∧ a + 1 ≠ k + 9 ∧ a + 1 ≠ k + 6 ∧ a + 1 ≠ k + 8 ∧ a ≠ k + 3 ∧ a ≠ k + 4 ∧ a ≠ k + 5 ∧ a + 1 ≠ k + 3 ∧ a + 1 ≠ k + 4 ∧ a + 1 ≠ k + 5)
  exact t k (xs_k_S k (xs_kd_lt k (by rw [h]; decide)) h) a (xs_k_F a (xs_kd_lt a (by rw [ha]; decide)) ha)
theorem x_lay {S : xs_T} {k kind dir addr cnt last : Nat} (hk : xs_kd k = 5) (h4 : S.1 k 4 = nI addr) (ha : addr < 2 ^ 32) (hc : cnt < 2 ^ 32) :
    ∃ T, xf_S_layFirstBlock k (nI kind) (nI dir) (nI cnt) (nI last) S = some T ∧ (∀ j, j < 16 → T.1 (k + 9) j = nI (yHd kind dir addr cnt last j)) ∧ xs_eq [k + 9] S T := by
  obtain ⟨-, l8, l9, l10⟩ := x_kS hk
  unfold xf_S_layFirstBlock
  rw [x_fill, Option.bind_some, l9]
  have q1 : xs_eq [k + 9] S (xs_mp S (k + 9) 0 40 fun _ => 0) := e_mp (by simp)
  have z1 : ∀ j, j < 40 → (xs_mp S (k + 9) 0 40 fun _ => 0).1 (k + 9) j = 0 := fun j hj => by
    have := m_in (S := S) (p := k + 9) (fr := 0) (n := 40) (g := fun _ => 0) hj
    rwa [Nat.zero_add] at this
  generalize (xs_mp S (k + 9) 0 40 fun _ => 0) = T1 at q1 z1 ⊢
  rw [show xs_wr T1 (k + 9) 0 (nI kind) = some (xs_sI T1 (k + 9) 0 (nI kind)) from x_wr (j := 0) (by omega), Option.bind_some, show ∀ T, xs_wr T (k + 9) 5 (nI dir) = some (xs_sI T (k + 9) 5 (nI dir)) from fun T => x_wr (j := 5) (by omega), Option.bind_some]
  have e4 : xs_gI (xs_sI (xs_sI T1 (k + 9) 0 (nI kind)) (k + 9) 5 (nI dir)) k 4 = nI addr := by
    show (xs_sI (xs_sI T1 (k + 9) 0 (nI kind)) (k + 9) 5 (nI dir)).1 k 4 = _
    rw [x_fP (by omega), x_fP (by omega), q1.1 k (by simp), h4]
  rw [e4, show ∀ T, xf_W_putNumber (k + 9) 6 (nI addr) 4 T = _ from fun T => x_put (fr := 6) (n := 4) (by decide) (by omega) ha, Option.bind_some, show ∀ T, xf_W_putNumber (k + 9) 10 (nI cnt) 4 T = _ from fun T => x_put (fr := 10) (n := 4) (by decide) (by omega) hc, Option.bind_some, show ∀ T, xs_wr T (k + 9) 15 (nI last) = some (xs_sI T (k + 9) 15 (nI last)) from fun T => x_wr (j := 15) (by omega), Option.bind_some]
  refine ⟨_, rfl, fun j hj => ?_, e_tr q1 (e_tr (e_sI (by simp)) (e_tr (e_sI (by simp)) (e_tr (e_mp (by simp)) (e_tr (e_mp (by simp)) (e_sI (by simp))))))⟩
  unfold yHd
  by_cases c15 : j = 15
  · subst c15
    rw [x_fI, if_neg (by decide), if_neg (by decide), if_neg (by decide), if_neg (by decide), if_pos rfl]
  rw [x_fN c15]
  by_cases c10 : 10 ≤ j ∧ j < 14
  · obtain ⟨t, rfl⟩ : ∃ t, j = 10 + t := ⟨j - 10, by omega⟩
    rw [m_in (by omega), if_neg (by omega), if_neg (by omega), if_neg (by omega), if_pos c10, show 10 + t - 10 = t by omega]
  rw [m_out (by omega)]
  by_cases c6 : 6 ≤ j ∧ j < 10
  · obtain ⟨t, rfl⟩ : ∃ t, j = 6 + t := ⟨j - 6, by omega⟩
    rw [m_in (by omega), if_neg (by omega), if_neg (by omega), if_pos c6, show 6 + t - 6 = t by omega]
  rw [m_out (by omega)]
  by_cases c5 : j = 5
  · subst c5
    rw [x_fI, if_neg (by decide), if_pos rfl]
  rw [x_fN c5]
  by_cases c0 : j = 0
  · subst c0
    rw [x_fI, if_pos rfl]
  rw [x_fN c0, z1 j (by omega), if_neg c0, if_neg c5, if_neg c6, if_neg c10, if_neg c15]
  rfl
theorem x_row {S : xs_T} {k a n dir addr cnt : Nat} {b : Nat → Nat} (hk : xs_kd k = 5) (hka : xs_kd a = 2) (h4 : S.1 k 4 = nI addr) (ha : addr < 2 ^ 32) (hc : cnt < 2 ^ 32) (hd : dir < 256) (hn : n ≤ 24) (hb : xs_by S (a + 1) 0 n b) :
    ∃ T, xf_S_layRow k a (nI n) (nI dir) (nI cnt) S = some T ∧ xs_by T (k + 9) 0 (16 + n) (yRow (yHd 73 dir addr cnt n) b) ∧ xs_eq [k + 9] S T := by
  obtain ⟨-, l8, l9, l10⟩ := x_kS hk
  have la := x_kF hka
  obtain ⟨-, -, -, -, -, n6, -⟩ := x_kSF hk hka
  unfold xf_S_layRow
  obtain ⟨T1, e1, s1, q1⟩ := x_lay (kind := 73) (dir := dir) (last := n) hk h4 ha hc
  rw [show xf_S_layFirstBlock k 73 (nI dir) (nI cnt) (nI n) S = _ from e1, Option.bind_some, show xs_cpy T1 (a + 1) 0 (k + 9) 16 (nI n) = _ from x_cpy (fr := 0) (to := 16) (n := n) (by omega) (by omega), Option.bind_some]
  refine ⟨_, rfl, fun j hj => ?_, e_tr q1 (e_mp (by simp))⟩
  rw [Nat.zero_add]
  unfold yRow
  by_cases h : j < 16
  · rw [m_out (by omega), if_pos h]
    exact ⟨s1 j h, y_hd_lt (by decide) hd (by omega) j h⟩
  · obtain ⟨t, rfl⟩ : ∃ t, j = 16 + t := ⟨j - 16, by omega⟩
    rw [m_in (by omega), if_neg h, show 16 + t - 16 = t by omega, q1.1 (a + 1) (by simpa using n6)]
    exact hb t (by omega)
/-- what a session is at k: its address, its two keys -/
def xs_ses (S : xs_T) (k addr : Nat) (W1 W2 : Nat → Nat) : Prop := S.1 k 4 = nI addr ∧ addr < 2 ^ 32 ∧ xs_mac S (k + 1) W1 ∧ xs_rk S (k + 8) W2
theorem e_ses {ps : List Nat} {S T : xs_T} {k addr : Nat} {W1 W2 : Nat → Nat} (h : xs_eq ps S T) (h0 : k ∉ ps) (h3 : k + 3 ∉ ps) (h4 : k + 4 ∉ ps) (h5 : k + 5 ∉ ps) (h8 : k + 8 ∉ ps) (hs : xs_ses S k addr W1 W2) : xs_ses T k addr W1 W2 := ⟨by rw [h.1 k h0]; exact hs.1, hs.2.1, e_mac (k := k + 1) h h3 h4 h5 hs.2.2.1, e_rk h h8 hs.2.2.2⟩
theorem x_right {S : xs_T} {k a n dir addr cnt : Nat} {b W1 W2 : Nat → Nat} (hk : xs_kd k = 5) (hka : xs_kd a = 2) (hs : xs_ses S k addr W1 W2) (hc : cnt < 2 ^ 32) (hd : dir < 256) (h4 : 4 ≤ n) (hf : xs_cf S a n b) :
    ∃ T, xf_S_isCodeRight k a (nI dir) (nI cnt) S = some (if yNum (yMac W1 (yRow (yHd 73 dir addr cnt (n - 4)) b) (16 + (n - 4))) 4 = yNum (fun i => b (n - 4 + i)) 4 then 1 else 0, T) ∧ xs_eq [k + 6, k + 9] S T := by
  obtain ⟨f1, f2, f3⟩ := hf
  obtain ⟨⟨kM, -⟩, l8, l9, l10⟩ := x_kS hk
  have la := x_kF hka
  obtain ⟨-, -, -, -, -, n9, n6, -⟩ := x_kSF hk hka
  unfold xf_S_isCodeRight
  rw [Option.bind_some, show xs_gI S a 1 = nI n from f1, show nI n - 4 = nI (n - 4) from pk_sub (b := 4) h4]
  obtain ⟨T1, e1, s1, q1⟩ := x_row (n := n - 4) (dir := dir) hk hka hs.1 hs.2.1 hc hd (by omega) (fun i hi => f3 i (by omega))
  rw [e1, Option.bind_some, show (16 : Int32) + nI (n - 4) = nI (16 + (n - 4)) from nI_add 16 _]
  obtain ⟨T2, e2, q2⟩ := x_code (k := k + 1) (a := k + 9) kM (e_mac (k := k + 1) q1 (by simp) (by simp) (by simp) hs.2.2.1) (by omega) (by omega) (by omega) s1
  rw [e2, Option.bind_some]
  have q2' : xs_eq [k + 6] T1 T2 := q2
  have b2 : xs_by T2 (a + 1) (n - 4) 4 (fun i => b (n - 4 + i)) := fun i hi => by
    rw [q2'.1 (a + 1) (by simpa using n6), q1.1 (a + 1) (by simpa using n9)]
    have := f3 (n - 4 + i) (by omega)
    rwa [Nat.zero_add] at this
  rw [show xf_W_number (a + 1) (nI (n - 4)) 4 T2 = _ from x_num (n := 4) (by decide) (by omega) b2, Option.bind_some]
  have hW := hs.2.2.1.1.1
  have m1 := y_num_lt (s := yMac W1 (yRow (yHd 73 dir addr cnt (n - 4)) b) (16 + (n - 4))) 4 (fun i hi => y_b_mac hW (fun j hj => (s1 j hj).2) i (by omega))
  have m2 := y_num_lt (s := fun i => b (n - 4 + i)) 4 (fun i hi => (b2 i hi).2)
  refine ⟨T2, ?_, e_tr (e_mono q1 (by simp)) (e_mono q2' (by simp))⟩
  dsimp only
  by_cases h : yNum (yMac W1 (yRow (yHd 73 dir addr cnt (n - 4)) b) (16 + (n - 4))) 4 = yNum (fun i => b (n - 4 + i)) 4
  · rw [if_pos (by rw [h]), if_pos h]
    rfl
  · rw [if_neg (fun e => h (n_inj m1 m2 e)), if_neg h]
    rfl
def yStr (W : Nat → Nat) (dir addr cnt : Nat) : Nat → Nat := yEnc W (yHd 1 dir addr cnt 1)
theorem y_b_str {W : Nat → Nat} {dir addr cnt : Nat} (hW : yB 176 W) (hd : dir < 256) : yB 16 (yStr W dir addr cnt) := y_b_enc hW (y_hd_lt (by decide) hd (by decide))
theorem x_stream {S : xs_T} {k dir addr cnt : Nat} {W1 W2 : Nat → Nat} (hk : xs_kd k = 5) (hs : xs_ses S k addr W1 W2) (hc : cnt < 2 ^ 32) (hd : dir < 256) :
    ∃ T, xf_S_stream k (nI dir) (nI cnt) S = some (lN (yNum (yStr W2 dir addr cnt) 8), T) ∧ xs_eq [k + 9] S T := by
  obtain ⟨-, l8, l9, l10⟩ := x_kS hk
  have hW := hs.2.2.2.1
  unfold xf_S_stream
  obtain ⟨T1, e1, s1, q1⟩ := x_lay (kind := 1) (dir := dir) (last := 1) hk hs.1 hs.2.1 hc
  have s1' : xs_by T1 (k + 9) 0 16 (yHd 1 dir addr cnt 1) := fun i hi => ⟨by rw [Nat.zero_add]; exact s1 i hi, y_hd_lt (by decide) hd (by decide) i hi⟩
  rw [show xf_S_layFirstBlock k 1 (nI dir) (nI cnt) 1 S = _ from e1, Option.bind_some, show xf_C_encipher (k + 7) (k + 9) 0 T1 = _ from x_enc (k := k + 7) (fr := 0) (by omega) l8 (by omega) (e_rk q1 (by simp) hs.2.2.2) s1', Option.bind_some]
  have s2 : xs_by (xs_mp T1 (k + 9) 0 16 fun i => nI (yEnc W2 (yHd 1 dir addr cnt 1) i)) (k + 9) 0 16 (yStr W2 dir addr cnt) := m_by (y_b_str hW hd)
  have q2 : xs_eq [k + 9] S (xs_mp T1 (k + 9) 0 16 fun i => nI (yEnc W2 (yHd 1 dir addr cnt 1) i)) := e_tr q1 (e_mp (by simp))
  generalize (xs_mp T1 (k + 9) 0 16 fun i => nI (yEnc W2 (yHd 1 dir addr cnt 1) i)) = T2 at s2 q2 ⊢
  have hb := y_b_str (addr := addr) (cnt := cnt) hW hd
  have m1 := y_num_lt (s := yStr W2 dir addr cnt) 4 (fun i hi => hb i (by omega))
  have m2 := y_num_lt (s := fun i => yStr W2 dir addr cnt (4 + i)) 4 (fun i hi => hb _ (by omega))
  rw [show xf_W_number (k + 9) 0 4 T2 = _ from x_num (fr := 0) (n := 4) (by decide) (by omega) (fun i hi => s2 i (by omega)), Option.bind_some, Option.bind_some, w_low m1, show xf_W_number (k + 9) 4 4 T2 = _ from x_num (fr := 4) (n := 4) (by decide) (by omega) (x_by_le s2 (m := 4) 4 (by decide)), Option.bind_some, w_high m2]
  refine ⟨T2, ?_, q2⟩
  rw [wb_or (by omega) (by omega), Nat.or_comm, y_orp (k := 32) m1]
  refine congrArg some (congrArg (fun x => (lN x, T2)) ?_)
  simp only [yNum, Nat.reduceAdd]
  omega
