/-! forms of frames, both ways -/
def okL (n oc : Nat) : Prop := n = 12 + oc ∨ (14 + oc ≤ n ∧ n ≤ 21 + oc)
theorem y_num_inj {s t : Nat → Nat} {n : Nat} (hs : ∀ i, i < n → s i < 256) (ht : ∀ i, i < n → t i < 256) : yNum s n = yNum t n ↔ ∀ i, i < n → s i = t i := by
  constructor
  · intro h i hi
    rw [← y_num_byte n hs i hi, ← y_num_byte n ht i hi, h]
  · exact y_num_cg n
theorem r_ends {R : xs_T} {f n : Nat} {b c : Nat → Nat} (hf : f < 24) (h4 : 4 ≤ n) (hR : xs_rf R f n b) (hc : xs_by R 206 0 16 c) : xf_R_endsWithCode 200 (nI f) R = some (if yNum c 4 = yNum (fun i => b (n - 4 + i)) 4 then 1 else 0) := by
  unfold xf_R_endsWithCode
  have h24 := hR.2.1
  have inj : ∀ i, i ≤ 4 → (yNum c i = yNum (fun t => b (n - 4 + t)) i ↔ ∀ t, t < i → c t = b (n - 4 + t)) := fun i hi => y_num_inj (fun t ht => (hc t (by omega)).2) (fun t ht => (hR.2.2 (n - 4 + t) (by omega)).2)
  obtain ⟨v, hv, e⟩ := xl_for (fun g i (v : Int32) => xf_R_endsWithCode_4 200 (nI f) R g v (nI i)) (fun i v => v = if yNum c i = yNum (fun t => b (n - 4 + t)) i then 1 else 0) 4
    (fun g i v hi hv => by
      refine ⟨_, rfl, ?_⟩
      subst hv
      show xf_R_endsWithCode_4 200 (nI f) R (g + 1) _ (nI i) = xf_R_endsWithCode_4 200 (nI f) R g _ (nI (i + 1))
      rw [xf_R_endsWithCode_4, if_neg (show ¬ (4 : Int32) ≤ nI i from nI_ge (b := 4) hi (by decide))]
      by_cases h : yNum c i = yNum (fun t => b (n - 4 + t)) i
      · have bi := hR.2.2 (n - 4 + i) (by omega)
        have ci := hc i (by omega)
        rw [Nat.zero_add] at ci
        rw [if_pos h, if_neg i10, x_rd (k := 200 + 10) (show f < 24 from hf), Option.bind_some, show R.1 (200 + 10) f = nI n from hR.1, show nI n - 4 = nI (n - 4) from pk_sub (b := 4) h4, nI_add, r_at hf (by omega), Option.bind_some, bi.1, x_rd (k := 200 + 6) (show i < 16 by omega), Option.bind_some, show R.1 (200 + 6) i = nI (c i) from ci.1]
        unfold xf_R_endsWithCode_41 xf_R_endsWithCode_42
        rw [nI_1]
        by_cases hb : c i = b (n - 4 + i)
        · rw [if_pos (show nI (b (n - 4 + i)) = nI (c i) by rw [hb]), if_pos ((inj (i + 1) (by omega)).mpr fun t ht => ?_)]
          by_cases hti : t = i
          · rw [hti]
            exact hb
          · exact (inj i (by omega)).mp h t (by omega)
        · have hbi := bi.2
          have hci := ci.2
          rw [if_neg (show ¬ nI (b (n - 4 + i)) = nI (c i) from fun e => hb ((nI_eq (by omega) (by omega)).mp e).symm), if_neg (fun hh => hb ((inj (i + 1) (by omega)).mp hh i (by omega)))]
      · rw [if_neg h, if_pos rfl, if_neg (fun hh => h ((inj i (by omega)).mpr fun t ht => (inj (i + 1) (by omega)).mp hh t (by omega)))]
        unfold xf_R_endsWithCode_41 xf_R_endsWithCode_42
        rw [nI_1]) 4 0 xs_fuel 1 rfl (by decide) (by rw [if_pos (show yNum c 0 = yNum (fun t => b (n - 4 + t)) 0 from rfl)])
  subst hv
  refine Eq.trans e ?_
  show xf_R_endsWithCode_4 200 (nI f) R (995 + 1) _ (nI 4) = _
  rw [xf_R_endsWithCode_4, if_pos (show (4 : Int32) ≤ nI 4 from nI_le (a := 4) (Nat.le_refl _) (by decide))]
  by_cases h : yNum c 4 = yNum (fun i => b (n - 4 + i)) 4
  · rw [if_pos h]
    rfl
  · rw [if_neg h]
    rfl
theorem x_opt {S : xs_T} {a n : Nat} {b : Nat → Nat} (ha : xs_kd a = 2) (h : xs_cf S a n b) (h12 : 12 ≤ n) : xf_F_optionCount a S = some (nI (b 5 % 16)) ∧ xf_F_control a S = some (nI (b 5)) := by
  have la := x_kF ha
  have b5 := h.2.2 5 (by omega)
  have e : xf_F_control a S = some (nI (b 5)) := by
    unfold xf_F_control
    rw [show xs_rd S (a + 1) 5 = _ from x_rd (j := 5) (by omega), Option.bind_some, show S.1 (a + 1) 5 = nI (b 5) from b5.1]
  refine ⟨?_, e⟩
  have := b5.2
  unfold xf_F_optionCount
  rw [e, Option.bind_some, pk_andN (m := 15) (by omega) 4 (by decide)]
theorem x_payB {S : xs_T} {a n : Nat} {b : Nat → Nat} (ha : xs_kd a = 2) (h : xs_cf S a n b) (h12 : 12 ≤ n) : xf_F_payloadBytes a S = some (nI (n - 13 - b 5 % 16)) := by
  have h24 := h.2.1
  unfold xf_F_payloadBytes xf_F_payloadStart
  rw [(x_opt ha h h12).1, Option.bind_some, Option.bind_some, show (9 : Int32) + nI (b 5 % 16) = nI (9 + b 5 % 16) from nI_add 9 _, show xs_gI S a 1 = nI n from h.1, show nI n - 4 = nI (n - 4) from pk_sub (b := 4) (by omega)]
  unfold xs_max
  by_cases hh : 9 + b 5 % 16 < n - 4
  · rw [pk_sub (by omega), if_pos (show (0 : Int32) < nI (n - 4 - (9 + b 5 % 16)) from nI_lt (a := 0) (by omega) (by omega)), show n - 4 - (9 + b 5 % 16) = n - 13 - b 5 % 16 by omega]
  · rw [if_neg, show n - 13 - b 5 % 16 = 0 by omega]
    · rfl
    · rw [Int32.lt_iff_toInt_lt, pk_sub_toInt (by omega) (by omega)]
      show ¬ (0 : Int) < _
      omega
theorem x_dataForm {S : xs_T} {a n : Nat} {b : Nat → Nat} (ha : xs_kd a = 2) (h : xs_cf S a n b) (h12 : 12 ≤ n) : ((b 0 = 64 ∨ b 0 = 128 ∨ b 0 = 96) ∧ okL n (b 5 % 16) ∧ xf_F_hasDataForm a S = some 1) ∨ (¬ ((b 0 = 64 ∨ b 0 = 128 ∨ b 0 = 96) ∧ okL n (b 5 % 16)) ∧ xf_F_hasDataForm a S = some 0) := by
  have h24 := h.2.1
  have la := x_kF ha
  have b0 := h.2.2 0 (by omega)
  have bb := b0.2
  have e28 : (okL n (b 5 % 16) → xf_F_hasDataForm_28 a S = some 1) ∧ (¬ okL n (b 5 % 16) → xf_F_hasDataForm_28 a S = some 0) := by
    unfold xf_F_hasDataForm_28 okL
    rw [(x_opt ha h h12).1, Option.bind_some, Option.bind_some, show xs_gI S a 1 = nI n from h.1, show nI n - 12 = nI (n - 12) from pk_sub (b := 12) h12]
    have ti : (nI (n - 12) - nI (b 5 % 16)).toInt = ((n - 12 : Nat) : Int) - (b 5 % 16 : Nat) := pk_sub_toInt (by omega) (by omega)
    have t0 : (0 : Int32).toInt = 0 := rfl
    have t2 : (2 : Int32).toInt = 2 := rfl
    have t9 : (9 : Int32).toInt = 9 := rfl
    generalize nI (n - 12) - nI (b 5 % 16) = z at ti
    constructor
    · intro hok
      by_cases z0 : z = 0
      · rw [if_pos z0]
        rfl
      · have zi : z.toInt ≠ 0 := fun e => z0 (Int32.toInt_inj.mp (e.trans t0.symm))
        rw [if_neg z0, if_neg (by rw [Int32.lt_iff_toInt_lt, t2]; omega), if_neg (by rw [Int32.lt_iff_toInt_lt, t9]; omega)]
        rfl
    · intro hok
      have zi : z.toInt ≠ 0 := by omega
      rw [if_neg (fun e => zi (by rw [e]; exact t0))]
      by_cases z2 : z < 2
      · rw [if_pos z2]
        rfl
      · rw [if_neg z2]
        rw [Int32.lt_iff_toInt_lt, t2] at z2
        rw [if_pos (by rw [Int32.lt_iff_toInt_lt, t9]; omega)]
        rfl
  unfold xf_F_hasDataForm
  rw [show xs_rd S (a + 1) 0 = some (nI (b 0)) by
    rw [show xs_rd S (a + 1) 0 = _ from x_rd (j := 0) (by omega)]
    exact congrArg some b0.1, Option.bind_some]
  have q : ∀ k, k < 256 → (nI (b 0) = nI k ↔ b 0 = k) := fun k hk => nI_eq (by omega) (by omega)
  by_cases h1 : b 0 = 64
  · rw [if_pos (show nI (b 0) = 64 from (q 64 (by decide)).mpr h1)]
    by_cases hok : okL n (b 5 % 16)
    · exact Or.inl ⟨Or.inl h1, hok, e28.1 hok⟩
    · exact Or.inr ⟨fun hh => hok hh.2, e28.2 hok⟩
  rw [if_neg (show ¬ nI (b 0) = 64 from fun e => h1 ((q 64 (by decide)).mp e))]
  by_cases h2 : b 0 = 128
  · rw [if_pos (show nI (b 0) = 128 from (q 128 (by decide)).mpr h2)]
    by_cases hok : okL n (b 5 % 16)
    · exact Or.inl ⟨Or.inr (Or.inl h2), hok, e28.1 hok⟩
    · exact Or.inr ⟨fun hh => hok hh.2, e28.2 hok⟩
  rw [if_neg (show ¬ nI (b 0) = 128 from fun e => h2 ((q 128 (by decide)).mp e))]
  by_cases h3 : b 0 = 96
  · rw [if_pos (show nI (b 0) = 96 from (q 96 (by decide)).mpr h3)]
    by_cases hok : okL n (b 5 % 16)
    · exact Or.inl ⟨Or.inr (Or.inr h3), hok, e28.1 hok⟩
    · exact Or.inr ⟨fun hh => hok hh.2, e28.2 hok⟩
  rw [if_neg (show ¬ nI (b 0) = 96 from fun e => h3 ((q 96 (by decide)).mp e))]
  exact Or.inr ⟨fun hh => by rcases hh.1 with h | h | h <;> contradiction, rfl⟩
theorem r_payOf {R : xs_T} {f n : Nat} {b : Nat → Nat} (hf : f < 24) (h : xs_rf R f n b) (h12 : 12 ≤ n) : (okL n (b 5 % 16) → xf_R_payloadOf 200 (nI f) R = some (nI (n - 13 - b 5 % 16))) ∧ (¬ okL n (b 5 % 16) → xf_R_payloadOf 200 (nI f) R = some (-1)) := by
  have h24 := h.2.1
  have b5 := h.2.2 5 (by omega)
  have bb := b5.2
  unfold xf_R_payloadOf okL
  rw [x_rd (k := 200 + 10) (show f < 24 from hf), Option.bind_some, show R.1 (200 + 10) f = nI n from h.1, if_pos (show (12 : Int32) ≤ nI n from nI_le (a := 12) h12 (by omega)), Option.bind_some, show xf_R_at 200 (nI f) 5 R = _ from r_at (i := 5) hf (by decide), Option.bind_some, b5.1, x_r16 (by omega), show nI n - 12 = nI (n - 12) from pk_sub (b := 12) h12]
  have ti : (nI (n - 12) - nI (b 5 % 16)).toInt = ((n - 12 : Nat) : Int) - (b 5 % 16 : Nat) := pk_sub_toInt (by omega) (by omega)
  have t0 : (0 : Int32).toInt = 0 := rfl
  have t2 : (2 : Int32).toInt = 2 := rfl
  have t9 : (9 : Int32).toInt = 9 := rfl
  have tz : b 5 % 16 ≤ n - 12 → nI (n - 12) - nI (b 5 % 16) = nI (n - 12 - b 5 % 16) := fun hle => pk_sub hle
  generalize hz : nI (n - 12) - nI (b 5 % 16) = z at ti tz
  unfold xf_R_payloadOf_34
  constructor
  · intro hok
    by_cases z0 : z = 0
    · rw [if_pos z0]
      have : z.toInt = 0 := by rw [z0]; exact t0
      rw [show n - 13 - b 5 % 16 = 0 by omega]
      rfl
    · have zi : z.toInt ≠ 0 := fun e => z0 (Int32.toInt_inj.mp (e.trans t0.symm))
      rw [if_neg z0, if_neg (by rw [Int32.lt_iff_toInt_lt, t2]; omega), if_neg (by rw [Int32.lt_iff_toInt_lt, t9]; omega), tz (by omega), show nI (n - 12 - b 5 % 16) - 1 = nI (n - 12 - b 5 % 16 - 1) from pk_sub (b := 1) (by omega), show n - 12 - b 5 % 16 - 1 = n - 13 - b 5 % 16 by omega]
  · intro hok
    have zi : z.toInt ≠ 0 := by omega
    rw [if_neg (fun e => zi (by rw [e]; exact t0))]
    by_cases z2 : z < 2
    · rw [if_pos z2]
    · rw [if_neg z2]
      rw [Int32.lt_iff_toInt_lt, t2] at z2
      rw [if_pos (by rw [Int32.lt_iff_toInt_lt, t9]; omega)]
theorem r_payAt {R : xs_T} {f n pl : Nat} {b : Nat → Nat} (hf : f < 24) (h : xs_rf R f n b) (h12 : 12 ≤ n) (h8 : pl ≤ 8) (hn : pl = 0 ∨ n = 13 + b 5 % 16 + pl) : xf_R_payloadAt 200 (nI f) (nI pl) R = some (lN (yNum (fun i => b (9 + b 5 % 16 + i)) pl)) := by
  have h24 := h.2.1
  have b5 := h.2.2 5 (by omega)
  have bb := b5.2
  unfold xf_R_payloadAt
  obtain ⟨v, hv, e⟩ := xl_for (fun g i (v : Int64) => xf_R_payloadAt_5 200 (nI f) (nI pl) R g v (nI i)) (fun i v => v = lN (yNum (fun i => b (9 + b 5 % 16 + i)) i)) pl
    (fun g i v hi hv => by
      refine ⟨_, rfl, ?_⟩
      subst hv
      have bi := h.2.2 (9 + b 5 % 16 + i) (by omega)
      have bb2 := bi.2
      show xf_R_payloadAt_5 200 (nI f) (nI pl) R (g + 1) _ (nI i) = xf_R_payloadAt_5 200 (nI f) (nI pl) R g (lN (yNum (fun i => b (9 + b 5 % 16 + i)) i + b (9 + b 5 % 16 + i) * 2 ^ (8 * i))) (nI (i + 1))
      rw [xf_R_payloadAt_5, if_neg (nI_ge hi (by omega)), show xf_R_at 200 (nI f) 5 R = _ from r_at (i := 5) hf (by decide), Option.bind_some, b5.1, x_r16 (by omega), show (9 : Int32) + nI (b 5 % 16) = nI (9 + b 5 % 16) from nI_add 9 _, nI_add, r_at hf (by omega), Option.bind_some, bi.1, Option.bind_some, nI_l (by omega), w_or (by omega) (y_num_lt i (fun j hj => (h.2.2 (9 + b 5 % 16 + j) (by omega)).2)) bb2, nI_1]) pl 0 xs_fuel 0 (Nat.zero_add _) (by unfold xs_fuel; omega) rfl
  subst hv
  refine Eq.trans e ?_
  show xf_R_payloadAt_5 200 (nI f) (nI pl) R (xs_fuel - pl) _ (nI pl) = _
  rw [show xs_fuel - pl = (999 - pl) + 1 by unfold xs_fuel; omega, xf_R_payloadAt_5, if_pos (nI_le (Nat.le_refl _) (by omega))]
/-- the least count from m on that ends with e -/
theorem sim_count {m e : Nat} (hm : m < 2 ^ 30) (he : e < 65536) : ∃ c, m ≤ c ∧ c < m + 65536 ∧ xf_W_countFrom (nI m) (nI e) = some (nI c) ∧ xf_R_ending (nI e) (nI m) = some (nI c) := by
  refine ⟨if m - m % 65536 + e < m then m - m % 65536 + e + 65536 else m - m % 65536 + e, by split <;> omega, by split <;> omega, ?_, ?_⟩
  · unfold xf_W_countFrom
    have hk : (nI e - nI m).toBitVec.toNat = (2 ^ 32 - m + e) % 2 ^ 32 := by
      rw [Int32.toBitVec_sub, BitVec.toNat_sub, pk_tn (by omega), pk_tn (by omega)]
    rw [pk_and _ 16 (by decide), hk, nI_add]
    refine congrArg some (congrArg nI ?_)
    split <;> omega
  · unfold xf_R_ending
    rw [show xs_rem (nI m) 65536 = nI (m % 65536) from pk_rem (d := 65536) (by omega) (by decide) (by decide), pk_sub (Nat.mod_le _ _), nI_add, Option.bind_some]
    by_cases h : m - m % 65536 + e < m
    · rw [if_neg (nI_ge h (by omega)), if_pos h, show nI (m - m % 65536 + e) + 65536 = _ from nI_add _ 65536]
    · rw [if_pos (nI_le (by omega) (by omega)), if_neg h]
