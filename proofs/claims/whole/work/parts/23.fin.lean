/-! payloads, both ways -/
def yPay (b : Nat → Nat) (n P : Nat) (e : Nat → Nat) : Nat → Nat := fun i => if i < n then b i else if i = n then 1 else (P / 2 ^ (8 * (i - n - 1)) % 256) ^^^ e (i - n - 1)
theorem y_pay_lt {b e : Nat → Nat} {n P pl : Nat} (hb : ∀ i, i < n → b i < 256) (he : ∀ i, i < 8 → e i < 256) (hp : pl ≤ 8) : ∀ i, i < n + 1 + pl → yPay b n P e i < 256 := fun i hi => by
  unfold yPay
  split
  · exact hb i (by assumption)
  · split
    · decide
    · exact y_xlt (Nat.mod_lt _ (by decide)) (he _ (by omega))
theorem x_code4 {W m : Nat → Nat} {n : Nat} (hW : yB 176 W) (hm : ∀ i, i < n → m i < 256) : yNum (yMac W m n) 4 < 2 ^ 32 := y_num_lt 4 (fun i hi => y_b_mac hW hm i (by omega))
theorem x_fin52 {S : xs_T} {k a n dir addr cnt : Nat} {p : Int64} {pl : Int32} {b W1 W2 : Nat → Nat} (hk : xs_kd k = 5) (hka : xs_kd a = 2) (hs : xs_ses S k addr W1 W2) (hc : cnt < 2 ^ 32) (hd : dir < 256) (hf : xs_cf S a n b) (hn : n + 4 ≤ 24) :
    ∃ T, xf_S_finish_52 k a (nI dir) (nI cnt) p pl S = some T ∧ xs_cf T a (n + 4) (yApp b n (yNum (yMac W1 (yRow (yHd 73 dir addr cnt n) b) (16 + n)) 4)) ∧ T.1 a 2 = S.1 a 2 ∧ xs_eq [a, a + 1, k + 6, k + 9] S T := by
  obtain ⟨⟨kM, -⟩, l8, l9, l10⟩ := x_kS hk
  obtain ⟨n0, n01, na6, -, na9, n9, n6, -⟩ := x_kSF hk hka
  unfold xf_S_finish_52
  rw [show xs_gI S a 1 = nI n from hf.1]
  obtain ⟨T1, e1, s1, q1⟩ := x_row (n := n) (dir := dir) hk hka hs.1 hs.2.1 hc hd (by omega) hf.2.2
  rw [e1, Option.bind_some, show (16 : Int32) + nI n = nI (16 + n) from nI_add 16 _]
  obtain ⟨T2, e2, q2⟩ := x_code (k := k + 1) (a := k + 9) kM (e_mac (k := k + 1) q1 (by simp) (by simp) (by simp) hs.2.2.1) (by omega) (by omega) (by omega) s1
  rw [e2, Option.bind_some]
  have q2' : xs_eq [k + 6] T1 T2 := q2
  have f2 : xs_cf T2 a n b := ⟨by rw [q2'.1 a (by simpa using na6), q1.1 a (by simpa using na9)]; exact hf.1, hf.2.1, e_by q2' (by simpa using n6) (e_by q1 (by simpa using n9) hf.2.2)⟩
  obtain ⟨T3, e3, f3, g3, q3⟩ := x_cf_app (j := 4) hka f2 (x_code4 hs.2.2.1.1.1 (fun j hj => (s1 j hj).2)) (by decide) hn
  rw [show xf_F_append a _ 4 T2 = _ from e3, Option.bind_some]
  refine ⟨T3, rfl, f3, ?_, e_tr (e_mono q1 (by simp)) (e_tr (e_mono q2' (by simp)) (e_mono q3 (by simp)))⟩
  rw [g3, q2'.1 a (by simpa using na6), q1.1 a (by simpa using na9)]
theorem x_finish {S : xs_T} {k a n dir addr cnt P pl : Nat} {b W1 W2 : Nat → Nat} (hk : xs_kd k = 5) (hka : xs_kd a = 2) (hs : xs_ses S k addr W1 W2) (hc : cnt < 2 ^ 32) (hd : dir < 256) (hP : P < 2 ^ 64) (hf : xs_cf S a n b) (h1 : 1 ≤ pl) (h8 : pl ≤ 8) (hn : n + 1 + pl + 4 ≤ 24) :
    ∃ T, xf_S_finish k a (nI dir) (nI cnt) (lN P) (nI pl) S = some T ∧ xs_cf T a (n + 1 + pl + 4) (yApp (yPay b n P (yStr W2 dir addr cnt)) (n + 1 + pl) (yNum (yMac W1 (yRow (yHd 73 dir addr cnt (n + 1 + pl)) (yPay b n P (yStr W2 dir addr cnt))) (16 + (n + 1 + pl))) 4)) ∧ T.1 a 2 = S.1 a 2 ∧ xs_eq [a, a + 1, k + 6, k + 9] S T := by
  obtain ⟨n0, n01, na6, na8, na9, n9, n6, n8, na3, na4, na5, n3, n4, n5⟩ := x_kSF hk hka
  have he : ∀ i, i < 8 → yStr W2 dir addr cnt i < 256 := fun i hi => y_b_str hs.2.2.2.1 hd i (by omega)
  unfold xf_S_finish
  rw [if_neg (nI_nle (by omega) (by omega))]
  obtain ⟨T1, e1, f1, g1, q1⟩ := x_cf_app (v := 1) (j := 1) hka hf (by decide) (by decide) (by omega)
  rw [show xf_F_append a 1 1 S = _ from e1, Option.bind_some]
  have hs1 := e_ses q1 (by simp; omega) (by simp; omega) (by simp; omega) (by simp; omega) (by simp; omega) hs
  obtain ⟨T2, e2, q2⟩ := x_stream (dir := dir) hk hs1 hc hd
  rw [e2, Option.bind_some]
  dsimp only
  have ex : lN P ^^^ lN (yNum (yStr W2 dir addr cnt) 8) = lN (yNum (fun i => (P / 2 ^ (8 * i) % 256) ^^^ yStr W2 dir addr cnt i) 8) := by
    rw [w_xor, ← y_num_xor 8 (fun i hi => ⟨Nat.mod_lt _ (by decide), he i hi⟩), y_num_of 8 P hP]
  rw [ex]
  have hsb : ∀ i, i < 8 → (fun i => (P / 2 ^ (8 * i) % 256) ^^^ yStr W2 dir addr cnt i) i < 256 := fun i hi => y_xlt (Nat.mod_lt _ (by decide)) (he i hi)
  have hV := y_num_lt (s := fun i => (P / 2 ^ (8 * i) % 256) ^^^ yStr W2 dir addr cnt i) 8 hsb
  have byt := y_num_byte (s := fun i => (P / 2 ^ (8 * i) % 256) ^^^ yStr W2 dir addr cnt i) 8 hsb
  generalize yNum (fun i => (P / 2 ^ (8 * i) % 256) ^^^ yStr W2 dir addr cnt i) 8 = V at hV byt ⊢
  have f2 : xs_cf T2 a (n + 1) (yPay b n P (yStr W2 dir addr cnt)) := by
    refine cf_cg (b := yApp b n 1) (fun i hi => ?_) ⟨by rw [q2.1 a (by simpa using na9)]; exact f1.1, f1.2.1, e_by q2 (by simpa using n9) f1.2.2⟩
    unfold yApp yPay
    by_cases h : i < n
    · rw [if_pos h, if_pos h]
    · rw [if_neg h, if_neg h, if_pos (by omega), show i - n = 0 by omega]
  obtain ⟨T3, ⟨f3, g3, q3⟩, e3⟩ := xl_for (fun f i (T : xs_T) => xf_S_finish_25 k a (nI dir) (nI cnt) (lN P) (nI pl) f (lN V) (nI i) T) (fun i T => xs_cf T a (n + 1 + i) (yPay b n P (yStr W2 dir addr cnt)) ∧ T.1 a 2 = S.1 a 2 ∧ xs_eq [a, a + 1, k + 9] S T) pl
    (fun f i T hi hT => by
      obtain ⟨fT, gT, qT⟩ := hT
      have ev : Int64.toInt32 (xs_lush (lN V) (8 * nI i)) = nI (V / 2 ^ (8 * i) % 2 ^ 32) := by
        rw [show (8 : Int32) * nI i = nI (8 * i) from pk_mul 8 i, show xs_lush (lN V) (nI (8 * i)) = _ from wb_shr hV (by omega), w_t32, ← n_mod]
      obtain ⟨T4, e4, f4, g4, q4⟩ := x_cf_app (v := V / 2 ^ (8 * i) % 2 ^ 32) (j := 1) hka fT (Nat.mod_lt _ (by decide)) (by decide) (by omega)
      refine ⟨T4, ⟨cf_cg (fun j hj => ?_) f4, g4.trans gT, e_tr qT (e_mono q4 (by simp))⟩, ?_⟩
      · unfold yApp
        by_cases h : j < n + 1 + i
        · rw [if_pos h]
        · rw [if_neg h, show j - (n + 1 + i) = 0 by omega]
          unfold yPay
          rw [if_neg (by omega), if_neg (by omega), show j - n - 1 = i by omega, ← byt i (by omega)]
          show V / 2 ^ (8 * i) % 2 ^ 32 / 1 % 256 = _
          omega
      · show xf_S_finish_25 k a (nI dir) (nI cnt) (lN P) (nI pl) (f + 1) (lN V) (nI i) T = _
        rw [xf_S_finish_25, if_neg (nI_ge hi (by omega)), ev, show xf_F_append a _ 1 T = _ from e4, Option.bind_some, nI_1]) pl 0 xs_fuel T2 (Nat.zero_add _) (by unfold xs_fuel; omega) ⟨f2, by rw [q2.1 a (by simpa using na9), g1], e_tr (e_mono q1 (by simp)) (e_mono q2 (by simp))⟩
  rw [show xf_S_finish_25 k a (nI dir) (nI cnt) (lN P) (nI pl) xs_fuel (lN V) 0 T2 = _ from e3, show xs_fuel - pl = (999 - pl) + 1 by unfold xs_fuel; omega, xf_S_finish_25, if_pos (nI_le (Nat.le_refl _) (by omega))]
  have hs3 := e_ses q3 (by simp; omega) (by simp; omega) (by simp; omega) (by simp; omega) (by simp; omega) hs
  obtain ⟨T5, e5, f5, g5, q5⟩ := x_fin52 (p := lN P) (pl := nI pl) (dir := dir) hk hka hs3 hc hd f3 hn
  exact ⟨T5, e5, f5, g5.trans g3, e_tr (e_mono q3 (by simp)) q5⟩
theorem x_finish0 {S : xs_T} {k a n dir addr cnt : Nat} {p : Int64} {b W1 W2 : Nat → Nat} (hk : xs_kd k = 5) (hka : xs_kd a = 2) (hs : xs_ses S k addr W1 W2) (hc : cnt < 2 ^ 32) (hd : dir < 256) (hf : xs_cf S a n b) (hn : n + 4 ≤ 24) :
    ∃ T, xf_S_finish k a (nI dir) (nI cnt) p 0 S = some T ∧ xs_cf T a (n + 4) (yApp b n (yNum (yMac W1 (yRow (yHd 73 dir addr cnt n) b) (16 + n)) 4)) ∧ T.1 a 2 = S.1 a 2 ∧ xs_eq [a, a + 1, k + 6, k + 9] S T := by
  unfold xf_S_finish
  rw [if_pos (by decide)]
  exact x_fin52 hk hka hs hc hd hf hn
theorem x_begin {S : xs_T} {k a h t control addr cnt : Nat} {W1 W2 : Nat → Nat} (hk : xs_kd k = 5) (hka : xs_kd a = 2) (hs : xs_ses S k addr W1 W2) (hh : h < 256) (hct : control < 256) (hc : cnt < 2 ^ 32) :
    ∃ T, xf_S_begin k a (nI h) (nI t) (nI control) (nI cnt) S = some T ∧ xs_cf T a 8 (yApp (yApp (yApp (fun _ => h) 1 addr) 5 control) 6 cnt) ∧ T.1 a 2 = nI t ∧ xs_eq [a, a + 1] S T := by
  obtain ⟨n0, n01, -⟩ := x_kSF hk hka
  unfold xf_S_begin
  obtain ⟨T1, e1, f1, g1, q1⟩ := x_cf_begin (S := S) (t := nI t) hka hh
  rw [e1, Option.bind_some, show xs_gI T1 k 4 = nI addr by
    show T1.1 k 4 = _
    rw [q1.1 k (by simp; omega)]
    exact hs.1]
  obtain ⟨T2, e2, f2, g2, q2⟩ := x_cf_app (v := addr) (j := 4) hka f1 hs.2.1 (by decide) (by decide)
  rw [show xf_F_append a (nI addr) 4 T1 = _ from e2, Option.bind_some]
  obtain ⟨T3, e3, f3, g3, q3⟩ := x_cf_app (v := control) (j := 1) hka f2 (by omega) (by decide) (by decide)
  rw [show xf_F_append a (nI control) 1 T2 = _ from e3, Option.bind_some]
  obtain ⟨T4, e4, f4, g4, q4⟩ := x_cf_app (v := cnt) (j := 2) hka f3 hc (by decide) (by decide)
  rw [show xf_F_append a (nI cnt) 2 T3 = _ from e4, Option.bind_some]
  exact ⟨T4, rfl, f4, by rw [g4, g3, g2, g1], e_tr q1 (e_tr q2 (e_tr q3 q4))⟩
theorem x_readP {S : xs_T} {k a n oc pl dir addr cnt : Nat} {b W1 W2 : Nat → Nat} (hk : xs_kd k = 5) (hka : xs_kd a = 2) (hs : xs_ses S k addr W1 W2) (hc : cnt < 2 ^ 32) (hd : dir < 256) (hf : xs_cf S a n b) (h12 : 12 ≤ n) (hoc : b 5 % 16 = oc) (h1 : 1 ≤ pl) (h8 : pl ≤ 8) (hn : n = 13 + oc + pl) :
    ∃ T, xf_S_readPayload k a (nI dir) (nI cnt) S = some (lN (yNum (fun i => b (9 + oc + i) ^^^ yStr W2 dir addr cnt i) pl), T) ∧ xs_eq [k + 9] S T := by
  have la := x_kF hka
  have h24 := hf.2.1
  have b5 := hf.2.2 5 (by omega)
  have bb := b5.2
  have he : ∀ i, i < 8 → yStr W2 dir addr cnt i < 256 := fun i hi => y_b_str hs.2.2.2.1 hd i (by omega)
  have opt : xf_F_optionCount a S = some (nI oc) := by
    unfold xf_F_optionCount xf_F_control
    rw [show xs_rd S (a + 1) 5 = _ from x_rd (j := 5) (by omega), Option.bind_some, Option.bind_some, show S.1 (a + 1) 5 = nI (b 5) from b5.1, pk_andN (m := 15) (by omega) 4 (by decide), ← hoc]
  have st : xf_F_payloadStart a S = some (nI (9 + oc)) := by
    unfold xf_F_payloadStart
    rw [opt, Option.bind_some, show (9 : Int32) + nI oc = nI (9 + oc) from nI_add 9 oc]
  have pb : xf_F_payloadBytes a S = some (nI pl) := by
    unfold xf_F_payloadBytes
    rw [st, Option.bind_some, show xs_gI S a 1 = nI n from hf.1, show nI n - 4 = nI (n - 4) from pk_sub (b := 4) (by omega), pk_sub (by omega), show n - 4 - (9 + oc) = pl by omega]
    unfold xs_max
    rw [if_pos (show (0 : Int32) < nI pl from nI_lt (a := 0) (by omega) (by omega))]
  unfold xf_S_readPayload
  rw [pb, Option.bind_some, st, Option.bind_some]
  obtain ⟨v, hv, e⟩ := xl_for (fun f i (v : Int64) => xf_S_readPayload_18 k a (nI dir) (nI cnt) f (nI pl) (nI (9 + oc)) v (nI i) S) (fun i v => v = lN (yNum (fun i => b (9 + oc + i)) i)) pl
    (fun f i v hi hv => by
      refine ⟨_, rfl, ?_⟩
      subst hv
      have bi := hf.2.2 (9 + oc + i) (by omega)
      rw [Nat.zero_add] at bi
      show xf_S_readPayload_18 k a (nI dir) (nI cnt) (f + 1) (nI pl) (nI (9 + oc)) _ (nI i) S = xf_S_readPayload_18 k a (nI dir) (nI cnt) f (nI pl) (nI (9 + oc)) (lN (yNum (fun i => b (9 + oc + i)) i + b (9 + oc + i) * 2 ^ (8 * i))) (nI (i + 1)) S
      rw [xf_S_readPayload_18, if_neg (nI_ge hi (by omega)), nI_add, x_rd (by omega), Option.bind_some, Option.bind_some, bi.1, nI_l (by omega), w_or (by omega) (y_num_lt i (fun j hj => by
        have := hf.2.2 (9 + oc + j) (by omega)
        exact this.2)) bi.2, nI_1]) pl 0 xs_fuel 0 (Nat.zero_add _) (by unfold xs_fuel; omega) rfl
  subst hv
  rw [show xf_S_readPayload_18 k a (nI dir) (nI cnt) xs_fuel (nI pl) (nI (9 + oc)) 0 0 S = _ from e, show xs_fuel - pl = (999 - pl) + 1 by unfold xs_fuel; omega, xf_S_readPayload_18, if_pos (nI_le (Nat.le_refl _) (by omega))]
  obtain ⟨T2, e2, q2⟩ := x_stream (dir := dir) hk hs hc hd
  rw [e2, Option.bind_some]
  have hbb : ∀ i, i < pl → b (9 + oc + i) < 256 := fun i hi => (hf.2.2 (9 + oc + i) (by omega)).2
  have l1 := y_num_lt (s := fun i => b (9 + oc + i)) pl hbb
  have l2 := y_num_lt (s := yStr W2 dir addr cnt) 8 he
  have hp : 2 ^ (8 * pl) ≤ 2 ^ 64 := Nat.pow_le_pow_right (by decide) (by omega)
  unfold xf_W_lowest
  rw [w_xor, w_mask pl h1 (by omega), w_and (Nat.xor_lt_two_pow (Nat.lt_of_lt_of_le l1 hp) l2) h1 (by omega), Nat.xor_mod_two_pow, Nat.mod_eq_of_lt l1, y_num_mod he (by omega), y_num_xor pl (fun i hi => ⟨hbb i hi, he i (by omega)⟩), Option.bind_some]
  exact ⟨T2, rfl, q2⟩
