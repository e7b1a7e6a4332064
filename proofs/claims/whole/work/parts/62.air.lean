/-! the air -/
def xk_Fs (ca : Nat → ClassId) (ad : Nat → Nat) (o : Nat) : Nat → va_W
  | 0 => []
  | n + 1 => xk_Fs ca ad o n ++ xk_F ca ad (o + 2 * n)
theorem xk_Fs_cg {ca : Nat → ClassId} {ad ad2 : Nat → Nat} {o : Nat} : ∀ {n : Nat}, (∀ i, o ≤ i → i < o + 2 * n → ad i = ad2 i) → xk_Fs ca ad o n = xk_Fs ca ad2 o n := by
  intro n
  induction n with
  | zero => intro _; rfl
  | succ n ih =>
    intro h
    rw [xk_Fs, xk_Fs, ih (fun i h1 h2 => h i h1 (by omega)), xk_F_cg (fun i h1 h2 => h i (by omega) (by omega))]
def xk_A (ca : Nat → ClassId) (ad : Nat → Nat) (o : Nat) : va_W := (ad o, .inr (1, [.ref (ad (o + 1)), .ref (ad (o + 2)), .int 0, .int 0])) :: (ad (o + 1), .inl (ca 3, 12, .inr (.inr (.inr (.inr fun j => some (ad (o + 3 + 2 * (j % 12)))))))) :: (ad (o + 2), .inl (ca 3, 8, .inr (.inr (.inr (.inr fun j => some (ad (o + 27 + 2 * (j % 8)))))))) :: (xk_Fs ca ad (o + 3) 12 ++ xk_Fs ca ad (o + 27) 8)
theorem xk_A_cg {ca : Nat → ClassId} {ad ad2 : Nat → Nat} {o : Nat} (h : ∀ i, o ≤ i → i < o + 43 → ad i = ad2 i) : xk_A ca ad o = xk_A ca ad2 o := by
  unfold xk_A
  have e1 : (fun j : Nat => some (ad (o + 3 + 2 * (j % 12)))) = fun j => some (ad2 (o + 3 + 2 * (j % 12))) := funext fun j => by
    have := Nat.mod_lt j (show 0 < 12 by decide)
    rw [h _ (by omega) (by omega)]
  have e2 : (fun j : Nat => some (ad (o + 27 + 2 * (j % 8)))) = fun j => some (ad2 (o + 27 + 2 * (j % 8))) := funext fun j => by
    have := Nat.mod_lt j (show 0 < 8 by decide)
    rw [h _ (by omega) (by omega)]
  rw [e1, e2, h o (by omega) (by omega), h (o + 1) (by omega) (by omega), h (o + 2) (by omega) (by omega), xk_Fs_cg (fun i h1 h2 => h i (by omega) (by omega)), xk_Fs_cg (o := o + 27) (fun i h1 h2 => h i (by omega) (by omega))]
theorem yd_A_init : (yy_A_init).cls ≠ "java/lang/invoke/MethodHandle" ∧ (yy_A_init).cls ≠ "java/lang/invoke/VarHandle" ∧ (parseMethodDescriptor (yy_A_init).desc).map (fun d => d.parameters.length) = some 0 := by decide +kernel
set_option maxHeartbeats 4000000 in
set_option maxRecDepth 100000 in
theorem xn_A (l : Launch) (D : va_G) (ca : Nat → ClassId) (h0 sz o : Nat) : Met l yy_A_init ws_A_init { frames := 2, cells := 42, slots := 560, locals := 44 } (va_Pc [.ref h0] (xs_PreC D ca [(h0, .inr (1, [.null, .null, .int 0, .int 0]))] sz)) (va_Qv (fun ad : Nat → Nat => ad o = h0) (fun ad t => va_P D xs_cl (xk_A ca ad o) t.heap ∧ va_D (va_A [(h0, .inr (1, [.null, .null, .int 0, .int 0]))] sz) (xk_A ca ad o)) (va_A [(h0, .inr (1, [.null, .null, .int 0, .int 0]))] sz)) 42 560 (va_A [(h0, .inr (1, [.null, .null, .int 0, .int 0]))] sz) := by
  refine xn_v (by decide) (Nat.le_of_ble_eq_true rfl) ?_
  intro p e s m args below meth c R A Q ls hx hb hml hown hts hRf hRl hRc hRs hin hKK hA hJ hl hret
  have hin : meth.name = "<init>" := hin
  have hl : lv_has ls 2 [(0, .ref h0)] := hl
  refine lv_aload_n hx hb dd_A_init_0 rfl (lv_at hl 0 rfl) ?_
  refine W.objInit hx hb hown (hts _ hw_29) (hts _ hw_22) (hts _ hw_23) rfl (by rw [hml]; exact hl.1) rfl dd_A_init_1 (Nat.le_trans (by decide) hRf) (Nat.le_trans (Nat.le_of_ble_eq_true rfl) hRl) ?_
  refine W.eq (g2 := F0 m 4 ls []) rfl ?_
  refine lv_aload_n hx hb dd_A_init_4 rfl (lv_at hl 0 rfl) ?_
  refine lv_bipush (v := 12) hx hb dd_A_init_5 rfl ?_
  refine xk_newq_F hx hb hown (hts _ hw_30) hKK hA hJ 12 (by decide) (by decide) (by decide) (Nat.le_trans (by decide) hRc) (Nat.le_trans (by decide) hRs) dd_A_init_7 (fun q1 H hJ => ?_)
  have hJ : xs_J D A s ((h0, .inr (1, [.null, .null, .int 0, .int 0])) :: (([] : va_W) ++ [(q1, .inl (ca 3, 12, .inr (.inr (.inr (.inr fun _ => none)))))])) _ _ := hJ
  refine xk_putF_A (ty := .array (.object "WideNet$Frame")) hx hb hts hown hKK hJ 0 (by decide) (hts _ hw_58) rfl hin rfl (by decide +kernel) rfl rfl (Nat.le_of_ble_eq_true rfl) dd_A_init_10 (fun H locs hJ => ?_)
  have hJ : xs_J D A s ((h0, .inr (1, [.ref q1, .null, .int 0, .int 0])) :: (([] : va_W) ++ [(q1, .inl (ca 3, 12, .inr (.inr (.inr (.inr fun _ => none)))))])) _ _ := hJ
  refine lv_aload_n hx hb dd_A_init_13 rfl (lv_at hl 0 rfl) ?_
  refine lv_bipush (v := 8) hx hb dd_A_init_14 rfl ?_
  refine xk_newq_F hx hb hown (hts _ hw_30) hKK hA hJ 8 (by decide) (by decide) (by decide) (Nat.le_trans (by decide) hRc) (Nat.le_trans (by decide) hRs) dd_A_init_16 (fun q2 H hJ => ?_)
  have hJ : xs_J D A s ((h0, .inr (1, [.ref q1, .null, .int 0, .int 0])) :: (([] : va_W) ++ [(q1, .inl (ca 3, 12, .inr (.inr (.inr (.inr fun _ => none)))))] ++ [(q2, .inl (ca 3, 8, .inr (.inr (.inr (.inr fun _ => none)))))])) _ _ := hJ
  refine xk_putF_A (ty := .array (.object "WideNet$Frame")) hx hb hts hown hKK hJ 1 (by decide) (hts _ hw_60) rfl hin rfl (by decide +kernel) rfl rfl (Nat.le_of_ble_eq_true rfl) dd_A_init_19 (fun H locs hJ => ?_)
  have hJ : xs_J D A s ((h0, .inr (1, [.ref q1, .ref q2, .int 0, .int 0])) :: (([] : va_W) ++ [(q1, .inl (ca 3, 12, .inr (.inr (.inr (.inr fun _ => none)))))] ++ [(q2, .inl (ca 3, 8, .inr (.inr (.inr (.inr fun _ => none)))))])) _ _ := hJ
  refine lv_aload_n hx hb dd_A_init_22 rfl (lv_at hl 0 rfl) ?_
  refine lv_iconst (v := 0) hx hb dd_A_init_23 rfl ?_
  refine xk_put_A (ty := .int) hx hb hts hown hKK hJ 2 (by decide) (hts _ hw_61) rfl (by decide +kernel) rfl rfl (Nat.le_of_ble_eq_true rfl) dd_A_init_24 (fun H locs hJ => ?_)
  have hJ : xs_J D A s ((h0, .inr (1, [.ref q1, .ref q2, .int 0, .int 0])) :: (([] : va_W) ++ [(q1, .inl (ca 3, 12, .inr (.inr (.inr (.inr fun _ => none)))))] ++ [(q2, .inl (ca 3, 8, .inr (.inr (.inr (.inr fun _ => none)))))])) _ _ := hJ
  refine lv_aload_n hx hb dd_A_init_27 rfl (lv_at hl 0 rfl) ?_
  refine lv_iconst (v := 0) hx hb dd_A_init_28 rfl ?_
  refine xk_put_A (ty := .int) hx hb hts hown hKK hJ 3 (by decide) (hts _ hw_63) rfl (by decide +kernel) rfl rfl (Nat.le_of_ble_eq_true rfl) dd_A_init_29 (fun H locs hJ => ?_)
  have hJ : xs_J D A s ((h0, .inr (1, [.ref q1, .ref q2, .int 0, .int 0])) :: (([] : va_W) ++ [(q1, .inl (ca 3, 12, .inr (.inr (.inr (.inr fun _ => none)))))] ++ [(q2, .inl (ca 3, 8, .inr (.inr (.inr (.inr fun _ => none)))))])) _ _ := hJ
  have w2 : ∀ (ad1 : Nat → Nat) (f1 : Nat → Option Nat), (∀ j, j < 12 → f1 j = some (ad1 (o + 3 + 2 * j))) → ∀ (r k : Nat), k + r = 8 → ∀ (ad : Nat → Nat) (f : Nat → Option Nat) (cells slots : Nat) (H : Heap) (locs : List Loc) (ls : Array Slot), cells = 26 + 2 * k → slots = 344 + 27 * k → (∀ j, j < k → f j = some (ad (o + 27 + 2 * j))) → xs_J D A s ((h0, .inr (1, [.ref q1, .ref q2, .int 0, .int 0])) :: (q1, .inl (ca 3, 12, .inr (.inr (.inr (.inr f1))))) :: (q2, .inl (ca 3, 8, .inr (.inr (.inr (.inr f))))) :: (xk_Fs ca ad1 (o + 3) 12 ++ xk_Fs ca ad (o + 27) k)) H locs → lv_has ls 2 [(0, .ref h0), (1, .int (nI k))] → W p l e R s m args below meth c H locs cells slots Q (F0 m 61 ls []) := by
    intro ad1 f1 hf1 r
    induction r with
    | zero =>
      intro k hk ad f cells slots H locs ls hc hs hf hJ hl
      obtain rfl : k = 8 := by omega
      obtain rfl : cells = 42 := by omega
      obtain rfl : slots = 560 := by omega
      refine lv_iload_n hx hb dd_A_init_61 rfl (lv_at hl 1 rfl) ?_
      refine lv_bipush (v := 8) hx hb dd_A_init_62 rfl ?_
      refine lv_icmp_ge hx hb dd_A_init_64 rfl (fun _ => ?_) (fun b => absurd (show (8 : Int32) ≤ nI 8 by decide) b)
      obtain ⟨adF, g0, g1, g2, g3, g4⟩ : ∃ adF : Nat → Nat, adF o = h0 ∧ adF (o + 1) = q1 ∧ adF (o + 2) = q2 ∧ (∀ i, o + 3 ≤ i → i < o + 27 → adF i = ad1 i) ∧ ∀ i, o + 27 ≤ i → adF i = ad i := ⟨fun i => if i < o + 1 then h0 else if i < o + 2 then q1 else if i < o + 3 then q2 else if i < o + 27 then ad1 i else ad i, if_pos (by omega), by show (if _ then _ else _) = _; rw [if_neg (by omega), if_pos (by omega)], by show (if _ then _ else _) = _; rw [if_neg (by omega), if_neg (by omega), if_pos (by omega)], fun i h1 h2 => by show (if _ then _ else _) = _; rw [if_neg (by omega), if_neg (by omega), if_neg (by omega), if_pos (by omega)], fun i h1 => by show (if _ then _ else _) = _; rw [if_neg (by omega), if_neg (by omega), if_neg (by omega), if_neg (by omega)]⟩
      have hJ2 := xk_fn (pre := [(h0, .inr (1, [.ref q1, .ref q2, .int 0, .int 0]))]) (g := fun j => some (adF (o + 3 + 2 * (j % 12)))) hJ (fun j hj => by
        show f1 j = some (adF (o + 3 + 2 * (j % 12)))
        rw [Nat.mod_eq_of_lt hj, hf1 j hj, g3 _ (by omega) (by omega)])
      have hJ3 := xk_fn (pre := [(h0, .inr (1, [.ref q1, .ref q2, .int 0, .int 0])), (q1, .inl (ca 3, 12, .inr (.inr (.inr (.inr fun j => some (adF (o + 3 + 2 * (j % 12))))))))]) (g := fun j => some (adF (o + 27 + 2 * (j % 8)))) hJ2 (fun j hj => by
        show f j = some (adF (o + 27 + 2 * (j % 8)))
        rw [Nat.mod_eq_of_lt hj, hf j hj, g4 _ (by omega)])
      refine hret (ad := adF) g0 ?_ dd_A_init_86
      unfold xk_A
      rw [g0, g1, g2, xk_Fs_cg (ad := adF) (ad2 := ad1) (fun i h1 h2 => g3 i h1 (by omega)), xk_Fs_cg (ad := adF) (ad2 := ad) (o := o + 27) (fun i h1 h2 => g4 i h1)]
      exact hJ3
    | succ r ih =>
      intro k hk ad f cells slots H locs ls hc hs hf hJ hl
      refine lv_iload_n hx hb dd_A_init_61 rfl (lv_at hl 1 rfl) ?_
      refine lv_bipush (v := 8) hx hb dd_A_init_62 rfl ?_
      refine lv_icmp_ge hx hb dd_A_init_64 rfl (fun b => absurd b (show ¬ (8 : Int32) ≤ nI k from nI_ge (b := 8) (by omega) (by decide))) (fun _ => ?_)
      refine lv_aload_n hx hb dd_A_init_67 rfl (lv_at hl 0 rfl) ?_
      refine xk_get_A (v := .ref q2) hx hb hts hown hKK hJ 1 (by decide) (hts _ hw_60) rfl dd_A_init_68 ?_
      refine lv_iload_n hx hb dd_A_init_71 rfl (lv_at hl 1 rfl) ?_
      refine xk_new_F hx hb hts hown (hts _ hw_30) (hts _ hw_32) (hts _ hw_3) hKK hA hJ (by omega) (by omega) dd_A_init_72 (fun q H hJ => ?_)
      refine lv_dup hx hb dd_A_init_75 rfl ?_
      refine xk_call (X := fun ad => xk_F ca ad (o + 27 + 2 * k)) hA hJ (va_runIN (As := []) (rest := [.ref q, .int (nI k), .ref q2]) ⟨hx, hb, hml, hown, hts⟩ (xn_F l D ca q H.size (o + 27 + 2 * k)) ⟨va_cnB 0 hts (xs_good hw_35) rfl rfl rfl (hKK.2.1 _ hn_33 rfl) (hts _ hw_3) yd_F_init ⟨Nat.le_trans (by decide) hRf, Nat.le_trans (by decide) hRl⟩, rfl, (hts _ hw_34)⟩ ⟨xk_blind, fun U h1 h2 => ⟨rfl, xk_pre hKK hJ h1 h2⟩⟩ rfl rfl hl.1 rfl (lv_room (Nat.le_of_ble_eq_true rfl)) dd_A_init_76 ⟨by omega, by omega⟩) (fun ad' H locs e hJ => ?_)
      have hv : ∃ vs, (xk_F ca ad' (o + 27 + 2 * k))[0]? = some (q, .inr (2, vs)) := ⟨_, by rw [← e]; rfl⟩
      refine xk_ast2_F hx hb hKK hJ hv (nI_in (by omega) (by decide)) dd_A_init_79 (fun H locs hJ => ?_)
      refine lv_iinc (k := 1) (v := nI k + 1) hx hb dd_A_init_80 hl rfl rfl (by decide) rfl (fun ls hl => ?_)
      have hl : lv_has ls 2 [(1, .int (nI k + 1)), (0, .ref h0)] := hl
      rw [nI_1] at hl
      refine lv_goto hx hb dd_A_init_83 rfl ?_
      rw [nI_clamp (show k < 2 ^ 31 by omega)] at hJ
      refine ih (k + 1) (by omega) (fun i => if i < o + 27 + 2 * k then ad i else ad' i) (va_up f k (some q)) _ _ H locs ls (by omega) (by omega) (fun j hj => ?_) ?_ (lv_sub hl [1, 0] rfl)
      · by_cases hjk : j = k
        · subst hjk
          rw [xs_up_eq, ← e]
          exact congrArg some (if_neg (by omega)).symm
        · rw [xs_up_ne hjk, hf j (by omega)]
          exact congrArg some (if_pos (by omega)).symm
      · rw [show xk_Fs ca (fun i => if i < o + 27 + 2 * k then ad i else ad' i) (o + 27) (k + 1) = xk_Fs ca (fun i => if i < o + 27 + 2 * k then ad i else ad' i) (o + 27) k ++ xk_F ca (fun i => if i < o + 27 + 2 * k then ad i else ad' i) (o + 27 + 2 * k) from rfl, xk_Fs_cg (ad := (fun i => if i < o + 27 + 2 * k then ad i else ad' i)) (ad2 := ad) (fun i h1 h2 => if_pos (by omega)), xk_F_cg (ad := (fun i => if i < o + 27 + 2 * k then ad i else ad' i)) (ad2 := ad') (fun i h1 h2 => if_neg (by omega))]
        rw [← List.append_assoc]
        exact hJ
  have w1 : ∀ (r k : Nat), k + r = 12 → ∀ (ad : Nat → Nat) (f : Nat → Option Nat) (cells slots : Nat) (H : Heap) (locs : List Loc) (ls : Array Slot), cells = 2 + 2 * k → slots = 20 + 27 * k → (∀ j, j < k → f j = some (ad (o + 3 + 2 * j))) → xs_J D A s ((h0, .inr (1, [.ref q1, .ref q2, .int 0, .int 0])) :: (q1, .inl (ca 3, 12, .inr (.inr (.inr (.inr f))))) :: (q2, .inl (ca 3, 8, .inr (.inr (.inr (.inr fun _ => none))))) :: xk_Fs ca ad (o + 3) k) H locs → lv_has ls 2 [(0, .ref h0), (1, .int (nI k))] → W p l e R s m args below meth c H locs cells slots Q (F0 m 34 ls []) := by
    intro r
    induction r with
    | zero =>
      intro k hk ad f cells slots H locs ls hc hs hf hJ hl
      obtain rfl : k = 12 := by omega
      refine lv_iload_n hx hb dd_A_init_34 rfl (lv_at hl 1 rfl) ?_
      refine lv_bipush (v := 12) hx hb dd_A_init_35 rfl ?_
      refine lv_icmp_ge hx hb dd_A_init_37 rfl (fun _ => ?_) (fun b => absurd (show (12 : Int32) ≤ nI 12 by decide) b)
      refine lv_iconst (v := 0) hx hb dd_A_init_59 rfl ?_
      refine lv_istore_n hx hb dd_A_init_60 rfl hl (by decide) rfl (fun ls hl => ?_)
      have hl : lv_has ls 2 [(1, .int 0), (0, .ref h0)] := hl
      exact w2 ad f hf 8 0 rfl ad (fun _ => none) cells slots H locs ls (by omega) (by omega) (fun j hj => absurd hj (Nat.not_lt_zero _)) (by rw [show xk_Fs ca ad (o + 27) 0 = [] from rfl, List.append_nil]; exact hJ) (lv_sub hl [1, 0] rfl)
    | succ r ih =>
      intro k hk ad f cells slots H locs ls hc hs hf hJ hl
      refine lv_iload_n hx hb dd_A_init_34 rfl (lv_at hl 1 rfl) ?_
      refine lv_bipush (v := 12) hx hb dd_A_init_35 rfl ?_
      refine lv_icmp_ge hx hb dd_A_init_37 rfl (fun b => absurd b (show ¬ (12 : Int32) ≤ nI k from nI_ge (b := 12) (by omega) (by decide))) (fun _ => ?_)
      refine lv_aload_n hx hb dd_A_init_40 rfl (lv_at hl 0 rfl) ?_
      refine xk_get_A (v := .ref q1) hx hb hts hown hKK hJ 0 (by decide) (hts _ hw_58) rfl dd_A_init_41 ?_
      refine lv_iload_n hx hb dd_A_init_44 rfl (lv_at hl 1 rfl) ?_
      refine xk_new_F hx hb hts hown (hts _ hw_30) (hts _ hw_32) (hts _ hw_3) hKK hA hJ (by omega) (by omega) dd_A_init_45 (fun q H hJ => ?_)
      refine lv_dup hx hb dd_A_init_48 rfl ?_
      refine xk_call (X := fun ad => xk_F ca ad (o + 3 + 2 * k)) hA hJ (va_runIN (As := []) (rest := [.ref q, .int (nI k), .ref q1]) ⟨hx, hb, hml, hown, hts⟩ (xn_F l D ca q H.size (o + 3 + 2 * k)) ⟨va_cnB 0 hts (xs_good hw_35) rfl rfl rfl (hKK.2.1 _ hn_33 rfl) (hts _ hw_3) yd_F_init ⟨Nat.le_trans (by decide) hRf, Nat.le_trans (by decide) hRl⟩, rfl, (hts _ hw_34)⟩ ⟨xk_blind, fun U h1 h2 => ⟨rfl, xk_pre hKK hJ h1 h2⟩⟩ rfl rfl hl.1 rfl (lv_room (Nat.le_of_ble_eq_true rfl)) dd_A_init_49 ⟨by omega, by omega⟩) (fun ad' H locs e hJ => ?_)
      have hv : ∃ vs, (xk_F ca ad' (o + 3 + 2 * k))[0]? = some (q, .inr (2, vs)) := ⟨_, by rw [← e]; rfl⟩
      refine xk_ast1_F hx hb hKK hJ hv (nI_in (by omega) (by decide)) dd_A_init_52 (fun H locs hJ => ?_)
      refine lv_iinc (k := 1) (v := nI k + 1) hx hb dd_A_init_53 hl rfl rfl (by decide) rfl (fun ls hl => ?_)
      have hl : lv_has ls 2 [(1, .int (nI k + 1)), (0, .ref h0)] := hl
      rw [nI_1] at hl
      refine lv_goto hx hb dd_A_init_56 rfl ?_
      rw [nI_clamp (show k < 2 ^ 31 by omega)] at hJ
      refine ih (k + 1) (by omega) (fun i => if i < o + 3 + 2 * k then ad i else ad' i) (va_up f k (some q)) _ _ H locs ls (by omega) (by omega) (fun j hj => ?_) ?_ (lv_sub hl [1, 0] rfl)
      · by_cases hjk : j = k
        · subst hjk
          rw [xs_up_eq, ← e]
          exact congrArg some (if_neg (by omega)).symm
        · rw [xs_up_ne hjk, hf j (by omega)]
          exact congrArg some (if_pos (by omega)).symm
      · rw [show xk_Fs ca (fun i => if i < o + 3 + 2 * k then ad i else ad' i) (o + 3) (k + 1) = xk_Fs ca (fun i => if i < o + 3 + 2 * k then ad i else ad' i) (o + 3) k ++ xk_F ca (fun i => if i < o + 3 + 2 * k then ad i else ad' i) (o + 3 + 2 * k) from rfl, xk_Fs_cg (ad := (fun i => if i < o + 3 + 2 * k then ad i else ad' i)) (ad2 := ad) (fun i h1 h2 => if_pos (by omega)), xk_F_cg (ad := (fun i => if i < o + 3 + 2 * k then ad i else ad' i)) (ad2 := ad') (fun i h1 h2 => if_neg (by omega))]
        exact hJ
  refine lv_iconst (v := 0) hx hb dd_A_init_32 rfl ?_
  refine lv_istore_n hx hb dd_A_init_33 rfl hl (by decide) rfl (fun ls hl => ?_)
  have hl : lv_has ls 2 [(1, .int 0), (0, .ref h0)] := hl
  exact w1 12 0 rfl (fun _ => 0) (fun _ => none) _ _ _ _ _ rfl rfl (fun j hj => absurd hj (Nat.not_lt_zero _)) hJ (lv_sub hl [1, 0] rfl)
