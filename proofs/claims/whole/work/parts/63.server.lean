/-! the server -/
def xk_Ks (ca : Nat → ClassId) (ad : Nat → Nat) (o : Nat) (mk : Nat → Nat) : Nat → va_W
  | 0 => []
  | n + 1 => xk_Ks ca ad o mk n ++ xk_K ca ad (o + 16 * n) (nI n) (mk n)
theorem xk_Ks_cg {ca : Nat → ClassId} {ad ad2 : Nat → Nat} {o : Nat} {mk : Nat → Nat} : ∀ {n : Nat}, (∀ i, o ≤ i → i < o + 16 * n → ad i = ad2 i) → xk_Ks ca ad o mk n = xk_Ks ca ad2 o mk n := by
  intro n
  induction n with
  | zero => intro _; rfl
  | succ n ih =>
    intro h
    rw [xk_Ks, xk_Ks, ih (fun i h1 h2 => h i h1 (by omega)), xk_K_cg (fun i h1 h2 => h i (by omega) (by omega))]
def xk_V (ca : Nat → ClassId) (ad : Nat → Nat) (o : Nat) (mk : Nat → Nat) : va_W := (ad o, .inr (9, [.ref (ad (o + 1)), .ref (ad (o + 2)), .int 0])) :: (ad (o + 1), .inl (ca 5, 3, .inr (.inr (.inr (.inr fun j => some (ad (o + 4 + 16 * (j % 3)))))))) :: (xk_F ca ad (o + 2) ++ xk_Ks ca ad (o + 4) mk 3)
theorem xk_V_cg {ca : Nat → ClassId} {ad ad2 : Nat → Nat} {o : Nat} {mk : Nat → Nat} (h : ∀ i, o ≤ i → i < o + 52 → ad i = ad2 i) : xk_V ca ad o mk = xk_V ca ad2 o mk := by
  unfold xk_V
  have e1 : (fun j : Nat => some (ad (o + 4 + 16 * (j % 3)))) = fun j => some (ad2 (o + 4 + 16 * (j % 3))) := funext fun j => by
    have := Nat.mod_lt j (show 0 < 3 by decide)
    rw [h _ (by omega) (by omega)]
  rw [e1, h o (by omega) (by omega), h (o + 1) (by omega) (by omega), h (o + 2) (by omega) (by omega), xk_F_cg (fun i h1 h2 => h i (by omega) (by omega)), xk_Ks_cg (fun i h1 h2 => h i (by omega) (by omega))]
theorem yd_V_init : (yy_V_init).cls ≠ "java/lang/invoke/MethodHandle" ∧ (yy_V_init).cls ≠ "java/lang/invoke/VarHandle" ∧ (parseMethodDescriptor (yy_V_init).desc).map (fun d => d.parameters.length) = some 1 := by decide +kernel
theorem xk_drop1 {D : va_G} {A : Nat → Prop} {s : State} {x y : Nat × va_E} {r : va_W} {H : Heap} {locs : List Loc} (h : xs_J D A s (x :: y :: r) H locs) : xs_J D A s (x :: r) H locs :=
  have h2 : xs_J D A s ([y] ++ (x :: r)) H locs := xk_perm h (List.Perm.swap y x r)
  ⟨xk_right h2.1, xk_Dr h2.2.1, h2.2.2⟩
set_option maxHeartbeats 4000000 in
set_option maxRecDepth 100000 in
theorem xn_V (l : Launch) (D : va_G) (ca : Nat → ClassId) (h0 sz o rq : Nat) (f : Nat → Option Nat) (mk : Nat → Nat) (hfm : ∀ j, j < 3 → f j = some (mk j)) : Met l yy_V_init ws_V_init { frames := 5, cells := 51, slots := 729, locals := 106 } (va_Pc [.ref h0, .ref rq] (xs_PreC D ca [(h0, .inr (9, [.null, .null, .int 0])), (rq, .inl (ca 6, 3, .inr (.inr (.inr (.inr f)))))] sz)) (va_Qv (fun ad : Nat → Nat => ad o = h0) (fun ad t => va_P D xs_cl (xk_V ca ad o mk) t.heap ∧ va_D (va_A [(h0, .inr (9, [.null, .null, .int 0])), (rq, .inl (ca 6, 3, .inr (.inr (.inr (.inr f)))))] sz) (xk_V ca ad o mk)) (va_A [(h0, .inr (9, [.null, .null, .int 0])), (rq, .inl (ca 6, 3, .inr (.inr (.inr (.inr f)))))] sz)) 51 729 (va_A [(h0, .inr (9, [.null, .null, .int 0])), (rq, .inl (ca 6, 3, .inr (.inr (.inr (.inr f)))))] sz) := by
  refine xn_v (by decide) (Nat.le_of_ble_eq_true rfl) ?_
  intro p e s m args below meth c R A Q ls hx hb hml hown hts hRf hRl hRc hRs hin hKK hA hJ hl hret
  have hin : meth.name = "<init>" := hin
  have hl : lv_has ls 3 [(0, .ref h0), (1, .ref rq)] := hl
  refine lv_aload_n hx hb dd_V_init_0 rfl (lv_at hl 0 rfl) ?_
  refine W.objInit hx hb hown (hts _ hw_266) (hts _ hw_22) (hts _ hw_23) rfl (by rw [hml]; exact hl.1) rfl dd_V_init_1 (Nat.le_trans (by decide) hRf) (Nat.le_trans (Nat.le_of_ble_eq_true rfl) hRl) ?_
  refine W.eq (g2 := F0 m 4 ls []) rfl ?_
  refine lv_aload_n hx hb dd_V_init_4 rfl (lv_at hl 0 rfl) ?_
  refine lv_iconst (v := 3) hx hb dd_V_init_5 rfl ?_
  refine xk_newq_K hx hb hown (hts _ hw_267) hKK hA hJ 3 (by decide) (by decide) (by decide) (Nat.le_trans (by decide) hRc) (Nat.le_trans (by decide) hRs) dd_V_init_6 (fun q1 H hJ => ?_)
  have hJ : xs_J D A s ((h0, .inr (9, [.null, .null, .int 0])) :: (([] : va_W) ++ [(rq, .inl (ca 6, 3, .inr (.inr (.inr (.inr f)))))] ++ [(q1, .inl (ca 5, 3, .inr (.inr (.inr (.inr fun _ => none)))))])) _ _ := hJ
  refine xk_putF_V (ty := .array (.object "WideNet$Account")) hx hb hts hown hKK hJ 0 (by decide) (hts _ hw_336) rfl hin rfl (by decide +kernel) rfl rfl (Nat.le_of_ble_eq_true rfl) dd_V_init_9 (fun H locs hJ => ?_)
  have hJ : xs_J D A s ((h0, .inr (9, [.ref q1, .null, .int 0])) :: (([] : va_W) ++ [(rq, .inl (ca 6, 3, .inr (.inr (.inr (.inr f)))))] ++ [(q1, .inl (ca 5, 3, .inr (.inr (.inr (.inr fun _ => none)))))])) _ _ := hJ
  refine lv_aload_n hx hb dd_V_init_12 rfl (lv_at hl 0 rfl) ?_
  refine xk_new_F hx hb hts hown (hts _ hw_269) (hts _ hw_32) (hts _ hw_3) hKK hA hJ (Nat.le_trans (by decide) hRc) (Nat.le_trans (by decide) hRs) dd_V_init_13 (fun q2 H hJ => ?_)
  refine lv_dup hx hb dd_V_init_16 rfl ?_
  refine xk_call (X := fun ad => xk_F ca ad (o + 2)) hA hJ (va_runIN (As := []) (rest := [.ref q2, .ref h0]) ⟨hx, hb, hml, hown, hts⟩ (xn_F l D ca q2 H.size (o + 2)) ⟨va_cnB 0 hts (xs_good hw_35) rfl rfl rfl (hKK.2.1 _ hn_270 rfl) (hts _ hw_3) yd_F_init ⟨Nat.le_trans (by decide) hRf, Nat.le_trans (by decide) hRl⟩, rfl, (hts _ hw_34)⟩ ⟨xk_blind, fun U h1 h2 => ⟨rfl, xk_pre hKK hJ h1 h2⟩⟩ rfl rfl hl.1 rfl (lv_room (Nat.le_of_ble_eq_true rfl)) dd_V_init_17 ⟨Nat.le_trans (by decide) hRc, Nat.le_trans (by decide) hRs⟩) (fun ad2 H locs e2 hJ => ?_)
  have hJ : xs_J D A s ((h0, .inr (9, [.ref q1, .null, .int 0])) :: (([] : va_W) ++ [(rq, .inl (ca 6, 3, .inr (.inr (.inr (.inr f)))))] ++ [(q1, .inl (ca 5, 3, .inr (.inr (.inr (.inr fun _ => none)))))] ++ xk_F ca ad2 (o + 2))) _ _ := hJ
  refine xk_putF_V (ty := .object "WideNet$Frame") hx hb hts hown hKK hJ 1 (by decide) (hts _ hw_338) rfl hin rfl (by decide +kernel) rfl rfl (Nat.le_of_ble_eq_true rfl) dd_V_init_20 (fun H locs hJ => ?_)
  have hJ : xs_J D A s ((h0, .inr (9, [.ref q1, .ref q2, .int 0])) :: (([] : va_W) ++ [(rq, .inl (ca 6, 3, .inr (.inr (.inr (.inr f)))))] ++ [(q1, .inl (ca 5, 3, .inr (.inr (.inr (.inr fun _ => none)))))] ++ xk_F ca ad2 (o + 2))) _ _ := hJ
  refine lv_aload_n hx hb dd_V_init_23 rfl (lv_at hl 0 rfl) ?_
  refine lv_iconst (v := 0) hx hb dd_V_init_24 rfl ?_
  refine xk_put_V (ty := .int) hx hb hts hown hKK hJ 2 (by decide) (hts _ hw_339) rfl (by decide +kernel) rfl rfl (Nat.le_of_ble_eq_true rfl) dd_V_init_25 (fun H locs hJ => ?_)
  have hJ : xs_J D A s ((h0, .inr (9, [.ref q1, .ref q2, .int 0])) :: (([] : va_W) ++ [(rq, .inl (ca 6, 3, .inr (.inr (.inr (.inr f)))))] ++ [(q1, .inl (ca 5, 3, .inr (.inr (.inr (.inr fun _ => none)))))] ++ xk_F ca ad2 (o + 2))) _ _ := hJ
  have w1 : ∀ (r k : Nat), k + r = 3 → ∀ (ad : Nat → Nat) (g : Nat → Option Nat) (cells slots : Nat) (H : Heap) (locs : List Loc) (ls : Array Slot), cells = 3 + 16 * k → slots = 30 + 233 * k → (∀ j, j < k → g j = some (ad (o + 4 + 16 * j))) → xs_J D A s ((h0, .inr (9, [.ref q1, .ref q2, .int 0])) :: (rq, .inl (ca 6, 3, .inr (.inr (.inr (.inr f))))) :: (q1, .inl (ca 5, 3, .inr (.inr (.inr (.inr g))))) :: (xk_F ca ad2 (o + 2) ++ xk_Ks ca ad (o + 4) mk k)) H locs → lv_has ls 3 [(0, .ref h0), (1, .ref rq), (2, .int (nI k))] → W p l e R s m args below meth c H locs cells slots Q (F0 m 30 ls []) := by
    intro r
    induction r with
    | zero =>
      intro k hk ad g cells slots H locs ls hc hs hf hJ hl
      obtain rfl : k = 3 := by omega
      obtain rfl : cells = 51 := by omega
      obtain rfl : slots = 729 := by omega
      refine lv_iload_n hx hb dd_V_init_30 rfl (lv_at hl 2 rfl) ?_
      refine lv_iconst (v := 3) hx hb dd_V_init_31 rfl ?_
      refine lv_icmp_ge hx hb dd_V_init_32 rfl (fun _ => ?_) (fun b => absurd (show (3 : Int32) ≤ nI 3 by decide) b)
      obtain ⟨adF, g0, g1, g3, g4⟩ : ∃ adF : Nat → Nat, adF o = h0 ∧ adF (o + 1) = q1 ∧ (∀ i, o + 2 ≤ i → i < o + 4 → adF i = ad2 i) ∧ ∀ i, o + 4 ≤ i → adF i = ad i := ⟨fun i => if i < o + 1 then h0 else if i < o + 2 then q1 else if i < o + 4 then ad2 i else ad i, if_pos (by omega), by show (if _ then _ else _) = _; rw [if_neg (by omega), if_pos (by omega)], fun i h1 h2 => by show (if _ then _ else _) = _; rw [if_neg (by omega), if_neg (by omega), if_pos (by omega)], fun i h1 => by show (if _ then _ else _) = _; rw [if_neg (by omega), if_neg (by omega), if_neg (by omega)]⟩
      have hJ2 := xk_fn (pre := [(h0, .inr (9, [.ref q1, .ref q2, .int 0])), (rq, .inl (ca 6, 3, .inr (.inr (.inr (.inr f)))))]) (g := fun j => some (adF (o + 4 + 16 * (j % 3)))) hJ (fun j hj => by
        show g j = some (adF (o + 4 + 16 * (j % 3)))
        rw [Nat.mod_eq_of_lt hj, hf j hj, g4 _ (by omega)])
      have hJ3 := xk_drop1 hJ2
      refine hret (ad := adF) g0 ?_ dd_V_init_58
      unfold xk_V
      rw [g0, g1, show adF (o + 2) = q2 from (g3 _ (by omega) (by omega)).trans e2, xk_F_cg (ad := adF) (ad2 := ad2) (fun i h1 h2 => g3 i h1 (by omega)), xk_Ks_cg (ad := adF) (ad2 := ad) (fun i h1 h2 => g4 i h1)]
      exact hJ3
    | succ r ih =>
      intro k hk ad g cells slots H locs ls hc hs hf hJ hl
      refine lv_iload_n hx hb dd_V_init_30 rfl (lv_at hl 2 rfl) ?_
      refine lv_iconst (v := 3) hx hb dd_V_init_31 rfl ?_
      refine lv_icmp_ge hx hb dd_V_init_32 rfl (fun b => absurd b (show ¬ (3 : Int32) ≤ nI k from nI_ge (b := 3) (by omega) (by decide))) (fun _ => ?_)
      refine lv_aload_n hx hb dd_V_init_35 rfl (lv_at hl 0 rfl) ?_
      refine xk_get_V (v := .ref q1) hx hb hts hown hKK hJ 0 (by decide) (hts _ hw_336) rfl dd_V_init_36 ?_
      refine lv_iload_n hx hb dd_V_init_39 rfl (lv_at hl 2 rfl) ?_
      refine xk_new_K hx hb hts hown (hts _ hw_267) (hts _ hw_271) (hts _ hw_12) hKK hA hJ (by omega) (by omega) dd_V_init_40 (fun q H hJ => ?_)
      refine lv_dup hx hb dd_V_init_43 rfl ?_
      refine lv_iload_n hx hb dd_V_init_44 rfl (lv_at hl 2 rfl) ?_
      refine lv_aload_n hx hb dd_V_init_45 rfl (lv_at hl 1 rfl) ?_
      refine lv_iload_n hx hb dd_V_init_46 rfl (lv_at hl 2 rfl) ?_
      refine xk_ald_M (v := mk k) hx hb hKK hJ (by rw [nI_clamp (show k < 2 ^ 31 by omega)]; exact hfm k (by omega)) (nI_in (by omega) (by decide)) dd_V_init_47 ?_
      refine xk_call (X := fun ad => xk_K ca ad (o + 4 + 16 * k) ((nI k)) ((mk k))) hA hJ (va_runI (As := [.int (nI k), .ref (mk k)]) (rest := [.ref q, .int (nI k), .ref q1]) ⟨hx, hb, hml, hown, hts⟩ (xn_K l D ca q H.size (o + 4 + 16 * k) ((nI k)) ((mk k))) ⟨callB_of 2 hts (xs_good hw_274) rfl rfl rfl (hts _ hw_12) (hts _ hw_272) yd_K_init ⟨Nat.le_trans (by decide) hRf, Nat.le_trans (by decide) hRl⟩, rfl, (hts _ hw_273)⟩ ⟨xk_blind, fun U h1 h2 => ⟨rfl, xk_pre hKK hJ h1 h2⟩⟩ rfl rfl hl.1 rfl (lv_room (Nat.le_of_ble_eq_true rfl)) dd_V_init_48 ⟨by omega, by omega⟩) (fun ad' H locs e hJ => ?_)
      have hv : ∃ vs, (xk_K ca ad' (o + 4 + 16 * k) (nI k) (mk k))[0]? = some (q, .inr (8, vs)) := ⟨_, by rw [← e]; rfl⟩
      refine xk_ast2_K hx hb hKK hJ hv (nI_in (by omega) (by decide)) dd_V_init_51 (fun H locs hJ => ?_)
      refine lv_iinc (k := 2) (v := nI k + 1) hx hb dd_V_init_52 hl rfl rfl (by decide) rfl (fun ls hl => ?_)
      have hl : lv_has ls 3 [(2, .int (nI k + 1)), (0, .ref h0), (1, .ref rq)] := hl
      rw [nI_1] at hl
      refine lv_goto hx hb dd_V_init_55 rfl ?_
      rw [nI_clamp (show k < 2 ^ 31 by omega)] at hJ
      refine ih (k + 1) (by omega) (fun i => if i < o + 4 + 16 * k then ad i else ad' i) (va_up g k (some q)) _ _ H locs ls (by omega) (by omega) (fun j hj => ?_) ?_ (lv_sub hl [1, 2, 0] rfl)
      · by_cases hjk : j = k
        · subst hjk
          rw [xs_up_eq, ← e]
          exact congrArg some (if_neg (by omega)).symm
        · rw [xs_up_ne hjk, hf j (by omega)]
          exact congrArg some (if_pos (by omega)).symm
      · rw [show xk_Ks ca (fun i => if i < o + 4 + 16 * k then ad i else ad' i) (o + 4) mk (k + 1) = xk_Ks ca (fun i => if i < o + 4 + 16 * k then ad i else ad' i) (o + 4) mk k ++ xk_K ca (fun i => if i < o + 4 + 16 * k then ad i else ad' i) (o + 4 + 16 * k) (nI k) (mk k) from rfl, xk_Ks_cg (ad := (fun i => if i < o + 4 + 16 * k then ad i else ad' i)) (ad2 := ad) (fun i h1 h2 => if_pos (by omega)), xk_K_cg (ad := (fun i => if i < o + 4 + 16 * k then ad i else ad' i)) (ad2 := ad') (fun i h1 h2 => if_neg (by omega)), ← List.append_assoc]
        exact hJ
  refine lv_iconst (v := 0) hx hb dd_V_init_28 rfl ?_
  refine lv_istore_n hx hb dd_V_init_29 rfl hl (by decide) rfl (fun ls hl => ?_)
  have hl : lv_has ls 3 [(2, .int 0), (0, .ref h0), (1, .ref rq)] := hl
  have hJ : xs_J D A s ((h0, .inr (9, [.ref q1, .ref q2, .int 0])) :: (rq, .inl (ca 6, 3, .inr (.inr (.inr (.inr f))))) :: (q1, .inl (ca 5, 3, .inr (.inr (.inr (.inr fun _ => none))))) :: (xk_F ca ad2 (o + 2) ++ xk_Ks ca (fun _ => 0) (o + 4) mk 0)) H locs := by
    rw [show xk_Ks ca (fun _ => 0) (o + 4) mk 0 = [] from rfl, List.append_nil]
    exact hJ
  exact w1 3 0 rfl (fun _ => 0) (fun _ => none) _ _ _ _ _ rfl rfl (fun j hj => absurd hj (Nat.not_lt_zero _)) hJ (lv_sub hl [1, 2, 0] rfl)
