def xk_F (ca : Nat → ClassId) (ad : Nat → Nat) (o : Nat) : va_W := (ad o, .inr (2, [.ref (ad (o + 1)), .int 0, .int 3])) :: (([] : va_W) ++ [(ad (o + 1), .inl (ca 0, 24, .inl fun _ => 0))])
theorem xk_F_cg {ca : Nat → ClassId} {ad ad2 : Nat → Nat} {o : Nat} (h : ∀ i, o ≤ i → i < o + 2 → ad i = ad2 i) : xk_F ca ad o = xk_F ca ad2 o := by
  unfold xk_F
  rw [h o (by omega) (by omega), h (o + 1) (by omega) (by omega)]
theorem yd_F_init : (yy_F_init).cls ≠ "java/lang/invoke/MethodHandle" ∧ (yy_F_init).cls ≠ "java/lang/invoke/VarHandle" ∧ (parseMethodDescriptor (yy_F_init).desc).map (fun d => d.parameters.length) = some 0 := by decide +kernel
set_option maxHeartbeats 4000000 in
set_option maxRecDepth 100000 in
theorem xn_F (l : Launch) (D : va_G) (ca : Nat → ClassId) (h0 sz o : Nat) : Met l yy_F_init ws_F_init { frames := 1, cells := 1, slots := 24, locals := 24 } (va_Pc [.ref h0] (xs_PreC D ca [(h0, .inr (2, [.null, .int 0, .int 0]))] sz)) (va_Qv (fun ad : Nat → Nat => ad o = h0) (fun ad t => va_P D xs_cl (xk_F ca ad o) t.heap ∧ va_D (va_A [(h0, .inr (2, [.null, .int 0, .int 0]))] sz) (xk_F ca ad o)) (va_A [(h0, .inr (2, [.null, .int 0, .int 0]))] sz)) 1 24 (va_A [(h0, .inr (2, [.null, .int 0, .int 0]))] sz) := by
  refine xn_v (by decide) (Nat.le_of_ble_eq_true rfl) ?_
  intro p e s m args below meth c R A Q ls hx hb hml hown hts hRf hRl hRc hRs hin hKK hA hJ hl hret
  have hin : meth.name = "<init>" := hin
  have hl : lv_has ls 1 [(0, .ref h0)] := hl
  refine lv_aload_n hx hb dd_F_init_0 rfl (lv_at hl 0 rfl) ?_
  refine W.objInit hx hb hown (hts _ hw_36) (hts _ hw_22) (hts _ hw_23) rfl (by rw [hml]; exact hl.1) rfl dd_F_init_1 (Nat.le_trans (by decide) hRf) (Nat.le_trans (Nat.le_of_ble_eq_true rfl) hRl) ?_
  refine W.eq (g2 := F0 m 4 ls []) rfl ?_
  refine lv_aload_n hx hb dd_F_init_4 rfl (lv_at hl 0 rfl) ?_
  refine lv_bipush (v := 24) hx hb dd_F_init_5 rfl ?_
  refine xk_newI hx hb (hts _ hw_57) hKK hA hJ 24 (by decide) (by decide) (by decide) (Nat.le_trans (by decide) hRc) (Nat.le_trans (by decide) hRs) dd_F_init_7 (fun q1 H hJ => ?_)
  have hJ : xs_J D A s ((h0, .inr (2, [.null, .int 0, .int 0])) :: (([] : va_W) ++ [(q1, .inl (ca 0, 24, .inl fun _ => 0))])) _ _ := hJ
  refine xk_putF_F (ty := .array (.int)) hx hb hts hown hKK hJ 0 (by decide) (hts _ hw_37) rfl hin rfl (by decide +kernel) rfl rfl (Nat.le_of_ble_eq_true rfl) dd_F_init_9 (fun H locs hJ => ?_)
  have hJ : xs_J D A s ((h0, .inr (2, [.ref q1, .int 0, .int 0])) :: (([] : va_W) ++ [(q1, .inl (ca 0, 24, .inl fun _ => 0))])) _ _ := hJ
  refine lv_aload_n hx hb dd_F_init_12 rfl (lv_at hl 0 rfl) ?_
  refine lv_iconst (v := 0) hx hb dd_F_init_13 rfl ?_
  refine xk_put_F (ty := .int) hx hb hts hown hKK hJ 1 (by decide) (hts _ hw_43) rfl (by decide +kernel) rfl rfl (Nat.le_of_ble_eq_true rfl) dd_F_init_14 (fun H locs hJ => ?_)
  have hJ : xs_J D A s ((h0, .inr (2, [.ref q1, .int 0, .int 0])) :: (([] : va_W) ++ [(q1, .inl (ca 0, 24, .inl fun _ => 0))])) _ _ := hJ
  refine lv_aload_n hx hb dd_F_init_17 rfl (lv_at hl 0 rfl) ?_
  refine lv_iconst (v := 3) hx hb dd_F_init_18 rfl ?_
  refine xk_put_F (ty := .int) hx hb hts hown hKK hJ 2 (by decide) (hts _ hw_48) rfl (by decide +kernel) rfl rfl (Nat.le_of_ble_eq_true rfl) dd_F_init_19 (fun H locs hJ => ?_)
  have hJ : xs_J D A s ((h0, .inr (2, [.ref q1, .int 0, .int 3])) :: (([] : va_W) ++ [(q1, .inl (ca 0, 24, .inl fun _ => 0))])) _ _ := hJ
  obtain ⟨ad, g0, g1⟩ : ∃ ad : Nat → Nat, ad o = h0 ∧ ad (o + 1) = q1 := ⟨fun i => if i < o + 1 then h0 else q1, if_pos (by omega), by show (if _ then _ else _) = _; rw [if_neg (by omega)]⟩
  have eX : xk_F ca ad o = ((h0, .inr (2, [.ref q1, .int 0, .int 3])) :: (([] : va_W) ++ [(q1, .inl (ca 0, 24, .inl fun _ => 0))])) := by
    unfold xk_F
    rw [g0, g1]
  exact hret (ad := ad) g0 (by rw [eX]; exact hJ) dd_F_init_22
def xk_C (ca : Nat → ClassId) (ad : Nat → Nat) (o : Nat) : va_W := (ad o, .inr (3, [.ref (ad (o + 1))])) :: (([] : va_W) ++ [(ad (o + 1), .inl (ca 0, 44, .inl fun _ => 0))])
theorem xk_C_cg {ca : Nat → ClassId} {ad ad2 : Nat → Nat} {o : Nat} (h : ∀ i, o ≤ i → i < o + 2 → ad i = ad2 i) : xk_C ca ad o = xk_C ca ad2 o := by
  unfold xk_C
  rw [h o (by omega) (by omega), h (o + 1) (by omega) (by omega)]
theorem yd_C_init : (yy_C_init).cls ≠ "java/lang/invoke/MethodHandle" ∧ (yy_C_init).cls ≠ "java/lang/invoke/VarHandle" ∧ (parseMethodDescriptor (yy_C_init).desc).map (fun d => d.parameters.length) = some 0 := by decide +kernel
set_option maxHeartbeats 4000000 in
set_option maxRecDepth 100000 in
theorem xn_C (l : Launch) (D : va_G) (ca : Nat → ClassId) (h0 sz o : Nat) : Met l yy_C_init ws_C_init { frames := 1, cells := 1, slots := 44, locals := 24 } (va_Pc [.ref h0] (xs_PreC D ca [(h0, .inr (3, [.null]))] sz)) (va_Qv (fun ad : Nat → Nat => ad o = h0) (fun ad t => va_P D xs_cl (xk_C ca ad o) t.heap ∧ va_D (va_A [(h0, .inr (3, [.null]))] sz) (xk_C ca ad o)) (va_A [(h0, .inr (3, [.null]))] sz)) 1 44 (va_A [(h0, .inr (3, [.null]))] sz) := by
  refine xn_v (by decide) (Nat.le_of_ble_eq_true rfl) ?_
  intro p e s m args below meth c R A Q ls hx hb hml hown hts hRf hRl hRc hRs hin hKK hA hJ hl hret
  have hin : meth.name = "<init>" := hin
  have hl : lv_has ls 1 [(0, .ref h0)] := hl
  refine lv_aload_n hx hb dd_C_init_0 rfl (lv_at hl 0 rfl) ?_
  refine W.objInit hx hb hown (hts _ hw_87) (hts _ hw_22) (hts _ hw_23) rfl (by rw [hml]; exact hl.1) rfl dd_C_init_1 (Nat.le_trans (by decide) hRf) (Nat.le_trans (Nat.le_of_ble_eq_true rfl) hRl) ?_
  refine W.eq (g2 := F0 m 4 ls []) rfl ?_
  refine lv_aload_n hx hb dd_C_init_4 rfl (lv_at hl 0 rfl) ?_
  refine lv_bipush (v := 44) hx hb dd_C_init_5 rfl ?_
  refine xk_newI hx hb (hts _ hw_57) hKK hA hJ 44 (by decide) (by decide) (by decide) (Nat.le_trans (by decide) hRc) (Nat.le_trans (by decide) hRs) dd_C_init_7 (fun q1 H hJ => ?_)
  have hJ : xs_J D A s ((h0, .inr (3, [.null])) :: (([] : va_W) ++ [(q1, .inl (ca 0, 44, .inl fun _ => 0))])) _ _ := hJ
  refine xk_putF_C (ty := .array (.int)) hx hb hts hown hKK hJ 0 (by decide) (hts _ hw_88) rfl hin rfl (by decide +kernel) rfl rfl (Nat.le_of_ble_eq_true rfl) dd_C_init_9 (fun H locs hJ => ?_)
  have hJ : xs_J D A s ((h0, .inr (3, [.ref q1])) :: (([] : va_W) ++ [(q1, .inl (ca 0, 44, .inl fun _ => 0))])) _ _ := hJ
  obtain ⟨ad, g0, g1⟩ : ∃ ad : Nat → Nat, ad o = h0 ∧ ad (o + 1) = q1 := ⟨fun i => if i < o + 1 then h0 else q1, if_pos (by omega), by show (if _ then _ else _) = _; rw [if_neg (by omega)]⟩
  have eX : xk_C ca ad o = ((h0, .inr (3, [.ref q1])) :: (([] : va_W) ++ [(q1, .inl (ca 0, 44, .inl fun _ => 0))])) := by
    unfold xk_C
    rw [g0, g1]
  exact hret (ad := ad) g0 (by rw [eX]; exact hJ) dd_C_init_12
def xk_M (ca : Nat → ClassId) (ad : Nat → Nat) (o : Nat) : va_W := (ad o, .inr (4, [.ref (ad (o + 1)), .ref (ad (o + 3)), .ref (ad (o + 4)), .ref (ad (o + 5))])) :: (([] : va_W) ++ xk_C ca ad (o + 1) ++ [(ad (o + 3), .inl (ca 0, 16, .inl fun _ => 0))] ++ [(ad (o + 4), .inl (ca 0, 16, .inl fun _ => 0))] ++ [(ad (o + 5), .inl (ca 0, 16, .inl fun _ => 0))])
theorem xk_M_cg {ca : Nat → ClassId} {ad ad2 : Nat → Nat} {o : Nat} (h : ∀ i, o ≤ i → i < o + 6 → ad i = ad2 i) : xk_M ca ad o = xk_M ca ad2 o := by
  unfold xk_M
  rw [xk_C_cg (fun i h1 h2 => h i (by omega) (by omega)), h o (by omega) (by omega), h (o + 1) (by omega) (by omega), h (o + 3) (by omega) (by omega), h (o + 4) (by omega) (by omega), h (o + 5) (by omega) (by omega)]
theorem yd_M_init : (yy_M_init).cls ≠ "java/lang/invoke/MethodHandle" ∧ (yy_M_init).cls ≠ "java/lang/invoke/VarHandle" ∧ (parseMethodDescriptor (yy_M_init).desc).map (fun d => d.parameters.length) = some 0 := by decide +kernel
set_option maxHeartbeats 4000000 in
set_option maxRecDepth 100000 in
theorem xn_M (l : Launch) (D : va_G) (ca : Nat → ClassId) (h0 sz o : Nat) : Met l yy_M_init ws_M_init { frames := 2, cells := 5, slots := 93, locals := 44 } (va_Pc [.ref h0] (xs_PreC D ca [(h0, .inr (4, [.null, .null, .null, .null]))] sz)) (va_Qv (fun ad : Nat → Nat => ad o = h0) (fun ad t => va_P D xs_cl (xk_M ca ad o) t.heap ∧ va_D (va_A [(h0, .inr (4, [.null, .null, .null, .null]))] sz) (xk_M ca ad o)) (va_A [(h0, .inr (4, [.null, .null, .null, .null]))] sz)) 5 93 (va_A [(h0, .inr (4, [.null, .null, .null, .null]))] sz) := by
  refine xn_v (by decide) (Nat.le_of_ble_eq_true rfl) ?_
  intro p e s m args below meth c R A Q ls hx hb hml hown hts hRf hRl hRc hRs hin hKK hA hJ hl hret
  have hin : meth.name = "<init>" := hin
  have hl : lv_has ls 1 [(0, .ref h0)] := hl
  refine lv_aload_n hx hb dd_M_init_0 rfl (lv_at hl 0 rfl) ?_
  refine W.objInit hx hb hown (hts _ hw_81) (hts _ hw_22) (hts _ hw_23) rfl (by rw [hml]; exact hl.1) rfl dd_M_init_1 (Nat.le_trans (by decide) hRf) (Nat.le_trans (Nat.le_of_ble_eq_true rfl) hRl) ?_
  refine W.eq (g2 := F0 m 4 ls []) rfl ?_
  refine lv_aload_n hx hb dd_M_init_4 rfl (lv_at hl 0 rfl) ?_
  refine xk_new_C hx hb hts hown (hts _ hw_82) (hts _ hw_83) (hts _ hw_5) hKK hA hJ (Nat.le_trans (by decide) hRc) (Nat.le_trans (by decide) hRs) dd_M_init_5 (fun q1 H hJ => ?_)
  refine lv_dup hx hb dd_M_init_8 rfl ?_
  refine xk_call (X := fun ad => xk_C ca ad (o + 1)) hA hJ (va_runIN (As := []) (rest := [.ref q1, .ref h0]) ⟨hx, hb, hml, hown, hts⟩ (xn_C l D ca q1 H.size (o + 1)) ⟨va_cnB 0 hts (xs_good hw_86) rfl rfl rfl (hKK.2.1 _ hn_84 rfl) (hts _ hw_5) yd_C_init ⟨Nat.le_trans (by decide) hRf, Nat.le_trans (by decide) hRl⟩, rfl, (hts _ hw_85)⟩ ⟨xk_blind, fun U h1 h2 => ⟨rfl, xk_pre hKK hJ h1 h2⟩⟩ rfl rfl hl.1 rfl (lv_room (Nat.le_of_ble_eq_true rfl)) dd_M_init_9 ⟨Nat.le_trans (by decide) hRc, Nat.le_trans (by decide) hRs⟩) (fun ad1 H locs e1 hJ => ?_)
  have hJ : xs_J D A s ((h0, .inr (4, [.null, .null, .null, .null])) :: (([] : va_W) ++ xk_C ca ad1 (o + 1))) _ _ := hJ
  refine xk_putF_M (ty := .object "WideNet$Cipher") hx hb hts hown hKK hJ 0 (by decide) (hts _ hw_92) rfl hin rfl (by decide +kernel) rfl rfl (Nat.le_of_ble_eq_true rfl) dd_M_init_12 (fun H locs hJ => ?_)
  have hJ : xs_J D A s ((h0, .inr (4, [.ref q1, .null, .null, .null])) :: (([] : va_W) ++ xk_C ca ad1 (o + 1))) _ _ := hJ
  refine lv_aload_n hx hb dd_M_init_15 rfl (lv_at hl 0 rfl) ?_
  refine lv_bipush (v := 16) hx hb dd_M_init_16 rfl ?_
  refine xk_newI hx hb (hts _ hw_57) hKK hA hJ 16 (by decide) (by decide) (by decide) (Nat.le_trans (by decide) hRc) (Nat.le_trans (by decide) hRs) dd_M_init_18 (fun q3 H hJ => ?_)
  have hJ : xs_J D A s ((h0, .inr (4, [.ref q1, .null, .null, .null])) :: (([] : va_W) ++ xk_C ca ad1 (o + 1) ++ [(q3, .inl (ca 0, 16, .inl fun _ => 0))])) _ _ := hJ
  refine xk_putF_M (ty := .array (.int)) hx hb hts hown hKK hJ 1 (by decide) (hts _ hw_95) rfl hin rfl (by decide +kernel) rfl rfl (Nat.le_of_ble_eq_true rfl) dd_M_init_20 (fun H locs hJ => ?_)
  have hJ : xs_J D A s ((h0, .inr (4, [.ref q1, .ref q3, .null, .null])) :: (([] : va_W) ++ xk_C ca ad1 (o + 1) ++ [(q3, .inl (ca 0, 16, .inl fun _ => 0))])) _ _ := hJ
  refine lv_aload_n hx hb dd_M_init_23 rfl (lv_at hl 0 rfl) ?_
  refine lv_bipush (v := 16) hx hb dd_M_init_24 rfl ?_
  refine xk_newI hx hb (hts _ hw_57) hKK hA hJ 16 (by decide) (by decide) (by decide) (Nat.le_trans (by decide) hRc) (Nat.le_trans (by decide) hRs) dd_M_init_26 (fun q4 H hJ => ?_)
  have hJ : xs_J D A s ((h0, .inr (4, [.ref q1, .ref q3, .null, .null])) :: (([] : va_W) ++ xk_C ca ad1 (o + 1) ++ [(q3, .inl (ca 0, 16, .inl fun _ => 0))] ++ [(q4, .inl (ca 0, 16, .inl fun _ => 0))])) _ _ := hJ
  refine xk_putF_M (ty := .array (.int)) hx hb hts hown hKK hJ 2 (by decide) (hts _ hw_96) rfl hin rfl (by decide +kernel) rfl rfl (Nat.le_of_ble_eq_true rfl) dd_M_init_28 (fun H locs hJ => ?_)
  have hJ : xs_J D A s ((h0, .inr (4, [.ref q1, .ref q3, .ref q4, .null])) :: (([] : va_W) ++ xk_C ca ad1 (o + 1) ++ [(q3, .inl (ca 0, 16, .inl fun _ => 0))] ++ [(q4, .inl (ca 0, 16, .inl fun _ => 0))])) _ _ := hJ
  refine lv_aload_n hx hb dd_M_init_31 rfl (lv_at hl 0 rfl) ?_
  refine lv_bipush (v := 16) hx hb dd_M_init_32 rfl ?_
  refine xk_newI hx hb (hts _ hw_57) hKK hA hJ 16 (by decide) (by decide) (by decide) (Nat.le_trans (by decide) hRc) (Nat.le_trans (by decide) hRs) dd_M_init_34 (fun q5 H hJ => ?_)
  have hJ : xs_J D A s ((h0, .inr (4, [.ref q1, .ref q3, .ref q4, .null])) :: (([] : va_W) ++ xk_C ca ad1 (o + 1) ++ [(q3, .inl (ca 0, 16, .inl fun _ => 0))] ++ [(q4, .inl (ca 0, 16, .inl fun _ => 0))] ++ [(q5, .inl (ca 0, 16, .inl fun _ => 0))])) _ _ := hJ
  refine xk_putF_M (ty := .array (.int)) hx hb hts hown hKK hJ 3 (by decide) (hts _ hw_97) rfl hin rfl (by decide +kernel) rfl rfl (Nat.le_of_ble_eq_true rfl) dd_M_init_36 (fun H locs hJ => ?_)
  have hJ : xs_J D A s ((h0, .inr (4, [.ref q1, .ref q3, .ref q4, .ref q5])) :: (([] : va_W) ++ xk_C ca ad1 (o + 1) ++ [(q3, .inl (ca 0, 16, .inl fun _ => 0))] ++ [(q4, .inl (ca 0, 16, .inl fun _ => 0))] ++ [(q5, .inl (ca 0, 16, .inl fun _ => 0))])) _ _ := hJ
  obtain ⟨ad, g0, g1, g3, g4, g5⟩ : ∃ ad : Nat → Nat, ad o = h0 ∧ (∀ i, o + 1 ≤ i → i < o + 3 → ad i = ad1 i) ∧ ad (o + 3) = q3 ∧ ad (o + 4) = q4 ∧ ad (o + 5) = q5 := ⟨fun i => if i < o + 1 then h0 else if i < o + 3 then ad1 i else if i < o + 4 then q3 else if i < o + 5 then q4 else q5, if_pos (by omega), fun i h1 h2 => by show (if _ then _ else _) = _; rw [if_neg (by omega), if_pos (by omega)], by show (if _ then _ else _) = _; rw [if_neg (by omega), if_neg (by omega), if_pos (by omega)], by show (if _ then _ else _) = _; rw [if_neg (by omega), if_neg (by omega), if_neg (by omega), if_pos (by omega)], by show (if _ then _ else _) = _; rw [if_neg (by omega), if_neg (by omega), if_neg (by omega), if_neg (by omega)]⟩
  have eX : xk_M ca ad o = ((h0, .inr (4, [.ref q1, .ref q3, .ref q4, .ref q5])) :: (([] : va_W) ++ xk_C ca ad1 (o + 1) ++ [(q3, .inl (ca 0, 16, .inl fun _ => 0))] ++ [(q4, .inl (ca 0, 16, .inl fun _ => 0))] ++ [(q5, .inl (ca 0, 16, .inl fun _ => 0))])) := by
    unfold xk_M
    rw [xk_C_cg (fun i h1 h2 => g1 i h1 (by omega)), g0, g1 (o + 1) (by omega) (by omega), e1, g3, g4, g5]
  exact hret (ad := ad) g0 (by rw [eX]; exact hJ) dd_M_init_39
def xk_S (ca : Nat → ClassId) (ad : Nat → Nat) (o : Nat) : va_W := (ad o, .inr (5, [.ref (ad (o + 1)), .ref (ad (o + 7)), .ref (ad (o + 9)), .ref (ad (o + 10)), .int 0])) :: (([] : va_W) ++ xk_M ca ad (o + 1) ++ xk_C ca ad (o + 7) ++ [(ad (o + 9), .inl (ca 0, 40, .inl fun _ => 0))] ++ [(ad (o + 10), .inl (ca 0, 16, .inl fun _ => 0))])
theorem xk_S_cg {ca : Nat → ClassId} {ad ad2 : Nat → Nat} {o : Nat} (h : ∀ i, o ≤ i → i < o + 11 → ad i = ad2 i) : xk_S ca ad o = xk_S ca ad2 o := by
  unfold xk_S
  rw [xk_M_cg (fun i h1 h2 => h i (by omega) (by omega)), xk_C_cg (fun i h1 h2 => h i (by omega) (by omega)), h o (by omega) (by omega), h (o + 1) (by omega) (by omega), h (o + 7) (by omega) (by omega), h (o + 9) (by omega) (by omega), h (o + 10) (by omega) (by omega)]
theorem yd_S_init : (yy_S_init).cls ≠ "java/lang/invoke/MethodHandle" ∧ (yy_S_init).cls ≠ "java/lang/invoke/VarHandle" ∧ (parseMethodDescriptor (yy_S_init).desc).map (fun d => d.parameters.length) = some 0 := by decide +kernel
set_option maxHeartbeats 4000000 in
set_option maxRecDepth 100000 in
theorem xn_S (l : Launch) (D : va_G) (ca : Nat → ClassId) (h0 sz o : Nat) : Met l yy_S_init ws_S_init { frames := 3, cells := 10, slots := 198, locals := 64 } (va_Pc [.ref h0] (xs_PreC D ca [(h0, .inr (5, [.null, .null, .null, .null, .int 0]))] sz)) (va_Qv (fun ad : Nat → Nat => ad o = h0) (fun ad t => va_P D xs_cl (xk_S ca ad o) t.heap ∧ va_D (va_A [(h0, .inr (5, [.null, .null, .null, .null, .int 0]))] sz) (xk_S ca ad o)) (va_A [(h0, .inr (5, [.null, .null, .null, .null, .int 0]))] sz)) 10 198 (va_A [(h0, .inr (5, [.null, .null, .null, .null, .int 0]))] sz) := by
  refine xn_v (by decide) (Nat.le_of_ble_eq_true rfl) ?_
  intro p e s m args below meth c R A Q ls hx hb hml hown hts hRf hRl hRc hRs hin hKK hA hJ hl hret
  have hin : meth.name = "<init>" := hin
  have hl : lv_has ls 1 [(0, .ref h0)] := hl
  refine lv_aload_n hx hb dd_S_init_0 rfl (lv_at hl 0 rfl) ?_
  refine W.objInit hx hb hown (hts _ hw_157) (hts _ hw_22) (hts _ hw_23) rfl (by rw [hml]; exact hl.1) rfl dd_S_init_1 (Nat.le_trans (by decide) hRf) (Nat.le_trans (Nat.le_of_ble_eq_true rfl) hRl) ?_
  refine W.eq (g2 := F0 m 4 ls []) rfl ?_
  refine lv_aload_n hx hb dd_S_init_4 rfl (lv_at hl 0 rfl) ?_
  refine xk_new_M hx hb hts hown (hts _ hw_158) (hts _ hw_77) (hts _ hw_4) hKK hA hJ (Nat.le_trans (by decide) hRc) (Nat.le_trans (by decide) hRs) dd_S_init_5 (fun q1 H hJ => ?_)
  refine lv_dup hx hb dd_S_init_8 rfl ?_
  refine xk_call (X := fun ad => xk_M ca ad (o + 1)) hA hJ (va_runIN (As := []) (rest := [.ref q1, .ref h0]) ⟨hx, hb, hml, hown, hts⟩ (xn_M l D ca q1 H.size (o + 1)) ⟨va_cnB 0 hts (xs_good hw_80) rfl rfl rfl (hKK.2.1 _ hn_159 rfl) (hts _ hw_4) yd_M_init ⟨Nat.le_trans (by decide) hRf, Nat.le_trans (by decide) hRl⟩, rfl, (hts _ hw_79)⟩ ⟨xk_blind, fun U h1 h2 => ⟨rfl, xk_pre hKK hJ h1 h2⟩⟩ rfl rfl hl.1 rfl (lv_room (Nat.le_of_ble_eq_true rfl)) dd_S_init_9 ⟨Nat.le_trans (by decide) hRc, Nat.le_trans (by decide) hRs⟩) (fun ad1 H locs e1 hJ => ?_)
  have hJ : xs_J D A s ((h0, .inr (5, [.null, .null, .null, .null, .int 0])) :: (([] : va_W) ++ xk_M ca ad1 (o + 1))) _ _ := hJ
  refine xk_putF_S (ty := .object "WideNet$Mac") hx hb hts hown hKK hJ 0 (by decide) (hts _ hw_162) rfl hin rfl (by decide +kernel) rfl rfl (Nat.le_of_ble_eq_true rfl) dd_S_init_12 (fun H locs hJ => ?_)
  have hJ : xs_J D A s ((h0, .inr (5, [.ref q1, .null, .null, .null, .int 0])) :: (([] : va_W) ++ xk_M ca ad1 (o + 1))) _ _ := hJ
  refine lv_aload_n hx hb dd_S_init_15 rfl (lv_at hl 0 rfl) ?_
  refine xk_new_C hx hb hts hown (hts _ hw_160) (hts _ hw_83) (hts _ hw_5) hKK hA hJ (Nat.le_trans (by decide) hRc) (Nat.le_trans (by decide) hRs) dd_S_init_16 (fun q7 H hJ => ?_)
  refine lv_dup hx hb dd_S_init_19 rfl ?_
  refine xk_call (X := fun ad => xk_C ca ad (o + 7)) hA hJ (va_runIN (As := []) (rest := [.ref q7, .ref h0]) ⟨hx, hb, hml, hown, hts⟩ (xn_C l D ca q7 H.size (o + 7)) ⟨va_cnB 0 hts (xs_good hw_86) rfl rfl rfl (hKK.2.1 _ hn_161 rfl) (hts _ hw_5) yd_C_init ⟨Nat.le_trans (by decide) hRf, Nat.le_trans (by decide) hRl⟩, rfl, (hts _ hw_85)⟩ ⟨xk_blind, fun U h1 h2 => ⟨rfl, xk_pre hKK hJ h1 h2⟩⟩ rfl rfl hl.1 rfl (lv_room (Nat.le_of_ble_eq_true rfl)) dd_S_init_20 ⟨Nat.le_trans (by decide) hRc, Nat.le_trans (by decide) hRs⟩) (fun ad7 H locs e7 hJ => ?_)
  have hJ : xs_J D A s ((h0, .inr (5, [.ref q1, .null, .null, .null, .int 0])) :: (([] : va_W) ++ xk_M ca ad1 (o + 1) ++ xk_C ca ad7 (o + 7))) _ _ := hJ
  refine xk_putF_S (ty := .object "WideNet$Cipher") hx hb hts hown hKK hJ 1 (by decide) (hts _ hw_163) rfl hin rfl (by decide +kernel) rfl rfl (Nat.le_of_ble_eq_true rfl) dd_S_init_23 (fun H locs hJ => ?_)
  have hJ : xs_J D A s ((h0, .inr (5, [.ref q1, .ref q7, .null, .null, .int 0])) :: (([] : va_W) ++ xk_M ca ad1 (o + 1) ++ xk_C ca ad7 (o + 7))) _ _ := hJ
  refine lv_aload_n hx hb dd_S_init_26 rfl (lv_at hl 0 rfl) ?_
  refine lv_bipush (v := 40) hx hb dd_S_init_27 rfl ?_
  refine xk_newI hx hb (hts _ hw_57) hKK hA hJ 40 (by decide) (by decide) (by decide) (Nat.le_trans (by decide) hRc) (Nat.le_trans (by decide) hRs) dd_S_init_29 (fun q9 H hJ => ?_)
  have hJ : xs_J D A s ((h0, .inr (5, [.ref q1, .ref q7, .null, .null, .int 0])) :: (([] : va_W) ++ xk_M ca ad1 (o + 1) ++ xk_C ca ad7 (o + 7) ++ [(q9, .inl (ca 0, 40, .inl fun _ => 0))])) _ _ := hJ
  refine xk_putF_S (ty := .array (.int)) hx hb hts hown hKK hJ 2 (by decide) (hts _ hw_164) rfl hin rfl (by decide +kernel) rfl rfl (Nat.le_of_ble_eq_true rfl) dd_S_init_31 (fun H locs hJ => ?_)
  have hJ : xs_J D A s ((h0, .inr (5, [.ref q1, .ref q7, .ref q9, .null, .int 0])) :: (([] : va_W) ++ xk_M ca ad1 (o + 1) ++ xk_C ca ad7 (o + 7) ++ [(q9, .inl (ca 0, 40, .inl fun _ => 0))])) _ _ := hJ
  refine lv_aload_n hx hb dd_S_init_34 rfl (lv_at hl 0 rfl) ?_
  refine lv_bipush (v := 16) hx hb dd_S_init_35 rfl ?_
  refine xk_newI hx hb (hts _ hw_57) hKK hA hJ 16 (by decide) (by decide) (by decide) (Nat.le_trans (by decide) hRc) (Nat.le_trans (by decide) hRs) dd_S_init_37 (fun q10 H hJ => ?_)
  have hJ : xs_J D A s ((h0, .inr (5, [.ref q1, .ref q7, .ref q9, .null, .int 0])) :: (([] : va_W) ++ xk_M ca ad1 (o + 1) ++ xk_C ca ad7 (o + 7) ++ [(q9, .inl (ca 0, 40, .inl fun _ => 0))] ++ [(q10, .inl (ca 0, 16, .inl fun _ => 0))])) _ _ := hJ
  refine xk_putF_S (ty := .array (.int)) hx hb hts hown hKK hJ 3 (by decide) (hts _ hw_165) rfl hin rfl (by decide +kernel) rfl rfl (Nat.le_of_ble_eq_true rfl) dd_S_init_39 (fun H locs hJ => ?_)
  have hJ : xs_J D A s ((h0, .inr (5, [.ref q1, .ref q7, .ref q9, .ref q10, .int 0])) :: (([] : va_W) ++ xk_M ca ad1 (o + 1) ++ xk_C ca ad7 (o + 7) ++ [(q9, .inl (ca 0, 40, .inl fun _ => 0))] ++ [(q10, .inl (ca 0, 16, .inl fun _ => 0))])) _ _ := hJ
  refine lv_aload_n hx hb dd_S_init_42 rfl (lv_at hl 0 rfl) ?_
  refine lv_iconst (v := 0) hx hb dd_S_init_43 rfl ?_
  refine xk_put_S (ty := .int) hx hb hts hown hKK hJ 4 (by decide) (hts _ hw_166) rfl (by decide +kernel) rfl rfl (Nat.le_of_ble_eq_true rfl) dd_S_init_44 (fun H locs hJ => ?_)
  have hJ : xs_J D A s ((h0, .inr (5, [.ref q1, .ref q7, .ref q9, .ref q10, .int 0])) :: (([] : va_W) ++ xk_M ca ad1 (o + 1) ++ xk_C ca ad7 (o + 7) ++ [(q9, .inl (ca 0, 40, .inl fun _ => 0))] ++ [(q10, .inl (ca 0, 16, .inl fun _ => 0))])) _ _ := hJ
  obtain ⟨ad, g0, g1, g7, g9, g10⟩ : ∃ ad : Nat → Nat, ad o = h0 ∧ (∀ i, o + 1 ≤ i → i < o + 7 → ad i = ad1 i) ∧ (∀ i, o + 7 ≤ i → i < o + 9 → ad i = ad7 i) ∧ ad (o + 9) = q9 ∧ ad (o + 10) = q10 := ⟨fun i => if i < o + 1 then h0 else if i < o + 7 then ad1 i else if i < o + 9 then ad7 i else if i < o + 10 then q9 else q10, if_pos (by omega), fun i h1 h2 => by show (if _ then _ else _) = _; rw [if_neg (by omega), if_pos (by omega)], fun i h1 h2 => by show (if _ then _ else _) = _; rw [if_neg (by omega), if_neg (by omega), if_pos (by omega)], by show (if _ then _ else _) = _; rw [if_neg (by omega), if_neg (by omega), if_neg (by omega), if_pos (by omega)], by show (if _ then _ else _) = _; rw [if_neg (by omega), if_neg (by omega), if_neg (by omega), if_neg (by omega)]⟩
  have eX : xk_S ca ad o = ((h0, .inr (5, [.ref q1, .ref q7, .ref q9, .ref q10, .int 0])) :: (([] : va_W) ++ xk_M ca ad1 (o + 1) ++ xk_C ca ad7 (o + 7) ++ [(q9, .inl (ca 0, 40, .inl fun _ => 0))] ++ [(q10, .inl (ca 0, 16, .inl fun _ => 0))])) := by
    unfold xk_S
    rw [xk_M_cg (fun i h1 h2 => g1 i h1 (by omega)), xk_C_cg (fun i h1 h2 => g7 i h1 (by omega)), g0, g1 (o + 1) (by omega) (by omega), e1, g7 (o + 7) (by omega) (by omega), e7, g9, g10]
  exact hret (ad := ad) g0 (by rw [eX]; exact hJ) dd_S_init_47
def xk_I (ca : Nat → ClassId) (ad : Nat → Nat) (o : Nat) : va_W := (ad o, .inr (6, [.ref (ad (o + 1)), .int 0])) :: (([] : va_W) ++ [(ad (o + 1), .inl (ca 2, 4, .inr (.inl fun _ => 0)))])
theorem xk_I_cg {ca : Nat → ClassId} {ad ad2 : Nat → Nat} {o : Nat} (h : ∀ i, o ≤ i → i < o + 2 → ad i = ad2 i) : xk_I ca ad o = xk_I ca ad2 o := by
  unfold xk_I
  rw [h o (by omega) (by omega), h (o + 1) (by omega) (by omega)]
theorem yd_I_init : (yy_I_init).cls ≠ "java/lang/invoke/MethodHandle" ∧ (yy_I_init).cls ≠ "java/lang/invoke/VarHandle" ∧ (parseMethodDescriptor (yy_I_init).desc).map (fun d => d.parameters.length) = some 0 := by decide +kernel
set_option maxHeartbeats 4000000 in
set_option maxRecDepth 100000 in
theorem xn_I (l : Launch) (D : va_G) (ca : Nat → ClassId) (h0 sz o : Nat) : Met l yy_I_init ws_I_init { frames := 1, cells := 1, slots := 4, locals := 24 } (va_Pc [.ref h0] (xs_PreC D ca [(h0, .inr (6, [.null, .int 0]))] sz)) (va_Qv (fun ad : Nat → Nat => ad o = h0) (fun ad t => va_P D xs_cl (xk_I ca ad o) t.heap ∧ va_D (va_A [(h0, .inr (6, [.null, .int 0]))] sz) (xk_I ca ad o)) (va_A [(h0, .inr (6, [.null, .int 0]))] sz)) 1 4 (va_A [(h0, .inr (6, [.null, .int 0]))] sz) := by
  refine xn_v (by decide) (Nat.le_of_ble_eq_true rfl) ?_
  intro p e s m args below meth c R A Q ls hx hb hml hown hts hRf hRl hRc hRs hin hKK hA hJ hl hret
  have hin : meth.name = "<init>" := hin
  have hl : lv_has ls 1 [(0, .ref h0)] := hl
  refine lv_aload_n hx hb dd_I_init_0 rfl (lv_at hl 0 rfl) ?_
  refine W.objInit hx hb hown (hts _ hw_186) (hts _ hw_22) (hts _ hw_23) rfl (by rw [hml]; exact hl.1) rfl dd_I_init_1 (Nat.le_trans (by decide) hRf) (Nat.le_trans (Nat.le_of_ble_eq_true rfl) hRl) ?_
  refine W.eq (g2 := F0 m 4 ls []) rfl ?_
  refine lv_aload_n hx hb dd_I_init_4 rfl (lv_at hl 0 rfl) ?_
  refine lv_iconst (v := 4) hx hb dd_I_init_5 rfl ?_
  refine xk_newJ hx hb (hts _ hw_195) hKK hA hJ 4 (by decide) (by decide) (by decide) (Nat.le_trans (by decide) hRc) (Nat.le_trans (by decide) hRs) dd_I_init_6 (fun q1 H hJ => ?_)
  have hJ : xs_J D A s ((h0, .inr (6, [.null, .int 0])) :: (([] : va_W) ++ [(q1, .inl (ca 2, 4, .inr (.inl fun _ => 0)))])) _ _ := hJ
  refine xk_putF_I (ty := .array (.long)) hx hb hts hown hKK hJ 0 (by decide) (hts _ hw_187) rfl hin rfl (by decide +kernel) rfl rfl (Nat.le_of_ble_eq_true rfl) dd_I_init_8 (fun H locs hJ => ?_)
  have hJ : xs_J D A s ((h0, .inr (6, [.ref q1, .int 0])) :: (([] : va_W) ++ [(q1, .inl (ca 2, 4, .inr (.inl fun _ => 0)))])) _ _ := hJ
  refine lv_aload_n hx hb dd_I_init_11 rfl (lv_at hl 0 rfl) ?_
  refine lv_iconst (v := 0) hx hb dd_I_init_12 rfl ?_
  refine xk_put_I (ty := .int) hx hb hts hown hKK hJ 1 (by decide) (hts _ hw_188) rfl (by decide +kernel) rfl rfl (Nat.le_of_ble_eq_true rfl) dd_I_init_13 (fun H locs hJ => ?_)
  have hJ : xs_J D A s ((h0, .inr (6, [.ref q1, .int 0])) :: (([] : va_W) ++ [(q1, .inl (ca 2, 4, .inr (.inl fun _ => 0)))])) _ _ := hJ
  obtain ⟨ad, g0, g1⟩ : ∃ ad : Nat → Nat, ad o = h0 ∧ ad (o + 1) = q1 := ⟨fun i => if i < o + 1 then h0 else q1, if_pos (by omega), by show (if _ then _ else _) = _; rw [if_neg (by omega)]⟩
  have eX : xk_I ca ad o = ((h0, .inr (6, [.ref q1, .int 0])) :: (([] : va_W) ++ [(q1, .inl (ca 2, 4, .inr (.inl fun _ => 0)))])) := by
    unfold xk_I
    rw [g0, g1]
  exact hret (ad := ad) g0 (by rw [eX]; exact hJ) dd_I_init_16
def xk_D (ca : Nat → ClassId) (ad : Nat → Nat) (o : Nat) (n1 : Int32) (r2 : Nat) : va_W := (ad o, .inr (7, [.int n1, .ref r2, .ref (ad (o + 1)), .ref (ad (o + 12)), .ref (ad (o + 14)), .ref (ad (o + 16)), .int 0, .int 0, .int 0, .int 0, .int (-1), .int 0, .int 0, .int 0, .int 0, .int 0, .int 0, .int 0])) :: (([] : va_W) ++ xk_S ca ad (o + 1) ++ xk_I ca ad (o + 12) ++ xk_F ca ad (o + 14) ++ xk_F ca ad (o + 16))
theorem xk_D_cg {ca : Nat → ClassId} {ad ad2 : Nat → Nat} {o : Nat} {n1 : Int32} {r2 : Nat} (h : ∀ i, o ≤ i → i < o + 18 → ad i = ad2 i) : xk_D ca ad o n1 r2 = xk_D ca ad2 o n1 r2 := by
  unfold xk_D
  rw [xk_S_cg (fun i h1 h2 => h i (by omega) (by omega)), xk_I_cg (fun i h1 h2 => h i (by omega) (by omega)), xk_F_cg (fun i h1 h2 => h i (by omega) (by omega)), xk_F_cg (fun i h1 h2 => h i (by omega) (by omega)), h o (by omega) (by omega), h (o + 1) (by omega) (by omega), h (o + 12) (by omega) (by omega), h (o + 14) (by omega) (by omega), h (o + 16) (by omega) (by omega)]
theorem yd_D_init : (yy_D_init).cls ≠ "java/lang/invoke/MethodHandle" ∧ (yy_D_init).cls ≠ "java/lang/invoke/VarHandle" ∧ (parseMethodDescriptor (yy_D_init).desc).map (fun d => d.parameters.length) = some 2 := by decide +kernel
set_option maxHeartbeats 4000000 in
set_option maxRecDepth 100000 in
theorem xn_D (l : Launch) (D : va_G) (ca : Nat → ClassId) (h0 sz o : Nat) (n1 : Int32) (r2 : Nat) : Met l yy_D_init ws_D_init { frames := 4, cells := 17, slots := 263, locals := 84 } (va_Pc [.ref h0, .int n1, .ref r2] (xs_PreC D ca [(h0, .inr (7, [.int 0, .null, .null, .null, .null, .null, .int 0, .int 0, .int 0, .int 0, .int 0, .int 0, .int 0, .int 0, .int 0, .int 0, .int 0, .int 0]))] sz)) (va_Qv (fun ad : Nat → Nat => ad o = h0) (fun ad t => va_P D xs_cl (xk_D ca ad o n1 r2) t.heap ∧ va_D (va_A [(h0, .inr (7, [.int 0, .null, .null, .null, .null, .null, .int 0, .int 0, .int 0, .int 0, .int 0, .int 0, .int 0, .int 0, .int 0, .int 0, .int 0, .int 0]))] sz) (xk_D ca ad o n1 r2)) (va_A [(h0, .inr (7, [.int 0, .null, .null, .null, .null, .null, .int 0, .int 0, .int 0, .int 0, .int 0, .int 0, .int 0, .int 0, .int 0, .int 0, .int 0, .int 0]))] sz)) 17 263 (va_A [(h0, .inr (7, [.int 0, .null, .null, .null, .null, .null, .int 0, .int 0, .int 0, .int 0, .int 0, .int 0, .int 0, .int 0, .int 0, .int 0, .int 0, .int 0]))] sz) := by
  refine xn_v (by decide) (Nat.le_of_ble_eq_true rfl) ?_
  intro p e s m args below meth c R A Q ls hx hb hml hown hts hRf hRl hRc hRs hin hKK hA hJ hl hret
  have hin : meth.name = "<init>" := hin
  have hl : lv_has ls 3 [(0, .ref h0), (1, .int n1), (2, .ref r2)] := hl
  refine lv_aload_n hx hb dd_D_init_0 rfl (lv_at hl 0 rfl) ?_
  refine W.objInit hx hb hown (hts _ hw_151) (hts _ hw_22) (hts _ hw_23) rfl (by rw [hml]; exact hl.1) rfl dd_D_init_1 (Nat.le_trans (by decide) hRf) (Nat.le_trans (Nat.le_of_ble_eq_true rfl) hRl) ?_
  refine W.eq (g2 := F0 m 4 ls []) rfl ?_
  refine lv_aload_n hx hb dd_D_init_4 rfl (lv_at hl 0 rfl) ?_
  refine xk_new_S hx hb hts hown (hts _ hw_152) (hts _ hw_153) (hts _ hw_9) hKK hA hJ (Nat.le_trans (by decide) hRc) (Nat.le_trans (by decide) hRs) dd_D_init_5 (fun q1 H hJ => ?_)
  refine lv_dup hx hb dd_D_init_8 rfl ?_
  refine xk_call (X := fun ad => xk_S ca ad (o + 1)) hA hJ (va_runIN (As := []) (rest := [.ref q1, .ref h0]) ⟨hx, hb, hml, hown, hts⟩ (xn_S l D ca q1 H.size (o + 1)) ⟨va_cnB 0 hts (xs_good hw_156) rfl rfl rfl (hKK.2.1 _ hn_154 rfl) (hts _ hw_9) yd_S_init ⟨Nat.le_trans (by decide) hRf, Nat.le_trans (by decide) hRl⟩, rfl, (hts _ hw_155)⟩ ⟨xk_blind, fun U h1 h2 => ⟨rfl, xk_pre hKK hJ h1 h2⟩⟩ rfl rfl hl.1 rfl (lv_room (Nat.le_of_ble_eq_true rfl)) dd_D_init_9 ⟨Nat.le_trans (by decide) hRc, Nat.le_trans (by decide) hRs⟩) (fun ad1 H locs e1 hJ => ?_)
  have hJ : xs_J D A s ((h0, .inr (7, [.int 0, .null, .null, .null, .null, .null, .int 0, .int 0, .int 0, .int 0, .int 0, .int 0, .int 0, .int 0, .int 0, .int 0, .int 0, .int 0])) :: (([] : va_W) ++ xk_S ca ad1 (o + 1))) _ _ := hJ
  refine xk_putF_D (ty := .object "WideNet$Session") hx hb hts hown hKK hJ 2 (by decide) (hts _ hw_200) rfl hin rfl (by decide +kernel) rfl rfl (Nat.le_of_ble_eq_true rfl) dd_D_init_12 (fun H locs hJ => ?_)
  have hJ : xs_J D A s ((h0, .inr (7, [.int 0, .null, .ref q1, .null, .null, .null, .int 0, .int 0, .int 0, .int 0, .int 0, .int 0, .int 0, .int 0, .int 0, .int 0, .int 0, .int 0])) :: (([] : va_W) ++ xk_S ca ad1 (o + 1))) _ _ := hJ
  refine lv_aload_n hx hb dd_D_init_15 rfl (lv_at hl 0 rfl) ?_
  refine xk_new_I hx hb hts hown (hts _ hw_181) (hts _ hw_182) (hts _ hw_10) hKK hA hJ (Nat.le_trans (by decide) hRc) (Nat.le_trans (by decide) hRs) dd_D_init_16 (fun q12 H hJ => ?_)
  refine lv_dup hx hb dd_D_init_19 rfl ?_
  refine xk_call (X := fun ad => xk_I ca ad (o + 12)) hA hJ (va_runIN (As := []) (rest := [.ref q12, .ref h0]) ⟨hx, hb, hml, hown, hts⟩ (xn_I l D ca q12 H.size (o + 12)) ⟨va_cnB 0 hts (xs_good hw_185) rfl rfl rfl (hKK.2.1 _ hn_183 rfl) (hts _ hw_10) yd_I_init ⟨Nat.le_trans (by decide) hRf, Nat.le_trans (by decide) hRl⟩, rfl, (hts _ hw_184)⟩ ⟨xk_blind, fun U h1 h2 => ⟨rfl, xk_pre hKK hJ h1 h2⟩⟩ rfl rfl hl.1 rfl (lv_room (Nat.le_of_ble_eq_true rfl)) dd_D_init_20 ⟨Nat.le_trans (by decide) hRc, Nat.le_trans (by decide) hRs⟩) (fun ad12 H locs e12 hJ => ?_)
  have hJ : xs_J D A s ((h0, .inr (7, [.int 0, .null, .ref q1, .null, .null, .null, .int 0, .int 0, .int 0, .int 0, .int 0, .int 0, .int 0, .int 0, .int 0, .int 0, .int 0, .int 0])) :: (([] : va_W) ++ xk_S ca ad1 (o + 1) ++ xk_I ca ad12 (o + 12))) _ _ := hJ
  refine xk_putF_D (ty := .object "WideNet$Inbox") hx hb hts hown hKK hJ 3 (by decide) (hts _ hw_201) rfl hin rfl (by decide +kernel) rfl rfl (Nat.le_of_ble_eq_true rfl) dd_D_init_23 (fun H locs hJ => ?_)
  have hJ : xs_J D A s ((h0, .inr (7, [.int 0, .null, .ref q1, .ref q12, .null, .null, .int 0, .int 0, .int 0, .int 0, .int 0, .int 0, .int 0, .int 0, .int 0, .int 0, .int 0, .int 0])) :: (([] : va_W) ++ xk_S ca ad1 (o + 1) ++ xk_I ca ad12 (o + 12))) _ _ := hJ
  refine lv_aload_n hx hb dd_D_init_26 rfl (lv_at hl 0 rfl) ?_
  refine xk_new_F hx hb hts hown (hts _ hw_196) (hts _ hw_32) (hts _ hw_3) hKK hA hJ (Nat.le_trans (by decide) hRc) (Nat.le_trans (by decide) hRs) dd_D_init_27 (fun q14 H hJ => ?_)
  refine lv_dup hx hb dd_D_init_30 rfl ?_
  refine xk_call (X := fun ad => xk_F ca ad (o + 14)) hA hJ (va_runIN (As := []) (rest := [.ref q14, .ref h0]) ⟨hx, hb, hml, hown, hts⟩ (xn_F l D ca q14 H.size (o + 14)) ⟨va_cnB 0 hts (xs_good hw_35) rfl rfl rfl (hKK.2.1 _ hn_197 rfl) (hts _ hw_3) yd_F_init ⟨Nat.le_trans (by decide) hRf, Nat.le_trans (by decide) hRl⟩, rfl, (hts _ hw_34)⟩ ⟨xk_blind, fun U h1 h2 => ⟨rfl, xk_pre hKK hJ h1 h2⟩⟩ rfl rfl hl.1 rfl (lv_room (Nat.le_of_ble_eq_true rfl)) dd_D_init_31 ⟨Nat.le_trans (by decide) hRc, Nat.le_trans (by decide) hRs⟩) (fun ad14 H locs e14 hJ => ?_)
  have hJ : xs_J D A s ((h0, .inr (7, [.int 0, .null, .ref q1, .ref q12, .null, .null, .int 0, .int 0, .int 0, .int 0, .int 0, .int 0, .int 0, .int 0, .int 0, .int 0, .int 0, .int 0])) :: (([] : va_W) ++ xk_S ca ad1 (o + 1) ++ xk_I ca ad12 (o + 12) ++ xk_F ca ad14 (o + 14))) _ _ := hJ
  refine xk_putF_D (ty := .object "WideNet$Frame") hx hb hts hown hKK hJ 4 (by decide) (hts _ hw_203) rfl hin rfl (by decide +kernel) rfl rfl (Nat.le_of_ble_eq_true rfl) dd_D_init_34 (fun H locs hJ => ?_)
  have hJ : xs_J D A s ((h0, .inr (7, [.int 0, .null, .ref q1, .ref q12, .ref q14, .null, .int 0, .int 0, .int 0, .int 0, .int 0, .int 0, .int 0, .int 0, .int 0, .int 0, .int 0, .int 0])) :: (([] : va_W) ++ xk_S ca ad1 (o + 1) ++ xk_I ca ad12 (o + 12) ++ xk_F ca ad14 (o + 14))) _ _ := hJ
  refine lv_aload_n hx hb dd_D_init_37 rfl (lv_at hl 0 rfl) ?_
  refine xk_new_F hx hb hts hown (hts _ hw_196) (hts _ hw_32) (hts _ hw_3) hKK hA hJ (Nat.le_trans (by decide) hRc) (Nat.le_trans (by decide) hRs) dd_D_init_38 (fun q16 H hJ => ?_)
  refine lv_dup hx hb dd_D_init_41 rfl ?_
  refine xk_call (X := fun ad => xk_F ca ad (o + 16)) hA hJ (va_runIN (As := []) (rest := [.ref q16, .ref h0]) ⟨hx, hb, hml, hown, hts⟩ (xn_F l D ca q16 H.size (o + 16)) ⟨va_cnB 0 hts (xs_good hw_35) rfl rfl rfl (hKK.2.1 _ hn_197 rfl) (hts _ hw_3) yd_F_init ⟨Nat.le_trans (by decide) hRf, Nat.le_trans (by decide) hRl⟩, rfl, (hts _ hw_34)⟩ ⟨xk_blind, fun U h1 h2 => ⟨rfl, xk_pre hKK hJ h1 h2⟩⟩ rfl rfl hl.1 rfl (lv_room (Nat.le_of_ble_eq_true rfl)) dd_D_init_42 ⟨Nat.le_trans (by decide) hRc, Nat.le_trans (by decide) hRs⟩) (fun ad16 H locs e16 hJ => ?_)
  have hJ : xs_J D A s ((h0, .inr (7, [.int 0, .null, .ref q1, .ref q12, .ref q14, .null, .int 0, .int 0, .int 0, .int 0, .int 0, .int 0, .int 0, .int 0, .int 0, .int 0, .int 0, .int 0])) :: (([] : va_W) ++ xk_S ca ad1 (o + 1) ++ xk_I ca ad12 (o + 12) ++ xk_F ca ad14 (o + 14) ++ xk_F ca ad16 (o + 16))) _ _ := hJ
  refine xk_putF_D (ty := .object "WideNet$Frame") hx hb hts hown hKK hJ 5 (by decide) (hts _ hw_204) rfl hin rfl (by decide +kernel) rfl rfl (Nat.le_of_ble_eq_true rfl) dd_D_init_45 (fun H locs hJ => ?_)
  have hJ : xs_J D A s ((h0, .inr (7, [.int 0, .null, .ref q1, .ref q12, .ref q14, .ref q16, .int 0, .int 0, .int 0, .int 0, .int 0, .int 0, .int 0, .int 0, .int 0, .int 0, .int 0, .int 0])) :: (([] : va_W) ++ xk_S ca ad1 (o + 1) ++ xk_I ca ad12 (o + 12) ++ xk_F ca ad14 (o + 14) ++ xk_F ca ad16 (o + 16))) _ _ := hJ
  refine lv_aload_n hx hb dd_D_init_48 rfl (lv_at hl 0 rfl) ?_
  refine lv_iconst (v := 0) hx hb dd_D_init_49 rfl ?_
  refine xk_put_D (ty := .int) hx hb hts hown hKK hJ 6 (by decide) (hts _ hw_205) rfl (by decide +kernel) rfl rfl (Nat.le_of_ble_eq_true rfl) dd_D_init_50 (fun H locs hJ => ?_)
  have hJ : xs_J D A s ((h0, .inr (7, [.int 0, .null, .ref q1, .ref q12, .ref q14, .ref q16, .int 0, .int 0, .int 0, .int 0, .int 0, .int 0, .int 0, .int 0, .int 0, .int 0, .int 0, .int 0])) :: (([] : va_W) ++ xk_S ca ad1 (o + 1) ++ xk_I ca ad12 (o + 12) ++ xk_F ca ad14 (o + 14) ++ xk_F ca ad16 (o + 16))) _ _ := hJ
  refine lv_aload_n hx hb dd_D_init_53 rfl (lv_at hl 0 rfl) ?_
  refine lv_iconst (v := 0) hx hb dd_D_init_54 rfl ?_
  refine xk_put_D (ty := .int) hx hb hts hown hKK hJ 7 (by decide) (hts _ hw_207) rfl (by decide +kernel) rfl rfl (Nat.le_of_ble_eq_true rfl) dd_D_init_55 (fun H locs hJ => ?_)
  have hJ : xs_J D A s ((h0, .inr (7, [.int 0, .null, .ref q1, .ref q12, .ref q14, .ref q16, .int 0, .int 0, .int 0, .int 0, .int 0, .int 0, .int 0, .int 0, .int 0, .int 0, .int 0, .int 0])) :: (([] : va_W) ++ xk_S ca ad1 (o + 1) ++ xk_I ca ad12 (o + 12) ++ xk_F ca ad14 (o + 14) ++ xk_F ca ad16 (o + 16))) _ _ := hJ
  refine lv_aload_n hx hb dd_D_init_58 rfl (lv_at hl 0 rfl) ?_
  refine lv_iconst (v := 0) hx hb dd_D_init_59 rfl ?_
  refine xk_put_D (ty := .int) hx hb hts hown hKK hJ 8 (by decide) (hts _ hw_209) rfl (by decide +kernel) rfl rfl (Nat.le_of_ble_eq_true rfl) dd_D_init_60 (fun H locs hJ => ?_)
  have hJ : xs_J D A s ((h0, .inr (7, [.int 0, .null, .ref q1, .ref q12, .ref q14, .ref q16, .int 0, .int 0, .int 0, .int 0, .int 0, .int 0, .int 0, .int 0, .int 0, .int 0, .int 0, .int 0])) :: (([] : va_W) ++ xk_S ca ad1 (o + 1) ++ xk_I ca ad12 (o + 12) ++ xk_F ca ad14 (o + 14) ++ xk_F ca ad16 (o + 16))) _ _ := hJ
  refine lv_aload_n hx hb dd_D_init_63 rfl (lv_at hl 0 rfl) ?_
  refine lv_iconst (v := 0) hx hb dd_D_init_64 rfl ?_
  refine xk_put_D (ty := .int) hx hb hts hown hKK hJ 9 (by decide) (hts _ hw_210) rfl (by decide +kernel) rfl rfl (Nat.le_of_ble_eq_true rfl) dd_D_init_65 (fun H locs hJ => ?_)
  have hJ : xs_J D A s ((h0, .inr (7, [.int 0, .null, .ref q1, .ref q12, .ref q14, .ref q16, .int 0, .int 0, .int 0, .int 0, .int 0, .int 0, .int 0, .int 0, .int 0, .int 0, .int 0, .int 0])) :: (([] : va_W) ++ xk_S ca ad1 (o + 1) ++ xk_I ca ad12 (o + 12) ++ xk_F ca ad14 (o + 14) ++ xk_F ca ad16 (o + 16))) _ _ := hJ
  refine lv_aload_n hx hb dd_D_init_68 rfl (lv_at hl 0 rfl) ?_
  refine lv_iconst (v := (-1)) hx hb dd_D_init_69 rfl ?_
  refine xk_put_D (ty := .int) hx hb hts hown hKK hJ 10 (by decide) (hts _ hw_212) rfl (by decide +kernel) rfl rfl (Nat.le_of_ble_eq_true rfl) dd_D_init_70 (fun H locs hJ => ?_)
  have hJ : xs_J D A s ((h0, .inr (7, [.int 0, .null, .ref q1, .ref q12, .ref q14, .ref q16, .int 0, .int 0, .int 0, .int 0, .int (-1), .int 0, .int 0, .int 0, .int 0, .int 0, .int 0, .int 0])) :: (([] : va_W) ++ xk_S ca ad1 (o + 1) ++ xk_I ca ad12 (o + 12) ++ xk_F ca ad14 (o + 14) ++ xk_F ca ad16 (o + 16))) _ _ := hJ
  refine lv_aload_n hx hb dd_D_init_73 rfl (lv_at hl 0 rfl) ?_
  refine lv_iconst (v := 0) hx hb dd_D_init_74 rfl ?_
  refine xk_put_D (ty := .boolean) hx hb hts hown hKK hJ 11 (by decide) (hts _ hw_213) rfl (by decide +kernel) rfl rfl (Nat.le_of_ble_eq_true rfl) dd_D_init_75 (fun H locs hJ => ?_)
  have hJ : xs_J D A s ((h0, .inr (7, [.int 0, .null, .ref q1, .ref q12, .ref q14, .ref q16, .int 0, .int 0, .int 0, .int 0, .int (-1), .int 0, .int 0, .int 0, .int 0, .int 0, .int 0, .int 0])) :: (([] : va_W) ++ xk_S ca ad1 (o + 1) ++ xk_I ca ad12 (o + 12) ++ xk_F ca ad14 (o + 14) ++ xk_F ca ad16 (o + 16))) _ _ := hJ
  refine lv_aload_n hx hb dd_D_init_78 rfl (lv_at hl 0 rfl) ?_
  refine lv_iconst (v := 0) hx hb dd_D_init_79 rfl ?_
  refine xk_put_D (ty := .int) hx hb hts hown hKK hJ 12 (by decide) (hts _ hw_215) rfl (by decide +kernel) rfl rfl (Nat.le_of_ble_eq_true rfl) dd_D_init_80 (fun H locs hJ => ?_)
  have hJ : xs_J D A s ((h0, .inr (7, [.int 0, .null, .ref q1, .ref q12, .ref q14, .ref q16, .int 0, .int 0, .int 0, .int 0, .int (-1), .int 0, .int 0, .int 0, .int 0, .int 0, .int 0, .int 0])) :: (([] : va_W) ++ xk_S ca ad1 (o + 1) ++ xk_I ca ad12 (o + 12) ++ xk_F ca ad14 (o + 14) ++ xk_F ca ad16 (o + 16))) _ _ := hJ
  refine lv_aload_n hx hb dd_D_init_83 rfl (lv_at hl 0 rfl) ?_
  refine lv_iconst (v := 0) hx hb dd_D_init_84 rfl ?_
  refine xk_put_D (ty := .int) hx hb hts hown hKK hJ 13 (by decide) (hts _ hw_216) rfl (by decide +kernel) rfl rfl (Nat.le_of_ble_eq_true rfl) dd_D_init_85 (fun H locs hJ => ?_)
  have hJ : xs_J D A s ((h0, .inr (7, [.int 0, .null, .ref q1, .ref q12, .ref q14, .ref q16, .int 0, .int 0, .int 0, .int 0, .int (-1), .int 0, .int 0, .int 0, .int 0, .int 0, .int 0, .int 0])) :: (([] : va_W) ++ xk_S ca ad1 (o + 1) ++ xk_I ca ad12 (o + 12) ++ xk_F ca ad14 (o + 14) ++ xk_F ca ad16 (o + 16))) _ _ := hJ
  refine lv_aload_n hx hb dd_D_init_88 rfl (lv_at hl 0 rfl) ?_
  refine lv_iconst (v := 0) hx hb dd_D_init_89 rfl ?_
  refine xk_put_D (ty := .boolean) hx hb hts hown hKK hJ 14 (by decide) (hts _ hw_217) rfl (by decide +kernel) rfl rfl (Nat.le_of_ble_eq_true rfl) dd_D_init_90 (fun H locs hJ => ?_)
  have hJ : xs_J D A s ((h0, .inr (7, [.int 0, .null, .ref q1, .ref q12, .ref q14, .ref q16, .int 0, .int 0, .int 0, .int 0, .int (-1), .int 0, .int 0, .int 0, .int 0, .int 0, .int 0, .int 0])) :: (([] : va_W) ++ xk_S ca ad1 (o + 1) ++ xk_I ca ad12 (o + 12) ++ xk_F ca ad14 (o + 14) ++ xk_F ca ad16 (o + 16))) _ _ := hJ
  refine lv_aload_n hx hb dd_D_init_93 rfl (lv_at hl 0 rfl) ?_
  refine lv_iconst (v := 0) hx hb dd_D_init_94 rfl ?_
  refine xk_put_D (ty := .int) hx hb hts hown hKK hJ 15 (by decide) (hts _ hw_218) rfl (by decide +kernel) rfl rfl (Nat.le_of_ble_eq_true rfl) dd_D_init_95 (fun H locs hJ => ?_)
  have hJ : xs_J D A s ((h0, .inr (7, [.int 0, .null, .ref q1, .ref q12, .ref q14, .ref q16, .int 0, .int 0, .int 0, .int 0, .int (-1), .int 0, .int 0, .int 0, .int 0, .int 0, .int 0, .int 0])) :: (([] : va_W) ++ xk_S ca ad1 (o + 1) ++ xk_I ca ad12 (o + 12) ++ xk_F ca ad14 (o + 14) ++ xk_F ca ad16 (o + 16))) _ _ := hJ
  refine lv_aload_n hx hb dd_D_init_98 rfl (lv_at hl 0 rfl) ?_
  refine lv_iconst (v := 0) hx hb dd_D_init_99 rfl ?_
  refine xk_put_D (ty := .int) hx hb hts hown hKK hJ 16 (by decide) (hts _ hw_220) rfl (by decide +kernel) rfl rfl (Nat.le_of_ble_eq_true rfl) dd_D_init_100 (fun H locs hJ => ?_)
  have hJ : xs_J D A s ((h0, .inr (7, [.int 0, .null, .ref q1, .ref q12, .ref q14, .ref q16, .int 0, .int 0, .int 0, .int 0, .int (-1), .int 0, .int 0, .int 0, .int 0, .int 0, .int 0, .int 0])) :: (([] : va_W) ++ xk_S ca ad1 (o + 1) ++ xk_I ca ad12 (o + 12) ++ xk_F ca ad14 (o + 14) ++ xk_F ca ad16 (o + 16))) _ _ := hJ
  refine lv_aload_n hx hb dd_D_init_103 rfl (lv_at hl 0 rfl) ?_
  refine lv_iconst (v := 0) hx hb dd_D_init_104 rfl ?_
  refine xk_put_D (ty := .int) hx hb hts hown hKK hJ 17 (by decide) (hts _ hw_222) rfl (by decide +kernel) rfl rfl (Nat.le_of_ble_eq_true rfl) dd_D_init_105 (fun H locs hJ => ?_)
  have hJ : xs_J D A s ((h0, .inr (7, [.int 0, .null, .ref q1, .ref q12, .ref q14, .ref q16, .int 0, .int 0, .int 0, .int 0, .int (-1), .int 0, .int 0, .int 0, .int 0, .int 0, .int 0, .int 0])) :: (([] : va_W) ++ xk_S ca ad1 (o + 1) ++ xk_I ca ad12 (o + 12) ++ xk_F ca ad14 (o + 14) ++ xk_F ca ad16 (o + 16))) _ _ := hJ
  refine lv_aload_n hx hb dd_D_init_108 rfl (lv_at hl 0 rfl) ?_
  refine lv_iload_n hx hb dd_D_init_109 rfl (lv_at hl 1 rfl) ?_
  refine xk_putF_D (ty := .int) hx hb hts hown hKK hJ 0 (by decide) (hts _ hw_198) rfl hin rfl (by decide +kernel) rfl rfl (Nat.le_of_ble_eq_true rfl) dd_D_init_110 (fun H locs hJ => ?_)
  have hJ : xs_J D A s ((h0, .inr (7, [.int n1, .null, .ref q1, .ref q12, .ref q14, .ref q16, .int 0, .int 0, .int 0, .int 0, .int (-1), .int 0, .int 0, .int 0, .int 0, .int 0, .int 0, .int 0])) :: (([] : va_W) ++ xk_S ca ad1 (o + 1) ++ xk_I ca ad12 (o + 12) ++ xk_F ca ad14 (o + 14) ++ xk_F ca ad16 (o + 16))) _ _ := hJ
  refine lv_aload_n hx hb dd_D_init_113 rfl (lv_at hl 0 rfl) ?_
  refine lv_aload_n hx hb dd_D_init_114 rfl (lv_at hl 2 rfl) ?_
  refine xk_putF_D (ty := .object "WideNet$Mac") hx hb hts hown hKK hJ 1 (by decide) (hts _ hw_199) rfl hin rfl (by decide +kernel) rfl rfl (Nat.le_of_ble_eq_true rfl) dd_D_init_115 (fun H locs hJ => ?_)
  have hJ : xs_J D A s ((h0, .inr (7, [.int n1, .ref r2, .ref q1, .ref q12, .ref q14, .ref q16, .int 0, .int 0, .int 0, .int 0, .int (-1), .int 0, .int 0, .int 0, .int 0, .int 0, .int 0, .int 0])) :: (([] : va_W) ++ xk_S ca ad1 (o + 1) ++ xk_I ca ad12 (o + 12) ++ xk_F ca ad14 (o + 14) ++ xk_F ca ad16 (o + 16))) _ _ := hJ
  obtain ⟨ad, g0, g1, g12, g14, g16⟩ : ∃ ad : Nat → Nat, ad o = h0 ∧ (∀ i, o + 1 ≤ i → i < o + 12 → ad i = ad1 i) ∧ (∀ i, o + 12 ≤ i → i < o + 14 → ad i = ad12 i) ∧ (∀ i, o + 14 ≤ i → i < o + 16 → ad i = ad14 i) ∧ (∀ i, o + 16 ≤ i → i < o + 18 → ad i = ad16 i) := ⟨fun i => if i < o + 1 then h0 else if i < o + 12 then ad1 i else if i < o + 14 then ad12 i else if i < o + 16 then ad14 i else ad16 i, if_pos (by omega), fun i h1 h2 => by show (if _ then _ else _) = _; rw [if_neg (by omega), if_pos (by omega)], fun i h1 h2 => by show (if _ then _ else _) = _; rw [if_neg (by omega), if_neg (by omega), if_pos (by omega)], fun i h1 h2 => by show (if _ then _ else _) = _; rw [if_neg (by omega), if_neg (by omega), if_neg (by omega), if_pos (by omega)], fun i h1 h2 => by show (if _ then _ else _) = _; rw [if_neg (by omega), if_neg (by omega), if_neg (by omega), if_neg (by omega)]⟩
  have eX : xk_D ca ad o n1 r2 = ((h0, .inr (7, [.int n1, .ref r2, .ref q1, .ref q12, .ref q14, .ref q16, .int 0, .int 0, .int 0, .int 0, .int (-1), .int 0, .int 0, .int 0, .int 0, .int 0, .int 0, .int 0])) :: (([] : va_W) ++ xk_S ca ad1 (o + 1) ++ xk_I ca ad12 (o + 12) ++ xk_F ca ad14 (o + 14) ++ xk_F ca ad16 (o + 16))) := by
    unfold xk_D
    rw [xk_S_cg (fun i h1 h2 => g1 i h1 (by omega)), xk_I_cg (fun i h1 h2 => g12 i h1 (by omega)), xk_F_cg (fun i h1 h2 => g14 i h1 (by omega)), xk_F_cg (fun i h1 h2 => g16 i h1 (by omega)), g0, g1 (o + 1) (by omega) (by omega), e1, g12 (o + 12) (by omega) (by omega), e12, g14 (o + 14) (by omega) (by omega), e14, g16 (o + 16) (by omega) (by omega), e16]
  exact hret (ad := ad) g0 (by rw [eX]; exact hJ) dd_D_init_118
def xk_K (ca : Nat → ClassId) (ad : Nat → Nat) (o : Nat) (n1 : Int32) (r2 : Nat) : va_W := (ad o, .inr (8, [.int n1, .ref r2, .ref (ad (o + 1)), .ref (ad (o + 12)), .ref (ad (o + 14)), .ref (ad (o + 15)), .int 0, .int 0, .int 0, .int (-1), .int (-1), .int 0, .int 0, .int 0, .int 0, .int 0])) :: (([] : va_W) ++ xk_S ca ad (o + 1) ++ xk_I ca ad (o + 12) ++ [(ad (o + 14), .inl (ca 2, 4, .inr (.inl fun _ => 0)))] ++ [(ad (o + 15), .inl (ca 0, 4, .inl fun _ => 0))])
theorem xk_K_cg {ca : Nat → ClassId} {ad ad2 : Nat → Nat} {o : Nat} {n1 : Int32} {r2 : Nat} (h : ∀ i, o ≤ i → i < o + 16 → ad i = ad2 i) : xk_K ca ad o n1 r2 = xk_K ca ad2 o n1 r2 := by
  unfold xk_K
  rw [xk_S_cg (fun i h1 h2 => h i (by omega) (by omega)), xk_I_cg (fun i h1 h2 => h i (by omega) (by omega)), h o (by omega) (by omega), h (o + 1) (by omega) (by omega), h (o + 12) (by omega) (by omega), h (o + 14) (by omega) (by omega), h (o + 15) (by omega) (by omega)]
theorem yd_K_init : (yy_K_init).cls ≠ "java/lang/invoke/MethodHandle" ∧ (yy_K_init).cls ≠ "java/lang/invoke/VarHandle" ∧ (parseMethodDescriptor (yy_K_init).desc).map (fun d => d.parameters.length) = some 2 := by decide +kernel
set_option maxHeartbeats 4000000 in
set_option maxRecDepth 100000 in
theorem xn_K (l : Launch) (D : va_G) (ca : Nat → ClassId) (h0 sz o : Nat) (n1 : Int32) (r2 : Nat) : Met l yy_K_init ws_K_init { frames := 4, cells := 15, slots := 217, locals := 84 } (va_Pc [.ref h0, .int n1, .ref r2] (xs_PreC D ca [(h0, .inr (8, [.int 0, .null, .null, .null, .null, .null, .int 0, .int 0, .int 0, .int 0, .int 0, .int 0, .int 0, .int 0, .int 0, .int 0]))] sz)) (va_Qv (fun ad : Nat → Nat => ad o = h0) (fun ad t => va_P D xs_cl (xk_K ca ad o n1 r2) t.heap ∧ va_D (va_A [(h0, .inr (8, [.int 0, .null, .null, .null, .null, .null, .int 0, .int 0, .int 0, .int 0, .int 0, .int 0, .int 0, .int 0, .int 0, .int 0]))] sz) (xk_K ca ad o n1 r2)) (va_A [(h0, .inr (8, [.int 0, .null, .null, .null, .null, .null, .int 0, .int 0, .int 0, .int 0, .int 0, .int 0, .int 0, .int 0, .int 0, .int 0]))] sz)) 15 217 (va_A [(h0, .inr (8, [.int 0, .null, .null, .null, .null, .null, .int 0, .int 0, .int 0, .int 0, .int 0, .int 0, .int 0, .int 0, .int 0, .int 0]))] sz) := by
  refine xn_v (by decide) (Nat.le_of_ble_eq_true rfl) ?_
  intro p e s m args below meth c R A Q ls hx hb hml hown hts hRf hRl hRc hRs hin hKK hA hJ hl hret
  have hin : meth.name = "<init>" := hin
  have hl : lv_has ls 3 [(0, .ref h0), (1, .int n1), (2, .ref r2)] := hl
  refine lv_aload_n hx hb dd_K_init_0 rfl (lv_at hl 0 rfl) ?_
  refine W.objInit hx hb hown (hts _ hw_275) (hts _ hw_22) (hts _ hw_23) rfl (by rw [hml]; exact hl.1) rfl dd_K_init_1 (Nat.le_trans (by decide) hRf) (Nat.le_trans (Nat.le_of_ble_eq_true rfl) hRl) ?_
  refine W.eq (g2 := F0 m 4 ls []) rfl ?_
  refine lv_aload_n hx hb dd_K_init_4 rfl (lv_at hl 0 rfl) ?_
  refine xk_new_S hx hb hts hown (hts _ hw_276) (hts _ hw_153) (hts _ hw_9) hKK hA hJ (Nat.le_trans (by decide) hRc) (Nat.le_trans (by decide) hRs) dd_K_init_5 (fun q1 H hJ => ?_)
  refine lv_dup hx hb dd_K_init_8 rfl ?_
  refine xk_call (X := fun ad => xk_S ca ad (o + 1)) hA hJ (va_runIN (As := []) (rest := [.ref q1, .ref h0]) ⟨hx, hb, hml, hown, hts⟩ (xn_S l D ca q1 H.size (o + 1)) ⟨va_cnB 0 hts (xs_good hw_156) rfl rfl rfl (hKK.2.1 _ hn_277 rfl) (hts _ hw_9) yd_S_init ⟨Nat.le_trans (by decide) hRf, Nat.le_trans (by decide) hRl⟩, rfl, (hts _ hw_155)⟩ ⟨xk_blind, fun U h1 h2 => ⟨rfl, xk_pre hKK hJ h1 h2⟩⟩ rfl rfl hl.1 rfl (lv_room (Nat.le_of_ble_eq_true rfl)) dd_K_init_9 ⟨Nat.le_trans (by decide) hRc, Nat.le_trans (by decide) hRs⟩) (fun ad1 H locs e1 hJ => ?_)
  have hJ : xs_J D A s ((h0, .inr (8, [.int 0, .null, .null, .null, .null, .null, .int 0, .int 0, .int 0, .int 0, .int 0, .int 0, .int 0, .int 0, .int 0, .int 0])) :: (([] : va_W) ++ xk_S ca ad1 (o + 1))) _ _ := hJ
  refine xk_putF_K (ty := .object "WideNet$Session") hx hb hts hown hKK hJ 2 (by decide) (hts _ hw_283) rfl hin rfl (by decide +kernel) rfl rfl (Nat.le_of_ble_eq_true rfl) dd_K_init_12 (fun H locs hJ => ?_)
  have hJ : xs_J D A s ((h0, .inr (8, [.int 0, .null, .ref q1, .null, .null, .null, .int 0, .int 0, .int 0, .int 0, .int 0, .int 0, .int 0, .int 0, .int 0, .int 0])) :: (([] : va_W) ++ xk_S ca ad1 (o + 1))) _ _ := hJ
  refine lv_aload_n hx hb dd_K_init_15 rfl (lv_at hl 0 rfl) ?_
  refine xk_new_I hx hb hts hown (hts _ hw_278) (hts _ hw_182) (hts _ hw_10) hKK hA hJ (Nat.le_trans (by decide) hRc) (Nat.le_trans (by decide) hRs) dd_K_init_16 (fun q12 H hJ => ?_)
  refine lv_dup hx hb dd_K_init_19 rfl ?_
  refine xk_call (X := fun ad => xk_I ca ad (o + 12)) hA hJ (va_runIN (As := []) (rest := [.ref q12, .ref h0]) ⟨hx, hb, hml, hown, hts⟩ (xn_I l D ca q12 H.size (o + 12)) ⟨va_cnB 0 hts (xs_good hw_185) rfl rfl rfl (hKK.2.1 _ hn_279 rfl) (hts _ hw_10) yd_I_init ⟨Nat.le_trans (by decide) hRf, Nat.le_trans (by decide) hRl⟩, rfl, (hts _ hw_184)⟩ ⟨xk_blind, fun U h1 h2 => ⟨rfl, xk_pre hKK hJ h1 h2⟩⟩ rfl rfl hl.1 rfl (lv_room (Nat.le_of_ble_eq_true rfl)) dd_K_init_20 ⟨Nat.le_trans (by decide) hRc, Nat.le_trans (by decide) hRs⟩) (fun ad12 H locs e12 hJ => ?_)
  have hJ : xs_J D A s ((h0, .inr (8, [.int 0, .null, .ref q1, .null, .null, .null, .int 0, .int 0, .int 0, .int 0, .int 0, .int 0, .int 0, .int 0, .int 0, .int 0])) :: (([] : va_W) ++ xk_S ca ad1 (o + 1) ++ xk_I ca ad12 (o + 12))) _ _ := hJ
  refine xk_putF_K (ty := .object "WideNet$Inbox") hx hb hts hown hKK hJ 3 (by decide) (hts _ hw_285) rfl hin rfl (by decide +kernel) rfl rfl (Nat.le_of_ble_eq_true rfl) dd_K_init_23 (fun H locs hJ => ?_)
  have hJ : xs_J D A s ((h0, .inr (8, [.int 0, .null, .ref q1, .ref q12, .null, .null, .int 0, .int 0, .int 0, .int 0, .int 0, .int 0, .int 0, .int 0, .int 0, .int 0])) :: (([] : va_W) ++ xk_S ca ad1 (o + 1) ++ xk_I ca ad12 (o + 12))) _ _ := hJ
  refine lv_aload_n hx hb dd_K_init_26 rfl (lv_at hl 0 rfl) ?_
  refine lv_iconst (v := 4) hx hb dd_K_init_27 rfl ?_
  refine xk_newJ hx hb (hts _ hw_195) hKK hA hJ 4 (by decide) (by decide) (by decide) (Nat.le_trans (by decide) hRc) (Nat.le_trans (by decide) hRs) dd_K_init_28 (fun q14 H hJ => ?_)
  have hJ : xs_J D A s ((h0, .inr (8, [.int 0, .null, .ref q1, .ref q12, .null, .null, .int 0, .int 0, .int 0, .int 0, .int 0, .int 0, .int 0, .int 0, .int 0, .int 0])) :: (([] : va_W) ++ xk_S ca ad1 (o + 1) ++ xk_I ca ad12 (o + 12) ++ [(q14, .inl (ca 2, 4, .inr (.inl fun _ => 0)))])) _ _ := hJ
  refine xk_putF_K (ty := .array (.long)) hx hb hts hown hKK hJ 4 (by decide) (hts _ hw_287) rfl hin rfl (by decide +kernel) rfl rfl (Nat.le_of_ble_eq_true rfl) dd_K_init_30 (fun H locs hJ => ?_)
  have hJ : xs_J D A s ((h0, .inr (8, [.int 0, .null, .ref q1, .ref q12, .ref q14, .null, .int 0, .int 0, .int 0, .int 0, .int 0, .int 0, .int 0, .int 0, .int 0, .int 0])) :: (([] : va_W) ++ xk_S ca ad1 (o + 1) ++ xk_I ca ad12 (o + 12) ++ [(q14, .inl (ca 2, 4, .inr (.inl fun _ => 0)))])) _ _ := hJ
  refine lv_aload_n hx hb dd_K_init_33 rfl (lv_at hl 0 rfl) ?_
  refine lv_iconst (v := 4) hx hb dd_K_init_34 rfl ?_
  refine xk_newI hx hb (hts _ hw_57) hKK hA hJ 4 (by decide) (by decide) (by decide) (Nat.le_trans (by decide) hRc) (Nat.le_trans (by decide) hRs) dd_K_init_35 (fun q15 H hJ => ?_)
  have hJ : xs_J D A s ((h0, .inr (8, [.int 0, .null, .ref q1, .ref q12, .ref q14, .null, .int 0, .int 0, .int 0, .int 0, .int 0, .int 0, .int 0, .int 0, .int 0, .int 0])) :: (([] : va_W) ++ xk_S ca ad1 (o + 1) ++ xk_I ca ad12 (o + 12) ++ [(q14, .inl (ca 2, 4, .inr (.inl fun _ => 0)))] ++ [(q15, .inl (ca 0, 4, .inl fun _ => 0))])) _ _ := hJ
  refine xk_putF_K (ty := .array (.int)) hx hb hts hown hKK hJ 5 (by decide) (hts _ hw_288) rfl hin rfl (by decide +kernel) rfl rfl (Nat.le_of_ble_eq_true rfl) dd_K_init_37 (fun H locs hJ => ?_)
  have hJ : xs_J D A s ((h0, .inr (8, [.int 0, .null, .ref q1, .ref q12, .ref q14, .ref q15, .int 0, .int 0, .int 0, .int 0, .int 0, .int 0, .int 0, .int 0, .int 0, .int 0])) :: (([] : va_W) ++ xk_S ca ad1 (o + 1) ++ xk_I ca ad12 (o + 12) ++ [(q14, .inl (ca 2, 4, .inr (.inl fun _ => 0)))] ++ [(q15, .inl (ca 0, 4, .inl fun _ => 0))])) _ _ := hJ
  refine lv_aload_n hx hb dd_K_init_40 rfl (lv_at hl 0 rfl) ?_
  refine lv_iconst (v := 0) hx hb dd_K_init_41 rfl ?_
  refine xk_put_K (ty := .int) hx hb hts hown hKK hJ 6 (by decide) (hts _ hw_289) rfl (by decide +kernel) rfl rfl (Nat.le_of_ble_eq_true rfl) dd_K_init_42 (fun H locs hJ => ?_)
  have hJ : xs_J D A s ((h0, .inr (8, [.int 0, .null, .ref q1, .ref q12, .ref q14, .ref q15, .int 0, .int 0, .int 0, .int 0, .int 0, .int 0, .int 0, .int 0, .int 0, .int 0])) :: (([] : va_W) ++ xk_S ca ad1 (o + 1) ++ xk_I ca ad12 (o + 12) ++ [(q14, .inl (ca 2, 4, .inr (.inl fun _ => 0)))] ++ [(q15, .inl (ca 0, 4, .inl fun _ => 0))])) _ _ := hJ
  refine lv_aload_n hx hb dd_K_init_45 rfl (lv_at hl 0 rfl) ?_
  refine lv_iconst (v := 0) hx hb dd_K_init_46 rfl ?_
  refine xk_put_K (ty := .int) hx hb hts hown hKK hJ 7 (by decide) (hts _ hw_290) rfl (by decide +kernel) rfl rfl (Nat.le_of_ble_eq_true rfl) dd_K_init_47 (fun H locs hJ => ?_)
  have hJ : xs_J D A s ((h0, .inr (8, [.int 0, .null, .ref q1, .ref q12, .ref q14, .ref q15, .int 0, .int 0, .int 0, .int 0, .int 0, .int 0, .int 0, .int 0, .int 0, .int 0])) :: (([] : va_W) ++ xk_S ca ad1 (o + 1) ++ xk_I ca ad12 (o + 12) ++ [(q14, .inl (ca 2, 4, .inr (.inl fun _ => 0)))] ++ [(q15, .inl (ca 0, 4, .inl fun _ => 0))])) _ _ := hJ
  refine lv_aload_n hx hb dd_K_init_50 rfl (lv_at hl 0 rfl) ?_
  refine lv_iconst (v := 0) hx hb dd_K_init_51 rfl ?_
  refine xk_put_K (ty := .int) hx hb hts hown hKK hJ 8 (by decide) (hts _ hw_293) rfl (by decide +kernel) rfl rfl (Nat.le_of_ble_eq_true rfl) dd_K_init_52 (fun H locs hJ => ?_)
  have hJ : xs_J D A s ((h0, .inr (8, [.int 0, .null, .ref q1, .ref q12, .ref q14, .ref q15, .int 0, .int 0, .int 0, .int 0, .int 0, .int 0, .int 0, .int 0, .int 0, .int 0])) :: (([] : va_W) ++ xk_S ca ad1 (o + 1) ++ xk_I ca ad12 (o + 12) ++ [(q14, .inl (ca 2, 4, .inr (.inl fun _ => 0)))] ++ [(q15, .inl (ca 0, 4, .inl fun _ => 0))])) _ _ := hJ
  refine lv_aload_n hx hb dd_K_init_55 rfl (lv_at hl 0 rfl) ?_
  refine lv_iconst (v := (-1)) hx hb dd_K_init_56 rfl ?_
  refine xk_put_K (ty := .int) hx hb hts hown hKK hJ 9 (by decide) (hts _ hw_294) rfl (by decide +kernel) rfl rfl (Nat.le_of_ble_eq_true rfl) dd_K_init_57 (fun H locs hJ => ?_)
  have hJ : xs_J D A s ((h0, .inr (8, [.int 0, .null, .ref q1, .ref q12, .ref q14, .ref q15, .int 0, .int 0, .int 0, .int (-1), .int 0, .int 0, .int 0, .int 0, .int 0, .int 0])) :: (([] : va_W) ++ xk_S ca ad1 (o + 1) ++ xk_I ca ad12 (o + 12) ++ [(q14, .inl (ca 2, 4, .inr (.inl fun _ => 0)))] ++ [(q15, .inl (ca 0, 4, .inl fun _ => 0))])) _ _ := hJ
  refine lv_aload_n hx hb dd_K_init_60 rfl (lv_at hl 0 rfl) ?_
  refine lv_iconst (v := (-1)) hx hb dd_K_init_61 rfl ?_
  refine xk_put_K (ty := .int) hx hb hts hown hKK hJ 10 (by decide) (hts _ hw_296) rfl (by decide +kernel) rfl rfl (Nat.le_of_ble_eq_true rfl) dd_K_init_62 (fun H locs hJ => ?_)
  have hJ : xs_J D A s ((h0, .inr (8, [.int 0, .null, .ref q1, .ref q12, .ref q14, .ref q15, .int 0, .int 0, .int 0, .int (-1), .int (-1), .int 0, .int 0, .int 0, .int 0, .int 0])) :: (([] : va_W) ++ xk_S ca ad1 (o + 1) ++ xk_I ca ad12 (o + 12) ++ [(q14, .inl (ca 2, 4, .inr (.inl fun _ => 0)))] ++ [(q15, .inl (ca 0, 4, .inl fun _ => 0))])) _ _ := hJ
  refine lv_aload_n hx hb dd_K_init_65 rfl (lv_at hl 0 rfl) ?_
  refine lv_iconst (v := 0) hx hb dd_K_init_66 rfl ?_
  refine xk_put_K (ty := .int) hx hb hts hown hKK hJ 11 (by decide) (hts _ hw_297) rfl (by decide +kernel) rfl rfl (Nat.le_of_ble_eq_true rfl) dd_K_init_67 (fun H locs hJ => ?_)
  have hJ : xs_J D A s ((h0, .inr (8, [.int 0, .null, .ref q1, .ref q12, .ref q14, .ref q15, .int 0, .int 0, .int 0, .int (-1), .int (-1), .int 0, .int 0, .int 0, .int 0, .int 0])) :: (([] : va_W) ++ xk_S ca ad1 (o + 1) ++ xk_I ca ad12 (o + 12) ++ [(q14, .inl (ca 2, 4, .inr (.inl fun _ => 0)))] ++ [(q15, .inl (ca 0, 4, .inl fun _ => 0))])) _ _ := hJ
  refine lv_aload_n hx hb dd_K_init_70 rfl (lv_at hl 0 rfl) ?_
  refine lv_iconst (v := 0) hx hb dd_K_init_71 rfl ?_
  refine xk_put_K (ty := .int) hx hb hts hown hKK hJ 12 (by decide) (hts _ hw_298) rfl (by decide +kernel) rfl rfl (Nat.le_of_ble_eq_true rfl) dd_K_init_72 (fun H locs hJ => ?_)
  have hJ : xs_J D A s ((h0, .inr (8, [.int 0, .null, .ref q1, .ref q12, .ref q14, .ref q15, .int 0, .int 0, .int 0, .int (-1), .int (-1), .int 0, .int 0, .int 0, .int 0, .int 0])) :: (([] : va_W) ++ xk_S ca ad1 (o + 1) ++ xk_I ca ad12 (o + 12) ++ [(q14, .inl (ca 2, 4, .inr (.inl fun _ => 0)))] ++ [(q15, .inl (ca 0, 4, .inl fun _ => 0))])) _ _ := hJ
  refine lv_aload_n hx hb dd_K_init_75 rfl (lv_at hl 0 rfl) ?_
  refine lv_iconst (v := 0) hx hb dd_K_init_76 rfl ?_
  refine xk_put_K (ty := .int) hx hb hts hown hKK hJ 13 (by decide) (hts _ hw_299) rfl (by decide +kernel) rfl rfl (Nat.le_of_ble_eq_true rfl) dd_K_init_77 (fun H locs hJ => ?_)
  have hJ : xs_J D A s ((h0, .inr (8, [.int 0, .null, .ref q1, .ref q12, .ref q14, .ref q15, .int 0, .int 0, .int 0, .int (-1), .int (-1), .int 0, .int 0, .int 0, .int 0, .int 0])) :: (([] : va_W) ++ xk_S ca ad1 (o + 1) ++ xk_I ca ad12 (o + 12) ++ [(q14, .inl (ca 2, 4, .inr (.inl fun _ => 0)))] ++ [(q15, .inl (ca 0, 4, .inl fun _ => 0))])) _ _ := hJ
  refine lv_aload_n hx hb dd_K_init_80 rfl (lv_at hl 0 rfl) ?_
  refine lv_iconst (v := 0) hx hb dd_K_init_81 rfl ?_
  refine xk_put_K (ty := .boolean) hx hb hts hown hKK hJ 14 (by decide) (hts _ hw_301) rfl (by decide +kernel) rfl rfl (Nat.le_of_ble_eq_true rfl) dd_K_init_82 (fun H locs hJ => ?_)
  have hJ : xs_J D A s ((h0, .inr (8, [.int 0, .null, .ref q1, .ref q12, .ref q14, .ref q15, .int 0, .int 0, .int 0, .int (-1), .int (-1), .int 0, .int 0, .int 0, .int 0, .int 0])) :: (([] : va_W) ++ xk_S ca ad1 (o + 1) ++ xk_I ca ad12 (o + 12) ++ [(q14, .inl (ca 2, 4, .inr (.inl fun _ => 0)))] ++ [(q15, .inl (ca 0, 4, .inl fun _ => 0))])) _ _ := hJ
  refine lv_aload_n hx hb dd_K_init_85 rfl (lv_at hl 0 rfl) ?_
  refine lv_iconst (v := 0) hx hb dd_K_init_86 rfl ?_
  refine xk_put_K (ty := .boolean) hx hb hts hown hKK hJ 15 (by decide) (hts _ hw_302) rfl (by decide +kernel) rfl rfl (Nat.le_of_ble_eq_true rfl) dd_K_init_87 (fun H locs hJ => ?_)
  have hJ : xs_J D A s ((h0, .inr (8, [.int 0, .null, .ref q1, .ref q12, .ref q14, .ref q15, .int 0, .int 0, .int 0, .int (-1), .int (-1), .int 0, .int 0, .int 0, .int 0, .int 0])) :: (([] : va_W) ++ xk_S ca ad1 (o + 1) ++ xk_I ca ad12 (o + 12) ++ [(q14, .inl (ca 2, 4, .inr (.inl fun _ => 0)))] ++ [(q15, .inl (ca 0, 4, .inl fun _ => 0))])) _ _ := hJ
  refine lv_aload_n hx hb dd_K_init_90 rfl (lv_at hl 0 rfl) ?_
  refine lv_iload_n hx hb dd_K_init_91 rfl (lv_at hl 1 rfl) ?_
  refine xk_putF_K (ty := .int) hx hb hts hown hKK hJ 0 (by decide) (hts _ hw_280) rfl hin rfl (by decide +kernel) rfl rfl (Nat.le_of_ble_eq_true rfl) dd_K_init_92 (fun H locs hJ => ?_)
  have hJ : xs_J D A s ((h0, .inr (8, [.int n1, .null, .ref q1, .ref q12, .ref q14, .ref q15, .int 0, .int 0, .int 0, .int (-1), .int (-1), .int 0, .int 0, .int 0, .int 0, .int 0])) :: (([] : va_W) ++ xk_S ca ad1 (o + 1) ++ xk_I ca ad12 (o + 12) ++ [(q14, .inl (ca 2, 4, .inr (.inl fun _ => 0)))] ++ [(q15, .inl (ca 0, 4, .inl fun _ => 0))])) _ _ := hJ
  refine lv_aload_n hx hb dd_K_init_95 rfl (lv_at hl 0 rfl) ?_
  refine lv_aload_n hx hb dd_K_init_96 rfl (lv_at hl 2 rfl) ?_
  refine xk_putF_K (ty := .object "WideNet$Mac") hx hb hts hown hKK hJ 1 (by decide) (hts _ hw_281) rfl hin rfl (by decide +kernel) rfl rfl (Nat.le_of_ble_eq_true rfl) dd_K_init_97 (fun H locs hJ => ?_)
  have hJ : xs_J D A s ((h0, .inr (8, [.int n1, .ref r2, .ref q1, .ref q12, .ref q14, .ref q15, .int 0, .int 0, .int 0, .int (-1), .int (-1), .int 0, .int 0, .int 0, .int 0, .int 0])) :: (([] : va_W) ++ xk_S ca ad1 (o + 1) ++ xk_I ca ad12 (o + 12) ++ [(q14, .inl (ca 2, 4, .inr (.inl fun _ => 0)))] ++ [(q15, .inl (ca 0, 4, .inl fun _ => 0))])) _ _ := hJ
  obtain ⟨ad, g0, g1, g12, g14, g15⟩ : ∃ ad : Nat → Nat, ad o = h0 ∧ (∀ i, o + 1 ≤ i → i < o + 12 → ad i = ad1 i) ∧ (∀ i, o + 12 ≤ i → i < o + 14 → ad i = ad12 i) ∧ ad (o + 14) = q14 ∧ ad (o + 15) = q15 := ⟨fun i => if i < o + 1 then h0 else if i < o + 12 then ad1 i else if i < o + 14 then ad12 i else if i < o + 15 then q14 else q15, if_pos (by omega), fun i h1 h2 => by show (if _ then _ else _) = _; rw [if_neg (by omega), if_pos (by omega)], fun i h1 h2 => by show (if _ then _ else _) = _; rw [if_neg (by omega), if_neg (by omega), if_pos (by omega)], by show (if _ then _ else _) = _; rw [if_neg (by omega), if_neg (by omega), if_neg (by omega), if_pos (by omega)], by show (if _ then _ else _) = _; rw [if_neg (by omega), if_neg (by omega), if_neg (by omega), if_neg (by omega)]⟩
  have eX : xk_K ca ad o n1 r2 = ((h0, .inr (8, [.int n1, .ref r2, .ref q1, .ref q12, .ref q14, .ref q15, .int 0, .int 0, .int 0, .int (-1), .int (-1), .int 0, .int 0, .int 0, .int 0, .int 0])) :: (([] : va_W) ++ xk_S ca ad1 (o + 1) ++ xk_I ca ad12 (o + 12) ++ [(q14, .inl (ca 2, 4, .inr (.inl fun _ => 0)))] ++ [(q15, .inl (ca 0, 4, .inl fun _ => 0))])) := by
    unfold xk_K
    rw [xk_S_cg (fun i h1 h2 => g1 i h1 (by omega)), xk_I_cg (fun i h1 h2 => g12 i h1 (by omega)), g0, g1 (o + 1) (by omega) (by omega), e1, g12 (o + 12) (by omega) (by omega), e12, g14, g15]
  exact hret (ad := ad) g0 (by rw [eX]; exact hJ) dd_K_init_100
