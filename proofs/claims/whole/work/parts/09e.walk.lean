set_option maxHeartbeats 4000000 in
set_option maxRecDepth 100000 in
theorem xc_V_takeJoin (l : Launch) (D : va_G) (ad : Nat → Nat) (ca : Nat → ClassId) (ks : List Nat) (hf : ks = xs_all) (k : Nat) (a1 : Nat) (S : xs_T) (T : xs_T) (hk : xs_is ks k xs_cV) (ha1 : xs_is ks a1 xs_cF) (h : xf_V_takeJoin k a1 S = some T) (sz : Nat) : Met l yy_V_takeJoin ws_V_takeJoin { frames := 5, cells := 0, slots := 0, locals := 135 } (va_Pc [.ref (ad k), .ref (ad a1)] (xs_Pre D ad ca ks S sz)) (va_Qv (fun _ : Unit => True) (fun _ t => va_P D xs_cl (xs_w ad ca ks T) t.heap) (xs_A ad ks sz)) 0 0 (xs_A ad ks sz) := by
  refine xm_v (by decide) (Nat.le_of_ble_eq_true rfl) ?_
  intro p e s m args below meth c R A Q ls hx hb hml hown hts hRf hRl hK hw hl hret
  have hl : lv_has ls 5 [(0, .ref (ad k)), (1, .ref (ad a1))] := hl
  unfold xf_V_takeJoin at h
  refine lv_aload_n hx hb dd_V_takeJoin_0 rfl (lv_at hl 0 rfl) ?_
  refine xr_get_V (v := .ref (ad (k + 1))) hx hb hts hown hK hw hk 0 (by decide) (hts _ hw_336) rfl dd_V_takeJoin_1 ?_
  refine lv_aload_n hx hb dd_V_takeJoin_4 rfl (lv_at hl 1 rfl) ?_
  refine xr_getN_F (v := .ref (ad (a1 + 1))) hx hb hts hown hK hw ha1 0 (by decide) (va_Nw.use rfl (hK.2.2.2.1 _ hn_38 rfl)) rfl dd_V_takeJoin_5 ?_
  refine lv_bipush (v := 9) hx hb dd_V_takeJoin_8 rfl ?_
  obtain ⟨v1, gv1, h⟩ := xs_ob h
  refine xr_iald hx hb hK hw (xs_ok_F_bytes hK.1 ha1) gv1 dd_V_takeJoin_10 ?_
  obtain ⟨u2, gu2, h⟩ := xs_ob h
  have ku2 := xs_okU hf (by decide) gu2
  refine xr_aald_K hx hb hK hw (xs_ok_V_accounts hK.1 hk) gu2 dd_V_takeJoin_11 ?_
  refine lv_astore_n hx hb dd_V_takeJoin_12 rfl hl (by decide) rfl (fun ls hl => ?_)
  have hl : lv_has ls 5 [(2, .ref (ad u2)), (0, .ref (ad k)), (1, .ref (ad a1))] := hl
  refine lv_aload_n hx hb dd_V_takeJoin_13 rfl (lv_at hl 2 rfl) ?_
  refine xr_getN_F (v := .ref (ad (a1 + 1))) hx hb hts hown hK hw ha1 0 (by decide) (va_Nw.use rfl (hK.2.2.2.1 _ hn_38 rfl)) rfl dd_V_takeJoin_14 ?_
  refine lv_bipush (v := 17) hx hb dd_V_takeJoin_17 rfl ?_
  refine lv_iconst (v := 2) hx hb dd_V_takeJoin_19 rfl ?_
  obtain ⟨q3, gq3, h⟩ := xs_ob h
  refine xq_i hK hw (va_runSN (As := [.ref (ad (a1 + 1)), .int 17, .int 2]) (rest := []) ⟨hx, hb, hml, hown, hts⟩ (xc_W_number l D ad ca ks (a1 + 1) 17 2 S q3 (xs_ok_F_bytes hK.1 ha1) gq3 _) ⟨va_cnB 3 hts (xs_good hw_117) rfl rfl rfl (hK.2.2.2.1 _ hn_532 rfl) (hts _ hw_1) yd_W_number ⟨Nat.le_trans (by decide) hRf, Nat.le_trans (by decide) hRl⟩, (hts _ hw_116), trivial⟩ ⟨xs_blind, fun U h1 h2 => ⟨rfl, xs_pre hK hw h1 h2⟩⟩ rfl rfl hl.1 rfl (lv_room (Nat.le_of_ble_eq_true rfl)) dd_V_takeJoin_20 ⟨Nat.zero_le _, Nat.zero_le _⟩) (fun H locs hw => ?_)
  refine lv_istore_n hx hb dd_V_takeJoin_23 rfl hl (by decide) rfl (fun ls hl => ?_)
  have hl : lv_has ls 5 [(3, .int q3), (2, .ref (ad u2)), (0, .ref (ad k)), (1, .ref (ad a1))] := hl
  refine lv_aload_n hx hb dd_V_takeJoin_24 rfl (lv_at hl 3 rfl) ?_
  refine xr_getN_F (v := .ref (ad (a1 + 1))) hx hb hts hown hK hw ha1 0 (by decide) (va_Nw.use rfl (hK.2.2.2.1 _ hn_38 rfl)) rfl dd_V_takeJoin_25 ?_
  refine lv_bipush (v := 19) hx hb dd_V_takeJoin_28 rfl ?_
  refine lv_iconst (v := 4) hx hb dd_V_takeJoin_30 rfl ?_
  obtain ⟨q4, gq4, h⟩ := xs_ob h
  refine xq_i hK hw (va_runSN (As := [.ref (ad (a1 + 1)), .int 19, .int 4]) (rest := []) ⟨hx, hb, hml, hown, hts⟩ (xc_W_number l D ad ca ks (a1 + 1) 19 4 S q4 (xs_ok_F_bytes hK.1 ha1) gq4 _) ⟨va_cnB 3 hts (xs_good hw_117) rfl rfl rfl (hK.2.2.2.1 _ hn_532 rfl) (hts _ hw_1) yd_W_number ⟨Nat.le_trans (by decide) hRf, Nat.le_trans (by decide) hRl⟩, (hts _ hw_116), trivial⟩ ⟨xs_blind, fun U h1 h2 => ⟨rfl, xs_pre hK hw h1 h2⟩⟩ rfl rfl hl.1 rfl (lv_room (Nat.le_of_ble_eq_true rfl)) dd_V_takeJoin_31 ⟨Nat.zero_le _, Nat.zero_le _⟩) (fun H locs hw => ?_)
  refine lv_istore hx hb dd_V_takeJoin_34 hl (by decide) rfl (fun ls hl => ?_)
  have hl : lv_has ls 5 [(4, .int q4), (3, .int q3), (2, .ref (ad u2)), (0, .ref (ad k)), (1, .ref (ad a1))] := hl
  refine lv_iload_n hx hb dd_V_takeJoin_36 rfl (lv_at hl 1 rfl) ?_
  refine lv_aload_n hx hb dd_V_takeJoin_37 rfl (lv_at hl 2 rfl) ?_
  refine xr_getN_K (v := .int (xs_gI S u2 9)) hx hb hts hown hK hw ku2 9 (by decide) (va_Nw.use rfl (hK.2.2.2.1 _ hn_295 rfl)) rfl dd_V_takeJoin_38 ?_
  refine lv_icmp_le hx hb dd_V_takeJoin_41 rfl (fun b5 => ?_) (fun b5 => ?_)
  · replace h := xs_p b5 h
    exact hret h hw dd_V_takeJoin_81
  · replace h := xs_n b5 h
    refine lv_aload_n hx hb dd_V_takeJoin_44 rfl (lv_at hl 2 rfl) ?_
    refine xr_getN_K (v := .ref (ad (xs_rt u2))) hx hb hts hown hK hw ku2 1 (by decide) (va_Nw.use rfl (hK.2.2.2.1 _ hn_282 rfl)) rfl dd_V_takeJoin_45 ?_
    refine lv_aload_n hx hb dd_V_takeJoin_48 rfl (lv_at hl 4 rfl) ?_
    refine xr_getN_F (v := .ref (ad (a1 + 1))) hx hb hts hown hK hw ha1 0 (by decide) (va_Nw.use rfl (hK.2.2.2.1 _ hn_38 rfl)) rfl dd_V_takeJoin_49 ?_
    refine lv_bipush (v := 19) hx hb dd_V_takeJoin_52 rfl ?_
    obtain ⟨q6, gq6, h⟩ := xs_ob h
    refine xq_i hK hw (va_runV (As := [.ref (ad (a1 + 1)), .int 19]) (rest := []) ⟨hx, hb, hml, hown, hts⟩ (xc_M_codeOf l D ad ca ks (xs_rt u2) (a1 + 1) 19 S q6.1 q6.2 (xs_ok_K_root hK.1 ku2) (xs_ok_F_bytes hK.1 ha1) gq6 _) ⟨callB_of 2 hts (xs_good hw_389) rfl rfl rfl (hts _ hw_4) (hts _ hw_533) yd_M_codeOf ⟨Nat.le_trans (by decide) hRf, Nat.le_trans (by decide) hRl⟩, (hts _ hw_387), (hts _ hw_388)⟩ ⟨xs_blind, xs_recv_M hK hw (xs_ok_K_root hK.1 ku2), fun U h1 h2 => ⟨rfl, xs_pre hK hw h1 h2⟩⟩ rfl rfl hl.1 rfl (lv_room (Nat.le_of_ble_eq_true rfl)) dd_V_takeJoin_54 ⟨Nat.zero_le _, Nat.zero_le _⟩) (fun H locs hw => ?_)
    refine lv_iload hx hb dd_V_takeJoin_57 (lv_at hl 0 rfl) ?_
    refine lv_icmp_ne hx hb dd_V_takeJoin_59 rfl (fun b7 => ?_) (fun b7 => ?_)
    · replace h := xs_n b7 h
      exact hret h hw dd_V_takeJoin_81
    · replace h := xs_p b7 h
      refine lv_aload_n hx hb dd_V_takeJoin_62 rfl (lv_at hl 3 rfl) ?_
      refine lv_dup hx hb dd_V_takeJoin_63 rfl ?_
      refine xr_get_V (v := .int (xs_gI q6.2 k 2)) hx hb hts hown hK hw hk 2 (by decide) (hts _ hw_339) rfl dd_V_takeJoin_64 ?_
      refine lv_iconst (v := 1) hx hb dd_V_takeJoin_67 rfl ?_
      refine lv_iadd hx hb dd_V_takeJoin_68 ?_
      obtain ⟨S8, gS8, h⟩ := xs_ob h
      refine xr_putI_V hx hb hts hown hK hw hk 2 (by decide) (hts _ hw_339) rfl rfl (fun _ _ => rfl) gS8 dd_V_takeJoin_69 (fun H locs hw => ?_)
      refine lv_aload_n hx hb dd_V_takeJoin_72 rfl (lv_at hl 2 rfl) ?_
      refine lv_aload_n hx hb dd_V_takeJoin_73 rfl (lv_at hl 3 rfl) ?_
      refine xr_get_V (v := .int (xs_gI S8 k 2)) hx hb hts hown hK hw hk 2 (by decide) (hts _ hw_339) rfl dd_V_takeJoin_74 ?_
      refine lv_iload_n hx hb dd_V_takeJoin_77 rfl (lv_at hl 1 rfl) ?_
      obtain ⟨q9, gq9, h⟩ := xs_ob h
      refine xq_v hK hw (va_runV (As := [.int (xs_gI S8 k 2), .int q3]) (rest := []) ⟨hx, hb, hml, hown, hts⟩ (xc_K_openSession l D ad ca ks u2 (xs_gI S8 k 2) q3 S8 q9 ku2 gq9 _) ⟨callB_of 2 hts (xs_good hw_537) rfl rfl rfl (hts _ hw_12) (hts _ hw_534) yd_K_openSession ⟨Nat.le_trans (by decide) hRf, Nat.le_trans (by decide) hRl⟩, (hts _ hw_535), (hts _ hw_536)⟩ ⟨xs_blind, xs_recv_K hK hw ku2, fun U h1 h2 => ⟨rfl, xs_pre hK hw h1 h2⟩⟩ rfl rfl hl.1 rfl (lv_room (Nat.le_of_ble_eq_true rfl)) dd_V_takeJoin_78 ⟨Nat.zero_le _, Nat.zero_le _⟩) (fun H locs hw => ?_)
      exact hret h hw dd_V_takeJoin_81
set_option maxHeartbeats 4000000 in
set_option maxRecDepth 100000 in
theorem xc_F_control (l : Launch) (D : va_G) (ad : Nat → Nat) (ca : Nat → ClassId) (ks : List Nat) (k : Nat) (S : xs_T) (r : Int32) (hk : xs_is ks k xs_cF) (h : xf_F_control k S = some r) (sz : Nat) : Met l yy_F_control ws_F_control { frames := 0, cells := 0, slots := 0, locals := 0 } (va_Pc [.ref (ad k)] (xs_Pre D ad ca ks S sz)) (va_Qi (fun r1 (_ : Unit) => r1 = r) (fun _ t => va_P D xs_cl (xs_w ad ca ks S) t.heap) (xs_A ad ks sz)) 0 0 (xs_A ad ks sz) := by
  refine xm_ir (by decide) (Nat.le_of_ble_eq_true rfl) ?_
  intro p e s m args below meth c R A Q ls hx hb hml hown hts hRf hRl hK hw hl hret
  have hl : lv_has ls 1 [(0, .ref (ad k))] := hl
  unfold xf_F_control at h
  refine lv_aload_n hx hb dd_F_control_0 rfl (lv_at hl 0 rfl) ?_
  refine xr_get_F (v := .ref (ad (k + 1))) hx hb hts hown hK hw hk 0 (by decide) (hts _ hw_37) rfl dd_F_control_1 ?_
  refine lv_iconst (v := 5) hx hb dd_F_control_4 rfl ?_
  obtain ⟨v1, gv1, h⟩ := xs_ob h
  refine xr_iald hx hb hK hw (xs_ok_F_bytes hK.1 hk) gv1 dd_F_control_5 ?_
  exact hret h hw dd_F_control_6
set_option maxHeartbeats 4000000 in
set_option maxRecDepth 100000 in
theorem xc_F_optionCount (l : Launch) (D : va_G) (ad : Nat → Nat) (ca : Nat → ClassId) (ks : List Nat) (k : Nat) (S : xs_T) (r : Int32) (hk : xs_is ks k xs_cF) (h : xf_F_optionCount k S = some r) (sz : Nat) : Met l yy_F_optionCount ws_F_optionCount { frames := 1, cells := 0, slots := 0, locals := 20 } (va_Pc [.ref (ad k)] (xs_Pre D ad ca ks S sz)) (va_Qi (fun r1 (_ : Unit) => r1 = r) (fun _ t => va_P D xs_cl (xs_w ad ca ks S) t.heap) (xs_A ad ks sz)) 0 0 (xs_A ad ks sz) := by
  refine xm_ir (by decide) (Nat.le_of_ble_eq_true rfl) ?_
  intro p e s m args below meth c R A Q ls hx hb hml hown hts hRf hRl hK hw hl hret
  have hl : lv_has ls 1 [(0, .ref (ad k))] := hl
  unfold xf_F_optionCount at h
  refine lv_aload_n hx hb dd_F_optionCount_0 rfl (lv_at hl 0 rfl) ?_
  obtain ⟨q1, gq1, h⟩ := xs_ob h
  refine xq_i hK hw (va_runV (As := []) (rest := []) ⟨hx, hb, hml, hown, hts⟩ (xc_F_control l D ad ca ks k S q1 hk gq1 _) ⟨callB_of 0 hts (xs_good hw_561) rfl rfl rfl (hts _ hw_3) (hts _ hw_558) yd_F_control ⟨Nat.le_trans (by decide) hRf, Nat.le_trans (by decide) hRl⟩, (hts _ hw_559), (hts _ hw_560)⟩ ⟨xs_blind, xs_recv_F hK hw hk, fun U h1 h2 => ⟨rfl, xs_pre hK hw h1 h2⟩⟩ rfl rfl hl.1 rfl (lv_room (Nat.le_of_ble_eq_true rfl)) dd_F_optionCount_1 ⟨Nat.zero_le _, Nat.zero_le _⟩) (fun H locs hw => ?_)
  refine lv_bipush (v := 15) hx hb dd_F_optionCount_4 rfl ?_
  refine lv_iand hx hb dd_F_optionCount_6 ?_
  exact hret h hw dd_F_optionCount_7
set_option maxHeartbeats 4000000 in
set_option maxRecDepth 100000 in
theorem xc_F_hasDataForm (l : Launch) (D : va_G) (ad : Nat → Nat) (ca : Nat → ClassId) (ks : List Nat) (k : Nat) (S : xs_T) (r : Int32) (hk : xs_is ks k xs_cF) (h : xf_F_hasDataForm k S = some r) (sz : Nat) : Met l yy_F_hasDataForm ws_F_hasDataForm { frames := 2, cells := 0, slots := 0, locals := 40 } (va_Pc [.ref (ad k)] (xs_Pre D ad ca ks S sz)) (va_Qi (fun r1 (_ : Unit) => r1 = r) (fun _ t => va_P D xs_cl (xs_w ad ca ks S) t.heap) (xs_A ad ks sz)) 0 0 (xs_A ad ks sz) := by
  refine xm_zr (by decide) (Nat.le_of_ble_eq_true rfl) ?_
  intro p e s m args below meth c R A Q ls hx hb hml hown hts hRf hRl hK hw hl hret
  have hl : lv_has ls 3 [(0, .ref (ad k))] := hl
  have w_28 : ∀ (H : Heap) (locs : List Loc) (ls : Array Slot), xs_I D ad ca ks A s S H locs → lv_has ls 3 [(0, .ref (ad k))] → xf_F_hasDataForm_28 k S = some r → W p l e R s m args below meth c H locs 0 0 Q (F0 m 28 ls []) := by
    intro  H locs ls hw hl h
    unfold xf_F_hasDataForm_28 at h
    refine lv_aload_n hx hb dd_F_hasDataForm_28 rfl (lv_at hl 0 rfl) ?_
    refine xr_get_F (v := .int (xs_gI S k 1)) hx hb hts hown hK hw hk 1 (by decide) (hts _ hw_43) rfl dd_F_hasDataForm_29 ?_
    refine lv_bipush (v := 12) hx hb dd_F_hasDataForm_32 rfl ?_
    refine lv_isub hx hb dd_F_hasDataForm_34 ?_
    refine lv_aload_n hx hb dd_F_hasDataForm_35 rfl (lv_at hl 0 rfl) ?_
    obtain ⟨q3, gq3, h⟩ := xs_ob h
    refine xq_i hK hw (va_runV (As := []) (rest := [.int ((xs_gI S k 1) - 12)]) ⟨hx, hb, hml, hown, hts⟩ (xc_F_optionCount l D ad ca ks k S q3 hk gq3 _) ⟨callB_of 0 hts (xs_good hw_557) rfl rfl rfl (hts _ hw_3) (hts _ hw_554) yd_F_optionCount ⟨Nat.le_trans (by decide) hRf, Nat.le_trans (by decide) hRl⟩, (hts _ hw_555), (hts _ hw_556)⟩ ⟨xs_blind, xs_recv_F hK hw hk, fun U h1 h2 => ⟨rfl, xs_pre hK hw h1 h2⟩⟩ rfl rfl hl.1 rfl (lv_room (Nat.le_of_ble_eq_true rfl)) dd_F_hasDataForm_36 ⟨Nat.zero_le _, Nat.zero_le _⟩) (fun H locs hw => ?_)
    refine lv_isub hx hb dd_F_hasDataForm_39 ?_
    obtain ⟨v4, gv4, h⟩ := xs_ob h
    refine lv_namI gv4 ?_
    refine lv_istore_n hx hb dd_F_hasDataForm_40 rfl hl (by decide) rfl (fun ls hl => ?_)
    have hl : lv_has ls 3 [(2, .int v4), (0, .ref (ad k))] := hl
    refine lv_iload_n hx hb dd_F_hasDataForm_41 rfl (lv_at hl 0 rfl) ?_
    refine lv_if_eq hx hb dd_F_hasDataForm_42 rfl (fun b5 => ?_) (fun b5 => ?_)
    · replace h := xs_p b5 h
      refine lv_iconst (v := 1) hx hb dd_F_hasDataForm_56 rfl ?_
      refine lv_goto hx hb dd_F_hasDataForm_57 rfl ?_
      exact hret h hw dd_F_hasDataForm_61
    · replace h := xs_n b5 h
      refine lv_iload_n hx hb dd_F_hasDataForm_45 rfl (lv_at hl 0 rfl) ?_
      refine lv_iconst (v := 2) hx hb dd_F_hasDataForm_46 rfl ?_
      refine lv_icmp_lt hx hb dd_F_hasDataForm_47 rfl (fun b6 => ?_) (fun b6 => ?_)
      · replace h := xs_p b6 h
        refine lv_iconst (v := 0) hx hb dd_F_hasDataForm_60 rfl ?_
        exact hret h hw dd_F_hasDataForm_61
      · replace h := xs_n b6 h
        refine lv_iload_n hx hb dd_F_hasDataForm_50 rfl (lv_at hl 0 rfl) ?_
        refine lv_bipush (v := 9) hx hb dd_F_hasDataForm_51 rfl ?_
        refine lv_icmp_gt hx hb dd_F_hasDataForm_53 rfl (fun b7 => ?_) (fun b7 => ?_)
        · replace h := xs_p b7 h
          refine lv_iconst (v := 0) hx hb dd_F_hasDataForm_60 rfl ?_
          exact hret h hw dd_F_hasDataForm_61
        · replace h := xs_n b7 h
          refine lv_iconst (v := 1) hx hb dd_F_hasDataForm_56 rfl ?_
          refine lv_goto hx hb dd_F_hasDataForm_57 rfl ?_
          exact hret h hw dd_F_hasDataForm_61
  unfold xf_F_hasDataForm at h
  refine lv_aload_n hx hb dd_F_hasDataForm_0 rfl (lv_at hl 0 rfl) ?_
  refine xr_get_F (v := .ref (ad (k + 1))) hx hb hts hown hK hw hk 0 (by decide) (hts _ hw_37) rfl dd_F_hasDataForm_1 ?_
  refine lv_iconst (v := 0) hx hb dd_F_hasDataForm_4 rfl ?_
  obtain ⟨v1, gv1, h⟩ := xs_ob h
  refine xr_iald hx hb hK hw (xs_ok_F_bytes hK.1 hk) gv1 dd_F_hasDataForm_5 ?_
  refine lv_istore_n hx hb dd_F_hasDataForm_6 rfl hl (by decide) rfl (fun ls hl => ?_)
  have hl : lv_has ls 3 [(1, .int v1), (0, .ref (ad k))] := hl
  refine lv_iload_n hx hb dd_F_hasDataForm_7 rfl (lv_at hl 0 rfl) ?_
  refine lv_bipush (v := 64) hx hb dd_F_hasDataForm_8 rfl ?_
  refine lv_icmp_eq hx hb dd_F_hasDataForm_10 rfl (fun b2 => ?_) (fun b2 => ?_)
  · replace h := xs_p b2 h
    exact w_28  _ _ _ hw (lv_sub hl [1] rfl) h
  · replace h := xs_n b2 h
    refine lv_iload_n hx hb dd_F_hasDataForm_13 rfl (lv_at hl 0 rfl) ?_
    refine lv_sipush (v := 128) hx hb dd_F_hasDataForm_14 rfl ?_
    refine lv_icmp_eq hx hb dd_F_hasDataForm_17 rfl (fun b8 => ?_) (fun b8 => ?_)
    · replace h := xs_p b8 h
      exact w_28  _ _ _ hw (lv_sub hl [1] rfl) h
    · replace h := xs_n b8 h
      refine lv_iload_n hx hb dd_F_hasDataForm_20 rfl (lv_at hl 0 rfl) ?_
      refine lv_bipush (v := 96) hx hb dd_F_hasDataForm_21 rfl ?_
      refine lv_icmp_eq hx hb dd_F_hasDataForm_23 rfl (fun b9 => ?_) (fun b9 => ?_)
      · replace h := xs_p b9 h
        exact w_28  _ _ _ hw (lv_sub hl [1] rfl) h
      · replace h := xs_n b9 h
        refine lv_iconst (v := 0) hx hb dd_F_hasDataForm_26 rfl ?_
        exact hret h hw dd_F_hasDataForm_27
set_option maxHeartbeats 4000000 in
set_option maxRecDepth 100000 in
theorem xc_F_address (l : Launch) (D : va_G) (ad : Nat → Nat) (ca : Nat → ClassId) (ks : List Nat) (k : Nat) (S : xs_T) (r : Int32) (hk : xs_is ks k xs_cF) (h : xf_F_address k S = some r) (sz : Nat) : Met l yy_F_address ws_F_address { frames := 1, cells := 0, slots := 0, locals := 24 } (va_Pc [.ref (ad k)] (xs_Pre D ad ca ks S sz)) (va_Qi (fun r1 (_ : Unit) => r1 = r) (fun _ t => va_P D xs_cl (xs_w ad ca ks S) t.heap) (xs_A ad ks sz)) 0 0 (xs_A ad ks sz) := by
  refine xm_ir (by decide) (Nat.le_of_ble_eq_true rfl) ?_
  intro p e s m args below meth c R A Q ls hx hb hml hown hts hRf hRl hK hw hl hret
  have hl : lv_has ls 1 [(0, .ref (ad k))] := hl
  unfold xf_F_address at h
  refine lv_aload_n hx hb dd_F_address_0 rfl (lv_at hl 0 rfl) ?_
  refine xr_get_F (v := .ref (ad (k + 1))) hx hb hts hown hK hw hk 0 (by decide) (hts _ hw_37) rfl dd_F_address_1 ?_
  refine lv_iconst (v := 1) hx hb dd_F_address_4 rfl ?_
  refine lv_iconst (v := 4) hx hb dd_F_address_5 rfl ?_
  obtain ⟨q1, gq1, h⟩ := xs_ob h
  refine xq_i hK hw (va_runSN (As := [.ref (ad (k + 1)), .int 1, .int 4]) (rest := []) ⟨hx, hb, hml, hown, hts⟩ (xc_W_number l D ad ca ks (k + 1) 1 4 S q1 (xs_ok_F_bytes hK.1 hk) gq1 _) ⟨va_cnB 3 hts (xs_good hw_117) rfl rfl rfl (hK.2.2.2.1 _ hn_570 rfl) (hts _ hw_1) yd_W_number ⟨Nat.le_trans (by decide) hRf, Nat.le_trans (by decide) hRl⟩, (hts _ hw_116), trivial⟩ ⟨xs_blind, fun U h1 h2 => ⟨rfl, xs_pre hK hw h1 h2⟩⟩ rfl rfl hl.1 rfl (lv_room (Nat.le_of_ble_eq_true rfl)) dd_F_address_6 ⟨Nat.zero_le _, Nat.zero_le _⟩) (fun H locs hw => ?_)
  exact hret h hw dd_F_address_9
set_option maxHeartbeats 4000000 in
set_option maxRecDepth 100000 in
theorem xc_F_countEnd (l : Launch) (D : va_G) (ad : Nat → Nat) (ca : Nat → ClassId) (ks : List Nat) (k : Nat) (S : xs_T) (r : Int32) (hk : xs_is ks k xs_cF) (h : xf_F_countEnd k S = some r) (sz : Nat) : Met l yy_F_countEnd ws_F_countEnd { frames := 1, cells := 0, slots := 0, locals := 24 } (va_Pc [.ref (ad k)] (xs_Pre D ad ca ks S sz)) (va_Qi (fun r1 (_ : Unit) => r1 = r) (fun _ t => va_P D xs_cl (xs_w ad ca ks S) t.heap) (xs_A ad ks sz)) 0 0 (xs_A ad ks sz) := by
  refine xm_ir (by decide) (Nat.le_of_ble_eq_true rfl) ?_
  intro p e s m args below meth c R A Q ls hx hb hml hown hts hRf hRl hK hw hl hret
  have hl : lv_has ls 1 [(0, .ref (ad k))] := hl
  unfold xf_F_countEnd at h
  refine lv_aload_n hx hb dd_F_countEnd_0 rfl (lv_at hl 0 rfl) ?_
  refine xr_get_F (v := .ref (ad (k + 1))) hx hb hts hown hK hw hk 0 (by decide) (hts _ hw_37) rfl dd_F_countEnd_1 ?_
  refine lv_bipush (v := 6) hx hb dd_F_countEnd_4 rfl ?_
  refine lv_iconst (v := 2) hx hb dd_F_countEnd_6 rfl ?_
  obtain ⟨q1, gq1, h⟩ := xs_ob h
  refine xq_i hK hw (va_runSN (As := [.ref (ad (k + 1)), .int 6, .int 2]) (rest := []) ⟨hx, hb, hml, hown, hts⟩ (xc_W_number l D ad ca ks (k + 1) 6 2 S q1 (xs_ok_F_bytes hK.1 hk) gq1 _) ⟨va_cnB 3 hts (xs_good hw_117) rfl rfl rfl (hK.2.2.2.1 _ hn_570 rfl) (hts _ hw_1) yd_W_number ⟨Nat.le_trans (by decide) hRf, Nat.le_trans (by decide) hRl⟩, (hts _ hw_116), trivial⟩ ⟨xs_blind, fun U h1 h2 => ⟨rfl, xs_pre hK hw h1 h2⟩⟩ rfl rfl hl.1 rfl (lv_room (Nat.le_of_ble_eq_true rfl)) dd_F_countEnd_7 ⟨Nat.zero_le _, Nat.zero_le _⟩) (fun H locs hw => ?_)
  exact hret h hw dd_F_countEnd_10
set_option maxHeartbeats 4000000 in
set_option maxRecDepth 100000 in
theorem xc_W_countFrom (l : Launch) (D : va_G) (ad : Nat → Nat) (ca : Nat → ClassId) (ks : List Nat) (n0 : Int32) (n1 : Int32) (S : xs_T) (r : Int32) (h : xf_W_countFrom n0 n1 = some r) (sz : Nat) : Met l yy_W_countFrom ws_W_countFrom { frames := 0, cells := 0, slots := 0, locals := 0 } (va_Pc [.int n0, .int n1] (xs_Pre D ad ca ks S sz)) (va_Qi (fun r1 (_ : Unit) => r1 = r) (fun _ t => va_P D xs_cl (xs_w ad ca ks S) t.heap) (xs_A ad ks sz)) 0 0 (xs_A ad ks sz) := by
  refine xm_ir (by decide) (Nat.le_of_ble_eq_true rfl) ?_
  intro p e s m args below meth c R A Q ls hx hb hml hown hts hRf hRl hK hw hl hret
  have hl : lv_has ls 2 [(0, .int n0), (1, .int n1)] := hl
  unfold xf_W_countFrom at h
  refine lv_iload_n hx hb dd_W_countFrom_0 rfl (lv_at hl 0 rfl) ?_
  refine lv_iload_n hx hb dd_W_countFrom_1 rfl (lv_at hl 1 rfl) ?_
  refine lv_iload_n hx hb dd_W_countFrom_2 rfl (lv_at hl 0 rfl) ?_
  refine lv_isub hx hb dd_W_countFrom_3 ?_
  refine lv_ldc (v := 65535) hx hb hown (hts _ hw_367) dd_W_countFrom_4 ?_
  refine lv_iand hx hb dd_W_countFrom_6 ?_
  refine lv_iadd hx hb dd_W_countFrom_7 ?_
  exact hret h hw dd_W_countFrom_8
set_option maxHeartbeats 4000000 in
set_option maxRecDepth 100000 in
theorem xc_S_isCodeRight (l : Launch) (D : va_G) (ad : Nat → Nat) (ca : Nat → ClassId) (ks : List Nat) (k : Nat) (a1 : Nat) (n2 : Int32) (n3 : Int32) (S : xs_T) (r : Int32) (T : xs_T) (hk : xs_is ks k xs_cS) (ha1 : xs_is ks a1 xs_cF) (h : xf_S_isCodeRight k a1 n2 n3 S = some (r, T)) (sz : Nat) : Met l yy_S_isCodeRight ws_S_isCodeRight { frames := 3, cells := 0, slots := 0, locals := 91 } (va_Pc [.ref (ad k), .ref (ad a1), .int n2, .int n3] (xs_Pre D ad ca ks S sz)) (va_Qi (fun r1 (_ : Unit) => r1 = r) (fun _ t => va_P D xs_cl (xs_w ad ca ks T) t.heap) (xs_A ad ks sz)) 0 0 (xs_A ad ks sz) := by
  refine xm_z (by decide) (Nat.le_of_ble_eq_true rfl) ?_
  intro p e s m args below meth c R A Q ls hx hb hml hown hts hRf hRl hK hw hl hret
  have hl : lv_has ls 5 [(0, .ref (ad k)), (1, .ref (ad a1)), (2, .int n2), (3, .int n3)] := hl
  unfold xf_S_isCodeRight at h
  refine lv_aload_n hx hb dd_S_isCodeRight_0 rfl (lv_at hl 1 rfl) ?_
  refine xr_getN_F (v := .int (xs_gI S a1 1)) hx hb hts hown hK hw ha1 1 (by decide) (va_Nw.use rfl (hK.2.2.2.1 _ hn_45 rfl)) rfl dd_S_isCodeRight_1 ?_
  refine lv_iconst (v := 4) hx hb dd_S_isCodeRight_4 rfl ?_
  refine lv_isub hx hb dd_S_isCodeRight_5 ?_
  obtain ⟨v1, gv1, h⟩ := xs_ob h
  refine lv_namI gv1 ?_
  refine lv_istore hx hb dd_S_isCodeRight_6 hl (by decide) rfl (fun ls hl => ?_)
  have hl : lv_has ls 5 [(4, .int v1), (0, .ref (ad k)), (1, .ref (ad a1)), (2, .int n2), (3, .int n3)] := hl
  refine lv_aload_n hx hb dd_S_isCodeRight_8 rfl (lv_at hl 1 rfl) ?_
  refine lv_aload_n hx hb dd_S_isCodeRight_9 rfl (lv_at hl 2 rfl) ?_
  refine lv_iload hx hb dd_S_isCodeRight_10 (lv_at hl 0 rfl) ?_
  refine lv_iload_n hx hb dd_S_isCodeRight_12 rfl (lv_at hl 3 rfl) ?_
  refine lv_iload_n hx hb dd_S_isCodeRight_13 rfl (lv_at hl 4 rfl) ?_
  obtain ⟨q2, gq2, h⟩ := xs_ob h
  refine xq_v hK hw (va_runV (As := [.ref (ad a1), .int v1, .int n2, .int n3]) (rest := []) ⟨hx, hb, hml, hown, hts⟩ (xc_S_layRow l D ad ca ks k a1 v1 n2 n3 S q2 hk ha1 gq2 _) ⟨callB_of 4 hts (xs_good hw_450) rfl rfl rfl (hts _ hw_9) (hts _ hw_447) yd_S_layRow ⟨Nat.le_trans (by decide) hRf, Nat.le_trans (by decide) hRl⟩, (hts _ hw_449), (hts _ hs_4)⟩ ⟨xs_blind, xs_recv_S hK hw hk, fun U h1 h2 => ⟨rfl, xs_pre hK hw h1 h2⟩⟩ rfl rfl hl.1 rfl (lv_room (Nat.le_of_ble_eq_true rfl)) dd_S_isCodeRight_14 ⟨Nat.zero_le _, Nat.zero_le _⟩) (fun H locs hw => ?_)
  refine lv_aload_n hx hb dd_S_isCodeRight_17 rfl (lv_at hl 1 rfl) ?_
  refine xr_get_S (v := .ref (ad (k + 1))) hx hb hts hown hK hw hk 0 (by decide) (hts _ hw_162) rfl dd_S_isCodeRight_18 ?_
  refine lv_aload_n hx hb dd_S_isCodeRight_21 rfl (lv_at hl 1 rfl) ?_
  refine xr_get_S (v := .ref (ad (k + 9))) hx hb hts hown hK hw hk 2 (by decide) (hts _ hw_164) rfl dd_S_isCodeRight_22 ?_
  refine lv_bipush (v := 16) hx hb dd_S_isCodeRight_25 rfl ?_
  refine lv_iload hx hb dd_S_isCodeRight_27 (lv_at hl 0 rfl) ?_
  refine lv_iadd hx hb dd_S_isCodeRight_29 ?_
  obtain ⟨q3, gq3, h⟩ := xs_ob h
  refine xq_i hK hw (va_runV (As := [.ref (ad (k + 9)), .int (16 + v1)]) (rest := []) ⟨hx, hb, hml, hown, hts⟩ (xc_M_codeOf l D ad ca ks (k + 1) (k + 9) (16 + v1) q2 q3.1 q3.2 (xs_ok_S_network hK.1 hk) (xs_ok_S_row hK.1 hk) gq3 _) ⟨callB_of 2 hts (xs_good hw_389) rfl rfl rfl (hts _ hw_4) (hts _ hw_452) yd_M_codeOf ⟨Nat.le_trans (by decide) hRf, Nat.le_trans (by decide) hRl⟩, (hts _ hw_387), (hts _ hw_388)⟩ ⟨xs_blind, xs_recv_M hK hw (xs_ok_S_network hK.1 hk), fun U h1 h2 => ⟨rfl, xs_pre hK hw h1 h2⟩⟩ rfl rfl hl.1 rfl (lv_room (Nat.le_of_ble_eq_true rfl)) dd_S_isCodeRight_30 ⟨Nat.zero_le _, Nat.zero_le _⟩) (fun H locs hw => ?_)
  refine lv_aload_n hx hb dd_S_isCodeRight_33 rfl (lv_at hl 2 rfl) ?_
  refine xr_getN_F (v := .ref (ad (a1 + 1))) hx hb hts hown hK hw ha1 0 (by decide) (va_Nw.use rfl (hK.2.2.2.1 _ hn_41 rfl)) rfl dd_S_isCodeRight_34 ?_
  refine lv_iload hx hb dd_S_isCodeRight_37 (lv_at hl 0 rfl) ?_
  refine lv_iconst (v := 4) hx hb dd_S_isCodeRight_39 rfl ?_
  obtain ⟨q4, gq4, h⟩ := xs_ob h
  refine xq_i hK hw (va_runSN (As := [.ref (ad (a1 + 1)), .int v1, .int 4]) (rest := [.int q3.1]) ⟨hx, hb, hml, hown, hts⟩ (xc_W_number l D ad ca ks (a1 + 1) v1 4 q3.2 q4 (xs_ok_F_bytes hK.1 ha1) gq4 _) ⟨va_cnB 3 hts (xs_good hw_117) rfl rfl rfl (hK.2.2.2.1 _ hn_445 rfl) (hts _ hw_1) yd_W_number ⟨Nat.le_trans (by decide) hRf, Nat.le_trans (by decide) hRl⟩, (hts _ hw_116), trivial⟩ ⟨xs_blind, fun U h1 h2 => ⟨rfl, xs_pre hK hw h1 h2⟩⟩ rfl rfl hl.1 rfl (lv_room (Nat.le_of_ble_eq_true rfl)) dd_S_isCodeRight_40 ⟨Nat.zero_le _, Nat.zero_le _⟩) (fun H locs hw => ?_)
  refine lv_icmp_ne hx hb dd_S_isCodeRight_43 rfl (fun b5 => ?_) (fun b5 => ?_)
  · replace h := xs_n b5 h
    refine lv_iconst (v := 0) hx hb dd_S_isCodeRight_50 rfl ?_
    exact hret h hw dd_S_isCodeRight_51
  · replace h := xs_p b5 h
    refine lv_iconst (v := 1) hx hb dd_S_isCodeRight_46 rfl ?_
    refine lv_goto hx hb dd_S_isCodeRight_47 rfl ?_
    exact hret h hw dd_S_isCodeRight_51
set_option maxHeartbeats 4000000 in
set_option maxRecDepth 100000 in
theorem xc_F_payloadStart (l : Launch) (D : va_G) (ad : Nat → Nat) (ca : Nat → ClassId) (ks : List Nat) (k : Nat) (S : xs_T) (r : Int32) (hk : xs_is ks k xs_cF) (h : xf_F_payloadStart k S = some r) (sz : Nat) : Met l yy_F_payloadStart ws_F_payloadStart { frames := 2, cells := 0, slots := 0, locals := 40 } (va_Pc [.ref (ad k)] (xs_Pre D ad ca ks S sz)) (va_Qi (fun r1 (_ : Unit) => r1 = r) (fun _ t => va_P D xs_cl (xs_w ad ca ks S) t.heap) (xs_A ad ks sz)) 0 0 (xs_A ad ks sz) := by
  refine xm_ir (by decide) (Nat.le_of_ble_eq_true rfl) ?_
  intro p e s m args below meth c R A Q ls hx hb hml hown hts hRf hRl hK hw hl hret
  have hl : lv_has ls 1 [(0, .ref (ad k))] := hl
  unfold xf_F_payloadStart at h
  refine lv_bipush (v := 9) hx hb dd_F_payloadStart_0 rfl ?_
  refine lv_aload_n hx hb dd_F_payloadStart_2 rfl (lv_at hl 0 rfl) ?_
  obtain ⟨q1, gq1, h⟩ := xs_ob h
  refine xq_i hK hw (va_runV (As := []) (rest := [.int 9]) ⟨hx, hb, hml, hown, hts⟩ (xc_F_optionCount l D ad ca ks k S q1 hk gq1 _) ⟨callB_of 0 hts (xs_good hw_557) rfl rfl rfl (hts _ hw_3) (hts _ hw_554) yd_F_optionCount ⟨Nat.le_trans (by decide) hRf, Nat.le_trans (by decide) hRl⟩, (hts _ hw_555), (hts _ hw_556)⟩ ⟨xs_blind, xs_recv_F hK hw hk, fun U h1 h2 => ⟨rfl, xs_pre hK hw h1 h2⟩⟩ rfl rfl hl.1 rfl (lv_room (Nat.le_of_ble_eq_true rfl)) dd_F_payloadStart_3 ⟨Nat.zero_le _, Nat.zero_le _⟩) (fun H locs hw => ?_)
  refine lv_iadd hx hb dd_F_payloadStart_6 ?_
  exact hret h hw dd_F_payloadStart_7
set_option maxHeartbeats 4000000 in
set_option maxRecDepth 100000 in
theorem xc_F_payloadBytes (l : Launch) (D : va_G) (ad : Nat → Nat) (ca : Nat → ClassId) (ks : List Nat) (k : Nat) (S : xs_T) (r : Int32) (hk : xs_is ks k xs_cF) (h : xf_F_payloadBytes k S = some r) (sz : Nat) : Met l yy_F_payloadBytes ws_F_payloadBytes { frames := 3, cells := 0, slots := 0, locals := 60 } (va_Pc [.ref (ad k)] (xs_Pre D ad ca ks S sz)) (va_Qi (fun r1 (_ : Unit) => r1 = r) (fun _ t => va_P D xs_cl (xs_w ad ca ks S) t.heap) (xs_A ad ks sz)) 0 0 (xs_A ad ks sz) := by
  refine xm_ir (by decide) (Nat.le_of_ble_eq_true rfl) ?_
  intro p e s m args below meth c R A Q ls hx hb hml hown hts hRf hRl hK hw hl hret
  have hl : lv_has ls 1 [(0, .ref (ad k))] := hl
  unfold xf_F_payloadBytes at h
  refine lv_iconst (v := 0) hx hb dd_F_payloadBytes_0 rfl ?_
  refine lv_aload_n hx hb dd_F_payloadBytes_1 rfl (lv_at hl 0 rfl) ?_
  refine xr_get_F (v := .int (xs_gI S k 1)) hx hb hts hown hK hw hk 1 (by decide) (hts _ hw_43) rfl dd_F_payloadBytes_2 ?_
  refine lv_iconst (v := 4) hx hb dd_F_payloadBytes_5 rfl ?_
  refine lv_isub hx hb dd_F_payloadBytes_6 ?_
  refine lv_aload_n hx hb dd_F_payloadBytes_7 rfl (lv_at hl 0 rfl) ?_
  obtain ⟨q1, gq1, h⟩ := xs_ob h
  refine xq_i hK hw (va_runV (As := []) (rest := [.int ((xs_gI S k 1) - 4), .int 0]) ⟨hx, hb, hml, hown, hts⟩ (xc_F_payloadStart l D ad ca ks k S q1 hk gq1 _) ⟨callB_of 0 hts (xs_good hw_596) rfl rfl rfl (hts _ hw_3) (hts _ hw_593) yd_F_payloadStart ⟨Nat.le_trans (by decide) hRf, Nat.le_trans (by decide) hRl⟩, (hts _ hw_594), (hts _ hw_595)⟩ ⟨xs_blind, xs_recv_F hK hw hk, fun U h1 h2 => ⟨rfl, xs_pre hK hw h1 h2⟩⟩ rfl rfl hl.1 rfl (lv_room (Nat.le_of_ble_eq_true rfl)) dd_F_payloadBytes_8 ⟨Nat.zero_le _, Nat.zero_le _⟩) (fun H locs hw => ?_)
  refine lv_isub hx hb dd_F_payloadBytes_11 ?_
  refine xr_max hx hb (hml.trans hl.1.symm) hown (hts _ hw_597) (hts _ hw_576) (hts _ hw_15) (hts _ hw_577) (Nat.le_trans (by decide) hRf) (Nat.le_trans (Nat.le_of_ble_eq_true rfl) hRl) dd_F_payloadBytes_12 ?_
  exact hret h hw dd_F_payloadBytes_15
set_option maxHeartbeats 4000000 in
set_option maxRecDepth 100000 in
theorem xc_W_lowest (l : Launch) (D : va_G) (ad : Nat → Nat) (ca : Nat → ClassId) (ks : List Nat) (n0 : Int64) (n2 : Int32) (S : xs_T) (r : Int64) (h : xf_W_lowest n0 n2 = some r) (sz : Nat) : Met l yy_W_lowest ws_W_lowest { frames := 0, cells := 0, slots := 0, locals := 0 } (va_Pc [.long n0, .int n2] (xs_Pre D ad ca ks S sz)) (va_Ql (fun r1 (_ : Unit) => r1 = r) (fun _ t => va_P D xs_cl (xs_w ad ca ks S) t.heap) (xs_A ad ks sz)) 0 0 (xs_A ad ks sz) := by
  refine xm_lr (by decide) (Nat.le_of_ble_eq_true rfl) ?_
  intro p e s m args below meth c R A Q ls hx hb hml hown hts hRf hRl hK hw hl hret
  have hl : lv_has ls 3 [(0, .long n0), (2, .int n2)] := hl
  unfold xf_W_lowest at h
  refine lv_lload_n hx hb dd_W_lowest_0 rfl (lv_at hl 0 rfl) ?_
  refine lv_ldc2 (v := (-1)) hx hb hown (hts _ hw_607) dd_W_lowest_1 ?_
  refine lv_bipush (v := 64) hx hb dd_W_lowest_4 rfl ?_
  refine lv_bipush (v := 8) hx hb dd_W_lowest_6 rfl ?_
  refine lv_iload_n hx hb dd_W_lowest_8 rfl (lv_at hl 1 rfl) ?_
  refine lv_imul hx hb dd_W_lowest_9 ?_
  refine lv_isub hx hb dd_W_lowest_10 ?_
  refine lv_lushr (v := xs_lush (-1) (64 - (8 * n2))) hx hb dd_W_lowest_11 rfl ?_
  refine lv_land hx hb dd_W_lowest_12 ?_
  exact hret h hw dd_W_lowest_13
set_option maxHeartbeats 4000000 in
set_option maxRecDepth 100000 in
theorem xc_S_readPayload (l : Launch) (D : va_G) (ad : Nat → Nat) (ca : Nat → ClassId) (ks : List Nat) (k : Nat) (a1 : Nat) (n2 : Int32) (n3 : Int32) (S : xs_T) (r : Int64) (T : xs_T) (hk : xs_is ks k xs_cS) (ha1 : xs_is ks a1 xs_cF) (h : xf_S_readPayload k a1 n2 n3 S = some (r, T)) (sz : Nat) : Met l yy_S_readPayload ws_S_readPayload { frames := 4, cells := 0, slots := 0, locals := 80 } (va_Pc [.ref (ad k), .ref (ad a1), .int n2, .int n3] (xs_Pre D ad ca ks S sz)) (va_Ql (fun r1 (_ : Unit) => r1 = r) (fun _ t => va_P D xs_cl (xs_w ad ca ks T) t.heap) (xs_A ad ks sz)) 0 0 (xs_A ad ks sz) := by
  refine xm_l (by decide) (Nat.le_of_ble_eq_true rfl) ?_
  intro p e s m args below meth c R A Q ls hx hb hml hown hts hRf hRl hK hw hl hret
  have hl : lv_has ls 9 [(0, .ref (ad k)), (1, .ref (ad a1)), (2, .int n2), (3, .int n3)] := hl
  have w_18 : ∀ (f : Nat), ∀ (i4 : Int32) (i5 : Int32) (i6 : Int64) (i8 : Int32) (S : xs_T) (H : Heap) (locs : List Loc) (ls : Array Slot), xs_I D ad ca ks A s S H locs → lv_has ls 9 [(0, .ref (ad k)), (1, .ref (ad a1)), (2, .int n2), (3, .int n3), (4, .int i4), (5, .int i5), (6, .long i6), (8, .int i8)] → xf_S_readPayload_18 k a1 n2 n3 f i4 i5 i6 i8 S = some (r, T) → W p l e R s m args below meth c H locs 0 0 Q (F0 m 18 ls []) := by
    intro f
    induction f with
    | zero => intro i4 i5 i6 i8 S H locs ls hw hl h; exact absurd h (by simp [xf_S_readPayload_18])
    | succ f ih =>
      intro i4 i5 i6 i8 S H locs ls hw hl h
      rw [xf_S_readPayload_18] at h
      refine lv_iload hx hb dd_S_readPayload_18 (lv_at hl 7 rfl) ?_
      refine lv_iload hx hb dd_S_readPayload_20 (lv_at hl 4 rfl) ?_
      refine lv_icmp_ge hx hb dd_S_readPayload_22 rfl (fun b3 => ?_) (fun b3 => ?_)
      · replace h := xs_p b3 h
        refine lv_lload hx hb dd_S_readPayload_53 (lv_at hl 6 rfl) ?_
        refine lv_aload_n hx hb dd_S_readPayload_55 rfl (lv_at hl 0 rfl) ?_
        refine lv_iload_n hx hb dd_S_readPayload_56 rfl (lv_at hl 2 rfl) ?_
        refine lv_iload_n hx hb dd_S_readPayload_57 rfl (lv_at hl 3 rfl) ?_
        obtain ⟨q4, gq4, h⟩ := xs_ob h
        refine xq_l hK hw (va_runV (As := [.int n2, .int n3]) (rest := [.long i6]) ⟨hx, hb, hml, hown, hts⟩ (xc_S_stream l D ad ca ks k n2 n3 S q4.1 q4.2 hk gq4 _) ⟨callB_of 2 hts (xs_good hw_437) rfl rfl rfl (hts _ hw_9) (hts _ hw_434) yd_S_stream ⟨Nat.le_trans (by decide) hRf, Nat.le_trans (by decide) hRl⟩, (hts _ hw_436), (hts _ hs_2)⟩ ⟨xs_blind, xs_recv_S hK hw hk, fun U h1 h2 => ⟨rfl, xs_pre hK hw h1 h2⟩⟩ rfl rfl hl.1 rfl (lv_room (Nat.le_of_ble_eq_true rfl)) dd_S_readPayload_58 ⟨Nat.zero_le _, Nat.zero_le _⟩) (fun H locs hw => ?_)
        refine lv_lxor hx hb dd_S_readPayload_61 ?_
        refine lv_iload hx hb dd_S_readPayload_62 (lv_at hl 4 rfl) ?_
        obtain ⟨q5, gq5, h⟩ := xs_ob h
        refine xq_l hK hw (va_runSN (As := [.long (i6 ^^^ q4.1), .int i4]) (rest := []) ⟨hx, hb, hml, hown, hts⟩ (xc_W_lowest l D ad ca ks (i6 ^^^ q4.1) i4 q4.2 q5 gq5 _) ⟨va_cnB 2 hts (xs_good hw_606) rfl rfl rfl (hK.2.2.2.1 _ hn_604 rfl) (hts _ hw_1) yd_W_lowest ⟨Nat.le_trans (by decide) hRf, Nat.le_trans (by decide) hRl⟩, (hts _ hw_605), trivial⟩ ⟨xs_blind, fun U h1 h2 => ⟨rfl, xs_pre hK hw h1 h2⟩⟩ rfl rfl hl.1 rfl (lv_room (Nat.le_of_ble_eq_true rfl)) dd_S_readPayload_64 ⟨Nat.zero_le _, Nat.zero_le _⟩) (fun H locs hw => ?_)
        exact hret h hw dd_S_readPayload_67
      · replace h := xs_n b3 h
        refine lv_lload hx hb dd_S_readPayload_25 (lv_at hl 6 rfl) ?_
        refine lv_aload_n hx hb dd_S_readPayload_27 rfl (lv_at hl 1 rfl) ?_
        refine xr_getN_F (v := .ref (ad (a1 + 1))) hx hb hts hown hK hw ha1 0 (by decide) (va_Nw.use rfl (hK.2.2.2.1 _ hn_41 rfl)) rfl dd_S_readPayload_28 ?_
        refine lv_iload hx hb dd_S_readPayload_31 (lv_at hl 5 rfl) ?_
        refine lv_iload hx hb dd_S_readPayload_33 (lv_at hl 7 rfl) ?_
        refine lv_iadd hx hb dd_S_readPayload_35 ?_
        obtain ⟨v6, gv6, h⟩ := xs_ob h
        refine xr_iald hx hb hK hw (xs_ok_F_bytes hK.1 ha1) gv6 dd_S_readPayload_36 ?_
        refine lv_i2l (v := Int32.toInt64 v6) hx hb dd_S_readPayload_37 rfl ?_
        refine lv_bipush (v := 8) hx hb dd_S_readPayload_38 rfl ?_
        refine lv_iload hx hb dd_S_readPayload_40 (lv_at hl 7 rfl) ?_
        refine lv_imul hx hb dd_S_readPayload_42 ?_
        refine lv_lshl (v := xs_lshl (Int32.toInt64 v6) (8 * i8)) hx hb dd_S_readPayload_43 rfl ?_
        refine lv_lor hx hb dd_S_readPayload_44 ?_
        obtain ⟨v7, gv7, h⟩ := xs_ob h
        refine lv_namL gv7 ?_
        refine lv_lstore hx hb dd_S_readPayload_45 hl (by decide) rfl (fun ls hl => ?_)
        have hl : lv_has ls 9 [(6, .long v7), (0, .ref (ad k)), (1, .ref (ad a1)), (2, .int n2), (3, .int n3), (4, .int i4), (5, .int i5), (8, .int i8)] := hl
        refine lv_iinc (k := 7) (v := i8 + 1) hx hb dd_S_readPayload_47 hl rfl rfl (by decide) rfl (fun ls hl => ?_)
        have hl : lv_has ls 9 [(8, .int (i8 + 1)), (6, .long v7), (0, .ref (ad k)), (1, .ref (ad a1)), (2, .int n2), (3, .int n3), (4, .int i4), (5, .int i5)] := hl
        refine lv_goto hx hb dd_S_readPayload_50 rfl ?_
        exact ih i4 i5 v7 (i8 + 1) S _ _ _ hw (lv_sub hl [2, 3, 4, 5, 6, 7, 1, 0] rfl) h
  unfold xf_S_readPayload at h
  refine lv_aload_n hx hb dd_S_readPayload_0 rfl (lv_at hl 1 rfl) ?_
  obtain ⟨q1, gq1, h⟩ := xs_ob h
  refine xq_i hK hw (va_runV (As := []) (rest := []) ⟨hx, hb, hml, hown, hts⟩ (xc_F_payloadBytes l D ad ca ks a1 S q1 ha1 gq1 _) ⟨callB_of 0 hts (xs_good hw_592) rfl rfl rfl (hts _ hw_3) (hts _ hw_602) yd_F_payloadBytes ⟨Nat.le_trans (by decide) hRf, Nat.le_trans (by decide) hRl⟩, (hts _ hw_590), (hts _ hw_591)⟩ ⟨xs_blind, xs_recv_F hK hw ha1, fun U h1 h2 => ⟨rfl, xs_pre hK hw h1 h2⟩⟩ rfl rfl hl.1 rfl (lv_room (Nat.le_of_ble_eq_true rfl)) dd_S_readPayload_1 ⟨Nat.zero_le _, Nat.zero_le _⟩) (fun H locs hw => ?_)
  refine lv_istore hx hb dd_S_readPayload_4 hl (by decide) rfl (fun ls hl => ?_)
  have hl : lv_has ls 9 [(4, .int q1), (0, .ref (ad k)), (1, .ref (ad a1)), (2, .int n2), (3, .int n3)] := hl
  refine lv_aload_n hx hb dd_S_readPayload_6 rfl (lv_at hl 2 rfl) ?_
  obtain ⟨q2, gq2, h⟩ := xs_ob h
  refine xq_i hK hw (va_runV (As := []) (rest := []) ⟨hx, hb, hml, hown, hts⟩ (xc_F_payloadStart l D ad ca ks a1 S q2 ha1 gq2 _) ⟨callB_of 0 hts (xs_good hw_596) rfl rfl rfl (hts _ hw_3) (hts _ hw_603) yd_F_payloadStart ⟨Nat.le_trans (by decide) hRf, Nat.le_trans (by decide) hRl⟩, (hts _ hw_594), (hts _ hw_595)⟩ ⟨xs_blind, xs_recv_F hK hw ha1, fun U h1 h2 => ⟨rfl, xs_pre hK hw h1 h2⟩⟩ rfl rfl hl.1 rfl (lv_room (Nat.le_of_ble_eq_true rfl)) dd_S_readPayload_7 ⟨Nat.zero_le _, Nat.zero_le _⟩) (fun H locs hw => ?_)
  refine lv_istore hx hb dd_S_readPayload_10 hl (by decide) rfl (fun ls hl => ?_)
  have hl : lv_has ls 9 [(5, .int q2), (4, .int q1), (0, .ref (ad k)), (1, .ref (ad a1)), (2, .int n2), (3, .int n3)] := hl
  refine lv_lconst (v := 0) hx hb dd_S_readPayload_12 rfl ?_
  refine lv_lstore hx hb dd_S_readPayload_13 hl (by decide) rfl (fun ls hl => ?_)
  have hl : lv_has ls 9 [(6, .long 0), (5, .int q2), (4, .int q1), (0, .ref (ad k)), (1, .ref (ad a1)), (2, .int n2), (3, .int n3)] := hl
  refine lv_iconst (v := 0) hx hb dd_S_readPayload_15 rfl ?_
  refine lv_istore hx hb dd_S_readPayload_16 hl (by decide) rfl (fun ls hl => ?_)
  have hl : lv_has ls 9 [(8, .int 0), (6, .long 0), (5, .int q2), (4, .int q1), (0, .ref (ad k)), (1, .ref (ad a1)), (2, .int n2), (3, .int n3)] := hl
  exact w_18 xs_fuel q1 q2 0 0 S _ _ _ hw (lv_sub hl [4, 5, 6, 7, 3, 2, 1, 0] rfl) h
set_option maxHeartbeats 4000000 in
set_option maxRecDepth 100000 in
theorem xc_I_add (l : Launch) (D : va_G) (ad : Nat → Nat) (ca : Nat → ClassId) (ks : List Nat) (k : Nat) (n1 : Int64) (S : xs_T) (T : xs_T) (hk : xs_is ks k xs_cI) (h : xf_I_add k n1 S = some T) (sz : Nat) : Met l yy_I_add ws_I_add { frames := 0, cells := 0, slots := 0, locals := 0 } (va_Pc [.ref (ad k), .long n1] (xs_Pre D ad ca ks S sz)) (va_Qv (fun _ : Unit => True) (fun _ t => va_P D xs_cl (xs_w ad ca ks T) t.heap) (xs_A ad ks sz)) 0 0 (xs_A ad ks sz) := by
  refine xm_v (by decide) (Nat.le_of_ble_eq_true rfl) ?_
  intro p e s m args below meth c R A Q ls hx hb hml hown hts hRf hRl hK hw hl hret
  have hl : lv_has ls 3 [(0, .ref (ad k)), (1, .long n1)] := hl
  unfold xf_I_add at h
  refine lv_aload_n hx hb dd_I_add_0 rfl (lv_at hl 0 rfl) ?_
  refine xr_get_I (v := .ref (ad (k + 1))) hx hb hts hown hK hw hk 0 (by decide) (hts _ hw_187) rfl dd_I_add_1 ?_
  refine lv_aload_n hx hb dd_I_add_4 rfl (lv_at hl 0 rfl) ?_
  refine xr_get_I (v := .int (xs_gI S k 1)) hx hb hts hown hK hw hk 1 (by decide) (hts _ hw_188) rfl dd_I_add_5 ?_
  refine lv_iconst (v := 4) hx hb dd_I_add_8 rfl ?_
  refine lv_irem hx hb dd_I_add_9 (by decide) ?_
  refine lv_asI (v := xs_rem (xs_gI S k 1) 4) rfl ?_
  refine lv_lload_n hx hb dd_I_add_10 rfl (lv_at hl 1 rfl) ?_
  obtain ⟨S1, gS1, h⟩ := xs_ob h
  refine xr_last hx hb hK hw (xs_ok_I_latest hK.1 hk) gS1 dd_I_add_11 (fun H locs hw => ?_)
  refine lv_aload_n hx hb dd_I_add_12 rfl (lv_at hl 0 rfl) ?_
  refine lv_dup hx hb dd_I_add_13 rfl ?_
  refine xr_get_I (v := .int (xs_gI S1 k 1)) hx hb hts hown hK hw hk 1 (by decide) (hts _ hw_188) rfl dd_I_add_14 ?_
  refine lv_iconst (v := 1) hx hb dd_I_add_17 rfl ?_
  refine lv_iadd hx hb dd_I_add_18 ?_
  obtain ⟨S2, gS2, h⟩ := xs_ob h
  refine xr_putI_I hx hb hts hown hK hw hk 1 (by decide) (hts _ hw_188) rfl rfl (fun _ _ => rfl) gS2 dd_I_add_19 (fun H locs hw => ?_)
  exact hret h hw dd_I_add_22
set_option maxHeartbeats 4000000 in
set_option maxRecDepth 100000 in
theorem xc_F_option (l : Launch) (D : va_G) (ad : Nat → Nat) (ca : Nat → ClassId) (ks : List Nat) (k : Nat) (n1 : Int32) (S : xs_T) (r : Int32) (hk : xs_is ks k xs_cF) (h : xf_F_option k n1 S = some r) (sz : Nat) : Met l yy_F_option ws_F_option { frames := 0, cells := 0, slots := 0, locals := 0 } (va_Pc [.ref (ad k), .int n1] (xs_Pre D ad ca ks S sz)) (va_Qi (fun r1 (_ : Unit) => r1 = r) (fun _ t => va_P D xs_cl (xs_w ad ca ks S) t.heap) (xs_A ad ks sz)) 0 0 (xs_A ad ks sz) := by
  refine xm_ir (by decide) (Nat.le_of_ble_eq_true rfl) ?_
  intro p e s m args below meth c R A Q ls hx hb hml hown hts hRf hRl hK hw hl hret
  have hl : lv_has ls 2 [(0, .ref (ad k)), (1, .int n1)] := hl
  unfold xf_F_option at h
  refine lv_aload_n hx hb dd_F_option_0 rfl (lv_at hl 0 rfl) ?_
  refine xr_get_F (v := .ref (ad (k + 1))) hx hb hts hown hK hw hk 0 (by decide) (hts _ hw_37) rfl dd_F_option_1 ?_
  refine lv_bipush (v := 8) hx hb dd_F_option_4 rfl ?_
  refine lv_iload_n hx hb dd_F_option_6 rfl (lv_at hl 1 rfl) ?_
  refine lv_iadd hx hb dd_F_option_7 ?_
  obtain ⟨v1, gv1, h⟩ := xs_ob h
  refine xr_iald hx hb hK hw (xs_ok_F_bytes hK.1 hk) gv1 dd_F_option_8 ?_
  exact hret h hw dd_F_option_9
set_option maxHeartbeats 4000000 in
set_option maxRecDepth 100000 in
theorem xc_K_takeData (l : Launch) (D : va_G) (ad : Nat → Nat) (ca : Nat → ClassId) (ks : List Nat) (k : Nat) (a1 : Nat) (n2 : Int32) (S : xs_T) (T : xs_T) (hk : xs_is ks k xs_cK) (ha1 : xs_is ks a1 xs_cF) (h : xf_K_takeData k a1 n2 S = some T) (sz : Nat) : Met l yy_K_takeData ws_K_takeData { frames := 5, cells := 0, slots := 0, locals := 115 } (va_Pc [.ref (ad k), .ref (ad a1), .int n2] (xs_Pre D ad ca ks S sz)) (va_Qv (fun _ : Unit => True) (fun _ t => va_P D xs_cl (xs_w ad ca ks T) t.heap) (xs_A ad ks sz)) 0 0 (xs_A ad ks sz) := by
  refine xm_v (by decide) (Nat.le_of_ble_eq_true rfl) ?_
  intro p e s m args below meth c R A Q ls hx hb hml hown hts hRf hRl hK hw hl hret
  have hl : lv_has ls 7 [(0, .ref (ad k)), (1, .ref (ad a1)), (2, .int n2)] := hl
  have w_180 : ∀ (i4 : Int32) (i5 : Int32) (t1 : Int32) (S : xs_T) (H : Heap) (locs : List Loc) (ls : Array Slot), xs_I D ad ca ks A s S H locs → lv_has ls 7 [(4, .int i4), (5, .int i5)] → xf_K_takeData_180 k a1 n2 i4 i5 t1 S = some T → W p l e R s m args below meth c H locs 0 0 Q (F0 m 180 ls [.int t1, .ref (ad k)]) := by
    intro i4 i5 t1 S H locs ls hw hl h
    unfold xf_K_takeData_180 at h
    refine lv_iload hx hb dd_K_takeData_180 (lv_at hl 0 rfl) ?_
    refine lv_iload hx hb dd_K_takeData_182 (lv_at hl 1 rfl) ?_
    obtain ⟨q16, gq16, h⟩ := xs_ob h
    refine xq_v hK hw (va_runV (As := [.int t1, .int i4, .int i5]) (rest := []) ⟨hx, hb, hml, hown, hts⟩ (xc_K_setDue l D ad ca ks k t1 i4 i5 S q16 hk gq16 _) ⟨callB_of 3 hts (xs_good hw_510) rfl rfl rfl (hts _ hw_12) (hts _ hw_549) yd_K_setDue ⟨Nat.le_trans (by decide) hRf, Nat.le_trans (by decide) hRl⟩, (hts _ hw_508), (hts _ hw_509)⟩ ⟨xs_blind, xs_recv_K hK hw hk, fun U h1 h2 => ⟨rfl, xs_pre hK hw h1 h2⟩⟩ rfl rfl hl.1 rfl (lv_room (Nat.le_of_ble_eq_true rfl)) dd_K_takeData_184 ⟨Nat.zero_le _, Nat.zero_le _⟩) (fun H locs hw => ?_)
    exact hret h hw dd_K_takeData_187
  have w_167 : ∀ (i4 : Int32) (i5 : Int32) (t0 : Int32) (S : xs_T) (H : Heap) (locs : List Loc) (ls : Array Slot), xs_I D ad ca ks A s S H locs → lv_has ls 7 [(0, .ref (ad k)), (4, .int i4), (5, .int i5)] → xf_K_takeData_167 k a1 n2 i4 i5 t0 S = some T → W p l e R s m args below meth c H locs 0 0 Q (F0 m 167 ls [.int t0]) := by
    intro i4 i5 t0 S H locs ls hw hl h
    unfold xf_K_takeData_167 at h
    refine lv_istore hx hb dd_K_takeData_167 hl (by decide) rfl (fun ls hl => ?_)
    have hl : lv_has ls 7 [(6, .int t0), (0, .ref (ad k)), (4, .int i4), (5, .int i5)] := hl
    refine lv_aload_n hx hb dd_K_takeData_169 rfl (lv_at hl 1 rfl) ?_
    refine lv_iload hx hb dd_K_takeData_170 (lv_at hl 0 rfl) ?_
    refine lv_if_eq hx hb dd_K_takeData_172 rfl (fun b15 => ?_) (fun b15 => ?_)
    · replace h := xs_p b15 h
      refine lv_iconst (v := 0) hx hb dd_K_takeData_179 rfl ?_
      exact w_180 i4 i5 0 S _ _ _ hw (lv_sub hl [2, 3] rfl) h
    · replace h := xs_n b15 h
      refine lv_iconst (v := 2) hx hb dd_K_takeData_175 rfl ?_
      refine lv_goto hx hb dd_K_takeData_176 rfl ?_
      exact w_180 i4 i5 2 S _ _ _ hw (lv_sub hl [2, 3] rfl) h
  have w_162 : ∀ (i4 : Int32) (i5 : Int32) (S : xs_T) (H : Heap) (locs : List Loc) (ls : Array Slot), xs_I D ad ca ks A s S H locs → lv_has ls 7 [(0, .ref (ad k)), (4, .int i4), (5, .int i5)] → xf_K_takeData_162 k a1 n2 i4 i5 S = some T → W p l e R s m args below meth c H locs 0 0 Q (F0 m 162 ls []) := by
    intro i4 i5 S H locs ls hw hl h
    unfold xf_K_takeData_162 at h
    refine lv_iconst (v := 1) hx hb dd_K_takeData_162 rfl ?_
    refine lv_goto hx hb dd_K_takeData_163 rfl ?_
    exact w_167 i4 i5 1 S _ _ _ hw (lv_sub hl [0, 1, 2] rfl) h
  have w_143 : ∀ (i4 : Int32) (t0 : Int32) (S : xs_T) (H : Heap) (locs : List Loc) (ls : Array Slot), xs_I D ad ca ks A s S H locs → lv_has ls 7 [(0, .ref (ad k)), (4, .int i4)] → xf_K_takeData_143 k a1 n2 i4 t0 S = some T → W p l e R s m args below meth c H locs 0 0 Q (F0 m 143 ls [.int t0]) := by
    intro i4 t0 S H locs ls hw hl h
    unfold xf_K_takeData_143 at h
    refine lv_istore hx hb dd_K_takeData_143 hl (by decide) rfl (fun ls hl => ?_)
    have hl : lv_has ls 7 [(5, .int t0), (0, .ref (ad k)), (4, .int i4)] := hl
    refine lv_iload hx hb dd_K_takeData_145 (lv_at hl 2 rfl) ?_
    refine lv_if_ne hx hb dd_K_takeData_147 rfl (fun b14 => ?_) (fun b14 => ?_)
    · replace h := xs_n b14 h
      exact w_162 i4 t0 S _ _ _ hw (lv_sub hl [1, 2, 0] rfl) h
    · replace h := xs_p b14 h
      refine lv_iload hx hb dd_K_takeData_150 (lv_at hl 0 rfl) ?_
      refine lv_if_ne hx hb dd_K_takeData_152 rfl (fun b17 => ?_) (fun b17 => ?_)
      · replace h := xs_n b17 h
        exact w_162 i4 t0 S _ _ _ hw (lv_sub hl [1, 2, 0] rfl) h
      · replace h := xs_p b17 h
        refine lv_aload_n hx hb dd_K_takeData_155 rfl (lv_at hl 1 rfl) ?_
        refine xr_get_K (v := .int (xs_gI S k 6)) hx hb hts hown hK hw hk 6 (by decide) (hts _ hw_289) rfl dd_K_takeData_156 ?_
        refine lv_if_le hx hb dd_K_takeData_159 rfl (fun b18 => ?_) (fun b18 => ?_)
        · replace h := xs_p b18 h
          refine lv_iconst (v := 0) hx hb dd_K_takeData_166 rfl ?_
          exact w_167 i4 t0 0 S _ _ _ hw (lv_sub hl [1, 2, 0] rfl) h
        · replace h := xs_n b18 h
          exact w_162 i4 t0 S _ _ _ hw (lv_sub hl [1, 2, 0] rfl) h
  have w_142 : ∀ (i4 : Int32) (S : xs_T) (H : Heap) (locs : List Loc) (ls : Array Slot), xs_I D ad ca ks A s S H locs → lv_has ls 7 [(0, .ref (ad k)), (4, .int i4)] → xf_K_takeData_142 k a1 n2 i4 S = some T → W p l e R s m args below meth c H locs 0 0 Q (F0 m 142 ls []) := by
    intro i4 S H locs ls hw hl h
    unfold xf_K_takeData_142 at h
    refine lv_iconst (v := 0) hx hb dd_K_takeData_142 rfl ?_
    exact w_143 i4 0 S _ _ _ hw (lv_sub hl [0, 1] rfl) h
  have w_121 : ∀ (i4 : Int32) (S : xs_T) (H : Heap) (locs : List Loc) (ls : Array Slot), xs_I D ad ca ks A s S H locs → lv_has ls 7 [(0, .ref (ad k)), (1, .ref (ad a1)), (4, .int i4)] → xf_K_takeData_121 k a1 n2 i4 S = some T → W p l e R s m args below meth c H locs 0 0 Q (F0 m 121 ls []) := by
    intro i4 S H locs ls hw hl h
    unfold xf_K_takeData_121 at h
    refine lv_aload_n hx hb dd_K_takeData_121 rfl (lv_at hl 1 rfl) ?_
    obtain ⟨q12, gq12, h⟩ := xs_ob h
    refine xq_i hK hw (va_runV (As := []) (rest := []) ⟨hx, hb, hml, hown, hts⟩ (xc_F_optionCount l D ad ca ks a1 S q12 ha1 gq12 _) ⟨callB_of 0 hts (xs_good hw_557) rfl rfl rfl (hts _ hw_3) (hts _ hw_612) yd_F_optionCount ⟨Nat.le_trans (by decide) hRf, Nat.le_trans (by decide) hRl⟩, (hts _ hw_555), (hts _ hw_556)⟩ ⟨xs_blind, xs_recv_F hK hw ha1, fun U h1 h2 => ⟨rfl, xs_pre hK hw h1 h2⟩⟩ rfl rfl hl.1 rfl (lv_room (Nat.le_of_ble_eq_true rfl)) dd_K_takeData_122 ⟨Nat.zero_le _, Nat.zero_le _⟩) (fun H locs hw => ?_)
    refine lv_iconst (v := 1) hx hb dd_K_takeData_125 rfl ?_
    refine lv_icmp_ne hx hb dd_K_takeData_126 rfl (fun b13 => ?_) (fun b13 => ?_)
    · replace h := xs_n b13 h
      exact w_142 i4 S _ _ _ hw (lv_sub hl [0, 2] rfl) h
    · replace h := xs_p b13 h
      refine lv_aload_n hx hb dd_K_takeData_129 rfl (lv_at hl 1 rfl) ?_
      refine lv_iconst (v := 0) hx hb dd_K_takeData_130 rfl ?_
      obtain ⟨q19, gq19, h⟩ := xs_ob h
      refine xq_i hK hw (va_runV (As := [.int 0]) (rest := []) ⟨hx, hb, hml, hown, hts⟩ (xc_F_option l D ad ca ks a1 0 S q19 ha1 gq19 _) ⟨callB_of 1 hts (xs_good hw_616) rfl rfl rfl (hts _ hw_3) (hts _ hw_613) yd_F_option ⟨Nat.le_trans (by decide) hRf, Nat.le_trans (by decide) hRl⟩, (hts _ hw_614), (hts _ hw_615)⟩ ⟨xs_blind, xs_recv_F hK hw ha1, fun U h1 h2 => ⟨rfl, xs_pre hK hw h1 h2⟩⟩ rfl rfl hl.1 rfl (lv_room (Nat.le_of_ble_eq_true rfl)) dd_K_takeData_131 ⟨Nat.zero_le _, Nat.zero_le _⟩) (fun H locs hw => ?_)
      refine lv_iconst (v := 2) hx hb dd_K_takeData_134 rfl ?_
      refine lv_icmp_ne hx hb dd_K_takeData_135 rfl (fun b20 => ?_) (fun b20 => ?_)
      · replace h := xs_n b20 h
        exact w_142 i4 S _ _ _ hw (lv_sub hl [0, 2] rfl) h
      · replace h := xs_p b20 h
        refine lv_iconst (v := 1) hx hb dd_K_takeData_138 rfl ?_
        refine lv_goto hx hb dd_K_takeData_139 rfl ?_
        exact w_143 i4 1 S _ _ _ hw (lv_sub hl [0, 2] rfl) h
  have w_47 : ∀ (i3 : Int32) (t0 : Int32) (S : xs_T) (H : Heap) (locs : List Loc) (ls : Array Slot), xs_I D ad ca ks A s S H locs → lv_has ls 7 [(0, .ref (ad k)), (1, .ref (ad a1)), (2, .int n2), (3, .int i3)] → xf_K_takeData_47 k a1 n2 i3 t0 S = some T → W p l e R s m args below meth c H locs 0 0 Q (F0 m 47 ls [.int t0]) := by
    intro i3 t0 S H locs ls hw hl h
    unfold xf_K_takeData_47 at h
    refine lv_istore hx hb dd_K_takeData_47 hl (by decide) rfl (fun ls hl => ?_)
    have hl : lv_has ls 7 [(4, .int t0), (0, .ref (ad k)), (1, .ref (ad a1)), (2, .int n2), (3, .int i3)] := hl
    refine lv_iload_n hx hb dd_K_takeData_49 rfl (lv_at hl 4 rfl) ?_
    refine lv_aload_n hx hb dd_K_takeData_50 rfl (lv_at hl 1 rfl) ?_
    refine xr_get_K (v := .int (xs_gI S k 10)) hx hb hts hown hK hw hk 10 (by decide) (hts _ hw_296) rfl dd_K_takeData_51 ?_
    refine lv_icmp_ne hx hb dd_K_takeData_54 rfl (fun b7 => ?_) (fun b7 => ?_)
    · replace h := xs_n b7 h
      refine lv_aload_n hx hb dd_K_takeData_85 rfl (lv_at hl 1 rfl) ?_
      refine lv_iload_n hx hb dd_K_takeData_86 rfl (lv_at hl 4 rfl) ?_
      obtain ⟨S8, gS8, h⟩ := xs_ob h
      refine xr_putI_K hx hb hts hown hK hw hk 10 (by decide) (hts _ hw_296) rfl rfl (fun _ _ => rfl) gS8 dd_K_takeData_87 (fun H locs hw => ?_)
      refine lv_aload_n hx hb dd_K_takeData_90 rfl (lv_at hl 1 rfl) ?_
      refine lv_iconst (v := 1) hx hb dd_K_takeData_91 rfl ?_
      refine lv_iload_n hx hb dd_K_takeData_92 rfl (lv_at hl 3 rfl) ?_
      refine lv_ishl hx hb dd_K_takeData_93 ?_
      obtain ⟨S9, gS9, h⟩ := xs_ob h
      refine xr_putI_K hx hb hts hown hK hw hk 12 (by decide) (hts _ hw_298) rfl rfl (fun _ _ => rfl) gS9 dd_K_takeData_94 (fun H locs hw => ?_)
      refine lv_aload_n hx hb dd_K_takeData_97 rfl (lv_at hl 2 rfl) ?_
      obtain ⟨q10, gq10, h⟩ := xs_ob h
      refine xq_i hK hw (va_runV (As := []) (rest := []) ⟨hx, hb, hml, hown, hts⟩ (xc_F_payloadBytes l D ad ca ks a1 S9 q10 ha1 gq10 _) ⟨callB_of 0 hts (xs_good hw_592) rfl rfl rfl (hts _ hw_3) (hts _ hw_589) yd_F_payloadBytes ⟨Nat.le_trans (by decide) hRf, Nat.le_trans (by decide) hRl⟩, (hts _ hw_590), (hts _ hw_591)⟩ ⟨xs_blind, xs_recv_F hK hw ha1, fun U h1 h2 => ⟨rfl, xs_pre hK hw h1 h2⟩⟩ rfl rfl hl.1 rfl (lv_room (Nat.le_of_ble_eq_true rfl)) dd_K_takeData_98 ⟨Nat.zero_le _, Nat.zero_le _⟩) (fun H locs hw => ?_)
      refine lv_if_le hx hb dd_K_takeData_101 rfl (fun b11 => ?_) (fun b11 => ?_)
      · replace h := xs_p b11 h
        exact w_121 t0 S9 _ _ _ hw (lv_sub hl [1, 2, 0] rfl) h
      · replace h := xs_n b11 h
        refine lv_aload_n hx hb dd_K_takeData_104 rfl (lv_at hl 1 rfl) ?_
        refine xr_get_K (v := .ref (ad (k + 12))) hx hb hts hown hK hw hk 3 (by decide) (hts _ hw_285) rfl dd_K_takeData_105 ?_
        refine lv_aload_n hx hb dd_K_takeData_108 rfl (lv_at hl 1 rfl) ?_
        refine xr_get_K (v := .ref (ad (k + 1))) hx hb hts hown hK hw hk 2 (by decide) (hts _ hw_283) rfl dd_K_takeData_109 ?_
        refine lv_aload_n hx hb dd_K_takeData_112 rfl (lv_at hl 2 rfl) ?_
        refine lv_iconst (v := 0) hx hb dd_K_takeData_113 rfl ?_
        refine lv_iload_n hx hb dd_K_takeData_114 rfl (lv_at hl 4 rfl) ?_
        obtain ⟨q21, gq21, h⟩ := xs_ob h
        refine xq_l hK hw (va_runV (As := [.ref (ad a1), .int 0, .int i3]) (rest := [.ref (ad (k + 12))]) ⟨hx, hb, hml, hown, hts⟩ (xc_S_readPayload l D ad ca ks (k + 1) a1 0 i3 S9 q21.1 q21.2 (xs_ok_K_session hK.1 hk) ha1 gq21 _) ⟨callB_of 3 hts (xs_good hw_601) rfl rfl rfl (hts _ hw_9) (hts _ hw_598) yd_S_readPayload ⟨Nat.le_trans (by decide) hRf, Nat.le_trans (by decide) hRl⟩, (hts _ hw_599), (hts _ hw_600)⟩ ⟨xs_blind, xs_recv_S hK hw (xs_ok_K_session hK.1 hk), fun U h1 h2 => ⟨rfl, xs_pre hK hw h1 h2⟩⟩ rfl rfl hl.1 rfl (lv_room (Nat.le_of_ble_eq_true rfl)) dd_K_takeData_115 ⟨Nat.zero_le _, Nat.zero_le _⟩) (fun H locs hw => ?_)
        obtain ⟨q22, gq22, h⟩ := xs_ob h
        refine xq_v hK hw (va_runV (As := [.long q21.1]) (rest := []) ⟨hx, hb, hml, hown, hts⟩ (xc_I_add l D ad ca ks (k + 12) q21.1 q21.2 q22 (xs_ok_K_inbox hK.1 hk) gq22 _) ⟨callB_of 1 hts (xs_good hw_611) rfl rfl rfl (hts _ hw_10) (hts _ hw_608) yd_I_add ⟨Nat.le_trans (by decide) hRf, Nat.le_trans (by decide) hRl⟩, (hts _ hw_609), (hts _ hw_610)⟩ ⟨xs_blind, xs_recv_I hK hw (xs_ok_K_inbox hK.1 hk), fun U h1 h2 => ⟨rfl, xs_pre hK hw h1 h2⟩⟩ rfl rfl hl.1 rfl (lv_room (Nat.le_of_ble_eq_true rfl)) dd_K_takeData_118 ⟨Nat.zero_le _, Nat.zero_le _⟩) (fun H locs hw => ?_)
        exact w_121 t0 q22 _ _ _ hw (lv_sub hl [1, 2, 0] rfl) h
    · replace h := xs_p b7 h
      refine lv_aload_n hx hb dd_K_takeData_57 rfl (lv_at hl 1 rfl) ?_
      refine lv_dup hx hb dd_K_takeData_58 rfl ?_
      refine xr_get_K (v := .int (xs_gI S k 12)) hx hb hts hown hK hw hk 12 (by decide) (hts _ hw_298) rfl dd_K_takeData_59 ?_
      refine lv_iconst (v := 1) hx hb dd_K_takeData_62 rfl ?_
      refine lv_iload_n hx hb dd_K_takeData_63 rfl (lv_at hl 3 rfl) ?_
      refine lv_ishl hx hb dd_K_takeData_64 ?_
      refine lv_ior hx hb dd_K_takeData_65 ?_
      obtain ⟨S23, gS23, h⟩ := xs_ob h
      refine xr_putI_K hx hb hts hown hK hw hk 12 (by decide) (hts _ hw_298) rfl rfl (fun _ _ => rfl) gS23 dd_K_takeData_66 (fun H locs hw => ?_)
      refine lv_iload hx hb dd_K_takeData_69 (lv_at hl 0 rfl) ?_
      refine lv_if_eq hx hb dd_K_takeData_71 rfl (fun b24 => ?_) (fun b24 => ?_)
      · replace h := xs_p b24 h
        exact hret h hw dd_K_takeData_84
      · replace h := xs_n b24 h
        refine lv_aload_n hx hb dd_K_takeData_74 rfl (lv_at hl 1 rfl) ?_
        refine lv_iconst (v := 2) hx hb dd_K_takeData_75 rfl ?_
        refine lv_iconst (v := 1) hx hb dd_K_takeData_76 rfl ?_
        refine lv_aload_n hx hb dd_K_takeData_77 rfl (lv_at hl 1 rfl) ?_
        refine xr_get_K (v := .int (xs_gI S23 k 15)) hx hb hts hown hK hw hk 15 (by decide) (hts _ hw_302) rfl dd_K_takeData_78 ?_
        obtain ⟨q25, gq25, h⟩ := xs_ob h
        refine xq_v hK hw (va_runV (As := [.int 2, .int 1, .int (xs_gI S23 k 15)]) (rest := []) ⟨hx, hb, hml, hown, hts⟩ (xc_K_setDue l D ad ca ks k 2 1 (xs_gI S23 k 15) S23 q25 hk gq25 _) ⟨callB_of 3 hts (xs_good hw_510) rfl rfl rfl (hts _ hw_12) (hts _ hw_549) yd_K_setDue ⟨Nat.le_trans (by decide) hRf, Nat.le_trans (by decide) hRl⟩, (hts _ hw_508), (hts _ hw_509)⟩ ⟨xs_blind, xs_recv_K hK hw hk, fun U h1 h2 => ⟨rfl, xs_pre hK hw h1 h2⟩⟩ rfl rfl hl.1 rfl (lv_room (Nat.le_of_ble_eq_true rfl)) dd_K_takeData_81 ⟨Nat.zero_le _, Nat.zero_le _⟩) (fun H locs hw => ?_)
        exact hret h hw dd_K_takeData_84
  unfold xf_K_takeData at h
  refine lv_aload_n hx hb dd_K_takeData_0 rfl (lv_at hl 0 rfl) ?_
  refine xr_get_K (v := .int (xs_gI S k 10)) hx hb hts hown hK hw hk 10 (by decide) (hts _ hw_296) rfl dd_K_takeData_1 ?_
  refine lv_iconst (v := 0) hx hb dd_K_takeData_4 rfl ?_
  refine xr_max hx hb (hml.trans hl.1.symm) hown (hts _ hw_575) (hts _ hw_576) (hts _ hw_15) (hts _ hw_577) (Nat.le_trans (by decide) hRf) (Nat.le_trans (Nat.le_of_ble_eq_true rfl) hRl) dd_K_takeData_5 ?_
  refine lv_aload_n hx hb dd_K_takeData_8 rfl (lv_at hl 1 rfl) ?_
  obtain ⟨q1, gq1, h⟩ := xs_ob h
  refine xq_i hK hw (va_runV (As := []) (rest := [.int (xs_max (xs_gI S k 10) 0)]) ⟨hx, hb, hml, hown, hts⟩ (xc_F_countEnd l D ad ca ks a1 S q1 ha1 gq1 _) ⟨callB_of 0 hts (xs_good hw_581) rfl rfl rfl (hts _ hw_3) (hts _ hw_578) yd_F_countEnd ⟨Nat.le_trans (by decide) hRf, Nat.le_trans (by decide) hRl⟩, (hts _ hw_579), (hts _ hw_580)⟩ ⟨xs_blind, xs_recv_F hK hw ha1, fun U h1 h2 => ⟨rfl, xs_pre hK hw h1 h2⟩⟩ rfl rfl hl.1 rfl (lv_room (Nat.le_of_ble_eq_true rfl)) dd_K_takeData_9 ⟨Nat.zero_le _, Nat.zero_le _⟩) (fun H locs hw => ?_)
  obtain ⟨q2, gq2, h⟩ := xs_ob h
  refine xq_i hK hw (va_runSN (As := [.int (xs_max (xs_gI S k 10) 0), .int q1]) (rest := []) ⟨hx, hb, hml, hown, hts⟩ (xc_W_countFrom l D ad ca ks (xs_max (xs_gI S k 10) 0) q1 S q2 gq2 _) ⟨va_cnB 2 hts (xs_good hw_584) rfl rfl rfl (hK.2.2.2.1 _ hn_582 rfl) (hts _ hw_1) yd_W_countFrom ⟨Nat.le_trans (by decide) hRf, Nat.le_trans (by decide) hRl⟩, (hts _ hw_583), trivial⟩ ⟨xs_blind, fun U h1 h2 => ⟨rfl, xs_pre hK hw h1 h2⟩⟩ rfl rfl hl.1 rfl (lv_room (Nat.le_of_ble_eq_true rfl)) dd_K_takeData_12 ⟨Nat.zero_le _, Nat.zero_le _⟩) (fun H locs hw => ?_)
  refine lv_istore_n hx hb dd_K_takeData_15 rfl hl (by decide) rfl (fun ls hl => ?_)
  have hl : lv_has ls 7 [(3, .int q2), (0, .ref (ad k)), (1, .ref (ad a1)), (2, .int n2)] := hl
  refine lv_aload_n hx hb dd_K_takeData_16 rfl (lv_at hl 1 rfl) ?_
  refine xr_get_K (v := .ref (ad (k + 1))) hx hb hts hown hK hw hk 2 (by decide) (hts _ hw_283) rfl dd_K_takeData_17 ?_
  refine lv_aload_n hx hb dd_K_takeData_20 rfl (lv_at hl 2 rfl) ?_
  refine lv_iconst (v := 0) hx hb dd_K_takeData_21 rfl ?_
  refine lv_iload_n hx hb dd_K_takeData_22 rfl (lv_at hl 0 rfl) ?_
  obtain ⟨q3, gq3, h⟩ := xs_ob h
  refine xq_i hK hw (va_runV (As := [.ref (ad a1), .int 0, .int q2]) (rest := []) ⟨hx, hb, hml, hown, hts⟩ (xc_S_isCodeRight l D ad ca ks (k + 1) a1 0 q2 S q3.1 q3.2 (xs_ok_K_session hK.1 hk) ha1 gq3 _) ⟨callB_of 3 hts (xs_good hw_588) rfl rfl rfl (hts _ hw_9) (hts _ hw_585) yd_S_isCodeRight ⟨Nat.le_trans (by decide) hRf, Nat.le_trans (by decide) hRl⟩, (hts _ hw_586), (hts _ hw_587)⟩ ⟨xs_blind, xs_recv_S hK hw (xs_ok_K_session hK.1 hk), fun U h1 h2 => ⟨rfl, xs_pre hK hw h1 h2⟩⟩ rfl rfl hl.1 rfl (lv_room (Nat.le_of_ble_eq_true rfl)) dd_K_takeData_23 ⟨Nat.zero_le _, Nat.zero_le _⟩) (fun H locs hw => ?_)
  refine lv_if_ne hx hb dd_K_takeData_26 rfl (fun b4 => ?_) (fun b4 => ?_)
  · replace h := xs_n b4 h
    refine lv_aload_n hx hb dd_K_takeData_30 rfl (lv_at hl 2 rfl) ?_
    refine xr_getN_F (v := .ref (ad (a1 + 1))) hx hb hts hown hK hw ha1 0 (by decide) (va_Nw.use rfl (hK.2.2.2.1 _ hn_40 rfl)) rfl dd_K_takeData_31 ?_
    refine lv_iconst (v := 0) hx hb dd_K_takeData_34 rfl ?_
    obtain ⟨v5, gv5, h⟩ := xs_ob h
    refine xr_iald hx hb hK hw (xs_ok_F_bytes hK.1 ha1) gv5 dd_K_takeData_35 ?_
    refine lv_sipush (v := 128) hx hb dd_K_takeData_36 rfl ?_
    refine lv_icmp_ne hx hb dd_K_takeData_39 rfl (fun b6 => ?_) (fun b6 => ?_)
    · replace h := xs_n b6 h
      refine lv_iconst (v := 0) hx hb dd_K_takeData_46 rfl ?_
      exact w_47 q2 0 q3.2 _ _ _ hw (lv_sub hl [1, 2, 3, 0] rfl) h
    · replace h := xs_p b6 h
      refine lv_iconst (v := 1) hx hb dd_K_takeData_42 rfl ?_
      refine lv_goto hx hb dd_K_takeData_43 rfl ?_
      exact w_47 q2 1 q3.2 _ _ _ hw (lv_sub hl [1, 2, 3, 0] rfl) h
  · replace h := xs_p b4 h
    exact hret h hw dd_K_takeData_29
set_option maxHeartbeats 4000000 in
set_option maxRecDepth 100000 in
theorem xc_V_takeData (l : Launch) (D : va_G) (ad : Nat → Nat) (ca : Nat → ClassId) (ks : List Nat) (hf : ks = xs_all) (k : Nat) (a1 : Nat) (n2 : Int32) (S : xs_T) (T : xs_T) (hk : xs_is ks k xs_cV) (ha1 : xs_is ks a1 xs_cF) (h : xf_V_takeData k a1 n2 S = some T) (sz : Nat) : Met l yy_V_takeData ws_V_takeData { frames := 6, cells := 0, slots := 0, locals := 141 } (va_Pc [.ref (ad k), .ref (ad a1), .int n2] (xs_Pre D ad ca ks S sz)) (va_Qv (fun _ : Unit => True) (fun _ t => va_P D xs_cl (xs_w ad ca ks T) t.heap) (xs_A ad ks sz)) 0 0 (xs_A ad ks sz) := by
  refine xm_v (by decide) (Nat.le_of_ble_eq_true rfl) ?_
  intro p e s m args below meth c R A Q ls hx hb hml hown hts hRf hRl hK hw hl hret
  have hl : lv_has ls 4 [(0, .ref (ad k)), (1, .ref (ad a1)), (2, .int n2)] := hl
  have w_49 : ∀ (c2 : Int32 → xs_T → Option (xs_T)) (y2 : ∀ (i3 : Int32) (S : xs_T) (H : Heap) (locs : List Loc) (ls : Array Slot), xs_I D ad ca ks A s S H locs → lv_has ls 4 [(0, .ref (ad k)), (1, .ref (ad a1)), (2, .int n2), (3, .int i3)] → c2 i3 S = some T → W p l e R s m args below meth c H locs 0 0 Q (F0 m 2 ls [])), ∀ (i3 : Int32) (S : xs_T) (H : Heap) (locs : List Loc) (ls : Array Slot), xs_I D ad ca ks A s S H locs → lv_has ls 4 [(0, .ref (ad k)), (1, .ref (ad a1)), (2, .int n2), (3, .int i3)] → xf_V_takeData_49 k a1 n2 c2 i3 S = some T → W p l e R s m args below meth c H locs 0 0 Q (F0 m 49 ls []) := by
    intro c2 y2 i3 S H locs ls hw hl h
    unfold xf_V_takeData_49 at h
    refine lv_iinc (k := 3) (v := i3 + 1) hx hb dd_V_takeData_49 hl rfl rfl (by decide) rfl (fun ls hl => ?_)
    have hl : lv_has ls 4 [(3, .int (i3 + 1)), (0, .ref (ad k)), (1, .ref (ad a1)), (2, .int n2)] := hl
    refine lv_goto hx hb dd_V_takeData_52 rfl ?_
    exact y2 (i3 + 1) S _ _ _ hw (lv_sub hl [1, 2, 3, 0] rfl) h
  have w_2 : ∀ (f : Nat), ∀ (i3 : Int32) (S : xs_T) (H : Heap) (locs : List Loc) (ls : Array Slot), xs_I D ad ca ks A s S H locs → lv_has ls 4 [(0, .ref (ad k)), (1, .ref (ad a1)), (2, .int n2), (3, .int i3)] → xf_V_takeData_2 k a1 n2 f i3 S = some T → W p l e R s m args below meth c H locs 0 0 Q (F0 m 2 ls []) := by
    intro f
    induction f with
    | zero => intro i3 S H locs ls hw hl h; exact absurd h (by simp [xf_V_takeData_2])
    | succ f ih =>
      intro i3 S H locs ls hw hl h
      rw [xf_V_takeData_2] at h
      refine lv_iload_n hx hb dd_V_takeData_2 rfl (lv_at hl 3 rfl) ?_
      refine lv_iconst (v := 3) hx hb dd_V_takeData_3 rfl ?_
      refine lv_icmp_ge hx hb dd_V_takeData_4 rfl (fun b1 => ?_) (fun b1 => ?_)
      · replace h := xs_p b1 h
        exact hret h hw dd_V_takeData_55
      · replace h := xs_n b1 h
        refine lv_aload_n hx hb dd_V_takeData_7 rfl (lv_at hl 0 rfl) ?_
        refine xr_get_V (v := .ref (ad (k + 1))) hx hb hts hown hK hw hk 0 (by decide) (hts _ hw_336) rfl dd_V_takeData_8 ?_
        refine lv_iload_n hx hb dd_V_takeData_11 rfl (lv_at hl 3 rfl) ?_
        obtain ⟨u2, gu2, h⟩ := xs_ob h
        have ku2 := xs_okU hf (by decide) gu2
        refine xr_aald_K hx hb hK hw (xs_ok_V_accounts hK.1 hk) gu2 dd_V_takeData_12 ?_
        refine xr_getN_K (v := .int (xs_gI S u2 7)) hx hb hts hown hK hw ku2 7 (by decide) (va_Nw.use rfl (hK.2.2.2.1 _ hn_291 rfl)) rfl dd_V_takeData_13 ?_
        refine lv_if_le hx hb dd_V_takeData_16 rfl (fun b3 => ?_) (fun b3 => ?_)
        · replace h := xs_p b3 h
          exact w_49 (xf_V_takeData_2 k a1 n2 f) ih i3 S _ _ _ hw (lv_sub hl [0, 1, 2, 3] rfl) h
        · replace h := xs_n b3 h
          refine lv_aload_n hx hb dd_V_takeData_19 rfl (lv_at hl 0 rfl) ?_
          refine xr_get_V (v := .ref (ad (k + 1))) hx hb hts hown hK hw hk 0 (by decide) (hts _ hw_336) rfl dd_V_takeData_20 ?_
          refine lv_iload_n hx hb dd_V_takeData_23 rfl (lv_at hl 3 rfl) ?_
          obtain ⟨u4, gu4, h⟩ := xs_ob h
          have ku4 := xs_okU hf (by decide) gu4
          refine xr_aald_K hx hb hK hw (xs_ok_V_accounts hK.1 hk) gu4 dd_V_takeData_24 ?_
          refine xr_getN_K (v := .ref (ad (u4 + 1))) hx hb hts hown hK hw ku4 2 (by decide) (va_Nw.use rfl (hK.2.2.2.1 _ hn_284 rfl)) rfl dd_V_takeData_25 ?_
          refine xr_getN_S (v := .int (xs_gI S (u4 + 1) 4)) hx hb hts hown hK hw (xs_ok_K_session hK.1 ku4) 4 (by decide) (va_Nw.use rfl (hK.2.2.2.1 _ hn_167 rfl)) rfl dd_V_takeData_28 ?_
          refine lv_aload_n hx hb dd_V_takeData_31 rfl (lv_at hl 1 rfl) ?_
          obtain ⟨q5, gq5, h⟩ := xs_ob h
          refine xq_i hK hw (va_runV (As := []) (rest := [.int (xs_gI S (u4 + 1) 4)]) ⟨hx, hb, hml, hown, hts⟩ (xc_F_address l D ad ca ks a1 S q5 ha1 gq5 _) ⟨callB_of 0 hts (xs_good hw_569) rfl rfl rfl (hts _ hw_3) (hts _ hw_566) yd_F_address ⟨Nat.le_trans (by decide) hRf, Nat.le_trans (by decide) hRl⟩, (hts _ hw_567), (hts _ hw_568)⟩ ⟨xs_blind, xs_recv_F hK hw ha1, fun U h1 h2 => ⟨rfl, xs_pre hK hw h1 h2⟩⟩ rfl rfl hl.1 rfl (lv_room (Nat.le_of_ble_eq_true rfl)) dd_V_takeData_32 ⟨Nat.zero_le _, Nat.zero_le _⟩) (fun H locs hw => ?_)
          refine lv_icmp_ne hx hb dd_V_takeData_35 rfl (fun b6 => ?_) (fun b6 => ?_)
          · replace h := xs_n b6 h
            exact w_49 (xf_V_takeData_2 k a1 n2 f) ih i3 S _ _ _ hw (lv_sub hl [0, 1, 2, 3] rfl) h
          · replace h := xs_p b6 h
            refine lv_aload_n hx hb dd_V_takeData_38 rfl (lv_at hl 0 rfl) ?_
            refine xr_get_V (v := .ref (ad (k + 1))) hx hb hts hown hK hw hk 0 (by decide) (hts _ hw_336) rfl dd_V_takeData_39 ?_
            refine lv_iload_n hx hb dd_V_takeData_42 rfl (lv_at hl 3 rfl) ?_
            obtain ⟨u7, gu7, h⟩ := xs_ob h
            have ku7 := xs_okU hf (by decide) gu7
            refine xr_aald_K hx hb hK hw (xs_ok_V_accounts hK.1 hk) gu7 dd_V_takeData_43 ?_
            refine lv_aload_n hx hb dd_V_takeData_44 rfl (lv_at hl 1 rfl) ?_
            refine lv_iload_n hx hb dd_V_takeData_45 rfl (lv_at hl 2 rfl) ?_
            obtain ⟨q8, gq8, h⟩ := xs_ob h
            refine xq_v hK hw (va_runV (As := [.ref (ad a1), .int n2]) (rest := []) ⟨hx, hb, hml, hown, hts⟩ (xc_K_takeData l D ad ca ks u7 a1 n2 S q8 ku7 ha1 gq8 _) ⟨callB_of 2 hts (xs_good hw_574) rfl rfl rfl (hts _ hw_12) (hts _ hw_571) yd_K_takeData ⟨Nat.le_trans (by decide) hRf, Nat.le_trans (by decide) hRl⟩, (hts _ hw_572), (hts _ hw_573)⟩ ⟨xs_blind, xs_recv_K hK hw ku7, fun U h1 h2 => ⟨rfl, xs_pre hK hw h1 h2⟩⟩ rfl rfl hl.1 rfl (lv_room (Nat.le_of_ble_eq_true rfl)) dd_V_takeData_46 ⟨Nat.zero_le _, Nat.zero_le _⟩) (fun H locs hw => ?_)
            exact w_49 (xf_V_takeData_2 k a1 n2 f) ih i3 q8 _ _ _ hw (lv_sub hl [0, 1, 2, 3] rfl) h
  unfold xf_V_takeData at h
  refine lv_iconst (v := 0) hx hb dd_V_takeData_0 rfl ?_
  refine lv_istore_n hx hb dd_V_takeData_1 rfl hl (by decide) rfl (fun ls hl => ?_)
  have hl : lv_has ls 4 [(3, .int 0), (0, .ref (ad k)), (1, .ref (ad a1)), (2, .int n2)] := hl
  exact w_2 xs_fuel 0 S _ _ _ hw (lv_sub hl [1, 2, 3, 0] rfl) h
set_option maxHeartbeats 4000000 in
set_option maxRecDepth 100000 in
theorem xc_W_hear (l : Launch) (D : va_G) (ad : Nat → Nat) (ca : Nat → ClassId) (ks : List Nat) (hf : ks = xs_all) (k : Nat) (n1 : Int32) (n2 : Int32) (S : xs_T) (r : Int32) (T : xs_T) (hk : xs_is ks k xs_cW) (h : xf_W_hear k n1 n2 S = some (r, T)) (sz : Nat) : Met l yy_W_hear ws_W_hear { frames := 7, cells := 0, slots := 0, locals := 164 } (va_Pc [.ref (ad k), .int n1, .int n2] (xs_Pre D ad ca ks S sz)) (va_Qi (fun r1 (_ : Unit) => r1 = r) (fun _ t => va_P D xs_cl (xs_w ad ca ks T) t.heap) (xs_A ad ks sz)) 0 0 (xs_A ad ks sz) := by
  refine xm_z (by decide) (Nat.le_of_ble_eq_true rfl) ?_
  intro p e s m args below meth c R A Q ls hx hb hml hown hts hRf hRl hK hw hl hret
  have hl : lv_has ls 4 [(0, .ref (ad k)), (1, .int n1), (2, .int n2)] := hl
  unfold xf_W_hear at h
  refine lv_aload_n hx hb dd_W_hear_0 rfl (lv_at hl 0 rfl) ?_
  refine xr_get_W (v := .ref (ad (k + 1))) hx hb hts hown hK hw hk 0 (by decide) (hts _ hw_347) rfl dd_W_hear_1 ?_
  refine lv_iload_n hx hb dd_W_hear_4 rfl (lv_at hl 1 rfl) ?_
  obtain ⟨q1, gq1, h⟩ := xs_ob h
  refine xq_i hK hw (va_runV (As := [.int n1]) (rest := []) ⟨hx, hb, hml, hown, hts⟩ (xc_A_holds l D ad ca ks (k + 1) n1 S q1 (xs_ok_W_air hK.1 hk) gq1 _) ⟨callB_of 1 hts (xs_good hw_523) rfl rfl rfl (hts _ hw_2) (hts _ hw_520) yd_A_holds ⟨Nat.le_trans (by decide) hRf, Nat.le_trans (by decide) hRl⟩, (hts _ hw_521), (hts _ hw_522)⟩ ⟨xs_blind, xs_recv_A hK hw (xs_ok_W_air hK.1 hk), fun U h1 h2 => ⟨rfl, xs_pre hK hw h1 h2⟩⟩ rfl rfl hl.1 rfl (lv_room (Nat.le_of_ble_eq_true rfl)) dd_W_hear_5 ⟨Nat.zero_le _, Nat.zero_le _⟩) (fun H locs hw => ?_)
  refine lv_if_eq hx hb dd_W_hear_8 rfl (fun b2 => ?_) (fun b2 => ?_)
  · replace h := xs_p b2 h
    refine lv_iconst (v := 0) hx hb dd_W_hear_20 rfl ?_
    exact hret h hw dd_W_hear_21
  · replace h := xs_n b2 h
    refine lv_iload_n hx hb dd_W_hear_11 rfl (lv_at hl 2 rfl) ?_
    refine lv_if_lt hx hb dd_W_hear_12 rfl (fun b3 => ?_) (fun b3 => ?_)
    · replace h := xs_p b3 h
      refine lv_iconst (v := 0) hx hb dd_W_hear_20 rfl ?_
      exact hret h hw dd_W_hear_21
    · replace h := xs_n b3 h
      refine lv_iload_n hx hb dd_W_hear_15 rfl (lv_at hl 2 rfl) ?_
      refine lv_iconst (v := 2) hx hb dd_W_hear_16 rfl ?_
      refine lv_icmp_lt hx hb dd_W_hear_17 rfl (fun b4 => ?_) (fun b4 => ?_)
      · replace h := xs_p b4 h
        refine lv_aload_n hx hb dd_W_hear_22 rfl (lv_at hl 0 rfl) ?_
        refine xr_get_W (v := .ref (ad (k + 1))) hx hb hts hown hK hw hk 0 (by decide) (hts _ hw_347) rfl dd_W_hear_23 ?_
        refine xr_getN_A (v := .ref (ad (k + 2))) hx hb hts hown hK hw (xs_ok_W_air hK.1 hk) 0 (by decide) (va_Nw.use rfl (hK.2.2.2.1 _ hn_59 rfl)) rfl dd_W_hear_26 ?_
        refine lv_iload_n hx hb dd_W_hear_29 rfl (lv_at hl 1 rfl) ?_
        obtain ⟨u5, gu5, h⟩ := xs_ob h
        have ku5 := xs_okU hf (by decide) gu5
        refine xr_aald_F hx hb hK hw (xs_ok_A_underWay hK.1 (xs_ok_W_air hK.1 hk)) gu5 dd_W_hear_30 ?_
        refine lv_astore_n hx hb dd_W_hear_31 rfl hl (by decide) rfl (fun ls hl => ?_)
        have hl : lv_has ls 4 [(3, .ref (ad u5)), (0, .ref (ad k)), (1, .int n1), (2, .int n2)] := hl
        refine lv_aload_n hx hb dd_W_hear_32 rfl (lv_at hl 0 rfl) ?_
        refine xr_getN_F (v := .int (xs_gI S u5 2)) hx hb hts hown hK hw ku5 2 (by decide) (va_Nw.use rfl (hK.2.2.2.1 _ hn_49 rfl)) rfl dd_W_hear_33 ?_
        refine lv_iconst (v := 3) hx hb dd_W_hear_36 rfl ?_
        refine lv_icmp_eq hx hb dd_W_hear_37 rfl (fun b6 => ?_) (fun b6 => ?_)
        · replace h := xs_p b6 h
          refine lv_aload_n hx hb dd_W_hear_42 rfl (lv_at hl 0 rfl) ?_
          obtain ⟨q7, gq7, h⟩ := xs_ob h
          refine xq_i hK hw (va_runV (As := []) (rest := []) ⟨hx, hb, hml, hown, hts⟩ (xc_F_hasJoinForm l D ad ca ks u5 S q7 ku5 gq7 _) ⟨callB_of 0 hts (xs_good hw_527) rfl rfl rfl (hts _ hw_3) (hts _ hw_524) yd_F_hasJoinForm ⟨Nat.le_trans (by decide) hRf, Nat.le_trans (by decide) hRl⟩, (hts _ hw_525), (hts _ hw_526)⟩ ⟨xs_blind, xs_recv_F hK hw ku5, fun U h1 h2 => ⟨rfl, xs_pre hK hw h1 h2⟩⟩ rfl rfl hl.1 rfl (lv_room (Nat.le_of_ble_eq_true rfl)) dd_W_hear_43 ⟨Nat.zero_le _, Nat.zero_le _⟩) (fun H locs hw => ?_)
          refine lv_if_eq hx hb dd_W_hear_46 rfl (fun b8 => ?_) (fun b8 => ?_)
          · replace h := xs_p b8 h
            refine lv_aload_n hx hb dd_W_hear_60 rfl (lv_at hl 0 rfl) ?_
            obtain ⟨q9, gq9, h⟩ := xs_ob h
            refine xq_i hK hw (va_runV (As := []) (rest := []) ⟨hx, hb, hml, hown, hts⟩ (xc_F_hasDataForm l D ad ca ks u5 S q9 ku5 gq9 _) ⟨callB_of 0 hts (xs_good hw_553) rfl rfl rfl (hts _ hw_3) (hts _ hw_550) yd_F_hasDataForm ⟨Nat.le_trans (by decide) hRf, Nat.le_trans (by decide) hRl⟩, (hts _ hw_551), (hts _ hw_552)⟩ ⟨xs_blind, xs_recv_F hK hw ku5, fun U h1 h2 => ⟨rfl, xs_pre hK hw h1 h2⟩⟩ rfl rfl hl.1 rfl (lv_room (Nat.le_of_ble_eq_true rfl)) dd_W_hear_61 ⟨Nat.zero_le _, Nat.zero_le _⟩) (fun H locs hw => ?_)
            refine lv_if_eq hx hb dd_W_hear_64 rfl (fun b10 => ?_) (fun b10 => ?_)
            · replace h := xs_p b10 h
              refine lv_iconst (v := 1) hx hb dd_W_hear_87 rfl ?_
              exact hret h hw dd_W_hear_88
            · replace h := xs_n b10 h
              refine lv_aload_n hx hb dd_W_hear_67 rfl (lv_at hl 0 rfl) ?_
              refine xr_getN_F (v := .ref (ad (u5 + 1))) hx hb hts hown hK hw ku5 0 (by decide) (va_Nw.use rfl (hK.2.2.2.1 _ hn_42 rfl)) rfl dd_W_hear_68 ?_
              refine lv_iconst (v := 0) hx hb dd_W_hear_71 rfl ?_
              obtain ⟨v11, gv11, h⟩ := xs_ob h
              refine xr_iald hx hb hK hw (xs_ok_F_bytes hK.1 ku5) gv11 dd_W_hear_72 ?_
              refine lv_bipush (v := 96) hx hb dd_W_hear_73 rfl ?_
              refine lv_icmp_eq hx hb dd_W_hear_75 rfl (fun b12 => ?_) (fun b12 => ?_)
              · replace h := xs_p b12 h
                refine lv_iconst (v := 1) hx hb dd_W_hear_87 rfl ?_
                exact hret h hw dd_W_hear_88
              · replace h := xs_n b12 h
                refine lv_aload_n hx hb dd_W_hear_78 rfl (lv_at hl 1 rfl) ?_
                refine xr_get_W (v := .ref (ad (k + 119))) hx hb hts hown hK hw hk 2 (by decide) (hts _ hw_349) rfl dd_W_hear_79 ?_
                refine lv_aload_n hx hb dd_W_hear_82 rfl (lv_at hl 0 rfl) ?_
                refine lv_iload_n hx hb dd_W_hear_83 rfl (lv_at hl 3 rfl) ?_
                obtain ⟨q13, gq13, h⟩ := xs_ob h
                refine xq_v hK hw (va_runV (As := [.ref (ad u5), .int n2]) (rest := []) ⟨hx, hb, hml, hown, hts⟩ (xc_V_takeData l D ad ca ks hf (k + 119) u5 n2 S q13 (xs_ok_W_server hK.1 hk) ku5 gq13 _) ⟨callB_of 2 hts (xs_good hw_565) rfl rfl rfl (hts _ hw_11) (hts _ hw_562) yd_V_takeData ⟨Nat.le_trans (by decide) hRf, Nat.le_trans (by decide) hRl⟩, (hts _ hw_563), (hts _ hw_564)⟩ ⟨xs_blind, xs_recv_V hK hw (xs_ok_W_server hK.1 hk), fun U h1 h2 => ⟨rfl, xs_pre hK hw h1 h2⟩⟩ rfl rfl hl.1 rfl (lv_room (Nat.le_of_ble_eq_true rfl)) dd_W_hear_84 ⟨Nat.zero_le _, Nat.zero_le _⟩) (fun H locs hw => ?_)
                refine lv_iconst (v := 1) hx hb dd_W_hear_87 rfl ?_
                exact hret h hw dd_W_hear_88
          · replace h := xs_n b8 h
            refine lv_aload_n hx hb dd_W_hear_49 rfl (lv_at hl 1 rfl) ?_
            refine xr_get_W (v := .ref (ad (k + 119))) hx hb hts hown hK hw hk 2 (by decide) (hts _ hw_349) rfl dd_W_hear_50 ?_
            refine lv_aload_n hx hb dd_W_hear_53 rfl (lv_at hl 0 rfl) ?_
            obtain ⟨q14, gq14, h⟩ := xs_ob h
            refine xq_v hK hw (va_runV (As := [.ref (ad u5)]) (rest := []) ⟨hx, hb, hml, hown, hts⟩ (xc_V_takeJoin l D ad ca ks hf (k + 119) u5 S q14 (xs_ok_W_server hK.1 hk) ku5 gq14 _) ⟨callB_of 1 hts (xs_good hw_531) rfl rfl rfl (hts _ hw_11) (hts _ hw_528) yd_V_takeJoin ⟨Nat.le_trans (by decide) hRf, Nat.le_trans (by decide) hRl⟩, (hts _ hw_529), (hts _ hw_530)⟩ ⟨xs_blind, xs_recv_V hK hw (xs_ok_W_server hK.1 hk), fun U h1 h2 => ⟨rfl, xs_pre hK hw h1 h2⟩⟩ rfl rfl hl.1 rfl (lv_room (Nat.le_of_ble_eq_true rfl)) dd_W_hear_54 ⟨Nat.zero_le _, Nat.zero_le _⟩) (fun H locs hw => ?_)
            refine lv_goto hx hb dd_W_hear_57 rfl ?_
            refine lv_iconst (v := 1) hx hb dd_W_hear_87 rfl ?_
            exact hret h hw dd_W_hear_88
        · replace h := xs_n b6 h
          refine lv_iconst (v := 0) hx hb dd_W_hear_40 rfl ?_
          exact hret h hw dd_W_hear_41
      · replace h := xs_n b4 h
        refine lv_iconst (v := 0) hx hb dd_W_hear_20 rfl ?_
        exact hret h hw dd_W_hear_21
