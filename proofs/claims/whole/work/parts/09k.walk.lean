set_option maxHeartbeats 4000000 in
set_option maxRecDepth 100000 in
theorem xc_R_skip (l : Launch) (D : va_G) (ad : Nat → Nat) (ca : Nat → ClassId) (ks : List Nat) (k : Nat) (n1 : Int32) (n2 : Int32) (S : xs_T) (r : Int32) (T : xs_T) (hk : xs_is ks k xs_cR) (h : xf_R_skip k n1 n2 S = some (r, T)) (sz : Nat) : Met l yy_R_skip ws_R_skip { frames := 1, cells := 0, slots := 0, locals := 21 } (va_Pc [.ref (ad k), .int n1, .int n2] (xs_Pre D ad ca ks S sz)) (va_Qi (fun r1 (_ : Unit) => r1 = r) (fun _ t => va_P D xs_cl (xs_w ad ca ks T) t.heap) (xs_A ad ks sz)) 0 0 (xs_A ad ks sz) := by
  refine xm_i (by decide) (Nat.le_of_ble_eq_true rfl) ?_
  intro p e s m args below meth c R A Q ls hx hb hml hown hts hRf hRl hK hw hl hret
  have hl : lv_has ls 3 [(0, .ref (ad k)), (1, .int n1), (2, .int n2)] := hl
  unfold xf_R_skip at h
  refine lv_iload_n hx hb dd_R_skip_0 rfl (lv_at hl 1 rfl) ?_
  refine lv_iconst (v := 3) hx hb dd_R_skip_1 rfl ?_
  obtain ⟨q1, gq1, h⟩ := xs_ob h
  refine xq_i hK hw (va_runS (As := [.int n1, .int 3]) (rest := []) ⟨hx, hb, hml, hown, hts⟩ (xc_R_below l D ad ca ks n1 3 S q1 gq1 _) ⟨callB_of 2 hts (xs_good hw_871) rfl rfl rfl (hts _ hw_13) (hts _ hw_869) yd_R_below ⟨Nat.le_trans (by decide) hRf, Nat.le_trans (by decide) hRl⟩, (hts _ hw_870)⟩ ⟨xs_blind, fun U h1 h2 => ⟨rfl, xs_pre hK hw h1 h2⟩⟩ rfl rfl hl.1 rfl (lv_room (Nat.le_of_ble_eq_true rfl)) dd_R_skip_2 ⟨Nat.zero_le _, Nat.zero_le _⟩) (fun H locs hw => ?_)
  refine lv_if_eq hx hb dd_R_skip_5 rfl (fun b2 => ?_) (fun b2 => ?_)
  · replace h := xs_p b2 h
    refine lv_iconst (v := (-1)) hx hb dd_R_skip_38 rfl ?_
    exact hret h hw dd_R_skip_39
  · replace h := xs_n b2 h
    refine lv_aload_n hx hb dd_R_skip_8 rfl (lv_at hl 0 rfl) ?_
    refine xr_get_R (v := .ref (ad (k + 12))) hx hb hts hown hK hw hk 14 (by decide) (hts _ hw_757) rfl dd_R_skip_9 ?_
    refine lv_iload_n hx hb dd_R_skip_12 rfl (lv_at hl 1 rfl) ?_
    obtain ⟨v3, gv3, h⟩ := xs_ob h
    refine xr_iald hx hb hK hw (xs_ok_R_state hK.1 hk) gv3 dd_R_skip_13 ?_
    refine lv_iconst (v := 2) hx hb dd_R_skip_14 rfl ?_
    refine lv_icmp_ne hx hb dd_R_skip_15 rfl (fun b4 => ?_) (fun b4 => ?_)
    · replace h := xs_n b4 h
      refine lv_iconst (v := (-1)) hx hb dd_R_skip_38 rfl ?_
      exact hret h hw dd_R_skip_39
    · replace h := xs_p b4 h
      refine lv_aload_n hx hb dd_R_skip_18 rfl (lv_at hl 0 rfl) ?_
      refine xr_get_R (v := .ref (ad (k + 13))) hx hb hts hown hK hw hk 15 (by decide) (hts _ hw_758) rfl dd_R_skip_19 ?_
      refine lv_iload_n hx hb dd_R_skip_22 rfl (lv_at hl 1 rfl) ?_
      obtain ⟨v5, gv5, h⟩ := xs_ob h
      refine xr_zald hx hb hK hw (xs_ok_R_waits hK.1 hk) gv5 dd_R_skip_23 ?_
      refine lv_if_ne hx hb dd_R_skip_24 rfl (fun b6 => ?_) (fun b6 => ?_)
      · replace h := xs_n b6 h
        refine lv_iconst (v := (-1)) hx hb dd_R_skip_38 rfl ?_
        exact hret h hw dd_R_skip_39
      · replace h := xs_p b6 h
        refine lv_iload_n hx hb dd_R_skip_27 rfl (lv_at hl 2 rfl) ?_
        refine lv_iconst (v := 1) hx hb dd_R_skip_28 rfl ?_
        refine lv_icmp_lt hx hb dd_R_skip_29 rfl (fun b7 => ?_) (fun b7 => ?_)
        · replace h := xs_p b7 h
          refine lv_iconst (v := (-1)) hx hb dd_R_skip_38 rfl ?_
          exact hret h hw dd_R_skip_39
        · replace h := xs_n b7 h
          refine lv_iload_n hx hb dd_R_skip_32 rfl (lv_at hl 2 rfl) ?_
          refine lv_ldc (v := 70000) hx hb hown (hts _ hw_958) dd_R_skip_33 ?_
          refine lv_icmp_le hx hb dd_R_skip_35 rfl (fun b8 => ?_) (fun b8 => ?_)
          · replace h := xs_p b8 h
            refine lv_aload_n hx hb dd_R_skip_40 rfl (lv_at hl 0 rfl) ?_
            refine xr_get_R (v := .ref (ad (k + 19))) hx hb hts hown hK hw hk 21 (by decide) (hts _ hw_764) rfl dd_R_skip_41 ?_
            refine lv_iload_n hx hb dd_R_skip_44 rfl (lv_at hl 1 rfl) ?_
            refine lv_dup2_11 hx hb dd_R_skip_45 rfl rfl ?_
            obtain ⟨v9, gv9, h⟩ := xs_ob h
            refine xr_iald hx hb hK hw (xs_ok_R_nextUp hK.1 hk) gv9 dd_R_skip_46 ?_
            refine lv_iload_n hx hb dd_R_skip_47 rfl (lv_at hl 2 rfl) ?_
            refine lv_iadd hx hb dd_R_skip_48 ?_
            obtain ⟨S10, gS10, h⟩ := xs_ob h
            refine xr_iast hx hb hK hw (xs_ok_R_nextUp hK.1 hk) gS10 dd_R_skip_49 (fun H locs hw => ?_)
            refine lv_aload_n hx hb dd_R_skip_50 rfl (lv_at hl 0 rfl) ?_
            refine xr_get_R (v := .ref (ad (k + 19))) hx hb hts hown hK hw hk 21 (by decide) (hts _ hw_764) rfl dd_R_skip_51 ?_
            refine lv_iload_n hx hb dd_R_skip_54 rfl (lv_at hl 1 rfl) ?_
            obtain ⟨v11, gv11, h⟩ := xs_ob h
            refine xr_iald hx hb hK hw (xs_ok_R_nextUp hK.1 hk) gv11 dd_R_skip_55 ?_
            exact hret h hw dd_R_skip_56
          · replace h := xs_n b8 h
            refine lv_iconst (v := (-1)) hx hb dd_R_skip_38 rfl ?_
            exact hret h hw dd_R_skip_39
set_option maxHeartbeats 4000000 in
set_option maxRecDepth 100000 in
theorem xc_R_confirmed (l : Launch) (D : va_G) (ad : Nat → Nat) (ca : Nat → ClassId) (ks : List Nat) (k : Nat) (n1 : Int32) (S : xs_T) (r : Int32) (hk : xs_is ks k xs_cR) (h : xf_R_confirmed k n1 S = some r) (sz : Nat) : Met l yy_R_confirmed ws_R_confirmed { frames := 1, cells := 0, slots := 0, locals := 22 } (va_Pc [.ref (ad k), .int n1] (xs_Pre D ad ca ks S sz)) (va_Qi (fun r1 (_ : Unit) => r1 = r) (fun _ t => va_P D xs_cl (xs_w ad ca ks S) t.heap) (xs_A ad ks sz)) 0 0 (xs_A ad ks sz) := by
  refine xm_zr (by decide) (Nat.le_of_ble_eq_true rfl) ?_
  intro p e s m args below meth c R A Q ls hx hb hml hown hts hRf hRl hK hw hl hret
  have hl : lv_has ls 2 [(0, .ref (ad k)), (1, .int n1)] := hl
  unfold xf_R_confirmed at h
  refine lv_aload_n hx hb dd_R_confirmed_0 rfl (lv_at hl 0 rfl) ?_
  refine xr_get_R (v := .ref (ad (k + 12))) hx hb hts hown hK hw hk 14 (by decide) (hts _ hw_757) rfl dd_R_confirmed_1 ?_
  refine lv_iload_n hx hb dd_R_confirmed_4 rfl (lv_at hl 1 rfl) ?_
  obtain ⟨v1, gv1, h⟩ := xs_ob h
  refine xr_iald hx hb hK hw (xs_ok_R_state hK.1 hk) gv1 dd_R_confirmed_5 ?_
  refine lv_iconst (v := 2) hx hb dd_R_confirmed_6 rfl ?_
  refine lv_icmp_ne hx hb dd_R_confirmed_7 rfl (fun b2 => ?_) (fun b2 => ?_)
  · replace h := xs_n b2 h
    refine lv_iconst (v := 0) hx hb dd_R_confirmed_29 rfl ?_
    exact hret h hw dd_R_confirmed_30
  · replace h := xs_p b2 h
    refine lv_aload_n hx hb dd_R_confirmed_10 rfl (lv_at hl 0 rfl) ?_
    refine lv_bipush (v := 20) hx hb dd_R_confirmed_11 rfl ?_
    refine lv_iload_n hx hb dd_R_confirmed_13 rfl (lv_at hl 1 rfl) ?_
    refine lv_iadd hx hb dd_R_confirmed_14 ?_
    refine lv_iconst (v := 0) hx hb dd_R_confirmed_15 rfl ?_
    obtain ⟨q3, gq3, h⟩ := xs_ob h
    refine xq_i hK hw (va_runV (As := [.int (20 + n1), .int 0]) (rest := []) ⟨hx, hb, hml, hown, hts⟩ (xc_R_at l D ad ca ks k (20 + n1) 0 S q3 hk gq3 _) ⟨callB_of 2 hts (xs_good hw_888) rfl rfl rfl (hts _ hw_13) (hts _ hw_885) yd_R_at ⟨Nat.le_trans (by decide) hRf, Nat.le_trans (by decide) hRl⟩, (hts _ hw_887), (hts _ hs_15)⟩ ⟨xs_blind, xs_recv_R hK hw hk, fun U h1 h2 => ⟨rfl, xs_pre hK hw h1 h2⟩⟩ rfl rfl hl.1 rfl (lv_room (Nat.le_of_ble_eq_true rfl)) dd_R_confirmed_16 ⟨Nat.zero_le _, Nat.zero_le _⟩) (fun H locs hw => ?_)
    refine lv_sipush (v := 128) hx hb dd_R_confirmed_19 rfl ?_
    refine lv_icmp_ne hx hb dd_R_confirmed_22 rfl (fun b4 => ?_) (fun b4 => ?_)
    · replace h := xs_n b4 h
      refine lv_iconst (v := 0) hx hb dd_R_confirmed_29 rfl ?_
      exact hret h hw dd_R_confirmed_30
    · replace h := xs_p b4 h
      refine lv_iconst (v := 1) hx hb dd_R_confirmed_25 rfl ?_
      refine lv_goto hx hb dd_R_confirmed_26 rfl ?_
      exact hret h hw dd_R_confirmed_30
set_option maxHeartbeats 4000000 in
set_option maxRecDepth 100000 in
theorem xc_R_timeOut (l : Launch) (D : va_G) (ad : Nat → Nat) (ca : Nat → ClassId) (ks : List Nat) (k : Nat) (n1 : Int32) (S : xs_T) (T : xs_T) (hk : xs_is ks k xs_cR) (h : xf_R_timeOut k n1 S = some T) (sz : Nat) : Met l yy_R_timeOut ws_R_timeOut { frames := 3, cells := 0, slots := 0, locals := 65 } (va_Pc [.ref (ad k), .int n1] (xs_Pre D ad ca ks S sz)) (va_Qv (fun _ : Unit => True) (fun _ t => va_P D xs_cl (xs_w ad ca ks T) t.heap) (xs_A ad ks sz)) 0 0 (xs_A ad ks sz) := by
  refine xm_v (by decide) (Nat.le_of_ble_eq_true rfl) ?_
  intro p e s m args below meth c R A Q ls hx hb hml hown hts hRf hRl hK hw hl hret
  have hl : lv_has ls 2 [(0, .ref (ad k)), (1, .int n1)] := hl
  have w_94 : ∀ (S : xs_T) (H : Heap) (locs : List Loc) (ls : Array Slot), xs_I D ad ca ks A s S H locs → lv_has ls 2 [(0, .ref (ad k)), (1, .int n1)] → xf_R_timeOut_94 k n1 S = some T → W p l e R s m args below meth c H locs 0 0 Q (F0 m 94 ls []) := by
    intro S H locs ls hw hl h
    unfold xf_R_timeOut_94 at h
    refine lv_aload_n hx hb dd_R_timeOut_94 rfl (lv_at hl 0 rfl) ?_
    refine lv_iload_n hx hb dd_R_timeOut_95 rfl (lv_at hl 1 rfl) ?_
    obtain ⟨q10, gq10, h⟩ := xs_ob h
    refine xq_i hK hw (va_runV (As := [.int n1]) (rest := []) ⟨hx, hb, hml, hown, hts⟩ (xc_R_confirmed l D ad ca ks k n1 S q10 hk gq10 _) ⟨callB_of 1 hts (xs_good hw_1006) rfl rfl rfl (hts _ hw_13) (hts _ hw_1003) yd_R_confirmed ⟨Nat.le_trans (by decide) hRf, Nat.le_trans (by decide) hRl⟩, (hts _ hw_1005), (hts _ hs_40)⟩ ⟨xs_blind, xs_recv_R hK hw hk, fun U h1 h2 => ⟨rfl, xs_pre hK hw h1 h2⟩⟩ rfl rfl hl.1 rfl (lv_room (Nat.le_of_ble_eq_true rfl)) dd_R_timeOut_96 ⟨Nat.zero_le _, Nat.zero_le _⟩) (fun H locs hw => ?_)
    refine lv_if_eq hx hb dd_R_timeOut_99 rfl (fun b11 => ?_) (fun b11 => ?_)
    · replace h := xs_p b11 h
      exact hret h hw dd_R_timeOut_107
    · replace h := xs_n b11 h
      refine lv_aload_n hx hb dd_R_timeOut_102 rfl (lv_at hl 0 rfl) ?_
      refine lv_iload_n hx hb dd_R_timeOut_103 rfl (lv_at hl 1 rfl) ?_
      obtain ⟨q12, gq12, h⟩ := xs_ob h
      refine xq_v hK hw (va_runV (As := [.int n1]) (rest := []) ⟨hx, hb, hml, hown, hts⟩ (xc_R_transmit l D ad ca ks k n1 S q12 hk gq12 _) ⟨callB_of 1 hts (xs_good hw_920) rfl rfl rfl (hts _ hw_13) (hts _ hw_917) yd_R_transmit ⟨Nat.le_trans (by decide) hRf, Nat.le_trans (by decide) hRl⟩, (hts _ hw_919), (hts _ hs_23)⟩ ⟨xs_blind, xs_recv_R hK hw hk, fun U h1 h2 => ⟨rfl, xs_pre hK hw h1 h2⟩⟩ rfl rfl hl.1 rfl (lv_room (Nat.le_of_ble_eq_true rfl)) dd_R_timeOut_104 ⟨Nat.zero_le _, Nat.zero_le _⟩) (fun H locs hw => ?_)
      exact hret h hw dd_R_timeOut_107
  unfold xf_R_timeOut at h
  refine lv_aload_n hx hb dd_R_timeOut_0 rfl (lv_at hl 0 rfl) ?_
  refine xr_get_R (v := .ref (ad (k + 13))) hx hb hts hown hK hw hk 15 (by decide) (hts _ hw_758) rfl dd_R_timeOut_1 ?_
  refine lv_iload_n hx hb dd_R_timeOut_4 rfl (lv_at hl 1 rfl) ?_
  obtain ⟨v1, gv1, h⟩ := xs_ob h
  refine xr_zald hx hb hK hw (xs_ok_R_waits hK.1 hk) gv1 dd_R_timeOut_5 ?_
  refine lv_if_eq hx hb dd_R_timeOut_6 rfl (fun b2 => ?_) (fun b2 => ?_)
  · replace h := xs_p b2 h
    exact hret h hw dd_R_timeOut_24
  · replace h := xs_n b2 h
    refine lv_aload_n hx hb dd_R_timeOut_9 rfl (lv_at hl 0 rfl) ?_
    refine xr_get_R (v := .int (xs_gI S k 8)) hx hb hts hown hK hw hk 8 (by decide) (hts _ hw_751) rfl dd_R_timeOut_10 ?_
    refine lv_aload_n hx hb dd_R_timeOut_13 rfl (lv_at hl 0 rfl) ?_
    refine xr_get_R (v := .ref (ad (k + 14))) hx hb hts hown hK hw hk 16 (by decide) (hts _ hw_759) rfl dd_R_timeOut_14 ?_
    refine lv_iload_n hx hb dd_R_timeOut_17 rfl (lv_at hl 1 rfl) ?_
    obtain ⟨v3, gv3, h⟩ := xs_ob h
    refine xr_iald hx hb hK hw (xs_ok_R_since hK.1 hk) gv3 dd_R_timeOut_18 ?_
    refine lv_iconst (v := 3) hx hb dd_R_timeOut_19 rfl ?_
    refine lv_iadd hx hb dd_R_timeOut_20 ?_
    refine lv_icmp_eq hx hb dd_R_timeOut_21 rfl (fun b4 => ?_) (fun b4 => ?_)
    · replace h := xs_p b4 h
      refine lv_aload_n hx hb dd_R_timeOut_25 rfl (lv_at hl 0 rfl) ?_
      refine xr_get_R (v := .ref (ad (k + 13))) hx hb hts hown hK hw hk 15 (by decide) (hts _ hw_758) rfl dd_R_timeOut_26 ?_
      refine lv_iload_n hx hb dd_R_timeOut_29 rfl (lv_at hl 1 rfl) ?_
      refine lv_iconst (v := 0) hx hb dd_R_timeOut_30 rfl ?_
      obtain ⟨S5, gS5, h⟩ := xs_ob h
      refine xr_zast hx hb hK hw (xs_ok_R_waits hK.1 hk) gS5 dd_R_timeOut_31 (fun H locs hw => ?_)
      refine lv_aload_n hx hb dd_R_timeOut_32 rfl (lv_at hl 0 rfl) ?_
      refine xr_get_R (v := .ref (ad (k + 12))) hx hb hts hown hK hw hk 14 (by decide) (hts _ hw_757) rfl dd_R_timeOut_33 ?_
      refine lv_iload_n hx hb dd_R_timeOut_36 rfl (lv_at hl 1 rfl) ?_
      obtain ⟨v6, gv6, h⟩ := xs_ob h
      refine xr_iald hx hb hK hw (xs_ok_R_state hK.1 hk) gv6 dd_R_timeOut_37 ?_
      refine lv_iconst (v := 1) hx hb dd_R_timeOut_38 rfl ?_
      refine lv_icmp_ne hx hb dd_R_timeOut_39 rfl (fun b7 => ?_) (fun b7 => ?_)
      · replace h := xs_n b7 h
        refine lv_aload_n hx hb dd_R_timeOut_52 rfl (lv_at hl 0 rfl) ?_
        refine lv_iload_n hx hb dd_R_timeOut_53 rfl (lv_at hl 1 rfl) ?_
        obtain ⟨q8, gq8, h⟩ := xs_ob h
        refine xq_i hK hw (va_runV (As := [.int n1]) (rest := []) ⟨hx, hb, hml, hown, hts⟩ (xc_R_confirmed l D ad ca ks k n1 S5 q8 hk gq8 _) ⟨callB_of 1 hts (xs_good hw_1006) rfl rfl rfl (hts _ hw_13) (hts _ hw_1003) yd_R_confirmed ⟨Nat.le_trans (by decide) hRf, Nat.le_trans (by decide) hRl⟩, (hts _ hw_1005), (hts _ hs_40)⟩ ⟨xs_blind, xs_recv_R hK hw hk, fun U h1 h2 => ⟨rfl, xs_pre hK hw h1 h2⟩⟩ rfl rfl hl.1 rfl (lv_room (Nat.le_of_ble_eq_true rfl)) dd_R_timeOut_54 ⟨Nat.zero_le _, Nat.zero_le _⟩) (fun H locs hw => ?_)
        refine lv_if_eq hx hb dd_R_timeOut_57 rfl (fun b9 => ?_) (fun b9 => ?_)
        · replace h := xs_p b9 h
          exact w_94 S5 _ _ _ hw (lv_sub hl [0, 1] rfl) h
        · replace h := xs_n b9 h
          refine lv_aload_n hx hb dd_R_timeOut_60 rfl (lv_at hl 0 rfl) ?_
          refine xr_get_R (v := .ref (ad (k + 15))) hx hb hts hown hK hw hk 17 (by decide) (hts _ hw_760) rfl dd_R_timeOut_61 ?_
          refine lv_iload_n hx hb dd_R_timeOut_64 rfl (lv_at hl 1 rfl) ?_
          obtain ⟨v13, gv13, h⟩ := xs_ob h
          refine xr_iald hx hb hK hw (xs_ok_R_tries hK.1 hk) gv13 dd_R_timeOut_65 ?_
          refine lv_iconst (v := 4) hx hb dd_R_timeOut_66 rfl ?_
          refine lv_icmp_ne hx hb dd_R_timeOut_67 rfl (fun b14 => ?_) (fun b14 => ?_)
          · replace h := xs_n b14 h
            exact w_94 S5 _ _ _ hw (lv_sub hl [0, 1] rfl) h
          · replace h := xs_p b14 h
            refine lv_aload_n hx hb dd_R_timeOut_70 rfl (lv_at hl 0 rfl) ?_
            refine xr_get_R (v := .ref (ad (k + 12))) hx hb hts hown hK hw hk 14 (by decide) (hts _ hw_757) rfl dd_R_timeOut_71 ?_
            refine lv_iload_n hx hb dd_R_timeOut_74 rfl (lv_at hl 1 rfl) ?_
            refine lv_iconst (v := 0) hx hb dd_R_timeOut_75 rfl ?_
            obtain ⟨S15, gS15, h⟩ := xs_ob h
            refine xr_iast hx hb hK hw (xs_ok_R_state hK.1 hk) gS15 dd_R_timeOut_76 (fun H locs hw => ?_)
            refine lv_aload_n hx hb dd_R_timeOut_77 rfl (lv_at hl 0 rfl) ?_
            refine xr_get_R (v := .ref (ad (k + 36))) hx hb hts hown hK hw hk 39 (by decide) (hts _ hw_782) rfl dd_R_timeOut_78 ?_
            refine lv_iconst (v := 3) hx hb dd_R_timeOut_81 rfl ?_
            refine lv_iload_n hx hb dd_R_timeOut_82 rfl (lv_at hl 1 rfl) ?_
            refine lv_imul hx hb dd_R_timeOut_83 ?_
            refine lv_iconst (v := 1) hx hb dd_R_timeOut_84 rfl ?_
            refine lv_iadd hx hb dd_R_timeOut_85 ?_
            refine lv_dup2_11 hx hb dd_R_timeOut_86 rfl rfl ?_
            obtain ⟨v16, gv16, h⟩ := xs_ob h
            refine xr_iald hx hb hK hw (xs_ok_R_tallies hK.1 hk) gv16 dd_R_timeOut_87 ?_
            refine lv_iconst (v := 1) hx hb dd_R_timeOut_88 rfl ?_
            refine lv_iadd hx hb dd_R_timeOut_89 ?_
            obtain ⟨S17, gS17, h⟩ := xs_ob h
            refine xr_iast hx hb hK hw (xs_ok_R_tallies hK.1 hk) gS17 dd_R_timeOut_90 (fun H locs hw => ?_)
            refine lv_goto hx hb dd_R_timeOut_91 rfl ?_
            exact hret h hw dd_R_timeOut_107
      · replace h := xs_p b7 h
        refine lv_aload_n hx hb dd_R_timeOut_42 rfl (lv_at hl 0 rfl) ?_
        refine xr_get_R (v := .ref (ad (k + 12))) hx hb hts hown hK hw hk 14 (by decide) (hts _ hw_757) rfl dd_R_timeOut_43 ?_
        refine lv_iload_n hx hb dd_R_timeOut_46 rfl (lv_at hl 1 rfl) ?_
        refine lv_iconst (v := 0) hx hb dd_R_timeOut_47 rfl ?_
        obtain ⟨S18, gS18, h⟩ := xs_ob h
        refine xr_iast hx hb hK hw (xs_ok_R_state hK.1 hk) gS18 dd_R_timeOut_48 (fun H locs hw => ?_)
        refine lv_goto hx hb dd_R_timeOut_49 rfl ?_
        exact hret h hw dd_R_timeOut_107
    · replace h := xs_n b4 h
      exact hret h hw dd_R_timeOut_24
set_option maxHeartbeats 4000000 in
set_option maxRecDepth 100000 in
theorem xc_R_takeAccept (l : Launch) (D : va_G) (ad : Nat → Nat) (ca : Nat → ClassId) (ks : List Nat) (k : Nat) (n1 : Int32) (S : xs_T) (T : xs_T) (hk : xs_is ks k xs_cR) (h : xf_R_takeAccept k n1 S = some T) (sz : Nat) : Met l yy_R_takeAccept ws_R_takeAccept { frames := 6, cells := 0, slots := 0, locals := 143 } (va_Pc [.ref (ad k), .int n1] (xs_Pre D ad ca ks S sz)) (va_Qv (fun _ : Unit => True) (fun _ t => va_P D xs_cl (xs_w ad ca ks T) t.heap) (xs_A ad ks sz)) 0 0 (xs_A ad ks sz) := by
  refine xm_v (by decide) (Nat.le_of_ble_eq_true rfl) ?_
  intro p e s m args below meth c R A Q ls hx hb hml hown hts hRf hRl hK hw hl hret
  have hl : lv_has ls 3 [(0, .ref (ad k)), (1, .int n1)] := hl
  have w_61 : ∀ (f : Nat), ∀ (i2 : Int32) (S : xs_T) (H : Heap) (locs : List Loc) (ls : Array Slot), xs_I D ad ca ks A s S H locs → lv_has ls 3 [(0, .ref (ad k)), (1, .int n1), (2, .int i2)] → xf_R_takeAccept_61 k n1 f i2 S = some T → W p l e R s m args below meth c H locs 0 0 Q (F0 m 61 ls []) := by
    intro f
    induction f with
    | zero => intro i2 S H locs ls hw hl h; exact absurd h (by simp [xf_R_takeAccept_61])
    | succ f ih =>
      intro i2 S H locs ls hw hl h
      rw [xf_R_takeAccept_61] at h
      refine lv_iload_n hx hb dd_R_takeAccept_61 rfl (lv_at hl 2 rfl) ?_
      refine lv_bipush (v := 16) hx hb dd_R_takeAccept_62 rfl ?_
      refine lv_icmp_ge hx hb dd_R_takeAccept_64 rfl (fun b7 => ?_) (fun b7 => ?_)
      · replace h := xs_p b7 h
        refine lv_aload_n hx hb dd_R_takeAccept_89 rfl (lv_at hl 0 rfl) ?_
        refine lv_bipush (v := 23) hx hb dd_R_takeAccept_90 rfl ?_
        refine lv_bipush (v := 13) hx hb dd_R_takeAccept_92 rfl ?_
        refine lv_iload_n hx hb dd_R_takeAccept_94 rfl (lv_at hl 1 rfl) ?_
        obtain ⟨q8, gq8, h⟩ := xs_ob h
        refine xq_v hK hw (va_runV (As := [.int 23, .int 13, .int n1]) (rest := []) ⟨hx, hb, hml, hown, hts⟩ (xc_R_rootCode l D ad ca ks k 23 13 n1 S q8 hk gq8 _) ⟨callB_of 3 hts (xs_good hw_884) rfl rfl rfl (hts _ hw_13) (hts _ hw_881) yd_R_rootCode ⟨Nat.le_trans (by decide) hRf, Nat.le_trans (by decide) hRl⟩, (hts _ hw_883), (hts _ hs_14)⟩ ⟨xs_blind, xs_recv_R hK hw hk, fun U h1 h2 => ⟨rfl, xs_pre hK hw h1 h2⟩⟩ rfl rfl hl.1 rfl (lv_room (Nat.le_of_ble_eq_true rfl)) dd_R_takeAccept_95 ⟨Nat.zero_le _, Nat.zero_le _⟩) (fun H locs hw => ?_)
        refine lv_aload_n hx hb dd_R_takeAccept_98 rfl (lv_at hl 0 rfl) ?_
        refine lv_bipush (v := 23) hx hb dd_R_takeAccept_99 rfl ?_
        refine lv_iconst (v := 1) hx hb dd_R_takeAccept_101 rfl ?_
        refine lv_iconst (v := 3) hx hb dd_R_takeAccept_102 rfl ?_
        obtain ⟨q9, gq9, h⟩ := xs_ob h
        refine xq_i hK hw (va_runV (As := [.int 23, .int 1, .int 3]) (rest := []) ⟨hx, hb, hml, hown, hts⟩ (xc_R_numberAt l D ad ca ks k 23 1 3 q8 q9 hk gq9 _) ⟨callB_of 3 hts (xs_good hw_974) rfl rfl rfl (hts _ hw_13) (hts _ hw_971) yd_R_numberAt ⟨Nat.le_trans (by decide) hRf, Nat.le_trans (by decide) hRl⟩, (hts _ hw_973), (hts _ hs_33)⟩ ⟨xs_blind, xs_recv_R hK hw hk, fun U h1 h2 => ⟨rfl, xs_pre hK hw h1 h2⟩⟩ rfl rfl hl.1 rfl (lv_room (Nat.le_of_ble_eq_true rfl)) dd_R_takeAccept_103 ⟨Nat.zero_le _, Nat.zero_le _⟩) (fun H locs hw => ?_)
        refine lv_istore_n hx hb dd_R_takeAccept_106 rfl hl (by decide) rfl (fun ls hl => ?_)
        have hl : lv_has ls 3 [(2, .int q9), (0, .ref (ad k)), (1, .int n1)] := hl
        refine lv_aload_n hx hb dd_R_takeAccept_107 rfl (lv_at hl 1 rfl) ?_
        refine lv_bipush (v := 23) hx hb dd_R_takeAccept_108 rfl ?_
        obtain ⟨q10, gq10, h⟩ := xs_ob h
        refine xq_i hK hw (va_runV (As := [.int 23]) (rest := []) ⟨hx, hb, hml, hown, hts⟩ (xc_R_endsWithCode l D ad ca ks k 23 q8 q10 hk gq10 _) ⟨callB_of 1 hts (xs_good hw_978) rfl rfl rfl (hts _ hw_13) (hts _ hw_975) yd_R_endsWithCode ⟨Nat.le_trans (by decide) hRf, Nat.le_trans (by decide) hRl⟩, (hts _ hw_977), (hts _ hs_34)⟩ ⟨xs_blind, xs_recv_R hK hw hk, fun U h1 h2 => ⟨rfl, xs_pre hK hw h1 h2⟩⟩ rfl rfl hl.1 rfl (lv_room (Nat.le_of_ble_eq_true rfl)) dd_R_takeAccept_110 ⟨Nat.zero_le _, Nat.zero_le _⟩) (fun H locs hw => ?_)
        refine lv_if_eq hx hb dd_R_takeAccept_113 rfl (fun b11 => ?_) (fun b11 => ?_)
        · replace h := xs_p b11 h
          exact hret h hw dd_R_takeAccept_126
        · replace h := xs_n b11 h
          refine lv_iload_n hx hb dd_R_takeAccept_116 rfl (lv_at hl 0 rfl) ?_
          refine lv_aload_n hx hb dd_R_takeAccept_117 rfl (lv_at hl 1 rfl) ?_
          refine xr_get_R (v := .ref (ad (k + 17))) hx hb hts hown hK hw hk 19 (by decide) (hts _ hw_762) rfl dd_R_takeAccept_118 ?_
          refine lv_iload_n hx hb dd_R_takeAccept_121 rfl (lv_at hl 2 rfl) ?_
          obtain ⟨v12, gv12, h⟩ := xs_ob h
          refine xr_iald hx hb hK hw (xs_ok_R_tookSerial hK.1 hk) gv12 dd_R_takeAccept_122 ?_
          refine lv_icmp_gt hx hb dd_R_takeAccept_123 rfl (fun b13 => ?_) (fun b13 => ?_)
          · replace h := xs_p b13 h
            refine lv_aload_n hx hb dd_R_takeAccept_127 rfl (lv_at hl 1 rfl) ?_
            refine xr_get_R (v := .ref (ad (k + 17))) hx hb hts hown hK hw hk 19 (by decide) (hts _ hw_762) rfl dd_R_takeAccept_128 ?_
            refine lv_iload_n hx hb dd_R_takeAccept_131 rfl (lv_at hl 2 rfl) ?_
            refine lv_iload_n hx hb dd_R_takeAccept_132 rfl (lv_at hl 0 rfl) ?_
            obtain ⟨S14, gS14, h⟩ := xs_ob h
            refine xr_iast hx hb hK hw (xs_ok_R_tookSerial hK.1 hk) gS14 dd_R_takeAccept_133 (fun H locs hw => ?_)
            refine lv_aload_n hx hb dd_R_takeAccept_134 rfl (lv_at hl 1 rfl) ?_
            refine xr_get_R (v := .ref (ad (k + 18))) hx hb hts hown hK hw hk 20 (by decide) (hts _ hw_763) rfl dd_R_takeAccept_135 ?_
            refine lv_iload_n hx hb dd_R_takeAccept_138 rfl (lv_at hl 2 rfl) ?_
            refine lv_aload_n hx hb dd_R_takeAccept_139 rfl (lv_at hl 1 rfl) ?_
            refine lv_bipush (v := 23) hx hb dd_R_takeAccept_140 rfl ?_
            refine lv_bipush (v := 7) hx hb dd_R_takeAccept_142 rfl ?_
            refine lv_iconst (v := 4) hx hb dd_R_takeAccept_144 rfl ?_
            obtain ⟨q15, gq15, h⟩ := xs_ob h
            refine xq_i hK hw (va_runV (As := [.int 23, .int 7, .int 4]) (rest := [.int n1, .ref (ad (k + 18))]) ⟨hx, hb, hml, hown, hts⟩ (xc_R_numberAt l D ad ca ks k 23 7 4 S14 q15 hk gq15 _) ⟨callB_of 3 hts (xs_good hw_974) rfl rfl rfl (hts _ hw_13) (hts _ hw_971) yd_R_numberAt ⟨Nat.le_trans (by decide) hRf, Nat.le_trans (by decide) hRl⟩, (hts _ hw_973), (hts _ hs_33)⟩ ⟨xs_blind, xs_recv_R hK hw hk, fun U h1 h2 => ⟨rfl, xs_pre hK hw h1 h2⟩⟩ rfl rfl hl.1 rfl (lv_room (Nat.le_of_ble_eq_true rfl)) dd_R_takeAccept_145 ⟨Nat.zero_le _, Nat.zero_le _⟩) (fun H locs hw => ?_)
            obtain ⟨S16, gS16, h⟩ := xs_ob h
            refine xr_iast hx hb hK hw (xs_ok_R_address hK.1 hk) gS16 dd_R_takeAccept_148 (fun H locs hw => ?_)
            refine lv_aload_n hx hb dd_R_takeAccept_149 rfl (lv_at hl 1 rfl) ?_
            refine lv_iload_n hx hb dd_R_takeAccept_150 rfl (lv_at hl 2 rfl) ?_
            refine lv_iload_n hx hb dd_R_takeAccept_151 rfl (lv_at hl 0 rfl) ?_
            refine lv_aload_n hx hb dd_R_takeAccept_152 rfl (lv_at hl 1 rfl) ?_
            refine xr_get_R (v := .ref (ad (k + 16))) hx hb hts hown hK hw hk 18 (by decide) (hts _ hw_761) rfl dd_R_takeAccept_153 ?_
            refine lv_iload_n hx hb dd_R_takeAccept_156 rfl (lv_at hl 2 rfl) ?_
            obtain ⟨v17, gv17, h⟩ := xs_ob h
            refine xr_iald hx hb hK hw (xs_ok_R_nonce hK.1 hk) gv17 dd_R_takeAccept_157 ?_
            refine lv_iconst (v := 3) hx hb dd_R_takeAccept_158 rfl ?_
            refine lv_iconst (v := 2) hx hb dd_R_takeAccept_159 rfl ?_
            refine lv_iload_n hx hb dd_R_takeAccept_160 rfl (lv_at hl 2 rfl) ?_
            refine lv_imul hx hb dd_R_takeAccept_161 ?_
            refine lv_iadd hx hb dd_R_takeAccept_162 ?_
            obtain ⟨q18, gq18, h⟩ := xs_ob h
            refine xq_v hK hw (va_runV (As := [.int n1, .int q9, .int v17, .int (3 + (2 * n1))]) (rest := []) ⟨hx, hb, hml, hown, hts⟩ (xc_R_derive l D ad ca ks k n1 q9 v17 (3 + (2 * n1)) S16 q18 hk gq18 _) ⟨callB_of 4 hts (xs_good hw_982) rfl rfl rfl (hts _ hw_13) (hts _ hw_979) yd_R_derive ⟨Nat.le_trans (by decide) hRf, Nat.le_trans (by decide) hRl⟩, (hts _ hw_981), (hts _ hs_35)⟩ ⟨xs_blind, xs_recv_R hK hw hk, fun U h1 h2 => ⟨rfl, xs_pre hK hw h1 h2⟩⟩ rfl rfl hl.1 rfl (lv_room (Nat.le_of_ble_eq_true rfl)) dd_R_takeAccept_163 ⟨Nat.zero_le _, Nat.zero_le _⟩) (fun H locs hw => ?_)
            refine lv_aload_n hx hb dd_R_takeAccept_166 rfl (lv_at hl 1 rfl) ?_
            refine xr_get_R (v := .ref (ad (k + 12))) hx hb hts hown hK hw hk 14 (by decide) (hts _ hw_757) rfl dd_R_takeAccept_167 ?_
            refine lv_iload_n hx hb dd_R_takeAccept_170 rfl (lv_at hl 2 rfl) ?_
            refine lv_iconst (v := 2) hx hb dd_R_takeAccept_171 rfl ?_
            obtain ⟨S19, gS19, h⟩ := xs_ob h
            refine xr_iast hx hb hK hw (xs_ok_R_state hK.1 hk) gS19 dd_R_takeAccept_172 (fun H locs hw => ?_)
            refine lv_aload_n hx hb dd_R_takeAccept_173 rfl (lv_at hl 1 rfl) ?_
            refine xr_get_R (v := .ref (ad (k + 13))) hx hb hts hown hK hw hk 15 (by decide) (hts _ hw_758) rfl dd_R_takeAccept_174 ?_
            refine lv_iload_n hx hb dd_R_takeAccept_177 rfl (lv_at hl 2 rfl) ?_
            refine lv_iconst (v := 0) hx hb dd_R_takeAccept_178 rfl ?_
            obtain ⟨S20, gS20, h⟩ := xs_ob h
            refine xr_zast hx hb hK hw (xs_ok_R_waits hK.1 hk) gS20 dd_R_takeAccept_179 (fun H locs hw => ?_)
            refine lv_aload_n hx hb dd_R_takeAccept_180 rfl (lv_at hl 1 rfl) ?_
            refine xr_get_R (v := .ref (ad (k + 19))) hx hb hts hown hK hw hk 21 (by decide) (hts _ hw_764) rfl dd_R_takeAccept_181 ?_
            refine lv_iload_n hx hb dd_R_takeAccept_184 rfl (lv_at hl 2 rfl) ?_
            refine lv_iconst (v := 0) hx hb dd_R_takeAccept_185 rfl ?_
            obtain ⟨S21, gS21, h⟩ := xs_ob h
            refine xr_iast hx hb hK hw (xs_ok_R_nextUp hK.1 hk) gS21 dd_R_takeAccept_186 (fun H locs hw => ?_)
            refine lv_aload_n hx hb dd_R_takeAccept_187 rfl (lv_at hl 1 rfl) ?_
            refine xr_get_R (v := .ref (ad (k + 20))) hx hb hts hown hK hw hk 22 (by decide) (hts _ hw_765) rfl dd_R_takeAccept_188 ?_
            refine lv_iload_n hx hb dd_R_takeAccept_191 rfl (lv_at hl 2 rfl) ?_
            refine lv_iconst (v := (-1)) hx hb dd_R_takeAccept_192 rfl ?_
            obtain ⟨S22, gS22, h⟩ := xs_ob h
            refine xr_iast hx hb hK hw (xs_ok_R_lastDown hK.1 hk) gS22 dd_R_takeAccept_193 (fun H locs hw => ?_)
            exact hret h hw dd_R_takeAccept_194
          · replace h := xs_n b13 h
            exact hret h hw dd_R_takeAccept_126
      · replace h := xs_n b7 h
        refine lv_aload_n hx hb dd_R_takeAccept_67 rfl (lv_at hl 0 rfl) ?_
        refine xr_get_R (v := .ref (ad (k + 9))) hx hb hts hown hK hw hk 9 (by decide) (hts _ hw_752) rfl dd_R_takeAccept_68 ?_
        refine lv_sipush (v := 737) hx hb dd_R_takeAccept_71 rfl ?_
        refine lv_iload_n hx hb dd_R_takeAccept_74 rfl (lv_at hl 2 rfl) ?_
        refine lv_iadd hx hb dd_R_takeAccept_75 ?_
        refine lv_aload_n hx hb dd_R_takeAccept_76 rfl (lv_at hl 0 rfl) ?_
        refine xr_get_R (v := .ref (ad (k + 4))) hx hb hts hown hK hw hk 3 (by decide) (hts _ hw_746) rfl dd_R_takeAccept_77 ?_
        refine lv_iload_n hx hb dd_R_takeAccept_80 rfl (lv_at hl 2 rfl) ?_
        obtain ⟨v23, gv23, h⟩ := xs_ob h
        refine xr_iald hx hb hK hw (xs_ok_R_block hK.1 hk) gv23 dd_R_takeAccept_81 ?_
        obtain ⟨S24, gS24, h⟩ := xs_ob h
        refine xr_iast hx hb hK hw (xs_ok_R_bytes hK.1 hk) gS24 dd_R_takeAccept_82 (fun H locs hw => ?_)
        refine lv_iinc (k := 2) (v := i2 + 1) hx hb dd_R_takeAccept_83 hl rfl rfl (by decide) rfl (fun ls hl => ?_)
        have hl : lv_has ls 3 [(2, .int (i2 + 1)), (0, .ref (ad k)), (1, .int n1)] := hl
        refine lv_goto hx hb dd_R_takeAccept_86 rfl ?_
        exact ih (i2 + 1) S24 _ _ _ hw (lv_sub hl [1, 2, 0] rfl) h
  have w_27 : ∀ (f : Nat), ∀ (i2 : Int32) (S : xs_T) (H : Heap) (locs : List Loc) (ls : Array Slot), xs_I D ad ca ks A s S H locs → lv_has ls 3 [(0, .ref (ad k)), (1, .int n1), (2, .int i2)] → xf_R_takeAccept_27 k n1 f i2 S = some T → W p l e R s m args below meth c H locs 0 0 Q (F0 m 27 ls []) := by
    intro f
    induction f with
    | zero => intro i2 S H locs ls hw hl h; exact absurd h (by simp [xf_R_takeAccept_27])
    | succ f ih =>
      intro i2 S H locs ls hw hl h
      rw [xf_R_takeAccept_27] at h
      refine lv_iload_n hx hb dd_R_takeAccept_27 rfl (lv_at hl 2 rfl) ?_
      refine lv_bipush (v := 16) hx hb dd_R_takeAccept_28 rfl ?_
      refine lv_icmp_ge hx hb dd_R_takeAccept_30 rfl (fun b5 => ?_) (fun b5 => ?_)
      · replace h := xs_p b5 h
        refine lv_aload_n hx hb dd_R_takeAccept_54 rfl (lv_at hl 0 rfl) ?_
        refine lv_iload_n hx hb dd_R_takeAccept_55 rfl (lv_at hl 1 rfl) ?_
        obtain ⟨q6, gq6, h⟩ := xs_ob h
        refine xq_v hK hw (va_runV (As := [.int n1]) (rest := []) ⟨hx, hb, hml, hown, hts⟩ (xc_R_cipher l D ad ca ks k n1 S q6 hk gq6 _) ⟨callB_of 1 hts (xs_good hw_896) rfl rfl rfl (hts _ hw_13) (hts _ hw_893) yd_R_cipher ⟨Nat.le_trans (by decide) hRf, Nat.le_trans (by decide) hRl⟩, (hts _ hw_895), (hts _ hs_17)⟩ ⟨xs_blind, xs_recv_R hK hw hk, fun U h1 h2 => ⟨rfl, xs_pre hK hw h1 h2⟩⟩ rfl rfl hl.1 rfl (lv_room (Nat.le_of_ble_eq_true rfl)) dd_R_takeAccept_56 ⟨Nat.zero_le _, Nat.zero_le _⟩) (fun H locs hw => ?_)
        refine lv_iconst (v := 0) hx hb dd_R_takeAccept_59 rfl ?_
        refine lv_istore_n hx hb dd_R_takeAccept_60 rfl hl (by decide) rfl (fun ls hl => ?_)
        have hl : lv_has ls 3 [(2, .int 0), (0, .ref (ad k)), (1, .int n1)] := hl
        exact w_61 xs_fuel 0 q6 _ _ _ hw (lv_sub hl [1, 2, 0] rfl) h
      · replace h := xs_n b5 h
        refine lv_aload_n hx hb dd_R_takeAccept_33 rfl (lv_at hl 0 rfl) ?_
        refine xr_get_R (v := .ref (ad (k + 4))) hx hb hts hown hK hw hk 3 (by decide) (hts _ hw_746) rfl dd_R_takeAccept_34 ?_
        refine lv_iload_n hx hb dd_R_takeAccept_37 rfl (lv_at hl 2 rfl) ?_
        refine lv_aload_n hx hb dd_R_takeAccept_38 rfl (lv_at hl 0 rfl) ?_
        refine lv_bipush (v := 23) hx hb dd_R_takeAccept_39 rfl ?_
        refine lv_iconst (v := 1) hx hb dd_R_takeAccept_41 rfl ?_
        refine lv_iload_n hx hb dd_R_takeAccept_42 rfl (lv_at hl 2 rfl) ?_
        refine lv_iadd hx hb dd_R_takeAccept_43 ?_
        obtain ⟨q25, gq25, h⟩ := xs_ob h
        refine xq_i hK hw (va_runV (As := [.int 23, .int (1 + i2)]) (rest := [.int i2, .ref (ad (k + 4))]) ⟨hx, hb, hml, hown, hts⟩ (xc_R_at l D ad ca ks k 23 (1 + i2) S q25 hk gq25 _) ⟨callB_of 2 hts (xs_good hw_888) rfl rfl rfl (hts _ hw_13) (hts _ hw_885) yd_R_at ⟨Nat.le_trans (by decide) hRf, Nat.le_trans (by decide) hRl⟩, (hts _ hw_887), (hts _ hs_15)⟩ ⟨xs_blind, xs_recv_R hK hw hk, fun U h1 h2 => ⟨rfl, xs_pre hK hw h1 h2⟩⟩ rfl rfl hl.1 rfl (lv_room (Nat.le_of_ble_eq_true rfl)) dd_R_takeAccept_44 ⟨Nat.zero_le _, Nat.zero_le _⟩) (fun H locs hw => ?_)
        obtain ⟨S26, gS26, h⟩ := xs_ob h
        refine xr_iast hx hb hK hw (xs_ok_R_block hK.1 hk) gS26 dd_R_takeAccept_47 (fun H locs hw => ?_)
        refine lv_iinc (k := 2) (v := i2 + 1) hx hb dd_R_takeAccept_48 hl rfl rfl (by decide) rfl (fun ls hl => ?_)
        have hl : lv_has ls 3 [(2, .int (i2 + 1)), (0, .ref (ad k)), (1, .int n1)] := hl
        refine lv_goto hx hb dd_R_takeAccept_51 rfl ?_
        exact ih (i2 + 1) S26 _ _ _ hw (lv_sub hl [1, 2, 0] rfl) h
  unfold xf_R_takeAccept at h
  refine lv_aload_n hx hb dd_R_takeAccept_0 rfl (lv_at hl 0 rfl) ?_
  refine xr_get_R (v := .ref (ad (k + 10))) hx hb hts hown hK hw hk 10 (by decide) (hts _ hw_753) rfl dd_R_takeAccept_1 ?_
  refine lv_bipush (v := 23) hx hb dd_R_takeAccept_4 rfl ?_
  obtain ⟨v1, gv1, h⟩ := xs_ob h
  refine xr_iald hx hb hK hw (xs_ok_R_length hK.1 hk) gv1 dd_R_takeAccept_6 ?_
  refine lv_bipush (v := 17) hx hb dd_R_takeAccept_7 rfl ?_
  refine lv_icmp_ne hx hb dd_R_takeAccept_9 rfl (fun b2 => ?_) (fun b2 => ?_)
  · replace h := xs_n b2 h
    exact hret h hw dd_R_takeAccept_24
  · replace h := xs_p b2 h
    refine lv_aload_n hx hb dd_R_takeAccept_12 rfl (lv_at hl 0 rfl) ?_
    refine lv_bipush (v := 23) hx hb dd_R_takeAccept_13 rfl ?_
    refine lv_iconst (v := 0) hx hb dd_R_takeAccept_15 rfl ?_
    obtain ⟨q3, gq3, h⟩ := xs_ob h
    refine xq_i hK hw (va_runV (As := [.int 23, .int 0]) (rest := []) ⟨hx, hb, hml, hown, hts⟩ (xc_R_at l D ad ca ks k 23 0 S q3 hk gq3 _) ⟨callB_of 2 hts (xs_good hw_888) rfl rfl rfl (hts _ hw_13) (hts _ hw_885) yd_R_at ⟨Nat.le_trans (by decide) hRf, Nat.le_trans (by decide) hRl⟩, (hts _ hw_887), (hts _ hs_15)⟩ ⟨xs_blind, xs_recv_R hK hw hk, fun U h1 h2 => ⟨rfl, xs_pre hK hw h1 h2⟩⟩ rfl rfl hl.1 rfl (lv_room (Nat.le_of_ble_eq_true rfl)) dd_R_takeAccept_16 ⟨Nat.zero_le _, Nat.zero_le _⟩) (fun H locs hw => ?_)
    refine lv_bipush (v := 32) hx hb dd_R_takeAccept_19 rfl ?_
    refine lv_icmp_eq hx hb dd_R_takeAccept_21 rfl (fun b4 => ?_) (fun b4 => ?_)
    · replace h := xs_p b4 h
      refine lv_iconst (v := 0) hx hb dd_R_takeAccept_25 rfl ?_
      refine lv_istore_n hx hb dd_R_takeAccept_26 rfl hl (by decide) rfl (fun ls hl => ?_)
      have hl : lv_has ls 3 [(2, .int 0), (0, .ref (ad k)), (1, .int n1)] := hl
      exact w_27 xs_fuel 0 S _ _ _ hw (lv_sub hl [1, 2, 0] rfl) h
    · replace h := xs_n b4 h
      exact hret h hw dd_R_takeAccept_24
set_option maxHeartbeats 4000000 in
set_option maxRecDepth 100000 in
theorem xc_R_ending (l : Launch) (D : va_G) (ad : Nat → Nat) (ca : Nat → ClassId) (ks : List Nat) (n0 : Int32) (n1 : Int32) (S : xs_T) (r : Int32) (h : xf_R_ending n0 n1 = some r) (sz : Nat) : Met l yy_R_ending ws_R_ending { frames := 0, cells := 0, slots := 0, locals := 0 } (va_Pc [.int n0, .int n1] (xs_Pre D ad ca ks S sz)) (va_Qi (fun r1 (_ : Unit) => r1 = r) (fun _ t => va_P D xs_cl (xs_w ad ca ks S) t.heap) (xs_A ad ks sz)) 0 0 (xs_A ad ks sz) := by
  refine xm_ir (by decide) (Nat.le_of_ble_eq_true rfl) ?_
  intro p e s m args below meth c R A Q ls hx hb hml hown hts hRf hRl hK hw hl hret
  have hl : lv_has ls 3 [(0, .int n0), (1, .int n1)] := hl
  unfold xf_R_ending at h
  refine lv_iload_n hx hb dd_R_ending_0 rfl (lv_at hl 1 rfl) ?_
  refine lv_iload_n hx hb dd_R_ending_1 rfl (lv_at hl 1 rfl) ?_
  refine lv_ldc (v := 65536) hx hb hown (hts _ hw_994) dd_R_ending_2 ?_
  refine lv_irem hx hb dd_R_ending_4 (by decide) ?_
  refine lv_asI (v := xs_rem n1 65536) rfl ?_
  refine lv_isub hx hb dd_R_ending_5 ?_
  refine lv_iload_n hx hb dd_R_ending_6 rfl (lv_at hl 0 rfl) ?_
  refine lv_iadd hx hb dd_R_ending_7 ?_
  obtain ⟨v1, gv1, h⟩ := xs_ob h
  refine lv_namI gv1 ?_
  refine lv_istore_n hx hb dd_R_ending_8 rfl hl (by decide) rfl (fun ls hl => ?_)
  have hl : lv_has ls 3 [(2, .int v1), (0, .int n0), (1, .int n1)] := hl
  refine lv_iload_n hx hb dd_R_ending_9 rfl (lv_at hl 0 rfl) ?_
  refine lv_iload_n hx hb dd_R_ending_10 rfl (lv_at hl 2 rfl) ?_
  refine lv_icmp_ge hx hb dd_R_ending_11 rfl (fun b2 => ?_) (fun b2 => ?_)
  · replace h := xs_p b2 h
    refine lv_iload_n hx hb dd_R_ending_21 rfl (lv_at hl 0 rfl) ?_
    exact hret h hw dd_R_ending_22
  · replace h := xs_n b2 h
    refine lv_iload_n hx hb dd_R_ending_14 rfl (lv_at hl 0 rfl) ?_
    refine lv_ldc (v := 65536) hx hb hown (hts _ hw_994) dd_R_ending_15 ?_
    refine lv_iadd hx hb dd_R_ending_17 ?_
    refine lv_goto hx hb dd_R_ending_18 rfl ?_
    exact hret h hw dd_R_ending_22
set_option maxHeartbeats 4000000 in
set_option maxRecDepth 100000 in
theorem xc_R_takeData (l : Launch) (D : va_G) (ad : Nat → Nat) (ca : Nat → ClassId) (ks : List Nat) (k : Nat) (n1 : Int32) (S : xs_T) (T : xs_T) (hk : xs_is ks k xs_cR) (h : xf_R_takeData k n1 S = some T) (sz : Nat) : Met l yy_R_takeData ws_R_takeData { frames := 6, cells := 0, slots := 0, locals := 146 } (va_Pc [.ref (ad k), .int n1] (xs_Pre D ad ca ks S sz)) (va_Qv (fun _ : Unit => True) (fun _ t => va_P D xs_cl (xs_w ad ca ks T) t.heap) (xs_A ad ks sz)) 0 0 (xs_A ad ks sz) := by
  refine xm_v (by decide) (Nat.le_of_ble_eq_true rfl) ?_
  intro p e s m args below meth c R A Q ls hx hb hml hown hts hRf hRl hK hw hl hret
  have hl : lv_has ls 6 [(0, .ref (ad k)), (1, .int n1)] := hl
  have w_235 : ∀ (i5 : Int32) (S : xs_T) (H : Heap) (locs : List Loc) (ls : Array Slot), xs_I D ad ca ks A s S H locs → lv_has ls 6 [(0, .ref (ad k)), (1, .int n1), (5, .int i5)] → xf_R_takeData_235 k n1 i5 S = some T → W p l e R s m args below meth c H locs 0 0 Q (F0 m 235 ls []) := by
    intro i5 S H locs ls hw hl h
    unfold xf_R_takeData_235 at h
    refine lv_aload_n hx hb dd_R_takeData_235 rfl (lv_at hl 0 rfl) ?_
    refine xr_get_R (v := .ref (ad (k + 13))) hx hb hts hown hK hw hk 15 (by decide) (hts _ hw_758) rfl dd_R_takeData_236 ?_
    refine lv_iload_n hx hb dd_R_takeData_239 rfl (lv_at hl 1 rfl) ?_
    refine lv_aload_n hx hb dd_R_takeData_240 rfl (lv_at hl 0 rfl) ?_
    refine lv_iload_n hx hb dd_R_takeData_241 rfl (lv_at hl 1 rfl) ?_
    obtain ⟨q23, gq23, h⟩ := xs_ob h
    refine xq_i hK hw (va_runV (As := [.int n1]) (rest := [.int n1, .ref (ad (k + 13))]) ⟨hx, hb, hml, hown, hts⟩ (xc_R_confirmed l D ad ca ks k n1 S q23 hk gq23 _) ⟨callB_of 1 hts (xs_good hw_1006) rfl rfl rfl (hts _ hw_13) (hts _ hw_1003) yd_R_confirmed ⟨Nat.le_trans (by decide) hRf, Nat.le_trans (by decide) hRl⟩, (hts _ hw_1005), (hts _ hs_40)⟩ ⟨xs_blind, xs_recv_R hK hw hk, fun U h1 h2 => ⟨rfl, xs_pre hK hw h1 h2⟩⟩ rfl rfl hl.1 rfl (lv_room (Nat.le_of_ble_eq_true rfl)) dd_R_takeData_242 ⟨Nat.zero_le _, Nat.zero_le _⟩) (fun H locs hw => ?_)
    refine lv_if_eq hx hb dd_R_takeData_245 rfl (fun b24 => ?_) (fun b24 => ?_)
    · replace h := xs_p b24 h
      refine lv_iconst (v := 0) hx hb dd_R_takeData_257 rfl ?_
      obtain ⟨S25, gS25, h⟩ := xs_ob h
      refine xr_zast hx hb hK hw (xs_ok_R_waits hK.1 hk) gS25 dd_R_takeData_258 (fun H locs hw => ?_)
      exact hret h hw dd_R_takeData_259
    · replace h := xs_n b24 h
      refine lv_iload hx hb dd_R_takeData_248 (lv_at hl 2 rfl) ?_
      refine lv_if_ne hx hb dd_R_takeData_250 rfl (fun b26 => ?_) (fun b26 => ?_)
      · replace h := xs_n b26 h
        refine lv_iconst (v := 0) hx hb dd_R_takeData_257 rfl ?_
        obtain ⟨S27, gS27, h⟩ := xs_ob h
        refine xr_zast hx hb hK hw (xs_ok_R_waits hK.1 hk) gS27 dd_R_takeData_258 (fun H locs hw => ?_)
        exact hret h hw dd_R_takeData_259
      · replace h := xs_p b26 h
        refine lv_iconst (v := 1) hx hb dd_R_takeData_253 rfl ?_
        refine lv_goto hx hb dd_R_takeData_254 rfl ?_
        obtain ⟨S28, gS28, h⟩ := xs_ob h
        refine xr_zast hx hb hK hw (xs_ok_R_waits hK.1 hk) gS28 dd_R_takeData_258 (fun H locs hw => ?_)
        exact hret h hw dd_R_takeData_259
  have w_208 : ∀ (t0 : Int32) (S : xs_T) (H : Heap) (locs : List Loc) (ls : Array Slot), xs_I D ad ca ks A s S H locs → lv_has ls 6 [(0, .ref (ad k)), (1, .int n1)] → xf_R_takeData_208 k n1 t0 S = some T → W p l e R s m args below meth c H locs 0 0 Q (F0 m 208 ls [.int t0]) := by
    intro t0 S H locs ls hw hl h
    unfold xf_R_takeData_208 at h
    refine lv_istore hx hb dd_R_takeData_208 hl (by decide) rfl (fun ls hl => ?_)
    have hl : lv_has ls 6 [(5, .int t0), (0, .ref (ad k)), (1, .int n1)] := hl
    refine lv_aload_n hx hb dd_R_takeData_210 rfl (lv_at hl 1 rfl) ?_
    refine lv_iload_n hx hb dd_R_takeData_211 rfl (lv_at hl 2 rfl) ?_
    obtain ⟨q21, gq21, h⟩ := xs_ob h
    refine xq_i hK hw (va_runV (As := [.int n1]) (rest := []) ⟨hx, hb, hml, hown, hts⟩ (xc_R_confirmed l D ad ca ks k n1 S q21 hk gq21 _) ⟨callB_of 1 hts (xs_good hw_1006) rfl rfl rfl (hts _ hw_13) (hts _ hw_1003) yd_R_confirmed ⟨Nat.le_trans (by decide) hRf, Nat.le_trans (by decide) hRl⟩, (hts _ hw_1005), (hts _ hs_40)⟩ ⟨xs_blind, xs_recv_R hK hw hk, fun U h1 h2 => ⟨rfl, xs_pre hK hw h1 h2⟩⟩ rfl rfl hl.1 rfl (lv_room (Nat.le_of_ble_eq_true rfl)) dd_R_takeData_212 ⟨Nat.zero_le _, Nat.zero_le _⟩) (fun H locs hw => ?_)
    refine lv_if_eq hx hb dd_R_takeData_215 rfl (fun b22 => ?_) (fun b22 => ?_)
    · replace h := xs_p b22 h
      exact w_235 t0 S _ _ _ hw (lv_sub hl [1, 2, 0] rfl) h
    · replace h := xs_n b22 h
      refine lv_iload hx hb dd_R_takeData_218 (lv_at hl 0 rfl) ?_
      refine lv_if_eq hx hb dd_R_takeData_220 rfl (fun b29 => ?_) (fun b29 => ?_)
      · replace h := xs_p b29 h
        exact w_235 t0 S _ _ _ hw (lv_sub hl [1, 2, 0] rfl) h
      · replace h := xs_n b29 h
        refine lv_aload_n hx hb dd_R_takeData_223 rfl (lv_at hl 1 rfl) ?_
        refine xr_get_R (v := .ref (ad (k + 36))) hx hb hts hown hK hw hk 39 (by decide) (hts _ hw_782) rfl dd_R_takeData_224 ?_
        refine lv_iconst (v := 3) hx hb dd_R_takeData_227 rfl ?_
        refine lv_iload_n hx hb dd_R_takeData_228 rfl (lv_at hl 2 rfl) ?_
        refine lv_imul hx hb dd_R_takeData_229 ?_
        refine lv_dup2_11 hx hb dd_R_takeData_230 rfl rfl ?_
        obtain ⟨v30, gv30, h⟩ := xs_ob h
        refine xr_iald hx hb hK hw (xs_ok_R_tallies hK.1 hk) gv30 dd_R_takeData_231 ?_
        refine lv_iconst (v := 1) hx hb dd_R_takeData_232 rfl ?_
        refine lv_iadd hx hb dd_R_takeData_233 ?_
        obtain ⟨S31, gS31, h⟩ := xs_ob h
        refine xr_iast hx hb hK hw (xs_ok_R_tallies hK.1 hk) gS31 dd_R_takeData_234 (fun H locs hw => ?_)
        exact w_235 t0 S31 _ _ _ hw (lv_sub hl [1, 2, 0] rfl) h
  have w_195 : ∀ (i4 : Int32) (S : xs_T) (H : Heap) (locs : List Loc) (ls : Array Slot), xs_I D ad ca ks A s S H locs → lv_has ls 6 [(0, .ref (ad k)), (1, .int n1), (4, .int i4)] → xf_R_takeData_195 k n1 i4 S = some T → W p l e R s m args below meth c H locs 0 0 Q (F0 m 195 ls []) := by
    intro i4 S H locs ls hw hl h
    unfold xf_R_takeData_195 at h
    refine lv_iload hx hb dd_R_takeData_195 (lv_at hl 2 rfl) ?_
    refine lv_bipush (v := 32) hx hb dd_R_takeData_197 rfl ?_
    refine lv_iand hx hb dd_R_takeData_199 ?_
    refine lv_if_eq hx hb dd_R_takeData_200 rfl (fun b20 => ?_) (fun b20 => ?_)
    · replace h := xs_p b20 h
      refine lv_iconst (v := 0) hx hb dd_R_takeData_207 rfl ?_
      exact w_208 0 S _ _ _ hw (lv_sub hl [0, 1] rfl) h
    · replace h := xs_n b20 h
      refine lv_iconst (v := 1) hx hb dd_R_takeData_203 rfl ?_
      refine lv_goto hx hb dd_R_takeData_204 rfl ?_
      exact w_208 1 S _ _ _ hw (lv_sub hl [0, 1] rfl) h
  have w_147 : ∀ (S : xs_T) (H : Heap) (locs : List Loc) (ls : Array Slot), xs_I D ad ca ks A s S H locs → lv_has ls 6 [(0, .ref (ad k)), (1, .int n1)] → xf_R_takeData_147 k n1 S = some T → W p l e R s m args below meth c H locs 0 0 Q (F0 m 147 ls []) := by
    intro S H locs ls hw hl h
    unfold xf_R_takeData_147 at h
    refine lv_aload_n hx hb dd_R_takeData_147 rfl (lv_at hl 0 rfl) ?_
    refine lv_bipush (v := 23) hx hb dd_R_takeData_148 rfl ?_
    refine lv_iconst (v := 5) hx hb dd_R_takeData_150 rfl ?_
    obtain ⟨q18, gq18, h⟩ := xs_ob h
    refine xq_i hK hw (va_runV (As := [.int 23, .int 5]) (rest := []) ⟨hx, hb, hml, hown, hts⟩ (xc_R_at l D ad ca ks k 23 5 S q18 hk gq18 _) ⟨callB_of 2 hts (xs_good hw_888) rfl rfl rfl (hts _ hw_13) (hts _ hw_885) yd_R_at ⟨Nat.le_trans (by decide) hRf, Nat.le_trans (by decide) hRl⟩, (hts _ hw_887), (hts _ hs_15)⟩ ⟨xs_blind, xs_recv_R hK hw hk, fun U h1 h2 => ⟨rfl, xs_pre hK hw h1 h2⟩⟩ rfl rfl hl.1 rfl (lv_room (Nat.le_of_ble_eq_true rfl)) dd_R_takeData_151 ⟨Nat.zero_le _, Nat.zero_le _⟩) (fun H locs hw => ?_)
    refine lv_istore hx hb dd_R_takeData_154 hl (by decide) rfl (fun ls hl => ?_)
    have hl : lv_has ls 6 [(4, .int q18), (0, .ref (ad k)), (1, .int n1)] := hl
    refine lv_iload hx hb dd_R_takeData_156 (lv_at hl 0 rfl) ?_
    refine lv_bipush (v := 16) hx hb dd_R_takeData_158 rfl ?_
    refine lv_irem hx hb dd_R_takeData_160 (by decide) ?_
    refine lv_asI (v := xs_rem q18 16) rfl ?_
    refine lv_iconst (v := 3) hx hb dd_R_takeData_161 rfl ?_
    refine lv_icmp_ne hx hb dd_R_takeData_162 rfl (fun b19 => ?_) (fun b19 => ?_)
    · replace h := xs_n b19 h
      exact w_195 q18 S _ _ _ hw (lv_sub hl [1, 2, 0] rfl) h
    · replace h := xs_p b19 h
      refine lv_aload_n hx hb dd_R_takeData_165 rfl (lv_at hl 1 rfl) ?_
      refine lv_bipush (v := 23) hx hb dd_R_takeData_166 rfl ?_
      refine lv_bipush (v := 8) hx hb dd_R_takeData_168 rfl ?_
      obtain ⟨q32, gq32, h⟩ := xs_ob h
      refine xq_i hK hw (va_runV (As := [.int 23, .int 8]) (rest := []) ⟨hx, hb, hml, hown, hts⟩ (xc_R_at l D ad ca ks k 23 8 S q32 hk gq32 _) ⟨callB_of 2 hts (xs_good hw_888) rfl rfl rfl (hts _ hw_13) (hts _ hw_885) yd_R_at ⟨Nat.le_trans (by decide) hRf, Nat.le_trans (by decide) hRl⟩, (hts _ hw_887), (hts _ hs_15)⟩ ⟨xs_blind, xs_recv_R hK hw hk, fun U h1 h2 => ⟨rfl, xs_pre hK hw h1 h2⟩⟩ rfl rfl hl.1 rfl (lv_room (Nat.le_of_ble_eq_true rfl)) dd_R_takeData_170 ⟨Nat.zero_le _, Nat.zero_le _⟩) (fun H locs hw => ?_)
      refine lv_iconst (v := 2) hx hb dd_R_takeData_173 rfl ?_
      refine lv_icmp_ne hx hb dd_R_takeData_174 rfl (fun b33 => ?_) (fun b33 => ?_)
      · replace h := xs_n b33 h
        exact w_195 q18 S _ _ _ hw (lv_sub hl [1, 2, 0] rfl) h
      · replace h := xs_p b33 h
        refine lv_aload_n hx hb dd_R_takeData_177 rfl (lv_at hl 1 rfl) ?_
        refine xr_get_R (v := .ref (ad (k + 36))) hx hb hts hown hK hw hk 39 (by decide) (hts _ hw_782) rfl dd_R_takeData_178 ?_
        refine lv_iconst (v := 3) hx hb dd_R_takeData_181 rfl ?_
        refine lv_iload_n hx hb dd_R_takeData_182 rfl (lv_at hl 2 rfl) ?_
        refine lv_imul hx hb dd_R_takeData_183 ?_
        refine lv_iconst (v := 2) hx hb dd_R_takeData_184 rfl ?_
        refine lv_iadd hx hb dd_R_takeData_185 ?_
        refine lv_aload_n hx hb dd_R_takeData_186 rfl (lv_at hl 1 rfl) ?_
        refine lv_bipush (v := 23) hx hb dd_R_takeData_187 rfl ?_
        refine lv_bipush (v := 10) hx hb dd_R_takeData_189 rfl ?_
        obtain ⟨q34, gq34, h⟩ := xs_ob h
        refine xq_i hK hw (va_runV (As := [.int 23, .int 10]) (rest := [.int ((3 * n1) + 2), .ref (ad (k + 36))]) ⟨hx, hb, hml, hown, hts⟩ (xc_R_at l D ad ca ks k 23 10 S q34 hk gq34 _) ⟨callB_of 2 hts (xs_good hw_888) rfl rfl rfl (hts _ hw_13) (hts _ hw_885) yd_R_at ⟨Nat.le_trans (by decide) hRf, Nat.le_trans (by decide) hRl⟩, (hts _ hw_887), (hts _ hs_15)⟩ ⟨xs_blind, xs_recv_R hK hw hk, fun U h1 h2 => ⟨rfl, xs_pre hK hw h1 h2⟩⟩ rfl rfl hl.1 rfl (lv_room (Nat.le_of_ble_eq_true rfl)) dd_R_takeData_191 ⟨Nat.zero_le _, Nat.zero_le _⟩) (fun H locs hw => ?_)
        obtain ⟨S35, gS35, h⟩ := xs_ob h
        refine xr_iast hx hb hK hw (xs_ok_R_tallies hK.1 hk) gS35 dd_R_takeData_194 (fun H locs hw => ?_)
        exact w_195 q18 S35 _ _ _ hw (lv_sub hl [1, 2, 0] rfl) h
  unfold xf_R_takeData at h
  refine lv_aload_n hx hb dd_R_takeData_0 rfl (lv_at hl 0 rfl) ?_
  refine lv_bipush (v := 23) hx hb dd_R_takeData_1 rfl ?_
  obtain ⟨q1, gq1, h⟩ := xs_ob h
  refine xq_i hK hw (va_runV (As := [.int 23]) (rest := []) ⟨hx, hb, hml, hown, hts⟩ (xc_R_payloadOf l D ad ca ks k 23 S q1 hk gq1 _) ⟨callB_of 1 hts (xs_good hw_990) rfl rfl rfl (hts _ hw_13) (hts _ hw_987) yd_R_payloadOf ⟨Nat.le_trans (by decide) hRf, Nat.le_trans (by decide) hRl⟩, (hts _ hw_989), (hts _ hs_37)⟩ ⟨xs_blind, xs_recv_R hK hw hk, fun U h1 h2 => ⟨rfl, xs_pre hK hw h1 h2⟩⟩ rfl rfl hl.1 rfl (lv_room (Nat.le_of_ble_eq_true rfl)) dd_R_takeData_3 ⟨Nat.zero_le _, Nat.zero_le _⟩) (fun H locs hw => ?_)
  refine lv_istore_n hx hb dd_R_takeData_6 rfl hl (by decide) rfl (fun ls hl => ?_)
  have hl : lv_has ls 6 [(2, .int q1), (0, .ref (ad k)), (1, .int n1)] := hl
  refine lv_iload_n hx hb dd_R_takeData_7 rfl (lv_at hl 0 rfl) ?_
  refine lv_if_lt hx hb dd_R_takeData_8 rfl (fun b2 => ?_) (fun b2 => ?_)
  · replace h := xs_p b2 h
    exact hret h hw dd_R_takeData_40
  · replace h := xs_n b2 h
    refine lv_aload_n hx hb dd_R_takeData_11 rfl (lv_at hl 1 rfl) ?_
    refine lv_bipush (v := 23) hx hb dd_R_takeData_12 rfl ?_
    refine lv_iconst (v := 0) hx hb dd_R_takeData_14 rfl ?_
    obtain ⟨q3, gq3, h⟩ := xs_ob h
    refine xq_i hK hw (va_runV (As := [.int 23, .int 0]) (rest := []) ⟨hx, hb, hml, hown, hts⟩ (xc_R_at l D ad ca ks k 23 0 S q3 hk gq3 _) ⟨callB_of 2 hts (xs_good hw_888) rfl rfl rfl (hts _ hw_13) (hts _ hw_885) yd_R_at ⟨Nat.le_trans (by decide) hRf, Nat.le_trans (by decide) hRl⟩, (hts _ hw_887), (hts _ hs_15)⟩ ⟨xs_blind, xs_recv_R hK hw hk, fun U h1 h2 => ⟨rfl, xs_pre hK hw h1 h2⟩⟩ rfl rfl hl.1 rfl (lv_room (Nat.le_of_ble_eq_true rfl)) dd_R_takeData_15 ⟨Nat.zero_le _, Nat.zero_le _⟩) (fun H locs hw => ?_)
    refine lv_bipush (v := 96) hx hb dd_R_takeData_18 rfl ?_
    refine lv_icmp_ne hx hb dd_R_takeData_20 rfl (fun b4 => ?_) (fun b4 => ?_)
    · replace h := xs_n b4 h
      exact hret h hw dd_R_takeData_40
    · replace h := xs_p b4 h
      refine lv_aload_n hx hb dd_R_takeData_23 rfl (lv_at hl 1 rfl) ?_
      refine lv_bipush (v := 23) hx hb dd_R_takeData_24 rfl ?_
      refine lv_iconst (v := 1) hx hb dd_R_takeData_26 rfl ?_
      refine lv_iconst (v := 4) hx hb dd_R_takeData_27 rfl ?_
      obtain ⟨q5, gq5, h⟩ := xs_ob h
      refine xq_i hK hw (va_runV (As := [.int 23, .int 1, .int 4]) (rest := []) ⟨hx, hb, hml, hown, hts⟩ (xc_R_numberAt l D ad ca ks k 23 1 4 S q5 hk gq5 _) ⟨callB_of 3 hts (xs_good hw_974) rfl rfl rfl (hts _ hw_13) (hts _ hw_971) yd_R_numberAt ⟨Nat.le_trans (by decide) hRf, Nat.le_trans (by decide) hRl⟩, (hts _ hw_973), (hts _ hs_33)⟩ ⟨xs_blind, xs_recv_R hK hw hk, fun U h1 h2 => ⟨rfl, xs_pre hK hw h1 h2⟩⟩ rfl rfl hl.1 rfl (lv_room (Nat.le_of_ble_eq_true rfl)) dd_R_takeData_28 ⟨Nat.zero_le _, Nat.zero_le _⟩) (fun H locs hw => ?_)
      refine lv_aload_n hx hb dd_R_takeData_31 rfl (lv_at hl 1 rfl) ?_
      refine xr_get_R (v := .ref (ad (k + 18))) hx hb hts hown hK hw hk 20 (by decide) (hts _ hw_763) rfl dd_R_takeData_32 ?_
      refine lv_iload_n hx hb dd_R_takeData_35 rfl (lv_at hl 2 rfl) ?_
      obtain ⟨v6, gv6, h⟩ := xs_ob h
      refine xr_iald hx hb hK hw (xs_ok_R_address hK.1 hk) gv6 dd_R_takeData_36 ?_
      refine lv_icmp_eq hx hb dd_R_takeData_37 rfl (fun b7 => ?_) (fun b7 => ?_)
      · replace h := xs_p b7 h
        refine lv_aload_n hx hb dd_R_takeData_41 rfl (lv_at hl 1 rfl) ?_
        refine lv_bipush (v := 23) hx hb dd_R_takeData_42 rfl ?_
        refine lv_bipush (v := 6) hx hb dd_R_takeData_44 rfl ?_
        refine lv_iconst (v := 2) hx hb dd_R_takeData_46 rfl ?_
        obtain ⟨q8, gq8, h⟩ := xs_ob h
        refine xq_i hK hw (va_runV (As := [.int 23, .int 6, .int 2]) (rest := []) ⟨hx, hb, hml, hown, hts⟩ (xc_R_numberAt l D ad ca ks k 23 6 2 S q8 hk gq8 _) ⟨callB_of 3 hts (xs_good hw_974) rfl rfl rfl (hts _ hw_13) (hts _ hw_971) yd_R_numberAt ⟨Nat.le_trans (by decide) hRf, Nat.le_trans (by decide) hRl⟩, (hts _ hw_973), (hts _ hs_33)⟩ ⟨xs_blind, xs_recv_R hK hw hk, fun U h1 h2 => ⟨rfl, xs_pre hK hw h1 h2⟩⟩ rfl rfl hl.1 rfl (lv_room (Nat.le_of_ble_eq_true rfl)) dd_R_takeData_47 ⟨Nat.zero_le _, Nat.zero_le _⟩) (fun H locs hw => ?_)
        refine lv_aload_n hx hb dd_R_takeData_50 rfl (lv_at hl 1 rfl) ?_
        refine xr_get_R (v := .ref (ad (k + 20))) hx hb hts hown hK hw hk 22 (by decide) (hts _ hw_765) rfl dd_R_takeData_51 ?_
        refine lv_iload_n hx hb dd_R_takeData_54 rfl (lv_at hl 2 rfl) ?_
        obtain ⟨v9, gv9, h⟩ := xs_ob h
        refine xr_iald hx hb hK hw (xs_ok_R_lastDown hK.1 hk) gv9 dd_R_takeData_55 ?_
        refine lv_iconst (v := 1) hx hb dd_R_takeData_56 rfl ?_
        refine lv_iadd hx hb dd_R_takeData_57 ?_
        obtain ⟨q10, gq10, h⟩ := xs_ob h
        refine xq_i hK hw (va_runS (As := [.int q8, .int (v9 + 1)]) (rest := []) ⟨hx, hb, hml, hown, hts⟩ (xc_R_ending l D ad ca ks q8 (v9 + 1) S q10 gq10 _) ⟨callB_of 2 hts (xs_good hw_993) rfl rfl rfl (hts _ hw_13) (hts _ hw_991) yd_R_ending ⟨Nat.le_trans (by decide) hRf, Nat.le_trans (by decide) hRl⟩, (hts _ hw_992)⟩ ⟨xs_blind, fun U h1 h2 => ⟨rfl, xs_pre hK hw h1 h2⟩⟩ rfl rfl hl.1 rfl (lv_room (Nat.le_of_ble_eq_true rfl)) dd_R_takeData_58 ⟨Nat.zero_le _, Nat.zero_le _⟩) (fun H locs hw => ?_)
        refine lv_istore_n hx hb dd_R_takeData_61 rfl hl (by decide) rfl (fun ls hl => ?_)
        have hl : lv_has ls 6 [(3, .int q10), (2, .int q1), (0, .ref (ad k)), (1, .int n1)] := hl
        refine lv_aload_n hx hb dd_R_takeData_62 rfl (lv_at hl 2 rfl) ?_
        refine lv_bipush (v := 23) hx hb dd_R_takeData_63 rfl ?_
        refine lv_aload_n hx hb dd_R_takeData_65 rfl (lv_at hl 2 rfl) ?_
        refine xr_get_R (v := .ref (ad (k + 10))) hx hb hts hown hK hw hk 10 (by decide) (hts _ hw_753) rfl dd_R_takeData_66 ?_
        refine lv_bipush (v := 23) hx hb dd_R_takeData_69 rfl ?_
        obtain ⟨v11, gv11, h⟩ := xs_ob h
        refine xr_iald hx hb hK hw (xs_ok_R_length hK.1 hk) gv11 dd_R_takeData_71 ?_
        refine lv_iconst (v := 4) hx hb dd_R_takeData_72 rfl ?_
        refine lv_isub hx hb dd_R_takeData_73 ?_
        refine lv_iconst (v := 3) hx hb dd_R_takeData_74 rfl ?_
        refine lv_iconst (v := 2) hx hb dd_R_takeData_75 rfl ?_
        refine lv_iload_n hx hb dd_R_takeData_76 rfl (lv_at hl 3 rfl) ?_
        refine lv_imul hx hb dd_R_takeData_77 ?_
        refine lv_iadd hx hb dd_R_takeData_78 ?_
        refine lv_iconst (v := 1) hx hb dd_R_takeData_79 rfl ?_
        refine lv_aload_n hx hb dd_R_takeData_80 rfl (lv_at hl 2 rfl) ?_
        refine xr_get_R (v := .ref (ad (k + 18))) hx hb hts hown hK hw hk 20 (by decide) (hts _ hw_763) rfl dd_R_takeData_81 ?_
        refine lv_iload_n hx hb dd_R_takeData_84 rfl (lv_at hl 3 rfl) ?_
        obtain ⟨v12, gv12, h⟩ := xs_ob h
        refine xr_iald hx hb hK hw (xs_ok_R_address hK.1 hk) gv12 dd_R_takeData_85 ?_
        refine lv_iload_n hx hb dd_R_takeData_86 rfl (lv_at hl 0 rfl) ?_
        obtain ⟨q13, gq13, h⟩ := xs_ob h
        refine xq_v hK hw (va_runV (As := [.int 23, .int (v11 - 4), .int (3 + (2 * n1)), .int 1, .int v12, .int q10]) (rest := []) ⟨hx, hb, hml, hown, hts⟩ (xc_R_dataCode l D ad ca ks k 23 (v11 - 4) (3 + (2 * n1)) 1 v12 q10 S q13 hk gq13 _) ⟨callB_of 6 hts (xs_good hw_953) rfl rfl rfl (hts _ hw_13) (hts _ hw_950) yd_R_dataCode ⟨Nat.le_trans (by decide) hRf, Nat.le_trans (by decide) hRl⟩, (hts _ hw_952), (hts _ hs_30)⟩ ⟨xs_blind, xs_recv_R hK hw hk, fun U h1 h2 => ⟨rfl, xs_pre hK hw h1 h2⟩⟩ rfl rfl hl.1 rfl (lv_room (Nat.le_of_ble_eq_true rfl)) dd_R_takeData_87 ⟨Nat.zero_le _, Nat.zero_le _⟩) (fun H locs hw => ?_)
        refine lv_aload_n hx hb dd_R_takeData_90 rfl (lv_at hl 2 rfl) ?_
        refine lv_bipush (v := 23) hx hb dd_R_takeData_91 rfl ?_
        obtain ⟨q14, gq14, h⟩ := xs_ob h
        refine xq_i hK hw (va_runV (As := [.int 23]) (rest := []) ⟨hx, hb, hml, hown, hts⟩ (xc_R_endsWithCode l D ad ca ks k 23 q13 q14 hk gq14 _) ⟨callB_of 1 hts (xs_good hw_978) rfl rfl rfl (hts _ hw_13) (hts _ hw_975) yd_R_endsWithCode ⟨Nat.le_trans (by decide) hRf, Nat.le_trans (by decide) hRl⟩, (hts _ hw_977), (hts _ hs_34)⟩ ⟨xs_blind, xs_recv_R hK hw hk, fun U h1 h2 => ⟨rfl, xs_pre hK hw h1 h2⟩⟩ rfl rfl hl.1 rfl (lv_room (Nat.le_of_ble_eq_true rfl)) dd_R_takeData_93 ⟨Nat.zero_le _, Nat.zero_le _⟩) (fun H locs hw => ?_)
        refine lv_if_ne hx hb dd_R_takeData_96 rfl (fun b15 => ?_) (fun b15 => ?_)
        · replace h := xs_n b15 h
          refine lv_aload_n hx hb dd_R_takeData_100 rfl (lv_at hl 2 rfl) ?_
          refine xr_get_R (v := .ref (ad (k + 20))) hx hb hts hown hK hw hk 22 (by decide) (hts _ hw_765) rfl dd_R_takeData_101 ?_
          refine lv_iload_n hx hb dd_R_takeData_104 rfl (lv_at hl 3 rfl) ?_
          refine lv_iload_n hx hb dd_R_takeData_105 rfl (lv_at hl 0 rfl) ?_
          obtain ⟨S16, gS16, h⟩ := xs_ob h
          refine xr_iast hx hb hK hw (xs_ok_R_lastDown hK.1 hk) gS16 dd_R_takeData_106 (fun H locs hw => ?_)
          refine lv_iload_n hx hb dd_R_takeData_107 rfl (lv_at hl 1 rfl) ?_
          refine lv_if_le hx hb dd_R_takeData_108 rfl (fun b17 => ?_) (fun b17 => ?_)
          · replace h := xs_p b17 h
            exact w_147 S16 _ _ _ hw (lv_sub hl [2, 3] rfl) h
          · replace h := xs_n b17 h
            refine lv_aload_n hx hb dd_R_takeData_111 rfl (lv_at hl 2 rfl) ?_
            refine lv_aload_n hx hb dd_R_takeData_112 rfl (lv_at hl 2 rfl) ?_
            refine lv_bipush (v := 23) hx hb dd_R_takeData_113 rfl ?_
            refine lv_iload_n hx hb dd_R_takeData_115 rfl (lv_at hl 1 rfl) ?_
            obtain ⟨q36, gq36, h⟩ := xs_ob h
            refine xq_l hK hw (va_runV (As := [.int 23, .int q1]) (rest := [.ref (ad k)]) ⟨hx, hb, hml, hown, hts⟩ (xc_R_payloadAt l D ad ca ks k 23 q1 S16 q36 hk gq36 _) ⟨callB_of 2 hts (xs_good hw_998) rfl rfl rfl (hts _ hw_13) (hts _ hw_995) yd_R_payloadAt ⟨Nat.le_trans (by decide) hRf, Nat.le_trans (by decide) hRl⟩, (hts _ hw_997), (hts _ hs_38)⟩ ⟨xs_blind, xs_recv_R hK hw hk, fun U h1 h2 => ⟨rfl, xs_pre hK hw h1 h2⟩⟩ rfl rfl hl.1 rfl (lv_room (Nat.le_of_ble_eq_true rfl)) dd_R_takeData_116 ⟨Nat.zero_le _, Nat.zero_le _⟩) (fun H locs hw => ?_)
            refine lv_iload_n hx hb dd_R_takeData_119 rfl (lv_at hl 1 rfl) ?_
            refine lv_iconst (v := 4) hx hb dd_R_takeData_120 rfl ?_
            refine lv_iconst (v := 2) hx hb dd_R_takeData_121 rfl ?_
            refine lv_iload_n hx hb dd_R_takeData_122 rfl (lv_at hl 3 rfl) ?_
            refine lv_imul hx hb dd_R_takeData_123 ?_
            refine lv_iadd hx hb dd_R_takeData_124 ?_
            refine lv_iconst (v := 1) hx hb dd_R_takeData_125 rfl ?_
            refine lv_aload_n hx hb dd_R_takeData_126 rfl (lv_at hl 2 rfl) ?_
            refine xr_get_R (v := .ref (ad (k + 18))) hx hb hts hown hK hw hk 20 (by decide) (hts _ hw_763) rfl dd_R_takeData_127 ?_
            refine lv_iload_n hx hb dd_R_takeData_130 rfl (lv_at hl 3 rfl) ?_
            obtain ⟨v37, gv37, h⟩ := xs_ob h
            refine xr_iald hx hb hK hw (xs_ok_R_address hK.1 hk) gv37 dd_R_takeData_131 ?_
            refine lv_iload_n hx hb dd_R_takeData_132 rfl (lv_at hl 0 rfl) ?_
            obtain ⟨q38, gq38, h⟩ := xs_ob h
            refine xq_l hK hw (va_runV (As := [.long q36, .int q1, .int (4 + (2 * n1)), .int 1, .int v37, .int q10]) (rest := []) ⟨hx, hb, hml, hown, hts⟩ (xc_R_enciphered l D ad ca ks k q36 q1 (4 + (2 * n1)) 1 v37 q10 S16 q38.1 q38.2 hk gq38 _) ⟨callB_of 6 hts (xs_good hw_944) rfl rfl rfl (hts _ hw_13) (hts _ hw_941) yd_R_enciphered ⟨Nat.le_trans (by decide) hRf, Nat.le_trans (by decide) hRl⟩, (hts _ hw_943), (hts _ hs_28)⟩ ⟨xs_blind, xs_recv_R hK hw hk, fun U h1 h2 => ⟨rfl, xs_pre hK hw h1 h2⟩⟩ rfl rfl hl.1 rfl (lv_room (Nat.le_of_ble_eq_true rfl)) dd_R_takeData_133 ⟨Nat.zero_le _, Nat.zero_le _⟩) (fun H locs hw => ?_)
            refine lv_lstore hx hb dd_R_takeData_136 hl (by decide) rfl (fun ls hl => ?_)
            have hl : lv_has ls 6 [(4, .long q38.1), (3, .int q10), (2, .int q1), (0, .ref (ad k)), (1, .int n1)] := hl
            refine lv_aload_n hx hb dd_R_takeData_138 rfl (lv_at hl 3 rfl) ?_
            refine lv_iconst (v := 3) hx hb dd_R_takeData_139 rfl ?_
            refine lv_iload_n hx hb dd_R_takeData_140 rfl (lv_at hl 4 rfl) ?_
            refine lv_iadd hx hb dd_R_takeData_141 ?_
            refine lv_lload hx hb dd_R_takeData_142 (lv_at hl 0 rfl) ?_
            obtain ⟨q39, gq39, h⟩ := xs_ob h
            refine xq_v hK hw (va_runV (As := [.int (3 + n1), .long q38.1]) (rest := []) ⟨hx, hb, hml, hown, hts⟩ (xc_R_receive l D ad ca ks k (3 + n1) q38.1 q38.2 q39 hk gq39 _) ⟨callB_of 2 hts (xs_good hw_1002) rfl rfl rfl (hts _ hw_13) (hts _ hw_999) yd_R_receive ⟨Nat.le_trans (by decide) hRf, Nat.le_trans (by decide) hRl⟩, (hts _ hw_1001), (hts _ hs_39)⟩ ⟨xs_blind, xs_recv_R hK hw hk, fun U h1 h2 => ⟨rfl, xs_pre hK hw h1 h2⟩⟩ rfl rfl hl.1 rfl (lv_room (Nat.le_of_ble_eq_true rfl)) dd_R_takeData_144 ⟨Nat.zero_le _, Nat.zero_le _⟩) (fun H locs hw => ?_)
            exact w_147 q39 _ _ _ hw (lv_sub hl [3, 4] rfl) h
        · replace h := xs_p b15 h
          exact hret h hw dd_R_takeData_99
      · replace h := xs_n b7 h
        exact hret h hw dd_R_takeData_40
set_option maxHeartbeats 4000000 in
set_option maxRecDepth 100000 in
theorem xc_R_reach (l : Launch) (D : va_G) (ad : Nat → Nat) (ca : Nat → ClassId) (ks : List Nat) (k : Nat) (n1 : Int32) (S : xs_T) (r : Int32) (T : xs_T) (hk : xs_is ks k xs_cR) (h : xf_R_reach k n1 S = some (r, T)) (sz : Nat) : Met l yy_R_reach ws_R_reach { frames := 7, cells := 0, slots := 0, locals := 171 } (va_Pc [.ref (ad k), .int n1] (xs_Pre D ad ca ks S sz)) (va_Qi (fun r1 (_ : Unit) => r1 = r) (fun _ t => va_P D xs_cl (xs_w ad ca ks T) t.heap) (xs_A ad ks sz)) 0 0 (xs_A ad ks sz) := by
  refine xm_z (by decide) (Nat.le_of_ble_eq_true rfl) ?_
  intro p e s m args below meth c R A Q ls hx hb hml hown hts hRf hRl hK hw hl hret
  have hl : lv_has ls 4 [(0, .ref (ad k)), (1, .int n1)] := hl
  have w_109 : ∀ (i2 : Int32) (i3 : Int32) (S : xs_T) (H : Heap) (locs : List Loc) (ls : Array Slot), xs_I D ad ca ks A s S H locs → lv_has ls 4 [(0, .ref (ad k)), (2, .int i2), (3, .int i3)] → xf_R_reach_109 k n1 i2 i3 S = some (r, T) → W p l e R s m args below meth c H locs 0 0 Q (F0 m 109 ls []) := by
    intro i2 i3 S H locs ls hw hl h
    unfold xf_R_reach_109 at h
    refine lv_iload_n hx hb dd_R_reach_109 rfl (lv_at hl 2 rfl) ?_
    refine lv_if_eq hx hb dd_R_reach_110 rfl (fun b11 => ?_) (fun b11 => ?_)
    · replace h := xs_p b11 h
      refine lv_iconst (v := 1) hx hb dd_R_reach_128 rfl ?_
      exact hret h hw dd_R_reach_129
    · replace h := xs_n b11 h
      refine lv_aload_n hx hb dd_R_reach_113 rfl (lv_at hl 0 rfl) ?_
      refine xr_get_R (v := .ref (ad (k + 12))) hx hb hts hown hK hw hk 14 (by decide) (hts _ hw_757) rfl dd_R_reach_114 ?_
      refine lv_iload_n hx hb dd_R_reach_117 rfl (lv_at hl 1 rfl) ?_
      obtain ⟨v12, gv12, h⟩ := xs_ob h
      refine xr_iald hx hb hK hw (xs_ok_R_state hK.1 hk) gv12 dd_R_reach_118 ?_
      refine lv_iconst (v := 2) hx hb dd_R_reach_119 rfl ?_
      refine lv_icmp_ne hx hb dd_R_reach_120 rfl (fun b13 => ?_) (fun b13 => ?_)
      · replace h := xs_n b13 h
        refine lv_iconst (v := 1) hx hb dd_R_reach_128 rfl ?_
        exact hret h hw dd_R_reach_129
      · replace h := xs_p b13 h
        refine lv_aload_n hx hb dd_R_reach_123 rfl (lv_at hl 0 rfl) ?_
        refine lv_iload_n hx hb dd_R_reach_124 rfl (lv_at hl 1 rfl) ?_
        obtain ⟨q14, gq14, h⟩ := xs_ob h
        refine xq_v hK hw (va_runV (As := [.int i2]) (rest := []) ⟨hx, hb, hml, hown, hts⟩ (xc_R_takeData l D ad ca ks k i2 S q14 hk gq14 _) ⟨callB_of 1 hts (xs_good hw_986) rfl rfl rfl (hts _ hw_13) (hts _ hw_983) yd_R_takeData ⟨Nat.le_trans (by decide) hRf, Nat.le_trans (by decide) hRl⟩, (hts _ hw_985), (hts _ hs_36)⟩ ⟨xs_blind, xs_recv_R hK hw hk, fun U h1 h2 => ⟨rfl, xs_pre hK hw h1 h2⟩⟩ rfl rfl hl.1 rfl (lv_room (Nat.le_of_ble_eq_true rfl)) dd_R_reach_125 ⟨Nat.zero_le _, Nat.zero_le _⟩) (fun H locs hw => ?_)
        refine lv_iconst (v := 1) hx hb dd_R_reach_128 rfl ?_
        exact hret h hw dd_R_reach_129
  have w_86 : ∀ (i2 : Int32) (t0 : Int32) (S : xs_T) (H : Heap) (locs : List Loc) (ls : Array Slot), xs_I D ad ca ks A s S H locs → lv_has ls 4 [(0, .ref (ad k)), (2, .int i2)] → xf_R_reach_86 k n1 i2 t0 S = some (r, T) → W p l e R s m args below meth c H locs 0 0 Q (F0 m 86 ls [.int t0]) := by
    intro i2 t0 S H locs ls hw hl h
    unfold xf_R_reach_86 at h
    refine lv_istore_n hx hb dd_R_reach_86 rfl hl (by decide) rfl (fun ls hl => ?_)
    have hl : lv_has ls 4 [(3, .int t0), (0, .ref (ad k)), (2, .int i2)] := hl
    refine lv_iload_n hx hb dd_R_reach_87 rfl (lv_at hl 0 rfl) ?_
    refine lv_if_eq hx hb dd_R_reach_88 rfl (fun b10 => ?_) (fun b10 => ?_)
    · replace h := xs_p b10 h
      exact w_109 i2 t0 S _ _ _ hw (lv_sub hl [1, 2, 0] rfl) h
    · replace h := xs_n b10 h
      refine lv_aload_n hx hb dd_R_reach_91 rfl (lv_at hl 1 rfl) ?_
      refine xr_get_R (v := .ref (ad (k + 12))) hx hb hts hown hK hw hk 14 (by decide) (hts _ hw_757) rfl dd_R_reach_92 ?_
      refine lv_iload_n hx hb dd_R_reach_95 rfl (lv_at hl 2 rfl) ?_
      obtain ⟨v15, gv15, h⟩ := xs_ob h
      refine xr_iald hx hb hK hw (xs_ok_R_state hK.1 hk) gv15 dd_R_reach_96 ?_
      refine lv_iconst (v := 1) hx hb dd_R_reach_97 rfl ?_
      refine lv_icmp_ne hx hb dd_R_reach_98 rfl (fun b16 => ?_) (fun b16 => ?_)
      · replace h := xs_n b16 h
        exact w_109 i2 t0 S _ _ _ hw (lv_sub hl [1, 2, 0] rfl) h
      · replace h := xs_p b16 h
        refine lv_aload_n hx hb dd_R_reach_101 rfl (lv_at hl 1 rfl) ?_
        refine lv_iload_n hx hb dd_R_reach_102 rfl (lv_at hl 2 rfl) ?_
        obtain ⟨q17, gq17, h⟩ := xs_ob h
        refine xq_v hK hw (va_runV (As := [.int i2]) (rest := []) ⟨hx, hb, hml, hown, hts⟩ (xc_R_takeAccept l D ad ca ks k i2 S q17 hk gq17 _) ⟨callB_of 1 hts (xs_good hw_970) rfl rfl rfl (hts _ hw_13) (hts _ hw_967) yd_R_takeAccept ⟨Nat.le_trans (by decide) hRf, Nat.le_trans (by decide) hRl⟩, (hts _ hw_969), (hts _ hs_32)⟩ ⟨xs_blind, xs_recv_R hK hw hk, fun U h1 h2 => ⟨rfl, xs_pre hK hw h1 h2⟩⟩ rfl rfl hl.1 rfl (lv_room (Nat.le_of_ble_eq_true rfl)) dd_R_reach_103 ⟨Nat.zero_le _, Nat.zero_le _⟩) (fun H locs hw => ?_)
        refine lv_goto hx hb dd_R_reach_106 rfl ?_
        refine lv_iconst (v := 1) hx hb dd_R_reach_128 rfl ?_
        exact hret h hw dd_R_reach_129
  have w_85 : ∀ (i2 : Int32) (S : xs_T) (H : Heap) (locs : List Loc) (ls : Array Slot), xs_I D ad ca ks A s S H locs → lv_has ls 4 [(0, .ref (ad k)), (2, .int i2)] → xf_R_reach_85 k n1 i2 S = some (r, T) → W p l e R s m args below meth c H locs 0 0 Q (F0 m 85 ls []) := by
    intro i2 S H locs ls hw hl h
    unfold xf_R_reach_85 at h
    refine lv_iconst (v := 0) hx hb dd_R_reach_85 rfl ?_
    exact w_86 i2 0 S _ _ _ hw (lv_sub hl [0, 1] rfl) h
  have w_81 : ∀ (i2 : Int32) (S : xs_T) (H : Heap) (locs : List Loc) (ls : Array Slot), xs_I D ad ca ks A s S H locs → lv_has ls 4 [(0, .ref (ad k)), (2, .int i2)] → xf_R_reach_81 k n1 i2 S = some (r, T) → W p l e R s m args below meth c H locs 0 0 Q (F0 m 81 ls []) := by
    intro i2 S H locs ls hw hl h
    unfold xf_R_reach_81 at h
    refine lv_iconst (v := 1) hx hb dd_R_reach_81 rfl ?_
    refine lv_goto hx hb dd_R_reach_82 rfl ?_
    exact w_86 i2 1 S _ _ _ hw (lv_sub hl [0, 1] rfl) h
  unfold xf_R_reach at h
  refine lv_iload_n hx hb dd_R_reach_0 rfl (lv_at hl 1 rfl) ?_
  refine lv_aload_n hx hb dd_R_reach_1 rfl (lv_at hl 0 rfl) ?_
  refine xr_get_R (v := .int (xs_gI S k 12)) hx hb hts hown hK hw hk 12 (by decide) (hts _ hw_755) rfl dd_R_reach_2 ?_
  obtain ⟨q1, gq1, h⟩ := xs_ob h
  refine xq_i hK hw (va_runS (As := [.int n1, .int (xs_gI S k 12)]) (rest := []) ⟨hx, hb, hml, hown, hts⟩ (xc_R_below l D ad ca ks n1 (xs_gI S k 12) S q1 gq1 _) ⟨callB_of 2 hts (xs_good hw_871) rfl rfl rfl (hts _ hw_13) (hts _ hw_869) yd_R_below ⟨Nat.le_trans (by decide) hRf, Nat.le_trans (by decide) hRl⟩, (hts _ hw_870)⟩ ⟨xs_blind, fun U h1 h2 => ⟨rfl, xs_pre hK hw h1 h2⟩⟩ rfl rfl hl.1 rfl (lv_room (Nat.le_of_ble_eq_true rfl)) dd_R_reach_5 ⟨Nat.zero_le _, Nat.zero_le _⟩) (fun H locs hw => ?_)
  refine lv_if_eq hx hb dd_R_reach_8 rfl (fun b2 => ?_) (fun b2 => ?_)
  · replace h := xs_p b2 h
    refine lv_iconst (v := 0) hx hb dd_R_reach_21 rfl ?_
    exact hret h hw dd_R_reach_22
  · replace h := xs_n b2 h
    refine lv_aload_n hx hb dd_R_reach_11 rfl (lv_at hl 0 rfl) ?_
    refine xr_get_R (v := .ref (ad (k + 11))) hx hb hts hown hK hw hk 11 (by decide) (hts _ hw_754) rfl dd_R_reach_12 ?_
    refine lv_iload_n hx hb dd_R_reach_15 rfl (lv_at hl 1 rfl) ?_
    obtain ⟨v3, gv3, h⟩ := xs_ob h
    refine xr_iald hx hb hK hw (xs_ok_R_goal hK.1 hk) gv3 dd_R_reach_16 ?_
    refine lv_iconst (v := 3) hx hb dd_R_reach_17 rfl ?_
    refine lv_icmp_ne hx hb dd_R_reach_18 rfl (fun b4 => ?_) (fun b4 => ?_)
    · replace h := xs_n b4 h
      refine lv_aload_n hx hb dd_R_reach_23 rfl (lv_at hl 0 rfl) ?_
      refine xr_get_R (v := .ref (ad (k + 11))) hx hb hts hown hK hw hk 11 (by decide) (hts _ hw_754) rfl dd_R_reach_24 ?_
      refine lv_iload_n hx hb dd_R_reach_27 rfl (lv_at hl 1 rfl) ?_
      obtain ⟨v5, gv5, h⟩ := xs_ob h
      refine xr_iald hx hb hK hw (xs_ok_R_goal hK.1 hk) gv5 dd_R_reach_28 ?_
      refine lv_istore_n hx hb dd_R_reach_29 rfl hl (by decide) rfl (fun ls hl => ?_)
      have hl : lv_has ls 4 [(2, .int v5), (0, .ref (ad k)), (1, .int n1)] := hl
      refine lv_aload_n hx hb dd_R_reach_30 rfl (lv_at hl 1 rfl) ?_
      refine lv_iload_n hx hb dd_R_reach_31 rfl (lv_at hl 2 rfl) ?_
      refine lv_bipush (v := 23) hx hb dd_R_reach_32 rfl ?_
      obtain ⟨q6, gq6, h⟩ := xs_ob h
      refine xq_v hK hw (va_runV (As := [.int n1, .int 23]) (rest := []) ⟨hx, hb, hml, hown, hts⟩ (xc_R_copyFrame l D ad ca ks k n1 23 S q6 hk gq6 _) ⟨callB_of 2 hts (xs_good hw_928) rfl rfl rfl (hts _ hw_13) (hts _ hw_925) yd_R_copyFrame ⟨Nat.le_trans (by decide) hRf, Nat.le_trans (by decide) hRl⟩, (hts _ hw_927), (hts _ hs_25)⟩ ⟨xs_blind, xs_recv_R hK hw hk, fun U h1 h2 => ⟨rfl, xs_pre hK hw h1 h2⟩⟩ rfl rfl hl.1 rfl (lv_room (Nat.le_of_ble_eq_true rfl)) dd_R_reach_34 ⟨Nat.zero_le _, Nat.zero_le _⟩) (fun H locs hw => ?_)
      refine lv_aload_n hx hb dd_R_reach_37 rfl (lv_at hl 1 rfl) ?_
      refine lv_iload_n hx hb dd_R_reach_38 rfl (lv_at hl 2 rfl) ?_
      obtain ⟨q7, gq7, h⟩ := xs_ob h
      refine xq_v hK hw (va_runV (As := [.int n1]) (rest := []) ⟨hx, hb, hml, hown, hts⟩ (xc_R_leave l D ad ca ks k n1 q6 q7 hk gq7 _) ⟨callB_of 1 hts (xs_good hw_966) rfl rfl rfl (hts _ hw_13) (hts _ hw_963) yd_R_leave ⟨Nat.le_trans (by decide) hRf, Nat.le_trans (by decide) hRl⟩, (hts _ hw_965), (hts _ hs_31)⟩ ⟨xs_blind, xs_recv_R hK hw hk, fun U h1 h2 => ⟨rfl, xs_pre hK hw h1 h2⟩⟩ rfl rfl hl.1 rfl (lv_room (Nat.le_of_ble_eq_true rfl)) dd_R_reach_39 ⟨Nat.zero_le _, Nat.zero_le _⟩) (fun H locs hw => ?_)
      refine lv_aload_n hx hb dd_R_reach_42 rfl (lv_at hl 1 rfl) ?_
      refine xr_get_R (v := .ref (ad (k + 13))) hx hb hts hown hK hw hk 15 (by decide) (hts _ hw_758) rfl dd_R_reach_43 ?_
      refine lv_iload_n hx hb dd_R_reach_46 rfl (lv_at hl 0 rfl) ?_
      obtain ⟨v8, gv8, h⟩ := xs_ob h
      refine xr_zald hx hb hK hw (xs_ok_R_waits hK.1 hk) gv8 dd_R_reach_47 ?_
      refine lv_if_eq hx hb dd_R_reach_48 rfl (fun b9 => ?_) (fun b9 => ?_)
      · replace h := xs_p b9 h
        exact w_85 v5 q7 _ _ _ hw (lv_sub hl [1, 0] rfl) h
      · replace h := xs_n b9 h
        refine lv_aload_n hx hb dd_R_reach_51 rfl (lv_at hl 1 rfl) ?_
        refine xr_get_R (v := .int (xs_gI q7 k 8)) hx hb hts hown hK hw hk 8 (by decide) (hts _ hw_751) rfl dd_R_reach_52 ?_
        refine lv_aload_n hx hb dd_R_reach_55 rfl (lv_at hl 1 rfl) ?_
        refine xr_get_R (v := .ref (ad (k + 14))) hx hb hts hown hK hw hk 16 (by decide) (hts _ hw_759) rfl dd_R_reach_56 ?_
        refine lv_iload_n hx hb dd_R_reach_59 rfl (lv_at hl 0 rfl) ?_
        obtain ⟨v18, gv18, h⟩ := xs_ob h
        refine xr_iald hx hb hK hw (xs_ok_R_since hK.1 hk) gv18 dd_R_reach_60 ?_
        refine lv_iconst (v := 1) hx hb dd_R_reach_61 rfl ?_
        refine lv_iadd hx hb dd_R_reach_62 ?_
        refine lv_icmp_eq hx hb dd_R_reach_63 rfl (fun b19 => ?_) (fun b19 => ?_)
        · replace h := xs_p b19 h
          exact w_81 v5 q7 _ _ _ hw (lv_sub hl [1, 0] rfl) h
        · replace h := xs_n b19 h
          refine lv_aload_n hx hb dd_R_reach_66 rfl (lv_at hl 1 rfl) ?_
          refine xr_get_R (v := .int (xs_gI q7 k 8)) hx hb hts hown hK hw hk 8 (by decide) (hts _ hw_751) rfl dd_R_reach_67 ?_
          refine lv_aload_n hx hb dd_R_reach_70 rfl (lv_at hl 1 rfl) ?_
          refine xr_get_R (v := .ref (ad (k + 14))) hx hb hts hown hK hw hk 16 (by decide) (hts _ hw_759) rfl dd_R_reach_71 ?_
          refine lv_iload_n hx hb dd_R_reach_74 rfl (lv_at hl 0 rfl) ?_
          obtain ⟨v20, gv20, h⟩ := xs_ob h
          refine xr_iald hx hb hK hw (xs_ok_R_since hK.1 hk) gv20 dd_R_reach_75 ?_
          refine lv_iconst (v := 2) hx hb dd_R_reach_76 rfl ?_
          refine lv_iadd hx hb dd_R_reach_77 ?_
          refine lv_icmp_ne hx hb dd_R_reach_78 rfl (fun b21 => ?_) (fun b21 => ?_)
          · replace h := xs_n b21 h
            exact w_85 v5 q7 _ _ _ hw (lv_sub hl [1, 0] rfl) h
          · replace h := xs_p b21 h
            exact w_81 v5 q7 _ _ _ hw (lv_sub hl [1, 0] rfl) h
    · replace h := xs_p b4 h
      refine lv_iconst (v := 0) hx hb dd_R_reach_21 rfl ?_
      exact hret h hw dd_R_reach_22
