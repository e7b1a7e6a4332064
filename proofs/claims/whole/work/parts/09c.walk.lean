set_option maxHeartbeats 4000000 in
set_option maxRecDepth 100000 in
theorem xc_D_writeData (l : Launch) (D : va_G) (ad : Nat → Nat) (ca : Nat → ClassId) (ks : List Nat) (k : Nat) (n1 : Int64) (n3 : Int32) (n4 : Int32) (n5 : Int32) (S : xs_T) (T : xs_T) (hk : xs_is ks k xs_cD) (h : xf_D_writeData k n1 n3 n4 n5 S = some T) (sz : Nat) : Met l yy_D_writeData ws_D_writeData { frames := 4, cells := 0, slots := 0, locals := 120 } (va_Pc [.ref (ad k), .long n1, .int n3, .int n4, .int n5] (xs_Pre D ad ca ks S sz)) (va_Qv (fun _ : Unit => True) (fun _ t => va_P D xs_cl (xs_w ad ca ks T) t.heap) (xs_A ad ks sz)) 0 0 (xs_A ad ks sz) := by
  refine xm_v (by decide) (Nat.le_of_ble_eq_true rfl) ?_
  intro p e s m args below meth c R A Q ls hx hb hml hown hts hRf hRl hK hw hl hret
  have hl : lv_has ls 6 [(0, .ref (ad k)), (1, .long n1), (3, .int n3), (4, .int n4), (5, .int n5)] := hl
  have w_64 : ∀ (S : xs_T) (H : Heap) (locs : List Loc) (ls : Array Slot), xs_I D ad ca ks A s S H locs → lv_has ls 6 [(0, .ref (ad k)), (1, .long n1), (3, .int n3)] → xf_D_writeData_64 k n1 n3 n4 n5 S = some T → W p l e R s m args below meth c H locs 0 0 Q (F0 m 64 ls []) := by
    intro S H locs ls hw hl h
    unfold xf_D_writeData_64 at h
    refine lv_aload_n hx hb dd_D_writeData_64 rfl (lv_at hl 0 rfl) ?_
    refine xr_get_D (v := .ref (ad (k + 1))) hx hb hts hown hK hw hk 2 (by decide) (hts _ hw_200) rfl dd_D_writeData_65 ?_
    refine lv_aload_n hx hb dd_D_writeData_68 rfl (lv_at hl 0 rfl) ?_
    refine xr_get_D (v := .ref (ad (k + 14))) hx hb hts hown hK hw hk 4 (by decide) (hts _ hw_203) rfl dd_D_writeData_69 ?_
    refine lv_iconst (v := 0) hx hb dd_D_writeData_72 rfl ?_
    refine lv_aload_n hx hb dd_D_writeData_73 rfl (lv_at hl 0 rfl) ?_
    refine xr_get_D (v := .int (xs_gI S k 9)) hx hb hts hown hK hw hk 9 (by decide) (hts _ hw_210) rfl dd_D_writeData_74 ?_
    refine lv_lload_n hx hb dd_D_writeData_77 rfl (lv_at hl 1 rfl) ?_
    refine lv_iload_n hx hb dd_D_writeData_78 rfl (lv_at hl 2 rfl) ?_
    obtain ⟨q7, gq7, h⟩ := xs_ob h
    refine xq_v hK hw (va_runV (As := [.ref (ad (k + 14)), .int 0, .int (xs_gI S k 9), .long n1, .int n3]) (rest := []) ⟨hx, hb, hml, hown, hts⟩ (xc_S_finish l D ad ca ks (k + 1) (k + 14) 0 (xs_gI S k 9) n1 n3 S q7 (xs_ok_D_session hK.1 hk) (xs_ok_D_sent hK.1 hk) gq7 _) ⟨callB_of 5 hts (xs_good hw_433) rfl rfl rfl (hts _ hw_9) (hts _ hw_430) yd_S_finish ⟨Nat.le_trans (by decide) hRf, Nat.le_trans (by decide) hRl⟩, (hts _ hw_431), (hts _ hw_432)⟩ ⟨xs_blind, xs_recv_S hK hw (xs_ok_D_session hK.1 hk), fun U h1 h2 => ⟨rfl, xs_pre hK hw h1 h2⟩⟩ rfl rfl hl.1 rfl (lv_room (Nat.le_of_ble_eq_true rfl)) dd_D_writeData_79 ⟨Nat.zero_le _, Nat.zero_le _⟩) (fun H locs hw => ?_)
    refine lv_aload_n hx hb dd_D_writeData_82 rfl (lv_at hl 0 rfl) ?_
    refine lv_dup hx hb dd_D_writeData_83 rfl ?_
    refine xr_get_D (v := .int (xs_gI q7 k 9)) hx hb hts hown hK hw hk 9 (by decide) (hts _ hw_210) rfl dd_D_writeData_84 ?_
    refine lv_iconst (v := 1) hx hb dd_D_writeData_87 rfl ?_
    refine lv_iadd hx hb dd_D_writeData_88 ?_
    obtain ⟨S8, gS8, h⟩ := xs_ob h
    refine xr_putI_D hx hb hts hown hK hw hk 9 (by decide) (hts _ hw_210) rfl rfl (fun _ _ => rfl) gS8 dd_D_writeData_89 (fun H locs hw => ?_)
    exact hret h hw dd_D_writeData_92
  have w_43 : ∀ (t2 : Int32) (t3 : Int32) (t4 : Int32) (S : xs_T) (H : Heap) (locs : List Loc) (ls : Array Slot), xs_I D ad ca ks A s S H locs → lv_has ls 6 [(0, .ref (ad k)), (1, .long n1), (3, .int n3), (5, .int n5)] → xf_D_writeData_43 k n1 n3 n4 n5 t2 t3 t4 S = some T → W p l e R s m args below meth c H locs 0 0 Q (F0 m 43 ls [.int t4, .int t3, .int t2, .ref (ad (k + 14)), .ref (ad (k + 1))]) := by
    intro t2 t3 t4 S H locs ls hw hl h
    unfold xf_D_writeData_43 at h
    refine lv_aload_n hx hb dd_D_writeData_43 rfl (lv_at hl 0 rfl) ?_
    refine xr_get_D (v := .int (xs_gI S k 9)) hx hb hts hown hK hw hk 9 (by decide) (hts _ hw_210) rfl dd_D_writeData_44 ?_
    obtain ⟨q5, gq5, h⟩ := xs_ob h
    refine xq_v hK hw (va_runV (As := [.ref (ad (k + 14)), .int t2, .int t3, .int t4, .int (xs_gI S k 9)]) (rest := []) ⟨hx, hb, hml, hown, hts⟩ (xc_S_begin l D ad ca ks (k + 1) (k + 14) t2 t3 t4 (xs_gI S k 9) S q5 (xs_ok_D_session hK.1 hk) (xs_ok_D_sent hK.1 hk) gq5 _) ⟨callB_of 5 hts (xs_good hw_427) rfl rfl rfl (hts _ hw_9) (hts _ hw_424) yd_S_begin ⟨Nat.le_trans (by decide) hRf, Nat.le_trans (by decide) hRl⟩, (hts _ hw_425), (hts _ hw_426)⟩ ⟨xs_blind, xs_recv_S hK hw (xs_ok_D_session hK.1 hk), fun U h1 h2 => ⟨rfl, xs_pre hK hw h1 h2⟩⟩ rfl rfl hl.1 rfl (lv_room (Nat.le_of_ble_eq_true rfl)) dd_D_writeData_47 ⟨Nat.zero_le _, Nat.zero_le _⟩) (fun H locs hw => ?_)
    refine lv_iload hx hb dd_D_writeData_50 (lv_at hl 3 rfl) ?_
    refine lv_if_eq hx hb dd_D_writeData_52 rfl (fun b6 => ?_) (fun b6 => ?_)
    · replace h := xs_p b6 h
      exact w_64 q5 _ _ _ hw (lv_sub hl [0, 1, 2] rfl) h
    · replace h := xs_n b6 h
      refine lv_aload_n hx hb dd_D_writeData_55 rfl (lv_at hl 0 rfl) ?_
      refine xr_get_D (v := .ref (ad (k + 14))) hx hb hts hown hK hw hk 4 (by decide) (hts _ hw_203) rfl dd_D_writeData_56 ?_
      refine lv_iconst (v := 2) hx hb dd_D_writeData_59 rfl ?_
      refine lv_iconst (v := 1) hx hb dd_D_writeData_60 rfl ?_
      obtain ⟨q9, gq9, h⟩ := xs_ob h
      refine xq_v hK hw (va_runV (As := [.int 2, .int 1]) (rest := []) ⟨hx, hb, hml, hown, hts⟩ (xc_F_append l D ad ca ks (k + 14) 2 1 q5 q9 (xs_ok_D_sent hK.1 hk) gq9 _) ⟨callB_of 2 hts (xs_good hw_379) rfl rfl rfl (hts _ hw_3) (hts _ hw_385) yd_F_append ⟨Nat.le_trans (by decide) hRf, Nat.le_trans (by decide) hRl⟩, (hts _ hw_377), (hts _ hw_378)⟩ ⟨xs_blind, xs_recv_F hK hw (xs_ok_D_sent hK.1 hk), fun U h1 h2 => ⟨rfl, xs_pre hK hw h1 h2⟩⟩ rfl rfl hl.1 rfl (lv_room (Nat.le_of_ble_eq_true rfl)) dd_D_writeData_61 ⟨Nat.zero_le _, Nat.zero_le _⟩) (fun H locs hw => ?_)
      exact w_64 q9 _ _ _ hw (lv_sub hl [0, 1, 2] rfl) h
  have w_32 : ∀ (t2 : Int32) (S : xs_T) (H : Heap) (locs : List Loc) (ls : Array Slot), xs_I D ad ca ks A s S H locs → lv_has ls 6 [(0, .ref (ad k)), (1, .long n1), (3, .int n3), (5, .int n5)] → xf_D_writeData_32 k n1 n3 n4 n5 t2 S = some T → W p l e R s m args below meth c H locs 0 0 Q (F0 m 32 ls [.int t2, .ref (ad (k + 14)), .ref (ad (k + 1))]) := by
    intro t2 S H locs ls hw hl h
    unfold xf_D_writeData_32 at h
    refine lv_iconst (v := 3) hx hb dd_D_writeData_32 rfl ?_
    refine lv_iload hx hb dd_D_writeData_33 (lv_at hl 3 rfl) ?_
    refine lv_if_eq hx hb dd_D_writeData_35 rfl (fun b4 => ?_) (fun b4 => ?_)
    · replace h := xs_p b4 h
      refine lv_iconst (v := 0) hx hb dd_D_writeData_42 rfl ?_
      exact w_43 t2 3 0 S _ _ _ hw (lv_sub hl [0, 1, 2, 3] rfl) h
    · replace h := xs_n b4 h
      refine lv_iconst (v := 1) hx hb dd_D_writeData_38 rfl ?_
      refine lv_goto hx hb dd_D_writeData_39 rfl ?_
      exact w_43 t2 3 1 S _ _ _ hw (lv_sub hl [0, 1, 2, 3] rfl) h
  unfold xf_D_writeData at h
  refine lv_aload_n hx hb dd_D_writeData_0 rfl (lv_at hl 0 rfl) ?_
  refine lv_iload hx hb dd_D_writeData_1 (lv_at hl 3 rfl) ?_
  obtain ⟨S1, gS1, h⟩ := xs_ob h
  refine xr_putZ_D hx hb hts hown hK hw hk 14 (by decide) (hts _ hw_217) rfl rfl (fun _ _ => rfl) gS1 dd_D_writeData_3 (fun H locs hw => ?_)
  refine lv_aload_n hx hb dd_D_writeData_6 rfl (lv_at hl 0 rfl) ?_
  refine lv_iconst (v := 0) hx hb dd_D_writeData_7 rfl ?_
  obtain ⟨S2, gS2, h⟩ := xs_ob h
  refine xr_putI_D hx hb hts hown hK hw hk 13 (by decide) (hts _ hw_216) rfl rfl (fun _ _ => rfl) gS2 dd_D_writeData_8 (fun H locs hw => ?_)
  refine lv_aload_n hx hb dd_D_writeData_11 rfl (lv_at hl 0 rfl) ?_
  refine xr_get_D (v := .ref (ad (k + 1))) hx hb hts hown hK hw hk 2 (by decide) (hts _ hw_200) rfl dd_D_writeData_12 ?_
  refine lv_aload_n hx hb dd_D_writeData_15 rfl (lv_at hl 0 rfl) ?_
  refine xr_get_D (v := .ref (ad (k + 14))) hx hb hts hown hK hw hk 4 (by decide) (hts _ hw_203) rfl dd_D_writeData_16 ?_
  refine lv_iload hx hb dd_D_writeData_19 (lv_at hl 3 rfl) ?_
  refine lv_if_eq hx hb dd_D_writeData_21 rfl (fun b3 => ?_) (fun b3 => ?_)
  · replace h := xs_p b3 h
    refine lv_bipush (v := 64) hx hb dd_D_writeData_30 rfl ?_
    exact w_32 64 S2 _ _ _ hw (lv_sub hl [0, 1, 2, 4] rfl) h
  · replace h := xs_n b3 h
    refine lv_sipush (v := 128) hx hb dd_D_writeData_24 rfl ?_
    refine lv_goto hx hb dd_D_writeData_27 rfl ?_
    exact w_32 128 S2 _ _ _ hw (lv_sub hl [0, 1, 2, 4] rfl) h
set_option maxHeartbeats 4000000 in
set_option maxRecDepth 100000 in
theorem xc_W_send (l : Launch) (D : va_G) (ad : Nat → Nat) (ca : Nat → ClassId) (ks : List Nat) (hf : ks = xs_all) (k : Nat) (n1 : Int32) (n2 : Int64) (n4 : Int32) (n5 : Int32) (n6 : Int32) (S : xs_T) (r : Int32) (T : xs_T) (hk : xs_is ks k xs_cW) (h : xf_W_send k n1 n2 n4 n5 n6 S = some (r, T)) (sz : Nat) : Met l yy_W_send ws_W_send { frames := 5, cells := 0, slots := 0, locals := 152 } (va_Pc [.ref (ad k), .int n1, .long n2, .int n4, .int n5, .int n6] (xs_Pre D ad ca ks S sz)) (va_Qi (fun r1 (_ : Unit) => r1 = r) (fun _ t => va_P D xs_cl (xs_w ad ca ks T) t.heap) (xs_A ad ks sz)) 0 0 (xs_A ad ks sz) := by
  refine xm_i (by decide) (Nat.le_of_ble_eq_true rfl) ?_
  intro p e s m args below meth c R A Q ls hx hb hml hown hts hRf hRl hK hw hl hret
  have hl : lv_has ls 8 [(0, .ref (ad k)), (1, .int n1), (2, .long n2), (4, .int n4), (5, .int n5), (6, .int n6)] := hl
  unfold xf_W_send at h
  refine lv_iload_n hx hb dd_W_send_0 rfl (lv_at hl 1 rfl) ?_
  obtain ⟨q1, gq1, h⟩ := xs_ob h
  refine xq_i hK hw (va_runS (As := [.int n1]) (rest := []) ⟨hx, hb, hml, hown, hts⟩ (xc_W_isDevice l D ad ca ks n1 S q1 gq1 _) ⟨callB_of 1 hts (xs_good hw_366) rfl rfl rfl (hts _ hw_1) (hts _ hw_364) yd_W_isDevice ⟨Nat.le_trans (by decide) hRf, Nat.le_trans (by decide) hRl⟩, (hts _ hw_365)⟩ ⟨xs_blind, fun U h1 h2 => ⟨rfl, xs_pre hK hw h1 h2⟩⟩ rfl rfl hl.1 rfl (lv_room (Nat.le_of_ble_eq_true rfl)) dd_W_send_1 ⟨Nat.zero_le _, Nat.zero_le _⟩) (fun H locs hw => ?_)
  refine lv_if_eq hx hb dd_W_send_4 rfl (fun b2 => ?_) (fun b2 => ?_)
  · replace h := xs_p b2 h
    refine lv_iconst (v := (-1)) hx hb dd_W_send_31 rfl ?_
    exact hret h hw dd_W_send_32
  · replace h := xs_n b2 h
    refine lv_aload_n hx hb dd_W_send_7 rfl (lv_at hl 0 rfl) ?_
    refine xr_get_W (v := .ref (ad (k + 44))) hx hb hts hown hK hw hk 1 (by decide) (hts _ hw_348) rfl dd_W_send_8 ?_
    refine lv_iload_n hx hb dd_W_send_11 rfl (lv_at hl 1 rfl) ?_
    obtain ⟨u3, gu3, h⟩ := xs_ob h
    have ku3 := xs_okU hf (by decide) gu3
    refine xr_aald_D hx hb hK hw (xs_ok_W_devices hK.1 hk) gu3 dd_W_send_12 ?_
    obtain ⟨q4, gq4, h⟩ := xs_ob h
    refine xq_i hK hw (va_runV (As := []) (rest := []) ⟨hx, hb, hml, hown, hts⟩ (xc_D_isFree l D ad ca ks u3 S q4 ku3 gq4 _) ⟨callB_of 0 hts (xs_good hw_419) rfl rfl rfl (hts _ hw_8) (hts _ hw_416) yd_D_isFree ⟨Nat.le_trans (by decide) hRf, Nat.le_trans (by decide) hRl⟩, (hts _ hw_417), (hts _ hw_418)⟩ ⟨xs_blind, xs_recv_D hK hw ku3, fun U h1 h2 => ⟨rfl, xs_pre hK hw h1 h2⟩⟩ rfl rfl hl.1 rfl (lv_room (Nat.le_of_ble_eq_true rfl)) dd_W_send_13 ⟨Nat.zero_le _, Nat.zero_le _⟩) (fun H locs hw => ?_)
    refine lv_if_eq hx hb dd_W_send_16 rfl (fun b5 => ?_) (fun b5 => ?_)
    · replace h := xs_p b5 h
      refine lv_iconst (v := (-1)) hx hb dd_W_send_31 rfl ?_
      exact hret h hw dd_W_send_32
    · replace h := xs_n b5 h
      refine lv_iload hx hb dd_W_send_19 (lv_at hl 3 rfl) ?_
      refine lv_if_lt hx hb dd_W_send_21 rfl (fun b6 => ?_) (fun b6 => ?_)
      · replace h := xs_p b6 h
        refine lv_iconst (v := (-1)) hx hb dd_W_send_31 rfl ?_
        exact hret h hw dd_W_send_32
      · replace h := xs_n b6 h
        refine lv_iload hx hb dd_W_send_24 (lv_at hl 3 rfl) ?_
        refine lv_bipush (v := 8) hx hb dd_W_send_26 rfl ?_
        refine lv_icmp_le hx hb dd_W_send_28 rfl (fun b7 => ?_) (fun b7 => ?_)
        · replace h := xs_p b7 h
          refine lv_aload_n hx hb dd_W_send_33 rfl (lv_at hl 0 rfl) ?_
          refine xr_get_W (v := .ref (ad (k + 44))) hx hb hts hown hK hw hk 1 (by decide) (hts _ hw_348) rfl dd_W_send_34 ?_
          refine lv_iload_n hx hb dd_W_send_37 rfl (lv_at hl 1 rfl) ?_
          obtain ⟨u8, gu8, h⟩ := xs_ob h
          have ku8 := xs_okU hf (by decide) gu8
          refine xr_aald_D hx hb hK hw (xs_ok_W_devices hK.1 hk) gu8 dd_W_send_38 ?_
          refine xr_getN_D (v := .int (xs_gI S u8 9)) hx hb hts hown hK hw ku8 9 (by decide) (va_Nw.use rfl (hK.2.2.2.1 _ hn_211 rfl)) rfl dd_W_send_39 ?_
          refine lv_istore hx hb dd_W_send_42 hl (by decide) rfl (fun ls hl => ?_)
          have hl : lv_has ls 8 [(7, .int (xs_gI S u8 9)), (0, .ref (ad k)), (1, .int n1), (2, .long n2), (4, .int n4), (5, .int n5), (6, .int n6)] := hl
          refine lv_aload_n hx hb dd_W_send_44 rfl (lv_at hl 1 rfl) ?_
          refine xr_get_W (v := .ref (ad (k + 44))) hx hb hts hown hK hw hk 1 (by decide) (hts _ hw_348) rfl dd_W_send_45 ?_
          refine lv_iload_n hx hb dd_W_send_48 rfl (lv_at hl 2 rfl) ?_
          obtain ⟨u9, gu9, h⟩ := xs_ob h
          have ku9 := xs_okU hf (by decide) gu9
          refine xr_aald_D hx hb hK hw (xs_ok_W_devices hK.1 hk) gu9 dd_W_send_49 ?_
          refine lv_lload_n hx hb dd_W_send_50 rfl (lv_at hl 3 rfl) ?_
          refine lv_iload hx hb dd_W_send_51 (lv_at hl 4 rfl) ?_
          refine lv_iload hx hb dd_W_send_53 (lv_at hl 5 rfl) ?_
          refine lv_iload hx hb dd_W_send_55 (lv_at hl 6 rfl) ?_
          obtain ⟨q10, gq10, h⟩ := xs_ob h
          refine xq_v hK hw (va_runV (As := [.long n2, .int n4, .int n5, .int n6]) (rest := []) ⟨hx, hb, hml, hown, hts⟩ (xc_D_writeData l D ad ca ks u9 n2 n4 n5 n6 S q10 ku9 gq10 _) ⟨callB_of 4 hts (xs_good hw_423) rfl rfl rfl (hts _ hw_8) (hts _ hw_420) yd_D_writeData ⟨Nat.le_trans (by decide) hRf, Nat.le_trans (by decide) hRl⟩, (hts _ hw_421), (hts _ hw_422)⟩ ⟨xs_blind, xs_recv_D hK hw ku9, fun U h1 h2 => ⟨rfl, xs_pre hK hw h1 h2⟩⟩ rfl rfl hl.1 rfl (lv_room (Nat.le_of_ble_eq_true rfl)) dd_W_send_57 ⟨Nat.zero_le _, Nat.zero_le _⟩) (fun H locs hw => ?_)
          refine lv_aload_n hx hb dd_W_send_60 rfl (lv_at hl 1 rfl) ?_
          refine xr_get_W (v := .ref (ad (k + 44))) hx hb hts hown hK hw hk 1 (by decide) (hts _ hw_348) rfl dd_W_send_61 ?_
          refine lv_iload_n hx hb dd_W_send_64 rfl (lv_at hl 2 rfl) ?_
          obtain ⟨u11, gu11, h⟩ := xs_ob h
          have ku11 := xs_okU hf (by decide) gu11
          refine xr_aald_D hx hb hK hw (xs_ok_W_devices hK.1 hk) gu11 dd_W_send_65 ?_
          refine lv_aload_n hx hb dd_W_send_66 rfl (lv_at hl 1 rfl) ?_
          refine xr_get_W (v := .ref (ad (k + 1))) hx hb hts hown hK hw hk 0 (by decide) (hts _ hw_347) rfl dd_W_send_67 ?_
          refine lv_aload_n hx hb dd_W_send_70 rfl (lv_at hl 1 rfl) ?_
          refine xr_get_W (v := .int (xs_gI q10 k 3)) hx hb hts hown hK hw hk 3 (by decide) (hts _ hw_350) rfl dd_W_send_71 ?_
          obtain ⟨q12, gq12, h⟩ := xs_ob h
          refine xq_v hK hw (va_runV (As := [.ref (ad (k + 1)), .int (xs_gI q10 k 3)]) (rest := []) ⟨hx, hb, hml, hown, hts⟩ (xc_D_transmit l D ad ca ks hf u11 (k + 1) (xs_gI q10 k 3) q10 q12 ku11 (xs_ok_W_air hK.1 hk) gq12 _) ⟨callB_of 2 hts (xs_good hw_398) rfl rfl rfl (hts _ hw_8) (hts _ hw_395) yd_D_transmit ⟨Nat.le_trans (by decide) hRf, Nat.le_trans (by decide) hRl⟩, (hts _ hw_396), (hts _ hw_397)⟩ ⟨xs_blind, xs_recv_D hK hw ku11, fun U h1 h2 => ⟨rfl, xs_pre hK hw h1 h2⟩⟩ rfl rfl hl.1 rfl (lv_room (Nat.le_of_ble_eq_true rfl)) dd_W_send_74 ⟨Nat.zero_le _, Nat.zero_le _⟩) (fun H locs hw => ?_)
          refine lv_iload hx hb dd_W_send_77 (lv_at hl 0 rfl) ?_
          exact hret h hw dd_W_send_79
        · replace h := xs_n b7 h
          refine lv_iconst (v := (-1)) hx hb dd_W_send_31 rfl ?_
          exact hret h hw dd_W_send_32
set_option maxHeartbeats 4000000 in
set_option maxRecDepth 100000 in
theorem xc_W_skip (l : Launch) (D : va_G) (ad : Nat → Nat) (ca : Nat → ClassId) (ks : List Nat) (hf : ks = xs_all) (k : Nat) (n1 : Int32) (n2 : Int32) (S : xs_T) (r : Int32) (T : xs_T) (hk : xs_is ks k xs_cW) (h : xf_W_skip k n1 n2 S = some (r, T)) (sz : Nat) : Met l yy_W_skip ws_W_skip { frames := 1, cells := 0, slots := 0, locals := 20 } (va_Pc [.ref (ad k), .int n1, .int n2] (xs_Pre D ad ca ks S sz)) (va_Qi (fun r1 (_ : Unit) => r1 = r) (fun _ t => va_P D xs_cl (xs_w ad ca ks T) t.heap) (xs_A ad ks sz)) 0 0 (xs_A ad ks sz) := by
  refine xm_i (by decide) (Nat.le_of_ble_eq_true rfl) ?_
  intro p e s m args below meth c R A Q ls hx hb hml hown hts hRf hRl hK hw hl hret
  have hl : lv_has ls 3 [(0, .ref (ad k)), (1, .int n1), (2, .int n2)] := hl
  unfold xf_W_skip at h
  refine lv_iload_n hx hb dd_W_skip_0 rfl (lv_at hl 1 rfl) ?_
  obtain ⟨q1, gq1, h⟩ := xs_ob h
  refine xq_i hK hw (va_runS (As := [.int n1]) (rest := []) ⟨hx, hb, hml, hown, hts⟩ (xc_W_isDevice l D ad ca ks n1 S q1 gq1 _) ⟨callB_of 1 hts (xs_good hw_366) rfl rfl rfl (hts _ hw_1) (hts _ hw_364) yd_W_isDevice ⟨Nat.le_trans (by decide) hRf, Nat.le_trans (by decide) hRl⟩, (hts _ hw_365)⟩ ⟨xs_blind, fun U h1 h2 => ⟨rfl, xs_pre hK hw h1 h2⟩⟩ rfl rfl hl.1 rfl (lv_room (Nat.le_of_ble_eq_true rfl)) dd_W_skip_1 ⟨Nat.zero_le _, Nat.zero_le _⟩) (fun H locs hw => ?_)
  refine lv_if_eq hx hb dd_W_skip_4 rfl (fun b2 => ?_) (fun b2 => ?_)
  · replace h := xs_p b2 h
    refine lv_iconst (v := (-1)) hx hb dd_W_skip_30 rfl ?_
    exact hret h hw dd_W_skip_31
  · replace h := xs_n b2 h
    refine lv_aload_n hx hb dd_W_skip_7 rfl (lv_at hl 0 rfl) ?_
    refine xr_get_W (v := .ref (ad (k + 44))) hx hb hts hown hK hw hk 1 (by decide) (hts _ hw_348) rfl dd_W_skip_8 ?_
    refine lv_iload_n hx hb dd_W_skip_11 rfl (lv_at hl 1 rfl) ?_
    obtain ⟨u3, gu3, h⟩ := xs_ob h
    have ku3 := xs_okU hf (by decide) gu3
    refine xr_aald_D hx hb hK hw (xs_ok_W_devices hK.1 hk) gu3 dd_W_skip_12 ?_
    obtain ⟨q4, gq4, h⟩ := xs_ob h
    refine xq_i hK hw (va_runV (As := []) (rest := []) ⟨hx, hb, hml, hown, hts⟩ (xc_D_isFree l D ad ca ks u3 S q4 ku3 gq4 _) ⟨callB_of 0 hts (xs_good hw_419) rfl rfl rfl (hts _ hw_8) (hts _ hw_416) yd_D_isFree ⟨Nat.le_trans (by decide) hRf, Nat.le_trans (by decide) hRl⟩, (hts _ hw_417), (hts _ hw_418)⟩ ⟨xs_blind, xs_recv_D hK hw ku3, fun U h1 h2 => ⟨rfl, xs_pre hK hw h1 h2⟩⟩ rfl rfl hl.1 rfl (lv_room (Nat.le_of_ble_eq_true rfl)) dd_W_skip_13 ⟨Nat.zero_le _, Nat.zero_le _⟩) (fun H locs hw => ?_)
    refine lv_if_eq hx hb dd_W_skip_16 rfl (fun b5 => ?_) (fun b5 => ?_)
    · replace h := xs_p b5 h
      refine lv_iconst (v := (-1)) hx hb dd_W_skip_30 rfl ?_
      exact hret h hw dd_W_skip_31
    · replace h := xs_n b5 h
      refine lv_iload_n hx hb dd_W_skip_19 rfl (lv_at hl 2 rfl) ?_
      refine lv_iconst (v := 1) hx hb dd_W_skip_20 rfl ?_
      refine lv_icmp_lt hx hb dd_W_skip_21 rfl (fun b6 => ?_) (fun b6 => ?_)
      · replace h := xs_p b6 h
        refine lv_iconst (v := (-1)) hx hb dd_W_skip_30 rfl ?_
        exact hret h hw dd_W_skip_31
      · replace h := xs_n b6 h
        refine lv_iload_n hx hb dd_W_skip_24 rfl (lv_at hl 2 rfl) ?_
        refine lv_ldc (v := 70000) hx hb hown (hts _ hw_457) dd_W_skip_25 ?_
        refine lv_icmp_le hx hb dd_W_skip_27 rfl (fun b7 => ?_) (fun b7 => ?_)
        · replace h := xs_p b7 h
          refine lv_aload_n hx hb dd_W_skip_32 rfl (lv_at hl 0 rfl) ?_
          refine xr_get_W (v := .ref (ad (k + 44))) hx hb hts hown hK hw hk 1 (by decide) (hts _ hw_348) rfl dd_W_skip_33 ?_
          refine lv_iload_n hx hb dd_W_skip_36 rfl (lv_at hl 1 rfl) ?_
          obtain ⟨u8, gu8, h⟩ := xs_ob h
          have ku8 := xs_okU hf (by decide) gu8
          refine xr_aald_D hx hb hK hw (xs_ok_W_devices hK.1 hk) gu8 dd_W_skip_37 ?_
          refine lv_dup hx hb dd_W_skip_38 rfl ?_
          refine xr_getN_D (v := .int (xs_gI S u8 9)) hx hb hts hown hK hw ku8 9 (by decide) (va_Nw.use rfl (hK.2.2.2.1 _ hn_211 rfl)) rfl dd_W_skip_39 ?_
          refine lv_iload_n hx hb dd_W_skip_42 rfl (lv_at hl 2 rfl) ?_
          refine lv_iadd hx hb dd_W_skip_43 ?_
          obtain ⟨S9, gS9, h⟩ := xs_ob h
          refine xr_putIN_D hx hb hts hown hK hw ku8 9 (by decide) (va_Nw.use rfl (hK.2.2.2.1 _ hn_211 rfl)) rfl rfl (fun _ _ => rfl) gS9 dd_W_skip_44 (fun H locs hw => ?_)
          refine lv_aload_n hx hb dd_W_skip_47 rfl (lv_at hl 0 rfl) ?_
          refine xr_get_W (v := .ref (ad (k + 44))) hx hb hts hown hK hw hk 1 (by decide) (hts _ hw_348) rfl dd_W_skip_48 ?_
          refine lv_iload_n hx hb dd_W_skip_51 rfl (lv_at hl 1 rfl) ?_
          obtain ⟨u10, gu10, h⟩ := xs_ob h
          have ku10 := xs_okU hf (by decide) gu10
          refine xr_aald_D hx hb hK hw (xs_ok_W_devices hK.1 hk) gu10 dd_W_skip_52 ?_
          refine xr_getN_D (v := .int (xs_gI S9 u10 9)) hx hb hts hown hK hw ku10 9 (by decide) (va_Nw.use rfl (hK.2.2.2.1 _ hn_211 rfl)) rfl dd_W_skip_53 ?_
          exact hret h hw dd_W_skip_56
        · replace h := xs_n b7 h
          refine lv_iconst (v := (-1)) hx hb dd_W_skip_30 rfl ?_
          exact hret h hw dd_W_skip_31
set_option maxHeartbeats 4000000 in
set_option maxRecDepth 100000 in
theorem xc_K_enqueue (l : Launch) (D : va_G) (ad : Nat → Nat) (ca : Nat → ClassId) (ks : List Nat) (k : Nat) (n1 : Int64) (n3 : Int32) (S : xs_T) (r : Int32) (T : xs_T) (hk : xs_is ks k xs_cK) (h : xf_K_enqueue k n1 n3 S = some (r, T)) (sz : Nat) : Met l yy_K_enqueue ws_K_enqueue { frames := 0, cells := 0, slots := 0, locals := 0 } (va_Pc [.ref (ad k), .long n1, .int n3] (xs_Pre D ad ca ks S sz)) (va_Qi (fun r1 (_ : Unit) => r1 = r) (fun _ t => va_P D xs_cl (xs_w ad ca ks T) t.heap) (xs_A ad ks sz)) 0 0 (xs_A ad ks sz) := by
  refine xm_i (by decide) (Nat.le_of_ble_eq_true rfl) ?_
  intro p e s m args below meth c R A Q ls hx hb hml hown hts hRf hRl hK hw hl hret
  have hl : lv_has ls 4 [(0, .ref (ad k)), (1, .long n1), (3, .int n3)] := hl
  unfold xf_K_enqueue at h
  refine lv_aload_n hx hb dd_K_enqueue_0 rfl (lv_at hl 0 rfl) ?_
  refine xr_get_K (v := .int (xs_gI S k 6)) hx hb hts hown hK hw hk 6 (by decide) (hts _ hw_289) rfl dd_K_enqueue_1 ?_
  refine lv_iconst (v := 4) hx hb dd_K_enqueue_4 rfl ?_
  refine lv_icmp_ne hx hb dd_K_enqueue_5 rfl (fun b1 => ?_) (fun b1 => ?_)
  · replace h := xs_n b1 h
    refine lv_aload_n hx hb dd_K_enqueue_10 rfl (lv_at hl 0 rfl) ?_
    refine xr_get_K (v := .ref (ad (k + 14))) hx hb hts hown hK hw hk 4 (by decide) (hts _ hw_287) rfl dd_K_enqueue_11 ?_
    refine lv_aload_n hx hb dd_K_enqueue_14 rfl (lv_at hl 0 rfl) ?_
    refine xr_get_K (v := .int (xs_gI S k 6)) hx hb hts hown hK hw hk 6 (by decide) (hts _ hw_289) rfl dd_K_enqueue_15 ?_
    refine lv_lload_n hx hb dd_K_enqueue_18 rfl (lv_at hl 1 rfl) ?_
    obtain ⟨S2, gS2, h⟩ := xs_ob h
    refine xr_last hx hb hK hw (xs_ok_K_queuedPayloads hK.1 hk) gS2 dd_K_enqueue_19 (fun H locs hw => ?_)
    refine lv_aload_n hx hb dd_K_enqueue_20 rfl (lv_at hl 0 rfl) ?_
    refine xr_get_K (v := .ref (ad (k + 15))) hx hb hts hown hK hw hk 5 (by decide) (hts _ hw_288) rfl dd_K_enqueue_21 ?_
    refine lv_aload_n hx hb dd_K_enqueue_24 rfl (lv_at hl 0 rfl) ?_
    refine xr_get_K (v := .int (xs_gI S2 k 6)) hx hb hts hown hK hw hk 6 (by decide) (hts _ hw_289) rfl dd_K_enqueue_25 ?_
    refine lv_iload_n hx hb dd_K_enqueue_28 rfl (lv_at hl 2 rfl) ?_
    obtain ⟨S3, gS3, h⟩ := xs_ob h
    refine xr_iast hx hb hK hw (xs_ok_K_queuedBytes hK.1 hk) gS3 dd_K_enqueue_29 (fun H locs hw => ?_)
    refine lv_aload_n hx hb dd_K_enqueue_30 rfl (lv_at hl 0 rfl) ?_
    refine lv_dup hx hb dd_K_enqueue_31 rfl ?_
    refine xr_get_K (v := .int (xs_gI S3 k 6)) hx hb hts hown hK hw hk 6 (by decide) (hts _ hw_289) rfl dd_K_enqueue_32 ?_
    refine lv_iconst (v := 1) hx hb dd_K_enqueue_35 rfl ?_
    refine lv_iadd hx hb dd_K_enqueue_36 ?_
    obtain ⟨S4, gS4, h⟩ := xs_ob h
    refine xr_putI_K hx hb hts hown hK hw hk 6 (by decide) (hts _ hw_289) rfl rfl (fun _ _ => rfl) gS4 dd_K_enqueue_37 (fun H locs hw => ?_)
    refine lv_aload_n hx hb dd_K_enqueue_40 rfl (lv_at hl 0 rfl) ?_
    refine xr_get_K (v := .int (xs_gI S4 k 6)) hx hb hts hown hK hw hk 6 (by decide) (hts _ hw_289) rfl dd_K_enqueue_41 ?_
    exact hret h hw dd_K_enqueue_44
  · replace h := xs_p b1 h
    refine lv_iconst (v := (-1)) hx hb dd_K_enqueue_8 rfl ?_
    exact hret h hw dd_K_enqueue_9
set_option maxHeartbeats 4000000 in
set_option maxRecDepth 100000 in
theorem xc_W_queue (l : Launch) (D : va_G) (ad : Nat → Nat) (ca : Nat → ClassId) (ks : List Nat) (hf : ks = xs_all) (k : Nat) (n1 : Int32) (n2 : Int64) (n4 : Int32) (S : xs_T) (r : Int32) (T : xs_T) (hk : xs_is ks k xs_cW) (h : xf_W_queue k n1 n2 n4 S = some (r, T)) (sz : Nat) : Met l yy_W_queue ws_W_queue { frames := 1, cells := 0, slots := 0, locals := 23 } (va_Pc [.ref (ad k), .int n1, .long n2, .int n4] (xs_Pre D ad ca ks S sz)) (va_Qi (fun r1 (_ : Unit) => r1 = r) (fun _ t => va_P D xs_cl (xs_w ad ca ks T) t.heap) (xs_A ad ks sz)) 0 0 (xs_A ad ks sz) := by
  refine xm_i (by decide) (Nat.le_of_ble_eq_true rfl) ?_
  intro p e s m args below meth c R A Q ls hx hb hml hown hts hRf hRl hK hw hl hret
  have hl : lv_has ls 5 [(0, .ref (ad k)), (1, .int n1), (2, .long n2), (4, .int n4)] := hl
  unfold xf_W_queue at h
  refine lv_iload_n hx hb dd_W_queue_0 rfl (lv_at hl 1 rfl) ?_
  obtain ⟨q1, gq1, h⟩ := xs_ob h
  refine xq_i hK hw (va_runS (As := [.int n1]) (rest := []) ⟨hx, hb, hml, hown, hts⟩ (xc_W_isDevice l D ad ca ks n1 S q1 gq1 _) ⟨callB_of 1 hts (xs_good hw_366) rfl rfl rfl (hts _ hw_1) (hts _ hw_364) yd_W_isDevice ⟨Nat.le_trans (by decide) hRf, Nat.le_trans (by decide) hRl⟩, (hts _ hw_365)⟩ ⟨xs_blind, fun U h1 h2 => ⟨rfl, xs_pre hK hw h1 h2⟩⟩ rfl rfl hl.1 rfl (lv_room (Nat.le_of_ble_eq_true rfl)) dd_W_queue_1 ⟨Nat.zero_le _, Nat.zero_le _⟩) (fun H locs hw => ?_)
  refine lv_if_eq hx hb dd_W_queue_4 rfl (fun b2 => ?_) (fun b2 => ?_)
  · replace h := xs_p b2 h
    refine lv_iconst (v := (-1)) hx hb dd_W_queue_20 rfl ?_
    exact hret h hw dd_W_queue_21
  · replace h := xs_n b2 h
    refine lv_iload hx hb dd_W_queue_7 (lv_at hl 3 rfl) ?_
    refine lv_iconst (v := 1) hx hb dd_W_queue_9 rfl ?_
    refine lv_icmp_lt hx hb dd_W_queue_10 rfl (fun b3 => ?_) (fun b3 => ?_)
    · replace h := xs_p b3 h
      refine lv_iconst (v := (-1)) hx hb dd_W_queue_20 rfl ?_
      exact hret h hw dd_W_queue_21
    · replace h := xs_n b3 h
      refine lv_iload hx hb dd_W_queue_13 (lv_at hl 3 rfl) ?_
      refine lv_bipush (v := 8) hx hb dd_W_queue_15 rfl ?_
      refine lv_icmp_le hx hb dd_W_queue_17 rfl (fun b4 => ?_) (fun b4 => ?_)
      · replace h := xs_p b4 h
        refine lv_aload_n hx hb dd_W_queue_22 rfl (lv_at hl 0 rfl) ?_
        refine xr_get_W (v := .ref (ad (k + 119))) hx hb hts hown hK hw hk 2 (by decide) (hts _ hw_349) rfl dd_W_queue_23 ?_
        refine xr_getN_V (v := .ref (ad (k + 120))) hx hb hts hown hK hw (xs_ok_W_server hK.1 hk) 0 (by decide) (va_Nw.use rfl (hK.2.2.2.1 _ hn_337 rfl)) rfl dd_W_queue_26 ?_
        refine lv_iload_n hx hb dd_W_queue_29 rfl (lv_at hl 1 rfl) ?_
        obtain ⟨u5, gu5, h⟩ := xs_ob h
        have ku5 := xs_okU hf (by decide) gu5
        refine xr_aald_K hx hb hK hw (xs_ok_V_accounts hK.1 (xs_ok_W_server hK.1 hk)) gu5 dd_W_queue_30 ?_
        refine lv_lload_n hx hb dd_W_queue_31 rfl (lv_at hl 2 rfl) ?_
        refine lv_iload hx hb dd_W_queue_32 (lv_at hl 3 rfl) ?_
        obtain ⟨q6, gq6, h⟩ := xs_ob h
        refine xq_i hK hw (va_runV (As := [.long n2, .int n4]) (rest := []) ⟨hx, hb, hml, hown, hts⟩ (xc_K_enqueue l D ad ca ks u5 n2 n4 S q6.1 q6.2 ku5 gq6 _) ⟨callB_of 2 hts (xs_good hw_465) rfl rfl rfl (hts _ hw_12) (hts _ hw_462) yd_K_enqueue ⟨Nat.le_trans (by decide) hRf, Nat.le_trans (by decide) hRl⟩, (hts _ hw_463), (hts _ hw_464)⟩ ⟨xs_blind, xs_recv_K hK hw ku5, fun U h1 h2 => ⟨rfl, xs_pre hK hw h1 h2⟩⟩ rfl rfl hl.1 rfl (lv_room (Nat.le_of_ble_eq_true rfl)) dd_W_queue_34 ⟨Nat.zero_le _, Nat.zero_le _⟩) (fun H locs hw => ?_)
        exact hret h hw dd_W_queue_37
      · replace h := xs_n b4 h
        refine lv_iconst (v := (-1)) hx hb dd_W_queue_20 rfl ?_
        exact hret h hw dd_W_queue_21
set_option maxHeartbeats 4000000 in
set_option maxRecDepth 100000 in
theorem xc_C_unmixed (l : Launch) (D : va_G) (ad : Nat → Nat) (ca : Nat → ClassId) (ks : List Nat) (n0 : Int32) (S : xs_T) (r : Int32) (h : xf_C_unmixed n0 = some r) (sz : Nat) : Met l yy_C_unmixed ws_C_unmixed { frames := 1, cells := 0, slots := 0, locals := 22 } (va_Pc [.int n0] (xs_Pre D ad ca ks S sz)) (va_Qi (fun r1 (_ : Unit) => r1 = r) (fun _ t => va_P D xs_cl (xs_w ad ca ks S) t.heap) (xs_A ad ks sz)) 0 0 (xs_A ad ks sz) := by
  refine xm_ir (by decide) (Nat.le_of_ble_eq_true rfl) ?_
  intro p e s m args below meth c R A Q ls hx hb hml hown hts hRf hRl hK hw hl hret
  have hl : lv_has ls 3 [(0, .int n0)] := hl
  unfold xf_C_unmixed at h
  refine lv_iload_n hx hb dd_C_unmixed_0 rfl (lv_at hl 0 rfl) ?_
  refine lv_iload_n hx hb dd_C_unmixed_1 rfl (lv_at hl 0 rfl) ?_
  refine lv_bipush (v := 16) hx hb dd_C_unmixed_2 rfl ?_
  refine lv_iushr (v := xs_ush n0 16) hx hb dd_C_unmixed_4 rfl ?_
  refine lv_iload_n hx hb dd_C_unmixed_5 rfl (lv_at hl 0 rfl) ?_
  refine lv_bipush (v := 16) hx hb dd_C_unmixed_6 rfl ?_
  refine lv_ishl hx hb dd_C_unmixed_8 ?_
  refine lv_ior hx hb dd_C_unmixed_9 ?_
  refine lv_ixor hx hb dd_C_unmixed_10 ?_
  obtain ⟨v1, gv1, h⟩ := xs_ob h
  refine lv_namI gv1 ?_
  refine lv_istore_n hx hb dd_C_unmixed_11 rfl hl (by decide) rfl (fun ls hl => ?_)
  have hl : lv_has ls 3 [(1, .int v1), (0, .int n0)] := hl
  refine lv_iload_n hx hb dd_C_unmixed_12 rfl (lv_at hl 1 rfl) ?_
  refine lv_iload_n hx hb dd_C_unmixed_13 rfl (lv_at hl 0 rfl) ?_
  obtain ⟨q2, gq2, h⟩ := xs_ob h
  refine xq_i hK hw (va_runS (As := [.int v1]) (rest := [.int n0]) ⟨hx, hb, hml, hown, hts⟩ (xc_C_doubled l D ad ca ks v1 S q2 gq2 _) ⟨callB_of 1 hts (xs_good hw_125) rfl rfl rfl (hts _ hw_5) (hts _ hw_123) yd_C_doubled ⟨Nat.le_trans (by decide) hRf, Nat.le_trans (by decide) hRl⟩, (hts _ hw_124)⟩ ⟨xs_blind, fun U h1 h2 => ⟨rfl, xs_pre hK hw h1 h2⟩⟩ rfl rfl hl.1 rfl (lv_room (Nat.le_of_ble_eq_true rfl)) dd_C_unmixed_14 ⟨Nat.zero_le _, Nat.zero_le _⟩) (fun H locs hw => ?_)
  obtain ⟨q3, gq3, h⟩ := xs_ob h
  refine xq_i hK hw (va_runS (As := [.int q2]) (rest := [.int n0]) ⟨hx, hb, hml, hown, hts⟩ (xc_C_doubled l D ad ca ks q2 S q3 gq3 _) ⟨callB_of 1 hts (xs_good hw_125) rfl rfl rfl (hts _ hw_5) (hts _ hw_123) yd_C_doubled ⟨Nat.le_trans (by decide) hRf, Nat.le_trans (by decide) hRl⟩, (hts _ hw_124)⟩ ⟨xs_blind, fun U h1 h2 => ⟨rfl, xs_pre hK hw h1 h2⟩⟩ rfl rfl hl.1 rfl (lv_room (Nat.le_of_ble_eq_true rfl)) dd_C_unmixed_17 ⟨Nat.zero_le _, Nat.zero_le _⟩) (fun H locs hw => ?_)
  refine lv_ixor hx hb dd_C_unmixed_20 ?_
  refine lv_istore_n hx hb dd_C_unmixed_21 rfl hl (by decide) rfl (fun ls hl => ?_)
  have hl : lv_has ls 3 [(2, .int (n0 ^^^ q3)), (1, .int v1), (0, .int n0)] := hl
  refine lv_iload_n hx hb dd_C_unmixed_22 rfl (lv_at hl 0 rfl) ?_
  refine lv_iload_n hx hb dd_C_unmixed_23 rfl (lv_at hl 0 rfl) ?_
  obtain ⟨q4, gq4, h⟩ := xs_ob h
  refine xq_i hK hw (va_runS (As := [.int (n0 ^^^ q3)]) (rest := [.int (n0 ^^^ q3)]) ⟨hx, hb, hml, hown, hts⟩ (xc_C_doubled l D ad ca ks (n0 ^^^ q3) S q4 gq4 _) ⟨callB_of 1 hts (xs_good hw_125) rfl rfl rfl (hts _ hw_5) (hts _ hw_123) yd_C_doubled ⟨Nat.le_trans (by decide) hRf, Nat.le_trans (by decide) hRl⟩, (hts _ hw_124)⟩ ⟨xs_blind, fun U h1 h2 => ⟨rfl, xs_pre hK hw h1 h2⟩⟩ rfl rfl hl.1 rfl (lv_room (Nat.le_of_ble_eq_true rfl)) dd_C_unmixed_24 ⟨Nat.zero_le _, Nat.zero_le _⟩) (fun H locs hw => ?_)
  obtain ⟨q5, gq5, h⟩ := xs_ob h
  refine xq_i hK hw (va_runS (As := [.int (n0 ^^^ q3), .int q4]) (rest := []) ⟨hx, hb, hml, hown, hts⟩ (xc_C_mixed l D ad ca ks (n0 ^^^ q3) q4 S q5 gq5 _) ⟨callB_of 2 hts (xs_good hw_137) rfl rfl rfl (hts _ hw_5) (hts _ hw_135) yd_C_mixed ⟨Nat.le_trans (by decide) hRf, Nat.le_trans (by decide) hRl⟩, (hts _ hw_136)⟩ ⟨xs_blind, fun U h1 h2 => ⟨rfl, xs_pre hK hw h1 h2⟩⟩ rfl rfl hl.1 rfl (lv_room (Nat.le_of_ble_eq_true rfl)) dd_C_unmixed_27 ⟨Nat.zero_le _, Nat.zero_le _⟩) (fun H locs hw => ?_)
  exact hret h hw dd_C_unmixed_30
set_option maxHeartbeats 4000000 in
set_option maxRecDepth 100000 in
theorem xc_C_decipher (l : Launch) (D : va_G) (ad : Nat → Nat) (ca : Nat → ClassId) (ks : List Nat) (k : Nat) (a1 : Nat) (n2 : Int32) (S : xs_T) (T : xs_T) (hk : xs_is ks k xs_cC) (ha1 : xs_is ks a1 50) (h : xf_C_decipher k a1 n2 S = some T) (sz : Nat) : Met l yy_C_decipher ws_C_decipher { frames := 2, cells := 0, slots := 0, locals := 44 } (va_Pc [.ref (ad k), .ref (ad a1), .int n2] (xs_Pre D ad ca ks S sz)) (va_Qv (fun _ : Unit => True) (fun _ t => va_P D xs_cl (xs_w ad ca ks T) t.heap) (xs_A ad ks sz)) 0 0 (xs_A ad ks sz) := by
  refine xm_v (by decide) (Nat.le_of_ble_eq_true rfl) ?_
  intro p e s m args below meth c R A Q ls hx hb hml hown hts hRf hRl hK hw hl hret
  have hl : lv_has ls 14 [(0, .ref (ad k)), (1, .ref (ad a1)), (2, .int n2)] := hl
  have w_81 : ∀ (f : Nat), ∀ (i5 : Int32) (i6 : Int32) (i7 : Int32) (i8 : Int32) (i9 : Int32) (S : xs_T) (H : Heap) (locs : List Loc) (ls : Array Slot), xs_I D ad ca ks A s S H locs → lv_has ls 14 [(1, .ref (ad a1)), (2, .int n2), (3, .ref (ad (k + 1))), (5, .int i5), (6, .int i6), (7, .int i7), (8, .int i8), (9, .int i9)] → xf_C_decipher_81 k a1 n2 f i5 i6 i7 i8 i9 S = some T → W p l e R s m args below meth c H locs 0 0 Q (F0 m 81 ls []) := by
    intro f
    induction f with
    | zero => intro i5 i6 i7 i8 i9 S H locs ls hw hl h; exact absurd h (by simp [xf_C_decipher_81])
    | succ f ih =>
      intro i5 i6 i7 i8 i9 S H locs ls hw hl h
      rw [xf_C_decipher_81] at h
      refine lv_iload hx hb dd_C_decipher_81 (lv_at hl 7 rfl) ?_
      refine lv_if_le hx hb dd_C_decipher_83 rfl (fun b9 => ?_) (fun b9 => ?_)
      · replace h := xs_p b9 h
        refine lv_aload_n hx hb dd_C_decipher_210 rfl (lv_at hl 0 rfl) ?_
        refine lv_iload_n hx hb dd_C_decipher_211 rfl (lv_at hl 1 rfl) ?_
        refine xr_getsO hx hb hown hK hw (hts _ hw_485) dd_C_decipher_212 ?_
        refine lv_iload hx hb dd_C_decipher_215 (lv_at hl 3 rfl) ?_
        refine lv_iload hx hb dd_C_decipher_217 (lv_at hl 6 rfl) ?_
        refine lv_iload hx hb dd_C_decipher_219 (lv_at hl 5 rfl) ?_
        refine lv_iload hx hb dd_C_decipher_221 (lv_at hl 4 rfl) ?_
        obtain ⟨q10, gq10, h⟩ := xs_ob h
        refine xq_i hK hw (va_runS (As := [.ref (ad 172), .int i5, .int i8, .int i7, .int i6]) (rest := [.int n2, .ref (ad a1)]) ⟨hx, hb, hml, hown, hts⟩ (xc_C_gathered l D ad ca ks 172 i5 i8 i7 i6 S q10 rfl gq10 _) ⟨callB_of 5 hts (xs_good hw_122) rfl rfl rfl (hts _ hw_5) (hts _ hw_120) yd_C_gathered ⟨Nat.le_trans (by decide) hRf, Nat.le_trans (by decide) hRl⟩, (hts _ hw_121)⟩ ⟨xs_blind, fun U h1 h2 => ⟨rfl, xs_pre hK hw h1 h2⟩⟩ rfl rfl hl.1 rfl (lv_room (Nat.le_of_ble_eq_true rfl)) dd_C_decipher_223 ⟨Nat.zero_le _, Nat.zero_le _⟩) (fun H locs hw => ?_)
        refine lv_aload_n hx hb dd_C_decipher_226 rfl (lv_at hl 2 rfl) ?_
        refine lv_iconst (v := 0) hx hb dd_C_decipher_227 rfl ?_
        obtain ⟨v11, gv11, h⟩ := xs_ob h
        refine xr_iald hx hb hK hw (xs_ok_C_roundKeys hK.1 hk) gv11 dd_C_decipher_228 ?_
        refine lv_ixor hx hb dd_C_decipher_229 ?_
        refine lv_iconst (v := 4) hx hb dd_C_decipher_230 rfl ?_
        obtain ⟨q12, gq12, h⟩ := xs_ob h
        refine xq_v hK hw (va_runSN (As := [.ref (ad a1), .int n2, .int (q10 ^^^ v11), .int 4]) (rest := []) ⟨hx, hb, hml, hown, hts⟩ (xc_W_putNumber l D ad ca ks a1 n2 (q10 ^^^ v11) 4 S q12 ha1 gq12 _) ⟨va_cnB 4 hts (xs_good hw_140) rfl rfl rfl (hK.2.2.2.1 _ hn_138 rfl) (hts _ hw_1) yd_W_putNumber ⟨Nat.le_trans (by decide) hRf, Nat.le_trans (by decide) hRl⟩, (hts _ hw_139), trivial⟩ ⟨xs_blind, fun U h1 h2 => ⟨rfl, xs_pre hK hw h1 h2⟩⟩ rfl rfl hl.1 rfl (lv_room (Nat.le_of_ble_eq_true rfl)) dd_C_decipher_231 ⟨Nat.zero_le _, Nat.zero_le _⟩) (fun H locs hw => ?_)
        refine lv_aload_n hx hb dd_C_decipher_234 rfl (lv_at hl 0 rfl) ?_
        refine lv_iload_n hx hb dd_C_decipher_235 rfl (lv_at hl 1 rfl) ?_
        refine lv_iconst (v := 4) hx hb dd_C_decipher_236 rfl ?_
        refine lv_iadd hx hb dd_C_decipher_237 ?_
        refine xr_getsO hx hb hown hK hw (hts _ hw_485) dd_C_decipher_238 ?_
        refine lv_iload hx hb dd_C_decipher_241 (lv_at hl 4 rfl) ?_
        refine lv_iload hx hb dd_C_decipher_243 (lv_at hl 3 rfl) ?_
        refine lv_iload hx hb dd_C_decipher_245 (lv_at hl 6 rfl) ?_
        refine lv_iload hx hb dd_C_decipher_247 (lv_at hl 5 rfl) ?_
        obtain ⟨q13, gq13, h⟩ := xs_ob h
        refine xq_i hK hw (va_runS (As := [.ref (ad 172), .int i6, .int i5, .int i8, .int i7]) (rest := [.int (n2 + 4), .ref (ad a1)]) ⟨hx, hb, hml, hown, hts⟩ (xc_C_gathered l D ad ca ks 172 i6 i5 i8 i7 q12 q13 rfl gq13 _) ⟨callB_of 5 hts (xs_good hw_122) rfl rfl rfl (hts _ hw_5) (hts _ hw_120) yd_C_gathered ⟨Nat.le_trans (by decide) hRf, Nat.le_trans (by decide) hRl⟩, (hts _ hw_121)⟩ ⟨xs_blind, fun U h1 h2 => ⟨rfl, xs_pre hK hw h1 h2⟩⟩ rfl rfl hl.1 rfl (lv_room (Nat.le_of_ble_eq_true rfl)) dd_C_decipher_249 ⟨Nat.zero_le _, Nat.zero_le _⟩) (fun H locs hw => ?_)
        refine lv_aload_n hx hb dd_C_decipher_252 rfl (lv_at hl 2 rfl) ?_
        refine lv_iconst (v := 1) hx hb dd_C_decipher_253 rfl ?_
        obtain ⟨v14, gv14, h⟩ := xs_ob h
        refine xr_iald hx hb hK hw (xs_ok_C_roundKeys hK.1 hk) gv14 dd_C_decipher_254 ?_
        refine lv_ixor hx hb dd_C_decipher_255 ?_
        refine lv_iconst (v := 4) hx hb dd_C_decipher_256 rfl ?_
        obtain ⟨q15, gq15, h⟩ := xs_ob h
        refine xq_v hK hw (va_runSN (As := [.ref (ad a1), .int (n2 + 4), .int (q13 ^^^ v14), .int 4]) (rest := []) ⟨hx, hb, hml, hown, hts⟩ (xc_W_putNumber l D ad ca ks a1 (n2 + 4) (q13 ^^^ v14) 4 q12 q15 ha1 gq15 _) ⟨va_cnB 4 hts (xs_good hw_140) rfl rfl rfl (hK.2.2.2.1 _ hn_138 rfl) (hts _ hw_1) yd_W_putNumber ⟨Nat.le_trans (by decide) hRf, Nat.le_trans (by decide) hRl⟩, (hts _ hw_139), trivial⟩ ⟨xs_blind, fun U h1 h2 => ⟨rfl, xs_pre hK hw h1 h2⟩⟩ rfl rfl hl.1 rfl (lv_room (Nat.le_of_ble_eq_true rfl)) dd_C_decipher_257 ⟨Nat.zero_le _, Nat.zero_le _⟩) (fun H locs hw => ?_)
        refine lv_aload_n hx hb dd_C_decipher_260 rfl (lv_at hl 0 rfl) ?_
        refine lv_iload_n hx hb dd_C_decipher_261 rfl (lv_at hl 1 rfl) ?_
        refine lv_bipush (v := 8) hx hb dd_C_decipher_262 rfl ?_
        refine lv_iadd hx hb dd_C_decipher_264 ?_
        refine xr_getsO hx hb hown hK hw (hts _ hw_485) dd_C_decipher_265 ?_
        refine lv_iload hx hb dd_C_decipher_268 (lv_at hl 5 rfl) ?_
        refine lv_iload hx hb dd_C_decipher_270 (lv_at hl 4 rfl) ?_
        refine lv_iload hx hb dd_C_decipher_272 (lv_at hl 3 rfl) ?_
        refine lv_iload hx hb dd_C_decipher_274 (lv_at hl 6 rfl) ?_
        obtain ⟨q16, gq16, h⟩ := xs_ob h
        refine xq_i hK hw (va_runS (As := [.ref (ad 172), .int i7, .int i6, .int i5, .int i8]) (rest := [.int (n2 + 8), .ref (ad a1)]) ⟨hx, hb, hml, hown, hts⟩ (xc_C_gathered l D ad ca ks 172 i7 i6 i5 i8 q15 q16 rfl gq16 _) ⟨callB_of 5 hts (xs_good hw_122) rfl rfl rfl (hts _ hw_5) (hts _ hw_120) yd_C_gathered ⟨Nat.le_trans (by decide) hRf, Nat.le_trans (by decide) hRl⟩, (hts _ hw_121)⟩ ⟨xs_blind, fun U h1 h2 => ⟨rfl, xs_pre hK hw h1 h2⟩⟩ rfl rfl hl.1 rfl (lv_room (Nat.le_of_ble_eq_true rfl)) dd_C_decipher_276 ⟨Nat.zero_le _, Nat.zero_le _⟩) (fun H locs hw => ?_)
        refine lv_aload_n hx hb dd_C_decipher_279 rfl (lv_at hl 2 rfl) ?_
        refine lv_iconst (v := 2) hx hb dd_C_decipher_280 rfl ?_
        obtain ⟨v17, gv17, h⟩ := xs_ob h
        refine xr_iald hx hb hK hw (xs_ok_C_roundKeys hK.1 hk) gv17 dd_C_decipher_281 ?_
        refine lv_ixor hx hb dd_C_decipher_282 ?_
        refine lv_iconst (v := 4) hx hb dd_C_decipher_283 rfl ?_
        obtain ⟨q18, gq18, h⟩ := xs_ob h
        refine xq_v hK hw (va_runSN (As := [.ref (ad a1), .int (n2 + 8), .int (q16 ^^^ v17), .int 4]) (rest := []) ⟨hx, hb, hml, hown, hts⟩ (xc_W_putNumber l D ad ca ks a1 (n2 + 8) (q16 ^^^ v17) 4 q15 q18 ha1 gq18 _) ⟨va_cnB 4 hts (xs_good hw_140) rfl rfl rfl (hK.2.2.2.1 _ hn_138 rfl) (hts _ hw_1) yd_W_putNumber ⟨Nat.le_trans (by decide) hRf, Nat.le_trans (by decide) hRl⟩, (hts _ hw_139), trivial⟩ ⟨xs_blind, fun U h1 h2 => ⟨rfl, xs_pre hK hw h1 h2⟩⟩ rfl rfl hl.1 rfl (lv_room (Nat.le_of_ble_eq_true rfl)) dd_C_decipher_284 ⟨Nat.zero_le _, Nat.zero_le _⟩) (fun H locs hw => ?_)
        refine lv_aload_n hx hb dd_C_decipher_287 rfl (lv_at hl 0 rfl) ?_
        refine lv_iload_n hx hb dd_C_decipher_288 rfl (lv_at hl 1 rfl) ?_
        refine lv_bipush (v := 12) hx hb dd_C_decipher_289 rfl ?_
        refine lv_iadd hx hb dd_C_decipher_291 ?_
        refine xr_getsO hx hb hown hK hw (hts _ hw_485) dd_C_decipher_292 ?_
        refine lv_iload hx hb dd_C_decipher_295 (lv_at hl 6 rfl) ?_
        refine lv_iload hx hb dd_C_decipher_297 (lv_at hl 5 rfl) ?_
        refine lv_iload hx hb dd_C_decipher_299 (lv_at hl 4 rfl) ?_
        refine lv_iload hx hb dd_C_decipher_301 (lv_at hl 3 rfl) ?_
        obtain ⟨q19, gq19, h⟩ := xs_ob h
        refine xq_i hK hw (va_runS (As := [.ref (ad 172), .int i8, .int i7, .int i6, .int i5]) (rest := [.int (n2 + 12), .ref (ad a1)]) ⟨hx, hb, hml, hown, hts⟩ (xc_C_gathered l D ad ca ks 172 i8 i7 i6 i5 q18 q19 rfl gq19 _) ⟨callB_of 5 hts (xs_good hw_122) rfl rfl rfl (hts _ hw_5) (hts _ hw_120) yd_C_gathered ⟨Nat.le_trans (by decide) hRf, Nat.le_trans (by decide) hRl⟩, (hts _ hw_121)⟩ ⟨xs_blind, fun U h1 h2 => ⟨rfl, xs_pre hK hw h1 h2⟩⟩ rfl rfl hl.1 rfl (lv_room (Nat.le_of_ble_eq_true rfl)) dd_C_decipher_303 ⟨Nat.zero_le _, Nat.zero_le _⟩) (fun H locs hw => ?_)
        refine lv_aload_n hx hb dd_C_decipher_306 rfl (lv_at hl 2 rfl) ?_
        refine lv_iconst (v := 3) hx hb dd_C_decipher_307 rfl ?_
        obtain ⟨v20, gv20, h⟩ := xs_ob h
        refine xr_iald hx hb hK hw (xs_ok_C_roundKeys hK.1 hk) gv20 dd_C_decipher_308 ?_
        refine lv_ixor hx hb dd_C_decipher_309 ?_
        refine lv_iconst (v := 4) hx hb dd_C_decipher_310 rfl ?_
        obtain ⟨q21, gq21, h⟩ := xs_ob h
        refine xq_v hK hw (va_runSN (As := [.ref (ad a1), .int (n2 + 12), .int (q19 ^^^ v20), .int 4]) (rest := []) ⟨hx, hb, hml, hown, hts⟩ (xc_W_putNumber l D ad ca ks a1 (n2 + 12) (q19 ^^^ v20) 4 q18 q21 ha1 gq21 _) ⟨va_cnB 4 hts (xs_good hw_140) rfl rfl rfl (hK.2.2.2.1 _ hn_138 rfl) (hts _ hw_1) yd_W_putNumber ⟨Nat.le_trans (by decide) hRf, Nat.le_trans (by decide) hRl⟩, (hts _ hw_139), trivial⟩ ⟨xs_blind, fun U h1 h2 => ⟨rfl, xs_pre hK hw h1 h2⟩⟩ rfl rfl hl.1 rfl (lv_room (Nat.le_of_ble_eq_true rfl)) dd_C_decipher_311 ⟨Nat.zero_le _, Nat.zero_le _⟩) (fun H locs hw => ?_)
        exact hret h hw dd_C_decipher_314
      · replace h := xs_n b9 h
        refine xr_getsO hx hb hown hK hw (hts _ hw_485) dd_C_decipher_86 ?_
        refine lv_iload hx hb dd_C_decipher_89 (lv_at hl 3 rfl) ?_
        refine lv_iload hx hb dd_C_decipher_91 (lv_at hl 6 rfl) ?_
        refine lv_iload hx hb dd_C_decipher_93 (lv_at hl 5 rfl) ?_
        refine lv_iload hx hb dd_C_decipher_95 (lv_at hl 4 rfl) ?_
        obtain ⟨q22, gq22, h⟩ := xs_ob h
        refine xq_i hK hw (va_runS (As := [.ref (ad 172), .int i5, .int i8, .int i7, .int i6]) (rest := []) ⟨hx, hb, hml, hown, hts⟩ (xc_C_gathered l D ad ca ks 172 i5 i8 i7 i6 S q22 rfl gq22 _) ⟨callB_of 5 hts (xs_good hw_122) rfl rfl rfl (hts _ hw_5) (hts _ hw_120) yd_C_gathered ⟨Nat.le_trans (by decide) hRf, Nat.le_trans (by decide) hRl⟩, (hts _ hw_121)⟩ ⟨xs_blind, fun U h1 h2 => ⟨rfl, xs_pre hK hw h1 h2⟩⟩ rfl rfl hl.1 rfl (lv_room (Nat.le_of_ble_eq_true rfl)) dd_C_decipher_97 ⟨Nat.zero_le _, Nat.zero_le _⟩) (fun H locs hw => ?_)
        refine lv_istore hx hb dd_C_decipher_100 hl (by decide) rfl (fun ls hl => ?_)
        have hl : lv_has ls 14 [(10, .int q22), (1, .ref (ad a1)), (2, .int n2), (3, .ref (ad (k + 1))), (5, .int i5), (6, .int i6), (7, .int i7), (8, .int i8), (9, .int i9)] := hl
        refine xr_getsO hx hb hown hK hw (hts _ hw_485) dd_C_decipher_102 ?_
        refine lv_iload hx hb dd_C_decipher_105 (lv_at hl 5 rfl) ?_
        refine lv_iload hx hb dd_C_decipher_107 (lv_at hl 4 rfl) ?_
        refine lv_iload hx hb dd_C_decipher_109 (lv_at hl 7 rfl) ?_
        refine lv_iload hx hb dd_C_decipher_111 (lv_at hl 6 rfl) ?_
        obtain ⟨q23, gq23, h⟩ := xs_ob h
        refine xq_i hK hw (va_runS (As := [.ref (ad 172), .int i6, .int i5, .int i8, .int i7]) (rest := []) ⟨hx, hb, hml, hown, hts⟩ (xc_C_gathered l D ad ca ks 172 i6 i5 i8 i7 S q23 rfl gq23 _) ⟨callB_of 5 hts (xs_good hw_122) rfl rfl rfl (hts _ hw_5) (hts _ hw_120) yd_C_gathered ⟨Nat.le_trans (by decide) hRf, Nat.le_trans (by decide) hRl⟩, (hts _ hw_121)⟩ ⟨xs_blind, fun U h1 h2 => ⟨rfl, xs_pre hK hw h1 h2⟩⟩ rfl rfl hl.1 rfl (lv_room (Nat.le_of_ble_eq_true rfl)) dd_C_decipher_113 ⟨Nat.zero_le _, Nat.zero_le _⟩) (fun H locs hw => ?_)
        refine lv_istore hx hb dd_C_decipher_116 hl (by decide) rfl (fun ls hl => ?_)
        have hl : lv_has ls 14 [(11, .int q23), (10, .int q22), (1, .ref (ad a1)), (2, .int n2), (3, .ref (ad (k + 1))), (5, .int i5), (6, .int i6), (7, .int i7), (8, .int i8), (9, .int i9)] := hl
        refine xr_getsO hx hb hown hK hw (hts _ hw_485) dd_C_decipher_118 ?_
        refine lv_iload hx hb dd_C_decipher_121 (lv_at hl 7 rfl) ?_
        refine lv_iload hx hb dd_C_decipher_123 (lv_at hl 6 rfl) ?_
        refine lv_iload hx hb dd_C_decipher_125 (lv_at hl 5 rfl) ?_
        refine lv_iload hx hb dd_C_decipher_127 (lv_at hl 8 rfl) ?_
        obtain ⟨q24, gq24, h⟩ := xs_ob h
        refine xq_i hK hw (va_runS (As := [.ref (ad 172), .int i7, .int i6, .int i5, .int i8]) (rest := []) ⟨hx, hb, hml, hown, hts⟩ (xc_C_gathered l D ad ca ks 172 i7 i6 i5 i8 S q24 rfl gq24 _) ⟨callB_of 5 hts (xs_good hw_122) rfl rfl rfl (hts _ hw_5) (hts _ hw_120) yd_C_gathered ⟨Nat.le_trans (by decide) hRf, Nat.le_trans (by decide) hRl⟩, (hts _ hw_121)⟩ ⟨xs_blind, fun U h1 h2 => ⟨rfl, xs_pre hK hw h1 h2⟩⟩ rfl rfl hl.1 rfl (lv_room (Nat.le_of_ble_eq_true rfl)) dd_C_decipher_129 ⟨Nat.zero_le _, Nat.zero_le _⟩) (fun H locs hw => ?_)
        refine lv_istore hx hb dd_C_decipher_132 hl (by decide) rfl (fun ls hl => ?_)
        have hl : lv_has ls 14 [(12, .int q24), (11, .int q23), (10, .int q22), (1, .ref (ad a1)), (2, .int n2), (3, .ref (ad (k + 1))), (5, .int i5), (6, .int i6), (7, .int i7), (8, .int i8), (9, .int i9)] := hl
        refine xr_getsO hx hb hown hK hw (hts _ hw_485) dd_C_decipher_134 ?_
        refine lv_iload hx hb dd_C_decipher_137 (lv_at hl 9 rfl) ?_
        refine lv_iload hx hb dd_C_decipher_139 (lv_at hl 8 rfl) ?_
        refine lv_iload hx hb dd_C_decipher_141 (lv_at hl 7 rfl) ?_
        refine lv_iload hx hb dd_C_decipher_143 (lv_at hl 6 rfl) ?_
        obtain ⟨q25, gq25, h⟩ := xs_ob h
        refine xq_i hK hw (va_runS (As := [.ref (ad 172), .int i8, .int i7, .int i6, .int i5]) (rest := []) ⟨hx, hb, hml, hown, hts⟩ (xc_C_gathered l D ad ca ks 172 i8 i7 i6 i5 S q25 rfl gq25 _) ⟨callB_of 5 hts (xs_good hw_122) rfl rfl rfl (hts _ hw_5) (hts _ hw_120) yd_C_gathered ⟨Nat.le_trans (by decide) hRf, Nat.le_trans (by decide) hRl⟩, (hts _ hw_121)⟩ ⟨xs_blind, fun U h1 h2 => ⟨rfl, xs_pre hK hw h1 h2⟩⟩ rfl rfl hl.1 rfl (lv_room (Nat.le_of_ble_eq_true rfl)) dd_C_decipher_145 ⟨Nat.zero_le _, Nat.zero_le _⟩) (fun H locs hw => ?_)
        refine lv_istore hx hb dd_C_decipher_148 hl (by decide) rfl (fun ls hl => ?_)
        have hl : lv_has ls 14 [(13, .int q25), (12, .int q24), (11, .int q23), (10, .int q22), (1, .ref (ad a1)), (2, .int n2), (3, .ref (ad (k + 1))), (5, .int i5), (6, .int i6), (7, .int i7), (8, .int i8), (9, .int i9)] := hl
        refine lv_iload hx hb dd_C_decipher_150 (lv_at hl 3 rfl) ?_
        refine lv_aload_n hx hb dd_C_decipher_152 rfl (lv_at hl 6 rfl) ?_
        refine lv_iload hx hb dd_C_decipher_153 (lv_at hl 11 rfl) ?_
        obtain ⟨v26, gv26, h⟩ := xs_ob h
        refine xr_iald hx hb hK hw (xs_ok_C_roundKeys hK.1 hk) gv26 dd_C_decipher_155 ?_
        refine lv_ixor hx hb dd_C_decipher_156 ?_
        obtain ⟨q27, gq27, h⟩ := xs_ob h
        refine xq_i hK hw (va_runS (As := [.int (q22 ^^^ v26)]) (rest := []) ⟨hx, hb, hml, hown, hts⟩ (xc_C_unmixed l D ad ca ks (q22 ^^^ v26) S q27 gq27 _) ⟨callB_of 1 hts (xs_good hw_489) rfl rfl rfl (hts _ hw_5) (hts _ hw_487) yd_C_unmixed ⟨Nat.le_trans (by decide) hRf, Nat.le_trans (by decide) hRl⟩, (hts _ hw_488)⟩ ⟨xs_blind, fun U h1 h2 => ⟨rfl, xs_pre hK hw h1 h2⟩⟩ rfl rfl hl.1 rfl (lv_room (Nat.le_of_ble_eq_true rfl)) dd_C_decipher_157 ⟨Nat.zero_le _, Nat.zero_le _⟩) (fun H locs hw => ?_)
        refine lv_istore hx hb dd_C_decipher_160 hl (by decide) rfl (fun ls hl => ?_)
        have hl : lv_has ls 14 [(5, .int q27), (13, .int q25), (12, .int q24), (11, .int q23), (10, .int q22), (1, .ref (ad a1)), (2, .int n2), (3, .ref (ad (k + 1))), (6, .int i6), (7, .int i7), (8, .int i8), (9, .int i9)] := hl
        refine lv_iload hx hb dd_C_decipher_162 (lv_at hl 3 rfl) ?_
        refine lv_aload_n hx hb dd_C_decipher_164 rfl (lv_at hl 7 rfl) ?_
        refine lv_iload hx hb dd_C_decipher_165 (lv_at hl 11 rfl) ?_
        refine lv_iconst (v := 1) hx hb dd_C_decipher_167 rfl ?_
        refine lv_iadd hx hb dd_C_decipher_168 ?_
        obtain ⟨v28, gv28, h⟩ := xs_ob h
        refine xr_iald hx hb hK hw (xs_ok_C_roundKeys hK.1 hk) gv28 dd_C_decipher_169 ?_
        refine lv_ixor hx hb dd_C_decipher_170 ?_
        obtain ⟨q29, gq29, h⟩ := xs_ob h
        refine xq_i hK hw (va_runS (As := [.int (q23 ^^^ v28)]) (rest := []) ⟨hx, hb, hml, hown, hts⟩ (xc_C_unmixed l D ad ca ks (q23 ^^^ v28) S q29 gq29 _) ⟨callB_of 1 hts (xs_good hw_489) rfl rfl rfl (hts _ hw_5) (hts _ hw_487) yd_C_unmixed ⟨Nat.le_trans (by decide) hRf, Nat.le_trans (by decide) hRl⟩, (hts _ hw_488)⟩ ⟨xs_blind, fun U h1 h2 => ⟨rfl, xs_pre hK hw h1 h2⟩⟩ rfl rfl hl.1 rfl (lv_room (Nat.le_of_ble_eq_true rfl)) dd_C_decipher_171 ⟨Nat.zero_le _, Nat.zero_le _⟩) (fun H locs hw => ?_)
        refine lv_istore hx hb dd_C_decipher_174 hl (by decide) rfl (fun ls hl => ?_)
        have hl : lv_has ls 14 [(6, .int q29), (5, .int q27), (13, .int q25), (12, .int q24), (11, .int q23), (10, .int q22), (1, .ref (ad a1)), (2, .int n2), (3, .ref (ad (k + 1))), (7, .int i7), (8, .int i8), (9, .int i9)] := hl
        refine lv_iload hx hb dd_C_decipher_176 (lv_at hl 3 rfl) ?_
        refine lv_aload_n hx hb dd_C_decipher_178 rfl (lv_at hl 8 rfl) ?_
        refine lv_iload hx hb dd_C_decipher_179 (lv_at hl 11 rfl) ?_
        refine lv_iconst (v := 2) hx hb dd_C_decipher_181 rfl ?_
        refine lv_iadd hx hb dd_C_decipher_182 ?_
        obtain ⟨v30, gv30, h⟩ := xs_ob h
        refine xr_iald hx hb hK hw (xs_ok_C_roundKeys hK.1 hk) gv30 dd_C_decipher_183 ?_
        refine lv_ixor hx hb dd_C_decipher_184 ?_
        obtain ⟨q31, gq31, h⟩ := xs_ob h
        refine xq_i hK hw (va_runS (As := [.int (q24 ^^^ v30)]) (rest := []) ⟨hx, hb, hml, hown, hts⟩ (xc_C_unmixed l D ad ca ks (q24 ^^^ v30) S q31 gq31 _) ⟨callB_of 1 hts (xs_good hw_489) rfl rfl rfl (hts _ hw_5) (hts _ hw_487) yd_C_unmixed ⟨Nat.le_trans (by decide) hRf, Nat.le_trans (by decide) hRl⟩, (hts _ hw_488)⟩ ⟨xs_blind, fun U h1 h2 => ⟨rfl, xs_pre hK hw h1 h2⟩⟩ rfl rfl hl.1 rfl (lv_room (Nat.le_of_ble_eq_true rfl)) dd_C_decipher_185 ⟨Nat.zero_le _, Nat.zero_le _⟩) (fun H locs hw => ?_)
        refine lv_istore hx hb dd_C_decipher_188 hl (by decide) rfl (fun ls hl => ?_)
        have hl : lv_has ls 14 [(7, .int q31), (6, .int q29), (5, .int q27), (13, .int q25), (12, .int q24), (11, .int q23), (10, .int q22), (1, .ref (ad a1)), (2, .int n2), (3, .ref (ad (k + 1))), (8, .int i8), (9, .int i9)] := hl
        refine lv_iload hx hb dd_C_decipher_190 (lv_at hl 3 rfl) ?_
        refine lv_aload_n hx hb dd_C_decipher_192 rfl (lv_at hl 9 rfl) ?_
        refine lv_iload hx hb dd_C_decipher_193 (lv_at hl 11 rfl) ?_
        refine lv_iconst (v := 3) hx hb dd_C_decipher_195 rfl ?_
        refine lv_iadd hx hb dd_C_decipher_196 ?_
        obtain ⟨v32, gv32, h⟩ := xs_ob h
        refine xr_iald hx hb hK hw (xs_ok_C_roundKeys hK.1 hk) gv32 dd_C_decipher_197 ?_
        refine lv_ixor hx hb dd_C_decipher_198 ?_
        obtain ⟨q33, gq33, h⟩ := xs_ob h
        refine xq_i hK hw (va_runS (As := [.int (q25 ^^^ v32)]) (rest := []) ⟨hx, hb, hml, hown, hts⟩ (xc_C_unmixed l D ad ca ks (q25 ^^^ v32) S q33 gq33 _) ⟨callB_of 1 hts (xs_good hw_489) rfl rfl rfl (hts _ hw_5) (hts _ hw_487) yd_C_unmixed ⟨Nat.le_trans (by decide) hRf, Nat.le_trans (by decide) hRl⟩, (hts _ hw_488)⟩ ⟨xs_blind, fun U h1 h2 => ⟨rfl, xs_pre hK hw h1 h2⟩⟩ rfl rfl hl.1 rfl (lv_room (Nat.le_of_ble_eq_true rfl)) dd_C_decipher_199 ⟨Nat.zero_le _, Nat.zero_le _⟩) (fun H locs hw => ?_)
        refine lv_istore hx hb dd_C_decipher_202 hl (by decide) rfl (fun ls hl => ?_)
        have hl : lv_has ls 14 [(8, .int q33), (7, .int q31), (6, .int q29), (5, .int q27), (13, .int q25), (12, .int q24), (11, .int q23), (10, .int q22), (1, .ref (ad a1)), (2, .int n2), (3, .ref (ad (k + 1))), (9, .int i9)] := hl
        refine lv_iinc (k := 11) (v := i9 + (-4)) hx hb dd_C_decipher_204 hl rfl rfl (by decide) rfl (fun ls hl => ?_)
        have hl : lv_has ls 14 [(9, .int (i9 + (-4))), (8, .int q33), (7, .int q31), (6, .int q29), (5, .int q27), (13, .int q25), (12, .int q24), (11, .int q23), (10, .int q22), (1, .ref (ad a1)), (2, .int n2), (3, .ref (ad (k + 1)))] := hl
        refine lv_goto hx hb dd_C_decipher_207 rfl ?_
        exact ih q27 q29 q31 q33 (i9 + (-4)) S _ _ _ hw (lv_sub hl [9, 10, 11, 4, 3, 2, 1, 0] rfl) h
  unfold xf_C_decipher at h
  refine lv_aload_n hx hb dd_C_decipher_0 rfl (lv_at hl 0 rfl) ?_
  refine xr_get_C (v := .ref (ad (k + 1))) hx hb hts hown hK hw hk 0 (by decide) (hts _ hw_88) rfl dd_C_decipher_1 ?_
  refine lv_astore_n hx hb dd_C_decipher_4 rfl hl (by decide) rfl (fun ls hl => ?_)
  have hl : lv_has ls 14 [(3, .ref (ad (k + 1))), (0, .ref (ad k)), (1, .ref (ad a1)), (2, .int n2)] := hl
  refine lv_bipush (v := 40) hx hb dd_C_decipher_5 rfl ?_
  refine lv_istore hx hb dd_C_decipher_7 hl (by decide) rfl (fun ls hl => ?_)
  have hl : lv_has ls 14 [(4, .int 40), (3, .ref (ad (k + 1))), (0, .ref (ad k)), (1, .ref (ad a1)), (2, .int n2)] := hl
  refine lv_aload_n hx hb dd_C_decipher_9 rfl (lv_at hl 3 rfl) ?_
  refine lv_iload_n hx hb dd_C_decipher_10 rfl (lv_at hl 4 rfl) ?_
  refine lv_iconst (v := 4) hx hb dd_C_decipher_11 rfl ?_
  obtain ⟨q1, gq1, h⟩ := xs_ob h
  refine xq_i hK hw (va_runSN (As := [.ref (ad a1), .int n2, .int 4]) (rest := []) ⟨hx, hb, hml, hown, hts⟩ (xc_W_number l D ad ca ks a1 n2 4 S q1 ha1 gq1 _) ⟨va_cnB 3 hts (xs_good hw_117) rfl rfl rfl (hK.2.2.2.1 _ hn_115 rfl) (hts _ hw_1) yd_W_number ⟨Nat.le_trans (by decide) hRf, Nat.le_trans (by decide) hRl⟩, (hts _ hw_116), trivial⟩ ⟨xs_blind, fun U h1 h2 => ⟨rfl, xs_pre hK hw h1 h2⟩⟩ rfl rfl hl.1 rfl (lv_room (Nat.le_of_ble_eq_true rfl)) dd_C_decipher_12 ⟨Nat.zero_le _, Nat.zero_le _⟩) (fun H locs hw => ?_)
  refine lv_aload_n hx hb dd_C_decipher_15 rfl (lv_at hl 1 rfl) ?_
  refine lv_iload hx hb dd_C_decipher_16 (lv_at hl 0 rfl) ?_
  obtain ⟨v2, gv2, h⟩ := xs_ob h
  refine xr_iald hx hb hK hw (xs_ok_C_roundKeys hK.1 hk) gv2 dd_C_decipher_18 ?_
  refine lv_ixor hx hb dd_C_decipher_19 ?_
  refine lv_istore hx hb dd_C_decipher_20 hl (by decide) rfl (fun ls hl => ?_)
  have hl : lv_has ls 14 [(5, .int (q1 ^^^ v2)), (4, .int 40), (3, .ref (ad (k + 1))), (0, .ref (ad k)), (1, .ref (ad a1)), (2, .int n2)] := hl
  refine lv_aload_n hx hb dd_C_decipher_22 rfl (lv_at hl 4 rfl) ?_
  refine lv_iload_n hx hb dd_C_decipher_23 rfl (lv_at hl 5 rfl) ?_
  refine lv_iconst (v := 4) hx hb dd_C_decipher_24 rfl ?_
  refine lv_iadd hx hb dd_C_decipher_25 ?_
  refine lv_iconst (v := 4) hx hb dd_C_decipher_26 rfl ?_
  obtain ⟨q3, gq3, h⟩ := xs_ob h
  refine xq_i hK hw (va_runSN (As := [.ref (ad a1), .int (n2 + 4), .int 4]) (rest := []) ⟨hx, hb, hml, hown, hts⟩ (xc_W_number l D ad ca ks a1 (n2 + 4) 4 S q3 ha1 gq3 _) ⟨va_cnB 3 hts (xs_good hw_117) rfl rfl rfl (hK.2.2.2.1 _ hn_115 rfl) (hts _ hw_1) yd_W_number ⟨Nat.le_trans (by decide) hRf, Nat.le_trans (by decide) hRl⟩, (hts _ hw_116), trivial⟩ ⟨xs_blind, fun U h1 h2 => ⟨rfl, xs_pre hK hw h1 h2⟩⟩ rfl rfl hl.1 rfl (lv_room (Nat.le_of_ble_eq_true rfl)) dd_C_decipher_27 ⟨Nat.zero_le _, Nat.zero_le _⟩) (fun H locs hw => ?_)
  refine lv_aload_n hx hb dd_C_decipher_30 rfl (lv_at hl 2 rfl) ?_
  refine lv_iload hx hb dd_C_decipher_31 (lv_at hl 1 rfl) ?_
  refine lv_iconst (v := 1) hx hb dd_C_decipher_33 rfl ?_
  refine lv_iadd hx hb dd_C_decipher_34 ?_
  obtain ⟨v4, gv4, h⟩ := xs_ob h
  refine xr_iald hx hb hK hw (xs_ok_C_roundKeys hK.1 hk) gv4 dd_C_decipher_35 ?_
  refine lv_ixor hx hb dd_C_decipher_36 ?_
  refine lv_istore hx hb dd_C_decipher_37 hl (by decide) rfl (fun ls hl => ?_)
  have hl : lv_has ls 14 [(6, .int (q3 ^^^ v4)), (5, .int (q1 ^^^ v2)), (4, .int 40), (3, .ref (ad (k + 1))), (0, .ref (ad k)), (1, .ref (ad a1)), (2, .int n2)] := hl
  refine lv_aload_n hx hb dd_C_decipher_39 rfl (lv_at hl 5 rfl) ?_
  refine lv_iload_n hx hb dd_C_decipher_40 rfl (lv_at hl 6 rfl) ?_
  refine lv_bipush (v := 8) hx hb dd_C_decipher_41 rfl ?_
  refine lv_iadd hx hb dd_C_decipher_43 ?_
  refine lv_iconst (v := 4) hx hb dd_C_decipher_44 rfl ?_
  obtain ⟨q5, gq5, h⟩ := xs_ob h
  refine xq_i hK hw (va_runSN (As := [.ref (ad a1), .int (n2 + 8), .int 4]) (rest := []) ⟨hx, hb, hml, hown, hts⟩ (xc_W_number l D ad ca ks a1 (n2 + 8) 4 S q5 ha1 gq5 _) ⟨va_cnB 3 hts (xs_good hw_117) rfl rfl rfl (hK.2.2.2.1 _ hn_115 rfl) (hts _ hw_1) yd_W_number ⟨Nat.le_trans (by decide) hRf, Nat.le_trans (by decide) hRl⟩, (hts _ hw_116), trivial⟩ ⟨xs_blind, fun U h1 h2 => ⟨rfl, xs_pre hK hw h1 h2⟩⟩ rfl rfl hl.1 rfl (lv_room (Nat.le_of_ble_eq_true rfl)) dd_C_decipher_45 ⟨Nat.zero_le _, Nat.zero_le _⟩) (fun H locs hw => ?_)
  refine lv_aload_n hx hb dd_C_decipher_48 rfl (lv_at hl 3 rfl) ?_
  refine lv_iload hx hb dd_C_decipher_49 (lv_at hl 2 rfl) ?_
  refine lv_iconst (v := 2) hx hb dd_C_decipher_51 rfl ?_
  refine lv_iadd hx hb dd_C_decipher_52 ?_
  obtain ⟨v6, gv6, h⟩ := xs_ob h
  refine xr_iald hx hb hK hw (xs_ok_C_roundKeys hK.1 hk) gv6 dd_C_decipher_53 ?_
  refine lv_ixor hx hb dd_C_decipher_54 ?_
  refine lv_istore hx hb dd_C_decipher_55 hl (by decide) rfl (fun ls hl => ?_)
  have hl : lv_has ls 14 [(7, .int (q5 ^^^ v6)), (6, .int (q3 ^^^ v4)), (5, .int (q1 ^^^ v2)), (4, .int 40), (3, .ref (ad (k + 1))), (0, .ref (ad k)), (1, .ref (ad a1)), (2, .int n2)] := hl
  refine lv_aload_n hx hb dd_C_decipher_57 rfl (lv_at hl 6 rfl) ?_
  refine lv_iload_n hx hb dd_C_decipher_58 rfl (lv_at hl 7 rfl) ?_
  refine lv_bipush (v := 12) hx hb dd_C_decipher_59 rfl ?_
  refine lv_iadd hx hb dd_C_decipher_61 ?_
  refine lv_iconst (v := 4) hx hb dd_C_decipher_62 rfl ?_
  obtain ⟨q7, gq7, h⟩ := xs_ob h
  refine xq_i hK hw (va_runSN (As := [.ref (ad a1), .int (n2 + 12), .int 4]) (rest := []) ⟨hx, hb, hml, hown, hts⟩ (xc_W_number l D ad ca ks a1 (n2 + 12) 4 S q7 ha1 gq7 _) ⟨va_cnB 3 hts (xs_good hw_117) rfl rfl rfl (hK.2.2.2.1 _ hn_115 rfl) (hts _ hw_1) yd_W_number ⟨Nat.le_trans (by decide) hRf, Nat.le_trans (by decide) hRl⟩, (hts _ hw_116), trivial⟩ ⟨xs_blind, fun U h1 h2 => ⟨rfl, xs_pre hK hw h1 h2⟩⟩ rfl rfl hl.1 rfl (lv_room (Nat.le_of_ble_eq_true rfl)) dd_C_decipher_63 ⟨Nat.zero_le _, Nat.zero_le _⟩) (fun H locs hw => ?_)
  refine lv_aload_n hx hb dd_C_decipher_66 rfl (lv_at hl 4 rfl) ?_
  refine lv_iload hx hb dd_C_decipher_67 (lv_at hl 3 rfl) ?_
  refine lv_iconst (v := 3) hx hb dd_C_decipher_69 rfl ?_
  refine lv_iadd hx hb dd_C_decipher_70 ?_
  obtain ⟨v8, gv8, h⟩ := xs_ob h
  refine xr_iald hx hb hK hw (xs_ok_C_roundKeys hK.1 hk) gv8 dd_C_decipher_71 ?_
  refine lv_ixor hx hb dd_C_decipher_72 ?_
  refine lv_istore hx hb dd_C_decipher_73 hl (by decide) rfl (fun ls hl => ?_)
  have hl : lv_has ls 14 [(8, .int (q7 ^^^ v8)), (7, .int (q5 ^^^ v6)), (6, .int (q3 ^^^ v4)), (5, .int (q1 ^^^ v2)), (4, .int 40), (3, .ref (ad (k + 1))), (0, .ref (ad k)), (1, .ref (ad a1)), (2, .int n2)] := hl
  refine lv_iload hx hb dd_C_decipher_75 (lv_at hl 4 rfl) ?_
  refine lv_iconst (v := 4) hx hb dd_C_decipher_77 rfl ?_
  refine lv_isub hx hb dd_C_decipher_78 ?_
  refine lv_istore hx hb dd_C_decipher_79 hl (by decide) rfl (fun ls hl => ?_)
  have hl : lv_has ls 14 [(9, .int (40 - 4)), (8, .int (q7 ^^^ v8)), (7, .int (q5 ^^^ v6)), (6, .int (q3 ^^^ v4)), (5, .int (q1 ^^^ v2)), (4, .int 40), (3, .ref (ad (k + 1))), (0, .ref (ad k)), (1, .ref (ad a1)), (2, .int n2)] := hl
  exact w_81 xs_fuel (q1 ^^^ v2) (q3 ^^^ v4) (q5 ^^^ v6) (q7 ^^^ v8) (40 - 4) S _ _ _ hw (lv_sub hl [8, 9, 6, 4, 3, 2, 1, 0] rfl) h
set_option maxHeartbeats 4000000 in
set_option maxRecDepth 100000 in
theorem xc_K_writeAccept (l : Launch) (D : va_G) (ad : Nat → Nat) (ca : Nat → ClassId) (ks : List Nat) (k : Nat) (a1 : Nat) (S : xs_T) (T : xs_T) (hk : xs_is ks k xs_cK) (ha1 : xs_is ks a1 xs_cF) (h : xf_K_writeAccept k a1 S = some T) (sz : Nat) : Met l yy_K_writeAccept ws_K_writeAccept { frames := 3, cells := 0, slots := 0, locals := 80 } (va_Pc [.ref (ad k), .ref (ad a1)] (xs_Pre D ad ca ks S sz)) (va_Qv (fun _ : Unit => True) (fun _ t => va_P D xs_cl (xs_w ad ca ks T) t.heap) (xs_A ad ks sz)) 0 0 (xs_A ad ks sz) := by
  refine xm_v (by decide) (Nat.le_of_ble_eq_true rfl) ?_
  intro p e s m args below meth c R A Q ls hx hb hml hown hts hRf hRl hK hw hl hret
  have hl : lv_has ls 2 [(0, .ref (ad k)), (1, .ref (ad a1))] := hl
  unfold xf_K_writeAccept at h
  refine lv_aload_n hx hb dd_K_writeAccept_0 rfl (lv_at hl 1 rfl) ?_
  refine lv_bipush (v := 32) hx hb dd_K_writeAccept_1 rfl ?_
  refine lv_aload_n hx hb dd_K_writeAccept_3 rfl (lv_at hl 0 rfl) ?_
  refine xr_get_K (v := .int (xs_gI S k 0)) hx hb hts hown hK hw hk 0 (by decide) (hts _ hw_280) rfl dd_K_writeAccept_4 ?_
  obtain ⟨q1, gq1, h⟩ := xs_ob h
  refine xq_v hK hw (va_runV (As := [.int 32, .int (xs_gI S k 0)]) (rest := []) ⟨hx, hb, hml, hown, hts⟩ (xc_F_begin l D ad ca ks a1 32 (xs_gI S k 0) S q1 ha1 gq1 _) ⟨callB_of 2 hts (xs_good hw_375) rfl rfl rfl (hts _ hw_3) (hts _ hw_478) yd_F_begin ⟨Nat.le_trans (by decide) hRf, Nat.le_trans (by decide) hRl⟩, (hts _ hw_373), (hts _ hw_374)⟩ ⟨xs_blind, xs_recv_F hK hw ha1, fun U h1 h2 => ⟨rfl, xs_pre hK hw h1 h2⟩⟩ rfl rfl hl.1 rfl (lv_room (Nat.le_of_ble_eq_true rfl)) dd_K_writeAccept_7 ⟨Nat.zero_le _, Nat.zero_le _⟩) (fun H locs hw => ?_)
  refine lv_aload_n hx hb dd_K_writeAccept_10 rfl (lv_at hl 1 rfl) ?_
  refine lv_aload_n hx hb dd_K_writeAccept_11 rfl (lv_at hl 0 rfl) ?_
  refine xr_get_K (v := .int (xs_gI q1 k 8)) hx hb hts hown hK hw hk 8 (by decide) (hts _ hw_293) rfl dd_K_writeAccept_12 ?_
  refine lv_iconst (v := 3) hx hb dd_K_writeAccept_15 rfl ?_
  obtain ⟨q2, gq2, h⟩ := xs_ob h
  refine xq_v hK hw (va_runV (As := [.int (xs_gI q1 k 8), .int 3]) (rest := []) ⟨hx, hb, hml, hown, hts⟩ (xc_F_append l D ad ca ks a1 (xs_gI q1 k 8) 3 q1 q2 ha1 gq2 _) ⟨callB_of 2 hts (xs_good hw_379) rfl rfl rfl (hts _ hw_3) (hts _ hw_479) yd_F_append ⟨Nat.le_trans (by decide) hRf, Nat.le_trans (by decide) hRl⟩, (hts _ hw_377), (hts _ hw_378)⟩ ⟨xs_blind, xs_recv_F hK hw ha1, fun U h1 h2 => ⟨rfl, xs_pre hK hw h1 h2⟩⟩ rfl rfl hl.1 rfl (lv_room (Nat.le_of_ble_eq_true rfl)) dd_K_writeAccept_16 ⟨Nat.zero_le _, Nat.zero_le _⟩) (fun H locs hw => ?_)
  refine lv_aload_n hx hb dd_K_writeAccept_19 rfl (lv_at hl 1 rfl) ?_
  refine lv_bipush (v := 19) hx hb dd_K_writeAccept_20 rfl ?_
  refine lv_iconst (v := 3) hx hb dd_K_writeAccept_22 rfl ?_
  obtain ⟨q3, gq3, h⟩ := xs_ob h
  refine xq_v hK hw (va_runV (As := [.int 19, .int 3]) (rest := []) ⟨hx, hb, hml, hown, hts⟩ (xc_F_append l D ad ca ks a1 19 3 q2 q3 ha1 gq3 _) ⟨callB_of 2 hts (xs_good hw_379) rfl rfl rfl (hts _ hw_3) (hts _ hw_479) yd_F_append ⟨Nat.le_trans (by decide) hRf, Nat.le_trans (by decide) hRl⟩, (hts _ hw_377), (hts _ hw_378)⟩ ⟨xs_blind, xs_recv_F hK hw ha1, fun U h1 h2 => ⟨rfl, xs_pre hK hw h1 h2⟩⟩ rfl rfl hl.1 rfl (lv_room (Nat.le_of_ble_eq_true rfl)) dd_K_writeAccept_23 ⟨Nat.zero_le _, Nat.zero_le _⟩) (fun H locs hw => ?_)
  refine lv_aload_n hx hb dd_K_writeAccept_26 rfl (lv_at hl 1 rfl) ?_
  refine lv_aload_n hx hb dd_K_writeAccept_27 rfl (lv_at hl 0 rfl) ?_
  refine xr_get_K (v := .ref (ad (k + 1))) hx hb hts hown hK hw hk 2 (by decide) (hts _ hw_283) rfl dd_K_writeAccept_28 ?_
  refine xr_getN_S (v := .int (xs_gI q3 (k + 1) 4)) hx hb hts hown hK hw (xs_ok_K_session hK.1 hk) 4 (by decide) (va_Nw.use rfl (hK.2.2.2.1 _ hn_168 rfl)) rfl dd_K_writeAccept_31 ?_
  refine lv_iconst (v := 4) hx hb dd_K_writeAccept_34 rfl ?_
  obtain ⟨q4, gq4, h⟩ := xs_ob h
  refine xq_v hK hw (va_runV (As := [.int (xs_gI q3 (k + 1) 4), .int 4]) (rest := []) ⟨hx, hb, hml, hown, hts⟩ (xc_F_append l D ad ca ks a1 (xs_gI q3 (k + 1) 4) 4 q3 q4 ha1 gq4 _) ⟨callB_of 2 hts (xs_good hw_379) rfl rfl rfl (hts _ hw_3) (hts _ hw_479) yd_F_append ⟨Nat.le_trans (by decide) hRf, Nat.le_trans (by decide) hRl⟩, (hts _ hw_377), (hts _ hw_378)⟩ ⟨xs_blind, xs_recv_F hK hw ha1, fun U h1 h2 => ⟨rfl, xs_pre hK hw h1 h2⟩⟩ rfl rfl hl.1 rfl (lv_room (Nat.le_of_ble_eq_true rfl)) dd_K_writeAccept_35 ⟨Nat.zero_le _, Nat.zero_le _⟩) (fun H locs hw => ?_)
  refine lv_aload_n hx hb dd_K_writeAccept_38 rfl (lv_at hl 1 rfl) ?_
  refine lv_iconst (v := 0) hx hb dd_K_writeAccept_39 rfl ?_
  refine lv_iconst (v := 1) hx hb dd_K_writeAccept_40 rfl ?_
  obtain ⟨q5, gq5, h⟩ := xs_ob h
  refine xq_v hK hw (va_runV (As := [.int 0, .int 1]) (rest := []) ⟨hx, hb, hml, hown, hts⟩ (xc_F_append l D ad ca ks a1 0 1 q4 q5 ha1 gq5 _) ⟨callB_of 2 hts (xs_good hw_379) rfl rfl rfl (hts _ hw_3) (hts _ hw_479) yd_F_append ⟨Nat.le_trans (by decide) hRf, Nat.le_trans (by decide) hRl⟩, (hts _ hw_377), (hts _ hw_378)⟩ ⟨xs_blind, xs_recv_F hK hw ha1, fun U h1 h2 => ⟨rfl, xs_pre hK hw h1 h2⟩⟩ rfl rfl hl.1 rfl (lv_room (Nat.le_of_ble_eq_true rfl)) dd_K_writeAccept_41 ⟨Nat.zero_le _, Nat.zero_le _⟩) (fun H locs hw => ?_)
  refine lv_aload_n hx hb dd_K_writeAccept_44 rfl (lv_at hl 1 rfl) ?_
  refine lv_iconst (v := 1) hx hb dd_K_writeAccept_45 rfl ?_
  refine lv_iconst (v := 1) hx hb dd_K_writeAccept_46 rfl ?_
  obtain ⟨q6, gq6, h⟩ := xs_ob h
  refine xq_v hK hw (va_runV (As := [.int 1, .int 1]) (rest := []) ⟨hx, hb, hml, hown, hts⟩ (xc_F_append l D ad ca ks a1 1 1 q5 q6 ha1 gq6 _) ⟨callB_of 2 hts (xs_good hw_379) rfl rfl rfl (hts _ hw_3) (hts _ hw_479) yd_F_append ⟨Nat.le_trans (by decide) hRf, Nat.le_trans (by decide) hRl⟩, (hts _ hw_377), (hts _ hw_378)⟩ ⟨xs_blind, xs_recv_F hK hw ha1, fun U h1 h2 => ⟨rfl, xs_pre hK hw h1 h2⟩⟩ rfl rfl hl.1 rfl (lv_room (Nat.le_of_ble_eq_true rfl)) dd_K_writeAccept_47 ⟨Nat.zero_le _, Nat.zero_le _⟩) (fun H locs hw => ?_)
  refine lv_aload_n hx hb dd_K_writeAccept_50 rfl (lv_at hl 1 rfl) ?_
  refine lv_aload_n hx hb dd_K_writeAccept_51 rfl (lv_at hl 0 rfl) ?_
  refine xr_get_K (v := .ref (ad (xs_rt k))) hx hb hts hown hK hw hk 1 (by decide) (hts _ hw_281) rfl dd_K_writeAccept_52 ?_
  refine lv_aload_n hx hb dd_K_writeAccept_55 rfl (lv_at hl 1 rfl) ?_
  refine xr_getN_F (v := .ref (ad (a1 + 1))) hx hb hts hown hK hw ha1 0 (by decide) (va_Nw.use rfl (hK.2.2.2.1 _ hn_40 rfl)) rfl dd_K_writeAccept_56 ?_
  refine lv_aload_n hx hb dd_K_writeAccept_59 rfl (lv_at hl 1 rfl) ?_
  refine xr_getN_F (v := .int (xs_gI q6 a1 1)) hx hb hts hown hK hw ha1 1 (by decide) (va_Nw.use rfl (hK.2.2.2.1 _ hn_46 rfl)) rfl dd_K_writeAccept_60 ?_
  obtain ⟨q7, gq7, h⟩ := xs_ob h
  refine xq_i hK hw (va_runV (As := [.ref (ad (a1 + 1)), .int (xs_gI q6 a1 1)]) (rest := [.ref (ad a1)]) ⟨hx, hb, hml, hown, hts⟩ (xc_M_codeOf l D ad ca ks (xs_rt k) (a1 + 1) (xs_gI q6 a1 1) q6 q7.1 q7.2 (xs_ok_K_root hK.1 hk) (xs_ok_F_bytes hK.1 ha1) gq7 _) ⟨callB_of 2 hts (xs_good hw_389) rfl rfl rfl (hts _ hw_4) (hts _ hw_480) yd_M_codeOf ⟨Nat.le_trans (by decide) hRf, Nat.le_trans (by decide) hRl⟩, (hts _ hw_387), (hts _ hw_388)⟩ ⟨xs_blind, xs_recv_M hK hw (xs_ok_K_root hK.1 hk), fun U h1 h2 => ⟨rfl, xs_pre hK hw h1 h2⟩⟩ rfl rfl hl.1 rfl (lv_room (Nat.le_of_ble_eq_true rfl)) dd_K_writeAccept_63 ⟨Nat.zero_le _, Nat.zero_le _⟩) (fun H locs hw => ?_)
  refine lv_iconst (v := 4) hx hb dd_K_writeAccept_66 rfl ?_
  obtain ⟨q8, gq8, h⟩ := xs_ob h
  refine xq_v hK hw (va_runV (As := [.int q7.1, .int 4]) (rest := []) ⟨hx, hb, hml, hown, hts⟩ (xc_F_append l D ad ca ks a1 q7.1 4 q7.2 q8 ha1 gq8 _) ⟨callB_of 2 hts (xs_good hw_379) rfl rfl rfl (hts _ hw_3) (hts _ hw_479) yd_F_append ⟨Nat.le_trans (by decide) hRf, Nat.le_trans (by decide) hRl⟩, (hts _ hw_377), (hts _ hw_378)⟩ ⟨xs_blind, xs_recv_F hK hw ha1, fun U h1 h2 => ⟨rfl, xs_pre hK hw h1 h2⟩⟩ rfl rfl hl.1 rfl (lv_room (Nat.le_of_ble_eq_true rfl)) dd_K_writeAccept_67 ⟨Nat.zero_le _, Nat.zero_le _⟩) (fun H locs hw => ?_)
  refine lv_aload_n hx hb dd_K_writeAccept_70 rfl (lv_at hl 0 rfl) ?_
  refine xr_get_K (v := .ref (ad (xs_rt k))) hx hb hts hown hK hw hk 1 (by decide) (hts _ hw_281) rfl dd_K_writeAccept_71 ?_
  refine xr_getN_M (v := .ref (ad ((xs_rt k) + 1))) hx hb hts hown hK hw (xs_ok_K_root hK.1 hk) 0 (by decide) (va_Nw.use rfl (hK.2.2.2.1 _ hn_93 rfl)) rfl dd_K_writeAccept_74 ?_
  refine lv_aload_n hx hb dd_K_writeAccept_77 rfl (lv_at hl 1 rfl) ?_
  refine xr_getN_F (v := .ref (ad (a1 + 1))) hx hb hts hown hK hw ha1 0 (by decide) (va_Nw.use rfl (hK.2.2.2.1 _ hn_40 rfl)) rfl dd_K_writeAccept_78 ?_
  refine lv_iconst (v := 1) hx hb dd_K_writeAccept_81 rfl ?_
  obtain ⟨q9, gq9, h⟩ := xs_ob h
  refine xq_v hK hw (va_runV (As := [.ref (ad (a1 + 1)), .int 1]) (rest := []) ⟨hx, hb, hml, hown, hts⟩ (xc_C_decipher l D ad ca ks ((xs_rt k) + 1) (a1 + 1) 1 q8 q9 (xs_ok_M_cipher hK.1 (xs_ok_K_root hK.1 hk)) (xs_ok_F_bytes hK.1 ha1) gq9 _) ⟨callB_of 2 hts (xs_good hw_484) rfl rfl rfl (hts _ hw_5) (hts _ hw_481) yd_C_decipher ⟨Nat.le_trans (by decide) hRf, Nat.le_trans (by decide) hRl⟩, (hts _ hw_482), (hts _ hw_483)⟩ ⟨xs_blind, xs_recv_C hK hw (xs_ok_M_cipher hK.1 (xs_ok_K_root hK.1 hk)), fun U h1 h2 => ⟨rfl, xs_pre hK hw h1 h2⟩⟩ rfl rfl hl.1 rfl (lv_room (Nat.le_of_ble_eq_true rfl)) dd_K_writeAccept_82 ⟨Nat.zero_le _, Nat.zero_le _⟩) (fun H locs hw => ?_)
  exact hret h hw dd_K_writeAccept_85
set_option maxHeartbeats 4000000 in
set_option maxRecDepth 100000 in
theorem xc_N_bitCount (l : Launch) (D : va_G) (ad : Nat → Nat) (ca : Nat → ClassId) (ks : List Nat) (n0 : Int32) (S : xs_T) (r : Int32) (h : xf_N_bitCount n0 = some r) (sz : Nat) : Met l yy_N_bitCount ws_N_bitCount { frames := 0, cells := 0, slots := 0, locals := 0 } (va_Pc [.int n0] (xs_Pre D ad ca ks S sz)) (va_Qi (fun r1 (_ : Unit) => r1 = r) (fun _ t => va_P D xs_cl (xs_w ad ca ks S) t.heap) (xs_A ad ks sz)) 0 0 (xs_A ad ks sz) := by
  refine xm_ir (by decide) (Nat.le_of_ble_eq_true rfl) ?_
  intro p e s m args below meth c R A Q ls hx hb hml hown hts hRf hRl hK hw hl hret
  have hl : lv_has ls 1 [(0, .int n0)] := hl
  unfold xf_N_bitCount at h
  refine lv_iload_n hx hb dd_N_bitCount_0 rfl (lv_at hl 0 rfl) ?_
  refine lv_iload_n hx hb dd_N_bitCount_1 rfl (lv_at hl 0 rfl) ?_
  refine lv_iconst (v := 1) hx hb dd_N_bitCount_2 rfl ?_
  refine lv_iushr (v := xs_ush n0 1) hx hb dd_N_bitCount_3 rfl ?_
  refine lv_ldcw (v := 1431655765) hx hb hown (hts _ hw_499) dd_N_bitCount_4 ?_
  refine lv_iand hx hb dd_N_bitCount_7 ?_
  refine lv_isub hx hb dd_N_bitCount_8 ?_
  obtain ⟨v1, gv1, h⟩ := xs_ob h
  refine lv_namI gv1 ?_
  refine lv_istore_n hx hb dd_N_bitCount_9 rfl hl (by decide) rfl (fun ls hl => ?_)
  have hl : lv_has ls 1 [(0, .int v1)] := hl
  refine lv_iload_n hx hb dd_N_bitCount_10 rfl (lv_at hl 0 rfl) ?_
  refine lv_ldcw (v := 858993459) hx hb hown (hts _ hw_500) dd_N_bitCount_11 ?_
  refine lv_iand hx hb dd_N_bitCount_14 ?_
  refine lv_iload_n hx hb dd_N_bitCount_15 rfl (lv_at hl 0 rfl) ?_
  refine lv_iconst (v := 2) hx hb dd_N_bitCount_16 rfl ?_
  refine lv_iushr (v := xs_ush v1 2) hx hb dd_N_bitCount_17 rfl ?_
  refine lv_ldcw (v := 858993459) hx hb hown (hts _ hw_500) dd_N_bitCount_18 ?_
  refine lv_iand hx hb dd_N_bitCount_21 ?_
  refine lv_iadd hx hb dd_N_bitCount_22 ?_
  obtain ⟨v2, gv2, h⟩ := xs_ob h
  refine lv_namI gv2 ?_
  refine lv_istore_n hx hb dd_N_bitCount_23 rfl hl (by decide) rfl (fun ls hl => ?_)
  have hl : lv_has ls 1 [(0, .int v2)] := hl
  refine lv_iload_n hx hb dd_N_bitCount_24 rfl (lv_at hl 0 rfl) ?_
  refine lv_iload_n hx hb dd_N_bitCount_25 rfl (lv_at hl 0 rfl) ?_
  refine lv_iconst (v := 4) hx hb dd_N_bitCount_26 rfl ?_
  refine lv_iushr (v := xs_ush v2 4) hx hb dd_N_bitCount_27 rfl ?_
  refine lv_iadd hx hb dd_N_bitCount_28 ?_
  refine lv_ldcw (v := 252645135) hx hb hown (hts _ hw_501) dd_N_bitCount_29 ?_
  refine lv_iand hx hb dd_N_bitCount_32 ?_
  obtain ⟨v3, gv3, h⟩ := xs_ob h
  refine lv_namI gv3 ?_
  refine lv_istore_n hx hb dd_N_bitCount_33 rfl hl (by decide) rfl (fun ls hl => ?_)
  have hl : lv_has ls 1 [(0, .int v3)] := hl
  refine lv_iload_n hx hb dd_N_bitCount_34 rfl (lv_at hl 0 rfl) ?_
  refine lv_iload_n hx hb dd_N_bitCount_35 rfl (lv_at hl 0 rfl) ?_
  refine lv_bipush (v := 8) hx hb dd_N_bitCount_36 rfl ?_
  refine lv_iushr (v := xs_ush v3 8) hx hb dd_N_bitCount_38 rfl ?_
  refine lv_iadd hx hb dd_N_bitCount_39 ?_
  obtain ⟨v4, gv4, h⟩ := xs_ob h
  refine lv_namI gv4 ?_
  refine lv_istore_n hx hb dd_N_bitCount_40 rfl hl (by decide) rfl (fun ls hl => ?_)
  have hl : lv_has ls 1 [(0, .int v4)] := hl
  refine lv_iload_n hx hb dd_N_bitCount_41 rfl (lv_at hl 0 rfl) ?_
  refine lv_iload_n hx hb dd_N_bitCount_42 rfl (lv_at hl 0 rfl) ?_
  refine lv_bipush (v := 16) hx hb dd_N_bitCount_43 rfl ?_
  refine lv_iushr (v := xs_ush v4 16) hx hb dd_N_bitCount_45 rfl ?_
  refine lv_iadd hx hb dd_N_bitCount_46 ?_
  obtain ⟨v5, gv5, h⟩ := xs_ob h
  refine lv_namI gv5 ?_
  refine lv_istore_n hx hb dd_N_bitCount_47 rfl hl (by decide) rfl (fun ls hl => ?_)
  have hl : lv_has ls 1 [(0, .int v5)] := hl
  refine lv_iload_n hx hb dd_N_bitCount_48 rfl (lv_at hl 0 rfl) ?_
  refine lv_bipush (v := 63) hx hb dd_N_bitCount_49 rfl ?_
  refine lv_iand hx hb dd_N_bitCount_51 ?_
  exact hret h hw dd_N_bitCount_52
