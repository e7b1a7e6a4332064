set_option maxHeartbeats 4000000 in
set_option maxRecDepth 100000 in
theorem xc_W_goal (l : Launch) (D : va_G) (ad : Nat → Nat) (ca : Nat → ClassId) (ks : List Nat) (hf : ks = xs_all) (k : Nat) (n1 : Int32) (S : xs_T) (r : Int32) (hk : xs_is ks k xs_cW) (h : xf_W_goal k n1 S = some r) (sz : Nat) : Met l yy_W_goal ws_W_goal { frames := 1, cells := 0, slots := 0, locals := 21 } (va_Pc [.ref (ad k), .int n1] (xs_Pre D ad ca ks S sz)) (va_Qi (fun r1 (_ : Unit) => r1 = r) (fun _ t => va_P D xs_cl (xs_w ad ca ks S) t.heap) (xs_A ad ks sz)) 0 0 (xs_A ad ks sz) := by
  refine xm_ir (by decide) (Nat.le_of_ble_eq_true rfl) ?_
  intro p e s m args below meth c R A Q ls hx hb hml hown hts hRf hRl hK hw hl hret
  have hl : lv_has ls 2 [(0, .ref (ad k)), (1, .int n1)] := hl
  unfold xf_W_goal at h
  refine lv_aload_n hx hb dd_W_goal_0 rfl (lv_at hl 0 rfl) ?_
  refine xr_get_W (v := .ref (ad (k + 1))) hx hb hts hown hK hw hk 0 (by decide) (hts _ hw_347) rfl dd_W_goal_1 ?_
  refine lv_iload_n hx hb dd_W_goal_4 rfl (lv_at hl 1 rfl) ?_
  obtain ⟨q1, gq1, h⟩ := xs_ob h
  refine xq_i hK hw (va_runV (As := [.int n1]) (rest := []) ⟨hx, hb, hml, hown, hts⟩ (xc_A_holds l D ad ca ks (k + 1) n1 S q1 (xs_ok_W_air hK.1 hk) gq1 _) ⟨callB_of 1 hts (xs_good hw_523) rfl rfl rfl (hts _ hw_2) (hts _ hw_520) yd_A_holds ⟨Nat.le_trans (by decide) hRf, Nat.le_trans (by decide) hRl⟩, (hts _ hw_521), (hts _ hw_522)⟩ ⟨xs_blind, xs_recv_A hK hw (xs_ok_W_air hK.1 hk), fun U h1 h2 => ⟨rfl, xs_pre hK hw h1 h2⟩⟩ rfl rfl hl.1 rfl (lv_room (Nat.le_of_ble_eq_true rfl)) dd_W_goal_5 ⟨Nat.zero_le _, Nat.zero_le _⟩) (fun H locs hw => ?_)
  refine lv_if_eq hx hb dd_W_goal_8 rfl (fun b2 => ?_) (fun b2 => ?_)
  · replace h := xs_p b2 h
    refine lv_iconst (v := (-1)) hx hb dd_W_goal_26 rfl ?_
    exact hret h hw dd_W_goal_27
  · replace h := xs_n b2 h
    refine lv_aload_n hx hb dd_W_goal_11 rfl (lv_at hl 0 rfl) ?_
    refine xr_get_W (v := .ref (ad (k + 1))) hx hb hts hown hK hw hk 0 (by decide) (hts _ hw_347) rfl dd_W_goal_12 ?_
    refine xr_getN_A (v := .ref (ad (k + 2))) hx hb hts hown hK hw (xs_ok_W_air hK.1 hk) 0 (by decide) (va_Nw.use rfl (hK.2.2.2.1 _ hn_59 rfl)) rfl dd_W_goal_15 ?_
    refine lv_iload_n hx hb dd_W_goal_18 rfl (lv_at hl 1 rfl) ?_
    obtain ⟨u3, gu3, h⟩ := xs_ob h
    have ku3 := xs_okU hf (by decide) gu3
    refine xr_aald_F hx hb hK hw (xs_ok_A_underWay hK.1 (xs_ok_W_air hK.1 hk)) gu3 dd_W_goal_19 ?_
    refine xr_getN_F (v := .int (xs_gI S u3 2)) hx hb hts hown hK hw ku3 2 (by decide) (va_Nw.use rfl (hK.2.2.2.1 _ hn_49 rfl)) rfl dd_W_goal_20 ?_
    refine lv_goto hx hb dd_W_goal_23 rfl ?_
    exact hret h hw dd_W_goal_27
set_option maxHeartbeats 4000000 in
set_option maxRecDepth 100000 in
theorem xc_W_state (l : Launch) (D : va_G) (ad : Nat → Nat) (ca : Nat → ClassId) (ks : List Nat) (hf : ks = xs_all) (k : Nat) (n1 : Int32) (S : xs_T) (r : Int32) (hk : xs_is ks k xs_cW) (h : xf_W_state k n1 S = some r) (sz : Nat) : Met l yy_W_state ws_W_state { frames := 1, cells := 0, slots := 0, locals := 20 } (va_Pc [.ref (ad k), .int n1] (xs_Pre D ad ca ks S sz)) (va_Qi (fun r1 (_ : Unit) => r1 = r) (fun _ t => va_P D xs_cl (xs_w ad ca ks S) t.heap) (xs_A ad ks sz)) 0 0 (xs_A ad ks sz) := by
  refine xm_ir (by decide) (Nat.le_of_ble_eq_true rfl) ?_
  intro p e s m args below meth c R A Q ls hx hb hml hown hts hRf hRl hK hw hl hret
  have hl : lv_has ls 2 [(0, .ref (ad k)), (1, .int n1)] := hl
  unfold xf_W_state at h
  refine lv_iload_n hx hb dd_W_state_0 rfl (lv_at hl 1 rfl) ?_
  obtain ⟨q1, gq1, h⟩ := xs_ob h
  refine xq_i hK hw (va_runS (As := [.int n1]) (rest := []) ⟨hx, hb, hml, hown, hts⟩ (xc_W_isDevice l D ad ca ks n1 S q1 gq1 _) ⟨callB_of 1 hts (xs_good hw_366) rfl rfl rfl (hts _ hw_1) (hts _ hw_364) yd_W_isDevice ⟨Nat.le_trans (by decide) hRf, Nat.le_trans (by decide) hRl⟩, (hts _ hw_365)⟩ ⟨xs_blind, fun U h1 h2 => ⟨rfl, xs_pre hK hw h1 h2⟩⟩ rfl rfl hl.1 rfl (lv_room (Nat.le_of_ble_eq_true rfl)) dd_W_state_1 ⟨Nat.zero_le _, Nat.zero_le _⟩) (fun H locs hw => ?_)
  refine lv_if_ne hx hb dd_W_state_4 rfl (fun b2 => ?_) (fun b2 => ?_)
  · replace h := xs_n b2 h
    refine lv_aload_n hx hb dd_W_state_9 rfl (lv_at hl 0 rfl) ?_
    refine xr_get_W (v := .ref (ad (k + 44))) hx hb hts hown hK hw hk 1 (by decide) (hts _ hw_348) rfl dd_W_state_10 ?_
    refine lv_iload_n hx hb dd_W_state_13 rfl (lv_at hl 1 rfl) ?_
    obtain ⟨u3, gu3, h⟩ := xs_ob h
    have ku3 := xs_okU hf (by decide) gu3
    refine xr_aald_D hx hb hK hw (xs_ok_W_devices hK.1 hk) gu3 dd_W_state_14 ?_
    refine xr_getN_D (v := .int (xs_gI S u3 6)) hx hb hts hown hK hw ku3 6 (by decide) (va_Nw.use rfl (hK.2.2.2.1 _ hn_206 rfl)) rfl dd_W_state_15 ?_
    refine lv_aload_n hx hb dd_W_state_18 rfl (lv_at hl 0 rfl) ?_
    refine xr_get_W (v := .ref (ad (k + 44))) hx hb hts hown hK hw hk 1 (by decide) (hts _ hw_348) rfl dd_W_state_19 ?_
    refine lv_iload_n hx hb dd_W_state_22 rfl (lv_at hl 1 rfl) ?_
    obtain ⟨u4, gu4, h⟩ := xs_ob h
    have ku4 := xs_okU hf (by decide) gu4
    refine xr_aald_D hx hb hK hw (xs_ok_W_devices hK.1 hk) gu4 dd_W_state_23 ?_
    refine xr_getN_D (v := .int (xs_gI S u4 11)) hx hb hts hown hK hw ku4 11 (by decide) (va_Nw.use rfl (hK.2.2.2.1 _ hn_214 rfl)) rfl dd_W_state_24 ?_
    refine lv_if_eq hx hb dd_W_state_27 rfl (fun b5 => ?_) (fun b5 => ?_)
    · replace h := xs_p b5 h
      refine lv_iconst (v := 0) hx hb dd_W_state_35 rfl ?_
      refine lv_iadd hx hb dd_W_state_36 ?_
      exact hret h hw dd_W_state_37
    · replace h := xs_n b5 h
      refine lv_bipush (v := 10) hx hb dd_W_state_30 rfl ?_
      refine lv_goto hx hb dd_W_state_32 rfl ?_
      refine lv_iadd hx hb dd_W_state_36 ?_
      exact hret h hw dd_W_state_37
  · replace h := xs_p b2 h
    refine lv_iconst (v := (-1)) hx hb dd_W_state_7 rfl ?_
    exact hret h hw dd_W_state_8
set_option maxHeartbeats 4000000 in
set_option maxRecDepth 100000 in
theorem xc_W_inbox (l : Launch) (D : va_G) (ad : Nat → Nat) (ca : Nat → ClassId) (ks : List Nat) (hf : ks = xs_all) (k : Nat) (n1 : Int32) (n2 : Int32) (S : xs_T) (r : Nat) (hk : xs_is ks k xs_cW) (h : xf_W_inbox k n1 n2 S = some r) (sz : Nat) : Met l yy_W_inbox ws_W_inbox { frames := 0, cells := 0, slots := 0, locals := 0 } (va_Pc [.ref (ad k), .int n1, .int n2] (xs_Pre D ad ca ks S sz)) (va_Qr (fun _ : Unit => True) (fun _ a t => a = ad r ∧ va_P D xs_cl (xs_w ad ca ks S) t.heap) (xs_A ad ks sz)) 0 0 (xs_A ad ks sz) := by
  refine xm_ar (by decide) (Nat.le_of_ble_eq_true rfl) ⟨_, rfl⟩ ?_
  intro p e s m args below meth c R A Q ls hx hb hml hown hts hRf hRl hK hw hl hret
  have hl : lv_has ls 3 [(0, .ref (ad k)), (1, .int n1), (2, .int n2)] := hl
  unfold xf_W_inbox at h
  refine lv_iload_n hx hb dd_W_inbox_0 rfl (lv_at hl 2 rfl) ?_
  refine lv_if_eq hx hb dd_W_inbox_1 rfl (fun b1 => ?_) (fun b1 => ?_)
  · replace h := xs_p b1 h
    refine lv_aload_n hx hb dd_W_inbox_19 rfl (lv_at hl 0 rfl) ?_
    refine xr_get_W (v := .ref (ad (k + 44))) hx hb hts hown hK hw hk 1 (by decide) (hts _ hw_348) rfl dd_W_inbox_20 ?_
    refine lv_iload_n hx hb dd_W_inbox_23 rfl (lv_at hl 1 rfl) ?_
    obtain ⟨u2, gu2, h⟩ := xs_ob h
    have ku2 := xs_okU hf (by decide) gu2
    refine xr_aald_D hx hb hK hw (xs_ok_W_devices hK.1 hk) gu2 dd_W_inbox_24 ?_
    refine xr_getN_D (v := .ref (ad (u2 + 12))) hx hb hts hown hK hw ku2 3 (by decide) (va_Nw.use rfl (hK.2.2.2.1 _ hn_202 rfl)) rfl dd_W_inbox_25 ?_
    exact hret h hw dd_W_inbox_28
  · replace h := xs_n b1 h
    refine lv_aload_n hx hb dd_W_inbox_4 rfl (lv_at hl 0 rfl) ?_
    refine xr_get_W (v := .ref (ad (k + 119))) hx hb hts hown hK hw hk 2 (by decide) (hts _ hw_349) rfl dd_W_inbox_5 ?_
    refine xr_getN_V (v := .ref (ad (k + 120))) hx hb hts hown hK hw (xs_ok_W_server hK.1 hk) 0 (by decide) (va_Nw.use rfl (hK.2.2.2.1 _ hn_337 rfl)) rfl dd_W_inbox_8 ?_
    refine lv_iload_n hx hb dd_W_inbox_11 rfl (lv_at hl 1 rfl) ?_
    obtain ⟨u3, gu3, h⟩ := xs_ob h
    have ku3 := xs_okU hf (by decide) gu3
    refine xr_aald_K hx hb hK hw (xs_ok_V_accounts hK.1 (xs_ok_W_server hK.1 hk)) gu3 dd_W_inbox_12 ?_
    refine xr_getN_K (v := .ref (ad (u3 + 12))) hx hb hts hown hK hw ku3 3 (by decide) (va_Nw.use rfl (hK.2.2.2.1 _ hn_286 rfl)) rfl dd_W_inbox_13 ?_
    refine lv_goto hx hb dd_W_inbox_16 rfl ?_
    exact hret h hw dd_W_inbox_28
set_option maxHeartbeats 4000000 in
set_option maxRecDepth 100000 in
theorem xc_W_received (l : Launch) (D : va_G) (ad : Nat → Nat) (ca : Nat → ClassId) (ks : List Nat) (hf : ks = xs_all) (k : Nat) (n1 : Int32) (n2 : Int32) (S : xs_T) (r : Int32) (hk : xs_is ks k xs_cW) (h : xf_W_received k n1 n2 S = some r) (sz : Nat) : Met l yy_W_received ws_W_received { frames := 1, cells := 0, slots := 0, locals := 22 } (va_Pc [.ref (ad k), .int n1, .int n2] (xs_Pre D ad ca ks S sz)) (va_Qi (fun r1 (_ : Unit) => r1 = r) (fun _ t => va_P D xs_cl (xs_w ad ca ks S) t.heap) (xs_A ad ks sz)) 0 0 (xs_A ad ks sz) := by
  refine xm_ir (by decide) (Nat.le_of_ble_eq_true rfl) ?_
  intro p e s m args below meth c R A Q ls hx hb hml hown hts hRf hRl hK hw hl hret
  have hl : lv_has ls 3 [(0, .ref (ad k)), (1, .int n1), (2, .int n2)] := hl
  unfold xf_W_received at h
  refine lv_iload_n hx hb dd_W_received_0 rfl (lv_at hl 1 rfl) ?_
  obtain ⟨q1, gq1, h⟩ := xs_ob h
  refine xq_i hK hw (va_runS (As := [.int n1]) (rest := []) ⟨hx, hb, hml, hown, hts⟩ (xc_W_isDevice l D ad ca ks n1 S q1 gq1 _) ⟨callB_of 1 hts (xs_good hw_366) rfl rfl rfl (hts _ hw_1) (hts _ hw_364) yd_W_isDevice ⟨Nat.le_trans (by decide) hRf, Nat.le_trans (by decide) hRl⟩, (hts _ hw_365)⟩ ⟨xs_blind, fun U h1 h2 => ⟨rfl, xs_pre hK hw h1 h2⟩⟩ rfl rfl hl.1 rfl (lv_room (Nat.le_of_ble_eq_true rfl)) dd_W_received_1 ⟨Nat.zero_le _, Nat.zero_le _⟩) (fun H locs hw => ?_)
  refine lv_if_eq hx hb dd_W_received_4 rfl (fun b2 => ?_) (fun b2 => ?_)
  · replace h := xs_p b2 h
    refine lv_iconst (v := (-1)) hx hb dd_W_received_19 rfl ?_
    exact hret h hw dd_W_received_20
  · replace h := xs_n b2 h
    refine lv_aload_n hx hb dd_W_received_7 rfl (lv_at hl 0 rfl) ?_
    refine lv_iload_n hx hb dd_W_received_8 rfl (lv_at hl 1 rfl) ?_
    refine lv_iload_n hx hb dd_W_received_9 rfl (lv_at hl 2 rfl) ?_
    obtain ⟨q3, gq3, h⟩ := xs_ob h
    refine xq_a hK hw (va_runV (As := [.int n1, .int n2]) (rest := []) ⟨hx, hb, hml, hown, hts⟩ (xc_W_inbox l D ad ca ks hf k n1 n2 S q3 hk gq3 _) ⟨callB_of 2 hts (xs_good hw_706) rfl rfl rfl (hts _ hw_1) (hts _ hw_703) yd_W_inbox ⟨Nat.le_trans (by decide) hRf, Nat.le_trans (by decide) hRl⟩, (hts _ hw_705), (hts _ hs_9)⟩ ⟨xs_blind, xs_recv_W hK hw hk, fun U h1 h2 => ⟨rfl, xs_pre hK hw h1 h2⟩⟩ rfl rfl hl.1 rfl (lv_room (Nat.le_of_ble_eq_true rfl)) dd_W_received_10 ⟨Nat.zero_le _, Nat.zero_le _⟩) (fun H locs hw => ?_)
    obtain ⟨u4, gu4, h⟩ := xs_ob h
    have ku4 := xs_okC hf (by decide) gu4
    refine lv_namR gu4 ?_
    refine xr_getN_I (v := .int (xs_gI S u4 1)) hx hb hts hown hK hw ku4 1 (by decide) (va_Nw.use rfl (hK.2.2.2.1 _ hn_189 rfl)) rfl dd_W_received_13 ?_
    refine lv_goto hx hb dd_W_received_16 rfl ?_
    exact hret h hw dd_W_received_20
set_option maxHeartbeats 4000000 in
set_option maxRecDepth 100000 in
theorem xc_I_get (l : Launch) (D : va_G) (ad : Nat → Nat) (ca : Nat → ClassId) (ks : List Nat) (k : Nat) (n1 : Int32) (S : xs_T) (r : Int64) (hk : xs_is ks k xs_cI) (h : xf_I_get k n1 S = some r) (sz : Nat) : Met l yy_I_get ws_I_get { frames := 0, cells := 0, slots := 0, locals := 0 } (va_Pc [.ref (ad k), .int n1] (xs_Pre D ad ca ks S sz)) (va_Ql (fun r1 (_ : Unit) => r1 = r) (fun _ t => va_P D xs_cl (xs_w ad ca ks S) t.heap) (xs_A ad ks sz)) 0 0 (xs_A ad ks sz) := by
  refine xm_lr (by decide) (Nat.le_of_ble_eq_true rfl) ?_
  intro p e s m args below meth c R A Q ls hx hb hml hown hts hRf hRl hK hw hl hret
  have hl : lv_has ls 2 [(0, .ref (ad k)), (1, .int n1)] := hl
  unfold xf_I_get at h
  refine lv_iload_n hx hb dd_I_get_0 rfl (lv_at hl 1 rfl) ?_
  refine lv_if_lt hx hb dd_I_get_1 rfl (fun b1 => ?_) (fun b1 => ?_)
  · replace h := xs_p b1 h
    refine lv_ldc2 (v := (-1)) hx hb hown (hts _ hw_715) dd_I_get_33 ?_
    exact hret h hw dd_I_get_36
  · replace h := xs_n b1 h
    refine lv_iload_n hx hb dd_I_get_4 rfl (lv_at hl 1 rfl) ?_
    refine lv_aload_n hx hb dd_I_get_5 rfl (lv_at hl 0 rfl) ?_
    refine xr_get_I (v := .int (xs_gI S k 1)) hx hb hts hown hK hw hk 1 (by decide) (hts _ hw_188) rfl dd_I_get_6 ?_
    refine lv_icmp_ge hx hb dd_I_get_9 rfl (fun b2 => ?_) (fun b2 => ?_)
    · replace h := xs_p b2 h
      refine lv_ldc2 (v := (-1)) hx hb hown (hts _ hw_715) dd_I_get_33 ?_
      exact hret h hw dd_I_get_36
    · replace h := xs_n b2 h
      refine lv_iload_n hx hb dd_I_get_12 rfl (lv_at hl 1 rfl) ?_
      refine lv_aload_n hx hb dd_I_get_13 rfl (lv_at hl 0 rfl) ?_
      refine xr_get_I (v := .int (xs_gI S k 1)) hx hb hts hown hK hw hk 1 (by decide) (hts _ hw_188) rfl dd_I_get_14 ?_
      refine lv_iconst (v := 4) hx hb dd_I_get_17 rfl ?_
      refine lv_isub hx hb dd_I_get_18 ?_
      refine lv_icmp_lt hx hb dd_I_get_19 rfl (fun b3 => ?_) (fun b3 => ?_)
      · replace h := xs_p b3 h
        refine lv_ldc2 (v := (-1)) hx hb hown (hts _ hw_715) dd_I_get_33 ?_
        exact hret h hw dd_I_get_36
      · replace h := xs_n b3 h
        refine lv_aload_n hx hb dd_I_get_22 rfl (lv_at hl 0 rfl) ?_
        refine xr_get_I (v := .ref (ad (k + 1))) hx hb hts hown hK hw hk 0 (by decide) (hts _ hw_187) rfl dd_I_get_23 ?_
        refine lv_iload_n hx hb dd_I_get_26 rfl (lv_at hl 1 rfl) ?_
        refine lv_iconst (v := 4) hx hb dd_I_get_27 rfl ?_
        refine lv_irem hx hb dd_I_get_28 (by decide) ?_
        refine lv_asI (v := xs_rem n1 4) rfl ?_
        obtain ⟨v4, gv4, h⟩ := xs_ob h
        refine xr_lald hx hb hK hw (xs_ok_I_latest hK.1 hk) gv4 dd_I_get_29 ?_
        refine lv_goto hx hb dd_I_get_30 rfl ?_
        exact hret h hw dd_I_get_36
set_option maxHeartbeats 4000000 in
set_option maxRecDepth 100000 in
theorem xc_W_payload (l : Launch) (D : va_G) (ad : Nat → Nat) (ca : Nat → ClassId) (ks : List Nat) (hf : ks = xs_all) (k : Nat) (n1 : Int32) (n2 : Int32) (n3 : Int32) (S : xs_T) (r : Int64) (hk : xs_is ks k xs_cW) (h : xf_W_payload k n1 n2 n3 S = some r) (sz : Nat) : Met l yy_W_payload ws_W_payload { frames := 1, cells := 0, slots := 0, locals := 22 } (va_Pc [.ref (ad k), .int n1, .int n2, .int n3] (xs_Pre D ad ca ks S sz)) (va_Ql (fun r1 (_ : Unit) => r1 = r) (fun _ t => va_P D xs_cl (xs_w ad ca ks S) t.heap) (xs_A ad ks sz)) 0 0 (xs_A ad ks sz) := by
  refine xm_lr (by decide) (Nat.le_of_ble_eq_true rfl) ?_
  intro p e s m args below meth c R A Q ls hx hb hml hown hts hRf hRl hK hw hl hret
  have hl : lv_has ls 4 [(0, .ref (ad k)), (1, .int n1), (2, .int n2), (3, .int n3)] := hl
  unfold xf_W_payload at h
  refine lv_iload_n hx hb dd_W_payload_0 rfl (lv_at hl 1 rfl) ?_
  obtain ⟨q1, gq1, h⟩ := xs_ob h
  refine xq_i hK hw (va_runS (As := [.int n1]) (rest := []) ⟨hx, hb, hml, hown, hts⟩ (xc_W_isDevice l D ad ca ks n1 S q1 gq1 _) ⟨callB_of 1 hts (xs_good hw_366) rfl rfl rfl (hts _ hw_1) (hts _ hw_364) yd_W_isDevice ⟨Nat.le_trans (by decide) hRf, Nat.le_trans (by decide) hRl⟩, (hts _ hw_365)⟩ ⟨xs_blind, fun U h1 h2 => ⟨rfl, xs_pre hK hw h1 h2⟩⟩ rfl rfl hl.1 rfl (lv_room (Nat.le_of_ble_eq_true rfl)) dd_W_payload_1 ⟨Nat.zero_le _, Nat.zero_le _⟩) (fun H locs hw => ?_)
  refine lv_if_eq hx hb dd_W_payload_4 rfl (fun b2 => ?_) (fun b2 => ?_)
  · replace h := xs_p b2 h
    refine lv_ldc2 (v := (-1)) hx hb hown (hts _ hw_607) dd_W_payload_20 ?_
    exact hret h hw dd_W_payload_23
  · replace h := xs_n b2 h
    refine lv_aload_n hx hb dd_W_payload_7 rfl (lv_at hl 0 rfl) ?_
    refine lv_iload_n hx hb dd_W_payload_8 rfl (lv_at hl 1 rfl) ?_
    refine lv_iload_n hx hb dd_W_payload_9 rfl (lv_at hl 2 rfl) ?_
    obtain ⟨q3, gq3, h⟩ := xs_ob h
    refine xq_a hK hw (va_runV (As := [.int n1, .int n2]) (rest := []) ⟨hx, hb, hml, hown, hts⟩ (xc_W_inbox l D ad ca ks hf k n1 n2 S q3 hk gq3 _) ⟨callB_of 2 hts (xs_good hw_706) rfl rfl rfl (hts _ hw_1) (hts _ hw_703) yd_W_inbox ⟨Nat.le_trans (by decide) hRf, Nat.le_trans (by decide) hRl⟩, (hts _ hw_705), (hts _ hs_9)⟩ ⟨xs_blind, xs_recv_W hK hw hk, fun U h1 h2 => ⟨rfl, xs_pre hK hw h1 h2⟩⟩ rfl rfl hl.1 rfl (lv_room (Nat.le_of_ble_eq_true rfl)) dd_W_payload_10 ⟨Nat.zero_le _, Nat.zero_le _⟩) (fun H locs hw => ?_)
    obtain ⟨u4, gu4, h⟩ := xs_ob h
    have ku4 := xs_okC hf (by decide) gu4
    refine lv_namR gu4 ?_
    refine lv_iload_n hx hb dd_W_payload_13 rfl (lv_at hl 3 rfl) ?_
    obtain ⟨q5, gq5, h⟩ := xs_ob h
    refine xq_l hK hw (va_runV (As := [.int n3]) (rest := []) ⟨hx, hb, hml, hown, hts⟩ (xc_I_get l D ad ca ks u4 n3 S q5 ku4 gq5 _) ⟨callB_of 1 hts (xs_good hw_714) rfl rfl rfl (hts _ hw_10) (hts _ hw_711) yd_I_get ⟨Nat.le_trans (by decide) hRf, Nat.le_trans (by decide) hRl⟩, (hts _ hw_712), (hts _ hw_713)⟩ ⟨xs_blind, xs_recv_I hK hw ku4, fun U h1 h2 => ⟨rfl, xs_pre hK hw h1 h2⟩⟩ rfl rfl hl.1 rfl (lv_room (Nat.le_of_ble_eq_true rfl)) dd_W_payload_14 ⟨Nat.zero_le _, Nat.zero_le _⟩) (fun H locs hw => ?_)
    refine lv_goto hx hb dd_W_payload_17 rfl ?_
    exact hret h hw dd_W_payload_23
set_option maxHeartbeats 4000000 in
set_option maxRecDepth 100000 in
theorem xc_W_tally (l : Launch) (D : va_G) (ad : Nat → Nat) (ca : Nat → ClassId) (ks : List Nat) (hf : ks = xs_all) (k : Nat) (n1 : Int32) (n2 : Int32) (S : xs_T) (r : Int32) (hk : xs_is ks k xs_cW) (h : xf_W_tally k n1 n2 S = some r) (sz : Nat) : Met l yy_W_tally ws_W_tally { frames := 1, cells := 0, slots := 0, locals := 20 } (va_Pc [.ref (ad k), .int n1, .int n2] (xs_Pre D ad ca ks S sz)) (va_Qi (fun r1 (_ : Unit) => r1 = r) (fun _ t => va_P D xs_cl (xs_w ad ca ks S) t.heap) (xs_A ad ks sz)) 0 0 (xs_A ad ks sz) := by
  refine xm_ir (by decide) (Nat.le_of_ble_eq_true rfl) ?_
  intro p e s m args below meth c R A Q ls hx hb hml hown hts hRf hRl hK hw hl hret
  have hl : lv_has ls 3 [(0, .ref (ad k)), (1, .int n1), (2, .int n2)] := hl
  unfold xf_W_tally at h
  refine lv_iload_n hx hb dd_W_tally_0 rfl (lv_at hl 1 rfl) ?_
  obtain ⟨q1, gq1, h⟩ := xs_ob h
  refine xq_i hK hw (va_runS (As := [.int n1]) (rest := []) ⟨hx, hb, hml, hown, hts⟩ (xc_W_isDevice l D ad ca ks n1 S q1 gq1 _) ⟨callB_of 1 hts (xs_good hw_366) rfl rfl rfl (hts _ hw_1) (hts _ hw_364) yd_W_isDevice ⟨Nat.le_trans (by decide) hRf, Nat.le_trans (by decide) hRl⟩, (hts _ hw_365)⟩ ⟨xs_blind, fun U h1 h2 => ⟨rfl, xs_pre hK hw h1 h2⟩⟩ rfl rfl hl.1 rfl (lv_room (Nat.le_of_ble_eq_true rfl)) dd_W_tally_1 ⟨Nat.zero_le _, Nat.zero_le _⟩) (fun H locs hw => ?_)
  refine lv_if_ne hx hb dd_W_tally_4 rfl (fun b2 => ?_) (fun b2 => ?_)
  · replace h := xs_n b2 h
    refine lv_iload_n hx hb dd_W_tally_9 rfl (lv_at hl 2 rfl) ?_
    by_cases b3 : n2 = 0
    · replace h := xs_p b3 h
      refine lv_tableIn hx hb dd_W_tally_10 (by rw [b3]; decide) (by rw [b3]; decide) (by rw [b3]; rfl) rfl ?_
      refine lv_aload_n hx hb dd_W_tally_40 rfl (lv_at hl 0 rfl) ?_
      refine xr_get_W (v := .ref (ad (k + 44))) hx hb hts hown hK hw hk 1 (by decide) (hts _ hw_348) rfl dd_W_tally_41 ?_
      refine lv_iload_n hx hb dd_W_tally_44 rfl (lv_at hl 1 rfl) ?_
      obtain ⟨u4, gu4, h⟩ := xs_ob h
      have ku4 := xs_okU hf (by decide) gu4
      refine xr_aald_D hx hb hK hw (xs_ok_W_devices hK.1 hk) gu4 dd_W_tally_45 ?_
      refine xr_getN_D (v := .int (xs_gI S u4 15)) hx hb hts hown hK hw ku4 15 (by decide) (va_Nw.use rfl (hK.2.2.2.1 _ hn_219 rfl)) rfl dd_W_tally_46 ?_
      exact hret h hw dd_W_tally_49
    · replace h := xs_n b3 h
      by_cases b5 : n2 = 1
      · replace h := xs_p b5 h
        refine lv_tableIn hx hb dd_W_tally_10 (by rw [b5]; decide) (by rw [b5]; decide) (by rw [b5]; rfl) rfl ?_
        refine lv_aload_n hx hb dd_W_tally_50 rfl (lv_at hl 0 rfl) ?_
        refine xr_get_W (v := .ref (ad (k + 44))) hx hb hts hown hK hw hk 1 (by decide) (hts _ hw_348) rfl dd_W_tally_51 ?_
        refine lv_iload_n hx hb dd_W_tally_54 rfl (lv_at hl 1 rfl) ?_
        obtain ⟨u6, gu6, h⟩ := xs_ob h
        have ku6 := xs_okU hf (by decide) gu6
        refine xr_aald_D hx hb hK hw (xs_ok_W_devices hK.1 hk) gu6 dd_W_tally_55 ?_
        refine xr_getN_D (v := .int (xs_gI S u6 16)) hx hb hts hown hK hw ku6 16 (by decide) (va_Nw.use rfl (hK.2.2.2.1 _ hn_221 rfl)) rfl dd_W_tally_56 ?_
        exact hret h hw dd_W_tally_59
      · replace h := xs_n b5 h
        by_cases b7 : n2 = 2
        · replace h := xs_p b7 h
          refine lv_tableIn hx hb dd_W_tally_10 (by rw [b7]; decide) (by rw [b7]; decide) (by rw [b7]; rfl) rfl ?_
          refine lv_aload_n hx hb dd_W_tally_60 rfl (lv_at hl 0 rfl) ?_
          refine xr_get_W (v := .ref (ad (k + 44))) hx hb hts hown hK hw hk 1 (by decide) (hts _ hw_348) rfl dd_W_tally_61 ?_
          refine lv_iload_n hx hb dd_W_tally_64 rfl (lv_at hl 1 rfl) ?_
          obtain ⟨u8, gu8, h⟩ := xs_ob h
          have ku8 := xs_okU hf (by decide) gu8
          refine xr_aald_D hx hb hK hw (xs_ok_W_devices hK.1 hk) gu8 dd_W_tally_65 ?_
          refine xr_getN_D (v := .int (xs_gI S u8 17)) hx hb hts hown hK hw ku8 17 (by decide) (va_Nw.use rfl (hK.2.2.2.1 _ hn_223 rfl)) rfl dd_W_tally_66 ?_
          exact hret h hw dd_W_tally_69
        · replace h := xs_n b7 h
          by_cases b9 : n2 = 3
          · replace h := xs_p b9 h
            refine lv_tableIn hx hb dd_W_tally_10 (by rw [b9]; decide) (by rw [b9]; decide) (by rw [b9]; rfl) rfl ?_
            refine lv_aload_n hx hb dd_W_tally_70 rfl (lv_at hl 0 rfl) ?_
            refine xr_get_W (v := .ref (ad (k + 119))) hx hb hts hown hK hw hk 2 (by decide) (hts _ hw_349) rfl dd_W_tally_71 ?_
            refine xr_getN_V (v := .ref (ad (k + 120))) hx hb hts hown hK hw (xs_ok_W_server hK.1 hk) 0 (by decide) (va_Nw.use rfl (hK.2.2.2.1 _ hn_337 rfl)) rfl dd_W_tally_74 ?_
            refine lv_iload_n hx hb dd_W_tally_77 rfl (lv_at hl 1 rfl) ?_
            obtain ⟨u10, gu10, h⟩ := xs_ob h
            have ku10 := xs_okU hf (by decide) gu10
            refine xr_aald_K hx hb hK hw (xs_ok_V_accounts hK.1 (xs_ok_W_server hK.1 hk)) gu10 dd_W_tally_78 ?_
            refine xr_getN_K (v := .int (xs_gI S u10 7)) hx hb hts hown hK hw ku10 7 (by decide) (va_Nw.use rfl (hK.2.2.2.1 _ hn_292 rfl)) rfl dd_W_tally_79 ?_
            exact hret h hw dd_W_tally_82
          · replace h := xs_n b9 h
            refine lv_tableOut hx hb dd_W_tally_10 (xs_out4 b3 b5 b7 b9) rfl ?_
            refine lv_iconst (v := (-1)) hx hb dd_W_tally_83 rfl ?_
            exact hret h hw dd_W_tally_84
  · replace h := xs_p b2 h
    refine lv_iconst (v := (-1)) hx hb dd_W_tally_7 rfl ?_
    exact hret h hw dd_W_tally_8
set_option maxHeartbeats 4000000 in
set_option maxRecDepth 100000 in
theorem xc_R_twice (l : Launch) (D : va_G) (ad : Nat → Nat) (ca : Nat → ClassId) (ks : List Nat) (n0 : Int32) (S : xs_T) (r : Int32) (h : xf_R_twice n0 = some r) (sz : Nat) : Met l yy_R_twice ws_R_twice { frames := 0, cells := 0, slots := 0, locals := 0 } (va_Pc [.int n0] (xs_Pre D ad ca ks S sz)) (va_Qi (fun r1 (_ : Unit) => r1 = r) (fun _ t => va_P D xs_cl (xs_w ad ca ks S) t.heap) (xs_A ad ks sz)) 0 0 (xs_A ad ks sz) := by
  refine xm_ir (by decide) (Nat.le_of_ble_eq_true rfl) ?_
  intro p e s m args below meth c R A Q ls hx hb hml hown hts hRf hRl hK hw hl hret
  have hl : lv_has ls 1 [(0, .int n0)] := hl
  unfold xf_R_twice at h
  refine lv_iload_n hx hb dd_R_twice_0 rfl (lv_at hl 0 rfl) ?_
  refine lv_sipush (v := 128) hx hb dd_R_twice_1 rfl ?_
  refine lv_icmp_ge hx hb dd_R_twice_4 rfl (fun b1 => ?_) (fun b1 => ?_)
  · replace h := xs_p b1 h
    refine lv_iconst (v := 2) hx hb dd_R_twice_13 rfl ?_
    refine lv_iload_n hx hb dd_R_twice_14 rfl (lv_at hl 0 rfl) ?_
    refine lv_imul hx hb dd_R_twice_15 ?_
    refine lv_sipush (v := 283) hx hb dd_R_twice_16 rfl ?_
    refine lv_ixor hx hb dd_R_twice_19 ?_
    exact hret h hw dd_R_twice_20
  · replace h := xs_n b1 h
    refine lv_iconst (v := 2) hx hb dd_R_twice_7 rfl ?_
    refine lv_iload_n hx hb dd_R_twice_8 rfl (lv_at hl 0 rfl) ?_
    refine lv_imul hx hb dd_R_twice_9 ?_
    refine lv_goto hx hb dd_R_twice_10 rfl ?_
    exact hret h hw dd_R_twice_20
set_option maxHeartbeats 4000000 in
set_option maxRecDepth 100000 in
theorem xc_R_times (l : Launch) (D : va_G) (ad : Nat → Nat) (ca : Nat → ClassId) (ks : List Nat) (n0 : Int32) (n1 : Int32) (S : xs_T) (r : Int32) (h : xf_R_times n0 n1 = some r) (sz : Nat) : Met l yy_R_times ws_R_times { frames := 1, cells := 0, slots := 0, locals := 20 } (va_Pc [.int n0, .int n1] (xs_Pre D ad ca ks S sz)) (va_Qi (fun r1 (_ : Unit) => r1 = r) (fun _ t => va_P D xs_cl (xs_w ad ca ks S) t.heap) (xs_A ad ks sz)) 0 0 (xs_A ad ks sz) := by
  refine xm_ir (by decide) (Nat.le_of_ble_eq_true rfl) ?_
  intro p e s m args below meth c R A Q ls hx hb hml hown hts hRf hRl hK hw hl hret
  have hl : lv_has ls 5 [(0, .int n0), (1, .int n1)] := hl
  have w_27 : ∀ (c7 : Int32 → Int32 → Int32 → Option (Int32)) (y7 : ∀ (i2 : Int32) (i3 : Int32) (i4 : Int32) (H : Heap) (locs : List Loc) (ls : Array Slot), xs_I D ad ca ks A s S H locs → lv_has ls 5 [(2, .int i2), (3, .int i3), (4, .int i4)] → c7 i2 i3 i4 = some r → W p l e R s m args below meth c H locs 0 0 Q (F0 m 7 ls [])), ∀ (i3 : Int32) (i4 : Int32) (t0 : Int32) (H : Heap) (locs : List Loc) (ls : Array Slot), xs_I D ad ca ks A s S H locs → lv_has ls 5 [(3, .int i3), (4, .int i4)] → xf_R_times_27 n0 n1 c7 i3 i4 t0 = some r → W p l e R s m args below meth c H locs 0 0 Q (F0 m 27 ls [.int t0]) := by
    intro c7 y7 i3 i4 t0 H locs ls hw hl h
    unfold xf_R_times_27 at h
    refine lv_istore_n hx hb dd_R_times_27 rfl hl (by decide) rfl (fun ls hl => ?_)
    have hl : lv_has ls 5 [(2, .int t0), (3, .int i3), (4, .int i4)] := hl
    refine lv_iload_n hx hb dd_R_times_28 rfl (lv_at hl 1 rfl) ?_
    obtain ⟨q3, gq3, h⟩ := xs_ob h
    refine xq_i hK hw (va_runS (As := [.int i3]) (rest := []) ⟨hx, hb, hml, hown, hts⟩ (xc_R_twice l D ad ca ks i3 S q3 gq3 _) ⟨callB_of 1 hts (xs_good hw_738) rfl rfl rfl (hts _ hw_13) (hts _ hw_736) yd_R_twice ⟨Nat.le_trans (by decide) hRf, Nat.le_trans (by decide) hRl⟩, (hts _ hw_737)⟩ ⟨xs_blind, fun U h1 h2 => ⟨rfl, xs_pre hK hw h1 h2⟩⟩ rfl rfl hl.1 rfl (lv_room (Nat.le_of_ble_eq_true rfl)) dd_R_times_29 ⟨Nat.zero_le _, Nat.zero_le _⟩) (fun H locs hw => ?_)
    refine lv_istore_n hx hb dd_R_times_32 rfl hl (by decide) rfl (fun ls hl => ?_)
    have hl : lv_has ls 5 [(3, .int q3), (2, .int t0), (4, .int i4)] := hl
    refine lv_iload hx hb dd_R_times_33 (lv_at hl 2 rfl) ?_
    refine lv_iconst (v := 1) hx hb dd_R_times_35 rfl ?_
    refine lv_ishr hx hb dd_R_times_36 ?_
    obtain ⟨v4, gv4, h⟩ := xs_ob h
    refine lv_namI gv4 ?_
    refine lv_istore hx hb dd_R_times_37 hl (by decide) rfl (fun ls hl => ?_)
    have hl : lv_has ls 5 [(4, .int v4), (3, .int q3), (2, .int t0)] := hl
    refine lv_goto hx hb dd_R_times_39 rfl ?_
    exact y7 t0 q3 v4 _ _ _ hw (lv_sub hl [2, 1, 0] rfl) h
  have w_7 : ∀ (f : Nat), ∀ (i2 : Int32) (i3 : Int32) (i4 : Int32) (H : Heap) (locs : List Loc) (ls : Array Slot), xs_I D ad ca ks A s S H locs → lv_has ls 5 [(2, .int i2), (3, .int i3), (4, .int i4)] → xf_R_times_7 n0 n1 f i2 i3 i4 = some r → W p l e R s m args below meth c H locs 0 0 Q (F0 m 7 ls []) := by
    intro f
    induction f with
    | zero => intro i2 i3 i4 H locs ls hw hl h; exact absurd h (by simp [xf_R_times_7])
    | succ f ih =>
      intro i2 i3 i4 H locs ls hw hl h
      rw [xf_R_times_7] at h
      refine lv_iload hx hb dd_R_times_7 (lv_at hl 2 rfl) ?_
      refine lv_if_le hx hb dd_R_times_9 rfl (fun b1 => ?_) (fun b1 => ?_)
      · replace h := xs_p b1 h
        refine lv_iload_n hx hb dd_R_times_42 rfl (lv_at hl 0 rfl) ?_
        exact hret h hw dd_R_times_43
      · replace h := xs_n b1 h
        refine lv_iload hx hb dd_R_times_12 (lv_at hl 2 rfl) ?_
        refine lv_iconst (v := 1) hx hb dd_R_times_14 rfl ?_
        refine lv_iand hx hb dd_R_times_15 ?_
        refine lv_iconst (v := 1) hx hb dd_R_times_16 rfl ?_
        refine lv_icmp_ne hx hb dd_R_times_17 rfl (fun b2 => ?_) (fun b2 => ?_)
        · replace h := xs_n b2 h
          refine lv_iload_n hx hb dd_R_times_26 rfl (lv_at hl 0 rfl) ?_
          exact w_27 (xf_R_times_7 n0 n1 f) ih i3 i4 i2 _ _ _ hw (lv_sub hl [1, 2] rfl) h
        · replace h := xs_p b2 h
          refine lv_iload_n hx hb dd_R_times_20 rfl (lv_at hl 0 rfl) ?_
          refine lv_iload_n hx hb dd_R_times_21 rfl (lv_at hl 1 rfl) ?_
          refine lv_ixor hx hb dd_R_times_22 ?_
          refine lv_goto hx hb dd_R_times_23 rfl ?_
          exact w_27 (xf_R_times_7 n0 n1 f) ih i3 i4 (i2 ^^^ i3) _ _ _ hw (lv_sub hl [1, 2] rfl) h
  unfold xf_R_times at h
  refine lv_iconst (v := 0) hx hb dd_R_times_0 rfl ?_
  refine lv_istore_n hx hb dd_R_times_1 rfl hl (by decide) rfl (fun ls hl => ?_)
  have hl : lv_has ls 5 [(2, .int 0), (0, .int n0), (1, .int n1)] := hl
  refine lv_iload_n hx hb dd_R_times_2 rfl (lv_at hl 1 rfl) ?_
  refine lv_istore_n hx hb dd_R_times_3 rfl hl (by decide) rfl (fun ls hl => ?_)
  have hl : lv_has ls 5 [(3, .int n0), (2, .int 0), (0, .int n0), (1, .int n1)] := hl
  refine lv_iload_n hx hb dd_R_times_4 rfl (lv_at hl 3 rfl) ?_
  refine lv_istore hx hb dd_R_times_5 hl (by decide) rfl (fun ls hl => ?_)
  have hl : lv_has ls 5 [(4, .int n1), (3, .int n0), (2, .int 0), (0, .int n0), (1, .int n1)] := hl
  exact w_7 xs_fuel 0 n0 n1 _ _ _ hw (lv_sub hl [2, 1, 0] rfl) h
set_option maxHeartbeats 4000000 in
set_option maxRecDepth 100000 in
theorem xc_R_enter (l : Launch) (D : va_G) (ad : Nat → Nat) (ca : Nat → ClassId) (ks : List Nat) (k : Nat) (n1 : Int32) (n2 : Int32) (S : xs_T) (T : xs_T) (hk : xs_is ks k xs_cR) (h : xf_R_enter k n1 n2 S = some T) (sz : Nat) : Met l yy_R_enter ws_R_enter { frames := 0, cells := 0, slots := 0, locals := 0 } (va_Pc [.ref (ad k), .int n1, .int n2] (xs_Pre D ad ca ks S sz)) (va_Qv (fun _ : Unit => True) (fun _ t => va_P D xs_cl (xs_w ad ca ks T) t.heap) (xs_A ad ks sz)) 0 0 (xs_A ad ks sz) := by
  refine xm_v (by decide) (Nat.le_of_ble_eq_true rfl) ?_
  intro p e s m args below meth c R A Q ls hx hb hml hown hts hRf hRl hK hw hl hret
  have hl : lv_has ls 5 [(0, .ref (ad k)), (1, .int n1), (2, .int n2)] := hl
  have w_6 : ∀ (f : Nat), ∀ (i3 : Int32) (i4 : Int32) (S : xs_T) (H : Heap) (locs : List Loc) (ls : Array Slot), xs_I D ad ca ks A s S H locs → lv_has ls 5 [(0, .ref (ad k)), (1, .int n1), (2, .int n2), (3, .int i3), (4, .int i4)] → xf_R_enter_6 k n1 n2 f i3 i4 S = some T → W p l e R s m args below meth c H locs 0 0 Q (F0 m 6 ls []) := by
    intro f
    induction f with
    | zero => intro i3 i4 S H locs ls hw hl h; exact absurd h (by simp [xf_R_enter_6])
    | succ f ih =>
      intro i3 i4 S H locs ls hw hl h
      rw [xf_R_enter_6] at h
      refine lv_iload hx hb dd_R_enter_6 (lv_at hl 4 rfl) ?_
      refine lv_iconst (v := 5) hx hb dd_R_enter_8 rfl ?_
      refine lv_icmp_ge hx hb dd_R_enter_9 rfl (fun b1 => ?_) (fun b1 => ?_)
      · replace h := xs_p b1 h
        refine lv_aload_n hx hb dd_R_enter_37 rfl (lv_at hl 0 rfl) ?_
        refine xr_get_R (v := .ref (ad (k + 1))) hx hb hts hown hK hw hk 0 (by decide) (hts _ hw_743) rfl dd_R_enter_38 ?_
        refine lv_iload_n hx hb dd_R_enter_41 rfl (lv_at hl 1 rfl) ?_
        refine lv_iload_n hx hb dd_R_enter_42 rfl (lv_at hl 3 rfl) ?_
        obtain ⟨S2, gS2, h⟩ := xs_ob h
        refine xr_iast hx hb hK hw (xs_ok_R_box hK.1 hk) gS2 dd_R_enter_43 (fun H locs hw => ?_)
        refine lv_aload_n hx hb dd_R_enter_44 rfl (lv_at hl 0 rfl) ?_
        refine xr_get_R (v := .ref (ad (k + 2))) hx hb hts hown hK hw hk 1 (by decide) (hts _ hw_744) rfl dd_R_enter_45 ?_
        refine lv_iload_n hx hb dd_R_enter_48 rfl (lv_at hl 3 rfl) ?_
        refine lv_iload_n hx hb dd_R_enter_49 rfl (lv_at hl 1 rfl) ?_
        obtain ⟨S3, gS3, h⟩ := xs_ob h
        refine xr_iast hx hb hK hw (xs_ok_R_unbox hK.1 hk) gS3 dd_R_enter_50 (fun H locs hw => ?_)
        exact hret h hw dd_R_enter_51
      · replace h := xs_n b1 h
        refine lv_iload_n hx hb dd_R_enter_12 rfl (lv_at hl 3 rfl) ?_
        refine lv_iload_n hx hb dd_R_enter_13 rfl (lv_at hl 2 rfl) ?_
        refine lv_iload hx hb dd_R_enter_14 (lv_at hl 4 rfl) ?_
        refine lv_ishl hx hb dd_R_enter_16 ?_
        refine lv_iload_n hx hb dd_R_enter_17 rfl (lv_at hl 2 rfl) ?_
        refine lv_bipush (v := 8) hx hb dd_R_enter_18 rfl ?_
        refine lv_iload hx hb dd_R_enter_20 (lv_at hl 4 rfl) ?_
        refine lv_isub hx hb dd_R_enter_22 ?_
        refine lv_ishr hx hb dd_R_enter_23 ?_
        refine lv_ior hx hb dd_R_enter_24 ?_
        refine lv_sipush (v := 255) hx hb dd_R_enter_25 rfl ?_
        refine lv_iand hx hb dd_R_enter_28 ?_
        refine lv_ixor hx hb dd_R_enter_29 ?_
        obtain ⟨v4, gv4, h⟩ := xs_ob h
        refine lv_namI gv4 ?_
        refine lv_istore_n hx hb dd_R_enter_30 rfl hl (by decide) rfl (fun ls hl => ?_)
        have hl : lv_has ls 5 [(3, .int v4), (0, .ref (ad k)), (1, .int n1), (2, .int n2), (4, .int i4)] := hl
        refine lv_iinc (k := 4) (v := i4 + 1) hx hb dd_R_enter_31 hl rfl rfl (by decide) rfl (fun ls hl => ?_)
        have hl : lv_has ls 5 [(4, .int (i4 + 1)), (3, .int v4), (0, .ref (ad k)), (1, .int n1), (2, .int n2)] := hl
        refine lv_goto hx hb dd_R_enter_34 rfl ?_
        exact ih v4 (i4 + 1) S _ _ _ hw (lv_sub hl [2, 3, 4, 1, 0] rfl) h
  unfold xf_R_enter at h
  refine lv_bipush (v := 99) hx hb dd_R_enter_0 rfl ?_
  refine lv_istore_n hx hb dd_R_enter_2 rfl hl (by decide) rfl (fun ls hl => ?_)
  have hl : lv_has ls 5 [(3, .int 99), (0, .ref (ad k)), (1, .int n1), (2, .int n2)] := hl
  refine lv_iconst (v := 0) hx hb dd_R_enter_3 rfl ?_
  refine lv_istore hx hb dd_R_enter_4 hl (by decide) rfl (fun ls hl => ?_)
  have hl : lv_has ls 5 [(4, .int 0), (3, .int 99), (0, .ref (ad k)), (1, .int n1), (2, .int n2)] := hl
  exact w_6 xs_fuel 99 0 S _ _ _ hw (lv_sub hl [2, 3, 4, 1, 0] rfl) h
set_option maxHeartbeats 4000000 in
set_option maxRecDepth 100000 in
theorem xc_R_boxes (l : Launch) (D : va_G) (ad : Nat → Nat) (ca : Nat → ClassId) (ks : List Nat) (k : Nat) (S : xs_T) (T : xs_T) (hk : xs_is ks k xs_cR) (h : xf_R_boxes k S = some T) (sz : Nat) : Met l yy_R_boxes ws_R_boxes { frames := 2, cells := 0, slots := 0, locals := 44 } (va_Pc [.ref (ad k)] (xs_Pre D ad ca ks S sz)) (va_Qv (fun _ : Unit => True) (fun _ t => va_P D xs_cl (xs_w ad ca ks T) t.heap) (xs_A ad ks sz)) 0 0 (xs_A ad ks sz) := by
  refine xm_v (by decide) (Nat.le_of_ble_eq_true rfl) ?_
  intro p e s m args below meth c R A Q ls hx hb hml hown hts hRf hRl hK hw hl hret
  have hl : lv_has ls 6 [(0, .ref (ad k))] := hl
  have w_44 : ∀ (c4 : Int32 → Int32 → xs_T → Option (xs_T)) (y4 : ∀ (i1 : Int32) (i2 : Int32) (S : xs_T) (H : Heap) (locs : List Loc) (ls : Array Slot), xs_I D ad ca ks A s S H locs → lv_has ls 6 [(0, .ref (ad k)), (1, .int i1), (2, .int i2)] → c4 i1 i2 S = some T → W p l e R s m args below meth c H locs 0 0 Q (F0 m 4 ls [])), ∀ (c21 : Int32 → Int32 → Int32 → Int32 → Int32 → xs_T → Option (xs_T)) (y21 : ∀ (i1 : Int32) (i2 : Int32) (i3 : Int32) (i4 : Int32) (i5 : Int32) (S : xs_T) (H : Heap) (locs : List Loc) (ls : Array Slot), xs_I D ad ca ks A s S H locs → lv_has ls 6 [(0, .ref (ad k)), (1, .int i1), (2, .int i2), (3, .int i3), (4, .int i4), (5, .int i5)] → c21 i1 i2 i3 i4 i5 S = some T → W p l e R s m args below meth c H locs 0 0 Q (F0 m 21 ls [])), ∀ (i1 : Int32) (i2 : Int32) (i4 : Int32) (i5 : Int32) (t0 : Int32) (S : xs_T) (H : Heap) (locs : List Loc) (ls : Array Slot), xs_I D ad ca ks A s S H locs → lv_has ls 6 [(0, .ref (ad k)), (1, .int i1), (2, .int i2), (4, .int i4), (5, .int i5)] → xf_R_boxes_44 k c4 c21 i1 i2 i4 i5 t0 S = some T → W p l e R s m args below meth c H locs 0 0 Q (F0 m 44 ls [.int t0]) := by
    intro c4 y4 c21 y21 i1 i2 i4 i5 t0 S H locs ls hw hl h
    unfold xf_R_boxes_44 at h
    refine lv_istore_n hx hb dd_R_boxes_44 rfl hl (by decide) rfl (fun ls hl => ?_)
    have hl : lv_has ls 6 [(3, .int t0), (0, .ref (ad k)), (1, .int i1), (2, .int i2), (4, .int i4), (5, .int i5)] := hl
    refine lv_iload hx hb dd_R_boxes_45 (lv_at hl 4 rfl) ?_
    refine lv_iload hx hb dd_R_boxes_47 (lv_at hl 4 rfl) ?_
    obtain ⟨q7, gq7, h⟩ := xs_ob h
    refine xq_i hK hw (va_runS (As := [.int i4, .int i4]) (rest := []) ⟨hx, hb, hml, hown, hts⟩ (xc_R_times l D ad ca ks i4 i4 S q7 gq7 _) ⟨callB_of 2 hts (xs_good hw_735) rfl rfl rfl (hts _ hw_13) (hts _ hw_733) yd_R_times ⟨Nat.le_trans (by decide) hRf, Nat.le_trans (by decide) hRl⟩, (hts _ hw_734)⟩ ⟨xs_blind, fun U h1 h2 => ⟨rfl, xs_pre hK hw h1 h2⟩⟩ rfl rfl hl.1 rfl (lv_room (Nat.le_of_ble_eq_true rfl)) dd_R_boxes_49 ⟨Nat.zero_le _, Nat.zero_le _⟩) (fun H locs hw => ?_)
    refine lv_istore hx hb dd_R_boxes_52 hl (by decide) rfl (fun ls hl => ?_)
    have hl : lv_has ls 6 [(4, .int q7), (3, .int t0), (0, .ref (ad k)), (1, .int i1), (2, .int i2), (5, .int i5)] := hl
    refine lv_iload hx hb dd_R_boxes_54 (lv_at hl 5 rfl) ?_
    refine lv_iconst (v := 1) hx hb dd_R_boxes_56 rfl ?_
    refine lv_ishr hx hb dd_R_boxes_57 ?_
    obtain ⟨v8, gv8, h⟩ := xs_ob h
    refine lv_namI gv8 ?_
    refine lv_istore hx hb dd_R_boxes_58 hl (by decide) rfl (fun ls hl => ?_)
    have hl : lv_has ls 6 [(5, .int v8), (4, .int q7), (3, .int t0), (0, .ref (ad k)), (1, .int i1), (2, .int i2)] := hl
    refine lv_goto hx hb dd_R_boxes_60 rfl ?_
    exact y21 i1 i2 t0 q7 v8 S _ _ _ hw (lv_sub hl [3, 4, 5, 2, 1, 0] rfl) h
  have w_21 : ∀ (c4 : Int32 → Int32 → xs_T → Option (xs_T)) (y4 : ∀ (i1 : Int32) (i2 : Int32) (S : xs_T) (H : Heap) (locs : List Loc) (ls : Array Slot), xs_I D ad ca ks A s S H locs → lv_has ls 6 [(0, .ref (ad k)), (1, .int i1), (2, .int i2)] → c4 i1 i2 S = some T → W p l e R s m args below meth c H locs 0 0 Q (F0 m 4 ls [])), ∀ (f : Nat), ∀ (i1 : Int32) (i2 : Int32) (i3 : Int32) (i4 : Int32) (i5 : Int32) (S : xs_T) (H : Heap) (locs : List Loc) (ls : Array Slot), xs_I D ad ca ks A s S H locs → lv_has ls 6 [(0, .ref (ad k)), (1, .int i1), (2, .int i2), (3, .int i3), (4, .int i4), (5, .int i5)] → xf_R_boxes_21 k c4 f i1 i2 i3 i4 i5 S = some T → W p l e R s m args below meth c H locs 0 0 Q (F0 m 21 ls []) := by
    intro c4 y4 f
    induction f with
    | zero => intro i1 i2 i3 i4 i5 S H locs ls hw hl h; exact absurd h (by simp [xf_R_boxes_21])
    | succ f ih =>
      intro i1 i2 i3 i4 i5 S H locs ls hw hl h
      rw [xf_R_boxes_21] at h
      refine lv_iload hx hb dd_R_boxes_21 (lv_at hl 5 rfl) ?_
      refine lv_if_le hx hb dd_R_boxes_23 rfl (fun b3 => ?_) (fun b3 => ?_)
      · replace h := xs_p b3 h
        refine lv_aload_n hx hb dd_R_boxes_63 rfl (lv_at hl 0 rfl) ?_
        refine lv_iload_n hx hb dd_R_boxes_64 rfl (lv_at hl 1 rfl) ?_
        refine lv_iload_n hx hb dd_R_boxes_65 rfl (lv_at hl 3 rfl) ?_
        obtain ⟨q4, gq4, h⟩ := xs_ob h
        refine xq_v hK hw (va_runV (As := [.int i1, .int i3]) (rest := []) ⟨hx, hb, hml, hown, hts⟩ (xc_R_enter l D ad ca ks k i1 i3 S q4 hk gq4 _) ⟨callB_of 2 hts (xs_good hw_742) rfl rfl rfl (hts _ hw_13) (hts _ hw_739) yd_R_enter ⟨Nat.le_trans (by decide) hRf, Nat.le_trans (by decide) hRl⟩, (hts _ hw_741), (hts _ hs_11)⟩ ⟨xs_blind, xs_recv_R hK hw hk, fun U h1 h2 => ⟨rfl, xs_pre hK hw h1 h2⟩⟩ rfl rfl hl.1 rfl (lv_room (Nat.le_of_ble_eq_true rfl)) dd_R_boxes_66 ⟨Nat.zero_le _, Nat.zero_le _⟩) (fun H locs hw => ?_)
        refine lv_iload_n hx hb dd_R_boxes_69 rfl (lv_at hl 1 rfl) ?_
        refine lv_iload_n hx hb dd_R_boxes_70 rfl (lv_at hl 1 rfl) ?_
        obtain ⟨q5, gq5, h⟩ := xs_ob h
        refine xq_i hK hw (va_runS (As := [.int i1]) (rest := [.int i1]) ⟨hx, hb, hml, hown, hts⟩ (xc_R_twice l D ad ca ks i1 q4 q5 gq5 _) ⟨callB_of 1 hts (xs_good hw_738) rfl rfl rfl (hts _ hw_13) (hts _ hw_736) yd_R_twice ⟨Nat.le_trans (by decide) hRf, Nat.le_trans (by decide) hRl⟩, (hts _ hw_737)⟩ ⟨xs_blind, fun U h1 h2 => ⟨rfl, xs_pre hK hw h1 h2⟩⟩ rfl rfl hl.1 rfl (lv_room (Nat.le_of_ble_eq_true rfl)) dd_R_boxes_71 ⟨Nat.zero_le _, Nat.zero_le _⟩) (fun H locs hw => ?_)
        refine lv_ixor hx hb dd_R_boxes_74 ?_
        refine lv_istore_n hx hb dd_R_boxes_75 rfl hl (by decide) rfl (fun ls hl => ?_)
        have hl : lv_has ls 6 [(1, .int (i1 ^^^ q5)), (0, .ref (ad k)), (2, .int i2), (3, .int i3), (4, .int i4), (5, .int i5)] := hl
        refine lv_iinc (k := 2) (v := i2 + 1) hx hb dd_R_boxes_76 hl rfl rfl (by decide) rfl (fun ls hl => ?_)
        have hl : lv_has ls 6 [(2, .int (i2 + 1)), (1, .int (i1 ^^^ q5)), (0, .ref (ad k)), (3, .int i3), (4, .int i4), (5, .int i5)] := hl
        refine lv_goto hx hb dd_R_boxes_79 rfl ?_
        exact y4 (i1 ^^^ q5) (i2 + 1) q4 _ _ _ hw (lv_sub hl [2, 1, 0] rfl) h
      · replace h := xs_n b3 h
        refine lv_iload hx hb dd_R_boxes_26 (lv_at hl 5 rfl) ?_
        refine lv_iconst (v := 1) hx hb dd_R_boxes_28 rfl ?_
        refine lv_iand hx hb dd_R_boxes_29 ?_
        refine lv_iconst (v := 1) hx hb dd_R_boxes_30 rfl ?_
        refine lv_icmp_ne hx hb dd_R_boxes_31 rfl (fun b6 => ?_) (fun b6 => ?_)
        · replace h := xs_n b6 h
          refine lv_iload_n hx hb dd_R_boxes_43 rfl (lv_at hl 3 rfl) ?_
          exact w_44 c4 y4 (xf_R_boxes_21 k c4 f) ih i1 i2 i4 i5 i3 S _ _ _ hw (lv_sub hl [0, 1, 2, 4, 5] rfl) h
        · replace h := xs_p b6 h
          refine lv_iload_n hx hb dd_R_boxes_34 rfl (lv_at hl 3 rfl) ?_
          refine lv_iload hx hb dd_R_boxes_35 (lv_at hl 4 rfl) ?_
          obtain ⟨q9, gq9, h⟩ := xs_ob h
          refine xq_i hK hw (va_runS (As := [.int i3, .int i4]) (rest := []) ⟨hx, hb, hml, hown, hts⟩ (xc_R_times l D ad ca ks i3 i4 S q9 gq9 _) ⟨callB_of 2 hts (xs_good hw_735) rfl rfl rfl (hts _ hw_13) (hts _ hw_733) yd_R_times ⟨Nat.le_trans (by decide) hRf, Nat.le_trans (by decide) hRl⟩, (hts _ hw_734)⟩ ⟨xs_blind, fun U h1 h2 => ⟨rfl, xs_pre hK hw h1 h2⟩⟩ rfl rfl hl.1 rfl (lv_room (Nat.le_of_ble_eq_true rfl)) dd_R_boxes_37 ⟨Nat.zero_le _, Nat.zero_le _⟩) (fun H locs hw => ?_)
          refine lv_goto hx hb dd_R_boxes_40 rfl ?_
          exact w_44 c4 y4 (xf_R_boxes_21 k c4 f) ih i1 i2 i4 i5 q9 S _ _ _ hw (lv_sub hl [0, 1, 2, 4, 5] rfl) h
  have w_4 : ∀ (f : Nat), ∀ (i1 : Int32) (i2 : Int32) (S : xs_T) (H : Heap) (locs : List Loc) (ls : Array Slot), xs_I D ad ca ks A s S H locs → lv_has ls 6 [(0, .ref (ad k)), (1, .int i1), (2, .int i2)] → xf_R_boxes_4 k f i1 i2 S = some T → W p l e R s m args below meth c H locs 0 0 Q (F0 m 4 ls []) := by
    intro f
    induction f with
    | zero => intro i1 i2 S H locs ls hw hl h; exact absurd h (by simp [xf_R_boxes_4])
    | succ f ih =>
      intro i1 i2 S H locs ls hw hl h
      rw [xf_R_boxes_4] at h
      refine lv_iload_n hx hb dd_R_boxes_4 rfl (lv_at hl 2 rfl) ?_
      refine lv_sipush (v := 255) hx hb dd_R_boxes_5 rfl ?_
      refine lv_icmp_ge hx hb dd_R_boxes_8 rfl (fun b1 => ?_) (fun b1 => ?_)
      · replace h := xs_p b1 h
        refine lv_aload_n hx hb dd_R_boxes_82 rfl (lv_at hl 0 rfl) ?_
        refine lv_iconst (v := 0) hx hb dd_R_boxes_83 rfl ?_
        refine lv_iconst (v := 0) hx hb dd_R_boxes_84 rfl ?_
        obtain ⟨q2, gq2, h⟩ := xs_ob h
        refine xq_v hK hw (va_runV (As := [.int 0, .int 0]) (rest := []) ⟨hx, hb, hml, hown, hts⟩ (xc_R_enter l D ad ca ks k 0 0 S q2 hk gq2 _) ⟨callB_of 2 hts (xs_good hw_742) rfl rfl rfl (hts _ hw_13) (hts _ hw_739) yd_R_enter ⟨Nat.le_trans (by decide) hRf, Nat.le_trans (by decide) hRl⟩, (hts _ hw_741), (hts _ hs_11)⟩ ⟨xs_blind, xs_recv_R hK hw hk, fun U h1 h2 => ⟨rfl, xs_pre hK hw h1 h2⟩⟩ rfl rfl hl.1 rfl (lv_room (Nat.le_of_ble_eq_true rfl)) dd_R_boxes_85 ⟨Nat.zero_le _, Nat.zero_le _⟩) (fun H locs hw => ?_)
        exact hret h hw dd_R_boxes_88
      · replace h := xs_n b1 h
        refine lv_iconst (v := 1) hx hb dd_R_boxes_11 rfl ?_
        refine lv_istore_n hx hb dd_R_boxes_12 rfl hl (by decide) rfl (fun ls hl => ?_)
        have hl : lv_has ls 6 [(3, .int 1), (0, .ref (ad k)), (1, .int i1), (2, .int i2)] := hl
        refine lv_iload_n hx hb dd_R_boxes_13 rfl (lv_at hl 2 rfl) ?_
        refine lv_istore hx hb dd_R_boxes_14 hl (by decide) rfl (fun ls hl => ?_)
        have hl : lv_has ls 6 [(4, .int i1), (3, .int 1), (0, .ref (ad k)), (1, .int i1), (2, .int i2)] := hl
        refine lv_sipush (v := 254) hx hb dd_R_boxes_16 rfl ?_
        refine lv_istore hx hb dd_R_boxes_19 hl (by decide) rfl (fun ls hl => ?_)
        have hl : lv_has ls 6 [(5, .int 254), (4, .int i1), (3, .int 1), (0, .ref (ad k)), (1, .int i1), (2, .int i2)] := hl
        exact w_21 (xf_R_boxes_4 k f) ih xs_fuel i1 i2 1 i1 254 S _ _ _ hw (lv_sub hl [3, 4, 5, 2, 1, 0] rfl) h
  unfold xf_R_boxes at h
  refine lv_iconst (v := 1) hx hb dd_R_boxes_0 rfl ?_
  refine lv_istore_n hx hb dd_R_boxes_1 rfl hl (by decide) rfl (fun ls hl => ?_)
  have hl : lv_has ls 6 [(1, .int 1), (0, .ref (ad k))] := hl
  refine lv_iconst (v := 0) hx hb dd_R_boxes_2 rfl ?_
  refine lv_istore_n hx hb dd_R_boxes_3 rfl hl (by decide) rfl (fun ls hl => ?_)
  have hl : lv_has ls 6 [(2, .int 0), (1, .int 1), (0, .ref (ad k))] := hl
  exact w_4 xs_fuel 1 0 S _ _ _ hw (lv_sub hl [2, 1, 0] rfl) h
set_option maxHeartbeats 4000000 in
set_option maxRecDepth 100000 in
theorem xc_R_schedule (l : Launch) (D : va_G) (ad : Nat → Nat) (ca : Nat → ClassId) (ks : List Nat) (k : Nat) (n1 : Int32) (S : xs_T) (T : xs_T) (hk : xs_is ks k xs_cR) (h : xf_R_schedule k n1 S = some T) (sz : Nat) : Met l yy_R_schedule ws_R_schedule { frames := 1, cells := 0, slots := 0, locals := 20 } (va_Pc [.ref (ad k), .int n1] (xs_Pre D ad ca ks S sz)) (va_Qv (fun _ : Unit => True) (fun _ t => va_P D xs_cl (xs_w ad ca ks T) t.heap) (xs_A ad ks sz)) 0 0 (xs_A ad ks sz) := by
  refine xm_v (by decide) (Nat.le_of_ble_eq_true rfl) ?_
  intro p e s m args below meth c R A Q ls hx hb hml hown hts hRf hRl hK hw hl hret
  have hl : lv_has ls 7 [(0, .ref (ad k)), (1, .int n1)] := hl
  have w_166 : ∀ (c36 : Int32 → Int32 → xs_T → Option (xs_T)) (y36 : ∀ (i2 : Int32) (i3 : Int32) (S : xs_T) (H : Heap) (locs : List Loc) (ls : Array Slot), xs_I D ad ca ks A s S H locs → lv_has ls 7 [(0, .ref (ad k)), (2, .int i2), (3, .int i3)] → c36 i2 i3 S = some T → W p l e R s m args below meth c H locs 0 0 Q (F0 m 36 ls [])), ∀ (i3 : Int32) (t0 : Int32) (S : xs_T) (H : Heap) (locs : List Loc) (ls : Array Slot), xs_I D ad ca ks A s S H locs → lv_has ls 7 [(0, .ref (ad k)), (3, .int i3)] → xf_R_schedule_166 k n1 c36 i3 t0 S = some T → W p l e R s m args below meth c H locs 0 0 Q (F0 m 166 ls [.int t0]) := by
    intro c36 y36 i3 t0 S H locs ls hw hl h
    unfold xf_R_schedule_166 at h
    refine lv_istore_n hx hb dd_R_schedule_166 rfl hl (by decide) rfl (fun ls hl => ?_)
    have hl : lv_has ls 7 [(2, .int t0), (0, .ref (ad k)), (3, .int i3)] := hl
    refine lv_iinc (k := 2) (v := i3 + 4) hx hb dd_R_schedule_167 hl rfl rfl (by decide) rfl (fun ls hl => ?_)
    have hl : lv_has ls 7 [(3, .int (i3 + 4)), (2, .int t0), (0, .ref (ad k))] := hl
    refine lv_goto hx hb dd_R_schedule_170 rfl ?_
    exact y36 t0 (i3 + 4) S _ _ _ hw (lv_sub hl [2, 1, 0] rfl) h
  have w_145 : ∀ (c36 : Int32 → Int32 → xs_T → Option (xs_T)) (y36 : ∀ (i2 : Int32) (i3 : Int32) (S : xs_T) (H : Heap) (locs : List Loc) (ls : Array Slot), xs_I D ad ca ks A s S H locs → lv_has ls 7 [(0, .ref (ad k)), (2, .int i2), (3, .int i3)] → c36 i2 i3 S = some T → W p l e R s m args below meth c H locs 0 0 Q (F0 m 36 ls [])), ∀ (c60 : Int32 → Int32 → Int32 → Int32 → xs_T → Option (xs_T)) (y60 : ∀ (i2 : Int32) (i3 : Int32) (i4 : Int32) (i5 : Int32) (S : xs_T) (H : Heap) (locs : List Loc) (ls : Array Slot), xs_I D ad ca ks A s S H locs → lv_has ls 7 [(0, .ref (ad k)), (2, .int i2), (3, .int i3), (4, .int i4), (5, .int i5)] → c60 i2 i3 i4 i5 S = some T → W p l e R s m args below meth c H locs 0 0 Q (F0 m 60 ls [])), ∀ (i2 : Int32) (i3 : Int32) (i4 : Int32) (i5 : Int32) (t1 : Int32) (t2 : Int32) (t3 : Int32) (S : xs_T) (H : Heap) (locs : List Loc) (ls : Array Slot), xs_I D ad ca ks A s S H locs → lv_has ls 7 [(0, .ref (ad k)), (2, .int i2), (3, .int i3), (4, .int i4), (5, .int i5)] → xf_R_schedule_145 k n1 c36 c60 i2 i3 i4 i5 t1 t2 t3 S = some T → W p l e R s m args below meth c H locs 0 0 Q (F0 m 145 ls [.int t3, .int t2, .int t1, .ref (ad (k + 3))]) := by
    intro c36 y36 c60 y60 i2 i3 i4 i5 t1 t2 t3 S H locs ls hw hl h
    unfold xf_R_schedule_145 at h
    refine lv_ixor hx hb dd_R_schedule_145 ?_
    obtain ⟨S11, gS11, h⟩ := xs_ob h
    refine xr_iast hx hb hK hw (xs_ok_R_rounds hK.1 hk) gS11 dd_R_schedule_146 (fun H locs hw => ?_)
    refine lv_iinc (k := 4) (v := i5 + 1) hx hb dd_R_schedule_147 hl rfl rfl (by decide) rfl (fun ls hl => ?_)
    have hl : lv_has ls 7 [(5, .int (i5 + 1)), (0, .ref (ad k)), (2, .int i2), (3, .int i3), (4, .int i4)] := hl
    refine lv_goto hx hb dd_R_schedule_150 rfl ?_
    exact y60 i2 i3 i4 (i5 + 1) S11 _ _ _ hw (lv_sub hl [1, 2, 3, 4, 0] rfl) h
  have w_144 : ∀ (c36 : Int32 → Int32 → xs_T → Option (xs_T)) (y36 : ∀ (i2 : Int32) (i3 : Int32) (S : xs_T) (H : Heap) (locs : List Loc) (ls : Array Slot), xs_I D ad ca ks A s S H locs → lv_has ls 7 [(0, .ref (ad k)), (2, .int i2), (3, .int i3)] → c36 i2 i3 S = some T → W p l e R s m args below meth c H locs 0 0 Q (F0 m 36 ls [])), ∀ (c60 : Int32 → Int32 → Int32 → Int32 → xs_T → Option (xs_T)) (y60 : ∀ (i2 : Int32) (i3 : Int32) (i4 : Int32) (i5 : Int32) (S : xs_T) (H : Heap) (locs : List Loc) (ls : Array Slot), xs_I D ad ca ks A s S H locs → lv_has ls 7 [(0, .ref (ad k)), (2, .int i2), (3, .int i3), (4, .int i4), (5, .int i5)] → c60 i2 i3 i4 i5 S = some T → W p l e R s m args below meth c H locs 0 0 Q (F0 m 60 ls [])), ∀ (i2 : Int32) (i3 : Int32) (i4 : Int32) (i5 : Int32) (t1 : Int32) (t2 : Int32) (S : xs_T) (H : Heap) (locs : List Loc) (ls : Array Slot), xs_I D ad ca ks A s S H locs → lv_has ls 7 [(0, .ref (ad k)), (2, .int i2), (3, .int i3), (4, .int i4), (5, .int i5)] → xf_R_schedule_144 k n1 c36 c60 i2 i3 i4 i5 t1 t2 S = some T → W p l e R s m args below meth c H locs 0 0 Q (F0 m 144 ls [.int t2, .int t1, .ref (ad (k + 3))]) := by
    intro c36 y36 c60 y60 i2 i3 i4 i5 t1 t2 S H locs ls hw hl h
    unfold xf_R_schedule_144 at h
    refine lv_iconst (v := 0) hx hb dd_R_schedule_144 rfl ?_
    exact w_145 c36 y36 c60 y60 i2 i3 i4 i5 t1 t2 0 S _ _ _ hw (lv_sub hl [0, 1, 2, 3, 4] rfl) h
  have w_105 : ∀ (c36 : Int32 → Int32 → xs_T → Option (xs_T)) (y36 : ∀ (i2 : Int32) (i3 : Int32) (S : xs_T) (H : Heap) (locs : List Loc) (ls : Array Slot), xs_I D ad ca ks A s S H locs → lv_has ls 7 [(0, .ref (ad k)), (2, .int i2), (3, .int i3)] → c36 i2 i3 S = some T → W p l e R s m args below meth c H locs 0 0 Q (F0 m 36 ls [])), ∀ (c60 : Int32 → Int32 → Int32 → Int32 → xs_T → Option (xs_T)) (y60 : ∀ (i2 : Int32) (i3 : Int32) (i4 : Int32) (i5 : Int32) (S : xs_T) (H : Heap) (locs : List Loc) (ls : Array Slot), xs_I D ad ca ks A s S H locs → lv_has ls 7 [(0, .ref (ad k)), (2, .int i2), (3, .int i3), (4, .int i4), (5, .int i5)] → c60 i2 i3 i4 i5 S = some T → W p l e R s m args below meth c H locs 0 0 Q (F0 m 60 ls [])), ∀ (i2 : Int32) (i3 : Int32) (i4 : Int32) (i5 : Int32) (t0 : Int32) (S : xs_T) (H : Heap) (locs : List Loc) (ls : Array Slot), xs_I D ad ca ks A s S H locs → lv_has ls 7 [(0, .ref (ad k)), (2, .int i2), (3, .int i3), (4, .int i4), (5, .int i5)] → xf_R_schedule_105 k n1 c36 c60 i2 i3 i4 i5 t0 S = some T → W p l e R s m args below meth c H locs 0 0 Q (F0 m 105 ls [.int t0]) := by
    intro c36 y36 c60 y60 i2 i3 i4 i5 t0 S H locs ls hw hl h
    unfold xf_R_schedule_105 at h
    refine lv_istore hx hb dd_R_schedule_105 hl (by decide) rfl (fun ls hl => ?_)
    have hl : lv_has ls 7 [(6, .int t0), (0, .ref (ad k)), (2, .int i2), (3, .int i3), (4, .int i4), (5, .int i5)] := hl
    refine lv_aload_n hx hb dd_R_schedule_107 rfl (lv_at hl 1 rfl) ?_
    refine xr_get_R (v := .ref (ad (k + 3))) hx hb hts hown hK hw hk 2 (by decide) (hts _ hw_745) rfl dd_R_schedule_108 ?_
    refine lv_iload_n hx hb dd_R_schedule_111 rfl (lv_at hl 3 rfl) ?_
    refine lv_iload hx hb dd_R_schedule_112 (lv_at hl 5 rfl) ?_
    refine lv_iadd hx hb dd_R_schedule_114 ?_
    refine lv_aload_n hx hb dd_R_schedule_115 rfl (lv_at hl 1 rfl) ?_
    refine xr_get_R (v := .ref (ad (k + 3))) hx hb hts hown hK hw hk 2 (by decide) (hts _ hw_745) rfl dd_R_schedule_116 ?_
    refine lv_iload_n hx hb dd_R_schedule_119 rfl (lv_at hl 3 rfl) ?_
    refine lv_bipush (v := 16) hx hb dd_R_schedule_120 rfl ?_
    refine lv_isub hx hb dd_R_schedule_122 ?_
    refine lv_iload hx hb dd_R_schedule_123 (lv_at hl 5 rfl) ?_
    refine lv_iadd hx hb dd_R_schedule_125 ?_
    obtain ⟨v9, gv9, h⟩ := xs_ob h
    refine xr_iald hx hb hK hw (xs_ok_R_rounds hK.1 hk) gv9 dd_R_schedule_126 ?_
    refine lv_iload hx hb dd_R_schedule_127 (lv_at hl 0 rfl) ?_
    refine lv_ixor hx hb dd_R_schedule_129 ?_
    refine lv_iload hx hb dd_R_schedule_130 (lv_at hl 4 rfl) ?_
    refine lv_if_eq hx hb dd_R_schedule_132 rfl (fun b10 => ?_) (fun b10 => ?_)
    · replace h := xs_p b10 h
      exact w_144 c36 y36 c60 y60 i2 i3 i4 i5 (i3 + i5) (v9 ^^^ t0) S _ _ _ hw (lv_sub hl [1, 2, 3, 4, 5] rfl) h
    · replace h := xs_n b10 h
      refine lv_iload hx hb dd_R_schedule_135 (lv_at hl 5 rfl) ?_
      refine lv_if_ne hx hb dd_R_schedule_137 rfl (fun b12 => ?_) (fun b12 => ?_)
      · replace h := xs_n b12 h
        exact w_144 c36 y36 c60 y60 i2 i3 i4 i5 (i3 + i5) (v9 ^^^ t0) S _ _ _ hw (lv_sub hl [1, 2, 3, 4, 5] rfl) h
      · replace h := xs_p b12 h
        refine lv_iload_n hx hb dd_R_schedule_140 rfl (lv_at hl 2 rfl) ?_
        refine lv_goto hx hb dd_R_schedule_141 rfl ?_
        exact w_145 c36 y36 c60 y60 i2 i3 i4 i5 (i3 + i5) (v9 ^^^ t0) i2 S _ _ _ hw (lv_sub hl [1, 2, 3, 4, 5] rfl) h
  have w_60 : ∀ (c36 : Int32 → Int32 → xs_T → Option (xs_T)) (y36 : ∀ (i2 : Int32) (i3 : Int32) (S : xs_T) (H : Heap) (locs : List Loc) (ls : Array Slot), xs_I D ad ca ks A s S H locs → lv_has ls 7 [(0, .ref (ad k)), (2, .int i2), (3, .int i3)] → c36 i2 i3 S = some T → W p l e R s m args below meth c H locs 0 0 Q (F0 m 36 ls [])), ∀ (f : Nat), ∀ (i2 : Int32) (i3 : Int32) (i4 : Int32) (i5 : Int32) (S : xs_T) (H : Heap) (locs : List Loc) (ls : Array Slot), xs_I D ad ca ks A s S H locs → lv_has ls 7 [(0, .ref (ad k)), (2, .int i2), (3, .int i3), (4, .int i4), (5, .int i5)] → xf_R_schedule_60 k n1 c36 f i2 i3 i4 i5 S = some T → W p l e R s m args below meth c H locs 0 0 Q (F0 m 60 ls []) := by
    intro c36 y36 f
    induction f with
    | zero => intro i2 i3 i4 i5 S H locs ls hw hl h; exact absurd h (by simp [xf_R_schedule_60])
    | succ f ih =>
      intro i2 i3 i4 i5 S H locs ls hw hl h
      rw [xf_R_schedule_60] at h
      refine lv_iload hx hb dd_R_schedule_60 (lv_at hl 4 rfl) ?_
      refine lv_iconst (v := 4) hx hb dd_R_schedule_62 rfl ?_
      refine lv_icmp_ge hx hb dd_R_schedule_63 rfl (fun b4 => ?_) (fun b4 => ?_)
      · replace h := xs_p b4 h
        refine lv_iload hx hb dd_R_schedule_153 (lv_at hl 3 rfl) ?_
        refine lv_if_eq hx hb dd_R_schedule_155 rfl (fun b5 => ?_) (fun b5 => ?_)
        · replace h := xs_p b5 h
          refine lv_iload_n hx hb dd_R_schedule_165 rfl (lv_at hl 1 rfl) ?_
          exact w_166 c36 y36 i3 i2 S _ _ _ hw (lv_sub hl [0, 2] rfl) h
        · replace h := xs_n b5 h
          refine lv_iload_n hx hb dd_R_schedule_158 rfl (lv_at hl 1 rfl) ?_
          obtain ⟨q6, gq6, h⟩ := xs_ob h
          refine xq_i hK hw (va_runS (As := [.int i2]) (rest := []) ⟨hx, hb, hml, hown, hts⟩ (xc_R_twice l D ad ca ks i2 S q6 gq6 _) ⟨callB_of 1 hts (xs_good hw_738) rfl rfl rfl (hts _ hw_13) (hts _ hw_736) yd_R_twice ⟨Nat.le_trans (by decide) hRf, Nat.le_trans (by decide) hRl⟩, (hts _ hw_737)⟩ ⟨xs_blind, fun U h1 h2 => ⟨rfl, xs_pre hK hw h1 h2⟩⟩ rfl rfl hl.1 rfl (lv_room (Nat.le_of_ble_eq_true rfl)) dd_R_schedule_159 ⟨Nat.zero_le _, Nat.zero_le _⟩) (fun H locs hw => ?_)
          refine lv_goto hx hb dd_R_schedule_162 rfl ?_
          exact w_166 c36 y36 i3 q6 S _ _ _ hw (lv_sub hl [0, 2] rfl) h
      · replace h := xs_n b4 h
        refine lv_iload hx hb dd_R_schedule_66 (lv_at hl 3 rfl) ?_
        refine lv_if_eq hx hb dd_R_schedule_68 rfl (fun b7 => ?_) (fun b7 => ?_)
        · replace h := xs_p b7 h
          refine lv_aload_n hx hb dd_R_schedule_94 rfl (lv_at hl 0 rfl) ?_
          refine xr_get_R (v := .ref (ad (k + 3))) hx hb hts hown hK hw hk 2 (by decide) (hts _ hw_745) rfl dd_R_schedule_95 ?_
          refine lv_iload_n hx hb dd_R_schedule_98 rfl (lv_at hl 2 rfl) ?_
          refine lv_iconst (v := 4) hx hb dd_R_schedule_99 rfl ?_
          refine lv_isub hx hb dd_R_schedule_100 ?_
          refine lv_iload hx hb dd_R_schedule_101 (lv_at hl 4 rfl) ?_
          refine lv_iadd hx hb dd_R_schedule_103 ?_
          obtain ⟨v8, gv8, h⟩ := xs_ob h
          refine xr_iald hx hb hK hw (xs_ok_R_rounds hK.1 hk) gv8 dd_R_schedule_104 ?_
          exact w_105 c36 y36 (xf_R_schedule_60 k n1 c36 f) ih i2 i3 i4 i5 v8 S _ _ _ hw (lv_sub hl [0, 1, 2, 3, 4] rfl) h
        · replace h := xs_n b7 h
          refine lv_aload_n hx hb dd_R_schedule_71 rfl (lv_at hl 0 rfl) ?_
          refine xr_get_R (v := .ref (ad (k + 1))) hx hb hts hown hK hw hk 0 (by decide) (hts _ hw_743) rfl dd_R_schedule_72 ?_
          refine lv_aload_n hx hb dd_R_schedule_75 rfl (lv_at hl 0 rfl) ?_
          refine xr_get_R (v := .ref (ad (k + 3))) hx hb hts hown hK hw hk 2 (by decide) (hts _ hw_745) rfl dd_R_schedule_76 ?_
          refine lv_iload_n hx hb dd_R_schedule_79 rfl (lv_at hl 2 rfl) ?_
          refine lv_iconst (v := 4) hx hb dd_R_schedule_80 rfl ?_
          refine lv_isub hx hb dd_R_schedule_81 ?_
          refine lv_iload hx hb dd_R_schedule_82 (lv_at hl 4 rfl) ?_
          refine lv_iconst (v := 1) hx hb dd_R_schedule_84 rfl ?_
          refine lv_iadd hx hb dd_R_schedule_85 ?_
          refine lv_iconst (v := 4) hx hb dd_R_schedule_86 rfl ?_
          refine lv_irem hx hb dd_R_schedule_87 (by decide) ?_
          refine lv_asI (v := xs_rem (i5 + 1) 4) rfl ?_
          refine lv_iadd hx hb dd_R_schedule_88 ?_
          obtain ⟨v13, gv13, h⟩ := xs_ob h
          refine xr_iald hx hb hK hw (xs_ok_R_rounds hK.1 hk) gv13 dd_R_schedule_89 ?_
          obtain ⟨v14, gv14, h⟩ := xs_ob h
          refine xr_iald hx hb hK hw (xs_ok_R_box hK.1 hk) gv14 dd_R_schedule_90 ?_
          refine lv_goto hx hb dd_R_schedule_91 rfl ?_
          exact w_105 c36 y36 (xf_R_schedule_60 k n1 c36 f) ih i2 i3 i4 i5 v14 S _ _ _ hw (lv_sub hl [0, 1, 2, 3, 4] rfl) h
  have w_55 : ∀ (c36 : Int32 → Int32 → xs_T → Option (xs_T)) (y36 : ∀ (i2 : Int32) (i3 : Int32) (S : xs_T) (H : Heap) (locs : List Loc) (ls : Array Slot), xs_I D ad ca ks A s S H locs → lv_has ls 7 [(0, .ref (ad k)), (2, .int i2), (3, .int i3)] → c36 i2 i3 S = some T → W p l e R s m args below meth c H locs 0 0 Q (F0 m 36 ls [])), ∀ (i2 : Int32) (i3 : Int32) (t0 : Int32) (S : xs_T) (H : Heap) (locs : List Loc) (ls : Array Slot), xs_I D ad ca ks A s S H locs → lv_has ls 7 [(0, .ref (ad k)), (2, .int i2), (3, .int i3)] → xf_R_schedule_55 k n1 c36 i2 i3 t0 S = some T → W p l e R s m args below meth c H locs 0 0 Q (F0 m 55 ls [.int t0]) := by
    intro c36 y36 i2 i3 t0 S H locs ls hw hl h
    unfold xf_R_schedule_55 at h
    refine lv_istore hx hb dd_R_schedule_55 hl (by decide) rfl (fun ls hl => ?_)
    have hl : lv_has ls 7 [(4, .int t0), (0, .ref (ad k)), (2, .int i2), (3, .int i3)] := hl
    refine lv_iconst (v := 0) hx hb dd_R_schedule_57 rfl ?_
    refine lv_istore hx hb dd_R_schedule_58 hl (by decide) rfl (fun ls hl => ?_)
    have hl : lv_has ls 7 [(5, .int 0), (4, .int t0), (0, .ref (ad k)), (2, .int i2), (3, .int i3)] := hl
    exact w_60 c36 y36 xs_fuel i2 i3 t0 0 S _ _ _ hw (lv_sub hl [2, 3, 4, 1, 0] rfl) h
  have w_36 : ∀ (f : Nat), ∀ (i2 : Int32) (i3 : Int32) (S : xs_T) (H : Heap) (locs : List Loc) (ls : Array Slot), xs_I D ad ca ks A s S H locs → lv_has ls 7 [(0, .ref (ad k)), (2, .int i2), (3, .int i3)] → xf_R_schedule_36 k n1 f i2 i3 S = some T → W p l e R s m args below meth c H locs 0 0 Q (F0 m 36 ls []) := by
    intro f
    induction f with
    | zero => intro i2 i3 S H locs ls hw hl h; exact absurd h (by simp [xf_R_schedule_36])
    | succ f ih =>
      intro i2 i3 S H locs ls hw hl h
      rw [xf_R_schedule_36] at h
      refine lv_iload_n hx hb dd_R_schedule_36 rfl (lv_at hl 2 rfl) ?_
      refine lv_sipush (v := 176) hx hb dd_R_schedule_37 rfl ?_
      refine lv_icmp_ge hx hb dd_R_schedule_40 rfl (fun b2 => ?_) (fun b2 => ?_)
      · replace h := xs_p b2 h
        exact hret h hw dd_R_schedule_173
      · replace h := xs_n b2 h
        refine lv_iload_n hx hb dd_R_schedule_43 rfl (lv_at hl 2 rfl) ?_
        refine lv_bipush (v := 16) hx hb dd_R_schedule_44 rfl ?_
        refine lv_irem hx hb dd_R_schedule_46 (by decide) ?_
        refine lv_asI (v := xs_rem i3 16) rfl ?_
        refine lv_if_ne hx hb dd_R_schedule_47 rfl (fun b3 => ?_) (fun b3 => ?_)
        · replace h := xs_n b3 h
          refine lv_iconst (v := 0) hx hb dd_R_schedule_54 rfl ?_
          exact w_55 (xf_R_schedule_36 k n1 f) ih i2 i3 0 S _ _ _ hw (lv_sub hl [0, 1, 2] rfl) h
        · replace h := xs_p b3 h
          refine lv_iconst (v := 1) hx hb dd_R_schedule_50 rfl ?_
          refine lv_goto hx hb dd_R_schedule_51 rfl ?_
          exact w_55 (xf_R_schedule_36 k n1 f) ih i2 i3 1 S _ _ _ hw (lv_sub hl [0, 1, 2] rfl) h
  have w_4 : ∀ (f : Nat), ∀ (i2 : Int32) (i3 : Int32) (S : xs_T) (H : Heap) (locs : List Loc) (ls : Array Slot), xs_I D ad ca ks A s S H locs → lv_has ls 7 [(0, .ref (ad k)), (1, .int n1), (2, .int i2), (3, .int i3)] → xf_R_schedule_4 k n1 f i2 i3 S = some T → W p l e R s m args below meth c H locs 0 0 Q (F0 m 4 ls []) := by
    intro f
    induction f with
    | zero => intro i2 i3 S H locs ls hw hl h; exact absurd h (by simp [xf_R_schedule_4])
    | succ f ih =>
      intro i2 i3 S H locs ls hw hl h
      rw [xf_R_schedule_4] at h
      refine lv_iload_n hx hb dd_R_schedule_4 rfl (lv_at hl 3 rfl) ?_
      refine lv_bipush (v := 16) hx hb dd_R_schedule_5 rfl ?_
      refine lv_icmp_ge hx hb dd_R_schedule_7 rfl (fun b1 => ?_) (fun b1 => ?_)
      · replace h := xs_p b1 h
        refine lv_bipush (v := 16) hx hb dd_R_schedule_33 rfl ?_
        refine lv_istore_n hx hb dd_R_schedule_35 rfl hl (by decide) rfl (fun ls hl => ?_)
        have hl : lv_has ls 7 [(3, .int 16), (0, .ref (ad k)), (1, .int n1), (2, .int i2)] := hl
        exact w_36 xs_fuel i2 16 S _ _ _ hw (lv_sub hl [1, 3, 0] rfl) h
      · replace h := xs_n b1 h
        refine lv_aload_n hx hb dd_R_schedule_10 rfl (lv_at hl 0 rfl) ?_
        refine xr_get_R (v := .ref (ad (k + 3))) hx hb hts hown hK hw hk 2 (by decide) (hts _ hw_745) rfl dd_R_schedule_11 ?_
        refine lv_iload_n hx hb dd_R_schedule_14 rfl (lv_at hl 3 rfl) ?_
        refine lv_aload_n hx hb dd_R_schedule_15 rfl (lv_at hl 0 rfl) ?_
        refine xr_get_R (v := .ref (ad (k + 7))) hx hb hts hown hK hw hk 6 (by decide) (hts _ hw_749) rfl dd_R_schedule_16 ?_
        refine lv_bipush (v := 16) hx hb dd_R_schedule_19 rfl ?_
        refine lv_iload_n hx hb dd_R_schedule_21 rfl (lv_at hl 1 rfl) ?_
        refine lv_imul hx hb dd_R_schedule_22 ?_
        refine lv_iload_n hx hb dd_R_schedule_23 rfl (lv_at hl 3 rfl) ?_
        refine lv_iadd hx hb dd_R_schedule_24 ?_
        obtain ⟨v15, gv15, h⟩ := xs_ob h
        refine xr_iald hx hb hK hw (xs_ok_R_keys hK.1 hk) gv15 dd_R_schedule_25 ?_
        obtain ⟨S16, gS16, h⟩ := xs_ob h
        refine xr_iast hx hb hK hw (xs_ok_R_rounds hK.1 hk) gS16 dd_R_schedule_26 (fun H locs hw => ?_)
        refine lv_iinc (k := 3) (v := i3 + 1) hx hb dd_R_schedule_27 hl rfl rfl (by decide) rfl (fun ls hl => ?_)
        have hl : lv_has ls 7 [(3, .int (i3 + 1)), (0, .ref (ad k)), (1, .int n1), (2, .int i2)] := hl
        refine lv_goto hx hb dd_R_schedule_30 rfl ?_
        exact ih i2 (i3 + 1) S16 _ _ _ hw (lv_sub hl [1, 2, 3, 0] rfl) h
  unfold xf_R_schedule at h
  refine lv_iconst (v := 1) hx hb dd_R_schedule_0 rfl ?_
  refine lv_istore_n hx hb dd_R_schedule_1 rfl hl (by decide) rfl (fun ls hl => ?_)
  have hl : lv_has ls 7 [(2, .int 1), (0, .ref (ad k)), (1, .int n1)] := hl
  refine lv_iconst (v := 0) hx hb dd_R_schedule_2 rfl ?_
  refine lv_istore_n hx hb dd_R_schedule_3 rfl hl (by decide) rfl (fun ls hl => ?_)
  have hl : lv_has ls 7 [(3, .int 0), (2, .int 1), (0, .ref (ad k)), (1, .int n1)] := hl
  exact w_4 xs_fuel 1 0 S _ _ _ hw (lv_sub hl [2, 3, 1, 0] rfl) h
set_option maxHeartbeats 4000000 in
set_option maxRecDepth 100000 in
theorem xc_R_addKey (l : Launch) (D : va_G) (ad : Nat → Nat) (ca : Nat → ClassId) (ks : List Nat) (k : Nat) (n1 : Int32) (S : xs_T) (T : xs_T) (hk : xs_is ks k xs_cR) (h : xf_R_addKey k n1 S = some T) (sz : Nat) : Met l yy_R_addKey ws_R_addKey { frames := 0, cells := 0, slots := 0, locals := 0 } (va_Pc [.ref (ad k), .int n1] (xs_Pre D ad ca ks S sz)) (va_Qv (fun _ : Unit => True) (fun _ t => va_P D xs_cl (xs_w ad ca ks T) t.heap) (xs_A ad ks sz)) 0 0 (xs_A ad ks sz) := by
  refine xm_v (by decide) (Nat.le_of_ble_eq_true rfl) ?_
  intro p e s m args below meth c R A Q ls hx hb hml hown hts hRf hRl hK hw hl hret
  have hl : lv_has ls 3 [(0, .ref (ad k)), (1, .int n1)] := hl
  have w_2 : ∀ (f : Nat), ∀ (i2 : Int32) (S : xs_T) (H : Heap) (locs : List Loc) (ls : Array Slot), xs_I D ad ca ks A s S H locs → lv_has ls 3 [(0, .ref (ad k)), (1, .int n1), (2, .int i2)] → xf_R_addKey_2 k n1 f i2 S = some T → W p l e R s m args below meth c H locs 0 0 Q (F0 m 2 ls []) := by
    intro f
    induction f with
    | zero => intro i2 S H locs ls hw hl h; exact absurd h (by simp [xf_R_addKey_2])
    | succ f ih =>
      intro i2 S H locs ls hw hl h
      rw [xf_R_addKey_2] at h
      refine lv_iload_n hx hb dd_R_addKey_2 rfl (lv_at hl 2 rfl) ?_
      refine lv_bipush (v := 16) hx hb dd_R_addKey_3 rfl ?_
      refine lv_icmp_ge hx hb dd_R_addKey_5 rfl (fun b1 => ?_) (fun b1 => ?_)
      · replace h := xs_p b1 h
        exact hret h hw dd_R_addKey_38
      · replace h := xs_n b1 h
        refine lv_aload_n hx hb dd_R_addKey_8 rfl (lv_at hl 0 rfl) ?_
        refine xr_get_R (v := .ref (ad (k + 4))) hx hb hts hown hK hw hk 3 (by decide) (hts _ hw_746) rfl dd_R_addKey_9 ?_
        refine lv_iload_n hx hb dd_R_addKey_12 rfl (lv_at hl 2 rfl) ?_
        refine lv_aload_n hx hb dd_R_addKey_13 rfl (lv_at hl 0 rfl) ?_
        refine xr_get_R (v := .ref (ad (k + 4))) hx hb hts hown hK hw hk 3 (by decide) (hts _ hw_746) rfl dd_R_addKey_14 ?_
        refine lv_iload_n hx hb dd_R_addKey_17 rfl (lv_at hl 2 rfl) ?_
        obtain ⟨v2, gv2, h⟩ := xs_ob h
        refine xr_iald hx hb hK hw (xs_ok_R_block hK.1 hk) gv2 dd_R_addKey_18 ?_
        refine lv_aload_n hx hb dd_R_addKey_19 rfl (lv_at hl 0 rfl) ?_
        refine xr_get_R (v := .ref (ad (k + 3))) hx hb hts hown hK hw hk 2 (by decide) (hts _ hw_745) rfl dd_R_addKey_20 ?_
        refine lv_bipush (v := 16) hx hb dd_R_addKey_23 rfl ?_
        refine lv_iload_n hx hb dd_R_addKey_25 rfl (lv_at hl 1 rfl) ?_
        refine lv_imul hx hb dd_R_addKey_26 ?_
        refine lv_iload_n hx hb dd_R_addKey_27 rfl (lv_at hl 2 rfl) ?_
        refine lv_iadd hx hb dd_R_addKey_28 ?_
        obtain ⟨v3, gv3, h⟩ := xs_ob h
        refine xr_iald hx hb hK hw (xs_ok_R_rounds hK.1 hk) gv3 dd_R_addKey_29 ?_
        refine lv_ixor hx hb dd_R_addKey_30 ?_
        obtain ⟨S4, gS4, h⟩ := xs_ob h
        refine xr_iast hx hb hK hw (xs_ok_R_block hK.1 hk) gS4 dd_R_addKey_31 (fun H locs hw => ?_)
        refine lv_iinc (k := 2) (v := i2 + 1) hx hb dd_R_addKey_32 hl rfl rfl (by decide) rfl (fun ls hl => ?_)
        have hl : lv_has ls 3 [(2, .int (i2 + 1)), (0, .ref (ad k)), (1, .int n1)] := hl
        refine lv_goto hx hb dd_R_addKey_35 rfl ?_
        exact ih (i2 + 1) S4 _ _ _ hw (lv_sub hl [1, 2, 0] rfl) h
  unfold xf_R_addKey at h
  refine lv_iconst (v := 0) hx hb dd_R_addKey_0 rfl ?_
  refine lv_istore_n hx hb dd_R_addKey_1 rfl hl (by decide) rfl (fun ls hl => ?_)
  have hl : lv_has ls 3 [(2, .int 0), (0, .ref (ad k)), (1, .int n1)] := hl
  exact w_2 xs_fuel 0 S _ _ _ hw (lv_sub hl [1, 2, 0] rfl) h
