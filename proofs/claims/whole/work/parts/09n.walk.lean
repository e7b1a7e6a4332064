set_option maxHeartbeats 4000000 in
set_option maxRecDepth 100000 in
theorem xc_R_spoil (l : Launch) (D : va_G) (ad : Nat → Nat) (ca : Nat → ClassId) (ks : List Nat) (k : Nat) (n1 : Int32) (n2 : Int32) (n3 : Int32) (S : xs_T) (r : Int32) (T : xs_T) (hk : xs_is ks k xs_cR) (h : xf_R_spoil k n1 n2 n3 S = some (r, T)) (sz : Nat) : Met l yy_R_spoil ws_R_spoil { frames := 1, cells := 0, slots := 0, locals := 21 } (va_Pc [.ref (ad k), .int n1, .int n2, .int n3] (xs_Pre D ad ca ks S sz)) (va_Qi (fun r1 (_ : Unit) => r1 = r) (fun _ t => va_P D xs_cl (xs_w ad ca ks T) t.heap) (xs_A ad ks sz)) 0 0 (xs_A ad ks sz) := by
  refine xm_z (by decide) (Nat.le_of_ble_eq_true rfl) ?_
  intro p e s m args below meth c R A Q ls hx hb hml hown hts hRf hRl hK hw hl hret
  have hl : lv_has ls 4 [(0, .ref (ad k)), (1, .int n1), (2, .int n2), (3, .int n3)] := hl
  unfold xf_R_spoil at h
  refine lv_iload_n hx hb dd_R_spoil_0 rfl (lv_at hl 1 rfl) ?_
  refine lv_aload_n hx hb dd_R_spoil_1 rfl (lv_at hl 0 rfl) ?_
  refine xr_get_R (v := .int (xs_gI S k 12)) hx hb hts hown hK hw hk 12 (by decide) (hts _ hw_755) rfl dd_R_spoil_2 ?_
  obtain ⟨q1, gq1, h⟩ := xs_ob h
  refine xq_i hK hw (va_runS (As := [.int n1, .int (xs_gI S k 12)]) (rest := []) ⟨hx, hb, hml, hown, hts⟩ (xc_R_below l D ad ca ks n1 (xs_gI S k 12) S q1 gq1 _) ⟨callB_of 2 hts (xs_good hw_871) rfl rfl rfl (hts _ hw_13) (hts _ hw_869) yd_R_below ⟨Nat.le_trans (by decide) hRf, Nat.le_trans (by decide) hRl⟩, (hts _ hw_870)⟩ ⟨xs_blind, fun U h1 h2 => ⟨rfl, xs_pre hK hw h1 h2⟩⟩ rfl rfl hl.1 rfl (lv_room (Nat.le_of_ble_eq_true rfl)) dd_R_spoil_5 ⟨Nat.zero_le _, Nat.zero_le _⟩) (fun H locs hw => ?_)
  refine lv_if_eq hx hb dd_R_spoil_8 rfl (fun b2 => ?_) (fun b2 => ?_)
  · replace h := xs_p b2 h
    refine lv_iconst (v := 0) hx hb dd_R_spoil_36 rfl ?_
    exact hret h hw dd_R_spoil_37
  · replace h := xs_n b2 h
    refine lv_iload_n hx hb dd_R_spoil_11 rfl (lv_at hl 2 rfl) ?_
    refine lv_aload_n hx hb dd_R_spoil_12 rfl (lv_at hl 0 rfl) ?_
    refine xr_get_R (v := .ref (ad (k + 10))) hx hb hts hown hK hw hk 10 (by decide) (hts _ hw_753) rfl dd_R_spoil_13 ?_
    refine lv_iload_n hx hb dd_R_spoil_16 rfl (lv_at hl 1 rfl) ?_
    obtain ⟨v3, gv3, h⟩ := xs_ob h
    refine xr_iald hx hb hK hw (xs_ok_R_length hK.1 hk) gv3 dd_R_spoil_17 ?_
    obtain ⟨q4, gq4, h⟩ := xs_ob h
    refine xq_i hK hw (va_runS (As := [.int n2, .int v3]) (rest := []) ⟨hx, hb, hml, hown, hts⟩ (xc_R_below l D ad ca ks n2 v3 S q4 gq4 _) ⟨callB_of 2 hts (xs_good hw_871) rfl rfl rfl (hts _ hw_13) (hts _ hw_869) yd_R_below ⟨Nat.le_trans (by decide) hRf, Nat.le_trans (by decide) hRl⟩, (hts _ hw_870)⟩ ⟨xs_blind, fun U h1 h2 => ⟨rfl, xs_pre hK hw h1 h2⟩⟩ rfl rfl hl.1 rfl (lv_room (Nat.le_of_ble_eq_true rfl)) dd_R_spoil_18 ⟨Nat.zero_le _, Nat.zero_le _⟩) (fun H locs hw => ?_)
    refine lv_if_eq hx hb dd_R_spoil_21 rfl (fun b5 => ?_) (fun b5 => ?_)
    · replace h := xs_p b5 h
      refine lv_iconst (v := 0) hx hb dd_R_spoil_36 rfl ?_
      exact hret h hw dd_R_spoil_37
    · replace h := xs_n b5 h
      refine lv_iload_n hx hb dd_R_spoil_24 rfl (lv_at hl 3 rfl) ?_
      refine lv_iconst (v := 1) hx hb dd_R_spoil_25 rfl ?_
      refine lv_icmp_lt hx hb dd_R_spoil_26 rfl (fun b6 => ?_) (fun b6 => ?_)
      · replace h := xs_p b6 h
        refine lv_iconst (v := 0) hx hb dd_R_spoil_36 rfl ?_
        exact hret h hw dd_R_spoil_37
      · replace h := xs_n b6 h
        refine lv_iload_n hx hb dd_R_spoil_29 rfl (lv_at hl 3 rfl) ?_
        refine lv_sipush (v := 255) hx hb dd_R_spoil_30 rfl ?_
        refine lv_icmp_le hx hb dd_R_spoil_33 rfl (fun b7 => ?_) (fun b7 => ?_)
        · replace h := xs_p b7 h
          refine lv_aload_n hx hb dd_R_spoil_38 rfl (lv_at hl 0 rfl) ?_
          refine xr_get_R (v := .ref (ad (k + 9))) hx hb hts hown hK hw hk 9 (by decide) (hts _ hw_752) rfl dd_R_spoil_39 ?_
          refine lv_bipush (v := 32) hx hb dd_R_spoil_42 rfl ?_
          refine lv_iload_n hx hb dd_R_spoil_44 rfl (lv_at hl 1 rfl) ?_
          refine lv_imul hx hb dd_R_spoil_45 ?_
          refine lv_iload_n hx hb dd_R_spoil_46 rfl (lv_at hl 2 rfl) ?_
          refine lv_iadd hx hb dd_R_spoil_47 ?_
          refine lv_aload_n hx hb dd_R_spoil_48 rfl (lv_at hl 0 rfl) ?_
          refine xr_get_R (v := .ref (ad (k + 9))) hx hb hts hown hK hw hk 9 (by decide) (hts _ hw_752) rfl dd_R_spoil_49 ?_
          refine lv_bipush (v := 32) hx hb dd_R_spoil_52 rfl ?_
          refine lv_iload_n hx hb dd_R_spoil_54 rfl (lv_at hl 1 rfl) ?_
          refine lv_imul hx hb dd_R_spoil_55 ?_
          refine lv_iload_n hx hb dd_R_spoil_56 rfl (lv_at hl 2 rfl) ?_
          refine lv_iadd hx hb dd_R_spoil_57 ?_
          obtain ⟨v8, gv8, h⟩ := xs_ob h
          refine xr_iald hx hb hK hw (xs_ok_R_bytes hK.1 hk) gv8 dd_R_spoil_58 ?_
          refine lv_iload_n hx hb dd_R_spoil_59 rfl (lv_at hl 3 rfl) ?_
          refine lv_ixor hx hb dd_R_spoil_60 ?_
          obtain ⟨S9, gS9, h⟩ := xs_ob h
          refine xr_iast hx hb hK hw (xs_ok_R_bytes hK.1 hk) gS9 dd_R_spoil_61 (fun H locs hw => ?_)
          refine lv_iconst (v := 1) hx hb dd_R_spoil_62 rfl ?_
          exact hret h hw dd_R_spoil_63
        · replace h := xs_n b7 h
          refine lv_iconst (v := 0) hx hb dd_R_spoil_36 rfl ?_
          exact hret h hw dd_R_spoil_37
set_option maxHeartbeats 4000000 in
set_option maxRecDepth 100000 in
theorem xc_R_frames (l : Launch) (D : va_G) (ad : Nat → Nat) (ca : Nat → ClassId) (ks : List Nat) (k : Nat) (S : xs_T) (r : Int32) (hk : xs_is ks k xs_cR) (h : xf_R_frames k S = some r) (sz : Nat) : Met l yy_R_frames ws_R_frames { frames := 0, cells := 0, slots := 0, locals := 0 } (va_Pc [.ref (ad k)] (xs_Pre D ad ca ks S sz)) (va_Qi (fun r1 (_ : Unit) => r1 = r) (fun _ t => va_P D xs_cl (xs_w ad ca ks S) t.heap) (xs_A ad ks sz)) 0 0 (xs_A ad ks sz) := by
  refine xm_ir (by decide) (Nat.le_of_ble_eq_true rfl) ?_
  intro p e s m args below meth c R A Q ls hx hb hml hown hts hRf hRl hK hw hl hret
  have hl : lv_has ls 1 [(0, .ref (ad k))] := hl
  unfold xf_R_frames at h
  refine lv_aload_n hx hb dd_R_frames_0 rfl (lv_at hl 0 rfl) ?_
  refine xr_get_R (v := .int (xs_gI S k 12)) hx hb hts hown hK hw hk 12 (by decide) (hts _ hw_755) rfl dd_R_frames_1 ?_
  exact hret h hw dd_R_frames_4
set_option maxHeartbeats 4000000 in
set_option maxRecDepth 100000 in
theorem xc_R_length (l : Launch) (D : va_G) (ad : Nat → Nat) (ca : Nat → ClassId) (ks : List Nat) (k : Nat) (n1 : Int32) (S : xs_T) (r : Int32) (hk : xs_is ks k xs_cR) (h : xf_R_length k n1 S = some r) (sz : Nat) : Met l yy_R_length ws_R_length { frames := 1, cells := 0, slots := 0, locals := 21 } (va_Pc [.ref (ad k), .int n1] (xs_Pre D ad ca ks S sz)) (va_Qi (fun r1 (_ : Unit) => r1 = r) (fun _ t => va_P D xs_cl (xs_w ad ca ks S) t.heap) (xs_A ad ks sz)) 0 0 (xs_A ad ks sz) := by
  refine xm_ir (by decide) (Nat.le_of_ble_eq_true rfl) ?_
  intro p e s m args below meth c R A Q ls hx hb hml hown hts hRf hRl hK hw hl hret
  have hl : lv_has ls 2 [(0, .ref (ad k)), (1, .int n1)] := hl
  unfold xf_R_length at h
  refine lv_iload_n hx hb dd_R_length_0 rfl (lv_at hl 1 rfl) ?_
  refine lv_aload_n hx hb dd_R_length_1 rfl (lv_at hl 0 rfl) ?_
  refine xr_get_R (v := .int (xs_gI S k 12)) hx hb hts hown hK hw hk 12 (by decide) (hts _ hw_755) rfl dd_R_length_2 ?_
  obtain ⟨q1, gq1, h⟩ := xs_ob h
  refine xq_i hK hw (va_runS (As := [.int n1, .int (xs_gI S k 12)]) (rest := []) ⟨hx, hb, hml, hown, hts⟩ (xc_R_below l D ad ca ks n1 (xs_gI S k 12) S q1 gq1 _) ⟨callB_of 2 hts (xs_good hw_871) rfl rfl rfl (hts _ hw_13) (hts _ hw_869) yd_R_below ⟨Nat.le_trans (by decide) hRf, Nat.le_trans (by decide) hRl⟩, (hts _ hw_870)⟩ ⟨xs_blind, fun U h1 h2 => ⟨rfl, xs_pre hK hw h1 h2⟩⟩ rfl rfl hl.1 rfl (lv_room (Nat.le_of_ble_eq_true rfl)) dd_R_length_5 ⟨Nat.zero_le _, Nat.zero_le _⟩) (fun H locs hw => ?_)
  refine lv_if_eq hx hb dd_R_length_8 rfl (fun b2 => ?_) (fun b2 => ?_)
  · replace h := xs_p b2 h
    refine lv_iconst (v := (-1)) hx hb dd_R_length_20 rfl ?_
    exact hret h hw dd_R_length_21
  · replace h := xs_n b2 h
    refine lv_aload_n hx hb dd_R_length_11 rfl (lv_at hl 0 rfl) ?_
    refine xr_get_R (v := .ref (ad (k + 10))) hx hb hts hown hK hw hk 10 (by decide) (hts _ hw_753) rfl dd_R_length_12 ?_
    refine lv_iload_n hx hb dd_R_length_15 rfl (lv_at hl 1 rfl) ?_
    obtain ⟨v3, gv3, h⟩ := xs_ob h
    refine xr_iald hx hb hK hw (xs_ok_R_length hK.1 hk) gv3 dd_R_length_16 ?_
    refine lv_goto hx hb dd_R_length_17 rfl ?_
    exact hret h hw dd_R_length_21
set_option maxHeartbeats 4000000 in
set_option maxRecDepth 100000 in
theorem xc_R_octet (l : Launch) (D : va_G) (ad : Nat → Nat) (ca : Nat → ClassId) (ks : List Nat) (k : Nat) (n1 : Int32) (n2 : Int32) (S : xs_T) (r : Int32) (hk : xs_is ks k xs_cR) (h : xf_R_octet k n1 n2 S = some r) (sz : Nat) : Met l yy_R_octet ws_R_octet { frames := 1, cells := 0, slots := 0, locals := 22 } (va_Pc [.ref (ad k), .int n1, .int n2] (xs_Pre D ad ca ks S sz)) (va_Qi (fun r1 (_ : Unit) => r1 = r) (fun _ t => va_P D xs_cl (xs_w ad ca ks S) t.heap) (xs_A ad ks sz)) 0 0 (xs_A ad ks sz) := by
  refine xm_ir (by decide) (Nat.le_of_ble_eq_true rfl) ?_
  intro p e s m args below meth c R A Q ls hx hb hml hown hts hRf hRl hK hw hl hret
  have hl : lv_has ls 3 [(0, .ref (ad k)), (1, .int n1), (2, .int n2)] := hl
  unfold xf_R_octet at h
  refine lv_iload_n hx hb dd_R_octet_0 rfl (lv_at hl 1 rfl) ?_
  refine lv_aload_n hx hb dd_R_octet_1 rfl (lv_at hl 0 rfl) ?_
  refine xr_get_R (v := .int (xs_gI S k 12)) hx hb hts hown hK hw hk 12 (by decide) (hts _ hw_755) rfl dd_R_octet_2 ?_
  obtain ⟨q1, gq1, h⟩ := xs_ob h
  refine xq_i hK hw (va_runS (As := [.int n1, .int (xs_gI S k 12)]) (rest := []) ⟨hx, hb, hml, hown, hts⟩ (xc_R_below l D ad ca ks n1 (xs_gI S k 12) S q1 gq1 _) ⟨callB_of 2 hts (xs_good hw_871) rfl rfl rfl (hts _ hw_13) (hts _ hw_869) yd_R_below ⟨Nat.le_trans (by decide) hRf, Nat.le_trans (by decide) hRl⟩, (hts _ hw_870)⟩ ⟨xs_blind, fun U h1 h2 => ⟨rfl, xs_pre hK hw h1 h2⟩⟩ rfl rfl hl.1 rfl (lv_room (Nat.le_of_ble_eq_true rfl)) dd_R_octet_5 ⟨Nat.zero_le _, Nat.zero_le _⟩) (fun H locs hw => ?_)
  refine lv_if_eq hx hb dd_R_octet_8 rfl (fun b2 => ?_) (fun b2 => ?_)
  · replace h := xs_p b2 h
    refine lv_iconst (v := (-1)) hx hb dd_R_octet_33 rfl ?_
    exact hret h hw dd_R_octet_34
  · replace h := xs_n b2 h
    refine lv_iload_n hx hb dd_R_octet_11 rfl (lv_at hl 2 rfl) ?_
    refine lv_aload_n hx hb dd_R_octet_12 rfl (lv_at hl 0 rfl) ?_
    refine xr_get_R (v := .ref (ad (k + 10))) hx hb hts hown hK hw hk 10 (by decide) (hts _ hw_753) rfl dd_R_octet_13 ?_
    refine lv_iload_n hx hb dd_R_octet_16 rfl (lv_at hl 1 rfl) ?_
    obtain ⟨v3, gv3, h⟩ := xs_ob h
    refine xr_iald hx hb hK hw (xs_ok_R_length hK.1 hk) gv3 dd_R_octet_17 ?_
    obtain ⟨q4, gq4, h⟩ := xs_ob h
    refine xq_i hK hw (va_runS (As := [.int n2, .int v3]) (rest := []) ⟨hx, hb, hml, hown, hts⟩ (xc_R_below l D ad ca ks n2 v3 S q4 gq4 _) ⟨callB_of 2 hts (xs_good hw_871) rfl rfl rfl (hts _ hw_13) (hts _ hw_869) yd_R_below ⟨Nat.le_trans (by decide) hRf, Nat.le_trans (by decide) hRl⟩, (hts _ hw_870)⟩ ⟨xs_blind, fun U h1 h2 => ⟨rfl, xs_pre hK hw h1 h2⟩⟩ rfl rfl hl.1 rfl (lv_room (Nat.le_of_ble_eq_true rfl)) dd_R_octet_18 ⟨Nat.zero_le _, Nat.zero_le _⟩) (fun H locs hw => ?_)
    refine lv_if_eq hx hb dd_R_octet_21 rfl (fun b5 => ?_) (fun b5 => ?_)
    · replace h := xs_p b5 h
      refine lv_iconst (v := (-1)) hx hb dd_R_octet_33 rfl ?_
      exact hret h hw dd_R_octet_34
    · replace h := xs_n b5 h
      refine lv_aload_n hx hb dd_R_octet_24 rfl (lv_at hl 0 rfl) ?_
      refine lv_iload_n hx hb dd_R_octet_25 rfl (lv_at hl 1 rfl) ?_
      refine lv_iload_n hx hb dd_R_octet_26 rfl (lv_at hl 2 rfl) ?_
      obtain ⟨q6, gq6, h⟩ := xs_ob h
      refine xq_i hK hw (va_runV (As := [.int n1, .int n2]) (rest := []) ⟨hx, hb, hml, hown, hts⟩ (xc_R_at l D ad ca ks k n1 n2 S q6 hk gq6 _) ⟨callB_of 2 hts (xs_good hw_888) rfl rfl rfl (hts _ hw_13) (hts _ hw_885) yd_R_at ⟨Nat.le_trans (by decide) hRf, Nat.le_trans (by decide) hRl⟩, (hts _ hw_887), (hts _ hs_15)⟩ ⟨xs_blind, xs_recv_R hK hw hk, fun U h1 h2 => ⟨rfl, xs_pre hK hw h1 h2⟩⟩ rfl rfl hl.1 rfl (lv_room (Nat.le_of_ble_eq_true rfl)) dd_R_octet_27 ⟨Nat.zero_le _, Nat.zero_le _⟩) (fun H locs hw => ?_)
      refine lv_goto hx hb dd_R_octet_30 rfl ?_
      exact hret h hw dd_R_octet_34
set_option maxHeartbeats 4000000 in
set_option maxRecDepth 100000 in
theorem xc_R_goal (l : Launch) (D : va_G) (ad : Nat → Nat) (ca : Nat → ClassId) (ks : List Nat) (k : Nat) (n1 : Int32) (S : xs_T) (r : Int32) (hk : xs_is ks k xs_cR) (h : xf_R_goal k n1 S = some r) (sz : Nat) : Met l yy_R_goal ws_R_goal { frames := 1, cells := 0, slots := 0, locals := 21 } (va_Pc [.ref (ad k), .int n1] (xs_Pre D ad ca ks S sz)) (va_Qi (fun r1 (_ : Unit) => r1 = r) (fun _ t => va_P D xs_cl (xs_w ad ca ks S) t.heap) (xs_A ad ks sz)) 0 0 (xs_A ad ks sz) := by
  refine xm_ir (by decide) (Nat.le_of_ble_eq_true rfl) ?_
  intro p e s m args below meth c R A Q ls hx hb hml hown hts hRf hRl hK hw hl hret
  have hl : lv_has ls 2 [(0, .ref (ad k)), (1, .int n1)] := hl
  unfold xf_R_goal at h
  refine lv_iload_n hx hb dd_R_goal_0 rfl (lv_at hl 1 rfl) ?_
  refine lv_aload_n hx hb dd_R_goal_1 rfl (lv_at hl 0 rfl) ?_
  refine xr_get_R (v := .int (xs_gI S k 12)) hx hb hts hown hK hw hk 12 (by decide) (hts _ hw_755) rfl dd_R_goal_2 ?_
  obtain ⟨q1, gq1, h⟩ := xs_ob h
  refine xq_i hK hw (va_runS (As := [.int n1, .int (xs_gI S k 12)]) (rest := []) ⟨hx, hb, hml, hown, hts⟩ (xc_R_below l D ad ca ks n1 (xs_gI S k 12) S q1 gq1 _) ⟨callB_of 2 hts (xs_good hw_871) rfl rfl rfl (hts _ hw_13) (hts _ hw_869) yd_R_below ⟨Nat.le_trans (by decide) hRf, Nat.le_trans (by decide) hRl⟩, (hts _ hw_870)⟩ ⟨xs_blind, fun U h1 h2 => ⟨rfl, xs_pre hK hw h1 h2⟩⟩ rfl rfl hl.1 rfl (lv_room (Nat.le_of_ble_eq_true rfl)) dd_R_goal_5 ⟨Nat.zero_le _, Nat.zero_le _⟩) (fun H locs hw => ?_)
  refine lv_if_eq hx hb dd_R_goal_8 rfl (fun b2 => ?_) (fun b2 => ?_)
  · replace h := xs_p b2 h
    refine lv_iconst (v := (-1)) hx hb dd_R_goal_20 rfl ?_
    exact hret h hw dd_R_goal_21
  · replace h := xs_n b2 h
    refine lv_aload_n hx hb dd_R_goal_11 rfl (lv_at hl 0 rfl) ?_
    refine xr_get_R (v := .ref (ad (k + 11))) hx hb hts hown hK hw hk 11 (by decide) (hts _ hw_754) rfl dd_R_goal_12 ?_
    refine lv_iload_n hx hb dd_R_goal_15 rfl (lv_at hl 1 rfl) ?_
    obtain ⟨v3, gv3, h⟩ := xs_ob h
    refine xr_iald hx hb hK hw (xs_ok_R_goal hK.1 hk) gv3 dd_R_goal_16 ?_
    refine lv_goto hx hb dd_R_goal_17 rfl ?_
    exact hret h hw dd_R_goal_21
set_option maxHeartbeats 4000000 in
set_option maxRecDepth 100000 in
theorem xc_R_state (l : Launch) (D : va_G) (ad : Nat → Nat) (ca : Nat → ClassId) (ks : List Nat) (k : Nat) (n1 : Int32) (S : xs_T) (r : Int32) (hk : xs_is ks k xs_cR) (h : xf_R_state k n1 S = some r) (sz : Nat) : Met l yy_R_state ws_R_state { frames := 1, cells := 0, slots := 0, locals := 21 } (va_Pc [.ref (ad k), .int n1] (xs_Pre D ad ca ks S sz)) (va_Qi (fun r1 (_ : Unit) => r1 = r) (fun _ t => va_P D xs_cl (xs_w ad ca ks S) t.heap) (xs_A ad ks sz)) 0 0 (xs_A ad ks sz) := by
  refine xm_ir (by decide) (Nat.le_of_ble_eq_true rfl) ?_
  intro p e s m args below meth c R A Q ls hx hb hml hown hts hRf hRl hK hw hl hret
  have hl : lv_has ls 2 [(0, .ref (ad k)), (1, .int n1)] := hl
  unfold xf_R_state at h
  refine lv_iload_n hx hb dd_R_state_0 rfl (lv_at hl 1 rfl) ?_
  refine lv_iconst (v := 3) hx hb dd_R_state_1 rfl ?_
  obtain ⟨q1, gq1, h⟩ := xs_ob h
  refine xq_i hK hw (va_runS (As := [.int n1, .int 3]) (rest := []) ⟨hx, hb, hml, hown, hts⟩ (xc_R_below l D ad ca ks n1 3 S q1 gq1 _) ⟨callB_of 2 hts (xs_good hw_871) rfl rfl rfl (hts _ hw_13) (hts _ hw_869) yd_R_below ⟨Nat.le_trans (by decide) hRf, Nat.le_trans (by decide) hRl⟩, (hts _ hw_870)⟩ ⟨xs_blind, fun U h1 h2 => ⟨rfl, xs_pre hK hw h1 h2⟩⟩ rfl rfl hl.1 rfl (lv_room (Nat.le_of_ble_eq_true rfl)) dd_R_state_2 ⟨Nat.zero_le _, Nat.zero_le _⟩) (fun H locs hw => ?_)
  refine lv_if_eq hx hb dd_R_state_5 rfl (fun b2 => ?_) (fun b2 => ?_)
  · replace h := xs_p b2 h
    refine lv_iconst (v := (-1)) hx hb dd_R_state_33 rfl ?_
    exact hret h hw dd_R_state_34
  · replace h := xs_n b2 h
    refine lv_aload_n hx hb dd_R_state_8 rfl (lv_at hl 0 rfl) ?_
    refine xr_get_R (v := .ref (ad (k + 12))) hx hb hts hown hK hw hk 14 (by decide) (hts _ hw_757) rfl dd_R_state_9 ?_
    refine lv_iload_n hx hb dd_R_state_12 rfl (lv_at hl 1 rfl) ?_
    obtain ⟨v3, gv3, h⟩ := xs_ob h
    refine xr_iald hx hb hK hw (xs_ok_R_state hK.1 hk) gv3 dd_R_state_13 ?_
    refine lv_aload_n hx hb dd_R_state_14 rfl (lv_at hl 0 rfl) ?_
    refine xr_get_R (v := .ref (ad (k + 13))) hx hb hts hown hK hw hk 15 (by decide) (hts _ hw_758) rfl dd_R_state_15 ?_
    refine lv_iload_n hx hb dd_R_state_18 rfl (lv_at hl 1 rfl) ?_
    obtain ⟨v4, gv4, h⟩ := xs_ob h
    refine xr_zald hx hb hK hw (xs_ok_R_waits hK.1 hk) gv4 dd_R_state_19 ?_
    refine lv_if_eq hx hb dd_R_state_20 rfl (fun b5 => ?_) (fun b5 => ?_)
    · replace h := xs_p b5 h
      refine lv_iconst (v := 0) hx hb dd_R_state_28 rfl ?_
      refine lv_iadd hx hb dd_R_state_29 ?_
      refine lv_goto hx hb dd_R_state_30 rfl ?_
      exact hret h hw dd_R_state_34
    · replace h := xs_n b5 h
      refine lv_bipush (v := 10) hx hb dd_R_state_23 rfl ?_
      refine lv_goto hx hb dd_R_state_25 rfl ?_
      refine lv_iadd hx hb dd_R_state_29 ?_
      refine lv_goto hx hb dd_R_state_30 rfl ?_
      exact hret h hw dd_R_state_34
set_option maxHeartbeats 4000000 in
set_option maxRecDepth 100000 in
theorem xc_R_received (l : Launch) (D : va_G) (ad : Nat → Nat) (ca : Nat → ClassId) (ks : List Nat) (k : Nat) (n1 : Int32) (n2 : Int32) (S : xs_T) (r : Int32) (hk : xs_is ks k xs_cR) (h : xf_R_received k n1 n2 S = some r) (sz : Nat) : Met l yy_R_received ws_R_received { frames := 1, cells := 0, slots := 0, locals := 21 } (va_Pc [.ref (ad k), .int n1, .int n2] (xs_Pre D ad ca ks S sz)) (va_Qi (fun r1 (_ : Unit) => r1 = r) (fun _ t => va_P D xs_cl (xs_w ad ca ks S) t.heap) (xs_A ad ks sz)) 0 0 (xs_A ad ks sz) := by
  refine xm_ir (by decide) (Nat.le_of_ble_eq_true rfl) ?_
  intro p e s m args below meth c R A Q ls hx hb hml hown hts hRf hRl hK hw hl hret
  have hl : lv_has ls 3 [(0, .ref (ad k)), (1, .int n1), (2, .int n2)] := hl
  unfold xf_R_received at h
  refine lv_iload_n hx hb dd_R_received_0 rfl (lv_at hl 1 rfl) ?_
  refine lv_iconst (v := 3) hx hb dd_R_received_1 rfl ?_
  obtain ⟨q1, gq1, h⟩ := xs_ob h
  refine xq_i hK hw (va_runS (As := [.int n1, .int 3]) (rest := []) ⟨hx, hb, hml, hown, hts⟩ (xc_R_below l D ad ca ks n1 3 S q1 gq1 _) ⟨callB_of 2 hts (xs_good hw_871) rfl rfl rfl (hts _ hw_13) (hts _ hw_869) yd_R_below ⟨Nat.le_trans (by decide) hRf, Nat.le_trans (by decide) hRl⟩, (hts _ hw_870)⟩ ⟨xs_blind, fun U h1 h2 => ⟨rfl, xs_pre hK hw h1 h2⟩⟩ rfl rfl hl.1 rfl (lv_room (Nat.le_of_ble_eq_true rfl)) dd_R_received_2 ⟨Nat.zero_le _, Nat.zero_le _⟩) (fun H locs hw => ?_)
  refine lv_if_eq hx hb dd_R_received_5 rfl (fun b2 => ?_) (fun b2 => ?_)
  · replace h := xs_p b2 h
    refine lv_iconst (v := (-1)) hx hb dd_R_received_27 rfl ?_
    exact hret h hw dd_R_received_28
  · replace h := xs_n b2 h
    refine lv_aload_n hx hb dd_R_received_8 rfl (lv_at hl 0 rfl) ?_
    refine xr_get_R (v := .ref (ad (k + 34))) hx hb hts hown hK hw hk 37 (by decide) (hts _ hw_780) rfl dd_R_received_9 ?_
    refine lv_iload_n hx hb dd_R_received_12 rfl (lv_at hl 2 rfl) ?_
    refine lv_if_eq hx hb dd_R_received_13 rfl (fun b3 => ?_) (fun b3 => ?_)
    · replace h := xs_p b3 h
      refine lv_iconst (v := 3) hx hb dd_R_received_20 rfl ?_
      refine lv_iload_n hx hb dd_R_received_21 rfl (lv_at hl 1 rfl) ?_
      refine lv_iadd hx hb dd_R_received_22 ?_
      obtain ⟨v4, gv4, h⟩ := xs_ob h
      refine xr_iald hx hb hK hw (xs_ok_R_got hK.1 hk) gv4 dd_R_received_23 ?_
      refine lv_goto hx hb dd_R_received_24 rfl ?_
      exact hret h hw dd_R_received_28
    · replace h := xs_n b3 h
      refine lv_iload_n hx hb dd_R_received_16 rfl (lv_at hl 1 rfl) ?_
      refine lv_goto hx hb dd_R_received_17 rfl ?_
      obtain ⟨v5, gv5, h⟩ := xs_ob h
      refine xr_iald hx hb hK hw (xs_ok_R_got hK.1 hk) gv5 dd_R_received_23 ?_
      refine lv_goto hx hb dd_R_received_24 rfl ?_
      exact hret h hw dd_R_received_28
set_option maxHeartbeats 4000000 in
set_option maxRecDepth 100000 in
theorem xc_R_payload (l : Launch) (D : va_G) (ad : Nat → Nat) (ca : Nat → ClassId) (ks : List Nat) (k : Nat) (n1 : Int32) (n2 : Int32) (n3 : Int32) (S : xs_T) (r : Int64) (hk : xs_is ks k xs_cR) (h : xf_R_payload k n1 n2 n3 S = some r) (sz : Nat) : Met l yy_R_payload ws_R_payload { frames := 1, cells := 0, slots := 0, locals := 21 } (va_Pc [.ref (ad k), .int n1, .int n2, .int n3] (xs_Pre D ad ca ks S sz)) (va_Ql (fun r1 (_ : Unit) => r1 = r) (fun _ t => va_P D xs_cl (xs_w ad ca ks S) t.heap) (xs_A ad ks sz)) 0 0 (xs_A ad ks sz) := by
  refine xm_lr (by decide) (Nat.le_of_ble_eq_true rfl) ?_
  intro p e s m args below meth c R A Q ls hx hb hml hown hts hRf hRl hK hw hl hret
  have hl : lv_has ls 5 [(0, .ref (ad k)), (1, .int n1), (2, .int n2), (3, .int n3)] := hl
  have w_11 : ∀ (t0 : Int32) (H : Heap) (locs : List Loc) (ls : Array Slot), xs_I D ad ca ks A s S H locs → lv_has ls 5 [(0, .ref (ad k)), (1, .int n1), (3, .int n3)] → xf_R_payload_11 k n1 n2 n3 S t0 = some r → W p l e R s m args below meth c H locs 0 0 Q (F0 m 11 ls [.int t0]) := by
    intro t0 H locs ls hw hl h
    unfold xf_R_payload_11 at h
    refine lv_istore hx hb dd_R_payload_11 hl (by decide) rfl (fun ls hl => ?_)
    have hl : lv_has ls 5 [(4, .int t0), (0, .ref (ad k)), (1, .int n1), (3, .int n3)] := hl
    refine lv_iload_n hx hb dd_R_payload_13 rfl (lv_at hl 2 rfl) ?_
    refine lv_iconst (v := 3) hx hb dd_R_payload_14 rfl ?_
    obtain ⟨q2, gq2, h⟩ := xs_ob h
    refine xq_i hK hw (va_runS (As := [.int n1, .int 3]) (rest := []) ⟨hx, hb, hml, hown, hts⟩ (xc_R_below l D ad ca ks n1 3 S q2 gq2 _) ⟨callB_of 2 hts (xs_good hw_871) rfl rfl rfl (hts _ hw_13) (hts _ hw_869) yd_R_below ⟨Nat.le_trans (by decide) hRf, Nat.le_trans (by decide) hRl⟩, (hts _ hw_870)⟩ ⟨xs_blind, fun U h1 h2 => ⟨rfl, xs_pre hK hw h1 h2⟩⟩ rfl rfl hl.1 rfl (lv_room (Nat.le_of_ble_eq_true rfl)) dd_R_payload_15 ⟨Nat.zero_le _, Nat.zero_le _⟩) (fun H locs hw => ?_)
    refine lv_if_eq hx hb dd_R_payload_18 rfl (fun b3 => ?_) (fun b3 => ?_)
    · replace h := xs_p b3 h
      refine lv_ldc2 (v := (-1)) hx hb hown (hts _ hw_1092) dd_R_payload_48 ?_
      exact hret h hw dd_R_payload_51
    · replace h := xs_n b3 h
      refine lv_iload_n hx hb dd_R_payload_21 rfl (lv_at hl 3 rfl) ?_
      refine lv_aload_n hx hb dd_R_payload_22 rfl (lv_at hl 1 rfl) ?_
      refine xr_get_R (v := .ref (ad (k + 34))) hx hb hts hown hK hw hk 37 (by decide) (hts _ hw_780) rfl dd_R_payload_23 ?_
      refine lv_iload hx hb dd_R_payload_26 (lv_at hl 0 rfl) ?_
      obtain ⟨v4, gv4, h⟩ := xs_ob h
      refine xr_iald hx hb hK hw (xs_ok_R_got hK.1 hk) gv4 dd_R_payload_28 ?_
      obtain ⟨q5, gq5, h⟩ := xs_ob h
      refine xq_i hK hw (va_runS (As := [.int n3, .int v4]) (rest := []) ⟨hx, hb, hml, hown, hts⟩ (xc_R_below l D ad ca ks n3 v4 S q5 gq5 _) ⟨callB_of 2 hts (xs_good hw_871) rfl rfl rfl (hts _ hw_13) (hts _ hw_869) yd_R_below ⟨Nat.le_trans (by decide) hRf, Nat.le_trans (by decide) hRl⟩, (hts _ hw_870)⟩ ⟨xs_blind, fun U h1 h2 => ⟨rfl, xs_pre hK hw h1 h2⟩⟩ rfl rfl hl.1 rfl (lv_room (Nat.le_of_ble_eq_true rfl)) dd_R_payload_29 ⟨Nat.zero_le _, Nat.zero_le _⟩) (fun H locs hw => ?_)
      refine lv_if_eq hx hb dd_R_payload_32 rfl (fun b6 => ?_) (fun b6 => ?_)
      · replace h := xs_p b6 h
        refine lv_ldc2 (v := (-1)) hx hb hown (hts _ hw_1092) dd_R_payload_48 ?_
        exact hret h hw dd_R_payload_51
      · replace h := xs_n b6 h
        refine lv_iload_n hx hb dd_R_payload_35 rfl (lv_at hl 3 rfl) ?_
        refine lv_aload_n hx hb dd_R_payload_36 rfl (lv_at hl 1 rfl) ?_
        refine xr_get_R (v := .ref (ad (k + 34))) hx hb hts hown hK hw hk 37 (by decide) (hts _ hw_780) rfl dd_R_payload_37 ?_
        refine lv_iload hx hb dd_R_payload_40 (lv_at hl 0 rfl) ?_
        obtain ⟨v7, gv7, h⟩ := xs_ob h
        refine xr_iald hx hb hK hw (xs_ok_R_got hK.1 hk) gv7 dd_R_payload_42 ?_
        refine lv_iconst (v := 4) hx hb dd_R_payload_43 rfl ?_
        refine lv_isub hx hb dd_R_payload_44 ?_
        refine lv_icmp_ge hx hb dd_R_payload_45 rfl (fun b8 => ?_) (fun b8 => ?_)
        · replace h := xs_p b8 h
          refine lv_aload_n hx hb dd_R_payload_52 rfl (lv_at hl 1 rfl) ?_
          refine xr_get_R (v := .ref (ad (k + 35))) hx hb hts hown hK hw hk 38 (by decide) (hts _ hw_781) rfl dd_R_payload_53 ?_
          refine lv_iconst (v := 4) hx hb dd_R_payload_56 rfl ?_
          refine lv_iload hx hb dd_R_payload_57 (lv_at hl 0 rfl) ?_
          refine lv_imul hx hb dd_R_payload_59 ?_
          refine lv_iload_n hx hb dd_R_payload_60 rfl (lv_at hl 3 rfl) ?_
          refine lv_iconst (v := 4) hx hb dd_R_payload_61 rfl ?_
          refine lv_irem hx hb dd_R_payload_62 (by decide) ?_
          refine lv_asI (v := xs_rem n3 4) rfl ?_
          refine lv_iadd hx hb dd_R_payload_63 ?_
          obtain ⟨v9, gv9, h⟩ := xs_ob h
          refine xr_lald hx hb hK hw (xs_ok_R_values hK.1 hk) gv9 dd_R_payload_64 ?_
          exact hret h hw dd_R_payload_65
        · replace h := xs_n b8 h
          refine lv_ldc2 (v := (-1)) hx hb hown (hts _ hw_1092) dd_R_payload_48 ?_
          exact hret h hw dd_R_payload_51
  unfold xf_R_payload at h
  refine lv_iload_n hx hb dd_R_payload_0 rfl (lv_at hl 2 rfl) ?_
  refine lv_if_eq hx hb dd_R_payload_1 rfl (fun b1 => ?_) (fun b1 => ?_)
  · replace h := xs_p b1 h
    refine lv_iconst (v := 3) hx hb dd_R_payload_8 rfl ?_
    refine lv_iload_n hx hb dd_R_payload_9 rfl (lv_at hl 1 rfl) ?_
    refine lv_iadd hx hb dd_R_payload_10 ?_
    exact w_11 (3 + n1) _ _ _ hw (lv_sub hl [0, 1, 3] rfl) h
  · replace h := xs_n b1 h
    refine lv_iload_n hx hb dd_R_payload_4 rfl (lv_at hl 1 rfl) ?_
    refine lv_goto hx hb dd_R_payload_5 rfl ?_
    exact w_11 n1 _ _ _ hw (lv_sub hl [0, 1, 3] rfl) h
set_option maxHeartbeats 4000000 in
set_option maxRecDepth 100000 in
theorem xc_R_tally (l : Launch) (D : va_G) (ad : Nat → Nat) (ca : Nat → ClassId) (ks : List Nat) (k : Nat) (n1 : Int32) (n2 : Int32) (S : xs_T) (r : Int32) (hk : xs_is ks k xs_cR) (h : xf_R_tally k n1 n2 S = some r) (sz : Nat) : Met l yy_R_tally ws_R_tally { frames := 1, cells := 0, slots := 0, locals := 21 } (va_Pc [.ref (ad k), .int n1, .int n2] (xs_Pre D ad ca ks S sz)) (va_Qi (fun r1 (_ : Unit) => r1 = r) (fun _ t => va_P D xs_cl (xs_w ad ca ks S) t.heap) (xs_A ad ks sz)) 0 0 (xs_A ad ks sz) := by
  refine xm_ir (by decide) (Nat.le_of_ble_eq_true rfl) ?_
  intro p e s m args below meth c R A Q ls hx hb hml hown hts hRf hRl hK hw hl hret
  have hl : lv_has ls 3 [(0, .ref (ad k)), (1, .int n1), (2, .int n2)] := hl
  unfold xf_R_tally at h
  refine lv_iload_n hx hb dd_R_tally_0 rfl (lv_at hl 1 rfl) ?_
  refine lv_iconst (v := 3) hx hb dd_R_tally_1 rfl ?_
  obtain ⟨q1, gq1, h⟩ := xs_ob h
  refine xq_i hK hw (va_runS (As := [.int n1, .int 3]) (rest := []) ⟨hx, hb, hml, hown, hts⟩ (xc_R_below l D ad ca ks n1 3 S q1 gq1 _) ⟨callB_of 2 hts (xs_good hw_871) rfl rfl rfl (hts _ hw_13) (hts _ hw_869) yd_R_below ⟨Nat.le_trans (by decide) hRf, Nat.le_trans (by decide) hRl⟩, (hts _ hw_870)⟩ ⟨xs_blind, fun U h1 h2 => ⟨rfl, xs_pre hK hw h1 h2⟩⟩ rfl rfl hl.1 rfl (lv_room (Nat.le_of_ble_eq_true rfl)) dd_R_tally_2 ⟨Nat.zero_le _, Nat.zero_le _⟩) (fun H locs hw => ?_)
  refine lv_if_eq hx hb dd_R_tally_5 rfl (fun b2 => ?_) (fun b2 => ?_)
  · replace h := xs_p b2 h
    refine lv_iconst (v := (-1)) hx hb dd_R_tally_16 rfl ?_
    refine lv_goto hx hb dd_R_tally_17 rfl ?_
    exact hret h hw dd_R_tally_44
  · replace h := xs_n b2 h
    refine lv_iload_n hx hb dd_R_tally_8 rfl (lv_at hl 2 rfl) ?_
    refine lv_iconst (v := 4) hx hb dd_R_tally_9 rfl ?_
    obtain ⟨q3, gq3, h⟩ := xs_ob h
    refine xq_i hK hw (va_runS (As := [.int n2, .int 4]) (rest := []) ⟨hx, hb, hml, hown, hts⟩ (xc_R_below l D ad ca ks n2 4 S q3 gq3 _) ⟨callB_of 2 hts (xs_good hw_871) rfl rfl rfl (hts _ hw_13) (hts _ hw_869) yd_R_below ⟨Nat.le_trans (by decide) hRf, Nat.le_trans (by decide) hRl⟩, (hts _ hw_870)⟩ ⟨xs_blind, fun U h1 h2 => ⟨rfl, xs_pre hK hw h1 h2⟩⟩ rfl rfl hl.1 rfl (lv_room (Nat.le_of_ble_eq_true rfl)) dd_R_tally_10 ⟨Nat.zero_le _, Nat.zero_le _⟩) (fun H locs hw => ?_)
    refine lv_if_ne hx hb dd_R_tally_13 rfl (fun b4 => ?_) (fun b4 => ?_)
    · replace h := xs_n b4 h
      refine lv_iload_n hx hb dd_R_tally_20 rfl (lv_at hl 2 rfl) ?_
      refine lv_iconst (v := 3) hx hb dd_R_tally_21 rfl ?_
      refine lv_icmp_ne hx hb dd_R_tally_22 rfl (fun b5 => ?_) (fun b5 => ?_)
      · replace h := xs_n b5 h
        refine lv_aload_n hx hb dd_R_tally_34 rfl (lv_at hl 0 rfl) ?_
        refine xr_get_R (v := .ref (ad (k + 36))) hx hb hts hown hK hw hk 39 (by decide) (hts _ hw_782) rfl dd_R_tally_35 ?_
        refine lv_iconst (v := 3) hx hb dd_R_tally_38 rfl ?_
        refine lv_iload_n hx hb dd_R_tally_39 rfl (lv_at hl 1 rfl) ?_
        refine lv_imul hx hb dd_R_tally_40 ?_
        refine lv_iload_n hx hb dd_R_tally_41 rfl (lv_at hl 2 rfl) ?_
        refine lv_iadd hx hb dd_R_tally_42 ?_
        obtain ⟨v6, gv6, h⟩ := xs_ob h
        refine xr_iald hx hb hK hw (xs_ok_R_tallies hK.1 hk) gv6 dd_R_tally_43 ?_
        exact hret h hw dd_R_tally_44
      · replace h := xs_p b5 h
        refine lv_aload_n hx hb dd_R_tally_25 rfl (lv_at hl 0 rfl) ?_
        refine xr_get_R (v := .ref (ad (k + 21))) hx hb hts hown hK hw hk 24 (by decide) (hts _ hw_767) rfl dd_R_tally_26 ?_
        refine lv_iload_n hx hb dd_R_tally_29 rfl (lv_at hl 1 rfl) ?_
        obtain ⟨v7, gv7, h⟩ := xs_ob h
        refine xr_iald hx hb hK hw (xs_ok_R_sessions hK.1 hk) gv7 dd_R_tally_30 ?_
        refine lv_goto hx hb dd_R_tally_31 rfl ?_
        exact hret h hw dd_R_tally_44
    · replace h := xs_p b4 h
      refine lv_iconst (v := (-1)) hx hb dd_R_tally_16 rfl ?_
      refine lv_goto hx hb dd_R_tally_17 rfl ?_
      exact hret h hw dd_R_tally_44
