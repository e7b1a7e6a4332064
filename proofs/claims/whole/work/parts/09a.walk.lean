set_option maxHeartbeats 4000000 in
set_option maxRecDepth 100000 in
theorem xc_W_number (l : Launch) (D : va_G) (ad : Nat → Nat) (ca : Nat → ClassId) (ks : List Nat) (a0 : Nat) (n1 : Int32) (n2 : Int32) (S : xs_T) (r : Int32) (ha0 : xs_is ks a0 50) (h : xf_W_number a0 n1 n2 S = some r) (sz : Nat) : Met l yy_W_number ws_W_number { frames := 0, cells := 0, slots := 0, locals := 0 } (va_Pc [.ref (ad a0), .int n1, .int n2] (xs_Pre D ad ca ks S sz)) (va_Qi (fun r1 (_ : Unit) => r1 = r) (fun _ t => va_P D xs_cl (xs_w ad ca ks S) t.heap) (xs_A ad ks sz)) 0 0 (xs_A ad ks sz) := by
  refine xm_ir (by decide) (Nat.le_of_ble_eq_true rfl) ?_
  intro p e s m args below meth c R A Q ls hx hb hml hown hts hRf hRl hK hw hl hret
  have hl : lv_has ls 5 [(0, .ref (ad a0)), (1, .int n1), (2, .int n2)] := hl
  have w_5 : ∀ (f : Nat), ∀ (i3 : Int32) (i4 : Int32) (H : Heap) (locs : List Loc) (ls : Array Slot), xs_I D ad ca ks A s S H locs → lv_has ls 5 [(0, .ref (ad a0)), (1, .int n1), (2, .int n2), (3, .int i3), (4, .int i4)] → xf_W_number_5 a0 n1 n2 S f i3 i4 = some r → W p l e R s m args below meth c H locs 0 0 Q (F0 m 5 ls []) := by
    intro f
    induction f with
    | zero => intro i3 i4 H locs ls hw hl h; exact absurd h (by simp [xf_W_number_5])
    | succ f ih =>
      intro i3 i4 H locs ls hw hl h
      rw [xf_W_number_5] at h
      refine lv_iload hx hb dd_W_number_5 (lv_at hl 4 rfl) ?_
      refine lv_iload_n hx hb dd_W_number_7 rfl (lv_at hl 2 rfl) ?_
      refine lv_icmp_ge hx hb dd_W_number_8 rfl (fun b1 => ?_) (fun b1 => ?_)
      · replace h := xs_p b1 h
        refine lv_iload_n hx hb dd_W_number_32 rfl (lv_at hl 3 rfl) ?_
        exact hret h hw dd_W_number_33
      · replace h := xs_n b1 h
        refine lv_iload_n hx hb dd_W_number_11 rfl (lv_at hl 3 rfl) ?_
        refine lv_aload_n hx hb dd_W_number_12 rfl (lv_at hl 0 rfl) ?_
        refine lv_iload_n hx hb dd_W_number_13 rfl (lv_at hl 1 rfl) ?_
        refine lv_iload hx hb dd_W_number_14 (lv_at hl 4 rfl) ?_
        refine lv_iadd hx hb dd_W_number_16 ?_
        obtain ⟨v2, gv2, h⟩ := xs_ob h
        refine xr_iald hx hb hK hw ha0 gv2 dd_W_number_17 ?_
        refine lv_bipush (v := 8) hx hb dd_W_number_18 rfl ?_
        refine lv_iload hx hb dd_W_number_20 (lv_at hl 4 rfl) ?_
        refine lv_imul hx hb dd_W_number_22 ?_
        refine lv_ishl hx hb dd_W_number_23 ?_
        refine lv_ior hx hb dd_W_number_24 ?_
        obtain ⟨v3, gv3, h⟩ := xs_ob h
        refine lv_namI gv3 ?_
        refine lv_istore_n hx hb dd_W_number_25 rfl hl (by decide) rfl (fun ls hl => ?_)
        have hl : lv_has ls 5 [(3, .int v3), (0, .ref (ad a0)), (1, .int n1), (2, .int n2), (4, .int i4)] := hl
        refine lv_iinc (k := 4) (v := i4 + 1) hx hb dd_W_number_26 hl rfl rfl (by decide) rfl (fun ls hl => ?_)
        have hl : lv_has ls 5 [(4, .int (i4 + 1)), (3, .int v3), (0, .ref (ad a0)), (1, .int n1), (2, .int n2)] := hl
        refine lv_goto hx hb dd_W_number_29 rfl ?_
        exact ih v3 (i4 + 1) _ _ _ hw (lv_sub hl [2, 3, 4, 1, 0] rfl) h
  unfold xf_W_number at h
  refine lv_iconst (v := 0) hx hb dd_W_number_0 rfl ?_
  refine lv_istore_n hx hb dd_W_number_1 rfl hl (by decide) rfl (fun ls hl => ?_)
  have hl : lv_has ls 5 [(3, .int 0), (0, .ref (ad a0)), (1, .int n1), (2, .int n2)] := hl
  refine lv_iconst (v := 0) hx hb dd_W_number_2 rfl ?_
  refine lv_istore hx hb dd_W_number_3 hl (by decide) rfl (fun ls hl => ?_)
  have hl : lv_has ls 5 [(4, .int 0), (3, .int 0), (0, .ref (ad a0)), (1, .int n1), (2, .int n2)] := hl
  exact w_5 xs_fuel 0 0 _ _ _ hw (lv_sub hl [2, 3, 4, 1, 0] rfl) h
set_option maxHeartbeats 4000000 in
set_option maxRecDepth 100000 in
theorem xc_C_gathered (l : Launch) (D : va_G) (ad : Nat → Nat) (ca : Nat → ClassId) (ks : List Nat) (a0 : Nat) (n1 : Int32) (n2 : Int32) (n3 : Int32) (n4 : Int32) (S : xs_T) (r : Int32) (ha0 : xs_kd a0 = 60) (h : xf_C_gathered a0 n1 n2 n3 n4 = some r) (sz : Nat) : Met l yy_C_gathered ws_C_gathered { frames := 0, cells := 0, slots := 0, locals := 0 } (va_Pc [.ref (ad a0), .int n1, .int n2, .int n3, .int n4] (xs_Pre D ad ca ks S sz)) (va_Qi (fun r1 (_ : Unit) => r1 = r) (fun _ t => va_P D xs_cl (xs_w ad ca ks S) t.heap) (xs_A ad ks sz)) 0 0 (xs_A ad ks sz) := by
  refine xm_ir (by decide) (Nat.le_of_ble_eq_true rfl) ?_
  intro p e s m args below meth c R A Q ls hx hb hml hown hts hRf hRl hK hw hl hret
  have hl : lv_has ls 5 [(0, .ref (ad a0)), (1, .int n1), (2, .int n2), (3, .int n3), (4, .int n4)] := hl
  unfold xf_C_gathered at h
  refine lv_aload_n hx hb dd_C_gathered_0 rfl (lv_at hl 0 rfl) ?_
  refine lv_iload_n hx hb dd_C_gathered_1 rfl (lv_at hl 1 rfl) ?_
  refine lv_sipush (v := 255) hx hb dd_C_gathered_2 rfl ?_
  refine lv_iand hx hb dd_C_gathered_5 ?_
  obtain ⟨v1, gv1, h⟩ := xs_ob h
  refine xr_tald hx hb hK hw ha0 gv1 dd_C_gathered_6 ?_
  refine lv_aload_n hx hb dd_C_gathered_7 rfl (lv_at hl 0 rfl) ?_
  refine lv_iload_n hx hb dd_C_gathered_8 rfl (lv_at hl 2 rfl) ?_
  refine lv_bipush (v := 8) hx hb dd_C_gathered_9 rfl ?_
  refine lv_iushr (v := xs_ush n2 8) hx hb dd_C_gathered_11 rfl ?_
  refine lv_sipush (v := 255) hx hb dd_C_gathered_12 rfl ?_
  refine lv_iand hx hb dd_C_gathered_15 ?_
  obtain ⟨v2, gv2, h⟩ := xs_ob h
  refine xr_tald hx hb hK hw ha0 gv2 dd_C_gathered_16 ?_
  refine lv_bipush (v := 8) hx hb dd_C_gathered_17 rfl ?_
  refine lv_ishl hx hb dd_C_gathered_19 ?_
  refine lv_ior hx hb dd_C_gathered_20 ?_
  refine lv_aload_n hx hb dd_C_gathered_21 rfl (lv_at hl 0 rfl) ?_
  refine lv_iload_n hx hb dd_C_gathered_22 rfl (lv_at hl 3 rfl) ?_
  refine lv_bipush (v := 16) hx hb dd_C_gathered_23 rfl ?_
  refine lv_iushr (v := xs_ush n3 16) hx hb dd_C_gathered_25 rfl ?_
  refine lv_sipush (v := 255) hx hb dd_C_gathered_26 rfl ?_
  refine lv_iand hx hb dd_C_gathered_29 ?_
  obtain ⟨v3, gv3, h⟩ := xs_ob h
  refine xr_tald hx hb hK hw ha0 gv3 dd_C_gathered_30 ?_
  refine lv_bipush (v := 16) hx hb dd_C_gathered_31 rfl ?_
  refine lv_ishl hx hb dd_C_gathered_33 ?_
  refine lv_ior hx hb dd_C_gathered_34 ?_
  refine lv_aload_n hx hb dd_C_gathered_35 rfl (lv_at hl 0 rfl) ?_
  refine lv_iload hx hb dd_C_gathered_36 (lv_at hl 4 rfl) ?_
  refine lv_bipush (v := 24) hx hb dd_C_gathered_38 rfl ?_
  refine lv_iushr (v := xs_ush n4 24) hx hb dd_C_gathered_40 rfl ?_
  obtain ⟨v4, gv4, h⟩ := xs_ob h
  refine xr_tald hx hb hK hw ha0 gv4 dd_C_gathered_41 ?_
  refine lv_bipush (v := 24) hx hb dd_C_gathered_42 rfl ?_
  refine lv_ishl hx hb dd_C_gathered_44 ?_
  refine lv_ior hx hb dd_C_gathered_45 ?_
  exact hret h hw dd_C_gathered_46
set_option maxHeartbeats 4000000 in
set_option maxRecDepth 100000 in
theorem xc_C_doubled (l : Launch) (D : va_G) (ad : Nat → Nat) (ca : Nat → ClassId) (ks : List Nat) (n0 : Int32) (S : xs_T) (r : Int32) (h : xf_C_doubled n0 = some r) (sz : Nat) : Met l yy_C_doubled ws_C_doubled { frames := 0, cells := 0, slots := 0, locals := 0 } (va_Pc [.int n0] (xs_Pre D ad ca ks S sz)) (va_Qi (fun r1 (_ : Unit) => r1 = r) (fun _ t => va_P D xs_cl (xs_w ad ca ks S) t.heap) (xs_A ad ks sz)) 0 0 (xs_A ad ks sz) := by
  refine xm_ir (by decide) (Nat.le_of_ble_eq_true rfl) ?_
  intro p e s m args below meth c R A Q ls hx hb hml hown hts hRf hRl hK hw hl hret
  have hl : lv_has ls 1 [(0, .int n0)] := hl
  unfold xf_C_doubled at h
  refine lv_iload_n hx hb dd_C_doubled_0 rfl (lv_at hl 0 rfl) ?_
  refine lv_ldc (v := 2139062143) hx hb hown (hts _ hw_126) dd_C_doubled_1 ?_
  refine lv_iand hx hb dd_C_doubled_3 ?_
  refine lv_iconst (v := 1) hx hb dd_C_doubled_4 rfl ?_
  refine lv_ishl hx hb dd_C_doubled_5 ?_
  refine lv_iload_n hx hb dd_C_doubled_6 rfl (lv_at hl 0 rfl) ?_
  refine lv_bipush (v := 7) hx hb dd_C_doubled_7 rfl ?_
  refine lv_iushr (v := xs_ush n0 7) hx hb dd_C_doubled_9 rfl ?_
  refine lv_ldc (v := 16843009) hx hb hown (hts _ hw_127) dd_C_doubled_10 ?_
  refine lv_iand hx hb dd_C_doubled_12 ?_
  refine lv_bipush (v := 27) hx hb dd_C_doubled_13 rfl ?_
  refine lv_imul hx hb dd_C_doubled_15 ?_
  refine lv_ixor hx hb dd_C_doubled_16 ?_
  exact hret h hw dd_C_doubled_17
set_option maxHeartbeats 4000000 in
set_option maxRecDepth 100000 in
theorem xc_C_takeKey (l : Launch) (D : va_G) (ad : Nat → Nat) (ca : Nat → ClassId) (ks : List Nat) (k : Nat) (a1 : Nat) (S : xs_T) (T : xs_T) (hk : xs_is ks k xs_cC) (ha1 : xs_is ks a1 50) (h : xf_C_takeKey k a1 S = some T) (sz : Nat) : Met l yy_C_takeKey ws_C_takeKey { frames := 1, cells := 0, slots := 0, locals := 24 } (va_Pc [.ref (ad k), .ref (ad a1)] (xs_Pre D ad ca ks S sz)) (va_Qv (fun _ : Unit => True) (fun _ t => va_P D xs_cl (xs_w ad ca ks T) t.heap) (xs_A ad ks sz)) 0 0 (xs_A ad ks sz) := by
  refine xm_v (by decide) (Nat.le_of_ble_eq_true rfl) ?_
  intro p e s m args below meth c R A Q ls hx hb hml hown hts hRf hRl hK hw hl hret
  have hl : lv_has ls 6 [(0, .ref (ad k)), (1, .ref (ad a1))] := hl
  have w_92 : ∀ (c31 : Int32 → Int32 → xs_T → Option (xs_T)) (y31 : ∀ (i2 : Int32) (i3 : Int32) (S : xs_T) (H : Heap) (locs : List Loc) (ls : Array Slot), xs_I D ad ca ks A s S H locs → lv_has ls 6 [(0, .ref (ad k)), (2, .int i2), (3, .int i3)] → c31 i2 i3 S = some T → W p l e R s m args below meth c H locs 0 0 Q (F0 m 31 ls [])), ∀ (i2 : Int32) (i3 : Int32) (i4 : Int32) (S : xs_T) (H : Heap) (locs : List Loc) (ls : Array Slot), xs_I D ad ca ks A s S H locs → lv_has ls 6 [(0, .ref (ad k)), (2, .int i2), (3, .int i3), (4, .int i4)] → xf_C_takeKey_92 k a1 c31 i2 i3 i4 S = some T → W p l e R s m args below meth c H locs 0 0 Q (F0 m 92 ls []) := by
    intro c31 y31 i2 i3 i4 S H locs ls hw hl h
    unfold xf_C_takeKey_92 at h
    refine lv_aload_n hx hb dd_C_takeKey_92 rfl (lv_at hl 0 rfl) ?_
    refine xr_get_C (v := .ref (ad (k + 1))) hx hb hts hown hK hw hk 0 (by decide) (hts _ hw_88) rfl dd_C_takeKey_93 ?_
    refine lv_iload_n hx hb dd_C_takeKey_96 rfl (lv_at hl 2 rfl) ?_
    refine lv_aload_n hx hb dd_C_takeKey_97 rfl (lv_at hl 0 rfl) ?_
    refine xr_get_C (v := .ref (ad (k + 1))) hx hb hts hown hK hw hk 0 (by decide) (hts _ hw_88) rfl dd_C_takeKey_98 ?_
    refine lv_iload_n hx hb dd_C_takeKey_101 rfl (lv_at hl 2 rfl) ?_
    refine lv_iconst (v := 4) hx hb dd_C_takeKey_102 rfl ?_
    refine lv_isub hx hb dd_C_takeKey_103 ?_
    obtain ⟨v5, gv5, h⟩ := xs_ob h
    refine xr_iald hx hb hK hw (xs_ok_C_roundKeys hK.1 hk) gv5 dd_C_takeKey_104 ?_
    refine lv_iload hx hb dd_C_takeKey_105 (lv_at hl 3 rfl) ?_
    refine lv_ixor hx hb dd_C_takeKey_107 ?_
    obtain ⟨S6, gS6, h⟩ := xs_ob h
    refine xr_iast hx hb hK hw (xs_ok_C_roundKeys hK.1 hk) gS6 dd_C_takeKey_108 (fun H locs hw => ?_)
    refine lv_iinc (k := 2) (v := i3 + 1) hx hb dd_C_takeKey_109 hl rfl rfl (by decide) rfl (fun ls hl => ?_)
    have hl : lv_has ls 6 [(3, .int (i3 + 1)), (0, .ref (ad k)), (2, .int i2), (4, .int i4)] := hl
    refine lv_goto hx hb dd_C_takeKey_112 rfl ?_
    exact y31 i2 (i3 + 1) S6 _ _ _ hw (lv_sub hl [1, 2, 0] rfl) h
  have w_31 : ∀ (f : Nat), ∀ (i2 : Int32) (i3 : Int32) (S : xs_T) (H : Heap) (locs : List Loc) (ls : Array Slot), xs_I D ad ca ks A s S H locs → lv_has ls 6 [(0, .ref (ad k)), (2, .int i2), (3, .int i3)] → xf_C_takeKey_31 k a1 f i2 i3 S = some T → W p l e R s m args below meth c H locs 0 0 Q (F0 m 31 ls []) := by
    intro f
    induction f with
    | zero => intro i2 i3 S H locs ls hw hl h; exact absurd h (by simp [xf_C_takeKey_31])
    | succ f ih =>
      intro i2 i3 S H locs ls hw hl h
      rw [xf_C_takeKey_31] at h
      refine lv_iload_n hx hb dd_C_takeKey_31 rfl (lv_at hl 2 rfl) ?_
      refine lv_aload_n hx hb dd_C_takeKey_32 rfl (lv_at hl 0 rfl) ?_
      refine xr_get_C (v := .ref (ad (k + 1))) hx hb hts hown hK hw hk 0 (by decide) (hts _ hw_88) rfl dd_C_takeKey_33 ?_
      refine xr_alen_A hx hb hK hw (xs_ok_C_roundKeys hK.1 hk) dd_C_takeKey_36 ?_
      refine lv_icmp_ge hx hb dd_C_takeKey_37 rfl (fun b2 => ?_) (fun b2 => ?_)
      · replace h := xs_p b2 h
        exact hret h hw dd_C_takeKey_115
      · replace h := xs_n b2 h
        refine lv_aload_n hx hb dd_C_takeKey_40 rfl (lv_at hl 0 rfl) ?_
        refine xr_get_C (v := .ref (ad (k + 1))) hx hb hts hown hK hw hk 0 (by decide) (hts _ hw_88) rfl dd_C_takeKey_41 ?_
        refine lv_iload_n hx hb dd_C_takeKey_44 rfl (lv_at hl 2 rfl) ?_
        refine lv_iconst (v := 1) hx hb dd_C_takeKey_45 rfl ?_
        refine lv_isub hx hb dd_C_takeKey_46 ?_
        obtain ⟨v3, gv3, h⟩ := xs_ob h
        refine xr_iald hx hb hK hw (xs_ok_C_roundKeys hK.1 hk) gv3 dd_C_takeKey_47 ?_
        refine lv_istore hx hb dd_C_takeKey_48 hl (by decide) rfl (fun ls hl => ?_)
        have hl : lv_has ls 6 [(4, .int v3), (0, .ref (ad k)), (2, .int i2), (3, .int i3)] := hl
        refine lv_iload_n hx hb dd_C_takeKey_50 rfl (lv_at hl 3 rfl) ?_
        refine lv_iconst (v := 4) hx hb dd_C_takeKey_51 rfl ?_
        refine lv_irem hx hb dd_C_takeKey_52 (by decide) ?_
        refine lv_asI (v := xs_rem i3 4) rfl ?_
        refine lv_if_ne hx hb dd_C_takeKey_53 rfl (fun b4 => ?_) (fun b4 => ?_)
        · replace h := xs_n b4 h
          exact w_92 (xf_C_takeKey_31 k a1 f) ih i2 i3 v3 S _ _ _ hw (lv_sub hl [1, 2, 3, 0] rfl) h
        · replace h := xs_p b4 h
          refine lv_iload hx hb dd_C_takeKey_56 (lv_at hl 0 rfl) ?_
          refine lv_bipush (v := 8) hx hb dd_C_takeKey_58 rfl ?_
          refine lv_iushr (v := xs_ush v3 8) hx hb dd_C_takeKey_60 rfl ?_
          refine lv_iload hx hb dd_C_takeKey_61 (lv_at hl 0 rfl) ?_
          refine lv_bipush (v := 24) hx hb dd_C_takeKey_63 rfl ?_
          refine lv_ishl hx hb dd_C_takeKey_65 ?_
          refine lv_ior hx hb dd_C_takeKey_66 ?_
          obtain ⟨v7, gv7, h⟩ := xs_ob h
          refine lv_namI gv7 ?_
          refine lv_istore hx hb dd_C_takeKey_67 hl (by decide) rfl (fun ls hl => ?_)
          have hl : lv_has ls 6 [(5, .int v7), (4, .int v3), (0, .ref (ad k)), (2, .int i2), (3, .int i3)] := hl
          refine xr_getsS hx hb hown hK hw (hts _ hw_118) dd_C_takeKey_69 ?_
          refine lv_iload hx hb dd_C_takeKey_72 (lv_at hl 0 rfl) ?_
          refine lv_iload hx hb dd_C_takeKey_74 (lv_at hl 0 rfl) ?_
          refine lv_iload hx hb dd_C_takeKey_76 (lv_at hl 0 rfl) ?_
          refine lv_iload hx hb dd_C_takeKey_78 (lv_at hl 0 rfl) ?_
          obtain ⟨q8, gq8, h⟩ := xs_ob h
          refine xq_i hK hw (va_runS (As := [.ref (ad 171), .int v7, .int v7, .int v7, .int v7]) (rest := []) ⟨hx, hb, hml, hown, hts⟩ (xc_C_gathered l D ad ca ks 171 v7 v7 v7 v7 S q8 rfl gq8 _) ⟨callB_of 5 hts (xs_good hw_122) rfl rfl rfl (hts _ hw_5) (hts _ hw_120) yd_C_gathered ⟨Nat.le_trans (by decide) hRf, Nat.le_trans (by decide) hRl⟩, (hts _ hw_121)⟩ ⟨xs_blind, fun U h1 h2 => ⟨rfl, xs_pre hK hw h1 h2⟩⟩ rfl rfl hl.1 rfl (lv_room (Nat.le_of_ble_eq_true rfl)) dd_C_takeKey_80 ⟨Nat.zero_le _, Nat.zero_le _⟩) (fun H locs hw => ?_)
          refine lv_iload_n hx hb dd_C_takeKey_83 rfl (lv_at hl 3 rfl) ?_
          refine lv_ixor hx hb dd_C_takeKey_84 ?_
          refine lv_istore hx hb dd_C_takeKey_85 hl (by decide) rfl (fun ls hl => ?_)
          have hl : lv_has ls 6 [(4, .int (q8 ^^^ i2)), (5, .int v7), (0, .ref (ad k)), (2, .int i2), (3, .int i3)] := hl
          refine lv_iload_n hx hb dd_C_takeKey_87 rfl (lv_at hl 3 rfl) ?_
          obtain ⟨q9, gq9, h⟩ := xs_ob h
          refine xq_i hK hw (va_runS (As := [.int i2]) (rest := []) ⟨hx, hb, hml, hown, hts⟩ (xc_C_doubled l D ad ca ks i2 S q9 gq9 _) ⟨callB_of 1 hts (xs_good hw_125) rfl rfl rfl (hts _ hw_5) (hts _ hw_123) yd_C_doubled ⟨Nat.le_trans (by decide) hRf, Nat.le_trans (by decide) hRl⟩, (hts _ hw_124)⟩ ⟨xs_blind, fun U h1 h2 => ⟨rfl, xs_pre hK hw h1 h2⟩⟩ rfl rfl hl.1 rfl (lv_room (Nat.le_of_ble_eq_true rfl)) dd_C_takeKey_88 ⟨Nat.zero_le _, Nat.zero_le _⟩) (fun H locs hw => ?_)
          refine lv_istore_n hx hb dd_C_takeKey_91 rfl hl (by decide) rfl (fun ls hl => ?_)
          have hl : lv_has ls 6 [(2, .int q9), (4, .int (q8 ^^^ i2)), (5, .int v7), (0, .ref (ad k)), (3, .int i3)] := hl
          exact w_92 (xf_C_takeKey_31 k a1 f) ih q9 i3 (q8 ^^^ i2) S _ _ _ hw (lv_sub hl [3, 0, 4, 1] rfl) h
  have w_2 : ∀ (f : Nat), ∀ (i2 : Int32) (S : xs_T) (H : Heap) (locs : List Loc) (ls : Array Slot), xs_I D ad ca ks A s S H locs → lv_has ls 6 [(0, .ref (ad k)), (1, .ref (ad a1)), (2, .int i2)] → xf_C_takeKey_2 k a1 f i2 S = some T → W p l e R s m args below meth c H locs 0 0 Q (F0 m 2 ls []) := by
    intro f
    induction f with
    | zero => intro i2 S H locs ls hw hl h; exact absurd h (by simp [xf_C_takeKey_2])
    | succ f ih =>
      intro i2 S H locs ls hw hl h
      rw [xf_C_takeKey_2] at h
      refine lv_iload_n hx hb dd_C_takeKey_2 rfl (lv_at hl 2 rfl) ?_
      refine lv_iconst (v := 4) hx hb dd_C_takeKey_3 rfl ?_
      refine lv_icmp_ge hx hb dd_C_takeKey_4 rfl (fun b1 => ?_) (fun b1 => ?_)
      · replace h := xs_p b1 h
        refine lv_iconst (v := 1) hx hb dd_C_takeKey_27 rfl ?_
        refine lv_istore_n hx hb dd_C_takeKey_28 rfl hl (by decide) rfl (fun ls hl => ?_)
        have hl : lv_has ls 6 [(2, .int 1), (0, .ref (ad k)), (1, .ref (ad a1))] := hl
        refine lv_iconst (v := 4) hx hb dd_C_takeKey_29 rfl ?_
        refine lv_istore_n hx hb dd_C_takeKey_30 rfl hl (by decide) rfl (fun ls hl => ?_)
        have hl : lv_has ls 6 [(3, .int 4), (2, .int 1), (0, .ref (ad k)), (1, .ref (ad a1))] := hl
        exact w_31 xs_fuel 1 4 S _ _ _ hw (lv_sub hl [2, 1, 0] rfl) h
      · replace h := xs_n b1 h
        refine lv_aload_n hx hb dd_C_takeKey_7 rfl (lv_at hl 0 rfl) ?_
        refine xr_get_C (v := .ref (ad (k + 1))) hx hb hts hown hK hw hk 0 (by decide) (hts _ hw_88) rfl dd_C_takeKey_8 ?_
        refine lv_iload_n hx hb dd_C_takeKey_11 rfl (lv_at hl 2 rfl) ?_
        refine lv_aload_n hx hb dd_C_takeKey_12 rfl (lv_at hl 1 rfl) ?_
        refine lv_iconst (v := 4) hx hb dd_C_takeKey_13 rfl ?_
        refine lv_iload_n hx hb dd_C_takeKey_14 rfl (lv_at hl 2 rfl) ?_
        refine lv_imul hx hb dd_C_takeKey_15 ?_
        refine lv_iconst (v := 4) hx hb dd_C_takeKey_16 rfl ?_
        obtain ⟨q10, gq10, h⟩ := xs_ob h
        refine xq_i hK hw (va_runSN (As := [.ref (ad a1), .int (4 * i2), .int 4]) (rest := [.int i2, .ref (ad (k + 1))]) ⟨hx, hb, hml, hown, hts⟩ (xc_W_number l D ad ca ks a1 (4 * i2) 4 S q10 ha1 gq10 _) ⟨va_cnB 3 hts (xs_good hw_117) rfl rfl rfl (hK.2.2.2.1 _ hn_115 rfl) (hts _ hw_1) yd_W_number ⟨Nat.le_trans (by decide) hRf, Nat.le_trans (by decide) hRl⟩, (hts _ hw_116), trivial⟩ ⟨xs_blind, fun U h1 h2 => ⟨rfl, xs_pre hK hw h1 h2⟩⟩ rfl rfl hl.1 rfl (lv_room (Nat.le_of_ble_eq_true rfl)) dd_C_takeKey_17 ⟨Nat.zero_le _, Nat.zero_le _⟩) (fun H locs hw => ?_)
        obtain ⟨S11, gS11, h⟩ := xs_ob h
        refine xr_iast hx hb hK hw (xs_ok_C_roundKeys hK.1 hk) gS11 dd_C_takeKey_20 (fun H locs hw => ?_)
        refine lv_iinc (k := 2) (v := i2 + 1) hx hb dd_C_takeKey_21 hl rfl rfl (by decide) rfl (fun ls hl => ?_)
        have hl : lv_has ls 6 [(2, .int (i2 + 1)), (0, .ref (ad k)), (1, .ref (ad a1))] := hl
        refine lv_goto hx hb dd_C_takeKey_24 rfl ?_
        exact ih (i2 + 1) S11 _ _ _ hw (lv_sub hl [1, 2, 0] rfl) h
  unfold xf_C_takeKey at h
  refine lv_iconst (v := 0) hx hb dd_C_takeKey_0 rfl ?_
  refine lv_istore_n hx hb dd_C_takeKey_1 rfl hl (by decide) rfl (fun ls hl => ?_)
  have hl : lv_has ls 6 [(2, .int 0), (0, .ref (ad k)), (1, .ref (ad a1))] := hl
  exact w_2 xs_fuel 0 S _ _ _ hw (lv_sub hl [1, 2, 0] rfl) h
set_option maxHeartbeats 4000000 in
set_option maxRecDepth 100000 in
theorem xc_J_fill (l : Launch) (D : va_G) (ad : Nat → Nat) (ca : Nat → ClassId) (ks : List Nat) (a0 : Nat) (n1 : Int32) (S : xs_T) (T : xs_T) (ha0 : xs_is ks a0 50) (h : xf_J_fill a0 n1 S = some T) (sz : Nat) : Met l yy_J_fill ws_J_fill { frames := 0, cells := 0, slots := 0, locals := 0 } (va_Pc [.ref (ad a0), .int n1] (xs_Pre D ad ca ks S sz)) (va_Qv (fun _ : Unit => True) (fun _ t => va_P D xs_cl (xs_w ad ca ks T) t.heap) (xs_A ad ks sz)) 0 0 (xs_A ad ks sz) := by
  refine xm_v (by decide) (Nat.le_of_ble_eq_true rfl) ?_
  intro p e s m args below meth c R A Q ls hx hb hml hown hts hRf hRl hK hw hl hret
  have hl : lv_has ls 4 [(0, .ref (ad a0)), (1, .int n1)] := hl
  have w_5 : ∀ (f : Nat), ∀ (i2 : Int32) (i3 : Int32) (S : xs_T) (H : Heap) (locs : List Loc) (ls : Array Slot), xs_I D ad ca ks A s S H locs → lv_has ls 4 [(0, .ref (ad a0)), (1, .int n1), (2, .int i2), (3, .int i3)] → xf_J_fill_5 a0 n1 f i2 i3 S = some T → W p l e R s m args below meth c H locs 0 0 Q (F0 m 5 ls []) := by
    intro f
    induction f with
    | zero => intro i2 i3 S H locs ls hw hl h; exact absurd h (by simp [xf_J_fill_5])
    | succ f ih =>
      intro i2 i3 S H locs ls hw hl h
      rw [xf_J_fill_5] at h
      refine lv_iload_n hx hb dd_J_fill_5 rfl (lv_at hl 2 rfl) ?_
      refine lv_iload_n hx hb dd_J_fill_6 rfl (lv_at hl 3 rfl) ?_
      refine lv_icmp_ge hx hb dd_J_fill_7 rfl (fun b2 => ?_) (fun b2 => ?_)
      · replace h := xs_p b2 h
        exact hret h hw dd_J_fill_20
      · replace h := xs_n b2 h
        refine lv_aload_n hx hb dd_J_fill_10 rfl (lv_at hl 0 rfl) ?_
        refine lv_iload_n hx hb dd_J_fill_11 rfl (lv_at hl 2 rfl) ?_
        refine lv_iload_n hx hb dd_J_fill_12 rfl (lv_at hl 1 rfl) ?_
        obtain ⟨S3, gS3, h⟩ := xs_ob h
        refine xr_iast hx hb hK hw ha0 gS3 dd_J_fill_13 (fun H locs hw => ?_)
        refine lv_iinc (k := 2) (v := i2 + 1) hx hb dd_J_fill_14 hl rfl rfl (by decide) rfl (fun ls hl => ?_)
        have hl : lv_has ls 4 [(2, .int (i2 + 1)), (0, .ref (ad a0)), (1, .int n1), (3, .int i3)] := hl
        refine lv_goto hx hb dd_J_fill_17 rfl ?_
        exact ih (i2 + 1) i3 S3 _ _ _ hw (lv_sub hl [1, 2, 0, 3] rfl) h
  unfold xf_J_fill at h
  refine lv_iconst (v := 0) hx hb dd_J_fill_0 rfl ?_
  refine lv_istore_n hx hb dd_J_fill_1 rfl hl (by decide) rfl (fun ls hl => ?_)
  have hl : lv_has ls 4 [(2, .int 0), (0, .ref (ad a0)), (1, .int n1)] := hl
  refine lv_aload_n hx hb dd_J_fill_2 rfl (lv_at hl 1 rfl) ?_
  refine xr_alen_A hx hb hK hw ha0 dd_J_fill_3 ?_
  obtain ⟨v1, gv1, h⟩ := xs_ob h
  refine lv_namI gv1 ?_
  refine lv_istore_n hx hb dd_J_fill_4 rfl hl (by decide) rfl (fun ls hl => ?_)
  have hl : lv_has ls 4 [(3, .int v1), (2, .int 0), (0, .ref (ad a0)), (1, .int n1)] := hl
  exact w_5 xs_fuel 0 v1 S _ _ _ hw (lv_sub hl [2, 3, 1, 0] rfl) h
set_option maxHeartbeats 4000000 in
set_option maxRecDepth 100000 in
theorem xc_C_mixed (l : Launch) (D : va_G) (ad : Nat → Nat) (ca : Nat → ClassId) (ks : List Nat) (n0 : Int32) (n1 : Int32) (S : xs_T) (r : Int32) (h : xf_C_mixed n0 n1 = some r) (sz : Nat) : Met l yy_C_mixed ws_C_mixed { frames := 0, cells := 0, slots := 0, locals := 0 } (va_Pc [.int n0, .int n1] (xs_Pre D ad ca ks S sz)) (va_Qi (fun r1 (_ : Unit) => r1 = r) (fun _ t => va_P D xs_cl (xs_w ad ca ks S) t.heap) (xs_A ad ks sz)) 0 0 (xs_A ad ks sz) := by
  refine xm_ir (by decide) (Nat.le_of_ble_eq_true rfl) ?_
  intro p e s m args below meth c R A Q ls hx hb hml hown hts hRf hRl hK hw hl hret
  have hl : lv_has ls 3 [(0, .int n0), (1, .int n1)] := hl
  unfold xf_C_mixed at h
  refine lv_iload_n hx hb dd_C_mixed_0 rfl (lv_at hl 0 rfl) ?_
  refine lv_iload_n hx hb dd_C_mixed_1 rfl (lv_at hl 1 rfl) ?_
  refine lv_ixor hx hb dd_C_mixed_2 ?_
  refine lv_istore_n hx hb dd_C_mixed_3 rfl hl (by decide) rfl (fun ls hl => ?_)
  have hl : lv_has ls 3 [(2, .int (n0 ^^^ n1)), (0, .int n0), (1, .int n1)] := hl
  refine lv_iload_n hx hb dd_C_mixed_4 rfl (lv_at hl 2 rfl) ?_
  refine lv_iload_n hx hb dd_C_mixed_5 rfl (lv_at hl 0 rfl) ?_
  refine lv_bipush (v := 8) hx hb dd_C_mixed_6 rfl ?_
  refine lv_iushr (v := xs_ush (n0 ^^^ n1) 8) hx hb dd_C_mixed_8 rfl ?_
  refine lv_iload_n hx hb dd_C_mixed_9 rfl (lv_at hl 0 rfl) ?_
  refine lv_bipush (v := 24) hx hb dd_C_mixed_10 rfl ?_
  refine lv_ishl hx hb dd_C_mixed_12 ?_
  refine lv_ior hx hb dd_C_mixed_13 ?_
  refine lv_ixor hx hb dd_C_mixed_14 ?_
  refine lv_iload_n hx hb dd_C_mixed_15 rfl (lv_at hl 1 rfl) ?_
  refine lv_bipush (v := 16) hx hb dd_C_mixed_16 rfl ?_
  refine lv_iushr (v := xs_ush n0 16) hx hb dd_C_mixed_18 rfl ?_
  refine lv_iload_n hx hb dd_C_mixed_19 rfl (lv_at hl 1 rfl) ?_
  refine lv_bipush (v := 16) hx hb dd_C_mixed_20 rfl ?_
  refine lv_ishl hx hb dd_C_mixed_22 ?_
  refine lv_ior hx hb dd_C_mixed_23 ?_
  refine lv_ixor hx hb dd_C_mixed_24 ?_
  refine lv_iload_n hx hb dd_C_mixed_25 rfl (lv_at hl 1 rfl) ?_
  refine lv_bipush (v := 24) hx hb dd_C_mixed_26 rfl ?_
  refine lv_iushr (v := xs_ush n0 24) hx hb dd_C_mixed_28 rfl ?_
  refine lv_iload_n hx hb dd_C_mixed_29 rfl (lv_at hl 1 rfl) ?_
  refine lv_bipush (v := 8) hx hb dd_C_mixed_30 rfl ?_
  refine lv_ishl hx hb dd_C_mixed_32 ?_
  refine lv_ior hx hb dd_C_mixed_33 ?_
  refine lv_ixor hx hb dd_C_mixed_34 ?_
  exact hret h hw dd_C_mixed_35
set_option maxHeartbeats 4000000 in
set_option maxRecDepth 100000 in
theorem xc_W_putNumber (l : Launch) (D : va_G) (ad : Nat → Nat) (ca : Nat → ClassId) (ks : List Nat) (a0 : Nat) (n1 : Int32) (n2 : Int32) (n3 : Int32) (S : xs_T) (T : xs_T) (ha0 : xs_is ks a0 50) (h : xf_W_putNumber a0 n1 n2 n3 S = some T) (sz : Nat) : Met l yy_W_putNumber ws_W_putNumber { frames := 0, cells := 0, slots := 0, locals := 0 } (va_Pc [.ref (ad a0), .int n1, .int n2, .int n3] (xs_Pre D ad ca ks S sz)) (va_Qv (fun _ : Unit => True) (fun _ t => va_P D xs_cl (xs_w ad ca ks T) t.heap) (xs_A ad ks sz)) 0 0 (xs_A ad ks sz) := by
  refine xm_v (by decide) (Nat.le_of_ble_eq_true rfl) ?_
  intro p e s m args below meth c R A Q ls hx hb hml hown hts hRf hRl hK hw hl hret
  have hl : lv_has ls 5 [(0, .ref (ad a0)), (1, .int n1), (2, .int n2), (3, .int n3)] := hl
  have w_3 : ∀ (f : Nat), ∀ (i4 : Int32) (S : xs_T) (H : Heap) (locs : List Loc) (ls : Array Slot), xs_I D ad ca ks A s S H locs → lv_has ls 5 [(0, .ref (ad a0)), (1, .int n1), (2, .int n2), (3, .int n3), (4, .int i4)] → xf_W_putNumber_3 a0 n1 n2 n3 f i4 S = some T → W p l e R s m args below meth c H locs 0 0 Q (F0 m 3 ls []) := by
    intro f
    induction f with
    | zero => intro i4 S H locs ls hw hl h; exact absurd h (by simp [xf_W_putNumber_3])
    | succ f ih =>
      intro i4 S H locs ls hw hl h
      rw [xf_W_putNumber_3] at h
      refine lv_iload hx hb dd_W_putNumber_3 (lv_at hl 4 rfl) ?_
      refine lv_iload_n hx hb dd_W_putNumber_5 rfl (lv_at hl 3 rfl) ?_
      refine lv_icmp_ge hx hb dd_W_putNumber_6 rfl (fun b1 => ?_) (fun b1 => ?_)
      · replace h := xs_p b1 h
        exact hret h hw dd_W_putNumber_32
      · replace h := xs_n b1 h
        refine lv_aload_n hx hb dd_W_putNumber_9 rfl (lv_at hl 0 rfl) ?_
        refine lv_iload_n hx hb dd_W_putNumber_10 rfl (lv_at hl 1 rfl) ?_
        refine lv_iload hx hb dd_W_putNumber_11 (lv_at hl 4 rfl) ?_
        refine lv_iadd hx hb dd_W_putNumber_13 ?_
        refine lv_iload_n hx hb dd_W_putNumber_14 rfl (lv_at hl 2 rfl) ?_
        refine lv_bipush (v := 8) hx hb dd_W_putNumber_15 rfl ?_
        refine lv_iload hx hb dd_W_putNumber_17 (lv_at hl 4 rfl) ?_
        refine lv_imul hx hb dd_W_putNumber_19 ?_
        refine lv_iushr (v := xs_ush n2 (8 * i4)) hx hb dd_W_putNumber_20 rfl ?_
        refine lv_sipush (v := 255) hx hb dd_W_putNumber_21 rfl ?_
        refine lv_iand hx hb dd_W_putNumber_24 ?_
        obtain ⟨S2, gS2, h⟩ := xs_ob h
        refine xr_iast hx hb hK hw ha0 gS2 dd_W_putNumber_25 (fun H locs hw => ?_)
        refine lv_iinc (k := 4) (v := i4 + 1) hx hb dd_W_putNumber_26 hl rfl rfl (by decide) rfl (fun ls hl => ?_)
        have hl : lv_has ls 5 [(4, .int (i4 + 1)), (0, .ref (ad a0)), (1, .int n1), (2, .int n2), (3, .int n3)] := hl
        refine lv_goto hx hb dd_W_putNumber_29 rfl ?_
        exact ih (i4 + 1) S2 _ _ _ hw (lv_sub hl [1, 2, 3, 4, 0] rfl) h
  unfold xf_W_putNumber at h
  refine lv_iconst (v := 0) hx hb dd_W_putNumber_0 rfl ?_
  refine lv_istore hx hb dd_W_putNumber_1 hl (by decide) rfl (fun ls hl => ?_)
  have hl : lv_has ls 5 [(4, .int 0), (0, .ref (ad a0)), (1, .int n1), (2, .int n2), (3, .int n3)] := hl
  exact w_3 xs_fuel 0 S _ _ _ hw (lv_sub hl [1, 2, 3, 4, 0] rfl) h
set_option maxHeartbeats 4000000 in
set_option maxRecDepth 100000 in
theorem xc_C_encipher (l : Launch) (D : va_G) (ad : Nat → Nat) (ca : Nat → ClassId) (ks : List Nat) (k : Nat) (a1 : Nat) (n2 : Int32) (S : xs_T) (T : xs_T) (hk : xs_is ks k xs_cC) (ha1 : xs_is ks a1 50) (h : xf_C_encipher k a1 n2 S = some T) (sz : Nat) : Met l yy_C_encipher ws_C_encipher { frames := 1, cells := 0, slots := 0, locals := 24 } (va_Pc [.ref (ad k), .ref (ad a1), .int n2] (xs_Pre D ad ca ks S sz)) (va_Qv (fun _ : Unit => True) (fun _ t => va_P D xs_cl (xs_w ad ca ks T) t.heap) (xs_A ad ks sz)) 0 0 (xs_A ad ks sz) := by
  refine xm_v (by decide) (Nat.le_of_ble_eq_true rfl) ?_
  intro p e s m args below meth c R A Q ls hx hb hml hown hts hRf hRl hK hw hl hret
  have hl : lv_has ls 13 [(0, .ref (ad k)), (1, .ref (ad a1)), (2, .int n2)] := hl
  have w_64 : ∀ (f : Nat), ∀ (i4 : Int32) (i5 : Int32) (i6 : Int32) (i7 : Int32) (i8 : Int32) (S : xs_T) (H : Heap) (locs : List Loc) (ls : Array Slot), xs_I D ad ca ks A s S H locs → lv_has ls 13 [(1, .ref (ad a1)), (2, .int n2), (3, .ref (ad (k + 1))), (4, .int i4), (5, .int i5), (6, .int i6), (7, .int i7), (8, .int i8)] → xf_C_encipher_64 k a1 n2 f i4 i5 i6 i7 i8 S = some T → W p l e R s m args below meth c H locs 0 0 Q (F0 m 64 ls []) := by
    intro f
    induction f with
    | zero => intro i4 i5 i6 i7 i8 S H locs ls hw hl h; exact absurd h (by simp [xf_C_encipher_64])
    | succ f ih =>
      intro i4 i5 i6 i7 i8 S H locs ls hw hl h
      rw [xf_C_encipher_64] at h
      refine lv_iload hx hb dd_C_encipher_64 (lv_at hl 7 rfl) ?_
      refine lv_bipush (v := 40) hx hb dd_C_encipher_66 rfl ?_
      refine lv_icmp_ge hx hb dd_C_encipher_68 rfl (fun b9 => ?_) (fun b9 => ?_)
      · replace h := xs_p b9 h
        refine lv_bipush (v := 40) hx hb dd_C_encipher_215 rfl ?_
        refine lv_istore hx hb dd_C_encipher_217 hl (by decide) rfl (fun ls hl => ?_)
        have hl : lv_has ls 13 [(8, .int 40), (1, .ref (ad a1)), (2, .int n2), (3, .ref (ad (k + 1))), (4, .int i4), (5, .int i5), (6, .int i6), (7, .int i7)] := hl
        refine lv_aload_n hx hb dd_C_encipher_219 rfl (lv_at hl 1 rfl) ?_
        refine lv_iload_n hx hb dd_C_encipher_220 rfl (lv_at hl 2 rfl) ?_
        refine xr_getsS hx hb hown hK hw (hts _ hw_118) dd_C_encipher_221 ?_
        refine lv_iload hx hb dd_C_encipher_224 (lv_at hl 4 rfl) ?_
        refine lv_iload hx hb dd_C_encipher_226 (lv_at hl 5 rfl) ?_
        refine lv_iload hx hb dd_C_encipher_228 (lv_at hl 6 rfl) ?_
        refine lv_iload hx hb dd_C_encipher_230 (lv_at hl 7 rfl) ?_
        obtain ⟨q10, gq10, h⟩ := xs_ob h
        refine xq_i hK hw (va_runS (As := [.ref (ad 171), .int i4, .int i5, .int i6, .int i7]) (rest := [.int n2, .ref (ad a1)]) ⟨hx, hb, hml, hown, hts⟩ (xc_C_gathered l D ad ca ks 171 i4 i5 i6 i7 S q10 rfl gq10 _) ⟨callB_of 5 hts (xs_good hw_122) rfl rfl rfl (hts _ hw_5) (hts _ hw_120) yd_C_gathered ⟨Nat.le_trans (by decide) hRf, Nat.le_trans (by decide) hRl⟩, (hts _ hw_121)⟩ ⟨xs_blind, fun U h1 h2 => ⟨rfl, xs_pre hK hw h1 h2⟩⟩ rfl rfl hl.1 rfl (lv_room (Nat.le_of_ble_eq_true rfl)) dd_C_encipher_232 ⟨Nat.zero_le _, Nat.zero_le _⟩) (fun H locs hw => ?_)
        refine lv_aload_n hx hb dd_C_encipher_235 rfl (lv_at hl 3 rfl) ?_
        refine lv_iload hx hb dd_C_encipher_236 (lv_at hl 0 rfl) ?_
        obtain ⟨v11, gv11, h⟩ := xs_ob h
        refine xr_iald hx hb hK hw (xs_ok_C_roundKeys hK.1 hk) gv11 dd_C_encipher_238 ?_
        refine lv_ixor hx hb dd_C_encipher_239 ?_
        refine lv_iconst (v := 4) hx hb dd_C_encipher_240 rfl ?_
        obtain ⟨q12, gq12, h⟩ := xs_ob h
        refine xq_v hK hw (va_runSN (As := [.ref (ad a1), .int n2, .int (q10 ^^^ v11), .int 4]) (rest := []) ⟨hx, hb, hml, hown, hts⟩ (xc_W_putNumber l D ad ca ks a1 n2 (q10 ^^^ v11) 4 S q12 ha1 gq12 _) ⟨va_cnB 4 hts (xs_good hw_140) rfl rfl rfl (hK.2.2.2.1 _ hn_138 rfl) (hts _ hw_1) yd_W_putNumber ⟨Nat.le_trans (by decide) hRf, Nat.le_trans (by decide) hRl⟩, (hts _ hw_139), trivial⟩ ⟨xs_blind, fun U h1 h2 => ⟨rfl, xs_pre hK hw h1 h2⟩⟩ rfl rfl hl.1 rfl (lv_room (Nat.le_of_ble_eq_true rfl)) dd_C_encipher_241 ⟨Nat.zero_le _, Nat.zero_le _⟩) (fun H locs hw => ?_)
        refine lv_aload_n hx hb dd_C_encipher_244 rfl (lv_at hl 1 rfl) ?_
        refine lv_iload_n hx hb dd_C_encipher_245 rfl (lv_at hl 2 rfl) ?_
        refine lv_iconst (v := 4) hx hb dd_C_encipher_246 rfl ?_
        refine lv_iadd hx hb dd_C_encipher_247 ?_
        refine xr_getsS hx hb hown hK hw (hts _ hw_118) dd_C_encipher_248 ?_
        refine lv_iload hx hb dd_C_encipher_251 (lv_at hl 5 rfl) ?_
        refine lv_iload hx hb dd_C_encipher_253 (lv_at hl 6 rfl) ?_
        refine lv_iload hx hb dd_C_encipher_255 (lv_at hl 7 rfl) ?_
        refine lv_iload hx hb dd_C_encipher_257 (lv_at hl 4 rfl) ?_
        obtain ⟨q13, gq13, h⟩ := xs_ob h
        refine xq_i hK hw (va_runS (As := [.ref (ad 171), .int i5, .int i6, .int i7, .int i4]) (rest := [.int (n2 + 4), .ref (ad a1)]) ⟨hx, hb, hml, hown, hts⟩ (xc_C_gathered l D ad ca ks 171 i5 i6 i7 i4 q12 q13 rfl gq13 _) ⟨callB_of 5 hts (xs_good hw_122) rfl rfl rfl (hts _ hw_5) (hts _ hw_120) yd_C_gathered ⟨Nat.le_trans (by decide) hRf, Nat.le_trans (by decide) hRl⟩, (hts _ hw_121)⟩ ⟨xs_blind, fun U h1 h2 => ⟨rfl, xs_pre hK hw h1 h2⟩⟩ rfl rfl hl.1 rfl (lv_room (Nat.le_of_ble_eq_true rfl)) dd_C_encipher_259 ⟨Nat.zero_le _, Nat.zero_le _⟩) (fun H locs hw => ?_)
        refine lv_aload_n hx hb dd_C_encipher_262 rfl (lv_at hl 3 rfl) ?_
        refine lv_iload hx hb dd_C_encipher_263 (lv_at hl 0 rfl) ?_
        refine lv_iconst (v := 1) hx hb dd_C_encipher_265 rfl ?_
        refine lv_iadd hx hb dd_C_encipher_266 ?_
        obtain ⟨v14, gv14, h⟩ := xs_ob h
        refine xr_iald hx hb hK hw (xs_ok_C_roundKeys hK.1 hk) gv14 dd_C_encipher_267 ?_
        refine lv_ixor hx hb dd_C_encipher_268 ?_
        refine lv_iconst (v := 4) hx hb dd_C_encipher_269 rfl ?_
        obtain ⟨q15, gq15, h⟩ := xs_ob h
        refine xq_v hK hw (va_runSN (As := [.ref (ad a1), .int (n2 + 4), .int (q13 ^^^ v14), .int 4]) (rest := []) ⟨hx, hb, hml, hown, hts⟩ (xc_W_putNumber l D ad ca ks a1 (n2 + 4) (q13 ^^^ v14) 4 q12 q15 ha1 gq15 _) ⟨va_cnB 4 hts (xs_good hw_140) rfl rfl rfl (hK.2.2.2.1 _ hn_138 rfl) (hts _ hw_1) yd_W_putNumber ⟨Nat.le_trans (by decide) hRf, Nat.le_trans (by decide) hRl⟩, (hts _ hw_139), trivial⟩ ⟨xs_blind, fun U h1 h2 => ⟨rfl, xs_pre hK hw h1 h2⟩⟩ rfl rfl hl.1 rfl (lv_room (Nat.le_of_ble_eq_true rfl)) dd_C_encipher_270 ⟨Nat.zero_le _, Nat.zero_le _⟩) (fun H locs hw => ?_)
        refine lv_aload_n hx hb dd_C_encipher_273 rfl (lv_at hl 1 rfl) ?_
        refine lv_iload_n hx hb dd_C_encipher_274 rfl (lv_at hl 2 rfl) ?_
        refine lv_bipush (v := 8) hx hb dd_C_encipher_275 rfl ?_
        refine lv_iadd hx hb dd_C_encipher_277 ?_
        refine xr_getsS hx hb hown hK hw (hts _ hw_118) dd_C_encipher_278 ?_
        refine lv_iload hx hb dd_C_encipher_281 (lv_at hl 6 rfl) ?_
        refine lv_iload hx hb dd_C_encipher_283 (lv_at hl 7 rfl) ?_
        refine lv_iload hx hb dd_C_encipher_285 (lv_at hl 4 rfl) ?_
        refine lv_iload hx hb dd_C_encipher_287 (lv_at hl 5 rfl) ?_
        obtain ⟨q16, gq16, h⟩ := xs_ob h
        refine xq_i hK hw (va_runS (As := [.ref (ad 171), .int i6, .int i7, .int i4, .int i5]) (rest := [.int (n2 + 8), .ref (ad a1)]) ⟨hx, hb, hml, hown, hts⟩ (xc_C_gathered l D ad ca ks 171 i6 i7 i4 i5 q15 q16 rfl gq16 _) ⟨callB_of 5 hts (xs_good hw_122) rfl rfl rfl (hts _ hw_5) (hts _ hw_120) yd_C_gathered ⟨Nat.le_trans (by decide) hRf, Nat.le_trans (by decide) hRl⟩, (hts _ hw_121)⟩ ⟨xs_blind, fun U h1 h2 => ⟨rfl, xs_pre hK hw h1 h2⟩⟩ rfl rfl hl.1 rfl (lv_room (Nat.le_of_ble_eq_true rfl)) dd_C_encipher_289 ⟨Nat.zero_le _, Nat.zero_le _⟩) (fun H locs hw => ?_)
        refine lv_aload_n hx hb dd_C_encipher_292 rfl (lv_at hl 3 rfl) ?_
        refine lv_iload hx hb dd_C_encipher_293 (lv_at hl 0 rfl) ?_
        refine lv_iconst (v := 2) hx hb dd_C_encipher_295 rfl ?_
        refine lv_iadd hx hb dd_C_encipher_296 ?_
        obtain ⟨v17, gv17, h⟩ := xs_ob h
        refine xr_iald hx hb hK hw (xs_ok_C_roundKeys hK.1 hk) gv17 dd_C_encipher_297 ?_
        refine lv_ixor hx hb dd_C_encipher_298 ?_
        refine lv_iconst (v := 4) hx hb dd_C_encipher_299 rfl ?_
        obtain ⟨q18, gq18, h⟩ := xs_ob h
        refine xq_v hK hw (va_runSN (As := [.ref (ad a1), .int (n2 + 8), .int (q16 ^^^ v17), .int 4]) (rest := []) ⟨hx, hb, hml, hown, hts⟩ (xc_W_putNumber l D ad ca ks a1 (n2 + 8) (q16 ^^^ v17) 4 q15 q18 ha1 gq18 _) ⟨va_cnB 4 hts (xs_good hw_140) rfl rfl rfl (hK.2.2.2.1 _ hn_138 rfl) (hts _ hw_1) yd_W_putNumber ⟨Nat.le_trans (by decide) hRf, Nat.le_trans (by decide) hRl⟩, (hts _ hw_139), trivial⟩ ⟨xs_blind, fun U h1 h2 => ⟨rfl, xs_pre hK hw h1 h2⟩⟩ rfl rfl hl.1 rfl (lv_room (Nat.le_of_ble_eq_true rfl)) dd_C_encipher_300 ⟨Nat.zero_le _, Nat.zero_le _⟩) (fun H locs hw => ?_)
        refine lv_aload_n hx hb dd_C_encipher_303 rfl (lv_at hl 1 rfl) ?_
        refine lv_iload_n hx hb dd_C_encipher_304 rfl (lv_at hl 2 rfl) ?_
        refine lv_bipush (v := 12) hx hb dd_C_encipher_305 rfl ?_
        refine lv_iadd hx hb dd_C_encipher_307 ?_
        refine xr_getsS hx hb hown hK hw (hts _ hw_118) dd_C_encipher_308 ?_
        refine lv_iload hx hb dd_C_encipher_311 (lv_at hl 7 rfl) ?_
        refine lv_iload hx hb dd_C_encipher_313 (lv_at hl 4 rfl) ?_
        refine lv_iload hx hb dd_C_encipher_315 (lv_at hl 5 rfl) ?_
        refine lv_iload hx hb dd_C_encipher_317 (lv_at hl 6 rfl) ?_
        obtain ⟨q19, gq19, h⟩ := xs_ob h
        refine xq_i hK hw (va_runS (As := [.ref (ad 171), .int i7, .int i4, .int i5, .int i6]) (rest := [.int (n2 + 12), .ref (ad a1)]) ⟨hx, hb, hml, hown, hts⟩ (xc_C_gathered l D ad ca ks 171 i7 i4 i5 i6 q18 q19 rfl gq19 _) ⟨callB_of 5 hts (xs_good hw_122) rfl rfl rfl (hts _ hw_5) (hts _ hw_120) yd_C_gathered ⟨Nat.le_trans (by decide) hRf, Nat.le_trans (by decide) hRl⟩, (hts _ hw_121)⟩ ⟨xs_blind, fun U h1 h2 => ⟨rfl, xs_pre hK hw h1 h2⟩⟩ rfl rfl hl.1 rfl (lv_room (Nat.le_of_ble_eq_true rfl)) dd_C_encipher_319 ⟨Nat.zero_le _, Nat.zero_le _⟩) (fun H locs hw => ?_)
        refine lv_aload_n hx hb dd_C_encipher_322 rfl (lv_at hl 3 rfl) ?_
        refine lv_iload hx hb dd_C_encipher_323 (lv_at hl 0 rfl) ?_
        refine lv_iconst (v := 3) hx hb dd_C_encipher_325 rfl ?_
        refine lv_iadd hx hb dd_C_encipher_326 ?_
        obtain ⟨v20, gv20, h⟩ := xs_ob h
        refine xr_iald hx hb hK hw (xs_ok_C_roundKeys hK.1 hk) gv20 dd_C_encipher_327 ?_
        refine lv_ixor hx hb dd_C_encipher_328 ?_
        refine lv_iconst (v := 4) hx hb dd_C_encipher_329 rfl ?_
        obtain ⟨q21, gq21, h⟩ := xs_ob h
        refine xq_v hK hw (va_runSN (As := [.ref (ad a1), .int (n2 + 12), .int (q19 ^^^ v20), .int 4]) (rest := []) ⟨hx, hb, hml, hown, hts⟩ (xc_W_putNumber l D ad ca ks a1 (n2 + 12) (q19 ^^^ v20) 4 q18 q21 ha1 gq21 _) ⟨va_cnB 4 hts (xs_good hw_140) rfl rfl rfl (hK.2.2.2.1 _ hn_138 rfl) (hts _ hw_1) yd_W_putNumber ⟨Nat.le_trans (by decide) hRf, Nat.le_trans (by decide) hRl⟩, (hts _ hw_139), trivial⟩ ⟨xs_blind, fun U h1 h2 => ⟨rfl, xs_pre hK hw h1 h2⟩⟩ rfl rfl hl.1 rfl (lv_room (Nat.le_of_ble_eq_true rfl)) dd_C_encipher_330 ⟨Nat.zero_le _, Nat.zero_le _⟩) (fun H locs hw => ?_)
        exact hret h hw dd_C_encipher_333
      · replace h := xs_n b9 h
        refine xr_getsS hx hb hown hK hw (hts _ hw_118) dd_C_encipher_71 ?_
        refine lv_iload hx hb dd_C_encipher_74 (lv_at hl 3 rfl) ?_
        refine lv_iload hx hb dd_C_encipher_76 (lv_at hl 4 rfl) ?_
        refine lv_iload hx hb dd_C_encipher_78 (lv_at hl 5 rfl) ?_
        refine lv_iload hx hb dd_C_encipher_80 (lv_at hl 6 rfl) ?_
        obtain ⟨q22, gq22, h⟩ := xs_ob h
        refine xq_i hK hw (va_runS (As := [.ref (ad 171), .int i4, .int i5, .int i6, .int i7]) (rest := []) ⟨hx, hb, hml, hown, hts⟩ (xc_C_gathered l D ad ca ks 171 i4 i5 i6 i7 S q22 rfl gq22 _) ⟨callB_of 5 hts (xs_good hw_122) rfl rfl rfl (hts _ hw_5) (hts _ hw_120) yd_C_gathered ⟨Nat.le_trans (by decide) hRf, Nat.le_trans (by decide) hRl⟩, (hts _ hw_121)⟩ ⟨xs_blind, fun U h1 h2 => ⟨rfl, xs_pre hK hw h1 h2⟩⟩ rfl rfl hl.1 rfl (lv_room (Nat.le_of_ble_eq_true rfl)) dd_C_encipher_82 ⟨Nat.zero_le _, Nat.zero_le _⟩) (fun H locs hw => ?_)
        refine lv_istore hx hb dd_C_encipher_85 hl (by decide) rfl (fun ls hl => ?_)
        have hl : lv_has ls 13 [(9, .int q22), (1, .ref (ad a1)), (2, .int n2), (3, .ref (ad (k + 1))), (4, .int i4), (5, .int i5), (6, .int i6), (7, .int i7), (8, .int i8)] := hl
        refine xr_getsS hx hb hown hK hw (hts _ hw_118) dd_C_encipher_87 ?_
        refine lv_iload hx hb dd_C_encipher_90 (lv_at hl 5 rfl) ?_
        refine lv_iload hx hb dd_C_encipher_92 (lv_at hl 6 rfl) ?_
        refine lv_iload hx hb dd_C_encipher_94 (lv_at hl 7 rfl) ?_
        refine lv_iload hx hb dd_C_encipher_96 (lv_at hl 4 rfl) ?_
        obtain ⟨q23, gq23, h⟩ := xs_ob h
        refine xq_i hK hw (va_runS (As := [.ref (ad 171), .int i5, .int i6, .int i7, .int i4]) (rest := []) ⟨hx, hb, hml, hown, hts⟩ (xc_C_gathered l D ad ca ks 171 i5 i6 i7 i4 S q23 rfl gq23 _) ⟨callB_of 5 hts (xs_good hw_122) rfl rfl rfl (hts _ hw_5) (hts _ hw_120) yd_C_gathered ⟨Nat.le_trans (by decide) hRf, Nat.le_trans (by decide) hRl⟩, (hts _ hw_121)⟩ ⟨xs_blind, fun U h1 h2 => ⟨rfl, xs_pre hK hw h1 h2⟩⟩ rfl rfl hl.1 rfl (lv_room (Nat.le_of_ble_eq_true rfl)) dd_C_encipher_98 ⟨Nat.zero_le _, Nat.zero_le _⟩) (fun H locs hw => ?_)
        refine lv_istore hx hb dd_C_encipher_101 hl (by decide) rfl (fun ls hl => ?_)
        have hl : lv_has ls 13 [(10, .int q23), (9, .int q22), (1, .ref (ad a1)), (2, .int n2), (3, .ref (ad (k + 1))), (4, .int i4), (5, .int i5), (6, .int i6), (7, .int i7), (8, .int i8)] := hl
        refine xr_getsS hx hb hown hK hw (hts _ hw_118) dd_C_encipher_103 ?_
        refine lv_iload hx hb dd_C_encipher_106 (lv_at hl 7 rfl) ?_
        refine lv_iload hx hb dd_C_encipher_108 (lv_at hl 8 rfl) ?_
        refine lv_iload hx hb dd_C_encipher_110 (lv_at hl 5 rfl) ?_
        refine lv_iload hx hb dd_C_encipher_112 (lv_at hl 6 rfl) ?_
        obtain ⟨q24, gq24, h⟩ := xs_ob h
        refine xq_i hK hw (va_runS (As := [.ref (ad 171), .int i6, .int i7, .int i4, .int i5]) (rest := []) ⟨hx, hb, hml, hown, hts⟩ (xc_C_gathered l D ad ca ks 171 i6 i7 i4 i5 S q24 rfl gq24 _) ⟨callB_of 5 hts (xs_good hw_122) rfl rfl rfl (hts _ hw_5) (hts _ hw_120) yd_C_gathered ⟨Nat.le_trans (by decide) hRf, Nat.le_trans (by decide) hRl⟩, (hts _ hw_121)⟩ ⟨xs_blind, fun U h1 h2 => ⟨rfl, xs_pre hK hw h1 h2⟩⟩ rfl rfl hl.1 rfl (lv_room (Nat.le_of_ble_eq_true rfl)) dd_C_encipher_114 ⟨Nat.zero_le _, Nat.zero_le _⟩) (fun H locs hw => ?_)
        refine lv_istore hx hb dd_C_encipher_117 hl (by decide) rfl (fun ls hl => ?_)
        have hl : lv_has ls 13 [(11, .int q24), (10, .int q23), (9, .int q22), (1, .ref (ad a1)), (2, .int n2), (3, .ref (ad (k + 1))), (4, .int i4), (5, .int i5), (6, .int i6), (7, .int i7), (8, .int i8)] := hl
        refine xr_getsS hx hb hown hK hw (hts _ hw_118) dd_C_encipher_119 ?_
        refine lv_iload hx hb dd_C_encipher_122 (lv_at hl 9 rfl) ?_
        refine lv_iload hx hb dd_C_encipher_124 (lv_at hl 6 rfl) ?_
        refine lv_iload hx hb dd_C_encipher_126 (lv_at hl 7 rfl) ?_
        refine lv_iload hx hb dd_C_encipher_128 (lv_at hl 8 rfl) ?_
        obtain ⟨q25, gq25, h⟩ := xs_ob h
        refine xq_i hK hw (va_runS (As := [.ref (ad 171), .int i7, .int i4, .int i5, .int i6]) (rest := []) ⟨hx, hb, hml, hown, hts⟩ (xc_C_gathered l D ad ca ks 171 i7 i4 i5 i6 S q25 rfl gq25 _) ⟨callB_of 5 hts (xs_good hw_122) rfl rfl rfl (hts _ hw_5) (hts _ hw_120) yd_C_gathered ⟨Nat.le_trans (by decide) hRf, Nat.le_trans (by decide) hRl⟩, (hts _ hw_121)⟩ ⟨xs_blind, fun U h1 h2 => ⟨rfl, xs_pre hK hw h1 h2⟩⟩ rfl rfl hl.1 rfl (lv_room (Nat.le_of_ble_eq_true rfl)) dd_C_encipher_130 ⟨Nat.zero_le _, Nat.zero_le _⟩) (fun H locs hw => ?_)
        refine lv_istore hx hb dd_C_encipher_133 hl (by decide) rfl (fun ls hl => ?_)
        have hl : lv_has ls 13 [(12, .int q25), (11, .int q24), (10, .int q23), (9, .int q22), (1, .ref (ad a1)), (2, .int n2), (3, .ref (ad (k + 1))), (4, .int i4), (5, .int i5), (6, .int i6), (7, .int i7), (8, .int i8)] := hl
        refine lv_iload hx hb dd_C_encipher_135 (lv_at hl 3 rfl) ?_
        refine lv_iload hx hb dd_C_encipher_137 (lv_at hl 3 rfl) ?_
        obtain ⟨q26, gq26, h⟩ := xs_ob h
        refine xq_i hK hw (va_runS (As := [.int q22]) (rest := [.int q22]) ⟨hx, hb, hml, hown, hts⟩ (xc_C_doubled l D ad ca ks q22 S q26 gq26 _) ⟨callB_of 1 hts (xs_good hw_125) rfl rfl rfl (hts _ hw_5) (hts _ hw_123) yd_C_doubled ⟨Nat.le_trans (by decide) hRf, Nat.le_trans (by decide) hRl⟩, (hts _ hw_124)⟩ ⟨xs_blind, fun U h1 h2 => ⟨rfl, xs_pre hK hw h1 h2⟩⟩ rfl rfl hl.1 rfl (lv_room (Nat.le_of_ble_eq_true rfl)) dd_C_encipher_139 ⟨Nat.zero_le _, Nat.zero_le _⟩) (fun H locs hw => ?_)
        obtain ⟨q27, gq27, h⟩ := xs_ob h
        refine xq_i hK hw (va_runS (As := [.int q22, .int q26]) (rest := []) ⟨hx, hb, hml, hown, hts⟩ (xc_C_mixed l D ad ca ks q22 q26 S q27 gq27 _) ⟨callB_of 2 hts (xs_good hw_137) rfl rfl rfl (hts _ hw_5) (hts _ hw_135) yd_C_mixed ⟨Nat.le_trans (by decide) hRf, Nat.le_trans (by decide) hRl⟩, (hts _ hw_136)⟩ ⟨xs_blind, fun U h1 h2 => ⟨rfl, xs_pre hK hw h1 h2⟩⟩ rfl rfl hl.1 rfl (lv_room (Nat.le_of_ble_eq_true rfl)) dd_C_encipher_142 ⟨Nat.zero_le _, Nat.zero_le _⟩) (fun H locs hw => ?_)
        refine lv_aload_n hx hb dd_C_encipher_145 rfl (lv_at hl 6 rfl) ?_
        refine lv_iload hx hb dd_C_encipher_146 (lv_at hl 11 rfl) ?_
        obtain ⟨v28, gv28, h⟩ := xs_ob h
        refine xr_iald hx hb hK hw (xs_ok_C_roundKeys hK.1 hk) gv28 dd_C_encipher_148 ?_
        refine lv_ixor hx hb dd_C_encipher_149 ?_
        refine lv_istore hx hb dd_C_encipher_150 hl (by decide) rfl (fun ls hl => ?_)
        have hl : lv_has ls 13 [(4, .int (q27 ^^^ v28)), (12, .int q25), (11, .int q24), (10, .int q23), (9, .int q22), (1, .ref (ad a1)), (2, .int n2), (3, .ref (ad (k + 1))), (5, .int i5), (6, .int i6), (7, .int i7), (8, .int i8)] := hl
        refine lv_iload hx hb dd_C_encipher_152 (lv_at hl 3 rfl) ?_
        refine lv_iload hx hb dd_C_encipher_154 (lv_at hl 3 rfl) ?_
        obtain ⟨q29, gq29, h⟩ := xs_ob h
        refine xq_i hK hw (va_runS (As := [.int q23]) (rest := [.int q23]) ⟨hx, hb, hml, hown, hts⟩ (xc_C_doubled l D ad ca ks q23 S q29 gq29 _) ⟨callB_of 1 hts (xs_good hw_125) rfl rfl rfl (hts _ hw_5) (hts _ hw_123) yd_C_doubled ⟨Nat.le_trans (by decide) hRf, Nat.le_trans (by decide) hRl⟩, (hts _ hw_124)⟩ ⟨xs_blind, fun U h1 h2 => ⟨rfl, xs_pre hK hw h1 h2⟩⟩ rfl rfl hl.1 rfl (lv_room (Nat.le_of_ble_eq_true rfl)) dd_C_encipher_156 ⟨Nat.zero_le _, Nat.zero_le _⟩) (fun H locs hw => ?_)
        obtain ⟨q30, gq30, h⟩ := xs_ob h
        refine xq_i hK hw (va_runS (As := [.int q23, .int q29]) (rest := []) ⟨hx, hb, hml, hown, hts⟩ (xc_C_mixed l D ad ca ks q23 q29 S q30 gq30 _) ⟨callB_of 2 hts (xs_good hw_137) rfl rfl rfl (hts _ hw_5) (hts _ hw_135) yd_C_mixed ⟨Nat.le_trans (by decide) hRf, Nat.le_trans (by decide) hRl⟩, (hts _ hw_136)⟩ ⟨xs_blind, fun U h1 h2 => ⟨rfl, xs_pre hK hw h1 h2⟩⟩ rfl rfl hl.1 rfl (lv_room (Nat.le_of_ble_eq_true rfl)) dd_C_encipher_159 ⟨Nat.zero_le _, Nat.zero_le _⟩) (fun H locs hw => ?_)
        refine lv_aload_n hx hb dd_C_encipher_162 rfl (lv_at hl 7 rfl) ?_
        refine lv_iload hx hb dd_C_encipher_163 (lv_at hl 11 rfl) ?_
        refine lv_iconst (v := 1) hx hb dd_C_encipher_165 rfl ?_
        refine lv_iadd hx hb dd_C_encipher_166 ?_
        obtain ⟨v31, gv31, h⟩ := xs_ob h
        refine xr_iald hx hb hK hw (xs_ok_C_roundKeys hK.1 hk) gv31 dd_C_encipher_167 ?_
        refine lv_ixor hx hb dd_C_encipher_168 ?_
        refine lv_istore hx hb dd_C_encipher_169 hl (by decide) rfl (fun ls hl => ?_)
        have hl : lv_has ls 13 [(5, .int (q30 ^^^ v31)), (4, .int (q27 ^^^ v28)), (12, .int q25), (11, .int q24), (10, .int q23), (9, .int q22), (1, .ref (ad a1)), (2, .int n2), (3, .ref (ad (k + 1))), (6, .int i6), (7, .int i7), (8, .int i8)] := hl
        refine lv_iload hx hb dd_C_encipher_171 (lv_at hl 3 rfl) ?_
        refine lv_iload hx hb dd_C_encipher_173 (lv_at hl 3 rfl) ?_
        obtain ⟨q32, gq32, h⟩ := xs_ob h
        refine xq_i hK hw (va_runS (As := [.int q24]) (rest := [.int q24]) ⟨hx, hb, hml, hown, hts⟩ (xc_C_doubled l D ad ca ks q24 S q32 gq32 _) ⟨callB_of 1 hts (xs_good hw_125) rfl rfl rfl (hts _ hw_5) (hts _ hw_123) yd_C_doubled ⟨Nat.le_trans (by decide) hRf, Nat.le_trans (by decide) hRl⟩, (hts _ hw_124)⟩ ⟨xs_blind, fun U h1 h2 => ⟨rfl, xs_pre hK hw h1 h2⟩⟩ rfl rfl hl.1 rfl (lv_room (Nat.le_of_ble_eq_true rfl)) dd_C_encipher_175 ⟨Nat.zero_le _, Nat.zero_le _⟩) (fun H locs hw => ?_)
        obtain ⟨q33, gq33, h⟩ := xs_ob h
        refine xq_i hK hw (va_runS (As := [.int q24, .int q32]) (rest := []) ⟨hx, hb, hml, hown, hts⟩ (xc_C_mixed l D ad ca ks q24 q32 S q33 gq33 _) ⟨callB_of 2 hts (xs_good hw_137) rfl rfl rfl (hts _ hw_5) (hts _ hw_135) yd_C_mixed ⟨Nat.le_trans (by decide) hRf, Nat.le_trans (by decide) hRl⟩, (hts _ hw_136)⟩ ⟨xs_blind, fun U h1 h2 => ⟨rfl, xs_pre hK hw h1 h2⟩⟩ rfl rfl hl.1 rfl (lv_room (Nat.le_of_ble_eq_true rfl)) dd_C_encipher_178 ⟨Nat.zero_le _, Nat.zero_le _⟩) (fun H locs hw => ?_)
        refine lv_aload_n hx hb dd_C_encipher_181 rfl (lv_at hl 8 rfl) ?_
        refine lv_iload hx hb dd_C_encipher_182 (lv_at hl 11 rfl) ?_
        refine lv_iconst (v := 2) hx hb dd_C_encipher_184 rfl ?_
        refine lv_iadd hx hb dd_C_encipher_185 ?_
        obtain ⟨v34, gv34, h⟩ := xs_ob h
        refine xr_iald hx hb hK hw (xs_ok_C_roundKeys hK.1 hk) gv34 dd_C_encipher_186 ?_
        refine lv_ixor hx hb dd_C_encipher_187 ?_
        refine lv_istore hx hb dd_C_encipher_188 hl (by decide) rfl (fun ls hl => ?_)
        have hl : lv_has ls 13 [(6, .int (q33 ^^^ v34)), (5, .int (q30 ^^^ v31)), (4, .int (q27 ^^^ v28)), (12, .int q25), (11, .int q24), (10, .int q23), (9, .int q22), (1, .ref (ad a1)), (2, .int n2), (3, .ref (ad (k + 1))), (7, .int i7), (8, .int i8)] := hl
        refine lv_iload hx hb dd_C_encipher_190 (lv_at hl 3 rfl) ?_
        refine lv_iload hx hb dd_C_encipher_192 (lv_at hl 3 rfl) ?_
        obtain ⟨q35, gq35, h⟩ := xs_ob h
        refine xq_i hK hw (va_runS (As := [.int q25]) (rest := [.int q25]) ⟨hx, hb, hml, hown, hts⟩ (xc_C_doubled l D ad ca ks q25 S q35 gq35 _) ⟨callB_of 1 hts (xs_good hw_125) rfl rfl rfl (hts _ hw_5) (hts _ hw_123) yd_C_doubled ⟨Nat.le_trans (by decide) hRf, Nat.le_trans (by decide) hRl⟩, (hts _ hw_124)⟩ ⟨xs_blind, fun U h1 h2 => ⟨rfl, xs_pre hK hw h1 h2⟩⟩ rfl rfl hl.1 rfl (lv_room (Nat.le_of_ble_eq_true rfl)) dd_C_encipher_194 ⟨Nat.zero_le _, Nat.zero_le _⟩) (fun H locs hw => ?_)
        obtain ⟨q36, gq36, h⟩ := xs_ob h
        refine xq_i hK hw (va_runS (As := [.int q25, .int q35]) (rest := []) ⟨hx, hb, hml, hown, hts⟩ (xc_C_mixed l D ad ca ks q25 q35 S q36 gq36 _) ⟨callB_of 2 hts (xs_good hw_137) rfl rfl rfl (hts _ hw_5) (hts _ hw_135) yd_C_mixed ⟨Nat.le_trans (by decide) hRf, Nat.le_trans (by decide) hRl⟩, (hts _ hw_136)⟩ ⟨xs_blind, fun U h1 h2 => ⟨rfl, xs_pre hK hw h1 h2⟩⟩ rfl rfl hl.1 rfl (lv_room (Nat.le_of_ble_eq_true rfl)) dd_C_encipher_197 ⟨Nat.zero_le _, Nat.zero_le _⟩) (fun H locs hw => ?_)
        refine lv_aload_n hx hb dd_C_encipher_200 rfl (lv_at hl 9 rfl) ?_
        refine lv_iload hx hb dd_C_encipher_201 (lv_at hl 11 rfl) ?_
        refine lv_iconst (v := 3) hx hb dd_C_encipher_203 rfl ?_
        refine lv_iadd hx hb dd_C_encipher_204 ?_
        obtain ⟨v37, gv37, h⟩ := xs_ob h
        refine xr_iald hx hb hK hw (xs_ok_C_roundKeys hK.1 hk) gv37 dd_C_encipher_205 ?_
        refine lv_ixor hx hb dd_C_encipher_206 ?_
        refine lv_istore hx hb dd_C_encipher_207 hl (by decide) rfl (fun ls hl => ?_)
        have hl : lv_has ls 13 [(7, .int (q36 ^^^ v37)), (6, .int (q33 ^^^ v34)), (5, .int (q30 ^^^ v31)), (4, .int (q27 ^^^ v28)), (12, .int q25), (11, .int q24), (10, .int q23), (9, .int q22), (1, .ref (ad a1)), (2, .int n2), (3, .ref (ad (k + 1))), (8, .int i8)] := hl
        refine lv_iinc (k := 11) (v := i8 + 4) hx hb dd_C_encipher_209 hl rfl rfl (by decide) rfl (fun ls hl => ?_)
        have hl : lv_has ls 13 [(8, .int (i8 + 4)), (7, .int (q36 ^^^ v37)), (6, .int (q33 ^^^ v34)), (5, .int (q30 ^^^ v31)), (4, .int (q27 ^^^ v28)), (12, .int q25), (11, .int q24), (10, .int q23), (9, .int q22), (1, .ref (ad a1)), (2, .int n2), (3, .ref (ad (k + 1)))] := hl
        refine lv_goto hx hb dd_C_encipher_212 rfl ?_
        exact ih (q27 ^^^ v28) (q30 ^^^ v31) (q33 ^^^ v34) (q36 ^^^ v37) (i8 + 4) S _ _ _ hw (lv_sub hl [9, 10, 11, 4, 3, 2, 1, 0] rfl) h
  unfold xf_C_encipher at h
  refine lv_aload_n hx hb dd_C_encipher_0 rfl (lv_at hl 0 rfl) ?_
  refine xr_get_C (v := .ref (ad (k + 1))) hx hb hts hown hK hw hk 0 (by decide) (hts _ hw_88) rfl dd_C_encipher_1 ?_
  refine lv_astore_n hx hb dd_C_encipher_4 rfl hl (by decide) rfl (fun ls hl => ?_)
  have hl : lv_has ls 13 [(3, .ref (ad (k + 1))), (0, .ref (ad k)), (1, .ref (ad a1)), (2, .int n2)] := hl
  refine lv_aload_n hx hb dd_C_encipher_5 rfl (lv_at hl 2 rfl) ?_
  refine lv_iload_n hx hb dd_C_encipher_6 rfl (lv_at hl 3 rfl) ?_
  refine lv_iconst (v := 4) hx hb dd_C_encipher_7 rfl ?_
  obtain ⟨q1, gq1, h⟩ := xs_ob h
  refine xq_i hK hw (va_runSN (As := [.ref (ad a1), .int n2, .int 4]) (rest := []) ⟨hx, hb, hml, hown, hts⟩ (xc_W_number l D ad ca ks a1 n2 4 S q1 ha1 gq1 _) ⟨va_cnB 3 hts (xs_good hw_117) rfl rfl rfl (hK.2.2.2.1 _ hn_115 rfl) (hts _ hw_1) yd_W_number ⟨Nat.le_trans (by decide) hRf, Nat.le_trans (by decide) hRl⟩, (hts _ hw_116), trivial⟩ ⟨xs_blind, fun U h1 h2 => ⟨rfl, xs_pre hK hw h1 h2⟩⟩ rfl rfl hl.1 rfl (lv_room (Nat.le_of_ble_eq_true rfl)) dd_C_encipher_8 ⟨Nat.zero_le _, Nat.zero_le _⟩) (fun H locs hw => ?_)
  refine lv_aload_n hx hb dd_C_encipher_11 rfl (lv_at hl 0 rfl) ?_
  refine lv_iconst (v := 0) hx hb dd_C_encipher_12 rfl ?_
  obtain ⟨v2, gv2, h⟩ := xs_ob h
  refine xr_iald hx hb hK hw (xs_ok_C_roundKeys hK.1 hk) gv2 dd_C_encipher_13 ?_
  refine lv_ixor hx hb dd_C_encipher_14 ?_
  refine lv_istore hx hb dd_C_encipher_15 hl (by decide) rfl (fun ls hl => ?_)
  have hl : lv_has ls 13 [(4, .int (q1 ^^^ v2)), (3, .ref (ad (k + 1))), (0, .ref (ad k)), (1, .ref (ad a1)), (2, .int n2)] := hl
  refine lv_aload_n hx hb dd_C_encipher_17 rfl (lv_at hl 3 rfl) ?_
  refine lv_iload_n hx hb dd_C_encipher_18 rfl (lv_at hl 4 rfl) ?_
  refine lv_iconst (v := 4) hx hb dd_C_encipher_19 rfl ?_
  refine lv_iadd hx hb dd_C_encipher_20 ?_
  refine lv_iconst (v := 4) hx hb dd_C_encipher_21 rfl ?_
  obtain ⟨q3, gq3, h⟩ := xs_ob h
  refine xq_i hK hw (va_runSN (As := [.ref (ad a1), .int (n2 + 4), .int 4]) (rest := []) ⟨hx, hb, hml, hown, hts⟩ (xc_W_number l D ad ca ks a1 (n2 + 4) 4 S q3 ha1 gq3 _) ⟨va_cnB 3 hts (xs_good hw_117) rfl rfl rfl (hK.2.2.2.1 _ hn_115 rfl) (hts _ hw_1) yd_W_number ⟨Nat.le_trans (by decide) hRf, Nat.le_trans (by decide) hRl⟩, (hts _ hw_116), trivial⟩ ⟨xs_blind, fun U h1 h2 => ⟨rfl, xs_pre hK hw h1 h2⟩⟩ rfl rfl hl.1 rfl (lv_room (Nat.le_of_ble_eq_true rfl)) dd_C_encipher_22 ⟨Nat.zero_le _, Nat.zero_le _⟩) (fun H locs hw => ?_)
  refine lv_aload_n hx hb dd_C_encipher_25 rfl (lv_at hl 1 rfl) ?_
  refine lv_iconst (v := 1) hx hb dd_C_encipher_26 rfl ?_
  obtain ⟨v4, gv4, h⟩ := xs_ob h
  refine xr_iald hx hb hK hw (xs_ok_C_roundKeys hK.1 hk) gv4 dd_C_encipher_27 ?_
  refine lv_ixor hx hb dd_C_encipher_28 ?_
  refine lv_istore hx hb dd_C_encipher_29 hl (by decide) rfl (fun ls hl => ?_)
  have hl : lv_has ls 13 [(5, .int (q3 ^^^ v4)), (4, .int (q1 ^^^ v2)), (3, .ref (ad (k + 1))), (0, .ref (ad k)), (1, .ref (ad a1)), (2, .int n2)] := hl
  refine lv_aload_n hx hb dd_C_encipher_31 rfl (lv_at hl 4 rfl) ?_
  refine lv_iload_n hx hb dd_C_encipher_32 rfl (lv_at hl 5 rfl) ?_
  refine lv_bipush (v := 8) hx hb dd_C_encipher_33 rfl ?_
  refine lv_iadd hx hb dd_C_encipher_35 ?_
  refine lv_iconst (v := 4) hx hb dd_C_encipher_36 rfl ?_
  obtain ⟨q5, gq5, h⟩ := xs_ob h
  refine xq_i hK hw (va_runSN (As := [.ref (ad a1), .int (n2 + 8), .int 4]) (rest := []) ⟨hx, hb, hml, hown, hts⟩ (xc_W_number l D ad ca ks a1 (n2 + 8) 4 S q5 ha1 gq5 _) ⟨va_cnB 3 hts (xs_good hw_117) rfl rfl rfl (hK.2.2.2.1 _ hn_115 rfl) (hts _ hw_1) yd_W_number ⟨Nat.le_trans (by decide) hRf, Nat.le_trans (by decide) hRl⟩, (hts _ hw_116), trivial⟩ ⟨xs_blind, fun U h1 h2 => ⟨rfl, xs_pre hK hw h1 h2⟩⟩ rfl rfl hl.1 rfl (lv_room (Nat.le_of_ble_eq_true rfl)) dd_C_encipher_37 ⟨Nat.zero_le _, Nat.zero_le _⟩) (fun H locs hw => ?_)
  refine lv_aload_n hx hb dd_C_encipher_40 rfl (lv_at hl 2 rfl) ?_
  refine lv_iconst (v := 2) hx hb dd_C_encipher_41 rfl ?_
  obtain ⟨v6, gv6, h⟩ := xs_ob h
  refine xr_iald hx hb hK hw (xs_ok_C_roundKeys hK.1 hk) gv6 dd_C_encipher_42 ?_
  refine lv_ixor hx hb dd_C_encipher_43 ?_
  refine lv_istore hx hb dd_C_encipher_44 hl (by decide) rfl (fun ls hl => ?_)
  have hl : lv_has ls 13 [(6, .int (q5 ^^^ v6)), (5, .int (q3 ^^^ v4)), (4, .int (q1 ^^^ v2)), (3, .ref (ad (k + 1))), (0, .ref (ad k)), (1, .ref (ad a1)), (2, .int n2)] := hl
  refine lv_aload_n hx hb dd_C_encipher_46 rfl (lv_at hl 5 rfl) ?_
  refine lv_iload_n hx hb dd_C_encipher_47 rfl (lv_at hl 6 rfl) ?_
  refine lv_bipush (v := 12) hx hb dd_C_encipher_48 rfl ?_
  refine lv_iadd hx hb dd_C_encipher_50 ?_
  refine lv_iconst (v := 4) hx hb dd_C_encipher_51 rfl ?_
  obtain ⟨q7, gq7, h⟩ := xs_ob h
  refine xq_i hK hw (va_runSN (As := [.ref (ad a1), .int (n2 + 12), .int 4]) (rest := []) ⟨hx, hb, hml, hown, hts⟩ (xc_W_number l D ad ca ks a1 (n2 + 12) 4 S q7 ha1 gq7 _) ⟨va_cnB 3 hts (xs_good hw_117) rfl rfl rfl (hK.2.2.2.1 _ hn_115 rfl) (hts _ hw_1) yd_W_number ⟨Nat.le_trans (by decide) hRf, Nat.le_trans (by decide) hRl⟩, (hts _ hw_116), trivial⟩ ⟨xs_blind, fun U h1 h2 => ⟨rfl, xs_pre hK hw h1 h2⟩⟩ rfl rfl hl.1 rfl (lv_room (Nat.le_of_ble_eq_true rfl)) dd_C_encipher_52 ⟨Nat.zero_le _, Nat.zero_le _⟩) (fun H locs hw => ?_)
  refine lv_aload_n hx hb dd_C_encipher_55 rfl (lv_at hl 3 rfl) ?_
  refine lv_iconst (v := 3) hx hb dd_C_encipher_56 rfl ?_
  obtain ⟨v8, gv8, h⟩ := xs_ob h
  refine xr_iald hx hb hK hw (xs_ok_C_roundKeys hK.1 hk) gv8 dd_C_encipher_57 ?_
  refine lv_ixor hx hb dd_C_encipher_58 ?_
  refine lv_istore hx hb dd_C_encipher_59 hl (by decide) rfl (fun ls hl => ?_)
  have hl : lv_has ls 13 [(7, .int (q7 ^^^ v8)), (6, .int (q5 ^^^ v6)), (5, .int (q3 ^^^ v4)), (4, .int (q1 ^^^ v2)), (3, .ref (ad (k + 1))), (0, .ref (ad k)), (1, .ref (ad a1)), (2, .int n2)] := hl
  refine lv_iconst (v := 4) hx hb dd_C_encipher_61 rfl ?_
  refine lv_istore hx hb dd_C_encipher_62 hl (by decide) rfl (fun ls hl => ?_)
  have hl : lv_has ls 13 [(8, .int 4), (7, .int (q7 ^^^ v8)), (6, .int (q5 ^^^ v6)), (5, .int (q3 ^^^ v4)), (4, .int (q1 ^^^ v2)), (3, .ref (ad (k + 1))), (0, .ref (ad k)), (1, .ref (ad a1)), (2, .int n2)] := hl
  exact w_64 xs_fuel (q1 ^^^ v2) (q3 ^^^ v4) (q5 ^^^ v6) (q7 ^^^ v8) 4 S _ _ _ hw (lv_sub hl [7, 8, 5, 4, 3, 2, 1, 0] rfl) h
set_option maxHeartbeats 4000000 in
set_option maxRecDepth 100000 in
theorem xc_M_moveUp (l : Launch) (D : va_G) (ad : Nat → Nat) (ca : Nat → ClassId) (ks : List Nat) (a0 : Nat) (S : xs_T) (T : xs_T) (ha0 : xs_is ks a0 50) (h : xf_M_moveUp a0 S = some T) (sz : Nat) : Met l yy_M_moveUp ws_M_moveUp { frames := 0, cells := 0, slots := 0, locals := 0 } (va_Pc [.ref (ad a0)] (xs_Pre D ad ca ks S sz)) (va_Qv (fun _ : Unit => True) (fun _ t => va_P D xs_cl (xs_w ad ca ks T) t.heap) (xs_A ad ks sz)) 0 0 (xs_A ad ks sz) := by
  refine xm_v (by decide) (Nat.le_of_ble_eq_true rfl) ?_
  intro p e s m args below meth c R A Q ls hx hb hml hown hts hRf hRl hK hw hl hret
  have hl : lv_has ls 4 [(0, .ref (ad a0))] := hl
  have w_32 : ∀ (c9 : Int32 → Int32 → xs_T → Option (xs_T)) (y9 : ∀ (i1 : Int32) (i2 : Int32) (S : xs_T) (H : Heap) (locs : List Loc) (ls : Array Slot), xs_I D ad ca ks A s S H locs → lv_has ls 4 [(0, .ref (ad a0)), (1, .int i1), (2, .int i2)] → c9 i1 i2 S = some T → W p l e R s m args below meth c H locs 0 0 Q (F0 m 9 ls [])), ∀ (i1 : Int32) (i2 : Int32) (t0 : Int32) (S : xs_T) (H : Heap) (locs : List Loc) (ls : Array Slot), xs_I D ad ca ks A s S H locs → lv_has ls 4 [(0, .ref (ad a0)), (1, .int i1), (2, .int i2)] → xf_M_moveUp_32 a0 c9 i1 i2 t0 S = some T → W p l e R s m args below meth c H locs 0 0 Q (F0 m 32 ls [.int t0]) := by
    intro c9 y9 i1 i2 t0 S H locs ls hw hl h
    unfold xf_M_moveUp_32 at h
    refine lv_istore_n hx hb dd_M_moveUp_32 rfl hl (by decide) rfl (fun ls hl => ?_)
    have hl : lv_has ls 4 [(3, .int t0), (0, .ref (ad a0)), (1, .int i1), (2, .int i2)] := hl
    refine lv_aload_n hx hb dd_M_moveUp_33 rfl (lv_at hl 1 rfl) ?_
    refine lv_iload_n hx hb dd_M_moveUp_34 rfl (lv_at hl 3 rfl) ?_
    refine lv_aload_n hx hb dd_M_moveUp_35 rfl (lv_at hl 1 rfl) ?_
    refine lv_iload_n hx hb dd_M_moveUp_36 rfl (lv_at hl 3 rfl) ?_
    obtain ⟨v6, gv6, h⟩ := xs_ob h
    refine xr_iald hx hb hK hw ha0 gv6 dd_M_moveUp_37 ?_
    refine lv_iconst (v := 1) hx hb dd_M_moveUp_38 rfl ?_
    refine lv_ishl hx hb dd_M_moveUp_39 ?_
    refine lv_iload_n hx hb dd_M_moveUp_40 rfl (lv_at hl 0 rfl) ?_
    refine lv_bipush (v := 7) hx hb dd_M_moveUp_41 rfl ?_
    refine lv_iushr (v := xs_ush t0 7) hx hb dd_M_moveUp_43 rfl ?_
    refine lv_ior hx hb dd_M_moveUp_44 ?_
    refine lv_sipush (v := 255) hx hb dd_M_moveUp_45 rfl ?_
    refine lv_iand hx hb dd_M_moveUp_48 ?_
    obtain ⟨S7, gS7, h⟩ := xs_ob h
    refine xr_iast hx hb hK hw ha0 gS7 dd_M_moveUp_49 (fun H locs hw => ?_)
    refine lv_iinc (k := 3) (v := i2 + 1) hx hb dd_M_moveUp_50 hl rfl rfl (by decide) rfl (fun ls hl => ?_)
    have hl : lv_has ls 4 [(2, .int (i2 + 1)), (3, .int t0), (0, .ref (ad a0)), (1, .int i1)] := hl
    refine lv_goto hx hb dd_M_moveUp_53 rfl ?_
    exact y9 i1 (i2 + 1) S7 _ _ _ hw (lv_sub hl [2, 3, 0] rfl) h
  have w_9 : ∀ (f : Nat), ∀ (i1 : Int32) (i2 : Int32) (S : xs_T) (H : Heap) (locs : List Loc) (ls : Array Slot), xs_I D ad ca ks A s S H locs → lv_has ls 4 [(0, .ref (ad a0)), (1, .int i1), (2, .int i2)] → xf_M_moveUp_9 a0 f i1 i2 S = some T → W p l e R s m args below meth c H locs 0 0 Q (F0 m 9 ls []) := by
    intro f
    induction f with
    | zero => intro i1 i2 S H locs ls hw hl h; exact absurd h (by simp [xf_M_moveUp_9])
    | succ f ih =>
      intro i1 i2 S H locs ls hw hl h
      rw [xf_M_moveUp_9] at h
      refine lv_iload_n hx hb dd_M_moveUp_9 rfl (lv_at hl 2 rfl) ?_
      refine lv_bipush (v := 16) hx hb dd_M_moveUp_10 rfl ?_
      refine lv_icmp_ge hx hb dd_M_moveUp_12 rfl (fun b2 => ?_) (fun b2 => ?_)
      · replace h := xs_p b2 h
        refine lv_aload_n hx hb dd_M_moveUp_56 rfl (lv_at hl 0 rfl) ?_
        refine lv_bipush (v := 15) hx hb dd_M_moveUp_57 rfl ?_
        refine lv_dup2_11 hx hb dd_M_moveUp_59 rfl rfl ?_
        obtain ⟨v3, gv3, h⟩ := xs_ob h
        refine xr_iald hx hb hK hw ha0 gv3 dd_M_moveUp_60 ?_
        refine lv_iload_n hx hb dd_M_moveUp_61 rfl (lv_at hl 1 rfl) ?_
        refine lv_sipush (v := 135) hx hb dd_M_moveUp_62 rfl ?_
        refine lv_imul hx hb dd_M_moveUp_65 ?_
        refine lv_ixor hx hb dd_M_moveUp_66 ?_
        obtain ⟨S4, gS4, h⟩ := xs_ob h
        refine xr_iast hx hb hK hw ha0 gS4 dd_M_moveUp_67 (fun H locs hw => ?_)
        exact hret h hw dd_M_moveUp_68
      · replace h := xs_n b2 h
        refine lv_iload_n hx hb dd_M_moveUp_15 rfl (lv_at hl 2 rfl) ?_
        refine lv_iconst (v := 1) hx hb dd_M_moveUp_16 rfl ?_
        refine lv_iadd hx hb dd_M_moveUp_17 ?_
        refine lv_bipush (v := 16) hx hb dd_M_moveUp_18 rfl ?_
        refine lv_icmp_ge hx hb dd_M_moveUp_20 rfl (fun b5 => ?_) (fun b5 => ?_)
        · replace h := xs_p b5 h
          refine lv_iconst (v := 0) hx hb dd_M_moveUp_31 rfl ?_
          exact w_32 (xf_M_moveUp_9 a0 f) ih i1 i2 0 S _ _ _ hw (lv_sub hl [0, 1, 2] rfl) h
        · replace h := xs_n b5 h
          refine lv_aload_n hx hb dd_M_moveUp_23 rfl (lv_at hl 0 rfl) ?_
          refine lv_iload_n hx hb dd_M_moveUp_24 rfl (lv_at hl 2 rfl) ?_
          refine lv_iconst (v := 1) hx hb dd_M_moveUp_25 rfl ?_
          refine lv_iadd hx hb dd_M_moveUp_26 ?_
          obtain ⟨v8, gv8, h⟩ := xs_ob h
          refine xr_iald hx hb hK hw ha0 gv8 dd_M_moveUp_27 ?_
          refine lv_goto hx hb dd_M_moveUp_28 rfl ?_
          exact w_32 (xf_M_moveUp_9 a0 f) ih i1 i2 v8 S _ _ _ hw (lv_sub hl [0, 1, 2] rfl) h
  unfold xf_M_moveUp at h
  refine lv_aload_n hx hb dd_M_moveUp_0 rfl (lv_at hl 0 rfl) ?_
  refine lv_iconst (v := 0) hx hb dd_M_moveUp_1 rfl ?_
  obtain ⟨v1, gv1, h⟩ := xs_ob h
  refine xr_iald hx hb hK hw ha0 gv1 dd_M_moveUp_2 ?_
  refine lv_bipush (v := 7) hx hb dd_M_moveUp_3 rfl ?_
  refine lv_iushr (v := xs_ush v1 7) hx hb dd_M_moveUp_5 rfl ?_
  refine lv_istore_n hx hb dd_M_moveUp_6 rfl hl (by decide) rfl (fun ls hl => ?_)
  have hl : lv_has ls 4 [(1, .int (xs_ush v1 7)), (0, .ref (ad a0))] := hl
  refine lv_iconst (v := 0) hx hb dd_M_moveUp_7 rfl ?_
  refine lv_istore_n hx hb dd_M_moveUp_8 rfl hl (by decide) rfl (fun ls hl => ?_)
  have hl : lv_has ls 4 [(2, .int 0), (1, .int (xs_ush v1 7)), (0, .ref (ad a0))] := hl
  exact w_9 xs_fuel (xs_ush v1 7) 0 S _ _ _ hw (lv_sub hl [2, 1, 0] rfl) h
set_option maxHeartbeats 4000000 in
set_option maxRecDepth 100000 in
theorem xc_M_takeKey (l : Launch) (D : va_G) (ad : Nat → Nat) (ca : Nat → ClassId) (ks : List Nat) (k : Nat) (a1 : Nat) (S : xs_T) (T : xs_T) (hk : xs_is ks k xs_cM) (ha1 : xs_is ks a1 50) (h : xf_M_takeKey k a1 S = some T) (sz : Nat) : Met l yy_M_takeKey ws_M_takeKey { frames := 2, cells := 0, slots := 0, locals := 67 } (va_Pc [.ref (ad k), .ref (ad a1)] (xs_Pre D ad ca ks S sz)) (va_Qv (fun _ : Unit => True) (fun _ t => va_P D xs_cl (xs_w ad ca ks T) t.heap) (xs_A ad ks sz)) 0 0 (xs_A ad ks sz) := by
  refine xm_v (by decide) (Nat.le_of_ble_eq_true rfl) ?_
  intro p e s m args below meth c R A Q ls hx hb hml hown hts hRf hRl hK hw hl hret
  have hl : lv_has ls 2 [(0, .ref (ad k)), (1, .ref (ad a1))] := hl
  unfold xf_M_takeKey at h
  refine lv_aload_n hx hb dd_M_takeKey_0 rfl (lv_at hl 0 rfl) ?_
  refine xr_get_M (v := .ref (ad (k + 1))) hx hb hts hown hK hw hk 0 (by decide) (hts _ hw_92) rfl dd_M_takeKey_1 ?_
  refine lv_aload_n hx hb dd_M_takeKey_4 rfl (lv_at hl 1 rfl) ?_
  obtain ⟨q1, gq1, h⟩ := xs_ob h
  refine xq_v hK hw (va_runV (As := [.ref (ad a1)]) (rest := []) ⟨hx, hb, hml, hown, hts⟩ (xc_C_takeKey l D ad ca ks (k + 1) a1 S q1 (xs_ok_M_cipher hK.1 hk) ha1 gq1 _) ⟨callB_of 1 hts (xs_good hw_114) rfl rfl rfl (hts _ hw_5) (hts _ hw_111) yd_C_takeKey ⟨Nat.le_trans (by decide) hRf, Nat.le_trans (by decide) hRl⟩, (hts _ hw_112), (hts _ hw_113)⟩ ⟨xs_blind, xs_recv_C hK hw (xs_ok_M_cipher hK.1 hk), fun U h1 h2 => ⟨rfl, xs_pre hK hw h1 h2⟩⟩ rfl rfl hl.1 rfl (lv_room (Nat.le_of_ble_eq_true rfl)) dd_M_takeKey_5 ⟨Nat.zero_le _, Nat.zero_le _⟩) (fun H locs hw => ?_)
  refine lv_aload_n hx hb dd_M_takeKey_8 rfl (lv_at hl 0 rfl) ?_
  refine xr_get_M (v := .ref (ad (k + 3))) hx hb hts hown hK hw hk 1 (by decide) (hts _ hw_95) rfl dd_M_takeKey_9 ?_
  refine lv_iconst (v := 0) hx hb dd_M_takeKey_12 rfl ?_
  obtain ⟨q2, gq2, h⟩ := xs_ob h
  refine xq_v hK hw (va_runS (As := [.ref (ad (k + 3)), .int 0]) (rest := []) ⟨hx, hb, hml, hown, hts⟩ (xc_J_fill l D ad ca ks (k + 3) 0 q1 q2 (xs_ok_M_wholeSubkey hK.1 hk) gq2 _) ⟨callB_of 2 hts (xs_good hw_130) rfl rfl rfl (hts _ hw_6) (hts _ hw_128) yd_J_fill ⟨Nat.le_trans (by decide) hRf, Nat.le_trans (by decide) hRl⟩, (hts _ hw_129)⟩ ⟨xs_blind, fun U h1 h2 => ⟨rfl, xs_pre hK hw h1 h2⟩⟩ rfl rfl hl.1 rfl (lv_room (Nat.le_of_ble_eq_true rfl)) dd_M_takeKey_13 ⟨Nat.zero_le _, Nat.zero_le _⟩) (fun H locs hw => ?_)
  refine lv_aload_n hx hb dd_M_takeKey_16 rfl (lv_at hl 0 rfl) ?_
  refine xr_get_M (v := .ref (ad (k + 1))) hx hb hts hown hK hw hk 0 (by decide) (hts _ hw_92) rfl dd_M_takeKey_17 ?_
  refine lv_aload_n hx hb dd_M_takeKey_20 rfl (lv_at hl 0 rfl) ?_
  refine xr_get_M (v := .ref (ad (k + 3))) hx hb hts hown hK hw hk 1 (by decide) (hts _ hw_95) rfl dd_M_takeKey_21 ?_
  refine lv_iconst (v := 0) hx hb dd_M_takeKey_24 rfl ?_
  obtain ⟨q3, gq3, h⟩ := xs_ob h
  refine xq_v hK hw (va_runV (As := [.ref (ad (k + 3)), .int 0]) (rest := []) ⟨hx, hb, hml, hown, hts⟩ (xc_C_encipher l D ad ca ks (k + 1) (k + 3) 0 q2 q3 (xs_ok_M_cipher hK.1 hk) (xs_ok_M_wholeSubkey hK.1 hk) gq3 _) ⟨callB_of 2 hts (xs_good hw_134) rfl rfl rfl (hts _ hw_5) (hts _ hw_131) yd_C_encipher ⟨Nat.le_trans (by decide) hRf, Nat.le_trans (by decide) hRl⟩, (hts _ hw_132), (hts _ hw_133)⟩ ⟨xs_blind, xs_recv_C hK hw (xs_ok_M_cipher hK.1 hk), fun U h1 h2 => ⟨rfl, xs_pre hK hw h1 h2⟩⟩ rfl rfl hl.1 rfl (lv_room (Nat.le_of_ble_eq_true rfl)) dd_M_takeKey_25 ⟨Nat.zero_le _, Nat.zero_le _⟩) (fun H locs hw => ?_)
  refine lv_aload_n hx hb dd_M_takeKey_28 rfl (lv_at hl 0 rfl) ?_
  refine xr_get_M (v := .ref (ad (k + 3))) hx hb hts hown hK hw hk 1 (by decide) (hts _ hw_95) rfl dd_M_takeKey_29 ?_
  obtain ⟨q4, gq4, h⟩ := xs_ob h
  refine xq_v hK hw (va_runS (As := [.ref (ad (k + 3))]) (rest := []) ⟨hx, hb, hml, hown, hts⟩ (xc_M_moveUp l D ad ca ks (k + 3) q3 q4 (xs_ok_M_wholeSubkey hK.1 hk) gq4 _) ⟨callB_of 1 hts (xs_good hw_143) rfl rfl rfl (hts _ hw_4) (hts _ hw_141) yd_M_moveUp ⟨Nat.le_trans (by decide) hRf, Nat.le_trans (by decide) hRl⟩, (hts _ hw_142)⟩ ⟨xs_blind, fun U h1 h2 => ⟨rfl, xs_pre hK hw h1 h2⟩⟩ rfl rfl hl.1 rfl (lv_room (Nat.le_of_ble_eq_true rfl)) dd_M_takeKey_32 ⟨Nat.zero_le _, Nat.zero_le _⟩) (fun H locs hw => ?_)
  refine lv_aload_n hx hb dd_M_takeKey_35 rfl (lv_at hl 0 rfl) ?_
  refine xr_get_M (v := .ref (ad (k + 3))) hx hb hts hown hK hw hk 1 (by decide) (hts _ hw_95) rfl dd_M_takeKey_36 ?_
  refine lv_iconst (v := 0) hx hb dd_M_takeKey_39 rfl ?_
  refine lv_aload_n hx hb dd_M_takeKey_40 rfl (lv_at hl 0 rfl) ?_
  refine xr_get_M (v := .ref (ad (k + 4))) hx hb hts hown hK hw hk 2 (by decide) (hts _ hw_96) rfl dd_M_takeKey_41 ?_
  refine lv_iconst (v := 0) hx hb dd_M_takeKey_44 rfl ?_
  refine lv_bipush (v := 16) hx hb dd_M_takeKey_45 rfl ?_
  obtain ⟨S5, gS5, h⟩ := xs_ob h
  refine xr_cpy hx hb (hml.trans hl.1.symm) hown (hts _ hw_144) (hts _ hw_146) (hts _ hw_145) (hts _ hw_7) hK hw (xs_ok_M_wholeSubkey hK.1 hk) (xs_ok_M_paddedSubkey hK.1 hk) gS5 (Nat.le_trans (by decide) hRf) (Nat.le_trans (Nat.le_of_ble_eq_true rfl) hRl) dd_M_takeKey_47 (fun H locs hw => ?_)
  refine lv_aload_n hx hb dd_M_takeKey_50 rfl (lv_at hl 0 rfl) ?_
  refine xr_get_M (v := .ref (ad (k + 4))) hx hb hts hown hK hw hk 2 (by decide) (hts _ hw_96) rfl dd_M_takeKey_51 ?_
  obtain ⟨q6, gq6, h⟩ := xs_ob h
  refine xq_v hK hw (va_runS (As := [.ref (ad (k + 4))]) (rest := []) ⟨hx, hb, hml, hown, hts⟩ (xc_M_moveUp l D ad ca ks (k + 4) S5 q6 (xs_ok_M_paddedSubkey hK.1 hk) gq6 _) ⟨callB_of 1 hts (xs_good hw_143) rfl rfl rfl (hts _ hw_4) (hts _ hw_141) yd_M_moveUp ⟨Nat.le_trans (by decide) hRf, Nat.le_trans (by decide) hRl⟩, (hts _ hw_142)⟩ ⟨xs_blind, fun U h1 h2 => ⟨rfl, xs_pre hK hw h1 h2⟩⟩ rfl rfl hl.1 rfl (lv_room (Nat.le_of_ble_eq_true rfl)) dd_M_takeKey_54 ⟨Nat.zero_le _, Nat.zero_le _⟩) (fun H locs hw => ?_)
  exact hret h hw dd_M_takeKey_57
