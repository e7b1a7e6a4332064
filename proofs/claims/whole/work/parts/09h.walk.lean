set_option maxHeartbeats 4000000 in
set_option maxRecDepth 100000 in
theorem xc_R_copyBlock (l : Launch) (D : va_G) (ad : Nat → Nat) (ca : Nat → ClassId) (ks : List Nat) (k : Nat) (S : xs_T) (T : xs_T) (hk : xs_is ks k xs_cR) (h : xf_R_copyBlock k S = some T) (sz : Nat) : Met l yy_R_copyBlock ws_R_copyBlock { frames := 0, cells := 0, slots := 0, locals := 0 } (va_Pc [.ref (ad k)] (xs_Pre D ad ca ks S sz)) (va_Qv (fun _ : Unit => True) (fun _ t => va_P D xs_cl (xs_w ad ca ks T) t.heap) (xs_A ad ks sz)) 0 0 (xs_A ad ks sz) := by
  refine xm_v (by decide) (Nat.le_of_ble_eq_true rfl) ?_
  intro p e s m args below meth c R A Q ls hx hb hml hown hts hRf hRl hK hw hl hret
  have hl : lv_has ls 2 [(0, .ref (ad k))] := hl
  have w_2 : ∀ (f : Nat), ∀ (i1 : Int32) (S : xs_T) (H : Heap) (locs : List Loc) (ls : Array Slot), xs_I D ad ca ks A s S H locs → lv_has ls 2 [(0, .ref (ad k)), (1, .int i1)] → xf_R_copyBlock_2 k f i1 S = some T → W p l e R s m args below meth c H locs 0 0 Q (F0 m 2 ls []) := by
    intro f
    induction f with
    | zero => intro i1 S H locs ls hw hl h; exact absurd h (by simp [xf_R_copyBlock_2])
    | succ f ih =>
      intro i1 S H locs ls hw hl h
      rw [xf_R_copyBlock_2] at h
      refine lv_iload_n hx hb dd_R_copyBlock_2 rfl (lv_at hl 1 rfl) ?_
      refine lv_bipush (v := 16) hx hb dd_R_copyBlock_3 rfl ?_
      refine lv_icmp_ge hx hb dd_R_copyBlock_5 rfl (fun b1 => ?_) (fun b1 => ?_)
      · replace h := xs_p b1 h
        exact hret h hw dd_R_copyBlock_26
      · replace h := xs_n b1 h
        refine lv_aload_n hx hb dd_R_copyBlock_8 rfl (lv_at hl 0 rfl) ?_
        refine xr_get_R (v := .ref (ad (k + 5))) hx hb hts hown hK hw hk 4 (by decide) (hts _ hw_747) rfl dd_R_copyBlock_9 ?_
        refine lv_iload_n hx hb dd_R_copyBlock_12 rfl (lv_at hl 1 rfl) ?_
        refine lv_aload_n hx hb dd_R_copyBlock_13 rfl (lv_at hl 0 rfl) ?_
        refine xr_get_R (v := .ref (ad (k + 4))) hx hb hts hown hK hw hk 3 (by decide) (hts _ hw_746) rfl dd_R_copyBlock_14 ?_
        refine lv_iload_n hx hb dd_R_copyBlock_17 rfl (lv_at hl 1 rfl) ?_
        obtain ⟨v2, gv2, h⟩ := xs_ob h
        refine xr_iald hx hb hK hw (xs_ok_R_block hK.1 hk) gv2 dd_R_copyBlock_18 ?_
        obtain ⟨S3, gS3, h⟩ := xs_ob h
        refine xr_iast hx hb hK hw (xs_ok_R_old hK.1 hk) gS3 dd_R_copyBlock_19 (fun H locs hw => ?_)
        refine lv_iinc (k := 1) (v := i1 + 1) hx hb dd_R_copyBlock_20 hl rfl rfl (by decide) rfl (fun ls hl => ?_)
        have hl : lv_has ls 2 [(1, .int (i1 + 1)), (0, .ref (ad k))] := hl
        refine lv_goto hx hb dd_R_copyBlock_23 rfl ?_
        exact ih (i1 + 1) S3 _ _ _ hw (lv_sub hl [1, 0] rfl) h
  unfold xf_R_copyBlock at h
  refine lv_iconst (v := 0) hx hb dd_R_copyBlock_0 rfl ?_
  refine lv_istore_n hx hb dd_R_copyBlock_1 rfl hl (by decide) rfl (fun ls hl => ?_)
  have hl : lv_has ls 2 [(1, .int 0), (0, .ref (ad k))] := hl
  exact w_2 xs_fuel 0 S _ _ _ hw (lv_sub hl [1, 0] rfl) h
set_option maxHeartbeats 4000000 in
set_option maxRecDepth 100000 in
theorem xc_R_mix (l : Launch) (D : va_G) (ad : Nat → Nat) (ca : Nat → ClassId) (ks : List Nat) (k : Nat) (n1 : Int32) (n2 : Int32) (n3 : Int32) (n4 : Int32) (S : xs_T) (T : xs_T) (hk : xs_is ks k xs_cR) (h : xf_R_mix k n1 n2 n3 n4 S = some T) (sz : Nat) : Met l yy_R_mix ws_R_mix { frames := 2, cells := 0, slots := 0, locals := 44 } (va_Pc [.ref (ad k), .int n1, .int n2, .int n3, .int n4] (xs_Pre D ad ca ks S sz)) (va_Qv (fun _ : Unit => True) (fun _ t => va_P D xs_cl (xs_w ad ca ks T) t.heap) (xs_A ad ks sz)) 0 0 (xs_A ad ks sz) := by
  refine xm_v (by decide) (Nat.le_of_ble_eq_true rfl) ?_
  intro p e s m args below meth c R A Q ls hx hb hml hown hts hRf hRl hK hw hl hret
  have hl : lv_has ls 7 [(0, .ref (ad k)), (1, .int n1), (2, .int n2), (3, .int n3), (4, .int n4)] := hl
  have w_7 : ∀ (f : Nat), ∀ (i5 : Int32) (S : xs_T) (H : Heap) (locs : List Loc) (ls : Array Slot), xs_I D ad ca ks A s S H locs → lv_has ls 7 [(0, .ref (ad k)), (1, .int n1), (2, .int n2), (3, .int n3), (4, .int n4), (5, .int i5)] → xf_R_mix_7 k n1 n2 n3 n4 f i5 S = some T → W p l e R s m args below meth c H locs 0 0 Q (F0 m 7 ls []) := by
    intro f
    induction f with
    | zero => intro i5 S H locs ls hw hl h; exact absurd h (by simp [xf_R_mix_7])
    | succ f ih =>
      intro i5 S H locs ls hw hl h
      rw [xf_R_mix_7] at h
      refine lv_iload hx hb dd_R_mix_7 (lv_at hl 5 rfl) ?_
      refine lv_bipush (v := 16) hx hb dd_R_mix_9 rfl ?_
      refine lv_icmp_ge hx hb dd_R_mix_11 rfl (fun b2 => ?_) (fun b2 => ?_)
      · replace h := xs_p b2 h
        exact hret h hw dd_R_mix_104
      · replace h := xs_n b2 h
        refine lv_iload hx hb dd_R_mix_14 (lv_at hl 5 rfl) ?_
        refine lv_iconst (v := 4) hx hb dd_R_mix_16 rfl ?_
        refine lv_idiv hx hb dd_R_mix_17 (by decide) ?_
        refine lv_iconst (v := 4) hx hb dd_R_mix_18 rfl ?_
        refine lv_imul hx hb dd_R_mix_19 ?_
        refine lv_istore hx hb dd_R_mix_20 hl (by decide) rfl (fun ls hl => ?_)
        have hl : lv_has ls 7 [(6, .int ((i5 / 4) * 4)), (0, .ref (ad k)), (1, .int n1), (2, .int n2), (3, .int n3), (4, .int n4), (5, .int i5)] := hl
        refine lv_aload_n hx hb dd_R_mix_22 rfl (lv_at hl 1 rfl) ?_
        refine xr_get_R (v := .ref (ad (k + 4))) hx hb hts hown hK hw hk 3 (by decide) (hts _ hw_746) rfl dd_R_mix_23 ?_
        refine lv_iload hx hb dd_R_mix_26 (lv_at hl 6 rfl) ?_
        refine lv_aload_n hx hb dd_R_mix_28 rfl (lv_at hl 1 rfl) ?_
        refine xr_get_R (v := .ref (ad (k + 5))) hx hb hts hown hK hw hk 4 (by decide) (hts _ hw_747) rfl dd_R_mix_29 ?_
        refine lv_iload hx hb dd_R_mix_32 (lv_at hl 6 rfl) ?_
        obtain ⟨v3, gv3, h⟩ := xs_ob h
        refine xr_iald hx hb hK hw (xs_ok_R_old hK.1 hk) gv3 dd_R_mix_34 ?_
        refine lv_iload_n hx hb dd_R_mix_35 rfl (lv_at hl 2 rfl) ?_
        obtain ⟨q4, gq4, h⟩ := xs_ob h
        refine xq_i hK hw (va_runS (As := [.int v3, .int n1]) (rest := [.int i5, .ref (ad (k + 4))]) ⟨hx, hb, hml, hown, hts⟩ (xc_R_times l D ad ca ks v3 n1 S q4 gq4 _) ⟨callB_of 2 hts (xs_good hw_735) rfl rfl rfl (hts _ hw_13) (hts _ hw_733) yd_R_times ⟨Nat.le_trans (by decide) hRf, Nat.le_trans (by decide) hRl⟩, (hts _ hw_734)⟩ ⟨xs_blind, fun U h1 h2 => ⟨rfl, xs_pre hK hw h1 h2⟩⟩ rfl rfl hl.1 rfl (lv_room (Nat.le_of_ble_eq_true rfl)) dd_R_mix_36 ⟨Nat.zero_le _, Nat.zero_le _⟩) (fun H locs hw => ?_)
        refine lv_aload_n hx hb dd_R_mix_39 rfl (lv_at hl 1 rfl) ?_
        refine xr_get_R (v := .ref (ad (k + 5))) hx hb hts hown hK hw hk 4 (by decide) (hts _ hw_747) rfl dd_R_mix_40 ?_
        refine lv_iload hx hb dd_R_mix_43 (lv_at hl 0 rfl) ?_
        refine lv_iload hx hb dd_R_mix_45 (lv_at hl 6 rfl) ?_
        refine lv_iconst (v := 1) hx hb dd_R_mix_47 rfl ?_
        refine lv_iadd hx hb dd_R_mix_48 ?_
        refine lv_iconst (v := 4) hx hb dd_R_mix_49 rfl ?_
        refine lv_irem hx hb dd_R_mix_50 (by decide) ?_
        refine lv_asI (v := xs_rem (i5 + 1) 4) rfl ?_
        refine lv_iadd hx hb dd_R_mix_51 ?_
        obtain ⟨v5, gv5, h⟩ := xs_ob h
        refine xr_iald hx hb hK hw (xs_ok_R_old hK.1 hk) gv5 dd_R_mix_52 ?_
        refine lv_iload_n hx hb dd_R_mix_53 rfl (lv_at hl 3 rfl) ?_
        obtain ⟨q6, gq6, h⟩ := xs_ob h
        refine xq_i hK hw (va_runS (As := [.int v5, .int n2]) (rest := [.int q4, .int i5, .ref (ad (k + 4))]) ⟨hx, hb, hml, hown, hts⟩ (xc_R_times l D ad ca ks v5 n2 S q6 gq6 _) ⟨callB_of 2 hts (xs_good hw_735) rfl rfl rfl (hts _ hw_13) (hts _ hw_733) yd_R_times ⟨Nat.le_trans (by decide) hRf, Nat.le_trans (by decide) hRl⟩, (hts _ hw_734)⟩ ⟨xs_blind, fun U h1 h2 => ⟨rfl, xs_pre hK hw h1 h2⟩⟩ rfl rfl hl.1 rfl (lv_room (Nat.le_of_ble_eq_true rfl)) dd_R_mix_54 ⟨Nat.zero_le _, Nat.zero_le _⟩) (fun H locs hw => ?_)
        refine lv_ixor hx hb dd_R_mix_57 ?_
        refine lv_aload_n hx hb dd_R_mix_58 rfl (lv_at hl 1 rfl) ?_
        refine xr_get_R (v := .ref (ad (k + 5))) hx hb hts hown hK hw hk 4 (by decide) (hts _ hw_747) rfl dd_R_mix_59 ?_
        refine lv_iload hx hb dd_R_mix_62 (lv_at hl 0 rfl) ?_
        refine lv_iload hx hb dd_R_mix_64 (lv_at hl 6 rfl) ?_
        refine lv_iconst (v := 2) hx hb dd_R_mix_66 rfl ?_
        refine lv_iadd hx hb dd_R_mix_67 ?_
        refine lv_iconst (v := 4) hx hb dd_R_mix_68 rfl ?_
        refine lv_irem hx hb dd_R_mix_69 (by decide) ?_
        refine lv_asI (v := xs_rem (i5 + 2) 4) rfl ?_
        refine lv_iadd hx hb dd_R_mix_70 ?_
        obtain ⟨v7, gv7, h⟩ := xs_ob h
        refine xr_iald hx hb hK hw (xs_ok_R_old hK.1 hk) gv7 dd_R_mix_71 ?_
        refine lv_iload_n hx hb dd_R_mix_72 rfl (lv_at hl 4 rfl) ?_
        obtain ⟨q8, gq8, h⟩ := xs_ob h
        refine xq_i hK hw (va_runS (As := [.int v7, .int n3]) (rest := [.int (q4 ^^^ q6), .int i5, .ref (ad (k + 4))]) ⟨hx, hb, hml, hown, hts⟩ (xc_R_times l D ad ca ks v7 n3 S q8 gq8 _) ⟨callB_of 2 hts (xs_good hw_735) rfl rfl rfl (hts _ hw_13) (hts _ hw_733) yd_R_times ⟨Nat.le_trans (by decide) hRf, Nat.le_trans (by decide) hRl⟩, (hts _ hw_734)⟩ ⟨xs_blind, fun U h1 h2 => ⟨rfl, xs_pre hK hw h1 h2⟩⟩ rfl rfl hl.1 rfl (lv_room (Nat.le_of_ble_eq_true rfl)) dd_R_mix_73 ⟨Nat.zero_le _, Nat.zero_le _⟩) (fun H locs hw => ?_)
        refine lv_ixor hx hb dd_R_mix_76 ?_
        refine lv_aload_n hx hb dd_R_mix_77 rfl (lv_at hl 1 rfl) ?_
        refine xr_get_R (v := .ref (ad (k + 5))) hx hb hts hown hK hw hk 4 (by decide) (hts _ hw_747) rfl dd_R_mix_78 ?_
        refine lv_iload hx hb dd_R_mix_81 (lv_at hl 0 rfl) ?_
        refine lv_iload hx hb dd_R_mix_83 (lv_at hl 6 rfl) ?_
        refine lv_iconst (v := 3) hx hb dd_R_mix_85 rfl ?_
        refine lv_iadd hx hb dd_R_mix_86 ?_
        refine lv_iconst (v := 4) hx hb dd_R_mix_87 rfl ?_
        refine lv_irem hx hb dd_R_mix_88 (by decide) ?_
        refine lv_asI (v := xs_rem (i5 + 3) 4) rfl ?_
        refine lv_iadd hx hb dd_R_mix_89 ?_
        obtain ⟨v9, gv9, h⟩ := xs_ob h
        refine xr_iald hx hb hK hw (xs_ok_R_old hK.1 hk) gv9 dd_R_mix_90 ?_
        refine lv_iload hx hb dd_R_mix_91 (lv_at hl 5 rfl) ?_
        obtain ⟨q10, gq10, h⟩ := xs_ob h
        refine xq_i hK hw (va_runS (As := [.int v9, .int n4]) (rest := [.int ((q4 ^^^ q6) ^^^ q8), .int i5, .ref (ad (k + 4))]) ⟨hx, hb, hml, hown, hts⟩ (xc_R_times l D ad ca ks v9 n4 S q10 gq10 _) ⟨callB_of 2 hts (xs_good hw_735) rfl rfl rfl (hts _ hw_13) (hts _ hw_733) yd_R_times ⟨Nat.le_trans (by decide) hRf, Nat.le_trans (by decide) hRl⟩, (hts _ hw_734)⟩ ⟨xs_blind, fun U h1 h2 => ⟨rfl, xs_pre hK hw h1 h2⟩⟩ rfl rfl hl.1 rfl (lv_room (Nat.le_of_ble_eq_true rfl)) dd_R_mix_93 ⟨Nat.zero_le _, Nat.zero_le _⟩) (fun H locs hw => ?_)
        refine lv_ixor hx hb dd_R_mix_96 ?_
        obtain ⟨S11, gS11, h⟩ := xs_ob h
        refine xr_iast hx hb hK hw (xs_ok_R_block hK.1 hk) gS11 dd_R_mix_97 (fun H locs hw => ?_)
        refine lv_iinc (k := 6) (v := i5 + 1) hx hb dd_R_mix_98 hl rfl rfl (by decide) rfl (fun ls hl => ?_)
        have hl : lv_has ls 7 [(5, .int (i5 + 1)), (6, .int ((i5 / 4) * 4)), (0, .ref (ad k)), (1, .int n1), (2, .int n2), (3, .int n3), (4, .int n4)] := hl
        refine lv_goto hx hb dd_R_mix_101 rfl ?_
        exact ih (i5 + 1) S11 _ _ _ hw (lv_sub hl [2, 3, 4, 5, 6, 0] rfl) h
  unfold xf_R_mix at h
  refine lv_aload_n hx hb dd_R_mix_0 rfl (lv_at hl 0 rfl) ?_
  obtain ⟨q1, gq1, h⟩ := xs_ob h
  refine xq_v hK hw (va_runV (As := []) (rest := []) ⟨hx, hb, hml, hown, hts⟩ (xc_R_copyBlock l D ad ca ks k S q1 hk gq1 _) ⟨callB_of 0 hts (xs_good hw_908) rfl rfl rfl (hts _ hw_13) (hts _ hw_905) yd_R_copyBlock ⟨Nat.le_trans (by decide) hRf, Nat.le_trans (by decide) hRl⟩, (hts _ hw_907), (hts _ hs_20)⟩ ⟨xs_blind, xs_recv_R hK hw hk, fun U h1 h2 => ⟨rfl, xs_pre hK hw h1 h2⟩⟩ rfl rfl hl.1 rfl (lv_room (Nat.le_of_ble_eq_true rfl)) dd_R_mix_1 ⟨Nat.zero_le _, Nat.zero_le _⟩) (fun H locs hw => ?_)
  refine lv_iconst (v := 0) hx hb dd_R_mix_4 rfl ?_
  refine lv_istore hx hb dd_R_mix_5 hl (by decide) rfl (fun ls hl => ?_)
  have hl : lv_has ls 7 [(5, .int 0), (0, .ref (ad k)), (1, .int n1), (2, .int n2), (3, .int n3), (4, .int n4)] := hl
  exact w_7 xs_fuel 0 q1 _ _ _ hw (lv_sub hl [1, 2, 3, 4, 5, 0] rfl) h
set_option maxHeartbeats 4000000 in
set_option maxRecDepth 100000 in
theorem xc_R_cipher (l : Launch) (D : va_G) (ad : Nat → Nat) (ca : Nat → ClassId) (ks : List Nat) (k : Nat) (n1 : Int32) (S : xs_T) (T : xs_T) (hk : xs_is ks k xs_cR) (h : xf_R_cipher k n1 S = some T) (sz : Nat) : Met l yy_R_cipher ws_R_cipher { frames := 3, cells := 0, slots := 0, locals := 70 } (va_Pc [.ref (ad k), .int n1] (xs_Pre D ad ca ks S sz)) (va_Qv (fun _ : Unit => True) (fun _ t => va_P D xs_cl (xs_w ad ca ks T) t.heap) (xs_A ad ks sz)) 0 0 (xs_A ad ks sz) := by
  refine xm_v (by decide) (Nat.le_of_ble_eq_true rfl) ?_
  intro p e s m args below meth c R A Q ls hx hb hml hown hts hRf hRl hK hw hl hret
  have hl : lv_has ls 4 [(0, .ref (ad k)), (1, .int n1)] := hl
  have w_76 : ∀ (c12 : Int32 → xs_T → Option (xs_T)) (y12 : ∀ (i2 : Int32) (S : xs_T) (H : Heap) (locs : List Loc) (ls : Array Slot), xs_I D ad ca ks A s S H locs → lv_has ls 4 [(0, .ref (ad k)), (2, .int i2)] → c12 i2 S = some T → W p l e R s m args below meth c H locs 0 0 Q (F0 m 12 ls [])), ∀ (i2 : Int32) (S : xs_T) (H : Heap) (locs : List Loc) (ls : Array Slot), xs_I D ad ca ks A s S H locs → lv_has ls 4 [(0, .ref (ad k)), (2, .int i2)] → xf_R_cipher_76 k n1 c12 i2 S = some T → W p l e R s m args below meth c H locs 0 0 Q (F0 m 76 ls []) := by
    intro c12 y12 i2 S H locs ls hw hl h
    unfold xf_R_cipher_76 at h
    refine lv_aload_n hx hb dd_R_cipher_76 rfl (lv_at hl 0 rfl) ?_
    refine lv_iload_n hx hb dd_R_cipher_77 rfl (lv_at hl 1 rfl) ?_
    obtain ⟨q7, gq7, h⟩ := xs_ob h
    refine xq_v hK hw (va_runV (As := [.int i2]) (rest := []) ⟨hx, hb, hml, hown, hts⟩ (xc_R_addKey l D ad ca ks k i2 S q7 hk gq7 _) ⟨callB_of 1 hts (xs_good hw_904) rfl rfl rfl (hts _ hw_13) (hts _ hw_901) yd_R_addKey ⟨Nat.le_trans (by decide) hRf, Nat.le_trans (by decide) hRl⟩, (hts _ hw_903), (hts _ hs_19)⟩ ⟨xs_blind, xs_recv_R hK hw hk, fun U h1 h2 => ⟨rfl, xs_pre hK hw h1 h2⟩⟩ rfl rfl hl.1 rfl (lv_room (Nat.le_of_ble_eq_true rfl)) dd_R_cipher_78 ⟨Nat.zero_le _, Nat.zero_le _⟩) (fun H locs hw => ?_)
    refine lv_iinc (k := 1) (v := i2 + 1) hx hb dd_R_cipher_81 hl rfl rfl (by decide) rfl (fun ls hl => ?_)
    have hl : lv_has ls 4 [(2, .int (i2 + 1)), (0, .ref (ad k))] := hl
    refine lv_goto hx hb dd_R_cipher_84 rfl ?_
    exact y12 (i2 + 1) q7 _ _ _ hw (lv_sub hl [1, 0] rfl) h
  have w_24 : ∀ (c12 : Int32 → xs_T → Option (xs_T)) (y12 : ∀ (i2 : Int32) (S : xs_T) (H : Heap) (locs : List Loc) (ls : Array Slot), xs_I D ad ca ks A s S H locs → lv_has ls 4 [(0, .ref (ad k)), (2, .int i2)] → c12 i2 S = some T → W p l e R s m args below meth c H locs 0 0 Q (F0 m 12 ls [])), ∀ (f : Nat), ∀ (i2 : Int32) (i3 : Int32) (S : xs_T) (H : Heap) (locs : List Loc) (ls : Array Slot), xs_I D ad ca ks A s S H locs → lv_has ls 4 [(0, .ref (ad k)), (2, .int i2), (3, .int i3)] → xf_R_cipher_24 k n1 c12 f i2 i3 S = some T → W p l e R s m args below meth c H locs 0 0 Q (F0 m 24 ls []) := by
    intro c12 y12 f
    induction f with
    | zero => intro i2 i3 S H locs ls hw hl h; exact absurd h (by simp [xf_R_cipher_24])
    | succ f ih =>
      intro i2 i3 S H locs ls hw hl h
      rw [xf_R_cipher_24] at h
      refine lv_iload_n hx hb dd_R_cipher_24 rfl (lv_at hl 2 rfl) ?_
      refine lv_bipush (v := 16) hx hb dd_R_cipher_25 rfl ?_
      refine lv_icmp_ge hx hb dd_R_cipher_27 rfl (fun b5 => ?_) (fun b5 => ?_)
      · replace h := xs_p b5 h
        refine lv_iload_n hx hb dd_R_cipher_62 rfl (lv_at hl 1 rfl) ?_
        refine lv_bipush (v := 10) hx hb dd_R_cipher_63 rfl ?_
        refine lv_icmp_ge hx hb dd_R_cipher_65 rfl (fun b6 => ?_) (fun b6 => ?_)
        · replace h := xs_p b6 h
          exact w_76 c12 y12 i2 S _ _ _ hw (lv_sub hl [0, 1] rfl) h
        · replace h := xs_n b6 h
          refine lv_aload_n hx hb dd_R_cipher_68 rfl (lv_at hl 0 rfl) ?_
          refine lv_iconst (v := 2) hx hb dd_R_cipher_69 rfl ?_
          refine lv_iconst (v := 3) hx hb dd_R_cipher_70 rfl ?_
          refine lv_iconst (v := 1) hx hb dd_R_cipher_71 rfl ?_
          refine lv_iconst (v := 1) hx hb dd_R_cipher_72 rfl ?_
          obtain ⟨q8, gq8, h⟩ := xs_ob h
          refine xq_v hK hw (va_runV (As := [.int 2, .int 3, .int 1, .int 1]) (rest := []) ⟨hx, hb, hml, hown, hts⟩ (xc_R_mix l D ad ca ks k 2 3 1 1 S q8 hk gq8 _) ⟨callB_of 4 hts (xs_good hw_912) rfl rfl rfl (hts _ hw_13) (hts _ hw_909) yd_R_mix ⟨Nat.le_trans (by decide) hRf, Nat.le_trans (by decide) hRl⟩, (hts _ hw_911), (hts _ hs_21)⟩ ⟨xs_blind, xs_recv_R hK hw hk, fun U h1 h2 => ⟨rfl, xs_pre hK hw h1 h2⟩⟩ rfl rfl hl.1 rfl (lv_room (Nat.le_of_ble_eq_true rfl)) dd_R_cipher_73 ⟨Nat.zero_le _, Nat.zero_le _⟩) (fun H locs hw => ?_)
          exact w_76 c12 y12 i2 q8 _ _ _ hw (lv_sub hl [0, 1] rfl) h
      · replace h := xs_n b5 h
        refine lv_aload_n hx hb dd_R_cipher_30 rfl (lv_at hl 0 rfl) ?_
        refine xr_get_R (v := .ref (ad (k + 4))) hx hb hts hown hK hw hk 3 (by decide) (hts _ hw_746) rfl dd_R_cipher_31 ?_
        refine lv_iload_n hx hb dd_R_cipher_34 rfl (lv_at hl 2 rfl) ?_
        refine lv_aload_n hx hb dd_R_cipher_35 rfl (lv_at hl 0 rfl) ?_
        refine xr_get_R (v := .ref (ad (k + 1))) hx hb hts hown hK hw hk 0 (by decide) (hts _ hw_743) rfl dd_R_cipher_36 ?_
        refine lv_aload_n hx hb dd_R_cipher_39 rfl (lv_at hl 0 rfl) ?_
        refine xr_get_R (v := .ref (ad (k + 5))) hx hb hts hown hK hw hk 4 (by decide) (hts _ hw_747) rfl dd_R_cipher_40 ?_
        refine lv_iload_n hx hb dd_R_cipher_43 rfl (lv_at hl 2 rfl) ?_
        refine lv_iconst (v := 4) hx hb dd_R_cipher_44 rfl ?_
        refine lv_iload_n hx hb dd_R_cipher_45 rfl (lv_at hl 2 rfl) ?_
        refine lv_iconst (v := 4) hx hb dd_R_cipher_46 rfl ?_
        refine lv_irem hx hb dd_R_cipher_47 (by decide) ?_
        refine lv_asI (v := xs_rem i3 4) rfl ?_
        refine lv_imul hx hb dd_R_cipher_48 ?_
        refine lv_iadd hx hb dd_R_cipher_49 ?_
        refine lv_bipush (v := 16) hx hb dd_R_cipher_50 rfl ?_
        refine lv_irem hx hb dd_R_cipher_52 (by decide) ?_
        refine lv_asI (v := xs_rem (i3 + (4 * (xs_rem i3 4))) 16) rfl ?_
        obtain ⟨v9, gv9, h⟩ := xs_ob h
        refine xr_iald hx hb hK hw (xs_ok_R_old hK.1 hk) gv9 dd_R_cipher_53 ?_
        obtain ⟨v10, gv10, h⟩ := xs_ob h
        refine xr_iald hx hb hK hw (xs_ok_R_box hK.1 hk) gv10 dd_R_cipher_54 ?_
        obtain ⟨S11, gS11, h⟩ := xs_ob h
        refine xr_iast hx hb hK hw (xs_ok_R_block hK.1 hk) gS11 dd_R_cipher_55 (fun H locs hw => ?_)
        refine lv_iinc (k := 2) (v := i3 + 1) hx hb dd_R_cipher_56 hl rfl rfl (by decide) rfl (fun ls hl => ?_)
        have hl : lv_has ls 4 [(3, .int (i3 + 1)), (0, .ref (ad k)), (2, .int i2)] := hl
        refine lv_goto hx hb dd_R_cipher_59 rfl ?_
        exact ih i2 (i3 + 1) S11 _ _ _ hw (lv_sub hl [1, 2, 0] rfl) h
  have w_12 : ∀ (f : Nat), ∀ (i2 : Int32) (S : xs_T) (H : Heap) (locs : List Loc) (ls : Array Slot), xs_I D ad ca ks A s S H locs → lv_has ls 4 [(0, .ref (ad k)), (2, .int i2)] → xf_R_cipher_12 k n1 f i2 S = some T → W p l e R s m args below meth c H locs 0 0 Q (F0 m 12 ls []) := by
    intro f
    induction f with
    | zero => intro i2 S H locs ls hw hl h; exact absurd h (by simp [xf_R_cipher_12])
    | succ f ih =>
      intro i2 S H locs ls hw hl h
      rw [xf_R_cipher_12] at h
      refine lv_iload_n hx hb dd_R_cipher_12 rfl (lv_at hl 1 rfl) ?_
      refine lv_bipush (v := 10) hx hb dd_R_cipher_13 rfl ?_
      refine lv_icmp_gt hx hb dd_R_cipher_15 rfl (fun b3 => ?_) (fun b3 => ?_)
      · replace h := xs_p b3 h
        exact hret h hw dd_R_cipher_87
      · replace h := xs_n b3 h
        refine lv_aload_n hx hb dd_R_cipher_18 rfl (lv_at hl 0 rfl) ?_
        obtain ⟨q4, gq4, h⟩ := xs_ob h
        refine xq_v hK hw (va_runV (As := []) (rest := []) ⟨hx, hb, hml, hown, hts⟩ (xc_R_copyBlock l D ad ca ks k S q4 hk gq4 _) ⟨callB_of 0 hts (xs_good hw_908) rfl rfl rfl (hts _ hw_13) (hts _ hw_905) yd_R_copyBlock ⟨Nat.le_trans (by decide) hRf, Nat.le_trans (by decide) hRl⟩, (hts _ hw_907), (hts _ hs_20)⟩ ⟨xs_blind, xs_recv_R hK hw hk, fun U h1 h2 => ⟨rfl, xs_pre hK hw h1 h2⟩⟩ rfl rfl hl.1 rfl (lv_room (Nat.le_of_ble_eq_true rfl)) dd_R_cipher_19 ⟨Nat.zero_le _, Nat.zero_le _⟩) (fun H locs hw => ?_)
        refine lv_iconst (v := 0) hx hb dd_R_cipher_22 rfl ?_
        refine lv_istore_n hx hb dd_R_cipher_23 rfl hl (by decide) rfl (fun ls hl => ?_)
        have hl : lv_has ls 4 [(3, .int 0), (0, .ref (ad k)), (2, .int i2)] := hl
        exact w_24 (xf_R_cipher_12 k n1 f) ih xs_fuel i2 0 q4 _ _ _ hw (lv_sub hl [1, 2, 0] rfl) h
  unfold xf_R_cipher at h
  refine lv_aload_n hx hb dd_R_cipher_0 rfl (lv_at hl 0 rfl) ?_
  refine lv_iload_n hx hb dd_R_cipher_1 rfl (lv_at hl 1 rfl) ?_
  obtain ⟨q1, gq1, h⟩ := xs_ob h
  refine xq_v hK hw (va_runV (As := [.int n1]) (rest := []) ⟨hx, hb, hml, hown, hts⟩ (xc_R_schedule l D ad ca ks k n1 S q1 hk gq1 _) ⟨callB_of 1 hts (xs_good hw_900) rfl rfl rfl (hts _ hw_13) (hts _ hw_897) yd_R_schedule ⟨Nat.le_trans (by decide) hRf, Nat.le_trans (by decide) hRl⟩, (hts _ hw_899), (hts _ hs_18)⟩ ⟨xs_blind, xs_recv_R hK hw hk, fun U h1 h2 => ⟨rfl, xs_pre hK hw h1 h2⟩⟩ rfl rfl hl.1 rfl (lv_room (Nat.le_of_ble_eq_true rfl)) dd_R_cipher_2 ⟨Nat.zero_le _, Nat.zero_le _⟩) (fun H locs hw => ?_)
  refine lv_aload_n hx hb dd_R_cipher_5 rfl (lv_at hl 0 rfl) ?_
  refine lv_iconst (v := 0) hx hb dd_R_cipher_6 rfl ?_
  obtain ⟨q2, gq2, h⟩ := xs_ob h
  refine xq_v hK hw (va_runV (As := [.int 0]) (rest := []) ⟨hx, hb, hml, hown, hts⟩ (xc_R_addKey l D ad ca ks k 0 q1 q2 hk gq2 _) ⟨callB_of 1 hts (xs_good hw_904) rfl rfl rfl (hts _ hw_13) (hts _ hw_901) yd_R_addKey ⟨Nat.le_trans (by decide) hRf, Nat.le_trans (by decide) hRl⟩, (hts _ hw_903), (hts _ hs_19)⟩ ⟨xs_blind, xs_recv_R hK hw hk, fun U h1 h2 => ⟨rfl, xs_pre hK hw h1 h2⟩⟩ rfl rfl hl.1 rfl (lv_room (Nat.le_of_ble_eq_true rfl)) dd_R_cipher_7 ⟨Nat.zero_le _, Nat.zero_le _⟩) (fun H locs hw => ?_)
  refine lv_iconst (v := 1) hx hb dd_R_cipher_10 rfl ?_
  refine lv_istore_n hx hb dd_R_cipher_11 rfl hl (by decide) rfl (fun ls hl => ?_)
  have hl : lv_has ls 4 [(2, .int 1), (0, .ref (ad k)), (1, .int n1)] := hl
  exact w_12 xs_fuel 1 q2 _ _ _ hw (lv_sub hl [1, 0] rfl) h
set_option maxHeartbeats 4000000 in
set_option maxRecDepth 100000 in
theorem xc_R_decipher (l : Launch) (D : va_G) (ad : Nat → Nat) (ca : Nat → ClassId) (ks : List Nat) (k : Nat) (n1 : Int32) (S : xs_T) (T : xs_T) (hk : xs_is ks k xs_cR) (h : xf_R_decipher k n1 S = some T) (sz : Nat) : Met l yy_R_decipher ws_R_decipher { frames := 3, cells := 0, slots := 0, locals := 70 } (va_Pc [.ref (ad k), .int n1] (xs_Pre D ad ca ks S sz)) (va_Qv (fun _ : Unit => True) (fun _ t => va_P D xs_cl (xs_w ad ca ks T) t.heap) (xs_A ad ks sz)) 0 0 (xs_A ad ks sz) := by
  refine xm_v (by decide) (Nat.le_of_ble_eq_true rfl) ?_
  intro p e s m args below meth c R A Q ls hx hb hml hown hts hRf hRl hK hw hl hret
  have hl : lv_has ls 4 [(0, .ref (ad k)), (1, .int n1)] := hl
  have w_42 : ∀ (c8 : Int32 → xs_T → Option (xs_T)) (y8 : ∀ (i2 : Int32) (S : xs_T) (H : Heap) (locs : List Loc) (ls : Array Slot), xs_I D ad ca ks A s S H locs → lv_has ls 4 [(0, .ref (ad k)), (2, .int i2)] → c8 i2 S = some T → W p l e R s m args below meth c H locs 0 0 Q (F0 m 8 ls [])), ∀ (f : Nat), ∀ (i2 : Int32) (i3 : Int32) (S : xs_T) (H : Heap) (locs : List Loc) (ls : Array Slot), xs_I D ad ca ks A s S H locs → lv_has ls 4 [(0, .ref (ad k)), (2, .int i2), (3, .int i3)] → xf_R_decipher_42 k n1 c8 f i2 i3 S = some T → W p l e R s m args below meth c H locs 0 0 Q (F0 m 42 ls []) := by
    intro c8 y8 f
    induction f with
    | zero => intro i2 i3 S H locs ls hw hl h; exact absurd h (by simp [xf_R_decipher_42])
    | succ f ih =>
      intro i2 i3 S H locs ls hw hl h
      rw [xf_R_decipher_42] at h
      refine lv_iload_n hx hb dd_R_decipher_42 rfl (lv_at hl 2 rfl) ?_
      refine lv_bipush (v := 16) hx hb dd_R_decipher_43 rfl ?_
      refine lv_icmp_ge hx hb dd_R_decipher_45 rfl (fun b7 => ?_) (fun b7 => ?_)
      · replace h := xs_p b7 h
        refine lv_iinc (k := 1) (v := i2 + (-1)) hx hb dd_R_decipher_83 hl rfl rfl (by decide) rfl (fun ls hl => ?_)
        have hl : lv_has ls 4 [(2, .int (i2 + (-1))), (0, .ref (ad k)), (3, .int i3)] := hl
        refine lv_goto hx hb dd_R_decipher_86 rfl ?_
        exact y8 (i2 + (-1)) S _ _ _ hw (lv_sub hl [1, 0] rfl) h
      · replace h := xs_n b7 h
        refine lv_aload_n hx hb dd_R_decipher_48 rfl (lv_at hl 0 rfl) ?_
        refine xr_get_R (v := .ref (ad (k + 4))) hx hb hts hown hK hw hk 3 (by decide) (hts _ hw_746) rfl dd_R_decipher_49 ?_
        refine lv_iload_n hx hb dd_R_decipher_52 rfl (lv_at hl 2 rfl) ?_
        refine lv_aload_n hx hb dd_R_decipher_53 rfl (lv_at hl 0 rfl) ?_
        refine xr_get_R (v := .ref (ad (k + 2))) hx hb hts hown hK hw hk 1 (by decide) (hts _ hw_744) rfl dd_R_decipher_54 ?_
        refine lv_aload_n hx hb dd_R_decipher_57 rfl (lv_at hl 0 rfl) ?_
        refine xr_get_R (v := .ref (ad (k + 5))) hx hb hts hown hK hw hk 4 (by decide) (hts _ hw_747) rfl dd_R_decipher_58 ?_
        refine lv_iload_n hx hb dd_R_decipher_61 rfl (lv_at hl 2 rfl) ?_
        refine lv_bipush (v := 16) hx hb dd_R_decipher_62 rfl ?_
        refine lv_iadd hx hb dd_R_decipher_64 ?_
        refine lv_iconst (v := 4) hx hb dd_R_decipher_65 rfl ?_
        refine lv_iload_n hx hb dd_R_decipher_66 rfl (lv_at hl 2 rfl) ?_
        refine lv_iconst (v := 4) hx hb dd_R_decipher_67 rfl ?_
        refine lv_irem hx hb dd_R_decipher_68 (by decide) ?_
        refine lv_asI (v := xs_rem i3 4) rfl ?_
        refine lv_imul hx hb dd_R_decipher_69 ?_
        refine lv_isub hx hb dd_R_decipher_70 ?_
        refine lv_bipush (v := 16) hx hb dd_R_decipher_71 rfl ?_
        refine lv_irem hx hb dd_R_decipher_73 (by decide) ?_
        refine lv_asI (v := xs_rem ((i3 + 16) - (4 * (xs_rem i3 4))) 16) rfl ?_
        obtain ⟨v8, gv8, h⟩ := xs_ob h
        refine xr_iald hx hb hK hw (xs_ok_R_old hK.1 hk) gv8 dd_R_decipher_74 ?_
        obtain ⟨v9, gv9, h⟩ := xs_ob h
        refine xr_iald hx hb hK hw (xs_ok_R_unbox hK.1 hk) gv9 dd_R_decipher_75 ?_
        obtain ⟨S10, gS10, h⟩ := xs_ob h
        refine xr_iast hx hb hK hw (xs_ok_R_block hK.1 hk) gS10 dd_R_decipher_76 (fun H locs hw => ?_)
        refine lv_iinc (k := 2) (v := i3 + 1) hx hb dd_R_decipher_77 hl rfl rfl (by decide) rfl (fun ls hl => ?_)
        have hl : lv_has ls 4 [(3, .int (i3 + 1)), (0, .ref (ad k)), (2, .int i2)] := hl
        refine lv_goto hx hb dd_R_decipher_80 rfl ?_
        exact ih i2 (i3 + 1) S10 _ _ _ hw (lv_sub hl [1, 2, 0] rfl) h
  have w_36 : ∀ (c8 : Int32 → xs_T → Option (xs_T)) (y8 : ∀ (i2 : Int32) (S : xs_T) (H : Heap) (locs : List Loc) (ls : Array Slot), xs_I D ad ca ks A s S H locs → lv_has ls 4 [(0, .ref (ad k)), (2, .int i2)] → c8 i2 S = some T → W p l e R s m args below meth c H locs 0 0 Q (F0 m 8 ls [])), ∀ (i2 : Int32) (S : xs_T) (H : Heap) (locs : List Loc) (ls : Array Slot), xs_I D ad ca ks A s S H locs → lv_has ls 4 [(0, .ref (ad k)), (2, .int i2)] → xf_R_decipher_36 k n1 c8 i2 S = some T → W p l e R s m args below meth c H locs 0 0 Q (F0 m 36 ls []) := by
    intro c8 y8 i2 S H locs ls hw hl h
    unfold xf_R_decipher_36 at h
    refine lv_aload_n hx hb dd_R_decipher_36 rfl (lv_at hl 0 rfl) ?_
    obtain ⟨q6, gq6, h⟩ := xs_ob h
    refine xq_v hK hw (va_runV (As := []) (rest := []) ⟨hx, hb, hml, hown, hts⟩ (xc_R_copyBlock l D ad ca ks k S q6 hk gq6 _) ⟨callB_of 0 hts (xs_good hw_908) rfl rfl rfl (hts _ hw_13) (hts _ hw_905) yd_R_copyBlock ⟨Nat.le_trans (by decide) hRf, Nat.le_trans (by decide) hRl⟩, (hts _ hw_907), (hts _ hs_20)⟩ ⟨xs_blind, xs_recv_R hK hw hk, fun U h1 h2 => ⟨rfl, xs_pre hK hw h1 h2⟩⟩ rfl rfl hl.1 rfl (lv_room (Nat.le_of_ble_eq_true rfl)) dd_R_decipher_37 ⟨Nat.zero_le _, Nat.zero_le _⟩) (fun H locs hw => ?_)
    refine lv_iconst (v := 0) hx hb dd_R_decipher_40 rfl ?_
    refine lv_istore_n hx hb dd_R_decipher_41 rfl hl (by decide) rfl (fun ls hl => ?_)
    have hl : lv_has ls 4 [(3, .int 0), (0, .ref (ad k)), (2, .int i2)] := hl
    exact w_42 c8 y8 xs_fuel i2 0 q6 _ _ _ hw (lv_sub hl [1, 2, 0] rfl) h
  have w_8 : ∀ (f : Nat), ∀ (i2 : Int32) (S : xs_T) (H : Heap) (locs : List Loc) (ls : Array Slot), xs_I D ad ca ks A s S H locs → lv_has ls 4 [(0, .ref (ad k)), (2, .int i2)] → xf_R_decipher_8 k n1 f i2 S = some T → W p l e R s m args below meth c H locs 0 0 Q (F0 m 8 ls []) := by
    intro f
    induction f with
    | zero => intro i2 S H locs ls hw hl h; exact absurd h (by simp [xf_R_decipher_8])
    | succ f ih =>
      intro i2 S H locs ls hw hl h
      rw [xf_R_decipher_8] at h
      refine lv_iload_n hx hb dd_R_decipher_8 rfl (lv_at hl 1 rfl) ?_
      refine lv_iconst (v := 1) hx hb dd_R_decipher_9 rfl ?_
      refine lv_icmp_lt hx hb dd_R_decipher_10 rfl (fun b2 => ?_) (fun b2 => ?_)
      · replace h := xs_p b2 h
        refine lv_aload_n hx hb dd_R_decipher_89 rfl (lv_at hl 0 rfl) ?_
        refine lv_iconst (v := 0) hx hb dd_R_decipher_90 rfl ?_
        obtain ⟨q3, gq3, h⟩ := xs_ob h
        refine xq_v hK hw (va_runV (As := [.int 0]) (rest := []) ⟨hx, hb, hml, hown, hts⟩ (xc_R_addKey l D ad ca ks k 0 S q3 hk gq3 _) ⟨callB_of 1 hts (xs_good hw_904) rfl rfl rfl (hts _ hw_13) (hts _ hw_901) yd_R_addKey ⟨Nat.le_trans (by decide) hRf, Nat.le_trans (by decide) hRl⟩, (hts _ hw_903), (hts _ hs_19)⟩ ⟨xs_blind, xs_recv_R hK hw hk, fun U h1 h2 => ⟨rfl, xs_pre hK hw h1 h2⟩⟩ rfl rfl hl.1 rfl (lv_room (Nat.le_of_ble_eq_true rfl)) dd_R_decipher_91 ⟨Nat.zero_le _, Nat.zero_le _⟩) (fun H locs hw => ?_)
        exact hret h hw dd_R_decipher_94
      · replace h := xs_n b2 h
        refine lv_aload_n hx hb dd_R_decipher_13 rfl (lv_at hl 0 rfl) ?_
        refine lv_iload_n hx hb dd_R_decipher_14 rfl (lv_at hl 1 rfl) ?_
        obtain ⟨q4, gq4, h⟩ := xs_ob h
        refine xq_v hK hw (va_runV (As := [.int i2]) (rest := []) ⟨hx, hb, hml, hown, hts⟩ (xc_R_addKey l D ad ca ks k i2 S q4 hk gq4 _) ⟨callB_of 1 hts (xs_good hw_904) rfl rfl rfl (hts _ hw_13) (hts _ hw_901) yd_R_addKey ⟨Nat.le_trans (by decide) hRf, Nat.le_trans (by decide) hRl⟩, (hts _ hw_903), (hts _ hs_19)⟩ ⟨xs_blind, xs_recv_R hK hw hk, fun U h1 h2 => ⟨rfl, xs_pre hK hw h1 h2⟩⟩ rfl rfl hl.1 rfl (lv_room (Nat.le_of_ble_eq_true rfl)) dd_R_decipher_15 ⟨Nat.zero_le _, Nat.zero_le _⟩) (fun H locs hw => ?_)
        refine lv_iload_n hx hb dd_R_decipher_18 rfl (lv_at hl 1 rfl) ?_
        refine lv_bipush (v := 10) hx hb dd_R_decipher_19 rfl ?_
        refine lv_icmp_ge hx hb dd_R_decipher_21 rfl (fun b5 => ?_) (fun b5 => ?_)
        · replace h := xs_p b5 h
          exact w_36 (xf_R_decipher_8 k n1 f) ih i2 q4 _ _ _ hw (lv_sub hl [0, 1] rfl) h
        · replace h := xs_n b5 h
          refine lv_aload_n hx hb dd_R_decipher_24 rfl (lv_at hl 0 rfl) ?_
          refine lv_bipush (v := 14) hx hb dd_R_decipher_25 rfl ?_
          refine lv_bipush (v := 11) hx hb dd_R_decipher_27 rfl ?_
          refine lv_bipush (v := 13) hx hb dd_R_decipher_29 rfl ?_
          refine lv_bipush (v := 9) hx hb dd_R_decipher_31 rfl ?_
          obtain ⟨q11, gq11, h⟩ := xs_ob h
          refine xq_v hK hw (va_runV (As := [.int 14, .int 11, .int 13, .int 9]) (rest := []) ⟨hx, hb, hml, hown, hts⟩ (xc_R_mix l D ad ca ks k 14 11 13 9 q4 q11 hk gq11 _) ⟨callB_of 4 hts (xs_good hw_912) rfl rfl rfl (hts _ hw_13) (hts _ hw_909) yd_R_mix ⟨Nat.le_trans (by decide) hRf, Nat.le_trans (by decide) hRl⟩, (hts _ hw_911), (hts _ hs_21)⟩ ⟨xs_blind, xs_recv_R hK hw hk, fun U h1 h2 => ⟨rfl, xs_pre hK hw h1 h2⟩⟩ rfl rfl hl.1 rfl (lv_room (Nat.le_of_ble_eq_true rfl)) dd_R_decipher_33 ⟨Nat.zero_le _, Nat.zero_le _⟩) (fun H locs hw => ?_)
          exact w_36 (xf_R_decipher_8 k n1 f) ih i2 q11 _ _ _ hw (lv_sub hl [0, 1] rfl) h
  unfold xf_R_decipher at h
  refine lv_aload_n hx hb dd_R_decipher_0 rfl (lv_at hl 0 rfl) ?_
  refine lv_iload_n hx hb dd_R_decipher_1 rfl (lv_at hl 1 rfl) ?_
  obtain ⟨q1, gq1, h⟩ := xs_ob h
  refine xq_v hK hw (va_runV (As := [.int n1]) (rest := []) ⟨hx, hb, hml, hown, hts⟩ (xc_R_schedule l D ad ca ks k n1 S q1 hk gq1 _) ⟨callB_of 1 hts (xs_good hw_900) rfl rfl rfl (hts _ hw_13) (hts _ hw_897) yd_R_schedule ⟨Nat.le_trans (by decide) hRf, Nat.le_trans (by decide) hRl⟩, (hts _ hw_899), (hts _ hs_18)⟩ ⟨xs_blind, xs_recv_R hK hw hk, fun U h1 h2 => ⟨rfl, xs_pre hK hw h1 h2⟩⟩ rfl rfl hl.1 rfl (lv_room (Nat.le_of_ble_eq_true rfl)) dd_R_decipher_2 ⟨Nat.zero_le _, Nat.zero_le _⟩) (fun H locs hw => ?_)
  refine lv_bipush (v := 10) hx hb dd_R_decipher_5 rfl ?_
  refine lv_istore_n hx hb dd_R_decipher_7 rfl hl (by decide) rfl (fun ls hl => ?_)
  have hl : lv_has ls 4 [(2, .int 10), (0, .ref (ad k)), (1, .int n1)] := hl
  exact w_8 xs_fuel 10 q1 _ _ _ hw (lv_sub hl [1, 0] rfl) h
set_option maxHeartbeats 4000000 in
set_option maxRecDepth 100000 in
theorem xc_R_doubled (l : Launch) (D : va_G) (ad : Nat → Nat) (ca : Nat → ClassId) (ks : List Nat) (k : Nat) (S : xs_T) (T : xs_T) (hk : xs_is ks k xs_cR) (h : xf_R_doubled k S = some T) (sz : Nat) : Met l yy_R_doubled ws_R_doubled { frames := 0, cells := 0, slots := 0, locals := 0 } (va_Pc [.ref (ad k)] (xs_Pre D ad ca ks S sz)) (va_Qv (fun _ : Unit => True) (fun _ t => va_P D xs_cl (xs_w ad ca ks T) t.heap) (xs_A ad ks sz)) 0 0 (xs_A ad ks sz) := by
  refine xm_v (by decide) (Nat.le_of_ble_eq_true rfl) ?_
  intro p e s m args below meth c R A Q ls hx hb hml hown hts hRf hRl hK hw hl hret
  have hl : lv_has ls 3 [(0, .ref (ad k))] := hl
  have w_63 : ∀ (c19 : Int32 → Int32 → xs_T → Option (xs_T)) (y19 : ∀ (i1 : Int32) (i2 : Int32) (S : xs_T) (H : Heap) (locs : List Loc) (ls : Array Slot), xs_I D ad ca ks A s S H locs → lv_has ls 3 [(0, .ref (ad k)), (1, .int i1), (2, .int i2)] → c19 i1 i2 S = some T → W p l e R s m args below meth c H locs 0 0 Q (F0 m 19 ls [])), ∀ (i1 : Int32) (i2 : Int32) (t1 : Int32) (t2 : Int32) (t3 : Int32) (S : xs_T) (H : Heap) (locs : List Loc) (ls : Array Slot), xs_I D ad ca ks A s S H locs → lv_has ls 3 [(0, .ref (ad k)), (1, .int i1), (2, .int i2)] → xf_R_doubled_63 k c19 i1 i2 t1 t2 t3 S = some T → W p l e R s m args below meth c H locs 0 0 Q (F0 m 63 ls [.int t3, .int t2, .int t1, .ref (ad (k + 6))]) := by
    intro c19 y19 i1 i2 t1 t2 t3 S H locs ls hw hl h
    unfold xf_R_doubled_63 at h
    refine lv_ior hx hb dd_R_doubled_63 ?_
    obtain ⟨S11, gS11, h⟩ := xs_ob h
    refine xr_iast hx hb hK hw (xs_ok_R_code hK.1 hk) gS11 dd_R_doubled_64 (fun H locs hw => ?_)
    refine lv_iinc (k := 2) (v := i2 + 1) hx hb dd_R_doubled_65 hl rfl rfl (by decide) rfl (fun ls hl => ?_)
    have hl : lv_has ls 3 [(2, .int (i2 + 1)), (0, .ref (ad k)), (1, .int i1)] := hl
    refine lv_goto hx hb dd_R_doubled_68 rfl ?_
    exact y19 i1 (i2 + 1) S11 _ _ _ hw (lv_sub hl [1, 2, 0] rfl) h
  have w_19 : ∀ (f : Nat), ∀ (i1 : Int32) (i2 : Int32) (S : xs_T) (H : Heap) (locs : List Loc) (ls : Array Slot), xs_I D ad ca ks A s S H locs → lv_has ls 3 [(0, .ref (ad k)), (1, .int i1), (2, .int i2)] → xf_R_doubled_19 k f i1 i2 S = some T → W p l e R s m args below meth c H locs 0 0 Q (F0 m 19 ls []) := by
    intro f
    induction f with
    | zero => intro i1 i2 S H locs ls hw hl h; exact absurd h (by simp [xf_R_doubled_19])
    | succ f ih =>
      intro i1 i2 S H locs ls hw hl h
      rw [xf_R_doubled_19] at h
      refine lv_iload_n hx hb dd_R_doubled_19 rfl (lv_at hl 2 rfl) ?_
      refine lv_bipush (v := 16) hx hb dd_R_doubled_20 rfl ?_
      refine lv_icmp_ge hx hb dd_R_doubled_22 rfl (fun b3 => ?_) (fun b3 => ?_)
      · replace h := xs_p b3 h
        refine lv_aload_n hx hb dd_R_doubled_71 rfl (lv_at hl 0 rfl) ?_
        refine xr_get_R (v := .ref (ad (k + 6))) hx hb hts hown hK hw hk 5 (by decide) (hts _ hw_748) rfl dd_R_doubled_72 ?_
        refine lv_bipush (v := 15) hx hb dd_R_doubled_75 rfl ?_
        refine lv_iload_n hx hb dd_R_doubled_77 rfl (lv_at hl 1 rfl) ?_
        refine lv_if_eq hx hb dd_R_doubled_78 rfl (fun b4 => ?_) (fun b4 => ?_)
        · replace h := xs_p b4 h
          refine lv_aload_n hx hb dd_R_doubled_95 rfl (lv_at hl 0 rfl) ?_
          refine xr_get_R (v := .ref (ad (k + 6))) hx hb hts hown hK hw hk 5 (by decide) (hts _ hw_748) rfl dd_R_doubled_96 ?_
          refine lv_bipush (v := 15) hx hb dd_R_doubled_99 rfl ?_
          obtain ⟨v5, gv5, h⟩ := xs_ob h
          refine xr_iald hx hb hK hw (xs_ok_R_code hK.1 hk) gv5 dd_R_doubled_101 ?_
          obtain ⟨S6, gS6, h⟩ := xs_ob h
          refine xr_iast hx hb hK hw (xs_ok_R_code hK.1 hk) gS6 dd_R_doubled_102 (fun H locs hw => ?_)
          exact hret h hw dd_R_doubled_103
        · replace h := xs_n b4 h
          refine lv_aload_n hx hb dd_R_doubled_81 rfl (lv_at hl 0 rfl) ?_
          refine xr_get_R (v := .ref (ad (k + 6))) hx hb hts hown hK hw hk 5 (by decide) (hts _ hw_748) rfl dd_R_doubled_82 ?_
          refine lv_bipush (v := 15) hx hb dd_R_doubled_85 rfl ?_
          obtain ⟨v7, gv7, h⟩ := xs_ob h
          refine xr_iald hx hb hK hw (xs_ok_R_code hK.1 hk) gv7 dd_R_doubled_87 ?_
          refine lv_sipush (v := 135) hx hb dd_R_doubled_88 rfl ?_
          refine lv_ixor hx hb dd_R_doubled_91 ?_
          refine lv_goto hx hb dd_R_doubled_92 rfl ?_
          obtain ⟨S8, gS8, h⟩ := xs_ob h
          refine xr_iast hx hb hK hw (xs_ok_R_code hK.1 hk) gS8 dd_R_doubled_102 (fun H locs hw => ?_)
          exact hret h hw dd_R_doubled_103
      · replace h := xs_n b3 h
        refine lv_aload_n hx hb dd_R_doubled_25 rfl (lv_at hl 0 rfl) ?_
        refine xr_get_R (v := .ref (ad (k + 6))) hx hb hts hown hK hw hk 5 (by decide) (hts _ hw_748) rfl dd_R_doubled_26 ?_
        refine lv_iload_n hx hb dd_R_doubled_29 rfl (lv_at hl 2 rfl) ?_
        refine lv_iconst (v := 2) hx hb dd_R_doubled_30 rfl ?_
        refine lv_aload_n hx hb dd_R_doubled_31 rfl (lv_at hl 0 rfl) ?_
        refine xr_get_R (v := .ref (ad (k + 6))) hx hb hts hown hK hw hk 5 (by decide) (hts _ hw_748) rfl dd_R_doubled_32 ?_
        refine lv_iload_n hx hb dd_R_doubled_35 rfl (lv_at hl 2 rfl) ?_
        obtain ⟨v9, gv9, h⟩ := xs_ob h
        refine xr_iald hx hb hK hw (xs_ok_R_code hK.1 hk) gv9 dd_R_doubled_36 ?_
        refine lv_imul hx hb dd_R_doubled_37 ?_
        refine lv_sipush (v := 255) hx hb dd_R_doubled_38 rfl ?_
        refine lv_iand hx hb dd_R_doubled_41 ?_
        refine lv_iload_n hx hb dd_R_doubled_42 rfl (lv_at hl 2 rfl) ?_
        refine lv_bipush (v := 15) hx hb dd_R_doubled_43 rfl ?_
        refine lv_icmp_ge hx hb dd_R_doubled_45 rfl (fun b10 => ?_) (fun b10 => ?_)
        · replace h := xs_p b10 h
          refine lv_iconst (v := 0) hx hb dd_R_doubled_62 rfl ?_
          exact w_63 (xf_R_doubled_19 k f) ih i1 i2 i2 ((2 * v9) &&& 255) 0 S _ _ _ hw (lv_sub hl [0, 1, 2] rfl) h
        · replace h := xs_n b10 h
          refine lv_aload_n hx hb dd_R_doubled_48 rfl (lv_at hl 0 rfl) ?_
          refine xr_get_R (v := .ref (ad (k + 6))) hx hb hts hown hK hw hk 5 (by decide) (hts _ hw_748) rfl dd_R_doubled_49 ?_
          refine lv_iload_n hx hb dd_R_doubled_52 rfl (lv_at hl 2 rfl) ?_
          refine lv_iconst (v := 1) hx hb dd_R_doubled_53 rfl ?_
          refine lv_iadd hx hb dd_R_doubled_54 ?_
          obtain ⟨v12, gv12, h⟩ := xs_ob h
          refine xr_iald hx hb hK hw (xs_ok_R_code hK.1 hk) gv12 dd_R_doubled_55 ?_
          refine lv_bipush (v := 7) hx hb dd_R_doubled_56 rfl ?_
          refine lv_ishr hx hb dd_R_doubled_58 ?_
          refine lv_goto hx hb dd_R_doubled_59 rfl ?_
          exact w_63 (xf_R_doubled_19 k f) ih i1 i2 i2 ((2 * v9) &&& 255) (v12 >>> ((7 : Int32) &&& 31) : Int32) S _ _ _ hw (lv_sub hl [0, 1, 2] rfl) h
  have w_16 : ∀ (t0 : Int32) (S : xs_T) (H : Heap) (locs : List Loc) (ls : Array Slot), xs_I D ad ca ks A s S H locs → lv_has ls 3 [(0, .ref (ad k))] → xf_R_doubled_16 k t0 S = some T → W p l e R s m args below meth c H locs 0 0 Q (F0 m 16 ls [.int t0]) := by
    intro t0 S H locs ls hw hl h
    unfold xf_R_doubled_16 at h
    refine lv_istore_n hx hb dd_R_doubled_16 rfl hl (by decide) rfl (fun ls hl => ?_)
    have hl : lv_has ls 3 [(1, .int t0), (0, .ref (ad k))] := hl
    refine lv_iconst (v := 0) hx hb dd_R_doubled_17 rfl ?_
    refine lv_istore_n hx hb dd_R_doubled_18 rfl hl (by decide) rfl (fun ls hl => ?_)
    have hl : lv_has ls 3 [(2, .int 0), (1, .int t0), (0, .ref (ad k))] := hl
    exact w_19 xs_fuel t0 0 S _ _ _ hw (lv_sub hl [2, 1, 0] rfl) h
  unfold xf_R_doubled at h
  refine lv_aload_n hx hb dd_R_doubled_0 rfl (lv_at hl 0 rfl) ?_
  refine xr_get_R (v := .ref (ad (k + 6))) hx hb hts hown hK hw hk 5 (by decide) (hts _ hw_748) rfl dd_R_doubled_1 ?_
  refine lv_iconst (v := 0) hx hb dd_R_doubled_4 rfl ?_
  obtain ⟨v1, gv1, h⟩ := xs_ob h
  refine xr_iald hx hb hK hw (xs_ok_R_code hK.1 hk) gv1 dd_R_doubled_5 ?_
  refine lv_bipush (v := 127) hx hb dd_R_doubled_6 rfl ?_
  refine lv_icmp_le hx hb dd_R_doubled_8 rfl (fun b2 => ?_) (fun b2 => ?_)
  · replace h := xs_p b2 h
    refine lv_iconst (v := 0) hx hb dd_R_doubled_15 rfl ?_
    exact w_16 0 S _ _ _ hw (lv_sub hl [0] rfl) h
  · replace h := xs_n b2 h
    refine lv_iconst (v := 1) hx hb dd_R_doubled_11 rfl ?_
    refine lv_goto hx hb dd_R_doubled_12 rfl ?_
    exact w_16 1 S _ _ _ hw (lv_sub hl [0] rfl) h
set_option maxHeartbeats 4000000 in
set_option maxRecDepth 100000 in
theorem xc_R_mac (l : Launch) (D : va_G) (ad : Nat → Nat) (ca : Nat → ClassId) (ks : List Nat) (k : Nat) (n1 : Int32) (n2 : Int32) (S : xs_T) (T : xs_T) (hk : xs_is ks k xs_cR) (h : xf_R_mac k n1 n2 S = some T) (sz : Nat) : Met l yy_R_mac ws_R_mac { frames := 4, cells := 0, slots := 0, locals := 93 } (va_Pc [.ref (ad k), .int n1, .int n2] (xs_Pre D ad ca ks S sz)) (va_Qv (fun _ : Unit => True) (fun _ t => va_P D xs_cl (xs_w ad ca ks T) t.heap) (xs_A ad ks sz)) 0 0 (xs_A ad ks sz) := by
  refine xm_v (by decide) (Nat.le_of_ble_eq_true rfl) ?_
  intro p e s m args below meth c R A Q ls hx hb hml hown hts hRf hRl hK hw hl hret
  have hl : lv_has ls 7 [(0, .ref (ad k)), (1, .int n1), (2, .int n2)] := hl
  have w_247 : ∀ (f : Nat), ∀ (i5 : Int32) (S : xs_T) (H : Heap) (locs : List Loc) (ls : Array Slot), xs_I D ad ca ks A s S H locs → lv_has ls 7 [(0, .ref (ad k)), (5, .int i5)] → xf_R_mac_247 k n1 n2 f i5 S = some T → W p l e R s m args below meth c H locs 0 0 Q (F0 m 247 ls []) := by
    intro f
    induction f with
    | zero => intro i5 S H locs ls hw hl h; exact absurd h (by simp [xf_R_mac_247])
    | succ f ih =>
      intro i5 S H locs ls hw hl h
      rw [xf_R_mac_247] at h
      refine lv_iload hx hb dd_R_mac_247 (lv_at hl 1 rfl) ?_
      refine lv_bipush (v := 16) hx hb dd_R_mac_249 rfl ?_
      refine lv_icmp_ge hx hb dd_R_mac_251 rfl (fun b10 => ?_) (fun b10 => ?_)
      · replace h := xs_p b10 h
        exact hret h hw dd_R_mac_274
      · replace h := xs_n b10 h
        refine lv_aload_n hx hb dd_R_mac_254 rfl (lv_at hl 0 rfl) ?_
        refine xr_get_R (v := .ref (ad (k + 6))) hx hb hts hown hK hw hk 5 (by decide) (hts _ hw_748) rfl dd_R_mac_255 ?_
        refine lv_iload hx hb dd_R_mac_258 (lv_at hl 1 rfl) ?_
        refine lv_aload_n hx hb dd_R_mac_260 rfl (lv_at hl 0 rfl) ?_
        refine xr_get_R (v := .ref (ad (k + 4))) hx hb hts hown hK hw hk 3 (by decide) (hts _ hw_746) rfl dd_R_mac_261 ?_
        refine lv_iload hx hb dd_R_mac_264 (lv_at hl 1 rfl) ?_
        obtain ⟨v11, gv11, h⟩ := xs_ob h
        refine xr_iald hx hb hK hw (xs_ok_R_block hK.1 hk) gv11 dd_R_mac_266 ?_
        obtain ⟨S12, gS12, h⟩ := xs_ob h
        refine xr_iast hx hb hK hw (xs_ok_R_code hK.1 hk) gS12 dd_R_mac_267 (fun H locs hw => ?_)
        refine lv_iinc (k := 1) (v := i5 + 1) hx hb dd_R_mac_268 hl rfl rfl (by decide) rfl (fun ls hl => ?_)
        have hl : lv_has ls 7 [(5, .int (i5 + 1)), (0, .ref (ad k))] := hl
        refine lv_goto hx hb dd_R_mac_271 rfl ?_
        exact ih (i5 + 1) S12 _ _ _ hw (lv_sub hl [1, 0] rfl) h
  have w_225 : ∀ (c163 : Int32 → Int32 → xs_T → Option (xs_T)) (y163 : ∀ (i3 : Int32) (i5 : Int32) (S : xs_T) (H : Heap) (locs : List Loc) (ls : Array Slot), xs_I D ad ca ks A s S H locs → lv_has ls 7 [(0, .ref (ad k)), (1, .int n1), (3, .int i3), (5, .int i5)] → c163 i3 i5 S = some T → W p l e R s m args below meth c H locs 0 0 Q (F0 m 163 ls [])), ∀ (c172 : Int32 → Int32 → Int32 → xs_T → Option (xs_T)) (y172 : ∀ (i3 : Int32) (i5 : Int32) (i6 : Int32) (S : xs_T) (H : Heap) (locs : List Loc) (ls : Array Slot), xs_I D ad ca ks A s S H locs → lv_has ls 7 [(0, .ref (ad k)), (1, .int n1), (3, .int i3), (5, .int i5), (6, .int i6)] → c172 i3 i5 i6 S = some T → W p l e R s m args below meth c H locs 0 0 Q (F0 m 172 ls [])), ∀ (i3 : Int32) (i5 : Int32) (i6 : Int32) (t1 : Int32) (t2 : Int32) (t3 : Int32) (S : xs_T) (H : Heap) (locs : List Loc) (ls : Array Slot), xs_I D ad ca ks A s S H locs → lv_has ls 7 [(0, .ref (ad k)), (1, .int n1), (3, .int i3), (5, .int i5), (6, .int i6)] → xf_R_mac_225 k n1 n2 c163 c172 i3 i5 i6 t1 t2 t3 S = some T → W p l e R s m args below meth c H locs 0 0 Q (F0 m 225 ls [.int t3, .int t2, .int t1, .ref (ad (k + 4))]) := by
    intro c163 y163 c172 y172 i3 i5 i6 t1 t2 t3 S H locs ls hw hl h
    unfold xf_R_mac_225 at h
    refine lv_ixor hx hb dd_R_mac_225 ?_
    obtain ⟨S18, gS18, h⟩ := xs_ob h
    refine xr_iast hx hb hK hw (xs_ok_R_block hK.1 hk) gS18 dd_R_mac_226 (fun H locs hw => ?_)
    refine lv_iinc (k := 4) (v := i6 + 1) hx hb dd_R_mac_227 hl rfl rfl (by decide) rfl (fun ls hl => ?_)
    have hl : lv_has ls 7 [(6, .int (i6 + 1)), (0, .ref (ad k)), (1, .int n1), (3, .int i3), (5, .int i5)] := hl
    refine lv_goto hx hb dd_R_mac_230 rfl ?_
    exact y172 i3 i5 (i6 + 1) S18 _ _ _ hw (lv_sub hl [1, 2, 3, 4, 0] rfl) h
  have w_172 : ∀ (c163 : Int32 → Int32 → xs_T → Option (xs_T)) (y163 : ∀ (i3 : Int32) (i5 : Int32) (S : xs_T) (H : Heap) (locs : List Loc) (ls : Array Slot), xs_I D ad ca ks A s S H locs → lv_has ls 7 [(0, .ref (ad k)), (1, .int n1), (3, .int i3), (5, .int i5)] → c163 i3 i5 S = some T → W p l e R s m args below meth c H locs 0 0 Q (F0 m 163 ls [])), ∀ (f : Nat), ∀ (i3 : Int32) (i5 : Int32) (i6 : Int32) (S : xs_T) (H : Heap) (locs : List Loc) (ls : Array Slot), xs_I D ad ca ks A s S H locs → lv_has ls 7 [(0, .ref (ad k)), (1, .int n1), (3, .int i3), (5, .int i5), (6, .int i6)] → xf_R_mac_172 k n1 n2 c163 f i3 i5 i6 S = some T → W p l e R s m args below meth c H locs 0 0 Q (F0 m 172 ls []) := by
    intro c163 y163 f
    induction f with
    | zero => intro i3 i5 i6 S H locs ls hw hl h; exact absurd h (by simp [xf_R_mac_172])
    | succ f ih =>
      intro i3 i5 i6 S H locs ls hw hl h
      rw [xf_R_mac_172] at h
      refine lv_iload hx hb dd_R_mac_172 (lv_at hl 4 rfl) ?_
      refine lv_bipush (v := 16) hx hb dd_R_mac_174 rfl ?_
      refine lv_icmp_ge hx hb dd_R_mac_176 rfl (fun b13 => ?_) (fun b13 => ?_)
      · replace h := xs_p b13 h
        refine lv_aload_n hx hb dd_R_mac_233 rfl (lv_at hl 0 rfl) ?_
        refine lv_iload_n hx hb dd_R_mac_234 rfl (lv_at hl 1 rfl) ?_
        obtain ⟨q14, gq14, h⟩ := xs_ob h
        refine xq_v hK hw (va_runV (As := [.int n1]) (rest := []) ⟨hx, hb, hml, hown, hts⟩ (xc_R_cipher l D ad ca ks k n1 S q14 hk gq14 _) ⟨callB_of 1 hts (xs_good hw_896) rfl rfl rfl (hts _ hw_13) (hts _ hw_893) yd_R_cipher ⟨Nat.le_trans (by decide) hRf, Nat.le_trans (by decide) hRl⟩, (hts _ hw_895), (hts _ hs_17)⟩ ⟨xs_blind, xs_recv_R hK hw hk, fun U h1 h2 => ⟨rfl, xs_pre hK hw h1 h2⟩⟩ rfl rfl hl.1 rfl (lv_room (Nat.le_of_ble_eq_true rfl)) dd_R_mac_235 ⟨Nat.zero_le _, Nat.zero_le _⟩) (fun H locs hw => ?_)
        refine lv_iinc (k := 3) (v := i5 + 1) hx hb dd_R_mac_238 hl rfl rfl (by decide) rfl (fun ls hl => ?_)
        have hl : lv_has ls 7 [(5, .int (i5 + 1)), (0, .ref (ad k)), (1, .int n1), (3, .int i3), (6, .int i6)] := hl
        refine lv_goto hx hb dd_R_mac_241 rfl ?_
        exact y163 i3 (i5 + 1) q14 _ _ _ hw (lv_sub hl [1, 2, 3, 0] rfl) h
      · replace h := xs_n b13 h
        refine lv_aload_n hx hb dd_R_mac_179 rfl (lv_at hl 0 rfl) ?_
        refine xr_get_R (v := .ref (ad (k + 4))) hx hb hts hown hK hw hk 3 (by decide) (hts _ hw_746) rfl dd_R_mac_180 ?_
        refine lv_iload hx hb dd_R_mac_183 (lv_at hl 4 rfl) ?_
        refine lv_aload_n hx hb dd_R_mac_185 rfl (lv_at hl 0 rfl) ?_
        refine xr_get_R (v := .ref (ad (k + 4))) hx hb hts hown hK hw hk 3 (by decide) (hts _ hw_746) rfl dd_R_mac_186 ?_
        refine lv_iload hx hb dd_R_mac_189 (lv_at hl 4 rfl) ?_
        obtain ⟨v15, gv15, h⟩ := xs_ob h
        refine xr_iald hx hb hK hw (xs_ok_R_block hK.1 hk) gv15 dd_R_mac_191 ?_
        refine lv_aload_n hx hb dd_R_mac_192 rfl (lv_at hl 0 rfl) ?_
        refine xr_get_R (v := .ref (ad (k + 8))) hx hb hts hown hK hw hk 7 (by decide) (hts _ hw_750) rfl dd_R_mac_193 ?_
        refine lv_bipush (v := 16) hx hb dd_R_mac_196 rfl ?_
        refine lv_iload hx hb dd_R_mac_198 (lv_at hl 3 rfl) ?_
        refine lv_imul hx hb dd_R_mac_200 ?_
        refine lv_iload hx hb dd_R_mac_201 (lv_at hl 4 rfl) ?_
        refine lv_iadd hx hb dd_R_mac_203 ?_
        obtain ⟨v16, gv16, h⟩ := xs_ob h
        refine xr_iald hx hb hK hw (xs_ok_R_row hK.1 hk) gv16 dd_R_mac_204 ?_
        refine lv_ixor hx hb dd_R_mac_205 ?_
        refine lv_iload hx hb dd_R_mac_206 (lv_at hl 3 rfl) ?_
        refine lv_iload_n hx hb dd_R_mac_208 rfl (lv_at hl 2 rfl) ?_
        refine lv_iconst (v := 1) hx hb dd_R_mac_209 rfl ?_
        refine lv_isub hx hb dd_R_mac_210 ?_
        refine lv_icmp_ne hx hb dd_R_mac_211 rfl (fun b17 => ?_) (fun b17 => ?_)
        · replace h := xs_n b17 h
          refine lv_iconst (v := 0) hx hb dd_R_mac_224 rfl ?_
          exact w_225 c163 y163 (xf_R_mac_172 k n1 n2 c163 f) ih i3 i5 i6 i6 (v15 ^^^ v16) 0 S _ _ _ hw (lv_sub hl [0, 1, 2, 3, 4] rfl) h
        · replace h := xs_p b17 h
          refine lv_aload_n hx hb dd_R_mac_214 rfl (lv_at hl 0 rfl) ?_
          refine xr_get_R (v := .ref (ad (k + 6))) hx hb hts hown hK hw hk 5 (by decide) (hts _ hw_748) rfl dd_R_mac_215 ?_
          refine lv_iload hx hb dd_R_mac_218 (lv_at hl 4 rfl) ?_
          obtain ⟨v19, gv19, h⟩ := xs_ob h
          refine xr_iald hx hb hK hw (xs_ok_R_code hK.1 hk) gv19 dd_R_mac_220 ?_
          refine lv_goto hx hb dd_R_mac_221 rfl ?_
          exact w_225 c163 y163 (xf_R_mac_172 k n1 n2 c163 f) ih i3 i5 i6 i6 (v15 ^^^ v16) v19 S _ _ _ hw (lv_sub hl [0, 1, 2, 3, 4] rfl) h
  have w_163 : ∀ (f : Nat), ∀ (i3 : Int32) (i5 : Int32) (S : xs_T) (H : Heap) (locs : List Loc) (ls : Array Slot), xs_I D ad ca ks A s S H locs → lv_has ls 7 [(0, .ref (ad k)), (1, .int n1), (3, .int i3), (5, .int i5)] → xf_R_mac_163 k n1 n2 f i3 i5 S = some T → W p l e R s m args below meth c H locs 0 0 Q (F0 m 163 ls []) := by
    intro f
    induction f with
    | zero => intro i3 i5 S H locs ls hw hl h; exact absurd h (by simp [xf_R_mac_163])
    | succ f ih =>
      intro i3 i5 S H locs ls hw hl h
      rw [xf_R_mac_163] at h
      refine lv_iload hx hb dd_R_mac_163 (lv_at hl 3 rfl) ?_
      refine lv_iload_n hx hb dd_R_mac_165 rfl (lv_at hl 2 rfl) ?_
      refine lv_icmp_ge hx hb dd_R_mac_166 rfl (fun b9 => ?_) (fun b9 => ?_)
      · replace h := xs_p b9 h
        refine lv_iconst (v := 0) hx hb dd_R_mac_244 rfl ?_
        refine lv_istore hx hb dd_R_mac_245 hl (by decide) rfl (fun ls hl => ?_)
        have hl : lv_has ls 7 [(5, .int 0), (0, .ref (ad k)), (1, .int n1), (3, .int i3)] := hl
        exact w_247 xs_fuel 0 S _ _ _ hw (lv_sub hl [1, 0] rfl) h
      · replace h := xs_n b9 h
        refine lv_iconst (v := 0) hx hb dd_R_mac_169 rfl ?_
        refine lv_istore hx hb dd_R_mac_170 hl (by decide) rfl (fun ls hl => ?_)
        have hl : lv_has ls 7 [(6, .int 0), (0, .ref (ad k)), (1, .int n1), (3, .int i3), (5, .int i5)] := hl
        exact w_172 (xf_R_mac_163 k n1 n2 f) ih xs_fuel i3 i5 0 S _ _ _ hw (lv_sub hl [1, 2, 3, 4, 0] rfl) h
  have w_139 : ∀ (f : Nat), ∀ (i3 : Int32) (i5 : Int32) (S : xs_T) (H : Heap) (locs : List Loc) (ls : Array Slot), xs_I D ad ca ks A s S H locs → lv_has ls 7 [(0, .ref (ad k)), (1, .int n1), (3, .int i3), (5, .int i5)] → xf_R_mac_139 k n1 n2 f i3 i5 S = some T → W p l e R s m args below meth c H locs 0 0 Q (F0 m 139 ls []) := by
    intro f
    induction f with
    | zero => intro i3 i5 S H locs ls hw hl h; exact absurd h (by simp [xf_R_mac_139])
    | succ f ih =>
      intro i3 i5 S H locs ls hw hl h
      rw [xf_R_mac_139] at h
      refine lv_iload hx hb dd_R_mac_139 (lv_at hl 3 rfl) ?_
      refine lv_bipush (v := 16) hx hb dd_R_mac_141 rfl ?_
      refine lv_icmp_ge hx hb dd_R_mac_143 rfl (fun b8 => ?_) (fun b8 => ?_)
      · replace h := xs_p b8 h
        refine lv_iconst (v := 0) hx hb dd_R_mac_160 rfl ?_
        refine lv_istore hx hb dd_R_mac_161 hl (by decide) rfl (fun ls hl => ?_)
        have hl : lv_has ls 7 [(5, .int 0), (0, .ref (ad k)), (1, .int n1), (3, .int i3)] := hl
        exact w_163 xs_fuel i3 0 S _ _ _ hw (lv_sub hl [1, 2, 3, 0] rfl) h
      · replace h := xs_n b8 h
        refine lv_aload_n hx hb dd_R_mac_146 rfl (lv_at hl 0 rfl) ?_
        refine xr_get_R (v := .ref (ad (k + 4))) hx hb hts hown hK hw hk 3 (by decide) (hts _ hw_746) rfl dd_R_mac_147 ?_
        refine lv_iload hx hb dd_R_mac_150 (lv_at hl 3 rfl) ?_
        refine lv_iconst (v := 0) hx hb dd_R_mac_152 rfl ?_
        obtain ⟨S20, gS20, h⟩ := xs_ob h
        refine xr_iast hx hb hK hw (xs_ok_R_block hK.1 hk) gS20 dd_R_mac_153 (fun H locs hw => ?_)
        refine lv_iinc (k := 3) (v := i5 + 1) hx hb dd_R_mac_154 hl rfl rfl (by decide) rfl (fun ls hl => ?_)
        have hl : lv_has ls 7 [(5, .int (i5 + 1)), (0, .ref (ad k)), (1, .int n1), (3, .int i3)] := hl
        refine lv_goto hx hb dd_R_mac_157 rfl ?_
        exact ih i3 (i5 + 1) S20 _ _ _ hw (lv_sub hl [1, 2, 3, 0] rfl) h
  have w_136 : ∀ (i3 : Int32) (S : xs_T) (H : Heap) (locs : List Loc) (ls : Array Slot), xs_I D ad ca ks A s S H locs → lv_has ls 7 [(0, .ref (ad k)), (1, .int n1), (3, .int i3)] → xf_R_mac_136 k n1 n2 i3 S = some T → W p l e R s m args below meth c H locs 0 0 Q (F0 m 136 ls []) := by
    intro i3 S H locs ls hw hl h
    unfold xf_R_mac_136 at h
    refine lv_iconst (v := 0) hx hb dd_R_mac_136 rfl ?_
    refine lv_istore hx hb dd_R_mac_137 hl (by decide) rfl (fun ls hl => ?_)
    have hl : lv_has ls 7 [(5, .int 0), (0, .ref (ad k)), (1, .int n1), (3, .int i3)] := hl
    exact w_139 xs_fuel i3 0 S _ _ _ hw (lv_sub hl [1, 2, 3, 0] rfl) h
  have w_113 : ∀ (f : Nat), ∀ (i3 : Int32) (i5 : Int32) (S : xs_T) (H : Heap) (locs : List Loc) (ls : Array Slot), xs_I D ad ca ks A s S H locs → lv_has ls 7 [(0, .ref (ad k)), (1, .int n1), (3, .int i3), (5, .int i5)] → xf_R_mac_113 k n1 n2 f i3 i5 S = some T → W p l e R s m args below meth c H locs 0 0 Q (F0 m 113 ls []) := by
    intro f
    induction f with
    | zero => intro i3 i5 S H locs ls hw hl h; exact absurd h (by simp [xf_R_mac_113])
    | succ f ih =>
      intro i3 i5 S H locs ls hw hl h
      rw [xf_R_mac_113] at h
      refine lv_iload hx hb dd_R_mac_113 (lv_at hl 3 rfl) ?_
      refine lv_bipush (v := 16) hx hb dd_R_mac_115 rfl ?_
      refine lv_iload_n hx hb dd_R_mac_117 rfl (lv_at hl 2 rfl) ?_
      refine lv_imul hx hb dd_R_mac_118 ?_
      refine lv_icmp_ge hx hb dd_R_mac_119 rfl (fun b23 => ?_) (fun b23 => ?_)
      · replace h := xs_p b23 h
        exact w_136 i3 S _ _ _ hw (lv_sub hl [0, 1, 2] rfl) h
      · replace h := xs_n b23 h
        refine lv_aload_n hx hb dd_R_mac_122 rfl (lv_at hl 0 rfl) ?_
        refine xr_get_R (v := .ref (ad (k + 8))) hx hb hts hown hK hw hk 7 (by decide) (hts _ hw_750) rfl dd_R_mac_123 ?_
        refine lv_iload hx hb dd_R_mac_126 (lv_at hl 3 rfl) ?_
        refine lv_iconst (v := 0) hx hb dd_R_mac_128 rfl ?_
        obtain ⟨S24, gS24, h⟩ := xs_ob h
        refine xr_iast hx hb hK hw (xs_ok_R_row hK.1 hk) gS24 dd_R_mac_129 (fun H locs hw => ?_)
        refine lv_iinc (k := 3) (v := i5 + 1) hx hb dd_R_mac_130 hl rfl rfl (by decide) rfl (fun ls hl => ?_)
        have hl : lv_has ls 7 [(5, .int (i5 + 1)), (0, .ref (ad k)), (1, .int n1), (3, .int i3)] := hl
        refine lv_goto hx hb dd_R_mac_133 rfl ?_
        exact ih i3 (i5 + 1) S24 _ _ _ hw (lv_sub hl [1, 2, 3, 0] rfl) h
  have w_88 : ∀ (i3 : Int32) (t0 : Int32) (S : xs_T) (H : Heap) (locs : List Loc) (ls : Array Slot), xs_I D ad ca ks A s S H locs → lv_has ls 7 [(0, .ref (ad k)), (1, .int n1), (2, .int n2), (3, .int i3)] → xf_R_mac_88 k n1 n2 i3 t0 S = some T → W p l e R s m args below meth c H locs 0 0 Q (F0 m 88 ls [.int t0]) := by
    intro i3 t0 S H locs ls hw hl h
    unfold xf_R_mac_88 at h
    refine lv_istore hx hb dd_R_mac_88 hl (by decide) rfl (fun ls hl => ?_)
    have hl : lv_has ls 7 [(4, .int t0), (0, .ref (ad k)), (1, .int n1), (2, .int n2), (3, .int i3)] := hl
    refine lv_iload hx hb dd_R_mac_90 (lv_at hl 0 rfl) ?_
    refine lv_if_ne hx hb dd_R_mac_92 rfl (fun b7 => ?_) (fun b7 => ?_)
    · replace h := xs_n b7 h
      exact w_136 i3 S _ _ _ hw (lv_sub hl [1, 2, 4] rfl) h
    · replace h := xs_p b7 h
      refine lv_aload_n hx hb dd_R_mac_95 rfl (lv_at hl 1 rfl) ?_
      obtain ⟨q21, gq21, h⟩ := xs_ob h
      refine xq_v hK hw (va_runV (As := []) (rest := []) ⟨hx, hb, hml, hown, hts⟩ (xc_R_doubled l D ad ca ks k S q21 hk gq21 _) ⟨callB_of 0 hts (xs_good hw_916) rfl rfl rfl (hts _ hw_13) (hts _ hw_913) yd_R_doubled ⟨Nat.le_trans (by decide) hRf, Nat.le_trans (by decide) hRl⟩, (hts _ hw_915), (hts _ hs_22)⟩ ⟨xs_blind, xs_recv_R hK hw hk, fun U h1 h2 => ⟨rfl, xs_pre hK hw h1 h2⟩⟩ rfl rfl hl.1 rfl (lv_room (Nat.le_of_ble_eq_true rfl)) dd_R_mac_96 ⟨Nat.zero_le _, Nat.zero_le _⟩) (fun H locs hw => ?_)
      refine lv_aload_n hx hb dd_R_mac_99 rfl (lv_at hl 1 rfl) ?_
      refine xr_get_R (v := .ref (ad (k + 8))) hx hb hts hown hK hw hk 7 (by decide) (hts _ hw_750) rfl dd_R_mac_100 ?_
      refine lv_iload_n hx hb dd_R_mac_103 rfl (lv_at hl 3 rfl) ?_
      refine lv_sipush (v := 128) hx hb dd_R_mac_104 rfl ?_
      obtain ⟨S22, gS22, h⟩ := xs_ob h
      refine xr_iast hx hb hK hw (xs_ok_R_row hK.1 hk) gS22 dd_R_mac_107 (fun H locs hw => ?_)
      refine lv_iload_n hx hb dd_R_mac_108 rfl (lv_at hl 3 rfl) ?_
      refine lv_iconst (v := 1) hx hb dd_R_mac_109 rfl ?_
      refine lv_iadd hx hb dd_R_mac_110 ?_
      refine lv_istore hx hb dd_R_mac_111 hl (by decide) rfl (fun ls hl => ?_)
      have hl : lv_has ls 7 [(5, .int (n2 + 1)), (4, .int t0), (0, .ref (ad k)), (1, .int n1), (2, .int n2), (3, .int i3)] := hl
      exact w_113 xs_fuel i3 (n2 + 1) S22 _ _ _ hw (lv_sub hl [2, 3, 5, 0] rfl) h
  have w_87 : ∀ (i3 : Int32) (S : xs_T) (H : Heap) (locs : List Loc) (ls : Array Slot), xs_I D ad ca ks A s S H locs → lv_has ls 7 [(0, .ref (ad k)), (1, .int n1), (2, .int n2), (3, .int i3)] → xf_R_mac_87 k n1 n2 i3 S = some T → W p l e R s m args below meth c H locs 0 0 Q (F0 m 87 ls []) := by
    intro i3 S H locs ls hw hl h
    unfold xf_R_mac_87 at h
    refine lv_iconst (v := 0) hx hb dd_R_mac_87 rfl ?_
    exact w_88 i3 0 S _ _ _ hw (lv_sub hl [0, 1, 2, 3] rfl) h
  have w_71 : ∀ (t0 : Int32) (S : xs_T) (H : Heap) (locs : List Loc) (ls : Array Slot), xs_I D ad ca ks A s S H locs → lv_has ls 7 [(0, .ref (ad k)), (1, .int n1), (2, .int n2)] → xf_R_mac_71 k n1 n2 t0 S = some T → W p l e R s m args below meth c H locs 0 0 Q (F0 m 71 ls [.int t0]) := by
    intro t0 S H locs ls hw hl h
    unfold xf_R_mac_71 at h
    refine lv_istore_n hx hb dd_R_mac_71 rfl hl (by decide) rfl (fun ls hl => ?_)
    have hl : lv_has ls 7 [(3, .int t0), (0, .ref (ad k)), (1, .int n1), (2, .int n2)] := hl
    refine lv_iload_n hx hb dd_R_mac_72 rfl (lv_at hl 3 rfl) ?_
    refine lv_if_le hx hb dd_R_mac_73 rfl (fun b6 => ?_) (fun b6 => ?_)
    · replace h := xs_p b6 h
      exact w_87 t0 S _ _ _ hw (lv_sub hl [1, 2, 3, 0] rfl) h
    · replace h := xs_n b6 h
      refine lv_iload_n hx hb dd_R_mac_76 rfl (lv_at hl 3 rfl) ?_
      refine lv_bipush (v := 16) hx hb dd_R_mac_77 rfl ?_
      refine lv_irem hx hb dd_R_mac_79 (by decide) ?_
      refine lv_asI (v := xs_rem n2 16) rfl ?_
      refine lv_if_ne hx hb dd_R_mac_80 rfl (fun b25 => ?_) (fun b25 => ?_)
      · replace h := xs_n b25 h
        exact w_87 t0 S _ _ _ hw (lv_sub hl [1, 2, 3, 0] rfl) h
      · replace h := xs_p b25 h
        refine lv_iconst (v := 1) hx hb dd_R_mac_83 rfl ?_
        refine lv_goto hx hb dd_R_mac_84 rfl ?_
        exact w_88 t0 1 S _ _ _ hw (lv_sub hl [1, 2, 3, 0] rfl) h
  have w_28 : ∀ (f : Nat), ∀ (i3 : Int32) (S : xs_T) (H : Heap) (locs : List Loc) (ls : Array Slot), xs_I D ad ca ks A s S H locs → lv_has ls 7 [(0, .ref (ad k)), (1, .int n1), (2, .int n2), (3, .int i3)] → xf_R_mac_28 k n1 n2 f i3 S = some T → W p l e R s m args below meth c H locs 0 0 Q (F0 m 28 ls []) := by
    intro f
    induction f with
    | zero => intro i3 S H locs ls hw hl h; exact absurd h (by simp [xf_R_mac_28])
    | succ f ih =>
      intro i3 S H locs ls hw hl h
      rw [xf_R_mac_28] at h
      refine lv_iload_n hx hb dd_R_mac_28 rfl (lv_at hl 3 rfl) ?_
      refine lv_bipush (v := 16) hx hb dd_R_mac_29 rfl ?_
      refine lv_icmp_ge hx hb dd_R_mac_31 rfl (fun b3 => ?_) (fun b3 => ?_)
      · replace h := xs_p b3 h
        refine lv_aload_n hx hb dd_R_mac_52 rfl (lv_at hl 0 rfl) ?_
        obtain ⟨q4, gq4, h⟩ := xs_ob h
        refine xq_v hK hw (va_runV (As := []) (rest := []) ⟨hx, hb, hml, hown, hts⟩ (xc_R_doubled l D ad ca ks k S q4 hk gq4 _) ⟨callB_of 0 hts (xs_good hw_916) rfl rfl rfl (hts _ hw_13) (hts _ hw_913) yd_R_doubled ⟨Nat.le_trans (by decide) hRf, Nat.le_trans (by decide) hRl⟩, (hts _ hw_915), (hts _ hs_22)⟩ ⟨xs_blind, xs_recv_R hK hw hk, fun U h1 h2 => ⟨rfl, xs_pre hK hw h1 h2⟩⟩ rfl rfl hl.1 rfl (lv_room (Nat.le_of_ble_eq_true rfl)) dd_R_mac_53 ⟨Nat.zero_le _, Nat.zero_le _⟩) (fun H locs hw => ?_)
        refine lv_iload_n hx hb dd_R_mac_56 rfl (lv_at hl 2 rfl) ?_
        refine lv_if_ne hx hb dd_R_mac_57 rfl (fun b5 => ?_) (fun b5 => ?_)
        · replace h := xs_n b5 h
          refine lv_iload_n hx hb dd_R_mac_64 rfl (lv_at hl 2 rfl) ?_
          refine lv_bipush (v := 15) hx hb dd_R_mac_65 rfl ?_
          refine lv_iadd hx hb dd_R_mac_67 ?_
          refine lv_bipush (v := 16) hx hb dd_R_mac_68 rfl ?_
          refine lv_idiv hx hb dd_R_mac_70 (by decide) ?_
          exact w_71 ((n2 + 15) / 16) q4 _ _ _ hw (lv_sub hl [0, 1, 2] rfl) h
        · replace h := xs_p b5 h
          refine lv_iconst (v := 1) hx hb dd_R_mac_60 rfl ?_
          refine lv_goto hx hb dd_R_mac_61 rfl ?_
          exact w_71 1 q4 _ _ _ hw (lv_sub hl [0, 1, 2] rfl) h
      · replace h := xs_n b3 h
        refine lv_aload_n hx hb dd_R_mac_34 rfl (lv_at hl 0 rfl) ?_
        refine xr_get_R (v := .ref (ad (k + 6))) hx hb hts hown hK hw hk 5 (by decide) (hts _ hw_748) rfl dd_R_mac_35 ?_
        refine lv_iload_n hx hb dd_R_mac_38 rfl (lv_at hl 3 rfl) ?_
        refine lv_aload_n hx hb dd_R_mac_39 rfl (lv_at hl 0 rfl) ?_
        refine xr_get_R (v := .ref (ad (k + 4))) hx hb hts hown hK hw hk 3 (by decide) (hts _ hw_746) rfl dd_R_mac_40 ?_
        refine lv_iload_n hx hb dd_R_mac_43 rfl (lv_at hl 3 rfl) ?_
        obtain ⟨v26, gv26, h⟩ := xs_ob h
        refine xr_iald hx hb hK hw (xs_ok_R_block hK.1 hk) gv26 dd_R_mac_44 ?_
        obtain ⟨S27, gS27, h⟩ := xs_ob h
        refine xr_iast hx hb hK hw (xs_ok_R_code hK.1 hk) gS27 dd_R_mac_45 (fun H locs hw => ?_)
        refine lv_iinc (k := 3) (v := i3 + 1) hx hb dd_R_mac_46 hl rfl rfl (by decide) rfl (fun ls hl => ?_)
        have hl : lv_has ls 7 [(3, .int (i3 + 1)), (0, .ref (ad k)), (1, .int n1), (2, .int n2)] := hl
        refine lv_goto hx hb dd_R_mac_49 rfl ?_
        exact ih (i3 + 1) S27 _ _ _ hw (lv_sub hl [1, 2, 3, 0] rfl) h
  have w_2 : ∀ (f : Nat), ∀ (i3 : Int32) (S : xs_T) (H : Heap) (locs : List Loc) (ls : Array Slot), xs_I D ad ca ks A s S H locs → lv_has ls 7 [(0, .ref (ad k)), (1, .int n1), (2, .int n2), (3, .int i3)] → xf_R_mac_2 k n1 n2 f i3 S = some T → W p l e R s m args below meth c H locs 0 0 Q (F0 m 2 ls []) := by
    intro f
    induction f with
    | zero => intro i3 S H locs ls hw hl h; exact absurd h (by simp [xf_R_mac_2])
    | succ f ih =>
      intro i3 S H locs ls hw hl h
      rw [xf_R_mac_2] at h
      refine lv_iload_n hx hb dd_R_mac_2 rfl (lv_at hl 3 rfl) ?_
      refine lv_bipush (v := 16) hx hb dd_R_mac_3 rfl ?_
      refine lv_icmp_ge hx hb dd_R_mac_5 rfl (fun b1 => ?_) (fun b1 => ?_)
      · replace h := xs_p b1 h
        refine lv_aload_n hx hb dd_R_mac_21 rfl (lv_at hl 0 rfl) ?_
        refine lv_iload_n hx hb dd_R_mac_22 rfl (lv_at hl 1 rfl) ?_
        obtain ⟨q2, gq2, h⟩ := xs_ob h
        refine xq_v hK hw (va_runV (As := [.int n1]) (rest := []) ⟨hx, hb, hml, hown, hts⟩ (xc_R_cipher l D ad ca ks k n1 S q2 hk gq2 _) ⟨callB_of 1 hts (xs_good hw_896) rfl rfl rfl (hts _ hw_13) (hts _ hw_893) yd_R_cipher ⟨Nat.le_trans (by decide) hRf, Nat.le_trans (by decide) hRl⟩, (hts _ hw_895), (hts _ hs_17)⟩ ⟨xs_blind, xs_recv_R hK hw hk, fun U h1 h2 => ⟨rfl, xs_pre hK hw h1 h2⟩⟩ rfl rfl hl.1 rfl (lv_room (Nat.le_of_ble_eq_true rfl)) dd_R_mac_23 ⟨Nat.zero_le _, Nat.zero_le _⟩) (fun H locs hw => ?_)
        refine lv_iconst (v := 0) hx hb dd_R_mac_26 rfl ?_
        refine lv_istore_n hx hb dd_R_mac_27 rfl hl (by decide) rfl (fun ls hl => ?_)
        have hl : lv_has ls 7 [(3, .int 0), (0, .ref (ad k)), (1, .int n1), (2, .int n2)] := hl
        exact w_28 xs_fuel 0 q2 _ _ _ hw (lv_sub hl [1, 2, 3, 0] rfl) h
      · replace h := xs_n b1 h
        refine lv_aload_n hx hb dd_R_mac_8 rfl (lv_at hl 0 rfl) ?_
        refine xr_get_R (v := .ref (ad (k + 4))) hx hb hts hown hK hw hk 3 (by decide) (hts _ hw_746) rfl dd_R_mac_9 ?_
        refine lv_iload_n hx hb dd_R_mac_12 rfl (lv_at hl 3 rfl) ?_
        refine lv_iconst (v := 0) hx hb dd_R_mac_13 rfl ?_
        obtain ⟨S28, gS28, h⟩ := xs_ob h
        refine xr_iast hx hb hK hw (xs_ok_R_block hK.1 hk) gS28 dd_R_mac_14 (fun H locs hw => ?_)
        refine lv_iinc (k := 3) (v := i3 + 1) hx hb dd_R_mac_15 hl rfl rfl (by decide) rfl (fun ls hl => ?_)
        have hl : lv_has ls 7 [(3, .int (i3 + 1)), (0, .ref (ad k)), (1, .int n1), (2, .int n2)] := hl
        refine lv_goto hx hb dd_R_mac_18 rfl ?_
        exact ih (i3 + 1) S28 _ _ _ hw (lv_sub hl [1, 2, 3, 0] rfl) h
  unfold xf_R_mac at h
  refine lv_iconst (v := 0) hx hb dd_R_mac_0 rfl ?_
  refine lv_istore_n hx hb dd_R_mac_1 rfl hl (by decide) rfl (fun ls hl => ?_)
  have hl : lv_has ls 7 [(3, .int 0), (0, .ref (ad k)), (1, .int n1), (2, .int n2)] := hl
  exact w_2 xs_fuel 0 S _ _ _ hw (lv_sub hl [1, 2, 3, 0] rfl) h
