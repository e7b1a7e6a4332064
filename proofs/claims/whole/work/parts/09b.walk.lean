set_option maxHeartbeats 4000000 in
set_option maxRecDepth 100000 in
theorem xc_W_isDevice (l : Launch) (D : va_G) (ad : Nat → Nat) (ca : Nat → ClassId) (ks : List Nat) (n0 : Int32) (S : xs_T) (r : Int32) (h : xf_W_isDevice n0 = some r) (sz : Nat) : Met l yy_W_isDevice ws_W_isDevice { frames := 0, cells := 0, slots := 0, locals := 0 } (va_Pc [.int n0] (xs_Pre D ad ca ks S sz)) (va_Qi (fun r1 (_ : Unit) => r1 = r) (fun _ t => va_P D xs_cl (xs_w ad ca ks S) t.heap) (xs_A ad ks sz)) 0 0 (xs_A ad ks sz) := by
  refine xm_zr (by decide) (Nat.le_of_ble_eq_true rfl) ?_
  intro p e s m args below meth c R A Q ls hx hb hml hown hts hRf hRl hK hw hl hret
  have hl : lv_has ls 1 [(0, .int n0)] := hl
  unfold xf_W_isDevice at h
  refine lv_iload_n hx hb dd_W_isDevice_0 rfl (lv_at hl 0 rfl) ?_
  refine lv_if_lt hx hb dd_W_isDevice_1 rfl (fun b1 => ?_) (fun b1 => ?_)
  · replace h := xs_p b1 h
    refine lv_iconst (v := 0) hx hb dd_W_isDevice_13 rfl ?_
    exact hret h hw dd_W_isDevice_14
  · replace h := xs_n b1 h
    refine lv_iload_n hx hb dd_W_isDevice_4 rfl (lv_at hl 0 rfl) ?_
    refine lv_iconst (v := 3) hx hb dd_W_isDevice_5 rfl ?_
    refine lv_icmp_ge hx hb dd_W_isDevice_6 rfl (fun b2 => ?_) (fun b2 => ?_)
    · replace h := xs_p b2 h
      refine lv_iconst (v := 0) hx hb dd_W_isDevice_13 rfl ?_
      exact hret h hw dd_W_isDevice_14
    · replace h := xs_n b2 h
      refine lv_iconst (v := 1) hx hb dd_W_isDevice_9 rfl ?_
      refine lv_goto hx hb dd_W_isDevice_10 rfl ?_
      exact hret h hw dd_W_isDevice_14
set_option maxHeartbeats 4000000 in
set_option maxRecDepth 100000 in
theorem xc_F_append (l : Launch) (D : va_G) (ad : Nat → Nat) (ca : Nat → ClassId) (ks : List Nat) (k : Nat) (n1 : Int32) (n2 : Int32) (S : xs_T) (T : xs_T) (hk : xs_is ks k xs_cF) (h : xf_F_append k n1 n2 S = some T) (sz : Nat) : Met l yy_F_append ws_F_append { frames := 1, cells := 0, slots := 0, locals := 24 } (va_Pc [.ref (ad k), .int n1, .int n2] (xs_Pre D ad ca ks S sz)) (va_Qv (fun _ : Unit => True) (fun _ t => va_P D xs_cl (xs_w ad ca ks T) t.heap) (xs_A ad ks sz)) 0 0 (xs_A ad ks sz) := by
  refine xm_v (by decide) (Nat.le_of_ble_eq_true rfl) ?_
  intro p e s m args below meth c R A Q ls hx hb hml hown hts hRf hRl hK hw hl hret
  have hl : lv_has ls 3 [(0, .ref (ad k)), (1, .int n1), (2, .int n2)] := hl
  unfold xf_F_append at h
  refine lv_aload_n hx hb dd_F_append_0 rfl (lv_at hl 0 rfl) ?_
  refine xr_get_F (v := .int (xs_gI S k 1)) hx hb hts hown hK hw hk 1 (by decide) (hts _ hw_43) rfl dd_F_append_1 ?_
  refine lv_iload_n hx hb dd_F_append_4 rfl (lv_at hl 2 rfl) ?_
  refine lv_iadd hx hb dd_F_append_5 ?_
  refine lv_bipush (v := 24) hx hb dd_F_append_6 rfl ?_
  refine lv_icmp_gt hx hb dd_F_append_8 rfl (fun b1 => ?_) (fun b1 => ?_)
  · replace h := xs_p b1 h
    exact hret h hw dd_F_append_34
  · replace h := xs_n b1 h
    refine lv_aload_n hx hb dd_F_append_11 rfl (lv_at hl 0 rfl) ?_
    refine xr_get_F (v := .ref (ad (k + 1))) hx hb hts hown hK hw hk 0 (by decide) (hts _ hw_37) rfl dd_F_append_12 ?_
    refine lv_aload_n hx hb dd_F_append_15 rfl (lv_at hl 0 rfl) ?_
    refine xr_get_F (v := .int (xs_gI S k 1)) hx hb hts hown hK hw hk 1 (by decide) (hts _ hw_43) rfl dd_F_append_16 ?_
    refine lv_iload_n hx hb dd_F_append_19 rfl (lv_at hl 1 rfl) ?_
    refine lv_iload_n hx hb dd_F_append_20 rfl (lv_at hl 2 rfl) ?_
    obtain ⟨q2, gq2, h⟩ := xs_ob h
    refine xq_v hK hw (va_runSN (As := [.ref (ad (k + 1)), .int (xs_gI S k 1), .int n1, .int n2]) (rest := []) ⟨hx, hb, hml, hown, hts⟩ (xc_W_putNumber l D ad ca ks (k + 1) (xs_gI S k 1) n1 n2 S q2 (xs_ok_F_bytes hK.1 hk) gq2 _) ⟨va_cnB 4 hts (xs_good hw_140) rfl rfl rfl (hK.2.2.2.1 _ hn_380 rfl) (hts _ hw_1) yd_W_putNumber ⟨Nat.le_trans (by decide) hRf, Nat.le_trans (by decide) hRl⟩, (hts _ hw_139), trivial⟩ ⟨xs_blind, fun U h1 h2 => ⟨rfl, xs_pre hK hw h1 h2⟩⟩ rfl rfl hl.1 rfl (lv_room (Nat.le_of_ble_eq_true rfl)) dd_F_append_21 ⟨Nat.zero_le _, Nat.zero_le _⟩) (fun H locs hw => ?_)
    refine lv_aload_n hx hb dd_F_append_24 rfl (lv_at hl 0 rfl) ?_
    refine lv_dup hx hb dd_F_append_25 rfl ?_
    refine xr_get_F (v := .int (xs_gI q2 k 1)) hx hb hts hown hK hw hk 1 (by decide) (hts _ hw_43) rfl dd_F_append_26 ?_
    refine lv_iload_n hx hb dd_F_append_29 rfl (lv_at hl 2 rfl) ?_
    refine lv_iadd hx hb dd_F_append_30 ?_
    obtain ⟨S3, gS3, h⟩ := xs_ob h
    refine xr_putI_F hx hb hts hown hK hw hk 1 (by decide) (hts _ hw_43) rfl rfl (fun _ _ => rfl) gS3 dd_F_append_31 (fun H locs hw => ?_)
    exact hret h hw dd_F_append_34
set_option maxHeartbeats 4000000 in
set_option maxRecDepth 100000 in
theorem xc_F_begin (l : Launch) (D : va_G) (ad : Nat → Nat) (ca : Nat → ClassId) (ks : List Nat) (k : Nat) (n1 : Int32) (n2 : Int32) (S : xs_T) (T : xs_T) (hk : xs_is ks k xs_cF) (h : xf_F_begin k n1 n2 S = some T) (sz : Nat) : Met l yy_F_begin ws_F_begin { frames := 2, cells := 0, slots := 0, locals := 46 } (va_Pc [.ref (ad k), .int n1, .int n2] (xs_Pre D ad ca ks S sz)) (va_Qv (fun _ : Unit => True) (fun _ t => va_P D xs_cl (xs_w ad ca ks T) t.heap) (xs_A ad ks sz)) 0 0 (xs_A ad ks sz) := by
  refine xm_v (by decide) (Nat.le_of_ble_eq_true rfl) ?_
  intro p e s m args below meth c R A Q ls hx hb hml hown hts hRf hRl hK hw hl hret
  have hl : lv_has ls 3 [(0, .ref (ad k)), (1, .int n1), (2, .int n2)] := hl
  unfold xf_F_begin at h
  refine lv_aload_n hx hb dd_F_begin_0 rfl (lv_at hl 0 rfl) ?_
  refine lv_iconst (v := 0) hx hb dd_F_begin_1 rfl ?_
  obtain ⟨S1, gS1, h⟩ := xs_ob h
  refine xr_putI_F hx hb hts hown hK hw hk 1 (by decide) (hts _ hw_43) rfl rfl (fun _ _ => rfl) gS1 dd_F_begin_2 (fun H locs hw => ?_)
  refine lv_aload_n hx hb dd_F_begin_5 rfl (lv_at hl 0 rfl) ?_
  refine lv_iload_n hx hb dd_F_begin_6 rfl (lv_at hl 2 rfl) ?_
  obtain ⟨S2, gS2, h⟩ := xs_ob h
  refine xr_putI_F hx hb hts hown hK hw hk 2 (by decide) (hts _ hw_48) rfl rfl (fun _ _ => rfl) gS2 dd_F_begin_7 (fun H locs hw => ?_)
  refine lv_aload_n hx hb dd_F_begin_10 rfl (lv_at hl 0 rfl) ?_
  refine lv_iload_n hx hb dd_F_begin_11 rfl (lv_at hl 1 rfl) ?_
  refine lv_iconst (v := 1) hx hb dd_F_begin_12 rfl ?_
  obtain ⟨q3, gq3, h⟩ := xs_ob h
  refine xq_v hK hw (va_runV (As := [.int n1, .int 1]) (rest := []) ⟨hx, hb, hml, hown, hts⟩ (xc_F_append l D ad ca ks k n1 1 S2 q3 hk gq3 _) ⟨callB_of 2 hts (xs_good hw_379) rfl rfl rfl (hts _ hw_3) (hts _ hw_376) yd_F_append ⟨Nat.le_trans (by decide) hRf, Nat.le_trans (by decide) hRl⟩, (hts _ hw_377), (hts _ hw_378)⟩ ⟨xs_blind, xs_recv_F hK hw hk, fun U h1 h2 => ⟨rfl, xs_pre hK hw h1 h2⟩⟩ rfl rfl hl.1 rfl (lv_room (Nat.le_of_ble_eq_true rfl)) dd_F_begin_13 ⟨Nat.zero_le _, Nat.zero_le _⟩) (fun H locs hw => ?_)
  exact hret h hw dd_F_begin_16
set_option maxHeartbeats 4000000 in
set_option maxRecDepth 100000 in
theorem xc_F_appendZeros (l : Launch) (D : va_G) (ad : Nat → Nat) (ca : Nat → ClassId) (ks : List Nat) (k : Nat) (n1 : Int32) (S : xs_T) (T : xs_T) (hk : xs_is ks k xs_cF) (h : xf_F_appendZeros k n1 S = some T) (sz : Nat) : Met l yy_F_appendZeros ws_F_appendZeros { frames := 2, cells := 0, slots := 0, locals := 46 } (va_Pc [.ref (ad k), .int n1] (xs_Pre D ad ca ks S sz)) (va_Qv (fun _ : Unit => True) (fun _ t => va_P D xs_cl (xs_w ad ca ks T) t.heap) (xs_A ad ks sz)) 0 0 (xs_A ad ks sz) := by
  refine xm_v (by decide) (Nat.le_of_ble_eq_true rfl) ?_
  intro p e s m args below meth c R A Q ls hx hb hml hown hts hRf hRl hK hw hl hret
  have hl : lv_has ls 3 [(0, .ref (ad k)), (1, .int n1)] := hl
  have w_2 : ∀ (f : Nat), ∀ (i2 : Int32) (S : xs_T) (H : Heap) (locs : List Loc) (ls : Array Slot), xs_I D ad ca ks A s S H locs → lv_has ls 3 [(0, .ref (ad k)), (1, .int n1), (2, .int i2)] → xf_F_appendZeros_2 k n1 f i2 S = some T → W p l e R s m args below meth c H locs 0 0 Q (F0 m 2 ls []) := by
    intro f
    induction f with
    | zero => intro i2 S H locs ls hw hl h; exact absurd h (by simp [xf_F_appendZeros_2])
    | succ f ih =>
      intro i2 S H locs ls hw hl h
      rw [xf_F_appendZeros_2] at h
      refine lv_iload_n hx hb dd_F_appendZeros_2 rfl (lv_at hl 2 rfl) ?_
      refine lv_iload_n hx hb dd_F_appendZeros_3 rfl (lv_at hl 1 rfl) ?_
      refine lv_icmp_ge hx hb dd_F_appendZeros_4 rfl (fun b1 => ?_) (fun b1 => ?_)
      · replace h := xs_p b1 h
        exact hret h hw dd_F_appendZeros_19
      · replace h := xs_n b1 h
        refine lv_aload_n hx hb dd_F_appendZeros_7 rfl (lv_at hl 0 rfl) ?_
        refine lv_iconst (v := 0) hx hb dd_F_appendZeros_8 rfl ?_
        refine lv_iconst (v := 1) hx hb dd_F_appendZeros_9 rfl ?_
        obtain ⟨q2, gq2, h⟩ := xs_ob h
        refine xq_v hK hw (va_runV (As := [.int 0, .int 1]) (rest := []) ⟨hx, hb, hml, hown, hts⟩ (xc_F_append l D ad ca ks k 0 1 S q2 hk gq2 _) ⟨callB_of 2 hts (xs_good hw_379) rfl rfl rfl (hts _ hw_3) (hts _ hw_376) yd_F_append ⟨Nat.le_trans (by decide) hRf, Nat.le_trans (by decide) hRl⟩, (hts _ hw_377), (hts _ hw_378)⟩ ⟨xs_blind, xs_recv_F hK hw hk, fun U h1 h2 => ⟨rfl, xs_pre hK hw h1 h2⟩⟩ rfl rfl hl.1 rfl (lv_room (Nat.le_of_ble_eq_true rfl)) dd_F_appendZeros_10 ⟨Nat.zero_le _, Nat.zero_le _⟩) (fun H locs hw => ?_)
        refine lv_iinc (k := 2) (v := i2 + 1) hx hb dd_F_appendZeros_13 hl rfl rfl (by decide) rfl (fun ls hl => ?_)
        have hl : lv_has ls 3 [(2, .int (i2 + 1)), (0, .ref (ad k)), (1, .int n1)] := hl
        refine lv_goto hx hb dd_F_appendZeros_16 rfl ?_
        exact ih (i2 + 1) q2 _ _ _ hw (lv_sub hl [1, 2, 0] rfl) h
  unfold xf_F_appendZeros at h
  refine lv_iconst (v := 0) hx hb dd_F_appendZeros_0 rfl ?_
  refine lv_istore_n hx hb dd_F_appendZeros_1 rfl hl (by decide) rfl (fun ls hl => ?_)
  have hl : lv_has ls 3 [(2, .int 0), (0, .ref (ad k)), (1, .int n1)] := hl
  exact w_2 xs_fuel 0 S _ _ _ hw (lv_sub hl [1, 2, 0] rfl) h
set_option maxHeartbeats 4000000 in
set_option maxRecDepth 100000 in
theorem xc_M_combine (l : Launch) (D : va_G) (ad : Nat → Nat) (ca : Nat → ClassId) (ks : List Nat) (k : Nat) (a1 : Nat) (n2 : Int32) (n3 : Int32) (S : xs_T) (T : xs_T) (hk : xs_is ks k xs_cM) (ha1 : xs_is ks a1 50) (h : xf_M_combine k a1 n2 n3 S = some T) (sz : Nat) : Met l yy_M_combine ws_M_combine { frames := 0, cells := 0, slots := 0, locals := 0 } (va_Pc [.ref (ad k), .ref (ad a1), .int n2, .int n3] (xs_Pre D ad ca ks S sz)) (va_Qv (fun _ : Unit => True) (fun _ t => va_P D xs_cl (xs_w ad ca ks T) t.heap) (xs_A ad ks sz)) 0 0 (xs_A ad ks sz) := by
  refine xm_v (by decide) (Nat.le_of_ble_eq_true rfl) ?_
  intro p e s m args below meth c R A Q ls hx hb hml hown hts hRf hRl hK hw hl hret
  have hl : lv_has ls 5 [(0, .ref (ad k)), (1, .ref (ad a1)), (2, .int n2), (3, .int n3)] := hl
  have w_3 : ∀ (f : Nat), ∀ (i4 : Int32) (S : xs_T) (H : Heap) (locs : List Loc) (ls : Array Slot), xs_I D ad ca ks A s S H locs → lv_has ls 5 [(0, .ref (ad k)), (1, .ref (ad a1)), (2, .int n2), (3, .int n3), (4, .int i4)] → xf_M_combine_3 k a1 n2 n3 f i4 S = some T → W p l e R s m args below meth c H locs 0 0 Q (F0 m 3 ls []) := by
    intro f
    induction f with
    | zero => intro i4 S H locs ls hw hl h; exact absurd h (by simp [xf_M_combine_3])
    | succ f ih =>
      intro i4 S H locs ls hw hl h
      rw [xf_M_combine_3] at h
      refine lv_iload hx hb dd_M_combine_3 (lv_at hl 4 rfl) ?_
      refine lv_iload_n hx hb dd_M_combine_5 rfl (lv_at hl 3 rfl) ?_
      refine lv_icmp_ge hx hb dd_M_combine_6 rfl (fun b1 => ?_) (fun b1 => ?_)
      · replace h := xs_p b1 h
        exact hret h hw dd_M_combine_31
      · replace h := xs_n b1 h
        refine lv_aload_n hx hb dd_M_combine_9 rfl (lv_at hl 0 rfl) ?_
        refine xr_get_M (v := .ref (ad (k + 5))) hx hb hts hown hK hw hk 3 (by decide) (hts _ hw_97) rfl dd_M_combine_10 ?_
        refine lv_iload hx hb dd_M_combine_13 (lv_at hl 4 rfl) ?_
        refine lv_dup2_11 hx hb dd_M_combine_15 rfl rfl ?_
        obtain ⟨v2, gv2, h⟩ := xs_ob h
        refine xr_iald hx hb hK hw (xs_ok_M_chained hK.1 hk) gv2 dd_M_combine_16 ?_
        refine lv_aload_n hx hb dd_M_combine_17 rfl (lv_at hl 1 rfl) ?_
        refine lv_iload_n hx hb dd_M_combine_18 rfl (lv_at hl 2 rfl) ?_
        refine lv_iload hx hb dd_M_combine_19 (lv_at hl 4 rfl) ?_
        refine lv_iadd hx hb dd_M_combine_21 ?_
        obtain ⟨v3, gv3, h⟩ := xs_ob h
        refine xr_iald hx hb hK hw ha1 gv3 dd_M_combine_22 ?_
        refine lv_ixor hx hb dd_M_combine_23 ?_
        obtain ⟨S4, gS4, h⟩ := xs_ob h
        refine xr_iast hx hb hK hw (xs_ok_M_chained hK.1 hk) gS4 dd_M_combine_24 (fun H locs hw => ?_)
        refine lv_iinc (k := 4) (v := i4 + 1) hx hb dd_M_combine_25 hl rfl rfl (by decide) rfl (fun ls hl => ?_)
        have hl : lv_has ls 5 [(4, .int (i4 + 1)), (0, .ref (ad k)), (1, .ref (ad a1)), (2, .int n2), (3, .int n3)] := hl
        refine lv_goto hx hb dd_M_combine_28 rfl ?_
        exact ih (i4 + 1) S4 _ _ _ hw (lv_sub hl [1, 2, 3, 4, 0] rfl) h
  unfold xf_M_combine at h
  refine lv_iconst (v := 0) hx hb dd_M_combine_0 rfl ?_
  refine lv_istore hx hb dd_M_combine_1 hl (by decide) rfl (fun ls hl => ?_)
  have hl : lv_has ls 5 [(4, .int 0), (0, .ref (ad k)), (1, .ref (ad a1)), (2, .int n2), (3, .int n3)] := hl
  exact w_3 xs_fuel 0 S _ _ _ hw (lv_sub hl [1, 2, 3, 4, 0] rfl) h
set_option maxHeartbeats 4000000 in
set_option maxRecDepth 100000 in
theorem xc_M_codeOf (l : Launch) (D : va_G) (ad : Nat → Nat) (ca : Nat → ClassId) (ks : List Nat) (k : Nat) (a1 : Nat) (n2 : Int32) (S : xs_T) (r : Int32) (T : xs_T) (hk : xs_is ks k xs_cM) (ha1 : xs_is ks a1 50) (h : xf_M_codeOf k a1 n2 S = some (r, T)) (sz : Nat) : Met l yy_M_codeOf ws_M_codeOf { frames := 2, cells := 0, slots := 0, locals := 56 } (va_Pc [.ref (ad k), .ref (ad a1), .int n2] (xs_Pre D ad ca ks S sz)) (va_Qi (fun r1 (_ : Unit) => r1 = r) (fun _ t => va_P D xs_cl (xs_w ad ca ks T) t.heap) (xs_A ad ks sz)) 0 0 (xs_A ad ks sz) := by
  refine xm_i (by decide) (Nat.le_of_ble_eq_true rfl) ?_
  intro p e s m args below meth c R A Q ls hx hb hml hown hts hRf hRl hK hw hl hret
  have hl : lv_has ls 5 [(0, .ref (ad k)), (1, .ref (ad a1)), (2, .int n2)] := hl
  have w_96 : ∀ (t1 : Nat) (S : xs_T) (hkt1 : xs_is ks t1 50) (H : Heap) (locs : List Loc) (ls : Array Slot), xs_I D ad ca ks A s S H locs → lv_has ls 5 [(0, .ref (ad k))] → xf_M_codeOf_96 k a1 n2 t1 S = some (r, T) → W p l e R s m args below meth c H locs 0 0 Q (F0 m 96 ls [.ref (ad t1), .ref (ad k)]) := by
    intro t1 S hkt1 H locs ls hw hl h
    unfold xf_M_codeOf_96 at h
    refine lv_iconst (v := 0) hx hb dd_M_codeOf_96 rfl ?_
    refine lv_bipush (v := 16) hx hb dd_M_codeOf_97 rfl ?_
    obtain ⟨q6, gq6, h⟩ := xs_ob h
    refine xq_v hK hw (va_runV (As := [.ref (ad t1), .int 0, .int 16]) (rest := []) ⟨hx, hb, hml, hown, hts⟩ (xc_M_combine l D ad ca ks k t1 0 16 S q6 hk hkt1 gq6 _) ⟨callB_of 3 hts (xs_good hw_393) rfl rfl rfl (hts _ hw_4) (hts _ hw_390) yd_M_combine ⟨Nat.le_trans (by decide) hRf, Nat.le_trans (by decide) hRl⟩, (hts _ hw_392), (hts _ hs_0)⟩ ⟨xs_blind, xs_recv_M hK hw hk, fun U h1 h2 => ⟨rfl, xs_pre hK hw h1 h2⟩⟩ rfl rfl hl.1 rfl (lv_room (Nat.le_of_ble_eq_true rfl)) dd_M_codeOf_99 ⟨Nat.zero_le _, Nat.zero_le _⟩) (fun H locs hw => ?_)
    refine lv_aload_n hx hb dd_M_codeOf_102 rfl (lv_at hl 0 rfl) ?_
    refine xr_get_M (v := .ref (ad (k + 1))) hx hb hts hown hK hw hk 0 (by decide) (hts _ hw_92) rfl dd_M_codeOf_103 ?_
    refine lv_aload_n hx hb dd_M_codeOf_106 rfl (lv_at hl 0 rfl) ?_
    refine xr_get_M (v := .ref (ad (k + 5))) hx hb hts hown hK hw hk 3 (by decide) (hts _ hw_97) rfl dd_M_codeOf_107 ?_
    refine lv_iconst (v := 0) hx hb dd_M_codeOf_110 rfl ?_
    obtain ⟨q7, gq7, h⟩ := xs_ob h
    refine xq_v hK hw (va_runV (As := [.ref (ad (k + 5)), .int 0]) (rest := []) ⟨hx, hb, hml, hown, hts⟩ (xc_C_encipher l D ad ca ks (k + 1) (k + 5) 0 q6 q7 (xs_ok_M_cipher hK.1 hk) (xs_ok_M_chained hK.1 hk) gq7 _) ⟨callB_of 2 hts (xs_good hw_134) rfl rfl rfl (hts _ hw_5) (hts _ hw_131) yd_C_encipher ⟨Nat.le_trans (by decide) hRf, Nat.le_trans (by decide) hRl⟩, (hts _ hw_132), (hts _ hw_133)⟩ ⟨xs_blind, xs_recv_C hK hw (xs_ok_M_cipher hK.1 hk), fun U h1 h2 => ⟨rfl, xs_pre hK hw h1 h2⟩⟩ rfl rfl hl.1 rfl (lv_room (Nat.le_of_ble_eq_true rfl)) dd_M_codeOf_111 ⟨Nat.zero_le _, Nat.zero_le _⟩) (fun H locs hw => ?_)
    refine lv_aload_n hx hb dd_M_codeOf_114 rfl (lv_at hl 0 rfl) ?_
    refine xr_get_M (v := .ref (ad (k + 5))) hx hb hts hown hK hw hk 3 (by decide) (hts _ hw_97) rfl dd_M_codeOf_115 ?_
    refine lv_iconst (v := 0) hx hb dd_M_codeOf_118 rfl ?_
    refine lv_iconst (v := 4) hx hb dd_M_codeOf_119 rfl ?_
    obtain ⟨q8, gq8, h⟩ := xs_ob h
    refine xq_i hK hw (va_runSN (As := [.ref (ad (k + 5)), .int 0, .int 4]) (rest := []) ⟨hx, hb, hml, hown, hts⟩ (xc_W_number l D ad ca ks (k + 5) 0 4 q7 q8 (xs_ok_M_chained hK.1 hk) gq8 _) ⟨va_cnB 3 hts (xs_good hw_117) rfl rfl rfl (hK.2.2.2.1 _ hn_394 rfl) (hts _ hw_1) yd_W_number ⟨Nat.le_trans (by decide) hRf, Nat.le_trans (by decide) hRl⟩, (hts _ hw_116), trivial⟩ ⟨xs_blind, fun U h1 h2 => ⟨rfl, xs_pre hK hw h1 h2⟩⟩ rfl rfl hl.1 rfl (lv_room (Nat.le_of_ble_eq_true rfl)) dd_M_codeOf_120 ⟨Nat.zero_le _, Nat.zero_le _⟩) (fun H locs hw => ?_)
    exact hret h hw dd_M_codeOf_123
  have w_77 : ∀ (i4 : Int32) (S : xs_T) (H : Heap) (locs : List Loc) (ls : Array Slot), xs_I D ad ca ks A s S H locs → lv_has ls 5 [(0, .ref (ad k)), (4, .int i4)] → xf_M_codeOf_77 k a1 n2 i4 S = some (r, T) → W p l e R s m args below meth c H locs 0 0 Q (F0 m 77 ls []) := by
    intro i4 S H locs ls hw hl h
    unfold xf_M_codeOf_77 at h
    refine lv_aload_n hx hb dd_M_codeOf_77 rfl (lv_at hl 0 rfl) ?_
    refine lv_iload hx hb dd_M_codeOf_78 (lv_at hl 1 rfl) ?_
    refine lv_bipush (v := 16) hx hb dd_M_codeOf_80 rfl ?_
    refine lv_icmp_ge hx hb dd_M_codeOf_82 rfl (fun b5 => ?_) (fun b5 => ?_)
    · replace h := xs_p b5 h
      refine lv_aload_n hx hb dd_M_codeOf_92 rfl (lv_at hl 0 rfl) ?_
      refine xr_get_M (v := .ref (ad (k + 3))) hx hb hts hown hK hw hk 1 (by decide) (hts _ hw_95) rfl dd_M_codeOf_93 ?_
      exact w_96 (k + 3) S (xs_ok_M_wholeSubkey hK.1 hk) _ _ _ hw (lv_sub hl [0] rfl) h
    · replace h := xs_n b5 h
      refine lv_aload_n hx hb dd_M_codeOf_85 rfl (lv_at hl 0 rfl) ?_
      refine xr_get_M (v := .ref (ad (k + 4))) hx hb hts hown hK hw hk 2 (by decide) (hts _ hw_96) rfl dd_M_codeOf_86 ?_
      refine lv_goto hx hb dd_M_codeOf_89 rfl ?_
      exact w_96 (k + 4) S (xs_ok_M_paddedSubkey hK.1 hk) _ _ _ hw (lv_sub hl [0] rfl) h
  have w_10 : ∀ (f : Nat), ∀ (i3 : Int32) (S : xs_T) (H : Heap) (locs : List Loc) (ls : Array Slot), xs_I D ad ca ks A s S H locs → lv_has ls 5 [(0, .ref (ad k)), (1, .ref (ad a1)), (2, .int n2), (3, .int i3)] → xf_M_codeOf_10 k a1 n2 f i3 S = some (r, T) → W p l e R s m args below meth c H locs 0 0 Q (F0 m 10 ls []) := by
    intro f
    induction f with
    | zero => intro i3 S H locs ls hw hl h; exact absurd h (by simp [xf_M_codeOf_10])
    | succ f ih =>
      intro i3 S H locs ls hw hl h
      rw [xf_M_codeOf_10] at h
      refine lv_iload_n hx hb dd_M_codeOf_10 rfl (lv_at hl 2 rfl) ?_
      refine lv_iload_n hx hb dd_M_codeOf_11 rfl (lv_at hl 3 rfl) ?_
      refine lv_isub hx hb dd_M_codeOf_12 ?_
      refine lv_bipush (v := 16) hx hb dd_M_codeOf_13 rfl ?_
      refine lv_icmp_le hx hb dd_M_codeOf_15 rfl (fun b2 => ?_) (fun b2 => ?_)
      · replace h := xs_p b2 h
        refine lv_iload_n hx hb dd_M_codeOf_44 rfl (lv_at hl 2 rfl) ?_
        refine lv_iload_n hx hb dd_M_codeOf_45 rfl (lv_at hl 3 rfl) ?_
        refine lv_isub hx hb dd_M_codeOf_46 ?_
        refine lv_istore hx hb dd_M_codeOf_47 hl (by decide) rfl (fun ls hl => ?_)
        have hl : lv_has ls 5 [(4, .int (n2 - i3)), (0, .ref (ad k)), (1, .ref (ad a1)), (2, .int n2), (3, .int i3)] := hl
        refine lv_aload_n hx hb dd_M_codeOf_49 rfl (lv_at hl 1 rfl) ?_
        refine lv_aload_n hx hb dd_M_codeOf_50 rfl (lv_at hl 2 rfl) ?_
        refine lv_iload_n hx hb dd_M_codeOf_51 rfl (lv_at hl 4 rfl) ?_
        refine lv_iload hx hb dd_M_codeOf_52 (lv_at hl 0 rfl) ?_
        obtain ⟨q3, gq3, h⟩ := xs_ob h
        refine xq_v hK hw (va_runV (As := [.ref (ad a1), .int i3, .int (n2 - i3)]) (rest := []) ⟨hx, hb, hml, hown, hts⟩ (xc_M_combine l D ad ca ks k a1 i3 (n2 - i3) S q3 hk ha1 gq3 _) ⟨callB_of 3 hts (xs_good hw_393) rfl rfl rfl (hts _ hw_4) (hts _ hw_390) yd_M_combine ⟨Nat.le_trans (by decide) hRf, Nat.le_trans (by decide) hRl⟩, (hts _ hw_392), (hts _ hs_0)⟩ ⟨xs_blind, xs_recv_M hK hw hk, fun U h1 h2 => ⟨rfl, xs_pre hK hw h1 h2⟩⟩ rfl rfl hl.1 rfl (lv_room (Nat.le_of_ble_eq_true rfl)) dd_M_codeOf_54 ⟨Nat.zero_le _, Nat.zero_le _⟩) (fun H locs hw => ?_)
        refine lv_iload hx hb dd_M_codeOf_57 (lv_at hl 0 rfl) ?_
        refine lv_bipush (v := 16) hx hb dd_M_codeOf_59 rfl ?_
        refine lv_icmp_ge hx hb dd_M_codeOf_61 rfl (fun b4 => ?_) (fun b4 => ?_)
        · replace h := xs_p b4 h
          exact w_77 (n2 - i3) q3 _ _ _ hw (lv_sub hl [1, 0] rfl) h
        · replace h := xs_n b4 h
          refine lv_aload_n hx hb dd_M_codeOf_64 rfl (lv_at hl 1 rfl) ?_
          refine xr_get_M (v := .ref (ad (k + 5))) hx hb hts hown hK hw hk 3 (by decide) (hts _ hw_97) rfl dd_M_codeOf_65 ?_
          refine lv_iload hx hb dd_M_codeOf_68 (lv_at hl 0 rfl) ?_
          refine lv_dup2_11 hx hb dd_M_codeOf_70 rfl rfl ?_
          obtain ⟨v9, gv9, h⟩ := xs_ob h
          refine xr_iald hx hb hK hw (xs_ok_M_chained hK.1 hk) gv9 dd_M_codeOf_71 ?_
          refine lv_sipush (v := 128) hx hb dd_M_codeOf_72 rfl ?_
          refine lv_ixor hx hb dd_M_codeOf_75 ?_
          obtain ⟨S10, gS10, h⟩ := xs_ob h
          refine xr_iast hx hb hK hw (xs_ok_M_chained hK.1 hk) gS10 dd_M_codeOf_76 (fun H locs hw => ?_)
          exact w_77 (n2 - i3) S10 _ _ _ hw (lv_sub hl [1, 0] rfl) h
      · replace h := xs_n b2 h
        refine lv_aload_n hx hb dd_M_codeOf_18 rfl (lv_at hl 0 rfl) ?_
        refine lv_aload_n hx hb dd_M_codeOf_19 rfl (lv_at hl 1 rfl) ?_
        refine lv_iload_n hx hb dd_M_codeOf_20 rfl (lv_at hl 3 rfl) ?_
        refine lv_bipush (v := 16) hx hb dd_M_codeOf_21 rfl ?_
        obtain ⟨q11, gq11, h⟩ := xs_ob h
        refine xq_v hK hw (va_runV (As := [.ref (ad a1), .int i3, .int 16]) (rest := []) ⟨hx, hb, hml, hown, hts⟩ (xc_M_combine l D ad ca ks k a1 i3 16 S q11 hk ha1 gq11 _) ⟨callB_of 3 hts (xs_good hw_393) rfl rfl rfl (hts _ hw_4) (hts _ hw_390) yd_M_combine ⟨Nat.le_trans (by decide) hRf, Nat.le_trans (by decide) hRl⟩, (hts _ hw_392), (hts _ hs_0)⟩ ⟨xs_blind, xs_recv_M hK hw hk, fun U h1 h2 => ⟨rfl, xs_pre hK hw h1 h2⟩⟩ rfl rfl hl.1 rfl (lv_room (Nat.le_of_ble_eq_true rfl)) dd_M_codeOf_23 ⟨Nat.zero_le _, Nat.zero_le _⟩) (fun H locs hw => ?_)
        refine lv_aload_n hx hb dd_M_codeOf_26 rfl (lv_at hl 0 rfl) ?_
        refine xr_get_M (v := .ref (ad (k + 1))) hx hb hts hown hK hw hk 0 (by decide) (hts _ hw_92) rfl dd_M_codeOf_27 ?_
        refine lv_aload_n hx hb dd_M_codeOf_30 rfl (lv_at hl 0 rfl) ?_
        refine xr_get_M (v := .ref (ad (k + 5))) hx hb hts hown hK hw hk 3 (by decide) (hts _ hw_97) rfl dd_M_codeOf_31 ?_
        refine lv_iconst (v := 0) hx hb dd_M_codeOf_34 rfl ?_
        obtain ⟨q12, gq12, h⟩ := xs_ob h
        refine xq_v hK hw (va_runV (As := [.ref (ad (k + 5)), .int 0]) (rest := []) ⟨hx, hb, hml, hown, hts⟩ (xc_C_encipher l D ad ca ks (k + 1) (k + 5) 0 q11 q12 (xs_ok_M_cipher hK.1 hk) (xs_ok_M_chained hK.1 hk) gq12 _) ⟨callB_of 2 hts (xs_good hw_134) rfl rfl rfl (hts _ hw_5) (hts _ hw_131) yd_C_encipher ⟨Nat.le_trans (by decide) hRf, Nat.le_trans (by decide) hRl⟩, (hts _ hw_132), (hts _ hw_133)⟩ ⟨xs_blind, xs_recv_C hK hw (xs_ok_M_cipher hK.1 hk), fun U h1 h2 => ⟨rfl, xs_pre hK hw h1 h2⟩⟩ rfl rfl hl.1 rfl (lv_room (Nat.le_of_ble_eq_true rfl)) dd_M_codeOf_35 ⟨Nat.zero_le _, Nat.zero_le _⟩) (fun H locs hw => ?_)
        refine lv_iinc (k := 3) (v := i3 + 16) hx hb dd_M_codeOf_38 hl rfl rfl (by decide) rfl (fun ls hl => ?_)
        have hl : lv_has ls 5 [(3, .int (i3 + 16)), (0, .ref (ad k)), (1, .ref (ad a1)), (2, .int n2)] := hl
        refine lv_goto hx hb dd_M_codeOf_41 rfl ?_
        exact ih (i3 + 16) q12 _ _ _ hw (lv_sub hl [1, 2, 3, 0] rfl) h
  unfold xf_M_codeOf at h
  refine lv_aload_n hx hb dd_M_codeOf_0 rfl (lv_at hl 0 rfl) ?_
  refine xr_get_M (v := .ref (ad (k + 5))) hx hb hts hown hK hw hk 3 (by decide) (hts _ hw_97) rfl dd_M_codeOf_1 ?_
  refine lv_iconst (v := 0) hx hb dd_M_codeOf_4 rfl ?_
  obtain ⟨q1, gq1, h⟩ := xs_ob h
  refine xq_v hK hw (va_runS (As := [.ref (ad (k + 5)), .int 0]) (rest := []) ⟨hx, hb, hml, hown, hts⟩ (xc_J_fill l D ad ca ks (k + 5) 0 S q1 (xs_ok_M_chained hK.1 hk) gq1 _) ⟨callB_of 2 hts (xs_good hw_130) rfl rfl rfl (hts _ hw_6) (hts _ hw_128) yd_J_fill ⟨Nat.le_trans (by decide) hRf, Nat.le_trans (by decide) hRl⟩, (hts _ hw_129)⟩ ⟨xs_blind, fun U h1 h2 => ⟨rfl, xs_pre hK hw h1 h2⟩⟩ rfl rfl hl.1 rfl (lv_room (Nat.le_of_ble_eq_true rfl)) dd_M_codeOf_5 ⟨Nat.zero_le _, Nat.zero_le _⟩) (fun H locs hw => ?_)
  refine lv_iconst (v := 0) hx hb dd_M_codeOf_8 rfl ?_
  refine lv_istore_n hx hb dd_M_codeOf_9 rfl hl (by decide) rfl (fun ls hl => ?_)
  have hl : lv_has ls 5 [(3, .int 0), (0, .ref (ad k)), (1, .ref (ad a1)), (2, .int n2)] := hl
  exact w_10 xs_fuel 0 q1 _ _ _ hw (lv_sub hl [1, 2, 3, 0] rfl) h
set_option maxHeartbeats 4000000 in
set_option maxRecDepth 100000 in
theorem xc_D_writeJoin (l : Launch) (D : va_G) (ad : Nat → Nat) (ca : Nat → ClassId) (ks : List Nat) (k : Nat) (S : xs_T) (T : xs_T) (hk : xs_is ks k xs_cD) (h : xf_D_writeJoin k S = some T) (sz : Nat) : Met l yy_D_writeJoin ws_D_writeJoin { frames := 3, cells := 0, slots := 0, locals := 80 } (va_Pc [.ref (ad k)] (xs_Pre D ad ca ks S sz)) (va_Qv (fun _ : Unit => True) (fun _ t => va_P D xs_cl (xs_w ad ca ks T) t.heap) (xs_A ad ks sz)) 0 0 (xs_A ad ks sz) := by
  refine xm_v (by decide) (Nat.le_of_ble_eq_true rfl) ?_
  intro p e s m args below meth c R A Q ls hx hb hml hown hts hRf hRl hK hw hl hret
  have hl : lv_has ls 1 [(0, .ref (ad k))] := hl
  unfold xf_D_writeJoin at h
  refine lv_aload_n hx hb dd_D_writeJoin_0 rfl (lv_at hl 0 rfl) ?_
  refine lv_dup hx hb dd_D_writeJoin_1 rfl ?_
  refine xr_get_D (v := .int (xs_gI S k 7)) hx hb hts hown hK hw hk 7 (by decide) (hts _ hw_207) rfl dd_D_writeJoin_2 ?_
  refine lv_iconst (v := 1) hx hb dd_D_writeJoin_5 rfl ?_
  refine lv_iadd hx hb dd_D_writeJoin_6 ?_
  obtain ⟨S1, gS1, h⟩ := xs_ob h
  refine xr_putI_D hx hb hts hown hK hw hk 7 (by decide) (hts _ hw_207) rfl rfl (fun _ _ => rfl) gS1 dd_D_writeJoin_7 (fun H locs hw => ?_)
  refine lv_aload_n hx hb dd_D_writeJoin_10 rfl (lv_at hl 0 rfl) ?_
  refine lv_iconst (v := 1) hx hb dd_D_writeJoin_11 rfl ?_
  obtain ⟨S2, gS2, h⟩ := xs_ob h
  refine xr_putI_D hx hb hts hown hK hw hk 6 (by decide) (hts _ hw_205) rfl rfl (fun _ _ => rfl) gS2 dd_D_writeJoin_12 (fun H locs hw => ?_)
  refine lv_aload_n hx hb dd_D_writeJoin_15 rfl (lv_at hl 0 rfl) ?_
  refine lv_iconst (v := 0) hx hb dd_D_writeJoin_16 rfl ?_
  obtain ⟨S3, gS3, h⟩ := xs_ob h
  refine xr_putZ_D hx hb hts hown hK hw hk 14 (by decide) (hts _ hw_217) rfl rfl (fun _ _ => rfl) gS3 dd_D_writeJoin_17 (fun H locs hw => ?_)
  refine lv_aload_n hx hb dd_D_writeJoin_20 rfl (lv_at hl 0 rfl) ?_
  refine lv_iconst (v := 0) hx hb dd_D_writeJoin_21 rfl ?_
  obtain ⟨S4, gS4, h⟩ := xs_ob h
  refine xr_putI_D hx hb hts hown hK hw hk 13 (by decide) (hts _ hw_216) rfl rfl (fun _ _ => rfl) gS4 dd_D_writeJoin_22 (fun H locs hw => ?_)
  refine lv_aload_n hx hb dd_D_writeJoin_25 rfl (lv_at hl 0 rfl) ?_
  refine xr_get_D (v := .ref (ad (k + 14))) hx hb hts hown hK hw hk 4 (by decide) (hts _ hw_203) rfl dd_D_writeJoin_26 ?_
  refine lv_iconst (v := 0) hx hb dd_D_writeJoin_29 rfl ?_
  refine lv_iconst (v := 3) hx hb dd_D_writeJoin_30 rfl ?_
  obtain ⟨q5, gq5, h⟩ := xs_ob h
  refine xq_v hK hw (va_runV (As := [.int 0, .int 3]) (rest := []) ⟨hx, hb, hml, hown, hts⟩ (xc_F_begin l D ad ca ks (k + 14) 0 3 S4 q5 (xs_ok_D_sent hK.1 hk) gq5 _) ⟨callB_of 2 hts (xs_good hw_375) rfl rfl rfl (hts _ hw_3) (hts _ hw_372) yd_F_begin ⟨Nat.le_trans (by decide) hRf, Nat.le_trans (by decide) hRl⟩, (hts _ hw_373), (hts _ hw_374)⟩ ⟨xs_blind, xs_recv_F hK hw (xs_ok_D_sent hK.1 hk), fun U h1 h2 => ⟨rfl, xs_pre hK hw h1 h2⟩⟩ rfl rfl hl.1 rfl (lv_room (Nat.le_of_ble_eq_true rfl)) dd_D_writeJoin_31 ⟨Nat.zero_le _, Nat.zero_le _⟩) (fun H locs hw => ?_)
  refine lv_aload_n hx hb dd_D_writeJoin_34 rfl (lv_at hl 0 rfl) ?_
  refine xr_get_D (v := .ref (ad (k + 14))) hx hb hts hown hK hw hk 4 (by decide) (hts _ hw_203) rfl dd_D_writeJoin_35 ?_
  refine lv_bipush (v := 8) hx hb dd_D_writeJoin_38 rfl ?_
  obtain ⟨q6, gq6, h⟩ := xs_ob h
  refine xq_v hK hw (va_runV (As := [.int 8]) (rest := []) ⟨hx, hb, hml, hown, hts⟩ (xc_F_appendZeros l D ad ca ks (k + 14) 8 q5 q6 (xs_ok_D_sent hK.1 hk) gq6 _) ⟨callB_of 1 hts (xs_good hw_384) rfl rfl rfl (hts _ hw_3) (hts _ hw_381) yd_F_appendZeros ⟨Nat.le_trans (by decide) hRf, Nat.le_trans (by decide) hRl⟩, (hts _ hw_382), (hts _ hw_383)⟩ ⟨xs_blind, xs_recv_F hK hw (xs_ok_D_sent hK.1 hk), fun U h1 h2 => ⟨rfl, xs_pre hK hw h1 h2⟩⟩ rfl rfl hl.1 rfl (lv_room (Nat.le_of_ble_eq_true rfl)) dd_D_writeJoin_40 ⟨Nat.zero_le _, Nat.zero_le _⟩) (fun H locs hw => ?_)
  refine lv_aload_n hx hb dd_D_writeJoin_43 rfl (lv_at hl 0 rfl) ?_
  refine xr_get_D (v := .ref (ad (k + 14))) hx hb hts hown hK hw hk 4 (by decide) (hts _ hw_203) rfl dd_D_writeJoin_44 ?_
  refine lv_aload_n hx hb dd_D_writeJoin_47 rfl (lv_at hl 0 rfl) ?_
  refine xr_get_D (v := .int (xs_gI q6 k 0)) hx hb hts hown hK hw hk 0 (by decide) (hts _ hw_198) rfl dd_D_writeJoin_48 ?_
  refine lv_iconst (v := 1) hx hb dd_D_writeJoin_51 rfl ?_
  obtain ⟨q7, gq7, h⟩ := xs_ob h
  refine xq_v hK hw (va_runV (As := [.int (xs_gI q6 k 0), .int 1]) (rest := []) ⟨hx, hb, hml, hown, hts⟩ (xc_F_append l D ad ca ks (k + 14) (xs_gI q6 k 0) 1 q6 q7 (xs_ok_D_sent hK.1 hk) gq7 _) ⟨callB_of 2 hts (xs_good hw_379) rfl rfl rfl (hts _ hw_3) (hts _ hw_385) yd_F_append ⟨Nat.le_trans (by decide) hRf, Nat.le_trans (by decide) hRl⟩, (hts _ hw_377), (hts _ hw_378)⟩ ⟨xs_blind, xs_recv_F hK hw (xs_ok_D_sent hK.1 hk), fun U h1 h2 => ⟨rfl, xs_pre hK hw h1 h2⟩⟩ rfl rfl hl.1 rfl (lv_room (Nat.le_of_ble_eq_true rfl)) dd_D_writeJoin_52 ⟨Nat.zero_le _, Nat.zero_le _⟩) (fun H locs hw => ?_)
  refine lv_aload_n hx hb dd_D_writeJoin_55 rfl (lv_at hl 0 rfl) ?_
  refine xr_get_D (v := .ref (ad (k + 14))) hx hb hts hown hK hw hk 4 (by decide) (hts _ hw_203) rfl dd_D_writeJoin_56 ?_
  refine lv_bipush (v := 7) hx hb dd_D_writeJoin_59 rfl ?_
  obtain ⟨q8, gq8, h⟩ := xs_ob h
  refine xq_v hK hw (va_runV (As := [.int 7]) (rest := []) ⟨hx, hb, hml, hown, hts⟩ (xc_F_appendZeros l D ad ca ks (k + 14) 7 q7 q8 (xs_ok_D_sent hK.1 hk) gq8 _) ⟨callB_of 1 hts (xs_good hw_384) rfl rfl rfl (hts _ hw_3) (hts _ hw_381) yd_F_appendZeros ⟨Nat.le_trans (by decide) hRf, Nat.le_trans (by decide) hRl⟩, (hts _ hw_382), (hts _ hw_383)⟩ ⟨xs_blind, xs_recv_F hK hw (xs_ok_D_sent hK.1 hk), fun U h1 h2 => ⟨rfl, xs_pre hK hw h1 h2⟩⟩ rfl rfl hl.1 rfl (lv_room (Nat.le_of_ble_eq_true rfl)) dd_D_writeJoin_61 ⟨Nat.zero_le _, Nat.zero_le _⟩) (fun H locs hw => ?_)
  refine lv_aload_n hx hb dd_D_writeJoin_64 rfl (lv_at hl 0 rfl) ?_
  refine xr_get_D (v := .ref (ad (k + 14))) hx hb hts hown hK hw hk 4 (by decide) (hts _ hw_203) rfl dd_D_writeJoin_65 ?_
  refine lv_aload_n hx hb dd_D_writeJoin_68 rfl (lv_at hl 0 rfl) ?_
  refine xr_get_D (v := .int (xs_gI q8 k 7)) hx hb hts hown hK hw hk 7 (by decide) (hts _ hw_207) rfl dd_D_writeJoin_69 ?_
  refine lv_iconst (v := 2) hx hb dd_D_writeJoin_72 rfl ?_
  obtain ⟨q9, gq9, h⟩ := xs_ob h
  refine xq_v hK hw (va_runV (As := [.int (xs_gI q8 k 7), .int 2]) (rest := []) ⟨hx, hb, hml, hown, hts⟩ (xc_F_append l D ad ca ks (k + 14) (xs_gI q8 k 7) 2 q8 q9 (xs_ok_D_sent hK.1 hk) gq9 _) ⟨callB_of 2 hts (xs_good hw_379) rfl rfl rfl (hts _ hw_3) (hts _ hw_385) yd_F_append ⟨Nat.le_trans (by decide) hRf, Nat.le_trans (by decide) hRl⟩, (hts _ hw_377), (hts _ hw_378)⟩ ⟨xs_blind, xs_recv_F hK hw (xs_ok_D_sent hK.1 hk), fun U h1 h2 => ⟨rfl, xs_pre hK hw h1 h2⟩⟩ rfl rfl hl.1 rfl (lv_room (Nat.le_of_ble_eq_true rfl)) dd_D_writeJoin_73 ⟨Nat.zero_le _, Nat.zero_le _⟩) (fun H locs hw => ?_)
  refine lv_aload_n hx hb dd_D_writeJoin_76 rfl (lv_at hl 0 rfl) ?_
  refine xr_get_D (v := .ref (ad (k + 14))) hx hb hts hown hK hw hk 4 (by decide) (hts _ hw_203) rfl dd_D_writeJoin_77 ?_
  refine lv_aload_n hx hb dd_D_writeJoin_80 rfl (lv_at hl 0 rfl) ?_
  refine xr_get_D (v := .ref (ad (k - 6))) hx hb hts hown hK hw hk 1 (by decide) (hts _ hw_199) rfl dd_D_writeJoin_81 ?_
  refine lv_aload_n hx hb dd_D_writeJoin_84 rfl (lv_at hl 0 rfl) ?_
  refine xr_get_D (v := .ref (ad (k + 14))) hx hb hts hown hK hw hk 4 (by decide) (hts _ hw_203) rfl dd_D_writeJoin_85 ?_
  refine xr_getN_F (v := .ref (ad (k + 15))) hx hb hts hown hK hw (xs_ok_D_sent hK.1 hk) 0 (by decide) (va_Nw.use rfl (hK.2.2.2.1 _ hn_39 rfl)) rfl dd_D_writeJoin_88 ?_
  refine lv_aload_n hx hb dd_D_writeJoin_91 rfl (lv_at hl 0 rfl) ?_
  refine xr_get_D (v := .ref (ad (k + 14))) hx hb hts hown hK hw hk 4 (by decide) (hts _ hw_203) rfl dd_D_writeJoin_92 ?_
  refine xr_getN_F (v := .int (xs_gI q9 (k + 14) 1)) hx hb hts hown hK hw (xs_ok_D_sent hK.1 hk) 1 (by decide) (va_Nw.use rfl (hK.2.2.2.1 _ hn_44 rfl)) rfl dd_D_writeJoin_95 ?_
  obtain ⟨q10, gq10, h⟩ := xs_ob h
  refine xq_i hK hw (va_runV (As := [.ref (ad (k + 15)), .int (xs_gI q9 (k + 14) 1)]) (rest := [.ref (ad (k + 14))]) ⟨hx, hb, hml, hown, hts⟩ (xc_M_codeOf l D ad ca ks (k - 6) (k + 15) (xs_gI q9 (k + 14) 1) q9 q10.1 q10.2 (xs_ok_D_root hK.1 hk) (xs_ok_F_bytes hK.1 (xs_ok_D_sent hK.1 hk)) gq10 _) ⟨callB_of 2 hts (xs_good hw_389) rfl rfl rfl (hts _ hw_4) (hts _ hw_386) yd_M_codeOf ⟨Nat.le_trans (by decide) hRf, Nat.le_trans (by decide) hRl⟩, (hts _ hw_387), (hts _ hw_388)⟩ ⟨xs_blind, xs_recv_M hK hw (xs_ok_D_root hK.1 hk), fun U h1 h2 => ⟨rfl, xs_pre hK hw h1 h2⟩⟩ rfl rfl hl.1 rfl (lv_room (Nat.le_of_ble_eq_true rfl)) dd_D_writeJoin_98 ⟨Nat.zero_le _, Nat.zero_le _⟩) (fun H locs hw => ?_)
  refine lv_iconst (v := 4) hx hb dd_D_writeJoin_101 rfl ?_
  obtain ⟨q11, gq11, h⟩ := xs_ob h
  refine xq_v hK hw (va_runV (As := [.int q10.1, .int 4]) (rest := []) ⟨hx, hb, hml, hown, hts⟩ (xc_F_append l D ad ca ks (k + 14) q10.1 4 q10.2 q11 (xs_ok_D_sent hK.1 hk) gq11 _) ⟨callB_of 2 hts (xs_good hw_379) rfl rfl rfl (hts _ hw_3) (hts _ hw_385) yd_F_append ⟨Nat.le_trans (by decide) hRf, Nat.le_trans (by decide) hRl⟩, (hts _ hw_377), (hts _ hw_378)⟩ ⟨xs_blind, xs_recv_F hK hw (xs_ok_D_sent hK.1 hk), fun U h1 h2 => ⟨rfl, xs_pre hK hw h1 h2⟩⟩ rfl rfl hl.1 rfl (lv_room (Nat.le_of_ble_eq_true rfl)) dd_D_writeJoin_102 ⟨Nat.zero_le _, Nat.zero_le _⟩) (fun H locs hw => ?_)
  exact hret h hw dd_D_writeJoin_105
set_option maxHeartbeats 4000000 in
set_option maxRecDepth 100000 in
theorem xc_F_copy (l : Launch) (D : va_G) (ad : Nat → Nat) (ca : Nat → ClassId) (ks : List Nat) (k : Nat) (a1 : Nat) (S : xs_T) (T : xs_T) (hk : xs_is ks k xs_cF) (ha1 : xs_is ks a1 xs_cF) (h : xf_F_copy k a1 S = some T) (sz : Nat) : Met l yy_F_copy ws_F_copy { frames := 1, cells := 0, slots := 0, locals := 67 } (va_Pc [.ref (ad k), .ref (ad a1)] (xs_Pre D ad ca ks S sz)) (va_Qv (fun _ : Unit => True) (fun _ t => va_P D xs_cl (xs_w ad ca ks T) t.heap) (xs_A ad ks sz)) 0 0 (xs_A ad ks sz) := by
  refine xm_v (by decide) (Nat.le_of_ble_eq_true rfl) ?_
  intro p e s m args below meth c R A Q ls hx hb hml hown hts hRf hRl hK hw hl hret
  have hl : lv_has ls 2 [(0, .ref (ad k)), (1, .ref (ad a1))] := hl
  unfold xf_F_copy at h
  refine lv_aload_n hx hb dd_F_copy_0 rfl (lv_at hl 1 rfl) ?_
  refine xr_get_F (v := .ref (ad (a1 + 1))) hx hb hts hown hK hw ha1 0 (by decide) (hts _ hw_37) rfl dd_F_copy_1 ?_
  refine lv_iconst (v := 0) hx hb dd_F_copy_4 rfl ?_
  refine lv_aload_n hx hb dd_F_copy_5 rfl (lv_at hl 0 rfl) ?_
  refine xr_get_F (v := .ref (ad (k + 1))) hx hb hts hown hK hw hk 0 (by decide) (hts _ hw_37) rfl dd_F_copy_6 ?_
  refine lv_iconst (v := 0) hx hb dd_F_copy_9 rfl ?_
  refine lv_bipush (v := 24) hx hb dd_F_copy_10 rfl ?_
  obtain ⟨S1, gS1, h⟩ := xs_ob h
  refine xr_cpy hx hb (hml.trans hl.1.symm) hown (hts _ hw_407) (hts _ hw_146) (hts _ hw_145) (hts _ hw_7) hK hw (xs_ok_F_bytes hK.1 ha1) (xs_ok_F_bytes hK.1 hk) gS1 (Nat.le_trans (by decide) hRf) (Nat.le_trans (Nat.le_of_ble_eq_true rfl) hRl) dd_F_copy_12 (fun H locs hw => ?_)
  refine lv_aload_n hx hb dd_F_copy_15 rfl (lv_at hl 0 rfl) ?_
  refine lv_aload_n hx hb dd_F_copy_16 rfl (lv_at hl 1 rfl) ?_
  refine xr_get_F (v := .int (xs_gI S1 a1 1)) hx hb hts hown hK hw ha1 1 (by decide) (hts _ hw_43) rfl dd_F_copy_17 ?_
  obtain ⟨S2, gS2, h⟩ := xs_ob h
  refine xr_putI_F hx hb hts hown hK hw hk 1 (by decide) (hts _ hw_43) rfl rfl (fun _ _ => rfl) gS2 dd_F_copy_20 (fun H locs hw => ?_)
  refine lv_aload_n hx hb dd_F_copy_23 rfl (lv_at hl 0 rfl) ?_
  refine lv_aload_n hx hb dd_F_copy_24 rfl (lv_at hl 1 rfl) ?_
  refine xr_get_F (v := .int (xs_gI S2 a1 2)) hx hb hts hown hK hw ha1 2 (by decide) (hts _ hw_48) rfl dd_F_copy_25 ?_
  obtain ⟨S3, gS3, h⟩ := xs_ob h
  refine xr_putI_F hx hb hts hown hK hw hk 2 (by decide) (hts _ hw_48) rfl rfl (fun _ _ => rfl) gS3 dd_F_copy_28 (fun H locs hw => ?_)
  exact hret h hw dd_F_copy_31
set_option maxHeartbeats 4000000 in
set_option maxRecDepth 100000 in
theorem xc_A_add (l : Launch) (D : va_G) (ad : Nat → Nat) (ca : Nat → ClassId) (ks : List Nat) (hf : ks = xs_all) (k : Nat) (a1 : Nat) (S : xs_T) (r : Int32) (T : xs_T) (hk : xs_is ks k xs_cA) (ha1 : xs_is ks a1 xs_cF) (h : xf_A_add k a1 S = some (r, T)) (sz : Nat) : Met l yy_A_add ws_A_add { frames := 2, cells := 0, slots := 0, locals := 88 } (va_Pc [.ref (ad k), .ref (ad a1)] (xs_Pre D ad ca ks S sz)) (va_Qi (fun r1 (_ : Unit) => r1 = r) (fun _ t => va_P D xs_cl (xs_w ad ca ks T) t.heap) (xs_A ad ks sz)) 0 0 (xs_A ad ks sz) := by
  refine xm_z (by decide) (Nat.le_of_ble_eq_true rfl) ?_
  intro p e s m args below meth c R A Q ls hx hb hml hown hts hRf hRl hK hw hl hret
  have hl : lv_has ls 2 [(0, .ref (ad k)), (1, .ref (ad a1))] := hl
  unfold xf_A_add at h
  refine lv_aload_n hx hb dd_A_add_0 rfl (lv_at hl 0 rfl) ?_
  refine xr_get_A (v := .int (xs_gI S k 2)) hx hb hts hown hK hw hk 2 (by decide) (hts _ hw_61) rfl dd_A_add_1 ?_
  refine lv_bipush (v := 12) hx hb dd_A_add_4 rfl ?_
  refine lv_icmp_ne hx hb dd_A_add_6 rfl (fun b1 => ?_) (fun b1 => ?_)
  · replace h := xs_n b1 h
    refine lv_aload_n hx hb dd_A_add_11 rfl (lv_at hl 0 rfl) ?_
    refine xr_get_A (v := .ref (ad (k + 1))) hx hb hts hown hK hw hk 0 (by decide) (hts _ hw_58) rfl dd_A_add_12 ?_
    refine lv_aload_n hx hb dd_A_add_15 rfl (lv_at hl 0 rfl) ?_
    refine xr_get_A (v := .int (xs_gI S k 2)) hx hb hts hown hK hw hk 2 (by decide) (hts _ hw_61) rfl dd_A_add_16 ?_
    obtain ⟨u2, gu2, h⟩ := xs_ob h
    have ku2 := xs_okU hf (by decide) gu2
    refine xr_aald_F hx hb hK hw (xs_ok_A_underWay hK.1 hk) gu2 dd_A_add_19 ?_
    refine lv_aload_n hx hb dd_A_add_20 rfl (lv_at hl 1 rfl) ?_
    obtain ⟨q3, gq3, h⟩ := xs_ob h
    refine xq_v hK hw (va_runV (As := [.ref (ad a1)]) (rest := []) ⟨hx, hb, hml, hown, hts⟩ (xc_F_copy l D ad ca ks u2 a1 S q3 ku2 ha1 gq3 _) ⟨callB_of 1 hts (xs_good hw_406) rfl rfl rfl (hts _ hw_3) (hts _ hw_403) yd_F_copy ⟨Nat.le_trans (by decide) hRf, Nat.le_trans (by decide) hRl⟩, (hts _ hw_404), (hts _ hw_405)⟩ ⟨xs_blind, xs_recv_F hK hw ku2, fun U h1 h2 => ⟨rfl, xs_pre hK hw h1 h2⟩⟩ rfl rfl hl.1 rfl (lv_room (Nat.le_of_ble_eq_true rfl)) dd_A_add_21 ⟨Nat.zero_le _, Nat.zero_le _⟩) (fun H locs hw => ?_)
    refine lv_aload_n hx hb dd_A_add_24 rfl (lv_at hl 0 rfl) ?_
    refine lv_dup hx hb dd_A_add_25 rfl ?_
    refine xr_get_A (v := .int (xs_gI q3 k 2)) hx hb hts hown hK hw hk 2 (by decide) (hts _ hw_61) rfl dd_A_add_26 ?_
    refine lv_iconst (v := 1) hx hb dd_A_add_29 rfl ?_
    refine lv_iadd hx hb dd_A_add_30 ?_
    obtain ⟨S4, gS4, h⟩ := xs_ob h
    refine xr_putI_A hx hb hts hown hK hw hk 2 (by decide) (hts _ hw_61) rfl rfl (fun _ _ => rfl) gS4 dd_A_add_31 (fun H locs hw => ?_)
    refine lv_iconst (v := 1) hx hb dd_A_add_34 rfl ?_
    exact hret h hw dd_A_add_35
  · replace h := xs_p b1 h
    refine lv_iconst (v := 0) hx hb dd_A_add_9 rfl ?_
    exact hret h hw dd_A_add_10
set_option maxHeartbeats 4000000 in
set_option maxRecDepth 100000 in
theorem xc_A_transmit (l : Launch) (D : va_G) (ad : Nat → Nat) (ca : Nat → ClassId) (ks : List Nat) (hf : ks = xs_all) (k : Nat) (a1 : Nat) (S : xs_T) (T : xs_T) (hk : xs_is ks k xs_cA) (ha1 : xs_is ks a1 xs_cF) (h : xf_A_transmit k a1 S = some T) (sz : Nat) : Met l yy_A_transmit ws_A_transmit { frames := 3, cells := 0, slots := 0, locals := 109 } (va_Pc [.ref (ad k), .ref (ad a1)] (xs_Pre D ad ca ks S sz)) (va_Qv (fun _ : Unit => True) (fun _ t => va_P D xs_cl (xs_w ad ca ks T) t.heap) (xs_A ad ks sz)) 0 0 (xs_A ad ks sz) := by
  refine xm_v (by decide) (Nat.le_of_ble_eq_true rfl) ?_
  intro p e s m args below meth c R A Q ls hx hb hml hown hts hRf hRl hK hw hl hret
  have hl : lv_has ls 2 [(0, .ref (ad k)), (1, .ref (ad a1))] := hl
  unfold xf_A_transmit at h
  refine lv_aload_n hx hb dd_A_transmit_0 rfl (lv_at hl 0 rfl) ?_
  refine xr_get_A (v := .ref (ad (k + 2))) hx hb hts hown hK hw hk 1 (by decide) (hts _ hw_60) rfl dd_A_transmit_1 ?_
  refine lv_aload_n hx hb dd_A_transmit_4 rfl (lv_at hl 0 rfl) ?_
  refine xr_get_A (v := .int (xs_gI S k 3)) hx hb hts hown hK hw hk 3 (by decide) (hts _ hw_63) rfl dd_A_transmit_5 ?_
  refine lv_bipush (v := 8) hx hb dd_A_transmit_8 rfl ?_
  refine lv_irem hx hb dd_A_transmit_10 (by decide) ?_
  refine lv_asI (v := xs_rem (xs_gI S k 3) 8) rfl ?_
  obtain ⟨u1, gu1, h⟩ := xs_ob h
  have ku1 := xs_okU hf (by decide) gu1
  refine xr_aald_F hx hb hK hw (xs_ok_A_remembered hK.1 hk) gu1 dd_A_transmit_11 ?_
  refine lv_aload_n hx hb dd_A_transmit_12 rfl (lv_at hl 1 rfl) ?_
  obtain ⟨q2, gq2, h⟩ := xs_ob h
  refine xq_v hK hw (va_runV (As := [.ref (ad a1)]) (rest := []) ⟨hx, hb, hml, hown, hts⟩ (xc_F_copy l D ad ca ks u1 a1 S q2 ku1 ha1 gq2 _) ⟨callB_of 1 hts (xs_good hw_406) rfl rfl rfl (hts _ hw_3) (hts _ hw_403) yd_F_copy ⟨Nat.le_trans (by decide) hRf, Nat.le_trans (by decide) hRl⟩, (hts _ hw_404), (hts _ hw_405)⟩ ⟨xs_blind, xs_recv_F hK hw ku1, fun U h1 h2 => ⟨rfl, xs_pre hK hw h1 h2⟩⟩ rfl rfl hl.1 rfl (lv_room (Nat.le_of_ble_eq_true rfl)) dd_A_transmit_13 ⟨Nat.zero_le _, Nat.zero_le _⟩) (fun H locs hw => ?_)
  refine lv_aload_n hx hb dd_A_transmit_16 rfl (lv_at hl 0 rfl) ?_
  refine lv_dup hx hb dd_A_transmit_17 rfl ?_
  refine xr_get_A (v := .int (xs_gI q2 k 3)) hx hb hts hown hK hw hk 3 (by decide) (hts _ hw_63) rfl dd_A_transmit_18 ?_
  refine lv_iconst (v := 1) hx hb dd_A_transmit_21 rfl ?_
  refine lv_iadd hx hb dd_A_transmit_22 ?_
  obtain ⟨S3, gS3, h⟩ := xs_ob h
  refine xr_putI_A hx hb hts hown hK hw hk 3 (by decide) (hts _ hw_63) rfl rfl (fun _ _ => rfl) gS3 dd_A_transmit_23 (fun H locs hw => ?_)
  refine lv_aload_n hx hb dd_A_transmit_26 rfl (lv_at hl 0 rfl) ?_
  refine lv_aload_n hx hb dd_A_transmit_27 rfl (lv_at hl 1 rfl) ?_
  obtain ⟨q4, gq4, h⟩ := xs_ob h
  refine xq_i hK hw (va_runV (As := [.ref (ad a1)]) (rest := []) ⟨hx, hb, hml, hown, hts⟩ (xc_A_add l D ad ca ks hf k a1 S3 q4.1 q4.2 hk ha1 gq4 _) ⟨callB_of 1 hts (xs_good hw_411) rfl rfl rfl (hts _ hw_2) (hts _ hw_408) yd_A_add ⟨Nat.le_trans (by decide) hRf, Nat.le_trans (by decide) hRl⟩, (hts _ hw_410), (hts _ hs_1)⟩ ⟨xs_blind, xs_recv_A hK hw hk, fun U h1 h2 => ⟨rfl, xs_pre hK hw h1 h2⟩⟩ rfl rfl hl.1 rfl (lv_room (Nat.le_of_ble_eq_true rfl)) dd_A_transmit_28 ⟨Nat.zero_le _, Nat.zero_le _⟩) (fun H locs hw => ?_)
  refine lv_pop hx hb dd_A_transmit_31 rfl ?_
  exact hret h hw dd_A_transmit_32
set_option maxHeartbeats 4000000 in
set_option maxRecDepth 100000 in
theorem xc_D_transmit (l : Launch) (D : va_G) (ad : Nat → Nat) (ca : Nat → ClassId) (ks : List Nat) (hf : ks = xs_all) (k : Nat) (a1 : Nat) (n2 : Int32) (S : xs_T) (T : xs_T) (hk : xs_is ks k xs_cD) (ha1 : xs_is ks a1 xs_cA) (h : xf_D_transmit k a1 n2 S = some T) (sz : Nat) : Met l yy_D_transmit ws_D_transmit { frames := 4, cells := 0, slots := 0, locals := 130 } (va_Pc [.ref (ad k), .ref (ad a1), .int n2] (xs_Pre D ad ca ks S sz)) (va_Qv (fun _ : Unit => True) (fun _ t => va_P D xs_cl (xs_w ad ca ks T) t.heap) (xs_A ad ks sz)) 0 0 (xs_A ad ks sz) := by
  refine xm_v (by decide) (Nat.le_of_ble_eq_true rfl) ?_
  intro p e s m args below meth c R A Q ls hx hb hml hown hts hRf hRl hK hw hl hret
  have hl : lv_has ls 3 [(0, .ref (ad k)), (1, .ref (ad a1)), (2, .int n2)] := hl
  unfold xf_D_transmit at h
  refine lv_aload_n hx hb dd_D_transmit_0 rfl (lv_at hl 1 rfl) ?_
  refine lv_aload_n hx hb dd_D_transmit_1 rfl (lv_at hl 0 rfl) ?_
  refine xr_get_D (v := .ref (ad (k + 14))) hx hb hts hown hK hw hk 4 (by decide) (hts _ hw_203) rfl dd_D_transmit_2 ?_
  obtain ⟨q1, gq1, h⟩ := xs_ob h
  refine xq_v hK hw (va_runV (As := [.ref (ad (k + 14))]) (rest := []) ⟨hx, hb, hml, hown, hts⟩ (xc_A_transmit l D ad ca ks hf a1 (k + 14) S q1 ha1 (xs_ok_D_sent hK.1 hk) gq1 _) ⟨callB_of 1 hts (xs_good hw_402) rfl rfl rfl (hts _ hw_2) (hts _ hw_399) yd_A_transmit ⟨Nat.le_trans (by decide) hRf, Nat.le_trans (by decide) hRl⟩, (hts _ hw_400), (hts _ hw_401)⟩ ⟨xs_blind, xs_recv_A hK hw ha1, fun U h1 h2 => ⟨rfl, xs_pre hK hw h1 h2⟩⟩ rfl rfl hl.1 rfl (lv_room (Nat.le_of_ble_eq_true rfl)) dd_D_transmit_5 ⟨Nat.zero_le _, Nat.zero_le _⟩) (fun H locs hw => ?_)
  refine lv_aload_n hx hb dd_D_transmit_8 rfl (lv_at hl 0 rfl) ?_
  refine lv_dup hx hb dd_D_transmit_9 rfl ?_
  refine xr_get_D (v := .int (xs_gI q1 k 13)) hx hb hts hown hK hw hk 13 (by decide) (hts _ hw_216) rfl dd_D_transmit_10 ?_
  refine lv_iconst (v := 1) hx hb dd_D_transmit_13 rfl ?_
  refine lv_iadd hx hb dd_D_transmit_14 ?_
  obtain ⟨S2, gS2, h⟩ := xs_ob h
  refine xr_putI_D hx hb hts hown hK hw hk 13 (by decide) (hts _ hw_216) rfl rfl (fun _ _ => rfl) gS2 dd_D_transmit_15 (fun H locs hw => ?_)
  refine lv_aload_n hx hb dd_D_transmit_18 rfl (lv_at hl 0 rfl) ?_
  refine lv_iload_n hx hb dd_D_transmit_19 rfl (lv_at hl 2 rfl) ?_
  obtain ⟨S3, gS3, h⟩ := xs_ob h
  refine xr_putI_D hx hb hts hown hK hw hk 12 (by decide) (hts _ hw_215) rfl rfl (fun _ _ => rfl) gS3 dd_D_transmit_20 (fun H locs hw => ?_)
  refine lv_aload_n hx hb dd_D_transmit_23 rfl (lv_at hl 0 rfl) ?_
  refine lv_iconst (v := 1) hx hb dd_D_transmit_24 rfl ?_
  obtain ⟨S4, gS4, h⟩ := xs_ob h
  refine xr_putZ_D hx hb hts hown hK hw hk 11 (by decide) (hts _ hw_213) rfl rfl (fun _ _ => rfl) gS4 dd_D_transmit_25 (fun H locs hw => ?_)
  exact hret h hw dd_D_transmit_28
set_option maxHeartbeats 4000000 in
set_option maxRecDepth 100000 in
theorem xc_W_join (l : Launch) (D : va_G) (ad : Nat → Nat) (ca : Nat → ClassId) (ks : List Nat) (hf : ks = xs_all) (k : Nat) (n1 : Int32) (S : xs_T) (r : Int32) (T : xs_T) (hk : xs_is ks k xs_cW) (h : xf_W_join k n1 S = some (r, T)) (sz : Nat) : Met l yy_W_join ws_W_join { frames := 5, cells := 0, slots := 0, locals := 152 } (va_Pc [.ref (ad k), .int n1] (xs_Pre D ad ca ks S sz)) (va_Qi (fun r1 (_ : Unit) => r1 = r) (fun _ t => va_P D xs_cl (xs_w ad ca ks T) t.heap) (xs_A ad ks sz)) 0 0 (xs_A ad ks sz) := by
  refine xm_i (by decide) (Nat.le_of_ble_eq_true rfl) ?_
  intro p e s m args below meth c R A Q ls hx hb hml hown hts hRf hRl hK hw hl hret
  have hl : lv_has ls 2 [(0, .ref (ad k)), (1, .int n1)] := hl
  unfold xf_W_join at h
  refine lv_iload_n hx hb dd_W_join_0 rfl (lv_at hl 1 rfl) ?_
  obtain ⟨q1, gq1, h⟩ := xs_ob h
  refine xq_i hK hw (va_runS (As := [.int n1]) (rest := []) ⟨hx, hb, hml, hown, hts⟩ (xc_W_isDevice l D ad ca ks n1 S q1 gq1 _) ⟨callB_of 1 hts (xs_good hw_366) rfl rfl rfl (hts _ hw_1) (hts _ hw_364) yd_W_isDevice ⟨Nat.le_trans (by decide) hRf, Nat.le_trans (by decide) hRl⟩, (hts _ hw_365)⟩ ⟨xs_blind, fun U h1 h2 => ⟨rfl, xs_pre hK hw h1 h2⟩⟩ rfl rfl hl.1 rfl (lv_room (Nat.le_of_ble_eq_true rfl)) dd_W_join_1 ⟨Nat.zero_le _, Nat.zero_le _⟩) (fun H locs hw => ?_)
  refine lv_if_eq hx hb dd_W_join_4 rfl (fun b2 => ?_) (fun b2 => ?_)
  · replace h := xs_p b2 h
    refine lv_iconst (v := (-1)) hx hb dd_W_join_33 rfl ?_
    exact hret h hw dd_W_join_34
  · replace h := xs_n b2 h
    refine lv_aload_n hx hb dd_W_join_7 rfl (lv_at hl 0 rfl) ?_
    refine xr_get_W (v := .ref (ad (k + 44))) hx hb hts hown hK hw hk 1 (by decide) (hts _ hw_348) rfl dd_W_join_8 ?_
    refine lv_iload_n hx hb dd_W_join_11 rfl (lv_at hl 1 rfl) ?_
    obtain ⟨u3, gu3, h⟩ := xs_ob h
    have ku3 := xs_okU hf (by decide) gu3
    refine xr_aald_D hx hb hK hw (xs_ok_W_devices hK.1 hk) gu3 dd_W_join_12 ?_
    refine xr_getN_D (v := .int (xs_gI S u3 11)) hx hb hts hown hK hw ku3 11 (by decide) (va_Nw.use rfl (hK.2.2.2.1 _ hn_214 rfl)) rfl dd_W_join_13 ?_
    refine lv_if_ne hx hb dd_W_join_16 rfl (fun b4 => ?_) (fun b4 => ?_)
    · replace h := xs_n b4 h
      refine lv_iconst (v := (-1)) hx hb dd_W_join_33 rfl ?_
      exact hret h hw dd_W_join_34
    · replace h := xs_p b4 h
      refine lv_aload_n hx hb dd_W_join_19 rfl (lv_at hl 0 rfl) ?_
      refine xr_get_W (v := .ref (ad (k + 44))) hx hb hts hown hK hw hk 1 (by decide) (hts _ hw_348) rfl dd_W_join_20 ?_
      refine lv_iload_n hx hb dd_W_join_23 rfl (lv_at hl 1 rfl) ?_
      obtain ⟨u5, gu5, h⟩ := xs_ob h
      have ku5 := xs_okU hf (by decide) gu5
      refine xr_aald_D hx hb hK hw (xs_ok_W_devices hK.1 hk) gu5 dd_W_join_24 ?_
      refine xr_getN_D (v := .int (xs_gI S u5 7)) hx hb hts hown hK hw ku5 7 (by decide) (va_Nw.use rfl (hK.2.2.2.1 _ hn_208 rfl)) rfl dd_W_join_25 ?_
      refine lv_ldc (v := 65535) hx hb hown (hts _ hw_367) dd_W_join_28 ?_
      refine lv_icmp_lt hx hb dd_W_join_30 rfl (fun b6 => ?_) (fun b6 => ?_)
      · replace h := xs_p b6 h
        refine lv_aload_n hx hb dd_W_join_35 rfl (lv_at hl 0 rfl) ?_
        refine xr_get_W (v := .ref (ad (k + 44))) hx hb hts hown hK hw hk 1 (by decide) (hts _ hw_348) rfl dd_W_join_36 ?_
        refine lv_iload_n hx hb dd_W_join_39 rfl (lv_at hl 1 rfl) ?_
        obtain ⟨u7, gu7, h⟩ := xs_ob h
        have ku7 := xs_okU hf (by decide) gu7
        refine xr_aald_D hx hb hK hw (xs_ok_W_devices hK.1 hk) gu7 dd_W_join_40 ?_
        obtain ⟨q8, gq8, h⟩ := xs_ob h
        refine xq_v hK hw (va_runV (As := []) (rest := []) ⟨hx, hb, hml, hown, hts⟩ (xc_D_writeJoin l D ad ca ks u7 S q8 ku7 gq8 _) ⟨callB_of 0 hts (xs_good hw_371) rfl rfl rfl (hts _ hw_8) (hts _ hw_368) yd_D_writeJoin ⟨Nat.le_trans (by decide) hRf, Nat.le_trans (by decide) hRl⟩, (hts _ hw_369), (hts _ hw_370)⟩ ⟨xs_blind, xs_recv_D hK hw ku7, fun U h1 h2 => ⟨rfl, xs_pre hK hw h1 h2⟩⟩ rfl rfl hl.1 rfl (lv_room (Nat.le_of_ble_eq_true rfl)) dd_W_join_41 ⟨Nat.zero_le _, Nat.zero_le _⟩) (fun H locs hw => ?_)
        refine lv_aload_n hx hb dd_W_join_44 rfl (lv_at hl 0 rfl) ?_
        refine xr_get_W (v := .ref (ad (k + 44))) hx hb hts hown hK hw hk 1 (by decide) (hts _ hw_348) rfl dd_W_join_45 ?_
        refine lv_iload_n hx hb dd_W_join_48 rfl (lv_at hl 1 rfl) ?_
        obtain ⟨u9, gu9, h⟩ := xs_ob h
        have ku9 := xs_okU hf (by decide) gu9
        refine xr_aald_D hx hb hK hw (xs_ok_W_devices hK.1 hk) gu9 dd_W_join_49 ?_
        refine lv_aload_n hx hb dd_W_join_50 rfl (lv_at hl 0 rfl) ?_
        refine xr_get_W (v := .ref (ad (k + 1))) hx hb hts hown hK hw hk 0 (by decide) (hts _ hw_347) rfl dd_W_join_51 ?_
        refine lv_aload_n hx hb dd_W_join_54 rfl (lv_at hl 0 rfl) ?_
        refine xr_get_W (v := .int (xs_gI q8 k 3)) hx hb hts hown hK hw hk 3 (by decide) (hts _ hw_350) rfl dd_W_join_55 ?_
        obtain ⟨q10, gq10, h⟩ := xs_ob h
        refine xq_v hK hw (va_runV (As := [.ref (ad (k + 1)), .int (xs_gI q8 k 3)]) (rest := []) ⟨hx, hb, hml, hown, hts⟩ (xc_D_transmit l D ad ca ks hf u9 (k + 1) (xs_gI q8 k 3) q8 q10 ku9 (xs_ok_W_air hK.1 hk) gq10 _) ⟨callB_of 2 hts (xs_good hw_398) rfl rfl rfl (hts _ hw_8) (hts _ hw_395) yd_D_transmit ⟨Nat.le_trans (by decide) hRf, Nat.le_trans (by decide) hRl⟩, (hts _ hw_396), (hts _ hw_397)⟩ ⟨xs_blind, xs_recv_D hK hw ku9, fun U h1 h2 => ⟨rfl, xs_pre hK hw h1 h2⟩⟩ rfl rfl hl.1 rfl (lv_room (Nat.le_of_ble_eq_true rfl)) dd_W_join_58 ⟨Nat.zero_le _, Nat.zero_le _⟩) (fun H locs hw => ?_)
        refine lv_aload_n hx hb dd_W_join_61 rfl (lv_at hl 0 rfl) ?_
        refine xr_get_W (v := .ref (ad (k + 44))) hx hb hts hown hK hw hk 1 (by decide) (hts _ hw_348) rfl dd_W_join_62 ?_
        refine lv_iload_n hx hb dd_W_join_65 rfl (lv_at hl 1 rfl) ?_
        obtain ⟨u11, gu11, h⟩ := xs_ob h
        have ku11 := xs_okU hf (by decide) gu11
        refine xr_aald_D hx hb hK hw (xs_ok_W_devices hK.1 hk) gu11 dd_W_join_66 ?_
        refine xr_getN_D (v := .int (xs_gI q10 u11 7)) hx hb hts hown hK hw ku11 7 (by decide) (va_Nw.use rfl (hK.2.2.2.1 _ hn_208 rfl)) rfl dd_W_join_67 ?_
        exact hret h hw dd_W_join_70
      · replace h := xs_n b6 h
        refine lv_iconst (v := (-1)) hx hb dd_W_join_33 rfl ?_
        exact hret h hw dd_W_join_34
set_option maxHeartbeats 4000000 in
set_option maxRecDepth 100000 in
theorem xc_D_isFree (l : Launch) (D : va_G) (ad : Nat → Nat) (ca : Nat → ClassId) (ks : List Nat) (k : Nat) (S : xs_T) (r : Int32) (hk : xs_is ks k xs_cD) (h : xf_D_isFree k S = some r) (sz : Nat) : Met l yy_D_isFree ws_D_isFree { frames := 0, cells := 0, slots := 0, locals := 0 } (va_Pc [.ref (ad k)] (xs_Pre D ad ca ks S sz)) (va_Qi (fun r1 (_ : Unit) => r1 = r) (fun _ t => va_P D xs_cl (xs_w ad ca ks S) t.heap) (xs_A ad ks sz)) 0 0 (xs_A ad ks sz) := by
  refine xm_zr (by decide) (Nat.le_of_ble_eq_true rfl) ?_
  intro p e s m args below meth c R A Q ls hx hb hml hown hts hRf hRl hK hw hl hret
  have hl : lv_has ls 1 [(0, .ref (ad k))] := hl
  unfold xf_D_isFree at h
  refine lv_aload_n hx hb dd_D_isFree_0 rfl (lv_at hl 0 rfl) ?_
  refine xr_get_D (v := .int (xs_gI S k 6)) hx hb hts hown hK hw hk 6 (by decide) (hts _ hw_205) rfl dd_D_isFree_1 ?_
  refine lv_iconst (v := 2) hx hb dd_D_isFree_4 rfl ?_
  refine lv_icmp_ne hx hb dd_D_isFree_5 rfl (fun b1 => ?_) (fun b1 => ?_)
  · replace h := xs_n b1 h
    refine lv_iconst (v := 0) hx hb dd_D_isFree_19 rfl ?_
    exact hret h hw dd_D_isFree_20
  · replace h := xs_p b1 h
    refine lv_aload_n hx hb dd_D_isFree_8 rfl (lv_at hl 0 rfl) ?_
    refine xr_get_D (v := .int (xs_gI S k 11)) hx hb hts hown hK hw hk 11 (by decide) (hts _ hw_213) rfl dd_D_isFree_9 ?_
    refine lv_if_ne hx hb dd_D_isFree_12 rfl (fun b2 => ?_) (fun b2 => ?_)
    · replace h := xs_n b2 h
      refine lv_iconst (v := 0) hx hb dd_D_isFree_19 rfl ?_
      exact hret h hw dd_D_isFree_20
    · replace h := xs_p b2 h
      refine lv_iconst (v := 1) hx hb dd_D_isFree_15 rfl ?_
      refine lv_goto hx hb dd_D_isFree_16 rfl ?_
      exact hret h hw dd_D_isFree_20
set_option maxHeartbeats 4000000 in
set_option maxRecDepth 100000 in
theorem xc_S_begin (l : Launch) (D : va_G) (ad : Nat → Nat) (ca : Nat → ClassId) (ks : List Nat) (k : Nat) (a1 : Nat) (n2 : Int32) (n3 : Int32) (n4 : Int32) (n5 : Int32) (S : xs_T) (T : xs_T) (hk : xs_is ks k xs_cS) (ha1 : xs_is ks a1 xs_cF) (h : xf_S_begin k a1 n2 n3 n4 n5 S = some T) (sz : Nat) : Met l yy_S_begin ws_S_begin { frames := 3, cells := 0, slots := 0, locals := 68 } (va_Pc [.ref (ad k), .ref (ad a1), .int n2, .int n3, .int n4, .int n5] (xs_Pre D ad ca ks S sz)) (va_Qv (fun _ : Unit => True) (fun _ t => va_P D xs_cl (xs_w ad ca ks T) t.heap) (xs_A ad ks sz)) 0 0 (xs_A ad ks sz) := by
  refine xm_v (by decide) (Nat.le_of_ble_eq_true rfl) ?_
  intro p e s m args below meth c R A Q ls hx hb hml hown hts hRf hRl hK hw hl hret
  have hl : lv_has ls 6 [(0, .ref (ad k)), (1, .ref (ad a1)), (2, .int n2), (3, .int n3), (4, .int n4), (5, .int n5)] := hl
  unfold xf_S_begin at h
  refine lv_aload_n hx hb dd_S_begin_0 rfl (lv_at hl 1 rfl) ?_
  refine lv_iload_n hx hb dd_S_begin_1 rfl (lv_at hl 2 rfl) ?_
  refine lv_iload_n hx hb dd_S_begin_2 rfl (lv_at hl 3 rfl) ?_
  obtain ⟨q1, gq1, h⟩ := xs_ob h
  refine xq_v hK hw (va_runV (As := [.int n2, .int n3]) (rest := []) ⟨hx, hb, hml, hown, hts⟩ (xc_F_begin l D ad ca ks a1 n2 n3 S q1 ha1 gq1 _) ⟨callB_of 2 hts (xs_good hw_375) rfl rfl rfl (hts _ hw_3) (hts _ hw_428) yd_F_begin ⟨Nat.le_trans (by decide) hRf, Nat.le_trans (by decide) hRl⟩, (hts _ hw_373), (hts _ hw_374)⟩ ⟨xs_blind, xs_recv_F hK hw ha1, fun U h1 h2 => ⟨rfl, xs_pre hK hw h1 h2⟩⟩ rfl rfl hl.1 rfl (lv_room (Nat.le_of_ble_eq_true rfl)) dd_S_begin_3 ⟨Nat.zero_le _, Nat.zero_le _⟩) (fun H locs hw => ?_)
  refine lv_aload_n hx hb dd_S_begin_6 rfl (lv_at hl 1 rfl) ?_
  refine lv_aload_n hx hb dd_S_begin_7 rfl (lv_at hl 0 rfl) ?_
  refine xr_get_S (v := .int (xs_gI q1 k 4)) hx hb hts hown hK hw hk 4 (by decide) (hts _ hw_166) rfl dd_S_begin_8 ?_
  refine lv_iconst (v := 4) hx hb dd_S_begin_11 rfl ?_
  obtain ⟨q2, gq2, h⟩ := xs_ob h
  refine xq_v hK hw (va_runV (As := [.int (xs_gI q1 k 4), .int 4]) (rest := []) ⟨hx, hb, hml, hown, hts⟩ (xc_F_append l D ad ca ks a1 (xs_gI q1 k 4) 4 q1 q2 ha1 gq2 _) ⟨callB_of 2 hts (xs_good hw_379) rfl rfl rfl (hts _ hw_3) (hts _ hw_429) yd_F_append ⟨Nat.le_trans (by decide) hRf, Nat.le_trans (by decide) hRl⟩, (hts _ hw_377), (hts _ hw_378)⟩ ⟨xs_blind, xs_recv_F hK hw ha1, fun U h1 h2 => ⟨rfl, xs_pre hK hw h1 h2⟩⟩ rfl rfl hl.1 rfl (lv_room (Nat.le_of_ble_eq_true rfl)) dd_S_begin_12 ⟨Nat.zero_le _, Nat.zero_le _⟩) (fun H locs hw => ?_)
  refine lv_aload_n hx hb dd_S_begin_15 rfl (lv_at hl 1 rfl) ?_
  refine lv_iload hx hb dd_S_begin_16 (lv_at hl 4 rfl) ?_
  refine lv_iconst (v := 1) hx hb dd_S_begin_18 rfl ?_
  obtain ⟨q3, gq3, h⟩ := xs_ob h
  refine xq_v hK hw (va_runV (As := [.int n4, .int 1]) (rest := []) ⟨hx, hb, hml, hown, hts⟩ (xc_F_append l D ad ca ks a1 n4 1 q2 q3 ha1 gq3 _) ⟨callB_of 2 hts (xs_good hw_379) rfl rfl rfl (hts _ hw_3) (hts _ hw_429) yd_F_append ⟨Nat.le_trans (by decide) hRf, Nat.le_trans (by decide) hRl⟩, (hts _ hw_377), (hts _ hw_378)⟩ ⟨xs_blind, xs_recv_F hK hw ha1, fun U h1 h2 => ⟨rfl, xs_pre hK hw h1 h2⟩⟩ rfl rfl hl.1 rfl (lv_room (Nat.le_of_ble_eq_true rfl)) dd_S_begin_19 ⟨Nat.zero_le _, Nat.zero_le _⟩) (fun H locs hw => ?_)
  refine lv_aload_n hx hb dd_S_begin_22 rfl (lv_at hl 1 rfl) ?_
  refine lv_iload hx hb dd_S_begin_23 (lv_at hl 5 rfl) ?_
  refine lv_iconst (v := 2) hx hb dd_S_begin_25 rfl ?_
  obtain ⟨q4, gq4, h⟩ := xs_ob h
  refine xq_v hK hw (va_runV (As := [.int n5, .int 2]) (rest := []) ⟨hx, hb, hml, hown, hts⟩ (xc_F_append l D ad ca ks a1 n5 2 q3 q4 ha1 gq4 _) ⟨callB_of 2 hts (xs_good hw_379) rfl rfl rfl (hts _ hw_3) (hts _ hw_429) yd_F_append ⟨Nat.le_trans (by decide) hRf, Nat.le_trans (by decide) hRl⟩, (hts _ hw_377), (hts _ hw_378)⟩ ⟨xs_blind, xs_recv_F hK hw ha1, fun U h1 h2 => ⟨rfl, xs_pre hK hw h1 h2⟩⟩ rfl rfl hl.1 rfl (lv_room (Nat.le_of_ble_eq_true rfl)) dd_S_begin_26 ⟨Nat.zero_le _, Nat.zero_le _⟩) (fun H locs hw => ?_)
  exact hret h hw dd_S_begin_29
set_option maxHeartbeats 4000000 in
set_option maxRecDepth 100000 in
theorem xc_S_layFirstBlock (l : Launch) (D : va_G) (ad : Nat → Nat) (ca : Nat → ClassId) (ks : List Nat) (k : Nat) (n1 : Int32) (n2 : Int32) (n3 : Int32) (n4 : Int32) (S : xs_T) (T : xs_T) (hk : xs_is ks k xs_cS) (h : xf_S_layFirstBlock k n1 n2 n3 n4 S = some T) (sz : Nat) : Met l yy_S_layFirstBlock ws_S_layFirstBlock { frames := 1, cells := 0, slots := 0, locals := 24 } (va_Pc [.ref (ad k), .int n1, .int n2, .int n3, .int n4] (xs_Pre D ad ca ks S sz)) (va_Qv (fun _ : Unit => True) (fun _ t => va_P D xs_cl (xs_w ad ca ks T) t.heap) (xs_A ad ks sz)) 0 0 (xs_A ad ks sz) := by
  refine xm_v (by decide) (Nat.le_of_ble_eq_true rfl) ?_
  intro p e s m args below meth c R A Q ls hx hb hml hown hts hRf hRl hK hw hl hret
  have hl : lv_has ls 5 [(0, .ref (ad k)), (1, .int n1), (2, .int n2), (3, .int n3), (4, .int n4)] := hl
  unfold xf_S_layFirstBlock at h
  refine lv_aload_n hx hb dd_S_layFirstBlock_0 rfl (lv_at hl 0 rfl) ?_
  refine xr_get_S (v := .ref (ad (k + 9))) hx hb hts hown hK hw hk 2 (by decide) (hts _ hw_164) rfl dd_S_layFirstBlock_1 ?_
  refine lv_iconst (v := 0) hx hb dd_S_layFirstBlock_4 rfl ?_
  obtain ⟨q1, gq1, h⟩ := xs_ob h
  refine xq_v hK hw (va_runS (As := [.ref (ad (k + 9)), .int 0]) (rest := []) ⟨hx, hb, hml, hown, hts⟩ (xc_J_fill l D ad ca ks (k + 9) 0 S q1 (xs_ok_S_row hK.1 hk) gq1 _) ⟨callB_of 2 hts (xs_good hw_130) rfl rfl rfl (hts _ hw_6) (hts _ hw_442) yd_J_fill ⟨Nat.le_trans (by decide) hRf, Nat.le_trans (by decide) hRl⟩, (hts _ hw_129)⟩ ⟨xs_blind, fun U h1 h2 => ⟨rfl, xs_pre hK hw h1 h2⟩⟩ rfl rfl hl.1 rfl (lv_room (Nat.le_of_ble_eq_true rfl)) dd_S_layFirstBlock_5 ⟨Nat.zero_le _, Nat.zero_le _⟩) (fun H locs hw => ?_)
  refine lv_aload_n hx hb dd_S_layFirstBlock_8 rfl (lv_at hl 0 rfl) ?_
  refine xr_get_S (v := .ref (ad (k + 9))) hx hb hts hown hK hw hk 2 (by decide) (hts _ hw_164) rfl dd_S_layFirstBlock_9 ?_
  refine lv_iconst (v := 0) hx hb dd_S_layFirstBlock_12 rfl ?_
  refine lv_iload_n hx hb dd_S_layFirstBlock_13 rfl (lv_at hl 1 rfl) ?_
  obtain ⟨S2, gS2, h⟩ := xs_ob h
  refine xr_iast hx hb hK hw (xs_ok_S_row hK.1 hk) gS2 dd_S_layFirstBlock_14 (fun H locs hw => ?_)
  refine lv_aload_n hx hb dd_S_layFirstBlock_15 rfl (lv_at hl 0 rfl) ?_
  refine xr_get_S (v := .ref (ad (k + 9))) hx hb hts hown hK hw hk 2 (by decide) (hts _ hw_164) rfl dd_S_layFirstBlock_16 ?_
  refine lv_iconst (v := 5) hx hb dd_S_layFirstBlock_19 rfl ?_
  refine lv_iload_n hx hb dd_S_layFirstBlock_20 rfl (lv_at hl 2 rfl) ?_
  obtain ⟨S3, gS3, h⟩ := xs_ob h
  refine xr_iast hx hb hK hw (xs_ok_S_row hK.1 hk) gS3 dd_S_layFirstBlock_21 (fun H locs hw => ?_)
  refine lv_aload_n hx hb dd_S_layFirstBlock_22 rfl (lv_at hl 0 rfl) ?_
  refine xr_get_S (v := .ref (ad (k + 9))) hx hb hts hown hK hw hk 2 (by decide) (hts _ hw_164) rfl dd_S_layFirstBlock_23 ?_
  refine lv_bipush (v := 6) hx hb dd_S_layFirstBlock_26 rfl ?_
  refine lv_aload_n hx hb dd_S_layFirstBlock_28 rfl (lv_at hl 0 rfl) ?_
  refine xr_get_S (v := .int (xs_gI S3 k 4)) hx hb hts hown hK hw hk 4 (by decide) (hts _ hw_166) rfl dd_S_layFirstBlock_29 ?_
  refine lv_iconst (v := 4) hx hb dd_S_layFirstBlock_32 rfl ?_
  obtain ⟨q4, gq4, h⟩ := xs_ob h
  refine xq_v hK hw (va_runSN (As := [.ref (ad (k + 9)), .int 6, .int (xs_gI S3 k 4), .int 4]) (rest := []) ⟨hx, hb, hml, hown, hts⟩ (xc_W_putNumber l D ad ca ks (k + 9) 6 (xs_gI S3 k 4) 4 S3 q4 (xs_ok_S_row hK.1 hk) gq4 _) ⟨va_cnB 4 hts (xs_good hw_140) rfl rfl rfl (hK.2.2.2.1 _ hn_443 rfl) (hts _ hw_1) yd_W_putNumber ⟨Nat.le_trans (by decide) hRf, Nat.le_trans (by decide) hRl⟩, (hts _ hw_139), trivial⟩ ⟨xs_blind, fun U h1 h2 => ⟨rfl, xs_pre hK hw h1 h2⟩⟩ rfl rfl hl.1 rfl (lv_room (Nat.le_of_ble_eq_true rfl)) dd_S_layFirstBlock_33 ⟨Nat.zero_le _, Nat.zero_le _⟩) (fun H locs hw => ?_)
  refine lv_aload_n hx hb dd_S_layFirstBlock_36 rfl (lv_at hl 0 rfl) ?_
  refine xr_get_S (v := .ref (ad (k + 9))) hx hb hts hown hK hw hk 2 (by decide) (hts _ hw_164) rfl dd_S_layFirstBlock_37 ?_
  refine lv_bipush (v := 10) hx hb dd_S_layFirstBlock_40 rfl ?_
  refine lv_iload_n hx hb dd_S_layFirstBlock_42 rfl (lv_at hl 3 rfl) ?_
  refine lv_iconst (v := 4) hx hb dd_S_layFirstBlock_43 rfl ?_
  obtain ⟨q5, gq5, h⟩ := xs_ob h
  refine xq_v hK hw (va_runSN (As := [.ref (ad (k + 9)), .int 10, .int n3, .int 4]) (rest := []) ⟨hx, hb, hml, hown, hts⟩ (xc_W_putNumber l D ad ca ks (k + 9) 10 n3 4 q4 q5 (xs_ok_S_row hK.1 hk) gq5 _) ⟨va_cnB 4 hts (xs_good hw_140) rfl rfl rfl (hK.2.2.2.1 _ hn_443 rfl) (hts _ hw_1) yd_W_putNumber ⟨Nat.le_trans (by decide) hRf, Nat.le_trans (by decide) hRl⟩, (hts _ hw_139), trivial⟩ ⟨xs_blind, fun U h1 h2 => ⟨rfl, xs_pre hK hw h1 h2⟩⟩ rfl rfl hl.1 rfl (lv_room (Nat.le_of_ble_eq_true rfl)) dd_S_layFirstBlock_44 ⟨Nat.zero_le _, Nat.zero_le _⟩) (fun H locs hw => ?_)
  refine lv_aload_n hx hb dd_S_layFirstBlock_47 rfl (lv_at hl 0 rfl) ?_
  refine xr_get_S (v := .ref (ad (k + 9))) hx hb hts hown hK hw hk 2 (by decide) (hts _ hw_164) rfl dd_S_layFirstBlock_48 ?_
  refine lv_bipush (v := 15) hx hb dd_S_layFirstBlock_51 rfl ?_
  refine lv_iload hx hb dd_S_layFirstBlock_53 (lv_at hl 4 rfl) ?_
  obtain ⟨S6, gS6, h⟩ := xs_ob h
  refine xr_iast hx hb hK hw (xs_ok_S_row hK.1 hk) gS6 dd_S_layFirstBlock_55 (fun H locs hw => ?_)
  exact hret h hw dd_S_layFirstBlock_56
set_option maxHeartbeats 4000000 in
set_option maxRecDepth 100000 in
theorem xc_S_stream (l : Launch) (D : va_G) (ad : Nat → Nat) (ca : Nat → ClassId) (ks : List Nat) (k : Nat) (n1 : Int32) (n2 : Int32) (S : xs_T) (r : Int64) (T : xs_T) (hk : xs_is ks k xs_cS) (h : xf_S_stream k n1 n2 S = some (r, T)) (sz : Nat) : Met l yy_S_stream ws_S_stream { frames := 2, cells := 0, slots := 0, locals := 56 } (va_Pc [.ref (ad k), .int n1, .int n2] (xs_Pre D ad ca ks S sz)) (va_Ql (fun r1 (_ : Unit) => r1 = r) (fun _ t => va_P D xs_cl (xs_w ad ca ks T) t.heap) (xs_A ad ks sz)) 0 0 (xs_A ad ks sz) := by
  refine xm_l (by decide) (Nat.le_of_ble_eq_true rfl) ?_
  intro p e s m args below meth c R A Q ls hx hb hml hown hts hRf hRl hK hw hl hret
  have hl : lv_has ls 5 [(0, .ref (ad k)), (1, .int n1), (2, .int n2)] := hl
  unfold xf_S_stream at h
  refine lv_aload_n hx hb dd_S_stream_0 rfl (lv_at hl 0 rfl) ?_
  refine lv_iconst (v := 1) hx hb dd_S_stream_1 rfl ?_
  refine lv_iload_n hx hb dd_S_stream_2 rfl (lv_at hl 1 rfl) ?_
  refine lv_iload_n hx hb dd_S_stream_3 rfl (lv_at hl 2 rfl) ?_
  refine lv_iconst (v := 1) hx hb dd_S_stream_4 rfl ?_
  obtain ⟨q1, gq1, h⟩ := xs_ob h
  refine xq_v hK hw (va_runV (As := [.int 1, .int n1, .int n2, .int 1]) (rest := []) ⟨hx, hb, hml, hown, hts⟩ (xc_S_layFirstBlock l D ad ca ks k 1 n1 n2 1 S q1 hk gq1 _) ⟨callB_of 4 hts (xs_good hw_441) rfl rfl rfl (hts _ hw_9) (hts _ hw_438) yd_S_layFirstBlock ⟨Nat.le_trans (by decide) hRf, Nat.le_trans (by decide) hRl⟩, (hts _ hw_440), (hts _ hs_3)⟩ ⟨xs_blind, xs_recv_S hK hw hk, fun U h1 h2 => ⟨rfl, xs_pre hK hw h1 h2⟩⟩ rfl rfl hl.1 rfl (lv_room (Nat.le_of_ble_eq_true rfl)) dd_S_stream_5 ⟨Nat.zero_le _, Nat.zero_le _⟩) (fun H locs hw => ?_)
  refine lv_aload_n hx hb dd_S_stream_8 rfl (lv_at hl 0 rfl) ?_
  refine xr_get_S (v := .ref (ad (k + 7))) hx hb hts hown hK hw hk 1 (by decide) (hts _ hw_163) rfl dd_S_stream_9 ?_
  refine lv_aload_n hx hb dd_S_stream_12 rfl (lv_at hl 0 rfl) ?_
  refine xr_get_S (v := .ref (ad (k + 9))) hx hb hts hown hK hw hk 2 (by decide) (hts _ hw_164) rfl dd_S_stream_13 ?_
  refine lv_iconst (v := 0) hx hb dd_S_stream_16 rfl ?_
  obtain ⟨q2, gq2, h⟩ := xs_ob h
  refine xq_v hK hw (va_runV (As := [.ref (ad (k + 9)), .int 0]) (rest := []) ⟨hx, hb, hml, hown, hts⟩ (xc_C_encipher l D ad ca ks (k + 7) (k + 9) 0 q1 q2 (xs_ok_S_application hK.1 hk) (xs_ok_S_row hK.1 hk) gq2 _) ⟨callB_of 2 hts (xs_good hw_134) rfl rfl rfl (hts _ hw_5) (hts _ hw_444) yd_C_encipher ⟨Nat.le_trans (by decide) hRf, Nat.le_trans (by decide) hRl⟩, (hts _ hw_132), (hts _ hw_133)⟩ ⟨xs_blind, xs_recv_C hK hw (xs_ok_S_application hK.1 hk), fun U h1 h2 => ⟨rfl, xs_pre hK hw h1 h2⟩⟩ rfl rfl hl.1 rfl (lv_room (Nat.le_of_ble_eq_true rfl)) dd_S_stream_17 ⟨Nat.zero_le _, Nat.zero_le _⟩) (fun H locs hw => ?_)
  refine lv_aload_n hx hb dd_S_stream_20 rfl (lv_at hl 0 rfl) ?_
  refine xr_get_S (v := .ref (ad (k + 9))) hx hb hts hown hK hw hk 2 (by decide) (hts _ hw_164) rfl dd_S_stream_21 ?_
  refine lv_iconst (v := 0) hx hb dd_S_stream_24 rfl ?_
  refine lv_iconst (v := 4) hx hb dd_S_stream_25 rfl ?_
  obtain ⟨q3, gq3, h⟩ := xs_ob h
  refine xq_i hK hw (va_runSN (As := [.ref (ad (k + 9)), .int 0, .int 4]) (rest := []) ⟨hx, hb, hml, hown, hts⟩ (xc_W_number l D ad ca ks (k + 9) 0 4 q2 q3 (xs_ok_S_row hK.1 hk) gq3 _) ⟨va_cnB 3 hts (xs_good hw_117) rfl rfl rfl (hK.2.2.2.1 _ hn_445 rfl) (hts _ hw_1) yd_W_number ⟨Nat.le_trans (by decide) hRf, Nat.le_trans (by decide) hRl⟩, (hts _ hw_116), trivial⟩ ⟨xs_blind, fun U h1 h2 => ⟨rfl, xs_pre hK hw h1 h2⟩⟩ rfl rfl hl.1 rfl (lv_room (Nat.le_of_ble_eq_true rfl)) dd_S_stream_26 ⟨Nat.zero_le _, Nat.zero_le _⟩) (fun H locs hw => ?_)
  refine lv_i2l (v := Int32.toInt64 q3) hx hb dd_S_stream_29 rfl ?_
  refine lv_ldc2 (v := 4294967295) hx hb hown (hts _ hw_446) dd_S_stream_30 ?_
  refine lv_land hx hb dd_S_stream_33 ?_
  obtain ⟨v4, gv4, h⟩ := xs_ob h
  refine lv_namL gv4 ?_
  refine lv_lstore_n hx hb dd_S_stream_34 rfl hl (by decide) rfl (fun ls hl => ?_)
  have hl : lv_has ls 5 [(3, .long v4), (0, .ref (ad k)), (1, .int n1), (2, .int n2)] := hl
  refine lv_aload_n hx hb dd_S_stream_35 rfl (lv_at hl 1 rfl) ?_
  refine xr_get_S (v := .ref (ad (k + 9))) hx hb hts hown hK hw hk 2 (by decide) (hts _ hw_164) rfl dd_S_stream_36 ?_
  refine lv_iconst (v := 4) hx hb dd_S_stream_39 rfl ?_
  refine lv_iconst (v := 4) hx hb dd_S_stream_40 rfl ?_
  obtain ⟨q5, gq5, h⟩ := xs_ob h
  refine xq_i hK hw (va_runSN (As := [.ref (ad (k + 9)), .int 4, .int 4]) (rest := []) ⟨hx, hb, hml, hown, hts⟩ (xc_W_number l D ad ca ks (k + 9) 4 4 q2 q5 (xs_ok_S_row hK.1 hk) gq5 _) ⟨va_cnB 3 hts (xs_good hw_117) rfl rfl rfl (hK.2.2.2.1 _ hn_445 rfl) (hts _ hw_1) yd_W_number ⟨Nat.le_trans (by decide) hRf, Nat.le_trans (by decide) hRl⟩, (hts _ hw_116), trivial⟩ ⟨xs_blind, fun U h1 h2 => ⟨rfl, xs_pre hK hw h1 h2⟩⟩ rfl rfl hl.1 rfl (lv_room (Nat.le_of_ble_eq_true rfl)) dd_S_stream_41 ⟨Nat.zero_le _, Nat.zero_le _⟩) (fun H locs hw => ?_)
  refine lv_i2l (v := Int32.toInt64 q5) hx hb dd_S_stream_44 rfl ?_
  refine lv_bipush (v := 32) hx hb dd_S_stream_45 rfl ?_
  refine lv_lshl (v := xs_lshl (Int32.toInt64 q5) 32) hx hb dd_S_stream_47 rfl ?_
  refine lv_lload_n hx hb dd_S_stream_48 rfl (lv_at hl 0 rfl) ?_
  refine lv_lor hx hb dd_S_stream_49 ?_
  exact hret h hw dd_S_stream_50
set_option maxHeartbeats 4000000 in
set_option maxRecDepth 100000 in
theorem xc_S_layRow (l : Launch) (D : va_G) (ad : Nat → Nat) (ca : Nat → ClassId) (ks : List Nat) (k : Nat) (a1 : Nat) (n2 : Int32) (n3 : Int32) (n4 : Int32) (S : xs_T) (T : xs_T) (hk : xs_is ks k xs_cS) (ha1 : xs_is ks a1 xs_cF) (h : xf_S_layRow k a1 n2 n3 n4 S = some T) (sz : Nat) : Met l yy_S_layRow ws_S_layRow { frames := 2, cells := 0, slots := 0, locals := 67 } (va_Pc [.ref (ad k), .ref (ad a1), .int n2, .int n3, .int n4] (xs_Pre D ad ca ks S sz)) (va_Qv (fun _ : Unit => True) (fun _ t => va_P D xs_cl (xs_w ad ca ks T) t.heap) (xs_A ad ks sz)) 0 0 (xs_A ad ks sz) := by
  refine xm_v (by decide) (Nat.le_of_ble_eq_true rfl) ?_
  intro p e s m args below meth c R A Q ls hx hb hml hown hts hRf hRl hK hw hl hret
  have hl : lv_has ls 5 [(0, .ref (ad k)), (1, .ref (ad a1)), (2, .int n2), (3, .int n3), (4, .int n4)] := hl
  unfold xf_S_layRow at h
  refine lv_aload_n hx hb dd_S_layRow_0 rfl (lv_at hl 0 rfl) ?_
  refine lv_bipush (v := 73) hx hb dd_S_layRow_1 rfl ?_
  refine lv_iload_n hx hb dd_S_layRow_3 rfl (lv_at hl 3 rfl) ?_
  refine lv_iload hx hb dd_S_layRow_4 (lv_at hl 4 rfl) ?_
  refine lv_iload_n hx hb dd_S_layRow_6 rfl (lv_at hl 2 rfl) ?_
  obtain ⟨q1, gq1, h⟩ := xs_ob h
  refine xq_v hK hw (va_runV (As := [.int 73, .int n3, .int n4, .int n2]) (rest := []) ⟨hx, hb, hml, hown, hts⟩ (xc_S_layFirstBlock l D ad ca ks k 73 n3 n4 n2 S q1 hk gq1 _) ⟨callB_of 4 hts (xs_good hw_441) rfl rfl rfl (hts _ hw_9) (hts _ hw_438) yd_S_layFirstBlock ⟨Nat.le_trans (by decide) hRf, Nat.le_trans (by decide) hRl⟩, (hts _ hw_440), (hts _ hs_3)⟩ ⟨xs_blind, xs_recv_S hK hw hk, fun U h1 h2 => ⟨rfl, xs_pre hK hw h1 h2⟩⟩ rfl rfl hl.1 rfl (lv_room (Nat.le_of_ble_eq_true rfl)) dd_S_layRow_7 ⟨Nat.zero_le _, Nat.zero_le _⟩) (fun H locs hw => ?_)
  refine lv_aload_n hx hb dd_S_layRow_10 rfl (lv_at hl 1 rfl) ?_
  refine xr_getN_F (v := .ref (ad (a1 + 1))) hx hb hts hown hK hw ha1 0 (by decide) (va_Nw.use rfl (hK.2.2.2.1 _ hn_41 rfl)) rfl dd_S_layRow_11 ?_
  refine lv_iconst (v := 0) hx hb dd_S_layRow_14 rfl ?_
  refine lv_aload_n hx hb dd_S_layRow_15 rfl (lv_at hl 0 rfl) ?_
  refine xr_get_S (v := .ref (ad (k + 9))) hx hb hts hown hK hw hk 2 (by decide) (hts _ hw_164) rfl dd_S_layRow_16 ?_
  refine lv_bipush (v := 16) hx hb dd_S_layRow_19 rfl ?_
  refine lv_iload_n hx hb dd_S_layRow_21 rfl (lv_at hl 2 rfl) ?_
  obtain ⟨S2, gS2, h⟩ := xs_ob h
  refine xr_cpy hx hb (hml.trans hl.1.symm) hown (hts _ hw_451) (hts _ hw_146) (hts _ hw_145) (hts _ hw_7) hK hw (xs_ok_F_bytes hK.1 ha1) (xs_ok_S_row hK.1 hk) gS2 (Nat.le_trans (by decide) hRf) (Nat.le_trans (Nat.le_of_ble_eq_true rfl) hRl) dd_S_layRow_22 (fun H locs hw => ?_)
  exact hret h hw dd_S_layRow_25
set_option maxHeartbeats 4000000 in
set_option maxRecDepth 100000 in
theorem xc_S_finish (l : Launch) (D : va_G) (ad : Nat → Nat) (ca : Nat → ClassId) (ks : List Nat) (k : Nat) (a1 : Nat) (n2 : Int32) (n3 : Int32) (n4 : Int64) (n6 : Int32) (S : xs_T) (T : xs_T) (hk : xs_is ks k xs_cS) (ha1 : xs_is ks a1 xs_cF) (h : xf_S_finish k a1 n2 n3 n4 n6 S = some T) (sz : Nat) : Met l yy_S_finish ws_S_finish { frames := 3, cells := 0, slots := 0, locals := 91 } (va_Pc [.ref (ad k), .ref (ad a1), .int n2, .int n3, .long n4, .int n6] (xs_Pre D ad ca ks S sz)) (va_Qv (fun _ : Unit => True) (fun _ t => va_P D xs_cl (xs_w ad ca ks T) t.heap) (xs_A ad ks sz)) 0 0 (xs_A ad ks sz) := by
  refine xm_v (by decide) (Nat.le_of_ble_eq_true rfl) ?_
  intro p e s m args below meth c R A Q ls hx hb hml hown hts hRf hRl hK hw hl hret
  have hl : lv_has ls 10 [(0, .ref (ad k)), (1, .ref (ad a1)), (2, .int n2), (3, .int n3), (4, .long n4), (6, .int n6)] := hl
  have w_52 : ∀ (S : xs_T) (H : Heap) (locs : List Loc) (ls : Array Slot), xs_I D ad ca ks A s S H locs → lv_has ls 10 [(0, .ref (ad k)), (1, .ref (ad a1)), (2, .int n2), (3, .int n3)] → xf_S_finish_52 k a1 n2 n3 n4 n6 S = some T → W p l e R s m args below meth c H locs 0 0 Q (F0 m 52 ls []) := by
    intro S H locs ls hw hl h
    unfold xf_S_finish_52 at h
    refine lv_aload_n hx hb dd_S_finish_52 rfl (lv_at hl 1 rfl) ?_
    refine xr_getN_F (v := .int (xs_gI S a1 1)) hx hb hts hown hK hw ha1 1 (by decide) (va_Nw.use rfl (hK.2.2.2.1 _ hn_45 rfl)) rfl dd_S_finish_53 ?_
    refine lv_istore hx hb dd_S_finish_56 hl (by decide) rfl (fun ls hl => ?_)
    have hl : lv_has ls 10 [(7, .int (xs_gI S a1 1)), (0, .ref (ad k)), (1, .ref (ad a1)), (2, .int n2), (3, .int n3)] := hl
    refine lv_aload_n hx hb dd_S_finish_58 rfl (lv_at hl 1 rfl) ?_
    refine lv_aload_n hx hb dd_S_finish_59 rfl (lv_at hl 2 rfl) ?_
    refine lv_iload hx hb dd_S_finish_60 (lv_at hl 0 rfl) ?_
    refine lv_iload_n hx hb dd_S_finish_62 rfl (lv_at hl 3 rfl) ?_
    refine lv_iload_n hx hb dd_S_finish_63 rfl (lv_at hl 4 rfl) ?_
    obtain ⟨q2, gq2, h⟩ := xs_ob h
    refine xq_v hK hw (va_runV (As := [.ref (ad a1), .int (xs_gI S a1 1), .int n2, .int n3]) (rest := []) ⟨hx, hb, hml, hown, hts⟩ (xc_S_layRow l D ad ca ks k a1 (xs_gI S a1 1) n2 n3 S q2 hk ha1 gq2 _) ⟨callB_of 4 hts (xs_good hw_450) rfl rfl rfl (hts _ hw_9) (hts _ hw_447) yd_S_layRow ⟨Nat.le_trans (by decide) hRf, Nat.le_trans (by decide) hRl⟩, (hts _ hw_449), (hts _ hs_4)⟩ ⟨xs_blind, xs_recv_S hK hw hk, fun U h1 h2 => ⟨rfl, xs_pre hK hw h1 h2⟩⟩ rfl rfl hl.1 rfl (lv_room (Nat.le_of_ble_eq_true rfl)) dd_S_finish_64 ⟨Nat.zero_le _, Nat.zero_le _⟩) (fun H locs hw => ?_)
    refine lv_aload_n hx hb dd_S_finish_67 rfl (lv_at hl 2 rfl) ?_
    refine lv_aload_n hx hb dd_S_finish_68 rfl (lv_at hl 1 rfl) ?_
    refine xr_get_S (v := .ref (ad (k + 1))) hx hb hts hown hK hw hk 0 (by decide) (hts _ hw_162) rfl dd_S_finish_69 ?_
    refine lv_aload_n hx hb dd_S_finish_72 rfl (lv_at hl 1 rfl) ?_
    refine xr_get_S (v := .ref (ad (k + 9))) hx hb hts hown hK hw hk 2 (by decide) (hts _ hw_164) rfl dd_S_finish_73 ?_
    refine lv_bipush (v := 16) hx hb dd_S_finish_76 rfl ?_
    refine lv_iload hx hb dd_S_finish_78 (lv_at hl 0 rfl) ?_
    refine lv_iadd hx hb dd_S_finish_80 ?_
    obtain ⟨q3, gq3, h⟩ := xs_ob h
    refine xq_i hK hw (va_runV (As := [.ref (ad (k + 9)), .int (16 + (xs_gI S a1 1))]) (rest := [.ref (ad a1)]) ⟨hx, hb, hml, hown, hts⟩ (xc_M_codeOf l D ad ca ks (k + 1) (k + 9) (16 + (xs_gI S a1 1)) q2 q3.1 q3.2 (xs_ok_S_network hK.1 hk) (xs_ok_S_row hK.1 hk) gq3 _) ⟨callB_of 2 hts (xs_good hw_389) rfl rfl rfl (hts _ hw_4) (hts _ hw_452) yd_M_codeOf ⟨Nat.le_trans (by decide) hRf, Nat.le_trans (by decide) hRl⟩, (hts _ hw_387), (hts _ hw_388)⟩ ⟨xs_blind, xs_recv_M hK hw (xs_ok_S_network hK.1 hk), fun U h1 h2 => ⟨rfl, xs_pre hK hw h1 h2⟩⟩ rfl rfl hl.1 rfl (lv_room (Nat.le_of_ble_eq_true rfl)) dd_S_finish_81 ⟨Nat.zero_le _, Nat.zero_le _⟩) (fun H locs hw => ?_)
    refine lv_iconst (v := 4) hx hb dd_S_finish_84 rfl ?_
    obtain ⟨q4, gq4, h⟩ := xs_ob h
    refine xq_v hK hw (va_runV (As := [.int q3.1, .int 4]) (rest := []) ⟨hx, hb, hml, hown, hts⟩ (xc_F_append l D ad ca ks a1 q3.1 4 q3.2 q4 ha1 gq4 _) ⟨callB_of 2 hts (xs_good hw_379) rfl rfl rfl (hts _ hw_3) (hts _ hw_429) yd_F_append ⟨Nat.le_trans (by decide) hRf, Nat.le_trans (by decide) hRl⟩, (hts _ hw_377), (hts _ hw_378)⟩ ⟨xs_blind, xs_recv_F hK hw ha1, fun U h1 h2 => ⟨rfl, xs_pre hK hw h1 h2⟩⟩ rfl rfl hl.1 rfl (lv_room (Nat.le_of_ble_eq_true rfl)) dd_S_finish_85 ⟨Nat.zero_le _, Nat.zero_le _⟩) (fun H locs hw => ?_)
    exact hret h hw dd_S_finish_88
  have w_25 : ∀ (f : Nat), ∀ (i7 : Int64) (i9 : Int32) (S : xs_T) (H : Heap) (locs : List Loc) (ls : Array Slot), xs_I D ad ca ks A s S H locs → lv_has ls 10 [(0, .ref (ad k)), (1, .ref (ad a1)), (2, .int n2), (3, .int n3), (6, .int n6), (7, .long i7), (9, .int i9)] → xf_S_finish_25 k a1 n2 n3 n4 n6 f i7 i9 S = some T → W p l e R s m args below meth c H locs 0 0 Q (F0 m 25 ls []) := by
    intro f
    induction f with
    | zero => intro i7 i9 S H locs ls hw hl h; exact absurd h (by simp [xf_S_finish_25])
    | succ f ih =>
      intro i7 i9 S H locs ls hw hl h
      rw [xf_S_finish_25] at h
      refine lv_iload hx hb dd_S_finish_25 (lv_at hl 6 rfl) ?_
      refine lv_iload hx hb dd_S_finish_27 (lv_at hl 4 rfl) ?_
      refine lv_icmp_ge hx hb dd_S_finish_29 rfl (fun b7 => ?_) (fun b7 => ?_)
      · replace h := xs_p b7 h
        exact w_52 S _ _ _ hw (lv_sub hl [0, 1, 2, 3] rfl) h
      · replace h := xs_n b7 h
        refine lv_aload_n hx hb dd_S_finish_32 rfl (lv_at hl 1 rfl) ?_
        refine lv_lload hx hb dd_S_finish_33 (lv_at hl 5 rfl) ?_
        refine lv_bipush (v := 8) hx hb dd_S_finish_35 rfl ?_
        refine lv_iload hx hb dd_S_finish_37 (lv_at hl 6 rfl) ?_
        refine lv_imul hx hb dd_S_finish_39 ?_
        refine lv_lushr (v := xs_lush i7 (8 * i9)) hx hb dd_S_finish_40 rfl ?_
        refine lv_l2i (v := Int64.toInt32 (xs_lush i7 (8 * i9))) hx hb dd_S_finish_41 rfl ?_
        refine lv_iconst (v := 1) hx hb dd_S_finish_42 rfl ?_
        obtain ⟨q8, gq8, h⟩ := xs_ob h
        refine xq_v hK hw (va_runV (As := [.int (Int64.toInt32 (xs_lush i7 (8 * i9))), .int 1]) (rest := []) ⟨hx, hb, hml, hown, hts⟩ (xc_F_append l D ad ca ks a1 (Int64.toInt32 (xs_lush i7 (8 * i9))) 1 S q8 ha1 gq8 _) ⟨callB_of 2 hts (xs_good hw_379) rfl rfl rfl (hts _ hw_3) (hts _ hw_429) yd_F_append ⟨Nat.le_trans (by decide) hRf, Nat.le_trans (by decide) hRl⟩, (hts _ hw_377), (hts _ hw_378)⟩ ⟨xs_blind, xs_recv_F hK hw ha1, fun U h1 h2 => ⟨rfl, xs_pre hK hw h1 h2⟩⟩ rfl rfl hl.1 rfl (lv_room (Nat.le_of_ble_eq_true rfl)) dd_S_finish_43 ⟨Nat.zero_le _, Nat.zero_le _⟩) (fun H locs hw => ?_)
        refine lv_iinc (k := 6) (v := i9 + 1) hx hb dd_S_finish_46 hl rfl rfl (by decide) rfl (fun ls hl => ?_)
        have hl : lv_has ls 10 [(9, .int (i9 + 1)), (0, .ref (ad k)), (1, .ref (ad a1)), (2, .int n2), (3, .int n3), (6, .int n6), (7, .long i7)] := hl
        refine lv_goto hx hb dd_S_finish_49 rfl ?_
        exact ih i7 (i9 + 1) q8 _ _ _ hw (lv_sub hl [1, 2, 3, 4, 5, 6, 0] rfl) h
  unfold xf_S_finish at h
  refine lv_iload hx hb dd_S_finish_0 (lv_at hl 5 rfl) ?_
  refine lv_if_le hx hb dd_S_finish_2 rfl (fun b1 => ?_) (fun b1 => ?_)
  · replace h := xs_p b1 h
    exact w_52 S _ _ _ hw (lv_sub hl [0, 1, 2, 3] rfl) h
  · replace h := xs_n b1 h
    refine lv_aload_n hx hb dd_S_finish_5 rfl (lv_at hl 1 rfl) ?_
    refine lv_iconst (v := 1) hx hb dd_S_finish_6 rfl ?_
    refine lv_iconst (v := 1) hx hb dd_S_finish_7 rfl ?_
    obtain ⟨q5, gq5, h⟩ := xs_ob h
    refine xq_v hK hw (va_runV (As := [.int 1, .int 1]) (rest := []) ⟨hx, hb, hml, hown, hts⟩ (xc_F_append l D ad ca ks a1 1 1 S q5 ha1 gq5 _) ⟨callB_of 2 hts (xs_good hw_379) rfl rfl rfl (hts _ hw_3) (hts _ hw_429) yd_F_append ⟨Nat.le_trans (by decide) hRf, Nat.le_trans (by decide) hRl⟩, (hts _ hw_377), (hts _ hw_378)⟩ ⟨xs_blind, xs_recv_F hK hw ha1, fun U h1 h2 => ⟨rfl, xs_pre hK hw h1 h2⟩⟩ rfl rfl hl.1 rfl (lv_room (Nat.le_of_ble_eq_true rfl)) dd_S_finish_8 ⟨Nat.zero_le _, Nat.zero_le _⟩) (fun H locs hw => ?_)
    refine lv_lload hx hb dd_S_finish_11 (lv_at hl 4 rfl) ?_
    refine lv_aload_n hx hb dd_S_finish_13 rfl (lv_at hl 0 rfl) ?_
    refine lv_iload_n hx hb dd_S_finish_14 rfl (lv_at hl 2 rfl) ?_
    refine lv_iload_n hx hb dd_S_finish_15 rfl (lv_at hl 3 rfl) ?_
    obtain ⟨q6, gq6, h⟩ := xs_ob h
    refine xq_l hK hw (va_runV (As := [.int n2, .int n3]) (rest := [.long n4]) ⟨hx, hb, hml, hown, hts⟩ (xc_S_stream l D ad ca ks k n2 n3 q5 q6.1 q6.2 hk gq6 _) ⟨callB_of 2 hts (xs_good hw_437) rfl rfl rfl (hts _ hw_9) (hts _ hw_434) yd_S_stream ⟨Nat.le_trans (by decide) hRf, Nat.le_trans (by decide) hRl⟩, (hts _ hw_436), (hts _ hs_2)⟩ ⟨xs_blind, xs_recv_S hK hw hk, fun U h1 h2 => ⟨rfl, xs_pre hK hw h1 h2⟩⟩ rfl rfl hl.1 rfl (lv_room (Nat.le_of_ble_eq_true rfl)) dd_S_finish_16 ⟨Nat.zero_le _, Nat.zero_le _⟩) (fun H locs hw => ?_)
    refine lv_lxor hx hb dd_S_finish_19 ?_
    refine lv_lstore hx hb dd_S_finish_20 hl (by decide) rfl (fun ls hl => ?_)
    have hl : lv_has ls 10 [(7, .long (n4 ^^^ q6.1)), (0, .ref (ad k)), (1, .ref (ad a1)), (2, .int n2), (3, .int n3), (4, .long n4), (6, .int n6)] := hl
    refine lv_iconst (v := 0) hx hb dd_S_finish_22 rfl ?_
    refine lv_istore hx hb dd_S_finish_23 hl (by decide) rfl (fun ls hl => ?_)
    have hl : lv_has ls 10 [(9, .int 0), (7, .long (n4 ^^^ q6.1)), (0, .ref (ad k)), (1, .ref (ad a1)), (2, .int n2), (3, .int n3), (4, .long n4), (6, .int n6)] := hl
    exact w_25 xs_fuel (n4 ^^^ q6.1) 0 q6.2 _ _ _ hw (lv_sub hl [2, 3, 4, 5, 7, 1, 0] rfl) h
