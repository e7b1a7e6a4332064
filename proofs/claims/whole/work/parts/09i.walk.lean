set_option maxHeartbeats 4000000 in
set_option maxRecDepth 100000 in
theorem xc_R_derive (l : Launch) (D : va_G) (ad : Nat → Nat) (ca : Nat → ClassId) (ks : List Nat) (k : Nat) (n1 : Int32) (n2 : Int32) (n3 : Int32) (n4 : Int32) (S : xs_T) (T : xs_T) (hk : xs_is ks k xs_cR) (h : xf_R_derive k n1 n2 n3 n4 S = some T) (sz : Nat) : Met l yy_R_derive ws_R_derive { frames := 4, cells := 0, slots := 0, locals := 93 } (va_Pc [.ref (ad k), .int n1, .int n2, .int n3, .int n4] (xs_Pre D ad ca ks S sz)) (va_Qv (fun _ : Unit => True) (fun _ t => va_P D xs_cl (xs_w ad ca ks T) t.heap) (xs_A ad ks sz)) 0 0 (xs_A ad ks sz) := by
  refine xm_v (by decide) (Nat.le_of_ble_eq_true rfl) ?_
  intro p e s m args below meth c R A Q ls hx hb hml hown hts hRf hRl hK hw hl hret
  have hl : lv_has ls 7 [(0, .ref (ad k)), (1, .int n1), (2, .int n2), (3, .int n3), (4, .int n4)] := hl
  have w_119 : ∀ (c3 : Int32 → xs_T → Option (xs_T)) (y3 : ∀ (i5 : Int32) (S : xs_T) (H : Heap) (locs : List Loc) (ls : Array Slot), xs_I D ad ca ks A s S H locs → lv_has ls 7 [(0, .ref (ad k)), (1, .int n1), (2, .int n2), (3, .int n3), (4, .int n4), (5, .int i5)] → c3 i5 S = some T → W p l e R s m args below meth c H locs 0 0 Q (F0 m 3 ls [])), ∀ (f : Nat), ∀ (i5 : Int32) (i6 : Int32) (S : xs_T) (H : Heap) (locs : List Loc) (ls : Array Slot), xs_I D ad ca ks A s S H locs → lv_has ls 7 [(0, .ref (ad k)), (1, .int n1), (2, .int n2), (3, .int n3), (4, .int n4), (5, .int i5), (6, .int i6)] → xf_R_derive_119 k n1 n2 n3 n4 c3 f i5 i6 S = some T → W p l e R s m args below meth c H locs 0 0 Q (F0 m 119 ls []) := by
    intro c3 y3 f
    induction f with
    | zero => intro i5 i6 S H locs ls hw hl h; exact absurd h (by simp [xf_R_derive_119])
    | succ f ih =>
      intro i5 i6 S H locs ls hw hl h
      rw [xf_R_derive_119] at h
      refine lv_iload hx hb dd_R_derive_119 (lv_at hl 6 rfl) ?_
      refine lv_bipush (v := 16) hx hb dd_R_derive_121 rfl ?_
      refine lv_icmp_ge hx hb dd_R_derive_123 rfl (fun b9 => ?_) (fun b9 => ?_)
      · replace h := xs_p b9 h
        refine lv_iinc (k := 5) (v := i5 + 1) hx hb dd_R_derive_157 hl rfl rfl (by decide) rfl (fun ls hl => ?_)
        have hl : lv_has ls 7 [(5, .int (i5 + 1)), (0, .ref (ad k)), (1, .int n1), (2, .int n2), (3, .int n3), (4, .int n4), (6, .int i6)] := hl
        refine lv_goto hx hb dd_R_derive_160 rfl ?_
        exact y3 (i5 + 1) S _ _ _ hw (lv_sub hl [1, 2, 3, 4, 5, 0] rfl) h
      · replace h := xs_n b9 h
        refine lv_aload_n hx hb dd_R_derive_126 rfl (lv_at hl 0 rfl) ?_
        refine xr_get_R (v := .ref (ad (k + 7))) hx hb hts hown hK hw hk 6 (by decide) (hts _ hw_749) rfl dd_R_derive_127 ?_
        refine lv_bipush (v := 16) hx hb dd_R_derive_130 rfl ?_
        refine lv_iload hx hb dd_R_derive_132 (lv_at hl 4 rfl) ?_
        refine lv_iload hx hb dd_R_derive_134 (lv_at hl 5 rfl) ?_
        refine lv_iadd hx hb dd_R_derive_136 ?_
        refine lv_iconst (v := 1) hx hb dd_R_derive_137 rfl ?_
        refine lv_isub hx hb dd_R_derive_138 ?_
        refine lv_imul hx hb dd_R_derive_139 ?_
        refine lv_iload hx hb dd_R_derive_140 (lv_at hl 6 rfl) ?_
        refine lv_iadd hx hb dd_R_derive_142 ?_
        refine lv_aload_n hx hb dd_R_derive_143 rfl (lv_at hl 0 rfl) ?_
        refine xr_get_R (v := .ref (ad (k + 4))) hx hb hts hown hK hw hk 3 (by decide) (hts _ hw_746) rfl dd_R_derive_144 ?_
        refine lv_iload hx hb dd_R_derive_147 (lv_at hl 6 rfl) ?_
        obtain ⟨v10, gv10, h⟩ := xs_ob h
        refine xr_iald hx hb hK hw (xs_ok_R_block hK.1 hk) gv10 dd_R_derive_149 ?_
        obtain ⟨S11, gS11, h⟩ := xs_ob h
        refine xr_iast hx hb hK hw (xs_ok_R_keys hK.1 hk) gS11 dd_R_derive_150 (fun H locs hw => ?_)
        refine lv_iinc (k := 6) (v := i6 + 1) hx hb dd_R_derive_151 hl rfl rfl (by decide) rfl (fun ls hl => ?_)
        have hl : lv_has ls 7 [(6, .int (i6 + 1)), (0, .ref (ad k)), (1, .int n1), (2, .int n2), (3, .int n3), (4, .int n4), (5, .int i5)] := hl
        refine lv_goto hx hb dd_R_derive_154 rfl ?_
        exact ih i5 (i6 + 1) S11 _ _ _ hw (lv_sub hl [1, 2, 3, 4, 5, 6, 0] rfl) h
  have w_44 : ∀ (c3 : Int32 → xs_T → Option (xs_T)) (y3 : ∀ (i5 : Int32) (S : xs_T) (H : Heap) (locs : List Loc) (ls : Array Slot), xs_I D ad ca ks A s S H locs → lv_has ls 7 [(0, .ref (ad k)), (1, .int n1), (2, .int n2), (3, .int n3), (4, .int n4), (5, .int i5)] → c3 i5 S = some T → W p l e R s m args below meth c H locs 0 0 Q (F0 m 3 ls [])), ∀ (f : Nat), ∀ (i5 : Int32) (i6 : Int32) (S : xs_T) (H : Heap) (locs : List Loc) (ls : Array Slot), xs_I D ad ca ks A s S H locs → lv_has ls 7 [(0, .ref (ad k)), (1, .int n1), (2, .int n2), (3, .int n3), (4, .int n4), (5, .int i5), (6, .int i6)] → xf_R_derive_44 k n1 n2 n3 n4 c3 f i5 i6 S = some T → W p l e R s m args below meth c H locs 0 0 Q (F0 m 44 ls []) := by
    intro c3 y3 f
    induction f with
    | zero => intro i5 i6 S H locs ls hw hl h; exact absurd h (by simp [xf_R_derive_44])
    | succ f ih =>
      intro i5 i6 S H locs ls hw hl h
      rw [xf_R_derive_44] at h
      refine lv_iload hx hb dd_R_derive_44 (lv_at hl 6 rfl) ?_
      refine lv_iconst (v := 3) hx hb dd_R_derive_46 rfl ?_
      refine lv_icmp_ge hx hb dd_R_derive_47 rfl (fun b4 => ?_) (fun b4 => ?_)
      · replace h := xs_p b4 h
        refine lv_aload_n hx hb dd_R_derive_76 rfl (lv_at hl 0 rfl) ?_
        refine xr_get_R (v := .ref (ad (k + 4))) hx hb hts hown hK hw hk 3 (by decide) (hts _ hw_746) rfl dd_R_derive_77 ?_
        refine lv_iconst (v := 4) hx hb dd_R_derive_80 rfl ?_
        refine lv_bipush (v := 19) hx hb dd_R_derive_81 rfl ?_
        obtain ⟨S5, gS5, h⟩ := xs_ob h
        refine xr_iast hx hb hK hw (xs_ok_R_block hK.1 hk) gS5 dd_R_derive_83 (fun H locs hw => ?_)
        refine lv_aload_n hx hb dd_R_derive_84 rfl (lv_at hl 0 rfl) ?_
        refine xr_get_R (v := .ref (ad (k + 4))) hx hb hts hown hK hw hk 3 (by decide) (hts _ hw_746) rfl dd_R_derive_85 ?_
        refine lv_bipush (v := 7) hx hb dd_R_derive_88 rfl ?_
        refine lv_iload_n hx hb dd_R_derive_90 rfl (lv_at hl 3 rfl) ?_
        refine lv_sipush (v := 255) hx hb dd_R_derive_91 rfl ?_
        refine lv_iand hx hb dd_R_derive_94 ?_
        obtain ⟨S6, gS6, h⟩ := xs_ob h
        refine xr_iast hx hb hK hw (xs_ok_R_block hK.1 hk) gS6 dd_R_derive_95 (fun H locs hw => ?_)
        refine lv_aload_n hx hb dd_R_derive_96 rfl (lv_at hl 0 rfl) ?_
        refine xr_get_R (v := .ref (ad (k + 4))) hx hb hts hown hK hw hk 3 (by decide) (hts _ hw_746) rfl dd_R_derive_97 ?_
        refine lv_bipush (v := 8) hx hb dd_R_derive_100 rfl ?_
        refine lv_iload_n hx hb dd_R_derive_102 rfl (lv_at hl 3 rfl) ?_
        refine lv_bipush (v := 8) hx hb dd_R_derive_103 rfl ?_
        refine lv_ishr hx hb dd_R_derive_105 ?_
        refine lv_sipush (v := 255) hx hb dd_R_derive_106 rfl ?_
        refine lv_iand hx hb dd_R_derive_109 ?_
        obtain ⟨S7, gS7, h⟩ := xs_ob h
        refine xr_iast hx hb hK hw (xs_ok_R_block hK.1 hk) gS7 dd_R_derive_110 (fun H locs hw => ?_)
        refine lv_aload_n hx hb dd_R_derive_111 rfl (lv_at hl 0 rfl) ?_
        refine lv_iload_n hx hb dd_R_derive_112 rfl (lv_at hl 1 rfl) ?_
        obtain ⟨q8, gq8, h⟩ := xs_ob h
        refine xq_v hK hw (va_runV (As := [.int n1]) (rest := []) ⟨hx, hb, hml, hown, hts⟩ (xc_R_cipher l D ad ca ks k n1 S7 q8 hk gq8 _) ⟨callB_of 1 hts (xs_good hw_896) rfl rfl rfl (hts _ hw_13) (hts _ hw_893) yd_R_cipher ⟨Nat.le_trans (by decide) hRf, Nat.le_trans (by decide) hRl⟩, (hts _ hw_895), (hts _ hs_17)⟩ ⟨xs_blind, xs_recv_R hK hw hk, fun U h1 h2 => ⟨rfl, xs_pre hK hw h1 h2⟩⟩ rfl rfl hl.1 rfl (lv_room (Nat.le_of_ble_eq_true rfl)) dd_R_derive_113 ⟨Nat.zero_le _, Nat.zero_le _⟩) (fun H locs hw => ?_)
        refine lv_iconst (v := 0) hx hb dd_R_derive_116 rfl ?_
        refine lv_istore hx hb dd_R_derive_117 hl (by decide) rfl (fun ls hl => ?_)
        have hl : lv_has ls 7 [(6, .int 0), (0, .ref (ad k)), (1, .int n1), (2, .int n2), (3, .int n3), (4, .int n4), (5, .int i5)] := hl
        exact w_119 c3 y3 xs_fuel i5 0 q8 _ _ _ hw (lv_sub hl [1, 2, 3, 4, 5, 6, 0] rfl) h
      · replace h := xs_n b4 h
        refine lv_aload_n hx hb dd_R_derive_50 rfl (lv_at hl 0 rfl) ?_
        refine xr_get_R (v := .ref (ad (k + 4))) hx hb hts hown hK hw hk 3 (by decide) (hts _ hw_746) rfl dd_R_derive_51 ?_
        refine lv_iconst (v := 1) hx hb dd_R_derive_54 rfl ?_
        refine lv_iload hx hb dd_R_derive_55 (lv_at hl 6 rfl) ?_
        refine lv_iadd hx hb dd_R_derive_57 ?_
        refine lv_iload_n hx hb dd_R_derive_58 rfl (lv_at hl 2 rfl) ?_
        refine lv_bipush (v := 8) hx hb dd_R_derive_59 rfl ?_
        refine lv_iload hx hb dd_R_derive_61 (lv_at hl 6 rfl) ?_
        refine lv_imul hx hb dd_R_derive_63 ?_
        refine lv_ishr hx hb dd_R_derive_64 ?_
        refine lv_sipush (v := 255) hx hb dd_R_derive_65 rfl ?_
        refine lv_iand hx hb dd_R_derive_68 ?_
        obtain ⟨S12, gS12, h⟩ := xs_ob h
        refine xr_iast hx hb hK hw (xs_ok_R_block hK.1 hk) gS12 dd_R_derive_69 (fun H locs hw => ?_)
        refine lv_iinc (k := 6) (v := i6 + 1) hx hb dd_R_derive_70 hl rfl rfl (by decide) rfl (fun ls hl => ?_)
        have hl : lv_has ls 7 [(6, .int (i6 + 1)), (0, .ref (ad k)), (1, .int n1), (2, .int n2), (3, .int n3), (4, .int n4), (5, .int i5)] := hl
        refine lv_goto hx hb dd_R_derive_73 rfl ?_
        exact ih i5 (i6 + 1) S12 _ _ _ hw (lv_sub hl [1, 2, 3, 4, 5, 6, 0] rfl) h
  have w_12 : ∀ (c3 : Int32 → xs_T → Option (xs_T)) (y3 : ∀ (i5 : Int32) (S : xs_T) (H : Heap) (locs : List Loc) (ls : Array Slot), xs_I D ad ca ks A s S H locs → lv_has ls 7 [(0, .ref (ad k)), (1, .int n1), (2, .int n2), (3, .int n3), (4, .int n4), (5, .int i5)] → c3 i5 S = some T → W p l e R s m args below meth c H locs 0 0 Q (F0 m 3 ls [])), ∀ (f : Nat), ∀ (i5 : Int32) (i6 : Int32) (S : xs_T) (H : Heap) (locs : List Loc) (ls : Array Slot), xs_I D ad ca ks A s S H locs → lv_has ls 7 [(0, .ref (ad k)), (1, .int n1), (2, .int n2), (3, .int n3), (4, .int n4), (5, .int i5), (6, .int i6)] → xf_R_derive_12 k n1 n2 n3 n4 c3 f i5 i6 S = some T → W p l e R s m args below meth c H locs 0 0 Q (F0 m 12 ls []) := by
    intro c3 y3 f
    induction f with
    | zero => intro i5 i6 S H locs ls hw hl h; exact absurd h (by simp [xf_R_derive_12])
    | succ f ih =>
      intro i5 i6 S H locs ls hw hl h
      rw [xf_R_derive_12] at h
      refine lv_iload hx hb dd_R_derive_12 (lv_at hl 6 rfl) ?_
      refine lv_bipush (v := 16) hx hb dd_R_derive_14 rfl ?_
      refine lv_icmp_ge hx hb dd_R_derive_16 rfl (fun b2 => ?_) (fun b2 => ?_)
      · replace h := xs_p b2 h
        refine lv_aload_n hx hb dd_R_derive_33 rfl (lv_at hl 0 rfl) ?_
        refine xr_get_R (v := .ref (ad (k + 4))) hx hb hts hown hK hw hk 3 (by decide) (hts _ hw_746) rfl dd_R_derive_34 ?_
        refine lv_iconst (v := 0) hx hb dd_R_derive_37 rfl ?_
        refine lv_iload hx hb dd_R_derive_38 (lv_at hl 5 rfl) ?_
        obtain ⟨S3, gS3, h⟩ := xs_ob h
        refine xr_iast hx hb hK hw (xs_ok_R_block hK.1 hk) gS3 dd_R_derive_40 (fun H locs hw => ?_)
        refine lv_iconst (v := 0) hx hb dd_R_derive_41 rfl ?_
        refine lv_istore hx hb dd_R_derive_42 hl (by decide) rfl (fun ls hl => ?_)
        have hl : lv_has ls 7 [(6, .int 0), (0, .ref (ad k)), (1, .int n1), (2, .int n2), (3, .int n3), (4, .int n4), (5, .int i5)] := hl
        exact w_44 c3 y3 xs_fuel i5 0 S3 _ _ _ hw (lv_sub hl [1, 2, 3, 4, 5, 6, 0] rfl) h
      · replace h := xs_n b2 h
        refine lv_aload_n hx hb dd_R_derive_19 rfl (lv_at hl 0 rfl) ?_
        refine xr_get_R (v := .ref (ad (k + 4))) hx hb hts hown hK hw hk 3 (by decide) (hts _ hw_746) rfl dd_R_derive_20 ?_
        refine lv_iload hx hb dd_R_derive_23 (lv_at hl 6 rfl) ?_
        refine lv_iconst (v := 0) hx hb dd_R_derive_25 rfl ?_
        obtain ⟨S13, gS13, h⟩ := xs_ob h
        refine xr_iast hx hb hK hw (xs_ok_R_block hK.1 hk) gS13 dd_R_derive_26 (fun H locs hw => ?_)
        refine lv_iinc (k := 6) (v := i6 + 1) hx hb dd_R_derive_27 hl rfl rfl (by decide) rfl (fun ls hl => ?_)
        have hl : lv_has ls 7 [(6, .int (i6 + 1)), (0, .ref (ad k)), (1, .int n1), (2, .int n2), (3, .int n3), (4, .int n4), (5, .int i5)] := hl
        refine lv_goto hx hb dd_R_derive_30 rfl ?_
        exact ih i5 (i6 + 1) S13 _ _ _ hw (lv_sub hl [1, 2, 3, 4, 5, 6, 0] rfl) h
  have w_3 : ∀ (f : Nat), ∀ (i5 : Int32) (S : xs_T) (H : Heap) (locs : List Loc) (ls : Array Slot), xs_I D ad ca ks A s S H locs → lv_has ls 7 [(0, .ref (ad k)), (1, .int n1), (2, .int n2), (3, .int n3), (4, .int n4), (5, .int i5)] → xf_R_derive_3 k n1 n2 n3 n4 f i5 S = some T → W p l e R s m args below meth c H locs 0 0 Q (F0 m 3 ls []) := by
    intro f
    induction f with
    | zero => intro i5 S H locs ls hw hl h; exact absurd h (by simp [xf_R_derive_3])
    | succ f ih =>
      intro i5 S H locs ls hw hl h
      rw [xf_R_derive_3] at h
      refine lv_iload hx hb dd_R_derive_3 (lv_at hl 5 rfl) ?_
      refine lv_iconst (v := 2) hx hb dd_R_derive_5 rfl ?_
      refine lv_icmp_gt hx hb dd_R_derive_6 rfl (fun b1 => ?_) (fun b1 => ?_)
      · replace h := xs_p b1 h
        exact hret h hw dd_R_derive_163
      · replace h := xs_n b1 h
        refine lv_iconst (v := 0) hx hb dd_R_derive_9 rfl ?_
        refine lv_istore hx hb dd_R_derive_10 hl (by decide) rfl (fun ls hl => ?_)
        have hl : lv_has ls 7 [(6, .int 0), (0, .ref (ad k)), (1, .int n1), (2, .int n2), (3, .int n3), (4, .int n4), (5, .int i5)] := hl
        exact w_12 (xf_R_derive_3 k n1 n2 n3 n4 f) ih xs_fuel i5 0 S _ _ _ hw (lv_sub hl [1, 2, 3, 4, 5, 6, 0] rfl) h
  unfold xf_R_derive at h
  refine lv_iconst (v := 1) hx hb dd_R_derive_0 rfl ?_
  refine lv_istore hx hb dd_R_derive_1 hl (by decide) rfl (fun ls hl => ?_)
  have hl : lv_has ls 7 [(5, .int 1), (0, .ref (ad k)), (1, .int n1), (2, .int n2), (3, .int n3), (4, .int n4)] := hl
  exact w_3 xs_fuel 1 S _ _ _ hw (lv_sub hl [1, 2, 3, 4, 5, 0] rfl) h
set_option maxHeartbeats 4000000 in
set_option maxRecDepth 100000 in
theorem xc_R_at (l : Launch) (D : va_G) (ad : Nat → Nat) (ca : Nat → ClassId) (ks : List Nat) (k : Nat) (n1 : Int32) (n2 : Int32) (S : xs_T) (r : Int32) (hk : xs_is ks k xs_cR) (h : xf_R_at k n1 n2 S = some r) (sz : Nat) : Met l yy_R_at ws_R_at { frames := 0, cells := 0, slots := 0, locals := 0 } (va_Pc [.ref (ad k), .int n1, .int n2] (xs_Pre D ad ca ks S sz)) (va_Qi (fun r1 (_ : Unit) => r1 = r) (fun _ t => va_P D xs_cl (xs_w ad ca ks S) t.heap) (xs_A ad ks sz)) 0 0 (xs_A ad ks sz) := by
  refine xm_ir (by decide) (Nat.le_of_ble_eq_true rfl) ?_
  intro p e s m args below meth c R A Q ls hx hb hml hown hts hRf hRl hK hw hl hret
  have hl : lv_has ls 3 [(0, .ref (ad k)), (1, .int n1), (2, .int n2)] := hl
  unfold xf_R_at at h
  refine lv_aload_n hx hb dd_R_at_0 rfl (lv_at hl 0 rfl) ?_
  refine xr_get_R (v := .ref (ad (k + 9))) hx hb hts hown hK hw hk 9 (by decide) (hts _ hw_752) rfl dd_R_at_1 ?_
  refine lv_bipush (v := 32) hx hb dd_R_at_4 rfl ?_
  refine lv_iload_n hx hb dd_R_at_6 rfl (lv_at hl 1 rfl) ?_
  refine lv_imul hx hb dd_R_at_7 ?_
  refine lv_iload_n hx hb dd_R_at_8 rfl (lv_at hl 2 rfl) ?_
  refine lv_iadd hx hb dd_R_at_9 ?_
  obtain ⟨v1, gv1, h⟩ := xs_ob h
  refine xr_iald hx hb hK hw (xs_ok_R_bytes hK.1 hk) gv1 dd_R_at_10 ?_
  exact hret h hw dd_R_at_11
set_option maxHeartbeats 4000000 in
set_option maxRecDepth 100000 in
theorem xc_R_write (l : Launch) (D : va_G) (ad : Nat → Nat) (ca : Nat → ClassId) (ks : List Nat) (k : Nat) (n1 : Int32) (n2 : Int32) (S : xs_T) (T : xs_T) (hk : xs_is ks k xs_cR) (h : xf_R_write k n1 n2 S = some T) (sz : Nat) : Met l yy_R_write ws_R_write { frames := 0, cells := 0, slots := 0, locals := 0 } (va_Pc [.ref (ad k), .int n1, .int n2] (xs_Pre D ad ca ks S sz)) (va_Qv (fun _ : Unit => True) (fun _ t => va_P D xs_cl (xs_w ad ca ks T) t.heap) (xs_A ad ks sz)) 0 0 (xs_A ad ks sz) := by
  refine xm_v (by decide) (Nat.le_of_ble_eq_true rfl) ?_
  intro p e s m args below meth c R A Q ls hx hb hml hown hts hRf hRl hK hw hl hret
  have hl : lv_has ls 3 [(0, .ref (ad k)), (1, .int n1), (2, .int n2)] := hl
  unfold xf_R_write at h
  refine lv_aload_n hx hb dd_R_write_0 rfl (lv_at hl 0 rfl) ?_
  refine xr_get_R (v := .ref (ad (k + 9))) hx hb hts hown hK hw hk 9 (by decide) (hts _ hw_752) rfl dd_R_write_1 ?_
  refine lv_bipush (v := 32) hx hb dd_R_write_4 rfl ?_
  refine lv_iload_n hx hb dd_R_write_6 rfl (lv_at hl 1 rfl) ?_
  refine lv_imul hx hb dd_R_write_7 ?_
  refine lv_aload_n hx hb dd_R_write_8 rfl (lv_at hl 0 rfl) ?_
  refine xr_get_R (v := .ref (ad (k + 10))) hx hb hts hown hK hw hk 10 (by decide) (hts _ hw_753) rfl dd_R_write_9 ?_
  refine lv_iload_n hx hb dd_R_write_12 rfl (lv_at hl 1 rfl) ?_
  obtain ⟨v1, gv1, h⟩ := xs_ob h
  refine xr_iald hx hb hK hw (xs_ok_R_length hK.1 hk) gv1 dd_R_write_13 ?_
  refine lv_iadd hx hb dd_R_write_14 ?_
  refine lv_iload_n hx hb dd_R_write_15 rfl (lv_at hl 2 rfl) ?_
  refine lv_sipush (v := 255) hx hb dd_R_write_16 rfl ?_
  refine lv_iand hx hb dd_R_write_19 ?_
  obtain ⟨S2, gS2, h⟩ := xs_ob h
  refine xr_iast hx hb hK hw (xs_ok_R_bytes hK.1 hk) gS2 dd_R_write_20 (fun H locs hw => ?_)
  refine lv_aload_n hx hb dd_R_write_21 rfl (lv_at hl 0 rfl) ?_
  refine xr_get_R (v := .ref (ad (k + 10))) hx hb hts hown hK hw hk 10 (by decide) (hts _ hw_753) rfl dd_R_write_22 ?_
  refine lv_iload_n hx hb dd_R_write_25 rfl (lv_at hl 1 rfl) ?_
  refine lv_dup2_11 hx hb dd_R_write_26 rfl rfl ?_
  obtain ⟨v3, gv3, h⟩ := xs_ob h
  refine xr_iald hx hb hK hw (xs_ok_R_length hK.1 hk) gv3 dd_R_write_27 ?_
  refine lv_iconst (v := 1) hx hb dd_R_write_28 rfl ?_
  refine lv_iadd hx hb dd_R_write_29 ?_
  obtain ⟨S4, gS4, h⟩ := xs_ob h
  refine xr_iast hx hb hK hw (xs_ok_R_length hK.1 hk) gS4 dd_R_write_30 (fun H locs hw => ?_)
  exact hret h hw dd_R_write_31
set_option maxHeartbeats 4000000 in
set_option maxRecDepth 100000 in
theorem xc_R_writeNumber (l : Launch) (D : va_G) (ad : Nat → Nat) (ca : Nat → ClassId) (ks : List Nat) (k : Nat) (n1 : Int32) (n2 : Int32) (n3 : Int32) (S : xs_T) (T : xs_T) (hk : xs_is ks k xs_cR) (h : xf_R_writeNumber k n1 n2 n3 S = some T) (sz : Nat) : Met l yy_R_writeNumber ws_R_writeNumber { frames := 1, cells := 0, slots := 0, locals := 22 } (va_Pc [.ref (ad k), .int n1, .int n2, .int n3] (xs_Pre D ad ca ks S sz)) (va_Qv (fun _ : Unit => True) (fun _ t => va_P D xs_cl (xs_w ad ca ks T) t.heap) (xs_A ad ks sz)) 0 0 (xs_A ad ks sz) := by
  refine xm_v (by decide) (Nat.le_of_ble_eq_true rfl) ?_
  intro p e s m args below meth c R A Q ls hx hb hml hown hts hRf hRl hK hw hl hret
  have hl : lv_has ls 5 [(0, .ref (ad k)), (1, .int n1), (2, .int n2), (3, .int n3)] := hl
  have w_3 : ∀ (f : Nat), ∀ (i4 : Int32) (S : xs_T) (H : Heap) (locs : List Loc) (ls : Array Slot), xs_I D ad ca ks A s S H locs → lv_has ls 5 [(0, .ref (ad k)), (1, .int n1), (2, .int n2), (3, .int n3), (4, .int i4)] → xf_R_writeNumber_3 k n1 n2 n3 f i4 S = some T → W p l e R s m args below meth c H locs 0 0 Q (F0 m 3 ls []) := by
    intro f
    induction f with
    | zero => intro i4 S H locs ls hw hl h; exact absurd h (by simp [xf_R_writeNumber_3])
    | succ f ih =>
      intro i4 S H locs ls hw hl h
      rw [xf_R_writeNumber_3] at h
      refine lv_iload hx hb dd_R_writeNumber_3 (lv_at hl 4 rfl) ?_
      refine lv_iload_n hx hb dd_R_writeNumber_5 rfl (lv_at hl 3 rfl) ?_
      refine lv_icmp_ge hx hb dd_R_writeNumber_6 rfl (fun b1 => ?_) (fun b1 => ?_)
      · replace h := xs_p b1 h
        exact hret h hw dd_R_writeNumber_27
      · replace h := xs_n b1 h
        refine lv_aload_n hx hb dd_R_writeNumber_9 rfl (lv_at hl 0 rfl) ?_
        refine lv_iload_n hx hb dd_R_writeNumber_10 rfl (lv_at hl 1 rfl) ?_
        refine lv_iload_n hx hb dd_R_writeNumber_11 rfl (lv_at hl 2 rfl) ?_
        refine lv_bipush (v := 8) hx hb dd_R_writeNumber_12 rfl ?_
        refine lv_iload hx hb dd_R_writeNumber_14 (lv_at hl 4 rfl) ?_
        refine lv_imul hx hb dd_R_writeNumber_16 ?_
        refine lv_ishr hx hb dd_R_writeNumber_17 ?_
        obtain ⟨q2, gq2, h⟩ := xs_ob h
        refine xq_v hK hw (va_runV (As := [.int n1, .int (n2 >>> (((8 * i4) : Int32) &&& 31) : Int32)]) (rest := []) ⟨hx, hb, hml, hown, hts⟩ (xc_R_write l D ad ca ks k n1 (n2 >>> (((8 * i4) : Int32) &&& 31) : Int32) S q2 hk gq2 _) ⟨callB_of 2 hts (xs_good hw_876) rfl rfl rfl (hts _ hw_13) (hts _ hw_873) yd_R_write ⟨Nat.le_trans (by decide) hRf, Nat.le_trans (by decide) hRl⟩, (hts _ hw_875), (hts _ hs_12)⟩ ⟨xs_blind, xs_recv_R hK hw hk, fun U h1 h2 => ⟨rfl, xs_pre hK hw h1 h2⟩⟩ rfl rfl hl.1 rfl (lv_room (Nat.le_of_ble_eq_true rfl)) dd_R_writeNumber_18 ⟨Nat.zero_le _, Nat.zero_le _⟩) (fun H locs hw => ?_)
        refine lv_iinc (k := 4) (v := i4 + 1) hx hb dd_R_writeNumber_21 hl rfl rfl (by decide) rfl (fun ls hl => ?_)
        have hl : lv_has ls 5 [(4, .int (i4 + 1)), (0, .ref (ad k)), (1, .int n1), (2, .int n2), (3, .int n3)] := hl
        refine lv_goto hx hb dd_R_writeNumber_24 rfl ?_
        exact ih (i4 + 1) q2 _ _ _ hw (lv_sub hl [1, 2, 3, 4, 0] rfl) h
  unfold xf_R_writeNumber at h
  refine lv_iconst (v := 0) hx hb dd_R_writeNumber_0 rfl ?_
  refine lv_istore hx hb dd_R_writeNumber_1 hl (by decide) rfl (fun ls hl => ?_)
  have hl : lv_has ls 5 [(4, .int 0), (0, .ref (ad k)), (1, .int n1), (2, .int n2), (3, .int n3)] := hl
  exact w_3 xs_fuel 0 S _ _ _ hw (lv_sub hl [1, 2, 3, 4, 0] rfl) h
set_option maxHeartbeats 4000000 in
set_option maxRecDepth 100000 in
theorem xc_R_numberAt (l : Launch) (D : va_G) (ad : Nat → Nat) (ca : Nat → ClassId) (ks : List Nat) (k : Nat) (n1 : Int32) (n2 : Int32) (n3 : Int32) (S : xs_T) (r : Int32) (hk : xs_is ks k xs_cR) (h : xf_R_numberAt k n1 n2 n3 S = some r) (sz : Nat) : Met l yy_R_numberAt ws_R_numberAt { frames := 1, cells := 0, slots := 0, locals := 22 } (va_Pc [.ref (ad k), .int n1, .int n2, .int n3] (xs_Pre D ad ca ks S sz)) (va_Qi (fun r1 (_ : Unit) => r1 = r) (fun _ t => va_P D xs_cl (xs_w ad ca ks S) t.heap) (xs_A ad ks sz)) 0 0 (xs_A ad ks sz) := by
  refine xm_ir (by decide) (Nat.le_of_ble_eq_true rfl) ?_
  intro p e s m args below meth c R A Q ls hx hb hml hown hts hRf hRl hK hw hl hret
  have hl : lv_has ls 6 [(0, .ref (ad k)), (1, .int n1), (2, .int n2), (3, .int n3)] := hl
  have w_6 : ∀ (f : Nat), ∀ (i4 : Int32) (i5 : Int32) (H : Heap) (locs : List Loc) (ls : Array Slot), xs_I D ad ca ks A s S H locs → lv_has ls 6 [(0, .ref (ad k)), (1, .int n1), (2, .int n2), (3, .int n3), (4, .int i4), (5, .int i5)] → xf_R_numberAt_6 k n1 n2 n3 S f i4 i5 = some r → W p l e R s m args below meth c H locs 0 0 Q (F0 m 6 ls []) := by
    intro f
    induction f with
    | zero => intro i4 i5 H locs ls hw hl h; exact absurd h (by simp [xf_R_numberAt_6])
    | succ f ih =>
      intro i4 i5 H locs ls hw hl h
      rw [xf_R_numberAt_6] at h
      refine lv_iload hx hb dd_R_numberAt_6 (lv_at hl 5 rfl) ?_
      refine lv_iload_n hx hb dd_R_numberAt_8 rfl (lv_at hl 3 rfl) ?_
      refine lv_icmp_ge hx hb dd_R_numberAt_9 rfl (fun b1 => ?_) (fun b1 => ?_)
      · replace h := xs_p b1 h
        refine lv_iload hx hb dd_R_numberAt_38 (lv_at hl 4 rfl) ?_
        exact hret h hw dd_R_numberAt_40
      · replace h := xs_n b1 h
        refine lv_iload hx hb dd_R_numberAt_12 (lv_at hl 4 rfl) ?_
        refine lv_aload_n hx hb dd_R_numberAt_14 rfl (lv_at hl 0 rfl) ?_
        refine lv_iload_n hx hb dd_R_numberAt_15 rfl (lv_at hl 1 rfl) ?_
        refine lv_iload_n hx hb dd_R_numberAt_16 rfl (lv_at hl 2 rfl) ?_
        refine lv_iload hx hb dd_R_numberAt_17 (lv_at hl 5 rfl) ?_
        refine lv_iadd hx hb dd_R_numberAt_19 ?_
        obtain ⟨q2, gq2, h⟩ := xs_ob h
        refine xq_i hK hw (va_runV (As := [.int n1, .int (n2 + i5)]) (rest := [.int i4]) ⟨hx, hb, hml, hown, hts⟩ (xc_R_at l D ad ca ks k n1 (n2 + i5) S q2 hk gq2 _) ⟨callB_of 2 hts (xs_good hw_888) rfl rfl rfl (hts _ hw_13) (hts _ hw_885) yd_R_at ⟨Nat.le_trans (by decide) hRf, Nat.le_trans (by decide) hRl⟩, (hts _ hw_887), (hts _ hs_15)⟩ ⟨xs_blind, xs_recv_R hK hw hk, fun U h1 h2 => ⟨rfl, xs_pre hK hw h1 h2⟩⟩ rfl rfl hl.1 rfl (lv_room (Nat.le_of_ble_eq_true rfl)) dd_R_numberAt_20 ⟨Nat.zero_le _, Nat.zero_le _⟩) (fun H locs hw => ?_)
        refine lv_bipush (v := 8) hx hb dd_R_numberAt_23 rfl ?_
        refine lv_iload hx hb dd_R_numberAt_25 (lv_at hl 5 rfl) ?_
        refine lv_imul hx hb dd_R_numberAt_27 ?_
        refine lv_ishl hx hb dd_R_numberAt_28 ?_
        refine lv_ior hx hb dd_R_numberAt_29 ?_
        obtain ⟨v3, gv3, h⟩ := xs_ob h
        refine lv_namI gv3 ?_
        refine lv_istore hx hb dd_R_numberAt_30 hl (by decide) rfl (fun ls hl => ?_)
        have hl : lv_has ls 6 [(4, .int v3), (0, .ref (ad k)), (1, .int n1), (2, .int n2), (3, .int n3), (5, .int i5)] := hl
        refine lv_iinc (k := 5) (v := i5 + 1) hx hb dd_R_numberAt_32 hl rfl rfl (by decide) rfl (fun ls hl => ?_)
        have hl : lv_has ls 6 [(5, .int (i5 + 1)), (4, .int v3), (0, .ref (ad k)), (1, .int n1), (2, .int n2), (3, .int n3)] := hl
        refine lv_goto hx hb dd_R_numberAt_35 rfl ?_
        exact ih v3 (i5 + 1) _ _ _ hw (lv_sub hl [2, 3, 4, 5, 1, 0] rfl) h
  unfold xf_R_numberAt at h
  refine lv_iconst (v := 0) hx hb dd_R_numberAt_0 rfl ?_
  refine lv_istore hx hb dd_R_numberAt_1 hl (by decide) rfl (fun ls hl => ?_)
  have hl : lv_has ls 6 [(4, .int 0), (0, .ref (ad k)), (1, .int n1), (2, .int n2), (3, .int n3)] := hl
  refine lv_iconst (v := 0) hx hb dd_R_numberAt_3 rfl ?_
  refine lv_istore hx hb dd_R_numberAt_4 hl (by decide) rfl (fun ls hl => ?_)
  have hl : lv_has ls 6 [(5, .int 0), (4, .int 0), (0, .ref (ad k)), (1, .int n1), (2, .int n2), (3, .int n3)] := hl
  exact w_6 xs_fuel 0 0 _ _ _ hw (lv_sub hl [2, 3, 4, 5, 1, 0] rfl) h
set_option maxHeartbeats 4000000 in
set_option maxRecDepth 100000 in
theorem xc_R_copyFrame (l : Launch) (D : va_G) (ad : Nat → Nat) (ca : Nat → ClassId) (ks : List Nat) (k : Nat) (n1 : Int32) (n2 : Int32) (S : xs_T) (T : xs_T) (hk : xs_is ks k xs_cR) (h : xf_R_copyFrame k n1 n2 S = some T) (sz : Nat) : Met l yy_R_copyFrame ws_R_copyFrame { frames := 0, cells := 0, slots := 0, locals := 0 } (va_Pc [.ref (ad k), .int n1, .int n2] (xs_Pre D ad ca ks S sz)) (va_Qv (fun _ : Unit => True) (fun _ t => va_P D xs_cl (xs_w ad ca ks T) t.heap) (xs_A ad ks sz)) 0 0 (xs_A ad ks sz) := by
  refine xm_v (by decide) (Nat.le_of_ble_eq_true rfl) ?_
  intro p e s m args below meth c R A Q ls hx hb hml hown hts hRf hRl hK hw hl hret
  have hl : lv_has ls 4 [(0, .ref (ad k)), (1, .int n1), (2, .int n2)] := hl
  have w_2 : ∀ (f : Nat), ∀ (i3 : Int32) (S : xs_T) (H : Heap) (locs : List Loc) (ls : Array Slot), xs_I D ad ca ks A s S H locs → lv_has ls 4 [(0, .ref (ad k)), (1, .int n1), (2, .int n2), (3, .int i3)] → xf_R_copyFrame_2 k n1 n2 f i3 S = some T → W p l e R s m args below meth c H locs 0 0 Q (F0 m 2 ls []) := by
    intro f
    induction f with
    | zero => intro i3 S H locs ls hw hl h; exact absurd h (by simp [xf_R_copyFrame_2])
    | succ f ih =>
      intro i3 S H locs ls hw hl h
      rw [xf_R_copyFrame_2] at h
      refine lv_iload_n hx hb dd_R_copyFrame_2 rfl (lv_at hl 3 rfl) ?_
      refine lv_bipush (v := 32) hx hb dd_R_copyFrame_3 rfl ?_
      refine lv_icmp_ge hx hb dd_R_copyFrame_5 rfl (fun b1 => ?_) (fun b1 => ?_)
      · replace h := xs_p b1 h
        refine lv_aload_n hx hb dd_R_copyFrame_36 rfl (lv_at hl 0 rfl) ?_
        refine xr_get_R (v := .ref (ad (k + 10))) hx hb hts hown hK hw hk 10 (by decide) (hts _ hw_753) rfl dd_R_copyFrame_37 ?_
        refine lv_iload_n hx hb dd_R_copyFrame_40 rfl (lv_at hl 2 rfl) ?_
        refine lv_aload_n hx hb dd_R_copyFrame_41 rfl (lv_at hl 0 rfl) ?_
        refine xr_get_R (v := .ref (ad (k + 10))) hx hb hts hown hK hw hk 10 (by decide) (hts _ hw_753) rfl dd_R_copyFrame_42 ?_
        refine lv_iload_n hx hb dd_R_copyFrame_45 rfl (lv_at hl 1 rfl) ?_
        obtain ⟨v2, gv2, h⟩ := xs_ob h
        refine xr_iald hx hb hK hw (xs_ok_R_length hK.1 hk) gv2 dd_R_copyFrame_46 ?_
        obtain ⟨S3, gS3, h⟩ := xs_ob h
        refine xr_iast hx hb hK hw (xs_ok_R_length hK.1 hk) gS3 dd_R_copyFrame_47 (fun H locs hw => ?_)
        refine lv_aload_n hx hb dd_R_copyFrame_48 rfl (lv_at hl 0 rfl) ?_
        refine xr_get_R (v := .ref (ad (k + 11))) hx hb hts hown hK hw hk 11 (by decide) (hts _ hw_754) rfl dd_R_copyFrame_49 ?_
        refine lv_iload_n hx hb dd_R_copyFrame_52 rfl (lv_at hl 2 rfl) ?_
        refine lv_aload_n hx hb dd_R_copyFrame_53 rfl (lv_at hl 0 rfl) ?_
        refine xr_get_R (v := .ref (ad (k + 11))) hx hb hts hown hK hw hk 11 (by decide) (hts _ hw_754) rfl dd_R_copyFrame_54 ?_
        refine lv_iload_n hx hb dd_R_copyFrame_57 rfl (lv_at hl 1 rfl) ?_
        obtain ⟨v4, gv4, h⟩ := xs_ob h
        refine xr_iald hx hb hK hw (xs_ok_R_goal hK.1 hk) gv4 dd_R_copyFrame_58 ?_
        obtain ⟨S5, gS5, h⟩ := xs_ob h
        refine xr_iast hx hb hK hw (xs_ok_R_goal hK.1 hk) gS5 dd_R_copyFrame_59 (fun H locs hw => ?_)
        exact hret h hw dd_R_copyFrame_60
      · replace h := xs_n b1 h
        refine lv_aload_n hx hb dd_R_copyFrame_8 rfl (lv_at hl 0 rfl) ?_
        refine xr_get_R (v := .ref (ad (k + 9))) hx hb hts hown hK hw hk 9 (by decide) (hts _ hw_752) rfl dd_R_copyFrame_9 ?_
        refine lv_bipush (v := 32) hx hb dd_R_copyFrame_12 rfl ?_
        refine lv_iload_n hx hb dd_R_copyFrame_14 rfl (lv_at hl 2 rfl) ?_
        refine lv_imul hx hb dd_R_copyFrame_15 ?_
        refine lv_iload_n hx hb dd_R_copyFrame_16 rfl (lv_at hl 3 rfl) ?_
        refine lv_iadd hx hb dd_R_copyFrame_17 ?_
        refine lv_aload_n hx hb dd_R_copyFrame_18 rfl (lv_at hl 0 rfl) ?_
        refine xr_get_R (v := .ref (ad (k + 9))) hx hb hts hown hK hw hk 9 (by decide) (hts _ hw_752) rfl dd_R_copyFrame_19 ?_
        refine lv_bipush (v := 32) hx hb dd_R_copyFrame_22 rfl ?_
        refine lv_iload_n hx hb dd_R_copyFrame_24 rfl (lv_at hl 1 rfl) ?_
        refine lv_imul hx hb dd_R_copyFrame_25 ?_
        refine lv_iload_n hx hb dd_R_copyFrame_26 rfl (lv_at hl 3 rfl) ?_
        refine lv_iadd hx hb dd_R_copyFrame_27 ?_
        obtain ⟨v6, gv6, h⟩ := xs_ob h
        refine xr_iald hx hb hK hw (xs_ok_R_bytes hK.1 hk) gv6 dd_R_copyFrame_28 ?_
        obtain ⟨S7, gS7, h⟩ := xs_ob h
        refine xr_iast hx hb hK hw (xs_ok_R_bytes hK.1 hk) gS7 dd_R_copyFrame_29 (fun H locs hw => ?_)
        refine lv_iinc (k := 3) (v := i3 + 1) hx hb dd_R_copyFrame_30 hl rfl rfl (by decide) rfl (fun ls hl => ?_)
        have hl : lv_has ls 4 [(3, .int (i3 + 1)), (0, .ref (ad k)), (1, .int n1), (2, .int n2)] := hl
        refine lv_goto hx hb dd_R_copyFrame_33 rfl ?_
        exact ih (i3 + 1) S7 _ _ _ hw (lv_sub hl [1, 2, 3, 0] rfl) h
  unfold xf_R_copyFrame at h
  refine lv_iconst (v := 0) hx hb dd_R_copyFrame_0 rfl ?_
  refine lv_istore_n hx hb dd_R_copyFrame_1 rfl hl (by decide) rfl (fun ls hl => ?_)
  have hl : lv_has ls 4 [(3, .int 0), (0, .ref (ad k)), (1, .int n1), (2, .int n2)] := hl
  exact w_2 xs_fuel 0 S _ _ _ hw (lv_sub hl [1, 2, 3, 0] rfl) h
set_option maxHeartbeats 4000000 in
set_option maxRecDepth 100000 in
theorem xc_R_post (l : Launch) (D : va_G) (ad : Nat → Nat) (ca : Nat → ClassId) (ks : List Nat) (k : Nat) (n1 : Int32) (S : xs_T) (T : xs_T) (hk : xs_is ks k xs_cR) (h : xf_R_post k n1 S = some T) (sz : Nat) : Met l yy_R_post ws_R_post { frames := 1, cells := 0, slots := 0, locals := 23 } (va_Pc [.ref (ad k), .int n1] (xs_Pre D ad ca ks S sz)) (va_Qv (fun _ : Unit => True) (fun _ t => va_P D xs_cl (xs_w ad ca ks T) t.heap) (xs_A ad ks sz)) 0 0 (xs_A ad ks sz) := by
  refine xm_v (by decide) (Nat.le_of_ble_eq_true rfl) ?_
  intro p e s m args below meth c R A Q ls hx hb hml hown hts hRf hRl hK hw hl hret
  have hl : lv_has ls 2 [(0, .ref (ad k)), (1, .int n1)] := hl
  unfold xf_R_post at h
  refine lv_aload_n hx hb dd_R_post_0 rfl (lv_at hl 0 rfl) ?_
  refine lv_iload_n hx hb dd_R_post_1 rfl (lv_at hl 1 rfl) ?_
  refine lv_bipush (v := 12) hx hb dd_R_post_2 rfl ?_
  refine lv_aload_n hx hb dd_R_post_4 rfl (lv_at hl 0 rfl) ?_
  refine xr_get_R (v := .int (xs_gI S k 13)) hx hb hts hown hK hw hk 13 (by decide) (hts _ hw_756) rfl dd_R_post_5 ?_
  refine lv_bipush (v := 8) hx hb dd_R_post_8 rfl ?_
  refine lv_irem hx hb dd_R_post_10 (by decide) ?_
  refine lv_asI (v := xs_rem (xs_gI S k 13) 8) rfl ?_
  refine lv_iadd hx hb dd_R_post_11 ?_
  obtain ⟨q1, gq1, h⟩ := xs_ob h
  refine xq_v hK hw (va_runV (As := [.int n1, .int (12 + (xs_rem (xs_gI S k 13) 8))]) (rest := []) ⟨hx, hb, hml, hown, hts⟩ (xc_R_copyFrame l D ad ca ks k n1 (12 + (xs_rem (xs_gI S k 13) 8)) S q1 hk gq1 _) ⟨callB_of 2 hts (xs_good hw_928) rfl rfl rfl (hts _ hw_13) (hts _ hw_925) yd_R_copyFrame ⟨Nat.le_trans (by decide) hRf, Nat.le_trans (by decide) hRl⟩, (hts _ hw_927), (hts _ hs_25)⟩ ⟨xs_blind, xs_recv_R hK hw hk, fun U h1 h2 => ⟨rfl, xs_pre hK hw h1 h2⟩⟩ rfl rfl hl.1 rfl (lv_room (Nat.le_of_ble_eq_true rfl)) dd_R_post_12 ⟨Nat.zero_le _, Nat.zero_le _⟩) (fun H locs hw => ?_)
  refine lv_aload_n hx hb dd_R_post_15 rfl (lv_at hl 0 rfl) ?_
  refine lv_dup hx hb dd_R_post_16 rfl ?_
  refine xr_get_R (v := .int (xs_gI q1 k 13)) hx hb hts hown hK hw hk 13 (by decide) (hts _ hw_756) rfl dd_R_post_17 ?_
  refine lv_iconst (v := 1) hx hb dd_R_post_20 rfl ?_
  refine lv_iadd hx hb dd_R_post_21 ?_
  obtain ⟨S2, gS2, h⟩ := xs_ob h
  refine xr_putI_R hx hb hts hown hK hw hk 13 (by decide) (hts _ hw_756) rfl rfl (fun _ _ => rfl) gS2 dd_R_post_22 (fun H locs hw => ?_)
  refine lv_aload_n hx hb dd_R_post_25 rfl (lv_at hl 0 rfl) ?_
  refine xr_get_R (v := .int (xs_gI S2 k 12)) hx hb hts hown hK hw hk 12 (by decide) (hts _ hw_755) rfl dd_R_post_26 ?_
  refine lv_bipush (v := 12) hx hb dd_R_post_29 rfl ?_
  refine lv_icmp_ge hx hb dd_R_post_31 rfl (fun b3 => ?_) (fun b3 => ?_)
  · replace h := xs_p b3 h
    exact hret h hw dd_R_post_53
  · replace h := xs_n b3 h
    refine lv_aload_n hx hb dd_R_post_34 rfl (lv_at hl 0 rfl) ?_
    refine lv_iload_n hx hb dd_R_post_35 rfl (lv_at hl 1 rfl) ?_
    refine lv_aload_n hx hb dd_R_post_36 rfl (lv_at hl 0 rfl) ?_
    refine xr_get_R (v := .int (xs_gI S2 k 12)) hx hb hts hown hK hw hk 12 (by decide) (hts _ hw_755) rfl dd_R_post_37 ?_
    obtain ⟨q4, gq4, h⟩ := xs_ob h
    refine xq_v hK hw (va_runV (As := [.int n1, .int (xs_gI S2 k 12)]) (rest := []) ⟨hx, hb, hml, hown, hts⟩ (xc_R_copyFrame l D ad ca ks k n1 (xs_gI S2 k 12) S2 q4 hk gq4 _) ⟨callB_of 2 hts (xs_good hw_928) rfl rfl rfl (hts _ hw_13) (hts _ hw_925) yd_R_copyFrame ⟨Nat.le_trans (by decide) hRf, Nat.le_trans (by decide) hRl⟩, (hts _ hw_927), (hts _ hs_25)⟩ ⟨xs_blind, xs_recv_R hK hw hk, fun U h1 h2 => ⟨rfl, xs_pre hK hw h1 h2⟩⟩ rfl rfl hl.1 rfl (lv_room (Nat.le_of_ble_eq_true rfl)) dd_R_post_40 ⟨Nat.zero_le _, Nat.zero_le _⟩) (fun H locs hw => ?_)
    refine lv_aload_n hx hb dd_R_post_43 rfl (lv_at hl 0 rfl) ?_
    refine lv_dup hx hb dd_R_post_44 rfl ?_
    refine xr_get_R (v := .int (xs_gI q4 k 12)) hx hb hts hown hK hw hk 12 (by decide) (hts _ hw_755) rfl dd_R_post_45 ?_
    refine lv_iconst (v := 1) hx hb dd_R_post_48 rfl ?_
    refine lv_iadd hx hb dd_R_post_49 ?_
    obtain ⟨S5, gS5, h⟩ := xs_ob h
    refine xr_putI_R hx hb hts hown hK hw hk 12 (by decide) (hts _ hw_755) rfl rfl (fun _ _ => rfl) gS5 dd_R_post_50 (fun H locs hw => ?_)
    exact hret h hw dd_R_post_53
set_option maxHeartbeats 4000000 in
set_option maxRecDepth 100000 in
theorem xc_R_leave (l : Launch) (D : va_G) (ad : Nat → Nat) (ca : Nat → ClassId) (ks : List Nat) (k : Nat) (n1 : Int32) (S : xs_T) (T : xs_T) (hk : xs_is ks k xs_cR) (h : xf_R_leave k n1 S = some T) (sz : Nat) : Met l yy_R_leave ws_R_leave { frames := 1, cells := 0, slots := 0, locals := 23 } (va_Pc [.ref (ad k), .int n1] (xs_Pre D ad ca ks S sz)) (va_Qv (fun _ : Unit => True) (fun _ t => va_P D xs_cl (xs_w ad ca ks T) t.heap) (xs_A ad ks sz)) 0 0 (xs_A ad ks sz) := by
  refine xm_v (by decide) (Nat.le_of_ble_eq_true rfl) ?_
  intro p e s m args below meth c R A Q ls hx hb hml hown hts hRf hRl hK hw hl hret
  have hl : lv_has ls 3 [(0, .ref (ad k)), (1, .int n1)] := hl
  have w_12 : ∀ (f : Nat), ∀ (i2 : Int32) (S : xs_T) (H : Heap) (locs : List Loc) (ls : Array Slot), xs_I D ad ca ks A s S H locs → lv_has ls 3 [(0, .ref (ad k)), (2, .int i2)] → xf_R_leave_12 k n1 f i2 S = some T → W p l e R s m args below meth c H locs 0 0 Q (F0 m 12 ls []) := by
    intro f
    induction f with
    | zero => intro i2 S H locs ls hw hl h; exact absurd h (by simp [xf_R_leave_12])
    | succ f ih =>
      intro i2 S H locs ls hw hl h
      rw [xf_R_leave_12] at h
      refine lv_iload_n hx hb dd_R_leave_12 rfl (lv_at hl 1 rfl) ?_
      refine lv_aload_n hx hb dd_R_leave_13 rfl (lv_at hl 0 rfl) ?_
      refine xr_get_R (v := .int (xs_gI S k 12)) hx hb hts hown hK hw hk 12 (by decide) (hts _ hw_755) rfl dd_R_leave_14 ?_
      refine lv_icmp_ge hx hb dd_R_leave_17 rfl (fun b2 => ?_) (fun b2 => ?_)
      · replace h := xs_p b2 h
        exact hret h hw dd_R_leave_34
      · replace h := xs_n b2 h
        refine lv_aload_n hx hb dd_R_leave_20 rfl (lv_at hl 0 rfl) ?_
        refine lv_iload_n hx hb dd_R_leave_21 rfl (lv_at hl 1 rfl) ?_
        refine lv_iconst (v := 1) hx hb dd_R_leave_22 rfl ?_
        refine lv_iadd hx hb dd_R_leave_23 ?_
        refine lv_iload_n hx hb dd_R_leave_24 rfl (lv_at hl 1 rfl) ?_
        obtain ⟨q3, gq3, h⟩ := xs_ob h
        refine xq_v hK hw (va_runV (As := [.int (i2 + 1), .int i2]) (rest := []) ⟨hx, hb, hml, hown, hts⟩ (xc_R_copyFrame l D ad ca ks k (i2 + 1) i2 S q3 hk gq3 _) ⟨callB_of 2 hts (xs_good hw_928) rfl rfl rfl (hts _ hw_13) (hts _ hw_925) yd_R_copyFrame ⟨Nat.le_trans (by decide) hRf, Nat.le_trans (by decide) hRl⟩, (hts _ hw_927), (hts _ hs_25)⟩ ⟨xs_blind, xs_recv_R hK hw hk, fun U h1 h2 => ⟨rfl, xs_pre hK hw h1 h2⟩⟩ rfl rfl hl.1 rfl (lv_room (Nat.le_of_ble_eq_true rfl)) dd_R_leave_25 ⟨Nat.zero_le _, Nat.zero_le _⟩) (fun H locs hw => ?_)
        refine lv_iinc (k := 1) (v := i2 + 1) hx hb dd_R_leave_28 hl rfl rfl (by decide) rfl (fun ls hl => ?_)
        have hl : lv_has ls 3 [(2, .int (i2 + 1)), (0, .ref (ad k))] := hl
        refine lv_goto hx hb dd_R_leave_31 rfl ?_
        exact ih (i2 + 1) q3 _ _ _ hw (lv_sub hl [1, 0] rfl) h
  unfold xf_R_leave at h
  refine lv_aload_n hx hb dd_R_leave_0 rfl (lv_at hl 0 rfl) ?_
  refine lv_dup hx hb dd_R_leave_1 rfl ?_
  refine xr_get_R (v := .int (xs_gI S k 12)) hx hb hts hown hK hw hk 12 (by decide) (hts _ hw_755) rfl dd_R_leave_2 ?_
  refine lv_iconst (v := 1) hx hb dd_R_leave_5 rfl ?_
  refine lv_isub hx hb dd_R_leave_6 ?_
  obtain ⟨S1, gS1, h⟩ := xs_ob h
  refine xr_putI_R hx hb hts hown hK hw hk 12 (by decide) (hts _ hw_755) rfl rfl (fun _ _ => rfl) gS1 dd_R_leave_7 (fun H locs hw => ?_)
  refine lv_iload_n hx hb dd_R_leave_10 rfl (lv_at hl 1 rfl) ?_
  refine lv_istore_n hx hb dd_R_leave_11 rfl hl (by decide) rfl (fun ls hl => ?_)
  have hl : lv_has ls 3 [(2, .int n1), (0, .ref (ad k)), (1, .int n1)] := hl
  exact w_12 xs_fuel n1 S1 _ _ _ hw (lv_sub hl [1, 0] rfl) h
set_option maxHeartbeats 4000000 in
set_option maxRecDepth 100000 in
theorem xc_R_rowHead (l : Launch) (D : va_G) (ad : Nat → Nat) (ca : Nat → ClassId) (ks : List Nat) (k : Nat) (n1 : Int32) (n2 : Int32) (n3 : Int32) (n4 : Int32) (S : xs_T) (T : xs_T) (hk : xs_is ks k xs_cR) (h : xf_R_rowHead k n1 n2 n3 n4 S = some T) (sz : Nat) : Met l yy_R_rowHead ws_R_rowHead { frames := 0, cells := 0, slots := 0, locals := 0 } (va_Pc [.ref (ad k), .int n1, .int n2, .int n3, .int n4] (xs_Pre D ad ca ks S sz)) (va_Qv (fun _ : Unit => True) (fun _ t => va_P D xs_cl (xs_w ad ca ks T) t.heap) (xs_A ad ks sz)) 0 0 (xs_A ad ks sz) := by
  refine xm_v (by decide) (Nat.le_of_ble_eq_true rfl) ?_
  intro p e s m args below meth c R A Q ls hx hb hml hown hts hRf hRl hK hw hl hret
  have hl : lv_has ls 6 [(0, .ref (ad k)), (1, .int n1), (2, .int n2), (3, .int n3), (4, .int n4)] := hl
  have w_41 : ∀ (f : Nat), ∀ (i5 : Int32) (S : xs_T) (H : Heap) (locs : List Loc) (ls : Array Slot), xs_I D ad ca ks A s S H locs → lv_has ls 6 [(0, .ref (ad k)), (3, .int n3), (4, .int n4), (5, .int i5)] → xf_R_rowHead_41 k n1 n2 n3 n4 f i5 S = some T → W p l e R s m args below meth c H locs 0 0 Q (F0 m 41 ls []) := by
    intro f
    induction f with
    | zero => intro i5 S H locs ls hw hl h; exact absurd h (by simp [xf_R_rowHead_41])
    | succ f ih =>
      intro i5 S H locs ls hw hl h
      rw [xf_R_rowHead_41] at h
      refine lv_iload hx hb dd_R_rowHead_41 (lv_at hl 3 rfl) ?_
      refine lv_iconst (v := 4) hx hb dd_R_rowHead_43 rfl ?_
      refine lv_icmp_ge hx hb dd_R_rowHead_44 rfl (fun b4 => ?_) (fun b4 => ?_)
      · replace h := xs_p b4 h
        exact hret h hw dd_R_rowHead_96
      · replace h := xs_n b4 h
        refine lv_aload_n hx hb dd_R_rowHead_47 rfl (lv_at hl 0 rfl) ?_
        refine xr_get_R (v := .ref (ad (k + 8))) hx hb hts hown hK hw hk 7 (by decide) (hts _ hw_750) rfl dd_R_rowHead_48 ?_
        refine lv_bipush (v := 6) hx hb dd_R_rowHead_51 rfl ?_
        refine lv_iload hx hb dd_R_rowHead_53 (lv_at hl 3 rfl) ?_
        refine lv_iadd hx hb dd_R_rowHead_55 ?_
        refine lv_iload_n hx hb dd_R_rowHead_56 rfl (lv_at hl 1 rfl) ?_
        refine lv_bipush (v := 8) hx hb dd_R_rowHead_57 rfl ?_
        refine lv_iload hx hb dd_R_rowHead_59 (lv_at hl 3 rfl) ?_
        refine lv_imul hx hb dd_R_rowHead_61 ?_
        refine lv_ishr hx hb dd_R_rowHead_62 ?_
        refine lv_sipush (v := 255) hx hb dd_R_rowHead_63 rfl ?_
        refine lv_iand hx hb dd_R_rowHead_66 ?_
        obtain ⟨S5, gS5, h⟩ := xs_ob h
        refine xr_iast hx hb hK hw (xs_ok_R_row hK.1 hk) gS5 dd_R_rowHead_67 (fun H locs hw => ?_)
        refine lv_aload_n hx hb dd_R_rowHead_68 rfl (lv_at hl 0 rfl) ?_
        refine xr_get_R (v := .ref (ad (k + 8))) hx hb hts hown hK hw hk 7 (by decide) (hts _ hw_750) rfl dd_R_rowHead_69 ?_
        refine lv_bipush (v := 10) hx hb dd_R_rowHead_72 rfl ?_
        refine lv_iload hx hb dd_R_rowHead_74 (lv_at hl 3 rfl) ?_
        refine lv_iadd hx hb dd_R_rowHead_76 ?_
        refine lv_iload hx hb dd_R_rowHead_77 (lv_at hl 2 rfl) ?_
        refine lv_bipush (v := 8) hx hb dd_R_rowHead_79 rfl ?_
        refine lv_iload hx hb dd_R_rowHead_81 (lv_at hl 3 rfl) ?_
        refine lv_imul hx hb dd_R_rowHead_83 ?_
        refine lv_ishr hx hb dd_R_rowHead_84 ?_
        refine lv_sipush (v := 255) hx hb dd_R_rowHead_85 rfl ?_
        refine lv_iand hx hb dd_R_rowHead_88 ?_
        obtain ⟨S6, gS6, h⟩ := xs_ob h
        refine xr_iast hx hb hK hw (xs_ok_R_row hK.1 hk) gS6 dd_R_rowHead_89 (fun H locs hw => ?_)
        refine lv_iinc (k := 3) (v := i5 + 1) hx hb dd_R_rowHead_90 hl rfl rfl (by decide) rfl (fun ls hl => ?_)
        have hl : lv_has ls 6 [(5, .int (i5 + 1)), (0, .ref (ad k)), (3, .int n3), (4, .int n4)] := hl
        refine lv_goto hx hb dd_R_rowHead_93 rfl ?_
        exact ih (i5 + 1) S6 _ _ _ hw (lv_sub hl [1, 2, 3, 0] rfl) h
  have w_3 : ∀ (f : Nat), ∀ (i5 : Int32) (S : xs_T) (H : Heap) (locs : List Loc) (ls : Array Slot), xs_I D ad ca ks A s S H locs → lv_has ls 6 [(0, .ref (ad k)), (1, .int n1), (2, .int n2), (3, .int n3), (4, .int n4), (5, .int i5)] → xf_R_rowHead_3 k n1 n2 n3 n4 f i5 S = some T → W p l e R s m args below meth c H locs 0 0 Q (F0 m 3 ls []) := by
    intro f
    induction f with
    | zero => intro i5 S H locs ls hw hl h; exact absurd h (by simp [xf_R_rowHead_3])
    | succ f ih =>
      intro i5 S H locs ls hw hl h
      rw [xf_R_rowHead_3] at h
      refine lv_iload hx hb dd_R_rowHead_3 (lv_at hl 5 rfl) ?_
      refine lv_bipush (v := 16) hx hb dd_R_rowHead_5 rfl ?_
      refine lv_icmp_ge hx hb dd_R_rowHead_7 rfl (fun b1 => ?_) (fun b1 => ?_)
      · replace h := xs_p b1 h
        refine lv_aload_n hx hb dd_R_rowHead_24 rfl (lv_at hl 0 rfl) ?_
        refine xr_get_R (v := .ref (ad (k + 8))) hx hb hts hown hK hw hk 7 (by decide) (hts _ hw_750) rfl dd_R_rowHead_25 ?_
        refine lv_iconst (v := 0) hx hb dd_R_rowHead_28 rfl ?_
        refine lv_iload_n hx hb dd_R_rowHead_29 rfl (lv_at hl 1 rfl) ?_
        obtain ⟨S2, gS2, h⟩ := xs_ob h
        refine xr_iast hx hb hK hw (xs_ok_R_row hK.1 hk) gS2 dd_R_rowHead_30 (fun H locs hw => ?_)
        refine lv_aload_n hx hb dd_R_rowHead_31 rfl (lv_at hl 0 rfl) ?_
        refine xr_get_R (v := .ref (ad (k + 8))) hx hb hts hown hK hw hk 7 (by decide) (hts _ hw_750) rfl dd_R_rowHead_32 ?_
        refine lv_iconst (v := 5) hx hb dd_R_rowHead_35 rfl ?_
        refine lv_iload_n hx hb dd_R_rowHead_36 rfl (lv_at hl 2 rfl) ?_
        obtain ⟨S3, gS3, h⟩ := xs_ob h
        refine xr_iast hx hb hK hw (xs_ok_R_row hK.1 hk) gS3 dd_R_rowHead_37 (fun H locs hw => ?_)
        refine lv_iconst (v := 0) hx hb dd_R_rowHead_38 rfl ?_
        refine lv_istore hx hb dd_R_rowHead_39 hl (by decide) rfl (fun ls hl => ?_)
        have hl : lv_has ls 6 [(5, .int 0), (0, .ref (ad k)), (1, .int n1), (2, .int n2), (3, .int n3), (4, .int n4)] := hl
        exact w_41 xs_fuel 0 S3 _ _ _ hw (lv_sub hl [1, 4, 5, 0] rfl) h
      · replace h := xs_n b1 h
        refine lv_aload_n hx hb dd_R_rowHead_10 rfl (lv_at hl 0 rfl) ?_
        refine xr_get_R (v := .ref (ad (k + 8))) hx hb hts hown hK hw hk 7 (by decide) (hts _ hw_750) rfl dd_R_rowHead_11 ?_
        refine lv_iload hx hb dd_R_rowHead_14 (lv_at hl 5 rfl) ?_
        refine lv_iconst (v := 0) hx hb dd_R_rowHead_16 rfl ?_
        obtain ⟨S7, gS7, h⟩ := xs_ob h
        refine xr_iast hx hb hK hw (xs_ok_R_row hK.1 hk) gS7 dd_R_rowHead_17 (fun H locs hw => ?_)
        refine lv_iinc (k := 5) (v := i5 + 1) hx hb dd_R_rowHead_18 hl rfl rfl (by decide) rfl (fun ls hl => ?_)
        have hl : lv_has ls 6 [(5, .int (i5 + 1)), (0, .ref (ad k)), (1, .int n1), (2, .int n2), (3, .int n3), (4, .int n4)] := hl
        refine lv_goto hx hb dd_R_rowHead_21 rfl ?_
        exact ih (i5 + 1) S7 _ _ _ hw (lv_sub hl [1, 2, 3, 4, 5, 0] rfl) h
  unfold xf_R_rowHead at h
  refine lv_iconst (v := 0) hx hb dd_R_rowHead_0 rfl ?_
  refine lv_istore hx hb dd_R_rowHead_1 hl (by decide) rfl (fun ls hl => ?_)
  have hl : lv_has ls 6 [(5, .int 0), (0, .ref (ad k)), (1, .int n1), (2, .int n2), (3, .int n3), (4, .int n4)] := hl
  exact w_3 xs_fuel 0 S _ _ _ hw (lv_sub hl [1, 2, 3, 4, 5, 0] rfl) h
set_option maxHeartbeats 4000000 in
set_option maxRecDepth 100000 in
theorem xc_R_dataCode (l : Launch) (D : va_G) (ad : Nat → Nat) (ca : Nat → ClassId) (ks : List Nat) (k : Nat) (n1 : Int32) (n2 : Int32) (n3 : Int32) (n4 : Int32) (n5 : Int32) (n6 : Int32) (S : xs_T) (T : xs_T) (hk : xs_is ks k xs_cR) (h : xf_R_dataCode k n1 n2 n3 n4 n5 n6 S = some T) (sz : Nat) : Met l yy_R_dataCode ws_R_dataCode { frames := 5, cells := 0, slots := 0, locals := 119 } (va_Pc [.ref (ad k), .int n1, .int n2, .int n3, .int n4, .int n5, .int n6] (xs_Pre D ad ca ks S sz)) (va_Qv (fun _ : Unit => True) (fun _ t => va_P D xs_cl (xs_w ad ca ks T) t.heap) (xs_A ad ks sz)) 0 0 (xs_A ad ks sz) := by
  refine xm_v (by decide) (Nat.le_of_ble_eq_true rfl) ?_
  intro p e s m args below meth c R A Q ls hx hb hml hown hts hRf hRl hK hw hl hret
  have hl : lv_has ls 8 [(0, .ref (ad k)), (1, .int n1), (2, .int n2), (3, .int n3), (4, .int n4), (5, .int n5), (6, .int n6)] := hl
  have w_23 : ∀ (f : Nat), ∀ (i7 : Int32) (S : xs_T) (H : Heap) (locs : List Loc) (ls : Array Slot), xs_I D ad ca ks A s S H locs → lv_has ls 8 [(0, .ref (ad k)), (1, .int n1), (2, .int n2), (3, .int n3), (7, .int i7)] → xf_R_dataCode_23 k n1 n2 n3 n4 n5 n6 f i7 S = some T → W p l e R s m args below meth c H locs 0 0 Q (F0 m 23 ls []) := by
    intro f
    induction f with
    | zero => intro i7 S H locs ls hw hl h; exact absurd h (by simp [xf_R_dataCode_23])
    | succ f ih =>
      intro i7 S H locs ls hw hl h
      rw [xf_R_dataCode_23] at h
      refine lv_iload hx hb dd_R_dataCode_23 (lv_at hl 4 rfl) ?_
      refine lv_iload_n hx hb dd_R_dataCode_25 rfl (lv_at hl 2 rfl) ?_
      refine lv_icmp_ge hx hb dd_R_dataCode_26 rfl (fun b3 => ?_) (fun b3 => ?_)
      · replace h := xs_p b3 h
        refine lv_aload_n hx hb dd_R_dataCode_52 rfl (lv_at hl 0 rfl) ?_
        refine lv_iload_n hx hb dd_R_dataCode_53 rfl (lv_at hl 3 rfl) ?_
        refine lv_bipush (v := 16) hx hb dd_R_dataCode_54 rfl ?_
        refine lv_iload_n hx hb dd_R_dataCode_56 rfl (lv_at hl 2 rfl) ?_
        refine lv_iadd hx hb dd_R_dataCode_57 ?_
        obtain ⟨q4, gq4, h⟩ := xs_ob h
        refine xq_v hK hw (va_runV (As := [.int n3, .int (16 + n2)]) (rest := []) ⟨hx, hb, hml, hown, hts⟩ (xc_R_mac l D ad ca ks k n3 (16 + n2) S q4 hk gq4 _) ⟨callB_of 2 hts (xs_good hw_892) rfl rfl rfl (hts _ hw_13) (hts _ hw_889) yd_R_mac ⟨Nat.le_trans (by decide) hRf, Nat.le_trans (by decide) hRl⟩, (hts _ hw_891), (hts _ hs_16)⟩ ⟨xs_blind, xs_recv_R hK hw hk, fun U h1 h2 => ⟨rfl, xs_pre hK hw h1 h2⟩⟩ rfl rfl hl.1 rfl (lv_room (Nat.le_of_ble_eq_true rfl)) dd_R_dataCode_58 ⟨Nat.zero_le _, Nat.zero_le _⟩) (fun H locs hw => ?_)
        exact hret h hw dd_R_dataCode_61
      · replace h := xs_n b3 h
        refine lv_aload_n hx hb dd_R_dataCode_29 rfl (lv_at hl 0 rfl) ?_
        refine xr_get_R (v := .ref (ad (k + 8))) hx hb hts hown hK hw hk 7 (by decide) (hts _ hw_750) rfl dd_R_dataCode_30 ?_
        refine lv_bipush (v := 16) hx hb dd_R_dataCode_33 rfl ?_
        refine lv_iload hx hb dd_R_dataCode_35 (lv_at hl 4 rfl) ?_
        refine lv_iadd hx hb dd_R_dataCode_37 ?_
        refine lv_aload_n hx hb dd_R_dataCode_38 rfl (lv_at hl 0 rfl) ?_
        refine lv_iload_n hx hb dd_R_dataCode_39 rfl (lv_at hl 1 rfl) ?_
        refine lv_iload hx hb dd_R_dataCode_40 (lv_at hl 4 rfl) ?_
        obtain ⟨q5, gq5, h⟩ := xs_ob h
        refine xq_i hK hw (va_runV (As := [.int n1, .int i7]) (rest := [.int (16 + i7), .ref (ad (k + 8))]) ⟨hx, hb, hml, hown, hts⟩ (xc_R_at l D ad ca ks k n1 i7 S q5 hk gq5 _) ⟨callB_of 2 hts (xs_good hw_888) rfl rfl rfl (hts _ hw_13) (hts _ hw_885) yd_R_at ⟨Nat.le_trans (by decide) hRf, Nat.le_trans (by decide) hRl⟩, (hts _ hw_887), (hts _ hs_15)⟩ ⟨xs_blind, xs_recv_R hK hw hk, fun U h1 h2 => ⟨rfl, xs_pre hK hw h1 h2⟩⟩ rfl rfl hl.1 rfl (lv_room (Nat.le_of_ble_eq_true rfl)) dd_R_dataCode_42 ⟨Nat.zero_le _, Nat.zero_le _⟩) (fun H locs hw => ?_)
        obtain ⟨S6, gS6, h⟩ := xs_ob h
        refine xr_iast hx hb hK hw (xs_ok_R_row hK.1 hk) gS6 dd_R_dataCode_45 (fun H locs hw => ?_)
        refine lv_iinc (k := 4) (v := i7 + 1) hx hb dd_R_dataCode_46 hl rfl rfl (by decide) rfl (fun ls hl => ?_)
        have hl : lv_has ls 8 [(7, .int (i7 + 1)), (0, .ref (ad k)), (1, .int n1), (2, .int n2), (3, .int n3)] := hl
        refine lv_goto hx hb dd_R_dataCode_49 rfl ?_
        exact ih (i7 + 1) S6 _ _ _ hw (lv_sub hl [1, 2, 3, 4, 0] rfl) h
  unfold xf_R_dataCode at h
  refine lv_aload_n hx hb dd_R_dataCode_0 rfl (lv_at hl 0 rfl) ?_
  refine lv_bipush (v := 73) hx hb dd_R_dataCode_1 rfl ?_
  refine lv_iload hx hb dd_R_dataCode_3 (lv_at hl 4 rfl) ?_
  refine lv_iload hx hb dd_R_dataCode_5 (lv_at hl 5 rfl) ?_
  refine lv_iload hx hb dd_R_dataCode_7 (lv_at hl 6 rfl) ?_
  obtain ⟨q1, gq1, h⟩ := xs_ob h
  refine xq_v hK hw (va_runV (As := [.int 73, .int n4, .int n5, .int n6]) (rest := []) ⟨hx, hb, hml, hown, hts⟩ (xc_R_rowHead l D ad ca ks k 73 n4 n5 n6 S q1 hk gq1 _) ⟨callB_of 4 hts (xs_good hw_948) rfl rfl rfl (hts _ hw_13) (hts _ hw_945) yd_R_rowHead ⟨Nat.le_trans (by decide) hRf, Nat.le_trans (by decide) hRl⟩, (hts _ hw_947), (hts _ hs_29)⟩ ⟨xs_blind, xs_recv_R hK hw hk, fun U h1 h2 => ⟨rfl, xs_pre hK hw h1 h2⟩⟩ rfl rfl hl.1 rfl (lv_room (Nat.le_of_ble_eq_true rfl)) dd_R_dataCode_9 ⟨Nat.zero_le _, Nat.zero_le _⟩) (fun H locs hw => ?_)
  refine lv_aload_n hx hb dd_R_dataCode_12 rfl (lv_at hl 0 rfl) ?_
  refine xr_get_R (v := .ref (ad (k + 8))) hx hb hts hown hK hw hk 7 (by decide) (hts _ hw_750) rfl dd_R_dataCode_13 ?_
  refine lv_bipush (v := 15) hx hb dd_R_dataCode_16 rfl ?_
  refine lv_iload_n hx hb dd_R_dataCode_18 rfl (lv_at hl 2 rfl) ?_
  obtain ⟨S2, gS2, h⟩ := xs_ob h
  refine xr_iast hx hb hK hw (xs_ok_R_row hK.1 hk) gS2 dd_R_dataCode_19 (fun H locs hw => ?_)
  refine lv_iconst (v := 0) hx hb dd_R_dataCode_20 rfl ?_
  refine lv_istore hx hb dd_R_dataCode_21 hl (by decide) rfl (fun ls hl => ?_)
  have hl : lv_has ls 8 [(7, .int 0), (0, .ref (ad k)), (1, .int n1), (2, .int n2), (3, .int n3), (4, .int n4), (5, .int n5), (6, .int n6)] := hl
  exact w_23 xs_fuel 0 S2 _ _ _ hw (lv_sub hl [1, 2, 3, 4, 0] rfl) h
set_option maxHeartbeats 4000000 in
set_option maxRecDepth 100000 in
theorem xc_R_rootCode (l : Launch) (D : va_G) (ad : Nat → Nat) (ca : Nat → ClassId) (ks : List Nat) (k : Nat) (n1 : Int32) (n2 : Int32) (n3 : Int32) (S : xs_T) (T : xs_T) (hk : xs_is ks k xs_cR) (h : xf_R_rootCode k n1 n2 n3 S = some T) (sz : Nat) : Met l yy_R_rootCode ws_R_rootCode { frames := 5, cells := 0, slots := 0, locals := 119 } (va_Pc [.ref (ad k), .int n1, .int n2, .int n3] (xs_Pre D ad ca ks S sz)) (va_Qv (fun _ : Unit => True) (fun _ t => va_P D xs_cl (xs_w ad ca ks T) t.heap) (xs_A ad ks sz)) 0 0 (xs_A ad ks sz) := by
  refine xm_v (by decide) (Nat.le_of_ble_eq_true rfl) ?_
  intro p e s m args below meth c R A Q ls hx hb hml hown hts hRf hRl hK hw hl hret
  have hl : lv_has ls 5 [(0, .ref (ad k)), (1, .int n1), (2, .int n2), (3, .int n3)] := hl
  have w_3 : ∀ (f : Nat), ∀ (i4 : Int32) (S : xs_T) (H : Heap) (locs : List Loc) (ls : Array Slot), xs_I D ad ca ks A s S H locs → lv_has ls 5 [(0, .ref (ad k)), (1, .int n1), (2, .int n2), (3, .int n3), (4, .int i4)] → xf_R_rootCode_3 k n1 n2 n3 f i4 S = some T → W p l e R s m args below meth c H locs 0 0 Q (F0 m 3 ls []) := by
    intro f
    induction f with
    | zero => intro i4 S H locs ls hw hl h; exact absurd h (by simp [xf_R_rootCode_3])
    | succ f ih =>
      intro i4 S H locs ls hw hl h
      rw [xf_R_rootCode_3] at h
      refine lv_iload hx hb dd_R_rootCode_3 (lv_at hl 4 rfl) ?_
      refine lv_iload_n hx hb dd_R_rootCode_5 rfl (lv_at hl 2 rfl) ?_
      refine lv_icmp_ge hx hb dd_R_rootCode_6 rfl (fun b1 => ?_) (fun b1 => ?_)
      · replace h := xs_p b1 h
        refine lv_aload_n hx hb dd_R_rootCode_29 rfl (lv_at hl 0 rfl) ?_
        refine lv_iload_n hx hb dd_R_rootCode_30 rfl (lv_at hl 3 rfl) ?_
        refine lv_iload_n hx hb dd_R_rootCode_31 rfl (lv_at hl 2 rfl) ?_
        obtain ⟨q2, gq2, h⟩ := xs_ob h
        refine xq_v hK hw (va_runV (As := [.int n3, .int n2]) (rest := []) ⟨hx, hb, hml, hown, hts⟩ (xc_R_mac l D ad ca ks k n3 n2 S q2 hk gq2 _) ⟨callB_of 2 hts (xs_good hw_892) rfl rfl rfl (hts _ hw_13) (hts _ hw_889) yd_R_mac ⟨Nat.le_trans (by decide) hRf, Nat.le_trans (by decide) hRl⟩, (hts _ hw_891), (hts _ hs_16)⟩ ⟨xs_blind, xs_recv_R hK hw hk, fun U h1 h2 => ⟨rfl, xs_pre hK hw h1 h2⟩⟩ rfl rfl hl.1 rfl (lv_room (Nat.le_of_ble_eq_true rfl)) dd_R_rootCode_32 ⟨Nat.zero_le _, Nat.zero_le _⟩) (fun H locs hw => ?_)
        exact hret h hw dd_R_rootCode_35
      · replace h := xs_n b1 h
        refine lv_aload_n hx hb dd_R_rootCode_9 rfl (lv_at hl 0 rfl) ?_
        refine xr_get_R (v := .ref (ad (k + 8))) hx hb hts hown hK hw hk 7 (by decide) (hts _ hw_750) rfl dd_R_rootCode_10 ?_
        refine lv_iload hx hb dd_R_rootCode_13 (lv_at hl 4 rfl) ?_
        refine lv_aload_n hx hb dd_R_rootCode_15 rfl (lv_at hl 0 rfl) ?_
        refine lv_iload_n hx hb dd_R_rootCode_16 rfl (lv_at hl 1 rfl) ?_
        refine lv_iload hx hb dd_R_rootCode_17 (lv_at hl 4 rfl) ?_
        obtain ⟨q3, gq3, h⟩ := xs_ob h
        refine xq_i hK hw (va_runV (As := [.int n1, .int i4]) (rest := [.int i4, .ref (ad (k + 8))]) ⟨hx, hb, hml, hown, hts⟩ (xc_R_at l D ad ca ks k n1 i4 S q3 hk gq3 _) ⟨callB_of 2 hts (xs_good hw_888) rfl rfl rfl (hts _ hw_13) (hts _ hw_885) yd_R_at ⟨Nat.le_trans (by decide) hRf, Nat.le_trans (by decide) hRl⟩, (hts _ hw_887), (hts _ hs_15)⟩ ⟨xs_blind, xs_recv_R hK hw hk, fun U h1 h2 => ⟨rfl, xs_pre hK hw h1 h2⟩⟩ rfl rfl hl.1 rfl (lv_room (Nat.le_of_ble_eq_true rfl)) dd_R_rootCode_19 ⟨Nat.zero_le _, Nat.zero_le _⟩) (fun H locs hw => ?_)
        obtain ⟨S4, gS4, h⟩ := xs_ob h
        refine xr_iast hx hb hK hw (xs_ok_R_row hK.1 hk) gS4 dd_R_rootCode_22 (fun H locs hw => ?_)
        refine lv_iinc (k := 4) (v := i4 + 1) hx hb dd_R_rootCode_23 hl rfl rfl (by decide) rfl (fun ls hl => ?_)
        have hl : lv_has ls 5 [(4, .int (i4 + 1)), (0, .ref (ad k)), (1, .int n1), (2, .int n2), (3, .int n3)] := hl
        refine lv_goto hx hb dd_R_rootCode_26 rfl ?_
        exact ih (i4 + 1) S4 _ _ _ hw (lv_sub hl [1, 2, 3, 4, 0] rfl) h
  unfold xf_R_rootCode at h
  refine lv_iconst (v := 0) hx hb dd_R_rootCode_0 rfl ?_
  refine lv_istore hx hb dd_R_rootCode_1 hl (by decide) rfl (fun ls hl => ?_)
  have hl : lv_has ls 5 [(4, .int 0), (0, .ref (ad k)), (1, .int n1), (2, .int n2), (3, .int n3)] := hl
  exact w_3 xs_fuel 0 S _ _ _ hw (lv_sub hl [1, 2, 3, 4, 0] rfl) h
set_option maxHeartbeats 4000000 in
set_option maxRecDepth 100000 in
theorem xc_R_endsWithCode (l : Launch) (D : va_G) (ad : Nat → Nat) (ca : Nat → ClassId) (ks : List Nat) (k : Nat) (n1 : Int32) (S : xs_T) (r : Int32) (hk : xs_is ks k xs_cR) (h : xf_R_endsWithCode k n1 S = some r) (sz : Nat) : Met l yy_R_endsWithCode ws_R_endsWithCode { frames := 1, cells := 0, slots := 0, locals := 22 } (va_Pc [.ref (ad k), .int n1] (xs_Pre D ad ca ks S sz)) (va_Qi (fun r1 (_ : Unit) => r1 = r) (fun _ t => va_P D xs_cl (xs_w ad ca ks S) t.heap) (xs_A ad ks sz)) 0 0 (xs_A ad ks sz) := by
  refine xm_zr (by decide) (Nat.le_of_ble_eq_true rfl) ?_
  intro p e s m args below meth c R A Q ls hx hb hml hown hts hRf hRl hK hw hl hret
  have hl : lv_has ls 4 [(0, .ref (ad k)), (1, .int n1)] := hl
  have w_42 : ∀ (c4 : Int32 → Int32 → Option (Int32)) (y4 : ∀ (i2 : Int32) (i3 : Int32) (H : Heap) (locs : List Loc) (ls : Array Slot), xs_I D ad ca ks A s S H locs → lv_has ls 4 [(0, .ref (ad k)), (1, .int n1), (2, .int i2), (3, .int i3)] → c4 i2 i3 = some r → W p l e R s m args below meth c H locs 0 0 Q (F0 m 4 ls [])), ∀ (i3 : Int32) (t0 : Int32) (H : Heap) (locs : List Loc) (ls : Array Slot), xs_I D ad ca ks A s S H locs → lv_has ls 4 [(0, .ref (ad k)), (1, .int n1), (3, .int i3)] → xf_R_endsWithCode_42 k n1 S c4 i3 t0 = some r → W p l e R s m args below meth c H locs 0 0 Q (F0 m 42 ls [.int t0]) := by
    intro c4 y4 i3 t0 H locs ls hw hl h
    unfold xf_R_endsWithCode_42 at h
    refine lv_istore_n hx hb dd_R_endsWithCode_42 rfl hl (by decide) rfl (fun ls hl => ?_)
    have hl : lv_has ls 4 [(2, .int t0), (0, .ref (ad k)), (1, .int n1), (3, .int i3)] := hl
    refine lv_iinc (k := 3) (v := i3 + 1) hx hb dd_R_endsWithCode_43 hl rfl rfl (by decide) rfl (fun ls hl => ?_)
    have hl : lv_has ls 4 [(3, .int (i3 + 1)), (2, .int t0), (0, .ref (ad k)), (1, .int n1)] := hl
    refine lv_goto hx hb dd_R_endsWithCode_46 rfl ?_
    exact y4 t0 (i3 + 1) _ _ _ hw (lv_sub hl [2, 3, 1, 0] rfl) h
  have w_41 : ∀ (c4 : Int32 → Int32 → Option (Int32)) (y4 : ∀ (i2 : Int32) (i3 : Int32) (H : Heap) (locs : List Loc) (ls : Array Slot), xs_I D ad ca ks A s S H locs → lv_has ls 4 [(0, .ref (ad k)), (1, .int n1), (2, .int i2), (3, .int i3)] → c4 i2 i3 = some r → W p l e R s m args below meth c H locs 0 0 Q (F0 m 4 ls [])), ∀ (i3 : Int32) (H : Heap) (locs : List Loc) (ls : Array Slot), xs_I D ad ca ks A s S H locs → lv_has ls 4 [(0, .ref (ad k)), (1, .int n1), (3, .int i3)] → xf_R_endsWithCode_41 k n1 S c4 i3 = some r → W p l e R s m args below meth c H locs 0 0 Q (F0 m 41 ls []) := by
    intro c4 y4 i3 H locs ls hw hl h
    unfold xf_R_endsWithCode_41 at h
    refine lv_iconst (v := 0) hx hb dd_R_endsWithCode_41 rfl ?_
    exact w_42 c4 y4 i3 0 _ _ _ hw (lv_sub hl [0, 1, 2] rfl) h
  have w_4 : ∀ (f : Nat), ∀ (i2 : Int32) (i3 : Int32) (H : Heap) (locs : List Loc) (ls : Array Slot), xs_I D ad ca ks A s S H locs → lv_has ls 4 [(0, .ref (ad k)), (1, .int n1), (2, .int i2), (3, .int i3)] → xf_R_endsWithCode_4 k n1 S f i2 i3 = some r → W p l e R s m args below meth c H locs 0 0 Q (F0 m 4 ls []) := by
    intro f
    induction f with
    | zero => intro i2 i3 H locs ls hw hl h; exact absurd h (by simp [xf_R_endsWithCode_4])
    | succ f ih =>
      intro i2 i3 H locs ls hw hl h
      rw [xf_R_endsWithCode_4] at h
      refine lv_iload_n hx hb dd_R_endsWithCode_4 rfl (lv_at hl 3 rfl) ?_
      refine lv_iconst (v := 4) hx hb dd_R_endsWithCode_5 rfl ?_
      refine lv_icmp_ge hx hb dd_R_endsWithCode_6 rfl (fun b1 => ?_) (fun b1 => ?_)
      · replace h := xs_p b1 h
        refine lv_iload_n hx hb dd_R_endsWithCode_49 rfl (lv_at hl 2 rfl) ?_
        exact hret h hw dd_R_endsWithCode_50
      · replace h := xs_n b1 h
        refine lv_iload_n hx hb dd_R_endsWithCode_9 rfl (lv_at hl 2 rfl) ?_
        refine lv_if_eq hx hb dd_R_endsWithCode_10 rfl (fun b2 => ?_) (fun b2 => ?_)
        · replace h := xs_p b2 h
          exact w_41 (xf_R_endsWithCode_4 k n1 S f) ih i3 _ _ _ hw (lv_sub hl [0, 1, 3] rfl) h
        · replace h := xs_n b2 h
          refine lv_aload_n hx hb dd_R_endsWithCode_13 rfl (lv_at hl 0 rfl) ?_
          refine lv_iload_n hx hb dd_R_endsWithCode_14 rfl (lv_at hl 1 rfl) ?_
          refine lv_aload_n hx hb dd_R_endsWithCode_15 rfl (lv_at hl 0 rfl) ?_
          refine xr_get_R (v := .ref (ad (k + 10))) hx hb hts hown hK hw hk 10 (by decide) (hts _ hw_753) rfl dd_R_endsWithCode_16 ?_
          refine lv_iload_n hx hb dd_R_endsWithCode_19 rfl (lv_at hl 1 rfl) ?_
          obtain ⟨v3, gv3, h⟩ := xs_ob h
          refine xr_iald hx hb hK hw (xs_ok_R_length hK.1 hk) gv3 dd_R_endsWithCode_20 ?_
          refine lv_iconst (v := 4) hx hb dd_R_endsWithCode_21 rfl ?_
          refine lv_isub hx hb dd_R_endsWithCode_22 ?_
          refine lv_iload_n hx hb dd_R_endsWithCode_23 rfl (lv_at hl 3 rfl) ?_
          refine lv_iadd hx hb dd_R_endsWithCode_24 ?_
          obtain ⟨q4, gq4, h⟩ := xs_ob h
          refine xq_i hK hw (va_runV (As := [.int n1, .int ((v3 - 4) + i3)]) (rest := []) ⟨hx, hb, hml, hown, hts⟩ (xc_R_at l D ad ca ks k n1 ((v3 - 4) + i3) S q4 hk gq4 _) ⟨callB_of 2 hts (xs_good hw_888) rfl rfl rfl (hts _ hw_13) (hts _ hw_885) yd_R_at ⟨Nat.le_trans (by decide) hRf, Nat.le_trans (by decide) hRl⟩, (hts _ hw_887), (hts _ hs_15)⟩ ⟨xs_blind, xs_recv_R hK hw hk, fun U h1 h2 => ⟨rfl, xs_pre hK hw h1 h2⟩⟩ rfl rfl hl.1 rfl (lv_room (Nat.le_of_ble_eq_true rfl)) dd_R_endsWithCode_25 ⟨Nat.zero_le _, Nat.zero_le _⟩) (fun H locs hw => ?_)
          refine lv_aload_n hx hb dd_R_endsWithCode_28 rfl (lv_at hl 0 rfl) ?_
          refine xr_get_R (v := .ref (ad (k + 6))) hx hb hts hown hK hw hk 5 (by decide) (hts _ hw_748) rfl dd_R_endsWithCode_29 ?_
          refine lv_iload_n hx hb dd_R_endsWithCode_32 rfl (lv_at hl 3 rfl) ?_
          obtain ⟨v5, gv5, h⟩ := xs_ob h
          refine xr_iald hx hb hK hw (xs_ok_R_code hK.1 hk) gv5 dd_R_endsWithCode_33 ?_
          refine lv_icmp_ne hx hb dd_R_endsWithCode_34 rfl (fun b6 => ?_) (fun b6 => ?_)
          · replace h := xs_n b6 h
            exact w_41 (xf_R_endsWithCode_4 k n1 S f) ih i3 _ _ _ hw (lv_sub hl [0, 1, 3] rfl) h
          · replace h := xs_p b6 h
            refine lv_iconst (v := 1) hx hb dd_R_endsWithCode_37 rfl ?_
            refine lv_goto hx hb dd_R_endsWithCode_38 rfl ?_
            exact w_42 (xf_R_endsWithCode_4 k n1 S f) ih i3 1 _ _ _ hw (lv_sub hl [0, 1, 3] rfl) h
  unfold xf_R_endsWithCode at h
  refine lv_iconst (v := 1) hx hb dd_R_endsWithCode_0 rfl ?_
  refine lv_istore_n hx hb dd_R_endsWithCode_1 rfl hl (by decide) rfl (fun ls hl => ?_)
  have hl : lv_has ls 4 [(2, .int 1), (0, .ref (ad k)), (1, .int n1)] := hl
  refine lv_iconst (v := 0) hx hb dd_R_endsWithCode_2 rfl ?_
  refine lv_istore_n hx hb dd_R_endsWithCode_3 rfl hl (by decide) rfl (fun ls hl => ?_)
  have hl : lv_has ls 4 [(3, .int 0), (2, .int 1), (0, .ref (ad k)), (1, .int n1)] := hl
  exact w_4 xs_fuel 1 0 _ _ _ hw (lv_sub hl [2, 3, 1, 0] rfl) h
