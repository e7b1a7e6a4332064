set_option maxHeartbeats 4000000 in
set_option maxRecDepth 100000 in
theorem xc_R_enciphered (l : Launch) (D : va_G) (ad : Nat → Nat) (ca : Nat → ClassId) (ks : List Nat) (k : Nat) (n1 : Int64) (n3 : Int32) (n4 : Int32) (n5 : Int32) (n6 : Int32) (n7 : Int32) (S : xs_T) (r : Int64) (T : xs_T) (hk : xs_is ks k xs_cR) (h : xf_R_enciphered k n1 n3 n4 n5 n6 n7 S = some (r, T)) (sz : Nat) : Met l yy_R_enciphered ws_R_enciphered { frames := 4, cells := 0, slots := 0, locals := 93 } (va_Pc [.ref (ad k), .long n1, .int n3, .int n4, .int n5, .int n6, .int n7] (xs_Pre D ad ca ks S sz)) (va_Ql (fun r1 (_ : Unit) => r1 = r) (fun _ t => va_P D xs_cl (xs_w ad ca ks T) t.heap) (xs_A ad ks sz)) 0 0 (xs_A ad ks sz) := by
  refine xm_l (by decide) (Nat.le_of_ble_eq_true rfl) ?_
  intro p e s m args below meth c R A Q ls hx hb hml hown hts hRf hRl hK hw hl hret
  have hl : lv_has ls 11 [(0, .ref (ad k)), (1, .long n1), (3, .int n3), (4, .int n4), (5, .int n5), (6, .int n6), (7, .int n7)] := hl
  have w_61 : ∀ (f : Nat), ∀ (i8 : Int64) (i10 : Int32) (S : xs_T) (H : Heap) (locs : List Loc) (ls : Array Slot), xs_I D ad ca ks A s S H locs → lv_has ls 11 [(0, .ref (ad k)), (1, .long n1), (3, .int n3), (8, .long i8), (10, .int i10)] → xf_R_enciphered_61 k n1 n3 n4 n5 n6 n7 f i8 i10 S = some (r, T) → W p l e R s m args below meth c H locs 0 0 Q (F0 m 61 ls []) := by
    intro f
    induction f with
    | zero => intro i8 i10 S H locs ls hw hl h; exact absurd h (by simp [xf_R_enciphered_61])
    | succ f ih =>
      intro i8 i10 S H locs ls hw hl h
      rw [xf_R_enciphered_61] at h
      refine lv_iload hx hb dd_R_enciphered_61 (lv_at hl 4 rfl) ?_
      refine lv_iload_n hx hb dd_R_enciphered_63 rfl (lv_at hl 2 rfl) ?_
      refine lv_icmp_ge hx hb dd_R_enciphered_64 rfl (fun b5 => ?_) (fun b5 => ?_)
      · replace h := xs_p b5 h
        refine lv_lload hx hb dd_R_enciphered_104 (lv_at hl 3 rfl) ?_
        exact hret h hw dd_R_enciphered_106
      · replace h := xs_n b5 h
        refine lv_lload hx hb dd_R_enciphered_67 (lv_at hl 3 rfl) ?_
        refine lv_lload_n hx hb dd_R_enciphered_69 rfl (lv_at hl 1 rfl) ?_
        refine lv_bipush (v := 8) hx hb dd_R_enciphered_70 rfl ?_
        refine lv_iload hx hb dd_R_enciphered_72 (lv_at hl 4 rfl) ?_
        refine lv_imul hx hb dd_R_enciphered_74 ?_
        refine lv_lshr (v := xs_lshr n1 (8 * i10)) hx hb dd_R_enciphered_75 rfl ?_
        refine lv_ldc2 (v := 255) hx hb hown (hts _ hw_949) dd_R_enciphered_76 ?_
        refine lv_land hx hb dd_R_enciphered_79 ?_
        refine lv_aload_n hx hb dd_R_enciphered_80 rfl (lv_at hl 0 rfl) ?_
        refine xr_get_R (v := .ref (ad (k + 4))) hx hb hts hown hK hw hk 3 (by decide) (hts _ hw_746) rfl dd_R_enciphered_81 ?_
        refine lv_iload hx hb dd_R_enciphered_84 (lv_at hl 4 rfl) ?_
        obtain ⟨v6, gv6, h⟩ := xs_ob h
        refine xr_iald hx hb hK hw (xs_ok_R_block hK.1 hk) gv6 dd_R_enciphered_86 ?_
        refine lv_i2l (v := Int32.toInt64 v6) hx hb dd_R_enciphered_87 rfl ?_
        refine lv_lxor hx hb dd_R_enciphered_88 ?_
        refine lv_bipush (v := 8) hx hb dd_R_enciphered_89 rfl ?_
        refine lv_iload hx hb dd_R_enciphered_91 (lv_at hl 4 rfl) ?_
        refine lv_imul hx hb dd_R_enciphered_93 ?_
        refine lv_lshl (v := xs_lshl (((xs_lshr n1 (8 * i10)) &&& 255) ^^^ (Int32.toInt64 v6)) (8 * i10)) hx hb dd_R_enciphered_94 rfl ?_
        refine lv_lor hx hb dd_R_enciphered_95 ?_
        obtain ⟨v7, gv7, h⟩ := xs_ob h
        refine lv_namL gv7 ?_
        refine lv_lstore hx hb dd_R_enciphered_96 hl (by decide) rfl (fun ls hl => ?_)
        have hl : lv_has ls 11 [(8, .long v7), (0, .ref (ad k)), (1, .long n1), (3, .int n3), (10, .int i10)] := hl
        refine lv_iinc (k := 4) (v := i10 + 1) hx hb dd_R_enciphered_98 hl rfl rfl (by decide) rfl (fun ls hl => ?_)
        have hl : lv_has ls 11 [(10, .int (i10 + 1)), (8, .long v7), (0, .ref (ad k)), (1, .long n1), (3, .int n3)] := hl
        refine lv_goto hx hb dd_R_enciphered_101 rfl ?_
        exact ih v7 (i10 + 1) S _ _ _ hw (lv_sub hl [2, 3, 4, 1, 0] rfl) h
  have w_22 : ∀ (f : Nat), ∀ (i8 : Int32) (S : xs_T) (H : Heap) (locs : List Loc) (ls : Array Slot), xs_I D ad ca ks A s S H locs → lv_has ls 11 [(0, .ref (ad k)), (1, .long n1), (3, .int n3), (4, .int n4), (8, .int i8)] → xf_R_enciphered_22 k n1 n3 n4 n5 n6 n7 f i8 S = some (r, T) → W p l e R s m args below meth c H locs 0 0 Q (F0 m 22 ls []) := by
    intro f
    induction f with
    | zero => intro i8 S H locs ls hw hl h; exact absurd h (by simp [xf_R_enciphered_22])
    | succ f ih =>
      intro i8 S H locs ls hw hl h
      rw [xf_R_enciphered_22] at h
      refine lv_iload hx hb dd_R_enciphered_22 (lv_at hl 4 rfl) ?_
      refine lv_bipush (v := 16) hx hb dd_R_enciphered_24 rfl ?_
      refine lv_icmp_ge hx hb dd_R_enciphered_26 rfl (fun b3 => ?_) (fun b3 => ?_)
      · replace h := xs_p b3 h
        refine lv_aload_n hx hb dd_R_enciphered_49 rfl (lv_at hl 0 rfl) ?_
        refine lv_iload hx hb dd_R_enciphered_50 (lv_at hl 3 rfl) ?_
        obtain ⟨q4, gq4, h⟩ := xs_ob h
        refine xq_v hK hw (va_runV (As := [.int n4]) (rest := []) ⟨hx, hb, hml, hown, hts⟩ (xc_R_cipher l D ad ca ks k n4 S q4 hk gq4 _) ⟨callB_of 1 hts (xs_good hw_896) rfl rfl rfl (hts _ hw_13) (hts _ hw_893) yd_R_cipher ⟨Nat.le_trans (by decide) hRf, Nat.le_trans (by decide) hRl⟩, (hts _ hw_895), (hts _ hs_17)⟩ ⟨xs_blind, xs_recv_R hK hw hk, fun U h1 h2 => ⟨rfl, xs_pre hK hw h1 h2⟩⟩ rfl rfl hl.1 rfl (lv_room (Nat.le_of_ble_eq_true rfl)) dd_R_enciphered_52 ⟨Nat.zero_le _, Nat.zero_le _⟩) (fun H locs hw => ?_)
        refine lv_lconst (v := 0) hx hb dd_R_enciphered_55 rfl ?_
        refine lv_lstore hx hb dd_R_enciphered_56 hl (by decide) rfl (fun ls hl => ?_)
        have hl : lv_has ls 11 [(8, .long 0), (0, .ref (ad k)), (1, .long n1), (3, .int n3), (4, .int n4)] := hl
        refine lv_iconst (v := 0) hx hb dd_R_enciphered_58 rfl ?_
        refine lv_istore hx hb dd_R_enciphered_59 hl (by decide) rfl (fun ls hl => ?_)
        have hl : lv_has ls 11 [(10, .int 0), (8, .long 0), (0, .ref (ad k)), (1, .long n1), (3, .int n3), (4, .int n4)] := hl
        exact w_61 xs_fuel 0 0 q4 _ _ _ hw (lv_sub hl [2, 3, 4, 1, 0] rfl) h
      · replace h := xs_n b3 h
        refine lv_aload_n hx hb dd_R_enciphered_29 rfl (lv_at hl 0 rfl) ?_
        refine xr_get_R (v := .ref (ad (k + 4))) hx hb hts hown hK hw hk 3 (by decide) (hts _ hw_746) rfl dd_R_enciphered_30 ?_
        refine lv_iload hx hb dd_R_enciphered_33 (lv_at hl 4 rfl) ?_
        refine lv_aload_n hx hb dd_R_enciphered_35 rfl (lv_at hl 0 rfl) ?_
        refine xr_get_R (v := .ref (ad (k + 8))) hx hb hts hown hK hw hk 7 (by decide) (hts _ hw_750) rfl dd_R_enciphered_36 ?_
        refine lv_iload hx hb dd_R_enciphered_39 (lv_at hl 4 rfl) ?_
        obtain ⟨v8, gv8, h⟩ := xs_ob h
        refine xr_iald hx hb hK hw (xs_ok_R_row hK.1 hk) gv8 dd_R_enciphered_41 ?_
        obtain ⟨S9, gS9, h⟩ := xs_ob h
        refine xr_iast hx hb hK hw (xs_ok_R_block hK.1 hk) gS9 dd_R_enciphered_42 (fun H locs hw => ?_)
        refine lv_iinc (k := 4) (v := i8 + 1) hx hb dd_R_enciphered_43 hl rfl rfl (by decide) rfl (fun ls hl => ?_)
        have hl : lv_has ls 11 [(8, .int (i8 + 1)), (0, .ref (ad k)), (1, .long n1), (3, .int n3), (4, .int n4)] := hl
        refine lv_goto hx hb dd_R_enciphered_46 rfl ?_
        exact ih (i8 + 1) S9 _ _ _ hw (lv_sub hl [1, 2, 3, 4, 0] rfl) h
  unfold xf_R_enciphered at h
  refine lv_aload_n hx hb dd_R_enciphered_0 rfl (lv_at hl 0 rfl) ?_
  refine lv_iconst (v := 1) hx hb dd_R_enciphered_1 rfl ?_
  refine lv_iload hx hb dd_R_enciphered_2 (lv_at hl 4 rfl) ?_
  refine lv_iload hx hb dd_R_enciphered_4 (lv_at hl 5 rfl) ?_
  refine lv_iload hx hb dd_R_enciphered_6 (lv_at hl 6 rfl) ?_
  obtain ⟨q1, gq1, h⟩ := xs_ob h
  refine xq_v hK hw (va_runV (As := [.int 1, .int n5, .int n6, .int n7]) (rest := []) ⟨hx, hb, hml, hown, hts⟩ (xc_R_rowHead l D ad ca ks k 1 n5 n6 n7 S q1 hk gq1 _) ⟨callB_of 4 hts (xs_good hw_948) rfl rfl rfl (hts _ hw_13) (hts _ hw_945) yd_R_rowHead ⟨Nat.le_trans (by decide) hRf, Nat.le_trans (by decide) hRl⟩, (hts _ hw_947), (hts _ hs_29)⟩ ⟨xs_blind, xs_recv_R hK hw hk, fun U h1 h2 => ⟨rfl, xs_pre hK hw h1 h2⟩⟩ rfl rfl hl.1 rfl (lv_room (Nat.le_of_ble_eq_true rfl)) dd_R_enciphered_8 ⟨Nat.zero_le _, Nat.zero_le _⟩) (fun H locs hw => ?_)
  refine lv_aload_n hx hb dd_R_enciphered_11 rfl (lv_at hl 0 rfl) ?_
  refine xr_get_R (v := .ref (ad (k + 8))) hx hb hts hown hK hw hk 7 (by decide) (hts _ hw_750) rfl dd_R_enciphered_12 ?_
  refine lv_bipush (v := 15) hx hb dd_R_enciphered_15 rfl ?_
  refine lv_iconst (v := 1) hx hb dd_R_enciphered_17 rfl ?_
  obtain ⟨S2, gS2, h⟩ := xs_ob h
  refine xr_iast hx hb hK hw (xs_ok_R_row hK.1 hk) gS2 dd_R_enciphered_18 (fun H locs hw => ?_)
  refine lv_iconst (v := 0) hx hb dd_R_enciphered_19 rfl ?_
  refine lv_istore hx hb dd_R_enciphered_20 hl (by decide) rfl (fun ls hl => ?_)
  have hl : lv_has ls 11 [(8, .int 0), (0, .ref (ad k)), (1, .long n1), (3, .int n3), (4, .int n4), (5, .int n5), (6, .int n6), (7, .int n7)] := hl
  exact w_22 xs_fuel 0 S2 _ _ _ hw (lv_sub hl [1, 2, 3, 4, 0] rfl) h
set_option maxHeartbeats 4000000 in
set_option maxRecDepth 100000 in
theorem xc_R_begin (l : Launch) (D : va_G) (ad : Nat → Nat) (ca : Nat → ClassId) (ks : List Nat) (k : Nat) (n1 : Int32) (n2 : Int32) (n3 : Int32) (n4 : Int32) (n5 : Int32) (S : xs_T) (T : xs_T) (hk : xs_is ks k xs_cR) (h : xf_R_begin k n1 n2 n3 n4 n5 S = some T) (sz : Nat) : Met l yy_R_begin ws_R_begin { frames := 2, cells := 0, slots := 0, locals := 46 } (va_Pc [.ref (ad k), .int n1, .int n2, .int n3, .int n4, .int n5] (xs_Pre D ad ca ks S sz)) (va_Qv (fun _ : Unit => True) (fun _ t => va_P D xs_cl (xs_w ad ca ks T) t.heap) (xs_A ad ks sz)) 0 0 (xs_A ad ks sz) := by
  refine xm_v (by decide) (Nat.le_of_ble_eq_true rfl) ?_
  intro p e s m args below meth c R A Q ls hx hb hml hown hts hRf hRl hK hw hl hret
  have hl : lv_has ls 6 [(0, .ref (ad k)), (1, .int n1), (2, .int n2), (3, .int n3), (4, .int n4), (5, .int n5)] := hl
  unfold xf_R_begin at h
  refine lv_aload_n hx hb dd_R_begin_0 rfl (lv_at hl 0 rfl) ?_
  refine xr_get_R (v := .ref (ad (k + 10))) hx hb hts hown hK hw hk 10 (by decide) (hts _ hw_753) rfl dd_R_begin_1 ?_
  refine lv_iload_n hx hb dd_R_begin_4 rfl (lv_at hl 1 rfl) ?_
  refine lv_iconst (v := 0) hx hb dd_R_begin_5 rfl ?_
  obtain ⟨S1, gS1, h⟩ := xs_ob h
  refine xr_iast hx hb hK hw (xs_ok_R_length hK.1 hk) gS1 dd_R_begin_6 (fun H locs hw => ?_)
  refine lv_aload_n hx hb dd_R_begin_7 rfl (lv_at hl 0 rfl) ?_
  refine lv_iload_n hx hb dd_R_begin_8 rfl (lv_at hl 1 rfl) ?_
  refine lv_iload_n hx hb dd_R_begin_9 rfl (lv_at hl 2 rfl) ?_
  obtain ⟨q2, gq2, h⟩ := xs_ob h
  refine xq_v hK hw (va_runV (As := [.int n1, .int n2]) (rest := []) ⟨hx, hb, hml, hown, hts⟩ (xc_R_write l D ad ca ks k n1 n2 S1 q2 hk gq2 _) ⟨callB_of 2 hts (xs_good hw_876) rfl rfl rfl (hts _ hw_13) (hts _ hw_873) yd_R_write ⟨Nat.le_trans (by decide) hRf, Nat.le_trans (by decide) hRl⟩, (hts _ hw_875), (hts _ hs_12)⟩ ⟨xs_blind, xs_recv_R hK hw hk, fun U h1 h2 => ⟨rfl, xs_pre hK hw h1 h2⟩⟩ rfl rfl hl.1 rfl (lv_room (Nat.le_of_ble_eq_true rfl)) dd_R_begin_10 ⟨Nat.zero_le _, Nat.zero_le _⟩) (fun H locs hw => ?_)
  refine lv_aload_n hx hb dd_R_begin_13 rfl (lv_at hl 0 rfl) ?_
  refine lv_iload_n hx hb dd_R_begin_14 rfl (lv_at hl 1 rfl) ?_
  refine lv_iload_n hx hb dd_R_begin_15 rfl (lv_at hl 3 rfl) ?_
  refine lv_iconst (v := 4) hx hb dd_R_begin_16 rfl ?_
  obtain ⟨q3, gq3, h⟩ := xs_ob h
  refine xq_v hK hw (va_runV (As := [.int n1, .int n3, .int 4]) (rest := []) ⟨hx, hb, hml, hown, hts⟩ (xc_R_writeNumber l D ad ca ks k n1 n3 4 q2 q3 hk gq3 _) ⟨callB_of 3 hts (xs_good hw_880) rfl rfl rfl (hts _ hw_13) (hts _ hw_877) yd_R_writeNumber ⟨Nat.le_trans (by decide) hRf, Nat.le_trans (by decide) hRl⟩, (hts _ hw_879), (hts _ hs_13)⟩ ⟨xs_blind, xs_recv_R hK hw hk, fun U h1 h2 => ⟨rfl, xs_pre hK hw h1 h2⟩⟩ rfl rfl hl.1 rfl (lv_room (Nat.le_of_ble_eq_true rfl)) dd_R_begin_17 ⟨Nat.zero_le _, Nat.zero_le _⟩) (fun H locs hw => ?_)
  refine lv_aload_n hx hb dd_R_begin_20 rfl (lv_at hl 0 rfl) ?_
  refine lv_iload_n hx hb dd_R_begin_21 rfl (lv_at hl 1 rfl) ?_
  refine lv_iload hx hb dd_R_begin_22 (lv_at hl 4 rfl) ?_
  obtain ⟨q4, gq4, h⟩ := xs_ob h
  refine xq_v hK hw (va_runV (As := [.int n1, .int n4]) (rest := []) ⟨hx, hb, hml, hown, hts⟩ (xc_R_write l D ad ca ks k n1 n4 q3 q4 hk gq4 _) ⟨callB_of 2 hts (xs_good hw_876) rfl rfl rfl (hts _ hw_13) (hts _ hw_873) yd_R_write ⟨Nat.le_trans (by decide) hRf, Nat.le_trans (by decide) hRl⟩, (hts _ hw_875), (hts _ hs_12)⟩ ⟨xs_blind, xs_recv_R hK hw hk, fun U h1 h2 => ⟨rfl, xs_pre hK hw h1 h2⟩⟩ rfl rfl hl.1 rfl (lv_room (Nat.le_of_ble_eq_true rfl)) dd_R_begin_24 ⟨Nat.zero_le _, Nat.zero_le _⟩) (fun H locs hw => ?_)
  refine lv_aload_n hx hb dd_R_begin_27 rfl (lv_at hl 0 rfl) ?_
  refine lv_iload_n hx hb dd_R_begin_28 rfl (lv_at hl 1 rfl) ?_
  refine lv_iload hx hb dd_R_begin_29 (lv_at hl 5 rfl) ?_
  refine lv_iconst (v := 2) hx hb dd_R_begin_31 rfl ?_
  obtain ⟨q5, gq5, h⟩ := xs_ob h
  refine xq_v hK hw (va_runV (As := [.int n1, .int n5, .int 2]) (rest := []) ⟨hx, hb, hml, hown, hts⟩ (xc_R_writeNumber l D ad ca ks k n1 n5 2 q4 q5 hk gq5 _) ⟨callB_of 3 hts (xs_good hw_880) rfl rfl rfl (hts _ hw_13) (hts _ hw_877) yd_R_writeNumber ⟨Nat.le_trans (by decide) hRf, Nat.le_trans (by decide) hRl⟩, (hts _ hw_879), (hts _ hs_13)⟩ ⟨xs_blind, xs_recv_R hK hw hk, fun U h1 h2 => ⟨rfl, xs_pre hK hw h1 h2⟩⟩ rfl rfl hl.1 rfl (lv_room (Nat.le_of_ble_eq_true rfl)) dd_R_begin_32 ⟨Nat.zero_le _, Nat.zero_le _⟩) (fun H locs hw => ?_)
  exact hret h hw dd_R_begin_35
set_option maxHeartbeats 4000000 in
set_option maxRecDepth 100000 in
theorem xc_R_finish (l : Launch) (D : va_G) (ad : Nat → Nat) (ca : Nat → ClassId) (ks : List Nat) (k : Nat) (n1 : Int32) (n2 : Int64) (n4 : Int32) (n5 : Int32) (n6 : Int32) (n7 : Int32) (n8 : Int32) (S : xs_T) (T : xs_T) (hk : xs_is ks k xs_cR) (h : xf_R_finish k n1 n2 n4 n5 n6 n7 n8 S = some T) (sz : Nat) : Met l yy_R_finish ws_R_finish { frames := 6, cells := 0, slots := 0, locals := 146 } (va_Pc [.ref (ad k), .int n1, .long n2, .int n4, .int n5, .int n6, .int n7, .int n8] (xs_Pre D ad ca ks S sz)) (va_Qv (fun _ : Unit => True) (fun _ t => va_P D xs_cl (xs_w ad ca ks T) t.heap) (xs_A ad ks sz)) 0 0 (xs_A ad ks sz) := by
  refine xm_v (by decide) (Nat.le_of_ble_eq_true rfl) ?_
  intro p e s m args below meth c R A Q ls hx hb hml hown hts hRf hRl hK hw hl hret
  have hl : lv_has ls 13 [(0, .ref (ad k)), (1, .int n1), (2, .long n2), (4, .int n4), (5, .int n5), (6, .int n6), (7, .int n7), (8, .int n8)] := hl
  have w_90 : ∀ (f : Nat), ∀ (i12 : Int32) (S : xs_T) (H : Heap) (locs : List Loc) (ls : Array Slot), xs_I D ad ca ks A s S H locs → lv_has ls 13 [(0, .ref (ad k)), (1, .int n1), (12, .int i12)] → xf_R_finish_90 k n1 n2 n4 n5 n6 n7 n8 f i12 S = some T → W p l e R s m args below meth c H locs 0 0 Q (F0 m 90 ls []) := by
    intro f
    induction f with
    | zero => intro i12 S H locs ls hw hl h; exact absurd h (by simp [xf_R_finish_90])
    | succ f ih =>
      intro i12 S H locs ls hw hl h
      rw [xf_R_finish_90] at h
      refine lv_iload hx hb dd_R_finish_90 (lv_at hl 2 rfl) ?_
      refine lv_iconst (v := 4) hx hb dd_R_finish_92 rfl ?_
      refine lv_icmp_ge hx hb dd_R_finish_93 rfl (fun b6 => ?_) (fun b6 => ?_)
      · replace h := xs_p b6 h
        exact hret h hw dd_R_finish_114
      · replace h := xs_n b6 h
        refine lv_aload_n hx hb dd_R_finish_96 rfl (lv_at hl 0 rfl) ?_
        refine lv_iload_n hx hb dd_R_finish_97 rfl (lv_at hl 1 rfl) ?_
        refine lv_aload_n hx hb dd_R_finish_98 rfl (lv_at hl 0 rfl) ?_
        refine xr_get_R (v := .ref (ad (k + 6))) hx hb hts hown hK hw hk 5 (by decide) (hts _ hw_748) rfl dd_R_finish_99 ?_
        refine lv_iload hx hb dd_R_finish_102 (lv_at hl 2 rfl) ?_
        obtain ⟨v7, gv7, h⟩ := xs_ob h
        refine xr_iald hx hb hK hw (xs_ok_R_code hK.1 hk) gv7 dd_R_finish_104 ?_
        obtain ⟨q8, gq8, h⟩ := xs_ob h
        refine xq_v hK hw (va_runV (As := [.int n1, .int v7]) (rest := []) ⟨hx, hb, hml, hown, hts⟩ (xc_R_write l D ad ca ks k n1 v7 S q8 hk gq8 _) ⟨callB_of 2 hts (xs_good hw_876) rfl rfl rfl (hts _ hw_13) (hts _ hw_873) yd_R_write ⟨Nat.le_trans (by decide) hRf, Nat.le_trans (by decide) hRl⟩, (hts _ hw_875), (hts _ hs_12)⟩ ⟨xs_blind, xs_recv_R hK hw hk, fun U h1 h2 => ⟨rfl, xs_pre hK hw h1 h2⟩⟩ rfl rfl hl.1 rfl (lv_room (Nat.le_of_ble_eq_true rfl)) dd_R_finish_105 ⟨Nat.zero_le _, Nat.zero_le _⟩) (fun H locs hw => ?_)
        refine lv_iinc (k := 2) (v := i12 + 1) hx hb dd_R_finish_108 hl rfl rfl (by decide) rfl (fun ls hl => ?_)
        have hl : lv_has ls 13 [(12, .int (i12 + 1)), (0, .ref (ad k)), (1, .int n1)] := hl
        refine lv_goto hx hb dd_R_finish_111 rfl ?_
        exact ih (i12 + 1) q8 _ _ _ hw (lv_sub hl [1, 2, 0] rfl) h
  have w_33 : ∀ (f : Nat), ∀ (i9 : Int64) (i11 : Int32) (S : xs_T) (H : Heap) (locs : List Loc) (ls : Array Slot), xs_I D ad ca ks A s S H locs → lv_has ls 13 [(0, .ref (ad k)), (1, .int n1), (4, .int n4), (5, .int n5), (6, .int n6), (7, .int n7), (8, .int n8), (9, .long i9), (11, .int i11)] → xf_R_finish_33 k n1 n2 n4 n5 n6 n7 n8 f i9 i11 S = some T → W p l e R s m args below meth c H locs 0 0 Q (F0 m 33 ls []) := by
    intro f
    induction f with
    | zero => intro i9 i11 S H locs ls hw hl h; exact absurd h (by simp [xf_R_finish_33])
    | succ f ih =>
      intro i9 i11 S H locs ls hw hl h
      rw [xf_R_finish_33] at h
      refine lv_iload hx hb dd_R_finish_33 (lv_at hl 8 rfl) ?_
      refine lv_iload hx hb dd_R_finish_35 (lv_at hl 2 rfl) ?_
      refine lv_icmp_ge hx hb dd_R_finish_37 rfl (fun b3 => ?_) (fun b3 => ?_)
      · replace h := xs_p b3 h
        refine lv_aload_n hx hb dd_R_finish_64 rfl (lv_at hl 0 rfl) ?_
        refine xr_get_R (v := .ref (ad (k + 10))) hx hb hts hown hK hw hk 10 (by decide) (hts _ hw_753) rfl dd_R_finish_65 ?_
        refine lv_iload_n hx hb dd_R_finish_68 rfl (lv_at hl 1 rfl) ?_
        obtain ⟨v4, gv4, h⟩ := xs_ob h
        refine xr_iald hx hb hK hw (xs_ok_R_length hK.1 hk) gv4 dd_R_finish_69 ?_
        refine lv_istore hx hb dd_R_finish_70 hl (by decide) rfl (fun ls hl => ?_)
        have hl : lv_has ls 13 [(11, .int v4), (0, .ref (ad k)), (1, .int n1), (4, .int n4), (5, .int n5), (6, .int n6), (7, .int n7), (8, .int n8), (9, .long i9)] := hl
        refine lv_aload_n hx hb dd_R_finish_72 rfl (lv_at hl 1 rfl) ?_
        refine lv_iload_n hx hb dd_R_finish_73 rfl (lv_at hl 2 rfl) ?_
        refine lv_iload hx hb dd_R_finish_74 (lv_at hl 0 rfl) ?_
        refine lv_iload hx hb dd_R_finish_76 (lv_at hl 4 rfl) ?_
        refine lv_iload hx hb dd_R_finish_78 (lv_at hl 5 rfl) ?_
        refine lv_iload hx hb dd_R_finish_80 (lv_at hl 6 rfl) ?_
        refine lv_iload hx hb dd_R_finish_82 (lv_at hl 7 rfl) ?_
        obtain ⟨q5, gq5, h⟩ := xs_ob h
        refine xq_v hK hw (va_runV (As := [.int n1, .int v4, .int n5, .int n6, .int n7, .int n8]) (rest := []) ⟨hx, hb, hml, hown, hts⟩ (xc_R_dataCode l D ad ca ks k n1 v4 n5 n6 n7 n8 S q5 hk gq5 _) ⟨callB_of 6 hts (xs_good hw_953) rfl rfl rfl (hts _ hw_13) (hts _ hw_950) yd_R_dataCode ⟨Nat.le_trans (by decide) hRf, Nat.le_trans (by decide) hRl⟩, (hts _ hw_952), (hts _ hs_30)⟩ ⟨xs_blind, xs_recv_R hK hw hk, fun U h1 h2 => ⟨rfl, xs_pre hK hw h1 h2⟩⟩ rfl rfl hl.1 rfl (lv_room (Nat.le_of_ble_eq_true rfl)) dd_R_finish_84 ⟨Nat.zero_le _, Nat.zero_le _⟩) (fun H locs hw => ?_)
        refine lv_iconst (v := 0) hx hb dd_R_finish_87 rfl ?_
        refine lv_istore hx hb dd_R_finish_88 hl (by decide) rfl (fun ls hl => ?_)
        have hl : lv_has ls 13 [(12, .int 0), (11, .int v4), (0, .ref (ad k)), (1, .int n1), (4, .int n4), (5, .int n5), (6, .int n6), (7, .int n7), (8, .int n8), (9, .long i9)] := hl
        exact w_90 xs_fuel 0 q5 _ _ _ hw (lv_sub hl [2, 3, 0] rfl) h
      · replace h := xs_n b3 h
        refine lv_aload_n hx hb dd_R_finish_40 rfl (lv_at hl 0 rfl) ?_
        refine lv_iload_n hx hb dd_R_finish_41 rfl (lv_at hl 1 rfl) ?_
        refine lv_lload hx hb dd_R_finish_42 (lv_at hl 7 rfl) ?_
        refine lv_bipush (v := 8) hx hb dd_R_finish_44 rfl ?_
        refine lv_iload hx hb dd_R_finish_46 (lv_at hl 8 rfl) ?_
        refine lv_imul hx hb dd_R_finish_48 ?_
        refine lv_lshr (v := xs_lshr i9 (8 * i11)) hx hb dd_R_finish_49 rfl ?_
        refine lv_ldc2 (v := 255) hx hb hown (hts _ hw_949) dd_R_finish_50 ?_
        refine lv_land hx hb dd_R_finish_53 ?_
        refine lv_l2i (v := Int64.toInt32 ((xs_lshr i9 (8 * i11)) &&& 255)) hx hb dd_R_finish_54 rfl ?_
        obtain ⟨q9, gq9, h⟩ := xs_ob h
        refine xq_v hK hw (va_runV (As := [.int n1, .int (Int64.toInt32 ((xs_lshr i9 (8 * i11)) &&& 255))]) (rest := []) ⟨hx, hb, hml, hown, hts⟩ (xc_R_write l D ad ca ks k n1 (Int64.toInt32 ((xs_lshr i9 (8 * i11)) &&& 255)) S q9 hk gq9 _) ⟨callB_of 2 hts (xs_good hw_876) rfl rfl rfl (hts _ hw_13) (hts _ hw_873) yd_R_write ⟨Nat.le_trans (by decide) hRf, Nat.le_trans (by decide) hRl⟩, (hts _ hw_875), (hts _ hs_12)⟩ ⟨xs_blind, xs_recv_R hK hw hk, fun U h1 h2 => ⟨rfl, xs_pre hK hw h1 h2⟩⟩ rfl rfl hl.1 rfl (lv_room (Nat.le_of_ble_eq_true rfl)) dd_R_finish_55 ⟨Nat.zero_le _, Nat.zero_le _⟩) (fun H locs hw => ?_)
        refine lv_iinc (k := 8) (v := i11 + 1) hx hb dd_R_finish_58 hl rfl rfl (by decide) rfl (fun ls hl => ?_)
        have hl : lv_has ls 13 [(11, .int (i11 + 1)), (0, .ref (ad k)), (1, .int n1), (4, .int n4), (5, .int n5), (6, .int n6), (7, .int n7), (8, .int n8), (9, .long i9)] := hl
        refine lv_goto hx hb dd_R_finish_61 rfl ?_
        exact ih i9 (i11 + 1) q9 _ _ _ hw (lv_sub hl [1, 2, 3, 4, 5, 6, 7, 8, 0] rfl) h
  have w_30 : ∀ (i9 : Int64) (S : xs_T) (H : Heap) (locs : List Loc) (ls : Array Slot), xs_I D ad ca ks A s S H locs → lv_has ls 13 [(0, .ref (ad k)), (1, .int n1), (4, .int n4), (5, .int n5), (6, .int n6), (7, .int n7), (8, .int n8), (9, .long i9)] → xf_R_finish_30 k n1 n2 n4 n5 n6 n7 n8 i9 S = some T → W p l e R s m args below meth c H locs 0 0 Q (F0 m 30 ls []) := by
    intro i9 S H locs ls hw hl h
    unfold xf_R_finish_30 at h
    refine lv_iconst (v := 0) hx hb dd_R_finish_30 rfl ?_
    refine lv_istore hx hb dd_R_finish_31 hl (by decide) rfl (fun ls hl => ?_)
    have hl : lv_has ls 13 [(11, .int 0), (0, .ref (ad k)), (1, .int n1), (4, .int n4), (5, .int n5), (6, .int n6), (7, .int n7), (8, .int n8), (9, .long i9)] := hl
    exact w_33 xs_fuel i9 0 S _ _ _ hw (lv_sub hl [1, 2, 3, 4, 5, 6, 7, 8, 0] rfl) h
  unfold xf_R_finish at h
  refine lv_aload_n hx hb dd_R_finish_0 rfl (lv_at hl 0 rfl) ?_
  refine lv_lload_n hx hb dd_R_finish_1 rfl (lv_at hl 2 rfl) ?_
  refine lv_iload hx hb dd_R_finish_2 (lv_at hl 3 rfl) ?_
  refine lv_iload hx hb dd_R_finish_4 (lv_at hl 4 rfl) ?_
  refine lv_iconst (v := 1) hx hb dd_R_finish_6 rfl ?_
  refine lv_iadd hx hb dd_R_finish_7 ?_
  refine lv_iload hx hb dd_R_finish_8 (lv_at hl 5 rfl) ?_
  refine lv_iload hx hb dd_R_finish_10 (lv_at hl 6 rfl) ?_
  refine lv_iload hx hb dd_R_finish_12 (lv_at hl 7 rfl) ?_
  obtain ⟨q1, gq1, h⟩ := xs_ob h
  refine xq_l hK hw (va_runV (As := [.long n2, .int n4, .int (n5 + 1), .int n6, .int n7, .int n8]) (rest := []) ⟨hx, hb, hml, hown, hts⟩ (xc_R_enciphered l D ad ca ks k n2 n4 (n5 + 1) n6 n7 n8 S q1.1 q1.2 hk gq1 _) ⟨callB_of 6 hts (xs_good hw_944) rfl rfl rfl (hts _ hw_13) (hts _ hw_941) yd_R_enciphered ⟨Nat.le_trans (by decide) hRf, Nat.le_trans (by decide) hRl⟩, (hts _ hw_943), (hts _ hs_28)⟩ ⟨xs_blind, xs_recv_R hK hw hk, fun U h1 h2 => ⟨rfl, xs_pre hK hw h1 h2⟩⟩ rfl rfl hl.1 rfl (lv_room (Nat.le_of_ble_eq_true rfl)) dd_R_finish_14 ⟨Nat.zero_le _, Nat.zero_le _⟩) (fun H locs hw => ?_)
  refine lv_lstore hx hb dd_R_finish_17 hl (by decide) rfl (fun ls hl => ?_)
  have hl : lv_has ls 13 [(9, .long q1.1), (0, .ref (ad k)), (1, .int n1), (2, .long n2), (4, .int n4), (5, .int n5), (6, .int n6), (7, .int n7), (8, .int n8)] := hl
  refine lv_iload hx hb dd_R_finish_19 (lv_at hl 4 rfl) ?_
  refine lv_if_le hx hb dd_R_finish_21 rfl (fun b2 => ?_) (fun b2 => ?_)
  · replace h := xs_p b2 h
    exact w_30 q1.1 q1.2 _ _ _ hw (lv_sub hl [1, 2, 4, 5, 6, 7, 8, 0] rfl) h
  · replace h := xs_n b2 h
    refine lv_aload_n hx hb dd_R_finish_24 rfl (lv_at hl 1 rfl) ?_
    refine lv_iload_n hx hb dd_R_finish_25 rfl (lv_at hl 2 rfl) ?_
    refine lv_iconst (v := 1) hx hb dd_R_finish_26 rfl ?_
    obtain ⟨q10, gq10, h⟩ := xs_ob h
    refine xq_v hK hw (va_runV (As := [.int n1, .int 1]) (rest := []) ⟨hx, hb, hml, hown, hts⟩ (xc_R_write l D ad ca ks k n1 1 q1.2 q10 hk gq10 _) ⟨callB_of 2 hts (xs_good hw_876) rfl rfl rfl (hts _ hw_13) (hts _ hw_873) yd_R_write ⟨Nat.le_trans (by decide) hRf, Nat.le_trans (by decide) hRl⟩, (hts _ hw_875), (hts _ hs_12)⟩ ⟨xs_blind, xs_recv_R hK hw hk, fun U h1 h2 => ⟨rfl, xs_pre hK hw h1 h2⟩⟩ rfl rfl hl.1 rfl (lv_room (Nat.le_of_ble_eq_true rfl)) dd_R_finish_27 ⟨Nat.zero_le _, Nat.zero_le _⟩) (fun H locs hw => ?_)
    exact w_30 q1.1 q10 _ _ _ hw (lv_sub hl [1, 2, 4, 5, 6, 7, 8, 0] rfl) h
set_option maxHeartbeats 4000000 in
set_option maxRecDepth 100000 in
theorem xc_R_payloadOf (l : Launch) (D : va_G) (ad : Nat → Nat) (ca : Nat → ClassId) (ks : List Nat) (k : Nat) (n1 : Int32) (S : xs_T) (r : Int32) (hk : xs_is ks k xs_cR) (h : xf_R_payloadOf k n1 S = some r) (sz : Nat) : Met l yy_R_payloadOf ws_R_payloadOf { frames := 1, cells := 0, slots := 0, locals := 22 } (va_Pc [.ref (ad k), .int n1] (xs_Pre D ad ca ks S sz)) (va_Qi (fun r1 (_ : Unit) => r1 = r) (fun _ t => va_P D xs_cl (xs_w ad ca ks S) t.heap) (xs_A ad ks sz)) 0 0 (xs_A ad ks sz) := by
  refine xm_ir (by decide) (Nat.le_of_ble_eq_true rfl) ?_
  intro p e s m args below meth c R A Q ls hx hb hml hown hts hRf hRl hK hw hl hret
  have hl : lv_has ls 3 [(0, .ref (ad k)), (1, .int n1)] := hl
  have w_34 : ∀ (t0 : Int32) (H : Heap) (locs : List Loc) (ls : Array Slot), xs_I D ad ca ks A s S H locs → lv_has ls 3 [] → xf_R_payloadOf_34 k n1 S t0 = some r → W p l e R s m args below meth c H locs 0 0 Q (F0 m 34 ls [.int t0]) := by
    intro t0 H locs ls hw hl h
    unfold xf_R_payloadOf_34 at h
    refine lv_istore_n hx hb dd_R_payloadOf_34 rfl hl (by decide) rfl (fun ls hl => ?_)
    have hl : lv_has ls 3 [(2, .int t0)] := hl
    refine lv_iload_n hx hb dd_R_payloadOf_35 rfl (lv_at hl 0 rfl) ?_
    refine lv_if_ne hx hb dd_R_payloadOf_36 rfl (fun b5 => ?_) (fun b5 => ?_)
    · replace h := xs_n b5 h
      refine lv_iload_n hx hb dd_R_payloadOf_43 rfl (lv_at hl 0 rfl) ?_
      refine lv_iconst (v := 2) hx hb dd_R_payloadOf_44 rfl ?_
      refine lv_icmp_lt hx hb dd_R_payloadOf_45 rfl (fun b6 => ?_) (fun b6 => ?_)
      · replace h := xs_p b6 h
        refine lv_iconst (v := (-1)) hx hb dd_R_payloadOf_60 rfl ?_
        exact hret h hw dd_R_payloadOf_61
      · replace h := xs_n b6 h
        refine lv_iload_n hx hb dd_R_payloadOf_48 rfl (lv_at hl 0 rfl) ?_
        refine lv_bipush (v := 9) hx hb dd_R_payloadOf_49 rfl ?_
        refine lv_icmp_gt hx hb dd_R_payloadOf_51 rfl (fun b7 => ?_) (fun b7 => ?_)
        · replace h := xs_p b7 h
          refine lv_iconst (v := (-1)) hx hb dd_R_payloadOf_60 rfl ?_
          exact hret h hw dd_R_payloadOf_61
        · replace h := xs_n b7 h
          refine lv_iload_n hx hb dd_R_payloadOf_54 rfl (lv_at hl 0 rfl) ?_
          refine lv_iconst (v := 1) hx hb dd_R_payloadOf_55 rfl ?_
          refine lv_isub hx hb dd_R_payloadOf_56 ?_
          refine lv_goto hx hb dd_R_payloadOf_57 rfl ?_
          exact hret h hw dd_R_payloadOf_61
    · replace h := xs_p b5 h
      refine lv_iconst (v := 0) hx hb dd_R_payloadOf_39 rfl ?_
      refine lv_goto hx hb dd_R_payloadOf_40 rfl ?_
      exact hret h hw dd_R_payloadOf_61
  unfold xf_R_payloadOf at h
  refine lv_aload_n hx hb dd_R_payloadOf_0 rfl (lv_at hl 0 rfl) ?_
  refine xr_get_R (v := .ref (ad (k + 10))) hx hb hts hown hK hw hk 10 (by decide) (hts _ hw_753) rfl dd_R_payloadOf_1 ?_
  refine lv_iload_n hx hb dd_R_payloadOf_4 rfl (lv_at hl 1 rfl) ?_
  obtain ⟨v1, gv1, h⟩ := xs_ob h
  refine xr_iald hx hb hK hw (xs_ok_R_length hK.1 hk) gv1 dd_R_payloadOf_5 ?_
  refine lv_bipush (v := 12) hx hb dd_R_payloadOf_6 rfl ?_
  refine lv_icmp_ge hx hb dd_R_payloadOf_8 rfl (fun b2 => ?_) (fun b2 => ?_)
  · replace h := xs_p b2 h
    refine lv_aload_n hx hb dd_R_payloadOf_15 rfl (lv_at hl 0 rfl) ?_
    refine xr_get_R (v := .ref (ad (k + 10))) hx hb hts hown hK hw hk 10 (by decide) (hts _ hw_753) rfl dd_R_payloadOf_16 ?_
    refine lv_iload_n hx hb dd_R_payloadOf_19 rfl (lv_at hl 1 rfl) ?_
    obtain ⟨v3, gv3, h⟩ := xs_ob h
    refine xr_iald hx hb hK hw (xs_ok_R_length hK.1 hk) gv3 dd_R_payloadOf_20 ?_
    refine lv_bipush (v := 12) hx hb dd_R_payloadOf_21 rfl ?_
    refine lv_isub hx hb dd_R_payloadOf_23 ?_
    refine lv_aload_n hx hb dd_R_payloadOf_24 rfl (lv_at hl 0 rfl) ?_
    refine lv_iload_n hx hb dd_R_payloadOf_25 rfl (lv_at hl 1 rfl) ?_
    refine lv_iconst (v := 5) hx hb dd_R_payloadOf_26 rfl ?_
    obtain ⟨q4, gq4, h⟩ := xs_ob h
    refine xq_i hK hw (va_runV (As := [.int n1, .int 5]) (rest := [.int (v3 - 12)]) ⟨hx, hb, hml, hown, hts⟩ (xc_R_at l D ad ca ks k n1 5 S q4 hk gq4 _) ⟨callB_of 2 hts (xs_good hw_888) rfl rfl rfl (hts _ hw_13) (hts _ hw_885) yd_R_at ⟨Nat.le_trans (by decide) hRf, Nat.le_trans (by decide) hRl⟩, (hts _ hw_887), (hts _ hs_15)⟩ ⟨xs_blind, xs_recv_R hK hw hk, fun U h1 h2 => ⟨rfl, xs_pre hK hw h1 h2⟩⟩ rfl rfl hl.1 rfl (lv_room (Nat.le_of_ble_eq_true rfl)) dd_R_payloadOf_27 ⟨Nat.zero_le _, Nat.zero_le _⟩) (fun H locs hw => ?_)
    refine lv_bipush (v := 16) hx hb dd_R_payloadOf_30 rfl ?_
    refine lv_irem hx hb dd_R_payloadOf_32 (by decide) ?_
    refine lv_asI (v := xs_rem q4 16) rfl ?_
    refine lv_isub hx hb dd_R_payloadOf_33 ?_
    exact w_34 ((v3 - 12) - (xs_rem q4 16)) _ _ _ hw (lv_sub hl [] rfl) h
  · replace h := xs_n b2 h
    refine lv_iconst (v := (-1)) hx hb dd_R_payloadOf_11 rfl ?_
    refine lv_goto hx hb dd_R_payloadOf_12 rfl ?_
    exact w_34 (-1) _ _ _ hw (lv_sub hl [] rfl) h
set_option maxHeartbeats 4000000 in
set_option maxRecDepth 100000 in
theorem xc_R_payloadAt (l : Launch) (D : va_G) (ad : Nat → Nat) (ca : Nat → ClassId) (ks : List Nat) (k : Nat) (n1 : Int32) (n2 : Int32) (S : xs_T) (r : Int64) (hk : xs_is ks k xs_cR) (h : xf_R_payloadAt k n1 n2 S = some r) (sz : Nat) : Met l yy_R_payloadAt ws_R_payloadAt { frames := 1, cells := 0, slots := 0, locals := 22 } (va_Pc [.ref (ad k), .int n1, .int n2] (xs_Pre D ad ca ks S sz)) (va_Ql (fun r1 (_ : Unit) => r1 = r) (fun _ t => va_P D xs_cl (xs_w ad ca ks S) t.heap) (xs_A ad ks sz)) 0 0 (xs_A ad ks sz) := by
  refine xm_lr (by decide) (Nat.le_of_ble_eq_true rfl) ?_
  intro p e s m args below meth c R A Q ls hx hb hml hown hts hRf hRl hK hw hl hret
  have hl : lv_has ls 6 [(0, .ref (ad k)), (1, .int n1), (2, .int n2)] := hl
  have w_5 : ∀ (f : Nat), ∀ (i3 : Int64) (i5 : Int32) (H : Heap) (locs : List Loc) (ls : Array Slot), xs_I D ad ca ks A s S H locs → lv_has ls 6 [(0, .ref (ad k)), (1, .int n1), (2, .int n2), (3, .long i3), (5, .int i5)] → xf_R_payloadAt_5 k n1 n2 S f i3 i5 = some r → W p l e R s m args below meth c H locs 0 0 Q (F0 m 5 ls []) := by
    intro f
    induction f with
    | zero => intro i3 i5 H locs ls hw hl h; exact absurd h (by simp [xf_R_payloadAt_5])
    | succ f ih =>
      intro i3 i5 H locs ls hw hl h
      rw [xf_R_payloadAt_5] at h
      refine lv_iload hx hb dd_R_payloadAt_5 (lv_at hl 4 rfl) ?_
      refine lv_iload_n hx hb dd_R_payloadAt_7 rfl (lv_at hl 2 rfl) ?_
      refine lv_icmp_ge hx hb dd_R_payloadAt_8 rfl (fun b1 => ?_) (fun b1 => ?_)
      · replace h := xs_p b1 h
        refine lv_lload_n hx hb dd_R_payloadAt_47 rfl (lv_at hl 3 rfl) ?_
        exact hret h hw dd_R_payloadAt_48
      · replace h := xs_n b1 h
        refine lv_lload_n hx hb dd_R_payloadAt_11 rfl (lv_at hl 3 rfl) ?_
        refine lv_aload_n hx hb dd_R_payloadAt_12 rfl (lv_at hl 0 rfl) ?_
        refine lv_iload_n hx hb dd_R_payloadAt_13 rfl (lv_at hl 1 rfl) ?_
        refine lv_bipush (v := 9) hx hb dd_R_payloadAt_14 rfl ?_
        refine lv_aload_n hx hb dd_R_payloadAt_16 rfl (lv_at hl 0 rfl) ?_
        refine lv_iload_n hx hb dd_R_payloadAt_17 rfl (lv_at hl 1 rfl) ?_
        refine lv_iconst (v := 5) hx hb dd_R_payloadAt_18 rfl ?_
        obtain ⟨q2, gq2, h⟩ := xs_ob h
        refine xq_i hK hw (va_runV (As := [.int n1, .int 5]) (rest := [.int 9, .int n1, .ref (ad k), .long i3]) ⟨hx, hb, hml, hown, hts⟩ (xc_R_at l D ad ca ks k n1 5 S q2 hk gq2 _) ⟨callB_of 2 hts (xs_good hw_888) rfl rfl rfl (hts _ hw_13) (hts _ hw_885) yd_R_at ⟨Nat.le_trans (by decide) hRf, Nat.le_trans (by decide) hRl⟩, (hts _ hw_887), (hts _ hs_15)⟩ ⟨xs_blind, xs_recv_R hK hw hk, fun U h1 h2 => ⟨rfl, xs_pre hK hw h1 h2⟩⟩ rfl rfl hl.1 rfl (lv_room (Nat.le_of_ble_eq_true rfl)) dd_R_payloadAt_19 ⟨Nat.zero_le _, Nat.zero_le _⟩) (fun H locs hw => ?_)
        refine lv_bipush (v := 16) hx hb dd_R_payloadAt_22 rfl ?_
        refine lv_irem hx hb dd_R_payloadAt_24 (by decide) ?_
        refine lv_asI (v := xs_rem q2 16) rfl ?_
        refine lv_iadd hx hb dd_R_payloadAt_25 ?_
        refine lv_iload hx hb dd_R_payloadAt_26 (lv_at hl 4 rfl) ?_
        refine lv_iadd hx hb dd_R_payloadAt_28 ?_
        obtain ⟨q3, gq3, h⟩ := xs_ob h
        refine xq_i hK hw (va_runV (As := [.int n1, .int ((9 + (xs_rem q2 16)) + i5)]) (rest := [.long i3]) ⟨hx, hb, hml, hown, hts⟩ (xc_R_at l D ad ca ks k n1 ((9 + (xs_rem q2 16)) + i5) S q3 hk gq3 _) ⟨callB_of 2 hts (xs_good hw_888) rfl rfl rfl (hts _ hw_13) (hts _ hw_885) yd_R_at ⟨Nat.le_trans (by decide) hRf, Nat.le_trans (by decide) hRl⟩, (hts _ hw_887), (hts _ hs_15)⟩ ⟨xs_blind, xs_recv_R hK hw hk, fun U h1 h2 => ⟨rfl, xs_pre hK hw h1 h2⟩⟩ rfl rfl hl.1 rfl (lv_room (Nat.le_of_ble_eq_true rfl)) dd_R_payloadAt_29 ⟨Nat.zero_le _, Nat.zero_le _⟩) (fun H locs hw => ?_)
        refine lv_i2l (v := Int32.toInt64 q3) hx hb dd_R_payloadAt_32 rfl ?_
        refine lv_bipush (v := 8) hx hb dd_R_payloadAt_33 rfl ?_
        refine lv_iload hx hb dd_R_payloadAt_35 (lv_at hl 4 rfl) ?_
        refine lv_imul hx hb dd_R_payloadAt_37 ?_
        refine lv_lshl (v := xs_lshl (Int32.toInt64 q3) (8 * i5)) hx hb dd_R_payloadAt_38 rfl ?_
        refine lv_lor hx hb dd_R_payloadAt_39 ?_
        obtain ⟨v4, gv4, h⟩ := xs_ob h
        refine lv_namL gv4 ?_
        refine lv_lstore_n hx hb dd_R_payloadAt_40 rfl hl (by decide) rfl (fun ls hl => ?_)
        have hl : lv_has ls 6 [(3, .long v4), (0, .ref (ad k)), (1, .int n1), (2, .int n2), (5, .int i5)] := hl
        refine lv_iinc (k := 4) (v := i5 + 1) hx hb dd_R_payloadAt_41 hl rfl rfl (by decide) rfl (fun ls hl => ?_)
        have hl : lv_has ls 6 [(5, .int (i5 + 1)), (3, .long v4), (0, .ref (ad k)), (1, .int n1), (2, .int n2)] := hl
        refine lv_goto hx hb dd_R_payloadAt_44 rfl ?_
        exact ih v4 (i5 + 1) _ _ _ hw (lv_sub hl [2, 3, 4, 1, 0] rfl) h
  unfold xf_R_payloadAt at h
  refine lv_lconst (v := 0) hx hb dd_R_payloadAt_0 rfl ?_
  refine lv_lstore_n hx hb dd_R_payloadAt_1 rfl hl (by decide) rfl (fun ls hl => ?_)
  have hl : lv_has ls 6 [(3, .long 0), (0, .ref (ad k)), (1, .int n1), (2, .int n2)] := hl
  refine lv_iconst (v := 0) hx hb dd_R_payloadAt_2 rfl ?_
  refine lv_istore hx hb dd_R_payloadAt_3 hl (by decide) rfl (fun ls hl => ?_)
  have hl : lv_has ls 6 [(5, .int 0), (3, .long 0), (0, .ref (ad k)), (1, .int n1), (2, .int n2)] := hl
  exact w_5 xs_fuel 0 0 _ _ _ hw (lv_sub hl [2, 3, 4, 1, 0] rfl) h
set_option maxHeartbeats 4000000 in
set_option maxRecDepth 100000 in
theorem xc_R_receive (l : Launch) (D : va_G) (ad : Nat → Nat) (ca : Nat → ClassId) (ks : List Nat) (k : Nat) (n1 : Int32) (n2 : Int64) (S : xs_T) (T : xs_T) (hk : xs_is ks k xs_cR) (h : xf_R_receive k n1 n2 S = some T) (sz : Nat) : Met l yy_R_receive ws_R_receive { frames := 0, cells := 0, slots := 0, locals := 0 } (va_Pc [.ref (ad k), .int n1, .long n2] (xs_Pre D ad ca ks S sz)) (va_Qv (fun _ : Unit => True) (fun _ t => va_P D xs_cl (xs_w ad ca ks T) t.heap) (xs_A ad ks sz)) 0 0 (xs_A ad ks sz) := by
  refine xm_v (by decide) (Nat.le_of_ble_eq_true rfl) ?_
  intro p e s m args below meth c R A Q ls hx hb hml hown hts hRf hRl hK hw hl hret
  have hl : lv_has ls 4 [(0, .ref (ad k)), (1, .int n1), (2, .long n2)] := hl
  unfold xf_R_receive at h
  refine lv_aload_n hx hb dd_R_receive_0 rfl (lv_at hl 0 rfl) ?_
  refine xr_get_R (v := .ref (ad (k + 35))) hx hb hts hown hK hw hk 38 (by decide) (hts _ hw_781) rfl dd_R_receive_1 ?_
  refine lv_iconst (v := 4) hx hb dd_R_receive_4 rfl ?_
  refine lv_iload_n hx hb dd_R_receive_5 rfl (lv_at hl 1 rfl) ?_
  refine lv_imul hx hb dd_R_receive_6 ?_
  refine lv_aload_n hx hb dd_R_receive_7 rfl (lv_at hl 0 rfl) ?_
  refine xr_get_R (v := .ref (ad (k + 34))) hx hb hts hown hK hw hk 37 (by decide) (hts _ hw_780) rfl dd_R_receive_8 ?_
  refine lv_iload_n hx hb dd_R_receive_11 rfl (lv_at hl 1 rfl) ?_
  obtain ⟨v1, gv1, h⟩ := xs_ob h
  refine xr_iald hx hb hK hw (xs_ok_R_got hK.1 hk) gv1 dd_R_receive_12 ?_
  refine lv_iconst (v := 4) hx hb dd_R_receive_13 rfl ?_
  refine lv_irem hx hb dd_R_receive_14 (by decide) ?_
  refine lv_asI (v := xs_rem v1 4) rfl ?_
  refine lv_iadd hx hb dd_R_receive_15 ?_
  refine lv_lload_n hx hb dd_R_receive_16 rfl (lv_at hl 2 rfl) ?_
  obtain ⟨S2, gS2, h⟩ := xs_ob h
  refine xr_last hx hb hK hw (xs_ok_R_values hK.1 hk) gS2 dd_R_receive_17 (fun H locs hw => ?_)
  refine lv_aload_n hx hb dd_R_receive_18 rfl (lv_at hl 0 rfl) ?_
  refine xr_get_R (v := .ref (ad (k + 34))) hx hb hts hown hK hw hk 37 (by decide) (hts _ hw_780) rfl dd_R_receive_19 ?_
  refine lv_iload_n hx hb dd_R_receive_22 rfl (lv_at hl 1 rfl) ?_
  refine lv_dup2_11 hx hb dd_R_receive_23 rfl rfl ?_
  obtain ⟨v3, gv3, h⟩ := xs_ob h
  refine xr_iald hx hb hK hw (xs_ok_R_got hK.1 hk) gv3 dd_R_receive_24 ?_
  refine lv_iconst (v := 1) hx hb dd_R_receive_25 rfl ?_
  refine lv_iadd hx hb dd_R_receive_26 ?_
  obtain ⟨S4, gS4, h⟩ := xs_ob h
  refine xr_iast hx hb hK hw (xs_ok_R_got hK.1 hk) gS4 dd_R_receive_27 (fun H locs hw => ?_)
  exact hret h hw dd_R_receive_28
set_option maxHeartbeats 4000000 in
set_option maxRecDepth 100000 in
theorem xc_R_below (l : Launch) (D : va_G) (ad : Nat → Nat) (ca : Nat → ClassId) (ks : List Nat) (n0 : Int32) (n1 : Int32) (S : xs_T) (r : Int32) (h : xf_R_below n0 n1 = some r) (sz : Nat) : Met l yy_R_below ws_R_below { frames := 0, cells := 0, slots := 0, locals := 0 } (va_Pc [.int n0, .int n1] (xs_Pre D ad ca ks S sz)) (va_Qi (fun r1 (_ : Unit) => r1 = r) (fun _ t => va_P D xs_cl (xs_w ad ca ks S) t.heap) (xs_A ad ks sz)) 0 0 (xs_A ad ks sz) := by
  refine xm_zr (by decide) (Nat.le_of_ble_eq_true rfl) ?_
  intro p e s m args below meth c R A Q ls hx hb hml hown hts hRf hRl hK hw hl hret
  have hl : lv_has ls 2 [(0, .int n0), (1, .int n1)] := hl
  unfold xf_R_below at h
  refine lv_iload_n hx hb dd_R_below_0 rfl (lv_at hl 0 rfl) ?_
  refine lv_if_lt hx hb dd_R_below_1 rfl (fun b1 => ?_) (fun b1 => ?_)
  · replace h := xs_p b1 h
    refine lv_iconst (v := 0) hx hb dd_R_below_13 rfl ?_
    exact hret h hw dd_R_below_14
  · replace h := xs_n b1 h
    refine lv_iload_n hx hb dd_R_below_4 rfl (lv_at hl 0 rfl) ?_
    refine lv_iload_n hx hb dd_R_below_5 rfl (lv_at hl 1 rfl) ?_
    refine lv_icmp_ge hx hb dd_R_below_6 rfl (fun b2 => ?_) (fun b2 => ?_)
    · replace h := xs_p b2 h
      refine lv_iconst (v := 0) hx hb dd_R_below_13 rfl ?_
      exact hret h hw dd_R_below_14
    · replace h := xs_n b2 h
      refine lv_iconst (v := 1) hx hb dd_R_below_9 rfl ?_
      refine lv_goto hx hb dd_R_below_10 rfl ?_
      exact hret h hw dd_R_below_14
set_option maxHeartbeats 4000000 in
set_option maxRecDepth 100000 in
theorem xc_R_transmit (l : Launch) (D : va_G) (ad : Nat → Nat) (ca : Nat → ClassId) (ks : List Nat) (k : Nat) (n1 : Int32) (S : xs_T) (T : xs_T) (hk : xs_is ks k xs_cR) (h : xf_R_transmit k n1 S = some T) (sz : Nat) : Met l yy_R_transmit ws_R_transmit { frames := 2, cells := 0, slots := 0, locals := 44 } (va_Pc [.ref (ad k), .int n1] (xs_Pre D ad ca ks S sz)) (va_Qv (fun _ : Unit => True) (fun _ t => va_P D xs_cl (xs_w ad ca ks T) t.heap) (xs_A ad ks sz)) 0 0 (xs_A ad ks sz) := by
  refine xm_v (by decide) (Nat.le_of_ble_eq_true rfl) ?_
  intro p e s m args below meth c R A Q ls hx hb hml hown hts hRf hRl hK hw hl hret
  have hl : lv_has ls 2 [(0, .ref (ad k)), (1, .int n1)] := hl
  unfold xf_R_transmit at h
  refine lv_aload_n hx hb dd_R_transmit_0 rfl (lv_at hl 0 rfl) ?_
  refine xr_get_R (v := .ref (ad (k + 11))) hx hb hts hown hK hw hk 11 (by decide) (hts _ hw_754) rfl dd_R_transmit_1 ?_
  refine lv_bipush (v := 20) hx hb dd_R_transmit_4 rfl ?_
  refine lv_iload_n hx hb dd_R_transmit_6 rfl (lv_at hl 1 rfl) ?_
  refine lv_iadd hx hb dd_R_transmit_7 ?_
  refine lv_iconst (v := 3) hx hb dd_R_transmit_8 rfl ?_
  obtain ⟨S1, gS1, h⟩ := xs_ob h
  refine xr_iast hx hb hK hw (xs_ok_R_goal hK.1 hk) gS1 dd_R_transmit_9 (fun H locs hw => ?_)
  refine lv_aload_n hx hb dd_R_transmit_10 rfl (lv_at hl 0 rfl) ?_
  refine xr_get_R (v := .ref (ad (k + 13))) hx hb hts hown hK hw hk 15 (by decide) (hts _ hw_758) rfl dd_R_transmit_11 ?_
  refine lv_iload_n hx hb dd_R_transmit_14 rfl (lv_at hl 1 rfl) ?_
  refine lv_iconst (v := 1) hx hb dd_R_transmit_15 rfl ?_
  obtain ⟨S2, gS2, h⟩ := xs_ob h
  refine xr_zast hx hb hK hw (xs_ok_R_waits hK.1 hk) gS2 dd_R_transmit_16 (fun H locs hw => ?_)
  refine lv_aload_n hx hb dd_R_transmit_17 rfl (lv_at hl 0 rfl) ?_
  refine xr_get_R (v := .ref (ad (k + 14))) hx hb hts hown hK hw hk 16 (by decide) (hts _ hw_759) rfl dd_R_transmit_18 ?_
  refine lv_iload_n hx hb dd_R_transmit_21 rfl (lv_at hl 1 rfl) ?_
  refine lv_aload_n hx hb dd_R_transmit_22 rfl (lv_at hl 0 rfl) ?_
  refine xr_get_R (v := .int (xs_gI S2 k 8)) hx hb hts hown hK hw hk 8 (by decide) (hts _ hw_751) rfl dd_R_transmit_23 ?_
  obtain ⟨S3, gS3, h⟩ := xs_ob h
  refine xr_iast hx hb hK hw (xs_ok_R_since hK.1 hk) gS3 dd_R_transmit_26 (fun H locs hw => ?_)
  refine lv_aload_n hx hb dd_R_transmit_27 rfl (lv_at hl 0 rfl) ?_
  refine xr_get_R (v := .ref (ad (k + 15))) hx hb hts hown hK hw hk 17 (by decide) (hts _ hw_760) rfl dd_R_transmit_28 ?_
  refine lv_iload_n hx hb dd_R_transmit_31 rfl (lv_at hl 1 rfl) ?_
  refine lv_dup2_11 hx hb dd_R_transmit_32 rfl rfl ?_
  obtain ⟨v4, gv4, h⟩ := xs_ob h
  refine xr_iald hx hb hK hw (xs_ok_R_tries hK.1 hk) gv4 dd_R_transmit_33 ?_
  refine lv_iconst (v := 1) hx hb dd_R_transmit_34 rfl ?_
  refine lv_iadd hx hb dd_R_transmit_35 ?_
  obtain ⟨S5, gS5, h⟩ := xs_ob h
  refine xr_iast hx hb hK hw (xs_ok_R_tries hK.1 hk) gS5 dd_R_transmit_36 (fun H locs hw => ?_)
  refine lv_aload_n hx hb dd_R_transmit_37 rfl (lv_at hl 0 rfl) ?_
  refine lv_bipush (v := 20) hx hb dd_R_transmit_38 rfl ?_
  refine lv_iload_n hx hb dd_R_transmit_40 rfl (lv_at hl 1 rfl) ?_
  refine lv_iadd hx hb dd_R_transmit_41 ?_
  obtain ⟨q6, gq6, h⟩ := xs_ob h
  refine xq_v hK hw (va_runV (As := [.int (20 + n1)]) (rest := []) ⟨hx, hb, hml, hown, hts⟩ (xc_R_post l D ad ca ks k (20 + n1) S5 q6 hk gq6 _) ⟨callB_of 1 hts (xs_good hw_924) rfl rfl rfl (hts _ hw_13) (hts _ hw_921) yd_R_post ⟨Nat.le_trans (by decide) hRf, Nat.le_trans (by decide) hRl⟩, (hts _ hw_923), (hts _ hs_24)⟩ ⟨xs_blind, xs_recv_R hK hw hk, fun U h1 h2 => ⟨rfl, xs_pre hK hw h1 h2⟩⟩ rfl rfl hl.1 rfl (lv_room (Nat.le_of_ble_eq_true rfl)) dd_R_transmit_42 ⟨Nat.zero_le _, Nat.zero_le _⟩) (fun H locs hw => ?_)
  exact hret h hw dd_R_transmit_45
set_option maxHeartbeats 4000000 in
set_option maxRecDepth 100000 in
theorem xc_R_join (l : Launch) (D : va_G) (ad : Nat → Nat) (ca : Nat → ClassId) (ks : List Nat) (k : Nat) (n1 : Int32) (S : xs_T) (r : Int32) (T : xs_T) (hk : xs_is ks k xs_cR) (h : xf_R_join k n1 S = some (r, T)) (sz : Nat) : Met l yy_R_join ws_R_join { frames := 6, cells := 0, slots := 0, locals := 143 } (va_Pc [.ref (ad k), .int n1] (xs_Pre D ad ca ks S sz)) (va_Qi (fun r1 (_ : Unit) => r1 = r) (fun _ t => va_P D xs_cl (xs_w ad ca ks T) t.heap) (xs_A ad ks sz)) 0 0 (xs_A ad ks sz) := by
  refine xm_i (by decide) (Nat.le_of_ble_eq_true rfl) ?_
  intro p e s m args below meth c R A Q ls hx hb hml hown hts hRf hRl hK hw hl hret
  have hl : lv_has ls 4 [(0, .ref (ad k)), (1, .int n1)] := hl
  have w_115 : ∀ (f : Nat), ∀ (i2 : Int32) (i3 : Int32) (S : xs_T) (H : Heap) (locs : List Loc) (ls : Array Slot), xs_I D ad ca ks A s S H locs → lv_has ls 4 [(0, .ref (ad k)), (1, .int n1), (2, .int i2), (3, .int i3)] → xf_R_join_115 k n1 f i2 i3 S = some (r, T) → W p l e R s m args below meth c H locs 0 0 Q (F0 m 115 ls []) := by
    intro f
    induction f with
    | zero => intro i2 i3 S H locs ls hw hl h; exact absurd h (by simp [xf_R_join_115])
    | succ f ih =>
      intro i2 i3 S H locs ls hw hl h
      rw [xf_R_join_115] at h
      refine lv_iload_n hx hb dd_R_join_115 rfl (lv_at hl 3 rfl) ?_
      refine lv_iconst (v := 4) hx hb dd_R_join_116 rfl ?_
      refine lv_icmp_ge hx hb dd_R_join_117 rfl (fun b17 => ?_) (fun b17 => ?_)
      · replace h := xs_p b17 h
        refine lv_aload_n hx hb dd_R_join_137 rfl (lv_at hl 0 rfl) ?_
        refine xr_get_R (v := .ref (ad (k + 15))) hx hb hts hown hK hw hk 17 (by decide) (hts _ hw_760) rfl dd_R_join_138 ?_
        refine lv_iload_n hx hb dd_R_join_141 rfl (lv_at hl 1 rfl) ?_
        refine lv_iconst (v := 0) hx hb dd_R_join_142 rfl ?_
        obtain ⟨S18, gS18, h⟩ := xs_ob h
        refine xr_iast hx hb hK hw (xs_ok_R_tries hK.1 hk) gS18 dd_R_join_143 (fun H locs hw => ?_)
        refine lv_aload_n hx hb dd_R_join_144 rfl (lv_at hl 0 rfl) ?_
        refine lv_iload_n hx hb dd_R_join_145 rfl (lv_at hl 1 rfl) ?_
        obtain ⟨q19, gq19, h⟩ := xs_ob h
        refine xq_v hK hw (va_runV (As := [.int n1]) (rest := []) ⟨hx, hb, hml, hown, hts⟩ (xc_R_transmit l D ad ca ks k n1 S18 q19 hk gq19 _) ⟨callB_of 1 hts (xs_good hw_920) rfl rfl rfl (hts _ hw_13) (hts _ hw_917) yd_R_transmit ⟨Nat.le_trans (by decide) hRf, Nat.le_trans (by decide) hRl⟩, (hts _ hw_919), (hts _ hs_23)⟩ ⟨xs_blind, xs_recv_R hK hw hk, fun U h1 h2 => ⟨rfl, xs_pre hK hw h1 h2⟩⟩ rfl rfl hl.1 rfl (lv_room (Nat.le_of_ble_eq_true rfl)) dd_R_join_146 ⟨Nat.zero_le _, Nat.zero_le _⟩) (fun H locs hw => ?_)
        refine lv_aload_n hx hb dd_R_join_149 rfl (lv_at hl 0 rfl) ?_
        refine xr_get_R (v := .ref (ad (k + 16))) hx hb hts hown hK hw hk 18 (by decide) (hts _ hw_761) rfl dd_R_join_150 ?_
        refine lv_iload_n hx hb dd_R_join_153 rfl (lv_at hl 1 rfl) ?_
        obtain ⟨v20, gv20, h⟩ := xs_ob h
        refine xr_iald hx hb hK hw (xs_ok_R_nonce hK.1 hk) gv20 dd_R_join_154 ?_
        exact hret h hw dd_R_join_155
      · replace h := xs_n b17 h
        refine lv_aload_n hx hb dd_R_join_120 rfl (lv_at hl 0 rfl) ?_
        refine lv_iload_n hx hb dd_R_join_121 rfl (lv_at hl 2 rfl) ?_
        refine lv_aload_n hx hb dd_R_join_122 rfl (lv_at hl 0 rfl) ?_
        refine xr_get_R (v := .ref (ad (k + 6))) hx hb hts hown hK hw hk 5 (by decide) (hts _ hw_748) rfl dd_R_join_123 ?_
        refine lv_iload_n hx hb dd_R_join_126 rfl (lv_at hl 3 rfl) ?_
        obtain ⟨v21, gv21, h⟩ := xs_ob h
        refine xr_iald hx hb hK hw (xs_ok_R_code hK.1 hk) gv21 dd_R_join_127 ?_
        obtain ⟨q22, gq22, h⟩ := xs_ob h
        refine xq_v hK hw (va_runV (As := [.int i2, .int v21]) (rest := []) ⟨hx, hb, hml, hown, hts⟩ (xc_R_write l D ad ca ks k i2 v21 S q22 hk gq22 _) ⟨callB_of 2 hts (xs_good hw_876) rfl rfl rfl (hts _ hw_13) (hts _ hw_873) yd_R_write ⟨Nat.le_trans (by decide) hRf, Nat.le_trans (by decide) hRl⟩, (hts _ hw_875), (hts _ hs_12)⟩ ⟨xs_blind, xs_recv_R hK hw hk, fun U h1 h2 => ⟨rfl, xs_pre hK hw h1 h2⟩⟩ rfl rfl hl.1 rfl (lv_room (Nat.le_of_ble_eq_true rfl)) dd_R_join_128 ⟨Nat.zero_le _, Nat.zero_le _⟩) (fun H locs hw => ?_)
        refine lv_iinc (k := 3) (v := i3 + 1) hx hb dd_R_join_131 hl rfl rfl (by decide) rfl (fun ls hl => ?_)
        have hl : lv_has ls 4 [(3, .int (i3 + 1)), (0, .ref (ad k)), (1, .int n1), (2, .int i2)] := hl
        refine lv_goto hx hb dd_R_join_134 rfl ?_
        exact ih i2 (i3 + 1) q22 _ _ _ hw (lv_sub hl [1, 2, 3, 0] rfl) h
  have w_61 : ∀ (f : Nat), ∀ (i2 : Int32) (i3 : Int32) (S : xs_T) (H : Heap) (locs : List Loc) (ls : Array Slot), xs_I D ad ca ks A s S H locs → lv_has ls 4 [(0, .ref (ad k)), (1, .int n1), (2, .int i2), (3, .int i3)] → xf_R_join_61 k n1 f i2 i3 S = some (r, T) → W p l e R s m args below meth c H locs 0 0 Q (F0 m 61 ls []) := by
    intro f
    induction f with
    | zero => intro i2 i3 S H locs ls hw hl h; exact absurd h (by simp [xf_R_join_61])
    | succ f ih =>
      intro i2 i3 S H locs ls hw hl h
      rw [xf_R_join_61] at h
      refine lv_iload_n hx hb dd_R_join_61 rfl (lv_at hl 3 rfl) ?_
      refine lv_bipush (v := 9) hx hb dd_R_join_62 rfl ?_
      refine lv_icmp_ge hx hb dd_R_join_64 rfl (fun b11 => ?_) (fun b11 => ?_)
      · replace h := xs_p b11 h
        refine lv_aload_n hx hb dd_R_join_79 rfl (lv_at hl 0 rfl) ?_
        refine lv_iload_n hx hb dd_R_join_80 rfl (lv_at hl 2 rfl) ?_
        refine lv_iload_n hx hb dd_R_join_81 rfl (lv_at hl 1 rfl) ?_
        refine lv_iconst (v := 4) hx hb dd_R_join_82 rfl ?_
        obtain ⟨q12, gq12, h⟩ := xs_ob h
        refine xq_v hK hw (va_runV (As := [.int i2, .int n1, .int 4]) (rest := []) ⟨hx, hb, hml, hown, hts⟩ (xc_R_writeNumber l D ad ca ks k i2 n1 4 S q12 hk gq12 _) ⟨callB_of 3 hts (xs_good hw_880) rfl rfl rfl (hts _ hw_13) (hts _ hw_877) yd_R_writeNumber ⟨Nat.le_trans (by decide) hRf, Nat.le_trans (by decide) hRl⟩, (hts _ hw_879), (hts _ hs_13)⟩ ⟨xs_blind, xs_recv_R hK hw hk, fun U h1 h2 => ⟨rfl, xs_pre hK hw h1 h2⟩⟩ rfl rfl hl.1 rfl (lv_room (Nat.le_of_ble_eq_true rfl)) dd_R_join_83 ⟨Nat.zero_le _, Nat.zero_le _⟩) (fun H locs hw => ?_)
        refine lv_aload_n hx hb dd_R_join_86 rfl (lv_at hl 0 rfl) ?_
        refine lv_iload_n hx hb dd_R_join_87 rfl (lv_at hl 2 rfl) ?_
        refine lv_iconst (v := 0) hx hb dd_R_join_88 rfl ?_
        refine lv_iconst (v := 4) hx hb dd_R_join_89 rfl ?_
        obtain ⟨q13, gq13, h⟩ := xs_ob h
        refine xq_v hK hw (va_runV (As := [.int i2, .int 0, .int 4]) (rest := []) ⟨hx, hb, hml, hown, hts⟩ (xc_R_writeNumber l D ad ca ks k i2 0 4 q12 q13 hk gq13 _) ⟨callB_of 3 hts (xs_good hw_880) rfl rfl rfl (hts _ hw_13) (hts _ hw_877) yd_R_writeNumber ⟨Nat.le_trans (by decide) hRf, Nat.le_trans (by decide) hRl⟩, (hts _ hw_879), (hts _ hs_13)⟩ ⟨xs_blind, xs_recv_R hK hw hk, fun U h1 h2 => ⟨rfl, xs_pre hK hw h1 h2⟩⟩ rfl rfl hl.1 rfl (lv_room (Nat.le_of_ble_eq_true rfl)) dd_R_join_90 ⟨Nat.zero_le _, Nat.zero_le _⟩) (fun H locs hw => ?_)
        refine lv_aload_n hx hb dd_R_join_93 rfl (lv_at hl 0 rfl) ?_
        refine lv_iload_n hx hb dd_R_join_94 rfl (lv_at hl 2 rfl) ?_
        refine lv_aload_n hx hb dd_R_join_95 rfl (lv_at hl 0 rfl) ?_
        refine xr_get_R (v := .ref (ad (k + 16))) hx hb hts hown hK hw hk 18 (by decide) (hts _ hw_761) rfl dd_R_join_96 ?_
        refine lv_iload_n hx hb dd_R_join_99 rfl (lv_at hl 1 rfl) ?_
        obtain ⟨v14, gv14, h⟩ := xs_ob h
        refine xr_iald hx hb hK hw (xs_ok_R_nonce hK.1 hk) gv14 dd_R_join_100 ?_
        refine lv_iconst (v := 2) hx hb dd_R_join_101 rfl ?_
        obtain ⟨q15, gq15, h⟩ := xs_ob h
        refine xq_v hK hw (va_runV (As := [.int i2, .int v14, .int 2]) (rest := []) ⟨hx, hb, hml, hown, hts⟩ (xc_R_writeNumber l D ad ca ks k i2 v14 2 q13 q15 hk gq15 _) ⟨callB_of 3 hts (xs_good hw_880) rfl rfl rfl (hts _ hw_13) (hts _ hw_877) yd_R_writeNumber ⟨Nat.le_trans (by decide) hRf, Nat.le_trans (by decide) hRl⟩, (hts _ hw_879), (hts _ hs_13)⟩ ⟨xs_blind, xs_recv_R hK hw hk, fun U h1 h2 => ⟨rfl, xs_pre hK hw h1 h2⟩⟩ rfl rfl hl.1 rfl (lv_room (Nat.le_of_ble_eq_true rfl)) dd_R_join_102 ⟨Nat.zero_le _, Nat.zero_le _⟩) (fun H locs hw => ?_)
        refine lv_aload_n hx hb dd_R_join_105 rfl (lv_at hl 0 rfl) ?_
        refine lv_iload_n hx hb dd_R_join_106 rfl (lv_at hl 2 rfl) ?_
        refine lv_bipush (v := 19) hx hb dd_R_join_107 rfl ?_
        refine lv_iload_n hx hb dd_R_join_109 rfl (lv_at hl 1 rfl) ?_
        obtain ⟨q16, gq16, h⟩ := xs_ob h
        refine xq_v hK hw (va_runV (As := [.int i2, .int 19, .int n1]) (rest := []) ⟨hx, hb, hml, hown, hts⟩ (xc_R_rootCode l D ad ca ks k i2 19 n1 q15 q16 hk gq16 _) ⟨callB_of 3 hts (xs_good hw_884) rfl rfl rfl (hts _ hw_13) (hts _ hw_881) yd_R_rootCode ⟨Nat.le_trans (by decide) hRf, Nat.le_trans (by decide) hRl⟩, (hts _ hw_883), (hts _ hs_14)⟩ ⟨xs_blind, xs_recv_R hK hw hk, fun U h1 h2 => ⟨rfl, xs_pre hK hw h1 h2⟩⟩ rfl rfl hl.1 rfl (lv_room (Nat.le_of_ble_eq_true rfl)) dd_R_join_110 ⟨Nat.zero_le _, Nat.zero_le _⟩) (fun H locs hw => ?_)
        refine lv_iconst (v := 0) hx hb dd_R_join_113 rfl ?_
        refine lv_istore_n hx hb dd_R_join_114 rfl hl (by decide) rfl (fun ls hl => ?_)
        have hl : lv_has ls 4 [(3, .int 0), (0, .ref (ad k)), (1, .int n1), (2, .int i2)] := hl
        exact w_115 xs_fuel i2 0 q16 _ _ _ hw (lv_sub hl [1, 2, 3, 0] rfl) h
      · replace h := xs_n b11 h
        refine lv_aload_n hx hb dd_R_join_67 rfl (lv_at hl 0 rfl) ?_
        refine lv_iload_n hx hb dd_R_join_68 rfl (lv_at hl 2 rfl) ?_
        refine lv_iconst (v := 0) hx hb dd_R_join_69 rfl ?_
        obtain ⟨q23, gq23, h⟩ := xs_ob h
        refine xq_v hK hw (va_runV (As := [.int i2, .int 0]) (rest := []) ⟨hx, hb, hml, hown, hts⟩ (xc_R_write l D ad ca ks k i2 0 S q23 hk gq23 _) ⟨callB_of 2 hts (xs_good hw_876) rfl rfl rfl (hts _ hw_13) (hts _ hw_873) yd_R_write ⟨Nat.le_trans (by decide) hRf, Nat.le_trans (by decide) hRl⟩, (hts _ hw_875), (hts _ hs_12)⟩ ⟨xs_blind, xs_recv_R hK hw hk, fun U h1 h2 => ⟨rfl, xs_pre hK hw h1 h2⟩⟩ rfl rfl hl.1 rfl (lv_room (Nat.le_of_ble_eq_true rfl)) dd_R_join_70 ⟨Nat.zero_le _, Nat.zero_le _⟩) (fun H locs hw => ?_)
        refine lv_iinc (k := 3) (v := i3 + 1) hx hb dd_R_join_73 hl rfl rfl (by decide) rfl (fun ls hl => ?_)
        have hl : lv_has ls 4 [(3, .int (i3 + 1)), (0, .ref (ad k)), (1, .int n1), (2, .int i2)] := hl
        refine lv_goto hx hb dd_R_join_76 rfl ?_
        exact ih i2 (i3 + 1) q23 _ _ _ hw (lv_sub hl [1, 2, 3, 0] rfl) h
  unfold xf_R_join at h
  refine lv_iload_n hx hb dd_R_join_0 rfl (lv_at hl 1 rfl) ?_
  refine lv_iconst (v := 3) hx hb dd_R_join_1 rfl ?_
  obtain ⟨q1, gq1, h⟩ := xs_ob h
  refine xq_i hK hw (va_runS (As := [.int n1, .int 3]) (rest := []) ⟨hx, hb, hml, hown, hts⟩ (xc_R_below l D ad ca ks n1 3 S q1 gq1 _) ⟨callB_of 2 hts (xs_good hw_871) rfl rfl rfl (hts _ hw_13) (hts _ hw_869) yd_R_below ⟨Nat.le_trans (by decide) hRf, Nat.le_trans (by decide) hRl⟩, (hts _ hw_870)⟩ ⟨xs_blind, fun U h1 h2 => ⟨rfl, xs_pre hK hw h1 h2⟩⟩ rfl rfl hl.1 rfl (lv_room (Nat.le_of_ble_eq_true rfl)) dd_R_join_2 ⟨Nat.zero_le _, Nat.zero_le _⟩) (fun H locs hw => ?_)
  refine lv_if_eq hx hb dd_R_join_5 rfl (fun b2 => ?_) (fun b2 => ?_)
  · replace h := xs_p b2 h
    refine lv_iconst (v := (-1)) hx hb dd_R_join_28 rfl ?_
    exact hret h hw dd_R_join_29
  · replace h := xs_n b2 h
    refine lv_aload_n hx hb dd_R_join_8 rfl (lv_at hl 0 rfl) ?_
    refine xr_get_R (v := .ref (ad (k + 13))) hx hb hts hown hK hw hk 15 (by decide) (hts _ hw_758) rfl dd_R_join_9 ?_
    refine lv_iload_n hx hb dd_R_join_12 rfl (lv_at hl 1 rfl) ?_
    obtain ⟨v3, gv3, h⟩ := xs_ob h
    refine xr_zald hx hb hK hw (xs_ok_R_waits hK.1 hk) gv3 dd_R_join_13 ?_
    refine lv_if_ne hx hb dd_R_join_14 rfl (fun b4 => ?_) (fun b4 => ?_)
    · replace h := xs_n b4 h
      refine lv_iconst (v := (-1)) hx hb dd_R_join_28 rfl ?_
      exact hret h hw dd_R_join_29
    · replace h := xs_p b4 h
      refine lv_aload_n hx hb dd_R_join_17 rfl (lv_at hl 0 rfl) ?_
      refine xr_get_R (v := .ref (ad (k + 16))) hx hb hts hown hK hw hk 18 (by decide) (hts _ hw_761) rfl dd_R_join_18 ?_
      refine lv_iload_n hx hb dd_R_join_21 rfl (lv_at hl 1 rfl) ?_
      obtain ⟨v5, gv5, h⟩ := xs_ob h
      refine xr_iald hx hb hK hw (xs_ok_R_nonce hK.1 hk) gv5 dd_R_join_22 ?_
      refine lv_ldc (v := 65535) hx hb hown (hts _ hw_872) dd_R_join_23 ?_
      refine lv_icmp_ne hx hb dd_R_join_25 rfl (fun b6 => ?_) (fun b6 => ?_)
      · replace h := xs_n b6 h
        refine lv_bipush (v := 20) hx hb dd_R_join_30 rfl ?_
        refine lv_iload_n hx hb dd_R_join_32 rfl (lv_at hl 1 rfl) ?_
        refine lv_iadd hx hb dd_R_join_33 ?_
        refine lv_istore_n hx hb dd_R_join_34 rfl hl (by decide) rfl (fun ls hl => ?_)
        have hl : lv_has ls 4 [(2, .int (20 + n1)), (0, .ref (ad k)), (1, .int n1)] := hl
        refine lv_aload_n hx hb dd_R_join_35 rfl (lv_at hl 1 rfl) ?_
        refine xr_get_R (v := .ref (ad (k + 16))) hx hb hts hown hK hw hk 18 (by decide) (hts _ hw_761) rfl dd_R_join_36 ?_
        refine lv_iload_n hx hb dd_R_join_39 rfl (lv_at hl 2 rfl) ?_
        refine lv_dup2_11 hx hb dd_R_join_40 rfl rfl ?_
        obtain ⟨v7, gv7, h⟩ := xs_ob h
        refine xr_iald hx hb hK hw (xs_ok_R_nonce hK.1 hk) gv7 dd_R_join_41 ?_
        refine lv_iconst (v := 1) hx hb dd_R_join_42 rfl ?_
        refine lv_iadd hx hb dd_R_join_43 ?_
        obtain ⟨S8, gS8, h⟩ := xs_ob h
        refine xr_iast hx hb hK hw (xs_ok_R_nonce hK.1 hk) gS8 dd_R_join_44 (fun H locs hw => ?_)
        refine lv_aload_n hx hb dd_R_join_45 rfl (lv_at hl 1 rfl) ?_
        refine xr_get_R (v := .ref (ad (k + 12))) hx hb hts hown hK hw hk 14 (by decide) (hts _ hw_757) rfl dd_R_join_46 ?_
        refine lv_iload_n hx hb dd_R_join_49 rfl (lv_at hl 2 rfl) ?_
        refine lv_iconst (v := 1) hx hb dd_R_join_50 rfl ?_
        obtain ⟨S9, gS9, h⟩ := xs_ob h
        refine xr_iast hx hb hK hw (xs_ok_R_state hK.1 hk) gS9 dd_R_join_51 (fun H locs hw => ?_)
        refine lv_aload_n hx hb dd_R_join_52 rfl (lv_at hl 1 rfl) ?_
        refine xr_get_R (v := .ref (ad (k + 10))) hx hb hts hown hK hw hk 10 (by decide) (hts _ hw_753) rfl dd_R_join_53 ?_
        refine lv_iload_n hx hb dd_R_join_56 rfl (lv_at hl 0 rfl) ?_
        refine lv_iconst (v := 0) hx hb dd_R_join_57 rfl ?_
        obtain ⟨S10, gS10, h⟩ := xs_ob h
        refine xr_iast hx hb hK hw (xs_ok_R_length hK.1 hk) gS10 dd_R_join_58 (fun H locs hw => ?_)
        refine lv_iconst (v := 0) hx hb dd_R_join_59 rfl ?_
        refine lv_istore_n hx hb dd_R_join_60 rfl hl (by decide) rfl (fun ls hl => ?_)
        have hl : lv_has ls 4 [(3, .int 0), (2, .int (20 + n1)), (0, .ref (ad k)), (1, .int n1)] := hl
        exact w_61 xs_fuel (20 + n1) 0 S10 _ _ _ hw (lv_sub hl [2, 3, 1, 0] rfl) h
      · replace h := xs_p b6 h
        refine lv_iconst (v := (-1)) hx hb dd_R_join_28 rfl ?_
        exact hret h hw dd_R_join_29
set_option maxHeartbeats 4000000 in
set_option maxRecDepth 100000 in
theorem xc_R_send (l : Launch) (D : va_G) (ad : Nat → Nat) (ca : Nat → ClassId) (ks : List Nat) (k : Nat) (n1 : Int32) (n2 : Int64) (n4 : Int32) (n5 : Int32) (n6 : Int32) (S : xs_T) (r : Int32) (T : xs_T) (hk : xs_is ks k xs_cR) (h : xf_R_send k n1 n2 n4 n5 n6 S = some (r, T)) (sz : Nat) : Met l yy_R_send ws_R_send { frames := 7, cells := 0, slots := 0, locals := 178 } (va_Pc [.ref (ad k), .int n1, .long n2, .int n4, .int n5, .int n6] (xs_Pre D ad ca ks S sz)) (va_Qi (fun r1 (_ : Unit) => r1 = r) (fun _ t => va_P D xs_cl (xs_w ad ca ks T) t.heap) (xs_A ad ks sz)) 0 0 (xs_A ad ks sz) := by
  refine xm_i (by decide) (Nat.le_of_ble_eq_true rfl) ?_
  intro p e s m args below meth c R A Q ls hx hb hml hown hts hRf hRl hK hw hl hret
  have hl : lv_has ls 9 [(0, .ref (ad k)), (1, .int n1), (2, .long n2), (4, .int n4), (5, .int n5), (6, .int n6)] := hl
  have w_104 : ∀ (i7 : Int32) (i8 : Int32) (S : xs_T) (H : Heap) (locs : List Loc) (ls : Array Slot), xs_I D ad ca ks A s S H locs → lv_has ls 9 [(0, .ref (ad k)), (1, .int n1), (2, .long n2), (4, .int n4), (7, .int i7), (8, .int i8)] → xf_R_send_104 k n1 n2 n4 n5 n6 i7 i8 S = some (r, T) → W p l e R s m args below meth c H locs 0 0 Q (F0 m 104 ls []) := by
    intro i7 i8 S H locs ls hw hl h
    unfold xf_R_send_104 at h
    refine lv_aload_n hx hb dd_R_send_104 rfl (lv_at hl 0 rfl) ?_
    refine lv_iload hx hb dd_R_send_105 (lv_at hl 4 rfl) ?_
    refine lv_lload_n hx hb dd_R_send_107 rfl (lv_at hl 2 rfl) ?_
    refine lv_iload hx hb dd_R_send_108 (lv_at hl 3 rfl) ?_
    refine lv_iconst (v := 3) hx hb dd_R_send_110 rfl ?_
    refine lv_iconst (v := 2) hx hb dd_R_send_111 rfl ?_
    refine lv_iload_n hx hb dd_R_send_112 rfl (lv_at hl 1 rfl) ?_
    refine lv_imul hx hb dd_R_send_113 ?_
    refine lv_iadd hx hb dd_R_send_114 ?_
    refine lv_iconst (v := 0) hx hb dd_R_send_115 rfl ?_
    refine lv_aload_n hx hb dd_R_send_116 rfl (lv_at hl 0 rfl) ?_
    refine xr_get_R (v := .ref (ad (k + 18))) hx hb hts hown hK hw hk 20 (by decide) (hts _ hw_763) rfl dd_R_send_117 ?_
    refine lv_iload_n hx hb dd_R_send_120 rfl (lv_at hl 1 rfl) ?_
    obtain ⟨v15, gv15, h⟩ := xs_ob h
    refine xr_iald hx hb hK hw (xs_ok_R_address hK.1 hk) gv15 dd_R_send_121 ?_
    refine lv_iload hx hb dd_R_send_122 (lv_at hl 5 rfl) ?_
    obtain ⟨q16, gq16, h⟩ := xs_ob h
    refine xq_v hK hw (va_runV (As := [.int i7, .long n2, .int n4, .int (3 + (2 * n1)), .int 0, .int v15, .int i8]) (rest := []) ⟨hx, hb, hml, hown, hts⟩ (xc_R_finish l D ad ca ks k i7 n2 n4 (3 + (2 * n1)) 0 v15 i8 S q16 hk gq16 _) ⟨callB_of 7 hts (xs_good hw_940) rfl rfl rfl (hts _ hw_13) (hts _ hw_937) yd_R_finish ⟨Nat.le_trans (by decide) hRf, Nat.le_trans (by decide) hRl⟩, (hts _ hw_939), (hts _ hs_27)⟩ ⟨xs_blind, xs_recv_R hK hw hk, fun U h1 h2 => ⟨rfl, xs_pre hK hw h1 h2⟩⟩ rfl rfl hl.1 rfl (lv_room (Nat.le_of_ble_eq_true rfl)) dd_R_send_124 ⟨Nat.zero_le _, Nat.zero_le _⟩) (fun H locs hw => ?_)
    refine lv_aload_n hx hb dd_R_send_127 rfl (lv_at hl 0 rfl) ?_
    refine xr_get_R (v := .ref (ad (k + 19))) hx hb hts hown hK hw hk 21 (by decide) (hts _ hw_764) rfl dd_R_send_128 ?_
    refine lv_iload_n hx hb dd_R_send_131 rfl (lv_at hl 1 rfl) ?_
    refine lv_dup2_11 hx hb dd_R_send_132 rfl rfl ?_
    obtain ⟨v17, gv17, h⟩ := xs_ob h
    refine xr_iald hx hb hK hw (xs_ok_R_nextUp hK.1 hk) gv17 dd_R_send_133 ?_
    refine lv_iconst (v := 1) hx hb dd_R_send_134 rfl ?_
    refine lv_iadd hx hb dd_R_send_135 ?_
    obtain ⟨S18, gS18, h⟩ := xs_ob h
    refine xr_iast hx hb hK hw (xs_ok_R_nextUp hK.1 hk) gS18 dd_R_send_136 (fun H locs hw => ?_)
    refine lv_aload_n hx hb dd_R_send_137 rfl (lv_at hl 0 rfl) ?_
    refine xr_get_R (v := .ref (ad (k + 15))) hx hb hts hown hK hw hk 17 (by decide) (hts _ hw_760) rfl dd_R_send_138 ?_
    refine lv_iload_n hx hb dd_R_send_141 rfl (lv_at hl 1 rfl) ?_
    refine lv_iconst (v := 0) hx hb dd_R_send_142 rfl ?_
    obtain ⟨S19, gS19, h⟩ := xs_ob h
    refine xr_iast hx hb hK hw (xs_ok_R_tries hK.1 hk) gS19 dd_R_send_143 (fun H locs hw => ?_)
    refine lv_aload_n hx hb dd_R_send_144 rfl (lv_at hl 0 rfl) ?_
    refine lv_iload_n hx hb dd_R_send_145 rfl (lv_at hl 1 rfl) ?_
    obtain ⟨q20, gq20, h⟩ := xs_ob h
    refine xq_v hK hw (va_runV (As := [.int n1]) (rest := []) ⟨hx, hb, hml, hown, hts⟩ (xc_R_transmit l D ad ca ks k n1 S19 q20 hk gq20 _) ⟨callB_of 1 hts (xs_good hw_920) rfl rfl rfl (hts _ hw_13) (hts _ hw_917) yd_R_transmit ⟨Nat.le_trans (by decide) hRf, Nat.le_trans (by decide) hRl⟩, (hts _ hw_919), (hts _ hs_23)⟩ ⟨xs_blind, xs_recv_R hK hw hk, fun U h1 h2 => ⟨rfl, xs_pre hK hw h1 h2⟩⟩ rfl rfl hl.1 rfl (lv_room (Nat.le_of_ble_eq_true rfl)) dd_R_send_146 ⟨Nat.zero_le _, Nat.zero_le _⟩) (fun H locs hw => ?_)
    refine lv_iload hx hb dd_R_send_149 (lv_at hl 5 rfl) ?_
    exact hret h hw dd_R_send_151
  have w_87 : ∀ (i7 : Int32) (i8 : Int32) (t1 : Int32) (t2 : Int32) (t3 : Int32) (t4 : Int32) (S : xs_T) (H : Heap) (locs : List Loc) (ls : Array Slot), xs_I D ad ca ks A s S H locs → lv_has ls 9 [(0, .ref (ad k)), (1, .int n1), (2, .long n2), (4, .int n4), (6, .int n6), (7, .int i7), (8, .int i8)] → xf_R_send_87 k n1 n2 n4 n5 n6 i7 i8 t1 t2 t3 t4 S = some (r, T) → W p l e R s m args below meth c H locs 0 0 Q (F0 m 87 ls [.int t4, .int t3, .int t2, .int t1, .ref (ad k)]) := by
    intro i7 i8 t1 t2 t3 t4 S H locs ls hw hl h
    unfold xf_R_send_87 at h
    refine lv_iload hx hb dd_R_send_87 (lv_at hl 6 rfl) ?_
    obtain ⟨q13, gq13, h⟩ := xs_ob h
    refine xq_v hK hw (va_runV (As := [.int t1, .int t2, .int t3, .int t4, .int i8]) (rest := []) ⟨hx, hb, hml, hown, hts⟩ (xc_R_begin l D ad ca ks k t1 t2 t3 t4 i8 S q13 hk gq13 _) ⟨callB_of 5 hts (xs_good hw_936) rfl rfl rfl (hts _ hw_13) (hts _ hw_933) yd_R_begin ⟨Nat.le_trans (by decide) hRf, Nat.le_trans (by decide) hRl⟩, (hts _ hw_935), (hts _ hs_26)⟩ ⟨xs_blind, xs_recv_R hK hw hk, fun U h1 h2 => ⟨rfl, xs_pre hK hw h1 h2⟩⟩ rfl rfl hl.1 rfl (lv_room (Nat.le_of_ble_eq_true rfl)) dd_R_send_89 ⟨Nat.zero_le _, Nat.zero_le _⟩) (fun H locs hw => ?_)
    refine lv_iload hx hb dd_R_send_92 (lv_at hl 4 rfl) ?_
    refine lv_if_eq hx hb dd_R_send_94 rfl (fun b14 => ?_) (fun b14 => ?_)
    · replace h := xs_p b14 h
      exact w_104 i7 i8 q13 _ _ _ hw (lv_sub hl [0, 1, 2, 3, 5, 6] rfl) h
    · replace h := xs_n b14 h
      refine lv_aload_n hx hb dd_R_send_97 rfl (lv_at hl 0 rfl) ?_
      refine lv_iload hx hb dd_R_send_98 (lv_at hl 5 rfl) ?_
      refine lv_iconst (v := 2) hx hb dd_R_send_100 rfl ?_
      obtain ⟨q21, gq21, h⟩ := xs_ob h
      refine xq_v hK hw (va_runV (As := [.int i7, .int 2]) (rest := []) ⟨hx, hb, hml, hown, hts⟩ (xc_R_write l D ad ca ks k i7 2 q13 q21 hk gq21 _) ⟨callB_of 2 hts (xs_good hw_876) rfl rfl rfl (hts _ hw_13) (hts _ hw_873) yd_R_write ⟨Nat.le_trans (by decide) hRf, Nat.le_trans (by decide) hRl⟩, (hts _ hw_875), (hts _ hs_12)⟩ ⟨xs_blind, xs_recv_R hK hw hk, fun U h1 h2 => ⟨rfl, xs_pre hK hw h1 h2⟩⟩ rfl rfl hl.1 rfl (lv_room (Nat.le_of_ble_eq_true rfl)) dd_R_send_101 ⟨Nat.zero_le _, Nat.zero_le _⟩) (fun H locs hw => ?_)
      exact w_104 i7 i8 q21 _ _ _ hw (lv_sub hl [0, 1, 2, 3, 5, 6] rfl) h
  have w_71 : ∀ (i7 : Int32) (i8 : Int32) (t1 : Int32) (t2 : Int32) (S : xs_T) (H : Heap) (locs : List Loc) (ls : Array Slot), xs_I D ad ca ks A s S H locs → lv_has ls 9 [(0, .ref (ad k)), (1, .int n1), (2, .long n2), (4, .int n4), (6, .int n6), (7, .int i7), (8, .int i8)] → xf_R_send_71 k n1 n2 n4 n5 n6 i7 i8 t1 t2 S = some (r, T) → W p l e R s m args below meth c H locs 0 0 Q (F0 m 71 ls [.int t2, .int t1, .ref (ad k)]) := by
    intro i7 i8 t1 t2 S H locs ls hw hl h
    unfold xf_R_send_71 at h
    refine lv_aload_n hx hb dd_R_send_71 rfl (lv_at hl 0 rfl) ?_
    refine xr_get_R (v := .ref (ad (k + 18))) hx hb hts hown hK hw hk 20 (by decide) (hts _ hw_763) rfl dd_R_send_72 ?_
    refine lv_iload_n hx hb dd_R_send_75 rfl (lv_at hl 1 rfl) ?_
    obtain ⟨v11, gv11, h⟩ := xs_ob h
    refine xr_iald hx hb hK hw (xs_ok_R_address hK.1 hk) gv11 dd_R_send_76 ?_
    refine lv_iload hx hb dd_R_send_77 (lv_at hl 4 rfl) ?_
    refine lv_if_eq hx hb dd_R_send_79 rfl (fun b12 => ?_) (fun b12 => ?_)
    · replace h := xs_p b12 h
      refine lv_iconst (v := 0) hx hb dd_R_send_86 rfl ?_
      exact w_87 i7 i8 t1 t2 v11 0 S _ _ _ hw (lv_sub hl [0, 1, 2, 3, 4, 5, 6] rfl) h
    · replace h := xs_n b12 h
      refine lv_iconst (v := 1) hx hb dd_R_send_82 rfl ?_
      refine lv_goto hx hb dd_R_send_83 rfl ?_
      exact w_87 i7 i8 t1 t2 v11 1 S _ _ _ hw (lv_sub hl [0, 1, 2, 3, 4, 5, 6] rfl) h
  unfold xf_R_send at h
  refine lv_iload_n hx hb dd_R_send_0 rfl (lv_at hl 1 rfl) ?_
  refine lv_iconst (v := 3) hx hb dd_R_send_1 rfl ?_
  obtain ⟨q1, gq1, h⟩ := xs_ob h
  refine xq_i hK hw (va_runS (As := [.int n1, .int 3]) (rest := []) ⟨hx, hb, hml, hown, hts⟩ (xc_R_below l D ad ca ks n1 3 S q1 gq1 _) ⟨callB_of 2 hts (xs_good hw_871) rfl rfl rfl (hts _ hw_13) (hts _ hw_869) yd_R_below ⟨Nat.le_trans (by decide) hRf, Nat.le_trans (by decide) hRl⟩, (hts _ hw_870)⟩ ⟨xs_blind, fun U h1 h2 => ⟨rfl, xs_pre hK hw h1 h2⟩⟩ rfl rfl hl.1 rfl (lv_room (Nat.le_of_ble_eq_true rfl)) dd_R_send_2 ⟨Nat.zero_le _, Nat.zero_le _⟩) (fun H locs hw => ?_)
  refine lv_if_eq hx hb dd_R_send_5 rfl (fun b2 => ?_) (fun b2 => ?_)
  · replace h := xs_p b2 h
    refine lv_iconst (v := (-1)) hx hb dd_R_send_39 rfl ?_
    exact hret h hw dd_R_send_40
  · replace h := xs_n b2 h
    refine lv_aload_n hx hb dd_R_send_8 rfl (lv_at hl 0 rfl) ?_
    refine xr_get_R (v := .ref (ad (k + 12))) hx hb hts hown hK hw hk 14 (by decide) (hts _ hw_757) rfl dd_R_send_9 ?_
    refine lv_iload_n hx hb dd_R_send_12 rfl (lv_at hl 1 rfl) ?_
    obtain ⟨v3, gv3, h⟩ := xs_ob h
    refine xr_iald hx hb hK hw (xs_ok_R_state hK.1 hk) gv3 dd_R_send_13 ?_
    refine lv_iconst (v := 2) hx hb dd_R_send_14 rfl ?_
    refine lv_icmp_ne hx hb dd_R_send_15 rfl (fun b4 => ?_) (fun b4 => ?_)
    · replace h := xs_n b4 h
      refine lv_iconst (v := (-1)) hx hb dd_R_send_39 rfl ?_
      exact hret h hw dd_R_send_40
    · replace h := xs_p b4 h
      refine lv_aload_n hx hb dd_R_send_18 rfl (lv_at hl 0 rfl) ?_
      refine xr_get_R (v := .ref (ad (k + 13))) hx hb hts hown hK hw hk 15 (by decide) (hts _ hw_758) rfl dd_R_send_19 ?_
      refine lv_iload_n hx hb dd_R_send_22 rfl (lv_at hl 1 rfl) ?_
      obtain ⟨v5, gv5, h⟩ := xs_ob h
      refine xr_zald hx hb hK hw (xs_ok_R_waits hK.1 hk) gv5 dd_R_send_23 ?_
      refine lv_if_ne hx hb dd_R_send_24 rfl (fun b6 => ?_) (fun b6 => ?_)
      · replace h := xs_n b6 h
        refine lv_iconst (v := (-1)) hx hb dd_R_send_39 rfl ?_
        exact hret h hw dd_R_send_40
      · replace h := xs_p b6 h
        refine lv_iload hx hb dd_R_send_27 (lv_at hl 3 rfl) ?_
        refine lv_if_lt hx hb dd_R_send_29 rfl (fun b7 => ?_) (fun b7 => ?_)
        · replace h := xs_p b7 h
          refine lv_iconst (v := (-1)) hx hb dd_R_send_39 rfl ?_
          exact hret h hw dd_R_send_40
        · replace h := xs_n b7 h
          refine lv_iload hx hb dd_R_send_32 (lv_at hl 3 rfl) ?_
          refine lv_bipush (v := 8) hx hb dd_R_send_34 rfl ?_
          refine lv_icmp_le hx hb dd_R_send_36 rfl (fun b8 => ?_) (fun b8 => ?_)
          · replace h := xs_p b8 h
            refine lv_bipush (v := 20) hx hb dd_R_send_41 rfl ?_
            refine lv_iload_n hx hb dd_R_send_43 rfl (lv_at hl 1 rfl) ?_
            refine lv_iadd hx hb dd_R_send_44 ?_
            refine lv_istore hx hb dd_R_send_45 hl (by decide) rfl (fun ls hl => ?_)
            have hl : lv_has ls 9 [(7, .int (20 + n1)), (0, .ref (ad k)), (1, .int n1), (2, .long n2), (4, .int n4), (5, .int n5), (6, .int n6)] := hl
            refine lv_aload_n hx hb dd_R_send_47 rfl (lv_at hl 1 rfl) ?_
            refine xr_get_R (v := .ref (ad (k + 19))) hx hb hts hown hK hw hk 21 (by decide) (hts _ hw_764) rfl dd_R_send_48 ?_
            refine lv_iload_n hx hb dd_R_send_51 rfl (lv_at hl 2 rfl) ?_
            obtain ⟨v9, gv9, h⟩ := xs_ob h
            refine xr_iald hx hb hK hw (xs_ok_R_nextUp hK.1 hk) gv9 dd_R_send_52 ?_
            refine lv_istore hx hb dd_R_send_53 hl (by decide) rfl (fun ls hl => ?_)
            have hl : lv_has ls 9 [(8, .int v9), (7, .int (20 + n1)), (0, .ref (ad k)), (1, .int n1), (2, .long n2), (4, .int n4), (5, .int n5), (6, .int n6)] := hl
            refine lv_aload_n hx hb dd_R_send_55 rfl (lv_at hl 2 rfl) ?_
            refine lv_iload hx hb dd_R_send_56 (lv_at hl 1 rfl) ?_
            refine lv_iload hx hb dd_R_send_58 (lv_at hl 6 rfl) ?_
            refine lv_if_eq hx hb dd_R_send_60 rfl (fun b10 => ?_) (fun b10 => ?_)
            · replace h := xs_p b10 h
              refine lv_bipush (v := 64) hx hb dd_R_send_69 rfl ?_
              exact w_71 (20 + n1) v9 (20 + n1) 64 S _ _ _ hw (lv_sub hl [2, 3, 4, 5, 7, 1, 0] rfl) h
            · replace h := xs_n b10 h
              refine lv_sipush (v := 128) hx hb dd_R_send_63 rfl ?_
              refine lv_goto hx hb dd_R_send_66 rfl ?_
              exact w_71 (20 + n1) v9 (20 + n1) 128 S _ _ _ hw (lv_sub hl [2, 3, 4, 5, 7, 1, 0] rfl) h
          · replace h := xs_n b8 h
            refine lv_iconst (v := (-1)) hx hb dd_R_send_39 rfl ?_
            exact hret h hw dd_R_send_40
