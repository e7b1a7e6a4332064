set_option maxHeartbeats 4000000 in
set_option maxRecDepth 100000 in
theorem xc_K_dequeue (l : Launch) (D : va_G) (ad : Nat → Nat) (ca : Nat → ClassId) (ks : List Nat) (k : Nat) (S : xs_T) (T : xs_T) (hk : xs_is ks k xs_cK) (h : xf_K_dequeue k S = some T) (sz : Nat) : Met l yy_K_dequeue ws_K_dequeue { frames := 0, cells := 0, slots := 0, locals := 0 } (va_Pc [.ref (ad k)] (xs_Pre D ad ca ks S sz)) (va_Qv (fun _ : Unit => True) (fun _ t => va_P D xs_cl (xs_w ad ca ks T) t.heap) (xs_A ad ks sz)) 0 0 (xs_A ad ks sz) := by
  refine xm_v (by decide) (Nat.le_of_ble_eq_true rfl) ?_
  intro p e s m args below meth c R A Q ls hx hb hml hown hts hRf hRl hK hw hl hret
  have hl : lv_has ls 2 [(0, .ref (ad k))] := hl
  have w_20 : ∀ (f : Nat), ∀ (i1 : Int32) (S : xs_T) (H : Heap) (locs : List Loc) (ls : Array Slot), xs_I D ad ca ks A s S H locs → lv_has ls 2 [(0, .ref (ad k)), (1, .int i1)] → xf_K_dequeue_20 k f i1 S = some T → W p l e R s m args below meth c H locs 0 0 Q (F0 m 20 ls []) := by
    intro f
    induction f with
    | zero => intro i1 S H locs ls hw hl h; exact absurd h (by simp [xf_K_dequeue_20])
    | succ f ih =>
      intro i1 S H locs ls hw hl h
      rw [xf_K_dequeue_20] at h
      refine lv_iload_n hx hb dd_K_dequeue_20 rfl (lv_at hl 1 rfl) ?_
      refine lv_aload_n hx hb dd_K_dequeue_21 rfl (lv_at hl 0 rfl) ?_
      refine xr_get_K (v := .int (xs_gI S k 6)) hx hb hts hown hK hw hk 6 (by decide) (hts _ hw_289) rfl dd_K_dequeue_22 ?_
      refine lv_icmp_ge hx hb dd_K_dequeue_25 rfl (fun b3 => ?_) (fun b3 => ?_)
      · replace h := xs_p b3 h
        exact hret h hw dd_K_dequeue_62
      · replace h := xs_n b3 h
        refine lv_aload_n hx hb dd_K_dequeue_28 rfl (lv_at hl 0 rfl) ?_
        refine xr_get_K (v := .ref (ad (k + 14))) hx hb hts hown hK hw hk 4 (by decide) (hts _ hw_287) rfl dd_K_dequeue_29 ?_
        refine lv_iload_n hx hb dd_K_dequeue_32 rfl (lv_at hl 1 rfl) ?_
        refine lv_aload_n hx hb dd_K_dequeue_33 rfl (lv_at hl 0 rfl) ?_
        refine xr_get_K (v := .ref (ad (k + 14))) hx hb hts hown hK hw hk 4 (by decide) (hts _ hw_287) rfl dd_K_dequeue_34 ?_
        refine lv_iload_n hx hb dd_K_dequeue_37 rfl (lv_at hl 1 rfl) ?_
        refine lv_iconst (v := 1) hx hb dd_K_dequeue_38 rfl ?_
        refine lv_iadd hx hb dd_K_dequeue_39 ?_
        obtain ⟨v4, gv4, h⟩ := xs_ob h
        refine xr_lald hx hb hK hw (xs_ok_K_queuedPayloads hK.1 hk) gv4 dd_K_dequeue_40 ?_
        obtain ⟨S5, gS5, h⟩ := xs_ob h
        refine xr_last hx hb hK hw (xs_ok_K_queuedPayloads hK.1 hk) gS5 dd_K_dequeue_41 (fun H locs hw => ?_)
        refine lv_aload_n hx hb dd_K_dequeue_42 rfl (lv_at hl 0 rfl) ?_
        refine xr_get_K (v := .ref (ad (k + 15))) hx hb hts hown hK hw hk 5 (by decide) (hts _ hw_288) rfl dd_K_dequeue_43 ?_
        refine lv_iload_n hx hb dd_K_dequeue_46 rfl (lv_at hl 1 rfl) ?_
        refine lv_aload_n hx hb dd_K_dequeue_47 rfl (lv_at hl 0 rfl) ?_
        refine xr_get_K (v := .ref (ad (k + 15))) hx hb hts hown hK hw hk 5 (by decide) (hts _ hw_288) rfl dd_K_dequeue_48 ?_
        refine lv_iload_n hx hb dd_K_dequeue_51 rfl (lv_at hl 1 rfl) ?_
        refine lv_iconst (v := 1) hx hb dd_K_dequeue_52 rfl ?_
        refine lv_iadd hx hb dd_K_dequeue_53 ?_
        obtain ⟨v6, gv6, h⟩ := xs_ob h
        refine xr_iald hx hb hK hw (xs_ok_K_queuedBytes hK.1 hk) gv6 dd_K_dequeue_54 ?_
        obtain ⟨S7, gS7, h⟩ := xs_ob h
        refine xr_iast hx hb hK hw (xs_ok_K_queuedBytes hK.1 hk) gS7 dd_K_dequeue_55 (fun H locs hw => ?_)
        refine lv_iinc (k := 1) (v := i1 + 1) hx hb dd_K_dequeue_56 hl rfl rfl (by decide) rfl (fun ls hl => ?_)
        have hl : lv_has ls 2 [(1, .int (i1 + 1)), (0, .ref (ad k))] := hl
        refine lv_goto hx hb dd_K_dequeue_59 rfl ?_
        exact ih (i1 + 1) S7 _ _ _ hw (lv_sub hl [1, 0] rfl) h
  unfold xf_K_dequeue at h
  refine lv_aload_n hx hb dd_K_dequeue_0 rfl (lv_at hl 0 rfl) ?_
  refine xr_get_K (v := .int (xs_gI S k 6)) hx hb hts hown hK hw hk 6 (by decide) (hts _ hw_289) rfl dd_K_dequeue_1 ?_
  refine lv_if_ne hx hb dd_K_dequeue_4 rfl (fun b1 => ?_) (fun b1 => ?_)
  · replace h := xs_n b1 h
    refine lv_aload_n hx hb dd_K_dequeue_8 rfl (lv_at hl 0 rfl) ?_
    refine lv_dup hx hb dd_K_dequeue_9 rfl ?_
    refine xr_get_K (v := .int (xs_gI S k 6)) hx hb hts hown hK hw hk 6 (by decide) (hts _ hw_289) rfl dd_K_dequeue_10 ?_
    refine lv_iconst (v := 1) hx hb dd_K_dequeue_13 rfl ?_
    refine lv_isub hx hb dd_K_dequeue_14 ?_
    obtain ⟨S2, gS2, h⟩ := xs_ob h
    refine xr_putI_K hx hb hts hown hK hw hk 6 (by decide) (hts _ hw_289) rfl rfl (fun _ _ => rfl) gS2 dd_K_dequeue_15 (fun H locs hw => ?_)
    refine lv_iconst (v := 0) hx hb dd_K_dequeue_18 rfl ?_
    refine lv_istore_n hx hb dd_K_dequeue_19 rfl hl (by decide) rfl (fun ls hl => ?_)
    have hl : lv_has ls 2 [(1, .int 0), (0, .ref (ad k))] := hl
    exact w_20 xs_fuel 0 S2 _ _ _ hw (lv_sub hl [1, 0] rfl) h
  · replace h := xs_p b1 h
    exact hret h hw dd_K_dequeue_7
set_option maxHeartbeats 4000000 in
set_option maxRecDepth 100000 in
theorem xc_K_writeAnswer (l : Launch) (D : va_G) (ad : Nat → Nat) (ca : Nat → ClassId) (ks : List Nat) (k : Nat) (a1 : Nat) (S : xs_T) (T : xs_T) (hk : xs_is ks k xs_cK) (ha1 : xs_is ks a1 xs_cF) (h : xf_K_writeAnswer k a1 S = some T) (sz : Nat) : Met l yy_K_writeAnswer ws_K_writeAnswer { frames := 4, cells := 0, slots := 0, locals := 120 } (va_Pc [.ref (ad k), .ref (ad a1)] (xs_Pre D ad ca ks S sz)) (va_Qv (fun _ : Unit => True) (fun _ t => va_P D xs_cl (xs_w ad ca ks T) t.heap) (xs_A ad ks sz)) 0 0 (xs_A ad ks sz) := by
  refine xm_v (by decide) (Nat.le_of_ble_eq_true rfl) ?_
  intro p e s m args below meth c R A Q ls hx hb hml hown hts hRf hRl hK hw hl hret
  have hl : lv_has ls 3 [(0, .ref (ad k)), (1, .ref (ad a1))] := hl
  have w_126 : ∀ (t2 : Int32) (t3 : Int32) (t4 : Int64) (t5 : Int32) (S : xs_T) (H : Heap) (locs : List Loc) (ls : Array Slot), xs_I D ad ca ks A s S H locs → lv_has ls 3 [(0, .ref (ad k))] → xf_K_writeAnswer_126 k a1 t2 t3 t4 t5 S = some T → W p l e R s m args below meth c H locs 0 0 Q (F0 m 126 ls [.int t5, .long t4, .int t3, .int t2, .ref (ad a1), .ref (ad (k + 1))]) := by
    intro t2 t3 t4 t5 S H locs ls hw hl h
    unfold xf_K_writeAnswer_126 at h
    obtain ⟨q8, gq8, h⟩ := xs_ob h
    refine xq_v hK hw (va_runV (As := [.ref (ad a1), .int t2, .int t3, .long t4, .int t5]) (rest := []) ⟨hx, hb, hml, hown, hts⟩ (xc_S_finish l D ad ca ks (k + 1) a1 t2 t3 t4 t5 S q8 (xs_ok_K_session hK.1 hk) ha1 gq8 _) ⟨callB_of 5 hts (xs_good hw_433) rfl rfl rfl (hts _ hw_9) (hts _ hw_502) yd_S_finish ⟨Nat.le_trans (by decide) hRf, Nat.le_trans (by decide) hRl⟩, (hts _ hw_431), (hts _ hw_432)⟩ ⟨xs_blind, xs_recv_S hK hw (xs_ok_K_session hK.1 hk), fun U h1 h2 => ⟨rfl, xs_pre hK hw h1 h2⟩⟩ rfl rfl hl.1 rfl (lv_room (Nat.le_of_ble_eq_true rfl)) dd_K_writeAnswer_126 ⟨Nat.zero_le _, Nat.zero_le _⟩) (fun H locs hw => ?_)
    refine lv_aload_n hx hb dd_K_writeAnswer_129 rfl (lv_at hl 0 rfl) ?_
    refine lv_dup hx hb dd_K_writeAnswer_130 rfl ?_
    refine xr_get_K (v := .int (xs_gI q8 k 11)) hx hb hts hown hK hw hk 11 (by decide) (hts _ hw_297) rfl dd_K_writeAnswer_131 ?_
    refine lv_iconst (v := 1) hx hb dd_K_writeAnswer_134 rfl ?_
    refine lv_iadd hx hb dd_K_writeAnswer_135 ?_
    obtain ⟨S9, gS9, h⟩ := xs_ob h
    refine xr_putI_K hx hb hts hown hK hw hk 11 (by decide) (hts _ hw_297) rfl rfl (fun _ _ => rfl) gS9 dd_K_writeAnswer_136 (fun H locs hw => ?_)
    refine lv_aload_n hx hb dd_K_writeAnswer_139 rfl (lv_at hl 0 rfl) ?_
    obtain ⟨q10, gq10, h⟩ := xs_ob h
    refine xq_v hK hw (va_runV (As := []) (rest := []) ⟨hx, hb, hml, hown, hts⟩ (xc_K_dequeue l D ad ca ks k S9 q10 hk gq10 _) ⟨callB_of 0 hts (xs_good hw_506) rfl rfl rfl (hts _ hw_12) (hts _ hw_503) yd_K_dequeue ⟨Nat.le_trans (by decide) hRf, Nat.le_trans (by decide) hRl⟩, (hts _ hw_505), (hts _ hs_5)⟩ ⟨xs_blind, xs_recv_K hK hw hk, fun U h1 h2 => ⟨rfl, xs_pre hK hw h1 h2⟩⟩ rfl rfl hl.1 rfl (lv_room (Nat.le_of_ble_eq_true rfl)) dd_K_writeAnswer_140 ⟨Nat.zero_le _, Nat.zero_le _⟩) (fun H locs hw => ?_)
    exact hret h hw dd_K_writeAnswer_143
  have w_93 : ∀ (S : xs_T) (H : Heap) (locs : List Loc) (ls : Array Slot), xs_I D ad ca ks A s S H locs → lv_has ls 3 [(0, .ref (ad k)), (1, .ref (ad a1))] → xf_K_writeAnswer_93 k a1 S = some T → W p l e R s m args below meth c H locs 0 0 Q (F0 m 93 ls []) := by
    intro S H locs ls hw hl h
    unfold xf_K_writeAnswer_93 at h
    refine lv_aload_n hx hb dd_K_writeAnswer_93 rfl (lv_at hl 0 rfl) ?_
    refine xr_get_K (v := .ref (ad (k + 1))) hx hb hts hown hK hw hk 2 (by decide) (hts _ hw_283) rfl dd_K_writeAnswer_94 ?_
    refine lv_aload_n hx hb dd_K_writeAnswer_97 rfl (lv_at hl 1 rfl) ?_
    refine lv_iconst (v := 1) hx hb dd_K_writeAnswer_98 rfl ?_
    refine lv_aload_n hx hb dd_K_writeAnswer_99 rfl (lv_at hl 0 rfl) ?_
    refine xr_get_K (v := .int (xs_gI S k 11)) hx hb hts hown hK hw hk 11 (by decide) (hts _ hw_297) rfl dd_K_writeAnswer_100 ?_
    refine lv_aload_n hx hb dd_K_writeAnswer_103 rfl (lv_at hl 0 rfl) ?_
    refine xr_get_K (v := .ref (ad (k + 14))) hx hb hts hown hK hw hk 4 (by decide) (hts _ hw_287) rfl dd_K_writeAnswer_104 ?_
    refine lv_iconst (v := 0) hx hb dd_K_writeAnswer_107 rfl ?_
    obtain ⟨v6, gv6, h⟩ := xs_ob h
    refine xr_lald hx hb hK hw (xs_ok_K_queuedPayloads hK.1 hk) gv6 dd_K_writeAnswer_108 ?_
    refine lv_aload_n hx hb dd_K_writeAnswer_109 rfl (lv_at hl 0 rfl) ?_
    refine xr_get_K (v := .int (xs_gI S k 6)) hx hb hts hown hK hw hk 6 (by decide) (hts _ hw_289) rfl dd_K_writeAnswer_110 ?_
    refine lv_if_le hx hb dd_K_writeAnswer_113 rfl (fun b7 => ?_) (fun b7 => ?_)
    · replace h := xs_p b7 h
      refine lv_iconst (v := 0) hx hb dd_K_writeAnswer_125 rfl ?_
      exact w_126 1 (xs_gI S k 11) v6 0 S _ _ _ hw (lv_sub hl [0] rfl) h
    · replace h := xs_n b7 h
      refine lv_aload_n hx hb dd_K_writeAnswer_116 rfl (lv_at hl 0 rfl) ?_
      refine xr_get_K (v := .ref (ad (k + 15))) hx hb hts hown hK hw hk 5 (by decide) (hts _ hw_288) rfl dd_K_writeAnswer_117 ?_
      refine lv_iconst (v := 0) hx hb dd_K_writeAnswer_120 rfl ?_
      obtain ⟨v11, gv11, h⟩ := xs_ob h
      refine xr_iald hx hb hK hw (xs_ok_K_queuedBytes hK.1 hk) gv11 dd_K_writeAnswer_121 ?_
      refine lv_goto hx hb dd_K_writeAnswer_122 rfl ?_
      exact w_126 1 (xs_gI S k 11) v6 v11 S _ _ _ hw (lv_sub hl [0] rfl) h
  have w_40 : ∀ (t0 : Int32) (t1 : Int32) (S : xs_T) (H : Heap) (locs : List Loc) (ls : Array Slot), xs_I D ad ca ks A s S H locs → lv_has ls 3 [(0, .ref (ad k)), (1, .ref (ad a1))] → xf_K_writeAnswer_40 k a1 t0 t1 S = some T → W p l e R s m args below meth c H locs 0 0 Q (F0 m 40 ls [.int t1, .int t0]) := by
    intro t0 t1 S H locs ls hw hl h
    unfold xf_K_writeAnswer_40 at h
    refine lv_iadd hx hb dd_K_writeAnswer_40 ?_
    refine lv_istore_n hx hb dd_K_writeAnswer_41 rfl hl (by decide) rfl (fun ls hl => ?_)
    have hl : lv_has ls 3 [(2, .int (t0 + t1)), (0, .ref (ad k)), (1, .ref (ad a1))] := hl
    refine lv_aload_n hx hb dd_K_writeAnswer_42 rfl (lv_at hl 1 rfl) ?_
    refine xr_get_K (v := .ref (ad (k + 1))) hx hb hts hown hK hw hk 2 (by decide) (hts _ hw_283) rfl dd_K_writeAnswer_43 ?_
    refine lv_aload_n hx hb dd_K_writeAnswer_46 rfl (lv_at hl 2 rfl) ?_
    refine lv_bipush (v := 96) hx hb dd_K_writeAnswer_47 rfl ?_
    refine lv_aload_n hx hb dd_K_writeAnswer_49 rfl (lv_at hl 1 rfl) ?_
    refine xr_get_K (v := .int (xs_gI S k 0)) hx hb hts hown hK hw hk 0 (by decide) (hts _ hw_280) rfl dd_K_writeAnswer_50 ?_
    refine lv_iload_n hx hb dd_K_writeAnswer_53 rfl (lv_at hl 0 rfl) ?_
    refine lv_aload_n hx hb dd_K_writeAnswer_54 rfl (lv_at hl 1 rfl) ?_
    refine xr_get_K (v := .int (xs_gI S k 11)) hx hb hts hown hK hw hk 11 (by decide) (hts _ hw_297) rfl dd_K_writeAnswer_55 ?_
    obtain ⟨q4, gq4, h⟩ := xs_ob h
    refine xq_v hK hw (va_runV (As := [.ref (ad a1), .int 96, .int (xs_gI S k 0), .int (t0 + t1), .int (xs_gI S k 11)]) (rest := []) ⟨hx, hb, hml, hown, hts⟩ (xc_S_begin l D ad ca ks (k + 1) a1 96 (xs_gI S k 0) (t0 + t1) (xs_gI S k 11) S q4 (xs_ok_K_session hK.1 hk) ha1 gq4 _) ⟨callB_of 5 hts (xs_good hw_427) rfl rfl rfl (hts _ hw_9) (hts _ hw_495) yd_S_begin ⟨Nat.le_trans (by decide) hRf, Nat.le_trans (by decide) hRl⟩, (hts _ hw_425), (hts _ hw_426)⟩ ⟨xs_blind, xs_recv_S hK hw (xs_ok_K_session hK.1 hk), fun U h1 h2 => ⟨rfl, xs_pre hK hw h1 h2⟩⟩ rfl rfl hl.1 rfl (lv_room (Nat.le_of_ble_eq_true rfl)) dd_K_writeAnswer_58 ⟨Nat.zero_le _, Nat.zero_le _⟩) (fun H locs hw => ?_)
    refine lv_aload_n hx hb dd_K_writeAnswer_61 rfl (lv_at hl 1 rfl) ?_
    refine xr_get_K (v := .int (xs_gI q4 k 15)) hx hb hts hown hK hw hk 15 (by decide) (hts _ hw_302) rfl dd_K_writeAnswer_62 ?_
    refine lv_if_eq hx hb dd_K_writeAnswer_65 rfl (fun b5 => ?_) (fun b5 => ?_)
    · replace h := xs_p b5 h
      exact w_93 q4 _ _ _ hw (lv_sub hl [1, 2] rfl) h
    · replace h := xs_n b5 h
      refine lv_aload_n hx hb dd_K_writeAnswer_68 rfl (lv_at hl 2 rfl) ?_
      refine lv_iconst (v := 2) hx hb dd_K_writeAnswer_69 rfl ?_
      refine lv_iconst (v := 1) hx hb dd_K_writeAnswer_70 rfl ?_
      obtain ⟨q12, gq12, h⟩ := xs_ob h
      refine xq_v hK hw (va_runV (As := [.int 2, .int 1]) (rest := []) ⟨hx, hb, hml, hown, hts⟩ (xc_F_append l D ad ca ks a1 2 1 q4 q12 ha1 gq12 _) ⟨callB_of 2 hts (xs_good hw_379) rfl rfl rfl (hts _ hw_3) (hts _ hw_479) yd_F_append ⟨Nat.le_trans (by decide) hRf, Nat.le_trans (by decide) hRl⟩, (hts _ hw_377), (hts _ hw_378)⟩ ⟨xs_blind, xs_recv_F hK hw ha1, fun U h1 h2 => ⟨rfl, xs_pre hK hw h1 h2⟩⟩ rfl rfl hl.1 rfl (lv_room (Nat.le_of_ble_eq_true rfl)) dd_K_writeAnswer_71 ⟨Nat.zero_le _, Nat.zero_le _⟩) (fun H locs hw => ?_)
      refine lv_aload_n hx hb dd_K_writeAnswer_74 rfl (lv_at hl 2 rfl) ?_
      refine lv_bipush (v := 10) hx hb dd_K_writeAnswer_75 rfl ?_
      refine lv_iconst (v := 1) hx hb dd_K_writeAnswer_77 rfl ?_
      obtain ⟨q13, gq13, h⟩ := xs_ob h
      refine xq_v hK hw (va_runV (As := [.int 10, .int 1]) (rest := []) ⟨hx, hb, hml, hown, hts⟩ (xc_F_append l D ad ca ks a1 10 1 q12 q13 ha1 gq13 _) ⟨callB_of 2 hts (xs_good hw_379) rfl rfl rfl (hts _ hw_3) (hts _ hw_479) yd_F_append ⟨Nat.le_trans (by decide) hRf, Nat.le_trans (by decide) hRl⟩, (hts _ hw_377), (hts _ hw_378)⟩ ⟨xs_blind, xs_recv_F hK hw ha1, fun U h1 h2 => ⟨rfl, xs_pre hK hw h1 h2⟩⟩ rfl rfl hl.1 rfl (lv_room (Nat.le_of_ble_eq_true rfl)) dd_K_writeAnswer_78 ⟨Nat.zero_le _, Nat.zero_le _⟩) (fun H locs hw => ?_)
      refine lv_aload_n hx hb dd_K_writeAnswer_81 rfl (lv_at hl 2 rfl) ?_
      refine lv_aload_n hx hb dd_K_writeAnswer_82 rfl (lv_at hl 1 rfl) ?_
      refine xr_get_K (v := .int (xs_gI q13 k 12)) hx hb hts hown hK hw hk 12 (by decide) (hts _ hw_298) rfl dd_K_writeAnswer_83 ?_
      obtain ⟨q14, gq14, h⟩ := xs_ob h
      refine xq_i hK hw (va_runS (As := [.int (xs_gI q13 k 12)]) (rest := [.ref (ad a1)]) ⟨hx, hb, hml, hown, hts⟩ (xc_N_bitCount l D ad ca ks (xs_gI q13 k 12) q13 q14 gq14 _) ⟨callB_of 1 hts (xs_good hw_498) rfl rfl rfl (hts _ hw_14) (hts _ hw_496) yd_N_bitCount ⟨Nat.le_trans (by decide) hRf, Nat.le_trans (by decide) hRl⟩, (hts _ hw_497)⟩ ⟨xs_blind, fun U h1 h2 => ⟨rfl, xs_pre hK hw h1 h2⟩⟩ rfl rfl hl.1 rfl (lv_room (Nat.le_of_ble_eq_true rfl)) dd_K_writeAnswer_86 ⟨Nat.zero_le _, Nat.zero_le _⟩) (fun H locs hw => ?_)
      refine lv_iconst (v := 1) hx hb dd_K_writeAnswer_89 rfl ?_
      obtain ⟨q15, gq15, h⟩ := xs_ob h
      refine xq_v hK hw (va_runV (As := [.int q14, .int 1]) (rest := []) ⟨hx, hb, hml, hown, hts⟩ (xc_F_append l D ad ca ks a1 q14 1 q13 q15 ha1 gq15 _) ⟨callB_of 2 hts (xs_good hw_379) rfl rfl rfl (hts _ hw_3) (hts _ hw_479) yd_F_append ⟨Nat.le_trans (by decide) hRf, Nat.le_trans (by decide) hRl⟩, (hts _ hw_377), (hts _ hw_378)⟩ ⟨xs_blind, xs_recv_F hK hw ha1, fun U h1 h2 => ⟨rfl, xs_pre hK hw h1 h2⟩⟩ rfl rfl hl.1 rfl (lv_room (Nat.le_of_ble_eq_true rfl)) dd_K_writeAnswer_90 ⟨Nat.zero_le _, Nat.zero_le _⟩) (fun H locs hw => ?_)
      exact w_93 q15 _ _ _ hw (lv_sub hl [1, 2] rfl) h
  have w_27 : ∀ (t0 : Int32) (t1 : Int32) (S : xs_T) (H : Heap) (locs : List Loc) (ls : Array Slot), xs_I D ad ca ks A s S H locs → lv_has ls 3 [(0, .ref (ad k)), (1, .ref (ad a1))] → xf_K_writeAnswer_27 k a1 t0 t1 S = some T → W p l e R s m args below meth c H locs 0 0 Q (F0 m 27 ls [.int t1, .int t0]) := by
    intro t0 t1 S H locs ls hw hl h
    unfold xf_K_writeAnswer_27 at h
    refine lv_iadd hx hb dd_K_writeAnswer_27 ?_
    refine lv_aload_n hx hb dd_K_writeAnswer_28 rfl (lv_at hl 0 rfl) ?_
    refine xr_get_K (v := .int (xs_gI S k 15)) hx hb hts hown hK hw hk 15 (by decide) (hts _ hw_302) rfl dd_K_writeAnswer_29 ?_
    refine lv_if_eq hx hb dd_K_writeAnswer_32 rfl (fun b3 => ?_) (fun b3 => ?_)
    · replace h := xs_p b3 h
      refine lv_iconst (v := 0) hx hb dd_K_writeAnswer_39 rfl ?_
      exact w_40 (t0 + t1) 0 S _ _ _ hw (lv_sub hl [0, 1] rfl) h
    · replace h := xs_n b3 h
      refine lv_iconst (v := 3) hx hb dd_K_writeAnswer_35 rfl ?_
      refine lv_goto hx hb dd_K_writeAnswer_36 rfl ?_
      exact w_40 (t0 + t1) 3 S _ _ _ hw (lv_sub hl [0, 1] rfl) h
  have w_13 : ∀ (t0 : Int32) (S : xs_T) (H : Heap) (locs : List Loc) (ls : Array Slot), xs_I D ad ca ks A s S H locs → lv_has ls 3 [(0, .ref (ad k)), (1, .ref (ad a1))] → xf_K_writeAnswer_13 k a1 t0 S = some T → W p l e R s m args below meth c H locs 0 0 Q (F0 m 13 ls [.int t0]) := by
    intro t0 S H locs ls hw hl h
    unfold xf_K_writeAnswer_13 at h
    refine lv_aload_n hx hb dd_K_writeAnswer_13 rfl (lv_at hl 0 rfl) ?_
    refine xr_get_K (v := .int (xs_gI S k 6)) hx hb hts hown hK hw hk 6 (by decide) (hts _ hw_289) rfl dd_K_writeAnswer_14 ?_
    refine lv_iconst (v := 1) hx hb dd_K_writeAnswer_17 rfl ?_
    refine lv_icmp_le hx hb dd_K_writeAnswer_18 rfl (fun b2 => ?_) (fun b2 => ?_)
    · replace h := xs_p b2 h
      refine lv_iconst (v := 0) hx hb dd_K_writeAnswer_26 rfl ?_
      exact w_27 t0 0 S _ _ _ hw (lv_sub hl [0, 1] rfl) h
    · replace h := xs_n b2 h
      refine lv_bipush (v := 16) hx hb dd_K_writeAnswer_21 rfl ?_
      refine lv_goto hx hb dd_K_writeAnswer_23 rfl ?_
      exact w_27 t0 16 S _ _ _ hw (lv_sub hl [0, 1] rfl) h
  unfold xf_K_writeAnswer at h
  refine lv_aload_n hx hb dd_K_writeAnswer_0 rfl (lv_at hl 0 rfl) ?_
  refine xr_get_K (v := .int (xs_gI S k 14)) hx hb hts hown hK hw hk 14 (by decide) (hts _ hw_301) rfl dd_K_writeAnswer_1 ?_
  refine lv_if_eq hx hb dd_K_writeAnswer_4 rfl (fun b1 => ?_) (fun b1 => ?_)
  · replace h := xs_p b1 h
    refine lv_iconst (v := 0) hx hb dd_K_writeAnswer_12 rfl ?_
    exact w_13 0 S _ _ _ hw (lv_sub hl [0, 1] rfl) h
  · replace h := xs_n b1 h
    refine lv_bipush (v := 32) hx hb dd_K_writeAnswer_7 rfl ?_
    refine lv_goto hx hb dd_K_writeAnswer_9 rfl ?_
    exact w_13 32 S _ _ _ hw (lv_sub hl [0, 1] rfl) h
set_option maxHeartbeats 4000000 in
set_option maxRecDepth 100000 in
theorem xc_K_setDue (l : Launch) (D : va_G) (ad : Nat → Nat) (ca : Nat → ClassId) (ks : List Nat) (k : Nat) (n1 : Int32) (n2 : Int32) (n3 : Int32) (S : xs_T) (T : xs_T) (hk : xs_is ks k xs_cK) (h : xf_K_setDue k n1 n2 n3 S = some T) (sz : Nat) : Met l yy_K_setDue ws_K_setDue { frames := 0, cells := 0, slots := 0, locals := 0 } (va_Pc [.ref (ad k), .int n1, .int n2, .int n3] (xs_Pre D ad ca ks S sz)) (va_Qv (fun _ : Unit => True) (fun _ t => va_P D xs_cl (xs_w ad ca ks T) t.heap) (xs_A ad ks sz)) 0 0 (xs_A ad ks sz) := by
  refine xm_v (by decide) (Nat.le_of_ble_eq_true rfl) ?_
  intro p e s m args below meth c R A Q ls hx hb hml hown hts hRf hRl hK hw hl hret
  have hl : lv_has ls 4 [(0, .ref (ad k)), (1, .int n1), (2, .int n2), (3, .int n3)] := hl
  unfold xf_K_setDue at h
  refine lv_aload_n hx hb dd_K_setDue_0 rfl (lv_at hl 0 rfl) ?_
  refine lv_iload_n hx hb dd_K_setDue_1 rfl (lv_at hl 1 rfl) ?_
  obtain ⟨S1, gS1, h⟩ := xs_ob h
  refine xr_putI_K hx hb hts hown hK hw hk 13 (by decide) (hts _ hw_299) rfl rfl (fun _ _ => rfl) gS1 dd_K_setDue_2 (fun H locs hw => ?_)
  refine lv_aload_n hx hb dd_K_setDue_5 rfl (lv_at hl 0 rfl) ?_
  refine lv_iload_n hx hb dd_K_setDue_6 rfl (lv_at hl 2 rfl) ?_
  obtain ⟨S2, gS2, h⟩ := xs_ob h
  refine xr_putZ_K hx hb hts hown hK hw hk 14 (by decide) (hts _ hw_301) rfl rfl (fun _ _ => rfl) gS2 dd_K_setDue_7 (fun H locs hw => ?_)
  refine lv_aload_n hx hb dd_K_setDue_10 rfl (lv_at hl 0 rfl) ?_
  refine lv_iload_n hx hb dd_K_setDue_11 rfl (lv_at hl 3 rfl) ?_
  obtain ⟨S3, gS3, h⟩ := xs_ob h
  refine xr_putZ_K hx hb hts hown hK hw hk 15 (by decide) (hts _ hw_302) rfl rfl (fun _ _ => rfl) gS3 dd_K_setDue_12 (fun H locs hw => ?_)
  exact hret h hw dd_K_setDue_15
set_option maxHeartbeats 4000000 in
set_option maxRecDepth 100000 in
theorem xc_V_sendWhatIsDue (l : Launch) (D : va_G) (ad : Nat → Nat) (ca : Nat → ClassId) (ks : List Nat) (hf : ks = xs_all) (k : Nat) (a1 : Nat) (S : xs_T) (T : xs_T) (hk : xs_is ks k xs_cV) (ha1 : xs_is ks a1 xs_cA) (h : xf_V_sendWhatIsDue k a1 S = some T) (sz : Nat) : Met l yy_V_sendWhatIsDue ws_V_sendWhatIsDue { frames := 5, cells := 0, slots := 0, locals := 142 } (va_Pc [.ref (ad k), .ref (ad a1)] (xs_Pre D ad ca ks S sz)) (va_Qv (fun _ : Unit => True) (fun _ t => va_P D xs_cl (xs_w ad ca ks T) t.heap) (xs_A ad ks sz)) 0 0 (xs_A ad ks sz) := by
  refine xm_v (by decide) (Nat.le_of_ble_eq_true rfl) ?_
  intro p e s m args below meth c R A Q ls hx hb hml hown hts hRf hRl hK hw hl hret
  have hl : lv_has ls 4 [(0, .ref (ad k)), (1, .ref (ad a1))] := hl
  have w_65 : ∀ (c2 : Int32 → xs_T → Option (xs_T)) (y2 : ∀ (i2 : Int32) (S : xs_T) (H : Heap) (locs : List Loc) (ls : Array Slot), xs_I D ad ca ks A s S H locs → lv_has ls 4 [(0, .ref (ad k)), (1, .ref (ad a1)), (2, .int i2)] → c2 i2 S = some T → W p l e R s m args below meth c H locs 0 0 Q (F0 m 2 ls [])), ∀ (i2 : Int32) (i3 : Nat) (S : xs_T) (hk3 : xs_is ks i3 xs_cK) (H : Heap) (locs : List Loc) (ls : Array Slot), xs_I D ad ca ks A s S H locs → lv_has ls 4 [(0, .ref (ad k)), (1, .ref (ad a1)), (2, .int i2), (3, .ref (ad i3))] → xf_V_sendWhatIsDue_65 k a1 c2 i2 i3 S = some T → W p l e R s m args below meth c H locs 0 0 Q (F0 m 65 ls []) := by
    intro c2 y2 i2 i3 S hk3 H locs ls hw hl h
    unfold xf_V_sendWhatIsDue_65 at h
    refine lv_aload_n hx hb dd_V_sendWhatIsDue_65 rfl (lv_at hl 3 rfl) ?_
    refine lv_iconst (v := 0) hx hb dd_V_sendWhatIsDue_66 rfl ?_
    refine lv_iconst (v := 0) hx hb dd_V_sendWhatIsDue_67 rfl ?_
    refine lv_iconst (v := 0) hx hb dd_V_sendWhatIsDue_68 rfl ?_
    obtain ⟨q5, gq5, h⟩ := xs_ob h
    refine xq_v hK hw (va_runV (As := [.int 0, .int 0, .int 0]) (rest := []) ⟨hx, hb, hml, hown, hts⟩ (xc_K_setDue l D ad ca ks i3 0 0 0 S q5 hk3 gq5 _) ⟨callB_of 3 hts (xs_good hw_510) rfl rfl rfl (hts _ hw_12) (hts _ hw_507) yd_K_setDue ⟨Nat.le_trans (by decide) hRf, Nat.le_trans (by decide) hRl⟩, (hts _ hw_508), (hts _ hw_509)⟩ ⟨xs_blind, xs_recv_K hK hw hk3, fun U h1 h2 => ⟨rfl, xs_pre hK hw h1 h2⟩⟩ rfl rfl hl.1 rfl (lv_room (Nat.le_of_ble_eq_true rfl)) dd_V_sendWhatIsDue_69 ⟨Nat.zero_le _, Nat.zero_le _⟩) (fun H locs hw => ?_)
    refine lv_iinc (k := 2) (v := i2 + 1) hx hb dd_V_sendWhatIsDue_72 hl rfl rfl (by decide) rfl (fun ls hl => ?_)
    have hl : lv_has ls 4 [(2, .int (i2 + 1)), (0, .ref (ad k)), (1, .ref (ad a1)), (3, .ref (ad i3))] := hl
    refine lv_goto hx hb dd_V_sendWhatIsDue_75 rfl ?_
    exact y2 (i2 + 1) q5 _ _ _ hw (lv_sub hl [1, 2, 0] rfl) h
  have w_2 : ∀ (f : Nat), ∀ (i2 : Int32) (S : xs_T) (H : Heap) (locs : List Loc) (ls : Array Slot), xs_I D ad ca ks A s S H locs → lv_has ls 4 [(0, .ref (ad k)), (1, .ref (ad a1)), (2, .int i2)] → xf_V_sendWhatIsDue_2 k a1 f i2 S = some T → W p l e R s m args below meth c H locs 0 0 Q (F0 m 2 ls []) := by
    intro f
    induction f with
    | zero => intro i2 S H locs ls hw hl h; exact absurd h (by simp [xf_V_sendWhatIsDue_2])
    | succ f ih =>
      intro i2 S H locs ls hw hl h
      rw [xf_V_sendWhatIsDue_2] at h
      refine lv_iload_n hx hb dd_V_sendWhatIsDue_2 rfl (lv_at hl 2 rfl) ?_
      refine lv_iconst (v := 3) hx hb dd_V_sendWhatIsDue_3 rfl ?_
      refine lv_icmp_ge hx hb dd_V_sendWhatIsDue_4 rfl (fun b1 => ?_) (fun b1 => ?_)
      · replace h := xs_p b1 h
        exact hret h hw dd_V_sendWhatIsDue_78
      · replace h := xs_n b1 h
        refine lv_aload_n hx hb dd_V_sendWhatIsDue_7 rfl (lv_at hl 0 rfl) ?_
        refine xr_get_V (v := .ref (ad (k + 1))) hx hb hts hown hK hw hk 0 (by decide) (hts _ hw_336) rfl dd_V_sendWhatIsDue_8 ?_
        refine lv_iload_n hx hb dd_V_sendWhatIsDue_11 rfl (lv_at hl 2 rfl) ?_
        obtain ⟨u2, gu2, h⟩ := xs_ob h
        have ku2 := xs_okU hf (by decide) gu2
        refine xr_aald_K hx hb hK hw (xs_ok_V_accounts hK.1 hk) gu2 dd_V_sendWhatIsDue_12 ?_
        refine lv_astore_n hx hb dd_V_sendWhatIsDue_13 rfl hl (by decide) rfl (fun ls hl => ?_)
        have hl : lv_has ls 4 [(3, .ref (ad u2)), (0, .ref (ad k)), (1, .ref (ad a1)), (2, .int i2)] := hl
        refine lv_aload_n hx hb dd_V_sendWhatIsDue_14 rfl (lv_at hl 0 rfl) ?_
        refine xr_getN_K (v := .int (xs_gI S u2 13)) hx hb hts hown hK hw ku2 13 (by decide) (va_Nw.use rfl (hK.2.2.2.1 _ hn_300 rfl)) rfl dd_V_sendWhatIsDue_15 ?_
        refine lv_iconst (v := 1) hx hb dd_V_sendWhatIsDue_18 rfl ?_
        refine lv_icmp_ne hx hb dd_V_sendWhatIsDue_19 rfl (fun b3 => ?_) (fun b3 => ?_)
        · replace h := xs_n b3 h
          refine lv_aload_n hx hb dd_V_sendWhatIsDue_41 rfl (lv_at hl 0 rfl) ?_
          refine xr_getN_K (v := .int (xs_gI S u2 13)) hx hb hts hown hK hw ku2 13 (by decide) (va_Nw.use rfl (hK.2.2.2.1 _ hn_300 rfl)) rfl dd_V_sendWhatIsDue_42 ?_
          refine lv_iconst (v := 2) hx hb dd_V_sendWhatIsDue_45 rfl ?_
          refine lv_icmp_ne hx hb dd_V_sendWhatIsDue_46 rfl (fun b4 => ?_) (fun b4 => ?_)
          · replace h := xs_n b4 h
            exact w_65 (xf_V_sendWhatIsDue_2 k a1 f) ih i2 u2 S (ku2) _ _ _ hw (lv_sub hl [1, 2, 3, 0] rfl) h
          · replace h := xs_p b4 h
            refine lv_aload_n hx hb dd_V_sendWhatIsDue_49 rfl (lv_at hl 0 rfl) ?_
            refine lv_aload_n hx hb dd_V_sendWhatIsDue_50 rfl (lv_at hl 1 rfl) ?_
            refine xr_get_V (v := .ref (ad (k + 2))) hx hb hts hown hK hw hk 1 (by decide) (hts _ hw_338) rfl dd_V_sendWhatIsDue_51 ?_
            obtain ⟨q6, gq6, h⟩ := xs_ob h
            refine xq_v hK hw (va_runV (As := [.ref (ad (k + 2))]) (rest := []) ⟨hx, hb, hml, hown, hts⟩ (xc_K_writeAnswer l D ad ca ks u2 (k + 2) S q6 ku2 (xs_ok_V_outgoing hK.1 hk) gq6 _) ⟨callB_of 1 hts (xs_good hw_494) rfl rfl rfl (hts _ hw_12) (hts _ hw_491) yd_K_writeAnswer ⟨Nat.le_trans (by decide) hRf, Nat.le_trans (by decide) hRl⟩, (hts _ hw_492), (hts _ hw_493)⟩ ⟨xs_blind, xs_recv_K hK hw ku2, fun U h1 h2 => ⟨rfl, xs_pre hK hw h1 h2⟩⟩ rfl rfl hl.1 rfl (lv_room (Nat.le_of_ble_eq_true rfl)) dd_V_sendWhatIsDue_54 ⟨Nat.zero_le _, Nat.zero_le _⟩) (fun H locs hw => ?_)
            refine lv_aload_n hx hb dd_V_sendWhatIsDue_57 rfl (lv_at hl 2 rfl) ?_
            refine lv_aload_n hx hb dd_V_sendWhatIsDue_58 rfl (lv_at hl 1 rfl) ?_
            refine xr_get_V (v := .ref (ad (k + 2))) hx hb hts hown hK hw hk 1 (by decide) (hts _ hw_338) rfl dd_V_sendWhatIsDue_59 ?_
            obtain ⟨q7, gq7, h⟩ := xs_ob h
            refine xq_v hK hw (va_runV (As := [.ref (ad (k + 2))]) (rest := []) ⟨hx, hb, hml, hown, hts⟩ (xc_A_transmit l D ad ca ks hf a1 (k + 2) q6 q7 ha1 (xs_ok_V_outgoing hK.1 hk) gq7 _) ⟨callB_of 1 hts (xs_good hw_402) rfl rfl rfl (hts _ hw_2) (hts _ hw_490) yd_A_transmit ⟨Nat.le_trans (by decide) hRf, Nat.le_trans (by decide) hRl⟩, (hts _ hw_400), (hts _ hw_401)⟩ ⟨xs_blind, xs_recv_A hK hw ha1, fun U h1 h2 => ⟨rfl, xs_pre hK hw h1 h2⟩⟩ rfl rfl hl.1 rfl (lv_room (Nat.le_of_ble_eq_true rfl)) dd_V_sendWhatIsDue_62 ⟨Nat.zero_le _, Nat.zero_le _⟩) (fun H locs hw => ?_)
            exact w_65 (xf_V_sendWhatIsDue_2 k a1 f) ih i2 u2 q7 (ku2) _ _ _ hw (lv_sub hl [1, 2, 3, 0] rfl) h
        · replace h := xs_p b3 h
          refine lv_aload_n hx hb dd_V_sendWhatIsDue_22 rfl (lv_at hl 0 rfl) ?_
          refine lv_aload_n hx hb dd_V_sendWhatIsDue_23 rfl (lv_at hl 1 rfl) ?_
          refine xr_get_V (v := .ref (ad (k + 2))) hx hb hts hown hK hw hk 1 (by decide) (hts _ hw_338) rfl dd_V_sendWhatIsDue_24 ?_
          obtain ⟨q8, gq8, h⟩ := xs_ob h
          refine xq_v hK hw (va_runV (As := [.ref (ad (k + 2))]) (rest := []) ⟨hx, hb, hml, hown, hts⟩ (xc_K_writeAccept l D ad ca ks u2 (k + 2) S q8 ku2 (xs_ok_V_outgoing hK.1 hk) gq8 _) ⟨callB_of 1 hts (xs_good hw_477) rfl rfl rfl (hts _ hw_12) (hts _ hw_474) yd_K_writeAccept ⟨Nat.le_trans (by decide) hRf, Nat.le_trans (by decide) hRl⟩, (hts _ hw_475), (hts _ hw_476)⟩ ⟨xs_blind, xs_recv_K hK hw ku2, fun U h1 h2 => ⟨rfl, xs_pre hK hw h1 h2⟩⟩ rfl rfl hl.1 rfl (lv_room (Nat.le_of_ble_eq_true rfl)) dd_V_sendWhatIsDue_27 ⟨Nat.zero_le _, Nat.zero_le _⟩) (fun H locs hw => ?_)
          refine lv_aload_n hx hb dd_V_sendWhatIsDue_30 rfl (lv_at hl 2 rfl) ?_
          refine lv_aload_n hx hb dd_V_sendWhatIsDue_31 rfl (lv_at hl 1 rfl) ?_
          refine xr_get_V (v := .ref (ad (k + 2))) hx hb hts hown hK hw hk 1 (by decide) (hts _ hw_338) rfl dd_V_sendWhatIsDue_32 ?_
          obtain ⟨q9, gq9, h⟩ := xs_ob h
          refine xq_v hK hw (va_runV (As := [.ref (ad (k + 2))]) (rest := []) ⟨hx, hb, hml, hown, hts⟩ (xc_A_transmit l D ad ca ks hf a1 (k + 2) q8 q9 ha1 (xs_ok_V_outgoing hK.1 hk) gq9 _) ⟨callB_of 1 hts (xs_good hw_402) rfl rfl rfl (hts _ hw_2) (hts _ hw_490) yd_A_transmit ⟨Nat.le_trans (by decide) hRf, Nat.le_trans (by decide) hRl⟩, (hts _ hw_400), (hts _ hw_401)⟩ ⟨xs_blind, xs_recv_A hK hw ha1, fun U h1 h2 => ⟨rfl, xs_pre hK hw h1 h2⟩⟩ rfl rfl hl.1 rfl (lv_room (Nat.le_of_ble_eq_true rfl)) dd_V_sendWhatIsDue_35 ⟨Nat.zero_le _, Nat.zero_le _⟩) (fun H locs hw => ?_)
          refine lv_goto hx hb dd_V_sendWhatIsDue_38 rfl ?_
          exact w_65 (xf_V_sendWhatIsDue_2 k a1 f) ih i2 u2 q9 (ku2) _ _ _ hw (lv_sub hl [1, 2, 3, 0] rfl) h
  unfold xf_V_sendWhatIsDue at h
  refine lv_iconst (v := 0) hx hb dd_V_sendWhatIsDue_0 rfl ?_
  refine lv_istore_n hx hb dd_V_sendWhatIsDue_1 rfl hl (by decide) rfl (fun ls hl => ?_)
  have hl : lv_has ls 4 [(2, .int 0), (0, .ref (ad k)), (1, .ref (ad a1))] := hl
  exact w_2 xs_fuel 0 S _ _ _ hw (lv_sub hl [1, 2, 0] rfl) h
set_option maxHeartbeats 4000000 in
set_option maxRecDepth 100000 in
theorem xc_D_endWaiting (l : Launch) (D : va_G) (ad : Nat → Nat) (ca : Nat → ClassId) (ks : List Nat) (hf : ks = xs_all) (k : Nat) (a1 : Nat) (n2 : Int32) (S : xs_T) (T : xs_T) (hk : xs_is ks k xs_cD) (ha1 : xs_is ks a1 xs_cA) (h : xf_D_endWaiting k a1 n2 S = some T) (sz : Nat) : Met l yy_D_endWaiting ws_D_endWaiting { frames := 5, cells := 0, slots := 0, locals := 152 } (va_Pc [.ref (ad k), .ref (ad a1), .int n2] (xs_Pre D ad ca ks S sz)) (va_Qv (fun _ : Unit => True) (fun _ t => va_P D xs_cl (xs_w ad ca ks T) t.heap) (xs_A ad ks sz)) 0 0 (xs_A ad ks sz) := by
  refine xm_v (by decide) (Nat.le_of_ble_eq_true rfl) ?_
  intro p e s m args below meth c R A Q ls hx hb hml hown hts hRf hRl hK hw hl hret
  have hl : lv_has ls 3 [(0, .ref (ad k)), (1, .ref (ad a1)), (2, .int n2)] := hl
  have w_72 : ∀ (S : xs_T) (H : Heap) (locs : List Loc) (ls : Array Slot), xs_I D ad ca ks A s S H locs → lv_has ls 3 [(0, .ref (ad k)), (1, .ref (ad a1)), (2, .int n2)] → xf_D_endWaiting_72 k a1 n2 S = some T → W p l e R s m args below meth c H locs 0 0 Q (F0 m 72 ls []) := by
    intro S H locs ls hw hl h
    unfold xf_D_endWaiting_72 at h
    refine lv_aload_n hx hb dd_D_endWaiting_72 rfl (lv_at hl 0 rfl) ?_
    refine xr_get_D (v := .int (xs_gI S k 14)) hx hb hts hown hK hw hk 14 (by decide) (hts _ hw_217) rfl dd_D_endWaiting_73 ?_
    refine lv_if_eq hx hb dd_D_endWaiting_76 rfl (fun b6 => ?_) (fun b6 => ?_)
    · replace h := xs_p b6 h
      exact hret h hw dd_D_endWaiting_85
    · replace h := xs_n b6 h
      refine lv_aload_n hx hb dd_D_endWaiting_79 rfl (lv_at hl 0 rfl) ?_
      refine lv_aload_n hx hb dd_D_endWaiting_80 rfl (lv_at hl 1 rfl) ?_
      refine lv_iload_n hx hb dd_D_endWaiting_81 rfl (lv_at hl 2 rfl) ?_
      obtain ⟨q7, gq7, h⟩ := xs_ob h
      refine xq_v hK hw (va_runV (As := [.ref (ad a1), .int n2]) (rest := []) ⟨hx, hb, hml, hown, hts⟩ (xc_D_transmit l D ad ca ks hf k a1 n2 S q7 hk ha1 gq7 _) ⟨callB_of 2 hts (xs_good hw_398) rfl rfl rfl (hts _ hw_8) (hts _ hw_515) yd_D_transmit ⟨Nat.le_trans (by decide) hRf, Nat.le_trans (by decide) hRl⟩, (hts _ hw_396), (hts _ hw_397)⟩ ⟨xs_blind, xs_recv_D hK hw hk, fun U h1 h2 => ⟨rfl, xs_pre hK hw h1 h2⟩⟩ rfl rfl hl.1 rfl (lv_room (Nat.le_of_ble_eq_true rfl)) dd_D_endWaiting_82 ⟨Nat.zero_le _, Nat.zero_le _⟩) (fun H locs hw => ?_)
      exact hret h hw dd_D_endWaiting_85
  unfold xf_D_endWaiting at h
  refine lv_aload_n hx hb dd_D_endWaiting_0 rfl (lv_at hl 0 rfl) ?_
  refine xr_get_D (v := .int (xs_gI S k 11)) hx hb hts hown hK hw hk 11 (by decide) (hts _ hw_213) rfl dd_D_endWaiting_1 ?_
  refine lv_if_eq hx hb dd_D_endWaiting_4 rfl (fun b1 => ?_) (fun b1 => ?_)
  · replace h := xs_p b1 h
    exact hret h hw dd_D_endWaiting_17
  · replace h := xs_n b1 h
    refine lv_iload_n hx hb dd_D_endWaiting_7 rfl (lv_at hl 2 rfl) ?_
    refine lv_aload_n hx hb dd_D_endWaiting_8 rfl (lv_at hl 0 rfl) ?_
    refine xr_get_D (v := .int (xs_gI S k 12)) hx hb hts hown hK hw hk 12 (by decide) (hts _ hw_215) rfl dd_D_endWaiting_9 ?_
    refine lv_iconst (v := 3) hx hb dd_D_endWaiting_12 rfl ?_
    refine lv_iadd hx hb dd_D_endWaiting_13 ?_
    refine lv_icmp_ge hx hb dd_D_endWaiting_14 rfl (fun b2 => ?_) (fun b2 => ?_)
    · replace h := xs_p b2 h
      refine lv_aload_n hx hb dd_D_endWaiting_18 rfl (lv_at hl 0 rfl) ?_
      refine lv_iconst (v := 0) hx hb dd_D_endWaiting_19 rfl ?_
      obtain ⟨S3, gS3, h⟩ := xs_ob h
      refine xr_putZ_D hx hb hts hown hK hw hk 11 (by decide) (hts _ hw_213) rfl rfl (fun _ _ => rfl) gS3 dd_D_endWaiting_20 (fun H locs hw => ?_)
      refine lv_aload_n hx hb dd_D_endWaiting_23 rfl (lv_at hl 0 rfl) ?_
      refine xr_get_D (v := .int (xs_gI S3 k 6)) hx hb hts hown hK hw hk 6 (by decide) (hts _ hw_205) rfl dd_D_endWaiting_24 ?_
      refine lv_iconst (v := 1) hx hb dd_D_endWaiting_27 rfl ?_
      refine lv_icmp_ne hx hb dd_D_endWaiting_28 rfl (fun b4 => ?_) (fun b4 => ?_)
      · replace h := xs_n b4 h
        refine lv_aload_n hx hb dd_D_endWaiting_39 rfl (lv_at hl 0 rfl) ?_
        refine xr_get_D (v := .int (xs_gI S3 k 14)) hx hb hts hown hK hw hk 14 (by decide) (hts _ hw_217) rfl dd_D_endWaiting_40 ?_
        refine lv_if_eq hx hb dd_D_endWaiting_43 rfl (fun b5 => ?_) (fun b5 => ?_)
        · replace h := xs_p b5 h
          exact w_72 S3 _ _ _ hw (lv_sub hl [0, 1, 2] rfl) h
        · replace h := xs_n b5 h
          refine lv_aload_n hx hb dd_D_endWaiting_46 rfl (lv_at hl 0 rfl) ?_
          refine xr_get_D (v := .int (xs_gI S3 k 13)) hx hb hts hown hK hw hk 13 (by decide) (hts _ hw_216) rfl dd_D_endWaiting_47 ?_
          refine lv_iconst (v := 4) hx hb dd_D_endWaiting_50 rfl ?_
          refine lv_icmp_lt hx hb dd_D_endWaiting_51 rfl (fun b8 => ?_) (fun b8 => ?_)
          · replace h := xs_p b8 h
            exact w_72 S3 _ _ _ hw (lv_sub hl [0, 1, 2] rfl) h
          · replace h := xs_n b8 h
            refine lv_aload_n hx hb dd_D_endWaiting_54 rfl (lv_at hl 0 rfl) ?_
            refine lv_iconst (v := 0) hx hb dd_D_endWaiting_55 rfl ?_
            obtain ⟨S9, gS9, h⟩ := xs_ob h
            refine xr_putI_D hx hb hts hown hK hw hk 6 (by decide) (hts _ hw_205) rfl rfl (fun _ _ => rfl) gS9 dd_D_endWaiting_56 (fun H locs hw => ?_)
            refine lv_aload_n hx hb dd_D_endWaiting_59 rfl (lv_at hl 0 rfl) ?_
            refine lv_dup hx hb dd_D_endWaiting_60 rfl ?_
            refine xr_get_D (v := .int (xs_gI S9 k 16)) hx hb hts hown hK hw hk 16 (by decide) (hts _ hw_220) rfl dd_D_endWaiting_61 ?_
            refine lv_iconst (v := 1) hx hb dd_D_endWaiting_64 rfl ?_
            refine lv_iadd hx hb dd_D_endWaiting_65 ?_
            obtain ⟨S10, gS10, h⟩ := xs_ob h
            refine xr_putI_D hx hb hts hown hK hw hk 16 (by decide) (hts _ hw_220) rfl rfl (fun _ _ => rfl) gS10 dd_D_endWaiting_66 (fun H locs hw => ?_)
            refine lv_goto hx hb dd_D_endWaiting_69 rfl ?_
            exact hret h hw dd_D_endWaiting_85
      · replace h := xs_p b4 h
        refine lv_aload_n hx hb dd_D_endWaiting_31 rfl (lv_at hl 0 rfl) ?_
        refine lv_iconst (v := 0) hx hb dd_D_endWaiting_32 rfl ?_
        obtain ⟨S11, gS11, h⟩ := xs_ob h
        refine xr_putI_D hx hb hts hown hK hw hk 6 (by decide) (hts _ hw_205) rfl rfl (fun _ _ => rfl) gS11 dd_D_endWaiting_33 (fun H locs hw => ?_)
        refine lv_goto hx hb dd_D_endWaiting_36 rfl ?_
        exact hret h hw dd_D_endWaiting_85
    · replace h := xs_n b2 h
      exact hret h hw dd_D_endWaiting_17
set_option maxHeartbeats 4000000 in
set_option maxRecDepth 100000 in
theorem xc_W_tick (l : Launch) (D : va_G) (ad : Nat → Nat) (ca : Nat → ClassId) (ks : List Nat) (hf : ks = xs_all) (k : Nat) (n1 : Int32) (S : xs_T) (r : Int32) (T : xs_T) (hk : xs_is ks k xs_cW) (h : xf_W_tick k n1 S = some (r, T)) (sz : Nat) : Met l yy_W_tick ws_W_tick { frames := 6, cells := 0, slots := 0, locals := 174 } (va_Pc [.ref (ad k), .int n1] (xs_Pre D ad ca ks S sz)) (va_Qi (fun r1 (_ : Unit) => r1 = r) (fun _ t => va_P D xs_cl (xs_w ad ca ks T) t.heap) (xs_A ad ks sz)) 0 0 (xs_A ad ks sz) := by
  refine xm_i (by decide) (Nat.le_of_ble_eq_true rfl) ?_
  intro p e s m args below meth c R A Q ls hx hb hml hown hts hRf hRl hK hw hl hret
  have hl : lv_has ls 4 [(0, .ref (ad k)), (1, .int n1)] := hl
  have w_43 : ∀ (c15 : Int32 → xs_T → Option (Int32 × xs_T)) (y15 : ∀ (i2 : Int32) (S : xs_T) (H : Heap) (locs : List Loc) (ls : Array Slot), xs_I D ad ca ks A s S H locs → lv_has ls 4 [(0, .ref (ad k)), (1, .int n1), (2, .int i2)] → c15 i2 S = some (r, T) → W p l e R s m args below meth c H locs 0 0 Q (F0 m 15 ls [])), ∀ (f : Nat), ∀ (i2 : Int32) (i3 : Int32) (S : xs_T) (H : Heap) (locs : List Loc) (ls : Array Slot), xs_I D ad ca ks A s S H locs → lv_has ls 4 [(0, .ref (ad k)), (1, .int n1), (2, .int i2), (3, .int i3)] → xf_W_tick_43 k n1 c15 f i2 i3 S = some (r, T) → W p l e R s m args below meth c H locs 0 0 Q (F0 m 43 ls []) := by
    intro c15 y15 f
    induction f with
    | zero => intro i2 i3 S H locs ls hw hl h; exact absurd h (by simp [xf_W_tick_43])
    | succ f ih =>
      intro i2 i3 S H locs ls hw hl h
      rw [xf_W_tick_43] at h
      refine lv_iload_n hx hb dd_W_tick_43 rfl (lv_at hl 3 rfl) ?_
      refine lv_iconst (v := 3) hx hb dd_W_tick_44 rfl ?_
      refine lv_icmp_ge hx hb dd_W_tick_45 rfl (fun b6 => ?_) (fun b6 => ?_)
      · replace h := xs_p b6 h
        refine lv_iinc (k := 2) (v := i2 + 1) hx hb dd_W_tick_71 hl rfl rfl (by decide) rfl (fun ls hl => ?_)
        have hl : lv_has ls 4 [(2, .int (i2 + 1)), (0, .ref (ad k)), (1, .int n1), (3, .int i3)] := hl
        refine lv_goto hx hb dd_W_tick_74 rfl ?_
        exact y15 (i2 + 1) S _ _ _ hw (lv_sub hl [1, 2, 0] rfl) h
      · replace h := xs_n b6 h
        refine lv_aload_n hx hb dd_W_tick_48 rfl (lv_at hl 0 rfl) ?_
        refine xr_get_W (v := .ref (ad (k + 44))) hx hb hts hown hK hw hk 1 (by decide) (hts _ hw_348) rfl dd_W_tick_49 ?_
        refine lv_iload_n hx hb dd_W_tick_52 rfl (lv_at hl 3 rfl) ?_
        obtain ⟨u7, gu7, h⟩ := xs_ob h
        have ku7 := xs_okU hf (by decide) gu7
        refine xr_aald_D hx hb hK hw (xs_ok_W_devices hK.1 hk) gu7 dd_W_tick_53 ?_
        refine lv_aload_n hx hb dd_W_tick_54 rfl (lv_at hl 0 rfl) ?_
        refine xr_get_W (v := .ref (ad (k + 1))) hx hb hts hown hK hw hk 0 (by decide) (hts _ hw_347) rfl dd_W_tick_55 ?_
        refine lv_aload_n hx hb dd_W_tick_58 rfl (lv_at hl 0 rfl) ?_
        refine xr_get_W (v := .int (xs_gI S k 3)) hx hb hts hown hK hw hk 3 (by decide) (hts _ hw_350) rfl dd_W_tick_59 ?_
        obtain ⟨q8, gq8, h⟩ := xs_ob h
        refine xq_v hK hw (va_runV (As := [.ref (ad (k + 1)), .int (xs_gI S k 3)]) (rest := []) ⟨hx, hb, hml, hown, hts⟩ (xc_D_endWaiting l D ad ca ks hf u7 (k + 1) (xs_gI S k 3) S q8 ku7 (xs_ok_W_air hK.1 hk) gq8 _) ⟨callB_of 2 hts (xs_good hw_514) rfl rfl rfl (hts _ hw_8) (hts _ hw_511) yd_D_endWaiting ⟨Nat.le_trans (by decide) hRf, Nat.le_trans (by decide) hRl⟩, (hts _ hw_512), (hts _ hw_513)⟩ ⟨xs_blind, xs_recv_D hK hw ku7, fun U h1 h2 => ⟨rfl, xs_pre hK hw h1 h2⟩⟩ rfl rfl hl.1 rfl (lv_room (Nat.le_of_ble_eq_true rfl)) dd_W_tick_62 ⟨Nat.zero_le _, Nat.zero_le _⟩) (fun H locs hw => ?_)
        refine lv_iinc (k := 3) (v := i3 + 1) hx hb dd_W_tick_65 hl rfl rfl (by decide) rfl (fun ls hl => ?_)
        have hl : lv_has ls 4 [(3, .int (i3 + 1)), (0, .ref (ad k)), (1, .int n1), (2, .int i2)] := hl
        refine lv_goto hx hb dd_W_tick_68 rfl ?_
        exact ih i2 (i3 + 1) q8 _ _ _ hw (lv_sub hl [1, 2, 3, 0] rfl) h
  have w_15 : ∀ (f : Nat), ∀ (i2 : Int32) (S : xs_T) (H : Heap) (locs : List Loc) (ls : Array Slot), xs_I D ad ca ks A s S H locs → lv_has ls 4 [(0, .ref (ad k)), (1, .int n1), (2, .int i2)] → xf_W_tick_15 k n1 f i2 S = some (r, T) → W p l e R s m args below meth c H locs 0 0 Q (F0 m 15 ls []) := by
    intro f
    induction f with
    | zero => intro i2 S H locs ls hw hl h; exact absurd h (by simp [xf_W_tick_15])
    | succ f ih =>
      intro i2 S H locs ls hw hl h
      rw [xf_W_tick_15] at h
      refine lv_iload_n hx hb dd_W_tick_15 rfl (lv_at hl 2 rfl) ?_
      refine lv_iload_n hx hb dd_W_tick_16 rfl (lv_at hl 1 rfl) ?_
      refine lv_icmp_ge hx hb dd_W_tick_17 rfl (fun b3 => ?_) (fun b3 => ?_)
      · replace h := xs_p b3 h
        refine lv_aload_n hx hb dd_W_tick_77 rfl (lv_at hl 0 rfl) ?_
        refine xr_get_W (v := .int (xs_gI S k 3)) hx hb hts hown hK hw hk 3 (by decide) (hts _ hw_350) rfl dd_W_tick_78 ?_
        exact hret h hw dd_W_tick_81
      · replace h := xs_n b3 h
        refine lv_aload_n hx hb dd_W_tick_20 rfl (lv_at hl 0 rfl) ?_
        refine lv_dup hx hb dd_W_tick_21 rfl ?_
        refine xr_get_W (v := .int (xs_gI S k 3)) hx hb hts hown hK hw hk 3 (by decide) (hts _ hw_350) rfl dd_W_tick_22 ?_
        refine lv_iconst (v := 1) hx hb dd_W_tick_25 rfl ?_
        refine lv_iadd hx hb dd_W_tick_26 ?_
        obtain ⟨S4, gS4, h⟩ := xs_ob h
        refine xr_putI_W hx hb hts hown hK hw hk 3 (by decide) (hts _ hw_350) rfl rfl (fun _ _ => rfl) gS4 dd_W_tick_27 (fun H locs hw => ?_)
        refine lv_aload_n hx hb dd_W_tick_30 rfl (lv_at hl 0 rfl) ?_
        refine xr_get_W (v := .ref (ad (k + 119))) hx hb hts hown hK hw hk 2 (by decide) (hts _ hw_349) rfl dd_W_tick_31 ?_
        refine lv_aload_n hx hb dd_W_tick_34 rfl (lv_at hl 0 rfl) ?_
        refine xr_get_W (v := .ref (ad (k + 1))) hx hb hts hown hK hw hk 0 (by decide) (hts _ hw_347) rfl dd_W_tick_35 ?_
        obtain ⟨q5, gq5, h⟩ := xs_ob h
        refine xq_v hK hw (va_runV (As := [.ref (ad (k + 1))]) (rest := []) ⟨hx, hb, hml, hown, hts⟩ (xc_V_sendWhatIsDue l D ad ca ks hf (k + 119) (k + 1) S4 q5 (xs_ok_W_server hK.1 hk) (xs_ok_W_air hK.1 hk) gq5 _) ⟨callB_of 1 hts (xs_good hw_473) rfl rfl rfl (hts _ hw_11) (hts _ hw_470) yd_V_sendWhatIsDue ⟨Nat.le_trans (by decide) hRf, Nat.le_trans (by decide) hRl⟩, (hts _ hw_471), (hts _ hw_472)⟩ ⟨xs_blind, xs_recv_V hK hw (xs_ok_W_server hK.1 hk), fun U h1 h2 => ⟨rfl, xs_pre hK hw h1 h2⟩⟩ rfl rfl hl.1 rfl (lv_room (Nat.le_of_ble_eq_true rfl)) dd_W_tick_38 ⟨Nat.zero_le _, Nat.zero_le _⟩) (fun H locs hw => ?_)
        refine lv_iconst (v := 0) hx hb dd_W_tick_41 rfl ?_
        refine lv_istore_n hx hb dd_W_tick_42 rfl hl (by decide) rfl (fun ls hl => ?_)
        have hl : lv_has ls 4 [(3, .int 0), (0, .ref (ad k)), (1, .int n1), (2, .int i2)] := hl
        exact w_43 (xf_W_tick_15 k n1 f) ih xs_fuel i2 0 q5 _ _ _ hw (lv_sub hl [1, 2, 3, 0] rfl) h
  unfold xf_W_tick at h
  refine lv_iload_n hx hb dd_W_tick_0 rfl (lv_at hl 1 rfl) ?_
  refine lv_iconst (v := 1) hx hb dd_W_tick_1 rfl ?_
  refine lv_icmp_lt hx hb dd_W_tick_2 rfl (fun b1 => ?_) (fun b1 => ?_)
  · replace h := xs_p b1 h
    refine lv_iconst (v := (-1)) hx hb dd_W_tick_11 rfl ?_
    exact hret h hw dd_W_tick_12
  · replace h := xs_n b1 h
    refine lv_iload_n hx hb dd_W_tick_5 rfl (lv_at hl 1 rfl) ?_
    refine lv_bipush (v := 50) hx hb dd_W_tick_6 rfl ?_
    refine lv_icmp_le hx hb dd_W_tick_8 rfl (fun b2 => ?_) (fun b2 => ?_)
    · replace h := xs_p b2 h
      refine lv_iconst (v := 0) hx hb dd_W_tick_13 rfl ?_
      refine lv_istore_n hx hb dd_W_tick_14 rfl hl (by decide) rfl (fun ls hl => ?_)
      have hl : lv_has ls 4 [(2, .int 0), (0, .ref (ad k)), (1, .int n1)] := hl
      exact w_15 xs_fuel 0 S _ _ _ hw (lv_sub hl [1, 2, 0] rfl) h
    · replace h := xs_n b2 h
      refine lv_iconst (v := (-1)) hx hb dd_W_tick_11 rfl ?_
      exact hret h hw dd_W_tick_12
set_option maxHeartbeats 4000000 in
set_option maxRecDepth 100000 in
theorem xc_A_holds (l : Launch) (D : va_G) (ad : Nat → Nat) (ca : Nat → ClassId) (ks : List Nat) (k : Nat) (n1 : Int32) (S : xs_T) (r : Int32) (hk : xs_is ks k xs_cA) (h : xf_A_holds k n1 S = some r) (sz : Nat) : Met l yy_A_holds ws_A_holds { frames := 0, cells := 0, slots := 0, locals := 0 } (va_Pc [.ref (ad k), .int n1] (xs_Pre D ad ca ks S sz)) (va_Qi (fun r1 (_ : Unit) => r1 = r) (fun _ t => va_P D xs_cl (xs_w ad ca ks S) t.heap) (xs_A ad ks sz)) 0 0 (xs_A ad ks sz) := by
  refine xm_zr (by decide) (Nat.le_of_ble_eq_true rfl) ?_
  intro p e s m args below meth c R A Q ls hx hb hml hown hts hRf hRl hK hw hl hret
  have hl : lv_has ls 2 [(0, .ref (ad k)), (1, .int n1)] := hl
  unfold xf_A_holds at h
  refine lv_iload_n hx hb dd_A_holds_0 rfl (lv_at hl 1 rfl) ?_
  refine lv_if_lt hx hb dd_A_holds_1 rfl (fun b1 => ?_) (fun b1 => ?_)
  · replace h := xs_p b1 h
    refine lv_iconst (v := 0) hx hb dd_A_holds_16 rfl ?_
    exact hret h hw dd_A_holds_17
  · replace h := xs_n b1 h
    refine lv_iload_n hx hb dd_A_holds_4 rfl (lv_at hl 1 rfl) ?_
    refine lv_aload_n hx hb dd_A_holds_5 rfl (lv_at hl 0 rfl) ?_
    refine xr_get_A (v := .int (xs_gI S k 2)) hx hb hts hown hK hw hk 2 (by decide) (hts _ hw_61) rfl dd_A_holds_6 ?_
    refine lv_icmp_ge hx hb dd_A_holds_9 rfl (fun b2 => ?_) (fun b2 => ?_)
    · replace h := xs_p b2 h
      refine lv_iconst (v := 0) hx hb dd_A_holds_16 rfl ?_
      exact hret h hw dd_A_holds_17
    · replace h := xs_n b2 h
      refine lv_iconst (v := 1) hx hb dd_A_holds_12 rfl ?_
      refine lv_goto hx hb dd_A_holds_13 rfl ?_
      exact hret h hw dd_A_holds_17
set_option maxHeartbeats 4000000 in
set_option maxRecDepth 100000 in
theorem xc_F_hasJoinForm (l : Launch) (D : va_G) (ad : Nat → Nat) (ca : Nat → ClassId) (ks : List Nat) (k : Nat) (S : xs_T) (r : Int32) (hk : xs_is ks k xs_cF) (h : xf_F_hasJoinForm k S = some r) (sz : Nat) : Met l yy_F_hasJoinForm ws_F_hasJoinForm { frames := 0, cells := 0, slots := 0, locals := 0 } (va_Pc [.ref (ad k)] (xs_Pre D ad ca ks S sz)) (va_Qi (fun r1 (_ : Unit) => r1 = r) (fun _ t => va_P D xs_cl (xs_w ad ca ks S) t.heap) (xs_A ad ks sz)) 0 0 (xs_A ad ks sz) := by
  refine xm_zr (by decide) (Nat.le_of_ble_eq_true rfl) ?_
  intro p e s m args below meth c R A Q ls hx hb hml hown hts hRf hRl hK hw hl hret
  have hl : lv_has ls 2 [(0, .ref (ad k))] := hl
  have w_56 : ∀ (c33 : Int32 → Option (Int32)) (y33 : ∀ (i1 : Int32) (H : Heap) (locs : List Loc) (ls : Array Slot), xs_I D ad ca ks A s S H locs → lv_has ls 2 [(0, .ref (ad k)), (1, .int i1)] → c33 i1 = some r → W p l e R s m args below meth c H locs 0 0 Q (F0 m 33 ls [])), ∀ (i1 : Int32) (H : Heap) (locs : List Loc) (ls : Array Slot), xs_I D ad ca ks A s S H locs → lv_has ls 2 [(0, .ref (ad k)), (1, .int i1)] → xf_F_hasJoinForm_56 k S c33 i1 = some r → W p l e R s m args below meth c H locs 0 0 Q (F0 m 56 ls []) := by
    intro c33 y33 i1 H locs ls hw hl h
    unfold xf_F_hasJoinForm_56 at h
    refine lv_iinc (k := 1) (v := i1 + 1) hx hb dd_F_hasJoinForm_56 hl rfl rfl (by decide) rfl (fun ls hl => ?_)
    have hl : lv_has ls 2 [(1, .int (i1 + 1)), (0, .ref (ad k))] := hl
    refine lv_goto hx hb dd_F_hasJoinForm_59 rfl ?_
    exact y33 (i1 + 1) _ _ _ hw (lv_sub hl [1, 0] rfl) h
  have w_33 : ∀ (f : Nat), ∀ (i1 : Int32) (H : Heap) (locs : List Loc) (ls : Array Slot), xs_I D ad ca ks A s S H locs → lv_has ls 2 [(0, .ref (ad k)), (1, .int i1)] → xf_F_hasJoinForm_33 k S f i1 = some r → W p l e R s m args below meth c H locs 0 0 Q (F0 m 33 ls []) := by
    intro f
    induction f with
    | zero => intro i1 H locs ls hw hl h; exact absurd h (by simp [xf_F_hasJoinForm_33])
    | succ f ih =>
      intro i1 H locs ls hw hl h
      rw [xf_F_hasJoinForm_33] at h
      refine lv_iload_n hx hb dd_F_hasJoinForm_33 rfl (lv_at hl 1 rfl) ?_
      refine lv_bipush (v := 17) hx hb dd_F_hasJoinForm_34 rfl ?_
      refine lv_icmp_ge hx hb dd_F_hasJoinForm_36 rfl (fun b6 => ?_) (fun b6 => ?_)
      · replace h := xs_p b6 h
        refine lv_iconst (v := 1) hx hb dd_F_hasJoinForm_62 rfl ?_
        exact hret h hw dd_F_hasJoinForm_63
      · replace h := xs_n b6 h
        refine lv_iload_n hx hb dd_F_hasJoinForm_39 rfl (lv_at hl 1 rfl) ?_
        refine lv_bipush (v := 9) hx hb dd_F_hasJoinForm_40 rfl ?_
        refine lv_icmp_eq hx hb dd_F_hasJoinForm_42 rfl (fun b7 => ?_) (fun b7 => ?_)
        · replace h := xs_p b7 h
          exact w_56 (xf_F_hasJoinForm_33 k S f) ih i1 _ _ _ hw (lv_sub hl [0, 1] rfl) h
        · replace h := xs_n b7 h
          refine lv_aload_n hx hb dd_F_hasJoinForm_45 rfl (lv_at hl 0 rfl) ?_
          refine xr_get_F (v := .ref (ad (k + 1))) hx hb hts hown hK hw hk 0 (by decide) (hts _ hw_37) rfl dd_F_hasJoinForm_46 ?_
          refine lv_iload_n hx hb dd_F_hasJoinForm_49 rfl (lv_at hl 1 rfl) ?_
          obtain ⟨v8, gv8, h⟩ := xs_ob h
          refine xr_iald hx hb hK hw (xs_ok_F_bytes hK.1 hk) gv8 dd_F_hasJoinForm_50 ?_
          refine lv_if_eq hx hb dd_F_hasJoinForm_51 rfl (fun b9 => ?_) (fun b9 => ?_)
          · replace h := xs_p b9 h
            exact w_56 (xf_F_hasJoinForm_33 k S f) ih i1 _ _ _ hw (lv_sub hl [0, 1] rfl) h
          · replace h := xs_n b9 h
            refine lv_iconst (v := 0) hx hb dd_F_hasJoinForm_54 rfl ?_
            exact hret h hw dd_F_hasJoinForm_55
  unfold xf_F_hasJoinForm at h
  refine lv_aload_n hx hb dd_F_hasJoinForm_0 rfl (lv_at hl 0 rfl) ?_
  refine xr_get_F (v := .int (xs_gI S k 1)) hx hb hts hown hK hw hk 1 (by decide) (hts _ hw_43) rfl dd_F_hasJoinForm_1 ?_
  refine lv_bipush (v := 23) hx hb dd_F_hasJoinForm_4 rfl ?_
  refine lv_icmp_ne hx hb dd_F_hasJoinForm_6 rfl (fun b1 => ?_) (fun b1 => ?_)
  · replace h := xs_n b1 h
    refine lv_iconst (v := 0) hx hb dd_F_hasJoinForm_29 rfl ?_
    exact hret h hw dd_F_hasJoinForm_30
  · replace h := xs_p b1 h
    refine lv_aload_n hx hb dd_F_hasJoinForm_9 rfl (lv_at hl 0 rfl) ?_
    refine xr_get_F (v := .ref (ad (k + 1))) hx hb hts hown hK hw hk 0 (by decide) (hts _ hw_37) rfl dd_F_hasJoinForm_10 ?_
    refine lv_iconst (v := 0) hx hb dd_F_hasJoinForm_13 rfl ?_
    obtain ⟨v2, gv2, h⟩ := xs_ob h
    refine xr_iald hx hb hK hw (xs_ok_F_bytes hK.1 hk) gv2 dd_F_hasJoinForm_14 ?_
    refine lv_if_ne hx hb dd_F_hasJoinForm_15 rfl (fun b3 => ?_) (fun b3 => ?_)
    · replace h := xs_n b3 h
      refine lv_iconst (v := 0) hx hb dd_F_hasJoinForm_29 rfl ?_
      exact hret h hw dd_F_hasJoinForm_30
    · replace h := xs_p b3 h
      refine lv_aload_n hx hb dd_F_hasJoinForm_18 rfl (lv_at hl 0 rfl) ?_
      refine xr_get_F (v := .ref (ad (k + 1))) hx hb hts hown hK hw hk 0 (by decide) (hts _ hw_37) rfl dd_F_hasJoinForm_19 ?_
      refine lv_bipush (v := 9) hx hb dd_F_hasJoinForm_22 rfl ?_
      obtain ⟨v4, gv4, h⟩ := xs_ob h
      refine xr_iald hx hb hK hw (xs_ok_F_bytes hK.1 hk) gv4 dd_F_hasJoinForm_24 ?_
      refine lv_iconst (v := 3) hx hb dd_F_hasJoinForm_25 rfl ?_
      refine lv_icmp_lt hx hb dd_F_hasJoinForm_26 rfl (fun b5 => ?_) (fun b5 => ?_)
      · replace h := xs_p b5 h
        refine lv_iconst (v := 1) hx hb dd_F_hasJoinForm_31 rfl ?_
        refine lv_istore_n hx hb dd_F_hasJoinForm_32 rfl hl (by decide) rfl (fun ls hl => ?_)
        have hl : lv_has ls 2 [(1, .int 1), (0, .ref (ad k))] := hl
        exact w_33 xs_fuel 1 _ _ _ hw (lv_sub hl [1, 0] rfl) h
      · replace h := xs_n b5 h
        refine lv_iconst (v := 0) hx hb dd_F_hasJoinForm_29 rfl ?_
        exact hret h hw dd_F_hasJoinForm_30
set_option maxHeartbeats 4000000 in
set_option maxRecDepth 100000 in
theorem xc_S_deriveKey (l : Launch) (D : va_G) (ad : Nat → Nat) (ca : Nat → ClassId) (ks : List Nat) (k : Nat) (a1 : Nat) (n2 : Int32) (n3 : Int32) (n4 : Int32) (S : xs_T) (T : xs_T) (hk : xs_is ks k xs_cS) (ha1 : xs_is ks a1 xs_cC) (h : xf_S_deriveKey k a1 n2 n3 n4 S = some T) (sz : Nat) : Met l yy_S_deriveKey ws_S_deriveKey { frames := 2, cells := 0, slots := 0, locals := 56 } (va_Pc [.ref (ad k), .ref (ad a1), .int n2, .int n3, .int n4] (xs_Pre D ad ca ks S sz)) (va_Qv (fun _ : Unit => True) (fun _ t => va_P D xs_cl (xs_w ad ca ks T) t.heap) (xs_A ad ks sz)) 0 0 (xs_A ad ks sz) := by
  refine xm_v (by decide) (Nat.le_of_ble_eq_true rfl) ?_
  intro p e s m args below meth c R A Q ls hx hb hml hown hts hRf hRl hK hw hl hret
  have hl : lv_has ls 5 [(0, .ref (ad k)), (1, .ref (ad a1)), (2, .int n2), (3, .int n3), (4, .int n4)] := hl
  unfold xf_S_deriveKey at h
  refine lv_aload_n hx hb dd_S_deriveKey_0 rfl (lv_at hl 0 rfl) ?_
  refine xr_get_S (v := .ref (ad (k + 10))) hx hb hts hown hK hw hk 3 (by decide) (hts _ hw_165) rfl dd_S_deriveKey_1 ?_
  refine lv_iconst (v := 0) hx hb dd_S_deriveKey_4 rfl ?_
  obtain ⟨q1, gq1, h⟩ := xs_ob h
  refine xq_v hK hw (va_runS (As := [.ref (ad (k + 10)), .int 0]) (rest := []) ⟨hx, hb, hml, hown, hts⟩ (xc_J_fill l D ad ca ks (k + 10) 0 S q1 (xs_ok_S_key hK.1 hk) gq1 _) ⟨callB_of 2 hts (xs_good hw_130) rfl rfl rfl (hts _ hw_6) (hts _ hw_442) yd_J_fill ⟨Nat.le_trans (by decide) hRf, Nat.le_trans (by decide) hRl⟩, (hts _ hw_129)⟩ ⟨xs_blind, fun U h1 h2 => ⟨rfl, xs_pre hK hw h1 h2⟩⟩ rfl rfl hl.1 rfl (lv_room (Nat.le_of_ble_eq_true rfl)) dd_S_deriveKey_5 ⟨Nat.zero_le _, Nat.zero_le _⟩) (fun H locs hw => ?_)
  refine lv_aload_n hx hb dd_S_deriveKey_8 rfl (lv_at hl 0 rfl) ?_
  refine xr_get_S (v := .ref (ad (k + 10))) hx hb hts hown hK hw hk 3 (by decide) (hts _ hw_165) rfl dd_S_deriveKey_9 ?_
  refine lv_iconst (v := 0) hx hb dd_S_deriveKey_12 rfl ?_
  refine lv_iload_n hx hb dd_S_deriveKey_13 rfl (lv_at hl 2 rfl) ?_
  obtain ⟨S2, gS2, h⟩ := xs_ob h
  refine xr_iast hx hb hK hw (xs_ok_S_key hK.1 hk) gS2 dd_S_deriveKey_14 (fun H locs hw => ?_)
  refine lv_aload_n hx hb dd_S_deriveKey_15 rfl (lv_at hl 0 rfl) ?_
  refine xr_get_S (v := .ref (ad (k + 10))) hx hb hts hown hK hw hk 3 (by decide) (hts _ hw_165) rfl dd_S_deriveKey_16 ?_
  refine lv_iconst (v := 1) hx hb dd_S_deriveKey_19 rfl ?_
  refine lv_iload_n hx hb dd_S_deriveKey_20 rfl (lv_at hl 3 rfl) ?_
  refine lv_iconst (v := 3) hx hb dd_S_deriveKey_21 rfl ?_
  obtain ⟨q3, gq3, h⟩ := xs_ob h
  refine xq_v hK hw (va_runSN (As := [.ref (ad (k + 10)), .int 1, .int n3, .int 3]) (rest := []) ⟨hx, hb, hml, hown, hts⟩ (xc_W_putNumber l D ad ca ks (k + 10) 1 n3 3 S2 q3 (xs_ok_S_key hK.1 hk) gq3 _) ⟨va_cnB 4 hts (xs_good hw_140) rfl rfl rfl (hK.2.2.2.1 _ hn_443 rfl) (hts _ hw_1) yd_W_putNumber ⟨Nat.le_trans (by decide) hRf, Nat.le_trans (by decide) hRl⟩, (hts _ hw_139), trivial⟩ ⟨xs_blind, fun U h1 h2 => ⟨rfl, xs_pre hK hw h1 h2⟩⟩ rfl rfl hl.1 rfl (lv_room (Nat.le_of_ble_eq_true rfl)) dd_S_deriveKey_22 ⟨Nat.zero_le _, Nat.zero_le _⟩) (fun H locs hw => ?_)
  refine lv_aload_n hx hb dd_S_deriveKey_25 rfl (lv_at hl 0 rfl) ?_
  refine xr_get_S (v := .ref (ad (k + 10))) hx hb hts hown hK hw hk 3 (by decide) (hts _ hw_165) rfl dd_S_deriveKey_26 ?_
  refine lv_iconst (v := 4) hx hb dd_S_deriveKey_29 rfl ?_
  refine lv_bipush (v := 19) hx hb dd_S_deriveKey_30 rfl ?_
  obtain ⟨S4, gS4, h⟩ := xs_ob h
  refine xr_iast hx hb hK hw (xs_ok_S_key hK.1 hk) gS4 dd_S_deriveKey_32 (fun H locs hw => ?_)
  refine lv_aload_n hx hb dd_S_deriveKey_33 rfl (lv_at hl 0 rfl) ?_
  refine xr_get_S (v := .ref (ad (k + 10))) hx hb hts hown hK hw hk 3 (by decide) (hts _ hw_165) rfl dd_S_deriveKey_34 ?_
  refine lv_bipush (v := 7) hx hb dd_S_deriveKey_37 rfl ?_
  refine lv_iload hx hb dd_S_deriveKey_39 (lv_at hl 4 rfl) ?_
  refine lv_iconst (v := 2) hx hb dd_S_deriveKey_41 rfl ?_
  obtain ⟨q5, gq5, h⟩ := xs_ob h
  refine xq_v hK hw (va_runSN (As := [.ref (ad (k + 10)), .int 7, .int n4, .int 2]) (rest := []) ⟨hx, hb, hml, hown, hts⟩ (xc_W_putNumber l D ad ca ks (k + 10) 7 n4 2 S4 q5 (xs_ok_S_key hK.1 hk) gq5 _) ⟨va_cnB 4 hts (xs_good hw_140) rfl rfl rfl (hK.2.2.2.1 _ hn_443 rfl) (hts _ hw_1) yd_W_putNumber ⟨Nat.le_trans (by decide) hRf, Nat.le_trans (by decide) hRl⟩, (hts _ hw_139), trivial⟩ ⟨xs_blind, fun U h1 h2 => ⟨rfl, xs_pre hK hw h1 h2⟩⟩ rfl rfl hl.1 rfl (lv_room (Nat.le_of_ble_eq_true rfl)) dd_S_deriveKey_42 ⟨Nat.zero_le _, Nat.zero_le _⟩) (fun H locs hw => ?_)
  refine lv_aload_n hx hb dd_S_deriveKey_45 rfl (lv_at hl 1 rfl) ?_
  refine lv_aload_n hx hb dd_S_deriveKey_46 rfl (lv_at hl 0 rfl) ?_
  refine xr_get_S (v := .ref (ad (k + 10))) hx hb hts hown hK hw hk 3 (by decide) (hts _ hw_165) rfl dd_S_deriveKey_47 ?_
  refine lv_iconst (v := 0) hx hb dd_S_deriveKey_50 rfl ?_
  obtain ⟨q6, gq6, h⟩ := xs_ob h
  refine xq_v hK hw (va_runV (As := [.ref (ad (k + 10)), .int 0]) (rest := []) ⟨hx, hb, hml, hown, hts⟩ (xc_C_encipher l D ad ca ks a1 (k + 10) 0 q5 q6 ha1 (xs_ok_S_key hK.1 hk) gq6 _) ⟨callB_of 2 hts (xs_good hw_134) rfl rfl rfl (hts _ hw_5) (hts _ hw_444) yd_C_encipher ⟨Nat.le_trans (by decide) hRf, Nat.le_trans (by decide) hRl⟩, (hts _ hw_132), (hts _ hw_133)⟩ ⟨xs_blind, xs_recv_C hK hw ha1, fun U h1 h2 => ⟨rfl, xs_pre hK hw h1 h2⟩⟩ rfl rfl hl.1 rfl (lv_room (Nat.le_of_ble_eq_true rfl)) dd_S_deriveKey_51 ⟨Nat.zero_le _, Nat.zero_le _⟩) (fun H locs hw => ?_)
  exact hret h hw dd_S_deriveKey_54
set_option maxHeartbeats 4000000 in
set_option maxRecDepth 100000 in
theorem xc_S_open (l : Launch) (D : va_G) (ad : Nat → Nat) (ca : Nat → ClassId) (ks : List Nat) (k : Nat) (a1 : Nat) (n2 : Int32) (n3 : Int32) (n4 : Int32) (S : xs_T) (T : xs_T) (hk : xs_is ks k xs_cS) (ha1 : xs_is ks a1 xs_cC) (h : xf_S_open k a1 n2 n3 n4 S = some T) (sz : Nat) : Met l yy_S_open ws_S_open { frames := 3, cells := 0, slots := 0, locals := 88 } (va_Pc [.ref (ad k), .ref (ad a1), .int n2, .int n3, .int n4] (xs_Pre D ad ca ks S sz)) (va_Qv (fun _ : Unit => True) (fun _ t => va_P D xs_cl (xs_w ad ca ks T) t.heap) (xs_A ad ks sz)) 0 0 (xs_A ad ks sz) := by
  refine xm_v (by decide) (Nat.le_of_ble_eq_true rfl) ?_
  intro p e s m args below meth c R A Q ls hx hb hml hown hts hRf hRl hK hw hl hret
  have hl : lv_has ls 5 [(0, .ref (ad k)), (1, .ref (ad a1)), (2, .int n2), (3, .int n3), (4, .int n4)] := hl
  unfold xf_S_open at h
  refine lv_aload_n hx hb dd_S_open_0 rfl (lv_at hl 0 rfl) ?_
  refine lv_iload_n hx hb dd_S_open_1 rfl (lv_at hl 3 rfl) ?_
  obtain ⟨S1, gS1, h⟩ := xs_ob h
  refine xr_putI_S hx hb hts hown hK hw hk 4 (by decide) (hts _ hw_166) rfl rfl (fun _ _ => rfl) gS1 dd_S_open_2 (fun H locs hw => ?_)
  refine lv_aload_n hx hb dd_S_open_5 rfl (lv_at hl 0 rfl) ?_
  refine lv_aload_n hx hb dd_S_open_6 rfl (lv_at hl 1 rfl) ?_
  refine lv_iconst (v := 1) hx hb dd_S_open_7 rfl ?_
  refine lv_iload_n hx hb dd_S_open_8 rfl (lv_at hl 2 rfl) ?_
  refine lv_iload hx hb dd_S_open_9 (lv_at hl 4 rfl) ?_
  obtain ⟨q2, gq2, h⟩ := xs_ob h
  refine xq_v hK hw (va_runV (As := [.ref (ad a1), .int 1, .int n2, .int n4]) (rest := []) ⟨hx, hb, hml, hown, hts⟩ (xc_S_deriveKey l D ad ca ks k a1 1 n2 n4 S1 q2 hk ha1 gq2 _) ⟨callB_of 4 hts (xs_good hw_546) rfl rfl rfl (hts _ hw_9) (hts _ hw_543) yd_S_deriveKey ⟨Nat.le_trans (by decide) hRf, Nat.le_trans (by decide) hRl⟩, (hts _ hw_545), (hts _ hs_6)⟩ ⟨xs_blind, xs_recv_S hK hw hk, fun U h1 h2 => ⟨rfl, xs_pre hK hw h1 h2⟩⟩ rfl rfl hl.1 rfl (lv_room (Nat.le_of_ble_eq_true rfl)) dd_S_open_11 ⟨Nat.zero_le _, Nat.zero_le _⟩) (fun H locs hw => ?_)
  refine lv_aload_n hx hb dd_S_open_14 rfl (lv_at hl 0 rfl) ?_
  refine xr_get_S (v := .ref (ad (k + 1))) hx hb hts hown hK hw hk 0 (by decide) (hts _ hw_162) rfl dd_S_open_15 ?_
  refine lv_aload_n hx hb dd_S_open_18 rfl (lv_at hl 0 rfl) ?_
  refine xr_get_S (v := .ref (ad (k + 10))) hx hb hts hown hK hw hk 3 (by decide) (hts _ hw_165) rfl dd_S_open_19 ?_
  obtain ⟨q3, gq3, h⟩ := xs_ob h
  refine xq_v hK hw (va_runV (As := [.ref (ad (k + 10))]) (rest := []) ⟨hx, hb, hml, hown, hts⟩ (xc_M_takeKey l D ad ca ks (k + 1) (k + 10) q2 q3 (xs_ok_S_network hK.1 hk) (xs_ok_S_key hK.1 hk) gq3 _) ⟨callB_of 1 hts (xs_good hw_110) rfl rfl rfl (hts _ hw_4) (hts _ hw_547) yd_M_takeKey ⟨Nat.le_trans (by decide) hRf, Nat.le_trans (by decide) hRl⟩, (hts _ hw_108), (hts _ hw_109)⟩ ⟨xs_blind, xs_recv_M hK hw (xs_ok_S_network hK.1 hk), fun U h1 h2 => ⟨rfl, xs_pre hK hw h1 h2⟩⟩ rfl rfl hl.1 rfl (lv_room (Nat.le_of_ble_eq_true rfl)) dd_S_open_22 ⟨Nat.zero_le _, Nat.zero_le _⟩) (fun H locs hw => ?_)
  refine lv_aload_n hx hb dd_S_open_25 rfl (lv_at hl 0 rfl) ?_
  refine lv_aload_n hx hb dd_S_open_26 rfl (lv_at hl 1 rfl) ?_
  refine lv_iconst (v := 2) hx hb dd_S_open_27 rfl ?_
  refine lv_iload_n hx hb dd_S_open_28 rfl (lv_at hl 2 rfl) ?_
  refine lv_iload hx hb dd_S_open_29 (lv_at hl 4 rfl) ?_
  obtain ⟨q4, gq4, h⟩ := xs_ob h
  refine xq_v hK hw (va_runV (As := [.ref (ad a1), .int 2, .int n2, .int n4]) (rest := []) ⟨hx, hb, hml, hown, hts⟩ (xc_S_deriveKey l D ad ca ks k a1 2 n2 n4 q3 q4 hk ha1 gq4 _) ⟨callB_of 4 hts (xs_good hw_546) rfl rfl rfl (hts _ hw_9) (hts _ hw_543) yd_S_deriveKey ⟨Nat.le_trans (by decide) hRf, Nat.le_trans (by decide) hRl⟩, (hts _ hw_545), (hts _ hs_6)⟩ ⟨xs_blind, xs_recv_S hK hw hk, fun U h1 h2 => ⟨rfl, xs_pre hK hw h1 h2⟩⟩ rfl rfl hl.1 rfl (lv_room (Nat.le_of_ble_eq_true rfl)) dd_S_open_31 ⟨Nat.zero_le _, Nat.zero_le _⟩) (fun H locs hw => ?_)
  refine lv_aload_n hx hb dd_S_open_34 rfl (lv_at hl 0 rfl) ?_
  refine xr_get_S (v := .ref (ad (k + 7))) hx hb hts hown hK hw hk 1 (by decide) (hts _ hw_163) rfl dd_S_open_35 ?_
  refine lv_aload_n hx hb dd_S_open_38 rfl (lv_at hl 0 rfl) ?_
  refine xr_get_S (v := .ref (ad (k + 10))) hx hb hts hown hK hw hk 3 (by decide) (hts _ hw_165) rfl dd_S_open_39 ?_
  obtain ⟨q5, gq5, h⟩ := xs_ob h
  refine xq_v hK hw (va_runV (As := [.ref (ad (k + 10))]) (rest := []) ⟨hx, hb, hml, hown, hts⟩ (xc_C_takeKey l D ad ca ks (k + 7) (k + 10) q4 q5 (xs_ok_S_application hK.1 hk) (xs_ok_S_key hK.1 hk) gq5 _) ⟨callB_of 1 hts (xs_good hw_114) rfl rfl rfl (hts _ hw_5) (hts _ hw_548) yd_C_takeKey ⟨Nat.le_trans (by decide) hRf, Nat.le_trans (by decide) hRl⟩, (hts _ hw_112), (hts _ hw_113)⟩ ⟨xs_blind, xs_recv_C hK hw (xs_ok_S_application hK.1 hk), fun U h1 h2 => ⟨rfl, xs_pre hK hw h1 h2⟩⟩ rfl rfl hl.1 rfl (lv_room (Nat.le_of_ble_eq_true rfl)) dd_S_open_42 ⟨Nat.zero_le _, Nat.zero_le _⟩) (fun H locs hw => ?_)
  exact hret h hw dd_S_open_45
set_option maxHeartbeats 4000000 in
set_option maxRecDepth 100000 in
theorem xc_K_openSession (l : Launch) (D : va_G) (ad : Nat → Nat) (ca : Nat → ClassId) (ks : List Nat) (k : Nat) (n1 : Int32) (n2 : Int32) (S : xs_T) (T : xs_T) (hk : xs_is ks k xs_cK) (h : xf_K_openSession k n1 n2 S = some T) (sz : Nat) : Met l yy_K_openSession ws_K_openSession { frames := 4, cells := 0, slots := 0, locals := 112 } (va_Pc [.ref (ad k), .int n1, .int n2] (xs_Pre D ad ca ks S sz)) (va_Qv (fun _ : Unit => True) (fun _ t => va_P D xs_cl (xs_w ad ca ks T) t.heap) (xs_A ad ks sz)) 0 0 (xs_A ad ks sz) := by
  refine xm_v (by decide) (Nat.le_of_ble_eq_true rfl) ?_
  intro p e s m args below meth c R A Q ls hx hb hml hown hts hRf hRl hK hw hl hret
  have hl : lv_has ls 4 [(0, .ref (ad k)), (1, .int n1), (2, .int n2)] := hl
  unfold xf_K_openSession at h
  refine lv_aload_n hx hb dd_K_openSession_0 rfl (lv_at hl 0 rfl) ?_
  refine lv_iload_n hx hb dd_K_openSession_1 rfl (lv_at hl 2 rfl) ?_
  obtain ⟨S1, gS1, h⟩ := xs_ob h
  refine xr_putI_K hx hb hts hown hK hw hk 9 (by decide) (hts _ hw_294) rfl rfl (fun _ _ => rfl) gS1 dd_K_openSession_2 (fun H locs hw => ?_)
  refine lv_aload_n hx hb dd_K_openSession_5 rfl (lv_at hl 0 rfl) ?_
  refine lv_iload_n hx hb dd_K_openSession_6 rfl (lv_at hl 1 rfl) ?_
  obtain ⟨S2, gS2, h⟩ := xs_ob h
  refine xr_putI_K hx hb hts hown hK hw hk 8 (by decide) (hts _ hw_293) rfl rfl (fun _ _ => rfl) gS2 dd_K_openSession_7 (fun H locs hw => ?_)
  refine lv_aload_n hx hb dd_K_openSession_10 rfl (lv_at hl 0 rfl) ?_
  refine lv_dup hx hb dd_K_openSession_11 rfl ?_
  refine xr_get_K (v := .int (xs_gI S2 k 7)) hx hb hts hown hK hw hk 7 (by decide) (hts _ hw_290) rfl dd_K_openSession_12 ?_
  refine lv_iconst (v := 1) hx hb dd_K_openSession_15 rfl ?_
  refine lv_iadd hx hb dd_K_openSession_16 ?_
  obtain ⟨S3, gS3, h⟩ := xs_ob h
  refine xr_putI_K hx hb hts hown hK hw hk 7 (by decide) (hts _ hw_290) rfl rfl (fun _ _ => rfl) gS3 dd_K_openSession_17 (fun H locs hw => ?_)
  refine lv_aload_n hx hb dd_K_openSession_20 rfl (lv_at hl 0 rfl) ?_
  refine xr_get_K (v := .int (xs_gI S3 k 0)) hx hb hts hown hK hw hk 0 (by decide) (hts _ hw_280) rfl dd_K_openSession_21 ?_
  refine lv_iconst (v := 1) hx hb dd_K_openSession_24 rfl ?_
  refine lv_iadd hx hb dd_K_openSession_25 ?_
  refine lv_aload_n hx hb dd_K_openSession_26 rfl (lv_at hl 0 rfl) ?_
  refine xr_get_K (v := .int (xs_gI S3 k 7)) hx hb hts hown hK hw hk 7 (by decide) (hts _ hw_290) rfl dd_K_openSession_27 ?_
  refine lv_sipush (v := 255) hx hb dd_K_openSession_30 rfl ?_
  refine lv_iand hx hb dd_K_openSession_33 ?_
  refine lv_bipush (v := 8) hx hb dd_K_openSession_34 rfl ?_
  refine lv_ishl hx hb dd_K_openSession_36 ?_
  refine lv_ior hx hb dd_K_openSession_37 ?_
  refine lv_ldc (v := 637534208) hx hb hown (hts _ hw_538) dd_K_openSession_38 ?_
  refine lv_ior hx hb dd_K_openSession_40 ?_
  obtain ⟨v4, gv4, h⟩ := xs_ob h
  refine lv_namI gv4 ?_
  refine lv_istore_n hx hb dd_K_openSession_41 rfl hl (by decide) rfl (fun ls hl => ?_)
  have hl : lv_has ls 4 [(3, .int v4), (0, .ref (ad k)), (1, .int n1), (2, .int n2)] := hl
  refine lv_aload_n hx hb dd_K_openSession_42 rfl (lv_at hl 1 rfl) ?_
  refine xr_get_K (v := .ref (ad (k + 1))) hx hb hts hown hK hw hk 2 (by decide) (hts _ hw_283) rfl dd_K_openSession_43 ?_
  refine lv_aload_n hx hb dd_K_openSession_46 rfl (lv_at hl 1 rfl) ?_
  refine xr_get_K (v := .ref (ad (xs_rt k))) hx hb hts hown hK hw hk 1 (by decide) (hts _ hw_281) rfl dd_K_openSession_47 ?_
  refine xr_getN_M (v := .ref (ad ((xs_rt k) + 1))) hx hb hts hown hK hw (xs_ok_K_root hK.1 hk) 0 (by decide) (va_Nw.use rfl (hK.2.2.2.1 _ hn_93 rfl)) rfl dd_K_openSession_50 ?_
  refine lv_aload_n hx hb dd_K_openSession_53 rfl (lv_at hl 1 rfl) ?_
  refine xr_get_K (v := .int (xs_gI S3 k 8)) hx hb hts hown hK hw hk 8 (by decide) (hts _ hw_293) rfl dd_K_openSession_54 ?_
  refine lv_iload_n hx hb dd_K_openSession_57 rfl (lv_at hl 0 rfl) ?_
  refine lv_iload_n hx hb dd_K_openSession_58 rfl (lv_at hl 3 rfl) ?_
  obtain ⟨q5, gq5, h⟩ := xs_ob h
  refine xq_v hK hw (va_runV (As := [.ref (ad ((xs_rt k) + 1)), .int (xs_gI S3 k 8), .int v4, .int n2]) (rest := []) ⟨hx, hb, hml, hown, hts⟩ (xc_S_open l D ad ca ks (k + 1) ((xs_rt k) + 1) (xs_gI S3 k 8) v4 n2 S3 q5 (xs_ok_K_session hK.1 hk) (xs_ok_M_cipher hK.1 (xs_ok_K_root hK.1 hk)) gq5 _) ⟨callB_of 4 hts (xs_good hw_542) rfl rfl rfl (hts _ hw_9) (hts _ hw_539) yd_S_open ⟨Nat.le_trans (by decide) hRf, Nat.le_trans (by decide) hRl⟩, (hts _ hw_540), (hts _ hw_541)⟩ ⟨xs_blind, xs_recv_S hK hw (xs_ok_K_session hK.1 hk), fun U h1 h2 => ⟨rfl, xs_pre hK hw h1 h2⟩⟩ rfl rfl hl.1 rfl (lv_room (Nat.le_of_ble_eq_true rfl)) dd_K_openSession_59 ⟨Nat.zero_le _, Nat.zero_le _⟩) (fun H locs hw => ?_)
  refine lv_aload_n hx hb dd_K_openSession_62 rfl (lv_at hl 1 rfl) ?_
  refine lv_iconst (v := (-1)) hx hb dd_K_openSession_63 rfl ?_
  obtain ⟨S6, gS6, h⟩ := xs_ob h
  refine xr_putI_K hx hb hts hown hK hw hk 10 (by decide) (hts _ hw_296) rfl rfl (fun _ _ => rfl) gS6 dd_K_openSession_64 (fun H locs hw => ?_)
  refine lv_aload_n hx hb dd_K_openSession_67 rfl (lv_at hl 1 rfl) ?_
  refine lv_iconst (v := 0) hx hb dd_K_openSession_68 rfl ?_
  obtain ⟨S7, gS7, h⟩ := xs_ob h
  refine xr_putI_K hx hb hts hown hK hw hk 11 (by decide) (hts _ hw_297) rfl rfl (fun _ _ => rfl) gS7 dd_K_openSession_69 (fun H locs hw => ?_)
  refine lv_aload_n hx hb dd_K_openSession_72 rfl (lv_at hl 1 rfl) ?_
  refine lv_iconst (v := 1) hx hb dd_K_openSession_73 rfl ?_
  refine lv_iconst (v := 0) hx hb dd_K_openSession_74 rfl ?_
  refine lv_iconst (v := 0) hx hb dd_K_openSession_75 rfl ?_
  obtain ⟨q8, gq8, h⟩ := xs_ob h
  refine xq_v hK hw (va_runV (As := [.int 1, .int 0, .int 0]) (rest := []) ⟨hx, hb, hml, hown, hts⟩ (xc_K_setDue l D ad ca ks k 1 0 0 S7 q8 hk gq8 _) ⟨callB_of 3 hts (xs_good hw_510) rfl rfl rfl (hts _ hw_12) (hts _ hw_549) yd_K_setDue ⟨Nat.le_trans (by decide) hRf, Nat.le_trans (by decide) hRl⟩, (hts _ hw_508), (hts _ hw_509)⟩ ⟨xs_blind, xs_recv_K hK hw hk, fun U h1 h2 => ⟨rfl, xs_pre hK hw h1 h2⟩⟩ rfl rfl hl.1 rfl (lv_room (Nat.le_of_ble_eq_true rfl)) dd_K_openSession_76 ⟨Nat.zero_le _, Nat.zero_le _⟩) (fun H locs hw => ?_)
  exact hret h hw dd_K_openSession_79
