set_option maxHeartbeats 4000000 in
set_option maxRecDepth 100000 in
theorem xc_A_takeOut (l : Launch) (D : va_G) (ad : Nat → Nat) (ca : Nat → ClassId) (ks : List Nat) (hf : ks = xs_all) (k : Nat) (n1 : Int32) (S : xs_T) (r : Nat) (T : xs_T) (hk : xs_is ks k xs_cA) (h : xf_A_takeOut k n1 S = some (r, T)) (sz : Nat) : Met l yy_A_takeOut ws_A_takeOut { frames := 0, cells := 0, slots := 0, locals := 0 } (va_Pc [.ref (ad k), .int n1] (xs_Pre D ad ca ks S sz)) (va_Qr (fun _ : Unit => True) (fun _ a t => a = ad r ∧ va_P D xs_cl (xs_w ad ca ks T) t.heap) (xs_A ad ks sz)) 0 0 (xs_A ad ks sz) := by
  refine xm_a (by decide) (Nat.le_of_ble_eq_true rfl) ⟨_, rfl⟩ ?_
  intro p e s m args below meth c R A Q ls hx hb hml hown hts hRf hRl hK hw hl hret
  have hl : lv_has ls 4 [(0, .ref (ad k)), (1, .int n1)] := hl
  have w_19 : ∀ (f : Nat), ∀ (i2 : Nat) (i3 : Int32) (S : xs_T) (hk2 : xs_is ks i2 xs_cF) (H : Heap) (locs : List Loc) (ls : Array Slot), xs_I D ad ca ks A s S H locs → lv_has ls 4 [(0, .ref (ad k)), (2, .ref (ad i2)), (3, .int i3)] → xf_A_takeOut_19 k n1 f i2 i3 S = some (r, T) → W p l e R s m args below meth c H locs 0 0 Q (F0 m 19 ls []) := by
    intro f
    induction f with
    | zero => intro i2 i3 S hk2 H locs ls hw hl h; exact absurd h (by simp [xf_A_takeOut_19])
    | succ f ih =>
      intro i2 i3 S hk2 H locs ls hw hl h
      rw [xf_A_takeOut_19] at h
      refine lv_iload_n hx hb dd_A_takeOut_19 rfl (lv_at hl 2 rfl) ?_
      refine lv_aload_n hx hb dd_A_takeOut_20 rfl (lv_at hl 0 rfl) ?_
      refine xr_get_A (v := .int (xs_gI S k 2)) hx hb hts hown hK hw hk 2 (by decide) (hts _ hw_61) rfl dd_A_takeOut_21 ?_
      refine lv_icmp_ge hx hb dd_A_takeOut_24 rfl (fun b3 => ?_) (fun b3 => ?_)
      · replace h := xs_p b3 h
        refine lv_aload_n hx hb dd_A_takeOut_47 rfl (lv_at hl 0 rfl) ?_
        refine xr_get_A (v := .ref (ad (k + 1))) hx hb hts hown hK hw hk 0 (by decide) (hts _ hw_58) rfl dd_A_takeOut_48 ?_
        refine lv_aload_n hx hb dd_A_takeOut_51 rfl (lv_at hl 0 rfl) ?_
        refine xr_get_A (v := .int (xs_gI S k 2)) hx hb hts hown hK hw hk 2 (by decide) (hts _ hw_61) rfl dd_A_takeOut_52 ?_
        refine lv_aload_n hx hb dd_A_takeOut_55 rfl (lv_at hl 1 rfl) ?_
        obtain ⟨S4, gS4, h⟩ := xs_ob h
        refine xr_aast_F hx hb hK hw (xs_ok_A_underWay hK.1 hk) hk2 gS4 dd_A_takeOut_56 (fun H locs hw => ?_)
        refine lv_aload_n hx hb dd_A_takeOut_57 rfl (lv_at hl 1 rfl) ?_
        exact hret h hw dd_A_takeOut_58
      · replace h := xs_n b3 h
        refine lv_aload_n hx hb dd_A_takeOut_27 rfl (lv_at hl 0 rfl) ?_
        refine xr_get_A (v := .ref (ad (k + 1))) hx hb hts hown hK hw hk 0 (by decide) (hts _ hw_58) rfl dd_A_takeOut_28 ?_
        refine lv_iload_n hx hb dd_A_takeOut_31 rfl (lv_at hl 2 rfl) ?_
        refine lv_aload_n hx hb dd_A_takeOut_32 rfl (lv_at hl 0 rfl) ?_
        refine xr_get_A (v := .ref (ad (k + 1))) hx hb hts hown hK hw hk 0 (by decide) (hts _ hw_58) rfl dd_A_takeOut_33 ?_
        refine lv_iload_n hx hb dd_A_takeOut_36 rfl (lv_at hl 2 rfl) ?_
        refine lv_iconst (v := 1) hx hb dd_A_takeOut_37 rfl ?_
        refine lv_iadd hx hb dd_A_takeOut_38 ?_
        obtain ⟨u5, gu5, h⟩ := xs_ob h
        have ku5 := xs_okU hf (by decide) gu5
        refine xr_aald_F hx hb hK hw (xs_ok_A_underWay hK.1 hk) gu5 dd_A_takeOut_39 ?_
        obtain ⟨S6, gS6, h⟩ := xs_ob h
        refine xr_aast_F hx hb hK hw (xs_ok_A_underWay hK.1 hk) ku5 gS6 dd_A_takeOut_40 (fun H locs hw => ?_)
        refine lv_iinc (k := 2) (v := i3 + 1) hx hb dd_A_takeOut_41 hl rfl rfl (by decide) rfl (fun ls hl => ?_)
        have hl : lv_has ls 4 [(3, .int (i3 + 1)), (0, .ref (ad k)), (2, .ref (ad i2))] := hl
        refine lv_goto hx hb dd_A_takeOut_44 rfl ?_
        exact ih i2 (i3 + 1) S6 (hk2) _ _ _ hw (lv_sub hl [1, 2, 0] rfl) h
  unfold xf_A_takeOut at h
  refine lv_aload_n hx hb dd_A_takeOut_0 rfl (lv_at hl 0 rfl) ?_
  refine xr_get_A (v := .ref (ad (k + 1))) hx hb hts hown hK hw hk 0 (by decide) (hts _ hw_58) rfl dd_A_takeOut_1 ?_
  refine lv_iload_n hx hb dd_A_takeOut_4 rfl (lv_at hl 1 rfl) ?_
  obtain ⟨u1, gu1, h⟩ := xs_ob h
  have ku1 := xs_okU hf (by decide) gu1
  refine xr_aald_F hx hb hK hw (xs_ok_A_underWay hK.1 hk) gu1 dd_A_takeOut_5 ?_
  refine lv_astore_n hx hb dd_A_takeOut_6 rfl hl (by decide) rfl (fun ls hl => ?_)
  have hl : lv_has ls 4 [(2, .ref (ad u1)), (0, .ref (ad k)), (1, .int n1)] := hl
  refine lv_aload_n hx hb dd_A_takeOut_7 rfl (lv_at hl 1 rfl) ?_
  refine lv_dup hx hb dd_A_takeOut_8 rfl ?_
  refine xr_get_A (v := .int (xs_gI S k 2)) hx hb hts hown hK hw hk 2 (by decide) (hts _ hw_61) rfl dd_A_takeOut_9 ?_
  refine lv_iconst (v := 1) hx hb dd_A_takeOut_12 rfl ?_
  refine lv_isub hx hb dd_A_takeOut_13 ?_
  obtain ⟨S2, gS2, h⟩ := xs_ob h
  refine xr_putI_A hx hb hts hown hK hw hk 2 (by decide) (hts _ hw_61) rfl rfl (fun _ _ => rfl) gS2 dd_A_takeOut_14 (fun H locs hw => ?_)
  refine lv_iload_n hx hb dd_A_takeOut_17 rfl (lv_at hl 2 rfl) ?_
  refine lv_istore_n hx hb dd_A_takeOut_18 rfl hl (by decide) rfl (fun ls hl => ?_)
  have hl : lv_has ls 4 [(3, .int n1), (2, .ref (ad u1)), (0, .ref (ad k)), (1, .int n1)] := hl
  exact w_19 xs_fuel u1 n1 S2 (ku1) _ _ _ hw (lv_sub hl [2, 1, 0] rfl) h
set_option maxHeartbeats 4000000 in
set_option maxRecDepth 100000 in
theorem xc_F_hasAcceptForm (l : Launch) (D : va_G) (ad : Nat → Nat) (ca : Nat → ClassId) (ks : List Nat) (k : Nat) (S : xs_T) (r : Int32) (hk : xs_is ks k xs_cF) (h : xf_F_hasAcceptForm k S = some r) (sz : Nat) : Met l yy_F_hasAcceptForm ws_F_hasAcceptForm { frames := 0, cells := 0, slots := 0, locals := 0 } (va_Pc [.ref (ad k)] (xs_Pre D ad ca ks S sz)) (va_Qi (fun r1 (_ : Unit) => r1 = r) (fun _ t => va_P D xs_cl (xs_w ad ca ks S) t.heap) (xs_A ad ks sz)) 0 0 (xs_A ad ks sz) := by
  refine xm_zr (by decide) (Nat.le_of_ble_eq_true rfl) ?_
  intro p e s m args below meth c R A Q ls hx hb hml hown hts hRf hRl hK hw hl hret
  have hl : lv_has ls 1 [(0, .ref (ad k))] := hl
  unfold xf_F_hasAcceptForm at h
  refine lv_aload_n hx hb dd_F_hasAcceptForm_0 rfl (lv_at hl 0 rfl) ?_
  refine xr_get_F (v := .int (xs_gI S k 1)) hx hb hts hown hK hw hk 1 (by decide) (hts _ hw_43) rfl dd_F_hasAcceptForm_1 ?_
  refine lv_bipush (v := 17) hx hb dd_F_hasAcceptForm_4 rfl ?_
  refine lv_icmp_ne hx hb dd_F_hasAcceptForm_6 rfl (fun b1 => ?_) (fun b1 => ?_)
  · replace h := xs_n b1 h
    refine lv_iconst (v := 0) hx hb dd_F_hasAcceptForm_24 rfl ?_
    exact hret h hw dd_F_hasAcceptForm_25
  · replace h := xs_p b1 h
    refine lv_aload_n hx hb dd_F_hasAcceptForm_9 rfl (lv_at hl 0 rfl) ?_
    refine xr_get_F (v := .ref (ad (k + 1))) hx hb hts hown hK hw hk 0 (by decide) (hts _ hw_37) rfl dd_F_hasAcceptForm_10 ?_
    refine lv_iconst (v := 0) hx hb dd_F_hasAcceptForm_13 rfl ?_
    obtain ⟨v2, gv2, h⟩ := xs_ob h
    refine xr_iald hx hb hK hw (xs_ok_F_bytes hK.1 hk) gv2 dd_F_hasAcceptForm_14 ?_
    refine lv_bipush (v := 32) hx hb dd_F_hasAcceptForm_15 rfl ?_
    refine lv_icmp_ne hx hb dd_F_hasAcceptForm_17 rfl (fun b3 => ?_) (fun b3 => ?_)
    · replace h := xs_n b3 h
      refine lv_iconst (v := 0) hx hb dd_F_hasAcceptForm_24 rfl ?_
      exact hret h hw dd_F_hasAcceptForm_25
    · replace h := xs_p b3 h
      refine lv_iconst (v := 1) hx hb dd_F_hasAcceptForm_20 rfl ?_
      refine lv_goto hx hb dd_F_hasAcceptForm_21 rfl ?_
      exact hret h hw dd_F_hasAcceptForm_25
set_option maxHeartbeats 4000000 in
set_option maxRecDepth 100000 in
theorem xc_D_takeAccept (l : Launch) (D : va_G) (ad : Nat → Nat) (ca : Nat → ClassId) (ks : List Nat) (k : Nat) (a1 : Nat) (S : xs_T) (T : xs_T) (hk : xs_is ks k xs_cD) (ha1 : xs_is ks a1 xs_cF) (h : xf_D_takeAccept k a1 S = some T) (sz : Nat) : Met l yy_D_takeAccept ws_D_takeAccept { frames := 4, cells := 0, slots := 0, locals := 112 } (va_Pc [.ref (ad k), .ref (ad a1)] (xs_Pre D ad ca ks S sz)) (va_Qv (fun _ : Unit => True) (fun _ t => va_P D xs_cl (xs_w ad ca ks T) t.heap) (xs_A ad ks sz)) 0 0 (xs_A ad ks sz) := by
  refine xm_v (by decide) (Nat.le_of_ble_eq_true rfl) ?_
  intro p e s m args below meth c R A Q ls hx hb hml hown hts hRf hRl hK hw hl hret
  have hl : lv_has ls 3 [(0, .ref (ad k)), (1, .ref (ad a1))] := hl
  unfold xf_D_takeAccept at h
  refine lv_aload_n hx hb dd_D_takeAccept_0 rfl (lv_at hl 0 rfl) ?_
  refine xr_get_D (v := .ref (ad (k + 16))) hx hb hts hown hK hw hk 5 (by decide) (hts _ hw_204) rfl dd_D_takeAccept_1 ?_
  refine lv_aload_n hx hb dd_D_takeAccept_4 rfl (lv_at hl 1 rfl) ?_
  obtain ⟨q1, gq1, h⟩ := xs_ob h
  refine xq_v hK hw (va_runV (As := [.ref (ad a1)]) (rest := []) ⟨hx, hb, hml, hown, hts⟩ (xc_F_copy l D ad ca ks (k + 16) a1 S q1 (xs_ok_D_opened hK.1 hk) ha1 gq1 _) ⟨callB_of 1 hts (xs_good hw_406) rfl rfl rfl (hts _ hw_3) (hts _ hw_637) yd_F_copy ⟨Nat.le_trans (by decide) hRf, Nat.le_trans (by decide) hRl⟩, (hts _ hw_404), (hts _ hw_405)⟩ ⟨xs_blind, xs_recv_F hK hw (xs_ok_D_opened hK.1 hk), fun U h1 h2 => ⟨rfl, xs_pre hK hw h1 h2⟩⟩ rfl rfl hl.1 rfl (lv_room (Nat.le_of_ble_eq_true rfl)) dd_D_takeAccept_5 ⟨Nat.zero_le _, Nat.zero_le _⟩) (fun H locs hw => ?_)
  refine lv_aload_n hx hb dd_D_takeAccept_8 rfl (lv_at hl 0 rfl) ?_
  refine xr_get_D (v := .ref (ad (k - 6))) hx hb hts hown hK hw hk 1 (by decide) (hts _ hw_199) rfl dd_D_takeAccept_9 ?_
  refine xr_getN_M (v := .ref (ad ((k - 6) + 1))) hx hb hts hown hK hw (xs_ok_D_root hK.1 hk) 0 (by decide) (va_Nw.use rfl (hK.2.2.2.1 _ hn_94 rfl)) rfl dd_D_takeAccept_12 ?_
  refine lv_aload_n hx hb dd_D_takeAccept_15 rfl (lv_at hl 0 rfl) ?_
  refine xr_get_D (v := .ref (ad (k + 16))) hx hb hts hown hK hw hk 5 (by decide) (hts _ hw_204) rfl dd_D_takeAccept_16 ?_
  refine xr_getN_F (v := .ref (ad (k + 17))) hx hb hts hown hK hw (xs_ok_D_opened hK.1 hk) 0 (by decide) (va_Nw.use rfl (hK.2.2.2.1 _ hn_39 rfl)) rfl dd_D_takeAccept_19 ?_
  refine lv_iconst (v := 1) hx hb dd_D_takeAccept_22 rfl ?_
  obtain ⟨q2, gq2, h⟩ := xs_ob h
  refine xq_v hK hw (va_runV (As := [.ref (ad (k + 17)), .int 1]) (rest := []) ⟨hx, hb, hml, hown, hts⟩ (xc_C_encipher l D ad ca ks ((k - 6) + 1) (k + 17) 1 q1 q2 (xs_ok_M_cipher hK.1 (xs_ok_D_root hK.1 hk)) (xs_ok_F_bytes hK.1 (xs_ok_D_opened hK.1 hk)) gq2 _) ⟨callB_of 2 hts (xs_good hw_134) rfl rfl rfl (hts _ hw_5) (hts _ hw_638) yd_C_encipher ⟨Nat.le_trans (by decide) hRf, Nat.le_trans (by decide) hRl⟩, (hts _ hw_132), (hts _ hw_133)⟩ ⟨xs_blind, xs_recv_C hK hw (xs_ok_M_cipher hK.1 (xs_ok_D_root hK.1 hk)), fun U h1 h2 => ⟨rfl, xs_pre hK hw h1 h2⟩⟩ rfl rfl hl.1 rfl (lv_room (Nat.le_of_ble_eq_true rfl)) dd_D_takeAccept_23 ⟨Nat.zero_le _, Nat.zero_le _⟩) (fun H locs hw => ?_)
  refine lv_aload_n hx hb dd_D_takeAccept_26 rfl (lv_at hl 0 rfl) ?_
  refine xr_get_D (v := .ref (ad (k + 16))) hx hb hts hown hK hw hk 5 (by decide) (hts _ hw_204) rfl dd_D_takeAccept_27 ?_
  refine xr_getN_F (v := .ref (ad (k + 17))) hx hb hts hown hK hw (xs_ok_D_opened hK.1 hk) 0 (by decide) (va_Nw.use rfl (hK.2.2.2.1 _ hn_39 rfl)) rfl dd_D_takeAccept_30 ?_
  refine lv_iconst (v := 1) hx hb dd_D_takeAccept_33 rfl ?_
  refine lv_iconst (v := 3) hx hb dd_D_takeAccept_34 rfl ?_
  obtain ⟨q3, gq3, h⟩ := xs_ob h
  refine xq_i hK hw (va_runSN (As := [.ref (ad (k + 17)), .int 1, .int 3]) (rest := []) ⟨hx, hb, hml, hown, hts⟩ (xc_W_number l D ad ca ks (k + 17) 1 3 q2 q3 (xs_ok_F_bytes hK.1 (xs_ok_D_opened hK.1 hk)) gq3 _) ⟨va_cnB 3 hts (xs_good hw_117) rfl rfl rfl (hK.2.2.2.1 _ hn_639 rfl) (hts _ hw_1) yd_W_number ⟨Nat.le_trans (by decide) hRf, Nat.le_trans (by decide) hRl⟩, (hts _ hw_116), trivial⟩ ⟨xs_blind, fun U h1 h2 => ⟨rfl, xs_pre hK hw h1 h2⟩⟩ rfl rfl hl.1 rfl (lv_room (Nat.le_of_ble_eq_true rfl)) dd_D_takeAccept_35 ⟨Nat.zero_le _, Nat.zero_le _⟩) (fun H locs hw => ?_)
  refine lv_istore_n hx hb dd_D_takeAccept_38 rfl hl (by decide) rfl (fun ls hl => ?_)
  have hl : lv_has ls 3 [(2, .int q3), (0, .ref (ad k)), (1, .ref (ad a1))] := hl
  refine lv_iload_n hx hb dd_D_takeAccept_39 rfl (lv_at hl 0 rfl) ?_
  refine lv_aload_n hx hb dd_D_takeAccept_40 rfl (lv_at hl 1 rfl) ?_
  refine xr_get_D (v := .int (xs_gI q2 k 8)) hx hb hts hown hK hw hk 8 (by decide) (hts _ hw_209) rfl dd_D_takeAccept_41 ?_
  refine lv_icmp_le hx hb dd_D_takeAccept_44 rfl (fun b4 => ?_) (fun b4 => ?_)
  · replace h := xs_p b4 h
    exact hret h hw dd_D_takeAccept_79
  · replace h := xs_n b4 h
    refine lv_aload_n hx hb dd_D_takeAccept_47 rfl (lv_at hl 1 rfl) ?_
    refine xr_get_D (v := .ref (ad (k - 6))) hx hb hts hown hK hw hk 1 (by decide) (hts _ hw_199) rfl dd_D_takeAccept_48 ?_
    refine lv_aload_n hx hb dd_D_takeAccept_51 rfl (lv_at hl 1 rfl) ?_
    refine xr_get_D (v := .ref (ad (k + 16))) hx hb hts hown hK hw hk 5 (by decide) (hts _ hw_204) rfl dd_D_takeAccept_52 ?_
    refine xr_getN_F (v := .ref (ad (k + 17))) hx hb hts hown hK hw (xs_ok_D_opened hK.1 hk) 0 (by decide) (va_Nw.use rfl (hK.2.2.2.1 _ hn_39 rfl)) rfl dd_D_takeAccept_55 ?_
    refine lv_bipush (v := 13) hx hb dd_D_takeAccept_58 rfl ?_
    obtain ⟨q5, gq5, h⟩ := xs_ob h
    refine xq_i hK hw (va_runV (As := [.ref (ad (k + 17)), .int 13]) (rest := []) ⟨hx, hb, hml, hown, hts⟩ (xc_M_codeOf l D ad ca ks (k - 6) (k + 17) 13 q2 q5.1 q5.2 (xs_ok_D_root hK.1 hk) (xs_ok_F_bytes hK.1 (xs_ok_D_opened hK.1 hk)) gq5 _) ⟨callB_of 2 hts (xs_good hw_389) rfl rfl rfl (hts _ hw_4) (hts _ hw_386) yd_M_codeOf ⟨Nat.le_trans (by decide) hRf, Nat.le_trans (by decide) hRl⟩, (hts _ hw_387), (hts _ hw_388)⟩ ⟨xs_blind, xs_recv_M hK hw (xs_ok_D_root hK.1 hk), fun U h1 h2 => ⟨rfl, xs_pre hK hw h1 h2⟩⟩ rfl rfl hl.1 rfl (lv_room (Nat.le_of_ble_eq_true rfl)) dd_D_takeAccept_60 ⟨Nat.zero_le _, Nat.zero_le _⟩) (fun H locs hw => ?_)
    refine lv_aload_n hx hb dd_D_takeAccept_63 rfl (lv_at hl 1 rfl) ?_
    refine xr_get_D (v := .ref (ad (k + 16))) hx hb hts hown hK hw hk 5 (by decide) (hts _ hw_204) rfl dd_D_takeAccept_64 ?_
    refine xr_getN_F (v := .ref (ad (k + 17))) hx hb hts hown hK hw (xs_ok_D_opened hK.1 hk) 0 (by decide) (va_Nw.use rfl (hK.2.2.2.1 _ hn_39 rfl)) rfl dd_D_takeAccept_67 ?_
    refine lv_bipush (v := 13) hx hb dd_D_takeAccept_70 rfl ?_
    refine lv_iconst (v := 4) hx hb dd_D_takeAccept_72 rfl ?_
    obtain ⟨q6, gq6, h⟩ := xs_ob h
    refine xq_i hK hw (va_runSN (As := [.ref (ad (k + 17)), .int 13, .int 4]) (rest := [.int q5.1]) ⟨hx, hb, hml, hown, hts⟩ (xc_W_number l D ad ca ks (k + 17) 13 4 q5.2 q6 (xs_ok_F_bytes hK.1 (xs_ok_D_opened hK.1 hk)) gq6 _) ⟨va_cnB 3 hts (xs_good hw_117) rfl rfl rfl (hK.2.2.2.1 _ hn_639 rfl) (hts _ hw_1) yd_W_number ⟨Nat.le_trans (by decide) hRf, Nat.le_trans (by decide) hRl⟩, (hts _ hw_116), trivial⟩ ⟨xs_blind, fun U h1 h2 => ⟨rfl, xs_pre hK hw h1 h2⟩⟩ rfl rfl hl.1 rfl (lv_room (Nat.le_of_ble_eq_true rfl)) dd_D_takeAccept_73 ⟨Nat.zero_le _, Nat.zero_le _⟩) (fun H locs hw => ?_)
    refine lv_icmp_eq hx hb dd_D_takeAccept_76 rfl (fun b7 => ?_) (fun b7 => ?_)
    · replace h := xs_p b7 h
      refine lv_aload_n hx hb dd_D_takeAccept_80 rfl (lv_at hl 1 rfl) ?_
      refine lv_iload_n hx hb dd_D_takeAccept_81 rfl (lv_at hl 0 rfl) ?_
      obtain ⟨S8, gS8, h⟩ := xs_ob h
      refine xr_putI_D hx hb hts hown hK hw hk 8 (by decide) (hts _ hw_209) rfl rfl (fun _ _ => rfl) gS8 dd_D_takeAccept_82 (fun H locs hw => ?_)
      refine lv_aload_n hx hb dd_D_takeAccept_85 rfl (lv_at hl 1 rfl) ?_
      refine xr_get_D (v := .ref (ad (k + 1))) hx hb hts hown hK hw hk 2 (by decide) (hts _ hw_200) rfl dd_D_takeAccept_86 ?_
      refine lv_aload_n hx hb dd_D_takeAccept_89 rfl (lv_at hl 1 rfl) ?_
      refine xr_get_D (v := .ref (ad (k - 6))) hx hb hts hown hK hw hk 1 (by decide) (hts _ hw_199) rfl dd_D_takeAccept_90 ?_
      refine xr_getN_M (v := .ref (ad ((k - 6) + 1))) hx hb hts hown hK hw (xs_ok_D_root hK.1 hk) 0 (by decide) (va_Nw.use rfl (hK.2.2.2.1 _ hn_94 rfl)) rfl dd_D_takeAccept_93 ?_
      refine lv_iload_n hx hb dd_D_takeAccept_96 rfl (lv_at hl 0 rfl) ?_
      refine lv_aload_n hx hb dd_D_takeAccept_97 rfl (lv_at hl 1 rfl) ?_
      refine xr_get_D (v := .ref (ad (k + 16))) hx hb hts hown hK hw hk 5 (by decide) (hts _ hw_204) rfl dd_D_takeAccept_98 ?_
      refine xr_getN_F (v := .ref (ad (k + 17))) hx hb hts hown hK hw (xs_ok_D_opened hK.1 hk) 0 (by decide) (va_Nw.use rfl (hK.2.2.2.1 _ hn_39 rfl)) rfl dd_D_takeAccept_101 ?_
      refine lv_bipush (v := 7) hx hb dd_D_takeAccept_104 rfl ?_
      refine lv_iconst (v := 4) hx hb dd_D_takeAccept_106 rfl ?_
      obtain ⟨q9, gq9, h⟩ := xs_ob h
      refine xq_i hK hw (va_runSN (As := [.ref (ad (k + 17)), .int 7, .int 4]) (rest := [.int q3, .ref (ad ((k - 6) + 1)), .ref (ad (k + 1))]) ⟨hx, hb, hml, hown, hts⟩ (xc_W_number l D ad ca ks (k + 17) 7 4 S8 q9 (xs_ok_F_bytes hK.1 (xs_ok_D_opened hK.1 hk)) gq9 _) ⟨va_cnB 3 hts (xs_good hw_117) rfl rfl rfl (hK.2.2.2.1 _ hn_639 rfl) (hts _ hw_1) yd_W_number ⟨Nat.le_trans (by decide) hRf, Nat.le_trans (by decide) hRl⟩, (hts _ hw_116), trivial⟩ ⟨xs_blind, fun U h1 h2 => ⟨rfl, xs_pre hK hw h1 h2⟩⟩ rfl rfl hl.1 rfl (lv_room (Nat.le_of_ble_eq_true rfl)) dd_D_takeAccept_107 ⟨Nat.zero_le _, Nat.zero_le _⟩) (fun H locs hw => ?_)
      refine lv_aload_n hx hb dd_D_takeAccept_110 rfl (lv_at hl 1 rfl) ?_
      refine xr_get_D (v := .int (xs_gI S8 k 7)) hx hb hts hown hK hw hk 7 (by decide) (hts _ hw_207) rfl dd_D_takeAccept_111 ?_
      obtain ⟨q10, gq10, h⟩ := xs_ob h
      refine xq_v hK hw (va_runV (As := [.ref (ad ((k - 6) + 1)), .int q3, .int q9, .int (xs_gI S8 k 7)]) (rest := []) ⟨hx, hb, hml, hown, hts⟩ (xc_S_open l D ad ca ks (k + 1) ((k - 6) + 1) q3 q9 (xs_gI S8 k 7) S8 q10 (xs_ok_D_session hK.1 hk) (xs_ok_M_cipher hK.1 (xs_ok_D_root hK.1 hk)) gq10 _) ⟨callB_of 4 hts (xs_good hw_542) rfl rfl rfl (hts _ hw_9) (hts _ hw_640) yd_S_open ⟨Nat.le_trans (by decide) hRf, Nat.le_trans (by decide) hRl⟩, (hts _ hw_540), (hts _ hw_541)⟩ ⟨xs_blind, xs_recv_S hK hw (xs_ok_D_session hK.1 hk), fun U h1 h2 => ⟨rfl, xs_pre hK hw h1 h2⟩⟩ rfl rfl hl.1 rfl (lv_room (Nat.le_of_ble_eq_true rfl)) dd_D_takeAccept_114 ⟨Nat.zero_le _, Nat.zero_le _⟩) (fun H locs hw => ?_)
      refine lv_aload_n hx hb dd_D_takeAccept_117 rfl (lv_at hl 1 rfl) ?_
      refine lv_iconst (v := 0) hx hb dd_D_takeAccept_118 rfl ?_
      obtain ⟨S11, gS11, h⟩ := xs_ob h
      refine xr_putI_D hx hb hts hown hK hw hk 9 (by decide) (hts _ hw_210) rfl rfl (fun _ _ => rfl) gS11 dd_D_takeAccept_119 (fun H locs hw => ?_)
      refine lv_aload_n hx hb dd_D_takeAccept_122 rfl (lv_at hl 1 rfl) ?_
      refine lv_iconst (v := (-1)) hx hb dd_D_takeAccept_123 rfl ?_
      obtain ⟨S12, gS12, h⟩ := xs_ob h
      refine xr_putI_D hx hb hts hown hK hw hk 10 (by decide) (hts _ hw_212) rfl rfl (fun _ _ => rfl) gS12 dd_D_takeAccept_124 (fun H locs hw => ?_)
      refine lv_aload_n hx hb dd_D_takeAccept_127 rfl (lv_at hl 1 rfl) ?_
      refine lv_iconst (v := 2) hx hb dd_D_takeAccept_128 rfl ?_
      obtain ⟨S13, gS13, h⟩ := xs_ob h
      refine xr_putI_D hx hb hts hown hK hw hk 6 (by decide) (hts _ hw_205) rfl rfl (fun _ _ => rfl) gS13 dd_D_takeAccept_129 (fun H locs hw => ?_)
      refine lv_aload_n hx hb dd_D_takeAccept_132 rfl (lv_at hl 1 rfl) ?_
      refine lv_iconst (v := 0) hx hb dd_D_takeAccept_133 rfl ?_
      obtain ⟨S14, gS14, h⟩ := xs_ob h
      refine xr_putZ_D hx hb hts hown hK hw hk 11 (by decide) (hts _ hw_213) rfl rfl (fun _ _ => rfl) gS14 dd_D_takeAccept_134 (fun H locs hw => ?_)
      exact hret h hw dd_D_takeAccept_137
    · replace h := xs_n b7 h
      exact hret h hw dd_D_takeAccept_79
set_option maxHeartbeats 4000000 in
set_option maxRecDepth 100000 in
theorem xc_D_takeData (l : Launch) (D : va_G) (ad : Nat → Nat) (ca : Nat → ClassId) (ks : List Nat) (k : Nat) (a1 : Nat) (S : xs_T) (T : xs_T) (hk : xs_is ks k xs_cD) (ha1 : xs_is ks a1 xs_cF) (h : xf_D_takeData k a1 S = some T) (sz : Nat) : Met l yy_D_takeData ws_D_takeData { frames := 5, cells := 0, slots := 0, locals := 115 } (va_Pc [.ref (ad k), .ref (ad a1)] (xs_Pre D ad ca ks S sz)) (va_Qv (fun _ : Unit => True) (fun _ t => va_P D xs_cl (xs_w ad ca ks T) t.heap) (xs_A ad ks sz)) 0 0 (xs_A ad ks sz) := by
  refine xm_v (by decide) (Nat.le_of_ble_eq_true rfl) ?_
  intro p e s m args below meth c R A Q ls hx hb hml hown hts hRf hRl hK hw hl hret
  have hl : lv_has ls 4 [(0, .ref (ad k)), (1, .ref (ad a1))] := hl
  have w_134 : ∀ (i3 : Int32) (S : xs_T) (H : Heap) (locs : List Loc) (ls : Array Slot), xs_I D ad ca ks A s S H locs → lv_has ls 4 [(0, .ref (ad k)), (3, .int i3)] → xf_D_takeData_134 k a1 i3 S = some T → W p l e R s m args below meth c H locs 0 0 Q (F0 m 134 ls []) := by
    intro i3 S H locs ls hw hl h
    unfold xf_D_takeData_134 at h
    refine lv_aload_n hx hb dd_D_takeData_134 rfl (lv_at hl 0 rfl) ?_
    refine lv_aload_n hx hb dd_D_takeData_135 rfl (lv_at hl 0 rfl) ?_
    refine xr_get_D (v := .int (xs_gI S k 14)) hx hb hts hown hK hw hk 14 (by decide) (hts _ hw_217) rfl dd_D_takeData_136 ?_
    refine lv_if_eq hx hb dd_D_takeData_139 rfl (fun b15 => ?_) (fun b15 => ?_)
    · replace h := xs_p b15 h
      refine lv_iconst (v := 0) hx hb dd_D_takeData_150 rfl ?_
      obtain ⟨S16, gS16, h⟩ := xs_ob h
      refine xr_putZ_D hx hb hts hown hK hw hk 11 (by decide) (hts _ hw_213) rfl rfl (fun _ _ => rfl) gS16 dd_D_takeData_151 (fun H locs hw => ?_)
      exact hret h hw dd_D_takeData_154
    · replace h := xs_n b15 h
      refine lv_iload_n hx hb dd_D_takeData_142 rfl (lv_at hl 1 rfl) ?_
      refine lv_if_ne hx hb dd_D_takeData_143 rfl (fun b17 => ?_) (fun b17 => ?_)
      · replace h := xs_n b17 h
        refine lv_iconst (v := 0) hx hb dd_D_takeData_150 rfl ?_
        obtain ⟨S18, gS18, h⟩ := xs_ob h
        refine xr_putZ_D hx hb hts hown hK hw hk 11 (by decide) (hts _ hw_213) rfl rfl (fun _ _ => rfl) gS18 dd_D_takeData_151 (fun H locs hw => ?_)
        exact hret h hw dd_D_takeData_154
      · replace h := xs_p b17 h
        refine lv_iconst (v := 1) hx hb dd_D_takeData_146 rfl ?_
        refine lv_goto hx hb dd_D_takeData_147 rfl ?_
        obtain ⟨S19, gS19, h⟩ := xs_ob h
        refine xr_putZ_D hx hb hts hown hK hw hk 11 (by decide) (hts _ hw_213) rfl rfl (fun _ _ => rfl) gS19 dd_D_takeData_151 (fun H locs hw => ?_)
        exact hret h hw dd_D_takeData_154
  have w_112 : ∀ (t0 : Int32) (S : xs_T) (H : Heap) (locs : List Loc) (ls : Array Slot), xs_I D ad ca ks A s S H locs → lv_has ls 4 [(0, .ref (ad k))] → xf_D_takeData_112 k a1 t0 S = some T → W p l e R s m args below meth c H locs 0 0 Q (F0 m 112 ls [.int t0]) := by
    intro t0 S H locs ls hw hl h
    unfold xf_D_takeData_112 at h
    refine lv_istore_n hx hb dd_D_takeData_112 rfl hl (by decide) rfl (fun ls hl => ?_)
    have hl : lv_has ls 4 [(3, .int t0), (0, .ref (ad k))] := hl
    refine lv_aload_n hx hb dd_D_takeData_113 rfl (lv_at hl 1 rfl) ?_
    refine xr_get_D (v := .int (xs_gI S k 14)) hx hb hts hown hK hw hk 14 (by decide) (hts _ hw_217) rfl dd_D_takeData_114 ?_
    refine lv_if_eq hx hb dd_D_takeData_117 rfl (fun b14 => ?_) (fun b14 => ?_)
    · replace h := xs_p b14 h
      exact w_134 t0 S _ _ _ hw (lv_sub hl [1, 0] rfl) h
    · replace h := xs_n b14 h
      refine lv_iload_n hx hb dd_D_takeData_120 rfl (lv_at hl 0 rfl) ?_
      refine lv_if_eq hx hb dd_D_takeData_121 rfl (fun b20 => ?_) (fun b20 => ?_)
      · replace h := xs_p b20 h
        exact w_134 t0 S _ _ _ hw (lv_sub hl [1, 0] rfl) h
      · replace h := xs_n b20 h
        refine lv_aload_n hx hb dd_D_takeData_124 rfl (lv_at hl 1 rfl) ?_
        refine lv_dup hx hb dd_D_takeData_125 rfl ?_
        refine xr_get_D (v := .int (xs_gI S k 15)) hx hb hts hown hK hw hk 15 (by decide) (hts _ hw_218) rfl dd_D_takeData_126 ?_
        refine lv_iconst (v := 1) hx hb dd_D_takeData_129 rfl ?_
        refine lv_iadd hx hb dd_D_takeData_130 ?_
        obtain ⟨S21, gS21, h⟩ := xs_ob h
        refine xr_putI_D hx hb hts hown hK hw hk 15 (by decide) (hts _ hw_218) rfl rfl (fun _ _ => rfl) gS21 dd_D_takeData_131 (fun H locs hw => ?_)
        exact w_134 t0 S21 _ _ _ hw (lv_sub hl [1, 0] rfl) h
  have w_97 : ∀ (S : xs_T) (H : Heap) (locs : List Loc) (ls : Array Slot), xs_I D ad ca ks A s S H locs → lv_has ls 4 [(0, .ref (ad k)), (1, .ref (ad a1))] → xf_D_takeData_97 k a1 S = some T → W p l e R s m args below meth c H locs 0 0 Q (F0 m 97 ls []) := by
    intro S H locs ls hw hl h
    unfold xf_D_takeData_97 at h
    refine lv_aload_n hx hb dd_D_takeData_97 rfl (lv_at hl 1 rfl) ?_
    obtain ⟨q12, gq12, h⟩ := xs_ob h
    refine xq_i hK hw (va_runV (As := []) (rest := []) ⟨hx, hb, hml, hown, hts⟩ (xc_F_control l D ad ca ks a1 S q12 ha1 gq12 _) ⟨callB_of 0 hts (xs_good hw_561) rfl rfl rfl (hts _ hw_3) (hts _ hw_655) yd_F_control ⟨Nat.le_trans (by decide) hRf, Nat.le_trans (by decide) hRl⟩, (hts _ hw_559), (hts _ hw_560)⟩ ⟨xs_blind, xs_recv_F hK hw ha1, fun U h1 h2 => ⟨rfl, xs_pre hK hw h1 h2⟩⟩ rfl rfl hl.1 rfl (lv_room (Nat.le_of_ble_eq_true rfl)) dd_D_takeData_98 ⟨Nat.zero_le _, Nat.zero_le _⟩) (fun H locs hw => ?_)
    refine lv_bipush (v := 32) hx hb dd_D_takeData_101 rfl ?_
    refine lv_iand hx hb dd_D_takeData_103 ?_
    refine lv_if_eq hx hb dd_D_takeData_104 rfl (fun b13 => ?_) (fun b13 => ?_)
    · replace h := xs_p b13 h
      refine lv_iconst (v := 0) hx hb dd_D_takeData_111 rfl ?_
      exact w_112 0 S _ _ _ hw (lv_sub hl [0] rfl) h
    · replace h := xs_n b13 h
      refine lv_iconst (v := 1) hx hb dd_D_takeData_107 rfl ?_
      refine lv_goto hx hb dd_D_takeData_108 rfl ?_
      exact w_112 1 S _ _ _ hw (lv_sub hl [0] rfl) h
  have w_71 : ∀ (S : xs_T) (H : Heap) (locs : List Loc) (ls : Array Slot), xs_I D ad ca ks A s S H locs → lv_has ls 4 [(0, .ref (ad k)), (1, .ref (ad a1))] → xf_D_takeData_71 k a1 S = some T → W p l e R s m args below meth c H locs 0 0 Q (F0 m 71 ls []) := by
    intro S H locs ls hw hl h
    unfold xf_D_takeData_71 at h
    refine lv_aload_n hx hb dd_D_takeData_71 rfl (lv_at hl 1 rfl) ?_
    obtain ⟨q10, gq10, h⟩ := xs_ob h
    refine xq_i hK hw (va_runV (As := []) (rest := []) ⟨hx, hb, hml, hown, hts⟩ (xc_F_optionCount l D ad ca ks a1 S q10 ha1 gq10 _) ⟨callB_of 0 hts (xs_good hw_557) rfl rfl rfl (hts _ hw_3) (hts _ hw_653) yd_F_optionCount ⟨Nat.le_trans (by decide) hRf, Nat.le_trans (by decide) hRl⟩, (hts _ hw_555), (hts _ hw_556)⟩ ⟨xs_blind, xs_recv_F hK hw ha1, fun U h1 h2 => ⟨rfl, xs_pre hK hw h1 h2⟩⟩ rfl rfl hl.1 rfl (lv_room (Nat.le_of_ble_eq_true rfl)) dd_D_takeData_72 ⟨Nat.zero_le _, Nat.zero_le _⟩) (fun H locs hw => ?_)
    refine lv_iconst (v := 3) hx hb dd_D_takeData_75 rfl ?_
    refine lv_icmp_ne hx hb dd_D_takeData_76 rfl (fun b11 => ?_) (fun b11 => ?_)
    · replace h := xs_n b11 h
      exact w_97 S _ _ _ hw (lv_sub hl [0, 1] rfl) h
    · replace h := xs_p b11 h
      refine lv_aload_n hx hb dd_D_takeData_79 rfl (lv_at hl 1 rfl) ?_
      refine lv_iconst (v := 0) hx hb dd_D_takeData_80 rfl ?_
      obtain ⟨q22, gq22, h⟩ := xs_ob h
      refine xq_i hK hw (va_runV (As := [.int 0]) (rest := []) ⟨hx, hb, hml, hown, hts⟩ (xc_F_option l D ad ca ks a1 0 S q22 ha1 gq22 _) ⟨callB_of 1 hts (xs_good hw_616) rfl rfl rfl (hts _ hw_3) (hts _ hw_654) yd_F_option ⟨Nat.le_trans (by decide) hRf, Nat.le_trans (by decide) hRl⟩, (hts _ hw_614), (hts _ hw_615)⟩ ⟨xs_blind, xs_recv_F hK hw ha1, fun U h1 h2 => ⟨rfl, xs_pre hK hw h1 h2⟩⟩ rfl rfl hl.1 rfl (lv_room (Nat.le_of_ble_eq_true rfl)) dd_D_takeData_81 ⟨Nat.zero_le _, Nat.zero_le _⟩) (fun H locs hw => ?_)
      refine lv_iconst (v := 2) hx hb dd_D_takeData_84 rfl ?_
      refine lv_icmp_ne hx hb dd_D_takeData_85 rfl (fun b23 => ?_) (fun b23 => ?_)
      · replace h := xs_n b23 h
        exact w_97 S _ _ _ hw (lv_sub hl [0, 1] rfl) h
      · replace h := xs_p b23 h
        refine lv_aload_n hx hb dd_D_takeData_88 rfl (lv_at hl 0 rfl) ?_
        refine lv_aload_n hx hb dd_D_takeData_89 rfl (lv_at hl 1 rfl) ?_
        refine lv_iconst (v := 2) hx hb dd_D_takeData_90 rfl ?_
        obtain ⟨q24, gq24, h⟩ := xs_ob h
        refine xq_i hK hw (va_runV (As := [.int 2]) (rest := [.ref (ad k)]) ⟨hx, hb, hml, hown, hts⟩ (xc_F_option l D ad ca ks a1 2 S q24 ha1 gq24 _) ⟨callB_of 1 hts (xs_good hw_616) rfl rfl rfl (hts _ hw_3) (hts _ hw_654) yd_F_option ⟨Nat.le_trans (by decide) hRf, Nat.le_trans (by decide) hRl⟩, (hts _ hw_614), (hts _ hw_615)⟩ ⟨xs_blind, xs_recv_F hK hw ha1, fun U h1 h2 => ⟨rfl, xs_pre hK hw h1 h2⟩⟩ rfl rfl hl.1 rfl (lv_room (Nat.le_of_ble_eq_true rfl)) dd_D_takeData_91 ⟨Nat.zero_le _, Nat.zero_le _⟩) (fun H locs hw => ?_)
        obtain ⟨S25, gS25, h⟩ := xs_ob h
        refine xr_putI_D hx hb hts hown hK hw hk 17 (by decide) (hts _ hw_222) rfl rfl (fun _ _ => rfl) gS25 dd_D_takeData_94 (fun H locs hw => ?_)
        exact w_97 S25 _ _ _ hw (lv_sub hl [0, 1] rfl) h
  unfold xf_D_takeData at h
  refine lv_aload_n hx hb dd_D_takeData_0 rfl (lv_at hl 0 rfl) ?_
  refine xr_get_D (v := .int (xs_gI S k 10)) hx hb hts hown hK hw hk 10 (by decide) (hts _ hw_212) rfl dd_D_takeData_1 ?_
  refine lv_iconst (v := 1) hx hb dd_D_takeData_4 rfl ?_
  refine lv_iadd hx hb dd_D_takeData_5 ?_
  refine lv_aload_n hx hb dd_D_takeData_6 rfl (lv_at hl 1 rfl) ?_
  obtain ⟨q1, gq1, h⟩ := xs_ob h
  refine xq_i hK hw (va_runV (As := []) (rest := [.int ((xs_gI S k 10) + 1)]) ⟨hx, hb, hml, hown, hts⟩ (xc_F_countEnd l D ad ca ks a1 S q1 ha1 gq1 _) ⟨callB_of 0 hts (xs_good hw_581) rfl rfl rfl (hts _ hw_3) (hts _ hw_646) yd_F_countEnd ⟨Nat.le_trans (by decide) hRf, Nat.le_trans (by decide) hRl⟩, (hts _ hw_579), (hts _ hw_580)⟩ ⟨xs_blind, xs_recv_F hK hw ha1, fun U h1 h2 => ⟨rfl, xs_pre hK hw h1 h2⟩⟩ rfl rfl hl.1 rfl (lv_room (Nat.le_of_ble_eq_true rfl)) dd_D_takeData_7 ⟨Nat.zero_le _, Nat.zero_le _⟩) (fun H locs hw => ?_)
  obtain ⟨q2, gq2, h⟩ := xs_ob h
  refine xq_i hK hw (va_runSN (As := [.int ((xs_gI S k 10) + 1), .int q1]) (rest := []) ⟨hx, hb, hml, hown, hts⟩ (xc_W_countFrom l D ad ca ks ((xs_gI S k 10) + 1) q1 S q2 gq2 _) ⟨va_cnB 2 hts (xs_good hw_584) rfl rfl rfl (hK.2.2.2.1 _ hn_647 rfl) (hts _ hw_1) yd_W_countFrom ⟨Nat.le_trans (by decide) hRf, Nat.le_trans (by decide) hRl⟩, (hts _ hw_583), trivial⟩ ⟨xs_blind, fun U h1 h2 => ⟨rfl, xs_pre hK hw h1 h2⟩⟩ rfl rfl hl.1 rfl (lv_room (Nat.le_of_ble_eq_true rfl)) dd_D_takeData_10 ⟨Nat.zero_le _, Nat.zero_le _⟩) (fun H locs hw => ?_)
  refine lv_istore_n hx hb dd_D_takeData_13 rfl hl (by decide) rfl (fun ls hl => ?_)
  have hl : lv_has ls 4 [(2, .int q2), (0, .ref (ad k)), (1, .ref (ad a1))] := hl
  refine lv_aload_n hx hb dd_D_takeData_14 rfl (lv_at hl 2 rfl) ?_
  obtain ⟨q3, gq3, h⟩ := xs_ob h
  refine xq_i hK hw (va_runV (As := []) (rest := []) ⟨hx, hb, hml, hown, hts⟩ (xc_F_address l D ad ca ks a1 S q3 ha1 gq3 _) ⟨callB_of 0 hts (xs_good hw_569) rfl rfl rfl (hts _ hw_3) (hts _ hw_648) yd_F_address ⟨Nat.le_trans (by decide) hRf, Nat.le_trans (by decide) hRl⟩, (hts _ hw_567), (hts _ hw_568)⟩ ⟨xs_blind, xs_recv_F hK hw ha1, fun U h1 h2 => ⟨rfl, xs_pre hK hw h1 h2⟩⟩ rfl rfl hl.1 rfl (lv_room (Nat.le_of_ble_eq_true rfl)) dd_D_takeData_15 ⟨Nat.zero_le _, Nat.zero_le _⟩) (fun H locs hw => ?_)
  refine lv_aload_n hx hb dd_D_takeData_18 rfl (lv_at hl 1 rfl) ?_
  refine xr_get_D (v := .ref (ad (k + 1))) hx hb hts hown hK hw hk 2 (by decide) (hts _ hw_200) rfl dd_D_takeData_19 ?_
  refine xr_getN_S (v := .int (xs_gI S (k + 1) 4)) hx hb hts hown hK hw (xs_ok_D_session hK.1 hk) 4 (by decide) (va_Nw.use rfl (hK.2.2.2.1 _ hn_169 rfl)) rfl dd_D_takeData_22 ?_
  refine lv_icmp_ne hx hb dd_D_takeData_25 rfl (fun b4 => ?_) (fun b4 => ?_)
  · replace h := xs_n b4 h
    exact hret h hw dd_D_takeData_41
  · replace h := xs_p b4 h
    refine lv_aload_n hx hb dd_D_takeData_28 rfl (lv_at hl 1 rfl) ?_
    refine xr_get_D (v := .ref (ad (k + 1))) hx hb hts hown hK hw hk 2 (by decide) (hts _ hw_200) rfl dd_D_takeData_29 ?_
    refine lv_aload_n hx hb dd_D_takeData_32 rfl (lv_at hl 2 rfl) ?_
    refine lv_iconst (v := 1) hx hb dd_D_takeData_33 rfl ?_
    refine lv_iload_n hx hb dd_D_takeData_34 rfl (lv_at hl 0 rfl) ?_
    obtain ⟨q5, gq5, h⟩ := xs_ob h
    refine xq_i hK hw (va_runV (As := [.ref (ad a1), .int 1, .int q2]) (rest := []) ⟨hx, hb, hml, hown, hts⟩ (xc_S_isCodeRight l D ad ca ks (k + 1) a1 1 q2 S q5.1 q5.2 (xs_ok_D_session hK.1 hk) ha1 gq5 _) ⟨callB_of 3 hts (xs_good hw_588) rfl rfl rfl (hts _ hw_9) (hts _ hw_649) yd_S_isCodeRight ⟨Nat.le_trans (by decide) hRf, Nat.le_trans (by decide) hRl⟩, (hts _ hw_586), (hts _ hw_587)⟩ ⟨xs_blind, xs_recv_S hK hw (xs_ok_D_session hK.1 hk), fun U h1 h2 => ⟨rfl, xs_pre hK hw h1 h2⟩⟩ rfl rfl hl.1 rfl (lv_room (Nat.le_of_ble_eq_true rfl)) dd_D_takeData_35 ⟨Nat.zero_le _, Nat.zero_le _⟩) (fun H locs hw => ?_)
    refine lv_if_ne hx hb dd_D_takeData_38 rfl (fun b6 => ?_) (fun b6 => ?_)
    · replace h := xs_n b6 h
      refine lv_aload_n hx hb dd_D_takeData_42 rfl (lv_at hl 1 rfl) ?_
      refine lv_iload_n hx hb dd_D_takeData_43 rfl (lv_at hl 0 rfl) ?_
      obtain ⟨S7, gS7, h⟩ := xs_ob h
      refine xr_putI_D hx hb hts hown hK hw hk 10 (by decide) (hts _ hw_212) rfl rfl (fun _ _ => rfl) gS7 dd_D_takeData_44 (fun H locs hw => ?_)
      refine lv_aload_n hx hb dd_D_takeData_47 rfl (lv_at hl 2 rfl) ?_
      obtain ⟨q8, gq8, h⟩ := xs_ob h
      refine xq_i hK hw (va_runV (As := []) (rest := []) ⟨hx, hb, hml, hown, hts⟩ (xc_F_payloadBytes l D ad ca ks a1 S7 q8 ha1 gq8 _) ⟨callB_of 0 hts (xs_good hw_592) rfl rfl rfl (hts _ hw_3) (hts _ hw_650) yd_F_payloadBytes ⟨Nat.le_trans (by decide) hRf, Nat.le_trans (by decide) hRl⟩, (hts _ hw_590), (hts _ hw_591)⟩ ⟨xs_blind, xs_recv_F hK hw ha1, fun U h1 h2 => ⟨rfl, xs_pre hK hw h1 h2⟩⟩ rfl rfl hl.1 rfl (lv_room (Nat.le_of_ble_eq_true rfl)) dd_D_takeData_48 ⟨Nat.zero_le _, Nat.zero_le _⟩) (fun H locs hw => ?_)
      refine lv_if_le hx hb dd_D_takeData_51 rfl (fun b9 => ?_) (fun b9 => ?_)
      · replace h := xs_p b9 h
        exact w_71 S7 _ _ _ hw (lv_sub hl [1, 2] rfl) h
      · replace h := xs_n b9 h
        refine lv_aload_n hx hb dd_D_takeData_54 rfl (lv_at hl 1 rfl) ?_
        refine xr_get_D (v := .ref (ad (k + 12))) hx hb hts hown hK hw hk 3 (by decide) (hts _ hw_201) rfl dd_D_takeData_55 ?_
        refine lv_aload_n hx hb dd_D_takeData_58 rfl (lv_at hl 1 rfl) ?_
        refine xr_get_D (v := .ref (ad (k + 1))) hx hb hts hown hK hw hk 2 (by decide) (hts _ hw_200) rfl dd_D_takeData_59 ?_
        refine lv_aload_n hx hb dd_D_takeData_62 rfl (lv_at hl 2 rfl) ?_
        refine lv_iconst (v := 1) hx hb dd_D_takeData_63 rfl ?_
        refine lv_iload_n hx hb dd_D_takeData_64 rfl (lv_at hl 0 rfl) ?_
        obtain ⟨q26, gq26, h⟩ := xs_ob h
        refine xq_l hK hw (va_runV (As := [.ref (ad a1), .int 1, .int q2]) (rest := [.ref (ad (k + 12))]) ⟨hx, hb, hml, hown, hts⟩ (xc_S_readPayload l D ad ca ks (k + 1) a1 1 q2 S7 q26.1 q26.2 (xs_ok_D_session hK.1 hk) ha1 gq26 _) ⟨callB_of 3 hts (xs_good hw_601) rfl rfl rfl (hts _ hw_9) (hts _ hw_651) yd_S_readPayload ⟨Nat.le_trans (by decide) hRf, Nat.le_trans (by decide) hRl⟩, (hts _ hw_599), (hts _ hw_600)⟩ ⟨xs_blind, xs_recv_S hK hw (xs_ok_D_session hK.1 hk), fun U h1 h2 => ⟨rfl, xs_pre hK hw h1 h2⟩⟩ rfl rfl hl.1 rfl (lv_room (Nat.le_of_ble_eq_true rfl)) dd_D_takeData_65 ⟨Nat.zero_le _, Nat.zero_le _⟩) (fun H locs hw => ?_)
        obtain ⟨q27, gq27, h⟩ := xs_ob h
        refine xq_v hK hw (va_runV (As := [.long q26.1]) (rest := []) ⟨hx, hb, hml, hown, hts⟩ (xc_I_add l D ad ca ks (k + 12) q26.1 q26.2 q27 (xs_ok_D_inbox hK.1 hk) gq27 _) ⟨callB_of 1 hts (xs_good hw_611) rfl rfl rfl (hts _ hw_10) (hts _ hw_652) yd_I_add ⟨Nat.le_trans (by decide) hRf, Nat.le_trans (by decide) hRl⟩, (hts _ hw_609), (hts _ hw_610)⟩ ⟨xs_blind, xs_recv_I hK hw (xs_ok_D_inbox hK.1 hk), fun U h1 h2 => ⟨rfl, xs_pre hK hw h1 h2⟩⟩ rfl rfl hl.1 rfl (lv_room (Nat.le_of_ble_eq_true rfl)) dd_D_takeData_68 ⟨Nat.zero_le _, Nat.zero_le _⟩) (fun H locs hw => ?_)
        exact w_71 q27 _ _ _ hw (lv_sub hl [1, 2] rfl) h
    · replace h := xs_p b6 h
      exact hret h hw dd_D_takeData_41
set_option maxHeartbeats 4000000 in
set_option maxRecDepth 100000 in
theorem xc_D_take (l : Launch) (D : va_G) (ad : Nat → Nat) (ca : Nat → ClassId) (ks : List Nat) (k : Nat) (a1 : Nat) (n2 : Int32) (S : xs_T) (T : xs_T) (hk : xs_is ks k xs_cD) (ha1 : xs_is ks a1 xs_cF) (h : xf_D_take k a1 n2 S = some T) (sz : Nat) : Met l yy_D_take ws_D_take { frames := 6, cells := 0, slots := 0, locals := 138 } (va_Pc [.ref (ad k), .ref (ad a1), .int n2] (xs_Pre D ad ca ks S sz)) (va_Qv (fun _ : Unit => True) (fun _ t => va_P D xs_cl (xs_w ad ca ks T) t.heap) (xs_A ad ks sz)) 0 0 (xs_A ad ks sz) := by
  refine xm_v (by decide) (Nat.le_of_ble_eq_true rfl) ?_
  intro p e s m args below meth c R A Q ls hx hb hml hown hts hRf hRl hK hw hl hret
  have hl : lv_has ls 3 [(0, .ref (ad k)), (1, .ref (ad a1)), (2, .int n2)] := hl
  have w_49 : ∀ (S : xs_T) (H : Heap) (locs : List Loc) (ls : Array Slot), xs_I D ad ca ks A s S H locs → lv_has ls 3 [(0, .ref (ad k)), (1, .ref (ad a1))] → xf_D_take_49 k a1 n2 S = some T → W p l e R s m args below meth c H locs 0 0 Q (F0 m 49 ls []) := by
    intro S H locs ls hw hl h
    unfold xf_D_take_49 at h
    refine lv_aload_n hx hb dd_D_take_49 rfl (lv_at hl 0 rfl) ?_
    refine xr_get_D (v := .int (xs_gI S k 6)) hx hb hts hown hK hw hk 6 (by decide) (hts _ hw_205) rfl dd_D_take_50 ?_
    refine lv_iconst (v := 2) hx hb dd_D_take_53 rfl ?_
    refine lv_icmp_ne hx hb dd_D_take_54 rfl (fun b5 => ?_) (fun b5 => ?_)
    · replace h := xs_n b5 h
      exact hret h hw dd_D_take_80
    · replace h := xs_p b5 h
      refine lv_aload_n hx hb dd_D_take_57 rfl (lv_at hl 1 rfl) ?_
      obtain ⟨q6, gq6, h⟩ := xs_ob h
      refine xq_i hK hw (va_runV (As := []) (rest := []) ⟨hx, hb, hml, hown, hts⟩ (xc_F_hasDataForm l D ad ca ks a1 S q6 ha1 gq6 _) ⟨callB_of 0 hts (xs_good hw_553) rfl rfl rfl (hts _ hw_3) (hts _ hw_641) yd_F_hasDataForm ⟨Nat.le_trans (by decide) hRf, Nat.le_trans (by decide) hRl⟩, (hts _ hw_551), (hts _ hw_552)⟩ ⟨xs_blind, xs_recv_F hK hw ha1, fun U h1 h2 => ⟨rfl, xs_pre hK hw h1 h2⟩⟩ rfl rfl hl.1 rfl (lv_room (Nat.le_of_ble_eq_true rfl)) dd_D_take_58 ⟨Nat.zero_le _, Nat.zero_le _⟩) (fun H locs hw => ?_)
      refine lv_if_eq hx hb dd_D_take_61 rfl (fun b7 => ?_) (fun b7 => ?_)
      · replace h := xs_p b7 h
        exact hret h hw dd_D_take_80
      · replace h := xs_n b7 h
        refine lv_aload_n hx hb dd_D_take_64 rfl (lv_at hl 1 rfl) ?_
        refine xr_getN_F (v := .ref (ad (a1 + 1))) hx hb hts hown hK hw ha1 0 (by decide) (va_Nw.use rfl (hK.2.2.2.1 _ hn_39 rfl)) rfl dd_D_take_65 ?_
        refine lv_iconst (v := 0) hx hb dd_D_take_68 rfl ?_
        obtain ⟨v8, gv8, h⟩ := xs_ob h
        refine xr_iald hx hb hK hw (xs_ok_F_bytes hK.1 ha1) gv8 dd_D_take_69 ?_
        refine lv_bipush (v := 96) hx hb dd_D_take_70 rfl ?_
        refine lv_icmp_ne hx hb dd_D_take_72 rfl (fun b9 => ?_) (fun b9 => ?_)
        · replace h := xs_n b9 h
          exact hret h hw dd_D_take_80
        · replace h := xs_p b9 h
          refine lv_aload_n hx hb dd_D_take_75 rfl (lv_at hl 0 rfl) ?_
          refine lv_aload_n hx hb dd_D_take_76 rfl (lv_at hl 1 rfl) ?_
          obtain ⟨q10, gq10, h⟩ := xs_ob h
          refine xq_v hK hw (va_runV (As := [.ref (ad a1)]) (rest := []) ⟨hx, hb, hml, hown, hts⟩ (xc_D_takeData l D ad ca ks k a1 S q10 hk ha1 gq10 _) ⟨callB_of 1 hts (xs_good hw_645) rfl rfl rfl (hts _ hw_8) (hts _ hw_642) yd_D_takeData ⟨Nat.le_trans (by decide) hRf, Nat.le_trans (by decide) hRl⟩, (hts _ hw_644), (hts _ hs_8)⟩ ⟨xs_blind, xs_recv_D hK hw hk, fun U h1 h2 => ⟨rfl, xs_pre hK hw h1 h2⟩⟩ rfl rfl hl.1 rfl (lv_room (Nat.le_of_ble_eq_true rfl)) dd_D_take_77 ⟨Nat.zero_le _, Nat.zero_le _⟩) (fun H locs hw => ?_)
          exact hret h hw dd_D_take_80
  unfold xf_D_take at h
  refine lv_aload_n hx hb dd_D_take_0 rfl (lv_at hl 0 rfl) ?_
  refine xr_get_D (v := .int (xs_gI S k 11)) hx hb hts hown hK hw hk 11 (by decide) (hts _ hw_213) rfl dd_D_take_1 ?_
  refine lv_if_eq hx hb dd_D_take_4 rfl (fun b1 => ?_) (fun b1 => ?_)
  · replace h := xs_p b1 h
    exact hret h hw dd_D_take_25
  · replace h := xs_n b1 h
    refine lv_iload_n hx hb dd_D_take_7 rfl (lv_at hl 2 rfl) ?_
    refine lv_aload_n hx hb dd_D_take_8 rfl (lv_at hl 0 rfl) ?_
    refine xr_get_D (v := .int (xs_gI S k 12)) hx hb hts hown hK hw hk 12 (by decide) (hts _ hw_215) rfl dd_D_take_9 ?_
    refine lv_icmp_le hx hb dd_D_take_12 rfl (fun b2 => ?_) (fun b2 => ?_)
    · replace h := xs_p b2 h
      exact hret h hw dd_D_take_25
    · replace h := xs_n b2 h
      refine lv_iload_n hx hb dd_D_take_15 rfl (lv_at hl 2 rfl) ?_
      refine lv_aload_n hx hb dd_D_take_16 rfl (lv_at hl 0 rfl) ?_
      refine xr_get_D (v := .int (xs_gI S k 12)) hx hb hts hown hK hw hk 12 (by decide) (hts _ hw_215) rfl dd_D_take_17 ?_
      refine lv_iconst (v := 3) hx hb dd_D_take_20 rfl ?_
      refine lv_iadd hx hb dd_D_take_21 ?_
      refine lv_icmp_lt hx hb dd_D_take_22 rfl (fun b3 => ?_) (fun b3 => ?_)
      · replace h := xs_p b3 h
        refine lv_aload_n hx hb dd_D_take_26 rfl (lv_at hl 0 rfl) ?_
        refine xr_get_D (v := .int (xs_gI S k 6)) hx hb hts hown hK hw hk 6 (by decide) (hts _ hw_205) rfl dd_D_take_27 ?_
        refine lv_iconst (v := 1) hx hb dd_D_take_30 rfl ?_
        refine lv_icmp_ne hx hb dd_D_take_31 rfl (fun b4 => ?_) (fun b4 => ?_)
        · replace h := xs_n b4 h
          exact w_49 S _ _ _ hw (lv_sub hl [0, 1] rfl) h
        · replace h := xs_p b4 h
          refine lv_aload_n hx hb dd_D_take_34 rfl (lv_at hl 1 rfl) ?_
          obtain ⟨q11, gq11, h⟩ := xs_ob h
          refine xq_i hK hw (va_runV (As := []) (rest := []) ⟨hx, hb, hml, hown, hts⟩ (xc_F_hasAcceptForm l D ad ca ks a1 S q11 ha1 gq11 _) ⟨callB_of 0 hts (xs_good hw_632) rfl rfl rfl (hts _ hw_3) (hts _ hw_629) yd_F_hasAcceptForm ⟨Nat.le_trans (by decide) hRf, Nat.le_trans (by decide) hRl⟩, (hts _ hw_630), (hts _ hw_631)⟩ ⟨xs_blind, xs_recv_F hK hw ha1, fun U h1 h2 => ⟨rfl, xs_pre hK hw h1 h2⟩⟩ rfl rfl hl.1 rfl (lv_room (Nat.le_of_ble_eq_true rfl)) dd_D_take_35 ⟨Nat.zero_le _, Nat.zero_le _⟩) (fun H locs hw => ?_)
          refine lv_if_eq hx hb dd_D_take_38 rfl (fun b12 => ?_) (fun b12 => ?_)
          · replace h := xs_p b12 h
            exact w_49 S _ _ _ hw (lv_sub hl [0, 1] rfl) h
          · replace h := xs_n b12 h
            refine lv_aload_n hx hb dd_D_take_41 rfl (lv_at hl 0 rfl) ?_
            refine lv_aload_n hx hb dd_D_take_42 rfl (lv_at hl 1 rfl) ?_
            obtain ⟨q13, gq13, h⟩ := xs_ob h
            refine xq_v hK hw (va_runV (As := [.ref (ad a1)]) (rest := []) ⟨hx, hb, hml, hown, hts⟩ (xc_D_takeAccept l D ad ca ks k a1 S q13 hk ha1 gq13 _) ⟨callB_of 1 hts (xs_good hw_636) rfl rfl rfl (hts _ hw_8) (hts _ hw_633) yd_D_takeAccept ⟨Nat.le_trans (by decide) hRf, Nat.le_trans (by decide) hRl⟩, (hts _ hw_635), (hts _ hs_7)⟩ ⟨xs_blind, xs_recv_D hK hw hk, fun U h1 h2 => ⟨rfl, xs_pre hK hw h1 h2⟩⟩ rfl rfl hl.1 rfl (lv_room (Nat.le_of_ble_eq_true rfl)) dd_D_take_43 ⟨Nat.zero_le _, Nat.zero_le _⟩) (fun H locs hw => ?_)
            refine lv_goto hx hb dd_D_take_46 rfl ?_
            exact hret h hw dd_D_take_80
      · replace h := xs_n b3 h
        exact hret h hw dd_D_take_25
set_option maxHeartbeats 4000000 in
set_option maxRecDepth 100000 in
theorem xc_W_reach (l : Launch) (D : va_G) (ad : Nat → Nat) (ca : Nat → ClassId) (ks : List Nat) (hf : ks = xs_all) (k : Nat) (n1 : Int32) (S : xs_T) (r : Int32) (T : xs_T) (hk : xs_is ks k xs_cW) (h : xf_W_reach k n1 S = some (r, T)) (sz : Nat) : Met l yy_W_reach ws_W_reach { frames := 7, cells := 0, slots := 0, locals := 160 } (va_Pc [.ref (ad k), .int n1] (xs_Pre D ad ca ks S sz)) (va_Qi (fun r1 (_ : Unit) => r1 = r) (fun _ t => va_P D xs_cl (xs_w ad ca ks T) t.heap) (xs_A ad ks sz)) 0 0 (xs_A ad ks sz) := by
  refine xm_z (by decide) (Nat.le_of_ble_eq_true rfl) ?_
  intro p e s m args below meth c R A Q ls hx hb hml hown hts hRf hRl hK hw hl hret
  have hl : lv_has ls 3 [(0, .ref (ad k)), (1, .int n1)] := hl
  unfold xf_W_reach at h
  refine lv_aload_n hx hb dd_W_reach_0 rfl (lv_at hl 0 rfl) ?_
  refine xr_get_W (v := .ref (ad (k + 1))) hx hb hts hown hK hw hk 0 (by decide) (hts _ hw_347) rfl dd_W_reach_1 ?_
  refine lv_iload_n hx hb dd_W_reach_4 rfl (lv_at hl 1 rfl) ?_
  obtain ⟨q1, gq1, h⟩ := xs_ob h
  refine xq_i hK hw (va_runV (As := [.int n1]) (rest := []) ⟨hx, hb, hml, hown, hts⟩ (xc_A_holds l D ad ca ks (k + 1) n1 S q1 (xs_ok_W_air hK.1 hk) gq1 _) ⟨callB_of 1 hts (xs_good hw_523) rfl rfl rfl (hts _ hw_2) (hts _ hw_520) yd_A_holds ⟨Nat.le_trans (by decide) hRf, Nat.le_trans (by decide) hRl⟩, (hts _ hw_521), (hts _ hw_522)⟩ ⟨xs_blind, xs_recv_A hK hw (xs_ok_W_air hK.1 hk), fun U h1 h2 => ⟨rfl, xs_pre hK hw h1 h2⟩⟩ rfl rfl hl.1 rfl (lv_room (Nat.le_of_ble_eq_true rfl)) dd_W_reach_5 ⟨Nat.zero_le _, Nat.zero_le _⟩) (fun H locs hw => ?_)
  refine lv_if_eq hx hb dd_W_reach_8 rfl (fun b2 => ?_) (fun b2 => ?_)
  · replace h := xs_p b2 h
    refine lv_iconst (v := 0) hx hb dd_W_reach_27 rfl ?_
    exact hret h hw dd_W_reach_28
  · replace h := xs_n b2 h
    refine lv_aload_n hx hb dd_W_reach_11 rfl (lv_at hl 0 rfl) ?_
    refine xr_get_W (v := .ref (ad (k + 1))) hx hb hts hown hK hw hk 0 (by decide) (hts _ hw_347) rfl dd_W_reach_12 ?_
    refine xr_getN_A (v := .ref (ad (k + 2))) hx hb hts hown hK hw (xs_ok_W_air hK.1 hk) 0 (by decide) (va_Nw.use rfl (hK.2.2.2.1 _ hn_59 rfl)) rfl dd_W_reach_15 ?_
    refine lv_iload_n hx hb dd_W_reach_18 rfl (lv_at hl 1 rfl) ?_
    obtain ⟨u3, gu3, h⟩ := xs_ob h
    have ku3 := xs_okU hf (by decide) gu3
    refine xr_aald_F hx hb hK hw (xs_ok_A_underWay hK.1 (xs_ok_W_air hK.1 hk)) gu3 dd_W_reach_19 ?_
    refine xr_getN_F (v := .int (xs_gI S u3 2)) hx hb hts hown hK hw ku3 2 (by decide) (va_Nw.use rfl (hK.2.2.2.1 _ hn_49 rfl)) rfl dd_W_reach_20 ?_
    refine lv_iconst (v := 3) hx hb dd_W_reach_23 rfl ?_
    refine lv_icmp_ne hx hb dd_W_reach_24 rfl (fun b4 => ?_) (fun b4 => ?_)
    · replace h := xs_n b4 h
      refine lv_aload_n hx hb dd_W_reach_29 rfl (lv_at hl 0 rfl) ?_
      refine xr_get_W (v := .ref (ad (k + 1))) hx hb hts hown hK hw hk 0 (by decide) (hts _ hw_347) rfl dd_W_reach_30 ?_
      refine lv_iload_n hx hb dd_W_reach_33 rfl (lv_at hl 1 rfl) ?_
      obtain ⟨q5, gq5, h⟩ := xs_ob h
      refine xq_a hK hw (va_runV (As := [.int n1]) (rest := []) ⟨hx, hb, hml, hown, hts⟩ (xc_A_takeOut l D ad ca ks hf (k + 1) n1 S q5.1 q5.2 (xs_ok_W_air hK.1 hk) gq5 _) ⟨callB_of 1 hts (xs_good hw_624) rfl rfl rfl (hts _ hw_2) (hts _ hw_621) yd_A_takeOut ⟨Nat.le_trans (by decide) hRf, Nat.le_trans (by decide) hRl⟩, (hts _ hw_622), (hts _ hw_623)⟩ ⟨xs_blind, xs_recv_A hK hw (xs_ok_W_air hK.1 hk), fun U h1 h2 => ⟨rfl, xs_pre hK hw h1 h2⟩⟩ rfl rfl hl.1 rfl (lv_room (Nat.le_of_ble_eq_true rfl)) dd_W_reach_34 ⟨Nat.zero_le _, Nat.zero_le _⟩) (fun H locs hw => ?_)
      obtain ⟨u6, gu6, h⟩ := xs_ob h
      have ku6 := xs_okC hf (by decide) gu6
      refine lv_namR gu6 ?_
      refine lv_astore_n hx hb dd_W_reach_37 rfl hl (by decide) rfl (fun ls hl => ?_)
      have hl : lv_has ls 3 [(2, .ref (ad u6)), (0, .ref (ad k)), (1, .int n1)] := hl
      refine lv_aload_n hx hb dd_W_reach_38 rfl (lv_at hl 1 rfl) ?_
      refine xr_get_W (v := .ref (ad (k + 44))) hx hb hts hown hK hw hk 1 (by decide) (hts _ hw_348) rfl dd_W_reach_39 ?_
      refine lv_aload_n hx hb dd_W_reach_42 rfl (lv_at hl 0 rfl) ?_
      refine xr_getN_F (v := .int (xs_gI q5.2 u6 2)) hx hb hts hown hK hw ku6 2 (by decide) (va_Nw.use rfl (hK.2.2.2.1 _ hn_49 rfl)) rfl dd_W_reach_43 ?_
      obtain ⟨u7, gu7, h⟩ := xs_ob h
      have ku7 := xs_okU hf (by decide) gu7
      refine xr_aald_D hx hb hK hw (xs_ok_W_devices hK.1 hk) gu7 dd_W_reach_46 ?_
      refine lv_aload_n hx hb dd_W_reach_47 rfl (lv_at hl 0 rfl) ?_
      refine lv_aload_n hx hb dd_W_reach_48 rfl (lv_at hl 1 rfl) ?_
      refine xr_get_W (v := .int (xs_gI q5.2 k 3)) hx hb hts hown hK hw hk 3 (by decide) (hts _ hw_350) rfl dd_W_reach_49 ?_
      obtain ⟨q8, gq8, h⟩ := xs_ob h
      refine xq_v hK hw (va_runV (As := [.ref (ad u6), .int (xs_gI q5.2 k 3)]) (rest := []) ⟨hx, hb, hml, hown, hts⟩ (xc_D_take l D ad ca ks u7 u6 (xs_gI q5.2 k 3) q5.2 q8 ku7 ku6 gq8 _) ⟨callB_of 2 hts (xs_good hw_628) rfl rfl rfl (hts _ hw_8) (hts _ hw_625) yd_D_take ⟨Nat.le_trans (by decide) hRf, Nat.le_trans (by decide) hRl⟩, (hts _ hw_626), (hts _ hw_627)⟩ ⟨xs_blind, xs_recv_D hK hw ku7, fun U h1 h2 => ⟨rfl, xs_pre hK hw h1 h2⟩⟩ rfl rfl hl.1 rfl (lv_room (Nat.le_of_ble_eq_true rfl)) dd_W_reach_52 ⟨Nat.zero_le _, Nat.zero_le _⟩) (fun H locs hw => ?_)
      refine lv_iconst (v := 1) hx hb dd_W_reach_55 rfl ?_
      exact hret h hw dd_W_reach_56
    · replace h := xs_p b4 h
      refine lv_iconst (v := 0) hx hb dd_W_reach_27 rfl ?_
      exact hret h hw dd_W_reach_28
set_option maxHeartbeats 4000000 in
set_option maxRecDepth 100000 in
theorem xc_W_lose (l : Launch) (D : va_G) (ad : Nat → Nat) (ca : Nat → ClassId) (ks : List Nat) (hf : ks = xs_all) (k : Nat) (n1 : Int32) (S : xs_T) (r : Int32) (T : xs_T) (hk : xs_is ks k xs_cW) (h : xf_W_lose k n1 S = some (r, T)) (sz : Nat) : Met l yy_W_lose ws_W_lose { frames := 1, cells := 0, slots := 0, locals := 23 } (va_Pc [.ref (ad k), .int n1] (xs_Pre D ad ca ks S sz)) (va_Qi (fun r1 (_ : Unit) => r1 = r) (fun _ t => va_P D xs_cl (xs_w ad ca ks T) t.heap) (xs_A ad ks sz)) 0 0 (xs_A ad ks sz) := by
  refine xm_z (by decide) (Nat.le_of_ble_eq_true rfl) ?_
  intro p e s m args below meth c R A Q ls hx hb hml hown hts hRf hRl hK hw hl hret
  have hl : lv_has ls 2 [(0, .ref (ad k)), (1, .int n1)] := hl
  unfold xf_W_lose at h
  refine lv_aload_n hx hb dd_W_lose_0 rfl (lv_at hl 0 rfl) ?_
  refine xr_get_W (v := .ref (ad (k + 1))) hx hb hts hown hK hw hk 0 (by decide) (hts _ hw_347) rfl dd_W_lose_1 ?_
  refine lv_iload_n hx hb dd_W_lose_4 rfl (lv_at hl 1 rfl) ?_
  obtain ⟨q1, gq1, h⟩ := xs_ob h
  refine xq_i hK hw (va_runV (As := [.int n1]) (rest := []) ⟨hx, hb, hml, hown, hts⟩ (xc_A_holds l D ad ca ks (k + 1) n1 S q1 (xs_ok_W_air hK.1 hk) gq1 _) ⟨callB_of 1 hts (xs_good hw_523) rfl rfl rfl (hts _ hw_2) (hts _ hw_520) yd_A_holds ⟨Nat.le_trans (by decide) hRf, Nat.le_trans (by decide) hRl⟩, (hts _ hw_521), (hts _ hw_522)⟩ ⟨xs_blind, xs_recv_A hK hw (xs_ok_W_air hK.1 hk), fun U h1 h2 => ⟨rfl, xs_pre hK hw h1 h2⟩⟩ rfl rfl hl.1 rfl (lv_room (Nat.le_of_ble_eq_true rfl)) dd_W_lose_5 ⟨Nat.zero_le _, Nat.zero_le _⟩) (fun H locs hw => ?_)
  refine lv_if_ne hx hb dd_W_lose_8 rfl (fun b2 => ?_) (fun b2 => ?_)
  · replace h := xs_n b2 h
    refine lv_aload_n hx hb dd_W_lose_13 rfl (lv_at hl 0 rfl) ?_
    refine xr_get_W (v := .ref (ad (k + 1))) hx hb hts hown hK hw hk 0 (by decide) (hts _ hw_347) rfl dd_W_lose_14 ?_
    refine lv_iload_n hx hb dd_W_lose_17 rfl (lv_at hl 1 rfl) ?_
    obtain ⟨q3, gq3, h⟩ := xs_ob h
    refine xq_a hK hw (va_runV (As := [.int n1]) (rest := []) ⟨hx, hb, hml, hown, hts⟩ (xc_A_takeOut l D ad ca ks hf (k + 1) n1 S q3.1 q3.2 (xs_ok_W_air hK.1 hk) gq3 _) ⟨callB_of 1 hts (xs_good hw_624) rfl rfl rfl (hts _ hw_2) (hts _ hw_621) yd_A_takeOut ⟨Nat.le_trans (by decide) hRf, Nat.le_trans (by decide) hRl⟩, (hts _ hw_622), (hts _ hw_623)⟩ ⟨xs_blind, xs_recv_A hK hw (xs_ok_W_air hK.1 hk), fun U h1 h2 => ⟨rfl, xs_pre hK hw h1 h2⟩⟩ rfl rfl hl.1 rfl (lv_room (Nat.le_of_ble_eq_true rfl)) dd_W_lose_18 ⟨Nat.zero_le _, Nat.zero_le _⟩) (fun H locs hw => ?_)
    obtain ⟨u4, gu4, h⟩ := xs_ob h
    have ku4 := xs_okC hf (by decide) gu4
    refine lv_namR gu4 ?_
    refine lv_pop hx hb dd_W_lose_21 rfl ?_
    refine lv_iconst (v := 1) hx hb dd_W_lose_22 rfl ?_
    exact hret h hw dd_W_lose_23
  · replace h := xs_p b2 h
    refine lv_iconst (v := 0) hx hb dd_W_lose_11 rfl ?_
    exact hret h hw dd_W_lose_12
set_option maxHeartbeats 4000000 in
set_option maxRecDepth 100000 in
theorem xc_A_repeat (l : Launch) (D : va_G) (ad : Nat → Nat) (ca : Nat → ClassId) (ks : List Nat) (hf : ks = xs_all) (k : Nat) (n1 : Int32) (S : xs_T) (r : Int32) (T : xs_T) (hk : xs_is ks k xs_cA) (h : xf_A_repeat k n1 S = some (r, T)) (sz : Nat) : Met l yy_A_repeat ws_A_repeat { frames := 3, cells := 0, slots := 0, locals := 109 } (va_Pc [.ref (ad k), .int n1] (xs_Pre D ad ca ks S sz)) (va_Qi (fun r1 (_ : Unit) => r1 = r) (fun _ t => va_P D xs_cl (xs_w ad ca ks T) t.heap) (xs_A ad ks sz)) 0 0 (xs_A ad ks sz) := by
  refine xm_z (by decide) (Nat.le_of_ble_eq_true rfl) ?_
  intro p e s m args below meth c R A Q ls hx hb hml hown hts hRf hRl hK hw hl hret
  have hl : lv_has ls 2 [(0, .ref (ad k)), (1, .int n1)] := hl
  unfold xf_A_repeat at h
  refine lv_iload_n hx hb dd_A_repeat_0 rfl (lv_at hl 1 rfl) ?_
  refine lv_if_lt hx hb dd_A_repeat_1 rfl (fun b1 => ?_) (fun b1 => ?_)
  · replace h := xs_p b1 h
    refine lv_iconst (v := 0) hx hb dd_A_repeat_17 rfl ?_
    exact hret h hw dd_A_repeat_18
  · replace h := xs_n b1 h
    refine lv_iload_n hx hb dd_A_repeat_4 rfl (lv_at hl 1 rfl) ?_
    refine lv_aload_n hx hb dd_A_repeat_5 rfl (lv_at hl 0 rfl) ?_
    refine xr_get_A (v := .int (xs_gI S k 3)) hx hb hts hown hK hw hk 3 (by decide) (hts _ hw_63) rfl dd_A_repeat_6 ?_
    refine lv_bipush (v := 8) hx hb dd_A_repeat_9 rfl ?_
    refine xr_min hx hb (hml.trans hl.1.symm) hown (hts _ hw_668) (hts _ hw_669) (hts _ hw_15) (hts _ hw_670) (Nat.le_trans (by decide) hRf) (Nat.le_trans (Nat.le_of_ble_eq_true rfl) hRl) dd_A_repeat_11 ?_
    refine lv_icmp_lt hx hb dd_A_repeat_14 rfl (fun b2 => ?_) (fun b2 => ?_)
    · replace h := xs_p b2 h
      refine lv_aload_n hx hb dd_A_repeat_19 rfl (lv_at hl 0 rfl) ?_
      refine lv_aload_n hx hb dd_A_repeat_20 rfl (lv_at hl 0 rfl) ?_
      refine xr_get_A (v := .ref (ad (k + 2))) hx hb hts hown hK hw hk 1 (by decide) (hts _ hw_60) rfl dd_A_repeat_21 ?_
      refine lv_aload_n hx hb dd_A_repeat_24 rfl (lv_at hl 0 rfl) ?_
      refine xr_get_A (v := .int (xs_gI S k 3)) hx hb hts hown hK hw hk 3 (by decide) (hts _ hw_63) rfl dd_A_repeat_25 ?_
      refine lv_iconst (v := 1) hx hb dd_A_repeat_28 rfl ?_
      refine lv_isub hx hb dd_A_repeat_29 ?_
      refine lv_iload_n hx hb dd_A_repeat_30 rfl (lv_at hl 1 rfl) ?_
      refine lv_isub hx hb dd_A_repeat_31 ?_
      refine lv_bipush (v := 8) hx hb dd_A_repeat_32 rfl ?_
      refine lv_irem hx hb dd_A_repeat_34 (by decide) ?_
      refine lv_asI (v := xs_rem (((xs_gI S k 3) - 1) - n1) 8) rfl ?_
      obtain ⟨u3, gu3, h⟩ := xs_ob h
      have ku3 := xs_okU hf (by decide) gu3
      refine xr_aald_F hx hb hK hw (xs_ok_A_remembered hK.1 hk) gu3 dd_A_repeat_35 ?_
      obtain ⟨q4, gq4, h⟩ := xs_ob h
      refine xq_i hK hw (va_runV (As := [.ref (ad u3)]) (rest := []) ⟨hx, hb, hml, hown, hts⟩ (xc_A_add l D ad ca ks hf k u3 S q4.1 q4.2 hk ku3 gq4 _) ⟨callB_of 1 hts (xs_good hw_411) rfl rfl rfl (hts _ hw_2) (hts _ hw_408) yd_A_add ⟨Nat.le_trans (by decide) hRf, Nat.le_trans (by decide) hRl⟩, (hts _ hw_410), (hts _ hs_1)⟩ ⟨xs_blind, xs_recv_A hK hw hk, fun U h1 h2 => ⟨rfl, xs_pre hK hw h1 h2⟩⟩ rfl rfl hl.1 rfl (lv_room (Nat.le_of_ble_eq_true rfl)) dd_A_repeat_36 ⟨Nat.zero_le _, Nat.zero_le _⟩) (fun H locs hw => ?_)
      exact hret h hw dd_A_repeat_39
    · replace h := xs_n b2 h
      refine lv_iconst (v := 0) hx hb dd_A_repeat_17 rfl ?_
      exact hret h hw dd_A_repeat_18
set_option maxHeartbeats 4000000 in
set_option maxRecDepth 100000 in
theorem xc_W_replay (l : Launch) (D : va_G) (ad : Nat → Nat) (ca : Nat → ClassId) (ks : List Nat) (hf : ks = xs_all) (k : Nat) (n1 : Int32) (S : xs_T) (r : Int32) (T : xs_T) (hk : xs_is ks k xs_cW) (h : xf_W_replay k n1 S = some (r, T)) (sz : Nat) : Met l yy_W_replay ws_W_replay { frames := 4, cells := 0, slots := 0, locals := 130 } (va_Pc [.ref (ad k), .int n1] (xs_Pre D ad ca ks S sz)) (va_Qi (fun r1 (_ : Unit) => r1 = r) (fun _ t => va_P D xs_cl (xs_w ad ca ks T) t.heap) (xs_A ad ks sz)) 0 0 (xs_A ad ks sz) := by
  refine xm_z (by decide) (Nat.le_of_ble_eq_true rfl) ?_
  intro p e s m args below meth c R A Q ls hx hb hml hown hts hRf hRl hK hw hl hret
  have hl : lv_has ls 2 [(0, .ref (ad k)), (1, .int n1)] := hl
  unfold xf_W_replay at h
  refine lv_aload_n hx hb dd_W_replay_0 rfl (lv_at hl 0 rfl) ?_
  refine xr_get_W (v := .ref (ad (k + 1))) hx hb hts hown hK hw hk 0 (by decide) (hts _ hw_347) rfl dd_W_replay_1 ?_
  refine lv_iload_n hx hb dd_W_replay_4 rfl (lv_at hl 1 rfl) ?_
  obtain ⟨q1, gq1, h⟩ := xs_ob h
  refine xq_i hK hw (va_runV (As := [.int n1]) (rest := []) ⟨hx, hb, hml, hown, hts⟩ (xc_A_repeat l D ad ca ks hf (k + 1) n1 S q1.1 q1.2 (xs_ok_W_air hK.1 hk) gq1 _) ⟨callB_of 1 hts (xs_good hw_667) rfl rfl rfl (hts _ hw_2) (hts _ hw_664) yd_A_repeat ⟨Nat.le_trans (by decide) hRf, Nat.le_trans (by decide) hRl⟩, (hts _ hw_665), (hts _ hw_666)⟩ ⟨xs_blind, xs_recv_A hK hw (xs_ok_W_air hK.1 hk), fun U h1 h2 => ⟨rfl, xs_pre hK hw h1 h2⟩⟩ rfl rfl hl.1 rfl (lv_room (Nat.le_of_ble_eq_true rfl)) dd_W_replay_5 ⟨Nat.zero_le _, Nat.zero_le _⟩) (fun H locs hw => ?_)
  exact hret h hw dd_W_replay_8
set_option maxHeartbeats 4000000 in
set_option maxRecDepth 100000 in
theorem xc_F_holds (l : Launch) (D : va_G) (ad : Nat → Nat) (ca : Nat → ClassId) (ks : List Nat) (k : Nat) (n1 : Int32) (S : xs_T) (r : Int32) (hk : xs_is ks k xs_cF) (h : xf_F_holds k n1 S = some r) (sz : Nat) : Met l yy_F_holds ws_F_holds { frames := 0, cells := 0, slots := 0, locals := 0 } (va_Pc [.ref (ad k), .int n1] (xs_Pre D ad ca ks S sz)) (va_Qi (fun r1 (_ : Unit) => r1 = r) (fun _ t => va_P D xs_cl (xs_w ad ca ks S) t.heap) (xs_A ad ks sz)) 0 0 (xs_A ad ks sz) := by
  refine xm_zr (by decide) (Nat.le_of_ble_eq_true rfl) ?_
  intro p e s m args below meth c R A Q ls hx hb hml hown hts hRf hRl hK hw hl hret
  have hl : lv_has ls 2 [(0, .ref (ad k)), (1, .int n1)] := hl
  unfold xf_F_holds at h
  refine lv_iload_n hx hb dd_F_holds_0 rfl (lv_at hl 1 rfl) ?_
  refine lv_if_lt hx hb dd_F_holds_1 rfl (fun b1 => ?_) (fun b1 => ?_)
  · replace h := xs_p b1 h
    refine lv_iconst (v := 0) hx hb dd_F_holds_16 rfl ?_
    exact hret h hw dd_F_holds_17
  · replace h := xs_n b1 h
    refine lv_iload_n hx hb dd_F_holds_4 rfl (lv_at hl 1 rfl) ?_
    refine lv_aload_n hx hb dd_F_holds_5 rfl (lv_at hl 0 rfl) ?_
    refine xr_get_F (v := .int (xs_gI S k 1)) hx hb hts hown hK hw hk 1 (by decide) (hts _ hw_43) rfl dd_F_holds_6 ?_
    refine lv_icmp_ge hx hb dd_F_holds_9 rfl (fun b2 => ?_) (fun b2 => ?_)
    · replace h := xs_p b2 h
      refine lv_iconst (v := 0) hx hb dd_F_holds_16 rfl ?_
      exact hret h hw dd_F_holds_17
    · replace h := xs_n b2 h
      refine lv_iconst (v := 1) hx hb dd_F_holds_12 rfl ?_
      refine lv_goto hx hb dd_F_holds_13 rfl ?_
      exact hret h hw dd_F_holds_17
set_option maxHeartbeats 4000000 in
set_option maxRecDepth 100000 in
theorem xc_W_spoil (l : Launch) (D : va_G) (ad : Nat → Nat) (ca : Nat → ClassId) (ks : List Nat) (hf : ks = xs_all) (k : Nat) (n1 : Int32) (n2 : Int32) (n3 : Int32) (S : xs_T) (r : Int32) (T : xs_T) (hk : xs_is ks k xs_cW) (h : xf_W_spoil k n1 n2 n3 S = some (r, T)) (sz : Nat) : Met l yy_W_spoil ws_W_spoil { frames := 1, cells := 0, slots := 0, locals := 21 } (va_Pc [.ref (ad k), .int n1, .int n2, .int n3] (xs_Pre D ad ca ks S sz)) (va_Qi (fun r1 (_ : Unit) => r1 = r) (fun _ t => va_P D xs_cl (xs_w ad ca ks T) t.heap) (xs_A ad ks sz)) 0 0 (xs_A ad ks sz) := by
  refine xm_z (by decide) (Nat.le_of_ble_eq_true rfl) ?_
  intro p e s m args below meth c R A Q ls hx hb hml hown hts hRf hRl hK hw hl hret
  have hl : lv_has ls 4 [(0, .ref (ad k)), (1, .int n1), (2, .int n2), (3, .int n3)] := hl
  unfold xf_W_spoil at h
  refine lv_aload_n hx hb dd_W_spoil_0 rfl (lv_at hl 0 rfl) ?_
  refine xr_get_W (v := .ref (ad (k + 1))) hx hb hts hown hK hw hk 0 (by decide) (hts _ hw_347) rfl dd_W_spoil_1 ?_
  refine lv_iload_n hx hb dd_W_spoil_4 rfl (lv_at hl 1 rfl) ?_
  obtain ⟨q1, gq1, h⟩ := xs_ob h
  refine xq_i hK hw (va_runV (As := [.int n1]) (rest := []) ⟨hx, hb, hml, hown, hts⟩ (xc_A_holds l D ad ca ks (k + 1) n1 S q1 (xs_ok_W_air hK.1 hk) gq1 _) ⟨callB_of 1 hts (xs_good hw_523) rfl rfl rfl (hts _ hw_2) (hts _ hw_520) yd_A_holds ⟨Nat.le_trans (by decide) hRf, Nat.le_trans (by decide) hRl⟩, (hts _ hw_521), (hts _ hw_522)⟩ ⟨xs_blind, xs_recv_A hK hw (xs_ok_W_air hK.1 hk), fun U h1 h2 => ⟨rfl, xs_pre hK hw h1 h2⟩⟩ rfl rfl hl.1 rfl (lv_room (Nat.le_of_ble_eq_true rfl)) dd_W_spoil_5 ⟨Nat.zero_le _, Nat.zero_le _⟩) (fun H locs hw => ?_)
  refine lv_if_eq hx hb dd_W_spoil_8 rfl (fun b2 => ?_) (fun b2 => ?_)
  · replace h := xs_p b2 h
    refine lv_iconst (v := 0) hx hb dd_W_spoil_39 rfl ?_
    exact hret h hw dd_W_spoil_40
  · replace h := xs_n b2 h
    refine lv_aload_n hx hb dd_W_spoil_11 rfl (lv_at hl 0 rfl) ?_
    refine xr_get_W (v := .ref (ad (k + 1))) hx hb hts hown hK hw hk 0 (by decide) (hts _ hw_347) rfl dd_W_spoil_12 ?_
    refine xr_getN_A (v := .ref (ad (k + 2))) hx hb hts hown hK hw (xs_ok_W_air hK.1 hk) 0 (by decide) (va_Nw.use rfl (hK.2.2.2.1 _ hn_59 rfl)) rfl dd_W_spoil_15 ?_
    refine lv_iload_n hx hb dd_W_spoil_18 rfl (lv_at hl 1 rfl) ?_
    obtain ⟨u3, gu3, h⟩ := xs_ob h
    have ku3 := xs_okU hf (by decide) gu3
    refine xr_aald_F hx hb hK hw (xs_ok_A_underWay hK.1 (xs_ok_W_air hK.1 hk)) gu3 dd_W_spoil_19 ?_
    refine lv_iload_n hx hb dd_W_spoil_20 rfl (lv_at hl 2 rfl) ?_
    obtain ⟨q4, gq4, h⟩ := xs_ob h
    refine xq_i hK hw (va_runV (As := [.int n2]) (rest := []) ⟨hx, hb, hml, hown, hts⟩ (xc_F_holds l D ad ca ks u3 n2 S q4 ku3 gq4 _) ⟨callB_of 1 hts (xs_good hw_678) rfl rfl rfl (hts _ hw_3) (hts _ hw_675) yd_F_holds ⟨Nat.le_trans (by decide) hRf, Nat.le_trans (by decide) hRl⟩, (hts _ hw_676), (hts _ hw_677)⟩ ⟨xs_blind, xs_recv_F hK hw ku3, fun U h1 h2 => ⟨rfl, xs_pre hK hw h1 h2⟩⟩ rfl rfl hl.1 rfl (lv_room (Nat.le_of_ble_eq_true rfl)) dd_W_spoil_21 ⟨Nat.zero_le _, Nat.zero_le _⟩) (fun H locs hw => ?_)
    refine lv_if_eq hx hb dd_W_spoil_24 rfl (fun b5 => ?_) (fun b5 => ?_)
    · replace h := xs_p b5 h
      refine lv_iconst (v := 0) hx hb dd_W_spoil_39 rfl ?_
      exact hret h hw dd_W_spoil_40
    · replace h := xs_n b5 h
      refine lv_iload_n hx hb dd_W_spoil_27 rfl (lv_at hl 3 rfl) ?_
      refine lv_iconst (v := 1) hx hb dd_W_spoil_28 rfl ?_
      refine lv_icmp_lt hx hb dd_W_spoil_29 rfl (fun b6 => ?_) (fun b6 => ?_)
      · replace h := xs_p b6 h
        refine lv_iconst (v := 0) hx hb dd_W_spoil_39 rfl ?_
        exact hret h hw dd_W_spoil_40
      · replace h := xs_n b6 h
        refine lv_iload_n hx hb dd_W_spoil_32 rfl (lv_at hl 3 rfl) ?_
        refine lv_sipush (v := 255) hx hb dd_W_spoil_33 rfl ?_
        refine lv_icmp_le hx hb dd_W_spoil_36 rfl (fun b7 => ?_) (fun b7 => ?_)
        · replace h := xs_p b7 h
          refine lv_aload_n hx hb dd_W_spoil_41 rfl (lv_at hl 0 rfl) ?_
          refine xr_get_W (v := .ref (ad (k + 1))) hx hb hts hown hK hw hk 0 (by decide) (hts _ hw_347) rfl dd_W_spoil_42 ?_
          refine xr_getN_A (v := .ref (ad (k + 2))) hx hb hts hown hK hw (xs_ok_W_air hK.1 hk) 0 (by decide) (va_Nw.use rfl (hK.2.2.2.1 _ hn_59 rfl)) rfl dd_W_spoil_45 ?_
          refine lv_iload_n hx hb dd_W_spoil_48 rfl (lv_at hl 1 rfl) ?_
          obtain ⟨u8, gu8, h⟩ := xs_ob h
          have ku8 := xs_okU hf (by decide) gu8
          refine xr_aald_F hx hb hK hw (xs_ok_A_underWay hK.1 (xs_ok_W_air hK.1 hk)) gu8 dd_W_spoil_49 ?_
          refine xr_getN_F (v := .ref (ad (u8 + 1))) hx hb hts hown hK hw ku8 0 (by decide) (va_Nw.use rfl (hK.2.2.2.1 _ hn_42 rfl)) rfl dd_W_spoil_50 ?_
          refine lv_iload_n hx hb dd_W_spoil_53 rfl (lv_at hl 2 rfl) ?_
          refine lv_dup2_11 hx hb dd_W_spoil_54 rfl rfl ?_
          obtain ⟨v9, gv9, h⟩ := xs_ob h
          refine xr_iald hx hb hK hw (xs_ok_F_bytes hK.1 ku8) gv9 dd_W_spoil_55 ?_
          refine lv_iload_n hx hb dd_W_spoil_56 rfl (lv_at hl 3 rfl) ?_
          refine lv_ixor hx hb dd_W_spoil_57 ?_
          obtain ⟨S10, gS10, h⟩ := xs_ob h
          refine xr_iast hx hb hK hw (xs_ok_F_bytes hK.1 ku8) gS10 dd_W_spoil_58 (fun H locs hw => ?_)
          refine lv_iconst (v := 1) hx hb dd_W_spoil_59 rfl ?_
          exact hret h hw dd_W_spoil_60
        · replace h := xs_n b7 h
          refine lv_iconst (v := 0) hx hb dd_W_spoil_39 rfl ?_
          exact hret h hw dd_W_spoil_40
set_option maxHeartbeats 4000000 in
set_option maxRecDepth 100000 in
theorem xc_W_frames (l : Launch) (D : va_G) (ad : Nat → Nat) (ca : Nat → ClassId) (ks : List Nat) (k : Nat) (S : xs_T) (r : Int32) (hk : xs_is ks k xs_cW) (h : xf_W_frames k S = some r) (sz : Nat) : Met l yy_W_frames ws_W_frames { frames := 0, cells := 0, slots := 0, locals := 0 } (va_Pc [.ref (ad k)] (xs_Pre D ad ca ks S sz)) (va_Qi (fun r1 (_ : Unit) => r1 = r) (fun _ t => va_P D xs_cl (xs_w ad ca ks S) t.heap) (xs_A ad ks sz)) 0 0 (xs_A ad ks sz) := by
  refine xm_ir (by decide) (Nat.le_of_ble_eq_true rfl) ?_
  intro p e s m args below meth c R A Q ls hx hb hml hown hts hRf hRl hK hw hl hret
  have hl : lv_has ls 1 [(0, .ref (ad k))] := hl
  unfold xf_W_frames at h
  refine lv_aload_n hx hb dd_W_frames_0 rfl (lv_at hl 0 rfl) ?_
  refine xr_get_W (v := .ref (ad (k + 1))) hx hb hts hown hK hw hk 0 (by decide) (hts _ hw_347) rfl dd_W_frames_1 ?_
  refine xr_getN_A (v := .int (xs_gI S (k + 1) 2)) hx hb hts hown hK hw (xs_ok_W_air hK.1 hk) 2 (by decide) (va_Nw.use rfl (hK.2.2.2.1 _ hn_62 rfl)) rfl dd_W_frames_4 ?_
  exact hret h hw dd_W_frames_7
set_option maxHeartbeats 4000000 in
set_option maxRecDepth 100000 in
theorem xc_W_length (l : Launch) (D : va_G) (ad : Nat → Nat) (ca : Nat → ClassId) (ks : List Nat) (hf : ks = xs_all) (k : Nat) (n1 : Int32) (S : xs_T) (r : Int32) (hk : xs_is ks k xs_cW) (h : xf_W_length k n1 S = some r) (sz : Nat) : Met l yy_W_length ws_W_length { frames := 1, cells := 0, slots := 0, locals := 21 } (va_Pc [.ref (ad k), .int n1] (xs_Pre D ad ca ks S sz)) (va_Qi (fun r1 (_ : Unit) => r1 = r) (fun _ t => va_P D xs_cl (xs_w ad ca ks S) t.heap) (xs_A ad ks sz)) 0 0 (xs_A ad ks sz) := by
  refine xm_ir (by decide) (Nat.le_of_ble_eq_true rfl) ?_
  intro p e s m args below meth c R A Q ls hx hb hml hown hts hRf hRl hK hw hl hret
  have hl : lv_has ls 2 [(0, .ref (ad k)), (1, .int n1)] := hl
  unfold xf_W_length at h
  refine lv_aload_n hx hb dd_W_length_0 rfl (lv_at hl 0 rfl) ?_
  refine xr_get_W (v := .ref (ad (k + 1))) hx hb hts hown hK hw hk 0 (by decide) (hts _ hw_347) rfl dd_W_length_1 ?_
  refine lv_iload_n hx hb dd_W_length_4 rfl (lv_at hl 1 rfl) ?_
  obtain ⟨q1, gq1, h⟩ := xs_ob h
  refine xq_i hK hw (va_runV (As := [.int n1]) (rest := []) ⟨hx, hb, hml, hown, hts⟩ (xc_A_holds l D ad ca ks (k + 1) n1 S q1 (xs_ok_W_air hK.1 hk) gq1 _) ⟨callB_of 1 hts (xs_good hw_523) rfl rfl rfl (hts _ hw_2) (hts _ hw_520) yd_A_holds ⟨Nat.le_trans (by decide) hRf, Nat.le_trans (by decide) hRl⟩, (hts _ hw_521), (hts _ hw_522)⟩ ⟨xs_blind, xs_recv_A hK hw (xs_ok_W_air hK.1 hk), fun U h1 h2 => ⟨rfl, xs_pre hK hw h1 h2⟩⟩ rfl rfl hl.1 rfl (lv_room (Nat.le_of_ble_eq_true rfl)) dd_W_length_5 ⟨Nat.zero_le _, Nat.zero_le _⟩) (fun H locs hw => ?_)
  refine lv_if_eq hx hb dd_W_length_8 rfl (fun b2 => ?_) (fun b2 => ?_)
  · replace h := xs_p b2 h
    refine lv_iconst (v := (-1)) hx hb dd_W_length_26 rfl ?_
    exact hret h hw dd_W_length_27
  · replace h := xs_n b2 h
    refine lv_aload_n hx hb dd_W_length_11 rfl (lv_at hl 0 rfl) ?_
    refine xr_get_W (v := .ref (ad (k + 1))) hx hb hts hown hK hw hk 0 (by decide) (hts _ hw_347) rfl dd_W_length_12 ?_
    refine xr_getN_A (v := .ref (ad (k + 2))) hx hb hts hown hK hw (xs_ok_W_air hK.1 hk) 0 (by decide) (va_Nw.use rfl (hK.2.2.2.1 _ hn_59 rfl)) rfl dd_W_length_15 ?_
    refine lv_iload_n hx hb dd_W_length_18 rfl (lv_at hl 1 rfl) ?_
    obtain ⟨u3, gu3, h⟩ := xs_ob h
    have ku3 := xs_okU hf (by decide) gu3
    refine xr_aald_F hx hb hK hw (xs_ok_A_underWay hK.1 (xs_ok_W_air hK.1 hk)) gu3 dd_W_length_19 ?_
    refine xr_getN_F (v := .int (xs_gI S u3 1)) hx hb hts hown hK hw ku3 1 (by decide) (va_Nw.use rfl (hK.2.2.2.1 _ hn_47 rfl)) rfl dd_W_length_20 ?_
    refine lv_goto hx hb dd_W_length_23 rfl ?_
    exact hret h hw dd_W_length_27
set_option maxHeartbeats 4000000 in
set_option maxRecDepth 100000 in
theorem xc_W_octet (l : Launch) (D : va_G) (ad : Nat → Nat) (ca : Nat → ClassId) (ks : List Nat) (hf : ks = xs_all) (k : Nat) (n1 : Int32) (n2 : Int32) (S : xs_T) (r : Int32) (hk : xs_is ks k xs_cW) (h : xf_W_octet k n1 n2 S = some r) (sz : Nat) : Met l yy_W_octet ws_W_octet { frames := 1, cells := 0, slots := 0, locals := 21 } (va_Pc [.ref (ad k), .int n1, .int n2] (xs_Pre D ad ca ks S sz)) (va_Qi (fun r1 (_ : Unit) => r1 = r) (fun _ t => va_P D xs_cl (xs_w ad ca ks S) t.heap) (xs_A ad ks sz)) 0 0 (xs_A ad ks sz) := by
  refine xm_ir (by decide) (Nat.le_of_ble_eq_true rfl) ?_
  intro p e s m args below meth c R A Q ls hx hb hml hown hts hRf hRl hK hw hl hret
  have hl : lv_has ls 3 [(0, .ref (ad k)), (1, .int n1), (2, .int n2)] := hl
  unfold xf_W_octet at h
  refine lv_aload_n hx hb dd_W_octet_0 rfl (lv_at hl 0 rfl) ?_
  refine xr_get_W (v := .ref (ad (k + 1))) hx hb hts hown hK hw hk 0 (by decide) (hts _ hw_347) rfl dd_W_octet_1 ?_
  refine lv_iload_n hx hb dd_W_octet_4 rfl (lv_at hl 1 rfl) ?_
  obtain ⟨q1, gq1, h⟩ := xs_ob h
  refine xq_i hK hw (va_runV (As := [.int n1]) (rest := []) ⟨hx, hb, hml, hown, hts⟩ (xc_A_holds l D ad ca ks (k + 1) n1 S q1 (xs_ok_W_air hK.1 hk) gq1 _) ⟨callB_of 1 hts (xs_good hw_523) rfl rfl rfl (hts _ hw_2) (hts _ hw_520) yd_A_holds ⟨Nat.le_trans (by decide) hRf, Nat.le_trans (by decide) hRl⟩, (hts _ hw_521), (hts _ hw_522)⟩ ⟨xs_blind, xs_recv_A hK hw (xs_ok_W_air hK.1 hk), fun U h1 h2 => ⟨rfl, xs_pre hK hw h1 h2⟩⟩ rfl rfl hl.1 rfl (lv_room (Nat.le_of_ble_eq_true rfl)) dd_W_octet_5 ⟨Nat.zero_le _, Nat.zero_le _⟩) (fun H locs hw => ?_)
  refine lv_if_eq hx hb dd_W_octet_8 rfl (fun b2 => ?_) (fun b2 => ?_)
  · replace h := xs_p b2 h
    refine lv_iconst (v := (-1)) hx hb dd_W_octet_44 rfl ?_
    exact hret h hw dd_W_octet_45
  · replace h := xs_n b2 h
    refine lv_aload_n hx hb dd_W_octet_11 rfl (lv_at hl 0 rfl) ?_
    refine xr_get_W (v := .ref (ad (k + 1))) hx hb hts hown hK hw hk 0 (by decide) (hts _ hw_347) rfl dd_W_octet_12 ?_
    refine xr_getN_A (v := .ref (ad (k + 2))) hx hb hts hown hK hw (xs_ok_W_air hK.1 hk) 0 (by decide) (va_Nw.use rfl (hK.2.2.2.1 _ hn_59 rfl)) rfl dd_W_octet_15 ?_
    refine lv_iload_n hx hb dd_W_octet_18 rfl (lv_at hl 1 rfl) ?_
    obtain ⟨u3, gu3, h⟩ := xs_ob h
    have ku3 := xs_okU hf (by decide) gu3
    refine xr_aald_F hx hb hK hw (xs_ok_A_underWay hK.1 (xs_ok_W_air hK.1 hk)) gu3 dd_W_octet_19 ?_
    refine lv_iload_n hx hb dd_W_octet_20 rfl (lv_at hl 2 rfl) ?_
    obtain ⟨q4, gq4, h⟩ := xs_ob h
    refine xq_i hK hw (va_runV (As := [.int n2]) (rest := []) ⟨hx, hb, hml, hown, hts⟩ (xc_F_holds l D ad ca ks u3 n2 S q4 ku3 gq4 _) ⟨callB_of 1 hts (xs_good hw_678) rfl rfl rfl (hts _ hw_3) (hts _ hw_675) yd_F_holds ⟨Nat.le_trans (by decide) hRf, Nat.le_trans (by decide) hRl⟩, (hts _ hw_676), (hts _ hw_677)⟩ ⟨xs_blind, xs_recv_F hK hw ku3, fun U h1 h2 => ⟨rfl, xs_pre hK hw h1 h2⟩⟩ rfl rfl hl.1 rfl (lv_room (Nat.le_of_ble_eq_true rfl)) dd_W_octet_21 ⟨Nat.zero_le _, Nat.zero_le _⟩) (fun H locs hw => ?_)
    refine lv_if_eq hx hb dd_W_octet_24 rfl (fun b5 => ?_) (fun b5 => ?_)
    · replace h := xs_p b5 h
      refine lv_iconst (v := (-1)) hx hb dd_W_octet_44 rfl ?_
      exact hret h hw dd_W_octet_45
    · replace h := xs_n b5 h
      refine lv_aload_n hx hb dd_W_octet_27 rfl (lv_at hl 0 rfl) ?_
      refine xr_get_W (v := .ref (ad (k + 1))) hx hb hts hown hK hw hk 0 (by decide) (hts _ hw_347) rfl dd_W_octet_28 ?_
      refine xr_getN_A (v := .ref (ad (k + 2))) hx hb hts hown hK hw (xs_ok_W_air hK.1 hk) 0 (by decide) (va_Nw.use rfl (hK.2.2.2.1 _ hn_59 rfl)) rfl dd_W_octet_31 ?_
      refine lv_iload_n hx hb dd_W_octet_34 rfl (lv_at hl 1 rfl) ?_
      obtain ⟨u6, gu6, h⟩ := xs_ob h
      have ku6 := xs_okU hf (by decide) gu6
      refine xr_aald_F hx hb hK hw (xs_ok_A_underWay hK.1 (xs_ok_W_air hK.1 hk)) gu6 dd_W_octet_35 ?_
      refine xr_getN_F (v := .ref (ad (u6 + 1))) hx hb hts hown hK hw ku6 0 (by decide) (va_Nw.use rfl (hK.2.2.2.1 _ hn_42 rfl)) rfl dd_W_octet_36 ?_
      refine lv_iload_n hx hb dd_W_octet_39 rfl (lv_at hl 2 rfl) ?_
      obtain ⟨v7, gv7, h⟩ := xs_ob h
      refine xr_iald hx hb hK hw (xs_ok_F_bytes hK.1 ku6) gv7 dd_W_octet_40 ?_
      refine lv_goto hx hb dd_W_octet_41 rfl ?_
      exact hret h hw dd_W_octet_45
