set_option maxHeartbeats 4000000 in
set_option maxRecDepth 100000 in
theorem xc_R_hear (l : Launch) (D : va_G) (ad : Nat → Nat) (ca : Nat → ClassId) (ks : List Nat) (k : Nat) (n1 : Int32) (n2 : Int32) (S : xs_T) (r : Int32) (T : xs_T) (hk : xs_is ks k xs_cR) (h : xf_R_hear k n1 n2 S = some (r, T)) (sz : Nat) : Met l yy_R_hear ws_R_hear { frames := 7, cells := 0, slots := 0, locals := 174 } (va_Pc [.ref (ad k), .int n1, .int n2] (xs_Pre D ad ca ks S sz)) (va_Qi (fun r1 (_ : Unit) => r1 = r) (fun _ t => va_P D xs_cl (xs_w ad ca ks T) t.heap) (xs_A ad ks sz)) 0 0 (xs_A ad ks sz) := by
  refine xm_z (by decide) (Nat.le_of_ble_eq_true rfl) ?_
  intro p e s m args below meth c R A Q ls hx hb hml hown hts hRf hRl hK hw hl hret
  have hl : lv_has ls 4 [(0, .ref (ad k)), (1, .int n1), (2, .int n2)] := hl
  have w_70 : ∀ (S : xs_T) (H : Heap) (locs : List Loc) (ls : Array Slot), xs_I D ad ca ks A s S H locs → lv_has ls 4 [(0, .ref (ad k)), (2, .int n2)] → xf_R_hear_70 k n1 n2 S = some (r, T) → W p l e R s m args below meth c H locs 0 0 Q (F0 m 70 ls []) := by
    intro S H locs ls hw hl h
    unfold xf_R_hear_70 at h
    refine lv_aload_n hx hb dd_R_hear_70 rfl (lv_at hl 0 rfl) ?_
    refine lv_iload_n hx hb dd_R_hear_71 rfl (lv_at hl 1 rfl) ?_
    obtain ⟨q11, gq11, h⟩ := xs_ob h
    refine xq_v hK hw (va_runV (As := [.int n2]) (rest := []) ⟨hx, hb, hml, hown, hts⟩ (xc_R_heardData l D ad ca ks k n2 S q11 hk gq11 _) ⟨callB_of 1 hts (xs_good hw_1027) rfl rfl rfl (hts _ hw_13) (hts _ hw_1024) yd_R_heardData ⟨Nat.le_trans (by decide) hRf, Nat.le_trans (by decide) hRl⟩, (hts _ hw_1026), (hts _ hs_43)⟩ ⟨xs_blind, xs_recv_R hK hw hk, fun U h1 h2 => ⟨rfl, xs_pre hK hw h1 h2⟩⟩ rfl rfl hl.1 rfl (lv_room (Nat.le_of_ble_eq_true rfl)) dd_R_hear_72 ⟨Nat.zero_le _, Nat.zero_le _⟩) (fun H locs hw => ?_)
    refine lv_iconst (v := 1) hx hb dd_R_hear_75 rfl ?_
    exact hret h hw dd_R_hear_76
  unfold xf_R_hear at h
  refine lv_iload_n hx hb dd_R_hear_0 rfl (lv_at hl 1 rfl) ?_
  refine lv_aload_n hx hb dd_R_hear_1 rfl (lv_at hl 0 rfl) ?_
  refine xr_get_R (v := .int (xs_gI S k 12)) hx hb hts hown hK hw hk 12 (by decide) (hts _ hw_755) rfl dd_R_hear_2 ?_
  obtain ⟨q1, gq1, h⟩ := xs_ob h
  refine xq_i hK hw (va_runS (As := [.int n1, .int (xs_gI S k 12)]) (rest := []) ⟨hx, hb, hml, hown, hts⟩ (xc_R_below l D ad ca ks n1 (xs_gI S k 12) S q1 gq1 _) ⟨callB_of 2 hts (xs_good hw_871) rfl rfl rfl (hts _ hw_13) (hts _ hw_869) yd_R_below ⟨Nat.le_trans (by decide) hRf, Nat.le_trans (by decide) hRl⟩, (hts _ hw_870)⟩ ⟨xs_blind, fun U h1 h2 => ⟨rfl, xs_pre hK hw h1 h2⟩⟩ rfl rfl hl.1 rfl (lv_room (Nat.le_of_ble_eq_true rfl)) dd_R_hear_5 ⟨Nat.zero_le _, Nat.zero_le _⟩) (fun H locs hw => ?_)
  refine lv_if_eq hx hb dd_R_hear_8 rfl (fun b2 => ?_) (fun b2 => ?_)
  · replace h := xs_p b2 h
    refine lv_iconst (v := 0) hx hb dd_R_hear_29 rfl ?_
    exact hret h hw dd_R_hear_30
  · replace h := xs_n b2 h
    refine lv_iload_n hx hb dd_R_hear_11 rfl (lv_at hl 2 rfl) ?_
    refine lv_iconst (v := 2) hx hb dd_R_hear_12 rfl ?_
    obtain ⟨q3, gq3, h⟩ := xs_ob h
    refine xq_i hK hw (va_runS (As := [.int n2, .int 2]) (rest := []) ⟨hx, hb, hml, hown, hts⟩ (xc_R_below l D ad ca ks n2 2 S q3 gq3 _) ⟨callB_of 2 hts (xs_good hw_871) rfl rfl rfl (hts _ hw_13) (hts _ hw_869) yd_R_below ⟨Nat.le_trans (by decide) hRf, Nat.le_trans (by decide) hRl⟩, (hts _ hw_870)⟩ ⟨xs_blind, fun U h1 h2 => ⟨rfl, xs_pre hK hw h1 h2⟩⟩ rfl rfl hl.1 rfl (lv_room (Nat.le_of_ble_eq_true rfl)) dd_R_hear_13 ⟨Nat.zero_le _, Nat.zero_le _⟩) (fun H locs hw => ?_)
    refine lv_if_eq hx hb dd_R_hear_16 rfl (fun b4 => ?_) (fun b4 => ?_)
    · replace h := xs_p b4 h
      refine lv_iconst (v := 0) hx hb dd_R_hear_29 rfl ?_
      exact hret h hw dd_R_hear_30
    · replace h := xs_n b4 h
      refine lv_aload_n hx hb dd_R_hear_19 rfl (lv_at hl 0 rfl) ?_
      refine xr_get_R (v := .ref (ad (k + 11))) hx hb hts hown hK hw hk 11 (by decide) (hts _ hw_754) rfl dd_R_hear_20 ?_
      refine lv_iload_n hx hb dd_R_hear_23 rfl (lv_at hl 1 rfl) ?_
      obtain ⟨v5, gv5, h⟩ := xs_ob h
      refine xr_iald hx hb hK hw (xs_ok_R_goal hK.1 hk) gv5 dd_R_hear_24 ?_
      refine lv_iconst (v := 3) hx hb dd_R_hear_25 rfl ?_
      refine lv_icmp_eq hx hb dd_R_hear_26 rfl (fun b6 => ?_) (fun b6 => ?_)
      · replace h := xs_p b6 h
        refine lv_aload_n hx hb dd_R_hear_31 rfl (lv_at hl 0 rfl) ?_
        refine lv_iload_n hx hb dd_R_hear_32 rfl (lv_at hl 1 rfl) ?_
        refine lv_bipush (v := 23) hx hb dd_R_hear_33 rfl ?_
        obtain ⟨q7, gq7, h⟩ := xs_ob h
        refine xq_v hK hw (va_runV (As := [.int n1, .int 23]) (rest := []) ⟨hx, hb, hml, hown, hts⟩ (xc_R_copyFrame l D ad ca ks k n1 23 S q7 hk gq7 _) ⟨callB_of 2 hts (xs_good hw_928) rfl rfl rfl (hts _ hw_13) (hts _ hw_925) yd_R_copyFrame ⟨Nat.le_trans (by decide) hRf, Nat.le_trans (by decide) hRl⟩, (hts _ hw_927), (hts _ hs_25)⟩ ⟨xs_blind, xs_recv_R hK hw hk, fun U h1 h2 => ⟨rfl, xs_pre hK hw h1 h2⟩⟩ rfl rfl hl.1 rfl (lv_room (Nat.le_of_ble_eq_true rfl)) dd_R_hear_35 ⟨Nat.zero_le _, Nat.zero_le _⟩) (fun H locs hw => ?_)
        refine lv_aload_n hx hb dd_R_hear_38 rfl (lv_at hl 0 rfl) ?_
        refine lv_bipush (v := 23) hx hb dd_R_hear_39 rfl ?_
        refine lv_iconst (v := 0) hx hb dd_R_hear_41 rfl ?_
        obtain ⟨q8, gq8, h⟩ := xs_ob h
        refine xq_i hK hw (va_runV (As := [.int 23, .int 0]) (rest := []) ⟨hx, hb, hml, hown, hts⟩ (xc_R_at l D ad ca ks k 23 0 q7 q8 hk gq8 _) ⟨callB_of 2 hts (xs_good hw_888) rfl rfl rfl (hts _ hw_13) (hts _ hw_885) yd_R_at ⟨Nat.le_trans (by decide) hRf, Nat.le_trans (by decide) hRl⟩, (hts _ hw_887), (hts _ hs_15)⟩ ⟨xs_blind, xs_recv_R hK hw hk, fun U h1 h2 => ⟨rfl, xs_pre hK hw h1 h2⟩⟩ rfl rfl hl.1 rfl (lv_room (Nat.le_of_ble_eq_true rfl)) dd_R_hear_42 ⟨Nat.zero_le _, Nat.zero_le _⟩) (fun H locs hw => ?_)
        refine lv_istore_n hx hb dd_R_hear_45 rfl hl (by decide) rfl (fun ls hl => ?_)
        have hl : lv_has ls 4 [(3, .int q8), (0, .ref (ad k)), (1, .int n1), (2, .int n2)] := hl
        refine lv_iload_n hx hb dd_R_hear_46 rfl (lv_at hl 0 rfl) ?_
        refine lv_if_ne hx hb dd_R_hear_47 rfl (fun b9 => ?_) (fun b9 => ?_)
        · replace h := xs_n b9 h
          refine lv_iload_n hx hb dd_R_hear_57 rfl (lv_at hl 0 rfl) ?_
          refine lv_bipush (v := 64) hx hb dd_R_hear_58 rfl ?_
          refine lv_icmp_eq hx hb dd_R_hear_60 rfl (fun b10 => ?_) (fun b10 => ?_)
          · replace h := xs_p b10 h
            exact w_70 q7 _ _ _ hw (lv_sub hl [1, 3] rfl) h
          · replace h := xs_n b10 h
            refine lv_iload_n hx hb dd_R_hear_63 rfl (lv_at hl 0 rfl) ?_
            refine lv_sipush (v := 128) hx hb dd_R_hear_64 rfl ?_
            refine lv_icmp_ne hx hb dd_R_hear_67 rfl (fun b12 => ?_) (fun b12 => ?_)
            · replace h := xs_n b12 h
              refine lv_iconst (v := 1) hx hb dd_R_hear_75 rfl ?_
              exact hret h hw dd_R_hear_76
            · replace h := xs_p b12 h
              exact w_70 q7 _ _ _ hw (lv_sub hl [1, 3] rfl) h
        · replace h := xs_p b9 h
          refine lv_aload_n hx hb dd_R_hear_50 rfl (lv_at hl 1 rfl) ?_
          obtain ⟨q13, gq13, h⟩ := xs_ob h
          refine xq_v hK hw (va_runV (As := []) (rest := []) ⟨hx, hb, hml, hown, hts⟩ (xc_R_heardJoin l D ad ca ks k q7 q13 hk gq13 _) ⟨callB_of 0 hts (xs_good hw_1018) rfl rfl rfl (hts _ hw_13) (hts _ hw_1015) yd_R_heardJoin ⟨Nat.le_trans (by decide) hRf, Nat.le_trans (by decide) hRl⟩, (hts _ hw_1017), (hts _ hs_41)⟩ ⟨xs_blind, xs_recv_R hK hw hk, fun U h1 h2 => ⟨rfl, xs_pre hK hw h1 h2⟩⟩ rfl rfl hl.1 rfl (lv_room (Nat.le_of_ble_eq_true rfl)) dd_R_hear_51 ⟨Nat.zero_le _, Nat.zero_le _⟩) (fun H locs hw => ?_)
          refine lv_goto hx hb dd_R_hear_54 rfl ?_
          refine lv_iconst (v := 1) hx hb dd_R_hear_75 rfl ?_
          exact hret h hw dd_R_hear_76
      · replace h := xs_n b6 h
        refine lv_iconst (v := 0) hx hb dd_R_hear_29 rfl ?_
        exact hret h hw dd_R_hear_30
set_option maxHeartbeats 4000000 in
set_option maxRecDepth 100000 in
theorem xc_R_sendAccept (l : Launch) (D : va_G) (ad : Nat → Nat) (ca : Nat → ClassId) (ks : List Nat) (k : Nat) (n1 : Int32) (S : xs_T) (T : xs_T) (hk : xs_is ks k xs_cR) (h : xf_R_sendAccept k n1 S = some T) (sz : Nat) : Met l yy_R_sendAccept ws_R_sendAccept { frames := 6, cells := 0, slots := 0, locals := 143 } (va_Pc [.ref (ad k), .int n1] (xs_Pre D ad ca ks S sz)) (va_Qv (fun _ : Unit => True) (fun _ t => va_P D xs_cl (xs_w ad ca ks T) t.heap) (xs_A ad ks sz)) 0 0 (xs_A ad ks sz) := by
  refine xm_v (by decide) (Nat.le_of_ble_eq_true rfl) ?_
  intro p e s m args below meth c R A Q ls hx hb hml hown hts hRf hRl hK hw hl hret
  have hl : lv_has ls 3 [(0, .ref (ad k)), (1, .int n1)] := hl
  have w_135 : ∀ (f : Nat), ∀ (i2 : Int32) (S : xs_T) (H : Heap) (locs : List Loc) (ls : Array Slot), xs_I D ad ca ks A s S H locs → lv_has ls 3 [(0, .ref (ad k)), (2, .int i2)] → xf_R_sendAccept_135 k n1 f i2 S = some T → W p l e R s m args below meth c H locs 0 0 Q (F0 m 135 ls []) := by
    intro f
    induction f with
    | zero => intro i2 S H locs ls hw hl h; exact absurd h (by simp [xf_R_sendAccept_135])
    | succ f ih =>
      intro i2 S H locs ls hw hl h
      rw [xf_R_sendAccept_135] at h
      refine lv_iload_n hx hb dd_R_sendAccept_135 rfl (lv_at hl 1 rfl) ?_
      refine lv_bipush (v := 16) hx hb dd_R_sendAccept_136 rfl ?_
      refine lv_icmp_ge hx hb dd_R_sendAccept_138 rfl (fun b14 => ?_) (fun b14 => ?_)
      · replace h := xs_p b14 h
        exact hret h hw dd_R_sendAccept_163
      · replace h := xs_n b14 h
        refine lv_aload_n hx hb dd_R_sendAccept_141 rfl (lv_at hl 0 rfl) ?_
        refine xr_get_R (v := .ref (ad (k + 9))) hx hb hts hown hK hw hk 9 (by decide) (hts _ hw_752) rfl dd_R_sendAccept_142 ?_
        refine lv_sipush (v := 737) hx hb dd_R_sendAccept_145 rfl ?_
        refine lv_iload_n hx hb dd_R_sendAccept_148 rfl (lv_at hl 1 rfl) ?_
        refine lv_iadd hx hb dd_R_sendAccept_149 ?_
        refine lv_aload_n hx hb dd_R_sendAccept_150 rfl (lv_at hl 0 rfl) ?_
        refine xr_get_R (v := .ref (ad (k + 4))) hx hb hts hown hK hw hk 3 (by decide) (hts _ hw_746) rfl dd_R_sendAccept_151 ?_
        refine lv_iload_n hx hb dd_R_sendAccept_154 rfl (lv_at hl 1 rfl) ?_
        obtain ⟨v15, gv15, h⟩ := xs_ob h
        refine xr_iald hx hb hK hw (xs_ok_R_block hK.1 hk) gv15 dd_R_sendAccept_155 ?_
        obtain ⟨S16, gS16, h⟩ := xs_ob h
        refine xr_iast hx hb hK hw (xs_ok_R_bytes hK.1 hk) gS16 dd_R_sendAccept_156 (fun H locs hw => ?_)
        refine lv_iinc (k := 1) (v := i2 + 1) hx hb dd_R_sendAccept_157 hl rfl rfl (by decide) rfl (fun ls hl => ?_)
        have hl : lv_has ls 3 [(2, .int (i2 + 1)), (0, .ref (ad k))] := hl
        refine lv_goto hx hb dd_R_sendAccept_160 rfl ?_
        exact ih (i2 + 1) S16 _ _ _ hw (lv_sub hl [1, 0] rfl) h
  have w_101 : ∀ (f : Nat), ∀ (i2 : Int32) (S : xs_T) (H : Heap) (locs : List Loc) (ls : Array Slot), xs_I D ad ca ks A s S H locs → lv_has ls 3 [(0, .ref (ad k)), (1, .int n1), (2, .int i2)] → xf_R_sendAccept_101 k n1 f i2 S = some T → W p l e R s m args below meth c H locs 0 0 Q (F0 m 101 ls []) := by
    intro f
    induction f with
    | zero => intro i2 S H locs ls hw hl h; exact absurd h (by simp [xf_R_sendAccept_101])
    | succ f ih =>
      intro i2 S H locs ls hw hl h
      rw [xf_R_sendAccept_101] at h
      refine lv_iload_n hx hb dd_R_sendAccept_101 rfl (lv_at hl 2 rfl) ?_
      refine lv_bipush (v := 16) hx hb dd_R_sendAccept_102 rfl ?_
      refine lv_icmp_ge hx hb dd_R_sendAccept_104 rfl (fun b12 => ?_) (fun b12 => ?_)
      · replace h := xs_p b12 h
        refine lv_aload_n hx hb dd_R_sendAccept_128 rfl (lv_at hl 0 rfl) ?_
        refine lv_iload_n hx hb dd_R_sendAccept_129 rfl (lv_at hl 1 rfl) ?_
        obtain ⟨q13, gq13, h⟩ := xs_ob h
        refine xq_v hK hw (va_runV (As := [.int n1]) (rest := []) ⟨hx, hb, hml, hown, hts⟩ (xc_R_decipher l D ad ca ks k n1 S q13 hk gq13 _) ⟨callB_of 1 hts (xs_good hw_1043) rfl rfl rfl (hts _ hw_13) (hts _ hw_1040) yd_R_decipher ⟨Nat.le_trans (by decide) hRf, Nat.le_trans (by decide) hRl⟩, (hts _ hw_1042), (hts _ hs_46)⟩ ⟨xs_blind, xs_recv_R hK hw hk, fun U h1 h2 => ⟨rfl, xs_pre hK hw h1 h2⟩⟩ rfl rfl hl.1 rfl (lv_room (Nat.le_of_ble_eq_true rfl)) dd_R_sendAccept_130 ⟨Nat.zero_le _, Nat.zero_le _⟩) (fun H locs hw => ?_)
        refine lv_iconst (v := 0) hx hb dd_R_sendAccept_133 rfl ?_
        refine lv_istore_n hx hb dd_R_sendAccept_134 rfl hl (by decide) rfl (fun ls hl => ?_)
        have hl : lv_has ls 3 [(2, .int 0), (0, .ref (ad k)), (1, .int n1)] := hl
        exact w_135 xs_fuel 0 q13 _ _ _ hw (lv_sub hl [1, 0] rfl) h
      · replace h := xs_n b12 h
        refine lv_aload_n hx hb dd_R_sendAccept_107 rfl (lv_at hl 0 rfl) ?_
        refine xr_get_R (v := .ref (ad (k + 4))) hx hb hts hown hK hw hk 3 (by decide) (hts _ hw_746) rfl dd_R_sendAccept_108 ?_
        refine lv_iload_n hx hb dd_R_sendAccept_111 rfl (lv_at hl 2 rfl) ?_
        refine lv_aload_n hx hb dd_R_sendAccept_112 rfl (lv_at hl 0 rfl) ?_
        refine lv_bipush (v := 23) hx hb dd_R_sendAccept_113 rfl ?_
        refine lv_iconst (v := 1) hx hb dd_R_sendAccept_115 rfl ?_
        refine lv_iload_n hx hb dd_R_sendAccept_116 rfl (lv_at hl 2 rfl) ?_
        refine lv_iadd hx hb dd_R_sendAccept_117 ?_
        obtain ⟨q17, gq17, h⟩ := xs_ob h
        refine xq_i hK hw (va_runV (As := [.int 23, .int (1 + i2)]) (rest := [.int i2, .ref (ad (k + 4))]) ⟨hx, hb, hml, hown, hts⟩ (xc_R_at l D ad ca ks k 23 (1 + i2) S q17 hk gq17 _) ⟨callB_of 2 hts (xs_good hw_888) rfl rfl rfl (hts _ hw_13) (hts _ hw_885) yd_R_at ⟨Nat.le_trans (by decide) hRf, Nat.le_trans (by decide) hRl⟩, (hts _ hw_887), (hts _ hs_15)⟩ ⟨xs_blind, xs_recv_R hK hw hk, fun U h1 h2 => ⟨rfl, xs_pre hK hw h1 h2⟩⟩ rfl rfl hl.1 rfl (lv_room (Nat.le_of_ble_eq_true rfl)) dd_R_sendAccept_118 ⟨Nat.zero_le _, Nat.zero_le _⟩) (fun H locs hw => ?_)
        obtain ⟨S18, gS18, h⟩ := xs_ob h
        refine xr_iast hx hb hK hw (xs_ok_R_block hK.1 hk) gS18 dd_R_sendAccept_121 (fun H locs hw => ?_)
        refine lv_iinc (k := 2) (v := i2 + 1) hx hb dd_R_sendAccept_122 hl rfl rfl (by decide) rfl (fun ls hl => ?_)
        have hl : lv_has ls 3 [(2, .int (i2 + 1)), (0, .ref (ad k)), (1, .int n1)] := hl
        refine lv_goto hx hb dd_R_sendAccept_125 rfl ?_
        exact ih (i2 + 1) S18 _ _ _ hw (lv_sub hl [1, 2, 0] rfl) h
  have w_76 : ∀ (f : Nat), ∀ (i2 : Int32) (S : xs_T) (H : Heap) (locs : List Loc) (ls : Array Slot), xs_I D ad ca ks A s S H locs → lv_has ls 3 [(0, .ref (ad k)), (1, .int n1), (2, .int i2)] → xf_R_sendAccept_76 k n1 f i2 S = some T → W p l e R s m args below meth c H locs 0 0 Q (F0 m 76 ls []) := by
    intro f
    induction f with
    | zero => intro i2 S H locs ls hw hl h; exact absurd h (by simp [xf_R_sendAccept_76])
    | succ f ih =>
      intro i2 S H locs ls hw hl h
      rw [xf_R_sendAccept_76] at h
      refine lv_iload_n hx hb dd_R_sendAccept_76 rfl (lv_at hl 2 rfl) ?_
      refine lv_iconst (v := 4) hx hb dd_R_sendAccept_77 rfl ?_
      refine lv_icmp_ge hx hb dd_R_sendAccept_78 rfl (fun b11 => ?_) (fun b11 => ?_)
      · replace h := xs_p b11 h
        refine lv_iconst (v := 0) hx hb dd_R_sendAccept_99 rfl ?_
        refine lv_istore_n hx hb dd_R_sendAccept_100 rfl hl (by decide) rfl (fun ls hl => ?_)
        have hl : lv_has ls 3 [(2, .int 0), (0, .ref (ad k)), (1, .int n1)] := hl
        exact w_101 xs_fuel 0 S _ _ _ hw (lv_sub hl [1, 2, 0] rfl) h
      · replace h := xs_n b11 h
        refine lv_aload_n hx hb dd_R_sendAccept_81 rfl (lv_at hl 0 rfl) ?_
        refine lv_bipush (v := 23) hx hb dd_R_sendAccept_82 rfl ?_
        refine lv_aload_n hx hb dd_R_sendAccept_84 rfl (lv_at hl 0 rfl) ?_
        refine xr_get_R (v := .ref (ad (k + 6))) hx hb hts hown hK hw hk 5 (by decide) (hts _ hw_748) rfl dd_R_sendAccept_85 ?_
        refine lv_iload_n hx hb dd_R_sendAccept_88 rfl (lv_at hl 2 rfl) ?_
        obtain ⟨v19, gv19, h⟩ := xs_ob h
        refine xr_iald hx hb hK hw (xs_ok_R_code hK.1 hk) gv19 dd_R_sendAccept_89 ?_
        obtain ⟨q20, gq20, h⟩ := xs_ob h
        refine xq_v hK hw (va_runV (As := [.int 23, .int v19]) (rest := []) ⟨hx, hb, hml, hown, hts⟩ (xc_R_write l D ad ca ks k 23 v19 S q20 hk gq20 _) ⟨callB_of 2 hts (xs_good hw_876) rfl rfl rfl (hts _ hw_13) (hts _ hw_873) yd_R_write ⟨Nat.le_trans (by decide) hRf, Nat.le_trans (by decide) hRl⟩, (hts _ hw_875), (hts _ hs_12)⟩ ⟨xs_blind, xs_recv_R hK hw hk, fun U h1 h2 => ⟨rfl, xs_pre hK hw h1 h2⟩⟩ rfl rfl hl.1 rfl (lv_room (Nat.le_of_ble_eq_true rfl)) dd_R_sendAccept_90 ⟨Nat.zero_le _, Nat.zero_le _⟩) (fun H locs hw => ?_)
        refine lv_iinc (k := 2) (v := i2 + 1) hx hb dd_R_sendAccept_93 hl rfl rfl (by decide) rfl (fun ls hl => ?_)
        have hl : lv_has ls 3 [(2, .int (i2 + 1)), (0, .ref (ad k)), (1, .int n1)] := hl
        refine lv_goto hx hb dd_R_sendAccept_96 rfl ?_
        exact ih (i2 + 1) q20 _ _ _ hw (lv_sub hl [1, 2, 0] rfl) h
  unfold xf_R_sendAccept at h
  refine lv_aload_n hx hb dd_R_sendAccept_0 rfl (lv_at hl 0 rfl) ?_
  refine xr_get_R (v := .ref (ad (k + 10))) hx hb hts hown hK hw hk 10 (by decide) (hts _ hw_753) rfl dd_R_sendAccept_1 ?_
  refine lv_bipush (v := 23) hx hb dd_R_sendAccept_4 rfl ?_
  refine lv_iconst (v := 0) hx hb dd_R_sendAccept_6 rfl ?_
  obtain ⟨S1, gS1, h⟩ := xs_ob h
  refine xr_iast hx hb hK hw (xs_ok_R_length hK.1 hk) gS1 dd_R_sendAccept_7 (fun H locs hw => ?_)
  refine lv_aload_n hx hb dd_R_sendAccept_8 rfl (lv_at hl 0 rfl) ?_
  refine lv_bipush (v := 23) hx hb dd_R_sendAccept_9 rfl ?_
  refine lv_bipush (v := 32) hx hb dd_R_sendAccept_11 rfl ?_
  obtain ⟨q2, gq2, h⟩ := xs_ob h
  refine xq_v hK hw (va_runV (As := [.int 23, .int 32]) (rest := []) ⟨hx, hb, hml, hown, hts⟩ (xc_R_write l D ad ca ks k 23 32 S1 q2 hk gq2 _) ⟨callB_of 2 hts (xs_good hw_876) rfl rfl rfl (hts _ hw_13) (hts _ hw_873) yd_R_write ⟨Nat.le_trans (by decide) hRf, Nat.le_trans (by decide) hRl⟩, (hts _ hw_875), (hts _ hs_12)⟩ ⟨xs_blind, xs_recv_R hK hw hk, fun U h1 h2 => ⟨rfl, xs_pre hK hw h1 h2⟩⟩ rfl rfl hl.1 rfl (lv_room (Nat.le_of_ble_eq_true rfl)) dd_R_sendAccept_13 ⟨Nat.zero_le _, Nat.zero_le _⟩) (fun H locs hw => ?_)
  refine lv_aload_n hx hb dd_R_sendAccept_16 rfl (lv_at hl 0 rfl) ?_
  refine lv_bipush (v := 23) hx hb dd_R_sendAccept_17 rfl ?_
  refine lv_aload_n hx hb dd_R_sendAccept_19 rfl (lv_at hl 0 rfl) ?_
  refine xr_get_R (v := .ref (ad (k + 23))) hx hb hts hown hK hw hk 26 (by decide) (hts _ hw_769) rfl dd_R_sendAccept_20 ?_
  refine lv_iload_n hx hb dd_R_sendAccept_23 rfl (lv_at hl 1 rfl) ?_
  obtain ⟨v3, gv3, h⟩ := xs_ob h
  refine xr_iald hx hb hK hw (xs_ok_R_ourSerial hK.1 hk) gv3 dd_R_sendAccept_24 ?_
  refine lv_iconst (v := 3) hx hb dd_R_sendAccept_25 rfl ?_
  obtain ⟨q4, gq4, h⟩ := xs_ob h
  refine xq_v hK hw (va_runV (As := [.int 23, .int v3, .int 3]) (rest := []) ⟨hx, hb, hml, hown, hts⟩ (xc_R_writeNumber l D ad ca ks k 23 v3 3 q2 q4 hk gq4 _) ⟨callB_of 3 hts (xs_good hw_880) rfl rfl rfl (hts _ hw_13) (hts _ hw_877) yd_R_writeNumber ⟨Nat.le_trans (by decide) hRf, Nat.le_trans (by decide) hRl⟩, (hts _ hw_879), (hts _ hs_13)⟩ ⟨xs_blind, xs_recv_R hK hw hk, fun U h1 h2 => ⟨rfl, xs_pre hK hw h1 h2⟩⟩ rfl rfl hl.1 rfl (lv_room (Nat.le_of_ble_eq_true rfl)) dd_R_sendAccept_26 ⟨Nat.zero_le _, Nat.zero_le _⟩) (fun H locs hw => ?_)
  refine lv_aload_n hx hb dd_R_sendAccept_29 rfl (lv_at hl 0 rfl) ?_
  refine lv_bipush (v := 23) hx hb dd_R_sendAccept_30 rfl ?_
  refine lv_bipush (v := 19) hx hb dd_R_sendAccept_32 rfl ?_
  refine lv_iconst (v := 3) hx hb dd_R_sendAccept_34 rfl ?_
  obtain ⟨q5, gq5, h⟩ := xs_ob h
  refine xq_v hK hw (va_runV (As := [.int 23, .int 19, .int 3]) (rest := []) ⟨hx, hb, hml, hown, hts⟩ (xc_R_writeNumber l D ad ca ks k 23 19 3 q4 q5 hk gq5 _) ⟨callB_of 3 hts (xs_good hw_880) rfl rfl rfl (hts _ hw_13) (hts _ hw_877) yd_R_writeNumber ⟨Nat.le_trans (by decide) hRf, Nat.le_trans (by decide) hRl⟩, (hts _ hw_879), (hts _ hs_13)⟩ ⟨xs_blind, xs_recv_R hK hw hk, fun U h1 h2 => ⟨rfl, xs_pre hK hw h1 h2⟩⟩ rfl rfl hl.1 rfl (lv_room (Nat.le_of_ble_eq_true rfl)) dd_R_sendAccept_35 ⟨Nat.zero_le _, Nat.zero_le _⟩) (fun H locs hw => ?_)
  refine lv_aload_n hx hb dd_R_sendAccept_38 rfl (lv_at hl 0 rfl) ?_
  refine lv_bipush (v := 23) hx hb dd_R_sendAccept_39 rfl ?_
  refine lv_aload_n hx hb dd_R_sendAccept_41 rfl (lv_at hl 0 rfl) ?_
  refine xr_get_R (v := .ref (ad (k + 22))) hx hb hts hown hK hw hk 25 (by decide) (hts _ hw_768) rfl dd_R_sendAccept_42 ?_
  refine lv_iload_n hx hb dd_R_sendAccept_45 rfl (lv_at hl 1 rfl) ?_
  obtain ⟨v6, gv6, h⟩ := xs_ob h
  refine xr_iald hx hb hK hw (xs_ok_R_ours hK.1 hk) gv6 dd_R_sendAccept_46 ?_
  refine lv_iconst (v := 4) hx hb dd_R_sendAccept_47 rfl ?_
  obtain ⟨q7, gq7, h⟩ := xs_ob h
  refine xq_v hK hw (va_runV (As := [.int 23, .int v6, .int 4]) (rest := []) ⟨hx, hb, hml, hown, hts⟩ (xc_R_writeNumber l D ad ca ks k 23 v6 4 q5 q7 hk gq7 _) ⟨callB_of 3 hts (xs_good hw_880) rfl rfl rfl (hts _ hw_13) (hts _ hw_877) yd_R_writeNumber ⟨Nat.le_trans (by decide) hRf, Nat.le_trans (by decide) hRl⟩, (hts _ hw_879), (hts _ hs_13)⟩ ⟨xs_blind, xs_recv_R hK hw hk, fun U h1 h2 => ⟨rfl, xs_pre hK hw h1 h2⟩⟩ rfl rfl hl.1 rfl (lv_room (Nat.le_of_ble_eq_true rfl)) dd_R_sendAccept_48 ⟨Nat.zero_le _, Nat.zero_le _⟩) (fun H locs hw => ?_)
  refine lv_aload_n hx hb dd_R_sendAccept_51 rfl (lv_at hl 0 rfl) ?_
  refine lv_bipush (v := 23) hx hb dd_R_sendAccept_52 rfl ?_
  refine lv_iconst (v := 0) hx hb dd_R_sendAccept_54 rfl ?_
  obtain ⟨q8, gq8, h⟩ := xs_ob h
  refine xq_v hK hw (va_runV (As := [.int 23, .int 0]) (rest := []) ⟨hx, hb, hml, hown, hts⟩ (xc_R_write l D ad ca ks k 23 0 q7 q8 hk gq8 _) ⟨callB_of 2 hts (xs_good hw_876) rfl rfl rfl (hts _ hw_13) (hts _ hw_873) yd_R_write ⟨Nat.le_trans (by decide) hRf, Nat.le_trans (by decide) hRl⟩, (hts _ hw_875), (hts _ hs_12)⟩ ⟨xs_blind, xs_recv_R hK hw hk, fun U h1 h2 => ⟨rfl, xs_pre hK hw h1 h2⟩⟩ rfl rfl hl.1 rfl (lv_room (Nat.le_of_ble_eq_true rfl)) dd_R_sendAccept_55 ⟨Nat.zero_le _, Nat.zero_le _⟩) (fun H locs hw => ?_)
  refine lv_aload_n hx hb dd_R_sendAccept_58 rfl (lv_at hl 0 rfl) ?_
  refine lv_bipush (v := 23) hx hb dd_R_sendAccept_59 rfl ?_
  refine lv_iconst (v := 1) hx hb dd_R_sendAccept_61 rfl ?_
  obtain ⟨q9, gq9, h⟩ := xs_ob h
  refine xq_v hK hw (va_runV (As := [.int 23, .int 1]) (rest := []) ⟨hx, hb, hml, hown, hts⟩ (xc_R_write l D ad ca ks k 23 1 q8 q9 hk gq9 _) ⟨callB_of 2 hts (xs_good hw_876) rfl rfl rfl (hts _ hw_13) (hts _ hw_873) yd_R_write ⟨Nat.le_trans (by decide) hRf, Nat.le_trans (by decide) hRl⟩, (hts _ hw_875), (hts _ hs_12)⟩ ⟨xs_blind, xs_recv_R hK hw hk, fun U h1 h2 => ⟨rfl, xs_pre hK hw h1 h2⟩⟩ rfl rfl hl.1 rfl (lv_room (Nat.le_of_ble_eq_true rfl)) dd_R_sendAccept_62 ⟨Nat.zero_le _, Nat.zero_le _⟩) (fun H locs hw => ?_)
  refine lv_aload_n hx hb dd_R_sendAccept_65 rfl (lv_at hl 0 rfl) ?_
  refine lv_bipush (v := 23) hx hb dd_R_sendAccept_66 rfl ?_
  refine lv_bipush (v := 13) hx hb dd_R_sendAccept_68 rfl ?_
  refine lv_iload_n hx hb dd_R_sendAccept_70 rfl (lv_at hl 1 rfl) ?_
  obtain ⟨q10, gq10, h⟩ := xs_ob h
  refine xq_v hK hw (va_runV (As := [.int 23, .int 13, .int n1]) (rest := []) ⟨hx, hb, hml, hown, hts⟩ (xc_R_rootCode l D ad ca ks k 23 13 n1 q9 q10 hk gq10 _) ⟨callB_of 3 hts (xs_good hw_884) rfl rfl rfl (hts _ hw_13) (hts _ hw_881) yd_R_rootCode ⟨Nat.le_trans (by decide) hRf, Nat.le_trans (by decide) hRl⟩, (hts _ hw_883), (hts _ hs_14)⟩ ⟨xs_blind, xs_recv_R hK hw hk, fun U h1 h2 => ⟨rfl, xs_pre hK hw h1 h2⟩⟩ rfl rfl hl.1 rfl (lv_room (Nat.le_of_ble_eq_true rfl)) dd_R_sendAccept_71 ⟨Nat.zero_le _, Nat.zero_le _⟩) (fun H locs hw => ?_)
  refine lv_iconst (v := 0) hx hb dd_R_sendAccept_74 rfl ?_
  refine lv_istore_n hx hb dd_R_sendAccept_75 rfl hl (by decide) rfl (fun ls hl => ?_)
  have hl : lv_has ls 3 [(2, .int 0), (0, .ref (ad k)), (1, .int n1)] := hl
  exact w_76 xs_fuel 0 q10 _ _ _ hw (lv_sub hl [1, 2, 0] rfl) h
set_option maxHeartbeats 4000000 in
set_option maxRecDepth 100000 in
theorem xc_R_sendAnswer (l : Launch) (D : va_G) (ad : Nat → Nat) (ca : Nat → ClassId) (ks : List Nat) (k : Nat) (n1 : Int32) (S : xs_T) (T : xs_T) (hk : xs_is ks k xs_cR) (h : xf_R_sendAnswer k n1 S = some T) (sz : Nat) : Met l yy_R_sendAnswer ws_R_sendAnswer { frames := 7, cells := 0, slots := 0, locals := 178 } (va_Pc [.ref (ad k), .int n1] (xs_Pre D ad ca ks S sz)) (va_Qv (fun _ : Unit => True) (fun _ t => va_P D xs_cl (xs_w ad ca ks T) t.heap) (xs_A ad ks sz)) 0 0 (xs_A ad ks sz) := by
  refine xm_v (by decide) (Nat.le_of_ble_eq_true rfl) ?_
  intro p e s m args below meth c R A Q ls hx hb hml hown hts hRf hRl hK hw hl hret
  have hl : lv_has ls 6 [(0, .ref (ad k)), (1, .int n1)] := hl
  have w_218 : ∀ (f : Nat), ∀ (i5 : Int32) (S : xs_T) (H : Heap) (locs : List Loc) (ls : Array Slot), xs_I D ad ca ks A s S H locs → lv_has ls 6 [(0, .ref (ad k)), (1, .int n1), (5, .int i5)] → xf_R_sendAnswer_218 k n1 f i5 S = some T → W p l e R s m args below meth c H locs 0 0 Q (F0 m 218 ls []) := by
    intro f
    induction f with
    | zero => intro i5 S H locs ls hw hl h; exact absurd h (by simp [xf_R_sendAnswer_218])
    | succ f ih =>
      intro i5 S H locs ls hw hl h
      rw [xf_R_sendAnswer_218] at h
      refine lv_iload hx hb dd_R_sendAnswer_218 (lv_at hl 2 rfl) ?_
      refine lv_iconst (v := 4) hx hb dd_R_sendAnswer_220 rfl ?_
      refine lv_iload_n hx hb dd_R_sendAnswer_221 rfl (lv_at hl 1 rfl) ?_
      refine lv_imul hx hb dd_R_sendAnswer_222 ?_
      refine lv_aload_n hx hb dd_R_sendAnswer_223 rfl (lv_at hl 0 rfl) ?_
      refine xr_get_R (v := .ref (ad (k + 33))) hx hb hts hown hK hw hk 36 (by decide) (hts _ hw_779) rfl dd_R_sendAnswer_224 ?_
      refine lv_iload_n hx hb dd_R_sendAnswer_227 rfl (lv_at hl 1 rfl) ?_
      obtain ⟨v23, gv23, h⟩ := xs_ob h
      refine xr_iald hx hb hK hw (xs_ok_R_queued hK.1 hk) gv23 dd_R_sendAnswer_228 ?_
      refine lv_iadd hx hb dd_R_sendAnswer_229 ?_
      refine lv_icmp_ge hx hb dd_R_sendAnswer_230 rfl (fun b24 => ?_) (fun b24 => ?_)
      · replace h := xs_p b24 h
        exact hret h hw dd_R_sendAnswer_271
      · replace h := xs_n b24 h
        refine lv_aload_n hx hb dd_R_sendAnswer_233 rfl (lv_at hl 0 rfl) ?_
        refine xr_get_R (v := .ref (ad (k + 31))) hx hb hts hown hK hw hk 34 (by decide) (hts _ hw_777) rfl dd_R_sendAnswer_234 ?_
        refine lv_iload hx hb dd_R_sendAnswer_237 (lv_at hl 2 rfl) ?_
        refine lv_aload_n hx hb dd_R_sendAnswer_239 rfl (lv_at hl 0 rfl) ?_
        refine xr_get_R (v := .ref (ad (k + 31))) hx hb hts hown hK hw hk 34 (by decide) (hts _ hw_777) rfl dd_R_sendAnswer_240 ?_
        refine lv_iload hx hb dd_R_sendAnswer_243 (lv_at hl 2 rfl) ?_
        refine lv_iconst (v := 1) hx hb dd_R_sendAnswer_245 rfl ?_
        refine lv_iadd hx hb dd_R_sendAnswer_246 ?_
        obtain ⟨v25, gv25, h⟩ := xs_ob h
        refine xr_lald hx hb hK hw (xs_ok_R_queue hK.1 hk) gv25 dd_R_sendAnswer_247 ?_
        obtain ⟨S26, gS26, h⟩ := xs_ob h
        refine xr_last hx hb hK hw (xs_ok_R_queue hK.1 hk) gS26 dd_R_sendAnswer_248 (fun H locs hw => ?_)
        refine lv_aload_n hx hb dd_R_sendAnswer_249 rfl (lv_at hl 0 rfl) ?_
        refine xr_get_R (v := .ref (ad (k + 32))) hx hb hts hown hK hw hk 35 (by decide) (hts _ hw_778) rfl dd_R_sendAnswer_250 ?_
        refine lv_iload hx hb dd_R_sendAnswer_253 (lv_at hl 2 rfl) ?_
        refine lv_aload_n hx hb dd_R_sendAnswer_255 rfl (lv_at hl 0 rfl) ?_
        refine xr_get_R (v := .ref (ad (k + 32))) hx hb hts hown hK hw hk 35 (by decide) (hts _ hw_778) rfl dd_R_sendAnswer_256 ?_
        refine lv_iload hx hb dd_R_sendAnswer_259 (lv_at hl 2 rfl) ?_
        refine lv_iconst (v := 1) hx hb dd_R_sendAnswer_261 rfl ?_
        refine lv_iadd hx hb dd_R_sendAnswer_262 ?_
        obtain ⟨v27, gv27, h⟩ := xs_ob h
        refine xr_iald hx hb hK hw (xs_ok_R_queueLength hK.1 hk) gv27 dd_R_sendAnswer_263 ?_
        obtain ⟨S28, gS28, h⟩ := xs_ob h
        refine xr_iast hx hb hK hw (xs_ok_R_queueLength hK.1 hk) gS28 dd_R_sendAnswer_264 (fun H locs hw => ?_)
        refine lv_iinc (k := 2) (v := i5 + 1) hx hb dd_R_sendAnswer_265 hl rfl rfl (by decide) rfl (fun ls hl => ?_)
        have hl : lv_has ls 6 [(5, .int (i5 + 1)), (0, .ref (ad k)), (1, .int n1)] := hl
        refine lv_goto hx hb dd_R_sendAnswer_268 rfl ?_
        exact ih (i5 + 1) S28 _ _ _ hw (lv_sub hl [1, 2, 0] rfl) h
  have w_171 : ∀ (i2 : Int32) (i4 : Int32) (t1 : Int32) (t2 : Int64) (t3 : Int32) (S : xs_T) (H : Heap) (locs : List Loc) (ls : Array Slot), xs_I D ad ca ks A s S H locs → lv_has ls 6 [(0, .ref (ad k)), (1, .int n1), (2, .int i2), (4, .int i4)] → xf_R_sendAnswer_171 k n1 i2 i4 t1 t2 t3 S = some T → W p l e R s m args below meth c H locs 0 0 Q (F0 m 171 ls [.int t3, .long t2, .int t1, .ref (ad k)]) := by
    intro i2 i4 t1 t2 t3 S H locs ls hw hl h
    unfold xf_R_sendAnswer_171 at h
    refine lv_bipush (v := 9) hx hb dd_R_sendAnswer_171 rfl ?_
    refine lv_iconst (v := 2) hx hb dd_R_sendAnswer_173 rfl ?_
    refine lv_iload_n hx hb dd_R_sendAnswer_174 rfl (lv_at hl 1 rfl) ?_
    refine lv_imul hx hb dd_R_sendAnswer_175 ?_
    refine lv_iadd hx hb dd_R_sendAnswer_176 ?_
    refine lv_iconst (v := 1) hx hb dd_R_sendAnswer_177 rfl ?_
    refine lv_aload_n hx hb dd_R_sendAnswer_178 rfl (lv_at hl 0 rfl) ?_
    refine xr_get_R (v := .ref (ad (k + 22))) hx hb hts hown hK hw hk 25 (by decide) (hts _ hw_768) rfl dd_R_sendAnswer_179 ?_
    refine lv_iload_n hx hb dd_R_sendAnswer_182 rfl (lv_at hl 1 rfl) ?_
    obtain ⟨v16, gv16, h⟩ := xs_ob h
    refine xr_iald hx hb hK hw (xs_ok_R_ours hK.1 hk) gv16 dd_R_sendAnswer_183 ?_
    refine lv_iload_n hx hb dd_R_sendAnswer_184 rfl (lv_at hl 2 rfl) ?_
    obtain ⟨q17, gq17, h⟩ := xs_ob h
    refine xq_v hK hw (va_runV (As := [.int t1, .long t2, .int t3, .int (9 + (2 * n1)), .int 1, .int v16, .int i2]) (rest := []) ⟨hx, hb, hml, hown, hts⟩ (xc_R_finish l D ad ca ks k t1 t2 t3 (9 + (2 * n1)) 1 v16 i2 S q17 hk gq17 _) ⟨callB_of 7 hts (xs_good hw_940) rfl rfl rfl (hts _ hw_13) (hts _ hw_937) yd_R_finish ⟨Nat.le_trans (by decide) hRf, Nat.le_trans (by decide) hRl⟩, (hts _ hw_939), (hts _ hs_27)⟩ ⟨xs_blind, xs_recv_R hK hw hk, fun U h1 h2 => ⟨rfl, xs_pre hK hw h1 h2⟩⟩ rfl rfl hl.1 rfl (lv_room (Nat.le_of_ble_eq_true rfl)) dd_R_sendAnswer_185 ⟨Nat.zero_le _, Nat.zero_le _⟩) (fun H locs hw => ?_)
    refine lv_aload_n hx hb dd_R_sendAnswer_188 rfl (lv_at hl 0 rfl) ?_
    refine xr_get_R (v := .ref (ad (k + 25))) hx hb hts hown hK hw hk 28 (by decide) (hts _ hw_771) rfl dd_R_sendAnswer_189 ?_
    refine lv_iload_n hx hb dd_R_sendAnswer_192 rfl (lv_at hl 1 rfl) ?_
    refine lv_dup2_11 hx hb dd_R_sendAnswer_193 rfl rfl ?_
    obtain ⟨v18, gv18, h⟩ := xs_ob h
    refine xr_iald hx hb hK hw (xs_ok_R_nextDown hK.1 hk) gv18 dd_R_sendAnswer_194 ?_
    refine lv_iconst (v := 1) hx hb dd_R_sendAnswer_195 rfl ?_
    refine lv_iadd hx hb dd_R_sendAnswer_196 ?_
    obtain ⟨S19, gS19, h⟩ := xs_ob h
    refine xr_iast hx hb hK hw (xs_ok_R_nextDown hK.1 hk) gS19 dd_R_sendAnswer_197 (fun H locs hw => ?_)
    refine lv_iload hx hb dd_R_sendAnswer_198 (lv_at hl 3 rfl) ?_
    refine lv_if_eq hx hb dd_R_sendAnswer_200 rfl (fun b20 => ?_) (fun b20 => ?_)
    · replace h := xs_p b20 h
      exact hret h hw dd_R_sendAnswer_271
    · replace h := xs_n b20 h
      refine lv_aload_n hx hb dd_R_sendAnswer_203 rfl (lv_at hl 0 rfl) ?_
      refine xr_get_R (v := .ref (ad (k + 33))) hx hb hts hown hK hw hk 36 (by decide) (hts _ hw_779) rfl dd_R_sendAnswer_204 ?_
      refine lv_iload_n hx hb dd_R_sendAnswer_207 rfl (lv_at hl 1 rfl) ?_
      refine lv_dup2_11 hx hb dd_R_sendAnswer_208 rfl rfl ?_
      obtain ⟨v21, gv21, h⟩ := xs_ob h
      refine xr_iald hx hb hK hw (xs_ok_R_queued hK.1 hk) gv21 dd_R_sendAnswer_209 ?_
      refine lv_iconst (v := 1) hx hb dd_R_sendAnswer_210 rfl ?_
      refine lv_isub hx hb dd_R_sendAnswer_211 ?_
      obtain ⟨S22, gS22, h⟩ := xs_ob h
      refine xr_iast hx hb hK hw (xs_ok_R_queued hK.1 hk) gS22 dd_R_sendAnswer_212 (fun H locs hw => ?_)
      refine lv_iconst (v := 4) hx hb dd_R_sendAnswer_213 rfl ?_
      refine lv_iload_n hx hb dd_R_sendAnswer_214 rfl (lv_at hl 1 rfl) ?_
      refine lv_imul hx hb dd_R_sendAnswer_215 ?_
      refine lv_istore hx hb dd_R_sendAnswer_216 hl (by decide) rfl (fun ls hl => ?_)
      have hl : lv_has ls 6 [(5, .int (4 * n1)), (0, .ref (ad k)), (1, .int n1), (2, .int i2), (4, .int i4)] := hl
      exact w_218 xs_fuel (4 * n1) S22 _ _ _ hw (lv_sub hl [1, 2, 0] rfl) h
  have w_154 : ∀ (i2 : Int32) (i4 : Int32) (t1 : Int32) (t2 : Int64) (S : xs_T) (H : Heap) (locs : List Loc) (ls : Array Slot), xs_I D ad ca ks A s S H locs → lv_has ls 6 [(0, .ref (ad k)), (1, .int n1), (2, .int i2), (4, .int i4)] → xf_R_sendAnswer_154 k n1 i2 i4 t1 t2 S = some T → W p l e R s m args below meth c H locs 0 0 Q (F0 m 154 ls [.long t2, .int t1, .ref (ad k)]) := by
    intro i2 i4 t1 t2 S H locs ls hw hl h
    unfold xf_R_sendAnswer_154 at h
    refine lv_iload hx hb dd_R_sendAnswer_154 (lv_at hl 3 rfl) ?_
    refine lv_if_eq hx hb dd_R_sendAnswer_156 rfl (fun b15 => ?_) (fun b15 => ?_)
    · replace h := xs_p b15 h
      refine lv_iconst (v := 0) hx hb dd_R_sendAnswer_170 rfl ?_
      exact w_171 i2 i4 t1 t2 0 S _ _ _ hw (lv_sub hl [0, 1, 2, 3] rfl) h
    · replace h := xs_n b15 h
      refine lv_aload_n hx hb dd_R_sendAnswer_159 rfl (lv_at hl 0 rfl) ?_
      refine xr_get_R (v := .ref (ad (k + 32))) hx hb hts hown hK hw hk 35 (by decide) (hts _ hw_778) rfl dd_R_sendAnswer_160 ?_
      refine lv_iconst (v := 4) hx hb dd_R_sendAnswer_163 rfl ?_
      refine lv_iload_n hx hb dd_R_sendAnswer_164 rfl (lv_at hl 1 rfl) ?_
      refine lv_imul hx hb dd_R_sendAnswer_165 ?_
      obtain ⟨v29, gv29, h⟩ := xs_ob h
      refine xr_iald hx hb hK hw (xs_ok_R_queueLength hK.1 hk) gv29 dd_R_sendAnswer_166 ?_
      refine lv_goto hx hb dd_R_sendAnswer_167 rfl ?_
      exact w_171 i2 i4 t1 t2 v29 S _ _ _ hw (lv_sub hl [0, 1, 2, 3] rfl) h
  have w_132 : ∀ (i2 : Int32) (t0 : Int32) (S : xs_T) (H : Heap) (locs : List Loc) (ls : Array Slot), xs_I D ad ca ks A s S H locs → lv_has ls 6 [(0, .ref (ad k)), (1, .int n1), (2, .int i2)] → xf_R_sendAnswer_132 k n1 i2 t0 S = some T → W p l e R s m args below meth c H locs 0 0 Q (F0 m 132 ls [.int t0]) := by
    intro i2 t0 S H locs ls hw hl h
    unfold xf_R_sendAnswer_132 at h
    refine lv_istore hx hb dd_R_sendAnswer_132 hl (by decide) rfl (fun ls hl => ?_)
    have hl : lv_has ls 6 [(4, .int t0), (0, .ref (ad k)), (1, .int n1), (2, .int i2)] := hl
    refine lv_aload_n hx hb dd_R_sendAnswer_134 rfl (lv_at hl 1 rfl) ?_
    refine lv_bipush (v := 23) hx hb dd_R_sendAnswer_135 rfl ?_
    refine lv_iload hx hb dd_R_sendAnswer_137 (lv_at hl 0 rfl) ?_
    refine lv_if_eq hx hb dd_R_sendAnswer_139 rfl (fun b14 => ?_) (fun b14 => ?_)
    · replace h := xs_p b14 h
      refine lv_lconst (v := 0) hx hb dd_R_sendAnswer_153 rfl ?_
      exact w_154 i2 t0 23 0 S _ _ _ hw (lv_sub hl [1, 2, 3, 0] rfl) h
    · replace h := xs_n b14 h
      refine lv_aload_n hx hb dd_R_sendAnswer_142 rfl (lv_at hl 1 rfl) ?_
      refine xr_get_R (v := .ref (ad (k + 31))) hx hb hts hown hK hw hk 34 (by decide) (hts _ hw_777) rfl dd_R_sendAnswer_143 ?_
      refine lv_iconst (v := 4) hx hb dd_R_sendAnswer_146 rfl ?_
      refine lv_iload_n hx hb dd_R_sendAnswer_147 rfl (lv_at hl 2 rfl) ?_
      refine lv_imul hx hb dd_R_sendAnswer_148 ?_
      obtain ⟨v30, gv30, h⟩ := xs_ob h
      refine xr_lald hx hb hK hw (xs_ok_R_queue hK.1 hk) gv30 dd_R_sendAnswer_149 ?_
      refine lv_goto hx hb dd_R_sendAnswer_150 rfl ?_
      exact w_154 i2 t0 23 v30 S _ _ _ hw (lv_sub hl [1, 2, 3, 0] rfl) h
  have w_118 : ∀ (i2 : Int32) (S : xs_T) (H : Heap) (locs : List Loc) (ls : Array Slot), xs_I D ad ca ks A s S H locs → lv_has ls 6 [(0, .ref (ad k)), (1, .int n1), (2, .int i2)] → xf_R_sendAnswer_118 k n1 i2 S = some T → W p l e R s m args below meth c H locs 0 0 Q (F0 m 118 ls []) := by
    intro i2 S H locs ls hw hl h
    unfold xf_R_sendAnswer_118 at h
    refine lv_aload_n hx hb dd_R_sendAnswer_118 rfl (lv_at hl 0 rfl) ?_
    refine xr_get_R (v := .ref (ad (k + 33))) hx hb hts hown hK hw hk 36 (by decide) (hts _ hw_779) rfl dd_R_sendAnswer_119 ?_
    refine lv_iload_n hx hb dd_R_sendAnswer_122 rfl (lv_at hl 1 rfl) ?_
    obtain ⟨v12, gv12, h⟩ := xs_ob h
    refine xr_iald hx hb hK hw (xs_ok_R_queued hK.1 hk) gv12 dd_R_sendAnswer_123 ?_
    refine lv_if_le hx hb dd_R_sendAnswer_124 rfl (fun b13 => ?_) (fun b13 => ?_)
    · replace h := xs_p b13 h
      refine lv_iconst (v := 0) hx hb dd_R_sendAnswer_131 rfl ?_
      exact w_132 i2 0 S _ _ _ hw (lv_sub hl [0, 1, 2] rfl) h
    · replace h := xs_n b13 h
      refine lv_iconst (v := 1) hx hb dd_R_sendAnswer_127 rfl ?_
      refine lv_goto hx hb dd_R_sendAnswer_128 rfl ?_
      exact w_132 i2 1 S _ _ _ hw (lv_sub hl [0, 1, 2] rfl) h
  have w_53 : ∀ (i2 : Int32) (t0 : Int32) (t1 : Int32) (S : xs_T) (H : Heap) (locs : List Loc) (ls : Array Slot), xs_I D ad ca ks A s S H locs → lv_has ls 6 [(0, .ref (ad k)), (1, .int n1), (2, .int i2)] → xf_R_sendAnswer_53 k n1 i2 t0 t1 S = some T → W p l e R s m args below meth c H locs 0 0 Q (F0 m 53 ls [.int t1, .int t0]) := by
    intro i2 t0 t1 S H locs ls hw hl h
    unfold xf_R_sendAnswer_53 at h
    refine lv_iadd hx hb dd_R_sendAnswer_53 ?_
    refine lv_istore_n hx hb dd_R_sendAnswer_54 rfl hl (by decide) rfl (fun ls hl => ?_)
    have hl : lv_has ls 6 [(3, .int (t0 + t1)), (0, .ref (ad k)), (1, .int n1), (2, .int i2)] := hl
    refine lv_aload_n hx hb dd_R_sendAnswer_55 rfl (lv_at hl 1 rfl) ?_
    refine lv_bipush (v := 23) hx hb dd_R_sendAnswer_56 rfl ?_
    refine lv_bipush (v := 96) hx hb dd_R_sendAnswer_58 rfl ?_
    refine lv_aload_n hx hb dd_R_sendAnswer_60 rfl (lv_at hl 1 rfl) ?_
    refine xr_get_R (v := .ref (ad (k + 22))) hx hb hts hown hK hw hk 25 (by decide) (hts _ hw_768) rfl dd_R_sendAnswer_61 ?_
    refine lv_iload_n hx hb dd_R_sendAnswer_64 rfl (lv_at hl 2 rfl) ?_
    obtain ⟨v8, gv8, h⟩ := xs_ob h
    refine xr_iald hx hb hK hw (xs_ok_R_ours hK.1 hk) gv8 dd_R_sendAnswer_65 ?_
    refine lv_iload_n hx hb dd_R_sendAnswer_66 rfl (lv_at hl 0 rfl) ?_
    refine lv_iload_n hx hb dd_R_sendAnswer_67 rfl (lv_at hl 3 rfl) ?_
    obtain ⟨q9, gq9, h⟩ := xs_ob h
    refine xq_v hK hw (va_runV (As := [.int 23, .int 96, .int v8, .int (t0 + t1), .int i2]) (rest := []) ⟨hx, hb, hml, hown, hts⟩ (xc_R_begin l D ad ca ks k 23 96 v8 (t0 + t1) i2 S q9 hk gq9 _) ⟨callB_of 5 hts (xs_good hw_936) rfl rfl rfl (hts _ hw_13) (hts _ hw_933) yd_R_begin ⟨Nat.le_trans (by decide) hRf, Nat.le_trans (by decide) hRl⟩, (hts _ hw_935), (hts _ hs_26)⟩ ⟨xs_blind, xs_recv_R hK hw hk, fun U h1 h2 => ⟨rfl, xs_pre hK hw h1 h2⟩⟩ rfl rfl hl.1 rfl (lv_room (Nat.le_of_ble_eq_true rfl)) dd_R_sendAnswer_68 ⟨Nat.zero_le _, Nat.zero_le _⟩) (fun H locs hw => ?_)
    refine lv_aload_n hx hb dd_R_sendAnswer_71 rfl (lv_at hl 1 rfl) ?_
    refine xr_get_R (v := .ref (ad (k + 30))) hx hb hts hown hK hw hk 33 (by decide) (hts _ hw_776) rfl dd_R_sendAnswer_72 ?_
    refine lv_iload_n hx hb dd_R_sendAnswer_75 rfl (lv_at hl 2 rfl) ?_
    obtain ⟨v10, gv10, h⟩ := xs_ob h
    refine xr_zald hx hb hK hw (xs_ok_R_checks hK.1 hk) gv10 dd_R_sendAnswer_76 ?_
    refine lv_if_eq hx hb dd_R_sendAnswer_77 rfl (fun b11 => ?_) (fun b11 => ?_)
    · replace h := xs_p b11 h
      exact w_118 i2 q9 _ _ _ hw (lv_sub hl [1, 2, 3] rfl) h
    · replace h := xs_n b11 h
      refine lv_aload_n hx hb dd_R_sendAnswer_80 rfl (lv_at hl 1 rfl) ?_
      refine lv_bipush (v := 23) hx hb dd_R_sendAnswer_81 rfl ?_
      refine lv_iconst (v := 2) hx hb dd_R_sendAnswer_83 rfl ?_
      obtain ⟨q31, gq31, h⟩ := xs_ob h
      refine xq_v hK hw (va_runV (As := [.int 23, .int 2]) (rest := []) ⟨hx, hb, hml, hown, hts⟩ (xc_R_write l D ad ca ks k 23 2 q9 q31 hk gq31 _) ⟨callB_of 2 hts (xs_good hw_876) rfl rfl rfl (hts _ hw_13) (hts _ hw_873) yd_R_write ⟨Nat.le_trans (by decide) hRf, Nat.le_trans (by decide) hRl⟩, (hts _ hw_875), (hts _ hs_12)⟩ ⟨xs_blind, xs_recv_R hK hw hk, fun U h1 h2 => ⟨rfl, xs_pre hK hw h1 h2⟩⟩ rfl rfl hl.1 rfl (lv_room (Nat.le_of_ble_eq_true rfl)) dd_R_sendAnswer_84 ⟨Nat.zero_le _, Nat.zero_le _⟩) (fun H locs hw => ?_)
      refine lv_aload_n hx hb dd_R_sendAnswer_87 rfl (lv_at hl 1 rfl) ?_
      refine lv_bipush (v := 23) hx hb dd_R_sendAnswer_88 rfl ?_
      refine lv_bipush (v := 10) hx hb dd_R_sendAnswer_90 rfl ?_
      obtain ⟨q32, gq32, h⟩ := xs_ob h
      refine xq_v hK hw (va_runV (As := [.int 23, .int 10]) (rest := []) ⟨hx, hb, hml, hown, hts⟩ (xc_R_write l D ad ca ks k 23 10 q31 q32 hk gq32 _) ⟨callB_of 2 hts (xs_good hw_876) rfl rfl rfl (hts _ hw_13) (hts _ hw_873) yd_R_write ⟨Nat.le_trans (by decide) hRf, Nat.le_trans (by decide) hRl⟩, (hts _ hw_875), (hts _ hs_12)⟩ ⟨xs_blind, xs_recv_R hK hw hk, fun U h1 h2 => ⟨rfl, xs_pre hK hw h1 h2⟩⟩ rfl rfl hl.1 rfl (lv_room (Nat.le_of_ble_eq_true rfl)) dd_R_sendAnswer_92 ⟨Nat.zero_le _, Nat.zero_le _⟩) (fun H locs hw => ?_)
      refine lv_aload_n hx hb dd_R_sendAnswer_95 rfl (lv_at hl 1 rfl) ?_
      refine lv_bipush (v := 23) hx hb dd_R_sendAnswer_96 rfl ?_
      refine lv_aload_n hx hb dd_R_sendAnswer_98 rfl (lv_at hl 1 rfl) ?_
      refine xr_get_R (v := .ref (ad (k + 27))) hx hb hts hown hK hw hk 30 (by decide) (hts _ hw_773) rfl dd_R_sendAnswer_99 ?_
      refine lv_iload_n hx hb dd_R_sendAnswer_102 rfl (lv_at hl 2 rfl) ?_
      obtain ⟨v33, gv33, h⟩ := xs_ob h
      refine xr_iald hx hb hK hw (xs_ok_R_gateways hK.1 hk) gv33 dd_R_sendAnswer_103 ?_
      refine lv_iconst (v := 1) hx hb dd_R_sendAnswer_104 rfl ?_
      refine lv_iand hx hb dd_R_sendAnswer_105 ?_
      refine lv_aload_n hx hb dd_R_sendAnswer_106 rfl (lv_at hl 1 rfl) ?_
      refine xr_get_R (v := .ref (ad (k + 27))) hx hb hts hown hK hw hk 30 (by decide) (hts _ hw_773) rfl dd_R_sendAnswer_107 ?_
      refine lv_iload_n hx hb dd_R_sendAnswer_110 rfl (lv_at hl 2 rfl) ?_
      obtain ⟨v34, gv34, h⟩ := xs_ob h
      refine xr_iald hx hb hK hw (xs_ok_R_gateways hK.1 hk) gv34 dd_R_sendAnswer_111 ?_
      refine lv_iconst (v := 1) hx hb dd_R_sendAnswer_112 rfl ?_
      refine lv_ishr hx hb dd_R_sendAnswer_113 ?_
      refine lv_iadd hx hb dd_R_sendAnswer_114 ?_
      obtain ⟨q35, gq35, h⟩ := xs_ob h
      refine xq_v hK hw (va_runV (As := [.int 23, .int ((v33 &&& 1) + (v34 >>> ((1 : Int32) &&& 31) : Int32))]) (rest := []) ⟨hx, hb, hml, hown, hts⟩ (xc_R_write l D ad ca ks k 23 ((v33 &&& 1) + (v34 >>> ((1 : Int32) &&& 31) : Int32)) q32 q35 hk gq35 _) ⟨callB_of 2 hts (xs_good hw_876) rfl rfl rfl (hts _ hw_13) (hts _ hw_873) yd_R_write ⟨Nat.le_trans (by decide) hRf, Nat.le_trans (by decide) hRl⟩, (hts _ hw_875), (hts _ hs_12)⟩ ⟨xs_blind, xs_recv_R hK hw hk, fun U h1 h2 => ⟨rfl, xs_pre hK hw h1 h2⟩⟩ rfl rfl hl.1 rfl (lv_room (Nat.le_of_ble_eq_true rfl)) dd_R_sendAnswer_115 ⟨Nat.zero_le _, Nat.zero_le _⟩) (fun H locs hw => ?_)
      exact w_118 i2 q35 _ _ _ hw (lv_sub hl [1, 2, 3] rfl) h
  have w_38 : ∀ (i2 : Int32) (t0 : Int32) (t1 : Int32) (S : xs_T) (H : Heap) (locs : List Loc) (ls : Array Slot), xs_I D ad ca ks A s S H locs → lv_has ls 6 [(0, .ref (ad k)), (1, .int n1), (2, .int i2)] → xf_R_sendAnswer_38 k n1 i2 t0 t1 S = some T → W p l e R s m args below meth c H locs 0 0 Q (F0 m 38 ls [.int t1, .int t0]) := by
    intro i2 t0 t1 S H locs ls hw hl h
    unfold xf_R_sendAnswer_38 at h
    refine lv_iadd hx hb dd_R_sendAnswer_38 ?_
    refine lv_aload_n hx hb dd_R_sendAnswer_39 rfl (lv_at hl 0 rfl) ?_
    refine xr_get_R (v := .ref (ad (k + 30))) hx hb hts hown hK hw hk 33 (by decide) (hts _ hw_776) rfl dd_R_sendAnswer_40 ?_
    refine lv_iload_n hx hb dd_R_sendAnswer_43 rfl (lv_at hl 1 rfl) ?_
    obtain ⟨v6, gv6, h⟩ := xs_ob h
    refine xr_zald hx hb hK hw (xs_ok_R_checks hK.1 hk) gv6 dd_R_sendAnswer_44 ?_
    refine lv_if_eq hx hb dd_R_sendAnswer_45 rfl (fun b7 => ?_) (fun b7 => ?_)
    · replace h := xs_p b7 h
      refine lv_iconst (v := 0) hx hb dd_R_sendAnswer_52 rfl ?_
      exact w_53 i2 (t0 + t1) 0 S _ _ _ hw (lv_sub hl [0, 1, 2] rfl) h
    · replace h := xs_n b7 h
      refine lv_iconst (v := 3) hx hb dd_R_sendAnswer_48 rfl ?_
      refine lv_goto hx hb dd_R_sendAnswer_49 rfl ?_
      exact w_53 i2 (t0 + t1) 3 S _ _ _ hw (lv_sub hl [0, 1, 2] rfl) h
  have w_22 : ∀ (i2 : Int32) (t0 : Int32) (S : xs_T) (H : Heap) (locs : List Loc) (ls : Array Slot), xs_I D ad ca ks A s S H locs → lv_has ls 6 [(0, .ref (ad k)), (1, .int n1), (2, .int i2)] → xf_R_sendAnswer_22 k n1 i2 t0 S = some T → W p l e R s m args below meth c H locs 0 0 Q (F0 m 22 ls [.int t0]) := by
    intro i2 t0 S H locs ls hw hl h
    unfold xf_R_sendAnswer_22 at h
    refine lv_aload_n hx hb dd_R_sendAnswer_22 rfl (lv_at hl 0 rfl) ?_
    refine xr_get_R (v := .ref (ad (k + 33))) hx hb hts hown hK hw hk 36 (by decide) (hts _ hw_779) rfl dd_R_sendAnswer_23 ?_
    refine lv_iload_n hx hb dd_R_sendAnswer_26 rfl (lv_at hl 1 rfl) ?_
    obtain ⟨v4, gv4, h⟩ := xs_ob h
    refine xr_iald hx hb hK hw (xs_ok_R_queued hK.1 hk) gv4 dd_R_sendAnswer_27 ?_
    refine lv_iconst (v := 1) hx hb dd_R_sendAnswer_28 rfl ?_
    refine lv_icmp_le hx hb dd_R_sendAnswer_29 rfl (fun b5 => ?_) (fun b5 => ?_)
    · replace h := xs_p b5 h
      refine lv_iconst (v := 0) hx hb dd_R_sendAnswer_37 rfl ?_
      exact w_38 i2 t0 0 S _ _ _ hw (lv_sub hl [0, 1, 2] rfl) h
    · replace h := xs_n b5 h
      refine lv_bipush (v := 16) hx hb dd_R_sendAnswer_32 rfl ?_
      refine lv_goto hx hb dd_R_sendAnswer_34 rfl ?_
      exact w_38 i2 t0 16 S _ _ _ hw (lv_sub hl [0, 1, 2] rfl) h
  unfold xf_R_sendAnswer at h
  refine lv_aload_n hx hb dd_R_sendAnswer_0 rfl (lv_at hl 0 rfl) ?_
  refine xr_get_R (v := .ref (ad (k + 25))) hx hb hts hown hK hw hk 28 (by decide) (hts _ hw_771) rfl dd_R_sendAnswer_1 ?_
  refine lv_iload_n hx hb dd_R_sendAnswer_4 rfl (lv_at hl 1 rfl) ?_
  obtain ⟨v1, gv1, h⟩ := xs_ob h
  refine xr_iald hx hb hK hw (xs_ok_R_nextDown hK.1 hk) gv1 dd_R_sendAnswer_5 ?_
  refine lv_istore_n hx hb dd_R_sendAnswer_6 rfl hl (by decide) rfl (fun ls hl => ?_)
  have hl : lv_has ls 6 [(2, .int v1), (0, .ref (ad k)), (1, .int n1)] := hl
  refine lv_aload_n hx hb dd_R_sendAnswer_7 rfl (lv_at hl 1 rfl) ?_
  refine xr_get_R (v := .ref (ad (k + 29))) hx hb hts hown hK hw hk 32 (by decide) (hts _ hw_775) rfl dd_R_sendAnswer_8 ?_
  refine lv_iload_n hx hb dd_R_sendAnswer_11 rfl (lv_at hl 2 rfl) ?_
  obtain ⟨v2, gv2, h⟩ := xs_ob h
  refine xr_zald hx hb hK hw (xs_ok_R_acknowledges hK.1 hk) gv2 dd_R_sendAnswer_12 ?_
  refine lv_if_eq hx hb dd_R_sendAnswer_13 rfl (fun b3 => ?_) (fun b3 => ?_)
  · replace h := xs_p b3 h
    refine lv_iconst (v := 0) hx hb dd_R_sendAnswer_21 rfl ?_
    exact w_22 v1 0 S _ _ _ hw (lv_sub hl [1, 2, 0] rfl) h
  · replace h := xs_n b3 h
    refine lv_bipush (v := 32) hx hb dd_R_sendAnswer_16 rfl ?_
    refine lv_goto hx hb dd_R_sendAnswer_18 rfl ?_
    exact w_22 v1 32 S _ _ _ hw (lv_sub hl [1, 2, 0] rfl) h
set_option maxHeartbeats 4000000 in
set_option maxRecDepth 100000 in
theorem xc_R_tick (l : Launch) (D : va_G) (ad : Nat → Nat) (ca : Nat → ClassId) (ks : List Nat) (k : Nat) (n1 : Int32) (S : xs_T) (r : Int32) (T : xs_T) (hk : xs_is ks k xs_cR) (h : xf_R_tick k n1 S = some (r, T)) (sz : Nat) : Met l yy_R_tick ws_R_tick { frames := 8, cells := 0, slots := 0, locals := 203 } (va_Pc [.ref (ad k), .int n1] (xs_Pre D ad ca ks S sz)) (va_Qi (fun r1 (_ : Unit) => r1 = r) (fun _ t => va_P D xs_cl (xs_w ad ca ks T) t.heap) (xs_A ad ks sz)) 0 0 (xs_A ad ks sz) := by
  refine xm_i (by decide) (Nat.le_of_ble_eq_true rfl) ?_
  intro p e s m args below meth c R A Q ls hx hb hml hown hts hRf hRl hK hw hl hret
  have hl : lv_has ls 4 [(0, .ref (ad k)), (1, .int n1)] := hl
  have w_105 : ∀ (c15 : Int32 → xs_T → Option (Int32 × xs_T)) (y15 : ∀ (i2 : Int32) (S : xs_T) (H : Heap) (locs : List Loc) (ls : Array Slot), xs_I D ad ca ks A s S H locs → lv_has ls 4 [(0, .ref (ad k)), (1, .int n1), (2, .int i2)] → c15 i2 S = some (r, T) → W p l e R s m args below meth c H locs 0 0 Q (F0 m 15 ls [])), ∀ (f : Nat), ∀ (i2 : Int32) (i3 : Int32) (S : xs_T) (H : Heap) (locs : List Loc) (ls : Array Slot), xs_I D ad ca ks A s S H locs → lv_has ls 4 [(0, .ref (ad k)), (1, .int n1), (2, .int i2), (3, .int i3)] → xf_R_tick_105 k n1 c15 f i2 i3 S = some (r, T) → W p l e R s m args below meth c H locs 0 0 Q (F0 m 105 ls []) := by
    intro c15 y15 f
    induction f with
    | zero => intro i2 i3 S H locs ls hw hl h; exact absurd h (by simp [xf_R_tick_105])
    | succ f ih =>
      intro i2 i3 S H locs ls hw hl h
      rw [xf_R_tick_105] at h
      refine lv_iload_n hx hb dd_R_tick_105 rfl (lv_at hl 3 rfl) ?_
      refine lv_iconst (v := 3) hx hb dd_R_tick_106 rfl ?_
      refine lv_icmp_ge hx hb dd_R_tick_107 rfl (fun b6 => ?_) (fun b6 => ?_)
      · replace h := xs_p b6 h
        refine lv_iinc (k := 2) (v := i2 + 1) hx hb dd_R_tick_121 hl rfl rfl (by decide) rfl (fun ls hl => ?_)
        have hl : lv_has ls 4 [(2, .int (i2 + 1)), (0, .ref (ad k)), (1, .int n1), (3, .int i3)] := hl
        refine lv_goto hx hb dd_R_tick_124 rfl ?_
        exact y15 (i2 + 1) S _ _ _ hw (lv_sub hl [1, 2, 0] rfl) h
      · replace h := xs_n b6 h
        refine lv_aload_n hx hb dd_R_tick_110 rfl (lv_at hl 0 rfl) ?_
        refine lv_iload_n hx hb dd_R_tick_111 rfl (lv_at hl 3 rfl) ?_
        obtain ⟨q7, gq7, h⟩ := xs_ob h
        refine xq_v hK hw (va_runV (As := [.int i3]) (rest := []) ⟨hx, hb, hml, hown, hts⟩ (xc_R_timeOut l D ad ca ks k i3 S q7 hk gq7 _) ⟨callB_of 1 hts (xs_good hw_1051) rfl rfl rfl (hts _ hw_13) (hts _ hw_1048) yd_R_timeOut ⟨Nat.le_trans (by decide) hRf, Nat.le_trans (by decide) hRl⟩, (hts _ hw_1050), (hts _ hs_48)⟩ ⟨xs_blind, xs_recv_R hK hw hk, fun U h1 h2 => ⟨rfl, xs_pre hK hw h1 h2⟩⟩ rfl rfl hl.1 rfl (lv_room (Nat.le_of_ble_eq_true rfl)) dd_R_tick_112 ⟨Nat.zero_le _, Nat.zero_le _⟩) (fun H locs hw => ?_)
        refine lv_iinc (k := 3) (v := i3 + 1) hx hb dd_R_tick_115 hl rfl rfl (by decide) rfl (fun ls hl => ?_)
        have hl : lv_has ls 4 [(3, .int (i3 + 1)), (0, .ref (ad k)), (1, .int n1), (2, .int i2)] := hl
        refine lv_goto hx hb dd_R_tick_118 rfl ?_
        exact ih i2 (i3 + 1) q7 _ _ _ hw (lv_sub hl [1, 2, 3, 0] rfl) h
  have w_90 : ∀ (c15 : Int32 → xs_T → Option (Int32 × xs_T)) (y15 : ∀ (i2 : Int32) (S : xs_T) (H : Heap) (locs : List Loc) (ls : Array Slot), xs_I D ad ca ks A s S H locs → lv_has ls 4 [(0, .ref (ad k)), (1, .int n1), (2, .int i2)] → c15 i2 S = some (r, T) → W p l e R s m args below meth c H locs 0 0 Q (F0 m 15 ls [])), ∀ (c32 : Int32 → Int32 → xs_T → Option (Int32 × xs_T)) (y32 : ∀ (i2 : Int32) (i3 : Int32) (S : xs_T) (H : Heap) (locs : List Loc) (ls : Array Slot), xs_I D ad ca ks A s S H locs → lv_has ls 4 [(0, .ref (ad k)), (1, .int n1), (2, .int i2), (3, .int i3)] → c32 i2 i3 S = some (r, T) → W p l e R s m args below meth c H locs 0 0 Q (F0 m 32 ls [])), ∀ (i2 : Int32) (i3 : Int32) (S : xs_T) (H : Heap) (locs : List Loc) (ls : Array Slot), xs_I D ad ca ks A s S H locs → lv_has ls 4 [(0, .ref (ad k)), (1, .int n1), (2, .int i2), (3, .int i3)] → xf_R_tick_90 k n1 c15 c32 i2 i3 S = some (r, T) → W p l e R s m args below meth c H locs 0 0 Q (F0 m 90 ls []) := by
    intro c15 y15 c32 y32 i2 i3 S H locs ls hw hl h
    unfold xf_R_tick_90 at h
    refine lv_aload_n hx hb dd_R_tick_90 rfl (lv_at hl 0 rfl) ?_
    refine xr_get_R (v := .ref (ad (k + 28))) hx hb hts hown hK hw hk 31 (by decide) (hts _ hw_774) rfl dd_R_tick_91 ?_
    refine lv_iload_n hx hb dd_R_tick_94 rfl (lv_at hl 3 rfl) ?_
    refine lv_iconst (v := 0) hx hb dd_R_tick_95 rfl ?_
    obtain ⟨S15, gS15, h⟩ := xs_ob h
    refine xr_iast hx hb hK hw (xs_ok_R_due hK.1 hk) gS15 dd_R_tick_96 (fun H locs hw => ?_)
    refine lv_iinc (k := 3) (v := i3 + 1) hx hb dd_R_tick_97 hl rfl rfl (by decide) rfl (fun ls hl => ?_)
    have hl : lv_has ls 4 [(3, .int (i3 + 1)), (0, .ref (ad k)), (1, .int n1), (2, .int i2)] := hl
    refine lv_goto hx hb dd_R_tick_100 rfl ?_
    exact y32 i2 (i3 + 1) S15 _ _ _ hw (lv_sub hl [1, 2, 3, 0] rfl) h
  have w_67 : ∀ (c15 : Int32 → xs_T → Option (Int32 × xs_T)) (y15 : ∀ (i2 : Int32) (S : xs_T) (H : Heap) (locs : List Loc) (ls : Array Slot), xs_I D ad ca ks A s S H locs → lv_has ls 4 [(0, .ref (ad k)), (1, .int n1), (2, .int i2)] → c15 i2 S = some (r, T) → W p l e R s m args below meth c H locs 0 0 Q (F0 m 15 ls [])), ∀ (c32 : Int32 → Int32 → xs_T → Option (Int32 × xs_T)) (y32 : ∀ (i2 : Int32) (i3 : Int32) (S : xs_T) (H : Heap) (locs : List Loc) (ls : Array Slot), xs_I D ad ca ks A s S H locs → lv_has ls 4 [(0, .ref (ad k)), (1, .int n1), (2, .int i2), (3, .int i3)] → c32 i2 i3 S = some (r, T) → W p l e R s m args below meth c H locs 0 0 Q (F0 m 32 ls [])), ∀ (i2 : Int32) (i3 : Int32) (S : xs_T) (H : Heap) (locs : List Loc) (ls : Array Slot), xs_I D ad ca ks A s S H locs → lv_has ls 4 [(0, .ref (ad k)), (1, .int n1), (2, .int i2), (3, .int i3)] → xf_R_tick_67 k n1 c15 c32 i2 i3 S = some (r, T) → W p l e R s m args below meth c H locs 0 0 Q (F0 m 67 ls []) := by
    intro c15 y15 c32 y32 i2 i3 S H locs ls hw hl h
    unfold xf_R_tick_67 at h
    refine lv_aload_n hx hb dd_R_tick_67 rfl (lv_at hl 0 rfl) ?_
    refine xr_get_R (v := .ref (ad (k + 11))) hx hb hts hown hK hw hk 11 (by decide) (hts _ hw_754) rfl dd_R_tick_68 ?_
    refine lv_bipush (v := 23) hx hb dd_R_tick_71 rfl ?_
    refine lv_iload_n hx hb dd_R_tick_73 rfl (lv_at hl 3 rfl) ?_
    obtain ⟨S12, gS12, h⟩ := xs_ob h
    refine xr_iast hx hb hK hw (xs_ok_R_goal hK.1 hk) gS12 dd_R_tick_74 (fun H locs hw => ?_)
    refine lv_aload_n hx hb dd_R_tick_75 rfl (lv_at hl 0 rfl) ?_
    refine xr_get_R (v := .ref (ad (k + 28))) hx hb hts hown hK hw hk 31 (by decide) (hts _ hw_774) rfl dd_R_tick_76 ?_
    refine lv_iload_n hx hb dd_R_tick_79 rfl (lv_at hl 3 rfl) ?_
    obtain ⟨v13, gv13, h⟩ := xs_ob h
    refine xr_iald hx hb hK hw (xs_ok_R_due hK.1 hk) gv13 dd_R_tick_80 ?_
    refine lv_if_eq hx hb dd_R_tick_81 rfl (fun b14 => ?_) (fun b14 => ?_)
    · replace h := xs_p b14 h
      exact w_90 c15 y15 c32 y32 i2 i3 S12 _ _ _ hw (lv_sub hl [0, 1, 2, 3] rfl) h
    · replace h := xs_n b14 h
      refine lv_aload_n hx hb dd_R_tick_84 rfl (lv_at hl 0 rfl) ?_
      refine lv_bipush (v := 23) hx hb dd_R_tick_85 rfl ?_
      obtain ⟨q16, gq16, h⟩ := xs_ob h
      refine xq_v hK hw (va_runV (As := [.int 23]) (rest := []) ⟨hx, hb, hml, hown, hts⟩ (xc_R_post l D ad ca ks k 23 S12 q16 hk gq16 _) ⟨callB_of 1 hts (xs_good hw_924) rfl rfl rfl (hts _ hw_13) (hts _ hw_921) yd_R_post ⟨Nat.le_trans (by decide) hRf, Nat.le_trans (by decide) hRl⟩, (hts _ hw_923), (hts _ hs_24)⟩ ⟨xs_blind, xs_recv_R hK hw hk, fun U h1 h2 => ⟨rfl, xs_pre hK hw h1 h2⟩⟩ rfl rfl hl.1 rfl (lv_room (Nat.le_of_ble_eq_true rfl)) dd_R_tick_87 ⟨Nat.zero_le _, Nat.zero_le _⟩) (fun H locs hw => ?_)
      exact w_90 c15 y15 c32 y32 i2 i3 q16 _ _ _ hw (lv_sub hl [0, 1, 2, 3] rfl) h
  have w_52 : ∀ (c15 : Int32 → xs_T → Option (Int32 × xs_T)) (y15 : ∀ (i2 : Int32) (S : xs_T) (H : Heap) (locs : List Loc) (ls : Array Slot), xs_I D ad ca ks A s S H locs → lv_has ls 4 [(0, .ref (ad k)), (1, .int n1), (2, .int i2)] → c15 i2 S = some (r, T) → W p l e R s m args below meth c H locs 0 0 Q (F0 m 15 ls [])), ∀ (c32 : Int32 → Int32 → xs_T → Option (Int32 × xs_T)) (y32 : ∀ (i2 : Int32) (i3 : Int32) (S : xs_T) (H : Heap) (locs : List Loc) (ls : Array Slot), xs_I D ad ca ks A s S H locs → lv_has ls 4 [(0, .ref (ad k)), (1, .int n1), (2, .int i2), (3, .int i3)] → c32 i2 i3 S = some (r, T) → W p l e R s m args below meth c H locs 0 0 Q (F0 m 32 ls [])), ∀ (i2 : Int32) (i3 : Int32) (S : xs_T) (H : Heap) (locs : List Loc) (ls : Array Slot), xs_I D ad ca ks A s S H locs → lv_has ls 4 [(0, .ref (ad k)), (1, .int n1), (2, .int i2), (3, .int i3)] → xf_R_tick_52 k n1 c15 c32 i2 i3 S = some (r, T) → W p l e R s m args below meth c H locs 0 0 Q (F0 m 52 ls []) := by
    intro c15 y15 c32 y32 i2 i3 S H locs ls hw hl h
    unfold xf_R_tick_52 at h
    refine lv_aload_n hx hb dd_R_tick_52 rfl (lv_at hl 0 rfl) ?_
    refine xr_get_R (v := .ref (ad (k + 28))) hx hb hts hown hK hw hk 31 (by decide) (hts _ hw_774) rfl dd_R_tick_53 ?_
    refine lv_iload_n hx hb dd_R_tick_56 rfl (lv_at hl 3 rfl) ?_
    obtain ⟨v10, gv10, h⟩ := xs_ob h
    refine xr_iald hx hb hK hw (xs_ok_R_due hK.1 hk) gv10 dd_R_tick_57 ?_
    refine lv_iconst (v := 2) hx hb dd_R_tick_58 rfl ?_
    refine lv_icmp_ne hx hb dd_R_tick_59 rfl (fun b11 => ?_) (fun b11 => ?_)
    · replace h := xs_n b11 h
      exact w_67 c15 y15 c32 y32 i2 i3 S _ _ _ hw (lv_sub hl [0, 1, 2, 3] rfl) h
    · replace h := xs_p b11 h
      refine lv_aload_n hx hb dd_R_tick_62 rfl (lv_at hl 0 rfl) ?_
      refine lv_iload_n hx hb dd_R_tick_63 rfl (lv_at hl 3 rfl) ?_
      obtain ⟨q17, gq17, h⟩ := xs_ob h
      refine xq_v hK hw (va_runV (As := [.int i3]) (rest := []) ⟨hx, hb, hml, hown, hts⟩ (xc_R_sendAnswer l D ad ca ks k i3 S q17 hk gq17 _) ⟨callB_of 1 hts (xs_good hw_1047) rfl rfl rfl (hts _ hw_13) (hts _ hw_1044) yd_R_sendAnswer ⟨Nat.le_trans (by decide) hRf, Nat.le_trans (by decide) hRl⟩, (hts _ hw_1046), (hts _ hs_47)⟩ ⟨xs_blind, xs_recv_R hK hw hk, fun U h1 h2 => ⟨rfl, xs_pre hK hw h1 h2⟩⟩ rfl rfl hl.1 rfl (lv_room (Nat.le_of_ble_eq_true rfl)) dd_R_tick_64 ⟨Nat.zero_le _, Nat.zero_le _⟩) (fun H locs hw => ?_)
      exact w_67 c15 y15 c32 y32 i2 i3 q17 _ _ _ hw (lv_sub hl [0, 1, 2, 3] rfl) h
  have w_32 : ∀ (c15 : Int32 → xs_T → Option (Int32 × xs_T)) (y15 : ∀ (i2 : Int32) (S : xs_T) (H : Heap) (locs : List Loc) (ls : Array Slot), xs_I D ad ca ks A s S H locs → lv_has ls 4 [(0, .ref (ad k)), (1, .int n1), (2, .int i2)] → c15 i2 S = some (r, T) → W p l e R s m args below meth c H locs 0 0 Q (F0 m 15 ls [])), ∀ (f : Nat), ∀ (i2 : Int32) (i3 : Int32) (S : xs_T) (H : Heap) (locs : List Loc) (ls : Array Slot), xs_I D ad ca ks A s S H locs → lv_has ls 4 [(0, .ref (ad k)), (1, .int n1), (2, .int i2), (3, .int i3)] → xf_R_tick_32 k n1 c15 f i2 i3 S = some (r, T) → W p l e R s m args below meth c H locs 0 0 Q (F0 m 32 ls []) := by
    intro c15 y15 f
    induction f with
    | zero => intro i2 i3 S H locs ls hw hl h; exact absurd h (by simp [xf_R_tick_32])
    | succ f ih =>
      intro i2 i3 S H locs ls hw hl h
      rw [xf_R_tick_32] at h
      refine lv_iload_n hx hb dd_R_tick_32 rfl (lv_at hl 3 rfl) ?_
      refine lv_iconst (v := 3) hx hb dd_R_tick_33 rfl ?_
      refine lv_icmp_ge hx hb dd_R_tick_34 rfl (fun b5 => ?_) (fun b5 => ?_)
      · replace h := xs_p b5 h
        refine lv_iconst (v := 0) hx hb dd_R_tick_103 rfl ?_
        refine lv_istore_n hx hb dd_R_tick_104 rfl hl (by decide) rfl (fun ls hl => ?_)
        have hl : lv_has ls 4 [(3, .int 0), (0, .ref (ad k)), (1, .int n1), (2, .int i2)] := hl
        exact w_105 c15 y15 xs_fuel i2 0 S _ _ _ hw (lv_sub hl [1, 2, 3, 0] rfl) h
      · replace h := xs_n b5 h
        refine lv_aload_n hx hb dd_R_tick_37 rfl (lv_at hl 0 rfl) ?_
        refine xr_get_R (v := .ref (ad (k + 28))) hx hb hts hown hK hw hk 31 (by decide) (hts _ hw_774) rfl dd_R_tick_38 ?_
        refine lv_iload_n hx hb dd_R_tick_41 rfl (lv_at hl 3 rfl) ?_
        obtain ⟨v8, gv8, h⟩ := xs_ob h
        refine xr_iald hx hb hK hw (xs_ok_R_due hK.1 hk) gv8 dd_R_tick_42 ?_
        refine lv_iconst (v := 1) hx hb dd_R_tick_43 rfl ?_
        refine lv_icmp_ne hx hb dd_R_tick_44 rfl (fun b9 => ?_) (fun b9 => ?_)
        · replace h := xs_n b9 h
          exact w_52 c15 y15 (xf_R_tick_32 k n1 c15 f) ih i2 i3 S _ _ _ hw (lv_sub hl [0, 1, 2, 3] rfl) h
        · replace h := xs_p b9 h
          refine lv_aload_n hx hb dd_R_tick_47 rfl (lv_at hl 0 rfl) ?_
          refine lv_iload_n hx hb dd_R_tick_48 rfl (lv_at hl 3 rfl) ?_
          obtain ⟨q18, gq18, h⟩ := xs_ob h
          refine xq_v hK hw (va_runV (As := [.int i3]) (rest := []) ⟨hx, hb, hml, hown, hts⟩ (xc_R_sendAccept l D ad ca ks k i3 S q18 hk gq18 _) ⟨callB_of 1 hts (xs_good hw_1039) rfl rfl rfl (hts _ hw_13) (hts _ hw_1036) yd_R_sendAccept ⟨Nat.le_trans (by decide) hRf, Nat.le_trans (by decide) hRl⟩, (hts _ hw_1038), (hts _ hs_45)⟩ ⟨xs_blind, xs_recv_R hK hw hk, fun U h1 h2 => ⟨rfl, xs_pre hK hw h1 h2⟩⟩ rfl rfl hl.1 rfl (lv_room (Nat.le_of_ble_eq_true rfl)) dd_R_tick_49 ⟨Nat.zero_le _, Nat.zero_le _⟩) (fun H locs hw => ?_)
          exact w_52 c15 y15 (xf_R_tick_32 k n1 c15 f) ih i2 i3 q18 _ _ _ hw (lv_sub hl [0, 1, 2, 3] rfl) h
  have w_15 : ∀ (f : Nat), ∀ (i2 : Int32) (S : xs_T) (H : Heap) (locs : List Loc) (ls : Array Slot), xs_I D ad ca ks A s S H locs → lv_has ls 4 [(0, .ref (ad k)), (1, .int n1), (2, .int i2)] → xf_R_tick_15 k n1 f i2 S = some (r, T) → W p l e R s m args below meth c H locs 0 0 Q (F0 m 15 ls []) := by
    intro f
    induction f with
    | zero => intro i2 S H locs ls hw hl h; exact absurd h (by simp [xf_R_tick_15])
    | succ f ih =>
      intro i2 S H locs ls hw hl h
      rw [xf_R_tick_15] at h
      refine lv_iload_n hx hb dd_R_tick_15 rfl (lv_at hl 2 rfl) ?_
      refine lv_iload_n hx hb dd_R_tick_16 rfl (lv_at hl 1 rfl) ?_
      refine lv_icmp_ge hx hb dd_R_tick_17 rfl (fun b3 => ?_) (fun b3 => ?_)
      · replace h := xs_p b3 h
        refine lv_aload_n hx hb dd_R_tick_127 rfl (lv_at hl 0 rfl) ?_
        refine xr_get_R (v := .int (xs_gI S k 8)) hx hb hts hown hK hw hk 8 (by decide) (hts _ hw_751) rfl dd_R_tick_128 ?_
        exact hret h hw dd_R_tick_131
      · replace h := xs_n b3 h
        refine lv_aload_n hx hb dd_R_tick_20 rfl (lv_at hl 0 rfl) ?_
        refine lv_dup hx hb dd_R_tick_21 rfl ?_
        refine xr_get_R (v := .int (xs_gI S k 8)) hx hb hts hown hK hw hk 8 (by decide) (hts _ hw_751) rfl dd_R_tick_22 ?_
        refine lv_iconst (v := 1) hx hb dd_R_tick_25 rfl ?_
        refine lv_iadd hx hb dd_R_tick_26 ?_
        obtain ⟨S4, gS4, h⟩ := xs_ob h
        refine xr_putI_R hx hb hts hown hK hw hk 8 (by decide) (hts _ hw_751) rfl rfl (fun _ _ => rfl) gS4 dd_R_tick_27 (fun H locs hw => ?_)
        refine lv_iconst (v := 0) hx hb dd_R_tick_30 rfl ?_
        refine lv_istore_n hx hb dd_R_tick_31 rfl hl (by decide) rfl (fun ls hl => ?_)
        have hl : lv_has ls 4 [(3, .int 0), (0, .ref (ad k)), (1, .int n1), (2, .int i2)] := hl
        exact w_32 (xf_R_tick_15 k n1 f) ih xs_fuel i2 0 S4 _ _ _ hw (lv_sub hl [1, 2, 3, 0] rfl) h
  unfold xf_R_tick at h
  refine lv_iload_n hx hb dd_R_tick_0 rfl (lv_at hl 1 rfl) ?_
  refine lv_iconst (v := 1) hx hb dd_R_tick_1 rfl ?_
  refine lv_icmp_lt hx hb dd_R_tick_2 rfl (fun b1 => ?_) (fun b1 => ?_)
  · replace h := xs_p b1 h
    refine lv_iconst (v := (-1)) hx hb dd_R_tick_11 rfl ?_
    exact hret h hw dd_R_tick_12
  · replace h := xs_n b1 h
    refine lv_iload_n hx hb dd_R_tick_5 rfl (lv_at hl 1 rfl) ?_
    refine lv_bipush (v := 50) hx hb dd_R_tick_6 rfl ?_
    refine lv_icmp_le hx hb dd_R_tick_8 rfl (fun b2 => ?_) (fun b2 => ?_)
    · replace h := xs_p b2 h
      refine lv_iconst (v := 0) hx hb dd_R_tick_13 rfl ?_
      refine lv_istore_n hx hb dd_R_tick_14 rfl hl (by decide) rfl (fun ls hl => ?_)
      have hl : lv_has ls 4 [(2, .int 0), (0, .ref (ad k)), (1, .int n1)] := hl
      exact w_15 xs_fuel 0 S _ _ _ hw (lv_sub hl [1, 2, 0] rfl) h
    · replace h := xs_n b2 h
      refine lv_iconst (v := (-1)) hx hb dd_R_tick_11 rfl ?_
      exact hret h hw dd_R_tick_12
set_option maxHeartbeats 4000000 in
set_option maxRecDepth 100000 in
theorem xc_R_lose (l : Launch) (D : va_G) (ad : Nat → Nat) (ca : Nat → ClassId) (ks : List Nat) (k : Nat) (n1 : Int32) (S : xs_T) (r : Int32) (T : xs_T) (hk : xs_is ks k xs_cR) (h : xf_R_lose k n1 S = some (r, T)) (sz : Nat) : Met l yy_R_lose ws_R_lose { frames := 2, cells := 0, slots := 0, locals := 45 } (va_Pc [.ref (ad k), .int n1] (xs_Pre D ad ca ks S sz)) (va_Qi (fun r1 (_ : Unit) => r1 = r) (fun _ t => va_P D xs_cl (xs_w ad ca ks T) t.heap) (xs_A ad ks sz)) 0 0 (xs_A ad ks sz) := by
  refine xm_z (by decide) (Nat.le_of_ble_eq_true rfl) ?_
  intro p e s m args below meth c R A Q ls hx hb hml hown hts hRf hRl hK hw hl hret
  have hl : lv_has ls 2 [(0, .ref (ad k)), (1, .int n1)] := hl
  unfold xf_R_lose at h
  refine lv_iload_n hx hb dd_R_lose_0 rfl (lv_at hl 1 rfl) ?_
  refine lv_aload_n hx hb dd_R_lose_1 rfl (lv_at hl 0 rfl) ?_
  refine xr_get_R (v := .int (xs_gI S k 12)) hx hb hts hown hK hw hk 12 (by decide) (hts _ hw_755) rfl dd_R_lose_2 ?_
  obtain ⟨q1, gq1, h⟩ := xs_ob h
  refine xq_i hK hw (va_runS (As := [.int n1, .int (xs_gI S k 12)]) (rest := []) ⟨hx, hb, hml, hown, hts⟩ (xc_R_below l D ad ca ks n1 (xs_gI S k 12) S q1 gq1 _) ⟨callB_of 2 hts (xs_good hw_871) rfl rfl rfl (hts _ hw_13) (hts _ hw_869) yd_R_below ⟨Nat.le_trans (by decide) hRf, Nat.le_trans (by decide) hRl⟩, (hts _ hw_870)⟩ ⟨xs_blind, fun U h1 h2 => ⟨rfl, xs_pre hK hw h1 h2⟩⟩ rfl rfl hl.1 rfl (lv_room (Nat.le_of_ble_eq_true rfl)) dd_R_lose_5 ⟨Nat.zero_le _, Nat.zero_le _⟩) (fun H locs hw => ?_)
  refine lv_if_ne hx hb dd_R_lose_8 rfl (fun b2 => ?_) (fun b2 => ?_)
  · replace h := xs_n b2 h
    refine lv_aload_n hx hb dd_R_lose_13 rfl (lv_at hl 0 rfl) ?_
    refine lv_iload_n hx hb dd_R_lose_14 rfl (lv_at hl 1 rfl) ?_
    obtain ⟨q3, gq3, h⟩ := xs_ob h
    refine xq_v hK hw (va_runV (As := [.int n1]) (rest := []) ⟨hx, hb, hml, hown, hts⟩ (xc_R_leave l D ad ca ks k n1 S q3 hk gq3 _) ⟨callB_of 1 hts (xs_good hw_966) rfl rfl rfl (hts _ hw_13) (hts _ hw_963) yd_R_leave ⟨Nat.le_trans (by decide) hRf, Nat.le_trans (by decide) hRl⟩, (hts _ hw_965), (hts _ hs_31)⟩ ⟨xs_blind, xs_recv_R hK hw hk, fun U h1 h2 => ⟨rfl, xs_pre hK hw h1 h2⟩⟩ rfl rfl hl.1 rfl (lv_room (Nat.le_of_ble_eq_true rfl)) dd_R_lose_15 ⟨Nat.zero_le _, Nat.zero_le _⟩) (fun H locs hw => ?_)
    refine lv_iconst (v := 1) hx hb dd_R_lose_18 rfl ?_
    exact hret h hw dd_R_lose_19
  · replace h := xs_p b2 h
    refine lv_iconst (v := 0) hx hb dd_R_lose_11 rfl ?_
    exact hret h hw dd_R_lose_12
set_option maxHeartbeats 4000000 in
set_option maxRecDepth 100000 in
theorem xc_R_replay (l : Launch) (D : va_G) (ad : Nat → Nat) (ca : Nat → ClassId) (ks : List Nat) (k : Nat) (n1 : Int32) (S : xs_T) (r : Int32) (T : xs_T) (hk : xs_is ks k xs_cR) (h : xf_R_replay k n1 S = some (r, T)) (sz : Nat) : Met l yy_R_replay ws_R_replay { frames := 1, cells := 0, slots := 0, locals := 23 } (va_Pc [.ref (ad k), .int n1] (xs_Pre D ad ca ks S sz)) (va_Qi (fun r1 (_ : Unit) => r1 = r) (fun _ t => va_P D xs_cl (xs_w ad ca ks T) t.heap) (xs_A ad ks sz)) 0 0 (xs_A ad ks sz) := by
  refine xm_z (by decide) (Nat.le_of_ble_eq_true rfl) ?_
  intro p e s m args below meth c R A Q ls hx hb hml hown hts hRf hRl hK hw hl hret
  have hl : lv_has ls 2 [(0, .ref (ad k)), (1, .int n1)] := hl
  unfold xf_R_replay at h
  refine lv_iload_n hx hb dd_R_replay_0 rfl (lv_at hl 1 rfl) ?_
  refine lv_bipush (v := 8) hx hb dd_R_replay_1 rfl ?_
  obtain ⟨q1, gq1, h⟩ := xs_ob h
  refine xq_i hK hw (va_runS (As := [.int n1, .int 8]) (rest := []) ⟨hx, hb, hml, hown, hts⟩ (xc_R_below l D ad ca ks n1 8 S q1 gq1 _) ⟨callB_of 2 hts (xs_good hw_871) rfl rfl rfl (hts _ hw_13) (hts _ hw_869) yd_R_below ⟨Nat.le_trans (by decide) hRf, Nat.le_trans (by decide) hRl⟩, (hts _ hw_870)⟩ ⟨xs_blind, fun U h1 h2 => ⟨rfl, xs_pre hK hw h1 h2⟩⟩ rfl rfl hl.1 rfl (lv_room (Nat.le_of_ble_eq_true rfl)) dd_R_replay_3 ⟨Nat.zero_le _, Nat.zero_le _⟩) (fun H locs hw => ?_)
  refine lv_if_eq hx hb dd_R_replay_6 rfl (fun b2 => ?_) (fun b2 => ?_)
  · replace h := xs_p b2 h
    refine lv_iconst (v := 0) hx hb dd_R_replay_26 rfl ?_
    exact hret h hw dd_R_replay_27
  · replace h := xs_n b2 h
    refine lv_iload_n hx hb dd_R_replay_9 rfl (lv_at hl 1 rfl) ?_
    refine lv_aload_n hx hb dd_R_replay_10 rfl (lv_at hl 0 rfl) ?_
    refine xr_get_R (v := .int (xs_gI S k 13)) hx hb hts hown hK hw hk 13 (by decide) (hts _ hw_756) rfl dd_R_replay_11 ?_
    refine lv_icmp_ge hx hb dd_R_replay_14 rfl (fun b3 => ?_) (fun b3 => ?_)
    · replace h := xs_p b3 h
      refine lv_iconst (v := 0) hx hb dd_R_replay_26 rfl ?_
      exact hret h hw dd_R_replay_27
    · replace h := xs_n b3 h
      refine lv_aload_n hx hb dd_R_replay_17 rfl (lv_at hl 0 rfl) ?_
      refine xr_get_R (v := .int (xs_gI S k 12)) hx hb hts hown hK hw hk 12 (by decide) (hts _ hw_755) rfl dd_R_replay_18 ?_
      refine lv_bipush (v := 12) hx hb dd_R_replay_21 rfl ?_
      refine lv_icmp_ne hx hb dd_R_replay_23 rfl (fun b4 => ?_) (fun b4 => ?_)
      · replace h := xs_n b4 h
        refine lv_aload_n hx hb dd_R_replay_28 rfl (lv_at hl 0 rfl) ?_
        refine lv_bipush (v := 12) hx hb dd_R_replay_29 rfl ?_
        refine lv_aload_n hx hb dd_R_replay_31 rfl (lv_at hl 0 rfl) ?_
        refine xr_get_R (v := .int (xs_gI S k 13)) hx hb hts hown hK hw hk 13 (by decide) (hts _ hw_756) rfl dd_R_replay_32 ?_
        refine lv_iconst (v := 1) hx hb dd_R_replay_35 rfl ?_
        refine lv_isub hx hb dd_R_replay_36 ?_
        refine lv_iload_n hx hb dd_R_replay_37 rfl (lv_at hl 1 rfl) ?_
        refine lv_isub hx hb dd_R_replay_38 ?_
        refine lv_bipush (v := 8) hx hb dd_R_replay_39 rfl ?_
        refine lv_irem hx hb dd_R_replay_41 (by decide) ?_
        refine lv_asI (v := xs_rem (((xs_gI S k 13) - 1) - n1) 8) rfl ?_
        refine lv_iadd hx hb dd_R_replay_42 ?_
        refine lv_aload_n hx hb dd_R_replay_43 rfl (lv_at hl 0 rfl) ?_
        refine xr_get_R (v := .int (xs_gI S k 12)) hx hb hts hown hK hw hk 12 (by decide) (hts _ hw_755) rfl dd_R_replay_44 ?_
        obtain ⟨q5, gq5, h⟩ := xs_ob h
        refine xq_v hK hw (va_runV (As := [.int (12 + (xs_rem (((xs_gI S k 13) - 1) - n1) 8)), .int (xs_gI S k 12)]) (rest := []) ⟨hx, hb, hml, hown, hts⟩ (xc_R_copyFrame l D ad ca ks k (12 + (xs_rem (((xs_gI S k 13) - 1) - n1) 8)) (xs_gI S k 12) S q5 hk gq5 _) ⟨callB_of 2 hts (xs_good hw_928) rfl rfl rfl (hts _ hw_13) (hts _ hw_925) yd_R_copyFrame ⟨Nat.le_trans (by decide) hRf, Nat.le_trans (by decide) hRl⟩, (hts _ hw_927), (hts _ hs_25)⟩ ⟨xs_blind, xs_recv_R hK hw hk, fun U h1 h2 => ⟨rfl, xs_pre hK hw h1 h2⟩⟩ rfl rfl hl.1 rfl (lv_room (Nat.le_of_ble_eq_true rfl)) dd_R_replay_47 ⟨Nat.zero_le _, Nat.zero_le _⟩) (fun H locs hw => ?_)
        refine lv_aload_n hx hb dd_R_replay_50 rfl (lv_at hl 0 rfl) ?_
        refine lv_dup hx hb dd_R_replay_51 rfl ?_
        refine xr_get_R (v := .int (xs_gI q5 k 12)) hx hb hts hown hK hw hk 12 (by decide) (hts _ hw_755) rfl dd_R_replay_52 ?_
        refine lv_iconst (v := 1) hx hb dd_R_replay_55 rfl ?_
        refine lv_iadd hx hb dd_R_replay_56 ?_
        obtain ⟨S6, gS6, h⟩ := xs_ob h
        refine xr_putI_R hx hb hts hown hK hw hk 12 (by decide) (hts _ hw_755) rfl rfl (fun _ _ => rfl) gS6 dd_R_replay_57 (fun H locs hw => ?_)
        refine lv_iconst (v := 1) hx hb dd_R_replay_60 rfl ?_
        exact hret h hw dd_R_replay_61
      · replace h := xs_p b4 h
        refine lv_iconst (v := 0) hx hb dd_R_replay_26 rfl ?_
        exact hret h hw dd_R_replay_27
