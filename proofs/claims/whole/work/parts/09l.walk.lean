set_option maxHeartbeats 4000000 in
set_option maxRecDepth 100000 in
theorem xc_R_queue (l : Launch) (D : va_G) (ad : Nat → Nat) (ca : Nat → ClassId) (ks : List Nat) (k : Nat) (n1 : Int32) (n2 : Int64) (n4 : Int32) (S : xs_T) (r : Int32) (T : xs_T) (hk : xs_is ks k xs_cR) (h : xf_R_queue k n1 n2 n4 S = some (r, T)) (sz : Nat) : Met l yy_R_queue ws_R_queue { frames := 1, cells := 0, slots := 0, locals := 21 } (va_Pc [.ref (ad k), .int n1, .long n2, .int n4] (xs_Pre D ad ca ks S sz)) (va_Qi (fun r1 (_ : Unit) => r1 = r) (fun _ t => va_P D xs_cl (xs_w ad ca ks T) t.heap) (xs_A ad ks sz)) 0 0 (xs_A ad ks sz) := by
  refine xm_i (by decide) (Nat.le_of_ble_eq_true rfl) ?_
  intro p e s m args below meth c R A Q ls hx hb hml hown hts hRf hRl hK hw hl hret
  have hl : lv_has ls 5 [(0, .ref (ad k)), (1, .int n1), (2, .long n2), (4, .int n4)] := hl
  unfold xf_R_queue at h
  refine lv_iload_n hx hb dd_R_queue_0 rfl (lv_at hl 1 rfl) ?_
  refine lv_iconst (v := 3) hx hb dd_R_queue_1 rfl ?_
  obtain ⟨q1, gq1, h⟩ := xs_ob h
  refine xq_i hK hw (va_runS (As := [.int n1, .int 3]) (rest := []) ⟨hx, hb, hml, hown, hts⟩ (xc_R_below l D ad ca ks n1 3 S q1 gq1 _) ⟨callB_of 2 hts (xs_good hw_871) rfl rfl rfl (hts _ hw_13) (hts _ hw_869) yd_R_below ⟨Nat.le_trans (by decide) hRf, Nat.le_trans (by decide) hRl⟩, (hts _ hw_870)⟩ ⟨xs_blind, fun U h1 h2 => ⟨rfl, xs_pre hK hw h1 h2⟩⟩ rfl rfl hl.1 rfl (lv_room (Nat.le_of_ble_eq_true rfl)) dd_R_queue_2 ⟨Nat.zero_le _, Nat.zero_le _⟩) (fun H locs hw => ?_)
  refine lv_if_eq hx hb dd_R_queue_5 rfl (fun b2 => ?_) (fun b2 => ?_)
  · replace h := xs_p b2 h
    refine lv_iconst (v := (-1)) hx hb dd_R_queue_31 rfl ?_
    exact hret h hw dd_R_queue_32
  · replace h := xs_n b2 h
    refine lv_iload hx hb dd_R_queue_8 (lv_at hl 3 rfl) ?_
    refine lv_iconst (v := 1) hx hb dd_R_queue_10 rfl ?_
    refine lv_icmp_lt hx hb dd_R_queue_11 rfl (fun b3 => ?_) (fun b3 => ?_)
    · replace h := xs_p b3 h
      refine lv_iconst (v := (-1)) hx hb dd_R_queue_31 rfl ?_
      exact hret h hw dd_R_queue_32
    · replace h := xs_n b3 h
      refine lv_iload hx hb dd_R_queue_14 (lv_at hl 3 rfl) ?_
      refine lv_bipush (v := 8) hx hb dd_R_queue_16 rfl ?_
      refine lv_icmp_gt hx hb dd_R_queue_18 rfl (fun b4 => ?_) (fun b4 => ?_)
      · replace h := xs_p b4 h
        refine lv_iconst (v := (-1)) hx hb dd_R_queue_31 rfl ?_
        exact hret h hw dd_R_queue_32
      · replace h := xs_n b4 h
        refine lv_aload_n hx hb dd_R_queue_21 rfl (lv_at hl 0 rfl) ?_
        refine xr_get_R (v := .ref (ad (k + 33))) hx hb hts hown hK hw hk 36 (by decide) (hts _ hw_779) rfl dd_R_queue_22 ?_
        refine lv_iload_n hx hb dd_R_queue_25 rfl (lv_at hl 1 rfl) ?_
        obtain ⟨v5, gv5, h⟩ := xs_ob h
        refine xr_iald hx hb hK hw (xs_ok_R_queued hK.1 hk) gv5 dd_R_queue_26 ?_
        refine lv_iconst (v := 4) hx hb dd_R_queue_27 rfl ?_
        refine lv_icmp_ne hx hb dd_R_queue_28 rfl (fun b6 => ?_) (fun b6 => ?_)
        · replace h := xs_n b6 h
          refine lv_aload_n hx hb dd_R_queue_33 rfl (lv_at hl 0 rfl) ?_
          refine xr_get_R (v := .ref (ad (k + 31))) hx hb hts hown hK hw hk 34 (by decide) (hts _ hw_777) rfl dd_R_queue_34 ?_
          refine lv_iconst (v := 4) hx hb dd_R_queue_37 rfl ?_
          refine lv_iload_n hx hb dd_R_queue_38 rfl (lv_at hl 1 rfl) ?_
          refine lv_imul hx hb dd_R_queue_39 ?_
          refine lv_aload_n hx hb dd_R_queue_40 rfl (lv_at hl 0 rfl) ?_
          refine xr_get_R (v := .ref (ad (k + 33))) hx hb hts hown hK hw hk 36 (by decide) (hts _ hw_779) rfl dd_R_queue_41 ?_
          refine lv_iload_n hx hb dd_R_queue_44 rfl (lv_at hl 1 rfl) ?_
          obtain ⟨v7, gv7, h⟩ := xs_ob h
          refine xr_iald hx hb hK hw (xs_ok_R_queued hK.1 hk) gv7 dd_R_queue_45 ?_
          refine lv_iadd hx hb dd_R_queue_46 ?_
          refine lv_lload_n hx hb dd_R_queue_47 rfl (lv_at hl 2 rfl) ?_
          obtain ⟨S8, gS8, h⟩ := xs_ob h
          refine xr_last hx hb hK hw (xs_ok_R_queue hK.1 hk) gS8 dd_R_queue_48 (fun H locs hw => ?_)
          refine lv_aload_n hx hb dd_R_queue_49 rfl (lv_at hl 0 rfl) ?_
          refine xr_get_R (v := .ref (ad (k + 32))) hx hb hts hown hK hw hk 35 (by decide) (hts _ hw_778) rfl dd_R_queue_50 ?_
          refine lv_iconst (v := 4) hx hb dd_R_queue_53 rfl ?_
          refine lv_iload_n hx hb dd_R_queue_54 rfl (lv_at hl 1 rfl) ?_
          refine lv_imul hx hb dd_R_queue_55 ?_
          refine lv_aload_n hx hb dd_R_queue_56 rfl (lv_at hl 0 rfl) ?_
          refine xr_get_R (v := .ref (ad (k + 33))) hx hb hts hown hK hw hk 36 (by decide) (hts _ hw_779) rfl dd_R_queue_57 ?_
          refine lv_iload_n hx hb dd_R_queue_60 rfl (lv_at hl 1 rfl) ?_
          obtain ⟨v9, gv9, h⟩ := xs_ob h
          refine xr_iald hx hb hK hw (xs_ok_R_queued hK.1 hk) gv9 dd_R_queue_61 ?_
          refine lv_iadd hx hb dd_R_queue_62 ?_
          refine lv_iload hx hb dd_R_queue_63 (lv_at hl 3 rfl) ?_
          obtain ⟨S10, gS10, h⟩ := xs_ob h
          refine xr_iast hx hb hK hw (xs_ok_R_queueLength hK.1 hk) gS10 dd_R_queue_65 (fun H locs hw => ?_)
          refine lv_aload_n hx hb dd_R_queue_66 rfl (lv_at hl 0 rfl) ?_
          refine xr_get_R (v := .ref (ad (k + 33))) hx hb hts hown hK hw hk 36 (by decide) (hts _ hw_779) rfl dd_R_queue_67 ?_
          refine lv_iload_n hx hb dd_R_queue_70 rfl (lv_at hl 1 rfl) ?_
          refine lv_dup2_11 hx hb dd_R_queue_71 rfl rfl ?_
          obtain ⟨v11, gv11, h⟩ := xs_ob h
          refine xr_iald hx hb hK hw (xs_ok_R_queued hK.1 hk) gv11 dd_R_queue_72 ?_
          refine lv_iconst (v := 1) hx hb dd_R_queue_73 rfl ?_
          refine lv_iadd hx hb dd_R_queue_74 ?_
          obtain ⟨S12, gS12, h⟩ := xs_ob h
          refine xr_iast hx hb hK hw (xs_ok_R_queued hK.1 hk) gS12 dd_R_queue_75 (fun H locs hw => ?_)
          refine lv_aload_n hx hb dd_R_queue_76 rfl (lv_at hl 0 rfl) ?_
          refine xr_get_R (v := .ref (ad (k + 33))) hx hb hts hown hK hw hk 36 (by decide) (hts _ hw_779) rfl dd_R_queue_77 ?_
          refine lv_iload_n hx hb dd_R_queue_80 rfl (lv_at hl 1 rfl) ?_
          obtain ⟨v13, gv13, h⟩ := xs_ob h
          refine xr_iald hx hb hK hw (xs_ok_R_queued hK.1 hk) gv13 dd_R_queue_81 ?_
          exact hret h hw dd_R_queue_82
        · replace h := xs_p b6 h
          refine lv_iconst (v := (-1)) hx hb dd_R_queue_31 rfl ?_
          exact hret h hw dd_R_queue_32
set_option maxHeartbeats 4000000 in
set_option maxRecDepth 100000 in
theorem xc_R_zeros (l : Launch) (D : va_G) (ad : Nat → Nat) (ca : Nat → ClassId) (ks : List Nat) (k : Nat) (n1 : Int32) (n2 : Int32) (n3 : Int32) (S : xs_T) (r : Int32) (hk : xs_is ks k xs_cR) (h : xf_R_zeros k n1 n2 n3 S = some r) (sz : Nat) : Met l yy_R_zeros ws_R_zeros { frames := 1, cells := 0, slots := 0, locals := 22 } (va_Pc [.ref (ad k), .int n1, .int n2, .int n3] (xs_Pre D ad ca ks S sz)) (va_Qi (fun r1 (_ : Unit) => r1 = r) (fun _ t => va_P D xs_cl (xs_w ad ca ks S) t.heap) (xs_A ad ks sz)) 0 0 (xs_A ad ks sz) := by
  refine xm_zr (by decide) (Nat.le_of_ble_eq_true rfl) ?_
  intro p e s m args below meth c R A Q ls hx hb hml hown hts hRf hRl hK hw hl hret
  have hl : lv_has ls 6 [(0, .ref (ad k)), (1, .int n1), (2, .int n2), (3, .int n3)] := hl
  have w_32 : ∀ (c6 : Int32 → Int32 → Option (Int32)) (y6 : ∀ (i4 : Int32) (i5 : Int32) (H : Heap) (locs : List Loc) (ls : Array Slot), xs_I D ad ca ks A s S H locs → lv_has ls 6 [(0, .ref (ad k)), (1, .int n1), (3, .int n3), (4, .int i4), (5, .int i5)] → c6 i4 i5 = some r → W p l e R s m args below meth c H locs 0 0 Q (F0 m 6 ls [])), ∀ (i5 : Int32) (t0 : Int32) (H : Heap) (locs : List Loc) (ls : Array Slot), xs_I D ad ca ks A s S H locs → lv_has ls 6 [(0, .ref (ad k)), (1, .int n1), (3, .int n3), (5, .int i5)] → xf_R_zeros_32 k n1 n2 n3 S c6 i5 t0 = some r → W p l e R s m args below meth c H locs 0 0 Q (F0 m 32 ls [.int t0]) := by
    intro c6 y6 i5 t0 H locs ls hw hl h
    unfold xf_R_zeros_32 at h
    refine lv_istore hx hb dd_R_zeros_32 hl (by decide) rfl (fun ls hl => ?_)
    have hl : lv_has ls 6 [(4, .int t0), (0, .ref (ad k)), (1, .int n1), (3, .int n3), (5, .int i5)] := hl
    refine lv_iinc (k := 4) (v := i5 + 1) hx hb dd_R_zeros_34 hl rfl rfl (by decide) rfl (fun ls hl => ?_)
    have hl : lv_has ls 6 [(5, .int (i5 + 1)), (4, .int t0), (0, .ref (ad k)), (1, .int n1), (3, .int n3)] := hl
    refine lv_goto hx hb dd_R_zeros_37 rfl ?_
    exact y6 t0 (i5 + 1) _ _ _ hw (lv_sub hl [2, 3, 4, 1, 0] rfl) h
  have w_31 : ∀ (c6 : Int32 → Int32 → Option (Int32)) (y6 : ∀ (i4 : Int32) (i5 : Int32) (H : Heap) (locs : List Loc) (ls : Array Slot), xs_I D ad ca ks A s S H locs → lv_has ls 6 [(0, .ref (ad k)), (1, .int n1), (3, .int n3), (4, .int i4), (5, .int i5)] → c6 i4 i5 = some r → W p l e R s m args below meth c H locs 0 0 Q (F0 m 6 ls [])), ∀ (i5 : Int32) (H : Heap) (locs : List Loc) (ls : Array Slot), xs_I D ad ca ks A s S H locs → lv_has ls 6 [(0, .ref (ad k)), (1, .int n1), (3, .int n3), (5, .int i5)] → xf_R_zeros_31 k n1 n2 n3 S c6 i5 = some r → W p l e R s m args below meth c H locs 0 0 Q (F0 m 31 ls []) := by
    intro c6 y6 i5 H locs ls hw hl h
    unfold xf_R_zeros_31 at h
    refine lv_iconst (v := 0) hx hb dd_R_zeros_31 rfl ?_
    exact w_32 c6 y6 i5 0 _ _ _ hw (lv_sub hl [0, 1, 2, 3] rfl) h
  have w_6 : ∀ (f : Nat), ∀ (i4 : Int32) (i5 : Int32) (H : Heap) (locs : List Loc) (ls : Array Slot), xs_I D ad ca ks A s S H locs → lv_has ls 6 [(0, .ref (ad k)), (1, .int n1), (3, .int n3), (4, .int i4), (5, .int i5)] → xf_R_zeros_6 k n1 n2 n3 S f i4 i5 = some r → W p l e R s m args below meth c H locs 0 0 Q (F0 m 6 ls []) := by
    intro f
    induction f with
    | zero => intro i4 i5 H locs ls hw hl h; exact absurd h (by simp [xf_R_zeros_6])
    | succ f ih =>
      intro i4 i5 H locs ls hw hl h
      rw [xf_R_zeros_6] at h
      refine lv_iload hx hb dd_R_zeros_6 (lv_at hl 4 rfl) ?_
      refine lv_iload_n hx hb dd_R_zeros_8 rfl (lv_at hl 2 rfl) ?_
      refine lv_icmp_ge hx hb dd_R_zeros_9 rfl (fun b1 => ?_) (fun b1 => ?_)
      · replace h := xs_p b1 h
        refine lv_iload hx hb dd_R_zeros_40 (lv_at hl 3 rfl) ?_
        exact hret h hw dd_R_zeros_42
      · replace h := xs_n b1 h
        refine lv_iload hx hb dd_R_zeros_12 (lv_at hl 3 rfl) ?_
        refine lv_if_eq hx hb dd_R_zeros_14 rfl (fun b2 => ?_) (fun b2 => ?_)
        · replace h := xs_p b2 h
          exact w_31 (xf_R_zeros_6 k n1 n2 n3 S f) ih i5 _ _ _ hw (lv_sub hl [0, 1, 2, 4] rfl) h
        · replace h := xs_n b2 h
          refine lv_aload_n hx hb dd_R_zeros_17 rfl (lv_at hl 0 rfl) ?_
          refine lv_iload_n hx hb dd_R_zeros_18 rfl (lv_at hl 1 rfl) ?_
          refine lv_iload hx hb dd_R_zeros_19 (lv_at hl 4 rfl) ?_
          obtain ⟨q3, gq3, h⟩ := xs_ob h
          refine xq_i hK hw (va_runV (As := [.int n1, .int i5]) (rest := []) ⟨hx, hb, hml, hown, hts⟩ (xc_R_at l D ad ca ks k n1 i5 S q3 hk gq3 _) ⟨callB_of 2 hts (xs_good hw_888) rfl rfl rfl (hts _ hw_13) (hts _ hw_885) yd_R_at ⟨Nat.le_trans (by decide) hRf, Nat.le_trans (by decide) hRl⟩, (hts _ hw_887), (hts _ hs_15)⟩ ⟨xs_blind, xs_recv_R hK hw hk, fun U h1 h2 => ⟨rfl, xs_pre hK hw h1 h2⟩⟩ rfl rfl hl.1 rfl (lv_room (Nat.le_of_ble_eq_true rfl)) dd_R_zeros_21 ⟨Nat.zero_le _, Nat.zero_le _⟩) (fun H locs hw => ?_)
          refine lv_if_ne hx hb dd_R_zeros_24 rfl (fun b4 => ?_) (fun b4 => ?_)
          · replace h := xs_n b4 h
            exact w_31 (xf_R_zeros_6 k n1 n2 n3 S f) ih i5 _ _ _ hw (lv_sub hl [0, 1, 2, 4] rfl) h
          · replace h := xs_p b4 h
            refine lv_iconst (v := 1) hx hb dd_R_zeros_27 rfl ?_
            refine lv_goto hx hb dd_R_zeros_28 rfl ?_
            exact w_32 (xf_R_zeros_6 k n1 n2 n3 S f) ih i5 1 _ _ _ hw (lv_sub hl [0, 1, 2, 4] rfl) h
  unfold xf_R_zeros at h
  refine lv_iconst (v := 1) hx hb dd_R_zeros_0 rfl ?_
  refine lv_istore hx hb dd_R_zeros_1 hl (by decide) rfl (fun ls hl => ?_)
  have hl : lv_has ls 6 [(4, .int 1), (0, .ref (ad k)), (1, .int n1), (2, .int n2), (3, .int n3)] := hl
  refine lv_iload_n hx hb dd_R_zeros_3 rfl (lv_at hl 3 rfl) ?_
  refine lv_istore hx hb dd_R_zeros_4 hl (by decide) rfl (fun ls hl => ?_)
  have hl : lv_has ls 6 [(5, .int n2), (4, .int 1), (0, .ref (ad k)), (1, .int n1), (2, .int n2), (3, .int n3)] := hl
  exact w_6 xs_fuel 1 n2 _ _ _ hw (lv_sub hl [2, 3, 5, 1, 0] rfl) h
set_option maxHeartbeats 4000000 in
set_option maxRecDepth 100000 in
theorem xc_R_heardJoin (l : Launch) (D : va_G) (ad : Nat → Nat) (ca : Nat → ClassId) (ks : List Nat) (k : Nat) (S : xs_T) (T : xs_T) (hk : xs_is ks k xs_cR) (h : xf_R_heardJoin k S = some T) (sz : Nat) : Met l yy_R_heardJoin ws_R_heardJoin { frames := 6, cells := 0, slots := 0, locals := 143 } (va_Pc [.ref (ad k)] (xs_Pre D ad ca ks S sz)) (va_Qv (fun _ : Unit => True) (fun _ t => va_P D xs_cl (xs_w ad ca ks T) t.heap) (xs_A ad ks sz)) 0 0 (xs_A ad ks sz) := by
  refine xm_v (by decide) (Nat.le_of_ble_eq_true rfl) ?_
  intro p e s m args below meth c R A Q ls hx hb hml hown hts hRf hRl hK hw hl hret
  have hl : lv_has ls 3 [(0, .ref (ad k))] := hl
  unfold xf_R_heardJoin at h
  refine lv_aload_n hx hb dd_R_heardJoin_0 rfl (lv_at hl 0 rfl) ?_
  refine lv_bipush (v := 23) hx hb dd_R_heardJoin_1 rfl ?_
  refine lv_bipush (v := 9) hx hb dd_R_heardJoin_3 rfl ?_
  obtain ⟨q1, gq1, h⟩ := xs_ob h
  refine xq_i hK hw (va_runV (As := [.int 23, .int 9]) (rest := []) ⟨hx, hb, hml, hown, hts⟩ (xc_R_at l D ad ca ks k 23 9 S q1 hk gq1 _) ⟨callB_of 2 hts (xs_good hw_888) rfl rfl rfl (hts _ hw_13) (hts _ hw_885) yd_R_at ⟨Nat.le_trans (by decide) hRf, Nat.le_trans (by decide) hRl⟩, (hts _ hw_887), (hts _ hs_15)⟩ ⟨xs_blind, xs_recv_R hK hw hk, fun U h1 h2 => ⟨rfl, xs_pre hK hw h1 h2⟩⟩ rfl rfl hl.1 rfl (lv_room (Nat.le_of_ble_eq_true rfl)) dd_R_heardJoin_5 ⟨Nat.zero_le _, Nat.zero_le _⟩) (fun H locs hw => ?_)
  refine lv_istore_n hx hb dd_R_heardJoin_8 rfl hl (by decide) rfl (fun ls hl => ?_)
  have hl : lv_has ls 3 [(1, .int q1), (0, .ref (ad k))] := hl
  refine lv_aload_n hx hb dd_R_heardJoin_9 rfl (lv_at hl 1 rfl) ?_
  refine xr_get_R (v := .ref (ad (k + 10))) hx hb hts hown hK hw hk 10 (by decide) (hts _ hw_753) rfl dd_R_heardJoin_10 ?_
  refine lv_bipush (v := 23) hx hb dd_R_heardJoin_13 rfl ?_
  obtain ⟨v2, gv2, h⟩ := xs_ob h
  refine xr_iald hx hb hK hw (xs_ok_R_length hK.1 hk) gv2 dd_R_heardJoin_15 ?_
  refine lv_bipush (v := 23) hx hb dd_R_heardJoin_16 rfl ?_
  refine lv_icmp_ne hx hb dd_R_heardJoin_18 rfl (fun b3 => ?_) (fun b3 => ?_)
  · replace h := xs_n b3 h
    exact hret h hw dd_R_heardJoin_51
  · replace h := xs_p b3 h
    refine lv_aload_n hx hb dd_R_heardJoin_21 rfl (lv_at hl 1 rfl) ?_
    refine lv_bipush (v := 23) hx hb dd_R_heardJoin_22 rfl ?_
    refine lv_iconst (v := 1) hx hb dd_R_heardJoin_24 rfl ?_
    refine lv_bipush (v := 9) hx hb dd_R_heardJoin_25 rfl ?_
    obtain ⟨q4, gq4, h⟩ := xs_ob h
    refine xq_i hK hw (va_runV (As := [.int 23, .int 1, .int 9]) (rest := []) ⟨hx, hb, hml, hown, hts⟩ (xc_R_zeros l D ad ca ks k 23 1 9 S q4 hk gq4 _) ⟨callB_of 3 hts (xs_good hw_1022) rfl rfl rfl (hts _ hw_13) (hts _ hw_1019) yd_R_zeros ⟨Nat.le_trans (by decide) hRf, Nat.le_trans (by decide) hRl⟩, (hts _ hw_1021), (hts _ hs_42)⟩ ⟨xs_blind, xs_recv_R hK hw hk, fun U h1 h2 => ⟨rfl, xs_pre hK hw h1 h2⟩⟩ rfl rfl hl.1 rfl (lv_room (Nat.le_of_ble_eq_true rfl)) dd_R_heardJoin_27 ⟨Nat.zero_le _, Nat.zero_le _⟩) (fun H locs hw => ?_)
    refine lv_if_eq hx hb dd_R_heardJoin_30 rfl (fun b5 => ?_) (fun b5 => ?_)
    · replace h := xs_p b5 h
      exact hret h hw dd_R_heardJoin_51
    · replace h := xs_n b5 h
      refine lv_iload_n hx hb dd_R_heardJoin_33 rfl (lv_at hl 0 rfl) ?_
      refine lv_iconst (v := 2) hx hb dd_R_heardJoin_34 rfl ?_
      refine lv_icmp_gt hx hb dd_R_heardJoin_35 rfl (fun b6 => ?_) (fun b6 => ?_)
      · replace h := xs_p b6 h
        exact hret h hw dd_R_heardJoin_51
      · replace h := xs_n b6 h
        refine lv_aload_n hx hb dd_R_heardJoin_38 rfl (lv_at hl 1 rfl) ?_
        refine lv_bipush (v := 23) hx hb dd_R_heardJoin_39 rfl ?_
        refine lv_bipush (v := 10) hx hb dd_R_heardJoin_41 rfl ?_
        refine lv_bipush (v := 17) hx hb dd_R_heardJoin_43 rfl ?_
        obtain ⟨q7, gq7, h⟩ := xs_ob h
        refine xq_i hK hw (va_runV (As := [.int 23, .int 10, .int 17]) (rest := []) ⟨hx, hb, hml, hown, hts⟩ (xc_R_zeros l D ad ca ks k 23 10 17 S q7 hk gq7 _) ⟨callB_of 3 hts (xs_good hw_1022) rfl rfl rfl (hts _ hw_13) (hts _ hw_1019) yd_R_zeros ⟨Nat.le_trans (by decide) hRf, Nat.le_trans (by decide) hRl⟩, (hts _ hw_1021), (hts _ hs_42)⟩ ⟨xs_blind, xs_recv_R hK hw hk, fun U h1 h2 => ⟨rfl, xs_pre hK hw h1 h2⟩⟩ rfl rfl hl.1 rfl (lv_room (Nat.le_of_ble_eq_true rfl)) dd_R_heardJoin_45 ⟨Nat.zero_le _, Nat.zero_le _⟩) (fun H locs hw => ?_)
        refine lv_if_ne hx hb dd_R_heardJoin_48 rfl (fun b8 => ?_) (fun b8 => ?_)
        · replace h := xs_n b8 h
          refine lv_aload_n hx hb dd_R_heardJoin_52 rfl (lv_at hl 1 rfl) ?_
          refine lv_bipush (v := 23) hx hb dd_R_heardJoin_53 rfl ?_
          refine lv_bipush (v := 19) hx hb dd_R_heardJoin_55 rfl ?_
          refine lv_iload_n hx hb dd_R_heardJoin_57 rfl (lv_at hl 0 rfl) ?_
          obtain ⟨q9, gq9, h⟩ := xs_ob h
          refine xq_v hK hw (va_runV (As := [.int 23, .int 19, .int q1]) (rest := []) ⟨hx, hb, hml, hown, hts⟩ (xc_R_rootCode l D ad ca ks k 23 19 q1 S q9 hk gq9 _) ⟨callB_of 3 hts (xs_good hw_884) rfl rfl rfl (hts _ hw_13) (hts _ hw_881) yd_R_rootCode ⟨Nat.le_trans (by decide) hRf, Nat.le_trans (by decide) hRl⟩, (hts _ hw_883), (hts _ hs_14)⟩ ⟨xs_blind, xs_recv_R hK hw hk, fun U h1 h2 => ⟨rfl, xs_pre hK hw h1 h2⟩⟩ rfl rfl hl.1 rfl (lv_room (Nat.le_of_ble_eq_true rfl)) dd_R_heardJoin_58 ⟨Nat.zero_le _, Nat.zero_le _⟩) (fun H locs hw => ?_)
          refine lv_aload_n hx hb dd_R_heardJoin_61 rfl (lv_at hl 1 rfl) ?_
          refine lv_bipush (v := 23) hx hb dd_R_heardJoin_62 rfl ?_
          refine lv_bipush (v := 17) hx hb dd_R_heardJoin_64 rfl ?_
          refine lv_iconst (v := 2) hx hb dd_R_heardJoin_66 rfl ?_
          obtain ⟨q10, gq10, h⟩ := xs_ob h
          refine xq_i hK hw (va_runV (As := [.int 23, .int 17, .int 2]) (rest := []) ⟨hx, hb, hml, hown, hts⟩ (xc_R_numberAt l D ad ca ks k 23 17 2 q9 q10 hk gq10 _) ⟨callB_of 3 hts (xs_good hw_974) rfl rfl rfl (hts _ hw_13) (hts _ hw_971) yd_R_numberAt ⟨Nat.le_trans (by decide) hRf, Nat.le_trans (by decide) hRl⟩, (hts _ hw_973), (hts _ hs_33)⟩ ⟨xs_blind, xs_recv_R hK hw hk, fun U h1 h2 => ⟨rfl, xs_pre hK hw h1 h2⟩⟩ rfl rfl hl.1 rfl (lv_room (Nat.le_of_ble_eq_true rfl)) dd_R_heardJoin_67 ⟨Nat.zero_le _, Nat.zero_le _⟩) (fun H locs hw => ?_)
          refine lv_istore_n hx hb dd_R_heardJoin_70 rfl hl (by decide) rfl (fun ls hl => ?_)
          have hl : lv_has ls 3 [(2, .int q10), (1, .int q1), (0, .ref (ad k))] := hl
          refine lv_aload_n hx hb dd_R_heardJoin_71 rfl (lv_at hl 2 rfl) ?_
          refine lv_bipush (v := 23) hx hb dd_R_heardJoin_72 rfl ?_
          obtain ⟨q11, gq11, h⟩ := xs_ob h
          refine xq_i hK hw (va_runV (As := [.int 23]) (rest := []) ⟨hx, hb, hml, hown, hts⟩ (xc_R_endsWithCode l D ad ca ks k 23 q9 q11 hk gq11 _) ⟨callB_of 1 hts (xs_good hw_978) rfl rfl rfl (hts _ hw_13) (hts _ hw_975) yd_R_endsWithCode ⟨Nat.le_trans (by decide) hRf, Nat.le_trans (by decide) hRl⟩, (hts _ hw_977), (hts _ hs_34)⟩ ⟨xs_blind, xs_recv_R hK hw hk, fun U h1 h2 => ⟨rfl, xs_pre hK hw h1 h2⟩⟩ rfl rfl hl.1 rfl (lv_room (Nat.le_of_ble_eq_true rfl)) dd_R_heardJoin_74 ⟨Nat.zero_le _, Nat.zero_le _⟩) (fun H locs hw => ?_)
          refine lv_if_eq hx hb dd_R_heardJoin_77 rfl (fun b12 => ?_) (fun b12 => ?_)
          · replace h := xs_p b12 h
            exact hret h hw dd_R_heardJoin_90
          · replace h := xs_n b12 h
            refine lv_iload_n hx hb dd_R_heardJoin_80 rfl (lv_at hl 0 rfl) ?_
            refine lv_aload_n hx hb dd_R_heardJoin_81 rfl (lv_at hl 2 rfl) ?_
            refine xr_get_R (v := .ref (ad (k + 26))) hx hb hts hown hK hw hk 29 (by decide) (hts _ hw_772) rfl dd_R_heardJoin_82 ?_
            refine lv_iload_n hx hb dd_R_heardJoin_85 rfl (lv_at hl 1 rfl) ?_
            obtain ⟨v13, gv13, h⟩ := xs_ob h
            refine xr_iald hx hb hK hw (xs_ok_R_lastNonce hK.1 hk) gv13 dd_R_heardJoin_86 ?_
            refine lv_icmp_gt hx hb dd_R_heardJoin_87 rfl (fun b14 => ?_) (fun b14 => ?_)
            · replace h := xs_p b14 h
              refine lv_aload_n hx hb dd_R_heardJoin_91 rfl (lv_at hl 2 rfl) ?_
              refine xr_get_R (v := .ref (ad (k + 26))) hx hb hts hown hK hw hk 29 (by decide) (hts _ hw_772) rfl dd_R_heardJoin_92 ?_
              refine lv_iload_n hx hb dd_R_heardJoin_95 rfl (lv_at hl 1 rfl) ?_
              refine lv_iload_n hx hb dd_R_heardJoin_96 rfl (lv_at hl 0 rfl) ?_
              obtain ⟨S15, gS15, h⟩ := xs_ob h
              refine xr_iast hx hb hK hw (xs_ok_R_lastNonce hK.1 hk) gS15 dd_R_heardJoin_97 (fun H locs hw => ?_)
              refine lv_aload_n hx hb dd_R_heardJoin_98 rfl (lv_at hl 2 rfl) ?_
              refine lv_dup hx hb dd_R_heardJoin_99 rfl ?_
              refine xr_get_R (v := .int (xs_gI S15 k 23)) hx hb hts hown hK hw hk 23 (by decide) (hts _ hw_766) rfl dd_R_heardJoin_100 ?_
              refine lv_iconst (v := 1) hx hb dd_R_heardJoin_103 rfl ?_
              refine lv_iadd hx hb dd_R_heardJoin_104 ?_
              obtain ⟨S16, gS16, h⟩ := xs_ob h
              refine xr_putI_R hx hb hts hown hK hw hk 23 (by decide) (hts _ hw_766) rfl rfl (fun _ _ => rfl) gS16 dd_R_heardJoin_105 (fun H locs hw => ?_)
              refine lv_aload_n hx hb dd_R_heardJoin_108 rfl (lv_at hl 2 rfl) ?_
              refine xr_get_R (v := .ref (ad (k + 21))) hx hb hts hown hK hw hk 24 (by decide) (hts _ hw_767) rfl dd_R_heardJoin_109 ?_
              refine lv_iload_n hx hb dd_R_heardJoin_112 rfl (lv_at hl 1 rfl) ?_
              refine lv_dup2_11 hx hb dd_R_heardJoin_113 rfl rfl ?_
              obtain ⟨v17, gv17, h⟩ := xs_ob h
              refine xr_iald hx hb hK hw (xs_ok_R_sessions hK.1 hk) gv17 dd_R_heardJoin_114 ?_
              refine lv_iconst (v := 1) hx hb dd_R_heardJoin_115 rfl ?_
              refine lv_iadd hx hb dd_R_heardJoin_116 ?_
              obtain ⟨S18, gS18, h⟩ := xs_ob h
              refine xr_iast hx hb hK hw (xs_ok_R_sessions hK.1 hk) gS18 dd_R_heardJoin_117 (fun H locs hw => ?_)
              refine lv_aload_n hx hb dd_R_heardJoin_118 rfl (lv_at hl 2 rfl) ?_
              refine xr_get_R (v := .ref (ad (k + 23))) hx hb hts hown hK hw hk 26 (by decide) (hts _ hw_769) rfl dd_R_heardJoin_119 ?_
              refine lv_iload_n hx hb dd_R_heardJoin_122 rfl (lv_at hl 1 rfl) ?_
              refine lv_aload_n hx hb dd_R_heardJoin_123 rfl (lv_at hl 2 rfl) ?_
              refine xr_get_R (v := .int (xs_gI S18 k 23)) hx hb hts hown hK hw hk 23 (by decide) (hts _ hw_766) rfl dd_R_heardJoin_124 ?_
              obtain ⟨S19, gS19, h⟩ := xs_ob h
              refine xr_iast hx hb hK hw (xs_ok_R_ourSerial hK.1 hk) gS19 dd_R_heardJoin_127 (fun H locs hw => ?_)
              refine lv_aload_n hx hb dd_R_heardJoin_128 rfl (lv_at hl 2 rfl) ?_
              refine xr_get_R (v := .ref (ad (k + 22))) hx hb hts hown hK hw hk 25 (by decide) (hts _ hw_768) rfl dd_R_heardJoin_129 ?_
              refine lv_iload_n hx hb dd_R_heardJoin_132 rfl (lv_at hl 1 rfl) ?_
              refine lv_iload_n hx hb dd_R_heardJoin_133 rfl (lv_at hl 1 rfl) ?_
              refine lv_iconst (v := 1) hx hb dd_R_heardJoin_134 rfl ?_
              refine lv_iadd hx hb dd_R_heardJoin_135 ?_
              refine lv_aload_n hx hb dd_R_heardJoin_136 rfl (lv_at hl 2 rfl) ?_
              refine xr_get_R (v := .ref (ad (k + 21))) hx hb hts hown hK hw hk 24 (by decide) (hts _ hw_767) rfl dd_R_heardJoin_137 ?_
              refine lv_iload_n hx hb dd_R_heardJoin_140 rfl (lv_at hl 1 rfl) ?_
              obtain ⟨v20, gv20, h⟩ := xs_ob h
              refine xr_iald hx hb hK hw (xs_ok_R_sessions hK.1 hk) gv20 dd_R_heardJoin_141 ?_
              refine lv_sipush (v := 256) hx hb dd_R_heardJoin_142 rfl ?_
              refine lv_irem hx hb dd_R_heardJoin_145 (by decide) ?_
              refine lv_asI (v := xs_rem v20 256) rfl ?_
              refine lv_bipush (v := 8) hx hb dd_R_heardJoin_146 rfl ?_
              refine lv_ishl hx hb dd_R_heardJoin_148 ?_
              refine lv_iadd hx hb dd_R_heardJoin_149 ?_
              refine lv_ldcw (v := 637534208) hx hb hown (hts _ hw_1023) dd_R_heardJoin_150 ?_
              refine lv_iadd hx hb dd_R_heardJoin_153 ?_
              obtain ⟨S21, gS21, h⟩ := xs_ob h
              refine xr_iast hx hb hK hw (xs_ok_R_ours hK.1 hk) gS21 dd_R_heardJoin_154 (fun H locs hw => ?_)
              refine lv_aload_n hx hb dd_R_heardJoin_155 rfl (lv_at hl 2 rfl) ?_
              refine lv_iload_n hx hb dd_R_heardJoin_156 rfl (lv_at hl 1 rfl) ?_
              refine lv_aload_n hx hb dd_R_heardJoin_157 rfl (lv_at hl 2 rfl) ?_
              refine xr_get_R (v := .int (xs_gI S21 k 23)) hx hb hts hown hK hw hk 23 (by decide) (hts _ hw_766) rfl dd_R_heardJoin_158 ?_
              refine lv_iload_n hx hb dd_R_heardJoin_161 rfl (lv_at hl 0 rfl) ?_
              refine lv_bipush (v := 9) hx hb dd_R_heardJoin_162 rfl ?_
              refine lv_iconst (v := 2) hx hb dd_R_heardJoin_164 rfl ?_
              refine lv_iload_n hx hb dd_R_heardJoin_165 rfl (lv_at hl 1 rfl) ?_
              refine lv_imul hx hb dd_R_heardJoin_166 ?_
              refine lv_iadd hx hb dd_R_heardJoin_167 ?_
              obtain ⟨q22, gq22, h⟩ := xs_ob h
              refine xq_v hK hw (va_runV (As := [.int q1, .int (xs_gI S21 k 23), .int q10, .int (9 + (2 * q1))]) (rest := []) ⟨hx, hb, hml, hown, hts⟩ (xc_R_derive l D ad ca ks k q1 (xs_gI S21 k 23) q10 (9 + (2 * q1)) S21 q22 hk gq22 _) ⟨callB_of 4 hts (xs_good hw_982) rfl rfl rfl (hts _ hw_13) (hts _ hw_979) yd_R_derive ⟨Nat.le_trans (by decide) hRf, Nat.le_trans (by decide) hRl⟩, (hts _ hw_981), (hts _ hs_35)⟩ ⟨xs_blind, xs_recv_R hK hw hk, fun U h1 h2 => ⟨rfl, xs_pre hK hw h1 h2⟩⟩ rfl rfl hl.1 rfl (lv_room (Nat.le_of_ble_eq_true rfl)) dd_R_heardJoin_168 ⟨Nat.zero_le _, Nat.zero_le _⟩) (fun H locs hw => ?_)
              refine lv_aload_n hx hb dd_R_heardJoin_171 rfl (lv_at hl 2 rfl) ?_
              refine xr_get_R (v := .ref (ad (k + 24))) hx hb hts hown hK hw hk 27 (by decide) (hts _ hw_770) rfl dd_R_heardJoin_172 ?_
              refine lv_iload_n hx hb dd_R_heardJoin_175 rfl (lv_at hl 1 rfl) ?_
              refine lv_iconst (v := (-1)) hx hb dd_R_heardJoin_176 rfl ?_
              obtain ⟨S23, gS23, h⟩ := xs_ob h
              refine xr_iast hx hb hK hw (xs_ok_R_lastUp hK.1 hk) gS23 dd_R_heardJoin_177 (fun H locs hw => ?_)
              refine lv_aload_n hx hb dd_R_heardJoin_178 rfl (lv_at hl 2 rfl) ?_
              refine xr_get_R (v := .ref (ad (k + 25))) hx hb hts hown hK hw hk 28 (by decide) (hts _ hw_771) rfl dd_R_heardJoin_179 ?_
              refine lv_iload_n hx hb dd_R_heardJoin_182 rfl (lv_at hl 1 rfl) ?_
              refine lv_iconst (v := 0) hx hb dd_R_heardJoin_183 rfl ?_
              obtain ⟨S24, gS24, h⟩ := xs_ob h
              refine xr_iast hx hb hK hw (xs_ok_R_nextDown hK.1 hk) gS24 dd_R_heardJoin_184 (fun H locs hw => ?_)
              refine lv_aload_n hx hb dd_R_heardJoin_185 rfl (lv_at hl 2 rfl) ?_
              refine xr_get_R (v := .ref (ad (k + 28))) hx hb hts hown hK hw hk 31 (by decide) (hts _ hw_774) rfl dd_R_heardJoin_186 ?_
              refine lv_iload_n hx hb dd_R_heardJoin_189 rfl (lv_at hl 1 rfl) ?_
              refine lv_iconst (v := 1) hx hb dd_R_heardJoin_190 rfl ?_
              obtain ⟨S25, gS25, h⟩ := xs_ob h
              refine xr_iast hx hb hK hw (xs_ok_R_due hK.1 hk) gS25 dd_R_heardJoin_191 (fun H locs hw => ?_)
              exact hret h hw dd_R_heardJoin_192
            · replace h := xs_n b14 h
              exact hret h hw dd_R_heardJoin_90
        · replace h := xs_p b8 h
          exact hret h hw dd_R_heardJoin_51
set_option maxHeartbeats 4000000 in
set_option maxRecDepth 100000 in
theorem xc_R_deviceOf (l : Launch) (D : va_G) (ad : Nat → Nat) (ca : Nat → ClassId) (ks : List Nat) (k : Nat) (n1 : Int32) (S : xs_T) (r : Int32) (hk : xs_is ks k xs_cR) (h : xf_R_deviceOf k n1 S = some r) (sz : Nat) : Met l yy_R_deviceOf ws_R_deviceOf { frames := 0, cells := 0, slots := 0, locals := 0 } (va_Pc [.ref (ad k), .int n1] (xs_Pre D ad ca ks S sz)) (va_Qi (fun r1 (_ : Unit) => r1 = r) (fun _ t => va_P D xs_cl (xs_w ad ca ks S) t.heap) (xs_A ad ks sz)) 0 0 (xs_A ad ks sz) := by
  refine xm_ir (by decide) (Nat.le_of_ble_eq_true rfl) ?_
  intro p e s m args below meth c R A Q ls hx hb hml hown hts hRf hRl hK hw hl hret
  have hl : lv_has ls 4 [(0, .ref (ad k)), (1, .int n1)] := hl
  have w_33 : ∀ (c4 : Int32 → Int32 → Option (Int32)) (y4 : ∀ (i2 : Int32) (i3 : Int32) (H : Heap) (locs : List Loc) (ls : Array Slot), xs_I D ad ca ks A s S H locs → lv_has ls 4 [(0, .ref (ad k)), (1, .int n1), (2, .int i2), (3, .int i3)] → c4 i2 i3 = some r → W p l e R s m args below meth c H locs 0 0 Q (F0 m 4 ls [])), ∀ (i3 : Int32) (t0 : Int32) (H : Heap) (locs : List Loc) (ls : Array Slot), xs_I D ad ca ks A s S H locs → lv_has ls 4 [(0, .ref (ad k)), (1, .int n1), (3, .int i3)] → xf_R_deviceOf_33 k n1 S c4 i3 t0 = some r → W p l e R s m args below meth c H locs 0 0 Q (F0 m 33 ls [.int t0]) := by
    intro c4 y4 i3 t0 H locs ls hw hl h
    unfold xf_R_deviceOf_33 at h
    refine lv_istore_n hx hb dd_R_deviceOf_33 rfl hl (by decide) rfl (fun ls hl => ?_)
    have hl : lv_has ls 4 [(2, .int t0), (0, .ref (ad k)), (1, .int n1), (3, .int i3)] := hl
    refine lv_iinc (k := 3) (v := i3 + 1) hx hb dd_R_deviceOf_34 hl rfl rfl (by decide) rfl (fun ls hl => ?_)
    have hl : lv_has ls 4 [(3, .int (i3 + 1)), (2, .int t0), (0, .ref (ad k)), (1, .int n1)] := hl
    refine lv_goto hx hb dd_R_deviceOf_37 rfl ?_
    exact y4 t0 (i3 + 1) _ _ _ hw (lv_sub hl [2, 3, 1, 0] rfl) h
  have w_32 : ∀ (c4 : Int32 → Int32 → Option (Int32)) (y4 : ∀ (i2 : Int32) (i3 : Int32) (H : Heap) (locs : List Loc) (ls : Array Slot), xs_I D ad ca ks A s S H locs → lv_has ls 4 [(0, .ref (ad k)), (1, .int n1), (2, .int i2), (3, .int i3)] → c4 i2 i3 = some r → W p l e R s m args below meth c H locs 0 0 Q (F0 m 4 ls [])), ∀ (i2 : Int32) (i3 : Int32) (H : Heap) (locs : List Loc) (ls : Array Slot), xs_I D ad ca ks A s S H locs → lv_has ls 4 [(0, .ref (ad k)), (1, .int n1), (2, .int i2), (3, .int i3)] → xf_R_deviceOf_32 k n1 S c4 i2 i3 = some r → W p l e R s m args below meth c H locs 0 0 Q (F0 m 32 ls []) := by
    intro c4 y4 i2 i3 H locs ls hw hl h
    unfold xf_R_deviceOf_32 at h
    refine lv_iload_n hx hb dd_R_deviceOf_32 rfl (lv_at hl 2 rfl) ?_
    exact w_33 c4 y4 i3 i2 _ _ _ hw (lv_sub hl [0, 1, 3] rfl) h
  have w_4 : ∀ (f : Nat), ∀ (i2 : Int32) (i3 : Int32) (H : Heap) (locs : List Loc) (ls : Array Slot), xs_I D ad ca ks A s S H locs → lv_has ls 4 [(0, .ref (ad k)), (1, .int n1), (2, .int i2), (3, .int i3)] → xf_R_deviceOf_4 k n1 S f i2 i3 = some r → W p l e R s m args below meth c H locs 0 0 Q (F0 m 4 ls []) := by
    intro f
    induction f with
    | zero => intro i2 i3 H locs ls hw hl h; exact absurd h (by simp [xf_R_deviceOf_4])
    | succ f ih =>
      intro i2 i3 H locs ls hw hl h
      rw [xf_R_deviceOf_4] at h
      refine lv_iload_n hx hb dd_R_deviceOf_4 rfl (lv_at hl 3 rfl) ?_
      refine lv_iconst (v := 3) hx hb dd_R_deviceOf_5 rfl ?_
      refine lv_icmp_ge hx hb dd_R_deviceOf_6 rfl (fun b1 => ?_) (fun b1 => ?_)
      · replace h := xs_p b1 h
        refine lv_iload_n hx hb dd_R_deviceOf_40 rfl (lv_at hl 2 rfl) ?_
        exact hret h hw dd_R_deviceOf_41
      · replace h := xs_n b1 h
        refine lv_aload_n hx hb dd_R_deviceOf_9 rfl (lv_at hl 0 rfl) ?_
        refine xr_get_R (v := .ref (ad (k + 21))) hx hb hts hown hK hw hk 24 (by decide) (hts _ hw_767) rfl dd_R_deviceOf_10 ?_
        refine lv_iload_n hx hb dd_R_deviceOf_13 rfl (lv_at hl 3 rfl) ?_
        obtain ⟨v2, gv2, h⟩ := xs_ob h
        refine xr_iald hx hb hK hw (xs_ok_R_sessions hK.1 hk) gv2 dd_R_deviceOf_14 ?_
        refine lv_if_le hx hb dd_R_deviceOf_15 rfl (fun b3 => ?_) (fun b3 => ?_)
        · replace h := xs_p b3 h
          exact w_32 (xf_R_deviceOf_4 k n1 S f) ih i2 i3 _ _ _ hw (lv_sub hl [0, 1, 2, 3] rfl) h
        · replace h := xs_n b3 h
          refine lv_aload_n hx hb dd_R_deviceOf_18 rfl (lv_at hl 0 rfl) ?_
          refine xr_get_R (v := .ref (ad (k + 22))) hx hb hts hown hK hw hk 25 (by decide) (hts _ hw_768) rfl dd_R_deviceOf_19 ?_
          refine lv_iload_n hx hb dd_R_deviceOf_22 rfl (lv_at hl 3 rfl) ?_
          obtain ⟨v4, gv4, h⟩ := xs_ob h
          refine xr_iald hx hb hK hw (xs_ok_R_ours hK.1 hk) gv4 dd_R_deviceOf_23 ?_
          refine lv_iload_n hx hb dd_R_deviceOf_24 rfl (lv_at hl 1 rfl) ?_
          refine lv_icmp_ne hx hb dd_R_deviceOf_25 rfl (fun b5 => ?_) (fun b5 => ?_)
          · replace h := xs_n b5 h
            exact w_32 (xf_R_deviceOf_4 k n1 S f) ih i2 i3 _ _ _ hw (lv_sub hl [0, 1, 2, 3] rfl) h
          · replace h := xs_p b5 h
            refine lv_iload_n hx hb dd_R_deviceOf_28 rfl (lv_at hl 3 rfl) ?_
            refine lv_goto hx hb dd_R_deviceOf_29 rfl ?_
            exact w_33 (xf_R_deviceOf_4 k n1 S f) ih i3 i3 _ _ _ hw (lv_sub hl [0, 1, 3] rfl) h
  unfold xf_R_deviceOf at h
  refine lv_iconst (v := (-1)) hx hb dd_R_deviceOf_0 rfl ?_
  refine lv_istore_n hx hb dd_R_deviceOf_1 rfl hl (by decide) rfl (fun ls hl => ?_)
  have hl : lv_has ls 4 [(2, .int (-1)), (0, .ref (ad k)), (1, .int n1)] := hl
  refine lv_iconst (v := 0) hx hb dd_R_deviceOf_2 rfl ?_
  refine lv_istore_n hx hb dd_R_deviceOf_3 rfl hl (by decide) rfl (fun ls hl => ?_)
  have hl : lv_has ls 4 [(3, .int 0), (2, .int (-1)), (0, .ref (ad k)), (1, .int n1)] := hl
  exact w_4 xs_fuel (-1) 0 _ _ _ hw (lv_sub hl [2, 3, 1, 0] rfl) h
set_option maxHeartbeats 4000000 in
set_option maxRecDepth 100000 in
theorem xc_R_heardData (l : Launch) (D : va_G) (ad : Nat → Nat) (ca : Nat → ClassId) (ks : List Nat) (k : Nat) (n1 : Int32) (S : xs_T) (T : xs_T) (hk : xs_is ks k xs_cR) (h : xf_R_heardData k n1 S = some T) (sz : Nat) : Met l yy_R_heardData ws_R_heardData { frames := 6, cells := 0, slots := 0, locals := 146 } (va_Pc [.ref (ad k), .int n1] (xs_Pre D ad ca ks S sz)) (va_Qv (fun _ : Unit => True) (fun _ t => va_P D xs_cl (xs_w ad ca ks T) t.heap) (xs_A ad ks sz)) 0 0 (xs_A ad ks sz) := by
  refine xm_v (by decide) (Nat.le_of_ble_eq_true rfl) ?_
  intro p e s m args below meth c R A Q ls hx hb hml hown hts hRf hRl hK hw hl hret
  have hl : lv_has ls 9 [(0, .ref (ad k)), (1, .int n1)] := hl
  have w_305 : ∀ (i3 : Int32) (i6 : Int32) (t1 : Int32) (t2 : Int32) (S : xs_T) (H : Heap) (locs : List Loc) (ls : Array Slot), xs_I D ad ca ks A s S H locs → lv_has ls 9 [(0, .ref (ad k)), (3, .int i3), (6, .int i6)] → xf_R_heardData_305 k n1 i3 i6 t1 t2 S = some T → W p l e R s m args below meth c H locs 0 0 Q (F0 m 305 ls [.int t2, .int t1, .ref (ad (k + 30))]) := by
    intro i3 i6 t1 t2 S H locs ls hw hl h
    unfold xf_R_heardData_305 at h
    obtain ⟨S26, gS26, h⟩ := xs_ob h
    refine xr_zast hx hb hK hw (xs_ok_R_checks hK.1 hk) gS26 dd_R_heardData_305 (fun H locs hw => ?_)
    refine lv_aload_n hx hb dd_R_heardData_306 rfl (lv_at hl 0 rfl) ?_
    refine xr_get_R (v := .ref (ad (k + 28))) hx hb hts hown hK hw hk 31 (by decide) (hts _ hw_774) rfl dd_R_heardData_307 ?_
    refine lv_iload_n hx hb dd_R_heardData_310 rfl (lv_at hl 1 rfl) ?_
    refine lv_iload hx hb dd_R_heardData_311 (lv_at hl 2 rfl) ?_
    refine lv_if_ne hx hb dd_R_heardData_313 rfl (fun b27 => ?_) (fun b27 => ?_)
    · replace h := xs_n b27 h
      refine lv_iconst (v := 2) hx hb dd_R_heardData_334 rfl ?_
      refine lv_goto hx hb dd_R_heardData_335 rfl ?_
      obtain ⟨S28, gS28, h⟩ := xs_ob h
      refine xr_iast hx hb hK hw (xs_ok_R_due hK.1 hk) gS28 dd_R_heardData_339 (fun H locs hw => ?_)
      exact hret h hw dd_R_heardData_340
    · replace h := xs_p b27 h
      refine lv_aload_n hx hb dd_R_heardData_316 rfl (lv_at hl 0 rfl) ?_
      refine xr_get_R (v := .ref (ad (k + 30))) hx hb hts hown hK hw hk 33 (by decide) (hts _ hw_776) rfl dd_R_heardData_317 ?_
      refine lv_iload_n hx hb dd_R_heardData_320 rfl (lv_at hl 1 rfl) ?_
      obtain ⟨v29, gv29, h⟩ := xs_ob h
      refine xr_zald hx hb hK hw (xs_ok_R_checks hK.1 hk) gv29 dd_R_heardData_321 ?_
      refine lv_if_ne hx hb dd_R_heardData_322 rfl (fun b30 => ?_) (fun b30 => ?_)
      · replace h := xs_n b30 h
        refine lv_iconst (v := 2) hx hb dd_R_heardData_334 rfl ?_
        refine lv_goto hx hb dd_R_heardData_335 rfl ?_
        obtain ⟨S31, gS31, h⟩ := xs_ob h
        refine xr_iast hx hb hK hw (xs_ok_R_due hK.1 hk) gS31 dd_R_heardData_339 (fun H locs hw => ?_)
        exact hret h hw dd_R_heardData_340
      · replace h := xs_p b30 h
        refine lv_aload_n hx hb dd_R_heardData_325 rfl (lv_at hl 0 rfl) ?_
        refine xr_get_R (v := .ref (ad (k + 33))) hx hb hts hown hK hw hk 36 (by decide) (hts _ hw_779) rfl dd_R_heardData_326 ?_
        refine lv_iload_n hx hb dd_R_heardData_329 rfl (lv_at hl 1 rfl) ?_
        obtain ⟨v32, gv32, h⟩ := xs_ob h
        refine xr_iald hx hb hK hw (xs_ok_R_queued hK.1 hk) gv32 dd_R_heardData_330 ?_
        refine lv_if_le hx hb dd_R_heardData_331 rfl (fun b33 => ?_) (fun b33 => ?_)
        · replace h := xs_p b33 h
          refine lv_iconst (v := 0) hx hb dd_R_heardData_338 rfl ?_
          obtain ⟨S34, gS34, h⟩ := xs_ob h
          refine xr_iast hx hb hK hw (xs_ok_R_due hK.1 hk) gS34 dd_R_heardData_339 (fun H locs hw => ?_)
          exact hret h hw dd_R_heardData_340
        · replace h := xs_n b33 h
          refine lv_iconst (v := 2) hx hb dd_R_heardData_334 rfl ?_
          refine lv_goto hx hb dd_R_heardData_335 rfl ?_
          obtain ⟨S35, gS35, h⟩ := xs_ob h
          refine xr_iast hx hb hK hw (xs_ok_R_due hK.1 hk) gS35 dd_R_heardData_339 (fun H locs hw => ?_)
          exact hret h hw dd_R_heardData_340
  have w_304 : ∀ (i3 : Int32) (i6 : Int32) (t1 : Int32) (S : xs_T) (H : Heap) (locs : List Loc) (ls : Array Slot), xs_I D ad ca ks A s S H locs → lv_has ls 9 [(0, .ref (ad k)), (3, .int i3), (6, .int i6)] → xf_R_heardData_304 k n1 i3 i6 t1 S = some T → W p l e R s m args below meth c H locs 0 0 Q (F0 m 304 ls [.int t1, .ref (ad (k + 30))]) := by
    intro i3 i6 t1 S H locs ls hw hl h
    unfold xf_R_heardData_304 at h
    refine lv_iconst (v := 0) hx hb dd_R_heardData_304 rfl ?_
    exact w_305 i3 i6 t1 0 S _ _ _ hw (lv_sub hl [0, 1, 2] rfl) h
  have w_261 : ∀ (i3 : Int32) (i6 : Int32) (S : xs_T) (H : Heap) (locs : List Loc) (ls : Array Slot), xs_I D ad ca ks A s S H locs → lv_has ls 9 [(0, .ref (ad k)), (3, .int i3), (6, .int i6)] → xf_R_heardData_261 k n1 i3 i6 S = some T → W p l e R s m args below meth c H locs 0 0 Q (F0 m 261 ls []) := by
    intro i3 i6 S H locs ls hw hl h
    unfold xf_R_heardData_261 at h
    refine lv_aload_n hx hb dd_R_heardData_261 rfl (lv_at hl 0 rfl) ?_
    refine xr_get_R (v := .ref (ad (k + 29))) hx hb hts hown hK hw hk 32 (by decide) (hts _ hw_775) rfl dd_R_heardData_262 ?_
    refine lv_iload_n hx hb dd_R_heardData_265 rfl (lv_at hl 1 rfl) ?_
    refine lv_iload hx hb dd_R_heardData_266 (lv_at hl 2 rfl) ?_
    obtain ⟨S23, gS23, h⟩ := xs_ob h
    refine xr_zast hx hb hK hw (xs_ok_R_acknowledges hK.1 hk) gS23 dd_R_heardData_268 (fun H locs hw => ?_)
    refine lv_aload_n hx hb dd_R_heardData_269 rfl (lv_at hl 0 rfl) ?_
    refine xr_get_R (v := .ref (ad (k + 30))) hx hb hts hown hK hw hk 33 (by decide) (hts _ hw_776) rfl dd_R_heardData_270 ?_
    refine lv_iload_n hx hb dd_R_heardData_273 rfl (lv_at hl 1 rfl) ?_
    refine lv_aload_n hx hb dd_R_heardData_274 rfl (lv_at hl 0 rfl) ?_
    refine lv_bipush (v := 23) hx hb dd_R_heardData_275 rfl ?_
    refine lv_iconst (v := 5) hx hb dd_R_heardData_277 rfl ?_
    obtain ⟨q24, gq24, h⟩ := xs_ob h
    refine xq_i hK hw (va_runV (As := [.int 23, .int 5]) (rest := [.int i3, .ref (ad (k + 30))]) ⟨hx, hb, hml, hown, hts⟩ (xc_R_at l D ad ca ks k 23 5 S23 q24 hk gq24 _) ⟨callB_of 2 hts (xs_good hw_888) rfl rfl rfl (hts _ hw_13) (hts _ hw_885) yd_R_at ⟨Nat.le_trans (by decide) hRf, Nat.le_trans (by decide) hRl⟩, (hts _ hw_887), (hts _ hs_15)⟩ ⟨xs_blind, xs_recv_R hK hw hk, fun U h1 h2 => ⟨rfl, xs_pre hK hw h1 h2⟩⟩ rfl rfl hl.1 rfl (lv_room (Nat.le_of_ble_eq_true rfl)) dd_R_heardData_278 ⟨Nat.zero_le _, Nat.zero_le _⟩) (fun H locs hw => ?_)
    refine lv_bipush (v := 16) hx hb dd_R_heardData_281 rfl ?_
    refine lv_irem hx hb dd_R_heardData_283 (by decide) ?_
    refine lv_asI (v := xs_rem q24 16) rfl ?_
    refine lv_iconst (v := 1) hx hb dd_R_heardData_284 rfl ?_
    refine lv_icmp_ne hx hb dd_R_heardData_285 rfl (fun b25 => ?_) (fun b25 => ?_)
    · replace h := xs_n b25 h
      exact w_304 i3 i6 i3 S23 _ _ _ hw (lv_sub hl [0, 1, 2] rfl) h
    · replace h := xs_p b25 h
      refine lv_aload_n hx hb dd_R_heardData_288 rfl (lv_at hl 0 rfl) ?_
      refine lv_bipush (v := 23) hx hb dd_R_heardData_289 rfl ?_
      refine lv_bipush (v := 8) hx hb dd_R_heardData_291 rfl ?_
      obtain ⟨q36, gq36, h⟩ := xs_ob h
      refine xq_i hK hw (va_runV (As := [.int 23, .int 8]) (rest := [.int i3, .ref (ad (k + 30))]) ⟨hx, hb, hml, hown, hts⟩ (xc_R_at l D ad ca ks k 23 8 S23 q36 hk gq36 _) ⟨callB_of 2 hts (xs_good hw_888) rfl rfl rfl (hts _ hw_13) (hts _ hw_885) yd_R_at ⟨Nat.le_trans (by decide) hRf, Nat.le_trans (by decide) hRl⟩, (hts _ hw_887), (hts _ hs_15)⟩ ⟨xs_blind, xs_recv_R hK hw hk, fun U h1 h2 => ⟨rfl, xs_pre hK hw h1 h2⟩⟩ rfl rfl hl.1 rfl (lv_room (Nat.le_of_ble_eq_true rfl)) dd_R_heardData_293 ⟨Nat.zero_le _, Nat.zero_le _⟩) (fun H locs hw => ?_)
      refine lv_iconst (v := 2) hx hb dd_R_heardData_296 rfl ?_
      refine lv_icmp_ne hx hb dd_R_heardData_297 rfl (fun b37 => ?_) (fun b37 => ?_)
      · replace h := xs_n b37 h
        exact w_304 i3 i6 i3 S23 _ _ _ hw (lv_sub hl [0, 1, 2] rfl) h
      · replace h := xs_p b37 h
        refine lv_iconst (v := 1) hx hb dd_R_heardData_300 rfl ?_
        refine lv_goto hx hb dd_R_heardData_301 rfl ?_
        exact w_305 i3 i6 i3 1 S23 _ _ _ hw (lv_sub hl [0, 1, 2] rfl) h
  have w_188 : ∀ (i3 : Int32) (t1 : Int32) (t2 : Int32) (S : xs_T) (H : Heap) (locs : List Loc) (ls : Array Slot), xs_I D ad ca ks A s S H locs → lv_has ls 9 [(0, .ref (ad k)), (3, .int i3)] → xf_R_heardData_188 k n1 i3 t1 t2 S = some T → W p l e R s m args below meth c H locs 0 0 Q (F0 m 188 ls [.int t2, .int t1, .ref (ad (k + 30))]) := by
    intro i3 t1 t2 S H locs ls hw hl h
    unfold xf_R_heardData_188 at h
    obtain ⟨S47, gS47, h⟩ := xs_ob h
    refine xr_zast hx hb hK hw (xs_ok_R_checks hK.1 hk) gS47 dd_R_heardData_188 (fun H locs hw => ?_)
    refine lv_aload_n hx hb dd_R_heardData_189 rfl (lv_at hl 0 rfl) ?_
    refine xr_get_R (v := .ref (ad (k + 29))) hx hb hts hown hK hw hk 32 (by decide) (hts _ hw_775) rfl dd_R_heardData_190 ?_
    refine lv_iload_n hx hb dd_R_heardData_193 rfl (lv_at hl 1 rfl) ?_
    refine lv_iconst (v := 1) hx hb dd_R_heardData_194 rfl ?_
    obtain ⟨S48, gS48, h⟩ := xs_ob h
    refine xr_zast hx hb hK hw (xs_ok_R_acknowledges hK.1 hk) gS48 dd_R_heardData_195 (fun H locs hw => ?_)
    refine lv_aload_n hx hb dd_R_heardData_196 rfl (lv_at hl 0 rfl) ?_
    refine xr_get_R (v := .ref (ad (k + 28))) hx hb hts hown hK hw hk 31 (by decide) (hts _ hw_774) rfl dd_R_heardData_197 ?_
    refine lv_iload_n hx hb dd_R_heardData_200 rfl (lv_at hl 1 rfl) ?_
    refine lv_iconst (v := 2) hx hb dd_R_heardData_201 rfl ?_
    obtain ⟨S49, gS49, h⟩ := xs_ob h
    refine xr_iast hx hb hK hw (xs_ok_R_due hK.1 hk) gS49 dd_R_heardData_202 (fun H locs hw => ?_)
    exact hret h hw dd_R_heardData_203
  have w_187 : ∀ (i3 : Int32) (t1 : Int32) (S : xs_T) (H : Heap) (locs : List Loc) (ls : Array Slot), xs_I D ad ca ks A s S H locs → lv_has ls 9 [(0, .ref (ad k)), (3, .int i3)] → xf_R_heardData_187 k n1 i3 t1 S = some T → W p l e R s m args below meth c H locs 0 0 Q (F0 m 187 ls [.int t1, .ref (ad (k + 30))]) := by
    intro i3 t1 S H locs ls hw hl h
    unfold xf_R_heardData_187 at h
    refine lv_iconst (v := 0) hx hb dd_R_heardData_187 rfl ?_
    exact w_188 i3 t1 0 S _ _ _ hw (lv_sub hl [0, 1] rfl) h
  have w_129 : ∀ (i2 : Int32) (i3 : Int32) (i5 : Int32) (t0 : Int32) (S : xs_T) (H : Heap) (locs : List Loc) (ls : Array Slot), xs_I D ad ca ks A s S H locs → lv_has ls 9 [(0, .ref (ad k)), (1, .int n1), (2, .int i2), (3, .int i3), (5, .int i5)] → xf_R_heardData_129 k n1 i2 i3 i5 t0 S = some T → W p l e R s m args below meth c H locs 0 0 Q (F0 m 129 ls [.int t0]) := by
    intro i2 i3 i5 t0 S H locs ls hw hl h
    unfold xf_R_heardData_129 at h
    refine lv_istore hx hb dd_R_heardData_129 hl (by decide) rfl (fun ls hl => ?_)
    have hl : lv_has ls 9 [(6, .int t0), (0, .ref (ad k)), (1, .int n1), (2, .int i2), (3, .int i3), (5, .int i5)] := hl
    refine lv_iload hx hb dd_R_heardData_131 (lv_at hl 5 rfl) ?_
    refine lv_aload_n hx hb dd_R_heardData_133 rfl (lv_at hl 1 rfl) ?_
    refine xr_get_R (v := .ref (ad (k + 24))) hx hb hts hown hK hw hk 27 (by decide) (hts _ hw_770) rfl dd_R_heardData_134 ?_
    refine lv_iload_n hx hb dd_R_heardData_137 rfl (lv_at hl 4 rfl) ?_
    obtain ⟨v18, gv18, h⟩ := xs_ob h
    refine xr_iald hx hb hK hw (xs_ok_R_lastUp hK.1 hk) gv18 dd_R_heardData_138 ?_
    refine lv_icmp_ne hx hb dd_R_heardData_139 rfl (fun b19 => ?_) (fun b19 => ?_)
    · replace h := xs_n b19 h
      refine lv_aload_n hx hb dd_R_heardData_204 rfl (lv_at hl 1 rfl) ?_
      refine xr_get_R (v := .ref (ad (k + 24))) hx hb hts hown hK hw hk 27 (by decide) (hts _ hw_770) rfl dd_R_heardData_205 ?_
      refine lv_iload_n hx hb dd_R_heardData_208 rfl (lv_at hl 4 rfl) ?_
      refine lv_iload hx hb dd_R_heardData_209 (lv_at hl 5 rfl) ?_
      obtain ⟨S20, gS20, h⟩ := xs_ob h
      refine xr_iast hx hb hK hw (xs_ok_R_lastUp hK.1 hk) gS20 dd_R_heardData_211 (fun H locs hw => ?_)
      refine lv_aload_n hx hb dd_R_heardData_212 rfl (lv_at hl 1 rfl) ?_
      refine xr_get_R (v := .ref (ad (k + 27))) hx hb hts hown hK hw hk 30 (by decide) (hts _ hw_773) rfl dd_R_heardData_213 ?_
      refine lv_iload_n hx hb dd_R_heardData_216 rfl (lv_at hl 4 rfl) ?_
      refine lv_iconst (v := 1) hx hb dd_R_heardData_217 rfl ?_
      refine lv_iload_n hx hb dd_R_heardData_218 rfl (lv_at hl 2 rfl) ?_
      refine lv_ishl hx hb dd_R_heardData_219 ?_
      obtain ⟨S21, gS21, h⟩ := xs_ob h
      refine xr_iast hx hb hK hw (xs_ok_R_gateways hK.1 hk) gS21 dd_R_heardData_220 (fun H locs hw => ?_)
      refine lv_iload_n hx hb dd_R_heardData_221 rfl (lv_at hl 3 rfl) ?_
      refine lv_if_le hx hb dd_R_heardData_222 rfl (fun b22 => ?_) (fun b22 => ?_)
      · replace h := xs_p b22 h
        exact w_261 i3 t0 S21 _ _ _ hw (lv_sub hl [1, 4, 0] rfl) h
      · replace h := xs_n b22 h
        refine lv_aload_n hx hb dd_R_heardData_225 rfl (lv_at hl 1 rfl) ?_
        refine lv_aload_n hx hb dd_R_heardData_226 rfl (lv_at hl 1 rfl) ?_
        refine lv_bipush (v := 23) hx hb dd_R_heardData_227 rfl ?_
        refine lv_iload_n hx hb dd_R_heardData_229 rfl (lv_at hl 3 rfl) ?_
        obtain ⟨q38, gq38, h⟩ := xs_ob h
        refine xq_l hK hw (va_runV (As := [.int 23, .int i2]) (rest := [.ref (ad k)]) ⟨hx, hb, hml, hown, hts⟩ (xc_R_payloadAt l D ad ca ks k 23 i2 S21 q38 hk gq38 _) ⟨callB_of 2 hts (xs_good hw_998) rfl rfl rfl (hts _ hw_13) (hts _ hw_995) yd_R_payloadAt ⟨Nat.le_trans (by decide) hRf, Nat.le_trans (by decide) hRl⟩, (hts _ hw_997), (hts _ hs_38)⟩ ⟨xs_blind, xs_recv_R hK hw hk, fun U h1 h2 => ⟨rfl, xs_pre hK hw h1 h2⟩⟩ rfl rfl hl.1 rfl (lv_room (Nat.le_of_ble_eq_true rfl)) dd_R_heardData_230 ⟨Nat.zero_le _, Nat.zero_le _⟩) (fun H locs hw => ?_)
        refine lv_iload_n hx hb dd_R_heardData_233 rfl (lv_at hl 3 rfl) ?_
        refine lv_bipush (v := 10) hx hb dd_R_heardData_234 rfl ?_
        refine lv_iconst (v := 2) hx hb dd_R_heardData_236 rfl ?_
        refine lv_iload_n hx hb dd_R_heardData_237 rfl (lv_at hl 4 rfl) ?_
        refine lv_imul hx hb dd_R_heardData_238 ?_
        refine lv_iadd hx hb dd_R_heardData_239 ?_
        refine lv_iconst (v := 0) hx hb dd_R_heardData_240 rfl ?_
        refine lv_aload_n hx hb dd_R_heardData_241 rfl (lv_at hl 1 rfl) ?_
        refine xr_get_R (v := .ref (ad (k + 22))) hx hb hts hown hK hw hk 25 (by decide) (hts _ hw_768) rfl dd_R_heardData_242 ?_
        refine lv_iload_n hx hb dd_R_heardData_245 rfl (lv_at hl 4 rfl) ?_
        obtain ⟨v39, gv39, h⟩ := xs_ob h
        refine xr_iald hx hb hK hw (xs_ok_R_ours hK.1 hk) gv39 dd_R_heardData_246 ?_
        refine lv_iload hx hb dd_R_heardData_247 (lv_at hl 5 rfl) ?_
        obtain ⟨q40, gq40, h⟩ := xs_ob h
        refine xq_l hK hw (va_runV (As := [.long q38, .int i2, .int (10 + (2 * i3)), .int 0, .int v39, .int i5]) (rest := []) ⟨hx, hb, hml, hown, hts⟩ (xc_R_enciphered l D ad ca ks k q38 i2 (10 + (2 * i3)) 0 v39 i5 S21 q40.1 q40.2 hk gq40 _) ⟨callB_of 6 hts (xs_good hw_944) rfl rfl rfl (hts _ hw_13) (hts _ hw_941) yd_R_enciphered ⟨Nat.le_trans (by decide) hRf, Nat.le_trans (by decide) hRl⟩, (hts _ hw_943), (hts _ hs_28)⟩ ⟨xs_blind, xs_recv_R hK hw hk, fun U h1 h2 => ⟨rfl, xs_pre hK hw h1 h2⟩⟩ rfl rfl hl.1 rfl (lv_room (Nat.le_of_ble_eq_true rfl)) dd_R_heardData_249 ⟨Nat.zero_le _, Nat.zero_le _⟩) (fun H locs hw => ?_)
        refine lv_lstore hx hb dd_R_heardData_252 hl (by decide) rfl (fun ls hl => ?_)
        have hl : lv_has ls 9 [(7, .long q40.1), (6, .int t0), (0, .ref (ad k)), (1, .int n1), (2, .int i2), (3, .int i3), (5, .int i5)] := hl
        refine lv_aload_n hx hb dd_R_heardData_254 rfl (lv_at hl 2 rfl) ?_
        refine lv_iload_n hx hb dd_R_heardData_255 rfl (lv_at hl 5 rfl) ?_
        refine lv_lload hx hb dd_R_heardData_256 (lv_at hl 0 rfl) ?_
        obtain ⟨q41, gq41, h⟩ := xs_ob h
        refine xq_v hK hw (va_runV (As := [.int i3, .long q40.1]) (rest := []) ⟨hx, hb, hml, hown, hts⟩ (xc_R_receive l D ad ca ks k i3 q40.1 q40.2 q41 hk gq41 _) ⟨callB_of 2 hts (xs_good hw_1002) rfl rfl rfl (hts _ hw_13) (hts _ hw_999) yd_R_receive ⟨Nat.le_trans (by decide) hRf, Nat.le_trans (by decide) hRl⟩, (hts _ hw_1001), (hts _ hs_39)⟩ ⟨xs_blind, xs_recv_R hK hw hk, fun U h1 h2 => ⟨rfl, xs_pre hK hw h1 h2⟩⟩ rfl rfl hl.1 rfl (lv_room (Nat.le_of_ble_eq_true rfl)) dd_R_heardData_258 ⟨Nat.zero_le _, Nat.zero_le _⟩) (fun H locs hw => ?_)
        exact w_261 i3 t0 q41 _ _ _ hw (lv_sub hl [2, 5, 1] rfl) h
    · replace h := xs_p b19 h
      refine lv_aload_n hx hb dd_R_heardData_142 rfl (lv_at hl 1 rfl) ?_
      refine xr_get_R (v := .ref (ad (k + 27))) hx hb hts hown hK hw hk 30 (by decide) (hts _ hw_773) rfl dd_R_heardData_143 ?_
      refine lv_iload_n hx hb dd_R_heardData_146 rfl (lv_at hl 4 rfl) ?_
      refine lv_dup2_11 hx hb dd_R_heardData_147 rfl rfl ?_
      obtain ⟨v42, gv42, h⟩ := xs_ob h
      refine xr_iald hx hb hK hw (xs_ok_R_gateways hK.1 hk) gv42 dd_R_heardData_148 ?_
      refine lv_iconst (v := 1) hx hb dd_R_heardData_149 rfl ?_
      refine lv_iload_n hx hb dd_R_heardData_150 rfl (lv_at hl 2 rfl) ?_
      refine lv_ishl hx hb dd_R_heardData_151 ?_
      refine lv_ior hx hb dd_R_heardData_152 ?_
      obtain ⟨S43, gS43, h⟩ := xs_ob h
      refine xr_iast hx hb hK hw (xs_ok_R_gateways hK.1 hk) gS43 dd_R_heardData_153 (fun H locs hw => ?_)
      refine lv_iload hx hb dd_R_heardData_154 (lv_at hl 0 rfl) ?_
      refine lv_if_eq hx hb dd_R_heardData_156 rfl (fun b44 => ?_) (fun b44 => ?_)
      · replace h := xs_p b44 h
        exact hret h hw dd_R_heardData_203
      · replace h := xs_n b44 h
        refine lv_aload_n hx hb dd_R_heardData_159 rfl (lv_at hl 1 rfl) ?_
        refine xr_get_R (v := .ref (ad (k + 30))) hx hb hts hown hK hw hk 33 (by decide) (hts _ hw_776) rfl dd_R_heardData_160 ?_
        refine lv_iload_n hx hb dd_R_heardData_163 rfl (lv_at hl 4 rfl) ?_
        refine lv_aload_n hx hb dd_R_heardData_164 rfl (lv_at hl 1 rfl) ?_
        refine xr_get_R (v := .ref (ad (k + 28))) hx hb hts hown hK hw hk 31 (by decide) (hts _ hw_774) rfl dd_R_heardData_165 ?_
        refine lv_iload_n hx hb dd_R_heardData_168 rfl (lv_at hl 4 rfl) ?_
        obtain ⟨v45, gv45, h⟩ := xs_ob h
        refine xr_iald hx hb hK hw (xs_ok_R_due hK.1 hk) gv45 dd_R_heardData_169 ?_
        refine lv_iconst (v := 2) hx hb dd_R_heardData_170 rfl ?_
        refine lv_icmp_ne hx hb dd_R_heardData_171 rfl (fun b46 => ?_) (fun b46 => ?_)
        · replace h := xs_n b46 h
          exact w_187 i3 i3 S43 _ _ _ hw (lv_sub hl [1, 4] rfl) h
        · replace h := xs_p b46 h
          refine lv_aload_n hx hb dd_R_heardData_174 rfl (lv_at hl 1 rfl) ?_
          refine xr_get_R (v := .ref (ad (k + 30))) hx hb hts hown hK hw hk 33 (by decide) (hts _ hw_776) rfl dd_R_heardData_175 ?_
          refine lv_iload_n hx hb dd_R_heardData_178 rfl (lv_at hl 4 rfl) ?_
          obtain ⟨v50, gv50, h⟩ := xs_ob h
          refine xr_zald hx hb hK hw (xs_ok_R_checks hK.1 hk) gv50 dd_R_heardData_179 ?_
          refine lv_if_eq hx hb dd_R_heardData_180 rfl (fun b51 => ?_) (fun b51 => ?_)
          · replace h := xs_p b51 h
            exact w_187 i3 i3 S43 _ _ _ hw (lv_sub hl [1, 4] rfl) h
          · replace h := xs_n b51 h
            refine lv_iconst (v := 1) hx hb dd_R_heardData_183 rfl ?_
            refine lv_goto hx hb dd_R_heardData_184 rfl ?_
            exact w_188 i3 i3 1 S43 _ _ _ hw (lv_sub hl [1, 4] rfl) h
  have w_69 : ∀ (i2 : Int32) (i3 : Int32) (t0 : Int32) (S : xs_T) (H : Heap) (locs : List Loc) (ls : Array Slot), xs_I D ad ca ks A s S H locs → lv_has ls 9 [(0, .ref (ad k)), (1, .int n1), (2, .int i2), (3, .int i3)] → xf_R_heardData_69 k n1 i2 i3 t0 S = some T → W p l e R s m args below meth c H locs 0 0 Q (F0 m 69 ls [.int t0]) := by
    intro i2 i3 t0 S H locs ls hw hl h
    unfold xf_R_heardData_69 at h
    refine lv_istore hx hb dd_R_heardData_69 hl (by decide) rfl (fun ls hl => ?_)
    have hl : lv_has ls 9 [(5, .int t0), (0, .ref (ad k)), (1, .int n1), (2, .int i2), (3, .int i3)] := hl
    refine lv_aload_n hx hb dd_R_heardData_71 rfl (lv_at hl 1 rfl) ?_
    refine lv_bipush (v := 23) hx hb dd_R_heardData_72 rfl ?_
    refine lv_aload_n hx hb dd_R_heardData_74 rfl (lv_at hl 1 rfl) ?_
    refine xr_get_R (v := .ref (ad (k + 10))) hx hb hts hown hK hw hk 10 (by decide) (hts _ hw_753) rfl dd_R_heardData_75 ?_
    refine lv_bipush (v := 23) hx hb dd_R_heardData_78 rfl ?_
    obtain ⟨v11, gv11, h⟩ := xs_ob h
    refine xr_iald hx hb hK hw (xs_ok_R_length hK.1 hk) gv11 dd_R_heardData_80 ?_
    refine lv_iconst (v := 4) hx hb dd_R_heardData_81 rfl ?_
    refine lv_isub hx hb dd_R_heardData_82 ?_
    refine lv_bipush (v := 9) hx hb dd_R_heardData_83 rfl ?_
    refine lv_iconst (v := 2) hx hb dd_R_heardData_85 rfl ?_
    refine lv_iload_n hx hb dd_R_heardData_86 rfl (lv_at hl 4 rfl) ?_
    refine lv_imul hx hb dd_R_heardData_87 ?_
    refine lv_iadd hx hb dd_R_heardData_88 ?_
    refine lv_iconst (v := 0) hx hb dd_R_heardData_89 rfl ?_
    refine lv_aload_n hx hb dd_R_heardData_90 rfl (lv_at hl 1 rfl) ?_
    refine xr_get_R (v := .ref (ad (k + 22))) hx hb hts hown hK hw hk 25 (by decide) (hts _ hw_768) rfl dd_R_heardData_91 ?_
    refine lv_iload_n hx hb dd_R_heardData_94 rfl (lv_at hl 4 rfl) ?_
    obtain ⟨v12, gv12, h⟩ := xs_ob h
    refine xr_iald hx hb hK hw (xs_ok_R_ours hK.1 hk) gv12 dd_R_heardData_95 ?_
    refine lv_iload hx hb dd_R_heardData_96 (lv_at hl 0 rfl) ?_
    obtain ⟨q13, gq13, h⟩ := xs_ob h
    refine xq_v hK hw (va_runV (As := [.int 23, .int (v11 - 4), .int (9 + (2 * i3)), .int 0, .int v12, .int t0]) (rest := []) ⟨hx, hb, hml, hown, hts⟩ (xc_R_dataCode l D ad ca ks k 23 (v11 - 4) (9 + (2 * i3)) 0 v12 t0 S q13 hk gq13 _) ⟨callB_of 6 hts (xs_good hw_953) rfl rfl rfl (hts _ hw_13) (hts _ hw_950) yd_R_dataCode ⟨Nat.le_trans (by decide) hRf, Nat.le_trans (by decide) hRl⟩, (hts _ hw_952), (hts _ hs_30)⟩ ⟨xs_blind, xs_recv_R hK hw hk, fun U h1 h2 => ⟨rfl, xs_pre hK hw h1 h2⟩⟩ rfl rfl hl.1 rfl (lv_room (Nat.le_of_ble_eq_true rfl)) dd_R_heardData_98 ⟨Nat.zero_le _, Nat.zero_le _⟩) (fun H locs hw => ?_)
    refine lv_aload_n hx hb dd_R_heardData_101 rfl (lv_at hl 1 rfl) ?_
    refine lv_bipush (v := 23) hx hb dd_R_heardData_102 rfl ?_
    obtain ⟨q14, gq14, h⟩ := xs_ob h
    refine xq_i hK hw (va_runV (As := [.int 23]) (rest := []) ⟨hx, hb, hml, hown, hts⟩ (xc_R_endsWithCode l D ad ca ks k 23 q13 q14 hk gq14 _) ⟨callB_of 1 hts (xs_good hw_978) rfl rfl rfl (hts _ hw_13) (hts _ hw_975) yd_R_endsWithCode ⟨Nat.le_trans (by decide) hRf, Nat.le_trans (by decide) hRl⟩, (hts _ hw_977), (hts _ hs_34)⟩ ⟨xs_blind, xs_recv_R hK hw hk, fun U h1 h2 => ⟨rfl, xs_pre hK hw h1 h2⟩⟩ rfl rfl hl.1 rfl (lv_room (Nat.le_of_ble_eq_true rfl)) dd_R_heardData_104 ⟨Nat.zero_le _, Nat.zero_le _⟩) (fun H locs hw => ?_)
    refine lv_if_ne hx hb dd_R_heardData_107 rfl (fun b15 => ?_) (fun b15 => ?_)
    · replace h := xs_n b15 h
      refine lv_aload_n hx hb dd_R_heardData_111 rfl (lv_at hl 1 rfl) ?_
      refine lv_bipush (v := 23) hx hb dd_R_heardData_112 rfl ?_
      refine lv_iconst (v := 0) hx hb dd_R_heardData_114 rfl ?_
      obtain ⟨q16, gq16, h⟩ := xs_ob h
      refine xq_i hK hw (va_runV (As := [.int 23, .int 0]) (rest := []) ⟨hx, hb, hml, hown, hts⟩ (xc_R_at l D ad ca ks k 23 0 q13 q16 hk gq16 _) ⟨callB_of 2 hts (xs_good hw_888) rfl rfl rfl (hts _ hw_13) (hts _ hw_885) yd_R_at ⟨Nat.le_trans (by decide) hRf, Nat.le_trans (by decide) hRl⟩, (hts _ hw_887), (hts _ hs_15)⟩ ⟨xs_blind, xs_recv_R hK hw hk, fun U h1 h2 => ⟨rfl, xs_pre hK hw h1 h2⟩⟩ rfl rfl hl.1 rfl (lv_room (Nat.le_of_ble_eq_true rfl)) dd_R_heardData_115 ⟨Nat.zero_le _, Nat.zero_le _⟩) (fun H locs hw => ?_)
      refine lv_sipush (v := 128) hx hb dd_R_heardData_118 rfl ?_
      refine lv_icmp_ne hx hb dd_R_heardData_121 rfl (fun b17 => ?_) (fun b17 => ?_)
      · replace h := xs_n b17 h
        refine lv_iconst (v := 0) hx hb dd_R_heardData_128 rfl ?_
        exact w_129 i2 i3 t0 0 q13 _ _ _ hw (lv_sub hl [1, 2, 3, 4, 0] rfl) h
      · replace h := xs_p b17 h
        refine lv_iconst (v := 1) hx hb dd_R_heardData_124 rfl ?_
        refine lv_goto hx hb dd_R_heardData_125 rfl ?_
        exact w_129 i2 i3 t0 1 q13 _ _ _ hw (lv_sub hl [1, 2, 3, 4, 0] rfl) h
    · replace h := xs_p b15 h
      exact hret h hw dd_R_heardData_110
  have w_27 : ∀ (i2 : Int32) (t0 : Int32) (S : xs_T) (H : Heap) (locs : List Loc) (ls : Array Slot), xs_I D ad ca ks A s S H locs → lv_has ls 9 [(0, .ref (ad k)), (1, .int n1), (2, .int i2)] → xf_R_heardData_27 k n1 i2 t0 S = some T → W p l e R s m args below meth c H locs 0 0 Q (F0 m 27 ls [.int t0]) := by
    intro i2 t0 S H locs ls hw hl h
    unfold xf_R_heardData_27 at h
    refine lv_istore_n hx hb dd_R_heardData_27 rfl hl (by decide) rfl (fun ls hl => ?_)
    have hl : lv_has ls 9 [(3, .int t0), (0, .ref (ad k)), (1, .int n1), (2, .int i2)] := hl
    refine lv_iload_n hx hb dd_R_heardData_28 rfl (lv_at hl 0 rfl) ?_
    refine lv_if_ge hx hb dd_R_heardData_29 rfl (fun b5 => ?_) (fun b5 => ?_)
    · replace h := xs_p b5 h
      refine lv_aload_n hx hb dd_R_heardData_33 rfl (lv_at hl 1 rfl) ?_
      refine lv_bipush (v := 23) hx hb dd_R_heardData_34 rfl ?_
      refine lv_bipush (v := 6) hx hb dd_R_heardData_36 rfl ?_
      refine lv_iconst (v := 2) hx hb dd_R_heardData_38 rfl ?_
      obtain ⟨q6, gq6, h⟩ := xs_ob h
      refine xq_i hK hw (va_runV (As := [.int 23, .int 6, .int 2]) (rest := []) ⟨hx, hb, hml, hown, hts⟩ (xc_R_numberAt l D ad ca ks k 23 6 2 S q6 hk gq6 _) ⟨callB_of 3 hts (xs_good hw_974) rfl rfl rfl (hts _ hw_13) (hts _ hw_971) yd_R_numberAt ⟨Nat.le_trans (by decide) hRf, Nat.le_trans (by decide) hRl⟩, (hts _ hw_973), (hts _ hs_33)⟩ ⟨xs_blind, xs_recv_R hK hw hk, fun U h1 h2 => ⟨rfl, xs_pre hK hw h1 h2⟩⟩ rfl rfl hl.1 rfl (lv_room (Nat.le_of_ble_eq_true rfl)) dd_R_heardData_39 ⟨Nat.zero_le _, Nat.zero_le _⟩) (fun H locs hw => ?_)
      refine lv_istore hx hb dd_R_heardData_42 hl (by decide) rfl (fun ls hl => ?_)
      have hl : lv_has ls 9 [(4, .int q6), (3, .int t0), (0, .ref (ad k)), (1, .int n1), (2, .int i2)] := hl
      refine lv_aload_n hx hb dd_R_heardData_44 rfl (lv_at hl 2 rfl) ?_
      refine xr_get_R (v := .ref (ad (k + 24))) hx hb hts hown hK hw hk 27 (by decide) (hts _ hw_770) rfl dd_R_heardData_45 ?_
      refine lv_iload_n hx hb dd_R_heardData_48 rfl (lv_at hl 1 rfl) ?_
      obtain ⟨v7, gv7, h⟩ := xs_ob h
      refine xr_iald hx hb hK hw (xs_ok_R_lastUp hK.1 hk) gv7 dd_R_heardData_49 ?_
      refine lv_if_ge hx hb dd_R_heardData_50 rfl (fun b8 => ?_) (fun b8 => ?_)
      · replace h := xs_p b8 h
        refine lv_iload hx hb dd_R_heardData_58 (lv_at hl 0 rfl) ?_
        refine lv_aload_n hx hb dd_R_heardData_60 rfl (lv_at hl 2 rfl) ?_
        refine xr_get_R (v := .ref (ad (k + 24))) hx hb hts hown hK hw hk 27 (by decide) (hts _ hw_770) rfl dd_R_heardData_61 ?_
        refine lv_iload_n hx hb dd_R_heardData_64 rfl (lv_at hl 1 rfl) ?_
        obtain ⟨v9, gv9, h⟩ := xs_ob h
        refine xr_iald hx hb hK hw (xs_ok_R_lastUp hK.1 hk) gv9 dd_R_heardData_65 ?_
        obtain ⟨q10, gq10, h⟩ := xs_ob h
        refine xq_i hK hw (va_runS (As := [.int q6, .int v9]) (rest := []) ⟨hx, hb, hml, hown, hts⟩ (xc_R_ending l D ad ca ks q6 v9 S q10 gq10 _) ⟨callB_of 2 hts (xs_good hw_993) rfl rfl rfl (hts _ hw_13) (hts _ hw_991) yd_R_ending ⟨Nat.le_trans (by decide) hRf, Nat.le_trans (by decide) hRl⟩, (hts _ hw_992)⟩ ⟨xs_blind, fun U h1 h2 => ⟨rfl, xs_pre hK hw h1 h2⟩⟩ rfl rfl hl.1 rfl (lv_room (Nat.le_of_ble_eq_true rfl)) dd_R_heardData_66 ⟨Nat.zero_le _, Nat.zero_le _⟩) (fun H locs hw => ?_)
        exact w_69 i2 t0 q10 S _ _ _ hw (lv_sub hl [2, 3, 4, 1] rfl) h
      · replace h := xs_n b8 h
        refine lv_iload hx hb dd_R_heardData_53 (lv_at hl 0 rfl) ?_
        refine lv_goto hx hb dd_R_heardData_55 rfl ?_
        exact w_69 i2 t0 q6 S _ _ _ hw (lv_sub hl [2, 3, 4, 1] rfl) h
    · replace h := xs_n b5 h
      exact hret h hw dd_R_heardData_32
  unfold xf_R_heardData at h
  refine lv_aload_n hx hb dd_R_heardData_0 rfl (lv_at hl 0 rfl) ?_
  refine lv_bipush (v := 23) hx hb dd_R_heardData_1 rfl ?_
  obtain ⟨q1, gq1, h⟩ := xs_ob h
  refine xq_i hK hw (va_runV (As := [.int 23]) (rest := []) ⟨hx, hb, hml, hown, hts⟩ (xc_R_payloadOf l D ad ca ks k 23 S q1 hk gq1 _) ⟨callB_of 1 hts (xs_good hw_990) rfl rfl rfl (hts _ hw_13) (hts _ hw_987) yd_R_payloadOf ⟨Nat.le_trans (by decide) hRf, Nat.le_trans (by decide) hRl⟩, (hts _ hw_989), (hts _ hs_37)⟩ ⟨xs_blind, xs_recv_R hK hw hk, fun U h1 h2 => ⟨rfl, xs_pre hK hw h1 h2⟩⟩ rfl rfl hl.1 rfl (lv_room (Nat.le_of_ble_eq_true rfl)) dd_R_heardData_3 ⟨Nat.zero_le _, Nat.zero_le _⟩) (fun H locs hw => ?_)
  refine lv_istore_n hx hb dd_R_heardData_6 rfl hl (by decide) rfl (fun ls hl => ?_)
  have hl : lv_has ls 9 [(2, .int q1), (0, .ref (ad k)), (1, .int n1)] := hl
  refine lv_iload_n hx hb dd_R_heardData_7 rfl (lv_at hl 0 rfl) ?_
  refine lv_if_ge hx hb dd_R_heardData_8 rfl (fun b2 => ?_) (fun b2 => ?_)
  · replace h := xs_p b2 h
    refine lv_aload_n hx hb dd_R_heardData_15 rfl (lv_at hl 1 rfl) ?_
    refine lv_aload_n hx hb dd_R_heardData_16 rfl (lv_at hl 1 rfl) ?_
    refine lv_bipush (v := 23) hx hb dd_R_heardData_17 rfl ?_
    refine lv_iconst (v := 1) hx hb dd_R_heardData_19 rfl ?_
    refine lv_iconst (v := 4) hx hb dd_R_heardData_20 rfl ?_
    obtain ⟨q3, gq3, h⟩ := xs_ob h
    refine xq_i hK hw (va_runV (As := [.int 23, .int 1, .int 4]) (rest := [.ref (ad k)]) ⟨hx, hb, hml, hown, hts⟩ (xc_R_numberAt l D ad ca ks k 23 1 4 S q3 hk gq3 _) ⟨callB_of 3 hts (xs_good hw_974) rfl rfl rfl (hts _ hw_13) (hts _ hw_971) yd_R_numberAt ⟨Nat.le_trans (by decide) hRf, Nat.le_trans (by decide) hRl⟩, (hts _ hw_973), (hts _ hs_33)⟩ ⟨xs_blind, xs_recv_R hK hw hk, fun U h1 h2 => ⟨rfl, xs_pre hK hw h1 h2⟩⟩ rfl rfl hl.1 rfl (lv_room (Nat.le_of_ble_eq_true rfl)) dd_R_heardData_21 ⟨Nat.zero_le _, Nat.zero_le _⟩) (fun H locs hw => ?_)
    obtain ⟨q4, gq4, h⟩ := xs_ob h
    refine xq_i hK hw (va_runV (As := [.int q3]) (rest := []) ⟨hx, hb, hml, hown, hts⟩ (xc_R_deviceOf l D ad ca ks k q3 S q4 hk gq4 _) ⟨callB_of 1 hts (xs_good hw_1031) rfl rfl rfl (hts _ hw_13) (hts _ hw_1028) yd_R_deviceOf ⟨Nat.le_trans (by decide) hRf, Nat.le_trans (by decide) hRl⟩, (hts _ hw_1030), (hts _ hs_44)⟩ ⟨xs_blind, xs_recv_R hK hw hk, fun U h1 h2 => ⟨rfl, xs_pre hK hw h1 h2⟩⟩ rfl rfl hl.1 rfl (lv_room (Nat.le_of_ble_eq_true rfl)) dd_R_heardData_24 ⟨Nat.zero_le _, Nat.zero_le _⟩) (fun H locs hw => ?_)
    exact w_27 q1 q4 S _ _ _ hw (lv_sub hl [1, 2, 0] rfl) h
  · replace h := xs_n b2 h
    refine lv_iconst (v := (-1)) hx hb dd_R_heardData_11 rfl ?_
    refine lv_goto hx hb dd_R_heardData_12 rfl ?_
    exact w_27 q1 (-1) S _ _ _ hw (lv_sub hl [1, 2, 0] rfl) h
