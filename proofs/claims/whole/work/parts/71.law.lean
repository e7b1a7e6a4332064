/-! the law: its beginning -/
theorem ar_prim {args : Array Value} {s : State} {ty : FieldType} (h : (Cond.arrayClass ty).before args s = true) : ∃ cA : ClassId, ArrOfT s cA ty ∧ s.vm.findClass ("[" ++ ty.toString) = some cA := by
  obtain ⟨cA, kA, comp, hfind, hk, hkind⟩ := Cond.arrayClass_spec h
  exact ⟨cA, fun n z => ⟨fun k h => (by cases h), kA, hk, comp, hkind⟩, hfind⟩
theorem ar_obj {args : Array Value} {s : State} {C : String} (h : (Cond.arrayOver (.object C)).before args s = true) : ∃ cA : ClassId, ArrOfT s cA (.object C) ∧ va_RA s cA (.object C) := by
  obtain ⟨comp, cA, kA, h1, h2, h3, h4, h5⟩ := Cond.arrayOver_spec h
  exact ⟨cA, fun n z => ⟨fun k h => (by cases h), kA, h3, comp, h4⟩, kA, comp, h3, h4, h1, h5⟩
theorem isN_onT {w : Cond} (h : xs_isN w = true) : w.onTables = true := by
  cases w <;> first | rfl | cases h
theorem law_KK {args : Array Value} {s : State} (htl : ∀ w ∈ lw_tbl, w.before args s = true) (hts : ∀ w ∈ xs_U, w.before args s = true) : ∃ (D : va_G) (ca : Nat → ClassId), xs_KK D ca s := by
  obtain ⟨c0, i0, k0⟩ := u_known (N := 4) hts in_W (hts _ hw_17)
  obtain ⟨c1, i1, k1⟩ := u_known (N := 4) hts in_A (hts _ hw_25)
  obtain ⟨c2, i2, k2⟩ := u_known (N := 3) hts in_F (hts _ hw_32)
  obtain ⟨c3, i3, k3⟩ := u_known (N := 1) hts in_C (hts _ hw_83)
  obtain ⟨c4, i4, k4⟩ := u_known (N := 4) hts in_M (hts _ hw_77)
  obtain ⟨c5, i5, k5⟩ := u_known (N := 5) hts in_S (hts _ hw_153)
  obtain ⟨c6, i6, k6⟩ := u_known (N := 2) hts in_I (hts _ hw_182)
  obtain ⟨c7, i7, k7⟩ := u_known (N := 18) hts in_D (hts _ hw_147)
  obtain ⟨c8, i8, k8⟩ := u_known (N := 16) hts in_K (hts _ hw_271)
  obtain ⟨c9, i9, k9⟩ := u_known (N := 3) hts in_V (hts _ hw_262)
  obtain ⟨c10, i10, k10⟩ := u_known (N := 40) hts in_R (hts _ hw_724)
  obtain ⟨a0, b0, d0⟩ := ar_prim (hts _ hw_57)
  obtain ⟨a1, b1, d1⟩ := ar_prim (hts _ hw_864)
  obtain ⟨a2, b2, d2⟩ := ar_prim (hts _ hw_195)
  obtain ⟨a3, b3, d3⟩ := ar_obj (C := "WideNet$Frame") (htl _ hn_31)
  obtain ⟨a4, b4, d4⟩ := ar_obj (C := "WideNet$Device") (htl _ hn_74)
  obtain ⟨a5, b5, d5⟩ := ar_obj (C := "WideNet$Account") (htl _ hn_268)
  obtain ⟨a6, b6, d6⟩ := ar_obj (C := "WideNet$Mac") (htl _ hn_76)
  refine ⟨(fun k => ([c0, c1, c2, c3, c4, c5, c6, c7, c8, c9, c10] : List ClassId).getD k c0, fun k => ([i0, i1, i2, i3, i4, i5, i6, i7, i8, i9, i10] : List (Nat → Nat)).getD k i0), fun k => ([a0, a1, a2, a3, a4, a5, a6] : List ClassId).getD k a0, ⟨fun k q hq => ?_, fun k q hq => ?_⟩, fun w hw hn => va_Nw.of (isN_onT hn) (htl w hw), va_AO.of (htl _ hn_31), va_AO.of (htl _ hn_74), va_AO.of (htl _ hn_268), va_AO.of (htl _ hn_76)⟩
  · have hk : k < 11 := (List.getElem?_eq_some_iff.mp hq).1
    rcases (show k = 0 ∨ k = 1 ∨ k = 2 ∨ k = 3 ∨ k = 4 ∨ k = 5 ∨ k = 6 ∨ k = 7 ∨ k = 8 ∨ k = 9 ∨ k = 10 by omega) with rfl | rfl | rfl | rfl | rfl | rfl | rfl | rfl | rfl | rfl | rfl
    · cases hq; exact k0
    · cases hq; exact k1
    · cases hq; exact k2
    · cases hq; exact k3
    · cases hq; exact k4
    · cases hq; exact k5
    · cases hq; exact k6
    · cases hq; exact k7
    · cases hq; exact k8
    · cases hq; exact k9
    · cases hq; exact k10
  · have hk : k < 7 := (List.getElem?_eq_some_iff.mp hq).1
    rcases (show k = 0 ∨ k = 1 ∨ k = 2 ∨ k = 3 ∨ k = 4 ∨ k = 5 ∨ k = 6 by omega) with rfl | rfl | rfl | rfl | rfl | rfl | rfl
    · cases hq; exact ⟨b0, d0⟩
    · cases hq; exact ⟨b1, d1⟩
    · cases hq; exact ⟨b2, d2⟩
    · cases hq; exact ⟨b3, d3⟩
    · cases hq; exact ⟨b4, d4⟩
    · cases hq; exact ⟨b5, d5⟩
    · cases hq; exact ⟨b6, d6⟩
theorem cg_k : ∀ k, k < 200 → (xs_kd k = 0 → k + 119 < 200) ∧ (xs_kd k < 10 → xs_kd k ≠ 0 → k + 16 < 200 ∧ xs_rt k < 200) ∧ xs_kd k ≠ 10 := by decide +kernel
theorem cell_cg {ad ad2 : Nat → Nat} {ca : Nat → ClassId} {k : Nat} {f : Nat → Int32} {g : Nat → Int64} {u : Nat → Nat} (hk : k < 200) (h : ∀ i, i < 200 → ad i = ad2 i) (hu : ∀ j, u j < 200) : xs_cell ad ca k f g u = xs_cell ad2 ca k f g u := by
  obtain ⟨h1, h2, h3⟩ := cg_k k hk
  have eu : (fun j => some (ad (u j))) = fun j => some (ad2 (u j)) := funext fun j => by rw [h _ (hu j)]
  unfold xs_cell
  rw [eu]
  by_cases e0 : xs_kd k = 0
  · have := h1 e0
    simp only [e0]
    simp [xs_fs_W, h (k + 1) (by omega), h (k + 44) (by omega), h (k + 119) (by omega)]
  by_cases e9 : xs_kd k < 10
  rotate_left
  · have n : ∀ c, c ≤ 10 → ¬ xs_kd k = c := fun c hc => by omega
    simp only [if_neg (n 0 (by decide)), if_neg (n 1 (by decide)), if_neg (n 2 (by decide)), if_neg (n 3 (by decide)), if_neg (n 4 (by decide)), if_neg (n 5 (by decide)), if_neg (n 6 (by decide)), if_neg (n 7 (by decide)), if_neg (n 8 (by decide)), if_neg (n 9 (by decide)), if_neg (n 10 (by decide))]
  obtain ⟨g1, g2⟩ := h2 e9 e0
  have eA : xs_fs_A ad k f = xs_fs_A ad2 k f := by simp only [xs_fs_A, h (k + 1) (by omega), h (k + 2) (by omega)]
  have eF : xs_fs_F ad k f = xs_fs_F ad2 k f := by simp only [xs_fs_F, h (k + 1) (by omega)]
  have eC : xs_fs_C ad k f = xs_fs_C ad2 k f := by simp only [xs_fs_C, h (k + 1) (by omega)]
  have eM : xs_fs_M ad k f = xs_fs_M ad2 k f := by simp only [xs_fs_M, h (k + 1) (by omega), h (k + 3) (by omega), h (k + 4) (by omega), h (k + 5) (by omega)]
  have eS : xs_fs_S ad k f = xs_fs_S ad2 k f := by simp only [xs_fs_S, h (k + 1) (by omega), h (k + 7) (by omega), h (k + 9) (by omega), h (k + 10) (by omega)]
  have eI : xs_fs_I ad k f = xs_fs_I ad2 k f := by simp only [xs_fs_I, h (k + 1) (by omega)]
  have eD : xs_fs_D ad k f = xs_fs_D ad2 k f := by simp only [xs_fs_D, h (k - 6) (by omega), h (k + 1) (by omega), h (k + 12) (by omega), h (k + 14) (by omega), h (k + 16) (by omega)]
  have eK : xs_fs_K ad k f = xs_fs_K ad2 k f := by simp only [xs_fs_K, h (xs_rt k) g2, h (k + 1) (by omega), h (k + 12) (by omega), h (k + 14) (by omega), h (k + 15) (by omega)]
  have eV : xs_fs_V ad k f = xs_fs_V ad2 k f := by simp only [xs_fs_V, h (k + 1) (by omega), h (k + 2) (by omega)]
  rw [if_neg h3, if_neg e0, if_neg h3, if_neg e0, eA, eF, eC, eM, eS, eI, eD, eK, eV]
def mgA (a r : Nat → Nat) : Nat → Nat := fun i => if i < 200 then a i else r i
def mgS (S R : xs_T) : xs_T := (fun k => if k < 200 then S.1 k else R.1 k, fun k => if k < 200 then S.2.1 k else R.2.1 k, fun k => if k < 200 then S.2.2 k else R.2.2 k)
theorem wkW_lt : ∀ k ∈ wkW, k < 200 := by decide +kernel
theorem mg_w {a r : Nat → Nat} {ca : Nat → ClassId} {S R : xs_T} (hu : ∀ k j, S.2.2 k j < 200) : xs_w (mgA a r) ca xs_all (mgS S R) = xs_w a ca wkW S ++ xs_w r ca wkR R := by
  rw [wk_all, xs_w_app]
  have e1 : xs_w (mgA a r) ca wkW (mgS S R) = xs_w a ca wkW S := by
    refine List.map_congr_left fun k hk => ?_
    have hk := wkW_lt k hk
    have e1 : (mgS S R).1 k = S.1 k := if_pos hk
    have e2 : (mgS S R).2.1 k = S.2.1 k := if_pos hk
    have e3 : (mgS S R).2.2 k = S.2.2 k := if_pos hk
    rw [e1, e2, e3, show mgA a r k = a k from if_pos hk, cell_cg (ad := mgA a r) (ad2 := a) hk (fun i hi => if_pos hi) (hu k)]
  have e2 : xs_w (mgA a r) ca wkR (mgS S R) = xs_w r ca wkR R := rfl
  rw [e1, e2]
theorem mg_rel {K : Nat → Nat → Nat} {S R : xs_T} (hS : iniS K S) (hR : iniR K R) : Rel K 0 0 (mgS S R) (mgS S R) := by
  refine Rel_fr (rel0 hS hR) (Nat.le_refl 0) (fun q hq => ?_) (fun q hq => ?_)
  · have hq : q < 200 := hq
    exact ⟨if_pos hq, if_pos hq, if_pos hq⟩
  · have hq : ¬ q < 200 := Nat.not_lt.mpr hq
    exact ⟨if_neg hq, if_neg hq, if_neg hq⟩
theorem sim_both {K : Nat → Nat → Nat} {N tm : Nat} {S : xs_T} {c r : xs_T → Option (Int32 × xs_T)} (h : Rel K N tm S S) (hs : ∀ R, Rel K N tm S R → Sim K N tm S R (c S) (r R)) : ∃ v S2 R2 tm2, c S = some (v, S2) ∧ r S2 = some (v, R2) ∧ Rel K (N + 1) tm2 R2 R2 := by
  obtain ⟨v, S2, R2, tm2, e1, e2, e3, e4, e5⟩ := hs S h
  obtain ⟨v', S3, R3, tm3, g1, g2, g3, g4, g5⟩ := hs S2 (Rel_fr h (Nat.le_refl N) ag_rf e4)
  have e := Option.some.inj (e1.symm.trans g1)
  obtain ⟨rfl, rfl⟩ := Prod.mk.inj e
  exact ⟨v, S2, R3, tm3, e1, g2, Rel_fr g3 (Nat.le_refl _) g5 ag_rf⟩
theorem and31 (x : Int32) : ∃ y, y < 32 ∧ x &&& 31 = nI y := by
  obtain ⟨n, -, rfl⟩ := n_of x
  exact ⟨n &&& 31, Nat.lt_of_le_of_lt Nat.and_le_right (by decide), n_and n 31⟩
theorem law_end {n L : Nat} (hL : L ≤ 3585) (hn : n ≤ 512) (h : ¬ nI L - 7 < nI (1 + 7 * n)) : 7 * n + 8 ≤ L := by
  by_cases h7 : L < 7
  · have e : ∀ L, L < 7 → nI L - 7 < 0 := by decide +kernel
    exact absurd (Int32.lt_of_lt_of_le (e L h7) (nI_pos' (by omega))) h
  · have e : nI L - 7 = nI (L - 7) := by
      rw [show nI L = nI (L - 7) + 7 from by rw [show nI (L - 7) + 7 = nI (L - 7 + 7) from nI_add (L - 7) 7, show L - 7 + 7 = L by omega]]
      exact Int32.add_sub_cancel _ _
    rw [e] at h
    exact Classical.byContradiction fun hc => h (nI_lt (by omega) (by omega))
abbrev bz (z : Int32) : Int32 := if z = 0 then 0 else 1
theorem bz01 (z : Int32) : bz z = 0 ∨ bz z = 1 := by
  unfold bz
  split
  · exact Or.inl rfl
  · exact Or.inr rfl
section XL
variable {p : Program} {l : Launch} {e : Env} {R : Room} {s : State} {m : MethodId} {args : Array Value} {below : List Frame} {meth : Method} {c : Code} {H : Heap} {locs : List Loc} {cells slots : Nat} {Q : State → Prop}
variable {cc : ByteArray} {pc : Nat} {ls : Array Slot} {rest : List Value} {D : va_G} {ca : Nat → ClassId} {A : Nat → Prop} {ws r : va_W} {a : Nat} {fs : List Value}
theorem xl_rd (hx : p.tables.exec = Jvm.exec) (hb : c.code = cc) {b L j k : Nat} {xs : Nat → Int32} (hX : va_X b L xs s s.heap) (hbl : b < s.heap.size) (hbA : ¬ A b) (hS : va_S A s.heap H locs) (hL : L ≤ 3585) (hk : j + k < L) {v : Int32} (hv : v = nI (j + k)) (hdg : decode cc pc = .ok (.iaload, 1)) (kk : W p l e R s m args below meth c H locs cells slots Q (F0 m (pc + 1) ls (.int (xs (j + k)) :: rest))) : W p l e R s m args below meth c H locs cells slots Q (F0 m pc ls (.int v :: .ref b :: rest)) := by
  subst hv
  refine va_sld hx hb hX hbl hbA hS (nI_in hk (by omega)) hdg ?_
  rw [nI_clamp (by omega)]
  exact kk
theorem xl_b (hx : p.tables.exec = Jvm.exec) (hb : c.code = cc) {z : Int32} {t0 : Nat} {off off2 : Int} (d1 : decode cc pc = .ok (.ifCond .eq off, 3)) (h1 : (pc : Int) + off = (t0 : Int)) (d2 : decode cc (pc + 3) = .ok (.iconst 1, 1)) (d3 : decode cc (pc + 3 + 1) = .ok (.goto off2, 3)) (h2 : ((pc + 3 + 1 : Nat) : Int) + off2 = ((t0 + 1 : Nat) : Int)) (d4 : decode cc t0 = .ok (.iconst 0, 1)) (kk : W p l e R s m args below meth c H locs cells slots Q (F0 m (t0 + 1) ls (.int (bz z) :: rest))) : W p l e R s m args below meth c H locs cells slots Q (F0 m pc ls (.int z :: rest)) := by
  refine lv_if_eq hx hb d1 h1 (fun h => ?_) (fun h => ?_)
  · refine lv_iconst (v := 0) hx hb d4 rfl ?_
    rw [show bz z = 0 from if_pos h] at kk
    exact kk
  · refine lv_iconst (v := 1) hx hb d2 rfl ?_
    refine lv_goto hx hb d3 h2 ?_
    rw [show bz z = 1 from if_neg h] at kk
    exact kk
theorem xk_callV {V : Type} {po : V → Prop} {X : V → va_W} {wc : va_W} {mc ms : Nat} {st0 : List Value} {av : Array Value} (hA : ∀ q, s.heap.size ≤ q → A q) (hJ : xs_J D A s (ws ++ wc) H locs) (hr : va_Run p l e R s m args below meth c H locs cells slots mc ms (F0 m pc ls st0) rest (va_Qv po (fun ad t => va_P D xs_cl (X ad) t.heap ∧ va_D (va_A wc H.size) (X ad)) (va_A wc H.size) av) (va_A wc H.size)) (kk : ∀ (u : V) (H1 : Heap) (locs1 : List Loc), po u → xs_J D A s (ws ++ X u) H1 locs1 → W p l e R s m args below meth c H1 locs1 (cells + mc) (slots + ms) Q (F0 m (pc + 3) ls rest)) : W p l e R s m args below meth c H locs cells slots Q (F0 m pc ls st0) := by
  have hF : ∀ q, va_A wc H.size q → A q := by
    intro q h
    rcases h with ⟨k2, e, h⟩ | h
    · exact hJ.2.1.2 _ _ (xk_at2 h)
    · exact hA q (Nat.le_trans hJ.2.2.1 h)
  refine va_callv hr hJ.2.2 (fun q _ h => hF q h) hF (fun ad t H1 locs1 ht _ hpo hB _ hk hS => ?_)
  subst ht
  exact kk ad _ locs1 hpo (xk_join hA hJ hk hB.1 hB.2 hS)
def cellV (L : Nat) (xs : Nat → Int32) : Int32 := if 0 < L then xs 0 else 0
def cellP (b L : Nat) (xs : Nat → Int32) (U : State) : Prop := va_X b L xs U U.heap ∧ b < U.heap.size
theorem cell_blind {b L : Nat} {xs : Nat → Int32} {av : List Value} : FrameBlind (va_Pc av (cellP b L xs)) := by
  intro a U g mk h
  exact ⟨h.1, h.2.1.moved (U := U.calling g mk a) (Vm.Alike.refl U.vm), h.2.2⟩
theorem xl_cell {L : Nat} {xs : Nat → Int32} {st0 : List Value} {av : Array Value} (hJ : xs_J D A s ws H locs) (hr : va_Run p l e R s m args below meth c H locs cells slots 0 0 (F0 m pc ls st0) rest (va_Qi (fun r1 (_ : Unit) => r1 = cellV L xs) (fun _ _ => True) (fun _ => False) av) (fun _ => False)) (kk : ∀ (H1 : Heap) (locs1 : List Loc), xs_J D A s ws H1 locs1 → W p l e R s m args below meth c H1 locs1 cells slots Q (F0 m (pc + 3) ls (.int (cellV L xs) :: rest))) : W p l e R s m args below meth c H locs cells slots Q (F0 m pc ls st0) := by
  refine va_calli hr hJ.2.2 (fun q _ h => absurd h id) (fun q h => absurd h id) (fun r1 _ t H1 locs1 ht _ hr1 hB _ hk hS => ?_)
  cases hr1
  exact kk H1 locs1 ⟨fun k x hx => (hJ.1 k x hx).kept (hk x.1 (hJ.1 k x hx).lt id), hJ.2.1, hS⟩
end XL
theorem yd_L_cell : (yy_L_cell).cls ≠ "java/lang/invoke/MethodHandle" ∧ (yy_L_cell).cls ≠ "java/lang/invoke/VarHandle" ∧ (parseMethodDescriptor (yy_L_cell).desc).map (fun d => d.parameters.length) = some 2 := by decide +kernel
theorem xc_L_cell (l : Launch) (b L : Nat) (xs : Nat → Int32) (hL : L ≤ 3585) : Met l yy_L_cell ws_L_cell { frames := 0, cells := 0, slots := 0, locals := 0 } (va_Pc [.ref b, .int 0] (cellP b L xs)) (va_Qi (fun r1 (_ : Unit) => r1 = cellV L xs) (fun _ _ => True) (fun _ => False)) 0 0 (fun _ => False) := by
  refine Met.ofW (cc := cc_L_cell) (maxL := 2) (ret := some .int) (by decide) rfl ?_
  intro p e s m args below meth c s₁ B hml hv
  obtain ⟨rfl, hX, hbl⟩ := hv
  have hx := B.exec
  have hb := B.bytes
  have hl := lv_entry [.ref b, .int 0] (n := 2) (Nat.le_of_ble_eq_true rfl)
  rw [lg_entry_eq]
  generalize (lg_sl [Value.ref b, .int 0] ++ List.replicate (2 - (lg_sl [Value.ref b, .int 0]).length) Slot.unset).toArray = ls at hl ⊢
  have hl : lv_has ls 2 [(0, .ref b), (1, .int 0)] := hl
  have hS : va_S (fun _ => False) s.heap s.heap [] := va_S.rf
  refine lv_iload_n hx hb dd_L_cell_0 rfl (lv_at hl 1 rfl) ?_
  refine lv_aload_n hx hb dd_L_cell_1 rfl (lv_at hl 0 rfl) ?_
  refine va_slen hx hb hX hbl id hS dd_L_cell_2 ?_
  refine lv_icmp_ge hx hb dd_L_cell_3 rfl (fun h => ?_) (fun h => ?_)
  · have h0 : ¬ 0 < L := fun hc => absurd h (show ¬ nI L ≤ nI 0 from nI_ge (by omega) (by omega))
    refine lv_iconst (v := 0) hx hb dd_L_cell_12 rfl ?_
    exact W.iret hx hb B.returns (fun t ht hW => ⟨⟨0, (), rfl, (show (0 : Int32) = cellV L xs from (if_neg h0).symm), trivial⟩, hS.F ht⟩) hS.2.2 dd_L_cell_13 B.notSynchronized
  · have h0 : 0 < L := by
      refine Nat.pos_of_ne_zero fun hc => h ?_
      subst hc
      decide
    refine lv_aload_n hx hb dd_L_cell_6 rfl (lv_at hl 0 rfl) ?_
    refine lv_iload_n hx hb dd_L_cell_7 rfl (lv_at hl 1 rfl) ?_
    refine xl_rd (j := 0) (k := 0) hx hb hX hbl id hS hL h0 rfl dd_L_cell_8 ?_
    refine lv_goto hx hb dd_L_cell_9 rfl ?_
    exact W.iret hx hb B.returns (fun t ht hW => ⟨⟨xs 0, (), rfl, (show xs 0 = cellV L xs from (if_pos h0).symm), trivial⟩, hS.F ht⟩) hS.2.2 dd_L_cell_13 B.notSynchronized
