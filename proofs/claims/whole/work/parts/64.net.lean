/-! the constructor of the class -/
def Ky (n1 : Int32) (d i : Nat) : Nat := ((n1 + 41 * nI d + 13 * nI i) &&& 255).toNatClampNeg
theorem and255 (x : Int32) : x &&& 255 = nI (x &&& 255).toNatClampNeg ∧ (x &&& 255).toNatClampNeg < 256 := by
  obtain ⟨n, -, rfl⟩ := n_of x
  have h : n &&& 255 < 256 := Nat.lt_of_le_of_lt Nat.and_le_right (by decide)
  rw [show nI n &&& 255 = nI (n &&& 255) from n_and n 255, nI_clamp (by omega)]
  exact ⟨rfl, h⟩
def mks (d : Nat) : List Nat := [47 + 24 * d, 48 + 24 * d, 49 + 24 * d, 50 + 24 * d, 51 + 24 * d, 52 + 24 * d]
def xk_ad2 (qk : Nat) (ad0 ad : Nat → Nat) : Nat → Nat := fun i => if i = 46 then qk else if i = 171 then ad0 171 else if i = 172 then ad0 172 else ad i
def xk_SS (kf : Nat → Int32) : xs_T := (fun p j => if p = 46 then kf j else 0, fun _ _ => 0, fun _ _ => 0)
theorem mk_ok : ∀ d, d < 3 → xs_ok (46 :: mks d) := fun d hd => by
  rcases (show d = 0 ∨ d = 1 ∨ d = 2 by omega) with rfl | rfl | rfl <;> exact ⟨by decide +kernel, by decide +kernel⟩
theorem mk_kd : ∀ d, d < 3 → xs_kd (47 + 24 * d) = 4 := by decide +kernel
theorem xk_eqM {ca : Nat → ClassId} {ad ad0 : Nat → Nat} {qk d : Nat} {kf : Nat → Int32} (hd : d < 3) : ([(qk, .inl (ca 0, 16, .inl kf))] ++ xk_M ca ad (47 + 24 * d) : va_W) = xs_w (xk_ad2 qk ad0 ad) ca (46 :: mks d) (xk_SS kf) := by
  rcases (show d = 0 ∨ d = 1 ∨ d = 2 by omega) with rfl | rfl | rfl <;> rfl
theorem mks_cg {ca : Nat → ClassId} {ad ad2 : Nat → Nat} {d : Nat} {T : xs_T} (hd : d < 3) (h : ∀ i, 47 + 24 * d ≤ i → i < 53 + 24 * d → ad i = ad2 i) : xs_w ad ca (mks d) T = xs_w ad2 ca (mks d) T := by
  have key : ∀ e, e < 3 → ∀ ad : Nat → Nat, xs_w ad ca (mks e) T = [(ad (47 + 24 * e), .inr (4, [.ref (ad (48 + 24 * e)), .ref (ad (50 + 24 * e)), .ref (ad (51 + 24 * e)), .ref (ad (52 + 24 * e))])), (ad (48 + 24 * e), .inr (3, [.ref (ad (49 + 24 * e))])), (ad (49 + 24 * e), .inl (ca 0, 44, .inl (T.1 (49 + 24 * e)))), (ad (50 + 24 * e), .inl (ca 0, 16, .inl (T.1 (50 + 24 * e)))), (ad (51 + 24 * e), .inl (ca 0, 16, .inl (T.1 (51 + 24 * e)))), (ad (52 + 24 * e), .inl (ca 0, 16, .inl (T.1 (52 + 24 * e))))] := fun e he ad => by
    rcases (show e = 0 ∨ e = 1 ∨ e = 2 by omega) with rfl | rfl | rfl <;> rfl
  rw [key d hd, key d hd, h (47 + 24 * d) (by omega) (by omega), h (48 + 24 * d) (by omega) (by omega), h (49 + 24 * d) (by omega) (by omega), h (50 + 24 * d) (by omega) (by omega), h (51 + 24 * d) (by omega) (by omega), h (52 + 24 * d) (by omega) (by omega)]
def xk_Gs (ca : Nat → ClassId) (ad : Nat → Nat) (TT : Nat → xs_T) : Nat → va_W
  | 0 => []
  | n + 1 => xk_Gs ca ad TT n ++ xs_w ad ca (mks n) (TT n) ++ xk_D ca ad (53 + 24 * n) (nI n) (ad (47 + 24 * n))
theorem xk_Gs_cg {ca : Nat → ClassId} {ad ad2 : Nat → Nat} {TT TT2 : Nat → xs_T} : ∀ {n : Nat}, n ≤ 3 → (∀ i, 47 ≤ i → i < 47 + 24 * n → ad i = ad2 i) → (∀ j, j < n → TT j = TT2 j) → xk_Gs ca ad TT n = xk_Gs ca ad2 TT2 n := by
  intro n
  induction n with
  | zero => intro _ _ _; rfl
  | succ n ih =>
    intro hn h hT
    rw [xk_Gs, xk_Gs, ih (by omega) (fun i h1 h2 => h i h1 (by omega)) (fun j hj => hT j (by omega)), hT n (by omega), mks_cg (by omega) (fun i h1 h2 => h i (by omega) (by omega)), xk_D_cg (fun i h1 h2 => h i (by omega) (by omega)), h (47 + 24 * n) (by omega) (by omega)]
theorem xk_V_mk {ca : Nat → ClassId} {ad : Nat → Nat} {o : Nat} {mk mk2 : Nat → Nat} (h : ∀ j, j < 3 → mk j = mk2 j) : xk_V ca ad o mk = xk_V ca ad o mk2 := by
  unfold xk_V
  have : ∀ n, n ≤ 3 → xk_Ks ca ad (o + 4) mk n = xk_Ks ca ad (o + 4) mk2 n := by
    intro n
    induction n with
    | zero => intro _; rfl
    | succ n ih =>
      intro hn
      rw [xk_Ks, xk_Ks, ih (by omega), h n (by omega)]
  rw [this 3 (Nat.le_refl 3)]
theorem permI {t d r k : Nat × va_E} {B : va_W} : (t :: (B ++ [d] ++ [r] ++ [k])).Perm (t :: r :: d :: (B ++ [k])) :=
  List.Perm.cons t (List.Perm.append_right [k] ((List.perm_append_singleton r (B ++ [d])).trans (List.Perm.cons r (List.perm_append_singleton d B))))
theorem permK {B G M E : va_W} {k : Nat × va_E} : ((B ++ G ++ ([k] ++ M)) ++ E).Perm (B ++ (G ++ M ++ E) ++ [k]) := by
  have e1 : (B ++ G ++ ([k] ++ M)) ++ E = (B ++ G) ++ (k :: (M ++ E)) := by simp
  have e2 : B ++ (G ++ M ++ E) ++ [k] = (B ++ G) ++ ((M ++ E) ++ [k]) := by simp
  rw [e1, e2]
  exact List.Perm.append_left _ (List.perm_append_singleton k (M ++ E)).symm
theorem permS {t r d x : Nat × va_E} {Y : va_W} : ((t :: r :: d :: Y) ++ [x]).Perm ((t :: d :: Y) ++ [x, r]) := by
  have e1 : (t :: d :: Y) ++ [x, r] = t :: ((d :: (Y ++ [x])) ++ [r]) := by simp
  rw [e1]
  exact List.Perm.cons t (List.perm_append_singleton r (d :: (Y ++ [x]))).symm
theorem permW {t d k : Nat × va_E} {B G E : va_W} : (t :: d :: ((B ++ G ++ [k]) ++ E)).Perm (t :: (B ++ d :: k :: (G ++ E))) := by
  refine List.Perm.cons t ?_
  have e1 : (B ++ G ++ [k]) ++ E = B ++ (G ++ k :: E) := by simp
  rw [e1]
  exact (List.Perm.cons d (List.Perm.append_left B List.perm_middle)).trans List.perm_middle.symm
def iniU (k j : Nat) : Nat := if k = 2 then 4 + 2 * (j % 12) else if k = 3 then 28 + 2 * (j % 8) else if k = 44 then 53 + 24 * (j % 3) else if k = 120 then 123 + 16 * (j % 3) else 0
def xk_S0 (kf : Nat → Int32) (TT : Nat → xs_T) : xs_T := (fun k j => if isMk k = true then (if k = 46 then kf j else (TT ((k - 47) / 24)).1 k j) else ini k j, fun _ _ => 0, iniU)
def wkA : List Nat := [1, 2, 3, 4, 5, 6, 7, 8, 9, 10, 11, 12, 13, 14, 15, 16, 17, 18, 19, 20, 21, 22, 23, 24, 25, 26, 27, 28, 29, 30, 31, 32, 33, 34, 35, 36, 37, 38, 39, 40, 41, 42, 43]
def wkG : List Nat := [47, 48, 49, 50, 51, 52, 53, 54, 55, 56, 57, 58, 59, 60, 61, 62, 63, 64, 65, 66, 67, 68, 69, 70, 71, 72, 73, 74, 75, 76, 77, 78, 79, 80, 81, 82, 83, 84, 85, 86, 87, 88, 89, 90, 91, 92, 93, 94, 95, 96, 97, 98, 99, 100, 101, 102, 103, 104, 105, 106, 107, 108, 109, 110, 111, 112, 113, 114, 115, 116, 117, 118]
def wkV : List Nat := [119, 120, 121, 122, 123, 124, 125, 126, 127, 128, 129, 130, 131, 132, 133, 134, 135, 136, 137, 138, 139, 140, 141, 142, 143, 144, 145, 146, 147, 148, 149, 150, 151, 152, 153, 154, 155, 156, 157, 158, 159, 160, 161, 162, 163, 164, 165, 166, 167, 168, 169, 170]
def wkW : List Nat := 0 :: (wkA ++ 44 :: 46 :: (wkG ++ wkV))
theorem xs_w_app {ca : Nat → ClassId} {ad : Nat → Nat} {a b : List Nat} {S : xs_T} : xs_w ad ca (a ++ b) S = xs_w ad ca a S ++ xs_w ad ca b S := by unfold xs_w; rw [List.map_append]
theorem xk_eqA {ca : Nat → ClassId} {ad : Nat → Nat} {kf : Nat → Int32} {TT : Nat → xs_T} : xs_w ad ca wkA (xk_S0 kf TT) = xk_A ca ad 1 := rfl
theorem xk_eqG {ca : Nat → ClassId} {ad : Nat → Nat} {kf : Nat → Int32} {TT : Nat → xs_T} : xs_w ad ca wkG (xk_S0 kf TT) = xk_Gs ca ad TT 3 := rfl
theorem xk_eqV {ca : Nat → ClassId} {ad : Nat → Nat} {kf : Nat → Int32} {TT : Nat → xs_T} : xs_w ad ca wkV (xk_S0 kf TT) = xk_V ca ad 119 (fun j => ad (47 + 24 * j)) := rfl
theorem xk_eqW {ca : Nat → ClassId} {ad : Nat → Nat} {kf : Nat → Int32} {TT : Nat → xs_T} : xs_w ad ca wkW (xk_S0 kf TT) = (ad 0, .inr (0, [.ref (ad 1), .ref (ad 44), .ref (ad 119), .int 0])) :: (xk_A ca ad 1 ++ (ad 44, .inl (ca 4, 3, .inr (.inr (.inr (.inr fun j => some (ad (53 + 24 * (j % 3)))))))) :: (ad 46, .inl (ca 0, 16, .inl kf)) :: (xk_Gs ca ad TT 3 ++ xk_V ca ad 119 (fun j => ad (47 + 24 * j)))) := by
  have e0 : xs_w ad ca wkW (xk_S0 kf TT) = (ad 0, .inr (0, [.ref (ad 1), .ref (ad 44), .ref (ad 119), .int 0])) :: xs_w ad ca (wkA ++ 44 :: 46 :: (wkG ++ wkV)) (xk_S0 kf TT) := rfl
  have e1 : xs_w ad ca (44 :: 46 :: (wkG ++ wkV)) (xk_S0 kf TT) = (ad 44, .inl (ca 4, 3, .inr (.inr (.inr (.inr fun j => some (ad (53 + 24 * (j % 3)))))))) :: (ad 46, .inl (ca 0, 16, .inl kf)) :: xs_w ad ca (wkG ++ wkV) (xk_S0 kf TT) := rfl
  rw [e0, xs_w_app, e1, xs_w_app, xk_eqA, xk_eqG, xk_eqV]
theorem ini_S0 {n1 : Int32} {kf : Nat → Int32} {TT : Nat → xs_T} (h : ∀ j, j < 3 → xs_mac (TT j) (47 + 24 * j) (ySch (Ky n1 j))) : iniS (Ky n1) (xk_S0 kf TT) := by
  refine ⟨fun d hd => ?_, fun k j _ hk => ?_, fun _ _ _ => rfl, fun j hj => ?_, fun j hj => ?_, fun d hd => ⟨?_, ?_⟩⟩
  · rcases (show d = 0 ∨ d = 1 ∨ d = 2 by omega) with rfl | rfl | rfl
    · exact h 0 (by decide)
    · exact h 1 (by decide)
    · exact h 2 (by decide)
  · show (if isMk k = true then _ else ini k j) = ini k j
    rw [if_neg (by rw [hk]; decide)]
  · show 4 + 2 * (j % 12) = 4 + 2 * j
    rw [Nat.mod_eq_of_lt hj]
  · show 28 + 2 * (j % 8) = 28 + 2 * j
    rw [Nat.mod_eq_of_lt hj]
  · show 53 + 24 * (d % 3) = 53 + 24 * d
    rw [Nat.mod_eq_of_lt hd]
  · show 123 + 16 * (d % 3) = 123 + 16 * d
    rw [Nat.mod_eq_of_lt hd]
theorem ini_U (k j : Nat) : iniU k j < 200 := by
  have h1 := Nat.mod_lt j (show 0 < 12 by decide)
  have h2 := Nat.mod_lt j (show 0 < 8 by decide)
  have h3 := Nat.mod_lt j (show 0 < 3 by decide)
  unfold iniU
  split
  · omega
  · split
    · omega
    · split
      · omega
      · split <;> omega
theorem yd_W_init : (yy_W_init).cls ≠ "java/lang/invoke/MethodHandle" ∧ (yy_W_init).cls ≠ "java/lang/invoke/VarHandle" ∧ (parseMethodDescriptor (yy_W_init).desc).map (fun d => d.parameters.length) = some 1 := by decide +kernel
set_option maxHeartbeats 8000000 in
set_option maxRecDepth 100000 in
theorem xn_W (l : Launch) (D : va_G) (ca : Nat → ClassId) (ad0 : Nat → Nat) (h0 sz : Nat) (n1 : Int32) : Met l yy_W_init ws_W_init { frames := 6, cells := 170, slots := 2452, locals := 128 } (va_Pc [.ref h0, .int n1] (xs_PreZ D ca [(h0, .inr (0, [.null, .null, .null, .int 0]))] ad0 sz)) (va_Qv (fun u : (Nat → Nat) × xs_T => u.1 0 = h0 ∧ u.1 171 = ad0 171 ∧ u.1 172 = ad0 172 ∧ iniS (Ky n1) u.2 ∧ ∀ k j, u.2.2.2 k j < 200) (fun u t => va_P D xs_cl (xs_w u.1 ca wkW u.2) t.heap ∧ va_D (va_A [(h0, .inr (0, [.null, .null, .null, .int 0]))] sz) (xs_w u.1 ca wkW u.2)) (va_A [(h0, .inr (0, [.null, .null, .null, .int 0]))] sz)) 170 2452 (va_A [(h0, .inr (0, [.null, .null, .null, .int 0]))] sz) := by
  refine xn_vz (X := fun u : (Nat → Nat) × xs_T => xs_w u.1 ca wkW u.2) (by decide) (Nat.le_of_ble_eq_true rfl) ?_
  intro p e s m args below meth c R A Q ls hx hb hml hown hts hRf hRl hRc hRs hin hKK hA hZ hJ hl hret
  have hin : meth.name = "<init>" := hin
  have hl : lv_has ls 6 [(0, .ref h0), (1, .int n1)] := hl
  refine lv_aload_n hx hb dd_W_init_0 rfl (lv_at hl 0 rfl) ?_
  refine W.objInit hx hb hown (hts _ hw_21) (hts _ hw_22) (hts _ hw_23) rfl (by rw [hml]; exact hl.1) rfl dd_W_init_1 (Nat.le_trans (by decide) hRf) (Nat.le_trans (Nat.le_of_ble_eq_true rfl) hRl) ?_
  refine W.eq (g2 := F0 m 4 ls []) rfl ?_
  refine lv_aload_n hx hb dd_W_init_4 rfl (lv_at hl 0 rfl) ?_
  refine xk_new_A hx hb hts hown (hts _ hw_24) (hts _ hw_25) (hts _ hw_2) hKK hA hJ (Nat.le_trans (by decide) hRc) (Nat.le_trans (by decide) hRs) dd_W_init_5 (fun q1 H hJ => ?_)
  refine lv_dup hx hb dd_W_init_8 rfl ?_
  refine xk_call (X := fun ad => xk_A ca ad 1) hA hJ (va_runI (As := []) (rest := [.ref q1, .ref h0]) ⟨hx, hb, hml, hown, hts⟩ (xn_A l D ca q1 H.size 1) ⟨callB_of 0 hts (xs_good hw_28) rfl rfl rfl (hts _ hw_2) (hts _ hw_26) yd_A_init ⟨Nat.le_trans (by decide) hRf, Nat.le_trans (by decide) hRl⟩, rfl, (hts _ hw_27)⟩ ⟨xk_blind, fun U h1 h2 => ⟨rfl, xk_pre hKK hJ h1 h2⟩⟩ rfl rfl hl.1 rfl (lv_room (Nat.le_of_ble_eq_true rfl)) dd_W_init_9 ⟨Nat.le_trans (by decide) hRc, Nat.le_trans (by decide) hRs⟩) (fun ad1 H locs e1 hJ => ?_)
  have hJ : xs_J D A s ((h0, .inr (0, [.null, .null, .null, .int 0])) :: (([] : va_W) ++ xk_A ca ad1 1)) _ _ := hJ
  refine xk_putF_W (ty := .object "WideNet$Air") hx hb hts hown hKK hJ 0 (by decide) (hts _ hw_347) rfl hin rfl (by decide +kernel) rfl rfl (Nat.le_of_ble_eq_true rfl) dd_W_init_12 (fun H locs hJ => ?_)
  have hJ : xs_J D A s ((h0, .inr (0, [.ref q1, .null, .null, .int 0])) :: (([] : va_W) ++ xk_A ca ad1 1)) _ _ := hJ
  refine lv_aload_n hx hb dd_W_init_15 rfl (lv_at hl 0 rfl) ?_
  refine lv_iconst (v := 3) hx hb dd_W_init_16 rfl ?_
  refine xk_newq_D hx hb hown (hts _ hw_73) hKK hA hJ 3 (by decide) (by decide) (by decide) (Nat.le_trans (by decide) hRc) (Nat.le_trans (by decide) hRs) dd_W_init_17 (fun q44 H hJ => ?_)
  have hJ : xs_J D A s ((h0, .inr (0, [.ref q1, .null, .null, .int 0])) :: (([] : va_W) ++ xk_A ca ad1 1 ++ [(q44, .inl (ca 4, 3, .inr (.inr (.inr (.inr fun _ => none)))))])) _ _ := hJ
  refine xk_putF_W (ty := .array (.object "WideNet$Device")) hx hb hts hown hKK hJ 1 (by decide) (hts _ hw_348) rfl hin rfl (by decide +kernel) rfl rfl (Nat.le_of_ble_eq_true rfl) dd_W_init_20 (fun H locs hJ => ?_)
  have hJ : xs_J D A s ((h0, .inr (0, [.ref q1, .ref q44, .null, .int 0])) :: (([] : va_W) ++ xk_A ca ad1 1 ++ [(q44, .inl (ca 4, 3, .inr (.inr (.inr (.inr fun _ => none)))))])) _ _ := hJ
  refine lv_aload_n hx hb dd_W_init_23 rfl (lv_at hl 0 rfl) ?_
  refine lv_iconst (v := 0) hx hb dd_W_init_24 rfl ?_
  refine xk_put_W (ty := .int) hx hb hts hown hKK hJ 3 (by decide) (hts _ hw_350) rfl (by decide +kernel) rfl rfl (Nat.le_of_ble_eq_true rfl) dd_W_init_25 (fun H locs hJ => ?_)
  have hJ : xs_J D A s ((h0, .inr (0, [.ref q1, .ref q44, .null, .int 0])) :: (([] : va_W) ++ xk_A ca ad1 1 ++ [(q44, .inl (ca 4, 3, .inr (.inr (.inr (.inr fun _ => none)))))])) _ _ := hJ
  refine lv_iconst (v := 3) hx hb dd_W_init_28 rfl ?_
  refine xk_newq_M hx hb hown (hts _ hw_75) hKK hA hJ 3 (by decide) (by decide) (by decide) (Nat.le_trans (by decide) hRc) (Nat.le_trans (by decide) hRs) dd_W_init_29 (fun qr H hJ => ?_)
  refine lv_astore_n hx hb dd_W_init_32 rfl hl (by decide) rfl (fun ls hl => ?_)
  have hl : lv_has ls 6 [(2, .ref qr), (0, .ref h0), (1, .int n1)] := hl
  refine lv_bipush (v := 16) hx hb dd_W_init_33 rfl ?_
  refine xk_newI hx hb (hts _ hw_57) hKK hA hJ 16 (by decide) (by decide) (by decide) (Nat.le_trans (by decide) hRc) (Nat.le_trans (by decide) hRs) dd_W_init_35 (fun qk H hJ => ?_)
  refine lv_astore_n hx hb dd_W_init_37 rfl hl (by decide) rfl (fun ls hl => ?_)
  have hl : lv_has ls 6 [(3, .ref qk), (2, .ref qr), (0, .ref h0), (1, .int n1)] := hl
  refine lv_iconst (v := 0) hx hb dd_W_init_38 rfl ?_
  refine lv_istore hx hb dd_W_init_39 hl (by decide) rfl (fun ls hl => ?_)
  have hl : lv_has ls 6 [(4, .int 0), (3, .ref qk), (2, .ref qr), (0, .ref h0), (1, .int n1)] := hl
  have hJ : xs_J D A s ((h0, .inr (0, [.ref q1, .ref q44, .null, .int 0])) :: (qr, .inl (ca 6, 3, .inr (.inr (.inr (.inr fun _ => none))))) :: (q44, .inl (ca 4, 3, .inr (.inr (.inr (.inr fun _ => none))))) :: (xk_A ca ad1 1 ++ xk_Gs ca (fun _ => 0) (fun _ => xk_SS fun _ => 0) 0 ++ [(qk, .inl (ca 0, 16, .inl fun _ => 0))])) H locs := by
    rw [show xk_Gs ca (fun _ => 0) (fun _ => xk_SS fun _ => 0) 0 = [] from rfl, List.append_nil]
    exact xk_perm hJ permI
  have w41 : ∀ (r d : Nat), d + r = 3 → ∀ (ad : Nat → Nat) (TT : Nat → xs_T) (fr fd : Nat → Option Nat) (kf : Nat → Int32) (cells slots : Nat) (H : Heap) (locs : List Loc) (ls : Array Slot), cells = 46 + 24 * d → slots = 586 + 378 * d → (∀ j, j < d → fr j = some (ad (47 + 24 * j))) → (∀ j, j < d → fd j = some (ad (53 + 24 * j))) → (∀ j, j < d → xs_mac (TT j) (47 + 24 * j) (ySch (Ky n1 j))) → xs_J D A s ((h0, .inr (0, [.ref q1, .ref q44, .null, .int 0])) :: (qr, .inl (ca 6, 3, .inr (.inr (.inr (.inr fr))))) :: (q44, .inl (ca 4, 3, .inr (.inr (.inr (.inr fd))))) :: (xk_A ca ad1 1 ++ xk_Gs ca ad TT d ++ [(qk, .inl (ca 0, 16, .inl kf))])) H locs → lv_has ls 6 [(0, .ref h0), (1, .int n1), (2, .ref qr), (3, .ref qk), (4, .int (nI d))] → W p l e R s m args below meth c H locs cells slots Q (F0 m 41 ls []) := by
    intro r
    induction r with
    | zero =>
      intro d hd ad TT fr fd kf cells slots H locs ls hc hs hfr hfd hTT hJ hl
      obtain rfl : d = 3 := by omega
      refine lv_iload hx hb dd_W_init_41 (lv_at hl 4 rfl) ?_
      refine lv_iconst (v := 3) hx hb dd_W_init_43 rfl ?_
      refine lv_icmp_ge hx hb dd_W_init_44 rfl (fun _ => ?_) (fun b => absurd (show (3 : Int32) ≤ nI 3 by decide) b)
      refine lv_aload_n hx hb dd_W_init_129 rfl (lv_at hl 0 rfl) ?_
      refine xk_new_V hx hb hts hown (hts _ hw_261) (hts _ hw_262) (hts _ hw_11) hKK hA hJ (by omega) (by omega) dd_W_init_130 (fun qs H hJ => ?_)
      refine lv_dup hx hb dd_W_init_133 rfl ?_
      refine lv_aload_n hx hb dd_W_init_134 rfl (lv_at hl 2 rfl) ?_
      have hJ : xs_J D A s (((h0, .inr (0, [.ref q1, .ref q44, .null, .int 0])) :: (q44, .inl (ca 4, 3, .inr (.inr (.inr (.inr fd))))) :: (xk_A ca ad1 1 ++ xk_Gs ca ad TT 3 ++ [(qk, .inl (ca 0, 16, .inl kf))])) ++ [(qs, .inr (9, [.null, .null, .int 0])), (qr, .inl (ca 6, 3, .inr (.inr (.inr (.inr fr)))))]) _ _ := xk_perm hJ permS
      obtain ⟨mk, hmk⟩ : ∃ mk : Nat → Nat, ∀ j, mk j = ad (47 + 24 * j) := ⟨fun j => ad (47 + 24 * j), fun _ => rfl⟩
      refine xk_call (X := fun ad => xk_V ca ad (119) mk) hA hJ (va_runI (As := [.ref qr]) (rest := [.ref qs, .ref h0]) ⟨hx, hb, hml, hown, hts⟩ (xn_V l D ca qs H.size 119 qr fr mk (fun j hj => by rw [hmk]; exact hfr j hj)) ⟨callB_of 1 hts (xs_good hw_265) rfl rfl rfl (hts _ hw_11) (hts _ hw_263) yd_V_init ⟨Nat.le_trans (by decide) hRf, Nat.le_trans (by decide) hRl⟩, rfl, (hts _ hw_264)⟩ ⟨xk_blind, fun U h1 h2 => ⟨rfl, xk_pre hKK hJ h1 h2⟩⟩ rfl rfl hl.1 rfl (lv_room (Nat.le_of_ble_eq_true rfl)) dd_W_init_135 ⟨by omega, by omega⟩) (fun adV H locs eV hJ => ?_)
      have hJ : xs_J D A s ((h0, .inr (0, [.ref q1, .ref q44, .null, .int 0])) :: ((q44, .inl (ca 4, 3, .inr (.inr (.inr (.inr fd))))) :: ((xk_A ca ad1 1 ++ xk_Gs ca ad TT 3 ++ [(qk, .inl (ca 0, 16, .inl kf))]) ++ xk_V ca adV 119 mk))) _ _ := hJ
      refine xk_putF_W (ty := .object "WideNet$Server") hx hb hts hown hKK hJ 2 (by decide) (hts _ hw_349) rfl hin rfl (by decide +kernel) rfl rfl (Nat.le_of_ble_eq_true rfl) dd_W_init_138 (fun H locs hJ => ?_)
      have hJ : xs_J D A s ([(h0, .inr (0, [.ref q1, .ref q44, .ref qs, .int 0]))] ++ (q44, .inl (ca 4, 3, .inr (.inr (.inr (.inr fd))))) :: ((xk_A ca ad1 1 ++ xk_Gs ca ad TT 3 ++ [(qk, .inl (ca 0, 16, .inl kf))]) ++ xk_V ca adV 119 mk)) _ _ := hJ
      obtain rfl : cells = 118 := by omega
      obtain rfl : slots = 1720 := by omega
      obtain ⟨adF, f0, f1, f44, f46, fG, fV, fz⟩ : ∃ adF : Nat → Nat, adF 0 = h0 ∧ (∀ i, 1 ≤ i → i < 44 → adF i = ad1 i) ∧ adF 44 = q44 ∧ adF 46 = qk ∧ (∀ i, 47 ≤ i → i < 119 → adF i = ad i) ∧ (∀ i, 119 ≤ i → i < 171 → adF i = adV i) ∧ ∀ i, 171 ≤ i → adF i = ad0 i := ⟨fun i => if i = 0 then h0 else if i < 44 then ad1 i else if i = 44 then q44 else if i = 46 then qk else if i < 119 then ad i else if i < 171 then adV i else ad0 i, if_pos rfl, fun i h1 h2 => by show (if _ then _ else _) = _; rw [if_neg (by omega), if_pos (by omega)], by show (if _ then _ else _) = _; rw [if_neg (by omega), if_neg (by omega), if_pos (by omega)], by show (if _ then _ else _) = _; rw [if_neg (by omega), if_neg (by omega), if_neg (by omega), if_pos (by omega)], fun i h1 h2 => by show (if _ then _ else _) = _; rw [if_neg (by omega), if_neg (by omega), if_neg (by omega), if_neg (by omega), if_pos (by omega)], fun i h1 h2 => by show (if _ then _ else _) = _; rw [if_neg (by omega), if_neg (by omega), if_neg (by omega), if_neg (by omega), if_neg (by omega), if_pos (by omega)], fun i h1 => by show (if _ then _ else _) = _; rw [if_neg (by omega), if_neg (by omega), if_neg (by omega), if_neg (by omega), if_neg (by omega), if_neg (by omega)]⟩
      have hJ2 := xk_fn (g := fun j => some (adF (53 + 24 * (j % 3)))) hJ (fun j hj => by
        show fd j = some (adF (53 + 24 * (j % 3)))
        rw [Nat.mod_eq_of_lt hj, hfd j hj, fG _ (by omega) (by omega)])
      have hJ3 := xk_perm hJ2 permW
      refine hret (u := (adF, xk_S0 kf TT)) ⟨f0, fz 171 (by decide), fz 172 (by decide), ini_S0 hTT, ini_U⟩ ?_ dd_W_init_141
      show xs_J D A s (xs_w adF ca wkW (xk_S0 kf TT)) _ _
      rw [xk_eqW, f0, (f1 1 (by decide) (by decide)).trans e1, f44, f46, (fV 119 (by decide) (by decide)).trans eV, xk_A_cg (ad := adF) (ad2 := ad1) (fun i h1 h2 => f1 i h1 (by omega)), xk_Gs_cg (ad := adF) (ad2 := ad) (TT2 := TT) (Nat.le_refl 3) (fun i h1 h2 => fG i h1 (by omega)) (fun _ _ => rfl), xk_V_cg (ad := adF) (ad2 := adV) (fun i h1 h2 => fV i h1 (by omega)), xk_V_mk (mk2 := mk) (fun j hj => by show adF (47 + 24 * j) = mk j; rw [fG _ (by omega) (by omega), hmk])]
      exact hJ3
    | succ r ih =>
      intro d hd ad TT fr fd kf cells slots H locs ls hc hs hfr hfd hTT hJ hl
      have hd3 : d < 3 := by omega
      have w84 : ∀ (kf : Nat → Int32) (H : Heap) (locs : List Loc) (ls : Array Slot), (∀ j, j < 16 → kf j = (n1 + 41 * nI d + 13 * nI j) &&& 255) → xs_J D A s ((h0, .inr (0, [.ref q1, .ref q44, .null, .int 0])) :: (qr, .inl (ca 6, 3, .inr (.inr (.inr (.inr fr))))) :: (q44, .inl (ca 4, 3, .inr (.inr (.inr (.inr fd))))) :: (xk_A ca ad1 1 ++ xk_Gs ca ad TT d ++ [(qk, .inl (ca 0, 16, .inl kf))])) H locs → lv_has ls 6 [(0, .ref h0), (1, .int n1), (2, .ref qr), (3, .ref qk), (4, .int (nI d))] → W p l e R s m args below meth c H locs cells slots Q (F0 m 84 ls []) := by
        intro kf H locs ls hkf hJ hl
        refine lv_aload_n hx hb dd_W_init_84 rfl (lv_at hl 2 rfl) ?_
        refine lv_iload hx hb dd_W_init_85 (lv_at hl 4 rfl) ?_
        refine xk_new_M hx hb hts hown (hts _ hw_75) (hts _ hw_77) (hts _ hw_4) hKK hA hJ (by omega) (by omega) dd_W_init_87 (fun q H hJ => ?_)
        refine lv_dup hx hb dd_W_init_90 rfl ?_
        refine xk_call (X := fun ad => xk_M ca ad (47 + 24 * d)) hA hJ (va_runIN (As := []) (rest := [.ref q, .int (nI d), .ref qr]) ⟨hx, hb, hml, hown, hts⟩ (xn_M l D ca q H.size (47 + 24 * d)) ⟨va_cnB 0 hts (xs_good hw_80) rfl rfl rfl (hKK.2.1 _ hn_78 rfl) (hts _ hw_4) yd_M_init ⟨Nat.le_trans (by decide) hRf, Nat.le_trans (by decide) hRl⟩, rfl, (hts _ hw_79)⟩ ⟨xk_blind, fun U h1 h2 => ⟨rfl, xk_pre hKK hJ h1 h2⟩⟩ rfl rfl hl.1 rfl (lv_room (Nat.le_of_ble_eq_true rfl)) dd_W_init_91 ⟨by omega, by omega⟩) (fun ad' H locs e1 hJ => ?_)
        have hv : ∃ vs, (xk_M ca ad' (47 + 24 * d))[0]? = some (q, .inr (4, vs)) := ⟨_, by rw [← e1]; rfl⟩
        refine xk_ast1_M hx hb hKK hJ hv (nI_in (by omega) (by decide)) dd_W_init_94 (fun H locs hJ => ?_)
        rw [nI_clamp (show d < 2 ^ 31 by omega)] at hJ
        have hJ : xs_J D A s ((h0, .inr (0, [.ref q1, .ref q44, .null, .int 0])) :: (qr, .inl (ca 6, 3, .inr (.inr (.inr (.inr (va_up fr d (some q))))))) :: (q44, .inl (ca 4, 3, .inr (.inr (.inr (.inr fd))))) :: ((xk_A ca ad1 1 ++ xk_Gs ca ad TT d ++ [(qk, .inl (ca 0, 16, .inl kf))]) ++ xk_M ca ad' (47 + 24 * d))) _ _ := hJ
        refine lv_aload_n hx hb dd_W_init_95 rfl (lv_at hl 2 rfl) ?_
        refine lv_iload hx hb dd_W_init_96 (lv_at hl 4 rfl) ?_
        refine xk_ald_M (v := q) hx hb hKK hJ (by rw [nI_clamp (show d < 2 ^ 31 by omega)]; exact xs_up_eq) (nI_in (by omega) (by decide)) dd_W_init_98 ?_
        refine lv_aload_n hx hb dd_W_init_99 rfl (lv_at hl 3 rfl) ?_
        rw [List.append_assoc (xk_A ca ad1 1 ++ xk_Gs ca ad TT d) [(qk, .inl (ca 0, 16, .inl kf))] (xk_M ca ad' (47 + 24 * d)), xk_eqM (ad0 := ad0) hd3] at hJ
        have hJ : xs_J D A s (((h0, .inr (0, [.ref q1, .ref q44, .null, .int 0])) :: (qr, .inl (ca 6, 3, .inr (.inr (.inr (.inr (va_up fr d (some q))))))) :: (q44, .inl (ca 4, 3, .inr (.inr (.inr (.inr fd))))) :: (xk_A ca ad1 1 ++ xk_Gs ca ad TT d)) ++ xs_w (xk_ad2 qk ad0 ad') ca (46 :: mks d) (xk_SS kf)) _ _ := hJ
        have e46 : (xk_ad2 qk ad0 ad') 46 = qk := rfl
        have e47 : (xk_ad2 qk ad0 ad') (47 + 24 * d) = q := by
          unfold xk_ad2
          rw [if_neg (by omega), if_neg (by omega), if_neg (by omega)]
          exact e1
        have hby : xs_by (xk_SS kf) 46 0 16 (Ky n1 d) := fun i hi => by
          show kf (0 + i) = nI (Ky n1 d i) ∧ _
          rw [Nat.zero_add, hkf i hi]
          exact and255 _
        obtain ⟨T, gT, hmac, -⟩ := x_mac_take (S := xk_SS kf) (k := 47 + 24 * d) (a := 46) (mk_kd d hd3) (by decide) hby (by omega)
        have hK : xs_K D (xk_ad2 qk ad0 ad') ca (46 :: mks d) A s := ⟨mk_ok d hd3, hKK.1, hA, hKK.2.1, z_cg (ad := ad0) rfl rfl hZ⟩
        have hw : xs_I D (xk_ad2 qk ad0 ad') ca (46 :: mks d) A s (xk_SS kf) _ _ := ⟨xk_right hJ.1, xk_Dr hJ.2.1, hJ.2.2⟩
        have hk1 : xs_is (46 :: mks d) (47 + 24 * d) xs_cM := ⟨by simp [mks], mk_kd d hd3⟩
        have hk2 : xs_is (46 :: mks d) 46 50 := ⟨by simp, by decide⟩
        refine W.eq (g2 := F0 m 100 ls [.ref ((xk_ad2 qk ad0 ad') 46), .ref ((xk_ad2 qk ad0 ad') (47 + 24 * d))]) (by rw [e46, e47]) ?_
        refine xk_callT hA hJ (va_runV (As := [.ref ((xk_ad2 qk ad0 ad') 46)]) (rest := []) ⟨hx, hb, hml, hown, hts⟩ (xc_M_takeKey l D (xk_ad2 qk ad0 ad') ca (46 :: mks d) (47 + 24 * d) 46 (xk_SS kf) T hk1 hk2 gT H.size) ⟨callB_of 1 hts (xs_good hw_110) rfl rfl rfl (hts _ hw_4) (hts _ hw_107) yd_M_takeKey ⟨Nat.le_trans (by decide) hRf, Nat.le_trans (by decide) hRl⟩, (hts _ hw_108), (hts _ hw_109)⟩ ⟨xs_blind, xs_recv_M hK hw hk1, fun U h1 h2 => ⟨rfl, xs_pre hK hw h1 h2⟩⟩ rfl rfl hl.1 rfl (lv_room (Nat.le_of_ble_eq_true rfl)) dd_W_init_100 ⟨by omega, by omega⟩) (fun H locs hJ => ?_)
        have hJ : xs_J D A s ((h0, .inr (0, [.ref q1, .ref q44, .null, .int 0])) :: (qr, .inl (ca 6, 3, .inr (.inr (.inr (.inr (va_up fr d (some q))))))) :: (q44, .inl (ca 4, 3, .inr (.inr (.inr (.inr fd))))) :: ((xk_A ca ad1 1 ++ xk_Gs ca ad TT d) ++ ([(qk, .inl (ca 0, 16, .inl (T.1 46)))] ++ xs_w (xk_ad2 qk ad0 ad') ca (mks d) T))) _ _ := hJ
        refine lv_aload_n hx hb dd_W_init_103 rfl (lv_at hl 0 rfl) ?_
        refine xk_get_W (v := .ref q44) hx hb hts hown hKK hJ 1 (by decide) (hts _ hw_348) rfl dd_W_init_104 ?_
        refine lv_iload hx hb dd_W_init_107 (lv_at hl 4 rfl) ?_
        refine xk_new_D hx hb hts hown (hts _ hw_73) (hts _ hw_147) (hts _ hw_8) hKK hA hJ (by omega) (by omega) dd_W_init_109 (fun q2 H hJ => ?_)
        refine lv_dup hx hb dd_W_init_112 rfl ?_
        refine lv_iload hx hb dd_W_init_113 (lv_at hl 4 rfl) ?_
        refine lv_aload_n hx hb dd_W_init_115 rfl (lv_at hl 2 rfl) ?_
        refine lv_iload hx hb dd_W_init_116 (lv_at hl 4 rfl) ?_
        have hJc : xs_J D A s ((h0, .inr (0, [.ref q1, .ref q44, .null, .int 0])) :: (qr, .inl (ca 6, 3, .inr (.inr (.inr (.inr (va_up fr d (some q))))))) :: (q44, .inl (ca 4, 3, .inr (.inr (.inr (.inr fd))))) :: (((xk_A ca ad1 1 ++ xk_Gs ca ad TT d) ++ ([(qk, .inl (ca 0, 16, .inl (T.1 46)))] ++ xs_w (xk_ad2 qk ad0 ad') ca (mks d) T)) ++ [(q2, .inr (7, [.int 0, .null, .null, .null, .null, .null, .int 0, .int 0, .int 0, .int 0, .int 0, .int 0, .int 0, .int 0, .int 0, .int 0, .int 0, .int 0]))])) _ _ := hJ
        refine xk_ald_M (v := q) hx hb hKK hJc (by rw [nI_clamp (show d < 2 ^ 31 by omega)]; exact xs_up_eq) (nI_in (by omega) (by decide)) dd_W_init_118 ?_
        refine xk_call (X := fun ad => xk_D ca ad (53 + 24 * d) ((nI d)) q) hA hJ (va_runI (As := [.int (nI d), .ref q]) (rest := [.ref q2, .int (nI d), .ref q44]) ⟨hx, hb, hml, hown, hts⟩ (xn_D l D ca q2 H.size (53 + 24 * d) ((nI d)) q) ⟨callB_of 2 hts (xs_good hw_150) rfl rfl rfl (hts _ hw_8) (hts _ hw_148) yd_D_init ⟨Nat.le_trans (by decide) hRf, Nat.le_trans (by decide) hRl⟩, rfl, (hts _ hw_149)⟩ ⟨xk_blind, fun U h1 h2 => ⟨rfl, xk_pre hKK hJ h1 h2⟩⟩ rfl rfl hl.1 rfl (lv_room (Nat.le_of_ble_eq_true rfl)) dd_W_init_119 ⟨by omega, by omega⟩) (fun ad'' H locs e2 hJ => ?_)
        have hv2 : ∃ vs, (xk_D ca ad'' (53 + 24 * d) (nI d) q)[0]? = some (q2, .inr (7, vs)) := ⟨_, by rw [← e2]; rfl⟩
        refine xk_ast2_D hx hb hKK hJ hv2 (nI_in (by omega) (by decide)) dd_W_init_122 (fun H locs hJ => ?_)
        rw [nI_clamp (show d < 2 ^ 31 by omega)] at hJ
        refine lv_iinc (k := 4) (v := nI d + 1) hx hb dd_W_init_123 hl rfl rfl (by decide) rfl (fun ls hl => ?_)
        have hl : lv_has ls 6 [(4, .int (nI d + 1)), (0, .ref h0), (1, .int n1), (2, .ref qr), (3, .ref qk)] := hl
        rw [nI_1] at hl
        refine lv_goto hx hb dd_W_init_126 rfl ?_
        have eM : (fun i => if i < 47 + 24 * d then ad i else if i < 53 + 24 * d then (xk_ad2 qk ad0 ad') i else ad'' i) (47 + 24 * d) = q := by
          show (if _ then _ else _) = _
          rw [if_neg (by omega), if_pos (by omega)]
          exact e47
        have eM2 : (fun i => if i < 47 + 24 * d then ad i else if i < 53 + 24 * d then (xk_ad2 qk ad0 ad') i else ad'' i) (53 + 24 * d) = q2 := by
          show (if _ then _ else _) = _
          rw [if_neg (by omega), if_neg (by omega)]
          exact e2
        refine ih (d + 1) (by omega) (fun i => if i < 47 + 24 * d then ad i else if i < 53 + 24 * d then (xk_ad2 qk ad0 ad') i else ad'' i) (fun j => if j = d then T else TT j) (va_up fr d (some q)) (va_up fd d (some q2)) (T.1 46) _ _ H locs ls (by omega) (by omega) (fun j hj => ?_) (fun j hj => ?_) (fun j hj => ?_) ?_ (lv_sub hl [1, 2, 3, 4, 0] rfl)
        · by_cases hjk : j = d
          · subst hjk
            rw [xs_up_eq]
            exact congrArg some eM.symm
          · rw [xs_up_ne hjk, hfr j (by omega)]
            exact congrArg some (if_pos (by omega)).symm
        · by_cases hjk : j = d
          · subst hjk
            rw [xs_up_eq]
            exact congrArg some eM2.symm
          · rw [xs_up_ne hjk, hfd j (by omega)]
            exact congrArg some (if_pos (by omega)).symm
        · by_cases hjk : j = d
          · subst hjk
            show xs_mac (if _ then _ else _) _ _
            rw [if_pos rfl]
            exact hmac
          · show xs_mac (if _ then _ else _) _ _
            rw [if_neg hjk]
            exact hTT j (by omega)
        · rw [show xk_Gs ca (fun i => if i < 47 + 24 * d then ad i else if i < 53 + 24 * d then (xk_ad2 qk ad0 ad') i else ad'' i) (fun j => if j = d then T else TT j) (d + 1) = xk_Gs ca (fun i => if i < 47 + 24 * d then ad i else if i < 53 + 24 * d then (xk_ad2 qk ad0 ad') i else ad'' i) (fun j => if j = d then T else TT j) d ++ xs_w (fun i => if i < 47 + 24 * d then ad i else if i < 53 + 24 * d then (xk_ad2 qk ad0 ad') i else ad'' i) ca (mks d) ((fun j => if j = d then T else TT j) d) ++ xk_D ca (fun i => if i < 47 + 24 * d then ad i else if i < 53 + 24 * d then (xk_ad2 qk ad0 ad') i else ad'' i) (53 + 24 * d) (nI d) ((fun i => if i < 47 + 24 * d then ad i else if i < 53 + 24 * d then (xk_ad2 qk ad0 ad') i else ad'' i) (47 + 24 * d)) from rfl, xk_Gs_cg (ad := (fun i => if i < 47 + 24 * d then ad i else if i < 53 + 24 * d then (xk_ad2 qk ad0 ad') i else ad'' i)) (ad2 := ad) (TT := (fun j => if j = d then T else TT j)) (TT2 := TT) (by omega) (fun i h1 h2 => if_pos (by omega)) (fun j hj => if_neg (by omega)), mks_cg (ad := (fun i => if i < 47 + 24 * d then ad i else if i < 53 + 24 * d then (xk_ad2 qk ad0 ad') i else ad'' i)) (ad2 := (xk_ad2 qk ad0 ad')) hd3 (fun i h1 h2 => by show (if _ then _ else _) = _; rw [if_neg (by omega), if_pos (by omega)]), xk_D_cg (ad := (fun i => if i < 47 + 24 * d then ad i else if i < 53 + 24 * d then (xk_ad2 qk ad0 ad') i else ad'' i)) (ad2 := ad'') (fun i h1 h2 => by show (if _ then _ else _) = _; rw [if_neg (by omega), if_neg (by omega)]), eM, show (fun j => if j = d then T else TT j) d = T from if_pos rfl]
          exact xk_perm hJ (List.Perm.cons _ (List.Perm.cons _ (List.Perm.cons _ permK)))
      have w50 : ∀ (r2 i : Nat), i + r2 = 16 → ∀ (kf : Nat → Int32) (H : Heap) (locs : List Loc) (ls : Array Slot), (∀ j, j < i → kf j = (n1 + 41 * nI d + 13 * nI j) &&& 255) → xs_J D A s ((h0, .inr (0, [.ref q1, .ref q44, .null, .int 0])) :: (qr, .inl (ca 6, 3, .inr (.inr (.inr (.inr fr))))) :: (q44, .inl (ca 4, 3, .inr (.inr (.inr (.inr fd))))) :: (xk_A ca ad1 1 ++ xk_Gs ca ad TT d ++ [(qk, .inl (ca 0, 16, .inl kf))])) H locs → lv_has ls 6 [(0, .ref h0), (1, .int n1), (2, .ref qr), (3, .ref qk), (4, .int (nI d)), (5, .int (nI i))] → W p l e R s m args below meth c H locs cells slots Q (F0 m 50 ls []) := by
        intro r2
        induction r2 with
        | zero =>
          intro i hi kf H locs ls hkf hJ hl
          obtain rfl : i = 16 := by omega
          refine lv_iload hx hb dd_W_init_50 (lv_at hl 5 rfl) ?_
          refine lv_bipush (v := 16) hx hb dd_W_init_52 rfl ?_
          refine lv_icmp_ge hx hb dd_W_init_54 rfl (fun _ => ?_) (fun b => absurd (show (16 : Int32) ≤ nI 16 by decide) b)
          exact w84 kf H locs ls hkf hJ (lv_sub hl [0, 1, 2, 3, 4] rfl)
        | succ r2 ih2 =>
          intro i hi kf H locs ls hkf hJ hl
          refine lv_iload hx hb dd_W_init_50 (lv_at hl 5 rfl) ?_
          refine lv_bipush (v := 16) hx hb dd_W_init_52 rfl ?_
          refine lv_icmp_ge hx hb dd_W_init_54 rfl (fun b => absurd b (show ¬ (16 : Int32) ≤ nI i from nI_ge (b := 16) (by omega) (by decide))) (fun _ => ?_)
          refine lv_aload_n hx hb dd_W_init_57 rfl (lv_at hl 3 rfl) ?_
          refine lv_iload hx hb dd_W_init_58 (lv_at hl 5 rfl) ?_
          refine lv_iload_n hx hb dd_W_init_60 rfl (lv_at hl 1 rfl) ?_
          refine lv_bipush (v := 41) hx hb dd_W_init_61 rfl ?_
          refine lv_iload hx hb dd_W_init_63 (lv_at hl 4 rfl) ?_
          refine lv_imul hx hb dd_W_init_65 ?_
          refine lv_iadd hx hb dd_W_init_66 ?_
          refine lv_bipush (v := 13) hx hb dd_W_init_67 rfl ?_
          refine lv_iload hx hb dd_W_init_69 (lv_at hl 5 rfl) ?_
          refine lv_imul hx hb dd_W_init_71 ?_
          refine lv_iadd hx hb dd_W_init_72 ?_
          refine lv_sipush (v := 255) hx hb dd_W_init_73 rfl ?_
          refine lv_iand hx hb dd_W_init_76 ?_
          have hJ : xs_J D A s (((h0, .inr (0, [.ref q1, .ref q44, .null, .int 0])) :: (qr, .inl (ca 6, 3, .inr (.inr (.inr (.inr fr))))) :: (q44, .inl (ca 4, 3, .inr (.inr (.inr (.inr fd))))) :: (xk_A ca ad1 1 ++ xk_Gs ca ad TT d)) ++ [(qk, .inl (ca 0, 16, .inl kf))]) _ _ := hJ
          refine xk_ist hx hb hKK hJ (nI_in (by omega) (by decide)) dd_W_init_77 (fun H locs hJ => ?_)
          rw [nI_clamp (show i < 2 ^ 31 by omega)] at hJ
          refine lv_iinc (k := 5) (v := nI i + 1) hx hb dd_W_init_78 hl rfl rfl (by decide) rfl (fun ls hl => ?_)
          have hl : lv_has ls 6 [(5, .int (nI i + 1)), (0, .ref h0), (1, .int n1), (2, .ref qr), (3, .ref qk), (4, .int (nI d))] := hl
          rw [nI_1] at hl
          refine lv_goto hx hb dd_W_init_81 rfl ?_
          refine ih2 (i + 1) (by omega) (upd kf i ((n1 + 41 * nI d + 13 * nI i) &&& 255)) H locs ls (fun j hj => ?_) hJ (lv_sub hl [1, 2, 3, 4, 5, 0] rfl)
          by_cases hji : j = i
          · subst hji
            exact pk_us
          · rw [pk_un hji]
            exact hkf j (by omega)
      refine lv_iload hx hb dd_W_init_41 (lv_at hl 4 rfl) ?_
      refine lv_iconst (v := 3) hx hb dd_W_init_43 rfl ?_
      refine lv_icmp_ge hx hb dd_W_init_44 rfl (fun b => absurd b (show ¬ (3 : Int32) ≤ nI d from nI_ge (b := 3) (by omega) (by decide))) (fun _ => ?_)
      refine lv_iconst (v := 0) hx hb dd_W_init_47 rfl ?_
      refine lv_istore hx hb dd_W_init_48 hl (by decide) rfl (fun ls hl => ?_)
      have hl : lv_has ls 6 [(5, .int 0), (0, .ref h0), (1, .int n1), (2, .ref qr), (3, .ref qk), (4, .int (nI d))] := hl
      exact w50 16 0 rfl kf H locs ls (fun j hj => absurd hj (Nat.not_lt_zero _)) hJ (lv_sub hl [1, 2, 3, 4, 5, 0] rfl)
  exact w41 3 0 rfl (fun _ => 0) (fun _ => xk_SS fun _ => 0) (fun _ => none) (fun _ => none) (fun _ => 0) _ _ _ _ _ rfl rfl (fun j hj => absurd hj (Nat.not_lt_zero _)) (fun j hj => absurd hj (Nat.not_lt_zero _)) (fun j hj => absurd hj (Nat.not_lt_zero _)) hJ (lv_sub hl [3, 4, 2, 1, 0] rfl)
