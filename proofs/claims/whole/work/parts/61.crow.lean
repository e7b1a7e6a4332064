section XP
variable {p : Program} {l : Launch} {e : Env} {R : Room} {s : State} {m : MethodId} {args : Array Value} {below : List Frame} {meth : Method} {c : Code} {H : Heap} {locs : List Loc} {cells slots : Nat} {Q : State → Prop}
variable {cc : ByteArray} {pc : Nat} {ls : Array Slot} {rest : List Value} {D : va_G} {ca : Nat → ClassId} {A : Nat → Prop} {ws r : va_W} {a : Nat} {fs : List Value}
theorem xk_perm (h : xs_J D A s ws H locs) {ws2 : va_W} (hp : ws.Perm ws2) : xs_J D A s ws2 H locs := by
  obtain ⟨h1, ⟨h2, h3⟩, h4⟩ := h
  have pw : ws.Pairwise fun x y => x.1 ≠ y.1 := by
    rw [List.pairwise_iff_getElem]
    intro i j hi hj hij e
    have := h2 i j _ _ (List.getElem?_eq_getElem hi) (List.getElem?_eq_getElem hj) e
    omega
  have pw2 : ws2.Pairwise fun x y => x.1 ≠ y.1 := (List.Perm.pairwise_iff (R := fun x y : Nat × va_E => x.1 ≠ y.1) (fun hxy => Ne.symm hxy) hp).mp pw
  rw [List.pairwise_iff_getElem] at pw2
  refine ⟨fun k x hx => ?_, ⟨fun i j x y hx hy e => ?_, fun k x hx => ?_⟩, h4⟩
  · obtain ⟨i, hi⟩ := List.mem_iff_getElem?.mp (hp.mem_iff.mpr (List.mem_of_getElem? hx))
    exact h1 i x hi
  · obtain ⟨hi, e1⟩ := List.getElem?_eq_some_iff.mp hx
    obtain ⟨hj, e2⟩ := List.getElem?_eq_some_iff.mp hy
    rw [← e1, ← e2] at e
    rcases Nat.lt_trichotomy i j with hij | hij | hij
    · exact absurd e (pw2 i j hi hj hij)
    · exact hij
    · exact absurd e.symm (pw2 j i hj hi hij)
  · obtain ⟨i, hi⟩ := List.mem_iff_getElem?.mp (hp.mem_iff.mpr (List.mem_of_getElem? hx))
    exact h3 i x hi
theorem xk_fn {pre r2 : va_W} {q n : Nat} {c0 : ClassId} {f g : Nat → Option Nat} (h : xs_J D A s (pre ++ (q, .inl (c0, n, .inr (.inr (.inr (.inr f))))) :: r2) H locs) (e : ∀ j, j < n → f j = g j) : xs_J D A s (pre ++ (q, .inl (c0, n, .inr (.inr (.inr (.inr g))))) :: r2) H locs := by
  have ec : vp_cell c0 (n, .inr (.inr (.inr (.inr f)))) = vp_cell c0 (n, .inr (.inr (.inr (.inr g)))) := by
    rw [vp_cell_q, vp_cell_q]
    unfold arrV
    have : (fun j : Fin n => va_rf (f j.val)) = fun j : Fin n => va_rf (g j.val) := funext fun j => by rw [e j.val j.2]
    rw [this]
  have key : ∀ (k : Nat) (x : Nat × va_E), (pre ++ (q, .inl (c0, n, .inr (.inr (.inr (.inr g))))) :: r2)[k]? = some x → (pre ++ (q, .inl (c0, n, .inr (.inr (.inr (.inr f))))) :: r2)[k]? = some x ∨ x = (q, .inl (c0, n, .inr (.inr (.inr (.inr g))))) ∧ (pre ++ (q, .inl (c0, n, .inr (.inr (.inr (.inr f))))) :: r2)[k]? = some (q, .inl (c0, n, .inr (.inr (.inr (.inr f))))) := by
    intro k x hx
    rcases Nat.lt_trichotomy k pre.length with hk | hk | hk
    · left
      rw [List.getElem?_append_left hk] at hx ⊢
      exact hx
    · right
      subst hk
      rw [List.getElem?_append_right (Nat.le_refl _), Nat.sub_self] at hx ⊢
      exact ⟨(Option.some.inj hx).symm, rfl⟩
    · left
      rw [List.getElem?_append_right (Nat.le_of_lt hk)] at hx ⊢
      obtain ⟨i, hi⟩ : ∃ i, k - pre.length = i + 1 := ⟨k - pre.length - 1, by omega⟩
      rw [hi] at hx ⊢
      exact hx
  have key2 : ∀ (k : Nat) (x : Nat × va_E), (pre ++ (q, .inl (c0, n, .inr (.inr (.inr (.inr g))))) :: r2)[k]? = some x → ∃ y : Nat × va_E, (pre ++ (q, .inl (c0, n, .inr (.inr (.inr (.inr f))))) :: r2)[k]? = some y ∧ y.1 = x.1 := by
    intro k x hx
    rcases key k x hx with h1 | ⟨h1, h2⟩
    · exact ⟨x, h1, rfl⟩
    · exact ⟨_, h2, by rw [h1]⟩
  refine ⟨fun k x hx => ?_, ⟨fun i j x y hx hy hxy => ?_, fun k x hx => ?_⟩, h.2.2⟩
  · rcases key k x hx with h1 | ⟨h1, h2⟩
    · exact h.1 k x h1
    · subst h1
      have h3 : H[q]? = some (vp_cell c0 (n, .inr (.inr (.inr (.inr f))))) := h.1 k _ h2
      show H[q]? = some (vp_cell c0 (n, .inr (.inr (.inr (.inr g)))))
      rw [h3, ec]
  · obtain ⟨x2, h1, h2⟩ := key2 i x hx
    obtain ⟨y2, h3, h4⟩ := key2 j y hy
    exact h.2.1.1 i j x2 y2 h1 h3 (by rw [h2, h4]; exact hxy)
  · obtain ⟨x2, h1, h2⟩ := key2 k x hx
    rw [← h2]
    exact h.2.1.2 k x2 h1
theorem xk_get_A (hx : p.tables.exec = Jvm.exec) (hb : c.code = cc) {own : String} {index : Nat} (hts : ∀ w ∈ xs_U, w.before args s = true) (hown : s.vm.findClass own = some m.cls) (hKK : xs_KK D ca s) (hJ : xs_J D A s ((a, .inr (1, fs)) :: r) H locs) (j : Nat) (hj : j < 4) (hlink : (Cond.fieldLink own index (T_A j).1 (T_A j).2.1 (T_A j).2.2.1).before args s = true) {v : Value} (hv : fs[j]? = some v) (hdg : decode cc pc = .ok (.getfield index, 3)) (kk : W p l e R s m args below meth c H locs cells slots Q (F0 m (pc + 3) ls (v :: rest))) : W p l e R s m args below meth c H locs cells slots Q (F0 m pc ls (.ref a :: rest)) :=
  va_get (D := D) (ci := 1) (C := R_A) (T := T_A) (N := 4) hx hb hts in_A hown hKK.1 hJ.1 0 rfl rfl j hj hlink (fun _ h9 => h9) hv hdg kk
theorem xk_get_W (hx : p.tables.exec = Jvm.exec) (hb : c.code = cc) {own : String} {index : Nat} (hts : ∀ w ∈ xs_U, w.before args s = true) (hown : s.vm.findClass own = some m.cls) (hKK : xs_KK D ca s) (hJ : xs_J D A s ((a, .inr (0, fs)) :: r) H locs) (j : Nat) (hj : j < 4) (hlink : (Cond.fieldLink own index (T_W j).1 (T_W j).2.1 (T_W j).2.2.1).before args s = true) {v : Value} (hv : fs[j]? = some v) (hdg : decode cc pc = .ok (.getfield index, 3)) (kk : W p l e R s m args below meth c H locs cells slots Q (F0 m (pc + 3) ls (v :: rest))) : W p l e R s m args below meth c H locs cells slots Q (F0 m pc ls (.ref a :: rest)) :=
  va_get (D := D) (ci := 0) (C := R_W) (T := T_W) (N := 4) hx hb hts in_W hown hKK.1 hJ.1 0 rfl rfl j hj hlink (fun _ h9 => h9) hv hdg kk
theorem xk_get_V (hx : p.tables.exec = Jvm.exec) (hb : c.code = cc) {own : String} {index : Nat} (hts : ∀ w ∈ xs_U, w.before args s = true) (hown : s.vm.findClass own = some m.cls) (hKK : xs_KK D ca s) (hJ : xs_J D A s ((a, .inr (9, fs)) :: r) H locs) (j : Nat) (hj : j < 3) (hlink : (Cond.fieldLink own index (T_V j).1 (T_V j).2.1 (T_V j).2.2.1).before args s = true) {v : Value} (hv : fs[j]? = some v) (hdg : decode cc pc = .ok (.getfield index, 3)) (kk : W p l e R s m args below meth c H locs cells slots Q (F0 m (pc + 3) ls (v :: rest))) : W p l e R s m args below meth c H locs cells slots Q (F0 m pc ls (.ref a :: rest)) :=
  va_get (D := D) (ci := 9) (C := R_V) (T := T_V) (N := 3) hx hb hts in_V hown hKK.1 hJ.1 0 rfl rfl j hj hlink (fun _ h9 => h9) hv hdg kk
theorem xk_ast1_F (hx : p.tables.exec = Jvm.exec) (hb : c.code = cc) {x0 : Nat × va_E} {wc : va_W} {n v : Nat} {f : Nat → Option Nat} {i : Int32} (hKK : xs_KK D ca s) (hJ : xs_J D A s ((x0 :: (a, .inl (ca 3, n, .inr (.inr (.inr (.inr f))))) :: r) ++ wc) H locs) (hv : ∃ vs : List Value, wc[0]? = some (v, .inr (2, vs))) (hin : vp_in i n) (hdg : decode cc pc = .ok (.aastore, 1)) (kk : ∀ (H1 : Heap) (locs1 : List Loc), xs_J D A s ((x0 :: (a, .inl (ca 3, n, .inr (.inr (.inr (.inr (va_up f i.toNatClampNeg (some v))))))) :: r) ++ wc) H1 locs1 → W p l e R s m args below meth c H1 locs1 cells slots Q (F0 m (pc + 1) ls rest)) : W p l e R s m args below meth c H locs cells slots Q (F0 m pc ls (.ref v :: .int i :: .ref a :: rest)) := by
  obtain ⟨vs, hv⟩ := hv
  exact va_astq (r := (R_F, T_F, 3)) hx hb hKK.1 hJ.1 hJ.2.1 hJ.2.2 1 3 ((x0 :: (a, .inl (ca 3, n, .inr (.inr (.inr (.inr f))))) :: r).length + 0) 2 rfl rfl (xk_at2 hv) rfl hin hdg (fun H1 locs1 h1 h2 h3 => kk H1 locs1 ⟨h1, h2, h3⟩)
theorem xk_ast2_F (hx : p.tables.exec = Jvm.exec) (hb : c.code = cc) {x0 x1 : Nat × va_E} {wc : va_W} {n v : Nat} {f : Nat → Option Nat} {i : Int32} (hKK : xs_KK D ca s) (hJ : xs_J D A s ((x0 :: x1 :: (a, .inl (ca 3, n, .inr (.inr (.inr (.inr f))))) :: r) ++ wc) H locs) (hv : ∃ vs : List Value, wc[0]? = some (v, .inr (2, vs))) (hin : vp_in i n) (hdg : decode cc pc = .ok (.aastore, 1)) (kk : ∀ (H1 : Heap) (locs1 : List Loc), xs_J D A s ((x0 :: x1 :: (a, .inl (ca 3, n, .inr (.inr (.inr (.inr (va_up f i.toNatClampNeg (some v))))))) :: r) ++ wc) H1 locs1 → W p l e R s m args below meth c H1 locs1 cells slots Q (F0 m (pc + 1) ls rest)) : W p l e R s m args below meth c H locs cells slots Q (F0 m pc ls (.ref v :: .int i :: .ref a :: rest)) := by
  obtain ⟨vs, hv⟩ := hv
  exact va_astq (r := (R_F, T_F, 3)) hx hb hKK.1 hJ.1 hJ.2.1 hJ.2.2 2 3 ((x0 :: x1 :: (a, .inl (ca 3, n, .inr (.inr (.inr (.inr f))))) :: r).length + 0) 2 rfl rfl (xk_at2 hv) rfl hin hdg (fun H1 locs1 h1 h2 h3 => kk H1 locs1 ⟨h1, h2, h3⟩)
theorem xk_ast1_D (hx : p.tables.exec = Jvm.exec) (hb : c.code = cc) {x0 : Nat × va_E} {wc : va_W} {n v : Nat} {f : Nat → Option Nat} {i : Int32} (hKK : xs_KK D ca s) (hJ : xs_J D A s ((x0 :: (a, .inl (ca 4, n, .inr (.inr (.inr (.inr f))))) :: r) ++ wc) H locs) (hv : ∃ vs : List Value, wc[0]? = some (v, .inr (7, vs))) (hin : vp_in i n) (hdg : decode cc pc = .ok (.aastore, 1)) (kk : ∀ (H1 : Heap) (locs1 : List Loc), xs_J D A s ((x0 :: (a, .inl (ca 4, n, .inr (.inr (.inr (.inr (va_up f i.toNatClampNeg (some v))))))) :: r) ++ wc) H1 locs1 → W p l e R s m args below meth c H1 locs1 cells slots Q (F0 m (pc + 1) ls rest)) : W p l e R s m args below meth c H locs cells slots Q (F0 m pc ls (.ref v :: .int i :: .ref a :: rest)) := by
  obtain ⟨vs, hv⟩ := hv
  exact va_astq (r := (R_D, T_D, 18)) hx hb hKK.1 hJ.1 hJ.2.1 hJ.2.2 1 4 ((x0 :: (a, .inl (ca 4, n, .inr (.inr (.inr (.inr f))))) :: r).length + 0) 7 rfl rfl (xk_at2 hv) rfl hin hdg (fun H1 locs1 h1 h2 h3 => kk H1 locs1 ⟨h1, h2, h3⟩)
theorem xk_ast2_D (hx : p.tables.exec = Jvm.exec) (hb : c.code = cc) {x0 x1 : Nat × va_E} {wc : va_W} {n v : Nat} {f : Nat → Option Nat} {i : Int32} (hKK : xs_KK D ca s) (hJ : xs_J D A s ((x0 :: x1 :: (a, .inl (ca 4, n, .inr (.inr (.inr (.inr f))))) :: r) ++ wc) H locs) (hv : ∃ vs : List Value, wc[0]? = some (v, .inr (7, vs))) (hin : vp_in i n) (hdg : decode cc pc = .ok (.aastore, 1)) (kk : ∀ (H1 : Heap) (locs1 : List Loc), xs_J D A s ((x0 :: x1 :: (a, .inl (ca 4, n, .inr (.inr (.inr (.inr (va_up f i.toNatClampNeg (some v))))))) :: r) ++ wc) H1 locs1 → W p l e R s m args below meth c H1 locs1 cells slots Q (F0 m (pc + 1) ls rest)) : W p l e R s m args below meth c H locs cells slots Q (F0 m pc ls (.ref v :: .int i :: .ref a :: rest)) := by
  obtain ⟨vs, hv⟩ := hv
  exact va_astq (r := (R_D, T_D, 18)) hx hb hKK.1 hJ.1 hJ.2.1 hJ.2.2 2 4 ((x0 :: x1 :: (a, .inl (ca 4, n, .inr (.inr (.inr (.inr f))))) :: r).length + 0) 7 rfl rfl (xk_at2 hv) rfl hin hdg (fun H1 locs1 h1 h2 h3 => kk H1 locs1 ⟨h1, h2, h3⟩)
theorem xk_ast1_K (hx : p.tables.exec = Jvm.exec) (hb : c.code = cc) {x0 : Nat × va_E} {wc : va_W} {n v : Nat} {f : Nat → Option Nat} {i : Int32} (hKK : xs_KK D ca s) (hJ : xs_J D A s ((x0 :: (a, .inl (ca 5, n, .inr (.inr (.inr (.inr f))))) :: r) ++ wc) H locs) (hv : ∃ vs : List Value, wc[0]? = some (v, .inr (8, vs))) (hin : vp_in i n) (hdg : decode cc pc = .ok (.aastore, 1)) (kk : ∀ (H1 : Heap) (locs1 : List Loc), xs_J D A s ((x0 :: (a, .inl (ca 5, n, .inr (.inr (.inr (.inr (va_up f i.toNatClampNeg (some v))))))) :: r) ++ wc) H1 locs1 → W p l e R s m args below meth c H1 locs1 cells slots Q (F0 m (pc + 1) ls rest)) : W p l e R s m args below meth c H locs cells slots Q (F0 m pc ls (.ref v :: .int i :: .ref a :: rest)) := by
  obtain ⟨vs, hv⟩ := hv
  exact va_astq (r := (R_K, T_K, 16)) hx hb hKK.1 hJ.1 hJ.2.1 hJ.2.2 1 5 ((x0 :: (a, .inl (ca 5, n, .inr (.inr (.inr (.inr f))))) :: r).length + 0) 8 rfl rfl (xk_at2 hv) rfl hin hdg (fun H1 locs1 h1 h2 h3 => kk H1 locs1 ⟨h1, h2, h3⟩)
theorem xk_ast2_K (hx : p.tables.exec = Jvm.exec) (hb : c.code = cc) {x0 x1 : Nat × va_E} {wc : va_W} {n v : Nat} {f : Nat → Option Nat} {i : Int32} (hKK : xs_KK D ca s) (hJ : xs_J D A s ((x0 :: x1 :: (a, .inl (ca 5, n, .inr (.inr (.inr (.inr f))))) :: r) ++ wc) H locs) (hv : ∃ vs : List Value, wc[0]? = some (v, .inr (8, vs))) (hin : vp_in i n) (hdg : decode cc pc = .ok (.aastore, 1)) (kk : ∀ (H1 : Heap) (locs1 : List Loc), xs_J D A s ((x0 :: x1 :: (a, .inl (ca 5, n, .inr (.inr (.inr (.inr (va_up f i.toNatClampNeg (some v))))))) :: r) ++ wc) H1 locs1 → W p l e R s m args below meth c H1 locs1 cells slots Q (F0 m (pc + 1) ls rest)) : W p l e R s m args below meth c H locs cells slots Q (F0 m pc ls (.ref v :: .int i :: .ref a :: rest)) := by
  obtain ⟨vs, hv⟩ := hv
  exact va_astq (r := (R_K, T_K, 16)) hx hb hKK.1 hJ.1 hJ.2.1 hJ.2.2 2 5 ((x0 :: x1 :: (a, .inl (ca 5, n, .inr (.inr (.inr (.inr f))))) :: r).length + 0) 8 rfl rfl (xk_at2 hv) rfl hin hdg (fun H1 locs1 h1 h2 h3 => kk H1 locs1 ⟨h1, h2, h3⟩)
theorem xk_ast1_M (hx : p.tables.exec = Jvm.exec) (hb : c.code = cc) {x0 : Nat × va_E} {wc : va_W} {n v : Nat} {f : Nat → Option Nat} {i : Int32} (hKK : xs_KK D ca s) (hJ : xs_J D A s ((x0 :: (a, .inl (ca 6, n, .inr (.inr (.inr (.inr f))))) :: r) ++ wc) H locs) (hv : ∃ vs : List Value, wc[0]? = some (v, .inr (4, vs))) (hin : vp_in i n) (hdg : decode cc pc = .ok (.aastore, 1)) (kk : ∀ (H1 : Heap) (locs1 : List Loc), xs_J D A s ((x0 :: (a, .inl (ca 6, n, .inr (.inr (.inr (.inr (va_up f i.toNatClampNeg (some v))))))) :: r) ++ wc) H1 locs1 → W p l e R s m args below meth c H1 locs1 cells slots Q (F0 m (pc + 1) ls rest)) : W p l e R s m args below meth c H locs cells slots Q (F0 m pc ls (.ref v :: .int i :: .ref a :: rest)) := by
  obtain ⟨vs, hv⟩ := hv
  exact va_astq (r := (R_M, T_M, 4)) hx hb hKK.1 hJ.1 hJ.2.1 hJ.2.2 1 6 ((x0 :: (a, .inl (ca 6, n, .inr (.inr (.inr (.inr f))))) :: r).length + 0) 4 rfl rfl (xk_at2 hv) rfl hin hdg (fun H1 locs1 h1 h2 h3 => kk H1 locs1 ⟨h1, h2, h3⟩)
theorem xk_ast2_M (hx : p.tables.exec = Jvm.exec) (hb : c.code = cc) {x0 x1 : Nat × va_E} {wc : va_W} {n v : Nat} {f : Nat → Option Nat} {i : Int32} (hKK : xs_KK D ca s) (hJ : xs_J D A s ((x0 :: x1 :: (a, .inl (ca 6, n, .inr (.inr (.inr (.inr f))))) :: r) ++ wc) H locs) (hv : ∃ vs : List Value, wc[0]? = some (v, .inr (4, vs))) (hin : vp_in i n) (hdg : decode cc pc = .ok (.aastore, 1)) (kk : ∀ (H1 : Heap) (locs1 : List Loc), xs_J D A s ((x0 :: x1 :: (a, .inl (ca 6, n, .inr (.inr (.inr (.inr (va_up f i.toNatClampNeg (some v))))))) :: r) ++ wc) H1 locs1 → W p l e R s m args below meth c H1 locs1 cells slots Q (F0 m (pc + 1) ls rest)) : W p l e R s m args below meth c H locs cells slots Q (F0 m pc ls (.ref v :: .int i :: .ref a :: rest)) := by
  obtain ⟨vs, hv⟩ := hv
  exact va_astq (r := (R_M, T_M, 4)) hx hb hKK.1 hJ.1 hJ.2.1 hJ.2.2 2 6 ((x0 :: x1 :: (a, .inl (ca 6, n, .inr (.inr (.inr (.inr f))))) :: r).length + 0) 4 rfl rfl (xk_at2 hv) rfl hin hdg (fun H1 locs1 h1 h2 h3 => kk H1 locs1 ⟨h1, h2, h3⟩)
theorem xk_ald_M (hx : p.tables.exec = Jvm.exec) (hb : c.code = cc) {x0 : Nat × va_E} {n v : Nat} {f : Nat → Option Nat} {i : Int32} (hKK : xs_KK D ca s) (hJ : xs_J D A s (x0 :: (a, .inl (ca 6, n, .inr (.inr (.inr (.inr f))))) :: r) H locs) (hv : f i.toNatClampNeg = some v) (hin : vp_in i n) (hdg : decode cc pc = .ok (.aaload, 1)) (kk : W p l e R s m args below meth c H locs cells slots Q (F0 m (pc + 1) ls (.ref v :: rest))) : W p l e R s m args below meth c H locs cells slots Q (F0 m pc ls (.int i :: .ref a :: rest)) := by
  refine va_aldq hx hb hKK.1 hJ.1 1 6 rfl rfl hin hdg ?_
  rw [hv]
  exact kk
theorem xk_ist (hx : p.tables.exec = Jvm.exec) (hb : c.code = cc) {pre : va_W} {n : Nat} {f : Nat → Int32} {i v : Int32} (hKK : xs_KK D ca s) (hJ : xs_J D A s (pre ++ [(a, .inl (ca 0, n, .inl f))]) H locs) (hin : vp_in i n) (hdg : decode cc pc = .ok (.iastore, 1)) (kk : ∀ (H1 : Heap) (locs1 : List Loc), xs_J D A s (pre ++ [(a, .inl (ca 0, n, .inl (upd f i.toNatClampNeg v)))]) H1 locs1 → W p l e R s m args below meth c H1 locs1 cells slots Q (F0 m (pc + 1) ls rest)) : W p l e R s m args below meth c H locs cells slots Q (F0 m pc ls (.int v :: .int i :: .ref a :: rest)) := by
  have e0 : (pre ++ [(a, (.inl (ca 0, n, .inl f) : va_E))])[pre.length + 0]? = some (a, .inl (ca 0, n, .inl f)) := xk_at2 rfl
  have e1 : (pre ++ [(a, (.inl (ca 0, n, .inl f) : va_E))]).set (pre.length + 0) (a, .inl (ca 0, n, .inl (upd f i.toNatClampNeg v))) = pre ++ [(a, .inl (ca 0, n, .inl (upd f i.toNatClampNeg v)))] := by simp
  refine va_iast hx hb hKK.1 hJ.1 hJ.2.1 hJ.2.2 (pre.length + 0) 0 e0 rfl hin hdg (fun H1 locs1 h1 h2 h3 => ?_)
  rw [e1] at h1 h2
  exact kk H1 locs1 ⟨h1, h2, h3⟩
theorem xk_callT {ad : Nat → Nat} {ks : List Nat} {S T : xs_T} {st0 : List Value} {av : Array Value} (hA : ∀ q, s.heap.size ≤ q → A q) (hJ : xs_J D A s (ws ++ xs_w ad ca ks S) H locs) (hr : va_Run p l e R s m args below meth c H locs cells slots 0 0 (F0 m pc ls st0) rest (va_Qv (fun _ : Unit => True) (fun _ t => va_P D xs_cl (xs_w ad ca ks T) t.heap) (xs_A ad ks H.size) av) (xs_A ad ks H.size)) (kk : ∀ (H1 : Heap) (locs1 : List Loc), xs_J D A s (ws ++ xs_w ad ca ks T) H1 locs1 → W p l e R s m args below meth c H1 locs1 cells slots Q (F0 m (pc + 3) ls rest)) : W p l e R s m args below meth c H locs cells slots Q (F0 m pc ls st0) := by
  have hAA : ∀ q, xs_A ad ks H.size q → va_A (xs_w ad ca ks S) H.size q := by
    intro q h
    rcases h with ⟨k, hk, rfl⟩ | h
    · obtain ⟨i, hi⟩ := xs_mem hk
      exact Or.inl ⟨i, _, xs_w_at hi⟩
    · exact Or.inr h
  have hF : ∀ q, va_A (xs_w ad ca ks S) H.size q → A q := by
    intro q h
    rcases h with ⟨k2, e, h⟩ | h
    · exact hJ.2.1.2 _ _ (xk_at2 h)
    · exact hA q (Nat.le_trans hJ.2.2.1 h)
  refine va_callv hr hJ.2.2 (fun q _ h => hF q (hAA q h)) (fun q h => hF q (hAA q h)) (fun _ t H1 locs1 ht _ _ hB _ hk hS => ?_)
  subst ht
  exact kk _ locs1 (xk_join hA hJ (fun q h1 h2 => hk q h1 (fun h => h2 (hAA q h))) hB (xs_D (xk_Dr hJ.2.1).self) hS)
end XP
theorem kd60 : ∀ k, k < 237 → xs_kd k = 60 → k = 171 ∨ k = 172 := by decide +kernel
theorem z_cg {ad ad2 : Nat → Nat} {A : Nat → Prop} {U : State} {H : Heap} (h1 : ad2 171 = ad 171) (h2 : ad2 172 = ad 172) (h : xs_Z ad A U H) : xs_Z ad2 A U H := by
  refine ⟨by rw [h1]; exact h.1, by rw [h2]; exact h.2.1, fun k hk => ?_⟩
  rcases kd60 k (xs_kd_lt k (by rw [hk]; decide)) hk with rfl | rfl
  · rw [h1]
    exact h.2.2 171 hk
  · rw [h2]
    exact h.2.2 172 hk
def xs_PreZ (D : va_G) (ca : Nat → ClassId) (wc : va_W) (ad0 : Nat → Nat) (sz : Nat) (U : State) : Prop := xs_PreC D ca wc sz U ∧ xs_Z ad0 (va_A wc sz) U U.heap
theorem xz_blind {D : va_G} {ca : Nat → ClassId} {wc : va_W} {ad0 : Nat → Nat} {sz : Nat} {av : List Value} : FrameBlind (va_Pc av (xs_PreZ D ca wc ad0 sz)) := by
  intro a U g mk h
  obtain ⟨q0, hc, z1, z2, z3⟩ := h
  have hc2 : va_Pc av (xs_PreC D ca wc sz) a (U.calling g mk a) := xk_blind a U g mk ⟨q0, hc⟩
  refine ⟨hc2.1, hc2.2, z1.moved (U := U.calling g mk a) (Vm.Alike.refl U.vm), z2.moved (U := U.calling g mk a) (Vm.Alike.refl U.vm), fun k hk => (z3 k hk).moved (U := U.calling g mk a) (Vm.Alike.refl U.vm)⟩
theorem xz_pre {D : va_G} {A : Nat → Prop} {ca : Nat → ClassId} {s : State} {ws wc : va_W} {ad0 : Nat → Nat} {H : Heap} {locs : List Loc} (hKK : xs_KK D ca s) (hA : ∀ q, s.heap.size ≤ q → A q) (hZ : xs_Z ad0 A s s.heap) (hJ : xs_J D A s (ws ++ wc) H locs) {U : State} (hU : U.heap = H) (hW : s.WarmedH U.vm) : xs_PreZ D ca wc ad0 H.size U := by
  refine ⟨xk_pre hKK hJ hU hW, ?_⟩
  subst hU
  have hF : ∀ q, va_A wc U.heap.size q → A q := by
    intro q h
    rcases h with ⟨k2, e, h⟩ | h
    · exact hJ.2.1.2 _ _ (xk_at2 h)
    · exact hA q (Nat.le_trans hJ.2.2.1 h)
  have keep : ∀ q : Nat, q < s.heap.size → ¬ A q → U.heap[q]? = s.heap[q]? := hJ.2.2.2.1
  obtain ⟨z1, z2, z3⟩ := hZ
  refine ⟨((z1.kept keep).moved hW.alike).narrow hF, ((z2.kept keep).moved hW.alike).narrow hF, fun k hk => (((z3 k hk).kept keep).moved hW.alike).narrow hF⟩
theorem xn_vz {l : Launch} {y : MethodName} {cc : ByteArray} {maxL F L MC MS : Nat} {D : va_G} {ca : Nat → ClassId} {w0 : va_W} {ad0 : Nat → Nat} {V : Type} {X : V → va_W} {po : V → Prop} {sz : Nat} {av : List Value} (hy : plainName y.cls = true) (hlen : (lg_sl av).length ≤ maxL)
    (body : ∀ (p : Program) (e : Env) (s : State) (m : MethodId) (args : Array Value) (below : List Frame) (meth : Method) (c : Code) (R : Room) (A : Nat → Prop) (Q : State → Prop) (ls : Array Slot), p.tables.exec = Jvm.exec → c.code = cc → c.maxLocals = maxL → s.vm.findClass y.cls = some m.cls → (∀ w ∈ xs_U, w.before args s = true) → F ≤ R.frames → L ≤ R.locals → MC ≤ R.cells → MS ≤ R.slots → meth.name = y.name → xs_KK D ca s → (∀ q, s.heap.size ≤ q → A q) → xs_Z ad0 A s s.heap → xs_J D A s w0 s.heap [] → lv_has ls maxL (lv_args 0 av) → (∀ {H : Heap} {locs : List Loc} {ls : Array Slot} {pc : Nat} {u : V}, po u → xs_J D A s (X u) H locs → decode cc pc = .ok (.return_, 1) → W p l e R s m args below meth c H locs MC MS Q (F0 m pc ls [])) → W p l e R s m args below meth c s.heap [] 0 0 Q (F0 m 0 ls [])) :
    Met l y (Cond.code y cc maxL none :: xs_U) { frames := F, cells := MC, slots := MS, locals := L } (va_Pc av (xs_PreZ D ca w0 ad0 sz)) (va_Qv po (fun u t => va_P D xs_cl (X u) t.heap ∧ va_D (va_A w0 sz) (X u)) (va_A w0 sz)) MC MS (va_A w0 sz) := by
  refine Met.ofW (cc := cc) (maxL := maxL) (ret := none) hy rfl ?_
  intro p e s m args below meth c s₁ B hml hv
  obtain ⟨rfl, ⟨hsz, hP, hD0, hKK⟩, hZ⟩ := hv
  subst hsz
  have hts := atoms_spec (ws := Cond.code y cc maxL none :: xs_U) B.pre
  have hown : s.vm.findClass y.cls = some m.cls := findClass_of_methodNamed B.named
  have hD := hD0.self (sz := s.heap.size)
  have hl := lv_entry av (n := maxL) hlen
  rw [lg_entry_eq]
  generalize (lg_sl av ++ List.replicate (maxL - (lg_sl av).length) Slot.unset).toArray = ls at hl ⊢
  refine body p e s m _ below meth c _ (va_A w0 s.heap.size) _ ls B.exec B.bytes hml hown (fun w h => hts w (List.mem_cons_of_mem _ h)) (Nat.le_refl _) (Nat.le_refl _) (Nat.le_refl _) (Nat.le_refl _) (name_of_methodNamed B.named B.method).1 hKK (fun q h => Or.inr h) hZ ⟨hP, hD, va_S.rf⟩ hl ?_
  intro H locs ls pc u hpo hJ hd
  exact W.vret B.exec B.bytes B.returns (fun t ht hW => ⟨⟨u, rfl, hpo, by show va_P D xs_cl _ t.heap; rw [ht]; exact hJ.1, hJ.2.1⟩, hJ.2.2.F ht⟩) hJ.2.2.2.2 hd B.notSynchronized
