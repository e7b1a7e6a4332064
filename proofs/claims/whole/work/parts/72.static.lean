/-! the static tables at the start -/
theorem law_T171 : ((flatC (Jvm.Cond.and given_1 narrow_1)).drop 7).take 256 = (List.range 256).map fun j => Cond.eq (.elem (Term.static "WideNet$Cipher" "SUBSTITUTES" "[I") (.int (Int32.ofNat j))) (.int (xs_tb 171 j)) := by decide +kernel
theorem law_U171 {args : Array Value} {s : State} {A : Nat → Prop} (hgv : (Jvm.Cond.and given_1 narrow_1).before args s = true) (hA : ∀ a : Nat, a < s.heap.size → ¬ A a) : ∃ t : Nat, (Term.static "WideNet$Cipher" "SUBSTITUTES" "[I").eval args s none [] s = some (.ref t) ∧ va_T .int t 256 (fun j => .int (xs_tb 171 j)) A s s.heap := by
  have hs := flat_of_before _ hgv
  have e1 : ∀ j : Nat, j < 256 → (Term.elem (Term.static "WideNet$Cipher" "SUBSTITUTES" "[I") (.int (Int32.ofNat j))).eval args s none [] s = some (.int (xs_tb 171 j)) := fun j hj => va_eqt (hs _ (List.mem_of_mem_drop (List.mem_of_mem_take (by rw [law_T171]; exact List.mem_map.mpr ⟨j, List.mem_range.mpr hj, rfl⟩))))
  have e2 : (Cond.arrayOf (Term.static "WideNet$Cipher" "SUBSTITUTES" "[I") .int).before args s = true := hs _ (by decide +kernel)
  have e3 : (Cond.eq (.length (Term.static "WideNet$Cipher" "SUBSTITUTES" "[I")) (.int (Int32.ofNat 256))).before args s = true := hs _ (by decide +kernel)
  exact va_Tof (tm := (Term.static "WideNet$Cipher" "SUBSTITUTES" "[I")) (ty := .int) (N := 256) (f := fun j => .int (xs_tb 171 j)) (by decide) e2 (va_eqt e3) e1 hA
theorem law_T172 : ((flatC (Jvm.Cond.and given_1 narrow_1)).drop 266).take 256 = (List.range 256).map fun j => Cond.eq (.elem (Term.static "WideNet$Cipher" "ORIGINALS" "[I") (.int (Int32.ofNat j))) (.int (xs_tb 172 j)) := by decide +kernel
theorem law_U172 {args : Array Value} {s : State} {A : Nat → Prop} (hgv : (Jvm.Cond.and given_1 narrow_1).before args s = true) (hA : ∀ a : Nat, a < s.heap.size → ¬ A a) : ∃ t : Nat, (Term.static "WideNet$Cipher" "ORIGINALS" "[I").eval args s none [] s = some (.ref t) ∧ va_T .int t 256 (fun j => .int (xs_tb 172 j)) A s s.heap := by
  have hs := flat_of_before _ hgv
  have e1 : ∀ j : Nat, j < 256 → (Term.elem (Term.static "WideNet$Cipher" "ORIGINALS" "[I") (.int (Int32.ofNat j))).eval args s none [] s = some (.int (xs_tb 172 j)) := fun j hj => va_eqt (hs _ (List.mem_of_mem_drop (List.mem_of_mem_take (by rw [law_T172]; exact List.mem_map.mpr ⟨j, List.mem_range.mpr hj, rfl⟩))))
  have e2 : (Cond.arrayOf (Term.static "WideNet$Cipher" "ORIGINALS" "[I") .int).before args s = true := hs _ (by decide +kernel)
  have e3 : (Cond.eq (.length (Term.static "WideNet$Cipher" "ORIGINALS" "[I")) (.int (Int32.ofNat 256))).before args s = true := hs _ (by decide +kernel)
  exact va_Tof (tm := (Term.static "WideNet$Cipher" "ORIGINALS" "[I")) (ty := .int) (N := 256) (f := fun j => .int (xs_tb 172 j)) (by decide) e2 (va_eqt e3) e1 hA
theorem law_Z {args : Array Value} {s : State} {A : Nat → Prop} (htl : ∀ w ∈ lw_tbl, w.before args s = true) (hts : ∀ w ∈ xs_U, w.before args s = true) (hgv : (Jvm.Cond.and given_1 narrow_1).before args s = true) (hA : ∀ a : Nat, a < s.heap.size → ¬ A a) : ∃ ad0 : Nat → Nat, xs_Z ad0 A s s.heap := by
  obtain ⟨t1, h1, T1⟩ := law_U171 hgv hA
  obtain ⟨t2, h2, T2⟩ := law_U172 hgv hA
  refine ⟨fun i => if i = 171 then t1 else t2, va_Zof (htl _ hn_119) (hts _ hw_5) h1 hA, va_Zof (htl _ hn_486) (hts _ hw_5) h2 hA, fun k hk => ?_⟩
  rcases kd60 k (xs_kd_lt k (by rw [hk]; decide)) hk with rfl | rfl
  · exact T1
  · exact T2
