section XR
variable {p : Program} {l : Launch} {e : Env} {R : Room} {s : State} {m : MethodId} {args : Array Value} {below : List Frame} {meth : Method} {c : Code} {H : Heap} {locs : List Loc} {Q : State → Prop}
variable {cc : ByteArray} {pc : Nat} {ls : Array Slot} {rest : List Value} {D : va_G} {ad : Nat → Nat} {ca : Nat → ClassId} {ks : List Nat} {A : Nat → Prop} {S : xs_T} {T : xs_T}
theorem lv_namI {x v : Int32} (g : some x = some v) (k : W p l e R s m args below meth c H locs 0 0 Q (F0 m pc ls (.int v :: rest))) : W p l e R s m args below meth c H locs 0 0 Q (F0 m pc ls (.int x :: rest)) := by cases g; exact k
theorem lv_namL {x v : Int64} (g : some x = some v) (k : W p l e R s m args below meth c H locs 0 0 Q (F0 m pc ls (.long v :: rest))) : W p l e R s m args below meth c H locs 0 0 Q (F0 m pc ls (.long x :: rest)) := by cases g; exact k
theorem lv_asI {x v : Int32} (g : x = v) (k : W p l e R s m args below meth c H locs 0 0 Q (F0 m pc ls (.int v :: rest))) : W p l e R s m args below meth c H locs 0 0 Q (F0 m pc ls (.int x :: rest)) := by cases g; exact k
theorem lv_namR {x u d : Nat} (g : xs_ckU x d = some u) (k : W p l e R s m args below meth c H locs 0 0 Q (F0 m pc ls (.ref (ad u) :: rest))) : W p l e R s m args below meth c H locs 0 0 Q (F0 m pc ls (.ref (ad x) :: rest)) := by cases xs_ckU_eq g; exact k
theorem xr_iald (hx : p.tables.exec = Jvm.exec) (hb : c.code = cc) (hK : xs_K D ad ca ks A s) (hw : xs_I D ad ca ks A s S H locs) {k : Nat} (hk : xs_is ks k 50) {i : Int32} {v : Int32} (g : xs_rd S k i = some v) (hdg : decode cc pc = .ok (.iaload, 1)) (kk : W p l e R s m args below meth c H locs 0 0 Q (F0 m (pc + 1) ls (.int v :: rest))) : W p l e R s m args below meth c H locs 0 0 Q (F0 m pc ls (.int i :: .ref (ad k) :: rest)) := by
  obtain ⟨q, hq⟩ := xs_mem hk.1
  obtain ⟨hin, e⟩ := xs_in_of g
  cases e
  exact va_iald hx hb hK.2.1 hw.1 q 0 (by rw [xs_w_at hq, xs_cell_50 hk.2]) rfl hin hdg kk
theorem xr_zald (hx : p.tables.exec = Jvm.exec) (hb : c.code = cc) (hK : xs_K D ad ca ks A s) (hw : xs_I D ad ca ks A s S H locs) {k : Nat} (hk : xs_is ks k 51) {i : Int32} {v : Int32} (g : xs_rd S k i = some v) (hdg : decode cc pc = .ok (.baload, 1)) (kk : W p l e R s m args below meth c H locs 0 0 Q (F0 m (pc + 1) ls (.int v :: rest))) : W p l e R s m args below meth c H locs 0 0 Q (F0 m pc ls (.int i :: .ref (ad k) :: rest)) := by
  obtain ⟨q, hq⟩ := xs_mem hk.1
  obtain ⟨hin, e⟩ := xs_in_of g
  cases e
  exact va_zald hx hb hK.2.1 hw.1 q 1 (by rw [xs_w_at hq, xs_cell_51 hk.2]) rfl hin hdg kk
theorem xr_lald (hx : p.tables.exec = Jvm.exec) (hb : c.code = cc) (hK : xs_K D ad ca ks A s) (hw : xs_I D ad ca ks A s S H locs) {k : Nat} (hk : xs_is ks k 52) {i : Int32} {v : Int64} (g : xs_rdL S k i = some v) (hdg : decode cc pc = .ok (.laload, 1)) (kk : W p l e R s m args below meth c H locs 0 0 Q (F0 m (pc + 1) ls (.long v :: rest))) : W p l e R s m args below meth c H locs 0 0 Q (F0 m pc ls (.int i :: .ref (ad k) :: rest)) := by
  obtain ⟨q, hq⟩ := xs_mem hk.1
  obtain ⟨hin, e⟩ := xs_in_of g
  cases e
  exact va_lald hx hb hK.2.1 hw.1 q 2 (by rw [xs_w_at hq, xs_cell_52 hk.2]) rfl hin hdg kk
theorem xr_tald (hx : p.tables.exec = Jvm.exec) (hb : c.code = cc) (hK : xs_K D ad ca ks A s) (hw : xs_I D ad ca ks A s S H locs) {k : Nat} (hk : xs_kd k = 60) {i v : Int32} (g : xs_rdT k i = some v) (hdg : decode cc pc = .ok (.iaload, 1)) (kk : W p l e R s m args below meth c H locs 0 0 Q (F0 m (pc + 1) ls (.int v :: rest))) : W p l e R s m args below meth c H locs 0 0 Q (F0 m pc ls (.int i :: .ref (ad k) :: rest)) := by
  obtain ⟨hin, e⟩ := xs_in_of g
  cases e
  exact va_ti hx hb (hK.2.2.2.2.2.2 k hk) hw.2.2 hin rfl hdg kk
theorem xr_aald_F (hx : p.tables.exec = Jvm.exec) (hb : c.code = cc) (hK : xs_K D ad ca ks A s) (hw : xs_I D ad ca ks A s S H locs) {k : Nat} (hk : xs_is ks k 53) {i : Int32} {u d : Nat} (g : xs_rdU S k i d = some u) (hdg : decode cc pc = .ok (.aaload, 1)) (kk : W p l e R s m args below meth c H locs 0 0 Q (F0 m (pc + 1) ls (.ref (ad u) :: rest))) : W p l e R s m args below meth c H locs 0 0 Q (F0 m pc ls (.int i :: .ref (ad k) :: rest)) := by
  obtain ⟨q, hq⟩ := xs_mem hk.1
  obtain ⟨hin, e⟩ := xs_in_of g
  cases xs_ckU_eq e
  exact va_aldq hx hb hK.2.1 hw.1 q 3 (f := fun j => some (ad (S.2.2 k j))) (by rw [xs_w_at hq, xs_cell_53 hk.2]) rfl hin hdg kk
theorem xr_aald_D (hx : p.tables.exec = Jvm.exec) (hb : c.code = cc) (hK : xs_K D ad ca ks A s) (hw : xs_I D ad ca ks A s S H locs) {k : Nat} (hk : xs_is ks k 54) {i : Int32} {u d : Nat} (g : xs_rdU S k i d = some u) (hdg : decode cc pc = .ok (.aaload, 1)) (kk : W p l e R s m args below meth c H locs 0 0 Q (F0 m (pc + 1) ls (.ref (ad u) :: rest))) : W p l e R s m args below meth c H locs 0 0 Q (F0 m pc ls (.int i :: .ref (ad k) :: rest)) := by
  obtain ⟨q, hq⟩ := xs_mem hk.1
  obtain ⟨hin, e⟩ := xs_in_of g
  cases xs_ckU_eq e
  exact va_aldq hx hb hK.2.1 hw.1 q 4 (f := fun j => some (ad (S.2.2 k j))) (by rw [xs_w_at hq, xs_cell_54 hk.2]) rfl hin hdg kk
theorem xr_aald_K (hx : p.tables.exec = Jvm.exec) (hb : c.code = cc) (hK : xs_K D ad ca ks A s) (hw : xs_I D ad ca ks A s S H locs) {k : Nat} (hk : xs_is ks k 55) {i : Int32} {u d : Nat} (g : xs_rdU S k i d = some u) (hdg : decode cc pc = .ok (.aaload, 1)) (kk : W p l e R s m args below meth c H locs 0 0 Q (F0 m (pc + 1) ls (.ref (ad u) :: rest))) : W p l e R s m args below meth c H locs 0 0 Q (F0 m pc ls (.int i :: .ref (ad k) :: rest)) := by
  obtain ⟨q, hq⟩ := xs_mem hk.1
  obtain ⟨hin, e⟩ := xs_in_of g
  cases xs_ckU_eq e
  exact va_aldq hx hb hK.2.1 hw.1 q 5 (f := fun j => some (ad (S.2.2 k j))) (by rw [xs_w_at hq, xs_cell_55 hk.2]) rfl hin hdg kk
theorem xr_iast (hx : p.tables.exec = Jvm.exec) (hb : c.code = cc) (hK : xs_K D ad ca ks A s) (hw : xs_I D ad ca ks A s S H locs) {k : Nat} (hk : xs_is ks k 50) {i : Int32} {v : Int32} (g : xs_wr S k i v = some T) (hdg : decode cc pc = .ok (.iastore, 1)) (kk : ∀ (H1 : Heap) (locs1 : List Loc), xs_I D ad ca ks A s T H1 locs1 → W p l e R s m args below meth c H1 locs1 0 0 Q (F0 m (pc + 1) ls rest)) : W p l e R s m args below meth c H locs 0 0 Q (F0 m pc ls (.int v :: .int i :: .ref (ad k) :: rest)) := by
  obtain ⟨q, hq⟩ := xs_mem hk.1
  obtain ⟨hin, e⟩ := xs_in_of g
  cases e
  refine va_iast hx hb hK.2.1 hw.1 hw.2.1 hw.2.2 q 0 (by rw [xs_w_at hq, xs_cell_50 hk.2]) rfl hin hdg (fun H1 locs1 h1 h2 h3 => ?_)
  rw [xs_w_set (T := xs_sI S k i.toNatClampNeg v) hK.1.1 hq (by rw [xs_cell_50 hk.2]; simp only [xs_sI, xs_sL, xs_up_eq]) xs_sI_off] at h1 h2
  exact kk H1 locs1 ⟨h1, h2, h3⟩
theorem xr_last (hx : p.tables.exec = Jvm.exec) (hb : c.code = cc) (hK : xs_K D ad ca ks A s) (hw : xs_I D ad ca ks A s S H locs) {k : Nat} (hk : xs_is ks k 52) {i : Int32} {v : Int64} (g : xs_wrL S k i v = some T) (hdg : decode cc pc = .ok (.lastore, 1)) (kk : ∀ (H1 : Heap) (locs1 : List Loc), xs_I D ad ca ks A s T H1 locs1 → W p l e R s m args below meth c H1 locs1 0 0 Q (F0 m (pc + 1) ls rest)) : W p l e R s m args below meth c H locs 0 0 Q (F0 m pc ls (.long v :: .int i :: .ref (ad k) :: rest)) := by
  obtain ⟨q, hq⟩ := xs_mem hk.1
  obtain ⟨hin, e⟩ := xs_in_of g
  cases e
  refine va_last hx hb hK.2.1 hw.1 hw.2.1 hw.2.2 q 2 (by rw [xs_w_at hq, xs_cell_52 hk.2]) rfl hin hdg (fun H1 locs1 h1 h2 h3 => ?_)
  rw [xs_w_set (T := xs_sL S k i.toNatClampNeg v) hK.1.1 hq (by rw [xs_cell_52 hk.2]; simp only [xs_sI, xs_sL, xs_up_eq]) xs_sL_off] at h1 h2
  exact kk H1 locs1 ⟨h1, h2, h3⟩
theorem xr_zast (hx : p.tables.exec = Jvm.exec) (hb : c.code = cc) (hK : xs_K D ad ca ks A s) (hw : xs_I D ad ca ks A s S H locs) {k : Nat} (hk : xs_is ks k 51) {i v : Int32} (g : xs_wrZ S k i v = some T) (hdg : decode cc pc = .ok (.bastore, 1)) (kk : ∀ (H1 : Heap) (locs1 : List Loc), xs_I D ad ca ks A s T H1 locs1 → W p l e R s m args below meth c H1 locs1 0 0 Q (F0 m (pc + 1) ls rest)) : W p l e R s m args below meth c H locs 0 0 Q (F0 m pc ls (.int v :: .int i :: .ref (ad k) :: rest)) := by
  obtain ⟨q, hq⟩ := xs_mem hk.1
  obtain ⟨hin, e⟩ := xs_in_of g
  obtain ⟨hz, e⟩ := xs_z01 e
  cases e
  refine va_zast hx hb hK.2.1 hw.1 hw.2.1 hw.2.2 q 1 (by rw [xs_w_at hq, xs_cell_51 hk.2]) rfl hin hdg (fun H1 locs1 h1 h2 h3 => ?_)
  rw [(xs_narZ hz).2.2, xs_w_set (T := xs_sI S k i.toNatClampNeg v) hK.1.1 hq (by rw [xs_cell_51 hk.2]; simp only [xs_sI, xs_up_eq]) xs_sI_off] at h1 h2
  exact kk H1 locs1 ⟨h1, h2, h3⟩
theorem xr_aast_F (hx : p.tables.exec = Jvm.exec) (hb : c.code = cc) (hK : xs_K D ad ca ks A s) (hw : xs_I D ad ca ks A s S H locs) {k u : Nat} (hk : xs_is ks k 53) (hu : xs_is ks u 2) {i : Int32} (g : xs_wrU S k i u = some T) (hdg : decode cc pc = .ok (.aastore, 1)) (kk : ∀ (H1 : Heap) (locs1 : List Loc), xs_I D ad ca ks A s T H1 locs1 → W p l e R s m args below meth c H1 locs1 0 0 Q (F0 m (pc + 1) ls rest)) : W p l e R s m args below meth c H locs 0 0 Q (F0 m pc ls (.ref (ad u) :: .int i :: .ref (ad k) :: rest)) := by
  obtain ⟨q, hq⟩ := xs_mem hk.1
  obtain ⟨q2, hq2⟩ := xs_mem hu.1
  obtain ⟨hin, e⟩ := xs_in_of g
  cases e
  refine va_astq (r := (R_F, T_F, 3)) hx hb hK.2.1 hw.1 hw.2.1 hw.2.2 q 3 q2 2 (f := fun j => some (ad (S.2.2 k j))) (by rw [xs_w_at hq, xs_cell_53 hk.2]) rfl (by rw [xs_w_at hq2, xs_cell_F hu.2]) rfl hin hdg (fun H1 locs1 h1 h2 h3 => ?_)
  have e : (va_up (fun j => some (ad (S.2.2 k j))) i.toNatClampNeg (some (ad u)) : Nat → Option Nat) = fun j => some (ad (va_up (S.2.2 k) i.toNatClampNeg u j)) := by
    funext j
    unfold va_up
    by_cases hj : j = i.toNatClampNeg
    · rw [if_pos hj, if_pos hj]
    · rw [if_neg hj, if_neg hj]
  rw [e, xs_w_set (T := xs_sU S k i.toNatClampNeg u) hK.1.1 hq (by rw [xs_cell_53 hk.2]; simp only [xs_sU, xs_up_eq]) xs_sU_off] at h1 h2
  exact kk H1 locs1 ⟨h1, h2, h3⟩
theorem xr_alen_A (hx : p.tables.exec = Jvm.exec) (hb : c.code = cc) (hK : xs_K D ad ca ks A s) (hw : xs_I D ad ca ks A s S H locs) {k : Nat} (hk : xs_is ks k 50) (hdg : decode cc pc = .ok (.arraylength, 1)) (kk : W p l e R s m args below meth c H locs 0 0 Q (F0 m (pc + 1) ls (.int (nI (xs_ln k)) :: rest))) : W p l e R s m args below meth c H locs 0 0 Q (F0 m pc ls (.ref (ad k) :: rest)) := by
  obtain ⟨q, hq⟩ := xs_mem hk.1
  exact va_alen (v := nI (xs_ln k)) (x := (xs_ln k, .inl (S.1 k))) hx hb hK.2.1 hw.1 q 0 (by rw [xs_w_at hq, xs_cell_50 hk.2]) rfl rfl hdg kk
theorem xr_get_W (hx : p.tables.exec = Jvm.exec) (hb : c.code = cc) {own : String} {index : Nat} (hts : ∀ w ∈ xs_U, w.before args s = true) (hown : s.vm.findClass own = some m.cls) (hK : xs_K D ad ca ks A s) (hw : xs_I D ad ca ks A s S H locs) {k : Nat} (hk : xs_is ks k 0) (j : Nat) (hj : j < 4) (hlink : (Cond.fieldLink own index (T_W j).1 (T_W j).2.1 (T_W j).2.2.1).before args s = true) {v : Value} (hv : (xs_fs_W ad k (S.1 k))[j]? = some v) (hdg : decode cc pc = .ok (.getfield index, 3)) (kk : W p l e R s m args below meth c H locs 0 0 Q (F0 m (pc + 3) ls (v :: rest))) : W p l e R s m args below meth c H locs 0 0 Q (F0 m pc ls (.ref (ad k) :: rest)) := by
  obtain ⟨q, hq⟩ := xs_mem hk.1
  exact va_get (D := D) (ci := 0) (C := R_W) (T := T_W) (N := 4) hx hb hts in_W hown hK.2.1 hw.1 q (by rw [xs_w_at hq, xs_cell_W hk.2]) rfl j hj hlink (fun _ h9 => h9) hv hdg kk
theorem xr_putI_W (hx : p.tables.exec = Jvm.exec) (hb : c.code = cc) {own : String} {index : Nat} (hts : ∀ w ∈ xs_U, w.before args s = true) (hown : s.vm.findClass own = some m.cls) (hK : xs_K D ad ca ks A s) (hw : xs_I D ad ca ks A s S H locs) {k : Nat} (hk : xs_is ks k 0) (j : Nat) (hj : j < 4) (hlink : (Cond.fieldLink own index (T_W j).1 (T_W j).2.1 (T_W j).2.2.1).before args s = true) (hfin : (T_W j).2.2.2 = false) (hd : (T_W j).2.2.1 = "I") (hset : ∀ (v : Int32) (f : Nat → Int32), (xs_fs_W ad k f).set j (.int v) = xs_fs_W ad k (upd f j v)) {v : Int32} (g : some (xs_sI S k j v) = some T) (hdg : decode cc pc = .ok (.putfield index, 3)) (kk : ∀ (H1 : Heap) (locs1 : List Loc), xs_I D ad ca ks A s T H1 locs1 → W p l e R s m args below meth c H1 locs1 0 0 Q (F0 m (pc + 3) ls rest)) : W p l e R s m args below meth c H locs 0 0 Q (F0 m pc ls (.int v :: .ref (ad k) :: rest)) := by
  obtain ⟨q, hq⟩ := xs_mem hk.1
  cases g
  refine va_put (D := D) (ci := 0) (C := R_W) (T := T_W) (N := 4) (ty := .int) (v := .int v) (fs := xs_fs_W ad k (S.1 k)) hx hb hts in_W ty_W ok_W nm_W hown hK.2.1 hw.1 hw.2.1 hw.2.2 q (by rw [xs_w_at hq, xs_cell_W hk.2]) rfl j hj hlink (fun _ h9 => h9) hfin (by rw [hd]; decide +kernel) rfl rfl hj hdg (fun H1 locs1 h1 h2 h3 => ?_)
  rw [hset, xs_w_set (T := xs_sI S k j v) hK.1.1 hq (by rw [xs_cell_W hk.2]; simp only [xs_sI, xs_up_eq]) xs_sI_off] at h1 h2
  exact kk H1 locs1 ⟨h1, h2, h3⟩
theorem xr_getN_W (hx : p.tables.exec = Jvm.exec) (hb : c.code = cc) {own host : String} {index : Nat} (hts : ∀ w ∈ xs_U, w.before args s = true) (hown : s.vm.findClass own = some m.cls) (hK : xs_K D ad ca ks A s) (hw : xs_I D ad ca ks A s S H locs) {k : Nat} (hk : xs_is ks k 0) (j : Nat) (hj : j < 4) (hlink : (Cond.fieldLinkNest own index (T_W j).1 (T_W j).2.1 (T_W j).2.2.1 host).before args s = true) {v : Value} (hv : (xs_fs_W ad k (S.1 k))[j]? = some v) (hdg : decode cc pc = .ok (.getfield index, 3)) (kk : W p l e R s m args below meth c H locs 0 0 Q (F0 m (pc + 3) ls (v :: rest))) : W p l e R s m args below meth c H locs 0 0 Q (F0 m pc ls (.ref (ad k) :: rest)) := by
  obtain ⟨q, hq⟩ := xs_mem hk.1
  exact va_getN (D := D) (ci := 0) (C := R_W) (T := T_W) (N := 4) hx hb hts in_W hown hK.2.1 hw.1 q (by rw [xs_w_at hq, xs_cell_W hk.2]) rfl j hj hlink (fun _ h9 => h9) hv hdg kk
theorem xr_putIN_W (hx : p.tables.exec = Jvm.exec) (hb : c.code = cc) {own host : String} {index : Nat} (hts : ∀ w ∈ xs_U, w.before args s = true) (hown : s.vm.findClass own = some m.cls) (hK : xs_K D ad ca ks A s) (hw : xs_I D ad ca ks A s S H locs) {k : Nat} (hk : xs_is ks k 0) (j : Nat) (hj : j < 4) (hlink : (Cond.fieldLinkNest own index (T_W j).1 (T_W j).2.1 (T_W j).2.2.1 host).before args s = true) (hfin : (T_W j).2.2.2 = false) (hd : (T_W j).2.2.1 = "I") (hset : ∀ (v : Int32) (f : Nat → Int32), (xs_fs_W ad k f).set j (.int v) = xs_fs_W ad k (upd f j v)) {v : Int32} (g : some (xs_sI S k j v) = some T) (hdg : decode cc pc = .ok (.putfield index, 3)) (kk : ∀ (H1 : Heap) (locs1 : List Loc), xs_I D ad ca ks A s T H1 locs1 → W p l e R s m args below meth c H1 locs1 0 0 Q (F0 m (pc + 3) ls rest)) : W p l e R s m args below meth c H locs 0 0 Q (F0 m pc ls (.int v :: .ref (ad k) :: rest)) := by
  obtain ⟨q, hq⟩ := xs_mem hk.1
  cases g
  refine va_putN (D := D) (ci := 0) (C := R_W) (T := T_W) (N := 4) (ty := .int) (v := .int v) (fs := xs_fs_W ad k (S.1 k)) hx hb hts in_W ty_W ok_W nm_W hown hK.2.1 hw.1 hw.2.1 hw.2.2 q (by rw [xs_w_at hq, xs_cell_W hk.2]) rfl j hj hlink (fun _ h9 => h9) hfin (by rw [hd]; decide +kernel) rfl rfl hj hdg (fun H1 locs1 h1 h2 h3 => ?_)
  rw [hset, xs_w_set (T := xs_sI S k j v) hK.1.1 hq (by rw [xs_cell_W hk.2]; simp only [xs_sI, xs_up_eq]) xs_sI_off] at h1 h2
  exact kk H1 locs1 ⟨h1, h2, h3⟩
theorem xs_recv_W (hK : xs_K D ad ca ks A s) (hw : xs_I D ad ca ks A s S H locs) {k : Nat} (hk : xs_is ks k 0) : ∃ cell : Cell, H[ad k]? = some cell ∧ cell.vm.isStatics = false ∧ s.vm.findClass R_W = some cell.cls := by
  obtain ⟨q, hq⟩ := xs_mem hk.1
  exact va_recv (q := (R_W, T_W, 4)) (ci := 0) (q0 := q) hK.2.1 hw.1 rfl (by rw [xs_w_at hq, xs_cell_W hk.2])
theorem xr_get_A (hx : p.tables.exec = Jvm.exec) (hb : c.code = cc) {own : String} {index : Nat} (hts : ∀ w ∈ xs_U, w.before args s = true) (hown : s.vm.findClass own = some m.cls) (hK : xs_K D ad ca ks A s) (hw : xs_I D ad ca ks A s S H locs) {k : Nat} (hk : xs_is ks k 1) (j : Nat) (hj : j < 4) (hlink : (Cond.fieldLink own index (T_A j).1 (T_A j).2.1 (T_A j).2.2.1).before args s = true) {v : Value} (hv : (xs_fs_A ad k (S.1 k))[j]? = some v) (hdg : decode cc pc = .ok (.getfield index, 3)) (kk : W p l e R s m args below meth c H locs 0 0 Q (F0 m (pc + 3) ls (v :: rest))) : W p l e R s m args below meth c H locs 0 0 Q (F0 m pc ls (.ref (ad k) :: rest)) := by
  obtain ⟨q, hq⟩ := xs_mem hk.1
  exact va_get (D := D) (ci := 1) (C := R_A) (T := T_A) (N := 4) hx hb hts in_A hown hK.2.1 hw.1 q (by rw [xs_w_at hq, xs_cell_A hk.2]) rfl j hj hlink (fun _ h9 => h9) hv hdg kk
theorem xr_putI_A (hx : p.tables.exec = Jvm.exec) (hb : c.code = cc) {own : String} {index : Nat} (hts : ∀ w ∈ xs_U, w.before args s = true) (hown : s.vm.findClass own = some m.cls) (hK : xs_K D ad ca ks A s) (hw : xs_I D ad ca ks A s S H locs) {k : Nat} (hk : xs_is ks k 1) (j : Nat) (hj : j < 4) (hlink : (Cond.fieldLink own index (T_A j).1 (T_A j).2.1 (T_A j).2.2.1).before args s = true) (hfin : (T_A j).2.2.2 = false) (hd : (T_A j).2.2.1 = "I") (hset : ∀ (v : Int32) (f : Nat → Int32), (xs_fs_A ad k f).set j (.int v) = xs_fs_A ad k (upd f j v)) {v : Int32} (g : some (xs_sI S k j v) = some T) (hdg : decode cc pc = .ok (.putfield index, 3)) (kk : ∀ (H1 : Heap) (locs1 : List Loc), xs_I D ad ca ks A s T H1 locs1 → W p l e R s m args below meth c H1 locs1 0 0 Q (F0 m (pc + 3) ls rest)) : W p l e R s m args below meth c H locs 0 0 Q (F0 m pc ls (.int v :: .ref (ad k) :: rest)) := by
  obtain ⟨q, hq⟩ := xs_mem hk.1
  cases g
  refine va_put (D := D) (ci := 1) (C := R_A) (T := T_A) (N := 4) (ty := .int) (v := .int v) (fs := xs_fs_A ad k (S.1 k)) hx hb hts in_A ty_A ok_A nm_A hown hK.2.1 hw.1 hw.2.1 hw.2.2 q (by rw [xs_w_at hq, xs_cell_A hk.2]) rfl j hj hlink (fun _ h9 => h9) hfin (by rw [hd]; decide +kernel) rfl rfl hj hdg (fun H1 locs1 h1 h2 h3 => ?_)
  rw [hset, xs_w_set (T := xs_sI S k j v) hK.1.1 hq (by rw [xs_cell_A hk.2]; simp only [xs_sI, xs_up_eq]) xs_sI_off] at h1 h2
  exact kk H1 locs1 ⟨h1, h2, h3⟩
theorem xr_getN_A (hx : p.tables.exec = Jvm.exec) (hb : c.code = cc) {own host : String} {index : Nat} (hts : ∀ w ∈ xs_U, w.before args s = true) (hown : s.vm.findClass own = some m.cls) (hK : xs_K D ad ca ks A s) (hw : xs_I D ad ca ks A s S H locs) {k : Nat} (hk : xs_is ks k 1) (j : Nat) (hj : j < 4) (hlink : (Cond.fieldLinkNest own index (T_A j).1 (T_A j).2.1 (T_A j).2.2.1 host).before args s = true) {v : Value} (hv : (xs_fs_A ad k (S.1 k))[j]? = some v) (hdg : decode cc pc = .ok (.getfield index, 3)) (kk : W p l e R s m args below meth c H locs 0 0 Q (F0 m (pc + 3) ls (v :: rest))) : W p l e R s m args below meth c H locs 0 0 Q (F0 m pc ls (.ref (ad k) :: rest)) := by
  obtain ⟨q, hq⟩ := xs_mem hk.1
  exact va_getN (D := D) (ci := 1) (C := R_A) (T := T_A) (N := 4) hx hb hts in_A hown hK.2.1 hw.1 q (by rw [xs_w_at hq, xs_cell_A hk.2]) rfl j hj hlink (fun _ h9 => h9) hv hdg kk
theorem xr_putIN_A (hx : p.tables.exec = Jvm.exec) (hb : c.code = cc) {own host : String} {index : Nat} (hts : ∀ w ∈ xs_U, w.before args s = true) (hown : s.vm.findClass own = some m.cls) (hK : xs_K D ad ca ks A s) (hw : xs_I D ad ca ks A s S H locs) {k : Nat} (hk : xs_is ks k 1) (j : Nat) (hj : j < 4) (hlink : (Cond.fieldLinkNest own index (T_A j).1 (T_A j).2.1 (T_A j).2.2.1 host).before args s = true) (hfin : (T_A j).2.2.2 = false) (hd : (T_A j).2.2.1 = "I") (hset : ∀ (v : Int32) (f : Nat → Int32), (xs_fs_A ad k f).set j (.int v) = xs_fs_A ad k (upd f j v)) {v : Int32} (g : some (xs_sI S k j v) = some T) (hdg : decode cc pc = .ok (.putfield index, 3)) (kk : ∀ (H1 : Heap) (locs1 : List Loc), xs_I D ad ca ks A s T H1 locs1 → W p l e R s m args below meth c H1 locs1 0 0 Q (F0 m (pc + 3) ls rest)) : W p l e R s m args below meth c H locs 0 0 Q (F0 m pc ls (.int v :: .ref (ad k) :: rest)) := by
  obtain ⟨q, hq⟩ := xs_mem hk.1
  cases g
  refine va_putN (D := D) (ci := 1) (C := R_A) (T := T_A) (N := 4) (ty := .int) (v := .int v) (fs := xs_fs_A ad k (S.1 k)) hx hb hts in_A ty_A ok_A nm_A hown hK.2.1 hw.1 hw.2.1 hw.2.2 q (by rw [xs_w_at hq, xs_cell_A hk.2]) rfl j hj hlink (fun _ h9 => h9) hfin (by rw [hd]; decide +kernel) rfl rfl hj hdg (fun H1 locs1 h1 h2 h3 => ?_)
  rw [hset, xs_w_set (T := xs_sI S k j v) hK.1.1 hq (by rw [xs_cell_A hk.2]; simp only [xs_sI, xs_up_eq]) xs_sI_off] at h1 h2
  exact kk H1 locs1 ⟨h1, h2, h3⟩
theorem xs_recv_A (hK : xs_K D ad ca ks A s) (hw : xs_I D ad ca ks A s S H locs) {k : Nat} (hk : xs_is ks k 1) : ∃ cell : Cell, H[ad k]? = some cell ∧ cell.vm.isStatics = false ∧ s.vm.findClass R_A = some cell.cls := by
  obtain ⟨q, hq⟩ := xs_mem hk.1
  exact va_recv (q := (R_A, T_A, 4)) (ci := 1) (q0 := q) hK.2.1 hw.1 rfl (by rw [xs_w_at hq, xs_cell_A hk.2])
theorem xr_get_F (hx : p.tables.exec = Jvm.exec) (hb : c.code = cc) {own : String} {index : Nat} (hts : ∀ w ∈ xs_U, w.before args s = true) (hown : s.vm.findClass own = some m.cls) (hK : xs_K D ad ca ks A s) (hw : xs_I D ad ca ks A s S H locs) {k : Nat} (hk : xs_is ks k 2) (j : Nat) (hj : j < 3) (hlink : (Cond.fieldLink own index (T_F j).1 (T_F j).2.1 (T_F j).2.2.1).before args s = true) {v : Value} (hv : (xs_fs_F ad k (S.1 k))[j]? = some v) (hdg : decode cc pc = .ok (.getfield index, 3)) (kk : W p l e R s m args below meth c H locs 0 0 Q (F0 m (pc + 3) ls (v :: rest))) : W p l e R s m args below meth c H locs 0 0 Q (F0 m pc ls (.ref (ad k) :: rest)) := by
  obtain ⟨q, hq⟩ := xs_mem hk.1
  exact va_get (D := D) (ci := 2) (C := R_F) (T := T_F) (N := 3) hx hb hts in_F hown hK.2.1 hw.1 q (by rw [xs_w_at hq, xs_cell_F hk.2]) rfl j hj hlink (fun _ h9 => h9) hv hdg kk
theorem xr_putI_F (hx : p.tables.exec = Jvm.exec) (hb : c.code = cc) {own : String} {index : Nat} (hts : ∀ w ∈ xs_U, w.before args s = true) (hown : s.vm.findClass own = some m.cls) (hK : xs_K D ad ca ks A s) (hw : xs_I D ad ca ks A s S H locs) {k : Nat} (hk : xs_is ks k 2) (j : Nat) (hj : j < 3) (hlink : (Cond.fieldLink own index (T_F j).1 (T_F j).2.1 (T_F j).2.2.1).before args s = true) (hfin : (T_F j).2.2.2 = false) (hd : (T_F j).2.2.1 = "I") (hset : ∀ (v : Int32) (f : Nat → Int32), (xs_fs_F ad k f).set j (.int v) = xs_fs_F ad k (upd f j v)) {v : Int32} (g : some (xs_sI S k j v) = some T) (hdg : decode cc pc = .ok (.putfield index, 3)) (kk : ∀ (H1 : Heap) (locs1 : List Loc), xs_I D ad ca ks A s T H1 locs1 → W p l e R s m args below meth c H1 locs1 0 0 Q (F0 m (pc + 3) ls rest)) : W p l e R s m args below meth c H locs 0 0 Q (F0 m pc ls (.int v :: .ref (ad k) :: rest)) := by
  obtain ⟨q, hq⟩ := xs_mem hk.1
  cases g
  refine va_put (D := D) (ci := 2) (C := R_F) (T := T_F) (N := 3) (ty := .int) (v := .int v) (fs := xs_fs_F ad k (S.1 k)) hx hb hts in_F ty_F ok_F nm_F hown hK.2.1 hw.1 hw.2.1 hw.2.2 q (by rw [xs_w_at hq, xs_cell_F hk.2]) rfl j hj hlink (fun _ h9 => h9) hfin (by rw [hd]; decide +kernel) rfl rfl hj hdg (fun H1 locs1 h1 h2 h3 => ?_)
  rw [hset, xs_w_set (T := xs_sI S k j v) hK.1.1 hq (by rw [xs_cell_F hk.2]; simp only [xs_sI, xs_up_eq]) xs_sI_off] at h1 h2
  exact kk H1 locs1 ⟨h1, h2, h3⟩
theorem xr_getN_F (hx : p.tables.exec = Jvm.exec) (hb : c.code = cc) {own host : String} {index : Nat} (hts : ∀ w ∈ xs_U, w.before args s = true) (hown : s.vm.findClass own = some m.cls) (hK : xs_K D ad ca ks A s) (hw : xs_I D ad ca ks A s S H locs) {k : Nat} (hk : xs_is ks k 2) (j : Nat) (hj : j < 3) (hlink : (Cond.fieldLinkNest own index (T_F j).1 (T_F j).2.1 (T_F j).2.2.1 host).before args s = true) {v : Value} (hv : (xs_fs_F ad k (S.1 k))[j]? = some v) (hdg : decode cc pc = .ok (.getfield index, 3)) (kk : W p l e R s m args below meth c H locs 0 0 Q (F0 m (pc + 3) ls (v :: rest))) : W p l e R s m args below meth c H locs 0 0 Q (F0 m pc ls (.ref (ad k) :: rest)) := by
  obtain ⟨q, hq⟩ := xs_mem hk.1
  exact va_getN (D := D) (ci := 2) (C := R_F) (T := T_F) (N := 3) hx hb hts in_F hown hK.2.1 hw.1 q (by rw [xs_w_at hq, xs_cell_F hk.2]) rfl j hj hlink (fun _ h9 => h9) hv hdg kk
theorem xr_putIN_F (hx : p.tables.exec = Jvm.exec) (hb : c.code = cc) {own host : String} {index : Nat} (hts : ∀ w ∈ xs_U, w.before args s = true) (hown : s.vm.findClass own = some m.cls) (hK : xs_K D ad ca ks A s) (hw : xs_I D ad ca ks A s S H locs) {k : Nat} (hk : xs_is ks k 2) (j : Nat) (hj : j < 3) (hlink : (Cond.fieldLinkNest own index (T_F j).1 (T_F j).2.1 (T_F j).2.2.1 host).before args s = true) (hfin : (T_F j).2.2.2 = false) (hd : (T_F j).2.2.1 = "I") (hset : ∀ (v : Int32) (f : Nat → Int32), (xs_fs_F ad k f).set j (.int v) = xs_fs_F ad k (upd f j v)) {v : Int32} (g : some (xs_sI S k j v) = some T) (hdg : decode cc pc = .ok (.putfield index, 3)) (kk : ∀ (H1 : Heap) (locs1 : List Loc), xs_I D ad ca ks A s T H1 locs1 → W p l e R s m args below meth c H1 locs1 0 0 Q (F0 m (pc + 3) ls rest)) : W p l e R s m args below meth c H locs 0 0 Q (F0 m pc ls (.int v :: .ref (ad k) :: rest)) := by
  obtain ⟨q, hq⟩ := xs_mem hk.1
  cases g
  refine va_putN (D := D) (ci := 2) (C := R_F) (T := T_F) (N := 3) (ty := .int) (v := .int v) (fs := xs_fs_F ad k (S.1 k)) hx hb hts in_F ty_F ok_F nm_F hown hK.2.1 hw.1 hw.2.1 hw.2.2 q (by rw [xs_w_at hq, xs_cell_F hk.2]) rfl j hj hlink (fun _ h9 => h9) hfin (by rw [hd]; decide +kernel) rfl rfl hj hdg (fun H1 locs1 h1 h2 h3 => ?_)
  rw [hset, xs_w_set (T := xs_sI S k j v) hK.1.1 hq (by rw [xs_cell_F hk.2]; simp only [xs_sI, xs_up_eq]) xs_sI_off] at h1 h2
  exact kk H1 locs1 ⟨h1, h2, h3⟩
theorem xs_recv_F (hK : xs_K D ad ca ks A s) (hw : xs_I D ad ca ks A s S H locs) {k : Nat} (hk : xs_is ks k 2) : ∃ cell : Cell, H[ad k]? = some cell ∧ cell.vm.isStatics = false ∧ s.vm.findClass R_F = some cell.cls := by
  obtain ⟨q, hq⟩ := xs_mem hk.1
  exact va_recv (q := (R_F, T_F, 3)) (ci := 2) (q0 := q) hK.2.1 hw.1 rfl (by rw [xs_w_at hq, xs_cell_F hk.2])
theorem xr_get_C (hx : p.tables.exec = Jvm.exec) (hb : c.code = cc) {own : String} {index : Nat} (hts : ∀ w ∈ xs_U, w.before args s = true) (hown : s.vm.findClass own = some m.cls) (hK : xs_K D ad ca ks A s) (hw : xs_I D ad ca ks A s S H locs) {k : Nat} (hk : xs_is ks k 3) (j : Nat) (hj : j < 1) (hlink : (Cond.fieldLink own index (T_C j).1 (T_C j).2.1 (T_C j).2.2.1).before args s = true) {v : Value} (hv : (xs_fs_C ad k (S.1 k))[j]? = some v) (hdg : decode cc pc = .ok (.getfield index, 3)) (kk : W p l e R s m args below meth c H locs 0 0 Q (F0 m (pc + 3) ls (v :: rest))) : W p l e R s m args below meth c H locs 0 0 Q (F0 m pc ls (.ref (ad k) :: rest)) := by
  obtain ⟨q, hq⟩ := xs_mem hk.1
  exact va_get (D := D) (ci := 3) (C := R_C) (T := T_C) (N := 1) hx hb hts in_C hown hK.2.1 hw.1 q (by rw [xs_w_at hq, xs_cell_C hk.2]) rfl j hj hlink (fun _ h9 => h9) hv hdg kk
theorem xr_getN_C (hx : p.tables.exec = Jvm.exec) (hb : c.code = cc) {own host : String} {index : Nat} (hts : ∀ w ∈ xs_U, w.before args s = true) (hown : s.vm.findClass own = some m.cls) (hK : xs_K D ad ca ks A s) (hw : xs_I D ad ca ks A s S H locs) {k : Nat} (hk : xs_is ks k 3) (j : Nat) (hj : j < 1) (hlink : (Cond.fieldLinkNest own index (T_C j).1 (T_C j).2.1 (T_C j).2.2.1 host).before args s = true) {v : Value} (hv : (xs_fs_C ad k (S.1 k))[j]? = some v) (hdg : decode cc pc = .ok (.getfield index, 3)) (kk : W p l e R s m args below meth c H locs 0 0 Q (F0 m (pc + 3) ls (v :: rest))) : W p l e R s m args below meth c H locs 0 0 Q (F0 m pc ls (.ref (ad k) :: rest)) := by
  obtain ⟨q, hq⟩ := xs_mem hk.1
  exact va_getN (D := D) (ci := 3) (C := R_C) (T := T_C) (N := 1) hx hb hts in_C hown hK.2.1 hw.1 q (by rw [xs_w_at hq, xs_cell_C hk.2]) rfl j hj hlink (fun _ h9 => h9) hv hdg kk
theorem xs_recv_C (hK : xs_K D ad ca ks A s) (hw : xs_I D ad ca ks A s S H locs) {k : Nat} (hk : xs_is ks k 3) : ∃ cell : Cell, H[ad k]? = some cell ∧ cell.vm.isStatics = false ∧ s.vm.findClass R_C = some cell.cls := by
  obtain ⟨q, hq⟩ := xs_mem hk.1
  exact va_recv (q := (R_C, T_C, 1)) (ci := 3) (q0 := q) hK.2.1 hw.1 rfl (by rw [xs_w_at hq, xs_cell_C hk.2])
theorem xr_get_M (hx : p.tables.exec = Jvm.exec) (hb : c.code = cc) {own : String} {index : Nat} (hts : ∀ w ∈ xs_U, w.before args s = true) (hown : s.vm.findClass own = some m.cls) (hK : xs_K D ad ca ks A s) (hw : xs_I D ad ca ks A s S H locs) {k : Nat} (hk : xs_is ks k 4) (j : Nat) (hj : j < 4) (hlink : (Cond.fieldLink own index (T_M j).1 (T_M j).2.1 (T_M j).2.2.1).before args s = true) {v : Value} (hv : (xs_fs_M ad k (S.1 k))[j]? = some v) (hdg : decode cc pc = .ok (.getfield index, 3)) (kk : W p l e R s m args below meth c H locs 0 0 Q (F0 m (pc + 3) ls (v :: rest))) : W p l e R s m args below meth c H locs 0 0 Q (F0 m pc ls (.ref (ad k) :: rest)) := by
  obtain ⟨q, hq⟩ := xs_mem hk.1
  exact va_get (D := D) (ci := 4) (C := R_M) (T := T_M) (N := 4) hx hb hts in_M hown hK.2.1 hw.1 q (by rw [xs_w_at hq, xs_cell_M hk.2]) rfl j hj hlink (fun _ h9 => h9) hv hdg kk
theorem xr_getN_M (hx : p.tables.exec = Jvm.exec) (hb : c.code = cc) {own host : String} {index : Nat} (hts : ∀ w ∈ xs_U, w.before args s = true) (hown : s.vm.findClass own = some m.cls) (hK : xs_K D ad ca ks A s) (hw : xs_I D ad ca ks A s S H locs) {k : Nat} (hk : xs_is ks k 4) (j : Nat) (hj : j < 4) (hlink : (Cond.fieldLinkNest own index (T_M j).1 (T_M j).2.1 (T_M j).2.2.1 host).before args s = true) {v : Value} (hv : (xs_fs_M ad k (S.1 k))[j]? = some v) (hdg : decode cc pc = .ok (.getfield index, 3)) (kk : W p l e R s m args below meth c H locs 0 0 Q (F0 m (pc + 3) ls (v :: rest))) : W p l e R s m args below meth c H locs 0 0 Q (F0 m pc ls (.ref (ad k) :: rest)) := by
  obtain ⟨q, hq⟩ := xs_mem hk.1
  exact va_getN (D := D) (ci := 4) (C := R_M) (T := T_M) (N := 4) hx hb hts in_M hown hK.2.1 hw.1 q (by rw [xs_w_at hq, xs_cell_M hk.2]) rfl j hj hlink (fun _ h9 => h9) hv hdg kk
theorem xs_recv_M (hK : xs_K D ad ca ks A s) (hw : xs_I D ad ca ks A s S H locs) {k : Nat} (hk : xs_is ks k 4) : ∃ cell : Cell, H[ad k]? = some cell ∧ cell.vm.isStatics = false ∧ s.vm.findClass R_M = some cell.cls := by
  obtain ⟨q, hq⟩ := xs_mem hk.1
  exact va_recv (q := (R_M, T_M, 4)) (ci := 4) (q0 := q) hK.2.1 hw.1 rfl (by rw [xs_w_at hq, xs_cell_M hk.2])
theorem xr_get_S (hx : p.tables.exec = Jvm.exec) (hb : c.code = cc) {own : String} {index : Nat} (hts : ∀ w ∈ xs_U, w.before args s = true) (hown : s.vm.findClass own = some m.cls) (hK : xs_K D ad ca ks A s) (hw : xs_I D ad ca ks A s S H locs) {k : Nat} (hk : xs_is ks k 5) (j : Nat) (hj : j < 5) (hlink : (Cond.fieldLink own index (T_S j).1 (T_S j).2.1 (T_S j).2.2.1).before args s = true) {v : Value} (hv : (xs_fs_S ad k (S.1 k))[j]? = some v) (hdg : decode cc pc = .ok (.getfield index, 3)) (kk : W p l e R s m args below meth c H locs 0 0 Q (F0 m (pc + 3) ls (v :: rest))) : W p l e R s m args below meth c H locs 0 0 Q (F0 m pc ls (.ref (ad k) :: rest)) := by
  obtain ⟨q, hq⟩ := xs_mem hk.1
  exact va_get (D := D) (ci := 5) (C := R_S) (T := T_S) (N := 5) hx hb hts in_S hown hK.2.1 hw.1 q (by rw [xs_w_at hq, xs_cell_S hk.2]) rfl j hj hlink (fun _ h9 => h9) hv hdg kk
theorem xr_putI_S (hx : p.tables.exec = Jvm.exec) (hb : c.code = cc) {own : String} {index : Nat} (hts : ∀ w ∈ xs_U, w.before args s = true) (hown : s.vm.findClass own = some m.cls) (hK : xs_K D ad ca ks A s) (hw : xs_I D ad ca ks A s S H locs) {k : Nat} (hk : xs_is ks k 5) (j : Nat) (hj : j < 5) (hlink : (Cond.fieldLink own index (T_S j).1 (T_S j).2.1 (T_S j).2.2.1).before args s = true) (hfin : (T_S j).2.2.2 = false) (hd : (T_S j).2.2.1 = "I") (hset : ∀ (v : Int32) (f : Nat → Int32), (xs_fs_S ad k f).set j (.int v) = xs_fs_S ad k (upd f j v)) {v : Int32} (g : some (xs_sI S k j v) = some T) (hdg : decode cc pc = .ok (.putfield index, 3)) (kk : ∀ (H1 : Heap) (locs1 : List Loc), xs_I D ad ca ks A s T H1 locs1 → W p l e R s m args below meth c H1 locs1 0 0 Q (F0 m (pc + 3) ls rest)) : W p l e R s m args below meth c H locs 0 0 Q (F0 m pc ls (.int v :: .ref (ad k) :: rest)) := by
  obtain ⟨q, hq⟩ := xs_mem hk.1
  cases g
  refine va_put (D := D) (ci := 5) (C := R_S) (T := T_S) (N := 5) (ty := .int) (v := .int v) (fs := xs_fs_S ad k (S.1 k)) hx hb hts in_S ty_S ok_S nm_S hown hK.2.1 hw.1 hw.2.1 hw.2.2 q (by rw [xs_w_at hq, xs_cell_S hk.2]) rfl j hj hlink (fun _ h9 => h9) hfin (by rw [hd]; decide +kernel) rfl rfl hj hdg (fun H1 locs1 h1 h2 h3 => ?_)
  rw [hset, xs_w_set (T := xs_sI S k j v) hK.1.1 hq (by rw [xs_cell_S hk.2]; simp only [xs_sI, xs_up_eq]) xs_sI_off] at h1 h2
  exact kk H1 locs1 ⟨h1, h2, h3⟩
theorem xr_getN_S (hx : p.tables.exec = Jvm.exec) (hb : c.code = cc) {own host : String} {index : Nat} (hts : ∀ w ∈ xs_U, w.before args s = true) (hown : s.vm.findClass own = some m.cls) (hK : xs_K D ad ca ks A s) (hw : xs_I D ad ca ks A s S H locs) {k : Nat} (hk : xs_is ks k 5) (j : Nat) (hj : j < 5) (hlink : (Cond.fieldLinkNest own index (T_S j).1 (T_S j).2.1 (T_S j).2.2.1 host).before args s = true) {v : Value} (hv : (xs_fs_S ad k (S.1 k))[j]? = some v) (hdg : decode cc pc = .ok (.getfield index, 3)) (kk : W p l e R s m args below meth c H locs 0 0 Q (F0 m (pc + 3) ls (v :: rest))) : W p l e R s m args below meth c H locs 0 0 Q (F0 m pc ls (.ref (ad k) :: rest)) := by
  obtain ⟨q, hq⟩ := xs_mem hk.1
  exact va_getN (D := D) (ci := 5) (C := R_S) (T := T_S) (N := 5) hx hb hts in_S hown hK.2.1 hw.1 q (by rw [xs_w_at hq, xs_cell_S hk.2]) rfl j hj hlink (fun _ h9 => h9) hv hdg kk
theorem xr_putIN_S (hx : p.tables.exec = Jvm.exec) (hb : c.code = cc) {own host : String} {index : Nat} (hts : ∀ w ∈ xs_U, w.before args s = true) (hown : s.vm.findClass own = some m.cls) (hK : xs_K D ad ca ks A s) (hw : xs_I D ad ca ks A s S H locs) {k : Nat} (hk : xs_is ks k 5) (j : Nat) (hj : j < 5) (hlink : (Cond.fieldLinkNest own index (T_S j).1 (T_S j).2.1 (T_S j).2.2.1 host).before args s = true) (hfin : (T_S j).2.2.2 = false) (hd : (T_S j).2.2.1 = "I") (hset : ∀ (v : Int32) (f : Nat → Int32), (xs_fs_S ad k f).set j (.int v) = xs_fs_S ad k (upd f j v)) {v : Int32} (g : some (xs_sI S k j v) = some T) (hdg : decode cc pc = .ok (.putfield index, 3)) (kk : ∀ (H1 : Heap) (locs1 : List Loc), xs_I D ad ca ks A s T H1 locs1 → W p l e R s m args below meth c H1 locs1 0 0 Q (F0 m (pc + 3) ls rest)) : W p l e R s m args below meth c H locs 0 0 Q (F0 m pc ls (.int v :: .ref (ad k) :: rest)) := by
  obtain ⟨q, hq⟩ := xs_mem hk.1
  cases g
  refine va_putN (D := D) (ci := 5) (C := R_S) (T := T_S) (N := 5) (ty := .int) (v := .int v) (fs := xs_fs_S ad k (S.1 k)) hx hb hts in_S ty_S ok_S nm_S hown hK.2.1 hw.1 hw.2.1 hw.2.2 q (by rw [xs_w_at hq, xs_cell_S hk.2]) rfl j hj hlink (fun _ h9 => h9) hfin (by rw [hd]; decide +kernel) rfl rfl hj hdg (fun H1 locs1 h1 h2 h3 => ?_)
  rw [hset, xs_w_set (T := xs_sI S k j v) hK.1.1 hq (by rw [xs_cell_S hk.2]; simp only [xs_sI, xs_up_eq]) xs_sI_off] at h1 h2
  exact kk H1 locs1 ⟨h1, h2, h3⟩
theorem xs_recv_S (hK : xs_K D ad ca ks A s) (hw : xs_I D ad ca ks A s S H locs) {k : Nat} (hk : xs_is ks k 5) : ∃ cell : Cell, H[ad k]? = some cell ∧ cell.vm.isStatics = false ∧ s.vm.findClass R_S = some cell.cls := by
  obtain ⟨q, hq⟩ := xs_mem hk.1
  exact va_recv (q := (R_S, T_S, 5)) (ci := 5) (q0 := q) hK.2.1 hw.1 rfl (by rw [xs_w_at hq, xs_cell_S hk.2])
theorem xr_get_I (hx : p.tables.exec = Jvm.exec) (hb : c.code = cc) {own : String} {index : Nat} (hts : ∀ w ∈ xs_U, w.before args s = true) (hown : s.vm.findClass own = some m.cls) (hK : xs_K D ad ca ks A s) (hw : xs_I D ad ca ks A s S H locs) {k : Nat} (hk : xs_is ks k 6) (j : Nat) (hj : j < 2) (hlink : (Cond.fieldLink own index (T_I j).1 (T_I j).2.1 (T_I j).2.2.1).before args s = true) {v : Value} (hv : (xs_fs_I ad k (S.1 k))[j]? = some v) (hdg : decode cc pc = .ok (.getfield index, 3)) (kk : W p l e R s m args below meth c H locs 0 0 Q (F0 m (pc + 3) ls (v :: rest))) : W p l e R s m args below meth c H locs 0 0 Q (F0 m pc ls (.ref (ad k) :: rest)) := by
  obtain ⟨q, hq⟩ := xs_mem hk.1
  exact va_get (D := D) (ci := 6) (C := R_I) (T := T_I) (N := 2) hx hb hts in_I hown hK.2.1 hw.1 q (by rw [xs_w_at hq, xs_cell_I hk.2]) rfl j hj hlink (fun _ h9 => h9) hv hdg kk
theorem xr_putI_I (hx : p.tables.exec = Jvm.exec) (hb : c.code = cc) {own : String} {index : Nat} (hts : ∀ w ∈ xs_U, w.before args s = true) (hown : s.vm.findClass own = some m.cls) (hK : xs_K D ad ca ks A s) (hw : xs_I D ad ca ks A s S H locs) {k : Nat} (hk : xs_is ks k 6) (j : Nat) (hj : j < 2) (hlink : (Cond.fieldLink own index (T_I j).1 (T_I j).2.1 (T_I j).2.2.1).before args s = true) (hfin : (T_I j).2.2.2 = false) (hd : (T_I j).2.2.1 = "I") (hset : ∀ (v : Int32) (f : Nat → Int32), (xs_fs_I ad k f).set j (.int v) = xs_fs_I ad k (upd f j v)) {v : Int32} (g : some (xs_sI S k j v) = some T) (hdg : decode cc pc = .ok (.putfield index, 3)) (kk : ∀ (H1 : Heap) (locs1 : List Loc), xs_I D ad ca ks A s T H1 locs1 → W p l e R s m args below meth c H1 locs1 0 0 Q (F0 m (pc + 3) ls rest)) : W p l e R s m args below meth c H locs 0 0 Q (F0 m pc ls (.int v :: .ref (ad k) :: rest)) := by
  obtain ⟨q, hq⟩ := xs_mem hk.1
  cases g
  refine va_put (D := D) (ci := 6) (C := R_I) (T := T_I) (N := 2) (ty := .int) (v := .int v) (fs := xs_fs_I ad k (S.1 k)) hx hb hts in_I ty_I ok_I nm_I hown hK.2.1 hw.1 hw.2.1 hw.2.2 q (by rw [xs_w_at hq, xs_cell_I hk.2]) rfl j hj hlink (fun _ h9 => h9) hfin (by rw [hd]; decide +kernel) rfl rfl hj hdg (fun H1 locs1 h1 h2 h3 => ?_)
  rw [hset, xs_w_set (T := xs_sI S k j v) hK.1.1 hq (by rw [xs_cell_I hk.2]; simp only [xs_sI, xs_up_eq]) xs_sI_off] at h1 h2
  exact kk H1 locs1 ⟨h1, h2, h3⟩
theorem xr_getN_I (hx : p.tables.exec = Jvm.exec) (hb : c.code = cc) {own host : String} {index : Nat} (hts : ∀ w ∈ xs_U, w.before args s = true) (hown : s.vm.findClass own = some m.cls) (hK : xs_K D ad ca ks A s) (hw : xs_I D ad ca ks A s S H locs) {k : Nat} (hk : xs_is ks k 6) (j : Nat) (hj : j < 2) (hlink : (Cond.fieldLinkNest own index (T_I j).1 (T_I j).2.1 (T_I j).2.2.1 host).before args s = true) {v : Value} (hv : (xs_fs_I ad k (S.1 k))[j]? = some v) (hdg : decode cc pc = .ok (.getfield index, 3)) (kk : W p l e R s m args below meth c H locs 0 0 Q (F0 m (pc + 3) ls (v :: rest))) : W p l e R s m args below meth c H locs 0 0 Q (F0 m pc ls (.ref (ad k) :: rest)) := by
  obtain ⟨q, hq⟩ := xs_mem hk.1
  exact va_getN (D := D) (ci := 6) (C := R_I) (T := T_I) (N := 2) hx hb hts in_I hown hK.2.1 hw.1 q (by rw [xs_w_at hq, xs_cell_I hk.2]) rfl j hj hlink (fun _ h9 => h9) hv hdg kk
theorem xr_putIN_I (hx : p.tables.exec = Jvm.exec) (hb : c.code = cc) {own host : String} {index : Nat} (hts : ∀ w ∈ xs_U, w.before args s = true) (hown : s.vm.findClass own = some m.cls) (hK : xs_K D ad ca ks A s) (hw : xs_I D ad ca ks A s S H locs) {k : Nat} (hk : xs_is ks k 6) (j : Nat) (hj : j < 2) (hlink : (Cond.fieldLinkNest own index (T_I j).1 (T_I j).2.1 (T_I j).2.2.1 host).before args s = true) (hfin : (T_I j).2.2.2 = false) (hd : (T_I j).2.2.1 = "I") (hset : ∀ (v : Int32) (f : Nat → Int32), (xs_fs_I ad k f).set j (.int v) = xs_fs_I ad k (upd f j v)) {v : Int32} (g : some (xs_sI S k j v) = some T) (hdg : decode cc pc = .ok (.putfield index, 3)) (kk : ∀ (H1 : Heap) (locs1 : List Loc), xs_I D ad ca ks A s T H1 locs1 → W p l e R s m args below meth c H1 locs1 0 0 Q (F0 m (pc + 3) ls rest)) : W p l e R s m args below meth c H locs 0 0 Q (F0 m pc ls (.int v :: .ref (ad k) :: rest)) := by
  obtain ⟨q, hq⟩ := xs_mem hk.1
  cases g
  refine va_putN (D := D) (ci := 6) (C := R_I) (T := T_I) (N := 2) (ty := .int) (v := .int v) (fs := xs_fs_I ad k (S.1 k)) hx hb hts in_I ty_I ok_I nm_I hown hK.2.1 hw.1 hw.2.1 hw.2.2 q (by rw [xs_w_at hq, xs_cell_I hk.2]) rfl j hj hlink (fun _ h9 => h9) hfin (by rw [hd]; decide +kernel) rfl rfl hj hdg (fun H1 locs1 h1 h2 h3 => ?_)
  rw [hset, xs_w_set (T := xs_sI S k j v) hK.1.1 hq (by rw [xs_cell_I hk.2]; simp only [xs_sI, xs_up_eq]) xs_sI_off] at h1 h2
  exact kk H1 locs1 ⟨h1, h2, h3⟩
theorem xs_recv_I (hK : xs_K D ad ca ks A s) (hw : xs_I D ad ca ks A s S H locs) {k : Nat} (hk : xs_is ks k 6) : ∃ cell : Cell, H[ad k]? = some cell ∧ cell.vm.isStatics = false ∧ s.vm.findClass R_I = some cell.cls := by
  obtain ⟨q, hq⟩ := xs_mem hk.1
  exact va_recv (q := (R_I, T_I, 2)) (ci := 6) (q0 := q) hK.2.1 hw.1 rfl (by rw [xs_w_at hq, xs_cell_I hk.2])
theorem xr_get_D (hx : p.tables.exec = Jvm.exec) (hb : c.code = cc) {own : String} {index : Nat} (hts : ∀ w ∈ xs_U, w.before args s = true) (hown : s.vm.findClass own = some m.cls) (hK : xs_K D ad ca ks A s) (hw : xs_I D ad ca ks A s S H locs) {k : Nat} (hk : xs_is ks k 7) (j : Nat) (hj : j < 18) (hlink : (Cond.fieldLink own index (T_D j).1 (T_D j).2.1 (T_D j).2.2.1).before args s = true) {v : Value} (hv : (xs_fs_D ad k (S.1 k))[j]? = some v) (hdg : decode cc pc = .ok (.getfield index, 3)) (kk : W p l e R s m args below meth c H locs 0 0 Q (F0 m (pc + 3) ls (v :: rest))) : W p l e R s m args below meth c H locs 0 0 Q (F0 m pc ls (.ref (ad k) :: rest)) := by
  obtain ⟨q, hq⟩ := xs_mem hk.1
  exact va_get (D := D) (ci := 7) (C := R_D) (T := T_D) (N := 18) hx hb hts in_D hown hK.2.1 hw.1 q (by rw [xs_w_at hq, xs_cell_D hk.2]) rfl j hj hlink (fun _ h9 => h9) hv hdg kk
theorem xr_putI_D (hx : p.tables.exec = Jvm.exec) (hb : c.code = cc) {own : String} {index : Nat} (hts : ∀ w ∈ xs_U, w.before args s = true) (hown : s.vm.findClass own = some m.cls) (hK : xs_K D ad ca ks A s) (hw : xs_I D ad ca ks A s S H locs) {k : Nat} (hk : xs_is ks k 7) (j : Nat) (hj : j < 18) (hlink : (Cond.fieldLink own index (T_D j).1 (T_D j).2.1 (T_D j).2.2.1).before args s = true) (hfin : (T_D j).2.2.2 = false) (hd : (T_D j).2.2.1 = "I") (hset : ∀ (v : Int32) (f : Nat → Int32), (xs_fs_D ad k f).set j (.int v) = xs_fs_D ad k (upd f j v)) {v : Int32} (g : some (xs_sI S k j v) = some T) (hdg : decode cc pc = .ok (.putfield index, 3)) (kk : ∀ (H1 : Heap) (locs1 : List Loc), xs_I D ad ca ks A s T H1 locs1 → W p l e R s m args below meth c H1 locs1 0 0 Q (F0 m (pc + 3) ls rest)) : W p l e R s m args below meth c H locs 0 0 Q (F0 m pc ls (.int v :: .ref (ad k) :: rest)) := by
  obtain ⟨q, hq⟩ := xs_mem hk.1
  cases g
  refine va_put (D := D) (ci := 7) (C := R_D) (T := T_D) (N := 18) (ty := .int) (v := .int v) (fs := xs_fs_D ad k (S.1 k)) hx hb hts in_D ty_D ok_D nm_D hown hK.2.1 hw.1 hw.2.1 hw.2.2 q (by rw [xs_w_at hq, xs_cell_D hk.2]) rfl j hj hlink (fun _ h9 => h9) hfin (by rw [hd]; decide +kernel) rfl rfl hj hdg (fun H1 locs1 h1 h2 h3 => ?_)
  rw [hset, xs_w_set (T := xs_sI S k j v) hK.1.1 hq (by rw [xs_cell_D hk.2]; simp only [xs_sI, xs_up_eq]) xs_sI_off] at h1 h2
  exact kk H1 locs1 ⟨h1, h2, h3⟩
theorem xr_putZ_D (hx : p.tables.exec = Jvm.exec) (hb : c.code = cc) {own : String} {index : Nat} (hts : ∀ w ∈ xs_U, w.before args s = true) (hown : s.vm.findClass own = some m.cls) (hK : xs_K D ad ca ks A s) (hw : xs_I D ad ca ks A s S H locs) {k : Nat} (hk : xs_is ks k 7) (j : Nat) (hj : j < 18) (hlink : (Cond.fieldLink own index (T_D j).1 (T_D j).2.1 (T_D j).2.2.1).before args s = true) (hfin : (T_D j).2.2.2 = false) (hd : (T_D j).2.2.1 = "Z") (hset : ∀ (v : Int32) (f : Nat → Int32), (xs_fs_D ad k f).set j (.int v) = xs_fs_D ad k (upd f j v)) {v : Int32} (g : xs_sZ S k j v = some T) (hdg : decode cc pc = .ok (.putfield index, 3)) (kk : ∀ (H1 : Heap) (locs1 : List Loc), xs_I D ad ca ks A s T H1 locs1 → W p l e R s m args below meth c H1 locs1 0 0 Q (F0 m (pc + 3) ls rest)) : W p l e R s m args below meth c H locs 0 0 Q (F0 m pc ls (.int v :: .ref (ad k) :: rest)) := by
  obtain ⟨q, hq⟩ := xs_mem hk.1
  obtain ⟨hz, g⟩ := xs_z01 g
  cases g
  refine va_put (D := D) (ci := 7) (C := R_D) (T := T_D) (N := 18) (ty := .boolean) (v := .int v) (fs := xs_fs_D ad k (S.1 k)) hx hb hts in_D ty_D ok_D nm_D hown hK.2.1 hw.1 hw.2.1 hw.2.2 q (by rw [xs_w_at hq, xs_cell_D hk.2]) rfl j hj hlink (fun _ h9 => h9) hfin (by rw [hd]; decide +kernel) (xs_narZ hz).1 (xs_narZ hz).2.1 hj hdg (fun H1 locs1 h1 h2 h3 => ?_)
  rw [hset, xs_w_set (T := xs_sI S k j v) hK.1.1 hq (by rw [xs_cell_D hk.2]; simp only [xs_sI, xs_up_eq]) xs_sI_off] at h1 h2
  exact kk H1 locs1 ⟨h1, h2, h3⟩
theorem xr_getN_D (hx : p.tables.exec = Jvm.exec) (hb : c.code = cc) {own host : String} {index : Nat} (hts : ∀ w ∈ xs_U, w.before args s = true) (hown : s.vm.findClass own = some m.cls) (hK : xs_K D ad ca ks A s) (hw : xs_I D ad ca ks A s S H locs) {k : Nat} (hk : xs_is ks k 7) (j : Nat) (hj : j < 18) (hlink : (Cond.fieldLinkNest own index (T_D j).1 (T_D j).2.1 (T_D j).2.2.1 host).before args s = true) {v : Value} (hv : (xs_fs_D ad k (S.1 k))[j]? = some v) (hdg : decode cc pc = .ok (.getfield index, 3)) (kk : W p l e R s m args below meth c H locs 0 0 Q (F0 m (pc + 3) ls (v :: rest))) : W p l e R s m args below meth c H locs 0 0 Q (F0 m pc ls (.ref (ad k) :: rest)) := by
  obtain ⟨q, hq⟩ := xs_mem hk.1
  exact va_getN (D := D) (ci := 7) (C := R_D) (T := T_D) (N := 18) hx hb hts in_D hown hK.2.1 hw.1 q (by rw [xs_w_at hq, xs_cell_D hk.2]) rfl j hj hlink (fun _ h9 => h9) hv hdg kk
theorem xr_putIN_D (hx : p.tables.exec = Jvm.exec) (hb : c.code = cc) {own host : String} {index : Nat} (hts : ∀ w ∈ xs_U, w.before args s = true) (hown : s.vm.findClass own = some m.cls) (hK : xs_K D ad ca ks A s) (hw : xs_I D ad ca ks A s S H locs) {k : Nat} (hk : xs_is ks k 7) (j : Nat) (hj : j < 18) (hlink : (Cond.fieldLinkNest own index (T_D j).1 (T_D j).2.1 (T_D j).2.2.1 host).before args s = true) (hfin : (T_D j).2.2.2 = false) (hd : (T_D j).2.2.1 = "I") (hset : ∀ (v : Int32) (f : Nat → Int32), (xs_fs_D ad k f).set j (.int v) = xs_fs_D ad k (upd f j v)) {v : Int32} (g : some (xs_sI S k j v) = some T) (hdg : decode cc pc = .ok (.putfield index, 3)) (kk : ∀ (H1 : Heap) (locs1 : List Loc), xs_I D ad ca ks A s T H1 locs1 → W p l e R s m args below meth c H1 locs1 0 0 Q (F0 m (pc + 3) ls rest)) : W p l e R s m args below meth c H locs 0 0 Q (F0 m pc ls (.int v :: .ref (ad k) :: rest)) := by
  obtain ⟨q, hq⟩ := xs_mem hk.1
  cases g
  refine va_putN (D := D) (ci := 7) (C := R_D) (T := T_D) (N := 18) (ty := .int) (v := .int v) (fs := xs_fs_D ad k (S.1 k)) hx hb hts in_D ty_D ok_D nm_D hown hK.2.1 hw.1 hw.2.1 hw.2.2 q (by rw [xs_w_at hq, xs_cell_D hk.2]) rfl j hj hlink (fun _ h9 => h9) hfin (by rw [hd]; decide +kernel) rfl rfl hj hdg (fun H1 locs1 h1 h2 h3 => ?_)
  rw [hset, xs_w_set (T := xs_sI S k j v) hK.1.1 hq (by rw [xs_cell_D hk.2]; simp only [xs_sI, xs_up_eq]) xs_sI_off] at h1 h2
  exact kk H1 locs1 ⟨h1, h2, h3⟩
theorem xr_putZN_D (hx : p.tables.exec = Jvm.exec) (hb : c.code = cc) {own host : String} {index : Nat} (hts : ∀ w ∈ xs_U, w.before args s = true) (hown : s.vm.findClass own = some m.cls) (hK : xs_K D ad ca ks A s) (hw : xs_I D ad ca ks A s S H locs) {k : Nat} (hk : xs_is ks k 7) (j : Nat) (hj : j < 18) (hlink : (Cond.fieldLinkNest own index (T_D j).1 (T_D j).2.1 (T_D j).2.2.1 host).before args s = true) (hfin : (T_D j).2.2.2 = false) (hd : (T_D j).2.2.1 = "Z") (hset : ∀ (v : Int32) (f : Nat → Int32), (xs_fs_D ad k f).set j (.int v) = xs_fs_D ad k (upd f j v)) {v : Int32} (g : xs_sZ S k j v = some T) (hdg : decode cc pc = .ok (.putfield index, 3)) (kk : ∀ (H1 : Heap) (locs1 : List Loc), xs_I D ad ca ks A s T H1 locs1 → W p l e R s m args below meth c H1 locs1 0 0 Q (F0 m (pc + 3) ls rest)) : W p l e R s m args below meth c H locs 0 0 Q (F0 m pc ls (.int v :: .ref (ad k) :: rest)) := by
  obtain ⟨q, hq⟩ := xs_mem hk.1
  obtain ⟨hz, g⟩ := xs_z01 g
  cases g
  refine va_putN (D := D) (ci := 7) (C := R_D) (T := T_D) (N := 18) (ty := .boolean) (v := .int v) (fs := xs_fs_D ad k (S.1 k)) hx hb hts in_D ty_D ok_D nm_D hown hK.2.1 hw.1 hw.2.1 hw.2.2 q (by rw [xs_w_at hq, xs_cell_D hk.2]) rfl j hj hlink (fun _ h9 => h9) hfin (by rw [hd]; decide +kernel) (xs_narZ hz).1 (xs_narZ hz).2.1 hj hdg (fun H1 locs1 h1 h2 h3 => ?_)
  rw [hset, xs_w_set (T := xs_sI S k j v) hK.1.1 hq (by rw [xs_cell_D hk.2]; simp only [xs_sI, xs_up_eq]) xs_sI_off] at h1 h2
  exact kk H1 locs1 ⟨h1, h2, h3⟩
theorem xs_recv_D (hK : xs_K D ad ca ks A s) (hw : xs_I D ad ca ks A s S H locs) {k : Nat} (hk : xs_is ks k 7) : ∃ cell : Cell, H[ad k]? = some cell ∧ cell.vm.isStatics = false ∧ s.vm.findClass R_D = some cell.cls := by
  obtain ⟨q, hq⟩ := xs_mem hk.1
  exact va_recv (q := (R_D, T_D, 18)) (ci := 7) (q0 := q) hK.2.1 hw.1 rfl (by rw [xs_w_at hq, xs_cell_D hk.2])
theorem xr_get_K (hx : p.tables.exec = Jvm.exec) (hb : c.code = cc) {own : String} {index : Nat} (hts : ∀ w ∈ xs_U, w.before args s = true) (hown : s.vm.findClass own = some m.cls) (hK : xs_K D ad ca ks A s) (hw : xs_I D ad ca ks A s S H locs) {k : Nat} (hk : xs_is ks k 8) (j : Nat) (hj : j < 16) (hlink : (Cond.fieldLink own index (T_K j).1 (T_K j).2.1 (T_K j).2.2.1).before args s = true) {v : Value} (hv : (xs_fs_K ad k (S.1 k))[j]? = some v) (hdg : decode cc pc = .ok (.getfield index, 3)) (kk : W p l e R s m args below meth c H locs 0 0 Q (F0 m (pc + 3) ls (v :: rest))) : W p l e R s m args below meth c H locs 0 0 Q (F0 m pc ls (.ref (ad k) :: rest)) := by
  obtain ⟨q, hq⟩ := xs_mem hk.1
  exact va_get (D := D) (ci := 8) (C := R_K) (T := T_K) (N := 16) hx hb hts in_K hown hK.2.1 hw.1 q (by rw [xs_w_at hq, xs_cell_K hk.2]) rfl j hj hlink (fun _ h9 => h9) hv hdg kk
theorem xr_putI_K (hx : p.tables.exec = Jvm.exec) (hb : c.code = cc) {own : String} {index : Nat} (hts : ∀ w ∈ xs_U, w.before args s = true) (hown : s.vm.findClass own = some m.cls) (hK : xs_K D ad ca ks A s) (hw : xs_I D ad ca ks A s S H locs) {k : Nat} (hk : xs_is ks k 8) (j : Nat) (hj : j < 16) (hlink : (Cond.fieldLink own index (T_K j).1 (T_K j).2.1 (T_K j).2.2.1).before args s = true) (hfin : (T_K j).2.2.2 = false) (hd : (T_K j).2.2.1 = "I") (hset : ∀ (v : Int32) (f : Nat → Int32), (xs_fs_K ad k f).set j (.int v) = xs_fs_K ad k (upd f j v)) {v : Int32} (g : some (xs_sI S k j v) = some T) (hdg : decode cc pc = .ok (.putfield index, 3)) (kk : ∀ (H1 : Heap) (locs1 : List Loc), xs_I D ad ca ks A s T H1 locs1 → W p l e R s m args below meth c H1 locs1 0 0 Q (F0 m (pc + 3) ls rest)) : W p l e R s m args below meth c H locs 0 0 Q (F0 m pc ls (.int v :: .ref (ad k) :: rest)) := by
  obtain ⟨q, hq⟩ := xs_mem hk.1
  cases g
  refine va_put (D := D) (ci := 8) (C := R_K) (T := T_K) (N := 16) (ty := .int) (v := .int v) (fs := xs_fs_K ad k (S.1 k)) hx hb hts in_K ty_K ok_K nm_K hown hK.2.1 hw.1 hw.2.1 hw.2.2 q (by rw [xs_w_at hq, xs_cell_K hk.2]) rfl j hj hlink (fun _ h9 => h9) hfin (by rw [hd]; decide +kernel) rfl rfl hj hdg (fun H1 locs1 h1 h2 h3 => ?_)
  rw [hset, xs_w_set (T := xs_sI S k j v) hK.1.1 hq (by rw [xs_cell_K hk.2]; simp only [xs_sI, xs_up_eq]) xs_sI_off] at h1 h2
  exact kk H1 locs1 ⟨h1, h2, h3⟩
theorem xr_putZ_K (hx : p.tables.exec = Jvm.exec) (hb : c.code = cc) {own : String} {index : Nat} (hts : ∀ w ∈ xs_U, w.before args s = true) (hown : s.vm.findClass own = some m.cls) (hK : xs_K D ad ca ks A s) (hw : xs_I D ad ca ks A s S H locs) {k : Nat} (hk : xs_is ks k 8) (j : Nat) (hj : j < 16) (hlink : (Cond.fieldLink own index (T_K j).1 (T_K j).2.1 (T_K j).2.2.1).before args s = true) (hfin : (T_K j).2.2.2 = false) (hd : (T_K j).2.2.1 = "Z") (hset : ∀ (v : Int32) (f : Nat → Int32), (xs_fs_K ad k f).set j (.int v) = xs_fs_K ad k (upd f j v)) {v : Int32} (g : xs_sZ S k j v = some T) (hdg : decode cc pc = .ok (.putfield index, 3)) (kk : ∀ (H1 : Heap) (locs1 : List Loc), xs_I D ad ca ks A s T H1 locs1 → W p l e R s m args below meth c H1 locs1 0 0 Q (F0 m (pc + 3) ls rest)) : W p l e R s m args below meth c H locs 0 0 Q (F0 m pc ls (.int v :: .ref (ad k) :: rest)) := by
  obtain ⟨q, hq⟩ := xs_mem hk.1
  obtain ⟨hz, g⟩ := xs_z01 g
  cases g
  refine va_put (D := D) (ci := 8) (C := R_K) (T := T_K) (N := 16) (ty := .boolean) (v := .int v) (fs := xs_fs_K ad k (S.1 k)) hx hb hts in_K ty_K ok_K nm_K hown hK.2.1 hw.1 hw.2.1 hw.2.2 q (by rw [xs_w_at hq, xs_cell_K hk.2]) rfl j hj hlink (fun _ h9 => h9) hfin (by rw [hd]; decide +kernel) (xs_narZ hz).1 (xs_narZ hz).2.1 hj hdg (fun H1 locs1 h1 h2 h3 => ?_)
  rw [hset, xs_w_set (T := xs_sI S k j v) hK.1.1 hq (by rw [xs_cell_K hk.2]; simp only [xs_sI, xs_up_eq]) xs_sI_off] at h1 h2
  exact kk H1 locs1 ⟨h1, h2, h3⟩
theorem xr_getN_K (hx : p.tables.exec = Jvm.exec) (hb : c.code = cc) {own host : String} {index : Nat} (hts : ∀ w ∈ xs_U, w.before args s = true) (hown : s.vm.findClass own = some m.cls) (hK : xs_K D ad ca ks A s) (hw : xs_I D ad ca ks A s S H locs) {k : Nat} (hk : xs_is ks k 8) (j : Nat) (hj : j < 16) (hlink : (Cond.fieldLinkNest own index (T_K j).1 (T_K j).2.1 (T_K j).2.2.1 host).before args s = true) {v : Value} (hv : (xs_fs_K ad k (S.1 k))[j]? = some v) (hdg : decode cc pc = .ok (.getfield index, 3)) (kk : W p l e R s m args below meth c H locs 0 0 Q (F0 m (pc + 3) ls (v :: rest))) : W p l e R s m args below meth c H locs 0 0 Q (F0 m pc ls (.ref (ad k) :: rest)) := by
  obtain ⟨q, hq⟩ := xs_mem hk.1
  exact va_getN (D := D) (ci := 8) (C := R_K) (T := T_K) (N := 16) hx hb hts in_K hown hK.2.1 hw.1 q (by rw [xs_w_at hq, xs_cell_K hk.2]) rfl j hj hlink (fun _ h9 => h9) hv hdg kk
theorem xr_putIN_K (hx : p.tables.exec = Jvm.exec) (hb : c.code = cc) {own host : String} {index : Nat} (hts : ∀ w ∈ xs_U, w.before args s = true) (hown : s.vm.findClass own = some m.cls) (hK : xs_K D ad ca ks A s) (hw : xs_I D ad ca ks A s S H locs) {k : Nat} (hk : xs_is ks k 8) (j : Nat) (hj : j < 16) (hlink : (Cond.fieldLinkNest own index (T_K j).1 (T_K j).2.1 (T_K j).2.2.1 host).before args s = true) (hfin : (T_K j).2.2.2 = false) (hd : (T_K j).2.2.1 = "I") (hset : ∀ (v : Int32) (f : Nat → Int32), (xs_fs_K ad k f).set j (.int v) = xs_fs_K ad k (upd f j v)) {v : Int32} (g : some (xs_sI S k j v) = some T) (hdg : decode cc pc = .ok (.putfield index, 3)) (kk : ∀ (H1 : Heap) (locs1 : List Loc), xs_I D ad ca ks A s T H1 locs1 → W p l e R s m args below meth c H1 locs1 0 0 Q (F0 m (pc + 3) ls rest)) : W p l e R s m args below meth c H locs 0 0 Q (F0 m pc ls (.int v :: .ref (ad k) :: rest)) := by
  obtain ⟨q, hq⟩ := xs_mem hk.1
  cases g
  refine va_putN (D := D) (ci := 8) (C := R_K) (T := T_K) (N := 16) (ty := .int) (v := .int v) (fs := xs_fs_K ad k (S.1 k)) hx hb hts in_K ty_K ok_K nm_K hown hK.2.1 hw.1 hw.2.1 hw.2.2 q (by rw [xs_w_at hq, xs_cell_K hk.2]) rfl j hj hlink (fun _ h9 => h9) hfin (by rw [hd]; decide +kernel) rfl rfl hj hdg (fun H1 locs1 h1 h2 h3 => ?_)
  rw [hset, xs_w_set (T := xs_sI S k j v) hK.1.1 hq (by rw [xs_cell_K hk.2]; simp only [xs_sI, xs_up_eq]) xs_sI_off] at h1 h2
  exact kk H1 locs1 ⟨h1, h2, h3⟩
theorem xr_putZN_K (hx : p.tables.exec = Jvm.exec) (hb : c.code = cc) {own host : String} {index : Nat} (hts : ∀ w ∈ xs_U, w.before args s = true) (hown : s.vm.findClass own = some m.cls) (hK : xs_K D ad ca ks A s) (hw : xs_I D ad ca ks A s S H locs) {k : Nat} (hk : xs_is ks k 8) (j : Nat) (hj : j < 16) (hlink : (Cond.fieldLinkNest own index (T_K j).1 (T_K j).2.1 (T_K j).2.2.1 host).before args s = true) (hfin : (T_K j).2.2.2 = false) (hd : (T_K j).2.2.1 = "Z") (hset : ∀ (v : Int32) (f : Nat → Int32), (xs_fs_K ad k f).set j (.int v) = xs_fs_K ad k (upd f j v)) {v : Int32} (g : xs_sZ S k j v = some T) (hdg : decode cc pc = .ok (.putfield index, 3)) (kk : ∀ (H1 : Heap) (locs1 : List Loc), xs_I D ad ca ks A s T H1 locs1 → W p l e R s m args below meth c H1 locs1 0 0 Q (F0 m (pc + 3) ls rest)) : W p l e R s m args below meth c H locs 0 0 Q (F0 m pc ls (.int v :: .ref (ad k) :: rest)) := by
  obtain ⟨q, hq⟩ := xs_mem hk.1
  obtain ⟨hz, g⟩ := xs_z01 g
  cases g
  refine va_putN (D := D) (ci := 8) (C := R_K) (T := T_K) (N := 16) (ty := .boolean) (v := .int v) (fs := xs_fs_K ad k (S.1 k)) hx hb hts in_K ty_K ok_K nm_K hown hK.2.1 hw.1 hw.2.1 hw.2.2 q (by rw [xs_w_at hq, xs_cell_K hk.2]) rfl j hj hlink (fun _ h9 => h9) hfin (by rw [hd]; decide +kernel) (xs_narZ hz).1 (xs_narZ hz).2.1 hj hdg (fun H1 locs1 h1 h2 h3 => ?_)
  rw [hset, xs_w_set (T := xs_sI S k j v) hK.1.1 hq (by rw [xs_cell_K hk.2]; simp only [xs_sI, xs_up_eq]) xs_sI_off] at h1 h2
  exact kk H1 locs1 ⟨h1, h2, h3⟩
theorem xs_recv_K (hK : xs_K D ad ca ks A s) (hw : xs_I D ad ca ks A s S H locs) {k : Nat} (hk : xs_is ks k 8) : ∃ cell : Cell, H[ad k]? = some cell ∧ cell.vm.isStatics = false ∧ s.vm.findClass R_K = some cell.cls := by
  obtain ⟨q, hq⟩ := xs_mem hk.1
  exact va_recv (q := (R_K, T_K, 16)) (ci := 8) (q0 := q) hK.2.1 hw.1 rfl (by rw [xs_w_at hq, xs_cell_K hk.2])
theorem xr_get_V (hx : p.tables.exec = Jvm.exec) (hb : c.code = cc) {own : String} {index : Nat} (hts : ∀ w ∈ xs_U, w.before args s = true) (hown : s.vm.findClass own = some m.cls) (hK : xs_K D ad ca ks A s) (hw : xs_I D ad ca ks A s S H locs) {k : Nat} (hk : xs_is ks k 9) (j : Nat) (hj : j < 3) (hlink : (Cond.fieldLink own index (T_V j).1 (T_V j).2.1 (T_V j).2.2.1).before args s = true) {v : Value} (hv : (xs_fs_V ad k (S.1 k))[j]? = some v) (hdg : decode cc pc = .ok (.getfield index, 3)) (kk : W p l e R s m args below meth c H locs 0 0 Q (F0 m (pc + 3) ls (v :: rest))) : W p l e R s m args below meth c H locs 0 0 Q (F0 m pc ls (.ref (ad k) :: rest)) := by
  obtain ⟨q, hq⟩ := xs_mem hk.1
  exact va_get (D := D) (ci := 9) (C := R_V) (T := T_V) (N := 3) hx hb hts in_V hown hK.2.1 hw.1 q (by rw [xs_w_at hq, xs_cell_V hk.2]) rfl j hj hlink (fun _ h9 => h9) hv hdg kk
theorem xr_putI_V (hx : p.tables.exec = Jvm.exec) (hb : c.code = cc) {own : String} {index : Nat} (hts : ∀ w ∈ xs_U, w.before args s = true) (hown : s.vm.findClass own = some m.cls) (hK : xs_K D ad ca ks A s) (hw : xs_I D ad ca ks A s S H locs) {k : Nat} (hk : xs_is ks k 9) (j : Nat) (hj : j < 3) (hlink : (Cond.fieldLink own index (T_V j).1 (T_V j).2.1 (T_V j).2.2.1).before args s = true) (hfin : (T_V j).2.2.2 = false) (hd : (T_V j).2.2.1 = "I") (hset : ∀ (v : Int32) (f : Nat → Int32), (xs_fs_V ad k f).set j (.int v) = xs_fs_V ad k (upd f j v)) {v : Int32} (g : some (xs_sI S k j v) = some T) (hdg : decode cc pc = .ok (.putfield index, 3)) (kk : ∀ (H1 : Heap) (locs1 : List Loc), xs_I D ad ca ks A s T H1 locs1 → W p l e R s m args below meth c H1 locs1 0 0 Q (F0 m (pc + 3) ls rest)) : W p l e R s m args below meth c H locs 0 0 Q (F0 m pc ls (.int v :: .ref (ad k) :: rest)) := by
  obtain ⟨q, hq⟩ := xs_mem hk.1
  cases g
  refine va_put (D := D) (ci := 9) (C := R_V) (T := T_V) (N := 3) (ty := .int) (v := .int v) (fs := xs_fs_V ad k (S.1 k)) hx hb hts in_V ty_V ok_V nm_V hown hK.2.1 hw.1 hw.2.1 hw.2.2 q (by rw [xs_w_at hq, xs_cell_V hk.2]) rfl j hj hlink (fun _ h9 => h9) hfin (by rw [hd]; decide +kernel) rfl rfl hj hdg (fun H1 locs1 h1 h2 h3 => ?_)
  rw [hset, xs_w_set (T := xs_sI S k j v) hK.1.1 hq (by rw [xs_cell_V hk.2]; simp only [xs_sI, xs_up_eq]) xs_sI_off] at h1 h2
  exact kk H1 locs1 ⟨h1, h2, h3⟩
theorem xr_getN_V (hx : p.tables.exec = Jvm.exec) (hb : c.code = cc) {own host : String} {index : Nat} (hts : ∀ w ∈ xs_U, w.before args s = true) (hown : s.vm.findClass own = some m.cls) (hK : xs_K D ad ca ks A s) (hw : xs_I D ad ca ks A s S H locs) {k : Nat} (hk : xs_is ks k 9) (j : Nat) (hj : j < 3) (hlink : (Cond.fieldLinkNest own index (T_V j).1 (T_V j).2.1 (T_V j).2.2.1 host).before args s = true) {v : Value} (hv : (xs_fs_V ad k (S.1 k))[j]? = some v) (hdg : decode cc pc = .ok (.getfield index, 3)) (kk : W p l e R s m args below meth c H locs 0 0 Q (F0 m (pc + 3) ls (v :: rest))) : W p l e R s m args below meth c H locs 0 0 Q (F0 m pc ls (.ref (ad k) :: rest)) := by
  obtain ⟨q, hq⟩ := xs_mem hk.1
  exact va_getN (D := D) (ci := 9) (C := R_V) (T := T_V) (N := 3) hx hb hts in_V hown hK.2.1 hw.1 q (by rw [xs_w_at hq, xs_cell_V hk.2]) rfl j hj hlink (fun _ h9 => h9) hv hdg kk
theorem xr_putIN_V (hx : p.tables.exec = Jvm.exec) (hb : c.code = cc) {own host : String} {index : Nat} (hts : ∀ w ∈ xs_U, w.before args s = true) (hown : s.vm.findClass own = some m.cls) (hK : xs_K D ad ca ks A s) (hw : xs_I D ad ca ks A s S H locs) {k : Nat} (hk : xs_is ks k 9) (j : Nat) (hj : j < 3) (hlink : (Cond.fieldLinkNest own index (T_V j).1 (T_V j).2.1 (T_V j).2.2.1 host).before args s = true) (hfin : (T_V j).2.2.2 = false) (hd : (T_V j).2.2.1 = "I") (hset : ∀ (v : Int32) (f : Nat → Int32), (xs_fs_V ad k f).set j (.int v) = xs_fs_V ad k (upd f j v)) {v : Int32} (g : some (xs_sI S k j v) = some T) (hdg : decode cc pc = .ok (.putfield index, 3)) (kk : ∀ (H1 : Heap) (locs1 : List Loc), xs_I D ad ca ks A s T H1 locs1 → W p l e R s m args below meth c H1 locs1 0 0 Q (F0 m (pc + 3) ls rest)) : W p l e R s m args below meth c H locs 0 0 Q (F0 m pc ls (.int v :: .ref (ad k) :: rest)) := by
  obtain ⟨q, hq⟩ := xs_mem hk.1
  cases g
  refine va_putN (D := D) (ci := 9) (C := R_V) (T := T_V) (N := 3) (ty := .int) (v := .int v) (fs := xs_fs_V ad k (S.1 k)) hx hb hts in_V ty_V ok_V nm_V hown hK.2.1 hw.1 hw.2.1 hw.2.2 q (by rw [xs_w_at hq, xs_cell_V hk.2]) rfl j hj hlink (fun _ h9 => h9) hfin (by rw [hd]; decide +kernel) rfl rfl hj hdg (fun H1 locs1 h1 h2 h3 => ?_)
  rw [hset, xs_w_set (T := xs_sI S k j v) hK.1.1 hq (by rw [xs_cell_V hk.2]; simp only [xs_sI, xs_up_eq]) xs_sI_off] at h1 h2
  exact kk H1 locs1 ⟨h1, h2, h3⟩
theorem xs_recv_V (hK : xs_K D ad ca ks A s) (hw : xs_I D ad ca ks A s S H locs) {k : Nat} (hk : xs_is ks k 9) : ∃ cell : Cell, H[ad k]? = some cell ∧ cell.vm.isStatics = false ∧ s.vm.findClass R_V = some cell.cls := by
  obtain ⟨q, hq⟩ := xs_mem hk.1
  exact va_recv (q := (R_V, T_V, 3)) (ci := 9) (q0 := q) hK.2.1 hw.1 rfl (by rw [xs_w_at hq, xs_cell_V hk.2])
theorem xr_get_R (hx : p.tables.exec = Jvm.exec) (hb : c.code = cc) {own : String} {index : Nat} (hts : ∀ w ∈ xs_U, w.before args s = true) (hown : s.vm.findClass own = some m.cls) (hK : xs_K D ad ca ks A s) (hw : xs_I D ad ca ks A s S H locs) {k : Nat} (hk : xs_is ks k 10) (j : Nat) (hj : j < 40) (hlink : (Cond.fieldLink own index (T_R j).1 (T_R j).2.1 (T_R j).2.2.1).before args s = true) {v : Value} (hv : (xs_fs_R ad k (S.1 k))[j]? = some v) (hdg : decode cc pc = .ok (.getfield index, 3)) (kk : W p l e R s m args below meth c H locs 0 0 Q (F0 m (pc + 3) ls (v :: rest))) : W p l e R s m args below meth c H locs 0 0 Q (F0 m pc ls (.ref (ad k) :: rest)) := by
  obtain ⟨q, hq⟩ := xs_mem hk.1
  exact va_get (D := D) (ci := 10) (C := R_R) (T := T_R) (N := 40) hx hb hts in_R hown hK.2.1 hw.1 q (by rw [xs_w_at hq, xs_cell_R hk.2]) rfl j hj hlink (fun _ h9 => h9) hv hdg kk
theorem xr_putI_R (hx : p.tables.exec = Jvm.exec) (hb : c.code = cc) {own : String} {index : Nat} (hts : ∀ w ∈ xs_U, w.before args s = true) (hown : s.vm.findClass own = some m.cls) (hK : xs_K D ad ca ks A s) (hw : xs_I D ad ca ks A s S H locs) {k : Nat} (hk : xs_is ks k 10) (j : Nat) (hj : j < 40) (hlink : (Cond.fieldLink own index (T_R j).1 (T_R j).2.1 (T_R j).2.2.1).before args s = true) (hfin : (T_R j).2.2.2 = false) (hd : (T_R j).2.2.1 = "I") (hset : ∀ (v : Int32) (f : Nat → Int32), (xs_fs_R ad k f).set j (.int v) = xs_fs_R ad k (upd f j v)) {v : Int32} (g : some (xs_sI S k j v) = some T) (hdg : decode cc pc = .ok (.putfield index, 3)) (kk : ∀ (H1 : Heap) (locs1 : List Loc), xs_I D ad ca ks A s T H1 locs1 → W p l e R s m args below meth c H1 locs1 0 0 Q (F0 m (pc + 3) ls rest)) : W p l e R s m args below meth c H locs 0 0 Q (F0 m pc ls (.int v :: .ref (ad k) :: rest)) := by
  obtain ⟨q, hq⟩ := xs_mem hk.1
  cases g
  refine va_put (D := D) (ci := 10) (C := R_R) (T := T_R) (N := 40) (ty := .int) (v := .int v) (fs := xs_fs_R ad k (S.1 k)) hx hb hts in_R ty_R ok_R nm_R hown hK.2.1 hw.1 hw.2.1 hw.2.2 q (by rw [xs_w_at hq, xs_cell_R hk.2]) rfl j hj hlink (fun _ h9 => h9) hfin (by rw [hd]; decide +kernel) rfl rfl hj hdg (fun H1 locs1 h1 h2 h3 => ?_)
  rw [hset, xs_w_set (T := xs_sI S k j v) hK.1.1 hq (by rw [xs_cell_R hk.2]; simp only [xs_sI, xs_up_eq]) xs_sI_off] at h1 h2
  exact kk H1 locs1 ⟨h1, h2, h3⟩
theorem xr_getN_R (hx : p.tables.exec = Jvm.exec) (hb : c.code = cc) {own host : String} {index : Nat} (hts : ∀ w ∈ xs_U, w.before args s = true) (hown : s.vm.findClass own = some m.cls) (hK : xs_K D ad ca ks A s) (hw : xs_I D ad ca ks A s S H locs) {k : Nat} (hk : xs_is ks k 10) (j : Nat) (hj : j < 40) (hlink : (Cond.fieldLinkNest own index (T_R j).1 (T_R j).2.1 (T_R j).2.2.1 host).before args s = true) {v : Value} (hv : (xs_fs_R ad k (S.1 k))[j]? = some v) (hdg : decode cc pc = .ok (.getfield index, 3)) (kk : W p l e R s m args below meth c H locs 0 0 Q (F0 m (pc + 3) ls (v :: rest))) : W p l e R s m args below meth c H locs 0 0 Q (F0 m pc ls (.ref (ad k) :: rest)) := by
  obtain ⟨q, hq⟩ := xs_mem hk.1
  exact va_getN (D := D) (ci := 10) (C := R_R) (T := T_R) (N := 40) hx hb hts in_R hown hK.2.1 hw.1 q (by rw [xs_w_at hq, xs_cell_R hk.2]) rfl j hj hlink (fun _ h9 => h9) hv hdg kk
theorem xr_putIN_R (hx : p.tables.exec = Jvm.exec) (hb : c.code = cc) {own host : String} {index : Nat} (hts : ∀ w ∈ xs_U, w.before args s = true) (hown : s.vm.findClass own = some m.cls) (hK : xs_K D ad ca ks A s) (hw : xs_I D ad ca ks A s S H locs) {k : Nat} (hk : xs_is ks k 10) (j : Nat) (hj : j < 40) (hlink : (Cond.fieldLinkNest own index (T_R j).1 (T_R j).2.1 (T_R j).2.2.1 host).before args s = true) (hfin : (T_R j).2.2.2 = false) (hd : (T_R j).2.2.1 = "I") (hset : ∀ (v : Int32) (f : Nat → Int32), (xs_fs_R ad k f).set j (.int v) = xs_fs_R ad k (upd f j v)) {v : Int32} (g : some (xs_sI S k j v) = some T) (hdg : decode cc pc = .ok (.putfield index, 3)) (kk : ∀ (H1 : Heap) (locs1 : List Loc), xs_I D ad ca ks A s T H1 locs1 → W p l e R s m args below meth c H1 locs1 0 0 Q (F0 m (pc + 3) ls rest)) : W p l e R s m args below meth c H locs 0 0 Q (F0 m pc ls (.int v :: .ref (ad k) :: rest)) := by
  obtain ⟨q, hq⟩ := xs_mem hk.1
  cases g
  refine va_putN (D := D) (ci := 10) (C := R_R) (T := T_R) (N := 40) (ty := .int) (v := .int v) (fs := xs_fs_R ad k (S.1 k)) hx hb hts in_R ty_R ok_R nm_R hown hK.2.1 hw.1 hw.2.1 hw.2.2 q (by rw [xs_w_at hq, xs_cell_R hk.2]) rfl j hj hlink (fun _ h9 => h9) hfin (by rw [hd]; decide +kernel) rfl rfl hj hdg (fun H1 locs1 h1 h2 h3 => ?_)
  rw [hset, xs_w_set (T := xs_sI S k j v) hK.1.1 hq (by rw [xs_cell_R hk.2]; simp only [xs_sI, xs_up_eq]) xs_sI_off] at h1 h2
  exact kk H1 locs1 ⟨h1, h2, h3⟩
theorem xs_recv_R (hK : xs_K D ad ca ks A s) (hw : xs_I D ad ca ks A s S H locs) {k : Nat} (hk : xs_is ks k 10) : ∃ cell : Cell, H[ad k]? = some cell ∧ cell.vm.isStatics = false ∧ s.vm.findClass R_R = some cell.cls := by
  obtain ⟨q, hq⟩ := xs_mem hk.1
  exact va_recv (q := (R_R, T_R, 40)) (ci := 10) (q0 := q) hK.2.1 hw.1 rfl (by rw [xs_w_at hq, xs_cell_R hk.2])
theorem xr_getsS (hx : p.tables.exec = Jvm.exec) (hb : c.code = cc) {own : String} {index : Nat} (hown : s.vm.findClass own = some m.cls) (hK : xs_K D ad ca ks A s) (hw : xs_I D ad ca ks A s S H locs) (hlink : (Cond.fieldLink own index "WideNet$Cipher" "SUBSTITUTES" "[I").before args s = true) (hdg : decode cc pc = .ok (.getstatic index, 3)) (kk : W p l e R s m args below meth c H locs 0 0 Q (F0 m (pc + 3) ls (.ref (ad 171) :: rest))) : W p l e R s m args below meth c H locs 0 0 Q (F0 m pc ls rest) := va_gets hx hb hK.2.2.2.2.1 hw.2.2 hown hlink (fun _ h => h) hdg kk
theorem xr_getsO (hx : p.tables.exec = Jvm.exec) (hb : c.code = cc) {own : String} {index : Nat} (hown : s.vm.findClass own = some m.cls) (hK : xs_K D ad ca ks A s) (hw : xs_I D ad ca ks A s S H locs) (hlink : (Cond.fieldLink own index "WideNet$Cipher" "ORIGINALS" "[I").before args s = true) (hdg : decode cc pc = .ok (.getstatic index, 3)) (kk : W p l e R s m args below meth c H locs 0 0 Q (F0 m (pc + 3) ls (.ref (ad 172) :: rest))) : W p l e R s m args below meth c H locs 0 0 Q (F0 m pc ls rest) := va_gets hx hb hK.2.2.2.2.2.1 hw.2.2 hown hlink (fun _ h => h) hdg kk
theorem xr_max (hx : p.tables.exec = Jvm.exec) (hb : c.code = cc) (hml : c.maxLocals = ls.size) {own : String} {index : Nat} (hown : s.vm.findClass own = some m.cls) (hlink : (Cond.methodLink own index Lib.Math.max.name).before args s = true) (hstat : (Cond.static Lib.Math.max.name).before args s = true) (hini : (Cond.initialized "java/lang/Math").before args s = true) (hcode : (Cond.code Lib.Math.max.name Lib.Math.max.code 2 (some .int)).before args s = true) (hframes : 1 ≤ R.frames) (hlocals : (rest.map fun v => v.category).sum + 13 ≤ R.locals) {x y : Int32} (hdg : decode cc pc = .ok (.invokestatic index, 3)) (kk : W p l e R s m args below meth c H locs 0 0 Q (F0 m (pc + 3) ls (.int (xs_max x y) :: rest))) : W p l e R s m args below meth c H locs 0 0 Q (F0 m pc ls (.int y :: .int x :: rest)) := va_mmax hx hb hml hown hlink hstat hini hcode hframes hlocals (Nat.zero_le _) (Nat.zero_le _) hdg kk
theorem xr_min (hx : p.tables.exec = Jvm.exec) (hb : c.code = cc) (hml : c.maxLocals = ls.size) {own : String} {index : Nat} (hown : s.vm.findClass own = some m.cls) (hlink : (Cond.methodLink own index Lib.Math.min.name).before args s = true) (hstat : (Cond.static Lib.Math.min.name).before args s = true) (hini : (Cond.initialized "java/lang/Math").before args s = true) (hcode : (Cond.code Lib.Math.min.name Lib.Math.min.code 2 (some .int)).before args s = true) (hframes : 1 ≤ R.frames) (hlocals : (rest.map fun v => v.category).sum + 13 ≤ R.locals) {x y : Int32} (hdg : decode cc pc = .ok (.invokestatic index, 3)) (kk : W p l e R s m args below meth c H locs 0 0 Q (F0 m (pc + 3) ls (.int (xs_min x y) :: rest))) : W p l e R s m args below meth c H locs 0 0 Q (F0 m pc ls (.int y :: .int x :: rest)) := va_mmin hx hb hml hown hlink hstat hini hcode hframes hlocals (Nat.zero_le _) (Nat.zero_le _) hdg kk
theorem xr_cpy (hx : p.tables.exec = Jvm.exec) (hb : c.code = cc) (hml : c.maxLocals = ls.size) {own : String} {index : Nat} (hown : s.vm.findClass own = some m.cls) (hlink : (Cond.methodLink own index arraycopyName).before args s = true) (hnat : (Cond.native arraycopyName).before args s = true) (hstat : (Cond.static arraycopyName).before args s = true) (hini : (Cond.initialized "java/lang/System").before args s = true) (hK : xs_K D ad ca ks A s) (hw : xs_I D ad ca ks A s S H locs) {k k2 : Nat} (hk : xs_is ks k 50) (hk2 : xs_is ks k2 50) {sp dp n : Int32} (g : xs_cpy S k sp k2 dp n = some T) (hframes : 1 ≤ R.frames) (hlocals : (rest.map fun v => v.category).sum + (nativeFrameWords "java/lang/System" "arraycopy" 5 + 11) ≤ R.locals) (hdg : decode cc pc = .ok (.invokestatic index, 3)) (kk : ∀ (H1 : Heap) (locs1 : List Loc), xs_I D ad ca ks A s T H1 locs1 → W p l e R s m args below meth c H1 locs1 0 0 Q (F0 m (pc + 3) ls rest)) : W p l e R s m args below meth c H locs 0 0 Q (F0 m pc ls (.int n :: .int dp :: .ref (ad k2) :: .int sp :: .ref (ad k) :: rest)) := by
  obtain ⟨q, hq⟩ := xs_mem hk.1
  obtain ⟨q2, hq2⟩ := xs_mem hk2.1
  unfold xs_cpy at g
  split at g
  · cases g
  · next hno =>
    cases g
    refine va_copyi hx hb hml hown hlink hnat hstat hini hK.2.1 hw.1 hw.2.1 hw.2.2 q q2 0 0 (f := S.1 k) (g := S.1 k2) (by rw [xs_w_at hq, xs_cell_50 hk.2]) (by rw [xs_w_at hq2, xs_cell_50 hk2.2]) rfl rfl rfl (fun h => hno (Or.inl h)) (fun h => hno (Or.inr (Or.inl h))) (fun h => hno (Or.inr (Or.inr (Or.inl h)))) (Nat.le_of_not_lt fun h => hno (Or.inr (Or.inr (Or.inr (Or.inl h))))) (Nat.le_of_not_lt fun h => hno (Or.inr (Or.inr (Or.inr (Or.inr h))))) (fun _ _ => rfl) hframes hlocals hdg (fun H1 locs1 h1 h2 h3 => ?_)
    rw [xs_w_set (T := (va_up S.1 k2 (va_cpy (S.1 k) (S.1 k2) sp.toNatClampNeg dp.toNatClampNeg n.toNatClampNeg), S.2)) hK.1.1 hq2 (by rw [xs_cell_50 hk2.2]; simp only [xs_up_eq]) (fun i h => ⟨xs_up_ne h, rfl, rfl⟩)] at h1 h2
    exact kk H1 locs1 ⟨h1, h2, h3⟩
theorem xq_v {a : Array Value} {st0 : List Value} (hK : xs_K D ad ca ks A s) (hw : xs_I D ad ca ks A s S H locs) (hr : va_Run p l e R s m args below meth c H locs 0 0 0 0 (F0 m pc ls st0) rest (va_Qv (fun _ : Unit => True) (fun _ t => va_P D xs_cl (xs_w ad ca ks T) t.heap) (xs_A ad ks H.size) a) (xs_A ad ks H.size)) (kk : ∀ (H1 : Heap) (locs1 : List Loc), xs_I D ad ca ks A s T H1 locs1 → W p l e R s m args below meth c H1 locs1 0 0 Q (F0 m (pc + 3) ls (rest))) : W p l e R s m args below meth c H locs 0 0 Q (F0 m pc ls st0) :=
  va_callv hr hw.2.2 (fun q _ h => xs_AA hK hw q h) (xs_AA hK hw) (fun _ t H1 locs1 ht _ _ hB _ _ hS => kk H1 locs1 ⟨by rw [← ht]; exact hB, xs_D hw.2.1, hS⟩)
theorem xq_i {r : Int32} {a : Array Value} {st0 : List Value} (hK : xs_K D ad ca ks A s) (hw : xs_I D ad ca ks A s S H locs) (hr : va_Run p l e R s m args below meth c H locs 0 0 0 0 (F0 m pc ls st0) rest (va_Qi (fun r1 (_ : Unit) => r1 = r) (fun _ t => va_P D xs_cl (xs_w ad ca ks T) t.heap) (xs_A ad ks H.size) a) (xs_A ad ks H.size)) (kk : ∀ (H1 : Heap) (locs1 : List Loc), xs_I D ad ca ks A s T H1 locs1 → W p l e R s m args below meth c H1 locs1 0 0 Q (F0 m (pc + 3) ls (.int r :: rest))) : W p l e R s m args below meth c H locs 0 0 Q (F0 m pc ls st0) :=
  va_calli hr hw.2.2 (fun q _ h => xs_AA hK hw q h) (xs_AA hK hw) (fun r1 _ t H1 locs1 ht _ hr1 hB _ _ hS => by
    cases hr1
    exact kk H1 locs1 ⟨by rw [← ht]; exact hB, xs_D hw.2.1, hS⟩)
theorem xq_l {r : Int64} {a : Array Value} {st0 : List Value} (hK : xs_K D ad ca ks A s) (hw : xs_I D ad ca ks A s S H locs) (hr : va_Run p l e R s m args below meth c H locs 0 0 0 0 (F0 m pc ls st0) rest (va_Ql (fun r1 (_ : Unit) => r1 = r) (fun _ t => va_P D xs_cl (xs_w ad ca ks T) t.heap) (xs_A ad ks H.size) a) (xs_A ad ks H.size)) (kk : ∀ (H1 : Heap) (locs1 : List Loc), xs_I D ad ca ks A s T H1 locs1 → W p l e R s m args below meth c H1 locs1 0 0 Q (F0 m (pc + 3) ls (.long r :: rest))) : W p l e R s m args below meth c H locs 0 0 Q (F0 m pc ls st0) :=
  va_calll hr hw.2.2 (fun q _ h => xs_AA hK hw q h) (xs_AA hK hw) (fun r1 _ t H1 locs1 ht _ hr1 hB _ _ hS => by
    cases hr1
    exact kk H1 locs1 ⟨by rw [← ht]; exact hB, xs_D hw.2.1, hS⟩)
theorem xq_a {r : Nat} {a : Array Value} {st0 : List Value} (hK : xs_K D ad ca ks A s) (hw : xs_I D ad ca ks A s S H locs) (hr : va_Run p l e R s m args below meth c H locs 0 0 0 0 (F0 m pc ls st0) rest (va_Qr (fun _ : Unit => True) (fun _ a t => a = ad r ∧ va_P D xs_cl (xs_w ad ca ks T) t.heap) (xs_A ad ks H.size) a) (xs_A ad ks H.size)) (kk : ∀ (H1 : Heap) (locs1 : List Loc), xs_I D ad ca ks A s T H1 locs1 → W p l e R s m args below meth c H1 locs1 0 0 Q (F0 m (pc + 3) ls (.ref (ad r) :: rest))) : W p l e R s m args below meth c H locs 0 0 Q (F0 m pc ls st0) :=
  va_callr hr hw.2.2 (fun q _ h => xs_AA hK hw q h) (xs_AA hK hw) (fun _ a t H1 locs1 ht _ _ hB _ _ hS => by
    obtain ⟨e, hB⟩ := hB
    cases e
    exact kk H1 locs1 ⟨by rw [← ht]; exact hB, xs_D hw.2.1, hS⟩)
end XR
theorem xm_v {l : Launch} {y : MethodName} {cc : ByteArray} {maxL F L : Nat} {D : va_G} {ad : Nat → Nat} {ca : Nat → ClassId} {ks : List Nat} {S T : xs_T} {sz : Nat} {av : List Value} (hy : plainName y.cls = true) (hlen : (lg_sl av).length ≤ maxL)
    (body : ∀ (p : Program) (e : Env) (s : State) (m : MethodId) (args : Array Value) (below : List Frame) (meth : Method) (c : Code) (R : Room) (A : Nat → Prop) (Q : State → Prop) (ls : Array Slot), p.tables.exec = Jvm.exec → c.code = cc → c.maxLocals = maxL → s.vm.findClass y.cls = some m.cls → (∀ w ∈ xs_U, w.before args s = true) → F ≤ R.frames → L ≤ R.locals → xs_K D ad ca ks A s → xs_I D ad ca ks A s S s.heap [] → lv_has ls maxL (lv_args 0 av) → (∀ {H : Heap} {locs : List Loc} {ls : Array Slot} {pc : Nat} {S1 : xs_T}, some S1 = some T → xs_I D ad ca ks A s S1 H locs → decode cc pc = .ok (.return_, 1) → W p l e R s m args below meth c H locs 0 0 Q (F0 m pc ls [])) → W p l e R s m args below meth c s.heap [] 0 0 Q (F0 m 0 ls [])) :
    Met l y (Cond.code y cc maxL none :: xs_U) { frames := F, cells := 0, slots := 0, locals := L } (va_Pc av (xs_Pre D ad ca ks S sz)) (va_Qv (fun _ : Unit => True) (fun _ t => va_P D xs_cl (xs_w ad ca ks T) t.heap) (xs_A ad ks sz)) 0 0 (xs_A ad ks sz) := by
  refine Met.ofW (cc := cc) (maxL := maxL) (ret := none) hy rfl ?_
  intro p e s m args below meth c s₁ B hml hv
  obtain ⟨rfl, hsz, hP, hD, hK⟩ := hv
  subst hsz
  have hts := atoms_spec (ws := Cond.code y cc maxL none :: xs_U) B.pre
  have hown : s.vm.findClass y.cls = some m.cls := findClass_of_methodNamed B.named
  have hl := lv_entry av (n := maxL) hlen
  rw [lg_entry_eq]
  generalize (lg_sl av ++ List.replicate (maxL - (lg_sl av).length) Slot.unset).toArray = ls at hl ⊢
  refine body p e s m _ below meth c _ (xs_A ad ks s.heap.size) _ ls B.exec B.bytes hml hown (fun w h => hts w (List.mem_cons_of_mem _ h)) (Nat.le_refl _) (Nat.le_refl _) hK ⟨hP, xs_DA hD, va_S.rf⟩ hl ?_
  · intro H locs ls pc S1 g hw hd
    cases g
    exact W.vret B.exec B.bytes B.returns (fun t ht hW => ⟨⟨(), rfl, trivial, by show va_P D xs_cl _ t.heap; rw [ht]; exact hw.1⟩, hw.2.2.F ht⟩) hw.2.2.2.2 hd B.notSynchronized
theorem xm_i {l : Launch} {y : MethodName} {cc : ByteArray} {maxL F L : Nat} {D : va_G} {ad : Nat → Nat} {ca : Nat → ClassId} {ks : List Nat} {S T : xs_T} {r : Int32} {sz : Nat} {av : List Value} (hy : plainName y.cls = true) (hlen : (lg_sl av).length ≤ maxL)
    (body : ∀ (p : Program) (e : Env) (s : State) (m : MethodId) (args : Array Value) (below : List Frame) (meth : Method) (c : Code) (R : Room) (A : Nat → Prop) (Q : State → Prop) (ls : Array Slot), p.tables.exec = Jvm.exec → c.code = cc → c.maxLocals = maxL → s.vm.findClass y.cls = some m.cls → (∀ w ∈ xs_U, w.before args s = true) → F ≤ R.frames → L ≤ R.locals → xs_K D ad ca ks A s → xs_I D ad ca ks A s S s.heap [] → lv_has ls maxL (lv_args 0 av) → (∀ {H : Heap} {locs : List Loc} {ls : Array Slot} {pc : Nat} {v : Int32} {S1 : xs_T}, some (v, S1) = some (r, T) → xs_I D ad ca ks A s S1 H locs → decode cc pc = .ok (.ireturn, 1) → W p l e R s m args below meth c H locs 0 0 Q (F0 m pc ls [.int v])) → W p l e R s m args below meth c s.heap [] 0 0 Q (F0 m 0 ls [])) :
    Met l y (Cond.code y cc maxL (some .int) :: xs_U) { frames := F, cells := 0, slots := 0, locals := L } (va_Pc av (xs_Pre D ad ca ks S sz)) (va_Qi (fun r1 (_ : Unit) => r1 = r) (fun _ t => va_P D xs_cl (xs_w ad ca ks T) t.heap) (xs_A ad ks sz)) 0 0 (xs_A ad ks sz) := by
  refine Met.ofW (cc := cc) (maxL := maxL) (ret := (some .int)) hy rfl ?_
  intro p e s m args below meth c s₁ B hml hv
  obtain ⟨rfl, hsz, hP, hD, hK⟩ := hv
  subst hsz
  have hts := atoms_spec (ws := Cond.code y cc maxL (some .int) :: xs_U) B.pre
  have hown : s.vm.findClass y.cls = some m.cls := findClass_of_methodNamed B.named
  have hl := lv_entry av (n := maxL) hlen
  rw [lg_entry_eq]
  generalize (lg_sl av ++ List.replicate (maxL - (lg_sl av).length) Slot.unset).toArray = ls at hl ⊢
  refine body p e s m _ below meth c _ (xs_A ad ks s.heap.size) _ ls B.exec B.bytes hml hown (fun w h => hts w (List.mem_cons_of_mem _ h)) (Nat.le_refl _) (Nat.le_refl _) hK ⟨hP, xs_DA hD, va_S.rf⟩ hl ?_
  · intro H locs ls pc v S1 g hw hd
    cases g
    exact W.iret B.exec B.bytes B.returns (fun t ht hW => ⟨⟨_, (), rfl, rfl, by show va_P D xs_cl _ t.heap; rw [ht]; exact hw.1⟩, hw.2.2.F ht⟩) hw.2.2.2.2 hd B.notSynchronized
theorem xm_ir {l : Launch} {y : MethodName} {cc : ByteArray} {maxL F L : Nat} {D : va_G} {ad : Nat → Nat} {ca : Nat → ClassId} {ks : List Nat} {S : xs_T} {r : Int32} {sz : Nat} {av : List Value} (hy : plainName y.cls = true) (hlen : (lg_sl av).length ≤ maxL)
    (body : ∀ (p : Program) (e : Env) (s : State) (m : MethodId) (args : Array Value) (below : List Frame) (meth : Method) (c : Code) (R : Room) (A : Nat → Prop) (Q : State → Prop) (ls : Array Slot), p.tables.exec = Jvm.exec → c.code = cc → c.maxLocals = maxL → s.vm.findClass y.cls = some m.cls → (∀ w ∈ xs_U, w.before args s = true) → F ≤ R.frames → L ≤ R.locals → xs_K D ad ca ks A s → xs_I D ad ca ks A s S s.heap [] → lv_has ls maxL (lv_args 0 av) → (∀ {H : Heap} {locs : List Loc} {ls : Array Slot} {pc : Nat} {v : Int32}, some v = some r → xs_I D ad ca ks A s S H locs → decode cc pc = .ok (.ireturn, 1) → W p l e R s m args below meth c H locs 0 0 Q (F0 m pc ls [.int v])) → W p l e R s m args below meth c s.heap [] 0 0 Q (F0 m 0 ls [])) :
    Met l y (Cond.code y cc maxL (some .int) :: xs_U) { frames := F, cells := 0, slots := 0, locals := L } (va_Pc av (xs_Pre D ad ca ks S sz)) (va_Qi (fun r1 (_ : Unit) => r1 = r) (fun _ t => va_P D xs_cl (xs_w ad ca ks S) t.heap) (xs_A ad ks sz)) 0 0 (xs_A ad ks sz) := by
  refine Met.ofW (cc := cc) (maxL := maxL) (ret := (some .int)) hy rfl ?_
  intro p e s m args below meth c s₁ B hml hv
  obtain ⟨rfl, hsz, hP, hD, hK⟩ := hv
  subst hsz
  have hts := atoms_spec (ws := Cond.code y cc maxL (some .int) :: xs_U) B.pre
  have hown : s.vm.findClass y.cls = some m.cls := findClass_of_methodNamed B.named
  have hl := lv_entry av (n := maxL) hlen
  rw [lg_entry_eq]
  generalize (lg_sl av ++ List.replicate (maxL - (lg_sl av).length) Slot.unset).toArray = ls at hl ⊢
  refine body p e s m _ below meth c _ (xs_A ad ks s.heap.size) _ ls B.exec B.bytes hml hown (fun w h => hts w (List.mem_cons_of_mem _ h)) (Nat.le_refl _) (Nat.le_refl _) hK ⟨hP, xs_DA hD, va_S.rf⟩ hl ?_
  · intro H locs ls pc v g hw hd
    cases g
    exact W.iret B.exec B.bytes B.returns (fun t ht hW => ⟨⟨_, (), rfl, rfl, by show va_P D xs_cl _ t.heap; rw [ht]; exact hw.1⟩, hw.2.2.F ht⟩) hw.2.2.2.2 hd B.notSynchronized
theorem xm_z {l : Launch} {y : MethodName} {cc : ByteArray} {maxL F L : Nat} {D : va_G} {ad : Nat → Nat} {ca : Nat → ClassId} {ks : List Nat} {S T : xs_T} {r : Int32} {sz : Nat} {av : List Value} (hy : plainName y.cls = true) (hlen : (lg_sl av).length ≤ maxL)
    (body : ∀ (p : Program) (e : Env) (s : State) (m : MethodId) (args : Array Value) (below : List Frame) (meth : Method) (c : Code) (R : Room) (A : Nat → Prop) (Q : State → Prop) (ls : Array Slot), p.tables.exec = Jvm.exec → c.code = cc → c.maxLocals = maxL → s.vm.findClass y.cls = some m.cls → (∀ w ∈ xs_U, w.before args s = true) → F ≤ R.frames → L ≤ R.locals → xs_K D ad ca ks A s → xs_I D ad ca ks A s S s.heap [] → lv_has ls maxL (lv_args 0 av) → (∀ {H : Heap} {locs : List Loc} {ls : Array Slot} {pc : Nat} {v : Int32} {S1 : xs_T}, xs_rz v S1 = some (r, T) → xs_I D ad ca ks A s S1 H locs → decode cc pc = .ok (.ireturn, 1) → W p l e R s m args below meth c H locs 0 0 Q (F0 m pc ls [.int v])) → W p l e R s m args below meth c s.heap [] 0 0 Q (F0 m 0 ls [])) :
    Met l y (Cond.code y cc maxL (some .boolean) :: xs_U) { frames := F, cells := 0, slots := 0, locals := L } (va_Pc av (xs_Pre D ad ca ks S sz)) (va_Qi (fun r1 (_ : Unit) => r1 = r) (fun _ t => va_P D xs_cl (xs_w ad ca ks T) t.heap) (xs_A ad ks sz)) 0 0 (xs_A ad ks sz) := by
  refine Met.ofW (cc := cc) (maxL := maxL) (ret := (some .boolean)) hy rfl ?_
  intro p e s m args below meth c s₁ B hml hv
  obtain ⟨rfl, hsz, hP, hD, hK⟩ := hv
  subst hsz
  have hts := atoms_spec (ws := Cond.code y cc maxL (some .boolean) :: xs_U) B.pre
  have hown : s.vm.findClass y.cls = some m.cls := findClass_of_methodNamed B.named
  have hl := lv_entry av (n := maxL) hlen
  rw [lg_entry_eq]
  generalize (lg_sl av ++ List.replicate (maxL - (lg_sl av).length) Slot.unset).toArray = ls at hl ⊢
  refine body p e s m _ below meth c _ (xs_A ad ks s.heap.size) _ ls B.exec B.bytes hml hown (fun w h => hts w (List.mem_cons_of_mem _ h)) (Nat.le_refl _) (Nat.le_refl _) hK ⟨hP, xs_DA hD, va_S.rf⟩ hl ?_
  · intro H locs ls pc v S1 g hw hd
    obtain ⟨hz, g⟩ := xs_z01 g
    cases g
    exact W.zret B.exec B.bytes B.returns (xs_narZ hz).1 (fun t ht hW => ⟨⟨_, (), rfl, rfl, by show va_P D xs_cl _ t.heap; rw [ht]; exact hw.1⟩, hw.2.2.F ht⟩) hw.2.2.2.2 hd B.notSynchronized
theorem xm_zr {l : Launch} {y : MethodName} {cc : ByteArray} {maxL F L : Nat} {D : va_G} {ad : Nat → Nat} {ca : Nat → ClassId} {ks : List Nat} {S : xs_T} {r : Int32} {sz : Nat} {av : List Value} (hy : plainName y.cls = true) (hlen : (lg_sl av).length ≤ maxL)
    (body : ∀ (p : Program) (e : Env) (s : State) (m : MethodId) (args : Array Value) (below : List Frame) (meth : Method) (c : Code) (R : Room) (A : Nat → Prop) (Q : State → Prop) (ls : Array Slot), p.tables.exec = Jvm.exec → c.code = cc → c.maxLocals = maxL → s.vm.findClass y.cls = some m.cls → (∀ w ∈ xs_U, w.before args s = true) → F ≤ R.frames → L ≤ R.locals → xs_K D ad ca ks A s → xs_I D ad ca ks A s S s.heap [] → lv_has ls maxL (lv_args 0 av) → (∀ {H : Heap} {locs : List Loc} {ls : Array Slot} {pc : Nat} {v : Int32}, xs_rb v = some r → xs_I D ad ca ks A s S H locs → decode cc pc = .ok (.ireturn, 1) → W p l e R s m args below meth c H locs 0 0 Q (F0 m pc ls [.int v])) → W p l e R s m args below meth c s.heap [] 0 0 Q (F0 m 0 ls [])) :
    Met l y (Cond.code y cc maxL (some .boolean) :: xs_U) { frames := F, cells := 0, slots := 0, locals := L } (va_Pc av (xs_Pre D ad ca ks S sz)) (va_Qi (fun r1 (_ : Unit) => r1 = r) (fun _ t => va_P D xs_cl (xs_w ad ca ks S) t.heap) (xs_A ad ks sz)) 0 0 (xs_A ad ks sz) := by
  refine Met.ofW (cc := cc) (maxL := maxL) (ret := (some .boolean)) hy rfl ?_
  intro p e s m args below meth c s₁ B hml hv
  obtain ⟨rfl, hsz, hP, hD, hK⟩ := hv
  subst hsz
  have hts := atoms_spec (ws := Cond.code y cc maxL (some .boolean) :: xs_U) B.pre
  have hown : s.vm.findClass y.cls = some m.cls := findClass_of_methodNamed B.named
  have hl := lv_entry av (n := maxL) hlen
  rw [lg_entry_eq]
  generalize (lg_sl av ++ List.replicate (maxL - (lg_sl av).length) Slot.unset).toArray = ls at hl ⊢
  refine body p e s m _ below meth c _ (xs_A ad ks s.heap.size) _ ls B.exec B.bytes hml hown (fun w h => hts w (List.mem_cons_of_mem _ h)) (Nat.le_refl _) (Nat.le_refl _) hK ⟨hP, xs_DA hD, va_S.rf⟩ hl ?_
  · intro H locs ls pc v g hw hd
    obtain ⟨hz, g⟩ := xs_z01 g
    cases g
    exact W.zret B.exec B.bytes B.returns (xs_narZ hz).1 (fun t ht hW => ⟨⟨_, (), rfl, rfl, by show va_P D xs_cl _ t.heap; rw [ht]; exact hw.1⟩, hw.2.2.F ht⟩) hw.2.2.2.2 hd B.notSynchronized
theorem xm_l {l : Launch} {y : MethodName} {cc : ByteArray} {maxL F L : Nat} {D : va_G} {ad : Nat → Nat} {ca : Nat → ClassId} {ks : List Nat} {S T : xs_T} {r : Int64} {sz : Nat} {av : List Value} (hy : plainName y.cls = true) (hlen : (lg_sl av).length ≤ maxL)
    (body : ∀ (p : Program) (e : Env) (s : State) (m : MethodId) (args : Array Value) (below : List Frame) (meth : Method) (c : Code) (R : Room) (A : Nat → Prop) (Q : State → Prop) (ls : Array Slot), p.tables.exec = Jvm.exec → c.code = cc → c.maxLocals = maxL → s.vm.findClass y.cls = some m.cls → (∀ w ∈ xs_U, w.before args s = true) → F ≤ R.frames → L ≤ R.locals → xs_K D ad ca ks A s → xs_I D ad ca ks A s S s.heap [] → lv_has ls maxL (lv_args 0 av) → (∀ {H : Heap} {locs : List Loc} {ls : Array Slot} {pc : Nat} {v : Int64} {S1 : xs_T}, some (v, S1) = some (r, T) → xs_I D ad ca ks A s S1 H locs → decode cc pc = .ok (.lreturn, 1) → W p l e R s m args below meth c H locs 0 0 Q (F0 m pc ls [.long v])) → W p l e R s m args below meth c s.heap [] 0 0 Q (F0 m 0 ls [])) :
    Met l y (Cond.code y cc maxL (some .long) :: xs_U) { frames := F, cells := 0, slots := 0, locals := L } (va_Pc av (xs_Pre D ad ca ks S sz)) (va_Ql (fun r1 (_ : Unit) => r1 = r) (fun _ t => va_P D xs_cl (xs_w ad ca ks T) t.heap) (xs_A ad ks sz)) 0 0 (xs_A ad ks sz) := by
  refine Met.ofW (cc := cc) (maxL := maxL) (ret := (some .long)) hy rfl ?_
  intro p e s m args below meth c s₁ B hml hv
  obtain ⟨rfl, hsz, hP, hD, hK⟩ := hv
  subst hsz
  have hts := atoms_spec (ws := Cond.code y cc maxL (some .long) :: xs_U) B.pre
  have hown : s.vm.findClass y.cls = some m.cls := findClass_of_methodNamed B.named
  have hl := lv_entry av (n := maxL) hlen
  rw [lg_entry_eq]
  generalize (lg_sl av ++ List.replicate (maxL - (lg_sl av).length) Slot.unset).toArray = ls at hl ⊢
  refine body p e s m _ below meth c _ (xs_A ad ks s.heap.size) _ ls B.exec B.bytes hml hown (fun w h => hts w (List.mem_cons_of_mem _ h)) (Nat.le_refl _) (Nat.le_refl _) hK ⟨hP, xs_DA hD, va_S.rf⟩ hl ?_
  · intro H locs ls pc v S1 g hw hd
    cases g
    exact W.lret B.exec B.bytes B.returns (fun t ht hW => ⟨⟨_, (), rfl, rfl, by show va_P D xs_cl _ t.heap; rw [ht]; exact hw.1⟩, hw.2.2.F ht⟩) hw.2.2.2.2 hd B.notSynchronized
theorem xm_lr {l : Launch} {y : MethodName} {cc : ByteArray} {maxL F L : Nat} {D : va_G} {ad : Nat → Nat} {ca : Nat → ClassId} {ks : List Nat} {S : xs_T} {r : Int64} {sz : Nat} {av : List Value} (hy : plainName y.cls = true) (hlen : (lg_sl av).length ≤ maxL)
    (body : ∀ (p : Program) (e : Env) (s : State) (m : MethodId) (args : Array Value) (below : List Frame) (meth : Method) (c : Code) (R : Room) (A : Nat → Prop) (Q : State → Prop) (ls : Array Slot), p.tables.exec = Jvm.exec → c.code = cc → c.maxLocals = maxL → s.vm.findClass y.cls = some m.cls → (∀ w ∈ xs_U, w.before args s = true) → F ≤ R.frames → L ≤ R.locals → xs_K D ad ca ks A s → xs_I D ad ca ks A s S s.heap [] → lv_has ls maxL (lv_args 0 av) → (∀ {H : Heap} {locs : List Loc} {ls : Array Slot} {pc : Nat} {v : Int64}, some v = some r → xs_I D ad ca ks A s S H locs → decode cc pc = .ok (.lreturn, 1) → W p l e R s m args below meth c H locs 0 0 Q (F0 m pc ls [.long v])) → W p l e R s m args below meth c s.heap [] 0 0 Q (F0 m 0 ls [])) :
    Met l y (Cond.code y cc maxL (some .long) :: xs_U) { frames := F, cells := 0, slots := 0, locals := L } (va_Pc av (xs_Pre D ad ca ks S sz)) (va_Ql (fun r1 (_ : Unit) => r1 = r) (fun _ t => va_P D xs_cl (xs_w ad ca ks S) t.heap) (xs_A ad ks sz)) 0 0 (xs_A ad ks sz) := by
  refine Met.ofW (cc := cc) (maxL := maxL) (ret := (some .long)) hy rfl ?_
  intro p e s m args below meth c s₁ B hml hv
  obtain ⟨rfl, hsz, hP, hD, hK⟩ := hv
  subst hsz
  have hts := atoms_spec (ws := Cond.code y cc maxL (some .long) :: xs_U) B.pre
  have hown : s.vm.findClass y.cls = some m.cls := findClass_of_methodNamed B.named
  have hl := lv_entry av (n := maxL) hlen
  rw [lg_entry_eq]
  generalize (lg_sl av ++ List.replicate (maxL - (lg_sl av).length) Slot.unset).toArray = ls at hl ⊢
  refine body p e s m _ below meth c _ (xs_A ad ks s.heap.size) _ ls B.exec B.bytes hml hown (fun w h => hts w (List.mem_cons_of_mem _ h)) (Nat.le_refl _) (Nat.le_refl _) hK ⟨hP, xs_DA hD, va_S.rf⟩ hl ?_
  · intro H locs ls pc v g hw hd
    cases g
    exact W.lret B.exec B.bytes B.returns (fun t ht hW => ⟨⟨_, (), rfl, rfl, by show va_P D xs_cl _ t.heap; rw [ht]; exact hw.1⟩, hw.2.2.F ht⟩) hw.2.2.2.2 hd B.notSynchronized
theorem xm_a {l : Launch} {y : MethodName} {cc : ByteArray} {maxL F L : Nat} {rt : FieldType} {D : va_G} {ad : Nat → Nat} {ca : Nat → ClassId} {ks : List Nat} {S T : xs_T} {r : Nat} {sz : Nat} {av : List Value} (hy : plainName y.cls = true) (hlen : (lg_sl av).length ≤ maxL) (hrt : ∃ n, rt = .object n)
    (body : ∀ (p : Program) (e : Env) (s : State) (m : MethodId) (args : Array Value) (below : List Frame) (meth : Method) (c : Code) (R : Room) (A : Nat → Prop) (Q : State → Prop) (ls : Array Slot), p.tables.exec = Jvm.exec → c.code = cc → c.maxLocals = maxL → s.vm.findClass y.cls = some m.cls → (∀ w ∈ xs_U, w.before args s = true) → F ≤ R.frames → L ≤ R.locals → xs_K D ad ca ks A s → xs_I D ad ca ks A s S s.heap [] → lv_has ls maxL (lv_args 0 av) → (∀ {H : Heap} {locs : List Loc} {ls : Array Slot} {pc : Nat} {v : Nat} {S1 : xs_T}, some (v, S1) = some (r, T) → xs_I D ad ca ks A s S1 H locs → decode cc pc = .ok (.areturn, 1) → W p l e R s m args below meth c H locs 0 0 Q (F0 m pc ls [.ref (ad v)])) → W p l e R s m args below meth c s.heap [] 0 0 Q (F0 m 0 ls [])) :
    Met l y (Cond.code y cc maxL (some rt) :: xs_U) { frames := F, cells := 0, slots := 0, locals := L } (va_Pc av (xs_Pre D ad ca ks S sz)) (va_Qr (fun _ : Unit => True) (fun _ a t => a = ad r ∧ va_P D xs_cl (xs_w ad ca ks T) t.heap) (xs_A ad ks sz)) 0 0 (xs_A ad ks sz) := by
  refine Met.ofW (cc := cc) (maxL := maxL) (ret := (some rt)) hy rfl ?_
  intro p e s m args below meth c s₁ B hml hv
  obtain ⟨rfl, hsz, hP, hD, hK⟩ := hv
  subst hsz
  have hts := atoms_spec (ws := Cond.code y cc maxL (some rt) :: xs_U) B.pre
  have hown : s.vm.findClass y.cls = some m.cls := findClass_of_methodNamed B.named
  have hl := lv_entry av (n := maxL) hlen
  rw [lg_entry_eq]
  generalize (lg_sl av ++ List.replicate (maxL - (lg_sl av).length) Slot.unset).toArray = ls at hl ⊢
  refine body p e s m _ below meth c _ (xs_A ad ks s.heap.size) _ ls B.exec B.bytes hml hown (fun w h => hts w (List.mem_cons_of_mem _ h)) (Nat.le_refl _) (Nat.le_refl _) hK ⟨hP, xs_DA hD, va_S.rf⟩ hl ?_
  · intro H locs ls pc v S1 g hw hd
    cases g
    exact W.aret B.exec B.bytes B.returns (Or.inl hrt) (Or.inr ⟨_, rfl⟩) (fun t ht hW => ⟨⟨(), _, rfl, trivial, rfl, by show va_P D xs_cl _ t.heap; rw [ht]; exact hw.1⟩, hw.2.2.F ht⟩) hw.2.2.2.2 hd B.notSynchronized
theorem xm_ar {l : Launch} {y : MethodName} {cc : ByteArray} {maxL F L : Nat} {rt : FieldType} {D : va_G} {ad : Nat → Nat} {ca : Nat → ClassId} {ks : List Nat} {S : xs_T} {r : Nat} {sz : Nat} {av : List Value} (hy : plainName y.cls = true) (hlen : (lg_sl av).length ≤ maxL) (hrt : ∃ n, rt = .object n)
    (body : ∀ (p : Program) (e : Env) (s : State) (m : MethodId) (args : Array Value) (below : List Frame) (meth : Method) (c : Code) (R : Room) (A : Nat → Prop) (Q : State → Prop) (ls : Array Slot), p.tables.exec = Jvm.exec → c.code = cc → c.maxLocals = maxL → s.vm.findClass y.cls = some m.cls → (∀ w ∈ xs_U, w.before args s = true) → F ≤ R.frames → L ≤ R.locals → xs_K D ad ca ks A s → xs_I D ad ca ks A s S s.heap [] → lv_has ls maxL (lv_args 0 av) → (∀ {H : Heap} {locs : List Loc} {ls : Array Slot} {pc : Nat} {v : Nat}, some v = some r → xs_I D ad ca ks A s S H locs → decode cc pc = .ok (.areturn, 1) → W p l e R s m args below meth c H locs 0 0 Q (F0 m pc ls [.ref (ad v)])) → W p l e R s m args below meth c s.heap [] 0 0 Q (F0 m 0 ls [])) :
    Met l y (Cond.code y cc maxL (some rt) :: xs_U) { frames := F, cells := 0, slots := 0, locals := L } (va_Pc av (xs_Pre D ad ca ks S sz)) (va_Qr (fun _ : Unit => True) (fun _ a t => a = ad r ∧ va_P D xs_cl (xs_w ad ca ks S) t.heap) (xs_A ad ks sz)) 0 0 (xs_A ad ks sz) := by
  refine Met.ofW (cc := cc) (maxL := maxL) (ret := (some rt)) hy rfl ?_
  intro p e s m args below meth c s₁ B hml hv
  obtain ⟨rfl, hsz, hP, hD, hK⟩ := hv
  subst hsz
  have hts := atoms_spec (ws := Cond.code y cc maxL (some rt) :: xs_U) B.pre
  have hown : s.vm.findClass y.cls = some m.cls := findClass_of_methodNamed B.named
  have hl := lv_entry av (n := maxL) hlen
  rw [lg_entry_eq]
  generalize (lg_sl av ++ List.replicate (maxL - (lg_sl av).length) Slot.unset).toArray = ls at hl ⊢
  refine body p e s m _ below meth c _ (xs_A ad ks s.heap.size) _ ls B.exec B.bytes hml hown (fun w h => hts w (List.mem_cons_of_mem _ h)) (Nat.le_refl _) (Nat.le_refl _) hK ⟨hP, xs_DA hD, va_S.rf⟩ hl ?_
  · intro H locs ls pc v g hw hd
    cases g
    exact W.aret B.exec B.bytes B.returns (Or.inl hrt) (Or.inr ⟨_, rfl⟩) (fun t ht hW => ⟨⟨(), _, rfl, trivial, rfl, by show va_P D xs_cl _ t.heap; rw [ht]; exact hw.1⟩, hw.2.2.F ht⟩) hw.2.2.2.2 hd B.notSynchronized
