/-! the constructor of the reference -/
section XG
variable {p : Program} {l : Launch} {e : Env} {R : Room} {s : State} {m : MethodId} {args : Array Value} {below : List Frame} {meth : Method} {c : Code} {H : Heap} {locs : List Loc} {Q : State → Prop}
variable {cc : ByteArray} {pc : Nat} {ls : Array Slot} {rest : List Value} {D : va_G} {ad : Nat → Nat} {ca : Nat → ClassId} {ks : List Nat} {A : Nat → Prop} {S : xs_T} {T : xs_T}
variable {cells slots : Nat}
theorem xrg_iast (hx : p.tables.exec = Jvm.exec) (hb : c.code = cc) (hK : xs_K D ad ca ks A s) (hw : xs_I D ad ca ks A s S H locs) {k : Nat} (hk : xs_is ks k 50) {i : Int32} {v : Int32} (g : xs_wr S k i v = some T) (hdg : decode cc pc = .ok (.iastore, 1)) (kk : ∀ (H1 : Heap) (locs1 : List Loc), xs_I D ad ca ks A s T H1 locs1 → W p l e R s m args below meth c H1 locs1 cells slots Q (F0 m (pc + 1) ls rest)) : W p l e R s m args below meth c H locs cells slots Q (F0 m pc ls (.int v :: .int i :: .ref (ad k) :: rest)) := by
  obtain ⟨q, hq⟩ := xs_mem hk.1
  obtain ⟨hin, e⟩ := xs_in_of g
  cases e
  refine va_iast hx hb hK.2.1 hw.1 hw.2.1 hw.2.2 q 0 (by rw [xs_w_at hq, xs_cell_50 hk.2]) rfl hin hdg (fun H1 locs1 h1 h2 h3 => ?_)
  rw [xs_w_set (T := xs_sI S k i.toNatClampNeg v) hK.1.1 hq (by rw [xs_cell_50 hk.2]; simp only [xs_sI, xs_sL, xs_up_eq]) xs_sI_off] at h1 h2
  exact kk H1 locs1 ⟨h1, h2, h3⟩
theorem xrg_get_R (hx : p.tables.exec = Jvm.exec) (hb : c.code = cc) {own : String} {index : Nat} (hts : ∀ w ∈ xs_U, w.before args s = true) (hown : s.vm.findClass own = some m.cls) (hK : xs_K D ad ca ks A s) (hw : xs_I D ad ca ks A s S H locs) {k : Nat} (hk : xs_is ks k 10) (j : Nat) (hj : j < 40) (hlink : (Cond.fieldLink own index (T_R j).1 (T_R j).2.1 (T_R j).2.2.1).before args s = true) {v : Value} (hv : (xs_fs_R ad k (S.1 k))[j]? = some v) (hdg : decode cc pc = .ok (.getfield index, 3)) (kk : W p l e R s m args below meth c H locs cells slots Q (F0 m (pc + 3) ls (v :: rest))) : W p l e R s m args below meth c H locs cells slots Q (F0 m pc ls (.ref (ad k) :: rest)) := by
  obtain ⟨q, hq⟩ := xs_mem hk.1
  exact va_get (D := D) (ci := 10) (C := R_R) (T := T_R) (N := 40) hx hb hts in_R hown hK.2.1 hw.1 q (by rw [xs_w_at hq, xs_cell_R hk.2]) rfl j hj hlink (fun _ h9 => h9) hv hdg kk
theorem xqg_v {a : Array Value} {st0 : List Value} (hK : xs_K D ad ca ks A s) (hw : xs_I D ad ca ks A s S H locs) (hr : va_Run p l e R s m args below meth c H locs cells slots 0 0 (F0 m pc ls st0) rest (va_Qv (fun _ : Unit => True) (fun _ t => va_P D xs_cl (xs_w ad ca ks T) t.heap) (xs_A ad ks H.size) a) (xs_A ad ks H.size)) (kk : ∀ (H1 : Heap) (locs1 : List Loc), xs_I D ad ca ks A s T H1 locs1 → W p l e R s m args below meth c H1 locs1 cells slots Q (F0 m (pc + 3) ls (rest))) : W p l e R s m args below meth c H locs cells slots Q (F0 m pc ls st0) :=
  va_callv hr hw.2.2 (fun q _ h => xs_AA hK hw q h) (xs_AA hK hw) (fun _ t H1 locs1 ht _ _ hB _ _ hS => kk H1 locs1 ⟨by rw [← ht]; exact hB, xs_D hw.2.1, hS⟩)
end XG
theorem hs_10 : Cond.selects "WideNetModel" ⟨"WideNetModel", "boxes", "()V"⟩ ⟨"WideNetModel", "boxes", "()V"⟩ ∈ xs_U := xs_mk (List.mem_append_left _ (List.mem_of_getElem? (i := 10) rfl)) rfl
def wkR : List Nat := [200, 201, 202, 203, 204, 205, 206, 207, 208, 209, 210, 211, 212, 213, 214, 215, 216, 217, 218, 219, 220, 221, 222, 223, 224, 225, 226, 227, 228, 229, 230, 231, 232, 233, 234, 235, 236]
theorem wkR_ok : xs_ok wkR := ⟨by decide +kernel, by decide +kernel⟩
theorem wk_all : xs_all = wkW ++ wkR := by decide +kernel
def xs_zero : xs_T := (fun _ _ => 0, fun _ _ => 0, fun _ _ => 0)
def mP (n1 : Int32) (d i : Nat) (S : xs_T) : Prop := (∀ j, j < 16 * d + i → S.1 207 j = (n1 + 41 * nI (j / 16) + 13 * nI (j % 16)) &&& 255) ∧ (∀ e, e < d → S.1 226 e = -1) ∧ xs_bx S ∧ (∀ k j, k ≠ 201 → k ≠ 202 → k ≠ 207 → k ≠ 222 → k ≠ 226 → S.1 k j = 0) ∧ ∀ k j, S.2.1 k j = 0
theorem mP_key {n1 : Int32} {d i : Nat} {S : xs_T} (h : mP n1 d i S) (hi : i < 16) : mP n1 d (i + 1) (xs_sI S 207 (16 * d + i) ((n1 + 41 * nI d + 13 * nI i) &&& 255)) := by
  obtain ⟨h1, h2, h3, h4, h5⟩ := h
  refine ⟨fun j hj => ?_, fun e he => ?_, fun a ha => ?_, fun k j k1 k2 k3 k4 k5 => ?_, h5⟩
  · by_cases hji : j = 16 * d + i
    · subst hji
      rw [x_fI, show (16 * d + i) / 16 = d by omega, show (16 * d + i) % 16 = i by omega]
    · rw [x_fN hji]
      exact h1 j (by omega)
  · rw [x_fP (by decide)]
    exact h2 e he
  · rw [x_fP (by decide), x_fP (by decide)]
    exact h3 a ha
  · rw [x_fP k3]
    exact h4 k j k1 k2 k3 k4 k5
theorem mP_end {n1 : Int32} {d : Nat} {S : xs_T} (h : mP n1 d 16 S) : mP n1 (d + 1) 0 (xs_sI (xs_sI S 226 d (-1)) 222 d (-1)) := by
  obtain ⟨h1, h2, h3, h4, h5⟩ := h
  refine ⟨fun j hj => ?_, fun e he => ?_, fun a ha => ?_, fun k j k1 k2 k3 k4 k5 => ?_, h5⟩
  · rw [x_fP (by decide), x_fP (by decide)]
    exact h1 j (by omega)
  · rw [x_fP (by decide)]
    by_cases hed : e = d
    · subst hed
      exact x_fI
    · rw [x_fN hed]
      exact h2 e (by omega)
  · rw [x_fP (by decide), x_fP (by decide), x_fP (by decide), x_fP (by decide)]
    exact h3 a ha
  · rw [x_fP k4, x_fP k5]
    exact h4 k j k1 k2 k3 k4 k5
theorem mP_ini {n1 : Int32} {S : xs_T} (h : mP n1 3 0 S) : iniR (Ky n1) S := by
  obtain ⟨h1, h2, h3, h4, h5⟩ := h
  refine ⟨h3, fun d hd i hi => ?_, h2, fun k j _ k1 k2 k3 k4 k5 => h4 k j k1 k2 k3 k4 k5, fun k j _ => h5 k j⟩
  rw [h1 _ (by omega), show (16 * d + i) / 16 = d by omega, show (16 * d + i) % 16 = i by omega]
  exact and255 _
theorem mP_box {n1 : Int32} {T : xs_T} (h : xs_bx T) (hq : xs_eq [201, 202] xs_zero T) : mP n1 0 0 T := by
  refine ⟨fun j hj => absurd hj (Nat.not_lt_zero _), fun e he => absurd he (Nat.not_lt_zero _), h, fun k j k1 k2 _ _ _ => ?_, fun k j => ?_⟩
  · rw [hq.1 k (by simp; omega)]
    rfl
  · rw [hq.2]
    rfl
theorem yd_R_init : (yy_R_init).cls ≠ "java/lang/invoke/MethodHandle" ∧ (yy_R_init).cls ≠ "java/lang/invoke/VarHandle" ∧ (parseMethodDescriptor (yy_R_init).desc).map (fun d => d.parameters.length) = some 1 := by decide +kernel
theorem cR_201 {ad : Nat → Nat} {ca : Nat → ClassId} {f : Nat → Int32} {g : Nat → Int64} {u : Nat → Nat} : xs_cell ad ca 201 f g u = .inl (ca 0, 256, .inl f) := (xs_cell_50 (by decide +kernel)).trans (by rw [show xs_ln 201 = 256 by decide +kernel])
theorem cR_202 {ad : Nat → Nat} {ca : Nat → ClassId} {f : Nat → Int32} {g : Nat → Int64} {u : Nat → Nat} : xs_cell ad ca 202 f g u = .inl (ca 0, 256, .inl f) := (xs_cell_50 (by decide +kernel)).trans (by rw [show xs_ln 202 = 256 by decide +kernel])
theorem cR_203 {ad : Nat → Nat} {ca : Nat → ClassId} {f : Nat → Int32} {g : Nat → Int64} {u : Nat → Nat} : xs_cell ad ca 203 f g u = .inl (ca 0, 176, .inl f) := (xs_cell_50 (by decide +kernel)).trans (by rw [show xs_ln 203 = 176 by decide +kernel])
theorem cR_204 {ad : Nat → Nat} {ca : Nat → ClassId} {f : Nat → Int32} {g : Nat → Int64} {u : Nat → Nat} : xs_cell ad ca 204 f g u = .inl (ca 0, 16, .inl f) := (xs_cell_50 (by decide +kernel)).trans (by rw [show xs_ln 204 = 16 by decide +kernel])
theorem cR_205 {ad : Nat → Nat} {ca : Nat → ClassId} {f : Nat → Int32} {g : Nat → Int64} {u : Nat → Nat} : xs_cell ad ca 205 f g u = .inl (ca 0, 16, .inl f) := (xs_cell_50 (by decide +kernel)).trans (by rw [show xs_ln 205 = 16 by decide +kernel])
theorem cR_206 {ad : Nat → Nat} {ca : Nat → ClassId} {f : Nat → Int32} {g : Nat → Int64} {u : Nat → Nat} : xs_cell ad ca 206 f g u = .inl (ca 0, 16, .inl f) := (xs_cell_50 (by decide +kernel)).trans (by rw [show xs_ln 206 = 16 by decide +kernel])
theorem cR_207 {ad : Nat → Nat} {ca : Nat → ClassId} {f : Nat → Int32} {g : Nat → Int64} {u : Nat → Nat} : xs_cell ad ca 207 f g u = .inl (ca 0, 240, .inl f) := (xs_cell_50 (by decide +kernel)).trans (by rw [show xs_ln 207 = 240 by decide +kernel])
theorem cR_208 {ad : Nat → Nat} {ca : Nat → ClassId} {f : Nat → Int32} {g : Nat → Int64} {u : Nat → Nat} : xs_cell ad ca 208 f g u = .inl (ca 0, 64, .inl f) := (xs_cell_50 (by decide +kernel)).trans (by rw [show xs_ln 208 = 64 by decide +kernel])
theorem cR_209 {ad : Nat → Nat} {ca : Nat → ClassId} {f : Nat → Int32} {g : Nat → Int64} {u : Nat → Nat} : xs_cell ad ca 209 f g u = .inl (ca 0, 768, .inl f) := (xs_cell_50 (by decide +kernel)).trans (by rw [show xs_ln 209 = 768 by decide +kernel])
theorem cR_210 {ad : Nat → Nat} {ca : Nat → ClassId} {f : Nat → Int32} {g : Nat → Int64} {u : Nat → Nat} : xs_cell ad ca 210 f g u = .inl (ca 0, 24, .inl f) := (xs_cell_50 (by decide +kernel)).trans (by rw [show xs_ln 210 = 24 by decide +kernel])
theorem cR_211 {ad : Nat → Nat} {ca : Nat → ClassId} {f : Nat → Int32} {g : Nat → Int64} {u : Nat → Nat} : xs_cell ad ca 211 f g u = .inl (ca 0, 24, .inl f) := (xs_cell_50 (by decide +kernel)).trans (by rw [show xs_ln 211 = 24 by decide +kernel])
theorem cR_212 {ad : Nat → Nat} {ca : Nat → ClassId} {f : Nat → Int32} {g : Nat → Int64} {u : Nat → Nat} : xs_cell ad ca 212 f g u = .inl (ca 0, 3, .inl f) := (xs_cell_50 (by decide +kernel)).trans (by rw [show xs_ln 212 = 3 by decide +kernel])
theorem cR_213 {ad : Nat → Nat} {ca : Nat → ClassId} {f : Nat → Int32} {g : Nat → Int64} {u : Nat → Nat} : xs_cell ad ca 213 f g u = .inl (ca 1, 3, .inl f) := (xs_cell_51 (by decide +kernel)).trans (by rw [show xs_ln 213 = 3 by decide +kernel])
theorem cR_214 {ad : Nat → Nat} {ca : Nat → ClassId} {f : Nat → Int32} {g : Nat → Int64} {u : Nat → Nat} : xs_cell ad ca 214 f g u = .inl (ca 0, 3, .inl f) := (xs_cell_50 (by decide +kernel)).trans (by rw [show xs_ln 214 = 3 by decide +kernel])
theorem cR_215 {ad : Nat → Nat} {ca : Nat → ClassId} {f : Nat → Int32} {g : Nat → Int64} {u : Nat → Nat} : xs_cell ad ca 215 f g u = .inl (ca 0, 3, .inl f) := (xs_cell_50 (by decide +kernel)).trans (by rw [show xs_ln 215 = 3 by decide +kernel])
theorem cR_216 {ad : Nat → Nat} {ca : Nat → ClassId} {f : Nat → Int32} {g : Nat → Int64} {u : Nat → Nat} : xs_cell ad ca 216 f g u = .inl (ca 0, 3, .inl f) := (xs_cell_50 (by decide +kernel)).trans (by rw [show xs_ln 216 = 3 by decide +kernel])
theorem cR_217 {ad : Nat → Nat} {ca : Nat → ClassId} {f : Nat → Int32} {g : Nat → Int64} {u : Nat → Nat} : xs_cell ad ca 217 f g u = .inl (ca 0, 3, .inl f) := (xs_cell_50 (by decide +kernel)).trans (by rw [show xs_ln 217 = 3 by decide +kernel])
theorem cR_218 {ad : Nat → Nat} {ca : Nat → ClassId} {f : Nat → Int32} {g : Nat → Int64} {u : Nat → Nat} : xs_cell ad ca 218 f g u = .inl (ca 0, 3, .inl f) := (xs_cell_50 (by decide +kernel)).trans (by rw [show xs_ln 218 = 3 by decide +kernel])
theorem cR_219 {ad : Nat → Nat} {ca : Nat → ClassId} {f : Nat → Int32} {g : Nat → Int64} {u : Nat → Nat} : xs_cell ad ca 219 f g u = .inl (ca 0, 3, .inl f) := (xs_cell_50 (by decide +kernel)).trans (by rw [show xs_ln 219 = 3 by decide +kernel])
theorem cR_220 {ad : Nat → Nat} {ca : Nat → ClassId} {f : Nat → Int32} {g : Nat → Int64} {u : Nat → Nat} : xs_cell ad ca 220 f g u = .inl (ca 0, 3, .inl f) := (xs_cell_50 (by decide +kernel)).trans (by rw [show xs_ln 220 = 3 by decide +kernel])
theorem cR_221 {ad : Nat → Nat} {ca : Nat → ClassId} {f : Nat → Int32} {g : Nat → Int64} {u : Nat → Nat} : xs_cell ad ca 221 f g u = .inl (ca 0, 3, .inl f) := (xs_cell_50 (by decide +kernel)).trans (by rw [show xs_ln 221 = 3 by decide +kernel])
theorem cR_222 {ad : Nat → Nat} {ca : Nat → ClassId} {f : Nat → Int32} {g : Nat → Int64} {u : Nat → Nat} : xs_cell ad ca 222 f g u = .inl (ca 0, 3, .inl f) := (xs_cell_50 (by decide +kernel)).trans (by rw [show xs_ln 222 = 3 by decide +kernel])
theorem cR_223 {ad : Nat → Nat} {ca : Nat → ClassId} {f : Nat → Int32} {g : Nat → Int64} {u : Nat → Nat} : xs_cell ad ca 223 f g u = .inl (ca 0, 3, .inl f) := (xs_cell_50 (by decide +kernel)).trans (by rw [show xs_ln 223 = 3 by decide +kernel])
theorem cR_224 {ad : Nat → Nat} {ca : Nat → ClassId} {f : Nat → Int32} {g : Nat → Int64} {u : Nat → Nat} : xs_cell ad ca 224 f g u = .inl (ca 0, 3, .inl f) := (xs_cell_50 (by decide +kernel)).trans (by rw [show xs_ln 224 = 3 by decide +kernel])
theorem cR_225 {ad : Nat → Nat} {ca : Nat → ClassId} {f : Nat → Int32} {g : Nat → Int64} {u : Nat → Nat} : xs_cell ad ca 225 f g u = .inl (ca 0, 3, .inl f) := (xs_cell_50 (by decide +kernel)).trans (by rw [show xs_ln 225 = 3 by decide +kernel])
theorem cR_226 {ad : Nat → Nat} {ca : Nat → ClassId} {f : Nat → Int32} {g : Nat → Int64} {u : Nat → Nat} : xs_cell ad ca 226 f g u = .inl (ca 0, 3, .inl f) := (xs_cell_50 (by decide +kernel)).trans (by rw [show xs_ln 226 = 3 by decide +kernel])
theorem cR_227 {ad : Nat → Nat} {ca : Nat → ClassId} {f : Nat → Int32} {g : Nat → Int64} {u : Nat → Nat} : xs_cell ad ca 227 f g u = .inl (ca 0, 3, .inl f) := (xs_cell_50 (by decide +kernel)).trans (by rw [show xs_ln 227 = 3 by decide +kernel])
theorem cR_228 {ad : Nat → Nat} {ca : Nat → ClassId} {f : Nat → Int32} {g : Nat → Int64} {u : Nat → Nat} : xs_cell ad ca 228 f g u = .inl (ca 0, 3, .inl f) := (xs_cell_50 (by decide +kernel)).trans (by rw [show xs_ln 228 = 3 by decide +kernel])
theorem cR_229 {ad : Nat → Nat} {ca : Nat → ClassId} {f : Nat → Int32} {g : Nat → Int64} {u : Nat → Nat} : xs_cell ad ca 229 f g u = .inl (ca 1, 3, .inl f) := (xs_cell_51 (by decide +kernel)).trans (by rw [show xs_ln 229 = 3 by decide +kernel])
theorem cR_230 {ad : Nat → Nat} {ca : Nat → ClassId} {f : Nat → Int32} {g : Nat → Int64} {u : Nat → Nat} : xs_cell ad ca 230 f g u = .inl (ca 1, 3, .inl f) := (xs_cell_51 (by decide +kernel)).trans (by rw [show xs_ln 230 = 3 by decide +kernel])
theorem cR_231 {ad : Nat → Nat} {ca : Nat → ClassId} {f : Nat → Int32} {g : Nat → Int64} {u : Nat → Nat} : xs_cell ad ca 231 f g u = .inl (ca 2, 12, .inr (.inl g)) := (xs_cell_52 (by decide +kernel)).trans (by rw [show xs_ln 231 = 12 by decide +kernel])
theorem cR_232 {ad : Nat → Nat} {ca : Nat → ClassId} {f : Nat → Int32} {g : Nat → Int64} {u : Nat → Nat} : xs_cell ad ca 232 f g u = .inl (ca 0, 12, .inl f) := (xs_cell_50 (by decide +kernel)).trans (by rw [show xs_ln 232 = 12 by decide +kernel])
theorem cR_233 {ad : Nat → Nat} {ca : Nat → ClassId} {f : Nat → Int32} {g : Nat → Int64} {u : Nat → Nat} : xs_cell ad ca 233 f g u = .inl (ca 0, 3, .inl f) := (xs_cell_50 (by decide +kernel)).trans (by rw [show xs_ln 233 = 3 by decide +kernel])
theorem cR_234 {ad : Nat → Nat} {ca : Nat → ClassId} {f : Nat → Int32} {g : Nat → Int64} {u : Nat → Nat} : xs_cell ad ca 234 f g u = .inl (ca 0, 6, .inl f) := (xs_cell_50 (by decide +kernel)).trans (by rw [show xs_ln 234 = 6 by decide +kernel])
theorem cR_235 {ad : Nat → Nat} {ca : Nat → ClassId} {f : Nat → Int32} {g : Nat → Int64} {u : Nat → Nat} : xs_cell ad ca 235 f g u = .inl (ca 2, 24, .inr (.inl g)) := (xs_cell_52 (by decide +kernel)).trans (by rw [show xs_ln 235 = 24 by decide +kernel])
theorem cR_236 {ad : Nat → Nat} {ca : Nat → ClassId} {f : Nat → Int32} {g : Nat → Int64} {u : Nat → Nat} : xs_cell ad ca 236 f g u = .inl (ca 0, 9, .inl f) := (xs_cell_50 (by decide +kernel)).trans (by rw [show xs_ln 236 = 9 by decide +kernel])
theorem xk_eqR {ca : Nat → ClassId} {ad : Nat → Nat} : xs_w ad ca wkR xs_zero = [(ad 200, .inr (10, [.ref (ad 201), .ref (ad 202), .ref (ad 203), .ref (ad 204), .ref (ad 205), .ref (ad 206), .ref (ad 207), .ref (ad 208), .int 0, .ref (ad 209), .ref (ad 210), .ref (ad 211), .int 0, .int 0, .ref (ad 212), .ref (ad 213), .ref (ad 214), .ref (ad 215), .ref (ad 216), .ref (ad 217), .ref (ad 218), .ref (ad 219), .ref (ad 220), .int 0, .ref (ad 221), .ref (ad 222), .ref (ad 223), .ref (ad 224), .ref (ad 225), .ref (ad 226), .ref (ad 227), .ref (ad 228), .ref (ad 229), .ref (ad 230), .ref (ad 231), .ref (ad 232), .ref (ad 233), .ref (ad 234), .ref (ad 235), .ref (ad 236)])), (ad 201, .inl (ca 0, 256, .inl fun _ => 0)), (ad 202, .inl (ca 0, 256, .inl fun _ => 0)), (ad 203, .inl (ca 0, 176, .inl fun _ => 0)), (ad 204, .inl (ca 0, 16, .inl fun _ => 0)), (ad 205, .inl (ca 0, 16, .inl fun _ => 0)), (ad 206, .inl (ca 0, 16, .inl fun _ => 0)), (ad 207, .inl (ca 0, 240, .inl fun _ => 0)), (ad 208, .inl (ca 0, 64, .inl fun _ => 0)), (ad 209, .inl (ca 0, 768, .inl fun _ => 0)), (ad 210, .inl (ca 0, 24, .inl fun _ => 0)), (ad 211, .inl (ca 0, 24, .inl fun _ => 0)), (ad 212, .inl (ca 0, 3, .inl fun _ => 0)), (ad 213, .inl (ca 1, 3, .inl fun _ => 0)), (ad 214, .inl (ca 0, 3, .inl fun _ => 0)), (ad 215, .inl (ca 0, 3, .inl fun _ => 0)), (ad 216, .inl (ca 0, 3, .inl fun _ => 0)), (ad 217, .inl (ca 0, 3, .inl fun _ => 0)), (ad 218, .inl (ca 0, 3, .inl fun _ => 0)), (ad 219, .inl (ca 0, 3, .inl fun _ => 0)), (ad 220, .inl (ca 0, 3, .inl fun _ => 0)), (ad 221, .inl (ca 0, 3, .inl fun _ => 0)), (ad 222, .inl (ca 0, 3, .inl fun _ => 0)), (ad 223, .inl (ca 0, 3, .inl fun _ => 0)), (ad 224, .inl (ca 0, 3, .inl fun _ => 0)), (ad 225, .inl (ca 0, 3, .inl fun _ => 0)), (ad 226, .inl (ca 0, 3, .inl fun _ => 0)), (ad 227, .inl (ca 0, 3, .inl fun _ => 0)), (ad 228, .inl (ca 0, 3, .inl fun _ => 0)), (ad 229, .inl (ca 1, 3, .inl fun _ => 0)), (ad 230, .inl (ca 1, 3, .inl fun _ => 0)), (ad 231, .inl (ca 2, 12, .inr (.inl fun _ => 0))), (ad 232, .inl (ca 0, 12, .inl fun _ => 0)), (ad 233, .inl (ca 0, 3, .inl fun _ => 0)), (ad 234, .inl (ca 0, 6, .inl fun _ => 0)), (ad 235, .inl (ca 2, 24, .inr (.inl fun _ => 0))), (ad 236, .inl (ca 0, 9, .inl fun _ => 0))] := by
  simp only [xs_w, wkR, List.map_cons, List.map_nil, xs_cell_R (k := 200) (by decide +kernel), cR_201, cR_202, cR_203, cR_204, cR_205, cR_206, cR_207, cR_208, cR_209, cR_210, cR_211, cR_212, cR_213, cR_214, cR_215, cR_216, cR_217, cR_218, cR_219, cR_220, cR_221, cR_222, cR_223, cR_224, cR_225, cR_226, cR_227, cR_228, cR_229, cR_230, cR_231, cR_232, cR_233, cR_234, cR_235, cR_236]
  rfl
set_option maxHeartbeats 8000000 in
set_option maxRecDepth 100000 in
theorem xn_R (l : Launch) (D : va_G) (ca : Nat → ClassId) (ad0 : Nat → Nat) (h0 sz : Nat) (n1 : Int32) : Met l yy_R_init ws_R_init { frames := 3, cells := 36, slots := 1979, locals := 69 } (va_Pc [.ref h0, .int n1] (xs_PreZ D ca [(h0, .inr (10, [.null, .null, .null, .null, .null, .null, .null, .null, .int 0, .null, .null, .null, .int 0, .int 0, .null, .null, .null, .null, .null, .null, .null, .null, .null, .int 0, .null, .null, .null, .null, .null, .null, .null, .null, .null, .null, .null, .null, .null, .null, .null, .null]))] ad0 sz)) (va_Qv (fun u : (Nat → Nat) × xs_T => u.1 200 = h0 ∧ u.1 171 = ad0 171 ∧ u.1 172 = ad0 172 ∧ iniR (Ky n1) u.2) (fun u t => va_P D xs_cl (xs_w u.1 ca wkR u.2) t.heap ∧ va_D (va_A [(h0, .inr (10, [.null, .null, .null, .null, .null, .null, .null, .null, .int 0, .null, .null, .null, .int 0, .int 0, .null, .null, .null, .null, .null, .null, .null, .null, .null, .int 0, .null, .null, .null, .null, .null, .null, .null, .null, .null, .null, .null, .null, .null, .null, .null, .null]))] sz) (xs_w u.1 ca wkR u.2)) (va_A [(h0, .inr (10, [.null, .null, .null, .null, .null, .null, .null, .null, .int 0, .null, .null, .null, .int 0, .int 0, .null, .null, .null, .null, .null, .null, .null, .null, .null, .int 0, .null, .null, .null, .null, .null, .null, .null, .null, .null, .null, .null, .null, .null, .null, .null, .null]))] sz)) 36 1979 (va_A [(h0, .inr (10, [.null, .null, .null, .null, .null, .null, .null, .null, .int 0, .null, .null, .null, .int 0, .int 0, .null, .null, .null, .null, .null, .null, .null, .null, .null, .int 0, .null, .null, .null, .null, .null, .null, .null, .null, .null, .null, .null, .null, .null, .null, .null, .null]))] sz) := by
  refine xn_vz (X := fun u : (Nat → Nat) × xs_T => xs_w u.1 ca wkR u.2) (by decide) (Nat.le_of_ble_eq_true rfl) ?_
  intro p e s m args below meth c R A Q ls hx hb hml hown hts hRf hRl hRc hRs hin hKK hA hZ hJ hl hret
  have hin : meth.name = "<init>" := hin
  have hl : lv_has ls 4 [(0, .ref h0), (1, .int n1)] := hl
  refine lv_aload_n hx hb dd_R_init_0 rfl (lv_at hl 0 rfl) ?_
  refine W.objInit hx hb hown (hts _ hw_728) (hts _ hw_22) (hts _ hw_23) rfl (by rw [hml]; exact hl.1) rfl dd_R_init_1 (Nat.le_trans (by decide) hRf) (Nat.le_trans (Nat.le_of_ble_eq_true rfl) hRl) ?_
  refine W.eq (g2 := F0 m 4 ls []) rfl ?_
  refine lv_aload_n hx hb dd_R_init_4 rfl (lv_at hl 0 rfl) ?_
  refine lv_sipush (v := 256) hx hb dd_R_init_5 rfl ?_
  refine xk_newI hx hb (hts _ hw_57) hKK hA hJ 256 (by decide) (by decide) (by decide) (Nat.le_trans (by decide) hRc) (Nat.le_trans (by decide) hRs) dd_R_init_8 (fun q1 H hJ => ?_)
  obtain ⟨G1, hG1⟩ : ∃ G, G = ([] : va_W) ++ [(q1, .inl (ca 0, 256, .inl fun _ => 0))] := ⟨_, rfl⟩
  have hJ : xs_J D A s ((h0, .inr (10, [.null, .null, .null, .null, .null, .null, .null, .null, .int 0, .null, .null, .null, .int 0, .int 0, .null, .null, .null, .null, .null, .null, .null, .null, .null, .int 0, .null, .null, .null, .null, .null, .null, .null, .null, .null, .null, .null, .null, .null, .null, .null, .null])) :: G1) H [] := by
    rw [hG1]
    exact hJ
  refine xk_putF_R (ty := .array (.int)) hx hb hts hown hKK hJ 0 (by decide) (hts _ hw_743) rfl hin rfl (by decide +kernel) rfl rfl (Nat.le_of_ble_eq_true rfl) dd_R_init_10 (fun H locs hJ => ?_)
  have hJ : xs_J D A s ((h0, .inr (10, [.ref q1, .null, .null, .null, .null, .null, .null, .null, .int 0, .null, .null, .null, .int 0, .int 0, .null, .null, .null, .null, .null, .null, .null, .null, .null, .int 0, .null, .null, .null, .null, .null, .null, .null, .null, .null, .null, .null, .null, .null, .null, .null, .null])) :: G1) _ _ := hJ
  refine lv_aload_n hx hb dd_R_init_13 rfl (lv_at hl 0 rfl) ?_
  refine lv_sipush (v := 256) hx hb dd_R_init_14 rfl ?_
  refine xk_newI hx hb (hts _ hw_57) hKK hA hJ 256 (by decide) (by decide) (by decide) (Nat.le_trans (by decide) hRc) (Nat.le_trans (by decide) hRs) dd_R_init_17 (fun q2 H hJ => ?_)
  obtain ⟨G2, hG2⟩ : ∃ G, G = G1 ++ [(q2, .inl (ca 0, 256, .inl fun _ => 0))] := ⟨_, rfl⟩
  have hJ : xs_J D A s ((h0, .inr (10, [.ref q1, .null, .null, .null, .null, .null, .null, .null, .int 0, .null, .null, .null, .int 0, .int 0, .null, .null, .null, .null, .null, .null, .null, .null, .null, .int 0, .null, .null, .null, .null, .null, .null, .null, .null, .null, .null, .null, .null, .null, .null, .null, .null])) :: G2) H locs := by
    rw [hG2]
    exact hJ
  refine xk_putF_R (ty := .array (.int)) hx hb hts hown hKK hJ 1 (by decide) (hts _ hw_744) rfl hin rfl (by decide +kernel) rfl rfl (Nat.le_of_ble_eq_true rfl) dd_R_init_19 (fun H locs hJ => ?_)
  have hJ : xs_J D A s ((h0, .inr (10, [.ref q1, .ref q2, .null, .null, .null, .null, .null, .null, .int 0, .null, .null, .null, .int 0, .int 0, .null, .null, .null, .null, .null, .null, .null, .null, .null, .int 0, .null, .null, .null, .null, .null, .null, .null, .null, .null, .null, .null, .null, .null, .null, .null, .null])) :: G2) _ _ := hJ
  refine lv_aload_n hx hb dd_R_init_22 rfl (lv_at hl 0 rfl) ?_
  refine lv_sipush (v := 176) hx hb dd_R_init_23 rfl ?_
  refine xk_newI hx hb (hts _ hw_57) hKK hA hJ 176 (by decide) (by decide) (by decide) (Nat.le_trans (by decide) hRc) (Nat.le_trans (by decide) hRs) dd_R_init_26 (fun q3 H hJ => ?_)
  obtain ⟨G3, hG3⟩ : ∃ G, G = G2 ++ [(q3, .inl (ca 0, 176, .inl fun _ => 0))] := ⟨_, rfl⟩
  have hJ : xs_J D A s ((h0, .inr (10, [.ref q1, .ref q2, .null, .null, .null, .null, .null, .null, .int 0, .null, .null, .null, .int 0, .int 0, .null, .null, .null, .null, .null, .null, .null, .null, .null, .int 0, .null, .null, .null, .null, .null, .null, .null, .null, .null, .null, .null, .null, .null, .null, .null, .null])) :: G3) H locs := by
    rw [hG3]
    exact hJ
  refine xk_putF_R (ty := .array (.int)) hx hb hts hown hKK hJ 2 (by decide) (hts _ hw_745) rfl hin rfl (by decide +kernel) rfl rfl (Nat.le_of_ble_eq_true rfl) dd_R_init_28 (fun H locs hJ => ?_)
  have hJ : xs_J D A s ((h0, .inr (10, [.ref q1, .ref q2, .ref q3, .null, .null, .null, .null, .null, .int 0, .null, .null, .null, .int 0, .int 0, .null, .null, .null, .null, .null, .null, .null, .null, .null, .int 0, .null, .null, .null, .null, .null, .null, .null, .null, .null, .null, .null, .null, .null, .null, .null, .null])) :: G3) _ _ := hJ
  refine lv_aload_n hx hb dd_R_init_31 rfl (lv_at hl 0 rfl) ?_
  refine lv_bipush (v := 16) hx hb dd_R_init_32 rfl ?_
  refine xk_newI hx hb (hts _ hw_57) hKK hA hJ 16 (by decide) (by decide) (by decide) (Nat.le_trans (by decide) hRc) (Nat.le_trans (by decide) hRs) dd_R_init_34 (fun q4 H hJ => ?_)
  obtain ⟨G4, hG4⟩ : ∃ G, G = G3 ++ [(q4, .inl (ca 0, 16, .inl fun _ => 0))] := ⟨_, rfl⟩
  have hJ : xs_J D A s ((h0, .inr (10, [.ref q1, .ref q2, .ref q3, .null, .null, .null, .null, .null, .int 0, .null, .null, .null, .int 0, .int 0, .null, .null, .null, .null, .null, .null, .null, .null, .null, .int 0, .null, .null, .null, .null, .null, .null, .null, .null, .null, .null, .null, .null, .null, .null, .null, .null])) :: G4) H locs := by
    rw [hG4]
    exact hJ
  refine xk_putF_R (ty := .array (.int)) hx hb hts hown hKK hJ 3 (by decide) (hts _ hw_746) rfl hin rfl (by decide +kernel) rfl rfl (Nat.le_of_ble_eq_true rfl) dd_R_init_36 (fun H locs hJ => ?_)
  have hJ : xs_J D A s ((h0, .inr (10, [.ref q1, .ref q2, .ref q3, .ref q4, .null, .null, .null, .null, .int 0, .null, .null, .null, .int 0, .int 0, .null, .null, .null, .null, .null, .null, .null, .null, .null, .int 0, .null, .null, .null, .null, .null, .null, .null, .null, .null, .null, .null, .null, .null, .null, .null, .null])) :: G4) _ _ := hJ
  refine lv_aload_n hx hb dd_R_init_39 rfl (lv_at hl 0 rfl) ?_
  refine lv_bipush (v := 16) hx hb dd_R_init_40 rfl ?_
  refine xk_newI hx hb (hts _ hw_57) hKK hA hJ 16 (by decide) (by decide) (by decide) (Nat.le_trans (by decide) hRc) (Nat.le_trans (by decide) hRs) dd_R_init_42 (fun q5 H hJ => ?_)
  obtain ⟨G5, hG5⟩ : ∃ G, G = G4 ++ [(q5, .inl (ca 0, 16, .inl fun _ => 0))] := ⟨_, rfl⟩
  have hJ : xs_J D A s ((h0, .inr (10, [.ref q1, .ref q2, .ref q3, .ref q4, .null, .null, .null, .null, .int 0, .null, .null, .null, .int 0, .int 0, .null, .null, .null, .null, .null, .null, .null, .null, .null, .int 0, .null, .null, .null, .null, .null, .null, .null, .null, .null, .null, .null, .null, .null, .null, .null, .null])) :: G5) H locs := by
    rw [hG5]
    exact hJ
  refine xk_putF_R (ty := .array (.int)) hx hb hts hown hKK hJ 4 (by decide) (hts _ hw_747) rfl hin rfl (by decide +kernel) rfl rfl (Nat.le_of_ble_eq_true rfl) dd_R_init_44 (fun H locs hJ => ?_)
  have hJ : xs_J D A s ((h0, .inr (10, [.ref q1, .ref q2, .ref q3, .ref q4, .ref q5, .null, .null, .null, .int 0, .null, .null, .null, .int 0, .int 0, .null, .null, .null, .null, .null, .null, .null, .null, .null, .int 0, .null, .null, .null, .null, .null, .null, .null, .null, .null, .null, .null, .null, .null, .null, .null, .null])) :: G5) _ _ := hJ
  refine lv_aload_n hx hb dd_R_init_47 rfl (lv_at hl 0 rfl) ?_
  refine lv_bipush (v := 16) hx hb dd_R_init_48 rfl ?_
  refine xk_newI hx hb (hts _ hw_57) hKK hA hJ 16 (by decide) (by decide) (by decide) (Nat.le_trans (by decide) hRc) (Nat.le_trans (by decide) hRs) dd_R_init_50 (fun q6 H hJ => ?_)
  obtain ⟨G6, hG6⟩ : ∃ G, G = G5 ++ [(q6, .inl (ca 0, 16, .inl fun _ => 0))] := ⟨_, rfl⟩
  have hJ : xs_J D A s ((h0, .inr (10, [.ref q1, .ref q2, .ref q3, .ref q4, .ref q5, .null, .null, .null, .int 0, .null, .null, .null, .int 0, .int 0, .null, .null, .null, .null, .null, .null, .null, .null, .null, .int 0, .null, .null, .null, .null, .null, .null, .null, .null, .null, .null, .null, .null, .null, .null, .null, .null])) :: G6) H locs := by
    rw [hG6]
    exact hJ
  refine xk_putF_R (ty := .array (.int)) hx hb hts hown hKK hJ 5 (by decide) (hts _ hw_748) rfl hin rfl (by decide +kernel) rfl rfl (Nat.le_of_ble_eq_true rfl) dd_R_init_52 (fun H locs hJ => ?_)
  have hJ : xs_J D A s ((h0, .inr (10, [.ref q1, .ref q2, .ref q3, .ref q4, .ref q5, .ref q6, .null, .null, .int 0, .null, .null, .null, .int 0, .int 0, .null, .null, .null, .null, .null, .null, .null, .null, .null, .int 0, .null, .null, .null, .null, .null, .null, .null, .null, .null, .null, .null, .null, .null, .null, .null, .null])) :: G6) _ _ := hJ
  refine lv_aload_n hx hb dd_R_init_55 rfl (lv_at hl 0 rfl) ?_
  refine lv_sipush (v := 240) hx hb dd_R_init_56 rfl ?_
  refine xk_newI hx hb (hts _ hw_57) hKK hA hJ 240 (by decide) (by decide) (by decide) (Nat.le_trans (by decide) hRc) (Nat.le_trans (by decide) hRs) dd_R_init_59 (fun q7 H hJ => ?_)
  obtain ⟨G7, hG7⟩ : ∃ G, G = G6 ++ [(q7, .inl (ca 0, 240, .inl fun _ => 0))] := ⟨_, rfl⟩
  have hJ : xs_J D A s ((h0, .inr (10, [.ref q1, .ref q2, .ref q3, .ref q4, .ref q5, .ref q6, .null, .null, .int 0, .null, .null, .null, .int 0, .int 0, .null, .null, .null, .null, .null, .null, .null, .null, .null, .int 0, .null, .null, .null, .null, .null, .null, .null, .null, .null, .null, .null, .null, .null, .null, .null, .null])) :: G7) H locs := by
    rw [hG7]
    exact hJ
  refine xk_putF_R (ty := .array (.int)) hx hb hts hown hKK hJ 6 (by decide) (hts _ hw_749) rfl hin rfl (by decide +kernel) rfl rfl (Nat.le_of_ble_eq_true rfl) dd_R_init_61 (fun H locs hJ => ?_)
  have hJ : xs_J D A s ((h0, .inr (10, [.ref q1, .ref q2, .ref q3, .ref q4, .ref q5, .ref q6, .ref q7, .null, .int 0, .null, .null, .null, .int 0, .int 0, .null, .null, .null, .null, .null, .null, .null, .null, .null, .int 0, .null, .null, .null, .null, .null, .null, .null, .null, .null, .null, .null, .null, .null, .null, .null, .null])) :: G7) _ _ := hJ
  refine lv_aload_n hx hb dd_R_init_64 rfl (lv_at hl 0 rfl) ?_
  refine lv_bipush (v := 64) hx hb dd_R_init_65 rfl ?_
  refine xk_newI hx hb (hts _ hw_57) hKK hA hJ 64 (by decide) (by decide) (by decide) (Nat.le_trans (by decide) hRc) (Nat.le_trans (by decide) hRs) dd_R_init_67 (fun q8 H hJ => ?_)
  obtain ⟨G8, hG8⟩ : ∃ G, G = G7 ++ [(q8, .inl (ca 0, 64, .inl fun _ => 0))] := ⟨_, rfl⟩
  have hJ : xs_J D A s ((h0, .inr (10, [.ref q1, .ref q2, .ref q3, .ref q4, .ref q5, .ref q6, .ref q7, .null, .int 0, .null, .null, .null, .int 0, .int 0, .null, .null, .null, .null, .null, .null, .null, .null, .null, .int 0, .null, .null, .null, .null, .null, .null, .null, .null, .null, .null, .null, .null, .null, .null, .null, .null])) :: G8) H locs := by
    rw [hG8]
    exact hJ
  refine xk_putF_R (ty := .array (.int)) hx hb hts hown hKK hJ 7 (by decide) (hts _ hw_750) rfl hin rfl (by decide +kernel) rfl rfl (Nat.le_of_ble_eq_true rfl) dd_R_init_69 (fun H locs hJ => ?_)
  have hJ : xs_J D A s ((h0, .inr (10, [.ref q1, .ref q2, .ref q3, .ref q4, .ref q5, .ref q6, .ref q7, .ref q8, .int 0, .null, .null, .null, .int 0, .int 0, .null, .null, .null, .null, .null, .null, .null, .null, .null, .int 0, .null, .null, .null, .null, .null, .null, .null, .null, .null, .null, .null, .null, .null, .null, .null, .null])) :: G8) _ _ := hJ
  refine lv_aload_n hx hb dd_R_init_72 rfl (lv_at hl 0 rfl) ?_
  refine lv_sipush (v := 768) hx hb dd_R_init_73 rfl ?_
  refine xk_newI hx hb (hts _ hw_57) hKK hA hJ 768 (by decide) (by decide) (by decide) (Nat.le_trans (by decide) hRc) (Nat.le_trans (by decide) hRs) dd_R_init_76 (fun q9 H hJ => ?_)
  obtain ⟨G9, hG9⟩ : ∃ G, G = G8 ++ [(q9, .inl (ca 0, 768, .inl fun _ => 0))] := ⟨_, rfl⟩
  have hJ : xs_J D A s ((h0, .inr (10, [.ref q1, .ref q2, .ref q3, .ref q4, .ref q5, .ref q6, .ref q7, .ref q8, .int 0, .null, .null, .null, .int 0, .int 0, .null, .null, .null, .null, .null, .null, .null, .null, .null, .int 0, .null, .null, .null, .null, .null, .null, .null, .null, .null, .null, .null, .null, .null, .null, .null, .null])) :: G9) H locs := by
    rw [hG9]
    exact hJ
  refine xk_putF_R (ty := .array (.int)) hx hb hts hown hKK hJ 9 (by decide) (hts _ hw_752) rfl hin rfl (by decide +kernel) rfl rfl (Nat.le_of_ble_eq_true rfl) dd_R_init_78 (fun H locs hJ => ?_)
  have hJ : xs_J D A s ((h0, .inr (10, [.ref q1, .ref q2, .ref q3, .ref q4, .ref q5, .ref q6, .ref q7, .ref q8, .int 0, .ref q9, .null, .null, .int 0, .int 0, .null, .null, .null, .null, .null, .null, .null, .null, .null, .int 0, .null, .null, .null, .null, .null, .null, .null, .null, .null, .null, .null, .null, .null, .null, .null, .null])) :: G9) _ _ := hJ
  refine lv_aload_n hx hb dd_R_init_81 rfl (lv_at hl 0 rfl) ?_
  refine lv_bipush (v := 24) hx hb dd_R_init_82 rfl ?_
  refine xk_newI hx hb (hts _ hw_57) hKK hA hJ 24 (by decide) (by decide) (by decide) (Nat.le_trans (by decide) hRc) (Nat.le_trans (by decide) hRs) dd_R_init_84 (fun q10 H hJ => ?_)
  obtain ⟨G10, hG10⟩ : ∃ G, G = G9 ++ [(q10, .inl (ca 0, 24, .inl fun _ => 0))] := ⟨_, rfl⟩
  have hJ : xs_J D A s ((h0, .inr (10, [.ref q1, .ref q2, .ref q3, .ref q4, .ref q5, .ref q6, .ref q7, .ref q8, .int 0, .ref q9, .null, .null, .int 0, .int 0, .null, .null, .null, .null, .null, .null, .null, .null, .null, .int 0, .null, .null, .null, .null, .null, .null, .null, .null, .null, .null, .null, .null, .null, .null, .null, .null])) :: G10) H locs := by
    rw [hG10]
    exact hJ
  refine xk_putF_R (ty := .array (.int)) hx hb hts hown hKK hJ 10 (by decide) (hts _ hw_753) rfl hin rfl (by decide +kernel) rfl rfl (Nat.le_of_ble_eq_true rfl) dd_R_init_86 (fun H locs hJ => ?_)
  have hJ : xs_J D A s ((h0, .inr (10, [.ref q1, .ref q2, .ref q3, .ref q4, .ref q5, .ref q6, .ref q7, .ref q8, .int 0, .ref q9, .ref q10, .null, .int 0, .int 0, .null, .null, .null, .null, .null, .null, .null, .null, .null, .int 0, .null, .null, .null, .null, .null, .null, .null, .null, .null, .null, .null, .null, .null, .null, .null, .null])) :: G10) _ _ := hJ
  refine lv_aload_n hx hb dd_R_init_89 rfl (lv_at hl 0 rfl) ?_
  refine lv_bipush (v := 24) hx hb dd_R_init_90 rfl ?_
  refine xk_newI hx hb (hts _ hw_57) hKK hA hJ 24 (by decide) (by decide) (by decide) (Nat.le_trans (by decide) hRc) (Nat.le_trans (by decide) hRs) dd_R_init_92 (fun q11 H hJ => ?_)
  obtain ⟨G11, hG11⟩ : ∃ G, G = G10 ++ [(q11, .inl (ca 0, 24, .inl fun _ => 0))] := ⟨_, rfl⟩
  have hJ : xs_J D A s ((h0, .inr (10, [.ref q1, .ref q2, .ref q3, .ref q4, .ref q5, .ref q6, .ref q7, .ref q8, .int 0, .ref q9, .ref q10, .null, .int 0, .int 0, .null, .null, .null, .null, .null, .null, .null, .null, .null, .int 0, .null, .null, .null, .null, .null, .null, .null, .null, .null, .null, .null, .null, .null, .null, .null, .null])) :: G11) H locs := by
    rw [hG11]
    exact hJ
  refine xk_putF_R (ty := .array (.int)) hx hb hts hown hKK hJ 11 (by decide) (hts _ hw_754) rfl hin rfl (by decide +kernel) rfl rfl (Nat.le_of_ble_eq_true rfl) dd_R_init_94 (fun H locs hJ => ?_)
  have hJ : xs_J D A s ((h0, .inr (10, [.ref q1, .ref q2, .ref q3, .ref q4, .ref q5, .ref q6, .ref q7, .ref q8, .int 0, .ref q9, .ref q10, .ref q11, .int 0, .int 0, .null, .null, .null, .null, .null, .null, .null, .null, .null, .int 0, .null, .null, .null, .null, .null, .null, .null, .null, .null, .null, .null, .null, .null, .null, .null, .null])) :: G11) _ _ := hJ
  refine lv_aload_n hx hb dd_R_init_97 rfl (lv_at hl 0 rfl) ?_
  refine lv_iconst (v := 3) hx hb dd_R_init_98 rfl ?_
  refine xk_newI hx hb (hts _ hw_57) hKK hA hJ 3 (by decide) (by decide) (by decide) (Nat.le_trans (by decide) hRc) (Nat.le_trans (by decide) hRs) dd_R_init_99 (fun q12 H hJ => ?_)
  obtain ⟨G12, hG12⟩ : ∃ G, G = G11 ++ [(q12, .inl (ca 0, 3, .inl fun _ => 0))] := ⟨_, rfl⟩
  have hJ : xs_J D A s ((h0, .inr (10, [.ref q1, .ref q2, .ref q3, .ref q4, .ref q5, .ref q6, .ref q7, .ref q8, .int 0, .ref q9, .ref q10, .ref q11, .int 0, .int 0, .null, .null, .null, .null, .null, .null, .null, .null, .null, .int 0, .null, .null, .null, .null, .null, .null, .null, .null, .null, .null, .null, .null, .null, .null, .null, .null])) :: G12) H locs := by
    rw [hG12]
    exact hJ
  refine xk_putF_R (ty := .array (.int)) hx hb hts hown hKK hJ 14 (by decide) (hts _ hw_757) rfl hin rfl (by decide +kernel) rfl rfl (Nat.le_of_ble_eq_true rfl) dd_R_init_101 (fun H locs hJ => ?_)
  have hJ : xs_J D A s ((h0, .inr (10, [.ref q1, .ref q2, .ref q3, .ref q4, .ref q5, .ref q6, .ref q7, .ref q8, .int 0, .ref q9, .ref q10, .ref q11, .int 0, .int 0, .ref q12, .null, .null, .null, .null, .null, .null, .null, .null, .int 0, .null, .null, .null, .null, .null, .null, .null, .null, .null, .null, .null, .null, .null, .null, .null, .null])) :: G12) _ _ := hJ
  refine lv_aload_n hx hb dd_R_init_104 rfl (lv_at hl 0 rfl) ?_
  refine lv_iconst (v := 3) hx hb dd_R_init_105 rfl ?_
  refine xk_newZ hx hb (hts _ hw_864) hKK hA hJ 3 (by decide) (by decide) (by decide) (Nat.le_trans (by decide) hRc) (Nat.le_trans (by decide) hRs) dd_R_init_106 (fun q13 H hJ => ?_)
  obtain ⟨G13, hG13⟩ : ∃ G, G = G12 ++ [(q13, .inl (ca 1, 3, .inl fun _ => 0))] := ⟨_, rfl⟩
  have hJ : xs_J D A s ((h0, .inr (10, [.ref q1, .ref q2, .ref q3, .ref q4, .ref q5, .ref q6, .ref q7, .ref q8, .int 0, .ref q9, .ref q10, .ref q11, .int 0, .int 0, .ref q12, .null, .null, .null, .null, .null, .null, .null, .null, .int 0, .null, .null, .null, .null, .null, .null, .null, .null, .null, .null, .null, .null, .null, .null, .null, .null])) :: G13) H locs := by
    rw [hG13]
    exact hJ
  refine xk_putF_R (ty := .array (.boolean)) hx hb hts hown hKK hJ 15 (by decide) (hts _ hw_758) rfl hin rfl (by decide +kernel) rfl rfl (Nat.le_of_ble_eq_true rfl) dd_R_init_108 (fun H locs hJ => ?_)
  have hJ : xs_J D A s ((h0, .inr (10, [.ref q1, .ref q2, .ref q3, .ref q4, .ref q5, .ref q6, .ref q7, .ref q8, .int 0, .ref q9, .ref q10, .ref q11, .int 0, .int 0, .ref q12, .ref q13, .null, .null, .null, .null, .null, .null, .null, .int 0, .null, .null, .null, .null, .null, .null, .null, .null, .null, .null, .null, .null, .null, .null, .null, .null])) :: G13) _ _ := hJ
  refine lv_aload_n hx hb dd_R_init_111 rfl (lv_at hl 0 rfl) ?_
  refine lv_iconst (v := 3) hx hb dd_R_init_112 rfl ?_
  refine xk_newI hx hb (hts _ hw_57) hKK hA hJ 3 (by decide) (by decide) (by decide) (Nat.le_trans (by decide) hRc) (Nat.le_trans (by decide) hRs) dd_R_init_113 (fun q14 H hJ => ?_)
  obtain ⟨G14, hG14⟩ : ∃ G, G = G13 ++ [(q14, .inl (ca 0, 3, .inl fun _ => 0))] := ⟨_, rfl⟩
  have hJ : xs_J D A s ((h0, .inr (10, [.ref q1, .ref q2, .ref q3, .ref q4, .ref q5, .ref q6, .ref q7, .ref q8, .int 0, .ref q9, .ref q10, .ref q11, .int 0, .int 0, .ref q12, .ref q13, .null, .null, .null, .null, .null, .null, .null, .int 0, .null, .null, .null, .null, .null, .null, .null, .null, .null, .null, .null, .null, .null, .null, .null, .null])) :: G14) H locs := by
    rw [hG14]
    exact hJ
  refine xk_putF_R (ty := .array (.int)) hx hb hts hown hKK hJ 16 (by decide) (hts _ hw_759) rfl hin rfl (by decide +kernel) rfl rfl (Nat.le_of_ble_eq_true rfl) dd_R_init_115 (fun H locs hJ => ?_)
  have hJ : xs_J D A s ((h0, .inr (10, [.ref q1, .ref q2, .ref q3, .ref q4, .ref q5, .ref q6, .ref q7, .ref q8, .int 0, .ref q9, .ref q10, .ref q11, .int 0, .int 0, .ref q12, .ref q13, .ref q14, .null, .null, .null, .null, .null, .null, .int 0, .null, .null, .null, .null, .null, .null, .null, .null, .null, .null, .null, .null, .null, .null, .null, .null])) :: G14) _ _ := hJ
  refine lv_aload_n hx hb dd_R_init_118 rfl (lv_at hl 0 rfl) ?_
  refine lv_iconst (v := 3) hx hb dd_R_init_119 rfl ?_
  refine xk_newI hx hb (hts _ hw_57) hKK hA hJ 3 (by decide) (by decide) (by decide) (Nat.le_trans (by decide) hRc) (Nat.le_trans (by decide) hRs) dd_R_init_120 (fun q15 H hJ => ?_)
  obtain ⟨G15, hG15⟩ : ∃ G, G = G14 ++ [(q15, .inl (ca 0, 3, .inl fun _ => 0))] := ⟨_, rfl⟩
  have hJ : xs_J D A s ((h0, .inr (10, [.ref q1, .ref q2, .ref q3, .ref q4, .ref q5, .ref q6, .ref q7, .ref q8, .int 0, .ref q9, .ref q10, .ref q11, .int 0, .int 0, .ref q12, .ref q13, .ref q14, .null, .null, .null, .null, .null, .null, .int 0, .null, .null, .null, .null, .null, .null, .null, .null, .null, .null, .null, .null, .null, .null, .null, .null])) :: G15) H locs := by
    rw [hG15]
    exact hJ
  refine xk_putF_R (ty := .array (.int)) hx hb hts hown hKK hJ 17 (by decide) (hts _ hw_760) rfl hin rfl (by decide +kernel) rfl rfl (Nat.le_of_ble_eq_true rfl) dd_R_init_122 (fun H locs hJ => ?_)
  have hJ : xs_J D A s ((h0, .inr (10, [.ref q1, .ref q2, .ref q3, .ref q4, .ref q5, .ref q6, .ref q7, .ref q8, .int 0, .ref q9, .ref q10, .ref q11, .int 0, .int 0, .ref q12, .ref q13, .ref q14, .ref q15, .null, .null, .null, .null, .null, .int 0, .null, .null, .null, .null, .null, .null, .null, .null, .null, .null, .null, .null, .null, .null, .null, .null])) :: G15) _ _ := hJ
  refine lv_aload_n hx hb dd_R_init_125 rfl (lv_at hl 0 rfl) ?_
  refine lv_iconst (v := 3) hx hb dd_R_init_126 rfl ?_
  refine xk_newI hx hb (hts _ hw_57) hKK hA hJ 3 (by decide) (by decide) (by decide) (Nat.le_trans (by decide) hRc) (Nat.le_trans (by decide) hRs) dd_R_init_127 (fun q16 H hJ => ?_)
  obtain ⟨G16, hG16⟩ : ∃ G, G = G15 ++ [(q16, .inl (ca 0, 3, .inl fun _ => 0))] := ⟨_, rfl⟩
  have hJ : xs_J D A s ((h0, .inr (10, [.ref q1, .ref q2, .ref q3, .ref q4, .ref q5, .ref q6, .ref q7, .ref q8, .int 0, .ref q9, .ref q10, .ref q11, .int 0, .int 0, .ref q12, .ref q13, .ref q14, .ref q15, .null, .null, .null, .null, .null, .int 0, .null, .null, .null, .null, .null, .null, .null, .null, .null, .null, .null, .null, .null, .null, .null, .null])) :: G16) H locs := by
    rw [hG16]
    exact hJ
  refine xk_putF_R (ty := .array (.int)) hx hb hts hown hKK hJ 18 (by decide) (hts _ hw_761) rfl hin rfl (by decide +kernel) rfl rfl (Nat.le_of_ble_eq_true rfl) dd_R_init_129 (fun H locs hJ => ?_)
  have hJ : xs_J D A s ((h0, .inr (10, [.ref q1, .ref q2, .ref q3, .ref q4, .ref q5, .ref q6, .ref q7, .ref q8, .int 0, .ref q9, .ref q10, .ref q11, .int 0, .int 0, .ref q12, .ref q13, .ref q14, .ref q15, .ref q16, .null, .null, .null, .null, .int 0, .null, .null, .null, .null, .null, .null, .null, .null, .null, .null, .null, .null, .null, .null, .null, .null])) :: G16) _ _ := hJ
  refine lv_aload_n hx hb dd_R_init_132 rfl (lv_at hl 0 rfl) ?_
  refine lv_iconst (v := 3) hx hb dd_R_init_133 rfl ?_
  refine xk_newI hx hb (hts _ hw_57) hKK hA hJ 3 (by decide) (by decide) (by decide) (Nat.le_trans (by decide) hRc) (Nat.le_trans (by decide) hRs) dd_R_init_134 (fun q17 H hJ => ?_)
  obtain ⟨G17, hG17⟩ : ∃ G, G = G16 ++ [(q17, .inl (ca 0, 3, .inl fun _ => 0))] := ⟨_, rfl⟩
  have hJ : xs_J D A s ((h0, .inr (10, [.ref q1, .ref q2, .ref q3, .ref q4, .ref q5, .ref q6, .ref q7, .ref q8, .int 0, .ref q9, .ref q10, .ref q11, .int 0, .int 0, .ref q12, .ref q13, .ref q14, .ref q15, .ref q16, .null, .null, .null, .null, .int 0, .null, .null, .null, .null, .null, .null, .null, .null, .null, .null, .null, .null, .null, .null, .null, .null])) :: G17) H locs := by
    rw [hG17]
    exact hJ
  refine xk_putF_R (ty := .array (.int)) hx hb hts hown hKK hJ 19 (by decide) (hts _ hw_762) rfl hin rfl (by decide +kernel) rfl rfl (Nat.le_of_ble_eq_true rfl) dd_R_init_136 (fun H locs hJ => ?_)
  have hJ : xs_J D A s ((h0, .inr (10, [.ref q1, .ref q2, .ref q3, .ref q4, .ref q5, .ref q6, .ref q7, .ref q8, .int 0, .ref q9, .ref q10, .ref q11, .int 0, .int 0, .ref q12, .ref q13, .ref q14, .ref q15, .ref q16, .ref q17, .null, .null, .null, .int 0, .null, .null, .null, .null, .null, .null, .null, .null, .null, .null, .null, .null, .null, .null, .null, .null])) :: G17) _ _ := hJ
  refine lv_aload_n hx hb dd_R_init_139 rfl (lv_at hl 0 rfl) ?_
  refine lv_iconst (v := 3) hx hb dd_R_init_140 rfl ?_
  refine xk_newI hx hb (hts _ hw_57) hKK hA hJ 3 (by decide) (by decide) (by decide) (Nat.le_trans (by decide) hRc) (Nat.le_trans (by decide) hRs) dd_R_init_141 (fun q18 H hJ => ?_)
  obtain ⟨G18, hG18⟩ : ∃ G, G = G17 ++ [(q18, .inl (ca 0, 3, .inl fun _ => 0))] := ⟨_, rfl⟩
  have hJ : xs_J D A s ((h0, .inr (10, [.ref q1, .ref q2, .ref q3, .ref q4, .ref q5, .ref q6, .ref q7, .ref q8, .int 0, .ref q9, .ref q10, .ref q11, .int 0, .int 0, .ref q12, .ref q13, .ref q14, .ref q15, .ref q16, .ref q17, .null, .null, .null, .int 0, .null, .null, .null, .null, .null, .null, .null, .null, .null, .null, .null, .null, .null, .null, .null, .null])) :: G18) H locs := by
    rw [hG18]
    exact hJ
  refine xk_putF_R (ty := .array (.int)) hx hb hts hown hKK hJ 20 (by decide) (hts _ hw_763) rfl hin rfl (by decide +kernel) rfl rfl (Nat.le_of_ble_eq_true rfl) dd_R_init_143 (fun H locs hJ => ?_)
  have hJ : xs_J D A s ((h0, .inr (10, [.ref q1, .ref q2, .ref q3, .ref q4, .ref q5, .ref q6, .ref q7, .ref q8, .int 0, .ref q9, .ref q10, .ref q11, .int 0, .int 0, .ref q12, .ref q13, .ref q14, .ref q15, .ref q16, .ref q17, .ref q18, .null, .null, .int 0, .null, .null, .null, .null, .null, .null, .null, .null, .null, .null, .null, .null, .null, .null, .null, .null])) :: G18) _ _ := hJ
  refine lv_aload_n hx hb dd_R_init_146 rfl (lv_at hl 0 rfl) ?_
  refine lv_iconst (v := 3) hx hb dd_R_init_147 rfl ?_
  refine xk_newI hx hb (hts _ hw_57) hKK hA hJ 3 (by decide) (by decide) (by decide) (Nat.le_trans (by decide) hRc) (Nat.le_trans (by decide) hRs) dd_R_init_148 (fun q19 H hJ => ?_)
  obtain ⟨G19, hG19⟩ : ∃ G, G = G18 ++ [(q19, .inl (ca 0, 3, .inl fun _ => 0))] := ⟨_, rfl⟩
  have hJ : xs_J D A s ((h0, .inr (10, [.ref q1, .ref q2, .ref q3, .ref q4, .ref q5, .ref q6, .ref q7, .ref q8, .int 0, .ref q9, .ref q10, .ref q11, .int 0, .int 0, .ref q12, .ref q13, .ref q14, .ref q15, .ref q16, .ref q17, .ref q18, .null, .null, .int 0, .null, .null, .null, .null, .null, .null, .null, .null, .null, .null, .null, .null, .null, .null, .null, .null])) :: G19) H locs := by
    rw [hG19]
    exact hJ
  refine xk_putF_R (ty := .array (.int)) hx hb hts hown hKK hJ 21 (by decide) (hts _ hw_764) rfl hin rfl (by decide +kernel) rfl rfl (Nat.le_of_ble_eq_true rfl) dd_R_init_150 (fun H locs hJ => ?_)
  have hJ : xs_J D A s ((h0, .inr (10, [.ref q1, .ref q2, .ref q3, .ref q4, .ref q5, .ref q6, .ref q7, .ref q8, .int 0, .ref q9, .ref q10, .ref q11, .int 0, .int 0, .ref q12, .ref q13, .ref q14, .ref q15, .ref q16, .ref q17, .ref q18, .ref q19, .null, .int 0, .null, .null, .null, .null, .null, .null, .null, .null, .null, .null, .null, .null, .null, .null, .null, .null])) :: G19) _ _ := hJ
  refine lv_aload_n hx hb dd_R_init_153 rfl (lv_at hl 0 rfl) ?_
  refine lv_iconst (v := 3) hx hb dd_R_init_154 rfl ?_
  refine xk_newI hx hb (hts _ hw_57) hKK hA hJ 3 (by decide) (by decide) (by decide) (Nat.le_trans (by decide) hRc) (Nat.le_trans (by decide) hRs) dd_R_init_155 (fun q20 H hJ => ?_)
  obtain ⟨G20, hG20⟩ : ∃ G, G = G19 ++ [(q20, .inl (ca 0, 3, .inl fun _ => 0))] := ⟨_, rfl⟩
  have hJ : xs_J D A s ((h0, .inr (10, [.ref q1, .ref q2, .ref q3, .ref q4, .ref q5, .ref q6, .ref q7, .ref q8, .int 0, .ref q9, .ref q10, .ref q11, .int 0, .int 0, .ref q12, .ref q13, .ref q14, .ref q15, .ref q16, .ref q17, .ref q18, .ref q19, .null, .int 0, .null, .null, .null, .null, .null, .null, .null, .null, .null, .null, .null, .null, .null, .null, .null, .null])) :: G20) H locs := by
    rw [hG20]
    exact hJ
  refine xk_putF_R (ty := .array (.int)) hx hb hts hown hKK hJ 22 (by decide) (hts _ hw_765) rfl hin rfl (by decide +kernel) rfl rfl (Nat.le_of_ble_eq_true rfl) dd_R_init_157 (fun H locs hJ => ?_)
  have hJ : xs_J D A s ((h0, .inr (10, [.ref q1, .ref q2, .ref q3, .ref q4, .ref q5, .ref q6, .ref q7, .ref q8, .int 0, .ref q9, .ref q10, .ref q11, .int 0, .int 0, .ref q12, .ref q13, .ref q14, .ref q15, .ref q16, .ref q17, .ref q18, .ref q19, .ref q20, .int 0, .null, .null, .null, .null, .null, .null, .null, .null, .null, .null, .null, .null, .null, .null, .null, .null])) :: G20) _ _ := hJ
  refine lv_aload_n hx hb dd_R_init_160 rfl (lv_at hl 0 rfl) ?_
  refine lv_iconst (v := 3) hx hb dd_R_init_161 rfl ?_
  refine xk_newI hx hb (hts _ hw_57) hKK hA hJ 3 (by decide) (by decide) (by decide) (Nat.le_trans (by decide) hRc) (Nat.le_trans (by decide) hRs) dd_R_init_162 (fun q21 H hJ => ?_)
  obtain ⟨G21, hG21⟩ : ∃ G, G = G20 ++ [(q21, .inl (ca 0, 3, .inl fun _ => 0))] := ⟨_, rfl⟩
  have hJ : xs_J D A s ((h0, .inr (10, [.ref q1, .ref q2, .ref q3, .ref q4, .ref q5, .ref q6, .ref q7, .ref q8, .int 0, .ref q9, .ref q10, .ref q11, .int 0, .int 0, .ref q12, .ref q13, .ref q14, .ref q15, .ref q16, .ref q17, .ref q18, .ref q19, .ref q20, .int 0, .null, .null, .null, .null, .null, .null, .null, .null, .null, .null, .null, .null, .null, .null, .null, .null])) :: G21) H locs := by
    rw [hG21]
    exact hJ
  refine xk_putF_R (ty := .array (.int)) hx hb hts hown hKK hJ 24 (by decide) (hts _ hw_767) rfl hin rfl (by decide +kernel) rfl rfl (Nat.le_of_ble_eq_true rfl) dd_R_init_164 (fun H locs hJ => ?_)
  have hJ : xs_J D A s ((h0, .inr (10, [.ref q1, .ref q2, .ref q3, .ref q4, .ref q5, .ref q6, .ref q7, .ref q8, .int 0, .ref q9, .ref q10, .ref q11, .int 0, .int 0, .ref q12, .ref q13, .ref q14, .ref q15, .ref q16, .ref q17, .ref q18, .ref q19, .ref q20, .int 0, .ref q21, .null, .null, .null, .null, .null, .null, .null, .null, .null, .null, .null, .null, .null, .null, .null])) :: G21) _ _ := hJ
  refine lv_aload_n hx hb dd_R_init_167 rfl (lv_at hl 0 rfl) ?_
  refine lv_iconst (v := 3) hx hb dd_R_init_168 rfl ?_
  refine xk_newI hx hb (hts _ hw_57) hKK hA hJ 3 (by decide) (by decide) (by decide) (Nat.le_trans (by decide) hRc) (Nat.le_trans (by decide) hRs) dd_R_init_169 (fun q22 H hJ => ?_)
  obtain ⟨G22, hG22⟩ : ∃ G, G = G21 ++ [(q22, .inl (ca 0, 3, .inl fun _ => 0))] := ⟨_, rfl⟩
  have hJ : xs_J D A s ((h0, .inr (10, [.ref q1, .ref q2, .ref q3, .ref q4, .ref q5, .ref q6, .ref q7, .ref q8, .int 0, .ref q9, .ref q10, .ref q11, .int 0, .int 0, .ref q12, .ref q13, .ref q14, .ref q15, .ref q16, .ref q17, .ref q18, .ref q19, .ref q20, .int 0, .ref q21, .null, .null, .null, .null, .null, .null, .null, .null, .null, .null, .null, .null, .null, .null, .null])) :: G22) H locs := by
    rw [hG22]
    exact hJ
  refine xk_putF_R (ty := .array (.int)) hx hb hts hown hKK hJ 25 (by decide) (hts _ hw_768) rfl hin rfl (by decide +kernel) rfl rfl (Nat.le_of_ble_eq_true rfl) dd_R_init_171 (fun H locs hJ => ?_)
  have hJ : xs_J D A s ((h0, .inr (10, [.ref q1, .ref q2, .ref q3, .ref q4, .ref q5, .ref q6, .ref q7, .ref q8, .int 0, .ref q9, .ref q10, .ref q11, .int 0, .int 0, .ref q12, .ref q13, .ref q14, .ref q15, .ref q16, .ref q17, .ref q18, .ref q19, .ref q20, .int 0, .ref q21, .ref q22, .null, .null, .null, .null, .null, .null, .null, .null, .null, .null, .null, .null, .null, .null])) :: G22) _ _ := hJ
  refine lv_aload_n hx hb dd_R_init_174 rfl (lv_at hl 0 rfl) ?_
  refine lv_iconst (v := 3) hx hb dd_R_init_175 rfl ?_
  refine xk_newI hx hb (hts _ hw_57) hKK hA hJ 3 (by decide) (by decide) (by decide) (Nat.le_trans (by decide) hRc) (Nat.le_trans (by decide) hRs) dd_R_init_176 (fun q23 H hJ => ?_)
  obtain ⟨G23, hG23⟩ : ∃ G, G = G22 ++ [(q23, .inl (ca 0, 3, .inl fun _ => 0))] := ⟨_, rfl⟩
  have hJ : xs_J D A s ((h0, .inr (10, [.ref q1, .ref q2, .ref q3, .ref q4, .ref q5, .ref q6, .ref q7, .ref q8, .int 0, .ref q9, .ref q10, .ref q11, .int 0, .int 0, .ref q12, .ref q13, .ref q14, .ref q15, .ref q16, .ref q17, .ref q18, .ref q19, .ref q20, .int 0, .ref q21, .ref q22, .null, .null, .null, .null, .null, .null, .null, .null, .null, .null, .null, .null, .null, .null])) :: G23) H locs := by
    rw [hG23]
    exact hJ
  refine xk_putF_R (ty := .array (.int)) hx hb hts hown hKK hJ 26 (by decide) (hts _ hw_769) rfl hin rfl (by decide +kernel) rfl rfl (Nat.le_of_ble_eq_true rfl) dd_R_init_178 (fun H locs hJ => ?_)
  have hJ : xs_J D A s ((h0, .inr (10, [.ref q1, .ref q2, .ref q3, .ref q4, .ref q5, .ref q6, .ref q7, .ref q8, .int 0, .ref q9, .ref q10, .ref q11, .int 0, .int 0, .ref q12, .ref q13, .ref q14, .ref q15, .ref q16, .ref q17, .ref q18, .ref q19, .ref q20, .int 0, .ref q21, .ref q22, .ref q23, .null, .null, .null, .null, .null, .null, .null, .null, .null, .null, .null, .null, .null])) :: G23) _ _ := hJ
  refine lv_aload_n hx hb dd_R_init_181 rfl (lv_at hl 0 rfl) ?_
  refine lv_iconst (v := 3) hx hb dd_R_init_182 rfl ?_
  refine xk_newI hx hb (hts _ hw_57) hKK hA hJ 3 (by decide) (by decide) (by decide) (Nat.le_trans (by decide) hRc) (Nat.le_trans (by decide) hRs) dd_R_init_183 (fun q24 H hJ => ?_)
  obtain ⟨G24, hG24⟩ : ∃ G, G = G23 ++ [(q24, .inl (ca 0, 3, .inl fun _ => 0))] := ⟨_, rfl⟩
  have hJ : xs_J D A s ((h0, .inr (10, [.ref q1, .ref q2, .ref q3, .ref q4, .ref q5, .ref q6, .ref q7, .ref q8, .int 0, .ref q9, .ref q10, .ref q11, .int 0, .int 0, .ref q12, .ref q13, .ref q14, .ref q15, .ref q16, .ref q17, .ref q18, .ref q19, .ref q20, .int 0, .ref q21, .ref q22, .ref q23, .null, .null, .null, .null, .null, .null, .null, .null, .null, .null, .null, .null, .null])) :: G24) H locs := by
    rw [hG24]
    exact hJ
  refine xk_putF_R (ty := .array (.int)) hx hb hts hown hKK hJ 27 (by decide) (hts _ hw_770) rfl hin rfl (by decide +kernel) rfl rfl (Nat.le_of_ble_eq_true rfl) dd_R_init_185 (fun H locs hJ => ?_)
  have hJ : xs_J D A s ((h0, .inr (10, [.ref q1, .ref q2, .ref q3, .ref q4, .ref q5, .ref q6, .ref q7, .ref q8, .int 0, .ref q9, .ref q10, .ref q11, .int 0, .int 0, .ref q12, .ref q13, .ref q14, .ref q15, .ref q16, .ref q17, .ref q18, .ref q19, .ref q20, .int 0, .ref q21, .ref q22, .ref q23, .ref q24, .null, .null, .null, .null, .null, .null, .null, .null, .null, .null, .null, .null])) :: G24) _ _ := hJ
  refine lv_aload_n hx hb dd_R_init_188 rfl (lv_at hl 0 rfl) ?_
  refine lv_iconst (v := 3) hx hb dd_R_init_189 rfl ?_
  refine xk_newI hx hb (hts _ hw_57) hKK hA hJ 3 (by decide) (by decide) (by decide) (Nat.le_trans (by decide) hRc) (Nat.le_trans (by decide) hRs) dd_R_init_190 (fun q25 H hJ => ?_)
  obtain ⟨G25, hG25⟩ : ∃ G, G = G24 ++ [(q25, .inl (ca 0, 3, .inl fun _ => 0))] := ⟨_, rfl⟩
  have hJ : xs_J D A s ((h0, .inr (10, [.ref q1, .ref q2, .ref q3, .ref q4, .ref q5, .ref q6, .ref q7, .ref q8, .int 0, .ref q9, .ref q10, .ref q11, .int 0, .int 0, .ref q12, .ref q13, .ref q14, .ref q15, .ref q16, .ref q17, .ref q18, .ref q19, .ref q20, .int 0, .ref q21, .ref q22, .ref q23, .ref q24, .null, .null, .null, .null, .null, .null, .null, .null, .null, .null, .null, .null])) :: G25) H locs := by
    rw [hG25]
    exact hJ
  refine xk_putF_R (ty := .array (.int)) hx hb hts hown hKK hJ 28 (by decide) (hts _ hw_771) rfl hin rfl (by decide +kernel) rfl rfl (Nat.le_of_ble_eq_true rfl) dd_R_init_192 (fun H locs hJ => ?_)
  have hJ : xs_J D A s ((h0, .inr (10, [.ref q1, .ref q2, .ref q3, .ref q4, .ref q5, .ref q6, .ref q7, .ref q8, .int 0, .ref q9, .ref q10, .ref q11, .int 0, .int 0, .ref q12, .ref q13, .ref q14, .ref q15, .ref q16, .ref q17, .ref q18, .ref q19, .ref q20, .int 0, .ref q21, .ref q22, .ref q23, .ref q24, .ref q25, .null, .null, .null, .null, .null, .null, .null, .null, .null, .null, .null])) :: G25) _ _ := hJ
  refine lv_aload_n hx hb dd_R_init_195 rfl (lv_at hl 0 rfl) ?_
  refine lv_iconst (v := 3) hx hb dd_R_init_196 rfl ?_
  refine xk_newI hx hb (hts _ hw_57) hKK hA hJ 3 (by decide) (by decide) (by decide) (Nat.le_trans (by decide) hRc) (Nat.le_trans (by decide) hRs) dd_R_init_197 (fun q26 H hJ => ?_)
  obtain ⟨G26, hG26⟩ : ∃ G, G = G25 ++ [(q26, .inl (ca 0, 3, .inl fun _ => 0))] := ⟨_, rfl⟩
  have hJ : xs_J D A s ((h0, .inr (10, [.ref q1, .ref q2, .ref q3, .ref q4, .ref q5, .ref q6, .ref q7, .ref q8, .int 0, .ref q9, .ref q10, .ref q11, .int 0, .int 0, .ref q12, .ref q13, .ref q14, .ref q15, .ref q16, .ref q17, .ref q18, .ref q19, .ref q20, .int 0, .ref q21, .ref q22, .ref q23, .ref q24, .ref q25, .null, .null, .null, .null, .null, .null, .null, .null, .null, .null, .null])) :: G26) H locs := by
    rw [hG26]
    exact hJ
  refine xk_putF_R (ty := .array (.int)) hx hb hts hown hKK hJ 29 (by decide) (hts _ hw_772) rfl hin rfl (by decide +kernel) rfl rfl (Nat.le_of_ble_eq_true rfl) dd_R_init_199 (fun H locs hJ => ?_)
  have hJ : xs_J D A s ((h0, .inr (10, [.ref q1, .ref q2, .ref q3, .ref q4, .ref q5, .ref q6, .ref q7, .ref q8, .int 0, .ref q9, .ref q10, .ref q11, .int 0, .int 0, .ref q12, .ref q13, .ref q14, .ref q15, .ref q16, .ref q17, .ref q18, .ref q19, .ref q20, .int 0, .ref q21, .ref q22, .ref q23, .ref q24, .ref q25, .ref q26, .null, .null, .null, .null, .null, .null, .null, .null, .null, .null])) :: G26) _ _ := hJ
  refine lv_aload_n hx hb dd_R_init_202 rfl (lv_at hl 0 rfl) ?_
  refine lv_iconst (v := 3) hx hb dd_R_init_203 rfl ?_
  refine xk_newI hx hb (hts _ hw_57) hKK hA hJ 3 (by decide) (by decide) (by decide) (Nat.le_trans (by decide) hRc) (Nat.le_trans (by decide) hRs) dd_R_init_204 (fun q27 H hJ => ?_)
  obtain ⟨G27, hG27⟩ : ∃ G, G = G26 ++ [(q27, .inl (ca 0, 3, .inl fun _ => 0))] := ⟨_, rfl⟩
  have hJ : xs_J D A s ((h0, .inr (10, [.ref q1, .ref q2, .ref q3, .ref q4, .ref q5, .ref q6, .ref q7, .ref q8, .int 0, .ref q9, .ref q10, .ref q11, .int 0, .int 0, .ref q12, .ref q13, .ref q14, .ref q15, .ref q16, .ref q17, .ref q18, .ref q19, .ref q20, .int 0, .ref q21, .ref q22, .ref q23, .ref q24, .ref q25, .ref q26, .null, .null, .null, .null, .null, .null, .null, .null, .null, .null])) :: G27) H locs := by
    rw [hG27]
    exact hJ
  refine xk_putF_R (ty := .array (.int)) hx hb hts hown hKK hJ 30 (by decide) (hts _ hw_773) rfl hin rfl (by decide +kernel) rfl rfl (Nat.le_of_ble_eq_true rfl) dd_R_init_206 (fun H locs hJ => ?_)
  have hJ : xs_J D A s ((h0, .inr (10, [.ref q1, .ref q2, .ref q3, .ref q4, .ref q5, .ref q6, .ref q7, .ref q8, .int 0, .ref q9, .ref q10, .ref q11, .int 0, .int 0, .ref q12, .ref q13, .ref q14, .ref q15, .ref q16, .ref q17, .ref q18, .ref q19, .ref q20, .int 0, .ref q21, .ref q22, .ref q23, .ref q24, .ref q25, .ref q26, .ref q27, .null, .null, .null, .null, .null, .null, .null, .null, .null])) :: G27) _ _ := hJ
  refine lv_aload_n hx hb dd_R_init_209 rfl (lv_at hl 0 rfl) ?_
  refine lv_iconst (v := 3) hx hb dd_R_init_210 rfl ?_
  refine xk_newI hx hb (hts _ hw_57) hKK hA hJ 3 (by decide) (by decide) (by decide) (Nat.le_trans (by decide) hRc) (Nat.le_trans (by decide) hRs) dd_R_init_211 (fun q28 H hJ => ?_)
  obtain ⟨G28, hG28⟩ : ∃ G, G = G27 ++ [(q28, .inl (ca 0, 3, .inl fun _ => 0))] := ⟨_, rfl⟩
  have hJ : xs_J D A s ((h0, .inr (10, [.ref q1, .ref q2, .ref q3, .ref q4, .ref q5, .ref q6, .ref q7, .ref q8, .int 0, .ref q9, .ref q10, .ref q11, .int 0, .int 0, .ref q12, .ref q13, .ref q14, .ref q15, .ref q16, .ref q17, .ref q18, .ref q19, .ref q20, .int 0, .ref q21, .ref q22, .ref q23, .ref q24, .ref q25, .ref q26, .ref q27, .null, .null, .null, .null, .null, .null, .null, .null, .null])) :: G28) H locs := by
    rw [hG28]
    exact hJ
  refine xk_putF_R (ty := .array (.int)) hx hb hts hown hKK hJ 31 (by decide) (hts _ hw_774) rfl hin rfl (by decide +kernel) rfl rfl (Nat.le_of_ble_eq_true rfl) dd_R_init_213 (fun H locs hJ => ?_)
  have hJ : xs_J D A s ((h0, .inr (10, [.ref q1, .ref q2, .ref q3, .ref q4, .ref q5, .ref q6, .ref q7, .ref q8, .int 0, .ref q9, .ref q10, .ref q11, .int 0, .int 0, .ref q12, .ref q13, .ref q14, .ref q15, .ref q16, .ref q17, .ref q18, .ref q19, .ref q20, .int 0, .ref q21, .ref q22, .ref q23, .ref q24, .ref q25, .ref q26, .ref q27, .ref q28, .null, .null, .null, .null, .null, .null, .null, .null])) :: G28) _ _ := hJ
  refine lv_aload_n hx hb dd_R_init_216 rfl (lv_at hl 0 rfl) ?_
  refine lv_iconst (v := 3) hx hb dd_R_init_217 rfl ?_
  refine xk_newZ hx hb (hts _ hw_864) hKK hA hJ 3 (by decide) (by decide) (by decide) (Nat.le_trans (by decide) hRc) (Nat.le_trans (by decide) hRs) dd_R_init_218 (fun q29 H hJ => ?_)
  obtain ⟨G29, hG29⟩ : ∃ G, G = G28 ++ [(q29, .inl (ca 1, 3, .inl fun _ => 0))] := ⟨_, rfl⟩
  have hJ : xs_J D A s ((h0, .inr (10, [.ref q1, .ref q2, .ref q3, .ref q4, .ref q5, .ref q6, .ref q7, .ref q8, .int 0, .ref q9, .ref q10, .ref q11, .int 0, .int 0, .ref q12, .ref q13, .ref q14, .ref q15, .ref q16, .ref q17, .ref q18, .ref q19, .ref q20, .int 0, .ref q21, .ref q22, .ref q23, .ref q24, .ref q25, .ref q26, .ref q27, .ref q28, .null, .null, .null, .null, .null, .null, .null, .null])) :: G29) H locs := by
    rw [hG29]
    exact hJ
  refine xk_putF_R (ty := .array (.boolean)) hx hb hts hown hKK hJ 32 (by decide) (hts _ hw_775) rfl hin rfl (by decide +kernel) rfl rfl (Nat.le_of_ble_eq_true rfl) dd_R_init_220 (fun H locs hJ => ?_)
  have hJ : xs_J D A s ((h0, .inr (10, [.ref q1, .ref q2, .ref q3, .ref q4, .ref q5, .ref q6, .ref q7, .ref q8, .int 0, .ref q9, .ref q10, .ref q11, .int 0, .int 0, .ref q12, .ref q13, .ref q14, .ref q15, .ref q16, .ref q17, .ref q18, .ref q19, .ref q20, .int 0, .ref q21, .ref q22, .ref q23, .ref q24, .ref q25, .ref q26, .ref q27, .ref q28, .ref q29, .null, .null, .null, .null, .null, .null, .null])) :: G29) _ _ := hJ
  refine lv_aload_n hx hb dd_R_init_223 rfl (lv_at hl 0 rfl) ?_
  refine lv_iconst (v := 3) hx hb dd_R_init_224 rfl ?_
  refine xk_newZ hx hb (hts _ hw_864) hKK hA hJ 3 (by decide) (by decide) (by decide) (Nat.le_trans (by decide) hRc) (Nat.le_trans (by decide) hRs) dd_R_init_225 (fun q30 H hJ => ?_)
  obtain ⟨G30, hG30⟩ : ∃ G, G = G29 ++ [(q30, .inl (ca 1, 3, .inl fun _ => 0))] := ⟨_, rfl⟩
  have hJ : xs_J D A s ((h0, .inr (10, [.ref q1, .ref q2, .ref q3, .ref q4, .ref q5, .ref q6, .ref q7, .ref q8, .int 0, .ref q9, .ref q10, .ref q11, .int 0, .int 0, .ref q12, .ref q13, .ref q14, .ref q15, .ref q16, .ref q17, .ref q18, .ref q19, .ref q20, .int 0, .ref q21, .ref q22, .ref q23, .ref q24, .ref q25, .ref q26, .ref q27, .ref q28, .ref q29, .null, .null, .null, .null, .null, .null, .null])) :: G30) H locs := by
    rw [hG30]
    exact hJ
  refine xk_putF_R (ty := .array (.boolean)) hx hb hts hown hKK hJ 33 (by decide) (hts _ hw_776) rfl hin rfl (by decide +kernel) rfl rfl (Nat.le_of_ble_eq_true rfl) dd_R_init_227 (fun H locs hJ => ?_)
  have hJ : xs_J D A s ((h0, .inr (10, [.ref q1, .ref q2, .ref q3, .ref q4, .ref q5, .ref q6, .ref q7, .ref q8, .int 0, .ref q9, .ref q10, .ref q11, .int 0, .int 0, .ref q12, .ref q13, .ref q14, .ref q15, .ref q16, .ref q17, .ref q18, .ref q19, .ref q20, .int 0, .ref q21, .ref q22, .ref q23, .ref q24, .ref q25, .ref q26, .ref q27, .ref q28, .ref q29, .ref q30, .null, .null, .null, .null, .null, .null])) :: G30) _ _ := hJ
  refine lv_aload_n hx hb dd_R_init_230 rfl (lv_at hl 0 rfl) ?_
  refine lv_bipush (v := 12) hx hb dd_R_init_231 rfl ?_
  refine xk_newJ hx hb (hts _ hw_195) hKK hA hJ 12 (by decide) (by decide) (by decide) (Nat.le_trans (by decide) hRc) (Nat.le_trans (by decide) hRs) dd_R_init_233 (fun q31 H hJ => ?_)
  obtain ⟨G31, hG31⟩ : ∃ G, G = G30 ++ [(q31, .inl (ca 2, 12, .inr (.inl fun _ => 0)))] := ⟨_, rfl⟩
  have hJ : xs_J D A s ((h0, .inr (10, [.ref q1, .ref q2, .ref q3, .ref q4, .ref q5, .ref q6, .ref q7, .ref q8, .int 0, .ref q9, .ref q10, .ref q11, .int 0, .int 0, .ref q12, .ref q13, .ref q14, .ref q15, .ref q16, .ref q17, .ref q18, .ref q19, .ref q20, .int 0, .ref q21, .ref q22, .ref q23, .ref q24, .ref q25, .ref q26, .ref q27, .ref q28, .ref q29, .ref q30, .null, .null, .null, .null, .null, .null])) :: G31) H locs := by
    rw [hG31]
    exact hJ
  refine xk_putF_R (ty := .array (.long)) hx hb hts hown hKK hJ 34 (by decide) (hts _ hw_777) rfl hin rfl (by decide +kernel) rfl rfl (Nat.le_of_ble_eq_true rfl) dd_R_init_235 (fun H locs hJ => ?_)
  have hJ : xs_J D A s ((h0, .inr (10, [.ref q1, .ref q2, .ref q3, .ref q4, .ref q5, .ref q6, .ref q7, .ref q8, .int 0, .ref q9, .ref q10, .ref q11, .int 0, .int 0, .ref q12, .ref q13, .ref q14, .ref q15, .ref q16, .ref q17, .ref q18, .ref q19, .ref q20, .int 0, .ref q21, .ref q22, .ref q23, .ref q24, .ref q25, .ref q26, .ref q27, .ref q28, .ref q29, .ref q30, .ref q31, .null, .null, .null, .null, .null])) :: G31) _ _ := hJ
  refine lv_aload_n hx hb dd_R_init_238 rfl (lv_at hl 0 rfl) ?_
  refine lv_bipush (v := 12) hx hb dd_R_init_239 rfl ?_
  refine xk_newI hx hb (hts _ hw_57) hKK hA hJ 12 (by decide) (by decide) (by decide) (Nat.le_trans (by decide) hRc) (Nat.le_trans (by decide) hRs) dd_R_init_241 (fun q32 H hJ => ?_)
  obtain ⟨G32, hG32⟩ : ∃ G, G = G31 ++ [(q32, .inl (ca 0, 12, .inl fun _ => 0))] := ⟨_, rfl⟩
  have hJ : xs_J D A s ((h0, .inr (10, [.ref q1, .ref q2, .ref q3, .ref q4, .ref q5, .ref q6, .ref q7, .ref q8, .int 0, .ref q9, .ref q10, .ref q11, .int 0, .int 0, .ref q12, .ref q13, .ref q14, .ref q15, .ref q16, .ref q17, .ref q18, .ref q19, .ref q20, .int 0, .ref q21, .ref q22, .ref q23, .ref q24, .ref q25, .ref q26, .ref q27, .ref q28, .ref q29, .ref q30, .ref q31, .null, .null, .null, .null, .null])) :: G32) H locs := by
    rw [hG32]
    exact hJ
  refine xk_putF_R (ty := .array (.int)) hx hb hts hown hKK hJ 35 (by decide) (hts _ hw_778) rfl hin rfl (by decide +kernel) rfl rfl (Nat.le_of_ble_eq_true rfl) dd_R_init_243 (fun H locs hJ => ?_)
  have hJ : xs_J D A s ((h0, .inr (10, [.ref q1, .ref q2, .ref q3, .ref q4, .ref q5, .ref q6, .ref q7, .ref q8, .int 0, .ref q9, .ref q10, .ref q11, .int 0, .int 0, .ref q12, .ref q13, .ref q14, .ref q15, .ref q16, .ref q17, .ref q18, .ref q19, .ref q20, .int 0, .ref q21, .ref q22, .ref q23, .ref q24, .ref q25, .ref q26, .ref q27, .ref q28, .ref q29, .ref q30, .ref q31, .ref q32, .null, .null, .null, .null])) :: G32) _ _ := hJ
  refine lv_aload_n hx hb dd_R_init_246 rfl (lv_at hl 0 rfl) ?_
  refine lv_iconst (v := 3) hx hb dd_R_init_247 rfl ?_
  refine xk_newI hx hb (hts _ hw_57) hKK hA hJ 3 (by decide) (by decide) (by decide) (Nat.le_trans (by decide) hRc) (Nat.le_trans (by decide) hRs) dd_R_init_248 (fun q33 H hJ => ?_)
  obtain ⟨G33, hG33⟩ : ∃ G, G = G32 ++ [(q33, .inl (ca 0, 3, .inl fun _ => 0))] := ⟨_, rfl⟩
  have hJ : xs_J D A s ((h0, .inr (10, [.ref q1, .ref q2, .ref q3, .ref q4, .ref q5, .ref q6, .ref q7, .ref q8, .int 0, .ref q9, .ref q10, .ref q11, .int 0, .int 0, .ref q12, .ref q13, .ref q14, .ref q15, .ref q16, .ref q17, .ref q18, .ref q19, .ref q20, .int 0, .ref q21, .ref q22, .ref q23, .ref q24, .ref q25, .ref q26, .ref q27, .ref q28, .ref q29, .ref q30, .ref q31, .ref q32, .null, .null, .null, .null])) :: G33) H locs := by
    rw [hG33]
    exact hJ
  refine xk_putF_R (ty := .array (.int)) hx hb hts hown hKK hJ 36 (by decide) (hts _ hw_779) rfl hin rfl (by decide +kernel) rfl rfl (Nat.le_of_ble_eq_true rfl) dd_R_init_250 (fun H locs hJ => ?_)
  have hJ : xs_J D A s ((h0, .inr (10, [.ref q1, .ref q2, .ref q3, .ref q4, .ref q5, .ref q6, .ref q7, .ref q8, .int 0, .ref q9, .ref q10, .ref q11, .int 0, .int 0, .ref q12, .ref q13, .ref q14, .ref q15, .ref q16, .ref q17, .ref q18, .ref q19, .ref q20, .int 0, .ref q21, .ref q22, .ref q23, .ref q24, .ref q25, .ref q26, .ref q27, .ref q28, .ref q29, .ref q30, .ref q31, .ref q32, .ref q33, .null, .null, .null])) :: G33) _ _ := hJ
  refine lv_aload_n hx hb dd_R_init_253 rfl (lv_at hl 0 rfl) ?_
  refine lv_bipush (v := 6) hx hb dd_R_init_254 rfl ?_
  refine xk_newI hx hb (hts _ hw_57) hKK hA hJ 6 (by decide) (by decide) (by decide) (Nat.le_trans (by decide) hRc) (Nat.le_trans (by decide) hRs) dd_R_init_256 (fun q34 H hJ => ?_)
  obtain ⟨G34, hG34⟩ : ∃ G, G = G33 ++ [(q34, .inl (ca 0, 6, .inl fun _ => 0))] := ⟨_, rfl⟩
  have hJ : xs_J D A s ((h0, .inr (10, [.ref q1, .ref q2, .ref q3, .ref q4, .ref q5, .ref q6, .ref q7, .ref q8, .int 0, .ref q9, .ref q10, .ref q11, .int 0, .int 0, .ref q12, .ref q13, .ref q14, .ref q15, .ref q16, .ref q17, .ref q18, .ref q19, .ref q20, .int 0, .ref q21, .ref q22, .ref q23, .ref q24, .ref q25, .ref q26, .ref q27, .ref q28, .ref q29, .ref q30, .ref q31, .ref q32, .ref q33, .null, .null, .null])) :: G34) H locs := by
    rw [hG34]
    exact hJ
  refine xk_putF_R (ty := .array (.int)) hx hb hts hown hKK hJ 37 (by decide) (hts _ hw_780) rfl hin rfl (by decide +kernel) rfl rfl (Nat.le_of_ble_eq_true rfl) dd_R_init_258 (fun H locs hJ => ?_)
  have hJ : xs_J D A s ((h0, .inr (10, [.ref q1, .ref q2, .ref q3, .ref q4, .ref q5, .ref q6, .ref q7, .ref q8, .int 0, .ref q9, .ref q10, .ref q11, .int 0, .int 0, .ref q12, .ref q13, .ref q14, .ref q15, .ref q16, .ref q17, .ref q18, .ref q19, .ref q20, .int 0, .ref q21, .ref q22, .ref q23, .ref q24, .ref q25, .ref q26, .ref q27, .ref q28, .ref q29, .ref q30, .ref q31, .ref q32, .ref q33, .ref q34, .null, .null])) :: G34) _ _ := hJ
  refine lv_aload_n hx hb dd_R_init_261 rfl (lv_at hl 0 rfl) ?_
  refine lv_bipush (v := 24) hx hb dd_R_init_262 rfl ?_
  refine xk_newJ hx hb (hts _ hw_195) hKK hA hJ 24 (by decide) (by decide) (by decide) (Nat.le_trans (by decide) hRc) (Nat.le_trans (by decide) hRs) dd_R_init_264 (fun q35 H hJ => ?_)
  obtain ⟨G35, hG35⟩ : ∃ G, G = G34 ++ [(q35, .inl (ca 2, 24, .inr (.inl fun _ => 0)))] := ⟨_, rfl⟩
  have hJ : xs_J D A s ((h0, .inr (10, [.ref q1, .ref q2, .ref q3, .ref q4, .ref q5, .ref q6, .ref q7, .ref q8, .int 0, .ref q9, .ref q10, .ref q11, .int 0, .int 0, .ref q12, .ref q13, .ref q14, .ref q15, .ref q16, .ref q17, .ref q18, .ref q19, .ref q20, .int 0, .ref q21, .ref q22, .ref q23, .ref q24, .ref q25, .ref q26, .ref q27, .ref q28, .ref q29, .ref q30, .ref q31, .ref q32, .ref q33, .ref q34, .null, .null])) :: G35) H locs := by
    rw [hG35]
    exact hJ
  refine xk_putF_R (ty := .array (.long)) hx hb hts hown hKK hJ 38 (by decide) (hts _ hw_781) rfl hin rfl (by decide +kernel) rfl rfl (Nat.le_of_ble_eq_true rfl) dd_R_init_266 (fun H locs hJ => ?_)
  have hJ : xs_J D A s ((h0, .inr (10, [.ref q1, .ref q2, .ref q3, .ref q4, .ref q5, .ref q6, .ref q7, .ref q8, .int 0, .ref q9, .ref q10, .ref q11, .int 0, .int 0, .ref q12, .ref q13, .ref q14, .ref q15, .ref q16, .ref q17, .ref q18, .ref q19, .ref q20, .int 0, .ref q21, .ref q22, .ref q23, .ref q24, .ref q25, .ref q26, .ref q27, .ref q28, .ref q29, .ref q30, .ref q31, .ref q32, .ref q33, .ref q34, .ref q35, .null])) :: G35) _ _ := hJ
  refine lv_aload_n hx hb dd_R_init_269 rfl (lv_at hl 0 rfl) ?_
  refine lv_bipush (v := 9) hx hb dd_R_init_270 rfl ?_
  refine xk_newI hx hb (hts _ hw_57) hKK hA hJ 9 (by decide) (by decide) (by decide) (Nat.le_trans (by decide) hRc) (Nat.le_trans (by decide) hRs) dd_R_init_272 (fun q36 H hJ => ?_)
  obtain ⟨G36, hG36⟩ : ∃ G, G = G35 ++ [(q36, .inl (ca 0, 9, .inl fun _ => 0))] := ⟨_, rfl⟩
  have hJ : xs_J D A s ((h0, .inr (10, [.ref q1, .ref q2, .ref q3, .ref q4, .ref q5, .ref q6, .ref q7, .ref q8, .int 0, .ref q9, .ref q10, .ref q11, .int 0, .int 0, .ref q12, .ref q13, .ref q14, .ref q15, .ref q16, .ref q17, .ref q18, .ref q19, .ref q20, .int 0, .ref q21, .ref q22, .ref q23, .ref q24, .ref q25, .ref q26, .ref q27, .ref q28, .ref q29, .ref q30, .ref q31, .ref q32, .ref q33, .ref q34, .ref q35, .null])) :: G36) H locs := by
    rw [hG36]
    exact hJ
  refine xk_putF_R (ty := .array (.int)) hx hb hts hown hKK hJ 39 (by decide) (hts _ hw_782) rfl hin rfl (by decide +kernel) rfl rfl (Nat.le_of_ble_eq_true rfl) dd_R_init_274 (fun H locs hJ => ?_)
  have hJ : xs_J D A s ((h0, .inr (10, [.ref q1, .ref q2, .ref q3, .ref q4, .ref q5, .ref q6, .ref q7, .ref q8, .int 0, .ref q9, .ref q10, .ref q11, .int 0, .int 0, .ref q12, .ref q13, .ref q14, .ref q15, .ref q16, .ref q17, .ref q18, .ref q19, .ref q20, .int 0, .ref q21, .ref q22, .ref q23, .ref q24, .ref q25, .ref q26, .ref q27, .ref q28, .ref q29, .ref q30, .ref q31, .ref q32, .ref q33, .ref q34, .ref q35, .ref q36])) :: G36) _ _ := hJ
  have f6 : G6 = [(q1, .inl (ca 0, 256, .inl fun _ => 0)), (q2, .inl (ca 0, 256, .inl fun _ => 0)), (q3, .inl (ca 0, 176, .inl fun _ => 0)), (q4, .inl (ca 0, 16, .inl fun _ => 0)), (q5, .inl (ca 0, 16, .inl fun _ => 0)), (q6, .inl (ca 0, 16, .inl fun _ => 0))] := by
    rw [hG6, hG5, hG4, hG3, hG2, hG1]
    rfl
  have f12 : G12 = [(q1, .inl (ca 0, 256, .inl fun _ => 0)), (q2, .inl (ca 0, 256, .inl fun _ => 0)), (q3, .inl (ca 0, 176, .inl fun _ => 0)), (q4, .inl (ca 0, 16, .inl fun _ => 0)), (q5, .inl (ca 0, 16, .inl fun _ => 0)), (q6, .inl (ca 0, 16, .inl fun _ => 0)), (q7, .inl (ca 0, 240, .inl fun _ => 0)), (q8, .inl (ca 0, 64, .inl fun _ => 0)), (q9, .inl (ca 0, 768, .inl fun _ => 0)), (q10, .inl (ca 0, 24, .inl fun _ => 0)), (q11, .inl (ca 0, 24, .inl fun _ => 0)), (q12, .inl (ca 0, 3, .inl fun _ => 0))] := by
    rw [hG12, hG11, hG10, hG9, hG8, hG7, f6]
    rfl
  have f18 : G18 = [(q1, .inl (ca 0, 256, .inl fun _ => 0)), (q2, .inl (ca 0, 256, .inl fun _ => 0)), (q3, .inl (ca 0, 176, .inl fun _ => 0)), (q4, .inl (ca 0, 16, .inl fun _ => 0)), (q5, .inl (ca 0, 16, .inl fun _ => 0)), (q6, .inl (ca 0, 16, .inl fun _ => 0)), (q7, .inl (ca 0, 240, .inl fun _ => 0)), (q8, .inl (ca 0, 64, .inl fun _ => 0)), (q9, .inl (ca 0, 768, .inl fun _ => 0)), (q10, .inl (ca 0, 24, .inl fun _ => 0)), (q11, .inl (ca 0, 24, .inl fun _ => 0)), (q12, .inl (ca 0, 3, .inl fun _ => 0)), (q13, .inl (ca 1, 3, .inl fun _ => 0)), (q14, .inl (ca 0, 3, .inl fun _ => 0)), (q15, .inl (ca 0, 3, .inl fun _ => 0)), (q16, .inl (ca 0, 3, .inl fun _ => 0)), (q17, .inl (ca 0, 3, .inl fun _ => 0)), (q18, .inl (ca 0, 3, .inl fun _ => 0))] := by
    rw [hG18, hG17, hG16, hG15, hG14, hG13, f12]
    rfl
  have f24 : G24 = [(q1, .inl (ca 0, 256, .inl fun _ => 0)), (q2, .inl (ca 0, 256, .inl fun _ => 0)), (q3, .inl (ca 0, 176, .inl fun _ => 0)), (q4, .inl (ca 0, 16, .inl fun _ => 0)), (q5, .inl (ca 0, 16, .inl fun _ => 0)), (q6, .inl (ca 0, 16, .inl fun _ => 0)), (q7, .inl (ca 0, 240, .inl fun _ => 0)), (q8, .inl (ca 0, 64, .inl fun _ => 0)), (q9, .inl (ca 0, 768, .inl fun _ => 0)), (q10, .inl (ca 0, 24, .inl fun _ => 0)), (q11, .inl (ca 0, 24, .inl fun _ => 0)), (q12, .inl (ca 0, 3, .inl fun _ => 0)), (q13, .inl (ca 1, 3, .inl fun _ => 0)), (q14, .inl (ca 0, 3, .inl fun _ => 0)), (q15, .inl (ca 0, 3, .inl fun _ => 0)), (q16, .inl (ca 0, 3, .inl fun _ => 0)), (q17, .inl (ca 0, 3, .inl fun _ => 0)), (q18, .inl (ca 0, 3, .inl fun _ => 0)), (q19, .inl (ca 0, 3, .inl fun _ => 0)), (q20, .inl (ca 0, 3, .inl fun _ => 0)), (q21, .inl (ca 0, 3, .inl fun _ => 0)), (q22, .inl (ca 0, 3, .inl fun _ => 0)), (q23, .inl (ca 0, 3, .inl fun _ => 0)), (q24, .inl (ca 0, 3, .inl fun _ => 0))] := by
    rw [hG24, hG23, hG22, hG21, hG20, hG19, f18]
    rfl
  have f30 : G30 = [(q1, .inl (ca 0, 256, .inl fun _ => 0)), (q2, .inl (ca 0, 256, .inl fun _ => 0)), (q3, .inl (ca 0, 176, .inl fun _ => 0)), (q4, .inl (ca 0, 16, .inl fun _ => 0)), (q5, .inl (ca 0, 16, .inl fun _ => 0)), (q6, .inl (ca 0, 16, .inl fun _ => 0)), (q7, .inl (ca 0, 240, .inl fun _ => 0)), (q8, .inl (ca 0, 64, .inl fun _ => 0)), (q9, .inl (ca 0, 768, .inl fun _ => 0)), (q10, .inl (ca 0, 24, .inl fun _ => 0)), (q11, .inl (ca 0, 24, .inl fun _ => 0)), (q12, .inl (ca 0, 3, .inl fun _ => 0)), (q13, .inl (ca 1, 3, .inl fun _ => 0)), (q14, .inl (ca 0, 3, .inl fun _ => 0)), (q15, .inl (ca 0, 3, .inl fun _ => 0)), (q16, .inl (ca 0, 3, .inl fun _ => 0)), (q17, .inl (ca 0, 3, .inl fun _ => 0)), (q18, .inl (ca 0, 3, .inl fun _ => 0)), (q19, .inl (ca 0, 3, .inl fun _ => 0)), (q20, .inl (ca 0, 3, .inl fun _ => 0)), (q21, .inl (ca 0, 3, .inl fun _ => 0)), (q22, .inl (ca 0, 3, .inl fun _ => 0)), (q23, .inl (ca 0, 3, .inl fun _ => 0)), (q24, .inl (ca 0, 3, .inl fun _ => 0)), (q25, .inl (ca 0, 3, .inl fun _ => 0)), (q26, .inl (ca 0, 3, .inl fun _ => 0)), (q27, .inl (ca 0, 3, .inl fun _ => 0)), (q28, .inl (ca 0, 3, .inl fun _ => 0)), (q29, .inl (ca 1, 3, .inl fun _ => 0)), (q30, .inl (ca 1, 3, .inl fun _ => 0))] := by
    rw [hG30, hG29, hG28, hG27, hG26, hG25, f24]
    rfl
  have f36 : G36 = [(q1, .inl (ca 0, 256, .inl fun _ => 0)), (q2, .inl (ca 0, 256, .inl fun _ => 0)), (q3, .inl (ca 0, 176, .inl fun _ => 0)), (q4, .inl (ca 0, 16, .inl fun _ => 0)), (q5, .inl (ca 0, 16, .inl fun _ => 0)), (q6, .inl (ca 0, 16, .inl fun _ => 0)), (q7, .inl (ca 0, 240, .inl fun _ => 0)), (q8, .inl (ca 0, 64, .inl fun _ => 0)), (q9, .inl (ca 0, 768, .inl fun _ => 0)), (q10, .inl (ca 0, 24, .inl fun _ => 0)), (q11, .inl (ca 0, 24, .inl fun _ => 0)), (q12, .inl (ca 0, 3, .inl fun _ => 0)), (q13, .inl (ca 1, 3, .inl fun _ => 0)), (q14, .inl (ca 0, 3, .inl fun _ => 0)), (q15, .inl (ca 0, 3, .inl fun _ => 0)), (q16, .inl (ca 0, 3, .inl fun _ => 0)), (q17, .inl (ca 0, 3, .inl fun _ => 0)), (q18, .inl (ca 0, 3, .inl fun _ => 0)), (q19, .inl (ca 0, 3, .inl fun _ => 0)), (q20, .inl (ca 0, 3, .inl fun _ => 0)), (q21, .inl (ca 0, 3, .inl fun _ => 0)), (q22, .inl (ca 0, 3, .inl fun _ => 0)), (q23, .inl (ca 0, 3, .inl fun _ => 0)), (q24, .inl (ca 0, 3, .inl fun _ => 0)), (q25, .inl (ca 0, 3, .inl fun _ => 0)), (q26, .inl (ca 0, 3, .inl fun _ => 0)), (q27, .inl (ca 0, 3, .inl fun _ => 0)), (q28, .inl (ca 0, 3, .inl fun _ => 0)), (q29, .inl (ca 1, 3, .inl fun _ => 0)), (q30, .inl (ca 1, 3, .inl fun _ => 0)), (q31, .inl (ca 2, 12, .inr (.inl fun _ => 0))), (q32, .inl (ca 0, 12, .inl fun _ => 0)), (q33, .inl (ca 0, 3, .inl fun _ => 0)), (q34, .inl (ca 0, 6, .inl fun _ => 0)), (q35, .inl (ca 2, 24, .inr (.inl fun _ => 0))), (q36, .inl (ca 0, 9, .inl fun _ => 0))] := by
    rw [hG36, hG35, hG34, hG33, hG32, hG31, f30]
    rfl
  rw [f36] at hJ
  obtain ⟨ad, a171, a172, b0, b1, b2, b3, b4, b5, b6, b7, b8, b9, b10, b11, b12, b13, b14, b15, b16, b17, b18, b19, b20, b21, b22, b23, b24, b25, b26, b27, b28, b29, b30, b31, b32, b33, b34, b35, b36⟩ : ∃ ad : Nat → Nat, ad 171 = ad0 171 ∧ ad 172 = ad0 172 ∧ ad 200 = h0 ∧ ad 201 = q1 ∧ ad 202 = q2 ∧ ad 203 = q3 ∧ ad 204 = q4 ∧ ad 205 = q5 ∧ ad 206 = q6 ∧ ad 207 = q7 ∧ ad 208 = q8 ∧ ad 209 = q9 ∧ ad 210 = q10 ∧ ad 211 = q11 ∧ ad 212 = q12 ∧ ad 213 = q13 ∧ ad 214 = q14 ∧ ad 215 = q15 ∧ ad 216 = q16 ∧ ad 217 = q17 ∧ ad 218 = q18 ∧ ad 219 = q19 ∧ ad 220 = q20 ∧ ad 221 = q21 ∧ ad 222 = q22 ∧ ad 223 = q23 ∧ ad 224 = q24 ∧ ad 225 = q25 ∧ ad 226 = q26 ∧ ad 227 = q27 ∧ ad 228 = q28 ∧ ad 229 = q29 ∧ ad 230 = q30 ∧ ad 231 = q31 ∧ ad 232 = q32 ∧ ad 233 = q33 ∧ ad 234 = q34 ∧ ad 235 = q35 ∧ ad 236 = q36 := ⟨fun i => if i < 200 then ad0 i else ([h0, q1, q2, q3, q4, q5, q6, q7, q8, q9, q10, q11, q12, q13, q14, q15, q16, q17, q18, q19, q20, q21, q22, q23, q24, q25, q26, q27, q28, q29, q30, q31, q32, q33, q34, q35, q36] : List Nat).getD (i - 200) 0, rfl, rfl, rfl, rfl, rfl, rfl, rfl, rfl, rfl, rfl, rfl, rfl, rfl, rfl, rfl, rfl, rfl, rfl, rfl, rfl, rfl, rfl, rfl, rfl, rfl, rfl, rfl, rfl, rfl, rfl, rfl, rfl, rfl, rfl, rfl, rfl, rfl, rfl, rfl⟩
  have hw : xs_I D ad ca wkR A s xs_zero H locs := by
    show xs_J D A s (xs_w ad ca wkR xs_zero) H locs
    rw [xk_eqR, b0, b1, b2, b3, b4, b5, b6, b7, b8, b9, b10, b11, b12, b13, b14, b15, b16, b17, b18, b19, b20, b21, b22, b23, b24, b25, b26, b27, b28, b29, b30, b31, b32, b33, b34, b35, b36]
    exact hJ
  clear hJ
  rw [← b0] at hl
  have hK : xs_K D ad ca wkR A s := ⟨wkR_ok, hKK.1, hA, hKK.2.1, z_cg a171 a172 hZ⟩
  have hk : xs_is wkR 200 xs_cR := ⟨by decide, by decide⟩
  obtain ⟨T, gT, hbx, hqT⟩ := r_boxes xs_zero
  have w283 : ∀ (r d : Nat), d + r = 3 → ∀ (S : xs_T) (H : Heap) (locs : List Loc) (ls : Array Slot), mP n1 d 0 S → xs_I D ad ca wkR A s S H locs → lv_has ls 4 [(0, .ref (ad 200)), (1, .int n1), (2, .int (nI d))] → W p l e R s m args below meth c H locs 36 1979 Q (F0 m 283 ls []) := by
    intro r
    induction r with
    | zero =>
      intro d hd S H locs ls hP hw hl
      obtain rfl : d = 3 := by omega
      refine lv_iload_n hx hb dd_R_init_283 rfl (lv_at hl 2 rfl) ?_
      refine lv_iconst (v := 3) hx hb dd_R_init_284 rfl ?_
      refine lv_icmp_ge hx hb dd_R_init_285 rfl (fun _ => ?_) (fun b => absurd (show (3 : Int32) ≤ nI 3 by decide) b)
      exact hret (u := (ad, S)) ⟨b0, a171, a172, mP_ini hP⟩ hw dd_R_init_348
    | succ r ih =>
      intro d hd S H locs ls hP hw hl
      have w290 : ∀ (r2 i : Nat), i + r2 = 16 → ∀ (S : xs_T) (H : Heap) (locs : List Loc) (ls : Array Slot), mP n1 d i S → xs_I D ad ca wkR A s S H locs → lv_has ls 4 [(0, .ref (ad 200)), (1, .int n1), (2, .int (nI d)), (3, .int (nI i))] → W p l e R s m args below meth c H locs 36 1979 Q (F0 m 290 ls []) := by
        intro r2
        induction r2 with
        | zero =>
          intro i hi S H locs ls hP hw hl
          obtain rfl : i = 16 := by omega
          refine lv_iload_n hx hb dd_R_init_290 rfl (lv_at hl 3 rfl) ?_
          refine lv_bipush (v := 16) hx hb dd_R_init_291 rfl ?_
          refine lv_icmp_ge hx hb dd_R_init_293 rfl (fun _ => ?_) (fun b => absurd (show (16 : Int32) ≤ nI 16 by decide) b)
          refine lv_aload_n hx hb dd_R_init_328 rfl (lv_at hl 0 rfl) ?_
          refine xrg_get_R (v := .ref (ad (200 + 26))) hx hb hts hown hK hw hk 29 (by decide) (hts _ hw_772) rfl dd_R_init_329 ?_
          refine lv_iload_n hx hb dd_R_init_332 rfl (lv_at hl 2 rfl) ?_
          refine lv_iconst (v := (-1)) hx hb dd_R_init_333 rfl ?_
          refine xrg_iast (k := 200 + 26) hx hb hK hw ⟨by decide, by decide⟩ (show xs_wr S (200 + 26) (nI d) (-1) = some (xs_sI S 226 d (-1)) from x_wr (k := 200 + 26) (show d < 3 by omega)) dd_R_init_334 (fun H locs hw => ?_)
          refine lv_aload_n hx hb dd_R_init_335 rfl (lv_at hl 0 rfl) ?_
          refine xrg_get_R (v := .ref (ad (200 + 22))) hx hb hts hown hK hw hk 25 (by decide) (hts _ hw_768) rfl dd_R_init_336 ?_
          refine lv_iload_n hx hb dd_R_init_339 rfl (lv_at hl 2 rfl) ?_
          refine lv_iconst (v := (-1)) hx hb dd_R_init_340 rfl ?_
          refine xrg_iast (k := 200 + 22) hx hb hK hw ⟨by decide, by decide⟩ (show xs_wr (xs_sI S 226 d (-1)) (200 + 22) (nI d) (-1) = some (xs_sI (xs_sI S 226 d (-1)) 222 d (-1)) from x_wr (k := 200 + 22) (show d < 3 by omega)) dd_R_init_341 (fun H locs hw => ?_)
          refine lv_iinc (k := 2) (v := nI d + 1) hx hb dd_R_init_342 hl rfl rfl (by decide) rfl (fun ls hl => ?_)
          have hl : lv_has ls 4 [(2, .int (nI d + 1)), (0, .ref (ad 200)), (1, .int n1), (3, .int (nI 16))] := hl
          rw [nI_1] at hl
          refine lv_goto hx hb dd_R_init_345 rfl ?_
          exact ih (d + 1) (by omega) _ H locs ls (mP_end hP) hw (lv_sub hl [1, 2, 0] rfl)
        | succ r2 ih2 =>
          intro i hi S H locs ls hP hw hl
          refine lv_iload_n hx hb dd_R_init_290 rfl (lv_at hl 3 rfl) ?_
          refine lv_bipush (v := 16) hx hb dd_R_init_291 rfl ?_
          refine lv_icmp_ge hx hb dd_R_init_293 rfl (fun b => absurd b (show ¬ (16 : Int32) ≤ nI i from nI_ge (b := 16) (by omega) (by decide))) (fun _ => ?_)
          refine lv_aload_n hx hb dd_R_init_296 rfl (lv_at hl 0 rfl) ?_
          refine xrg_get_R (v := .ref (ad (200 + 7))) hx hb hts hown hK hw hk 6 (by decide) (hts _ hw_749) rfl dd_R_init_297 ?_
          refine lv_bipush (v := 16) hx hb dd_R_init_300 rfl ?_
          refine lv_iload_n hx hb dd_R_init_302 rfl (lv_at hl 2 rfl) ?_
          refine lv_imul hx hb dd_R_init_303 ?_
          refine lv_iload_n hx hb dd_R_init_304 rfl (lv_at hl 3 rfl) ?_
          refine lv_iadd hx hb dd_R_init_305 ?_
          refine lv_iload_n hx hb dd_R_init_306 rfl (lv_at hl 1 rfl) ?_
          refine lv_bipush (v := 41) hx hb dd_R_init_307 rfl ?_
          refine lv_iload_n hx hb dd_R_init_309 rfl (lv_at hl 2 rfl) ?_
          refine lv_imul hx hb dd_R_init_310 ?_
          refine lv_iadd hx hb dd_R_init_311 ?_
          refine lv_bipush (v := 13) hx hb dd_R_init_312 rfl ?_
          refine lv_iload_n hx hb dd_R_init_314 rfl (lv_at hl 3 rfl) ?_
          refine lv_imul hx hb dd_R_init_315 ?_
          refine lv_iadd hx hb dd_R_init_316 ?_
          refine lv_sipush (v := 255) hx hb dd_R_init_317 rfl ?_
          refine lv_iand hx hb dd_R_init_320 ?_
          refine xrg_iast (k := 200 + 7) hx hb hK hw ⟨by decide, by decide⟩ (show xs_wr S (200 + 7) ((16 : Int32) * nI d + nI i) ((n1 + 41 * nI d + 13 * nI i) &&& 255) = some (xs_sI S 207 (16 * d + i) ((n1 + 41 * nI d + 13 * nI i) &&& 255)) by rw [show (16 : Int32) * nI d = nI (16 * d) from pk_mul 16 d, nI_add]; exact x_wr (k := 200 + 7) (show 16 * d + i < 240 by omega)) dd_R_init_321 (fun H locs hw => ?_)
          refine lv_iinc (k := 3) (v := nI i + 1) hx hb dd_R_init_322 hl rfl rfl (by decide) rfl (fun ls hl => ?_)
          have hl : lv_has ls 4 [(3, .int (nI i + 1)), (0, .ref (ad 200)), (1, .int n1), (2, .int (nI d))] := hl
          rw [nI_1] at hl
          refine lv_goto hx hb dd_R_init_325 rfl ?_
          exact ih2 (i + 1) (by omega) _ H locs ls (mP_key hP (by omega)) hw (lv_sub hl [1, 2, 3, 0] rfl)
      refine lv_iload_n hx hb dd_R_init_283 rfl (lv_at hl 2 rfl) ?_
      refine lv_iconst (v := 3) hx hb dd_R_init_284 rfl ?_
      refine lv_icmp_ge hx hb dd_R_init_285 rfl (fun b => absurd b (show ¬ (3 : Int32) ≤ nI d from nI_ge (b := 3) (by omega) (by decide))) (fun _ => ?_)
      refine lv_iconst (v := 0) hx hb dd_R_init_288 rfl ?_
      refine lv_istore_n hx hb dd_R_init_289 rfl hl (by decide) rfl (fun ls hl => ?_)
      have hl : lv_has ls 4 [(3, .int 0), (0, .ref (ad 200)), (1, .int n1), (2, .int (nI d))] := hl
      exact w290 16 0 rfl S H locs ls hP hw (lv_sub hl [1, 2, 3, 0] rfl)
  refine lv_aload_n hx hb dd_R_init_277 rfl (lv_at hl 0 rfl) ?_
  refine xqg_v hK hw (va_runV (As := []) (rest := []) ⟨hx, hb, hml, hown, hts⟩ (xc_R_boxes l D ad ca wkR 200 xs_zero T hk gT _) ⟨callB_of 0 hts (xs_good hw_732) rfl rfl rfl (hts _ hw_13) (hts _ hw_729) yd_R_boxes ⟨Nat.le_trans (by decide) hRf, Nat.le_trans (by decide) hRl⟩, (hts _ hw_731), (hts _ hs_10)⟩ ⟨xs_blind, xs_recv_R hK hw hk, fun U h1 h2 => ⟨rfl, xs_pre hK hw h1 h2⟩⟩ rfl rfl hl.1 rfl (lv_room (Nat.le_of_ble_eq_true rfl)) dd_R_init_278 ⟨by omega, by omega⟩) (fun H locs hw => ?_)
  refine lv_iconst (v := 0) hx hb dd_R_init_281 rfl ?_
  refine lv_istore_n hx hb dd_R_init_282 rfl hl (by decide) rfl (fun ls hl => ?_)
  have hl : lv_has ls 4 [(2, .int 0), (0, .ref (ad 200)), (1, .int n1)] := hl
  exact w283 3 0 rfl T _ _ _ (mP_box hbx hqT) hw (lv_sub hl [1, 2, 0] rfl)
