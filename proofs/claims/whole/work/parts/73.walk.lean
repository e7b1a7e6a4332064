/-! the walk of the law -/
section XG2
variable {p : Program} {l : Launch} {e : Env} {R : Room} {s : State} {m : MethodId} {args : Array Value} {below : List Frame} {meth : Method} {c : Code} {H : Heap} {locs : List Loc} {Q : State → Prop}
variable {cc : ByteArray} {pc : Nat} {ls : Array Slot} {rest : List Value} {D : va_G} {ad : Nat → Nat} {ca : Nat → ClassId} {ks : List Nat} {A : Nat → Prop} {S : xs_T} {T : xs_T}
variable {cells slots : Nat}
theorem xqg_i {r : Int32} {a : Array Value} {st0 : List Value} (hK : xs_K D ad ca ks A s) (hw : xs_I D ad ca ks A s S H locs) (hr : va_Run p l e R s m args below meth c H locs cells slots 0 0 (F0 m pc ls st0) rest (va_Qi (fun r1 (_ : Unit) => r1 = r) (fun _ t => va_P D xs_cl (xs_w ad ca ks T) t.heap) (xs_A ad ks H.size) a) (xs_A ad ks H.size)) (kk : ∀ (H1 : Heap) (locs1 : List Loc), xs_I D ad ca ks A s T H1 locs1 → W p l e R s m args below meth c H1 locs1 cells slots Q (F0 m (pc + 3) ls (.int r :: rest))) : W p l e R s m args below meth c H locs cells slots Q (F0 m pc ls st0) :=
  va_calli hr hw.2.2 (fun q _ h => xs_AA hK hw q h) (xs_AA hK hw) (fun r1 _ t H1 locs1 ht _ hr1 hB _ _ hS => by
    cases hr1
    exact kk H1 locs1 ⟨by rw [← ht]; exact hB, xs_D hw.2.1, hS⟩)
theorem xqg_l {r : Int64} {a : Array Value} {st0 : List Value} (hK : xs_K D ad ca ks A s) (hw : xs_I D ad ca ks A s S H locs) (hr : va_Run p l e R s m args below meth c H locs cells slots 0 0 (F0 m pc ls st0) rest (va_Ql (fun r1 (_ : Unit) => r1 = r) (fun _ t => va_P D xs_cl (xs_w ad ca ks T) t.heap) (xs_A ad ks H.size) a) (xs_A ad ks H.size)) (kk : ∀ (H1 : Heap) (locs1 : List Loc), xs_I D ad ca ks A s T H1 locs1 → W p l e R s m args below meth c H1 locs1 cells slots Q (F0 m (pc + 3) ls (.long r :: rest))) : W p l e R s m args below meth c H locs cells slots Q (F0 m pc ls st0) :=
  va_calll hr hw.2.2 (fun q _ h => xs_AA hK hw q h) (xs_AA hK hw) (fun r1 _ t H1 locs1 ht _ hr1 hB _ _ hS => by
    cases hr1
    exact kk H1 locs1 ⟨by rw [← ht]; exact hB, xs_D hw.2.1, hS⟩)
end XG2
set_option maxHeartbeats 4000000 in
theorem law_c0 {p : Program} {l : Launch} {e : Env} {s : State} {m : MethodId} {below : List Frame} {meth : Method} {c : Code} {b L : Nat} {xs : Nat → Int32} {D : va_G} {ca : Nat → ClassId} {ad : Nat → Nat} {K : Nat → Nat → Nat} {n j tm : Nat} {S : xs_T} {H : Heap} {locs : List Loc} {ls : Array Slot} (hx : p.tables.exec = Jvm.exec) (hb : c.code = code) (hml : c.maxLocals = 4) (hown : s.vm.findClass R_law = some m.cls) (hts : ∀ w ∈ xs_U, w.before #[Value.ref b] s = true) (hX : va_X b L xs s s.heap) (hbl : b < s.heap.size) (hL : L ≤ 3585) (hKK : xs_KK D ca s) (hK : xs_K D ad ca xs_all (fun q => s.heap.size ≤ q) s) (hj : j + 6 < L) (hn : n < 512) (hR : Rel K n tm S S) (hw : xs_I D ad ca xs_all (fun q => s.heap.size ≤ q) s S H locs) (hl : lv_has ls 4 [(0, .ref b), (1, .ref (ad 0)), (2, .ref (ad 200)), (3, .int (nI j))]) (w809 : ∀ (S : xs_T) (H : Heap) (locs : List Loc) (ls : Array Slot) (tm : Nat), Rel K (n + 1) tm S S → xs_I D ad ca xs_all (fun q => s.heap.size ≤ q) s S H locs → lv_has ls 4 [(0, .ref b), (1, .ref (ad 0)), (2, .ref (ad 200)), (3, .int (nI j))] → W p l e room_1 s m #[Value.ref b] below meth c H locs 208 4475 (lw_Z below #[Value.ref b] s) (F0 m 809 ls [])) : W p l e room_1 s m #[Value.ref b] below meth c H locs 208 4475 (lw_Z below #[Value.ref b] s) (F0 m 128 ls []) := by
  have hbA : ¬ (fun q => s.heap.size ≤ q) b := Nat.not_le.mpr hbl
  have hkW : xs_is xs_all 0 xs_cW := ⟨by decide, by decide⟩
  have hkR : xs_is xs_all 200 xs_cR := ⟨by decide, by decide⟩
  obtain ⟨v, S2, R2, tm2, g1, g2, hR2⟩ := sim_both (c := fun S => xf_W_join 0 ((xs (j + 1))) S) (r := fun R => xf_R_join 200 ((xs (j + 1))) R) hR (fun R hR => sim_join hR (by omega) ((xs (j + 1))))
  refine lv_aload_n hx hb dd_L_law_128 rfl (lv_at hl 1 rfl) ?_
  refine lv_aload_n hx hb dd_L_law_129 rfl (lv_at hl 0 rfl) ?_
  refine lv_iload_n hx hb dd_L_law_130 rfl (lv_at hl 3 rfl) ?_
  refine lv_iconst (v := 1) hx hb dd_L_law_131 rfl ?_
  refine lv_iadd hx hb dd_L_law_132 ?_
  refine xl_rd (j := j) (k := 1) hx hb hX hbl hbA hw.2.2 hL (by omega) (nI_add j 1) dd_L_law_133 ?_
  refine xqg_i hK hw (va_runV (As := [.int (xs (j + 1))]) (rest := []) ⟨hx, hb, hml, hown, hts⟩ (xc_W_join l D ad ca xs_all rfl 0 ((xs (j + 1))) S v S2 hkW g1 _) ⟨callB_of 1 hts (xs_good hw_363) rfl rfl rfl (hts _ hw_1) (hts _ hw_360) yd_W_join ⟨by decide, by decide⟩, (hts _ hw_361), (hts _ hw_362)⟩ ⟨xs_blind, xs_recv_W hK hw hkW, fun U h1 h2 => ⟨rfl, xs_pre hK hw h1 h2⟩⟩ rfl rfl hl.1 rfl (lv_room (Nat.le_of_ble_eq_true rfl)) dd_L_law_134 ⟨by decide, by decide⟩) (fun H locs hw => ?_)
  refine lv_aload_n hx hb dd_L_law_137 rfl (lv_at hl 2 rfl) ?_
  refine lv_aload_n hx hb dd_L_law_138 rfl (lv_at hl 0 rfl) ?_
  refine lv_iload_n hx hb dd_L_law_139 rfl (lv_at hl 3 rfl) ?_
  refine lv_iconst (v := 1) hx hb dd_L_law_140 rfl ?_
  refine lv_iadd hx hb dd_L_law_141 ?_
  refine xl_rd (j := j) (k := 1) hx hb hX hbl hbA hw.2.2 hL (by omega) (nI_add j 1) dd_L_law_142 ?_
  refine xqg_i hK hw (va_runV (As := [.int (xs (j + 1))]) (rest := [.int v]) ⟨hx, hb, hml, hown, hts⟩ (xc_R_join l D ad ca xs_all 200 ((xs (j + 1))) S2 v R2 hkR g2 _) ⟨callB_of 1 hts (xs_good hw_868) rfl rfl rfl (hts _ hw_13) (hts _ hw_865) yd_R_join ⟨by decide, by decide⟩, (hts _ hw_866), (hts _ hw_867)⟩ ⟨xs_blind, xs_recv_R hK hw hkR, fun U h1 h2 => ⟨rfl, xs_pre hK hw h1 h2⟩⟩ rfl rfl hl.1 rfl (lv_room (Nat.le_of_ble_eq_true rfl)) dd_L_law_143 ⟨by decide, by decide⟩) (fun H locs hw => ?_)
  refine lv_icmp_eq hx hb dd_L_law_146 rfl (fun _ => ?_) (fun h => absurd rfl h)
  exact w809 R2 H locs ls tm2 hR2 hw hl
set_option maxHeartbeats 4000000 in
theorem law_c1 {p : Program} {l : Launch} {e : Env} {s : State} {m : MethodId} {below : List Frame} {meth : Method} {c : Code} {b L : Nat} {xs : Nat → Int32} {D : va_G} {ca : Nat → ClassId} {ad : Nat → Nat} {K : Nat → Nat → Nat} {n j tm : Nat} {S : xs_T} {H : Heap} {locs : List Loc} {ls : Array Slot} (hx : p.tables.exec = Jvm.exec) (hb : c.code = code) (hml : c.maxLocals = 4) (hown : s.vm.findClass R_law = some m.cls) (hts : ∀ w ∈ xs_U, w.before #[Value.ref b] s = true) (hX : va_X b L xs s s.heap) (hbl : b < s.heap.size) (hL : L ≤ 3585) (hKK : xs_KK D ca s) (hK : xs_K D ad ca xs_all (fun q => s.heap.size ≤ q) s) (hj : j + 6 < L) (hn : n < 512) (hR : Rel K n tm S S) (hw : xs_I D ad ca xs_all (fun q => s.heap.size ≤ q) s S H locs) (hl : lv_has ls 4 [(0, .ref b), (1, .ref (ad 0)), (2, .ref (ad 200)), (3, .int (nI j))]) (w809 : ∀ (S : xs_T) (H : Heap) (locs : List Loc) (ls : Array Slot) (tm : Nat), Rel K (n + 1) tm S S → xs_I D ad ca xs_all (fun q => s.heap.size ≤ q) s S H locs → lv_has ls 4 [(0, .ref b), (1, .ref (ad 0)), (2, .ref (ad 200)), (3, .int (nI j))] → W p l e room_1 s m #[Value.ref b] below meth c H locs 208 4475 (lw_Z below #[Value.ref b] s) (F0 m 809 ls [])) : W p l e room_1 s m #[Value.ref b] below meth c H locs 208 4475 (lw_Z below #[Value.ref b] s) (F0 m 151 ls []) := by
  have hbA : ¬ (fun q => s.heap.size ≤ q) b := Nat.not_le.mpr hbl
  have hkW : xs_is xs_all 0 xs_cW := ⟨by decide, by decide⟩
  have hkR : xs_is xs_all 200 xs_cR := ⟨by decide, by decide⟩
  obtain ⟨v, S2, R2, tm2, g1, g2, hR2⟩ := sim_both (c := fun S => xf_W_send 0 ((xs (j + 1))) (((xs_lshl (Int32.toInt64 (xs (j + 2))) 32) ||| ((Int32.toInt64 (xs (j + 3))) &&& 4294967295))) ((xs (j + 4))) ((bz (xs (j + 5)))) ((bz (xs (j + 6)))) S) (r := fun R => xf_R_send 200 ((xs (j + 1))) (((xs_lshl (Int32.toInt64 (xs (j + 2))) 32) ||| ((Int32.toInt64 (xs (j + 3))) &&& 4294967295))) ((xs (j + 4))) ((bz (xs (j + 5)))) ((bz (xs (j + 6)))) R) hR (fun R hR => sim_send hR (by omega) ((xs (j + 1))) (((xs_lshl (Int32.toInt64 (xs (j + 2))) 32) ||| ((Int32.toInt64 (xs (j + 3))) &&& 4294967295))) ((xs (j + 4))) ((bz (xs (j + 5)))) ((bz (xs (j + 6)))) (bz01 _) (bz01 _))
  refine lv_aload_n hx hb dd_L_law_151 rfl (lv_at hl 1 rfl) ?_
  refine lv_aload_n hx hb dd_L_law_152 rfl (lv_at hl 0 rfl) ?_
  refine lv_iload_n hx hb dd_L_law_153 rfl (lv_at hl 3 rfl) ?_
  refine lv_iconst (v := 1) hx hb dd_L_law_154 rfl ?_
  refine lv_iadd hx hb dd_L_law_155 ?_
  refine xl_rd (j := j) (k := 1) hx hb hX hbl hbA hw.2.2 hL (by omega) (nI_add j 1) dd_L_law_156 ?_
  refine lv_aload_n hx hb dd_L_law_157 rfl (lv_at hl 0 rfl) ?_
  refine lv_iload_n hx hb dd_L_law_158 rfl (lv_at hl 3 rfl) ?_
  refine lv_iconst (v := 2) hx hb dd_L_law_159 rfl ?_
  refine lv_iadd hx hb dd_L_law_160 ?_
  refine xl_rd (j := j) (k := 2) hx hb hX hbl hbA hw.2.2 hL (by omega) (nI_add j 2) dd_L_law_161 ?_
  refine lv_i2l (v := Int32.toInt64 (xs (j + 2))) hx hb dd_L_law_162 rfl ?_
  refine lv_bipush (v := 32) hx hb dd_L_law_163 rfl ?_
  refine lv_lshl (v := xs_lshl (Int32.toInt64 (xs (j + 2))) 32) hx hb dd_L_law_165 rfl ?_
  refine lv_aload_n hx hb dd_L_law_166 rfl (lv_at hl 0 rfl) ?_
  refine lv_iload_n hx hb dd_L_law_167 rfl (lv_at hl 3 rfl) ?_
  refine lv_iconst (v := 3) hx hb dd_L_law_168 rfl ?_
  refine lv_iadd hx hb dd_L_law_169 ?_
  refine xl_rd (j := j) (k := 3) hx hb hX hbl hbA hw.2.2 hL (by omega) (nI_add j 3) dd_L_law_170 ?_
  refine lv_i2l (v := Int32.toInt64 (xs (j + 3))) hx hb dd_L_law_171 rfl ?_
  refine lv_ldc2 (v := 4294967295) hx hb hown (hts _ hw_1097) dd_L_law_172 ?_
  refine lv_land hx hb dd_L_law_175 ?_
  refine lv_lor hx hb dd_L_law_176 ?_
  refine lv_aload_n hx hb dd_L_law_177 rfl (lv_at hl 0 rfl) ?_
  refine lv_iload_n hx hb dd_L_law_178 rfl (lv_at hl 3 rfl) ?_
  refine lv_iconst (v := 4) hx hb dd_L_law_179 rfl ?_
  refine lv_iadd hx hb dd_L_law_180 ?_
  refine xl_rd (j := j) (k := 4) hx hb hX hbl hbA hw.2.2 hL (by omega) (nI_add j 4) dd_L_law_181 ?_
  refine lv_aload_n hx hb dd_L_law_182 rfl (lv_at hl 0 rfl) ?_
  refine lv_iload_n hx hb dd_L_law_183 rfl (lv_at hl 3 rfl) ?_
  refine lv_iconst (v := 5) hx hb dd_L_law_184 rfl ?_
  refine lv_iadd hx hb dd_L_law_185 ?_
  refine xl_rd (j := j) (k := 5) hx hb hX hbl hbA hw.2.2 hL (by omega) (nI_add j 5) dd_L_law_186 ?_
  refine xl_b (t0 := 194) hx hb dd_L_law_187 rfl dd_L_law_190 dd_L_law_191 rfl dd_L_law_194 ?_
  refine lv_aload_n hx hb dd_L_law_195 rfl (lv_at hl 0 rfl) ?_
  refine lv_iload_n hx hb dd_L_law_196 rfl (lv_at hl 3 rfl) ?_
  refine lv_bipush (v := 6) hx hb dd_L_law_197 rfl ?_
  refine lv_iadd hx hb dd_L_law_199 ?_
  refine xl_rd (j := j) (k := 6) hx hb hX hbl hbA hw.2.2 hL (by omega) (nI_add j 6) dd_L_law_200 ?_
  refine xl_b (t0 := 208) hx hb dd_L_law_201 rfl dd_L_law_204 dd_L_law_205 rfl dd_L_law_208 ?_
  refine xqg_i hK hw (va_runV (As := [.int (xs (j + 1)), .long ((xs_lshl (Int32.toInt64 (xs (j + 2))) 32) ||| ((Int32.toInt64 (xs (j + 3))) &&& 4294967295)), .int (xs (j + 4)), .int (bz (xs (j + 5))), .int (bz (xs (j + 6)))]) (rest := []) ⟨hx, hb, hml, hown, hts⟩ (xc_W_send l D ad ca xs_all rfl 0 ((xs (j + 1))) (((xs_lshl (Int32.toInt64 (xs (j + 2))) 32) ||| ((Int32.toInt64 (xs (j + 3))) &&& 4294967295))) ((xs (j + 4))) ((bz (xs (j + 5)))) ((bz (xs (j + 6)))) S v S2 hkW g1 _) ⟨callB_of 5 hts (xs_good hw_415) rfl rfl rfl (hts _ hw_1) (hts _ hw_412) yd_W_send ⟨by decide, by decide⟩, (hts _ hw_413), (hts _ hw_414)⟩ ⟨xs_blind, xs_recv_W hK hw hkW, fun U h1 h2 => ⟨rfl, xs_pre hK hw h1 h2⟩⟩ rfl rfl hl.1 rfl (lv_room (Nat.le_of_ble_eq_true rfl)) dd_L_law_209 ⟨by decide, by decide⟩) (fun H locs hw => ?_)
  refine lv_aload_n hx hb dd_L_law_212 rfl (lv_at hl 2 rfl) ?_
  refine lv_aload_n hx hb dd_L_law_213 rfl (lv_at hl 0 rfl) ?_
  refine lv_iload_n hx hb dd_L_law_214 rfl (lv_at hl 3 rfl) ?_
  refine lv_iconst (v := 1) hx hb dd_L_law_215 rfl ?_
  refine lv_iadd hx hb dd_L_law_216 ?_
  refine xl_rd (j := j) (k := 1) hx hb hX hbl hbA hw.2.2 hL (by omega) (nI_add j 1) dd_L_law_217 ?_
  refine lv_aload_n hx hb dd_L_law_218 rfl (lv_at hl 0 rfl) ?_
  refine lv_iload_n hx hb dd_L_law_219 rfl (lv_at hl 3 rfl) ?_
  refine lv_iconst (v := 2) hx hb dd_L_law_220 rfl ?_
  refine lv_iadd hx hb dd_L_law_221 ?_
  refine xl_rd (j := j) (k := 2) hx hb hX hbl hbA hw.2.2 hL (by omega) (nI_add j 2) dd_L_law_222 ?_
  refine lv_i2l (v := Int32.toInt64 (xs (j + 2))) hx hb dd_L_law_223 rfl ?_
  refine lv_bipush (v := 32) hx hb dd_L_law_224 rfl ?_
  refine lv_lshl (v := xs_lshl (Int32.toInt64 (xs (j + 2))) 32) hx hb dd_L_law_226 rfl ?_
  refine lv_aload_n hx hb dd_L_law_227 rfl (lv_at hl 0 rfl) ?_
  refine lv_iload_n hx hb dd_L_law_228 rfl (lv_at hl 3 rfl) ?_
  refine lv_iconst (v := 3) hx hb dd_L_law_229 rfl ?_
  refine lv_iadd hx hb dd_L_law_230 ?_
  refine xl_rd (j := j) (k := 3) hx hb hX hbl hbA hw.2.2 hL (by omega) (nI_add j 3) dd_L_law_231 ?_
  refine lv_i2l (v := Int32.toInt64 (xs (j + 3))) hx hb dd_L_law_232 rfl ?_
  refine lv_ldc2 (v := 4294967295) hx hb hown (hts _ hw_1097) dd_L_law_233 ?_
  refine lv_land hx hb dd_L_law_236 ?_
  refine lv_lor hx hb dd_L_law_237 ?_
  refine lv_aload_n hx hb dd_L_law_238 rfl (lv_at hl 0 rfl) ?_
  refine lv_iload_n hx hb dd_L_law_239 rfl (lv_at hl 3 rfl) ?_
  refine lv_iconst (v := 4) hx hb dd_L_law_240 rfl ?_
  refine lv_iadd hx hb dd_L_law_241 ?_
  refine xl_rd (j := j) (k := 4) hx hb hX hbl hbA hw.2.2 hL (by omega) (nI_add j 4) dd_L_law_242 ?_
  refine lv_aload_n hx hb dd_L_law_243 rfl (lv_at hl 0 rfl) ?_
  refine lv_iload_n hx hb dd_L_law_244 rfl (lv_at hl 3 rfl) ?_
  refine lv_iconst (v := 5) hx hb dd_L_law_245 rfl ?_
  refine lv_iadd hx hb dd_L_law_246 ?_
  refine xl_rd (j := j) (k := 5) hx hb hX hbl hbA hw.2.2 hL (by omega) (nI_add j 5) dd_L_law_247 ?_
  refine xl_b (t0 := 255) hx hb dd_L_law_248 rfl dd_L_law_251 dd_L_law_252 rfl dd_L_law_255 ?_
  refine lv_aload_n hx hb dd_L_law_256 rfl (lv_at hl 0 rfl) ?_
  refine lv_iload_n hx hb dd_L_law_257 rfl (lv_at hl 3 rfl) ?_
  refine lv_bipush (v := 6) hx hb dd_L_law_258 rfl ?_
  refine lv_iadd hx hb dd_L_law_260 ?_
  refine xl_rd (j := j) (k := 6) hx hb hX hbl hbA hw.2.2 hL (by omega) (nI_add j 6) dd_L_law_261 ?_
  refine xl_b (t0 := 269) hx hb dd_L_law_262 rfl dd_L_law_265 dd_L_law_266 rfl dd_L_law_269 ?_
  refine xqg_i hK hw (va_runV (As := [.int (xs (j + 1)), .long ((xs_lshl (Int32.toInt64 (xs (j + 2))) 32) ||| ((Int32.toInt64 (xs (j + 3))) &&& 4294967295)), .int (xs (j + 4)), .int (bz (xs (j + 5))), .int (bz (xs (j + 6)))]) (rest := [.int v]) ⟨hx, hb, hml, hown, hts⟩ (xc_R_send l D ad ca xs_all 200 ((xs (j + 1))) (((xs_lshl (Int32.toInt64 (xs (j + 2))) 32) ||| ((Int32.toInt64 (xs (j + 3))) &&& 4294967295))) ((xs (j + 4))) ((bz (xs (j + 5)))) ((bz (xs (j + 6)))) S2 v R2 hkR g2 _) ⟨callB_of 5 hts (xs_good hw_932) rfl rfl rfl (hts _ hw_13) (hts _ hw_929) yd_R_send ⟨by decide, by decide⟩, (hts _ hw_930), (hts _ hw_931)⟩ ⟨xs_blind, xs_recv_R hK hw hkR, fun U h1 h2 => ⟨rfl, xs_pre hK hw h1 h2⟩⟩ rfl rfl hl.1 rfl (lv_room (Nat.le_of_ble_eq_true rfl)) dd_L_law_270 ⟨by decide, by decide⟩) (fun H locs hw => ?_)
  refine lv_icmp_eq hx hb dd_L_law_273 rfl (fun _ => ?_) (fun h => absurd rfl h)
  exact w809 R2 H locs ls tm2 hR2 hw hl
set_option maxHeartbeats 4000000 in
theorem law_c2 {p : Program} {l : Launch} {e : Env} {s : State} {m : MethodId} {below : List Frame} {meth : Method} {c : Code} {b L : Nat} {xs : Nat → Int32} {D : va_G} {ca : Nat → ClassId} {ad : Nat → Nat} {K : Nat → Nat → Nat} {n j tm : Nat} {S : xs_T} {H : Heap} {locs : List Loc} {ls : Array Slot} (hx : p.tables.exec = Jvm.exec) (hb : c.code = code) (hml : c.maxLocals = 4) (hown : s.vm.findClass R_law = some m.cls) (hts : ∀ w ∈ xs_U, w.before #[Value.ref b] s = true) (hX : va_X b L xs s s.heap) (hbl : b < s.heap.size) (hL : L ≤ 3585) (hKK : xs_KK D ca s) (hK : xs_K D ad ca xs_all (fun q => s.heap.size ≤ q) s) (hj : j + 6 < L) (hn : n < 512) (hR : Rel K n tm S S) (hw : xs_I D ad ca xs_all (fun q => s.heap.size ≤ q) s S H locs) (hl : lv_has ls 4 [(0, .ref b), (1, .ref (ad 0)), (2, .ref (ad 200)), (3, .int (nI j))]) (w809 : ∀ (S : xs_T) (H : Heap) (locs : List Loc) (ls : Array Slot) (tm : Nat), Rel K (n + 1) tm S S → xs_I D ad ca xs_all (fun q => s.heap.size ≤ q) s S H locs → lv_has ls 4 [(0, .ref b), (1, .ref (ad 0)), (2, .ref (ad 200)), (3, .int (nI j))] → W p l e room_1 s m #[Value.ref b] below meth c H locs 208 4475 (lw_Z below #[Value.ref b] s) (F0 m 809 ls [])) : W p l e room_1 s m #[Value.ref b] below meth c H locs 208 4475 (lw_Z below #[Value.ref b] s) (F0 m 278 ls []) := by
  have hbA : ¬ (fun q => s.heap.size ≤ q) b := Nat.not_le.mpr hbl
  have hkW : xs_is xs_all 0 xs_cW := ⟨by decide, by decide⟩
  have hkR : xs_is xs_all 200 xs_cR := ⟨by decide, by decide⟩
  obtain ⟨v, S2, R2, tm2, g1, g2, hR2⟩ := sim_both (c := fun S => xf_W_skip 0 ((xs (j + 1))) ((xs (j + 2))) S) (r := fun R => xf_R_skip 200 ((xs (j + 1))) ((xs (j + 2))) R) hR (fun R hR => sim_skip hR (by omega) ((xs (j + 1))) ((xs (j + 2))))
  refine lv_aload_n hx hb dd_L_law_278 rfl (lv_at hl 1 rfl) ?_
  refine lv_aload_n hx hb dd_L_law_279 rfl (lv_at hl 0 rfl) ?_
  refine lv_iload_n hx hb dd_L_law_280 rfl (lv_at hl 3 rfl) ?_
  refine lv_iconst (v := 1) hx hb dd_L_law_281 rfl ?_
  refine lv_iadd hx hb dd_L_law_282 ?_
  refine xl_rd (j := j) (k := 1) hx hb hX hbl hbA hw.2.2 hL (by omega) (nI_add j 1) dd_L_law_283 ?_
  refine lv_aload_n hx hb dd_L_law_284 rfl (lv_at hl 0 rfl) ?_
  refine lv_iload_n hx hb dd_L_law_285 rfl (lv_at hl 3 rfl) ?_
  refine lv_iconst (v := 2) hx hb dd_L_law_286 rfl ?_
  refine lv_iadd hx hb dd_L_law_287 ?_
  refine xl_rd (j := j) (k := 2) hx hb hX hbl hbA hw.2.2 hL (by omega) (nI_add j 2) dd_L_law_288 ?_
  refine xqg_i hK hw (va_runV (As := [.int (xs (j + 1)), .int (xs (j + 2))]) (rest := []) ⟨hx, hb, hml, hown, hts⟩ (xc_W_skip l D ad ca xs_all rfl 0 ((xs (j + 1))) ((xs (j + 2))) S v S2 hkW g1 _) ⟨callB_of 2 hts (xs_good hw_456) rfl rfl rfl (hts _ hw_1) (hts _ hw_453) yd_W_skip ⟨by decide, by decide⟩, (hts _ hw_454), (hts _ hw_455)⟩ ⟨xs_blind, xs_recv_W hK hw hkW, fun U h1 h2 => ⟨rfl, xs_pre hK hw h1 h2⟩⟩ rfl rfl hl.1 rfl (lv_room (Nat.le_of_ble_eq_true rfl)) dd_L_law_289 ⟨by decide, by decide⟩) (fun H locs hw => ?_)
  refine lv_aload_n hx hb dd_L_law_292 rfl (lv_at hl 2 rfl) ?_
  refine lv_aload_n hx hb dd_L_law_293 rfl (lv_at hl 0 rfl) ?_
  refine lv_iload_n hx hb dd_L_law_294 rfl (lv_at hl 3 rfl) ?_
  refine lv_iconst (v := 1) hx hb dd_L_law_295 rfl ?_
  refine lv_iadd hx hb dd_L_law_296 ?_
  refine xl_rd (j := j) (k := 1) hx hb hX hbl hbA hw.2.2 hL (by omega) (nI_add j 1) dd_L_law_297 ?_
  refine lv_aload_n hx hb dd_L_law_298 rfl (lv_at hl 0 rfl) ?_
  refine lv_iload_n hx hb dd_L_law_299 rfl (lv_at hl 3 rfl) ?_
  refine lv_iconst (v := 2) hx hb dd_L_law_300 rfl ?_
  refine lv_iadd hx hb dd_L_law_301 ?_
  refine xl_rd (j := j) (k := 2) hx hb hX hbl hbA hw.2.2 hL (by omega) (nI_add j 2) dd_L_law_302 ?_
  refine xqg_i hK hw (va_runV (As := [.int (xs (j + 1)), .int (xs (j + 2))]) (rest := [.int v]) ⟨hx, hb, hml, hown, hts⟩ (xc_R_skip l D ad ca xs_all 200 ((xs (j + 1))) ((xs (j + 2))) S2 v R2 hkR g2 _) ⟨callB_of 2 hts (xs_good hw_957) rfl rfl rfl (hts _ hw_13) (hts _ hw_954) yd_R_skip ⟨by decide, by decide⟩, (hts _ hw_955), (hts _ hw_956)⟩ ⟨xs_blind, xs_recv_R hK hw hkR, fun U h1 h2 => ⟨rfl, xs_pre hK hw h1 h2⟩⟩ rfl rfl hl.1 rfl (lv_room (Nat.le_of_ble_eq_true rfl)) dd_L_law_303 ⟨by decide, by decide⟩) (fun H locs hw => ?_)
  refine lv_icmp_eq hx hb dd_L_law_306 rfl (fun _ => ?_) (fun h => absurd rfl h)
  exact w809 R2 H locs ls tm2 hR2 hw hl
set_option maxHeartbeats 4000000 in
theorem law_c3 {p : Program} {l : Launch} {e : Env} {s : State} {m : MethodId} {below : List Frame} {meth : Method} {c : Code} {b L : Nat} {xs : Nat → Int32} {D : va_G} {ca : Nat → ClassId} {ad : Nat → Nat} {K : Nat → Nat → Nat} {n j tm : Nat} {S : xs_T} {H : Heap} {locs : List Loc} {ls : Array Slot} (hx : p.tables.exec = Jvm.exec) (hb : c.code = code) (hml : c.maxLocals = 4) (hown : s.vm.findClass R_law = some m.cls) (hts : ∀ w ∈ xs_U, w.before #[Value.ref b] s = true) (hX : va_X b L xs s s.heap) (hbl : b < s.heap.size) (hL : L ≤ 3585) (hKK : xs_KK D ca s) (hK : xs_K D ad ca xs_all (fun q => s.heap.size ≤ q) s) (hj : j + 6 < L) (hn : n < 512) (hR : Rel K n tm S S) (hw : xs_I D ad ca xs_all (fun q => s.heap.size ≤ q) s S H locs) (hl : lv_has ls 4 [(0, .ref b), (1, .ref (ad 0)), (2, .ref (ad 200)), (3, .int (nI j))]) (w809 : ∀ (S : xs_T) (H : Heap) (locs : List Loc) (ls : Array Slot) (tm : Nat), Rel K (n + 1) tm S S → xs_I D ad ca xs_all (fun q => s.heap.size ≤ q) s S H locs → lv_has ls 4 [(0, .ref b), (1, .ref (ad 0)), (2, .ref (ad 200)), (3, .int (nI j))] → W p l e room_1 s m #[Value.ref b] below meth c H locs 208 4475 (lw_Z below #[Value.ref b] s) (F0 m 809 ls [])) : W p l e room_1 s m #[Value.ref b] below meth c H locs 208 4475 (lw_Z below #[Value.ref b] s) (F0 m 311 ls []) := by
  have hbA : ¬ (fun q => s.heap.size ≤ q) b := Nat.not_le.mpr hbl
  have hkW : xs_is xs_all 0 xs_cW := ⟨by decide, by decide⟩
  have hkR : xs_is xs_all 200 xs_cR := ⟨by decide, by decide⟩
  obtain ⟨v, S2, R2, tm2, g1, g2, hR2⟩ := sim_both (c := fun S => xf_W_queue 0 ((xs (j + 1))) (((xs_lshl (Int32.toInt64 (xs (j + 2))) 32) ||| ((Int32.toInt64 (xs (j + 3))) &&& 4294967295))) ((xs (j + 4))) S) (r := fun R => xf_R_queue 200 ((xs (j + 1))) (((xs_lshl (Int32.toInt64 (xs (j + 2))) 32) ||| ((Int32.toInt64 (xs (j + 3))) &&& 4294967295))) ((xs (j + 4))) R) hR (fun R hR => sim_queue hR ((xs (j + 1))) (((xs_lshl (Int32.toInt64 (xs (j + 2))) 32) ||| ((Int32.toInt64 (xs (j + 3))) &&& 4294967295))) ((xs (j + 4))))
  refine lv_aload_n hx hb dd_L_law_311 rfl (lv_at hl 1 rfl) ?_
  refine lv_aload_n hx hb dd_L_law_312 rfl (lv_at hl 0 rfl) ?_
  refine lv_iload_n hx hb dd_L_law_313 rfl (lv_at hl 3 rfl) ?_
  refine lv_iconst (v := 1) hx hb dd_L_law_314 rfl ?_
  refine lv_iadd hx hb dd_L_law_315 ?_
  refine xl_rd (j := j) (k := 1) hx hb hX hbl hbA hw.2.2 hL (by omega) (nI_add j 1) dd_L_law_316 ?_
  refine lv_aload_n hx hb dd_L_law_317 rfl (lv_at hl 0 rfl) ?_
  refine lv_iload_n hx hb dd_L_law_318 rfl (lv_at hl 3 rfl) ?_
  refine lv_iconst (v := 2) hx hb dd_L_law_319 rfl ?_
  refine lv_iadd hx hb dd_L_law_320 ?_
  refine xl_rd (j := j) (k := 2) hx hb hX hbl hbA hw.2.2 hL (by omega) (nI_add j 2) dd_L_law_321 ?_
  refine lv_i2l (v := Int32.toInt64 (xs (j + 2))) hx hb dd_L_law_322 rfl ?_
  refine lv_bipush (v := 32) hx hb dd_L_law_323 rfl ?_
  refine lv_lshl (v := xs_lshl (Int32.toInt64 (xs (j + 2))) 32) hx hb dd_L_law_325 rfl ?_
  refine lv_aload_n hx hb dd_L_law_326 rfl (lv_at hl 0 rfl) ?_
  refine lv_iload_n hx hb dd_L_law_327 rfl (lv_at hl 3 rfl) ?_
  refine lv_iconst (v := 3) hx hb dd_L_law_328 rfl ?_
  refine lv_iadd hx hb dd_L_law_329 ?_
  refine xl_rd (j := j) (k := 3) hx hb hX hbl hbA hw.2.2 hL (by omega) (nI_add j 3) dd_L_law_330 ?_
  refine lv_i2l (v := Int32.toInt64 (xs (j + 3))) hx hb dd_L_law_331 rfl ?_
  refine lv_ldc2 (v := 4294967295) hx hb hown (hts _ hw_1097) dd_L_law_332 ?_
  refine lv_land hx hb dd_L_law_335 ?_
  refine lv_lor hx hb dd_L_law_336 ?_
  refine lv_aload_n hx hb dd_L_law_337 rfl (lv_at hl 0 rfl) ?_
  refine lv_iload_n hx hb dd_L_law_338 rfl (lv_at hl 3 rfl) ?_
  refine lv_iconst (v := 4) hx hb dd_L_law_339 rfl ?_
  refine lv_iadd hx hb dd_L_law_340 ?_
  refine xl_rd (j := j) (k := 4) hx hb hX hbl hbA hw.2.2 hL (by omega) (nI_add j 4) dd_L_law_341 ?_
  refine xqg_i hK hw (va_runV (As := [.int (xs (j + 1)), .long ((xs_lshl (Int32.toInt64 (xs (j + 2))) 32) ||| ((Int32.toInt64 (xs (j + 3))) &&& 4294967295)), .int (xs (j + 4))]) (rest := []) ⟨hx, hb, hml, hown, hts⟩ (xc_W_queue l D ad ca xs_all rfl 0 ((xs (j + 1))) (((xs_lshl (Int32.toInt64 (xs (j + 2))) 32) ||| ((Int32.toInt64 (xs (j + 3))) &&& 4294967295))) ((xs (j + 4))) S v S2 hkW g1 _) ⟨callB_of 3 hts (xs_good hw_461) rfl rfl rfl (hts _ hw_1) (hts _ hw_458) yd_W_queue ⟨by decide, by decide⟩, (hts _ hw_459), (hts _ hw_460)⟩ ⟨xs_blind, xs_recv_W hK hw hkW, fun U h1 h2 => ⟨rfl, xs_pre hK hw h1 h2⟩⟩ rfl rfl hl.1 rfl (lv_room (Nat.le_of_ble_eq_true rfl)) dd_L_law_342 ⟨by decide, by decide⟩) (fun H locs hw => ?_)
  refine lv_aload_n hx hb dd_L_law_345 rfl (lv_at hl 2 rfl) ?_
  refine lv_aload_n hx hb dd_L_law_346 rfl (lv_at hl 0 rfl) ?_
  refine lv_iload_n hx hb dd_L_law_347 rfl (lv_at hl 3 rfl) ?_
  refine lv_iconst (v := 1) hx hb dd_L_law_348 rfl ?_
  refine lv_iadd hx hb dd_L_law_349 ?_
  refine xl_rd (j := j) (k := 1) hx hb hX hbl hbA hw.2.2 hL (by omega) (nI_add j 1) dd_L_law_350 ?_
  refine lv_aload_n hx hb dd_L_law_351 rfl (lv_at hl 0 rfl) ?_
  refine lv_iload_n hx hb dd_L_law_352 rfl (lv_at hl 3 rfl) ?_
  refine lv_iconst (v := 2) hx hb dd_L_law_353 rfl ?_
  refine lv_iadd hx hb dd_L_law_354 ?_
  refine xl_rd (j := j) (k := 2) hx hb hX hbl hbA hw.2.2 hL (by omega) (nI_add j 2) dd_L_law_355 ?_
  refine lv_i2l (v := Int32.toInt64 (xs (j + 2))) hx hb dd_L_law_356 rfl ?_
  refine lv_bipush (v := 32) hx hb dd_L_law_357 rfl ?_
  refine lv_lshl (v := xs_lshl (Int32.toInt64 (xs (j + 2))) 32) hx hb dd_L_law_359 rfl ?_
  refine lv_aload_n hx hb dd_L_law_360 rfl (lv_at hl 0 rfl) ?_
  refine lv_iload_n hx hb dd_L_law_361 rfl (lv_at hl 3 rfl) ?_
  refine lv_iconst (v := 3) hx hb dd_L_law_362 rfl ?_
  refine lv_iadd hx hb dd_L_law_363 ?_
  refine xl_rd (j := j) (k := 3) hx hb hX hbl hbA hw.2.2 hL (by omega) (nI_add j 3) dd_L_law_364 ?_
  refine lv_i2l (v := Int32.toInt64 (xs (j + 3))) hx hb dd_L_law_365 rfl ?_
  refine lv_ldc2 (v := 4294967295) hx hb hown (hts _ hw_1097) dd_L_law_366 ?_
  refine lv_land hx hb dd_L_law_369 ?_
  refine lv_lor hx hb dd_L_law_370 ?_
  refine lv_aload_n hx hb dd_L_law_371 rfl (lv_at hl 0 rfl) ?_
  refine lv_iload_n hx hb dd_L_law_372 rfl (lv_at hl 3 rfl) ?_
  refine lv_iconst (v := 4) hx hb dd_L_law_373 rfl ?_
  refine lv_iadd hx hb dd_L_law_374 ?_
  refine xl_rd (j := j) (k := 4) hx hb hX hbl hbA hw.2.2 hL (by omega) (nI_add j 4) dd_L_law_375 ?_
  refine xqg_i hK hw (va_runV (As := [.int (xs (j + 1)), .long ((xs_lshl (Int32.toInt64 (xs (j + 2))) 32) ||| ((Int32.toInt64 (xs (j + 3))) &&& 4294967295)), .int (xs (j + 4))]) (rest := [.int v]) ⟨hx, hb, hml, hown, hts⟩ (xc_R_queue l D ad ca xs_all 200 ((xs (j + 1))) (((xs_lshl (Int32.toInt64 (xs (j + 2))) 32) ||| ((Int32.toInt64 (xs (j + 3))) &&& 4294967295))) ((xs (j + 4))) S2 v R2 hkR g2 _) ⟨callB_of 3 hts (xs_good hw_1010) rfl rfl rfl (hts _ hw_13) (hts _ hw_1007) yd_R_queue ⟨by decide, by decide⟩, (hts _ hw_1008), (hts _ hw_1009)⟩ ⟨xs_blind, xs_recv_R hK hw hkR, fun U h1 h2 => ⟨rfl, xs_pre hK hw h1 h2⟩⟩ rfl rfl hl.1 rfl (lv_room (Nat.le_of_ble_eq_true rfl)) dd_L_law_376 ⟨by decide, by decide⟩) (fun H locs hw => ?_)
  refine lv_icmp_eq hx hb dd_L_law_379 rfl (fun _ => ?_) (fun h => absurd rfl h)
  exact w809 R2 H locs ls tm2 hR2 hw hl
set_option maxHeartbeats 4000000 in
theorem law_c4 {p : Program} {l : Launch} {e : Env} {s : State} {m : MethodId} {below : List Frame} {meth : Method} {c : Code} {b L : Nat} {xs : Nat → Int32} {D : va_G} {ca : Nat → ClassId} {ad : Nat → Nat} {K : Nat → Nat → Nat} {n j tm : Nat} {S : xs_T} {H : Heap} {locs : List Loc} {ls : Array Slot} (hx : p.tables.exec = Jvm.exec) (hb : c.code = code) (hml : c.maxLocals = 4) (hown : s.vm.findClass R_law = some m.cls) (hts : ∀ w ∈ xs_U, w.before #[Value.ref b] s = true) (hX : va_X b L xs s s.heap) (hbl : b < s.heap.size) (hL : L ≤ 3585) (hKK : xs_KK D ca s) (hK : xs_K D ad ca xs_all (fun q => s.heap.size ≤ q) s) (hj : j + 6 < L) (hn : n < 512) (hR : Rel K n tm S S) (hw : xs_I D ad ca xs_all (fun q => s.heap.size ≤ q) s S H locs) (hl : lv_has ls 4 [(0, .ref b), (1, .ref (ad 0)), (2, .ref (ad 200)), (3, .int (nI j))]) (w809 : ∀ (S : xs_T) (H : Heap) (locs : List Loc) (ls : Array Slot) (tm : Nat), Rel K (n + 1) tm S S → xs_I D ad ca xs_all (fun q => s.heap.size ≤ q) s S H locs → lv_has ls 4 [(0, .ref b), (1, .ref (ad 0)), (2, .ref (ad 200)), (3, .int (nI j))] → W p l e room_1 s m #[Value.ref b] below meth c H locs 208 4475 (lw_Z below #[Value.ref b] s) (F0 m 809 ls [])) : W p l e room_1 s m #[Value.ref b] below meth c H locs 208 4475 (lw_Z below #[Value.ref b] s) (F0 m 384 ls []) := by
  have hbA : ¬ (fun q => s.heap.size ≤ q) b := Nat.not_le.mpr hbl
  have hkW : xs_is xs_all 0 xs_cW := ⟨by decide, by decide⟩
  have hkR : xs_is xs_all 200 xs_cR := ⟨by decide, by decide⟩
  obtain ⟨v, S2, R2, tm2, g1, g2, hR2⟩ := sim_both (c := fun S => xf_W_tick 0 ((xs (j + 1))) S) (r := fun R => xf_R_tick 200 ((xs (j + 1))) R) hR (fun R hR => sim_tick hR (by omega) ((xs (j + 1))))
  refine lv_aload_n hx hb dd_L_law_384 rfl (lv_at hl 1 rfl) ?_
  refine lv_aload_n hx hb dd_L_law_385 rfl (lv_at hl 0 rfl) ?_
  refine lv_iload_n hx hb dd_L_law_386 rfl (lv_at hl 3 rfl) ?_
  refine lv_iconst (v := 1) hx hb dd_L_law_387 rfl ?_
  refine lv_iadd hx hb dd_L_law_388 ?_
  refine xl_rd (j := j) (k := 1) hx hb hX hbl hbA hw.2.2 hL (by omega) (nI_add j 1) dd_L_law_389 ?_
  refine xqg_i hK hw (va_runV (As := [.int (xs (j + 1))]) (rest := []) ⟨hx, hb, hml, hown, hts⟩ (xc_W_tick l D ad ca xs_all rfl 0 ((xs (j + 1))) S v S2 hkW g1 _) ⟨callB_of 1 hts (xs_good hw_469) rfl rfl rfl (hts _ hw_1) (hts _ hw_466) yd_W_tick ⟨by decide, by decide⟩, (hts _ hw_467), (hts _ hw_468)⟩ ⟨xs_blind, xs_recv_W hK hw hkW, fun U h1 h2 => ⟨rfl, xs_pre hK hw h1 h2⟩⟩ rfl rfl hl.1 rfl (lv_room (Nat.le_of_ble_eq_true rfl)) dd_L_law_390 ⟨by decide, by decide⟩) (fun H locs hw => ?_)
  refine lv_aload_n hx hb dd_L_law_393 rfl (lv_at hl 2 rfl) ?_
  refine lv_aload_n hx hb dd_L_law_394 rfl (lv_at hl 0 rfl) ?_
  refine lv_iload_n hx hb dd_L_law_395 rfl (lv_at hl 3 rfl) ?_
  refine lv_iconst (v := 1) hx hb dd_L_law_396 rfl ?_
  refine lv_iadd hx hb dd_L_law_397 ?_
  refine xl_rd (j := j) (k := 1) hx hb hX hbl hbA hw.2.2 hL (by omega) (nI_add j 1) dd_L_law_398 ?_
  refine xqg_i hK hw (va_runV (As := [.int (xs (j + 1))]) (rest := [.int v]) ⟨hx, hb, hml, hown, hts⟩ (xc_R_tick l D ad ca xs_all 200 ((xs (j + 1))) S2 v R2 hkR g2 _) ⟨callB_of 1 hts (xs_good hw_1035) rfl rfl rfl (hts _ hw_13) (hts _ hw_1032) yd_R_tick ⟨by decide, by decide⟩, (hts _ hw_1033), (hts _ hw_1034)⟩ ⟨xs_blind, xs_recv_R hK hw hkR, fun U h1 h2 => ⟨rfl, xs_pre hK hw h1 h2⟩⟩ rfl rfl hl.1 rfl (lv_room (Nat.le_of_ble_eq_true rfl)) dd_L_law_399 ⟨by decide, by decide⟩) (fun H locs hw => ?_)
  refine lv_icmp_eq hx hb dd_L_law_402 rfl (fun _ => ?_) (fun h => absurd rfl h)
  exact w809 R2 H locs ls tm2 hR2 hw hl
set_option maxHeartbeats 4000000 in
theorem law_c5 {p : Program} {l : Launch} {e : Env} {s : State} {m : MethodId} {below : List Frame} {meth : Method} {c : Code} {b L : Nat} {xs : Nat → Int32} {D : va_G} {ca : Nat → ClassId} {ad : Nat → Nat} {K : Nat → Nat → Nat} {n j tm : Nat} {S : xs_T} {H : Heap} {locs : List Loc} {ls : Array Slot} (hx : p.tables.exec = Jvm.exec) (hb : c.code = code) (hml : c.maxLocals = 4) (hown : s.vm.findClass R_law = some m.cls) (hts : ∀ w ∈ xs_U, w.before #[Value.ref b] s = true) (hX : va_X b L xs s s.heap) (hbl : b < s.heap.size) (hL : L ≤ 3585) (hKK : xs_KK D ca s) (hK : xs_K D ad ca xs_all (fun q => s.heap.size ≤ q) s) (hj : j + 6 < L) (hn : n < 512) (hR : Rel K n tm S S) (hw : xs_I D ad ca xs_all (fun q => s.heap.size ≤ q) s S H locs) (hl : lv_has ls 4 [(0, .ref b), (1, .ref (ad 0)), (2, .ref (ad 200)), (3, .int (nI j))]) (w809 : ∀ (S : xs_T) (H : Heap) (locs : List Loc) (ls : Array Slot) (tm : Nat), Rel K (n + 1) tm S S → xs_I D ad ca xs_all (fun q => s.heap.size ≤ q) s S H locs → lv_has ls 4 [(0, .ref b), (1, .ref (ad 0)), (2, .ref (ad 200)), (3, .int (nI j))] → W p l e room_1 s m #[Value.ref b] below meth c H locs 208 4475 (lw_Z below #[Value.ref b] s) (F0 m 809 ls [])) : W p l e room_1 s m #[Value.ref b] below meth c H locs 208 4475 (lw_Z below #[Value.ref b] s) (F0 m 407 ls []) := by
  have hbA : ¬ (fun q => s.heap.size ≤ q) b := Nat.not_le.mpr hbl
  have hkW : xs_is xs_all 0 xs_cW := ⟨by decide, by decide⟩
  have hkR : xs_is xs_all 200 xs_cR := ⟨by decide, by decide⟩
  obtain ⟨v, S2, R2, tm2, g1, g2, hR2⟩ := sim_both (c := fun S => xf_W_hear 0 ((xs (j + 1))) ((xs (j + 2))) S) (r := fun R => xf_R_hear 200 ((xs (j + 1))) ((xs (j + 2))) R) hR (fun R hR => sim_hear hR (by omega) ((xs (j + 1))) ((xs (j + 2))))
  refine lv_aload_n hx hb dd_L_law_407 rfl (lv_at hl 1 rfl) ?_
  refine lv_aload_n hx hb dd_L_law_408 rfl (lv_at hl 0 rfl) ?_
  refine lv_iload_n hx hb dd_L_law_409 rfl (lv_at hl 3 rfl) ?_
  refine lv_iconst (v := 1) hx hb dd_L_law_410 rfl ?_
  refine lv_iadd hx hb dd_L_law_411 ?_
  refine xl_rd (j := j) (k := 1) hx hb hX hbl hbA hw.2.2 hL (by omega) (nI_add j 1) dd_L_law_412 ?_
  refine lv_aload_n hx hb dd_L_law_413 rfl (lv_at hl 0 rfl) ?_
  refine lv_iload_n hx hb dd_L_law_414 rfl (lv_at hl 3 rfl) ?_
  refine lv_iconst (v := 2) hx hb dd_L_law_415 rfl ?_
  refine lv_iadd hx hb dd_L_law_416 ?_
  refine xl_rd (j := j) (k := 2) hx hb hX hbl hbA hw.2.2 hL (by omega) (nI_add j 2) dd_L_law_417 ?_
  refine xqg_i hK hw (va_runV (As := [.int (xs (j + 1)), .int (xs (j + 2))]) (rest := []) ⟨hx, hb, hml, hown, hts⟩ (xc_W_hear l D ad ca xs_all rfl 0 ((xs (j + 1))) ((xs (j + 2))) S v S2 hkW g1 _) ⟨callB_of 2 hts (xs_good hw_519) rfl rfl rfl (hts _ hw_1) (hts _ hw_516) yd_W_hear ⟨by decide, by decide⟩, (hts _ hw_517), (hts _ hw_518)⟩ ⟨xs_blind, xs_recv_W hK hw hkW, fun U h1 h2 => ⟨rfl, xs_pre hK hw h1 h2⟩⟩ rfl rfl hl.1 rfl (lv_room (Nat.le_of_ble_eq_true rfl)) dd_L_law_418 ⟨by decide, by decide⟩) (fun H locs hw => ?_)
  refine lv_aload_n hx hb dd_L_law_421 rfl (lv_at hl 2 rfl) ?_
  refine lv_aload_n hx hb dd_L_law_422 rfl (lv_at hl 0 rfl) ?_
  refine lv_iload_n hx hb dd_L_law_423 rfl (lv_at hl 3 rfl) ?_
  refine lv_iconst (v := 1) hx hb dd_L_law_424 rfl ?_
  refine lv_iadd hx hb dd_L_law_425 ?_
  refine xl_rd (j := j) (k := 1) hx hb hX hbl hbA hw.2.2 hL (by omega) (nI_add j 1) dd_L_law_426 ?_
  refine lv_aload_n hx hb dd_L_law_427 rfl (lv_at hl 0 rfl) ?_
  refine lv_iload_n hx hb dd_L_law_428 rfl (lv_at hl 3 rfl) ?_
  refine lv_iconst (v := 2) hx hb dd_L_law_429 rfl ?_
  refine lv_iadd hx hb dd_L_law_430 ?_
  refine xl_rd (j := j) (k := 2) hx hb hX hbl hbA hw.2.2 hL (by omega) (nI_add j 2) dd_L_law_431 ?_
  refine xqg_i hK hw (va_runV (As := [.int (xs (j + 1)), .int (xs (j + 2))]) (rest := [.int v]) ⟨hx, hb, hml, hown, hts⟩ (xc_R_hear l D ad ca xs_all 200 ((xs (j + 1))) ((xs (j + 2))) S2 v R2 hkR g2 _) ⟨callB_of 2 hts (xs_good hw_1014) rfl rfl rfl (hts _ hw_13) (hts _ hw_1011) yd_R_hear ⟨by decide, by decide⟩, (hts _ hw_1012), (hts _ hw_1013)⟩ ⟨xs_blind, xs_recv_R hK hw hkR, fun U h1 h2 => ⟨rfl, xs_pre hK hw h1 h2⟩⟩ rfl rfl hl.1 rfl (lv_room (Nat.le_of_ble_eq_true rfl)) dd_L_law_432 ⟨by decide, by decide⟩) (fun H locs hw => ?_)
  refine lv_icmp_eq hx hb dd_L_law_435 rfl (fun _ => ?_) (fun h => absurd rfl h)
  exact w809 R2 H locs ls tm2 hR2 hw hl
set_option maxHeartbeats 4000000 in
theorem law_c6 {p : Program} {l : Launch} {e : Env} {s : State} {m : MethodId} {below : List Frame} {meth : Method} {c : Code} {b L : Nat} {xs : Nat → Int32} {D : va_G} {ca : Nat → ClassId} {ad : Nat → Nat} {K : Nat → Nat → Nat} {n j tm : Nat} {S : xs_T} {H : Heap} {locs : List Loc} {ls : Array Slot} (hx : p.tables.exec = Jvm.exec) (hb : c.code = code) (hml : c.maxLocals = 4) (hown : s.vm.findClass R_law = some m.cls) (hts : ∀ w ∈ xs_U, w.before #[Value.ref b] s = true) (hX : va_X b L xs s s.heap) (hbl : b < s.heap.size) (hL : L ≤ 3585) (hKK : xs_KK D ca s) (hK : xs_K D ad ca xs_all (fun q => s.heap.size ≤ q) s) (hj : j + 6 < L) (hn : n < 512) (hR : Rel K n tm S S) (hw : xs_I D ad ca xs_all (fun q => s.heap.size ≤ q) s S H locs) (hl : lv_has ls 4 [(0, .ref b), (1, .ref (ad 0)), (2, .ref (ad 200)), (3, .int (nI j))]) (w809 : ∀ (S : xs_T) (H : Heap) (locs : List Loc) (ls : Array Slot) (tm : Nat), Rel K (n + 1) tm S S → xs_I D ad ca xs_all (fun q => s.heap.size ≤ q) s S H locs → lv_has ls 4 [(0, .ref b), (1, .ref (ad 0)), (2, .ref (ad 200)), (3, .int (nI j))] → W p l e room_1 s m #[Value.ref b] below meth c H locs 208 4475 (lw_Z below #[Value.ref b] s) (F0 m 809 ls [])) : W p l e room_1 s m #[Value.ref b] below meth c H locs 208 4475 (lw_Z below #[Value.ref b] s) (F0 m 440 ls []) := by
  have hbA : ¬ (fun q => s.heap.size ≤ q) b := Nat.not_le.mpr hbl
  have hkW : xs_is xs_all 0 xs_cW := ⟨by decide, by decide⟩
  have hkR : xs_is xs_all 200 xs_cR := ⟨by decide, by decide⟩
  obtain ⟨v, S2, R2, tm2, g1, g2, hR2⟩ := sim_both (c := fun S => xf_W_reach 0 ((xs (j + 1))) S) (r := fun R => xf_R_reach 200 ((xs (j + 1))) R) hR (fun R hR => sim_reach hR (by omega) ((xs (j + 1))))
  refine lv_aload_n hx hb dd_L_law_440 rfl (lv_at hl 1 rfl) ?_
  refine lv_aload_n hx hb dd_L_law_441 rfl (lv_at hl 0 rfl) ?_
  refine lv_iload_n hx hb dd_L_law_442 rfl (lv_at hl 3 rfl) ?_
  refine lv_iconst (v := 1) hx hb dd_L_law_443 rfl ?_
  refine lv_iadd hx hb dd_L_law_444 ?_
  refine xl_rd (j := j) (k := 1) hx hb hX hbl hbA hw.2.2 hL (by omega) (nI_add j 1) dd_L_law_445 ?_
  refine xqg_i hK hw (va_runV (As := [.int (xs (j + 1))]) (rest := []) ⟨hx, hb, hml, hown, hts⟩ (xc_W_reach l D ad ca xs_all rfl 0 ((xs (j + 1))) S v S2 hkW g1 _) ⟨callB_of 1 hts (xs_good hw_620) rfl rfl rfl (hts _ hw_1) (hts _ hw_617) yd_W_reach ⟨by decide, by decide⟩, (hts _ hw_618), (hts _ hw_619)⟩ ⟨xs_blind, xs_recv_W hK hw hkW, fun U h1 h2 => ⟨rfl, xs_pre hK hw h1 h2⟩⟩ rfl rfl hl.1 rfl (lv_room (Nat.le_of_ble_eq_true rfl)) dd_L_law_446 ⟨by decide, by decide⟩) (fun H locs hw => ?_)
  refine lv_aload_n hx hb dd_L_law_449 rfl (lv_at hl 2 rfl) ?_
  refine lv_aload_n hx hb dd_L_law_450 rfl (lv_at hl 0 rfl) ?_
  refine lv_iload_n hx hb dd_L_law_451 rfl (lv_at hl 3 rfl) ?_
  refine lv_iconst (v := 1) hx hb dd_L_law_452 rfl ?_
  refine lv_iadd hx hb dd_L_law_453 ?_
  refine xl_rd (j := j) (k := 1) hx hb hX hbl hbA hw.2.2 hL (by omega) (nI_add j 1) dd_L_law_454 ?_
  refine xqg_i hK hw (va_runV (As := [.int (xs (j + 1))]) (rest := [.int v]) ⟨hx, hb, hml, hown, hts⟩ (xc_R_reach l D ad ca xs_all 200 ((xs (j + 1))) S2 v R2 hkR g2 _) ⟨callB_of 1 hts (xs_good hw_962) rfl rfl rfl (hts _ hw_13) (hts _ hw_959) yd_R_reach ⟨by decide, by decide⟩, (hts _ hw_960), (hts _ hw_961)⟩ ⟨xs_blind, xs_recv_R hK hw hkR, fun U h1 h2 => ⟨rfl, xs_pre hK hw h1 h2⟩⟩ rfl rfl hl.1 rfl (lv_room (Nat.le_of_ble_eq_true rfl)) dd_L_law_455 ⟨by decide, by decide⟩) (fun H locs hw => ?_)
  refine lv_icmp_eq hx hb dd_L_law_458 rfl (fun _ => ?_) (fun h => absurd rfl h)
  exact w809 R2 H locs ls tm2 hR2 hw hl
set_option maxHeartbeats 4000000 in
theorem law_c7 {p : Program} {l : Launch} {e : Env} {s : State} {m : MethodId} {below : List Frame} {meth : Method} {c : Code} {b L : Nat} {xs : Nat → Int32} {D : va_G} {ca : Nat → ClassId} {ad : Nat → Nat} {K : Nat → Nat → Nat} {n j tm : Nat} {S : xs_T} {H : Heap} {locs : List Loc} {ls : Array Slot} (hx : p.tables.exec = Jvm.exec) (hb : c.code = code) (hml : c.maxLocals = 4) (hown : s.vm.findClass R_law = some m.cls) (hts : ∀ w ∈ xs_U, w.before #[Value.ref b] s = true) (hX : va_X b L xs s s.heap) (hbl : b < s.heap.size) (hL : L ≤ 3585) (hKK : xs_KK D ca s) (hK : xs_K D ad ca xs_all (fun q => s.heap.size ≤ q) s) (hj : j + 6 < L) (hn : n < 512) (hR : Rel K n tm S S) (hw : xs_I D ad ca xs_all (fun q => s.heap.size ≤ q) s S H locs) (hl : lv_has ls 4 [(0, .ref b), (1, .ref (ad 0)), (2, .ref (ad 200)), (3, .int (nI j))]) (w809 : ∀ (S : xs_T) (H : Heap) (locs : List Loc) (ls : Array Slot) (tm : Nat), Rel K (n + 1) tm S S → xs_I D ad ca xs_all (fun q => s.heap.size ≤ q) s S H locs → lv_has ls 4 [(0, .ref b), (1, .ref (ad 0)), (2, .ref (ad 200)), (3, .int (nI j))] → W p l e room_1 s m #[Value.ref b] below meth c H locs 208 4475 (lw_Z below #[Value.ref b] s) (F0 m 809 ls [])) : W p l e room_1 s m #[Value.ref b] below meth c H locs 208 4475 (lw_Z below #[Value.ref b] s) (F0 m 463 ls []) := by
  have hbA : ¬ (fun q => s.heap.size ≤ q) b := Nat.not_le.mpr hbl
  have hkW : xs_is xs_all 0 xs_cW := ⟨by decide, by decide⟩
  have hkR : xs_is xs_all 200 xs_cR := ⟨by decide, by decide⟩
  obtain ⟨v, S2, R2, tm2, g1, g2, hR2⟩ := sim_both (c := fun S => xf_W_lose 0 ((xs (j + 1))) S) (r := fun R => xf_R_lose 200 ((xs (j + 1))) R) hR (fun R hR => sim_lose hR ((xs (j + 1))))
  refine lv_aload_n hx hb dd_L_law_463 rfl (lv_at hl 1 rfl) ?_
  refine lv_aload_n hx hb dd_L_law_464 rfl (lv_at hl 0 rfl) ?_
  refine lv_iload_n hx hb dd_L_law_465 rfl (lv_at hl 3 rfl) ?_
  refine lv_iconst (v := 1) hx hb dd_L_law_466 rfl ?_
  refine lv_iadd hx hb dd_L_law_467 ?_
  refine xl_rd (j := j) (k := 1) hx hb hX hbl hbA hw.2.2 hL (by omega) (nI_add j 1) dd_L_law_468 ?_
  refine xqg_i hK hw (va_runV (As := [.int (xs (j + 1))]) (rest := []) ⟨hx, hb, hml, hown, hts⟩ (xc_W_lose l D ad ca xs_all rfl 0 ((xs (j + 1))) S v S2 hkW g1 _) ⟨callB_of 1 hts (xs_good hw_659) rfl rfl rfl (hts _ hw_1) (hts _ hw_656) yd_W_lose ⟨by decide, by decide⟩, (hts _ hw_657), (hts _ hw_658)⟩ ⟨xs_blind, xs_recv_W hK hw hkW, fun U h1 h2 => ⟨rfl, xs_pre hK hw h1 h2⟩⟩ rfl rfl hl.1 rfl (lv_room (Nat.le_of_ble_eq_true rfl)) dd_L_law_469 ⟨by decide, by decide⟩) (fun H locs hw => ?_)
  refine lv_aload_n hx hb dd_L_law_472 rfl (lv_at hl 2 rfl) ?_
  refine lv_aload_n hx hb dd_L_law_473 rfl (lv_at hl 0 rfl) ?_
  refine lv_iload_n hx hb dd_L_law_474 rfl (lv_at hl 3 rfl) ?_
  refine lv_iconst (v := 1) hx hb dd_L_law_475 rfl ?_
  refine lv_iadd hx hb dd_L_law_476 ?_
  refine xl_rd (j := j) (k := 1) hx hb hX hbl hbA hw.2.2 hL (by omega) (nI_add j 1) dd_L_law_477 ?_
  refine xqg_i hK hw (va_runV (As := [.int (xs (j + 1))]) (rest := [.int v]) ⟨hx, hb, hml, hown, hts⟩ (xc_R_lose l D ad ca xs_all 200 ((xs (j + 1))) S2 v R2 hkR g2 _) ⟨callB_of 1 hts (xs_good hw_1055) rfl rfl rfl (hts _ hw_13) (hts _ hw_1052) yd_R_lose ⟨by decide, by decide⟩, (hts _ hw_1053), (hts _ hw_1054)⟩ ⟨xs_blind, xs_recv_R hK hw hkR, fun U h1 h2 => ⟨rfl, xs_pre hK hw h1 h2⟩⟩ rfl rfl hl.1 rfl (lv_room (Nat.le_of_ble_eq_true rfl)) dd_L_law_478 ⟨by decide, by decide⟩) (fun H locs hw => ?_)
  refine lv_icmp_eq hx hb dd_L_law_481 rfl (fun _ => ?_) (fun h => absurd rfl h)
  exact w809 R2 H locs ls tm2 hR2 hw hl
set_option maxHeartbeats 4000000 in
theorem law_c8 {p : Program} {l : Launch} {e : Env} {s : State} {m : MethodId} {below : List Frame} {meth : Method} {c : Code} {b L : Nat} {xs : Nat → Int32} {D : va_G} {ca : Nat → ClassId} {ad : Nat → Nat} {K : Nat → Nat → Nat} {n j tm : Nat} {S : xs_T} {H : Heap} {locs : List Loc} {ls : Array Slot} (hx : p.tables.exec = Jvm.exec) (hb : c.code = code) (hml : c.maxLocals = 4) (hown : s.vm.findClass R_law = some m.cls) (hts : ∀ w ∈ xs_U, w.before #[Value.ref b] s = true) (hX : va_X b L xs s s.heap) (hbl : b < s.heap.size) (hL : L ≤ 3585) (hKK : xs_KK D ca s) (hK : xs_K D ad ca xs_all (fun q => s.heap.size ≤ q) s) (hj : j + 6 < L) (hn : n < 512) (hR : Rel K n tm S S) (hw : xs_I D ad ca xs_all (fun q => s.heap.size ≤ q) s S H locs) (hl : lv_has ls 4 [(0, .ref b), (1, .ref (ad 0)), (2, .ref (ad 200)), (3, .int (nI j))]) (w809 : ∀ (S : xs_T) (H : Heap) (locs : List Loc) (ls : Array Slot) (tm : Nat), Rel K (n + 1) tm S S → xs_I D ad ca xs_all (fun q => s.heap.size ≤ q) s S H locs → lv_has ls 4 [(0, .ref b), (1, .ref (ad 0)), (2, .ref (ad 200)), (3, .int (nI j))] → W p l e room_1 s m #[Value.ref b] below meth c H locs 208 4475 (lw_Z below #[Value.ref b] s) (F0 m 809 ls [])) : W p l e room_1 s m #[Value.ref b] below meth c H locs 208 4475 (lw_Z below #[Value.ref b] s) (F0 m 486 ls []) := by
  have hbA : ¬ (fun q => s.heap.size ≤ q) b := Nat.not_le.mpr hbl
  have hkW : xs_is xs_all 0 xs_cW := ⟨by decide, by decide⟩
  have hkR : xs_is xs_all 200 xs_cR := ⟨by decide, by decide⟩
  obtain ⟨v, S2, R2, tm2, g1, g2, hR2⟩ := sim_both (c := fun S => xf_W_replay 0 ((xs (j + 1))) S) (r := fun R => xf_R_replay 200 ((xs (j + 1))) R) hR (fun R hR => sim_replay hR (by omega) ((xs (j + 1))))
  refine lv_aload_n hx hb dd_L_law_486 rfl (lv_at hl 1 rfl) ?_
  refine lv_aload_n hx hb dd_L_law_487 rfl (lv_at hl 0 rfl) ?_
  refine lv_iload_n hx hb dd_L_law_488 rfl (lv_at hl 3 rfl) ?_
  refine lv_iconst (v := 1) hx hb dd_L_law_489 rfl ?_
  refine lv_iadd hx hb dd_L_law_490 ?_
  refine xl_rd (j := j) (k := 1) hx hb hX hbl hbA hw.2.2 hL (by omega) (nI_add j 1) dd_L_law_491 ?_
  refine xqg_i hK hw (va_runV (As := [.int (xs (j + 1))]) (rest := []) ⟨hx, hb, hml, hown, hts⟩ (xc_W_replay l D ad ca xs_all rfl 0 ((xs (j + 1))) S v S2 hkW g1 _) ⟨callB_of 1 hts (xs_good hw_663) rfl rfl rfl (hts _ hw_1) (hts _ hw_660) yd_W_replay ⟨by decide, by decide⟩, (hts _ hw_661), (hts _ hw_662)⟩ ⟨xs_blind, xs_recv_W hK hw hkW, fun U h1 h2 => ⟨rfl, xs_pre hK hw h1 h2⟩⟩ rfl rfl hl.1 rfl (lv_room (Nat.le_of_ble_eq_true rfl)) dd_L_law_492 ⟨by decide, by decide⟩) (fun H locs hw => ?_)
  refine lv_aload_n hx hb dd_L_law_495 rfl (lv_at hl 2 rfl) ?_
  refine lv_aload_n hx hb dd_L_law_496 rfl (lv_at hl 0 rfl) ?_
  refine lv_iload_n hx hb dd_L_law_497 rfl (lv_at hl 3 rfl) ?_
  refine lv_iconst (v := 1) hx hb dd_L_law_498 rfl ?_
  refine lv_iadd hx hb dd_L_law_499 ?_
  refine xl_rd (j := j) (k := 1) hx hb hX hbl hbA hw.2.2 hL (by omega) (nI_add j 1) dd_L_law_500 ?_
  refine xqg_i hK hw (va_runV (As := [.int (xs (j + 1))]) (rest := [.int v]) ⟨hx, hb, hml, hown, hts⟩ (xc_R_replay l D ad ca xs_all 200 ((xs (j + 1))) S2 v R2 hkR g2 _) ⟨callB_of 1 hts (xs_good hw_1059) rfl rfl rfl (hts _ hw_13) (hts _ hw_1056) yd_R_replay ⟨by decide, by decide⟩, (hts _ hw_1057), (hts _ hw_1058)⟩ ⟨xs_blind, xs_recv_R hK hw hkR, fun U h1 h2 => ⟨rfl, xs_pre hK hw h1 h2⟩⟩ rfl rfl hl.1 rfl (lv_room (Nat.le_of_ble_eq_true rfl)) dd_L_law_501 ⟨by decide, by decide⟩) (fun H locs hw => ?_)
  refine lv_icmp_eq hx hb dd_L_law_504 rfl (fun _ => ?_) (fun h => absurd rfl h)
  exact w809 R2 H locs ls tm2 hR2 hw hl
set_option maxHeartbeats 4000000 in
theorem law_c9 {p : Program} {l : Launch} {e : Env} {s : State} {m : MethodId} {below : List Frame} {meth : Method} {c : Code} {b L : Nat} {xs : Nat → Int32} {D : va_G} {ca : Nat → ClassId} {ad : Nat → Nat} {K : Nat → Nat → Nat} {n j tm : Nat} {S : xs_T} {H : Heap} {locs : List Loc} {ls : Array Slot} (hx : p.tables.exec = Jvm.exec) (hb : c.code = code) (hml : c.maxLocals = 4) (hown : s.vm.findClass R_law = some m.cls) (hts : ∀ w ∈ xs_U, w.before #[Value.ref b] s = true) (hX : va_X b L xs s s.heap) (hbl : b < s.heap.size) (hL : L ≤ 3585) (hKK : xs_KK D ca s) (hK : xs_K D ad ca xs_all (fun q => s.heap.size ≤ q) s) (hj : j + 6 < L) (hn : n < 512) (hR : Rel K n tm S S) (hw : xs_I D ad ca xs_all (fun q => s.heap.size ≤ q) s S H locs) (hl : lv_has ls 4 [(0, .ref b), (1, .ref (ad 0)), (2, .ref (ad 200)), (3, .int (nI j))]) (w809 : ∀ (S : xs_T) (H : Heap) (locs : List Loc) (ls : Array Slot) (tm : Nat), Rel K (n + 1) tm S S → xs_I D ad ca xs_all (fun q => s.heap.size ≤ q) s S H locs → lv_has ls 4 [(0, .ref b), (1, .ref (ad 0)), (2, .ref (ad 200)), (3, .int (nI j))] → W p l e room_1 s m #[Value.ref b] below meth c H locs 208 4475 (lw_Z below #[Value.ref b] s) (F0 m 809 ls [])) : W p l e room_1 s m #[Value.ref b] below meth c H locs 208 4475 (lw_Z below #[Value.ref b] s) (F0 m 509 ls []) := by
  have hbA : ¬ (fun q => s.heap.size ≤ q) b := Nat.not_le.mpr hbl
  have hkW : xs_is xs_all 0 xs_cW := ⟨by decide, by decide⟩
  have hkR : xs_is xs_all 200 xs_cR := ⟨by decide, by decide⟩
  obtain ⟨v, S2, R2, tm2, g1, g2, hR2⟩ := sim_both (c := fun S => xf_W_spoil 0 ((xs (j + 1))) ((xs (j + 2))) ((xs (j + 3))) S) (r := fun R => xf_R_spoil 200 ((xs (j + 1))) ((xs (j + 2))) ((xs (j + 3))) R) hR (fun R hR => sim_spoil hR ((xs (j + 1))) ((xs (j + 2))) ((xs (j + 3))))
  refine lv_aload_n hx hb dd_L_law_509 rfl (lv_at hl 1 rfl) ?_
  refine lv_aload_n hx hb dd_L_law_510 rfl (lv_at hl 0 rfl) ?_
  refine lv_iload_n hx hb dd_L_law_511 rfl (lv_at hl 3 rfl) ?_
  refine lv_iconst (v := 1) hx hb dd_L_law_512 rfl ?_
  refine lv_iadd hx hb dd_L_law_513 ?_
  refine xl_rd (j := j) (k := 1) hx hb hX hbl hbA hw.2.2 hL (by omega) (nI_add j 1) dd_L_law_514 ?_
  refine lv_aload_n hx hb dd_L_law_515 rfl (lv_at hl 0 rfl) ?_
  refine lv_iload_n hx hb dd_L_law_516 rfl (lv_at hl 3 rfl) ?_
  refine lv_iconst (v := 2) hx hb dd_L_law_517 rfl ?_
  refine lv_iadd hx hb dd_L_law_518 ?_
  refine xl_rd (j := j) (k := 2) hx hb hX hbl hbA hw.2.2 hL (by omega) (nI_add j 2) dd_L_law_519 ?_
  refine lv_aload_n hx hb dd_L_law_520 rfl (lv_at hl 0 rfl) ?_
  refine lv_iload_n hx hb dd_L_law_521 rfl (lv_at hl 3 rfl) ?_
  refine lv_iconst (v := 3) hx hb dd_L_law_522 rfl ?_
  refine lv_iadd hx hb dd_L_law_523 ?_
  refine xl_rd (j := j) (k := 3) hx hb hX hbl hbA hw.2.2 hL (by omega) (nI_add j 3) dd_L_law_524 ?_
  refine xqg_i hK hw (va_runV (As := [.int (xs (j + 1)), .int (xs (j + 2)), .int (xs (j + 3))]) (rest := []) ⟨hx, hb, hml, hown, hts⟩ (xc_W_spoil l D ad ca xs_all rfl 0 ((xs (j + 1))) ((xs (j + 2))) ((xs (j + 3))) S v S2 hkW g1 _) ⟨callB_of 3 hts (xs_good hw_674) rfl rfl rfl (hts _ hw_1) (hts _ hw_671) yd_W_spoil ⟨by decide, by decide⟩, (hts _ hw_672), (hts _ hw_673)⟩ ⟨xs_blind, xs_recv_W hK hw hkW, fun U h1 h2 => ⟨rfl, xs_pre hK hw h1 h2⟩⟩ rfl rfl hl.1 rfl (lv_room (Nat.le_of_ble_eq_true rfl)) dd_L_law_525 ⟨by decide, by decide⟩) (fun H locs hw => ?_)
  refine lv_aload_n hx hb dd_L_law_528 rfl (lv_at hl 2 rfl) ?_
  refine lv_aload_n hx hb dd_L_law_529 rfl (lv_at hl 0 rfl) ?_
  refine lv_iload_n hx hb dd_L_law_530 rfl (lv_at hl 3 rfl) ?_
  refine lv_iconst (v := 1) hx hb dd_L_law_531 rfl ?_
  refine lv_iadd hx hb dd_L_law_532 ?_
  refine xl_rd (j := j) (k := 1) hx hb hX hbl hbA hw.2.2 hL (by omega) (nI_add j 1) dd_L_law_533 ?_
  refine lv_aload_n hx hb dd_L_law_534 rfl (lv_at hl 0 rfl) ?_
  refine lv_iload_n hx hb dd_L_law_535 rfl (lv_at hl 3 rfl) ?_
  refine lv_iconst (v := 2) hx hb dd_L_law_536 rfl ?_
  refine lv_iadd hx hb dd_L_law_537 ?_
  refine xl_rd (j := j) (k := 2) hx hb hX hbl hbA hw.2.2 hL (by omega) (nI_add j 2) dd_L_law_538 ?_
  refine lv_aload_n hx hb dd_L_law_539 rfl (lv_at hl 0 rfl) ?_
  refine lv_iload_n hx hb dd_L_law_540 rfl (lv_at hl 3 rfl) ?_
  refine lv_iconst (v := 3) hx hb dd_L_law_541 rfl ?_
  refine lv_iadd hx hb dd_L_law_542 ?_
  refine xl_rd (j := j) (k := 3) hx hb hX hbl hbA hw.2.2 hL (by omega) (nI_add j 3) dd_L_law_543 ?_
  refine xqg_i hK hw (va_runV (As := [.int (xs (j + 1)), .int (xs (j + 2)), .int (xs (j + 3))]) (rest := [.int v]) ⟨hx, hb, hml, hown, hts⟩ (xc_R_spoil l D ad ca xs_all 200 ((xs (j + 1))) ((xs (j + 2))) ((xs (j + 3))) S2 v R2 hkR g2 _) ⟨callB_of 3 hts (xs_good hw_1063) rfl rfl rfl (hts _ hw_13) (hts _ hw_1060) yd_R_spoil ⟨by decide, by decide⟩, (hts _ hw_1061), (hts _ hw_1062)⟩ ⟨xs_blind, xs_recv_R hK hw hkR, fun U h1 h2 => ⟨rfl, xs_pre hK hw h1 h2⟩⟩ rfl rfl hl.1 rfl (lv_room (Nat.le_of_ble_eq_true rfl)) dd_L_law_544 ⟨by decide, by decide⟩) (fun H locs hw => ?_)
  refine lv_icmp_eq hx hb dd_L_law_547 rfl (fun _ => ?_) (fun h => absurd rfl h)
  exact w809 R2 H locs ls tm2 hR2 hw hl
set_option maxHeartbeats 4000000 in
theorem law_c10 {p : Program} {l : Launch} {e : Env} {s : State} {m : MethodId} {below : List Frame} {meth : Method} {c : Code} {b L : Nat} {xs : Nat → Int32} {D : va_G} {ca : Nat → ClassId} {ad : Nat → Nat} {K : Nat → Nat → Nat} {n j tm : Nat} {S : xs_T} {H : Heap} {locs : List Loc} {ls : Array Slot} (hx : p.tables.exec = Jvm.exec) (hb : c.code = code) (hml : c.maxLocals = 4) (hown : s.vm.findClass R_law = some m.cls) (hts : ∀ w ∈ xs_U, w.before #[Value.ref b] s = true) (hX : va_X b L xs s s.heap) (hbl : b < s.heap.size) (hL : L ≤ 3585) (hKK : xs_KK D ca s) (hK : xs_K D ad ca xs_all (fun q => s.heap.size ≤ q) s) (hj : j + 6 < L) (hn : n < 512) (hR : Rel K n tm S S) (hw : xs_I D ad ca xs_all (fun q => s.heap.size ≤ q) s S H locs) (hl : lv_has ls 4 [(0, .ref b), (1, .ref (ad 0)), (2, .ref (ad 200)), (3, .int (nI j))]) (w809 : ∀ (S : xs_T) (H : Heap) (locs : List Loc) (ls : Array Slot) (tm : Nat), Rel K (n + 1) tm S S → xs_I D ad ca xs_all (fun q => s.heap.size ≤ q) s S H locs → lv_has ls 4 [(0, .ref b), (1, .ref (ad 0)), (2, .ref (ad 200)), (3, .int (nI j))] → W p l e room_1 s m #[Value.ref b] below meth c H locs 208 4475 (lw_Z below #[Value.ref b] s) (F0 m 809 ls [])) : W p l e room_1 s m #[Value.ref b] below meth c H locs 208 4475 (lw_Z below #[Value.ref b] s) (F0 m 552 ls []) := by
  have hbA : ¬ (fun q => s.heap.size ≤ q) b := Nat.not_le.mpr hbl
  have hkW : xs_is xs_all 0 xs_cW := ⟨by decide, by decide⟩
  have hkR : xs_is xs_all 200 xs_cR := ⟨by decide, by decide⟩
  obtain ⟨v, g1, g2⟩ := sim_frames hR
  have hR2 := Rel_fr hR (Nat.le_succ n) ag_rf ag_rf
  refine lv_aload_n hx hb dd_L_law_552 rfl (lv_at hl 1 rfl) ?_
  refine xqg_i hK hw (va_runV (As := []) (rest := []) ⟨hx, hb, hml, hown, hts⟩ (xc_W_frames l D ad ca xs_all 0 S v hkW g1 _) ⟨callB_of 0 hts (xs_good hw_682) rfl rfl rfl (hts _ hw_1) (hts _ hw_679) yd_W_frames ⟨by decide, by decide⟩, (hts _ hw_680), (hts _ hw_681)⟩ ⟨xs_blind, xs_recv_W hK hw hkW, fun U h1 h2 => ⟨rfl, xs_pre hK hw h1 h2⟩⟩ rfl rfl hl.1 rfl (lv_room (Nat.le_of_ble_eq_true rfl)) dd_L_law_553 ⟨by decide, by decide⟩) (fun H locs hw => ?_)
  refine lv_aload_n hx hb dd_L_law_556 rfl (lv_at hl 2 rfl) ?_
  refine xqg_i hK hw (va_runV (As := []) (rest := [.int v]) ⟨hx, hb, hml, hown, hts⟩ (xc_R_frames l D ad ca xs_all 200 S v hkR g2 _) ⟨callB_of 0 hts (xs_good hw_1067) rfl rfl rfl (hts _ hw_13) (hts _ hw_1064) yd_R_frames ⟨by decide, by decide⟩, (hts _ hw_1065), (hts _ hw_1066)⟩ ⟨xs_blind, xs_recv_R hK hw hkR, fun U h1 h2 => ⟨rfl, xs_pre hK hw h1 h2⟩⟩ rfl rfl hl.1 rfl (lv_room (Nat.le_of_ble_eq_true rfl)) dd_L_law_557 ⟨by decide, by decide⟩) (fun H locs hw => ?_)
  refine lv_icmp_eq hx hb dd_L_law_560 rfl (fun _ => ?_) (fun h => absurd rfl h)
  exact w809 S H locs ls tm hR2 hw hl
set_option maxHeartbeats 4000000 in
theorem law_c11 {p : Program} {l : Launch} {e : Env} {s : State} {m : MethodId} {below : List Frame} {meth : Method} {c : Code} {b L : Nat} {xs : Nat → Int32} {D : va_G} {ca : Nat → ClassId} {ad : Nat → Nat} {K : Nat → Nat → Nat} {n j tm : Nat} {S : xs_T} {H : Heap} {locs : List Loc} {ls : Array Slot} (hx : p.tables.exec = Jvm.exec) (hb : c.code = code) (hml : c.maxLocals = 4) (hown : s.vm.findClass R_law = some m.cls) (hts : ∀ w ∈ xs_U, w.before #[Value.ref b] s = true) (hX : va_X b L xs s s.heap) (hbl : b < s.heap.size) (hL : L ≤ 3585) (hKK : xs_KK D ca s) (hK : xs_K D ad ca xs_all (fun q => s.heap.size ≤ q) s) (hj : j + 6 < L) (hn : n < 512) (hR : Rel K n tm S S) (hw : xs_I D ad ca xs_all (fun q => s.heap.size ≤ q) s S H locs) (hl : lv_has ls 4 [(0, .ref b), (1, .ref (ad 0)), (2, .ref (ad 200)), (3, .int (nI j))]) (w809 : ∀ (S : xs_T) (H : Heap) (locs : List Loc) (ls : Array Slot) (tm : Nat), Rel K (n + 1) tm S S → xs_I D ad ca xs_all (fun q => s.heap.size ≤ q) s S H locs → lv_has ls 4 [(0, .ref b), (1, .ref (ad 0)), (2, .ref (ad 200)), (3, .int (nI j))] → W p l e room_1 s m #[Value.ref b] below meth c H locs 208 4475 (lw_Z below #[Value.ref b] s) (F0 m 809 ls [])) : W p l e room_1 s m #[Value.ref b] below meth c H locs 208 4475 (lw_Z below #[Value.ref b] s) (F0 m 565 ls []) := by
  have hbA : ¬ (fun q => s.heap.size ≤ q) b := Nat.not_le.mpr hbl
  have hkW : xs_is xs_all 0 xs_cW := ⟨by decide, by decide⟩
  have hkR : xs_is xs_all 200 xs_cR := ⟨by decide, by decide⟩
  obtain ⟨v, g1, g2⟩ := sim_length hR ((xs (j + 1)))
  have hR2 := Rel_fr hR (Nat.le_succ n) ag_rf ag_rf
  refine lv_aload_n hx hb dd_L_law_565 rfl (lv_at hl 1 rfl) ?_
  refine lv_aload_n hx hb dd_L_law_566 rfl (lv_at hl 0 rfl) ?_
  refine lv_iload_n hx hb dd_L_law_567 rfl (lv_at hl 3 rfl) ?_
  refine lv_iconst (v := 1) hx hb dd_L_law_568 rfl ?_
  refine lv_iadd hx hb dd_L_law_569 ?_
  refine xl_rd (j := j) (k := 1) hx hb hX hbl hbA hw.2.2 hL (by omega) (nI_add j 1) dd_L_law_570 ?_
  refine xqg_i hK hw (va_runV (As := [.int (xs (j + 1))]) (rest := []) ⟨hx, hb, hml, hown, hts⟩ (xc_W_length l D ad ca xs_all rfl 0 ((xs (j + 1))) S v hkW g1 _) ⟨callB_of 1 hts (xs_good hw_686) rfl rfl rfl (hts _ hw_1) (hts _ hw_683) yd_W_length ⟨by decide, by decide⟩, (hts _ hw_684), (hts _ hw_685)⟩ ⟨xs_blind, xs_recv_W hK hw hkW, fun U h1 h2 => ⟨rfl, xs_pre hK hw h1 h2⟩⟩ rfl rfl hl.1 rfl (lv_room (Nat.le_of_ble_eq_true rfl)) dd_L_law_571 ⟨by decide, by decide⟩) (fun H locs hw => ?_)
  refine lv_aload_n hx hb dd_L_law_574 rfl (lv_at hl 2 rfl) ?_
  refine lv_aload_n hx hb dd_L_law_575 rfl (lv_at hl 0 rfl) ?_
  refine lv_iload_n hx hb dd_L_law_576 rfl (lv_at hl 3 rfl) ?_
  refine lv_iconst (v := 1) hx hb dd_L_law_577 rfl ?_
  refine lv_iadd hx hb dd_L_law_578 ?_
  refine xl_rd (j := j) (k := 1) hx hb hX hbl hbA hw.2.2 hL (by omega) (nI_add j 1) dd_L_law_579 ?_
  refine xqg_i hK hw (va_runV (As := [.int (xs (j + 1))]) (rest := [.int v]) ⟨hx, hb, hml, hown, hts⟩ (xc_R_length l D ad ca xs_all 200 ((xs (j + 1))) S v hkR g2 _) ⟨callB_of 1 hts (xs_good hw_1071) rfl rfl rfl (hts _ hw_13) (hts _ hw_1068) yd_R_length ⟨by decide, by decide⟩, (hts _ hw_1069), (hts _ hw_1070)⟩ ⟨xs_blind, xs_recv_R hK hw hkR, fun U h1 h2 => ⟨rfl, xs_pre hK hw h1 h2⟩⟩ rfl rfl hl.1 rfl (lv_room (Nat.le_of_ble_eq_true rfl)) dd_L_law_580 ⟨by decide, by decide⟩) (fun H locs hw => ?_)
  refine lv_icmp_eq hx hb dd_L_law_583 rfl (fun _ => ?_) (fun h => absurd rfl h)
  exact w809 S H locs ls tm hR2 hw hl
set_option maxHeartbeats 4000000 in
theorem law_c12 {p : Program} {l : Launch} {e : Env} {s : State} {m : MethodId} {below : List Frame} {meth : Method} {c : Code} {b L : Nat} {xs : Nat → Int32} {D : va_G} {ca : Nat → ClassId} {ad : Nat → Nat} {K : Nat → Nat → Nat} {n j tm : Nat} {S : xs_T} {H : Heap} {locs : List Loc} {ls : Array Slot} (hx : p.tables.exec = Jvm.exec) (hb : c.code = code) (hml : c.maxLocals = 4) (hown : s.vm.findClass R_law = some m.cls) (hts : ∀ w ∈ xs_U, w.before #[Value.ref b] s = true) (hX : va_X b L xs s s.heap) (hbl : b < s.heap.size) (hL : L ≤ 3585) (hKK : xs_KK D ca s) (hK : xs_K D ad ca xs_all (fun q => s.heap.size ≤ q) s) (hj : j + 6 < L) (hn : n < 512) (hR : Rel K n tm S S) (hw : xs_I D ad ca xs_all (fun q => s.heap.size ≤ q) s S H locs) (hl : lv_has ls 4 [(0, .ref b), (1, .ref (ad 0)), (2, .ref (ad 200)), (3, .int (nI j))]) (w809 : ∀ (S : xs_T) (H : Heap) (locs : List Loc) (ls : Array Slot) (tm : Nat), Rel K (n + 1) tm S S → xs_I D ad ca xs_all (fun q => s.heap.size ≤ q) s S H locs → lv_has ls 4 [(0, .ref b), (1, .ref (ad 0)), (2, .ref (ad 200)), (3, .int (nI j))] → W p l e room_1 s m #[Value.ref b] below meth c H locs 208 4475 (lw_Z below #[Value.ref b] s) (F0 m 809 ls [])) : W p l e room_1 s m #[Value.ref b] below meth c H locs 208 4475 (lw_Z below #[Value.ref b] s) (F0 m 588 ls []) := by
  have hbA : ¬ (fun q => s.heap.size ≤ q) b := Nat.not_le.mpr hbl
  have hkW : xs_is xs_all 0 xs_cW := ⟨by decide, by decide⟩
  have hkR : xs_is xs_all 200 xs_cR := ⟨by decide, by decide⟩
  obtain ⟨v, g1, g2⟩ := sim_octet hR ((xs (j + 1))) ((xs (j + 2)))
  have hR2 := Rel_fr hR (Nat.le_succ n) ag_rf ag_rf
  refine lv_aload_n hx hb dd_L_law_588 rfl (lv_at hl 1 rfl) ?_
  refine lv_aload_n hx hb dd_L_law_589 rfl (lv_at hl 0 rfl) ?_
  refine lv_iload_n hx hb dd_L_law_590 rfl (lv_at hl 3 rfl) ?_
  refine lv_iconst (v := 1) hx hb dd_L_law_591 rfl ?_
  refine lv_iadd hx hb dd_L_law_592 ?_
  refine xl_rd (j := j) (k := 1) hx hb hX hbl hbA hw.2.2 hL (by omega) (nI_add j 1) dd_L_law_593 ?_
  refine lv_aload_n hx hb dd_L_law_594 rfl (lv_at hl 0 rfl) ?_
  refine lv_iload_n hx hb dd_L_law_595 rfl (lv_at hl 3 rfl) ?_
  refine lv_iconst (v := 2) hx hb dd_L_law_596 rfl ?_
  refine lv_iadd hx hb dd_L_law_597 ?_
  refine xl_rd (j := j) (k := 2) hx hb hX hbl hbA hw.2.2 hL (by omega) (nI_add j 2) dd_L_law_598 ?_
  refine xqg_i hK hw (va_runV (As := [.int (xs (j + 1)), .int (xs (j + 2))]) (rest := []) ⟨hx, hb, hml, hown, hts⟩ (xc_W_octet l D ad ca xs_all rfl 0 ((xs (j + 1))) ((xs (j + 2))) S v hkW g1 _) ⟨callB_of 2 hts (xs_good hw_690) rfl rfl rfl (hts _ hw_1) (hts _ hw_687) yd_W_octet ⟨by decide, by decide⟩, (hts _ hw_688), (hts _ hw_689)⟩ ⟨xs_blind, xs_recv_W hK hw hkW, fun U h1 h2 => ⟨rfl, xs_pre hK hw h1 h2⟩⟩ rfl rfl hl.1 rfl (lv_room (Nat.le_of_ble_eq_true rfl)) dd_L_law_599 ⟨by decide, by decide⟩) (fun H locs hw => ?_)
  refine lv_aload_n hx hb dd_L_law_602 rfl (lv_at hl 2 rfl) ?_
  refine lv_aload_n hx hb dd_L_law_603 rfl (lv_at hl 0 rfl) ?_
  refine lv_iload_n hx hb dd_L_law_604 rfl (lv_at hl 3 rfl) ?_
  refine lv_iconst (v := 1) hx hb dd_L_law_605 rfl ?_
  refine lv_iadd hx hb dd_L_law_606 ?_
  refine xl_rd (j := j) (k := 1) hx hb hX hbl hbA hw.2.2 hL (by omega) (nI_add j 1) dd_L_law_607 ?_
  refine lv_aload_n hx hb dd_L_law_608 rfl (lv_at hl 0 rfl) ?_
  refine lv_iload_n hx hb dd_L_law_609 rfl (lv_at hl 3 rfl) ?_
  refine lv_iconst (v := 2) hx hb dd_L_law_610 rfl ?_
  refine lv_iadd hx hb dd_L_law_611 ?_
  refine xl_rd (j := j) (k := 2) hx hb hX hbl hbA hw.2.2 hL (by omega) (nI_add j 2) dd_L_law_612 ?_
  refine xqg_i hK hw (va_runV (As := [.int (xs (j + 1)), .int (xs (j + 2))]) (rest := [.int v]) ⟨hx, hb, hml, hown, hts⟩ (xc_R_octet l D ad ca xs_all 200 ((xs (j + 1))) ((xs (j + 2))) S v hkR g2 _) ⟨callB_of 2 hts (xs_good hw_1075) rfl rfl rfl (hts _ hw_13) (hts _ hw_1072) yd_R_octet ⟨by decide, by decide⟩, (hts _ hw_1073), (hts _ hw_1074)⟩ ⟨xs_blind, xs_recv_R hK hw hkR, fun U h1 h2 => ⟨rfl, xs_pre hK hw h1 h2⟩⟩ rfl rfl hl.1 rfl (lv_room (Nat.le_of_ble_eq_true rfl)) dd_L_law_613 ⟨by decide, by decide⟩) (fun H locs hw => ?_)
  refine lv_icmp_eq hx hb dd_L_law_616 rfl (fun _ => ?_) (fun h => absurd rfl h)
  exact w809 S H locs ls tm hR2 hw hl
set_option maxHeartbeats 4000000 in
theorem law_c13 {p : Program} {l : Launch} {e : Env} {s : State} {m : MethodId} {below : List Frame} {meth : Method} {c : Code} {b L : Nat} {xs : Nat → Int32} {D : va_G} {ca : Nat → ClassId} {ad : Nat → Nat} {K : Nat → Nat → Nat} {n j tm : Nat} {S : xs_T} {H : Heap} {locs : List Loc} {ls : Array Slot} (hx : p.tables.exec = Jvm.exec) (hb : c.code = code) (hml : c.maxLocals = 4) (hown : s.vm.findClass R_law = some m.cls) (hts : ∀ w ∈ xs_U, w.before #[Value.ref b] s = true) (hX : va_X b L xs s s.heap) (hbl : b < s.heap.size) (hL : L ≤ 3585) (hKK : xs_KK D ca s) (hK : xs_K D ad ca xs_all (fun q => s.heap.size ≤ q) s) (hj : j + 6 < L) (hn : n < 512) (hR : Rel K n tm S S) (hw : xs_I D ad ca xs_all (fun q => s.heap.size ≤ q) s S H locs) (hl : lv_has ls 4 [(0, .ref b), (1, .ref (ad 0)), (2, .ref (ad 200)), (3, .int (nI j))]) (w809 : ∀ (S : xs_T) (H : Heap) (locs : List Loc) (ls : Array Slot) (tm : Nat), Rel K (n + 1) tm S S → xs_I D ad ca xs_all (fun q => s.heap.size ≤ q) s S H locs → lv_has ls 4 [(0, .ref b), (1, .ref (ad 0)), (2, .ref (ad 200)), (3, .int (nI j))] → W p l e room_1 s m #[Value.ref b] below meth c H locs 208 4475 (lw_Z below #[Value.ref b] s) (F0 m 809 ls [])) : W p l e room_1 s m #[Value.ref b] below meth c H locs 208 4475 (lw_Z below #[Value.ref b] s) (F0 m 621 ls []) := by
  have hbA : ¬ (fun q => s.heap.size ≤ q) b := Nat.not_le.mpr hbl
  have hkW : xs_is xs_all 0 xs_cW := ⟨by decide, by decide⟩
  have hkR : xs_is xs_all 200 xs_cR := ⟨by decide, by decide⟩
  obtain ⟨v, g1, g2⟩ := sim_goal hR ((xs (j + 1)))
  have hR2 := Rel_fr hR (Nat.le_succ n) ag_rf ag_rf
  refine lv_aload_n hx hb dd_L_law_621 rfl (lv_at hl 1 rfl) ?_
  refine lv_aload_n hx hb dd_L_law_622 rfl (lv_at hl 0 rfl) ?_
  refine lv_iload_n hx hb dd_L_law_623 rfl (lv_at hl 3 rfl) ?_
  refine lv_iconst (v := 1) hx hb dd_L_law_624 rfl ?_
  refine lv_iadd hx hb dd_L_law_625 ?_
  refine xl_rd (j := j) (k := 1) hx hb hX hbl hbA hw.2.2 hL (by omega) (nI_add j 1) dd_L_law_626 ?_
  refine xqg_i hK hw (va_runV (As := [.int (xs (j + 1))]) (rest := []) ⟨hx, hb, hml, hown, hts⟩ (xc_W_goal l D ad ca xs_all rfl 0 ((xs (j + 1))) S v hkW g1 _) ⟨callB_of 1 hts (xs_good hw_694) rfl rfl rfl (hts _ hw_1) (hts _ hw_691) yd_W_goal ⟨by decide, by decide⟩, (hts _ hw_692), (hts _ hw_693)⟩ ⟨xs_blind, xs_recv_W hK hw hkW, fun U h1 h2 => ⟨rfl, xs_pre hK hw h1 h2⟩⟩ rfl rfl hl.1 rfl (lv_room (Nat.le_of_ble_eq_true rfl)) dd_L_law_627 ⟨by decide, by decide⟩) (fun H locs hw => ?_)
  refine lv_aload_n hx hb dd_L_law_630 rfl (lv_at hl 2 rfl) ?_
  refine lv_aload_n hx hb dd_L_law_631 rfl (lv_at hl 0 rfl) ?_
  refine lv_iload_n hx hb dd_L_law_632 rfl (lv_at hl 3 rfl) ?_
  refine lv_iconst (v := 1) hx hb dd_L_law_633 rfl ?_
  refine lv_iadd hx hb dd_L_law_634 ?_
  refine xl_rd (j := j) (k := 1) hx hb hX hbl hbA hw.2.2 hL (by omega) (nI_add j 1) dd_L_law_635 ?_
  refine xqg_i hK hw (va_runV (As := [.int (xs (j + 1))]) (rest := [.int v]) ⟨hx, hb, hml, hown, hts⟩ (xc_R_goal l D ad ca xs_all 200 ((xs (j + 1))) S v hkR g2 _) ⟨callB_of 1 hts (xs_good hw_1079) rfl rfl rfl (hts _ hw_13) (hts _ hw_1076) yd_R_goal ⟨by decide, by decide⟩, (hts _ hw_1077), (hts _ hw_1078)⟩ ⟨xs_blind, xs_recv_R hK hw hkR, fun U h1 h2 => ⟨rfl, xs_pre hK hw h1 h2⟩⟩ rfl rfl hl.1 rfl (lv_room (Nat.le_of_ble_eq_true rfl)) dd_L_law_636 ⟨by decide, by decide⟩) (fun H locs hw => ?_)
  refine lv_icmp_eq hx hb dd_L_law_639 rfl (fun _ => ?_) (fun h => absurd rfl h)
  exact w809 S H locs ls tm hR2 hw hl
set_option maxHeartbeats 4000000 in
theorem law_c14 {p : Program} {l : Launch} {e : Env} {s : State} {m : MethodId} {below : List Frame} {meth : Method} {c : Code} {b L : Nat} {xs : Nat → Int32} {D : va_G} {ca : Nat → ClassId} {ad : Nat → Nat} {K : Nat → Nat → Nat} {n j tm : Nat} {S : xs_T} {H : Heap} {locs : List Loc} {ls : Array Slot} (hx : p.tables.exec = Jvm.exec) (hb : c.code = code) (hml : c.maxLocals = 4) (hown : s.vm.findClass R_law = some m.cls) (hts : ∀ w ∈ xs_U, w.before #[Value.ref b] s = true) (hX : va_X b L xs s s.heap) (hbl : b < s.heap.size) (hL : L ≤ 3585) (hKK : xs_KK D ca s) (hK : xs_K D ad ca xs_all (fun q => s.heap.size ≤ q) s) (hj : j + 6 < L) (hn : n < 512) (hR : Rel K n tm S S) (hw : xs_I D ad ca xs_all (fun q => s.heap.size ≤ q) s S H locs) (hl : lv_has ls 4 [(0, .ref b), (1, .ref (ad 0)), (2, .ref (ad 200)), (3, .int (nI j))]) (w809 : ∀ (S : xs_T) (H : Heap) (locs : List Loc) (ls : Array Slot) (tm : Nat), Rel K (n + 1) tm S S → xs_I D ad ca xs_all (fun q => s.heap.size ≤ q) s S H locs → lv_has ls 4 [(0, .ref b), (1, .ref (ad 0)), (2, .ref (ad 200)), (3, .int (nI j))] → W p l e room_1 s m #[Value.ref b] below meth c H locs 208 4475 (lw_Z below #[Value.ref b] s) (F0 m 809 ls [])) : W p l e room_1 s m #[Value.ref b] below meth c H locs 208 4475 (lw_Z below #[Value.ref b] s) (F0 m 644 ls []) := by
  have hbA : ¬ (fun q => s.heap.size ≤ q) b := Nat.not_le.mpr hbl
  have hkW : xs_is xs_all 0 xs_cW := ⟨by decide, by decide⟩
  have hkR : xs_is xs_all 200 xs_cR := ⟨by decide, by decide⟩
  obtain ⟨v, g1, g2⟩ := sim_state hR ((xs (j + 1)))
  have hR2 := Rel_fr hR (Nat.le_succ n) ag_rf ag_rf
  refine lv_aload_n hx hb dd_L_law_644 rfl (lv_at hl 1 rfl) ?_
  refine lv_aload_n hx hb dd_L_law_645 rfl (lv_at hl 0 rfl) ?_
  refine lv_iload_n hx hb dd_L_law_646 rfl (lv_at hl 3 rfl) ?_
  refine lv_iconst (v := 1) hx hb dd_L_law_647 rfl ?_
  refine lv_iadd hx hb dd_L_law_648 ?_
  refine xl_rd (j := j) (k := 1) hx hb hX hbl hbA hw.2.2 hL (by omega) (nI_add j 1) dd_L_law_649 ?_
  refine xqg_i hK hw (va_runV (As := [.int (xs (j + 1))]) (rest := []) ⟨hx, hb, hml, hown, hts⟩ (xc_W_state l D ad ca xs_all rfl 0 ((xs (j + 1))) S v hkW g1 _) ⟨callB_of 1 hts (xs_good hw_698) rfl rfl rfl (hts _ hw_1) (hts _ hw_695) yd_W_state ⟨by decide, by decide⟩, (hts _ hw_696), (hts _ hw_697)⟩ ⟨xs_blind, xs_recv_W hK hw hkW, fun U h1 h2 => ⟨rfl, xs_pre hK hw h1 h2⟩⟩ rfl rfl hl.1 rfl (lv_room (Nat.le_of_ble_eq_true rfl)) dd_L_law_650 ⟨by decide, by decide⟩) (fun H locs hw => ?_)
  refine lv_aload_n hx hb dd_L_law_653 rfl (lv_at hl 2 rfl) ?_
  refine lv_aload_n hx hb dd_L_law_654 rfl (lv_at hl 0 rfl) ?_
  refine lv_iload_n hx hb dd_L_law_655 rfl (lv_at hl 3 rfl) ?_
  refine lv_iconst (v := 1) hx hb dd_L_law_656 rfl ?_
  refine lv_iadd hx hb dd_L_law_657 ?_
  refine xl_rd (j := j) (k := 1) hx hb hX hbl hbA hw.2.2 hL (by omega) (nI_add j 1) dd_L_law_658 ?_
  refine xqg_i hK hw (va_runV (As := [.int (xs (j + 1))]) (rest := [.int v]) ⟨hx, hb, hml, hown, hts⟩ (xc_R_state l D ad ca xs_all 200 ((xs (j + 1))) S v hkR g2 _) ⟨callB_of 1 hts (xs_good hw_1083) rfl rfl rfl (hts _ hw_13) (hts _ hw_1080) yd_R_state ⟨by decide, by decide⟩, (hts _ hw_1081), (hts _ hw_1082)⟩ ⟨xs_blind, xs_recv_R hK hw hkR, fun U h1 h2 => ⟨rfl, xs_pre hK hw h1 h2⟩⟩ rfl rfl hl.1 rfl (lv_room (Nat.le_of_ble_eq_true rfl)) dd_L_law_659 ⟨by decide, by decide⟩) (fun H locs hw => ?_)
  refine lv_icmp_eq hx hb dd_L_law_662 rfl (fun _ => ?_) (fun h => absurd rfl h)
  exact w809 S H locs ls tm hR2 hw hl
set_option maxHeartbeats 4000000 in
theorem law_c15 {p : Program} {l : Launch} {e : Env} {s : State} {m : MethodId} {below : List Frame} {meth : Method} {c : Code} {b L : Nat} {xs : Nat → Int32} {D : va_G} {ca : Nat → ClassId} {ad : Nat → Nat} {K : Nat → Nat → Nat} {n j tm : Nat} {S : xs_T} {H : Heap} {locs : List Loc} {ls : Array Slot} (hx : p.tables.exec = Jvm.exec) (hb : c.code = code) (hml : c.maxLocals = 4) (hown : s.vm.findClass R_law = some m.cls) (hts : ∀ w ∈ xs_U, w.before #[Value.ref b] s = true) (hX : va_X b L xs s s.heap) (hbl : b < s.heap.size) (hL : L ≤ 3585) (hKK : xs_KK D ca s) (hK : xs_K D ad ca xs_all (fun q => s.heap.size ≤ q) s) (hj : j + 6 < L) (hn : n < 512) (hR : Rel K n tm S S) (hw : xs_I D ad ca xs_all (fun q => s.heap.size ≤ q) s S H locs) (hl : lv_has ls 4 [(0, .ref b), (1, .ref (ad 0)), (2, .ref (ad 200)), (3, .int (nI j))]) (w809 : ∀ (S : xs_T) (H : Heap) (locs : List Loc) (ls : Array Slot) (tm : Nat), Rel K (n + 1) tm S S → xs_I D ad ca xs_all (fun q => s.heap.size ≤ q) s S H locs → lv_has ls 4 [(0, .ref b), (1, .ref (ad 0)), (2, .ref (ad 200)), (3, .int (nI j))] → W p l e room_1 s m #[Value.ref b] below meth c H locs 208 4475 (lw_Z below #[Value.ref b] s) (F0 m 809 ls [])) : W p l e room_1 s m #[Value.ref b] below meth c H locs 208 4475 (lw_Z below #[Value.ref b] s) (F0 m 667 ls []) := by
  have hbA : ¬ (fun q => s.heap.size ≤ q) b := Nat.not_le.mpr hbl
  have hkW : xs_is xs_all 0 xs_cW := ⟨by decide, by decide⟩
  have hkR : xs_is xs_all 200 xs_cR := ⟨by decide, by decide⟩
  obtain ⟨v, g1, g2⟩ := sim_received hR ((xs (j + 1))) ((bz (xs (j + 2))))
  have hR2 := Rel_fr hR (Nat.le_succ n) ag_rf ag_rf
  refine lv_aload_n hx hb dd_L_law_667 rfl (lv_at hl 1 rfl) ?_
  refine lv_aload_n hx hb dd_L_law_668 rfl (lv_at hl 0 rfl) ?_
  refine lv_iload_n hx hb dd_L_law_669 rfl (lv_at hl 3 rfl) ?_
  refine lv_iconst (v := 1) hx hb dd_L_law_670 rfl ?_
  refine lv_iadd hx hb dd_L_law_671 ?_
  refine xl_rd (j := j) (k := 1) hx hb hX hbl hbA hw.2.2 hL (by omega) (nI_add j 1) dd_L_law_672 ?_
  refine lv_aload_n hx hb dd_L_law_673 rfl (lv_at hl 0 rfl) ?_
  refine lv_iload_n hx hb dd_L_law_674 rfl (lv_at hl 3 rfl) ?_
  refine lv_iconst (v := 2) hx hb dd_L_law_675 rfl ?_
  refine lv_iadd hx hb dd_L_law_676 ?_
  refine xl_rd (j := j) (k := 2) hx hb hX hbl hbA hw.2.2 hL (by omega) (nI_add j 2) dd_L_law_677 ?_
  refine xl_b (t0 := 685) hx hb dd_L_law_678 rfl dd_L_law_681 dd_L_law_682 rfl dd_L_law_685 ?_
  refine xqg_i hK hw (va_runV (As := [.int (xs (j + 1)), .int (bz (xs (j + 2)))]) (rest := []) ⟨hx, hb, hml, hown, hts⟩ (xc_W_received l D ad ca xs_all rfl 0 ((xs (j + 1))) ((bz (xs (j + 2)))) S v hkW g1 _) ⟨callB_of 2 hts (xs_good hw_702) rfl rfl rfl (hts _ hw_1) (hts _ hw_699) yd_W_received ⟨by decide, by decide⟩, (hts _ hw_700), (hts _ hw_701)⟩ ⟨xs_blind, xs_recv_W hK hw hkW, fun U h1 h2 => ⟨rfl, xs_pre hK hw h1 h2⟩⟩ rfl rfl hl.1 rfl (lv_room (Nat.le_of_ble_eq_true rfl)) dd_L_law_686 ⟨by decide, by decide⟩) (fun H locs hw => ?_)
  refine lv_aload_n hx hb dd_L_law_689 rfl (lv_at hl 2 rfl) ?_
  refine lv_aload_n hx hb dd_L_law_690 rfl (lv_at hl 0 rfl) ?_
  refine lv_iload_n hx hb dd_L_law_691 rfl (lv_at hl 3 rfl) ?_
  refine lv_iconst (v := 1) hx hb dd_L_law_692 rfl ?_
  refine lv_iadd hx hb dd_L_law_693 ?_
  refine xl_rd (j := j) (k := 1) hx hb hX hbl hbA hw.2.2 hL (by omega) (nI_add j 1) dd_L_law_694 ?_
  refine lv_aload_n hx hb dd_L_law_695 rfl (lv_at hl 0 rfl) ?_
  refine lv_iload_n hx hb dd_L_law_696 rfl (lv_at hl 3 rfl) ?_
  refine lv_iconst (v := 2) hx hb dd_L_law_697 rfl ?_
  refine lv_iadd hx hb dd_L_law_698 ?_
  refine xl_rd (j := j) (k := 2) hx hb hX hbl hbA hw.2.2 hL (by omega) (nI_add j 2) dd_L_law_699 ?_
  refine xl_b (t0 := 707) hx hb dd_L_law_700 rfl dd_L_law_703 dd_L_law_704 rfl dd_L_law_707 ?_
  refine xqg_i hK hw (va_runV (As := [.int (xs (j + 1)), .int (bz (xs (j + 2)))]) (rest := [.int v]) ⟨hx, hb, hml, hown, hts⟩ (xc_R_received l D ad ca xs_all 200 ((xs (j + 1))) ((bz (xs (j + 2)))) S v hkR g2 _) ⟨callB_of 2 hts (xs_good hw_1087) rfl rfl rfl (hts _ hw_13) (hts _ hw_1084) yd_R_received ⟨by decide, by decide⟩, (hts _ hw_1085), (hts _ hw_1086)⟩ ⟨xs_blind, xs_recv_R hK hw hkR, fun U h1 h2 => ⟨rfl, xs_pre hK hw h1 h2⟩⟩ rfl rfl hl.1 rfl (lv_room (Nat.le_of_ble_eq_true rfl)) dd_L_law_708 ⟨by decide, by decide⟩) (fun H locs hw => ?_)
  refine lv_icmp_eq hx hb dd_L_law_711 rfl (fun _ => ?_) (fun h => absurd rfl h)
  exact w809 S H locs ls tm hR2 hw hl
set_option maxHeartbeats 4000000 in
theorem law_c16 {p : Program} {l : Launch} {e : Env} {s : State} {m : MethodId} {below : List Frame} {meth : Method} {c : Code} {b L : Nat} {xs : Nat → Int32} {D : va_G} {ca : Nat → ClassId} {ad : Nat → Nat} {K : Nat → Nat → Nat} {n j tm : Nat} {S : xs_T} {H : Heap} {locs : List Loc} {ls : Array Slot} (hx : p.tables.exec = Jvm.exec) (hb : c.code = code) (hml : c.maxLocals = 4) (hown : s.vm.findClass R_law = some m.cls) (hts : ∀ w ∈ xs_U, w.before #[Value.ref b] s = true) (hX : va_X b L xs s s.heap) (hbl : b < s.heap.size) (hL : L ≤ 3585) (hKK : xs_KK D ca s) (hK : xs_K D ad ca xs_all (fun q => s.heap.size ≤ q) s) (hj : j + 6 < L) (hn : n < 512) (hR : Rel K n tm S S) (hw : xs_I D ad ca xs_all (fun q => s.heap.size ≤ q) s S H locs) (hl : lv_has ls 4 [(0, .ref b), (1, .ref (ad 0)), (2, .ref (ad 200)), (3, .int (nI j))]) (w809 : ∀ (S : xs_T) (H : Heap) (locs : List Loc) (ls : Array Slot) (tm : Nat), Rel K (n + 1) tm S S → xs_I D ad ca xs_all (fun q => s.heap.size ≤ q) s S H locs → lv_has ls 4 [(0, .ref b), (1, .ref (ad 0)), (2, .ref (ad 200)), (3, .int (nI j))] → W p l e room_1 s m #[Value.ref b] below meth c H locs 208 4475 (lw_Z below #[Value.ref b] s) (F0 m 809 ls [])) : W p l e room_1 s m #[Value.ref b] below meth c H locs 208 4475 (lw_Z below #[Value.ref b] s) (F0 m 716 ls []) := by
  have hbA : ¬ (fun q => s.heap.size ≤ q) b := Nat.not_le.mpr hbl
  have hkW : xs_is xs_all 0 xs_cW := ⟨by decide, by decide⟩
  have hkR : xs_is xs_all 200 xs_cR := ⟨by decide, by decide⟩
  obtain ⟨v, g1, g2⟩ := sim_payload hR (by omega) ((xs (j + 1))) ((bz (xs (j + 2)))) ((xs (j + 3)))
  have hR2 := Rel_fr hR (Nat.le_succ n) ag_rf ag_rf
  refine lv_aload_n hx hb dd_L_law_716 rfl (lv_at hl 1 rfl) ?_
  refine lv_aload_n hx hb dd_L_law_717 rfl (lv_at hl 0 rfl) ?_
  refine lv_iload_n hx hb dd_L_law_718 rfl (lv_at hl 3 rfl) ?_
  refine lv_iconst (v := 1) hx hb dd_L_law_719 rfl ?_
  refine lv_iadd hx hb dd_L_law_720 ?_
  refine xl_rd (j := j) (k := 1) hx hb hX hbl hbA hw.2.2 hL (by omega) (nI_add j 1) dd_L_law_721 ?_
  refine lv_aload_n hx hb dd_L_law_722 rfl (lv_at hl 0 rfl) ?_
  refine lv_iload_n hx hb dd_L_law_723 rfl (lv_at hl 3 rfl) ?_
  refine lv_iconst (v := 2) hx hb dd_L_law_724 rfl ?_
  refine lv_iadd hx hb dd_L_law_725 ?_
  refine xl_rd (j := j) (k := 2) hx hb hX hbl hbA hw.2.2 hL (by omega) (nI_add j 2) dd_L_law_726 ?_
  refine xl_b (t0 := 734) hx hb dd_L_law_727 rfl dd_L_law_730 dd_L_law_731 rfl dd_L_law_734 ?_
  refine lv_aload_n hx hb dd_L_law_735 rfl (lv_at hl 0 rfl) ?_
  refine lv_iload_n hx hb dd_L_law_736 rfl (lv_at hl 3 rfl) ?_
  refine lv_iconst (v := 3) hx hb dd_L_law_737 rfl ?_
  refine lv_iadd hx hb dd_L_law_738 ?_
  refine xl_rd (j := j) (k := 3) hx hb hX hbl hbA hw.2.2 hL (by omega) (nI_add j 3) dd_L_law_739 ?_
  refine xqg_l hK hw (va_runV (As := [.int (xs (j + 1)), .int (bz (xs (j + 2))), .int (xs (j + 3))]) (rest := []) ⟨hx, hb, hml, hown, hts⟩ (xc_W_payload l D ad ca xs_all rfl 0 ((xs (j + 1))) ((bz (xs (j + 2)))) ((xs (j + 3))) S v hkW g1 _) ⟨callB_of 3 hts (xs_good hw_710) rfl rfl rfl (hts _ hw_1) (hts _ hw_707) yd_W_payload ⟨by decide, by decide⟩, (hts _ hw_708), (hts _ hw_709)⟩ ⟨xs_blind, xs_recv_W hK hw hkW, fun U h1 h2 => ⟨rfl, xs_pre hK hw h1 h2⟩⟩ rfl rfl hl.1 rfl (lv_room (Nat.le_of_ble_eq_true rfl)) dd_L_law_740 ⟨by decide, by decide⟩) (fun H locs hw => ?_)
  refine lv_aload_n hx hb dd_L_law_743 rfl (lv_at hl 2 rfl) ?_
  refine lv_aload_n hx hb dd_L_law_744 rfl (lv_at hl 0 rfl) ?_
  refine lv_iload_n hx hb dd_L_law_745 rfl (lv_at hl 3 rfl) ?_
  refine lv_iconst (v := 1) hx hb dd_L_law_746 rfl ?_
  refine lv_iadd hx hb dd_L_law_747 ?_
  refine xl_rd (j := j) (k := 1) hx hb hX hbl hbA hw.2.2 hL (by omega) (nI_add j 1) dd_L_law_748 ?_
  refine lv_aload_n hx hb dd_L_law_749 rfl (lv_at hl 0 rfl) ?_
  refine lv_iload_n hx hb dd_L_law_750 rfl (lv_at hl 3 rfl) ?_
  refine lv_iconst (v := 2) hx hb dd_L_law_751 rfl ?_
  refine lv_iadd hx hb dd_L_law_752 ?_
  refine xl_rd (j := j) (k := 2) hx hb hX hbl hbA hw.2.2 hL (by omega) (nI_add j 2) dd_L_law_753 ?_
  refine xl_b (t0 := 761) hx hb dd_L_law_754 rfl dd_L_law_757 dd_L_law_758 rfl dd_L_law_761 ?_
  refine lv_aload_n hx hb dd_L_law_762 rfl (lv_at hl 0 rfl) ?_
  refine lv_iload_n hx hb dd_L_law_763 rfl (lv_at hl 3 rfl) ?_
  refine lv_iconst (v := 3) hx hb dd_L_law_764 rfl ?_
  refine lv_iadd hx hb dd_L_law_765 ?_
  refine xl_rd (j := j) (k := 3) hx hb hX hbl hbA hw.2.2 hL (by omega) (nI_add j 3) dd_L_law_766 ?_
  refine xqg_l hK hw (va_runV (As := [.int (xs (j + 1)), .int (bz (xs (j + 2))), .int (xs (j + 3))]) (rest := [.long v]) ⟨hx, hb, hml, hown, hts⟩ (xc_R_payload l D ad ca xs_all 200 ((xs (j + 1))) ((bz (xs (j + 2)))) ((xs (j + 3))) S v hkR g2 _) ⟨callB_of 3 hts (xs_good hw_1091) rfl rfl rfl (hts _ hw_13) (hts _ hw_1088) yd_R_payload ⟨by decide, by decide⟩, (hts _ hw_1089), (hts _ hw_1090)⟩ ⟨xs_blind, xs_recv_R hK hw hkR, fun U h1 h2 => ⟨rfl, xs_pre hK hw h1 h2⟩⟩ rfl rfl hl.1 rfl (lv_room (Nat.le_of_ble_eq_true rfl)) dd_L_law_767 ⟨by decide, by decide⟩) (fun H locs hw => ?_)
  refine W.lcmp hx hb dd_L_law_770 ?_
  refine lv_if_eq hx hb dd_L_law_771 rfl (fun _ => ?_) (fun h => absurd ((lg_cmp_eq v v).mpr rfl) h)
  exact w809 S H locs ls tm hR2 hw hl
set_option maxHeartbeats 4000000 in
theorem law_c17 {p : Program} {l : Launch} {e : Env} {s : State} {m : MethodId} {below : List Frame} {meth : Method} {c : Code} {b L : Nat} {xs : Nat → Int32} {D : va_G} {ca : Nat → ClassId} {ad : Nat → Nat} {K : Nat → Nat → Nat} {n j tm : Nat} {S : xs_T} {H : Heap} {locs : List Loc} {ls : Array Slot} (hx : p.tables.exec = Jvm.exec) (hb : c.code = code) (hml : c.maxLocals = 4) (hown : s.vm.findClass R_law = some m.cls) (hts : ∀ w ∈ xs_U, w.before #[Value.ref b] s = true) (hX : va_X b L xs s s.heap) (hbl : b < s.heap.size) (hL : L ≤ 3585) (hKK : xs_KK D ca s) (hK : xs_K D ad ca xs_all (fun q => s.heap.size ≤ q) s) (hj : j + 6 < L) (hn : n < 512) (hR : Rel K n tm S S) (hw : xs_I D ad ca xs_all (fun q => s.heap.size ≤ q) s S H locs) (hl : lv_has ls 4 [(0, .ref b), (1, .ref (ad 0)), (2, .ref (ad 200)), (3, .int (nI j))]) (w809 : ∀ (S : xs_T) (H : Heap) (locs : List Loc) (ls : Array Slot) (tm : Nat), Rel K (n + 1) tm S S → xs_I D ad ca xs_all (fun q => s.heap.size ≤ q) s S H locs → lv_has ls 4 [(0, .ref b), (1, .ref (ad 0)), (2, .ref (ad 200)), (3, .int (nI j))] → W p l e room_1 s m #[Value.ref b] below meth c H locs 208 4475 (lw_Z below #[Value.ref b] s) (F0 m 809 ls [])) : W p l e room_1 s m #[Value.ref b] below meth c H locs 208 4475 (lw_Z below #[Value.ref b] s) (F0 m 776 ls []) := by
  have hbA : ¬ (fun q => s.heap.size ≤ q) b := Nat.not_le.mpr hbl
  have hkW : xs_is xs_all 0 xs_cW := ⟨by decide, by decide⟩
  have hkR : xs_is xs_all 200 xs_cR := ⟨by decide, by decide⟩
  obtain ⟨v, g1, g2⟩ := sim_tally hR ((xs (j + 1))) ((xs (j + 2)))
  have hR2 := Rel_fr hR (Nat.le_succ n) ag_rf ag_rf
  refine lv_aload_n hx hb dd_L_law_776 rfl (lv_at hl 1 rfl) ?_
  refine lv_aload_n hx hb dd_L_law_777 rfl (lv_at hl 0 rfl) ?_
  refine lv_iload_n hx hb dd_L_law_778 rfl (lv_at hl 3 rfl) ?_
  refine lv_iconst (v := 1) hx hb dd_L_law_779 rfl ?_
  refine lv_iadd hx hb dd_L_law_780 ?_
  refine xl_rd (j := j) (k := 1) hx hb hX hbl hbA hw.2.2 hL (by omega) (nI_add j 1) dd_L_law_781 ?_
  refine lv_aload_n hx hb dd_L_law_782 rfl (lv_at hl 0 rfl) ?_
  refine lv_iload_n hx hb dd_L_law_783 rfl (lv_at hl 3 rfl) ?_
  refine lv_iconst (v := 2) hx hb dd_L_law_784 rfl ?_
  refine lv_iadd hx hb dd_L_law_785 ?_
  refine xl_rd (j := j) (k := 2) hx hb hX hbl hbA hw.2.2 hL (by omega) (nI_add j 2) dd_L_law_786 ?_
  refine xqg_i hK hw (va_runV (As := [.int (xs (j + 1)), .int (xs (j + 2))]) (rest := []) ⟨hx, hb, hml, hown, hts⟩ (xc_W_tally l D ad ca xs_all rfl 0 ((xs (j + 1))) ((xs (j + 2))) S v hkW g1 _) ⟨callB_of 2 hts (xs_good hw_719) rfl rfl rfl (hts _ hw_1) (hts _ hw_716) yd_W_tally ⟨by decide, by decide⟩, (hts _ hw_717), (hts _ hw_718)⟩ ⟨xs_blind, xs_recv_W hK hw hkW, fun U h1 h2 => ⟨rfl, xs_pre hK hw h1 h2⟩⟩ rfl rfl hl.1 rfl (lv_room (Nat.le_of_ble_eq_true rfl)) dd_L_law_787 ⟨by decide, by decide⟩) (fun H locs hw => ?_)
  refine lv_aload_n hx hb dd_L_law_790 rfl (lv_at hl 2 rfl) ?_
  refine lv_aload_n hx hb dd_L_law_791 rfl (lv_at hl 0 rfl) ?_
  refine lv_iload_n hx hb dd_L_law_792 rfl (lv_at hl 3 rfl) ?_
  refine lv_iconst (v := 1) hx hb dd_L_law_793 rfl ?_
  refine lv_iadd hx hb dd_L_law_794 ?_
  refine xl_rd (j := j) (k := 1) hx hb hX hbl hbA hw.2.2 hL (by omega) (nI_add j 1) dd_L_law_795 ?_
  refine lv_aload_n hx hb dd_L_law_796 rfl (lv_at hl 0 rfl) ?_
  refine lv_iload_n hx hb dd_L_law_797 rfl (lv_at hl 3 rfl) ?_
  refine lv_iconst (v := 2) hx hb dd_L_law_798 rfl ?_
  refine lv_iadd hx hb dd_L_law_799 ?_
  refine xl_rd (j := j) (k := 2) hx hb hX hbl hbA hw.2.2 hL (by omega) (nI_add j 2) dd_L_law_800 ?_
  refine xqg_i hK hw (va_runV (As := [.int (xs (j + 1)), .int (xs (j + 2))]) (rest := [.int v]) ⟨hx, hb, hml, hown, hts⟩ (xc_R_tally l D ad ca xs_all 200 ((xs (j + 1))) ((xs (j + 2))) S v hkR g2 _) ⟨callB_of 2 hts (xs_good hw_1096) rfl rfl rfl (hts _ hw_13) (hts _ hw_1093) yd_R_tally ⟨by decide, by decide⟩, (hts _ hw_1094), (hts _ hw_1095)⟩ ⟨xs_blind, xs_recv_R hK hw hkR, fun U h1 h2 => ⟨rfl, xs_pre hK hw h1 h2⟩⟩ rfl rfl hl.1 rfl (lv_room (Nat.le_of_ble_eq_true rfl)) dd_L_law_801 ⟨by decide, by decide⟩) (fun H locs hw => ?_)
  refine lv_icmp_eq hx hb dd_L_law_804 rfl (fun _ => ?_) (fun h => absurd rfl h)
  exact w809 S H locs ls tm hR2 hw hl
set_option maxHeartbeats 8000000 in
set_option maxRecDepth 100000 in
theorem whole_start {p : Program} {e : Env} {s : State} {m : MethodId} {below : List Frame} {meth : Method} {c : Code} (l : Launch) {b L : Nat} {xs : Nat → Int32} (hL : L ≤ 3585) (C0 : lw_At p s m meth c b L xs) : W p l e room_1 s m #[Value.ref b] below meth c s.heap [] 0 0 (lw_Z below #[Value.ref b] s) (entryFrame m ([Value.ref b] : List Value).toArray 4) := by
  obtain ⟨hx, hb, hr, hml, hown, htl, hX, hbl, hlocks, hgv⟩ := C0
  have hts : ∀ w ∈ xs_U, w.before #[Value.ref b] s = true := fun w hw => htl w (List.mem_filter.mp hw).1
  obtain ⟨D, ca, hKK⟩ := law_KK htl hts
  obtain ⟨ad0, hZ⟩ := law_Z (A := (fun q => s.heap.size ≤ q)) htl hts hgv (fun a h => Nat.not_le.mpr h)
  have hA : ∀ q, s.heap.size ≤ q → (fun q => s.heap.size ≤ q) q := fun q h => h
  have hbA : ¬ (fun q => s.heap.size ≤ q) b := Nat.not_le.mpr hbl
  have hJ : xs_J D (fun q => s.heap.size ≤ q) s [] s.heap [] := ⟨fun k x hx => by simp at hx, ⟨fun i j x y hx => by simp at hx, fun k x hx => by simp at hx⟩, va_S.rf⟩
  have hl := lv_entry [.ref b] (n := 4) (Nat.le_of_ble_eq_true rfl)
  rw [lg_entry_eq]
  generalize (lg_sl [Value.ref b] ++ List.replicate (4 - (lg_sl [Value.ref b]).length) Slot.unset).toArray = ls at hl ⊢
  have hl : lv_has ls 4 [(0, .ref b)] := hl
  refine xk_new_W hx hb hts hown (hts _ hw_16) (hts _ hw_17) (hts _ hw_1) hKK hA hJ (by decide) (by decide) dd_L_law_0 (fun qW H hJ => ?_)
  refine lv_dup hx hb dd_L_law_3 rfl ?_
  refine lv_aload_n hx hb dd_L_law_4 rfl (lv_at hl 0 rfl) ?_
  refine lv_iconst (v := 0) hx hb dd_L_law_5 rfl ?_
  refine xl_cell hJ (va_runS (As := [.ref b, .int 0]) (rest := [.ref qW, .ref qW]) ⟨hx, hb, hml, hown, hts⟩ (xc_L_cell l b L xs hL) ⟨callB_of 2 hts (xs_good hw_722) rfl rfl rfl (hts _ hw_0) (hts _ hw_720) yd_L_cell ⟨by decide, by decide⟩, (hts _ hw_721)⟩ ⟨cell_blind, fun U h1 h2 => ⟨rfl, by rw [h1]; exact (hX.kept (hJ.2.2.2.1 b hbl hbA)).moved h2.alike, by rw [h1]; exact Nat.lt_of_lt_of_le hbl hJ.2.2.1⟩⟩ rfl rfl hl.1 rfl (lv_room (Nat.le_of_ble_eq_true rfl)) dd_L_law_6 ⟨by decide, by decide⟩) (fun H locs hJ => ?_)
  refine xk_callV (X := fun u : (Nat → Nat) × xs_T => xs_w u.1 ca wkW u.2) hA hJ (va_runI (As := [.int (cellV L xs)]) (rest := [.ref qW]) ⟨hx, hb, hml, hown, hts⟩ (xn_W l D ca ad0 qW H.size (cellV L xs)) ⟨callB_of 1 hts (xs_good hw_20) rfl rfl rfl (hts _ hw_1) (hts _ hw_18) yd_W_init ⟨by decide, by decide⟩, rfl, (hts _ hw_19)⟩ ⟨xz_blind, fun U h1 h2 => ⟨rfl, xz_pre hKK hA hZ hJ h1 h2⟩⟩ rfl rfl hl.1 rfl (lv_room (Nat.le_of_ble_eq_true rfl)) dd_L_law_9 ⟨by decide, by decide⟩) (fun uW H locs eW hJ => ?_)
  have hJ : xs_J D (fun q => s.heap.size ≤ q) s (xs_w uW.1 ca wkW uW.2) _ _ := hJ
  refine lv_astore_n hx hb dd_L_law_12 rfl hl (by decide) rfl (fun ls hl => ?_)
  have hl : lv_has ls 4 [(1, .ref qW), (0, .ref b)] := hl
  refine xk_new_R hx hb hts hown (hts _ hw_723) (hts _ hw_724) (hts _ hw_13) hKK hA hJ (by decide) (by decide) dd_L_law_13 (fun qR H hJ => ?_)
  refine lv_dup hx hb dd_L_law_16 rfl ?_
  refine lv_aload_n hx hb dd_L_law_17 rfl (lv_at hl 1 rfl) ?_
  refine lv_iconst (v := 0) hx hb dd_L_law_18 rfl ?_
  refine xl_cell hJ (va_runS (As := [.ref b, .int 0]) (rest := [.ref qR, .ref qR]) ⟨hx, hb, hml, hown, hts⟩ (xc_L_cell l b L xs hL) ⟨callB_of 2 hts (xs_good hw_722) rfl rfl rfl (hts _ hw_0) (hts _ hw_720) yd_L_cell ⟨by decide, by decide⟩, (hts _ hw_721)⟩ ⟨cell_blind, fun U h1 h2 => ⟨rfl, by rw [h1]; exact (hX.kept (hJ.2.2.2.1 b hbl hbA)).moved h2.alike, by rw [h1]; exact Nat.lt_of_lt_of_le hbl hJ.2.2.1⟩⟩ rfl rfl hl.1 rfl (lv_room (Nat.le_of_ble_eq_true rfl)) dd_L_law_19 ⟨by decide, by decide⟩) (fun H locs hJ => ?_)
  refine xk_callV (X := fun u : (Nat → Nat) × xs_T => xs_w u.1 ca wkR u.2) hA hJ (va_runI (As := [.int (cellV L xs)]) (rest := [.ref qR]) ⟨hx, hb, hml, hown, hts⟩ (xn_R l D ca ad0 qR H.size (cellV L xs)) ⟨callB_of 1 hts (xs_good hw_727) rfl rfl rfl (hts _ hw_13) (hts _ hw_725) yd_R_init ⟨by decide, by decide⟩, rfl, (hts _ hw_726)⟩ ⟨xz_blind, fun U h1 h2 => ⟨rfl, xz_pre hKK hA hZ hJ h1 h2⟩⟩ rfl rfl hl.1 rfl (lv_room (Nat.le_of_ble_eq_true rfl)) dd_L_law_22 ⟨by decide, by decide⟩) (fun uR H locs eR hJ => ?_)
  refine lv_astore_n hx hb dd_L_law_25 rfl hl (by decide) rfl (fun ls hl => ?_)
  have hl : lv_has ls 4 [(2, .ref qR), (1, .ref qW), (0, .ref b)] := hl
  obtain ⟨f0, f1, f2, f3, f4⟩ := eW
  obtain ⟨r0, r1, r2, r3⟩ := eR
  rw [← mg_w f4] at hJ
  have hR := mg_rel f3 r3
  obtain ⟨ad, ead⟩ : ∃ ad, ad = mgA uW.1 uR.1 := ⟨_, rfl⟩
  have a0 : ad 0 = qW := by rw [ead]; exact f0
  have a200 : ad 200 = qR := by rw [ead]; exact r0
  have a171 : ad 171 = ad0 171 := by rw [ead]; exact f1
  have a172 : ad 172 = ad0 172 := by rw [ead]; exact f2
  rw [← ead] at hJ
  rw [← a0, ← a200] at hl
  generalize mgS uW.2 uR.2 = S at hJ hR
  have hw : xs_I D ad ca xs_all (fun q => s.heap.size ≤ q) s S _ _ := hJ
  have hK : xs_K D ad ca xs_all (fun q => s.heap.size ≤ q) s := ⟨xs_ok_all, hKK.1, hA, hKK.2.1, z_cg a171 a172 hZ⟩
  have w815 : ∀ (S : xs_T) (H : Heap) (locs : List Loc) (ls : Array Slot), xs_I D ad ca xs_all (fun q => s.heap.size ≤ q) s S H locs → W p l e room_1 s m #[Value.ref b] below meth c H locs 208 4475 (lw_Z below #[Value.ref b] s) (F0 m 815 ls []) := by
    intro S H locs ls hw
    refine lv_iconst (v := 1) hx hb dd_L_law_815 rfl ?_
    refine va_forget (fun q hq => hw.2.2.2.2 q hq) ?_
    refine W.widen (k := 600000) (n := 7302250) (by decide) (by decide) ?_
    exact lw_ret hx hb hr hlocks dd_L_law_816
  have w28 : ∀ (r n : Nat), n + r = 512 → ∀ (tm : Nat) (S : xs_T) (H : Heap) (locs : List Loc) (ls : Array Slot), Rel (Ky (cellV L xs)) n tm S S → xs_I D ad ca xs_all (fun q => s.heap.size ≤ q) s S H locs → lv_has ls 4 [(0, .ref b), (1, .ref (ad 0)), (2, .ref (ad 200)), (3, .int (nI (1 + 7 * n)))] → W p l e room_1 s m #[Value.ref b] below meth c H locs 208 4475 (lw_Z below #[Value.ref b] s) (F0 m 28 ls []) := by
    intro r
    induction r with
    | zero =>
      intro n hn tm S H locs ls hR hw hl
      refine lv_iload_n hx hb dd_L_law_28 rfl (lv_at hl 3 rfl) ?_
      refine lv_aload_n hx hb dd_L_law_29 rfl (lv_at hl 0 rfl) ?_
      refine va_slen hx hb hX hbl hbA hw.2.2 dd_L_law_30 ?_
      refine lv_bipush (v := 7) hx hb dd_L_law_31 rfl ?_
      refine lv_isub hx hb dd_L_law_33 ?_
      refine lv_icmp_gt hx hb dd_L_law_34 rfl (fun _ => w815 S H locs ls hw) (fun h => ?_)
      have := law_end (n := n) hL (by omega) h
      omega
    | succ r ih =>
      intro n hn tm S H locs ls hR hw hl
      refine lv_iload_n hx hb dd_L_law_28 rfl (lv_at hl 3 rfl) ?_
      refine lv_aload_n hx hb dd_L_law_29 rfl (lv_at hl 0 rfl) ?_
      refine va_slen hx hb hX hbl hbA hw.2.2 dd_L_law_30 ?_
      refine lv_bipush (v := 7) hx hb dd_L_law_31 rfl ?_
      refine lv_isub hx hb dd_L_law_33 ?_
      refine lv_icmp_gt hx hb dd_L_law_34 rfl (fun _ => w815 S H locs ls hw) (fun h => ?_)
      have hj := law_end (n := n) hL (by omega) h
      obtain ⟨j, ej⟩ : ∃ j, j = 1 + 7 * n := ⟨_, rfl⟩
      rw [← ej] at hl
      have hj : j + 6 < L := by omega
      have w809 : ∀ (S : xs_T) (H : Heap) (locs : List Loc) (ls : Array Slot) (tm : Nat), Rel (Ky (cellV L xs)) (n + 1) tm S S → xs_I D ad ca xs_all (fun q => s.heap.size ≤ q) s S H locs → lv_has ls 4 [(0, .ref b), (1, .ref (ad 0)), (2, .ref (ad 200)), (3, .int (nI j))] → W p l e room_1 s m #[Value.ref b] below meth c H locs 208 4475 (lw_Z below #[Value.ref b] s) (F0 m 809 ls []) := by
        intro S H locs ls tm hR hw hl
        refine lv_iinc (k := 3) (v := nI j + 7) hx hb dd_L_law_809 hl rfl rfl (by decide) rfl (fun ls hl => ?_)
        have hl : lv_has ls 4 [(3, .int (nI j + 7)), (0, .ref b), (1, .ref (ad 0)), (2, .ref (ad 200))] := hl
        rw [show nI j + 7 = nI (1 + 7 * (n + 1)) by rw [show nI j + 7 = nI (j + 7) from nI_add j 7]; exact congrArg nI (by omega)] at hl
        refine lv_goto hx hb dd_L_law_812 rfl ?_
        exact ih (n + 1) (by omega) tm S H locs ls hR hw (lv_sub hl [1, 2, 3, 0] rfl)
      refine lv_aload_n hx hb dd_L_law_37 rfl (lv_at hl 0 rfl) ?_
      refine lv_iload_n hx hb dd_L_law_38 rfl (lv_at hl 3 rfl) ?_
      refine xl_rd (j := j) (k := 0) hx hb hX hbl hbA hw.2.2 hL (by omega) rfl dd_L_law_39 ?_
      refine lv_bipush (v := 31) hx hb dd_L_law_40 rfl ?_
      refine lv_iand hx hb dd_L_law_42 ?_
      obtain ⟨y, hy, ey⟩ := and31 (xs (j + 0))
      rw [ey]
      by_cases h18 : y < 18
      rotate_left
      · refine lv_tableOut (tgt := 809) hx hb dd_L_law_43 (Or.inr (by rw [nI_toInt (by omega)]; omega)) rfl ?_
        exact w809 S H locs ls tm (Rel_fr hR (Nat.le_succ n) ag_rf ag_rf) hw hl
      · rcases (show y = 0 ∨ y = 1 ∨ y = 2 ∨ y = 3 ∨ y = 4 ∨ y = 5 ∨ y = 6 ∨ y = 7 ∨ y = 8 ∨ y = 9 ∨ y = 10 ∨ y = 11 ∨ y = 12 ∨ y = 13 ∨ y = 14 ∨ y = 15 ∨ y = 16 ∨ y = 17 by omega) with rfl | rfl | rfl | rfl | rfl | rfl | rfl | rfl | rfl | rfl | rfl | rfl | rfl | rfl | rfl | rfl | rfl | rfl
        · refine lv_tableIn (tgt := 128) (off := 85) hx hb dd_L_law_43 (by decide) (by decide) (by decide) rfl ?_
          exact law_c0 hx hb hml hown hts hX hbl hL hKK hK hj (by omega) hR hw hl w809
        · refine lv_tableIn (tgt := 151) (off := 108) hx hb dd_L_law_43 (by decide) (by decide) (by decide) rfl ?_
          exact law_c1 hx hb hml hown hts hX hbl hL hKK hK hj (by omega) hR hw hl w809
        · refine lv_tableIn (tgt := 278) (off := 235) hx hb dd_L_law_43 (by decide) (by decide) (by decide) rfl ?_
          exact law_c2 hx hb hml hown hts hX hbl hL hKK hK hj (by omega) hR hw hl w809
        · refine lv_tableIn (tgt := 311) (off := 268) hx hb dd_L_law_43 (by decide) (by decide) (by decide) rfl ?_
          exact law_c3 hx hb hml hown hts hX hbl hL hKK hK hj (by omega) hR hw hl w809
        · refine lv_tableIn (tgt := 384) (off := 341) hx hb dd_L_law_43 (by decide) (by decide) (by decide) rfl ?_
          exact law_c4 hx hb hml hown hts hX hbl hL hKK hK hj (by omega) hR hw hl w809
        · refine lv_tableIn (tgt := 407) (off := 364) hx hb dd_L_law_43 (by decide) (by decide) (by decide) rfl ?_
          exact law_c5 hx hb hml hown hts hX hbl hL hKK hK hj (by omega) hR hw hl w809
        · refine lv_tableIn (tgt := 440) (off := 397) hx hb dd_L_law_43 (by decide) (by decide) (by decide) rfl ?_
          exact law_c6 hx hb hml hown hts hX hbl hL hKK hK hj (by omega) hR hw hl w809
        · refine lv_tableIn (tgt := 463) (off := 420) hx hb dd_L_law_43 (by decide) (by decide) (by decide) rfl ?_
          exact law_c7 hx hb hml hown hts hX hbl hL hKK hK hj (by omega) hR hw hl w809
        · refine lv_tableIn (tgt := 486) (off := 443) hx hb dd_L_law_43 (by decide) (by decide) (by decide) rfl ?_
          exact law_c8 hx hb hml hown hts hX hbl hL hKK hK hj (by omega) hR hw hl w809
        · refine lv_tableIn (tgt := 509) (off := 466) hx hb dd_L_law_43 (by decide) (by decide) (by decide) rfl ?_
          exact law_c9 hx hb hml hown hts hX hbl hL hKK hK hj (by omega) hR hw hl w809
        · refine lv_tableIn (tgt := 552) (off := 509) hx hb dd_L_law_43 (by decide) (by decide) (by decide) rfl ?_
          exact law_c10 hx hb hml hown hts hX hbl hL hKK hK hj (by omega) hR hw hl w809
        · refine lv_tableIn (tgt := 565) (off := 522) hx hb dd_L_law_43 (by decide) (by decide) (by decide) rfl ?_
          exact law_c11 hx hb hml hown hts hX hbl hL hKK hK hj (by omega) hR hw hl w809
        · refine lv_tableIn (tgt := 588) (off := 545) hx hb dd_L_law_43 (by decide) (by decide) (by decide) rfl ?_
          exact law_c12 hx hb hml hown hts hX hbl hL hKK hK hj (by omega) hR hw hl w809
        · refine lv_tableIn (tgt := 621) (off := 578) hx hb dd_L_law_43 (by decide) (by decide) (by decide) rfl ?_
          exact law_c13 hx hb hml hown hts hX hbl hL hKK hK hj (by omega) hR hw hl w809
        · refine lv_tableIn (tgt := 644) (off := 601) hx hb dd_L_law_43 (by decide) (by decide) (by decide) rfl ?_
          exact law_c14 hx hb hml hown hts hX hbl hL hKK hK hj (by omega) hR hw hl w809
        · refine lv_tableIn (tgt := 667) (off := 624) hx hb dd_L_law_43 (by decide) (by decide) (by decide) rfl ?_
          exact law_c15 hx hb hml hown hts hX hbl hL hKK hK hj (by omega) hR hw hl w809
        · refine lv_tableIn (tgt := 716) (off := 673) hx hb dd_L_law_43 (by decide) (by decide) (by decide) rfl ?_
          exact law_c16 hx hb hml hown hts hX hbl hL hKK hK hj (by omega) hR hw hl w809
        · refine lv_tableIn (tgt := 776) (off := 733) hx hb dd_L_law_43 (by decide) (by decide) (by decide) rfl ?_
          exact law_c17 hx hb hml hown hts hX hbl hL hKK hK hj (by omega) hR hw hl w809
  refine lv_iconst (v := 1) hx hb dd_L_law_26 rfl ?_
  refine lv_istore_n hx hb dd_L_law_27 rfl hl (by decide) rfl (fun ls hl => ?_)
  have hl : lv_has ls 4 [(3, .int 1), (2, .ref (ad 200)), (1, .ref (ad 0)), (0, .ref b)] := hl
  exact w28 512 0 rfl 0 S _ _ _ hR hw (lv_sub hl [3, 2, 1, 0] rfl)
