/-! the reference's boxes -/
def bxI : Nat → Int32 → Int32 → Int32 → Option Int32
  | 0, _, _, _ => none
  | f + 1, i3, i4, i5 => if i5 ≤ 0 then some i3 else if (i5 &&& 1) = 1 then (xf_R_times i3 i4).bind fun q9 => (xf_R_times i4 i4).bind fun q7 => bxI f q9 q7 (i5 >>> ((1 : Int32) &&& 31)) else (xf_R_times i4 i4).bind fun q7 => bxI f i3 q7 (i5 >>> ((1 : Int32) &&& 31))
def enI : Nat → Int32 → Int32 → Int32 → Option Int32
  | 0, _, _, _ => none
  | f + 1, n2, i3, i4 => if 5 ≤ i4 then some i3 else enI f n2 (i3 ^^^ (((n2 <<< ((i4 : Int32) &&& 31) : Int32) ||| (n2 >>> (((8 - i4) : Int32) &&& 31) : Int32)) &&& 255)) (i4 + 1)
theorem b_in {k : Nat} {c4 : Int32 → Int32 → xs_T → Option xs_T} : ∀ f i1 i2 i3 i4 i5 S, xf_R_boxes_21 k c4 f i1 i2 i3 i4 i5 S = (bxI f i3 i4 i5).bind fun y => (xf_R_enter k i1 y S).bind fun q4 => (xf_R_twice i1).bind fun q5 => c4 (i1 ^^^ q5) (i2 + 1) q4 := by
  intro f
  induction f with
  | zero => intro i1 i2 i3 i4 i5 S; rfl
  | succ f ih =>
    intro i1 i2 i3 i4 i5 S
    rw [xf_R_boxes_21, bxI]
    by_cases h : i5 ≤ 0
    · rw [if_pos h, if_pos h, Option.bind_some]
    · rw [if_neg h, if_neg h]
      by_cases h1 : (i5 &&& 1) = 1
      · rw [if_pos h1, if_pos h1]
        cases xf_R_times i3 i4 with
        | none => rfl
        | some q9 =>
          simp only [Option.bind_some, xf_R_boxes_44]
          cases xf_R_times i4 i4 with
          | none => rfl
          | some q7 =>
            simp only [Option.bind_some]
            exact ih i1 i2 q9 q7 _ S
      · rw [if_neg h1, if_neg h1]
        simp only [Option.bind_some, xf_R_boxes_44]
        cases xf_R_times i4 i4 with
        | none => rfl
        | some q7 =>
          simp only [Option.bind_some]
          exact ih i1 i2 i3 q7 _ S
theorem b_en {k : Nat} : ∀ f n1 n2 i3 i4 S, xf_R_enter_6 k n1 n2 f i3 i4 S = (enI f n2 i3 i4).bind fun s => (xs_wr S (k + 1) n1 s).bind fun S2 => (xs_wr S2 (k + 2) s n1).bind fun S3 => some S3 := by
  intro f
  induction f with
  | zero => intro n1 n2 i3 i4 S; rfl
  | succ f ih =>
    intro n1 n2 i3 i4 S
    rw [xf_R_enter_6, enI]
    by_cases h : 5 ≤ i4
    · rw [if_pos h, if_pos h, Option.bind_some]
    · rw [if_neg h, if_neg h, Option.bind_some]
      exact ih n1 n2 _ _ S
theorem b_all : ∀ a, a < 256 → 1 ≤ a → (bxI 1000 1 (nI a) 254).bind (fun y => enI 1000 y 99 0) = some (nI (yS 171 a)) := by decide +kernel
theorem b_zero : enI 1000 0 99 0 = some (nI (yS 171 0)) := by decide +kernel
theorem b_inv : ∀ a, a < 256 → yS 172 (yS 171 a) = a ∧ yS 171 (yS 172 a) = a := by decide +kernel
theorem b_ent {a : Nat} {y : Int32} {S : xs_T} (ha : a < 256) (h : enI 1000 y 99 0 = some (nI (yS 171 a))) : xf_R_enter 200 (nI a) y S = some (xs_sI (xs_sI S 201 a (nI (yS 171 a))) 202 (yS 171 a) (nI a)) := by
  unfold xf_R_enter
  rw [b_en, show xs_fuel = 1000 from rfl, h, Option.bind_some, x_wr (k := 200 + 1) (show a < 256 from ha), Option.bind_some, x_wr (k := 200 + 2) (show yS 171 a < 256 from (y_S171 a ha).2), Option.bind_some]
theorem b_step {a i : Nat} {S : xs_T} (ha : 1 ≤ a) (ha2 : a < 256) (hi : i < 255) (f : Nat) : xf_R_boxes_4 200 (f + 1) (nI a) (nI i) S = xf_R_boxes_4 200 f (nI (a ^^^ yTw a)) (nI (i + 1)) (xs_sI (xs_sI S 201 a (nI (yS 171 a))) 202 (yS 171 a) (nI a)) := by
  obtain ⟨y, e1, e2⟩ := xs_ob (b_all a ha2 ha)
  rw [xf_R_boxes_4, if_neg (show ¬ (255 : Int32) ≤ nI i from nI_ge (b := 255) hi (by decide)), b_in, show xs_fuel = 1000 from rfl, e1, Option.bind_some, b_ent ha2 e2, Option.bind_some, x_twice a ha2, Option.bind_some, n_xor, nI_1]
def gT : List Nat := [1, 3, 5, 15, 17, 51, 85, 255, 26, 46, 114, 150, 161, 248, 19, 53, 95, 225, 56, 72, 216, 115, 149, 164, 247, 2, 6, 10, 30, 34, 102, 170, 229, 52, 92, 228, 55, 89, 235, 38, 106, 190, 217, 112, 144, 171, 230, 49, 83, 245, 4, 12, 20, 60, 68, 204, 79, 209, 104, 184, 211, 110, 178, 205, 76, 212, 103, 169, 224, 59, 77, 215, 98, 166, 241, 8, 24, 40, 120, 136, 131, 158, 185, 208, 107, 189, 220, 127, 129, 152, 179, 206, 73, 219, 118, 154, 181, 196, 87, 249, 16, 48, 80, 240, 11, 29, 39, 105, 187, 214, 97, 163, 254, 25, 43, 125, 135, 146, 173, 236, 47, 113, 147, 174, 233, 32, 96, 160, 251, 22, 58, 78, 210, 109, 183, 194, 93, 231, 50, 86, 250, 21, 63, 65, 195, 94, 226, 61, 71, 201, 64, 192, 91, 237, 44, 116, 156, 191, 218, 117, 159, 186, 213, 100, 172, 239, 42, 126, 130, 157, 188, 223, 122, 142, 137, 128, 155, 182, 193, 88, 232, 35, 101, 175, 234, 37, 111, 177, 200, 67, 197, 84, 252, 31, 33, 99, 165, 244, 7, 9, 27, 45, 119, 153, 176, 203, 70, 202, 69, 207, 74, 222, 121, 139, 134, 145, 168, 227, 62, 66, 198, 81, 243, 14, 18, 54, 90, 238, 41, 123, 141, 140, 143, 138, 133, 148, 167, 242, 13, 23, 57, 75, 221, 124, 132, 151, 162, 253, 28, 36, 108, 180, 199, 82, 246, 1]
def gL : List Nat := [0, 0, 25, 1, 50, 2, 26, 198, 75, 199, 27, 104, 51, 238, 223, 3, 100, 4, 224, 14, 52, 141, 129, 239, 76, 113, 8, 200, 248, 105, 28, 193, 125, 194, 29, 181, 249, 185, 39, 106, 77, 228, 166, 114, 154, 201, 9, 120, 101, 47, 138, 5, 33, 15, 225, 36, 18, 240, 130, 69, 53, 147, 218, 142, 150, 143, 219, 189, 54, 208, 206, 148, 19, 92, 210, 241, 64, 70, 131, 56, 102, 221, 253, 48, 191, 6, 139, 98, 179, 37, 226, 152, 34, 136, 145, 16, 126, 110, 72, 195, 163, 182, 30, 66, 58, 107, 40, 84, 250, 133, 61, 186, 43, 121, 10, 21, 155, 159, 94, 202, 78, 212, 172, 229, 243, 115, 167, 87, 175, 88, 168, 80, 244, 234, 214, 116, 79, 174, 233, 213, 231, 230, 173, 232, 44, 215, 117, 122, 235, 22, 11, 245, 89, 203, 95, 176, 156, 169, 81, 160, 127, 12, 246, 111, 23, 196, 73, 236, 216, 67, 31, 45, 164, 118, 123, 183, 204, 187, 62, 90, 251, 96, 177, 134, 59, 82, 161, 108, 170, 85, 41, 157, 151, 178, 135, 144, 97, 190, 220, 252, 188, 149, 207, 205, 55, 63, 91, 209, 83, 57, 132, 60, 65, 162, 109, 71, 20, 42, 158, 93, 86, 242, 211, 171, 68, 17, 146, 217, 35, 32, 46, 137, 180, 124, 184, 38, 119, 153, 227, 165, 103, 74, 237, 222, 197, 49, 254, 24, 13, 99, 140, 128, 192, 247, 112, 7]
theorem g_0 : gT.getD 0 0 = 1 := by decide
theorem g_s : ∀ i, i < 255 → 1 ≤ gT.getD i 0 ∧ gT.getD i 0 < 256 ∧ gT.getD i 0 ^^^ yTw (gT.getD i 0) = gT.getD (i + 1) 0 := by decide +kernel
theorem g_l : ∀ a, a < 256 → 1 ≤ a → gL.getD a 0 < 255 ∧ gT.getD (gL.getD a 0) 0 = a := by decide +kernel
def bxP (i : Nat) (T : xs_T) : Prop := ∀ j, j < i → T.1 201 (gT.getD j 0) = nI (yS 171 (gT.getD j 0)) ∧ T.1 202 (yS 171 (gT.getD j 0)) = nI (gT.getD j 0)
theorem b_put {a b : Nat} {T : xs_T} (ha : a < 256) (hb : b < 256) (h : b = a ∨ T.1 201 b = nI (yS 171 b) ∧ T.1 202 (yS 171 b) = nI b) : (xs_sI (xs_sI T 201 a (nI (yS 171 a))) 202 (yS 171 a) (nI a)).1 201 b = nI (yS 171 b) ∧ (xs_sI (xs_sI T 201 a (nI (yS 171 a))) 202 (yS 171 a) (nI a)).1 202 (yS 171 b) = nI b := by
  by_cases e : b = a
  · subst e
    refine ⟨?_, x_fI⟩
    rw [x_fP (by decide)]
    exact x_fI
  · have h := h.resolve_left e
    have e2 : yS 171 b ≠ yS 171 a := fun e3 => e (by rw [← (b_inv b hb).1, e3, (b_inv a ha).1])
    refine ⟨?_, ?_⟩
    · rw [x_fP (by decide), x_fN e]
      exact h.1
    · rw [x_fN e2, x_fP (by decide)]
      exact h.2
theorem b_loop : ∀ r i f (T : xs_T), i + r = 255 → bxP i T → ∃ T2, xf_R_boxes_4 200 (r + 1 + f) (nI (gT.getD i 0)) (nI i) T = some T2 ∧ xs_bx T2 ∧ xs_eq [201, 202] T T2 := by
  intro r
  induction r with
  | zero =>
    intro i f T hi hP
    have hi : i = 255 := by omega
    subst hi
    refine ⟨xs_sI (xs_sI T 201 0 (nI (yS 171 0))) 202 (yS 171 0) (nI 0), ?_, fun a ha => ?_, e_tr (e_sI (by decide)) (e_sI (by decide))⟩
    · rw [show 0 + 1 + f = f + 1 by omega, xf_R_boxes_4, if_pos (show (255 : Int32) ≤ nI 255 by decide), show xf_R_enter 200 0 0 T = _ from b_ent (a := 0) (by decide) b_zero, Option.bind_some]
    · have key : ∀ b, b < 256 → b = 0 ∨ T.1 201 b = nI (yS 171 b) ∧ T.1 202 (yS 171 b) = nI b := fun b hb => by
        by_cases h0 : b = 0
        · exact Or.inl h0
        · obtain ⟨k1, k2⟩ := g_l b hb (by omega)
          have := hP _ k1
          rw [k2] at this
          exact Or.inr this
      have hs := (y_S172 a ha).2
      have k2 := (b_put (by decide) hs (key _ hs)).2
      rw [(b_inv a ha).2] at k2
      exact ⟨(b_put (by decide) ha (key a ha)).1, k2⟩
  | succ r ih =>
    intro i f T hi hP
    obtain ⟨g1, g2, g3⟩ := g_s i (by omega)
    obtain ⟨T2, e1, e2, e3⟩ := ih (i + 1) f (xs_sI (xs_sI T 201 (gT.getD i 0) (nI (yS 171 (gT.getD i 0)))) 202 (yS 171 (gT.getD i 0)) (nI (gT.getD i 0))) (by omega) (fun j hj => by
      refine b_put g2 (g_s j (by omega)).2.1 ?_
      by_cases e : j = i
      · exact Or.inl (by rw [e])
      · exact Or.inr (hP j (by omega)))
    refine ⟨T2, ?_, e2, e_tr (e_tr (e_sI (by decide)) (e_sI (by decide))) e3⟩
    rw [show r + 1 + 1 + f = r + 1 + f + 1 by omega, b_step g1 g2 (by omega), g3]
    exact e1
theorem r_boxes (S : xs_T) : ∃ T, xf_R_boxes 200 S = some T ∧ xs_bx T ∧ xs_eq [201, 202] S T := by
  obtain ⟨T, e1, e2, e3⟩ := b_loop 255 0 744 S rfl (fun j hj => absurd hj (Nat.not_lt_zero _))
  exact ⟨T, e1, e2, e3⟩
