/-! The state of both sides as numbers: (ints of a place, longs of a place, places that a place's row of references leads to). -/
abbrev xs_T : Type := (Nat → Nat → Int32) × (Nat → Nat → Int64) × (Nat → Nat → Nat)
abbrev xs_gI (S : xs_T) (k j : Nat) : Int32 := S.1 k j
def xs_sI (S : xs_T) (k j : Nat) (v : Int32) : xs_T := (va_up S.1 k (upd (S.1 k) j v), S.2)
def xs_sL (S : xs_T) (k j : Nat) (v : Int64) : xs_T := (S.1, va_up S.2.1 k (vp_updL (S.2.1 k) j v), S.2.2)
def xs_sU (S : xs_T) (k j u : Nat) : xs_T := (S.1, S.2.1, va_up S.2.2 k (va_up (S.2.2 k) j u))
def xs_kinds : List Nat := [0, 1, 53, 53, 2, 50, 2, 50, 2, 50, 2, 50, 2, 50, 2, 50, 2, 50, 2, 50, 2, 50, 2, 50, 2, 50, 2, 50, 2, 50, 2, 50, 2, 50, 2, 50, 2, 50, 2, 50, 2, 50, 2, 50, 54, 99, 50, 4, 3, 50, 50, 50, 50, 7, 5, 4, 3, 50, 50, 50, 50, 3, 50, 50, 50, 6, 52, 2, 50, 2, 50, 4, 3, 50, 50, 50, 50, 7, 5, 4, 3, 50, 50, 50, 50, 3, 50, 50, 50, 6, 52, 2, 50, 2, 50, 4, 3, 50, 50, 50, 50, 7, 5, 4, 3, 50, 50, 50, 50, 3, 50, 50, 50, 6, 52, 2, 50, 2, 50, 9, 55, 2, 50, 8, 5, 4, 3, 50, 50, 50, 50, 3, 50, 50, 50, 6, 52, 52, 50, 8, 5, 4, 3, 50, 50, 50, 50, 3, 50, 50, 50, 6, 52, 52, 50, 8, 5, 4, 3, 50, 50, 50, 50, 3, 50, 50, 50, 6, 52, 52, 50, 60, 60, 99, 99, 99, 99, 99, 99, 99, 99, 99, 99, 99, 99, 99, 99, 99, 99, 99, 99, 99, 99, 99, 99, 99, 99, 99, 99, 99, 10, 50, 50, 50, 50, 50, 50, 50, 50, 50, 50, 50, 50, 51, 50, 50, 50, 50, 50, 50, 50, 50, 50, 50, 50, 50, 50, 50, 50, 51, 51, 52, 50, 50, 50, 52, 50]
def xs_lens : List Nat := [0, 0, 12, 8, 0, 24, 0, 24, 0, 24, 0, 24, 0, 24, 0, 24, 0, 24, 0, 24, 0, 24, 0, 24, 0, 24, 0, 24, 0, 24, 0, 24, 0, 24, 0, 24, 0, 24, 0, 24, 0, 24, 0, 24, 3, 0, 16, 0, 0, 44, 16, 16, 16, 0, 0, 0, 0, 44, 16, 16, 16, 0, 44, 40, 16, 0, 4, 0, 24, 0, 24, 0, 0, 44, 16, 16, 16, 0, 0, 0, 0, 44, 16, 16, 16, 0, 44, 40, 16, 0, 4, 0, 24, 0, 24, 0, 0, 44, 16, 16, 16, 0, 0, 0, 0, 44, 16, 16, 16, 0, 44, 40, 16, 0, 4, 0, 24, 0, 24, 0, 3, 0, 24, 0, 0, 0, 0, 44, 16, 16, 16, 0, 44, 40, 16, 0, 4, 4, 4, 0, 0, 0, 0, 44, 16, 16, 16, 0, 44, 40, 16, 0, 4, 4, 4, 0, 0, 0, 0, 44, 16, 16, 16, 0, 44, 40, 16, 0, 4, 4, 4, 256, 256, 0, 0, 0, 0, 0, 0, 0, 0, 0, 0, 0, 0, 0, 0, 0, 0, 0, 0, 0, 0, 0, 0, 0, 0, 0, 0, 0, 0, 256, 256, 176, 16, 16, 16, 240, 64, 768, 24, 24, 3, 3, 3, 3, 3, 3, 3, 3, 3, 3, 3, 3, 3, 3, 3, 3, 3, 3, 3, 12, 12, 3, 6, 24, 9]
def xs_refL : List (List Nat) := [[1, 44, 119], [2, 3], [], [], [5], [], [7], [], [9], [], [11], [], [13], [], [15], [], [17], [], [19], [], [21], [], [23], [], [25], [], [27], [], [29], [], [31], [], [33], [], [35], [], [37], [], [39], [], [41], [], [43], [], [], [], [], [48, 50, 51, 52], [49], [], [], [], [], [47, 54, 65, 67, 69], [55, 61, 63, 64], [56, 58, 59, 60], [57], [], [], [], [], [62], [], [], [], [66], [], [68], [], [70], [], [72, 74, 75, 76], [73], [], [], [], [], [71, 78, 89, 91, 93], [79, 85, 87, 88], [80, 82, 83, 84], [81], [], [], [], [], [86], [], [], [], [90], [], [92], [], [94], [], [96, 98, 99, 100], [97], [], [], [], [], [95, 102, 113, 115, 117], [103, 109, 111, 112], [104, 106, 107, 108], [105], [], [], [], [], [110], [], [], [], [114], [], [116], [], [118], [], [120, 121], [], [122], [], [47, 124, 135, 137, 138], [125, 131, 133, 134], [126, 128, 129, 130], [127], [], [], [], [], [132], [], [], [], [136], [], [], [], [71, 140, 151, 153, 154], [141, 147, 149, 150], [142, 144, 145, 146], [143], [], [], [], [], [148], [], [], [], [152], [], [], [], [95, 156, 167, 169, 170], [157, 163, 165, 166], [158, 160, 161, 162], [159], [], [], [], [], [164], [], [], [], [168], [], [], [], [], [], [], [], [], [], [], [], [], [], [], [], [], [], [], [], [], [], [], [], [], [], [], [], [], [], [], [], [], [201, 202, 203, 204, 205, 206, 207, 208, 209, 210, 211, 212, 213, 214, 215, 216, 217, 218, 219, 220, 221, 222, 223, 224, 225, 226, 227, 228, 229, 230, 231, 232, 233, 234, 235, 236], [], [], [], [], [], [], [], [], [], [], [], [], [], [], [], [], [], [], [], [], [], [], [], [], [], [], [], [], [], [], [], [], [], [], [], []]
def xs_kd (k : Nat) : Nat := xs_kinds.getD k 99
def xs_ln (k : Nat) : Nat := xs_lens.getD k 0
def xs_refs (k : Nat) : List Nat := xs_refL.getD k []
def xs_rt (k : Nat) : Nat := 47 + 24 * ((k - 123) / 16)
def xs_all : List Nat := [0, 1, 2, 3, 4, 5, 6, 7, 8, 9, 10, 11, 12, 13, 14, 15, 16, 17, 18, 19, 20, 21, 22, 23, 24, 25, 26, 27, 28, 29, 30, 31, 32, 33, 34, 35, 36, 37, 38, 39, 40, 41, 42, 43, 44, 46, 47, 48, 49, 50, 51, 52, 53, 54, 55, 56, 57, 58, 59, 60, 61, 62, 63, 64, 65, 66, 67, 68, 69, 70, 71, 72, 73, 74, 75, 76, 77, 78, 79, 80, 81, 82, 83, 84, 85, 86, 87, 88, 89, 90, 91, 92, 93, 94, 95, 96, 97, 98, 99, 100, 101, 102, 103, 104, 105, 106, 107, 108, 109, 110, 111, 112, 113, 114, 115, 116, 117, 118, 119, 120, 121, 122, 123, 124, 125, 126, 127, 128, 129, 130, 131, 132, 133, 134, 135, 136, 137, 138, 139, 140, 141, 142, 143, 144, 145, 146, 147, 148, 149, 150, 151, 152, 153, 154, 155, 156, 157, 158, 159, 160, 161, 162, 163, 164, 165, 166, 167, 168, 169, 170, 200, 201, 202, 203, 204, 205, 206, 207, 208, 209, 210, 211, 212, 213, 214, 215, 216, 217, 218, 219, 220, 221, 222, 223, 224, 225, 226, 227, 228, 229, 230, 231, 232, 233, 234, 235, 236]
abbrev xs_cW : Nat := 0
abbrev xs_cA : Nat := 1
abbrev xs_cF : Nat := 2
abbrev xs_cC : Nat := 3
abbrev xs_cM : Nat := 4
abbrev xs_cS : Nat := 5
abbrev xs_cI : Nat := 6
abbrev xs_cD : Nat := 7
abbrev xs_cK : Nat := 8
abbrev xs_cV : Nat := 9
abbrev xs_cR : Nat := 10
def xs_sub : List Int32 := [99, 124, 119, 123, 242, 107, 111, 197, 48, 1, 103, 43, 254, 215, 171, 118, 202, 130, 201, 125, 250, 89, 71, 240, 173, 212, 162, 175, 156, 164, 114, 192, 183, 253, 147, 38, 54, 63, 247, 204, 52, 165, 229, 241, 113, 216, 49, 21, 4, 199, 35, 195, 24, 150, 5, 154, 7, 18, 128, 226, 235, 39, 178, 117, 9, 131, 44, 26, 27, 110, 90, 160, 82, 59, 214, 179, 41, 227, 47, 132, 83, 209, 0, 237, 32, 252, 177, 91, 106, 203, 190, 57, 74, 76, 88, 207, 208, 239, 170, 251, 67, 77, 51, 133, 69, 249, 2, 127, 80, 60, 159, 168, 81, 163, 64, 143, 146, 157, 56, 245, 188, 182, 218, 33, 16, 255, 243, 210, 205, 12, 19, 236, 95, 151, 68, 23, 196, 167, 126, 61, 100, 93, 25, 115, 96, 129, 79, 220, 34, 42, 144, 136, 70, 238, 184, 20, 222, 94, 11, 219, 224, 50, 58, 10, 73, 6, 36, 92, 194, 211, 172, 98, 145, 149, 228, 121, 231, 200, 55, 109, 141, 213, 78, 169, 108, 86, 244, 234, 101, 122, 174, 8, 186, 120, 37, 46, 28, 166, 180, 198, 232, 221, 116, 31, 75, 189, 139, 138, 112, 62, 181, 102, 72, 3, 246, 14, 97, 53, 87, 185, 134, 193, 29, 158, 225, 248, 152, 17, 105, 217, 142, 148, 155, 30, 135, 233, 206, 85, 40, 223, 140, 161, 137, 13, 191, 230, 66, 104, 65, 153, 45, 15, 176, 84, 187, 22]
def xs_org : List Int32 := [82, 9, 106, 213, 48, 54, 165, 56, 191, 64, 163, 158, 129, 243, 215, 251, 124, 227, 57, 130, 155, 47, 255, 135, 52, 142, 67, 68, 196, 222, 233, 203, 84, 123, 148, 50, 166, 194, 35, 61, 238, 76, 149, 11, 66, 250, 195, 78, 8, 46, 161, 102, 40, 217, 36, 178, 118, 91, 162, 73, 109, 139, 209, 37, 114, 248, 246, 100, 134, 104, 152, 22, 212, 164, 92, 204, 93, 101, 182, 146, 108, 112, 72, 80, 253, 237, 185, 218, 94, 21, 70, 87, 167, 141, 157, 132, 144, 216, 171, 0, 140, 188, 211, 10, 247, 228, 88, 5, 184, 179, 69, 6, 208, 44, 30, 143, 202, 63, 15, 2, 193, 175, 189, 3, 1, 19, 138, 107, 58, 145, 17, 65, 79, 103, 220, 234, 151, 242, 207, 206, 240, 180, 230, 115, 150, 172, 116, 34, 231, 173, 53, 133, 226, 249, 55, 232, 28, 117, 223, 110, 71, 241, 26, 113, 29, 41, 197, 137, 111, 183, 98, 14, 170, 24, 190, 27, 252, 86, 62, 75, 198, 210, 121, 32, 154, 219, 192, 254, 120, 205, 90, 244, 31, 221, 168, 51, 136, 7, 199, 49, 177, 18, 16, 89, 39, 128, 236, 95, 96, 81, 127, 169, 25, 181, 74, 13, 45, 229, 122, 159, 147, 201, 156, 239, 160, 224, 59, 77, 174, 42, 245, 176, 200, 235, 187, 60, 131, 83, 153, 97, 23, 43, 4, 126, 186, 119, 214, 38, 225, 105, 20, 99, 85, 33, 12, 125]
def xs_tb (k j : Nat) : Int32 := if k = 171 then xs_sub.getD j 0 else xs_org.getD j 0
def xs_fuel : Nat := 1000
def xs_rd (S : xs_T) (k : Nat) (i : Int32) : Option Int32 := if i < 0 ∨ xs_ln k ≤ i.toNatClampNeg then none else some (S.1 k i.toNatClampNeg)
def xs_rdL (S : xs_T) (k : Nat) (i : Int32) : Option Int64 := if i < 0 ∨ xs_ln k ≤ i.toNatClampNeg then none else some (S.2.1 k i.toNatClampNeg)
def xs_rdT (k : Nat) (i : Int32) : Option Int32 := if i < 0 ∨ 256 ≤ i.toNatClampNeg then none else some (xs_tb k i.toNatClampNeg)
def xs_ckU (u c : Nat) : Option Nat := if xs_kd u = c then some u else none
def xs_rdU (S : xs_T) (k : Nat) (i : Int32) (c : Nat) : Option Nat := if i < 0 ∨ xs_ln k ≤ i.toNatClampNeg then none else xs_ckU (S.2.2 k i.toNatClampNeg) c
def xs_wr (S : xs_T) (k : Nat) (i v : Int32) : Option xs_T := if i < 0 ∨ xs_ln k ≤ i.toNatClampNeg then none else some (xs_sI S k i.toNatClampNeg v)
def xs_sZ (S : xs_T) (k j : Nat) (v : Int32) : Option xs_T := if v = 0 ∨ v = 1 then some (xs_sI S k j v) else none
def xs_wrZ (S : xs_T) (k : Nat) (i v : Int32) : Option xs_T := if i < 0 ∨ xs_ln k ≤ i.toNatClampNeg then none else xs_sZ S k i.toNatClampNeg v
def xs_wrL (S : xs_T) (k : Nat) (i : Int32) (v : Int64) : Option xs_T := if i < 0 ∨ xs_ln k ≤ i.toNatClampNeg then none else some (xs_sL S k i.toNatClampNeg v)
def xs_wrU (S : xs_T) (k : Nat) (i : Int32) (u : Nat) : Option xs_T := if i < 0 ∨ xs_ln k ≤ i.toNatClampNeg then none else some (xs_sU S k i.toNatClampNeg u)
def xs_cpy (S : xs_T) (k : Nat) (sp : Int32) (k2 : Nat) (dp n : Int32) : Option xs_T :=
  if sp < 0 ∨ dp < 0 ∨ n < 0 ∨ xs_ln k < sp.toNatClampNeg + n.toNatClampNeg ∨ xs_ln k2 < dp.toNatClampNeg + n.toNatClampNeg then none
  else some (va_up S.1 k2 (va_cpy (S.1 k) (S.1 k2) sp.toNatClampNeg dp.toNatClampNeg n.toNatClampNeg), S.2)
def xs_rz (v : Int32) (S : xs_T) : Option (Int32 × xs_T) := if v = 0 ∨ v = 1 then some (v, S) else none
def xs_rb (v : Int32) : Option Int32 := if v = 0 ∨ v = 1 then some v else none
abbrev xs_ush (x y : Int32) : Int32 := (x.toUInt32 >>> (y.toUInt32 &&& Int32.toUInt32 31)).toInt32
def xs_max (x y : Int32) : Int32 := if x < y then y else x
def xs_min (x y : Int32) : Int32 := if y < x then y else x
abbrev xs_rem (x y : Int32) : Int32 := x - x / y * y
abbrev xs_lshl (x : Int64) (y : Int32) : Int64 := x <<< (y.toInt64 &&& 63)
abbrev xs_lshr (x : Int64) (y : Int32) : Int64 := x >>> (y.toInt64 &&& 63)
abbrev xs_lush (x : Int64) (y : Int32) : Int64 := (x.toUInt64 >>> (y.toInt64.toUInt64 &&& Int64.toUInt64 63)).toInt64
theorem xs_ob {α β : Type} {o : Option α} {f : α → Option β} {b : β} (h : o.bind f = some b) : ∃ a, o = some a ∧ f a = some b := by
  cases o with
  | none => cases h
  | some a => exact ⟨a, rfl, h⟩
theorem xs_p {c : Prop} [Decidable c] {α : Type} {a b x : α} (hc : c) (h : (if c then a else b) = x) : a = x := by rwa [if_pos hc] at h
theorem xs_n {c : Prop} [Decidable c] {α : Type} {a b x : α} (hc : ¬ c) (h : (if c then a else b) = x) : b = x := by rwa [if_neg hc] at h
def xs_fs_W (ad : Nat → Nat) (k : Nat) (f : Nat → Int32) : List Value := [.ref (ad (k + 1)), .ref (ad (k + 44)), .ref (ad (k + 119)), .int (f 3)]
def xs_fs_A (ad : Nat → Nat) (k : Nat) (f : Nat → Int32) : List Value := [.ref (ad (k + 1)), .ref (ad (k + 2)), .int (f 2), .int (f 3)]
def xs_fs_F (ad : Nat → Nat) (k : Nat) (f : Nat → Int32) : List Value := [.ref (ad (k + 1)), .int (f 1), .int (f 2)]
def xs_fs_C (ad : Nat → Nat) (k : Nat) (f : Nat → Int32) : List Value := [.ref (ad (k + 1))]
def xs_fs_M (ad : Nat → Nat) (k : Nat) (f : Nat → Int32) : List Value := [.ref (ad (k + 1)), .ref (ad (k + 3)), .ref (ad (k + 4)), .ref (ad (k + 5))]
def xs_fs_S (ad : Nat → Nat) (k : Nat) (f : Nat → Int32) : List Value := [.ref (ad (k + 1)), .ref (ad (k + 7)), .ref (ad (k + 9)), .ref (ad (k + 10)), .int (f 4)]
def xs_fs_I (ad : Nat → Nat) (k : Nat) (f : Nat → Int32) : List Value := [.ref (ad (k + 1)), .int (f 1)]
def xs_fs_D (ad : Nat → Nat) (k : Nat) (f : Nat → Int32) : List Value := [.int (f 0), .ref (ad (k - 6)), .ref (ad (k + 1)), .ref (ad (k + 12)), .ref (ad (k + 14)), .ref (ad (k + 16)), .int (f 6), .int (f 7), .int (f 8), .int (f 9), .int (f 10), .int (f 11), .int (f 12), .int (f 13), .int (f 14), .int (f 15), .int (f 16), .int (f 17)]
def xs_fs_K (ad : Nat → Nat) (k : Nat) (f : Nat → Int32) : List Value := [.int (f 0), .ref (ad (xs_rt k)), .ref (ad (k + 1)), .ref (ad (k + 12)), .ref (ad (k + 14)), .ref (ad (k + 15)), .int (f 6), .int (f 7), .int (f 8), .int (f 9), .int (f 10), .int (f 11), .int (f 12), .int (f 13), .int (f 14), .int (f 15)]
def xs_fs_V (ad : Nat → Nat) (k : Nat) (f : Nat → Int32) : List Value := [.ref (ad (k + 1)), .ref (ad (k + 2)), .int (f 2)]
def xs_fs_R (ad : Nat → Nat) (k : Nat) (f : Nat → Int32) : List Value := [.ref (ad (k + 1)), .ref (ad (k + 2)), .ref (ad (k + 3)), .ref (ad (k + 4)), .ref (ad (k + 5)), .ref (ad (k + 6)), .ref (ad (k + 7)), .ref (ad (k + 8)), .int (f 8), .ref (ad (k + 9)), .ref (ad (k + 10)), .ref (ad (k + 11)), .int (f 12), .int (f 13), .ref (ad (k + 12)), .ref (ad (k + 13)), .ref (ad (k + 14)), .ref (ad (k + 15)), .ref (ad (k + 16)), .ref (ad (k + 17)), .ref (ad (k + 18)), .ref (ad (k + 19)), .ref (ad (k + 20)), .int (f 23), .ref (ad (k + 21)), .ref (ad (k + 22)), .ref (ad (k + 23)), .ref (ad (k + 24)), .ref (ad (k + 25)), .ref (ad (k + 26)), .ref (ad (k + 27)), .ref (ad (k + 28)), .ref (ad (k + 29)), .ref (ad (k + 30)), .ref (ad (k + 31)), .ref (ad (k + 32)), .ref (ad (k + 33)), .ref (ad (k + 34)), .ref (ad (k + 35)), .ref (ad (k + 36))]
def xs_cell (ad : Nat → Nat) (ca : Nat → ClassId) (k : Nat) (f : Nat → Int32) (g : Nat → Int64) (u : Nat → Nat) : va_E :=
  if xs_kd k = 50 then .inl (ca 0, xs_ln k, .inl f) else if xs_kd k = 51 then .inl (ca 1, xs_ln k, .inl f) else if xs_kd k = 52 then .inl (ca 2, xs_ln k, .inr (.inl g))
  else if xs_kd k = 53 then .inl (ca 3, xs_ln k, .inr (.inr (.inr (.inr (fun j => some (ad (u j)))))))
  else if xs_kd k = 54 then .inl (ca 4, xs_ln k, .inr (.inr (.inr (.inr (fun j => some (ad (u j)))))))
  else if xs_kd k = 55 then .inl (ca 5, xs_ln k, .inr (.inr (.inr (.inr (fun j => some (ad (u j)))))))
  else if xs_kd k = 0 then .inr (0, xs_fs_W ad k f)
  else if xs_kd k = 1 then .inr (1, xs_fs_A ad k f)
  else if xs_kd k = 2 then .inr (2, xs_fs_F ad k f)
  else if xs_kd k = 3 then .inr (3, xs_fs_C ad k f)
  else if xs_kd k = 4 then .inr (4, xs_fs_M ad k f)
  else if xs_kd k = 5 then .inr (5, xs_fs_S ad k f)
  else if xs_kd k = 6 then .inr (6, xs_fs_I ad k f)
  else if xs_kd k = 7 then .inr (7, xs_fs_D ad k f)
  else if xs_kd k = 8 then .inr (8, xs_fs_K ad k f)
  else if xs_kd k = 9 then .inr (9, xs_fs_V ad k f)
  else if xs_kd k = 10 then .inr (10, xs_fs_R ad k f)
  else .inr (99, [])
