theorem xs_cell_W {ad : Nat → Nat} {ca : Nat → ClassId} {k : Nat} {f : Nat → Int32} {g : Nat → Int64} {u : Nat → Nat} (h : xs_kd k = 0) : xs_cell ad ca k f g u = .inr (0, xs_fs_W ad k f) := by
  unfold xs_cell; rw [h]; rfl
theorem xs_cell_A {ad : Nat → Nat} {ca : Nat → ClassId} {k : Nat} {f : Nat → Int32} {g : Nat → Int64} {u : Nat → Nat} (h : xs_kd k = 1) : xs_cell ad ca k f g u = .inr (1, xs_fs_A ad k f) := by
  unfold xs_cell; rw [h]; rfl
theorem xs_cell_F {ad : Nat → Nat} {ca : Nat → ClassId} {k : Nat} {f : Nat → Int32} {g : Nat → Int64} {u : Nat → Nat} (h : xs_kd k = 2) : xs_cell ad ca k f g u = .inr (2, xs_fs_F ad k f) := by
  unfold xs_cell; rw [h]; rfl
theorem xs_cell_C {ad : Nat → Nat} {ca : Nat → ClassId} {k : Nat} {f : Nat → Int32} {g : Nat → Int64} {u : Nat → Nat} (h : xs_kd k = 3) : xs_cell ad ca k f g u = .inr (3, xs_fs_C ad k f) := by
  unfold xs_cell; rw [h]; rfl
theorem xs_cell_M {ad : Nat → Nat} {ca : Nat → ClassId} {k : Nat} {f : Nat → Int32} {g : Nat → Int64} {u : Nat → Nat} (h : xs_kd k = 4) : xs_cell ad ca k f g u = .inr (4, xs_fs_M ad k f) := by
  unfold xs_cell; rw [h]; rfl
theorem xs_cell_S {ad : Nat → Nat} {ca : Nat → ClassId} {k : Nat} {f : Nat → Int32} {g : Nat → Int64} {u : Nat → Nat} (h : xs_kd k = 5) : xs_cell ad ca k f g u = .inr (5, xs_fs_S ad k f) := by
  unfold xs_cell; rw [h]; rfl
theorem xs_cell_I {ad : Nat → Nat} {ca : Nat → ClassId} {k : Nat} {f : Nat → Int32} {g : Nat → Int64} {u : Nat → Nat} (h : xs_kd k = 6) : xs_cell ad ca k f g u = .inr (6, xs_fs_I ad k f) := by
  unfold xs_cell; rw [h]; rfl
theorem xs_cell_D {ad : Nat → Nat} {ca : Nat → ClassId} {k : Nat} {f : Nat → Int32} {g : Nat → Int64} {u : Nat → Nat} (h : xs_kd k = 7) : xs_cell ad ca k f g u = .inr (7, xs_fs_D ad k f) := by
  unfold xs_cell; rw [h]; rfl
theorem xs_cell_K {ad : Nat → Nat} {ca : Nat → ClassId} {k : Nat} {f : Nat → Int32} {g : Nat → Int64} {u : Nat → Nat} (h : xs_kd k = 8) : xs_cell ad ca k f g u = .inr (8, xs_fs_K ad k f) := by
  unfold xs_cell; rw [h]; rfl
theorem xs_cell_V {ad : Nat → Nat} {ca : Nat → ClassId} {k : Nat} {f : Nat → Int32} {g : Nat → Int64} {u : Nat → Nat} (h : xs_kd k = 9) : xs_cell ad ca k f g u = .inr (9, xs_fs_V ad k f) := by
  unfold xs_cell; rw [h]; rfl
theorem xs_cell_R {ad : Nat → Nat} {ca : Nat → ClassId} {k : Nat} {f : Nat → Int32} {g : Nat → Int64} {u : Nat → Nat} (h : xs_kd k = 10) : xs_cell ad ca k f g u = .inr (10, xs_fs_R ad k f) := by
  unfold xs_cell; rw [h]; rfl
theorem xs_cell_50 {ad : Nat → Nat} {ca : Nat → ClassId} {k : Nat} {f : Nat → Int32} {g : Nat → Int64} {u : Nat → Nat} (h : xs_kd k = 50) : xs_cell ad ca k f g u = .inl (ca 0, xs_ln k, .inl f) := by
  unfold xs_cell; rw [h]; rfl
theorem xs_cell_51 {ad : Nat → Nat} {ca : Nat → ClassId} {k : Nat} {f : Nat → Int32} {g : Nat → Int64} {u : Nat → Nat} (h : xs_kd k = 51) : xs_cell ad ca k f g u = .inl (ca 1, xs_ln k, .inl f) := by
  unfold xs_cell; rw [h]; rfl
theorem xs_cell_52 {ad : Nat → Nat} {ca : Nat → ClassId} {k : Nat} {f : Nat → Int32} {g : Nat → Int64} {u : Nat → Nat} (h : xs_kd k = 52) : xs_cell ad ca k f g u = .inl (ca 2, xs_ln k, .inr (.inl g)) := by
  unfold xs_cell; rw [h]; rfl
theorem xs_cell_53 {ad : Nat → Nat} {ca : Nat → ClassId} {k : Nat} {f : Nat → Int32} {g : Nat → Int64} {u : Nat → Nat} (h : xs_kd k = 53) : xs_cell ad ca k f g u = .inl (ca 3, xs_ln k, .inr (.inr (.inr (.inr (fun j => some (ad (u j))))))) := by
  unfold xs_cell; rw [h]; rfl
theorem xs_cell_54 {ad : Nat → Nat} {ca : Nat → ClassId} {k : Nat} {f : Nat → Int32} {g : Nat → Int64} {u : Nat → Nat} (h : xs_kd k = 54) : xs_cell ad ca k f g u = .inl (ca 4, xs_ln k, .inr (.inr (.inr (.inr (fun j => some (ad (u j))))))) := by
  unfold xs_cell; rw [h]; rfl
theorem xs_cell_55 {ad : Nat → Nat} {ca : Nat → ClassId} {k : Nat} {f : Nat → Int32} {g : Nat → Int64} {u : Nat → Nat} (h : xs_kd k = 55) : xs_cell ad ca k f g u = .inl (ca 5, xs_ln k, .inr (.inr (.inr (.inr (fun j => some (ad (u j))))))) := by
  unfold xs_cell; rw [h]; rfl
def xs_ok (ks : List Nat) : Prop := va_nd ks = true ∧ (ks.all fun k => (xs_refs k).all fun r => decide (r ∈ ks)) = true
def xs_is (ks : List Nat) (k c : Nat) : Prop := k ∈ ks ∧ xs_kd k = c
theorem xs_ref {ks : List Nat} (h : xs_ok ks) {k r : Nat} (hk : k ∈ ks) (hr : r ∈ xs_refs k) : r ∈ ks := of_decide_eq_true (List.all_eq_true.mp (List.all_eq_true.mp h.2 k hk) r hr)
theorem xs_below {P : Nat → Prop} {n : Nat} (hn : ∀ k, xs_kd k ≠ 99 → k < n) (h : ∀ k, k < n → P k) {k : Nat} (hk : xs_kd k ≠ 99) : P k := h k (hn k hk)
theorem xs_kd_lt (k : Nat) (h : xs_kd k ≠ 99) : k < 237 := by
  refine Nat.lt_of_not_le fun hk => h ?_
  unfold xs_kd
  rw [List.getD_eq_getElem?_getD, List.getElem?_eq_none (show xs_kinds.length ≤ k from hk)]
  rfl
theorem xs_k_W : ∀ k, k < 237 → xs_kd k = 0 → k ∈ [0] := by decide +kernel
theorem xs_d_W_air : ∀ k ∈ [0], (k + 1) ∈ xs_refs k ∧ xs_kd (k + 1) = 1 := by decide +kernel
theorem xs_ok_W_air {ks : List Nat} (h : xs_ok ks) {k : Nat} (hk : xs_is ks k 0) : xs_is ks (k + 1) 1 :=
  have q := xs_d_W_air k (xs_k_W k (xs_kd_lt k (by rw [hk.2]; decide)) hk.2)
  ⟨xs_ref h hk.1 q.1, q.2⟩
theorem xs_d_W_devices : ∀ k ∈ [0], (k + 44) ∈ xs_refs k ∧ xs_kd (k + 44) = 54 := by decide +kernel
theorem xs_ok_W_devices {ks : List Nat} (h : xs_ok ks) {k : Nat} (hk : xs_is ks k 0) : xs_is ks (k + 44) 54 :=
  have q := xs_d_W_devices k (xs_k_W k (xs_kd_lt k (by rw [hk.2]; decide)) hk.2)
  ⟨xs_ref h hk.1 q.1, q.2⟩
theorem xs_d_W_server : ∀ k ∈ [0], (k + 119) ∈ xs_refs k ∧ xs_kd (k + 119) = 9 := by decide +kernel
theorem xs_ok_W_server {ks : List Nat} (h : xs_ok ks) {k : Nat} (hk : xs_is ks k 0) : xs_is ks (k + 119) 9 :=
  have q := xs_d_W_server k (xs_k_W k (xs_kd_lt k (by rw [hk.2]; decide)) hk.2)
  ⟨xs_ref h hk.1 q.1, q.2⟩
theorem xs_k_A : ∀ k, k < 237 → xs_kd k = 1 → k ∈ [1] := by decide +kernel
theorem xs_d_A_underWay : ∀ k ∈ [1], (k + 1) ∈ xs_refs k ∧ xs_kd (k + 1) = 53 := by decide +kernel
theorem xs_ok_A_underWay {ks : List Nat} (h : xs_ok ks) {k : Nat} (hk : xs_is ks k 1) : xs_is ks (k + 1) 53 :=
  have q := xs_d_A_underWay k (xs_k_A k (xs_kd_lt k (by rw [hk.2]; decide)) hk.2)
  ⟨xs_ref h hk.1 q.1, q.2⟩
theorem xs_d_A_remembered : ∀ k ∈ [1], (k + 2) ∈ xs_refs k ∧ xs_kd (k + 2) = 53 := by decide +kernel
theorem xs_ok_A_remembered {ks : List Nat} (h : xs_ok ks) {k : Nat} (hk : xs_is ks k 1) : xs_is ks (k + 2) 53 :=
  have q := xs_d_A_remembered k (xs_k_A k (xs_kd_lt k (by rw [hk.2]; decide)) hk.2)
  ⟨xs_ref h hk.1 q.1, q.2⟩
theorem xs_k_F : ∀ k, k < 237 → xs_kd k = 2 → k ∈ [4, 6, 8, 10, 12, 14, 16, 18, 20, 22, 24, 26, 28, 30, 32, 34, 36, 38, 40, 42, 67, 69, 91, 93, 115, 117, 121] := by decide +kernel
theorem xs_d_F_bytes : ∀ k ∈ [4, 6, 8, 10, 12, 14, 16, 18, 20, 22, 24, 26, 28, 30, 32, 34, 36, 38, 40, 42, 67, 69, 91, 93, 115, 117, 121], (k + 1) ∈ xs_refs k ∧ xs_kd (k + 1) = 50 := by decide +kernel
theorem xs_ok_F_bytes {ks : List Nat} (h : xs_ok ks) {k : Nat} (hk : xs_is ks k 2) : xs_is ks (k + 1) 50 :=
  have q := xs_d_F_bytes k (xs_k_F k (xs_kd_lt k (by rw [hk.2]; decide)) hk.2)
  ⟨xs_ref h hk.1 q.1, q.2⟩
theorem xs_k_C : ∀ k, k < 237 → xs_kd k = 3 → k ∈ [48, 56, 61, 72, 80, 85, 96, 104, 109, 126, 131, 142, 147, 158, 163] := by decide +kernel
theorem xs_d_C_roundKeys : ∀ k ∈ [48, 56, 61, 72, 80, 85, 96, 104, 109, 126, 131, 142, 147, 158, 163], (k + 1) ∈ xs_refs k ∧ xs_kd (k + 1) = 50 := by decide +kernel
theorem xs_ok_C_roundKeys {ks : List Nat} (h : xs_ok ks) {k : Nat} (hk : xs_is ks k 3) : xs_is ks (k + 1) 50 :=
  have q := xs_d_C_roundKeys k (xs_k_C k (xs_kd_lt k (by rw [hk.2]; decide)) hk.2)
  ⟨xs_ref h hk.1 q.1, q.2⟩
theorem xs_k_M : ∀ k, k < 237 → xs_kd k = 4 → k ∈ [47, 55, 71, 79, 95, 103, 125, 141, 157] := by decide +kernel
theorem xs_d_M_cipher : ∀ k ∈ [47, 55, 71, 79, 95, 103, 125, 141, 157], (k + 1) ∈ xs_refs k ∧ xs_kd (k + 1) = 3 := by decide +kernel
theorem xs_ok_M_cipher {ks : List Nat} (h : xs_ok ks) {k : Nat} (hk : xs_is ks k 4) : xs_is ks (k + 1) 3 :=
  have q := xs_d_M_cipher k (xs_k_M k (xs_kd_lt k (by rw [hk.2]; decide)) hk.2)
  ⟨xs_ref h hk.1 q.1, q.2⟩
theorem xs_d_M_wholeSubkey : ∀ k ∈ [47, 55, 71, 79, 95, 103, 125, 141, 157], (k + 3) ∈ xs_refs k ∧ xs_kd (k + 3) = 50 := by decide +kernel
theorem xs_ok_M_wholeSubkey {ks : List Nat} (h : xs_ok ks) {k : Nat} (hk : xs_is ks k 4) : xs_is ks (k + 3) 50 :=
  have q := xs_d_M_wholeSubkey k (xs_k_M k (xs_kd_lt k (by rw [hk.2]; decide)) hk.2)
  ⟨xs_ref h hk.1 q.1, q.2⟩
theorem xs_d_M_paddedSubkey : ∀ k ∈ [47, 55, 71, 79, 95, 103, 125, 141, 157], (k + 4) ∈ xs_refs k ∧ xs_kd (k + 4) = 50 := by decide +kernel
theorem xs_ok_M_paddedSubkey {ks : List Nat} (h : xs_ok ks) {k : Nat} (hk : xs_is ks k 4) : xs_is ks (k + 4) 50 :=
  have q := xs_d_M_paddedSubkey k (xs_k_M k (xs_kd_lt k (by rw [hk.2]; decide)) hk.2)
  ⟨xs_ref h hk.1 q.1, q.2⟩
theorem xs_d_M_chained : ∀ k ∈ [47, 55, 71, 79, 95, 103, 125, 141, 157], (k + 5) ∈ xs_refs k ∧ xs_kd (k + 5) = 50 := by decide +kernel
theorem xs_ok_M_chained {ks : List Nat} (h : xs_ok ks) {k : Nat} (hk : xs_is ks k 4) : xs_is ks (k + 5) 50 :=
  have q := xs_d_M_chained k (xs_k_M k (xs_kd_lt k (by rw [hk.2]; decide)) hk.2)
  ⟨xs_ref h hk.1 q.1, q.2⟩
theorem xs_k_S : ∀ k, k < 237 → xs_kd k = 5 → k ∈ [54, 78, 102, 124, 140, 156] := by decide +kernel
theorem xs_d_S_network : ∀ k ∈ [54, 78, 102, 124, 140, 156], (k + 1) ∈ xs_refs k ∧ xs_kd (k + 1) = 4 := by decide +kernel
theorem xs_ok_S_network {ks : List Nat} (h : xs_ok ks) {k : Nat} (hk : xs_is ks k 5) : xs_is ks (k + 1) 4 :=
  have q := xs_d_S_network k (xs_k_S k (xs_kd_lt k (by rw [hk.2]; decide)) hk.2)
  ⟨xs_ref h hk.1 q.1, q.2⟩
theorem xs_d_S_application : ∀ k ∈ [54, 78, 102, 124, 140, 156], (k + 7) ∈ xs_refs k ∧ xs_kd (k + 7) = 3 := by decide +kernel
theorem xs_ok_S_application {ks : List Nat} (h : xs_ok ks) {k : Nat} (hk : xs_is ks k 5) : xs_is ks (k + 7) 3 :=
  have q := xs_d_S_application k (xs_k_S k (xs_kd_lt k (by rw [hk.2]; decide)) hk.2)
  ⟨xs_ref h hk.1 q.1, q.2⟩
theorem xs_d_S_row : ∀ k ∈ [54, 78, 102, 124, 140, 156], (k + 9) ∈ xs_refs k ∧ xs_kd (k + 9) = 50 := by decide +kernel
theorem xs_ok_S_row {ks : List Nat} (h : xs_ok ks) {k : Nat} (hk : xs_is ks k 5) : xs_is ks (k + 9) 50 :=
  have q := xs_d_S_row k (xs_k_S k (xs_kd_lt k (by rw [hk.2]; decide)) hk.2)
  ⟨xs_ref h hk.1 q.1, q.2⟩
theorem xs_d_S_key : ∀ k ∈ [54, 78, 102, 124, 140, 156], (k + 10) ∈ xs_refs k ∧ xs_kd (k + 10) = 50 := by decide +kernel
theorem xs_ok_S_key {ks : List Nat} (h : xs_ok ks) {k : Nat} (hk : xs_is ks k 5) : xs_is ks (k + 10) 50 :=
  have q := xs_d_S_key k (xs_k_S k (xs_kd_lt k (by rw [hk.2]; decide)) hk.2)
  ⟨xs_ref h hk.1 q.1, q.2⟩
theorem xs_k_I : ∀ k, k < 237 → xs_kd k = 6 → k ∈ [65, 89, 113, 135, 151, 167] := by decide +kernel
theorem xs_d_I_latest : ∀ k ∈ [65, 89, 113, 135, 151, 167], (k + 1) ∈ xs_refs k ∧ xs_kd (k + 1) = 52 := by decide +kernel
theorem xs_ok_I_latest {ks : List Nat} (h : xs_ok ks) {k : Nat} (hk : xs_is ks k 6) : xs_is ks (k + 1) 52 :=
  have q := xs_d_I_latest k (xs_k_I k (xs_kd_lt k (by rw [hk.2]; decide)) hk.2)
  ⟨xs_ref h hk.1 q.1, q.2⟩
theorem xs_k_D : ∀ k, k < 237 → xs_kd k = 7 → k ∈ [53, 77, 101] := by decide +kernel
theorem xs_d_D_root : ∀ k ∈ [53, 77, 101], (k - 6) ∈ xs_refs k ∧ xs_kd (k - 6) = 4 := by decide +kernel
theorem xs_ok_D_root {ks : List Nat} (h : xs_ok ks) {k : Nat} (hk : xs_is ks k 7) : xs_is ks (k - 6) 4 :=
  have q := xs_d_D_root k (xs_k_D k (xs_kd_lt k (by rw [hk.2]; decide)) hk.2)
  ⟨xs_ref h hk.1 q.1, q.2⟩
theorem xs_d_D_session : ∀ k ∈ [53, 77, 101], (k + 1) ∈ xs_refs k ∧ xs_kd (k + 1) = 5 := by decide +kernel
theorem xs_ok_D_session {ks : List Nat} (h : xs_ok ks) {k : Nat} (hk : xs_is ks k 7) : xs_is ks (k + 1) 5 :=
  have q := xs_d_D_session k (xs_k_D k (xs_kd_lt k (by rw [hk.2]; decide)) hk.2)
  ⟨xs_ref h hk.1 q.1, q.2⟩
theorem xs_d_D_inbox : ∀ k ∈ [53, 77, 101], (k + 12) ∈ xs_refs k ∧ xs_kd (k + 12) = 6 := by decide +kernel
theorem xs_ok_D_inbox {ks : List Nat} (h : xs_ok ks) {k : Nat} (hk : xs_is ks k 7) : xs_is ks (k + 12) 6 :=
  have q := xs_d_D_inbox k (xs_k_D k (xs_kd_lt k (by rw [hk.2]; decide)) hk.2)
  ⟨xs_ref h hk.1 q.1, q.2⟩
theorem xs_d_D_sent : ∀ k ∈ [53, 77, 101], (k + 14) ∈ xs_refs k ∧ xs_kd (k + 14) = 2 := by decide +kernel
theorem xs_ok_D_sent {ks : List Nat} (h : xs_ok ks) {k : Nat} (hk : xs_is ks k 7) : xs_is ks (k + 14) 2 :=
  have q := xs_d_D_sent k (xs_k_D k (xs_kd_lt k (by rw [hk.2]; decide)) hk.2)
  ⟨xs_ref h hk.1 q.1, q.2⟩
theorem xs_d_D_opened : ∀ k ∈ [53, 77, 101], (k + 16) ∈ xs_refs k ∧ xs_kd (k + 16) = 2 := by decide +kernel
theorem xs_ok_D_opened {ks : List Nat} (h : xs_ok ks) {k : Nat} (hk : xs_is ks k 7) : xs_is ks (k + 16) 2 :=
  have q := xs_d_D_opened k (xs_k_D k (xs_kd_lt k (by rw [hk.2]; decide)) hk.2)
  ⟨xs_ref h hk.1 q.1, q.2⟩
theorem xs_k_K : ∀ k, k < 237 → xs_kd k = 8 → k ∈ [123, 139, 155] := by decide +kernel
theorem xs_d_K_root : ∀ k ∈ [123, 139, 155], (xs_rt k) ∈ xs_refs k ∧ xs_kd (xs_rt k) = 4 := by decide +kernel
theorem xs_ok_K_root {ks : List Nat} (h : xs_ok ks) {k : Nat} (hk : xs_is ks k 8) : xs_is ks (xs_rt k) 4 :=
  have q := xs_d_K_root k (xs_k_K k (xs_kd_lt k (by rw [hk.2]; decide)) hk.2)
  ⟨xs_ref h hk.1 q.1, q.2⟩
theorem xs_d_K_session : ∀ k ∈ [123, 139, 155], (k + 1) ∈ xs_refs k ∧ xs_kd (k + 1) = 5 := by decide +kernel
theorem xs_ok_K_session {ks : List Nat} (h : xs_ok ks) {k : Nat} (hk : xs_is ks k 8) : xs_is ks (k + 1) 5 :=
  have q := xs_d_K_session k (xs_k_K k (xs_kd_lt k (by rw [hk.2]; decide)) hk.2)
  ⟨xs_ref h hk.1 q.1, q.2⟩
theorem xs_d_K_inbox : ∀ k ∈ [123, 139, 155], (k + 12) ∈ xs_refs k ∧ xs_kd (k + 12) = 6 := by decide +kernel
theorem xs_ok_K_inbox {ks : List Nat} (h : xs_ok ks) {k : Nat} (hk : xs_is ks k 8) : xs_is ks (k + 12) 6 :=
  have q := xs_d_K_inbox k (xs_k_K k (xs_kd_lt k (by rw [hk.2]; decide)) hk.2)
  ⟨xs_ref h hk.1 q.1, q.2⟩
theorem xs_d_K_queuedPayloads : ∀ k ∈ [123, 139, 155], (k + 14) ∈ xs_refs k ∧ xs_kd (k + 14) = 52 := by decide +kernel
theorem xs_ok_K_queuedPayloads {ks : List Nat} (h : xs_ok ks) {k : Nat} (hk : xs_is ks k 8) : xs_is ks (k + 14) 52 :=
  have q := xs_d_K_queuedPayloads k (xs_k_K k (xs_kd_lt k (by rw [hk.2]; decide)) hk.2)
  ⟨xs_ref h hk.1 q.1, q.2⟩
theorem xs_d_K_queuedBytes : ∀ k ∈ [123, 139, 155], (k + 15) ∈ xs_refs k ∧ xs_kd (k + 15) = 50 := by decide +kernel
theorem xs_ok_K_queuedBytes {ks : List Nat} (h : xs_ok ks) {k : Nat} (hk : xs_is ks k 8) : xs_is ks (k + 15) 50 :=
  have q := xs_d_K_queuedBytes k (xs_k_K k (xs_kd_lt k (by rw [hk.2]; decide)) hk.2)
  ⟨xs_ref h hk.1 q.1, q.2⟩
theorem xs_k_V : ∀ k, k < 237 → xs_kd k = 9 → k ∈ [119] := by decide +kernel
theorem xs_d_V_accounts : ∀ k ∈ [119], (k + 1) ∈ xs_refs k ∧ xs_kd (k + 1) = 55 := by decide +kernel
theorem xs_ok_V_accounts {ks : List Nat} (h : xs_ok ks) {k : Nat} (hk : xs_is ks k 9) : xs_is ks (k + 1) 55 :=
  have q := xs_d_V_accounts k (xs_k_V k (xs_kd_lt k (by rw [hk.2]; decide)) hk.2)
  ⟨xs_ref h hk.1 q.1, q.2⟩
theorem xs_d_V_outgoing : ∀ k ∈ [119], (k + 2) ∈ xs_refs k ∧ xs_kd (k + 2) = 2 := by decide +kernel
theorem xs_ok_V_outgoing {ks : List Nat} (h : xs_ok ks) {k : Nat} (hk : xs_is ks k 9) : xs_is ks (k + 2) 2 :=
  have q := xs_d_V_outgoing k (xs_k_V k (xs_kd_lt k (by rw [hk.2]; decide)) hk.2)
  ⟨xs_ref h hk.1 q.1, q.2⟩
theorem xs_k_R : ∀ k, k < 237 → xs_kd k = 10 → k ∈ [200] := by decide +kernel
theorem xs_d_R_box : ∀ k ∈ [200], (k + 1) ∈ xs_refs k ∧ xs_kd (k + 1) = 50 := by decide +kernel
theorem xs_ok_R_box {ks : List Nat} (h : xs_ok ks) {k : Nat} (hk : xs_is ks k 10) : xs_is ks (k + 1) 50 :=
  have q := xs_d_R_box k (xs_k_R k (xs_kd_lt k (by rw [hk.2]; decide)) hk.2)
  ⟨xs_ref h hk.1 q.1, q.2⟩
theorem xs_d_R_unbox : ∀ k ∈ [200], (k + 2) ∈ xs_refs k ∧ xs_kd (k + 2) = 50 := by decide +kernel
theorem xs_ok_R_unbox {ks : List Nat} (h : xs_ok ks) {k : Nat} (hk : xs_is ks k 10) : xs_is ks (k + 2) 50 :=
  have q := xs_d_R_unbox k (xs_k_R k (xs_kd_lt k (by rw [hk.2]; decide)) hk.2)
  ⟨xs_ref h hk.1 q.1, q.2⟩
theorem xs_d_R_rounds : ∀ k ∈ [200], (k + 3) ∈ xs_refs k ∧ xs_kd (k + 3) = 50 := by decide +kernel
theorem xs_ok_R_rounds {ks : List Nat} (h : xs_ok ks) {k : Nat} (hk : xs_is ks k 10) : xs_is ks (k + 3) 50 :=
  have q := xs_d_R_rounds k (xs_k_R k (xs_kd_lt k (by rw [hk.2]; decide)) hk.2)
  ⟨xs_ref h hk.1 q.1, q.2⟩
theorem xs_d_R_block : ∀ k ∈ [200], (k + 4) ∈ xs_refs k ∧ xs_kd (k + 4) = 50 := by decide +kernel
theorem xs_ok_R_block {ks : List Nat} (h : xs_ok ks) {k : Nat} (hk : xs_is ks k 10) : xs_is ks (k + 4) 50 :=
  have q := xs_d_R_block k (xs_k_R k (xs_kd_lt k (by rw [hk.2]; decide)) hk.2)
  ⟨xs_ref h hk.1 q.1, q.2⟩
theorem xs_d_R_old : ∀ k ∈ [200], (k + 5) ∈ xs_refs k ∧ xs_kd (k + 5) = 50 := by decide +kernel
theorem xs_ok_R_old {ks : List Nat} (h : xs_ok ks) {k : Nat} (hk : xs_is ks k 10) : xs_is ks (k + 5) 50 :=
  have q := xs_d_R_old k (xs_k_R k (xs_kd_lt k (by rw [hk.2]; decide)) hk.2)
  ⟨xs_ref h hk.1 q.1, q.2⟩
theorem xs_d_R_code : ∀ k ∈ [200], (k + 6) ∈ xs_refs k ∧ xs_kd (k + 6) = 50 := by decide +kernel
theorem xs_ok_R_code {ks : List Nat} (h : xs_ok ks) {k : Nat} (hk : xs_is ks k 10) : xs_is ks (k + 6) 50 :=
  have q := xs_d_R_code k (xs_k_R k (xs_kd_lt k (by rw [hk.2]; decide)) hk.2)
  ⟨xs_ref h hk.1 q.1, q.2⟩
theorem xs_d_R_keys : ∀ k ∈ [200], (k + 7) ∈ xs_refs k ∧ xs_kd (k + 7) = 50 := by decide +kernel
theorem xs_ok_R_keys {ks : List Nat} (h : xs_ok ks) {k : Nat} (hk : xs_is ks k 10) : xs_is ks (k + 7) 50 :=
  have q := xs_d_R_keys k (xs_k_R k (xs_kd_lt k (by rw [hk.2]; decide)) hk.2)
  ⟨xs_ref h hk.1 q.1, q.2⟩
theorem xs_d_R_row : ∀ k ∈ [200], (k + 8) ∈ xs_refs k ∧ xs_kd (k + 8) = 50 := by decide +kernel
theorem xs_ok_R_row {ks : List Nat} (h : xs_ok ks) {k : Nat} (hk : xs_is ks k 10) : xs_is ks (k + 8) 50 :=
  have q := xs_d_R_row k (xs_k_R k (xs_kd_lt k (by rw [hk.2]; decide)) hk.2)
  ⟨xs_ref h hk.1 q.1, q.2⟩
theorem xs_d_R_bytes : ∀ k ∈ [200], (k + 9) ∈ xs_refs k ∧ xs_kd (k + 9) = 50 := by decide +kernel
theorem xs_ok_R_bytes {ks : List Nat} (h : xs_ok ks) {k : Nat} (hk : xs_is ks k 10) : xs_is ks (k + 9) 50 :=
  have q := xs_d_R_bytes k (xs_k_R k (xs_kd_lt k (by rw [hk.2]; decide)) hk.2)
  ⟨xs_ref h hk.1 q.1, q.2⟩
theorem xs_d_R_length : ∀ k ∈ [200], (k + 10) ∈ xs_refs k ∧ xs_kd (k + 10) = 50 := by decide +kernel
theorem xs_ok_R_length {ks : List Nat} (h : xs_ok ks) {k : Nat} (hk : xs_is ks k 10) : xs_is ks (k + 10) 50 :=
  have q := xs_d_R_length k (xs_k_R k (xs_kd_lt k (by rw [hk.2]; decide)) hk.2)
  ⟨xs_ref h hk.1 q.1, q.2⟩
theorem xs_d_R_goal : ∀ k ∈ [200], (k + 11) ∈ xs_refs k ∧ xs_kd (k + 11) = 50 := by decide +kernel
theorem xs_ok_R_goal {ks : List Nat} (h : xs_ok ks) {k : Nat} (hk : xs_is ks k 10) : xs_is ks (k + 11) 50 :=
  have q := xs_d_R_goal k (xs_k_R k (xs_kd_lt k (by rw [hk.2]; decide)) hk.2)
  ⟨xs_ref h hk.1 q.1, q.2⟩
theorem xs_d_R_state : ∀ k ∈ [200], (k + 12) ∈ xs_refs k ∧ xs_kd (k + 12) = 50 := by decide +kernel
theorem xs_ok_R_state {ks : List Nat} (h : xs_ok ks) {k : Nat} (hk : xs_is ks k 10) : xs_is ks (k + 12) 50 :=
  have q := xs_d_R_state k (xs_k_R k (xs_kd_lt k (by rw [hk.2]; decide)) hk.2)
  ⟨xs_ref h hk.1 q.1, q.2⟩
theorem xs_d_R_waits : ∀ k ∈ [200], (k + 13) ∈ xs_refs k ∧ xs_kd (k + 13) = 51 := by decide +kernel
theorem xs_ok_R_waits {ks : List Nat} (h : xs_ok ks) {k : Nat} (hk : xs_is ks k 10) : xs_is ks (k + 13) 51 :=
  have q := xs_d_R_waits k (xs_k_R k (xs_kd_lt k (by rw [hk.2]; decide)) hk.2)
  ⟨xs_ref h hk.1 q.1, q.2⟩
theorem xs_d_R_since : ∀ k ∈ [200], (k + 14) ∈ xs_refs k ∧ xs_kd (k + 14) = 50 := by decide +kernel
theorem xs_ok_R_since {ks : List Nat} (h : xs_ok ks) {k : Nat} (hk : xs_is ks k 10) : xs_is ks (k + 14) 50 :=
  have q := xs_d_R_since k (xs_k_R k (xs_kd_lt k (by rw [hk.2]; decide)) hk.2)
  ⟨xs_ref h hk.1 q.1, q.2⟩
theorem xs_d_R_tries : ∀ k ∈ [200], (k + 15) ∈ xs_refs k ∧ xs_kd (k + 15) = 50 := by decide +kernel
theorem xs_ok_R_tries {ks : List Nat} (h : xs_ok ks) {k : Nat} (hk : xs_is ks k 10) : xs_is ks (k + 15) 50 :=
  have q := xs_d_R_tries k (xs_k_R k (xs_kd_lt k (by rw [hk.2]; decide)) hk.2)
  ⟨xs_ref h hk.1 q.1, q.2⟩
theorem xs_d_R_nonce : ∀ k ∈ [200], (k + 16) ∈ xs_refs k ∧ xs_kd (k + 16) = 50 := by decide +kernel
theorem xs_ok_R_nonce {ks : List Nat} (h : xs_ok ks) {k : Nat} (hk : xs_is ks k 10) : xs_is ks (k + 16) 50 :=
  have q := xs_d_R_nonce k (xs_k_R k (xs_kd_lt k (by rw [hk.2]; decide)) hk.2)
  ⟨xs_ref h hk.1 q.1, q.2⟩
theorem xs_d_R_tookSerial : ∀ k ∈ [200], (k + 17) ∈ xs_refs k ∧ xs_kd (k + 17) = 50 := by decide +kernel
theorem xs_ok_R_tookSerial {ks : List Nat} (h : xs_ok ks) {k : Nat} (hk : xs_is ks k 10) : xs_is ks (k + 17) 50 :=
  have q := xs_d_R_tookSerial k (xs_k_R k (xs_kd_lt k (by rw [hk.2]; decide)) hk.2)
  ⟨xs_ref h hk.1 q.1, q.2⟩
theorem xs_d_R_address : ∀ k ∈ [200], (k + 18) ∈ xs_refs k ∧ xs_kd (k + 18) = 50 := by decide +kernel
theorem xs_ok_R_address {ks : List Nat} (h : xs_ok ks) {k : Nat} (hk : xs_is ks k 10) : xs_is ks (k + 18) 50 :=
  have q := xs_d_R_address k (xs_k_R k (xs_kd_lt k (by rw [hk.2]; decide)) hk.2)
  ⟨xs_ref h hk.1 q.1, q.2⟩
theorem xs_d_R_nextUp : ∀ k ∈ [200], (k + 19) ∈ xs_refs k ∧ xs_kd (k + 19) = 50 := by decide +kernel
theorem xs_ok_R_nextUp {ks : List Nat} (h : xs_ok ks) {k : Nat} (hk : xs_is ks k 10) : xs_is ks (k + 19) 50 :=
  have q := xs_d_R_nextUp k (xs_k_R k (xs_kd_lt k (by rw [hk.2]; decide)) hk.2)
  ⟨xs_ref h hk.1 q.1, q.2⟩
theorem xs_d_R_lastDown : ∀ k ∈ [200], (k + 20) ∈ xs_refs k ∧ xs_kd (k + 20) = 50 := by decide +kernel
theorem xs_ok_R_lastDown {ks : List Nat} (h : xs_ok ks) {k : Nat} (hk : xs_is ks k 10) : xs_is ks (k + 20) 50 :=
  have q := xs_d_R_lastDown k (xs_k_R k (xs_kd_lt k (by rw [hk.2]; decide)) hk.2)
  ⟨xs_ref h hk.1 q.1, q.2⟩
theorem xs_d_R_sessions : ∀ k ∈ [200], (k + 21) ∈ xs_refs k ∧ xs_kd (k + 21) = 50 := by decide +kernel
theorem xs_ok_R_sessions {ks : List Nat} (h : xs_ok ks) {k : Nat} (hk : xs_is ks k 10) : xs_is ks (k + 21) 50 :=
  have q := xs_d_R_sessions k (xs_k_R k (xs_kd_lt k (by rw [hk.2]; decide)) hk.2)
  ⟨xs_ref h hk.1 q.1, q.2⟩
theorem xs_d_R_ours : ∀ k ∈ [200], (k + 22) ∈ xs_refs k ∧ xs_kd (k + 22) = 50 := by decide +kernel
theorem xs_ok_R_ours {ks : List Nat} (h : xs_ok ks) {k : Nat} (hk : xs_is ks k 10) : xs_is ks (k + 22) 50 :=
  have q := xs_d_R_ours k (xs_k_R k (xs_kd_lt k (by rw [hk.2]; decide)) hk.2)
  ⟨xs_ref h hk.1 q.1, q.2⟩
theorem xs_d_R_ourSerial : ∀ k ∈ [200], (k + 23) ∈ xs_refs k ∧ xs_kd (k + 23) = 50 := by decide +kernel
theorem xs_ok_R_ourSerial {ks : List Nat} (h : xs_ok ks) {k : Nat} (hk : xs_is ks k 10) : xs_is ks (k + 23) 50 :=
  have q := xs_d_R_ourSerial k (xs_k_R k (xs_kd_lt k (by rw [hk.2]; decide)) hk.2)
  ⟨xs_ref h hk.1 q.1, q.2⟩
theorem xs_d_R_lastUp : ∀ k ∈ [200], (k + 24) ∈ xs_refs k ∧ xs_kd (k + 24) = 50 := by decide +kernel
theorem xs_ok_R_lastUp {ks : List Nat} (h : xs_ok ks) {k : Nat} (hk : xs_is ks k 10) : xs_is ks (k + 24) 50 :=
  have q := xs_d_R_lastUp k (xs_k_R k (xs_kd_lt k (by rw [hk.2]; decide)) hk.2)
  ⟨xs_ref h hk.1 q.1, q.2⟩
theorem xs_d_R_nextDown : ∀ k ∈ [200], (k + 25) ∈ xs_refs k ∧ xs_kd (k + 25) = 50 := by decide +kernel
theorem xs_ok_R_nextDown {ks : List Nat} (h : xs_ok ks) {k : Nat} (hk : xs_is ks k 10) : xs_is ks (k + 25) 50 :=
  have q := xs_d_R_nextDown k (xs_k_R k (xs_kd_lt k (by rw [hk.2]; decide)) hk.2)
  ⟨xs_ref h hk.1 q.1, q.2⟩
theorem xs_d_R_lastNonce : ∀ k ∈ [200], (k + 26) ∈ xs_refs k ∧ xs_kd (k + 26) = 50 := by decide +kernel
theorem xs_ok_R_lastNonce {ks : List Nat} (h : xs_ok ks) {k : Nat} (hk : xs_is ks k 10) : xs_is ks (k + 26) 50 :=
  have q := xs_d_R_lastNonce k (xs_k_R k (xs_kd_lt k (by rw [hk.2]; decide)) hk.2)
  ⟨xs_ref h hk.1 q.1, q.2⟩
theorem xs_d_R_gateways : ∀ k ∈ [200], (k + 27) ∈ xs_refs k ∧ xs_kd (k + 27) = 50 := by decide +kernel
theorem xs_ok_R_gateways {ks : List Nat} (h : xs_ok ks) {k : Nat} (hk : xs_is ks k 10) : xs_is ks (k + 27) 50 :=
  have q := xs_d_R_gateways k (xs_k_R k (xs_kd_lt k (by rw [hk.2]; decide)) hk.2)
  ⟨xs_ref h hk.1 q.1, q.2⟩
theorem xs_d_R_due : ∀ k ∈ [200], (k + 28) ∈ xs_refs k ∧ xs_kd (k + 28) = 50 := by decide +kernel
theorem xs_ok_R_due {ks : List Nat} (h : xs_ok ks) {k : Nat} (hk : xs_is ks k 10) : xs_is ks (k + 28) 50 :=
  have q := xs_d_R_due k (xs_k_R k (xs_kd_lt k (by rw [hk.2]; decide)) hk.2)
  ⟨xs_ref h hk.1 q.1, q.2⟩
theorem xs_d_R_acknowledges : ∀ k ∈ [200], (k + 29) ∈ xs_refs k ∧ xs_kd (k + 29) = 51 := by decide +kernel
theorem xs_ok_R_acknowledges {ks : List Nat} (h : xs_ok ks) {k : Nat} (hk : xs_is ks k 10) : xs_is ks (k + 29) 51 :=
  have q := xs_d_R_acknowledges k (xs_k_R k (xs_kd_lt k (by rw [hk.2]; decide)) hk.2)
  ⟨xs_ref h hk.1 q.1, q.2⟩
theorem xs_d_R_checks : ∀ k ∈ [200], (k + 30) ∈ xs_refs k ∧ xs_kd (k + 30) = 51 := by decide +kernel
theorem xs_ok_R_checks {ks : List Nat} (h : xs_ok ks) {k : Nat} (hk : xs_is ks k 10) : xs_is ks (k + 30) 51 :=
  have q := xs_d_R_checks k (xs_k_R k (xs_kd_lt k (by rw [hk.2]; decide)) hk.2)
  ⟨xs_ref h hk.1 q.1, q.2⟩
theorem xs_d_R_queue : ∀ k ∈ [200], (k + 31) ∈ xs_refs k ∧ xs_kd (k + 31) = 52 := by decide +kernel
theorem xs_ok_R_queue {ks : List Nat} (h : xs_ok ks) {k : Nat} (hk : xs_is ks k 10) : xs_is ks (k + 31) 52 :=
  have q := xs_d_R_queue k (xs_k_R k (xs_kd_lt k (by rw [hk.2]; decide)) hk.2)
  ⟨xs_ref h hk.1 q.1, q.2⟩
theorem xs_d_R_queueLength : ∀ k ∈ [200], (k + 32) ∈ xs_refs k ∧ xs_kd (k + 32) = 50 := by decide +kernel
theorem xs_ok_R_queueLength {ks : List Nat} (h : xs_ok ks) {k : Nat} (hk : xs_is ks k 10) : xs_is ks (k + 32) 50 :=
  have q := xs_d_R_queueLength k (xs_k_R k (xs_kd_lt k (by rw [hk.2]; decide)) hk.2)
  ⟨xs_ref h hk.1 q.1, q.2⟩
theorem xs_d_R_queued : ∀ k ∈ [200], (k + 33) ∈ xs_refs k ∧ xs_kd (k + 33) = 50 := by decide +kernel
theorem xs_ok_R_queued {ks : List Nat} (h : xs_ok ks) {k : Nat} (hk : xs_is ks k 10) : xs_is ks (k + 33) 50 :=
  have q := xs_d_R_queued k (xs_k_R k (xs_kd_lt k (by rw [hk.2]; decide)) hk.2)
  ⟨xs_ref h hk.1 q.1, q.2⟩
theorem xs_d_R_got : ∀ k ∈ [200], (k + 34) ∈ xs_refs k ∧ xs_kd (k + 34) = 50 := by decide +kernel
theorem xs_ok_R_got {ks : List Nat} (h : xs_ok ks) {k : Nat} (hk : xs_is ks k 10) : xs_is ks (k + 34) 50 :=
  have q := xs_d_R_got k (xs_k_R k (xs_kd_lt k (by rw [hk.2]; decide)) hk.2)
  ⟨xs_ref h hk.1 q.1, q.2⟩
theorem xs_d_R_values : ∀ k ∈ [200], (k + 35) ∈ xs_refs k ∧ xs_kd (k + 35) = 52 := by decide +kernel
theorem xs_ok_R_values {ks : List Nat} (h : xs_ok ks) {k : Nat} (hk : xs_is ks k 10) : xs_is ks (k + 35) 52 :=
  have q := xs_d_R_values k (xs_k_R k (xs_kd_lt k (by rw [hk.2]; decide)) hk.2)
  ⟨xs_ref h hk.1 q.1, q.2⟩
theorem xs_d_R_tallies : ∀ k ∈ [200], (k + 36) ∈ xs_refs k ∧ xs_kd (k + 36) = 50 := by decide +kernel
theorem xs_ok_R_tallies {ks : List Nat} (h : xs_ok ks) {k : Nat} (hk : xs_is ks k 10) : xs_is ks (k + 36) 50 :=
  have q := xs_d_R_tallies k (xs_k_R k (xs_kd_lt k (by rw [hk.2]; decide)) hk.2)
  ⟨xs_ref h hk.1 q.1, q.2⟩
theorem xs_d_all : ∀ k, k < 237 → xs_kd k < 50 → k ∈ xs_all := by decide +kernel
theorem xs_okC {ks : List Nat} (hf : ks = xs_all) {c u v : Nat} (hc : c < 50) (g : xs_ckU v c = some u) : xs_is ks u c := by
  unfold xs_ckU at g
  split at g
  · next h =>
    cases g
    exact ⟨by rw [hf]; exact xs_d_all _ (xs_kd_lt _ (by rw [h]; omega)) (by rw [h]; exact hc), h⟩
  · cases g
theorem xs_ckU_eq {c u v : Nat} (g : xs_ckU v c = some u) : v = u := by
  unfold xs_ckU at g
  split at g
  · exact Option.some.inj g
  · cases g
theorem xs_okU {ks : List Nat} (hf : ks = xs_all) {S : xs_T} {c u k : Nat} {i : Int32} (hc : c < 50) (g : xs_rdU S k i c = some u) : xs_is ks u c := by
  unfold xs_rdU at g
  split at g
  · cases g
  · exact xs_okC hf hc g
theorem xs_ok_all : xs_ok xs_all := ⟨by decide +kernel, by decide +kernel⟩
theorem xs_mem {ks : List Nat} {k : Nat} (h : k ∈ ks) : ∃ q : Nat, ks[q]? = some k := List.mem_iff_getElem?.mp h
def xs_w (ad : Nat → Nat) (ca : Nat → ClassId) (ks : List Nat) (S : xs_T) : va_W := ks.map fun k => (ad k, xs_cell ad ca k (S.1 k) (S.2.1 k) (S.2.2 k))
section XW
variable {D : va_G} {ad : Nat → Nat} {ca : Nat → ClassId} {ks : List Nat} {S T : xs_T}
theorem xs_w_at {q k : Nat} (h : ks[q]? = some k) : (xs_w ad ca ks S)[q]? = some (ad k, xs_cell ad ca k (S.1 k) (S.2.1 k) (S.2.2 k)) := by
  simp [xs_w, h]
theorem xs_w_set {q k : Nat} (hn : va_nd ks = true) (h : ks[q]? = some k) {e : va_E} (he : xs_cell ad ca k (T.1 k) (T.2.1 k) (T.2.2 k) = e) (ho : ∀ j, j ≠ k → T.1 j = S.1 j ∧ T.2.1 j = S.2.1 j ∧ T.2.2 j = S.2.2 j) : (xs_w ad ca ks S).set q (ad k, e) = xs_w ad ca ks T := by
  subst he
  apply List.ext_getElem?
  intro i
  rw [List.getElem?_set]
  by_cases hi : q = i
  · subst hi
    have hl : q < ks.length := (List.getElem?_eq_some_iff.mp h).1
    rw [if_pos rfl, if_pos (by simpa [xs_w] using hl), xs_w_at h]
  · rw [if_neg hi]
    cases hj : ks[i]? with
    | none => simp [xs_w, hj]
    | some j =>
      have hjk : j ≠ k := fun e => hi (va_nd_inj ks hn q i k h (by rw [hj, e]))
      obtain ⟨h1, h2, h3⟩ := ho j hjk
      rw [xs_w_at hj, xs_w_at hj, h1, h2, h3]
theorem xs_w_inv {q : Nat} {x : Nat × va_E} (h : (xs_w ad ca ks S)[q]? = some x) : ∃ k, ks[q]? = some k ∧ x.1 = ad k := by
  unfold xs_w at h
  rw [List.getElem?_map] at h
  cases hk : ks[q]? with
  | none => rw [hk] at h; cases h
  | some k => rw [hk] at h; cases h; exact ⟨k, rfl, rfl⟩
def xs_A (ad : Nat → Nat) (ks : List Nat) (sz : Nat) : Nat → Prop := fun q => (∃ k, k ∈ ks ∧ q = ad k) ∨ sz ≤ q
/-- apart in one state, apart in every state; and in the places that a method may change -/
theorem xs_D {A : Nat → Prop} (h : va_D A (xs_w ad ca ks S)) : va_D A (xs_w ad ca ks T) := by
  refine ⟨fun i j x y hx hy hxy => ?_, fun q x hx => ?_⟩
  · obtain ⟨k1, h1, e1⟩ := xs_w_inv hx
    obtain ⟨k2, h2, e2⟩ := xs_w_inv hy
    exact h.1 i j _ _ (xs_w_at h1) (xs_w_at h2) (by rw [← e1, ← e2]; exact hxy)
  · obtain ⟨k1, h1, e1⟩ := xs_w_inv hx
    rw [e1]
    exact h.2 q _ (xs_w_at (S := S) h1)
theorem xs_DA {A : Nat → Prop} {sz : Nat} (h : va_D A (xs_w ad ca ks S)) : va_D (xs_A ad ks sz) (xs_w ad ca ks S) :=
  ⟨h.1, fun q x hx => by
    obtain ⟨k1, h1, e1⟩ := xs_w_inv hx
    exact Or.inl ⟨k1, List.mem_of_getElem? h1, e1⟩⟩
end XW
def xs_ty (ca : Nat → ClassId) : List (ClassId × FieldType) := [(ca 0, .int), (ca 1, .boolean), (ca 2, .long), (ca 3, .object "WideNet$Frame"), (ca 4, .object "WideNet$Device"), (ca 5, .object "WideNet$Account"), (ca 6, .object "WideNet$Mac")]
def xs_isN : Cond → Bool
  | .fieldLinkNest .. => true
  | .methodLinkNest .. => true
  | _ => false
def xs_N (U : State) : Prop := ∀ w ∈ lw_tbl, xs_isN w = true → va_Nw w U
def xs_Z (ad : Nat → Nat) (A : Nat → Prop) (U : State) (H : Heap) : Prop := va_Z "WideNet$Cipher" "SUBSTITUTES" "[I" (.ref (ad 171)) A U H ∧ va_Z "WideNet$Cipher" "ORIGINALS" "[I" (.ref (ad 172)) A U H ∧ (∀ k, xs_kd k = 60 → va_T .int (ad k) 256 (fun j => .int (xs_tb k j)) A U H)
def xs_K (D : va_G) (ad : Nat → Nat) (ca : Nat → ClassId) (ks : List Nat) (A : Nat → Prop) (s : State) : Prop := xs_ok ks ∧ va_K D xs_cl (xs_ty ca) s ∧ (∀ q, s.heap.size ≤ q → A q) ∧ xs_N s ∧ xs_Z ad A s s.heap
def xs_I (D : va_G) (ad : Nat → Nat) (ca : Nat → ClassId) (ks : List Nat) (A : Nat → Prop) (s : State) (S : xs_T) (H : Heap) (locs : List Loc) : Prop := va_P D xs_cl (xs_w ad ca ks S) H ∧ va_D A (xs_w ad ca ks S) ∧ va_S A s.heap H locs
def xs_Pre (D : va_G) (ad : Nat → Nat) (ca : Nat → ClassId) (ks : List Nat) (S : xs_T) (sz : Nat) (U : State) : Prop := U.heap.size = sz ∧ va_P D xs_cl (xs_w ad ca ks S) U.heap ∧ va_D (fun _ => True) (xs_w ad ca ks S) ∧ xs_K D ad ca ks (xs_A ad ks sz) U
theorem xs_N.warm {s U : State} (hW : s.WarmedH U.vm) (h : xs_N s) : xs_N U := by
  intro w hw hn
  have h1 := h w hw hn
  cases w <;> first | exact va_Nw.warmF hW h1 | exact va_Nw.warmM hW h1 | cases hn
theorem xs_N.same {s U : State} (hv : s.vm = U.vm) (h : xs_N s) : xs_N U := by
  intro w hw hn
  have h1 := h w hw hn
  cases w <;> first | exact va_Nw.same rfl hv h1 | cases hn
section XK
variable {D : va_G} {ad : Nat → Nat} {ca : Nat → ClassId} {ks : List Nat} {A : Nat → Prop} {s : State} {S T : xs_T} {H : Heap} {locs : List Loc}
theorem xs_AA (hK : xs_K D ad ca ks A s) (hw : xs_I D ad ca ks A s S H locs) : ∀ q, xs_A ad ks H.size q → A q := by
  intro q h
  rcases h with ⟨k, hk, rfl⟩ | h
  · obtain ⟨i, hi⟩ := xs_mem hk
    exact hw.2.1.2 i _ (xs_w_at hi)
  · exact hK.2.2.1 q (Nat.le_trans hw.2.2.1 h)
theorem xs_pre (hK : xs_K D ad ca ks A s) (hw : xs_I D ad ca ks A s S H locs) {U : State} (hU : U.heap = H) (hW : s.WarmedH U.vm) : xs_Pre D ad ca ks S H.size U := by
  have hAA := xs_AA hK hw
  obtain ⟨k1, k2, k3, k4, z1, z2, z3⟩ := hK
  obtain ⟨w1, w2, w3⟩ := hw
  subst hU
  have keep : ∀ q : Nat, q < s.heap.size → ¬ A q → U.heap[q]? = s.heap[q]? := w3.2.1
  refine ⟨rfl, w1, w2.weaken (fun _ _ _ _ => trivial), k1, va_K.moved hW.alike k2, fun q h => Or.inr h, k4.warm hW, ((z1.kept keep).moved hW.alike).narrow hAA, ((z2.kept keep).moved hW.alike).narrow hAA, fun k hk => (((z3 k hk).kept keep).moved hW.alike).narrow hAA⟩
theorem xs_blind {av : List Value} {sz : Nat} : FrameBlind (va_Pc av (xs_Pre D ad ca ks S sz)) := by
  intro a U g mk h
  obtain ⟨q0, q1, q2, q3, k1, k2, k3, k4, z1, z2, z3⟩ := h
  refine ⟨q0, q1, q2, q3, k1, va_K.moved (u := U) (U := U.calling g mk a) (Vm.Alike.refl U.vm) k2, k3, xs_N.same (s := U) (U := U.calling g mk a) rfl k4, z1.moved (U := U.calling g mk a) (Vm.Alike.refl U.vm), z2.moved (U := U.calling g mk a) (Vm.Alike.refl U.vm), fun k hk => (z3 k hk).moved (U := U.calling g mk a) (Vm.Alike.refl U.vm)⟩
theorem xs_good {c : Cond} (h : c ∈ xs_U) : GoodIn xs_U (c :: xs_U) := fun w hw => by
  have hm : w ∈ xs_U := by
    rcases List.mem_cons.mp hw with e | e
    · rw [e]; exact h
    · exact e
  exact ⟨hm, good_of_word (List.mem_filter.mp hm).2⟩
end XK
theorem xs_in_of {i : Int32} {n : Nat} {α : Type} {x : Option α} {v : α} (g : (if i < 0 ∨ n ≤ i.toNatClampNeg then none else x) = some v) : vp_in i n ∧ x = some v := by
  by_cases h : i < 0 ∨ n ≤ i.toNatClampNeg
  · rw [if_pos h] at g; cases g
  · rw [if_neg h] at g; exact ⟨h, g⟩
theorem xs_z01 {v : Int32} {α : Type} {x y : α} (g : (if v = 0 ∨ v = 1 then some x else none) = some y) : (v = 0 ∨ v = 1) ∧ x = y := by
  by_cases h : v = 0 ∨ v = 1
  · rw [if_pos h] at g; exact ⟨h, Option.some.inj g⟩
  · rw [if_neg h] at g; cases g
theorem xs_narZ {v : Int32} (h : v = 0 ∨ v = 1) : narrow .boolean (.int v) = .int v ∧ fits .boolean (.int v) = true ∧ vp_nar .boolean v = v := by
  rcases h with rfl | rfl <;> exact ⟨by decide, by decide, by decide⟩
theorem xs_up_ne {α : Type} {f : Nat → α} {k j : Nat} {x : α} (h : j ≠ k) : va_up f k x j = f j := by unfold va_up; rw [if_neg h]
theorem xs_up_eq {α : Type} {f : Nat → α} {k : Nat} {x : α} : va_up f k x k = x := by unfold va_up; rw [if_pos rfl]
theorem xs_sI_at {S : xs_T} {k j : Nat} {v : Int32} : (xs_sI S k j v).1 k = upd (S.1 k) j v := xs_up_eq
theorem xs_sI_off {S : xs_T} {k j : Nat} {v : Int32} : ∀ i, i ≠ k → (xs_sI S k j v).1 i = S.1 i ∧ (xs_sI S k j v).2.1 i = S.2.1 i ∧ (xs_sI S k j v).2.2 i = S.2.2 i := fun i h => ⟨xs_up_ne h, rfl, rfl⟩
theorem xs_sL_off {S : xs_T} {k j : Nat} {v : Int64} : ∀ i, i ≠ k → (xs_sL S k j v).1 i = S.1 i ∧ (xs_sL S k j v).2.1 i = S.2.1 i ∧ (xs_sL S k j v).2.2 i = S.2.2 i := fun i h => ⟨rfl, xs_up_ne h, rfl⟩
theorem xs_sU_off {S : xs_T} {k j u : Nat} : ∀ i, i ≠ k → (xs_sU S k j u).1 i = S.1 i ∧ (xs_sU S k j u).2.1 i = S.2.1 i ∧ (xs_sU S k j u).2.2 i = S.2.2 i := fun i h => ⟨rfl, rfl, xs_up_ne h⟩
