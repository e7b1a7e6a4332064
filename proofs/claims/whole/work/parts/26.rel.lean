/-! the class's part of a state (S) and the reference's part of a state (R): what ties them; N: how many calls there were; K: the root keys -/
def relF (S R : xs_T) (u f : Nat) : Prop := ∃ n b t, xs_cf S u n b ∧ 12 ≤ n ∧ S.1 u 2 = nI t ∧ t ≤ 3 ∧ xs_rf R f n b ∧ R.1 211 f = nI t
def relA (N : Nat) (S R : xs_T) : Prop :=
  (∃ m, S.1 1 2 = nI m ∧ R.1 200 12 = nI m ∧ m ≤ 12 ∧ ∀ j, j < m → relF S R (S.2.2 2 j) j) ∧
  (∃ n, S.1 1 3 = nI n ∧ R.1 200 13 = nI n ∧ n ≤ 400 * N ∧ ∀ j, j < 8 → j < n → relF S R (28 + 2 * j) (12 + j)) ∧
  (∀ j, j < 12 → ∃ t, t < 12 ∧ S.2.2 2 j = 4 + 2 * t) ∧ (∀ i j, i < 12 → j < 12 → S.2.2 2 i = S.2.2 2 j → i = j) ∧ ∀ j, j < 8 → S.2.2 3 j = 28 + 2 * j
def relI (N : Nat) (S R : xs_T) (k l : Nat) : Prop := (∃ n, S.1 k 1 = nI n ∧ R.1 234 l = nI n ∧ n ≤ N) ∧ ∀ j, j < 4 → S.2.1 (k + 1) j = R.2.1 235 (4 * l + j)
def relS (S R : xs_T) (k i : Nat) (ra : Nat → Prop) : Prop := ∃ addr k1 k2, xs_ses S k addr (ySch k1) (ySch k2) ∧ ra addr ∧ xs_by R 207 (16 * i) 16 k1 ∧ xs_by R 207 (16 * (i + 1)) 16 k2
def relD (N tm d : Nat) (S R : xs_T) : Prop :=
  S.1 (53 + 24 * d) 0 = nI d ∧
  (∃ st nc gs cu w sa ts cf, (S.1 (53 + 24 * d) 6 = nI st ∧ R.1 212 d = nI st ∧ st ≤ 2) ∧ (S.1 (53 + 24 * d) 7 = nI nc ∧ R.1 216 d = nI nc ∧ nc ≤ N) ∧ (S.1 (53 + 24 * d) 8 = nI gs ∧ R.1 217 d = nI gs ∧ gs < 2 ^ 24) ∧ (S.1 (53 + 24 * d) 9 = nI cu ∧ R.1 219 d = nI cu ∧ cu ≤ 70001 * N) ∧
    (S.1 (53 + 24 * d) 11 = nI w ∧ R.1 213 d = nI w ∧ w ≤ 1) ∧ (S.1 (53 + 24 * d) 12 = nI sa ∧ R.1 214 d = nI sa ∧ sa ≤ tm) ∧ (S.1 (53 + 24 * d) 13 = nI ts ∧ R.1 215 d = nI ts ∧ ts ≤ 4) ∧ (S.1 (53 + 24 * d) 14 = nI cf ∧ cf ≤ 1) ∧
    (w = 1 → 1 ≤ st ∧ tm ≤ sa + 2) ∧ (∃ n b, xs_cf S (67 + 24 * d) n b ∧ xs_rf R (20 + d) n b ∧ (w = 1 → 12 ≤ n ∧ S.1 (67 + 24 * d) 2 = nI 3 ∧ R.1 211 (20 + d) = nI 3) ∧ (1 ≤ st → 1 ≤ n ∧ (cf = 1 ↔ b 0 = 128))) ∧
    (st = 2 → (∃ m, S.1 (53 + 24 * d) 10 + 1 = nI m ∧ m ≤ 65536 * N) ∧ S.1 (53 + 24 * d) 10 = R.1 220 d ∧ relS S R (54 + 24 * d) (3 + 2 * d) (fun a => R.1 218 d = nI a))) ∧
  (∀ j, j < 3 → S.1 (53 + 24 * d) (15 + j) = R.1 236 (3 * d + j)) ∧ relI N S R (65 + 24 * d) (3 + d)
def relK (N d : Nat) (S R : xs_T) : Prop :=
  S.1 (123 + 16 * d) 0 = nI d ∧
  (∃ q ss sr gn gw du ak ck, (S.1 (123 + 16 * d) 6 = nI q ∧ R.1 233 d = nI q ∧ q ≤ 4) ∧ (S.1 (123 + 16 * d) 7 = nI ss ∧ R.1 221 d = nI ss ∧ ss ≤ N) ∧ (S.1 (123 + 16 * d) 8 = nI sr ∧ R.1 223 d = nI sr ∧ sr ≤ N) ∧ (S.1 (123 + 16 * d) 9 + 1 = nI gn ∧ R.1 226 d = S.1 (123 + 16 * d) 9 ∧ gn ≤ 65536) ∧
    (S.1 (123 + 16 * d) 12 = nI gw ∧ R.1 227 d = nI gw ∧ gw ≤ 3) ∧ (S.1 (123 + 16 * d) 13 = nI du ∧ R.1 228 d = nI du ∧ du ≤ 2) ∧ (S.1 (123 + 16 * d) 14 = nI ak ∧ ak ≤ 1 ∧ (du ≠ 2 → ak = 0) ∧ (du = 2 → R.1 229 d = nI ak)) ∧ (S.1 (123 + 16 * d) 15 = nI ck ∧ ck ≤ 1 ∧ (du ≠ 2 → ck = 0) ∧ (du = 2 → R.1 230 d = nI ck)) ∧
    (du ≠ 0 → 1 ≤ ss) ∧ (∀ j, j < q → S.2.1 (137 + 16 * d) j = R.2.1 231 (4 * d + j) ∧ ∃ x, S.1 (138 + 16 * d) j = nI x ∧ R.1 232 (4 * d + j) = nI x ∧ 1 ≤ x ∧ x ≤ 8) ∧
    (1 ≤ ss → (∃ m, S.1 (123 + 16 * d) 10 + 1 = nI m ∧ m ≤ 65536 * N) ∧ R.1 224 d = S.1 (123 + 16 * d) 10 ∧ (∃ m, S.1 (123 + 16 * d) 11 = nI m ∧ R.1 225 d = nI m ∧ m ≤ 50 * N) ∧ relS S R (124 + 16 * d) (9 + 2 * d) (fun a => R.1 222 d = nI a ∧ ∃ x, x < 256 ∧ a = yP (d + 1) x 0 38))) ∧
  relI N S R (135 + 16 * d) d
def relT (K : Nat → Nat → Nat) (S R : xs_T) : Prop := xs_bx R ∧ ∀ d, d < 3 → xs_by R 207 (16 * d) 16 (K d) ∧ xs_mac S (47 + 24 * d) (ySch (K d))
def relG (N tm : Nat) (S R : xs_T) : Prop := (S.1 0 3 = nI tm ∧ R.1 200 8 = nI tm ∧ tm ≤ 50 * N) ∧ (∃ n, S.1 119 2 = nI n ∧ R.1 200 23 = nI n ∧ n ≤ N) ∧ ∀ d, d < 3 → S.2.2 44 d = 53 + 24 * d ∧ S.2.2 120 d = 123 + 16 * d
def Rel (K : Nat → Nat → Nat) (N tm : Nat) (S R : xs_T) : Prop := relT K S R ∧ relG N tm S R ∧ relA N S R ∧ (∀ d, d < 3 → relD N tm d S R) ∧ ∀ d, d < 3 → relK N d S R
/-- within a tick: the devices' own time td -/
def RelT (K : Nat → Nat → Nat) (N tm : Nat) (td : Nat → Nat) (S R : xs_T) : Prop := relT K S R ∧ relG N tm S R ∧ relA N S R ∧ (∀ d, d < 3 → relD N (td d) d S R) ∧ ∀ d, d < 3 → relK N d S R
/-! frames -/
def xs_ag (p : Nat → Prop) (S T : xs_T) : Prop := ∀ q, p q → T.1 q = S.1 q ∧ T.2.1 q = S.2.1 q ∧ T.2.2 q = S.2.2 q
theorem ag_mono {p p2 : Nat → Prop} {S T : xs_T} (h : xs_ag p S T) (hp : ∀ q, p2 q → p q) : xs_ag p2 S T := fun q hq => h q (hp q hq)
theorem ag_eq {ps : List Nat} {p : Nat → Prop} {S T : xs_T} (h : xs_eq ps S T) (hp : ∀ q, p q → q ∉ ps) : xs_ag p S T := fun q hq => ⟨h.1 q (hp q hq), by rw [h.2], by rw [h.2]⟩
theorem ag_tr {p : Nat → Prop} {S T U : xs_T} (h1 : xs_ag p S T) (h2 : xs_ag p T U) : xs_ag p S U := fun q hq => ⟨(h2 q hq).1.trans (h1 q hq).1, (h2 q hq).2.1.trans (h1 q hq).2.1, (h2 q hq).2.2.trans (h1 q hq).2.2⟩
theorem ag_rf {p : Nat → Prop} {S : xs_T} : xs_ag p S S := fun _ _ => ⟨rfl, rfl, rfl⟩
theorem ag_by {p : Nat → Prop} {S T : xs_T} {q fr n : Nat} {s : Nat → Nat} (h : xs_ag p S T) (hq : p q) (hs : xs_by S q fr n s) : xs_by T q fr n s := fun i hi => by rw [(h q hq).1]; exact hs i hi
theorem ag_rk {p : Nat → Prop} {S T : xs_T} {q : Nat} {W : Nat → Nat} (h : xs_ag p S T) (hq : p q) (hs : xs_rk S q W) : xs_rk T q W := ⟨hs.1, fun j hj => by rw [(h q hq).1]; exact hs.2 j hj⟩
theorem ag_mac {p : Nat → Prop} {S T : xs_T} {k : Nat} {W : Nat → Nat} (h : xs_ag p S T) (h2 : p (k + 2)) (h3 : p (k + 3)) (h4 : p (k + 4)) (hs : xs_mac S k W) : xs_mac T k W := ⟨ag_rk h h2 hs.1, ag_by h h3 hs.2.1, ag_by h h4 hs.2.2⟩
theorem ag_cf {p : Nat → Prop} {S T : xs_T} {k n : Nat} {b : Nat → Nat} (h : xs_ag p S T) (h0 : p k) (h1 : p (k + 1)) (hs : xs_cf S k n b) : xs_cf T k n b := ⟨by rw [(h k h0).1]; exact hs.1, hs.2.1, ag_by h h1 hs.2.2⟩
theorem ag_ses {p : Nat → Prop} {S T : xs_T} {k addr : Nat} {W1 W2 : Nat → Nat} (h : xs_ag p S T) (h0 : p k) (h3 : p (k + 3)) (h4 : p (k + 4)) (h5 : p (k + 5)) (h8 : p (k + 8)) (hs : xs_ses S k addr W1 W2) : xs_ses T k addr W1 W2 := ⟨by rw [(h k h0).1]; exact hs.1, hs.2.1, ag_mac (k := k + 1) h h3 h4 h5 hs.2.2.1, ag_rk h h8 hs.2.2.2⟩
/-- a reference's frame stays -/
def agF (f : Nat) (R T : xs_T) : Prop := (∀ j, j < 32 → T.1 209 (32 * f + j) = R.1 209 (32 * f + j)) ∧ T.1 210 f = R.1 210 f ∧ T.1 211 f = R.1 211 f
theorem agF_rf {f n : Nat} {R T : xs_T} {b : Nat → Nat} (h : agF f R T) (hs : xs_rf R f n b) : xs_rf T f n b := ⟨by rw [h.2.1]; exact hs.1, hs.2.1, fun i hi => by rw [h.1 i (by have := hs.2.1; omega)]; exact hs.2.2 i hi⟩
theorem relF_fr {S S2 R R2 : xs_T} {u f : Nat} {p : Nat → Prop} (h : relF S R u f) (hS : xs_ag p S S2) (h0 : p u) (h1 : p (u + 1)) (hR : agF f R R2) : relF S2 R2 u f := by
  obtain ⟨n, b, t, c1, c2, c3, c4, c5, c6⟩ := h
  exact ⟨n, b, t, ag_cf hS h0 h1 c1, c2, by rw [(hS u h0).1]; exact c3, c4, agF_rf hR c5, by rw [hR.2.2]; exact c6⟩
def agA (R T : xs_T) : Prop := T.1 200 12 = R.1 200 12 ∧ T.1 200 13 = R.1 200 13 ∧ ∀ f, f < 20 → agF f R T
theorem relA_fr {N M : Nat} {S S2 R R2 : xs_T} (h : relA N S R) (hNM : N ≤ M) (hS : xs_ag (fun q => 1 ≤ q ∧ q < 44) S S2) (hR : agA R R2) : relA M S2 R2 := by
  obtain ⟨⟨m, a1, a2, a3, a4⟩, ⟨n, b1, b2, b3, b4⟩, c, d, e⟩ := h
  have e2 : S2.2.2 2 = S.2.2 2 := (hS 2 (by omega)).2.2
  have e3 : S2.2.2 3 = S.2.2 3 := (hS 3 (by omega)).2.2
  have e1 : S2.1 1 = S.1 1 := (hS 1 (by omega)).1
  refine ⟨⟨m, by rw [e1]; exact a1, by rw [hR.1]; exact a2, a3, fun j hj => ?_⟩, ⟨n, by rw [e1]; exact b1, by rw [hR.2.1]; exact b2, Nat.le_trans b3 (Nat.mul_le_mul_left _ hNM), fun j hj hn => ?_⟩, fun j hj => by rw [e2]; exact c j hj, fun i j hi hj => by rw [e2]; exact d i j hi hj, fun j hj => by rw [e3]; exact e j hj⟩
  · rw [e2]
    obtain ⟨t, ht, et⟩ := c j (by omega)
    exact relF_fr (a4 j hj) hS (by rw [et]; omega) (by rw [et]; omega) (hR.2.2 j (by omega))
  · exact relF_fr (b4 j hj hn) hS (by omega) (by omega) (hR.2.2 _ (by omega))
theorem relI_fr {N M : Nat} {S S2 R R2 : xs_T} {k l : Nat} {p : Nat → Prop} (h : relI N S R k l) (hNM : N ≤ M) (hS : xs_ag p S S2) (h0 : p k) (h1 : p (k + 1)) (hR1 : R2.1 234 l = R.1 234 l) (hR2 : ∀ j, j < 4 → R2.2.1 235 (4 * l + j) = R.2.1 235 (4 * l + j)) : relI M S2 R2 k l := by
  obtain ⟨⟨n, a1, a2, a3⟩, b⟩ := h
  exact ⟨⟨n, by rw [(hS k h0).1]; exact a1, by rw [hR1]; exact a2, by omega⟩, fun j hj => by rw [(hS (k + 1) h1).2.1, hR2 j hj]; exact b j hj⟩
theorem relS_fr {S S2 R R2 : xs_T} {k i : Nat} {ra ra2 : Nat → Prop} {p : Nat → Prop} (h : relS S R k i ra) (hra : ∀ a, ra a → ra2 a) (hS : xs_ag p S S2) (h0 : p k) (h3 : p (k + 3)) (h4 : p (k + 4)) (h5 : p (k + 5)) (h8 : p (k + 8)) (hR : ∀ j, j < 32 → R2.1 207 (16 * i + j) = R.1 207 (16 * i + j)) : relS S2 R2 k i ra2 := by
  obtain ⟨addr, k1, k2, a, b, c, d⟩ := h
  refine ⟨addr, k1, k2, ag_ses hS h0 h3 h4 h5 h8 a, hra addr b, fun j hj => ?_, fun j hj => ?_⟩
  · rw [hR j (by omega)]
    exact c j hj
  · have e := hR (16 + j) (by omega)
    rw [show 16 * i + (16 + j) = 16 * (i + 1) + j by omega] at e
    rw [e]
    exact d j hj
def agD (d : Nat) (R T : xs_T) : Prop := (∀ q, 212 ≤ q → q ≤ 220 → T.1 q d = R.1 q d) ∧ (∀ j, j < 3 → T.1 236 (3 * d + j) = R.1 236 (3 * d + j)) ∧ T.1 234 (3 + d) = R.1 234 (3 + d) ∧ (∀ j, j < 4 → T.2.1 235 (4 * (3 + d) + j) = R.2.1 235 (4 * (3 + d) + j)) ∧ agF (20 + d) R T ∧ ∀ j, j < 32 → T.1 207 (16 * (3 + 2 * d) + j) = R.1 207 (16 * (3 + 2 * d) + j)
theorem relD_fr {N M tm d : Nat} {S S2 R R2 : xs_T} (h : relD N tm d S R) (hNM : N ≤ M) (htm : tm ≤ tm) (hS : xs_ag (fun q => 53 + 24 * d ≤ q ∧ q < 71 + 24 * d) S S2) (hR : agD d R R2) : relD M tm d S2 R2 := by
  obtain ⟨r1, r2, r3, r4, r5, r6⟩ := hR
  obtain ⟨h0, ⟨st, nc, gs, cu, w, sa, ts, cf, ⟨a1, a2, a3⟩, ⟨b1, b2, b3⟩, ⟨c1, c2, c3⟩, ⟨d1, d2, d3⟩, ⟨e1, e2, e3⟩, ⟨f1, f2, f3⟩, ⟨g1, g2, g3⟩, ⟨i1, i2⟩, j1, ⟨n, b, k1, k2, k3, k4⟩, l1⟩, h2, h3⟩ := h
  have e : S2.1 (53 + 24 * d) = S.1 (53 + 24 * d) := (hS _ (by omega)).1
  have e' : S2.1 (67 + 24 * d) = S.1 (67 + 24 * d) := (hS _ (by omega)).1
  refine ⟨by rw [e]; exact h0, ⟨st, nc, gs, cu, w, sa, ts, cf, ⟨by rw [e]; exact a1, by rw [r1 212 (by omega) (by omega)]; exact a2, a3⟩, ⟨by rw [e]; exact b1, by rw [r1 216 (by omega) (by omega)]; exact b2, by omega⟩, ⟨by rw [e]; exact c1, by rw [r1 217 (by omega) (by omega)]; exact c2, c3⟩, ⟨by rw [e]; exact d1, by rw [r1 219 (by omega) (by omega)]; exact d2, Nat.le_trans d3 (Nat.mul_le_mul_left _ hNM)⟩, ⟨by rw [e]; exact e1, by rw [r1 213 (by omega) (by omega)]; exact e2, e3⟩, ⟨by rw [e]; exact f1, by rw [r1 214 (by omega) (by omega)]; exact f2, by omega⟩, ⟨by rw [e]; exact g1, by rw [r1 215 (by omega) (by omega)]; exact g2, g3⟩, ⟨by rw [e]; exact i1, i2⟩, j1, ⟨n, b, ag_cf hS (by omega) (by omega) k1, agF_rf r5 k2, fun hw => ⟨(k3 hw).1, by rw [e']; exact (k3 hw).2.1, by rw [r5.2.2]; exact (k3 hw).2.2⟩, k4⟩, fun hst => ?_⟩, fun j hj => by rw [e, r2 j hj]; exact h2 j hj, relI_fr h3 hNM hS (by omega) (by omega) r3 r4⟩
  obtain ⟨⟨m, m1, m2⟩, m3, m4⟩ := l1 hst
  exact ⟨⟨m, by rw [e]; exact m1, Nat.le_trans m2 (Nat.mul_le_mul_left _ hNM)⟩, by rw [e, r1 220 (by omega) (by omega)]; exact m3, relS_fr m4 (fun a ha => by rw [r1 218 (by omega) (by omega)]; exact ha) hS (by omega) (by omega) (by omega) (by omega) (by omega) r6⟩
def agK (d : Nat) (R T : xs_T) : Prop := (∀ q, 221 ≤ q → q ≤ 230 → T.1 q d = R.1 q d) ∧ T.1 233 d = R.1 233 d ∧ (∀ j, j < 4 → T.2.1 231 (4 * d + j) = R.2.1 231 (4 * d + j) ∧ T.1 232 (4 * d + j) = R.1 232 (4 * d + j)) ∧ T.1 234 d = R.1 234 d ∧ (∀ j, j < 4 → T.2.1 235 (4 * d + j) = R.2.1 235 (4 * d + j)) ∧ ∀ j, j < 32 → T.1 207 (16 * (9 + 2 * d) + j) = R.1 207 (16 * (9 + 2 * d) + j)
theorem relK_fr {N M d : Nat} {S S2 R R2 : xs_T} (h : relK N d S R) (hNM : N ≤ M) (hS : xs_ag (fun q => 123 + 16 * d ≤ q ∧ q < 139 + 16 * d) S S2) (hR : agK d R R2) : relK M d S2 R2 := by
  obtain ⟨r1, r2, r3, r4, r5, r6⟩ := hR
  obtain ⟨h0, ⟨q, ss, sr, gn, gw, du, ak, ck, ⟨a1, a2, a3⟩, ⟨b1, b2, b3⟩, ⟨c1, c2, c3⟩, ⟨d1, d2, d3⟩, ⟨e1, e2, e3⟩, ⟨f1, f2, f3⟩, ⟨g1, g2, g3, g4⟩, ⟨i1, i2, i3, i4⟩, j1, k1, l1⟩, h3⟩ := h
  have e : S2.1 (123 + 16 * d) = S.1 (123 + 16 * d) := (hS _ (by omega)).1
  refine ⟨by rw [e]; exact h0, ⟨q, ss, sr, gn, gw, du, ak, ck, ⟨by rw [e]; exact a1, by rw [r2]; exact a2, a3⟩, ⟨by rw [e]; exact b1, by rw [r1 221 (by omega) (by omega)]; exact b2, by omega⟩, ⟨by rw [e]; exact c1, by rw [r1 223 (by omega) (by omega)]; exact c2, by omega⟩, ⟨by rw [e]; exact d1, by rw [e, r1 226 (by omega) (by omega)]; exact d2, d3⟩, ⟨by rw [e]; exact e1, by rw [r1 227 (by omega) (by omega)]; exact e2, e3⟩, ⟨by rw [e]; exact f1, by rw [r1 228 (by omega) (by omega)]; exact f2, f3⟩, ⟨by rw [e]; exact g1, g2, g3, fun hd => by rw [r1 229 (by omega) (by omega)]; exact g4 hd⟩, ⟨by rw [e]; exact i1, i2, i3, fun hd => by rw [r1 230 (by omega) (by omega)]; exact i4 hd⟩, j1, fun j hj => ?_, fun hss => ?_⟩, relI_fr h3 hNM hS (by omega) (by omega) r4 r5⟩
  · obtain ⟨x1, x, x2, x3, x4⟩ := k1 j hj
    exact ⟨by rw [(hS (137 + 16 * d) (by omega)).2.1, (r3 j (by omega)).1]; exact x1, x, by rw [(hS (138 + 16 * d) (by omega)).1]; exact x2, by rw [(r3 j (by omega)).2]; exact x3, x4⟩
  · obtain ⟨⟨m, m1, m2⟩, m3, ⟨m', m4, m5, m6⟩, m7⟩ := l1 hss
    exact ⟨⟨m, by rw [e]; exact m1, Nat.le_trans m2 (Nat.mul_le_mul_left _ hNM)⟩, by rw [e, r1 224 (by omega) (by omega)]; exact m3, ⟨m', by rw [e]; exact m4, by rw [r1 225 (by omega) (by omega)]; exact m5, Nat.le_trans m6 (Nat.mul_le_mul_left _ hNM)⟩, relS_fr m7 (fun a ha => by rw [r1 222 (by omega) (by omega)]; exact ha) hS (by omega) (by omega) (by omega) (by omega) (by omega) r6⟩
def agT (R T : xs_T) : Prop := T.1 201 = R.1 201 ∧ T.1 202 = R.1 202 ∧ ∀ j, j < 48 → T.1 207 j = R.1 207 j
theorem relT_fr {K : Nat → Nat → Nat} {S S2 R R2 : xs_T} (h : relT K S R) (hS : xs_ag (fun q => ∃ d, d < 3 ∧ 47 + 24 * d + 2 ≤ q ∧ q ≤ 47 + 24 * d + 4) S S2) (hR : agT R R2) : relT K S2 R2 :=
  ⟨fun a ha => by rw [hR.1, hR.2.1]; exact h.1 a ha, fun d hd => ⟨fun i hi => by rw [hR.2.2 _ (by omega)]; exact (h.2 d hd).1 i hi, ag_mac hS ⟨d, hd, by omega, by omega⟩ ⟨d, hd, by omega, by omega⟩ ⟨d, hd, by omega, by omega⟩ (h.2 d hd).2⟩⟩
def agG (R T : xs_T) : Prop := T.1 200 8 = R.1 200 8 ∧ T.1 200 23 = R.1 200 23
theorem relG_fr {N M tm : Nat} {S S2 R R2 : xs_T} (h : relG N tm S R) (hNM : N ≤ M) (hS : xs_ag (fun q => q = 0 ∨ q = 44 ∨ q = 119 ∨ q = 120) S S2) (hR : agG R R2) : relG M tm S2 R2 := by
  obtain ⟨⟨a1, a2, a3⟩, ⟨n, b1, b2, b3⟩, c⟩ := h
  exact ⟨⟨by rw [(hS 0 (by omega)).1]; exact a1, by rw [hR.1]; exact a2, Nat.le_trans a3 (Nat.mul_le_mul_left _ hNM)⟩, ⟨n, by rw [(hS 119 (by omega)).1]; exact b1, by rw [hR.2]; exact b2, by omega⟩, fun d hd => ⟨by rw [(hS 44 (by omega)).2.2]; exact (c d hd).1, by rw [(hS 120 (by omega)).2.2]; exact (c d hd).2⟩⟩
theorem agF_ag {f : Nat} {R T : xs_T} (h : xs_ag (fun q => 200 ≤ q) R T) : agF f R T := ⟨fun j _ => by rw [(h 209 (by decide)).1], by rw [(h 210 (by decide)).1], by rw [(h 211 (by decide)).1]⟩
/-- each side alone: what else lies in the state doesn't matter -/
theorem Rel_fr {K : Nat → Nat → Nat} {N M tm : Nat} {S S2 R R2 : xs_T} (h : Rel K N tm S R) (hNM : N ≤ M) (hS : xs_ag (fun q => q < 200) S S2) (hR : xs_ag (fun q => 200 ≤ q) R R2) : Rel K M tm S2 R2 := by
  have r : ∀ q, 200 ≤ q → R2.1 q = R.1 q := fun q hq => (hR q hq).1
  have r2 : ∀ q, 200 ≤ q → R2.2.1 q = R.2.1 q := fun q hq => (hR q hq).2.1
  refine ⟨relT_fr h.1 (ag_mono hS fun q hq => ?_) ⟨r 201 (by decide), r 202 (by decide), fun j _ => by rw [r 207 (by decide)]⟩, relG_fr h.2.1 hNM (ag_mono hS fun q hq => by omega) ⟨by rw [r 200 (by decide)], by rw [r 200 (by decide)]⟩, relA_fr h.2.2.1 hNM (ag_mono hS fun q hq => by omega) ⟨by rw [r 200 (by decide)], by rw [r 200 (by decide)], fun f _ => agF_ag hR⟩, fun d hd => relD_fr (h.2.2.2.1 d hd) hNM (Nat.le_refl _) (ag_mono hS fun q hq => by omega) ⟨fun q h1 h2 => by rw [r q (by omega)], fun j _ => by rw [r 236 (by decide)], by rw [r 234 (by decide)], fun j _ => by rw [r2 235 (by decide)], agF_ag hR, fun j _ => by rw [r 207 (by decide)]⟩, fun d hd => relK_fr (h.2.2.2.2 d hd) hNM (ag_mono hS fun q hq => by omega) ⟨fun q h1 h2 => by rw [r q (by omega)], by rw [r 233 (by decide)], fun j _ => ⟨by rw [r2 231 (by decide)], by rw [r 232 (by decide)]⟩, by rw [r 234 (by decide)], fun j _ => by rw [r2 235 (by decide)], fun j _ => by rw [r 207 (by decide)]⟩⟩
  obtain ⟨d, hd, h1, h2⟩ := hq
  show q < 200
  omega
