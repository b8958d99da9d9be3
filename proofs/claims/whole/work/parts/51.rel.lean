/-! class and reference: the states that are alike -/
def RS (w : F1) (a : F1) (b k : Nat) : Prop :=
  a b = w 0 ∧ a (b + 1) = w 1 ∧ a (b + 2) = nb (w 2) ∧ a (b + 3) = w 3 ∧ a (b + 4) = w 4 ∧ a (b + 5) = w 5 ∧ a (b + 6) = w 6 ∧ a (b + 7) = w 7 ∧
  (1 ≤ (w 0).toInt) ∧ ∃ p f s : Nat, w 3 = nI p ∧ w 4 = nI f ∧ w 5 = nI s ∧ p < 2 ^ (k + 1) ∧ f < 2 ^ (k + 1) ∧ s < 2 ^ (k + 1)
/-- the numbers -/
def RN (c a : F1) (k wc t : Nat) : Prop :=
  c 0 = nI k ∧ a 0 = nI k ∧ a 1 = nb (c 1) ∧ a 2 = c 2 ∧ a 3 = c 3 ∧ a 4 = c 4 ∧ c 10 = nI wc ∧ a 5 = nI wc ∧ a 6 = c 12 ∧ c 13 = nI t ∧ a 7 = nI t ∧ a 8 = c 14 ∧ a 9 = nI t - c 14 ∧ a 10 = nI (min t 16)
/-- the rows -/
def RW (S : CS) (a : F1) (wc t : Nat) : Prop :=
  (∀ i, i < 16 → a (47 + i) = S 3 i) ∧ (∀ i, i < 16 → a (63 + i) = S 4 i) ∧ (∀ i, i < wc → a (27 + i) = S 5 i) ∧ (∀ j, j < t → j < 16 → a (79 + j) = S 6 ((t - 1 - j) % 16))
def R (S : CS) (a : F1) (k wc t : Nat) : Prop :=
  (1 ≤ k ∧ k ≤ 4) ∧ wc ≤ 20 ∧ RN (S 0) a k wc t ∧ RS (S 1) a 11 k ∧ RS (S 2) a 19 k ∧ RW S a wc t
theorem k4 {k : Nat} (h : 1 ≤ k ∧ k ≤ 4) : k = 1 ∨ k = 2 ∨ k = 3 ∨ k = 4 := by omega
theorem p2k {k : Nat} (h : 1 ≤ k ∧ k ≤ 4) : 2 ^ (k + 1) ≤ 32 := by
  rcases k4 h with rfl | rfl | rfl | rfl <;> decide
/-! what is the same by trying all -/
def dpt (k : Nat) : Int32 := (1 : Int32) <<< ((nI k) &&& (31 : Int32))
def msk (k : Nat) : Int32 := ((2 : Int32) * dpt k) - (1 : Int32)
def gcode (x : Int32) : Int32 := (x ^^^ (x >>> ((1 : Int32) &&& (31 : Int32))))
def gptr (x : Int32) : Int32 := ((((x ^^^ (x >>> ((1 : Int32) &&& (31 : Int32)))) ^^^ (x >>> ((2 : Int32) &&& (31 : Int32)))) ^^^ (x >>> ((3 : Int32) &&& (31 : Int32)))) ^^^ (x >>> ((4 : Int32) &&& (31 : Int32))))
theorem chk_ptr : ∀ k, k < 5 → ∀ c, c < 32 → (c < 2 ^ (k + 1) ∧ 0 < k → (lr_X5_pointerOf_20 (nI c) (((nI k).toInt + 1).toNat + 1) 0 (nI k) = gptr (nI c) ∧ gptr (nI c) = nI (gptr (nI c)).toNatClampNeg ∧ (gptr (nI c)).toNatClampNeg < 2 ^ (k + 1))) := by decide +kernel
def okF (k w s : Nat) : Bool := decide (w < 2 ^ (k + 1) ∧ s < 2 ^ (k + 1) ∧ 0 < k → ((nI s = (nI w + dpt k) &&& msk k) ↔ ((nI w - nI s) &&& msk k = dpt k)))
theorem chk_full' : ∀ k, k < 5 → ∀ w, w < 32 → ∀ s, s < 32 → okF k w s = true := by decide +kernel
theorem chk_full {k w s : Nat} (hk : k < 5) (hw : w < 32) (hs : s < 32) (h : w < 2 ^ (k + 1) ∧ s < 2 ^ (k + 1) ∧ 0 < k) : (nI s = (nI w + dpt k) &&& msk k) ↔ ((nI w - nI s) &&& msk k = dpt k) := of_decide_eq_true (chk_full' k hk w hw s hs) h
def okE (k w s : Nat) : Bool := decide (w < 2 ^ (k + 1) ∧ s < 2 ^ (k + 1) ∧ 0 < k → ((nI s = nI w) ↔ ((nI s - nI w) &&& msk k = 0)))
theorem chk_empty' : ∀ k, k < 5 → ∀ w, w < 32 → ∀ s, s < 32 → okE k w s = true := by decide +kernel
theorem chk_empty {k w s : Nat} (hk : k < 5) (hw : w < 32) (hs : s < 32) (h : w < 2 ^ (k + 1) ∧ s < 2 ^ (k + 1) ∧ 0 < k) : (nI s = nI w) ↔ ((nI s - nI w) &&& msk k = 0) := of_decide_eq_true (chk_empty' k hk w hw s hs) h
theorem chk_samp : ∀ a, a < 32 → ∀ b, b < 32 → ((nI a &&& (21 : Int32)) ||| (nI b &&& (10 : Int32))) = nI a ^^^ ((nI a ^^^ nI b) &&& (170 : Int32)) := by decide +kernel
theorem chk_samp2 : ∀ k, k < 5 → ∀ a, a < 32 → ∀ b, b < 32 → (a < 2 ^ (k + 1) ∧ b < 2 ^ (k + 1) → (nI a ^^^ ((nI a ^^^ nI b) &&& (170 : Int32)) = nI (nI a ^^^ ((nI a ^^^ nI b) &&& (170 : Int32))).toNatClampNeg ∧ (nI a ^^^ ((nI a ^^^ nI b) &&& (170 : Int32))).toNatClampNeg < 2 ^ (k + 1))) := by decide +kernel
def okN (k p : Nat) : Bool := decide (p < 2 ^ (k + 1) ∧ 0 < k → gcode (nI p) = nI (gcode (nI p)).toNatClampNeg ∧ (gcode (nI p)).toNatClampNeg < 2 ^ (k + 1))
def okM (k p : Nat) : Bool := decide (p < 2 ^ (k + 1) ∧ 0 < k → (nI p + 1) &&& msk k = nI ((nI p + 1) &&& msk k).toNatClampNeg ∧ ((nI p + 1) &&& msk k).toNatClampNeg < 2 ^ (k + 1))
def okG (k p : Nat) : Bool := decide (p < 2 ^ (k + 1) ∧ 0 < k → ¬ (gcode (nI p) ^^^ gcode ((nI p + 1) &&& msk k)) = 0)
def okP (k p : Nat) : Bool := decide (p < 2 ^ (k + 1) ∧ 0 < k → ¬ (nI p ^^^ ((nI p + 1) &&& msk k)) = 0)
theorem chk_code : ∀ k, k < 5 → ∀ p, p < 32 → (okN k p && okM k p && okG k p && okP k p) = true := by decide +kernel
theorem chk_N {k p : Nat} (hk : 1 ≤ k ∧ k ≤ 4) (hp : p < 2 ^ (k + 1)) : gcode (nI p) = nI (gcode (nI p)).toNatClampNeg ∧ (gcode (nI p)).toNatClampNeg < 2 ^ (k + 1) := by
  have h := chk_code k (by omega) p (by have := p2k hk; omega)
  rw [Bool.and_eq_true, Bool.and_eq_true, Bool.and_eq_true] at h
  exact of_decide_eq_true h.1.1.1 ⟨hp, by omega⟩
theorem chk_M {k p : Nat} (hk : 1 ≤ k ∧ k ≤ 4) (hp : p < 2 ^ (k + 1)) : (nI p + 1) &&& msk k = nI ((nI p + 1) &&& msk k).toNatClampNeg ∧ ((nI p + 1) &&& msk k).toNatClampNeg < 2 ^ (k + 1) := by
  have h := chk_code k (by omega) p (by have := p2k hk; omega)
  rw [Bool.and_eq_true, Bool.and_eq_true, Bool.and_eq_true] at h
  exact of_decide_eq_true h.1.1.2 ⟨hp, by omega⟩
theorem chk_G {k p : Nat} (hk : 1 ≤ k ∧ k ≤ 4) (hp : p < 2 ^ (k + 1)) : ¬ (gcode (nI p) ^^^ gcode ((nI p + 1) &&& msk k)) = 0 := by
  have h := chk_code k (by omega) p (by have := p2k hk; omega)
  rw [Bool.and_eq_true, Bool.and_eq_true, Bool.and_eq_true] at h
  exact of_decide_eq_true h.1.2 ⟨hp, by omega⟩
theorem chk_P {k p : Nat} (hk : 1 ≤ k ∧ k ≤ 4) (hp : p < 2 ^ (k + 1)) : ¬ (nI p ^^^ ((nI p + 1) &&& msk k)) = 0 := by
  have h := chk_code k (by omega) p (by have := p2k hk; omega)
  rw [Bool.and_eq_true, Bool.and_eq_true, Bool.and_eq_true] at h
  exact of_decide_eq_true h.2 ⟨hp, by omega⟩
/-! reads -/
theorem R_depth {S M : CS} {k wc t : Nat} (h : R S (M 1) k wc t) : r_X2_depth S = dpt k ∧ r_X5_depth M = dpt k := by
  obtain ⟨-, -, hN, -⟩ := h
  unfold r_X2_depth r_X5_depth dpt
  rw [hN.1, hN.2.1]
  exact ⟨rfl, rfl⟩
theorem R_around {S M : CS} {k wc t : Nat} (h : R S (M 1) k wc t) (x : Int32) : r_X2_around S x = x &&& msk k ∧ r_X5_around M x = x &&& msk k := by
  obtain ⟨h1, h2⟩ := R_depth h
  unfold r_X2_around r_X5_around msk
  rw [h1, h2]
  exact ⟨rfl, rfl⟩
theorem nb01 (x : Int32) : nb x = 0 ∨ nb x = 1 := nb_c x
theorem R_code {S M : CS} {k wc t : Nat} (h : R S (M 1) k wc t) (x : Int32) : r_X5_codeOf M x = r_X2_codeOf S x ∧ (r_X2_codeOf S x = x ∨ r_X2_codeOf S x = gcode x) := by
  obtain ⟨-, -, hN, -⟩ := h
  unfold r_X5_codeOf r_X2_codeOf
  rw [hN.2.2.1]
  rcases nb01 (S 0 1) with e | e
  · rw [e, if_neg (by decide), if_pos rfl]; exact ⟨rfl, Or.inl rfl⟩
  · rw [e, if_pos rfl, if_neg (by decide)]; exact ⟨rfl, Or.inr rfl⟩
theorem R_ptr {S M : CS} {k wc t : Nat} (h : R S (M 1) k wc t) {c : Nat} (hc : c < 2 ^ (k + 1)) : r_X5_pointerOf M (nI c) = r_X2_pointerOf S (nI c) ∧ ∃ q, q < 2 ^ (k + 1) ∧ r_X2_pointerOf S (nI c) = nI q := by
  obtain ⟨hk, -, hN, -⟩ := h
  have h32 := p2k hk
  obtain ⟨e1, e2, e3⟩ := chk_ptr k (by omega) c (by omega) ⟨hc, by omega⟩
  unfold r_X5_pointerOf r_X2_pointerOf
  rw [hN.2.2.1, hN.2.1]
  rcases nb01 (S 0 1) with e | e
  · rw [e, if_pos rfl, if_pos rfl]; exact ⟨rfl, c, hc, rfl⟩
  · rw [e, if_neg (by decide), if_neg (by decide)]
    exact ⟨e1, _, e3, e2⟩
theorem of_0 (M : CS) (i : Nat) (hi : i < 8) : r_X5_of M 0 (nI i) = M 1 (11 + i) := by
  unfold r_X5_of
  rw [show (11 : Int32) + ((8 : Int32) * 0) = nI 11 by decide, nI_add, nI_clamp (by omega)]
theorem of_1 (M : CS) (i : Nat) (hi : i < 8) : r_X5_of M 1 (nI i) = M 1 (19 + i) := by
  unfold r_X5_of
  rw [show (11 : Int32) + ((8 : Int32) * 1) = nI 19 by decide, nI_add, nI_clamp (by omega)]
theorem R_fillW {S M : CS} {k wc t : Nat} (h : R S (M 1) k wc t) : r_X5_fillSeen M 0 = r_X2_fillToWriter S := by
  obtain ⟨_, _, _, _, hs1, -⟩ := id h
  obtain ⟨-, -, -, a3, -, a5, -, -, -, p, f, s, e3, e4, e5, hp, hf, hs⟩ := h.2.2.2.1
  unfold r_X5_fillSeen r_X2_fillToWriter
  rw [if_pos rfl, (R_around h _).1, (R_around h _).2]
  have o3 : r_X5_of M 0 3 = S 1 3 := (of_0 M 3 (by decide)).trans a3
  have o5 : r_X5_of M 0 5 = S 1 5 := (of_0 M 5 (by decide)).trans a5
  unfold r_X5_seen
  rw [o3, o5, e5, (R_ptr h hs).1]
theorem R_fillR {S M : CS} {k wc t : Nat} (h : R S (M 1) k wc t) : r_X5_fillSeen M 1 = r_X2_fillToReader S := by
  obtain ⟨-, -, -, a3, -, a5, -, -, -, p, f, s, e3, e4, e5, hp, hf, hs⟩ := h.2.2.2.2.1
  unfold r_X5_fillSeen r_X2_fillToReader
  rw [if_neg (by decide), (R_around h _).1, (R_around h _).2]
  have o3 : r_X5_of M 1 3 = S 2 3 := (of_1 M 3 (by decide)).trans a3
  have o5 : r_X5_of M 1 5 = S 2 5 := (of_1 M 5 (by decide)).trans a5
  unfold r_X5_seen
  rw [o3, o5, e5, (R_ptr h hs).1]
theorem R_full {S M : CS} {k wc t : Nat} (h : R S (M 1) k wc t) : r_X5_seems M 0 = r_X2_seemsFull S := by
  obtain ⟨-, -, -, a3, -, a5, -, -, -, p, f, s, e3, e4, e5, hp, hf, hs⟩ := h.2.2.2.1
  unfold r_X5_seems
  rw [if_pos rfl]
  dsimp only
  rw [R_fillW h]
  unfold r_X2_fillToWriter r_X2_seemsFull
  rw [(R_around h _).1, (R_around h _).1, (R_depth h).1, (R_depth h).2, e3, e5]
  obtain ⟨q, hq, eq⟩ := (R_ptr h hs).2
  rw [eq]
  have h32 := p2k h.1
  have c := chk_full (k := k) (w := p) (s := q) (by have := h.1; omega) (by omega) (by omega) ⟨hp, hq, by have := h.1; omega⟩
  by_cases d : nI q = (nI p + dpt k) &&& msk k
  · rw [if_pos d, if_pos (c.mp d)]
  · rw [if_neg d, if_neg (fun z => d (c.mpr z))]
theorem R_empty {S M : CS} {k wc t : Nat} (h : R S (M 1) k wc t) : r_X5_seems M 1 = r_X2_seemsEmpty S := by
  obtain ⟨-, -, -, a3, -, a5, -, -, -, p, f, s, e3, e4, e5, hp, hf, hs⟩ := h.2.2.2.2.1
  unfold r_X5_seems
  rw [if_neg (by decide)]
  dsimp only
  rw [R_fillR h]
  unfold r_X2_fillToReader r_X2_seemsEmpty
  rw [(R_around h _).1, e3, e5]
  obtain ⟨q, hq, eq⟩ := (R_ptr h hs).2
  rw [eq]
  have h32 := p2k h.1
  have c := chk_empty (k := k) (w := p) (s := q) (by have := h.1; omega) (by omega) (by omega) ⟨hp, hq, by have := h.1; omega⟩
  by_cases d : nI q = nI p
  · rw [if_pos d, if_pos (c.mp d)]
  · rw [if_neg d, if_neg (fun z => d (c.mpr z))]
theorem R_tickW {S M : CS} {k wc t : Nat} (h : R S (M 1) k wc t) (x : Int32) : r_X5_ticksAt M 0 x = r_X1_ticksAt (S 1) x := by
  obtain ⟨a0, a1, a2, -, -, -, -, -, hp, -⟩ := h.2.2.2.1
  unfold r_X5_ticksAt r_X1_ticksAt r_X4_remainder
  have o0 : r_X5_of M 0 0 = S 1 0 := (of_0 M 0 (by decide)).trans a0
  have o1 : r_X5_of M 0 1 = S 1 1 := (of_0 M 1 (by decide)).trans a1
  have o2 : r_X5_of M 0 2 = nb (S 1 2) := (of_0 M 2 (by decide)).trans a2
  rw [o0, o1, o2]
  have hz : ¬ (S 1 0) ≤ 0 := by rw [Int32.le_iff_toInt_le]; have := zero_toI; omega
  rcases nb01 (S 1 2) with e | e
  · rw [e, if_neg (by decide), if_pos rfl]
  · rw [e, if_pos rfl, if_neg (show ¬ (1 : Int32) = 0 by decide), if_neg hz]
theorem R_tickR {S M : CS} {k wc t : Nat} (h : R S (M 1) k wc t) (x : Int32) : r_X5_ticksAt M 1 x = r_X1_ticksAt (S 2) x := by
  obtain ⟨a0, a1, a2, -, -, -, -, -, hp, -⟩ := h.2.2.2.2.1
  unfold r_X5_ticksAt r_X1_ticksAt r_X4_remainder
  have o0 : r_X5_of M 1 0 = S 2 0 := (of_1 M 0 (by decide)).trans a0
  have o1 : r_X5_of M 1 1 = S 2 1 := (of_1 M 1 (by decide)).trans a1
  have o2 : r_X5_of M 1 2 = nb (S 2 2) := (of_1 M 2 (by decide)).trans a2
  rw [o0, o1, o2]
  have hz : ¬ (S 2 0) ≤ 0 := by rw [Int32.le_iff_toInt_le]; have := zero_toI; omega
  rcases nb01 (S 2 2) with e | e
  · rw [e, if_neg (by decide), if_pos rfl]
  · rw [e, if_pos rfl, if_neg (show ¬ (1 : Int32) = 0 by decide), if_neg hz]
