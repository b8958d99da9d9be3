/-! what is so of one object's ring -/
/-- a side's clock, its ticks and its torn samples -/
def CK (w : F1) (t : Nat) : Prop := ∃ p f x y : Nat, w 0 = nI p ∧ 1 ≤ p ∧ p ≤ 50 ∧ w 1 = nI f ∧ f ≤ 49 ∧ w 6 = nI x ∧ w 7 = nI y ∧ y ≤ x ∧ x ≤ t
/-- a side's pointer, which comes to the count c, and its registers -/
def RP (w : F1) (k c : Nat) : Prop := w 3 = nI (c % 2 ^ (k + 1)) ∧ ∃ a b : Nat, a < 2 ^ (k + 1) ∧ b < 2 ^ (k + 1) ∧ w 4 = nI a ∧ w 5 = nI b
/-- the numbers of the places -/
def NU (n : F1) (k P : Nat) : Prop := ∀ q, q < 2 ^ k → (n q = -5 ∧ P ≤ q) ∨ ∃ j : Nat, n q = nI j ∧ j % 2 ^ k = q ∧ j < P ∧ P ≤ j + 2 ^ k
/-- the ring's numbers -/
def BN (c : F1) (k t wc P T : Nat) : Prop := c 0 = nI k ∧ c 2 = nI t ∧ c 10 = nI wc ∧ c 12 = nI P ∧ c 13 = nI T
def IB (S : CS) (k t wc P T : Nat) : Prop := (1 ≤ k ∧ k ≤ 4) ∧ wc ≤ 20 ∧ t < 2 ^ 29 ∧ P ≤ t ∧ T ≤ t ∧ BN (S 0) k t wc P T ∧ CK (S 1) t ∧ CK (S 2) t ∧ RP (S 1) k P ∧ RP (S 2) k T ∧ NU (S 4) k P ∧ ∃ r : Nat, S 0 14 = nI r ∧ r ≤ T
/-- in gray code: the registers hold codes of counts that were, and no word came wrong -/
def GR (w r : F1) (k P T : Nat) : Prop := ∃ a1 a2 b1 b2 : Nat, w 4 = gcode (nI (a1 % 2 ^ (k + 1))) ∧ w 5 = gcode (nI (a2 % 2 ^ (k + 1))) ∧ r 4 = gcode (nI (b1 % 2 ^ (k + 1))) ∧ r 5 = gcode (nI (b2 % 2 ^ (k + 1))) ∧ a2 ≤ a1 ∧ a1 ≤ T ∧ P ≤ a2 + 2 ^ k ∧ b2 ≤ b1 ∧ b1 ≤ P ∧ T ≤ b2
def GY (S : CS) (k P T : Nat) : Prop := ¬ nb (S 0 1) = 0 → S 0 14 = nI T ∧ GR (S 1) (S 2) k P T
/-! two objects: words and 99 less them, phases and what is left of them -/
def RK (w v : F1) : Prop := v 0 = w 0 ∧ nb (v 2) = nb (w 2) ∧ v 3 = w 3 ∧ v 4 = w 4 ∧ v 5 = w 5 ∧ v 6 = w 6 ∧ v 7 = w 7 ∧ ∃ p f : Nat, w 0 = nI p ∧ 1 ≤ p ∧ p ≤ 50 ∧ w 1 = nI f ∧ f ≤ 49 ∧ v 1 = nI (f % p)
def WD (x y : Int32) : Prop := ∃ a : Nat, a ≤ 99 ∧ x = nI a ∧ y = nI (99 - a)
def CM (x y : Int32) : Prop := ∃ c a b : Nat, c ≤ 1 ∧ x = nI (a + 100 * c) ∧ y = nI (b + 100 * c) ∧ a ≤ 99 ∧ b ≤ 99 ∧ (a + b = 99 ∨ (c = 1 ∧ a = 0 ∧ b = 0))
def RN (c d : F1) : Prop := d 0 = c 0 ∧ nb (d 1) = nb (c 1) ∧ d 2 = c 2 ∧ d 3 = c 3 ∧ d 4 = c 4 ∧ d 10 = c 10 ∧ d 12 = c 12 ∧ d 13 = c 13 ∧ d 14 = c 14
def RW (S Z : CS) (wc T : Nat) : Prop := (∀ i, i < 16 → Z 4 i = S 4 i) ∧ (∀ i, i < 16 → S 4 i = -5 → S 3 i = 0 ∧ Z 3 i = 0) ∧ (∀ i, i < 16 → ¬ S 4 i = -5 → WD (S 3 i) (Z 3 i)) ∧ (∀ i, i < wc → WD (S 5 i) (Z 5 i)) ∧ (∀ j, j < 16 → j < T → CM (S 6 j) (Z 6 j))
def RE (S Z : CS) (wc T : Nat) : Prop := RN (S 0) (Z 0) ∧ RK (S 1) (Z 1) ∧ RK (S 2) (Z 2) ∧ RW S Z wc T
/-- what the closed forms of a step ask -/
def BS (S : CS) (k t wc P T : Nat) : Prop := (1 ≤ k ∧ k ≤ 4) ∧ wc ≤ 20 ∧ t < 2 ^ 29 ∧ T ≤ t ∧ BN (S 0) k t wc P T ∧ RP (S 1) k P ∧ RP (S 2) k T
theorem IB.bs {S : CS} {k t wc P T : Nat} (h : IB S k t wc P T) : BS S k t wc P T := ⟨h.1, h.2.1, h.2.2.1, h.2.2.2.2.1, h.2.2.2.2.2.1, h.2.2.2.2.2.2.2.2.1, h.2.2.2.2.2.2.2.2.2.1⟩
theorem RP.rk {w v : F1} {k c : Nat} (h : RP w k c) (e : RK w v) : RP v k c := by
  obtain ⟨-, -, e3, e4, e5, -⟩ := e
  unfold RP
  rw [e3, e4, e5]
  exact h
theorem BN.rn {c d : F1} {k t wc P T : Nat} (h : BN c k t wc P T) (e : RN c d) : BN d k t wc P T := by
  obtain ⟨e0, -, e2, -, -, e10, e12, e13, -⟩ := e
  unfold BN
  rw [e0, e2, e10, e12, e13]
  exact h
theorem BS.rl {S Z : CS} {k t wc P T w T' : Nat} (h : BS S k t wc P T) (e : RE S Z w T') : BS Z k t wc P T :=
  ⟨h.1, h.2.1, h.2.2.1, h.2.2.2.1, h.2.2.2.2.1.rn e.1, h.2.2.2.2.2.1.rk e.2.1, h.2.2.2.2.2.2.rk e.2.2.1⟩
/-! both read alike -/
theorem RL_code {S Z : CS} {w T : Nat} (h : RE S Z w T) (x : Int32) : r_X2_codeOf Z x = r_X2_codeOf S x := by
  unfold r_X2_codeOf; rw [h.1.2.1]
theorem RL_ptr {S Z : CS} {w T : Nat} (h : RE S Z w T) (x : Int32) : r_X2_pointerOf Z x = r_X2_pointerOf S x := by
  unfold r_X2_pointerOf; rw [h.1.2.1]
theorem RL_depth {S Z : CS} {w T : Nat} (h : RE S Z w T) : r_X2_depth Z = r_X2_depth S := by
  unfold r_X2_depth; rw [h.1.1]
theorem RL_around {S Z : CS} {w T : Nat} (h : RE S Z w T) (x : Int32) : r_X2_around Z x = r_X2_around S x := by
  unfold r_X2_around; rw [RL_depth h]
theorem RL_fillW {S Z : CS} {w T : Nat} (h : RE S Z w T) : r_X2_fillToWriter Z = r_X2_fillToWriter S := by
  obtain ⟨-, -, e3, e4, e5, -⟩ := h.2.1
  unfold r_X2_fillToWriter; rw [RL_around h, RL_ptr h, e3, e5]
theorem RL_fillR {S Z : CS} {w T : Nat} (h : RE S Z w T) : r_X2_fillToReader Z = r_X2_fillToReader S := by
  obtain ⟨-, -, e3, e4, e5, -⟩ := h.2.2.1
  unfold r_X2_fillToReader; rw [RL_around h, RL_ptr h, e3, e5]
theorem RL_full {S Z : CS} {w T : Nat} (h : RE S Z w T) : r_X2_seemsFull Z = r_X2_seemsFull S := by
  obtain ⟨-, -, e3, e4, e5, -⟩ := h.2.1
  unfold r_X2_seemsFull; rw [RL_around h, RL_ptr h, RL_depth h, e3, e5]
theorem RL_empty {S Z : CS} {w T : Nat} (h : RE S Z w T) : r_X2_seemsEmpty Z = r_X2_seemsEmpty S := by
  obtain ⟨-, -, e3, e4, e5, -⟩ := h.2.2.1
  unfold r_X2_seemsEmpty; rw [RL_ptr h, e3, e5]
theorem rem_n {a d : Nat} (ha : a < 2 ^ 31) (h0 : 1 ≤ d) (hd : d ≤ 50) : r_X4_remainder (nI a) (nI d) = nI (a % d) := by
  unfold r_X4_remainder
  rw [if_neg (nI_nle (by omega) (by omega))]
  exact pk_rem ha (by omega) (by omega)
theorem RK_rem {w v : F1} {t : Nat} (h : RK w v) (ht : t < 2 ^ 30) : r_X4_remainder (nI t + v 1) (v 0) = r_X4_remainder (nI t + w 1) (w 0) := by
  obtain ⟨e0, -, -, -, -, -, -, p, f, h0, p1, p2, h1, f1, h2⟩ := h
  have l : f % p < p := Nat.mod_lt _ (by omega)
  rw [e0, h0, h1, h2, nI_add, nI_add, rem_n (by omega) p1 p2, rem_n (by omega) p1 p2, Nat.add_mod, Nat.mod_mod, ← Nat.add_mod]
theorem RK_tick {w v : F1} {t : Nat} (h : RK w v) (ht : t < 2 ^ 30) : r_X1_ticksAt v (nI t) = r_X1_ticksAt w (nI t) := by
  unfold r_X1_ticksAt
  rw [RK_rem h ht, h.2.1]
theorem RK_times {w v : F1} {t : Nat} (h : RK w v) (ht : t < 2 ^ 30) : r_X1_timesToTick v (nI t) = r_X1_timesToTick w (nI t) := by
  unfold r_X1_timesToTick
  rw [RK_rem h ht, h.2.1, h.1]
