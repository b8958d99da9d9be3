/-! codes and pointers, by trying all -/
theorem k4 {k : Nat} (h : 1 ≤ k ∧ k ≤ 4) : k = 1 ∨ k = 2 ∨ k = 3 ∨ k = 4 := by omega
theorem p2k {k : Nat} (h : 1 ≤ k ∧ k ≤ 4) : 2 ^ (k + 1) ≤ 32 := by
  rcases k4 h with rfl | rfl | rfl | rfl <;> decide
def dpt (k : Nat) : Int32 := (1 : Int32) <<< ((nI k) &&& (31 : Int32))
def msk (k : Nat) : Int32 := ((2 : Int32) * dpt k) - (1 : Int32)
def gcode (x : Int32) : Int32 := (x ^^^ (x >>> ((1 : Int32) &&& (31 : Int32))))
def gptr (x : Int32) : Int32 := ((((x ^^^ (x >>> ((1 : Int32) &&& (31 : Int32)))) ^^^ (x >>> ((2 : Int32) &&& (31 : Int32)))) ^^^ (x >>> ((3 : Int32) &&& (31 : Int32)))) ^^^ (x >>> ((4 : Int32) &&& (31 : Int32))))
theorem chk_samp2 : ∀ k, k < 5 → ∀ a, a < 32 → ∀ b, b < 32 → (a < 2 ^ (k + 1) ∧ b < 2 ^ (k + 1) → (nI a ^^^ ((nI a ^^^ nI b) &&& (170 : Int32)) = nI (nI a ^^^ ((nI a ^^^ nI b) &&& (170 : Int32))).toNatClampNeg ∧ (nI a ^^^ ((nI a ^^^ nI b) &&& (170 : Int32))).toNatClampNeg < 2 ^ (k + 1))) := by decide +kernel
theorem nb01 (x : Int32) : nb x = 0 ∨ nb x = 1 := nb_c x
theorem pw_d {k : Nat} : 2 ^ (k + 1) = 2 * 2 ^ k := by rw [Nat.pow_succ, Nat.mul_comm]
theorem pw_0 {k : Nat} : 0 < 2 ^ k := Nat.two_pow_pos k
def ok1 (k p : Nat) : Bool := decide (p < 2 ^ (k + 1) ∧ 0 < k → (nI p + 1) &&& msk k = nI ((p + 1) % 2 ^ (k + 1)) ∧ nI p &&& (dpt k - 1) = nI (p % 2 ^ k) ∧ (nI p + dpt k) &&& msk k = nI ((p + 2 ^ k) % 2 ^ (k + 1)))
def ok2 (k p : Nat) : Bool := decide (p < 2 ^ (k + 1) ∧ 0 < k → gptr (gcode (nI p)) = nI p ∧ (gcode (nI p) = nI (gcode (nI p)).toNatClampNeg ∧ (gcode (nI p)).toNatClampNeg < 2 ^ (k + 1)) ∧ (gptr (nI p) = nI (gptr (nI p)).toNatClampNeg ∧ (gptr (nI p)).toNatClampNeg < 2 ^ (k + 1)))
def ok3 (k p : Nat) : Bool := decide (p < 2 ^ (k + 1) ∧ 0 < k → (gcode (nI p) ^^^ ((gcode (nI p) ^^^ gcode (nI ((p + 1) % 2 ^ (k + 1)))) &&& (170 : Int32)) = gcode (nI p) ∨ gcode (nI p) ^^^ ((gcode (nI p) ^^^ gcode (nI ((p + 1) % 2 ^ (k + 1)))) &&& (170 : Int32)) = gcode (nI ((p + 1) % 2 ^ (k + 1)))))
def ok4 (k a b : Nat) : Bool := decide (a < 2 ^ (k + 1) ∧ b < 2 ^ (k + 1) ∧ 0 < k → (nI a - nI b) &&& msk k = nI ((a + 2 ^ (k + 1) - b) % 2 ^ (k + 1)))
theorem chk1' : ∀ k, k < 5 → ∀ p, p < 32 → (ok1 k p && ok2 k p && ok3 k p) = true := by decide +kernel
theorem chk4' : ∀ k, k < 5 → ∀ a, a < 32 → ∀ b, b < 32 → ok4 k a b = true := by decide +kernel
theorem chk1 {k p : Nat} (hk : 1 ≤ k ∧ k ≤ 4) (hp : p < 2 ^ (k + 1)) : (nI p + 1) &&& msk k = nI ((p + 1) % 2 ^ (k + 1)) ∧ nI p &&& (dpt k - 1) = nI (p % 2 ^ k) ∧ (nI p + dpt k) &&& msk k = nI ((p + 2 ^ k) % 2 ^ (k + 1)) := by
  have h := chk1' k (by omega) p (by have := p2k hk; omega)
  rw [Bool.and_eq_true, Bool.and_eq_true] at h
  exact of_decide_eq_true h.1.1 ⟨hp, by omega⟩
theorem chk2 {k p : Nat} (hk : 1 ≤ k ∧ k ≤ 4) (hp : p < 2 ^ (k + 1)) : gptr (gcode (nI p)) = nI p ∧ (gcode (nI p) = nI (gcode (nI p)).toNatClampNeg ∧ (gcode (nI p)).toNatClampNeg < 2 ^ (k + 1)) ∧ (gptr (nI p) = nI (gptr (nI p)).toNatClampNeg ∧ (gptr (nI p)).toNatClampNeg < 2 ^ (k + 1)) := by
  have h := chk1' k (by omega) p (by have := p2k hk; omega)
  rw [Bool.and_eq_true, Bool.and_eq_true] at h
  exact of_decide_eq_true h.1.2 ⟨hp, by omega⟩
theorem chk3 {k p : Nat} (hk : 1 ≤ k ∧ k ≤ 4) (hp : p < 2 ^ (k + 1)) : gcode (nI p) ^^^ ((gcode (nI p) ^^^ gcode (nI ((p + 1) % 2 ^ (k + 1)))) &&& (170 : Int32)) = gcode (nI p) ∨ gcode (nI p) ^^^ ((gcode (nI p) ^^^ gcode (nI ((p + 1) % 2 ^ (k + 1)))) &&& (170 : Int32)) = gcode (nI ((p + 1) % 2 ^ (k + 1))) := by
  have h := chk1' k (by omega) p (by have := p2k hk; omega)
  rw [Bool.and_eq_true, Bool.and_eq_true] at h
  exact of_decide_eq_true h.2 ⟨hp, by omega⟩
theorem chk4 {k a b : Nat} (hk : 1 ≤ k ∧ k ≤ 4) (ha : a < 2 ^ (k + 1)) (hb : b < 2 ^ (k + 1)) : (nI a - nI b) &&& msk k = nI ((a + 2 ^ (k + 1) - b) % 2 ^ (k + 1)) :=
  of_decide_eq_true (chk4' k (by omega) a (by have := p2k hk; omega) b (by have := p2k hk; omega)) ⟨ha, hb, by omega⟩
theorem dpt_n {k : Nat} (hk : 1 ≤ k ∧ k ≤ 4) : dpt k = nI (2 ^ k) := by
  rcases k4 hk with rfl | rfl | rfl | rfl <;> decide
theorem pkk {k : Nat} (hk : 1 ≤ k ∧ k ≤ 4) : 2 ^ k ≤ 16 := by
  rcases k4 hk with rfl | rfl | rfl | rfl <;> decide
/-- counts and their pointers -/
theorem ml {k c : Nat} : c % 2 ^ (k + 1) < 2 ^ (k + 1) := Nat.mod_lt _ pw_0
theorem md_s {k c : Nat} : (c % 2 ^ (k + 1) + 1) % 2 ^ (k + 1) = (c + 1) % 2 ^ (k + 1) := Nat.mod_add_mod c _ 1
theorem md_f {k c : Nat} : (c % 2 ^ (k + 1) + 2 ^ k) % 2 ^ (k + 1) = (c + 2 ^ k) % 2 ^ (k + 1) := Nat.mod_add_mod c _ _
theorem md_d {k c : Nat} : c % 2 ^ (k + 1) % 2 ^ k = c % 2 ^ k := Nat.mod_mod_of_dvd c ⟨2, Nat.pow_succ 2 k⟩
theorem md_b {k a b : Nat} (hk : 1 ≤ k ∧ k ≤ 4) (h1 : b ≤ a) (h2 : a < b + 2 ^ (k + 1)) : (a % 2 ^ (k + 1) + 2 ^ (k + 1) - b % 2 ^ (k + 1)) % 2 ^ (k + 1) = a - b := by
  rcases k4 hk with rfl | rfl | rfl | rfl <;> simp only [Nat.reduceAdd, Nat.reducePow] at h2 ⊢ <;> omega
theorem md_u {k j T P : Nat} (hk : 1 ≤ k ∧ k ≤ 4) (h : j % 2 ^ k = T % 2 ^ k) (h1 : j < P) (h2 : P ≤ j + 2 ^ k) (h3 : T < P) (h4 : P ≤ T + 2 ^ k) : j = T := by
  rcases k4 hk with rfl | rfl | rfl | rfl <;> simp only [Nat.reducePow] at h h2 h4 <;> omega
/-- samples: in the range; in gray code of the pointer ahead or behind -/
theorem smp_in {k a b : Nat} (hk : 1 ≤ k ∧ k ≤ 4) (ha : a < 2 ^ (k + 1)) (hb : b < 2 ^ (k + 1)) : ∃ q, q < 2 ^ (k + 1) ∧ nI a ^^^ ((nI a ^^^ nI b) &&& (170 : Int32)) = nI q := by
  obtain ⟨g1, g2⟩ := chk_samp2 k (by omega) a (by have := p2k hk; omega) b (by have := p2k hk; omega) ⟨ha, hb⟩
  exact ⟨_, g2, g1⟩
theorem cod_in {S : CS} {k p : Nat} (hk : 1 ≤ k ∧ k ≤ 4) (hp : p < 2 ^ (k + 1)) : ∃ q, q < 2 ^ (k + 1) ∧ r_X2_codeOf S (nI p) = nI q := by
  unfold r_X2_codeOf
  by_cases e : nb (S 0 1) = 0
  · rw [if_pos e]; exact ⟨p, hp, rfl⟩
  · rw [if_neg e]
    obtain ⟨-, ⟨e1, e2⟩, -⟩ := chk2 hk hp
    exact ⟨_, e2, e1⟩
theorem ptr_in {S : CS} {k p : Nat} (hk : 1 ≤ k ∧ k ≤ 4) (hp : p < 2 ^ (k + 1)) : ∃ q, q < 2 ^ (k + 1) ∧ r_X2_pointerOf S (nI p) = nI q := by
  unfold r_X2_pointerOf
  by_cases e : nb (S 0 1) = 0
  · rw [if_pos e]; exact ⟨p, hp, rfl⟩
  · rw [if_neg e]
    obtain ⟨-, -, e1, e2⟩ := chk2 hk hp
    exact ⟨_, e2, e1⟩
theorem around2 {S : CS} {k : Nat} (h : S 0 0 = nI k) (x : Int32) : r_X2_around S x = x &&& msk k := by
  unfold r_X2_around r_X2_depth msk dpt
  rw [h]
theorem depth2 {S : CS} {k : Nat} (h : S 0 0 = nI k) : r_X2_depth S = dpt k := by
  unfold r_X2_depth dpt
  rw [h]
