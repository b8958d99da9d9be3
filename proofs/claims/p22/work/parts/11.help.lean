/-! small facts for loops and places -/
theorem lt_of_nle {b i : Int32} (c : ¬ b ≤ i) : i.toInt < b.toInt := by
  rw [Int32.le_iff_toInt_le] at c; omega
theorem le_of_nlt {b i : Int32} (c : ¬ i < b) : b.toInt ≤ i.toInt := by
  rw [Int32.lt_iff_toInt_lt] at c; omega
theorem i32_rng (x : Int32) : -2147483648 ≤ x.toInt ∧ x.toInt < 2147483648 := ⟨Int32.le_toInt x, Int32.toInt_lt x⟩
theorem add_toI {x y : Int32} (h1 : -2147483648 ≤ x.toInt + y.toInt) (h2 : x.toInt + y.toInt < 2147483648) : (x + y).toInt = x.toInt + y.toInt := by
  rw [Int32.toInt_add]; exact Int.bmod_eq_of_le (by omega) (by omega)
theorem sub_toI {x y : Int32} (h1 : -2147483648 ≤ x.toInt - y.toInt) (h2 : x.toInt - y.toInt < 2147483648) : (x - y).toInt = x.toInt - y.toInt := by
  rw [Int32.toInt_sub]; exact Int.bmod_eq_of_le (by omega) (by omega)
theorem one_toI : (1 : Int32).toInt = 1 := by decide
theorem inc_toI {b i : Int32} (c : i.toInt < b.toInt) : (i + 1).toInt = i.toInt + 1 := by
  have h1 := i32_rng b
  have h2 := i32_rng i
  rw [add_toI (by rw [one_toI]; omega) (by rw [one_toI]; omega), one_toI]
theorem dec_toI {i : Int32} (c : -2147483648 < i.toInt) : (i + (-1)).toInt = i.toInt - 1 := by
  have h2 := i32_rng i
  have h3 : (-1 : Int32).toInt = -1 := by decide
  rw [add_toI (by rw [h3]; omega) (by rw [h3]; omega), h3]; omega
theorem cnt_init (b i : Int32) : b.toInt - i.toInt < (((b.toInt - i.toInt).toNat + 1 : Nat) : Int) ∧ 0 < (b.toInt - i.toInt).toNat + 1 := by omega
theorem cnt_step {b i : Int32} {fu : Nat} (c : ¬ b ≤ i) (h : b.toInt - i.toInt < ((fu + 1 : Nat) : Int) ∧ 0 < fu + 1) : b.toInt - (i + 1).toInt < (fu : Int) ∧ 0 < fu := by
  have h1 := lt_of_nle c
  rw [inc_toI h1]
  omega
theorem cnt2_init (b i : Int32) : b.toInt + 1 - i.toInt < (((b.toInt + 1 - i.toInt).toNat + 1 : Nat) : Int) ∧ 0 < (b.toInt + 1 - i.toInt).toNat + 1 := by omega
theorem cnt2_step {b i : Int32} {fu : Nat} (hb : b.toInt < 2147483647) (c : ¬ b < i) (h : b.toInt + 1 - i.toInt < ((fu + 1 : Nat) : Int) ∧ 0 < fu + 1) : b.toInt + 1 - (i + 1).toInt < (fu : Int) ∧ 0 < fu := by
  rw [Int32.lt_iff_toInt_lt] at c
  have h2 := i32_rng i
  have h1 : (i + 1).toInt = i.toInt + 1 := by
    rw [add_toI (by rw [one_toI]; omega) (by rw [one_toI]; omega), one_toI]
  rw [h1]
  omega
theorem dn_init (i : Int32) : i.toInt + 1 < (((i.toInt + 1).toNat + 1 : Nat) : Int) ∧ 0 < (i.toInt + 1).toNat + 1 := by omega
theorem dn_step {i : Int32} {fu : Nat} (c : ¬ i < 0) (h : i.toInt + 1 < ((fu + 1 : Nat) : Int) ∧ 0 < fu + 1) : (i + (-1)).toInt + 1 < (fu : Int) ∧ 0 < fu := by
  have h0 : 0 ≤ i.toInt := by
    rw [Int32.lt_iff_toInt_lt] at c
    have : (0 : Int32).toInt = 0 := by decide
    omega
  rw [dec_toI (by omega)]
  omega
theorem inv_step {b i : Int32} (c : ¬ b ≤ i) (h : 0 ≤ i.toInt) : 0 ≤ (i + 1).toInt := by
  rw [inc_toI (lt_of_nle c)]; omega
theorem vp_lt {i : Int32} {n : Nat} (h0 : 0 ≤ i.toInt) (c : ¬ nI n ≤ i) (hn : n < 2147483648) : vp_in i n := by
  have h1 := lt_of_nle c
  rw [nI_toInt hn] at h1
  exact vp_in_iff.mpr ⟨h0, h1⟩
theorem nneg {i : Int32} (c : ¬ i < 0) : 0 ≤ i.toInt := by
  rw [Int32.lt_iff_toInt_lt] at c
  have : (0 : Int32).toInt = 0 := by decide
  omega
theorem vp_gd {i : Int32} {n : Nat} (h1 : ¬ i < 0) (c : ¬ nI n ≤ i) (hn : n < 2147483648) : vp_in i n := vp_lt (nneg h1) c hn
theorem vp_gl {i : Int32} {n : Nat} (h1 : ¬ i < 0) (c : i < nI n) (hn : n < 2147483648) : vp_in i n := by
  refine vp_in_iff.mpr ⟨nneg h1, ?_⟩
  rw [Int32.lt_iff_toInt_lt, nI_toInt hn] at c
  exact c
theorem zero_toI : (0 : Int32).toInt = 0 := by decide
theorem pos_ne {y : Int32} (c : ¬ y ≤ 0) : ¬ y = 0 := fun h => c (by rw [h]; decide)
theorem sw_out19 {x : Int32} (h0 : ¬ x = 0) (h1 : ¬ x = 1) (h2 : ¬ x = 2) (h3 : ¬ x = 3) (h4 : ¬ x = 4) (h5 : ¬ x = 5) (h6 : ¬ x = 6) (h7 : ¬ x = 7) (h8 : ¬ x = 8) (h9 : ¬ x = 9) (h10 : ¬ x = 10) (h11 : ¬ x = 11) (h12 : ¬ x = 12) (h13 : ¬ x = 13) (h14 : ¬ x = 14) (h15 : ¬ x = 15) (h16 : ¬ x = 16) (h17 : ¬ x = 17) (h18 : ¬ x = 18) : x.toInt < 0 ∨ 18 < x.toInt := by
  have z : ∀ k : Int32, ¬ x = k → x.toInt ≠ k.toInt := fun k h e => h (Int32.toInt_inj.mp e)
  have a0 := z _ h0; have a1 := z _ h1; have a2 := z _ h2; have a3 := z _ h3; have a4 := z _ h4; have a5 := z _ h5; have a6 := z _ h6; have a7 := z _ h7; have a8 := z _ h8; have a9 := z _ h9; have a10 := z _ h10; have a11 := z _ h11; have a12 := z _ h12; have a13 := z _ h13; have a14 := z _ h14; have a15 := z _ h15; have a16 := z _ h16; have a17 := z _ h17; have a18 := z _ h18
  simp only [show (0 : Int32).toInt = 0 from by decide, show (1 : Int32).toInt = 1 from by decide, show (2 : Int32).toInt = 2 from by decide, show (3 : Int32).toInt = 3 from by decide, show (4 : Int32).toInt = 4 from by decide, show (5 : Int32).toInt = 5 from by decide, show (6 : Int32).toInt = 6 from by decide, show (7 : Int32).toInt = 7 from by decide, show (8 : Int32).toInt = 8 from by decide, show (9 : Int32).toInt = 9 from by decide, show (10 : Int32).toInt = 10 from by decide, show (11 : Int32).toInt = 11 from by decide, show (12 : Int32).toInt = 12 from by decide, show (13 : Int32).toInt = 13 from by decide, show (14 : Int32).toInt = 14 from by decide, show (15 : Int32).toInt = 15 from by decide, show (16 : Int32).toInt = 16 from by decide, show (17 : Int32).toInt = 17 from by decide, show (18 : Int32).toInt = 18 from by decide] at *
  omega
theorem sw_out14 {x : Int32} (h0 : ¬ x = 0) (h1 : ¬ x = 1) (h2 : ¬ x = 2) (h3 : ¬ x = 3) (h4 : ¬ x = 4) (h5 : ¬ x = 5) (h6 : ¬ x = 6) (h7 : ¬ x = 7) (h8 : ¬ x = 8) (h9 : ¬ x = 9) (h10 : ¬ x = 10) (h11 : ¬ x = 11) (h12 : ¬ x = 12) (h13 : ¬ x = 13) : x.toInt < 0 ∨ 13 < x.toInt := by
  have z : ∀ k : Int32, ¬ x = k → x.toInt ≠ k.toInt := fun k h e => h (Int32.toInt_inj.mp e)
  have a0 := z _ h0; have a1 := z _ h1; have a2 := z _ h2; have a3 := z _ h3; have a4 := z _ h4; have a5 := z _ h5; have a6 := z _ h6; have a7 := z _ h7; have a8 := z _ h8; have a9 := z _ h9; have a10 := z _ h10; have a11 := z _ h11; have a12 := z _ h12; have a13 := z _ h13
  simp only [show (0 : Int32).toInt = 0 from by decide, show (1 : Int32).toInt = 1 from by decide, show (2 : Int32).toInt = 2 from by decide, show (3 : Int32).toInt = 3 from by decide, show (4 : Int32).toInt = 4 from by decide, show (5 : Int32).toInt = 5 from by decide, show (6 : Int32).toInt = 6 from by decide, show (7 : Int32).toInt = 7 from by decide, show (8 : Int32).toInt = 8 from by decide, show (9 : Int32).toInt = 9 from by decide, show (10 : Int32).toInt = 10 from by decide, show (11 : Int32).toInt = 11 from by decide, show (12 : Int32).toInt = 12 from by decide, show (13 : Int32).toInt = 13 from by decide] at *
  omega
