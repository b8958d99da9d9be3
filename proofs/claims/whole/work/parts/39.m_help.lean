/-! the reference: small facts for its places -/
theorem sd_in {a1 a2 : Int32} (hs : a1 = 0 ∨ a1 = 1) (h : 0 ≤ a2.toInt ∧ a2.toInt < 8) : vp_in (((11 : Int32) + ((8 : Int32) * a1)) + a2) 96 := by
  have e : ((11 : Int32) + ((8 : Int32) * a1)).toInt = 11 ∨ ((11 : Int32) + ((8 : Int32) * a1)).toInt = 19 := by
    rcases hs with rfl | rfl
    · exact Or.inl (by decide)
    · exact Or.inr (by decide)
  rw [vp_in_iff, add_toI (by omega) (by omega)]
  omega
theorem nI_96 : (96 : Int32) = nI 96 := rfl
theorem vp_add {x i : Int32} {a n : Nat} (hx : x.toInt = a) (h0 : 0 ≤ i.toInt) (h1 : i.toInt + a < n) (hn : n < 2147483648) : vp_in (x + i) n := by
  rw [vp_in_iff, add_toI (by omega) (by omega)]
  omega
theorem lt_toI {b i : Int32} {n : Nat} (hb : b.toInt = n) (c : ¬ b ≤ i) : i.toInt < n := by
  have := lt_of_nle c
  omega
theorem r_in_t {x lo hi : Int64} (h : ¬ r_X5_in x lo hi = 0) : lo ≤ x ∧ x ≤ hi := by
  unfold r_X5_in at h
  split at h
  · exact absurd rfl h
  · rename_i a
    split at h
    · exact absurd rfl h
    · rename_i b
      refine ⟨?_, ?_⟩
      · have z : (0 : Int32) ≤ lg_cmp x lo := by
          rw [Int32.lt_iff_toInt_lt] at a
          rw [Int32.le_iff_toInt_le]
          have := zero_toI
          omega
        exact (lg_cmp_ge x lo).mp z
      · unfold lg_cmp at b
        rw [Int64.le_iff_toInt_le]
        rcases Int.lt_or_le hi.toInt x.toInt with q | q
        · rw [if_pos (show x > hi from Int64.lt_iff_toInt_lt.mpr q)] at b
          exact absurd (by decide) b
        · exact q
theorem r_in_i {a : Int32} {lo hi : Int64} (h : ¬ r_X5_in a.toInt64 lo hi = 0) : lo.toInt ≤ a.toInt ∧ a.toInt ≤ hi.toInt := by
  obtain ⟨h1, h2⟩ := r_in_t h
  rw [Int64.le_iff_toInt_le, Int32.toInt_toInt64] at h1 h2
  exact ⟨h1, h2⟩
theorem isS {a1 : Int32} (h : ¬ r_X5_isSide a1 = 0) : a1 = 0 ∨ a1 = 1 := by
  unfold r_X5_isSide at h
  split at h
  · rename_i a; exact Or.inl a
  · split at h
    · rename_i a; exact Or.inr a
    · exact absurd rfl h
