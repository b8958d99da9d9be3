theorem K_cases {x : Int32} (h : 1 ≤ x.toInt ∧ x.toInt ≤ 4) : x = 1 ∨ x = 2 ∨ x = 3 ∨ x = 4 := by
  rcases (show x.toInt = 1 ∨ x.toInt = 2 ∨ x.toInt = 3 ∨ x.toInt = 4 by omega) with e | e | e | e
  · exact Or.inl (Int32.toInt_inj.mp (by rw [e]; decide))
  · exact Or.inr (Or.inl (Int32.toInt_inj.mp (by rw [e]; decide)))
  · exact Or.inr (Or.inr (Or.inl (Int32.toInt_inj.mp (by rw [e]; decide))))
  · exact Or.inr (Or.inr (Or.inr (Int32.toInt_inj.mp (by rw [e]; decide))))
theorem pl_j {M : CS} (hk : 1 ≤ (M 1 0).toInt ∧ (M 1 0).toInt ≤ 4) (x : Int32) : ∃ j : Nat, j < 16 ∧ x &&& ((r_X5_depth M) - (1 : Int32)) = nI j := by
  have hd : r_X5_depth M = (1 : Int32) <<< ((M 1 0) &&& (31 : Int32)) := rfl
  rcases K_cases hk with e | e | e | e
  · rw [hd, e]; obtain ⟨j, h1, h2⟩ := pk_andE x (m := (1 : Int32) <<< ((1 : Int32) &&& (31 : Int32)) - 1) 1 (by decide); exact ⟨j, by omega, h2⟩
  · rw [hd, e]; obtain ⟨j, h1, h2⟩ := pk_andE x (m := (1 : Int32) <<< ((2 : Int32) &&& (31 : Int32)) - 1) 2 (by decide); exact ⟨j, by omega, h2⟩
  · rw [hd, e]; obtain ⟨j, h1, h2⟩ := pk_andE x (m := (1 : Int32) <<< ((3 : Int32) &&& (31 : Int32)) - 1) 3 (by decide); exact ⟨j, by omega, h2⟩
  · rw [hd, e]; obtain ⟨j, h1, h2⟩ := pk_andE x (m := (1 : Int32) <<< ((4 : Int32) &&& (31 : Int32)) - 1) 4 (by decide); exact ⟨j, by omega, h2⟩
theorem pl63 {M : CS} (hk : 1 ≤ (M 1 0).toInt ∧ (M 1 0).toInt ≤ 4) {x : Int32} : vp_in ((63 : Int32) + (x &&& ((r_X5_depth M) - (1 : Int32)))) 96 := by
  obtain ⟨j, h1, h2⟩ := pl_j hk x
  rw [h2]; exact vp_in_nI (n := 63 + j) (by omega) (by decide) |> (nI_add 63 j ▸ ·)
theorem pl47 {M : CS} (hk : 1 ≤ (M 1 0).toInt ∧ (M 1 0).toInt ≤ 4) {x : Int32} : vp_in ((47 : Int32) + (x &&& ((r_X5_depth M) - (1 : Int32)))) 96 := by
  obtain ⟨j, h1, h2⟩ := pl_j hk x
  rw [h2]; exact vp_in_nI (n := 47 + j) (by omega) (by decide) |> (nI_add 47 j ▸ ·)
theorem cl_add {a j : Nat} (h : a + j < 2 ^ 31) : (nI a + nI j).toNatClampNeg = a + j := by rw [nI_add]; exact nI_clamp h
theorem pl63c {M : CS} (hk : 1 ≤ (M 1 0).toInt ∧ (M 1 0).toInt ≤ 4) (x : Int32) : 63 ≤ ((63 : Int32) + (x &&& ((r_X5_depth M) - (1 : Int32)))).toNatClampNeg := by
  obtain ⟨j, h1, h2⟩ := pl_j hk x
  rw [h2, show (63 : Int32) = nI 63 from rfl, cl_add (by omega)]; omega
theorem pl47c {M : CS} (hk : 1 ≤ (M 1 0).toInt ∧ (M 1 0).toInt ≤ 4) (x : Int32) : 47 ≤ ((47 : Int32) + (x &&& ((r_X5_depth M) - (1 : Int32)))).toNatClampNeg := by
  obtain ⟨j, h1, h2⟩ := pl_j hk x
  rw [h2, show (47 : Int32) = nI 47 from rfl, cl_add (by omega)]; omega
theorem up_n {f : F1} {k j : Nat} {x : Int32} (h : j ≠ k) : upd f k x j = f j := if_neg h
theorem up_s {f : F1} {k : Nat} {x : Int32} : upd f k x k = x := if_pos rfl
theorem puts_w {M : CS} (hk : 1 ≤ (M 1 0).toInt ∧ (M 1 0).toInt ≤ 4) (hw : 1 ≤ (M 1 5).toInt ∧ (M 1 5).toInt ≤ 20) {x v w u : Int32} : 0 ≤ ((upd (upd (upd (upd (M 1) ((47 : Int32) + (x &&& ((r_X5_depth M) - (1 : Int32)))).toNatClampNeg v) ((63 : Int32) + (x &&& ((r_X5_depth M) - (1 : Int32)))).toNatClampNeg w) 6 u) 5 (((upd (upd (upd (M 1) ((47 : Int32) + (x &&& ((r_X5_depth M) - (1 : Int32)))).toNatClampNeg v) ((63 : Int32) + (x &&& ((r_X5_depth M) - (1 : Int32)))).toNatClampNeg w) 6 u) 5) - (1 : Int32))) 5).toInt ∧ ((upd (upd (upd (upd (M 1) ((47 : Int32) + (x &&& ((r_X5_depth M) - (1 : Int32)))).toNatClampNeg v) ((63 : Int32) + (x &&& ((r_X5_depth M) - (1 : Int32)))).toNatClampNeg w) 6 u) 5 (((upd (upd (upd (M 1) ((47 : Int32) + (x &&& ((r_X5_depth M) - (1 : Int32)))).toNatClampNeg v) ((63 : Int32) + (x &&& ((r_X5_depth M) - (1 : Int32)))).toNatClampNeg w) 6 u) 5) - (1 : Int32))) 5).toInt ≤ 19 := by
  have h1 := pl63c hk x
  have h2 := pl47c hk x
  rw [up_s, up_n (by decide), up_n (by omega), up_n (by omega), sub_toI (by rw [one_toI]; omega) (by rw [one_toI]; omega), one_toI]
  omega
theorem up27 {f : F1} {i x : Int32} (h0 : 0 ≤ i.toInt) (h1 : i.toInt < 21) : upd f ((27 : Int32) + i).toNatClampNeg x 5 = f 5 := by
  refine up_n ?_
  have e : ((27 : Int32) + i).toInt = 27 + i.toInt := by
    have : (27 : Int32).toInt = 27 := by decide
    rw [add_toI (by omega) (by omega), this]
  show 5 ≠ ((27 : Int32) + i).toInt.toNat
  omega
theorem puts_lt {i b : Int32} (c : ¬ b ≤ i) (h : 0 ≤ b.toInt ∧ b.toInt ≤ 19) : i.toInt < 21 := by
  have := lt_of_nle c
  omega
theorem puts_i1 {i b : Int32} (h0 : 0 ≤ i.toInt) (c : ¬ b ≤ i) (h : 0 ≤ b.toInt ∧ b.toInt ≤ 19) : vp_in ((27 : Int32) + i) 96 := by
  have := lt_of_nle c
  exact vp_add (a := 27) (by decide) h0 (by omega) (by decide)
theorem puts_i2 {i b : Int32} (h0 : 0 ≤ i.toInt) (c : ¬ b ≤ i) (h : 0 ≤ b.toInt ∧ b.toInt ≤ 19) : vp_in (((27 : Int32) + i) + (1 : Int32)) 96 := by
  have := lt_of_nle c
  have e : ((27 : Int32) + i).toInt = 27 + i.toInt := by
    have : (27 : Int32).toInt = 27 := by decide
    rw [add_toI (by omega) (by omega), this]
  rw [vp_in_iff, add_toI (by rw [e, one_toI]; omega) (by rw [e, one_toI]; omega), e, one_toI]
  omega
/-- how long the reference's history is -/
def HL (M : CS) : Prop := ∃ k : Nat, M 0 4 = nI k ∧ k ≤ 4
theorem vp_of {i : Int32} {n : Nat} (h0 : 0 ≤ i.toInt) (h : i.toInt < n) : vp_in i n := vp_in_iff.mpr ⟨h0, h⟩
theorem acted_1 {i : Int32} (h0 : 0 ≤ i.toInt) (c : ¬ (288 : Int32) ≤ i) : vp_in (i + (96 : Int32)) 384 := by
  have := lt_toI (n := 288) (by decide) c
  have e : (96 : Int32).toInt = 96 := by decide
  rw [vp_in_iff, add_toI (by omega) (by omega), e]
  omega
theorem acted_2 {i : Int32} (h0 : 0 ≤ i.toInt) (c : ¬ (288 : Int32) ≤ i) : vp_in i 384 := by
  have := lt_toI (n := 288) (by decide) c
  exact vp_of h0 (by omega)
theorem act_at {i : Int32} {k : Nat} (hk : k ≤ 3) (h0 : 0 ≤ i.toInt) (c : ¬ (96 : Int32) ≤ i) : vp_in (((96 : Int32) * nI k) + i) 384 := by
  have h1 := lt_toI (n := 96) (by decide) c
  have e : ((96 : Int32) * nI k).toInt = 96 * k := by
    rw [show (96 : Int32) = nI 96 from rfl, pk_mul, nI_toInt (by omega)]; omega
  rw [vp_in_iff, add_toI (by omega) (by omega), e]
  omega
theorem act_a {M : CS} {i : Int32} (hl : HL M) (c5 : (M 0 4) = 4) (h0 : 0 ≤ i.toInt) (c : ¬ (96 : Int32) ≤ i) : vp_in (((96 : Int32) * ((M 0 4) - (1 : Int32))) + i) 384 := by
  rw [c5]; exact act_at (k := 3) (by decide) h0 c
theorem act_b {M : CS} {i : Int32} (hl : HL M) (c5 : ¬ (M 0 4) = 4) (h0 : 0 ≤ i.toInt) (c : ¬ (96 : Int32) ≤ i) : vp_in (((96 : Int32) * (M 0 4)) + i) 384 := by
  obtain ⟨k, h1, h2⟩ := hl
  rw [h1] at c5 ⊢
  refine act_at ?_ h0 c
  rcases Nat.lt_or_ge k 4 with h | h
  · omega
  · exact absurd (by rw [show k = 4 by omega]; rfl) c5
theorem act_c {M : CS} {i : Int32} (hl : HL M) (c4 : ¬ (M 0 4) = 0) (h0 : 0 ≤ i.toInt) (c : ¬ (96 : Int32) ≤ i) : vp_in (((96 : Int32) * ((M 0 4) - (1 : Int32))) + i) 384 := by
  obtain ⟨k, h1, h2⟩ := hl
  have hk : 0 < k := by
    rcases Nat.eq_zero_or_pos k with h | h
    · subst h; exact absurd h1 c4
    · exact h
  obtain ⟨k', rfl⟩ : ∃ k', k = k' + 1 := ⟨k - 1, by omega⟩
  rw [h1, nI_pred]
  exact act_at (by omega) h0 c
theorem ty_in {x : Int32} (h : 0 ≤ x.toInt ∧ x.toInt ≤ 60) (c : ¬ x = 60) : vp_in x 60 := by
  refine vp_of h.1 ?_
  rcases (show x.toInt < 60 ∨ x.toInt = 60 by omega) with q | q
  · omega
  · exact absurd (Int32.toInt_inj.mp (by rw [q]; decide)) c
theorem nn0 {x : Int32} (h : 0 ≤ x) : 0 ≤ x.toInt := by
  rw [Int32.le_iff_toInt_le] at h
  have := zero_toI
  omega
theorem set_in {a1 : Int32} (h : ¬ r_X5_in a1.toInt64 (0 : Int64) (1 : Int64) = 0) : vp_in ((3 : Int32) + a1) 96 := by
  have h1 := r_in_i h
  have e0 : (0 : Int64).toInt = 0 := by decide
  have e1 : (1 : Int64).toInt = 1 := by decide
  exact vp_add (a := 3) (by decide) (by omega) (by omega) (by decide)
theorem push_w {M : CS} (hw : 0 ≤ (M 1 5).toInt ∧ (M 1 5).toInt ≤ 20) (c : ¬ (M 1 5) = 20) : 0 ≤ (M 1 5).toInt ∧ (M 1 5).toInt < 20 := by
  refine ⟨hw.1, ?_⟩
  rcases (show (M 1 5).toInt < 20 ∨ (M 1 5).toInt = 20 by omega) with q | q
  · exact q
  · exact absurd (Int32.toInt_inj.mp (by rw [q]; decide)) c
theorem pl_in {M : CS} (hk : 1 ≤ (M 1 0).toInt ∧ (M 1 0).toInt ≤ 4) {a1 : Int32} (h : ¬ r_X5_in a1.toInt64 (0 : Int64) ((r_X5_depth M).toInt64 - (1 : Int64)) = 0) : 0 ≤ a1.toInt ∧ a1.toInt < 16 := by
  have h1 := r_in_i h
  have e0 : (0 : Int64).toInt = 0 := by decide
  have hd : r_X5_depth M = (1 : Int32) <<< ((M 1 0) &&& (31 : Int32)) := rfl
  have e1 : ((r_X5_depth M).toInt64 - (1 : Int64)).toInt ≤ 15 := by
    rcases K_cases hk with e | e | e | e <;> (rw [hd, e]; decide)
  omega
theorem pl_in47 {M : CS} (hk : 1 ≤ (M 1 0).toInt ∧ (M 1 0).toInt ≤ 4) {a1 : Int32} (h : ¬ r_X5_in a1.toInt64 (0 : Int64) ((r_X5_depth M).toInt64 - (1 : Int64)) = 0) : vp_in ((47 : Int32) + a1) 96 := by
  have := pl_in hk h
  exact vp_add (a := 47) (by decide) this.1 (by omega) (by decide)
theorem pl_in63 {M : CS} (hk : 1 ≤ (M 1 0).toInt ∧ (M 1 0).toInt ≤ 4) {a1 : Int32} (h : ¬ r_X5_in a1.toInt64 (0 : Int64) ((r_X5_depth M).toInt64 - (1 : Int64)) = 0) : vp_in ((63 : Int32) + a1) 96 := by
  have := pl_in hk h
  exact vp_add (a := 63) (by decide) this.1 (by omega) (by decide)
theorem per_nz {M : CS} (hp : ¬ (M 1 11) = 0 ∧ ¬ (M 1 19) = 0) {a1 : Int32} (hs : a1 = 0 ∨ a1 = 1) : ¬ (r_X5_of M a1 (0 : Int32)) = (0 : Int32) := by
  rcases hs with rfl | rfl
  · exact hp.1
  · exact hp.2
/-- the reference's place in its text -/
def SI (M : CS) : Prop := 0 ≤ (M 0 9).toInt ∧ (M 0 8).toInt ≤ 60
theorem vp_sp {M : CS} (h : SI M) (c : ¬ (M 0 8) ≤ (M 0 9)) : vp_in (M 0 9) 60 := by
  have := lt_of_nle c
  obtain ⟨h1, h2⟩ := h
  exact vp_of h1 (by omega)
