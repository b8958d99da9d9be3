/-- what the reference's steps want of its numbers -/
def MI (M : CS) : Prop := (1 ≤ (M 1 0).toInt ∧ (M 1 0).toInt ≤ 4) ∧ (¬ (M 1 11) = 0 ∧ ¬ (M 1 19) = 0) ∧ (0 ≤ (M 1 5).toInt ∧ (M 1 5).toInt ≤ 20)
theorem b01 {x : Int32} (h : x = 0 ∨ x = 1) : narrow .boolean (.int x) = .int x := by
  rcases h with rfl | rfl
  · exact (rfl : narrow .boolean (.int 0) = .int 0)
  · exact (rfl : narrow .boolean (.int 1) = .int 1)
/-- the places that a step of the reference leaves as they are -/
def kj (j : Nat) : Prop := j = 0 ∨ j = 1 ∨ j = 3 ∨ j = 4 ∨ (11 ≤ j ∧ j ≤ 13) ∨ (19 ≤ j ∧ j ≤ 21)
def KP (M z : CS) : Prop := (∀ j, kj j → z 1 j = M 1 j) ∧ z 1 5 = M 1 5
theorem to_keep {M : CS} {a b c : Int32} {j n : Nat} (e : (((11 : Int32) + ((8 : Int32) * a)) + b).toNatClampNeg = n) (h : j ≠ n) : (p_X5_to M a b c) 1 j = M 1 j := by
  show upd (M 1) (((11 : Int32) + ((8 : Int32) * a)) + b).toNatClampNeg c j = M 1 j
  rw [e]; exact up_n h
theorem kp_time {M : CS} {t : Int32} : KP M (va_up M 1 (upd (M 1) 2 t)) :=
  ⟨fun j hj => by show upd (M 1) 2 t j = M 1 j; exact up_n (by unfold kj at hj; omega), by show upd (M 1) 2 t 5 = M 1 5; exact up_n (by decide)⟩
theorem samples_at {M : CS} {a b : Int32} {j : Nat} (hj : kj j ∨ j = 5) : (p_X5_samples M 0 a b) 1 j = M 1 j ∧ (p_X5_samples M 1 a b) 1 j = M 1 j := by
  have h : j ≠ 15 ∧ j ≠ 16 ∧ j ≠ 17 ∧ j ≠ 18 ∧ j ≠ 23 ∧ j ≠ 24 ∧ j ≠ 25 ∧ j ≠ 26 := by unfold kj at hj; omega
  obtain ⟨h1, h2, h3, h4, h5, h6, h7, h8⟩ := h
  constructor
  · unfold p_X5_samples
    by_cases c : b = (0 : Int32)
    · simp only [if_pos c]
      rw [to_keep (n := 18) (by decide) h4, to_keep (n := 17) (by decide) h3, to_keep (n := 15) (by decide) h1, to_keep (n := 16) (by decide) h2]
    · simp only [if_neg c]
      rw [to_keep (n := 18) (by decide) h4, to_keep (n := 17) (by decide) h3, to_keep (n := 15) (by decide) h1, to_keep (n := 16) (by decide) h2]
  · unfold p_X5_samples
    by_cases c : b = (0 : Int32)
    · simp only [if_pos c]
      rw [to_keep (n := 26) (by decide) h8, to_keep (n := 25) (by decide) h7, to_keep (n := 23) (by decide) h5, to_keep (n := 24) (by decide) h6]
    · simp only [if_neg c]
      rw [to_keep (n := 26) (by decide) h8, to_keep (n := 25) (by decide) h7, to_keep (n := 23) (by decide) h5, to_keep (n := 24) (by decide) h6]
theorem kp_samples {M z : CS} {s a b : Int32} (hs : s = 0 ∨ s = 1) (h : KP M z) : KP M (p_X5_samples z s a b) := by
  rcases hs with rfl | rfl
  · exact ⟨fun j hj => ((samples_at (Or.inl hj)).1).trans (h.1 j hj), ((samples_at (Or.inr rfl)).1).trans h.2⟩
  · exact ⟨fun j hj => ((samples_at (Or.inl hj)).2).trans (h.1 j hj), ((samples_at (Or.inr rfl)).2).trans h.2⟩
theorem tells_keep {M : CS} {a b : Int32} {j : Nat} (hj : kj j ∨ j = 5) : (p_X5_tells M a b) 1 j = M 1 j := by
  have h : j < 79 ∧ j ≠ 10 := by unfold kj at hj; omega
  obtain ⟨h1, h2⟩ := h
  unfold p_X5_tells
  by_cases c : b = (0 : Int32)
  · simp only [if_pos c]
    split
    · show upd (upd _ 79 _) 10 _ j = _
      rw [up_n h2, up_n (by omega)]
      show upd (upd (upd (upd (upd (upd (upd (upd (upd (upd (upd (upd (upd (upd (upd (M 1) 94 _) 93 _) 92 _) 91 _) 90 _) 89 _) 88 _) 87 _) 86 _) 85 _) 84 _) 83 _) 82 _) 81 _) 80 _ j = _
      rw [up_n (by omega), up_n (by omega), up_n (by omega), up_n (by omega), up_n (by omega), up_n (by omega), up_n (by omega), up_n (by omega), up_n (by omega), up_n (by omega), up_n (by omega), up_n (by omega), up_n (by omega), up_n (by omega), up_n (by omega)]
    · show upd (upd _ 79 _) 10 _ j = _
      rw [up_n h2, up_n (by omega)]
      show upd (upd (upd (upd (upd (upd (upd (upd (upd (upd (upd (upd (upd (upd (upd (M 1) 94 _) 93 _) 92 _) 91 _) 90 _) 89 _) 88 _) 87 _) 86 _) 85 _) 84 _) 83 _) 82 _) 81 _) 80 _ j = _
      rw [up_n (by omega), up_n (by omega), up_n (by omega), up_n (by omega), up_n (by omega), up_n (by omega), up_n (by omega), up_n (by omega), up_n (by omega), up_n (by omega), up_n (by omega), up_n (by omega), up_n (by omega), up_n (by omega), up_n (by omega)]
  · simp only [if_neg c]
    split
    · show upd (upd _ 79 _) 10 _ j = _
      rw [up_n h2, up_n (by omega)]
      show upd (upd (upd (upd (upd (upd (upd (upd (upd (upd (upd (upd (upd (upd (upd (M 1) 94 _) 93 _) 92 _) 91 _) 90 _) 89 _) 88 _) 87 _) 86 _) 85 _) 84 _) 83 _) 82 _) 81 _) 80 _ j = _
      rw [up_n (by omega), up_n (by omega), up_n (by omega), up_n (by omega), up_n (by omega), up_n (by omega), up_n (by omega), up_n (by omega), up_n (by omega), up_n (by omega), up_n (by omega), up_n (by omega), up_n (by omega), up_n (by omega), up_n (by omega)]
    · show upd (upd _ 79 _) 10 _ j = _
      rw [up_n h2, up_n (by omega)]
      show upd (upd (upd (upd (upd (upd (upd (upd (upd (upd (upd (upd (upd (upd (upd (M 1) 94 _) 93 _) 92 _) 91 _) 90 _) 89 _) 88 _) 87 _) 86 _) 85 _) 84 _) 83 _) 82 _) 81 _) 80 _ j = _
      rw [up_n (by omega), up_n (by omega), up_n (by omega), up_n (by omega), up_n (by omega), up_n (by omega), up_n (by omega), up_n (by omega), up_n (by omega), up_n (by omega), up_n (by omega), up_n (by omega), up_n (by omega), up_n (by omega), up_n (by omega)]
theorem takes_keep {M : CS} {j : Nat} (hj : kj j ∨ j = 5) : (p_X5_takes M) 1 j = M 1 j := by
  have h : j ≠ 7 ∧ j ≠ 8 ∧ j ≠ 9 ∧ j ≠ 22 := by unfold kj at hj; omega
  obtain ⟨h1, h2, h3, h4⟩ := h
  unfold p_X5_takes
  generalize (if ((M 1) ((63 : Int32) + ((r_X5_of M (1 : Int32) (3 : Int32)) &&& ((r_X5_depth M) - (1 : Int32)))).toNatClampNeg) = ((M 1) 7) then (1 : Int32) else (0 : Int32)) = x0
  dsimp only
  by_cases c0 : x0 = (0 : Int32)
  · rw [if_pos c0, to_keep (n := 22) (by decide) h4]
    show upd (upd _ 7 _) 9 _ j = _
    rw [up_n h3, up_n h1]
    exact tells_keep hj
  · rw [if_neg c0, to_keep (n := 22) (by decide) h4]
    show upd (upd _ 7 _) 8 _ j = _
    rw [up_n h2, up_n h1]
    exact tells_keep hj
theorem kp_takes {M z : CS} (h : KP M z) : KP M (p_X5_takes z) := ⟨fun j hj => (takes_keep (Or.inl hj)).trans (h.1 j hj), (takes_keep (Or.inr rfl)).trans h.2⟩
theorem kp_hk {M z : CS} (h : KP M z) (hMI : MI M) : 1 ≤ (z 1 0).toInt ∧ (z 1 0).toInt ≤ 4 := by
  rw [h.1 0 (Or.inl rfl)]; exact hMI.1
theorem acts_w {M : CS} {t : Int32} (h : ¬ r_X5_acts M 0 t = 0) : ¬ (M 1 5) ≤ 0 := by
  unfold r_X5_acts at h
  intro c
  by_cases t0 : t = (0 : Int32)
  · rw [if_pos t0] at h; exact h rfl
  rw [if_neg t0] at h
  by_cases s0 : r_X5_seems M 0 = (0 : Int32)
  · rw [if_pos s0, if_neg (show ¬ (0 : Int32) = 1 by decide), if_pos c] at h; exact h rfl
  · rw [if_neg s0] at h; exact h rfl
theorem kp_hw {M z : CS} (h : KP M z) (hMI : MI M) {t : Int32} (c : ¬ r_X5_acts M 0 t = 0) : 1 ≤ (z 1 5).toInt ∧ (z 1 5).toInt ≤ 20 := by
  rw [h.2]
  have h1 := acts_w c
  rw [Int32.le_iff_toInt_le] at h1
  have := zero_toI
  have := hMI.2.2
  omega
theorem q_puts_keep : ∀ (fu : Nat) (i : Int32) (f : F1), 0 ≤ i.toInt → (0 ≤ (f 5).toInt ∧ (f 5).toInt ≤ 19) → ∀ j, j < 27 → q_X5_puts_69 fu i f j = f j
  | 0, _, _, _, _, _, _ => rfl
  | fu + 1, i, f, h0, h5, j, hj => by
    unfold q_X5_puts_69
    split
    · rfl
    · rename_i c
      have h1 := puts_lt c h5
      have e : ((27 : Int32) + i).toInt = 27 + i.toInt := by
        have : (27 : Int32).toInt = 27 := by decide
        rw [add_toI (by omega) (by omega), this]
      have hne : ∀ k, k < 27 → k ≠ ((27 : Int32) + i).toNatClampNeg := by
        intro k hk
        show k ≠ ((27 : Int32) + i).toInt.toNat
        omega
      rw [q_puts_keep fu _ _ (inv_step c h0) (by rw [up_n (hne 5 (by decide))]; exact h5) j hj, up_n (hne j hj)]
/-- what a put has written ahead of its loop -/
def putsF (M : CS) : F1 := upd (upd (upd (upd (M 1) ((47 : Int32) + ((r_X5_of M (0 : Int32) (3 : Int32)) &&& ((r_X5_depth M) - (1 : Int32)))).toNatClampNeg ((M 1) 27)) ((63 : Int32) + ((r_X5_of M (0 : Int32) (3 : Int32)) &&& ((r_X5_depth M) - (1 : Int32)))).toNatClampNeg ((M 1) 6)) 6 ((M 1 6) + 1)) 5 ((M 1 5) - 1)
def putsE (M : CS) (T : F1) : CS := (fun (z : CS) => p_X5_to z (0 : Int32) (3 : Int32) (r_X5_around z ((r_X5_of z (0 : Int32) (3 : Int32)) + (1 : Int32)))) (va_up M 1 (upd T ((27 : Int32) + (T 5)).toNatClampNeg (0 : Int32)))
theorem puts_eq {M : CS} (hk : 1 ≤ (M 1 0).toInt ∧ (M 1 0).toInt ≤ 4) : p_X5_puts M = putsE M (q_X5_puts_69 (((M 1 5 - 1).toInt - (0 : Int32).toInt).toNat + 1) 0 (putsF M)) := by
  have a63 := pl63c hk (r_X5_of M 0 3)
  have a47 := pl47c hk (r_X5_of M 0 3)
  unfold p_X5_puts putsE putsF
  dsimp only
  generalize ((47 : Int32) + ((r_X5_of M (0 : Int32) (3 : Int32)) &&& ((r_X5_depth M) - (1 : Int32)))).toNatClampNeg = x at a47 ⊢
  generalize ((63 : Int32) + ((r_X5_of M (0 : Int32) (3 : Int32)) &&& ((r_X5_depth M) - (1 : Int32)))).toNatClampNeg = y at a63 ⊢
  have r1 : ∀ v, upd (M 1) x v 6 = M 1 6 := fun v => up_n (by omega)
  have r2 : ∀ v w, upd (upd (M 1) x v) y w 6 = M 1 6 := fun v w => (up_n (by omega)).trans (r1 v)
  have r3 : ∀ v w u, upd (upd (upd (M 1) x v) y w) 6 u 5 = M 1 5 := fun v w u => (up_n (by decide)).trans ((up_n (by omega)).trans (up_n (by omega)))
  simp only [r1, r2, r3, up_s]
theorem putsF_5 {M : CS} : putsF M 5 = (M 1 5) - 1 := up_s
theorem putsF_kj {M : CS} (hk : 1 ≤ (M 1 0).toInt ∧ (M 1 0).toInt ≤ 4) {j : Nat} (hj : j < 27) (h5 : j ≠ 5) (h6 : j ≠ 6) : putsF M j = M 1 j := by
  have a63 := pl63c hk (r_X5_of M 0 3)
  have a47 := pl47c hk (r_X5_of M 0 3)
  unfold putsF
  rw [up_n h5, up_n h6, up_n (by omega), up_n (by omega)]
theorem putsF_rng {M : CS} (hw : 1 ≤ (M 1 5).toInt ∧ (M 1 5).toInt ≤ 20) : 0 ≤ (putsF M 5).toInt ∧ (putsF M 5).toInt ≤ 19 := by
  rw [putsF_5, sub_toI (by rw [one_toI]; omega) (by rw [one_toI]; omega), one_toI]
  omega
theorem puts_lo {M : CS} (hk : 1 ≤ (M 1 0).toInt ∧ (M 1 0).toInt ≤ 4) (hw : 1 ≤ (M 1 5).toInt ∧ (M 1 5).toInt ≤ 20) {j : Nat} (hj : j < 27) (h14 : j ≠ 14) : (p_X5_puts M) 1 j = putsF M j := by
  rw [puts_eq hk]
  have hr := putsF_rng hw
  have q := q_puts_keep (((M 1 5 - 1).toInt - (0 : Int32).toInt).toNat + 1) 0 (putsF M) (by decide) hr
  unfold putsE
  dsimp only
  rw [to_keep (n := 14) (by decide) h14]
  show upd _ _ _ j = _
  rw [up_n, q j hj]
  rw [q 5 (by decide)]
  have e : ((27 : Int32) + (putsF M 5)).toInt = 27 + (putsF M 5).toInt := by
    have : (27 : Int32).toInt = 27 := by decide
    rw [add_toI (by omega) (by omega), this]
  show j ≠ ((27 : Int32) + (putsF M 5)).toInt.toNat
  omega
theorem puts_kp {M z : CS} (hMI : MI M) (h : KP M z) {t : Int32} (c : ¬ r_X5_acts M 0 t = 0) : (∀ j, kj j → (p_X5_puts z) 1 j = M 1 j) ∧ (p_X5_puts z) 1 5 = (M 1 5) - 1 := by
  have hk := kp_hk h hMI
  have hw := kp_hw h hMI c
  refine ⟨fun j hj => ?_, ?_⟩
  · have hj2 : j < 27 ∧ j ≠ 14 ∧ j ≠ 5 ∧ j ≠ 6 := by unfold kj at hj; omega
    rw [puts_lo hk hw hj2.1 hj2.2.1, putsF_kj hk hj2.1 hj2.2.2.1 hj2.2.2.2, h.1 j hj]
  · rw [puts_lo hk hw (by decide) (by decide), putsF_5, h.2]

