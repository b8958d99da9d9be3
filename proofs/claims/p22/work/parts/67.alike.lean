/-! the law's look at both -/
theorem q4_1 {G P : Nat → Nat → CS} {k t wc Q T : Nat} (h : JJ (G 0 0) (P 0 0) k t wc Q T) : ∀ (fu m : Nat), 12 - m < fu → m ≤ 12 → q_L_areAlike_4 G P fu 1 (nI m) = 1
  | 0, _, z, _ => absurd z (Nat.not_lt_zero _)
  | fu + 1, m, z, hm => by
    unfold q_L_areAlike_4
    rcases Nat.lt_or_ge m 12 with q | q
    · have n : ∀ j : Nat, 12 ≤ j → j < 20 → ¬ nI m = nI j := fun j h1 h2 e => by have := (nI_eq (by omega) (by omega)).mp e; omega
      rw [if_neg (show ¬ (12 : Int32) ≤ nI m from nI_ge (b := 12) q (by decide)), nI_1]
      dsimp only
      rw [if_neg z10, if_pos (count_eq h (n 12 (by decide) (by decide)) (n 13 (by decide) (by decide))).symm]
      exact q4_1 h fu (m + 1) (by omega) q
    · rw [if_pos (show (12 : Int32) ≤ nI m from nI_le (a := 12) q (by omega))]
theorem q49_1 {G P : Nat → Nat → CS} {k t wc Q T : Nat} (h : JJ (G 0 0) (P 0 0) k t wc Q T) (s : Int32) : ∀ (fu m : Nat), 14 - m < fu → m ≤ 14 → q_L_areAlike_49 G P s fu 1 (nI m) = 1
  | 0, _, z, _ => absurd z (Nat.not_lt_zero _)
  | fu + 1, m, z, hm => by
    unfold q_L_areAlike_49
    rcases Nat.lt_or_ge m 14 with q | q
    · rw [if_neg (show ¬ (14 : Int32) ≤ nI m from nI_ge (b := 14) q (by decide)), nI_1]
      dsimp only
      rw [if_neg z10]
      by_cases c : nI m = 1
      · rw [if_pos c]; exact q49_1 h s fu (m + 1) (by omega) q
      · rw [if_neg c, if_pos (side_eq h s c).symm]; exact q49_1 h s fu (m + 1) (by omega) q
    · rw [if_pos (show (14 : Int32) ≤ nI m from nI_le (a := 14) q (by omega))]
theorem q41_1 {G P : Nat → Nat → CS} {k t wc Q T : Nat} (h : JJ (G 0 0) (P 0 0) k t wc Q T) : ∀ (fu m : Nat), 2 - m < fu → m ≤ 2 → q_L_areAlike_41 G P fu 1 (nI m) = 1
  | 0, _, z, _ => absurd z (Nat.not_lt_zero _)
  | fu + 1, m, z, hm => by
    unfold q_L_areAlike_41
    rcases Nat.lt_or_ge m 2 with q | q
    · have e := q49_1 h (nI m) 15 0 (by decide) (by decide)
      rw [show nI 0 = (0 : Int32) from rfl] at e
      rw [if_neg (show ¬ (2 : Int32) ≤ nI m from nI_ge (b := 2) q (by decide)), nI_1]
      dsimp only
      rw [show ((14 : Int32).toInt - (0 : Int32).toInt).toNat + 1 = 15 from rfl, e]
      exact q41_1 h fu (m + 1) (by omega) q
    · rw [if_pos (show (2 : Int32) ≤ nI m from nI_le (a := 2) q (by omega))]
theorem WD_99 {x y : Int32} (h : WD x y) : x + y = 99 := by
  obtain ⟨a, ha, rfl, rfl⟩ := h
  rw [nI_add, show a + (99 - a) = 99 by omega]; rfl
theorem q103_1 {G P : Nat → Nat → CS} {k t wc Q T : Nat} (h : JJ (G 0 0) (P 0 0) k t wc Q T) : ∀ (fu m : Nat), 2 ^ k - m < fu → m ≤ 2 ^ k → q_L_areAlike_103 G P fu 1 (nI m) = 1
  | 0, _, z, _ => absurd z (Nat.not_lt_zero _)
  | fu + 1, m, z, hm => by
    obtain ⟨-, -, v2, -⟩ := J_vals h
    have hk := h.1.1
    have l16 := pkk hk
    have n0 : G 0 0 0 0 = nI k := h.1.2.2.2.2.2.1.1
    have m0 : P 0 0 0 0 = nI k := h.2.2.1.1.trans n0
    obtain ⟨r4, rn, rw', -, -⟩ := h.2.2.2.2.2
    unfold q_L_areAlike_103
    rw [v2]
    rcases Nat.lt_or_ge m (2 ^ k) with q | q
    · obtain ⟨a0, a1⟩ := place_at (G := G) n0 hk q
      obtain ⟨b0, b1⟩ := place_at (G := P) m0 hk q
      have r := q103_1 h fu (m + 1) (by omega) q
      rw [if_neg (nI_ge q (by omega)), nI_1, a0, a1, b0, b1, r4 m (by omega)]
      dsimp only
      rw [if_neg z10, if_pos rfl]
      by_cases c : G 0 0 4 m = -5
      · obtain ⟨e1, e2⟩ := rn m (by omega) c
        rw [if_pos c, if_pos rfl, e1, e2, if_pos rfl, if_pos rfl]; exact r
      · rw [if_neg c, if_neg z10, if_pos (WD_99 (rw' m (by omega) c))]; exact r
    · rw [if_pos (nI_le q (by omega))]
theorem q207_1 {G P : Nat → Nat → CS} {k t wc Q T : Nat} (h : JJ (G 0 0) (P 0 0) k t wc Q T) : ∀ (fu m : Nat), 20 - m < fu → m ≤ 20 → q_L_areAlike_207 G P fu 1 (nI m) = 1
  | 0, _, z, _ => absurd z (Nat.not_lt_zero _)
  | fu + 1, m, z, hm => by
    obtain ⟨-, -, -, v5, -⟩ := J_vals h
    have hw := h.1.2.1
    have n10 : G 0 0 0 10 = nI wc := h.1.2.2.2.2.2.1.2.2.1
    have m10 : P 0 0 0 10 = nI wc := h.2.2.1.2.2.2.2.2.1.trans n10
    obtain ⟨-, -, -, rq, -⟩ := h.2.2.2.2.2
    unfold q_L_areAlike_207
    rcases Nat.lt_or_ge m 20 with q | q
    · have r := q207_1 h fu (m + 1) (by omega) q
      rw [if_neg (show ¬ (20 : Int32) ≤ nI m from nI_ge (b := 20) q (by decide)), nI_1, v5, waiting_at n10 hw (by omega), waiting_at m10 hw (by omega)]
      dsimp only
      rw [if_neg z10]
      by_cases c : m < wc
      · rw [if_neg (nI_ge c (by omega)), if_neg z10, if_pos c, if_pos c, if_pos (WD_99 (rq m c))]; exact r
      · rw [if_pos (nI_le (by omega) (by omega)), if_pos rfl, if_neg c, if_neg c, if_pos rfl]; exact r
    · rw [if_pos (show (20 : Int32) ≤ nI m from nI_le (a := 20) q (by omega))]
theorem q284_1 {G P : Nat → Nat → CS} {k t wc Q T : Nat} (h : JJ (G 0 0) (P 0 0) k t wc Q T) : ∀ (fu m : Nat), 16 - m < fu → m ≤ 16 → q_L_areAlike_284 G P fu 1 (nI m) = 1
  | 0, _, z, _ => absurd z (Nat.not_lt_zero _)
  | fu + 1, m, z, hm => by
    have n13 : G 0 0 0 13 = nI T := h.1.2.2.2.2.2.1.2.2.2.2
    have m13 : P 0 0 0 13 = nI T := h.2.2.1.2.2.2.2.2.2.2.1.trans n13
    have hT := h.1.2.2.2.2.1
    have ht := h.1.2.2.1
    obtain ⟨-, -, -, -, rc⟩ := h.2.2.2.2.2
    unfold q_L_areAlike_284
    rcases Nat.lt_or_ge m 16 with q | q
    · have r := q284_1 h fu (m + 1) (by omega) q
      rw [if_neg (show ¬ (16 : Int32) ≤ nI m from nI_ge (b := 16) q (by decide)), nI_1, taken_at n13 (by omega) q, taken_at m13 (by omega) q]
      dsimp only
      rw [if_neg z10]
      by_cases c : m < T
      · rw [if_pos c, if_pos c]
        obtain ⟨x, a, b, hx, e1, e2, ha, hb, hab⟩ := rc ((T - 1 - m) % 16) (Nat.mod_lt _ (by decide)) (by omega)
        rw [e1, e2, if_pos (nI_pos' (by omega)), show (100 : Int32) = nI 100 from rfl, pk_div (by omega) (by decide) (by decide), pk_div (by omega) (by decide) (by decide), show (a + 100 * x) / 100 = x by omega, show (b + 100 * x) / 100 = x by omega, if_pos rfl, pk_mul, pk_sub (by omega), pk_sub (by omega), nI_add, show a + 100 * x - x * 100 + (b + 100 * x - x * 100) = a + b by omega]
        rcases hab with e | ⟨e3, e4, e5⟩
        · rw [e, if_pos (show nI 99 = 99 from rfl)]; exact r
        · subst e3; subst e4; subst e5
          rw [if_neg (show ¬ nI (0 + 0) = 99 by decide), if_neg (show ¬ nI (0 + 100 * 1) < nI 100 by decide), if_pos (show nI (0 + 0) = 0 by decide)]; exact r
      · rw [if_neg c, if_neg c, if_neg (show ¬ (0 : Int32) ≤ -5 by decide), if_pos rfl]; exact r
    · rw [if_pos (show (16 : Int32) ≤ nI m from nI_le (a := 16) q (by omega))]
theorem alike_law {G P : Nat → Nat → CS} {t : Nat} (h : J (G 0 0) (P 0 0) t) (ht : t + 6000 < 2 ^ 29) : r_L_areAlike G P = 1 := by
  obtain ⟨k, wc, Q, T, hJ⟩ := id h
  have hk := hJ.1.1
  have l16 := pkk hk
  obtain ⟨-, -, v2, -⟩ := J_vals hJ
  have z0 : nI 0 = (0 : Int32) := rfl
  have a4 := q4_1 hJ 13 0 (by decide) (by decide)
  have a41 := q41_1 hJ 3 0 (by decide) (by decide)
  have a103 := q103_1 hJ (2 ^ k + 1) 0 (by rw [Nat.sub_zero]; exact Nat.lt_succ_self _) (Nat.zero_le _)
  have a207 := q207_1 hJ 21 0 (by decide) (by decide)
  have a284 := q284_1 hJ 17 0 (by decide) (by decide)
  rw [z0] at a4 a41 a103 a207 a284
  have e0 : p_X4_doneIn G 0 0 = G 0 0 := (doneIn_k G).1
  have e1 : p_X4_doneIn P 0 0 = P 0 0 := (doneIn_k P).1
  have le : r_X4_leastDepth (p_X4_doneIn P) 40 = r_X4_leastDepth (p_X4_doneIn G) 40 := least_eq (n := 40) (t := t) (by rw [e0, e1]; exact h) (by decide) (by omega)
  unfold r_L_areAlike
  rw [show ((12 : Int32).toInt - (0 : Int32).toInt).toNat + 1 = 13 from rfl, a4]
  unfold k4_r_L_areAlike
  rw [show ((2 : Int32).toInt - (0 : Int32).toInt).toNat + 1 = 3 from rfl, a41]
  unfold k41_r_L_areAlike
  rw [v2, fuel_n (by omega), a103]
  unfold k103_r_L_areAlike
  rw [show ((20 : Int32).toInt - (0 : Int32).toInt).toNat + 1 = 21 from rfl, a207]
  unfold k207_r_L_areAlike
  rw [show ((16 : Int32).toInt - (0 : Int32).toInt).toNat + 1 = 17 from rfl, a284]
  unfold k284_r_L_areAlike
  dsimp only
  rw [if_neg z10, doneIn_eq h (by omega), if_pos rfl, le, if_pos rfl]
