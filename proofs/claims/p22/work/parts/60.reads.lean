/-! what is told, value by value -/
theorem cnt_0 (G : Nat → Nat → CS) : r_X4_count G 0 = G 0 0 0 2 := by
  unfold r_X4_count
  rw [if_pos rfl]
theorem cnt_1 (G : Nat → Nat → CS) : r_X4_count G 1 = G 0 0 0 0 := by
  unfold r_X4_count
  rw [if_neg (show ¬ (1 : Int32) = 0 by decide), if_pos rfl]
theorem cnt_2 (G : Nat → Nat → CS) : r_X4_count G 2 = r_X2_depth (G 0 0) := by
  unfold r_X4_count
  rw [if_neg (show ¬ (2 : Int32) = 0 by decide), if_neg (show ¬ (2 : Int32) = 1 by decide), if_pos rfl]
theorem cnt_3 (G : Nat → Nat → CS) : r_X4_count G 3 = r_X4_asNumber (nb (G 0 0 0 1)) := by
  unfold r_X4_count
  rw [if_neg (show ¬ (3 : Int32) = 0 by decide), if_neg (show ¬ (3 : Int32) = 1 by decide), if_neg (show ¬ (3 : Int32) = 2 by decide), if_pos rfl]
theorem cnt_4 (G : Nat → Nat → CS) : r_X4_count G 4 = r_X2_around (G 0 0) (G 0 0 1 3 - G 0 0 2 3) := by
  unfold r_X4_count
  rw [if_neg (show ¬ (4 : Int32) = 0 by decide), if_neg (show ¬ (4 : Int32) = 1 by decide), if_neg (show ¬ (4 : Int32) = 2 by decide), if_neg (show ¬ (4 : Int32) = 3 by decide), if_pos rfl]
theorem cnt_5 (G : Nat → Nat → CS) : r_X4_count G 5 = G 0 0 0 10 := by
  unfold r_X4_count
  rw [if_neg (show ¬ (5 : Int32) = 0 by decide), if_neg (show ¬ (5 : Int32) = 1 by decide), if_neg (show ¬ (5 : Int32) = 2 by decide), if_neg (show ¬ (5 : Int32) = 3 by decide), if_neg (show ¬ (5 : Int32) = 4 by decide), if_pos rfl]
theorem cnt_6 (G : Nat → Nat → CS) : r_X4_count G 6 = G 0 0 0 12 := by
  unfold r_X4_count
  rw [if_neg (show ¬ (6 : Int32) = 0 by decide), if_neg (show ¬ (6 : Int32) = 1 by decide), if_neg (show ¬ (6 : Int32) = 2 by decide), if_neg (show ¬ (6 : Int32) = 3 by decide), if_neg (show ¬ (6 : Int32) = 4 by decide), if_neg (show ¬ (6 : Int32) = 5 by decide), if_pos rfl]
theorem cnt_7 (G : Nat → Nat → CS) : r_X4_count G 7 = G 0 0 0 13 := by
  unfold r_X4_count
  rw [if_neg (show ¬ (7 : Int32) = 0 by decide), if_neg (show ¬ (7 : Int32) = 1 by decide), if_neg (show ¬ (7 : Int32) = 2 by decide), if_neg (show ¬ (7 : Int32) = 3 by decide), if_neg (show ¬ (7 : Int32) = 4 by decide), if_neg (show ¬ (7 : Int32) = 5 by decide), if_neg (show ¬ (7 : Int32) = 6 by decide), if_pos rfl]
theorem cnt_8 (G : Nat → Nat → CS) : r_X4_count G 8 = G 0 0 0 14 := by
  unfold r_X4_count
  rw [if_neg (show ¬ (8 : Int32) = 0 by decide), if_neg (show ¬ (8 : Int32) = 1 by decide), if_neg (show ¬ (8 : Int32) = 2 by decide), if_neg (show ¬ (8 : Int32) = 3 by decide), if_neg (show ¬ (8 : Int32) = 4 by decide), if_neg (show ¬ (8 : Int32) = 5 by decide), if_neg (show ¬ (8 : Int32) = 6 by decide), if_neg (show ¬ (8 : Int32) = 7 by decide), if_pos rfl]
theorem cnt_9 (G : Nat → Nat → CS) : r_X4_count G 9 = G 0 0 0 13 - G 0 0 0 14 := by
  unfold r_X4_count
  rw [if_neg (show ¬ (9 : Int32) = 0 by decide), if_neg (show ¬ (9 : Int32) = 1 by decide), if_neg (show ¬ (9 : Int32) = 2 by decide), if_neg (show ¬ (9 : Int32) = 3 by decide), if_neg (show ¬ (9 : Int32) = 4 by decide), if_neg (show ¬ (9 : Int32) = 5 by decide), if_neg (show ¬ (9 : Int32) = 6 by decide), if_neg (show ¬ (9 : Int32) = 7 by decide), if_neg (show ¬ (9 : Int32) = 8 by decide), if_pos rfl]
theorem cnt_10 (G : Nat → Nat → CS) : r_X4_count G 10 = G 0 0 0 3 := by
  unfold r_X4_count
  rw [if_neg (show ¬ (10 : Int32) = 0 by decide), if_neg (show ¬ (10 : Int32) = 1 by decide), if_neg (show ¬ (10 : Int32) = 2 by decide), if_neg (show ¬ (10 : Int32) = 3 by decide), if_neg (show ¬ (10 : Int32) = 4 by decide), if_neg (show ¬ (10 : Int32) = 5 by decide), if_neg (show ¬ (10 : Int32) = 6 by decide), if_neg (show ¬ (10 : Int32) = 7 by decide), if_neg (show ¬ (10 : Int32) = 8 by decide), if_neg (show ¬ (10 : Int32) = 9 by decide), if_pos rfl]
theorem cnt_11 (G : Nat → Nat → CS) : r_X4_count G 11 = G 0 0 0 4 := by
  unfold r_X4_count
  rw [if_neg (show ¬ (11 : Int32) = 0 by decide), if_neg (show ¬ (11 : Int32) = 1 by decide), if_neg (show ¬ (11 : Int32) = 2 by decide), if_neg (show ¬ (11 : Int32) = 3 by decide), if_neg (show ¬ (11 : Int32) = 4 by decide), if_neg (show ¬ (11 : Int32) = 5 by decide), if_neg (show ¬ (11 : Int32) = 6 by decide), if_neg (show ¬ (11 : Int32) = 7 by decide), if_neg (show ¬ (11 : Int32) = 8 by decide), if_neg (show ¬ (11 : Int32) = 9 by decide), if_neg (show ¬ (11 : Int32) = 10 by decide), if_pos rfl]
theorem sd0_0 (G : Nat → Nat → CS) : r_X4_side G 0 0 = G 0 0 1 0 := by
  unfold r_X4_side
  rfl
theorem sd0_1 (G : Nat → Nat → CS) : r_X4_side G 0 1 = G 0 0 1 1 := by
  unfold r_X4_side
  rfl
theorem sd0_2 (G : Nat → Nat → CS) : r_X4_side G 0 2 = r_X4_asNumber (nb (G 0 0 1 2)) := by
  unfold r_X4_side
  rfl
theorem sd0_3 (G : Nat → Nat → CS) : r_X4_side G 0 3 = G 0 0 1 3 := by
  unfold r_X4_side
  rfl
theorem sd0_4 (G : Nat → Nat → CS) : r_X4_side G 0 4 = r_X2_codeOf (G 0 0) (G 0 0 1 3) := by
  unfold r_X4_side
  rfl
theorem sd0_8 (G : Nat → Nat → CS) : r_X4_side G 0 8 = r_X2_fillToWriter (G 0 0) := by
  unfold r_X4_side
  rfl
theorem sd0_9 (G : Nat → Nat → CS) : r_X4_side G 0 9 = r_X4_asNumber (r_X2_seemsFull (G 0 0)) := by
  unfold r_X4_side
  rfl
theorem sd0_11 (G : Nat → Nat → CS) : r_X4_side G 0 11 = r_X1_timesToTick (G 0 0 1) (G 0 0 0 2) := by
  unfold r_X4_side
  rfl
theorem sd0_12 (G : Nat → Nat → CS) : r_X4_side G 0 12 = G 0 0 1 6 := by
  unfold r_X4_side
  rfl
theorem sd0_13 (G : Nat → Nat → CS) : r_X4_side G 0 13 = G 0 0 1 7 := by
  unfold r_X4_side
  rfl
theorem sd1_0 (G : Nat → Nat → CS) : r_X4_side G 1 0 = G 0 0 2 0 := by
  unfold r_X4_side
  rfl
theorem sd1_1 (G : Nat → Nat → CS) : r_X4_side G 1 1 = G 0 0 2 1 := by
  unfold r_X4_side
  rfl
theorem sd1_2 (G : Nat → Nat → CS) : r_X4_side G 1 2 = r_X4_asNumber (nb (G 0 0 2 2)) := by
  unfold r_X4_side
  rfl
theorem sd1_3 (G : Nat → Nat → CS) : r_X4_side G 1 3 = G 0 0 2 3 := by
  unfold r_X4_side
  rfl
theorem sd1_4 (G : Nat → Nat → CS) : r_X4_side G 1 4 = r_X2_codeOf (G 0 0) (G 0 0 2 3) := by
  unfold r_X4_side
  rfl
theorem sd1_8 (G : Nat → Nat → CS) : r_X4_side G 1 8 = r_X2_fillToReader (G 0 0) := by
  unfold r_X4_side
  rfl
theorem sd1_9 (G : Nat → Nat → CS) : r_X4_side G 1 9 = r_X4_asNumber (r_X2_seemsEmpty (G 0 0)) := by
  unfold r_X4_side
  rfl
theorem sd1_11 (G : Nat → Nat → CS) : r_X4_side G 1 11 = r_X1_timesToTick (G 0 0 2) (G 0 0 0 2) := by
  unfold r_X4_side
  rfl
theorem sd1_12 (G : Nat → Nat → CS) : r_X4_side G 1 12 = G 0 0 2 6 := by
  unfold r_X4_side
  rfl
theorem sd1_13 (G : Nat → Nat → CS) : r_X4_side G 1 13 = G 0 0 2 7 := by
  unfold r_X4_side
  rfl
/-! both tell the same -/
theorem RL_near {S Z : CS} {w T : Nat} (h : RE S Z w T) : r_X2_seemsNearFull Z = r_X2_seemsNearFull S ∧ r_X2_seemsNearEmpty Z = r_X2_seemsNearEmpty S := by
  unfold r_X2_seemsNearFull r_X2_seemsNearEmpty
  rw [RL_fillW h, RL_fillR h, RL_depth h, h.1.2.2.2.1, h.1.2.2.2.2.1]
  exact ⟨rfl, rfl⟩
theorem count_eq {G P : Nat → Nat → CS} {k t wc Q T : Nat} (h : JJ (G 0 0) (P 0 0) k t wc Q T) {x : Int32} (h12 : ¬ x = 12) (h13 : ¬ x = 13) : r_X4_count P x = r_X4_count G x := by
  obtain ⟨-, -, hR⟩ := h
  obtain ⟨⟨x0, x1, x2, x3, x4, x10, x12, x13, x14⟩, ⟨-, -, k3, -⟩, ⟨-, -, l3, -⟩, -⟩ := id hR
  unfold r_X4_count
  rw [x0, x1, x2, x3, x4, x10, x12, x13, x14, k3, l3, RL_depth hR, RL_around hR]
  simp only [if_neg h12, if_neg h13]
theorem side_eq {G P : Nat → Nat → CS} {k t wc Q T : Nat} (h : JJ (G 0 0) (P 0 0) k t wc Q T) (s : Int32) {x : Int32} (h1 : ¬ x = 1) : r_X4_side P s x = r_X4_side G s x := by
  have n2 : G 0 0 0 2 = nI t := h.1.2.2.2.2.2.1.2.1
  have ht : t < 2 ^ 30 := by have := h.1.2.2.1; omega
  obtain ⟨-, -, hR⟩ := h
  obtain ⟨-, rk1, rk2, -⟩ := id hR
  have e2 : P 0 0 0 2 = nI t := hR.1.2.2.1.trans n2
  have t1 := RK_times rk1 ht
  have t2 := RK_times rk2 ht
  obtain ⟨m1, m2⟩ := RL_near hR
  obtain ⟨a0, a2, a3, a4, a5, a6, a7, -⟩ := rk1
  obtain ⟨b0, b2, b3, b4, b5, b6, b7, -⟩ := rk2
  unfold r_X4_side
  rw [a0, a2, a3, a4, a5, a6, a7, b0, b2, b3, b4, b5, b6, b7, n2, e2, t1, t2, m1, m2, RL_fillW hR, RL_fillR hR, RL_full hR, RL_empty hR, RL_code hR, RL_code hR, RL_ptr hR, RL_ptr hR]
  simp only [if_neg h1]
/-! one object's numbers -/
theorem J_vals {G P : Nat → Nat → CS} {k t wc Q T : Nat} (h : JJ (G 0 0) (P 0 0) k t wc Q T) : r_X4_count G 0 = nI t ∧ r_X4_count G 1 = nI k ∧ r_X4_count G 2 = nI (2 ^ k) ∧ r_X4_count G 5 = nI wc ∧ r_X4_count G 6 = nI Q ∧ r_X4_count G 7 = nI T := by
  obtain ⟨n0, n2, n10, n12, n13⟩ := h.1.2.2.2.2.2.1
  rw [cnt_0, cnt_1, cnt_2, cnt_5, cnt_6, cnt_7, depth2 n0, dpt_n h.1.1]
  exact ⟨n2, n0, rfl, n10, n12, n13⟩
theorem two_d {k : Nat} : (2 : Int32) * nI (2 ^ k) = nI (2 ^ (k + 1)) := by
  rw [show (2 : Int32) = nI 2 from rfl, pk_mul, pw_d]
theorem place_at {G : Nat → Nat → CS} {k i : Nat} (h0 : G 0 0 0 0 = nI k) (hk : 1 ≤ k ∧ k ≤ 4) (hi : i < 2 ^ k) : r_X4_place G (nI i) 0 = G 0 0 3 i ∧ r_X4_place G (nI i) 1 = G 0 0 4 i := by
  have l16 := pkk hk
  have c : ¬ r_X4_isWithin (nI i) 0 (r_X2_depth (G 0 0) - 1) = 0 := by
    rw [depth2 h0, dpt_n hk, show (1 : Int32) = nI 1 from rfl, pk_sub pw_0, show (0 : Int32) = nI 0 from rfl]
    exact in_ok (Nat.zero_le _) (by omega) (by omega)
  unfold r_X4_place
  rw [if_neg c, if_neg c, if_pos rfl, if_neg (show ¬ (1 : Int32) = 0 by decide), if_pos rfl, valueAt_in (by decide) (by omega), valueAt_in (by decide) (by omega)]
  exact ⟨rfl, rfl⟩
theorem waiting_at {G : Nat → Nat → CS} {wc i : Nat} (h : G 0 0 0 10 = nI wc) (hw : wc ≤ 20) (hi : i < 2 ^ 31) : r_X4_waiting G (nI i) = if i < wc then G 0 0 5 i else -5 := by
  unfold r_X4_waiting
  rw [if_pos (nI_pos' hi), h]
  by_cases c : i < wc
  · rw [if_neg (nI_ge c (by omega)), if_pos c, valueAt_in (by decide) (by omega)]
  · rw [if_pos (nI_le (by omega) hi), if_neg c]
theorem taken_at {G : Nat → Nat → CS} {T i : Nat} (h : G 0 0 0 13 = nI T) (hT : T < 2 ^ 29) (hi : i < 16) : r_X4_taken G (nI i) = if i < T then G 0 0 6 ((T - 1 - i) % 16) else -5 := by
  unfold r_X4_taken r_X2_latestCame
  rw [if_pos (nI_pos' (by omega)), h]
  by_cases c : i < T
  · rw [if_neg (nI_ge c (by omega)), if_pos (show nI i < (16 : Int32) from nI_lt (b := 16) hi (by decide)), if_pos c, show (1 : Int32) = nI 1 from rfl, pk_sub (by omega), pk_sub (by omega), and15 _ (by omega), valueAt_in (by decide) (Nat.mod_lt _ (by decide))]
  · rw [if_pos (nI_le (by omega) (by omega)), if_neg c]
/-! doneIn -/
theorem done_k : ∀ (fu : Nat) (i : Int32) (S : CS) (G : Nat → Nat → CS), lp_X4_doneIn_13 G fu i S 0 0 = G 0 0 ∧ lp_X4_doneIn_13 G fu i S 1 = G 1 ∧ lp_X4_doneIn_13 G fu i S 2 = G 2
  | 0, _, _, _ => ⟨rfl, rfl, rfl⟩
  | fu + 1, i, S, G => by
    unfold lp_X4_doneIn_13
    dsimp only
    by_cases c : (5000 : Int32) < i
    · rw [if_pos c]; exact ⟨rfl, rfl, rfl⟩
    · rw [if_neg c]
      by_cases d : r_X2_isDone S = 0
      · rw [if_pos d]; exact done_k fu _ _ G
      · rw [if_neg d]; exact ⟨rfl, rfl, rfl⟩
theorem doneIn_k (G : Nat → Nat → CS) : p_X4_doneIn G 0 0 = G 0 0 ∧ p_X4_doneIn G 1 = G 1 ∧ p_X4_doneIn G 2 = G 2 := by
  unfold p_X4_doneIn
  exact done_k _ _ _ _
theorem RR_done {G P : Nat → Nat → CS} {t : Nat} (h : RR G P t) : RR (p_X4_doneIn G) P t := by
  obtain ⟨e0, e1, e2⟩ := doneIn_k G
  unfold RR HG at h ⊢
  rw [e0, e1, e2]
  exact h
theorem doneIn_v {G P : Nat → Nat → CS} {k t wc Q T : Nat} (h : JJ (G 0 0) (P 0 0) k t wc Q T) : (r_X4_doneIn G = -5 ∨ ∃ j : Nat, j ≤ 5000 ∧ r_X4_doneIn G = nI j) ∧ (r_X4_doneIn G = 0 ↔ (wc = 0 ∧ Q = T)) := by
  have hJ := JJ_se h (copy_se (G 0 1) (G 0 0)) (copy_se (P 0 1) (P 0 0))
  obtain ⟨-, n2, n10, n12, n13⟩ := hJ.1.2.2.2.2.2.1
  obtain ⟨d1, d2⟩ := done_0 (p_X2_copy (G 0 1) (G 0 0))
  have e : r_X4_doneIn G = lr_X4_doneIn_13 5002 0 (p_X2_copy (G 0 1) (G 0 0)) := rfl
  have hw := h.1.2.1
  have hq := h.1.2.2.2.1
  have hT := h.1.2.2.2.2.1
  have ht := h.1.2.2.1
  rw [e]
  refine ⟨d1, d2.trans ?_⟩
  unfold r_X2_isDone
  rw [n10, n12, n13]
  by_cases c : wc = 0
  · subst c
    rw [if_pos (show nI 0 = 0 from rfl)]
    by_cases d : Q = T
    · subst d; rw [if_pos rfl]; exact ⟨fun _ => ⟨rfl, rfl⟩, fun _ => by decide⟩
    · have nd : ¬ nI T = nI Q := fun z => d ((nI_eq (by omega) (by omega)).mp z).symm
      rw [if_neg nd]
      exact ⟨fun z => absurd rfl z, fun z => absurd z.2 d⟩
  · rw [if_neg (nI_ne0 (by omega) (by omega))]
    exact ⟨fun z => absurd rfl z, fun z => absurd z.1 c⟩
theorem doneIn_eq {G P : Nat → Nat → CS} {t : Nat} (h : J (G 0 0) (P 0 0) t) (ht : t + 5002 < 2 ^ 29) : r_X4_doneIn P = r_X4_doneIn G :=
  done_eq 5002 0 _ _ t (J_copy h (G 0 1) (P 0 1)) ht
/-! the time until a tick -/
theorem times_v {w : F1} {t : Nat} (h : CK w t) (ht : t < 2 ^ 29) : (r_X1_timesToTick w (nI t) = -5 ↔ nb (w 2) = 0) := by
  obtain ⟨p, f, x, y, h0, p1, p2, h1, f1, -⟩ := h
  unfold r_X1_timesToTick
  by_cases c : nb (w 2) = 0
  · rw [if_pos c]; exact ⟨fun _ => c, fun _ => rfl⟩
  · have l : (t + f) % p < p := Nat.mod_lt _ (by omega)
    rw [if_neg c, h0, h1, nI_add, rem_n (by omega) p1 p2, pk_sub (by omega)]
    exact ⟨fun z => absurd z (n5_ne (by omega)), fun z => absurd z c⟩
theorem an_1 (x : Int32) : (r_X4_asNumber (nb x) = 1 ↔ ¬ nb x = 0) := by
  unfold r_X4_asNumber
  by_cases c : nb x = 0
  · rw [if_pos c]; exact ⟨fun z => absurd z (by decide), fun z => absurd c z⟩
  · rw [if_neg c]; exact ⟨fun _ => c, fun _ => rfl⟩
