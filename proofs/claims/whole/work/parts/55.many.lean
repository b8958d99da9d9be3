/-! many units of time -/
def RT (S : CS) (a : F1) (k wc t u : Nat) : Prop := R S a k wc t ∧ S 0 2 = nI u ∧ t ≤ u
theorem RT_step {S M : CS} {k wc t u : Nat} (h : RT S (M 1) k wc t u) (hu : u < 2 ^ 31) :
    ∃ wc' t', RT (p_X2_step S) (p_X5_passes M 1) k wc' t' (u + 1) ∧ wc' ≤ wc ∧ (∀ i, i ≠ 1 → p_X5_passes M i = M i) := by
  obtain ⟨hR, hS, ht⟩ := h
  rw [step_eq, pass_eq]
  obtain ⟨h1, s1, m1, -, -⟩ := R_kR hR
  have e2 : kR S 0 2 = nI (u + 1) := by rw [s1 0 (by decide) (by decide)]; show S 0 2 + 1 = _; rw [hS, nI_1]
  have T : ∃ t', R (kT S) (mT M 1) k wc t' ∧ t' ≤ t + 1 ∧ (∀ i, i ≠ 1 → mT M i = M i) ∧ kT S 0 2 = nI (u + 1) := by
    unfold kT mT
    rw [R_ra hR]
    by_cases c : raS S = 0
    · rw [if_pos c, if_pos c]; exact ⟨t, h1, by omega, m1, e2⟩
    · rw [if_neg c, if_neg c]
      obtain ⟨h2, m2, e3, -, -⟩ := R_take h1 (by omega)
      exact ⟨t + 1, h2, by omega, fun i hi => (m2 i hi).trans (m1 i hi), e3.trans e2⟩
  obtain ⟨t', h3, ht', m3, e4⟩ := T
  unfold kP mP
  rw [R_wa hR]
  by_cases c : waS S = 0
  · rw [if_pos c, if_pos c]
    exact ⟨wc, t', ⟨h3, e4, by omega⟩, Nat.le_refl _, m3⟩
  · rw [if_neg c, if_neg c]
    have hw : 0 < wc := by
      rcases Nat.eq_zero_or_pos wc with z | z
      · exfalso
        apply c
        unfold waS
        rw [show S 0 10 = 0 by rw [hR.2.2.1.2.2.2.2.2.2.1, z]; rfl]
        by_cases d : wtS S = 0
        · rw [if_pos d]
        · rw [if_neg d, if_pos (by decide)]
      · exact z
    obtain ⟨h4, m4, e5⟩ := R_put h3 hw
    exact ⟨wc - 1, t', ⟨h4, e5.trans e4, by omega⟩, Nat.sub_le _ _, fun i hi => (m4 i hi).trans (m3 i hi)⟩
theorem RT_many {a : Nat} (ha : a < 2 ^ 30) : ∀ (fu j : Nat) (S M : CS) (k wc t u : Nat), RT S (M 1) k wc t u → a - j < fu → j ≤ a → u + (a - j) < 2 ^ 31 →
    ∃ wc' t', RT (lp_X2_letPass_2 (nI a) fu (nI j) S) (lp_X5_passMany_2 (nI a) fu (nI j) M 1) k wc' t' (u + (a - j)) ∧ wc' ≤ wc ∧ (∀ i, i ≠ 1 → lp_X5_passMany_2 (nI a) fu (nI j) M i = M i)
  | 0, j, S, M, k, wc, t, u, h, hf, _, _ => absurd hf (Nat.not_lt_zero _)
  | fu + 1, j, S, M, k, wc, t, u, h, hf, hj, hu => by
    unfold lp_X2_letPass_2 lp_X5_passMany_2
    rcases Nat.lt_or_ge j a with q | q
    · rw [if_neg (nle_nI (by omega) q), if_neg (nle_nI (by omega) q), nI_1]
      obtain ⟨wc1, t1, h1, l1, m1⟩ := RT_step h (by omega)
      obtain ⟨wc2, t2, h2, l2, m2⟩ := RT_many ha fu (j + 1) _ _ k wc1 t1 (u + 1) h1 (by omega) q (by omega)
      refine ⟨wc2, t2, ?_, Nat.le_trans l2 l1, fun i hi => (m2 i hi).trans (m1 i hi)⟩
      rw [show u + (a - j) = u + 1 + (a - (j + 1)) by omega]; exact h2
    · rw [if_pos (le_nI (by omega) q (by omega)), if_pos (le_nI (by omega) q (by omega)), show a - j = 0 by omega]
      exact ⟨wc, t, h, Nat.le_refl _, fun _ _ => rfl⟩
theorem RT_pass {a : Nat} (ha : a < 2 ^ 30) {S M : CS} {k wc t u : Nat} (h : RT S (M 1) k wc t u) (hu : u + a < 2 ^ 31) :
    ∃ wc' t', RT (p_X2_letPass S (nI a)) (p_X5_passMany M (nI a) 1) k wc' t' (u + a) ∧ wc' ≤ wc ∧ (∀ i, i ≠ 1 → p_X5_passMany M (nI a) i = M i) := by
  have H := RT_many ha (((nI a).toInt - (0 : Int32).toInt).toNat + 1) 0 S M k wc t u h (by rw [nI_toInt (by omega), zero_toI]; omega) (Nat.zero_le _) (by omega)
  exact H
/-! all is done -/
theorem R_done {S M : CS} {k wc t : Nat} (h : R S (M 1) k wc t) : r_X5_isDone M = r_X2_isDone S := by
  obtain ⟨-, -, ⟨n0, n1, n2, n3, n4, n5, n6, n7, n8, n9, n10, n11, n12, n13⟩, -⟩ := h
  unfold r_X5_isDone r_X2_isDone
  rw [n7, n8, n10, n6, n9]
  by_cases c : nI t = S 0 12
  · rw [if_pos c, if_pos c]
  · rw [if_neg c, if_neg c]
    split <;> rfl
theorem RT_doneIn {k : Nat} : ∀ (fu j : Nat) (S M : CS) (wc t u : Nat), RT S (M 1) k wc t u → 5001 - j < fu → j ≤ 5001 → u + (5001 - j) < 2 ^ 31 →
    lr_X4_doneIn_13 fu (nI j) S = lr_X5_doneIn_13 fu (nI j) M ∧ (∀ i, i ≠ 1 → lp_X5_doneIn_13 fu (nI j) M i = M i) ∧ (∀ i, i < 96 → lp_X5_doneIn_13 fu (nI j) M 1 i = M 3 i)
  | 0, j, S, M, wc, t, u, h, hf, _, _ => absurd hf (Nat.not_lt_zero _)
  | fu + 1, j, S, M, wc, t, u, h, hf, hj, hu => by
    unfold lr_X4_doneIn_13 lr_X5_doneIn_13 lp_X5_doneIn_13
    rw [R_done h.1]
    rcases Nat.lt_or_ge 5000 j with q | q
    · have q1 : (5000 : Int32) < nI j := nI_lt (a := 5000) q (by omega)
      have q2 : ¬ nI j ≤ (5000 : Int32) := nle_nI (n := j) (k := 5000) (by omega) q
      rw [if_pos q1, if_pos q1, if_pos q1]
      dsimp only
      rw [if_neg q2, if_neg q2]
      exact ⟨rfl, fun i hi => va_up_n hi, fun i hi => by rw [va_up_s]; exact cp5_lt _ _ hi⟩
    · have q1 : ¬ (5000 : Int32) < nI j := nI_nlt (a := 5000) q (by decide)
      have q2 : nI j ≤ (5000 : Int32) := nI_le (b := 5000) q (by decide)
      rw [if_neg q1, if_neg q1, if_neg q1]
      by_cases c : r_X2_isDone S = 0
      · rw [if_pos c, if_pos c, if_pos c, nI_1]
        obtain ⟨wc1, t1, h1, l1, m1⟩ := RT_step h (by omega)
        obtain ⟨g1, g2, g3⟩ := RT_doneIn fu (j + 1) _ _ wc1 t1 (u + 1) h1 (by omega) (by omega) (by omega)
        exact ⟨g1, fun i hi => (g2 i hi).trans (m1 i hi), fun i hi => (g3 i hi).trans (by rw [m1 3 (by decide)])⟩
      · rw [if_neg c, if_neg c, if_neg c]
        dsimp only
        rw [if_pos q2, if_pos q2]
        exact ⟨rfl, fun i hi => va_up_n hi, fun i hi => by rw [va_up_s]; exact cp5_lt _ _ hi⟩
/-! what R looks at -/
theorem R_agreeA {S : CS} {a a' : F1} {k wc t : Nat} (h : R S a k wc t) (ha : ∀ j, j < 96 → a' j = a j) : R S a' k wc t := by
  obtain ⟨hk, hw, hN, hW, hR, r3, r4, r5, r6⟩ := h
  refine ⟨hk, hw, RN_of hN rfl (fun j hj => ha j (by omega)), RS_of hW rfl (fun j h1 h2 => ha j (by omega)), RS_of hR rfl (fun j h1 h2 => ha j (by omega)), fun i hi => ?_, fun i hi => ?_, fun i hi => ?_, fun j hj hk => ?_⟩
  · rw [ha _ (by omega)]; exact r3 i hi
  · rw [ha _ (by omega)]; exact r4 i hi
  · rw [ha _ (by omega)]; exact r5 i hi
  · rw [ha _ (by omega)]; exact r6 j hj hk
/-- two states of the class that R does not tell apart -/
def SE (S' S : CS) : Prop :=
  (S' 0 0 = S 0 0 ∧ nb (S' 0 1) = nb (S 0 1) ∧ S' 0 2 = S 0 2 ∧ S' 0 3 = S 0 3 ∧ S' 0 4 = S 0 4 ∧ S' 0 10 = S 0 10 ∧ S' 0 12 = S 0 12 ∧ S' 0 13 = S 0 13 ∧ S' 0 14 = S 0 14) ∧
  (∀ s, s = 1 ∨ s = 2 → (S' s 0 = S s 0 ∧ S' s 1 = S s 1 ∧ nb (S' s 2) = nb (S s 2) ∧ S' s 3 = S s 3 ∧ S' s 4 = S s 4 ∧ S' s 5 = S s 5 ∧ S' s 6 = S s 6 ∧ S' s 7 = S s 7)) ∧
  (∀ i, i < 16 → S' 3 i = S 3 i) ∧ (∀ i, i < 16 → S' 4 i = S 4 i) ∧ (∀ i, i < 20 → S' 5 i = S 5 i) ∧ (∀ i, i < 16 → S' 6 i = S 6 i)
theorem RS_se {w w' a : F1} {b k : Nat} (h : RS w a b k) (e : w' 0 = w 0 ∧ w' 1 = w 1 ∧ nb (w' 2) = nb (w 2) ∧ w' 3 = w 3 ∧ w' 4 = w 4 ∧ w' 5 = w 5 ∧ w' 6 = w 6 ∧ w' 7 = w 7) : RS w' a b k := by
  obtain ⟨e0, e1, e2, e3, e4, e5, e6, e7⟩ := e
  unfold RS at h ⊢
  rw [e0, e1, e2, e3, e4, e5, e6, e7]
  exact h
theorem R_se {S S' : CS} {a : F1} {k wc t : Nat} (h : R S a k wc t) (e : SE S' S) : R S' a k wc t := by
  obtain ⟨⟨e0, e1, e2, e3, e4, e5, e6, e7, e8⟩, es, x3, x4, x5, x6⟩ := e
  obtain ⟨hk, hw, hN, hW, hR, r3, r4, r5, r6⟩ := h
  refine ⟨hk, hw, ?_, RS_se hW (es 1 (Or.inl rfl)), RS_se hR (es 2 (Or.inr rfl)), fun i hi => ?_, fun i hi => ?_, fun i hi => ?_, fun j hj hk => ?_⟩
  · unfold RN at hN ⊢
    rw [e0, e1, e2, e3, e4, e5, e6, e7, e8]
    exact hN
  · rw [x3 i hi]; exact r3 i hi
  · rw [x4 i hi]; exact r4 i hi
  · rw [x5 i (by omega)]; exact r5 i hi
  · rw [x6 _ (Nat.mod_lt _ (by decide))]; exact r6 j hj hk
theorem RT_se {S S' : CS} {a : F1} {k wc t u : Nat} (h : RT S a k wc t u) (e : SE S' S) : RT S' a k wc t u := ⟨R_se h.1 e, e.1.2.2.1.trans h.2.1, h.2.2⟩
