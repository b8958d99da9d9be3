/-! many steps, and what is told of them -/
theorem J_done {S Z : CS} {t : Nat} (h : J S Z t) : r_X2_isDone Z = r_X2_isDone S := by
  obtain ⟨k, wc, P, T, -, -, ⟨-, -, -, -, -, x10, x12, x13, -⟩, -⟩ := h
  unfold r_X2_isDone
  rw [x10, x12, x13]
theorem J_time {S Z : CS} {t : Nat} (h : J S Z t) : S 0 2 = nI t ∧ Z 0 2 = nI t ∧ t < 2 ^ 29 := by
  obtain ⟨k, wc, P, T, h1, -, ⟨-, -, x2, -⟩, -⟩ := h
  have e : S 0 2 = nI t := h1.2.2.2.2.2.1.2.1
  exact ⟨e, x2.trans e, h1.2.2.1⟩
theorem pass_J {n : Nat} (hn : n < 2 ^ 31) : ∀ (fu m : Nat) (S Z : CS) (t : Nat), n - m < fu → m ≤ n → J S Z t → t + (n - m) < 2 ^ 29 → J (lp_X2_letPass_2 (nI n) fu (nI m) S) (lp_X2_letPass_2 (nI n) fu (nI m) Z) (t + (n - m))
  | 0, m, S, Z, t, h, _, _, _ => absurd h (Nat.not_lt_zero _)
  | fu + 1, m, S, Z, t, h, hm, hJ, ht => by
    unfold lp_X2_letPass_2
    rcases Nat.lt_or_ge m n with q | q
    · rw [if_neg (nle_nI hn q), if_neg (nle_nI hn q), nI_1]
      have r := pass_J hn fu (m + 1) _ _ (t + 1) (by omega) q (J_step hJ (by omega)) (by omega)
      rw [show t + 1 + (n - (m + 1)) = t + (n - m) by omega] at r
      exact r
    · rw [if_pos (le_nI hn q (by omega)), if_pos (le_nI hn q (by omega)), show t + (n - m) = t by omega]
      exact hJ
theorem J_pass {S Z : CS} {t n : Nat} (h : J S Z t) (ht : t + n < 2 ^ 29) : J (p_X2_letPass S (nI n)) (p_X2_letPass Z (nI n)) (t + n) := by
  unfold p_X2_letPass
  have r := pass_J (n := n) (by omega) (((nI n).toInt - (0 : Int32).toInt).toNat + 1) 0 S Z t (by rw [nI_toInt (by omega), zero_toI]; omega) (Nat.zero_le _) h (by omega)
  exact r
/-! when all has come -/
theorem done_eq : ∀ (fu : Nat) (i : Int32) (S Z : CS) (t : Nat), J S Z t → t + fu < 2 ^ 29 → lr_X4_doneIn_13 fu i Z = lr_X4_doneIn_13 fu i S
  | 0, _, _, _, _, _, _ => rfl
  | fu + 1, i, S, Z, t, h, ht => by
    unfold lr_X4_doneIn_13
    rw [J_done h]
    by_cases c : (5000 : Int32) < i
    · rw [if_pos c, if_pos c]
    · rw [if_neg c, if_neg c]
      by_cases d : r_X2_isDone S = 0
      · rw [if_pos d, if_pos d]
        exact done_eq fu _ _ _ (t + 1) (J_step h (by omega)) (by omega)
      · rw [if_neg d, if_neg d]
theorem done_in : ∀ (fu i : Nat) (S : CS), i ≤ 5001 → 5001 - i < fu → lr_X4_doneIn_13 fu (nI i) S = -5 ∨ ∃ j : Nat, i ≤ j ∧ j ≤ 5000 ∧ lr_X4_doneIn_13 fu (nI i) S = nI j
  | 0, _, _, _, h => absurd h (Nat.not_lt_zero _)
  | fu + 1, i, S, hi, h => by
    unfold lr_X4_doneIn_13
    rcases Nat.lt_or_ge 5000 i with q | q
    · rw [if_pos (show (5000 : Int32) < nI i from nI_lt (a := 5000) q (by omega))]; exact Or.inl rfl
    · rw [if_neg (show ¬ (5000 : Int32) < nI i from nI_nlt (a := 5000) q (by decide))]
      by_cases d : r_X2_isDone S = 0
      · rw [if_pos d, nI_1]
        rcases done_in fu (i + 1) (p_X2_step S) (by omega) (by omega) with e | ⟨j, j1, j2, e⟩
        · exact Or.inl e
        · exact Or.inr ⟨j, by omega, j2, e⟩
      · rw [if_neg d]; exact Or.inr ⟨i, by omega, q, rfl⟩
theorem done_0 (S : CS) : (lr_X4_doneIn_13 5002 0 S = -5 ∨ ∃ j : Nat, j ≤ 5000 ∧ lr_X4_doneIn_13 5002 0 S = nI j) ∧ (lr_X4_doneIn_13 5002 0 S = 0 ↔ ¬ r_X2_isDone S = 0) := by
  have h := done_in 5002 0 S (by decide) (by decide)
  refine ⟨h.imp id (fun ⟨j, _, j2, e⟩ => ⟨j, j2, e⟩), ?_⟩
  unfold lr_X4_doneIn_13
  rw [if_neg (show ¬ (5000 : Int32) < 0 by decide)]
  by_cases d : r_X2_isDone S = 0
  · rw [if_pos d]
    refine ⟨fun e => ?_, fun e => absurd d e⟩
    exfalso
    have h2 := done_in 5001 1 (p_X2_step S) (by decide) (by decide)
    have e' : lr_X4_doneIn_13 5001 (nI 1) (p_X2_step S) = 0 := e
    rw [e'] at h2
    rcases h2 with z | ⟨j, j1, j2, z⟩
    · exact absurd z (by decide)
    · exact nI_ne0 (n := j) (by omega) (by omega) z.symm
  · rw [if_neg d]; exact ⟨fun _ => d, fun _ => rfl⟩
/-! how deep a ring has to be -/
theorem stalls_eq {a : Int32} : ∀ (fu : Nat) (i : Int32) (S Z : CS) (t : Nat), J S Z t → t + fu < 2 ^ 29 → lr_X2_stallsWithin_2 a fu i Z = lr_X2_stallsWithin_2 a fu i S
  | 0, _, _, _, _, _, _ => rfl
  | fu + 1, i, S, Z, t, h, ht => by
    have hs := stalls_eq (a := a) fu (i + 1) _ _ (t + 1) (J_step h (by omega)) (by omega)
    obtain ⟨k, wc, P, T, h1, -, h3⟩ := h
    have n2 : S 0 2 = nI t := h1.2.2.2.2.2.1.2.1
    have e : r_X1_ticksAt (Z 1) ((Z 0) 2 + 1) = r_X1_ticksAt (S 1) ((S 0) 2 + 1) := RL_wt h3 n2 h1.2.2.1
    unfold lr_X2_stallsWithin_2
    rw [e, RL_full h3, show Z 0 10 = S 0 10 from h3.1.2.2.2.2.2.1]
    dsimp only
    rw [hs]
theorem J_stalls {S Z : CS} {t n : Nat} (h : J S Z t) (ht : t + n + 1 < 2 ^ 29) : r_X2_stallsWithin Z (nI n) = r_X2_stallsWithin S (nI n) := by
  unfold r_X2_stallsWithin
  exact stalls_eq _ _ _ _ t h (by rw [nI_toInt (by omega), zero_toI]; omega)
theorem J_try {S Z : CS} {t k' : Nat} (h : J S Z t) (hk' : 1 ≤ k' ∧ k' ≤ 4) (A B : CS) : J (p_X2_emptyRing (p_X2_copy A S) (nI k') (S 0 1)) (p_X2_emptyRing (p_X2_copy B Z) (nI k') (Z 0 1)) t := by
  obtain ⟨k, wc, P, T, h⟩ := h
  exact ⟨k', wc, 0, 0, JJ_empty (JJ_se h (copy_se A S) (copy_se B Z)) hk' h.2.2.1.2.1⟩
theorem least_eq {G P : Nat → Nat → CS} {t n : Nat} (h : J (G 0 0) (P 0 0) t) (hn : 1 ≤ n ∧ n ≤ 500) (ht : t + n + 1 < 2 ^ 29) : r_X4_leastDepth P (nI n) = r_X4_leastDepth G (nI n) := by
  have hin : ¬ r_X4_isWithin (nI n) 1 500 = 0 := by
    unfold r_X4_isWithin
    rw [if_neg (show ¬ nI n < (1 : Int32) from nI_nlt (b := 1) hn.1 (by omega)), if_neg (show ¬ (500 : Int32) < nI n from nI_nlt (a := 500) hn.2 (by decide))]
    decide
  unfold r_X4_leastDepth
  rw [if_neg hin, if_neg hin]
  dsimp only
  have t1 := fun A B => J_stalls (n := n) (J_try (k' := 1) h (by decide) A B) ht
  have t2 := fun A B => J_stalls (n := n) (J_try (k' := 2) h (by decide) A B) ht
  have t3 := fun A B => J_stalls (n := n) (J_try (k' := 3) h (by decide) A B) ht
  have t4 := fun A B => J_stalls (n := n) (J_try (k' := 4) h (by decide) A B) ht
  rw [show (1 : Int32) = nI 1 from rfl, show (2 : Int32) = nI 2 from rfl, show (3 : Int32) = nI 3 from rfl, show (4 : Int32) = nI 4 from rfl, t1 (G 0 1) (P 0 1)]
  by_cases c1 : r_X2_stallsWithin (p_X2_emptyRing (p_X2_copy (G 0 1) (G 0 0)) (nI 1) (G 0 0 0 1)) (nI n) = 0
  · rw [if_pos c1, if_pos c1]
  rw [if_neg c1, if_neg c1]
  generalize p_X2_stallsWithin (p_X2_emptyRing (p_X2_copy (G 0 1) (G 0 0)) (nI 1) (G 0 0 0 1)) (nI n) = A1
  generalize p_X2_stallsWithin (p_X2_emptyRing (p_X2_copy (P 0 1) (P 0 0)) (nI 1) (P 0 0 0 1)) (nI n) = B1
  rw [t2 A1 B1]
  by_cases c2 : r_X2_stallsWithin (p_X2_emptyRing (p_X2_copy A1 (G 0 0)) (nI 2) (G 0 0 0 1)) (nI n) = 0
  · rw [if_pos c2, if_pos c2]
  rw [if_neg c2, if_neg c2]
  generalize p_X2_stallsWithin (p_X2_emptyRing (p_X2_copy A1 (G 0 0)) (nI 2) (G 0 0 0 1)) (nI n) = A2
  generalize p_X2_stallsWithin (p_X2_emptyRing (p_X2_copy B1 (P 0 0)) (nI 2) (P 0 0 0 1)) (nI n) = B2
  rw [t3 A2 B2]
  by_cases c3 : r_X2_stallsWithin (p_X2_emptyRing (p_X2_copy A2 (G 0 0)) (nI 3) (G 0 0 0 1)) (nI n) = 0
  · rw [if_pos c3, if_pos c3]
  rw [if_neg c3, if_neg c3]
  generalize p_X2_stallsWithin (p_X2_emptyRing (p_X2_copy A2 (G 0 0)) (nI 3) (G 0 0 0 1)) (nI n) = A3
  generalize p_X2_stallsWithin (p_X2_emptyRing (p_X2_copy B2 (P 0 0)) (nI 3) (P 0 0 0 1)) (nI n) = B3
  rw [t4 A3 B3]
/-! words by words -/
theorem wait_J {x y : Int32} {n k t P T : Nat} (hn : n < 2 ^ 31) (hx : WD x y) : ∀ (fu m : Nat) (S Z : CS) (wc : Nat), n - m < fu → m ≤ n → wc + (n - m) ≤ 20 → JJ S Z k t wc P T → lr_X2_letWait_15 x (nI n) fu (nI m) S = 1 ∧ lr_X2_letWait_15 y (nI n) fu (nI m) Z = 1 ∧ JJ (lp_X2_letWait_15 x (nI n) fu (nI m) S) (lp_X2_letWait_15 y (nI n) fu (nI m) Z) k t (wc + (n - m)) P T
  | 0, m, _, _, _, h, _, _, _ => absurd h (Nat.not_lt_zero _)
  | fu + 1, m, S, Z, wc, h, hm, hw, hJ => by
    unfold lr_X2_letWait_15 lp_X2_letWait_15
    rcases Nat.lt_or_ge m n with q | q
    · rw [if_neg (nle_nI hn q), if_neg (nle_nI hn q), if_neg (nle_nI hn q), if_neg (nle_nI hn q), nI_1]
      have r := wait_J hn hx fu (m + 1) _ _ (wc + 1) (by omega) q (by omega) (JJ_wait hJ (by omega) hx).1
      rw [show wc + 1 + (n - (m + 1)) = wc + (n - m) by omega] at r
      exact r
    · rw [if_pos (le_nI hn q (by omega)), if_pos (le_nI hn q (by omega)), if_pos (le_nI hn q (by omega)), if_pos (le_nI hn q (by omega)), show wc + (n - m) = wc by omega]
      exact ⟨rfl, rfl, hJ⟩
theorem JJ_letWait {S Z : CS} {x y : Int32} {k t wc P T n : Nat} (h : JJ S Z k t wc P T) (hn : n ≤ 9) (hx : WD x y) : r_X2_letWait Z y (nI n) = r_X2_letWait S x (nI n) ∧ (wc + n ≤ 20 → r_X2_letWait S x (nI n) = 1 ∧ JJ (p_X2_letWait S x (nI n)) (p_X2_letWait Z y (nI n)) k t (wc + n) P T) ∧ (¬ wc + n ≤ 20 → r_X2_letWait S x (nI n) = 0) := by
  have n10 : S 0 10 = nI wc := h.1.2.2.2.2.2.1.2.2.1
  have x10 : Z 0 10 = nI wc := h.2.2.1.2.2.2.2.2.1.trans n10
  have hw := h.1.2.1
  unfold r_X2_letWait p_X2_letWait
  rw [n10, x10, nI_add]
  rcases Nat.lt_or_ge 20 (wc + n) with q | q
  · have e : ¬ nI (wc + n) ≤ (20 : Int32) := nI_ge (a := 20) q (by omega)
    rw [if_neg e, if_neg e]
    exact ⟨rfl, fun c => absurd c (by omega), fun _ => rfl⟩
  · have e : nI (wc + n) ≤ (20 : Int32) := nI_le (b := 20) q (by decide)
    rw [if_pos e, if_pos e, if_pos e, if_pos e]
    obtain ⟨r1, r2, r3⟩ := wait_J (n := n) (by omega) hx (((nI n).toInt - (0 : Int32).toInt).toNat + 1) 0 S Z wc (by rw [nI_toInt (by omega), zero_toI]; omega) (Nat.zero_le _) (by omega) h
    rw [show (nI 0) = (0 : Int32) from rfl] at r1 r2 r3
    rw [r1, r2]
    exact ⟨rfl, fun _ => ⟨rfl, r3⟩, fun c => absurd q c⟩
/-! what a text tells, followed -/
/-- two lists of parts: the same but for their words -/
def PL : List (Int32 × Int32) → List (Int32 × Int32) → Prop
  | [], [] => True
  | (w, n) :: l, (v, m) :: r => (m = n ∧ ((w = -1 ∧ v = -1 ∧ ∃ j : Nat, j ≤ 99 ∧ n = nI j) ∨ (WD w v ∧ ∃ j : Nat, j ≤ 9 ∧ n = nI j))) ∧ PL l r
  | _, _ => False
theorem WD_n1 {w v : Int32} (h : WD w v) : ¬ w = -1 ∧ ¬ v = -1 := by
  obtain ⟨a, ha, rfl, rfl⟩ := h
  exact ⟨nI_nm1 (by omega), nI_nm1 (by omega)⟩
theorem hasTime_eq {S Z : CS} {t : Nat} (h : J S Z t) (x : Int32) : r_X2_hasTimeFor Z x = r_X2_hasTimeFor S x := by
  obtain ⟨e1, e2, -⟩ := J_time h
  unfold r_X2_hasTimeFor
  rw [e1, e2]
theorem Arr_len {T : CS} : ∀ (l : List (Int32 × Int32)) (j : Nat), j ≤ 30 → Arr T j l → T 0 4 = nI (j + l.length) ∧ j + l.length ≤ 30
  | [], j, hj, h => ⟨h, hj⟩
  | (w, t) :: r, j, hj, h => by
    have := Arr_len r (j + 1) (by have := h.1; omega) h.2.2.2
    rw [List.length_cons, show j + (r.length + 1) = j + 1 + r.length by omega]
    exact this
theorem follow_J {T U : CS} : ∀ (l r : List (Int32 × Int32)) (fu i : Nat) (S Z : CS) (t : Nat), PL l r → Arr T i l → Arr U i r → i ≤ 30 → l.length < fu → J S Z t → t + 99 * l.length < 2 ^ 29 → lr_X2_follow_2 U fu (nI i) Z = lr_X2_follow_2 T fu (nI i) S ∧ (lr_X2_follow_2 T fu (nI i) S = 0 ∨ lr_X2_follow_2 T fu (nI i) S = 1 ∧ ∃ u, u ≤ t + 99 * l.length ∧ J (lp_X2_follow_2 T fu (nI i) S) (lp_X2_follow_2 U fu (nI i) Z) u)
  | _, _, 0, _, _, _, _, _, _, _, _, h, _, _ => absurd h (Nat.not_lt_zero _)
  | [], [], fu + 1, i, S, Z, t, _, hT, hU, hi, _, hJ, _ => by
    unfold lr_X2_follow_2 lp_X2_follow_2
    have e1 : T 0 4 ≤ nI i := by rw [show T 0 4 = nI i from hT]; exact nI_le (Nat.le_refl _) (by omega)
    have e2 : U 0 4 ≤ nI i := by rw [show U 0 4 = nI i from hU]; exact nI_le (Nat.le_refl _) (by omega)
    rw [if_pos e1, if_pos e2, if_pos e1, if_pos e2]
    exact ⟨rfl, Or.inr ⟨rfl, t, by omega, hJ⟩⟩
  | [], _ :: _, _, _, _, _, _, h, _, _, _, _, _, _ => h.elim
  | _ :: _, [], _, _, _, _, _, h, _, _, _, _, _, _ => h.elim
  | (w, n) :: l, (v, m) :: r, fu + 1, i, S, Z, t, hp, hT, hU, hi, hl, hJ, ht => by
    obtain ⟨⟨rfl, hp1⟩, hp2⟩ := hp
    obtain ⟨l1, l2⟩ := Arr_len _ _ hi hT
    obtain ⟨l3, -⟩ := Arr_len _ _ hi hU
    obtain ⟨hi30, t2, t3, hT'⟩ := hT
    obtain ⟨-, u2, u3, hU'⟩ := hU
    rw [List.length_cons] at l1 l2 hl ht
    rw [List.length_cons] at l3
    have e1 : ¬ T 0 4 ≤ nI i := by rw [l1]; exact nI_ge (by omega) (by omega)
    have e2 : ¬ U 0 4 ≤ nI i := by
      have : r.length = l.length := by
        clear hT' hU' l1 l3 t2 t3 u2 u3 hp1 hJ hl ht l2 e1
        induction l generalizing r with
        | nil => cases r with
          | nil => rfl
          | cons a b => exact hp2.elim
        | cons a b ih => cases r with
          | nil => exact hp2.elim
          | cons c d => rw [List.length_cons, List.length_cons, ih d hp2.2]
      rw [l3, this]; exact nI_ge (by omega) (by omega)
    have v2 : r_X4_valueAt (T 2) (nI i) 30 = w := by rw [valueAt_in (by decide) hi30]; exact t2
    have v3 : r_X4_valueAt (T 3) (nI i) 30 = m := by rw [valueAt_in (by decide) hi30]; exact t3
    have v4 : r_X4_valueAt (U 2) (nI i) 30 = v := by rw [valueAt_in (by decide) hi30]; exact u2
    have v5 : r_X4_valueAt (U 3) (nI i) 30 = m := by rw [valueAt_in (by decide) hi30]; exact u3
    unfold lr_X2_follow_2 lp_X2_follow_2
    rw [if_neg e1, if_neg e2, if_neg e1, if_neg e2, v2, v3, v4, v5, nI_1]
    dsimp only
    rcases hp1 with ⟨rfl, rfl, j, hj, rfl⟩ | ⟨hx, j, hj, rfl⟩
    · rw [if_pos rfl, if_pos rfl, if_pos rfl, if_pos rfl, hasTime_eq hJ]
      by_cases c : r_X2_hasTimeFor S (nI j) = 0
      · rw [if_pos c, if_pos c]; exact ⟨rfl, Or.inl rfl⟩
      · rw [if_neg c, if_neg c, if_neg c, if_neg c]
        obtain ⟨r1, r2⟩ := follow_J l r fu (i + 1) _ _ (t + j) hp2 hT' hU' (by omega) (by omega) (J_pass hJ (by omega)) (by omega)
        refine ⟨r1, r2.imp id (fun ⟨a, u, hu, b⟩ => ⟨a, u, ?_, b⟩)⟩
        rw [List.length_cons]; omega
    · obtain ⟨z1, z2⟩ := WD_n1 hx
      rw [if_neg z1, if_neg z2, if_neg z1, if_neg z2]
      obtain ⟨k, wc, P, Tt, hJ⟩ := hJ
      obtain ⟨a1, a2, a3⟩ := JJ_letWait hJ hj hx
      rw [a1]
      rcases Nat.lt_or_ge 20 (wc + j) with q | q
      · rw [a3 (by omega), if_pos rfl, if_pos rfl]; exact ⟨rfl, Or.inl rfl⟩
      · obtain ⟨b1, b2⟩ := a2 q
        rw [b1, if_neg (show ¬ (1 : Int32) = 0 by decide), if_neg (show ¬ (1 : Int32) = 0 by decide), if_neg (show ¬ (1 : Int32) = 0 by decide), if_neg (show ¬ (1 : Int32) = 0 by decide)]
        obtain ⟨r1, r2⟩ := follow_J l r fu (i + 1) _ _ t hp2 hT' hU' (by omega) (by omega) ⟨k, _, P, Tt, b2⟩ (by omega)
        refine ⟨r1, r2.imp id (fun ⟨a, u, hu, b⟩ => ⟨a, u, ?_, b⟩)⟩
        rw [List.length_cons]; omega
