/-! copies and rings built anew, of two objects -/
/-- two states of the class that R does not tell apart -/
def SE (S' S : CS) : Prop :=
  (S' 0 0 = S 0 0 ∧ nb (S' 0 1) = nb (S 0 1) ∧ S' 0 2 = S 0 2 ∧ S' 0 3 = S 0 3 ∧ S' 0 4 = S 0 4 ∧ S' 0 10 = S 0 10 ∧ S' 0 12 = S 0 12 ∧ S' 0 13 = S 0 13 ∧ S' 0 14 = S 0 14) ∧
  (∀ s, s = 1 ∨ s = 2 → (S' s 0 = S s 0 ∧ S' s 1 = S s 1 ∧ nb (S' s 2) = nb (S s 2) ∧ S' s 3 = S s 3 ∧ S' s 4 = S s 4 ∧ S' s 5 = S s 5 ∧ S' s 6 = S s 6 ∧ S' s 7 = S s 7)) ∧
  (∀ i, i < 16 → S' 3 i = S 3 i) ∧ (∀ i, i < 16 → S' 4 i = S 4 i) ∧ (∀ i, i < 20 → S' 5 i = S 5 i) ∧ (∀ i, i < 16 → S' 6 i = S 6 i)
theorem copyRow16 (f g : F1) {j : Nat} (hj : j < 16) : p_X4_copyRow f g 16 16 j = f j := copyRow_at (by decide) f g hj
theorem copyRow20 (f g : F1) {j : Nat} (hj : j < 20) : p_X4_copyRow f g 20 20 j = f j := copyRow_at (by decide) f g hj
theorem copy_3 (S T : CS) : p_X2_copy S T 3 = p_X4_copyRow (T 3) (S 3) 16 16 := by
  unfold p_X2_copy; dsimp only; rw [va_up_n (by decide), va_up_n (by decide), va_up_n (by decide), va_up_s]
theorem copy_4 (S T : CS) : p_X2_copy S T 4 = p_X4_copyRow (T 4) (S 4) 16 16 := by
  unfold p_X2_copy; dsimp only; rw [va_up_n (by decide), va_up_n (by decide), va_up_s]
theorem copy_5 (S T : CS) : p_X2_copy S T 5 = p_X4_copyRow (T 5) (S 5) 20 20 := by
  unfold p_X2_copy; dsimp only; rw [va_up_n (by decide), va_up_s]
theorem copy_6 (S T : CS) : p_X2_copy S T 6 = p_X4_copyRow (T 6) (S 6) 16 16 := by
  unfold p_X2_copy; dsimp only; rw [va_up_s]
theorem copy_se (S T : CS) : SE (p_X2_copy S T) T := by
  refine ⟨⟨rfl, rfl, rfl, rfl, rfl, rfl, rfl, rfl, rfl⟩, ?_, fun i hi => ?_, fun i hi => ?_, fun i hi => ?_, fun i hi => ?_⟩
  · intro s hs
    rcases hs with rfl | rfl
    · exact ⟨rfl, rfl, rfl, rfl, rfl, rfl, rfl, rfl⟩
    · exact ⟨rfl, rfl, rfl, rfl, rfl, rfl, rfl, rfl⟩
  · rw [copy_3]; exact copyRow16 (T 3) (S 3) hi
  · rw [copy_4]; exact copyRow16 (T 4) (S 4) hi
  · rw [copy_5]; exact copyRow20 (T 5) (S 5) hi
  · rw [copy_6]; exact copyRow16 (T 6) (S 6) hi
theorem fillRow16 (f : F1) (v : Int32) {j : Nat} (hj : j < 16) : p_X4_fillRow f v 16 j = v := fillRow_at (by decide) f hj
theorem empty_3 (S : CS) (x g : Int32) : p_X2_emptyRing S x g 3 = p_X4_fillRow (S 3) 0 16 := by
  unfold p_X2_emptyRing; dsimp only; rw [va_up_n (by decide), va_up_s]
theorem empty_4 (S : CS) (x g : Int32) : p_X2_emptyRing S x g 4 = p_X4_fillRow (S 4) (-5) 16 := by
  unfold p_X2_emptyRing; dsimp only; rw [va_up_s]
theorem empty_5 (S : CS) (x g : Int32) : p_X2_emptyRing S x g 5 = S 5 := by
  unfold p_X2_emptyRing; dsimp only; rw [va_up_n (by decide), va_up_n (by decide), va_up_n (by decide), va_up_n (by decide), va_up_n (by decide)]
theorem empty_6 (S : CS) (x g : Int32) : p_X2_emptyRing S x g 6 = S 6 := by
  unfold p_X2_emptyRing; dsimp only; rw [va_up_n (by decide), va_up_n (by decide), va_up_n (by decide), va_up_n (by decide), va_up_n (by decide)]
theorem empty_0 (S : CS) (x g : Int32) : p_X2_emptyRing S x g 0 = upd (upd (upd (upd (upd (S 0) 0 x) 1 g) 12 0) 13 0) 14 0 := by
  unfold p_X2_emptyRing; dsimp only; rw [va_up_n (by decide), va_up_n (by decide), va_up_n (by decide), va_up_n (by decide), va_up_s]
theorem empty_1 (S : CS) (x g : Int32) : p_X2_emptyRing S x g 1 = p_X1_clearPointers (S 1) := by
  unfold p_X2_emptyRing; dsimp only; rw [va_up_n (by decide), va_up_n (by decide), va_up_n (by decide), va_up_s]
theorem empty_2 (S : CS) (x g : Int32) : p_X2_emptyRing S x g 2 = p_X1_clearPointers (S 2) := by
  unfold p_X2_emptyRing; dsimp only; rw [va_up_n (by decide), va_up_n (by decide), va_up_s]
def JJ (S Z : CS) (k t wc P T : Nat) : Prop := IB S k t wc P T ∧ GY S k P T ∧ RE S Z wc T
def J (S Z : CS) (t : Nat) : Prop := ∃ k wc P T, JJ S Z k t wc P T
theorem JJ_step {S Z : CS} {k t wc P T : Nat} (h : JJ S Z k t wc P T) (ht : t + 1 < 2 ^ 29) : JJ (p_X2_step S) (p_X2_step Z) k (t + 1) (wc - i1 (waS S)) (P + i1 (waS S)) (T + i1 (raS S)) :=
  ⟨IB_step h.1 ht, GY_step h.1 h.2.1, RL_step h.1.bs (by have := h.1.2.2.1; have := h.1.2.2.2.1; omega) h.2.2⟩
theorem J_step {S Z : CS} {t : Nat} (h : J S Z t) (ht : t + 1 < 2 ^ 29) : J (p_X2_step S) (p_X2_step Z) (t + 1) := by
  obtain ⟨k, wc, P, T, h⟩ := h
  exact ⟨k, _, _, _, JJ_step h ht⟩
/-! states that are not told apart -/
theorem CK_se {w v : F1} {t : Nat} (h : CK w t) (e : v 0 = w 0 ∧ v 1 = w 1 ∧ nb (v 2) = nb (w 2) ∧ v 3 = w 3 ∧ v 4 = w 4 ∧ v 5 = w 5 ∧ v 6 = w 6 ∧ v 7 = w 7) : CK v t := by
  obtain ⟨e0, e1, -, -, -, -, e6, e7⟩ := e
  unfold CK
  rw [e0, e1, e6, e7]
  exact h
theorem RP_se {w v : F1} {k c : Nat} (h : RP w k c) (e : v 0 = w 0 ∧ v 1 = w 1 ∧ nb (v 2) = nb (w 2) ∧ v 3 = w 3 ∧ v 4 = w 4 ∧ v 5 = w 5 ∧ v 6 = w 6 ∧ v 7 = w 7) : RP v k c := by
  obtain ⟨-, -, -, e3, e4, e5, -, -⟩ := e
  unfold RP
  rw [e3, e4, e5]
  exact h
theorem RK_se {w v a b : F1} (h : RK w v) (e : a 0 = w 0 ∧ a 1 = w 1 ∧ nb (a 2) = nb (w 2) ∧ a 3 = w 3 ∧ a 4 = w 4 ∧ a 5 = w 5 ∧ a 6 = w 6 ∧ a 7 = w 7) (g : b 0 = v 0 ∧ b 1 = v 1 ∧ nb (b 2) = nb (v 2) ∧ b 3 = v 3 ∧ b 4 = v 4 ∧ b 5 = v 5 ∧ b 6 = v 6 ∧ b 7 = v 7) : RK a b := by
  obtain ⟨e0, e1, e2, e3, e4, e5, e6, e7⟩ := e
  obtain ⟨g0, g1, g2, g3, g4, g5, g6, g7⟩ := g
  unfold RK
  rw [e0, e1, e2, e3, e4, e5, e6, e7, g0, g1, g2, g3, g4, g5, g6, g7]
  exact h
theorem JJ_se {S Z A B : CS} {k t wc P T : Nat} (h : JJ S Z k t wc P T) (e : SE A S) (g : SE B Z) : JJ A B k t wc P T := by
  obtain ⟨⟨hk, hw, ht, hP, hT, ⟨n0, n2, n10, n12, n13⟩, c1, c2, q1, q2, nu, r, hr, rT⟩, gy, ⟨x0, x1, x2, x3, x4, x10, x12, x13, x14⟩, k1, k2, r4, rn, rw', rq, rc⟩ := h
  obtain ⟨⟨e0, e1, e2, e3, e4, e10, e12, e13, e14⟩, es, y3, y4, y5, y6⟩ := e
  obtain ⟨⟨g0, g1, g2, g3, g4, g10, g12, g13, g14⟩, gs, z3, z4, z5, z6⟩ := g
  have l16 := pkk hk
  have s1 := es 1 (Or.inl rfl)
  have s2 := es 2 (Or.inr rfl)
  refine ⟨⟨hk, hw, ht, hP, hT, ⟨e0.trans n0, e2.trans n2, e10.trans n10, e12.trans n12, e13.trans n13⟩, CK_se c1 s1, CK_se c2 s2, RP_se q1 s1, RP_se q2 s2, fun q hq => ?_, r, e14.trans hr, rT⟩, ?_, ⟨?_, ?_, ?_, ?_, ?_, ?_, ?_, ?_, ?_⟩, RK_se k1 s1 (gs 1 (Or.inl rfl)), RK_se k2 s2 (gs 2 (Or.inr rfl)), fun i hi => ?_, fun i hi => ?_, fun i hi => ?_, fun i hi => ?_, fun j hj hjT => ?_⟩
  · rw [y4 q (by omega)]; exact nu q hq
  · intro hg
    rw [e1] at hg
    obtain ⟨v14, a1, a2, b1, b2, w4, w5, r4', r5, rest⟩ := gy hg
    obtain ⟨-, -, -, -, d4, d5, -, -⟩ := s1
    obtain ⟨-, -, -, -, f4, f5, -, -⟩ := s2
    exact ⟨e14.trans v14, a1, a2, b1, b2, d4.trans w4, d5.trans w5, f4.trans r4', f5.trans r5, rest⟩
  · rw [g0, e0]; exact x0
  · rw [g1, e1]; exact x1
  · rw [g2, e2]; exact x2
  · rw [g3, e3]; exact x3
  · rw [g4, e4]; exact x4
  · rw [g10, e10]; exact x10
  · rw [g12, e12]; exact x12
  · rw [g13, e13]; exact x13
  · rw [g14, e14]; exact x14
  · rw [z4 i hi, y4 i hi]; exact r4 i hi
  · rw [y4 i hi, y3 i hi, z3 i hi]; exact rn i hi
  · rw [y4 i hi, y3 i hi, z3 i hi]; exact rw' i hi
  · rw [y5 i (by omega), z5 i (by omega)]; exact rq i hi
  · rw [y6 j hj, z6 j hj]; exact rc j hj hjT
theorem J_se {S Z A B : CS} {t : Nat} (h : J S Z t) (e : SE A S) (g : SE B Z) : J A B t := by
  obtain ⟨k, wc, P, T, h⟩ := h
  exact ⟨k, wc, P, T, JJ_se h e g⟩
theorem J_copy {S Z : CS} {t : Nat} (h : J S Z t) (A B : CS) : J (p_X2_copy A S) (p_X2_copy B Z) t := J_se h (copy_se A S) (copy_se B Z)
/-! a ring built anew -/
theorem RP_clr (w : F1) (k : Nat) : RP (p_X1_clearPointers w) k 0 := by
  refine ⟨?_, 0, 0, pw_0, pw_0, rfl, rfl⟩
  rw [Nat.zero_mod]; rfl
theorem RK_clr {w v : F1} (h : RK w v) : RK (p_X1_clearPointers w) (p_X1_clearPointers v) := by
  obtain ⟨e0, e2, e3, e4, e5, e6, e7, p, f, h0, p1, p2, h1, f1, h2⟩ := h
  exact ⟨e0, e2, rfl, rfl, rfl, e6, e7, p, f, h0, p1, p2, h1, f1, h2⟩
theorem JJ_empty {S Z : CS} {k t wc P T k' : Nat} {g g' : Int32} (h : JJ S Z k t wc P T) (hk' : 1 ≤ k' ∧ k' ≤ 4) (hg : nb g' = nb g) : JJ (p_X2_emptyRing S (nI k') g) (p_X2_emptyRing Z (nI k') g') k' t wc 0 0 := by
  obtain ⟨⟨hk, hw, ht, hP, hT, ⟨n0, n2, n10, n12, n13⟩, c1, c2, q1, q2, nu, r, hr, rT⟩, gy, ⟨x0, x1, x2, x3, x4, x10, x12, x13, x14⟩, k1, k2, r4, rn, rw', rq, rc⟩ := h
  have z0 : gcode (nI (0 % 2 ^ (k' + 1))) = 0 := by rw [Nat.zero_mod]; decide
  unfold JJ IB GY RE RN RW BN
  rw [empty_0, empty_1, empty_2, empty_3, empty_4, empty_5, empty_6, empty_0, empty_1, empty_2, empty_3, empty_4, empty_5, empty_6]
  refine ⟨⟨hk', hw, ht, Nat.zero_le _, Nat.zero_le _, ⟨rfl, n2, n10, rfl, rfl⟩, ?_, ?_, RP_clr _ _, RP_clr _ _, fun q hq => Or.inl ⟨fillRow16 _ _ (by have := pkk hk'; omega), Nat.zero_le _⟩, 0, rfl, Nat.le_refl _⟩, fun _ => ⟨rfl, 0, 0, 0, 0, z0.symm, z0.symm, z0.symm, z0.symm, Nat.le_refl _, Nat.le_refl _, Nat.zero_le _, Nat.le_refl _, Nat.le_refl _, Nat.le_refl _⟩, ⟨rfl, hg, x2, x3, x4, x10, rfl, rfl, rfl⟩, RK_clr k1, RK_clr k2, fun i hi => ?_, fun i hi => ?_, fun i hi => ?_, rq, fun j _ hj => absurd hj (Nat.not_lt_zero _)⟩
  · exact c1
  · exact c2
  · rw [fillRow16 _ _ hi, fillRow16 _ _ hi]
  · rw [fillRow16 _ _ hi, fillRow16 _ _ hi, fillRow16 _ _ hi]; exact fun _ => ⟨rfl, rfl⟩
  · rw [fillRow16 _ _ hi]; exact fun e => absurd rfl e
theorem JJ_wc0 {S Z : CS} {k t wc P T : Nat} (h : JJ S Z k t wc P T) : JJ (va_up S 0 (upd (S 0) 10 0)) (va_up Z 0 (upd (Z 0) 10 0)) k t 0 P T := by
  obtain ⟨⟨hk, hw, ht, hP, hT, ⟨n0, n2, n10, n12, n13⟩, c1, c2, q1, q2, nu, r, hr, rT⟩, gy, ⟨x0, x1, x2, x3, x4, x10, x12, x13, x14⟩, k1, k2, r4, rn, rw', rq, rc⟩ := h
  exact ⟨⟨hk, Nat.zero_le _, ht, hP, hT, ⟨n0, n2, rfl, n12, n13⟩, c1, c2, q1, q2, nu, r, hr, rT⟩, gy, ⟨x0, x1, x2, x3, x4, rfl, x12, x13, x14⟩, k1, k2, r4, rn, rw', fun i hi => absurd hi (Nat.not_lt_zero _), rc⟩
/-! words that wait -/
def wtw (S : CS) (x : Int32) : CS := va_up (va_up S 0 (upd (S 0) 10 (S 0 10 + 1))) 5 (p_X4_setAt (S 5) (S 0 10) x 20)
theorem JJ_wait {S Z : CS} {k t wc P T : Nat} {x y : Int32} (h : JJ S Z k t wc P T) (hw' : wc < 20) (hx : WD x y) : JJ (wtw S x) (wtw Z y) k t (wc + 1) P T ∧ wtw S x 5 wc = x := by
  obtain ⟨⟨hk, hw, ht, hP, hT, ⟨n0, n2, n10, n12, n13⟩, c1, c2, q1, q2, nu, r, hr, rT⟩, gy, ⟨x0, x1, x2, x3, x4, x10, x12, x13, x14⟩, k1, k2, r4, rn, rw', rq, rc⟩ := h
  have e1 : p_X4_setAt (S 5) (S 0 10) x 20 = upd (S 5) wc x := by rw [n10]; exact setAt_in (by decide) hw'
  have e2 : p_X4_setAt (Z 5) (Z 0 10) y 20 = upd (Z 5) wc y := by rw [x10, n10]; exact setAt_in (by decide) hw'
  unfold wtw
  rw [e1, e2]
  refine ⟨⟨⟨hk, hw', ht, hP, hT, ⟨n0, n2, ?_, n12, n13⟩, c1, c2, q1, q2, nu, r, hr, rT⟩, gy, ⟨x0, x1, x2, x3, x4, ?_, x12, x13, x14⟩, k1, k2, r4, rn, rw', fun i hi => ?_, rc⟩, ?_⟩
  · show S 0 10 + 1 = _; rw [n10, nI_1]
  · show Z 0 10 + 1 = S 0 10 + 1; rw [x10]
  · rw [va_up_s, va_up_s]
    by_cases d : i = wc
    · subst d; rw [fu_s, fu_s]; exact hx
    · rw [fu_n d, fu_n d]; exact rq i (by omega)
  · rw [va_up_s]; exact fu_s
