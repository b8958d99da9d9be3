/-! the other methods -/
theorem side_c {a1 : Int32} (h : ¬ r_X4_isSide a1 = 0) : a1 = 0 ∨ a1 = 1 := by
  unfold r_X4_isSide at h
  by_cases c : a1 = 0
  · exact Or.inl c
  · rw [if_neg c] at h
    by_cases d : a1 = 1
    · exact Or.inr d
    · rw [if_neg d] at h; exact absurd rfl h
theorem side5 (a1 : Int32) : r_X5_isSide a1 = r_X4_isSide a1 := rfl
theorem RS_clock {w a : F1} {b k : Nat} (h : RS w a b k) {p q : Int32} (hp : 1 ≤ p.toInt) : RS (upd (upd w 0 p) 1 q) (upd (upd a b p) (b + 1) q) b k := by
  obtain ⟨h0, h1, h2, h3, h4, h5, h6, h7, h8, p0, f, s, e3, e4, e5, hp0, hf, hs⟩ := h
  refine ⟨?_, ?_, ?_, ?_, ?_, ?_, ?_, ?_, hp, p0, f, s, e3, e4, e5, hp0, hf, hs⟩
  · rw [fu_n (by omega), fu_s]; rfl
  · rw [fu_s]; rfl
  · rw [fu_n (by omega), fu_n (by omega)]; exact h2
  · rw [fu_n (by omega), fu_n (by omega)]; exact h3
  · rw [fu_n (by omega), fu_n (by omega)]; exact h4
  · rw [fu_n (by omega), fu_n (by omega)]; exact h5
  · rw [fu_n (by omega), fu_n (by omega)]; exact h6
  · rw [fu_n (by omega), fu_n (by omega)]; exact h7
theorem RT_clock0 {S M : CS} {k wc t u : Nat} (h : RT S (M 1) k wc t u) {p q : Int32} (hp : 1 ≤ p.toInt) : RT (va_up S 1 (upd (upd (S 1) 0 p) 1 q)) (p_X5_to (p_X5_to M 0 0 p) 0 1 q 1) k wc t u := by
  rw [show (p_X5_to (p_X5_to M 0 0 p) 0 1 q) = va_up M 1 (upd (upd (M 1) 11 p) 12 q) by
    rw [show p_X5_to M 0 0 p = va_up M 1 (upd (M 1) (11 + 0) p) from to_0 M 0 p (by decide), show ∀ z, p_X5_to z 0 1 q = va_up z 1 (upd (z 1) (11 + 1) q) from fun z => to_0 z 1 q (by decide), upup, up1], va_up_s]
  refine ⟨R_side0 h.1 (fun i hi => va_up_n hi) (fun j hj => by rw [fu_n (by omega), fu_n (by omega)]) ?_, h.2.1, h.2.2⟩
  rw [va_up_s]; exact RS_clock h.1.2.2.2.1 hp
theorem RT_clock1 {S M : CS} {k wc t u : Nat} (h : RT S (M 1) k wc t u) {p q : Int32} (hp : 1 ≤ p.toInt) : RT (va_up S 2 (upd (upd (S 2) 0 p) 1 q)) (p_X5_to (p_X5_to M 1 0 p) 1 1 q 1) k wc t u := by
  rw [show (p_X5_to (p_X5_to M 1 0 p) 1 1 q) = va_up M 1 (upd (upd (M 1) 19 p) 20 q) by
    rw [show p_X5_to M 1 0 p = va_up M 1 (upd (M 1) (19 + 0) p) from to_1 M 0 p (by decide), show ∀ z, p_X5_to z 1 1 q = va_up z 1 (upd (z 1) (19 + 1) q) from fun z => to_1 z 1 q (by decide), upup, up1], va_up_s]
  refine ⟨R_side1 h.1 (fun i hi => va_up_n hi) (fun j hj => by rw [fu_n (by omega), fu_n (by omega)]) ?_, h.2.1, h.2.2⟩
  rw [va_up_s]; exact RS_clock h.1.2.2.2.2.1 hp
theorem to_i (M : CS) (a b v : Int32) {i : Nat} (hi : i ≠ 1) : p_X5_to M a b v i = M i := va_up_n hi
theorem of_rem (M : CS) (a b : Int32) : r_X5_of (p_X5_remember M) a b = r_X5_of M a b := rfl
theorem rem_T {S M : CS} {k wc t u : Nat} (h : RT S (M 1) k wc t u) : RT S (p_X5_remember M 1) k wc t u := by rw [rem_1, va_up_n (by decide)]; exact h
theorem X_setClock {G : Nat → Nat → CS} {M : CS} (h : RG G M) (a1 a2 a3 : Int32) : r_X4_setClock G a1 a2 a3 = r_X5_setClock M a1 a2 a3 ∧ RG (p_X4_setClock G a1 a2 a3) (p_X5_setClock M a1 a2 a3) := by
  unfold r_X4_setClock r_X5_setClock p_X4_setClock p_X5_setClock
  rw [show (1 : Int64) = (1 : Int32).toInt64 by decide, show (50 : Int64) = (50 : Int32).toInt64 by decide, show (0 : Int64) = (0 : Int32).toInt64 by decide, show (49 : Int64) = (49 : Int32).toInt64 by decide, in_w, in_w, side5]
  by_cases c : r_X4_isSide a1 = 0
  · rw [if_pos c, if_pos c, if_pos c, if_pos c]; exact ⟨rfl, h⟩
  rw [if_neg c, if_neg c, if_neg c, if_neg c]
  by_cases d : r_X4_isWithin a2 1 50 = 0
  · rw [if_pos d, if_pos d, if_pos d, if_pos d]; exact ⟨rfl, h⟩
  rw [if_neg d, if_neg d, if_neg d, if_neg d]
  by_cases e : r_X4_isWithin a3 0 49 = 0
  · rw [if_pos e, if_pos e, if_pos e, if_pos e]; exact ⟨rfl, h⟩
  rw [if_neg e, if_neg e, if_neg e, if_neg e]
  obtain ⟨p, hp1, hp2, rfl⟩ := within_nI (lo := 1) (hi := 50) (by decide) d (by decide)
  have hp : 1 ≤ (nI p).toInt := by rw [nI_toInt (by omega)]; omega
  obtain ⟨⟨k, wc, t, u, hT, hu⟩, -⟩ := id h
  rcases side_c c with rfl | rfl
  · have o0 : r_X5_of M 0 0 = G 0 0 1 0 := (of_0 M 0 (by decide)).trans hT.1.2.2.2.1.1
    have o1 : r_X5_of M 0 1 = G 0 0 1 1 := (of_0 M 1 (by decide)).trans hT.1.2.2.2.1.2.1
    have A := RG_act (Mx := p_X5_to (p_X5_to (p_X5_remember M) 0 0 (nI p)) 0 1 a3) h (fun j hj => by rw [to_i _ _ _ _ (by decide), to_i _ _ _ _ (by decide)]; exact rem_2 M hj) (fun i i1 i2 => by rw [to_i _ _ _ _ i1, to_i _ _ _ _ i1, rem_1, va_up_n i2]) (RT_clock0 (M := p_X5_remember M) (q := a3) (rem_T hT) hp) hu (r_X5_of M 0 0)
    rw [if_pos rfl, if_pos rfl, o0, o1] at *
    by_cases f : G 0 0 1 0 = nI p
    · by_cases g : G 0 0 1 1 = a3
      · rw [if_pos f, if_pos f, if_pos f, if_pos f, if_pos g, if_pos g, if_pos g, if_pos g]; exact ⟨rfl, h⟩
      · rw [if_pos f, if_pos f, if_pos f, if_pos f, if_neg g, if_neg g, if_neg g, if_neg g]; exact ⟨A.2.symm, A.1⟩
    · rw [if_neg f, if_neg f, if_neg f, if_neg f]; exact ⟨A.2.symm, A.1⟩
  · have o0 : r_X5_of M 1 0 = G 0 0 2 0 := (of_1 M 0 (by decide)).trans hT.1.2.2.2.2.1.1
    have o1 : r_X5_of M 1 1 = G 0 0 2 1 := (of_1 M 1 (by decide)).trans hT.1.2.2.2.2.1.2.1
    have A := RG_act (Mx := p_X5_to (p_X5_to (p_X5_remember M) 1 0 (nI p)) 1 1 a3) h (fun j hj => by rw [to_i _ _ _ _ (by decide), to_i _ _ _ _ (by decide)]; exact rem_2 M hj) (fun i i1 i2 => by rw [to_i _ _ _ _ i1, to_i _ _ _ _ i1, rem_1, va_up_n i2]) (RT_clock1 (M := p_X5_remember M) (q := a3) (rem_T hT) hp) hu (r_X5_of M 1 0)
    rw [if_neg (show ¬ (1 : Int32) = 0 by decide), if_neg (show ¬ (1 : Int32) = 0 by decide), o0, o1] at *
    by_cases f : G 0 0 2 0 = nI p
    · by_cases g : G 0 0 2 1 = a3
      · rw [if_pos f, if_pos f, if_pos f, if_pos f, if_pos g, if_pos g, if_pos g, if_pos g]; exact ⟨rfl, h⟩
      · rw [if_pos f, if_pos f, if_pos f, if_pos f, if_neg g, if_neg g, if_neg g, if_neg g]; exact ⟨A.2.symm, A.1⟩
    · rw [if_neg f, if_neg f, if_neg f, if_neg f]; exact ⟨A.2.symm, A.1⟩
theorem RS_start {w a : F1} {b k : Nat} (h : RS w a b k) {g : Int32} (hg : g = 0 ∨ g = 1) : RS (upd w 2 g) (upd a (b + 2) g) b k := by
  obtain ⟨h0, h1, h2, h3, h4, h5, h6, h7, h8, p0, f, s, e3, e4, e5, hp0, hf, hs⟩ := h
  refine ⟨?_, ?_, ?_, ?_, ?_, ?_, ?_, ?_, h8, p0, f, s, e3, e4, e5, hp0, hf, hs⟩
  · rw [fu_n (by omega)]; exact h0
  · rw [fu_n (by omega)]; exact h1
  · rw [fu_s, fu_s, nb_01 hg]
  · rw [fu_n (by omega)]; exact h3
  · rw [fu_n (by omega)]; exact h4
  · rw [fu_n (by omega)]; exact h5
  · rw [fu_n (by omega)]; exact h6
  · rw [fu_n (by omega)]; exact h7
theorem RT_start0 {S M : CS} {k wc t u : Nat} (h : RT S (M 1) k wc t u) {g : Int32} (hg : g = 0 ∨ g = 1) : RT (va_up S 1 (upd (S 1) 2 g)) (p_X5_to M 0 2 g 1) k wc t u := by
  rw [show p_X5_to M 0 2 g = va_up M 1 (upd (M 1) (11 + 2) g) from to_0 M 2 g (by decide), va_up_s]
  refine ⟨R_side0 h.1 (fun i hi => va_up_n hi) (fun j hj => by rw [fu_n (by omega)]) ?_, h.2.1, h.2.2⟩
  rw [va_up_s]; exact RS_start h.1.2.2.2.1 hg
theorem RT_start1 {S M : CS} {k wc t u : Nat} (h : RT S (M 1) k wc t u) {g : Int32} (hg : g = 0 ∨ g = 1) : RT (va_up S 2 (upd (S 2) 2 g)) (p_X5_to M 1 2 g 1) k wc t u := by
  rw [show p_X5_to M 1 2 g = va_up M 1 (upd (M 1) (19 + 2) g) from to_1 M 2 g (by decide), va_up_s]
  refine ⟨R_side1 h.1 (fun i hi => va_up_n hi) (fun j hj => by rw [fu_n (by omega)]) ?_, h.2.1, h.2.2⟩
  rw [va_up_s]; exact RS_start h.1.2.2.2.2.1 hg
theorem X_start {G : Nat → Nat → CS} {M : CS} (h : RG G M) (a1 : Int32) {a2 : Int32} (h2 : a2 = 0 ∨ a2 = 1) : r_X4_start G a1 a2 = r_X5_start M a1 a2 ∧ RG (p_X4_start G a1 a2) (p_X5_start M a1 a2) := by
  unfold r_X4_start r_X5_start p_X4_start p_X5_start
  rw [side5, nb_01 h2]
  have e2 : (if a2 = 0 then (0 : Int32) else 1) = a2 := by rcases h2 with rfl | rfl <;> rfl
  rw [e2]
  by_cases c : r_X4_isSide a1 = 0
  · rw [if_pos c, if_pos c, if_pos c, if_pos c]; exact ⟨rfl, h⟩
  rw [if_neg c, if_neg c, if_neg c, if_neg c]
  obtain ⟨⟨k, wc, t, u, hT, hu⟩, -⟩ := id h
  dsimp only
  rcases side_c c with rfl | rfl
  · have o0 : r_X5_of M 0 2 = nb (G 0 0 1 2) := (of_0 M 2 (by decide)).trans hT.1.2.2.2.1.2.2.1
    have A := RG_act (Mx := p_X5_to (p_X5_remember M) 0 2 a2) h (fun j hj => by rw [to_i _ _ _ _ (by decide)]; exact rem_2 M hj) (fun i i1 i2 => by rw [to_i _ _ _ _ i1, rem_1, va_up_n i2]) (RT_start0 (M := p_X5_remember M) (rem_T hT) h2) hu (p_X5_to (p_X5_remember M) 0 2 a2 1 2)
    have e3 : p_X5_to (p_X5_remember M) 0 2 a2 1 2 = G 0 0 0 2 := by
      rw [show p_X5_to (p_X5_remember M) 0 2 a2 = va_up (p_X5_remember M) 1 (upd (p_X5_remember M 1) (11 + 2) a2) from to_0 _ 2 a2 (by decide), va_up_s, fu_n (by decide), rem_1, va_up_n (by decide)]; exact R_t hT.1
    rw [if_pos rfl, if_pos rfl, o0]
    by_cases f : nb (G 0 0 1 2) = a2
    · rw [if_pos f, if_pos f, if_pos f, if_pos f]; exact ⟨rfl, h⟩
    · rw [if_neg f, if_neg f, if_neg f, if_neg f]; exact ⟨(A.2.trans e3).symm, A.1⟩
  · have o0 : r_X5_of M 1 2 = nb (G 0 0 2 2) := (of_1 M 2 (by decide)).trans hT.1.2.2.2.2.1.2.2.1
    have A := RG_act (Mx := p_X5_to (p_X5_remember M) 1 2 a2) h (fun j hj => by rw [to_i _ _ _ _ (by decide)]; exact rem_2 M hj) (fun i i1 i2 => by rw [to_i _ _ _ _ i1, rem_1, va_up_n i2]) (RT_start1 (M := p_X5_remember M) (rem_T hT) h2) hu (p_X5_to (p_X5_remember M) 1 2 a2 1 2)
    have e3 : p_X5_to (p_X5_remember M) 1 2 a2 1 2 = G 0 0 0 2 := by
      rw [show p_X5_to (p_X5_remember M) 1 2 a2 = va_up (p_X5_remember M) 1 (upd (p_X5_remember M 1) (19 + 2) a2) from to_1 _ 2 a2 (by decide), va_up_s, fu_n (by decide), rem_1, va_up_n (by decide)]; exact R_t hT.1
    rw [if_neg (show ¬ (1 : Int32) = 0 by decide), if_neg (show ¬ (1 : Int32) = 0 by decide), o0]
    by_cases f : nb (G 0 0 2 2) = a2
    · rw [if_pos f, if_pos f, if_pos f, if_pos f]; exact ⟨rfl, h⟩
    · rw [if_neg f, if_neg f, if_neg f, if_neg f]; exact ⟨(A.2.trans e3).symm, A.1⟩
/-- the two borders -/
theorem RT_set {S : CS} {a : F1} {k wc t u : Nat} (h : RT S a k wc t u) (v : Int32) : RT (va_up S 0 (upd (S 0) 3 v)) (upd a 3 v) k wc t u ∧ RT (va_up S 0 (upd (S 0) 4 v)) (upd a 4 v) k wc t u := by
  obtain ⟨⟨hk, hw, ⟨n0, n1, n2, n3, n4, n5, n6, n7, n8, n9, n10, n11, n12, n13⟩, hW, hR, hr⟩, hu, ht⟩ := h
  refine ⟨⟨⟨hk, hw, ⟨n0, ?_, ?_, ?_, rfl, ?_, n6, ?_, ?_, n9, ?_, ?_, ?_, ?_⟩, RS_of hW rfl (fun j h1 h2 => fu_n (by omega)), RS_of hR rfl (fun j h1 h2 => fu_n (by omega)), RW_of hr rfl rfl rfl rfl hw (fun j hj => fu_n (by omega))⟩, hu, ht⟩, ⟨hk, hw, ⟨n0, ?_, ?_, ?_, ?_, rfl, n6, ?_, ?_, n9, ?_, ?_, ?_, ?_⟩, RS_of hW rfl (fun j h1 h2 => fu_n (by omega)), RS_of hR rfl (fun j h1 h2 => fu_n (by omega)), RW_of hr rfl rfl rfl rfl hw (fun j hj => fu_n (by omega))⟩, hu, ht⟩
  all_goals rw [fu_n (by decide)]
  · exact n1
  · exact n2
  · exact n3
  · exact n5
  · exact n7
  · exact n8
  · exact n10
  · exact n11
  · exact n12
  · exact n13
  · exact n1
  · exact n2
  · exact n3
  · exact n4
  · exact n7
  · exact n8
  · exact n10
  · exact n11
  · exact n12
  · exact n13
theorem within_b {a : Int32} (h : ¬ r_X4_isWithin a 0 1 = 0) : a = 0 ∨ a = 1 := by
  obtain ⟨n, -, h2, rfl⟩ := within_nI (lo := 0) (hi := 1) (by decide) h (by decide)
  have c : n = 0 ∨ n = 1 := by omega
  rcases c with rfl | rfl
  · exact Or.inl rfl
  · exact Or.inr rfl
theorem X_set {G : Nat → Nat → CS} {M : CS} (h : RG G M) (a1 a2 : Int32) : r_X4_set G a1 a2 = r_X5_set M a1 a2 ∧ RG (p_X4_set G a1 a2) (p_X5_set M a1 a2) := by
  unfold r_X4_set r_X5_set p_X4_set p_X5_set
  rw [show (1 : Int64) = (1 : Int32).toInt64 by decide, show (15 : Int64) = (15 : Int32).toInt64 by decide, show (0 : Int64) = (0 : Int32).toInt64 by decide, in_w, in_w]
  by_cases c : r_X4_isWithin a1 0 1 = 0
  · rw [if_pos c, if_pos c, if_pos c, if_pos c]; exact ⟨rfl, h⟩
  rw [if_neg c, if_neg c, if_neg c, if_neg c]
  by_cases d : r_X4_isWithin a2 0 15 = 0
  · rw [if_pos d, if_pos d, if_pos d, if_pos d]; exact ⟨rfl, h⟩
  rw [if_neg d, if_neg d, if_neg d, if_neg d]
  obtain ⟨⟨k, wc, t, u, hT, hu⟩, -⟩ := id h
  dsimp only
  rcases within_b c with rfl | rfl
  · have o0 : M 1 (((3 : Int32) + 0).toNatClampNeg) = G 0 0 0 3 := hT.1.2.2.1.2.2.2.2.1
    have A := RG_act (Mx := va_up (p_X5_remember M) 1 (upd (p_X5_remember M 1) 3 a2)) h (fun j hj => by rw [va_up_n (by decide)]; exact rem_2 M hj) (fun i i1 i2 => by rw [va_up_n i1, rem_1, va_up_n i2]) (by rw [va_up_s]; exact (RT_set (rem_T hT) a2).1) hu (G 0 0 0 3)
    rw [if_pos rfl, o0, if_pos rfl, if_pos rfl]
    by_cases f : G 0 0 0 3 = a2
    · rw [if_pos f, if_pos f, if_pos f, if_pos f]; exact ⟨rfl, h⟩
    · rw [if_neg f, if_neg f, if_neg f, if_neg f]; exact ⟨A.2.symm, A.1⟩
  · have o0 : M 1 (((3 : Int32) + 1).toNatClampNeg) = G 0 0 0 4 := hT.1.2.2.1.2.2.2.2.2.1
    have A := RG_act (Mx := va_up (p_X5_remember M) 1 (upd (p_X5_remember M 1) 4 a2)) h (fun j hj => by rw [va_up_n (by decide)]; exact rem_2 M hj) (fun i i1 i2 => by rw [va_up_n i1, rem_1, va_up_n i2]) (by rw [va_up_s]; exact (RT_set (rem_T hT) a2).2) hu (G 0 0 0 4)
    rw [if_neg (show ¬ (1 : Int32) = 0 by decide), o0, if_neg (show ¬ (1 : Int32) = 0 by decide), if_neg (show ¬ (1 : Int32) = 0 by decide)]
    by_cases f : G 0 0 0 4 = a2
    · rw [if_pos f, if_pos f, if_pos f, if_pos f]; exact ⟨rfl, h⟩
    · rw [if_neg f, if_neg f, if_neg f, if_neg f]; exact ⟨A.2.symm, A.1⟩
