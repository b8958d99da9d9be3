/-! push, the text, what is read -/
theorem wait1 (S : CS) (x : Int32) (h : S 0 10 + 1 ≤ 20) : p_X2_letWait S x 1 = va_up (va_up S 0 (upd (S 0) 10 (S 0 10 + 1))) 5 (p_X4_setAt (S 5) (S 0 10) x 20) := by
  unfold p_X2_letWait
  rw [if_pos h, show ((1 : Int32).toInt - (0 : Int32).toInt).toNat + 1 = 2 by decide]
  unfold lp_X2_letWait_15
  rw [if_neg (by decide)]
  dsimp only
  unfold lp_X2_letWait_15
  rw [if_pos (by decide)]
theorem X_push {G : Nat → Nat → CS} {M : CS} (h : RG G M) (a1 : Int32) : r_X4_push G a1 = r_X5_push M a1 ∧ RG (p_X4_push G a1) (p_X5_push M a1) := by
  unfold r_X4_push r_X5_push p_X4_push p_X5_push
  rw [show (99 : Int64) = (99 : Int32).toInt64 by decide, show (0 : Int64) = (0 : Int32).toInt64 by decide, in_w]
  by_cases c : r_X4_isWithin a1 0 99 = 0
  · rw [if_pos c, if_pos c, if_pos c, if_pos c]; exact ⟨rfl, h⟩
  rw [if_neg c, if_neg c, if_neg c, if_neg c]
  obtain ⟨⟨k, wc, t, u, hT, hu⟩, -⟩ := id h
  have n6 : G 0 0 0 10 = nI wc := hT.1.2.2.1.2.2.2.2.2.2.1
  have n7 : M 1 5 = nI wc := hT.1.2.2.1.2.2.2.2.2.2.2.1
  have hw := hT.1.2.1
  rcases Nat.lt_or_ge wc 20 with q | q
  · have c1 : G 0 0 0 10 < 20 := by rw [n6]; exact nI_lt (b := 20) q (by decide)
    have c2 : ¬ M 1 5 = 20 := by rw [n7]; intro e; have := (nI_eq (a := wc) (b := 20) (by omega) (by decide)).mp e; omega
    have c3 : G 0 0 0 10 + 1 ≤ 20 := by rw [n6, nI_1]; exact nI_le (b := 20) q (by decide)
    rw [if_pos c1, if_pos c1, if_neg c2, if_neg c2, wait1 _ _ c3]
    dsimp only
    obtain ⟨w1, w2⟩ := RT_wait (M := p_X5_remember M) (rem_T hT) q a1
    have A := RG_act (Mx := p_X5_waits (p_X5_remember M) a1) h (fun j hj => by rw [w2 2 (by decide)]; exact rem_2 M hj) (fun i i1 i2 => by rw [w2 i i1, rem_1, va_up_n i2]) w1 hu (p_X5_waits (p_X5_remember M) a1 1 5)
    refine ⟨?_, A.1⟩
    rw [A.2, w1.1.2.2.1.2.2.2.2.2.2.2.1]
    show G 0 0 0 10 + 1 = _
    rw [n6, nI_1]
  · have e : wc = 20 := by omega
    subst e
    rw [if_neg (show ¬ G 0 0 0 10 < 20 by rw [n6]; decide), if_neg (show ¬ G 0 0 0 10 < 20 by rw [n6]; decide), if_pos (show M 1 5 = 20 from n7), if_pos (show M 1 5 = 20 from n7)]
    exact ⟨rfl, h⟩
theorem X_clearText {G : Nat → Nat → CS} {M : CS} (h : RG G M) : r_X4_clearText G = r_X5_clearText M ∧ RG (p_X4_clearText G) (p_X5_clearText M) := by
  obtain ⟨hT, hH, hB, L, x1, x2, x3, x4⟩ := id h
  exact ⟨x2.trans x3.symm, hT, RH_of hH rfl rfl, hB, 0, by decide, rfl, rfl, fun i hi => absurd hi (Nat.not_lt_zero _)⟩
theorem X_type {G : Nat → Nat → CS} {M : CS} (h : RG G M) {a1 : Int32} (ha : vp_nar .char a1 = a1) : r_X4_type G a1 = r_X5_type M a1 ∧ RG (p_X4_type G a1) (p_X5_type M a1) := by
  obtain ⟨hT, hH, hB, L, x1, x2, x3, x4⟩ := id h
  unfold r_X4_type r_X5_type p_X4_type p_X5_type r_X3_append p_X3_append
  have c0 : ¬ G 2 0 0 1 < 0 := by rw [x2]; exact nI_pos (by omega)
  rw [if_neg c0, if_neg c0, ha]
  rcases Nat.lt_or_ge L 60 with q | q
  · have c1 : G 2 0 0 1 < 60 := by rw [x2]; exact nI_lt (b := 60) q (by decide)
    have c2 : ¬ M 0 8 = 60 := by rw [x3]; intro e; have := (nI_eq (a := L) (b := 60) (by omega) (by decide)).mp e; omega
    rw [if_pos c1, if_pos c1, if_neg c2, if_neg c2]
    dsimp only
    rw [if_neg (show ¬ (1 : Int32) = 0 by decide), if_neg (show ¬ (1 : Int32) = 0 by decide)]
    refine ⟨?_, hT, RH_of hH rfl rfl, hB, L + 1, q, ?_, ?_, fun i hi => ?_⟩
    · show G 2 0 0 1 + 1 = M 0 8 + 1
      rw [x2, x3]
    · show G 2 0 0 1 + 1 = _
      rw [x2, nI_1]
    · show M 0 8 + 1 = _
      rw [x3, nI_1]
    · show upd (G 2 0 1) (G 2 0 0 1).toNatClampNeg a1 i = upd (M 6) (M 0 8).toNatClampNeg a1 i
      rw [x2, x3, nI_clamp (by omega)]
      by_cases e : i = L
      · subst e; rw [fu_s, fu_s]
      · rw [fu_n e, fu_n e]; exact x4 i (by omega)
  · have e : L = 60 := by omega
    subst e
    have c1 : ¬ G 2 0 0 1 < 60 := by rw [x2]; decide
    have c2 : M 0 8 = 60 := x3
    rw [if_neg c1, if_neg c1, if_pos c2, if_pos c2]
    dsimp only
    rw [if_pos rfl, if_pos rfl]
    exact ⟨rfl, RG_same h rfl rfl rfl rfl rfl rfl (fun _ _ => rfl) (fun _ _ => rfl) rfl rfl rfl⟩
theorem X_waiting {G : Nat → Nat → CS} {M : CS} (h : RG G M) (a1 : Int32) : r_X4_waiting G a1 = r_X5_waiting M a1 := by
  obtain ⟨k, wc, t, hR⟩ := RG_now h
  have n6 : G 0 0 0 10 = nI wc := hR.2.2.1.2.2.2.2.2.2.1
  have n7 : M 1 5 = nI wc := hR.2.2.1.2.2.2.2.2.2.2.1
  have hw := hR.2.1
  unfold r_X4_waiting r_X5_waiting
  rw [n6, n7]
  by_cases c : 0 ≤ a1
  · rw [if_pos c, if_pos c]
    by_cases d : nI wc ≤ a1
    · rw [if_pos d, if_pos d]
    · rw [if_neg d, if_neg d]
      obtain ⟨j, hj, rfl⟩ : ∃ j, j < wc ∧ a1 = nI j := by
        rcases pk_ix a1 (n := wc) (by omega) with z | z | z
        · rw [Int32.lt_iff_toInt_lt] at z; rw [Int32.le_iff_toInt_le] at c; omega
        · exact absurd z d
        · exact z
      rw [valueAt_in (by decide) (by omega), show (27 : Int32) = nI 27 from rfl, nI_add, nI_clamp (by omega)]
      exact (hR.2.2.2.2.2.2.2.1 j hj).symm
  · rw [if_neg c, if_neg c]
theorem X_place {G : Nat → Nat → CS} {M : CS} (h : RG G M) (a1 a2 : Int32) : r_X4_place G a1 a2 = r_X5_place M a1 a2 := by
  obtain ⟨k, wc, t, hR⟩ := RG_now h
  have hk := k4 hR.1
  have hd : ∃ d, d ≤ 16 ∧ 1 ≤ d ∧ dpt k = nI d := by
    rcases hk with rfl | rfl | rfl | rfl
    · exact ⟨2, by decide, by decide, by decide⟩
    · exact ⟨4, by decide, by decide, by decide⟩
    · exact ⟨8, by decide, by decide, by decide⟩
    · exact ⟨16, by decide, by decide, by decide⟩
  obtain ⟨d, d1, d2, d3⟩ := hd
  obtain ⟨e, rfl⟩ : ∃ e, d = e + 1 := ⟨d - 1, by omega⟩
  unfold r_X4_place r_X5_place
  rw [(R_depth hR).1, (R_depth hR).2, d3, nI_pred]
  have e3 : (nI (e + 1)).toInt64 - 1 = (nI e).toInt64 := by
    rw [nI_l (by omega), nI_l (by omega)]
    have c : e = 0 ∨ e = 1 ∨ e = 2 ∨ e = 3 ∨ e = 4 ∨ e = 5 ∨ e = 6 ∨ e = 7 ∨ e = 8 ∨ e = 9 ∨ e = 10 ∨ e = 11 ∨ e = 12 ∨ e = 13 ∨ e = 14 ∨ e = 15 := by omega
    rcases c with rfl | rfl | rfl | rfl | rfl | rfl | rfl | rfl | rfl | rfl | rfl | rfl | rfl | rfl | rfl | rfl <;> decide
  rw [e3, show (0 : Int64) = (0 : Int32).toInt64 by decide, in_w]
  by_cases c : r_X4_isWithin a1 0 (nI e) = 0
  · rw [if_pos c, if_pos c]
  · rw [if_neg c, if_neg c]
    obtain ⟨n, -, n2, rfl⟩ := within_nI (lo := 0) (hi := e) (by omega) c (by omega)
    rw [valueAt_in (by decide) (by omega), valueAt_in (by decide) (by omega), show (47 : Int32) = nI 47 from rfl, show (63 : Int32) = nI 63 from rfl, nI_add, nI_add, nI_clamp (by omega), nI_clamp (by omega), hR.2.2.2.2.2.1 n (by omega), hR.2.2.2.2.2.2.1 n (by omega)]
theorem X_taken {G : Nat → Nat → CS} {M : CS} (h : RG G M) (a1 : Int32) : r_X4_taken G a1 = r_X5_taken M a1 := by
  obtain ⟨⟨k, wc, t, u, hT, hu⟩, -⟩ := id h
  have ht := hT.2.2
  have n9 : G 0 0 0 13 = nI t := hT.1.2.2.1.2.2.2.2.2.2.2.2.2.1
  have n13 : M 1 10 = nI (min t 16) := hT.1.2.2.1.2.2.2.2.2.2.2.2.2.2.2.2.2
  unfold r_X4_taken r_X5_taken r_X2_latestCame
  rw [n9, n13]
  by_cases c : 0 ≤ a1
  · rw [if_pos c, if_pos c]
    rcases pk_ix a1 (n := min t 16) (by omega) with z | z | ⟨j, hj, rfl⟩
    · rw [Int32.lt_iff_toInt_lt] at z; rw [Int32.le_iff_toInt_le] at c; omega
    · rw [if_pos z]
      by_cases d : nI t ≤ a1
      · rw [if_pos d]
      · rw [if_neg d, if_neg]
        intro e
        rw [Int32.le_iff_toInt_le, nI_toInt (by omega)] at z d
        rw [show (16 : Int32) = nI 16 from rfl, Int32.lt_iff_toInt_lt, nI_toInt (by decide)] at e
        omega
    · rw [if_neg (nI_ge (by omega) (by omega)), if_neg (nI_ge (by omega) (by omega)), if_pos (show nI j < 16 from nI_lt (b := 16) (by omega) (by decide)), show (79 : Int32) = nI 79 from rfl, nI_add, nI_clamp (by omega), hT.1.2.2.2.2.2.2.2.2 j (by omega) (by omega)]
      rw [show nI t - 1 - nI j = nI (t - 1 - j) by rw [show (1 : Int32) = nI 1 from rfl, pk_sub (by omega), pk_sub (by omega)], and15 _ (by omega), valueAt_in (by decide) (Nat.mod_lt _ (by decide))]
  · rw [if_neg c, if_neg c]
theorem asN (x : Int32) (h : x = 0 ∨ x = 1) : r_X4_asNumber x = x := by
  unfold r_X4_asNumber
  rcases h with rfl | rfl
  · rw [if_pos rfl]
  · rw [if_neg (by decide)]
theorem RX_len {G : Nat → Nat → CS} {M : CS} (h : RG G M) : G 2 0 0 1 = M 0 8 ∧ G 1 4 0 2 = M 0 4 := by
  obtain ⟨-, ⟨o, n, -, -, -, a4, a5, -⟩, -, L, -, x2, x3, -⟩ := h
  exact ⟨x2.trans x3.symm, a4.trans a5.symm⟩
theorem X_count {G : Nat → Nat → CS} {M : CS} (h : RG G M) (a1 : Int32) : r_X4_count G a1 = r_X5_count M a1 := by
  obtain ⟨k, wc, t, hR⟩ := RG_now h
  obtain ⟨l1, l2⟩ := RX_len h
  obtain ⟨p, -, p1, p2⟩ := RW_place hR
  obtain ⟨q, -, q1, q2⟩ := RR_place hR
  obtain ⟨n0, n1, n2, n3, n4, n5, n6, n7, n8, n9, n10, n11, n12, n13⟩ := hR.2.2.1
  unfold r_X4_count r_X5_count
  rw [(R_depth hR).1, (R_depth hR).2, (R_around hR _).1, (R_around hR _).2, p1, p2, q1, q2, asN _ (nb_c _), n2, n0, n1, n3, l1, l2]
  by_cases c0 : a1 = 0
  · rw [if_pos c0, if_pos c0]
  rw [if_neg c0, if_neg c0]
  by_cases c1 : a1 = 1
  · rw [if_pos c1, if_pos c1]
  rw [if_neg c1, if_neg c1]
  by_cases c2 : a1 = 2
  · rw [if_pos c2, if_pos c2]
  rw [if_neg c2, if_neg c2]
  by_cases c3 : a1 = 3
  · rw [if_pos c3, if_pos c3]
  rw [if_neg c3, if_neg c3]
  by_cases c4 : a1 = 4
  · rw [if_pos c4, if_pos c4]
  rw [if_neg c4, if_neg c4]
  by_cases c5 : a1 = 5
  · rw [if_pos c5, if_pos c5]; subst c5; exact n6.trans n7.symm
  rw [if_neg c5, if_neg c5]
  by_cases c6 : a1 = 6
  · rw [if_pos c6, if_pos c6]; subst c6; exact n8.symm
  rw [if_neg c6, if_neg c6]
  by_cases c7 : a1 = 7
  · rw [if_pos c7, if_pos c7]; subst c7; exact n9.trans n10.symm
  rw [if_neg c7, if_neg c7]
  by_cases c8 : a1 = 8
  · rw [if_pos c8, if_pos c8]; subst c8; exact n11.symm
  rw [if_neg c8, if_neg c8]
  by_cases c9 : a1 = 9
  · rw [if_pos c9, if_pos c9]; subst c9; rw [n9]; exact n12.symm
  rw [if_neg c9, if_neg c9]
  by_cases c10 : a1 = 10
  · rw [if_pos c10, if_pos c10]; subst c10; exact n4.symm
  rw [if_neg c10, if_neg c10]
  by_cases c11 : a1 = 11
  · rw [if_pos c11, if_pos c11]; subst c11; exact n5.symm
  rw [if_neg c11, if_neg c11]
theorem lpg_keep (G : Nat → Nat → CS) : ∀ (fu : Nat) (i : Int32) (S : CS), (lp_X4_doneIn_13 G fu i S) 0 0 = G 0 0 ∧ (lp_X4_doneIn_13 G fu i S) 0 2 = G 0 2 ∧ (lp_X4_doneIn_13 G fu i S) 0 3 = G 0 3 ∧ (lp_X4_doneIn_13 G fu i S) 1 = G 1 ∧ (lp_X4_doneIn_13 G fu i S) 2 = G 2
  | 0, i, S => ⟨rfl, rfl, rfl, rfl, rfl⟩
  | fu + 1, i, S => by
    unfold lp_X4_doneIn_13
    by_cases c : 5000 < i
    · rw [if_pos c]; exact ⟨rfl, rfl, rfl, rfl, rfl⟩
    · rw [if_neg c]
      by_cases d : r_X2_isDone S = 0
      · rw [if_pos d]; exact lpg_keep G fu _ _
      · rw [if_neg d]; exact ⟨rfl, rfl, rfl, rfl, rfl⟩
theorem X_doneIn {G : Nat → Nat → CS} {M : CS} (h : RG G M) : r_X4_doneIn G = r_X5_doneIn M ∧ RG (p_X4_doneIn G) (p_X5_doneIn M) := by
  obtain ⟨⟨k, wc, t, u, hT, hu⟩, -⟩ := id h
  have hM : RT (p_X2_copy (G 0 1) (G 0 0)) (va_up M 3 (p_X5_copy (M 1) (M 3)) 1) k wc t u := by
    rw [va_up_n (by decide)]; exact RT_se hT (copy_se _ _)
  obtain ⟨d1, d2, d3⟩ := RT_doneIn (((5000 : Int32).toInt + 1 - (0 : Int32).toInt).toNat + 1) 0 _ _ wc t u hM (by decide) (by decide) (by omega)
  obtain ⟨g1, g2, g3, g4, g5⟩ := lpg_keep G (((5000 : Int32).toInt + 1 - (0 : Int32).toInt).toNat + 1) 0 (p_X2_copy (G 0 1) (G 0 0))
  unfold r_X4_doneIn r_X5_doneIn p_X4_doneIn p_X5_doneIn
  dsimp only
  rw [show (nI 0) = (0 : Int32) from rfl] at d1 d2 d3
  refine ⟨d1, RG_same h g1 g2 g3 g4 (by rw [g5]) (by rw [g5]) (fun j hj => ?_) (fun j hj => ?_) ?_ ?_ ?_⟩
  · rw [d2 0 (by decide), va_up_n (by decide)]
  · rw [d3 j hj, va_up_s]; exact cp5_lt _ _ hj
  · rw [d2 4 (by decide), va_up_n (by decide)]
  · rw [d2 5 (by decide), va_up_n (by decide)]
  · rw [d2 6 (by decide), va_up_n (by decide)]
theorem bit0 (x : Int32) (h : x = 0 ∨ x = 1) : (if x = 0 then (0 : Int32) else 1) = x := by rcases h with rfl | rfl <;> rfl
theorem full_bit (S : CS) : r_X2_seemsFull S = 0 ∨ r_X2_seemsFull S = 1 := by
  unfold r_X2_seemsFull
  split
  · exact Or.inr rfl
  · exact Or.inl rfl
theorem empty_bit (S : CS) : r_X2_seemsEmpty S = 0 ∨ r_X2_seemsEmpty S = 1 := by
  unfold r_X2_seemsEmpty
  split
  · exact Or.inr rfl
  · exact Or.inl rfl
theorem nfull_bit (S : CS) : r_X2_seemsNearFull S = 0 ∨ r_X2_seemsNearFull S = 1 := by
  unfold r_X2_seemsNearFull
  split
  · exact Or.inl rfl
  · exact Or.inr rfl
theorem nempty_bit (S : CS) : r_X2_seemsNearEmpty S = 0 ∨ r_X2_seemsNearEmpty S = 1 := by
  unfold r_X2_seemsNearEmpty
  split
  · exact Or.inl rfl
  · exact Or.inr rfl
theorem X_side {G : Nat → Nat → CS} {M : CS} (h : RG G M) (a1 a2 : Int32) : r_X4_side G a1 a2 = r_X5_side M a1 a2 := by
  obtain ⟨k, wc, t, hR⟩ := RG_now h
  unfold r_X4_side r_X5_side
  rw [side5]
  by_cases c : r_X4_isSide a1 = 0
  · rw [if_pos c, if_pos c]
  rw [if_neg c, if_neg c]
  obtain ⟨n0, n1, n2, n3, n4, n5, n6, n7, n8, n9, n10, n11, n12, n13⟩ := hR.2.2.1
  rcases side_c c with rfl | rfl
  · obtain ⟨w0, w1, w2, w3, w4, w5, w6, w7, w8, -⟩ := hR.2.2.2.1
    obtain ⟨-, -, -, -, -, -, -, -, -, p, f, s, e3, e4, e5, hp, hf, hs⟩ := hR.2.2.2.1
    have o0 : r_X5_of M 0 0 = G 0 0 1 0 := (of_0 M 0 (by decide)).trans w0
    have o1 : r_X5_of M 0 1 = G 0 0 1 1 := (of_0 M 1 (by decide)).trans w1
    have o2 : r_X5_of M 0 2 = nb (G 0 0 1 2) := (of_0 M 2 (by decide)).trans w2
    have o3 : r_X5_of M 0 3 = G 0 0 1 3 := (of_0 M 3 (by decide)).trans w3
    have o4 : r_X5_of M 0 4 = G 0 0 1 4 := (of_0 M 4 (by decide)).trans w4
    have o5 : r_X5_of M 0 5 = G 0 0 1 5 := (of_0 M 5 (by decide)).trans w5
    have o6 : r_X5_of M 0 6 = G 0 0 1 6 := (of_0 M 6 (by decide)).trans w6
    have o7 : r_X5_of M 0 7 = G 0 0 1 7 := (of_0 M 7 (by decide)).trans w7
    rw [if_pos rfl]
    by_cases c0 : a2 = 0
    · rw [if_pos c0, if_pos c0]; subst c0; exact o0.symm
    rw [if_neg c0, if_neg c0]
    by_cases c1 : a2 = 1
    · rw [if_pos c1, if_pos c1]; subst c1; exact o1.symm
    rw [if_neg c1, if_neg c1]
    by_cases c2 : a2 = 2
    · rw [if_pos c2, if_pos c2]; subst c2; exact (asN _ (nb_c _)).trans o2.symm
    rw [if_neg c2, if_neg c2]
    by_cases c3 : a2 = 3
    · rw [if_pos c3, if_pos c3]; subst c3; exact o3.symm
    rw [if_neg c3, if_neg c3]
    by_cases c4 : a2 = 4
    · rw [if_pos c4, if_pos c4, o3, (R_code hR _).1]
    rw [if_neg c4, if_neg c4]
    by_cases c5 : a2 = 5
    · rw [if_pos c5, if_pos c5]; subst c5; exact o4.symm
    rw [if_neg c5, if_neg c5]
    by_cases c6 : a2 = 6
    · rw [if_pos c6, if_pos c6]; subst c6; exact o5.symm
    rw [if_neg c6, if_neg c6]
    by_cases c7 : a2 = 7
    · rw [if_pos c7, if_pos c7]; unfold r_X5_seen; rw [o5, e5]; exact (R_ptr hR hs).1.symm
    rw [if_neg c7, if_neg c7]
    by_cases c8 : a2 = 8
    · rw [if_pos c8, if_pos c8, if_pos rfl]; exact (R_fillW hR).symm
    rw [if_neg c8, if_neg c8]
    by_cases c9 : a2 = 9
    · rw [if_pos c9, if_pos c9, if_pos rfl, R_full hR, asN _ (full_bit _), bit0 _ (full_bit _)]
    rw [if_neg c9, if_neg c9]
    by_cases c10 : a2 = 10
    · have e : r_X5_isAlmost M 0 = r_X2_seemsNearFull (G 0 0) := by
        unfold r_X5_isAlmost r_X2_seemsNearFull
        rw [if_pos rfl, R_fillW hR, (R_depth hR).1, (R_depth hR).2, n4]
      rw [if_pos c10, if_pos c10, if_pos rfl, e, asN _ (nfull_bit _), bit0 _ (nfull_bit _)]
    rw [if_neg c10, if_neg c10]
    by_cases c11 : a2 = 11
    · rw [if_pos c11, if_pos c11]
      unfold r_X1_timesToTick r_X5_untilTick r_X4_remainder
      have hz : ¬ (G 0 0 1 0) ≤ 0 := by rw [Int32.le_iff_toInt_le]; have := zero_toI; omega
      rw [o0, o1, o2, n3, if_neg hz]
    rw [if_neg c11, if_neg c11]
    by_cases c12 : a2 = 12
    · rw [if_pos c12, if_pos c12]; subst c12; exact o6.symm
    rw [if_neg c12, if_neg c12]
    by_cases c13 : a2 = 13
    · rw [if_pos c13, if_pos c13]; subst c13; exact o7.symm
    rw [if_neg c13, if_neg c13]
  · obtain ⟨w0, w1, w2, w3, w4, w5, w6, w7, w8, -⟩ := hR.2.2.2.2.1
    obtain ⟨-, -, -, -, -, -, -, -, -, p, f, s, e3, e4, e5, hp, hf, hs⟩ := hR.2.2.2.2.1
    have o0 : r_X5_of M 1 0 = G 0 0 2 0 := (of_1 M 0 (by decide)).trans w0
    have o1 : r_X5_of M 1 1 = G 0 0 2 1 := (of_1 M 1 (by decide)).trans w1
    have o2 : r_X5_of M 1 2 = nb (G 0 0 2 2) := (of_1 M 2 (by decide)).trans w2
    have o3 : r_X5_of M 1 3 = G 0 0 2 3 := (of_1 M 3 (by decide)).trans w3
    have o4 : r_X5_of M 1 4 = G 0 0 2 4 := (of_1 M 4 (by decide)).trans w4
    have o5 : r_X5_of M 1 5 = G 0 0 2 5 := (of_1 M 5 (by decide)).trans w5
    have o6 : r_X5_of M 1 6 = G 0 0 2 6 := (of_1 M 6 (by decide)).trans w6
    have o7 : r_X5_of M 1 7 = G 0 0 2 7 := (of_1 M 7 (by decide)).trans w7
    have z1 : ¬ (1 : Int32) = 0 := by decide
    rw [if_neg z1]
    by_cases c0 : a2 = 0
    · rw [if_pos c0, if_pos c0]; subst c0; exact o0.symm
    rw [if_neg c0, if_neg c0]
    by_cases c1 : a2 = 1
    · rw [if_pos c1, if_pos c1]; subst c1; exact o1.symm
    rw [if_neg c1, if_neg c1]
    by_cases c2 : a2 = 2
    · rw [if_pos c2, if_pos c2]; subst c2; exact (asN _ (nb_c _)).trans o2.symm
    rw [if_neg c2, if_neg c2]
    by_cases c3 : a2 = 3
    · rw [if_pos c3, if_pos c3]; subst c3; exact o3.symm
    rw [if_neg c3, if_neg c3]
    by_cases c4 : a2 = 4
    · rw [if_pos c4, if_pos c4, o3, (R_code hR _).1]
    rw [if_neg c4, if_neg c4]
    by_cases c5 : a2 = 5
    · rw [if_pos c5, if_pos c5]; subst c5; exact o4.symm
    rw [if_neg c5, if_neg c5]
    by_cases c6 : a2 = 6
    · rw [if_pos c6, if_pos c6]; subst c6; exact o5.symm
    rw [if_neg c6, if_neg c6]
    by_cases c7 : a2 = 7
    · rw [if_pos c7, if_pos c7]; unfold r_X5_seen; rw [o5, e5]; exact (R_ptr hR hs).1.symm
    rw [if_neg c7, if_neg c7]
    by_cases c8 : a2 = 8
    · rw [if_pos c8, if_pos c8, if_neg z1]; exact (R_fillR hR).symm
    rw [if_neg c8, if_neg c8]
    by_cases c9 : a2 = 9
    · rw [if_pos c9, if_pos c9, if_neg z1, R_empty hR, asN _ (empty_bit _), bit0 _ (empty_bit _)]
    rw [if_neg c9, if_neg c9]
    by_cases c10 : a2 = 10
    · have e : r_X5_isAlmost M 1 = r_X2_seemsNearEmpty (G 0 0) := by
        unfold r_X5_isAlmost r_X2_seemsNearEmpty
        rw [if_neg z1, R_fillR hR, n5]
      rw [if_pos c10, if_pos c10, if_neg z1, e, asN _ (nempty_bit _), bit0 _ (nempty_bit _)]
    rw [if_neg c10, if_neg c10]
    by_cases c11 : a2 = 11
    · rw [if_pos c11, if_pos c11]
      unfold r_X1_timesToTick r_X5_untilTick r_X4_remainder
      have hz : ¬ (G 0 0 2 0) ≤ 0 := by rw [Int32.le_iff_toInt_le]; have := zero_toI; omega
      rw [o0, o1, o2, n3, if_neg hz]
    rw [if_neg c11, if_neg c11]
    by_cases c12 : a2 = 12
    · rw [if_pos c12, if_pos c12]; subst c12; exact o6.symm
    rw [if_neg c12, if_neg c12]
    by_cases c13 : a2 = 13
    · rw [if_pos c13, if_pos c13]; subst c13; exact o7.symm
    rw [if_neg c13, if_neg c13]
