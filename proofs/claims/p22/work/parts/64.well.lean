/-! the law's look at one object -/
theorem an_if (c : Prop) [Decidable c] : (r_X4_asNumber (if c then 1 else 0) = 1 ↔ c) := by
  unfold r_X4_asNumber
  by_cases d : c
  · rw [if_pos d, if_neg z10]; exact ⟨fun _ => d, fun _ => rfl⟩
  · rw [if_neg d, if_pos rfl]; exact ⟨fun z => absurd z (by decide), fun z => absurd z d⟩
theorem ar_f {k a q : Nat} (hk : 1 ≤ k ∧ k ≤ 4) (ha : a < 2 ^ (k + 1)) (hq : q < 2 ^ (k + 1)) : (q = (a + 2 ^ k) % 2 ^ (k + 1) ↔ (a + 2 ^ (k + 1) - q) % 2 ^ (k + 1) = 2 ^ k) := by
  rcases k4 hk with rfl | rfl | rfl | rfl <;> simp only [Nat.reduceAdd, Nat.reducePow] at ha hq ⊢ <;> omega
theorem ar_e {k a q : Nat} (hk : 1 ≤ k ∧ k ≤ 4) (ha : a < 2 ^ (k + 1)) (hq : q < 2 ^ (k + 1)) : (q = a ↔ (q + 2 ^ (k + 1) - a) % 2 ^ (k + 1) = 0) := by
  rcases k4 hk with rfl | rfl | rfl | rfl <;> simp only [Nat.reduceAdd, Nat.reducePow] at ha hq ⊢ <;> omega
/-- what the law sees of a side -/
theorem well_v {G P : Nat → Nat → CS} {k t wc Q T s : Nat} (h : JJ (G 0 0) (P 0 0) k t wc Q T) (hs : s = 0 ∨ s = 1) :
    ∃ f c x y : Nat, f < 2 ^ (k + 1) ∧ c < 2 ^ (k + 1) ∧ y ≤ x ∧ x ≤ t ∧ r_X4_side G (nI s) 8 = nI f ∧ r_X4_side G (nI s) 4 = nI c ∧ r_X4_side G (nI s) 12 = nI x ∧ r_X4_side G (nI s) 13 = nI y ∧ (r_X4_side G (nI s) 9 = 1 ↔ f = (if s = 0 then 2 ^ k else 0)) ∧ (r_X4_side G (nI s) 2 = 1 ↔ ¬ r_X4_side G (nI s) 11 = -5) := by
  obtain ⟨⟨hk, hw, ht, hP, hT, ⟨n0, n2, n10, n12, n13⟩, c1, c2, ⟨q1, a, b, ha, hb, qa, qb⟩, ⟨q2, a', b', ha', hb', qa', qb'⟩, nu, r, hr, rT⟩, -, -⟩ := h
  have h32 := p2k hk
  rcases hs with rfl | rfl
  · obtain ⟨q, hq, eq⟩ := ptr_in (S := G 0 0) hk hb
    obtain ⟨c, hc, ec⟩ := cod_in (S := G 0 0) hk (ml (k := k) (c := Q))
    have tv := times_v c1 ht
    obtain ⟨p, f, x, y, -, -, -, -, -, h6, h7, yx, xt⟩ := c1
    refine ⟨(Q % 2 ^ (k + 1) + 2 ^ (k + 1) - q) % 2 ^ (k + 1), c, x, y, ml, hc, yx, xt, ?_, ?_, ?_, ?_, ?_, ?_⟩
    · rw [show nI 0 = (0 : Int32) from rfl, sd0_8]
      unfold r_X2_fillToWriter
      rw [qb, eq, q1, around2 n0, chk4 hk ml hq]
    · rw [show nI 0 = (0 : Int32) from rfl, sd0_4, q1]; exact ec
    · rw [show nI 0 = (0 : Int32) from rfl, sd0_12]; exact h6
    · rw [show nI 0 = (0 : Int32) from rfl, sd0_13]; exact h7
    · rw [show nI 0 = (0 : Int32) from rfl, sd0_9, if_pos rfl]
      unfold r_X2_seemsFull
      rw [an_if, qb, eq, q1, around2 n0, depth2 n0, (chk1 hk ml).2.2, ← ar_f hk ml hq]
      have l : (Q % 2 ^ (k + 1) + 2 ^ k) % 2 ^ (k + 1) < 2 ^ (k + 1) := ml
      exact nI_eq (by omega) (by omega)
    · rw [show nI 0 = (0 : Int32) from rfl, sd0_2, sd0_11, n2, an_1, tv]
  · obtain ⟨q, hq, eq⟩ := ptr_in (S := G 0 0) hk hb'
    obtain ⟨c, hc, ec⟩ := cod_in (S := G 0 0) hk (ml (k := k) (c := T))
    have tv := times_v c2 ht
    obtain ⟨p, f, x, y, -, -, -, -, -, h6, h7, yx, xt⟩ := c2
    have l : T % 2 ^ (k + 1) < 2 ^ (k + 1) := ml
    refine ⟨(q + 2 ^ (k + 1) - T % 2 ^ (k + 1)) % 2 ^ (k + 1), c, x, y, ml, hc, yx, xt, ?_, ?_, ?_, ?_, ?_, ?_⟩
    · rw [show nI 1 = (1 : Int32) from rfl, sd1_8]
      unfold r_X2_fillToReader
      rw [qb', eq, q2, around2 n0, chk4 hk hq ml]
    · rw [show nI 1 = (1 : Int32) from rfl, sd1_4, q2]; exact ec
    · rw [show nI 1 = (1 : Int32) from rfl, sd1_12]; exact h6
    · rw [show nI 1 = (1 : Int32) from rfl, sd1_13]; exact h7
    · rw [show nI 1 = (1 : Int32) from rfl, sd1_9, if_neg (show ¬ 1 = 0 by decide)]
      unfold r_X2_seemsEmpty
      rw [an_if, qb', eq, q2, ← ar_e hk ml hq]
      exact nI_eq (by omega) (by omega)
    · rw [show nI 1 = (1 : Int32) from rfl, sd1_2, sd1_11, n2, an_1, tv]
theorem if_iff {a b : Prop} [Decidable a] [Decidable b] (h : a ↔ b) : (if a then (1 : Int32) else 0) = (if b then (1 : Int32) else 0) := by
  by_cases c : a
  · rw [if_pos c, if_pos (h.mp c)]
  · rw [if_neg c, if_neg (fun z => c (h.mpr z))]
theorem q110_s {G P : Nat → Nat → CS} {k t wc Q T s : Nat} (h : JJ (G 0 0) (P 0 0) k t wc Q T) (hs : s = 0 ∨ s = 1) (fu : Nat) : q_L_isWell_110 G (fu + 1) 1 (nI s) = q_L_isWell_110 G fu 1 (nI (s + 1)) := by
  obtain ⟨f, c, x, y, hf, hc, yx, xt, e8, e4, e12, e13, e9, e2⟩ := well_v h hs
  obtain ⟨-, -, v2, -⟩ := J_vals h
  have hk := h.1.1
  have ht := h.1.2.2.1
  have h32 := p2k hk
  have hD := pw_d (k := k)
  have x9 : (if r_X4_side G (nI s) 9 = 1 then (1 : Int32) else 0) = (if nI f = (if nI s = (0 : Int32) then nI (2 ^ k) else (0 : Int32)) then (1 : Int32) else 0) := by
    refine if_iff (e9.trans ?_)
    rcases hs with rfl | rfl
    · rw [if_pos rfl, if_pos (show nI 0 = 0 from rfl)]
      exact (nI_eq (by omega) (by omega)).symm
    · rw [if_neg (show ¬ 1 = 0 by decide), if_neg (show ¬ nI 1 = 0 by decide)]
      exact (nI_eq (a := f) (b := 0) (by omega) (by decide)).symm
  have x2 : (if r_X4_side G (nI s) 2 = 1 then (1 : Int32) else 0) = (if r_X4_side G (nI s) 11 = (-5 : Int32) then (0 : Int32) else 1) := by
    by_cases d : r_X4_side G (nI s) 11 = (-5 : Int32)
    · rw [if_pos d, if_neg (fun z => (e2.mp z) d)]
    · rw [if_neg d, if_pos (e2.mpr d)]
  conv => lhs; unfold q_L_isWell_110
  rw [if_neg (show ¬ (2 : Int32) ≤ nI s from nI_ge (b := 2) (by omega) (by decide)), nI_1, v2, two_d]
  dsimp only
  rw [e8, e4, e12, e13, if_neg z10, if_neg (nI_pos (by omega)), if_neg (nI_ge hf (by omega)), if_neg (nI_pos (by omega)), if_neg (nI_ge hc (by omega)), if_neg (nI_nlt yx (by omega)), x9, if_pos rfl, x2, if_pos rfl]
theorem q110_1 {G P : Nat → Nat → CS} {k t wc Q T : Nat} (h : JJ (G 0 0) (P 0 0) k t wc Q T) : q_L_isWell_110 G (((2 : Int32).toInt - (0 : Int32).toInt).toNat + 1) 1 0 = 1 := by
  rw [show ((2 : Int32).toInt - (0 : Int32).toInt).toNat + 1 = 1 + 1 + 1 from rfl, show (0 : Int32) = nI 0 from rfl, q110_s h (Or.inl rfl), q110_s h (Or.inr rfl)]
  unfold q_L_isWell_110
  rw [if_pos (show (2 : Int32) ≤ nI (1 + 1) by decide)]
theorem q357_1 {G P : Nat → Nat → CS} {k t wc Q T : Nat} (h : JJ (G 0 0) (P 0 0) k t wc Q T) : ∀ (fu m : Nat), 2 ^ k - m < fu → m ≤ 2 ^ k → q_L_isWell_357 G fu 1 (nI m) = 1
  | 0, _, z, _ => absurd z (Nat.not_lt_zero _)
  | fu + 1, m, z, hm => by
    obtain ⟨-, -, v2, -, v6, -⟩ := J_vals h
    have hk := h.1.1
    have l16 := pkk hk
    have hQ := h.1.2.2.2.1
    have ht := h.1.2.2.1
    unfold q_L_isWell_357
    rw [v2, v6]
    rcases Nat.lt_or_ge m (2 ^ k) with q | q
    · rw [if_neg (nI_ge q (by omega)), (place_at h.1.2.2.2.2.2.1.1 hk q).2, nI_1]
      dsimp only
      rw [if_neg z10]
      have r := q357_1 h fu (m + 1) (by omega) q
      rcases h.1.2.2.2.2.2.2.2.2.2.2.1 m q with ⟨e1, e2⟩ | ⟨j, e1, e2, e3, e4⟩
      · rw [e1, if_pos rfl, if_neg (nI_nlt e2 (by omega))]; exact r
      · have lt : ¬ nI j < nI Q - nI (2 ^ k) := by
          rw [Int32.lt_iff_toInt_lt, pk_sub_toInt (by omega) (by omega), nI_toInt (by omega)]; omega
        rw [e1, if_neg (n5_ne (by omega)), pk_rem (by omega) pw_0 (by omega), e2, if_pos rfl, if_neg (nI_ge e3 (by omega)), if_neg lt]; exact r
    · rw [if_pos (nI_le q (by omega))]
theorem neg_two (a b : Int32) : -a - -b = -(a - b) := by
  rw [Int32.neg_sub, Int32.sub_eq_add_neg, Int32.neg_neg, Int32.add_comm, ← Int32.sub_eq_add_neg]
/-- the fill out of the counts, as the law reckons it -/
theorem neg_div {d : Nat} {r : Nat} (hd : d < 2 ^ 30) (hr : r < 2 ^ 30) (h0 : 0 < r) : (-nI d) / nI r = -nI (d / r) := by
  have q : d / r ≤ d := Nat.div_le_self d r
  apply Int32.toInt_inj.mp
  have t : ∀ n : Nat, n < 2 ^ 30 → (-nI n).toInt = -(n : Int) := by
    intro n hn
    rw [Int32.toInt_neg, nI_toInt (by omega)]
    exact Int.bmod_eq_of_le (by omega) (by omega)
  rw [Int32.toInt_div, t d hd, t _ (by omega), nI_toInt (by omega), Int.neg_tdiv, Int.bmod_eq_of_le]
  · rfl
  · show _ ≤ -(((d / r : Nat)) : Int); generalize d / r = z at q ⊢; omega
  · show -(((d / r : Nat)) : Int) < _; generalize d / r = z at q ⊢; omega
theorem fill_law {k Q T : Nat} (hk : 1 ≤ k ∧ k ≤ 4) (hQ : Q < 2 ^ 29) (hT : T < 2 ^ 29) : nI ((Q % 2 ^ (k + 1) + 2 ^ (k + 1) - T % 2 ^ (k + 1)) % 2 ^ (k + 1)) = ((((nI Q - nI T) - (nI Q - nI T) / nI (2 ^ (k + 1)) * nI (2 ^ (k + 1))) + nI (2 ^ (k + 1))) - (((nI Q - nI T) - (nI Q - nI T) / nI (2 ^ (k + 1)) * nI (2 ^ (k + 1))) + nI (2 ^ (k + 1))) / nI (2 ^ (k + 1)) * nI (2 ^ (k + 1))) := by
  have h32 := p2k hk
  rcases Nat.lt_or_ge Q T with q | q
  · have e0 : nI Q - nI T = -nI (T - Q) := by
      rw [← pk_sub (by omega : Q ≤ T), Int32.neg_sub]
    have l : (T - Q) % 2 ^ (k + 1) < 2 ^ (k + 1) := ml
    have e1 : (nI Q - nI T) - (nI Q - nI T) / nI (2 ^ (k + 1)) * nI (2 ^ (k + 1)) = -nI ((T - Q) % 2 ^ (k + 1)) := by
      rw [e0, neg_div (by omega) (by omega) pw_0, ← pk_div (a := T - Q) (d := 2 ^ (k + 1)) (by omega) pw_0 (by omega), Int32.neg_mul, neg_two, pk_rem (by omega) pw_0 (by omega)]
    have e2 : -nI ((T - Q) % 2 ^ (k + 1)) + nI (2 ^ (k + 1)) = nI (2 ^ (k + 1) - (T - Q) % 2 ^ (k + 1)) := by
      rw [Int32.add_comm, ← Int32.sub_eq_add_neg, pk_sub (by omega)]
    rw [e1, e2, pk_rem (by omega) pw_0 (by omega)]
    refine congrArg nI ?_
    rcases k4 hk with rfl | rfl | rfl | rfl <;> simp only [Nat.reduceAdd, Nat.reducePow] <;> omega
  · have e1 : (nI Q - nI T) - (nI Q - nI T) / nI (2 ^ (k + 1)) * nI (2 ^ (k + 1)) = nI ((Q - T) % 2 ^ (k + 1)) := by
      rw [pk_sub q, pk_rem (by omega) pw_0 (by omega)]
    rw [e1, nI_add]
    have l : (Q - T) % 2 ^ (k + 1) < 2 ^ (k + 1) := ml
    rw [pk_rem (by omega) pw_0 (by omega)]
    refine congrArg nI ?_
    rcases k4 hk with rfl | rfl | rfl | rfl <;> simp only [Nat.reduceAdd, Nat.reducePow] <;> omega
theorem well_p (G : Nat → Nat → CS) (a1 : Int32) : p_L_isWell G a1 = p_X4_doneIn G := by
  unfold p_L_isWell
  dsimp only
  unfold k110_p_L_isWell
  dsimp only
  unfold k357_p_L_isWell
  dsimp only
  simp only [ite_self]
theorem done_law {G P : Nat → Nat → CS} {k t wc Q T : Nat} (h : JJ (G 0 0) (P 0 0) k t wc Q T) : (if r_X4_doneIn G = (0 : Int32) then (1 : Int32) else 0) = (if r_X4_count G 6 = r_X4_count G 7 then (if r_X4_count (p_X4_doneIn G) 5 = (0 : Int32) then (1 : Int32) else 0) else 0) ∧ (if r_X4_doneIn G = (-5 : Int32) then (1 : Int32) else (if (5000 : Int32) < r_X4_doneIn G then (0 : Int32) else 1)) = 1 := by
  obtain ⟨-, -, -, -, v6, v7⟩ := J_vals h
  obtain ⟨d1, d2⟩ := doneIn_v h
  have n10 : G 0 0 0 10 = nI wc := h.1.2.2.2.2.2.1.2.2.1
  have hw := h.1.2.1
  have hQ := h.1.2.2.2.1
  have hT := h.1.2.2.2.2.1
  have ht := h.1.2.2.1
  refine ⟨?_, ?_⟩
  · rw [v6, v7, cnt_5, (doneIn_k G).1, n10]
    by_cases c : wc = 0 ∧ Q = T
    · rw [if_pos (d2.mpr c), if_pos (by rw [c.2]), if_pos (by rw [c.1]; rfl)]
    · rw [if_neg (fun z => c (d2.mp z))]
      by_cases e : nI Q = nI T
      · have e' := (nI_eq (by omega) (by omega)).mp e
        have f : ¬ nI wc = 0 := nI_ne0 (by rcases Nat.eq_zero_or_pos wc with z | z
                                           · exact absurd ⟨z, e'⟩ c
                                           · exact z) (by omega)
        rw [if_pos e, if_neg f]
      · rw [if_neg e]
  · rcases d1 with e | ⟨j, hj, e⟩
    · rw [if_pos e]
    · rw [e, if_neg (n5_ne (by omega)), if_neg (show ¬ (5000 : Int32) < nI j from nI_nlt (a := 5000) hj (by decide))]
theorem well_law {G P : Nat → Nat → CS} {k t wc Q T : Nat} (h : JJ (G 0 0) (P 0 0) k t wc Q T) {a1 : Int32} (ha : ¬ nb a1 = 0 → ¬ nb (G 0 0 0 1) = 0) : r_L_isWell G a1 = 1 := by
  obtain ⟨v0, v1, v2, v5, v6, v7⟩ := J_vals h
  have hk := h.1.1
  have ht := h.1.2.2.1
  have hQ := h.1.2.2.2.1
  have hT := h.1.2.2.2.2.1
  have h32 := p2k hk
  have l16 := pkk hk
  have hD := pw_d (k := k)
  obtain ⟨dl1, dl2⟩ := done_law h
  have e1 : r_X4_count G 2 = (1 : Int32) <<< (r_X4_count G 1 &&& (31 : Int32)) := by rw [v1, v2, ← dpt_n hk]; rfl
  have e2 : r_X4_side G 0 3 = r_X4_count G 6 - r_X4_count G 6 / ((2 : Int32) * r_X4_count G 2) * ((2 : Int32) * r_X4_count G 2) := by
    rw [v6, v2, two_d, pk_rem (by omega) pw_0 (by omega), sd0_3]; exact h.1.2.2.2.2.2.2.2.2.1.1
  have e3 : r_X4_side G 1 3 = r_X4_count G 7 - r_X4_count G 7 / ((2 : Int32) * r_X4_count G 2) * ((2 : Int32) * r_X4_count G 2) := by
    rw [v7, v2, two_d, pk_rem (by omega) pw_0 (by omega), sd1_3]; exact h.1.2.2.2.2.2.2.2.2.2.1.1
  have e4 : r_X4_count G 8 + r_X4_count G 9 = r_X4_count G 7 := by
    rw [cnt_8, cnt_9, cnt_7, Int32.sub_eq_add_neg, Int32.add_comm (G 0 0 0 13), ← Int32.add_assoc, Int32.add_right_neg, Int32.zero_add]
  have e5 : r_X4_count G 4 = ((((r_X4_count G 6 - r_X4_count G 7) - (r_X4_count G 6 - r_X4_count G 7) / ((2 : Int32) * r_X4_count G 2) * ((2 : Int32) * r_X4_count G 2)) + ((2 : Int32) * r_X4_count G 2)) - (((r_X4_count G 6 - r_X4_count G 7) - (r_X4_count G 6 - r_X4_count G 7) / ((2 : Int32) * r_X4_count G 2) * ((2 : Int32) * r_X4_count G 2)) + ((2 : Int32) * r_X4_count G 2)) / ((2 : Int32) * r_X4_count G 2) * ((2 : Int32) * r_X4_count G 2)) := by
    rw [fill_v h, v6, v7, v2, two_d]
    exact fill_law hk (by omega) (by omega)
  unfold r_L_isWell
  rw [if_pos e1, if_pos e2, if_pos e3, if_pos e4, if_pos e5]
  dsimp only
  rw [q110_1 h]
  unfold k110_r_L_isWell
  by_cases c : nb a1 = 0
  · rw [if_pos c]
    dsimp only
    rw [if_neg z10, dl1, if_pos rfl, dl2]
  · rw [if_neg c]
    obtain ⟨g14, a1', a2, b1, b2, w4, w5, r4, r5, i1', i2, i3, i4, i5, i6⟩ := h.2.1 (ha c)
    have hg := ha c
    have hp0 : 0 < 2 ^ k := pw_0
    have n0 : G 0 0 0 0 = nI k := h.1.2.2.2.2.2.1.1
    have n13 : G 0 0 0 13 = nI T := h.1.2.2.2.2.2.1.2.2.2.2
    have p1 : G 0 0 1 3 = nI (Q % 2 ^ (k + 1)) := h.1.2.2.2.2.2.2.2.2.1.1
    have p2 : G 0 0 2 3 = nI (T % 2 ^ (k + 1)) := h.1.2.2.2.2.2.2.2.2.2.1.1
    have s8 : r_X4_side G 0 8 = nI (Q - a2) := by
      rw [sd0_8]
      unfold r_X2_fillToWriter
      rw [w5, ptr_g hg hk, p1, around2 n0, chk4 hk ml ml, md_b hk (by omega) (by omega)]
    have s9 : r_X4_side G 1 8 = nI (b2 - T) := by
      rw [sd1_8]
      unfold r_X2_fillToReader
      rw [r5, ptr_g hg hk, p2, around2 n0, chk4 hk ml ml, md_b hk i6 (by omega)]
    have c9 : r_X4_count G 9 = 0 := by rw [cnt_9, g14, n13, Int32.sub_self]
    have d67 : r_X4_count G 6 - r_X4_count G 7 = nI (Q - T) := by rw [v6, v7, pk_sub (by omega)]
    dsimp only
    rw [if_neg z10, if_pos c9, d67, v6, v7, v2, s8, s9, if_neg (nI_nlt (by omega) (by omega)), if_neg (nI_nlt (by omega) (by omega)), if_neg (nI_nlt (by omega) (by omega)), if_neg (nI_nlt (by omega) (by omega)), if_neg (nI_nlt (by omega) (by omega))]
    have q := q357_1 h (2 ^ k + 1) 0 (by omega) (Nat.zero_le _)
    rw [show nI 0 = (0 : Int32) from rfl] at q
    rw [fuel_n (by omega), q]
    unfold k357_r_L_isWell
    dsimp only
    rw [if_neg z10, dl1, if_pos rfl, dl2]
