/-! the law types a text on both objects -/
theorem z10 : ¬ (1 : Int32) = 0 := by decide
theorem j640_0 (G P : Nat → Nat → CS) : j_L_isStep_x640_s0 1 0 G P = 1 ∧ j_L_isStep_G640 1 0 G P = G ∧ j_L_isStep_P640 1 0 G P = P := by
  unfold j_L_isStep_x640_s0 j_L_isStep_G640 j_L_isStep_P640
  rw [if_neg z10, if_neg z10, if_neg z10, if_pos rfl, if_pos rfl, if_pos rfl]
  exact ⟨rfl, rfl, rfl⟩
theorem j640_n {G P : Nat → Nat → CS} {k : Int32} (hk : ¬ k = 0) (t1 : ¬ r_X4_type G 44 ≤ 0) (t2 : ¬ r_X4_type P 44 ≤ 0) : j_L_isStep_x640_s0 1 k G P = 1 ∧ j_L_isStep_G640 1 k G P = p_X4_type G 44 ∧ j_L_isStep_P640 1 k G P = p_X4_type P 44 := by
  refine ⟨?_, ?_, ?_⟩
  · unfold j_L_isStep_x640_s0; dsimp only; rw [if_neg z10, if_neg hk, if_neg t1, if_neg t2]
  · unfold j_L_isStep_G640; dsimp only; rw [if_neg z10, if_neg hk, if_neg t1, if_neg t2]
  · unfold j_L_isStep_P640; dsimp only; rw [if_neg z10, if_neg hk, if_neg t1, if_neg t2]
theorem j710_1 {G P : Nat → Nat → CS} {a2 k v : Int32} (hv : (1 : Int32) + (r_L_up ((a2 >>> (((2 : Int32) * k) &&& (31 : Int32))) >>> ((3 : Int32) &&& (31 : Int32))) (60 : Int32)) = v) (t1 : ¬ r_X4_type G 46 ≤ 0) (t2 : ¬ r_X4_type P 46 ≤ 0) (n1 : r_L_number (p_X4_type G 46) v = 1) (n2 : r_L_number (p_X4_type P 46) v = 1) :
    j_L_isStep_x710_s0 a2 k 1 G P = 1 ∧ j_L_isStep_G710 a2 k 1 G P = p_L_number (p_X4_type G 46) v ∧ j_L_isStep_P710 a2 k 1 G P = p_L_number (p_X4_type P 46) v := by
  refine ⟨?_, ?_, ?_⟩
  · unfold j_L_isStep_x710_s0; dsimp only; rw [hv, if_neg z10, if_neg t1, if_neg t2, n1, if_neg z10, n2, if_neg z10]
  · unfold j_L_isStep_G710; dsimp only; rw [hv, if_neg z10, if_neg t1, if_neg t2, n1, if_neg z10, n2, if_neg z10]
  · unfold j_L_isStep_P710; dsimp only; rw [hv, if_neg z10, if_neg t1, if_neg t2, n1, if_neg z10, n2, if_neg z10]
theorem j809_1 {G P : Nat → Nat → CS} {a2 k w v o : Int32} (hw : r_L_up ((a2 >>> (((2 : Int32) * k) &&& (31 : Int32))) >>> ((3 : Int32) &&& (31 : Int32))) (100 : Int32) = w) (hv : (99 : Int32) - w = v) (ho : r_L_up ((a2 >>> (((2 : Int32) * k) &&& (31 : Int32))) >>> ((5 : Int32) &&& (31 : Int32))) (4 : Int32) = o) (o2 : o < 2) (n1 : r_L_number G w = 1) (n2 : r_L_number P v = 1) :
    j_L_isStep_x809_s0 a2 k 1 G P = 1 ∧ j_L_isStep_G809 a2 k 1 G P = p_L_number G w ∧ j_L_isStep_P809 a2 k 1 G P = p_L_number P v := by
  refine ⟨?_, ?_, ?_⟩
  · unfold j_L_isStep_x809_s0; dsimp only; rw [hw, hv, ho, if_neg z10, n1, if_neg z10, n2, if_neg z10, if_pos o2]
  · unfold j_L_isStep_G809; dsimp only; rw [hw, hv, ho, if_neg z10, n1, if_neg z10, n2, if_neg z10, if_pos o2]
  · unfold j_L_isStep_P809; dsimp only; rw [hw, hv, ho, if_neg z10, n1, if_neg z10, n2, if_neg z10, if_pos o2]
theorem j809_2 {G P : Nat → Nat → CS} {a2 k w v o : Int32} (hw : r_L_up ((a2 >>> (((2 : Int32) * k) &&& (31 : Int32))) >>> ((3 : Int32) &&& (31 : Int32))) (100 : Int32) = w) (hv : (99 : Int32) - w = v) (ho : r_L_up ((a2 >>> (((2 : Int32) * k) &&& (31 : Int32))) >>> ((5 : Int32) &&& (31 : Int32))) (4 : Int32) = o) (o2 : ¬ o < 2) (n1 : r_L_number G w = 1) (n2 : r_L_number P v = 1) (t1 : ¬ r_X4_type (p_L_number G w) 120 ≤ 0) (t2 : ¬ r_X4_type (p_L_number P v) 120 ≤ 0) (n3 : r_L_number (p_X4_type (p_L_number G w) 120) o = 1) (n4 : r_L_number (p_X4_type (p_L_number P v) 120) o = 1) :
    j_L_isStep_x809_s0 a2 k 1 G P = 1 ∧ j_L_isStep_G809 a2 k 1 G P = p_L_number (p_X4_type (p_L_number G w) 120) o ∧ j_L_isStep_P809 a2 k 1 G P = p_L_number (p_X4_type (p_L_number P v) 120) o := by
  refine ⟨?_, ?_, ?_⟩
  · unfold j_L_isStep_x809_s0; dsimp only; rw [hw, hv, ho, if_neg z10, n1, if_neg z10, n2, if_neg z10, if_neg o2, if_neg t1, if_neg t2, n3, if_neg z10, n4, if_neg z10]
  · unfold j_L_isStep_G809; dsimp only; rw [hw, hv, ho, if_neg z10, n1, if_neg z10, n2, if_neg z10, if_neg o2, if_neg t1, if_neg t2, n3, if_neg z10, n4, if_neg z10]
  · unfold j_L_isStep_P809; dsimp only; rw [hw, hv, ho, if_neg z10, n1, if_neg z10, n2, if_neg z10, if_neg o2, if_neg t1, if_neg t2, n3, if_neg z10, n4, if_neg z10]
/-- one part, typed on both -/
theorem part_typed {G P : Nat → Nat → CS} {s r : List Nat} (hG : TX (G 2 0) s) (hP : TX (P 2 0) r) (ls : s.length + 5 ≤ 60) (lr : r.length + 5 ≤ 60) (a2 k : Int32) : ∃ p, okp p ∧ j_L_isStep_x811_9 a2 k 1 G P = 1 ∧ TX (j_L_isStep_G811 a2 k 1 G P 2 0) (s ++ ren p) ∧ TX (j_L_isStep_P811 a2 k 1 G P 2 0) (r ++ ren (flp p)) ∧ KT (j_L_isStep_G811 a2 k 1 G P) G ∧ KT (j_L_isStep_P811 a2 k 1 G P) P := by
  unfold j_L_isStep_x811_9 j_L_isStep_G811 j_L_isStep_P811
  dsimp only
  by_cases c : (r_L_up (a2 >>> (((2 : Int32) * k) &&& (31 : Int32))) (3 : Int32)) = (0 : Int32)
  · obtain ⟨q, hq, eq⟩ := up_n ((a2 >>> (((2 : Int32) * k) &&& (31 : Int32))) >>> ((3 : Int32) &&& (31 : Int32))) (d := 60) (by decide) (by decide)
    have hv : (1 : Int32) + (r_L_up ((a2 >>> (((2 : Int32) * k) &&& (31 : Int32))) >>> ((3 : Int32) &&& (31 : Int32))) (60 : Int32)) = nI (q + 1) := by
      rw [show (60 : Int32) = nI 60 from rfl, eq, show (1 : Int32) = nI 1 from rfl, nI_add, Nat.add_comm]
    obtain ⟨t1, t2, t3⟩ := type_at (a := 46) hG (by omega) (by decide)
    obtain ⟨u1, u2, u3⟩ := type_at (a := 46) hP (by omega) (by decide)
    have l1 : (s ++ [46]).length + 2 ≤ 60 := by rw [List.length_append, List.length_singleton]; omega
    have l2 : (r ++ [46]).length + 2 ≤ 60 := by rw [List.length_append, List.length_singleton]; omega
    obtain ⟨n1, n2, n3⟩ := number_at (v := q + 1) t2 l1 (by omega)
    obtain ⟨m1, m2, m3⟩ := number_at (v := q + 1) u2 l2 (by omega)
    obtain ⟨e1, e2, e3⟩ := j710_1 hv t1 u1 n1 m1
    rw [if_pos c, if_pos c, if_pos c, e1, e2, e3]
    have er : ren (100, q + 1) = 46 :: num (q + 1) := rfl
    have ef : flp (100, q + 1) = (100, q + 1) := rfl
    rw [List.append_assoc] at n2 m2
    refine ⟨(100, q + 1), Or.inl ⟨rfl, by show 1 ≤ q + 1; omega, by show q + 1 ≤ 60; omega⟩, rfl, ?_, ?_, t3.trans n3, u3.trans m3⟩
    · rw [er]; exact n2
    · rw [ef, er]; exact m2
  · obtain ⟨w, hw9, hw⟩ := up_n ((a2 >>> (((2 : Int32) * k) &&& (31 : Int32))) >>> ((3 : Int32) &&& (31 : Int32))) (d := 100) (by decide) (by decide)
    obtain ⟨o, ho9, ho⟩ := up_n ((a2 >>> (((2 : Int32) * k) &&& (31 : Int32))) >>> ((5 : Int32) &&& (31 : Int32))) (d := 4) (by decide) (by decide)
    have hv : (99 : Int32) - nI w = nI (99 - w) := by rw [show (99 : Int32) = nI 99 from rfl, pk_sub (by omega)]
    obtain ⟨n1, n2, n3⟩ := number_at (v := w) hG (by omega) (by omega)
    obtain ⟨m1, m2, m3⟩ := number_at (v := 99 - w) hP (by omega) (by omega)
    have b1 := num_len w
    have b2 := num_len (99 - w)
    rw [if_neg c, if_neg c, if_neg c]
    rcases Nat.lt_or_ge o 2 with q | q
    · obtain ⟨e1, e2, e3⟩ := j809_1 (G := G) (P := P) hw hv ho (nI_lt (b := 2) q (by decide)) n1 m1
      rw [e1, e2, e3]
      have er : ∀ x, x ≤ 99 → ren (x, 1) = num x := fun x hx => by
        unfold ren; rw [if_neg (show ¬ x = 100 by omega), if_pos (show 1 < 2 by decide)]
      have ef : flp (w, 1) = (99 - w, 1) := by unfold flp; rw [if_neg (show ¬ w = 100 by omega)]
      refine ⟨(w, 1), Or.inr ⟨by show w ≤ 99; omega, by show 1 ≤ 1; omega, by show 1 ≤ 3; omega⟩, rfl, ?_, ?_, n3, m3⟩
      · rw [er w (by omega)]; exact n2
      · rw [ef, er (99 - w) (by omega)]; exact m2
    · have l1 : (s ++ num w).length < 60 := by rw [List.length_append]; omega
      have l2 : (r ++ num (99 - w)).length < 60 := by rw [List.length_append]; omega
      obtain ⟨t1, t2, t3⟩ := type_at (a := 120) n2 l1 (by decide)
      obtain ⟨u1, u2, u3⟩ := type_at (a := 120) m2 l2 (by decide)
      have l3 : (s ++ num w ++ [120]).length + 2 ≤ 60 := by rw [List.length_append, List.length_append, List.length_singleton]; omega
      have l4 : (r ++ num (99 - w) ++ [120]).length + 2 ≤ 60 := by rw [List.length_append, List.length_append, List.length_singleton]; omega
      obtain ⟨x1, x2, x3⟩ := number_at (v := o) t2 l3 (by omega)
      obtain ⟨y1, y2, y3⟩ := number_at (v := o) u2 l4 (by omega)
      obtain ⟨e1, e2, e3⟩ := j809_2 (G := G) (P := P) hw hv ho (nI_nlt (b := 2) q (by omega)) n1 m1 t1 u1 x1 y1
      rw [e1, e2, e3]
      have er : ∀ x, x ≤ 99 → ren (x, o) = num x ++ 120 :: num o := fun x hx => by
        unfold ren; rw [if_neg (show ¬ x = 100 by omega), if_neg (show ¬ o < 2 by omega)]
      have ef : flp (w, o) = (99 - w, o) := by unfold flp; rw [if_neg (show ¬ w = 100 by omega)]
      rw [List.append_assoc, List.append_assoc, List.singleton_append] at x2 y2
      refine ⟨(w, o), Or.inr ⟨by show w ≤ 99; omega, by show 1 ≤ o; omega, by show o ≤ 3; omega⟩, rfl, ?_, ?_, (n3.trans t3).trans x3, (m3.trans u3).trans y3⟩
      · rw [er w (by omega)]; exact x2
      · rw [ef, er (99 - w) (by omega)]; exact y2
theorem flp_len (l : List (Nat × Nat)) : (l.map flp).length = l.length := List.length_map ..
theorem flp_all {l : List (Nat × Nat)} (h : ∀ p ∈ l, okp p) : ∀ p ∈ l.map flp, okp p := by
  intro p hp
  obtain ⟨q, hq, rfl⟩ := List.mem_map.mp hp
  exact flp_ok (h q hq)
/-- the whole text, typed on both -/
theorem text_typed {n : Nat} (hn : n ≤ 4) {a1 a2 : Int32} (en : (1 : Int32) + (r_L_up (a1 >>> ((4 : Int32) &&& (31 : Int32))) (4 : Int32)) = nI n) : ∀ (fu m : Nat) (G P : Nat → Nat → CS) (l : List (Nat × Nat)), n - m < fu → m ≤ n → l.length = m → (∀ p ∈ l, okp p) → TX (G 2 0) (rl l) → TX (P 2 0) (rl (l.map flp)) →
    q_L_isStep_592_T592_is a1 a2 fu 1 (nI m) G P = 1 ∧ ∃ l' : List (Nat × Nat), l'.length = n ∧ (∀ p ∈ l', okp p) ∧ TX (q_L_isStep_592_T592_G1 a1 a2 fu 1 (nI m) G P 2 0) (rl l') ∧ TX (q_L_isStep_592_T592_P1 a1 a2 fu 1 (nI m) G P 2 0) (rl (l'.map flp)) ∧ KT (q_L_isStep_592_T592_G1 a1 a2 fu 1 (nI m) G P) G ∧ KT (q_L_isStep_592_T592_P1 a1 a2 fu 1 (nI m) G P) P
  | 0, m, _, _, _, h, _, _, _, _, _ => absurd h (Nat.not_lt_zero _)
  | fu + 1, m, G, P, l, h, hm, hl, ho, hG, hP => by
    unfold q_L_isStep_592_T592_is q_L_isStep_592_T592_G1 q_L_isStep_592_T592_P1
    rw [en]
    rcases Nat.lt_or_ge m n with q | q
    · rw [if_neg (nle_nI (by omega) q), if_neg (nle_nI (by omega) q), if_neg (nle_nI (by omega) q), nI_1]
      dsimp only
      have b1 := rl_len l ho
      have b2 := rl_len (l.map flp) (flp_all ho)
      rw [flp_len] at b2
      have key : ∃ A B, j_L_isStep_x640_s0 1 (nI m) G P = 1 ∧ j_L_isStep_G640 1 (nI m) G P = A ∧ j_L_isStep_P640 1 (nI m) G P = B ∧ TX (A 2 0) (if l.length = 0 then rl l else rl l ++ [44]) ∧ TX (B 2 0) (if (l.map flp).length = 0 then rl (l.map flp) else rl (l.map flp) ++ [44]) ∧ KT A G ∧ KT B P := by
        rcases Nat.eq_zero_or_pos m with e | e
        · subst e
          obtain ⟨e1, e2, e3⟩ := j640_0 G P
          rw [if_pos hl, if_pos (show (l.map flp).length = 0 by rw [flp_len]; exact hl)]
          exact ⟨G, P, e1, e2, e3, hG, hP, KT.rfl' G, KT.rfl' P⟩
        · obtain ⟨t1, t2, t3⟩ := type_at (a := 44) hG (by omega) (by decide)
          obtain ⟨u1, u2, u3⟩ := type_at (a := 44) hP (by omega) (by decide)
          obtain ⟨e1, e2, e3⟩ := j640_n (k := nI m) (nI_ne0 e (by omega)) t1 u1
          rw [if_neg (by omega), if_neg (by rw [flp_len]; omega)]
          exact ⟨_, _, e1, e2, e3, t2, u2, t3, u3⟩
      obtain ⟨A, B, e1, e2, e3, hA, hB, kA, kB⟩ := key
      rw [e1, e2, e3]
      have la : (if l.length = 0 then rl l else rl l ++ [44]).length + 5 ≤ 60 := by
        split
        · omega
        · rw [List.length_append, List.length_singleton]; omega
      have lb : (if (l.map flp).length = 0 then rl (l.map flp) else rl (l.map flp) ++ [44]).length + 5 ≤ 60 := by
        split
        · omega
        · rw [List.length_append, List.length_singleton]; omega
      obtain ⟨p, hp, x1, x2, x3, x4, x5⟩ := part_typed hA hB la lb a2 (nI m)
      rw [x1]
      rw [← rl_app] at x2
      rw [← rl_app, show l.map flp ++ [flp p] = (l ++ [p]).map flp by rw [List.map_append]; rfl] at x3
      obtain ⟨r1, l', r2, r3, r4, r5, r6, r7⟩ := text_typed hn en fu (m + 1) _ _ (l ++ [p]) (by omega) q (by rw [List.length_append, List.length_singleton, hl]) (fun z hz => (List.mem_append.mp hz).elim (ho z) (fun hz => by rw [List.mem_singleton.mp hz]; exact hp)) x2 x3
      exact ⟨r1, l', r2, r3, r4, r5, (kA.trans x4).trans r6, (kB.trans x5).trans r7⟩
    · rw [if_pos (le_nI (by omega) q (by omega)), if_pos (le_nI (by omega) q (by omega)), if_pos (le_nI (by omega) q (by omega))]
      exact ⟨rfl, l, by omega, ho, hG, hP, KT.rfl' G, KT.rfl' P⟩
