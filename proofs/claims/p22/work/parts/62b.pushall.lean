/-! what was typed is done, on both -/
theorem read_tx {T : CS} {s : List Nat} (h : TX T s) : TX (p_X3_read T) s := by
  obtain ⟨-, r2, -⟩ := read_at (L := s.length) h.1 30 0 0 (va_up T 0 (upd (upd (T 0) 4 0) 5 0)) h.2.1 rfl (Nat.zero_le _) rfl rfl
  have e1 : p_X3_read T 1 = T 1 := r2.2
  have e0 : p_X3_read T 0 1 = nI s.length := r2.1
  exact ⟨h.1, e0, fun i hi => by rw [e1]; exact h.2.2 i hi⟩
theorem vl_pair {p : Nat × Nat} (h : okp p) : (vl (flp p)).2 = (vl p).2 ∧ (((vl p).1 = -1 ∧ (vl (flp p)).1 = -1 ∧ ∃ j : Nat, j ≤ 99 ∧ (vl p).2 = nI j) ∨ (WD (vl p).1 (vl (flp p)).1 ∧ ∃ j : Nat, j ≤ 9 ∧ (vl p).2 = nI j)) := by
  unfold vl flp
  rcases h with ⟨h1, h2, h3⟩ | ⟨h1, h2, h3⟩
  · rw [if_pos h1, if_pos h1]
    exact ⟨rfl, Or.inl ⟨rfl, rfl, p.2, by omega, rfl⟩⟩
  · have a : ¬ p.1 = 100 := by omega
    have b : ¬ (99 - p.1) = 100 := by omega
    rw [if_neg a, if_neg a]
    dsimp only
    rw [if_neg b]
    exact ⟨rfl, Or.inr ⟨⟨p.1, h1, rfl, rfl⟩, p.2, by omega, rfl⟩⟩
theorem PL_l : ∀ (l : List (Nat × Nat)), (∀ p ∈ l, okp p) → PL (l.map vl) ((l.map flp).map vl)
  | [], _ => trivial
  | p :: l, h => ⟨vl_pair (h p (List.mem_cons_self ..)), PL_l l (fun q hq => h q (List.mem_cons_of_mem _ hq))⟩
theorem PL_len : ∀ (l r : List (Int32 × Int32)), PL l r → r.length = l.length
  | [], [], _ => rfl
  | [], _ :: _, h => h.elim
  | _ :: _, [], h => h.elim
  | (w, n) :: l, (v, m) :: r, h => by rw [List.length_cons, List.length_cons, PL_len l r h.2]
theorem words_eq {T U : CS} : ∀ (l r : List (Int32 × Int32)) (fu i s : Nat), PL l r → Arr T i l → Arr U i r → i ≤ 30 → l.length < fu → lr_X3_wordsInParts_4 U fu (nI s) (nI i) = lr_X3_wordsInParts_4 T fu (nI s) (nI i) ∧ ∃ m : Nat, lr_X3_wordsInParts_4 T fu (nI s) (nI i) = nI m ∧ m ≤ s + 99 * l.length
  | _, _, 0, _, _, _, _, _, _, h => absurd h (Nat.not_lt_zero _)
  | [], [], fu + 1, i, s, _, hT, hU, hi, _ => by
    unfold lr_X3_wordsInParts_4
    have e1 : T 0 4 ≤ nI i := by rw [show T 0 4 = nI i from hT]; exact nI_le (Nat.le_refl _) (by omega)
    have e2 : U 0 4 ≤ nI i := by rw [show U 0 4 = nI i from hU]; exact nI_le (Nat.le_refl _) (by omega)
    rw [if_pos e1, if_pos e2]
    exact ⟨rfl, s, rfl, by omega⟩
  | [], _ :: _, _, _, _, h, _, _, _, _ => h.elim
  | _ :: _, [], _, _, _, h, _, _, _, _ => h.elim
  | (w, n) :: l, (v, m) :: r, fu + 1, i, s, hp, hT, hU, hi, hl => by
    have hlen := PL_len _ _ hp
    obtain ⟨⟨rfl, hp1⟩, hp2⟩ := hp
    obtain ⟨l1, l2⟩ := Arr_len _ _ hi hT
    obtain ⟨l3, -⟩ := Arr_len _ _ hi hU
    obtain ⟨hi30, t2, t3, hT'⟩ := hT
    obtain ⟨-, u2, u3, hU'⟩ := hU
    rw [List.length_cons] at l1 l2 hl
    rw [List.length_cons, List.length_cons] at hlen
    rw [List.length_cons] at l3
    have e1 : ¬ T 0 4 ≤ nI i := by rw [l1]; exact nI_ge (by omega) (by omega)
    have e2 : ¬ U 0 4 ≤ nI i := by rw [l3]; exact nI_ge (by omega) (by omega)
    have v2 : r_X4_valueAt (T 2) (nI i) 30 = w := by rw [valueAt_in (by decide) hi30]; exact t2
    have v3 : r_X4_valueAt (T 3) (nI i) 30 = m := by rw [valueAt_in (by decide) hi30]; exact t3
    have v4 : r_X4_valueAt (U 2) (nI i) 30 = v := by rw [valueAt_in (by decide) hi30]; exact u2
    have v5 : r_X4_valueAt (U 3) (nI i) 30 = m := by rw [valueAt_in (by decide) hi30]; exact u3
    unfold lr_X3_wordsInParts_4
    rw [if_neg e1, if_neg e2, v2, v3, v4, v5, nI_1]
    dsimp only
    rcases hp1 with ⟨rfl, rfl, j, hj, rfl⟩ | ⟨hx, j, hj, rfl⟩
    · rw [if_pos rfl]
      obtain ⟨a1, q, a2, a3⟩ := words_eq l r fu (i + 1) s hp2 hT' hU' (by omega) (by omega)
      exact ⟨a1, q, a2, by rw [List.length_cons]; omega⟩
    · obtain ⟨z1, z2⟩ := WD_n1 hx
      rw [if_neg z1, if_neg z2, nI_add]
      obtain ⟨a1, q, a2, a3⟩ := words_eq l r fu (i + 1) (s + j) hp2 hT' hU' (by omega) (by omega)
      exact ⟨a1, q, a2, by rw [List.length_cons]; omega⟩
theorem fuel_n {n : Nat} (h : n < 2 ^ 31) : ((nI n).toInt - (0 : Int32).toInt).toNat + 1 = n + 1 := by
  rw [nI_toInt h, zero_toI]; omega
set_option maxHeartbeats 8000000 in
theorem RR_pushAll {G P : Nat → Nat → CS} {t : Nat} {l : List (Nat × Nat)} (hJ : J (G 0 0) (P 0 0) t) (hG : HI (G 1)) (hP : HI (P 1)) (tG : TX (G 2 0) (rl l)) (tP : TX (P 2 0) (rl (l.map flp))) (h0 : 0 < l.length) (h4 : l.length ≤ 4) (ho : ∀ p ∈ l, okp p) (ht : t + 400 < 2 ^ 29) :
    r_X4_pushAll P = r_X4_pushAll G ∧ (0 ≤ r_X4_pushAll G ∨ (r_X4_pushAll G = -3 ∧ p_X4_pushAll G 0 0 = G 0 0)) ∧ ∃ u, u ≤ t + 400 ∧ RR (p_X4_pushAll G) (p_X4_pushAll P) u := by
  obtain ⟨a1, a2, -⟩ := read_r tG h0 (by omega) ho
  obtain ⟨b1, b2, -⟩ := read_r tP (by rw [flp_len]; exact h0) (by rw [flp_len]; omega) (flp_all ho)
  have x1 := read_tx tG
  have x2 := read_tx tP
  have hp := PL_l l ho
  have e1 : (l.map vl).length = l.length := List.length_map ..
  have e2 : ((l.map flp).map vl).length = l.length := by rw [List.length_map, List.length_map]
  obtain ⟨c1, -⟩ := Arr_len _ _ (by decide) a2
  obtain ⟨c2, -⟩ := Arr_len _ _ (by decide) b2
  rw [e1, Nat.zero_add] at c1
  rw [e2, Nat.zero_add] at c2
  obtain ⟨f1, f2⟩ := follow_J (l.map vl) ((l.map flp).map vl) (l.length + 1) 0 _ _ t hp a2 b2 (by decide) (by rw [e1]; omega) (J_copy hJ (G 0 1) (P 0 1)) (by rw [e1]; omega)
  obtain ⟨w1, m, w2, w3⟩ := words_eq (l.map vl) ((l.map flp).map vl) (l.length + 1) 0 0 hp a2 b2 (by decide) (by rw [e1]; omega)
  have rf : r_X2_follow (p_X2_copy (G 0 1) (G 0 0)) (p_X3_read (G 2 0)) = lr_X2_follow_2 (p_X3_read (G 2 0)) (l.length + 1) (nI 0) (p_X2_copy (G 0 1) (G 0 0)) := by
    unfold r_X2_follow; rw [c1, fuel_n (by omega)]; rfl
  have rf' : r_X2_follow (p_X2_copy (P 0 1) (P 0 0)) (p_X3_read (P 2 0)) = lr_X2_follow_2 (p_X3_read (P 2 0)) (l.length + 1) (nI 0) (p_X2_copy (P 0 1) (P 0 0)) := by
    unfold r_X2_follow; rw [c2, fuel_n (by omega)]; rfl
  have pf : p_X2_follow (p_X2_copy (G 0 1) (G 0 0)) (p_X3_read (G 2 0)) = lp_X2_follow_2 (p_X3_read (G 2 0)) (l.length + 1) (nI 0) (p_X2_copy (G 0 1) (G 0 0)) := by
    unfold p_X2_follow; rw [c1, fuel_n (by omega)]; rfl
  have pf' : p_X2_follow (p_X2_copy (P 0 1) (P 0 0)) (p_X3_read (P 2 0)) = lp_X2_follow_2 (p_X3_read (P 2 0)) (l.length + 1) (nI 0) (p_X2_copy (P 0 1) (P 0 0)) := by
    unfold p_X2_follow; rw [c2, fuel_n (by omega)]; rfl
  have ww : r_X3_wordsInParts (p_X3_read (G 2 0)) = nI m := by
    unfold r_X3_wordsInParts; rw [c1, fuel_n (by omega)]; exact w2
  have ww' : r_X3_wordsInParts (p_X3_read (P 2 0)) = nI m := by
    unfold r_X3_wordsInParts; rw [c2, fuel_n (by omega)]; exact w1.trans w2
  unfold r_X4_pushAll p_X4_pushAll
  dsimp only
  rw [a1, b1, if_pos rfl, if_pos rfl, if_pos rfl, if_pos rfl, rf, rf', pf, pf', f1, ww, ww']
  rcases f2 with f2 | ⟨f2, u, hu, f3⟩
  · rw [f2, if_pos rfl, if_pos rfl, if_pos rfl]
    exact ⟨rfl, Or.inr ⟨rfl, rfl⟩, t, by omega, hJ, ⟨hG, _, x1⟩, ⟨hP, _, x2⟩⟩
  · rw [f2, if_neg z10, if_neg z10, if_neg z10]
    rw [e1] at hu w3
    refine ⟨rfl, Or.inl (nI_pos' (by omega)), u, by omega, J_copy f3 (G 0 0) (P 0 0), ⟨?_, rl l, ?_⟩, ⟨?_, rl (l.map flp), ?_⟩⟩
    · rw [va_up_n (by decide), va_up_s]; exact HI_add hG _
    · rw [va_up_s, va_up_s]; exact x1
    · rw [va_up_n (by decide), va_up_s]; exact HI_add hP _
    · rw [va_up_s, va_up_s]; exact x2
theorem clear_at {G : Nat → Nat → CS} (h : HG G) : ¬ r_X4_clearText G < 0 ∧ TX (p_X4_clearText G 2 0) (rl []) ∧ KT (p_X4_clearText G) G := by
  obtain ⟨-, s, hs⟩ := h
  refine ⟨?_, ⟨Nat.zero_le _, rfl, fun i hi => absurd hi (Nat.not_lt_zero _)⟩, rfl, rfl⟩
  show ¬ G 2 0 0 1 < 0
  rw [hs.2.1]
  exact nI_pos (by have := hs.1; omega)
theorem case558 {G P : Nat → Nat → CS} {t : Nat} (h : RR G P t) (ht : t + 400 < 2 ^ 29) (a1 a2 : Int32) : r_L_isStep_c558 G P a1 a2 = 1 ∧ ∃ u, u ≤ t + 400 ∧ RR (p_L_isStep_G_c558 G P a1 a2) (p_L_isStep_P_c558 G P a1 a2) u := by
  obtain ⟨j, hj, ej⟩ := up_n (a1 >>> ((4 : Int32) &&& (31 : Int32))) (d := 4) (by decide) (by decide)
  have en : (1 : Int32) + (r_L_up (a1 >>> ((4 : Int32) &&& (31 : Int32))) (4 : Int32)) = nI (j + 1) := by
    rw [show (4 : Int32) = nI 4 from rfl, show r_L_up (a1 >>> (nI 4 &&& (31 : Int32))) (nI 4) = nI j from ej, show (1 : Int32) = nI 1 from rfl, nI_add, Nat.add_comm]
  obtain ⟨c1, c2, c3⟩ := clear_at h.2.1
  obtain ⟨d1, d2, d3⟩ := clear_at h.2.2
  obtain ⟨y1, l, y2, y3, y4, y5, y6, y7⟩ := text_typed (n := j + 1) (by omega) (a2 := a2) en (j + 1 + 1) 0 _ _ [] (by omega) (Nat.zero_le _) rfl (fun p hp => absurd hp List.not_mem_nil) c2 d2
  unfold r_L_isStep_c558 p_L_isStep_G_c558 p_L_isStep_P_c558
  dsimp only
  rw [en, fuel_n (by omega), if_neg c1, if_neg d1, if_neg c1, if_neg d1]
  rw [show nI 0 = (0 : Int32) from rfl] at y1 y4 y5 y6 y7
  rw [y1]
  have k1 := c3.trans y6
  have k2 := d3.trans y7
  generalize q_L_isStep_592_T592_G1 a1 a2 (j + 1 + 1) 1 0 (p_X4_clearText G) (p_X4_clearText P) = A at *
  generalize q_L_isStep_592_T592_P1 a1 a2 (j + 1 + 1) 1 0 (p_X4_clearText G) (p_X4_clearText P) = B at *
  obtain ⟨r1, r2, u, hu, r3⟩ := RR_pushAll (G := A) (P := B) (t := t) (l := l) (by rw [k1.1, k2.1]; exact h.1) (by rw [k1.2]; exact h.2.1.1) (by rw [k2.2]; exact h.2.2.1) y4 y5 (by omega) (by omega) y3 ht
  unfold k592_r_L_isStep k592_p_L_isStep_G k592_p_L_isStep_P
  dsimp only
  rw [r1, if_neg z10, if_neg z10, if_neg z10, if_pos rfl]
  refine ⟨?_, u, hu, ?_⟩
  · by_cases c : (0 : Int32) ≤ r_X4_pushAll A
    · rw [if_pos c]
    · obtain ⟨e1, e2⟩ := r2.resolve_left c
      rw [if_neg c, if_pos e1, cnt_5, cnt_5, cnt_0, cnt_0, e2, k1.1, if_pos rfl, if_pos rfl]
  · simp only [ite_self]
    exact r3
