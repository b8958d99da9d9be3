/-! the law's steps, one by one -/
theorem fill_v {G P : Nat → Nat → CS} {k t wc Q T : Nat} (h : JJ (G 0 0) (P 0 0) k t wc Q T) : r_X4_count G 4 = nI ((Q % 2 ^ (k + 1) + 2 ^ (k + 1) - T % 2 ^ (k + 1)) % 2 ^ (k + 1)) := by
  have n0 := h.1.2.2.2.2.2.1.1
  have q1 := h.1.2.2.2.2.2.2.2.2.1.1
  have q2 := h.1.2.2.2.2.2.2.2.2.2.1.1
  rw [cnt_4, around2 n0, q1, q2]
  exact chk4 h.1.1 ml ml
theorem s01 {s : Nat} (h : s < 2) : s = 0 ∨ s = 1 := by omega
theorem sd_0 (G : Nat → Nat → CS) {s : Nat} (hs : s = 0 ∨ s = 1) : r_X4_side G (nI s) 0 = G 0 0 (s + 1) 0 := by
  rcases hs with rfl | rfl
  · exact sd0_0 G
  · exact sd1_0 G
theorem sd_1 (G : Nat → Nat → CS) {s : Nat} (hs : s = 0 ∨ s = 1) : r_X4_side G (nI s) 1 = G 0 0 (s + 1) 1 := by
  rcases hs with rfl | rfl
  · exact sd0_1 G
  · exact sd1_1 G
theorem sd_11 (G : Nat → Nat → CS) {s : Nat} (hs : s = 0 ∨ s = 1) : r_X4_side G (nI s) 11 = r_X1_timesToTick (G 0 0 (s + 1)) (G 0 0 0 2) := by
  rcases hs with rfl | rfl
  · exact sd0_11 G
  · exact sd1_11 G
theorem case88 {G P : Nat → Nat → CS} {t : Nat} (h : RR G P t) (a1 a2 : Int32) : r_L_isStep_c88 G P a1 a2 = 1 ∧ RR (p_L_isStep_G_c88 G P a1 a2) (p_L_isStep_P_c88 G P a1 a2) t := by
  obtain ⟨j, hj, ej⟩ : ∃ j, j < 4 ∧ r_L_up (a1 >>> ((4 : Int32) &&& (31 : Int32))) (4 : Int32) = nI j := up_n _ (d := 4) (by decide) (by decide)
  have e1 : (1 : Int32) + nI j = nI (j + 1) := by rw [show (1 : Int32) = nI 1 from rfl, nI_add, Nat.add_comm]
  unfold r_L_isStep_c88 p_L_isStep_G_c88 p_L_isStep_P_c88
  generalize (if (r_L_up a2 (3 : Int32)) ≤ (0 : Int32) then (0 : Int32) else (1 : Int32)) = g
  rw [ej, e1]
  dsimp only
  by_cases c : (r_L_up (a2 >>> ((3 : Int32) &&& (31 : Int32))) (3 : Int32)) ≤ (0 : Int32)
  · have hk : 1 ≤ j + 1 ∧ j + 1 ≤ 4 := by omega
    obtain ⟨b1, b2⟩ := build_at G hk g
    obtain ⟨d1, d2⟩ := build_at P hk g
    have hJ := JJ_build (g := g) h.1 hk
    rw [if_pos c, if_pos c, if_pos c, b1, d1, b2, d2]
    obtain ⟨k0, wc0, Q0, T0, h0⟩ := id h.1
    obtain ⟨v0, -⟩ := J_vals h0
    generalize (va_up (p_X2_emptyRing (G 0 0) (nI (j + 1)) g) 0 (upd (p_X2_emptyRing (G 0 0) (nI (j + 1)) g 0) 10 0)) = E at *
    generalize (va_up (p_X2_emptyRing (P 0 0) (nI (j + 1)) g) 0 (upd (p_X2_emptyRing (P 0 0) (nI (j + 1)) g 0) 10 0)) = F at *
    have hJ' : JJ (act G E 0 0) (act P F 0 0) (j + 1) t 0 0 0 := hJ
    have f4 := fill_v hJ'
    rw [Nat.zero_mod, Nat.zero_add, Nat.sub_zero, Nat.mod_self] at f4
    obtain ⟨w0, -, -, w5, -⟩ := J_vals hJ'
    have dn := (doneIn_v hJ').2.mpr ⟨rfl, rfl⟩
    have eD : dpt (j + 1) = (1 : Int32) <<< (nI (j + 1) &&& (31 : Int32)) := rfl
    rw [if_pos eD, if_pos eD, if_pos eD, if_pos eD, if_pos eD, if_pos eD, f4, w5, w0, v0, dn, if_pos (show nI 0 = 0 from rfl), if_pos (show nI 0 = 0 from rfl), if_pos rfl, if_pos rfl]
    rw [if_pos (show nI 0 = 0 from rfl), if_pos (show nI 0 = 0 from rfl), if_pos rfl, if_pos rfl, if_pos (show nI 0 = 0 from rfl), if_pos (show nI 0 = 0 from rfl), if_pos rfl, if_pos rfl]
    exact ⟨rfl, RR_done (RR_act h ⟨_, _, _, _, hJ⟩)⟩
  · rw [if_neg c, if_neg c, if_neg c]
    exact ⟨rfl, h⟩
theorem case194 {G P : Nat → Nat → CS} {t : Nat} (h : RR G P t) (a1 a2 : Int32) : r_L_isStep_c194 G P a1 a2 = 1 ∧ RR (p_L_isStep_G_c194 G P a1 a2) (p_L_isStep_P_c194 G P a1 a2) t := by
  obtain ⟨s, hs, es⟩ : ∃ j, j < 2 ∧ r_L_up (a1 >>> ((4 : Int32) &&& (31 : Int32))) (2 : Int32) = nI j := up_n _ (d := 2) (by decide) (by decide)
  obtain ⟨f, hf, ef⟩ : ∃ j, j < 50 ∧ r_L_up (a2 >>> ((9 : Int32) &&& (31 : Int32))) (50 : Int32) = nI j := up_n _ (d := 50) (by decide) (by decide)
  have eq : ∃ q, q < 50 ∧ r_L_up a2 (if (r_L_up ((a1 >>> ((4 : Int32) &&& (31 : Int32))) >>> ((1 : Int32) &&& (31 : Int32))) (2 : Int32)) = (0 : Int32) then (50 : Int32) else (7 : Int32)) = nI q := by
    split
    · exact up_n _ (d := 50) (by decide) (by decide)
    · obtain ⟨q, hq, e⟩ := up_n a2 (d := 7) (by decide) (by decide)
      exact ⟨q, by omega, e⟩
  obtain ⟨q, hq, eq⟩ := eq
  have e1 : (1 : Int32) + nI q = nI (q + 1) := by rw [show (1 : Int32) = nI 1 from rfl, nI_add, Nat.add_comm]
  have hs' := s01 hs
  unfold r_L_isStep_c194 p_L_isStep_G_c194 p_L_isStep_P_c194
  dsimp only
  rw [es, ef, eq, e1, pk_rem (by omega) (by omega) (by omega), sd_0 G hs', sd_1 G hs']
  obtain ⟨r1, r2, r3⟩ := RR_clock (s := s) (p := q + 1) (f := f) h hs' (by omega) (by omega) (by omega)
  have e307 : r_X4_setClock G (nI s) (nI (q + 1)) (nI f) = (if (if G 0 0 (s + 1) 0 = nI (q + 1) then (if G 0 0 (s + 1) 1 = nI f then (1 : Int32) else 0) else 0) = (0 : Int32) then G 0 0 (s + 1) 0 else (-5 : Int32)) := by
    rw [r1]
    by_cases A : G 0 0 (s + 1) 0 = nI (q + 1)
    · by_cases B : G 0 0 (s + 1) 1 = nI f
      · rw [if_pos ⟨A, B⟩, if_pos A, if_pos B, if_neg (show ¬ (1 : Int32) = 0 by decide)]
      · rw [if_neg (fun z => B z.2), if_pos A, if_neg B, if_pos rfl]
    · rw [if_neg (fun z => A z.1), if_neg A, if_pos rfl]
  obtain ⟨k0, wc0, Q0, T0, h0⟩ := id r3.1
  have e11 : r_X4_side (p_X4_setClock G (nI s) (nI (q + 1)) (nI f)) (nI s) 11 = r_X4_side (p_X4_setClock P (nI s) (nI (q + 1)) (nI (f % (q + 1)))) (nI s) 11 := (side_eq h0 _ (by decide)).symm
  rw [if_pos e307]
  have z5 : p_X4_setClock G (nI s) (nI (q + 1)) (nI f) = p_X4_setClock G (nI s) (nI (q + 1)) (nI f) := rfl
  refine ⟨?_, ?_⟩
  · by_cases c : r_X4_setClock P (nI s) (nI (q + 1)) (nI (f % (q + 1))) = G 0 0 (s + 1) 0
    · rw [if_pos c, if_pos e11]
    · rw [if_neg c, if_pos (r2.resolve_left c), if_pos e11]
  · simp only [ite_self]
    exact r3
theorem nb_z {g : Int32} (h : g = 0 ∨ g = 1) : (nb g = 0 ↔ g = 0) := by
  rcases h with rfl | rfl
  · exact ⟨fun _ => rfl, fun _ => by decide⟩
  · exact ⟨fun z => absurd z (by decide), fun z => absurd z (by decide)⟩
theorem case349 {G P : Nat → Nat → CS} {t : Nat} (h : RR G P t) (a1 a2 : Int32) : r_L_isStep_c349 G P a1 a2 = 1 ∧ RR (p_L_isStep_G_c349 G P a1 a2) (p_L_isStep_P_c349 G P a1 a2) t := by
  obtain ⟨s, hs, es⟩ : ∃ j, j < 2 ∧ r_L_up (a1 >>> ((4 : Int32) &&& (31 : Int32))) (2 : Int32) = nI j := up_n _ (d := 2) (by decide) (by decide)
  have hs' := s01 hs
  unfold r_L_isStep_c349 p_L_isStep_G_c349 p_L_isStep_P_c349
  have hg : (if (r_L_up a2 (4 : Int32)) ≤ (0 : Int32) then (0 : Int32) else (1 : Int32)) = 0 ∨ (if (r_L_up a2 (4 : Int32)) ≤ (0 : Int32) then (0 : Int32) else (1 : Int32)) = 1 := by
    split
    · exact Or.inl rfl
    · exact Or.inr rfl
  generalize (if (r_L_up a2 (4 : Int32)) ≤ (0 : Int32) then (0 : Int32) else (1 : Int32)) = g at hg ⊢
  dsimp only
  rw [es]
  obtain ⟨r1, r2, r3, r4⟩ := RR_start (s := s) (g := g) h hs'
  obtain ⟨k0, wc0, Q0, T0, h0⟩ := id h.1
  obtain ⟨v0, -⟩ := J_vals h0
  obtain ⟨ck, -⟩ := J_ck r3.1 (show s + 1 = 1 ∨ s + 1 = 2 by omega)
  obtain ⟨n1, -, n3⟩ := J_time r3.1
  have e11 : (if r_X4_side (p_X4_start G (nI s) g) (nI s) 11 = (-5 : Int32) then (1 : Int32) else 0) = (if g = (0 : Int32) then (1 : Int32) else 0) := by
    rw [sd_11 _ hs', n1]
    have q := times_v ck n3
    rw [r4] at q
    by_cases c : g = 0
    · rw [if_pos c, if_pos (q.mpr ((nb_z hg).mpr c))]
    · rw [if_neg c, if_neg (fun z => c ((nb_z hg).mp (q.mp z)))]
  refine ⟨?_, ?_⟩
  · rw [r1, if_pos rfl, e11, if_pos rfl]
    rcases r2 with e | e
    · rw [if_pos e]
    · by_cases c : r_X4_start G (nI s) g = (-5 : Int32)
      · rw [if_pos c]
      · rw [if_neg c, v0, if_pos e]
  · simp only [ite_self]
    exact r3
theorem case438 {G P : Nat → Nat → CS} {t : Nat} (h : RR G P t) (a1 a2 : Int32) : r_L_isStep_c438 G P a1 a2 = 1 ∧ RR (p_L_isStep_G_c438 G P a1 a2) (p_L_isStep_P_c438 G P a1 a2) t := by
  obtain ⟨s, hs, es⟩ : ∃ j, j < 2 ∧ r_L_up (a1 >>> ((4 : Int32) &&& (31 : Int32))) (2 : Int32) = nI j := up_n _ (d := 2) (by decide) (by decide)
  obtain ⟨v, hv, ev⟩ : ∃ j, j < 16 ∧ r_L_up a2 (16 : Int32) = nI j := up_n _ (d := 16) (by decide) (by decide)
  have hs' := s01 hs
  unfold r_L_isStep_c438 p_L_isStep_G_c438 p_L_isStep_P_c438
  dsimp only
  rw [es, ev]
  obtain ⟨r1, r2, r3⟩ := RR_set (s := s) (v := v) h hs' (by omega)
  have e : r_X4_count (p_X4_set G (nI s) (nI v)) ((10 : Int32) + nI s) = nI v := by
    rcases hs' with rfl | rfl
    · rw [show (10 : Int32) + nI 0 = 10 by decide, cnt_10]; exact r3
    · rw [show (10 : Int32) + nI 1 = 11 by decide, cnt_11]; exact r3
  refine ⟨?_, ?_⟩
  · rw [r1, if_pos rfl, if_pos e]
  · simp only [ite_self]
    exact r2
theorem case485 {G P : Nat → Nat → CS} {t : Nat} (h : RR G P t) (a1 a2 : Int32) : r_L_isStep_c485 G P a1 a2 = 1 ∧ RR (p_L_isStep_G_c485 G P a1 a2) (p_L_isStep_P_c485 G P a1 a2) t := by
  obtain ⟨w, hw, ew⟩ : ∃ j, j < 100 ∧ r_L_up a2 (100 : Int32) = nI j := up_n _ (d := 100) (by decide) (by decide)
  have e99 : (99 : Int32) - nI w = nI (99 - w) := by rw [show (99 : Int32) = nI 99 from rfl, pk_sub (by omega)]
  unfold r_L_isStep_c485 p_L_isStep_G_c485 p_L_isStep_P_c485
  dsimp only
  rw [ew, e99]
  obtain ⟨wc, n10, hwc, r1, r2, r3⟩ := RR_push (w := w) h (by omega)
  refine ⟨?_, ?_⟩
  · rw [r1, if_pos rfl, cnt_5, n10]
    rcases r3 with ⟨a, b⟩ | ⟨a, b, b10, b5⟩
    · subst a
      rw [if_pos (show nI 20 = 20 from rfl), if_pos b]
    · have c : ¬ nI wc = 20 := fun z => absurd ((nI_eq (a := wc) (b := 20) (by omega) (by decide)).mp z) (by omega)
      rw [if_neg c, b, nI_1, if_pos rfl, waiting_at b10 (by omega) (by omega), if_pos (show wc < wc + 1 by omega), if_pos b5]
  · simp only [ite_self]
    exact r2
theorem case875 {G P : Nat → Nat → CS} {t : Nat} (h : RR G P t) (ht : t ≤ 900000) (a1 a2 : Int32) : r_L_isStep_c875 G P a1 a2 = 1 ∧ ∃ u, u ≤ t + 500 ∧ RR (p_L_isStep_G_c875 G P a1 a2) (p_L_isStep_P_c875 G P a1 a2) u := by
  have eq : ∃ q, q < 500 ∧ r_L_up a2 (if (r_L_up (a1 >>> ((4 : Int32) &&& (31 : Int32))) (4 : Int32)) = (0 : Int32) then (500 : Int32) else (40 : Int32)) = nI q := by
    split
    · exact up_n _ (d := 500) (by decide) (by decide)
    · obtain ⟨q, hq, e⟩ := up_n a2 (d := 40) (by decide) (by decide)
      exact ⟨q, by omega, e⟩
  obtain ⟨q, hq, eq⟩ := eq
  have e1 : (1 : Int32) + nI q = nI (q + 1) := by rw [show (1 : Int32) = nI 1 from rfl, nI_add, Nat.add_comm]
  unfold r_L_isStep_c875 p_L_isStep_G_c875 p_L_isStep_P_c875
  dsimp only
  rw [eq, e1]
  obtain ⟨r1, r2, r3⟩ := RR_pass (n := q + 1) h (by omega) (by omega) (by omega)
  obtain ⟨n1, -, -⟩ := J_time h.1
  obtain ⟨m1, -, -⟩ := J_time r2.1
  refine ⟨?_, t + (q + 1), by omega, ?_⟩
  · rw [r1, if_pos rfl, cnt_7, cnt_7, cnt_0, cnt_0, if_pos r3, n1, m1, nI_add, if_pos rfl]
  · simp only [ite_self]
    exact r2
