/-! the object and the reference -/
def RX (T M : CS) : Prop := ∃ L : Nat, L ≤ 60 ∧ T 0 1 = nI L ∧ M 0 8 = nI L ∧ ∀ i, i < L → T 1 i = M 6 i
def RB (G : Nat → Nat → CS) (M : CS) : Prop := (nb (G 0 3 0 3) = 0 ∧ M 0 6 = 0) ∨ (nb (G 0 3 0 3) = 1 ∧ M 0 6 = 1 ∧ ∃ k wc t u, RT (G 0 2) (M 5) k wc t u ∧ u ≤ 1000000)
def RG (G : Nat → Nat → CS) (M : CS) : Prop := (∃ k wc t u, RT (G 0 0) (M 1) k wc t u ∧ u ≤ 1000000) ∧ RH (G 1) M ∧ RB G M ∧ RX (G 2 0) M
theorem RG_now {G : Nat → Nat → CS} {M : CS} (h : RG G M) : ∃ k wc t, R (G 0 0) (M 1) k wc t := by
  obtain ⟨⟨k, wc, t, u, hT, -⟩, -⟩ := h
  exact ⟨k, wc, t, hT.1⟩
/-- the same object, a trial or a parse apart -/
theorem RG_same {G G' : Nat → Nat → CS} {M M' : CS} (h : RG G M) (g0 : G' 0 0 = G 0 0) (g2 : G' 0 2 = G 0 2) (g3 : G' 0 3 = G 0 3) (g1 : G' 1 = G 1) (gx : G' 2 0 0 1 = G 2 0 0 1) (gy : G' 2 0 1 = G 2 0 1)
    (m0 : ∀ j, j = 4 ∨ j = 6 ∨ j = 8 → M' 0 j = M 0 j) (m1 : ∀ j, j < 96 → M' 1 j = M 1 j) (m4 : M' 4 = M 4) (m5 : M' 5 = M 5) (m6 : M' 6 = M 6) : RG G' M' := by
  obtain ⟨⟨k, wc, t, u, hT, hu⟩, hH, hB, L, x1, x2, x3, x4⟩ := h
  refine ⟨⟨k, wc, t, u, ?_, hu⟩, ?_, ?_, L, x1, ?_, ?_, ?_⟩
  · rw [g0]; exact ⟨R_agreeA hT.1 m1, hT.2⟩
  · rw [g1]; exact RH_of hH (m0 4 (by decide)) m4
  · unfold RB
    rw [g3, g2, m0 6 (by decide), m5]; exact hB
  · rw [gx]; exact x2
  · rw [m0 8 (by decide)]; exact x3
  · intro i hi; rw [gy, m6]; exact x4 i hi
/-- an action: the class adds to its history before, the reference after -/
theorem RG_act {G : Nat → Nat → CS} {M Mx S' : CS} {k wc t u : Nat} (h : RG G M) (h2 : ∀ j, j < 96 → Mx 2 j = M 1 j) (hx : ∀ i, i ≠ 1 → i ≠ 2 → Mx i = M i) (hT : RT S' (Mx 1) k wc t u) (hu : u ≤ 1000000) (v : Int32) :
    RG (va_up (va_up G 0 (va_up (G 0) 0 S')) 1 (p_X0_add (G 1) (G 0 0))) (p_X5_acted Mx v) ∧ r_X5_acted Mx v = v := by
  obtain ⟨⟨k0, wc0, t0, u0, hT0, hu0⟩, hH, hB, L, x1, x2, x3, x4⟩ := h
  have hH' : RH (G 1) Mx := RH_of hH (by rw [hx 0 (by decide) (by decide)]) (hx 4 (by decide) (by decide))
  obtain ⟨y1, y2, y3, y4⟩ := RH_add hH' (S := G 0 0) ⟨R_agreeA hT0.1 h2, hT0.2⟩ hu0 v
  refine ⟨⟨⟨k, wc, t, u, ?_, hu⟩, ?_, ?_, L, x1, ?_, ?_, ?_⟩, y4⟩
  · rw [y2 1 (by decide) (by decide)]; exact hT
  · exact y1
  · unfold RB
    rw [show va_up (va_up G 0 (va_up (G 0) 0 S')) 1 (p_X0_add (G 1) (G 0 0)) 0 3 = G 0 3 from rfl, show va_up (va_up G 0 (va_up (G 0) 0 S')) 1 (p_X0_add (G 1) (G 0 0)) 0 2 = G 0 2 from rfl, y3 6 (by decide), y2 5 (by decide) (by decide), hx 0 (by decide) (by decide), hx 5 (by decide) (by decide)]; exact hB
  · exact x2
  · rw [y3 8 (by decide), hx 0 (by decide) (by decide)]; exact x3
  · intro i hi; rw [y2 6 (by decide) (by decide), hx 6 (by decide) (by decide)]; exact x4 i hi
theorem rem_1 (M : CS) : p_X5_remember M = va_up M 2 (p_X5_copy (M 1) (M 2)) := rfl
theorem rem_2 (M : CS) {j : Nat} (hj : j < 96) : p_X5_remember M 2 j = M 1 j := by rw [rem_1, va_up_s]; exact cp5_lt _ _ hj
/-! ranges -/
theorem in_w (a l h : Int32) : r_X5_in a.toInt64 l.toInt64 h.toInt64 = r_X4_isWithin a l h := by
  unfold r_X5_in r_X4_isWithin
  have c1 : (lg_cmp a.toInt64 l.toInt64 < 0) ↔ a < l := by rw [lg_cmp_lt, Int64.lt_iff_toInt_lt, Int32.lt_iff_toInt_lt, Int32.toInt_toInt64, Int32.toInt_toInt64]
  have c2 : (0 < lg_cmp a.toInt64 h.toInt64) ↔ h < a := by rw [lg_cmp_gt, Int64.lt_iff_toInt_lt, Int32.lt_iff_toInt_lt, Int32.toInt_toInt64, Int32.toInt_toInt64]
  by_cases d : a < l
  · rw [if_pos (c1.mpr d), if_pos d]
  · rw [if_neg (fun z => d (c1.mp z)), if_neg d]
    by_cases e : h < a
    · rw [if_pos (c2.mpr e), if_pos e]
    · rw [if_neg (fun z => e (c2.mp z)), if_neg e]
theorem within_nI {a : Int32} {lo hi : Nat} (hh : hi < 2 ^ 31) (h : ¬ r_X4_isWithin a (nI lo) (nI hi) = 0) (hl : lo ≤ hi) : ∃ n, lo ≤ n ∧ n ≤ hi ∧ a = nI n := by
  unfold r_X4_isWithin at h
  by_cases d : a < nI lo
  · rw [if_pos d] at h; exact absurd rfl h
  · rw [if_neg d] at h
    by_cases e : nI hi < a
    · rw [if_pos e] at h; exact absurd rfl h
    · have t1 := nI_toInt (n := lo) (by omega)
      have t2 := nI_toInt (n := hi) hh
      rw [Int32.lt_iff_toInt_lt, t1] at d
      rw [Int32.lt_iff_toInt_lt, t2] at e
      obtain ⟨j, hj, rfl⟩ := nI_of2 (x := a) (M := nI hi) (n := hi) t2 (by rw [Int32.lt_iff_toInt_lt, zero_toI]; omega) (by rw [Int32.le_iff_toInt_le, t2]; omega)
      rw [nI_toInt (by omega)] at d
      exact ⟨j, by omega, hj, rfl⟩
/-! the methods, one by one -/
theorem X_build {G : Nat → Nat → CS} {M : CS} (h : RG G M) (a1 : Int32) {a2 : Int32} (h2 : a2 = 0 ∨ a2 = 1) : r_X4_build G a1 a2 = r_X5_build M a1 a2 ∧ RG (p_X4_build G a1 a2) (p_X5_build M a1 a2) := by
  unfold r_X4_build r_X5_build p_X4_build p_X5_build
  rw [show (1 : Int64) = (1 : Int32).toInt64 by decide, show (4 : Int64) = (4 : Int32).toInt64 by decide, in_w]
  by_cases c : r_X4_isWithin a1 1 4 = 0
  · rw [if_pos c, if_pos c, if_pos c, if_pos c]; exact ⟨rfl, h⟩
  · rw [if_neg c, if_neg c, if_neg c, if_neg c]
    obtain ⟨k', hk1, hk2, rfl⟩ := within_nI (lo := 1) (hi := 4) (by decide) c (by decide)
    obtain ⟨⟨k, wc, t, u, hT, hu⟩, -⟩ := id h
    dsimp only
    have e2 : (if a2 = 0 then (0 : Int32) else 1) = a2 := by rcases h2 with rfl | rfl <;> rfl
    rw [e2]
    have hb := RT_build (M := p_X5_remember M) (k' := k') (g := a2) hT ⟨hk1, hk2⟩ h2
    have hx : ∀ i, i ≠ 1 → i ≠ 2 → p_X5_builds (p_X5_remember M) (nI k') a2 i = M i := fun i i1 i2 => by rw [builds_at, va_up_n i1, rem_1, va_up_n i2]
    have hy : ∀ j, j < 96 → p_X5_builds (p_X5_remember M) (nI k') a2 2 j = M 1 j := fun j hj => by rw [builds_at, va_up_n (by decide)]; exact rem_2 M hj
    obtain ⟨y1, y2⟩ := RG_act h hy hx hb hu (r_X5_depth (p_X5_builds (p_X5_remember M) (nI k') a2))
    refine ⟨?_, y1⟩
    rw [y2, (R_depth hb.1).1, (R_depth hb.1).2]
theorem X_pass {G : Nat → Nat → CS} {M : CS} (h : RG G M) (a1 : Int32) : r_X4_pass G a1 = r_X5_pass M a1 ∧ RG (p_X4_pass G a1) (p_X5_pass M a1) := by
  unfold r_X4_pass r_X5_pass p_X4_pass p_X5_pass
  rw [show (1 : Int64) = (1 : Int32).toInt64 by decide, show (500 : Int64) = (500 : Int32).toInt64 by decide, in_w]
  by_cases c : r_X4_isWithin a1 1 500 = 0
  · rw [if_pos c, if_pos c, if_pos c, if_pos c]; exact ⟨rfl, h⟩
  · rw [if_neg c, if_neg c, if_neg c, if_neg c]
    obtain ⟨a, ha1, ha2, rfl⟩ := within_nI (lo := 1) (hi := 500) (by decide) c (by decide)
    obtain ⟨⟨k, wc, t, u, hT, hu⟩, -⟩ := id h
    have e1 : M 1 2 = nI u := (R_t hT.1).trans hT.2.1
    have e2 : r_X2_hasTimeFor (G 0 0) (nI a) = 0 ↔ ¬ u + a ≤ 1000000 := by
      unfold r_X2_hasTimeFor
      rw [hT.2.1, nI_add, show (1000000 : Int32) = nI 1000000 from rfl]
      by_cases d : u + a ≤ 1000000
      · rw [if_neg (nI_nlt d (by decide))]; exact ⟨fun z => absurd z (by decide), fun z => absurd d z⟩
      · rw [if_pos (nI_lt (by omega) (by omega))]; exact ⟨fun _ => d, fun _ => rfl⟩
    have e3 : (M 1 2 + nI a) ≤ 1000000 ↔ u + a ≤ 1000000 := by
      rw [e1, nI_add, show (1000000 : Int32) = nI 1000000 from rfl]
      exact nI_leI (by omega) (by decide)
    by_cases d : u + a ≤ 1000000
    · rw [if_neg (fun z => e2.mp z d), if_neg (fun z => e2.mp z d), if_pos (e3.mpr d), if_pos (e3.mpr d)]
      dsimp only
      obtain ⟨wc', t', hp, -, hm⟩ := RT_pass (a := a) (by omega) (M := p_X5_remember M) hT (by omega)
      have hx : ∀ i, i ≠ 1 → i ≠ 2 → p_X5_passMany (p_X5_remember M) (nI a) i = M i := fun i i1 i2 => by rw [hm i i1, rem_1, va_up_n i2]
      have hy : ∀ j, j < 96 → p_X5_passMany (p_X5_remember M) (nI a) 2 j = M 1 j := fun j hj => by rw [hm 2 (by decide)]; exact rem_2 M hj
      obtain ⟨y1, y2⟩ := RG_act h hy hx hp d ((p_X5_passMany (p_X5_remember M) (nI a) 1 7) - (p_X5_remember M 1 7))
      refine ⟨?_, y1⟩
      have f1 := hp.1.2.2.1.2.2.2.2.2.2.2.2.2
      have f0 := hT.1.2.2.1.2.2.2.2.2.2.2.2.2
      rw [y2, f1.1, f1.2.1, show p_X5_remember M 1 7 = M 1 7 from rfl, f0.1, f0.2.1]
    · rw [if_pos (e2.mpr d), if_pos (e2.mpr d), if_neg (fun z => d (e3.mp z)), if_neg (fun z => d (e3.mp z))]; exact ⟨rfl, h⟩
theorem keepM_eq (M : CS) : p_X5_keep M = va_up (va_up M 0 (upd (M 0) 6 1)) 5 (p_X5_copy (M 1) (M 5)) := rfl
theorem keepG_eq (G : Nat → Nat → CS) : p_X4_keep G = va_up G 0 (va_up (va_up (G 0) 2 (p_X2_copy (G 0 2) (G 0 0))) 3 (va_up ((G 0) 3) 0 (upd (((G 0) 3) 0) 3 (1 : Int32)))) := rfl
theorem X_keep {G : Nat → Nat → CS} {M : CS} (h : RG G M) : r_X4_keep G = r_X5_keep M ∧ RG (p_X4_keep G) (p_X5_keep M) := by
  obtain ⟨⟨k, wc, t, u, hT, hu⟩, hH, hB, L, x1, x2, x3, x4⟩ := id h
  have e1 : r_X4_keep G = G 0 0 0 2 := rfl
  have e2 : r_X5_keep M = M 1 2 := rfl
  rw [e1, e2, keepM_eq, keepG_eq]
  have hz : ∀ j, j < 96 → p_X5_copy (M 1) (M 5) j = M 1 j := fun j hj => cp5_lt _ _ hj
  have hc := copy_se (G 0 2) (G 0 0)
  generalize p_X5_copy (M 1) (M 5) = z at hz
  generalize p_X2_copy (G 0 2) (G 0 0) = S' at hc
  exact ⟨(R_t hT.1).symm, ⟨k, wc, t, u, hT, hu⟩, RH_of hH rfl rfl, Or.inr ⟨by show nb 1 = 1; exact nb_1, rfl, k, wc, t, u, RT_se ⟨R_agreeA hT.1 hz, hT.2⟩ hc, hu⟩, L, x1, x2, x3, x4⟩
theorem X_restore {G : Nat → Nat → CS} {M : CS} (h : RG G M) : r_X4_restore G = r_X5_restore M ∧ RG (p_X4_restore G) (p_X5_restore M) := by
  unfold r_X4_restore r_X5_restore p_X4_restore p_X5_restore
  rcases h.2.2.1 with ⟨b1, b2⟩ | ⟨b1, b2, k, wc, t, u, hT, hu⟩
  · rw [if_pos b1, if_pos b1, if_pos b2, if_pos b2]; exact ⟨rfl, h⟩
  · have n1 : ¬ nb (G 0 3 0 3) = 0 := by rw [b1]; decide
    have n2 : ¬ M 0 6 = 0 := by rw [b2]; decide
    rw [if_neg n1, if_neg n1, if_neg n2, if_neg n2]
    dsimp only
    have e5 : p_X5_remember M 5 = M 5 := by rw [rem_1, va_up_n (by decide)]
    rw [e5]
    have hz : ∀ j, j < 96 → p_X5_copy (M 5) (p_X5_remember M 1) j = M 5 j := fun j hj => cp5_lt _ _ hj
    have hc := copy_se (G 0 0) (G 0 2)
    generalize p_X5_copy (M 5) (p_X5_remember M 1) = z at hz
    generalize p_X2_copy (G 0 0) (G 0 2) = S' at hc
    have hb : RT S' z k wc t u := RT_se ⟨R_agreeA hT.1 hz, hT.2⟩ hc
    obtain ⟨y1, y2⟩ := RG_act (S' := S') (Mx := va_up (p_X5_remember M) 1 z) h (fun j hj => by rw [va_up_n (by decide)]; exact rem_2 M hj) (fun i i1 i2 => by rw [va_up_n i1, rem_1, va_up_n i2]) (by rw [va_up_s]; exact hb) hu (z 2)
    refine ⟨?_, y1⟩
    rw [y2]; exact (hb.1.2.2.1.2.2.2.1).symm
theorem X_undo {G : Nat → Nat → CS} {M : CS} (h : RG G M) : r_X4_undo G = r_X5_undo M ∧ RG (p_X4_undo G) (p_X5_undo M) := by
  obtain ⟨⟨k, wc, t, u, hT, hu⟩, ⟨o, n, a1, a2, a3, a4, a5, a6⟩, hB, hX⟩ := id h
  unfold r_X4_undo r_X5_undo p_X4_undo p_X5_undo
  rcases Nat.eq_zero_or_pos n with z | z
  · subst z
    obtain ⟨l1, l2, l3⟩ := latest_0 (S := G 0 0) a4
    rw [l1, l2, l3]
    dsimp only
    have e0 : M 0 4 = 0 := a5
    rw [if_pos e0, if_pos e0, if_pos rfl, if_pos rfl]
    refine ⟨rfl, RG_same h rfl rfl rfl rfl rfl rfl (fun _ _ => rfl) (fun _ _ => rfl) rfl rfl rfl⟩
  · obtain ⟨m, rfl⟩ : ∃ m, n = m + 1 := ⟨n - 1, by omega⟩
    obtain ⟨l1, l2, l3⟩ := latest_n (S := G 0 0) (n := m) a1 (by omega) a3 a4
    have q : ¬ M 0 4 = 0 := by rw [a5]; exact nI_ne0 (by omega) (by omega)
    have e4 : M 0 4 - 1 = nI m := by rw [a5]; exact nI_pred m
    have U := u22_at (M := M) (c := m) (by omega) e4 (((96 : Int32).toInt - (0 : Int32).toInt).toNat + 1) 0 (M 1) (by decide) (by decide)
    rw [show nI 0 = (0 : Int32) from rfl] at U
    rw [l1, l2, l3]
    dsimp only
    rw [if_neg (show ¬ (1 : Int32) = 0 by decide), if_neg (show ¬ (1 : Int32) = 0 by decide), if_neg q, if_neg q]
    rw [U, e4]
    refine ⟨rfl, ?_, ⟨o, m, a1, by omega, ?_, rfl, rfl, fun i hi => ?_⟩, hB, hX⟩
    · obtain ⟨k1, wc1, t1, u1, b1, b2⟩ := a6 m (by omega)
      refine ⟨k1, wc1, t1, u1, RT_se ⟨R_agreeA b1.1 (fun j hj => ?_), b1.2⟩ (copy_se _ _), b2⟩
      rw [va_up_s, if_pos ⟨Nat.zero_le _, hj⟩]
    · exact a3
    · obtain ⟨k1, wc1, t1, u1, b1, b2⟩ := a6 i (by omega)
      refine ⟨k1, wc1, t1, u1, ?_, b2⟩
      have e : (va_up (va_up G 0 (va_up (G 0) 0 (p_X2_copy (G 0 0) (G 1 ((o + m) % 4))))) 1 (va_up (G 1) 4 (va_up (G 1 4) 0 (upd (G 1 4 0) 2 (nI m))))) 1 ((o + i) % 4) = G 1 ((o + i) % 4) := by
        rw [va_up_s, va_up_n (by omega)]
      rw [e]
      exact b1
