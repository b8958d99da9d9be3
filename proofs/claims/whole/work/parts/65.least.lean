/-! how deep a ring has to be -/
theorem q24_at {wc : Nat} (hw : wc ≤ 20) : ∀ (fu i : Nat) (M : CS), M 1 5 = nI i → M 3 5 = nI wc → wc - i < fu → i ≤ wc →
    q_X5_isEnough_24 fu (nI i) M = va_up M 1 (fun j => if 27 + i ≤ j ∧ j < 27 + wc then M 3 j else if j = 5 then nI wc else M 1 j)
  | 0, i, M, _, _, h, _ => absurd h (Nat.not_lt_zero _)
  | fu + 1, i, M, h1, h3, hf, hi => by
    unfold q_X5_isEnough_24
    rw [h3]
    rcases Nat.lt_or_ge i wc with q | q
    · rw [if_neg (nle_nI (by omega) q), show (27 : Int32) = nI 27 from rfl, nI_add, nI_clamp (by omega), nI_1, waits_at h1 (by omega)]
      dsimp only
      rw [q24_at hw fu (i + 1) _ (by rw [va_up_s, fu_s]) (by rw [va_up_n (by decide)]; exact h3) (by omega) q, upup]
      refine congrArg (va_up M 1) (funext fun j => ?_)
      rw [va_up_n (by decide), va_up_s]
      by_cases c : 27 + (i + 1) ≤ j ∧ j < 27 + wc
      · rw [if_pos c, if_pos (by omega)]
      · rw [if_neg c]
        by_cases d : j = 5
        · rw [if_pos d, if_neg (by omega), if_pos d]
        · rw [if_neg d, fu_n d]
          by_cases e : j = 27 + i
          · subst e; rw [fu_s, if_pos (by omega)]
          · rw [fu_n e, if_neg (by omega), if_neg d]
    · obtain rfl : i = wc := by omega
      rw [if_pos (le_nI (by omega) q (by omega))]
      funext z
      by_cases e : z = 1
      · subst e
        rw [va_up_s]
        funext j
        rw [if_neg (by omega)]
        by_cases d : j = 5
        · subst d; rw [if_pos rfl]; exact h1
        · rw [if_neg d]
      · rw [va_up_n e]
/-- a ring tried: the class's loop and the reference's -/
theorem lst_loop {n : Nat} (hn : n ≤ 500) {k : Nat} : ∀ (fu i : Nat) (S M : CS) (wc t u : Nat), RT S (M 1) k wc t u → n - i < fu → i ≤ n → u + (n - i) < 2 ^ 31 →
    lr_X5_isEnough_58 (nI n) fu 1 (nI i) M = (if lr_X2_stallsWithin_2 (nI n) fu (nI i) S = 0 then 1 else 0) ∧ (∀ z, z ≠ 1 → lp_X5_isEnough_58 (nI n) fu 1 (nI i) M z = M z)
  | 0, i, S, M, wc, t, u, _, h, _, _ => absurd h (Nat.not_lt_zero _)
  | fu + 1, i, S, M, wc, t, u, h, hf, hi, hu => by
    unfold lr_X5_isEnough_58 lp_X5_isEnough_58 lr_X2_stallsWithin_2
    rcases Nat.lt_or_ge i n with q | q
    · rw [if_neg (nle_nI (by omega) q), if_neg (nle_nI (by omega) q), if_neg (nle_nI (by omega) q), if_neg (show ¬ (1 : Int32) = 0 by decide), if_neg (show ¬ (1 : Int32) = 0 by decide), nI_1]
      obtain ⟨wc1, t1, h1, l1, m1⟩ := RT_step h (by omega)
      obtain ⟨g1, g2⟩ := lst_loop hn fu (i + 1) _ _ wc1 t1 (u + 1) h1 (by omega) (by omega) (by omega)
      have e5 : M 1 5 = S 0 10 := h.1.2.2.1.2.2.2.2.2.2.2.1.trans h.1.2.2.1.2.2.2.2.2.2.1.symm
      have G2 : ∀ z, z ≠ 1 → lp_X5_isEnough_58 (nI n) fu 1 (nI (i + 1)) (p_X5_passes M) z = M z := fun z hz => (g2 z hz).trans (m1 z hz)
      have G0 : ∀ z, z ≠ 1 → lp_X5_isEnough_58 (nI n) fu 0 (nI (i + 1)) (p_X5_passes M) z = M z := by
        intro z hz
        cases fu with
        | zero => exact m1 z hz
        | succ f =>
          unfold lp_X5_isEnough_58
          rw [if_pos rfl, ite_self]; exact m1 z hz
      have E0 : lr_X5_isEnough_58 (nI n) fu 0 (nI (i + 1)) (p_X5_passes M) = 0 := by
        cases fu with
        | zero => rfl
        | succ f =>
          unfold lr_X5_isEnough_58
          rw [if_pos rfl, ite_self]
      have P : r_X5_passes M = if wtS S = 0 then 0 else if S 0 10 ≤ 0 then 0 else if r_X2_seemsFull S = 0 then 0 else 1 := by
        rw [passr_eq, R_wt h.1, R_wa h.1, e5]
        unfold waS
        rw [t1_full]
        by_cases c : wtS S = 0
        · rw [if_pos c, if_pos c]
        · rw [if_neg c, if_neg c, if_neg c]
          by_cases d : S 0 10 ≤ 0
          · rw [if_pos d, if_pos d, if_pos rfl, if_pos d]
          · rw [if_neg d, if_neg d, if_neg d]
            by_cases e : r_X2_seemsFull S = 0
            · rw [if_pos e, if_pos e, if_neg (show ¬ (1 : Int32) = 0 by decide)]
            · rw [if_neg e, if_neg e, if_pos rfl]
      dsimp only
      rw [P, show r_X1_ticksAt (S 1) (S 0 2 + 1) = wtS S from rfl]
      by_cases c : wtS S = 0
      · rw [if_pos c, if_pos c, if_pos rfl]; exact ⟨g1, G2⟩
      · rw [if_neg c, if_neg c]
        by_cases d : S 0 10 ≤ 0
        · rw [if_pos d, if_pos d, if_pos rfl]; exact ⟨g1, G2⟩
        · rw [if_neg d, if_neg d]
          by_cases e : r_X2_seemsFull S = 0
          · rw [if_pos e, if_pos e, if_pos rfl]; exact ⟨g1, G2⟩
          · rw [if_neg e, if_neg e, if_neg (show ¬ (1 : Int32) = 0 by decide)]; exact ⟨E0, G0⟩
    · rw [if_pos (le_nI (by omega) q (by omega)), if_pos (le_nI (by omega) q (by omega)), if_pos (le_nI (by omega) q (by omega)), if_pos rfl]
      exact ⟨rfl, fun _ _ => rfl⟩
/-- one depth tried -/
theorem lst_one {S M Z : CS} {k wc t u k' n : Nat} (h : RT S (M 3) k wc t u) (hu : u ≤ 1000000) (hk' : 1 ≤ k' ∧ k' ≤ 4) (hn : n ≤ 500) :
    r_X5_isEnough M (nI k') (nI n) = (if r_X2_stallsWithin (p_X2_emptyRing (p_X2_copy Z S) (nI k') (S 0 1)) (nI n) = 0 then 1 else 0) ∧ (∀ z, z ≠ 1 → p_X5_isEnough M (nI k') (nI n) z = M z) := by
  have hS := RT_se h (copy_se Z S)
  generalize p_X2_copy Z S = S' at hS
  have n5 : M 3 5 = nI wc := h.1.2.2.1.2.2.2.2.2.2.2.1
  have hw : wc ≤ 20 := h.1.2.1
  have n1 : M 3 1 = nb (S 0 1) := h.1.2.2.1.2.2.1
  have hb := builds_at (va_up M 1 (p_X5_copy (M 3) (M 1))) (nI k') (M 3 1)
  rw [up1, upup] at hb
  have hz : ∀ j, j < 96 → p_X5_copy (M 3) (M 1) j = M 3 j := fun j hj => cp5_lt _ _ hj
  unfold r_X5_isEnough p_X5_isEnough r_X2_stallsWithin
  dsimp only
  rw [hb]
  generalize p_X5_copy (M 3) (M 1) = z at hz
  have Q := q24_at hw 21 0 (va_up M 1 (bld z (nI k') (M 3 1))) (by rw [va_up_s]; exact bld_z (by omega)) (by rw [va_up_n (by decide)]; exact n5) (by omega) (Nat.zero_le _)
  rw [show nI 0 = (0 : Int32) from rfl, upup, va_up_n (show (3 : Nat) ≠ 1 by decide), va_up_s] at Q
  rw [Q]
  have hR : RT (p_X2_emptyRing S' (nI k') (S 0 1)) (va_up M 1 (fun j => if 27 + 0 ≤ j ∧ j < 27 + wc then M 3 j else if j = 5 then nI wc else bld z (nI k') (M 3 1) j) 1) k' wc 0 u := by
    rw [va_up_s]
    refine ⟨R_fresh hS.1 hk' ?_ ?_ (fun j h1 h2 => ?_) ?_ (fun j h1 h2 => ?_) (fun j hj => ?_) (fun j hj => ?_) (fun i hi => ?_) (fun i hi => ?_) (fun i hi => ?_), ?_, Nat.zero_le _⟩
    · rw [if_neg (by omega), if_neg (by decide)]; rfl
    · rw [if_neg (by omega), if_neg (by decide)]; exact n1
    · rw [if_neg (by omega), if_neg (by omega), bld_n (by omega)]; exact hz j (by omega)
    · rw [if_neg (by omega), if_pos rfl]
    · rw [if_neg (by omega), if_neg (by omega)]; exact bld_z (by omega)
    · rw [if_neg (by omega), if_neg (by omega), bld_n (by omega)]; exact hz j (by omega)
    · rw [if_neg (by omega), if_neg (by omega)]; exact bld_z (by omega)
    · rw [if_pos (by omega)]
    · rw [if_neg (by omega), if_neg (by omega)]; exact bld_47 hi
    · rw [if_neg (by omega), if_neg (by omega)]; exact bld_63 hi
    · rw [empty_0]; exact hS.2.1
  obtain ⟨g1, g2⟩ := lst_loop hn (((nI n).toInt - (0 : Int32).toInt).toNat + 1) 0 _ _ wc 0 u hR (by rw [nI_toInt (by omega), zero_toI]; omega) (Nat.zero_le _) (by omega)
  exact ⟨g1, fun z hz => (g2 z hz).trans (va_up_n hz)⟩
theorem ite10 {x : Int32} : ((if x = 0 then (1 : Int32) else 0) = 0) ↔ ¬ x = 0 := by
  by_cases c : x = 0
  · rw [if_pos c]; exact ⟨fun z => absurd z (by decide), fun z => absurd c z⟩
  · rw [if_neg c]; exact ⟨fun _ => c, fun _ => rfl⟩
theorem X_leastDepth {G : Nat → Nat → CS} {M : CS} (h : RG G M) (a1 : Int32) : r_X4_leastDepth G a1 = r_X5_leastDepth M a1 ∧ RG (p_X4_leastDepth G a1) (p_X5_leastDepth M a1) := by
  unfold r_X4_leastDepth r_X5_leastDepth p_X4_leastDepth p_X5_leastDepth
  rw [show (1 : Int64) = (1 : Int32).toInt64 by decide, show (500 : Int64) = (500 : Int32).toInt64 by decide, in_w]
  by_cases c : r_X4_isWithin a1 1 500 = 0
  · rw [if_pos c, if_pos c, if_pos c, if_pos c]; exact ⟨rfl, h⟩
  rw [if_neg c, if_neg c, if_neg c, if_neg c]
  obtain ⟨n, hn1, hn2, rfl⟩ := within_nI (lo := 1) (hi := 500) (by decide) c (by decide)
  obtain ⟨⟨k, wc, t, u, hT, hu⟩, -⟩ := id h
  dsimp only
  have hz : ∀ j, j < 96 → p_X5_copy (M 1) (M 3) j = M 1 j := fun j hj => cp5_lt _ _ hj
  generalize p_X5_copy (M 1) (M 3) = z at hz
  have b2 : RT (G 0 0) (va_up M 3 z 3) k wc t u := by rw [va_up_s]; exact ⟨R_agreeA hT.1 hz, hT.2⟩
  have fin : ∀ (Z : CS) (M' : CS), (∀ i, i ≠ 1 → M' i = va_up M 3 z i) → RG (va_up G 0 (va_up (G 0) 1 Z)) (va_up M' 1 (p_X5_copy (M' 3) (M' 1))) := by
    intro Z M' hM
    have e3 : M' 3 = z := (hM 3 (by decide)).trans va_up_s
    refine RG_same h rfl rfl rfl rfl rfl rfl (fun j _ => ?_) (fun j hj => ?_) ?_ ?_ ?_
    · rw [va_up_n (by decide), hM 0 (by decide), va_up_n (by decide)]
    · rw [va_up_s, cp5_lt _ _ hj, e3]; exact hz j hj
    · rw [va_up_n (by decide), hM 4 (by decide), va_up_n (by decide)]
    · rw [va_up_n (by decide), hM 5 (by decide), va_up_n (by decide)]
    · rw [va_up_n (by decide), hM 6 (by decide), va_up_n (by decide)]
  obtain ⟨r1, m1⟩ := lst_one (Z := G 0 1) (k' := 1) b2 hu (by decide) hn2
  rw [show nI 1 = (1 : Int32) from rfl] at r1 m1
  have b3 : RT (G 0 0) (p_X5_isEnough (va_up M 3 z) 1 (nI n) 3) k wc t u := by rw [m1 3 (by decide)]; exact b2
  generalize hM3 : p_X5_isEnough (va_up M 3 z) 1 (nI n) = M3 at m1 b3
  rw [r1]
  generalize p_X2_emptyRing (p_X2_copy (G 0 1) (G 0 0)) 1 (G 0 0 0 1) = S1
  by_cases d1 : r_X2_stallsWithin S1 (nI n) = 0
  · rw [if_pos d1, if_neg (fun e => ite10.mp e d1), if_pos d1, if_neg (fun e => ite10.mp e d1)]; exact ⟨rfl, fin _ _ m1⟩
  rw [if_neg d1, if_pos (ite10.mpr d1), if_neg d1, if_pos (ite10.mpr d1)]
  obtain ⟨r2, m2⟩ := lst_one (Z := p_X2_stallsWithin S1 (nI n)) (k' := 2) b3 hu (by decide) hn2
  rw [show nI 2 = (2 : Int32) from rfl] at r2 m2
  have b4 : RT (G 0 0) (p_X5_isEnough M3 2 (nI n) 3) k wc t u := by rw [m2 3 (by decide)]; exact b3
  have m2' : ∀ i, i ≠ 1 → p_X5_isEnough M3 2 (nI n) i = va_up M 3 z i := fun i hi => (m2 i hi).trans (m1 i hi)
  generalize p_X5_isEnough M3 2 (nI n) = M4 at m2' b4
  rw [r2]
  generalize p_X2_emptyRing (p_X2_copy (p_X2_stallsWithin S1 (nI n)) (G 0 0)) 2 (G 0 0 0 1) = S2
  by_cases d2 : r_X2_stallsWithin S2 (nI n) = 0
  · rw [if_pos d2, if_neg (fun e => ite10.mp e d2), if_pos d2, if_neg (fun e => ite10.mp e d2)]; exact ⟨rfl, fin _ _ m2'⟩
  rw [if_neg d2, if_pos (ite10.mpr d2), if_neg d2, if_pos (ite10.mpr d2)]
  obtain ⟨r3, m3⟩ := lst_one (Z := p_X2_stallsWithin S2 (nI n)) (k' := 3) b4 hu (by decide) hn2
  rw [show nI 3 = (3 : Int32) from rfl] at r3 m3
  have b5 : RT (G 0 0) (p_X5_isEnough M4 3 (nI n) 3) k wc t u := by rw [m3 3 (by decide)]; exact b4
  have m3' : ∀ i, i ≠ 1 → p_X5_isEnough M4 3 (nI n) i = va_up M 3 z i := fun i hi => (m3 i hi).trans (m2' i hi)
  generalize p_X5_isEnough M4 3 (nI n) = M5 at m3' b5
  rw [r3]
  generalize p_X2_emptyRing (p_X2_copy (p_X2_stallsWithin S2 (nI n)) (G 0 0)) 3 (G 0 0 0 1) = S3
  by_cases d3 : r_X2_stallsWithin S3 (nI n) = 0
  · rw [if_pos d3, if_neg (fun e => ite10.mp e d3), if_pos d3, if_neg (fun e => ite10.mp e d3)]; exact ⟨rfl, fin _ _ m3'⟩
  rw [if_neg d3, if_pos (ite10.mpr d3), if_neg d3, if_pos (ite10.mpr d3)]
  obtain ⟨r4, m4⟩ := lst_one (Z := p_X2_stallsWithin S3 (nI n)) (k' := 4) b5 hu (by decide) hn2
  rw [show nI 4 = (4 : Int32) from rfl] at r4 m4
  have m4' : ∀ i, i ≠ 1 → p_X5_isEnough M5 4 (nI n) i = va_up M 3 z i := fun i hi => (m4 i hi).trans (m3' i hi)
  generalize p_X5_isEnough M5 4 (nI n) = M6 at m4'
  rw [r4]
  generalize p_X2_emptyRing (p_X2_copy (p_X2_stallsWithin S3 (nI n)) (G 0 0)) 4 (G 0 0 0 1) = S4
  by_cases d4 : r_X2_stallsWithin S4 (nI n) = 0
  · rw [if_pos d4, if_neg (fun e => ite10.mp e d4), if_pos d4, if_neg (fun e => ite10.mp e d4)]; exact ⟨rfl, fin _ _ m4'⟩
  rw [if_neg d4, if_pos (ite10.mpr d4), if_neg d4, if_pos (ite10.mpr d4)]
  exact ⟨rfl, fin _ _ m4'⟩
