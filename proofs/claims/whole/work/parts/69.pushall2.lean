/-! pushAll -/
theorem X_pushAll {G : Nat → Nat → CS} {M : CS} (h : RG G M) : r_X4_pushAll G = r_X5_pushAll M ∧ RG (p_X4_pushAll G) (p_X5_pushAll M) := by
  obtain ⟨⟨k, wc, t, u, hT, hu⟩, hH, hB, L, x1, x2, x3, x4⟩ := id h
  have E31 : ((30 : Int32).toInt - (0 : Int32).toInt).toNat + 1 = 30 + 1 := by decide
  -- the class reads
  have RD := read_at (L := L) x1 30 0 0 (va_up (G 2 0) 0 (upd (upd (G 2 0 0) 4 0) 5 0)) x2 rfl (Nat.zero_le _) rfl rfl
  rw [show va_up (G 2 0) 0 (upd (upd (G 2 0 0) 4 0) 5 0) 1 = G 2 0 1 from rfl, sg_eq x4] at RD
  have rr : r_X3_read (G 2 0) = lr_X3_read_12 (30 + 1) (nI 0) (va_up (G 2 0) 0 (upd (upd (G 2 0 0) 4 0) 5 0)) := by unfold r_X3_read; rw [E31]; rfl
  have pp : p_X3_read (G 2 0) = lp_X3_read_12 (30 + 1) (nI 0) (va_up (G 2 0) 0 (upd (upd (G 2 0 0) 4 0) 5 0)) := by unfold p_X3_read; rw [E31]; rfl
  rw [← rr, ← pp] at RD
  clear rr pp
  obtain ⟨RD1, ⟨RD2, RD3⟩, -, RD4⟩ := RD
  generalize hT1 : p_X3_read (G 2 0) = T1 at *
  -- the reference reads
  have FT := fault_at (L := L) x1 61 0 (va_up M 0 (upd (M 0) 9 0)) x3 rfl (Nat.zero_le _) (by omega)
  rw [show va_up M 0 (upd (M 0) 9 0) 6 = M 6 from rfl, prs_f (x := M 6) 61 30 0 (Nat.zero_le _) (by omega) (by omega)] at FT
  have rf : r_X5_fault M = lr_X5_fault_7 (61 + 1) 1 (va_up M 0 (upd (M 0) 9 0)) := rfl
  have pf : p_X5_fault M = lp_X5_fault_7 (61 + 1) 1 (va_up M 0 (upd (M 0) 9 0)) := rfl
  rw [← rf, ← pf] at FT
  clear rf pf
  obtain ⟨FT1, FT2⟩ := FT
  have FT2 : MK M (p_X5_fault M) := (MK_up (fun j hj => by rw [fu_n (by omega)])).trans FT2
  unfold r_X4_pushAll r_X5_pushAll p_X4_pushAll p_X5_pushAll
  dsimp only
  rw [hT1, RD1, FT1]
  generalize p_X5_fault M = M1 at *
  rcases prs_o (x := M 6) 30 0 (Nat.zero_le L) with q | ⟨c', hc', q⟩
  · rw [q]
    have RD4 := RD4 q
    show (if (-1 : Int32) = -1 then _ else _) = (if (-5 : Int32) = -5 then _ else _) ∧ RG (if (-1 : Int32) = -1 then _ else _) (if (-5 : Int32) = -5 then _ else _)
    rw [if_pos rfl, if_pos rfl, if_pos rfl, if_pos rfl]
    obtain ⟨A4, A30⟩ := Arr_len _ _ RD4
    have A30 := A30 (by omega)
    have hS : RT (p_X2_copy (G 0 1) (G 0 0)) (p_X5_remember M1 1) k wc t u := by
      rw [rem_1, va_up_n (by decide), FT2.1 1 (by decide)]; exact RT_se hT (copy_se _ _)
    have R2 : ∀ j, j < 96 → p_X5_remember M1 2 j = M 1 j := fun j hj => by rw [rem_2 M1 hj, FT2.1 1 (by decide)]
    have Rn : ∀ i, i ≠ 2 → p_X5_remember M1 i = M1 i := fun i hi => by rw [rem_1, va_up_n hi]
    generalize p_X5_remember M1 = M2 at *
    generalize p_X2_copy (G 0 1) (G 0 0) = S at *
    have e6 : M2 6 = M 6 := (Rn 6 (by decide)).trans (FT2.1 6 (by decide))
    have e8 : M2 0 8 = nI L := by rw [Rn 0 (by decide)]; exact (FT2.2 8 (by decide)).trans x3
    have q61 : prs (sg (M 6) L) L 61 0 = prs (sg (M 6) L) L 30 0 := prs_f (x := M 6) 61 30 0 (Nat.zero_le _) (by omega) (by omega)
    obtain ⟨m, m1, m2⟩ := sm_c (x := M 6) 30 0 (Nat.zero_le L) q
    have FO := fol_at (L := L) x1 (T := T1) (x := M 6) 61 0 0 S (va_up M2 0 (upd (M2 0) 9 0)) 0 k wc t u (((T1 0 4).toInt - (0 : Int32).toInt).toNat + 1) e8 rfl e6 (Nat.zero_le _) (by rw [q61]; exact q) (by rw [q61]; exact RD4) (by omega) (by rw [q61, A4, nI_toInt (by omega), zero_toI]; omega) hS hu
    rw [q61, show nI 0 = (0 : Int32) from rfl] at FO
    have W := wip_at (T := T1) (prs (sg (M 6) L) L 30 0).1 (((T1 0 4).toInt - (0 : Int32).toInt).toNat + 1) 0 0 RD4 (by rw [A4, nI_toInt (by omega), zero_toI]; omega) (by omega) A4
    rw [show nI 0 = (0 : Int32) from rfl] at W
    have rd : r_X5_doesText M2 = lr_X5_doesText_9 (61 + 1) 0 1 (va_up M2 0 (upd (M2 0) 9 0)) := rfl
    have pd : p_X5_doesText M2 = lp_X5_doesText_9 (61 + 1) 0 1 (va_up M2 0 (upd (M2 0) 9 0)) := rfl
    have rF : r_X2_follow S T1 = lr_X2_follow_2 T1 (((T1 0 4).toInt - (0 : Int32).toInt).toNat + 1) 0 S := rfl
    have pF : p_X2_follow S T1 = lp_X2_follow_2 T1 (((T1 0 4).toInt - (0 : Int32).toInt).toNat + 1) 0 S := rfl
    have rW : r_X3_wordsInParts T1 = lr_X3_wordsInParts_4 T1 (((T1 0 4).toInt - (0 : Int32).toInt).toNat + 1) 0 0 := rfl
    rw [← rd, ← pd, ← rF, ← pF] at FO
    rw [← rW] at W
    clear rd pd rF pF rW
    obtain ⟨F1', F2, F3⟩ := FO
    have Zi : ∀ i, i ≠ 0 → i ≠ 1 → p_X5_doesText M2 i = M2 i := fun i h0 h1 => (F2 i h0 h1).trans (va_up_n h0)
    have Z0 : ∀ i, i = 4 ∨ i = 6 ∨ i = 8 → p_X5_doesText M2 0 i = M 0 i := fun i hi => by
      rw [F3 i hi, va_up_s, fu_n (by omega), Rn 0 (by decide)]; exact FT2.2 i hi
    have Zn : ∀ i, i ≠ 0 → i ≠ 1 → i ≠ 2 → p_X5_doesText M2 i = M i := fun i h0 h1 h2 => by rw [Zi i h0 h1, Rn i h2]; exact FT2.1 i h0
    have Z2 : ∀ j, j < 96 → p_X5_doesText M2 2 j = M 1 j := fun j hj => by rw [Zi 2 (by decide) (by decide)]; exact R2 j hj
    generalize p_X5_doesText M2 = Z at *
    generalize r_X5_doesText M2 = rz at *
    generalize p_X2_follow S T1 = S3 at *
    generalize r_X2_follow S T1 = rs at *
    have z1 : ¬ (1 : Int32) = 0 := by decide
    rcases F1' with ⟨f1, f2⟩ | ⟨f1, f2, wc', t', u', f3, f4⟩
    · rw [f1, f2, if_pos rfl, if_pos rfl, if_pos rfl, if_pos rfl]
      refine ⟨rfl, RG_same h rfl rfl rfl rfl (RD2.trans x2.symm) RD3 (fun j hj => ?_) (fun j hj => ?_) ?_ ?_ ?_⟩
      · rw [va_up_n (by decide)]; exact Z0 j hj
      · rw [va_up_s, cp5_lt _ _ hj]; exact Z2 j hj
      · rw [va_up_n (by decide)]; exact Zn 4 (by decide) (by decide) (by decide)
      · rw [va_up_n (by decide)]; exact Zn 5 (by decide) (by decide) (by decide)
      · rw [va_up_n (by decide)]; exact Zn 6 (by decide) (by decide) (by decide)
    · rw [m2, Int32.zero_add] at f2
      rw [m2, Int32.zero_add] at W
      have n3 : ¬ nI m = -3 := by
        intro e
        have h1 := nI_toInt (n := m) (by omega)
        rw [e] at h1
        have h2 : (-3 : Int32).toInt = -3 := by decide
        omega
      rw [f1, f2, if_neg z1, if_neg z1, if_neg n3, if_neg n3, W]
      have hb := RT_se f3 (copy_se (G 0 0) S3)
      generalize p_X2_copy (G 0 0) S3 = S5 at *
      have h0 : RG G (va_up M 0 (Z 0)) := RG_same h rfl rfl rfl rfl rfl rfl (fun j hj => by rw [va_up_s]; exact Z0 j hj) (fun j hj => by rw [va_up_n (by decide)]) (va_up_n (by decide)) (va_up_n (by decide)) (va_up_n (by decide))
      obtain ⟨y1, y2⟩ := RG_act (S' := S5) (Mx := Z) h0 (fun j hj => by rw [va_up_n (by decide)]; exact Z2 j hj) (fun i i1 i2 => by
        by_cases e : i = 0
        · subst e; rw [va_up_s]
        · rw [va_up_n e]; exact Zn i e i1 i2) hb f4 (nI m)
      refine ⟨y2.symm, RG_same y1 rfl rfl rfl rfl (RD2.trans x2.symm) RD3 (fun _ _ => rfl) (fun _ _ => rfl) rfl rfl rfl⟩
  · rw [q]
    have n1 : ¬ nI c' = -1 := nI_nm1 (by omega)
    have n5 : ¬ nI c' = -5 := by
      intro e
      have h1 := nI_toInt (n := c') (by omega)
      rw [e] at h1
      have h2 : (-5 : Int32).toInt = -5 := by decide
      omega
    show (if nI c' = -1 then _ else _) = (if nI c' = -5 then _ else _) ∧ RG (if nI c' = -1 then _ else _) (if nI c' = -5 then _ else _)
    rw [if_neg n1, if_neg n5, if_neg n1, if_neg n5]
    exact ⟨rfl, RG_same h rfl rfl rfl rfl (RD2.trans x2.symm) RD3 (fun j hj => FT2.2 j hj) (fun j hj => by rw [FT2.1 1 (by decide)]) (FT2.1 4 (by decide)) (FT2.1 5 (by decide)) (FT2.1 6 (by decide))⟩
