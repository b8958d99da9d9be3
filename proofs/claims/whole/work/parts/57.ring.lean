/-! the history -/
def RH (Hs : Nat → CS) (M : CS) : Prop := ∃ o n : Nat, o < 4 ∧ n ≤ 4 ∧ Hs 4 0 1 = nI o ∧ Hs 4 0 2 = nI n ∧ M 0 4 = nI n ∧ ∀ i, i < n → ∃ k wc t u, RT (Hs ((o + i) % 4)) (fun j => M 4 (96 * i + j)) k wc t u ∧ u ≤ 1000000
theorem RH_of {Hs : Nat → CS} {M M' : CS} (h : RH Hs M) (h0 : M' 0 4 = M 0 4) (h4 : M' 4 = M 4) : RH Hs M' := by
  obtain ⟨o, n, a1, a2, a3, a4, a5, a6⟩ := h
  refine ⟨o, n, a1, a2, a3, a4, h0.trans a5, ?_⟩
  rw [h4]; exact a6
def add2 (T : Nat → CS) (S : CS) : Nat → CS := (if (r_X4_remainder ((T 4 0 1) + (((T 4) 0) 2)) (4 : Int32)) = (0 : Int32) then (va_up (va_up T 0 (p_X2_copy (T 0) S)) 4 (va_up (T 4) 0 (upd ((T 4) 0) 2 ((((T 4) 0) 2) + (1 : Int32))))) else (if (r_X4_remainder ((T 4 0 1) + (((T 4) 0) 2)) (4 : Int32)) = (1 : Int32) then (va_up (va_up T 1 (p_X2_copy (T 1) S)) 4 (va_up (T 4) 0 (upd ((T 4) 0) 2 ((((T 4) 0) 2) + (1 : Int32))))) else (if (r_X4_remainder ((T 4 0 1) + (((T 4) 0) 2)) (4 : Int32)) = (2 : Int32) then (va_up (va_up T 2 (p_X2_copy (T 2) S)) 4 (va_up (T 4) 0 (upd ((T 4) 0) 2 ((((T 4) 0) 2) + (1 : Int32))))) else (va_up (va_up T 3 (p_X2_copy (T 3) S)) 4 (va_up (T 4) 0 (upd ((T 4) 0) 2 ((((T 4) 0) 2) + (1 : Int32))))))))
theorem add_eq (Hs : Nat → CS) (S : CS) : p_X0_add Hs S = add2 (hsTrim Hs) S := rfl
theorem rem4 (a : Nat) (h : a < 2 ^ 31) : r_X4_remainder (nI a) 4 = nI (a % 4) := by
  unfold r_X4_remainder
  rw [if_neg (by decide), show (4 : Int32) = nI 4 from rfl]
  exact pk_rem h (by decide) (by decide)
theorem add2_at {T : Nat → CS} {S : CS} {o n : Nat} (ho : o < 4) (hn : n ≤ 4) (h1 : T 4 0 1 = nI o) (h2 : T 4 0 2 = nI n) :
    add2 T S = va_up (va_up T ((o + n) % 4) (p_X2_copy (T ((o + n) % 4)) S)) 4 (va_up (T 4) 0 (upd (T 4 0) 2 (nI (n + 1)))) := by
  unfold add2
  rw [h1, h2, nI_add, rem4 _ (by omega), nI_1]
  have c : (o + n) % 4 = 0 ∨ (o + n) % 4 = 1 ∨ (o + n) % 4 = 2 ∨ (o + n) % 4 = 3 := by omega
  rcases c with c | c | c | c <;> rw [c]
  · rw [if_pos (by decide)]
  · rw [if_neg (by decide), if_pos (by decide)]
  · rw [if_neg (by decide), if_neg (by decide), if_pos (by decide)]
  · rw [if_neg (by decide), if_neg (by decide), if_neg (by decide)]
theorem trim_n {Hs : Nat → CS} {n : Nat} (hn : n < 4) (h2 : Hs 4 0 2 = nI n) : hsTrim Hs = Hs := by
  unfold hsTrim
  rw [h2, if_neg (fun e => by have := (nI_eq (a := n) (b := 4) (by omega) (by decide)).mp e; omega)]
theorem trim_4 {Hs : Nat → CS} {o : Nat} (ho : o < 4) (h1 : Hs 4 0 1 = nI o) (h2 : Hs 4 0 2 = nI 4) : hsTrim Hs = va_up Hs 4 (va_up (Hs 4) 0 (upd (upd (Hs 4 0) 1 (nI ((o + 1) % 4))) 2 (nI 3))) := by
  unfold hsTrim
  rw [h2, if_pos (show nI 4 = 4 from rfl), h1, nI_1, rem4 _ (by omega), show nI 4 - 1 = nI 3 by decide]
/-- what the reference keeps of an action -/
theorem acted_lt {M : CS} {n : Nat} (hn : n < 4) (h4 : M 0 4 = nI n) (v : Int32) : p_X5_acted M v = va_up (va_up M 0 (upd (M 0) 4 (nI (n + 1)))) 4 (fun j => if 96 * n ≤ j ∧ j < 96 * n + 96 then M 2 (j - 96 * n) else M 4 j) ∧ r_X5_acted M v = v := by
  have e : ¬ M 0 4 = 4 := fun e => by have := (nI_eq (a := n) (b := 4) (by omega) (by decide)).mp (h4.symm.trans e); omega
  have L := a50_at (M := M) (c := n) (by omega) h4 (((96 : Int32).toInt - (0 : Int32).toInt).toNat + 1) 0 (M 4) (by decide) (by decide)
  unfold p_X5_acted r_X5_acted
  rw [if_neg e, if_neg e, show (0 : Int32) = nI 0 from rfl] at *
  refine ⟨?_, rfl⟩
  rw [L, h4, nI_1]
  rfl
theorem acted_4 {M : CS} (h4 : M 0 4 = nI 4) (v : Int32) : p_X5_acted M v = va_up (va_up M 0 (upd (M 0) 4 (nI 4))) 4 (fun j => if 288 ≤ j ∧ j < 384 then M 2 (j - 288) else if j < 288 then M 4 (j + 96) else M 4 j) ∧ r_X5_acted M v = v := by
  have L1 := a10_at (((288 : Int32).toInt - (0 : Int32).toInt).toNat + 1) 0 (M 4) (by decide) (by decide)
  have L := fun h => a50b_at (M := M) (c := 3) (by omega) (show M 0 4 - 1 = nI 3 by rw [h4]; decide) (((96 : Int32).toInt - (0 : Int32).toInt).toNat + 1) 0 h (by decide) (by decide)
  unfold p_X5_acted r_X5_acted
  rw [if_pos (show M 0 4 = 4 from h4), if_pos (show M 0 4 = 4 from h4), show (0 : Int32) = nI 0 from rfl] at *
  refine ⟨?_, rfl⟩
  rw [L1]
  dsimp only
  rw [L, h4]
  have e : nI 4 - 1 + 1 = nI 4 := by decide
  rw [e]
  refine congrArg (va_up (va_up M 0 (upd (M 0) 4 (nI 4))) 4) (funext fun j => ?_)
  by_cases c : 288 ≤ j ∧ j < 384
  · rw [if_pos c, if_pos (by omega)]
  · rw [if_neg c, if_neg (show ¬ (96 * 3 + 0 ≤ j ∧ j < 96 * 3 + 96) by omega)]
    by_cases d : j < 288
    · rw [if_pos d, if_pos (show 0 ≤ j ∧ j < 288 by omega)]
    · rw [if_neg d, if_neg (show ¬ (0 ≤ j ∧ j < 288) by omega)]
theorem RH_add {Hs : Nat → CS} {M S : CS} {k wc t u : Nat} (h : RH Hs M) (hS : RT S (M 2) k wc t u) (hu : u ≤ 1000000) (v : Int32) :
    RH (p_X0_add Hs S) (p_X5_acted M v) ∧ (∀ i, i ≠ 0 → i ≠ 4 → p_X5_acted M v i = M i) ∧ (∀ j, j ≠ 4 → p_X5_acted M v 0 j = M 0 j) ∧ r_X5_acted M v = v := by
  obtain ⟨o, n, a1, a2, a3, a4, a5, a6⟩ := h
  rw [add_eq]
  rcases Nat.lt_or_ge n 4 with q | q
  · obtain ⟨e1, e2⟩ := acted_lt q a5 v
    rw [trim_n q a4, add2_at a1 a2 a3 a4, e1]
    refine ⟨⟨o, n + 1, a1, q, ?_, rfl, rfl, fun i hi => ?_⟩, fun i h0 h4 => by rw [va_up_n h4, va_up_n h0], fun j hj => by rw [va_up_n (by decide), va_up_s, fu_n hj], e2⟩
    · rw [va_up_s, va_up_s, fu_n (by decide)]; exact a3
    · rw [va_up_s, va_up_n (show (o + i) % 4 ≠ 4 by omega)]
      rcases Nat.lt_or_ge i n with z | z
      · obtain ⟨k1, wc1, t1, u1, b1, b2⟩ := a6 i z
        refine ⟨k1, wc1, t1, u1, ?_, b2⟩
        rw [va_up_n (by omega)]
        have := b1.1
        refine ⟨R_agreeA b1.1 (fun j hj => ?_), b1.2⟩
        rw [if_neg (by omega)]
      · obtain rfl : i = n := by omega
        refine ⟨k, wc, t, u, ?_, hu⟩
        rw [va_up_s]
        refine RT_se ⟨R_agreeA hS.1 (fun j hj => ?_), hS.2⟩ (copy_se _ _)
        rw [if_pos (by omega), show 96 * i + j - 96 * i = j by omega]
  · obtain rfl : n = 4 := by omega
    obtain ⟨e1, e2⟩ := acted_4 a5 v
    rw [trim_4 a1 a3 a4, add2_at (o := (o + 1) % 4) (n := 3) (by omega) (by omega) (by rw [va_up_s, va_up_s, fu_n (by decide), fu_s]) (by rw [va_up_s, va_up_s, fu_s]), e1]
    refine ⟨⟨(o + 1) % 4, 4, by omega, by omega, ?_, rfl, rfl, fun i hi => ?_⟩, fun i h0 h4 => by rw [va_up_n h4, va_up_n h0], fun j hj => by rw [va_up_n (by decide), va_up_s, fu_n hj], e2⟩
    · rw [va_up_s, va_up_s, fu_n (by decide), va_up_s, va_up_s, fu_n (by decide), fu_s]
    · rw [va_up_s, va_up_n (show ((o + 1) % 4 + i) % 4 ≠ 4 by omega)]
      rcases Nat.lt_or_ge i 3 with z | z
      · obtain ⟨k1, wc1, t1, u1, b1, b2⟩ := a6 (i + 1) (by omega)
        refine ⟨k1, wc1, t1, u1, ?_, b2⟩
        rw [va_up_n (by omega), va_up_n (by omega), show ((o + 1) % 4 + i) % 4 = (o + (i + 1)) % 4 by omega]
        refine ⟨R_agreeA b1.1 (fun j hj => ?_), b1.2⟩
        rw [va_up_s]
        rw [if_neg (by omega), if_pos (by omega), show 96 * i + j + 96 = 96 * (i + 1) + j by omega]
      · obtain rfl : i = 3 := by omega
        refine ⟨k, wc, t, u, ?_, hu⟩
        rw [va_up_s]
        refine RT_se ⟨R_agreeA hS.1 (fun j hj => ?_), hS.2⟩ (copy_se _ _)
        rw [va_up_s]
        rw [if_pos (by omega), show 96 * 3 + j - 288 = j by omega]
/-- undo: nothing to undo -/
theorem latest_0 {Hs : Nat → CS} {S : CS} (h : Hs 4 0 2 = nI 0) : r_X0_moveLatestTo Hs S = 0 ∧ p_X0_moveLatestTo_Hs Hs S = Hs ∧ p_X0_moveLatestTo_S Hs S = S := by
  unfold r_X0_moveLatestTo p_X0_moveLatestTo_Hs p_X0_moveLatestTo_S
  rw [h, if_pos (by decide), if_pos (by decide), if_pos (by decide)]
  exact ⟨rfl, rfl, rfl⟩
theorem latest_n {Hs : Nat → CS} {S : CS} {o n : Nat} (ho : o < 4) (hn : n < 4) (h1 : Hs 4 0 1 = nI o) (h : Hs 4 0 2 = nI (n + 1)) : r_X0_moveLatestTo Hs S = 1 ∧ p_X0_moveLatestTo_Hs Hs S = va_up Hs 4 (va_up (Hs 4) 0 (upd (Hs 4 0) 2 (nI n))) ∧ p_X0_moveLatestTo_S Hs S = p_X2_copy S (Hs ((o + n) % 4)) := by
  unfold r_X0_moveLatestTo p_X0_moveLatestTo_Hs p_X0_moveLatestTo_S
  have q : ¬ nI (n + 1) ≤ 0 := nI_nle (by omega) (by omega)
  rw [h, if_neg q, if_neg q, if_neg q, h1, nI_pred, nI_add, rem4 _ (by omega)]
  have c : (o + n) % 4 = 0 ∨ (o + n) % 4 = 1 ∨ (o + n) % 4 = 2 ∨ (o + n) % 4 = 3 := by omega
  rcases c with c | c | c | c <;> rw [c]
  · rw [if_pos (by decide), if_pos (by decide), if_pos (by decide)]; exact ⟨rfl, rfl, rfl⟩
  · rw [if_neg (by decide), if_pos (by decide), if_neg (by decide), if_pos (by decide), if_neg (by decide), if_pos (by decide)]; exact ⟨rfl, rfl, rfl⟩
  · rw [if_neg (by decide), if_neg (by decide), if_pos (by decide), if_neg (by decide), if_neg (by decide), if_pos (by decide), if_neg (by decide), if_neg (by decide), if_pos (by decide)]; exact ⟨rfl, rfl, rfl⟩
  · rw [if_neg (by decide), if_neg (by decide), if_neg (by decide), if_neg (by decide), if_neg (by decide), if_neg (by decide), if_neg (by decide), if_neg (by decide), if_neg (by decide)]; exact ⟨rfl, rfl, rfl⟩
