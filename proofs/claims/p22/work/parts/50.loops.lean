/-! the loops in closed form -/
theorem fu_s {f : F1} {k : Nat} {v : Int32} : upd f k v k = v := if_pos rfl
theorem fu_n {f : F1} {k j : Nat} {v : Int32} (h : j ≠ k) : upd f k v j = f j := if_neg h
theorem le_nI {n k : Nat} (hn : n < 2 ^ 31) (h : n ≤ k) (hk : k < 2 ^ 31) : nI n ≤ nI k := nI_le h hk
theorem nle_nI {n k : Nat} (hn : n < 2 ^ 31) (h : k < n) : ¬ nI n ≤ nI k := nI_ge h hn
theorem fill_at {v : Int32} {n : Nat} (hn : n < 2 ^ 31) : ∀ (fu k : Nat) (f : F1), n - k < fu → k ≤ n → lp_X4_fillRow_2 v n fu (nI k) f = fun j => if k ≤ j ∧ j < n then v else f j
  | 0, k, f, h, _ => absurd h (Nat.not_lt_zero _)
  | fu + 1, k, f, h, hk => by
    unfold lp_X4_fillRow_2
    rcases Nat.lt_or_ge k n with q | q
    · rw [if_neg (nle_nI hn q), nI_clamp (by omega), nI_1, fill_at hn fu (k + 1) _ (by omega) q]
      funext j
      by_cases e : j = k
      · subst e; rw [if_neg (by omega), fu_s, if_pos (by omega)]
      · rw [fu_n e]
        by_cases c : k ≤ j ∧ j < n
        · rw [if_pos c, if_pos (by omega)]
        · rw [if_neg c, if_neg (by omega)]
    · rw [if_pos (le_nI hn q (by omega))]
      funext j
      rw [if_neg (by omega)]
theorem fillRow_at {v : Int32} {n : Nat} (hn : n < 2 ^ 31) (f : F1) {j : Nat} (hj : j < n) : p_X4_fillRow f v n j = v := by
  unfold p_X4_fillRow
  rw [show (0 : Int32) = nI 0 from rfl, fill_at hn _ 0 f (by rw [nI_toInt hn]; have : (nI 0).toInt = 0 := by decide
                                                             omega) (Nat.zero_le _)]
  exact if_pos ⟨Nat.zero_le _, hj⟩
theorem cpy_at {f : F1} {n : Nat} (hn : n < 2 ^ 31) : ∀ (fu k : Nat) (g : F1), n - k < fu → k ≤ n → lp_X4_copyRow_2 f n n fu (nI k) g = fun j => if k ≤ j ∧ j < n then f j else g j
  | 0, k, g, h, _ => absurd h (Nat.not_lt_zero _)
  | fu + 1, k, g, h, hk => by
    unfold lp_X4_copyRow_2
    rcases Nat.lt_or_ge k n with q | q
    · rw [if_neg (nle_nI hn q), if_neg (nle_nI hn q), nI_clamp (by omega), nI_1, cpy_at hn fu (k + 1) _ (by omega) q]
      funext j
      by_cases e : j = k
      · subst e; rw [if_neg (by omega), fu_s, if_pos (by omega)]
      · rw [fu_n e]
        by_cases c : k ≤ j ∧ j < n
        · rw [if_pos c, if_pos (by omega)]
        · rw [if_neg c, if_neg (by omega)]
    · rw [if_pos (le_nI hn q (by omega))]
      funext j
      rw [if_neg (by omega)]
theorem z_toInt : (nI 0).toInt = 0 := by decide
theorem copyRow_at {n : Nat} (hn : n < 2 ^ 31) (f g : F1) {j : Nat} (hj : j < n) : p_X4_copyRow f g n n j = f j := by
  unfold p_X4_copyRow
  rw [show (0 : Int32) = nI 0 from rfl, cpy_at hn _ 0 g (by rw [nI_toInt hn, z_toInt]; omega) (Nat.zero_le _)]
  exact if_pos ⟨Nat.zero_le _, hj⟩
theorem valueAt_in {f : F1} {i n : Nat} (hn : n < 2 ^ 31) (h : i < n) : r_X4_valueAt f (nI i) n = f i := by
  unfold r_X4_valueAt
  rw [if_neg (nI_pos (by omega)), if_neg (nle_nI hn h), nI_clamp (by omega)]
theorem setAt_in {f : F1} {i n : Nat} {v : Int32} (hn : n < 2 ^ 31) (h : i < n) : p_X4_setAt f (nI i) v n = upd f i v := by
  unfold p_X4_setAt
  rw [if_neg (nI_pos (by omega)), if_neg (nle_nI hn h), nI_clamp (by omega)]
/-- the class's words that wait move up -/
theorem p62_at {w : Nat} (hw : w ≤ 19) : ∀ (fu k : Nat) (S : CS), S 0 10 = nI w → w - k < fu → k ≤ w → lp_X2_putWord_62 fu (nI k) S = (fun (S1 : CS) => va_up S1 1 (upd (S1 1) 3 (r_X2_around S1 ((S1 1 3) + (1 : Int32))))) (va_up S 5 (fun j => if k ≤ j ∧ j < w then S 5 (j + 1) else S 5 j))
  | 0, k, S, _, h, _ => absurd h (Nat.not_lt_zero _)
  | fu + 1, k, S, h5, h, hk => by
    unfold lp_X2_putWord_62
    rw [h5]
    rcases Nat.lt_or_ge k w with q | q
    · rw [if_neg (nle_nI (by omega) q), nI_1, valueAt_in (by decide) (by omega), setAt_in (by decide) (by omega)]
      dsimp only
      rw [p62_at hw fu (k + 1) _ (by exact h5) (by omega) q]
      have e1 : (va_up (va_up S 5 (upd (S 5) k (S 5 (k + 1)))) 5 (fun j => if k + 1 ≤ j ∧ j < w then (va_up S 5 (upd (S 5) k (S 5 (k + 1)))) 5 (j + 1) else (va_up S 5 (upd (S 5) k (S 5 (k + 1)))) 5 j)) = va_up S 5 (fun j => if k ≤ j ∧ j < w then S 5 (j + 1) else S 5 j) := by
        funext i
        by_cases e : i = 5
        · subst e
          rw [va_up_s, va_up_s, va_up_s]
          funext j
          by_cases e : j = k
          · subst e; rw [if_neg (by omega), fu_s, if_pos (by omega)]
          · rw [fu_n e]
            by_cases d : k ≤ j ∧ j < w
            · rw [if_pos d, if_pos (by omega), fu_n (by omega)]
            · rw [if_neg d, if_neg (by omega)]
        · rw [va_up_n e, va_up_n e, va_up_n e]
      rw [e1]
    · rw [if_pos (le_nI (by omega) q (by omega))]
      have e1 : va_up S 5 (fun j => if k ≤ j ∧ j < w then S 5 (j + 1) else S 5 j) = S := by
        funext i
        by_cases e : i = 5
        · subst e
          rw [va_up_s]
          funext j
          rw [if_neg (by omega)]
        · rw [va_up_n e]
      rw [e1]
