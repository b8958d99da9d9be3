theorem tkM_n {a : F1} {q j : Nat} {x p' : Int32} (h7 : j ≠ 7) (h8 : j ≠ 8) (h9 : j ≠ 9) (h10 : j ≠ 10) (h22 : j ≠ 22) (hj : j < 79 ∨ 95 ≤ j) : tkM a q x p' j = a j := by
  unfold tkM
  rw [fu_n h22, fu_n h8, fu_n h9, fu_n h7, fu_n h10, fu_n (by omega), dwn_n (by omega)]
theorem min16 {t : Nat} : nI (min t 16) + (if (16 : Int32) ≤ nI (min t 16) then 0 else 1) = nI (min (t + 1) 16) := by
  rcases Nat.lt_or_ge t 16 with c | c
  · rw [Nat.min_eq_left (by omega), Nat.min_eq_left (by omega), if_neg (show ¬ (16 : Int32) ≤ nI t from nle_nI (n := 16) (by decide) c)]; exact nI_1 t
  · rw [Nat.min_eq_right (by omega), Nat.min_eq_right (by omega)]; decide
theorem R_take {S M : CS} {k wc t : Nat} (h : R S (M 1) k wc t) (ht : t < 2 ^ 31) : R (p_X2_takeWord S) (p_X5_takes M 1) k wc (t + 1) ∧ (∀ i, i ≠ 1 → p_X5_takes M i = M i) ∧ p_X2_takeWord S 0 2 = S 0 2 ∧ p_X2_takeWord S 1 = S 1 ∧ p_X2_takeWord S 0 10 = S 0 10 := by
  obtain ⟨p, hp, e1, e2⟩ := RR_place h
  obtain ⟨q, hq, eq⟩ := chk_Q h.1 hp
  obtain ⟨p', hp', ep⟩ := chk_M2 h.1 hp
  obtain ⟨hk1, hk2⟩ := R_k h
  obtain ⟨hk, hw, ⟨n0, n1, n2, n3, n4, n5, n6, n7, n8, n9, n10, n11, n12, n13⟩, hW, hR, r3, r4, r5, r6⟩ := h
  have A := takes_at (M := M) hk2 e2 eq hq ep
  have B := takeWord_at (S := S) hk1 e1 eq hq ep n9 (by omega)
  have hx : (if M 1 (63 + q) = M 1 7 then (1 : Int32) else 0) = (if S 4 q = S 0 13 then 1 else 0) := by rw [r4 q hq, n10, n9]
  rw [hx] at A
  generalize (if S 4 q = S 0 13 then (1 : Int32) else 0) = x at A B
  rw [A, B, va_up_s]
  have c0 : tkS S q x (t % 16) (nI p') 0 = upd (upd (S 0) 13 (S 0 13 + 1)) 14 (S 0 14 + (if x = 0 then 0 else 1)) := rfl
  refine ⟨⟨hk, hw, ?_, RS_of hW rfl (fun j h1 h2 => tkM_n (by omega) (by omega) (by omega) (by omega) (by omega) (by omega)), ?_, ?_⟩, fun i hi => va_up_n hi, ?_, rfl, ?_⟩
  · rw [c0]
    refine ⟨?_, ?_, ?_, ?_, ?_, ?_, ?_, ?_, ?_, ?_, ?_, ?_, ?_, ?_⟩
    · rw [fu_n (by decide), fu_n (by decide)]; exact n0
    · rw [tkM_n (by decide) (by decide) (by decide) (by decide) (by decide) (by decide)]; exact n1
    · rw [fu_n (by decide), fu_n (by decide), tkM_n (by decide) (by decide) (by decide) (by decide) (by decide) (by decide)]; exact n2
    · rw [fu_n (by decide), fu_n (by decide), tkM_n (by decide) (by decide) (by decide) (by decide) (by decide) (by decide)]; exact n3
    · rw [fu_n (by decide), fu_n (by decide), tkM_n (by decide) (by decide) (by decide) (by decide) (by decide) (by decide)]; exact n4
    · rw [fu_n (by decide), fu_n (by decide), tkM_n (by decide) (by decide) (by decide) (by decide) (by decide) (by decide)]; exact n5
    · rw [fu_n (by decide), fu_n (by decide)]; exact n6
    · rw [tkM_n (by decide) (by decide) (by decide) (by decide) (by decide) (by decide)]; exact n7
    · rw [fu_n (by decide), fu_n (by decide), tkM_n (by decide) (by decide) (by decide) (by decide) (by decide) (by decide)]; exact n8
    · rw [fu_n (by decide), fu_s, n9]; exact nI_1 t
    · unfold tkM; rw [fu_n (by decide), fu_n (by decide), fu_n (by decide), fu_s, n10]; exact nI_1 t
    · unfold tkM; rw [fu_n (by decide), fu_s, fu_s, n11]
    · unfold tkM; rw [fu_n (by decide), fu_n (by decide), fu_s, fu_s, n12, ← nI_1]
      by_cases c : x = 0
      · rw [if_pos c, if_pos c, Int32.add_zero]
        rw [Int32.sub_eq_add_neg, Int32.sub_eq_add_neg, Int32.add_assoc, Int32.add_assoc, Int32.add_comm (-S 0 14) 1]
      · rw [if_neg c, if_neg c, Int32.add_zero, Int32.sub_eq_add_neg, Int32.sub_eq_add_neg, Int32.neg_add, Int32.add_assoc, Int32.sub_eq_add_neg (-S 0 14) 1, Int32.add_comm (-S 0 14) (-1), ← Int32.add_assoc 1, Int32.add_right_neg, Int32.zero_add]
    · unfold tkM; rw [fu_n (by decide), fu_n (by decide), fu_n (by decide), fu_n (by decide), fu_s, n13]; exact min16
  · obtain ⟨h0, h1, h2, h3, h4, h5, h6, h7, h8, p0, f, s, e3, e4, e5, hp0, hf, hs⟩ := hR
    have c2 : tkS S q x (t % 16) (nI p') 2 = upd (S 2) 3 (nI p') := rfl
    rw [c2]
    refine ⟨?_, ?_, ?_, ?_, ?_, ?_, ?_, ?_, ?_, p', f, s, ?_, ?_, ?_, hp', hf, hs⟩
    · rw [tkM_n (by decide) (by decide) (by decide) (by decide) (by decide) (by decide), fu_n (by decide)]; exact h0
    · rw [tkM_n (by decide) (by decide) (by decide) (by decide) (by decide) (by decide), fu_n (by decide)]; exact h1
    · rw [tkM_n (by decide) (by decide) (by decide) (by decide) (by decide) (by decide), fu_n (by decide)]; exact h2
    · unfold tkM; rw [fu_s, fu_s]
    · rw [tkM_n (by decide) (by decide) (by decide) (by decide) (by decide) (by decide), fu_n (by decide)]; exact h4
    · rw [tkM_n (by decide) (by decide) (by decide) (by decide) (by decide) (by decide), fu_n (by decide)]; exact h5
    · rw [tkM_n (by decide) (by decide) (by decide) (by decide) (by decide) (by decide), fu_n (by decide)]; exact h6
    · rw [tkM_n (by decide) (by decide) (by decide) (by decide) (by decide) (by decide), fu_n (by decide)]; exact h7
    · rw [fu_n (by decide)]; exact h8
    · rw [fu_s]
    · rw [fu_n (by decide)]; exact e4
    · rw [fu_n (by decide)]; exact e5
  · refine ⟨fun i hi => ?_, fun i hi => ?_, fun i hi => ?_, fun j hj hk => ?_⟩
    · rw [tkM_n (by omega) (by omega) (by omega) (by omega) (by omega) (by omega)]; exact r3 i hi
    · rw [tkM_n (by omega) (by omega) (by omega) (by omega) (by omega) (by omega)]; exact r4 i hi
    · rw [tkM_n (by omega) (by omega) (by omega) (by omega) (by omega) (by omega)]; exact r5 i hi
    · have c6 : tkS S q x (t % 16) (nI p') 6 = upd (S 6) (t % 16) (if x = 0 then S 3 q + 100 else S 3 q) := rfl
      rw [c6]
      unfold tkM
      rw [fu_n (by omega), fu_n (by omega), fu_n (by omega), fu_n (by omega), fu_n (by omega)]
      rcases Nat.eq_zero_or_pos j with z | z
      · subst z
        rw [fu_s, show (t + 1 - 1 - 0) % 16 = t % 16 by omega, fu_s, r3 q hq]
      · rw [fu_n (by omega), show 79 + j = 80 + (j - 1) by omega, dwn_s (by omega), fu_n (by omega), r6 (j - 1) (by omega) (by omega), show t - 1 - (j - 1) = t + 1 - 1 - j by omega]
  · rw [c0, fu_n (by decide), fu_n (by decide)]
  · rw [c0, fu_n (by decide), fu_n (by decide)]
/-! a word that is put -/
theorem puts_at {M : CS} {k p q w : Nat} {p' : Int32} (hk : M 1 0 = nI k) (hp : r_X5_of M 0 3 = nI p) (hq : nI p &&& (dpt k - 1) = nI q) (hq6 : q < 16) (he : (nI p + 1) &&& msk k = p') (hw : M 1 5 = nI (w + 1)) (hw9 : w ≤ 19) :
    p_X5_puts M = va_up M 1 (upd (upd (fun j => if 27 ≤ j ∧ j < 27 + w then M 1 (j + 1) else upd (upd (upd (upd (M 1) (47 + q) (M 1 27)) (63 + q) (M 1 6)) 6 (M 1 6 + 1)) 5 (nI w) j) (27 + w) 0) 14 p') := by
  have hd : r_X5_depth M = dpt k := by unfold r_X5_depth dpt; rw [hk]
  unfold p_X5_puts
  rw [hp, hd, hq, show (63 : Int32) = nI 63 from rfl, show (47 : Int32) = nI 47 from rfl, nI_add, nI_add, nI_clamp (by omega), nI_clamp (by omega)]
  have a1 : upd (M 1) (47 + q) (M 1 27) 6 = M 1 6 := fu_n (by omega)
  have a2 : upd (upd (M 1) (47 + q) (M 1 27)) (63 + q) (M 1 6) 6 = M 1 6 := by rw [fu_n (by omega), a1]
  have a3 : upd (upd (upd (M 1) (47 + q) (M 1 27)) (63 + q) (M 1 6)) 6 (M 1 6 + 1) 5 - 1 = nI w := by rw [fu_n (by decide), fu_n (by omega), fu_n (by omega), hw]; exact nI_pred w
  rw [a1, a2, a3]
  have a4 : upd (upd (upd (upd (M 1) (47 + q) (M 1 27)) (63 + q) (M 1 6)) 6 (M 1 6 + 1)) 5 (nI w) 5 = nI w := fu_s
  rw [a4]
  have L := p69_at hw9 (((nI w).toInt - (0 : Int32).toInt).toNat + 1) 0 _ a4 (by rw [nI_toInt (by omega), zero_toI]; omega) (Nat.zero_le _)
  rw [show (nI 0) = (0 : Int32) from rfl] at L
  rw [L]
  dsimp only
  have b1 : (fun j => if 27 + 0 ≤ j ∧ j < 27 + w then upd (upd (upd (upd (M 1) (47 + q) (M 1 27)) (63 + q) (M 1 6)) 6 (M 1 6 + 1)) 5 (nI w) (j + 1) else upd (upd (upd (upd (M 1) (47 + q) (M 1 27)) (63 + q) (M 1 6)) 6 (M 1 6 + 1)) 5 (nI w) j) = (fun j => if 27 ≤ j ∧ j < 27 + w then M 1 (j + 1) else upd (upd (upd (upd (M 1) (47 + q) (M 1 27)) (63 + q) (M 1 6)) 6 (M 1 6 + 1)) 5 (nI w) j) := by
    funext j
    by_cases c : 27 ≤ j ∧ j < 27 + w
    · rw [if_pos c, if_pos (by omega), fu_n (by omega), fu_n (by omega), fu_n (by omega), fu_n (by omega)]
    · rw [if_neg c, if_neg (by omega)]
  have b2 : (if 27 + 0 ≤ 5 ∧ 5 < 27 + w then upd (upd (upd (upd (M 1) (47 + q) (M 1 27)) (63 + q) (M 1 6)) 6 (M 1 6 + 1)) 5 (nI w) (5 + 1) else upd (upd (upd (upd (M 1) (47 + q) (M 1 27)) (63 + q) (M 1 6)) 6 (M 1 6 + 1)) 5 (nI w) 5) = nI w := by rw [if_neg (by omega)]; exact fu_s
  rw [b2, b1, show (27 : Int32) = nI 27 from rfl, nI_add, nI_clamp (by omega)]
  have g0 : ∀ (f : F1), f 0 = M 1 0 → f 14 = M 1 14 → p_X5_to (va_up M 1 f) 0 3 (r_X5_around (va_up M 1 f) (r_X5_of (va_up M 1 f) 0 3 + 1)) = va_up M 1 (upd f 14 p') := by
    intro f h1 h2
    have h3 : r_X5_of (va_up M 1 f) 0 3 = nI p := by
      rw [← hp, show (3 : Int32) = nI 3 from rfl, of_0 _ 3 (by decide), of_0 _ 3 (by decide), up1]; exact h2
    rw [h3, around5 (k := k) (by rw [up1, h1]; exact hk), he, show (3 : Int32) = nI 3 from rfl, to_0 _ 3 _ (by decide), upup, up1]
  refine g0 _ ?_ ?_
  · rw [fu_n (by omega), if_neg (by omega), fu_n (by omega), fu_n (by omega), fu_n (by omega), fu_n (by omega)]
  · rw [fu_n (by omega), if_neg (by omega), fu_n (by omega), fu_n (by omega), fu_n (by omega), fu_n (by omega)]
theorem putWord_at {S : CS} {k p q w : Nat} {p' : Int32} (hk : S 0 0 = nI k) (hp : S 1 3 = nI p) (hq : nI p &&& (dpt k - 1) = nI q) (hq6 : q < 16) (he : (nI p + 1) &&& msk k = p') (hw : S 0 10 = nI (w + 1)) (hw9 : w ≤ 19) :
    p_X2_putWord S = va_up (va_up (va_up (va_up (va_up S 0 (upd (upd (S 0) 12 (S 0 12 + 1)) 10 (nI w))) 3 (upd (S 3) q (S 5 0))) 4 (upd (S 4) q (S 0 12))) 5 (fun j => if j < w then S 5 (j + 1) else S 5 j)) 1 (upd (S 1) 3 p') := by
  have hd : r_X2_placeOf S (S 1 3) = nI q := by unfold r_X2_placeOf r_X2_depth; rw [hp, hk]; exact hq
  unfold p_X2_putWord
  rw [hd, show (0 : Int32) = nI 0 from rfl, valueAt_in (by decide) (by decide), setAt_in (by decide) hq6, setAt_in (by decide) hq6, hw, nI_pred w]
  dsimp only
  have h10 : va_up (va_up (va_up S 0 (upd (upd (S 0) 12 (S 0 12 + 1)) 10 (nI w))) 3 (upd (S 3) q (S 5 0))) 4 (upd (S 4) q (S 0 12)) 0 10 = nI w := rfl
  rw [h10, p62_at hw9 _ 0 _ h10 (by rw [nI_toInt (by omega)]; have : (nI 0).toInt = 0 := by decide
                                    omega) (Nat.zero_le _)]
  have b1 : (fun j => if 0 ≤ j ∧ j < w then va_up (va_up (va_up S 0 (upd (upd (S 0) 12 (S 0 12 + 1)) 10 (nI w))) 3 (upd (S 3) q (S 5 0))) 4 (upd (S 4) q (S 0 12)) 5 (j + 1) else va_up (va_up (va_up S 0 (upd (upd (S 0) 12 (S 0 12 + 1)) 10 (nI w))) 3 (upd (S 3) q (S 5 0))) 4 (upd (S 4) q (S 0 12)) 5 j) = (fun j => if j < w then S 5 (j + 1) else S 5 j) := by
    funext j
    by_cases c : j < w
    · rw [if_pos c, if_pos ⟨Nat.zero_le _, c⟩]; rfl
    · rw [if_neg c, if_neg (fun z => c z.2)]; rfl
  rw [b1]
  dsimp only
  rw [around2 (k := k) (by rw [va_up_n (by decide), va_up_n (by decide), va_up_n (by decide), va_up_s, fu_n (by decide), fu_n (by decide)]; exact hk)]
  have b2 : va_up (va_up (va_up (va_up S 0 (upd (upd (S 0) 12 (S 0 12 + 1)) 10 (nI w))) 3 (upd (S 3) q (S 5 0))) 4 (upd (S 4) q (S 0 12))) 5 (fun j => if j < w then S 5 (j + 1) else S 5 j) 1 = S 1 := rfl
  rw [b2, hp, he]
theorem R_put {S M : CS} {k wc t : Nat} (h : R S (M 1) k wc t) (hw1 : 0 < wc) : R (p_X2_putWord S) (p_X5_puts M 1) k (wc - 1) t ∧ (∀ i, i ≠ 1 → p_X5_puts M i = M i) ∧ p_X2_putWord S 0 2 = S 0 2 := by
  obtain ⟨p, hp, e1, e2⟩ := RW_place h
  obtain ⟨q, hq, eq⟩ := chk_Q h.1 hp
  obtain ⟨p', hp', ep⟩ := chk_M2 h.1 hp
  obtain ⟨hk1, hk2⟩ := R_k h
  obtain ⟨hk, hw, ⟨n0, n1, n2, n3, n4, n5, n6, n7, n8, n9, n10, n11, n12, n13⟩, hW, hR, r3, r4, r5, r6⟩ := h
  obtain ⟨w, rfl⟩ : ∃ w, wc = w + 1 := ⟨wc - 1, by omega⟩
  rw [puts_at hk2 e2 eq hq ep n7 (by omega), putWord_at hk1 e1 eq hq ep n6 (by omega), va_up_s]
  have F : ∀ j, j ≠ 5 → j ≠ 6 → j ≠ 14 → (j < 27 ∨ 47 ≤ j) → j ≠ 47 + q → j ≠ 63 + q → (upd (upd (fun j => if 27 ≤ j ∧ j < 27 + w then M 1 (j + 1) else upd (upd (upd (upd (M 1) (47 + q) (M 1 27)) (63 + q) (M 1 6)) 6 (M 1 6 + 1)) 5 (nI w) j) (27 + w) 0) 14 (nI p')) j = M 1 j := by
    intro j h5 h6 h14 hj h47 h63
    rw [fu_n h14, fu_n (by omega), if_neg (by omega), fu_n h5, fu_n h6, fu_n h63, fu_n h47]
  generalize hz : (upd (upd (fun j => if 27 ≤ j ∧ j < 27 + w then M 1 (j + 1) else upd (upd (upd (upd (M 1) (47 + q) (M 1 27)) (63 + q) (M 1 6)) 6 (M 1 6 + 1)) 5 (nI w) j) (27 + w) 0) 14 (nI p')) = z at F
  have z5 : z 5 = nI w := by rw [← hz, fu_n (by decide), fu_n (by omega), if_neg (by omega), fu_s]
  have z6 : z 6 = M 1 6 + 1 := by rw [← hz, fu_n (by decide), fu_n (by omega), if_neg (by omega), fu_n (by decide), fu_s]
  have z14 : z 14 = nI p' := by rw [← hz, fu_s]
  have z47 : z (47 + q) = M 1 27 := by rw [← hz, fu_n (by omega), fu_n (by omega), if_neg (by omega), fu_n (by omega), fu_n (by omega), fu_n (by omega), fu_s]
  have z63 : z (63 + q) = M 1 6 := by rw [← hz, fu_n (by omega), fu_n (by omega), if_neg (by omega), fu_n (by omega), fu_n (by omega), fu_s]
  have z27 : ∀ i, i < w → z (27 + i) = M 1 (27 + (i + 1)) := by
    intro i hi
    rw [← hz, fu_n (by omega), fu_n (by omega), if_pos (by omega)]; rfl
  refine ⟨⟨hk, by omega, ?_, ?_, RS_of hR rfl (fun j h1 h2 => F j (by omega) (by omega) (by omega) (by omega) (by omega) (by omega)), ?_⟩, fun i hi => va_up_n hi, rfl⟩
  · have c0 : va_up (va_up (va_up (va_up (va_up S 0 (upd (upd (S 0) 12 (S 0 12 + 1)) 10 (nI w))) 3 (upd (S 3) q (S 5 0))) 4 (upd (S 4) q (S 0 12))) 5 (fun j => if j < w then S 5 (j + 1) else S 5 j)) 1 (upd (S 1) 3 (nI p')) 0 = upd (upd (S 0) 12 (S 0 12 + 1)) 10 (nI w) := rfl
    rw [c0, show w + 1 - 1 = w from rfl]
    have f : ∀ j, j ≠ 12 → j ≠ 10 → upd (upd (S 0) 12 (S 0 12 + 1)) 10 (nI w) j = S 0 j := fun j h1 h2 => by rw [fu_n h2, fu_n h1]
    refine ⟨?_, ?_, ?_, ?_, ?_, ?_, ?_, ?_, ?_, ?_, ?_, ?_, ?_, ?_⟩
    · rw [f _ (by decide) (by decide)]; exact n0
    · rw [F _ (by decide) (by decide) (by decide) (by decide) (by omega) (by omega)]; exact n1
    · rw [F _ (by decide) (by decide) (by decide) (by decide) (by omega) (by omega), f _ (by decide) (by decide)]; exact n2
    · rw [F _ (by decide) (by decide) (by decide) (by decide) (by omega) (by omega), f _ (by decide) (by decide)]; exact n3
    · rw [F _ (by decide) (by decide) (by decide) (by decide) (by omega) (by omega), f _ (by decide) (by decide)]; exact n4
    · rw [F _ (by decide) (by decide) (by decide) (by decide) (by omega) (by omega), f _ (by decide) (by decide)]; exact n5
    · rw [fu_s]
    · exact z5
    · rw [z6, n8, fu_n (by decide), fu_s]
    · rw [f _ (by decide) (by decide)]; exact n9
    · rw [F _ (by decide) (by decide) (by decide) (by decide) (by omega) (by omega)]; exact n10
    · rw [F _ (by decide) (by decide) (by decide) (by decide) (by omega) (by omega), f _ (by decide) (by decide)]; exact n11
    · rw [F _ (by decide) (by decide) (by decide) (by decide) (by omega) (by omega), f _ (by decide) (by decide)]; exact n12
    · rw [F _ (by decide) (by decide) (by decide) (by decide) (by omega) (by omega)]; exact n13
  · obtain ⟨h0, h1, h2, h3, h4, h5, h6, h7, h8, p0, f, s, e3, e4, e5, hp0, hf, hs⟩ := hW
    have c2 : va_up (va_up (va_up (va_up (va_up S 0 (upd (upd (S 0) 12 (S 0 12 + 1)) 10 (nI w))) 3 (upd (S 3) q (S 5 0))) 4 (upd (S 4) q (S 0 12))) 5 (fun j => if j < w then S 5 (j + 1) else S 5 j)) 1 (upd (S 1) 3 (nI p')) 1 = upd (S 1) 3 (nI p') := rfl
    rw [c2]
    have G : ∀ j, j < 8 → j ≠ 3 → z (11 + j) = upd (S 1) 3 (nI p') j → True := fun _ _ _ _ => trivial
    refine ⟨?_, ?_, ?_, ?_, ?_, ?_, ?_, ?_, ?_, p', f, s, ?_, ?_, ?_, hp', hf, hs⟩
    · rw [F _ (by decide) (by decide) (by decide) (by decide) (by omega) (by omega), fu_n (by decide)]; exact h0
    · rw [F _ (by decide) (by decide) (by decide) (by decide) (by omega) (by omega), fu_n (by decide)]; exact h1
    · rw [F _ (by decide) (by decide) (by decide) (by decide) (by omega) (by omega), fu_n (by decide)]; exact h2
    · rw [z14, fu_s]
    · rw [F _ (by decide) (by decide) (by decide) (by decide) (by omega) (by omega), fu_n (by decide)]; exact h4
    · rw [F _ (by decide) (by decide) (by decide) (by decide) (by omega) (by omega), fu_n (by decide)]; exact h5
    · rw [F _ (by decide) (by decide) (by decide) (by decide) (by omega) (by omega), fu_n (by decide)]; exact h6
    · rw [F _ (by decide) (by decide) (by decide) (by decide) (by omega) (by omega), fu_n (by decide)]; exact h7
    · rw [fu_n (by decide)]; exact h8
    · rw [fu_s]
    · rw [fu_n (by decide)]; exact e4
    · rw [fu_n (by decide)]; exact e5
  · refine ⟨fun i hi => ?_, fun i hi => ?_, fun i hi => ?_, fun j hj hk => ?_⟩
    · rw [show va_up (va_up (va_up (va_up (va_up S 0 (upd (upd (S 0) 12 (S 0 12 + 1)) 10 (nI w))) 3 (upd (S 3) q (S 5 0))) 4 (upd (S 4) q (S 0 12))) 5 (fun j => if j < w then S 5 (j + 1) else S 5 j)) 1 (upd (S 1) 3 (nI p')) 3 = upd (S 3) q (S 5 0) from rfl]
      by_cases c : i = q
      · subst c; rw [z47, fu_s, ← r5 0 (by omega)]
      · rw [fu_n c, F _ (by omega) (by omega) (by omega) (by omega) (by omega) (by omega)]; exact r3 i hi
    · rw [show va_up (va_up (va_up (va_up (va_up S 0 (upd (upd (S 0) 12 (S 0 12 + 1)) 10 (nI w))) 3 (upd (S 3) q (S 5 0))) 4 (upd (S 4) q (S 0 12))) 5 (fun j => if j < w then S 5 (j + 1) else S 5 j)) 1 (upd (S 1) 3 (nI p')) 4 = upd (S 4) q (S 0 12) from rfl]
      by_cases c : i = q
      · subst c; rw [z63, fu_s, n8]
      · rw [fu_n c, F _ (by omega) (by omega) (by omega) (by omega) (by omega) (by omega)]; exact r4 i hi
    · rw [show va_up (va_up (va_up (va_up (va_up S 0 (upd (upd (S 0) 12 (S 0 12 + 1)) 10 (nI w))) 3 (upd (S 3) q (S 5 0))) 4 (upd (S 4) q (S 0 12))) 5 (fun j => if j < w then S 5 (j + 1) else S 5 j)) 1 (upd (S 1) 3 (nI p')) 5 = (fun j => if j < w then S 5 (j + 1) else S 5 j) from rfl]
      dsimp only
      rw [z27 i (by omega), if_pos (by omega)]; exact r5 (i + 1) (by omega)
    · rw [F _ (by omega) (by omega) (by omega) (by omega) (by omega) (by omega)]; exact r6 j hj hk
