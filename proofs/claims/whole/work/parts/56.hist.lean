/-! copies -/
theorem copyRow16 (f g : F1) {j : Nat} (hj : j < 16) : p_X4_copyRow f g 16 16 j = f j := copyRow_at (by decide) f g hj
theorem copyRow20 (f g : F1) {j : Nat} (hj : j < 20) : p_X4_copyRow f g 20 20 j = f j := copyRow_at (by decide) f g hj
theorem copy_3 (S T : CS) : p_X2_copy S T 3 = p_X4_copyRow (T 3) (S 3) 16 16 := by
  unfold p_X2_copy; dsimp only; rw [va_up_n (by decide), va_up_n (by decide), va_up_n (by decide), va_up_s]
theorem copy_4 (S T : CS) : p_X2_copy S T 4 = p_X4_copyRow (T 4) (S 4) 16 16 := by
  unfold p_X2_copy; dsimp only; rw [va_up_n (by decide), va_up_n (by decide), va_up_s]
theorem copy_5 (S T : CS) : p_X2_copy S T 5 = p_X4_copyRow (T 5) (S 5) 20 20 := by
  unfold p_X2_copy; dsimp only; rw [va_up_n (by decide), va_up_s]
theorem copy_6 (S T : CS) : p_X2_copy S T 6 = p_X4_copyRow (T 6) (S 6) 16 16 := by
  unfold p_X2_copy; dsimp only; rw [va_up_s]
theorem copy_se (S T : CS) : SE (p_X2_copy S T) T := by
  refine ⟨⟨rfl, rfl, rfl, rfl, rfl, rfl, rfl, rfl, rfl⟩, ?_, fun i hi => ?_, fun i hi => ?_, fun i hi => ?_, fun i hi => ?_⟩
  · intro s hs
    rcases hs with rfl | rfl
    · exact ⟨rfl, rfl, rfl, rfl, rfl, rfl, rfl, rfl⟩
    · exact ⟨rfl, rfl, rfl, rfl, rfl, rfl, rfl, rfl⟩
  · rw [copy_3]; exact copyRow16 (T 3) (S 3) hi
  · rw [copy_4]; exact copyRow16 (T 4) (S 4) hi
  · rw [copy_5]; exact copyRow20 (T 5) (S 5) hi
  · rw [copy_6]; exact copyRow16 (T 6) (S 6) hi
/-! a ring built anew -/
theorem fillRow16 (f : F1) (v : Int32) {j : Nat} (hj : j < 16) : p_X4_fillRow f v 16 j = v := fillRow_at (by decide) f hj
theorem empty_3 (S : CS) (x g : Int32) : p_X2_emptyRing S x g 3 = p_X4_fillRow (S 3) 0 16 := by
  unfold p_X2_emptyRing; dsimp only; rw [va_up_n (by decide), va_up_s]
theorem empty_4 (S : CS) (x g : Int32) : p_X2_emptyRing S x g 4 = p_X4_fillRow (S 4) (-5) 16 := by
  unfold p_X2_emptyRing; dsimp only; rw [va_up_s]
theorem empty_5 (S : CS) (x g : Int32) : p_X2_emptyRing S x g 5 = S 5 := by
  unfold p_X2_emptyRing; dsimp only; rw [va_up_n (by decide), va_up_n (by decide), va_up_n (by decide), va_up_n (by decide), va_up_n (by decide)]
theorem empty_6 (S : CS) (x g : Int32) : p_X2_emptyRing S x g 6 = S 6 := by
  unfold p_X2_emptyRing; dsimp only; rw [va_up_n (by decide), va_up_n (by decide), va_up_n (by decide), va_up_n (by decide), va_up_n (by decide)]
theorem empty_0 (S : CS) (x g : Int32) : p_X2_emptyRing S x g 0 = upd (upd (upd (upd (upd (S 0) 0 x) 1 g) 12 0) 13 0) 14 0 := by
  unfold p_X2_emptyRing; dsimp only; rw [va_up_n (by decide), va_up_n (by decide), va_up_n (by decide), va_up_n (by decide), va_up_s]
theorem empty_1 (S : CS) (x g : Int32) : p_X2_emptyRing S x g 1 = p_X1_clearPointers (S 1) := by
  unfold p_X2_emptyRing; dsimp only; rw [va_up_n (by decide), va_up_n (by decide), va_up_n (by decide), va_up_s]
theorem empty_2 (S : CS) (x g : Int32) : p_X2_emptyRing S x g 2 = p_X1_clearPointers (S 2) := by
  unfold p_X2_emptyRing; dsimp only; rw [va_up_n (by decide), va_up_n (by decide), va_up_s]
theorem R_fresh {S : CS} {a a' : F1} {k wc t k' : Nat} {g : Int32} (h : R S a k wc t) (hk' : 1 ≤ k' ∧ k' ≤ 4) (h0 : a' 0 = nI k') (h1 : a' 1 = nb g) (h24 : ∀ j, 2 ≤ j → j ≤ 4 → a' j = a j) (h5 : a' 5 = nI wc) (h6 : ∀ j, 6 ≤ j → j ≤ 10 → a' j = 0)
    (hs : ∀ j, (11 ≤ j ∧ j ≤ 13 ∨ 17 ≤ j ∧ j ≤ 21 ∨ 25 ≤ j ∧ j ≤ 26) → a' j = a j) (hp : ∀ j, (14 ≤ j ∧ j ≤ 16 ∨ 22 ≤ j ∧ j ≤ 24) → a' j = 0) (hw : ∀ i, i < wc → a' (27 + i) = a (27 + i)) (h47 : ∀ i, i < 16 → a' (47 + i) = 0) (h63 : ∀ i, i < 16 → a' (63 + i) = -5) : R (p_X2_emptyRing S (nI k') g) a' k' wc 0 := by
  obtain ⟨hk, hwc, ⟨n0, n1, n2, n3, n4, n5, n6, n7, n8, n9, n10, n11, n12, n13⟩, ⟨w0, w1, w2, w3, w4, w5, w6, w7, w8, -⟩, ⟨v0, v1, v2, v3, v4, v5, v6, v7, v8, -⟩, r3, r4, r5, r6⟩ := h
  have z : (0 : Nat) < 2 ^ (k' + 1) := Nat.two_pow_pos _
  unfold R RN RW
  rw [empty_0, empty_1, empty_2, empty_3, empty_4, empty_5, empty_6]
  refine ⟨hk', hwc, ⟨rfl, h0, h1, ?_, ?_, ?_, n6, h5, h6 6 (by decide) (by decide), rfl, h6 7 (by decide) (by decide), h6 8 (by decide) (by decide), ?_, h6 10 (by decide) (by decide)⟩, ⟨?_, ?_, ?_, ?_, ?_, ?_, ?_, ?_, ?_, 0, 0, 0, rfl, rfl, rfl, z, z, z⟩, ⟨?_, ?_, ?_, ?_, ?_, ?_, ?_, ?_, ?_, 0, 0, 0, rfl, rfl, rfl, z, z, z⟩, fun i hi => ?_, fun i hi => ?_, fun i hi => ?_, fun j hj hk => absurd hj (Nat.not_lt_zero _)⟩
  · rw [h24 2 (by decide) (by decide)]; exact n3
  · rw [h24 3 (by decide) (by decide)]; exact n4
  · rw [h24 4 (by decide) (by decide)]; exact n5
  · rw [h6 9 (by decide) (by decide)]; exact (show (0 : Int32) = nI 0 - 0 by decide)
  · rw [hs 11 (by omega)]; exact w0
  · rw [hs (11 + 1) (by omega)]; exact w1
  · rw [hs (11 + 2) (by omega)]; exact w2
  · rw [hp (11 + 3) (by omega)]; rfl
  · rw [hp (11 + 4) (by omega)]; rfl
  · rw [hp (11 + 5) (by omega)]; rfl
  · rw [hs (11 + 6) (by omega)]; exact w6
  · rw [hs (11 + 7) (by omega)]; exact w7
  · exact w8
  · rw [hs 19 (by omega)]; exact v0
  · rw [hs (19 + 1) (by omega)]; exact v1
  · rw [hs (19 + 2) (by omega)]; exact v2
  · rw [hp (19 + 3) (by omega)]; rfl
  · rw [hp (19 + 4) (by omega)]; rfl
  · rw [hp (19 + 5) (by omega)]; rfl
  · rw [hs (19 + 6) (by omega)]; exact v6
  · rw [hs (19 + 7) (by omega)]; exact v7
  · exact v8
  · rw [h47 i hi]; exact (fillRow16 (S 3) 0 hi).symm
  · rw [h63 i hi]; exact (fillRow16 (S 4) (-5) hi).symm
  · rw [hw i hi]; exact r5 i hi
/-- no word waits -/
theorem R_wc0 {S : CS} {a : F1} {k wc t : Nat} (h : R S a k wc t) : R (va_up S 0 (upd (S 0) 10 0)) (upd a 5 0) k 0 t := by
  obtain ⟨hk, hwc, ⟨n0, n1, n2, n3, n4, n5, n6, n7, n8, n9, n10, n11, n12, n13⟩, hW, hR, r3, r4, r5, r6⟩ := h
  refine ⟨hk, by decide, ⟨n0, ?_, ?_, ?_, ?_, ?_, rfl, rfl, ?_, n9, ?_, ?_, ?_, ?_⟩, RS_of hW rfl (fun j h1 h2 => fu_n (by omega)), RS_of hR rfl (fun j h1 h2 => fu_n (by omega)), fun i hi => ?_, fun i hi => ?_, fun i hi => absurd hi (Nat.not_lt_zero _), fun j hj hk => ?_⟩
  · rw [fu_n (by decide)]; exact n1
  · rw [fu_n (by decide)]; exact n2
  · rw [fu_n (by decide)]; exact n3
  · rw [fu_n (by decide)]; exact n4
  · rw [fu_n (by decide)]; exact n5
  · rw [fu_n (by decide)]; exact n8
  · rw [fu_n (by decide)]; exact n10
  · rw [fu_n (by decide)]; exact n11
  · rw [fu_n (by decide)]; exact n12
  · rw [fu_n (by decide)]; exact n13
  · rw [fu_n (by omega)]; exact r3 i hi
  · rw [fu_n (by omega)]; exact r4 i hi
  · rw [fu_n (by omega)]; exact r6 j hj hk
/-- the reference's ring built anew -/
def bld (a : F1) (x g : Int32) : F1 := fun j => if 63 ≤ j ∧ j < 79 then (-5) else if 27 ≤ j ∧ j < 96 then 0 else upd (upd (upd (upd (upd (upd (upd (upd (upd (upd (upd (upd (upd (upd a 0 x) 1 g) 14 0) 15 0) 16 0) 22 0) 23 0) 24 0) 5 0) 6 0) 7 0) 8 0) 9 0) 10 0 j
theorem builds_at (M : CS) (x g : Int32) : p_X5_builds M x g = va_up M 1 (bld (M 1) x g) := by
  unfold p_X5_builds
  dsimp only
  rw [show (5 : Int32) = nI 5 from rfl, show (4 : Int32) = nI 4 from rfl, show (3 : Int32) = nI 3 from rfl]
  simp only [to_0 _ 3 _ (by decide), to_0 _ 4 _ (by decide), to_0 _ 5 _ (by decide), to_1 _ 3 _ (by decide), to_1 _ 4 _ (by decide), to_1 _ 5 _ (by decide), upup, up1]
  rw [show (27 : Int32) = nI 27 from rfl, show (0 : Int32) = nI 0 from rfl, b74_at _ 27 _ (by decide) (by decide), b95_at _ 0 _ (by decide) (by decide)]
  rfl
theorem bld_n {a : F1} {x g : Int32} {j : Nat} (h : 2 ≤ j ∧ j ≤ 4 ∨ 11 ≤ j ∧ j ≤ 13 ∨ 17 ≤ j ∧ j ≤ 21 ∨ 25 ≤ j ∧ j ≤ 26) : bld a x g j = a j := by
  unfold bld
  rw [if_neg (by omega), if_neg (by omega), fu_n (by omega), fu_n (by omega), fu_n (by omega), fu_n (by omega), fu_n (by omega), fu_n (by omega), fu_n (by omega), fu_n (by omega), fu_n (by omega), fu_n (by omega), fu_n (by omega), fu_n (by omega), fu_n (by omega), fu_n (by omega)]
theorem bld_z {a : F1} {x g : Int32} {j : Nat} (h : 5 ≤ j ∧ j ≤ 10 ∨ 14 ≤ j ∧ j ≤ 16 ∨ 22 ≤ j ∧ j ≤ 24) : bld a x g j = 0 := by
  have c : j = 5 ∨ j = 6 ∨ j = 7 ∨ j = 8 ∨ j = 9 ∨ j = 10 ∨ j = 14 ∨ j = 15 ∨ j = 16 ∨ j = 22 ∨ j = 23 ∨ j = 24 := by omega
  rcases c with rfl | rfl | rfl | rfl | rfl | rfl | rfl | rfl | rfl | rfl | rfl | rfl <;> rfl
theorem bld_47 {a : F1} {x g : Int32} {i : Nat} (h : i < 16) : bld a x g (47 + i) = 0 := by
  unfold bld; rw [if_neg (by omega), if_pos (by omega)]
theorem bld_63 {a : F1} {x g : Int32} {i : Nat} (h : i < 16) : bld a x g (63 + i) = -5 := by
  unfold bld; rw [if_pos (by omega)]
theorem nb_01 {g : Int32} (h : g = 0 ∨ g = 1) : nb g = g := by rcases h with rfl | rfl <;> decide
/-- build -/
theorem RT_build {S M : CS} {k wc t u k' : Nat} {g : Int32} (h : RT S (M 1) k wc t u) (hk' : 1 ≤ k' ∧ k' ≤ 4) (hg : g = 0 ∨ g = 1) :
    RT (va_up (p_X2_emptyRing S (nI k') g) 0 (upd (p_X2_emptyRing S (nI k') g 0) 10 0)) (p_X5_builds M (nI k') g 1) k' 0 0 u := by
  have h1 := R_wc0 h.1
  rw [builds_at, va_up_s]
  have h2 : R (p_X2_emptyRing (va_up S 0 (upd (S 0) 10 0)) (nI k') g) (bld (M 1) (nI k') g) k' 0 0 := by
    refine R_fresh h1 hk' rfl ((nb_01 hg).symm ▸ rfl) (fun j h1 h2 => ?_) rfl (fun j h1 h2 => bld_z (by omega)) (fun j hj => ?_) (fun j hj => bld_z (by omega)) (fun i hi => absurd hi (Nat.not_lt_zero _)) (fun i hi => bld_47 hi) (fun i hi => bld_63 hi)
    · rw [bld_n (by omega), fu_n (by omega)]
    · rw [bld_n (by omega), fu_n (by omega)]
  have a0 : va_up (p_X2_emptyRing S (nI k') g) 0 (upd (p_X2_emptyRing S (nI k') g 0) 10 0) 0 = upd (upd (upd (upd (upd (upd (S 0) 0 (nI k')) 1 g) 12 0) 13 0) 14 0) 10 0 := by rw [va_up_s, empty_0]
  have b0 : p_X2_emptyRing (va_up S 0 (upd (S 0) 10 0)) (nI k') g 0 = upd (upd (upd (upd (upd (upd (S 0) 10 0) 0 (nI k')) 1 g) 12 0) 13 0) 14 0 := by rw [empty_0, va_up_s]
  refine ⟨R_se h2 ⟨?_, ?_, fun i _ => ?_, fun i _ => ?_, fun i _ => ?_, fun i _ => ?_⟩, ?_, Nat.zero_le _⟩
  · rw [a0, b0]; exact ⟨rfl, rfl, rfl, rfl, rfl, rfl, rfl, rfl, rfl⟩
  · intro s hs
    have e : va_up (p_X2_emptyRing S (nI k') g) 0 (upd (p_X2_emptyRing S (nI k') g 0) 10 0) s = p_X2_emptyRing (va_up S 0 (upd (S 0) 10 0)) (nI k') g s := by
      rcases hs with rfl | rfl
      · rw [va_up_n (by decide), empty_1, empty_1, va_up_n (by decide)]
      · rw [va_up_n (by decide), empty_2, empty_2, va_up_n (by decide)]
    rw [e]; exact ⟨rfl, rfl, rfl, rfl, rfl, rfl, rfl, rfl⟩
  · rw [va_up_n (by decide), empty_3, empty_3, va_up_n (by decide)]
  · rw [va_up_n (by decide), empty_4, empty_4, va_up_n (by decide)]
  · rw [va_up_n (by decide), empty_5, empty_5, va_up_n (by decide)]
  · rw [va_up_n (by decide), empty_6, empty_6, va_up_n (by decide)]
  · rw [a0]; exact h.2.1
/-! a word that waits -/
theorem R_wait {S : CS} {a : F1} {k wc t : Nat} (h : R S a k wc t) (hw : wc < 20) (x : Int32) : R (va_up (va_up S 0 (upd (S 0) 10 (S 0 10 + 1))) 5 (upd (S 5) wc x)) (upd (upd a (27 + wc) x) 5 (nI (wc + 1))) k (wc + 1) t := by
  obtain ⟨hk, hwc, ⟨n0, n1, n2, n3, n4, n5, n6, n7, n8, n9, n10, n11, n12, n13⟩, hW, hR, r3, r4, r5, r6⟩ := h
  have F : ∀ j, j ≠ 5 → j ≠ 27 + wc → upd (upd a (27 + wc) x) 5 (nI (wc + 1)) j = a j := fun j h1 h2 => by rw [fu_n h1, fu_n h2]
  refine ⟨hk, hw, ⟨n0, ?_, ?_, ?_, ?_, ?_, ?_, rfl, ?_, n9, ?_, ?_, ?_, ?_⟩, RS_of hW rfl (fun j h1 h2 => F j (by omega) (by omega)), RS_of hR rfl (fun j h1 h2 => F j (by omega) (by omega)), fun i hi => ?_, fun i hi => ?_, fun i hi => ?_, fun j hj hk => ?_⟩
  · rw [F _ (by decide) (by omega)]; exact n1
  · rw [F _ (by decide) (by omega)]; exact n2
  · rw [F _ (by decide) (by omega)]; exact n3
  · rw [F _ (by decide) (by omega)]; exact n4
  · rw [F _ (by decide) (by omega)]; exact n5
  · show S 0 10 + 1 = _; rw [n6, nI_1]
  · rw [F _ (by decide) (by omega)]; exact n8
  · rw [F _ (by decide) (by omega)]; exact n10
  · rw [F _ (by decide) (by omega)]; exact n11
  · rw [F _ (by decide) (by omega)]; exact n12
  · rw [F _ (by decide) (by omega)]; exact n13
  · rw [F _ (by omega) (by omega)]; exact r3 i hi
  · rw [F _ (by omega) (by omega)]; exact r4 i hi
  · rw [fu_n (by omega), show va_up (va_up S 0 (upd (S 0) 10 (S 0 10 + 1))) 5 (upd (S 5) wc x) 5 = upd (S 5) wc x from rfl]
    by_cases c : i = wc
    · subst c; rw [fu_s, fu_s]
    · rw [fu_n (by omega), fu_n c]; exact r5 i (by omega)
  · rw [F _ (by omega) (by omega)]; exact r6 j hj hk
theorem waits_at {M : CS} {wc : Nat} (h5 : M 1 5 = nI wc) (hw : wc < 20) (x : Int32) : p_X5_waits M x = va_up M 1 (upd (upd (M 1) (27 + wc) x) 5 (nI (wc + 1))) := by
  unfold p_X5_waits
  rw [h5, show (27 : Int32) = nI 27 from rfl, nI_add, nI_clamp (by omega)]
  dsimp only
  rw [fu_n (show 5 ≠ 27 + wc by omega), h5, nI_1]
/-- one word that waits, in both -/
theorem RT_wait {S M : CS} {k wc t u : Nat} (h : RT S (M 1) k wc t u) (hw : wc < 20) (x : Int32) : RT (va_up (va_up S 0 (upd (S 0) 10 (S 0 10 + 1))) 5 (p_X4_setAt (S 5) (S 0 10) x 20)) (p_X5_waits M x 1) k (wc + 1) t u ∧ (∀ i, i ≠ 1 → p_X5_waits M x i = M i) := by
  have n6 : S 0 10 = nI wc := h.1.2.2.1.2.2.2.2.2.2.1
  have n7 : M 1 5 = nI wc := h.1.2.2.1.2.2.2.2.2.2.2.1
  have e : p_X4_setAt (S 5) (S 0 10) x 20 = upd (S 5) wc x := by rw [n6]; exact setAt_in (by decide) hw
  rw [waits_at n7 hw, va_up_s, e]
  exact ⟨⟨R_wait h.1 hw x, h.2.1, h.2.2⟩, fun i hi => va_up_n hi⟩
