/-! the reference reads -/
def MK (M Z : CS) : Prop := (∀ i, i ≠ 0 → Z i = M i) ∧ ∀ j, j = 4 ∨ j = 6 ∨ j = 8 → Z 0 j = M 0 j
theorem MK.refl (M : CS) : MK M M := ⟨fun _ _ => rfl, fun _ _ => rfl⟩
theorem MK.trans {M Y Z : CS} (h : MK M Y) (k : MK Y Z) : MK M Z := ⟨fun i hi => (k.1 i hi).trans (h.1 i hi), fun j hj => (k.2 j hj).trans (h.2 j hj)⟩
theorem MK_up {M : CS} {f : F1} (h : ∀ j, j = 4 ∨ j = 6 ∨ j = 8 → f j = M 0 j) : MK M (va_up M 0 f) := ⟨fun i hi => va_up_n hi, fun j hj => by rw [va_up_s]; exact h j hj⟩
theorem here_a {M : CS} {L c : Nat} (hL : L ≤ 60) (h8 : M 0 8 = nI L) (h9 : M 0 9 = nI c) (hc : c ≤ L) {a : Int32} (ha : ¬ a = -1) : r_X5_isHere M a a = if sg (M 6) L c = a then 1 else 0 := by
  unfold r_X5_isHere
  rw [in_w, h8, h9, nI_clamp (by omega)]
  by_cases q : c < L
  · rw [if_neg (nle_nI (by omega) q), sg_in q]
    unfold r_X4_isWithin
    by_cases e : M 6 c = a
    · rw [e, if_neg (show ¬ a < a by rw [Int32.lt_iff_toInt_lt]; omega), if_neg (show ¬ a < a by rw [Int32.lt_iff_toInt_lt]; omega), if_neg (show ¬ (1 : Int32) = 0 by decide), if_pos rfl]
    · rw [if_neg e]
      by_cases d : M 6 c < a
      · rw [if_pos d, if_pos rfl]
      · rw [if_neg d]
        by_cases b : a < M 6 c
        · rw [if_pos b, if_pos rfl]
        · exfalso
          apply e
          rw [Int32.lt_iff_toInt_lt] at d b
          exact Int32.toInt_inj.mp (by omega)
  · rw [if_pos (le_nI (by omega) (by omega) (by omega)), sg_out q, if_neg (fun e => ha e.symm)]
theorem here_d {M : CS} {L c l : Nat} (hL : L ≤ 60) (hl : l ≤ 9) (h8 : M 0 8 = nI L) (h9 : M 0 9 = nI c) (hc : c ≤ L) : r_X5_isHere M (nI (48 + l)) 57 = if nI l ≤ dg (sg (M 6) L) c then 1 else 0 := by
  unfold r_X5_isHere
  rw [in_w, h8, h9, nI_clamp (by omega)]
  by_cases q : c < L
  · rw [if_neg (nle_nI (by omega) q)]
    unfold r_X4_isWithin dg
    rw [sg_in q]
    have t48 : (48 : Int32).toInt = 48 := by decide
    have t57 : (57 : Int32).toInt = 57 := by decide
    have tl := nI_toInt (n := 48 + l) (by omega)
    have tl' := nI_toInt (n := l) (by omega)
    have tm : (-1 : Int32).toInt = -1 := by decide
    by_cases e : M 6 c < 48
    · have e' : M 6 c < nI (48 + l) := by rw [Int32.lt_iff_toInt_lt] at *; omega
      rw [if_pos e', if_pos rfl, if_pos e, if_neg (le_m1 (by omega))]
    · rw [if_neg e]
      by_cases f : M 6 c ≤ 57
      · have f' : ¬ (57 : Int32) < M 6 c := by rw [Int32.lt_iff_toInt_lt]; rw [Int32.le_iff_toInt_le] at f; omega
        have s : (M 6 c - 48).toInt = (M 6 c).toInt - 48 := by
          rw [Int32.lt_iff_toInt_lt] at e; rw [Int32.le_iff_toInt_le] at f
          rw [sub_toI (by omega) (by omega), t48]
        rw [if_neg f', if_pos f]
        by_cases g : M 6 c < nI (48 + l)
        · have g' : ¬ nI l ≤ M 6 c - 48 := by rw [Int32.le_iff_toInt_le, s]; rw [Int32.lt_iff_toInt_lt] at g; omega
          rw [if_pos g, if_pos rfl, if_neg g']
        · have g' : nI l ≤ M 6 c - 48 := by rw [Int32.le_iff_toInt_le, s]; rw [Int32.lt_iff_toInt_lt] at g; omega
          rw [if_neg g, if_neg (show ¬ (1 : Int32) = 0 by decide), if_pos g']
      · have f' : (57 : Int32) < M 6 c := by rw [Int32.lt_iff_toInt_lt]; rw [Int32.le_iff_toInt_le] at f; omega
        rw [if_pos f', ite_self, if_pos rfl, if_neg f, if_neg (le_m1 (by omega))]
  · rw [if_pos (le_nI (by omega) (by omega) (by omega))]
    unfold dg
    rw [sg_out q, if_pos (show (-1 : Int32) < 48 by decide), if_neg (le_m1 (n := l) (by omega))]
theorem tks_at {M : CS} {L c : Nat} (hL : L ≤ 60) (h8 : M 0 8 = nI L) (h9 : M 0 9 = nI c) (hc : c ≤ L) {a : Int32} (ha : ¬ a = -1) : (sg (M 6) L c = a ∧ r_X5_takesSign M a = 1 ∧ p_X5_takesSign M a = va_up M 0 (upd (M 0) 9 (nI (c + 1)))) ∨ (¬ sg (M 6) L c = a ∧ r_X5_takesSign M a = 0 ∧ p_X5_takesSign M a = va_up M 0 (upd (M 0) 9 (nI c))) := by
  unfold r_X5_takesSign p_X5_takesSign
  dsimp only
  rw [here_a hL h8 h9 hc ha]
  by_cases q : sg (M 6) L c = a
  · rw [if_pos q, if_neg (show ¬ (1 : Int32) = 0 by decide), h9, nI_1]; exact Or.inl ⟨q, rfl, rfl⟩
  · rw [if_neg q, if_pos rfl, h9, Int32.add_zero]; exact Or.inr ⟨q, rfl, rfl⟩
theorem dg_v {M : CS} {L c d : Nat} (hL : L ≤ 60) (h9 : M 0 9 = nI c) (hd : d ≤ 9) (h : dg (sg (M 6) L) c = nI d) : M 6 (M 0 9).toNatClampNeg - 48 = nI d := by
  rcases dg_c (sg (M 6) L) c with g | ⟨e, g1, g2, g3⟩
  · exact absurd (h.symm.trans g) (nI_nm1 (by omega))
  · have hcL := sg_lt g2 (nI_nm1 (by omega))
    rw [h] at g3
    rw [h9, nI_clamp (by omega), ← sg_in (x := M 6) hcL, g2, g3, show (48 : Int32) = nI 48 from rfl, pk_sub (by omega)]
    exact congrArg nI (by omega)
theorem rdn_at {M : CS} {L c l : Nat} (hL : L ≤ 60) (hl : l ≤ 1) (h8 : M 0 8 = nI L) (h9 : M 0 9 = nI c) (hc : c ≤ L) :
    r_X5_readsNumber M (nI l) = (if (nxN (sg (M 6) L) c (nI l)).2 = -1 then 0 else 1) ∧ p_X5_readsNumber M (nI l) 0 9 = nI (nxN (sg (M 6) L) c (nI l)).1 ∧ (¬ (nxN (sg (M 6) L) c (nI l)).2 = -1 → p_X5_readsNumber M (nI l) 0 10 = (nxN (sg (M 6) L) c (nI l)).2) ∧ (∀ i, i ≠ 0 → p_X5_readsNumber M (nI l) i = M i) ∧ (∀ j, j ≠ 9 → j ≠ 10 → p_X5_readsNumber M (nI l) 0 j = M 0 j) := by
  unfold r_X5_readsNumber p_X5_readsNumber nxN
  have z1 : ¬ (1 : Int32) = 0 := by decide
  have H := here_d (l := l) hL (by omega) h8 h9 hc
  rw [show (48 : Int32) + nI l = nI (48 + l) from nI_add 48 l, H]
  rcases dg_c (sg (M 6) L) c with h | ⟨d, g1, g2, g3⟩
  · rw [h, if_neg (le_m1 (by omega)), if_neg (le_m1 (by omega)), if_pos rfl, if_pos rfl]
    exact ⟨rfl, h9, fun e => absurd rfl e, fun _ _ => rfl, fun _ _ _ => rfl⟩
  · have hcL := sg_lt g2 (nI_nm1 (by omega))
    rw [g3]
    by_cases q : nI l ≤ nI d
    · rw [if_pos q, if_pos q, if_neg z1, if_neg z1, dg_v hL h9 g1 g3]
      have e9 : (M 0 9) + (1 : Int32) = nI (c + 1) := by rw [h9, nI_1]
      rw [e9]
      by_cases z : nI d = 0
      · rw [if_pos z, if_pos (show nI d ≤ 0 by rw [z]; decide), if_pos (show nI d ≤ 0 by rw [z]; decide), if_neg (nI_nm1 (by omega))]
        dsimp only
        exact ⟨rfl, rfl, fun _ => rfl, fun i hi => va_up_n hi, fun j a b => by rw [va_up_s, fu_n a, fu_n b]⟩
      · have d0 : 0 < d := by
          rcases Nat.eq_zero_or_pos d with e | e
          · subst e; exact absurd rfl z
          · exact e
        have nz : ¬ nI d ≤ 0 := nI_nle d0 (by omega)
        rw [if_neg z, if_neg nz, if_neg nz]
        dsimp only
        have H2 := here_d (M := va_up M 0 (upd (upd (M 0) 10 (nI d)) 9 (nI (c + 1)))) (l := 0) (c := c + 1) hL (by omega) h8 rfl hcL
        rw [show va_up M 0 (upd (upd (M 0) 10 (nI d)) 9 (nI (c + 1))) 6 = M 6 from rfl, show nI (48 + 0) = (48 : Int32) from rfl] at H2
        rw [H2]
        rcases dg_c (sg (M 6) L) (c + 1) with h | ⟨e, f1, f2, f3⟩
        · rw [h, if_neg (le_m1 (by omega)), if_pos rfl, if_pos rfl, if_pos rfl, if_neg (nI_nm1 (by omega))]
          exact ⟨rfl, rfl, fun _ => rfl, fun i hi => va_up_n hi, fun j a b => by rw [va_up_s, fu_n a, fu_n b]⟩
        · have V := dg_v (M := va_up M 0 (upd (upd (M 0) 10 (nI d)) 9 (nI (c + 1)))) (c := c + 1) hL rfl f1 f3
          have hcL2 := sg_lt f2 (nI_nm1 (by omega))
          rw [f3, if_pos (nI_le (Nat.zero_le _) (by omega)), if_neg z1, if_neg z1, if_neg (nI_nm1 (by omega))]
          have E : ((10 : Int32) * (va_up M 0 (upd (upd (M 0) 10 (nI d)) 9 (nI (c + 1))) 0 10) + va_up M 0 (upd (upd (M 0) 10 (nI d)) 9 (nI (c + 1))) 6 (va_up M 0 (upd (upd (M 0) 10 (nI d)) 9 (nI (c + 1))) 0 9).toNatClampNeg) - 48 = nI d * 10 + nI e := by
            rw [show va_up M 0 (upd (upd (M 0) 10 (nI d)) 9 (nI (c + 1))) 0 9 = nI (c + 1) from rfl, show va_up M 0 (upd (upd (M 0) 10 (nI d)) 9 (nI (c + 1))) 0 10 = nI d from rfl, show va_up M 0 (upd (upd (M 0) 10 (nI d)) 9 (nI (c + 1))) 6 = M 6 from rfl, nI_clamp (by omega), ← sg_in (x := M 6) hcL2, f2, show (10 : Int32) = nI 10 from rfl, show (48 : Int32) = nI 48 from rfl, pk_mul, pk_mul, nI_add, nI_add, pk_sub (by omega)]
            exact congrArg nI (by omega)
          rw [E, show (va_up M 0 (upd (upd (M 0) 10 (nI d)) 9 (nI (c + 1))) 0 9) + (1 : Int32) = nI (c + 2) from nI_1 (c + 1)]
          have e10 : nI d * 10 + nI e = nI (d * 10 + e) := by rw [show (10 : Int32) = nI 10 from rfl, pk_mul, nI_add]
          dsimp only
          rw [e10, if_neg (nI_nm1 (by omega))]
          exact ⟨rfl, rfl, fun _ => rfl, fun i hi => by rw [va_up_n hi, va_up_n hi], fun j a b => by rw [va_up_s, fu_n a, fu_n b, va_up_s, fu_n a, fu_n b]⟩
    · rw [if_neg q, if_neg q, if_pos rfl, if_pos rfl]
      exact ⟨rfl, h9, fun e => absurd rfl e, fun _ _ => rfl, fun _ _ _ => rfl⟩
theorem rdp_at {M : CS} {L c : Nat} (hL : L ≤ 60) (h8 : M 0 8 = nI L) (h9 : M 0 9 = nI c) (hc : c ≤ L) :
    r_X5_readsPart M = (nxP (sg (M 6) L) c).1 ∧ p_X5_readsPart M 0 9 = nI (nxP (sg (M 6) L) c).2.1 ∧ MK M (p_X5_readsPart M) ∧ (¬ (nxP (sg (M 6) L) c).1 = 0 → ((nxP (sg (M 6) L) c).2.2.1 = -1 ∧ p_X5_readsPart M 0 12 = 0 ∧ p_X5_readsPart M 0 13 = (nxP (sg (M 6) L) c).2.2.2) ∨ (¬ (nxP (sg (M 6) L) c).2.2.1 = -1 ∧ p_X5_readsPart M 0 12 = (nxP (sg (M 6) L) c).2.2.2 ∧ p_X5_readsPart M 0 13 = 0 ∧ p_X5_readsPart M 0 11 = (nxP (sg (M 6) L) c).2.2.1)) := by
  unfold r_X5_readsPart p_X5_readsPart
  have z1 : ¬ (1 : Int32) = 0 := by decide
  dsimp only
  have m1 : MK M (va_up M 0 (upd (upd (M 0) 12 0) 13 0)) := MK_up (fun j hj => by rw [fu_n (by omega), fu_n (by omega)])
  have a8 : va_up M 0 (upd (upd (M 0) 12 0) 13 0) 0 8 = nI L := h8
  have a9 : va_up M 0 (upd (upd (M 0) 12 0) 13 0) 0 9 = nI c := h9
  have a12 : va_up M 0 (upd (upd (M 0) 12 0) 13 0) 0 12 = 0 := rfl
  have a13 : va_up M 0 (upd (upd (M 0) 12 0) 13 0) 0 13 = 0 := rfl
  have a6 : va_up M 0 (upd (upd (M 0) 12 0) 13 0) 6 = M 6 := rfl
  generalize va_up M 0 (upd (upd (M 0) 12 0) 13 0) = A at *
  rcases tks_at hL a8 a9 hc (a := 46) (by decide) with ⟨s1, s2, s3⟩ | ⟨s1, s2, s3⟩
  · rw [a6] at s1
    have hcL := sg_lt s1 (by decide)
    rw [s2, s3, if_neg z1, if_neg z1]
    have m2 : MK A (va_up A 0 (upd (A 0) 9 (nI (c + 1)))) := MK_up (fun j hj => by rw [fu_n (by omega)])
    have b8 : va_up A 0 (upd (A 0) 9 (nI (c + 1))) 0 8 = nI L := a8
    have b9 : va_up A 0 (upd (A 0) 9 (nI (c + 1))) 0 9 = nI (c + 1) := rfl
    have b12 : va_up A 0 (upd (A 0) 9 (nI (c + 1))) 0 12 = 0 := a12
    have b6 : va_up A 0 (upd (A 0) 9 (nI (c + 1))) 6 = M 6 := a6
    generalize va_up A 0 (upd (A 0) 9 (nI (c + 1))) = B at *
    obtain ⟨n1, n2, n3, n4, n5⟩ := rdn_at (l := 1) hL (by decide) b8 b9 hcL
    rw [b6, show nI 1 = (1 : Int32) from rfl] at n1 n2 n3
    rw [show nI 1 = (1 : Int32) from rfl] at n4 n5
    rw [n1]
    have mz : MK M (va_up (p_X5_readsNumber B 1) 0 (upd (p_X5_readsNumber B 1 0) 13 (p_X5_readsNumber B 1 0 10))) :=
      (m1.trans m2).trans (MK.trans ⟨n4, fun j hj => n5 j (by omega) (by omega)⟩ (MK_up (fun j hj => by rw [fu_n (by omega)])))
    have z9 : va_up (p_X5_readsNumber B 1) 0 (upd (p_X5_readsNumber B 1 0) 13 (p_X5_readsNumber B 1 0 10)) 0 9 = nI (nxN (sg (M 6) L) (c + 1) 1).1 := n2
    have z12 : va_up (p_X5_readsNumber B 1) 0 (upd (p_X5_readsNumber B 1 0) 13 (p_X5_readsNumber B 1 0 10)) 0 12 = 0 := (n5 12 (by decide) (by decide)).trans b12
    have z13 : va_up (p_X5_readsNumber B 1) 0 (upd (p_X5_readsNumber B 1 0) 13 (p_X5_readsNumber B 1 0 10)) 0 13 = p_X5_readsNumber B 1 0 10 := rfl
    generalize va_up (p_X5_readsNumber B 1) 0 (upd (p_X5_readsNumber B 1 0) 13 (p_X5_readsNumber B 1 0 10)) = Z at *
    unfold nxP
    rw [if_pos s1]
    by_cases y : (nxN (sg (M 6) L) (c + 1) 1).2 = -1
    · rw [if_pos y, if_pos y]; exact ⟨rfl, z9, mz, fun e => absurd rfl e⟩
    · rw [if_neg y, if_neg y]; exact ⟨rfl, z9, mz, fun _ => Or.inl ⟨rfl, z12, z13.trans (n3 y)⟩⟩
  · rw [a6] at s1
    rw [s2, s3, if_pos rfl, if_pos rfl]
    have m2 : MK A (va_up A 0 (upd (A 0) 9 (nI c))) := MK_up (fun j hj => by rw [fu_n (by omega)])
    have b8 : va_up A 0 (upd (A 0) 9 (nI c)) 0 8 = nI L := a8
    have b9 : va_up A 0 (upd (A 0) 9 (nI c)) 0 9 = nI c := rfl
    have b13 : va_up A 0 (upd (A 0) 9 (nI c)) 0 13 = 0 := a13
    have b6 : va_up A 0 (upd (A 0) 9 (nI c)) 6 = M 6 := a6
    generalize va_up A 0 (upd (A 0) 9 (nI c)) = B at *
    obtain ⟨n1, n2, n3, n4, n5⟩ := rdn_at (l := 0) hL (by decide) b8 b9 hc
    rw [b6, show nI 0 = (0 : Int32) from rfl] at n1 n2 n3
    rw [show nI 0 = (0 : Int32) from rfl] at n4 n5
    rw [n1]
    have m3 : MK M (p_X5_readsNumber B 0) := (m1.trans m2).trans ⟨n4, fun j hj => n5 j (by omega) (by omega)⟩
    unfold nxP
    rw [if_neg s1]
    rcases nxN_c (x := M 6) (l := 0) (by decide) hc with h | ⟨n, c', h, g1, g2, g3, g4⟩
    · rw [show nI 0 = (0 : Int32) from rfl] at h
      rw [h] at n1 n2 ⊢
      rw [if_pos rfl, if_pos rfl, if_pos rfl, if_pos rfl]; exact ⟨rfl, n2, m3, fun e => absurd rfl e⟩
    · rw [show nI 0 = (0 : Int32) from rfl] at h
      have y : ¬ nI n = -1 := nI_nm1 (by omega)
      rw [h] at n1 n2 n3 ⊢
      have n3 := n3 y
      dsimp only at n2 n3 ⊢
      rw [if_neg y, if_neg z1, if_neg z1, if_neg y]
      have m4 : MK M (va_up (p_X5_readsNumber B 0) 0 (upd (upd (p_X5_readsNumber B 0 0) 11 (p_X5_readsNumber B 0 0 10)) 12 1)) := m3.trans (MK_up (fun j hj => by rw [fu_n (by omega), fu_n (by omega)]))
      have c8 : va_up (p_X5_readsNumber B 0) 0 (upd (upd (p_X5_readsNumber B 0 0) 11 (p_X5_readsNumber B 0 0 10)) 12 1) 0 8 = nI L := (n5 8 (by decide) (by decide)).trans b8
      have c9 : va_up (p_X5_readsNumber B 0) 0 (upd (upd (p_X5_readsNumber B 0 0) 11 (p_X5_readsNumber B 0 0 10)) 12 1) 0 9 = nI c' := n2
      have c11 : va_up (p_X5_readsNumber B 0) 0 (upd (upd (p_X5_readsNumber B 0 0) 11 (p_X5_readsNumber B 0 0 10)) 12 1) 0 11 = nI n := n3
      have c12 : va_up (p_X5_readsNumber B 0) 0 (upd (upd (p_X5_readsNumber B 0 0) 11 (p_X5_readsNumber B 0 0 10)) 12 1) 0 12 = 1 := rfl
      have c13 : va_up (p_X5_readsNumber B 0) 0 (upd (upd (p_X5_readsNumber B 0 0) 11 (p_X5_readsNumber B 0 0 10)) 12 1) 0 13 = 0 := (n5 13 (by decide) (by decide)).trans b13
      have c6 : va_up (p_X5_readsNumber B 0) 0 (upd (upd (p_X5_readsNumber B 0 0) 11 (p_X5_readsNumber B 0 0 10)) 12 1) 6 = M 6 := m4.1 6 (by decide)
      generalize va_up (p_X5_readsNumber B 0) 0 (upd (upd (p_X5_readsNumber B 0 0) 11 (p_X5_readsNumber B 0 0 10)) 12 1) = C at *
      rcases tks_at hL c8 c9 g4 (a := 120) (by decide) with ⟨t1, t2, t3⟩ | ⟨t1, t2, t3⟩
      · rw [c6] at t1
        have hcL2 := sg_lt t1 (by decide)
        rw [t2, t3, if_neg z1, if_neg z1, if_pos t1]
        have m5 : MK M (va_up C 0 (upd (C 0) 9 (nI (c' + 1)))) := m4.trans (MK_up (fun j hj => by rw [fu_n (by omega)]))
        have d8 : va_up C 0 (upd (C 0) 9 (nI (c' + 1))) 0 8 = nI L := c8
        have d9 : va_up C 0 (upd (C 0) 9 (nI (c' + 1))) 0 9 = nI (c' + 1) := rfl
        have d11 : va_up C 0 (upd (C 0) 9 (nI (c' + 1))) 0 11 = nI n := c11
        have d13 : va_up C 0 (upd (C 0) 9 (nI (c' + 1))) 0 13 = 0 := c13
        have d6 : va_up C 0 (upd (C 0) 9 (nI (c' + 1))) 6 = M 6 := c6
        generalize va_up C 0 (upd (C 0) 9 (nI (c' + 1))) = D at *
        have H := here_d (l := 2) hL (by decide) d8 d9 hcL2
        rw [d6, show nI (48 + 2) = (50 : Int32) from rfl, show nI 2 = (2 : Int32) from rfl] at H
        rw [H]
        by_cases v : 2 ≤ dg (sg (M 6) L) (c' + 1)
        · rw [if_pos v, if_pos v, if_neg z1, if_neg z1]
          rcases dg_c (sg (M 6) L) (c' + 1) with f | ⟨d, f1, f2, f3⟩
          · rw [f] at v; exact absurd v (by decide)
          · have V := dg_v (M := D) (L := L) (c := c' + 1) hL d9 f1 (by rw [d6]; exact f3)
            refine ⟨rfl, ?_, m5.trans (MK_up (fun j hj => by rw [fu_n (by omega), fu_n (by omega)])), fun _ => Or.inr ⟨y, ?_, d13, d11⟩⟩
            · show D 0 9 + 1 = _; rw [d9]; exact nI_1 (c' + 1)
            · show D 6 (D 0 9).toNatClampNeg - 48 = _; rw [V, f3]
        · rw [if_neg v, if_neg v, if_pos rfl, if_pos rfl]; exact ⟨rfl, d9, m5, fun e => absurd rfl e⟩
      · rw [c6] at t1
        rw [t2, t3, if_pos rfl, if_pos rfl, if_neg t1]
        exact ⟨rfl, rfl, m4.trans (MK_up (fun j hj => by rw [fu_n (by omega)])), fun _ => Or.inr ⟨y, c12, c13, c11⟩⟩
/-- the reference's fault -/
theorem fault_at {L : Nat} (hL : L ≤ 60) : ∀ (f c : Nat) (M : CS), M 0 8 = nI L → M 0 9 = nI c → c ≤ L → L - c ≤ 2 * f →
    lr_X5_fault_7 (f + 1) 1 M = ouM (prs (sg (M 6) L) L f c).2 ∧ MK M (lp_X5_fault_7 (f + 1) 1 M) := by
  intro f
  have z1 : ¬ (1 : Int32) = 0 := by decide
  induction f with
  | zero =>
    intro c M h8 h9 hc hf
    obtain rfl : c = L := by omega
    unfold lr_X5_fault_7 lp_X5_fault_7
    rw [if_neg z1, if_neg z1]
    obtain ⟨b1, b2, b3, -⟩ := rdp_at hL h8 h9 hc
    rw [nxP_out] at b1 b2
    dsimp only
    rw [b1, if_pos rfl, if_pos rfl]
    exact ⟨b2, b3⟩
  | succ f ih =>
    intro c M h8 h9 hc hf
    unfold lr_X5_fault_7 lp_X5_fault_7 prs
    rw [if_neg z1, if_neg z1]
    obtain ⟨b1, b2, b3, -⟩ := rdp_at hL h8 h9 hc
    obtain ⟨c1, c2⟩ := nxP_c (x := M 6) hc
    dsimp only
    rw [b1]
    generalize nxP (sg (M 6) L) c = P at *
    have e8 : p_X5_readsPart M 0 8 = nI L := (b3.2 8 (by decide)).trans h8
    have e6 : p_X5_readsPart M 6 = M 6 := b3.1 6 (by decide)
    generalize p_X5_readsPart M = Z at *
    by_cases n : P.1 = 0
    · rw [if_pos n, if_pos n, if_pos n]; exact ⟨b2, b3⟩
    · have c3 : c < P.2.1 := by rcases c2 with c2 | c2
                                · exact absurd c2 n
                                · exact c2.2.1
      rw [if_neg n, if_neg n, if_neg n]
      rcases tks_at hL e8 b2 c1 (a := 44) (by decide) with ⟨t1, t2, t3⟩ | ⟨t1, t2, t3⟩
      · rw [e6] at t1
        have hcL := sg_lt t1 (by decide)
        rw [t2, t3, if_neg (show ¬ P.2.1 = L by omega), if_pos t1]
        obtain ⟨i1, i2⟩ := ih (P.2.1 + 1) (va_up Z 0 (upd (Z 0) 9 (nI (P.2.1 + 1)))) e8 rfl hcL (by omega)
        rw [show va_up Z 0 (upd (Z 0) 9 (nI (P.2.1 + 1))) 6 = M 6 from e6] at i1
        exact ⟨i1, (b3.trans (MK_up (fun j hj => by rw [fu_n (by omega)]))).trans i2⟩
      · rw [e6] at t1
        rw [t2, t3]
        unfold lr_X5_fault_7 lp_X5_fault_7
        rw [if_pos rfl, if_pos rfl]
        have m : MK M (va_up Z 0 (upd (Z 0) 9 (nI P.2.1))) := b3.trans (MK_up (fun j hj => by rw [fu_n (by omega)]))
        refine ⟨?_, m⟩
        dsimp only
        rw [show va_up Z 0 (upd (Z 0) 9 (nI P.2.1)) 0 9 = nI P.2.1 from rfl, show va_up Z 0 (upd (Z 0) 9 (nI P.2.1)) 0 8 = nI L from e8]
        by_cases q : P.2.1 = L
        · rw [if_pos (show nI P.2.1 = nI L by rw [q]), if_pos q]; rfl
        · rw [if_neg (fun e => q ((nI_eq (by omega) (by omega)).mp e)), if_neg q, if_neg t1]; rfl
