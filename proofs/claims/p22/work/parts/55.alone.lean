/-! one object's ring behind a step -/
theorem CK_up {w : F1} {t u : Nat} (h : CK w t) (htu : t ≤ u) : CK w u := by
  obtain ⟨p, f, x, y, h0, p1, p2, h1, f1, h6, h7, yx, xt⟩ := h
  exact ⟨p, f, x, y, h0, p1, p2, h1, f1, h6, h7, yx, by omega⟩
theorem CK_3 {w : F1} {t : Nat} (h : CK w t) (x : Int32) : CK (upd w 3 x) t := by
  obtain ⟨p, f, x, y, h0, p1, p2, h1, f1, h6, h7, yx, xt⟩ := h
  exact ⟨p, f, x, y, h0, p1, p2, h1, f1, h6, h7, yx, xt⟩
theorem CK_tk {w : F1} {t : Nat} (h : CK w t) (x y : Int32) : CK (p_X1_tick w x y) (t + 1) := by
  rw [tick_at]
  obtain ⟨p, f, a, b, h0, p1, p2, h1, f1, h6, h7, yx, xt⟩ := h
  by_cases c : (x ^^^ y) = 0
  · rw [if_pos c]
    exact ⟨p, f, a + 1, b, h0, p1, p2, h1, f1, (by show w 6 + 1 = _; rw [h6, nI_1]), (by show w 7 + 0 = _; rw [h7, Int32.add_zero]), by omega, by omega⟩
  · rw [if_neg c]
    exact ⟨p, f, a + 1, b + 1, h0, p1, p2, h1, f1, (by show w 6 + 1 = _; rw [h6, nI_1]), (by show w 7 + 1 = _; rw [h7, nI_1]), by omega, by omega⟩
theorem RP_3 {w : F1} {k c : Nat} (h : RP w k c) (d : Nat) : RP (upd w 3 (nI (d % 2 ^ (k + 1)))) k d := by
  obtain ⟨-, a, b, ha, hb, h4, h5⟩ := h
  exact ⟨rfl, a, b, ha, hb, h4, h5⟩
theorem RP_tk {w : F1} {k c q : Nat} {x y : Int32} (h : RP w k c) (hq : q < 2 ^ (k + 1)) (e : x ^^^ ((x ^^^ y) &&& (170 : Int32)) = nI q) : RP (p_X1_tick w x y) k c := by
  rw [tick_at, e]
  obtain ⟨h3, a, b, ha, hb, h4, h5⟩ := h
  exact ⟨h3, q, a, hq, ha, rfl, h4⟩
/-- what a side samples lies in the range -/
theorem samp_in {S : CS} {k p : Nat} {m y : Int32} (hk : 1 ≤ k ∧ k ≤ 4) (h0 : S 0 0 = nI k) (hp : p < 2 ^ (k + 1)) (hy : y = if m = 0 then r_X2_codeOf S (nI p) else r_X2_codeOf S (r_X2_around S (nI p + 1))) : ∃ q, q < 2 ^ (k + 1) ∧ r_X2_codeOf S (nI p) ^^^ ((r_X2_codeOf S (nI p) ^^^ y) &&& (170 : Int32)) = nI q := by
  obtain ⟨a, ha, ea⟩ := cod_in (S := S) hk hp
  have hb : ∃ b, b < 2 ^ (k + 1) ∧ y = nI b := by
    rw [hy]
    by_cases c : m = 0
    · rw [if_pos c]; exact ⟨a, ha, ea⟩
    · rw [if_neg c, around2 h0, (chk1 hk hp).1]; exact cod_in hk ml
  obtain ⟨b, hb, eb⟩ := hb
  rw [ea, eb]
  exact smp_in hk ha hb
theorem i1_le (x : Int32) : i1 x ≤ 1 := by
  unfold i1
  split <;> omega
theorem IB_step {S : CS} {k t wc P T : Nat} (h : IB S k t wc P T) (ht1 : t + 1 < 2 ^ 29) : IB (p_X2_step S) k (t + 1) (wc - i1 (waS S)) (P + i1 (waS S)) (T + i1 (raS S)) := by
  have b := h.bs
  obtain ⟨hk, hw, ht, hP, hT, ⟨n0, n2, n10, n12, n13⟩, c1, c2, q1, q2, nu, r, hr, rT⟩ := h
  obtain ⟨f0, f2, f10, f12, f13, f14, f1, f2', f3, f4, f5, f6⟩ := step_at b
  have lw := i1_le (waS S)
  have lr := i1_le (raS S)
  have W : CK (sW S) (t + 1) ∧ RP (sW S) k P := by
    unfold sW
    by_cases c : wtS S = 0
    · rw [if_pos c]; exact ⟨CK_up c1 (by omega), q1⟩
    · rw [if_neg c]
      refine ⟨CK_tk c1 _ _, ?_⟩
      have e : S 2 3 = nI (T % 2 ^ (k + 1)) := q2.1
      obtain ⟨q, hq, eq⟩ := samp_in (S := S) (m := raS S) (y := toW S) hk n0 (ml (k := k) (c := T)) (by rw [toW_eq, e])
      rw [e]
      exact RP_tk q1 hq eq
  have R : CK (sR S) (t + 1) ∧ RP (sR S) k T := by
    unfold sR
    by_cases c : rtS S = 0
    · rw [if_pos c]; exact ⟨CK_up c2 (by omega), q2⟩
    · rw [if_neg c]
      refine ⟨CK_tk c2 _ _, ?_⟩
      have e : S 1 3 = nI (P % 2 ^ (k + 1)) := q1.1
      obtain ⟨q, hq, eq⟩ := samp_in (S := S) (m := waS S) (y := toR S) hk n0 (ml (k := k) (c := P)) (by rw [toR_eq, e])
      rw [e]
      exact RP_tk q2 hq eq
  refine ⟨hk, by omega, ht1, by omega, by omega, ⟨?_, f2, f10, f12, f13⟩, ?_, ?_, ?_, ?_, ?_, ?_⟩
  · rw [f0 0 (by decide) (by decide) (by decide) (by decide) (by decide)]; exact n0
  · rw [f1]
    by_cases c : waS S = 0
    · rw [if_pos c]; exact W.1
    · rw [if_neg c]; exact CK_3 W.1 _
  · rw [f2']
    by_cases c : raS S = 0
    · rw [if_pos c]; exact R.1
    · rw [if_neg c]; exact CK_3 R.1 _
  · rw [f1]
    by_cases c : waS S = 0
    · rw [if_pos c, i1_0 c]; exact W.2
    · rw [if_neg c, i1_1 c]; exact RP_3 W.2 _
  · rw [f2']
    by_cases c : raS S = 0
    · rw [if_pos c, i1_0 c]; exact R.2
    · rw [if_neg c, i1_1 c]; exact RP_3 R.2 _
  · rw [f4]
    by_cases c : waS S = 0
    · rw [if_pos c, i1_0 c]; exact nu
    · rw [if_neg c, i1_1 c]
      intro q hq
      by_cases d : q = P % 2 ^ k
      · subst d
        rw [fu_s]
        exact Or.inr ⟨P, rfl, rfl, by omega, by have := pw_0 (k := k); omega⟩
      · rw [fu_n d]
        rcases nu q hq with ⟨z1, z2⟩ | ⟨j, z1, z2, z3, z4⟩
        · refine Or.inl ⟨z1, ?_⟩
          rcases Nat.lt_or_ge P q with y | y
          · exact y
          · exfalso
            have : P = q := by omega
            subst this
            exact d (Nat.mod_eq_of_lt hq).symm
        · refine Or.inr ⟨j, z1, z2, by omega, ?_⟩
          rcases Nat.lt_or_ge P (j + 2 ^ k) with y | y
          · omega
          · exfalso
            have : P = j + 2 ^ k := by omega
            apply d
            rw [this, Nat.add_mod_right, z2]
  · rw [f14, hr]
    by_cases c : raS S = 0
    · rw [if_pos c, i1_0 c, Int32.add_zero]; exact ⟨r, rfl, by omega⟩
    · rw [if_neg c, i1_1 c]
      by_cases d : S 4 (T % 2 ^ k) = nI T
      · rw [if_pos d, nI_1]; exact ⟨r + 1, rfl, by omega⟩
      · rw [if_neg d, Int32.add_zero]; exact ⟨r, rfl, by omega⟩
/-! gray code -/
theorem code_g {S : CS} (hg : ¬ nb (S 0 1) = 0) (x : Int32) : r_X2_codeOf S x = gcode x := by
  unfold r_X2_codeOf; rw [if_neg hg]; rfl
theorem ptr_g {S : CS} {k a : Nat} (hg : ¬ nb (S 0 1) = 0) (hk : 1 ≤ k ∧ k ≤ 4) : r_X2_pointerOf S (gcode (nI (a % 2 ^ (k + 1)))) = nI (a % 2 ^ (k + 1)) := by
  unfold r_X2_pointerOf
  rw [if_neg hg]
  exact (chk2 hk ml).1
theorem samp_g {S : CS} {k c : Nat} {m y : Int32} (hg : ¬ nb (S 0 1) = 0) (hk : 1 ≤ k ∧ k ≤ 4) (h0 : S 0 0 = nI k) (hy : y = if m = 0 then r_X2_codeOf S (nI (c % 2 ^ (k + 1))) else r_X2_codeOf S (r_X2_around S (nI (c % 2 ^ (k + 1)) + 1))) :
    ∃ d : Nat, c ≤ d ∧ d ≤ c + i1 m ∧ r_X2_codeOf S (nI (c % 2 ^ (k + 1))) ^^^ ((r_X2_codeOf S (nI (c % 2 ^ (k + 1))) ^^^ y) &&& (170 : Int32)) = gcode (nI (d % 2 ^ (k + 1))) := by
  rw [hy, code_g hg]
  by_cases e : m = 0
  · rw [if_pos e, i1_0 e, Int32.xor_self, Int32.zero_and, Int32.xor_zero]
    exact ⟨c, by omega, by omega, rfl⟩
  · rw [if_neg e, i1_1 e, around2 h0, (chk1 hk ml).1, code_g hg]
    rcases chk3 hk (ml (k := k) (c := c)) with z | z
    · rw [z]; exact ⟨c, by omega, by omega, rfl⟩
    · rw [z, md_s]; exact ⟨c + 1, by omega, by omega, rfl⟩
theorem GY_step {S : CS} {k t wc P T : Nat} (h : IB S k t wc P T) (g : GY S k P T) : GY (p_X2_step S) k (P + i1 (waS S)) (T + i1 (raS S)) := by
  have b := h.bs
  obtain ⟨hk, hw, ht, hP, hT, ⟨n0, n2, n10, n12, n13⟩, c1, c2, q1, q2, nu, -⟩ := h
  obtain ⟨f0, f2, f10, f12, f13, f14, f1, f2', f3, f4, f5, f6⟩ := step_at b
  have e1 : S 1 3 = nI (P % 2 ^ (k + 1)) := q1.1
  have e2 : S 2 3 = nI (T % 2 ^ (k + 1)) := q2.1
  have hD := pw_d (k := k)
  intro hg
  rw [f0 1 (by decide) (by decide) (by decide) (by decide) (by decide)] at hg
  obtain ⟨g14, a1, a2, b1, b2, w4, w5, r4, r5, i1', i2, i3, i4, i5, i6⟩ := g hg
  -- the writer acts only where there is room
  have aw : ¬ waS S = 0 → ¬ wtS S = 0 ∧ P < a2 + 2 ^ k := by
    intro c
    rw [waS_eq] at c
    by_cases d : wtS S = 0
    · rw [if_pos d] at c; exact absurd rfl c
    rw [if_neg d] at c
    refine ⟨d, ?_⟩
    by_cases d2 : S 0 10 ≤ 0
    · rw [if_pos d2] at c; exact absurd rfl c
    rw [if_neg d2] at c
    rcases Nat.lt_or_ge P (a2 + 2 ^ k) with y | y
    · exact y
    · exfalso
      have z : P = a2 + 2 ^ k := by omega
      have fl : r_X2_seemsFull S = 1 := by
        unfold r_X2_seemsFull
        rw [w5, ptr_g hg hk, e1, depth2 n0, around2 n0, (chk1 hk ml).2.2, md_f, if_pos]
        rw [show P + 2 ^ k = a2 + 2 ^ (k + 1) by omega, Nat.add_mod_right]
      rw [fl, if_neg (by decide)] at c
      exact c rfl
  have ar : ¬ raS S = 0 → ¬ rtS S = 0 ∧ T < b2 := by
    intro c
    rw [raS_eq] at c
    by_cases d : rtS S = 0
    · rw [if_pos d] at c; exact absurd rfl c
    rw [if_neg d] at c
    refine ⟨d, ?_⟩
    rcases Nat.lt_or_ge T b2 with y | y
    · exact y
    · exfalso
      have z : b2 = T := by omega
      have fl : r_X2_seemsEmpty S = 1 := by
        unfold r_X2_seemsEmpty
        rw [r5, ptr_g hg hk, e2, z, if_pos rfl]
      rw [fl, if_neg (by decide)] at c
      exact c rfl
  -- the registers behind the ticks
  have W : ∃ x1 x2 : Nat, sW S 4 = gcode (nI (x1 % 2 ^ (k + 1))) ∧ sW S 5 = gcode (nI (x2 % 2 ^ (k + 1))) ∧ x2 ≤ x1 ∧ x1 ≤ T + i1 (raS S) ∧ a2 ≤ x2 := by
    unfold sW
    by_cases c : wtS S = 0
    · rw [if_pos c]; exact ⟨a1, a2, w4, w5, i1', by omega, by omega⟩
    · rw [if_neg c, tick_at]
      obtain ⟨d, d1, d2, d3⟩ := samp_g (m := raS S) (y := toW S) (c := T) hg hk n0 (by rw [toW_eq, e2])
      refine ⟨d, a1, ?_, w4, by omega, d2, by omega⟩
      show _ ^^^ _ = _
      rw [e2]; exact d3
  have R : ∃ x1 x2 : Nat, sR S 4 = gcode (nI (x1 % 2 ^ (k + 1))) ∧ sR S 5 = gcode (nI (x2 % 2 ^ (k + 1))) ∧ x2 ≤ x1 ∧ x1 ≤ P + i1 (waS S) ∧ b2 ≤ x2 := by
    unfold sR
    by_cases c : rtS S = 0
    · rw [if_pos c]; exact ⟨b1, b2, r4, r5, i4, by omega, by omega⟩
    · rw [if_neg c, tick_at]
      obtain ⟨d, d1, d2, d3⟩ := samp_g (m := waS S) (y := toR S) (c := P) hg hk n0 (by rw [toR_eq, e1])
      refine ⟨d, b1, ?_, r4, by omega, d2, by omega⟩
      show _ ^^^ _ = _
      rw [e1]; exact d3
  obtain ⟨x1, x2, u4, u5, x21, x1T, ax⟩ := W
  obtain ⟨y1, y2, v4, v5, y21, y1P, bx⟩ := R
  refine ⟨?_, x1, x2, y1, y2, ?_, ?_, ?_, ?_, x21, x1T, ?_, y21, y1P, ?_⟩
  · rw [f14, g14]
    by_cases c : raS S = 0
    · rw [if_pos c, i1_0 c, Int32.add_zero]; rfl
    · rw [if_neg c, i1_1 c]
      obtain ⟨-, tb⟩ := ar c
      have hq : T % 2 ^ k < 2 ^ k := Nat.mod_lt _ pw_0
      have hl : T % 2 ^ k ≤ T := Nat.mod_le _ _
      have e : S 4 (T % 2 ^ k) = nI T := by
        rcases nu _ hq with ⟨-, z2⟩ | ⟨j, z1, z2, z3, z4⟩
        · omega
        · rw [z1, md_u hk z2 z3 z4 (by omega) (by omega)]
      rw [if_pos e, nI_1]
  · rw [f1]
    by_cases c : waS S = 0
    · rw [if_pos c]; exact u4
    · rw [if_neg c, fu_n (by decide)]; exact u4
  · rw [f1]
    by_cases c : waS S = 0
    · rw [if_pos c]; exact u5
    · rw [if_neg c, fu_n (by decide)]; exact u5
  · rw [f2']
    by_cases c : raS S = 0
    · rw [if_pos c]; exact v4
    · rw [if_neg c, fu_n (by decide)]; exact v4
  · rw [f2']
    by_cases c : raS S = 0
    · rw [if_pos c]; exact v5
    · rw [if_neg c, fu_n (by decide)]; exact v5
  · by_cases c : waS S = 0
    · rw [i1_0 c]; omega
    · rw [i1_1 c]; have := (aw c).2; omega
  · by_cases c : raS S = 0
    · rw [i1_0 c]; omega
    · rw [i1_1 c]; have := (ar c).2; omega
