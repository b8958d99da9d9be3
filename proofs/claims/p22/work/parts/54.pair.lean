/-! two objects step alike -/
theorem RK_tk {w v : F1} (h : RK w v) (x y : Int32) : RK (p_X1_tick w x y) (p_X1_tick v x y) := by
  rw [tick_at, tick_at]
  obtain ⟨e0, e2, e3, e4, e5, e6, e7, p, f, h0, p1, p2, h1, f1, h2⟩ := h
  refine ⟨e0, e2, e3, rfl, e4, ?_, ?_, p, f, h0, p1, p2, h1, f1, h2⟩
  · show v 6 + 1 = w 6 + 1; rw [e6]
  · show v 7 + _ = w 7 + _; rw [e7]
theorem RK_3 {w v : F1} (h : RK w v) (x : Int32) : RK (upd w 3 x) (upd v 3 x) := by
  obtain ⟨e0, e2, e3, e4, e5, e6, e7, p, f, h0, p1, p2, h1, f1, h2⟩ := h
  exact ⟨e0, e2, rfl, e4, e5, e6, e7, p, f, h0, p1, p2, h1, f1, h2⟩
theorem toW_eq (S : CS) : toW S = if raS S = 0 then r_X2_codeOf S (S 2 3) else r_X2_codeOf S (r_X2_around S (S 2 3 + 1)) := rfl
theorem toR_eq (S : CS) : toR S = if waS S = 0 then r_X2_codeOf S (S 1 3) else r_X2_codeOf S (r_X2_around S (S 1 3 + 1)) := rfl
theorem waS_eq (S : CS) : waS S = if wtS S = 0 then 0 else if S 0 10 ≤ 0 then 0 else if r_X2_seemsFull S = 0 then 1 else 0 := rfl
theorem raS_eq (S : CS) : raS S = if rtS S = 0 then 0 else if r_X2_seemsEmpty S = 0 then 1 else 0 := rfl
theorem RL_wt {S Z : CS} {t w T : Nat} (h : RE S Z w T) (h2 : S 0 2 = nI t) (ht : t < 2 ^ 29) : wtS Z = wtS S := by
  unfold wtS
  rw [h.1.2.2.1, h2, nI_1]
  exact RK_tick h.2.1 (by omega)
theorem RL_rt {S Z : CS} {t w T : Nat} (h : RE S Z w T) (h2 : S 0 2 = nI t) (ht : t < 2 ^ 29) : rtS Z = rtS S := by
  unfold rtS
  rw [h.1.2.2.1, h2, nI_1]
  exact RK_tick h.2.2.1 (by omega)
theorem RL_wa {S Z : CS} {t w T : Nat} (h : RE S Z w T) (h2 : S 0 2 = nI t) (ht : t < 2 ^ 29) : waS Z = waS S := by
  rw [waS_eq, waS_eq, RL_wt h h2 ht, RL_full h, h.1.2.2.2.2.2.1]
theorem RL_ra {S Z : CS} {t w T : Nat} (h : RE S Z w T) (h2 : S 0 2 = nI t) (ht : t < 2 ^ 29) : raS Z = raS S := by
  rw [raS_eq, raS_eq, RL_rt h h2 ht, RL_empty h]
theorem RL_sW {S Z : CS} {t w T : Nat} (h : RE S Z w T) (h2 : S 0 2 = nI t) (ht : t < 2 ^ 29) : RK (sW S) (sW Z) := by
  have e3 : Z 2 3 = S 2 3 := h.2.2.1.2.2.1
  have eT : toW Z = toW S := by rw [toW_eq, toW_eq, RL_ra h h2 ht, e3, RL_code h, RL_code h, RL_around h]
  unfold sW
  rw [RL_wt h h2 ht, eT, e3, RL_code h]
  by_cases c : wtS S = 0
  · rw [if_pos c, if_pos c]; exact h.2.1
  · rw [if_neg c, if_neg c]; exact RK_tk h.2.1 _ _
theorem RL_sR {S Z : CS} {t w T : Nat} (h : RE S Z w T) (h2 : S 0 2 = nI t) (ht : t < 2 ^ 29) : RK (sR S) (sR Z) := by
  have e3 : Z 1 3 = S 1 3 := h.2.1.2.2.1
  have eT : toR Z = toR S := by rw [toR_eq, toR_eq, RL_wa h h2 ht, e3, RL_code h, RL_code h, RL_around h]
  unfold sR
  rw [RL_rt h h2 ht, eT, e3, RL_code h]
  by_cases c : rtS S = 0
  · rw [if_pos c, if_pos c]; exact h.2.2.1
  · rw [if_neg c, if_neg c]; exact RK_tk h.2.2.1 _ _
theorem n5_ne {n : Nat} (h : n < 2 ^ 31) : ¬ nI n = -5 := by
  intro e
  have h1 := nI_toInt h
  rw [e] at h1
  have h2 : (-5 : Int32).toInt = -5 := by decide
  omega
theorem CM_of {x y : Int32} (h : WD x y) (c : Prop) [Decidable c] : CM (if c then x else x + 100) (if c then y else y + 100) := by
  obtain ⟨a, ha, e1, e2⟩ := h
  by_cases d : c
  · rw [if_pos d, if_pos d]; exact ⟨0, a, 99 - a, by omega, e1, e2, ha, by omega, Or.inl (by omega)⟩
  · rw [if_neg d, if_neg d, e1, e2]; exact ⟨1, a, 99 - a, by omega, nI_add a 100, nI_add (99 - a) 100, ha, by omega, Or.inl (by omega)⟩
theorem RL_step {S Z : CS} {k t wc P T : Nat} (b : BS S k t wc P T) (hP : P < 2 ^ 31) (h : RE S Z wc T) : RE (p_X2_step S) (p_X2_step Z) (wc - i1 (waS S)) (T + i1 (raS S)) := by
  have n2 : S 0 2 = nI t := b.2.2.2.2.1.2.1
  have ht : t < 2 ^ 29 := b.2.2.1
  have hk := b.1
  have n10 : S 0 10 = nI wc := b.2.2.2.2.1.2.2.1
  have ha := wa_w n10 b.2.1
  have hT := b.2.2.2.1
  have W1 := RL_sW h n2 ht
  have R1 := RL_sR h n2 ht
  obtain ⟨f0, f2, f10, f12, f13, f14, f1, f2', f3, f4, f5, f6⟩ := step_at b
  obtain ⟨g0, g2, g10, g12, g13, g14, g1, g2', g3, g4, g5, g6⟩ := step_at (b.rl h)
  rw [RL_wa h n2 ht] at g10 g12 g1 g3 g4 g5
  rw [RL_ra h n2 ht] at g13 g14 g2' g6
  obtain ⟨⟨e0, e1, e2, e3, e4, e10, e12, e13, e14⟩, -, -, r4, rn, rw', rq, rc⟩ := h
  have hq : T % 2 ^ k < 16 := q16 hk
  have hp : P % 2 ^ k < 16 := q16 hk
  refine ⟨⟨?_, ?_, g2.trans f2.symm, ?_, ?_, g10.trans f10.symm, g12.trans f12.symm, g13.trans f13.symm, ?_⟩, ?_, ?_, fun i hi => ?_, fun i hi => ?_, fun i hi => ?_, fun i hi => ?_, fun j hj hjT => ?_⟩
  · rw [g0 0 (by decide) (by decide) (by decide) (by decide) (by decide), f0 0 (by decide) (by decide) (by decide) (by decide) (by decide)]; exact e0
  · rw [g0 1 (by decide) (by decide) (by decide) (by decide) (by decide), f0 1 (by decide) (by decide) (by decide) (by decide) (by decide)]; exact e1
  · rw [g0 3 (by decide) (by decide) (by decide) (by decide) (by decide), f0 3 (by decide) (by decide) (by decide) (by decide) (by decide)]; exact e3
  · rw [g0 4 (by decide) (by decide) (by decide) (by decide) (by decide), f0 4 (by decide) (by decide) (by decide) (by decide) (by decide)]; exact e4
  · rw [g14, f14, e14, r4 _ hq]
  · rw [g1, f1]
    by_cases c : waS S = 0
    · rw [if_pos c, if_pos c]; exact W1
    · rw [if_neg c, if_neg c]; exact RK_3 W1 _
  · rw [g2', f2']
    by_cases c : raS S = 0
    · rw [if_pos c, if_pos c]; exact R1
    · rw [if_neg c, if_neg c]; exact RK_3 R1 _
  · rw [g4, f4]
    by_cases c : waS S = 0
    · rw [if_pos c, if_pos c]; exact r4 i hi
    · rw [if_neg c, if_neg c]
      by_cases d : i = P % 2 ^ k
      · subst d; rw [fu_s, fu_s]
      · rw [fu_n d, fu_n d]; exact r4 i hi
  · rw [g3, f3, f4]
    by_cases c : waS S = 0
    · rw [if_pos c, if_pos c, if_pos c]; exact rn i hi
    · rw [if_neg c, if_neg c, if_neg c]
      by_cases d : i = P % 2 ^ k
      · subst d; rw [fu_s]; exact fun e => absurd e (n5_ne hP)
      · rw [fu_n d, fu_n d, fu_n d]; exact rn i hi
  · rw [g3, f3, f4]
    by_cases c : waS S = 0
    · rw [if_pos c, if_pos c, if_pos c]; exact rw' i hi
    · rw [if_neg c, if_neg c, if_neg c]
      by_cases d : i = P % 2 ^ k
      · subst d; rw [fu_s, fu_s, fu_s]; exact fun _ => rq 0 (ha c)
      · rw [fu_n d, fu_n d, fu_n d]; exact rw' i hi
  · rw [g5, f5]
    by_cases c : waS S = 0
    · rw [if_pos c, if_pos c]
      rw [i1_0 c] at hi
      exact rq i (by omega)
    · rw [if_neg c, if_neg c]
      rw [i1_1 c] at hi
      show WD (if i < wc - 1 then S 5 (i + 1) else S 5 i) (if i < wc - 1 then Z 5 (i + 1) else Z 5 i)
      rw [if_pos hi, if_pos hi]
      exact rq (i + 1) (by omega)
  · rw [g6, f6]
    by_cases c : raS S = 0
    · rw [if_pos c, if_pos c]
      rw [i1_0 c] at hjT
      exact rc j hj (by omega)
    · rw [if_neg c, if_neg c]
      rw [i1_1 c] at hjT
      by_cases d : j = T % 16
      · subst d
        rw [fu_s, fu_s, r4 _ hq]
        by_cases m : S 4 (T % 2 ^ k) = -5
        · obtain ⟨x1, x2⟩ := rn _ hq m
          have z : ¬ S 4 (T % 2 ^ k) = nI T := fun e => n5_ne (n := T) (by omega) (e.symm.trans m)
          rw [if_neg z, if_neg z, x1, x2]
          exact ⟨1, 0, 0, by omega, by decide, by decide, by omega, by omega, Or.inr ⟨rfl, rfl, rfl⟩⟩
        · exact CM_of (rw' _ hq m) _
      · rw [fu_n d, fu_n d]
        exact rc j hj (by omega)
