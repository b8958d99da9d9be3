/-! a step of the law -/
theorem step_law {G P : Nat → Nat → CS} {t : Nat} (h : RR G P t) (ht : t ≤ 800000) (a1 a2 : Int32) : r_L_isStep G P a1 a2 = 1 ∧ ∃ u, u ≤ t + 500 ∧ RR (p_L_isStep_G G P a1 a2) (p_L_isStep_P G P a1 a2) u := by
  unfold r_L_isStep p_L_isStep_G p_L_isStep_P
  by_cases c0 : r_L_up a1 (14 : Int32) = (0 : Int32)
  · rw [if_pos c0, if_pos c0, if_pos c0]
    obtain ⟨x, y⟩ := case88 h a1 a2
    exact ⟨x, t, by omega, y⟩
  rw [if_neg c0, if_neg c0, if_neg c0]
  by_cases c1 : r_L_up a1 (14 : Int32) = (1 : Int32)
  · rw [if_pos c1, if_pos c1, if_pos c1]
    obtain ⟨x, y⟩ := case194 h a1 a2
    exact ⟨x, t, by omega, y⟩
  rw [if_neg c1, if_neg c1, if_neg c1]
  by_cases c2 : r_L_up a1 (14 : Int32) = (2 : Int32)
  · rw [if_pos c2, if_pos c2, if_pos c2]
    obtain ⟨x, y⟩ := case194 h a1 a2
    exact ⟨x, t, by omega, y⟩
  rw [if_neg c2, if_neg c2, if_neg c2]
  by_cases c3 : r_L_up a1 (14 : Int32) = (3 : Int32)
  · rw [if_pos c3, if_pos c3, if_pos c3]
    obtain ⟨x, y⟩ := case349 h a1 a2
    exact ⟨x, t, by omega, y⟩
  rw [if_neg c3, if_neg c3, if_neg c3]
  by_cases c4 : r_L_up a1 (14 : Int32) = (4 : Int32)
  · rw [if_pos c4, if_pos c4, if_pos c4]
    obtain ⟨x, y⟩ := case438 h a1 a2
    exact ⟨x, t, by omega, y⟩
  rw [if_neg c4, if_neg c4, if_neg c4]
  by_cases c5 : r_L_up a1 (14 : Int32) = (5 : Int32)
  · rw [if_pos c5, if_pos c5, if_pos c5]
    obtain ⟨x, y⟩ := case485 h a1 a2
    exact ⟨x, t, by omega, y⟩
  rw [if_neg c5, if_neg c5, if_neg c5]
  by_cases c6 : r_L_up a1 (14 : Int32) = (6 : Int32)
  · rw [if_pos c6, if_pos c6, if_pos c6]
    obtain ⟨x, y⟩ := case485 h a1 a2
    exact ⟨x, t, by omega, y⟩
  rw [if_neg c6, if_neg c6, if_neg c6]
  by_cases c7 : r_L_up a1 (14 : Int32) = (7 : Int32)
  · rw [if_pos c7, if_pos c7, if_pos c7]
    obtain ⟨x, y⟩ := case485 h a1 a2
    exact ⟨x, t, by omega, y⟩
  rw [if_neg c7, if_neg c7, if_neg c7]
  by_cases c8 : r_L_up a1 (14 : Int32) = (8 : Int32)
  · rw [if_pos c8, if_pos c8, if_pos c8]
    obtain ⟨x, u, hu, y⟩ := case558 h (by omega) a1 a2
    exact ⟨x, u, by omega, y⟩
  rw [if_neg c8, if_neg c8, if_neg c8]
  by_cases c9 : r_L_up a1 (14 : Int32) = (9 : Int32)
  · rw [if_pos c9, if_pos c9, if_pos c9]
    obtain ⟨x, u, hu, y⟩ := case558 h (by omega) a1 a2
    exact ⟨x, u, by omega, y⟩
  rw [if_neg c9, if_neg c9, if_neg c9]
  obtain ⟨x, u, hu, y⟩ := case875 h (by omega) a1 a2
  exact ⟨x, u, hu, y⟩
