/-! typing leaves the history -/
theorem g640_1 (is k : Int32) (G P : Nat → Nat → CS) : j_L_isStep_G640 is k G P 1 = G 1 := by
  unfold j_L_isStep_G640
  dsimp only
  (repeat' split) <;> first | rw [type_1] | with_reducible rfl
theorem g710_1 (a2 k x : Int32) (G P : Nat → Nat → CS) : j_L_isStep_G710 a2 k x G P 1 = G 1 := by
  unfold j_L_isStep_G710
  dsimp only
  (repeat' split) <;> first | rw [number_1, type_1] | rw [type_1] | with_reducible rfl
theorem g809_1 (a2 k x : Int32) (G P : Nat → Nat → CS) : j_L_isStep_G809 a2 k x G P 1 = G 1 := by
  unfold j_L_isStep_G809
  dsimp only
  (repeat' split) <;> first | rw [number_1, type_1, number_1] | rw [type_1, number_1] | rw [number_1] | with_reducible rfl
theorem g811_1 (a2 k x : Int32) (G P : Nat → Nat → CS) : j_L_isStep_G811 a2 k x G P 1 = G 1 := by
  unfold j_L_isStep_G811
  dsimp only
  split
  · exact g710_1 ..
  · exact g809_1 ..
theorem p640_1 (is k : Int32) (G P : Nat → Nat → CS) : j_L_isStep_P640 is k G P 1 = P 1 := by
  unfold j_L_isStep_P640
  dsimp only
  (repeat' split) <;> first | rw [type_1] | with_reducible rfl
theorem p710_1 (a2 k x : Int32) (G P : Nat → Nat → CS) : j_L_isStep_P710 a2 k x G P 1 = P 1 := by
  unfold j_L_isStep_P710
  dsimp only
  (repeat' split) <;> first | rw [number_1, type_1] | rw [type_1] | with_reducible rfl
theorem p809_1 (a2 k x : Int32) (G P : Nat → Nat → CS) : j_L_isStep_P809 a2 k x G P 1 = P 1 := by
  unfold j_L_isStep_P809
  dsimp only
  (repeat' split) <;> first | rw [number_1, type_1, number_1] | rw [type_1, number_1] | rw [number_1] | with_reducible rfl
theorem p811_1 (a2 k x : Int32) (G P : Nat → Nat → CS) : j_L_isStep_P811 a2 k x G P 1 = P 1 := by
  unfold j_L_isStep_P811
  dsimp only
  split
  · exact p710_1 ..
  · exact p809_1 ..
