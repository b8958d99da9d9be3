def r_L_up (a1 : Int32) (a2 : Int32) : Int32 := ((a1 &&& (2147483647 : Int32)) - (a1 &&& (2147483647 : Int32)) / a2 * a2)
abbrev rm_L_up : Room := { frames := 0, cells := 0, slots := 0, locals := 0 }
set_option maxHeartbeats 4000000 in
set_option maxRecDepth 100000 in
theorem c_L_up (l : Launch) (D : va_G) (cI cC cS : ClassId) (a1 : Int32) (a2 : Int32) (hz : ¬ a2 = (0 : Int32)) : CI l D cI cC cS yL_up wsL_up rm_L_up [.int a1, .int a2] [] [] (r_L_up a1 a2) := by
  intro sz
  refine startC (cc := cL_up) (maxL := 2) (ret := (some .int)) (by decide) rfl (Nat.le_of_ble_eq_true rfl) ?_
  intro p e s m args below meth c hx hb hml hsg hts hown hlocks hin hK A hA hS hP hD ls hl
  have hown : s.vm.findClass RL = some m.cls := hown
  have hl : lv_has ls 2 [(0, .int a1), (1, .int a2)] := hl
  have hP : va_P D vwCl [] s.heap := hP
  have hD : va_D A [] := hD
  have hr : (r_L_up a1 a2) = ((a1 &&& (2147483647 : Int32)) - (a1 &&& (2147483647 : Int32)) / a2 * a2) := rfl
  refine lv_iload_n hx hb dL_up_0 rfl (lv_at hl 0 rfl) ?_
  refine lv_ldc (v := (2147483647 : Int32)) hx hb hown (hts (.constant RL 8 2147483647) (List.mem_of_getElem? (i := 1) rfl)) dL_up_1 ?_
  refine lv_iand hx hb dL_up_3 ?_
  refine lv_iload_n hx hb dL_up_4 rfl (lv_at hl 1 rfl) ?_
  refine lv_irem hx hb dL_up_5 hz ?_
  exact endI (v := ((a1 &&& (2147483647 : Int32)) - (a1 &&& (2147483647 : Int32)) / a2 * a2)) hb hx hsg hr.symm hP hD hS dL_up_6 hlocks
def r_L_number (G : Nat → Nat → CS) (a1 : Int32) : Int32 := (if a1 < (10 : Int32) then ((fun (z_1 : Nat → Nat → CS) => (if (r_X4_type G (((48 : Int32) + (a1 - a1 / (10 : Int32) * (10 : Int32))).toUInt32 % 65536).toInt32) ≤ (0 : Int32) then (0 : Int32) else (1 : Int32))) (p_X4_type G (((48 : Int32) + (a1 - a1 / (10 : Int32) * (10 : Int32))).toUInt32 % 65536).toInt32)) else ((fun (z_2 : Nat → Nat → CS) => (if (r_X4_type G (((48 : Int32) + (a1 / (10 : Int32))).toUInt32 % 65536).toInt32) ≤ (0 : Int32) then (0 : Int32) else ((fun (z_3 : Nat → Nat → CS) => (if (r_X4_type z_2 (((48 : Int32) + (a1 - a1 / (10 : Int32) * (10 : Int32))).toUInt32 % 65536).toInt32) ≤ (0 : Int32) then (0 : Int32) else (1 : Int32))) (p_X4_type z_2 (((48 : Int32) + (a1 - a1 / (10 : Int32) * (10 : Int32))).toUInt32 % 65536).toInt32)))) (p_X4_type G (((48 : Int32) + (a1 / (10 : Int32))).toUInt32 % 65536).toInt32)))
def p_L_number (G : Nat → Nat → CS) (a1 : Int32) : Nat → Nat → CS := (if a1 < (10 : Int32) then ((fun (z_1 : Nat → Nat → CS) => (if (r_X4_type G (((48 : Int32) + (a1 - a1 / (10 : Int32) * (10 : Int32))).toUInt32 % 65536).toInt32) ≤ (0 : Int32) then z_1 else z_1)) (p_X4_type G (((48 : Int32) + (a1 - a1 / (10 : Int32) * (10 : Int32))).toUInt32 % 65536).toInt32)) else ((fun (z_2 : Nat → Nat → CS) => (if (r_X4_type G (((48 : Int32) + (a1 / (10 : Int32))).toUInt32 % 65536).toInt32) ≤ (0 : Int32) then z_2 else ((fun (z_3 : Nat → Nat → CS) => (if (r_X4_type z_2 (((48 : Int32) + (a1 - a1 / (10 : Int32) * (10 : Int32))).toUInt32 % 65536).toInt32) ≤ (0 : Int32) then z_3 else z_3)) (p_X4_type z_2 (((48 : Int32) + (a1 - a1 / (10 : Int32) * (10 : Int32))).toUInt32 % 65536).toInt32)))) (p_X4_type G (((48 : Int32) + (a1 / (10 : Int32))).toUInt32 % 65536).toInt32)))
abbrev rm_L_number : Room := { frames := 2, cells := 0, slots := 0, locals := 42 }
set_option maxHeartbeats 4000000 in
set_option maxRecDepth 100000 in
theorem c_L_number (l : Launch) (D : va_G) (cI cC cS : ClassId) (B : Nat → Nat → Nat → Nat) (G : Nat → Nat → CS) (a1 : Int32)  : CI l D cI cC cS yL_number wsL_number rm_L_number [.ref (B 0 3 0), .int a1] (gpW cI cC cS B G) (gpW cI cC cS B (p_L_number G a1)) (r_L_number G a1) := by
  intro sz
  refine startC (cc := cL_number) (maxL := 2) (ret := (some .boolean)) (by decide) rfl (Nat.le_of_ble_eq_true rfl) ?_
  intro p e s m args below meth c hx hb hml hsg hts hown hlocks hin hK A hA hS hP hD ls hl
  have hown : s.vm.findClass RL = some m.cls := hown
  have hl : lv_has ls 2 [(0, .ref (B 0 3 0)), (1, .int a1)] := hl
  have hP : va_P D vwCl (gpW cI cC cS B G) s.heap := hP
  have hD : va_D A (gpW cI cC cS B G) := hD
  have hr : (r_L_number G a1) = (if a1 < (10 : Int32) then ((fun (z_1 : Nat → Nat → CS) => (if (r_X4_type G (((48 : Int32) + (a1 - a1 / (10 : Int32) * (10 : Int32))).toUInt32 % 65536).toInt32) ≤ (0 : Int32) then (0 : Int32) else (1 : Int32))) (p_X4_type G (((48 : Int32) + (a1 - a1 / (10 : Int32) * (10 : Int32))).toUInt32 % 65536).toInt32)) else ((fun (z_2 : Nat → Nat → CS) => (if (r_X4_type G (((48 : Int32) + (a1 / (10 : Int32))).toUInt32 % 65536).toInt32) ≤ (0 : Int32) then (0 : Int32) else ((fun (z_3 : Nat → Nat → CS) => (if (r_X4_type z_2 (((48 : Int32) + (a1 - a1 / (10 : Int32) * (10 : Int32))).toUInt32 % 65536).toInt32) ≤ (0 : Int32) then (0 : Int32) else (1 : Int32))) (p_X4_type z_2 (((48 : Int32) + (a1 - a1 / (10 : Int32) * (10 : Int32))).toUInt32 % 65536).toInt32)))) (p_X4_type G (((48 : Int32) + (a1 / (10 : Int32))).toUInt32 % 65536).toInt32))) := rfl
  have hp : (p_L_number G a1) = (if a1 < (10 : Int32) then ((fun (z_1 : Nat → Nat → CS) => (if (r_X4_type G (((48 : Int32) + (a1 - a1 / (10 : Int32) * (10 : Int32))).toUInt32 % 65536).toInt32) ≤ (0 : Int32) then z_1 else z_1)) (p_X4_type G (((48 : Int32) + (a1 - a1 / (10 : Int32) * (10 : Int32))).toUInt32 % 65536).toInt32)) else ((fun (z_2 : Nat → Nat → CS) => (if (r_X4_type G (((48 : Int32) + (a1 / (10 : Int32))).toUInt32 % 65536).toInt32) ≤ (0 : Int32) then z_2 else ((fun (z_3 : Nat → Nat → CS) => (if (r_X4_type z_2 (((48 : Int32) + (a1 - a1 / (10 : Int32) * (10 : Int32))).toUInt32 % 65536).toInt32) ≤ (0 : Int32) then z_3 else z_3)) (p_X4_type z_2 (((48 : Int32) + (a1 - a1 / (10 : Int32) * (10 : Int32))).toUInt32 % 65536).toInt32)))) (p_X4_type G (((48 : Int32) + (a1 / (10 : Int32))).toUInt32 % 65536).toInt32))) := rfl
  refine lv_iload_n hx hb dL_number_0 rfl (lv_at hl 1 rfl) ?_
  refine lv_bipush (v := (10 : Int32)) hx hb dL_number_1 (by decide) ?_
  refine lv_icmp_lt (tgt := 21) hx hb dL_number_3 (by decide) (fun c3 => ?_) (fun c3 => ?_)
  · have hr := hr.trans (if_pos c3)
    have hp := hp.trans (if_pos c3)
    refine lv_aload_n hx hb dL_number_21 rfl (lv_at hl 0 rfl) ?_
    refine lv_bipush (v := (48 : Int32)) hx hb dL_number_22 (by decide) ?_
    refine lv_iload_n hx hb dL_number_24 rfl (lv_at hl 1 rfl) ?_
    refine lv_bipush (v := (10 : Int32)) hx hb dL_number_25 (by decide) ?_
    refine lv_irem hx hb dL_number_27 (by decide) ?_
    refine lv_iadd hx hb dL_number_28 ?_
    refine lv_i2c hx hb dL_number_29 rfl ?_
    refine go1 (va_runV (As := [.int (((48 : Int32) + (a1 - a1 / (10 : Int32) * (10 : Int32))).toUInt32 % 65536).toInt32]) (rest := []) ⟨hx, hb, hml, hown, hts⟩ (c_X4_type l D cI cC cS B G (((48 : Int32) + (a1 - a1 / (10 : Int32) * (10 : Int32))).toUInt32 % 65536).toInt32  _) (cwV 1 hts gL_number_X4_type rfl rfl rfl (by decide +kernel) ⟨Nat.le_of_ble_eq_true rfl, Nat.le_of_ble_eq_true rfl⟩) (pre1 hK hP hD) rfl rfl hl.1 rfl (lv_room (Nat.le_of_ble_eq_true rfl)) dL_number_30 ⟨Nat.zero_le _, Nat.zero_le _⟩) hP hD hS hA (fun H locs hP hD hS => ?_)
    obtain ⟨z_1, hz_1⟩ : ∃ z : Nat → Nat → CS, z = (p_X4_type G (((48 : Int32) + (a1 - a1 / (10 : Int32) * (10 : Int32))).toUInt32 % 65536).toInt32) := ⟨_, rfl⟩
    rw [← hz_1] at hP hD
    have hr : (r_L_number G a1) = (if (r_X4_type G (((48 : Int32) + (a1 - a1 / (10 : Int32) * (10 : Int32))).toUInt32 % 65536).toInt32) ≤ (0 : Int32) then (0 : Int32) else (1 : Int32)) := by subst hz_1; exact hr
    have hp : (p_L_number G a1) = (if (r_X4_type G (((48 : Int32) + (a1 - a1 / (10 : Int32) * (10 : Int32))).toUInt32 % 65536).toInt32) ≤ (0 : Int32) then z_1 else z_1) := by subst hz_1; exact hp
    refine lv_if_le (tgt := 40) hx hb dL_number_33 (by decide) (fun c33 => ?_) (fun c33 => ?_)
    · have hr := hr.trans (if_pos c33)
      have hp := hp.trans (if_pos c33)
      refine lv_iconst (v := (0 : Int32)) hx hb dL_number_40 (by decide) ?_
      exact endZ (v := (0 : Int32)) hb hx hsg rfl hr.symm (by rw [hp]; exact hP) (by rw [hp]; exact hD) hS dL_number_41 hlocks
    · have hr := hr.trans (if_neg c33)
      have hp := hp.trans (if_neg c33)
      refine lv_iconst (v := (1 : Int32)) hx hb dL_number_36 (by decide) ?_
      refine lv_goto (tgt := 41) hx hb dL_number_37 (by decide) ?_
      exact endZ (v := (1 : Int32)) hb hx hsg rfl hr.symm (by rw [hp]; exact hP) (by rw [hp]; exact hD) hS dL_number_41 hlocks
  · have hr := hr.trans (if_neg c3)
    have hp := hp.trans (if_neg c3)
    refine lv_aload_n hx hb dL_number_6 rfl (lv_at hl 0 rfl) ?_
    refine lv_bipush (v := (48 : Int32)) hx hb dL_number_7 (by decide) ?_
    refine lv_iload_n hx hb dL_number_9 rfl (lv_at hl 1 rfl) ?_
    refine lv_bipush (v := (10 : Int32)) hx hb dL_number_10 (by decide) ?_
    refine lv_idiv hx hb dL_number_12 (by decide) ?_
    refine lv_iadd hx hb dL_number_13 ?_
    refine lv_i2c hx hb dL_number_14 rfl ?_
    refine go1 (va_runV (As := [.int (((48 : Int32) + (a1 / (10 : Int32))).toUInt32 % 65536).toInt32]) (rest := []) ⟨hx, hb, hml, hown, hts⟩ (c_X4_type l D cI cC cS B G (((48 : Int32) + (a1 / (10 : Int32))).toUInt32 % 65536).toInt32  _) (cwV 1 hts gL_number_X4_type rfl rfl rfl (by decide +kernel) ⟨Nat.le_of_ble_eq_true rfl, Nat.le_of_ble_eq_true rfl⟩) (pre1 hK hP hD) rfl rfl hl.1 rfl (lv_room (Nat.le_of_ble_eq_true rfl)) dL_number_15 ⟨Nat.zero_le _, Nat.zero_le _⟩) hP hD hS hA (fun H locs hP hD hS => ?_)
    obtain ⟨z_2, hz_2⟩ : ∃ z : Nat → Nat → CS, z = (p_X4_type G (((48 : Int32) + (a1 / (10 : Int32))).toUInt32 % 65536).toInt32) := ⟨_, rfl⟩
    rw [← hz_2] at hP hD
    have hr : (r_L_number G a1) = (if (r_X4_type G (((48 : Int32) + (a1 / (10 : Int32))).toUInt32 % 65536).toInt32) ≤ (0 : Int32) then (0 : Int32) else ((fun (z_3 : Nat → Nat → CS) => (if (r_X4_type z_2 (((48 : Int32) + (a1 - a1 / (10 : Int32) * (10 : Int32))).toUInt32 % 65536).toInt32) ≤ (0 : Int32) then (0 : Int32) else (1 : Int32))) (p_X4_type z_2 (((48 : Int32) + (a1 - a1 / (10 : Int32) * (10 : Int32))).toUInt32 % 65536).toInt32))) := by subst hz_2; exact hr
    have hp : (p_L_number G a1) = (if (r_X4_type G (((48 : Int32) + (a1 / (10 : Int32))).toUInt32 % 65536).toInt32) ≤ (0 : Int32) then z_2 else ((fun (z_3 : Nat → Nat → CS) => (if (r_X4_type z_2 (((48 : Int32) + (a1 - a1 / (10 : Int32) * (10 : Int32))).toUInt32 % 65536).toInt32) ≤ (0 : Int32) then z_3 else z_3)) (p_X4_type z_2 (((48 : Int32) + (a1 - a1 / (10 : Int32) * (10 : Int32))).toUInt32 % 65536).toInt32))) := by subst hz_2; exact hp
    refine lv_if_le (tgt := 40) hx hb dL_number_18 (by decide) (fun c18 => ?_) (fun c18 => ?_)
    · have hr := hr.trans (if_pos c18)
      have hp := hp.trans (if_pos c18)
      refine lv_iconst (v := (0 : Int32)) hx hb dL_number_40 (by decide) ?_
      exact endZ (v := (0 : Int32)) hb hx hsg rfl hr.symm (by rw [hp]; exact hP) (by rw [hp]; exact hD) hS dL_number_41 hlocks
    · have hr := hr.trans (if_neg c18)
      have hp := hp.trans (if_neg c18)
      refine lv_aload_n hx hb dL_number_21 rfl (lv_at hl 0 rfl) ?_
      refine lv_bipush (v := (48 : Int32)) hx hb dL_number_22 (by decide) ?_
      refine lv_iload_n hx hb dL_number_24 rfl (lv_at hl 1 rfl) ?_
      refine lv_bipush (v := (10 : Int32)) hx hb dL_number_25 (by decide) ?_
      refine lv_irem hx hb dL_number_27 (by decide) ?_
      refine lv_iadd hx hb dL_number_28 ?_
      refine lv_i2c hx hb dL_number_29 rfl ?_
      refine go1 (va_runV (As := [.int (((48 : Int32) + (a1 - a1 / (10 : Int32) * (10 : Int32))).toUInt32 % 65536).toInt32]) (rest := []) ⟨hx, hb, hml, hown, hts⟩ (c_X4_type l D cI cC cS B z_2 (((48 : Int32) + (a1 - a1 / (10 : Int32) * (10 : Int32))).toUInt32 % 65536).toInt32  _) (cwV 1 hts gL_number_X4_type rfl rfl rfl (by decide +kernel) ⟨Nat.le_of_ble_eq_true rfl, Nat.le_of_ble_eq_true rfl⟩) (pre1 hK hP hD) rfl rfl hl.1 rfl (lv_room (Nat.le_of_ble_eq_true rfl)) dL_number_30 ⟨Nat.zero_le _, Nat.zero_le _⟩) hP hD hS hA (fun H locs hP hD hS => ?_)
      obtain ⟨z_3, hz_3⟩ : ∃ z : Nat → Nat → CS, z = (p_X4_type z_2 (((48 : Int32) + (a1 - a1 / (10 : Int32) * (10 : Int32))).toUInt32 % 65536).toInt32) := ⟨_, rfl⟩
      rw [← hz_3] at hP hD
      have hr : (r_L_number G a1) = (if (r_X4_type z_2 (((48 : Int32) + (a1 - a1 / (10 : Int32) * (10 : Int32))).toUInt32 % 65536).toInt32) ≤ (0 : Int32) then (0 : Int32) else (1 : Int32)) := by subst hz_3; exact hr
      have hp : (p_L_number G a1) = (if (r_X4_type z_2 (((48 : Int32) + (a1 - a1 / (10 : Int32) * (10 : Int32))).toUInt32 % 65536).toInt32) ≤ (0 : Int32) then z_3 else z_3) := by subst hz_3; exact hp
      refine lv_if_le (tgt := 40) hx hb dL_number_33 (by decide) (fun c33 => ?_) (fun c33 => ?_)
      · have hr := hr.trans (if_pos c33)
        have hp := hp.trans (if_pos c33)
        refine lv_iconst (v := (0 : Int32)) hx hb dL_number_40 (by decide) ?_
        exact endZ (v := (0 : Int32)) hb hx hsg rfl hr.symm (by rw [hp]; exact hP) (by rw [hp]; exact hD) hS dL_number_41 hlocks
      · have hr := hr.trans (if_neg c33)
        have hp := hp.trans (if_neg c33)
        refine lv_iconst (v := (1 : Int32)) hx hb dL_number_36 (by decide) ?_
        refine lv_goto (tgt := 41) hx hb dL_number_37 (by decide) ?_
        exact endZ (v := (1 : Int32)) hb hx hsg rfl hr.symm (by rw [hp]; exact hP) (by rw [hp]; exact hD) hS dL_number_41 hlocks
