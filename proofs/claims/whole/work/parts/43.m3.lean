def r_X5_side (M : CS) (a1 : Int32) (a2 : Int32) : Int32 := (if (r_X5_isSide a1) = (0 : Int32) then (-1 : Int32) else (if a2 = (0 : Int32) then (r_X5_of M a1 a2) else (if a2 = (1 : Int32) then (r_X5_of M a1 a2) else (if a2 = (2 : Int32) then (r_X5_of M a1 a2) else (if a2 = (3 : Int32) then (r_X5_of M a1 a2) else (if a2 = (4 : Int32) then (r_X5_codeOf M (r_X5_of M a1 (3 : Int32))) else (if a2 = (5 : Int32) then (r_X5_of M a1 (a2 - (1 : Int32))) else (if a2 = (6 : Int32) then (r_X5_of M a1 (a2 - (1 : Int32))) else (if a2 = (7 : Int32) then (r_X5_seen M a1) else (if a2 = (8 : Int32) then (r_X5_fillSeen M a1) else (if a2 = (9 : Int32) then (if (r_X5_seems M a1) = (0 : Int32) then (0 : Int32) else (1 : Int32)) else (if a2 = (10 : Int32) then (if (r_X5_isAlmost M a1) = (0 : Int32) then (0 : Int32) else (1 : Int32)) else (if a2 = (11 : Int32) then (r_X5_untilTick M a1) else (if a2 = (12 : Int32) then (r_X5_of M a1 (a2 - (6 : Int32))) else (if a2 = (13 : Int32) then (r_X5_of M a1 (a2 - (6 : Int32))) else (-2 : Int32))))))))))))))))
abbrev rm_X5_side : Room := { frames := 4, cells := 0, slots := 0, locals := 87 }
set_option maxHeartbeats 4000000 in
set_option maxRecDepth 100000 in
theorem c_X5_side (l : Launch) (D : va_G) (cI cC cS : ClassId) (md : Nat → Nat) (M : CS) (a1 : Int32) (a2 : Int32) (hp : ¬ (M 1 11) = 0 ∧ ¬ (M 1 19) = 0) : CI l D cI cC cS yX5_side wsX5_side rm_X5_side [.ref (md 0), .int a1, .int a2] (mdW cI md M) (mdW cI md M) (r_X5_side M a1 a2) := by
  intro sz
  refine startC (cc := cX5_side) (maxL := 3) (ret := (some .int)) (by decide) rfl (Nat.le_of_ble_eq_true rfl) ?_
  intro p e s m args below meth c hx hb hml hsg hts hown hlocks hin hK A hA hS hP hD ls hl
  have hown : s.vm.findClass RX5 = some m.cls := hown
  have hl : lv_has ls 3 [(0, .ref (md 0)), (1, .int a1), (2, .int a2)] := hl
  have hP : va_P D vwCl [((md 0), mdC md (M 0)), ((md 1), arC cI 96 (M 1)), ((md 2), arC cI 96 (M 2)), ((md 3), arC cI 96 (M 3)), ((md 4), arC cI 384 (M 4)), ((md 5), arC cI 96 (M 5)), ((md 6), arC cI 60 (M 6))] s.heap := hP
  have hD : va_D A [((md 0), mdC md (M 0)), ((md 1), arC cI 96 (M 1)), ((md 2), arC cI 96 (M 2)), ((md 3), arC cI 96 (M 3)), ((md 4), arC cI 384 (M 4)), ((md 5), arC cI 96 (M 5)), ((md 6), arC cI 60 (M 6))] := hD
  have hr : (r_X5_side M a1 a2) = (if (r_X5_isSide a1) = (0 : Int32) then (-1 : Int32) else (if a2 = (0 : Int32) then (r_X5_of M a1 a2) else (if a2 = (1 : Int32) then (r_X5_of M a1 a2) else (if a2 = (2 : Int32) then (r_X5_of M a1 a2) else (if a2 = (3 : Int32) then (r_X5_of M a1 a2) else (if a2 = (4 : Int32) then (r_X5_codeOf M (r_X5_of M a1 (3 : Int32))) else (if a2 = (5 : Int32) then (r_X5_of M a1 (a2 - (1 : Int32))) else (if a2 = (6 : Int32) then (r_X5_of M a1 (a2 - (1 : Int32))) else (if a2 = (7 : Int32) then (r_X5_seen M a1) else (if a2 = (8 : Int32) then (r_X5_fillSeen M a1) else (if a2 = (9 : Int32) then (if (r_X5_seems M a1) = (0 : Int32) then (0 : Int32) else (1 : Int32)) else (if a2 = (10 : Int32) then (if (r_X5_isAlmost M a1) = (0 : Int32) then (0 : Int32) else (1 : Int32)) else (if a2 = (11 : Int32) then (r_X5_untilTick M a1) else (if a2 = (12 : Int32) then (r_X5_of M a1 (a2 - (6 : Int32))) else (if a2 = (13 : Int32) then (r_X5_of M a1 (a2 - (6 : Int32))) else (-2 : Int32)))))))))))))))) := rfl
  refine lv_iload_n hx hb dX5_side_0 rfl (lv_at hl 1 rfl) ?_
  refine goI (n := 7) (ws' := [((md 0), mdC md (M 0)), ((md 1), arC cI 96 (M 1)), ((md 2), arC cI 96 (M 2)), ((md 3), arC cI 96 (M 3)), ((md 4), arC cI 384 (M 4)), ((md 5), arC cI 96 (M 5)), ((md 6), arC cI 60 (M 6))]) (rs := [((md 0), mdC md (M 0)), ((md 1), arC cI 96 (M 1)), ((md 2), arC cI 96 (M 2)), ((md 3), arC cI 96 (M 3)), ((md 4), arC cI 384 (M 4)), ((md 5), arC cI 96 (M 5)), ((md 6), arC cI 60 (M 6))]) (va_runS (As := [.int a1]) (rest := []) ⟨hx, hb, hml, hown, hts⟩ (c_X5_isSide l D cI cC cS a1  _) (va_cwS 1 hts gX5_side_X5_isSide rfl rfl rfl (by decide +kernel) ⟨Nat.le_of_ble_eq_true rfl, Nat.le_of_ble_eq_true rfl⟩) (preS hK hP hD [] (by decide) rfl) rfl rfl hl.1 rfl (lv_room (Nat.le_of_ble_eq_true rfl)) dX5_side_1 ⟨Nat.zero_le _, Nat.zero_le _⟩) hP hD hS hA [] [0, 1, 2, 3, 4, 5, 6] rfl rfl rfl rfl rfl (by decide +kernel) rfl (fun H locs hP hD hS => ?_)
  refine lv_if_ne (tgt := 9) hx hb dX5_side_4 (by decide) (fun c4 => ?_) (fun c4 => ?_)
  · have hr := hr.trans (if_neg c4)
    refine lv_iload_n hx hb dX5_side_9 rfl (lv_at hl 2 rfl) ?_
    by_cases c10_0 : a2 = (0 : Int32)
    · refine lv_tableIn (off := 70) (tgt := 80) hx hb dX5_side_10 (by rw [c10_0]; decide) (by rw [c10_0]; decide) (by rw [c10_0]; rfl) (by decide) ?_
      have hr := hr.trans (if_pos c10_0)
      refine lv_aload_n hx hb dX5_side_80 rfl (lv_at hl 0 rfl) ?_
      refine lv_iload_n hx hb dX5_side_81 rfl (lv_at hl 1 rfl) ?_
      refine lv_iload_n hx hb dX5_side_82 rfl (lv_at hl 2 rfl) ?_
      refine goI (n := 7) (ws' := [((md 0), mdC md (M 0)), ((md 1), arC cI 96 (M 1)), ((md 2), arC cI 96 (M 2)), ((md 3), arC cI 96 (M 3)), ((md 4), arC cI 384 (M 4)), ((md 5), arC cI 96 (M 5)), ((md 6), arC cI 60 (M 6))]) (rs := []) (va_runV (As := [.int a1, .int a2]) (rest := []) ⟨hx, hb, hml, hown, hts⟩ (c_X5_of l D cI cC cS md M a1 a2 (sd_in (isS c4) (by first | (rw [c10_0]; decide) | (rw [c10_1]; decide) | (rw [c10_2]; decide) | (rw [c10_3]; decide) | (rw [c10_4]; decide) | (rw [c10_5]; decide) | (rw [c10_6]; decide) | (rw [c10_7]; decide) | (rw [c10_8]; decide) | (rw [c10_9]; decide) | (rw [c10_10]; decide) | (rw [c10_11]; decide) | (rw [c10_12]; decide) | (rw [c10_13]; decide))) _) (cwV 2 hts gX5_side_X5_of rfl rfl rfl (by decide +kernel) ⟨Nat.le_of_ble_eq_true rfl, Nat.le_of_ble_eq_true rfl⟩) (preV hK hP hD [0, 1, 2, 3, 4, 5, 6] (by decide) rfl 0 5 rfl rfl) rfl rfl hl.1 rfl (lv_room (Nat.le_of_ble_eq_true rfl)) dX5_side_83 ⟨Nat.zero_le _, Nat.zero_le _⟩) hP hD hS hA [0, 1, 2, 3, 4, 5, 6] [] rfl rfl rfl rfl rfl (by decide +kernel) rfl (fun H locs hP hD hS => ?_)
      exact endI (v := (r_X5_of M a1 a2)) hb hx hsg hr.symm hP hD hS dX5_side_86 hlocks
    · skip
      have hr := hr.trans (if_neg c10_0)
      by_cases c10_1 : a2 = (1 : Int32)
      · refine lv_tableIn (off := 70) (tgt := 80) hx hb dX5_side_10 (by rw [c10_1]; decide) (by rw [c10_1]; decide) (by rw [c10_1]; rfl) (by decide) ?_
        have hr := hr.trans (if_pos c10_1)
        refine lv_aload_n hx hb dX5_side_80 rfl (lv_at hl 0 rfl) ?_
        refine lv_iload_n hx hb dX5_side_81 rfl (lv_at hl 1 rfl) ?_
        refine lv_iload_n hx hb dX5_side_82 rfl (lv_at hl 2 rfl) ?_
        refine goI (n := 7) (ws' := [((md 0), mdC md (M 0)), ((md 1), arC cI 96 (M 1)), ((md 2), arC cI 96 (M 2)), ((md 3), arC cI 96 (M 3)), ((md 4), arC cI 384 (M 4)), ((md 5), arC cI 96 (M 5)), ((md 6), arC cI 60 (M 6))]) (rs := []) (va_runV (As := [.int a1, .int a2]) (rest := []) ⟨hx, hb, hml, hown, hts⟩ (c_X5_of l D cI cC cS md M a1 a2 (sd_in (isS c4) (by first | (rw [c10_0]; decide) | (rw [c10_1]; decide) | (rw [c10_2]; decide) | (rw [c10_3]; decide) | (rw [c10_4]; decide) | (rw [c10_5]; decide) | (rw [c10_6]; decide) | (rw [c10_7]; decide) | (rw [c10_8]; decide) | (rw [c10_9]; decide) | (rw [c10_10]; decide) | (rw [c10_11]; decide) | (rw [c10_12]; decide) | (rw [c10_13]; decide))) _) (cwV 2 hts gX5_side_X5_of rfl rfl rfl (by decide +kernel) ⟨Nat.le_of_ble_eq_true rfl, Nat.le_of_ble_eq_true rfl⟩) (preV hK hP hD [0, 1, 2, 3, 4, 5, 6] (by decide) rfl 0 5 rfl rfl) rfl rfl hl.1 rfl (lv_room (Nat.le_of_ble_eq_true rfl)) dX5_side_83 ⟨Nat.zero_le _, Nat.zero_le _⟩) hP hD hS hA [0, 1, 2, 3, 4, 5, 6] [] rfl rfl rfl rfl rfl (by decide +kernel) rfl (fun H locs hP hD hS => ?_)
        exact endI (v := (r_X5_of M a1 a2)) hb hx hsg hr.symm hP hD hS dX5_side_86 hlocks
      · skip
        have hr := hr.trans (if_neg c10_1)
        by_cases c10_2 : a2 = (2 : Int32)
        · refine lv_tableIn (off := 70) (tgt := 80) hx hb dX5_side_10 (by rw [c10_2]; decide) (by rw [c10_2]; decide) (by rw [c10_2]; rfl) (by decide) ?_
          have hr := hr.trans (if_pos c10_2)
          refine lv_aload_n hx hb dX5_side_80 rfl (lv_at hl 0 rfl) ?_
          refine lv_iload_n hx hb dX5_side_81 rfl (lv_at hl 1 rfl) ?_
          refine lv_iload_n hx hb dX5_side_82 rfl (lv_at hl 2 rfl) ?_
          refine goI (n := 7) (ws' := [((md 0), mdC md (M 0)), ((md 1), arC cI 96 (M 1)), ((md 2), arC cI 96 (M 2)), ((md 3), arC cI 96 (M 3)), ((md 4), arC cI 384 (M 4)), ((md 5), arC cI 96 (M 5)), ((md 6), arC cI 60 (M 6))]) (rs := []) (va_runV (As := [.int a1, .int a2]) (rest := []) ⟨hx, hb, hml, hown, hts⟩ (c_X5_of l D cI cC cS md M a1 a2 (sd_in (isS c4) (by first | (rw [c10_0]; decide) | (rw [c10_1]; decide) | (rw [c10_2]; decide) | (rw [c10_3]; decide) | (rw [c10_4]; decide) | (rw [c10_5]; decide) | (rw [c10_6]; decide) | (rw [c10_7]; decide) | (rw [c10_8]; decide) | (rw [c10_9]; decide) | (rw [c10_10]; decide) | (rw [c10_11]; decide) | (rw [c10_12]; decide) | (rw [c10_13]; decide))) _) (cwV 2 hts gX5_side_X5_of rfl rfl rfl (by decide +kernel) ⟨Nat.le_of_ble_eq_true rfl, Nat.le_of_ble_eq_true rfl⟩) (preV hK hP hD [0, 1, 2, 3, 4, 5, 6] (by decide) rfl 0 5 rfl rfl) rfl rfl hl.1 rfl (lv_room (Nat.le_of_ble_eq_true rfl)) dX5_side_83 ⟨Nat.zero_le _, Nat.zero_le _⟩) hP hD hS hA [0, 1, 2, 3, 4, 5, 6] [] rfl rfl rfl rfl rfl (by decide +kernel) rfl (fun H locs hP hD hS => ?_)
          exact endI (v := (r_X5_of M a1 a2)) hb hx hsg hr.symm hP hD hS dX5_side_86 hlocks
        · skip
          have hr := hr.trans (if_neg c10_2)
          by_cases c10_3 : a2 = (3 : Int32)
          · refine lv_tableIn (off := 70) (tgt := 80) hx hb dX5_side_10 (by rw [c10_3]; decide) (by rw [c10_3]; decide) (by rw [c10_3]; rfl) (by decide) ?_
            have hr := hr.trans (if_pos c10_3)
            refine lv_aload_n hx hb dX5_side_80 rfl (lv_at hl 0 rfl) ?_
            refine lv_iload_n hx hb dX5_side_81 rfl (lv_at hl 1 rfl) ?_
            refine lv_iload_n hx hb dX5_side_82 rfl (lv_at hl 2 rfl) ?_
            refine goI (n := 7) (ws' := [((md 0), mdC md (M 0)), ((md 1), arC cI 96 (M 1)), ((md 2), arC cI 96 (M 2)), ((md 3), arC cI 96 (M 3)), ((md 4), arC cI 384 (M 4)), ((md 5), arC cI 96 (M 5)), ((md 6), arC cI 60 (M 6))]) (rs := []) (va_runV (As := [.int a1, .int a2]) (rest := []) ⟨hx, hb, hml, hown, hts⟩ (c_X5_of l D cI cC cS md M a1 a2 (sd_in (isS c4) (by first | (rw [c10_0]; decide) | (rw [c10_1]; decide) | (rw [c10_2]; decide) | (rw [c10_3]; decide) | (rw [c10_4]; decide) | (rw [c10_5]; decide) | (rw [c10_6]; decide) | (rw [c10_7]; decide) | (rw [c10_8]; decide) | (rw [c10_9]; decide) | (rw [c10_10]; decide) | (rw [c10_11]; decide) | (rw [c10_12]; decide) | (rw [c10_13]; decide))) _) (cwV 2 hts gX5_side_X5_of rfl rfl rfl (by decide +kernel) ⟨Nat.le_of_ble_eq_true rfl, Nat.le_of_ble_eq_true rfl⟩) (preV hK hP hD [0, 1, 2, 3, 4, 5, 6] (by decide) rfl 0 5 rfl rfl) rfl rfl hl.1 rfl (lv_room (Nat.le_of_ble_eq_true rfl)) dX5_side_83 ⟨Nat.zero_le _, Nat.zero_le _⟩) hP hD hS hA [0, 1, 2, 3, 4, 5, 6] [] rfl rfl rfl rfl rfl (by decide +kernel) rfl (fun H locs hP hD hS => ?_)
            exact endI (v := (r_X5_of M a1 a2)) hb hx hsg hr.symm hP hD hS dX5_side_86 hlocks
          · skip
            have hr := hr.trans (if_neg c10_3)
            by_cases c10_4 : a2 = (4 : Int32)
            · refine lv_tableIn (off := 77) (tgt := 87) hx hb dX5_side_10 (by rw [c10_4]; decide) (by rw [c10_4]; decide) (by rw [c10_4]; rfl) (by decide) ?_
              have hr := hr.trans (if_pos c10_4)
              refine lv_aload_n hx hb dX5_side_87 rfl (lv_at hl 0 rfl) ?_
              refine lv_aload_n hx hb dX5_side_88 rfl (lv_at hl 0 rfl) ?_
              refine lv_iload_n hx hb dX5_side_89 rfl (lv_at hl 1 rfl) ?_
              refine lv_iconst (v := (3 : Int32)) hx hb dX5_side_90 (by decide) ?_
              refine goI (n := 7) (ws' := [((md 0), mdC md (M 0)), ((md 1), arC cI 96 (M 1)), ((md 2), arC cI 96 (M 2)), ((md 3), arC cI 96 (M 3)), ((md 4), arC cI 384 (M 4)), ((md 5), arC cI 96 (M 5)), ((md 6), arC cI 60 (M 6))]) (rs := []) (va_runV (As := [.int a1, .int (3 : Int32)]) (rest := [.ref (md 0)]) ⟨hx, hb, hml, hown, hts⟩ (c_X5_of l D cI cC cS md M a1 (3 : Int32) (sd_in (isS c4) (by decide)) _) (cwV 2 hts gX5_side_X5_of rfl rfl rfl (by decide +kernel) ⟨Nat.le_of_ble_eq_true rfl, Nat.le_of_ble_eq_true rfl⟩) (preV hK hP hD [0, 1, 2, 3, 4, 5, 6] (by decide) rfl 0 5 rfl rfl) rfl rfl hl.1 rfl (lv_room (Nat.le_of_ble_eq_true rfl)) dX5_side_91 ⟨Nat.zero_le _, Nat.zero_le _⟩) hP hD hS hA [0, 1, 2, 3, 4, 5, 6] [] rfl rfl rfl rfl rfl (by decide +kernel) rfl (fun H locs hP hD hS => ?_)
              refine goI (n := 7) (ws' := [((md 0), mdC md (M 0)), ((md 1), arC cI 96 (M 1)), ((md 2), arC cI 96 (M 2)), ((md 3), arC cI 96 (M 3)), ((md 4), arC cI 384 (M 4)), ((md 5), arC cI 96 (M 5)), ((md 6), arC cI 60 (M 6))]) (rs := []) (va_runV (As := [.int (r_X5_of M a1 (3 : Int32))]) (rest := []) ⟨hx, hb, hml, hown, hts⟩ (c_X5_codeOf l D cI cC cS md M (r_X5_of M a1 (3 : Int32))  _) (cwV 1 hts gX5_side_X5_codeOf rfl rfl rfl (by decide +kernel) ⟨Nat.le_of_ble_eq_true rfl, Nat.le_of_ble_eq_true rfl⟩) (preV hK hP hD [0, 1, 2, 3, 4, 5, 6] (by decide) rfl 0 5 rfl rfl) rfl rfl hl.1 rfl (lv_room (Nat.le_of_ble_eq_true rfl)) dX5_side_94 ⟨Nat.zero_le _, Nat.zero_le _⟩) hP hD hS hA [0, 1, 2, 3, 4, 5, 6] [] rfl rfl rfl rfl rfl (by decide +kernel) rfl (fun H locs hP hD hS => ?_)
              exact endI (v := (r_X5_codeOf M (r_X5_of M a1 (3 : Int32)))) hb hx hsg hr.symm hP hD hS dX5_side_97 hlocks
            · skip
              have hr := hr.trans (if_neg c10_4)
              by_cases c10_5 : a2 = (5 : Int32)
              · refine lv_tableIn (off := 88) (tgt := 98) hx hb dX5_side_10 (by rw [c10_5]; decide) (by rw [c10_5]; decide) (by rw [c10_5]; rfl) (by decide) ?_
                have hr := hr.trans (if_pos c10_5)
                refine lv_aload_n hx hb dX5_side_98 rfl (lv_at hl 0 rfl) ?_
                refine lv_iload_n hx hb dX5_side_99 rfl (lv_at hl 1 rfl) ?_
                refine lv_iload_n hx hb dX5_side_100 rfl (lv_at hl 2 rfl) ?_
                refine lv_iconst (v := (1 : Int32)) hx hb dX5_side_101 (by decide) ?_
                refine lv_isub hx hb dX5_side_102 ?_
                refine goI (n := 7) (ws' := [((md 0), mdC md (M 0)), ((md 1), arC cI 96 (M 1)), ((md 2), arC cI 96 (M 2)), ((md 3), arC cI 96 (M 3)), ((md 4), arC cI 384 (M 4)), ((md 5), arC cI 96 (M 5)), ((md 6), arC cI 60 (M 6))]) (rs := []) (va_runV (As := [.int a1, .int (a2 - (1 : Int32))]) (rest := []) ⟨hx, hb, hml, hown, hts⟩ (c_X5_of l D cI cC cS md M a1 (a2 - (1 : Int32)) (sd_in (isS c4) (by first | (rw [c10_0]; decide) | (rw [c10_1]; decide) | (rw [c10_2]; decide) | (rw [c10_3]; decide) | (rw [c10_4]; decide) | (rw [c10_5]; decide) | (rw [c10_6]; decide) | (rw [c10_7]; decide) | (rw [c10_8]; decide) | (rw [c10_9]; decide) | (rw [c10_10]; decide) | (rw [c10_11]; decide) | (rw [c10_12]; decide) | (rw [c10_13]; decide))) _) (cwV 2 hts gX5_side_X5_of rfl rfl rfl (by decide +kernel) ⟨Nat.le_of_ble_eq_true rfl, Nat.le_of_ble_eq_true rfl⟩) (preV hK hP hD [0, 1, 2, 3, 4, 5, 6] (by decide) rfl 0 5 rfl rfl) rfl rfl hl.1 rfl (lv_room (Nat.le_of_ble_eq_true rfl)) dX5_side_103 ⟨Nat.zero_le _, Nat.zero_le _⟩) hP hD hS hA [0, 1, 2, 3, 4, 5, 6] [] rfl rfl rfl rfl rfl (by decide +kernel) rfl (fun H locs hP hD hS => ?_)
                exact endI (v := (r_X5_of M a1 (a2 - (1 : Int32)))) hb hx hsg hr.symm hP hD hS dX5_side_106 hlocks
              · skip
                have hr := hr.trans (if_neg c10_5)
                by_cases c10_6 : a2 = (6 : Int32)
                · refine lv_tableIn (off := 88) (tgt := 98) hx hb dX5_side_10 (by rw [c10_6]; decide) (by rw [c10_6]; decide) (by rw [c10_6]; rfl) (by decide) ?_
                  have hr := hr.trans (if_pos c10_6)
                  refine lv_aload_n hx hb dX5_side_98 rfl (lv_at hl 0 rfl) ?_
                  refine lv_iload_n hx hb dX5_side_99 rfl (lv_at hl 1 rfl) ?_
                  refine lv_iload_n hx hb dX5_side_100 rfl (lv_at hl 2 rfl) ?_
                  refine lv_iconst (v := (1 : Int32)) hx hb dX5_side_101 (by decide) ?_
                  refine lv_isub hx hb dX5_side_102 ?_
                  refine goI (n := 7) (ws' := [((md 0), mdC md (M 0)), ((md 1), arC cI 96 (M 1)), ((md 2), arC cI 96 (M 2)), ((md 3), arC cI 96 (M 3)), ((md 4), arC cI 384 (M 4)), ((md 5), arC cI 96 (M 5)), ((md 6), arC cI 60 (M 6))]) (rs := []) (va_runV (As := [.int a1, .int (a2 - (1 : Int32))]) (rest := []) ⟨hx, hb, hml, hown, hts⟩ (c_X5_of l D cI cC cS md M a1 (a2 - (1 : Int32)) (sd_in (isS c4) (by first | (rw [c10_0]; decide) | (rw [c10_1]; decide) | (rw [c10_2]; decide) | (rw [c10_3]; decide) | (rw [c10_4]; decide) | (rw [c10_5]; decide) | (rw [c10_6]; decide) | (rw [c10_7]; decide) | (rw [c10_8]; decide) | (rw [c10_9]; decide) | (rw [c10_10]; decide) | (rw [c10_11]; decide) | (rw [c10_12]; decide) | (rw [c10_13]; decide))) _) (cwV 2 hts gX5_side_X5_of rfl rfl rfl (by decide +kernel) ⟨Nat.le_of_ble_eq_true rfl, Nat.le_of_ble_eq_true rfl⟩) (preV hK hP hD [0, 1, 2, 3, 4, 5, 6] (by decide) rfl 0 5 rfl rfl) rfl rfl hl.1 rfl (lv_room (Nat.le_of_ble_eq_true rfl)) dX5_side_103 ⟨Nat.zero_le _, Nat.zero_le _⟩) hP hD hS hA [0, 1, 2, 3, 4, 5, 6] [] rfl rfl rfl rfl rfl (by decide +kernel) rfl (fun H locs hP hD hS => ?_)
                  exact endI (v := (r_X5_of M a1 (a2 - (1 : Int32)))) hb hx hsg hr.symm hP hD hS dX5_side_106 hlocks
                · skip
                  have hr := hr.trans (if_neg c10_6)
                  by_cases c10_7 : a2 = (7 : Int32)
                  · refine lv_tableIn (off := 97) (tgt := 107) hx hb dX5_side_10 (by rw [c10_7]; decide) (by rw [c10_7]; decide) (by rw [c10_7]; rfl) (by decide) ?_
                    have hr := hr.trans (if_pos c10_7)
                    refine lv_aload_n hx hb dX5_side_107 rfl (lv_at hl 0 rfl) ?_
                    refine lv_iload_n hx hb dX5_side_108 rfl (lv_at hl 1 rfl) ?_
                    refine goI (n := 7) (ws' := [((md 0), mdC md (M 0)), ((md 1), arC cI 96 (M 1)), ((md 2), arC cI 96 (M 2)), ((md 3), arC cI 96 (M 3)), ((md 4), arC cI 384 (M 4)), ((md 5), arC cI 96 (M 5)), ((md 6), arC cI 60 (M 6))]) (rs := []) (va_runV (As := [.int a1]) (rest := []) ⟨hx, hb, hml, hown, hts⟩ (c_X5_seen l D cI cC cS md M a1 (isS c4) _) (cwV 1 hts gX5_side_X5_seen rfl rfl rfl (by decide +kernel) ⟨Nat.le_of_ble_eq_true rfl, Nat.le_of_ble_eq_true rfl⟩) (preV hK hP hD [0, 1, 2, 3, 4, 5, 6] (by decide) rfl 0 5 rfl rfl) rfl rfl hl.1 rfl (lv_room (Nat.le_of_ble_eq_true rfl)) dX5_side_109 ⟨Nat.zero_le _, Nat.zero_le _⟩) hP hD hS hA [0, 1, 2, 3, 4, 5, 6] [] rfl rfl rfl rfl rfl (by decide +kernel) rfl (fun H locs hP hD hS => ?_)
                    exact endI (v := (r_X5_seen M a1)) hb hx hsg hr.symm hP hD hS dX5_side_112 hlocks
                  · skip
                    have hr := hr.trans (if_neg c10_7)
                    by_cases c10_8 : a2 = (8 : Int32)
                    · refine lv_tableIn (off := 103) (tgt := 113) hx hb dX5_side_10 (by rw [c10_8]; decide) (by rw [c10_8]; decide) (by rw [c10_8]; rfl) (by decide) ?_
                      have hr := hr.trans (if_pos c10_8)
                      refine lv_aload_n hx hb dX5_side_113 rfl (lv_at hl 0 rfl) ?_
                      refine lv_iload_n hx hb dX5_side_114 rfl (lv_at hl 1 rfl) ?_
                      refine goI (n := 7) (ws' := [((md 0), mdC md (M 0)), ((md 1), arC cI 96 (M 1)), ((md 2), arC cI 96 (M 2)), ((md 3), arC cI 96 (M 3)), ((md 4), arC cI 384 (M 4)), ((md 5), arC cI 96 (M 5)), ((md 6), arC cI 60 (M 6))]) (rs := []) (va_runV (As := [.int a1]) (rest := []) ⟨hx, hb, hml, hown, hts⟩ (c_X5_fillSeen l D cI cC cS md M a1  _) (cwV 1 hts gX5_side_X5_fillSeen rfl rfl rfl (by decide +kernel) ⟨Nat.le_of_ble_eq_true rfl, Nat.le_of_ble_eq_true rfl⟩) (preV hK hP hD [0, 1, 2, 3, 4, 5, 6] (by decide) rfl 0 5 rfl rfl) rfl rfl hl.1 rfl (lv_room (Nat.le_of_ble_eq_true rfl)) dX5_side_115 ⟨Nat.zero_le _, Nat.zero_le _⟩) hP hD hS hA [0, 1, 2, 3, 4, 5, 6] [] rfl rfl rfl rfl rfl (by decide +kernel) rfl (fun H locs hP hD hS => ?_)
                      exact endI (v := (r_X5_fillSeen M a1)) hb hx hsg hr.symm hP hD hS dX5_side_118 hlocks
                    · skip
                      have hr := hr.trans (if_neg c10_8)
                      by_cases c10_9 : a2 = (9 : Int32)
                      · refine lv_tableIn (off := 109) (tgt := 119) hx hb dX5_side_10 (by rw [c10_9]; decide) (by rw [c10_9]; decide) (by rw [c10_9]; rfl) (by decide) ?_
                        have hr := hr.trans (if_pos c10_9)
                        refine lv_aload_n hx hb dX5_side_119 rfl (lv_at hl 0 rfl) ?_
                        refine lv_iload_n hx hb dX5_side_120 rfl (lv_at hl 1 rfl) ?_
                        refine goI (n := 7) (ws' := [((md 0), mdC md (M 0)), ((md 1), arC cI 96 (M 1)), ((md 2), arC cI 96 (M 2)), ((md 3), arC cI 96 (M 3)), ((md 4), arC cI 384 (M 4)), ((md 5), arC cI 96 (M 5)), ((md 6), arC cI 60 (M 6))]) (rs := []) (va_runV (As := [.int a1]) (rest := []) ⟨hx, hb, hml, hown, hts⟩ (c_X5_seems l D cI cC cS md M a1  _) (cwV 1 hts gX5_side_X5_seems rfl rfl rfl (by decide +kernel) ⟨Nat.le_of_ble_eq_true rfl, Nat.le_of_ble_eq_true rfl⟩) (preV hK hP hD [0, 1, 2, 3, 4, 5, 6] (by decide) rfl 0 5 rfl rfl) rfl rfl hl.1 rfl (lv_room (Nat.le_of_ble_eq_true rfl)) dX5_side_121 ⟨Nat.zero_le _, Nat.zero_le _⟩) hP hD hS hA [0, 1, 2, 3, 4, 5, 6] [] rfl rfl rfl rfl rfl (by decide +kernel) rfl (fun H locs hP hD hS => ?_)
                        refine lv_if_eq (tgt := 131) hx hb dX5_side_124 (by decide) (fun c124 => ?_) (fun c124 => ?_)
                        · have hr := hr.trans (if_pos c124)
                          refine lv_iconst (v := (0 : Int32)) hx hb dX5_side_131 (by decide) ?_
                          exact endI (v := (0 : Int32)) hb hx hsg hr.symm hP hD hS dX5_side_132 hlocks
                        · have hr := hr.trans (if_neg c124)
                          refine lv_iconst (v := (1 : Int32)) hx hb dX5_side_127 (by decide) ?_
                          refine lv_goto (tgt := 132) hx hb dX5_side_128 (by decide) ?_
                          exact endI (v := (1 : Int32)) hb hx hsg hr.symm hP hD hS dX5_side_132 hlocks
                      · skip
                        have hr := hr.trans (if_neg c10_9)
                        by_cases c10_10 : a2 = (10 : Int32)
                        · refine lv_tableIn (off := 123) (tgt := 133) hx hb dX5_side_10 (by rw [c10_10]; decide) (by rw [c10_10]; decide) (by rw [c10_10]; rfl) (by decide) ?_
                          have hr := hr.trans (if_pos c10_10)
                          refine lv_aload_n hx hb dX5_side_133 rfl (lv_at hl 0 rfl) ?_
                          refine lv_iload_n hx hb dX5_side_134 rfl (lv_at hl 1 rfl) ?_
                          refine goI (n := 7) (ws' := [((md 0), mdC md (M 0)), ((md 1), arC cI 96 (M 1)), ((md 2), arC cI 96 (M 2)), ((md 3), arC cI 96 (M 3)), ((md 4), arC cI 384 (M 4)), ((md 5), arC cI 96 (M 5)), ((md 6), arC cI 60 (M 6))]) (rs := []) (va_runV (As := [.int a1]) (rest := []) ⟨hx, hb, hml, hown, hts⟩ (c_X5_isAlmost l D cI cC cS md M a1  _) (cwV 1 hts gX5_side_X5_isAlmost rfl rfl rfl (by decide +kernel) ⟨Nat.le_of_ble_eq_true rfl, Nat.le_of_ble_eq_true rfl⟩) (preV hK hP hD [0, 1, 2, 3, 4, 5, 6] (by decide) rfl 0 5 rfl rfl) rfl rfl hl.1 rfl (lv_room (Nat.le_of_ble_eq_true rfl)) dX5_side_135 ⟨Nat.zero_le _, Nat.zero_le _⟩) hP hD hS hA [0, 1, 2, 3, 4, 5, 6] [] rfl rfl rfl rfl rfl (by decide +kernel) rfl (fun H locs hP hD hS => ?_)
                          refine lv_if_eq (tgt := 145) hx hb dX5_side_138 (by decide) (fun c138 => ?_) (fun c138 => ?_)
                          · have hr := hr.trans (if_pos c138)
                            refine lv_iconst (v := (0 : Int32)) hx hb dX5_side_145 (by decide) ?_
                            exact endI (v := (0 : Int32)) hb hx hsg hr.symm hP hD hS dX5_side_146 hlocks
                          · have hr := hr.trans (if_neg c138)
                            refine lv_iconst (v := (1 : Int32)) hx hb dX5_side_141 (by decide) ?_
                            refine lv_goto (tgt := 146) hx hb dX5_side_142 (by decide) ?_
                            exact endI (v := (1 : Int32)) hb hx hsg hr.symm hP hD hS dX5_side_146 hlocks
                        · skip
                          have hr := hr.trans (if_neg c10_10)
                          by_cases c10_11 : a2 = (11 : Int32)
                          · refine lv_tableIn (off := 137) (tgt := 147) hx hb dX5_side_10 (by rw [c10_11]; decide) (by rw [c10_11]; decide) (by rw [c10_11]; rfl) (by decide) ?_
                            have hr := hr.trans (if_pos c10_11)
                            refine lv_aload_n hx hb dX5_side_147 rfl (lv_at hl 0 rfl) ?_
                            refine lv_iload_n hx hb dX5_side_148 rfl (lv_at hl 1 rfl) ?_
                            refine goI (n := 7) (ws' := [((md 0), mdC md (M 0)), ((md 1), arC cI 96 (M 1)), ((md 2), arC cI 96 (M 2)), ((md 3), arC cI 96 (M 3)), ((md 4), arC cI 384 (M 4)), ((md 5), arC cI 96 (M 5)), ((md 6), arC cI 60 (M 6))]) (rs := []) (va_runV (As := [.int a1]) (rest := []) ⟨hx, hb, hml, hown, hts⟩ (c_X5_untilTick l D cI cC cS md M a1 (isS c4) (per_nz hp (isS c4)) _) (cwV 1 hts gX5_side_X5_untilTick rfl rfl rfl (by decide +kernel) ⟨Nat.le_of_ble_eq_true rfl, Nat.le_of_ble_eq_true rfl⟩) (preV hK hP hD [0, 1, 2, 3, 4, 5, 6] (by decide) rfl 0 5 rfl rfl) rfl rfl hl.1 rfl (lv_room (Nat.le_of_ble_eq_true rfl)) dX5_side_149 ⟨Nat.zero_le _, Nat.zero_le _⟩) hP hD hS hA [0, 1, 2, 3, 4, 5, 6] [] rfl rfl rfl rfl rfl (by decide +kernel) rfl (fun H locs hP hD hS => ?_)
                            exact endI (v := (r_X5_untilTick M a1)) hb hx hsg hr.symm hP hD hS dX5_side_152 hlocks
                          · skip
                            have hr := hr.trans (if_neg c10_11)
                            by_cases c10_12 : a2 = (12 : Int32)
                            · refine lv_tableIn (off := 143) (tgt := 153) hx hb dX5_side_10 (by rw [c10_12]; decide) (by rw [c10_12]; decide) (by rw [c10_12]; rfl) (by decide) ?_
                              have hr := hr.trans (if_pos c10_12)
                              refine lv_aload_n hx hb dX5_side_153 rfl (lv_at hl 0 rfl) ?_
                              refine lv_iload_n hx hb dX5_side_154 rfl (lv_at hl 1 rfl) ?_
                              refine lv_iload_n hx hb dX5_side_155 rfl (lv_at hl 2 rfl) ?_
                              refine lv_bipush (v := (6 : Int32)) hx hb dX5_side_156 (by decide) ?_
                              refine lv_isub hx hb dX5_side_158 ?_
                              refine goI (n := 7) (ws' := [((md 0), mdC md (M 0)), ((md 1), arC cI 96 (M 1)), ((md 2), arC cI 96 (M 2)), ((md 3), arC cI 96 (M 3)), ((md 4), arC cI 384 (M 4)), ((md 5), arC cI 96 (M 5)), ((md 6), arC cI 60 (M 6))]) (rs := []) (va_runV (As := [.int a1, .int (a2 - (6 : Int32))]) (rest := []) ⟨hx, hb, hml, hown, hts⟩ (c_X5_of l D cI cC cS md M a1 (a2 - (6 : Int32)) (sd_in (isS c4) (by first | (rw [c10_0]; decide) | (rw [c10_1]; decide) | (rw [c10_2]; decide) | (rw [c10_3]; decide) | (rw [c10_4]; decide) | (rw [c10_5]; decide) | (rw [c10_6]; decide) | (rw [c10_7]; decide) | (rw [c10_8]; decide) | (rw [c10_9]; decide) | (rw [c10_10]; decide) | (rw [c10_11]; decide) | (rw [c10_12]; decide) | (rw [c10_13]; decide))) _) (cwV 2 hts gX5_side_X5_of rfl rfl rfl (by decide +kernel) ⟨Nat.le_of_ble_eq_true rfl, Nat.le_of_ble_eq_true rfl⟩) (preV hK hP hD [0, 1, 2, 3, 4, 5, 6] (by decide) rfl 0 5 rfl rfl) rfl rfl hl.1 rfl (lv_room (Nat.le_of_ble_eq_true rfl)) dX5_side_159 ⟨Nat.zero_le _, Nat.zero_le _⟩) hP hD hS hA [0, 1, 2, 3, 4, 5, 6] [] rfl rfl rfl rfl rfl (by decide +kernel) rfl (fun H locs hP hD hS => ?_)
                              exact endI (v := (r_X5_of M a1 (a2 - (6 : Int32)))) hb hx hsg hr.symm hP hD hS dX5_side_162 hlocks
                            · skip
                              have hr := hr.trans (if_neg c10_12)
                              by_cases c10_13 : a2 = (13 : Int32)
                              · refine lv_tableIn (off := 143) (tgt := 153) hx hb dX5_side_10 (by rw [c10_13]; decide) (by rw [c10_13]; decide) (by rw [c10_13]; rfl) (by decide) ?_
                                have hr := hr.trans (if_pos c10_13)
                                refine lv_aload_n hx hb dX5_side_153 rfl (lv_at hl 0 rfl) ?_
                                refine lv_iload_n hx hb dX5_side_154 rfl (lv_at hl 1 rfl) ?_
                                refine lv_iload_n hx hb dX5_side_155 rfl (lv_at hl 2 rfl) ?_
                                refine lv_bipush (v := (6 : Int32)) hx hb dX5_side_156 (by decide) ?_
                                refine lv_isub hx hb dX5_side_158 ?_
                                refine goI (n := 7) (ws' := [((md 0), mdC md (M 0)), ((md 1), arC cI 96 (M 1)), ((md 2), arC cI 96 (M 2)), ((md 3), arC cI 96 (M 3)), ((md 4), arC cI 384 (M 4)), ((md 5), arC cI 96 (M 5)), ((md 6), arC cI 60 (M 6))]) (rs := []) (va_runV (As := [.int a1, .int (a2 - (6 : Int32))]) (rest := []) ⟨hx, hb, hml, hown, hts⟩ (c_X5_of l D cI cC cS md M a1 (a2 - (6 : Int32)) (sd_in (isS c4) (by first | (rw [c10_0]; decide) | (rw [c10_1]; decide) | (rw [c10_2]; decide) | (rw [c10_3]; decide) | (rw [c10_4]; decide) | (rw [c10_5]; decide) | (rw [c10_6]; decide) | (rw [c10_7]; decide) | (rw [c10_8]; decide) | (rw [c10_9]; decide) | (rw [c10_10]; decide) | (rw [c10_11]; decide) | (rw [c10_12]; decide) | (rw [c10_13]; decide))) _) (cwV 2 hts gX5_side_X5_of rfl rfl rfl (by decide +kernel) ⟨Nat.le_of_ble_eq_true rfl, Nat.le_of_ble_eq_true rfl⟩) (preV hK hP hD [0, 1, 2, 3, 4, 5, 6] (by decide) rfl 0 5 rfl rfl) rfl rfl hl.1 rfl (lv_room (Nat.le_of_ble_eq_true rfl)) dX5_side_159 ⟨Nat.zero_le _, Nat.zero_le _⟩) hP hD hS hA [0, 1, 2, 3, 4, 5, 6] [] rfl rfl rfl rfl rfl (by decide +kernel) rfl (fun H locs hP hD hS => ?_)
                                exact endI (v := (r_X5_of M a1 (a2 - (6 : Int32)))) hb hx hsg hr.symm hP hD hS dX5_side_162 hlocks
                              · skip
                                have hr := hr.trans (if_neg c10_13)
                                refine lv_tableOut (tgt := 163) hx hb dX5_side_10 (sw_out14 c10_0 c10_1 c10_2 c10_3 c10_4 c10_5 c10_6 c10_7 c10_8 c10_9 c10_10 c10_11 c10_12 c10_13) (by decide) ?_
                                refine lv_bipush (v := (-2 : Int32)) hx hb dX5_side_163 (by decide) ?_
                                exact endI (v := (-2 : Int32)) hb hx hsg hr.symm hP hD hS dX5_side_165 hlocks
  · have hr := hr.trans (if_pos c4)
    refine lv_iconst (v := (-1 : Int32)) hx hb dX5_side_7 (by decide) ?_
    exact endI (v := (-1 : Int32)) hb hx hsg hr.symm hP hD hS dX5_side_8 hlocks
def r_X5_push (M : CS) (a1 : Int32) : Int32 := (if (r_X5_in a1.toInt64 (0 : Int64) (99 : Int64)) = (0 : Int32) then (-2 : Int32) else (if ((M 1) 5) = (20 : Int32) then (-3 : Int32) else ((fun (z_1 : CS) => ((fun (z_2 : CS) => ((fun (z_3 : CS) => (r_X5_acted z_2 ((z_2 1) 5))) (p_X5_acted z_2 ((z_2 1) 5)))) (p_X5_waits z_1 a1))) (p_X5_remember M))))
def p_X5_push (M : CS) (a1 : Int32) : CS := (if (r_X5_in a1.toInt64 (0 : Int64) (99 : Int64)) = (0 : Int32) then M else (if ((M 1) 5) = (20 : Int32) then M else ((fun (z_1 : CS) => ((fun (z_2 : CS) => ((fun (z_3 : CS) => z_3) (p_X5_acted z_2 ((z_2 1) 5)))) (p_X5_waits z_1 a1))) (p_X5_remember M))))
abbrev rm_X5_push : Room := { frames := 2, cells := 0, slots := 0, locals := 42 }
set_option maxHeartbeats 4000000 in
set_option maxRecDepth 100000 in
theorem c_X5_push (l : Launch) (D : va_G) (cI cC cS : ClassId) (md : Nat → Nat) (M : CS) (a1 : Int32) (hHL : HL M) (hw : 0 ≤ (M 1 5).toInt ∧ (M 1 5).toInt ≤ 20) : CI l D cI cC cS yX5_push wsX5_push rm_X5_push [.ref (md 0), .int a1] (mdW cI md M) (mdW cI md (p_X5_push M a1)) (r_X5_push M a1) := by
  intro sz
  refine startC (cc := cX5_push) (maxL := 2) (ret := (some .int)) (by decide) rfl (Nat.le_of_ble_eq_true rfl) ?_
  intro p e s m args below meth c hx hb hml hsg hts hown hlocks hin hK A hA hS hP hD ls hl
  have hown : s.vm.findClass RX5 = some m.cls := hown
  have hl : lv_has ls 2 [(0, .ref (md 0)), (1, .int a1)] := hl
  have hP : va_P D vwCl [((md 0), mdC md (M 0)), ((md 1), arC cI 96 (M 1)), ((md 2), arC cI 96 (M 2)), ((md 3), arC cI 96 (M 3)), ((md 4), arC cI 384 (M 4)), ((md 5), arC cI 96 (M 5)), ((md 6), arC cI 60 (M 6))] s.heap := hP
  have hD : va_D A [((md 0), mdC md (M 0)), ((md 1), arC cI 96 (M 1)), ((md 2), arC cI 96 (M 2)), ((md 3), arC cI 96 (M 3)), ((md 4), arC cI 384 (M 4)), ((md 5), arC cI 96 (M 5)), ((md 6), arC cI 60 (M 6))] := hD
  have inX5 : ∀ w ∈ wsX50, w ∈ wsX5_push := fun _ h => List.mem_cons_of_mem _ (List.mem_append_right _ h)
  have hr : (r_X5_push M a1) = (if (r_X5_in a1.toInt64 (0 : Int64) (99 : Int64)) = (0 : Int32) then (-2 : Int32) else (if ((M 1) 5) = (20 : Int32) then (-3 : Int32) else ((fun (z_1 : CS) => ((fun (z_2 : CS) => ((fun (z_3 : CS) => (r_X5_acted z_2 ((z_2 1) 5))) (p_X5_acted z_2 ((z_2 1) 5)))) (p_X5_waits z_1 a1))) (p_X5_remember M)))) := rfl
  have hp : (p_X5_push M a1) = (if (r_X5_in a1.toInt64 (0 : Int64) (99 : Int64)) = (0 : Int32) then M else (if ((M 1) 5) = (20 : Int32) then M else ((fun (z_1 : CS) => ((fun (z_2 : CS) => ((fun (z_3 : CS) => z_3) (p_X5_acted z_2 ((z_2 1) 5)))) (p_X5_waits z_1 a1))) (p_X5_remember M)))) := rfl
  refine lv_iload_n hx hb dX5_push_0 rfl (lv_at hl 1 rfl) ?_
  refine lv_i2l (v := a1.toInt64) hx hb dX5_push_1 rfl ?_
  refine lv_lconst (v := (0 : Int64)) hx hb dX5_push_2 (by decide) ?_
  refine lv_ldc2 (v := (99 : Int64)) hx hb hown (hts (.constantLong RX5 123 99) (List.mem_of_getElem? (i := 1) rfl)) dX5_push_3 ?_
  refine goI (n := 7) (ws' := [((md 0), mdC md (M 0)), ((md 1), arC cI 96 (M 1)), ((md 2), arC cI 96 (M 2)), ((md 3), arC cI 96 (M 3)), ((md 4), arC cI 384 (M 4)), ((md 5), arC cI 96 (M 5)), ((md 6), arC cI 60 (M 6))]) (rs := [((md 0), mdC md (M 0)), ((md 1), arC cI 96 (M 1)), ((md 2), arC cI 96 (M 2)), ((md 3), arC cI 96 (M 3)), ((md 4), arC cI 384 (M 4)), ((md 5), arC cI 96 (M 5)), ((md 6), arC cI 60 (M 6))]) (va_runS (As := [.long a1.toInt64, .long (0 : Int64), .long (99 : Int64)]) (rest := []) ⟨hx, hb, hml, hown, hts⟩ (c_X5_in l D cI cC cS a1.toInt64 (0 : Int64) (99 : Int64)  _) (va_cwS 3 hts gX5_push_X5_in rfl rfl rfl (by decide +kernel) ⟨Nat.le_of_ble_eq_true rfl, Nat.le_of_ble_eq_true rfl⟩) (preS hK hP hD [] (by decide) rfl) rfl rfl hl.1 rfl (lv_room (Nat.le_of_ble_eq_true rfl)) dX5_push_6 ⟨Nat.zero_le _, Nat.zero_le _⟩) hP hD hS hA [] [0, 1, 2, 3, 4, 5, 6] rfl rfl rfl rfl rfl (by decide +kernel) rfl (fun H locs hP hD hS => ?_)
  refine lv_if_ne (tgt := 15) hx hb dX5_push_9 (by decide) (fun c9 => ?_) (fun c9 => ?_)
  · have hr := hr.trans (if_neg c9)
    have hp := hp.trans (if_neg c9)
    refine lv_aload_n hx hb dX5_push_15 rfl (lv_at hl 0 rfl) ?_
    refine va_get (D := D) (ci := 5) (v := .ref (md 1)) (C := RX5) (T := TX5) (N := 14) hx hb hts inX5 hown hK.1 hP 0 rfl rfl 0 (by decide) (hts (.fieldLink RX5 7 "GrayPointersModel" "all" "[I") (List.mem_of_getElem? (i := 2) rfl)) (fun _ h9 => h9) rfl dX5_push_16 ?_
    refine lv_iconst (v := (5 : Int32)) hx hb dX5_push_19 (by decide) ?_
    refine va_iald hx hb hK.1 hP 1 0 rfl rfl (i := (5 : Int32)) (vp_in_iff.mpr (by decide)) dX5_push_20 ?_
    refine W.eq (g2 := F0 m 21 ls [.int ((M 1) 5)]) rfl ?_
    refine lv_bipush (v := (20 : Int32)) hx hb dX5_push_21 (by decide) ?_
    refine lv_icmp_ne (tgt := 29) hx hb dX5_push_23 (by decide) (fun c23 => ?_) (fun c23 => ?_)
    · have hr := hr.trans (if_neg c23)
      have hp := hp.trans (if_neg c23)
      refine lv_aload_n hx hb dX5_push_29 rfl (lv_at hl 0 rfl) ?_
      refine goV (n := 7) (ws' := [((md 0), mdC md ((p_X5_remember M) 0)), ((md 1), arC cI 96 ((p_X5_remember M) 1)), ((md 2), arC cI 96 ((p_X5_remember M) 2)), ((md 3), arC cI 96 ((p_X5_remember M) 3)), ((md 4), arC cI 384 ((p_X5_remember M) 4)), ((md 5), arC cI 96 ((p_X5_remember M) 5)), ((md 6), arC cI 60 ((p_X5_remember M) 6))]) (rs := []) (va_runV (As := []) (rest := []) ⟨hx, hb, hml, hown, hts⟩ (c_X5_remember l D cI cC cS md M  _) (cwV 0 hts gX5_push_X5_remember rfl rfl rfl (by decide +kernel) ⟨Nat.le_of_ble_eq_true rfl, Nat.le_of_ble_eq_true rfl⟩) (preV hK hP hD [0, 1, 2, 3, 4, 5, 6] (by decide) rfl 0 5 rfl rfl) rfl rfl hl.1 rfl (lv_room (Nat.le_of_ble_eq_true rfl)) dX5_push_30 ⟨Nat.zero_le _, Nat.zero_le _⟩) hP hD hS hA [0, 1, 2, 3, 4, 5, 6] [] rfl rfl rfl rfl rfl (by decide +kernel) (fstE (as := [(md 0), (md 1), (md 2), (md 3), (md 4), (md 5), (md 6)]) rfl rfl) (fun H locs hP hD hS => ?_)
      obtain ⟨z_1, hz_1⟩ : ∃ z : CS, z = (p_X5_remember M) := ⟨_, rfl⟩
      rw [← hz_1] at hP hD
      have hr : (r_X5_push M a1) = ((fun (z_2 : CS) => ((fun (z_3 : CS) => (r_X5_acted z_2 ((z_2 1) 5))) (p_X5_acted z_2 ((z_2 1) 5)))) (p_X5_waits z_1 a1)) := by subst hz_1; exact hr
      have hp : (p_X5_push M a1) = ((fun (z_2 : CS) => ((fun (z_3 : CS) => z_3) (p_X5_acted z_2 ((z_2 1) 5)))) (p_X5_waits z_1 a1)) := by subst hz_1; exact hp
      refine lv_aload_n hx hb dX5_push_33 rfl (lv_at hl 0 rfl) ?_
      refine lv_iload_n hx hb dX5_push_34 rfl (lv_at hl 1 rfl) ?_
      refine goV (n := 7) (ws' := [((md 0), mdC md ((p_X5_waits z_1 a1) 0)), ((md 1), arC cI 96 ((p_X5_waits z_1 a1) 1)), ((md 2), arC cI 96 ((p_X5_waits z_1 a1) 2)), ((md 3), arC cI 96 ((p_X5_waits z_1 a1) 3)), ((md 4), arC cI 384 ((p_X5_waits z_1 a1) 4)), ((md 5), arC cI 96 ((p_X5_waits z_1 a1) 5)), ((md 6), arC cI 60 ((p_X5_waits z_1 a1) 6))]) (rs := []) (va_runV (As := [.int a1]) (rest := []) ⟨hx, hb, hml, hown, hts⟩ (c_X5_waits l D cI cC cS md z_1 a1 (by subst_vars; exact push_w hw c23) _) (cwV 1 hts gX5_push_X5_waits rfl rfl rfl (by decide +kernel) ⟨Nat.le_of_ble_eq_true rfl, Nat.le_of_ble_eq_true rfl⟩) (preV hK hP hD [0, 1, 2, 3, 4, 5, 6] (by decide) rfl 0 5 rfl rfl) rfl rfl hl.1 rfl (lv_room (Nat.le_of_ble_eq_true rfl)) dX5_push_35 ⟨Nat.zero_le _, Nat.zero_le _⟩) hP hD hS hA [0, 1, 2, 3, 4, 5, 6] [] rfl rfl rfl rfl rfl (by decide +kernel) (fstE (as := [(md 0), (md 1), (md 2), (md 3), (md 4), (md 5), (md 6)]) rfl rfl) (fun H locs hP hD hS => ?_)
      obtain ⟨z_2, hz_2⟩ : ∃ z : CS, z = (p_X5_waits z_1 a1) := ⟨_, rfl⟩
      rw [← hz_2] at hP hD
      have hr : (r_X5_push M a1) = ((fun (z_3 : CS) => (r_X5_acted z_2 ((z_2 1) 5))) (p_X5_acted z_2 ((z_2 1) 5))) := by subst hz_2; exact hr
      have hp : (p_X5_push M a1) = ((fun (z_3 : CS) => z_3) (p_X5_acted z_2 ((z_2 1) 5))) := by subst hz_2; exact hp
      refine lv_aload_n hx hb dX5_push_38 rfl (lv_at hl 0 rfl) ?_
      refine lv_aload_n hx hb dX5_push_39 rfl (lv_at hl 0 rfl) ?_
      refine va_get (D := D) (ci := 5) (v := .ref (md 1)) (C := RX5) (T := TX5) (N := 14) hx hb hts inX5 hown hK.1 hP 0 rfl rfl 0 (by decide) (hts (.fieldLink RX5 7 "GrayPointersModel" "all" "[I") (List.mem_of_getElem? (i := 2) rfl)) (fun _ h9 => h9) rfl dX5_push_40 ?_
      refine lv_iconst (v := (5 : Int32)) hx hb dX5_push_43 (by decide) ?_
      refine va_iald hx hb hK.1 hP 1 0 rfl rfl (i := (5 : Int32)) (vp_in_iff.mpr (by decide)) dX5_push_44 ?_
      refine W.eq (g2 := F0 m 45 ls [.int ((z_2 1) 5), .ref (md 0)]) rfl ?_
      refine goI (n := 7) (ws' := [((md 0), mdC md ((p_X5_acted z_2 ((z_2 1) 5)) 0)), ((md 1), arC cI 96 ((p_X5_acted z_2 ((z_2 1) 5)) 1)), ((md 2), arC cI 96 ((p_X5_acted z_2 ((z_2 1) 5)) 2)), ((md 3), arC cI 96 ((p_X5_acted z_2 ((z_2 1) 5)) 3)), ((md 4), arC cI 384 ((p_X5_acted z_2 ((z_2 1) 5)) 4)), ((md 5), arC cI 96 ((p_X5_acted z_2 ((z_2 1) 5)) 5)), ((md 6), arC cI 60 ((p_X5_acted z_2 ((z_2 1) 5)) 6))]) (rs := []) (va_runV (As := [.int ((z_2 1) 5)]) (rest := []) ⟨hx, hb, hml, hown, hts⟩ (c_X5_acted l D cI cC cS md z_2 ((z_2 1) 5) (by subst_vars; exact hHL) _) (cwV 1 hts gX5_push_X5_acted rfl rfl rfl (by decide +kernel) ⟨Nat.le_of_ble_eq_true rfl, Nat.le_of_ble_eq_true rfl⟩) (preV hK hP hD [0, 1, 2, 3, 4, 5, 6] (by decide) rfl 0 5 rfl rfl) rfl rfl hl.1 rfl (lv_room (Nat.le_of_ble_eq_true rfl)) dX5_push_45 ⟨Nat.zero_le _, Nat.zero_le _⟩) hP hD hS hA [0, 1, 2, 3, 4, 5, 6] [] rfl rfl rfl rfl rfl (by decide +kernel) (fstE (as := [(md 0), (md 1), (md 2), (md 3), (md 4), (md 5), (md 6)]) rfl rfl) (fun H locs hP hD hS => ?_)
      obtain ⟨z_3, hz_3⟩ : ∃ z : CS, z = (p_X5_acted z_2 ((z_2 1) 5)) := ⟨_, rfl⟩
      rw [← hz_3] at hP hD
      have hr : (r_X5_push M a1) = (r_X5_acted z_2 ((z_2 1) 5)) := by subst hz_3; exact hr
      have hp : (p_X5_push M a1) = z_3 := by subst hz_3; exact hp
      exact endI (v := (r_X5_acted z_2 ((z_2 1) 5))) hb hx hsg hr.symm (by rw [hp]; exact hP) (by rw [hp]; exact hD) hS dX5_push_48 hlocks
    · have hr := hr.trans (if_pos c23)
      have hp := hp.trans (if_pos c23)
      refine lv_bipush (v := (-3 : Int32)) hx hb dX5_push_26 (by decide) ?_
      exact endI (v := (-3 : Int32)) hb hx hsg hr.symm (by rw [hp]; exact hP) (by rw [hp]; exact hD) hS dX5_push_28 hlocks
  · have hr := hr.trans (if_pos c9)
    have hp := hp.trans (if_pos c9)
    refine lv_bipush (v := (-2 : Int32)) hx hb dX5_push_12 (by decide) ?_
    exact endI (v := (-2 : Int32)) hb hx hsg hr.symm (by rw [hp]; exact hP) (by rw [hp]; exact hD) hS dX5_push_14 hlocks
def r_X5_set (M : CS) (a1 : Int32) (a2 : Int32) : Int32 := (if (r_X5_in a1.toInt64 (0 : Int64) (1 : Int64)) = (0 : Int32) then (-2 : Int32) else (if (r_X5_in a2.toInt64 (0 : Int64) (15 : Int64)) = (0 : Int32) then (-2 : Int32) else (if ((M 1) ((3 : Int32) + a1).toNatClampNeg) = a2 then (-5 : Int32) else ((fun (z_1 : CS) => ((fun (z_2 : CS) => ((fun (z_3 : CS) => (r_X5_acted z_2 ((M 1) ((3 : Int32) + a1).toNatClampNeg))) (p_X5_acted z_2 ((M 1) ((3 : Int32) + a1).toNatClampNeg)))) (va_up z_1 1 (upd (z_1 1) ((3 : Int32) + a1).toNatClampNeg a2)))) (p_X5_remember M)))))
def p_X5_set (M : CS) (a1 : Int32) (a2 : Int32) : CS := (if (r_X5_in a1.toInt64 (0 : Int64) (1 : Int64)) = (0 : Int32) then M else (if (r_X5_in a2.toInt64 (0 : Int64) (15 : Int64)) = (0 : Int32) then M else (if ((M 1) ((3 : Int32) + a1).toNatClampNeg) = a2 then M else ((fun (z_1 : CS) => ((fun (z_2 : CS) => ((fun (z_3 : CS) => z_3) (p_X5_acted z_2 ((M 1) ((3 : Int32) + a1).toNatClampNeg)))) (va_up z_1 1 (upd (z_1 1) ((3 : Int32) + a1).toNatClampNeg a2)))) (p_X5_remember M)))))
abbrev rm_X5_set : Room := { frames := 2, cells := 0, slots := 0, locals := 42 }
set_option maxHeartbeats 4000000 in
set_option maxRecDepth 100000 in
theorem c_X5_set (l : Launch) (D : va_G) (cI cC cS : ClassId) (md : Nat → Nat) (M : CS) (a1 : Int32) (a2 : Int32) (hHL : HL M) : CI l D cI cC cS yX5_set wsX5_set rm_X5_set [.ref (md 0), .int a1, .int a2] (mdW cI md M) (mdW cI md (p_X5_set M a1 a2)) (r_X5_set M a1 a2) := by
  intro sz
  refine startC (cc := cX5_set) (maxL := 4) (ret := (some .int)) (by decide) rfl (Nat.le_of_ble_eq_true rfl) ?_
  intro p e s m args below meth c hx hb hml hsg hts hown hlocks hin hK A hA hS hP hD ls hl
  have hown : s.vm.findClass RX5 = some m.cls := hown
  have hl : lv_has ls 4 [(0, .ref (md 0)), (1, .int a1), (2, .int a2)] := hl
  have hP : va_P D vwCl [((md 0), mdC md (M 0)), ((md 1), arC cI 96 (M 1)), ((md 2), arC cI 96 (M 2)), ((md 3), arC cI 96 (M 3)), ((md 4), arC cI 384 (M 4)), ((md 5), arC cI 96 (M 5)), ((md 6), arC cI 60 (M 6))] s.heap := hP
  have hD : va_D A [((md 0), mdC md (M 0)), ((md 1), arC cI 96 (M 1)), ((md 2), arC cI 96 (M 2)), ((md 3), arC cI 96 (M 3)), ((md 4), arC cI 384 (M 4)), ((md 5), arC cI 96 (M 5)), ((md 6), arC cI 60 (M 6))] := hD
  have inX5 : ∀ w ∈ wsX50, w ∈ wsX5_set := fun _ h => List.mem_cons_of_mem _ (List.mem_append_right _ h)
  have hr : (r_X5_set M a1 a2) = (if (r_X5_in a1.toInt64 (0 : Int64) (1 : Int64)) = (0 : Int32) then (-2 : Int32) else (if (r_X5_in a2.toInt64 (0 : Int64) (15 : Int64)) = (0 : Int32) then (-2 : Int32) else (if ((M 1) ((3 : Int32) + a1).toNatClampNeg) = a2 then (-5 : Int32) else ((fun (z_1 : CS) => ((fun (z_2 : CS) => ((fun (z_3 : CS) => (r_X5_acted z_2 ((M 1) ((3 : Int32) + a1).toNatClampNeg))) (p_X5_acted z_2 ((M 1) ((3 : Int32) + a1).toNatClampNeg)))) (va_up z_1 1 (upd (z_1 1) ((3 : Int32) + a1).toNatClampNeg a2)))) (p_X5_remember M))))) := rfl
  have hp : (p_X5_set M a1 a2) = (if (r_X5_in a1.toInt64 (0 : Int64) (1 : Int64)) = (0 : Int32) then M else (if (r_X5_in a2.toInt64 (0 : Int64) (15 : Int64)) = (0 : Int32) then M else (if ((M 1) ((3 : Int32) + a1).toNatClampNeg) = a2 then M else ((fun (z_1 : CS) => ((fun (z_2 : CS) => ((fun (z_3 : CS) => z_3) (p_X5_acted z_2 ((M 1) ((3 : Int32) + a1).toNatClampNeg)))) (va_up z_1 1 (upd (z_1 1) ((3 : Int32) + a1).toNatClampNeg a2)))) (p_X5_remember M))))) := rfl
  refine lv_iload_n hx hb dX5_set_0 rfl (lv_at hl 1 rfl) ?_
  refine lv_i2l (v := a1.toInt64) hx hb dX5_set_1 rfl ?_
  refine lv_lconst (v := (0 : Int64)) hx hb dX5_set_2 (by decide) ?_
  refine lv_lconst (v := (1 : Int64)) hx hb dX5_set_3 (by decide) ?_
  refine goI (n := 7) (ws' := [((md 0), mdC md (M 0)), ((md 1), arC cI 96 (M 1)), ((md 2), arC cI 96 (M 2)), ((md 3), arC cI 96 (M 3)), ((md 4), arC cI 384 (M 4)), ((md 5), arC cI 96 (M 5)), ((md 6), arC cI 60 (M 6))]) (rs := [((md 0), mdC md (M 0)), ((md 1), arC cI 96 (M 1)), ((md 2), arC cI 96 (M 2)), ((md 3), arC cI 96 (M 3)), ((md 4), arC cI 384 (M 4)), ((md 5), arC cI 96 (M 5)), ((md 6), arC cI 60 (M 6))]) (va_runS (As := [.long a1.toInt64, .long (0 : Int64), .long (1 : Int64)]) (rest := []) ⟨hx, hb, hml, hown, hts⟩ (c_X5_in l D cI cC cS a1.toInt64 (0 : Int64) (1 : Int64)  _) (va_cwS 3 hts gX5_set_X5_in rfl rfl rfl (by decide +kernel) ⟨Nat.le_of_ble_eq_true rfl, Nat.le_of_ble_eq_true rfl⟩) (preS hK hP hD [] (by decide) rfl) rfl rfl hl.1 rfl (lv_room (Nat.le_of_ble_eq_true rfl)) dX5_set_4 ⟨Nat.zero_le _, Nat.zero_le _⟩) hP hD hS hA [] [0, 1, 2, 3, 4, 5, 6] rfl rfl rfl rfl rfl (by decide +kernel) rfl (fun H locs hP hD hS => ?_)
  refine lv_if_eq (tgt := 22) hx hb dX5_set_7 (by decide) (fun c7 => ?_) (fun c7 => ?_)
  · have hr := hr.trans (if_pos c7)
    have hp := hp.trans (if_pos c7)
    refine lv_bipush (v := (-2 : Int32)) hx hb dX5_set_22 (by decide) ?_
    exact endI (v := (-2 : Int32)) hb hx hsg hr.symm (by rw [hp]; exact hP) (by rw [hp]; exact hD) hS dX5_set_24 hlocks
  · have hr := hr.trans (if_neg c7)
    have hp := hp.trans (if_neg c7)
    refine lv_iload_n hx hb dX5_set_10 rfl (lv_at hl 2 rfl) ?_
    refine lv_i2l (v := a2.toInt64) hx hb dX5_set_11 rfl ?_
    refine lv_lconst (v := (0 : Int64)) hx hb dX5_set_12 (by decide) ?_
    refine lv_ldc2 (v := (15 : Int64)) hx hb hown (hts (.constantLong RX5 121 15) (List.mem_of_getElem? (i := 1) rfl)) dX5_set_13 ?_
    refine goI (n := 7) (ws' := [((md 0), mdC md (M 0)), ((md 1), arC cI 96 (M 1)), ((md 2), arC cI 96 (M 2)), ((md 3), arC cI 96 (M 3)), ((md 4), arC cI 384 (M 4)), ((md 5), arC cI 96 (M 5)), ((md 6), arC cI 60 (M 6))]) (rs := [((md 0), mdC md (M 0)), ((md 1), arC cI 96 (M 1)), ((md 2), arC cI 96 (M 2)), ((md 3), arC cI 96 (M 3)), ((md 4), arC cI 384 (M 4)), ((md 5), arC cI 96 (M 5)), ((md 6), arC cI 60 (M 6))]) (va_runS (As := [.long a2.toInt64, .long (0 : Int64), .long (15 : Int64)]) (rest := []) ⟨hx, hb, hml, hown, hts⟩ (c_X5_in l D cI cC cS a2.toInt64 (0 : Int64) (15 : Int64)  _) (va_cwS 3 hts gX5_set_X5_in rfl rfl rfl (by decide +kernel) ⟨Nat.le_of_ble_eq_true rfl, Nat.le_of_ble_eq_true rfl⟩) (preS hK hP hD [] (by decide) rfl) rfl rfl hl.1 rfl (lv_room (Nat.le_of_ble_eq_true rfl)) dX5_set_16 ⟨Nat.zero_le _, Nat.zero_le _⟩) hP hD hS hA [] [0, 1, 2, 3, 4, 5, 6] rfl rfl rfl rfl rfl (by decide +kernel) rfl (fun H locs hP hD hS => ?_)
    refine lv_if_ne (tgt := 25) hx hb dX5_set_19 (by decide) (fun c19 => ?_) (fun c19 => ?_)
    · have hr := hr.trans (if_neg c19)
      have hp := hp.trans (if_neg c19)
      refine lv_aload_n hx hb dX5_set_25 rfl (lv_at hl 0 rfl) ?_
      refine va_get (D := D) (ci := 5) (v := .ref (md 1)) (C := RX5) (T := TX5) (N := 14) hx hb hts inX5 hown hK.1 hP 0 rfl rfl 0 (by decide) (hts (.fieldLink RX5 7 "GrayPointersModel" "all" "[I") (List.mem_of_getElem? (i := 2) rfl)) (fun _ h9 => h9) rfl dX5_set_26 ?_
      refine lv_iconst (v := (3 : Int32)) hx hb dX5_set_29 (by decide) ?_
      refine lv_iload_n hx hb dX5_set_30 rfl (lv_at hl 1 rfl) ?_
      refine lv_iadd hx hb dX5_set_31 ?_
      refine va_iald hx hb hK.1 hP 1 0 rfl rfl (i := ((3 : Int32) + a1)) (set_in c7) dX5_set_32 ?_
      refine lv_istore_n (lv' := [(3, .int ((M 1) ((3 : Int32) + a1).toNatClampNeg)), (0, .ref (md 0)), (1, .int a1), (2, .int a2)]) hx hb dX5_set_33 rfl hl (by decide) rfl (fun ls hl => ?_)
      refine lv_iload_n hx hb dX5_set_34 rfl (lv_at hl 0 rfl) ?_
      refine lv_iload_n hx hb dX5_set_35 rfl (lv_at hl 3 rfl) ?_
      refine lv_icmp_ne (tgt := 42) hx hb dX5_set_36 (by decide) (fun c36 => ?_) (fun c36 => ?_)
      · have hr := hr.trans (if_neg c36)
        have hp := hp.trans (if_neg c36)
        refine lv_aload_n hx hb dX5_set_42 rfl (lv_at hl 1 rfl) ?_
        refine goV (n := 7) (ws' := [((md 0), mdC md ((p_X5_remember M) 0)), ((md 1), arC cI 96 ((p_X5_remember M) 1)), ((md 2), arC cI 96 ((p_X5_remember M) 2)), ((md 3), arC cI 96 ((p_X5_remember M) 3)), ((md 4), arC cI 384 ((p_X5_remember M) 4)), ((md 5), arC cI 96 ((p_X5_remember M) 5)), ((md 6), arC cI 60 ((p_X5_remember M) 6))]) (rs := []) (va_runV (As := []) (rest := []) ⟨hx, hb, hml, hown, hts⟩ (c_X5_remember l D cI cC cS md M  _) (cwV 0 hts gX5_set_X5_remember rfl rfl rfl (by decide +kernel) ⟨Nat.le_of_ble_eq_true rfl, Nat.le_of_ble_eq_true rfl⟩) (preV hK hP hD [0, 1, 2, 3, 4, 5, 6] (by decide) rfl 0 5 rfl rfl) rfl rfl hl.1 rfl (lv_room (Nat.le_of_ble_eq_true rfl)) dX5_set_43 ⟨Nat.zero_le _, Nat.zero_le _⟩) hP hD hS hA [0, 1, 2, 3, 4, 5, 6] [] rfl rfl rfl rfl rfl (by decide +kernel) (fstE (as := [(md 0), (md 1), (md 2), (md 3), (md 4), (md 5), (md 6)]) rfl rfl) (fun H locs hP hD hS => ?_)
        obtain ⟨z_1, hz_1⟩ : ∃ z : CS, z = (p_X5_remember M) := ⟨_, rfl⟩
        rw [← hz_1] at hP hD
        have hr : (r_X5_set M a1 a2) = ((fun (z_2 : CS) => ((fun (z_3 : CS) => (r_X5_acted z_2 ((M 1) ((3 : Int32) + a1).toNatClampNeg))) (p_X5_acted z_2 ((M 1) ((3 : Int32) + a1).toNatClampNeg)))) (va_up z_1 1 (upd (z_1 1) ((3 : Int32) + a1).toNatClampNeg a2))) := by subst hz_1; exact hr
        have hp : (p_X5_set M a1 a2) = ((fun (z_2 : CS) => ((fun (z_3 : CS) => z_3) (p_X5_acted z_2 ((M 1) ((3 : Int32) + a1).toNatClampNeg)))) (va_up z_1 1 (upd (z_1 1) ((3 : Int32) + a1).toNatClampNeg a2))) := by subst hz_1; exact hp
        refine lv_aload_n hx hb dX5_set_46 rfl (lv_at hl 1 rfl) ?_
        refine va_get (D := D) (ci := 5) (v := .ref (md 1)) (C := RX5) (T := TX5) (N := 14) hx hb hts inX5 hown hK.1 hP 0 rfl rfl 0 (by decide) (hts (.fieldLink RX5 7 "GrayPointersModel" "all" "[I") (List.mem_of_getElem? (i := 2) rfl)) (fun _ h9 => h9) rfl dX5_set_47 ?_
        refine lv_iconst (v := (3 : Int32)) hx hb dX5_set_50 (by decide) ?_
        refine lv_iload_n hx hb dX5_set_51 rfl (lv_at hl 2 rfl) ?_
        refine lv_iadd hx hb dX5_set_52 ?_
        refine lv_iload_n hx hb dX5_set_53 rfl (lv_at hl 3 rfl) ?_
        refine va_iast hx hb hK.1 hP hD hS 1 0 rfl rfl (i := ((3 : Int32) + a1)) (x := a2) (set_in c7) dX5_set_54 (fun H locs hP hD hS => ?_)
        have hP : va_P D vwCl [((md 0), mdC md (z_1 0)), ((md 1), arC cI 96 (upd (z_1 1) ((3 : Int32) + a1).toNatClampNeg a2)), ((md 2), arC cI 96 (z_1 2)), ((md 3), arC cI 96 (z_1 3)), ((md 4), arC cI 384 (z_1 4)), ((md 5), arC cI 96 (z_1 5)), ((md 6), arC cI 60 (z_1 6))] H := hP
        have hD : va_D A [((md 0), mdC md (z_1 0)), ((md 1), arC cI 96 (upd (z_1 1) ((3 : Int32) + a1).toNatClampNeg a2)), ((md 2), arC cI 96 (z_1 2)), ((md 3), arC cI 96 (z_1 3)), ((md 4), arC cI 384 (z_1 4)), ((md 5), arC cI 96 (z_1 5)), ((md 6), arC cI 60 (z_1 6))] := hD
        refine lv_aload_n hx hb dX5_set_55 rfl (lv_at hl 1 rfl) ?_
        refine lv_iload_n hx hb dX5_set_56 rfl (lv_at hl 0 rfl) ?_
        obtain ⟨z_2, hz_2⟩ : ∃ z : CS, z = (va_up z_1 1 (upd (z_1 1) ((3 : Int32) + a1).toNatClampNeg a2)) := ⟨_, rfl⟩
        have e0 : (z_2 0) = (z_1 0) := (congrFun hz_2 0).trans (va_up_n (by decide))
        have e1 : (z_2 1) = (upd (z_1 1) ((3 : Int32) + a1).toNatClampNeg a2) := (congrFun hz_2 1).trans va_up_s
        have e2 : (z_2 2) = (z_1 2) := (congrFun hz_2 2).trans (va_up_n (by decide))
        have e3 : (z_2 3) = (z_1 3) := (congrFun hz_2 3).trans (va_up_n (by decide))
        have e4 : (z_2 4) = (z_1 4) := (congrFun hz_2 4).trans (va_up_n (by decide))
        have e5 : (z_2 5) = (z_1 5) := (congrFun hz_2 5).trans (va_up_n (by decide))
        have e6 : (z_2 6) = (z_1 6) := (congrFun hz_2 6).trans (va_up_n (by decide))
        have hP : va_P D vwCl [((md 0), mdC md (z_2 0)), ((md 1), arC cI 96 (z_2 1)), ((md 2), arC cI 96 (z_2 2)), ((md 3), arC cI 96 (z_2 3)), ((md 4), arC cI 384 (z_2 4)), ((md 5), arC cI 96 (z_2 5)), ((md 6), arC cI 60 (z_2 6))] H := by rw [e0, e1, e2, e3, e4, e5, e6]; exact hP
        have hD : va_D A [((md 0), mdC md (z_2 0)), ((md 1), arC cI 96 (z_2 1)), ((md 2), arC cI 96 (z_2 2)), ((md 3), arC cI 96 (z_2 3)), ((md 4), arC cI 384 (z_2 4)), ((md 5), arC cI 96 (z_2 5)), ((md 6), arC cI 60 (z_2 6))] := by rw [e0, e1, e2, e3, e4, e5, e6]; exact hD
        clear e0 e1 e2 e3 e4 e5 e6
        have hr : (r_X5_set M a1 a2) = ((fun (z_3 : CS) => (r_X5_acted z_2 ((M 1) ((3 : Int32) + a1).toNatClampNeg))) (p_X5_acted z_2 ((M 1) ((3 : Int32) + a1).toNatClampNeg))) := by subst hz_2; exact hr
        have hp : (p_X5_set M a1 a2) = ((fun (z_3 : CS) => z_3) (p_X5_acted z_2 ((M 1) ((3 : Int32) + a1).toNatClampNeg))) := by subst hz_2; exact hp
        refine goI (n := 7) (ws' := [((md 0), mdC md ((p_X5_acted z_2 ((M 1) ((3 : Int32) + a1).toNatClampNeg)) 0)), ((md 1), arC cI 96 ((p_X5_acted z_2 ((M 1) ((3 : Int32) + a1).toNatClampNeg)) 1)), ((md 2), arC cI 96 ((p_X5_acted z_2 ((M 1) ((3 : Int32) + a1).toNatClampNeg)) 2)), ((md 3), arC cI 96 ((p_X5_acted z_2 ((M 1) ((3 : Int32) + a1).toNatClampNeg)) 3)), ((md 4), arC cI 384 ((p_X5_acted z_2 ((M 1) ((3 : Int32) + a1).toNatClampNeg)) 4)), ((md 5), arC cI 96 ((p_X5_acted z_2 ((M 1) ((3 : Int32) + a1).toNatClampNeg)) 5)), ((md 6), arC cI 60 ((p_X5_acted z_2 ((M 1) ((3 : Int32) + a1).toNatClampNeg)) 6))]) (rs := []) (va_runV (As := [.int ((M 1) ((3 : Int32) + a1).toNatClampNeg)]) (rest := []) ⟨hx, hb, hml, hown, hts⟩ (c_X5_acted l D cI cC cS md z_2 ((M 1) ((3 : Int32) + a1).toNatClampNeg) (by subst_vars; exact hHL) _) (cwV 1 hts gX5_set_X5_acted rfl rfl rfl (by decide +kernel) ⟨Nat.le_of_ble_eq_true rfl, Nat.le_of_ble_eq_true rfl⟩) (preV hK hP hD [0, 1, 2, 3, 4, 5, 6] (by decide) rfl 0 5 rfl rfl) rfl rfl hl.1 rfl (lv_room (Nat.le_of_ble_eq_true rfl)) dX5_set_57 ⟨Nat.zero_le _, Nat.zero_le _⟩) hP hD hS hA [0, 1, 2, 3, 4, 5, 6] [] rfl rfl rfl rfl rfl (by decide +kernel) (fstE (as := [(md 0), (md 1), (md 2), (md 3), (md 4), (md 5), (md 6)]) rfl rfl) (fun H locs hP hD hS => ?_)
        obtain ⟨z_3, hz_3⟩ : ∃ z : CS, z = (p_X5_acted z_2 ((M 1) ((3 : Int32) + a1).toNatClampNeg)) := ⟨_, rfl⟩
        rw [← hz_3] at hP hD
        have hr : (r_X5_set M a1 a2) = (r_X5_acted z_2 ((M 1) ((3 : Int32) + a1).toNatClampNeg)) := by subst hz_3; exact hr
        have hp : (p_X5_set M a1 a2) = z_3 := by subst hz_3; exact hp
        exact endI (v := (r_X5_acted z_2 ((M 1) ((3 : Int32) + a1).toNatClampNeg))) hb hx hsg hr.symm (by rw [hp]; exact hP) (by rw [hp]; exact hD) hS dX5_set_60 hlocks
      · have hr := hr.trans (if_pos c36)
        have hp := hp.trans (if_pos c36)
        refine lv_bipush (v := (-5 : Int32)) hx hb dX5_set_39 (by decide) ?_
        exact endI (v := (-5 : Int32)) hb hx hsg hr.symm (by rw [hp]; exact hP) (by rw [hp]; exact hD) hS dX5_set_41 hlocks
    · have hr := hr.trans (if_pos c19)
      have hp := hp.trans (if_pos c19)
      refine lv_bipush (v := (-2 : Int32)) hx hb dX5_set_22 (by decide) ?_
      exact endI (v := (-2 : Int32)) hb hx hsg hr.symm (by rw [hp]; exact hP) (by rw [hp]; exact hD) hS dX5_set_24 hlocks
def r_X5_start (M : CS) (a1 : Int32) (a2 : Int32) : Int32 := (if (r_X5_isSide a1) = (0 : Int32) then (-1 : Int32) else ((fun (x18_s0 : Int32) => (if (r_X5_of M a1 (2 : Int32)) = x18_s0 then (-5 : Int32) else ((fun (z_1 : CS) => ((fun (z_2 : CS) => ((fun (z_3 : CS) => (r_X5_acted z_2 ((z_2 1) 2))) (p_X5_acted z_2 ((z_2 1) 2)))) (p_X5_to z_1 a1 (2 : Int32) x18_s0))) (p_X5_remember M)))) (if a2 = (0 : Int32) then (0 : Int32) else (1 : Int32))))
def p_X5_start (M : CS) (a1 : Int32) (a2 : Int32) : CS := (if (r_X5_isSide a1) = (0 : Int32) then M else ((fun (x18_s0 : Int32) => (if (r_X5_of M a1 (2 : Int32)) = x18_s0 then M else ((fun (z_1 : CS) => ((fun (z_2 : CS) => ((fun (z_3 : CS) => z_3) (p_X5_acted z_2 ((z_2 1) 2)))) (p_X5_to z_1 a1 (2 : Int32) x18_s0))) (p_X5_remember M)))) (if a2 = (0 : Int32) then (0 : Int32) else (1 : Int32))))
abbrev rm_X5_start : Room := { frames := 2, cells := 0, slots := 0, locals := 42 }
set_option maxHeartbeats 4000000 in
set_option maxRecDepth 100000 in
theorem c_X5_start (l : Launch) (D : va_G) (cI cC cS : ClassId) (md : Nat → Nat) (M : CS) (a1 : Int32) (a2 : Int32) (hHL : HL M) : CI l D cI cC cS yX5_start wsX5_start rm_X5_start [.ref (md 0), .int a1, .int a2] (mdW cI md M) (mdW cI md (p_X5_start M a1 a2)) (r_X5_start M a1 a2) := by
  intro sz
  refine startC (cc := cX5_start) (maxL := 4) (ret := (some .int)) (by decide) rfl (Nat.le_of_ble_eq_true rfl) ?_
  intro p e s m args below meth c hx hb hml hsg hts hown hlocks hin hK A hA hS hP hD ls hl
  have hown : s.vm.findClass RX5 = some m.cls := hown
  have hl : lv_has ls 4 [(0, .ref (md 0)), (1, .int a1), (2, .int a2)] := hl
  have hP : va_P D vwCl [((md 0), mdC md (M 0)), ((md 1), arC cI 96 (M 1)), ((md 2), arC cI 96 (M 2)), ((md 3), arC cI 96 (M 3)), ((md 4), arC cI 384 (M 4)), ((md 5), arC cI 96 (M 5)), ((md 6), arC cI 60 (M 6))] s.heap := hP
  have hD : va_D A [((md 0), mdC md (M 0)), ((md 1), arC cI 96 (M 1)), ((md 2), arC cI 96 (M 2)), ((md 3), arC cI 96 (M 3)), ((md 4), arC cI 384 (M 4)), ((md 5), arC cI 96 (M 5)), ((md 6), arC cI 60 (M 6))] := hD
  have inX5 : ∀ w ∈ wsX50, w ∈ wsX5_start := fun _ h => List.mem_cons_of_mem _ (List.mem_append_right _ h)
  have hr : (r_X5_start M a1 a2) = (if (r_X5_isSide a1) = (0 : Int32) then (-1 : Int32) else ((fun (x18_s0 : Int32) => (if (r_X5_of M a1 (2 : Int32)) = x18_s0 then (-5 : Int32) else ((fun (z_1 : CS) => ((fun (z_2 : CS) => ((fun (z_3 : CS) => (r_X5_acted z_2 ((z_2 1) 2))) (p_X5_acted z_2 ((z_2 1) 2)))) (p_X5_to z_1 a1 (2 : Int32) x18_s0))) (p_X5_remember M)))) (if a2 = (0 : Int32) then (0 : Int32) else (1 : Int32)))) := rfl
  have hp : (p_X5_start M a1 a2) = (if (r_X5_isSide a1) = (0 : Int32) then M else ((fun (x18_s0 : Int32) => (if (r_X5_of M a1 (2 : Int32)) = x18_s0 then M else ((fun (z_1 : CS) => ((fun (z_2 : CS) => ((fun (z_3 : CS) => z_3) (p_X5_acted z_2 ((z_2 1) 2)))) (p_X5_to z_1 a1 (2 : Int32) x18_s0))) (p_X5_remember M)))) (if a2 = (0 : Int32) then (0 : Int32) else (1 : Int32)))) := rfl
  refine lv_iload_n hx hb dX5_start_0 rfl (lv_at hl 1 rfl) ?_
  refine goI (n := 7) (ws' := [((md 0), mdC md (M 0)), ((md 1), arC cI 96 (M 1)), ((md 2), arC cI 96 (M 2)), ((md 3), arC cI 96 (M 3)), ((md 4), arC cI 384 (M 4)), ((md 5), arC cI 96 (M 5)), ((md 6), arC cI 60 (M 6))]) (rs := [((md 0), mdC md (M 0)), ((md 1), arC cI 96 (M 1)), ((md 2), arC cI 96 (M 2)), ((md 3), arC cI 96 (M 3)), ((md 4), arC cI 384 (M 4)), ((md 5), arC cI 96 (M 5)), ((md 6), arC cI 60 (M 6))]) (va_runS (As := [.int a1]) (rest := []) ⟨hx, hb, hml, hown, hts⟩ (c_X5_isSide l D cI cC cS a1  _) (va_cwS 1 hts gX5_start_X5_isSide rfl rfl rfl (by decide +kernel) ⟨Nat.le_of_ble_eq_true rfl, Nat.le_of_ble_eq_true rfl⟩) (preS hK hP hD [] (by decide) rfl) rfl rfl hl.1 rfl (lv_room (Nat.le_of_ble_eq_true rfl)) dX5_start_1 ⟨Nat.zero_le _, Nat.zero_le _⟩) hP hD hS hA [] [0, 1, 2, 3, 4, 5, 6] rfl rfl rfl rfl rfl (by decide +kernel) rfl (fun H locs hP hD hS => ?_)
  refine lv_if_ne (tgt := 9) hx hb dX5_start_4 (by decide) (fun c4 => ?_) (fun c4 => ?_)
  · have hr := hr.trans (if_neg c4)
    have hp := hp.trans (if_neg c4)
    refine lv_iload_n hx hb dX5_start_9 rfl (lv_at hl 2 rfl) ?_
    have J_18 : ∀ (x18_s0 : Int32) (H : Heap) (locs : List Loc), x18_s0 = (if a2 = (0 : Int32) then (0 : Int32) else (1 : Int32)) → va_P D vwCl [((md 0), mdC md (M 0)), ((md 1), arC cI 96 (M 1)), ((md 2), arC cI 96 (M 2)), ((md 3), arC cI 96 (M 3)), ((md 4), arC cI 384 (M 4)), ((md 5), arC cI 96 (M 5)), ((md 6), arC cI 60 (M 6))] H → va_D A [((md 0), mdC md (M 0)), ((md 1), arC cI 96 (M 1)), ((md 2), arC cI 96 (M 2)), ((md 3), arC cI 96 (M 3)), ((md 4), arC cI 384 (M 4)), ((md 5), arC cI 96 (M 5)), ((md 6), arC cI 60 (M 6))] → va_S A s.heap H locs → ∀ ls, lv_has ls 4 [(0, .ref (md 0)), (1, .int a1)] → W p l e rm_X5_start s m args below meth c H locs 0 0 (MQ below (QI D (mdW cI md (p_X5_start M a1 a2)) (r_X5_start M a1 a2) A) args s 0 0 A) (F0 m 18 ls [.int x18_s0]) := by
      intro x18_s0 H locs ex18_s0 hP hD hS ls hl
      have hr : (r_X5_start M a1 a2) = (if (r_X5_of M a1 (2 : Int32)) = x18_s0 then (-5 : Int32) else ((fun (z_1 : CS) => ((fun (z_2 : CS) => ((fun (z_3 : CS) => (r_X5_acted z_2 ((z_2 1) 2))) (p_X5_acted z_2 ((z_2 1) 2)))) (p_X5_to z_1 a1 (2 : Int32) x18_s0))) (p_X5_remember M))) := by subst ex18_s0; exact hr
      have hp : (p_X5_start M a1 a2) = (if (r_X5_of M a1 (2 : Int32)) = x18_s0 then M else ((fun (z_1 : CS) => ((fun (z_2 : CS) => ((fun (z_3 : CS) => z_3) (p_X5_acted z_2 ((z_2 1) 2)))) (p_X5_to z_1 a1 (2 : Int32) x18_s0))) (p_X5_remember M))) := by subst ex18_s0; exact hp
      refine lv_istore_n (lv' := [(3, .int x18_s0), (0, .ref (md 0)), (1, .int a1)]) hx hb dX5_start_18 rfl hl (by decide) rfl (fun ls hl => ?_)
      refine lv_aload_n hx hb dX5_start_19 rfl (lv_at hl 1 rfl) ?_
      refine lv_iload_n hx hb dX5_start_20 rfl (lv_at hl 2 rfl) ?_
      refine lv_iconst (v := (2 : Int32)) hx hb dX5_start_21 (by decide) ?_
      refine goI (n := 7) (ws' := [((md 0), mdC md (M 0)), ((md 1), arC cI 96 (M 1)), ((md 2), arC cI 96 (M 2)), ((md 3), arC cI 96 (M 3)), ((md 4), arC cI 384 (M 4)), ((md 5), arC cI 96 (M 5)), ((md 6), arC cI 60 (M 6))]) (rs := []) (va_runV (As := [.int a1, .int (2 : Int32)]) (rest := []) ⟨hx, hb, hml, hown, hts⟩ (c_X5_of l D cI cC cS md M a1 (2 : Int32) (sd_in (isS c4) (by decide)) _) (cwV 2 hts gX5_start_X5_of rfl rfl rfl (by decide +kernel) ⟨Nat.le_of_ble_eq_true rfl, Nat.le_of_ble_eq_true rfl⟩) (preV hK hP hD [0, 1, 2, 3, 4, 5, 6] (by decide) rfl 0 5 rfl rfl) rfl rfl hl.1 rfl (lv_room (Nat.le_of_ble_eq_true rfl)) dX5_start_22 ⟨Nat.zero_le _, Nat.zero_le _⟩) hP hD hS hA [0, 1, 2, 3, 4, 5, 6] [] rfl rfl rfl rfl rfl (by decide +kernel) rfl (fun H locs hP hD hS => ?_)
      refine lv_iload_n hx hb dX5_start_25 rfl (lv_at hl 0 rfl) ?_
      refine lv_icmp_ne (tgt := 32) hx hb dX5_start_26 (by decide) (fun c26 => ?_) (fun c26 => ?_)
      · have hr := hr.trans (if_neg c26)
        have hp := hp.trans (if_neg c26)
        refine lv_aload_n hx hb dX5_start_32 rfl (lv_at hl 1 rfl) ?_
        refine goV (n := 7) (ws' := [((md 0), mdC md ((p_X5_remember M) 0)), ((md 1), arC cI 96 ((p_X5_remember M) 1)), ((md 2), arC cI 96 ((p_X5_remember M) 2)), ((md 3), arC cI 96 ((p_X5_remember M) 3)), ((md 4), arC cI 384 ((p_X5_remember M) 4)), ((md 5), arC cI 96 ((p_X5_remember M) 5)), ((md 6), arC cI 60 ((p_X5_remember M) 6))]) (rs := []) (va_runV (As := []) (rest := []) ⟨hx, hb, hml, hown, hts⟩ (c_X5_remember l D cI cC cS md M  _) (cwV 0 hts gX5_start_X5_remember rfl rfl rfl (by decide +kernel) ⟨Nat.le_of_ble_eq_true rfl, Nat.le_of_ble_eq_true rfl⟩) (preV hK hP hD [0, 1, 2, 3, 4, 5, 6] (by decide) rfl 0 5 rfl rfl) rfl rfl hl.1 rfl (lv_room (Nat.le_of_ble_eq_true rfl)) dX5_start_33 ⟨Nat.zero_le _, Nat.zero_le _⟩) hP hD hS hA [0, 1, 2, 3, 4, 5, 6] [] rfl rfl rfl rfl rfl (by decide +kernel) (fstE (as := [(md 0), (md 1), (md 2), (md 3), (md 4), (md 5), (md 6)]) rfl rfl) (fun H locs hP hD hS => ?_)
        obtain ⟨z_1, hz_1⟩ : ∃ z : CS, z = (p_X5_remember M) := ⟨_, rfl⟩
        rw [← hz_1] at hP hD
        have hr : (r_X5_start M a1 a2) = ((fun (z_2 : CS) => ((fun (z_3 : CS) => (r_X5_acted z_2 ((z_2 1) 2))) (p_X5_acted z_2 ((z_2 1) 2)))) (p_X5_to z_1 a1 (2 : Int32) x18_s0)) := by subst hz_1; exact hr
        have hp : (p_X5_start M a1 a2) = ((fun (z_2 : CS) => ((fun (z_3 : CS) => z_3) (p_X5_acted z_2 ((z_2 1) 2)))) (p_X5_to z_1 a1 (2 : Int32) x18_s0)) := by subst hz_1; exact hp
        refine lv_aload_n hx hb dX5_start_36 rfl (lv_at hl 1 rfl) ?_
        refine lv_iload_n hx hb dX5_start_37 rfl (lv_at hl 2 rfl) ?_
        refine lv_iconst (v := (2 : Int32)) hx hb dX5_start_38 (by decide) ?_
        refine lv_iload_n hx hb dX5_start_39 rfl (lv_at hl 0 rfl) ?_
        refine goV (n := 7) (ws' := [((md 0), mdC md ((p_X5_to z_1 a1 (2 : Int32) x18_s0) 0)), ((md 1), arC cI 96 ((p_X5_to z_1 a1 (2 : Int32) x18_s0) 1)), ((md 2), arC cI 96 ((p_X5_to z_1 a1 (2 : Int32) x18_s0) 2)), ((md 3), arC cI 96 ((p_X5_to z_1 a1 (2 : Int32) x18_s0) 3)), ((md 4), arC cI 384 ((p_X5_to z_1 a1 (2 : Int32) x18_s0) 4)), ((md 5), arC cI 96 ((p_X5_to z_1 a1 (2 : Int32) x18_s0) 5)), ((md 6), arC cI 60 ((p_X5_to z_1 a1 (2 : Int32) x18_s0) 6))]) (rs := []) (va_runV (As := [.int a1, .int (2 : Int32), .int x18_s0]) (rest := []) ⟨hx, hb, hml, hown, hts⟩ (c_X5_to l D cI cC cS md z_1 a1 (2 : Int32) x18_s0 (sd_in (isS c4) (by decide)) _) (cwV 3 hts gX5_start_X5_to rfl rfl rfl (by decide +kernel) ⟨Nat.le_of_ble_eq_true rfl, Nat.le_of_ble_eq_true rfl⟩) (preV hK hP hD [0, 1, 2, 3, 4, 5, 6] (by decide) rfl 0 5 rfl rfl) rfl rfl hl.1 rfl (lv_room (Nat.le_of_ble_eq_true rfl)) dX5_start_40 ⟨Nat.zero_le _, Nat.zero_le _⟩) hP hD hS hA [0, 1, 2, 3, 4, 5, 6] [] rfl rfl rfl rfl rfl (by decide +kernel) (fstE (as := [(md 0), (md 1), (md 2), (md 3), (md 4), (md 5), (md 6)]) rfl rfl) (fun H locs hP hD hS => ?_)
        obtain ⟨z_2, hz_2⟩ : ∃ z : CS, z = (p_X5_to z_1 a1 (2 : Int32) x18_s0) := ⟨_, rfl⟩
        rw [← hz_2] at hP hD
        have hr : (r_X5_start M a1 a2) = ((fun (z_3 : CS) => (r_X5_acted z_2 ((z_2 1) 2))) (p_X5_acted z_2 ((z_2 1) 2))) := by subst hz_2; exact hr
        have hp : (p_X5_start M a1 a2) = ((fun (z_3 : CS) => z_3) (p_X5_acted z_2 ((z_2 1) 2))) := by subst hz_2; exact hp
        refine lv_aload_n hx hb dX5_start_43 rfl (lv_at hl 1 rfl) ?_
        refine lv_aload_n hx hb dX5_start_44 rfl (lv_at hl 1 rfl) ?_
        refine va_get (D := D) (ci := 5) (v := .ref (md 1)) (C := RX5) (T := TX5) (N := 14) hx hb hts inX5 hown hK.1 hP 0 rfl rfl 0 (by decide) (hts (.fieldLink RX5 7 "GrayPointersModel" "all" "[I") (List.mem_of_getElem? (i := 1) rfl)) (fun _ h9 => h9) rfl dX5_start_45 ?_
        refine lv_iconst (v := (2 : Int32)) hx hb dX5_start_48 (by decide) ?_
        refine va_iald hx hb hK.1 hP 1 0 rfl rfl (i := (2 : Int32)) (vp_in_iff.mpr (by decide)) dX5_start_49 ?_
        refine W.eq (g2 := F0 m 50 ls [.int ((z_2 1) 2), .ref (md 0)]) rfl ?_
        refine goI (n := 7) (ws' := [((md 0), mdC md ((p_X5_acted z_2 ((z_2 1) 2)) 0)), ((md 1), arC cI 96 ((p_X5_acted z_2 ((z_2 1) 2)) 1)), ((md 2), arC cI 96 ((p_X5_acted z_2 ((z_2 1) 2)) 2)), ((md 3), arC cI 96 ((p_X5_acted z_2 ((z_2 1) 2)) 3)), ((md 4), arC cI 384 ((p_X5_acted z_2 ((z_2 1) 2)) 4)), ((md 5), arC cI 96 ((p_X5_acted z_2 ((z_2 1) 2)) 5)), ((md 6), arC cI 60 ((p_X5_acted z_2 ((z_2 1) 2)) 6))]) (rs := []) (va_runV (As := [.int ((z_2 1) 2)]) (rest := []) ⟨hx, hb, hml, hown, hts⟩ (c_X5_acted l D cI cC cS md z_2 ((z_2 1) 2) (by subst_vars; exact hHL) _) (cwV 1 hts gX5_start_X5_acted rfl rfl rfl (by decide +kernel) ⟨Nat.le_of_ble_eq_true rfl, Nat.le_of_ble_eq_true rfl⟩) (preV hK hP hD [0, 1, 2, 3, 4, 5, 6] (by decide) rfl 0 5 rfl rfl) rfl rfl hl.1 rfl (lv_room (Nat.le_of_ble_eq_true rfl)) dX5_start_50 ⟨Nat.zero_le _, Nat.zero_le _⟩) hP hD hS hA [0, 1, 2, 3, 4, 5, 6] [] rfl rfl rfl rfl rfl (by decide +kernel) (fstE (as := [(md 0), (md 1), (md 2), (md 3), (md 4), (md 5), (md 6)]) rfl rfl) (fun H locs hP hD hS => ?_)
        obtain ⟨z_3, hz_3⟩ : ∃ z : CS, z = (p_X5_acted z_2 ((z_2 1) 2)) := ⟨_, rfl⟩
        rw [← hz_3] at hP hD
        have hr : (r_X5_start M a1 a2) = (r_X5_acted z_2 ((z_2 1) 2)) := by subst hz_3; exact hr
        have hp : (p_X5_start M a1 a2) = z_3 := by subst hz_3; exact hp
        exact endI (v := (r_X5_acted z_2 ((z_2 1) 2))) hb hx hsg hr.symm (by rw [hp]; exact hP) (by rw [hp]; exact hD) hS dX5_start_53 hlocks
      · have hr := hr.trans (if_pos c26)
        have hp := hp.trans (if_pos c26)
        refine lv_bipush (v := (-5 : Int32)) hx hb dX5_start_29 (by decide) ?_
        exact endI (v := (-5 : Int32)) hb hx hsg hr.symm (by rw [hp]; exact hP) (by rw [hp]; exact hD) hS dX5_start_31 hlocks
    refine lv_if_eq (tgt := 17) hx hb dX5_start_10 (by decide) (fun c10 => ?_) (fun c10 => ?_)
    · refine lv_iconst (v := (0 : Int32)) hx hb dX5_start_17 (by decide) ?_
      exact J_18 (0 : Int32) _ _ (if_pos c10).symm hP hD hS ls (lv_sub hl [0, 1] rfl)
    · refine lv_iconst (v := (1 : Int32)) hx hb dX5_start_13 (by decide) ?_
      refine lv_goto (tgt := 18) hx hb dX5_start_14 (by decide) ?_
      exact J_18 (1 : Int32) _ _ (if_neg c10).symm hP hD hS ls (lv_sub hl [0, 1] rfl)
  · have hr := hr.trans (if_pos c4)
    have hp := hp.trans (if_pos c4)
    refine lv_iconst (v := (-1 : Int32)) hx hb dX5_start_7 (by decide) ?_
    exact endI (v := (-1 : Int32)) hb hx hsg hr.symm (by rw [hp]; exact hP) (by rw [hp]; exact hD) hS dX5_start_8 hlocks
def r_X5_setClock (M : CS) (a1 : Int32) (a2 : Int32) (a3 : Int32) : Int32 := (if (r_X5_isSide a1) = (0 : Int32) then (-1 : Int32) else (if (r_X5_in a2.toInt64 (1 : Int64) (50 : Int64)) = (0 : Int32) then (-2 : Int32) else (if (r_X5_in a3.toInt64 (0 : Int64) (49 : Int64)) = (0 : Int32) then (-2 : Int32) else (if (r_X5_of M a1 (0 : Int32)) = a2 then (if (r_X5_of M a1 (1 : Int32)) = a3 then (-5 : Int32) else ((fun (z_5 : CS) => ((fun (z_6 : CS) => ((fun (z_7 : CS) => ((fun (z_8 : CS) => (r_X5_acted z_7 (r_X5_of M a1 (0 : Int32)))) (p_X5_acted z_7 (r_X5_of M a1 (0 : Int32))))) (p_X5_to z_6 a1 (1 : Int32) a3))) (p_X5_to z_5 a1 (0 : Int32) a2))) (p_X5_remember M))) else ((fun (z_1 : CS) => ((fun (z_2 : CS) => ((fun (z_3 : CS) => ((fun (z_4 : CS) => (r_X5_acted z_3 (r_X5_of M a1 (0 : Int32)))) (p_X5_acted z_3 (r_X5_of M a1 (0 : Int32))))) (p_X5_to z_2 a1 (1 : Int32) a3))) (p_X5_to z_1 a1 (0 : Int32) a2))) (p_X5_remember M))))))
def p_X5_setClock (M : CS) (a1 : Int32) (a2 : Int32) (a3 : Int32) : CS := (if (r_X5_isSide a1) = (0 : Int32) then M else (if (r_X5_in a2.toInt64 (1 : Int64) (50 : Int64)) = (0 : Int32) then M else (if (r_X5_in a3.toInt64 (0 : Int64) (49 : Int64)) = (0 : Int32) then M else (if (r_X5_of M a1 (0 : Int32)) = a2 then (if (r_X5_of M a1 (1 : Int32)) = a3 then M else ((fun (z_5 : CS) => ((fun (z_6 : CS) => ((fun (z_7 : CS) => ((fun (z_8 : CS) => z_8) (p_X5_acted z_7 (r_X5_of M a1 (0 : Int32))))) (p_X5_to z_6 a1 (1 : Int32) a3))) (p_X5_to z_5 a1 (0 : Int32) a2))) (p_X5_remember M))) else ((fun (z_1 : CS) => ((fun (z_2 : CS) => ((fun (z_3 : CS) => ((fun (z_4 : CS) => z_4) (p_X5_acted z_3 (r_X5_of M a1 (0 : Int32))))) (p_X5_to z_2 a1 (1 : Int32) a3))) (p_X5_to z_1 a1 (0 : Int32) a2))) (p_X5_remember M))))))
abbrev rm_X5_setClock : Room := { frames := 2, cells := 0, slots := 0, locals := 42 }
set_option maxHeartbeats 4000000 in
set_option maxRecDepth 100000 in
theorem c_X5_setClock (l : Launch) (D : va_G) (cI cC cS : ClassId) (md : Nat → Nat) (M : CS) (a1 : Int32) (a2 : Int32) (a3 : Int32) (hHL : HL M) : CI l D cI cC cS yX5_setClock wsX5_setClock rm_X5_setClock [.ref (md 0), .int a1, .int a2, .int a3] (mdW cI md M) (mdW cI md (p_X5_setClock M a1 a2 a3)) (r_X5_setClock M a1 a2 a3) := by
  intro sz
  refine startC (cc := cX5_setClock) (maxL := 5) (ret := (some .int)) (by decide) rfl (Nat.le_of_ble_eq_true rfl) ?_
  intro p e s m args below meth c hx hb hml hsg hts hown hlocks hin hK A hA hS hP hD ls hl
  have hown : s.vm.findClass RX5 = some m.cls := hown
  have hl : lv_has ls 5 [(0, .ref (md 0)), (1, .int a1), (2, .int a2), (3, .int a3)] := hl
  have hP : va_P D vwCl [((md 0), mdC md (M 0)), ((md 1), arC cI 96 (M 1)), ((md 2), arC cI 96 (M 2)), ((md 3), arC cI 96 (M 3)), ((md 4), arC cI 384 (M 4)), ((md 5), arC cI 96 (M 5)), ((md 6), arC cI 60 (M 6))] s.heap := hP
  have hD : va_D A [((md 0), mdC md (M 0)), ((md 1), arC cI 96 (M 1)), ((md 2), arC cI 96 (M 2)), ((md 3), arC cI 96 (M 3)), ((md 4), arC cI 384 (M 4)), ((md 5), arC cI 96 (M 5)), ((md 6), arC cI 60 (M 6))] := hD
  have hr : (r_X5_setClock M a1 a2 a3) = (if (r_X5_isSide a1) = (0 : Int32) then (-1 : Int32) else (if (r_X5_in a2.toInt64 (1 : Int64) (50 : Int64)) = (0 : Int32) then (-2 : Int32) else (if (r_X5_in a3.toInt64 (0 : Int64) (49 : Int64)) = (0 : Int32) then (-2 : Int32) else (if (r_X5_of M a1 (0 : Int32)) = a2 then (if (r_X5_of M a1 (1 : Int32)) = a3 then (-5 : Int32) else ((fun (z_5 : CS) => ((fun (z_6 : CS) => ((fun (z_7 : CS) => ((fun (z_8 : CS) => (r_X5_acted z_7 (r_X5_of M a1 (0 : Int32)))) (p_X5_acted z_7 (r_X5_of M a1 (0 : Int32))))) (p_X5_to z_6 a1 (1 : Int32) a3))) (p_X5_to z_5 a1 (0 : Int32) a2))) (p_X5_remember M))) else ((fun (z_1 : CS) => ((fun (z_2 : CS) => ((fun (z_3 : CS) => ((fun (z_4 : CS) => (r_X5_acted z_3 (r_X5_of M a1 (0 : Int32)))) (p_X5_acted z_3 (r_X5_of M a1 (0 : Int32))))) (p_X5_to z_2 a1 (1 : Int32) a3))) (p_X5_to z_1 a1 (0 : Int32) a2))) (p_X5_remember M)))))) := rfl
  have hp : (p_X5_setClock M a1 a2 a3) = (if (r_X5_isSide a1) = (0 : Int32) then M else (if (r_X5_in a2.toInt64 (1 : Int64) (50 : Int64)) = (0 : Int32) then M else (if (r_X5_in a3.toInt64 (0 : Int64) (49 : Int64)) = (0 : Int32) then M else (if (r_X5_of M a1 (0 : Int32)) = a2 then (if (r_X5_of M a1 (1 : Int32)) = a3 then M else ((fun (z_5 : CS) => ((fun (z_6 : CS) => ((fun (z_7 : CS) => ((fun (z_8 : CS) => z_8) (p_X5_acted z_7 (r_X5_of M a1 (0 : Int32))))) (p_X5_to z_6 a1 (1 : Int32) a3))) (p_X5_to z_5 a1 (0 : Int32) a2))) (p_X5_remember M))) else ((fun (z_1 : CS) => ((fun (z_2 : CS) => ((fun (z_3 : CS) => ((fun (z_4 : CS) => z_4) (p_X5_acted z_3 (r_X5_of M a1 (0 : Int32))))) (p_X5_to z_2 a1 (1 : Int32) a3))) (p_X5_to z_1 a1 (0 : Int32) a2))) (p_X5_remember M)))))) := rfl
  refine lv_iload_n hx hb dX5_setClock_0 rfl (lv_at hl 1 rfl) ?_
  refine goI (n := 7) (ws' := [((md 0), mdC md (M 0)), ((md 1), arC cI 96 (M 1)), ((md 2), arC cI 96 (M 2)), ((md 3), arC cI 96 (M 3)), ((md 4), arC cI 384 (M 4)), ((md 5), arC cI 96 (M 5)), ((md 6), arC cI 60 (M 6))]) (rs := [((md 0), mdC md (M 0)), ((md 1), arC cI 96 (M 1)), ((md 2), arC cI 96 (M 2)), ((md 3), arC cI 96 (M 3)), ((md 4), arC cI 384 (M 4)), ((md 5), arC cI 96 (M 5)), ((md 6), arC cI 60 (M 6))]) (va_runS (As := [.int a1]) (rest := []) ⟨hx, hb, hml, hown, hts⟩ (c_X5_isSide l D cI cC cS a1  _) (va_cwS 1 hts gX5_setClock_X5_isSide rfl rfl rfl (by decide +kernel) ⟨Nat.le_of_ble_eq_true rfl, Nat.le_of_ble_eq_true rfl⟩) (preS hK hP hD [] (by decide) rfl) rfl rfl hl.1 rfl (lv_room (Nat.le_of_ble_eq_true rfl)) dX5_setClock_1 ⟨Nat.zero_le _, Nat.zero_le _⟩) hP hD hS hA [] [0, 1, 2, 3, 4, 5, 6] rfl rfl rfl rfl rfl (by decide +kernel) rfl (fun H locs hP hD hS => ?_)
  refine lv_if_ne (tgt := 9) hx hb dX5_setClock_4 (by decide) (fun c4 => ?_) (fun c4 => ?_)
  · have hr := hr.trans (if_neg c4)
    have hp := hp.trans (if_neg c4)
    refine lv_iload_n hx hb dX5_setClock_9 rfl (lv_at hl 2 rfl) ?_
    refine lv_i2l (v := a2.toInt64) hx hb dX5_setClock_10 rfl ?_
    refine lv_lconst (v := (1 : Int64)) hx hb dX5_setClock_11 (by decide) ?_
    refine lv_ldc2 (v := (50 : Int64)) hx hb hown (hts (.constantLong RX5 117 50) (List.mem_of_getElem? (i := 1) rfl)) dX5_setClock_12 ?_
    refine goI (n := 7) (ws' := [((md 0), mdC md (M 0)), ((md 1), arC cI 96 (M 1)), ((md 2), arC cI 96 (M 2)), ((md 3), arC cI 96 (M 3)), ((md 4), arC cI 384 (M 4)), ((md 5), arC cI 96 (M 5)), ((md 6), arC cI 60 (M 6))]) (rs := [((md 0), mdC md (M 0)), ((md 1), arC cI 96 (M 1)), ((md 2), arC cI 96 (M 2)), ((md 3), arC cI 96 (M 3)), ((md 4), arC cI 384 (M 4)), ((md 5), arC cI 96 (M 5)), ((md 6), arC cI 60 (M 6))]) (va_runS (As := [.long a2.toInt64, .long (1 : Int64), .long (50 : Int64)]) (rest := []) ⟨hx, hb, hml, hown, hts⟩ (c_X5_in l D cI cC cS a2.toInt64 (1 : Int64) (50 : Int64)  _) (va_cwS 3 hts gX5_setClock_X5_in rfl rfl rfl (by decide +kernel) ⟨Nat.le_of_ble_eq_true rfl, Nat.le_of_ble_eq_true rfl⟩) (preS hK hP hD [] (by decide) rfl) rfl rfl hl.1 rfl (lv_room (Nat.le_of_ble_eq_true rfl)) dX5_setClock_15 ⟨Nat.zero_le _, Nat.zero_le _⟩) hP hD hS hA [] [0, 1, 2, 3, 4, 5, 6] rfl rfl rfl rfl rfl (by decide +kernel) rfl (fun H locs hP hD hS => ?_)
    refine lv_if_eq (tgt := 33) hx hb dX5_setClock_18 (by decide) (fun c18 => ?_) (fun c18 => ?_)
    · have hr := hr.trans (if_pos c18)
      have hp := hp.trans (if_pos c18)
      refine lv_bipush (v := (-2 : Int32)) hx hb dX5_setClock_33 (by decide) ?_
      exact endI (v := (-2 : Int32)) hb hx hsg hr.symm (by rw [hp]; exact hP) (by rw [hp]; exact hD) hS dX5_setClock_35 hlocks
    · have hr := hr.trans (if_neg c18)
      have hp := hp.trans (if_neg c18)
      refine lv_iload_n hx hb dX5_setClock_21 rfl (lv_at hl 3 rfl) ?_
      refine lv_i2l (v := a3.toInt64) hx hb dX5_setClock_22 rfl ?_
      refine lv_lconst (v := (0 : Int64)) hx hb dX5_setClock_23 (by decide) ?_
      refine lv_ldc2 (v := (49 : Int64)) hx hb hown (hts (.constantLong RX5 119 49) (List.mem_of_getElem? (i := 2) rfl)) dX5_setClock_24 ?_
      refine goI (n := 7) (ws' := [((md 0), mdC md (M 0)), ((md 1), arC cI 96 (M 1)), ((md 2), arC cI 96 (M 2)), ((md 3), arC cI 96 (M 3)), ((md 4), arC cI 384 (M 4)), ((md 5), arC cI 96 (M 5)), ((md 6), arC cI 60 (M 6))]) (rs := [((md 0), mdC md (M 0)), ((md 1), arC cI 96 (M 1)), ((md 2), arC cI 96 (M 2)), ((md 3), arC cI 96 (M 3)), ((md 4), arC cI 384 (M 4)), ((md 5), arC cI 96 (M 5)), ((md 6), arC cI 60 (M 6))]) (va_runS (As := [.long a3.toInt64, .long (0 : Int64), .long (49 : Int64)]) (rest := []) ⟨hx, hb, hml, hown, hts⟩ (c_X5_in l D cI cC cS a3.toInt64 (0 : Int64) (49 : Int64)  _) (va_cwS 3 hts gX5_setClock_X5_in rfl rfl rfl (by decide +kernel) ⟨Nat.le_of_ble_eq_true rfl, Nat.le_of_ble_eq_true rfl⟩) (preS hK hP hD [] (by decide) rfl) rfl rfl hl.1 rfl (lv_room (Nat.le_of_ble_eq_true rfl)) dX5_setClock_27 ⟨Nat.zero_le _, Nat.zero_le _⟩) hP hD hS hA [] [0, 1, 2, 3, 4, 5, 6] rfl rfl rfl rfl rfl (by decide +kernel) rfl (fun H locs hP hD hS => ?_)
      refine lv_if_ne (tgt := 36) hx hb dX5_setClock_30 (by decide) (fun c30 => ?_) (fun c30 => ?_)
      · have hr := hr.trans (if_neg c30)
        have hp := hp.trans (if_neg c30)
        refine lv_aload_n hx hb dX5_setClock_36 rfl (lv_at hl 0 rfl) ?_
        refine lv_iload_n hx hb dX5_setClock_37 rfl (lv_at hl 1 rfl) ?_
        refine lv_iconst (v := (0 : Int32)) hx hb dX5_setClock_38 (by decide) ?_
        refine goI (n := 7) (ws' := [((md 0), mdC md (M 0)), ((md 1), arC cI 96 (M 1)), ((md 2), arC cI 96 (M 2)), ((md 3), arC cI 96 (M 3)), ((md 4), arC cI 384 (M 4)), ((md 5), arC cI 96 (M 5)), ((md 6), arC cI 60 (M 6))]) (rs := []) (va_runV (As := [.int a1, .int (0 : Int32)]) (rest := []) ⟨hx, hb, hml, hown, hts⟩ (c_X5_of l D cI cC cS md M a1 (0 : Int32) (sd_in (isS c4) (by decide)) _) (cwV 2 hts gX5_setClock_X5_of rfl rfl rfl (by decide +kernel) ⟨Nat.le_of_ble_eq_true rfl, Nat.le_of_ble_eq_true rfl⟩) (preV hK hP hD [0, 1, 2, 3, 4, 5, 6] (by decide) rfl 0 5 rfl rfl) rfl rfl hl.1 rfl (lv_room (Nat.le_of_ble_eq_true rfl)) dX5_setClock_39 ⟨Nat.zero_le _, Nat.zero_le _⟩) hP hD hS hA [0, 1, 2, 3, 4, 5, 6] [] rfl rfl rfl rfl rfl (by decide +kernel) rfl (fun H locs hP hD hS => ?_)
        refine lv_istore (lv' := [(4, .int (r_X5_of M a1 (0 : Int32))), (0, .ref (md 0)), (1, .int a1), (2, .int a2), (3, .int a3)]) hx hb dX5_setClock_42 hl (by decide) rfl (fun ls hl => ?_)
        refine lv_iload hx hb dX5_setClock_44 (lv_at hl 0 rfl) ?_
        refine lv_iload_n hx hb dX5_setClock_46 rfl (lv_at hl 3 rfl) ?_
        refine lv_icmp_ne (tgt := 63) hx hb dX5_setClock_47 (by decide) (fun c47 => ?_) (fun c47 => ?_)
        · have hr := hr.trans (if_neg c47)
          have hp := hp.trans (if_neg c47)
          refine lv_aload_n hx hb dX5_setClock_63 rfl (lv_at hl 1 rfl) ?_
          refine goV (n := 7) (ws' := [((md 0), mdC md ((p_X5_remember M) 0)), ((md 1), arC cI 96 ((p_X5_remember M) 1)), ((md 2), arC cI 96 ((p_X5_remember M) 2)), ((md 3), arC cI 96 ((p_X5_remember M) 3)), ((md 4), arC cI 384 ((p_X5_remember M) 4)), ((md 5), arC cI 96 ((p_X5_remember M) 5)), ((md 6), arC cI 60 ((p_X5_remember M) 6))]) (rs := []) (va_runV (As := []) (rest := []) ⟨hx, hb, hml, hown, hts⟩ (c_X5_remember l D cI cC cS md M  _) (cwV 0 hts gX5_setClock_X5_remember rfl rfl rfl (by decide +kernel) ⟨Nat.le_of_ble_eq_true rfl, Nat.le_of_ble_eq_true rfl⟩) (preV hK hP hD [0, 1, 2, 3, 4, 5, 6] (by decide) rfl 0 5 rfl rfl) rfl rfl hl.1 rfl (lv_room (Nat.le_of_ble_eq_true rfl)) dX5_setClock_64 ⟨Nat.zero_le _, Nat.zero_le _⟩) hP hD hS hA [0, 1, 2, 3, 4, 5, 6] [] rfl rfl rfl rfl rfl (by decide +kernel) (fstE (as := [(md 0), (md 1), (md 2), (md 3), (md 4), (md 5), (md 6)]) rfl rfl) (fun H locs hP hD hS => ?_)
          obtain ⟨z_1, hz_1⟩ : ∃ z : CS, z = (p_X5_remember M) := ⟨_, rfl⟩
          rw [← hz_1] at hP hD
          have hr : (r_X5_setClock M a1 a2 a3) = ((fun (z_2 : CS) => ((fun (z_3 : CS) => ((fun (z_4 : CS) => (r_X5_acted z_3 (r_X5_of M a1 (0 : Int32)))) (p_X5_acted z_3 (r_X5_of M a1 (0 : Int32))))) (p_X5_to z_2 a1 (1 : Int32) a3))) (p_X5_to z_1 a1 (0 : Int32) a2)) := by subst hz_1; exact hr
          have hp : (p_X5_setClock M a1 a2 a3) = ((fun (z_2 : CS) => ((fun (z_3 : CS) => ((fun (z_4 : CS) => z_4) (p_X5_acted z_3 (r_X5_of M a1 (0 : Int32))))) (p_X5_to z_2 a1 (1 : Int32) a3))) (p_X5_to z_1 a1 (0 : Int32) a2)) := by subst hz_1; exact hp
          refine lv_aload_n hx hb dX5_setClock_67 rfl (lv_at hl 1 rfl) ?_
          refine lv_iload_n hx hb dX5_setClock_68 rfl (lv_at hl 2 rfl) ?_
          refine lv_iconst (v := (0 : Int32)) hx hb dX5_setClock_69 (by decide) ?_
          refine lv_iload_n hx hb dX5_setClock_70 rfl (lv_at hl 3 rfl) ?_
          refine goV (n := 7) (ws' := [((md 0), mdC md ((p_X5_to z_1 a1 (0 : Int32) a2) 0)), ((md 1), arC cI 96 ((p_X5_to z_1 a1 (0 : Int32) a2) 1)), ((md 2), arC cI 96 ((p_X5_to z_1 a1 (0 : Int32) a2) 2)), ((md 3), arC cI 96 ((p_X5_to z_1 a1 (0 : Int32) a2) 3)), ((md 4), arC cI 384 ((p_X5_to z_1 a1 (0 : Int32) a2) 4)), ((md 5), arC cI 96 ((p_X5_to z_1 a1 (0 : Int32) a2) 5)), ((md 6), arC cI 60 ((p_X5_to z_1 a1 (0 : Int32) a2) 6))]) (rs := []) (va_runV (As := [.int a1, .int (0 : Int32), .int a2]) (rest := []) ⟨hx, hb, hml, hown, hts⟩ (c_X5_to l D cI cC cS md z_1 a1 (0 : Int32) a2 (sd_in (isS c4) (by decide)) _) (cwV 3 hts gX5_setClock_X5_to rfl rfl rfl (by decide +kernel) ⟨Nat.le_of_ble_eq_true rfl, Nat.le_of_ble_eq_true rfl⟩) (preV hK hP hD [0, 1, 2, 3, 4, 5, 6] (by decide) rfl 0 5 rfl rfl) rfl rfl hl.1 rfl (lv_room (Nat.le_of_ble_eq_true rfl)) dX5_setClock_71 ⟨Nat.zero_le _, Nat.zero_le _⟩) hP hD hS hA [0, 1, 2, 3, 4, 5, 6] [] rfl rfl rfl rfl rfl (by decide +kernel) (fstE (as := [(md 0), (md 1), (md 2), (md 3), (md 4), (md 5), (md 6)]) rfl rfl) (fun H locs hP hD hS => ?_)
          obtain ⟨z_2, hz_2⟩ : ∃ z : CS, z = (p_X5_to z_1 a1 (0 : Int32) a2) := ⟨_, rfl⟩
          rw [← hz_2] at hP hD
          have hr : (r_X5_setClock M a1 a2 a3) = ((fun (z_3 : CS) => ((fun (z_4 : CS) => (r_X5_acted z_3 (r_X5_of M a1 (0 : Int32)))) (p_X5_acted z_3 (r_X5_of M a1 (0 : Int32))))) (p_X5_to z_2 a1 (1 : Int32) a3)) := by subst hz_2; exact hr
          have hp : (p_X5_setClock M a1 a2 a3) = ((fun (z_3 : CS) => ((fun (z_4 : CS) => z_4) (p_X5_acted z_3 (r_X5_of M a1 (0 : Int32))))) (p_X5_to z_2 a1 (1 : Int32) a3)) := by subst hz_2; exact hp
          refine lv_aload_n hx hb dX5_setClock_74 rfl (lv_at hl 1 rfl) ?_
          refine lv_iload_n hx hb dX5_setClock_75 rfl (lv_at hl 2 rfl) ?_
          refine lv_iconst (v := (1 : Int32)) hx hb dX5_setClock_76 (by decide) ?_
          refine lv_iload_n hx hb dX5_setClock_77 rfl (lv_at hl 4 rfl) ?_
          refine goV (n := 7) (ws' := [((md 0), mdC md ((p_X5_to z_2 a1 (1 : Int32) a3) 0)), ((md 1), arC cI 96 ((p_X5_to z_2 a1 (1 : Int32) a3) 1)), ((md 2), arC cI 96 ((p_X5_to z_2 a1 (1 : Int32) a3) 2)), ((md 3), arC cI 96 ((p_X5_to z_2 a1 (1 : Int32) a3) 3)), ((md 4), arC cI 384 ((p_X5_to z_2 a1 (1 : Int32) a3) 4)), ((md 5), arC cI 96 ((p_X5_to z_2 a1 (1 : Int32) a3) 5)), ((md 6), arC cI 60 ((p_X5_to z_2 a1 (1 : Int32) a3) 6))]) (rs := []) (va_runV (As := [.int a1, .int (1 : Int32), .int a3]) (rest := []) ⟨hx, hb, hml, hown, hts⟩ (c_X5_to l D cI cC cS md z_2 a1 (1 : Int32) a3 (sd_in (isS c4) (by decide)) _) (cwV 3 hts gX5_setClock_X5_to rfl rfl rfl (by decide +kernel) ⟨Nat.le_of_ble_eq_true rfl, Nat.le_of_ble_eq_true rfl⟩) (preV hK hP hD [0, 1, 2, 3, 4, 5, 6] (by decide) rfl 0 5 rfl rfl) rfl rfl hl.1 rfl (lv_room (Nat.le_of_ble_eq_true rfl)) dX5_setClock_78 ⟨Nat.zero_le _, Nat.zero_le _⟩) hP hD hS hA [0, 1, 2, 3, 4, 5, 6] [] rfl rfl rfl rfl rfl (by decide +kernel) (fstE (as := [(md 0), (md 1), (md 2), (md 3), (md 4), (md 5), (md 6)]) rfl rfl) (fun H locs hP hD hS => ?_)
          obtain ⟨z_3, hz_3⟩ : ∃ z : CS, z = (p_X5_to z_2 a1 (1 : Int32) a3) := ⟨_, rfl⟩
          rw [← hz_3] at hP hD
          have hr : (r_X5_setClock M a1 a2 a3) = ((fun (z_4 : CS) => (r_X5_acted z_3 (r_X5_of M a1 (0 : Int32)))) (p_X5_acted z_3 (r_X5_of M a1 (0 : Int32)))) := by subst hz_3; exact hr
          have hp : (p_X5_setClock M a1 a2 a3) = ((fun (z_4 : CS) => z_4) (p_X5_acted z_3 (r_X5_of M a1 (0 : Int32)))) := by subst hz_3; exact hp
          refine lv_aload_n hx hb dX5_setClock_81 rfl (lv_at hl 1 rfl) ?_
          refine lv_iload hx hb dX5_setClock_82 (lv_at hl 0 rfl) ?_
          refine goI (n := 7) (ws' := [((md 0), mdC md ((p_X5_acted z_3 (r_X5_of M a1 (0 : Int32))) 0)), ((md 1), arC cI 96 ((p_X5_acted z_3 (r_X5_of M a1 (0 : Int32))) 1)), ((md 2), arC cI 96 ((p_X5_acted z_3 (r_X5_of M a1 (0 : Int32))) 2)), ((md 3), arC cI 96 ((p_X5_acted z_3 (r_X5_of M a1 (0 : Int32))) 3)), ((md 4), arC cI 384 ((p_X5_acted z_3 (r_X5_of M a1 (0 : Int32))) 4)), ((md 5), arC cI 96 ((p_X5_acted z_3 (r_X5_of M a1 (0 : Int32))) 5)), ((md 6), arC cI 60 ((p_X5_acted z_3 (r_X5_of M a1 (0 : Int32))) 6))]) (rs := []) (va_runV (As := [.int (r_X5_of M a1 (0 : Int32))]) (rest := []) ⟨hx, hb, hml, hown, hts⟩ (c_X5_acted l D cI cC cS md z_3 (r_X5_of M a1 (0 : Int32)) (by subst_vars; exact hHL) _) (cwV 1 hts gX5_setClock_X5_acted rfl rfl rfl (by decide +kernel) ⟨Nat.le_of_ble_eq_true rfl, Nat.le_of_ble_eq_true rfl⟩) (preV hK hP hD [0, 1, 2, 3, 4, 5, 6] (by decide) rfl 0 5 rfl rfl) rfl rfl hl.1 rfl (lv_room (Nat.le_of_ble_eq_true rfl)) dX5_setClock_84 ⟨Nat.zero_le _, Nat.zero_le _⟩) hP hD hS hA [0, 1, 2, 3, 4, 5, 6] [] rfl rfl rfl rfl rfl (by decide +kernel) (fstE (as := [(md 0), (md 1), (md 2), (md 3), (md 4), (md 5), (md 6)]) rfl rfl) (fun H locs hP hD hS => ?_)
          obtain ⟨z_4, hz_4⟩ : ∃ z : CS, z = (p_X5_acted z_3 (r_X5_of M a1 (0 : Int32))) := ⟨_, rfl⟩
          rw [← hz_4] at hP hD
          have hr : (r_X5_setClock M a1 a2 a3) = (r_X5_acted z_3 (r_X5_of M a1 (0 : Int32))) := by subst hz_4; exact hr
          have hp : (p_X5_setClock M a1 a2 a3) = z_4 := by subst hz_4; exact hp
          exact endI (v := (r_X5_acted z_3 (r_X5_of M a1 (0 : Int32)))) hb hx hsg hr.symm (by rw [hp]; exact hP) (by rw [hp]; exact hD) hS dX5_setClock_87 hlocks
        · have hr := hr.trans (if_pos c47)
          have hp := hp.trans (if_pos c47)
          refine lv_aload_n hx hb dX5_setClock_50 rfl (lv_at hl 1 rfl) ?_
          refine lv_iload_n hx hb dX5_setClock_51 rfl (lv_at hl 2 rfl) ?_
          refine lv_iconst (v := (1 : Int32)) hx hb dX5_setClock_52 (by decide) ?_
          refine goI (n := 7) (ws' := [((md 0), mdC md (M 0)), ((md 1), arC cI 96 (M 1)), ((md 2), arC cI 96 (M 2)), ((md 3), arC cI 96 (M 3)), ((md 4), arC cI 384 (M 4)), ((md 5), arC cI 96 (M 5)), ((md 6), arC cI 60 (M 6))]) (rs := []) (va_runV (As := [.int a1, .int (1 : Int32)]) (rest := []) ⟨hx, hb, hml, hown, hts⟩ (c_X5_of l D cI cC cS md M a1 (1 : Int32) (sd_in (isS c4) (by decide)) _) (cwV 2 hts gX5_setClock_X5_of rfl rfl rfl (by decide +kernel) ⟨Nat.le_of_ble_eq_true rfl, Nat.le_of_ble_eq_true rfl⟩) (preV hK hP hD [0, 1, 2, 3, 4, 5, 6] (by decide) rfl 0 5 rfl rfl) rfl rfl hl.1 rfl (lv_room (Nat.le_of_ble_eq_true rfl)) dX5_setClock_53 ⟨Nat.zero_le _, Nat.zero_le _⟩) hP hD hS hA [0, 1, 2, 3, 4, 5, 6] [] rfl rfl rfl rfl rfl (by decide +kernel) rfl (fun H locs hP hD hS => ?_)
          refine lv_iload_n hx hb dX5_setClock_56 rfl (lv_at hl 4 rfl) ?_
          refine lv_icmp_ne (tgt := 63) hx hb dX5_setClock_57 (by decide) (fun c57 => ?_) (fun c57 => ?_)
          · have hr := hr.trans (if_neg c57)
            have hp := hp.trans (if_neg c57)
            refine lv_aload_n hx hb dX5_setClock_63 rfl (lv_at hl 1 rfl) ?_
            refine goV (n := 7) (ws' := [((md 0), mdC md ((p_X5_remember M) 0)), ((md 1), arC cI 96 ((p_X5_remember M) 1)), ((md 2), arC cI 96 ((p_X5_remember M) 2)), ((md 3), arC cI 96 ((p_X5_remember M) 3)), ((md 4), arC cI 384 ((p_X5_remember M) 4)), ((md 5), arC cI 96 ((p_X5_remember M) 5)), ((md 6), arC cI 60 ((p_X5_remember M) 6))]) (rs := []) (va_runV (As := []) (rest := []) ⟨hx, hb, hml, hown, hts⟩ (c_X5_remember l D cI cC cS md M  _) (cwV 0 hts gX5_setClock_X5_remember rfl rfl rfl (by decide +kernel) ⟨Nat.le_of_ble_eq_true rfl, Nat.le_of_ble_eq_true rfl⟩) (preV hK hP hD [0, 1, 2, 3, 4, 5, 6] (by decide) rfl 0 5 rfl rfl) rfl rfl hl.1 rfl (lv_room (Nat.le_of_ble_eq_true rfl)) dX5_setClock_64 ⟨Nat.zero_le _, Nat.zero_le _⟩) hP hD hS hA [0, 1, 2, 3, 4, 5, 6] [] rfl rfl rfl rfl rfl (by decide +kernel) (fstE (as := [(md 0), (md 1), (md 2), (md 3), (md 4), (md 5), (md 6)]) rfl rfl) (fun H locs hP hD hS => ?_)
            obtain ⟨z_5, hz_5⟩ : ∃ z : CS, z = (p_X5_remember M) := ⟨_, rfl⟩
            rw [← hz_5] at hP hD
            have hr : (r_X5_setClock M a1 a2 a3) = ((fun (z_6 : CS) => ((fun (z_7 : CS) => ((fun (z_8 : CS) => (r_X5_acted z_7 (r_X5_of M a1 (0 : Int32)))) (p_X5_acted z_7 (r_X5_of M a1 (0 : Int32))))) (p_X5_to z_6 a1 (1 : Int32) a3))) (p_X5_to z_5 a1 (0 : Int32) a2)) := by subst hz_5; exact hr
            have hp : (p_X5_setClock M a1 a2 a3) = ((fun (z_6 : CS) => ((fun (z_7 : CS) => ((fun (z_8 : CS) => z_8) (p_X5_acted z_7 (r_X5_of M a1 (0 : Int32))))) (p_X5_to z_6 a1 (1 : Int32) a3))) (p_X5_to z_5 a1 (0 : Int32) a2)) := by subst hz_5; exact hp
            refine lv_aload_n hx hb dX5_setClock_67 rfl (lv_at hl 1 rfl) ?_
            refine lv_iload_n hx hb dX5_setClock_68 rfl (lv_at hl 2 rfl) ?_
            refine lv_iconst (v := (0 : Int32)) hx hb dX5_setClock_69 (by decide) ?_
            refine lv_iload_n hx hb dX5_setClock_70 rfl (lv_at hl 3 rfl) ?_
            refine goV (n := 7) (ws' := [((md 0), mdC md ((p_X5_to z_5 a1 (0 : Int32) a2) 0)), ((md 1), arC cI 96 ((p_X5_to z_5 a1 (0 : Int32) a2) 1)), ((md 2), arC cI 96 ((p_X5_to z_5 a1 (0 : Int32) a2) 2)), ((md 3), arC cI 96 ((p_X5_to z_5 a1 (0 : Int32) a2) 3)), ((md 4), arC cI 384 ((p_X5_to z_5 a1 (0 : Int32) a2) 4)), ((md 5), arC cI 96 ((p_X5_to z_5 a1 (0 : Int32) a2) 5)), ((md 6), arC cI 60 ((p_X5_to z_5 a1 (0 : Int32) a2) 6))]) (rs := []) (va_runV (As := [.int a1, .int (0 : Int32), .int a2]) (rest := []) ⟨hx, hb, hml, hown, hts⟩ (c_X5_to l D cI cC cS md z_5 a1 (0 : Int32) a2 (sd_in (isS c4) (by decide)) _) (cwV 3 hts gX5_setClock_X5_to rfl rfl rfl (by decide +kernel) ⟨Nat.le_of_ble_eq_true rfl, Nat.le_of_ble_eq_true rfl⟩) (preV hK hP hD [0, 1, 2, 3, 4, 5, 6] (by decide) rfl 0 5 rfl rfl) rfl rfl hl.1 rfl (lv_room (Nat.le_of_ble_eq_true rfl)) dX5_setClock_71 ⟨Nat.zero_le _, Nat.zero_le _⟩) hP hD hS hA [0, 1, 2, 3, 4, 5, 6] [] rfl rfl rfl rfl rfl (by decide +kernel) (fstE (as := [(md 0), (md 1), (md 2), (md 3), (md 4), (md 5), (md 6)]) rfl rfl) (fun H locs hP hD hS => ?_)
            obtain ⟨z_6, hz_6⟩ : ∃ z : CS, z = (p_X5_to z_5 a1 (0 : Int32) a2) := ⟨_, rfl⟩
            rw [← hz_6] at hP hD
            have hr : (r_X5_setClock M a1 a2 a3) = ((fun (z_7 : CS) => ((fun (z_8 : CS) => (r_X5_acted z_7 (r_X5_of M a1 (0 : Int32)))) (p_X5_acted z_7 (r_X5_of M a1 (0 : Int32))))) (p_X5_to z_6 a1 (1 : Int32) a3)) := by subst hz_6; exact hr
            have hp : (p_X5_setClock M a1 a2 a3) = ((fun (z_7 : CS) => ((fun (z_8 : CS) => z_8) (p_X5_acted z_7 (r_X5_of M a1 (0 : Int32))))) (p_X5_to z_6 a1 (1 : Int32) a3)) := by subst hz_6; exact hp
            refine lv_aload_n hx hb dX5_setClock_74 rfl (lv_at hl 1 rfl) ?_
            refine lv_iload_n hx hb dX5_setClock_75 rfl (lv_at hl 2 rfl) ?_
            refine lv_iconst (v := (1 : Int32)) hx hb dX5_setClock_76 (by decide) ?_
            refine lv_iload_n hx hb dX5_setClock_77 rfl (lv_at hl 4 rfl) ?_
            refine goV (n := 7) (ws' := [((md 0), mdC md ((p_X5_to z_6 a1 (1 : Int32) a3) 0)), ((md 1), arC cI 96 ((p_X5_to z_6 a1 (1 : Int32) a3) 1)), ((md 2), arC cI 96 ((p_X5_to z_6 a1 (1 : Int32) a3) 2)), ((md 3), arC cI 96 ((p_X5_to z_6 a1 (1 : Int32) a3) 3)), ((md 4), arC cI 384 ((p_X5_to z_6 a1 (1 : Int32) a3) 4)), ((md 5), arC cI 96 ((p_X5_to z_6 a1 (1 : Int32) a3) 5)), ((md 6), arC cI 60 ((p_X5_to z_6 a1 (1 : Int32) a3) 6))]) (rs := []) (va_runV (As := [.int a1, .int (1 : Int32), .int a3]) (rest := []) ⟨hx, hb, hml, hown, hts⟩ (c_X5_to l D cI cC cS md z_6 a1 (1 : Int32) a3 (sd_in (isS c4) (by decide)) _) (cwV 3 hts gX5_setClock_X5_to rfl rfl rfl (by decide +kernel) ⟨Nat.le_of_ble_eq_true rfl, Nat.le_of_ble_eq_true rfl⟩) (preV hK hP hD [0, 1, 2, 3, 4, 5, 6] (by decide) rfl 0 5 rfl rfl) rfl rfl hl.1 rfl (lv_room (Nat.le_of_ble_eq_true rfl)) dX5_setClock_78 ⟨Nat.zero_le _, Nat.zero_le _⟩) hP hD hS hA [0, 1, 2, 3, 4, 5, 6] [] rfl rfl rfl rfl rfl (by decide +kernel) (fstE (as := [(md 0), (md 1), (md 2), (md 3), (md 4), (md 5), (md 6)]) rfl rfl) (fun H locs hP hD hS => ?_)
            obtain ⟨z_7, hz_7⟩ : ∃ z : CS, z = (p_X5_to z_6 a1 (1 : Int32) a3) := ⟨_, rfl⟩
            rw [← hz_7] at hP hD
            have hr : (r_X5_setClock M a1 a2 a3) = ((fun (z_8 : CS) => (r_X5_acted z_7 (r_X5_of M a1 (0 : Int32)))) (p_X5_acted z_7 (r_X5_of M a1 (0 : Int32)))) := by subst hz_7; exact hr
            have hp : (p_X5_setClock M a1 a2 a3) = ((fun (z_8 : CS) => z_8) (p_X5_acted z_7 (r_X5_of M a1 (0 : Int32)))) := by subst hz_7; exact hp
            refine lv_aload_n hx hb dX5_setClock_81 rfl (lv_at hl 1 rfl) ?_
            refine lv_iload hx hb dX5_setClock_82 (lv_at hl 0 rfl) ?_
            refine goI (n := 7) (ws' := [((md 0), mdC md ((p_X5_acted z_7 (r_X5_of M a1 (0 : Int32))) 0)), ((md 1), arC cI 96 ((p_X5_acted z_7 (r_X5_of M a1 (0 : Int32))) 1)), ((md 2), arC cI 96 ((p_X5_acted z_7 (r_X5_of M a1 (0 : Int32))) 2)), ((md 3), arC cI 96 ((p_X5_acted z_7 (r_X5_of M a1 (0 : Int32))) 3)), ((md 4), arC cI 384 ((p_X5_acted z_7 (r_X5_of M a1 (0 : Int32))) 4)), ((md 5), arC cI 96 ((p_X5_acted z_7 (r_X5_of M a1 (0 : Int32))) 5)), ((md 6), arC cI 60 ((p_X5_acted z_7 (r_X5_of M a1 (0 : Int32))) 6))]) (rs := []) (va_runV (As := [.int (r_X5_of M a1 (0 : Int32))]) (rest := []) ⟨hx, hb, hml, hown, hts⟩ (c_X5_acted l D cI cC cS md z_7 (r_X5_of M a1 (0 : Int32)) (by subst_vars; exact hHL) _) (cwV 1 hts gX5_setClock_X5_acted rfl rfl rfl (by decide +kernel) ⟨Nat.le_of_ble_eq_true rfl, Nat.le_of_ble_eq_true rfl⟩) (preV hK hP hD [0, 1, 2, 3, 4, 5, 6] (by decide) rfl 0 5 rfl rfl) rfl rfl hl.1 rfl (lv_room (Nat.le_of_ble_eq_true rfl)) dX5_setClock_84 ⟨Nat.zero_le _, Nat.zero_le _⟩) hP hD hS hA [0, 1, 2, 3, 4, 5, 6] [] rfl rfl rfl rfl rfl (by decide +kernel) (fstE (as := [(md 0), (md 1), (md 2), (md 3), (md 4), (md 5), (md 6)]) rfl rfl) (fun H locs hP hD hS => ?_)
            obtain ⟨z_8, hz_8⟩ : ∃ z : CS, z = (p_X5_acted z_7 (r_X5_of M a1 (0 : Int32))) := ⟨_, rfl⟩
            rw [← hz_8] at hP hD
            have hr : (r_X5_setClock M a1 a2 a3) = (r_X5_acted z_7 (r_X5_of M a1 (0 : Int32))) := by subst hz_8; exact hr
            have hp : (p_X5_setClock M a1 a2 a3) = z_8 := by subst hz_8; exact hp
            exact endI (v := (r_X5_acted z_7 (r_X5_of M a1 (0 : Int32)))) hb hx hsg hr.symm (by rw [hp]; exact hP) (by rw [hp]; exact hD) hS dX5_setClock_87 hlocks
          · have hr := hr.trans (if_pos c57)
            have hp := hp.trans (if_pos c57)
            refine lv_bipush (v := (-5 : Int32)) hx hb dX5_setClock_60 (by decide) ?_
            exact endI (v := (-5 : Int32)) hb hx hsg hr.symm (by rw [hp]; exact hP) (by rw [hp]; exact hD) hS dX5_setClock_62 hlocks
      · have hr := hr.trans (if_pos c30)
        have hp := hp.trans (if_pos c30)
        refine lv_bipush (v := (-2 : Int32)) hx hb dX5_setClock_33 (by decide) ?_
        exact endI (v := (-2 : Int32)) hb hx hsg hr.symm (by rw [hp]; exact hP) (by rw [hp]; exact hD) hS dX5_setClock_35 hlocks
  · have hr := hr.trans (if_pos c4)
    have hp := hp.trans (if_pos c4)
    refine lv_iconst (v := (-1 : Int32)) hx hb dX5_setClock_7 (by decide) ?_
    exact endI (v := (-1 : Int32)) hb hx hsg hr.symm (by rw [hp]; exact hP) (by rw [hp]; exact hD) hS dX5_setClock_8 hlocks
def r_X5_build (M : CS) (a1 : Int32) (a2 : Int32) : Int32 := (if (r_X5_in a1.toInt64 (1 : Int64) (4 : Int64)) = (0 : Int32) then (-2 : Int32) else ((fun (z_1 : CS) => ((fun (x30_s0 : Int32) => ((fun (z_2 : CS) => ((fun (z_3 : CS) => (r_X5_acted z_2 (r_X5_depth z_2))) (p_X5_acted z_2 (r_X5_depth z_2)))) (p_X5_builds z_1 a1 x30_s0))) (if a2 = (0 : Int32) then (0 : Int32) else (1 : Int32)))) (p_X5_remember M)))
def p_X5_build (M : CS) (a1 : Int32) (a2 : Int32) : CS := (if (r_X5_in a1.toInt64 (1 : Int64) (4 : Int64)) = (0 : Int32) then M else ((fun (z_1 : CS) => ((fun (x30_s0 : Int32) => ((fun (z_2 : CS) => ((fun (z_3 : CS) => z_3) (p_X5_acted z_2 (r_X5_depth z_2)))) (p_X5_builds z_1 a1 x30_s0))) (if a2 = (0 : Int32) then (0 : Int32) else (1 : Int32)))) (p_X5_remember M)))
abbrev rm_X5_build : Room := { frames := 2, cells := 0, slots := 0, locals := 47 }
set_option maxHeartbeats 4000000 in
set_option maxRecDepth 100000 in
theorem c_X5_build (l : Launch) (D : va_G) (cI cC cS : ClassId) (md : Nat → Nat) (M : CS) (a1 : Int32) (a2 : Int32) (hHL : HL M) : CI l D cI cC cS yX5_build wsX5_build rm_X5_build [.ref (md 0), .int a1, .int a2] (mdW cI md M) (mdW cI md (p_X5_build M a1 a2)) (r_X5_build M a1 a2) := by
  intro sz
  refine startC (cc := cX5_build) (maxL := 3) (ret := (some .int)) (by decide) rfl (Nat.le_of_ble_eq_true rfl) ?_
  intro p e s m args below meth c hx hb hml hsg hts hown hlocks hin hK A hA hS hP hD ls hl
  have hown : s.vm.findClass RX5 = some m.cls := hown
  have hl : lv_has ls 3 [(0, .ref (md 0)), (1, .int a1), (2, .int a2)] := hl
  have hP : va_P D vwCl [((md 0), mdC md (M 0)), ((md 1), arC cI 96 (M 1)), ((md 2), arC cI 96 (M 2)), ((md 3), arC cI 96 (M 3)), ((md 4), arC cI 384 (M 4)), ((md 5), arC cI 96 (M 5)), ((md 6), arC cI 60 (M 6))] s.heap := hP
  have hD : va_D A [((md 0), mdC md (M 0)), ((md 1), arC cI 96 (M 1)), ((md 2), arC cI 96 (M 2)), ((md 3), arC cI 96 (M 3)), ((md 4), arC cI 384 (M 4)), ((md 5), arC cI 96 (M 5)), ((md 6), arC cI 60 (M 6))] := hD
  have hr : (r_X5_build M a1 a2) = (if (r_X5_in a1.toInt64 (1 : Int64) (4 : Int64)) = (0 : Int32) then (-2 : Int32) else ((fun (z_1 : CS) => ((fun (x30_s0 : Int32) => ((fun (z_2 : CS) => ((fun (z_3 : CS) => (r_X5_acted z_2 (r_X5_depth z_2))) (p_X5_acted z_2 (r_X5_depth z_2)))) (p_X5_builds z_1 a1 x30_s0))) (if a2 = (0 : Int32) then (0 : Int32) else (1 : Int32)))) (p_X5_remember M))) := rfl
  have hp : (p_X5_build M a1 a2) = (if (r_X5_in a1.toInt64 (1 : Int64) (4 : Int64)) = (0 : Int32) then M else ((fun (z_1 : CS) => ((fun (x30_s0 : Int32) => ((fun (z_2 : CS) => ((fun (z_3 : CS) => z_3) (p_X5_acted z_2 (r_X5_depth z_2)))) (p_X5_builds z_1 a1 x30_s0))) (if a2 = (0 : Int32) then (0 : Int32) else (1 : Int32)))) (p_X5_remember M))) := rfl
  refine lv_iload_n hx hb dX5_build_0 rfl (lv_at hl 1 rfl) ?_
  refine lv_i2l (v := a1.toInt64) hx hb dX5_build_1 rfl ?_
  refine lv_lconst (v := (1 : Int64)) hx hb dX5_build_2 (by decide) ?_
  refine lv_ldc2 (v := (4 : Int64)) hx hb hown (hts (.constantLong RX5 102 4) (List.mem_of_getElem? (i := 1) rfl)) dX5_build_3 ?_
  refine goI (n := 7) (ws' := [((md 0), mdC md (M 0)), ((md 1), arC cI 96 (M 1)), ((md 2), arC cI 96 (M 2)), ((md 3), arC cI 96 (M 3)), ((md 4), arC cI 384 (M 4)), ((md 5), arC cI 96 (M 5)), ((md 6), arC cI 60 (M 6))]) (rs := [((md 0), mdC md (M 0)), ((md 1), arC cI 96 (M 1)), ((md 2), arC cI 96 (M 2)), ((md 3), arC cI 96 (M 3)), ((md 4), arC cI 384 (M 4)), ((md 5), arC cI 96 (M 5)), ((md 6), arC cI 60 (M 6))]) (va_runS (As := [.long a1.toInt64, .long (1 : Int64), .long (4 : Int64)]) (rest := []) ⟨hx, hb, hml, hown, hts⟩ (c_X5_in l D cI cC cS a1.toInt64 (1 : Int64) (4 : Int64)  _) (va_cwS 3 hts gX5_build_X5_in rfl rfl rfl (by decide +kernel) ⟨Nat.le_of_ble_eq_true rfl, Nat.le_of_ble_eq_true rfl⟩) (preS hK hP hD [] (by decide) rfl) rfl rfl hl.1 rfl (lv_room (Nat.le_of_ble_eq_true rfl)) dX5_build_6 ⟨Nat.zero_le _, Nat.zero_le _⟩) hP hD hS hA [] [0, 1, 2, 3, 4, 5, 6] rfl rfl rfl rfl rfl (by decide +kernel) rfl (fun H locs hP hD hS => ?_)
  refine lv_if_ne (tgt := 15) hx hb dX5_build_9 (by decide) (fun c9 => ?_) (fun c9 => ?_)
  · have hr := hr.trans (if_neg c9)
    have hp := hp.trans (if_neg c9)
    refine lv_aload_n hx hb dX5_build_15 rfl (lv_at hl 0 rfl) ?_
    refine goV (n := 7) (ws' := [((md 0), mdC md ((p_X5_remember M) 0)), ((md 1), arC cI 96 ((p_X5_remember M) 1)), ((md 2), arC cI 96 ((p_X5_remember M) 2)), ((md 3), arC cI 96 ((p_X5_remember M) 3)), ((md 4), arC cI 384 ((p_X5_remember M) 4)), ((md 5), arC cI 96 ((p_X5_remember M) 5)), ((md 6), arC cI 60 ((p_X5_remember M) 6))]) (rs := []) (va_runV (As := []) (rest := []) ⟨hx, hb, hml, hown, hts⟩ (c_X5_remember l D cI cC cS md M  _) (cwV 0 hts gX5_build_X5_remember rfl rfl rfl (by decide +kernel) ⟨Nat.le_of_ble_eq_true rfl, Nat.le_of_ble_eq_true rfl⟩) (preV hK hP hD [0, 1, 2, 3, 4, 5, 6] (by decide) rfl 0 5 rfl rfl) rfl rfl hl.1 rfl (lv_room (Nat.le_of_ble_eq_true rfl)) dX5_build_16 ⟨Nat.zero_le _, Nat.zero_le _⟩) hP hD hS hA [0, 1, 2, 3, 4, 5, 6] [] rfl rfl rfl rfl rfl (by decide +kernel) (fstE (as := [(md 0), (md 1), (md 2), (md 3), (md 4), (md 5), (md 6)]) rfl rfl) (fun H locs hP hD hS => ?_)
    obtain ⟨z_1, hz_1⟩ : ∃ z : CS, z = (p_X5_remember M) := ⟨_, rfl⟩
    rw [← hz_1] at hP hD
    have hr : (r_X5_build M a1 a2) = ((fun (x30_s0 : Int32) => ((fun (z_2 : CS) => ((fun (z_3 : CS) => (r_X5_acted z_2 (r_X5_depth z_2))) (p_X5_acted z_2 (r_X5_depth z_2)))) (p_X5_builds z_1 a1 x30_s0))) (if a2 = (0 : Int32) then (0 : Int32) else (1 : Int32))) := by subst hz_1; exact hr
    have hp : (p_X5_build M a1 a2) = ((fun (x30_s0 : Int32) => ((fun (z_2 : CS) => ((fun (z_3 : CS) => z_3) (p_X5_acted z_2 (r_X5_depth z_2)))) (p_X5_builds z_1 a1 x30_s0))) (if a2 = (0 : Int32) then (0 : Int32) else (1 : Int32))) := by subst hz_1; exact hp
    refine lv_aload_n hx hb dX5_build_19 rfl (lv_at hl 0 rfl) ?_
    refine lv_iload_n hx hb dX5_build_20 rfl (lv_at hl 1 rfl) ?_
    refine lv_iload_n hx hb dX5_build_21 rfl (lv_at hl 2 rfl) ?_
    have J_30 : ∀ (x30_s0 : Int32) (H : Heap) (locs : List Loc), x30_s0 = (if a2 = (0 : Int32) then (0 : Int32) else (1 : Int32)) → va_P D vwCl [((md 0), mdC md (z_1 0)), ((md 1), arC cI 96 (z_1 1)), ((md 2), arC cI 96 (z_1 2)), ((md 3), arC cI 96 (z_1 3)), ((md 4), arC cI 384 (z_1 4)), ((md 5), arC cI 96 (z_1 5)), ((md 6), arC cI 60 (z_1 6))] H → va_D A [((md 0), mdC md (z_1 0)), ((md 1), arC cI 96 (z_1 1)), ((md 2), arC cI 96 (z_1 2)), ((md 3), arC cI 96 (z_1 3)), ((md 4), arC cI 384 (z_1 4)), ((md 5), arC cI 96 (z_1 5)), ((md 6), arC cI 60 (z_1 6))] → va_S A s.heap H locs → ∀ ls, lv_has ls 3 [(0, .ref (md 0))] → W p l e rm_X5_build s m args below meth c H locs 0 0 (MQ below (QI D (mdW cI md (p_X5_build M a1 a2)) (r_X5_build M a1 a2) A) args s 0 0 A) (F0 m 30 ls [.int x30_s0, .int a1, .ref (md 0)]) := by
      intro x30_s0 H locs ex30_s0 hP hD hS ls hl
      have hr : (r_X5_build M a1 a2) = ((fun (z_2 : CS) => ((fun (z_3 : CS) => (r_X5_acted z_2 (r_X5_depth z_2))) (p_X5_acted z_2 (r_X5_depth z_2)))) (p_X5_builds z_1 a1 x30_s0)) := by subst ex30_s0; exact hr
      have hp : (p_X5_build M a1 a2) = ((fun (z_2 : CS) => ((fun (z_3 : CS) => z_3) (p_X5_acted z_2 (r_X5_depth z_2)))) (p_X5_builds z_1 a1 x30_s0)) := by subst ex30_s0; exact hp
      refine goV (n := 7) (ws' := [((md 0), mdC md ((p_X5_builds z_1 a1 x30_s0) 0)), ((md 1), arC cI 96 ((p_X5_builds z_1 a1 x30_s0) 1)), ((md 2), arC cI 96 ((p_X5_builds z_1 a1 x30_s0) 2)), ((md 3), arC cI 96 ((p_X5_builds z_1 a1 x30_s0) 3)), ((md 4), arC cI 384 ((p_X5_builds z_1 a1 x30_s0) 4)), ((md 5), arC cI 96 ((p_X5_builds z_1 a1 x30_s0) 5)), ((md 6), arC cI 60 ((p_X5_builds z_1 a1 x30_s0) 6))]) (rs := []) (va_runV (As := [.int a1, .int x30_s0]) (rest := []) ⟨hx, hb, hml, hown, hts⟩ (c_X5_builds l D cI cC cS md z_1 a1 x30_s0  _) (cwV 2 hts gX5_build_X5_builds rfl rfl rfl (by decide +kernel) ⟨Nat.le_of_ble_eq_true rfl, Nat.le_of_ble_eq_true rfl⟩) (preV hK hP hD [0, 1, 2, 3, 4, 5, 6] (by decide) rfl 0 5 rfl rfl) rfl rfl hl.1 rfl (lv_room (Nat.le_of_ble_eq_true rfl)) dX5_build_30 ⟨Nat.zero_le _, Nat.zero_le _⟩) hP hD hS hA [0, 1, 2, 3, 4, 5, 6] [] rfl rfl rfl rfl rfl (by decide +kernel) (fstE (as := [(md 0), (md 1), (md 2), (md 3), (md 4), (md 5), (md 6)]) rfl rfl) (fun H locs hP hD hS => ?_)
      obtain ⟨z_2, hz_2⟩ : ∃ z : CS, z = (p_X5_builds z_1 a1 x30_s0) := ⟨_, rfl⟩
      rw [← hz_2] at hP hD
      have hr : (r_X5_build M a1 a2) = ((fun (z_3 : CS) => (r_X5_acted z_2 (r_X5_depth z_2))) (p_X5_acted z_2 (r_X5_depth z_2))) := by subst hz_2; exact hr
      have hp : (p_X5_build M a1 a2) = ((fun (z_3 : CS) => z_3) (p_X5_acted z_2 (r_X5_depth z_2))) := by subst hz_2; exact hp
      refine lv_aload_n hx hb dX5_build_33 rfl (lv_at hl 0 rfl) ?_
      refine lv_aload_n hx hb dX5_build_34 rfl (lv_at hl 0 rfl) ?_
      refine goI (n := 7) (ws' := [((md 0), mdC md (z_2 0)), ((md 1), arC cI 96 (z_2 1)), ((md 2), arC cI 96 (z_2 2)), ((md 3), arC cI 96 (z_2 3)), ((md 4), arC cI 384 (z_2 4)), ((md 5), arC cI 96 (z_2 5)), ((md 6), arC cI 60 (z_2 6))]) (rs := []) (va_runV (As := []) (rest := [.ref (md 0)]) ⟨hx, hb, hml, hown, hts⟩ (c_X5_depth l D cI cC cS md z_2  _) (cwV 0 hts gX5_build_X5_depth rfl rfl rfl (by decide +kernel) ⟨Nat.le_of_ble_eq_true rfl, Nat.le_of_ble_eq_true rfl⟩) (preV hK hP hD [0, 1, 2, 3, 4, 5, 6] (by decide) rfl 0 5 rfl rfl) rfl rfl hl.1 rfl (lv_room (Nat.le_of_ble_eq_true rfl)) dX5_build_35 ⟨Nat.zero_le _, Nat.zero_le _⟩) hP hD hS hA [0, 1, 2, 3, 4, 5, 6] [] rfl rfl rfl rfl rfl (by decide +kernel) rfl (fun H locs hP hD hS => ?_)
      refine goI (n := 7) (ws' := [((md 0), mdC md ((p_X5_acted z_2 (r_X5_depth z_2)) 0)), ((md 1), arC cI 96 ((p_X5_acted z_2 (r_X5_depth z_2)) 1)), ((md 2), arC cI 96 ((p_X5_acted z_2 (r_X5_depth z_2)) 2)), ((md 3), arC cI 96 ((p_X5_acted z_2 (r_X5_depth z_2)) 3)), ((md 4), arC cI 384 ((p_X5_acted z_2 (r_X5_depth z_2)) 4)), ((md 5), arC cI 96 ((p_X5_acted z_2 (r_X5_depth z_2)) 5)), ((md 6), arC cI 60 ((p_X5_acted z_2 (r_X5_depth z_2)) 6))]) (rs := []) (va_runV (As := [.int (r_X5_depth z_2)]) (rest := []) ⟨hx, hb, hml, hown, hts⟩ (c_X5_acted l D cI cC cS md z_2 (r_X5_depth z_2) (by subst_vars; exact hHL) _) (cwV 1 hts gX5_build_X5_acted rfl rfl rfl (by decide +kernel) ⟨Nat.le_of_ble_eq_true rfl, Nat.le_of_ble_eq_true rfl⟩) (preV hK hP hD [0, 1, 2, 3, 4, 5, 6] (by decide) rfl 0 5 rfl rfl) rfl rfl hl.1 rfl (lv_room (Nat.le_of_ble_eq_true rfl)) dX5_build_38 ⟨Nat.zero_le _, Nat.zero_le _⟩) hP hD hS hA [0, 1, 2, 3, 4, 5, 6] [] rfl rfl rfl rfl rfl (by decide +kernel) (fstE (as := [(md 0), (md 1), (md 2), (md 3), (md 4), (md 5), (md 6)]) rfl rfl) (fun H locs hP hD hS => ?_)
      obtain ⟨z_3, hz_3⟩ : ∃ z : CS, z = (p_X5_acted z_2 (r_X5_depth z_2)) := ⟨_, rfl⟩
      rw [← hz_3] at hP hD
      have hr : (r_X5_build M a1 a2) = (r_X5_acted z_2 (r_X5_depth z_2)) := by subst hz_3; exact hr
      have hp : (p_X5_build M a1 a2) = z_3 := by subst hz_3; exact hp
      exact endI (v := (r_X5_acted z_2 (r_X5_depth z_2))) hb hx hsg hr.symm (by rw [hp]; exact hP) (by rw [hp]; exact hD) hS dX5_build_41 hlocks
    refine lv_if_eq (tgt := 29) hx hb dX5_build_22 (by decide) (fun c22 => ?_) (fun c22 => ?_)
    · refine lv_iconst (v := (0 : Int32)) hx hb dX5_build_29 (by decide) ?_
      exact J_30 (0 : Int32) _ _ (if_pos c22).symm hP hD hS ls (lv_sub hl [0] rfl)
    · refine lv_iconst (v := (1 : Int32)) hx hb dX5_build_25 (by decide) ?_
      refine lv_goto (tgt := 30) hx hb dX5_build_26 (by decide) ?_
      exact J_30 (1 : Int32) _ _ (if_neg c22).symm hP hD hS ls (lv_sub hl [0] rfl)
  · have hr := hr.trans (if_pos c9)
    have hp := hp.trans (if_pos c9)
    refine lv_bipush (v := (-2 : Int32)) hx hb dX5_build_12 (by decide) ?_
    exact endI (v := (-2 : Int32)) hb hx hsg hr.symm (by rw [hp]; exact hP) (by rw [hp]; exact hD) hS dX5_build_14 hlocks
def r_X5_restore (M : CS) : Int32 := (if ((M 0) 6) = (0 : Int32) then (-5 : Int32) else ((fun (z_1 : CS) => ((fun (z_2 : F1) => ((fun (z_3 : CS) => ((fun (z_4 : CS) => (r_X5_acted z_3 (z_2 2))) (p_X5_acted z_3 (z_2 2)))) (va_up z_1 1 z_2))) (p_X5_copy (z_1 5) (z_1 1)))) (p_X5_remember M)))
def p_X5_restore (M : CS) : CS := (if ((M 0) 6) = (0 : Int32) then M else ((fun (z_1 : CS) => ((fun (z_2 : F1) => ((fun (z_3 : CS) => ((fun (z_4 : CS) => z_4) (p_X5_acted z_3 (z_2 2)))) (va_up z_1 1 z_2))) (p_X5_copy (z_1 5) (z_1 1)))) (p_X5_remember M)))
abbrev rm_X5_restore : Room := { frames := 2, cells := 0, slots := 0, locals := 42 }
set_option maxHeartbeats 4000000 in
set_option maxRecDepth 100000 in
theorem c_X5_restore (l : Launch) (D : va_G) (cI cC cS : ClassId) (md : Nat → Nat) (M : CS) (hHL : HL M) : CI l D cI cC cS yX5_restore wsX5_restore rm_X5_restore [.ref (md 0)] (mdW cI md M) (mdW cI md (p_X5_restore M)) (r_X5_restore M) := by
  intro sz
  refine startC (cc := cX5_restore) (maxL := 1) (ret := (some .int)) (by decide) rfl (Nat.le_of_ble_eq_true rfl) ?_
  intro p e s m args below meth c hx hb hml hsg hts hown hlocks hin hK A hA hS hP hD ls hl
  have hown : s.vm.findClass RX5 = some m.cls := hown
  have hl : lv_has ls 1 [(0, .ref (md 0))] := hl
  have hP : va_P D vwCl [((md 0), mdC md (M 0)), ((md 1), arC cI 96 (M 1)), ((md 2), arC cI 96 (M 2)), ((md 3), arC cI 96 (M 3)), ((md 4), arC cI 384 (M 4)), ((md 5), arC cI 96 (M 5)), ((md 6), arC cI 60 (M 6))] s.heap := hP
  have hD : va_D A [((md 0), mdC md (M 0)), ((md 1), arC cI 96 (M 1)), ((md 2), arC cI 96 (M 2)), ((md 3), arC cI 96 (M 3)), ((md 4), arC cI 384 (M 4)), ((md 5), arC cI 96 (M 5)), ((md 6), arC cI 60 (M 6))] := hD
  have inX5 : ∀ w ∈ wsX50, w ∈ wsX5_restore := fun _ h => List.mem_cons_of_mem _ (List.mem_append_right _ h)
  have hr : (r_X5_restore M) = (if ((M 0) 6) = (0 : Int32) then (-5 : Int32) else ((fun (z_1 : CS) => ((fun (z_2 : F1) => ((fun (z_3 : CS) => ((fun (z_4 : CS) => (r_X5_acted z_3 (z_2 2))) (p_X5_acted z_3 (z_2 2)))) (va_up z_1 1 z_2))) (p_X5_copy (z_1 5) (z_1 1)))) (p_X5_remember M))) := rfl
  have hp : (p_X5_restore M) = (if ((M 0) 6) = (0 : Int32) then M else ((fun (z_1 : CS) => ((fun (z_2 : F1) => ((fun (z_3 : CS) => ((fun (z_4 : CS) => z_4) (p_X5_acted z_3 (z_2 2)))) (va_up z_1 1 z_2))) (p_X5_copy (z_1 5) (z_1 1)))) (p_X5_remember M))) := rfl
  refine lv_aload_n hx hb dX5_restore_0 rfl (lv_at hl 0 rfl) ?_
  refine va_get (D := D) (ci := 5) (v := .int ((M 0) 6)) (C := RX5) (T := TX5) (N := 14) hx hb hts inX5 hown hK.1 hP 0 rfl rfl 6 (by decide) (hts (.fieldLink RX5 171 "GrayPointersModel" "isTaken" "I") (List.mem_of_getElem? (i := 1) rfl)) (fun _ h9 => h9) rfl dX5_restore_1 ?_
  refine lv_if_ne (tgt := 10) hx hb dX5_restore_4 (by decide) (fun c4 => ?_) (fun c4 => ?_)
  · have hr := hr.trans (if_neg c4)
    have hp := hp.trans (if_neg c4)
    refine lv_aload_n hx hb dX5_restore_10 rfl (lv_at hl 0 rfl) ?_
    refine goV (n := 7) (ws' := [((md 0), mdC md ((p_X5_remember M) 0)), ((md 1), arC cI 96 ((p_X5_remember M) 1)), ((md 2), arC cI 96 ((p_X5_remember M) 2)), ((md 3), arC cI 96 ((p_X5_remember M) 3)), ((md 4), arC cI 384 ((p_X5_remember M) 4)), ((md 5), arC cI 96 ((p_X5_remember M) 5)), ((md 6), arC cI 60 ((p_X5_remember M) 6))]) (rs := []) (va_runV (As := []) (rest := []) ⟨hx, hb, hml, hown, hts⟩ (c_X5_remember l D cI cC cS md M  _) (cwV 0 hts gX5_restore_X5_remember rfl rfl rfl (by decide +kernel) ⟨Nat.le_of_ble_eq_true rfl, Nat.le_of_ble_eq_true rfl⟩) (preV hK hP hD [0, 1, 2, 3, 4, 5, 6] (by decide) rfl 0 5 rfl rfl) rfl rfl hl.1 rfl (lv_room (Nat.le_of_ble_eq_true rfl)) dX5_restore_11 ⟨Nat.zero_le _, Nat.zero_le _⟩) hP hD hS hA [0, 1, 2, 3, 4, 5, 6] [] rfl rfl rfl rfl rfl (by decide +kernel) (fstE (as := [(md 0), (md 1), (md 2), (md 3), (md 4), (md 5), (md 6)]) rfl rfl) (fun H locs hP hD hS => ?_)
    obtain ⟨z_1, hz_1⟩ : ∃ z : CS, z = (p_X5_remember M) := ⟨_, rfl⟩
    rw [← hz_1] at hP hD
    have hr : (r_X5_restore M) = ((fun (z_2 : F1) => ((fun (z_3 : CS) => ((fun (z_4 : CS) => (r_X5_acted z_3 (z_2 2))) (p_X5_acted z_3 (z_2 2)))) (va_up z_1 1 z_2))) (p_X5_copy (z_1 5) (z_1 1))) := by subst hz_1; exact hr
    have hp : (p_X5_restore M) = ((fun (z_2 : F1) => ((fun (z_3 : CS) => ((fun (z_4 : CS) => z_4) (p_X5_acted z_3 (z_2 2)))) (va_up z_1 1 z_2))) (p_X5_copy (z_1 5) (z_1 1))) := by subst hz_1; exact hp
    refine lv_aload_n hx hb dX5_restore_14 rfl (lv_at hl 0 rfl) ?_
    refine va_get (D := D) (ci := 5) (v := .ref (md 5)) (C := RX5) (T := TX5) (N := 14) hx hb hts inX5 hown hK.1 hP 0 rfl rfl 5 (by decide) (hts (.fieldLink RX5 22 "GrayPointersModel" "snapshot" "[I") (List.mem_of_getElem? (i := 2) rfl)) (fun _ h9 => h9) rfl dX5_restore_15 ?_
    refine lv_aload_n hx hb dX5_restore_18 rfl (lv_at hl 0 rfl) ?_
    refine va_get (D := D) (ci := 5) (v := .ref (md 1)) (C := RX5) (T := TX5) (N := 14) hx hb hts inX5 hown hK.1 hP 0 rfl rfl 0 (by decide) (hts (.fieldLink RX5 7 "GrayPointersModel" "all" "[I") (List.mem_of_getElem? (i := 3) rfl)) (fun _ h9 => h9) rfl dX5_restore_19 ?_
    refine goV (n := 7) (ws' := [((md 0), mdC md (z_1 0)), ((md 1), arC cI 96 (p_X5_copy (z_1 5) (z_1 1))), ((md 2), arC cI 96 (z_1 2)), ((md 3), arC cI 96 (z_1 3)), ((md 4), arC cI 384 (z_1 4)), ((md 5), arC cI 96 (z_1 5)), ((md 6), arC cI 60 (z_1 6))]) (rs := [((md 0), mdC md (z_1 0)), ((md 2), arC cI 96 (z_1 2)), ((md 3), arC cI 96 (z_1 3)), ((md 4), arC cI 384 (z_1 4)), ((md 6), arC cI 60 (z_1 6))]) (va_runS (As := [.ref (md 5), .ref (md 1)]) (rest := []) ⟨hx, hb, hml, hown, hts⟩ (c_X5_copy l D cI cC cS (md 5) (md 1) (z_1 5) (z_1 1)  _) (va_cwS 2 hts gX5_restore_X5_copy rfl rfl rfl (by decide +kernel) ⟨Nat.le_of_ble_eq_true rfl, Nat.le_of_ble_eq_true rfl⟩) (preS hK hP hD [5, 1] (by decide) rfl) rfl rfl hl.1 rfl (lv_room (Nat.le_of_ble_eq_true rfl)) dX5_restore_22 ⟨Nat.zero_le _, Nat.zero_le _⟩) hP hD hS hA [5, 1] [0, 2, 3, 4, 6] rfl rfl rfl rfl rfl (by decide +kernel) (fstE (as := [(md 5), (md 1)]) rfl rfl) (fun H locs hP hD hS => ?_)
    obtain ⟨z_2, hz_2⟩ : ∃ z : F1, z = (p_X5_copy (z_1 5) (z_1 1)) := ⟨_, rfl⟩
    rw [← hz_2] at hP hD
    have hr : (r_X5_restore M) = ((fun (z_3 : CS) => ((fun (z_4 : CS) => (r_X5_acted z_3 (z_2 2))) (p_X5_acted z_3 (z_2 2)))) (va_up z_1 1 z_2)) := by subst hz_2; exact hr
    have hp : (p_X5_restore M) = ((fun (z_3 : CS) => ((fun (z_4 : CS) => z_4) (p_X5_acted z_3 (z_2 2)))) (va_up z_1 1 z_2)) := by subst hz_2; exact hp
    refine lv_aload_n hx hb dX5_restore_25 rfl (lv_at hl 0 rfl) ?_
    refine lv_aload_n hx hb dX5_restore_26 rfl (lv_at hl 0 rfl) ?_
    refine va_get (D := D) (ci := 5) (v := .ref (md 1)) (C := RX5) (T := TX5) (N := 14) hx hb hts inX5 hown hK.1 hP 0 rfl rfl 0 (by decide) (hts (.fieldLink RX5 7 "GrayPointersModel" "all" "[I") (List.mem_of_getElem? (i := 3) rfl)) (fun _ h9 => h9) rfl dX5_restore_27 ?_
    refine lv_iconst (v := (2 : Int32)) hx hb dX5_restore_30 (by decide) ?_
    refine va_iald hx hb hK.1 hP 1 0 rfl rfl (i := (2 : Int32)) (vp_in_iff.mpr (by decide)) dX5_restore_31 ?_
    refine W.eq (g2 := F0 m 32 ls [.int (z_2 2), .ref (md 0)]) rfl ?_
    obtain ⟨z_3, hz_3⟩ : ∃ z : CS, z = (va_up z_1 1 z_2) := ⟨_, rfl⟩
    have e0 : (z_3 0) = (z_1 0) := (congrFun hz_3 0).trans (va_up_n (by decide))
    have e1 : (z_3 1) = z_2 := (congrFun hz_3 1).trans va_up_s
    have e2 : (z_3 2) = (z_1 2) := (congrFun hz_3 2).trans (va_up_n (by decide))
    have e3 : (z_3 3) = (z_1 3) := (congrFun hz_3 3).trans (va_up_n (by decide))
    have e4 : (z_3 4) = (z_1 4) := (congrFun hz_3 4).trans (va_up_n (by decide))
    have e5 : (z_3 5) = (z_1 5) := (congrFun hz_3 5).trans (va_up_n (by decide))
    have e6 : (z_3 6) = (z_1 6) := (congrFun hz_3 6).trans (va_up_n (by decide))
    have hP : va_P D vwCl [((md 0), mdC md (z_3 0)), ((md 1), arC cI 96 (z_3 1)), ((md 2), arC cI 96 (z_3 2)), ((md 3), arC cI 96 (z_3 3)), ((md 4), arC cI 384 (z_3 4)), ((md 5), arC cI 96 (z_3 5)), ((md 6), arC cI 60 (z_3 6))] H := by rw [e0, e1, e2, e3, e4, e5, e6]; exact hP
    have hD : va_D A [((md 0), mdC md (z_3 0)), ((md 1), arC cI 96 (z_3 1)), ((md 2), arC cI 96 (z_3 2)), ((md 3), arC cI 96 (z_3 3)), ((md 4), arC cI 384 (z_3 4)), ((md 5), arC cI 96 (z_3 5)), ((md 6), arC cI 60 (z_3 6))] := by rw [e0, e1, e2, e3, e4, e5, e6]; exact hD
    clear e0 e1 e2 e3 e4 e5 e6
    have hr : (r_X5_restore M) = ((fun (z_4 : CS) => (r_X5_acted z_3 (z_2 2))) (p_X5_acted z_3 (z_2 2))) := by subst hz_3; exact hr
    have hp : (p_X5_restore M) = ((fun (z_4 : CS) => z_4) (p_X5_acted z_3 (z_2 2))) := by subst hz_3; exact hp
    refine goI (n := 7) (ws' := [((md 0), mdC md ((p_X5_acted z_3 (z_2 2)) 0)), ((md 1), arC cI 96 ((p_X5_acted z_3 (z_2 2)) 1)), ((md 2), arC cI 96 ((p_X5_acted z_3 (z_2 2)) 2)), ((md 3), arC cI 96 ((p_X5_acted z_3 (z_2 2)) 3)), ((md 4), arC cI 384 ((p_X5_acted z_3 (z_2 2)) 4)), ((md 5), arC cI 96 ((p_X5_acted z_3 (z_2 2)) 5)), ((md 6), arC cI 60 ((p_X5_acted z_3 (z_2 2)) 6))]) (rs := []) (va_runV (As := [.int (z_2 2)]) (rest := []) ⟨hx, hb, hml, hown, hts⟩ (c_X5_acted l D cI cC cS md z_3 (z_2 2) (by subst_vars; exact hHL) _) (cwV 1 hts gX5_restore_X5_acted rfl rfl rfl (by decide +kernel) ⟨Nat.le_of_ble_eq_true rfl, Nat.le_of_ble_eq_true rfl⟩) (preV hK hP hD [0, 1, 2, 3, 4, 5, 6] (by decide) rfl 0 5 rfl rfl) rfl rfl hl.1 rfl (lv_room (Nat.le_of_ble_eq_true rfl)) dX5_restore_32 ⟨Nat.zero_le _, Nat.zero_le _⟩) hP hD hS hA [0, 1, 2, 3, 4, 5, 6] [] rfl rfl rfl rfl rfl (by decide +kernel) (fstE (as := [(md 0), (md 1), (md 2), (md 3), (md 4), (md 5), (md 6)]) rfl rfl) (fun H locs hP hD hS => ?_)
    obtain ⟨z_4, hz_4⟩ : ∃ z : CS, z = (p_X5_acted z_3 (z_2 2)) := ⟨_, rfl⟩
    rw [← hz_4] at hP hD
    have hr : (r_X5_restore M) = (r_X5_acted z_3 (z_2 2)) := by subst hz_4; exact hr
    have hp : (p_X5_restore M) = z_4 := by subst hz_4; exact hp
    exact endI (v := (r_X5_acted z_3 (z_2 2))) hb hx hsg hr.symm (by rw [hp]; exact hP) (by rw [hp]; exact hD) hS dX5_restore_35 hlocks
  · have hr := hr.trans (if_pos c4)
    have hp := hp.trans (if_pos c4)
    refine lv_bipush (v := (-5 : Int32)) hx hb dX5_restore_7 (by decide) ?_
    exact endI (v := (-5 : Int32)) hb hx hsg hr.symm (by rw [hp]; exact hP) (by rw [hp]; exact hD) hS dX5_restore_9 hlocks
