def r_X1_ticksAt (w : F1) (a1 : Int32) : Int32 := (if (nb (w 2)) = (0 : Int32) then (0 : Int32) else (if (r_X4_remainder (a1 + (w 1)) (w 0)) = (0 : Int32) then (1 : Int32) else (0 : Int32)))
abbrev rm_X1_ticksAt : Room := { frames := 1, cells := 0, slots := 0, locals := 21 }
set_option maxHeartbeats 4000000 in
set_option maxRecDepth 100000 in
theorem c_X1_ticksAt (l : Launch) (D : va_G) (cI cC cS : ClassId) (h : Nat) (w : F1) (a1 : Int32)  : CI l D cI cC cS yX1_ticksAt wsX1_ticksAt rm_X1_ticksAt [.ref h, .int a1] ([(h, sdC w)]) ([(h, sdC w)]) (r_X1_ticksAt w a1) := by
  intro sz
  refine startC (cc := cX1_ticksAt) (maxL := 2) (ret := (some .boolean)) (by decide) rfl (Nat.le_of_ble_eq_true rfl) ?_
  intro p e s m args below meth c hx hb hml hsg hts hown hlocks hin hK A hA hS hP hD ls hl
  have hown : s.vm.findClass RX1 = some m.cls := hown
  have hl : lv_has ls 2 [(0, .ref h), (1, .int a1)] := hl
  have hP : va_P D vwCl [(h, sdC w)] s.heap := hP
  have hD : va_D A [(h, sdC w)] := hD
  have inX1 : ∀ w ∈ wsX10, w ∈ wsX1_ticksAt := fun _ h => List.mem_cons_of_mem _ (List.mem_append_right _ h)
  have hr : (r_X1_ticksAt w a1) = (if (nb (w 2)) = (0 : Int32) then (0 : Int32) else (if (r_X4_remainder (a1 + (w 1)) (w 0)) = (0 : Int32) then (1 : Int32) else (0 : Int32))) := rfl
  refine lv_aload_n hx hb dX1_ticksAt_0 rfl (lv_at hl 0 rfl) ?_
  refine va_get (D := D) (ci := 1) (v := .int (nb (w 2))) (C := RX1) (T := TX1) (N := 8) hx hb hts inX1 hown hK.1 hP 0 rfl rfl 2 (by decide) (hts (.fieldLink RX1 9 "GrayPointers$Side" "going" "Z") (List.mem_of_getElem? (i := 1) rfl)) (fun _ h9 => h9) rfl dX1_ticksAt_1 ?_
  refine lv_if_eq (tgt := 27) hx hb dX1_ticksAt_4 (by decide) (fun c4 => ?_) (fun c4 => ?_)
  · have hr := hr.trans (if_pos c4)
    refine lv_iconst (v := (0 : Int32)) hx hb dX1_ticksAt_27 (by decide) ?_
    exact endZ (v := (0 : Int32)) hb hx hsg rfl hr.symm hP hD hS dX1_ticksAt_28 hlocks
  · have hr := hr.trans (if_neg c4)
    refine lv_iload_n hx hb dX1_ticksAt_7 rfl (lv_at hl 1 rfl) ?_
    refine lv_aload_n hx hb dX1_ticksAt_8 rfl (lv_at hl 0 rfl) ?_
    refine va_get (D := D) (ci := 1) (v := .int (w 1)) (C := RX1) (T := TX1) (N := 8) hx hb hts inX1 hown hK.1 hP 0 rfl rfl 1 (by decide) (hts (.fieldLink RX1 19 "GrayPointers$Side" "phase" "I") (List.mem_of_getElem? (i := 2) rfl)) (fun _ h9 => h9) rfl dX1_ticksAt_9 ?_
    refine lv_iadd hx hb dX1_ticksAt_12 ?_
    refine lv_aload_n hx hb dX1_ticksAt_13 rfl (lv_at hl 0 rfl) ?_
    refine va_get (D := D) (ci := 1) (v := .int (w 0)) (C := RX1) (T := TX1) (N := 8) hx hb hts inX1 hown hK.1 hP 0 rfl rfl 0 (by decide) (hts (.fieldLink RX1 15 "GrayPointers$Side" "period" "I") (List.mem_of_getElem? (i := 3) rfl)) (fun _ h9 => h9) rfl dX1_ticksAt_14 ?_
    refine goI (n := 1) (ws' := [(h, sdC w)]) (rs := [(h, sdC w)]) (va_runSN (As := [.int (a1 + (w 1)), .int (w 0)]) (rest := []) ⟨hx, hb, hml, hown, hts⟩ (c_X4_remainder l D cI cC cS (a1 + (w 1)) (w 0)  _) ⟨va_cnB 2 hts gX1_ticksAt_X4_remainder_n22 rfl rfl rfl (hK.nw 33 rfl) (hts (.initialized RX4) (List.mem_of_getElem? (i := 5) rfl)) (by decide +kernel) ⟨Nat.le_of_ble_eq_true rfl, Nat.le_of_ble_eq_true rfl⟩, (hts (.static yX4_remainder) (List.mem_of_getElem? (i := 4) rfl)), trivial⟩ (preS hK hP hD [] (by decide) rfl) rfl rfl hl.1 rfl (lv_room (Nat.le_of_ble_eq_true rfl)) dX1_ticksAt_17 ⟨Nat.zero_le _, Nat.zero_le _⟩) hP hD hS hA [] [0] rfl rfl rfl rfl rfl (by decide +kernel) rfl (fun H locs hP hD hS => ?_)
    refine lv_if_ne (tgt := 27) hx hb dX1_ticksAt_20 (by decide) (fun c20 => ?_) (fun c20 => ?_)
    · have hr := hr.trans (if_neg c20)
      refine lv_iconst (v := (0 : Int32)) hx hb dX1_ticksAt_27 (by decide) ?_
      exact endZ (v := (0 : Int32)) hb hx hsg rfl hr.symm hP hD hS dX1_ticksAt_28 hlocks
    · have hr := hr.trans (if_pos c20)
      refine lv_iconst (v := (1 : Int32)) hx hb dX1_ticksAt_23 (by decide) ?_
      refine lv_goto (tgt := 28) hx hb dX1_ticksAt_24 (by decide) ?_
      exact endZ (v := (1 : Int32)) hb hx hsg rfl hr.symm hP hD hS dX1_ticksAt_28 hlocks
def r_X1_timesToTick (w : F1) (a1 : Int32) : Int32 := (if (nb (w 2)) = (0 : Int32) then (-5 : Int32) else ((w 0) - (r_X4_remainder (a1 + (w 1)) (w 0))))
abbrev rm_X1_timesToTick : Room := { frames := 1, cells := 0, slots := 0, locals := 21 }
set_option maxHeartbeats 4000000 in
set_option maxRecDepth 100000 in
theorem c_X1_timesToTick (l : Launch) (D : va_G) (cI cC cS : ClassId) (h : Nat) (w : F1) (a1 : Int32)  : CI l D cI cC cS yX1_timesToTick wsX1_timesToTick rm_X1_timesToTick [.ref h, .int a1] ([(h, sdC w)]) ([(h, sdC w)]) (r_X1_timesToTick w a1) := by
  intro sz
  refine startC (cc := cX1_timesToTick) (maxL := 2) (ret := (some .int)) (by decide) rfl (Nat.le_of_ble_eq_true rfl) ?_
  intro p e s m args below meth c hx hb hml hsg hts hown hlocks hin hK A hA hS hP hD ls hl
  have hown : s.vm.findClass RX1 = some m.cls := hown
  have hl : lv_has ls 2 [(0, .ref h), (1, .int a1)] := hl
  have hP : va_P D vwCl [(h, sdC w)] s.heap := hP
  have hD : va_D A [(h, sdC w)] := hD
  have inX1 : ∀ w ∈ wsX10, w ∈ wsX1_timesToTick := fun _ h => List.mem_cons_of_mem _ (List.mem_append_right _ h)
  have hr : (r_X1_timesToTick w a1) = (if (nb (w 2)) = (0 : Int32) then (-5 : Int32) else ((w 0) - (r_X4_remainder (a1 + (w 1)) (w 0)))) := rfl
  refine lv_aload_n hx hb dX1_timesToTick_0 rfl (lv_at hl 0 rfl) ?_
  refine va_get (D := D) (ci := 1) (v := .int (nb (w 2))) (C := RX1) (T := TX1) (N := 8) hx hb hts inX1 hown hK.1 hP 0 rfl rfl 2 (by decide) (hts (.fieldLink RX1 9 "GrayPointers$Side" "going" "Z") (List.mem_of_getElem? (i := 1) rfl)) (fun _ h9 => h9) rfl dX1_timesToTick_1 ?_
  refine lv_if_eq (tgt := 28) hx hb dX1_timesToTick_4 (by decide) (fun c4 => ?_) (fun c4 => ?_)
  · have hr := hr.trans (if_pos c4)
    refine lv_bipush (v := (-5 : Int32)) hx hb dX1_timesToTick_28 (by decide) ?_
    exact endI (v := (-5 : Int32)) hb hx hsg hr.symm hP hD hS dX1_timesToTick_30 hlocks
  · have hr := hr.trans (if_neg c4)
    refine lv_aload_n hx hb dX1_timesToTick_7 rfl (lv_at hl 0 rfl) ?_
    refine va_get (D := D) (ci := 1) (v := .int (w 0)) (C := RX1) (T := TX1) (N := 8) hx hb hts inX1 hown hK.1 hP 0 rfl rfl 0 (by decide) (hts (.fieldLink RX1 15 "GrayPointers$Side" "period" "I") (List.mem_of_getElem? (i := 2) rfl)) (fun _ h9 => h9) rfl dX1_timesToTick_8 ?_
    refine lv_iload_n hx hb dX1_timesToTick_11 rfl (lv_at hl 1 rfl) ?_
    refine lv_aload_n hx hb dX1_timesToTick_12 rfl (lv_at hl 0 rfl) ?_
    refine va_get (D := D) (ci := 1) (v := .int (w 1)) (C := RX1) (T := TX1) (N := 8) hx hb hts inX1 hown hK.1 hP 0 rfl rfl 1 (by decide) (hts (.fieldLink RX1 19 "GrayPointers$Side" "phase" "I") (List.mem_of_getElem? (i := 3) rfl)) (fun _ h9 => h9) rfl dX1_timesToTick_13 ?_
    refine lv_iadd hx hb dX1_timesToTick_16 ?_
    refine lv_aload_n hx hb dX1_timesToTick_17 rfl (lv_at hl 0 rfl) ?_
    refine va_get (D := D) (ci := 1) (v := .int (w 0)) (C := RX1) (T := TX1) (N := 8) hx hb hts inX1 hown hK.1 hP 0 rfl rfl 0 (by decide) (hts (.fieldLink RX1 15 "GrayPointers$Side" "period" "I") (List.mem_of_getElem? (i := 2) rfl)) (fun _ h9 => h9) rfl dX1_timesToTick_18 ?_
    refine goI (n := 1) (ws' := [(h, sdC w)]) (rs := [(h, sdC w)]) (va_runSN (As := [.int (a1 + (w 1)), .int (w 0)]) (rest := [.int (w 0)]) ⟨hx, hb, hml, hown, hts⟩ (c_X4_remainder l D cI cC cS (a1 + (w 1)) (w 0)  _) ⟨va_cnB 2 hts gX1_timesToTick_X4_remainder_n22 rfl rfl rfl (hK.nw 33 rfl) (hts (.initialized RX4) (List.mem_of_getElem? (i := 5) rfl)) (by decide +kernel) ⟨Nat.le_of_ble_eq_true rfl, Nat.le_of_ble_eq_true rfl⟩, (hts (.static yX4_remainder) (List.mem_of_getElem? (i := 4) rfl)), trivial⟩ (preS hK hP hD [] (by decide) rfl) rfl rfl hl.1 rfl (lv_room (Nat.le_of_ble_eq_true rfl)) dX1_timesToTick_21 ⟨Nat.zero_le _, Nat.zero_le _⟩) hP hD hS hA [] [0] rfl rfl rfl rfl rfl (by decide +kernel) rfl (fun H locs hP hD hS => ?_)
    refine lv_isub hx hb dX1_timesToTick_24 ?_
    refine lv_goto (tgt := 30) hx hb dX1_timesToTick_25 (by decide) ?_
    exact endI (v := ((w 0) - (r_X4_remainder (a1 + (w 1)) (w 0)))) hb hx hsg hr.symm hP hD hS dX1_timesToTick_30 hlocks
def p_X1_tick (w : F1) (a1 : Int32) (a2 : Int32) : F1 := ((fun (w28 : F1) => (upd (upd w28 5 (w28 4)) 4 (a1 ^^^ ((a1 ^^^ a2) &&& (170 : Int32))))) (if (a1 ^^^ a2) = (0 : Int32) then (upd w 6 ((w 6) + (1 : Int32))) else (upd (upd w 6 ((w 6) + (1 : Int32))) 7 ((w 7) + (1 : Int32)))))
abbrev rm_X1_tick : Room := { frames := 0, cells := 0, slots := 0, locals := 0 }
set_option maxHeartbeats 4000000 in
set_option maxRecDepth 100000 in
theorem c_X1_tick (l : Launch) (D : va_G) (cI cC cS : ClassId) (h : Nat) (w : F1) (a1 : Int32) (a2 : Int32)  : CV l D cI cC cS yX1_tick wsX1_tick rm_X1_tick [.ref h, .int a1, .int a2] ([(h, sdC w)]) ([(h, sdC (p_X1_tick w a1 a2))])  := by
  intro sz
  refine startC (cc := cX1_tick) (maxL := 4) (ret := none) (by decide) rfl (Nat.le_of_ble_eq_true rfl) ?_
  intro p e s m args below meth c hx hb hml hsg hts hown hlocks hin hK A hA hS hP hD ls hl
  have hown : s.vm.findClass RX1 = some m.cls := hown
  have hl : lv_has ls 4 [(0, .ref h), (1, .int a1), (2, .int a2)] := hl
  have hP : va_P D vwCl [(h, sdC w)] s.heap := hP
  have hD : va_D A [(h, sdC w)] := hD
  have inX1 : ∀ w ∈ wsX10, w ∈ wsX1_tick := fun _ h => List.mem_cons_of_mem _ (List.mem_append_right _ h)
  have hp : (p_X1_tick w a1 a2) = ((fun (w28 : F1) => (upd (upd w28 5 (w28 4)) 4 (a1 ^^^ ((a1 ^^^ a2) &&& (170 : Int32))))) (if (a1 ^^^ a2) = (0 : Int32) then (upd w 6 ((w 6) + (1 : Int32))) else (upd (upd w 6 ((w 6) + (1 : Int32))) 7 ((w 7) + (1 : Int32))))) := rfl
  refine lv_iload_n hx hb dX1_tick_0 rfl (lv_at hl 1 rfl) ?_
  refine lv_iload_n hx hb dX1_tick_1 rfl (lv_at hl 2 rfl) ?_
  refine lv_ixor hx hb dX1_tick_2 ?_
  refine lv_istore_n (lv' := [(3, .int (a1 ^^^ a2)), (0, .ref h), (1, .int a1), (2, .int a2)]) hx hb dX1_tick_3 rfl hl (by decide) rfl (fun ls hl => ?_)
  refine lv_aload_n hx hb dX1_tick_4 rfl (lv_at hl 1 rfl) ?_
  refine lv_dup hx hb dX1_tick_5 rfl ?_
  refine va_get (D := D) (ci := 1) (v := .int (w 6)) (C := RX1) (T := TX1) (N := 8) hx hb hts inX1 hown hK.1 hP 0 rfl rfl 6 (by decide) (hts (.fieldLink RX1 26 "GrayPointers$Side" "ticks" "I") (List.mem_of_getElem? (i := 1) rfl)) (fun _ h9 => h9) rfl dX1_tick_6 ?_
  refine lv_iconst (v := (1 : Int32)) hx hb dX1_tick_9 (by decide) ?_
  refine lv_iadd hx hb dX1_tick_10 ?_
  refine va_put (D := D) (ci := 1) (v := .int ((w 6) + (1 : Int32))) (ty := .int) (C := RX1) (T := TX1) (N := 8) hx hb hts inX1 tyX1 tyX1_ok nmX1 hown hK.1 hP hD hS 0 rfl rfl 6 (by decide) (hts (.fieldLink RX1 26 "GrayPointers$Side" "ticks" "I") (List.mem_of_getElem? (i := 1) rfl)) (fun _ h9 => h9) rfl (by decide +kernel) rfl rfl (Nat.le_of_ble_eq_true rfl) dX1_tick_11 (fun H locs hP hD hS => ?_)
  have hP : va_P D vwCl [(h, sdC (upd w 6 ((w 6) + (1 : Int32))))] H := hP
  have hD : va_D A [(h, sdC (upd w 6 ((w 6) + (1 : Int32))))] := hD
  refine lv_iload_n hx hb dX1_tick_14 rfl (lv_at hl 0 rfl) ?_
  have J_28 : ∀ (w28 : F1) (H : Heap) (locs : List Loc), w28 = (if (a1 ^^^ a2) = (0 : Int32) then (upd w 6 ((w 6) + (1 : Int32))) else (upd (upd w 6 ((w 6) + (1 : Int32))) 7 ((w 7) + (1 : Int32)))) → va_P D vwCl [(h, sdC w28)] H → va_D A [(h, sdC w28)] → va_S A s.heap H locs → ∀ ls, lv_has ls 4 [(0, .ref h), (1, .int a1), (3, .int (a1 ^^^ a2))] → W p l e rm_X1_tick s m args below meth c H locs 0 0 (MQ below (QV D ([(h, sdC (p_X1_tick w a1 a2))]) A) args s 0 0 A) (F0 m 28 ls []) := by
    intro w28 H locs ew28 hP hD hS ls hl
    have hp : (p_X1_tick w a1 a2) = (upd (upd w28 5 (w28 4)) 4 (a1 ^^^ ((a1 ^^^ a2) &&& (170 : Int32)))) := by subst ew28; exact hp
    refine lv_aload_n hx hb dX1_tick_28 rfl (lv_at hl 0 rfl) ?_
    refine lv_aload_n hx hb dX1_tick_29 rfl (lv_at hl 0 rfl) ?_
    refine va_get (D := D) (ci := 1) (v := .int (w28 4)) (C := RX1) (T := TX1) (N := 8) hx hb hts inX1 hown hK.1 hP 0 rfl rfl 4 (by decide) (hts (.fieldLink RX1 32 "GrayPointers$Side" "first" "I") (List.mem_of_getElem? (i := 3) rfl)) (fun _ h9 => h9) rfl dX1_tick_30 ?_
    refine va_put (D := D) (ci := 1) (v := .int (w28 4)) (ty := .int) (C := RX1) (T := TX1) (N := 8) hx hb hts inX1 tyX1 tyX1_ok nmX1 hown hK.1 hP hD hS 0 rfl rfl 5 (by decide) (hts (.fieldLink RX1 35 "GrayPointers$Side" "second" "I") (List.mem_of_getElem? (i := 4) rfl)) (fun _ h9 => h9) rfl (by decide +kernel) rfl rfl (Nat.le_of_ble_eq_true rfl) dX1_tick_33 (fun H locs hP hD hS => ?_)
    have hP : va_P D vwCl [(h, sdC (upd w28 5 (w28 4)))] H := hP
    have hD : va_D A [(h, sdC (upd w28 5 (w28 4)))] := hD
    refine lv_aload_n hx hb dX1_tick_36 rfl (lv_at hl 0 rfl) ?_
    refine lv_iload_n hx hb dX1_tick_37 rfl (lv_at hl 1 rfl) ?_
    refine lv_iload_n hx hb dX1_tick_38 rfl (lv_at hl 2 rfl) ?_
    refine lv_sipush (v := (170 : Int32)) hx hb dX1_tick_39 (by decide) ?_
    refine lv_iand hx hb dX1_tick_42 ?_
    refine lv_ixor hx hb dX1_tick_43 ?_
    refine va_put (D := D) (ci := 1) (v := .int (a1 ^^^ ((a1 ^^^ a2) &&& (170 : Int32)))) (ty := .int) (C := RX1) (T := TX1) (N := 8) hx hb hts inX1 tyX1 tyX1_ok nmX1 hown hK.1 hP hD hS 0 rfl rfl 4 (by decide) (hts (.fieldLink RX1 32 "GrayPointers$Side" "first" "I") (List.mem_of_getElem? (i := 3) rfl)) (fun _ h9 => h9) rfl (by decide +kernel) rfl rfl (Nat.le_of_ble_eq_true rfl) dX1_tick_44 (fun H locs hP hD hS => ?_)
    have hP : va_P D vwCl [(h, sdC (upd (upd w28 5 (w28 4)) 4 (a1 ^^^ ((a1 ^^^ a2) &&& (170 : Int32)))))] H := hP
    have hD : va_D A [(h, sdC (upd (upd w28 5 (w28 4)) 4 (a1 ^^^ ((a1 ^^^ a2) &&& (170 : Int32)))))] := hD
    exact endV hb hx hsg (by rw [hp]; exact hP) (by rw [hp]; exact hD) hS dX1_tick_47 hlocks
  refine lv_if_eq (tgt := 28) hx hb dX1_tick_15 (by decide) (fun c15 => ?_) (fun c15 => ?_)
  · exact J_28 (upd w 6 ((w 6) + (1 : Int32))) _ _ (if_pos c15).symm hP hD hS ls (lv_sub hl [1, 2, 0] rfl)
  · refine lv_aload_n hx hb dX1_tick_18 rfl (lv_at hl 1 rfl) ?_
    refine lv_dup hx hb dX1_tick_19 rfl ?_
    refine va_get (D := D) (ci := 1) (v := .int (w 7)) (C := RX1) (T := TX1) (N := 8) hx hb hts inX1 hown hK.1 hP 0 rfl rfl 7 (by decide) (hts (.fieldLink RX1 29 "GrayPointers$Side" "torn" "I") (List.mem_of_getElem? (i := 2) rfl)) (fun _ h9 => h9) rfl dX1_tick_20 ?_
    refine lv_iconst (v := (1 : Int32)) hx hb dX1_tick_23 (by decide) ?_
    refine lv_iadd hx hb dX1_tick_24 ?_
    refine va_put (D := D) (ci := 1) (v := .int ((w 7) + (1 : Int32))) (ty := .int) (C := RX1) (T := TX1) (N := 8) hx hb hts inX1 tyX1 tyX1_ok nmX1 hown hK.1 hP hD hS 0 rfl rfl 7 (by decide) (hts (.fieldLink RX1 29 "GrayPointers$Side" "torn" "I") (List.mem_of_getElem? (i := 2) rfl)) (fun _ h9 => h9) rfl (by decide +kernel) rfl rfl (Nat.le_of_ble_eq_true rfl) dX1_tick_25 (fun H locs hP hD hS => ?_)
    have hP : va_P D vwCl [(h, sdC (upd (upd w 6 ((w 6) + (1 : Int32))) 7 ((w 7) + (1 : Int32))))] H := hP
    have hD : va_D A [(h, sdC (upd (upd w 6 ((w 6) + (1 : Int32))) 7 ((w 7) + (1 : Int32))))] := hD
    exact J_28 (upd (upd w 6 ((w 6) + (1 : Int32))) 7 ((w 7) + (1 : Int32))) _ _ (if_neg c15).symm hP hD hS ls (lv_sub hl [1, 2, 0] rfl)
def p_X1_clearPointers (w : F1) : F1 := (upd (upd (upd w 3 (0 : Int32)) 4 (0 : Int32)) 5 (0 : Int32))
abbrev rm_X1_clearPointers : Room := { frames := 0, cells := 0, slots := 0, locals := 0 }
set_option maxHeartbeats 4000000 in
set_option maxRecDepth 100000 in
theorem c_X1_clearPointers (l : Launch) (D : va_G) (cI cC cS : ClassId) (h : Nat) (w : F1)  : CV l D cI cC cS yX1_clearPointers wsX1_clearPointers rm_X1_clearPointers [.ref h] ([(h, sdC w)]) ([(h, sdC (p_X1_clearPointers w))])  := by
  intro sz
  refine startC (cc := cX1_clearPointers) (maxL := 1) (ret := none) (by decide) rfl (Nat.le_of_ble_eq_true rfl) ?_
  intro p e s m args below meth c hx hb hml hsg hts hown hlocks hin hK A hA hS hP hD ls hl
  have hown : s.vm.findClass RX1 = some m.cls := hown
  have hl : lv_has ls 1 [(0, .ref h)] := hl
  have hP : va_P D vwCl [(h, sdC w)] s.heap := hP
  have hD : va_D A [(h, sdC w)] := hD
  have inX1 : ∀ w ∈ wsX10, w ∈ wsX1_clearPointers := fun _ h => List.mem_cons_of_mem _ (List.mem_append_right _ h)
  have hp : (p_X1_clearPointers w) = (upd (upd (upd w 3 (0 : Int32)) 4 (0 : Int32)) 5 (0 : Int32)) := rfl
  refine lv_aload_n hx hb dX1_clearPointers_0 rfl (lv_at hl 0 rfl) ?_
  refine lv_iconst (v := (0 : Int32)) hx hb dX1_clearPointers_1 (by decide) ?_
  refine va_put (D := D) (ci := 1) (v := .int (0 : Int32)) (ty := .int) (C := RX1) (T := TX1) (N := 8) hx hb hts inX1 tyX1 tyX1_ok nmX1 hown hK.1 hP hD hS 0 rfl rfl 3 (by decide) (hts (.fieldLink RX1 38 "GrayPointers$Side" "pointer" "I") (List.mem_of_getElem? (i := 1) rfl)) (fun _ h9 => h9) rfl (by decide +kernel) rfl rfl (Nat.le_of_ble_eq_true rfl) dX1_clearPointers_2 (fun H locs hP hD hS => ?_)
  have hP : va_P D vwCl [(h, sdC (upd w 3 (0 : Int32)))] H := hP
  have hD : va_D A [(h, sdC (upd w 3 (0 : Int32)))] := hD
  refine lv_aload_n hx hb dX1_clearPointers_5 rfl (lv_at hl 0 rfl) ?_
  refine lv_iconst (v := (0 : Int32)) hx hb dX1_clearPointers_6 (by decide) ?_
  refine va_put (D := D) (ci := 1) (v := .int (0 : Int32)) (ty := .int) (C := RX1) (T := TX1) (N := 8) hx hb hts inX1 tyX1 tyX1_ok nmX1 hown hK.1 hP hD hS 0 rfl rfl 4 (by decide) (hts (.fieldLink RX1 32 "GrayPointers$Side" "first" "I") (List.mem_of_getElem? (i := 2) rfl)) (fun _ h9 => h9) rfl (by decide +kernel) rfl rfl (Nat.le_of_ble_eq_true rfl) dX1_clearPointers_7 (fun H locs hP hD hS => ?_)
  have hP : va_P D vwCl [(h, sdC (upd (upd w 3 (0 : Int32)) 4 (0 : Int32)))] H := hP
  have hD : va_D A [(h, sdC (upd (upd w 3 (0 : Int32)) 4 (0 : Int32)))] := hD
  refine lv_aload_n hx hb dX1_clearPointers_10 rfl (lv_at hl 0 rfl) ?_
  refine lv_iconst (v := (0 : Int32)) hx hb dX1_clearPointers_11 (by decide) ?_
  refine va_put (D := D) (ci := 1) (v := .int (0 : Int32)) (ty := .int) (C := RX1) (T := TX1) (N := 8) hx hb hts inX1 tyX1 tyX1_ok nmX1 hown hK.1 hP hD hS 0 rfl rfl 5 (by decide) (hts (.fieldLink RX1 35 "GrayPointers$Side" "second" "I") (List.mem_of_getElem? (i := 3) rfl)) (fun _ h9 => h9) rfl (by decide +kernel) rfl rfl (Nat.le_of_ble_eq_true rfl) dX1_clearPointers_12 (fun H locs hP hD hS => ?_)
  have hP : va_P D vwCl [(h, sdC (upd (upd (upd w 3 (0 : Int32)) 4 (0 : Int32)) 5 (0 : Int32)))] H := hP
  have hD : va_D A [(h, sdC (upd (upd (upd w 3 (0 : Int32)) 4 (0 : Int32)) 5 (0 : Int32)))] := hD
  exact endV hb hx hsg (by rw [hp]; exact hP) (by rw [hp]; exact hD) hS dX1_clearPointers_15 hlocks
def p_X1_copy (w : F1) (v : F1) : F1 := (upd (upd (upd (upd (upd (upd (upd (upd w 0 (v 0)) 1 (v 1)) 2 (v 2)) 3 (v 3)) 4 (v 4)) 5 (v 5)) 6 (v 6)) 7 (v 7))
abbrev rm_X1_copy : Room := { frames := 0, cells := 0, slots := 0, locals := 0 }
set_option maxHeartbeats 4000000 in
set_option maxRecDepth 100000 in
theorem c_X1_copy (l : Launch) (D : va_G) (cI cC cS : ClassId) (h : Nat) (h2 : Nat) (w : F1) (v : F1)  : CV l D cI cC cS yX1_copy wsX1_copy rm_X1_copy [.ref h, .ref h2] ([(h, sdC w)] ++ [(h2, sdC v)]) ([(h, sdC (p_X1_copy w v))] ++ [(h2, sdC v)])  := by
  intro sz
  refine startC (cc := cX1_copy) (maxL := 2) (ret := none) (by decide) rfl (Nat.le_of_ble_eq_true rfl) ?_
  intro p e s m args below meth c hx hb hml hsg hts hown hlocks hin hK A hA hS hP hD ls hl
  have hown : s.vm.findClass RX1 = some m.cls := hown
  have hl : lv_has ls 2 [(0, .ref h), (1, .ref h2)] := hl
  have hP : va_P D vwCl [(h, sdC w), (h2, sdC v)] s.heap := hP
  have hD : va_D A [(h, sdC w), (h2, sdC v)] := hD
  have inX1 : ∀ w ∈ wsX10, w ∈ wsX1_copy := fun _ h => List.mem_cons_of_mem _ (List.mem_append_right _ h)
  have hp : (p_X1_copy w v) = (upd (upd (upd (upd (upd (upd (upd (upd w 0 (v 0)) 1 (v 1)) 2 (v 2)) 3 (v 3)) 4 (v 4)) 5 (v 5)) 6 (v 6)) 7 (v 7)) := rfl
  refine lv_aload_n hx hb dX1_copy_0 rfl (lv_at hl 0 rfl) ?_
  refine lv_aload_n hx hb dX1_copy_1 rfl (lv_at hl 1 rfl) ?_
  refine va_get (D := D) (ci := 1) (v := .int (v 0)) (C := RX1) (T := TX1) (N := 8) hx hb hts inX1 hown hK.1 hP 1 rfl rfl 0 (by decide) (hts (.fieldLink RX1 15 "GrayPointers$Side" "period" "I") (List.mem_of_getElem? (i := 1) rfl)) (fun _ h9 => h9) rfl dX1_copy_2 ?_
  refine va_put (D := D) (ci := 1) (v := .int (v 0)) (ty := .int) (C := RX1) (T := TX1) (N := 8) hx hb hts inX1 tyX1 tyX1_ok nmX1 hown hK.1 hP hD hS 0 rfl rfl 0 (by decide) (hts (.fieldLink RX1 15 "GrayPointers$Side" "period" "I") (List.mem_of_getElem? (i := 1) rfl)) (fun _ h9 => h9) rfl (by decide +kernel) rfl rfl (Nat.le_of_ble_eq_true rfl) dX1_copy_5 (fun H locs hP hD hS => ?_)
  have hP : va_P D vwCl [(h, sdC (upd w 0 (v 0))), (h2, sdC v)] H := hP
  have hD : va_D A [(h, sdC (upd w 0 (v 0))), (h2, sdC v)] := hD
  refine lv_aload_n hx hb dX1_copy_8 rfl (lv_at hl 0 rfl) ?_
  refine lv_aload_n hx hb dX1_copy_9 rfl (lv_at hl 1 rfl) ?_
  refine va_get (D := D) (ci := 1) (v := .int (v 1)) (C := RX1) (T := TX1) (N := 8) hx hb hts inX1 hown hK.1 hP 1 rfl rfl 1 (by decide) (hts (.fieldLink RX1 19 "GrayPointers$Side" "phase" "I") (List.mem_of_getElem? (i := 2) rfl)) (fun _ h9 => h9) rfl dX1_copy_10 ?_
  refine va_put (D := D) (ci := 1) (v := .int (v 1)) (ty := .int) (C := RX1) (T := TX1) (N := 8) hx hb hts inX1 tyX1 tyX1_ok nmX1 hown hK.1 hP hD hS 0 rfl rfl 1 (by decide) (hts (.fieldLink RX1 19 "GrayPointers$Side" "phase" "I") (List.mem_of_getElem? (i := 2) rfl)) (fun _ h9 => h9) rfl (by decide +kernel) rfl rfl (Nat.le_of_ble_eq_true rfl) dX1_copy_13 (fun H locs hP hD hS => ?_)
  have hP : va_P D vwCl [(h, sdC (upd (upd w 0 (v 0)) 1 (v 1))), (h2, sdC v)] H := hP
  have hD : va_D A [(h, sdC (upd (upd w 0 (v 0)) 1 (v 1))), (h2, sdC v)] := hD
  refine lv_aload_n hx hb dX1_copy_16 rfl (lv_at hl 0 rfl) ?_
  refine lv_aload_n hx hb dX1_copy_17 rfl (lv_at hl 1 rfl) ?_
  refine va_get (D := D) (ci := 1) (v := .int (nb (v 2))) (C := RX1) (T := TX1) (N := 8) hx hb hts inX1 hown hK.1 hP 1 rfl rfl 2 (by decide) (hts (.fieldLink RX1 9 "GrayPointers$Side" "going" "Z") (List.mem_of_getElem? (i := 3) rfl)) (fun _ h9 => h9) rfl dX1_copy_18 ?_
  refine va_put (D := D) (ci := 1) (v := .int (nb (v 2))) (ty := .boolean) (C := RX1) (T := TX1) (N := 8) hx hb hts inX1 tyX1 tyX1_ok nmX1 hown hK.1 hP hD hS 0 rfl rfl 2 (by decide) (hts (.fieldLink RX1 9 "GrayPointers$Side" "going" "Z") (List.mem_of_getElem? (i := 3) rfl)) (fun _ h9 => h9) rfl (by decide +kernel) (nb_n _) (nb_f _) (Nat.le_of_ble_eq_true rfl) dX1_copy_21 (fun H locs hP hD hS => ?_)
  have hP : va_P D vwCl [(h, sdC (upd (upd (upd w 0 (v 0)) 1 (v 1)) 2 (v 2))), (h2, sdC v)] H := hP
  have hD : va_D A [(h, sdC (upd (upd (upd w 0 (v 0)) 1 (v 1)) 2 (v 2))), (h2, sdC v)] := hD
  refine lv_aload_n hx hb dX1_copy_24 rfl (lv_at hl 0 rfl) ?_
  refine lv_aload_n hx hb dX1_copy_25 rfl (lv_at hl 1 rfl) ?_
  refine va_get (D := D) (ci := 1) (v := .int (v 3)) (C := RX1) (T := TX1) (N := 8) hx hb hts inX1 hown hK.1 hP 1 rfl rfl 3 (by decide) (hts (.fieldLink RX1 38 "GrayPointers$Side" "pointer" "I") (List.mem_of_getElem? (i := 4) rfl)) (fun _ h9 => h9) rfl dX1_copy_26 ?_
  refine va_put (D := D) (ci := 1) (v := .int (v 3)) (ty := .int) (C := RX1) (T := TX1) (N := 8) hx hb hts inX1 tyX1 tyX1_ok nmX1 hown hK.1 hP hD hS 0 rfl rfl 3 (by decide) (hts (.fieldLink RX1 38 "GrayPointers$Side" "pointer" "I") (List.mem_of_getElem? (i := 4) rfl)) (fun _ h9 => h9) rfl (by decide +kernel) rfl rfl (Nat.le_of_ble_eq_true rfl) dX1_copy_29 (fun H locs hP hD hS => ?_)
  have hP : va_P D vwCl [(h, sdC (upd (upd (upd (upd w 0 (v 0)) 1 (v 1)) 2 (v 2)) 3 (v 3))), (h2, sdC v)] H := hP
  have hD : va_D A [(h, sdC (upd (upd (upd (upd w 0 (v 0)) 1 (v 1)) 2 (v 2)) 3 (v 3))), (h2, sdC v)] := hD
  refine lv_aload_n hx hb dX1_copy_32 rfl (lv_at hl 0 rfl) ?_
  refine lv_aload_n hx hb dX1_copy_33 rfl (lv_at hl 1 rfl) ?_
  refine va_get (D := D) (ci := 1) (v := .int (v 4)) (C := RX1) (T := TX1) (N := 8) hx hb hts inX1 hown hK.1 hP 1 rfl rfl 4 (by decide) (hts (.fieldLink RX1 32 "GrayPointers$Side" "first" "I") (List.mem_of_getElem? (i := 5) rfl)) (fun _ h9 => h9) rfl dX1_copy_34 ?_
  refine va_put (D := D) (ci := 1) (v := .int (v 4)) (ty := .int) (C := RX1) (T := TX1) (N := 8) hx hb hts inX1 tyX1 tyX1_ok nmX1 hown hK.1 hP hD hS 0 rfl rfl 4 (by decide) (hts (.fieldLink RX1 32 "GrayPointers$Side" "first" "I") (List.mem_of_getElem? (i := 5) rfl)) (fun _ h9 => h9) rfl (by decide +kernel) rfl rfl (Nat.le_of_ble_eq_true rfl) dX1_copy_37 (fun H locs hP hD hS => ?_)
  have hP : va_P D vwCl [(h, sdC (upd (upd (upd (upd (upd w 0 (v 0)) 1 (v 1)) 2 (v 2)) 3 (v 3)) 4 (v 4))), (h2, sdC v)] H := hP
  have hD : va_D A [(h, sdC (upd (upd (upd (upd (upd w 0 (v 0)) 1 (v 1)) 2 (v 2)) 3 (v 3)) 4 (v 4))), (h2, sdC v)] := hD
  refine lv_aload_n hx hb dX1_copy_40 rfl (lv_at hl 0 rfl) ?_
  refine lv_aload_n hx hb dX1_copy_41 rfl (lv_at hl 1 rfl) ?_
  refine va_get (D := D) (ci := 1) (v := .int (v 5)) (C := RX1) (T := TX1) (N := 8) hx hb hts inX1 hown hK.1 hP 1 rfl rfl 5 (by decide) (hts (.fieldLink RX1 35 "GrayPointers$Side" "second" "I") (List.mem_of_getElem? (i := 6) rfl)) (fun _ h9 => h9) rfl dX1_copy_42 ?_
  refine va_put (D := D) (ci := 1) (v := .int (v 5)) (ty := .int) (C := RX1) (T := TX1) (N := 8) hx hb hts inX1 tyX1 tyX1_ok nmX1 hown hK.1 hP hD hS 0 rfl rfl 5 (by decide) (hts (.fieldLink RX1 35 "GrayPointers$Side" "second" "I") (List.mem_of_getElem? (i := 6) rfl)) (fun _ h9 => h9) rfl (by decide +kernel) rfl rfl (Nat.le_of_ble_eq_true rfl) dX1_copy_45 (fun H locs hP hD hS => ?_)
  have hP : va_P D vwCl [(h, sdC (upd (upd (upd (upd (upd (upd w 0 (v 0)) 1 (v 1)) 2 (v 2)) 3 (v 3)) 4 (v 4)) 5 (v 5))), (h2, sdC v)] H := hP
  have hD : va_D A [(h, sdC (upd (upd (upd (upd (upd (upd w 0 (v 0)) 1 (v 1)) 2 (v 2)) 3 (v 3)) 4 (v 4)) 5 (v 5))), (h2, sdC v)] := hD
  refine lv_aload_n hx hb dX1_copy_48 rfl (lv_at hl 0 rfl) ?_
  refine lv_aload_n hx hb dX1_copy_49 rfl (lv_at hl 1 rfl) ?_
  refine va_get (D := D) (ci := 1) (v := .int (v 6)) (C := RX1) (T := TX1) (N := 8) hx hb hts inX1 hown hK.1 hP 1 rfl rfl 6 (by decide) (hts (.fieldLink RX1 26 "GrayPointers$Side" "ticks" "I") (List.mem_of_getElem? (i := 7) rfl)) (fun _ h9 => h9) rfl dX1_copy_50 ?_
  refine va_put (D := D) (ci := 1) (v := .int (v 6)) (ty := .int) (C := RX1) (T := TX1) (N := 8) hx hb hts inX1 tyX1 tyX1_ok nmX1 hown hK.1 hP hD hS 0 rfl rfl 6 (by decide) (hts (.fieldLink RX1 26 "GrayPointers$Side" "ticks" "I") (List.mem_of_getElem? (i := 7) rfl)) (fun _ h9 => h9) rfl (by decide +kernel) rfl rfl (Nat.le_of_ble_eq_true rfl) dX1_copy_53 (fun H locs hP hD hS => ?_)
  have hP : va_P D vwCl [(h, sdC (upd (upd (upd (upd (upd (upd (upd w 0 (v 0)) 1 (v 1)) 2 (v 2)) 3 (v 3)) 4 (v 4)) 5 (v 5)) 6 (v 6))), (h2, sdC v)] H := hP
  have hD : va_D A [(h, sdC (upd (upd (upd (upd (upd (upd (upd w 0 (v 0)) 1 (v 1)) 2 (v 2)) 3 (v 3)) 4 (v 4)) 5 (v 5)) 6 (v 6))), (h2, sdC v)] := hD
  refine lv_aload_n hx hb dX1_copy_56 rfl (lv_at hl 0 rfl) ?_
  refine lv_aload_n hx hb dX1_copy_57 rfl (lv_at hl 1 rfl) ?_
  refine va_get (D := D) (ci := 1) (v := .int (v 7)) (C := RX1) (T := TX1) (N := 8) hx hb hts inX1 hown hK.1 hP 1 rfl rfl 7 (by decide) (hts (.fieldLink RX1 29 "GrayPointers$Side" "torn" "I") (List.mem_of_getElem? (i := 8) rfl)) (fun _ h9 => h9) rfl dX1_copy_58 ?_
  refine va_put (D := D) (ci := 1) (v := .int (v 7)) (ty := .int) (C := RX1) (T := TX1) (N := 8) hx hb hts inX1 tyX1 tyX1_ok nmX1 hown hK.1 hP hD hS 0 rfl rfl 7 (by decide) (hts (.fieldLink RX1 29 "GrayPointers$Side" "torn" "I") (List.mem_of_getElem? (i := 8) rfl)) (fun _ h9 => h9) rfl (by decide +kernel) rfl rfl (Nat.le_of_ble_eq_true rfl) dX1_copy_61 (fun H locs hP hD hS => ?_)
  have hP : va_P D vwCl [(h, sdC (upd (upd (upd (upd (upd (upd (upd (upd w 0 (v 0)) 1 (v 1)) 2 (v 2)) 3 (v 3)) 4 (v 4)) 5 (v 5)) 6 (v 6)) 7 (v 7))), (h2, sdC v)] H := hP
  have hD : va_D A [(h, sdC (upd (upd (upd (upd (upd (upd (upd (upd w 0 (v 0)) 1 (v 1)) 2 (v 2)) 3 (v 3)) 4 (v 4)) 5 (v 5)) 6 (v 6)) 7 (v 7))), (h2, sdC v)] := hD
  exact endV hb hx hsg (by rw [hp]; exact hP) (by rw [hp]; exact hD) hS dX1_copy_64 hlocks
