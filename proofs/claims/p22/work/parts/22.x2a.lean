abbrev rm_X2_sideOf : Room := { frames := 0, cells := 0, slots := 0, locals := 0 }
set_option maxHeartbeats 4000000 in
set_option maxRecDepth 100000 in
theorem c_X2_sideOf_0 (l : Launch) (D : va_G) (cI cC cS : ClassId) (ad : Nat → Nat) (S : CS) (a1 : Int32) (hz : a1 = (0 : Int32)) : CR l D cI cC cS yX2_sideOf wsX2_sideOf rm_X2_sideOf [.ref (ad 0), .int a1] (stW cI ad S) (stW cI ad S) (ad 1) := by
  intro sz
  refine startC (cc := cX2_sideOf) (maxL := 2) (ret := (some (.object "GrayPointers$Side"))) (by decide) rfl (Nat.le_of_ble_eq_true rfl) ?_
  intro p e s m args below meth c hx hb hml hsg hts hown hlocks hin hK A hA hS hP hD ls hl
  have hown : s.vm.findClass RX2 = some m.cls := hown
  have hl : lv_has ls 2 [(0, .ref (ad 0)), (1, .int a1)] := hl
  have hP : va_P D vwCl [((ad 0), stC ad (S 0)), ((ad 1), sdC (S 1)), ((ad 2), sdC (S 2)), ((ad 3), arC cI 16 (S 3)), ((ad 4), arC cI 16 (S 4)), ((ad 5), arC cI 20 (S 5)), ((ad 6), arC cI 16 (S 6))] s.heap := hP
  have hD : va_D A [((ad 0), stC ad (S 0)), ((ad 1), sdC (S 1)), ((ad 2), sdC (S 2)), ((ad 3), arC cI 16 (S 3)), ((ad 4), arC cI 16 (S 4)), ((ad 5), arC cI 20 (S 5)), ((ad 6), arC cI 16 (S 6))] := hD
  have inX2 : ∀ w ∈ wsX20, w ∈ wsX2_sideOf := fun _ h => List.mem_cons_of_mem _ (List.mem_append_right _ h)
  refine lv_iload_n hx hb dX2_sideOf_0 rfl (lv_at hl 1 rfl) ?_
  refine lv_if_ne (tgt := 11) hx hb dX2_sideOf_1 (by decide) (fun h9 => absurd (hz) h9) (fun _ => ?_)
  refine lv_aload_n hx hb dX2_sideOf_4 rfl (lv_at hl 0 rfl) ?_
  refine va_get (D := D) (ci := 2) (v := .ref (ad 1)) (C := RX2) (T := TX2) (N := 15) hx hb hts inX2 hown hK.1 hP 0 rfl rfl 5 (by decide) (hts (.fieldLink RX2 30 "GrayPointers$State" "writer" "LGrayPointers$Side;") (List.mem_of_getElem? (i := 1) rfl)) (fun _ h9 => h9) rfl dX2_sideOf_5 ?_
  refine lv_goto (tgt := 15) hx hb dX2_sideOf_8 (by decide) ?_
  exact endR hb hx hsg rfl ⟨_, rfl⟩ hP hD hS dX2_sideOf_15 hlocks
set_option maxHeartbeats 4000000 in
set_option maxRecDepth 100000 in
theorem c_X2_sideOf_1 (l : Launch) (D : va_G) (cI cC cS : ClassId) (ad : Nat → Nat) (S : CS) (a1 : Int32) (hz : ¬ a1 = (0 : Int32)) : CR l D cI cC cS yX2_sideOf wsX2_sideOf rm_X2_sideOf [.ref (ad 0), .int a1] (stW cI ad S) (stW cI ad S) (ad 2) := by
  intro sz
  refine startC (cc := cX2_sideOf) (maxL := 2) (ret := (some (.object "GrayPointers$Side"))) (by decide) rfl (Nat.le_of_ble_eq_true rfl) ?_
  intro p e s m args below meth c hx hb hml hsg hts hown hlocks hin hK A hA hS hP hD ls hl
  have hown : s.vm.findClass RX2 = some m.cls := hown
  have hl : lv_has ls 2 [(0, .ref (ad 0)), (1, .int a1)] := hl
  have hP : va_P D vwCl [((ad 0), stC ad (S 0)), ((ad 1), sdC (S 1)), ((ad 2), sdC (S 2)), ((ad 3), arC cI 16 (S 3)), ((ad 4), arC cI 16 (S 4)), ((ad 5), arC cI 20 (S 5)), ((ad 6), arC cI 16 (S 6))] s.heap := hP
  have hD : va_D A [((ad 0), stC ad (S 0)), ((ad 1), sdC (S 1)), ((ad 2), sdC (S 2)), ((ad 3), arC cI 16 (S 3)), ((ad 4), arC cI 16 (S 4)), ((ad 5), arC cI 20 (S 5)), ((ad 6), arC cI 16 (S 6))] := hD
  have inX2 : ∀ w ∈ wsX20, w ∈ wsX2_sideOf := fun _ h => List.mem_cons_of_mem _ (List.mem_append_right _ h)
  refine lv_iload_n hx hb dX2_sideOf_0 rfl (lv_at hl 1 rfl) ?_
  refine lv_if_ne (tgt := 11) hx hb dX2_sideOf_1 (by decide) (fun _ => ?_) (fun h9 => absurd h9 (hz))
  refine lv_aload_n hx hb dX2_sideOf_11 rfl (lv_at hl 0 rfl) ?_
  refine va_get (D := D) (ci := 2) (v := .ref (ad 2)) (C := RX2) (T := TX2) (N := 15) hx hb hts inX2 hown hK.1 hP 0 rfl rfl 6 (by decide) (hts (.fieldLink RX2 34 "GrayPointers$State" "reader" "LGrayPointers$Side;") (List.mem_of_getElem? (i := 2) rfl)) (fun _ h9 => h9) rfl dX2_sideOf_12 ?_
  exact endR hb hx hsg rfl ⟨_, rfl⟩ hP hD hS dX2_sideOf_15 hlocks
def r_X2_depth (S : CS) : Int32 := ((1 : Int32) <<< (((S 0) 0) &&& (31 : Int32)))
abbrev rm_X2_depth : Room := { frames := 0, cells := 0, slots := 0, locals := 0 }
set_option maxHeartbeats 4000000 in
set_option maxRecDepth 100000 in
theorem c_X2_depth (l : Launch) (D : va_G) (cI cC cS : ClassId) (ad : Nat → Nat) (S : CS)  : CI l D cI cC cS yX2_depth wsX2_depth rm_X2_depth [.ref (ad 0)] (stW cI ad S) (stW cI ad S) (r_X2_depth S) := by
  intro sz
  refine startC (cc := cX2_depth) (maxL := 1) (ret := (some .int)) (by decide) rfl (Nat.le_of_ble_eq_true rfl) ?_
  intro p e s m args below meth c hx hb hml hsg hts hown hlocks hin hK A hA hS hP hD ls hl
  have hown : s.vm.findClass RX2 = some m.cls := hown
  have hl : lv_has ls 1 [(0, .ref (ad 0))] := hl
  have hP : va_P D vwCl [((ad 0), stC ad (S 0)), ((ad 1), sdC (S 1)), ((ad 2), sdC (S 2)), ((ad 3), arC cI 16 (S 3)), ((ad 4), arC cI 16 (S 4)), ((ad 5), arC cI 20 (S 5)), ((ad 6), arC cI 16 (S 6))] s.heap := hP
  have hD : va_D A [((ad 0), stC ad (S 0)), ((ad 1), sdC (S 1)), ((ad 2), sdC (S 2)), ((ad 3), arC cI 16 (S 3)), ((ad 4), arC cI 16 (S 4)), ((ad 5), arC cI 20 (S 5)), ((ad 6), arC cI 16 (S 6))] := hD
  have inX2 : ∀ w ∈ wsX20, w ∈ wsX2_depth := fun _ h => List.mem_cons_of_mem _ (List.mem_append_right _ h)
  have hr : (r_X2_depth S) = ((1 : Int32) <<< (((S 0) 0) &&& (31 : Int32))) := rfl
  refine lv_iconst (v := (1 : Int32)) hx hb dX2_depth_0 (by decide) ?_
  refine lv_aload_n hx hb dX2_depth_1 rfl (lv_at hl 0 rfl) ?_
  refine va_get (D := D) (ci := 2) (v := .int ((S 0) 0)) (C := RX2) (T := TX2) (N := 15) hx hb hts inX2 hown hK.1 hP 0 rfl rfl 0 (by decide) (hts (.fieldLink RX2 9 "GrayPointers$State" "k" "I") (List.mem_of_getElem? (i := 1) rfl)) (fun _ h9 => h9) rfl dX2_depth_2 ?_
  refine lv_ishl hx hb dX2_depth_5 ?_
  exact endI (v := ((1 : Int32) <<< (((S 0) 0) &&& (31 : Int32)))) hb hx hsg hr.symm hP hD hS dX2_depth_6 hlocks
def r_X2_placeOf (S : CS) (a1 : Int32) : Int32 := (a1 &&& ((r_X2_depth S) - (1 : Int32)))
abbrev rm_X2_placeOf : Room := { frames := 1, cells := 0, slots := 0, locals := 20 }
set_option maxHeartbeats 4000000 in
set_option maxRecDepth 100000 in
theorem c_X2_placeOf (l : Launch) (D : va_G) (cI cC cS : ClassId) (ad : Nat → Nat) (S : CS) (a1 : Int32)  : CI l D cI cC cS yX2_placeOf wsX2_placeOf rm_X2_placeOf [.ref (ad 0), .int a1] (stW cI ad S) (stW cI ad S) (r_X2_placeOf S a1) := by
  intro sz
  refine startC (cc := cX2_placeOf) (maxL := 2) (ret := (some .int)) (by decide) rfl (Nat.le_of_ble_eq_true rfl) ?_
  intro p e s m args below meth c hx hb hml hsg hts hown hlocks hin hK A hA hS hP hD ls hl
  have hown : s.vm.findClass RX2 = some m.cls := hown
  have hl : lv_has ls 2 [(0, .ref (ad 0)), (1, .int a1)] := hl
  have hP : va_P D vwCl [((ad 0), stC ad (S 0)), ((ad 1), sdC (S 1)), ((ad 2), sdC (S 2)), ((ad 3), arC cI 16 (S 3)), ((ad 4), arC cI 16 (S 4)), ((ad 5), arC cI 20 (S 5)), ((ad 6), arC cI 16 (S 6))] s.heap := hP
  have hD : va_D A [((ad 0), stC ad (S 0)), ((ad 1), sdC (S 1)), ((ad 2), sdC (S 2)), ((ad 3), arC cI 16 (S 3)), ((ad 4), arC cI 16 (S 4)), ((ad 5), arC cI 20 (S 5)), ((ad 6), arC cI 16 (S 6))] := hD
  have hr : (r_X2_placeOf S a1) = (a1 &&& ((r_X2_depth S) - (1 : Int32))) := rfl
  refine lv_iload_n hx hb dX2_placeOf_0 rfl (lv_at hl 1 rfl) ?_
  refine lv_aload_n hx hb dX2_placeOf_1 rfl (lv_at hl 0 rfl) ?_
  refine goI (n := 7) (ws' := [((ad 0), stC ad (S 0)), ((ad 1), sdC (S 1)), ((ad 2), sdC (S 2)), ((ad 3), arC cI 16 (S 3)), ((ad 4), arC cI 16 (S 4)), ((ad 5), arC cI 20 (S 5)), ((ad 6), arC cI 16 (S 6))]) (rs := []) (va_runV (As := []) (rest := [.int a1]) ⟨hx, hb, hml, hown, hts⟩ (c_X2_depth l D cI cC cS ad S  _) (cwV 0 hts gX2_placeOf_X2_depth rfl rfl rfl (by decide +kernel) ⟨Nat.le_of_ble_eq_true rfl, Nat.le_of_ble_eq_true rfl⟩) (preV hK hP hD [0, 1, 2, 3, 4, 5, 6] (by decide) rfl 0 2 rfl rfl) rfl rfl hl.1 rfl (lv_room (Nat.le_of_ble_eq_true rfl)) dX2_placeOf_2 ⟨Nat.zero_le _, Nat.zero_le _⟩) hP hD hS hA [0, 1, 2, 3, 4, 5, 6] [] rfl rfl rfl rfl rfl (by decide +kernel) rfl (fun H locs hP hD hS => ?_)
  refine lv_iconst (v := (1 : Int32)) hx hb dX2_placeOf_5 (by decide) ?_
  refine lv_isub hx hb dX2_placeOf_6 ?_
  refine lv_iand hx hb dX2_placeOf_7 ?_
  exact endI (v := (a1 &&& ((r_X2_depth S) - (1 : Int32)))) hb hx hsg hr.symm hP hD hS dX2_placeOf_8 hlocks
def r_X2_around (S : CS) (a1 : Int32) : Int32 := (a1 &&& (((2 : Int32) * (r_X2_depth S)) - (1 : Int32)))
abbrev rm_X2_around : Room := { frames := 1, cells := 0, slots := 0, locals := 20 }
set_option maxHeartbeats 4000000 in
set_option maxRecDepth 100000 in
theorem c_X2_around (l : Launch) (D : va_G) (cI cC cS : ClassId) (ad : Nat → Nat) (S : CS) (a1 : Int32)  : CI l D cI cC cS yX2_around wsX2_around rm_X2_around [.ref (ad 0), .int a1] (stW cI ad S) (stW cI ad S) (r_X2_around S a1) := by
  intro sz
  refine startC (cc := cX2_around) (maxL := 2) (ret := (some .int)) (by decide) rfl (Nat.le_of_ble_eq_true rfl) ?_
  intro p e s m args below meth c hx hb hml hsg hts hown hlocks hin hK A hA hS hP hD ls hl
  have hown : s.vm.findClass RX2 = some m.cls := hown
  have hl : lv_has ls 2 [(0, .ref (ad 0)), (1, .int a1)] := hl
  have hP : va_P D vwCl [((ad 0), stC ad (S 0)), ((ad 1), sdC (S 1)), ((ad 2), sdC (S 2)), ((ad 3), arC cI 16 (S 3)), ((ad 4), arC cI 16 (S 4)), ((ad 5), arC cI 20 (S 5)), ((ad 6), arC cI 16 (S 6))] s.heap := hP
  have hD : va_D A [((ad 0), stC ad (S 0)), ((ad 1), sdC (S 1)), ((ad 2), sdC (S 2)), ((ad 3), arC cI 16 (S 3)), ((ad 4), arC cI 16 (S 4)), ((ad 5), arC cI 20 (S 5)), ((ad 6), arC cI 16 (S 6))] := hD
  have hr : (r_X2_around S a1) = (a1 &&& (((2 : Int32) * (r_X2_depth S)) - (1 : Int32))) := rfl
  refine lv_iload_n hx hb dX2_around_0 rfl (lv_at hl 1 rfl) ?_
  refine lv_iconst (v := (2 : Int32)) hx hb dX2_around_1 (by decide) ?_
  refine lv_aload_n hx hb dX2_around_2 rfl (lv_at hl 0 rfl) ?_
  refine goI (n := 7) (ws' := [((ad 0), stC ad (S 0)), ((ad 1), sdC (S 1)), ((ad 2), sdC (S 2)), ((ad 3), arC cI 16 (S 3)), ((ad 4), arC cI 16 (S 4)), ((ad 5), arC cI 20 (S 5)), ((ad 6), arC cI 16 (S 6))]) (rs := []) (va_runV (As := []) (rest := [.int (2 : Int32), .int a1]) ⟨hx, hb, hml, hown, hts⟩ (c_X2_depth l D cI cC cS ad S  _) (cwV 0 hts gX2_around_X2_depth rfl rfl rfl (by decide +kernel) ⟨Nat.le_of_ble_eq_true rfl, Nat.le_of_ble_eq_true rfl⟩) (preV hK hP hD [0, 1, 2, 3, 4, 5, 6] (by decide) rfl 0 2 rfl rfl) rfl rfl hl.1 rfl (lv_room (Nat.le_of_ble_eq_true rfl)) dX2_around_3 ⟨Nat.zero_le _, Nat.zero_le _⟩) hP hD hS hA [0, 1, 2, 3, 4, 5, 6] [] rfl rfl rfl rfl rfl (by decide +kernel) rfl (fun H locs hP hD hS => ?_)
  refine lv_imul hx hb dX2_around_6 ?_
  refine lv_iconst (v := (1 : Int32)) hx hb dX2_around_7 (by decide) ?_
  refine lv_isub hx hb dX2_around_8 ?_
  refine lv_iand hx hb dX2_around_9 ?_
  exact endI (v := (a1 &&& (((2 : Int32) * (r_X2_depth S)) - (1 : Int32)))) hb hx hsg hr.symm hP hD hS dX2_around_10 hlocks
def r_X2_codeOf (S : CS) (a1 : Int32) : Int32 := (if (nb ((S 0) 1)) = (0 : Int32) then a1 else (a1 ^^^ (a1 >>> ((1 : Int32) &&& (31 : Int32)))))
abbrev rm_X2_codeOf : Room := { frames := 0, cells := 0, slots := 0, locals := 0 }
set_option maxHeartbeats 4000000 in
set_option maxRecDepth 100000 in
theorem c_X2_codeOf (l : Launch) (D : va_G) (cI cC cS : ClassId) (ad : Nat → Nat) (S : CS) (a1 : Int32)  : CI l D cI cC cS yX2_codeOf wsX2_codeOf rm_X2_codeOf [.ref (ad 0), .int a1] (stW cI ad S) (stW cI ad S) (r_X2_codeOf S a1) := by
  intro sz
  refine startC (cc := cX2_codeOf) (maxL := 2) (ret := (some .int)) (by decide) rfl (Nat.le_of_ble_eq_true rfl) ?_
  intro p e s m args below meth c hx hb hml hsg hts hown hlocks hin hK A hA hS hP hD ls hl
  have hown : s.vm.findClass RX2 = some m.cls := hown
  have hl : lv_has ls 2 [(0, .ref (ad 0)), (1, .int a1)] := hl
  have hP : va_P D vwCl [((ad 0), stC ad (S 0)), ((ad 1), sdC (S 1)), ((ad 2), sdC (S 2)), ((ad 3), arC cI 16 (S 3)), ((ad 4), arC cI 16 (S 4)), ((ad 5), arC cI 20 (S 5)), ((ad 6), arC cI 16 (S 6))] s.heap := hP
  have hD : va_D A [((ad 0), stC ad (S 0)), ((ad 1), sdC (S 1)), ((ad 2), sdC (S 2)), ((ad 3), arC cI 16 (S 3)), ((ad 4), arC cI 16 (S 4)), ((ad 5), arC cI 20 (S 5)), ((ad 6), arC cI 16 (S 6))] := hD
  have inX2 : ∀ w ∈ wsX20, w ∈ wsX2_codeOf := fun _ h => List.mem_cons_of_mem _ (List.mem_append_right _ h)
  have hr : (r_X2_codeOf S a1) = (if (nb ((S 0) 1)) = (0 : Int32) then a1 else (a1 ^^^ (a1 >>> ((1 : Int32) &&& (31 : Int32))))) := rfl
  refine lv_aload_n hx hb dX2_codeOf_0 rfl (lv_at hl 0 rfl) ?_
  refine va_get (D := D) (ci := 2) (v := .int (nb ((S 0) 1))) (C := RX2) (T := TX2) (N := 15) hx hb hts inX2 hown hK.1 hP 0 rfl rfl 1 (by decide) (hts (.fieldLink RX2 15 "GrayPointers$State" "gray" "Z") (List.mem_of_getElem? (i := 1) rfl)) (fun _ h9 => h9) rfl dX2_codeOf_1 ?_
  refine lv_if_eq (tgt := 15) hx hb dX2_codeOf_4 (by decide) (fun c4 => ?_) (fun c4 => ?_)
  · have hr := hr.trans (if_pos c4)
    refine lv_iload_n hx hb dX2_codeOf_15 rfl (lv_at hl 1 rfl) ?_
    exact endI (v := a1) hb hx hsg hr.symm hP hD hS dX2_codeOf_16 hlocks
  · have hr := hr.trans (if_neg c4)
    refine lv_iload_n hx hb dX2_codeOf_7 rfl (lv_at hl 1 rfl) ?_
    refine lv_iload_n hx hb dX2_codeOf_8 rfl (lv_at hl 1 rfl) ?_
    refine lv_iconst (v := (1 : Int32)) hx hb dX2_codeOf_9 (by decide) ?_
    refine lv_ishr hx hb dX2_codeOf_10 ?_
    refine lv_ixor hx hb dX2_codeOf_11 ?_
    refine lv_goto (tgt := 16) hx hb dX2_codeOf_12 (by decide) ?_
    exact endI (v := (a1 ^^^ (a1 >>> ((1 : Int32) &&& (31 : Int32))))) hb hx hsg hr.symm hP hD hS dX2_codeOf_16 hlocks
def r_X2_pointerOf (S : CS) (a1 : Int32) : Int32 := (if (nb ((S 0) 1)) = (0 : Int32) then a1 else ((((a1 ^^^ (a1 >>> ((1 : Int32) &&& (31 : Int32)))) ^^^ (a1 >>> ((2 : Int32) &&& (31 : Int32)))) ^^^ (a1 >>> ((3 : Int32) &&& (31 : Int32)))) ^^^ (a1 >>> ((4 : Int32) &&& (31 : Int32)))))
abbrev rm_X2_pointerOf : Room := { frames := 0, cells := 0, slots := 0, locals := 0 }
set_option maxHeartbeats 4000000 in
set_option maxRecDepth 100000 in
theorem c_X2_pointerOf (l : Launch) (D : va_G) (cI cC cS : ClassId) (ad : Nat → Nat) (S : CS) (a1 : Int32)  : CI l D cI cC cS yX2_pointerOf wsX2_pointerOf rm_X2_pointerOf [.ref (ad 0), .int a1] (stW cI ad S) (stW cI ad S) (r_X2_pointerOf S a1) := by
  intro sz
  refine startC (cc := cX2_pointerOf) (maxL := 4) (ret := (some .int)) (by decide) rfl (Nat.le_of_ble_eq_true rfl) ?_
  intro p e s m args below meth c hx hb hml hsg hts hown hlocks hin hK A hA hS hP hD ls hl
  have hown : s.vm.findClass RX2 = some m.cls := hown
  have hl : lv_has ls 4 [(0, .ref (ad 0)), (1, .int a1)] := hl
  have hP : va_P D vwCl [((ad 0), stC ad (S 0)), ((ad 1), sdC (S 1)), ((ad 2), sdC (S 2)), ((ad 3), arC cI 16 (S 3)), ((ad 4), arC cI 16 (S 4)), ((ad 5), arC cI 20 (S 5)), ((ad 6), arC cI 16 (S 6))] s.heap := hP
  have hD : va_D A [((ad 0), stC ad (S 0)), ((ad 1), sdC (S 1)), ((ad 2), sdC (S 2)), ((ad 3), arC cI 16 (S 3)), ((ad 4), arC cI 16 (S 4)), ((ad 5), arC cI 20 (S 5)), ((ad 6), arC cI 16 (S 6))] := hD
  have inX2 : ∀ w ∈ wsX20, w ∈ wsX2_pointerOf := fun _ h => List.mem_cons_of_mem _ (List.mem_append_right _ h)
  have hr : (r_X2_pointerOf S a1) = (if (nb ((S 0) 1)) = (0 : Int32) then a1 else ((((a1 ^^^ (a1 >>> ((1 : Int32) &&& (31 : Int32)))) ^^^ (a1 >>> ((2 : Int32) &&& (31 : Int32)))) ^^^ (a1 >>> ((3 : Int32) &&& (31 : Int32)))) ^^^ (a1 >>> ((4 : Int32) &&& (31 : Int32))))) := rfl
  refine lv_aload_n hx hb dX2_pointerOf_0 rfl (lv_at hl 0 rfl) ?_
  refine va_get (D := D) (ci := 2) (v := .int (nb ((S 0) 1))) (C := RX2) (T := TX2) (N := 15) hx hb hts inX2 hown hK.1 hP 0 rfl rfl 1 (by decide) (hts (.fieldLink RX2 15 "GrayPointers$State" "gray" "Z") (List.mem_of_getElem? (i := 1) rfl)) (fun _ h9 => h9) rfl dX2_pointerOf_1 ?_
  refine lv_if_ne (tgt := 9) hx hb dX2_pointerOf_4 (by decide) (fun c4 => ?_) (fun c4 => ?_)
  · have hr := hr.trans (if_neg c4)
    refine lv_iload_n hx hb dX2_pointerOf_9 rfl (lv_at hl 1 rfl) ?_
    refine lv_istore_n (lv' := [(2, .int a1), (0, .ref (ad 0)), (1, .int a1)]) hx hb dX2_pointerOf_10 rfl hl (by decide) rfl (fun ls hl => ?_)
    refine lv_iconst (v := (1 : Int32)) hx hb dX2_pointerOf_11 (by decide) ?_
    refine lv_istore_n (lv' := [(3, .int (1 : Int32)), (2, .int a1), (0, .ref (ad 0)), (1, .int a1)]) hx hb dX2_pointerOf_12 rfl hl (by decide) rfl (fun ls hl => ?_)
    refine lv_iload_n hx hb dX2_pointerOf_13 rfl (lv_at hl 0 rfl) ?_
    refine lv_iconst (v := (4 : Int32)) hx hb dX2_pointerOf_14 (by decide) ?_
    refine lv_icmp_gt (tgt := 30) hx hb dX2_pointerOf_15 (by decide) (fun h9 => absurd h9 (by decide)) (fun _ => ?_)
    refine lv_iload_n hx hb dX2_pointerOf_18 rfl (lv_at hl 1 rfl) ?_
    refine lv_iload_n hx hb dX2_pointerOf_19 rfl (lv_at hl 3 rfl) ?_
    refine lv_iload_n hx hb dX2_pointerOf_20 rfl (lv_at hl 0 rfl) ?_
    refine lv_ishr hx hb dX2_pointerOf_21 ?_
    refine lv_ixor hx hb dX2_pointerOf_22 ?_
    refine lv_istore_n (lv' := [(2, .int (a1 ^^^ (a1 >>> ((1 : Int32) &&& (31 : Int32))))), (3, .int (1 : Int32)), (0, .ref (ad 0)), (1, .int a1)]) hx hb dX2_pointerOf_23 rfl hl (by decide) rfl (fun ls hl => ?_)
    refine lv_iinc (v := (2 : Int32)) (lv' := [(3, .int (2 : Int32)), (2, .int (a1 ^^^ (a1 >>> ((1 : Int32) &&& (31 : Int32))))), (0, .ref (ad 0)), (1, .int a1)]) hx hb dX2_pointerOf_24 hl (k := 1) rfl rfl (by decide) rfl (fun ls hl => ?_)
    refine lv_goto (tgt := 13) hx hb dX2_pointerOf_27 (by decide) ?_
    refine lv_iload_n hx hb dX2_pointerOf_13 rfl (lv_at hl 0 rfl) ?_
    refine lv_iconst (v := (4 : Int32)) hx hb dX2_pointerOf_14 (by decide) ?_
    refine lv_icmp_gt (tgt := 30) hx hb dX2_pointerOf_15 (by decide) (fun h9 => absurd h9 (by decide)) (fun _ => ?_)
    refine lv_iload_n hx hb dX2_pointerOf_18 rfl (lv_at hl 1 rfl) ?_
    refine lv_iload_n hx hb dX2_pointerOf_19 rfl (lv_at hl 3 rfl) ?_
    refine lv_iload_n hx hb dX2_pointerOf_20 rfl (lv_at hl 0 rfl) ?_
    refine lv_ishr hx hb dX2_pointerOf_21 ?_
    refine lv_ixor hx hb dX2_pointerOf_22 ?_
    refine lv_istore_n (lv' := [(2, .int ((a1 ^^^ (a1 >>> ((1 : Int32) &&& (31 : Int32)))) ^^^ (a1 >>> ((2 : Int32) &&& (31 : Int32))))), (3, .int (2 : Int32)), (0, .ref (ad 0)), (1, .int a1)]) hx hb dX2_pointerOf_23 rfl hl (by decide) rfl (fun ls hl => ?_)
    refine lv_iinc (v := (3 : Int32)) (lv' := [(3, .int (3 : Int32)), (2, .int ((a1 ^^^ (a1 >>> ((1 : Int32) &&& (31 : Int32)))) ^^^ (a1 >>> ((2 : Int32) &&& (31 : Int32))))), (0, .ref (ad 0)), (1, .int a1)]) hx hb dX2_pointerOf_24 hl (k := 1) rfl rfl (by decide) rfl (fun ls hl => ?_)
    refine lv_goto (tgt := 13) hx hb dX2_pointerOf_27 (by decide) ?_
    refine lv_iload_n hx hb dX2_pointerOf_13 rfl (lv_at hl 0 rfl) ?_
    refine lv_iconst (v := (4 : Int32)) hx hb dX2_pointerOf_14 (by decide) ?_
    refine lv_icmp_gt (tgt := 30) hx hb dX2_pointerOf_15 (by decide) (fun h9 => absurd h9 (by decide)) (fun _ => ?_)
    refine lv_iload_n hx hb dX2_pointerOf_18 rfl (lv_at hl 1 rfl) ?_
    refine lv_iload_n hx hb dX2_pointerOf_19 rfl (lv_at hl 3 rfl) ?_
    refine lv_iload_n hx hb dX2_pointerOf_20 rfl (lv_at hl 0 rfl) ?_
    refine lv_ishr hx hb dX2_pointerOf_21 ?_
    refine lv_ixor hx hb dX2_pointerOf_22 ?_
    refine lv_istore_n (lv' := [(2, .int (((a1 ^^^ (a1 >>> ((1 : Int32) &&& (31 : Int32)))) ^^^ (a1 >>> ((2 : Int32) &&& (31 : Int32)))) ^^^ (a1 >>> ((3 : Int32) &&& (31 : Int32))))), (3, .int (3 : Int32)), (0, .ref (ad 0)), (1, .int a1)]) hx hb dX2_pointerOf_23 rfl hl (by decide) rfl (fun ls hl => ?_)
    refine lv_iinc (v := (4 : Int32)) (lv' := [(3, .int (4 : Int32)), (2, .int (((a1 ^^^ (a1 >>> ((1 : Int32) &&& (31 : Int32)))) ^^^ (a1 >>> ((2 : Int32) &&& (31 : Int32)))) ^^^ (a1 >>> ((3 : Int32) &&& (31 : Int32))))), (0, .ref (ad 0)), (1, .int a1)]) hx hb dX2_pointerOf_24 hl (k := 1) rfl rfl (by decide) rfl (fun ls hl => ?_)
    refine lv_goto (tgt := 13) hx hb dX2_pointerOf_27 (by decide) ?_
    refine lv_iload_n hx hb dX2_pointerOf_13 rfl (lv_at hl 0 rfl) ?_
    refine lv_iconst (v := (4 : Int32)) hx hb dX2_pointerOf_14 (by decide) ?_
    refine lv_icmp_gt (tgt := 30) hx hb dX2_pointerOf_15 (by decide) (fun h9 => absurd h9 (by decide)) (fun _ => ?_)
    refine lv_iload_n hx hb dX2_pointerOf_18 rfl (lv_at hl 1 rfl) ?_
    refine lv_iload_n hx hb dX2_pointerOf_19 rfl (lv_at hl 3 rfl) ?_
    refine lv_iload_n hx hb dX2_pointerOf_20 rfl (lv_at hl 0 rfl) ?_
    refine lv_ishr hx hb dX2_pointerOf_21 ?_
    refine lv_ixor hx hb dX2_pointerOf_22 ?_
    refine lv_istore_n (lv' := [(2, .int ((((a1 ^^^ (a1 >>> ((1 : Int32) &&& (31 : Int32)))) ^^^ (a1 >>> ((2 : Int32) &&& (31 : Int32)))) ^^^ (a1 >>> ((3 : Int32) &&& (31 : Int32)))) ^^^ (a1 >>> ((4 : Int32) &&& (31 : Int32))))), (3, .int (4 : Int32)), (0, .ref (ad 0)), (1, .int a1)]) hx hb dX2_pointerOf_23 rfl hl (by decide) rfl (fun ls hl => ?_)
    refine lv_iinc (v := (5 : Int32)) (lv' := [(3, .int (5 : Int32)), (2, .int ((((a1 ^^^ (a1 >>> ((1 : Int32) &&& (31 : Int32)))) ^^^ (a1 >>> ((2 : Int32) &&& (31 : Int32)))) ^^^ (a1 >>> ((3 : Int32) &&& (31 : Int32)))) ^^^ (a1 >>> ((4 : Int32) &&& (31 : Int32))))), (0, .ref (ad 0)), (1, .int a1)]) hx hb dX2_pointerOf_24 hl (k := 1) rfl rfl (by decide) rfl (fun ls hl => ?_)
    refine lv_goto (tgt := 13) hx hb dX2_pointerOf_27 (by decide) ?_
    refine lv_iload_n hx hb dX2_pointerOf_13 rfl (lv_at hl 0 rfl) ?_
    refine lv_iconst (v := (4 : Int32)) hx hb dX2_pointerOf_14 (by decide) ?_
    refine lv_icmp_gt (tgt := 30) hx hb dX2_pointerOf_15 (by decide) (fun _ => ?_) (fun h9 => absurd h9 (by decide))
    refine lv_iload_n hx hb dX2_pointerOf_30 rfl (lv_at hl 1 rfl) ?_
    exact endI (v := ((((a1 ^^^ (a1 >>> ((1 : Int32) &&& (31 : Int32)))) ^^^ (a1 >>> ((2 : Int32) &&& (31 : Int32)))) ^^^ (a1 >>> ((3 : Int32) &&& (31 : Int32)))) ^^^ (a1 >>> ((4 : Int32) &&& (31 : Int32))))) hb hx hsg hr.symm hP hD hS dX2_pointerOf_31 hlocks
  · have hr := hr.trans (if_pos c4)
    refine lv_iload_n hx hb dX2_pointerOf_7 rfl (lv_at hl 1 rfl) ?_
    exact endI (v := a1) hb hx hsg hr.symm hP hD hS dX2_pointerOf_8 hlocks
def r_X2_fillToWriter (S : CS) : Int32 := (r_X2_around S (((S 1) 3) - (r_X2_pointerOf S ((S 1) 5))))
abbrev rm_X2_fillToWriter : Room := { frames := 2, cells := 0, slots := 0, locals := 41 }
set_option maxHeartbeats 4000000 in
set_option maxRecDepth 100000 in
theorem c_X2_fillToWriter (l : Launch) (D : va_G) (cI cC cS : ClassId) (ad : Nat → Nat) (S : CS)  : CI l D cI cC cS yX2_fillToWriter wsX2_fillToWriter rm_X2_fillToWriter [.ref (ad 0)] (stW cI ad S) (stW cI ad S) (r_X2_fillToWriter S) := by
  intro sz
  refine startC (cc := cX2_fillToWriter) (maxL := 1) (ret := (some .int)) (by decide) rfl (Nat.le_of_ble_eq_true rfl) ?_
  intro p e s m args below meth c hx hb hml hsg hts hown hlocks hin hK A hA hS hP hD ls hl
  have hown : s.vm.findClass RX2 = some m.cls := hown
  have hl : lv_has ls 1 [(0, .ref (ad 0))] := hl
  have hP : va_P D vwCl [((ad 0), stC ad (S 0)), ((ad 1), sdC (S 1)), ((ad 2), sdC (S 2)), ((ad 3), arC cI 16 (S 3)), ((ad 4), arC cI 16 (S 4)), ((ad 5), arC cI 20 (S 5)), ((ad 6), arC cI 16 (S 6))] s.heap := hP
  have hD : va_D A [((ad 0), stC ad (S 0)), ((ad 1), sdC (S 1)), ((ad 2), sdC (S 2)), ((ad 3), arC cI 16 (S 3)), ((ad 4), arC cI 16 (S 4)), ((ad 5), arC cI 20 (S 5)), ((ad 6), arC cI 16 (S 6))] := hD
  have inX1 : ∀ w ∈ wsX10, w ∈ wsX2_fillToWriter := fun _ h => List.mem_cons_of_mem _ (List.mem_append_right _ h)
  have inX2 : ∀ w ∈ wsX20, w ∈ wsX2_fillToWriter := fun _ h => List.mem_cons_of_mem _ (List.mem_append_left _ (List.mem_append_right _ h))
  have hr : (r_X2_fillToWriter S) = (r_X2_around S (((S 1) 3) - (r_X2_pointerOf S ((S 1) 5)))) := rfl
  refine lv_aload_n hx hb dX2_fillToWriter_0 rfl (lv_at hl 0 rfl) ?_
  refine lv_aload_n hx hb dX2_fillToWriter_1 rfl (lv_at hl 0 rfl) ?_
  refine va_get (D := D) (ci := 2) (v := .ref (ad 1)) (C := RX2) (T := TX2) (N := 15) hx hb hts inX2 hown hK.1 hP 0 rfl rfl 5 (by decide) (hts (.fieldLink RX2 30 "GrayPointers$State" "writer" "LGrayPointers$Side;") (List.mem_of_getElem? (i := 1) rfl)) (fun _ h9 => h9) rfl dX2_fillToWriter_2 ?_
  refine va_getN (D := D) (ci := 1) (v := .int ((S 1) 3)) (C := RX1) (T := TX1) (N := 8) hx hb hts inX1 hown hK.1 hP 1 rfl rfl 3 (by decide) (hK.nest 3 rfl _) (fun _ h9 => h9) rfl dX2_fillToWriter_5 ?_
  refine lv_aload_n hx hb dX2_fillToWriter_8 rfl (lv_at hl 0 rfl) ?_
  refine lv_aload_n hx hb dX2_fillToWriter_9 rfl (lv_at hl 0 rfl) ?_
  refine va_get (D := D) (ci := 2) (v := .ref (ad 1)) (C := RX2) (T := TX2) (N := 15) hx hb hts inX2 hown hK.1 hP 0 rfl rfl 5 (by decide) (hts (.fieldLink RX2 30 "GrayPointers$State" "writer" "LGrayPointers$Side;") (List.mem_of_getElem? (i := 1) rfl)) (fun _ h9 => h9) rfl dX2_fillToWriter_10 ?_
  refine va_getN (D := D) (ci := 1) (v := .int ((S 1) 5)) (C := RX1) (T := TX1) (N := 8) hx hb hts inX1 hown hK.1 hP 1 rfl rfl 5 (by decide) (hK.nest 6 rfl _) (fun _ h9 => h9) rfl dX2_fillToWriter_13 ?_
  refine goI (n := 7) (ws' := [((ad 0), stC ad (S 0)), ((ad 1), sdC (S 1)), ((ad 2), sdC (S 2)), ((ad 3), arC cI 16 (S 3)), ((ad 4), arC cI 16 (S 4)), ((ad 5), arC cI 20 (S 5)), ((ad 6), arC cI 16 (S 6))]) (rs := []) (va_runV (As := [.int ((S 1) 5)]) (rest := [.int ((S 1) 3), .ref (ad 0)]) ⟨hx, hb, hml, hown, hts⟩ (c_X2_pointerOf l D cI cC cS ad S ((S 1) 5)  _) (cwV 1 hts gX2_fillToWriter_X2_pointerOf rfl rfl rfl (by decide +kernel) ⟨Nat.le_of_ble_eq_true rfl, Nat.le_of_ble_eq_true rfl⟩) (preV hK hP hD [0, 1, 2, 3, 4, 5, 6] (by decide) rfl 0 2 rfl rfl) rfl rfl hl.1 rfl (lv_room (Nat.le_of_ble_eq_true rfl)) dX2_fillToWriter_16 ⟨Nat.zero_le _, Nat.zero_le _⟩) hP hD hS hA [0, 1, 2, 3, 4, 5, 6] [] rfl rfl rfl rfl rfl (by decide +kernel) rfl (fun H locs hP hD hS => ?_)
  refine lv_isub hx hb dX2_fillToWriter_19 ?_
  refine goI (n := 7) (ws' := [((ad 0), stC ad (S 0)), ((ad 1), sdC (S 1)), ((ad 2), sdC (S 2)), ((ad 3), arC cI 16 (S 3)), ((ad 4), arC cI 16 (S 4)), ((ad 5), arC cI 20 (S 5)), ((ad 6), arC cI 16 (S 6))]) (rs := []) (va_runV (As := [.int (((S 1) 3) - (r_X2_pointerOf S ((S 1) 5)))]) (rest := []) ⟨hx, hb, hml, hown, hts⟩ (c_X2_around l D cI cC cS ad S (((S 1) 3) - (r_X2_pointerOf S ((S 1) 5)))  _) (cwV 1 hts gX2_fillToWriter_X2_around rfl rfl rfl (by decide +kernel) ⟨Nat.le_of_ble_eq_true rfl, Nat.le_of_ble_eq_true rfl⟩) (preV hK hP hD [0, 1, 2, 3, 4, 5, 6] (by decide) rfl 0 2 rfl rfl) rfl rfl hl.1 rfl (lv_room (Nat.le_of_ble_eq_true rfl)) dX2_fillToWriter_20 ⟨Nat.zero_le _, Nat.zero_le _⟩) hP hD hS hA [0, 1, 2, 3, 4, 5, 6] [] rfl rfl rfl rfl rfl (by decide +kernel) rfl (fun H locs hP hD hS => ?_)
  exact endI (v := (r_X2_around S (((S 1) 3) - (r_X2_pointerOf S ((S 1) 5))))) hb hx hsg hr.symm hP hD hS dX2_fillToWriter_23 hlocks
def r_X2_fillToReader (S : CS) : Int32 := (r_X2_around S ((r_X2_pointerOf S ((S 2) 5)) - ((S 2) 3)))
abbrev rm_X2_fillToReader : Room := { frames := 2, cells := 0, slots := 0, locals := 41 }
set_option maxHeartbeats 4000000 in
set_option maxRecDepth 100000 in
theorem c_X2_fillToReader (l : Launch) (D : va_G) (cI cC cS : ClassId) (ad : Nat → Nat) (S : CS)  : CI l D cI cC cS yX2_fillToReader wsX2_fillToReader rm_X2_fillToReader [.ref (ad 0)] (stW cI ad S) (stW cI ad S) (r_X2_fillToReader S) := by
  intro sz
  refine startC (cc := cX2_fillToReader) (maxL := 1) (ret := (some .int)) (by decide) rfl (Nat.le_of_ble_eq_true rfl) ?_
  intro p e s m args below meth c hx hb hml hsg hts hown hlocks hin hK A hA hS hP hD ls hl
  have hown : s.vm.findClass RX2 = some m.cls := hown
  have hl : lv_has ls 1 [(0, .ref (ad 0))] := hl
  have hP : va_P D vwCl [((ad 0), stC ad (S 0)), ((ad 1), sdC (S 1)), ((ad 2), sdC (S 2)), ((ad 3), arC cI 16 (S 3)), ((ad 4), arC cI 16 (S 4)), ((ad 5), arC cI 20 (S 5)), ((ad 6), arC cI 16 (S 6))] s.heap := hP
  have hD : va_D A [((ad 0), stC ad (S 0)), ((ad 1), sdC (S 1)), ((ad 2), sdC (S 2)), ((ad 3), arC cI 16 (S 3)), ((ad 4), arC cI 16 (S 4)), ((ad 5), arC cI 20 (S 5)), ((ad 6), arC cI 16 (S 6))] := hD
  have inX1 : ∀ w ∈ wsX10, w ∈ wsX2_fillToReader := fun _ h => List.mem_cons_of_mem _ (List.mem_append_right _ h)
  have inX2 : ∀ w ∈ wsX20, w ∈ wsX2_fillToReader := fun _ h => List.mem_cons_of_mem _ (List.mem_append_left _ (List.mem_append_right _ h))
  have hr : (r_X2_fillToReader S) = (r_X2_around S ((r_X2_pointerOf S ((S 2) 5)) - ((S 2) 3))) := rfl
  refine lv_aload_n hx hb dX2_fillToReader_0 rfl (lv_at hl 0 rfl) ?_
  refine lv_aload_n hx hb dX2_fillToReader_1 rfl (lv_at hl 0 rfl) ?_
  refine lv_aload_n hx hb dX2_fillToReader_2 rfl (lv_at hl 0 rfl) ?_
  refine va_get (D := D) (ci := 2) (v := .ref (ad 2)) (C := RX2) (T := TX2) (N := 15) hx hb hts inX2 hown hK.1 hP 0 rfl rfl 6 (by decide) (hts (.fieldLink RX2 34 "GrayPointers$State" "reader" "LGrayPointers$Side;") (List.mem_of_getElem? (i := 1) rfl)) (fun _ h9 => h9) rfl dX2_fillToReader_3 ?_
  refine va_getN (D := D) (ci := 1) (v := .int ((S 2) 5)) (C := RX1) (T := TX1) (N := 8) hx hb hts inX1 hown hK.1 hP 2 rfl rfl 5 (by decide) (hK.nest 6 rfl _) (fun _ h9 => h9) rfl dX2_fillToReader_6 ?_
  refine goI (n := 7) (ws' := [((ad 0), stC ad (S 0)), ((ad 1), sdC (S 1)), ((ad 2), sdC (S 2)), ((ad 3), arC cI 16 (S 3)), ((ad 4), arC cI 16 (S 4)), ((ad 5), arC cI 20 (S 5)), ((ad 6), arC cI 16 (S 6))]) (rs := []) (va_runV (As := [.int ((S 2) 5)]) (rest := [.ref (ad 0)]) ⟨hx, hb, hml, hown, hts⟩ (c_X2_pointerOf l D cI cC cS ad S ((S 2) 5)  _) (cwV 1 hts gX2_fillToReader_X2_pointerOf rfl rfl rfl (by decide +kernel) ⟨Nat.le_of_ble_eq_true rfl, Nat.le_of_ble_eq_true rfl⟩) (preV hK hP hD [0, 1, 2, 3, 4, 5, 6] (by decide) rfl 0 2 rfl rfl) rfl rfl hl.1 rfl (lv_room (Nat.le_of_ble_eq_true rfl)) dX2_fillToReader_9 ⟨Nat.zero_le _, Nat.zero_le _⟩) hP hD hS hA [0, 1, 2, 3, 4, 5, 6] [] rfl rfl rfl rfl rfl (by decide +kernel) rfl (fun H locs hP hD hS => ?_)
  refine lv_aload_n hx hb dX2_fillToReader_12 rfl (lv_at hl 0 rfl) ?_
  refine va_get (D := D) (ci := 2) (v := .ref (ad 2)) (C := RX2) (T := TX2) (N := 15) hx hb hts inX2 hown hK.1 hP 0 rfl rfl 6 (by decide) (hts (.fieldLink RX2 34 "GrayPointers$State" "reader" "LGrayPointers$Side;") (List.mem_of_getElem? (i := 1) rfl)) (fun _ h9 => h9) rfl dX2_fillToReader_13 ?_
  refine va_getN (D := D) (ci := 1) (v := .int ((S 2) 3)) (C := RX1) (T := TX1) (N := 8) hx hb hts inX1 hown hK.1 hP 2 rfl rfl 3 (by decide) (hK.nest 3 rfl _) (fun _ h9 => h9) rfl dX2_fillToReader_16 ?_
  refine lv_isub hx hb dX2_fillToReader_19 ?_
  refine goI (n := 7) (ws' := [((ad 0), stC ad (S 0)), ((ad 1), sdC (S 1)), ((ad 2), sdC (S 2)), ((ad 3), arC cI 16 (S 3)), ((ad 4), arC cI 16 (S 4)), ((ad 5), arC cI 20 (S 5)), ((ad 6), arC cI 16 (S 6))]) (rs := []) (va_runV (As := [.int ((r_X2_pointerOf S ((S 2) 5)) - ((S 2) 3))]) (rest := []) ⟨hx, hb, hml, hown, hts⟩ (c_X2_around l D cI cC cS ad S ((r_X2_pointerOf S ((S 2) 5)) - ((S 2) 3))  _) (cwV 1 hts gX2_fillToReader_X2_around rfl rfl rfl (by decide +kernel) ⟨Nat.le_of_ble_eq_true rfl, Nat.le_of_ble_eq_true rfl⟩) (preV hK hP hD [0, 1, 2, 3, 4, 5, 6] (by decide) rfl 0 2 rfl rfl) rfl rfl hl.1 rfl (lv_room (Nat.le_of_ble_eq_true rfl)) dX2_fillToReader_20 ⟨Nat.zero_le _, Nat.zero_le _⟩) hP hD hS hA [0, 1, 2, 3, 4, 5, 6] [] rfl rfl rfl rfl rfl (by decide +kernel) rfl (fun H locs hP hD hS => ?_)
  exact endI (v := (r_X2_around S ((r_X2_pointerOf S ((S 2) 5)) - ((S 2) 3)))) hb hx hsg hr.symm hP hD hS dX2_fillToReader_23 hlocks
def r_X2_seemsFull (S : CS) : Int32 := (if (r_X2_pointerOf S ((S 1) 5)) = (r_X2_around S (((S 1) 3) + (r_X2_depth S))) then (1 : Int32) else (0 : Int32))
abbrev rm_X2_seemsFull : Room := { frames := 2, cells := 0, slots := 0, locals := 41 }
set_option maxHeartbeats 4000000 in
set_option maxRecDepth 100000 in
theorem c_X2_seemsFull (l : Launch) (D : va_G) (cI cC cS : ClassId) (ad : Nat → Nat) (S : CS)  : CI l D cI cC cS yX2_seemsFull wsX2_seemsFull rm_X2_seemsFull [.ref (ad 0)] (stW cI ad S) (stW cI ad S) (r_X2_seemsFull S) := by
  intro sz
  refine startC (cc := cX2_seemsFull) (maxL := 1) (ret := (some .boolean)) (by decide) rfl (Nat.le_of_ble_eq_true rfl) ?_
  intro p e s m args below meth c hx hb hml hsg hts hown hlocks hin hK A hA hS hP hD ls hl
  have hown : s.vm.findClass RX2 = some m.cls := hown
  have hl : lv_has ls 1 [(0, .ref (ad 0))] := hl
  have hP : va_P D vwCl [((ad 0), stC ad (S 0)), ((ad 1), sdC (S 1)), ((ad 2), sdC (S 2)), ((ad 3), arC cI 16 (S 3)), ((ad 4), arC cI 16 (S 4)), ((ad 5), arC cI 20 (S 5)), ((ad 6), arC cI 16 (S 6))] s.heap := hP
  have hD : va_D A [((ad 0), stC ad (S 0)), ((ad 1), sdC (S 1)), ((ad 2), sdC (S 2)), ((ad 3), arC cI 16 (S 3)), ((ad 4), arC cI 16 (S 4)), ((ad 5), arC cI 20 (S 5)), ((ad 6), arC cI 16 (S 6))] := hD
  have inX1 : ∀ w ∈ wsX10, w ∈ wsX2_seemsFull := fun _ h => List.mem_cons_of_mem _ (List.mem_append_right _ h)
  have inX2 : ∀ w ∈ wsX20, w ∈ wsX2_seemsFull := fun _ h => List.mem_cons_of_mem _ (List.mem_append_left _ (List.mem_append_right _ h))
  have hr : (r_X2_seemsFull S) = (if (r_X2_pointerOf S ((S 1) 5)) = (r_X2_around S (((S 1) 3) + (r_X2_depth S))) then (1 : Int32) else (0 : Int32)) := rfl
  refine lv_aload_n hx hb dX2_seemsFull_0 rfl (lv_at hl 0 rfl) ?_
  refine lv_aload_n hx hb dX2_seemsFull_1 rfl (lv_at hl 0 rfl) ?_
  refine va_get (D := D) (ci := 2) (v := .ref (ad 1)) (C := RX2) (T := TX2) (N := 15) hx hb hts inX2 hown hK.1 hP 0 rfl rfl 5 (by decide) (hts (.fieldLink RX2 30 "GrayPointers$State" "writer" "LGrayPointers$Side;") (List.mem_of_getElem? (i := 1) rfl)) (fun _ h9 => h9) rfl dX2_seemsFull_2 ?_
  refine va_getN (D := D) (ci := 1) (v := .int ((S 1) 5)) (C := RX1) (T := TX1) (N := 8) hx hb hts inX1 hown hK.1 hP 1 rfl rfl 5 (by decide) (hK.nest 6 rfl _) (fun _ h9 => h9) rfl dX2_seemsFull_5 ?_
  refine goI (n := 7) (ws' := [((ad 0), stC ad (S 0)), ((ad 1), sdC (S 1)), ((ad 2), sdC (S 2)), ((ad 3), arC cI 16 (S 3)), ((ad 4), arC cI 16 (S 4)), ((ad 5), arC cI 20 (S 5)), ((ad 6), arC cI 16 (S 6))]) (rs := []) (va_runV (As := [.int ((S 1) 5)]) (rest := []) ⟨hx, hb, hml, hown, hts⟩ (c_X2_pointerOf l D cI cC cS ad S ((S 1) 5)  _) (cwV 1 hts gX2_seemsFull_X2_pointerOf rfl rfl rfl (by decide +kernel) ⟨Nat.le_of_ble_eq_true rfl, Nat.le_of_ble_eq_true rfl⟩) (preV hK hP hD [0, 1, 2, 3, 4, 5, 6] (by decide) rfl 0 2 rfl rfl) rfl rfl hl.1 rfl (lv_room (Nat.le_of_ble_eq_true rfl)) dX2_seemsFull_8 ⟨Nat.zero_le _, Nat.zero_le _⟩) hP hD hS hA [0, 1, 2, 3, 4, 5, 6] [] rfl rfl rfl rfl rfl (by decide +kernel) rfl (fun H locs hP hD hS => ?_)
  refine lv_aload_n hx hb dX2_seemsFull_11 rfl (lv_at hl 0 rfl) ?_
  refine lv_aload_n hx hb dX2_seemsFull_12 rfl (lv_at hl 0 rfl) ?_
  refine va_get (D := D) (ci := 2) (v := .ref (ad 1)) (C := RX2) (T := TX2) (N := 15) hx hb hts inX2 hown hK.1 hP 0 rfl rfl 5 (by decide) (hts (.fieldLink RX2 30 "GrayPointers$State" "writer" "LGrayPointers$Side;") (List.mem_of_getElem? (i := 1) rfl)) (fun _ h9 => h9) rfl dX2_seemsFull_13 ?_
  refine va_getN (D := D) (ci := 1) (v := .int ((S 1) 3)) (C := RX1) (T := TX1) (N := 8) hx hb hts inX1 hown hK.1 hP 1 rfl rfl 3 (by decide) (hK.nest 3 rfl _) (fun _ h9 => h9) rfl dX2_seemsFull_16 ?_
  refine lv_aload_n hx hb dX2_seemsFull_19 rfl (lv_at hl 0 rfl) ?_
  refine goI (n := 7) (ws' := [((ad 0), stC ad (S 0)), ((ad 1), sdC (S 1)), ((ad 2), sdC (S 2)), ((ad 3), arC cI 16 (S 3)), ((ad 4), arC cI 16 (S 4)), ((ad 5), arC cI 20 (S 5)), ((ad 6), arC cI 16 (S 6))]) (rs := []) (va_runV (As := []) (rest := [.int ((S 1) 3), .ref (ad 0), .int (r_X2_pointerOf S ((S 1) 5))]) ⟨hx, hb, hml, hown, hts⟩ (c_X2_depth l D cI cC cS ad S  _) (cwV 0 hts gX2_seemsFull_X2_depth rfl rfl rfl (by decide +kernel) ⟨Nat.le_of_ble_eq_true rfl, Nat.le_of_ble_eq_true rfl⟩) (preV hK hP hD [0, 1, 2, 3, 4, 5, 6] (by decide) rfl 0 2 rfl rfl) rfl rfl hl.1 rfl (lv_room (Nat.le_of_ble_eq_true rfl)) dX2_seemsFull_20 ⟨Nat.zero_le _, Nat.zero_le _⟩) hP hD hS hA [0, 1, 2, 3, 4, 5, 6] [] rfl rfl rfl rfl rfl (by decide +kernel) rfl (fun H locs hP hD hS => ?_)
  refine lv_iadd hx hb dX2_seemsFull_23 ?_
  refine goI (n := 7) (ws' := [((ad 0), stC ad (S 0)), ((ad 1), sdC (S 1)), ((ad 2), sdC (S 2)), ((ad 3), arC cI 16 (S 3)), ((ad 4), arC cI 16 (S 4)), ((ad 5), arC cI 20 (S 5)), ((ad 6), arC cI 16 (S 6))]) (rs := []) (va_runV (As := [.int (((S 1) 3) + (r_X2_depth S))]) (rest := [.int (r_X2_pointerOf S ((S 1) 5))]) ⟨hx, hb, hml, hown, hts⟩ (c_X2_around l D cI cC cS ad S (((S 1) 3) + (r_X2_depth S))  _) (cwV 1 hts gX2_seemsFull_X2_around rfl rfl rfl (by decide +kernel) ⟨Nat.le_of_ble_eq_true rfl, Nat.le_of_ble_eq_true rfl⟩) (preV hK hP hD [0, 1, 2, 3, 4, 5, 6] (by decide) rfl 0 2 rfl rfl) rfl rfl hl.1 rfl (lv_room (Nat.le_of_ble_eq_true rfl)) dX2_seemsFull_24 ⟨Nat.zero_le _, Nat.zero_le _⟩) hP hD hS hA [0, 1, 2, 3, 4, 5, 6] [] rfl rfl rfl rfl rfl (by decide +kernel) rfl (fun H locs hP hD hS => ?_)
  refine lv_icmp_ne (tgt := 34) hx hb dX2_seemsFull_27 (by decide) (fun c27 => ?_) (fun c27 => ?_)
  · have hr := hr.trans (if_neg c27)
    refine lv_iconst (v := (0 : Int32)) hx hb dX2_seemsFull_34 (by decide) ?_
    exact endZ (v := (0 : Int32)) hb hx hsg rfl hr.symm hP hD hS dX2_seemsFull_35 hlocks
  · have hr := hr.trans (if_pos c27)
    refine lv_iconst (v := (1 : Int32)) hx hb dX2_seemsFull_30 (by decide) ?_
    refine lv_goto (tgt := 35) hx hb dX2_seemsFull_31 (by decide) ?_
    exact endZ (v := (1 : Int32)) hb hx hsg rfl hr.symm hP hD hS dX2_seemsFull_35 hlocks
def r_X2_seemsEmpty (S : CS) : Int32 := (if (r_X2_pointerOf S ((S 2) 5)) = ((S 2) 3) then (1 : Int32) else (0 : Int32))
abbrev rm_X2_seemsEmpty : Room := { frames := 1, cells := 0, slots := 0, locals := 23 }
set_option maxHeartbeats 4000000 in
set_option maxRecDepth 100000 in
theorem c_X2_seemsEmpty (l : Launch) (D : va_G) (cI cC cS : ClassId) (ad : Nat → Nat) (S : CS)  : CI l D cI cC cS yX2_seemsEmpty wsX2_seemsEmpty rm_X2_seemsEmpty [.ref (ad 0)] (stW cI ad S) (stW cI ad S) (r_X2_seemsEmpty S) := by
  intro sz
  refine startC (cc := cX2_seemsEmpty) (maxL := 1) (ret := (some .boolean)) (by decide) rfl (Nat.le_of_ble_eq_true rfl) ?_
  intro p e s m args below meth c hx hb hml hsg hts hown hlocks hin hK A hA hS hP hD ls hl
  have hown : s.vm.findClass RX2 = some m.cls := hown
  have hl : lv_has ls 1 [(0, .ref (ad 0))] := hl
  have hP : va_P D vwCl [((ad 0), stC ad (S 0)), ((ad 1), sdC (S 1)), ((ad 2), sdC (S 2)), ((ad 3), arC cI 16 (S 3)), ((ad 4), arC cI 16 (S 4)), ((ad 5), arC cI 20 (S 5)), ((ad 6), arC cI 16 (S 6))] s.heap := hP
  have hD : va_D A [((ad 0), stC ad (S 0)), ((ad 1), sdC (S 1)), ((ad 2), sdC (S 2)), ((ad 3), arC cI 16 (S 3)), ((ad 4), arC cI 16 (S 4)), ((ad 5), arC cI 20 (S 5)), ((ad 6), arC cI 16 (S 6))] := hD
  have inX1 : ∀ w ∈ wsX10, w ∈ wsX2_seemsEmpty := fun _ h => List.mem_cons_of_mem _ (List.mem_append_right _ h)
  have inX2 : ∀ w ∈ wsX20, w ∈ wsX2_seemsEmpty := fun _ h => List.mem_cons_of_mem _ (List.mem_append_left _ (List.mem_append_right _ h))
  have hr : (r_X2_seemsEmpty S) = (if (r_X2_pointerOf S ((S 2) 5)) = ((S 2) 3) then (1 : Int32) else (0 : Int32)) := rfl
  refine lv_aload_n hx hb dX2_seemsEmpty_0 rfl (lv_at hl 0 rfl) ?_
  refine lv_aload_n hx hb dX2_seemsEmpty_1 rfl (lv_at hl 0 rfl) ?_
  refine va_get (D := D) (ci := 2) (v := .ref (ad 2)) (C := RX2) (T := TX2) (N := 15) hx hb hts inX2 hown hK.1 hP 0 rfl rfl 6 (by decide) (hts (.fieldLink RX2 34 "GrayPointers$State" "reader" "LGrayPointers$Side;") (List.mem_of_getElem? (i := 1) rfl)) (fun _ h9 => h9) rfl dX2_seemsEmpty_2 ?_
  refine va_getN (D := D) (ci := 1) (v := .int ((S 2) 5)) (C := RX1) (T := TX1) (N := 8) hx hb hts inX1 hown hK.1 hP 2 rfl rfl 5 (by decide) (hK.nest 6 rfl _) (fun _ h9 => h9) rfl dX2_seemsEmpty_5 ?_
  refine goI (n := 7) (ws' := [((ad 0), stC ad (S 0)), ((ad 1), sdC (S 1)), ((ad 2), sdC (S 2)), ((ad 3), arC cI 16 (S 3)), ((ad 4), arC cI 16 (S 4)), ((ad 5), arC cI 20 (S 5)), ((ad 6), arC cI 16 (S 6))]) (rs := []) (va_runV (As := [.int ((S 2) 5)]) (rest := []) ⟨hx, hb, hml, hown, hts⟩ (c_X2_pointerOf l D cI cC cS ad S ((S 2) 5)  _) (cwV 1 hts gX2_seemsEmpty_X2_pointerOf rfl rfl rfl (by decide +kernel) ⟨Nat.le_of_ble_eq_true rfl, Nat.le_of_ble_eq_true rfl⟩) (preV hK hP hD [0, 1, 2, 3, 4, 5, 6] (by decide) rfl 0 2 rfl rfl) rfl rfl hl.1 rfl (lv_room (Nat.le_of_ble_eq_true rfl)) dX2_seemsEmpty_8 ⟨Nat.zero_le _, Nat.zero_le _⟩) hP hD hS hA [0, 1, 2, 3, 4, 5, 6] [] rfl rfl rfl rfl rfl (by decide +kernel) rfl (fun H locs hP hD hS => ?_)
  refine lv_aload_n hx hb dX2_seemsEmpty_11 rfl (lv_at hl 0 rfl) ?_
  refine va_get (D := D) (ci := 2) (v := .ref (ad 2)) (C := RX2) (T := TX2) (N := 15) hx hb hts inX2 hown hK.1 hP 0 rfl rfl 6 (by decide) (hts (.fieldLink RX2 34 "GrayPointers$State" "reader" "LGrayPointers$Side;") (List.mem_of_getElem? (i := 1) rfl)) (fun _ h9 => h9) rfl dX2_seemsEmpty_12 ?_
  refine va_getN (D := D) (ci := 1) (v := .int ((S 2) 3)) (C := RX1) (T := TX1) (N := 8) hx hb hts inX1 hown hK.1 hP 2 rfl rfl 3 (by decide) (hK.nest 3 rfl _) (fun _ h9 => h9) rfl dX2_seemsEmpty_15 ?_
  refine lv_icmp_ne (tgt := 25) hx hb dX2_seemsEmpty_18 (by decide) (fun c18 => ?_) (fun c18 => ?_)
  · have hr := hr.trans (if_neg c18)
    refine lv_iconst (v := (0 : Int32)) hx hb dX2_seemsEmpty_25 (by decide) ?_
    exact endZ (v := (0 : Int32)) hb hx hsg rfl hr.symm hP hD hS dX2_seemsEmpty_26 hlocks
  · have hr := hr.trans (if_pos c18)
    refine lv_iconst (v := (1 : Int32)) hx hb dX2_seemsEmpty_21 (by decide) ?_
    refine lv_goto (tgt := 26) hx hb dX2_seemsEmpty_22 (by decide) ?_
    exact endZ (v := (1 : Int32)) hb hx hsg rfl hr.symm hP hD hS dX2_seemsEmpty_26 hlocks
def r_X2_seemsNearFull (S : CS) : Int32 := (if (r_X2_fillToWriter S) < ((r_X2_depth S) - ((S 0) 3)) then (0 : Int32) else (1 : Int32))
abbrev rm_X2_seemsNearFull : Room := { frames := 3, cells := 0, slots := 0, locals := 61 }
set_option maxHeartbeats 4000000 in
set_option maxRecDepth 100000 in
theorem c_X2_seemsNearFull (l : Launch) (D : va_G) (cI cC cS : ClassId) (ad : Nat → Nat) (S : CS)  : CI l D cI cC cS yX2_seemsNearFull wsX2_seemsNearFull rm_X2_seemsNearFull [.ref (ad 0)] (stW cI ad S) (stW cI ad S) (r_X2_seemsNearFull S) := by
  intro sz
  refine startC (cc := cX2_seemsNearFull) (maxL := 1) (ret := (some .boolean)) (by decide) rfl (Nat.le_of_ble_eq_true rfl) ?_
  intro p e s m args below meth c hx hb hml hsg hts hown hlocks hin hK A hA hS hP hD ls hl
  have hown : s.vm.findClass RX2 = some m.cls := hown
  have hl : lv_has ls 1 [(0, .ref (ad 0))] := hl
  have hP : va_P D vwCl [((ad 0), stC ad (S 0)), ((ad 1), sdC (S 1)), ((ad 2), sdC (S 2)), ((ad 3), arC cI 16 (S 3)), ((ad 4), arC cI 16 (S 4)), ((ad 5), arC cI 20 (S 5)), ((ad 6), arC cI 16 (S 6))] s.heap := hP
  have hD : va_D A [((ad 0), stC ad (S 0)), ((ad 1), sdC (S 1)), ((ad 2), sdC (S 2)), ((ad 3), arC cI 16 (S 3)), ((ad 4), arC cI 16 (S 4)), ((ad 5), arC cI 20 (S 5)), ((ad 6), arC cI 16 (S 6))] := hD
  have inX2 : ∀ w ∈ wsX20, w ∈ wsX2_seemsNearFull := fun _ h => List.mem_cons_of_mem _ (List.mem_append_left _ (List.mem_append_right _ h))
  have hr : (r_X2_seemsNearFull S) = (if (r_X2_fillToWriter S) < ((r_X2_depth S) - ((S 0) 3)) then (0 : Int32) else (1 : Int32)) := rfl
  refine lv_aload_n hx hb dX2_seemsNearFull_0 rfl (lv_at hl 0 rfl) ?_
  refine goI (n := 7) (ws' := [((ad 0), stC ad (S 0)), ((ad 1), sdC (S 1)), ((ad 2), sdC (S 2)), ((ad 3), arC cI 16 (S 3)), ((ad 4), arC cI 16 (S 4)), ((ad 5), arC cI 20 (S 5)), ((ad 6), arC cI 16 (S 6))]) (rs := []) (va_runV (As := []) (rest := []) ⟨hx, hb, hml, hown, hts⟩ (c_X2_fillToWriter l D cI cC cS ad S  _) (cwV 0 hts gX2_seemsNearFull_X2_fillToWriter rfl rfl rfl (by decide +kernel) ⟨Nat.le_of_ble_eq_true rfl, Nat.le_of_ble_eq_true rfl⟩) (preV hK hP hD [0, 1, 2, 3, 4, 5, 6] (by decide) rfl 0 2 rfl rfl) rfl rfl hl.1 rfl (lv_room (Nat.le_of_ble_eq_true rfl)) dX2_seemsNearFull_1 ⟨Nat.zero_le _, Nat.zero_le _⟩) hP hD hS hA [0, 1, 2, 3, 4, 5, 6] [] rfl rfl rfl rfl rfl (by decide +kernel) rfl (fun H locs hP hD hS => ?_)
  refine lv_aload_n hx hb dX2_seemsNearFull_4 rfl (lv_at hl 0 rfl) ?_
  refine goI (n := 7) (ws' := [((ad 0), stC ad (S 0)), ((ad 1), sdC (S 1)), ((ad 2), sdC (S 2)), ((ad 3), arC cI 16 (S 3)), ((ad 4), arC cI 16 (S 4)), ((ad 5), arC cI 20 (S 5)), ((ad 6), arC cI 16 (S 6))]) (rs := []) (va_runV (As := []) (rest := [.int (r_X2_fillToWriter S)]) ⟨hx, hb, hml, hown, hts⟩ (c_X2_depth l D cI cC cS ad S  _) (cwV 0 hts gX2_seemsNearFull_X2_depth rfl rfl rfl (by decide +kernel) ⟨Nat.le_of_ble_eq_true rfl, Nat.le_of_ble_eq_true rfl⟩) (preV hK hP hD [0, 1, 2, 3, 4, 5, 6] (by decide) rfl 0 2 rfl rfl) rfl rfl hl.1 rfl (lv_room (Nat.le_of_ble_eq_true rfl)) dX2_seemsNearFull_5 ⟨Nat.zero_le _, Nat.zero_le _⟩) hP hD hS hA [0, 1, 2, 3, 4, 5, 6] [] rfl rfl rfl rfl rfl (by decide +kernel) rfl (fun H locs hP hD hS => ?_)
  refine lv_aload_n hx hb dX2_seemsNearFull_8 rfl (lv_at hl 0 rfl) ?_
  refine va_get (D := D) (ci := 2) (v := .int ((S 0) 3)) (C := RX2) (T := TX2) (N := 15) hx hb hts inX2 hown hK.1 hP 0 rfl rfl 3 (by decide) (hts (.fieldLink RX2 19 "GrayPointers$State" "nearFull" "I") (List.mem_of_getElem? (i := 1) rfl)) (fun _ h9 => h9) rfl dX2_seemsNearFull_9 ?_
  refine lv_isub hx hb dX2_seemsNearFull_12 ?_
  refine lv_icmp_lt (tgt := 20) hx hb dX2_seemsNearFull_13 (by decide) (fun c13 => ?_) (fun c13 => ?_)
  · have hr := hr.trans (if_pos c13)
    refine lv_iconst (v := (0 : Int32)) hx hb dX2_seemsNearFull_20 (by decide) ?_
    exact endZ (v := (0 : Int32)) hb hx hsg rfl hr.symm hP hD hS dX2_seemsNearFull_21 hlocks
  · have hr := hr.trans (if_neg c13)
    refine lv_iconst (v := (1 : Int32)) hx hb dX2_seemsNearFull_16 (by decide) ?_
    refine lv_goto (tgt := 21) hx hb dX2_seemsNearFull_17 (by decide) ?_
    exact endZ (v := (1 : Int32)) hb hx hsg rfl hr.symm hP hD hS dX2_seemsNearFull_21 hlocks
def r_X2_seemsNearEmpty (S : CS) : Int32 := (if ((S 0) 4) < (r_X2_fillToReader S) then (0 : Int32) else (1 : Int32))
abbrev rm_X2_seemsNearEmpty : Room := { frames := 3, cells := 0, slots := 0, locals := 61 }
set_option maxHeartbeats 4000000 in
set_option maxRecDepth 100000 in
theorem c_X2_seemsNearEmpty (l : Launch) (D : va_G) (cI cC cS : ClassId) (ad : Nat → Nat) (S : CS)  : CI l D cI cC cS yX2_seemsNearEmpty wsX2_seemsNearEmpty rm_X2_seemsNearEmpty [.ref (ad 0)] (stW cI ad S) (stW cI ad S) (r_X2_seemsNearEmpty S) := by
  intro sz
  refine startC (cc := cX2_seemsNearEmpty) (maxL := 1) (ret := (some .boolean)) (by decide) rfl (Nat.le_of_ble_eq_true rfl) ?_
  intro p e s m args below meth c hx hb hml hsg hts hown hlocks hin hK A hA hS hP hD ls hl
  have hown : s.vm.findClass RX2 = some m.cls := hown
  have hl : lv_has ls 1 [(0, .ref (ad 0))] := hl
  have hP : va_P D vwCl [((ad 0), stC ad (S 0)), ((ad 1), sdC (S 1)), ((ad 2), sdC (S 2)), ((ad 3), arC cI 16 (S 3)), ((ad 4), arC cI 16 (S 4)), ((ad 5), arC cI 20 (S 5)), ((ad 6), arC cI 16 (S 6))] s.heap := hP
  have hD : va_D A [((ad 0), stC ad (S 0)), ((ad 1), sdC (S 1)), ((ad 2), sdC (S 2)), ((ad 3), arC cI 16 (S 3)), ((ad 4), arC cI 16 (S 4)), ((ad 5), arC cI 20 (S 5)), ((ad 6), arC cI 16 (S 6))] := hD
  have inX2 : ∀ w ∈ wsX20, w ∈ wsX2_seemsNearEmpty := fun _ h => List.mem_cons_of_mem _ (List.mem_append_left _ (List.mem_append_right _ h))
  have hr : (r_X2_seemsNearEmpty S) = (if ((S 0) 4) < (r_X2_fillToReader S) then (0 : Int32) else (1 : Int32)) := rfl
  refine lv_aload_n hx hb dX2_seemsNearEmpty_0 rfl (lv_at hl 0 rfl) ?_
  refine goI (n := 7) (ws' := [((ad 0), stC ad (S 0)), ((ad 1), sdC (S 1)), ((ad 2), sdC (S 2)), ((ad 3), arC cI 16 (S 3)), ((ad 4), arC cI 16 (S 4)), ((ad 5), arC cI 20 (S 5)), ((ad 6), arC cI 16 (S 6))]) (rs := []) (va_runV (As := []) (rest := []) ⟨hx, hb, hml, hown, hts⟩ (c_X2_fillToReader l D cI cC cS ad S  _) (cwV 0 hts gX2_seemsNearEmpty_X2_fillToReader rfl rfl rfl (by decide +kernel) ⟨Nat.le_of_ble_eq_true rfl, Nat.le_of_ble_eq_true rfl⟩) (preV hK hP hD [0, 1, 2, 3, 4, 5, 6] (by decide) rfl 0 2 rfl rfl) rfl rfl hl.1 rfl (lv_room (Nat.le_of_ble_eq_true rfl)) dX2_seemsNearEmpty_1 ⟨Nat.zero_le _, Nat.zero_le _⟩) hP hD hS hA [0, 1, 2, 3, 4, 5, 6] [] rfl rfl rfl rfl rfl (by decide +kernel) rfl (fun H locs hP hD hS => ?_)
  refine lv_aload_n hx hb dX2_seemsNearEmpty_4 rfl (lv_at hl 0 rfl) ?_
  refine va_get (D := D) (ci := 2) (v := .int ((S 0) 4)) (C := RX2) (T := TX2) (N := 15) hx hb hts inX2 hown hK.1 hP 0 rfl rfl 4 (by decide) (hts (.fieldLink RX2 22 "GrayPointers$State" "nearEmpty" "I") (List.mem_of_getElem? (i := 1) rfl)) (fun _ h9 => h9) rfl dX2_seemsNearEmpty_5 ?_
  refine lv_icmp_gt (tgt := 15) hx hb dX2_seemsNearEmpty_8 (by decide) (fun c8 => ?_) (fun c8 => ?_)
  · have hr := hr.trans (if_pos c8)
    refine lv_iconst (v := (0 : Int32)) hx hb dX2_seemsNearEmpty_15 (by decide) ?_
    exact endZ (v := (0 : Int32)) hb hx hsg rfl hr.symm hP hD hS dX2_seemsNearEmpty_16 hlocks
  · have hr := hr.trans (if_neg c8)
    refine lv_iconst (v := (1 : Int32)) hx hb dX2_seemsNearEmpty_11 (by decide) ?_
    refine lv_goto (tgt := 16) hx hb dX2_seemsNearEmpty_12 (by decide) ?_
    exact endZ (v := (1 : Int32)) hb hx hsg rfl hr.symm hP hD hS dX2_seemsNearEmpty_16 hlocks
def r_X2_hasTimeFor (S : CS) (a1 : Int32) : Int32 := (if (1000000 : Int32) < (((S 0) 2) + a1) then (0 : Int32) else (1 : Int32))
abbrev rm_X2_hasTimeFor : Room := { frames := 0, cells := 0, slots := 0, locals := 0 }
set_option maxHeartbeats 4000000 in
set_option maxRecDepth 100000 in
theorem c_X2_hasTimeFor (l : Launch) (D : va_G) (cI cC cS : ClassId) (ad : Nat → Nat) (S : CS) (a1 : Int32)  : CI l D cI cC cS yX2_hasTimeFor wsX2_hasTimeFor rm_X2_hasTimeFor [.ref (ad 0), .int a1] (stW cI ad S) (stW cI ad S) (r_X2_hasTimeFor S a1) := by
  intro sz
  refine startC (cc := cX2_hasTimeFor) (maxL := 2) (ret := (some .boolean)) (by decide) rfl (Nat.le_of_ble_eq_true rfl) ?_
  intro p e s m args below meth c hx hb hml hsg hts hown hlocks hin hK A hA hS hP hD ls hl
  have hown : s.vm.findClass RX2 = some m.cls := hown
  have hl : lv_has ls 2 [(0, .ref (ad 0)), (1, .int a1)] := hl
  have hP : va_P D vwCl [((ad 0), stC ad (S 0)), ((ad 1), sdC (S 1)), ((ad 2), sdC (S 2)), ((ad 3), arC cI 16 (S 3)), ((ad 4), arC cI 16 (S 4)), ((ad 5), arC cI 20 (S 5)), ((ad 6), arC cI 16 (S 6))] s.heap := hP
  have hD : va_D A [((ad 0), stC ad (S 0)), ((ad 1), sdC (S 1)), ((ad 2), sdC (S 2)), ((ad 3), arC cI 16 (S 3)), ((ad 4), arC cI 16 (S 4)), ((ad 5), arC cI 20 (S 5)), ((ad 6), arC cI 16 (S 6))] := hD
  have inX2 : ∀ w ∈ wsX20, w ∈ wsX2_hasTimeFor := fun _ h => List.mem_cons_of_mem _ (List.mem_append_right _ h)
  have hr : (r_X2_hasTimeFor S a1) = (if (1000000 : Int32) < (((S 0) 2) + a1) then (0 : Int32) else (1 : Int32)) := rfl
  refine lv_aload_n hx hb dX2_hasTimeFor_0 rfl (lv_at hl 0 rfl) ?_
  refine va_get (D := D) (ci := 2) (v := .int ((S 0) 2)) (C := RX2) (T := TX2) (N := 15) hx hb hts inX2 hown hK.1 hP 0 rfl rfl 2 (by decide) (hts (.fieldLink RX2 96 "GrayPointers$State" "time" "I") (List.mem_of_getElem? (i := 1) rfl)) (fun _ h9 => h9) rfl dX2_hasTimeFor_1 ?_
  refine lv_iload_n hx hb dX2_hasTimeFor_4 rfl (lv_at hl 1 rfl) ?_
  refine lv_iadd hx hb dX2_hasTimeFor_5 ?_
  refine lv_ldc (v := (1000000 : Int32)) hx hb hown (hts (.constant RX2 99 1000000) (List.mem_of_getElem? (i := 2) rfl)) dX2_hasTimeFor_6 ?_
  refine lv_icmp_gt (tgt := 15) hx hb dX2_hasTimeFor_8 (by decide) (fun c8 => ?_) (fun c8 => ?_)
  · have hr := hr.trans (if_pos c8)
    refine lv_iconst (v := (0 : Int32)) hx hb dX2_hasTimeFor_15 (by decide) ?_
    exact endZ (v := (0 : Int32)) hb hx hsg rfl hr.symm hP hD hS dX2_hasTimeFor_16 hlocks
  · have hr := hr.trans (if_neg c8)
    refine lv_iconst (v := (1 : Int32)) hx hb dX2_hasTimeFor_11 (by decide) ?_
    refine lv_goto (tgt := 16) hx hb dX2_hasTimeFor_12 (by decide) ?_
    exact endZ (v := (1 : Int32)) hb hx hsg rfl hr.symm hP hD hS dX2_hasTimeFor_16 hlocks
def r_X2_isDone (S : CS) : Int32 := (if ((S 0) 10) = (0 : Int32) then (if ((S 0) 13) = ((S 0) 12) then (1 : Int32) else (0 : Int32)) else (0 : Int32))
abbrev rm_X2_isDone : Room := { frames := 0, cells := 0, slots := 0, locals := 0 }
set_option maxHeartbeats 4000000 in
set_option maxRecDepth 100000 in
theorem c_X2_isDone (l : Launch) (D : va_G) (cI cC cS : ClassId) (ad : Nat → Nat) (S : CS)  : CI l D cI cC cS yX2_isDone wsX2_isDone rm_X2_isDone [.ref (ad 0)] (stW cI ad S) (stW cI ad S) (r_X2_isDone S) := by
  intro sz
  refine startC (cc := cX2_isDone) (maxL := 1) (ret := (some .boolean)) (by decide) rfl (Nat.le_of_ble_eq_true rfl) ?_
  intro p e s m args below meth c hx hb hml hsg hts hown hlocks hin hK A hA hS hP hD ls hl
  have hown : s.vm.findClass RX2 = some m.cls := hown
  have hl : lv_has ls 1 [(0, .ref (ad 0))] := hl
  have hP : va_P D vwCl [((ad 0), stC ad (S 0)), ((ad 1), sdC (S 1)), ((ad 2), sdC (S 2)), ((ad 3), arC cI 16 (S 3)), ((ad 4), arC cI 16 (S 4)), ((ad 5), arC cI 20 (S 5)), ((ad 6), arC cI 16 (S 6))] s.heap := hP
  have hD : va_D A [((ad 0), stC ad (S 0)), ((ad 1), sdC (S 1)), ((ad 2), sdC (S 2)), ((ad 3), arC cI 16 (S 3)), ((ad 4), arC cI 16 (S 4)), ((ad 5), arC cI 20 (S 5)), ((ad 6), arC cI 16 (S 6))] := hD
  have inX2 : ∀ w ∈ wsX20, w ∈ wsX2_isDone := fun _ h => List.mem_cons_of_mem _ (List.mem_append_right _ h)
  have hr : (r_X2_isDone S) = (if ((S 0) 10) = (0 : Int32) then (if ((S 0) 13) = ((S 0) 12) then (1 : Int32) else (0 : Int32)) else (0 : Int32)) := rfl
  refine lv_aload_n hx hb dX2_isDone_0 rfl (lv_at hl 0 rfl) ?_
  refine va_get (D := D) (ci := 2) (v := .int ((S 0) 10)) (C := RX2) (T := TX2) (N := 15) hx hb hts inX2 hown hK.1 hP 0 rfl rfl 10 (by decide) (hts (.fieldLink RX2 89 "GrayPointers$State" "waitCount" "I") (List.mem_of_getElem? (i := 1) rfl)) (fun _ h9 => h9) rfl dX2_isDone_1 ?_
  refine lv_if_ne (tgt := 22) hx hb dX2_isDone_4 (by decide) (fun c4 => ?_) (fun c4 => ?_)
  · have hr := hr.trans (if_neg c4)
    refine lv_iconst (v := (0 : Int32)) hx hb dX2_isDone_22 (by decide) ?_
    exact endZ (v := (0 : Int32)) hb hx hsg rfl hr.symm hP hD hS dX2_isDone_23 hlocks
  · have hr := hr.trans (if_pos c4)
    refine lv_aload_n hx hb dX2_isDone_7 rfl (lv_at hl 0 rfl) ?_
    refine va_get (D := D) (ci := 2) (v := .int ((S 0) 13)) (C := RX2) (T := TX2) (N := 15) hx hb hts inX2 hown hK.1 hP 0 rfl rfl 13 (by decide) (hts (.fieldLink RX2 83 "GrayPointers$State" "takenCount" "I") (List.mem_of_getElem? (i := 2) rfl)) (fun _ h9 => h9) rfl dX2_isDone_8 ?_
    refine lv_aload_n hx hb dX2_isDone_11 rfl (lv_at hl 0 rfl) ?_
    refine va_get (D := D) (ci := 2) (v := .int ((S 0) 12)) (C := RX2) (T := TX2) (N := 15) hx hb hts inX2 hown hK.1 hP 0 rfl rfl 12 (by decide) (hts (.fieldLink RX2 80 "GrayPointers$State" "putCount" "I") (List.mem_of_getElem? (i := 3) rfl)) (fun _ h9 => h9) rfl dX2_isDone_12 ?_
    refine lv_icmp_ne (tgt := 22) hx hb dX2_isDone_15 (by decide) (fun c15 => ?_) (fun c15 => ?_)
    · have hr := hr.trans (if_neg c15)
      refine lv_iconst (v := (0 : Int32)) hx hb dX2_isDone_22 (by decide) ?_
      exact endZ (v := (0 : Int32)) hb hx hsg rfl hr.symm hP hD hS dX2_isDone_23 hlocks
    · have hr := hr.trans (if_pos c15)
      refine lv_iconst (v := (1 : Int32)) hx hb dX2_isDone_18 (by decide) ?_
      refine lv_goto (tgt := 23) hx hb dX2_isDone_19 (by decide) ?_
      exact endZ (v := (1 : Int32)) hb hx hsg rfl hr.symm hP hD hS dX2_isDone_23 hlocks
def r_X2_latestCame (S : CS) (a1 : Int32) : Int32 := (if ((S 0) 13) ≤ a1 then (-5 : Int32) else (if a1 < (16 : Int32) then (r_X4_valueAt (S 6) (((((S 0) 13) - (1 : Int32)) - a1) &&& (15 : Int32)) 16) else (-5 : Int32)))
abbrev rm_X2_latestCame : Room := { frames := 1, cells := 0, slots := 0, locals := 21 }
set_option maxHeartbeats 4000000 in
set_option maxRecDepth 100000 in
theorem c_X2_latestCame (l : Launch) (D : va_G) (cI cC cS : ClassId) (ad : Nat → Nat) (S : CS) (a1 : Int32)  : CI l D cI cC cS yX2_latestCame wsX2_latestCame rm_X2_latestCame [.ref (ad 0), .int a1] (stW cI ad S) (stW cI ad S) (r_X2_latestCame S a1) := by
  intro sz
  refine startC (cc := cX2_latestCame) (maxL := 2) (ret := (some .int)) (by decide) rfl (Nat.le_of_ble_eq_true rfl) ?_
  intro p e s m args below meth c hx hb hml hsg hts hown hlocks hin hK A hA hS hP hD ls hl
  have hown : s.vm.findClass RX2 = some m.cls := hown
  have hl : lv_has ls 2 [(0, .ref (ad 0)), (1, .int a1)] := hl
  have hP : va_P D vwCl [((ad 0), stC ad (S 0)), ((ad 1), sdC (S 1)), ((ad 2), sdC (S 2)), ((ad 3), arC cI 16 (S 3)), ((ad 4), arC cI 16 (S 4)), ((ad 5), arC cI 20 (S 5)), ((ad 6), arC cI 16 (S 6))] s.heap := hP
  have hD : va_D A [((ad 0), stC ad (S 0)), ((ad 1), sdC (S 1)), ((ad 2), sdC (S 2)), ((ad 3), arC cI 16 (S 3)), ((ad 4), arC cI 16 (S 4)), ((ad 5), arC cI 20 (S 5)), ((ad 6), arC cI 16 (S 6))] := hD
  have inX2 : ∀ w ∈ wsX20, w ∈ wsX2_latestCame := fun _ h => List.mem_cons_of_mem _ (List.mem_append_right _ h)
  have hr : (r_X2_latestCame S a1) = (if ((S 0) 13) ≤ a1 then (-5 : Int32) else (if a1 < (16 : Int32) then (r_X4_valueAt (S 6) (((((S 0) 13) - (1 : Int32)) - a1) &&& (15 : Int32)) 16) else (-5 : Int32))) := rfl
  refine lv_iload_n hx hb dX2_latestCame_0 rfl (lv_at hl 1 rfl) ?_
  refine lv_aload_n hx hb dX2_latestCame_1 rfl (lv_at hl 0 rfl) ?_
  refine va_get (D := D) (ci := 2) (v := .int ((S 0) 13)) (C := RX2) (T := TX2) (N := 15) hx hb hts inX2 hown hK.1 hP 0 rfl rfl 13 (by decide) (hts (.fieldLink RX2 83 "GrayPointers$State" "takenCount" "I") (List.mem_of_getElem? (i := 1) rfl)) (fun _ h9 => h9) rfl dX2_latestCame_2 ?_
  refine lv_icmp_ge (tgt := 14) hx hb dX2_latestCame_5 (by decide) (fun c5 => ?_) (fun c5 => ?_)
  · have hr := hr.trans (if_pos c5)
    refine lv_bipush (v := (-5 : Int32)) hx hb dX2_latestCame_14 (by decide) ?_
    exact endI (v := (-5 : Int32)) hb hx hsg hr.symm hP hD hS dX2_latestCame_16 hlocks
  · have hr := hr.trans (if_neg c5)
    refine lv_iload_n hx hb dX2_latestCame_8 rfl (lv_at hl 1 rfl) ?_
    refine lv_bipush (v := (16 : Int32)) hx hb dX2_latestCame_9 (by decide) ?_
    refine lv_icmp_lt (tgt := 17) hx hb dX2_latestCame_11 (by decide) (fun c11 => ?_) (fun c11 => ?_)
    · have hr := hr.trans (if_pos c11)
      refine lv_aload_n hx hb dX2_latestCame_17 rfl (lv_at hl 0 rfl) ?_
      refine va_get (D := D) (ci := 2) (v := .ref (ad 6)) (C := RX2) (T := TX2) (N := 15) hx hb hts inX2 hown hK.1 hP 0 rfl rfl 11 (by decide) (hts (.fieldLink RX2 47 "GrayPointers$State" "came" "[I") (List.mem_of_getElem? (i := 2) rfl)) (fun _ h9 => h9) rfl dX2_latestCame_18 ?_
      refine lv_aload_n hx hb dX2_latestCame_21 rfl (lv_at hl 0 rfl) ?_
      refine va_get (D := D) (ci := 2) (v := .int ((S 0) 13)) (C := RX2) (T := TX2) (N := 15) hx hb hts inX2 hown hK.1 hP 0 rfl rfl 13 (by decide) (hts (.fieldLink RX2 83 "GrayPointers$State" "takenCount" "I") (List.mem_of_getElem? (i := 1) rfl)) (fun _ h9 => h9) rfl dX2_latestCame_22 ?_
      refine lv_iconst (v := (1 : Int32)) hx hb dX2_latestCame_25 (by decide) ?_
      refine lv_isub hx hb dX2_latestCame_26 ?_
      refine lv_iload_n hx hb dX2_latestCame_27 rfl (lv_at hl 1 rfl) ?_
      refine lv_isub hx hb dX2_latestCame_28 ?_
      refine lv_bipush (v := (15 : Int32)) hx hb dX2_latestCame_29 (by decide) ?_
      refine lv_iand hx hb dX2_latestCame_31 ?_
      refine goI (n := 7) (ws' := [((ad 0), stC ad (S 0)), ((ad 1), sdC (S 1)), ((ad 2), sdC (S 2)), ((ad 3), arC cI 16 (S 3)), ((ad 4), arC cI 16 (S 4)), ((ad 5), arC cI 20 (S 5)), ((ad 6), arC cI 16 (S 6))]) (rs := [((ad 0), stC ad (S 0)), ((ad 1), sdC (S 1)), ((ad 2), sdC (S 2)), ((ad 3), arC cI 16 (S 3)), ((ad 4), arC cI 16 (S 4)), ((ad 5), arC cI 20 (S 5))]) (va_runSN (As := [.ref (ad 6), .int (((((S 0) 13) - (1 : Int32)) - a1) &&& (15 : Int32))]) (rest := []) ⟨hx, hb, hml, hown, hts⟩ (c_X4_valueAt l D cI cC cS (ad 6) (S 6) (((((S 0) 13) - (1 : Int32)) - a1) &&& (15 : Int32)) 16 (by decide) _) ⟨va_cnB 2 hts gX2_latestCame_X4_valueAt_n111 rfl rfl rfl (hK.nw 34 rfl) (hts (.initialized RX4) (List.mem_of_getElem? (i := 4) rfl)) (by decide +kernel) ⟨Nat.le_of_ble_eq_true rfl, Nat.le_of_ble_eq_true rfl⟩, (hts (.static yX4_valueAt) (List.mem_of_getElem? (i := 3) rfl)), trivial⟩ (preS hK hP hD [6] (by decide) rfl) rfl rfl hl.1 rfl (lv_room (Nat.le_of_ble_eq_true rfl)) dX2_latestCame_32 ⟨Nat.zero_le _, Nat.zero_le _⟩) hP hD hS hA [6] [0, 1, 2, 3, 4, 5] rfl rfl rfl rfl rfl (by decide +kernel) rfl (fun H locs hP hD hS => ?_)
      exact endI (v := (r_X4_valueAt (S 6) (((((S 0) 13) - (1 : Int32)) - a1) &&& (15 : Int32)) 16)) hb hx hsg hr.symm hP hD hS dX2_latestCame_35 hlocks
    · have hr := hr.trans (if_neg c11)
      refine lv_bipush (v := (-5 : Int32)) hx hb dX2_latestCame_14 (by decide) ?_
      exact endI (v := (-5 : Int32)) hb hx hsg hr.symm hP hD hS dX2_latestCame_16 hlocks
