def r_X5_of (M : CS) (a1 : Int32) (a2 : Int32) : Int32 := ((M 1) (((11 : Int32) + ((8 : Int32) * a1)) + a2).toNatClampNeg)
abbrev rm_X5_of : Room := { frames := 0, cells := 0, slots := 0, locals := 0 }
set_option maxHeartbeats 4000000 in
set_option maxRecDepth 100000 in
theorem c_X5_of (l : Launch) (D : va_G) (cI cC cS : ClassId) (md : Nat → Nat) (M : CS) (a1 : Int32) (a2 : Int32) (hbd : vp_in (((11 : Int32) + ((8 : Int32) * a1)) + a2) 96) : CI l D cI cC cS yX5_of wsX5_of rm_X5_of [.ref (md 0), .int a1, .int a2] (mdW cI md M) (mdW cI md M) (r_X5_of M a1 a2) := by
  intro sz
  refine startC (cc := cX5_of) (maxL := 3) (ret := (some .int)) (by decide) rfl (Nat.le_of_ble_eq_true rfl) ?_
  intro p e s m args below meth c hx hb hml hsg hts hown hlocks hin hK A hA hS hP hD ls hl
  have hown : s.vm.findClass RX5 = some m.cls := hown
  have hl : lv_has ls 3 [(0, .ref (md 0)), (1, .int a1), (2, .int a2)] := hl
  have hP : va_P D vwCl [((md 0), mdC md (M 0)), ((md 1), arC cI 96 (M 1)), ((md 2), arC cI 96 (M 2)), ((md 3), arC cI 96 (M 3)), ((md 4), arC cI 384 (M 4)), ((md 5), arC cI 96 (M 5)), ((md 6), arC cI 60 (M 6))] s.heap := hP
  have hD : va_D A [((md 0), mdC md (M 0)), ((md 1), arC cI 96 (M 1)), ((md 2), arC cI 96 (M 2)), ((md 3), arC cI 96 (M 3)), ((md 4), arC cI 384 (M 4)), ((md 5), arC cI 96 (M 5)), ((md 6), arC cI 60 (M 6))] := hD
  have inX5 : ∀ w ∈ wsX50, w ∈ wsX5_of := fun _ h => List.mem_cons_of_mem _ (List.mem_append_right _ h)
  have hr : (r_X5_of M a1 a2) = ((M 1) (((11 : Int32) + ((8 : Int32) * a1)) + a2).toNatClampNeg) := rfl
  refine lv_aload_n hx hb dX5_of_0 rfl (lv_at hl 0 rfl) ?_
  refine va_get (D := D) (ci := 5) (v := .ref (md 1)) (C := RX5) (T := TX5) (N := 14) hx hb hts inX5 hown hK.1 hP 0 rfl rfl 0 (by decide) (hts (.fieldLink RX5 7 "GrayPointersModel" "all" "[I") (List.mem_of_getElem? (i := 1) rfl)) (fun _ h9 => h9) rfl dX5_of_1 ?_
  refine lv_bipush (v := (11 : Int32)) hx hb dX5_of_4 (by decide) ?_
  refine lv_bipush (v := (8 : Int32)) hx hb dX5_of_6 (by decide) ?_
  refine lv_iload_n hx hb dX5_of_8 rfl (lv_at hl 1 rfl) ?_
  refine lv_imul hx hb dX5_of_9 ?_
  refine lv_iadd hx hb dX5_of_10 ?_
  refine lv_iload_n hx hb dX5_of_11 rfl (lv_at hl 2 rfl) ?_
  refine lv_iadd hx hb dX5_of_12 ?_
  refine va_iald hx hb hK.1 hP 1 0 rfl rfl (i := (((11 : Int32) + ((8 : Int32) * a1)) + a2)) hbd dX5_of_13 ?_
  exact endI (v := ((M 1) (((11 : Int32) + ((8 : Int32) * a1)) + a2).toNatClampNeg)) hb hx hsg hr.symm hP hD hS dX5_of_14 hlocks
def p_X5_to (M : CS) (a1 : Int32) (a2 : Int32) (a3 : Int32) : CS := ((fun (z_1 : CS) => z_1) (va_up M 1 (upd (M 1) (((11 : Int32) + ((8 : Int32) * a1)) + a2).toNatClampNeg a3)))
abbrev rm_X5_to : Room := { frames := 0, cells := 0, slots := 0, locals := 0 }
set_option maxHeartbeats 4000000 in
set_option maxRecDepth 100000 in
theorem c_X5_to (l : Launch) (D : va_G) (cI cC cS : ClassId) (md : Nat → Nat) (M : CS) (a1 : Int32) (a2 : Int32) (a3 : Int32) (hbd : vp_in (((11 : Int32) + ((8 : Int32) * a1)) + a2) 96) : CV l D cI cC cS yX5_to wsX5_to rm_X5_to [.ref (md 0), .int a1, .int a2, .int a3] (mdW cI md M) (mdW cI md (p_X5_to M a1 a2 a3))  := by
  intro sz
  refine startC (cc := cX5_to) (maxL := 4) (ret := none) (by decide) rfl (Nat.le_of_ble_eq_true rfl) ?_
  intro p e s m args below meth c hx hb hml hsg hts hown hlocks hin hK A hA hS hP hD ls hl
  have hown : s.vm.findClass RX5 = some m.cls := hown
  have hl : lv_has ls 4 [(0, .ref (md 0)), (1, .int a1), (2, .int a2), (3, .int a3)] := hl
  have hP : va_P D vwCl [((md 0), mdC md (M 0)), ((md 1), arC cI 96 (M 1)), ((md 2), arC cI 96 (M 2)), ((md 3), arC cI 96 (M 3)), ((md 4), arC cI 384 (M 4)), ((md 5), arC cI 96 (M 5)), ((md 6), arC cI 60 (M 6))] s.heap := hP
  have hD : va_D A [((md 0), mdC md (M 0)), ((md 1), arC cI 96 (M 1)), ((md 2), arC cI 96 (M 2)), ((md 3), arC cI 96 (M 3)), ((md 4), arC cI 384 (M 4)), ((md 5), arC cI 96 (M 5)), ((md 6), arC cI 60 (M 6))] := hD
  have inX5 : ∀ w ∈ wsX50, w ∈ wsX5_to := fun _ h => List.mem_cons_of_mem _ (List.mem_append_right _ h)
  have hp : (p_X5_to M a1 a2 a3) = ((fun (z_1 : CS) => z_1) (va_up M 1 (upd (M 1) (((11 : Int32) + ((8 : Int32) * a1)) + a2).toNatClampNeg a3))) := rfl
  refine lv_aload_n hx hb dX5_to_0 rfl (lv_at hl 0 rfl) ?_
  refine va_get (D := D) (ci := 5) (v := .ref (md 1)) (C := RX5) (T := TX5) (N := 14) hx hb hts inX5 hown hK.1 hP 0 rfl rfl 0 (by decide) (hts (.fieldLink RX5 7 "GrayPointersModel" "all" "[I") (List.mem_of_getElem? (i := 1) rfl)) (fun _ h9 => h9) rfl dX5_to_1 ?_
  refine lv_bipush (v := (11 : Int32)) hx hb dX5_to_4 (by decide) ?_
  refine lv_bipush (v := (8 : Int32)) hx hb dX5_to_6 (by decide) ?_
  refine lv_iload_n hx hb dX5_to_8 rfl (lv_at hl 1 rfl) ?_
  refine lv_imul hx hb dX5_to_9 ?_
  refine lv_iadd hx hb dX5_to_10 ?_
  refine lv_iload_n hx hb dX5_to_11 rfl (lv_at hl 2 rfl) ?_
  refine lv_iadd hx hb dX5_to_12 ?_
  refine lv_iload_n hx hb dX5_to_13 rfl (lv_at hl 3 rfl) ?_
  refine va_iast hx hb hK.1 hP hD hS 1 0 rfl rfl (i := (((11 : Int32) + ((8 : Int32) * a1)) + a2)) (x := a3) hbd dX5_to_14 (fun H locs hP hD hS => ?_)
  have hP : va_P D vwCl [((md 0), mdC md (M 0)), ((md 1), arC cI 96 (upd (M 1) (((11 : Int32) + ((8 : Int32) * a1)) + a2).toNatClampNeg a3)), ((md 2), arC cI 96 (M 2)), ((md 3), arC cI 96 (M 3)), ((md 4), arC cI 384 (M 4)), ((md 5), arC cI 96 (M 5)), ((md 6), arC cI 60 (M 6))] H := hP
  have hD : va_D A [((md 0), mdC md (M 0)), ((md 1), arC cI 96 (upd (M 1) (((11 : Int32) + ((8 : Int32) * a1)) + a2).toNatClampNeg a3)), ((md 2), arC cI 96 (M 2)), ((md 3), arC cI 96 (M 3)), ((md 4), arC cI 384 (M 4)), ((md 5), arC cI 96 (M 5)), ((md 6), arC cI 60 (M 6))] := hD
  obtain ⟨z_1, hz_1⟩ : ∃ z : CS, z = (va_up M 1 (upd (M 1) (((11 : Int32) + ((8 : Int32) * a1)) + a2).toNatClampNeg a3)) := ⟨_, rfl⟩
  have e0 : (z_1 0) = (M 0) := (congrFun hz_1 0).trans (va_up_n (by decide))
  have e1 : (z_1 1) = (upd (M 1) (((11 : Int32) + ((8 : Int32) * a1)) + a2).toNatClampNeg a3) := (congrFun hz_1 1).trans va_up_s
  have e2 : (z_1 2) = (M 2) := (congrFun hz_1 2).trans (va_up_n (by decide))
  have e3 : (z_1 3) = (M 3) := (congrFun hz_1 3).trans (va_up_n (by decide))
  have e4 : (z_1 4) = (M 4) := (congrFun hz_1 4).trans (va_up_n (by decide))
  have e5 : (z_1 5) = (M 5) := (congrFun hz_1 5).trans (va_up_n (by decide))
  have e6 : (z_1 6) = (M 6) := (congrFun hz_1 6).trans (va_up_n (by decide))
  have hP : va_P D vwCl [((md 0), mdC md (z_1 0)), ((md 1), arC cI 96 (z_1 1)), ((md 2), arC cI 96 (z_1 2)), ((md 3), arC cI 96 (z_1 3)), ((md 4), arC cI 384 (z_1 4)), ((md 5), arC cI 96 (z_1 5)), ((md 6), arC cI 60 (z_1 6))] H := by rw [e0, e1, e2, e3, e4, e5, e6]; exact hP
  have hD : va_D A [((md 0), mdC md (z_1 0)), ((md 1), arC cI 96 (z_1 1)), ((md 2), arC cI 96 (z_1 2)), ((md 3), arC cI 96 (z_1 3)), ((md 4), arC cI 384 (z_1 4)), ((md 5), arC cI 96 (z_1 5)), ((md 6), arC cI 60 (z_1 6))] := by rw [e0, e1, e2, e3, e4, e5, e6]; exact hD
  clear e0 e1 e2 e3 e4 e5 e6
  have hp : (p_X5_to M a1 a2 a3) = z_1 := by subst hz_1; exact hp
  exact endV hb hx hsg (by rw [hp]; exact hP) (by rw [hp]; exact hD) hS dX5_to_15 hlocks
def r_X5_depth (M : CS) : Int32 := ((1 : Int32) <<< (((M 1) 0) &&& (31 : Int32)))
abbrev rm_X5_depth : Room := { frames := 0, cells := 0, slots := 0, locals := 0 }
set_option maxHeartbeats 4000000 in
set_option maxRecDepth 100000 in
theorem c_X5_depth (l : Launch) (D : va_G) (cI cC cS : ClassId) (md : Nat → Nat) (M : CS)  : CI l D cI cC cS yX5_depth wsX5_depth rm_X5_depth [.ref (md 0)] (mdW cI md M) (mdW cI md M) (r_X5_depth M) := by
  intro sz
  refine startC (cc := cX5_depth) (maxL := 1) (ret := (some .int)) (by decide) rfl (Nat.le_of_ble_eq_true rfl) ?_
  intro p e s m args below meth c hx hb hml hsg hts hown hlocks hin hK A hA hS hP hD ls hl
  have hown : s.vm.findClass RX5 = some m.cls := hown
  have hl : lv_has ls 1 [(0, .ref (md 0))] := hl
  have hP : va_P D vwCl [((md 0), mdC md (M 0)), ((md 1), arC cI 96 (M 1)), ((md 2), arC cI 96 (M 2)), ((md 3), arC cI 96 (M 3)), ((md 4), arC cI 384 (M 4)), ((md 5), arC cI 96 (M 5)), ((md 6), arC cI 60 (M 6))] s.heap := hP
  have hD : va_D A [((md 0), mdC md (M 0)), ((md 1), arC cI 96 (M 1)), ((md 2), arC cI 96 (M 2)), ((md 3), arC cI 96 (M 3)), ((md 4), arC cI 384 (M 4)), ((md 5), arC cI 96 (M 5)), ((md 6), arC cI 60 (M 6))] := hD
  have inX5 : ∀ w ∈ wsX50, w ∈ wsX5_depth := fun _ h => List.mem_cons_of_mem _ (List.mem_append_right _ h)
  have hr : (r_X5_depth M) = ((1 : Int32) <<< (((M 1) 0) &&& (31 : Int32))) := rfl
  refine lv_iconst (v := (1 : Int32)) hx hb dX5_depth_0 (by decide) ?_
  refine lv_aload_n hx hb dX5_depth_1 rfl (lv_at hl 0 rfl) ?_
  refine va_get (D := D) (ci := 5) (v := .ref (md 1)) (C := RX5) (T := TX5) (N := 14) hx hb hts inX5 hown hK.1 hP 0 rfl rfl 0 (by decide) (hts (.fieldLink RX5 7 "GrayPointersModel" "all" "[I") (List.mem_of_getElem? (i := 1) rfl)) (fun _ h9 => h9) rfl dX5_depth_2 ?_
  refine lv_iconst (v := (0 : Int32)) hx hb dX5_depth_5 (by decide) ?_
  refine va_iald hx hb hK.1 hP 1 0 rfl rfl (i := (0 : Int32)) (vp_in_iff.mpr (by decide)) dX5_depth_6 ?_
  refine W.eq (g2 := F0 m 7 ls [.int ((M 1) 0), .int (1 : Int32)]) rfl ?_
  refine lv_ishl hx hb dX5_depth_7 ?_
  exact endI (v := ((1 : Int32) <<< (((M 1) 0) &&& (31 : Int32)))) hb hx hsg hr.symm hP hD hS dX5_depth_8 hlocks
def r_X5_codeOf (M : CS) (a1 : Int32) : Int32 := (if ((M 1) 1) = (1 : Int32) then (a1 ^^^ (a1 >>> ((1 : Int32) &&& (31 : Int32)))) else a1)
abbrev rm_X5_codeOf : Room := { frames := 0, cells := 0, slots := 0, locals := 0 }
set_option maxHeartbeats 4000000 in
set_option maxRecDepth 100000 in
theorem c_X5_codeOf (l : Launch) (D : va_G) (cI cC cS : ClassId) (md : Nat → Nat) (M : CS) (a1 : Int32)  : CI l D cI cC cS yX5_codeOf wsX5_codeOf rm_X5_codeOf [.ref (md 0), .int a1] (mdW cI md M) (mdW cI md M) (r_X5_codeOf M a1) := by
  intro sz
  refine startC (cc := cX5_codeOf) (maxL := 2) (ret := (some .int)) (by decide) rfl (Nat.le_of_ble_eq_true rfl) ?_
  intro p e s m args below meth c hx hb hml hsg hts hown hlocks hin hK A hA hS hP hD ls hl
  have hown : s.vm.findClass RX5 = some m.cls := hown
  have hl : lv_has ls 2 [(0, .ref (md 0)), (1, .int a1)] := hl
  have hP : va_P D vwCl [((md 0), mdC md (M 0)), ((md 1), arC cI 96 (M 1)), ((md 2), arC cI 96 (M 2)), ((md 3), arC cI 96 (M 3)), ((md 4), arC cI 384 (M 4)), ((md 5), arC cI 96 (M 5)), ((md 6), arC cI 60 (M 6))] s.heap := hP
  have hD : va_D A [((md 0), mdC md (M 0)), ((md 1), arC cI 96 (M 1)), ((md 2), arC cI 96 (M 2)), ((md 3), arC cI 96 (M 3)), ((md 4), arC cI 384 (M 4)), ((md 5), arC cI 96 (M 5)), ((md 6), arC cI 60 (M 6))] := hD
  have inX5 : ∀ w ∈ wsX50, w ∈ wsX5_codeOf := fun _ h => List.mem_cons_of_mem _ (List.mem_append_right _ h)
  have hr : (r_X5_codeOf M a1) = (if ((M 1) 1) = (1 : Int32) then (a1 ^^^ (a1 >>> ((1 : Int32) &&& (31 : Int32)))) else a1) := rfl
  refine lv_aload_n hx hb dX5_codeOf_0 rfl (lv_at hl 0 rfl) ?_
  refine va_get (D := D) (ci := 5) (v := .ref (md 1)) (C := RX5) (T := TX5) (N := 14) hx hb hts inX5 hown hK.1 hP 0 rfl rfl 0 (by decide) (hts (.fieldLink RX5 7 "GrayPointersModel" "all" "[I") (List.mem_of_getElem? (i := 1) rfl)) (fun _ h9 => h9) rfl dX5_codeOf_1 ?_
  refine lv_iconst (v := (1 : Int32)) hx hb dX5_codeOf_4 (by decide) ?_
  refine va_iald hx hb hK.1 hP 1 0 rfl rfl (i := (1 : Int32)) (vp_in_iff.mpr (by decide)) dX5_codeOf_5 ?_
  refine W.eq (g2 := F0 m 6 ls [.int ((M 1) 1)]) rfl ?_
  refine lv_iconst (v := (1 : Int32)) hx hb dX5_codeOf_6 (by decide) ?_
  refine lv_icmp_ne (tgt := 18) hx hb dX5_codeOf_7 (by decide) (fun c7 => ?_) (fun c7 => ?_)
  · have hr := hr.trans (if_neg c7)
    refine lv_iload_n hx hb dX5_codeOf_18 rfl (lv_at hl 1 rfl) ?_
    exact endI (v := a1) hb hx hsg hr.symm hP hD hS dX5_codeOf_19 hlocks
  · have hr := hr.trans (if_pos c7)
    refine lv_iload_n hx hb dX5_codeOf_10 rfl (lv_at hl 1 rfl) ?_
    refine lv_iload_n hx hb dX5_codeOf_11 rfl (lv_at hl 1 rfl) ?_
    refine lv_iconst (v := (1 : Int32)) hx hb dX5_codeOf_12 (by decide) ?_
    refine lv_ishr hx hb dX5_codeOf_13 ?_
    refine lv_ixor hx hb dX5_codeOf_14 ?_
    refine lv_goto (tgt := 19) hx hb dX5_codeOf_15 (by decide) ?_
    exact endI (v := (a1 ^^^ (a1 >>> ((1 : Int32) &&& (31 : Int32))))) hb hx hsg hr.symm hP hD hS dX5_codeOf_19 hlocks
def lr_X5_pointerOf_20 (a1 : Int32) : Nat → Int32 → Int32 → Int32
  | 0, _, _ => 0
  | fu + 1, pt, bt => (if bt < (0 : Int32) then pt else (lr_X5_pointerOf_20 a1 fu (pt ||| ((((a1 >>> (bt &&& (31 : Int32))) &&& (1 : Int32)) ^^^ ((pt >>> ((bt + (1 : Int32)) &&& (31 : Int32))) &&& (1 : Int32))) <<< (bt &&& (31 : Int32)))) (bt + (-1 : Int32))))
def r_X5_pointerOf (M : CS) (a1 : Int32) : Int32 := (if ((M 1) 1) = (0 : Int32) then a1 else (lr_X5_pointerOf_20 a1 ((((M 1) 0).toInt + 1).toNat + 1) (0 : Int32) ((M 1) 0)))
abbrev rm_X5_pointerOf : Room := { frames := 0, cells := 0, slots := 0, locals := 0 }
set_option maxHeartbeats 4000000 in
set_option maxRecDepth 100000 in
theorem c_X5_pointerOf (l : Launch) (D : va_G) (cI cC cS : ClassId) (md : Nat → Nat) (M : CS) (a1 : Int32)  : CI l D cI cC cS yX5_pointerOf wsX5_pointerOf rm_X5_pointerOf [.ref (md 0), .int a1] (mdW cI md M) (mdW cI md M) (r_X5_pointerOf M a1) := by
  intro sz
  refine startC (cc := cX5_pointerOf) (maxL := 5) (ret := (some .int)) (by decide) rfl (Nat.le_of_ble_eq_true rfl) ?_
  intro p e s m args below meth c hx hb hml hsg hts hown hlocks hin hK A hA hS hP hD ls hl
  have hown : s.vm.findClass RX5 = some m.cls := hown
  have hl : lv_has ls 5 [(0, .ref (md 0)), (1, .int a1)] := hl
  have hP : va_P D vwCl [((md 0), mdC md (M 0)), ((md 1), arC cI 96 (M 1)), ((md 2), arC cI 96 (M 2)), ((md 3), arC cI 96 (M 3)), ((md 4), arC cI 384 (M 4)), ((md 5), arC cI 96 (M 5)), ((md 6), arC cI 60 (M 6))] s.heap := hP
  have hD : va_D A [((md 0), mdC md (M 0)), ((md 1), arC cI 96 (M 1)), ((md 2), arC cI 96 (M 2)), ((md 3), arC cI 96 (M 3)), ((md 4), arC cI 384 (M 4)), ((md 5), arC cI 96 (M 5)), ((md 6), arC cI 60 (M 6))] := hD
  have inX5 : ∀ w ∈ wsX50, w ∈ wsX5_pointerOf := fun _ h => List.mem_cons_of_mem _ (List.mem_append_right _ h)
  have hr : (r_X5_pointerOf M a1) = (if ((M 1) 1) = (0 : Int32) then a1 else (lr_X5_pointerOf_20 a1 ((((M 1) 0).toInt + 1).toNat + 1) (0 : Int32) ((M 1) 0))) := rfl
  refine lv_aload_n hx hb dX5_pointerOf_0 rfl (lv_at hl 0 rfl) ?_
  refine va_get (D := D) (ci := 5) (v := .ref (md 1)) (C := RX5) (T := TX5) (N := 14) hx hb hts inX5 hown hK.1 hP 0 rfl rfl 0 (by decide) (hts (.fieldLink RX5 7 "GrayPointersModel" "all" "[I") (List.mem_of_getElem? (i := 1) rfl)) (fun _ h9 => h9) rfl dX5_pointerOf_1 ?_
  refine lv_iconst (v := (1 : Int32)) hx hb dX5_pointerOf_4 (by decide) ?_
  refine va_iald hx hb hK.1 hP 1 0 rfl rfl (i := (1 : Int32)) (vp_in_iff.mpr (by decide)) dX5_pointerOf_5 ?_
  refine W.eq (g2 := F0 m 6 ls [.int ((M 1) 1)]) rfl ?_
  refine lv_if_ne (tgt := 11) hx hb dX5_pointerOf_6 (by decide) (fun c6 => ?_) (fun c6 => ?_)
  · have hr := hr.trans (if_neg c6)
    refine lv_iconst (v := (0 : Int32)) hx hb dX5_pointerOf_11 (by decide) ?_
    refine lv_istore_n (lv' := [(2, .int (0 : Int32)), (0, .ref (md 0)), (1, .int a1)]) hx hb dX5_pointerOf_12 rfl hl (by decide) rfl (fun ls hl => ?_)
    refine lv_aload_n hx hb dX5_pointerOf_13 rfl (lv_at hl 1 rfl) ?_
    refine va_get (D := D) (ci := 5) (v := .ref (md 1)) (C := RX5) (T := TX5) (N := 14) hx hb hts inX5 hown hK.1 hP 0 rfl rfl 0 (by decide) (hts (.fieldLink RX5 7 "GrayPointersModel" "all" "[I") (List.mem_of_getElem? (i := 1) rfl)) (fun _ h9 => h9) rfl dX5_pointerOf_14 ?_
    refine lv_iconst (v := (0 : Int32)) hx hb dX5_pointerOf_17 (by decide) ?_
    refine va_iald hx hb hK.1 hP 1 0 rfl rfl (i := (0 : Int32)) (vp_in_iff.mpr (by decide)) dX5_pointerOf_18 ?_
    refine W.eq (g2 := F0 m 19 ls [.int ((M 1) 0)]) rfl ?_
    refine lv_istore_n (lv' := [(3, .int ((M 1) 0)), (2, .int (0 : Int32)), (0, .ref (md 0)), (1, .int a1)]) hx hb dX5_pointerOf_19 rfl hl (by decide) rfl (fun ls hl => ?_)
    have L_20 : ∀ (fu : Nat) (pt : Int32) (bt : Int32) (H : Heap) (locs : List Loc), (bt.toInt + 1 < (fu : Int) ∧ 0 < fu) → (r_X5_pointerOf M a1) = (lr_X5_pointerOf_20 a1 fu pt bt) → va_P D vwCl [((md 0), mdC md (M 0)), ((md 1), arC cI 96 (M 1)), ((md 2), arC cI 96 (M 2)), ((md 3), arC cI 96 (M 3)), ((md 4), arC cI 384 (M 4)), ((md 5), arC cI 96 (M 5)), ((md 6), arC cI 60 (M 6))] H → va_D A [((md 0), mdC md (M 0)), ((md 1), arC cI 96 (M 1)), ((md 2), arC cI 96 (M 2)), ((md 3), arC cI 96 (M 3)), ((md 4), arC cI 384 (M 4)), ((md 5), arC cI 96 (M 5)), ((md 6), arC cI 60 (M 6))] → va_S A s.heap H locs → ∀ ls, lv_has ls 5 [(1, .int a1), (2, .int pt), (3, .int bt)] → W p l e rm_X5_pointerOf s m args below meth c H locs 0 0 (MQ below (QI D (mdW cI md M) (r_X5_pointerOf M a1) A) args s 0 0 A) (F0 m 20 ls []) := by
      intro fu
      induction fu with
      | zero => intro pt bt H locs hm; exact absurd hm.2 (Nat.lt_irrefl 0)
      | succ fu ih_20 =>
        intro pt bt H locs hm  hr hP hD hS ls hl
        have hr : (r_X5_pointerOf M a1) = (if bt < (0 : Int32) then pt else (lr_X5_pointerOf_20 a1 fu (pt ||| ((((a1 >>> (bt &&& (31 : Int32))) &&& (1 : Int32)) ^^^ ((pt >>> ((bt + (1 : Int32)) &&& (31 : Int32))) &&& (1 : Int32))) <<< (bt &&& (31 : Int32)))) (bt + (-1 : Int32)))) := hr
        refine lv_iload_n hx hb dX5_pointerOf_20 rfl (lv_at hl 2 rfl) ?_
        refine lv_if_lt (tgt := 52) hx hb dX5_pointerOf_21 (by decide) (fun c21 => ?_) (fun c21 => ?_)
        · have hr := hr.trans (if_pos c21)
          refine lv_iload_n hx hb dX5_pointerOf_52 rfl (lv_at hl 1 rfl) ?_
          exact endI (v := pt) hb hx hsg hr.symm hP hD hS dX5_pointerOf_53 hlocks
        · have hr := hr.trans (if_neg c21)
          refine lv_iload_n hx hb dX5_pointerOf_24 rfl (lv_at hl 1 rfl) ?_
          refine lv_iload_n hx hb dX5_pointerOf_25 rfl (lv_at hl 2 rfl) ?_
          refine lv_iconst (v := (1 : Int32)) hx hb dX5_pointerOf_26 (by decide) ?_
          refine lv_iadd hx hb dX5_pointerOf_27 ?_
          refine lv_ishr hx hb dX5_pointerOf_28 ?_
          refine lv_iconst (v := (1 : Int32)) hx hb dX5_pointerOf_29 (by decide) ?_
          refine lv_iand hx hb dX5_pointerOf_30 ?_
          refine lv_istore (lv' := [(4, .int ((pt >>> ((bt + (1 : Int32)) &&& (31 : Int32))) &&& (1 : Int32))), (1, .int a1), (2, .int pt), (3, .int bt)]) hx hb dX5_pointerOf_31 hl (by decide) rfl (fun ls hl => ?_)
          refine lv_iload_n hx hb dX5_pointerOf_33 rfl (lv_at hl 2 rfl) ?_
          refine lv_iload_n hx hb dX5_pointerOf_34 rfl (lv_at hl 1 rfl) ?_
          refine lv_iload_n hx hb dX5_pointerOf_35 rfl (lv_at hl 3 rfl) ?_
          refine lv_ishr hx hb dX5_pointerOf_36 ?_
          refine lv_iconst (v := (1 : Int32)) hx hb dX5_pointerOf_37 (by decide) ?_
          refine lv_iand hx hb dX5_pointerOf_38 ?_
          refine lv_iload hx hb dX5_pointerOf_39 (lv_at hl 0 rfl) ?_
          refine lv_ixor hx hb dX5_pointerOf_41 ?_
          refine lv_iload_n hx hb dX5_pointerOf_42 rfl (lv_at hl 3 rfl) ?_
          refine lv_ishl hx hb dX5_pointerOf_43 ?_
          refine lv_ior hx hb dX5_pointerOf_44 ?_
          refine lv_istore_n (lv' := [(2, .int (pt ||| ((((a1 >>> (bt &&& (31 : Int32))) &&& (1 : Int32)) ^^^ ((pt >>> ((bt + (1 : Int32)) &&& (31 : Int32))) &&& (1 : Int32))) <<< (bt &&& (31 : Int32))))), (4, .int ((pt >>> ((bt + (1 : Int32)) &&& (31 : Int32))) &&& (1 : Int32))), (1, .int a1), (3, .int bt)]) hx hb dX5_pointerOf_45 rfl hl (by decide) rfl (fun ls hl => ?_)
          refine lv_iinc (v := (bt + (-1 : Int32))) (lv' := [(3, .int (bt + (-1 : Int32))), (2, .int (pt ||| ((((a1 >>> (bt &&& (31 : Int32))) &&& (1 : Int32)) ^^^ ((pt >>> ((bt + (1 : Int32)) &&& (31 : Int32))) &&& (1 : Int32))) <<< (bt &&& (31 : Int32))))), (4, .int ((pt >>> ((bt + (1 : Int32)) &&& (31 : Int32))) &&& (1 : Int32))), (1, .int a1)]) hx hb dX5_pointerOf_46 hl (k := 3) rfl rfl (by decide) rfl (fun ls hl => ?_)
          refine lv_goto (tgt := 20) hx hb dX5_pointerOf_49 (by decide) ?_
          exact ih_20 (pt ||| ((((a1 >>> (bt &&& (31 : Int32))) &&& (1 : Int32)) ^^^ ((pt >>> ((bt + (1 : Int32)) &&& (31 : Int32))) &&& (1 : Int32))) <<< (bt &&& (31 : Int32)))) (bt + (-1 : Int32)) _ _ (dn_step c21 hm) hr hP hD hS ls (lv_sub hl [3, 1, 0] rfl)
    exact L_20 _ (0 : Int32) ((M 1) 0) _ _ (dn_init _) hr hP hD hS ls (lv_sub hl [3, 1, 0] rfl)
  · have hr := hr.trans (if_pos c6)
    refine lv_iload_n hx hb dX5_pointerOf_9 rfl (lv_at hl 1 rfl) ?_
    exact endI (v := a1) hb hx hsg hr.symm hP hD hS dX5_pointerOf_10 hlocks
def r_X5_around (M : CS) (a1 : Int32) : Int32 := (a1 &&& (((2 : Int32) * (r_X5_depth M)) - (1 : Int32)))
abbrev rm_X5_around : Room := { frames := 1, cells := 0, slots := 0, locals := 20 }
set_option maxHeartbeats 4000000 in
set_option maxRecDepth 100000 in
theorem c_X5_around (l : Launch) (D : va_G) (cI cC cS : ClassId) (md : Nat → Nat) (M : CS) (a1 : Int32)  : CI l D cI cC cS yX5_around wsX5_around rm_X5_around [.ref (md 0), .int a1] (mdW cI md M) (mdW cI md M) (r_X5_around M a1) := by
  intro sz
  refine startC (cc := cX5_around) (maxL := 2) (ret := (some .int)) (by decide) rfl (Nat.le_of_ble_eq_true rfl) ?_
  intro p e s m args below meth c hx hb hml hsg hts hown hlocks hin hK A hA hS hP hD ls hl
  have hown : s.vm.findClass RX5 = some m.cls := hown
  have hl : lv_has ls 2 [(0, .ref (md 0)), (1, .int a1)] := hl
  have hP : va_P D vwCl [((md 0), mdC md (M 0)), ((md 1), arC cI 96 (M 1)), ((md 2), arC cI 96 (M 2)), ((md 3), arC cI 96 (M 3)), ((md 4), arC cI 384 (M 4)), ((md 5), arC cI 96 (M 5)), ((md 6), arC cI 60 (M 6))] s.heap := hP
  have hD : va_D A [((md 0), mdC md (M 0)), ((md 1), arC cI 96 (M 1)), ((md 2), arC cI 96 (M 2)), ((md 3), arC cI 96 (M 3)), ((md 4), arC cI 384 (M 4)), ((md 5), arC cI 96 (M 5)), ((md 6), arC cI 60 (M 6))] := hD
  have hr : (r_X5_around M a1) = (a1 &&& (((2 : Int32) * (r_X5_depth M)) - (1 : Int32))) := rfl
  refine lv_iload_n hx hb dX5_around_0 rfl (lv_at hl 1 rfl) ?_
  refine lv_iconst (v := (2 : Int32)) hx hb dX5_around_1 (by decide) ?_
  refine lv_aload_n hx hb dX5_around_2 rfl (lv_at hl 0 rfl) ?_
  refine goI (n := 7) (ws' := [((md 0), mdC md (M 0)), ((md 1), arC cI 96 (M 1)), ((md 2), arC cI 96 (M 2)), ((md 3), arC cI 96 (M 3)), ((md 4), arC cI 384 (M 4)), ((md 5), arC cI 96 (M 5)), ((md 6), arC cI 60 (M 6))]) (rs := []) (va_runV (As := []) (rest := [.int (2 : Int32), .int a1]) ⟨hx, hb, hml, hown, hts⟩ (c_X5_depth l D cI cC cS md M  _) (cwV 0 hts gX5_around_X5_depth rfl rfl rfl (by decide +kernel) ⟨Nat.le_of_ble_eq_true rfl, Nat.le_of_ble_eq_true rfl⟩) (preV hK hP hD [0, 1, 2, 3, 4, 5, 6] (by decide) rfl 0 5 rfl rfl) rfl rfl hl.1 rfl (lv_room (Nat.le_of_ble_eq_true rfl)) dX5_around_3 ⟨Nat.zero_le _, Nat.zero_le _⟩) hP hD hS hA [0, 1, 2, 3, 4, 5, 6] [] rfl rfl rfl rfl rfl (by decide +kernel) rfl (fun H locs hP hD hS => ?_)
  refine lv_imul hx hb dX5_around_6 ?_
  refine lv_iconst (v := (1 : Int32)) hx hb dX5_around_7 (by decide) ?_
  refine lv_isub hx hb dX5_around_8 ?_
  refine lv_iand hx hb dX5_around_9 ?_
  exact endI (v := (a1 &&& (((2 : Int32) * (r_X5_depth M)) - (1 : Int32)))) hb hx hsg hr.symm hP hD hS dX5_around_10 hlocks
def r_X5_seen (M : CS) (a1 : Int32) : Int32 := (r_X5_pointerOf M (r_X5_of M a1 (5 : Int32)))
abbrev rm_X5_seen : Room := { frames := 1, cells := 0, slots := 0, locals := 24 }
set_option maxHeartbeats 4000000 in
set_option maxRecDepth 100000 in
theorem c_X5_seen (l : Launch) (D : va_G) (cI cC cS : ClassId) (md : Nat → Nat) (M : CS) (a1 : Int32) (hs : a1 = (0 : Int32) ∨ a1 = (1 : Int32)) : CI l D cI cC cS yX5_seen wsX5_seen rm_X5_seen [.ref (md 0), .int a1] (mdW cI md M) (mdW cI md M) (r_X5_seen M a1) := by
  intro sz
  refine startC (cc := cX5_seen) (maxL := 2) (ret := (some .int)) (by decide) rfl (Nat.le_of_ble_eq_true rfl) ?_
  intro p e s m args below meth c hx hb hml hsg hts hown hlocks hin hK A hA hS hP hD ls hl
  have hown : s.vm.findClass RX5 = some m.cls := hown
  have hl : lv_has ls 2 [(0, .ref (md 0)), (1, .int a1)] := hl
  have hP : va_P D vwCl [((md 0), mdC md (M 0)), ((md 1), arC cI 96 (M 1)), ((md 2), arC cI 96 (M 2)), ((md 3), arC cI 96 (M 3)), ((md 4), arC cI 384 (M 4)), ((md 5), arC cI 96 (M 5)), ((md 6), arC cI 60 (M 6))] s.heap := hP
  have hD : va_D A [((md 0), mdC md (M 0)), ((md 1), arC cI 96 (M 1)), ((md 2), arC cI 96 (M 2)), ((md 3), arC cI 96 (M 3)), ((md 4), arC cI 384 (M 4)), ((md 5), arC cI 96 (M 5)), ((md 6), arC cI 60 (M 6))] := hD
  have hr : (r_X5_seen M a1) = (r_X5_pointerOf M (r_X5_of M a1 (5 : Int32))) := rfl
  refine lv_aload_n hx hb dX5_seen_0 rfl (lv_at hl 0 rfl) ?_
  refine lv_aload_n hx hb dX5_seen_1 rfl (lv_at hl 0 rfl) ?_
  refine lv_iload_n hx hb dX5_seen_2 rfl (lv_at hl 1 rfl) ?_
  refine lv_iconst (v := (5 : Int32)) hx hb dX5_seen_3 (by decide) ?_
  refine goI (n := 7) (ws' := [((md 0), mdC md (M 0)), ((md 1), arC cI 96 (M 1)), ((md 2), arC cI 96 (M 2)), ((md 3), arC cI 96 (M 3)), ((md 4), arC cI 384 (M 4)), ((md 5), arC cI 96 (M 5)), ((md 6), arC cI 60 (M 6))]) (rs := []) (va_runV (As := [.int a1, .int (5 : Int32)]) (rest := [.ref (md 0)]) ⟨hx, hb, hml, hown, hts⟩ (c_X5_of l D cI cC cS md M a1 (5 : Int32) (sd_in hs (by decide)) _) (cwV 2 hts gX5_seen_X5_of rfl rfl rfl (by decide +kernel) ⟨Nat.le_of_ble_eq_true rfl, Nat.le_of_ble_eq_true rfl⟩) (preV hK hP hD [0, 1, 2, 3, 4, 5, 6] (by decide) rfl 0 5 rfl rfl) rfl rfl hl.1 rfl (lv_room (Nat.le_of_ble_eq_true rfl)) dX5_seen_4 ⟨Nat.zero_le _, Nat.zero_le _⟩) hP hD hS hA [0, 1, 2, 3, 4, 5, 6] [] rfl rfl rfl rfl rfl (by decide +kernel) rfl (fun H locs hP hD hS => ?_)
  refine goI (n := 7) (ws' := [((md 0), mdC md (M 0)), ((md 1), arC cI 96 (M 1)), ((md 2), arC cI 96 (M 2)), ((md 3), arC cI 96 (M 3)), ((md 4), arC cI 384 (M 4)), ((md 5), arC cI 96 (M 5)), ((md 6), arC cI 60 (M 6))]) (rs := []) (va_runV (As := [.int (r_X5_of M a1 (5 : Int32))]) (rest := []) ⟨hx, hb, hml, hown, hts⟩ (c_X5_pointerOf l D cI cC cS md M (r_X5_of M a1 (5 : Int32))  _) (cwV 1 hts gX5_seen_X5_pointerOf rfl rfl rfl (by decide +kernel) ⟨Nat.le_of_ble_eq_true rfl, Nat.le_of_ble_eq_true rfl⟩) (preV hK hP hD [0, 1, 2, 3, 4, 5, 6] (by decide) rfl 0 5 rfl rfl) rfl rfl hl.1 rfl (lv_room (Nat.le_of_ble_eq_true rfl)) dX5_seen_7 ⟨Nat.zero_le _, Nat.zero_le _⟩) hP hD hS hA [0, 1, 2, 3, 4, 5, 6] [] rfl rfl rfl rfl rfl (by decide +kernel) rfl (fun H locs hP hD hS => ?_)
  exact endI (v := (r_X5_pointerOf M (r_X5_of M a1 (5 : Int32)))) hb hx hsg hr.symm hP hD hS dX5_seen_10 hlocks
def r_X5_fillSeen (M : CS) (a1 : Int32) : Int32 := (if a1 = (0 : Int32) then (r_X5_around M ((r_X5_of M (0 : Int32) (3 : Int32)) - (r_X5_seen M (0 : Int32)))) else (r_X5_around M ((r_X5_seen M (1 : Int32)) - (r_X5_of M (1 : Int32) (3 : Int32)))))
abbrev rm_X5_fillSeen : Room := { frames := 2, cells := 0, slots := 0, locals := 45 }
set_option maxHeartbeats 4000000 in
set_option maxRecDepth 100000 in
theorem c_X5_fillSeen (l : Launch) (D : va_G) (cI cC cS : ClassId) (md : Nat → Nat) (M : CS) (a1 : Int32)  : CI l D cI cC cS yX5_fillSeen wsX5_fillSeen rm_X5_fillSeen [.ref (md 0), .int a1] (mdW cI md M) (mdW cI md M) (r_X5_fillSeen M a1) := by
  intro sz
  refine startC (cc := cX5_fillSeen) (maxL := 2) (ret := (some .int)) (by decide) rfl (Nat.le_of_ble_eq_true rfl) ?_
  intro p e s m args below meth c hx hb hml hsg hts hown hlocks hin hK A hA hS hP hD ls hl
  have hown : s.vm.findClass RX5 = some m.cls := hown
  have hl : lv_has ls 2 [(0, .ref (md 0)), (1, .int a1)] := hl
  have hP : va_P D vwCl [((md 0), mdC md (M 0)), ((md 1), arC cI 96 (M 1)), ((md 2), arC cI 96 (M 2)), ((md 3), arC cI 96 (M 3)), ((md 4), arC cI 384 (M 4)), ((md 5), arC cI 96 (M 5)), ((md 6), arC cI 60 (M 6))] s.heap := hP
  have hD : va_D A [((md 0), mdC md (M 0)), ((md 1), arC cI 96 (M 1)), ((md 2), arC cI 96 (M 2)), ((md 3), arC cI 96 (M 3)), ((md 4), arC cI 384 (M 4)), ((md 5), arC cI 96 (M 5)), ((md 6), arC cI 60 (M 6))] := hD
  have hr : (r_X5_fillSeen M a1) = (if a1 = (0 : Int32) then (r_X5_around M ((r_X5_of M (0 : Int32) (3 : Int32)) - (r_X5_seen M (0 : Int32)))) else (r_X5_around M ((r_X5_seen M (1 : Int32)) - (r_X5_of M (1 : Int32) (3 : Int32))))) := rfl
  refine lv_iload_n hx hb dX5_fillSeen_0 rfl (lv_at hl 1 rfl) ?_
  refine lv_if_ne (tgt := 23) hx hb dX5_fillSeen_1 (by decide) (fun c1 => ?_) (fun c1 => ?_)
  · have hr := hr.trans (if_neg c1)
    refine lv_aload_n hx hb dX5_fillSeen_23 rfl (lv_at hl 0 rfl) ?_
    refine lv_aload_n hx hb dX5_fillSeen_24 rfl (lv_at hl 0 rfl) ?_
    refine lv_iconst (v := (1 : Int32)) hx hb dX5_fillSeen_25 (by decide) ?_
    refine goI (n := 7) (ws' := [((md 0), mdC md (M 0)), ((md 1), arC cI 96 (M 1)), ((md 2), arC cI 96 (M 2)), ((md 3), arC cI 96 (M 3)), ((md 4), arC cI 384 (M 4)), ((md 5), arC cI 96 (M 5)), ((md 6), arC cI 60 (M 6))]) (rs := []) (va_runV (As := [.int (1 : Int32)]) (rest := [.ref (md 0)]) ⟨hx, hb, hml, hown, hts⟩ (c_X5_seen l D cI cC cS md M (1 : Int32) (Or.inr rfl) _) (cwV 1 hts gX5_fillSeen_X5_seen rfl rfl rfl (by decide +kernel) ⟨Nat.le_of_ble_eq_true rfl, Nat.le_of_ble_eq_true rfl⟩) (preV hK hP hD [0, 1, 2, 3, 4, 5, 6] (by decide) rfl 0 5 rfl rfl) rfl rfl hl.1 rfl (lv_room (Nat.le_of_ble_eq_true rfl)) dX5_fillSeen_26 ⟨Nat.zero_le _, Nat.zero_le _⟩) hP hD hS hA [0, 1, 2, 3, 4, 5, 6] [] rfl rfl rfl rfl rfl (by decide +kernel) rfl (fun H locs hP hD hS => ?_)
    refine lv_aload_n hx hb dX5_fillSeen_29 rfl (lv_at hl 0 rfl) ?_
    refine lv_iconst (v := (1 : Int32)) hx hb dX5_fillSeen_30 (by decide) ?_
    refine lv_iconst (v := (3 : Int32)) hx hb dX5_fillSeen_31 (by decide) ?_
    refine goI (n := 7) (ws' := [((md 0), mdC md (M 0)), ((md 1), arC cI 96 (M 1)), ((md 2), arC cI 96 (M 2)), ((md 3), arC cI 96 (M 3)), ((md 4), arC cI 384 (M 4)), ((md 5), arC cI 96 (M 5)), ((md 6), arC cI 60 (M 6))]) (rs := []) (va_runV (As := [.int (1 : Int32), .int (3 : Int32)]) (rest := [.int (r_X5_seen M (1 : Int32)), .ref (md 0)]) ⟨hx, hb, hml, hown, hts⟩ (c_X5_of l D cI cC cS md M (1 : Int32) (3 : Int32) (vp_in_iff.mpr (by decide)) _) (cwV 2 hts gX5_fillSeen_X5_of rfl rfl rfl (by decide +kernel) ⟨Nat.le_of_ble_eq_true rfl, Nat.le_of_ble_eq_true rfl⟩) (preV hK hP hD [0, 1, 2, 3, 4, 5, 6] (by decide) rfl 0 5 rfl rfl) rfl rfl hl.1 rfl (lv_room (Nat.le_of_ble_eq_true rfl)) dX5_fillSeen_32 ⟨Nat.zero_le _, Nat.zero_le _⟩) hP hD hS hA [0, 1, 2, 3, 4, 5, 6] [] rfl rfl rfl rfl rfl (by decide +kernel) rfl (fun H locs hP hD hS => ?_)
    refine lv_isub hx hb dX5_fillSeen_35 ?_
    refine goI (n := 7) (ws' := [((md 0), mdC md (M 0)), ((md 1), arC cI 96 (M 1)), ((md 2), arC cI 96 (M 2)), ((md 3), arC cI 96 (M 3)), ((md 4), arC cI 384 (M 4)), ((md 5), arC cI 96 (M 5)), ((md 6), arC cI 60 (M 6))]) (rs := []) (va_runV (As := [.int ((r_X5_seen M (1 : Int32)) - (r_X5_of M (1 : Int32) (3 : Int32)))]) (rest := []) ⟨hx, hb, hml, hown, hts⟩ (c_X5_around l D cI cC cS md M ((r_X5_seen M (1 : Int32)) - (r_X5_of M (1 : Int32) (3 : Int32)))  _) (cwV 1 hts gX5_fillSeen_X5_around rfl rfl rfl (by decide +kernel) ⟨Nat.le_of_ble_eq_true rfl, Nat.le_of_ble_eq_true rfl⟩) (preV hK hP hD [0, 1, 2, 3, 4, 5, 6] (by decide) rfl 0 5 rfl rfl) rfl rfl hl.1 rfl (lv_room (Nat.le_of_ble_eq_true rfl)) dX5_fillSeen_36 ⟨Nat.zero_le _, Nat.zero_le _⟩) hP hD hS hA [0, 1, 2, 3, 4, 5, 6] [] rfl rfl rfl rfl rfl (by decide +kernel) rfl (fun H locs hP hD hS => ?_)
    exact endI (v := (r_X5_around M ((r_X5_seen M (1 : Int32)) - (r_X5_of M (1 : Int32) (3 : Int32))))) hb hx hsg hr.symm hP hD hS dX5_fillSeen_39 hlocks
  · have hr := hr.trans (if_pos c1)
    refine lv_aload_n hx hb dX5_fillSeen_4 rfl (lv_at hl 0 rfl) ?_
    refine lv_aload_n hx hb dX5_fillSeen_5 rfl (lv_at hl 0 rfl) ?_
    refine lv_iconst (v := (0 : Int32)) hx hb dX5_fillSeen_6 (by decide) ?_
    refine lv_iconst (v := (3 : Int32)) hx hb dX5_fillSeen_7 (by decide) ?_
    refine goI (n := 7) (ws' := [((md 0), mdC md (M 0)), ((md 1), arC cI 96 (M 1)), ((md 2), arC cI 96 (M 2)), ((md 3), arC cI 96 (M 3)), ((md 4), arC cI 384 (M 4)), ((md 5), arC cI 96 (M 5)), ((md 6), arC cI 60 (M 6))]) (rs := []) (va_runV (As := [.int (0 : Int32), .int (3 : Int32)]) (rest := [.ref (md 0)]) ⟨hx, hb, hml, hown, hts⟩ (c_X5_of l D cI cC cS md M (0 : Int32) (3 : Int32) (vp_in_iff.mpr (by decide)) _) (cwV 2 hts gX5_fillSeen_X5_of rfl rfl rfl (by decide +kernel) ⟨Nat.le_of_ble_eq_true rfl, Nat.le_of_ble_eq_true rfl⟩) (preV hK hP hD [0, 1, 2, 3, 4, 5, 6] (by decide) rfl 0 5 rfl rfl) rfl rfl hl.1 rfl (lv_room (Nat.le_of_ble_eq_true rfl)) dX5_fillSeen_8 ⟨Nat.zero_le _, Nat.zero_le _⟩) hP hD hS hA [0, 1, 2, 3, 4, 5, 6] [] rfl rfl rfl rfl rfl (by decide +kernel) rfl (fun H locs hP hD hS => ?_)
    refine lv_aload_n hx hb dX5_fillSeen_11 rfl (lv_at hl 0 rfl) ?_
    refine lv_iconst (v := (0 : Int32)) hx hb dX5_fillSeen_12 (by decide) ?_
    refine goI (n := 7) (ws' := [((md 0), mdC md (M 0)), ((md 1), arC cI 96 (M 1)), ((md 2), arC cI 96 (M 2)), ((md 3), arC cI 96 (M 3)), ((md 4), arC cI 384 (M 4)), ((md 5), arC cI 96 (M 5)), ((md 6), arC cI 60 (M 6))]) (rs := []) (va_runV (As := [.int (0 : Int32)]) (rest := [.int (r_X5_of M (0 : Int32) (3 : Int32)), .ref (md 0)]) ⟨hx, hb, hml, hown, hts⟩ (c_X5_seen l D cI cC cS md M (0 : Int32) (Or.inl rfl) _) (cwV 1 hts gX5_fillSeen_X5_seen rfl rfl rfl (by decide +kernel) ⟨Nat.le_of_ble_eq_true rfl, Nat.le_of_ble_eq_true rfl⟩) (preV hK hP hD [0, 1, 2, 3, 4, 5, 6] (by decide) rfl 0 5 rfl rfl) rfl rfl hl.1 rfl (lv_room (Nat.le_of_ble_eq_true rfl)) dX5_fillSeen_13 ⟨Nat.zero_le _, Nat.zero_le _⟩) hP hD hS hA [0, 1, 2, 3, 4, 5, 6] [] rfl rfl rfl rfl rfl (by decide +kernel) rfl (fun H locs hP hD hS => ?_)
    refine lv_isub hx hb dX5_fillSeen_16 ?_
    refine goI (n := 7) (ws' := [((md 0), mdC md (M 0)), ((md 1), arC cI 96 (M 1)), ((md 2), arC cI 96 (M 2)), ((md 3), arC cI 96 (M 3)), ((md 4), arC cI 384 (M 4)), ((md 5), arC cI 96 (M 5)), ((md 6), arC cI 60 (M 6))]) (rs := []) (va_runV (As := [.int ((r_X5_of M (0 : Int32) (3 : Int32)) - (r_X5_seen M (0 : Int32)))]) (rest := []) ⟨hx, hb, hml, hown, hts⟩ (c_X5_around l D cI cC cS md M ((r_X5_of M (0 : Int32) (3 : Int32)) - (r_X5_seen M (0 : Int32)))  _) (cwV 1 hts gX5_fillSeen_X5_around rfl rfl rfl (by decide +kernel) ⟨Nat.le_of_ble_eq_true rfl, Nat.le_of_ble_eq_true rfl⟩) (preV hK hP hD [0, 1, 2, 3, 4, 5, 6] (by decide) rfl 0 5 rfl rfl) rfl rfl hl.1 rfl (lv_room (Nat.le_of_ble_eq_true rfl)) dX5_fillSeen_17 ⟨Nat.zero_le _, Nat.zero_le _⟩) hP hD hS hA [0, 1, 2, 3, 4, 5, 6] [] rfl rfl rfl rfl rfl (by decide +kernel) rfl (fun H locs hP hD hS => ?_)
    refine lv_goto (tgt := 39) hx hb dX5_fillSeen_20 (by decide) ?_
    exact endI (v := (r_X5_around M ((r_X5_of M (0 : Int32) (3 : Int32)) - (r_X5_seen M (0 : Int32))))) hb hx hsg hr.symm hP hD hS dX5_fillSeen_39 hlocks
def r_X5_seems (M : CS) (a1 : Int32) : Int32 := ((fun (x17_s0 : Int32) => (if (r_X5_fillSeen M a1) = x17_s0 then (1 : Int32) else (0 : Int32))) (if a1 = (0 : Int32) then (r_X5_depth M) else (0 : Int32)))
abbrev rm_X5_seems : Room := { frames := 3, cells := 0, slots := 0, locals := 66 }
set_option maxHeartbeats 4000000 in
set_option maxRecDepth 100000 in
theorem c_X5_seems (l : Launch) (D : va_G) (cI cC cS : ClassId) (md : Nat → Nat) (M : CS) (a1 : Int32)  : CI l D cI cC cS yX5_seems wsX5_seems rm_X5_seems [.ref (md 0), .int a1] (mdW cI md M) (mdW cI md M) (r_X5_seems M a1) := by
  intro sz
  refine startC (cc := cX5_seems) (maxL := 2) (ret := (some .boolean)) (by decide) rfl (Nat.le_of_ble_eq_true rfl) ?_
  intro p e s m args below meth c hx hb hml hsg hts hown hlocks hin hK A hA hS hP hD ls hl
  have hown : s.vm.findClass RX5 = some m.cls := hown
  have hl : lv_has ls 2 [(0, .ref (md 0)), (1, .int a1)] := hl
  have hP : va_P D vwCl [((md 0), mdC md (M 0)), ((md 1), arC cI 96 (M 1)), ((md 2), arC cI 96 (M 2)), ((md 3), arC cI 96 (M 3)), ((md 4), arC cI 384 (M 4)), ((md 5), arC cI 96 (M 5)), ((md 6), arC cI 60 (M 6))] s.heap := hP
  have hD : va_D A [((md 0), mdC md (M 0)), ((md 1), arC cI 96 (M 1)), ((md 2), arC cI 96 (M 2)), ((md 3), arC cI 96 (M 3)), ((md 4), arC cI 384 (M 4)), ((md 5), arC cI 96 (M 5)), ((md 6), arC cI 60 (M 6))] := hD
  have hr : (r_X5_seems M a1) = ((fun (x17_s0 : Int32) => (if (r_X5_fillSeen M a1) = x17_s0 then (1 : Int32) else (0 : Int32))) (if a1 = (0 : Int32) then (r_X5_depth M) else (0 : Int32))) := rfl
  refine lv_aload_n hx hb dX5_seems_0 rfl (lv_at hl 0 rfl) ?_
  refine lv_iload_n hx hb dX5_seems_1 rfl (lv_at hl 1 rfl) ?_
  refine goI (n := 7) (ws' := [((md 0), mdC md (M 0)), ((md 1), arC cI 96 (M 1)), ((md 2), arC cI 96 (M 2)), ((md 3), arC cI 96 (M 3)), ((md 4), arC cI 384 (M 4)), ((md 5), arC cI 96 (M 5)), ((md 6), arC cI 60 (M 6))]) (rs := []) (va_runV (As := [.int a1]) (rest := []) ⟨hx, hb, hml, hown, hts⟩ (c_X5_fillSeen l D cI cC cS md M a1  _) (cwV 1 hts gX5_seems_X5_fillSeen rfl rfl rfl (by decide +kernel) ⟨Nat.le_of_ble_eq_true rfl, Nat.le_of_ble_eq_true rfl⟩) (preV hK hP hD [0, 1, 2, 3, 4, 5, 6] (by decide) rfl 0 5 rfl rfl) rfl rfl hl.1 rfl (lv_room (Nat.le_of_ble_eq_true rfl)) dX5_seems_2 ⟨Nat.zero_le _, Nat.zero_le _⟩) hP hD hS hA [0, 1, 2, 3, 4, 5, 6] [] rfl rfl rfl rfl rfl (by decide +kernel) rfl (fun H locs hP hD hS => ?_)
  refine lv_iload_n hx hb dX5_seems_5 rfl (lv_at hl 1 rfl) ?_
  have J_17 : ∀ (x17_s0 : Int32) (H : Heap) (locs : List Loc), x17_s0 = (if a1 = (0 : Int32) then (r_X5_depth M) else (0 : Int32)) → va_P D vwCl [((md 0), mdC md (M 0)), ((md 1), arC cI 96 (M 1)), ((md 2), arC cI 96 (M 2)), ((md 3), arC cI 96 (M 3)), ((md 4), arC cI 384 (M 4)), ((md 5), arC cI 96 (M 5)), ((md 6), arC cI 60 (M 6))] H → va_D A [((md 0), mdC md (M 0)), ((md 1), arC cI 96 (M 1)), ((md 2), arC cI 96 (M 2)), ((md 3), arC cI 96 (M 3)), ((md 4), arC cI 384 (M 4)), ((md 5), arC cI 96 (M 5)), ((md 6), arC cI 60 (M 6))] → va_S A s.heap H locs → ∀ ls, lv_has ls 2 [] → W p l e rm_X5_seems s m args below meth c H locs 0 0 (MQ below (QI D (mdW cI md M) (r_X5_seems M a1) A) args s 0 0 A) (F0 m 17 ls [.int x17_s0, .int (r_X5_fillSeen M a1)]) := by
    intro x17_s0 H locs ex17_s0 hP hD hS ls hl
    have hr : (r_X5_seems M a1) = (if (r_X5_fillSeen M a1) = x17_s0 then (1 : Int32) else (0 : Int32)) := by subst ex17_s0; exact hr
    refine lv_icmp_ne (tgt := 24) hx hb dX5_seems_17 (by decide) (fun c17 => ?_) (fun c17 => ?_)
    · have hr := hr.trans (if_neg c17)
      refine lv_iconst (v := (0 : Int32)) hx hb dX5_seems_24 (by decide) ?_
      exact endZ (v := (0 : Int32)) hb hx hsg rfl hr.symm hP hD hS dX5_seems_25 hlocks
    · have hr := hr.trans (if_pos c17)
      refine lv_iconst (v := (1 : Int32)) hx hb dX5_seems_20 (by decide) ?_
      refine lv_goto (tgt := 25) hx hb dX5_seems_21 (by decide) ?_
      exact endZ (v := (1 : Int32)) hb hx hsg rfl hr.symm hP hD hS dX5_seems_25 hlocks
  refine lv_if_ne (tgt := 16) hx hb dX5_seems_6 (by decide) (fun c6 => ?_) (fun c6 => ?_)
  · refine lv_iconst (v := (0 : Int32)) hx hb dX5_seems_16 (by decide) ?_
    exact J_17 (0 : Int32) _ _ (if_neg c6).symm hP hD hS ls (lv_sub hl [] rfl)
  · refine lv_aload_n hx hb dX5_seems_9 rfl (lv_at hl 0 rfl) ?_
    refine goI (n := 7) (ws' := [((md 0), mdC md (M 0)), ((md 1), arC cI 96 (M 1)), ((md 2), arC cI 96 (M 2)), ((md 3), arC cI 96 (M 3)), ((md 4), arC cI 384 (M 4)), ((md 5), arC cI 96 (M 5)), ((md 6), arC cI 60 (M 6))]) (rs := []) (va_runV (As := []) (rest := [.int (r_X5_fillSeen M a1)]) ⟨hx, hb, hml, hown, hts⟩ (c_X5_depth l D cI cC cS md M  _) (cwV 0 hts gX5_seems_X5_depth rfl rfl rfl (by decide +kernel) ⟨Nat.le_of_ble_eq_true rfl, Nat.le_of_ble_eq_true rfl⟩) (preV hK hP hD [0, 1, 2, 3, 4, 5, 6] (by decide) rfl 0 5 rfl rfl) rfl rfl hl.1 rfl (lv_room (Nat.le_of_ble_eq_true rfl)) dX5_seems_10 ⟨Nat.zero_le _, Nat.zero_le _⟩) hP hD hS hA [0, 1, 2, 3, 4, 5, 6] [] rfl rfl rfl rfl rfl (by decide +kernel) rfl (fun H locs hP hD hS => ?_)
    refine lv_goto (tgt := 17) hx hb dX5_seems_13 (by decide) ?_
    exact J_17 (r_X5_depth M) _ _ (if_pos c6).symm hP hD hS ls (lv_sub hl [] rfl)
def r_X5_ticksAt (M : CS) (a1 : Int32) (a2 : Int32) : Int32 := (if (r_X5_of M a1 (2 : Int32)) = (1 : Int32) then (if ((a2 + (r_X5_of M a1 (1 : Int32))) - (a2 + (r_X5_of M a1 (1 : Int32))) / (r_X5_of M a1 (0 : Int32)) * (r_X5_of M a1 (0 : Int32))) = (0 : Int32) then (1 : Int32) else (0 : Int32)) else (0 : Int32))
abbrev rm_X5_ticksAt : Room := { frames := 1, cells := 0, slots := 0, locals := 22 }
set_option maxHeartbeats 4000000 in
set_option maxRecDepth 100000 in
theorem c_X5_ticksAt (l : Launch) (D : va_G) (cI cC cS : ClassId) (md : Nat → Nat) (M : CS) (a1 : Int32) (a2 : Int32) (hs : a1 = (0 : Int32) ∨ a1 = (1 : Int32)) (hz : ¬ (r_X5_of M a1 (0 : Int32)) = (0 : Int32)) : CI l D cI cC cS yX5_ticksAt wsX5_ticksAt rm_X5_ticksAt [.ref (md 0), .int a1, .int a2] (mdW cI md M) (mdW cI md M) (r_X5_ticksAt M a1 a2) := by
  intro sz
  refine startC (cc := cX5_ticksAt) (maxL := 3) (ret := (some .boolean)) (by decide) rfl (Nat.le_of_ble_eq_true rfl) ?_
  intro p e s m args below meth c hx hb hml hsg hts hown hlocks hin hK A hA hS hP hD ls hl
  have hown : s.vm.findClass RX5 = some m.cls := hown
  have hl : lv_has ls 3 [(0, .ref (md 0)), (1, .int a1), (2, .int a2)] := hl
  have hP : va_P D vwCl [((md 0), mdC md (M 0)), ((md 1), arC cI 96 (M 1)), ((md 2), arC cI 96 (M 2)), ((md 3), arC cI 96 (M 3)), ((md 4), arC cI 384 (M 4)), ((md 5), arC cI 96 (M 5)), ((md 6), arC cI 60 (M 6))] s.heap := hP
  have hD : va_D A [((md 0), mdC md (M 0)), ((md 1), arC cI 96 (M 1)), ((md 2), arC cI 96 (M 2)), ((md 3), arC cI 96 (M 3)), ((md 4), arC cI 384 (M 4)), ((md 5), arC cI 96 (M 5)), ((md 6), arC cI 60 (M 6))] := hD
  have hr : (r_X5_ticksAt M a1 a2) = (if (r_X5_of M a1 (2 : Int32)) = (1 : Int32) then (if ((a2 + (r_X5_of M a1 (1 : Int32))) - (a2 + (r_X5_of M a1 (1 : Int32))) / (r_X5_of M a1 (0 : Int32)) * (r_X5_of M a1 (0 : Int32))) = (0 : Int32) then (1 : Int32) else (0 : Int32)) else (0 : Int32)) := rfl
  refine lv_aload_n hx hb dX5_ticksAt_0 rfl (lv_at hl 0 rfl) ?_
  refine lv_iload_n hx hb dX5_ticksAt_1 rfl (lv_at hl 1 rfl) ?_
  refine lv_iconst (v := (2 : Int32)) hx hb dX5_ticksAt_2 (by decide) ?_
  refine goI (n := 7) (ws' := [((md 0), mdC md (M 0)), ((md 1), arC cI 96 (M 1)), ((md 2), arC cI 96 (M 2)), ((md 3), arC cI 96 (M 3)), ((md 4), arC cI 384 (M 4)), ((md 5), arC cI 96 (M 5)), ((md 6), arC cI 60 (M 6))]) (rs := []) (va_runV (As := [.int a1, .int (2 : Int32)]) (rest := []) ⟨hx, hb, hml, hown, hts⟩ (c_X5_of l D cI cC cS md M a1 (2 : Int32) (sd_in hs (by decide)) _) (cwV 2 hts gX5_ticksAt_X5_of rfl rfl rfl (by decide +kernel) ⟨Nat.le_of_ble_eq_true rfl, Nat.le_of_ble_eq_true rfl⟩) (preV hK hP hD [0, 1, 2, 3, 4, 5, 6] (by decide) rfl 0 5 rfl rfl) rfl rfl hl.1 rfl (lv_room (Nat.le_of_ble_eq_true rfl)) dX5_ticksAt_3 ⟨Nat.zero_le _, Nat.zero_le _⟩) hP hD hS hA [0, 1, 2, 3, 4, 5, 6] [] rfl rfl rfl rfl rfl (by decide +kernel) rfl (fun H locs hP hD hS => ?_)
  refine lv_iconst (v := (1 : Int32)) hx hb dX5_ticksAt_6 (by decide) ?_
  refine lv_icmp_ne (tgt := 32) hx hb dX5_ticksAt_7 (by decide) (fun c7 => ?_) (fun c7 => ?_)
  · have hr := hr.trans (if_neg c7)
    refine lv_iconst (v := (0 : Int32)) hx hb dX5_ticksAt_32 (by decide) ?_
    exact endZ (v := (0 : Int32)) hb hx hsg rfl hr.symm hP hD hS dX5_ticksAt_33 hlocks
  · have hr := hr.trans (if_pos c7)
    refine lv_iload_n hx hb dX5_ticksAt_10 rfl (lv_at hl 2 rfl) ?_
    refine lv_aload_n hx hb dX5_ticksAt_11 rfl (lv_at hl 0 rfl) ?_
    refine lv_iload_n hx hb dX5_ticksAt_12 rfl (lv_at hl 1 rfl) ?_
    refine lv_iconst (v := (1 : Int32)) hx hb dX5_ticksAt_13 (by decide) ?_
    refine goI (n := 7) (ws' := [((md 0), mdC md (M 0)), ((md 1), arC cI 96 (M 1)), ((md 2), arC cI 96 (M 2)), ((md 3), arC cI 96 (M 3)), ((md 4), arC cI 384 (M 4)), ((md 5), arC cI 96 (M 5)), ((md 6), arC cI 60 (M 6))]) (rs := []) (va_runV (As := [.int a1, .int (1 : Int32)]) (rest := [.int a2]) ⟨hx, hb, hml, hown, hts⟩ (c_X5_of l D cI cC cS md M a1 (1 : Int32) (sd_in hs (by decide)) _) (cwV 2 hts gX5_ticksAt_X5_of rfl rfl rfl (by decide +kernel) ⟨Nat.le_of_ble_eq_true rfl, Nat.le_of_ble_eq_true rfl⟩) (preV hK hP hD [0, 1, 2, 3, 4, 5, 6] (by decide) rfl 0 5 rfl rfl) rfl rfl hl.1 rfl (lv_room (Nat.le_of_ble_eq_true rfl)) dX5_ticksAt_14 ⟨Nat.zero_le _, Nat.zero_le _⟩) hP hD hS hA [0, 1, 2, 3, 4, 5, 6] [] rfl rfl rfl rfl rfl (by decide +kernel) rfl (fun H locs hP hD hS => ?_)
    refine lv_iadd hx hb dX5_ticksAt_17 ?_
    refine lv_aload_n hx hb dX5_ticksAt_18 rfl (lv_at hl 0 rfl) ?_
    refine lv_iload_n hx hb dX5_ticksAt_19 rfl (lv_at hl 1 rfl) ?_
    refine lv_iconst (v := (0 : Int32)) hx hb dX5_ticksAt_20 (by decide) ?_
    refine goI (n := 7) (ws' := [((md 0), mdC md (M 0)), ((md 1), arC cI 96 (M 1)), ((md 2), arC cI 96 (M 2)), ((md 3), arC cI 96 (M 3)), ((md 4), arC cI 384 (M 4)), ((md 5), arC cI 96 (M 5)), ((md 6), arC cI 60 (M 6))]) (rs := []) (va_runV (As := [.int a1, .int (0 : Int32)]) (rest := [.int (a2 + (r_X5_of M a1 (1 : Int32)))]) ⟨hx, hb, hml, hown, hts⟩ (c_X5_of l D cI cC cS md M a1 (0 : Int32) (sd_in hs (by decide)) _) (cwV 2 hts gX5_ticksAt_X5_of rfl rfl rfl (by decide +kernel) ⟨Nat.le_of_ble_eq_true rfl, Nat.le_of_ble_eq_true rfl⟩) (preV hK hP hD [0, 1, 2, 3, 4, 5, 6] (by decide) rfl 0 5 rfl rfl) rfl rfl hl.1 rfl (lv_room (Nat.le_of_ble_eq_true rfl)) dX5_ticksAt_21 ⟨Nat.zero_le _, Nat.zero_le _⟩) hP hD hS hA [0, 1, 2, 3, 4, 5, 6] [] rfl rfl rfl rfl rfl (by decide +kernel) rfl (fun H locs hP hD hS => ?_)
    refine lv_irem hx hb dX5_ticksAt_24 hz ?_
    refine lv_if_ne (tgt := 32) hx hb dX5_ticksAt_25 (by decide) (fun c25 => ?_) (fun c25 => ?_)
    · have hr := hr.trans (if_neg c25)
      refine lv_iconst (v := (0 : Int32)) hx hb dX5_ticksAt_32 (by decide) ?_
      exact endZ (v := (0 : Int32)) hb hx hsg rfl hr.symm hP hD hS dX5_ticksAt_33 hlocks
    · have hr := hr.trans (if_pos c25)
      refine lv_iconst (v := (1 : Int32)) hx hb dX5_ticksAt_28 (by decide) ?_
      refine lv_goto (tgt := 33) hx hb dX5_ticksAt_29 (by decide) ?_
      exact endZ (v := (1 : Int32)) hb hx hsg rfl hr.symm hP hD hS dX5_ticksAt_33 hlocks
def r_X5_acts (M : CS) (a1 : Int32) (a2 : Int32) : Int32 := (if a2 = (0 : Int32) then (0 : Int32) else (if (r_X5_seems M a1) = (0 : Int32) then (if a1 = (1 : Int32) then (1 : Int32) else (if ((M 1) 5) ≤ (0 : Int32) then (0 : Int32) else (1 : Int32))) else (0 : Int32)))
abbrev rm_X5_acts : Room := { frames := 4, cells := 0, slots := 0, locals := 87 }
set_option maxHeartbeats 4000000 in
set_option maxRecDepth 100000 in
theorem c_X5_acts (l : Launch) (D : va_G) (cI cC cS : ClassId) (md : Nat → Nat) (M : CS) (a1 : Int32) (a2 : Int32)  : CI l D cI cC cS yX5_acts wsX5_acts rm_X5_acts [.ref (md 0), .int a1, .int a2] (mdW cI md M) (mdW cI md M) (r_X5_acts M a1 a2) := by
  intro sz
  refine startC (cc := cX5_acts) (maxL := 3) (ret := (some .boolean)) (by decide) rfl (Nat.le_of_ble_eq_true rfl) ?_
  intro p e s m args below meth c hx hb hml hsg hts hown hlocks hin hK A hA hS hP hD ls hl
  have hown : s.vm.findClass RX5 = some m.cls := hown
  have hl : lv_has ls 3 [(0, .ref (md 0)), (1, .int a1), (2, .int a2)] := hl
  have hP : va_P D vwCl [((md 0), mdC md (M 0)), ((md 1), arC cI 96 (M 1)), ((md 2), arC cI 96 (M 2)), ((md 3), arC cI 96 (M 3)), ((md 4), arC cI 384 (M 4)), ((md 5), arC cI 96 (M 5)), ((md 6), arC cI 60 (M 6))] s.heap := hP
  have hD : va_D A [((md 0), mdC md (M 0)), ((md 1), arC cI 96 (M 1)), ((md 2), arC cI 96 (M 2)), ((md 3), arC cI 96 (M 3)), ((md 4), arC cI 384 (M 4)), ((md 5), arC cI 96 (M 5)), ((md 6), arC cI 60 (M 6))] := hD
  have inX5 : ∀ w ∈ wsX50, w ∈ wsX5_acts := fun _ h => List.mem_cons_of_mem _ (List.mem_append_right _ h)
  have hr : (r_X5_acts M a1 a2) = (if a2 = (0 : Int32) then (0 : Int32) else (if (r_X5_seems M a1) = (0 : Int32) then (if a1 = (1 : Int32) then (1 : Int32) else (if ((M 1) 5) ≤ (0 : Int32) then (0 : Int32) else (1 : Int32))) else (0 : Int32))) := rfl
  refine lv_iload_n hx hb dX5_acts_0 rfl (lv_at hl 2 rfl) ?_
  refine lv_if_eq (tgt := 30) hx hb dX5_acts_1 (by decide) (fun c1 => ?_) (fun c1 => ?_)
  · have hr := hr.trans (if_pos c1)
    refine lv_iconst (v := (0 : Int32)) hx hb dX5_acts_30 (by decide) ?_
    exact endZ (v := (0 : Int32)) hb hx hsg rfl hr.symm hP hD hS dX5_acts_31 hlocks
  · have hr := hr.trans (if_neg c1)
    refine lv_aload_n hx hb dX5_acts_4 rfl (lv_at hl 0 rfl) ?_
    refine lv_iload_n hx hb dX5_acts_5 rfl (lv_at hl 1 rfl) ?_
    refine goI (n := 7) (ws' := [((md 0), mdC md (M 0)), ((md 1), arC cI 96 (M 1)), ((md 2), arC cI 96 (M 2)), ((md 3), arC cI 96 (M 3)), ((md 4), arC cI 384 (M 4)), ((md 5), arC cI 96 (M 5)), ((md 6), arC cI 60 (M 6))]) (rs := []) (va_runV (As := [.int a1]) (rest := []) ⟨hx, hb, hml, hown, hts⟩ (c_X5_seems l D cI cC cS md M a1  _) (cwV 1 hts gX5_acts_X5_seems rfl rfl rfl (by decide +kernel) ⟨Nat.le_of_ble_eq_true rfl, Nat.le_of_ble_eq_true rfl⟩) (preV hK hP hD [0, 1, 2, 3, 4, 5, 6] (by decide) rfl 0 5 rfl rfl) rfl rfl hl.1 rfl (lv_room (Nat.le_of_ble_eq_true rfl)) dX5_acts_6 ⟨Nat.zero_le _, Nat.zero_le _⟩) hP hD hS hA [0, 1, 2, 3, 4, 5, 6] [] rfl rfl rfl rfl rfl (by decide +kernel) rfl (fun H locs hP hD hS => ?_)
    refine lv_if_ne (tgt := 30) hx hb dX5_acts_9 (by decide) (fun c9 => ?_) (fun c9 => ?_)
    · have hr := hr.trans (if_neg c9)
      refine lv_iconst (v := (0 : Int32)) hx hb dX5_acts_30 (by decide) ?_
      exact endZ (v := (0 : Int32)) hb hx hsg rfl hr.symm hP hD hS dX5_acts_31 hlocks
    · have hr := hr.trans (if_pos c9)
      refine lv_iload_n hx hb dX5_acts_12 rfl (lv_at hl 1 rfl) ?_
      refine lv_iconst (v := (1 : Int32)) hx hb dX5_acts_13 (by decide) ?_
      refine lv_icmp_eq (tgt := 26) hx hb dX5_acts_14 (by decide) (fun c14 => ?_) (fun c14 => ?_)
      · have hr := hr.trans (if_pos c14)
        refine lv_iconst (v := (1 : Int32)) hx hb dX5_acts_26 (by decide) ?_
        refine lv_goto (tgt := 31) hx hb dX5_acts_27 (by decide) ?_
        exact endZ (v := (1 : Int32)) hb hx hsg rfl hr.symm hP hD hS dX5_acts_31 hlocks
      · have hr := hr.trans (if_neg c14)
        refine lv_aload_n hx hb dX5_acts_17 rfl (lv_at hl 0 rfl) ?_
        refine va_get (D := D) (ci := 5) (v := .ref (md 1)) (C := RX5) (T := TX5) (N := 14) hx hb hts inX5 hown hK.1 hP 0 rfl rfl 0 (by decide) (hts (.fieldLink RX5 7 "GrayPointersModel" "all" "[I") (List.mem_of_getElem? (i := 1) rfl)) (fun _ h9 => h9) rfl dX5_acts_18 ?_
        refine lv_iconst (v := (5 : Int32)) hx hb dX5_acts_21 (by decide) ?_
        refine va_iald hx hb hK.1 hP 1 0 rfl rfl (i := (5 : Int32)) (vp_in_iff.mpr (by decide)) dX5_acts_22 ?_
        refine W.eq (g2 := F0 m 23 ls [.int ((M 1) 5)]) rfl ?_
        refine lv_if_le (tgt := 30) hx hb dX5_acts_23 (by decide) (fun c23 => ?_) (fun c23 => ?_)
        · have hr := hr.trans (if_pos c23)
          refine lv_iconst (v := (0 : Int32)) hx hb dX5_acts_30 (by decide) ?_
          exact endZ (v := (0 : Int32)) hb hx hsg rfl hr.symm hP hD hS dX5_acts_31 hlocks
        · have hr := hr.trans (if_neg c23)
          refine lv_iconst (v := (1 : Int32)) hx hb dX5_acts_26 (by decide) ?_
          refine lv_goto (tgt := 31) hx hb dX5_acts_27 (by decide) ?_
          exact endZ (v := (1 : Int32)) hb hx hsg rfl hr.symm hP hD hS dX5_acts_31 hlocks
def r_X5_sampleOf (M : CS) (a1 : Int32) (a2 : Int32) : Int32 := ((fun (x25_s0 : Int32) => (((r_X5_codeOf M a1) &&& (21 : Int32)) ||| (x25_s0 &&& (10 : Int32)))) (if a2 = (0 : Int32) then (r_X5_codeOf M a1) else (r_X5_codeOf M (r_X5_around M (a1 + (1 : Int32))))))
abbrev rm_X5_sampleOf : Room := { frames := 2, cells := 0, slots := 0, locals := 41 }
set_option maxHeartbeats 4000000 in
set_option maxRecDepth 100000 in
theorem c_X5_sampleOf (l : Launch) (D : va_G) (cI cC cS : ClassId) (md : Nat → Nat) (M : CS) (a1 : Int32) (a2 : Int32)  : CI l D cI cC cS yX5_sampleOf wsX5_sampleOf rm_X5_sampleOf [.ref (md 0), .int a1, .int a2] (mdW cI md M) (mdW cI md M) (r_X5_sampleOf M a1 a2) := by
  intro sz
  refine startC (cc := cX5_sampleOf) (maxL := 5) (ret := (some .int)) (by decide) rfl (Nat.le_of_ble_eq_true rfl) ?_
  intro p e s m args below meth c hx hb hml hsg hts hown hlocks hin hK A hA hS hP hD ls hl
  have hown : s.vm.findClass RX5 = some m.cls := hown
  have hl : lv_has ls 5 [(0, .ref (md 0)), (1, .int a1), (2, .int a2)] := hl
  have hP : va_P D vwCl [((md 0), mdC md (M 0)), ((md 1), arC cI 96 (M 1)), ((md 2), arC cI 96 (M 2)), ((md 3), arC cI 96 (M 3)), ((md 4), arC cI 384 (M 4)), ((md 5), arC cI 96 (M 5)), ((md 6), arC cI 60 (M 6))] s.heap := hP
  have hD : va_D A [((md 0), mdC md (M 0)), ((md 1), arC cI 96 (M 1)), ((md 2), arC cI 96 (M 2)), ((md 3), arC cI 96 (M 3)), ((md 4), arC cI 384 (M 4)), ((md 5), arC cI 96 (M 5)), ((md 6), arC cI 60 (M 6))] := hD
  have hr : (r_X5_sampleOf M a1 a2) = ((fun (x25_s0 : Int32) => (((r_X5_codeOf M a1) &&& (21 : Int32)) ||| (x25_s0 &&& (10 : Int32)))) (if a2 = (0 : Int32) then (r_X5_codeOf M a1) else (r_X5_codeOf M (r_X5_around M (a1 + (1 : Int32)))))) := rfl
  refine lv_aload_n hx hb dX5_sampleOf_0 rfl (lv_at hl 0 rfl) ?_
  refine lv_iload_n hx hb dX5_sampleOf_1 rfl (lv_at hl 1 rfl) ?_
  refine goI (n := 7) (ws' := [((md 0), mdC md (M 0)), ((md 1), arC cI 96 (M 1)), ((md 2), arC cI 96 (M 2)), ((md 3), arC cI 96 (M 3)), ((md 4), arC cI 384 (M 4)), ((md 5), arC cI 96 (M 5)), ((md 6), arC cI 60 (M 6))]) (rs := []) (va_runV (As := [.int a1]) (rest := []) ⟨hx, hb, hml, hown, hts⟩ (c_X5_codeOf l D cI cC cS md M a1  _) (cwV 1 hts gX5_sampleOf_X5_codeOf rfl rfl rfl (by decide +kernel) ⟨Nat.le_of_ble_eq_true rfl, Nat.le_of_ble_eq_true rfl⟩) (preV hK hP hD [0, 1, 2, 3, 4, 5, 6] (by decide) rfl 0 5 rfl rfl) rfl rfl hl.1 rfl (lv_room (Nat.le_of_ble_eq_true rfl)) dX5_sampleOf_2 ⟨Nat.zero_le _, Nat.zero_le _⟩) hP hD hS hA [0, 1, 2, 3, 4, 5, 6] [] rfl rfl rfl rfl rfl (by decide +kernel) rfl (fun H locs hP hD hS => ?_)
  refine lv_istore_n (lv' := [(3, .int (r_X5_codeOf M a1)), (0, .ref (md 0)), (1, .int a1), (2, .int a2)]) hx hb dX5_sampleOf_5 rfl hl (by decide) rfl (fun ls hl => ?_)
  refine lv_iload_n hx hb dX5_sampleOf_6 rfl (lv_at hl 3 rfl) ?_
  have J_25 : ∀ (x25_s0 : Int32) (H : Heap) (locs : List Loc), x25_s0 = (if a2 = (0 : Int32) then (r_X5_codeOf M a1) else (r_X5_codeOf M (r_X5_around M (a1 + (1 : Int32))))) → va_P D vwCl [((md 0), mdC md (M 0)), ((md 1), arC cI 96 (M 1)), ((md 2), arC cI 96 (M 2)), ((md 3), arC cI 96 (M 3)), ((md 4), arC cI 384 (M 4)), ((md 5), arC cI 96 (M 5)), ((md 6), arC cI 60 (M 6))] H → va_D A [((md 0), mdC md (M 0)), ((md 1), arC cI 96 (M 1)), ((md 2), arC cI 96 (M 2)), ((md 3), arC cI 96 (M 3)), ((md 4), arC cI 384 (M 4)), ((md 5), arC cI 96 (M 5)), ((md 6), arC cI 60 (M 6))] → va_S A s.heap H locs → ∀ ls, lv_has ls 5 [(3, .int (r_X5_codeOf M a1))] → W p l e rm_X5_sampleOf s m args below meth c H locs 0 0 (MQ below (QI D (mdW cI md M) (r_X5_sampleOf M a1 a2) A) args s 0 0 A) (F0 m 25 ls [.int x25_s0]) := by
    intro x25_s0 H locs ex25_s0 hP hD hS ls hl
    have hr : (r_X5_sampleOf M a1 a2) = (((r_X5_codeOf M a1) &&& (21 : Int32)) ||| (x25_s0 &&& (10 : Int32))) := by subst ex25_s0; exact hr
    refine lv_istore (lv' := [(4, .int x25_s0), (3, .int (r_X5_codeOf M a1))]) hx hb dX5_sampleOf_25 hl (by decide) rfl (fun ls hl => ?_)
    refine lv_iload_n hx hb dX5_sampleOf_27 rfl (lv_at hl 1 rfl) ?_
    refine lv_bipush (v := (21 : Int32)) hx hb dX5_sampleOf_28 (by decide) ?_
    refine lv_iand hx hb dX5_sampleOf_30 ?_
    refine lv_iload hx hb dX5_sampleOf_31 (lv_at hl 0 rfl) ?_
    refine lv_bipush (v := (10 : Int32)) hx hb dX5_sampleOf_33 (by decide) ?_
    refine lv_iand hx hb dX5_sampleOf_35 ?_
    refine lv_ior hx hb dX5_sampleOf_36 ?_
    exact endI (v := (((r_X5_codeOf M a1) &&& (21 : Int32)) ||| (x25_s0 &&& (10 : Int32)))) hb hx hsg hr.symm hP hD hS dX5_sampleOf_37 hlocks
  refine lv_if_eq (tgt := 24) hx hb dX5_sampleOf_7 (by decide) (fun c7 => ?_) (fun c7 => ?_)
  · refine lv_iload_n hx hb dX5_sampleOf_24 rfl (lv_at hl 0 rfl) ?_
    exact J_25 (r_X5_codeOf M a1) _ _ (if_pos c7).symm hP hD hS ls (lv_sub hl [0] rfl)
  · refine lv_aload_n hx hb dX5_sampleOf_10 rfl (lv_at hl 1 rfl) ?_
    refine lv_aload_n hx hb dX5_sampleOf_11 rfl (lv_at hl 1 rfl) ?_
    refine lv_iload_n hx hb dX5_sampleOf_12 rfl (lv_at hl 2 rfl) ?_
    refine lv_iconst (v := (1 : Int32)) hx hb dX5_sampleOf_13 (by decide) ?_
    refine lv_iadd hx hb dX5_sampleOf_14 ?_
    refine goI (n := 7) (ws' := [((md 0), mdC md (M 0)), ((md 1), arC cI 96 (M 1)), ((md 2), arC cI 96 (M 2)), ((md 3), arC cI 96 (M 3)), ((md 4), arC cI 384 (M 4)), ((md 5), arC cI 96 (M 5)), ((md 6), arC cI 60 (M 6))]) (rs := []) (va_runV (As := [.int (a1 + (1 : Int32))]) (rest := [.ref (md 0)]) ⟨hx, hb, hml, hown, hts⟩ (c_X5_around l D cI cC cS md M (a1 + (1 : Int32))  _) (cwV 1 hts gX5_sampleOf_X5_around rfl rfl rfl (by decide +kernel) ⟨Nat.le_of_ble_eq_true rfl, Nat.le_of_ble_eq_true rfl⟩) (preV hK hP hD [0, 1, 2, 3, 4, 5, 6] (by decide) rfl 0 5 rfl rfl) rfl rfl hl.1 rfl (lv_room (Nat.le_of_ble_eq_true rfl)) dX5_sampleOf_15 ⟨Nat.zero_le _, Nat.zero_le _⟩) hP hD hS hA [0, 1, 2, 3, 4, 5, 6] [] rfl rfl rfl rfl rfl (by decide +kernel) rfl (fun H locs hP hD hS => ?_)
    refine goI (n := 7) (ws' := [((md 0), mdC md (M 0)), ((md 1), arC cI 96 (M 1)), ((md 2), arC cI 96 (M 2)), ((md 3), arC cI 96 (M 3)), ((md 4), arC cI 384 (M 4)), ((md 5), arC cI 96 (M 5)), ((md 6), arC cI 60 (M 6))]) (rs := []) (va_runV (As := [.int (r_X5_around M (a1 + (1 : Int32)))]) (rest := []) ⟨hx, hb, hml, hown, hts⟩ (c_X5_codeOf l D cI cC cS md M (r_X5_around M (a1 + (1 : Int32)))  _) (cwV 1 hts gX5_sampleOf_X5_codeOf rfl rfl rfl (by decide +kernel) ⟨Nat.le_of_ble_eq_true rfl, Nat.le_of_ble_eq_true rfl⟩) (preV hK hP hD [0, 1, 2, 3, 4, 5, 6] (by decide) rfl 0 5 rfl rfl) rfl rfl hl.1 rfl (lv_room (Nat.le_of_ble_eq_true rfl)) dX5_sampleOf_18 ⟨Nat.zero_le _, Nat.zero_le _⟩) hP hD hS hA [0, 1, 2, 3, 4, 5, 6] [] rfl rfl rfl rfl rfl (by decide +kernel) rfl (fun H locs hP hD hS => ?_)
    refine lv_goto (tgt := 25) hx hb dX5_sampleOf_21 (by decide) ?_
    exact J_25 (r_X5_codeOf M (r_X5_around M (a1 + (1 : Int32)))) _ _ (if_neg c7).symm hP hD hS ls (lv_sub hl [0] rfl)
def p_X5_samples (M : CS) (a1 : Int32) (a2 : Int32) (a3 : Int32) : CS := ((fun (z_1 : CS) => ((fun (z_2 : CS) => ((fun (z_3 : CS) => (if a3 = (0 : Int32) then ((fun (z_4 : CS) => z_4) (p_X5_to z_3 a1 (7 : Int32) ((r_X5_of z_3 a1 (7 : Int32)) + (0 : Int32)))) else ((fun (z_5 : CS) => z_5) (p_X5_to z_3 a1 (7 : Int32) ((r_X5_of z_3 a1 (7 : Int32)) + (1 : Int32)))))) (p_X5_to z_2 a1 (6 : Int32) ((r_X5_of z_2 a1 (6 : Int32)) + (1 : Int32))))) (p_X5_to z_1 a1 (4 : Int32) a2))) (p_X5_to M a1 (5 : Int32) (r_X5_of M a1 (4 : Int32))))
abbrev rm_X5_samples : Room := { frames := 1, cells := 0, slots := 0, locals := 23 }
set_option maxHeartbeats 4000000 in
set_option maxRecDepth 100000 in
theorem c_X5_samples (l : Launch) (D : va_G) (cI cC cS : ClassId) (md : Nat → Nat) (M : CS) (a1 : Int32) (a2 : Int32) (a3 : Int32) (hs : a1 = (0 : Int32) ∨ a1 = (1 : Int32)) : CV l D cI cC cS yX5_samples wsX5_samples rm_X5_samples [.ref (md 0), .int a1, .int a2, .int a3] (mdW cI md M) (mdW cI md (p_X5_samples M a1 a2 a3))  := by
  intro sz
  refine startC (cc := cX5_samples) (maxL := 4) (ret := none) (by decide) rfl (Nat.le_of_ble_eq_true rfl) ?_
  intro p e s m args below meth c hx hb hml hsg hts hown hlocks hin hK A hA hS hP hD ls hl
  have hown : s.vm.findClass RX5 = some m.cls := hown
  have hl : lv_has ls 4 [(0, .ref (md 0)), (1, .int a1), (2, .int a2), (3, .int a3)] := hl
  have hP : va_P D vwCl [((md 0), mdC md (M 0)), ((md 1), arC cI 96 (M 1)), ((md 2), arC cI 96 (M 2)), ((md 3), arC cI 96 (M 3)), ((md 4), arC cI 384 (M 4)), ((md 5), arC cI 96 (M 5)), ((md 6), arC cI 60 (M 6))] s.heap := hP
  have hD : va_D A [((md 0), mdC md (M 0)), ((md 1), arC cI 96 (M 1)), ((md 2), arC cI 96 (M 2)), ((md 3), arC cI 96 (M 3)), ((md 4), arC cI 384 (M 4)), ((md 5), arC cI 96 (M 5)), ((md 6), arC cI 60 (M 6))] := hD
  have hp : (p_X5_samples M a1 a2 a3) = ((fun (z_1 : CS) => ((fun (z_2 : CS) => ((fun (z_3 : CS) => (if a3 = (0 : Int32) then ((fun (z_4 : CS) => z_4) (p_X5_to z_3 a1 (7 : Int32) ((r_X5_of z_3 a1 (7 : Int32)) + (0 : Int32)))) else ((fun (z_5 : CS) => z_5) (p_X5_to z_3 a1 (7 : Int32) ((r_X5_of z_3 a1 (7 : Int32)) + (1 : Int32)))))) (p_X5_to z_2 a1 (6 : Int32) ((r_X5_of z_2 a1 (6 : Int32)) + (1 : Int32))))) (p_X5_to z_1 a1 (4 : Int32) a2))) (p_X5_to M a1 (5 : Int32) (r_X5_of M a1 (4 : Int32)))) := rfl
  refine lv_aload_n hx hb dX5_samples_0 rfl (lv_at hl 0 rfl) ?_
  refine lv_iload_n hx hb dX5_samples_1 rfl (lv_at hl 1 rfl) ?_
  refine lv_iconst (v := (5 : Int32)) hx hb dX5_samples_2 (by decide) ?_
  refine lv_aload_n hx hb dX5_samples_3 rfl (lv_at hl 0 rfl) ?_
  refine lv_iload_n hx hb dX5_samples_4 rfl (lv_at hl 1 rfl) ?_
  refine lv_iconst (v := (4 : Int32)) hx hb dX5_samples_5 (by decide) ?_
  refine goI (n := 7) (ws' := [((md 0), mdC md (M 0)), ((md 1), arC cI 96 (M 1)), ((md 2), arC cI 96 (M 2)), ((md 3), arC cI 96 (M 3)), ((md 4), arC cI 384 (M 4)), ((md 5), arC cI 96 (M 5)), ((md 6), arC cI 60 (M 6))]) (rs := []) (va_runV (As := [.int a1, .int (4 : Int32)]) (rest := [.int (5 : Int32), .int a1, .ref (md 0)]) ⟨hx, hb, hml, hown, hts⟩ (c_X5_of l D cI cC cS md M a1 (4 : Int32) (sd_in hs (by decide)) _) (cwV 2 hts gX5_samples_X5_of rfl rfl rfl (by decide +kernel) ⟨Nat.le_of_ble_eq_true rfl, Nat.le_of_ble_eq_true rfl⟩) (preV hK hP hD [0, 1, 2, 3, 4, 5, 6] (by decide) rfl 0 5 rfl rfl) rfl rfl hl.1 rfl (lv_room (Nat.le_of_ble_eq_true rfl)) dX5_samples_6 ⟨Nat.zero_le _, Nat.zero_le _⟩) hP hD hS hA [0, 1, 2, 3, 4, 5, 6] [] rfl rfl rfl rfl rfl (by decide +kernel) rfl (fun H locs hP hD hS => ?_)
  refine goV (n := 7) (ws' := [((md 0), mdC md ((p_X5_to M a1 (5 : Int32) (r_X5_of M a1 (4 : Int32))) 0)), ((md 1), arC cI 96 ((p_X5_to M a1 (5 : Int32) (r_X5_of M a1 (4 : Int32))) 1)), ((md 2), arC cI 96 ((p_X5_to M a1 (5 : Int32) (r_X5_of M a1 (4 : Int32))) 2)), ((md 3), arC cI 96 ((p_X5_to M a1 (5 : Int32) (r_X5_of M a1 (4 : Int32))) 3)), ((md 4), arC cI 384 ((p_X5_to M a1 (5 : Int32) (r_X5_of M a1 (4 : Int32))) 4)), ((md 5), arC cI 96 ((p_X5_to M a1 (5 : Int32) (r_X5_of M a1 (4 : Int32))) 5)), ((md 6), arC cI 60 ((p_X5_to M a1 (5 : Int32) (r_X5_of M a1 (4 : Int32))) 6))]) (rs := []) (va_runV (As := [.int a1, .int (5 : Int32), .int (r_X5_of M a1 (4 : Int32))]) (rest := []) ⟨hx, hb, hml, hown, hts⟩ (c_X5_to l D cI cC cS md M a1 (5 : Int32) (r_X5_of M a1 (4 : Int32)) (sd_in hs (by decide)) _) (cwV 3 hts gX5_samples_X5_to rfl rfl rfl (by decide +kernel) ⟨Nat.le_of_ble_eq_true rfl, Nat.le_of_ble_eq_true rfl⟩) (preV hK hP hD [0, 1, 2, 3, 4, 5, 6] (by decide) rfl 0 5 rfl rfl) rfl rfl hl.1 rfl (lv_room (Nat.le_of_ble_eq_true rfl)) dX5_samples_9 ⟨Nat.zero_le _, Nat.zero_le _⟩) hP hD hS hA [0, 1, 2, 3, 4, 5, 6] [] rfl rfl rfl rfl rfl (by decide +kernel) (fstE (as := [(md 0), (md 1), (md 2), (md 3), (md 4), (md 5), (md 6)]) rfl rfl) (fun H locs hP hD hS => ?_)
  obtain ⟨z_1, hz_1⟩ : ∃ z : CS, z = (p_X5_to M a1 (5 : Int32) (r_X5_of M a1 (4 : Int32))) := ⟨_, rfl⟩
  rw [← hz_1] at hP hD
  have hp : (p_X5_samples M a1 a2 a3) = ((fun (z_2 : CS) => ((fun (z_3 : CS) => (if a3 = (0 : Int32) then ((fun (z_4 : CS) => z_4) (p_X5_to z_3 a1 (7 : Int32) ((r_X5_of z_3 a1 (7 : Int32)) + (0 : Int32)))) else ((fun (z_5 : CS) => z_5) (p_X5_to z_3 a1 (7 : Int32) ((r_X5_of z_3 a1 (7 : Int32)) + (1 : Int32)))))) (p_X5_to z_2 a1 (6 : Int32) ((r_X5_of z_2 a1 (6 : Int32)) + (1 : Int32))))) (p_X5_to z_1 a1 (4 : Int32) a2)) := by subst hz_1; exact hp
  refine lv_aload_n hx hb dX5_samples_12 rfl (lv_at hl 0 rfl) ?_
  refine lv_iload_n hx hb dX5_samples_13 rfl (lv_at hl 1 rfl) ?_
  refine lv_iconst (v := (4 : Int32)) hx hb dX5_samples_14 (by decide) ?_
  refine lv_iload_n hx hb dX5_samples_15 rfl (lv_at hl 2 rfl) ?_
  refine goV (n := 7) (ws' := [((md 0), mdC md ((p_X5_to z_1 a1 (4 : Int32) a2) 0)), ((md 1), arC cI 96 ((p_X5_to z_1 a1 (4 : Int32) a2) 1)), ((md 2), arC cI 96 ((p_X5_to z_1 a1 (4 : Int32) a2) 2)), ((md 3), arC cI 96 ((p_X5_to z_1 a1 (4 : Int32) a2) 3)), ((md 4), arC cI 384 ((p_X5_to z_1 a1 (4 : Int32) a2) 4)), ((md 5), arC cI 96 ((p_X5_to z_1 a1 (4 : Int32) a2) 5)), ((md 6), arC cI 60 ((p_X5_to z_1 a1 (4 : Int32) a2) 6))]) (rs := []) (va_runV (As := [.int a1, .int (4 : Int32), .int a2]) (rest := []) ⟨hx, hb, hml, hown, hts⟩ (c_X5_to l D cI cC cS md z_1 a1 (4 : Int32) a2 (sd_in hs (by decide)) _) (cwV 3 hts gX5_samples_X5_to rfl rfl rfl (by decide +kernel) ⟨Nat.le_of_ble_eq_true rfl, Nat.le_of_ble_eq_true rfl⟩) (preV hK hP hD [0, 1, 2, 3, 4, 5, 6] (by decide) rfl 0 5 rfl rfl) rfl rfl hl.1 rfl (lv_room (Nat.le_of_ble_eq_true rfl)) dX5_samples_16 ⟨Nat.zero_le _, Nat.zero_le _⟩) hP hD hS hA [0, 1, 2, 3, 4, 5, 6] [] rfl rfl rfl rfl rfl (by decide +kernel) (fstE (as := [(md 0), (md 1), (md 2), (md 3), (md 4), (md 5), (md 6)]) rfl rfl) (fun H locs hP hD hS => ?_)
  obtain ⟨z_2, hz_2⟩ : ∃ z : CS, z = (p_X5_to z_1 a1 (4 : Int32) a2) := ⟨_, rfl⟩
  rw [← hz_2] at hP hD
  have hp : (p_X5_samples M a1 a2 a3) = ((fun (z_3 : CS) => (if a3 = (0 : Int32) then ((fun (z_4 : CS) => z_4) (p_X5_to z_3 a1 (7 : Int32) ((r_X5_of z_3 a1 (7 : Int32)) + (0 : Int32)))) else ((fun (z_5 : CS) => z_5) (p_X5_to z_3 a1 (7 : Int32) ((r_X5_of z_3 a1 (7 : Int32)) + (1 : Int32)))))) (p_X5_to z_2 a1 (6 : Int32) ((r_X5_of z_2 a1 (6 : Int32)) + (1 : Int32)))) := by subst hz_2; exact hp
  refine lv_aload_n hx hb dX5_samples_19 rfl (lv_at hl 0 rfl) ?_
  refine lv_iload_n hx hb dX5_samples_20 rfl (lv_at hl 1 rfl) ?_
  refine lv_bipush (v := (6 : Int32)) hx hb dX5_samples_21 (by decide) ?_
  refine lv_aload_n hx hb dX5_samples_23 rfl (lv_at hl 0 rfl) ?_
  refine lv_iload_n hx hb dX5_samples_24 rfl (lv_at hl 1 rfl) ?_
  refine lv_bipush (v := (6 : Int32)) hx hb dX5_samples_25 (by decide) ?_
  refine goI (n := 7) (ws' := [((md 0), mdC md (z_2 0)), ((md 1), arC cI 96 (z_2 1)), ((md 2), arC cI 96 (z_2 2)), ((md 3), arC cI 96 (z_2 3)), ((md 4), arC cI 384 (z_2 4)), ((md 5), arC cI 96 (z_2 5)), ((md 6), arC cI 60 (z_2 6))]) (rs := []) (va_runV (As := [.int a1, .int (6 : Int32)]) (rest := [.int (6 : Int32), .int a1, .ref (md 0)]) ⟨hx, hb, hml, hown, hts⟩ (c_X5_of l D cI cC cS md z_2 a1 (6 : Int32) (sd_in hs (by decide)) _) (cwV 2 hts gX5_samples_X5_of rfl rfl rfl (by decide +kernel) ⟨Nat.le_of_ble_eq_true rfl, Nat.le_of_ble_eq_true rfl⟩) (preV hK hP hD [0, 1, 2, 3, 4, 5, 6] (by decide) rfl 0 5 rfl rfl) rfl rfl hl.1 rfl (lv_room (Nat.le_of_ble_eq_true rfl)) dX5_samples_27 ⟨Nat.zero_le _, Nat.zero_le _⟩) hP hD hS hA [0, 1, 2, 3, 4, 5, 6] [] rfl rfl rfl rfl rfl (by decide +kernel) rfl (fun H locs hP hD hS => ?_)
  refine lv_iconst (v := (1 : Int32)) hx hb dX5_samples_30 (by decide) ?_
  refine lv_iadd hx hb dX5_samples_31 ?_
  refine goV (n := 7) (ws' := [((md 0), mdC md ((p_X5_to z_2 a1 (6 : Int32) ((r_X5_of z_2 a1 (6 : Int32)) + (1 : Int32))) 0)), ((md 1), arC cI 96 ((p_X5_to z_2 a1 (6 : Int32) ((r_X5_of z_2 a1 (6 : Int32)) + (1 : Int32))) 1)), ((md 2), arC cI 96 ((p_X5_to z_2 a1 (6 : Int32) ((r_X5_of z_2 a1 (6 : Int32)) + (1 : Int32))) 2)), ((md 3), arC cI 96 ((p_X5_to z_2 a1 (6 : Int32) ((r_X5_of z_2 a1 (6 : Int32)) + (1 : Int32))) 3)), ((md 4), arC cI 384 ((p_X5_to z_2 a1 (6 : Int32) ((r_X5_of z_2 a1 (6 : Int32)) + (1 : Int32))) 4)), ((md 5), arC cI 96 ((p_X5_to z_2 a1 (6 : Int32) ((r_X5_of z_2 a1 (6 : Int32)) + (1 : Int32))) 5)), ((md 6), arC cI 60 ((p_X5_to z_2 a1 (6 : Int32) ((r_X5_of z_2 a1 (6 : Int32)) + (1 : Int32))) 6))]) (rs := []) (va_runV (As := [.int a1, .int (6 : Int32), .int ((r_X5_of z_2 a1 (6 : Int32)) + (1 : Int32))]) (rest := []) ⟨hx, hb, hml, hown, hts⟩ (c_X5_to l D cI cC cS md z_2 a1 (6 : Int32) ((r_X5_of z_2 a1 (6 : Int32)) + (1 : Int32)) (sd_in hs (by decide)) _) (cwV 3 hts gX5_samples_X5_to rfl rfl rfl (by decide +kernel) ⟨Nat.le_of_ble_eq_true rfl, Nat.le_of_ble_eq_true rfl⟩) (preV hK hP hD [0, 1, 2, 3, 4, 5, 6] (by decide) rfl 0 5 rfl rfl) rfl rfl hl.1 rfl (lv_room (Nat.le_of_ble_eq_true rfl)) dX5_samples_32 ⟨Nat.zero_le _, Nat.zero_le _⟩) hP hD hS hA [0, 1, 2, 3, 4, 5, 6] [] rfl rfl rfl rfl rfl (by decide +kernel) (fstE (as := [(md 0), (md 1), (md 2), (md 3), (md 4), (md 5), (md 6)]) rfl rfl) (fun H locs hP hD hS => ?_)
  obtain ⟨z_3, hz_3⟩ : ∃ z : CS, z = (p_X5_to z_2 a1 (6 : Int32) ((r_X5_of z_2 a1 (6 : Int32)) + (1 : Int32))) := ⟨_, rfl⟩
  rw [← hz_3] at hP hD
  have hp : (p_X5_samples M a1 a2 a3) = (if a3 = (0 : Int32) then ((fun (z_4 : CS) => z_4) (p_X5_to z_3 a1 (7 : Int32) ((r_X5_of z_3 a1 (7 : Int32)) + (0 : Int32)))) else ((fun (z_5 : CS) => z_5) (p_X5_to z_3 a1 (7 : Int32) ((r_X5_of z_3 a1 (7 : Int32)) + (1 : Int32))))) := by subst hz_3; exact hp
  refine lv_aload_n hx hb dX5_samples_35 rfl (lv_at hl 0 rfl) ?_
  refine lv_iload_n hx hb dX5_samples_36 rfl (lv_at hl 1 rfl) ?_
  refine lv_bipush (v := (7 : Int32)) hx hb dX5_samples_37 (by decide) ?_
  refine lv_aload_n hx hb dX5_samples_39 rfl (lv_at hl 0 rfl) ?_
  refine lv_iload_n hx hb dX5_samples_40 rfl (lv_at hl 1 rfl) ?_
  refine lv_bipush (v := (7 : Int32)) hx hb dX5_samples_41 (by decide) ?_
  refine goI (n := 7) (ws' := [((md 0), mdC md (z_3 0)), ((md 1), arC cI 96 (z_3 1)), ((md 2), arC cI 96 (z_3 2)), ((md 3), arC cI 96 (z_3 3)), ((md 4), arC cI 384 (z_3 4)), ((md 5), arC cI 96 (z_3 5)), ((md 6), arC cI 60 (z_3 6))]) (rs := []) (va_runV (As := [.int a1, .int (7 : Int32)]) (rest := [.int (7 : Int32), .int a1, .ref (md 0)]) ⟨hx, hb, hml, hown, hts⟩ (c_X5_of l D cI cC cS md z_3 a1 (7 : Int32) (sd_in hs (by decide)) _) (cwV 2 hts gX5_samples_X5_of rfl rfl rfl (by decide +kernel) ⟨Nat.le_of_ble_eq_true rfl, Nat.le_of_ble_eq_true rfl⟩) (preV hK hP hD [0, 1, 2, 3, 4, 5, 6] (by decide) rfl 0 5 rfl rfl) rfl rfl hl.1 rfl (lv_room (Nat.le_of_ble_eq_true rfl)) dX5_samples_43 ⟨Nat.zero_le _, Nat.zero_le _⟩) hP hD hS hA [0, 1, 2, 3, 4, 5, 6] [] rfl rfl rfl rfl rfl (by decide +kernel) rfl (fun H locs hP hD hS => ?_)
  refine lv_iload_n hx hb dX5_samples_46 rfl (lv_at hl 3 rfl) ?_
  refine lv_if_eq (tgt := 54) hx hb dX5_samples_47 (by decide) (fun c47 => ?_) (fun c47 => ?_)
  · have hp := hp.trans (if_pos c47)
    refine lv_iconst (v := (0 : Int32)) hx hb dX5_samples_54 (by decide) ?_
    refine lv_iadd hx hb dX5_samples_55 ?_
    refine goV (n := 7) (ws' := [((md 0), mdC md ((p_X5_to z_3 a1 (7 : Int32) ((r_X5_of z_3 a1 (7 : Int32)) + (0 : Int32))) 0)), ((md 1), arC cI 96 ((p_X5_to z_3 a1 (7 : Int32) ((r_X5_of z_3 a1 (7 : Int32)) + (0 : Int32))) 1)), ((md 2), arC cI 96 ((p_X5_to z_3 a1 (7 : Int32) ((r_X5_of z_3 a1 (7 : Int32)) + (0 : Int32))) 2)), ((md 3), arC cI 96 ((p_X5_to z_3 a1 (7 : Int32) ((r_X5_of z_3 a1 (7 : Int32)) + (0 : Int32))) 3)), ((md 4), arC cI 384 ((p_X5_to z_3 a1 (7 : Int32) ((r_X5_of z_3 a1 (7 : Int32)) + (0 : Int32))) 4)), ((md 5), arC cI 96 ((p_X5_to z_3 a1 (7 : Int32) ((r_X5_of z_3 a1 (7 : Int32)) + (0 : Int32))) 5)), ((md 6), arC cI 60 ((p_X5_to z_3 a1 (7 : Int32) ((r_X5_of z_3 a1 (7 : Int32)) + (0 : Int32))) 6))]) (rs := []) (va_runV (As := [.int a1, .int (7 : Int32), .int ((r_X5_of z_3 a1 (7 : Int32)) + (0 : Int32))]) (rest := []) ⟨hx, hb, hml, hown, hts⟩ (c_X5_to l D cI cC cS md z_3 a1 (7 : Int32) ((r_X5_of z_3 a1 (7 : Int32)) + (0 : Int32)) (sd_in hs (by decide)) _) (cwV 3 hts gX5_samples_X5_to rfl rfl rfl (by decide +kernel) ⟨Nat.le_of_ble_eq_true rfl, Nat.le_of_ble_eq_true rfl⟩) (preV hK hP hD [0, 1, 2, 3, 4, 5, 6] (by decide) rfl 0 5 rfl rfl) rfl rfl hl.1 rfl (lv_room (Nat.le_of_ble_eq_true rfl)) dX5_samples_56 ⟨Nat.zero_le _, Nat.zero_le _⟩) hP hD hS hA [0, 1, 2, 3, 4, 5, 6] [] rfl rfl rfl rfl rfl (by decide +kernel) (fstE (as := [(md 0), (md 1), (md 2), (md 3), (md 4), (md 5), (md 6)]) rfl rfl) (fun H locs hP hD hS => ?_)
    obtain ⟨z_4, hz_4⟩ : ∃ z : CS, z = (p_X5_to z_3 a1 (7 : Int32) ((r_X5_of z_3 a1 (7 : Int32)) + (0 : Int32))) := ⟨_, rfl⟩
    rw [← hz_4] at hP hD
    have hp : (p_X5_samples M a1 a2 a3) = z_4 := by subst hz_4; exact hp
    exact endV hb hx hsg (by rw [hp]; exact hP) (by rw [hp]; exact hD) hS dX5_samples_59 hlocks
  · have hp := hp.trans (if_neg c47)
    refine lv_iconst (v := (1 : Int32)) hx hb dX5_samples_50 (by decide) ?_
    refine lv_goto (tgt := 55) hx hb dX5_samples_51 (by decide) ?_
    refine lv_iadd hx hb dX5_samples_55 ?_
    refine goV (n := 7) (ws' := [((md 0), mdC md ((p_X5_to z_3 a1 (7 : Int32) ((r_X5_of z_3 a1 (7 : Int32)) + (1 : Int32))) 0)), ((md 1), arC cI 96 ((p_X5_to z_3 a1 (7 : Int32) ((r_X5_of z_3 a1 (7 : Int32)) + (1 : Int32))) 1)), ((md 2), arC cI 96 ((p_X5_to z_3 a1 (7 : Int32) ((r_X5_of z_3 a1 (7 : Int32)) + (1 : Int32))) 2)), ((md 3), arC cI 96 ((p_X5_to z_3 a1 (7 : Int32) ((r_X5_of z_3 a1 (7 : Int32)) + (1 : Int32))) 3)), ((md 4), arC cI 384 ((p_X5_to z_3 a1 (7 : Int32) ((r_X5_of z_3 a1 (7 : Int32)) + (1 : Int32))) 4)), ((md 5), arC cI 96 ((p_X5_to z_3 a1 (7 : Int32) ((r_X5_of z_3 a1 (7 : Int32)) + (1 : Int32))) 5)), ((md 6), arC cI 60 ((p_X5_to z_3 a1 (7 : Int32) ((r_X5_of z_3 a1 (7 : Int32)) + (1 : Int32))) 6))]) (rs := []) (va_runV (As := [.int a1, .int (7 : Int32), .int ((r_X5_of z_3 a1 (7 : Int32)) + (1 : Int32))]) (rest := []) ⟨hx, hb, hml, hown, hts⟩ (c_X5_to l D cI cC cS md z_3 a1 (7 : Int32) ((r_X5_of z_3 a1 (7 : Int32)) + (1 : Int32)) (sd_in hs (by decide)) _) (cwV 3 hts gX5_samples_X5_to rfl rfl rfl (by decide +kernel) ⟨Nat.le_of_ble_eq_true rfl, Nat.le_of_ble_eq_true rfl⟩) (preV hK hP hD [0, 1, 2, 3, 4, 5, 6] (by decide) rfl 0 5 rfl rfl) rfl rfl hl.1 rfl (lv_room (Nat.le_of_ble_eq_true rfl)) dX5_samples_56 ⟨Nat.zero_le _, Nat.zero_le _⟩) hP hD hS hA [0, 1, 2, 3, 4, 5, 6] [] rfl rfl rfl rfl rfl (by decide +kernel) (fstE (as := [(md 0), (md 1), (md 2), (md 3), (md 4), (md 5), (md 6)]) rfl rfl) (fun H locs hP hD hS => ?_)
    obtain ⟨z_5, hz_5⟩ : ∃ z : CS, z = (p_X5_to z_3 a1 (7 : Int32) ((r_X5_of z_3 a1 (7 : Int32)) + (1 : Int32))) := ⟨_, rfl⟩
    rw [← hz_5] at hP hD
    have hp : (p_X5_samples M a1 a2 a3) = z_5 := by subst hz_5; exact hp
    exact endV hb hx hsg (by rw [hp]; exact hP) (by rw [hp]; exact hD) hS dX5_samples_59 hlocks
def p_X5_tells (M : CS) (a1 : Int32) (a2 : Int32) : CS := ((fun (x51_s0 : Int32) (M51 : CS) => (if (16 : Int32) ≤ ((M51 1) 10) then ((fun (z_3 : CS) => z_3) (va_up M51 1 (upd (upd (M51 1) 79 x51_s0) 10 (((M51 1) 10) + (0 : Int32))))) else ((fun (z_4 : CS) => z_4) (va_up M51 1 (upd (upd (M51 1) 79 x51_s0) 10 (((M51 1) 10) + (1 : Int32))))))) (if a2 = (0 : Int32) then ((fun (z_1 : CS) => (a1 + (100 : Int32))) (va_up M 1 (upd (upd (upd (upd (upd (upd (upd (upd (upd (upd (upd (upd (upd (upd (upd (M 1) 94 ((M 1) 93)) 93 ((M 1) 92)) 92 ((M 1) 91)) 91 ((M 1) 90)) 90 ((M 1) 89)) 89 ((M 1) 88)) 88 ((M 1) 87)) 87 ((M 1) 86)) 86 ((M 1) 85)) 85 ((M 1) 84)) 84 ((M 1) 83)) 83 ((M 1) 82)) 82 ((M 1) 81)) 81 ((M 1) 80)) 80 ((M 1) 79)))) else ((fun (z_2 : CS) => a1) (va_up M 1 (upd (upd (upd (upd (upd (upd (upd (upd (upd (upd (upd (upd (upd (upd (upd (M 1) 94 ((M 1) 93)) 93 ((M 1) 92)) 92 ((M 1) 91)) 91 ((M 1) 90)) 90 ((M 1) 89)) 89 ((M 1) 88)) 88 ((M 1) 87)) 87 ((M 1) 86)) 86 ((M 1) 85)) 85 ((M 1) 84)) 84 ((M 1) 83)) 83 ((M 1) 82)) 82 ((M 1) 81)) 81 ((M 1) 80)) 80 ((M 1) 79))))) (if a2 = (0 : Int32) then ((fun (z_1 : CS) => z_1) (va_up M 1 (upd (upd (upd (upd (upd (upd (upd (upd (upd (upd (upd (upd (upd (upd (upd (M 1) 94 ((M 1) 93)) 93 ((M 1) 92)) 92 ((M 1) 91)) 91 ((M 1) 90)) 90 ((M 1) 89)) 89 ((M 1) 88)) 88 ((M 1) 87)) 87 ((M 1) 86)) 86 ((M 1) 85)) 85 ((M 1) 84)) 84 ((M 1) 83)) 83 ((M 1) 82)) 82 ((M 1) 81)) 81 ((M 1) 80)) 80 ((M 1) 79)))) else ((fun (z_2 : CS) => z_2) (va_up M 1 (upd (upd (upd (upd (upd (upd (upd (upd (upd (upd (upd (upd (upd (upd (upd (M 1) 94 ((M 1) 93)) 93 ((M 1) 92)) 92 ((M 1) 91)) 91 ((M 1) 90)) 90 ((M 1) 89)) 89 ((M 1) 88)) 88 ((M 1) 87)) 87 ((M 1) 86)) 86 ((M 1) 85)) 85 ((M 1) 84)) 84 ((M 1) 83)) 83 ((M 1) 82)) 82 ((M 1) 81)) 81 ((M 1) 80)) 80 ((M 1) 79))))))
abbrev rm_X5_tells : Room := { frames := 0, cells := 0, slots := 0, locals := 0 }
set_option maxHeartbeats 4000000 in
set_option maxRecDepth 100000 in
theorem c_X5_tells (l : Launch) (D : va_G) (cI cC cS : ClassId) (md : Nat → Nat) (M : CS) (a1 : Int32) (a2 : Int32)  : CV l D cI cC cS yX5_tells wsX5_tells rm_X5_tells [.ref (md 0), .int a1, .int a2] (mdW cI md M) (mdW cI md (p_X5_tells M a1 a2))  := by
  intro sz
  refine startC (cc := cX5_tells) (maxL := 4) (ret := none) (by decide) rfl (Nat.le_of_ble_eq_true rfl) ?_
  intro p e s m args below meth c hx hb hml hsg hts hown hlocks hin hK A hA hS hP hD ls hl
  have hown : s.vm.findClass RX5 = some m.cls := hown
  have hl : lv_has ls 4 [(0, .ref (md 0)), (1, .int a1), (2, .int a2)] := hl
  have hP : va_P D vwCl [((md 0), mdC md (M 0)), ((md 1), arC cI 96 (M 1)), ((md 2), arC cI 96 (M 2)), ((md 3), arC cI 96 (M 3)), ((md 4), arC cI 384 (M 4)), ((md 5), arC cI 96 (M 5)), ((md 6), arC cI 60 (M 6))] s.heap := hP
  have hD : va_D A [((md 0), mdC md (M 0)), ((md 1), arC cI 96 (M 1)), ((md 2), arC cI 96 (M 2)), ((md 3), arC cI 96 (M 3)), ((md 4), arC cI 384 (M 4)), ((md 5), arC cI 96 (M 5)), ((md 6), arC cI 60 (M 6))] := hD
  have inX5 : ∀ w ∈ wsX50, w ∈ wsX5_tells := fun _ h => List.mem_cons_of_mem _ (List.mem_append_right _ h)
  have hp : (p_X5_tells M a1 a2) = ((fun (x51_s0 : Int32) (M51 : CS) => (if (16 : Int32) ≤ ((M51 1) 10) then ((fun (z_3 : CS) => z_3) (va_up M51 1 (upd (upd (M51 1) 79 x51_s0) 10 (((M51 1) 10) + (0 : Int32))))) else ((fun (z_4 : CS) => z_4) (va_up M51 1 (upd (upd (M51 1) 79 x51_s0) 10 (((M51 1) 10) + (1 : Int32))))))) (if a2 = (0 : Int32) then ((fun (z_1 : CS) => (a1 + (100 : Int32))) (va_up M 1 (upd (upd (upd (upd (upd (upd (upd (upd (upd (upd (upd (upd (upd (upd (upd (M 1) 94 ((M 1) 93)) 93 ((M 1) 92)) 92 ((M 1) 91)) 91 ((M 1) 90)) 90 ((M 1) 89)) 89 ((M 1) 88)) 88 ((M 1) 87)) 87 ((M 1) 86)) 86 ((M 1) 85)) 85 ((M 1) 84)) 84 ((M 1) 83)) 83 ((M 1) 82)) 82 ((M 1) 81)) 81 ((M 1) 80)) 80 ((M 1) 79)))) else ((fun (z_2 : CS) => a1) (va_up M 1 (upd (upd (upd (upd (upd (upd (upd (upd (upd (upd (upd (upd (upd (upd (upd (M 1) 94 ((M 1) 93)) 93 ((M 1) 92)) 92 ((M 1) 91)) 91 ((M 1) 90)) 90 ((M 1) 89)) 89 ((M 1) 88)) 88 ((M 1) 87)) 87 ((M 1) 86)) 86 ((M 1) 85)) 85 ((M 1) 84)) 84 ((M 1) 83)) 83 ((M 1) 82)) 82 ((M 1) 81)) 81 ((M 1) 80)) 80 ((M 1) 79))))) (if a2 = (0 : Int32) then ((fun (z_1 : CS) => z_1) (va_up M 1 (upd (upd (upd (upd (upd (upd (upd (upd (upd (upd (upd (upd (upd (upd (upd (M 1) 94 ((M 1) 93)) 93 ((M 1) 92)) 92 ((M 1) 91)) 91 ((M 1) 90)) 90 ((M 1) 89)) 89 ((M 1) 88)) 88 ((M 1) 87)) 87 ((M 1) 86)) 86 ((M 1) 85)) 85 ((M 1) 84)) 84 ((M 1) 83)) 83 ((M 1) 82)) 82 ((M 1) 81)) 81 ((M 1) 80)) 80 ((M 1) 79)))) else ((fun (z_2 : CS) => z_2) (va_up M 1 (upd (upd (upd (upd (upd (upd (upd (upd (upd (upd (upd (upd (upd (upd (upd (M 1) 94 ((M 1) 93)) 93 ((M 1) 92)) 92 ((M 1) 91)) 91 ((M 1) 90)) 90 ((M 1) 89)) 89 ((M 1) 88)) 88 ((M 1) 87)) 87 ((M 1) 86)) 86 ((M 1) 85)) 85 ((M 1) 84)) 84 ((M 1) 83)) 83 ((M 1) 82)) 82 ((M 1) 81)) 81 ((M 1) 80)) 80 ((M 1) 79)))))) := rfl
  refine lv_bipush (v := (15 : Int32)) hx hb dX5_tells_0 (by decide) ?_
  refine lv_istore_n (lv' := [(3, .int (15 : Int32)), (0, .ref (md 0)), (1, .int a1), (2, .int a2)]) hx hb dX5_tells_2 rfl hl (by decide) rfl (fun ls hl => ?_)
  refine lv_iload_n hx hb dX5_tells_3 rfl (lv_at hl 0 rfl) ?_
  refine lv_if_le (tgt := 33) hx hb dX5_tells_4 (by decide) (fun h9 => absurd h9 (by decide)) (fun _ => ?_)
  refine lv_aload_n hx hb dX5_tells_7 rfl (lv_at hl 1 rfl) ?_
  refine va_get (D := D) (ci := 5) (v := .ref (md 1)) (C := RX5) (T := TX5) (N := 14) hx hb hts inX5 hown hK.1 hP 0 rfl rfl 0 (by decide) (hts (.fieldLink RX5 7 "GrayPointersModel" "all" "[I") (List.mem_of_getElem? (i := 1) rfl)) (fun _ h9 => h9) rfl dX5_tells_8 ?_
  refine lv_bipush (v := (79 : Int32)) hx hb dX5_tells_11 (by decide) ?_
  refine lv_iload_n hx hb dX5_tells_13 rfl (lv_at hl 0 rfl) ?_
  refine lv_iadd hx hb dX5_tells_14 ?_
  refine W.eq (g2 := F0 m 15 ls [.int (94 : Int32), .ref (md 1)]) rfl ?_
  refine lv_aload_n hx hb dX5_tells_15 rfl (lv_at hl 1 rfl) ?_
  refine va_get (D := D) (ci := 5) (v := .ref (md 1)) (C := RX5) (T := TX5) (N := 14) hx hb hts inX5 hown hK.1 hP 0 rfl rfl 0 (by decide) (hts (.fieldLink RX5 7 "GrayPointersModel" "all" "[I") (List.mem_of_getElem? (i := 1) rfl)) (fun _ h9 => h9) rfl dX5_tells_16 ?_
  refine lv_bipush (v := (79 : Int32)) hx hb dX5_tells_19 (by decide) ?_
  refine lv_iload_n hx hb dX5_tells_21 rfl (lv_at hl 0 rfl) ?_
  refine lv_iadd hx hb dX5_tells_22 ?_
  refine W.eq (g2 := F0 m 23 ls [.int (94 : Int32), .ref (md 1), .int (94 : Int32), .ref (md 1)]) rfl ?_
  refine lv_iconst (v := (1 : Int32)) hx hb dX5_tells_23 (by decide) ?_
  refine lv_isub hx hb dX5_tells_24 ?_
  refine W.eq (g2 := F0 m 25 ls [.int (93 : Int32), .ref (md 1), .int (94 : Int32), .ref (md 1)]) rfl ?_
  refine va_iald hx hb hK.1 hP 1 0 rfl rfl (i := (93 : Int32)) (vp_in_iff.mpr (by decide)) dX5_tells_25 ?_
  refine W.eq (g2 := F0 m 26 ls [.int ((M 1) 93), .int (94 : Int32), .ref (md 1)]) rfl ?_
  refine va_iast hx hb hK.1 hP hD hS 1 0 rfl rfl (i := (94 : Int32)) (x := ((M 1) 93)) (vp_in_iff.mpr (by decide)) dX5_tells_26 (fun H locs hP hD hS => ?_)
  have hP : va_P D vwCl [((md 0), mdC md (M 0)), ((md 1), arC cI 96 (upd (M 1) 94 ((M 1) 93))), ((md 2), arC cI 96 (M 2)), ((md 3), arC cI 96 (M 3)), ((md 4), arC cI 384 (M 4)), ((md 5), arC cI 96 (M 5)), ((md 6), arC cI 60 (M 6))] H := hP
  have hD : va_D A [((md 0), mdC md (M 0)), ((md 1), arC cI 96 (upd (M 1) 94 ((M 1) 93))), ((md 2), arC cI 96 (M 2)), ((md 3), arC cI 96 (M 3)), ((md 4), arC cI 384 (M 4)), ((md 5), arC cI 96 (M 5)), ((md 6), arC cI 60 (M 6))] := hD
  refine lv_iinc (v := (14 : Int32)) (lv' := [(3, .int (14 : Int32)), (0, .ref (md 0)), (1, .int a1), (2, .int a2)]) hx hb dX5_tells_27 hl (k := 0) rfl rfl (by decide) rfl (fun ls hl => ?_)
  refine lv_goto (tgt := 3) hx hb dX5_tells_30 (by decide) ?_
  refine lv_iload_n hx hb dX5_tells_3 rfl (lv_at hl 0 rfl) ?_
  refine lv_if_le (tgt := 33) hx hb dX5_tells_4 (by decide) (fun h9 => absurd h9 (by decide)) (fun _ => ?_)
  refine lv_aload_n hx hb dX5_tells_7 rfl (lv_at hl 1 rfl) ?_
  refine va_get (D := D) (ci := 5) (v := .ref (md 1)) (C := RX5) (T := TX5) (N := 14) hx hb hts inX5 hown hK.1 hP 0 rfl rfl 0 (by decide) (hts (.fieldLink RX5 7 "GrayPointersModel" "all" "[I") (List.mem_of_getElem? (i := 1) rfl)) (fun _ h9 => h9) rfl dX5_tells_8 ?_
  refine lv_bipush (v := (79 : Int32)) hx hb dX5_tells_11 (by decide) ?_
  refine lv_iload_n hx hb dX5_tells_13 rfl (lv_at hl 0 rfl) ?_
  refine lv_iadd hx hb dX5_tells_14 ?_
  refine W.eq (g2 := F0 m 15 ls [.int (93 : Int32), .ref (md 1)]) rfl ?_
  refine lv_aload_n hx hb dX5_tells_15 rfl (lv_at hl 1 rfl) ?_
  refine va_get (D := D) (ci := 5) (v := .ref (md 1)) (C := RX5) (T := TX5) (N := 14) hx hb hts inX5 hown hK.1 hP 0 rfl rfl 0 (by decide) (hts (.fieldLink RX5 7 "GrayPointersModel" "all" "[I") (List.mem_of_getElem? (i := 1) rfl)) (fun _ h9 => h9) rfl dX5_tells_16 ?_
  refine lv_bipush (v := (79 : Int32)) hx hb dX5_tells_19 (by decide) ?_
  refine lv_iload_n hx hb dX5_tells_21 rfl (lv_at hl 0 rfl) ?_
  refine lv_iadd hx hb dX5_tells_22 ?_
  refine W.eq (g2 := F0 m 23 ls [.int (93 : Int32), .ref (md 1), .int (93 : Int32), .ref (md 1)]) rfl ?_
  refine lv_iconst (v := (1 : Int32)) hx hb dX5_tells_23 (by decide) ?_
  refine lv_isub hx hb dX5_tells_24 ?_
  refine W.eq (g2 := F0 m 25 ls [.int (92 : Int32), .ref (md 1), .int (93 : Int32), .ref (md 1)]) rfl ?_
  refine va_iald hx hb hK.1 hP 1 0 rfl rfl (i := (92 : Int32)) (vp_in_iff.mpr (by decide)) dX5_tells_25 ?_
  refine W.eq (g2 := F0 m 26 ls [.int ((M 1) 92), .int (93 : Int32), .ref (md 1)]) rfl ?_
  refine va_iast hx hb hK.1 hP hD hS 1 0 rfl rfl (i := (93 : Int32)) (x := ((M 1) 92)) (vp_in_iff.mpr (by decide)) dX5_tells_26 (fun H locs hP hD hS => ?_)
  have hP : va_P D vwCl [((md 0), mdC md (M 0)), ((md 1), arC cI 96 (upd (upd (M 1) 94 ((M 1) 93)) 93 ((M 1) 92))), ((md 2), arC cI 96 (M 2)), ((md 3), arC cI 96 (M 3)), ((md 4), arC cI 384 (M 4)), ((md 5), arC cI 96 (M 5)), ((md 6), arC cI 60 (M 6))] H := hP
  have hD : va_D A [((md 0), mdC md (M 0)), ((md 1), arC cI 96 (upd (upd (M 1) 94 ((M 1) 93)) 93 ((M 1) 92))), ((md 2), arC cI 96 (M 2)), ((md 3), arC cI 96 (M 3)), ((md 4), arC cI 384 (M 4)), ((md 5), arC cI 96 (M 5)), ((md 6), arC cI 60 (M 6))] := hD
  refine lv_iinc (v := (13 : Int32)) (lv' := [(3, .int (13 : Int32)), (0, .ref (md 0)), (1, .int a1), (2, .int a2)]) hx hb dX5_tells_27 hl (k := 0) rfl rfl (by decide) rfl (fun ls hl => ?_)
  refine lv_goto (tgt := 3) hx hb dX5_tells_30 (by decide) ?_
  refine lv_iload_n hx hb dX5_tells_3 rfl (lv_at hl 0 rfl) ?_
  refine lv_if_le (tgt := 33) hx hb dX5_tells_4 (by decide) (fun h9 => absurd h9 (by decide)) (fun _ => ?_)
  refine lv_aload_n hx hb dX5_tells_7 rfl (lv_at hl 1 rfl) ?_
  refine va_get (D := D) (ci := 5) (v := .ref (md 1)) (C := RX5) (T := TX5) (N := 14) hx hb hts inX5 hown hK.1 hP 0 rfl rfl 0 (by decide) (hts (.fieldLink RX5 7 "GrayPointersModel" "all" "[I") (List.mem_of_getElem? (i := 1) rfl)) (fun _ h9 => h9) rfl dX5_tells_8 ?_
  refine lv_bipush (v := (79 : Int32)) hx hb dX5_tells_11 (by decide) ?_
  refine lv_iload_n hx hb dX5_tells_13 rfl (lv_at hl 0 rfl) ?_
  refine lv_iadd hx hb dX5_tells_14 ?_
  refine W.eq (g2 := F0 m 15 ls [.int (92 : Int32), .ref (md 1)]) rfl ?_
  refine lv_aload_n hx hb dX5_tells_15 rfl (lv_at hl 1 rfl) ?_
  refine va_get (D := D) (ci := 5) (v := .ref (md 1)) (C := RX5) (T := TX5) (N := 14) hx hb hts inX5 hown hK.1 hP 0 rfl rfl 0 (by decide) (hts (.fieldLink RX5 7 "GrayPointersModel" "all" "[I") (List.mem_of_getElem? (i := 1) rfl)) (fun _ h9 => h9) rfl dX5_tells_16 ?_
  refine lv_bipush (v := (79 : Int32)) hx hb dX5_tells_19 (by decide) ?_
  refine lv_iload_n hx hb dX5_tells_21 rfl (lv_at hl 0 rfl) ?_
  refine lv_iadd hx hb dX5_tells_22 ?_
  refine W.eq (g2 := F0 m 23 ls [.int (92 : Int32), .ref (md 1), .int (92 : Int32), .ref (md 1)]) rfl ?_
  refine lv_iconst (v := (1 : Int32)) hx hb dX5_tells_23 (by decide) ?_
  refine lv_isub hx hb dX5_tells_24 ?_
  refine W.eq (g2 := F0 m 25 ls [.int (91 : Int32), .ref (md 1), .int (92 : Int32), .ref (md 1)]) rfl ?_
  refine va_iald hx hb hK.1 hP 1 0 rfl rfl (i := (91 : Int32)) (vp_in_iff.mpr (by decide)) dX5_tells_25 ?_
  refine W.eq (g2 := F0 m 26 ls [.int ((M 1) 91), .int (92 : Int32), .ref (md 1)]) rfl ?_
  refine va_iast hx hb hK.1 hP hD hS 1 0 rfl rfl (i := (92 : Int32)) (x := ((M 1) 91)) (vp_in_iff.mpr (by decide)) dX5_tells_26 (fun H locs hP hD hS => ?_)
  have hP : va_P D vwCl [((md 0), mdC md (M 0)), ((md 1), arC cI 96 (upd (upd (upd (M 1) 94 ((M 1) 93)) 93 ((M 1) 92)) 92 ((M 1) 91))), ((md 2), arC cI 96 (M 2)), ((md 3), arC cI 96 (M 3)), ((md 4), arC cI 384 (M 4)), ((md 5), arC cI 96 (M 5)), ((md 6), arC cI 60 (M 6))] H := hP
  have hD : va_D A [((md 0), mdC md (M 0)), ((md 1), arC cI 96 (upd (upd (upd (M 1) 94 ((M 1) 93)) 93 ((M 1) 92)) 92 ((M 1) 91))), ((md 2), arC cI 96 (M 2)), ((md 3), arC cI 96 (M 3)), ((md 4), arC cI 384 (M 4)), ((md 5), arC cI 96 (M 5)), ((md 6), arC cI 60 (M 6))] := hD
  refine lv_iinc (v := (12 : Int32)) (lv' := [(3, .int (12 : Int32)), (0, .ref (md 0)), (1, .int a1), (2, .int a2)]) hx hb dX5_tells_27 hl (k := 0) rfl rfl (by decide) rfl (fun ls hl => ?_)
  refine lv_goto (tgt := 3) hx hb dX5_tells_30 (by decide) ?_
  refine lv_iload_n hx hb dX5_tells_3 rfl (lv_at hl 0 rfl) ?_
  refine lv_if_le (tgt := 33) hx hb dX5_tells_4 (by decide) (fun h9 => absurd h9 (by decide)) (fun _ => ?_)
  refine lv_aload_n hx hb dX5_tells_7 rfl (lv_at hl 1 rfl) ?_
  refine va_get (D := D) (ci := 5) (v := .ref (md 1)) (C := RX5) (T := TX5) (N := 14) hx hb hts inX5 hown hK.1 hP 0 rfl rfl 0 (by decide) (hts (.fieldLink RX5 7 "GrayPointersModel" "all" "[I") (List.mem_of_getElem? (i := 1) rfl)) (fun _ h9 => h9) rfl dX5_tells_8 ?_
  refine lv_bipush (v := (79 : Int32)) hx hb dX5_tells_11 (by decide) ?_
  refine lv_iload_n hx hb dX5_tells_13 rfl (lv_at hl 0 rfl) ?_
  refine lv_iadd hx hb dX5_tells_14 ?_
  refine W.eq (g2 := F0 m 15 ls [.int (91 : Int32), .ref (md 1)]) rfl ?_
  refine lv_aload_n hx hb dX5_tells_15 rfl (lv_at hl 1 rfl) ?_
  refine va_get (D := D) (ci := 5) (v := .ref (md 1)) (C := RX5) (T := TX5) (N := 14) hx hb hts inX5 hown hK.1 hP 0 rfl rfl 0 (by decide) (hts (.fieldLink RX5 7 "GrayPointersModel" "all" "[I") (List.mem_of_getElem? (i := 1) rfl)) (fun _ h9 => h9) rfl dX5_tells_16 ?_
  refine lv_bipush (v := (79 : Int32)) hx hb dX5_tells_19 (by decide) ?_
  refine lv_iload_n hx hb dX5_tells_21 rfl (lv_at hl 0 rfl) ?_
  refine lv_iadd hx hb dX5_tells_22 ?_
  refine W.eq (g2 := F0 m 23 ls [.int (91 : Int32), .ref (md 1), .int (91 : Int32), .ref (md 1)]) rfl ?_
  refine lv_iconst (v := (1 : Int32)) hx hb dX5_tells_23 (by decide) ?_
  refine lv_isub hx hb dX5_tells_24 ?_
  refine W.eq (g2 := F0 m 25 ls [.int (90 : Int32), .ref (md 1), .int (91 : Int32), .ref (md 1)]) rfl ?_
  refine va_iald hx hb hK.1 hP 1 0 rfl rfl (i := (90 : Int32)) (vp_in_iff.mpr (by decide)) dX5_tells_25 ?_
  refine W.eq (g2 := F0 m 26 ls [.int ((M 1) 90), .int (91 : Int32), .ref (md 1)]) rfl ?_
  refine va_iast hx hb hK.1 hP hD hS 1 0 rfl rfl (i := (91 : Int32)) (x := ((M 1) 90)) (vp_in_iff.mpr (by decide)) dX5_tells_26 (fun H locs hP hD hS => ?_)
  have hP : va_P D vwCl [((md 0), mdC md (M 0)), ((md 1), arC cI 96 (upd (upd (upd (upd (M 1) 94 ((M 1) 93)) 93 ((M 1) 92)) 92 ((M 1) 91)) 91 ((M 1) 90))), ((md 2), arC cI 96 (M 2)), ((md 3), arC cI 96 (M 3)), ((md 4), arC cI 384 (M 4)), ((md 5), arC cI 96 (M 5)), ((md 6), arC cI 60 (M 6))] H := hP
  have hD : va_D A [((md 0), mdC md (M 0)), ((md 1), arC cI 96 (upd (upd (upd (upd (M 1) 94 ((M 1) 93)) 93 ((M 1) 92)) 92 ((M 1) 91)) 91 ((M 1) 90))), ((md 2), arC cI 96 (M 2)), ((md 3), arC cI 96 (M 3)), ((md 4), arC cI 384 (M 4)), ((md 5), arC cI 96 (M 5)), ((md 6), arC cI 60 (M 6))] := hD
  refine lv_iinc (v := (11 : Int32)) (lv' := [(3, .int (11 : Int32)), (0, .ref (md 0)), (1, .int a1), (2, .int a2)]) hx hb dX5_tells_27 hl (k := 0) rfl rfl (by decide) rfl (fun ls hl => ?_)
  refine lv_goto (tgt := 3) hx hb dX5_tells_30 (by decide) ?_
  refine lv_iload_n hx hb dX5_tells_3 rfl (lv_at hl 0 rfl) ?_
  refine lv_if_le (tgt := 33) hx hb dX5_tells_4 (by decide) (fun h9 => absurd h9 (by decide)) (fun _ => ?_)
  refine lv_aload_n hx hb dX5_tells_7 rfl (lv_at hl 1 rfl) ?_
  refine va_get (D := D) (ci := 5) (v := .ref (md 1)) (C := RX5) (T := TX5) (N := 14) hx hb hts inX5 hown hK.1 hP 0 rfl rfl 0 (by decide) (hts (.fieldLink RX5 7 "GrayPointersModel" "all" "[I") (List.mem_of_getElem? (i := 1) rfl)) (fun _ h9 => h9) rfl dX5_tells_8 ?_
  refine lv_bipush (v := (79 : Int32)) hx hb dX5_tells_11 (by decide) ?_
  refine lv_iload_n hx hb dX5_tells_13 rfl (lv_at hl 0 rfl) ?_
  refine lv_iadd hx hb dX5_tells_14 ?_
  refine W.eq (g2 := F0 m 15 ls [.int (90 : Int32), .ref (md 1)]) rfl ?_
  refine lv_aload_n hx hb dX5_tells_15 rfl (lv_at hl 1 rfl) ?_
  refine va_get (D := D) (ci := 5) (v := .ref (md 1)) (C := RX5) (T := TX5) (N := 14) hx hb hts inX5 hown hK.1 hP 0 rfl rfl 0 (by decide) (hts (.fieldLink RX5 7 "GrayPointersModel" "all" "[I") (List.mem_of_getElem? (i := 1) rfl)) (fun _ h9 => h9) rfl dX5_tells_16 ?_
  refine lv_bipush (v := (79 : Int32)) hx hb dX5_tells_19 (by decide) ?_
  refine lv_iload_n hx hb dX5_tells_21 rfl (lv_at hl 0 rfl) ?_
  refine lv_iadd hx hb dX5_tells_22 ?_
  refine W.eq (g2 := F0 m 23 ls [.int (90 : Int32), .ref (md 1), .int (90 : Int32), .ref (md 1)]) rfl ?_
  refine lv_iconst (v := (1 : Int32)) hx hb dX5_tells_23 (by decide) ?_
  refine lv_isub hx hb dX5_tells_24 ?_
  refine W.eq (g2 := F0 m 25 ls [.int (89 : Int32), .ref (md 1), .int (90 : Int32), .ref (md 1)]) rfl ?_
  refine va_iald hx hb hK.1 hP 1 0 rfl rfl (i := (89 : Int32)) (vp_in_iff.mpr (by decide)) dX5_tells_25 ?_
  refine W.eq (g2 := F0 m 26 ls [.int ((M 1) 89), .int (90 : Int32), .ref (md 1)]) rfl ?_
  refine va_iast hx hb hK.1 hP hD hS 1 0 rfl rfl (i := (90 : Int32)) (x := ((M 1) 89)) (vp_in_iff.mpr (by decide)) dX5_tells_26 (fun H locs hP hD hS => ?_)
  have hP : va_P D vwCl [((md 0), mdC md (M 0)), ((md 1), arC cI 96 (upd (upd (upd (upd (upd (M 1) 94 ((M 1) 93)) 93 ((M 1) 92)) 92 ((M 1) 91)) 91 ((M 1) 90)) 90 ((M 1) 89))), ((md 2), arC cI 96 (M 2)), ((md 3), arC cI 96 (M 3)), ((md 4), arC cI 384 (M 4)), ((md 5), arC cI 96 (M 5)), ((md 6), arC cI 60 (M 6))] H := hP
  have hD : va_D A [((md 0), mdC md (M 0)), ((md 1), arC cI 96 (upd (upd (upd (upd (upd (M 1) 94 ((M 1) 93)) 93 ((M 1) 92)) 92 ((M 1) 91)) 91 ((M 1) 90)) 90 ((M 1) 89))), ((md 2), arC cI 96 (M 2)), ((md 3), arC cI 96 (M 3)), ((md 4), arC cI 384 (M 4)), ((md 5), arC cI 96 (M 5)), ((md 6), arC cI 60 (M 6))] := hD
  refine lv_iinc (v := (10 : Int32)) (lv' := [(3, .int (10 : Int32)), (0, .ref (md 0)), (1, .int a1), (2, .int a2)]) hx hb dX5_tells_27 hl (k := 0) rfl rfl (by decide) rfl (fun ls hl => ?_)
  refine lv_goto (tgt := 3) hx hb dX5_tells_30 (by decide) ?_
  refine lv_iload_n hx hb dX5_tells_3 rfl (lv_at hl 0 rfl) ?_
  refine lv_if_le (tgt := 33) hx hb dX5_tells_4 (by decide) (fun h9 => absurd h9 (by decide)) (fun _ => ?_)
  refine lv_aload_n hx hb dX5_tells_7 rfl (lv_at hl 1 rfl) ?_
  refine va_get (D := D) (ci := 5) (v := .ref (md 1)) (C := RX5) (T := TX5) (N := 14) hx hb hts inX5 hown hK.1 hP 0 rfl rfl 0 (by decide) (hts (.fieldLink RX5 7 "GrayPointersModel" "all" "[I") (List.mem_of_getElem? (i := 1) rfl)) (fun _ h9 => h9) rfl dX5_tells_8 ?_
  refine lv_bipush (v := (79 : Int32)) hx hb dX5_tells_11 (by decide) ?_
  refine lv_iload_n hx hb dX5_tells_13 rfl (lv_at hl 0 rfl) ?_
  refine lv_iadd hx hb dX5_tells_14 ?_
  refine W.eq (g2 := F0 m 15 ls [.int (89 : Int32), .ref (md 1)]) rfl ?_
  refine lv_aload_n hx hb dX5_tells_15 rfl (lv_at hl 1 rfl) ?_
  refine va_get (D := D) (ci := 5) (v := .ref (md 1)) (C := RX5) (T := TX5) (N := 14) hx hb hts inX5 hown hK.1 hP 0 rfl rfl 0 (by decide) (hts (.fieldLink RX5 7 "GrayPointersModel" "all" "[I") (List.mem_of_getElem? (i := 1) rfl)) (fun _ h9 => h9) rfl dX5_tells_16 ?_
  refine lv_bipush (v := (79 : Int32)) hx hb dX5_tells_19 (by decide) ?_
  refine lv_iload_n hx hb dX5_tells_21 rfl (lv_at hl 0 rfl) ?_
  refine lv_iadd hx hb dX5_tells_22 ?_
  refine W.eq (g2 := F0 m 23 ls [.int (89 : Int32), .ref (md 1), .int (89 : Int32), .ref (md 1)]) rfl ?_
  refine lv_iconst (v := (1 : Int32)) hx hb dX5_tells_23 (by decide) ?_
  refine lv_isub hx hb dX5_tells_24 ?_
  refine W.eq (g2 := F0 m 25 ls [.int (88 : Int32), .ref (md 1), .int (89 : Int32), .ref (md 1)]) rfl ?_
  refine va_iald hx hb hK.1 hP 1 0 rfl rfl (i := (88 : Int32)) (vp_in_iff.mpr (by decide)) dX5_tells_25 ?_
  refine W.eq (g2 := F0 m 26 ls [.int ((M 1) 88), .int (89 : Int32), .ref (md 1)]) rfl ?_
  refine va_iast hx hb hK.1 hP hD hS 1 0 rfl rfl (i := (89 : Int32)) (x := ((M 1) 88)) (vp_in_iff.mpr (by decide)) dX5_tells_26 (fun H locs hP hD hS => ?_)
  have hP : va_P D vwCl [((md 0), mdC md (M 0)), ((md 1), arC cI 96 (upd (upd (upd (upd (upd (upd (M 1) 94 ((M 1) 93)) 93 ((M 1) 92)) 92 ((M 1) 91)) 91 ((M 1) 90)) 90 ((M 1) 89)) 89 ((M 1) 88))), ((md 2), arC cI 96 (M 2)), ((md 3), arC cI 96 (M 3)), ((md 4), arC cI 384 (M 4)), ((md 5), arC cI 96 (M 5)), ((md 6), arC cI 60 (M 6))] H := hP
  have hD : va_D A [((md 0), mdC md (M 0)), ((md 1), arC cI 96 (upd (upd (upd (upd (upd (upd (M 1) 94 ((M 1) 93)) 93 ((M 1) 92)) 92 ((M 1) 91)) 91 ((M 1) 90)) 90 ((M 1) 89)) 89 ((M 1) 88))), ((md 2), arC cI 96 (M 2)), ((md 3), arC cI 96 (M 3)), ((md 4), arC cI 384 (M 4)), ((md 5), arC cI 96 (M 5)), ((md 6), arC cI 60 (M 6))] := hD
  refine lv_iinc (v := (9 : Int32)) (lv' := [(3, .int (9 : Int32)), (0, .ref (md 0)), (1, .int a1), (2, .int a2)]) hx hb dX5_tells_27 hl (k := 0) rfl rfl (by decide) rfl (fun ls hl => ?_)
  refine lv_goto (tgt := 3) hx hb dX5_tells_30 (by decide) ?_
  refine lv_iload_n hx hb dX5_tells_3 rfl (lv_at hl 0 rfl) ?_
  refine lv_if_le (tgt := 33) hx hb dX5_tells_4 (by decide) (fun h9 => absurd h9 (by decide)) (fun _ => ?_)
  refine lv_aload_n hx hb dX5_tells_7 rfl (lv_at hl 1 rfl) ?_
  refine va_get (D := D) (ci := 5) (v := .ref (md 1)) (C := RX5) (T := TX5) (N := 14) hx hb hts inX5 hown hK.1 hP 0 rfl rfl 0 (by decide) (hts (.fieldLink RX5 7 "GrayPointersModel" "all" "[I") (List.mem_of_getElem? (i := 1) rfl)) (fun _ h9 => h9) rfl dX5_tells_8 ?_
  refine lv_bipush (v := (79 : Int32)) hx hb dX5_tells_11 (by decide) ?_
  refine lv_iload_n hx hb dX5_tells_13 rfl (lv_at hl 0 rfl) ?_
  refine lv_iadd hx hb dX5_tells_14 ?_
  refine W.eq (g2 := F0 m 15 ls [.int (88 : Int32), .ref (md 1)]) rfl ?_
  refine lv_aload_n hx hb dX5_tells_15 rfl (lv_at hl 1 rfl) ?_
  refine va_get (D := D) (ci := 5) (v := .ref (md 1)) (C := RX5) (T := TX5) (N := 14) hx hb hts inX5 hown hK.1 hP 0 rfl rfl 0 (by decide) (hts (.fieldLink RX5 7 "GrayPointersModel" "all" "[I") (List.mem_of_getElem? (i := 1) rfl)) (fun _ h9 => h9) rfl dX5_tells_16 ?_
  refine lv_bipush (v := (79 : Int32)) hx hb dX5_tells_19 (by decide) ?_
  refine lv_iload_n hx hb dX5_tells_21 rfl (lv_at hl 0 rfl) ?_
  refine lv_iadd hx hb dX5_tells_22 ?_
  refine W.eq (g2 := F0 m 23 ls [.int (88 : Int32), .ref (md 1), .int (88 : Int32), .ref (md 1)]) rfl ?_
  refine lv_iconst (v := (1 : Int32)) hx hb dX5_tells_23 (by decide) ?_
  refine lv_isub hx hb dX5_tells_24 ?_
  refine W.eq (g2 := F0 m 25 ls [.int (87 : Int32), .ref (md 1), .int (88 : Int32), .ref (md 1)]) rfl ?_
  refine va_iald hx hb hK.1 hP 1 0 rfl rfl (i := (87 : Int32)) (vp_in_iff.mpr (by decide)) dX5_tells_25 ?_
  refine W.eq (g2 := F0 m 26 ls [.int ((M 1) 87), .int (88 : Int32), .ref (md 1)]) rfl ?_
  refine va_iast hx hb hK.1 hP hD hS 1 0 rfl rfl (i := (88 : Int32)) (x := ((M 1) 87)) (vp_in_iff.mpr (by decide)) dX5_tells_26 (fun H locs hP hD hS => ?_)
  have hP : va_P D vwCl [((md 0), mdC md (M 0)), ((md 1), arC cI 96 (upd (upd (upd (upd (upd (upd (upd (M 1) 94 ((M 1) 93)) 93 ((M 1) 92)) 92 ((M 1) 91)) 91 ((M 1) 90)) 90 ((M 1) 89)) 89 ((M 1) 88)) 88 ((M 1) 87))), ((md 2), arC cI 96 (M 2)), ((md 3), arC cI 96 (M 3)), ((md 4), arC cI 384 (M 4)), ((md 5), arC cI 96 (M 5)), ((md 6), arC cI 60 (M 6))] H := hP
  have hD : va_D A [((md 0), mdC md (M 0)), ((md 1), arC cI 96 (upd (upd (upd (upd (upd (upd (upd (M 1) 94 ((M 1) 93)) 93 ((M 1) 92)) 92 ((M 1) 91)) 91 ((M 1) 90)) 90 ((M 1) 89)) 89 ((M 1) 88)) 88 ((M 1) 87))), ((md 2), arC cI 96 (M 2)), ((md 3), arC cI 96 (M 3)), ((md 4), arC cI 384 (M 4)), ((md 5), arC cI 96 (M 5)), ((md 6), arC cI 60 (M 6))] := hD
  refine lv_iinc (v := (8 : Int32)) (lv' := [(3, .int (8 : Int32)), (0, .ref (md 0)), (1, .int a1), (2, .int a2)]) hx hb dX5_tells_27 hl (k := 0) rfl rfl (by decide) rfl (fun ls hl => ?_)
  refine lv_goto (tgt := 3) hx hb dX5_tells_30 (by decide) ?_
  refine lv_iload_n hx hb dX5_tells_3 rfl (lv_at hl 0 rfl) ?_
  refine lv_if_le (tgt := 33) hx hb dX5_tells_4 (by decide) (fun h9 => absurd h9 (by decide)) (fun _ => ?_)
  refine lv_aload_n hx hb dX5_tells_7 rfl (lv_at hl 1 rfl) ?_
  refine va_get (D := D) (ci := 5) (v := .ref (md 1)) (C := RX5) (T := TX5) (N := 14) hx hb hts inX5 hown hK.1 hP 0 rfl rfl 0 (by decide) (hts (.fieldLink RX5 7 "GrayPointersModel" "all" "[I") (List.mem_of_getElem? (i := 1) rfl)) (fun _ h9 => h9) rfl dX5_tells_8 ?_
  refine lv_bipush (v := (79 : Int32)) hx hb dX5_tells_11 (by decide) ?_
  refine lv_iload_n hx hb dX5_tells_13 rfl (lv_at hl 0 rfl) ?_
  refine lv_iadd hx hb dX5_tells_14 ?_
  refine W.eq (g2 := F0 m 15 ls [.int (87 : Int32), .ref (md 1)]) rfl ?_
  refine lv_aload_n hx hb dX5_tells_15 rfl (lv_at hl 1 rfl) ?_
  refine va_get (D := D) (ci := 5) (v := .ref (md 1)) (C := RX5) (T := TX5) (N := 14) hx hb hts inX5 hown hK.1 hP 0 rfl rfl 0 (by decide) (hts (.fieldLink RX5 7 "GrayPointersModel" "all" "[I") (List.mem_of_getElem? (i := 1) rfl)) (fun _ h9 => h9) rfl dX5_tells_16 ?_
  refine lv_bipush (v := (79 : Int32)) hx hb dX5_tells_19 (by decide) ?_
  refine lv_iload_n hx hb dX5_tells_21 rfl (lv_at hl 0 rfl) ?_
  refine lv_iadd hx hb dX5_tells_22 ?_
  refine W.eq (g2 := F0 m 23 ls [.int (87 : Int32), .ref (md 1), .int (87 : Int32), .ref (md 1)]) rfl ?_
  refine lv_iconst (v := (1 : Int32)) hx hb dX5_tells_23 (by decide) ?_
  refine lv_isub hx hb dX5_tells_24 ?_
  refine W.eq (g2 := F0 m 25 ls [.int (86 : Int32), .ref (md 1), .int (87 : Int32), .ref (md 1)]) rfl ?_
  refine va_iald hx hb hK.1 hP 1 0 rfl rfl (i := (86 : Int32)) (vp_in_iff.mpr (by decide)) dX5_tells_25 ?_
  refine W.eq (g2 := F0 m 26 ls [.int ((M 1) 86), .int (87 : Int32), .ref (md 1)]) rfl ?_
  refine va_iast hx hb hK.1 hP hD hS 1 0 rfl rfl (i := (87 : Int32)) (x := ((M 1) 86)) (vp_in_iff.mpr (by decide)) dX5_tells_26 (fun H locs hP hD hS => ?_)
  have hP : va_P D vwCl [((md 0), mdC md (M 0)), ((md 1), arC cI 96 (upd (upd (upd (upd (upd (upd (upd (upd (M 1) 94 ((M 1) 93)) 93 ((M 1) 92)) 92 ((M 1) 91)) 91 ((M 1) 90)) 90 ((M 1) 89)) 89 ((M 1) 88)) 88 ((M 1) 87)) 87 ((M 1) 86))), ((md 2), arC cI 96 (M 2)), ((md 3), arC cI 96 (M 3)), ((md 4), arC cI 384 (M 4)), ((md 5), arC cI 96 (M 5)), ((md 6), arC cI 60 (M 6))] H := hP
  have hD : va_D A [((md 0), mdC md (M 0)), ((md 1), arC cI 96 (upd (upd (upd (upd (upd (upd (upd (upd (M 1) 94 ((M 1) 93)) 93 ((M 1) 92)) 92 ((M 1) 91)) 91 ((M 1) 90)) 90 ((M 1) 89)) 89 ((M 1) 88)) 88 ((M 1) 87)) 87 ((M 1) 86))), ((md 2), arC cI 96 (M 2)), ((md 3), arC cI 96 (M 3)), ((md 4), arC cI 384 (M 4)), ((md 5), arC cI 96 (M 5)), ((md 6), arC cI 60 (M 6))] := hD
  refine lv_iinc (v := (7 : Int32)) (lv' := [(3, .int (7 : Int32)), (0, .ref (md 0)), (1, .int a1), (2, .int a2)]) hx hb dX5_tells_27 hl (k := 0) rfl rfl (by decide) rfl (fun ls hl => ?_)
  refine lv_goto (tgt := 3) hx hb dX5_tells_30 (by decide) ?_
  refine lv_iload_n hx hb dX5_tells_3 rfl (lv_at hl 0 rfl) ?_
  refine lv_if_le (tgt := 33) hx hb dX5_tells_4 (by decide) (fun h9 => absurd h9 (by decide)) (fun _ => ?_)
  refine lv_aload_n hx hb dX5_tells_7 rfl (lv_at hl 1 rfl) ?_
  refine va_get (D := D) (ci := 5) (v := .ref (md 1)) (C := RX5) (T := TX5) (N := 14) hx hb hts inX5 hown hK.1 hP 0 rfl rfl 0 (by decide) (hts (.fieldLink RX5 7 "GrayPointersModel" "all" "[I") (List.mem_of_getElem? (i := 1) rfl)) (fun _ h9 => h9) rfl dX5_tells_8 ?_
  refine lv_bipush (v := (79 : Int32)) hx hb dX5_tells_11 (by decide) ?_
  refine lv_iload_n hx hb dX5_tells_13 rfl (lv_at hl 0 rfl) ?_
  refine lv_iadd hx hb dX5_tells_14 ?_
  refine W.eq (g2 := F0 m 15 ls [.int (86 : Int32), .ref (md 1)]) rfl ?_
  refine lv_aload_n hx hb dX5_tells_15 rfl (lv_at hl 1 rfl) ?_
  refine va_get (D := D) (ci := 5) (v := .ref (md 1)) (C := RX5) (T := TX5) (N := 14) hx hb hts inX5 hown hK.1 hP 0 rfl rfl 0 (by decide) (hts (.fieldLink RX5 7 "GrayPointersModel" "all" "[I") (List.mem_of_getElem? (i := 1) rfl)) (fun _ h9 => h9) rfl dX5_tells_16 ?_
  refine lv_bipush (v := (79 : Int32)) hx hb dX5_tells_19 (by decide) ?_
  refine lv_iload_n hx hb dX5_tells_21 rfl (lv_at hl 0 rfl) ?_
  refine lv_iadd hx hb dX5_tells_22 ?_
  refine W.eq (g2 := F0 m 23 ls [.int (86 : Int32), .ref (md 1), .int (86 : Int32), .ref (md 1)]) rfl ?_
  refine lv_iconst (v := (1 : Int32)) hx hb dX5_tells_23 (by decide) ?_
  refine lv_isub hx hb dX5_tells_24 ?_
  refine W.eq (g2 := F0 m 25 ls [.int (85 : Int32), .ref (md 1), .int (86 : Int32), .ref (md 1)]) rfl ?_
  refine va_iald hx hb hK.1 hP 1 0 rfl rfl (i := (85 : Int32)) (vp_in_iff.mpr (by decide)) dX5_tells_25 ?_
  refine W.eq (g2 := F0 m 26 ls [.int ((M 1) 85), .int (86 : Int32), .ref (md 1)]) rfl ?_
  refine va_iast hx hb hK.1 hP hD hS 1 0 rfl rfl (i := (86 : Int32)) (x := ((M 1) 85)) (vp_in_iff.mpr (by decide)) dX5_tells_26 (fun H locs hP hD hS => ?_)
  have hP : va_P D vwCl [((md 0), mdC md (M 0)), ((md 1), arC cI 96 (upd (upd (upd (upd (upd (upd (upd (upd (upd (M 1) 94 ((M 1) 93)) 93 ((M 1) 92)) 92 ((M 1) 91)) 91 ((M 1) 90)) 90 ((M 1) 89)) 89 ((M 1) 88)) 88 ((M 1) 87)) 87 ((M 1) 86)) 86 ((M 1) 85))), ((md 2), arC cI 96 (M 2)), ((md 3), arC cI 96 (M 3)), ((md 4), arC cI 384 (M 4)), ((md 5), arC cI 96 (M 5)), ((md 6), arC cI 60 (M 6))] H := hP
  have hD : va_D A [((md 0), mdC md (M 0)), ((md 1), arC cI 96 (upd (upd (upd (upd (upd (upd (upd (upd (upd (M 1) 94 ((M 1) 93)) 93 ((M 1) 92)) 92 ((M 1) 91)) 91 ((M 1) 90)) 90 ((M 1) 89)) 89 ((M 1) 88)) 88 ((M 1) 87)) 87 ((M 1) 86)) 86 ((M 1) 85))), ((md 2), arC cI 96 (M 2)), ((md 3), arC cI 96 (M 3)), ((md 4), arC cI 384 (M 4)), ((md 5), arC cI 96 (M 5)), ((md 6), arC cI 60 (M 6))] := hD
  refine lv_iinc (v := (6 : Int32)) (lv' := [(3, .int (6 : Int32)), (0, .ref (md 0)), (1, .int a1), (2, .int a2)]) hx hb dX5_tells_27 hl (k := 0) rfl rfl (by decide) rfl (fun ls hl => ?_)
  refine lv_goto (tgt := 3) hx hb dX5_tells_30 (by decide) ?_
  refine lv_iload_n hx hb dX5_tells_3 rfl (lv_at hl 0 rfl) ?_
  refine lv_if_le (tgt := 33) hx hb dX5_tells_4 (by decide) (fun h9 => absurd h9 (by decide)) (fun _ => ?_)
  refine lv_aload_n hx hb dX5_tells_7 rfl (lv_at hl 1 rfl) ?_
  refine va_get (D := D) (ci := 5) (v := .ref (md 1)) (C := RX5) (T := TX5) (N := 14) hx hb hts inX5 hown hK.1 hP 0 rfl rfl 0 (by decide) (hts (.fieldLink RX5 7 "GrayPointersModel" "all" "[I") (List.mem_of_getElem? (i := 1) rfl)) (fun _ h9 => h9) rfl dX5_tells_8 ?_
  refine lv_bipush (v := (79 : Int32)) hx hb dX5_tells_11 (by decide) ?_
  refine lv_iload_n hx hb dX5_tells_13 rfl (lv_at hl 0 rfl) ?_
  refine lv_iadd hx hb dX5_tells_14 ?_
  refine W.eq (g2 := F0 m 15 ls [.int (85 : Int32), .ref (md 1)]) rfl ?_
  refine lv_aload_n hx hb dX5_tells_15 rfl (lv_at hl 1 rfl) ?_
  refine va_get (D := D) (ci := 5) (v := .ref (md 1)) (C := RX5) (T := TX5) (N := 14) hx hb hts inX5 hown hK.1 hP 0 rfl rfl 0 (by decide) (hts (.fieldLink RX5 7 "GrayPointersModel" "all" "[I") (List.mem_of_getElem? (i := 1) rfl)) (fun _ h9 => h9) rfl dX5_tells_16 ?_
  refine lv_bipush (v := (79 : Int32)) hx hb dX5_tells_19 (by decide) ?_
  refine lv_iload_n hx hb dX5_tells_21 rfl (lv_at hl 0 rfl) ?_
  refine lv_iadd hx hb dX5_tells_22 ?_
  refine W.eq (g2 := F0 m 23 ls [.int (85 : Int32), .ref (md 1), .int (85 : Int32), .ref (md 1)]) rfl ?_
  refine lv_iconst (v := (1 : Int32)) hx hb dX5_tells_23 (by decide) ?_
  refine lv_isub hx hb dX5_tells_24 ?_
  refine W.eq (g2 := F0 m 25 ls [.int (84 : Int32), .ref (md 1), .int (85 : Int32), .ref (md 1)]) rfl ?_
  refine va_iald hx hb hK.1 hP 1 0 rfl rfl (i := (84 : Int32)) (vp_in_iff.mpr (by decide)) dX5_tells_25 ?_
  refine W.eq (g2 := F0 m 26 ls [.int ((M 1) 84), .int (85 : Int32), .ref (md 1)]) rfl ?_
  refine va_iast hx hb hK.1 hP hD hS 1 0 rfl rfl (i := (85 : Int32)) (x := ((M 1) 84)) (vp_in_iff.mpr (by decide)) dX5_tells_26 (fun H locs hP hD hS => ?_)
  have hP : va_P D vwCl [((md 0), mdC md (M 0)), ((md 1), arC cI 96 (upd (upd (upd (upd (upd (upd (upd (upd (upd (upd (M 1) 94 ((M 1) 93)) 93 ((M 1) 92)) 92 ((M 1) 91)) 91 ((M 1) 90)) 90 ((M 1) 89)) 89 ((M 1) 88)) 88 ((M 1) 87)) 87 ((M 1) 86)) 86 ((M 1) 85)) 85 ((M 1) 84))), ((md 2), arC cI 96 (M 2)), ((md 3), arC cI 96 (M 3)), ((md 4), arC cI 384 (M 4)), ((md 5), arC cI 96 (M 5)), ((md 6), arC cI 60 (M 6))] H := hP
  have hD : va_D A [((md 0), mdC md (M 0)), ((md 1), arC cI 96 (upd (upd (upd (upd (upd (upd (upd (upd (upd (upd (M 1) 94 ((M 1) 93)) 93 ((M 1) 92)) 92 ((M 1) 91)) 91 ((M 1) 90)) 90 ((M 1) 89)) 89 ((M 1) 88)) 88 ((M 1) 87)) 87 ((M 1) 86)) 86 ((M 1) 85)) 85 ((M 1) 84))), ((md 2), arC cI 96 (M 2)), ((md 3), arC cI 96 (M 3)), ((md 4), arC cI 384 (M 4)), ((md 5), arC cI 96 (M 5)), ((md 6), arC cI 60 (M 6))] := hD
  refine lv_iinc (v := (5 : Int32)) (lv' := [(3, .int (5 : Int32)), (0, .ref (md 0)), (1, .int a1), (2, .int a2)]) hx hb dX5_tells_27 hl (k := 0) rfl rfl (by decide) rfl (fun ls hl => ?_)
  refine lv_goto (tgt := 3) hx hb dX5_tells_30 (by decide) ?_
  refine lv_iload_n hx hb dX5_tells_3 rfl (lv_at hl 0 rfl) ?_
  refine lv_if_le (tgt := 33) hx hb dX5_tells_4 (by decide) (fun h9 => absurd h9 (by decide)) (fun _ => ?_)
  refine lv_aload_n hx hb dX5_tells_7 rfl (lv_at hl 1 rfl) ?_
  refine va_get (D := D) (ci := 5) (v := .ref (md 1)) (C := RX5) (T := TX5) (N := 14) hx hb hts inX5 hown hK.1 hP 0 rfl rfl 0 (by decide) (hts (.fieldLink RX5 7 "GrayPointersModel" "all" "[I") (List.mem_of_getElem? (i := 1) rfl)) (fun _ h9 => h9) rfl dX5_tells_8 ?_
  refine lv_bipush (v := (79 : Int32)) hx hb dX5_tells_11 (by decide) ?_
  refine lv_iload_n hx hb dX5_tells_13 rfl (lv_at hl 0 rfl) ?_
  refine lv_iadd hx hb dX5_tells_14 ?_
  refine W.eq (g2 := F0 m 15 ls [.int (84 : Int32), .ref (md 1)]) rfl ?_
  refine lv_aload_n hx hb dX5_tells_15 rfl (lv_at hl 1 rfl) ?_
  refine va_get (D := D) (ci := 5) (v := .ref (md 1)) (C := RX5) (T := TX5) (N := 14) hx hb hts inX5 hown hK.1 hP 0 rfl rfl 0 (by decide) (hts (.fieldLink RX5 7 "GrayPointersModel" "all" "[I") (List.mem_of_getElem? (i := 1) rfl)) (fun _ h9 => h9) rfl dX5_tells_16 ?_
  refine lv_bipush (v := (79 : Int32)) hx hb dX5_tells_19 (by decide) ?_
  refine lv_iload_n hx hb dX5_tells_21 rfl (lv_at hl 0 rfl) ?_
  refine lv_iadd hx hb dX5_tells_22 ?_
  refine W.eq (g2 := F0 m 23 ls [.int (84 : Int32), .ref (md 1), .int (84 : Int32), .ref (md 1)]) rfl ?_
  refine lv_iconst (v := (1 : Int32)) hx hb dX5_tells_23 (by decide) ?_
  refine lv_isub hx hb dX5_tells_24 ?_
  refine W.eq (g2 := F0 m 25 ls [.int (83 : Int32), .ref (md 1), .int (84 : Int32), .ref (md 1)]) rfl ?_
  refine va_iald hx hb hK.1 hP 1 0 rfl rfl (i := (83 : Int32)) (vp_in_iff.mpr (by decide)) dX5_tells_25 ?_
  refine W.eq (g2 := F0 m 26 ls [.int ((M 1) 83), .int (84 : Int32), .ref (md 1)]) rfl ?_
  refine va_iast hx hb hK.1 hP hD hS 1 0 rfl rfl (i := (84 : Int32)) (x := ((M 1) 83)) (vp_in_iff.mpr (by decide)) dX5_tells_26 (fun H locs hP hD hS => ?_)
  have hP : va_P D vwCl [((md 0), mdC md (M 0)), ((md 1), arC cI 96 (upd (upd (upd (upd (upd (upd (upd (upd (upd (upd (upd (M 1) 94 ((M 1) 93)) 93 ((M 1) 92)) 92 ((M 1) 91)) 91 ((M 1) 90)) 90 ((M 1) 89)) 89 ((M 1) 88)) 88 ((M 1) 87)) 87 ((M 1) 86)) 86 ((M 1) 85)) 85 ((M 1) 84)) 84 ((M 1) 83))), ((md 2), arC cI 96 (M 2)), ((md 3), arC cI 96 (M 3)), ((md 4), arC cI 384 (M 4)), ((md 5), arC cI 96 (M 5)), ((md 6), arC cI 60 (M 6))] H := hP
  have hD : va_D A [((md 0), mdC md (M 0)), ((md 1), arC cI 96 (upd (upd (upd (upd (upd (upd (upd (upd (upd (upd (upd (M 1) 94 ((M 1) 93)) 93 ((M 1) 92)) 92 ((M 1) 91)) 91 ((M 1) 90)) 90 ((M 1) 89)) 89 ((M 1) 88)) 88 ((M 1) 87)) 87 ((M 1) 86)) 86 ((M 1) 85)) 85 ((M 1) 84)) 84 ((M 1) 83))), ((md 2), arC cI 96 (M 2)), ((md 3), arC cI 96 (M 3)), ((md 4), arC cI 384 (M 4)), ((md 5), arC cI 96 (M 5)), ((md 6), arC cI 60 (M 6))] := hD
  refine lv_iinc (v := (4 : Int32)) (lv' := [(3, .int (4 : Int32)), (0, .ref (md 0)), (1, .int a1), (2, .int a2)]) hx hb dX5_tells_27 hl (k := 0) rfl rfl (by decide) rfl (fun ls hl => ?_)
  refine lv_goto (tgt := 3) hx hb dX5_tells_30 (by decide) ?_
  refine lv_iload_n hx hb dX5_tells_3 rfl (lv_at hl 0 rfl) ?_
  refine lv_if_le (tgt := 33) hx hb dX5_tells_4 (by decide) (fun h9 => absurd h9 (by decide)) (fun _ => ?_)
  refine lv_aload_n hx hb dX5_tells_7 rfl (lv_at hl 1 rfl) ?_
  refine va_get (D := D) (ci := 5) (v := .ref (md 1)) (C := RX5) (T := TX5) (N := 14) hx hb hts inX5 hown hK.1 hP 0 rfl rfl 0 (by decide) (hts (.fieldLink RX5 7 "GrayPointersModel" "all" "[I") (List.mem_of_getElem? (i := 1) rfl)) (fun _ h9 => h9) rfl dX5_tells_8 ?_
  refine lv_bipush (v := (79 : Int32)) hx hb dX5_tells_11 (by decide) ?_
  refine lv_iload_n hx hb dX5_tells_13 rfl (lv_at hl 0 rfl) ?_
  refine lv_iadd hx hb dX5_tells_14 ?_
  refine W.eq (g2 := F0 m 15 ls [.int (83 : Int32), .ref (md 1)]) rfl ?_
  refine lv_aload_n hx hb dX5_tells_15 rfl (lv_at hl 1 rfl) ?_
  refine va_get (D := D) (ci := 5) (v := .ref (md 1)) (C := RX5) (T := TX5) (N := 14) hx hb hts inX5 hown hK.1 hP 0 rfl rfl 0 (by decide) (hts (.fieldLink RX5 7 "GrayPointersModel" "all" "[I") (List.mem_of_getElem? (i := 1) rfl)) (fun _ h9 => h9) rfl dX5_tells_16 ?_
  refine lv_bipush (v := (79 : Int32)) hx hb dX5_tells_19 (by decide) ?_
  refine lv_iload_n hx hb dX5_tells_21 rfl (lv_at hl 0 rfl) ?_
  refine lv_iadd hx hb dX5_tells_22 ?_
  refine W.eq (g2 := F0 m 23 ls [.int (83 : Int32), .ref (md 1), .int (83 : Int32), .ref (md 1)]) rfl ?_
  refine lv_iconst (v := (1 : Int32)) hx hb dX5_tells_23 (by decide) ?_
  refine lv_isub hx hb dX5_tells_24 ?_
  refine W.eq (g2 := F0 m 25 ls [.int (82 : Int32), .ref (md 1), .int (83 : Int32), .ref (md 1)]) rfl ?_
  refine va_iald hx hb hK.1 hP 1 0 rfl rfl (i := (82 : Int32)) (vp_in_iff.mpr (by decide)) dX5_tells_25 ?_
  refine W.eq (g2 := F0 m 26 ls [.int ((M 1) 82), .int (83 : Int32), .ref (md 1)]) rfl ?_
  refine va_iast hx hb hK.1 hP hD hS 1 0 rfl rfl (i := (83 : Int32)) (x := ((M 1) 82)) (vp_in_iff.mpr (by decide)) dX5_tells_26 (fun H locs hP hD hS => ?_)
  have hP : va_P D vwCl [((md 0), mdC md (M 0)), ((md 1), arC cI 96 (upd (upd (upd (upd (upd (upd (upd (upd (upd (upd (upd (upd (M 1) 94 ((M 1) 93)) 93 ((M 1) 92)) 92 ((M 1) 91)) 91 ((M 1) 90)) 90 ((M 1) 89)) 89 ((M 1) 88)) 88 ((M 1) 87)) 87 ((M 1) 86)) 86 ((M 1) 85)) 85 ((M 1) 84)) 84 ((M 1) 83)) 83 ((M 1) 82))), ((md 2), arC cI 96 (M 2)), ((md 3), arC cI 96 (M 3)), ((md 4), arC cI 384 (M 4)), ((md 5), arC cI 96 (M 5)), ((md 6), arC cI 60 (M 6))] H := hP
  have hD : va_D A [((md 0), mdC md (M 0)), ((md 1), arC cI 96 (upd (upd (upd (upd (upd (upd (upd (upd (upd (upd (upd (upd (M 1) 94 ((M 1) 93)) 93 ((M 1) 92)) 92 ((M 1) 91)) 91 ((M 1) 90)) 90 ((M 1) 89)) 89 ((M 1) 88)) 88 ((M 1) 87)) 87 ((M 1) 86)) 86 ((M 1) 85)) 85 ((M 1) 84)) 84 ((M 1) 83)) 83 ((M 1) 82))), ((md 2), arC cI 96 (M 2)), ((md 3), arC cI 96 (M 3)), ((md 4), arC cI 384 (M 4)), ((md 5), arC cI 96 (M 5)), ((md 6), arC cI 60 (M 6))] := hD
  refine lv_iinc (v := (3 : Int32)) (lv' := [(3, .int (3 : Int32)), (0, .ref (md 0)), (1, .int a1), (2, .int a2)]) hx hb dX5_tells_27 hl (k := 0) rfl rfl (by decide) rfl (fun ls hl => ?_)
  refine lv_goto (tgt := 3) hx hb dX5_tells_30 (by decide) ?_
  refine lv_iload_n hx hb dX5_tells_3 rfl (lv_at hl 0 rfl) ?_
  refine lv_if_le (tgt := 33) hx hb dX5_tells_4 (by decide) (fun h9 => absurd h9 (by decide)) (fun _ => ?_)
  refine lv_aload_n hx hb dX5_tells_7 rfl (lv_at hl 1 rfl) ?_
  refine va_get (D := D) (ci := 5) (v := .ref (md 1)) (C := RX5) (T := TX5) (N := 14) hx hb hts inX5 hown hK.1 hP 0 rfl rfl 0 (by decide) (hts (.fieldLink RX5 7 "GrayPointersModel" "all" "[I") (List.mem_of_getElem? (i := 1) rfl)) (fun _ h9 => h9) rfl dX5_tells_8 ?_
  refine lv_bipush (v := (79 : Int32)) hx hb dX5_tells_11 (by decide) ?_
  refine lv_iload_n hx hb dX5_tells_13 rfl (lv_at hl 0 rfl) ?_
  refine lv_iadd hx hb dX5_tells_14 ?_
  refine W.eq (g2 := F0 m 15 ls [.int (82 : Int32), .ref (md 1)]) rfl ?_
  refine lv_aload_n hx hb dX5_tells_15 rfl (lv_at hl 1 rfl) ?_
  refine va_get (D := D) (ci := 5) (v := .ref (md 1)) (C := RX5) (T := TX5) (N := 14) hx hb hts inX5 hown hK.1 hP 0 rfl rfl 0 (by decide) (hts (.fieldLink RX5 7 "GrayPointersModel" "all" "[I") (List.mem_of_getElem? (i := 1) rfl)) (fun _ h9 => h9) rfl dX5_tells_16 ?_
  refine lv_bipush (v := (79 : Int32)) hx hb dX5_tells_19 (by decide) ?_
  refine lv_iload_n hx hb dX5_tells_21 rfl (lv_at hl 0 rfl) ?_
  refine lv_iadd hx hb dX5_tells_22 ?_
  refine W.eq (g2 := F0 m 23 ls [.int (82 : Int32), .ref (md 1), .int (82 : Int32), .ref (md 1)]) rfl ?_
  refine lv_iconst (v := (1 : Int32)) hx hb dX5_tells_23 (by decide) ?_
  refine lv_isub hx hb dX5_tells_24 ?_
  refine W.eq (g2 := F0 m 25 ls [.int (81 : Int32), .ref (md 1), .int (82 : Int32), .ref (md 1)]) rfl ?_
  refine va_iald hx hb hK.1 hP 1 0 rfl rfl (i := (81 : Int32)) (vp_in_iff.mpr (by decide)) dX5_tells_25 ?_
  refine W.eq (g2 := F0 m 26 ls [.int ((M 1) 81), .int (82 : Int32), .ref (md 1)]) rfl ?_
  refine va_iast hx hb hK.1 hP hD hS 1 0 rfl rfl (i := (82 : Int32)) (x := ((M 1) 81)) (vp_in_iff.mpr (by decide)) dX5_tells_26 (fun H locs hP hD hS => ?_)
  have hP : va_P D vwCl [((md 0), mdC md (M 0)), ((md 1), arC cI 96 (upd (upd (upd (upd (upd (upd (upd (upd (upd (upd (upd (upd (upd (M 1) 94 ((M 1) 93)) 93 ((M 1) 92)) 92 ((M 1) 91)) 91 ((M 1) 90)) 90 ((M 1) 89)) 89 ((M 1) 88)) 88 ((M 1) 87)) 87 ((M 1) 86)) 86 ((M 1) 85)) 85 ((M 1) 84)) 84 ((M 1) 83)) 83 ((M 1) 82)) 82 ((M 1) 81))), ((md 2), arC cI 96 (M 2)), ((md 3), arC cI 96 (M 3)), ((md 4), arC cI 384 (M 4)), ((md 5), arC cI 96 (M 5)), ((md 6), arC cI 60 (M 6))] H := hP
  have hD : va_D A [((md 0), mdC md (M 0)), ((md 1), arC cI 96 (upd (upd (upd (upd (upd (upd (upd (upd (upd (upd (upd (upd (upd (M 1) 94 ((M 1) 93)) 93 ((M 1) 92)) 92 ((M 1) 91)) 91 ((M 1) 90)) 90 ((M 1) 89)) 89 ((M 1) 88)) 88 ((M 1) 87)) 87 ((M 1) 86)) 86 ((M 1) 85)) 85 ((M 1) 84)) 84 ((M 1) 83)) 83 ((M 1) 82)) 82 ((M 1) 81))), ((md 2), arC cI 96 (M 2)), ((md 3), arC cI 96 (M 3)), ((md 4), arC cI 384 (M 4)), ((md 5), arC cI 96 (M 5)), ((md 6), arC cI 60 (M 6))] := hD
  refine lv_iinc (v := (2 : Int32)) (lv' := [(3, .int (2 : Int32)), (0, .ref (md 0)), (1, .int a1), (2, .int a2)]) hx hb dX5_tells_27 hl (k := 0) rfl rfl (by decide) rfl (fun ls hl => ?_)
  refine lv_goto (tgt := 3) hx hb dX5_tells_30 (by decide) ?_
  refine lv_iload_n hx hb dX5_tells_3 rfl (lv_at hl 0 rfl) ?_
  refine lv_if_le (tgt := 33) hx hb dX5_tells_4 (by decide) (fun h9 => absurd h9 (by decide)) (fun _ => ?_)
  refine lv_aload_n hx hb dX5_tells_7 rfl (lv_at hl 1 rfl) ?_
  refine va_get (D := D) (ci := 5) (v := .ref (md 1)) (C := RX5) (T := TX5) (N := 14) hx hb hts inX5 hown hK.1 hP 0 rfl rfl 0 (by decide) (hts (.fieldLink RX5 7 "GrayPointersModel" "all" "[I") (List.mem_of_getElem? (i := 1) rfl)) (fun _ h9 => h9) rfl dX5_tells_8 ?_
  refine lv_bipush (v := (79 : Int32)) hx hb dX5_tells_11 (by decide) ?_
  refine lv_iload_n hx hb dX5_tells_13 rfl (lv_at hl 0 rfl) ?_
  refine lv_iadd hx hb dX5_tells_14 ?_
  refine W.eq (g2 := F0 m 15 ls [.int (81 : Int32), .ref (md 1)]) rfl ?_
  refine lv_aload_n hx hb dX5_tells_15 rfl (lv_at hl 1 rfl) ?_
  refine va_get (D := D) (ci := 5) (v := .ref (md 1)) (C := RX5) (T := TX5) (N := 14) hx hb hts inX5 hown hK.1 hP 0 rfl rfl 0 (by decide) (hts (.fieldLink RX5 7 "GrayPointersModel" "all" "[I") (List.mem_of_getElem? (i := 1) rfl)) (fun _ h9 => h9) rfl dX5_tells_16 ?_
  refine lv_bipush (v := (79 : Int32)) hx hb dX5_tells_19 (by decide) ?_
  refine lv_iload_n hx hb dX5_tells_21 rfl (lv_at hl 0 rfl) ?_
  refine lv_iadd hx hb dX5_tells_22 ?_
  refine W.eq (g2 := F0 m 23 ls [.int (81 : Int32), .ref (md 1), .int (81 : Int32), .ref (md 1)]) rfl ?_
  refine lv_iconst (v := (1 : Int32)) hx hb dX5_tells_23 (by decide) ?_
  refine lv_isub hx hb dX5_tells_24 ?_
  refine W.eq (g2 := F0 m 25 ls [.int (80 : Int32), .ref (md 1), .int (81 : Int32), .ref (md 1)]) rfl ?_
  refine va_iald hx hb hK.1 hP 1 0 rfl rfl (i := (80 : Int32)) (vp_in_iff.mpr (by decide)) dX5_tells_25 ?_
  refine W.eq (g2 := F0 m 26 ls [.int ((M 1) 80), .int (81 : Int32), .ref (md 1)]) rfl ?_
  refine va_iast hx hb hK.1 hP hD hS 1 0 rfl rfl (i := (81 : Int32)) (x := ((M 1) 80)) (vp_in_iff.mpr (by decide)) dX5_tells_26 (fun H locs hP hD hS => ?_)
  have hP : va_P D vwCl [((md 0), mdC md (M 0)), ((md 1), arC cI 96 (upd (upd (upd (upd (upd (upd (upd (upd (upd (upd (upd (upd (upd (upd (M 1) 94 ((M 1) 93)) 93 ((M 1) 92)) 92 ((M 1) 91)) 91 ((M 1) 90)) 90 ((M 1) 89)) 89 ((M 1) 88)) 88 ((M 1) 87)) 87 ((M 1) 86)) 86 ((M 1) 85)) 85 ((M 1) 84)) 84 ((M 1) 83)) 83 ((M 1) 82)) 82 ((M 1) 81)) 81 ((M 1) 80))), ((md 2), arC cI 96 (M 2)), ((md 3), arC cI 96 (M 3)), ((md 4), arC cI 384 (M 4)), ((md 5), arC cI 96 (M 5)), ((md 6), arC cI 60 (M 6))] H := hP
  have hD : va_D A [((md 0), mdC md (M 0)), ((md 1), arC cI 96 (upd (upd (upd (upd (upd (upd (upd (upd (upd (upd (upd (upd (upd (upd (M 1) 94 ((M 1) 93)) 93 ((M 1) 92)) 92 ((M 1) 91)) 91 ((M 1) 90)) 90 ((M 1) 89)) 89 ((M 1) 88)) 88 ((M 1) 87)) 87 ((M 1) 86)) 86 ((M 1) 85)) 85 ((M 1) 84)) 84 ((M 1) 83)) 83 ((M 1) 82)) 82 ((M 1) 81)) 81 ((M 1) 80))), ((md 2), arC cI 96 (M 2)), ((md 3), arC cI 96 (M 3)), ((md 4), arC cI 384 (M 4)), ((md 5), arC cI 96 (M 5)), ((md 6), arC cI 60 (M 6))] := hD
  refine lv_iinc (v := (1 : Int32)) (lv' := [(3, .int (1 : Int32)), (0, .ref (md 0)), (1, .int a1), (2, .int a2)]) hx hb dX5_tells_27 hl (k := 0) rfl rfl (by decide) rfl (fun ls hl => ?_)
  refine lv_goto (tgt := 3) hx hb dX5_tells_30 (by decide) ?_
  refine lv_iload_n hx hb dX5_tells_3 rfl (lv_at hl 0 rfl) ?_
  refine lv_if_le (tgt := 33) hx hb dX5_tells_4 (by decide) (fun h9 => absurd h9 (by decide)) (fun _ => ?_)
  refine lv_aload_n hx hb dX5_tells_7 rfl (lv_at hl 1 rfl) ?_
  refine va_get (D := D) (ci := 5) (v := .ref (md 1)) (C := RX5) (T := TX5) (N := 14) hx hb hts inX5 hown hK.1 hP 0 rfl rfl 0 (by decide) (hts (.fieldLink RX5 7 "GrayPointersModel" "all" "[I") (List.mem_of_getElem? (i := 1) rfl)) (fun _ h9 => h9) rfl dX5_tells_8 ?_
  refine lv_bipush (v := (79 : Int32)) hx hb dX5_tells_11 (by decide) ?_
  refine lv_iload_n hx hb dX5_tells_13 rfl (lv_at hl 0 rfl) ?_
  refine lv_iadd hx hb dX5_tells_14 ?_
  refine W.eq (g2 := F0 m 15 ls [.int (80 : Int32), .ref (md 1)]) rfl ?_
  refine lv_aload_n hx hb dX5_tells_15 rfl (lv_at hl 1 rfl) ?_
  refine va_get (D := D) (ci := 5) (v := .ref (md 1)) (C := RX5) (T := TX5) (N := 14) hx hb hts inX5 hown hK.1 hP 0 rfl rfl 0 (by decide) (hts (.fieldLink RX5 7 "GrayPointersModel" "all" "[I") (List.mem_of_getElem? (i := 1) rfl)) (fun _ h9 => h9) rfl dX5_tells_16 ?_
  refine lv_bipush (v := (79 : Int32)) hx hb dX5_tells_19 (by decide) ?_
  refine lv_iload_n hx hb dX5_tells_21 rfl (lv_at hl 0 rfl) ?_
  refine lv_iadd hx hb dX5_tells_22 ?_
  refine W.eq (g2 := F0 m 23 ls [.int (80 : Int32), .ref (md 1), .int (80 : Int32), .ref (md 1)]) rfl ?_
  refine lv_iconst (v := (1 : Int32)) hx hb dX5_tells_23 (by decide) ?_
  refine lv_isub hx hb dX5_tells_24 ?_
  refine W.eq (g2 := F0 m 25 ls [.int (79 : Int32), .ref (md 1), .int (80 : Int32), .ref (md 1)]) rfl ?_
  refine va_iald hx hb hK.1 hP 1 0 rfl rfl (i := (79 : Int32)) (vp_in_iff.mpr (by decide)) dX5_tells_25 ?_
  refine W.eq (g2 := F0 m 26 ls [.int ((M 1) 79), .int (80 : Int32), .ref (md 1)]) rfl ?_
  refine va_iast hx hb hK.1 hP hD hS 1 0 rfl rfl (i := (80 : Int32)) (x := ((M 1) 79)) (vp_in_iff.mpr (by decide)) dX5_tells_26 (fun H locs hP hD hS => ?_)
  have hP : va_P D vwCl [((md 0), mdC md (M 0)), ((md 1), arC cI 96 (upd (upd (upd (upd (upd (upd (upd (upd (upd (upd (upd (upd (upd (upd (upd (M 1) 94 ((M 1) 93)) 93 ((M 1) 92)) 92 ((M 1) 91)) 91 ((M 1) 90)) 90 ((M 1) 89)) 89 ((M 1) 88)) 88 ((M 1) 87)) 87 ((M 1) 86)) 86 ((M 1) 85)) 85 ((M 1) 84)) 84 ((M 1) 83)) 83 ((M 1) 82)) 82 ((M 1) 81)) 81 ((M 1) 80)) 80 ((M 1) 79))), ((md 2), arC cI 96 (M 2)), ((md 3), arC cI 96 (M 3)), ((md 4), arC cI 384 (M 4)), ((md 5), arC cI 96 (M 5)), ((md 6), arC cI 60 (M 6))] H := hP
  have hD : va_D A [((md 0), mdC md (M 0)), ((md 1), arC cI 96 (upd (upd (upd (upd (upd (upd (upd (upd (upd (upd (upd (upd (upd (upd (upd (M 1) 94 ((M 1) 93)) 93 ((M 1) 92)) 92 ((M 1) 91)) 91 ((M 1) 90)) 90 ((M 1) 89)) 89 ((M 1) 88)) 88 ((M 1) 87)) 87 ((M 1) 86)) 86 ((M 1) 85)) 85 ((M 1) 84)) 84 ((M 1) 83)) 83 ((M 1) 82)) 82 ((M 1) 81)) 81 ((M 1) 80)) 80 ((M 1) 79))), ((md 2), arC cI 96 (M 2)), ((md 3), arC cI 96 (M 3)), ((md 4), arC cI 384 (M 4)), ((md 5), arC cI 96 (M 5)), ((md 6), arC cI 60 (M 6))] := hD
  refine lv_iinc (v := (0 : Int32)) (lv' := [(3, .int (0 : Int32)), (0, .ref (md 0)), (1, .int a1), (2, .int a2)]) hx hb dX5_tells_27 hl (k := 0) rfl rfl (by decide) rfl (fun ls hl => ?_)
  refine lv_goto (tgt := 3) hx hb dX5_tells_30 (by decide) ?_
  refine lv_iload_n hx hb dX5_tells_3 rfl (lv_at hl 0 rfl) ?_
  refine lv_if_le (tgt := 33) hx hb dX5_tells_4 (by decide) (fun _ => ?_) (fun h9 => absurd h9 (by decide))
  refine lv_aload_n hx hb dX5_tells_33 rfl (lv_at hl 1 rfl) ?_
  refine va_get (D := D) (ci := 5) (v := .ref (md 1)) (C := RX5) (T := TX5) (N := 14) hx hb hts inX5 hown hK.1 hP 0 rfl rfl 0 (by decide) (hts (.fieldLink RX5 7 "GrayPointersModel" "all" "[I") (List.mem_of_getElem? (i := 1) rfl)) (fun _ h9 => h9) rfl dX5_tells_34 ?_
  refine lv_bipush (v := (79 : Int32)) hx hb dX5_tells_37 (by decide) ?_
  refine lv_iload_n hx hb dX5_tells_39 rfl (lv_at hl 3 rfl) ?_
  have J_51 : ∀ (x51_s0 : Int32) (M51 : CS) (H : Heap) (locs : List Loc), x51_s0 = (if a2 = (0 : Int32) then ((fun (z_1 : CS) => (a1 + (100 : Int32))) (va_up M 1 (upd (upd (upd (upd (upd (upd (upd (upd (upd (upd (upd (upd (upd (upd (upd (M 1) 94 ((M 1) 93)) 93 ((M 1) 92)) 92 ((M 1) 91)) 91 ((M 1) 90)) 90 ((M 1) 89)) 89 ((M 1) 88)) 88 ((M 1) 87)) 87 ((M 1) 86)) 86 ((M 1) 85)) 85 ((M 1) 84)) 84 ((M 1) 83)) 83 ((M 1) 82)) 82 ((M 1) 81)) 81 ((M 1) 80)) 80 ((M 1) 79)))) else ((fun (z_2 : CS) => a1) (va_up M 1 (upd (upd (upd (upd (upd (upd (upd (upd (upd (upd (upd (upd (upd (upd (upd (M 1) 94 ((M 1) 93)) 93 ((M 1) 92)) 92 ((M 1) 91)) 91 ((M 1) 90)) 90 ((M 1) 89)) 89 ((M 1) 88)) 88 ((M 1) 87)) 87 ((M 1) 86)) 86 ((M 1) 85)) 85 ((M 1) 84)) 84 ((M 1) 83)) 83 ((M 1) 82)) 82 ((M 1) 81)) 81 ((M 1) 80)) 80 ((M 1) 79))))) → M51 = (if a2 = (0 : Int32) then ((fun (z_1 : CS) => z_1) (va_up M 1 (upd (upd (upd (upd (upd (upd (upd (upd (upd (upd (upd (upd (upd (upd (upd (M 1) 94 ((M 1) 93)) 93 ((M 1) 92)) 92 ((M 1) 91)) 91 ((M 1) 90)) 90 ((M 1) 89)) 89 ((M 1) 88)) 88 ((M 1) 87)) 87 ((M 1) 86)) 86 ((M 1) 85)) 85 ((M 1) 84)) 84 ((M 1) 83)) 83 ((M 1) 82)) 82 ((M 1) 81)) 81 ((M 1) 80)) 80 ((M 1) 79)))) else ((fun (z_2 : CS) => z_2) (va_up M 1 (upd (upd (upd (upd (upd (upd (upd (upd (upd (upd (upd (upd (upd (upd (upd (M 1) 94 ((M 1) 93)) 93 ((M 1) 92)) 92 ((M 1) 91)) 91 ((M 1) 90)) 90 ((M 1) 89)) 89 ((M 1) 88)) 88 ((M 1) 87)) 87 ((M 1) 86)) 86 ((M 1) 85)) 85 ((M 1) 84)) 84 ((M 1) 83)) 83 ((M 1) 82)) 82 ((M 1) 81)) 81 ((M 1) 80)) 80 ((M 1) 79))))) → va_P D vwCl [((md 0), mdC md (M51 0)), ((md 1), arC cI 96 (M51 1)), ((md 2), arC cI 96 (M51 2)), ((md 3), arC cI 96 (M51 3)), ((md 4), arC cI 384 (M51 4)), ((md 5), arC cI 96 (M51 5)), ((md 6), arC cI 60 (M51 6))] H → va_D A [((md 0), mdC md (M51 0)), ((md 1), arC cI 96 (M51 1)), ((md 2), arC cI 96 (M51 2)), ((md 3), arC cI 96 (M51 3)), ((md 4), arC cI 384 (M51 4)), ((md 5), arC cI 96 (M51 5)), ((md 6), arC cI 60 (M51 6))] → va_S A s.heap H locs → ∀ ls, lv_has ls 4 [(0, .ref (md 0))] → W p l e rm_X5_tells s m args below meth c H locs 0 0 (MQ below (QV D (mdW cI md (p_X5_tells M a1 a2)) A) args s 0 0 A) (F0 m 51 ls [.int x51_s0, .int (79 : Int32), .ref (md 1)]) := by
    intro x51_s0 M51 H locs ex51_s0 eM51 hP hD hS ls hl
    have hp : (p_X5_tells M a1 a2) = (if (16 : Int32) ≤ ((M51 1) 10) then ((fun (z_3 : CS) => z_3) (va_up M51 1 (upd (upd (M51 1) 79 x51_s0) 10 (((M51 1) 10) + (0 : Int32))))) else ((fun (z_4 : CS) => z_4) (va_up M51 1 (upd (upd (M51 1) 79 x51_s0) 10 (((M51 1) 10) + (1 : Int32)))))) := by subst eM51 ex51_s0; exact hp
    refine va_iast hx hb hK.1 hP hD hS 1 0 rfl rfl (i := (79 : Int32)) (x := x51_s0) (vp_in_iff.mpr (by decide)) dX5_tells_51 (fun H locs hP hD hS => ?_)
    have hP : va_P D vwCl [((md 0), mdC md (M51 0)), ((md 1), arC cI 96 (upd (M51 1) 79 x51_s0)), ((md 2), arC cI 96 (M51 2)), ((md 3), arC cI 96 (M51 3)), ((md 4), arC cI 384 (M51 4)), ((md 5), arC cI 96 (M51 5)), ((md 6), arC cI 60 (M51 6))] H := hP
    have hD : va_D A [((md 0), mdC md (M51 0)), ((md 1), arC cI 96 (upd (M51 1) 79 x51_s0)), ((md 2), arC cI 96 (M51 2)), ((md 3), arC cI 96 (M51 3)), ((md 4), arC cI 384 (M51 4)), ((md 5), arC cI 96 (M51 5)), ((md 6), arC cI 60 (M51 6))] := hD
    refine lv_aload_n hx hb dX5_tells_52 rfl (lv_at hl 0 rfl) ?_
    refine va_get (D := D) (ci := 5) (v := .ref (md 1)) (C := RX5) (T := TX5) (N := 14) hx hb hts inX5 hown hK.1 hP 0 rfl rfl 0 (by decide) (hts (.fieldLink RX5 7 "GrayPointersModel" "all" "[I") (List.mem_of_getElem? (i := 1) rfl)) (fun _ h9 => h9) rfl dX5_tells_53 ?_
    refine lv_bipush (v := (10 : Int32)) hx hb dX5_tells_56 (by decide) ?_
    refine lv_dup2_11 hx hb dX5_tells_58 rfl rfl ?_
    refine va_iald hx hb hK.1 hP 1 0 rfl rfl (i := (10 : Int32)) (vp_in_iff.mpr (by decide)) dX5_tells_59 ?_
    refine W.eq (g2 := F0 m 60 ls [.int ((M51 1) 10), .int (10 : Int32), .ref (md 1)]) rfl ?_
    refine lv_aload_n hx hb dX5_tells_60 rfl (lv_at hl 0 rfl) ?_
    refine va_get (D := D) (ci := 5) (v := .ref (md 1)) (C := RX5) (T := TX5) (N := 14) hx hb hts inX5 hown hK.1 hP 0 rfl rfl 0 (by decide) (hts (.fieldLink RX5 7 "GrayPointersModel" "all" "[I") (List.mem_of_getElem? (i := 1) rfl)) (fun _ h9 => h9) rfl dX5_tells_61 ?_
    refine lv_bipush (v := (10 : Int32)) hx hb dX5_tells_64 (by decide) ?_
    refine va_iald hx hb hK.1 hP 1 0 rfl rfl (i := (10 : Int32)) (vp_in_iff.mpr (by decide)) dX5_tells_66 ?_
    refine W.eq (g2 := F0 m 67 ls [.int ((M51 1) 10), .int ((M51 1) 10), .int (10 : Int32), .ref (md 1)]) rfl ?_
    refine lv_bipush (v := (16 : Int32)) hx hb dX5_tells_67 (by decide) ?_
    refine lv_icmp_ge (tgt := 76) hx hb dX5_tells_69 (by decide) (fun c69 => ?_) (fun c69 => ?_)
    · have hp := hp.trans (if_pos c69)
      refine lv_iconst (v := (0 : Int32)) hx hb dX5_tells_76 (by decide) ?_
      refine lv_iadd hx hb dX5_tells_77 ?_
      refine va_iast hx hb hK.1 hP hD hS 1 0 rfl rfl (i := (10 : Int32)) (x := (((M51 1) 10) + (0 : Int32))) (vp_in_iff.mpr (by decide)) dX5_tells_78 (fun H locs hP hD hS => ?_)
      have hP : va_P D vwCl [((md 0), mdC md (M51 0)), ((md 1), arC cI 96 (upd (upd (M51 1) 79 x51_s0) 10 (((M51 1) 10) + (0 : Int32)))), ((md 2), arC cI 96 (M51 2)), ((md 3), arC cI 96 (M51 3)), ((md 4), arC cI 384 (M51 4)), ((md 5), arC cI 96 (M51 5)), ((md 6), arC cI 60 (M51 6))] H := hP
      have hD : va_D A [((md 0), mdC md (M51 0)), ((md 1), arC cI 96 (upd (upd (M51 1) 79 x51_s0) 10 (((M51 1) 10) + (0 : Int32)))), ((md 2), arC cI 96 (M51 2)), ((md 3), arC cI 96 (M51 3)), ((md 4), arC cI 384 (M51 4)), ((md 5), arC cI 96 (M51 5)), ((md 6), arC cI 60 (M51 6))] := hD
      obtain ⟨z_3, hz_3⟩ : ∃ z : CS, z = (va_up M51 1 (upd (upd (M51 1) 79 x51_s0) 10 (((M51 1) 10) + (0 : Int32)))) := ⟨_, rfl⟩
      have e0 : (z_3 0) = (M51 0) := (congrFun hz_3 0).trans (va_up_n (by decide))
      have e1 : (z_3 1) = (upd (upd (M51 1) 79 x51_s0) 10 (((M51 1) 10) + (0 : Int32))) := (congrFun hz_3 1).trans va_up_s
      have e2 : (z_3 2) = (M51 2) := (congrFun hz_3 2).trans (va_up_n (by decide))
      have e3 : (z_3 3) = (M51 3) := (congrFun hz_3 3).trans (va_up_n (by decide))
      have e4 : (z_3 4) = (M51 4) := (congrFun hz_3 4).trans (va_up_n (by decide))
      have e5 : (z_3 5) = (M51 5) := (congrFun hz_3 5).trans (va_up_n (by decide))
      have e6 : (z_3 6) = (M51 6) := (congrFun hz_3 6).trans (va_up_n (by decide))
      have hP : va_P D vwCl [((md 0), mdC md (z_3 0)), ((md 1), arC cI 96 (z_3 1)), ((md 2), arC cI 96 (z_3 2)), ((md 3), arC cI 96 (z_3 3)), ((md 4), arC cI 384 (z_3 4)), ((md 5), arC cI 96 (z_3 5)), ((md 6), arC cI 60 (z_3 6))] H := by rw [e0, e1, e2, e3, e4, e5, e6]; exact hP
      have hD : va_D A [((md 0), mdC md (z_3 0)), ((md 1), arC cI 96 (z_3 1)), ((md 2), arC cI 96 (z_3 2)), ((md 3), arC cI 96 (z_3 3)), ((md 4), arC cI 384 (z_3 4)), ((md 5), arC cI 96 (z_3 5)), ((md 6), arC cI 60 (z_3 6))] := by rw [e0, e1, e2, e3, e4, e5, e6]; exact hD
      clear e0 e1 e2 e3 e4 e5 e6
      have hp : (p_X5_tells M a1 a2) = z_3 := by subst hz_3; exact hp
      exact endV hb hx hsg (by rw [hp]; exact hP) (by rw [hp]; exact hD) hS dX5_tells_79 hlocks
    · have hp := hp.trans (if_neg c69)
      refine lv_iconst (v := (1 : Int32)) hx hb dX5_tells_72 (by decide) ?_
      refine lv_goto (tgt := 77) hx hb dX5_tells_73 (by decide) ?_
      refine lv_iadd hx hb dX5_tells_77 ?_
      refine va_iast hx hb hK.1 hP hD hS 1 0 rfl rfl (i := (10 : Int32)) (x := (((M51 1) 10) + (1 : Int32))) (vp_in_iff.mpr (by decide)) dX5_tells_78 (fun H locs hP hD hS => ?_)
      have hP : va_P D vwCl [((md 0), mdC md (M51 0)), ((md 1), arC cI 96 (upd (upd (M51 1) 79 x51_s0) 10 (((M51 1) 10) + (1 : Int32)))), ((md 2), arC cI 96 (M51 2)), ((md 3), arC cI 96 (M51 3)), ((md 4), arC cI 384 (M51 4)), ((md 5), arC cI 96 (M51 5)), ((md 6), arC cI 60 (M51 6))] H := hP
      have hD : va_D A [((md 0), mdC md (M51 0)), ((md 1), arC cI 96 (upd (upd (M51 1) 79 x51_s0) 10 (((M51 1) 10) + (1 : Int32)))), ((md 2), arC cI 96 (M51 2)), ((md 3), arC cI 96 (M51 3)), ((md 4), arC cI 384 (M51 4)), ((md 5), arC cI 96 (M51 5)), ((md 6), arC cI 60 (M51 6))] := hD
      obtain ⟨z_4, hz_4⟩ : ∃ z : CS, z = (va_up M51 1 (upd (upd (M51 1) 79 x51_s0) 10 (((M51 1) 10) + (1 : Int32)))) := ⟨_, rfl⟩
      have e0 : (z_4 0) = (M51 0) := (congrFun hz_4 0).trans (va_up_n (by decide))
      have e1 : (z_4 1) = (upd (upd (M51 1) 79 x51_s0) 10 (((M51 1) 10) + (1 : Int32))) := (congrFun hz_4 1).trans va_up_s
      have e2 : (z_4 2) = (M51 2) := (congrFun hz_4 2).trans (va_up_n (by decide))
      have e3 : (z_4 3) = (M51 3) := (congrFun hz_4 3).trans (va_up_n (by decide))
      have e4 : (z_4 4) = (M51 4) := (congrFun hz_4 4).trans (va_up_n (by decide))
      have e5 : (z_4 5) = (M51 5) := (congrFun hz_4 5).trans (va_up_n (by decide))
      have e6 : (z_4 6) = (M51 6) := (congrFun hz_4 6).trans (va_up_n (by decide))
      have hP : va_P D vwCl [((md 0), mdC md (z_4 0)), ((md 1), arC cI 96 (z_4 1)), ((md 2), arC cI 96 (z_4 2)), ((md 3), arC cI 96 (z_4 3)), ((md 4), arC cI 384 (z_4 4)), ((md 5), arC cI 96 (z_4 5)), ((md 6), arC cI 60 (z_4 6))] H := by rw [e0, e1, e2, e3, e4, e5, e6]; exact hP
      have hD : va_D A [((md 0), mdC md (z_4 0)), ((md 1), arC cI 96 (z_4 1)), ((md 2), arC cI 96 (z_4 2)), ((md 3), arC cI 96 (z_4 3)), ((md 4), arC cI 384 (z_4 4)), ((md 5), arC cI 96 (z_4 5)), ((md 6), arC cI 60 (z_4 6))] := by rw [e0, e1, e2, e3, e4, e5, e6]; exact hD
      clear e0 e1 e2 e3 e4 e5 e6
      have hp : (p_X5_tells M a1 a2) = z_4 := by subst hz_4; exact hp
      exact endV hb hx hsg (by rw [hp]; exact hP) (by rw [hp]; exact hD) hS dX5_tells_79 hlocks
  refine lv_if_eq (tgt := 47) hx hb dX5_tells_40 (by decide) (fun c40 => ?_) (fun c40 => ?_)
  · refine lv_iload_n hx hb dX5_tells_47 rfl (lv_at hl 2 rfl) ?_
    refine lv_bipush (v := (100 : Int32)) hx hb dX5_tells_48 (by decide) ?_
    refine lv_iadd hx hb dX5_tells_50 ?_
    obtain ⟨z_1, hz_1⟩ : ∃ z : CS, z = (va_up M 1 (upd (upd (upd (upd (upd (upd (upd (upd (upd (upd (upd (upd (upd (upd (upd (M 1) 94 ((M 1) 93)) 93 ((M 1) 92)) 92 ((M 1) 91)) 91 ((M 1) 90)) 90 ((M 1) 89)) 89 ((M 1) 88)) 88 ((M 1) 87)) 87 ((M 1) 86)) 86 ((M 1) 85)) 85 ((M 1) 84)) 84 ((M 1) 83)) 83 ((M 1) 82)) 82 ((M 1) 81)) 81 ((M 1) 80)) 80 ((M 1) 79))) := ⟨_, rfl⟩
    have e0 : (z_1 0) = (M 0) := (congrFun hz_1 0).trans (va_up_n (by decide))
    have e1 : (z_1 1) = (upd (upd (upd (upd (upd (upd (upd (upd (upd (upd (upd (upd (upd (upd (upd (M 1) 94 ((M 1) 93)) 93 ((M 1) 92)) 92 ((M 1) 91)) 91 ((M 1) 90)) 90 ((M 1) 89)) 89 ((M 1) 88)) 88 ((M 1) 87)) 87 ((M 1) 86)) 86 ((M 1) 85)) 85 ((M 1) 84)) 84 ((M 1) 83)) 83 ((M 1) 82)) 82 ((M 1) 81)) 81 ((M 1) 80)) 80 ((M 1) 79)) := (congrFun hz_1 1).trans va_up_s
    have e2 : (z_1 2) = (M 2) := (congrFun hz_1 2).trans (va_up_n (by decide))
    have e3 : (z_1 3) = (M 3) := (congrFun hz_1 3).trans (va_up_n (by decide))
    have e4 : (z_1 4) = (M 4) := (congrFun hz_1 4).trans (va_up_n (by decide))
    have e5 : (z_1 5) = (M 5) := (congrFun hz_1 5).trans (va_up_n (by decide))
    have e6 : (z_1 6) = (M 6) := (congrFun hz_1 6).trans (va_up_n (by decide))
    have hP : va_P D vwCl [((md 0), mdC md (z_1 0)), ((md 1), arC cI 96 (z_1 1)), ((md 2), arC cI 96 (z_1 2)), ((md 3), arC cI 96 (z_1 3)), ((md 4), arC cI 384 (z_1 4)), ((md 5), arC cI 96 (z_1 5)), ((md 6), arC cI 60 (z_1 6))] H := by rw [e0, e1, e2, e3, e4, e5, e6]; exact hP
    have hD : va_D A [((md 0), mdC md (z_1 0)), ((md 1), arC cI 96 (z_1 1)), ((md 2), arC cI 96 (z_1 2)), ((md 3), arC cI 96 (z_1 3)), ((md 4), arC cI 384 (z_1 4)), ((md 5), arC cI 96 (z_1 5)), ((md 6), arC cI 60 (z_1 6))] := by rw [e0, e1, e2, e3, e4, e5, e6]; exact hD
    clear e0 e1 e2 e3 e4 e5 e6
    exact J_51 (a1 + (100 : Int32)) z_1 _ _ (by subst hz_1; exact (if_pos c40).symm) (by subst hz_1; exact (if_pos c40).symm) hP hD hS ls (lv_sub hl [1] rfl)
  · refine lv_iload_n hx hb dX5_tells_43 rfl (lv_at hl 2 rfl) ?_
    refine lv_goto (tgt := 51) hx hb dX5_tells_44 (by decide) ?_
    obtain ⟨z_2, hz_2⟩ : ∃ z : CS, z = (va_up M 1 (upd (upd (upd (upd (upd (upd (upd (upd (upd (upd (upd (upd (upd (upd (upd (M 1) 94 ((M 1) 93)) 93 ((M 1) 92)) 92 ((M 1) 91)) 91 ((M 1) 90)) 90 ((M 1) 89)) 89 ((M 1) 88)) 88 ((M 1) 87)) 87 ((M 1) 86)) 86 ((M 1) 85)) 85 ((M 1) 84)) 84 ((M 1) 83)) 83 ((M 1) 82)) 82 ((M 1) 81)) 81 ((M 1) 80)) 80 ((M 1) 79))) := ⟨_, rfl⟩
    have e0 : (z_2 0) = (M 0) := (congrFun hz_2 0).trans (va_up_n (by decide))
    have e1 : (z_2 1) = (upd (upd (upd (upd (upd (upd (upd (upd (upd (upd (upd (upd (upd (upd (upd (M 1) 94 ((M 1) 93)) 93 ((M 1) 92)) 92 ((M 1) 91)) 91 ((M 1) 90)) 90 ((M 1) 89)) 89 ((M 1) 88)) 88 ((M 1) 87)) 87 ((M 1) 86)) 86 ((M 1) 85)) 85 ((M 1) 84)) 84 ((M 1) 83)) 83 ((M 1) 82)) 82 ((M 1) 81)) 81 ((M 1) 80)) 80 ((M 1) 79)) := (congrFun hz_2 1).trans va_up_s
    have e2 : (z_2 2) = (M 2) := (congrFun hz_2 2).trans (va_up_n (by decide))
    have e3 : (z_2 3) = (M 3) := (congrFun hz_2 3).trans (va_up_n (by decide))
    have e4 : (z_2 4) = (M 4) := (congrFun hz_2 4).trans (va_up_n (by decide))
    have e5 : (z_2 5) = (M 5) := (congrFun hz_2 5).trans (va_up_n (by decide))
    have e6 : (z_2 6) = (M 6) := (congrFun hz_2 6).trans (va_up_n (by decide))
    have hP : va_P D vwCl [((md 0), mdC md (z_2 0)), ((md 1), arC cI 96 (z_2 1)), ((md 2), arC cI 96 (z_2 2)), ((md 3), arC cI 96 (z_2 3)), ((md 4), arC cI 384 (z_2 4)), ((md 5), arC cI 96 (z_2 5)), ((md 6), arC cI 60 (z_2 6))] H := by rw [e0, e1, e2, e3, e4, e5, e6]; exact hP
    have hD : va_D A [((md 0), mdC md (z_2 0)), ((md 1), arC cI 96 (z_2 1)), ((md 2), arC cI 96 (z_2 2)), ((md 3), arC cI 96 (z_2 3)), ((md 4), arC cI 384 (z_2 4)), ((md 5), arC cI 96 (z_2 5)), ((md 6), arC cI 60 (z_2 6))] := by rw [e0, e1, e2, e3, e4, e5, e6]; exact hD
    clear e0 e1 e2 e3 e4 e5 e6
    exact J_51 a1 z_2 _ _ (by subst hz_2; exact (if_neg c40).symm) (by subst hz_2; exact (if_neg c40).symm) hP hD hS ls (lv_sub hl [1] rfl)
def r_X5_isAlmost (M : CS) (a1 : Int32) : Int32 := (if a1 = (0 : Int32) then (if (r_X5_fillSeen M (0 : Int32)) < ((r_X5_depth M) - ((M 1) 3)) then (0 : Int32) else (1 : Int32)) else (if ((M 1) 4) < (r_X5_fillSeen M (1 : Int32)) then (0 : Int32) else (1 : Int32)))
abbrev rm_X5_isAlmost : Room := { frames := 3, cells := 0, slots := 0, locals := 66 }
set_option maxHeartbeats 4000000 in
set_option maxRecDepth 100000 in
theorem c_X5_isAlmost (l : Launch) (D : va_G) (cI cC cS : ClassId) (md : Nat → Nat) (M : CS) (a1 : Int32)  : CI l D cI cC cS yX5_isAlmost wsX5_isAlmost rm_X5_isAlmost [.ref (md 0), .int a1] (mdW cI md M) (mdW cI md M) (r_X5_isAlmost M a1) := by
  intro sz
  refine startC (cc := cX5_isAlmost) (maxL := 2) (ret := (some .boolean)) (by decide) rfl (Nat.le_of_ble_eq_true rfl) ?_
  intro p e s m args below meth c hx hb hml hsg hts hown hlocks hin hK A hA hS hP hD ls hl
  have hown : s.vm.findClass RX5 = some m.cls := hown
  have hl : lv_has ls 2 [(0, .ref (md 0)), (1, .int a1)] := hl
  have hP : va_P D vwCl [((md 0), mdC md (M 0)), ((md 1), arC cI 96 (M 1)), ((md 2), arC cI 96 (M 2)), ((md 3), arC cI 96 (M 3)), ((md 4), arC cI 384 (M 4)), ((md 5), arC cI 96 (M 5)), ((md 6), arC cI 60 (M 6))] s.heap := hP
  have hD : va_D A [((md 0), mdC md (M 0)), ((md 1), arC cI 96 (M 1)), ((md 2), arC cI 96 (M 2)), ((md 3), arC cI 96 (M 3)), ((md 4), arC cI 384 (M 4)), ((md 5), arC cI 96 (M 5)), ((md 6), arC cI 60 (M 6))] := hD
  have inX5 : ∀ w ∈ wsX50, w ∈ wsX5_isAlmost := fun _ h => List.mem_cons_of_mem _ (List.mem_append_right _ h)
  have hr : (r_X5_isAlmost M a1) = (if a1 = (0 : Int32) then (if (r_X5_fillSeen M (0 : Int32)) < ((r_X5_depth M) - ((M 1) 3)) then (0 : Int32) else (1 : Int32)) else (if ((M 1) 4) < (r_X5_fillSeen M (1 : Int32)) then (0 : Int32) else (1 : Int32))) := rfl
  refine lv_iload_n hx hb dX5_isAlmost_0 rfl (lv_at hl 1 rfl) ?_
  refine lv_if_ne (tgt := 31) hx hb dX5_isAlmost_1 (by decide) (fun c1 => ?_) (fun c1 => ?_)
  · have hr := hr.trans (if_neg c1)
    refine lv_aload_n hx hb dX5_isAlmost_31 rfl (lv_at hl 0 rfl) ?_
    refine lv_iconst (v := (1 : Int32)) hx hb dX5_isAlmost_32 (by decide) ?_
    refine goI (n := 7) (ws' := [((md 0), mdC md (M 0)), ((md 1), arC cI 96 (M 1)), ((md 2), arC cI 96 (M 2)), ((md 3), arC cI 96 (M 3)), ((md 4), arC cI 384 (M 4)), ((md 5), arC cI 96 (M 5)), ((md 6), arC cI 60 (M 6))]) (rs := []) (va_runV (As := [.int (1 : Int32)]) (rest := []) ⟨hx, hb, hml, hown, hts⟩ (c_X5_fillSeen l D cI cC cS md M (1 : Int32)  _) (cwV 1 hts gX5_isAlmost_X5_fillSeen rfl rfl rfl (by decide +kernel) ⟨Nat.le_of_ble_eq_true rfl, Nat.le_of_ble_eq_true rfl⟩) (preV hK hP hD [0, 1, 2, 3, 4, 5, 6] (by decide) rfl 0 5 rfl rfl) rfl rfl hl.1 rfl (lv_room (Nat.le_of_ble_eq_true rfl)) dX5_isAlmost_33 ⟨Nat.zero_le _, Nat.zero_le _⟩) hP hD hS hA [0, 1, 2, 3, 4, 5, 6] [] rfl rfl rfl rfl rfl (by decide +kernel) rfl (fun H locs hP hD hS => ?_)
    refine lv_aload_n hx hb dX5_isAlmost_36 rfl (lv_at hl 0 rfl) ?_
    refine va_get (D := D) (ci := 5) (v := .ref (md 1)) (C := RX5) (T := TX5) (N := 14) hx hb hts inX5 hown hK.1 hP 0 rfl rfl 0 (by decide) (hts (.fieldLink RX5 7 "GrayPointersModel" "all" "[I") (List.mem_of_getElem? (i := 1) rfl)) (fun _ h9 => h9) rfl dX5_isAlmost_37 ?_
    refine lv_iconst (v := (4 : Int32)) hx hb dX5_isAlmost_40 (by decide) ?_
    refine va_iald hx hb hK.1 hP 1 0 rfl rfl (i := (4 : Int32)) (vp_in_iff.mpr (by decide)) dX5_isAlmost_41 ?_
    refine W.eq (g2 := F0 m 42 ls [.int ((M 1) 4), .int (r_X5_fillSeen M (1 : Int32))]) rfl ?_
    refine lv_icmp_gt (tgt := 49) hx hb dX5_isAlmost_42 (by decide) (fun c42 => ?_) (fun c42 => ?_)
    · have hr := hr.trans (if_pos c42)
      refine lv_iconst (v := (0 : Int32)) hx hb dX5_isAlmost_49 (by decide) ?_
      exact endZ (v := (0 : Int32)) hb hx hsg rfl hr.symm hP hD hS dX5_isAlmost_50 hlocks
    · have hr := hr.trans (if_neg c42)
      refine lv_iconst (v := (1 : Int32)) hx hb dX5_isAlmost_45 (by decide) ?_
      refine lv_goto (tgt := 50) hx hb dX5_isAlmost_46 (by decide) ?_
      exact endZ (v := (1 : Int32)) hb hx hsg rfl hr.symm hP hD hS dX5_isAlmost_50 hlocks
  · have hr := hr.trans (if_pos c1)
    refine lv_aload_n hx hb dX5_isAlmost_4 rfl (lv_at hl 0 rfl) ?_
    refine lv_iconst (v := (0 : Int32)) hx hb dX5_isAlmost_5 (by decide) ?_
    refine goI (n := 7) (ws' := [((md 0), mdC md (M 0)), ((md 1), arC cI 96 (M 1)), ((md 2), arC cI 96 (M 2)), ((md 3), arC cI 96 (M 3)), ((md 4), arC cI 384 (M 4)), ((md 5), arC cI 96 (M 5)), ((md 6), arC cI 60 (M 6))]) (rs := []) (va_runV (As := [.int (0 : Int32)]) (rest := []) ⟨hx, hb, hml, hown, hts⟩ (c_X5_fillSeen l D cI cC cS md M (0 : Int32)  _) (cwV 1 hts gX5_isAlmost_X5_fillSeen rfl rfl rfl (by decide +kernel) ⟨Nat.le_of_ble_eq_true rfl, Nat.le_of_ble_eq_true rfl⟩) (preV hK hP hD [0, 1, 2, 3, 4, 5, 6] (by decide) rfl 0 5 rfl rfl) rfl rfl hl.1 rfl (lv_room (Nat.le_of_ble_eq_true rfl)) dX5_isAlmost_6 ⟨Nat.zero_le _, Nat.zero_le _⟩) hP hD hS hA [0, 1, 2, 3, 4, 5, 6] [] rfl rfl rfl rfl rfl (by decide +kernel) rfl (fun H locs hP hD hS => ?_)
    refine lv_aload_n hx hb dX5_isAlmost_9 rfl (lv_at hl 0 rfl) ?_
    refine goI (n := 7) (ws' := [((md 0), mdC md (M 0)), ((md 1), arC cI 96 (M 1)), ((md 2), arC cI 96 (M 2)), ((md 3), arC cI 96 (M 3)), ((md 4), arC cI 384 (M 4)), ((md 5), arC cI 96 (M 5)), ((md 6), arC cI 60 (M 6))]) (rs := []) (va_runV (As := []) (rest := [.int (r_X5_fillSeen M (0 : Int32))]) ⟨hx, hb, hml, hown, hts⟩ (c_X5_depth l D cI cC cS md M  _) (cwV 0 hts gX5_isAlmost_X5_depth rfl rfl rfl (by decide +kernel) ⟨Nat.le_of_ble_eq_true rfl, Nat.le_of_ble_eq_true rfl⟩) (preV hK hP hD [0, 1, 2, 3, 4, 5, 6] (by decide) rfl 0 5 rfl rfl) rfl rfl hl.1 rfl (lv_room (Nat.le_of_ble_eq_true rfl)) dX5_isAlmost_10 ⟨Nat.zero_le _, Nat.zero_le _⟩) hP hD hS hA [0, 1, 2, 3, 4, 5, 6] [] rfl rfl rfl rfl rfl (by decide +kernel) rfl (fun H locs hP hD hS => ?_)
    refine lv_aload_n hx hb dX5_isAlmost_13 rfl (lv_at hl 0 rfl) ?_
    refine va_get (D := D) (ci := 5) (v := .ref (md 1)) (C := RX5) (T := TX5) (N := 14) hx hb hts inX5 hown hK.1 hP 0 rfl rfl 0 (by decide) (hts (.fieldLink RX5 7 "GrayPointersModel" "all" "[I") (List.mem_of_getElem? (i := 1) rfl)) (fun _ h9 => h9) rfl dX5_isAlmost_14 ?_
    refine lv_iconst (v := (3 : Int32)) hx hb dX5_isAlmost_17 (by decide) ?_
    refine va_iald hx hb hK.1 hP 1 0 rfl rfl (i := (3 : Int32)) (vp_in_iff.mpr (by decide)) dX5_isAlmost_18 ?_
    refine W.eq (g2 := F0 m 19 ls [.int ((M 1) 3), .int (r_X5_depth M), .int (r_X5_fillSeen M (0 : Int32))]) rfl ?_
    refine lv_isub hx hb dX5_isAlmost_19 ?_
    refine lv_icmp_lt (tgt := 27) hx hb dX5_isAlmost_20 (by decide) (fun c20 => ?_) (fun c20 => ?_)
    · have hr := hr.trans (if_pos c20)
      refine lv_iconst (v := (0 : Int32)) hx hb dX5_isAlmost_27 (by decide) ?_
      refine lv_goto (tgt := 50) hx hb dX5_isAlmost_28 (by decide) ?_
      exact endZ (v := (0 : Int32)) hb hx hsg rfl hr.symm hP hD hS dX5_isAlmost_50 hlocks
    · have hr := hr.trans (if_neg c20)
      refine lv_iconst (v := (1 : Int32)) hx hb dX5_isAlmost_23 (by decide) ?_
      refine lv_goto (tgt := 50) hx hb dX5_isAlmost_24 (by decide) ?_
      exact endZ (v := (1 : Int32)) hb hx hsg rfl hr.symm hP hD hS dX5_isAlmost_50 hlocks
def r_X5_untilTick (M : CS) (a1 : Int32) : Int32 := (if (r_X5_of M a1 (2 : Int32)) = (0 : Int32) then (-5 : Int32) else ((r_X5_of M a1 (0 : Int32)) - ((((M 1) 2) + (r_X5_of M a1 (1 : Int32))) - (((M 1) 2) + (r_X5_of M a1 (1 : Int32))) / (r_X5_of M a1 (0 : Int32)) * (r_X5_of M a1 (0 : Int32)))))
abbrev rm_X5_untilTick : Room := { frames := 1, cells := 0, slots := 0, locals := 22 }
set_option maxHeartbeats 4000000 in
set_option maxRecDepth 100000 in
theorem c_X5_untilTick (l : Launch) (D : va_G) (cI cC cS : ClassId) (md : Nat → Nat) (M : CS) (a1 : Int32) (hs : a1 = (0 : Int32) ∨ a1 = (1 : Int32)) (hz : ¬ (r_X5_of M a1 (0 : Int32)) = (0 : Int32)) : CI l D cI cC cS yX5_untilTick wsX5_untilTick rm_X5_untilTick [.ref (md 0), .int a1] (mdW cI md M) (mdW cI md M) (r_X5_untilTick M a1) := by
  intro sz
  refine startC (cc := cX5_untilTick) (maxL := 3) (ret := (some .int)) (by decide) rfl (Nat.le_of_ble_eq_true rfl) ?_
  intro p e s m args below meth c hx hb hml hsg hts hown hlocks hin hK A hA hS hP hD ls hl
  have hown : s.vm.findClass RX5 = some m.cls := hown
  have hl : lv_has ls 3 [(0, .ref (md 0)), (1, .int a1)] := hl
  have hP : va_P D vwCl [((md 0), mdC md (M 0)), ((md 1), arC cI 96 (M 1)), ((md 2), arC cI 96 (M 2)), ((md 3), arC cI 96 (M 3)), ((md 4), arC cI 384 (M 4)), ((md 5), arC cI 96 (M 5)), ((md 6), arC cI 60 (M 6))] s.heap := hP
  have hD : va_D A [((md 0), mdC md (M 0)), ((md 1), arC cI 96 (M 1)), ((md 2), arC cI 96 (M 2)), ((md 3), arC cI 96 (M 3)), ((md 4), arC cI 384 (M 4)), ((md 5), arC cI 96 (M 5)), ((md 6), arC cI 60 (M 6))] := hD
  have inX5 : ∀ w ∈ wsX50, w ∈ wsX5_untilTick := fun _ h => List.mem_cons_of_mem _ (List.mem_append_right _ h)
  have hr : (r_X5_untilTick M a1) = (if (r_X5_of M a1 (2 : Int32)) = (0 : Int32) then (-5 : Int32) else ((r_X5_of M a1 (0 : Int32)) - ((((M 1) 2) + (r_X5_of M a1 (1 : Int32))) - (((M 1) 2) + (r_X5_of M a1 (1 : Int32))) / (r_X5_of M a1 (0 : Int32)) * (r_X5_of M a1 (0 : Int32))))) := rfl
  refine lv_aload_n hx hb dX5_untilTick_0 rfl (lv_at hl 0 rfl) ?_
  refine lv_iload_n hx hb dX5_untilTick_1 rfl (lv_at hl 1 rfl) ?_
  refine lv_iconst (v := (2 : Int32)) hx hb dX5_untilTick_2 (by decide) ?_
  refine goI (n := 7) (ws' := [((md 0), mdC md (M 0)), ((md 1), arC cI 96 (M 1)), ((md 2), arC cI 96 (M 2)), ((md 3), arC cI 96 (M 3)), ((md 4), arC cI 384 (M 4)), ((md 5), arC cI 96 (M 5)), ((md 6), arC cI 60 (M 6))]) (rs := []) (va_runV (As := [.int a1, .int (2 : Int32)]) (rest := []) ⟨hx, hb, hml, hown, hts⟩ (c_X5_of l D cI cC cS md M a1 (2 : Int32) (sd_in hs (by decide)) _) (cwV 2 hts gX5_untilTick_X5_of rfl rfl rfl (by decide +kernel) ⟨Nat.le_of_ble_eq_true rfl, Nat.le_of_ble_eq_true rfl⟩) (preV hK hP hD [0, 1, 2, 3, 4, 5, 6] (by decide) rfl 0 5 rfl rfl) rfl rfl hl.1 rfl (lv_room (Nat.le_of_ble_eq_true rfl)) dX5_untilTick_3 ⟨Nat.zero_le _, Nat.zero_le _⟩) hP hD hS hA [0, 1, 2, 3, 4, 5, 6] [] rfl rfl rfl rfl rfl (by decide +kernel) rfl (fun H locs hP hD hS => ?_)
  refine lv_if_ne (tgt := 12) hx hb dX5_untilTick_6 (by decide) (fun c6 => ?_) (fun c6 => ?_)
  · have hr := hr.trans (if_neg c6)
    refine lv_aload_n hx hb dX5_untilTick_12 rfl (lv_at hl 0 rfl) ?_
    refine lv_iload_n hx hb dX5_untilTick_13 rfl (lv_at hl 1 rfl) ?_
    refine lv_iconst (v := (0 : Int32)) hx hb dX5_untilTick_14 (by decide) ?_
    refine goI (n := 7) (ws' := [((md 0), mdC md (M 0)), ((md 1), arC cI 96 (M 1)), ((md 2), arC cI 96 (M 2)), ((md 3), arC cI 96 (M 3)), ((md 4), arC cI 384 (M 4)), ((md 5), arC cI 96 (M 5)), ((md 6), arC cI 60 (M 6))]) (rs := []) (va_runV (As := [.int a1, .int (0 : Int32)]) (rest := []) ⟨hx, hb, hml, hown, hts⟩ (c_X5_of l D cI cC cS md M a1 (0 : Int32) (sd_in hs (by decide)) _) (cwV 2 hts gX5_untilTick_X5_of rfl rfl rfl (by decide +kernel) ⟨Nat.le_of_ble_eq_true rfl, Nat.le_of_ble_eq_true rfl⟩) (preV hK hP hD [0, 1, 2, 3, 4, 5, 6] (by decide) rfl 0 5 rfl rfl) rfl rfl hl.1 rfl (lv_room (Nat.le_of_ble_eq_true rfl)) dX5_untilTick_15 ⟨Nat.zero_le _, Nat.zero_le _⟩) hP hD hS hA [0, 1, 2, 3, 4, 5, 6] [] rfl rfl rfl rfl rfl (by decide +kernel) rfl (fun H locs hP hD hS => ?_)
    refine lv_istore_n (lv' := [(2, .int (r_X5_of M a1 (0 : Int32))), (0, .ref (md 0)), (1, .int a1)]) hx hb dX5_untilTick_18 rfl hl (by decide) rfl (fun ls hl => ?_)
    refine lv_iload_n hx hb dX5_untilTick_19 rfl (lv_at hl 0 rfl) ?_
    refine lv_aload_n hx hb dX5_untilTick_20 rfl (lv_at hl 1 rfl) ?_
    refine va_get (D := D) (ci := 5) (v := .ref (md 1)) (C := RX5) (T := TX5) (N := 14) hx hb hts inX5 hown hK.1 hP 0 rfl rfl 0 (by decide) (hts (.fieldLink RX5 7 "GrayPointersModel" "all" "[I") (List.mem_of_getElem? (i := 1) rfl)) (fun _ h9 => h9) rfl dX5_untilTick_21 ?_
    refine lv_iconst (v := (2 : Int32)) hx hb dX5_untilTick_24 (by decide) ?_
    refine va_iald hx hb hK.1 hP 1 0 rfl rfl (i := (2 : Int32)) (vp_in_iff.mpr (by decide)) dX5_untilTick_25 ?_
    refine W.eq (g2 := F0 m 26 ls [.int ((M 1) 2), .int (r_X5_of M a1 (0 : Int32))]) rfl ?_
    refine lv_aload_n hx hb dX5_untilTick_26 rfl (lv_at hl 1 rfl) ?_
    refine lv_iload_n hx hb dX5_untilTick_27 rfl (lv_at hl 2 rfl) ?_
    refine lv_iconst (v := (1 : Int32)) hx hb dX5_untilTick_28 (by decide) ?_
    refine goI (n := 7) (ws' := [((md 0), mdC md (M 0)), ((md 1), arC cI 96 (M 1)), ((md 2), arC cI 96 (M 2)), ((md 3), arC cI 96 (M 3)), ((md 4), arC cI 384 (M 4)), ((md 5), arC cI 96 (M 5)), ((md 6), arC cI 60 (M 6))]) (rs := []) (va_runV (As := [.int a1, .int (1 : Int32)]) (rest := [.int ((M 1) 2), .int (r_X5_of M a1 (0 : Int32))]) ⟨hx, hb, hml, hown, hts⟩ (c_X5_of l D cI cC cS md M a1 (1 : Int32) (sd_in hs (by decide)) _) (cwV 2 hts gX5_untilTick_X5_of rfl rfl rfl (by decide +kernel) ⟨Nat.le_of_ble_eq_true rfl, Nat.le_of_ble_eq_true rfl⟩) (preV hK hP hD [0, 1, 2, 3, 4, 5, 6] (by decide) rfl 0 5 rfl rfl) rfl rfl hl.1 rfl (lv_room (Nat.le_of_ble_eq_true rfl)) dX5_untilTick_29 ⟨Nat.zero_le _, Nat.zero_le _⟩) hP hD hS hA [0, 1, 2, 3, 4, 5, 6] [] rfl rfl rfl rfl rfl (by decide +kernel) rfl (fun H locs hP hD hS => ?_)
    refine lv_iadd hx hb dX5_untilTick_32 ?_
    refine lv_iload_n hx hb dX5_untilTick_33 rfl (lv_at hl 0 rfl) ?_
    refine lv_irem hx hb dX5_untilTick_34 hz ?_
    refine lv_isub hx hb dX5_untilTick_35 ?_
    exact endI (v := ((r_X5_of M a1 (0 : Int32)) - ((((M 1) 2) + (r_X5_of M a1 (1 : Int32))) - (((M 1) 2) + (r_X5_of M a1 (1 : Int32))) / (r_X5_of M a1 (0 : Int32)) * (r_X5_of M a1 (0 : Int32))))) hb hx hsg hr.symm hP hD hS dX5_untilTick_36 hlocks
  · have hr := hr.trans (if_pos c6)
    refine lv_bipush (v := (-5 : Int32)) hx hb dX5_untilTick_9 (by decide) ?_
    exact endI (v := (-5 : Int32)) hb hx hsg hr.symm hP hD hS dX5_untilTick_11 hlocks
def r_X5_isDone (M : CS) : Int32 := (if ((M 1) 7) = ((M 1) 6) then (if ((M 1) 5) = (0 : Int32) then (1 : Int32) else (0 : Int32)) else (0 : Int32))
abbrev rm_X5_isDone : Room := { frames := 0, cells := 0, slots := 0, locals := 0 }
set_option maxHeartbeats 4000000 in
set_option maxRecDepth 100000 in
theorem c_X5_isDone (l : Launch) (D : va_G) (cI cC cS : ClassId) (md : Nat → Nat) (M : CS)  : CI l D cI cC cS yX5_isDone wsX5_isDone rm_X5_isDone [.ref (md 0)] (mdW cI md M) (mdW cI md M) (r_X5_isDone M) := by
  intro sz
  refine startC (cc := cX5_isDone) (maxL := 1) (ret := (some .boolean)) (by decide) rfl (Nat.le_of_ble_eq_true rfl) ?_
  intro p e s m args below meth c hx hb hml hsg hts hown hlocks hin hK A hA hS hP hD ls hl
  have hown : s.vm.findClass RX5 = some m.cls := hown
  have hl : lv_has ls 1 [(0, .ref (md 0))] := hl
  have hP : va_P D vwCl [((md 0), mdC md (M 0)), ((md 1), arC cI 96 (M 1)), ((md 2), arC cI 96 (M 2)), ((md 3), arC cI 96 (M 3)), ((md 4), arC cI 384 (M 4)), ((md 5), arC cI 96 (M 5)), ((md 6), arC cI 60 (M 6))] s.heap := hP
  have hD : va_D A [((md 0), mdC md (M 0)), ((md 1), arC cI 96 (M 1)), ((md 2), arC cI 96 (M 2)), ((md 3), arC cI 96 (M 3)), ((md 4), arC cI 384 (M 4)), ((md 5), arC cI 96 (M 5)), ((md 6), arC cI 60 (M 6))] := hD
  have inX5 : ∀ w ∈ wsX50, w ∈ wsX5_isDone := fun _ h => List.mem_cons_of_mem _ (List.mem_append_right _ h)
  have hr : (r_X5_isDone M) = (if ((M 1) 7) = ((M 1) 6) then (if ((M 1) 5) = (0 : Int32) then (1 : Int32) else (0 : Int32)) else (0 : Int32)) := rfl
  refine lv_aload_n hx hb dX5_isDone_0 rfl (lv_at hl 0 rfl) ?_
  refine va_get (D := D) (ci := 5) (v := .ref (md 1)) (C := RX5) (T := TX5) (N := 14) hx hb hts inX5 hown hK.1 hP 0 rfl rfl 0 (by decide) (hts (.fieldLink RX5 7 "GrayPointersModel" "all" "[I") (List.mem_of_getElem? (i := 1) rfl)) (fun _ h9 => h9) rfl dX5_isDone_1 ?_
  refine lv_bipush (v := (7 : Int32)) hx hb dX5_isDone_4 (by decide) ?_
  refine va_iald hx hb hK.1 hP 1 0 rfl rfl (i := (7 : Int32)) (vp_in_iff.mpr (by decide)) dX5_isDone_6 ?_
  refine W.eq (g2 := F0 m 7 ls [.int ((M 1) 7)]) rfl ?_
  refine lv_aload_n hx hb dX5_isDone_7 rfl (lv_at hl 0 rfl) ?_
  refine va_get (D := D) (ci := 5) (v := .ref (md 1)) (C := RX5) (T := TX5) (N := 14) hx hb hts inX5 hown hK.1 hP 0 rfl rfl 0 (by decide) (hts (.fieldLink RX5 7 "GrayPointersModel" "all" "[I") (List.mem_of_getElem? (i := 1) rfl)) (fun _ h9 => h9) rfl dX5_isDone_8 ?_
  refine lv_bipush (v := (6 : Int32)) hx hb dX5_isDone_11 (by decide) ?_
  refine va_iald hx hb hK.1 hP 1 0 rfl rfl (i := (6 : Int32)) (vp_in_iff.mpr (by decide)) dX5_isDone_13 ?_
  refine W.eq (g2 := F0 m 14 ls [.int ((M 1) 6), .int ((M 1) 7)]) rfl ?_
  refine lv_icmp_ne (tgt := 30) hx hb dX5_isDone_14 (by decide) (fun c14 => ?_) (fun c14 => ?_)
  · have hr := hr.trans (if_neg c14)
    refine lv_iconst (v := (0 : Int32)) hx hb dX5_isDone_30 (by decide) ?_
    exact endZ (v := (0 : Int32)) hb hx hsg rfl hr.symm hP hD hS dX5_isDone_31 hlocks
  · have hr := hr.trans (if_pos c14)
    refine lv_aload_n hx hb dX5_isDone_17 rfl (lv_at hl 0 rfl) ?_
    refine va_get (D := D) (ci := 5) (v := .ref (md 1)) (C := RX5) (T := TX5) (N := 14) hx hb hts inX5 hown hK.1 hP 0 rfl rfl 0 (by decide) (hts (.fieldLink RX5 7 "GrayPointersModel" "all" "[I") (List.mem_of_getElem? (i := 1) rfl)) (fun _ h9 => h9) rfl dX5_isDone_18 ?_
    refine lv_iconst (v := (5 : Int32)) hx hb dX5_isDone_21 (by decide) ?_
    refine va_iald hx hb hK.1 hP 1 0 rfl rfl (i := (5 : Int32)) (vp_in_iff.mpr (by decide)) dX5_isDone_22 ?_
    refine W.eq (g2 := F0 m 23 ls [.int ((M 1) 5)]) rfl ?_
    refine lv_if_ne (tgt := 30) hx hb dX5_isDone_23 (by decide) (fun c23 => ?_) (fun c23 => ?_)
    · have hr := hr.trans (if_neg c23)
      refine lv_iconst (v := (0 : Int32)) hx hb dX5_isDone_30 (by decide) ?_
      exact endZ (v := (0 : Int32)) hb hx hsg rfl hr.symm hP hD hS dX5_isDone_31 hlocks
    · have hr := hr.trans (if_pos c23)
      refine lv_iconst (v := (1 : Int32)) hx hb dX5_isDone_26 (by decide) ?_
      refine lv_goto (tgt := 31) hx hb dX5_isDone_27 (by decide) ?_
      exact endZ (v := (1 : Int32)) hb hx hsg rfl hr.symm hP hD hS dX5_isDone_31 hlocks
def r_X5_clearText (M : CS) : Int32 := ((fun (z_1 : CS) => ((M 0) 8)) (va_up M 0 (upd (M 0) 8 (0 : Int32))))
def p_X5_clearText (M : CS) : CS := ((fun (z_1 : CS) => z_1) (va_up M 0 (upd (M 0) 8 (0 : Int32))))
abbrev rm_X5_clearText : Room := { frames := 0, cells := 0, slots := 0, locals := 0 }
set_option maxHeartbeats 4000000 in
set_option maxRecDepth 100000 in
theorem c_X5_clearText (l : Launch) (D : va_G) (cI cC cS : ClassId) (md : Nat → Nat) (M : CS)  : CI l D cI cC cS yX5_clearText wsX5_clearText rm_X5_clearText [.ref (md 0)] (mdW cI md M) (mdW cI md (p_X5_clearText M)) (r_X5_clearText M) := by
  intro sz
  refine startC (cc := cX5_clearText) (maxL := 2) (ret := (some .int)) (by decide) rfl (Nat.le_of_ble_eq_true rfl) ?_
  intro p e s m args below meth c hx hb hml hsg hts hown hlocks hin hK A hA hS hP hD ls hl
  have hown : s.vm.findClass RX5 = some m.cls := hown
  have hl : lv_has ls 2 [(0, .ref (md 0))] := hl
  have hP : va_P D vwCl [((md 0), mdC md (M 0)), ((md 1), arC cI 96 (M 1)), ((md 2), arC cI 96 (M 2)), ((md 3), arC cI 96 (M 3)), ((md 4), arC cI 384 (M 4)), ((md 5), arC cI 96 (M 5)), ((md 6), arC cI 60 (M 6))] s.heap := hP
  have hD : va_D A [((md 0), mdC md (M 0)), ((md 1), arC cI 96 (M 1)), ((md 2), arC cI 96 (M 2)), ((md 3), arC cI 96 (M 3)), ((md 4), arC cI 384 (M 4)), ((md 5), arC cI 96 (M 5)), ((md 6), arC cI 60 (M 6))] := hD
  have inX5 : ∀ w ∈ wsX50, w ∈ wsX5_clearText := fun _ h => List.mem_cons_of_mem _ (List.mem_append_right _ h)
  have hr : (r_X5_clearText M) = ((fun (z_1 : CS) => ((M 0) 8)) (va_up M 0 (upd (M 0) 8 (0 : Int32)))) := rfl
  have hp : (p_X5_clearText M) = ((fun (z_1 : CS) => z_1) (va_up M 0 (upd (M 0) 8 (0 : Int32)))) := rfl
  refine lv_aload_n hx hb dX5_clearText_0 rfl (lv_at hl 0 rfl) ?_
  refine va_get (D := D) (ci := 5) (v := .int ((M 0) 8)) (C := RX5) (T := TX5) (N := 14) hx hb hts inX5 hown hK.1 hP 0 rfl rfl 8 (by decide) (hts (.fieldLink RX5 135 "GrayPointersModel" "textLong" "I") (List.mem_of_getElem? (i := 1) rfl)) (fun _ h9 => h9) rfl dX5_clearText_1 ?_
  refine lv_istore_n (lv' := [(1, .int ((M 0) 8)), (0, .ref (md 0))]) hx hb dX5_clearText_4 rfl hl (by decide) rfl (fun ls hl => ?_)
  refine lv_aload_n hx hb dX5_clearText_5 rfl (lv_at hl 1 rfl) ?_
  refine lv_iconst (v := (0 : Int32)) hx hb dX5_clearText_6 (by decide) ?_
  refine va_put (D := D) (ci := 5) (v := .int (0 : Int32)) (ty := .int) (C := RX5) (T := TX5) (N := 14) hx hb hts inX5 tyX5 tyX5_ok nmX5 hown hK.1 hP hD hS 0 rfl rfl 8 (by decide) (hts (.fieldLink RX5 135 "GrayPointersModel" "textLong" "I") (List.mem_of_getElem? (i := 1) rfl)) (fun _ h9 => h9) rfl (by decide +kernel) rfl rfl (Nat.le_of_ble_eq_true rfl) dX5_clearText_7 (fun H locs hP hD hS => ?_)
  have hP : va_P D vwCl [((md 0), mdC md (upd (M 0) 8 (0 : Int32))), ((md 1), arC cI 96 (M 1)), ((md 2), arC cI 96 (M 2)), ((md 3), arC cI 96 (M 3)), ((md 4), arC cI 384 (M 4)), ((md 5), arC cI 96 (M 5)), ((md 6), arC cI 60 (M 6))] H := hP
  have hD : va_D A [((md 0), mdC md (upd (M 0) 8 (0 : Int32))), ((md 1), arC cI 96 (M 1)), ((md 2), arC cI 96 (M 2)), ((md 3), arC cI 96 (M 3)), ((md 4), arC cI 384 (M 4)), ((md 5), arC cI 96 (M 5)), ((md 6), arC cI 60 (M 6))] := hD
  refine lv_iload_n hx hb dX5_clearText_10 rfl (lv_at hl 0 rfl) ?_
  obtain ⟨z_1, hz_1⟩ : ∃ z : CS, z = (va_up M 0 (upd (M 0) 8 (0 : Int32))) := ⟨_, rfl⟩
  have e0 : (z_1 0) = (upd (M 0) 8 (0 : Int32)) := (congrFun hz_1 0).trans va_up_s
  have e1 : (z_1 1) = (M 1) := (congrFun hz_1 1).trans (va_up_n (by decide))
  have e2 : (z_1 2) = (M 2) := (congrFun hz_1 2).trans (va_up_n (by decide))
  have e3 : (z_1 3) = (M 3) := (congrFun hz_1 3).trans (va_up_n (by decide))
  have e4 : (z_1 4) = (M 4) := (congrFun hz_1 4).trans (va_up_n (by decide))
  have e5 : (z_1 5) = (M 5) := (congrFun hz_1 5).trans (va_up_n (by decide))
  have e6 : (z_1 6) = (M 6) := (congrFun hz_1 6).trans (va_up_n (by decide))
  have hP : va_P D vwCl [((md 0), mdC md (z_1 0)), ((md 1), arC cI 96 (z_1 1)), ((md 2), arC cI 96 (z_1 2)), ((md 3), arC cI 96 (z_1 3)), ((md 4), arC cI 384 (z_1 4)), ((md 5), arC cI 96 (z_1 5)), ((md 6), arC cI 60 (z_1 6))] H := by rw [e0, e1, e2, e3, e4, e5, e6]; exact hP
  have hD : va_D A [((md 0), mdC md (z_1 0)), ((md 1), arC cI 96 (z_1 1)), ((md 2), arC cI 96 (z_1 2)), ((md 3), arC cI 96 (z_1 3)), ((md 4), arC cI 384 (z_1 4)), ((md 5), arC cI 96 (z_1 5)), ((md 6), arC cI 60 (z_1 6))] := by rw [e0, e1, e2, e3, e4, e5, e6]; exact hD
  clear e0 e1 e2 e3 e4 e5 e6
  have hr : (r_X5_clearText M) = ((M 0) 8) := by subst hz_1; exact hr
  have hp : (p_X5_clearText M) = z_1 := by subst hz_1; exact hp
  exact endI (v := ((M 0) 8)) hb hx hsg hr.symm (by rw [hp]; exact hP) (by rw [hp]; exact hD) hS dX5_clearText_11 hlocks
