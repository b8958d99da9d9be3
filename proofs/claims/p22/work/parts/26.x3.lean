def r_X3_append (T : CS) (a1 : Int32) : Int32 := (if ((T 0) 1) < (0 : Int32) then (0 : Int32) else (if ((T 0) 1) < (60 : Int32) then ((fun (z_1 : CS) => (1 : Int32)) (va_up (va_up T 0 (upd (T 0) 1 (((T 0) 1) + (1 : Int32)))) 1 (upd (T 1) ((T 0) 1).toNatClampNeg (vp_nar .char a1)))) else (0 : Int32)))
def p_X3_append (T : CS) (a1 : Int32) : CS := (if ((T 0) 1) < (0 : Int32) then T else (if ((T 0) 1) < (60 : Int32) then ((fun (z_1 : CS) => z_1) (va_up (va_up T 0 (upd (T 0) 1 (((T 0) 1) + (1 : Int32)))) 1 (upd (T 1) ((T 0) 1).toNatClampNeg (vp_nar .char a1)))) else T))
abbrev rm_X3_append : Room := { frames := 0, cells := 0, slots := 0, locals := 0 }
set_option maxHeartbeats 4000000 in
set_option maxRecDepth 100000 in
theorem c_X3_append (l : Launch) (D : va_G) (cI cC cS : ClassId) (td : Nat → Nat) (T : CS) (a1 : Int32)  : CI l D cI cC cS yX3_append wsX3_append rm_X3_append [.ref (td 0), .int a1] (txW cI cC td T) (txW cI cC td (p_X3_append T a1)) (r_X3_append T a1) := by
  intro sz
  refine startC (cc := cX3_append) (maxL := 2) (ret := (some .boolean)) (by decide) rfl (Nat.le_of_ble_eq_true rfl) ?_
  intro p e s m args below meth c hx hb hml hsg hts hown hlocks hin hK A hA hS hP hD ls hl
  have hown : s.vm.findClass RX3 = some m.cls := hown
  have hl : lv_has ls 2 [(0, .ref (td 0)), (1, .int a1)] := hl
  have hP : va_P D vwCl [((td 0), txC td (T 0)), ((td 1), arC cC 60 (T 1)), ((td 2), arC cI 30 (T 2)), ((td 3), arC cI 30 (T 3))] s.heap := hP
  have hD : va_D A [((td 0), txC td (T 0)), ((td 1), arC cC 60 (T 1)), ((td 2), arC cI 30 (T 2)), ((td 3), arC cI 30 (T 3))] := hD
  have inX3 : ∀ w ∈ wsX30, w ∈ wsX3_append := fun _ h => List.mem_cons_of_mem _ (List.mem_append_right _ h)
  have hr : (r_X3_append T a1) = (if ((T 0) 1) < (0 : Int32) then (0 : Int32) else (if ((T 0) 1) < (60 : Int32) then ((fun (z_1 : CS) => (1 : Int32)) (va_up (va_up T 0 (upd (T 0) 1 (((T 0) 1) + (1 : Int32)))) 1 (upd (T 1) ((T 0) 1).toNatClampNeg (vp_nar .char a1)))) else (0 : Int32))) := rfl
  have hp : (p_X3_append T a1) = (if ((T 0) 1) < (0 : Int32) then T else (if ((T 0) 1) < (60 : Int32) then ((fun (z_1 : CS) => z_1) (va_up (va_up T 0 (upd (T 0) 1 (((T 0) 1) + (1 : Int32)))) 1 (upd (T 1) ((T 0) 1).toNatClampNeg (vp_nar .char a1)))) else T)) := rfl
  refine lv_aload_n hx hb dX3_append_0 rfl (lv_at hl 0 rfl) ?_
  refine va_get (D := D) (ci := 3) (v := .int ((T 0) 1)) (C := RX3) (T := TX3) (N := 6) hx hb hts inX3 hown hK.1 hP 0 rfl rfl 1 (by decide) (hts (.fieldLink RX3 22 "GrayPointers$Text" "length" "I") (List.mem_of_getElem? (i := 1) rfl)) (fun _ h9 => h9) rfl dX3_append_1 ?_
  refine lv_if_lt (tgt := 19) hx hb dX3_append_4 (by decide) (fun c4 => ?_) (fun c4 => ?_)
  · have hr := hr.trans (if_pos c4)
    have hp := hp.trans (if_pos c4)
    refine lv_iconst (v := (0 : Int32)) hx hb dX3_append_19 (by decide) ?_
    exact endZ (v := (0 : Int32)) hb hx hsg rfl hr.symm (by rw [hp]; exact hP) (by rw [hp]; exact hD) hS dX3_append_20 hlocks
  · have hr := hr.trans (if_neg c4)
    have hp := hp.trans (if_neg c4)
    refine lv_aload_n hx hb dX3_append_7 rfl (lv_at hl 0 rfl) ?_
    refine va_get (D := D) (ci := 3) (v := .int ((T 0) 1)) (C := RX3) (T := TX3) (N := 6) hx hb hts inX3 hown hK.1 hP 0 rfl rfl 1 (by decide) (hts (.fieldLink RX3 22 "GrayPointers$Text" "length" "I") (List.mem_of_getElem? (i := 1) rfl)) (fun _ h9 => h9) rfl dX3_append_8 ?_
    refine lv_aload_n hx hb dX3_append_11 rfl (lv_at hl 0 rfl) ?_
    refine va_get (D := D) (ci := 3) (v := .ref (td 1)) (C := RX3) (T := TX3) (N := 6) hx hb hts inX3 hown hK.1 hP 0 rfl rfl 0 (by decide) (hts (.fieldLink RX3 9 "GrayPointers$Text" "signs" "[C") (List.mem_of_getElem? (i := 2) rfl)) (fun _ h9 => h9) rfl dX3_append_12 ?_
    refine va_alen (v := (60 : Int32)) hx hb hK.1 hP 1 1 rfl rfl rfl dX3_append_15 ?_
    refine lv_icmp_lt (tgt := 21) hx hb dX3_append_16 (by decide) (fun c16 => ?_) (fun c16 => ?_)
    · have hr := hr.trans (if_pos c16)
      have hp := hp.trans (if_pos c16)
      refine lv_aload_n hx hb dX3_append_21 rfl (lv_at hl 0 rfl) ?_
      refine va_get (D := D) (ci := 3) (v := .ref (td 1)) (C := RX3) (T := TX3) (N := 6) hx hb hts inX3 hown hK.1 hP 0 rfl rfl 0 (by decide) (hts (.fieldLink RX3 9 "GrayPointers$Text" "signs" "[C") (List.mem_of_getElem? (i := 2) rfl)) (fun _ h9 => h9) rfl dX3_append_22 ?_
      refine lv_aload_n hx hb dX3_append_25 rfl (lv_at hl 0 rfl) ?_
      refine va_get (D := D) (ci := 3) (v := .int ((T 0) 1)) (C := RX3) (T := TX3) (N := 6) hx hb hts inX3 hown hK.1 hP 0 rfl rfl 1 (by decide) (hts (.fieldLink RX3 22 "GrayPointers$Text" "length" "I") (List.mem_of_getElem? (i := 1) rfl)) (fun _ h9 => h9) rfl dX3_append_26 ?_
      refine lv_iload_n hx hb dX3_append_29 rfl (lv_at hl 1 rfl) ?_
      refine va_cast hx hb hK.1 hP hD hS 1 1 rfl rfl (i := ((T 0) 1)) (x := a1) (vp_gl c4 c16 (by decide)) dX3_append_30 (fun H locs hP hD hS => ?_)
      have hP : va_P D vwCl [((td 0), txC td (T 0)), ((td 1), arC cC 60 (upd (T 1) ((T 0) 1).toNatClampNeg (vp_nar .char a1))), ((td 2), arC cI 30 (T 2)), ((td 3), arC cI 30 (T 3))] H := hP
      have hD : va_D A [((td 0), txC td (T 0)), ((td 1), arC cC 60 (upd (T 1) ((T 0) 1).toNatClampNeg (vp_nar .char a1))), ((td 2), arC cI 30 (T 2)), ((td 3), arC cI 30 (T 3))] := hD
      refine lv_aload_n hx hb dX3_append_31 rfl (lv_at hl 0 rfl) ?_
      refine lv_dup hx hb dX3_append_32 rfl ?_
      refine va_get (D := D) (ci := 3) (v := .int ((T 0) 1)) (C := RX3) (T := TX3) (N := 6) hx hb hts inX3 hown hK.1 hP 0 rfl rfl 1 (by decide) (hts (.fieldLink RX3 22 "GrayPointers$Text" "length" "I") (List.mem_of_getElem? (i := 1) rfl)) (fun _ h9 => h9) rfl dX3_append_33 ?_
      refine lv_iconst (v := (1 : Int32)) hx hb dX3_append_36 (by decide) ?_
      refine lv_iadd hx hb dX3_append_37 ?_
      refine va_put (D := D) (ci := 3) (v := .int (((T 0) 1) + (1 : Int32))) (ty := .int) (C := RX3) (T := TX3) (N := 6) hx hb hts inX3 tyX3 tyX3_ok nmX3 hown hK.1 hP hD hS 0 rfl rfl 1 (by decide) (hts (.fieldLink RX3 22 "GrayPointers$Text" "length" "I") (List.mem_of_getElem? (i := 1) rfl)) (fun _ h9 => h9) rfl (by decide +kernel) rfl rfl (Nat.le_of_ble_eq_true rfl) dX3_append_38 (fun H locs hP hD hS => ?_)
      have hP : va_P D vwCl [((td 0), txC td (upd (T 0) 1 (((T 0) 1) + (1 : Int32)))), ((td 1), arC cC 60 (upd (T 1) ((T 0) 1).toNatClampNeg (vp_nar .char a1))), ((td 2), arC cI 30 (T 2)), ((td 3), arC cI 30 (T 3))] H := hP
      have hD : va_D A [((td 0), txC td (upd (T 0) 1 (((T 0) 1) + (1 : Int32)))), ((td 1), arC cC 60 (upd (T 1) ((T 0) 1).toNatClampNeg (vp_nar .char a1))), ((td 2), arC cI 30 (T 2)), ((td 3), arC cI 30 (T 3))] := hD
      refine lv_iconst (v := (1 : Int32)) hx hb dX3_append_41 (by decide) ?_
      obtain ⟨z_1, hz_1⟩ : ∃ z : CS, z = (va_up (va_up T 0 (upd (T 0) 1 (((T 0) 1) + (1 : Int32)))) 1 (upd (T 1) ((T 0) 1).toNatClampNeg (vp_nar .char a1))) := ⟨_, rfl⟩
      have e0 : (z_1 0) = (upd (T 0) 1 (((T 0) 1) + (1 : Int32))) := (congrFun hz_1 0).trans ((va_up_n (by decide)).trans va_up_s)
      have e1 : (z_1 1) = (upd (T 1) ((T 0) 1).toNatClampNeg (vp_nar .char a1)) := (congrFun hz_1 1).trans va_up_s
      have e2 : (z_1 2) = (T 2) := (congrFun hz_1 2).trans ((va_up_n (by decide)).trans (va_up_n (by decide)))
      have e3 : (z_1 3) = (T 3) := (congrFun hz_1 3).trans ((va_up_n (by decide)).trans (va_up_n (by decide)))
      have hP : va_P D vwCl [((td 0), txC td (z_1 0)), ((td 1), arC cC 60 (z_1 1)), ((td 2), arC cI 30 (z_1 2)), ((td 3), arC cI 30 (z_1 3))] H := by rw [e0, e1, e2, e3]; exact hP
      have hD : va_D A [((td 0), txC td (z_1 0)), ((td 1), arC cC 60 (z_1 1)), ((td 2), arC cI 30 (z_1 2)), ((td 3), arC cI 30 (z_1 3))] := by rw [e0, e1, e2, e3]; exact hD
      clear e0 e1 e2 e3
      have hr : (r_X3_append T a1) = (1 : Int32) := by subst hz_1; exact hr
      have hp : (p_X3_append T a1) = z_1 := by subst hz_1; exact hp
      exact endZ (v := (1 : Int32)) hb hx hsg rfl hr.symm (by rw [hp]; exact hP) (by rw [hp]; exact hD) hS dX3_append_42 hlocks
    · have hr := hr.trans (if_neg c16)
      have hp := hp.trans (if_neg c16)
      refine lv_iconst (v := (0 : Int32)) hx hb dX3_append_19 (by decide) ?_
      exact endZ (v := (0 : Int32)) hb hx hsg rfl hr.symm (by rw [hp]; exact hP) (by rw [hp]; exact hD) hS dX3_append_20 hlocks
def r_X3_hasSign (T : CS) : Int32 := (if ((T 0) 5) < (0 : Int32) then (0 : Int32) else (if ((T 0) 1) ≤ ((T 0) 5) then (0 : Int32) else (if (60 : Int32) ≤ ((T 0) 5) then (0 : Int32) else (1 : Int32))))
abbrev rm_X3_hasSign : Room := { frames := 0, cells := 0, slots := 0, locals := 0 }
set_option maxHeartbeats 4000000 in
set_option maxRecDepth 100000 in
theorem c_X3_hasSign (l : Launch) (D : va_G) (cI cC cS : ClassId) (td : Nat → Nat) (T : CS)  : CI l D cI cC cS yX3_hasSign wsX3_hasSign rm_X3_hasSign [.ref (td 0)] (txW cI cC td T) (txW cI cC td T) (r_X3_hasSign T) := by
  intro sz
  refine startC (cc := cX3_hasSign) (maxL := 1) (ret := (some .boolean)) (by decide) rfl (Nat.le_of_ble_eq_true rfl) ?_
  intro p e s m args below meth c hx hb hml hsg hts hown hlocks hin hK A hA hS hP hD ls hl
  have hown : s.vm.findClass RX3 = some m.cls := hown
  have hl : lv_has ls 1 [(0, .ref (td 0))] := hl
  have hP : va_P D vwCl [((td 0), txC td (T 0)), ((td 1), arC cC 60 (T 1)), ((td 2), arC cI 30 (T 2)), ((td 3), arC cI 30 (T 3))] s.heap := hP
  have hD : va_D A [((td 0), txC td (T 0)), ((td 1), arC cC 60 (T 1)), ((td 2), arC cI 30 (T 2)), ((td 3), arC cI 30 (T 3))] := hD
  have inX3 : ∀ w ∈ wsX30, w ∈ wsX3_hasSign := fun _ h => List.mem_cons_of_mem _ (List.mem_append_right _ h)
  have hr : (r_X3_hasSign T) = (if ((T 0) 5) < (0 : Int32) then (0 : Int32) else (if ((T 0) 1) ≤ ((T 0) 5) then (0 : Int32) else (if (60 : Int32) ≤ ((T 0) 5) then (0 : Int32) else (1 : Int32)))) := rfl
  refine lv_aload_n hx hb dX3_hasSign_0 rfl (lv_at hl 0 rfl) ?_
  refine va_get (D := D) (ci := 3) (v := .int ((T 0) 5)) (C := RX3) (T := TX3) (N := 6) hx hb hts inX3 hown hK.1 hP 0 rfl rfl 5 (by decide) (hts (.fieldLink RX3 29 "GrayPointers$Text" "cursor" "I") (List.mem_of_getElem? (i := 1) rfl)) (fun _ h9 => h9) rfl dX3_hasSign_1 ?_
  refine lv_if_lt (tgt := 34) hx hb dX3_hasSign_4 (by decide) (fun c4 => ?_) (fun c4 => ?_)
  · have hr := hr.trans (if_pos c4)
    refine lv_iconst (v := (0 : Int32)) hx hb dX3_hasSign_34 (by decide) ?_
    exact endZ (v := (0 : Int32)) hb hx hsg rfl hr.symm hP hD hS dX3_hasSign_35 hlocks
  · have hr := hr.trans (if_neg c4)
    refine lv_aload_n hx hb dX3_hasSign_7 rfl (lv_at hl 0 rfl) ?_
    refine va_get (D := D) (ci := 3) (v := .int ((T 0) 5)) (C := RX3) (T := TX3) (N := 6) hx hb hts inX3 hown hK.1 hP 0 rfl rfl 5 (by decide) (hts (.fieldLink RX3 29 "GrayPointers$Text" "cursor" "I") (List.mem_of_getElem? (i := 1) rfl)) (fun _ h9 => h9) rfl dX3_hasSign_8 ?_
    refine lv_aload_n hx hb dX3_hasSign_11 rfl (lv_at hl 0 rfl) ?_
    refine va_get (D := D) (ci := 3) (v := .int ((T 0) 1)) (C := RX3) (T := TX3) (N := 6) hx hb hts inX3 hown hK.1 hP 0 rfl rfl 1 (by decide) (hts (.fieldLink RX3 22 "GrayPointers$Text" "length" "I") (List.mem_of_getElem? (i := 2) rfl)) (fun _ h9 => h9) rfl dX3_hasSign_12 ?_
    refine lv_icmp_ge (tgt := 34) hx hb dX3_hasSign_15 (by decide) (fun c15 => ?_) (fun c15 => ?_)
    · have hr := hr.trans (if_pos c15)
      refine lv_iconst (v := (0 : Int32)) hx hb dX3_hasSign_34 (by decide) ?_
      exact endZ (v := (0 : Int32)) hb hx hsg rfl hr.symm hP hD hS dX3_hasSign_35 hlocks
    · have hr := hr.trans (if_neg c15)
      refine lv_aload_n hx hb dX3_hasSign_18 rfl (lv_at hl 0 rfl) ?_
      refine va_get (D := D) (ci := 3) (v := .int ((T 0) 5)) (C := RX3) (T := TX3) (N := 6) hx hb hts inX3 hown hK.1 hP 0 rfl rfl 5 (by decide) (hts (.fieldLink RX3 29 "GrayPointers$Text" "cursor" "I") (List.mem_of_getElem? (i := 1) rfl)) (fun _ h9 => h9) rfl dX3_hasSign_19 ?_
      refine lv_aload_n hx hb dX3_hasSign_22 rfl (lv_at hl 0 rfl) ?_
      refine va_get (D := D) (ci := 3) (v := .ref (td 1)) (C := RX3) (T := TX3) (N := 6) hx hb hts inX3 hown hK.1 hP 0 rfl rfl 0 (by decide) (hts (.fieldLink RX3 9 "GrayPointers$Text" "signs" "[C") (List.mem_of_getElem? (i := 3) rfl)) (fun _ h9 => h9) rfl dX3_hasSign_23 ?_
      refine va_alen (v := (60 : Int32)) hx hb hK.1 hP 1 1 rfl rfl rfl dX3_hasSign_26 ?_
      refine lv_icmp_ge (tgt := 34) hx hb dX3_hasSign_27 (by decide) (fun c27 => ?_) (fun c27 => ?_)
      · have hr := hr.trans (if_pos c27)
        refine lv_iconst (v := (0 : Int32)) hx hb dX3_hasSign_34 (by decide) ?_
        exact endZ (v := (0 : Int32)) hb hx hsg rfl hr.symm hP hD hS dX3_hasSign_35 hlocks
      · have hr := hr.trans (if_neg c27)
        refine lv_iconst (v := (1 : Int32)) hx hb dX3_hasSign_30 (by decide) ?_
        refine lv_goto (tgt := 35) hx hb dX3_hasSign_31 (by decide) ?_
        exact endZ (v := (1 : Int32)) hb hx hsg rfl hr.symm hP hD hS dX3_hasSign_35 hlocks
theorem hasSign_in {T : CS} (h : ¬ r_X3_hasSign T = 0) : vp_in (T 0 5) 60 := by
  unfold r_X3_hasSign at h
  split at h
  · exact absurd rfl h
  · rename_i a
    split at h
    · exact absurd rfl h
    · split at h
      · exact absurd rfl h
      · rename_i b
        exact vp_gd (n := 60) a b (by decide)
def r_X3_readSign (T : CS) (a1 : Int32) : Int32 := (if (r_X3_hasSign T) = (0 : Int32) then (0 : Int32) else (if ((T 1) ((T 0) 5).toNatClampNeg) = a1 then ((fun (z_1 : CS) => (1 : Int32)) (va_up T 0 (upd (T 0) 5 (((T 0) 5) + (1 : Int32))))) else (0 : Int32)))
def p_X3_readSign (T : CS) (a1 : Int32) : CS := (if (r_X3_hasSign T) = (0 : Int32) then T else (if ((T 1) ((T 0) 5).toNatClampNeg) = a1 then ((fun (z_1 : CS) => z_1) (va_up T 0 (upd (T 0) 5 (((T 0) 5) + (1 : Int32))))) else T))
abbrev rm_X3_readSign : Room := { frames := 1, cells := 0, slots := 0, locals := 20 }
set_option maxHeartbeats 4000000 in
set_option maxRecDepth 100000 in
theorem c_X3_readSign (l : Launch) (D : va_G) (cI cC cS : ClassId) (td : Nat → Nat) (T : CS) (a1 : Int32)  : CI l D cI cC cS yX3_readSign wsX3_readSign rm_X3_readSign [.ref (td 0), .int a1] (txW cI cC td T) (txW cI cC td (p_X3_readSign T a1)) (r_X3_readSign T a1) := by
  intro sz
  refine startC (cc := cX3_readSign) (maxL := 2) (ret := (some .boolean)) (by decide) rfl (Nat.le_of_ble_eq_true rfl) ?_
  intro p e s m args below meth c hx hb hml hsg hts hown hlocks hin hK A hA hS hP hD ls hl
  have hown : s.vm.findClass RX3 = some m.cls := hown
  have hl : lv_has ls 2 [(0, .ref (td 0)), (1, .int a1)] := hl
  have hP : va_P D vwCl [((td 0), txC td (T 0)), ((td 1), arC cC 60 (T 1)), ((td 2), arC cI 30 (T 2)), ((td 3), arC cI 30 (T 3))] s.heap := hP
  have hD : va_D A [((td 0), txC td (T 0)), ((td 1), arC cC 60 (T 1)), ((td 2), arC cI 30 (T 2)), ((td 3), arC cI 30 (T 3))] := hD
  have inX3 : ∀ w ∈ wsX30, w ∈ wsX3_readSign := fun _ h => List.mem_cons_of_mem _ (List.mem_append_right _ h)
  have hr : (r_X3_readSign T a1) = (if (r_X3_hasSign T) = (0 : Int32) then (0 : Int32) else (if ((T 1) ((T 0) 5).toNatClampNeg) = a1 then ((fun (z_1 : CS) => (1 : Int32)) (va_up T 0 (upd (T 0) 5 (((T 0) 5) + (1 : Int32))))) else (0 : Int32))) := rfl
  have hp : (p_X3_readSign T a1) = (if (r_X3_hasSign T) = (0 : Int32) then T else (if ((T 1) ((T 0) 5).toNatClampNeg) = a1 then ((fun (z_1 : CS) => z_1) (va_up T 0 (upd (T 0) 5 (((T 0) 5) + (1 : Int32))))) else T)) := rfl
  refine lv_aload_n hx hb dX3_readSign_0 rfl (lv_at hl 0 rfl) ?_
  refine goI (n := 4) (ws' := [((td 0), txC td (T 0)), ((td 1), arC cC 60 (T 1)), ((td 2), arC cI 30 (T 2)), ((td 3), arC cI 30 (T 3))]) (rs := []) (va_runV (As := []) (rest := []) ⟨hx, hb, hml, hown, hts⟩ (c_X3_hasSign l D cI cC cS td T  _) (cwV 0 hts gX3_readSign_X3_hasSign rfl rfl rfl (by decide +kernel) ⟨Nat.le_of_ble_eq_true rfl, Nat.le_of_ble_eq_true rfl⟩) (preV hK hP hD [0, 1, 2, 3] (by decide) rfl 0 3 rfl rfl) rfl rfl hl.1 rfl (lv_room (Nat.le_of_ble_eq_true rfl)) dX3_readSign_1 ⟨Nat.zero_le _, Nat.zero_le _⟩) hP hD hS hA [0, 1, 2, 3] [] rfl rfl rfl rfl rfl (by decide +kernel) rfl (fun H locs hP hD hS => ?_)
  refine lv_if_eq (tgt := 20) hx hb dX3_readSign_4 (by decide) (fun c4 => ?_) (fun c4 => ?_)
  · have hr := hr.trans (if_pos c4)
    have hp := hp.trans (if_pos c4)
    refine lv_iconst (v := (0 : Int32)) hx hb dX3_readSign_20 (by decide) ?_
    exact endZ (v := (0 : Int32)) hb hx hsg rfl hr.symm (by rw [hp]; exact hP) (by rw [hp]; exact hD) hS dX3_readSign_21 hlocks
  · have hr := hr.trans (if_neg c4)
    have hp := hp.trans (if_neg c4)
    refine lv_aload_n hx hb dX3_readSign_7 rfl (lv_at hl 0 rfl) ?_
    refine va_get (D := D) (ci := 3) (v := .ref (td 1)) (C := RX3) (T := TX3) (N := 6) hx hb hts inX3 hown hK.1 hP 0 rfl rfl 0 (by decide) (hts (.fieldLink RX3 9 "GrayPointers$Text" "signs" "[C") (List.mem_of_getElem? (i := 1) rfl)) (fun _ h9 => h9) rfl dX3_readSign_8 ?_
    refine lv_aload_n hx hb dX3_readSign_11 rfl (lv_at hl 0 rfl) ?_
    refine va_get (D := D) (ci := 3) (v := .int ((T 0) 5)) (C := RX3) (T := TX3) (N := 6) hx hb hts inX3 hown hK.1 hP 0 rfl rfl 5 (by decide) (hts (.fieldLink RX3 29 "GrayPointers$Text" "cursor" "I") (List.mem_of_getElem? (i := 2) rfl)) (fun _ h9 => h9) rfl dX3_readSign_12 ?_
    refine va_cald hx hb hK.1 hP 1 1 rfl rfl (i := ((T 0) 5)) (hasSign_in c4) dX3_readSign_15 ?_
    refine lv_iload_n hx hb dX3_readSign_16 rfl (lv_at hl 1 rfl) ?_
    refine lv_icmp_eq (tgt := 22) hx hb dX3_readSign_17 (by decide) (fun c17 => ?_) (fun c17 => ?_)
    · have hr := hr.trans (if_pos c17)
      have hp := hp.trans (if_pos c17)
      refine lv_aload_n hx hb dX3_readSign_22 rfl (lv_at hl 0 rfl) ?_
      refine lv_dup hx hb dX3_readSign_23 rfl ?_
      refine va_get (D := D) (ci := 3) (v := .int ((T 0) 5)) (C := RX3) (T := TX3) (N := 6) hx hb hts inX3 hown hK.1 hP 0 rfl rfl 5 (by decide) (hts (.fieldLink RX3 29 "GrayPointers$Text" "cursor" "I") (List.mem_of_getElem? (i := 2) rfl)) (fun _ h9 => h9) rfl dX3_readSign_24 ?_
      refine lv_iconst (v := (1 : Int32)) hx hb dX3_readSign_27 (by decide) ?_
      refine lv_iadd hx hb dX3_readSign_28 ?_
      refine va_put (D := D) (ci := 3) (v := .int (((T 0) 5) + (1 : Int32))) (ty := .int) (C := RX3) (T := TX3) (N := 6) hx hb hts inX3 tyX3 tyX3_ok nmX3 hown hK.1 hP hD hS 0 rfl rfl 5 (by decide) (hts (.fieldLink RX3 29 "GrayPointers$Text" "cursor" "I") (List.mem_of_getElem? (i := 2) rfl)) (fun _ h9 => h9) rfl (by decide +kernel) rfl rfl (Nat.le_of_ble_eq_true rfl) dX3_readSign_29 (fun H locs hP hD hS => ?_)
      have hP : va_P D vwCl [((td 0), txC td (upd (T 0) 5 (((T 0) 5) + (1 : Int32)))), ((td 1), arC cC 60 (T 1)), ((td 2), arC cI 30 (T 2)), ((td 3), arC cI 30 (T 3))] H := hP
      have hD : va_D A [((td 0), txC td (upd (T 0) 5 (((T 0) 5) + (1 : Int32)))), ((td 1), arC cC 60 (T 1)), ((td 2), arC cI 30 (T 2)), ((td 3), arC cI 30 (T 3))] := hD
      refine lv_iconst (v := (1 : Int32)) hx hb dX3_readSign_32 (by decide) ?_
      obtain ⟨z_1, hz_1⟩ : ∃ z : CS, z = (va_up T 0 (upd (T 0) 5 (((T 0) 5) + (1 : Int32)))) := ⟨_, rfl⟩
      have e0 : (z_1 0) = (upd (T 0) 5 (((T 0) 5) + (1 : Int32))) := (congrFun hz_1 0).trans va_up_s
      have e1 : (z_1 1) = (T 1) := (congrFun hz_1 1).trans (va_up_n (by decide))
      have e2 : (z_1 2) = (T 2) := (congrFun hz_1 2).trans (va_up_n (by decide))
      have e3 : (z_1 3) = (T 3) := (congrFun hz_1 3).trans (va_up_n (by decide))
      have hP : va_P D vwCl [((td 0), txC td (z_1 0)), ((td 1), arC cC 60 (z_1 1)), ((td 2), arC cI 30 (z_1 2)), ((td 3), arC cI 30 (z_1 3))] H := by rw [e0, e1, e2, e3]; exact hP
      have hD : va_D A [((td 0), txC td (z_1 0)), ((td 1), arC cC 60 (z_1 1)), ((td 2), arC cI 30 (z_1 2)), ((td 3), arC cI 30 (z_1 3))] := by rw [e0, e1, e2, e3]; exact hD
      clear e0 e1 e2 e3
      have hr : (r_X3_readSign T a1) = (1 : Int32) := by subst hz_1; exact hr
      have hp : (p_X3_readSign T a1) = z_1 := by subst hz_1; exact hp
      exact endZ (v := (1 : Int32)) hb hx hsg rfl hr.symm (by rw [hp]; exact hP) (by rw [hp]; exact hD) hS dX3_readSign_33 hlocks
    · have hr := hr.trans (if_neg c17)
      have hp := hp.trans (if_neg c17)
      refine lv_iconst (v := (0 : Int32)) hx hb dX3_readSign_20 (by decide) ?_
      exact endZ (v := (0 : Int32)) hb hx hsg rfl hr.symm (by rw [hp]; exact hP) (by rw [hp]; exact hD) hS dX3_readSign_21 hlocks
def r_X3_digitAtCursor (T : CS) : Int32 := (if (r_X3_hasSign T) = (0 : Int32) then (-1 : Int32) else (if ((T 1) ((T 0) 5).toNatClampNeg) < (48 : Int32) then (-1 : Int32) else (if ((T 1) ((T 0) 5).toNatClampNeg) ≤ (57 : Int32) then (((T 1) ((T 0) 5).toNatClampNeg) - (48 : Int32)) else (-1 : Int32))))
abbrev rm_X3_digitAtCursor : Room := { frames := 1, cells := 0, slots := 0, locals := 20 }
set_option maxHeartbeats 4000000 in
set_option maxRecDepth 100000 in
theorem c_X3_digitAtCursor (l : Launch) (D : va_G) (cI cC cS : ClassId) (td : Nat → Nat) (T : CS)  : CI l D cI cC cS yX3_digitAtCursor wsX3_digitAtCursor rm_X3_digitAtCursor [.ref (td 0)] (txW cI cC td T) (txW cI cC td T) (r_X3_digitAtCursor T) := by
  intro sz
  refine startC (cc := cX3_digitAtCursor) (maxL := 1) (ret := (some .int)) (by decide) rfl (Nat.le_of_ble_eq_true rfl) ?_
  intro p e s m args below meth c hx hb hml hsg hts hown hlocks hin hK A hA hS hP hD ls hl
  have hown : s.vm.findClass RX3 = some m.cls := hown
  have hl : lv_has ls 1 [(0, .ref (td 0))] := hl
  have hP : va_P D vwCl [((td 0), txC td (T 0)), ((td 1), arC cC 60 (T 1)), ((td 2), arC cI 30 (T 2)), ((td 3), arC cI 30 (T 3))] s.heap := hP
  have hD : va_D A [((td 0), txC td (T 0)), ((td 1), arC cC 60 (T 1)), ((td 2), arC cI 30 (T 2)), ((td 3), arC cI 30 (T 3))] := hD
  have inX3 : ∀ w ∈ wsX30, w ∈ wsX3_digitAtCursor := fun _ h => List.mem_cons_of_mem _ (List.mem_append_right _ h)
  have hr : (r_X3_digitAtCursor T) = (if (r_X3_hasSign T) = (0 : Int32) then (-1 : Int32) else (if ((T 1) ((T 0) 5).toNatClampNeg) < (48 : Int32) then (-1 : Int32) else (if ((T 1) ((T 0) 5).toNatClampNeg) ≤ (57 : Int32) then (((T 1) ((T 0) 5).toNatClampNeg) - (48 : Int32)) else (-1 : Int32)))) := rfl
  refine lv_aload_n hx hb dX3_digitAtCursor_0 rfl (lv_at hl 0 rfl) ?_
  refine goI (n := 4) (ws' := [((td 0), txC td (T 0)), ((td 1), arC cC 60 (T 1)), ((td 2), arC cI 30 (T 2)), ((td 3), arC cI 30 (T 3))]) (rs := []) (va_runV (As := []) (rest := []) ⟨hx, hb, hml, hown, hts⟩ (c_X3_hasSign l D cI cC cS td T  _) (cwV 0 hts gX3_digitAtCursor_X3_hasSign rfl rfl rfl (by decide +kernel) ⟨Nat.le_of_ble_eq_true rfl, Nat.le_of_ble_eq_true rfl⟩) (preV hK hP hD [0, 1, 2, 3] (by decide) rfl 0 3 rfl rfl) rfl rfl hl.1 rfl (lv_room (Nat.le_of_ble_eq_true rfl)) dX3_digitAtCursor_1 ⟨Nat.zero_le _, Nat.zero_le _⟩) hP hD hS hA [0, 1, 2, 3] [] rfl rfl rfl rfl rfl (by decide +kernel) rfl (fun H locs hP hD hS => ?_)
  refine lv_if_eq (tgt := 35) hx hb dX3_digitAtCursor_4 (by decide) (fun c4 => ?_) (fun c4 => ?_)
  · have hr := hr.trans (if_pos c4)
    refine lv_iconst (v := (-1 : Int32)) hx hb dX3_digitAtCursor_35 (by decide) ?_
    exact endI (v := (-1 : Int32)) hb hx hsg hr.symm hP hD hS dX3_digitAtCursor_36 hlocks
  · have hr := hr.trans (if_neg c4)
    refine lv_aload_n hx hb dX3_digitAtCursor_7 rfl (lv_at hl 0 rfl) ?_
    refine va_get (D := D) (ci := 3) (v := .ref (td 1)) (C := RX3) (T := TX3) (N := 6) hx hb hts inX3 hown hK.1 hP 0 rfl rfl 0 (by decide) (hts (.fieldLink RX3 9 "GrayPointers$Text" "signs" "[C") (List.mem_of_getElem? (i := 1) rfl)) (fun _ h9 => h9) rfl dX3_digitAtCursor_8 ?_
    refine lv_aload_n hx hb dX3_digitAtCursor_11 rfl (lv_at hl 0 rfl) ?_
    refine va_get (D := D) (ci := 3) (v := .int ((T 0) 5)) (C := RX3) (T := TX3) (N := 6) hx hb hts inX3 hown hK.1 hP 0 rfl rfl 5 (by decide) (hts (.fieldLink RX3 29 "GrayPointers$Text" "cursor" "I") (List.mem_of_getElem? (i := 2) rfl)) (fun _ h9 => h9) rfl dX3_digitAtCursor_12 ?_
    refine va_cald hx hb hK.1 hP 1 1 rfl rfl (i := ((T 0) 5)) (hasSign_in c4) dX3_digitAtCursor_15 ?_
    refine lv_bipush (v := (48 : Int32)) hx hb dX3_digitAtCursor_16 (by decide) ?_
    refine lv_icmp_lt (tgt := 35) hx hb dX3_digitAtCursor_18 (by decide) (fun c18 => ?_) (fun c18 => ?_)
    · have hr := hr.trans (if_pos c18)
      refine lv_iconst (v := (-1 : Int32)) hx hb dX3_digitAtCursor_35 (by decide) ?_
      exact endI (v := (-1 : Int32)) hb hx hsg hr.symm hP hD hS dX3_digitAtCursor_36 hlocks
    · have hr := hr.trans (if_neg c18)
      refine lv_aload_n hx hb dX3_digitAtCursor_21 rfl (lv_at hl 0 rfl) ?_
      refine va_get (D := D) (ci := 3) (v := .ref (td 1)) (C := RX3) (T := TX3) (N := 6) hx hb hts inX3 hown hK.1 hP 0 rfl rfl 0 (by decide) (hts (.fieldLink RX3 9 "GrayPointers$Text" "signs" "[C") (List.mem_of_getElem? (i := 1) rfl)) (fun _ h9 => h9) rfl dX3_digitAtCursor_22 ?_
      refine lv_aload_n hx hb dX3_digitAtCursor_25 rfl (lv_at hl 0 rfl) ?_
      refine va_get (D := D) (ci := 3) (v := .int ((T 0) 5)) (C := RX3) (T := TX3) (N := 6) hx hb hts inX3 hown hK.1 hP 0 rfl rfl 5 (by decide) (hts (.fieldLink RX3 29 "GrayPointers$Text" "cursor" "I") (List.mem_of_getElem? (i := 2) rfl)) (fun _ h9 => h9) rfl dX3_digitAtCursor_26 ?_
      refine va_cald hx hb hK.1 hP 1 1 rfl rfl (i := ((T 0) 5)) (hasSign_in c4) dX3_digitAtCursor_29 ?_
      refine lv_bipush (v := (57 : Int32)) hx hb dX3_digitAtCursor_30 (by decide) ?_
      refine lv_icmp_le (tgt := 37) hx hb dX3_digitAtCursor_32 (by decide) (fun c32 => ?_) (fun c32 => ?_)
      · have hr := hr.trans (if_pos c32)
        refine lv_aload_n hx hb dX3_digitAtCursor_37 rfl (lv_at hl 0 rfl) ?_
        refine va_get (D := D) (ci := 3) (v := .ref (td 1)) (C := RX3) (T := TX3) (N := 6) hx hb hts inX3 hown hK.1 hP 0 rfl rfl 0 (by decide) (hts (.fieldLink RX3 9 "GrayPointers$Text" "signs" "[C") (List.mem_of_getElem? (i := 1) rfl)) (fun _ h9 => h9) rfl dX3_digitAtCursor_38 ?_
        refine lv_aload_n hx hb dX3_digitAtCursor_41 rfl (lv_at hl 0 rfl) ?_
        refine va_get (D := D) (ci := 3) (v := .int ((T 0) 5)) (C := RX3) (T := TX3) (N := 6) hx hb hts inX3 hown hK.1 hP 0 rfl rfl 5 (by decide) (hts (.fieldLink RX3 29 "GrayPointers$Text" "cursor" "I") (List.mem_of_getElem? (i := 2) rfl)) (fun _ h9 => h9) rfl dX3_digitAtCursor_42 ?_
        refine va_cald hx hb hK.1 hP 1 1 rfl rfl (i := ((T 0) 5)) (hasSign_in c4) dX3_digitAtCursor_45 ?_
        refine lv_bipush (v := (48 : Int32)) hx hb dX3_digitAtCursor_46 (by decide) ?_
        refine lv_isub hx hb dX3_digitAtCursor_48 ?_
        exact endI (v := (((T 1) ((T 0) 5).toNatClampNeg) - (48 : Int32))) hb hx hsg hr.symm hP hD hS dX3_digitAtCursor_49 hlocks
      · have hr := hr.trans (if_neg c32)
        refine lv_iconst (v := (-1 : Int32)) hx hb dX3_digitAtCursor_35 (by decide) ?_
        exact endI (v := (-1 : Int32)) hb hx hsg hr.symm hP hD hS dX3_digitAtCursor_36 hlocks
def r_X3_addPart (T : CS) (a1 : Int32) (a2 : Int32) : Int32 := (if ((T 0) 4) < (30 : Int32) then ((fun (z_1 : F1) => ((fun (z_2 : F1) => ((fun (z_3 : CS) => (1 : Int32)) (va_up (va_up (va_up T 0 (upd (T 0) 4 (((T 0) 4) + (1 : Int32)))) 2 z_1) 3 z_2))) (p_X4_setAt (T 3) ((T 0) 4) a2 30))) (p_X4_setAt (T 2) ((T 0) 4) a1 30)) else (0 : Int32))
def p_X3_addPart (T : CS) (a1 : Int32) (a2 : Int32) : CS := (if ((T 0) 4) < (30 : Int32) then ((fun (z_1 : F1) => ((fun (z_2 : F1) => ((fun (z_3 : CS) => z_3) (va_up (va_up (va_up T 0 (upd (T 0) 4 (((T 0) 4) + (1 : Int32)))) 2 z_1) 3 z_2))) (p_X4_setAt (T 3) ((T 0) 4) a2 30))) (p_X4_setAt (T 2) ((T 0) 4) a1 30)) else T)
abbrev rm_X3_addPart : Room := { frames := 1, cells := 0, slots := 0, locals := 22 }
set_option maxHeartbeats 4000000 in
set_option maxRecDepth 100000 in
theorem c_X3_addPart (l : Launch) (D : va_G) (cI cC cS : ClassId) (td : Nat → Nat) (T : CS) (a1 : Int32) (a2 : Int32)  : CI l D cI cC cS yX3_addPart wsX3_addPart rm_X3_addPart [.ref (td 0), .int a1, .int a2] (txW cI cC td T) (txW cI cC td (p_X3_addPart T a1 a2)) (r_X3_addPart T a1 a2) := by
  intro sz
  refine startC (cc := cX3_addPart) (maxL := 3) (ret := (some .boolean)) (by decide) rfl (Nat.le_of_ble_eq_true rfl) ?_
  intro p e s m args below meth c hx hb hml hsg hts hown hlocks hin hK A hA hS hP hD ls hl
  have hown : s.vm.findClass RX3 = some m.cls := hown
  have hl : lv_has ls 3 [(0, .ref (td 0)), (1, .int a1), (2, .int a2)] := hl
  have hP : va_P D vwCl [((td 0), txC td (T 0)), ((td 1), arC cC 60 (T 1)), ((td 2), arC cI 30 (T 2)), ((td 3), arC cI 30 (T 3))] s.heap := hP
  have hD : va_D A [((td 0), txC td (T 0)), ((td 1), arC cC 60 (T 1)), ((td 2), arC cI 30 (T 2)), ((td 3), arC cI 30 (T 3))] := hD
  have inX3 : ∀ w ∈ wsX30, w ∈ wsX3_addPart := fun _ h => List.mem_cons_of_mem _ (List.mem_append_right _ h)
  have hr : (r_X3_addPart T a1 a2) = (if ((T 0) 4) < (30 : Int32) then ((fun (z_1 : F1) => ((fun (z_2 : F1) => ((fun (z_3 : CS) => (1 : Int32)) (va_up (va_up (va_up T 0 (upd (T 0) 4 (((T 0) 4) + (1 : Int32)))) 2 z_1) 3 z_2))) (p_X4_setAt (T 3) ((T 0) 4) a2 30))) (p_X4_setAt (T 2) ((T 0) 4) a1 30)) else (0 : Int32)) := rfl
  have hp : (p_X3_addPart T a1 a2) = (if ((T 0) 4) < (30 : Int32) then ((fun (z_1 : F1) => ((fun (z_2 : F1) => ((fun (z_3 : CS) => z_3) (va_up (va_up (va_up T 0 (upd (T 0) 4 (((T 0) 4) + (1 : Int32)))) 2 z_1) 3 z_2))) (p_X4_setAt (T 3) ((T 0) 4) a2 30))) (p_X4_setAt (T 2) ((T 0) 4) a1 30)) else T) := rfl
  refine lv_aload_n hx hb dX3_addPart_0 rfl (lv_at hl 0 rfl) ?_
  refine va_get (D := D) (ci := 3) (v := .int ((T 0) 4)) (C := RX3) (T := TX3) (N := 6) hx hb hts inX3 hown hK.1 hP 0 rfl rfl 4 (by decide) (hts (.fieldLink RX3 26 "GrayPointers$Text" "parts" "I") (List.mem_of_getElem? (i := 1) rfl)) (fun _ h9 => h9) rfl dX3_addPart_1 ?_
  refine lv_bipush (v := (30 : Int32)) hx hb dX3_addPart_4 (by decide) ?_
  refine lv_icmp_lt (tgt := 11) hx hb dX3_addPart_6 (by decide) (fun c6 => ?_) (fun c6 => ?_)
  · have hr := hr.trans (if_pos c6)
    have hp := hp.trans (if_pos c6)
    refine lv_aload_n hx hb dX3_addPart_11 rfl (lv_at hl 0 rfl) ?_
    refine va_get (D := D) (ci := 3) (v := .ref (td 2)) (C := RX3) (T := TX3) (N := 6) hx hb hts inX3 hown hK.1 hP 0 rfl rfl 2 (by decide) (hts (.fieldLink RX3 15 "GrayPointers$Text" "partWords" "[I") (List.mem_of_getElem? (i := 2) rfl)) (fun _ h9 => h9) rfl dX3_addPart_12 ?_
    refine lv_aload_n hx hb dX3_addPart_15 rfl (lv_at hl 0 rfl) ?_
    refine va_get (D := D) (ci := 3) (v := .int ((T 0) 4)) (C := RX3) (T := TX3) (N := 6) hx hb hts inX3 hown hK.1 hP 0 rfl rfl 4 (by decide) (hts (.fieldLink RX3 26 "GrayPointers$Text" "parts" "I") (List.mem_of_getElem? (i := 1) rfl)) (fun _ h9 => h9) rfl dX3_addPart_16 ?_
    refine lv_iload_n hx hb dX3_addPart_19 rfl (lv_at hl 1 rfl) ?_
    refine goV (n := 4) (ws' := [((td 0), txC td (T 0)), ((td 1), arC cC 60 (T 1)), ((td 2), arC cI 30 (p_X4_setAt (T 2) ((T 0) 4) a1 30)), ((td 3), arC cI 30 (T 3))]) (rs := [((td 0), txC td (T 0)), ((td 1), arC cC 60 (T 1)), ((td 3), arC cI 30 (T 3))]) (va_runSN (As := [.ref (td 2), .int ((T 0) 4), .int a1]) (rest := []) ⟨hx, hb, hml, hown, hts⟩ (c_X4_setAt l D cI cC cS (td 2) (T 2) ((T 0) 4) a1 30 (by decide) _) ⟨va_cnB 3 hts gX3_addPart_X4_setAt_n59 rfl rfl rfl (hK.nw 36 rfl) (hts (.initialized RX4) (List.mem_of_getElem? (i := 5) rfl)) (by decide +kernel) ⟨Nat.le_of_ble_eq_true rfl, Nat.le_of_ble_eq_true rfl⟩, (hts (.static yX4_setAt) (List.mem_of_getElem? (i := 4) rfl)), trivial⟩ (preS hK hP hD [2] (by decide) rfl) rfl rfl hl.1 rfl (lv_room (Nat.le_of_ble_eq_true rfl)) dX3_addPart_20 ⟨Nat.zero_le _, Nat.zero_le _⟩) hP hD hS hA [2] [0, 1, 3] rfl rfl rfl rfl rfl (by decide +kernel) (fstE (as := [(td 2)]) rfl rfl) (fun H locs hP hD hS => ?_)
    obtain ⟨z_1, hz_1⟩ : ∃ z : F1, z = (p_X4_setAt (T 2) ((T 0) 4) a1 30) := ⟨_, rfl⟩
    rw [← hz_1] at hP hD
    have hr : (r_X3_addPart T a1 a2) = ((fun (z_2 : F1) => ((fun (z_3 : CS) => (1 : Int32)) (va_up (va_up (va_up T 0 (upd (T 0) 4 (((T 0) 4) + (1 : Int32)))) 2 z_1) 3 z_2))) (p_X4_setAt (T 3) ((T 0) 4) a2 30)) := by subst hz_1; exact hr
    have hp : (p_X3_addPart T a1 a2) = ((fun (z_2 : F1) => ((fun (z_3 : CS) => z_3) (va_up (va_up (va_up T 0 (upd (T 0) 4 (((T 0) 4) + (1 : Int32)))) 2 z_1) 3 z_2))) (p_X4_setAt (T 3) ((T 0) 4) a2 30)) := by subst hz_1; exact hp
    refine lv_aload_n hx hb dX3_addPart_23 rfl (lv_at hl 0 rfl) ?_
    refine va_get (D := D) (ci := 3) (v := .ref (td 3)) (C := RX3) (T := TX3) (N := 6) hx hb hts inX3 hown hK.1 hP 0 rfl rfl 3 (by decide) (hts (.fieldLink RX3 19 "GrayPointers$Text" "partTimes" "[I") (List.mem_of_getElem? (i := 3) rfl)) (fun _ h9 => h9) rfl dX3_addPart_24 ?_
    refine lv_aload_n hx hb dX3_addPart_27 rfl (lv_at hl 0 rfl) ?_
    refine va_get (D := D) (ci := 3) (v := .int ((T 0) 4)) (C := RX3) (T := TX3) (N := 6) hx hb hts inX3 hown hK.1 hP 0 rfl rfl 4 (by decide) (hts (.fieldLink RX3 26 "GrayPointers$Text" "parts" "I") (List.mem_of_getElem? (i := 1) rfl)) (fun _ h9 => h9) rfl dX3_addPart_28 ?_
    refine lv_iload_n hx hb dX3_addPart_31 rfl (lv_at hl 2 rfl) ?_
    refine goV (n := 4) (ws' := [((td 0), txC td (T 0)), ((td 1), arC cC 60 (T 1)), ((td 2), arC cI 30 z_1), ((td 3), arC cI 30 (p_X4_setAt (T 3) ((T 0) 4) a2 30))]) (rs := [((td 0), txC td (T 0)), ((td 1), arC cC 60 (T 1)), ((td 2), arC cI 30 z_1)]) (va_runSN (As := [.ref (td 3), .int ((T 0) 4), .int a2]) (rest := []) ⟨hx, hb, hml, hown, hts⟩ (c_X4_setAt l D cI cC cS (td 3) (T 3) ((T 0) 4) a2 30 (by decide) _) ⟨va_cnB 3 hts gX3_addPart_X4_setAt_n59 rfl rfl rfl (hK.nw 36 rfl) (hts (.initialized RX4) (List.mem_of_getElem? (i := 5) rfl)) (by decide +kernel) ⟨Nat.le_of_ble_eq_true rfl, Nat.le_of_ble_eq_true rfl⟩, (hts (.static yX4_setAt) (List.mem_of_getElem? (i := 4) rfl)), trivial⟩ (preS hK hP hD [3] (by decide) rfl) rfl rfl hl.1 rfl (lv_room (Nat.le_of_ble_eq_true rfl)) dX3_addPart_32 ⟨Nat.zero_le _, Nat.zero_le _⟩) hP hD hS hA [3] [0, 1, 2] rfl rfl rfl rfl rfl (by decide +kernel) (fstE (as := [(td 3)]) rfl rfl) (fun H locs hP hD hS => ?_)
    obtain ⟨z_2, hz_2⟩ : ∃ z : F1, z = (p_X4_setAt (T 3) ((T 0) 4) a2 30) := ⟨_, rfl⟩
    rw [← hz_2] at hP hD
    have hr : (r_X3_addPart T a1 a2) = ((fun (z_3 : CS) => (1 : Int32)) (va_up (va_up (va_up T 0 (upd (T 0) 4 (((T 0) 4) + (1 : Int32)))) 2 z_1) 3 z_2)) := by subst hz_2; exact hr
    have hp : (p_X3_addPart T a1 a2) = ((fun (z_3 : CS) => z_3) (va_up (va_up (va_up T 0 (upd (T 0) 4 (((T 0) 4) + (1 : Int32)))) 2 z_1) 3 z_2)) := by subst hz_2; exact hp
    refine lv_aload_n hx hb dX3_addPart_35 rfl (lv_at hl 0 rfl) ?_
    refine lv_dup hx hb dX3_addPart_36 rfl ?_
    refine va_get (D := D) (ci := 3) (v := .int ((T 0) 4)) (C := RX3) (T := TX3) (N := 6) hx hb hts inX3 hown hK.1 hP 0 rfl rfl 4 (by decide) (hts (.fieldLink RX3 26 "GrayPointers$Text" "parts" "I") (List.mem_of_getElem? (i := 1) rfl)) (fun _ h9 => h9) rfl dX3_addPart_37 ?_
    refine lv_iconst (v := (1 : Int32)) hx hb dX3_addPart_40 (by decide) ?_
    refine lv_iadd hx hb dX3_addPart_41 ?_
    refine va_put (D := D) (ci := 3) (v := .int (((T 0) 4) + (1 : Int32))) (ty := .int) (C := RX3) (T := TX3) (N := 6) hx hb hts inX3 tyX3 tyX3_ok nmX3 hown hK.1 hP hD hS 0 rfl rfl 4 (by decide) (hts (.fieldLink RX3 26 "GrayPointers$Text" "parts" "I") (List.mem_of_getElem? (i := 1) rfl)) (fun _ h9 => h9) rfl (by decide +kernel) rfl rfl (Nat.le_of_ble_eq_true rfl) dX3_addPart_42 (fun H locs hP hD hS => ?_)
    have hP : va_P D vwCl [((td 0), txC td (upd (T 0) 4 (((T 0) 4) + (1 : Int32)))), ((td 1), arC cC 60 (T 1)), ((td 2), arC cI 30 z_1), ((td 3), arC cI 30 z_2)] H := hP
    have hD : va_D A [((td 0), txC td (upd (T 0) 4 (((T 0) 4) + (1 : Int32)))), ((td 1), arC cC 60 (T 1)), ((td 2), arC cI 30 z_1), ((td 3), arC cI 30 z_2)] := hD
    refine lv_iconst (v := (1 : Int32)) hx hb dX3_addPart_45 (by decide) ?_
    obtain ⟨z_3, hz_3⟩ : ∃ z : CS, z = (va_up (va_up (va_up T 0 (upd (T 0) 4 (((T 0) 4) + (1 : Int32)))) 2 z_1) 3 z_2) := ⟨_, rfl⟩
    have e0 : (z_3 0) = (upd (T 0) 4 (((T 0) 4) + (1 : Int32))) := (congrFun hz_3 0).trans (((va_up_n (by decide)).trans (va_up_n (by decide))).trans va_up_s)
    have e1 : (z_3 1) = (T 1) := (congrFun hz_3 1).trans (((va_up_n (by decide)).trans (va_up_n (by decide))).trans (va_up_n (by decide)))
    have e2 : (z_3 2) = z_1 := (congrFun hz_3 2).trans ((va_up_n (by decide)).trans va_up_s)
    have e3 : (z_3 3) = z_2 := (congrFun hz_3 3).trans va_up_s
    have hP : va_P D vwCl [((td 0), txC td (z_3 0)), ((td 1), arC cC 60 (z_3 1)), ((td 2), arC cI 30 (z_3 2)), ((td 3), arC cI 30 (z_3 3))] H := by rw [e0, e1, e2, e3]; exact hP
    have hD : va_D A [((td 0), txC td (z_3 0)), ((td 1), arC cC 60 (z_3 1)), ((td 2), arC cI 30 (z_3 2)), ((td 3), arC cI 30 (z_3 3))] := by rw [e0, e1, e2, e3]; exact hD
    clear e0 e1 e2 e3
    have hr : (r_X3_addPart T a1 a2) = (1 : Int32) := by subst hz_3; exact hr
    have hp : (p_X3_addPart T a1 a2) = z_3 := by subst hz_3; exact hp
    exact endZ (v := (1 : Int32)) hb hx hsg rfl hr.symm (by rw [hp]; exact hP) (by rw [hp]; exact hD) hS dX3_addPart_46 hlocks
  · have hr := hr.trans (if_neg c6)
    have hp := hp.trans (if_neg c6)
    refine lv_iconst (v := (0 : Int32)) hx hb dX3_addPart_9 (by decide) ?_
    exact endZ (v := (0 : Int32)) hb hx hsg rfl hr.symm (by rw [hp]; exact hP) (by rw [hp]; exact hD) hS dX3_addPart_10 hlocks
theorem addPart_b (T : CS) (a1 a2 : Int32) : narrow .boolean (.int (r_X3_addPart T a1 a2)) = .int (r_X3_addPart T a1 a2) := by
  unfold r_X3_addPart
  split <;> first | exact (rfl : narrow .boolean (.int 1) = .int 1) | exact (rfl : narrow .boolean (.int 0) = .int 0)
def r_X3_readNumber (T : CS) (a1 : Int32) : Int32 := (if a1 ≤ (r_X3_digitAtCursor T) then ((fun (z_1 : CS) => (if (r_X3_digitAtCursor T) = (0 : Int32) then (r_X3_digitAtCursor T) else (if (r_X3_digitAtCursor z_1) = (-1 : Int32) then (r_X3_digitAtCursor T) else ((fun (z_2 : CS) => (((r_X3_digitAtCursor T) * (10 : Int32)) + (r_X3_digitAtCursor z_1))) (va_up z_1 0 (upd (z_1 0) 5 (((z_1 0) 5) + (1 : Int32)))))))) (va_up T 0 (upd (T 0) 5 (((T 0) 5) + (1 : Int32))))) else (-1 : Int32))
def p_X3_readNumber (T : CS) (a1 : Int32) : CS := (if a1 ≤ (r_X3_digitAtCursor T) then ((fun (z_1 : CS) => (if (r_X3_digitAtCursor T) = (0 : Int32) then z_1 else (if (r_X3_digitAtCursor z_1) = (-1 : Int32) then z_1 else ((fun (z_2 : CS) => z_2) (va_up z_1 0 (upd (z_1 0) 5 (((z_1 0) 5) + (1 : Int32)))))))) (va_up T 0 (upd (T 0) 5 (((T 0) 5) + (1 : Int32))))) else T)
abbrev rm_X3_readNumber : Room := { frames := 2, cells := 0, slots := 0, locals := 40 }
set_option maxHeartbeats 4000000 in
set_option maxRecDepth 100000 in
theorem c_X3_readNumber (l : Launch) (D : va_G) (cI cC cS : ClassId) (td : Nat → Nat) (T : CS) (a1 : Int32)  : CI l D cI cC cS yX3_readNumber wsX3_readNumber rm_X3_readNumber [.ref (td 0), .int a1] (txW cI cC td T) (txW cI cC td (p_X3_readNumber T a1)) (r_X3_readNumber T a1) := by
  intro sz
  refine startC (cc := cX3_readNumber) (maxL := 4) (ret := (some .int)) (by decide) rfl (Nat.le_of_ble_eq_true rfl) ?_
  intro p e s m args below meth c hx hb hml hsg hts hown hlocks hin hK A hA hS hP hD ls hl
  have hown : s.vm.findClass RX3 = some m.cls := hown
  have hl : lv_has ls 4 [(0, .ref (td 0)), (1, .int a1)] := hl
  have hP : va_P D vwCl [((td 0), txC td (T 0)), ((td 1), arC cC 60 (T 1)), ((td 2), arC cI 30 (T 2)), ((td 3), arC cI 30 (T 3))] s.heap := hP
  have hD : va_D A [((td 0), txC td (T 0)), ((td 1), arC cC 60 (T 1)), ((td 2), arC cI 30 (T 2)), ((td 3), arC cI 30 (T 3))] := hD
  have inX3 : ∀ w ∈ wsX30, w ∈ wsX3_readNumber := fun _ h => List.mem_cons_of_mem _ (List.mem_append_right _ h)
  have hr : (r_X3_readNumber T a1) = (if a1 ≤ (r_X3_digitAtCursor T) then ((fun (z_1 : CS) => (if (r_X3_digitAtCursor T) = (0 : Int32) then (r_X3_digitAtCursor T) else (if (r_X3_digitAtCursor z_1) = (-1 : Int32) then (r_X3_digitAtCursor T) else ((fun (z_2 : CS) => (((r_X3_digitAtCursor T) * (10 : Int32)) + (r_X3_digitAtCursor z_1))) (va_up z_1 0 (upd (z_1 0) 5 (((z_1 0) 5) + (1 : Int32)))))))) (va_up T 0 (upd (T 0) 5 (((T 0) 5) + (1 : Int32))))) else (-1 : Int32)) := rfl
  have hp : (p_X3_readNumber T a1) = (if a1 ≤ (r_X3_digitAtCursor T) then ((fun (z_1 : CS) => (if (r_X3_digitAtCursor T) = (0 : Int32) then z_1 else (if (r_X3_digitAtCursor z_1) = (-1 : Int32) then z_1 else ((fun (z_2 : CS) => z_2) (va_up z_1 0 (upd (z_1 0) 5 (((z_1 0) 5) + (1 : Int32)))))))) (va_up T 0 (upd (T 0) 5 (((T 0) 5) + (1 : Int32))))) else T) := rfl
  refine lv_aload_n hx hb dX3_readNumber_0 rfl (lv_at hl 0 rfl) ?_
  refine goI (n := 4) (ws' := [((td 0), txC td (T 0)), ((td 1), arC cC 60 (T 1)), ((td 2), arC cI 30 (T 2)), ((td 3), arC cI 30 (T 3))]) (rs := []) (va_runV (As := []) (rest := []) ⟨hx, hb, hml, hown, hts⟩ (c_X3_digitAtCursor l D cI cC cS td T  _) (cwV 0 hts gX3_readNumber_X3_digitAtCursor rfl rfl rfl (by decide +kernel) ⟨Nat.le_of_ble_eq_true rfl, Nat.le_of_ble_eq_true rfl⟩) (preV hK hP hD [0, 1, 2, 3] (by decide) rfl 0 3 rfl rfl) rfl rfl hl.1 rfl (lv_room (Nat.le_of_ble_eq_true rfl)) dX3_readNumber_1 ⟨Nat.zero_le _, Nat.zero_le _⟩) hP hD hS hA [0, 1, 2, 3] [] rfl rfl rfl rfl rfl (by decide +kernel) rfl (fun H locs hP hD hS => ?_)
  refine lv_istore_n (lv' := [(2, .int (r_X3_digitAtCursor T)), (0, .ref (td 0)), (1, .int a1)]) hx hb dX3_readNumber_4 rfl hl (by decide) rfl (fun ls hl => ?_)
  refine lv_iload_n hx hb dX3_readNumber_5 rfl (lv_at hl 0 rfl) ?_
  refine lv_iload_n hx hb dX3_readNumber_6 rfl (lv_at hl 2 rfl) ?_
  refine lv_icmp_ge (tgt := 12) hx hb dX3_readNumber_7 (by decide) (fun c7 => ?_) (fun c7 => ?_)
  · have hr := hr.trans (if_pos c7)
    have hp := hp.trans (if_pos c7)
    refine lv_aload_n hx hb dX3_readNumber_12 rfl (lv_at hl 1 rfl) ?_
    refine lv_dup hx hb dX3_readNumber_13 rfl ?_
    refine va_get (D := D) (ci := 3) (v := .int ((T 0) 5)) (C := RX3) (T := TX3) (N := 6) hx hb hts inX3 hown hK.1 hP 0 rfl rfl 5 (by decide) (hts (.fieldLink RX3 29 "GrayPointers$Text" "cursor" "I") (List.mem_of_getElem? (i := 1) rfl)) (fun _ h9 => h9) rfl dX3_readNumber_14 ?_
    refine lv_iconst (v := (1 : Int32)) hx hb dX3_readNumber_17 (by decide) ?_
    refine lv_iadd hx hb dX3_readNumber_18 ?_
    refine va_put (D := D) (ci := 3) (v := .int (((T 0) 5) + (1 : Int32))) (ty := .int) (C := RX3) (T := TX3) (N := 6) hx hb hts inX3 tyX3 tyX3_ok nmX3 hown hK.1 hP hD hS 0 rfl rfl 5 (by decide) (hts (.fieldLink RX3 29 "GrayPointers$Text" "cursor" "I") (List.mem_of_getElem? (i := 1) rfl)) (fun _ h9 => h9) rfl (by decide +kernel) rfl rfl (Nat.le_of_ble_eq_true rfl) dX3_readNumber_19 (fun H locs hP hD hS => ?_)
    have hP : va_P D vwCl [((td 0), txC td (upd (T 0) 5 (((T 0) 5) + (1 : Int32)))), ((td 1), arC cC 60 (T 1)), ((td 2), arC cI 30 (T 2)), ((td 3), arC cI 30 (T 3))] H := hP
    have hD : va_D A [((td 0), txC td (upd (T 0) 5 (((T 0) 5) + (1 : Int32)))), ((td 1), arC cC 60 (T 1)), ((td 2), arC cI 30 (T 2)), ((td 3), arC cI 30 (T 3))] := hD
    refine lv_aload_n hx hb dX3_readNumber_22 rfl (lv_at hl 1 rfl) ?_
    obtain ⟨z_1, hz_1⟩ : ∃ z : CS, z = (va_up T 0 (upd (T 0) 5 (((T 0) 5) + (1 : Int32)))) := ⟨_, rfl⟩
    have e0 : (z_1 0) = (upd (T 0) 5 (((T 0) 5) + (1 : Int32))) := (congrFun hz_1 0).trans va_up_s
    have e1 : (z_1 1) = (T 1) := (congrFun hz_1 1).trans (va_up_n (by decide))
    have e2 : (z_1 2) = (T 2) := (congrFun hz_1 2).trans (va_up_n (by decide))
    have e3 : (z_1 3) = (T 3) := (congrFun hz_1 3).trans (va_up_n (by decide))
    have hP : va_P D vwCl [((td 0), txC td (z_1 0)), ((td 1), arC cC 60 (z_1 1)), ((td 2), arC cI 30 (z_1 2)), ((td 3), arC cI 30 (z_1 3))] H := by rw [e0, e1, e2, e3]; exact hP
    have hD : va_D A [((td 0), txC td (z_1 0)), ((td 1), arC cC 60 (z_1 1)), ((td 2), arC cI 30 (z_1 2)), ((td 3), arC cI 30 (z_1 3))] := by rw [e0, e1, e2, e3]; exact hD
    clear e0 e1 e2 e3
    have hr : (r_X3_readNumber T a1) = (if (r_X3_digitAtCursor T) = (0 : Int32) then (r_X3_digitAtCursor T) else (if (r_X3_digitAtCursor z_1) = (-1 : Int32) then (r_X3_digitAtCursor T) else ((fun (z_2 : CS) => (((r_X3_digitAtCursor T) * (10 : Int32)) + (r_X3_digitAtCursor z_1))) (va_up z_1 0 (upd (z_1 0) 5 (((z_1 0) 5) + (1 : Int32))))))) := by subst hz_1; exact hr
    have hp : (p_X3_readNumber T a1) = (if (r_X3_digitAtCursor T) = (0 : Int32) then z_1 else (if (r_X3_digitAtCursor z_1) = (-1 : Int32) then z_1 else ((fun (z_2 : CS) => z_2) (va_up z_1 0 (upd (z_1 0) 5 (((z_1 0) 5) + (1 : Int32))))))) := by subst hz_1; exact hp
    refine goI (n := 4) (ws' := [((td 0), txC td (z_1 0)), ((td 1), arC cC 60 (z_1 1)), ((td 2), arC cI 30 (z_1 2)), ((td 3), arC cI 30 (z_1 3))]) (rs := []) (va_runV (As := []) (rest := []) ⟨hx, hb, hml, hown, hts⟩ (c_X3_digitAtCursor l D cI cC cS td z_1  _) (cwV 0 hts gX3_readNumber_X3_digitAtCursor rfl rfl rfl (by decide +kernel) ⟨Nat.le_of_ble_eq_true rfl, Nat.le_of_ble_eq_true rfl⟩) (preV hK hP hD [0, 1, 2, 3] (by decide) rfl 0 3 rfl rfl) rfl rfl hl.1 rfl (lv_room (Nat.le_of_ble_eq_true rfl)) dX3_readNumber_23 ⟨Nat.zero_le _, Nat.zero_le _⟩) hP hD hS hA [0, 1, 2, 3] [] rfl rfl rfl rfl rfl (by decide +kernel) rfl (fun H locs hP hD hS => ?_)
    refine lv_istore_n (lv' := [(3, .int (r_X3_digitAtCursor z_1)), (2, .int (r_X3_digitAtCursor T)), (0, .ref (td 0)), (1, .int a1)]) hx hb dX3_readNumber_26 rfl hl (by decide) rfl (fun ls hl => ?_)
    refine lv_iload_n hx hb dX3_readNumber_27 rfl (lv_at hl 1 rfl) ?_
    refine lv_if_eq (tgt := 36) hx hb dX3_readNumber_28 (by decide) (fun c28 => ?_) (fun c28 => ?_)
    · have hr := hr.trans (if_pos c28)
      have hp := hp.trans (if_pos c28)
      refine lv_iload_n hx hb dX3_readNumber_36 rfl (lv_at hl 1 rfl) ?_
      exact endI (v := (r_X3_digitAtCursor T)) hb hx hsg hr.symm (by rw [hp]; exact hP) (by rw [hp]; exact hD) hS dX3_readNumber_37 hlocks
    · have hr := hr.trans (if_neg c28)
      have hp := hp.trans (if_neg c28)
      refine lv_iload_n hx hb dX3_readNumber_31 rfl (lv_at hl 0 rfl) ?_
      refine lv_iconst (v := (-1 : Int32)) hx hb dX3_readNumber_32 (by decide) ?_
      refine lv_icmp_ne (tgt := 38) hx hb dX3_readNumber_33 (by decide) (fun c33 => ?_) (fun c33 => ?_)
      · have hr := hr.trans (if_neg c33)
        have hp := hp.trans (if_neg c33)
        refine lv_aload_n hx hb dX3_readNumber_38 rfl (lv_at hl 2 rfl) ?_
        refine lv_dup hx hb dX3_readNumber_39 rfl ?_
        refine va_get (D := D) (ci := 3) (v := .int ((z_1 0) 5)) (C := RX3) (T := TX3) (N := 6) hx hb hts inX3 hown hK.1 hP 0 rfl rfl 5 (by decide) (hts (.fieldLink RX3 29 "GrayPointers$Text" "cursor" "I") (List.mem_of_getElem? (i := 1) rfl)) (fun _ h9 => h9) rfl dX3_readNumber_40 ?_
        refine lv_iconst (v := (1 : Int32)) hx hb dX3_readNumber_43 (by decide) ?_
        refine lv_iadd hx hb dX3_readNumber_44 ?_
        refine va_put (D := D) (ci := 3) (v := .int (((z_1 0) 5) + (1 : Int32))) (ty := .int) (C := RX3) (T := TX3) (N := 6) hx hb hts inX3 tyX3 tyX3_ok nmX3 hown hK.1 hP hD hS 0 rfl rfl 5 (by decide) (hts (.fieldLink RX3 29 "GrayPointers$Text" "cursor" "I") (List.mem_of_getElem? (i := 1) rfl)) (fun _ h9 => h9) rfl (by decide +kernel) rfl rfl (Nat.le_of_ble_eq_true rfl) dX3_readNumber_45 (fun H locs hP hD hS => ?_)
        have hP : va_P D vwCl [((td 0), txC td (upd (z_1 0) 5 (((z_1 0) 5) + (1 : Int32)))), ((td 1), arC cC 60 (z_1 1)), ((td 2), arC cI 30 (z_1 2)), ((td 3), arC cI 30 (z_1 3))] H := hP
        have hD : va_D A [((td 0), txC td (upd (z_1 0) 5 (((z_1 0) 5) + (1 : Int32)))), ((td 1), arC cC 60 (z_1 1)), ((td 2), arC cI 30 (z_1 2)), ((td 3), arC cI 30 (z_1 3))] := hD
        refine lv_iload_n hx hb dX3_readNumber_48 rfl (lv_at hl 1 rfl) ?_
        refine lv_bipush (v := (10 : Int32)) hx hb dX3_readNumber_49 (by decide) ?_
        refine lv_imul hx hb dX3_readNumber_51 ?_
        refine lv_iload_n hx hb dX3_readNumber_52 rfl (lv_at hl 0 rfl) ?_
        refine lv_iadd hx hb dX3_readNumber_53 ?_
        obtain ⟨z_2, hz_2⟩ : ∃ z : CS, z = (va_up z_1 0 (upd (z_1 0) 5 (((z_1 0) 5) + (1 : Int32)))) := ⟨_, rfl⟩
        have e0 : (z_2 0) = (upd (z_1 0) 5 (((z_1 0) 5) + (1 : Int32))) := (congrFun hz_2 0).trans va_up_s
        have e1 : (z_2 1) = (z_1 1) := (congrFun hz_2 1).trans (va_up_n (by decide))
        have e2 : (z_2 2) = (z_1 2) := (congrFun hz_2 2).trans (va_up_n (by decide))
        have e3 : (z_2 3) = (z_1 3) := (congrFun hz_2 3).trans (va_up_n (by decide))
        have hP : va_P D vwCl [((td 0), txC td (z_2 0)), ((td 1), arC cC 60 (z_2 1)), ((td 2), arC cI 30 (z_2 2)), ((td 3), arC cI 30 (z_2 3))] H := by rw [e0, e1, e2, e3]; exact hP
        have hD : va_D A [((td 0), txC td (z_2 0)), ((td 1), arC cC 60 (z_2 1)), ((td 2), arC cI 30 (z_2 2)), ((td 3), arC cI 30 (z_2 3))] := by rw [e0, e1, e2, e3]; exact hD
        clear e0 e1 e2 e3
        have hr : (r_X3_readNumber T a1) = (((r_X3_digitAtCursor T) * (10 : Int32)) + (r_X3_digitAtCursor z_1)) := by subst hz_2; exact hr
        have hp : (p_X3_readNumber T a1) = z_2 := by subst hz_2; exact hp
        exact endI (v := (((r_X3_digitAtCursor T) * (10 : Int32)) + (r_X3_digitAtCursor z_1))) hb hx hsg hr.symm (by rw [hp]; exact hP) (by rw [hp]; exact hD) hS dX3_readNumber_54 hlocks
      · have hr := hr.trans (if_pos c33)
        have hp := hp.trans (if_pos c33)
        refine lv_iload_n hx hb dX3_readNumber_36 rfl (lv_at hl 1 rfl) ?_
        exact endI (v := (r_X3_digitAtCursor T)) hb hx hsg hr.symm (by rw [hp]; exact hP) (by rw [hp]; exact hD) hS dX3_readNumber_37 hlocks
  · have hr := hr.trans (if_neg c7)
    have hp := hp.trans (if_neg c7)
    refine lv_iconst (v := (-1 : Int32)) hx hb dX3_readNumber_10 (by decide) ?_
    exact endI (v := (-1 : Int32)) hb hx hsg hr.symm (by rw [hp]; exact hP) (by rw [hp]; exact hD) hS dX3_readNumber_11 hlocks
def r_X3_readPart (T : CS) : Int32 := ((fun (z_1 : CS) => (if (r_X3_readSign T (46 : Int32)) = (0 : Int32) then ((fun (z_2 : CS) => (if (r_X3_readNumber z_1 (0 : Int32)) = (-1 : Int32) then (0 : Int32) else ((fun (z_3 : CS) => (if (r_X3_readSign z_2 (120 : Int32)) = (0 : Int32) then ((fun (z_6 : CS) => (r_X3_addPart z_3 (r_X3_readNumber z_1 (0 : Int32)) (1 : Int32))) (p_X3_addPart z_3 (r_X3_readNumber z_1 (0 : Int32)) (1 : Int32))) else (if (2 : Int32) ≤ (r_X3_digitAtCursor z_3) then ((fun (z_4 : CS) => ((fun (z_5 : CS) => (r_X3_addPart z_4 (r_X3_readNumber z_1 (0 : Int32)) (r_X3_digitAtCursor z_3))) (p_X3_addPart z_4 (r_X3_readNumber z_1 (0 : Int32)) (r_X3_digitAtCursor z_3)))) (va_up z_3 0 (upd (z_3 0) 5 (((z_3 0) 5) + (1 : Int32))))) else (0 : Int32)))) (p_X3_readSign z_2 (120 : Int32))))) (p_X3_readNumber z_1 (0 : Int32))) else ((fun (z_7 : CS) => (if (r_X3_readNumber z_1 (1 : Int32)) = (-1 : Int32) then (0 : Int32) else ((fun (z_8 : CS) => (if (r_X3_addPart z_7 (-1 : Int32) (r_X3_readNumber z_1 (1 : Int32))) = (0 : Int32) then (0 : Int32) else (1 : Int32))) (p_X3_addPart z_7 (-1 : Int32) (r_X3_readNumber z_1 (1 : Int32)))))) (p_X3_readNumber z_1 (1 : Int32))))) (p_X3_readSign T (46 : Int32)))
def p_X3_readPart (T : CS) : CS := ((fun (z_1 : CS) => (if (r_X3_readSign T (46 : Int32)) = (0 : Int32) then ((fun (z_2 : CS) => (if (r_X3_readNumber z_1 (0 : Int32)) = (-1 : Int32) then z_2 else ((fun (z_3 : CS) => (if (r_X3_readSign z_2 (120 : Int32)) = (0 : Int32) then ((fun (z_6 : CS) => z_6) (p_X3_addPart z_3 (r_X3_readNumber z_1 (0 : Int32)) (1 : Int32))) else (if (2 : Int32) ≤ (r_X3_digitAtCursor z_3) then ((fun (z_4 : CS) => ((fun (z_5 : CS) => z_5) (p_X3_addPart z_4 (r_X3_readNumber z_1 (0 : Int32)) (r_X3_digitAtCursor z_3)))) (va_up z_3 0 (upd (z_3 0) 5 (((z_3 0) 5) + (1 : Int32))))) else z_3))) (p_X3_readSign z_2 (120 : Int32))))) (p_X3_readNumber z_1 (0 : Int32))) else ((fun (z_7 : CS) => (if (r_X3_readNumber z_1 (1 : Int32)) = (-1 : Int32) then z_7 else ((fun (z_8 : CS) => (if (r_X3_addPart z_7 (-1 : Int32) (r_X3_readNumber z_1 (1 : Int32))) = (0 : Int32) then z_8 else z_8)) (p_X3_addPart z_7 (-1 : Int32) (r_X3_readNumber z_1 (1 : Int32)))))) (p_X3_readNumber z_1 (1 : Int32))))) (p_X3_readSign T (46 : Int32)))
abbrev rm_X3_readPart : Room := { frames := 3, cells := 0, slots := 0, locals := 63 }
set_option maxHeartbeats 4000000 in
set_option maxRecDepth 100000 in
theorem c_X3_readPart (l : Launch) (D : va_G) (cI cC cS : ClassId) (td : Nat → Nat) (T : CS)  : CI l D cI cC cS yX3_readPart wsX3_readPart rm_X3_readPart [.ref (td 0)] (txW cI cC td T) (txW cI cC td (p_X3_readPart T)) (r_X3_readPart T) := by
  intro sz
  refine startC (cc := cX3_readPart) (maxL := 3) (ret := (some .boolean)) (by decide) rfl (Nat.le_of_ble_eq_true rfl) ?_
  intro p e s m args below meth c hx hb hml hsg hts hown hlocks hin hK A hA hS hP hD ls hl
  have hown : s.vm.findClass RX3 = some m.cls := hown
  have hl : lv_has ls 3 [(0, .ref (td 0))] := hl
  have hP : va_P D vwCl [((td 0), txC td (T 0)), ((td 1), arC cC 60 (T 1)), ((td 2), arC cI 30 (T 2)), ((td 3), arC cI 30 (T 3))] s.heap := hP
  have hD : va_D A [((td 0), txC td (T 0)), ((td 1), arC cC 60 (T 1)), ((td 2), arC cI 30 (T 2)), ((td 3), arC cI 30 (T 3))] := hD
  have inX3 : ∀ w ∈ wsX30, w ∈ wsX3_readPart := fun _ h => List.mem_cons_of_mem _ (List.mem_append_right _ h)
  have hr : (r_X3_readPart T) = ((fun (z_1 : CS) => (if (r_X3_readSign T (46 : Int32)) = (0 : Int32) then ((fun (z_2 : CS) => (if (r_X3_readNumber z_1 (0 : Int32)) = (-1 : Int32) then (0 : Int32) else ((fun (z_3 : CS) => (if (r_X3_readSign z_2 (120 : Int32)) = (0 : Int32) then ((fun (z_6 : CS) => (r_X3_addPart z_3 (r_X3_readNumber z_1 (0 : Int32)) (1 : Int32))) (p_X3_addPart z_3 (r_X3_readNumber z_1 (0 : Int32)) (1 : Int32))) else (if (2 : Int32) ≤ (r_X3_digitAtCursor z_3) then ((fun (z_4 : CS) => ((fun (z_5 : CS) => (r_X3_addPart z_4 (r_X3_readNumber z_1 (0 : Int32)) (r_X3_digitAtCursor z_3))) (p_X3_addPart z_4 (r_X3_readNumber z_1 (0 : Int32)) (r_X3_digitAtCursor z_3)))) (va_up z_3 0 (upd (z_3 0) 5 (((z_3 0) 5) + (1 : Int32))))) else (0 : Int32)))) (p_X3_readSign z_2 (120 : Int32))))) (p_X3_readNumber z_1 (0 : Int32))) else ((fun (z_7 : CS) => (if (r_X3_readNumber z_1 (1 : Int32)) = (-1 : Int32) then (0 : Int32) else ((fun (z_8 : CS) => (if (r_X3_addPart z_7 (-1 : Int32) (r_X3_readNumber z_1 (1 : Int32))) = (0 : Int32) then (0 : Int32) else (1 : Int32))) (p_X3_addPart z_7 (-1 : Int32) (r_X3_readNumber z_1 (1 : Int32)))))) (p_X3_readNumber z_1 (1 : Int32))))) (p_X3_readSign T (46 : Int32))) := rfl
  have hp : (p_X3_readPart T) = ((fun (z_1 : CS) => (if (r_X3_readSign T (46 : Int32)) = (0 : Int32) then ((fun (z_2 : CS) => (if (r_X3_readNumber z_1 (0 : Int32)) = (-1 : Int32) then z_2 else ((fun (z_3 : CS) => (if (r_X3_readSign z_2 (120 : Int32)) = (0 : Int32) then ((fun (z_6 : CS) => z_6) (p_X3_addPart z_3 (r_X3_readNumber z_1 (0 : Int32)) (1 : Int32))) else (if (2 : Int32) ≤ (r_X3_digitAtCursor z_3) then ((fun (z_4 : CS) => ((fun (z_5 : CS) => z_5) (p_X3_addPart z_4 (r_X3_readNumber z_1 (0 : Int32)) (r_X3_digitAtCursor z_3)))) (va_up z_3 0 (upd (z_3 0) 5 (((z_3 0) 5) + (1 : Int32))))) else z_3))) (p_X3_readSign z_2 (120 : Int32))))) (p_X3_readNumber z_1 (0 : Int32))) else ((fun (z_7 : CS) => (if (r_X3_readNumber z_1 (1 : Int32)) = (-1 : Int32) then z_7 else ((fun (z_8 : CS) => (if (r_X3_addPart z_7 (-1 : Int32) (r_X3_readNumber z_1 (1 : Int32))) = (0 : Int32) then z_8 else z_8)) (p_X3_addPart z_7 (-1 : Int32) (r_X3_readNumber z_1 (1 : Int32)))))) (p_X3_readNumber z_1 (1 : Int32))))) (p_X3_readSign T (46 : Int32))) := rfl
  refine lv_aload_n hx hb dX3_readPart_0 rfl (lv_at hl 0 rfl) ?_
  refine lv_bipush (v := (46 : Int32)) hx hb dX3_readPart_1 (by decide) ?_
  refine goI (n := 4) (ws' := [((td 0), txC td ((p_X3_readSign T (46 : Int32)) 0)), ((td 1), arC cC 60 ((p_X3_readSign T (46 : Int32)) 1)), ((td 2), arC cI 30 ((p_X3_readSign T (46 : Int32)) 2)), ((td 3), arC cI 30 ((p_X3_readSign T (46 : Int32)) 3))]) (rs := []) (va_runV (As := [.int (46 : Int32)]) (rest := []) ⟨hx, hb, hml, hown, hts⟩ (c_X3_readSign l D cI cC cS td T (46 : Int32)  _) (cwV 1 hts gX3_readPart_X3_readSign rfl rfl rfl (by decide +kernel) ⟨Nat.le_of_ble_eq_true rfl, Nat.le_of_ble_eq_true rfl⟩) (preV hK hP hD [0, 1, 2, 3] (by decide) rfl 0 3 rfl rfl) rfl rfl hl.1 rfl (lv_room (Nat.le_of_ble_eq_true rfl)) dX3_readPart_3 ⟨Nat.zero_le _, Nat.zero_le _⟩) hP hD hS hA [0, 1, 2, 3] [] rfl rfl rfl rfl rfl (by decide +kernel) (fstE (as := [(td 0), (td 1), (td 2), (td 3)]) rfl rfl) (fun H locs hP hD hS => ?_)
  obtain ⟨z_1, hz_1⟩ : ∃ z : CS, z = (p_X3_readSign T (46 : Int32)) := ⟨_, rfl⟩
  rw [← hz_1] at hP hD
  have hr : (r_X3_readPart T) = (if (r_X3_readSign T (46 : Int32)) = (0 : Int32) then ((fun (z_2 : CS) => (if (r_X3_readNumber z_1 (0 : Int32)) = (-1 : Int32) then (0 : Int32) else ((fun (z_3 : CS) => (if (r_X3_readSign z_2 (120 : Int32)) = (0 : Int32) then ((fun (z_6 : CS) => (r_X3_addPart z_3 (r_X3_readNumber z_1 (0 : Int32)) (1 : Int32))) (p_X3_addPart z_3 (r_X3_readNumber z_1 (0 : Int32)) (1 : Int32))) else (if (2 : Int32) ≤ (r_X3_digitAtCursor z_3) then ((fun (z_4 : CS) => ((fun (z_5 : CS) => (r_X3_addPart z_4 (r_X3_readNumber z_1 (0 : Int32)) (r_X3_digitAtCursor z_3))) (p_X3_addPart z_4 (r_X3_readNumber z_1 (0 : Int32)) (r_X3_digitAtCursor z_3)))) (va_up z_3 0 (upd (z_3 0) 5 (((z_3 0) 5) + (1 : Int32))))) else (0 : Int32)))) (p_X3_readSign z_2 (120 : Int32))))) (p_X3_readNumber z_1 (0 : Int32))) else ((fun (z_7 : CS) => (if (r_X3_readNumber z_1 (1 : Int32)) = (-1 : Int32) then (0 : Int32) else ((fun (z_8 : CS) => (if (r_X3_addPart z_7 (-1 : Int32) (r_X3_readNumber z_1 (1 : Int32))) = (0 : Int32) then (0 : Int32) else (1 : Int32))) (p_X3_addPart z_7 (-1 : Int32) (r_X3_readNumber z_1 (1 : Int32)))))) (p_X3_readNumber z_1 (1 : Int32)))) := by subst hz_1; exact hr
  have hp : (p_X3_readPart T) = (if (r_X3_readSign T (46 : Int32)) = (0 : Int32) then ((fun (z_2 : CS) => (if (r_X3_readNumber z_1 (0 : Int32)) = (-1 : Int32) then z_2 else ((fun (z_3 : CS) => (if (r_X3_readSign z_2 (120 : Int32)) = (0 : Int32) then ((fun (z_6 : CS) => z_6) (p_X3_addPart z_3 (r_X3_readNumber z_1 (0 : Int32)) (1 : Int32))) else (if (2 : Int32) ≤ (r_X3_digitAtCursor z_3) then ((fun (z_4 : CS) => ((fun (z_5 : CS) => z_5) (p_X3_addPart z_4 (r_X3_readNumber z_1 (0 : Int32)) (r_X3_digitAtCursor z_3)))) (va_up z_3 0 (upd (z_3 0) 5 (((z_3 0) 5) + (1 : Int32))))) else z_3))) (p_X3_readSign z_2 (120 : Int32))))) (p_X3_readNumber z_1 (0 : Int32))) else ((fun (z_7 : CS) => (if (r_X3_readNumber z_1 (1 : Int32)) = (-1 : Int32) then z_7 else ((fun (z_8 : CS) => (if (r_X3_addPart z_7 (-1 : Int32) (r_X3_readNumber z_1 (1 : Int32))) = (0 : Int32) then z_8 else z_8)) (p_X3_addPart z_7 (-1 : Int32) (r_X3_readNumber z_1 (1 : Int32)))))) (p_X3_readNumber z_1 (1 : Int32)))) := by subst hz_1; exact hp
  refine lv_if_eq (tgt := 35) hx hb dX3_readPart_6 (by decide) (fun c6 => ?_) (fun c6 => ?_)
  · have hr := hr.trans (if_pos c6)
    have hp := hp.trans (if_pos c6)
    refine lv_aload_n hx hb dX3_readPart_35 rfl (lv_at hl 0 rfl) ?_
    refine lv_iconst (v := (0 : Int32)) hx hb dX3_readPart_36 (by decide) ?_
    refine goI (n := 4) (ws' := [((td 0), txC td ((p_X3_readNumber z_1 (0 : Int32)) 0)), ((td 1), arC cC 60 ((p_X3_readNumber z_1 (0 : Int32)) 1)), ((td 2), arC cI 30 ((p_X3_readNumber z_1 (0 : Int32)) 2)), ((td 3), arC cI 30 ((p_X3_readNumber z_1 (0 : Int32)) 3))]) (rs := []) (va_runV (As := [.int (0 : Int32)]) (rest := []) ⟨hx, hb, hml, hown, hts⟩ (c_X3_readNumber l D cI cC cS td z_1 (0 : Int32)  _) (cwV 1 hts gX3_readPart_X3_readNumber rfl rfl rfl (by decide +kernel) ⟨Nat.le_of_ble_eq_true rfl, Nat.le_of_ble_eq_true rfl⟩) (preV hK hP hD [0, 1, 2, 3] (by decide) rfl 0 3 rfl rfl) rfl rfl hl.1 rfl (lv_room (Nat.le_of_ble_eq_true rfl)) dX3_readPart_37 ⟨Nat.zero_le _, Nat.zero_le _⟩) hP hD hS hA [0, 1, 2, 3] [] rfl rfl rfl rfl rfl (by decide +kernel) (fstE (as := [(td 0), (td 1), (td 2), (td 3)]) rfl rfl) (fun H locs hP hD hS => ?_)
    obtain ⟨z_2, hz_2⟩ : ∃ z : CS, z = (p_X3_readNumber z_1 (0 : Int32)) := ⟨_, rfl⟩
    rw [← hz_2] at hP hD
    have hr : (r_X3_readPart T) = (if (r_X3_readNumber z_1 (0 : Int32)) = (-1 : Int32) then (0 : Int32) else ((fun (z_3 : CS) => (if (r_X3_readSign z_2 (120 : Int32)) = (0 : Int32) then ((fun (z_6 : CS) => (r_X3_addPart z_3 (r_X3_readNumber z_1 (0 : Int32)) (1 : Int32))) (p_X3_addPart z_3 (r_X3_readNumber z_1 (0 : Int32)) (1 : Int32))) else (if (2 : Int32) ≤ (r_X3_digitAtCursor z_3) then ((fun (z_4 : CS) => ((fun (z_5 : CS) => (r_X3_addPart z_4 (r_X3_readNumber z_1 (0 : Int32)) (r_X3_digitAtCursor z_3))) (p_X3_addPart z_4 (r_X3_readNumber z_1 (0 : Int32)) (r_X3_digitAtCursor z_3)))) (va_up z_3 0 (upd (z_3 0) 5 (((z_3 0) 5) + (1 : Int32))))) else (0 : Int32)))) (p_X3_readSign z_2 (120 : Int32)))) := by subst hz_2; exact hr
    have hp : (p_X3_readPart T) = (if (r_X3_readNumber z_1 (0 : Int32)) = (-1 : Int32) then z_2 else ((fun (z_3 : CS) => (if (r_X3_readSign z_2 (120 : Int32)) = (0 : Int32) then ((fun (z_6 : CS) => z_6) (p_X3_addPart z_3 (r_X3_readNumber z_1 (0 : Int32)) (1 : Int32))) else (if (2 : Int32) ≤ (r_X3_digitAtCursor z_3) then ((fun (z_4 : CS) => ((fun (z_5 : CS) => z_5) (p_X3_addPart z_4 (r_X3_readNumber z_1 (0 : Int32)) (r_X3_digitAtCursor z_3)))) (va_up z_3 0 (upd (z_3 0) 5 (((z_3 0) 5) + (1 : Int32))))) else z_3))) (p_X3_readSign z_2 (120 : Int32)))) := by subst hz_2; exact hp
    refine lv_istore_n (lv' := [(1, .int (r_X3_readNumber z_1 (0 : Int32))), (0, .ref (td 0))]) hx hb dX3_readPart_40 rfl hl (by decide) rfl (fun ls hl => ?_)
    refine lv_iload_n hx hb dX3_readPart_41 rfl (lv_at hl 0 rfl) ?_
    refine lv_iconst (v := (-1 : Int32)) hx hb dX3_readPart_42 (by decide) ?_
    refine lv_icmp_ne (tgt := 48) hx hb dX3_readPart_43 (by decide) (fun c43 => ?_) (fun c43 => ?_)
    · have hr := hr.trans (if_neg c43)
      have hp := hp.trans (if_neg c43)
      refine lv_aload_n hx hb dX3_readPart_48 rfl (lv_at hl 1 rfl) ?_
      refine lv_bipush (v := (120 : Int32)) hx hb dX3_readPart_49 (by decide) ?_
      refine goI (n := 4) (ws' := [((td 0), txC td ((p_X3_readSign z_2 (120 : Int32)) 0)), ((td 1), arC cC 60 ((p_X3_readSign z_2 (120 : Int32)) 1)), ((td 2), arC cI 30 ((p_X3_readSign z_2 (120 : Int32)) 2)), ((td 3), arC cI 30 ((p_X3_readSign z_2 (120 : Int32)) 3))]) (rs := []) (va_runV (As := [.int (120 : Int32)]) (rest := []) ⟨hx, hb, hml, hown, hts⟩ (c_X3_readSign l D cI cC cS td z_2 (120 : Int32)  _) (cwV 1 hts gX3_readPart_X3_readSign rfl rfl rfl (by decide +kernel) ⟨Nat.le_of_ble_eq_true rfl, Nat.le_of_ble_eq_true rfl⟩) (preV hK hP hD [0, 1, 2, 3] (by decide) rfl 0 3 rfl rfl) rfl rfl hl.1 rfl (lv_room (Nat.le_of_ble_eq_true rfl)) dX3_readPart_51 ⟨Nat.zero_le _, Nat.zero_le _⟩) hP hD hS hA [0, 1, 2, 3] [] rfl rfl rfl rfl rfl (by decide +kernel) (fstE (as := [(td 0), (td 1), (td 2), (td 3)]) rfl rfl) (fun H locs hP hD hS => ?_)
      obtain ⟨z_3, hz_3⟩ : ∃ z : CS, z = (p_X3_readSign z_2 (120 : Int32)) := ⟨_, rfl⟩
      rw [← hz_3] at hP hD
      have hr : (r_X3_readPart T) = (if (r_X3_readSign z_2 (120 : Int32)) = (0 : Int32) then ((fun (z_6 : CS) => (r_X3_addPart z_3 (r_X3_readNumber z_1 (0 : Int32)) (1 : Int32))) (p_X3_addPart z_3 (r_X3_readNumber z_1 (0 : Int32)) (1 : Int32))) else (if (2 : Int32) ≤ (r_X3_digitAtCursor z_3) then ((fun (z_4 : CS) => ((fun (z_5 : CS) => (r_X3_addPart z_4 (r_X3_readNumber z_1 (0 : Int32)) (r_X3_digitAtCursor z_3))) (p_X3_addPart z_4 (r_X3_readNumber z_1 (0 : Int32)) (r_X3_digitAtCursor z_3)))) (va_up z_3 0 (upd (z_3 0) 5 (((z_3 0) 5) + (1 : Int32))))) else (0 : Int32))) := by subst hz_3; exact hr
      have hp : (p_X3_readPart T) = (if (r_X3_readSign z_2 (120 : Int32)) = (0 : Int32) then ((fun (z_6 : CS) => z_6) (p_X3_addPart z_3 (r_X3_readNumber z_1 (0 : Int32)) (1 : Int32))) else (if (2 : Int32) ≤ (r_X3_digitAtCursor z_3) then ((fun (z_4 : CS) => ((fun (z_5 : CS) => z_5) (p_X3_addPart z_4 (r_X3_readNumber z_1 (0 : Int32)) (r_X3_digitAtCursor z_3)))) (va_up z_3 0 (upd (z_3 0) 5 (((z_3 0) 5) + (1 : Int32))))) else z_3)) := by subst hz_3; exact hp
      refine lv_if_ne (tgt := 64) hx hb dX3_readPart_54 (by decide) (fun c54 => ?_) (fun c54 => ?_)
      · have hr := hr.trans (if_neg c54)
        have hp := hp.trans (if_neg c54)
        refine lv_aload_n hx hb dX3_readPart_64 rfl (lv_at hl 1 rfl) ?_
        refine goI (n := 4) (ws' := [((td 0), txC td (z_3 0)), ((td 1), arC cC 60 (z_3 1)), ((td 2), arC cI 30 (z_3 2)), ((td 3), arC cI 30 (z_3 3))]) (rs := []) (va_runV (As := []) (rest := []) ⟨hx, hb, hml, hown, hts⟩ (c_X3_digitAtCursor l D cI cC cS td z_3  _) (cwV 0 hts gX3_readPart_X3_digitAtCursor rfl rfl rfl (by decide +kernel) ⟨Nat.le_of_ble_eq_true rfl, Nat.le_of_ble_eq_true rfl⟩) (preV hK hP hD [0, 1, 2, 3] (by decide) rfl 0 3 rfl rfl) rfl rfl hl.1 rfl (lv_room (Nat.le_of_ble_eq_true rfl)) dX3_readPart_65 ⟨Nat.zero_le _, Nat.zero_le _⟩) hP hD hS hA [0, 1, 2, 3] [] rfl rfl rfl rfl rfl (by decide +kernel) rfl (fun H locs hP hD hS => ?_)
        refine lv_istore_n (lv' := [(2, .int (r_X3_digitAtCursor z_3)), (1, .int (r_X3_readNumber z_1 (0 : Int32))), (0, .ref (td 0))]) hx hb dX3_readPart_68 rfl hl (by decide) rfl (fun ls hl => ?_)
        refine lv_iload_n hx hb dX3_readPart_69 rfl (lv_at hl 0 rfl) ?_
        refine lv_iconst (v := (2 : Int32)) hx hb dX3_readPart_70 (by decide) ?_
        refine lv_icmp_ge (tgt := 76) hx hb dX3_readPart_71 (by decide) (fun c71 => ?_) (fun c71 => ?_)
        · have hr := hr.trans (if_pos c71)
          have hp := hp.trans (if_pos c71)
          refine lv_aload_n hx hb dX3_readPart_76 rfl (lv_at hl 2 rfl) ?_
          refine lv_dup hx hb dX3_readPart_77 rfl ?_
          refine va_get (D := D) (ci := 3) (v := .int ((z_3 0) 5)) (C := RX3) (T := TX3) (N := 6) hx hb hts inX3 hown hK.1 hP 0 rfl rfl 5 (by decide) (hts (.fieldLink RX3 29 "GrayPointers$Text" "cursor" "I") (List.mem_of_getElem? (i := 1) rfl)) (fun _ h9 => h9) rfl dX3_readPart_78 ?_
          refine lv_iconst (v := (1 : Int32)) hx hb dX3_readPart_81 (by decide) ?_
          refine lv_iadd hx hb dX3_readPart_82 ?_
          refine va_put (D := D) (ci := 3) (v := .int (((z_3 0) 5) + (1 : Int32))) (ty := .int) (C := RX3) (T := TX3) (N := 6) hx hb hts inX3 tyX3 tyX3_ok nmX3 hown hK.1 hP hD hS 0 rfl rfl 5 (by decide) (hts (.fieldLink RX3 29 "GrayPointers$Text" "cursor" "I") (List.mem_of_getElem? (i := 1) rfl)) (fun _ h9 => h9) rfl (by decide +kernel) rfl rfl (Nat.le_of_ble_eq_true rfl) dX3_readPart_83 (fun H locs hP hD hS => ?_)
          have hP : va_P D vwCl [((td 0), txC td (upd (z_3 0) 5 (((z_3 0) 5) + (1 : Int32)))), ((td 1), arC cC 60 (z_3 1)), ((td 2), arC cI 30 (z_3 2)), ((td 3), arC cI 30 (z_3 3))] H := hP
          have hD : va_D A [((td 0), txC td (upd (z_3 0) 5 (((z_3 0) 5) + (1 : Int32)))), ((td 1), arC cC 60 (z_3 1)), ((td 2), arC cI 30 (z_3 2)), ((td 3), arC cI 30 (z_3 3))] := hD
          refine lv_aload_n hx hb dX3_readPart_86 rfl (lv_at hl 2 rfl) ?_
          refine lv_iload_n hx hb dX3_readPart_87 rfl (lv_at hl 1 rfl) ?_
          refine lv_iload_n hx hb dX3_readPart_88 rfl (lv_at hl 0 rfl) ?_
          obtain ⟨z_4, hz_4⟩ : ∃ z : CS, z = (va_up z_3 0 (upd (z_3 0) 5 (((z_3 0) 5) + (1 : Int32)))) := ⟨_, rfl⟩
          have e0 : (z_4 0) = (upd (z_3 0) 5 (((z_3 0) 5) + (1 : Int32))) := (congrFun hz_4 0).trans va_up_s
          have e1 : (z_4 1) = (z_3 1) := (congrFun hz_4 1).trans (va_up_n (by decide))
          have e2 : (z_4 2) = (z_3 2) := (congrFun hz_4 2).trans (va_up_n (by decide))
          have e3 : (z_4 3) = (z_3 3) := (congrFun hz_4 3).trans (va_up_n (by decide))
          have hP : va_P D vwCl [((td 0), txC td (z_4 0)), ((td 1), arC cC 60 (z_4 1)), ((td 2), arC cI 30 (z_4 2)), ((td 3), arC cI 30 (z_4 3))] H := by rw [e0, e1, e2, e3]; exact hP
          have hD : va_D A [((td 0), txC td (z_4 0)), ((td 1), arC cC 60 (z_4 1)), ((td 2), arC cI 30 (z_4 2)), ((td 3), arC cI 30 (z_4 3))] := by rw [e0, e1, e2, e3]; exact hD
          clear e0 e1 e2 e3
          have hr : (r_X3_readPart T) = ((fun (z_5 : CS) => (r_X3_addPart z_4 (r_X3_readNumber z_1 (0 : Int32)) (r_X3_digitAtCursor z_3))) (p_X3_addPart z_4 (r_X3_readNumber z_1 (0 : Int32)) (r_X3_digitAtCursor z_3))) := by subst hz_4; exact hr
          have hp : (p_X3_readPart T) = ((fun (z_5 : CS) => z_5) (p_X3_addPart z_4 (r_X3_readNumber z_1 (0 : Int32)) (r_X3_digitAtCursor z_3))) := by subst hz_4; exact hp
          refine goI (n := 4) (ws' := [((td 0), txC td ((p_X3_addPart z_4 (r_X3_readNumber z_1 (0 : Int32)) (r_X3_digitAtCursor z_3)) 0)), ((td 1), arC cC 60 ((p_X3_addPart z_4 (r_X3_readNumber z_1 (0 : Int32)) (r_X3_digitAtCursor z_3)) 1)), ((td 2), arC cI 30 ((p_X3_addPart z_4 (r_X3_readNumber z_1 (0 : Int32)) (r_X3_digitAtCursor z_3)) 2)), ((td 3), arC cI 30 ((p_X3_addPart z_4 (r_X3_readNumber z_1 (0 : Int32)) (r_X3_digitAtCursor z_3)) 3))]) (rs := []) (va_runV (As := [.int (r_X3_readNumber z_1 (0 : Int32)), .int (r_X3_digitAtCursor z_3)]) (rest := []) ⟨hx, hb, hml, hown, hts⟩ (c_X3_addPart l D cI cC cS td z_4 (r_X3_readNumber z_1 (0 : Int32)) (r_X3_digitAtCursor z_3)  _) (cwV 2 hts gX3_readPart_X3_addPart rfl rfl rfl (by decide +kernel) ⟨Nat.le_of_ble_eq_true rfl, Nat.le_of_ble_eq_true rfl⟩) (preV hK hP hD [0, 1, 2, 3] (by decide) rfl 0 3 rfl rfl) rfl rfl hl.1 rfl (lv_room (Nat.le_of_ble_eq_true rfl)) dX3_readPart_89 ⟨Nat.zero_le _, Nat.zero_le _⟩) hP hD hS hA [0, 1, 2, 3] [] rfl rfl rfl rfl rfl (by decide +kernel) (fstE (as := [(td 0), (td 1), (td 2), (td 3)]) rfl rfl) (fun H locs hP hD hS => ?_)
          obtain ⟨z_5, hz_5⟩ : ∃ z : CS, z = (p_X3_addPart z_4 (r_X3_readNumber z_1 (0 : Int32)) (r_X3_digitAtCursor z_3)) := ⟨_, rfl⟩
          rw [← hz_5] at hP hD
          have hr : (r_X3_readPart T) = (r_X3_addPart z_4 (r_X3_readNumber z_1 (0 : Int32)) (r_X3_digitAtCursor z_3)) := by subst hz_5; exact hr
          have hp : (p_X3_readPart T) = z_5 := by subst hz_5; exact hp
          exact endZ (v := (r_X3_addPart z_4 (r_X3_readNumber z_1 (0 : Int32)) (r_X3_digitAtCursor z_3))) hb hx hsg (addPart_b _ _ _) hr.symm (by rw [hp]; exact hP) (by rw [hp]; exact hD) hS dX3_readPart_92 hlocks
        · have hr := hr.trans (if_neg c71)
          have hp := hp.trans (if_neg c71)
          refine lv_iconst (v := (0 : Int32)) hx hb dX3_readPart_74 (by decide) ?_
          exact endZ (v := (0 : Int32)) hb hx hsg rfl hr.symm (by rw [hp]; exact hP) (by rw [hp]; exact hD) hS dX3_readPart_75 hlocks
      · have hr := hr.trans (if_pos c54)
        have hp := hp.trans (if_pos c54)
        refine lv_aload_n hx hb dX3_readPart_57 rfl (lv_at hl 1 rfl) ?_
        refine lv_iload_n hx hb dX3_readPart_58 rfl (lv_at hl 0 rfl) ?_
        refine lv_iconst (v := (1 : Int32)) hx hb dX3_readPart_59 (by decide) ?_
        refine goI (n := 4) (ws' := [((td 0), txC td ((p_X3_addPart z_3 (r_X3_readNumber z_1 (0 : Int32)) (1 : Int32)) 0)), ((td 1), arC cC 60 ((p_X3_addPart z_3 (r_X3_readNumber z_1 (0 : Int32)) (1 : Int32)) 1)), ((td 2), arC cI 30 ((p_X3_addPart z_3 (r_X3_readNumber z_1 (0 : Int32)) (1 : Int32)) 2)), ((td 3), arC cI 30 ((p_X3_addPart z_3 (r_X3_readNumber z_1 (0 : Int32)) (1 : Int32)) 3))]) (rs := []) (va_runV (As := [.int (r_X3_readNumber z_1 (0 : Int32)), .int (1 : Int32)]) (rest := []) ⟨hx, hb, hml, hown, hts⟩ (c_X3_addPart l D cI cC cS td z_3 (r_X3_readNumber z_1 (0 : Int32)) (1 : Int32)  _) (cwV 2 hts gX3_readPart_X3_addPart rfl rfl rfl (by decide +kernel) ⟨Nat.le_of_ble_eq_true rfl, Nat.le_of_ble_eq_true rfl⟩) (preV hK hP hD [0, 1, 2, 3] (by decide) rfl 0 3 rfl rfl) rfl rfl hl.1 rfl (lv_room (Nat.le_of_ble_eq_true rfl)) dX3_readPart_60 ⟨Nat.zero_le _, Nat.zero_le _⟩) hP hD hS hA [0, 1, 2, 3] [] rfl rfl rfl rfl rfl (by decide +kernel) (fstE (as := [(td 0), (td 1), (td 2), (td 3)]) rfl rfl) (fun H locs hP hD hS => ?_)
        obtain ⟨z_6, hz_6⟩ : ∃ z : CS, z = (p_X3_addPart z_3 (r_X3_readNumber z_1 (0 : Int32)) (1 : Int32)) := ⟨_, rfl⟩
        rw [← hz_6] at hP hD
        have hr : (r_X3_readPart T) = (r_X3_addPart z_3 (r_X3_readNumber z_1 (0 : Int32)) (1 : Int32)) := by subst hz_6; exact hr
        have hp : (p_X3_readPart T) = z_6 := by subst hz_6; exact hp
        exact endZ (v := (r_X3_addPart z_3 (r_X3_readNumber z_1 (0 : Int32)) (1 : Int32))) hb hx hsg (addPart_b _ _ _) hr.symm (by rw [hp]; exact hP) (by rw [hp]; exact hD) hS dX3_readPart_63 hlocks
    · have hr := hr.trans (if_pos c43)
      have hp := hp.trans (if_pos c43)
      refine lv_iconst (v := (0 : Int32)) hx hb dX3_readPart_46 (by decide) ?_
      exact endZ (v := (0 : Int32)) hb hx hsg rfl hr.symm (by rw [hp]; exact hP) (by rw [hp]; exact hD) hS dX3_readPart_47 hlocks
  · have hr := hr.trans (if_neg c6)
    have hp := hp.trans (if_neg c6)
    refine lv_aload_n hx hb dX3_readPart_9 rfl (lv_at hl 0 rfl) ?_
    refine lv_iconst (v := (1 : Int32)) hx hb dX3_readPart_10 (by decide) ?_
    refine goI (n := 4) (ws' := [((td 0), txC td ((p_X3_readNumber z_1 (1 : Int32)) 0)), ((td 1), arC cC 60 ((p_X3_readNumber z_1 (1 : Int32)) 1)), ((td 2), arC cI 30 ((p_X3_readNumber z_1 (1 : Int32)) 2)), ((td 3), arC cI 30 ((p_X3_readNumber z_1 (1 : Int32)) 3))]) (rs := []) (va_runV (As := [.int (1 : Int32)]) (rest := []) ⟨hx, hb, hml, hown, hts⟩ (c_X3_readNumber l D cI cC cS td z_1 (1 : Int32)  _) (cwV 1 hts gX3_readPart_X3_readNumber rfl rfl rfl (by decide +kernel) ⟨Nat.le_of_ble_eq_true rfl, Nat.le_of_ble_eq_true rfl⟩) (preV hK hP hD [0, 1, 2, 3] (by decide) rfl 0 3 rfl rfl) rfl rfl hl.1 rfl (lv_room (Nat.le_of_ble_eq_true rfl)) dX3_readPart_11 ⟨Nat.zero_le _, Nat.zero_le _⟩) hP hD hS hA [0, 1, 2, 3] [] rfl rfl rfl rfl rfl (by decide +kernel) (fstE (as := [(td 0), (td 1), (td 2), (td 3)]) rfl rfl) (fun H locs hP hD hS => ?_)
    obtain ⟨z_7, hz_7⟩ : ∃ z : CS, z = (p_X3_readNumber z_1 (1 : Int32)) := ⟨_, rfl⟩
    rw [← hz_7] at hP hD
    have hr : (r_X3_readPart T) = (if (r_X3_readNumber z_1 (1 : Int32)) = (-1 : Int32) then (0 : Int32) else ((fun (z_8 : CS) => (if (r_X3_addPart z_7 (-1 : Int32) (r_X3_readNumber z_1 (1 : Int32))) = (0 : Int32) then (0 : Int32) else (1 : Int32))) (p_X3_addPart z_7 (-1 : Int32) (r_X3_readNumber z_1 (1 : Int32))))) := by subst hz_7; exact hr
    have hp : (p_X3_readPart T) = (if (r_X3_readNumber z_1 (1 : Int32)) = (-1 : Int32) then z_7 else ((fun (z_8 : CS) => (if (r_X3_addPart z_7 (-1 : Int32) (r_X3_readNumber z_1 (1 : Int32))) = (0 : Int32) then z_8 else z_8)) (p_X3_addPart z_7 (-1 : Int32) (r_X3_readNumber z_1 (1 : Int32))))) := by subst hz_7; exact hp
    refine lv_istore_n (lv' := [(1, .int (r_X3_readNumber z_1 (1 : Int32))), (0, .ref (td 0))]) hx hb dX3_readPart_14 rfl hl (by decide) rfl (fun ls hl => ?_)
    refine lv_iload_n hx hb dX3_readPart_15 rfl (lv_at hl 0 rfl) ?_
    refine lv_iconst (v := (-1 : Int32)) hx hb dX3_readPart_16 (by decide) ?_
    refine lv_icmp_eq (tgt := 33) hx hb dX3_readPart_17 (by decide) (fun c17 => ?_) (fun c17 => ?_)
    · have hr := hr.trans (if_pos c17)
      have hp := hp.trans (if_pos c17)
      refine lv_iconst (v := (0 : Int32)) hx hb dX3_readPart_33 (by decide) ?_
      exact endZ (v := (0 : Int32)) hb hx hsg rfl hr.symm (by rw [hp]; exact hP) (by rw [hp]; exact hD) hS dX3_readPart_34 hlocks
    · have hr := hr.trans (if_neg c17)
      have hp := hp.trans (if_neg c17)
      refine lv_aload_n hx hb dX3_readPart_20 rfl (lv_at hl 1 rfl) ?_
      refine lv_iconst (v := (-1 : Int32)) hx hb dX3_readPart_21 (by decide) ?_
      refine lv_iload_n hx hb dX3_readPart_22 rfl (lv_at hl 0 rfl) ?_
      refine goI (n := 4) (ws' := [((td 0), txC td ((p_X3_addPart z_7 (-1 : Int32) (r_X3_readNumber z_1 (1 : Int32))) 0)), ((td 1), arC cC 60 ((p_X3_addPart z_7 (-1 : Int32) (r_X3_readNumber z_1 (1 : Int32))) 1)), ((td 2), arC cI 30 ((p_X3_addPart z_7 (-1 : Int32) (r_X3_readNumber z_1 (1 : Int32))) 2)), ((td 3), arC cI 30 ((p_X3_addPart z_7 (-1 : Int32) (r_X3_readNumber z_1 (1 : Int32))) 3))]) (rs := []) (va_runV (As := [.int (-1 : Int32), .int (r_X3_readNumber z_1 (1 : Int32))]) (rest := []) ⟨hx, hb, hml, hown, hts⟩ (c_X3_addPart l D cI cC cS td z_7 (-1 : Int32) (r_X3_readNumber z_1 (1 : Int32))  _) (cwV 2 hts gX3_readPart_X3_addPart rfl rfl rfl (by decide +kernel) ⟨Nat.le_of_ble_eq_true rfl, Nat.le_of_ble_eq_true rfl⟩) (preV hK hP hD [0, 1, 2, 3] (by decide) rfl 0 3 rfl rfl) rfl rfl hl.1 rfl (lv_room (Nat.le_of_ble_eq_true rfl)) dX3_readPart_23 ⟨Nat.zero_le _, Nat.zero_le _⟩) hP hD hS hA [0, 1, 2, 3] [] rfl rfl rfl rfl rfl (by decide +kernel) (fstE (as := [(td 0), (td 1), (td 2), (td 3)]) rfl rfl) (fun H locs hP hD hS => ?_)
      obtain ⟨z_8, hz_8⟩ : ∃ z : CS, z = (p_X3_addPart z_7 (-1 : Int32) (r_X3_readNumber z_1 (1 : Int32))) := ⟨_, rfl⟩
      rw [← hz_8] at hP hD
      have hr : (r_X3_readPart T) = (if (r_X3_addPart z_7 (-1 : Int32) (r_X3_readNumber z_1 (1 : Int32))) = (0 : Int32) then (0 : Int32) else (1 : Int32)) := by subst hz_8; exact hr
      have hp : (p_X3_readPart T) = (if (r_X3_addPart z_7 (-1 : Int32) (r_X3_readNumber z_1 (1 : Int32))) = (0 : Int32) then z_8 else z_8) := by subst hz_8; exact hp
      refine lv_if_eq (tgt := 33) hx hb dX3_readPart_26 (by decide) (fun c26 => ?_) (fun c26 => ?_)
      · have hr := hr.trans (if_pos c26)
        have hp := hp.trans (if_pos c26)
        refine lv_iconst (v := (0 : Int32)) hx hb dX3_readPart_33 (by decide) ?_
        exact endZ (v := (0 : Int32)) hb hx hsg rfl hr.symm (by rw [hp]; exact hP) (by rw [hp]; exact hD) hS dX3_readPart_34 hlocks
      · have hr := hr.trans (if_neg c26)
        have hp := hp.trans (if_neg c26)
        refine lv_iconst (v := (1 : Int32)) hx hb dX3_readPart_29 (by decide) ?_
        refine lv_goto (tgt := 34) hx hb dX3_readPart_30 (by decide) ?_
        exact endZ (v := (1 : Int32)) hb hx hsg rfl hr.symm (by rw [hp]; exact hP) (by rw [hp]; exact hD) hS dX3_readPart_34 hlocks
def lr_X3_read_12  : Nat → Int32 → CS → Int32
  | 0, _, _ => 0
  | fu + 1, i, T1 => (if (30 : Int32) ≤ i then ((T1 0) 5) else ((fun (z_2 : CS) => (if (r_X3_readPart T1) = (0 : Int32) then ((z_2 0) 5) else (if ((z_2 0) 5) = ((z_2 0) 1) then (-1 : Int32) else ((fun (z_3 : CS) => (if (r_X3_readSign z_2 (44 : Int32)) = (0 : Int32) then ((z_3 0) 5) else (lr_X3_read_12 fu (i + (1 : Int32)) z_3))) (p_X3_readSign z_2 (44 : Int32)))))) (p_X3_readPart T1)))
def lp_X3_read_12  : Nat → Int32 → CS → CS
  | 0, _, T1 => T1
  | fu + 1, i, T1 => (if (30 : Int32) ≤ i then T1 else ((fun (z_2 : CS) => (if (r_X3_readPart T1) = (0 : Int32) then z_2 else (if ((z_2 0) 5) = ((z_2 0) 1) then z_2 else ((fun (z_3 : CS) => (if (r_X3_readSign z_2 (44 : Int32)) = (0 : Int32) then z_3 else (lp_X3_read_12 fu (i + (1 : Int32)) z_3))) (p_X3_readSign z_2 (44 : Int32)))))) (p_X3_readPart T1)))
def r_X3_read (T : CS) : Int32 := ((fun (z_1 : CS) => (lr_X3_read_12 (((30 : Int32).toInt - (0 : Int32).toInt).toNat + 1) (0 : Int32) z_1)) (va_up T 0 (upd (upd (T 0) 4 (0 : Int32)) 5 (0 : Int32))))
def p_X3_read (T : CS) : CS := ((fun (z_1 : CS) => (lp_X3_read_12 (((30 : Int32).toInt - (0 : Int32).toInt).toNat + 1) (0 : Int32) z_1)) (va_up T 0 (upd (upd (T 0) 4 (0 : Int32)) 5 (0 : Int32))))
abbrev rm_X3_read : Room := { frames := 4, cells := 0, slots := 0, locals := 85 }
set_option maxHeartbeats 4000000 in
set_option maxRecDepth 100000 in
theorem c_X3_read (l : Launch) (D : va_G) (cI cC cS : ClassId) (td : Nat → Nat) (T : CS)  : CI l D cI cC cS yX3_read wsX3_read rm_X3_read [.ref (td 0)] (txW cI cC td T) (txW cI cC td (p_X3_read T)) (r_X3_read T) := by
  intro sz
  refine startC (cc := cX3_read) (maxL := 2) (ret := (some .int)) (by decide) rfl (Nat.le_of_ble_eq_true rfl) ?_
  intro p e s m args below meth c hx hb hml hsg hts hown hlocks hin hK A hA hS hP hD ls hl
  have hown : s.vm.findClass RX3 = some m.cls := hown
  have hl : lv_has ls 2 [(0, .ref (td 0))] := hl
  have hP : va_P D vwCl [((td 0), txC td (T 0)), ((td 1), arC cC 60 (T 1)), ((td 2), arC cI 30 (T 2)), ((td 3), arC cI 30 (T 3))] s.heap := hP
  have hD : va_D A [((td 0), txC td (T 0)), ((td 1), arC cC 60 (T 1)), ((td 2), arC cI 30 (T 2)), ((td 3), arC cI 30 (T 3))] := hD
  have inX3 : ∀ w ∈ wsX30, w ∈ wsX3_read := fun _ h => List.mem_cons_of_mem _ (List.mem_append_right _ h)
  have hr : (r_X3_read T) = ((fun (z_1 : CS) => (lr_X3_read_12 (((30 : Int32).toInt - (0 : Int32).toInt).toNat + 1) (0 : Int32) z_1)) (va_up T 0 (upd (upd (T 0) 4 (0 : Int32)) 5 (0 : Int32)))) := rfl
  have hp : (p_X3_read T) = ((fun (z_1 : CS) => (lp_X3_read_12 (((30 : Int32).toInt - (0 : Int32).toInt).toNat + 1) (0 : Int32) z_1)) (va_up T 0 (upd (upd (T 0) 4 (0 : Int32)) 5 (0 : Int32)))) := rfl
  refine lv_aload_n hx hb dX3_read_0 rfl (lv_at hl 0 rfl) ?_
  refine lv_iconst (v := (0 : Int32)) hx hb dX3_read_1 (by decide) ?_
  refine va_put (D := D) (ci := 3) (v := .int (0 : Int32)) (ty := .int) (C := RX3) (T := TX3) (N := 6) hx hb hts inX3 tyX3 tyX3_ok nmX3 hown hK.1 hP hD hS 0 rfl rfl 4 (by decide) (hts (.fieldLink RX3 26 "GrayPointers$Text" "parts" "I") (List.mem_of_getElem? (i := 1) rfl)) (fun _ h9 => h9) rfl (by decide +kernel) rfl rfl (Nat.le_of_ble_eq_true rfl) dX3_read_2 (fun H locs hP hD hS => ?_)
  have hP : va_P D vwCl [((td 0), txC td (upd (T 0) 4 (0 : Int32))), ((td 1), arC cC 60 (T 1)), ((td 2), arC cI 30 (T 2)), ((td 3), arC cI 30 (T 3))] H := hP
  have hD : va_D A [((td 0), txC td (upd (T 0) 4 (0 : Int32))), ((td 1), arC cC 60 (T 1)), ((td 2), arC cI 30 (T 2)), ((td 3), arC cI 30 (T 3))] := hD
  refine lv_aload_n hx hb dX3_read_5 rfl (lv_at hl 0 rfl) ?_
  refine lv_iconst (v := (0 : Int32)) hx hb dX3_read_6 (by decide) ?_
  refine va_put (D := D) (ci := 3) (v := .int (0 : Int32)) (ty := .int) (C := RX3) (T := TX3) (N := 6) hx hb hts inX3 tyX3 tyX3_ok nmX3 hown hK.1 hP hD hS 0 rfl rfl 5 (by decide) (hts (.fieldLink RX3 29 "GrayPointers$Text" "cursor" "I") (List.mem_of_getElem? (i := 2) rfl)) (fun _ h9 => h9) rfl (by decide +kernel) rfl rfl (Nat.le_of_ble_eq_true rfl) dX3_read_7 (fun H locs hP hD hS => ?_)
  have hP : va_P D vwCl [((td 0), txC td (upd (upd (T 0) 4 (0 : Int32)) 5 (0 : Int32))), ((td 1), arC cC 60 (T 1)), ((td 2), arC cI 30 (T 2)), ((td 3), arC cI 30 (T 3))] H := hP
  have hD : va_D A [((td 0), txC td (upd (upd (T 0) 4 (0 : Int32)) 5 (0 : Int32))), ((td 1), arC cC 60 (T 1)), ((td 2), arC cI 30 (T 2)), ((td 3), arC cI 30 (T 3))] := hD
  refine lv_iconst (v := (0 : Int32)) hx hb dX3_read_10 (by decide) ?_
  refine lv_istore_n (lv' := [(1, .int (0 : Int32)), (0, .ref (td 0))]) hx hb dX3_read_11 rfl hl (by decide) rfl (fun ls hl => ?_)
  obtain ⟨z_1, hz_1⟩ : ∃ z : CS, z = (va_up T 0 (upd (upd (T 0) 4 (0 : Int32)) 5 (0 : Int32))) := ⟨_, rfl⟩
  have e0 : (z_1 0) = (upd (upd (T 0) 4 (0 : Int32)) 5 (0 : Int32)) := (congrFun hz_1 0).trans va_up_s
  have e1 : (z_1 1) = (T 1) := (congrFun hz_1 1).trans (va_up_n (by decide))
  have e2 : (z_1 2) = (T 2) := (congrFun hz_1 2).trans (va_up_n (by decide))
  have e3 : (z_1 3) = (T 3) := (congrFun hz_1 3).trans (va_up_n (by decide))
  have hP : va_P D vwCl [((td 0), txC td (z_1 0)), ((td 1), arC cC 60 (z_1 1)), ((td 2), arC cI 30 (z_1 2)), ((td 3), arC cI 30 (z_1 3))] H := by rw [e0, e1, e2, e3]; exact hP
  have hD : va_D A [((td 0), txC td (z_1 0)), ((td 1), arC cC 60 (z_1 1)), ((td 2), arC cI 30 (z_1 2)), ((td 3), arC cI 30 (z_1 3))] := by rw [e0, e1, e2, e3]; exact hD
  clear e0 e1 e2 e3
  have hr : (r_X3_read T) = (lr_X3_read_12 (((30 : Int32).toInt - (0 : Int32).toInt).toNat + 1) (0 : Int32) z_1) := by subst hz_1; exact hr
  have hp : (p_X3_read T) = (lp_X3_read_12 (((30 : Int32).toInt - (0 : Int32).toInt).toNat + 1) (0 : Int32) z_1) := by subst hz_1; exact hp
  have L_12 : ∀ (fu : Nat) (i : Int32) (T1 : CS) (H : Heap) (locs : List Loc), ((30 : Int32).toInt - i.toInt < (fu : Int) ∧ 0 < fu) → (r_X3_read T) = (lr_X3_read_12 fu i T1) → (p_X3_read T) = (lp_X3_read_12 fu i T1) → va_P D vwCl [((td 0), txC td (T1 0)), ((td 1), arC cC 60 (T1 1)), ((td 2), arC cI 30 (T1 2)), ((td 3), arC cI 30 (T1 3))] H → va_D A [((td 0), txC td (T1 0)), ((td 1), arC cC 60 (T1 1)), ((td 2), arC cI 30 (T1 2)), ((td 3), arC cI 30 (T1 3))] → va_S A s.heap H locs → ∀ ls, lv_has ls 2 [(0, .ref (td 0)), (1, .int i)] → W p l e rm_X3_read s m args below meth c H locs 0 0 (MQ below (QI D (txW cI cC td (p_X3_read T)) (r_X3_read T) A) args s 0 0 A) (F0 m 12 ls []) := by
    intro fu
    induction fu with
    | zero => intro i T1 H locs hm; exact absurd hm.2 (Nat.lt_irrefl 0)
    | succ fu ih_12 =>
      intro i T1 H locs hm  hr hp hP hD hS ls hl
      have hr : (r_X3_read T) = (if (30 : Int32) ≤ i then ((T1 0) 5) else ((fun (z_2 : CS) => (if (r_X3_readPart T1) = (0 : Int32) then ((z_2 0) 5) else (if ((z_2 0) 5) = ((z_2 0) 1) then (-1 : Int32) else ((fun (z_3 : CS) => (if (r_X3_readSign z_2 (44 : Int32)) = (0 : Int32) then ((z_3 0) 5) else (lr_X3_read_12 fu (i + (1 : Int32)) z_3))) (p_X3_readSign z_2 (44 : Int32)))))) (p_X3_readPart T1))) := hr
      have hp : (p_X3_read T) = (if (30 : Int32) ≤ i then T1 else ((fun (z_2 : CS) => (if (r_X3_readPart T1) = (0 : Int32) then z_2 else (if ((z_2 0) 5) = ((z_2 0) 1) then z_2 else ((fun (z_3 : CS) => (if (r_X3_readSign z_2 (44 : Int32)) = (0 : Int32) then z_3 else (lp_X3_read_12 fu (i + (1 : Int32)) z_3))) (p_X3_readSign z_2 (44 : Int32)))))) (p_X3_readPart T1))) := hp
      refine lv_iload_n hx hb dX3_read_12 rfl (lv_at hl 1 rfl) ?_
      refine lv_bipush (v := (30 : Int32)) hx hb dX3_read_13 (by decide) ?_
      refine lv_icmp_ge (tgt := 63) hx hb dX3_read_15 (by decide) (fun c15 => ?_) (fun c15 => ?_)
      · have hr := hr.trans (if_pos c15)
        have hp := hp.trans (if_pos c15)
        refine lv_aload_n hx hb dX3_read_63 rfl (lv_at hl 0 rfl) ?_
        refine va_get (D := D) (ci := 3) (v := .int ((T1 0) 5)) (C := RX3) (T := TX3) (N := 6) hx hb hts inX3 hown hK.1 hP 0 rfl rfl 5 (by decide) (hts (.fieldLink RX3 29 "GrayPointers$Text" "cursor" "I") (List.mem_of_getElem? (i := 2) rfl)) (fun _ h9 => h9) rfl dX3_read_64 ?_
        exact endI (v := ((T1 0) 5)) hb hx hsg hr.symm (by rw [hp]; exact hP) (by rw [hp]; exact hD) hS dX3_read_67 hlocks
      · have hr := hr.trans (if_neg c15)
        have hp := hp.trans (if_neg c15)
        refine lv_aload_n hx hb dX3_read_18 rfl (lv_at hl 0 rfl) ?_
        refine goI (n := 4) (ws' := [((td 0), txC td ((p_X3_readPart T1) 0)), ((td 1), arC cC 60 ((p_X3_readPart T1) 1)), ((td 2), arC cI 30 ((p_X3_readPart T1) 2)), ((td 3), arC cI 30 ((p_X3_readPart T1) 3))]) (rs := []) (va_runV (As := []) (rest := []) ⟨hx, hb, hml, hown, hts⟩ (c_X3_readPart l D cI cC cS td T1  _) (cwV 0 hts gX3_read_X3_readPart rfl rfl rfl (by decide +kernel) ⟨Nat.le_of_ble_eq_true rfl, Nat.le_of_ble_eq_true rfl⟩) (preV hK hP hD [0, 1, 2, 3] (by decide) rfl 0 3 rfl rfl) rfl rfl hl.1 rfl (lv_room (Nat.le_of_ble_eq_true rfl)) dX3_read_19 ⟨Nat.zero_le _, Nat.zero_le _⟩) hP hD hS hA [0, 1, 2, 3] [] rfl rfl rfl rfl rfl (by decide +kernel) (fstE (as := [(td 0), (td 1), (td 2), (td 3)]) rfl rfl) (fun H locs hP hD hS => ?_)
        obtain ⟨z_2, hz_2⟩ : ∃ z : CS, z = (p_X3_readPart T1) := ⟨_, rfl⟩
        rw [← hz_2] at hP hD
        have hr : (r_X3_read T) = (if (r_X3_readPart T1) = (0 : Int32) then ((z_2 0) 5) else (if ((z_2 0) 5) = ((z_2 0) 1) then (-1 : Int32) else ((fun (z_3 : CS) => (if (r_X3_readSign z_2 (44 : Int32)) = (0 : Int32) then ((z_3 0) 5) else (lr_X3_read_12 fu (i + (1 : Int32)) z_3))) (p_X3_readSign z_2 (44 : Int32))))) := by subst hz_2; exact hr
        have hp : (p_X3_read T) = (if (r_X3_readPart T1) = (0 : Int32) then z_2 else (if ((z_2 0) 5) = ((z_2 0) 1) then z_2 else ((fun (z_3 : CS) => (if (r_X3_readSign z_2 (44 : Int32)) = (0 : Int32) then z_3 else (lp_X3_read_12 fu (i + (1 : Int32)) z_3))) (p_X3_readSign z_2 (44 : Int32))))) := by subst hz_2; exact hp
        refine lv_if_ne (tgt := 30) hx hb dX3_read_22 (by decide) (fun c22 => ?_) (fun c22 => ?_)
        · have hr := hr.trans (if_neg c22)
          have hp := hp.trans (if_neg c22)
          refine lv_aload_n hx hb dX3_read_30 rfl (lv_at hl 0 rfl) ?_
          refine va_get (D := D) (ci := 3) (v := .int ((z_2 0) 5)) (C := RX3) (T := TX3) (N := 6) hx hb hts inX3 hown hK.1 hP 0 rfl rfl 5 (by decide) (hts (.fieldLink RX3 29 "GrayPointers$Text" "cursor" "I") (List.mem_of_getElem? (i := 2) rfl)) (fun _ h9 => h9) rfl dX3_read_31 ?_
          refine lv_aload_n hx hb dX3_read_34 rfl (lv_at hl 0 rfl) ?_
          refine va_get (D := D) (ci := 3) (v := .int ((z_2 0) 1)) (C := RX3) (T := TX3) (N := 6) hx hb hts inX3 hown hK.1 hP 0 rfl rfl 1 (by decide) (hts (.fieldLink RX3 22 "GrayPointers$Text" "length" "I") (List.mem_of_getElem? (i := 3) rfl)) (fun _ h9 => h9) rfl dX3_read_35 ?_
          refine lv_icmp_ne (tgt := 43) hx hb dX3_read_38 (by decide) (fun c38 => ?_) (fun c38 => ?_)
          · have hr := hr.trans (if_neg c38)
            have hp := hp.trans (if_neg c38)
            refine lv_aload_n hx hb dX3_read_43 rfl (lv_at hl 0 rfl) ?_
            refine lv_bipush (v := (44 : Int32)) hx hb dX3_read_44 (by decide) ?_
            refine goI (n := 4) (ws' := [((td 0), txC td ((p_X3_readSign z_2 (44 : Int32)) 0)), ((td 1), arC cC 60 ((p_X3_readSign z_2 (44 : Int32)) 1)), ((td 2), arC cI 30 ((p_X3_readSign z_2 (44 : Int32)) 2)), ((td 3), arC cI 30 ((p_X3_readSign z_2 (44 : Int32)) 3))]) (rs := []) (va_runV (As := [.int (44 : Int32)]) (rest := []) ⟨hx, hb, hml, hown, hts⟩ (c_X3_readSign l D cI cC cS td z_2 (44 : Int32)  _) (cwV 1 hts gX3_read_X3_readSign rfl rfl rfl (by decide +kernel) ⟨Nat.le_of_ble_eq_true rfl, Nat.le_of_ble_eq_true rfl⟩) (preV hK hP hD [0, 1, 2, 3] (by decide) rfl 0 3 rfl rfl) rfl rfl hl.1 rfl (lv_room (Nat.le_of_ble_eq_true rfl)) dX3_read_46 ⟨Nat.zero_le _, Nat.zero_le _⟩) hP hD hS hA [0, 1, 2, 3] [] rfl rfl rfl rfl rfl (by decide +kernel) (fstE (as := [(td 0), (td 1), (td 2), (td 3)]) rfl rfl) (fun H locs hP hD hS => ?_)
            obtain ⟨z_3, hz_3⟩ : ∃ z : CS, z = (p_X3_readSign z_2 (44 : Int32)) := ⟨_, rfl⟩
            rw [← hz_3] at hP hD
            have hr : (r_X3_read T) = (if (r_X3_readSign z_2 (44 : Int32)) = (0 : Int32) then ((z_3 0) 5) else (lr_X3_read_12 fu (i + (1 : Int32)) z_3)) := by subst hz_3; exact hr
            have hp : (p_X3_read T) = (if (r_X3_readSign z_2 (44 : Int32)) = (0 : Int32) then z_3 else (lp_X3_read_12 fu (i + (1 : Int32)) z_3)) := by subst hz_3; exact hp
            refine lv_if_ne (tgt := 57) hx hb dX3_read_49 (by decide) (fun c49 => ?_) (fun c49 => ?_)
            · have hr := hr.trans (if_neg c49)
              have hp := hp.trans (if_neg c49)
              refine lv_iinc (v := (i + (1 : Int32))) (lv' := [(1, .int (i + (1 : Int32))), (0, .ref (td 0))]) hx hb dX3_read_57 hl (k := 1) rfl rfl (by decide) rfl (fun ls hl => ?_)
              refine lv_goto (tgt := 12) hx hb dX3_read_60 (by decide) ?_
              exact ih_12 (i + (1 : Int32)) z_3 _ _ (by subst hz_3; subst hz_2; exact (cnt_step c15 hm)) hr hp hP hD hS ls (lv_sub hl [1, 0] rfl)
            · have hr := hr.trans (if_pos c49)
              have hp := hp.trans (if_pos c49)
              refine lv_aload_n hx hb dX3_read_52 rfl (lv_at hl 0 rfl) ?_
              refine va_get (D := D) (ci := 3) (v := .int ((z_3 0) 5)) (C := RX3) (T := TX3) (N := 6) hx hb hts inX3 hown hK.1 hP 0 rfl rfl 5 (by decide) (hts (.fieldLink RX3 29 "GrayPointers$Text" "cursor" "I") (List.mem_of_getElem? (i := 2) rfl)) (fun _ h9 => h9) rfl dX3_read_53 ?_
              exact endI (v := ((z_3 0) 5)) hb hx hsg hr.symm (by rw [hp]; exact hP) (by rw [hp]; exact hD) hS dX3_read_56 hlocks
          · have hr := hr.trans (if_pos c38)
            have hp := hp.trans (if_pos c38)
            refine lv_iconst (v := (-1 : Int32)) hx hb dX3_read_41 (by decide) ?_
            exact endI (v := (-1 : Int32)) hb hx hsg hr.symm (by rw [hp]; exact hP) (by rw [hp]; exact hD) hS dX3_read_42 hlocks
        · have hr := hr.trans (if_pos c22)
          have hp := hp.trans (if_pos c22)
          refine lv_aload_n hx hb dX3_read_25 rfl (lv_at hl 0 rfl) ?_
          refine va_get (D := D) (ci := 3) (v := .int ((z_2 0) 5)) (C := RX3) (T := TX3) (N := 6) hx hb hts inX3 hown hK.1 hP 0 rfl rfl 5 (by decide) (hts (.fieldLink RX3 29 "GrayPointers$Text" "cursor" "I") (List.mem_of_getElem? (i := 2) rfl)) (fun _ h9 => h9) rfl dX3_read_26 ?_
          exact endI (v := ((z_2 0) 5)) hb hx hsg hr.symm (by rw [hp]; exact hP) (by rw [hp]; exact hD) hS dX3_read_29 hlocks
  exact L_12 _ (0 : Int32) z_1 _ _ (cnt_init _ _) hr hp hP hD hS ls (lv_sub hl [1, 0] rfl)
def lr_X3_wordsInParts_4 (T : CS) : Nat → Int32 → Int32 → Int32
  | 0, _, _ => 0
  | fu + 1, i1, i => (if ((T 0) 4) ≤ i then i1 else ((fun (x35_1 : Int32) => (lr_X3_wordsInParts_4 T fu x35_1 (i + (1 : Int32)))) (if (r_X4_valueAt (T 2) i 30) = (-1 : Int32) then i1 else (i1 + (r_X4_valueAt (T 3) i 30)))))
def r_X3_wordsInParts (T : CS) : Int32 := (lr_X3_wordsInParts_4 T ((((T 0) 4).toInt - (0 : Int32).toInt).toNat + 1) (0 : Int32) (0 : Int32))
abbrev rm_X3_wordsInParts : Room := { frames := 1, cells := 0, slots := 0, locals := 21 }
set_option maxHeartbeats 4000000 in
set_option maxRecDepth 100000 in
theorem c_X3_wordsInParts (l : Launch) (D : va_G) (cI cC cS : ClassId) (td : Nat → Nat) (T : CS)  : CI l D cI cC cS yX3_wordsInParts wsX3_wordsInParts rm_X3_wordsInParts [.ref (td 0)] (txW cI cC td T) (txW cI cC td T) (r_X3_wordsInParts T) := by
  intro sz
  refine startC (cc := cX3_wordsInParts) (maxL := 3) (ret := (some .int)) (by decide) rfl (Nat.le_of_ble_eq_true rfl) ?_
  intro p e s m args below meth c hx hb hml hsg hts hown hlocks hin hK A hA hS hP hD ls hl
  have hown : s.vm.findClass RX3 = some m.cls := hown
  have hl : lv_has ls 3 [(0, .ref (td 0))] := hl
  have hP : va_P D vwCl [((td 0), txC td (T 0)), ((td 1), arC cC 60 (T 1)), ((td 2), arC cI 30 (T 2)), ((td 3), arC cI 30 (T 3))] s.heap := hP
  have hD : va_D A [((td 0), txC td (T 0)), ((td 1), arC cC 60 (T 1)), ((td 2), arC cI 30 (T 2)), ((td 3), arC cI 30 (T 3))] := hD
  have inX3 : ∀ w ∈ wsX30, w ∈ wsX3_wordsInParts := fun _ h => List.mem_cons_of_mem _ (List.mem_append_right _ h)
  have hr : (r_X3_wordsInParts T) = (lr_X3_wordsInParts_4 T ((((T 0) 4).toInt - (0 : Int32).toInt).toNat + 1) (0 : Int32) (0 : Int32)) := rfl
  refine lv_iconst (v := (0 : Int32)) hx hb dX3_wordsInParts_0 (by decide) ?_
  refine lv_istore_n (lv' := [(1, .int (0 : Int32)), (0, .ref (td 0))]) hx hb dX3_wordsInParts_1 rfl hl (by decide) rfl (fun ls hl => ?_)
  refine lv_iconst (v := (0 : Int32)) hx hb dX3_wordsInParts_2 (by decide) ?_
  refine lv_istore_n (lv' := [(2, .int (0 : Int32)), (1, .int (0 : Int32)), (0, .ref (td 0))]) hx hb dX3_wordsInParts_3 rfl hl (by decide) rfl (fun ls hl => ?_)
  have L_4 : ∀ (fu : Nat) (i1 : Int32) (i : Int32) (H : Heap) (locs : List Loc), (((T 0) 4).toInt - i.toInt < (fu : Int) ∧ 0 < fu) → (r_X3_wordsInParts T) = (lr_X3_wordsInParts_4 T fu i1 i) → va_P D vwCl [((td 0), txC td (T 0)), ((td 1), arC cC 60 (T 1)), ((td 2), arC cI 30 (T 2)), ((td 3), arC cI 30 (T 3))] H → va_D A [((td 0), txC td (T 0)), ((td 1), arC cC 60 (T 1)), ((td 2), arC cI 30 (T 2)), ((td 3), arC cI 30 (T 3))] → va_S A s.heap H locs → ∀ ls, lv_has ls 3 [(0, .ref (td 0)), (1, .int i1), (2, .int i)] → W p l e rm_X3_wordsInParts s m args below meth c H locs 0 0 (MQ below (QI D (txW cI cC td T) (r_X3_wordsInParts T) A) args s 0 0 A) (F0 m 4 ls []) := by
    intro fu
    induction fu with
    | zero => intro i1 i H locs hm; exact absurd hm.2 (Nat.lt_irrefl 0)
    | succ fu ih_4 =>
      intro i1 i H locs hm  hr hP hD hS ls hl
      have hr : (r_X3_wordsInParts T) = (if ((T 0) 4) ≤ i then i1 else ((fun (x35_1 : Int32) => (lr_X3_wordsInParts_4 T fu x35_1 (i + (1 : Int32)))) (if (r_X4_valueAt (T 2) i 30) = (-1 : Int32) then i1 else (i1 + (r_X4_valueAt (T 3) i 30))))) := hr
      refine lv_iload_n hx hb dX3_wordsInParts_4 rfl (lv_at hl 2 rfl) ?_
      refine lv_aload_n hx hb dX3_wordsInParts_5 rfl (lv_at hl 0 rfl) ?_
      refine va_get (D := D) (ci := 3) (v := .int ((T 0) 4)) (C := RX3) (T := TX3) (N := 6) hx hb hts inX3 hown hK.1 hP 0 rfl rfl 4 (by decide) (hts (.fieldLink RX3 26 "GrayPointers$Text" "parts" "I") (List.mem_of_getElem? (i := 1) rfl)) (fun _ h9 => h9) rfl dX3_wordsInParts_6 ?_
      refine lv_icmp_ge (tgt := 41) hx hb dX3_wordsInParts_9 (by decide) (fun c9 => ?_) (fun c9 => ?_)
      · have hr := hr.trans (if_pos c9)
        refine lv_iload_n hx hb dX3_wordsInParts_41 rfl (lv_at hl 1 rfl) ?_
        exact endI (v := i1) hb hx hsg hr.symm hP hD hS dX3_wordsInParts_42 hlocks
      · have hr := hr.trans (if_neg c9)
        refine lv_aload_n hx hb dX3_wordsInParts_12 rfl (lv_at hl 0 rfl) ?_
        refine va_get (D := D) (ci := 3) (v := .ref (td 2)) (C := RX3) (T := TX3) (N := 6) hx hb hts inX3 hown hK.1 hP 0 rfl rfl 2 (by decide) (hts (.fieldLink RX3 15 "GrayPointers$Text" "partWords" "[I") (List.mem_of_getElem? (i := 2) rfl)) (fun _ h9 => h9) rfl dX3_wordsInParts_13 ?_
        refine lv_iload_n hx hb dX3_wordsInParts_16 rfl (lv_at hl 2 rfl) ?_
        refine goI (n := 4) (ws' := [((td 0), txC td (T 0)), ((td 1), arC cC 60 (T 1)), ((td 2), arC cI 30 (T 2)), ((td 3), arC cI 30 (T 3))]) (rs := [((td 0), txC td (T 0)), ((td 1), arC cC 60 (T 1)), ((td 3), arC cI 30 (T 3))]) (va_runSN (As := [.ref (td 2), .int i]) (rest := []) ⟨hx, hb, hml, hown, hts⟩ (c_X4_valueAt l D cI cC cS (td 2) (T 2) i 30 (by decide) _) ⟨va_cnB 2 hts gX3_wordsInParts_X4_valueAt_n40 rfl rfl rfl (hK.nw 37 rfl) (hts (.initialized RX4) (List.mem_of_getElem? (i := 5) rfl)) (by decide +kernel) ⟨Nat.le_of_ble_eq_true rfl, Nat.le_of_ble_eq_true rfl⟩, (hts (.static yX4_valueAt) (List.mem_of_getElem? (i := 4) rfl)), trivial⟩ (preS hK hP hD [2] (by decide) rfl) rfl rfl hl.1 rfl (lv_room (Nat.le_of_ble_eq_true rfl)) dX3_wordsInParts_17 ⟨Nat.zero_le _, Nat.zero_le _⟩) hP hD hS hA [2] [0, 1, 3] rfl rfl rfl rfl rfl (by decide +kernel) rfl (fun H locs hP hD hS => ?_)
        refine lv_iconst (v := (-1 : Int32)) hx hb dX3_wordsInParts_20 (by decide) ?_
        have J_35 : ∀ (x35_1 : Int32) (H : Heap) (locs : List Loc), x35_1 = (if (r_X4_valueAt (T 2) i 30) = (-1 : Int32) then i1 else (i1 + (r_X4_valueAt (T 3) i 30))) → va_P D vwCl [((td 0), txC td (T 0)), ((td 1), arC cC 60 (T 1)), ((td 2), arC cI 30 (T 2)), ((td 3), arC cI 30 (T 3))] H → va_D A [((td 0), txC td (T 0)), ((td 1), arC cC 60 (T 1)), ((td 2), arC cI 30 (T 2)), ((td 3), arC cI 30 (T 3))] → va_S A s.heap H locs → ∀ ls, lv_has ls 3 [(0, .ref (td 0)), (1, .int x35_1), (2, .int i)] → W p l e rm_X3_wordsInParts s m args below meth c H locs 0 0 (MQ below (QI D (txW cI cC td T) (r_X3_wordsInParts T) A) args s 0 0 A) (F0 m 35 ls []) := by
          intro x35_1 H locs ex35_1 hP hD hS ls hl
          have hr : (r_X3_wordsInParts T) = (lr_X3_wordsInParts_4 T fu x35_1 (i + (1 : Int32))) := by subst ex35_1; exact hr
          refine lv_iinc (v := (i + (1 : Int32))) (lv' := [(2, .int (i + (1 : Int32))), (0, .ref (td 0)), (1, .int x35_1)]) hx hb dX3_wordsInParts_35 hl (k := 2) rfl rfl (by decide) rfl (fun ls hl => ?_)
          refine lv_goto (tgt := 4) hx hb dX3_wordsInParts_38 (by decide) ?_
          exact ih_4 x35_1 (i + (1 : Int32)) _ _ (cnt_step c9 hm) hr hP hD hS ls (lv_sub hl [1, 2, 0] rfl)
        refine lv_icmp_eq (tgt := 35) hx hb dX3_wordsInParts_21 (by decide) (fun c21 => ?_) (fun c21 => ?_)
        · exact J_35 i1 _ _ (if_pos c21).symm hP hD hS ls (lv_sub hl [0, 1, 2] rfl)
        · refine lv_iload_n hx hb dX3_wordsInParts_24 rfl (lv_at hl 1 rfl) ?_
          refine lv_aload_n hx hb dX3_wordsInParts_25 rfl (lv_at hl 0 rfl) ?_
          refine va_get (D := D) (ci := 3) (v := .ref (td 3)) (C := RX3) (T := TX3) (N := 6) hx hb hts inX3 hown hK.1 hP 0 rfl rfl 3 (by decide) (hts (.fieldLink RX3 19 "GrayPointers$Text" "partTimes" "[I") (List.mem_of_getElem? (i := 3) rfl)) (fun _ h9 => h9) rfl dX3_wordsInParts_26 ?_
          refine lv_iload_n hx hb dX3_wordsInParts_29 rfl (lv_at hl 2 rfl) ?_
          refine goI (n := 4) (ws' := [((td 0), txC td (T 0)), ((td 1), arC cC 60 (T 1)), ((td 2), arC cI 30 (T 2)), ((td 3), arC cI 30 (T 3))]) (rs := [((td 0), txC td (T 0)), ((td 1), arC cC 60 (T 1)), ((td 2), arC cI 30 (T 2))]) (va_runSN (As := [.ref (td 3), .int i]) (rest := [.int i1]) ⟨hx, hb, hml, hown, hts⟩ (c_X4_valueAt l D cI cC cS (td 3) (T 3) i 30 (by decide) _) ⟨va_cnB 2 hts gX3_wordsInParts_X4_valueAt_n40 rfl rfl rfl (hK.nw 37 rfl) (hts (.initialized RX4) (List.mem_of_getElem? (i := 5) rfl)) (by decide +kernel) ⟨Nat.le_of_ble_eq_true rfl, Nat.le_of_ble_eq_true rfl⟩, (hts (.static yX4_valueAt) (List.mem_of_getElem? (i := 4) rfl)), trivial⟩ (preS hK hP hD [3] (by decide) rfl) rfl rfl hl.1 rfl (lv_room (Nat.le_of_ble_eq_true rfl)) dX3_wordsInParts_30 ⟨Nat.zero_le _, Nat.zero_le _⟩) hP hD hS hA [3] [0, 1, 2] rfl rfl rfl rfl rfl (by decide +kernel) rfl (fun H locs hP hD hS => ?_)
          refine lv_iadd hx hb dX3_wordsInParts_33 ?_
          refine lv_istore_n (lv' := [(1, .int (i1 + (r_X4_valueAt (T 3) i 30))), (0, .ref (td 0)), (2, .int i)]) hx hb dX3_wordsInParts_34 rfl hl (by decide) rfl (fun ls hl => ?_)
          exact J_35 (i1 + (r_X4_valueAt (T 3) i 30)) _ _ (if_neg c21).symm hP hD hS ls (lv_sub hl [1, 0, 2] rfl)
  exact L_4 _ (0 : Int32) (0 : Int32) _ _ (cnt_init _ _) hr hP hD hS ls (lv_sub hl [2, 1, 0] rfl)
