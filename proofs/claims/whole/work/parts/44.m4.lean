def r_X5_isHere (M : CS) (a1 : Int32) (a2 : Int32) : Int32 := (if ((M 0) 8) ≤ ((M 0) 9) then (0 : Int32) else (if (r_X5_in ((M 6) ((M 0) 9).toNatClampNeg).toInt64 a1.toInt64 a2.toInt64) = (0 : Int32) then (0 : Int32) else (1 : Int32)))
abbrev rm_X5_isHere : Room := { frames := 1, cells := 0, slots := 0, locals := 25 }
set_option maxHeartbeats 4000000 in
set_option maxRecDepth 100000 in
theorem c_X5_isHere (l : Launch) (D : va_G) (cI cC cS : ClassId) (md : Nat → Nat) (M : CS) (a1 : Int32) (a2 : Int32) (hSI : SI M) : CI l D cI cC cS yX5_isHere wsX5_isHere rm_X5_isHere [.ref (md 0), .int a1, .int a2] (mdW cI md M) (mdW cI md M) (r_X5_isHere M a1 a2) := by
  intro sz
  refine startC (cc := cX5_isHere) (maxL := 3) (ret := (some .boolean)) (by decide) rfl (Nat.le_of_ble_eq_true rfl) ?_
  intro p e s m args below meth c hx hb hml hsg hts hown hlocks hin hK A hA hS hP hD ls hl
  have hown : s.vm.findClass RX5 = some m.cls := hown
  have hl : lv_has ls 3 [(0, .ref (md 0)), (1, .int a1), (2, .int a2)] := hl
  have hP : va_P D vwCl [((md 0), mdC md (M 0)), ((md 1), arC cI 96 (M 1)), ((md 2), arC cI 96 (M 2)), ((md 3), arC cI 96 (M 3)), ((md 4), arC cI 384 (M 4)), ((md 5), arC cI 96 (M 5)), ((md 6), arC cI 60 (M 6))] s.heap := hP
  have hD : va_D A [((md 0), mdC md (M 0)), ((md 1), arC cI 96 (M 1)), ((md 2), arC cI 96 (M 2)), ((md 3), arC cI 96 (M 3)), ((md 4), arC cI 384 (M 4)), ((md 5), arC cI 96 (M 5)), ((md 6), arC cI 60 (M 6))] := hD
  have inX5 : ∀ w ∈ wsX50, w ∈ wsX5_isHere := fun _ h => List.mem_cons_of_mem _ (List.mem_append_right _ h)
  have hr : (r_X5_isHere M a1 a2) = (if ((M 0) 8) ≤ ((M 0) 9) then (0 : Int32) else (if (r_X5_in ((M 6) ((M 0) 9).toNatClampNeg).toInt64 a1.toInt64 a2.toInt64) = (0 : Int32) then (0 : Int32) else (1 : Int32))) := rfl
  refine lv_aload_n hx hb dX5_isHere_0 rfl (lv_at hl 0 rfl) ?_
  refine va_get (D := D) (ci := 5) (v := .int ((M 0) 9)) (C := RX5) (T := TX5) (N := 14) hx hb hts inX5 hown hK.1 hP 0 rfl rfl 9 (by decide) (hts (.fieldLink RX5 138 "GrayPointersModel" "spot" "I") (List.mem_of_getElem? (i := 1) rfl)) (fun _ h9 => h9) rfl dX5_isHere_1 ?_
  refine lv_aload_n hx hb dX5_isHere_4 rfl (lv_at hl 0 rfl) ?_
  refine va_get (D := D) (ci := 5) (v := .int ((M 0) 8)) (C := RX5) (T := TX5) (N := 14) hx hb hts inX5 hown hK.1 hP 0 rfl rfl 8 (by decide) (hts (.fieldLink RX5 135 "GrayPointersModel" "textLong" "I") (List.mem_of_getElem? (i := 2) rfl)) (fun _ h9 => h9) rfl dX5_isHere_5 ?_
  refine lv_icmp_ge (tgt := 35) hx hb dX5_isHere_8 (by decide) (fun c8 => ?_) (fun c8 => ?_)
  · have hr := hr.trans (if_pos c8)
    refine lv_iconst (v := (0 : Int32)) hx hb dX5_isHere_35 (by decide) ?_
    exact endZ (v := (0 : Int32)) hb hx hsg rfl hr.symm hP hD hS dX5_isHere_36 hlocks
  · have hr := hr.trans (if_neg c8)
    refine lv_aload_n hx hb dX5_isHere_11 rfl (lv_at hl 0 rfl) ?_
    refine va_get (D := D) (ci := 5) (v := .ref (md 6)) (C := RX5) (T := TX5) (N := 14) hx hb hts inX5 hown hK.1 hP 0 rfl rfl 7 (by decide) (hts (.fieldLink RX5 25 "GrayPointersModel" "text" "[I") (List.mem_of_getElem? (i := 3) rfl)) (fun _ h9 => h9) rfl dX5_isHere_12 ?_
    refine lv_aload_n hx hb dX5_isHere_15 rfl (lv_at hl 0 rfl) ?_
    refine va_get (D := D) (ci := 5) (v := .int ((M 0) 9)) (C := RX5) (T := TX5) (N := 14) hx hb hts inX5 hown hK.1 hP 0 rfl rfl 9 (by decide) (hts (.fieldLink RX5 138 "GrayPointersModel" "spot" "I") (List.mem_of_getElem? (i := 1) rfl)) (fun _ h9 => h9) rfl dX5_isHere_16 ?_
    refine va_iald hx hb hK.1 hP 6 0 rfl rfl (i := ((M 0) 9)) (vp_sp hSI c8) dX5_isHere_19 ?_
    refine lv_i2l (v := ((M 6) ((M 0) 9).toNatClampNeg).toInt64) hx hb dX5_isHere_20 rfl ?_
    refine lv_iload_n hx hb dX5_isHere_21 rfl (lv_at hl 1 rfl) ?_
    refine lv_i2l (v := a1.toInt64) hx hb dX5_isHere_22 rfl ?_
    refine lv_iload_n hx hb dX5_isHere_23 rfl (lv_at hl 2 rfl) ?_
    refine lv_i2l (v := a2.toInt64) hx hb dX5_isHere_24 rfl ?_
    refine goI (n := 7) (ws' := [((md 0), mdC md (M 0)), ((md 1), arC cI 96 (M 1)), ((md 2), arC cI 96 (M 2)), ((md 3), arC cI 96 (M 3)), ((md 4), arC cI 384 (M 4)), ((md 5), arC cI 96 (M 5)), ((md 6), arC cI 60 (M 6))]) (rs := [((md 0), mdC md (M 0)), ((md 1), arC cI 96 (M 1)), ((md 2), arC cI 96 (M 2)), ((md 3), arC cI 96 (M 3)), ((md 4), arC cI 384 (M 4)), ((md 5), arC cI 96 (M 5)), ((md 6), arC cI 60 (M 6))]) (va_runS (As := [.long ((M 6) ((M 0) 9).toNatClampNeg).toInt64, .long a1.toInt64, .long a2.toInt64]) (rest := []) ⟨hx, hb, hml, hown, hts⟩ (c_X5_in l D cI cC cS ((M 6) ((M 0) 9).toNatClampNeg).toInt64 a1.toInt64 a2.toInt64  _) (va_cwS 3 hts gX5_isHere_X5_in rfl rfl rfl (by decide +kernel) ⟨Nat.le_of_ble_eq_true rfl, Nat.le_of_ble_eq_true rfl⟩) (preS hK hP hD [] (by decide) rfl) rfl rfl hl.1 rfl (lv_room (Nat.le_of_ble_eq_true rfl)) dX5_isHere_25 ⟨Nat.zero_le _, Nat.zero_le _⟩) hP hD hS hA [] [0, 1, 2, 3, 4, 5, 6] rfl rfl rfl rfl rfl (by decide +kernel) rfl (fun H locs hP hD hS => ?_)
    refine lv_if_eq (tgt := 35) hx hb dX5_isHere_28 (by decide) (fun c28 => ?_) (fun c28 => ?_)
    · have hr := hr.trans (if_pos c28)
      refine lv_iconst (v := (0 : Int32)) hx hb dX5_isHere_35 (by decide) ?_
      exact endZ (v := (0 : Int32)) hb hx hsg rfl hr.symm hP hD hS dX5_isHere_36 hlocks
    · have hr := hr.trans (if_neg c28)
      refine lv_iconst (v := (1 : Int32)) hx hb dX5_isHere_31 (by decide) ?_
      refine lv_goto (tgt := 36) hx hb dX5_isHere_32 (by decide) ?_
      exact endZ (v := (1 : Int32)) hb hx hsg rfl hr.symm hP hD hS dX5_isHere_36 hlocks
theorem isHere_b (M : CS) (a1 a2 : Int32) : narrow .boolean (.int (r_X5_isHere M a1 a2)) = .int (r_X5_isHere M a1 a2) := by
  unfold r_X5_isHere
  split
  · exact (rfl : narrow .boolean (.int 0) = .int 0)
  · split
    · exact (rfl : narrow .boolean (.int 0) = .int 0)
    · exact (rfl : narrow .boolean (.int 1) = .int 1)
theorem isHere_lt {M : CS} {a1 a2 : Int32} (h : ¬ r_X5_isHere M a1 a2 = 0) : ¬ (M 0 8) ≤ (M 0 9) := by
  intro c
  unfold r_X5_isHere at h
  rw [if_pos c] at h
  exact h rfl
theorem here_in {M : CS} (hSI : SI M) {a1 a2 : Int32} (h : ¬ r_X5_isHere M a1 a2 = 0) : vp_in (M 0 9) 60 := vp_sp hSI (isHere_lt h)
theorem si_inc {M : CS} (hSI : SI M) {a1 a2 : Int32} (h : ¬ r_X5_isHere M a1 a2 = 0) : 0 ≤ ((M 0 9) + (1 : Int32)).toInt ∧ (M 0 8).toInt ≤ 60 := by
  have h1 := lt_of_nle (isHere_lt h)
  obtain ⟨h2, h3⟩ := hSI
  rw [inc_toI h1]
  omega
def r_X5_takesSign (M : CS) (a1 : Int32) : Int32 := ((fun (x21_s0 : Int32) => ((fun (z_1 : CS) => (r_X5_isHere M a1 a1)) (va_up M 0 (upd (M 0) 9 (((M 0) 9) + x21_s0))))) (if (r_X5_isHere M a1 a1) = (0 : Int32) then (0 : Int32) else (1 : Int32)))
def p_X5_takesSign (M : CS) (a1 : Int32) : CS := ((fun (x21_s0 : Int32) => ((fun (z_1 : CS) => z_1) (va_up M 0 (upd (M 0) 9 (((M 0) 9) + x21_s0))))) (if (r_X5_isHere M a1 a1) = (0 : Int32) then (0 : Int32) else (1 : Int32)))
abbrev rm_X5_takesSign : Room := { frames := 2, cells := 0, slots := 0, locals := 47 }
set_option maxHeartbeats 4000000 in
set_option maxRecDepth 100000 in
theorem c_X5_takesSign (l : Launch) (D : va_G) (cI cC cS : ClassId) (md : Nat → Nat) (M : CS) (a1 : Int32) (hSI : SI M) : CI l D cI cC cS yX5_takesSign wsX5_takesSign rm_X5_takesSign [.ref (md 0), .int a1] (mdW cI md M) (mdW cI md (p_X5_takesSign M a1)) (r_X5_takesSign M a1) := by
  intro sz
  refine startC (cc := cX5_takesSign) (maxL := 3) (ret := (some .boolean)) (by decide) rfl (Nat.le_of_ble_eq_true rfl) ?_
  intro p e s m args below meth c hx hb hml hsg hts hown hlocks hin hK A hA hS hP hD ls hl
  have hown : s.vm.findClass RX5 = some m.cls := hown
  have hl : lv_has ls 3 [(0, .ref (md 0)), (1, .int a1)] := hl
  have hP : va_P D vwCl [((md 0), mdC md (M 0)), ((md 1), arC cI 96 (M 1)), ((md 2), arC cI 96 (M 2)), ((md 3), arC cI 96 (M 3)), ((md 4), arC cI 384 (M 4)), ((md 5), arC cI 96 (M 5)), ((md 6), arC cI 60 (M 6))] s.heap := hP
  have hD : va_D A [((md 0), mdC md (M 0)), ((md 1), arC cI 96 (M 1)), ((md 2), arC cI 96 (M 2)), ((md 3), arC cI 96 (M 3)), ((md 4), arC cI 384 (M 4)), ((md 5), arC cI 96 (M 5)), ((md 6), arC cI 60 (M 6))] := hD
  have inX5 : ∀ w ∈ wsX50, w ∈ wsX5_takesSign := fun _ h => List.mem_cons_of_mem _ (List.mem_append_right _ h)
  have hr : (r_X5_takesSign M a1) = ((fun (x21_s0 : Int32) => ((fun (z_1 : CS) => (r_X5_isHere M a1 a1)) (va_up M 0 (upd (M 0) 9 (((M 0) 9) + x21_s0))))) (if (r_X5_isHere M a1 a1) = (0 : Int32) then (0 : Int32) else (1 : Int32))) := rfl
  have hp : (p_X5_takesSign M a1) = ((fun (x21_s0 : Int32) => ((fun (z_1 : CS) => z_1) (va_up M 0 (upd (M 0) 9 (((M 0) 9) + x21_s0))))) (if (r_X5_isHere M a1 a1) = (0 : Int32) then (0 : Int32) else (1 : Int32))) := rfl
  refine lv_aload_n hx hb dX5_takesSign_0 rfl (lv_at hl 0 rfl) ?_
  refine lv_iload_n hx hb dX5_takesSign_1 rfl (lv_at hl 1 rfl) ?_
  refine lv_iload_n hx hb dX5_takesSign_2 rfl (lv_at hl 1 rfl) ?_
  refine goI (n := 7) (ws' := [((md 0), mdC md (M 0)), ((md 1), arC cI 96 (M 1)), ((md 2), arC cI 96 (M 2)), ((md 3), arC cI 96 (M 3)), ((md 4), arC cI 384 (M 4)), ((md 5), arC cI 96 (M 5)), ((md 6), arC cI 60 (M 6))]) (rs := []) (va_runV (As := [.int a1, .int a1]) (rest := []) ⟨hx, hb, hml, hown, hts⟩ (c_X5_isHere l D cI cC cS md M a1 a1 hSI _) (cwV 2 hts gX5_takesSign_X5_isHere rfl rfl rfl (by decide +kernel) ⟨Nat.le_of_ble_eq_true rfl, Nat.le_of_ble_eq_true rfl⟩) (preV hK hP hD [0, 1, 2, 3, 4, 5, 6] (by decide) rfl 0 5 rfl rfl) rfl rfl hl.1 rfl (lv_room (Nat.le_of_ble_eq_true rfl)) dX5_takesSign_3 ⟨Nat.zero_le _, Nat.zero_le _⟩) hP hD hS hA [0, 1, 2, 3, 4, 5, 6] [] rfl rfl rfl rfl rfl (by decide +kernel) rfl (fun H locs hP hD hS => ?_)
  refine lv_istore_n (lv' := [(2, .int (r_X5_isHere M a1 a1)), (0, .ref (md 0)), (1, .int a1)]) hx hb dX5_takesSign_6 rfl hl (by decide) rfl (fun ls hl => ?_)
  refine lv_aload_n hx hb dX5_takesSign_7 rfl (lv_at hl 1 rfl) ?_
  refine lv_dup hx hb dX5_takesSign_8 rfl ?_
  refine va_get (D := D) (ci := 5) (v := .int ((M 0) 9)) (C := RX5) (T := TX5) (N := 14) hx hb hts inX5 hown hK.1 hP 0 rfl rfl 9 (by decide) (hts (.fieldLink RX5 138 "GrayPointersModel" "spot" "I") (List.mem_of_getElem? (i := 1) rfl)) (fun _ h9 => h9) rfl dX5_takesSign_9 ?_
  refine lv_iload_n hx hb dX5_takesSign_12 rfl (lv_at hl 0 rfl) ?_
  have J_21 : ∀ (x21_s0 : Int32) (H : Heap) (locs : List Loc), x21_s0 = (if (r_X5_isHere M a1 a1) = (0 : Int32) then (0 : Int32) else (1 : Int32)) → va_P D vwCl [((md 0), mdC md (M 0)), ((md 1), arC cI 96 (M 1)), ((md 2), arC cI 96 (M 2)), ((md 3), arC cI 96 (M 3)), ((md 4), arC cI 384 (M 4)), ((md 5), arC cI 96 (M 5)), ((md 6), arC cI 60 (M 6))] H → va_D A [((md 0), mdC md (M 0)), ((md 1), arC cI 96 (M 1)), ((md 2), arC cI 96 (M 2)), ((md 3), arC cI 96 (M 3)), ((md 4), arC cI 384 (M 4)), ((md 5), arC cI 96 (M 5)), ((md 6), arC cI 60 (M 6))] → va_S A s.heap H locs → ∀ ls, lv_has ls 3 [(2, .int (r_X5_isHere M a1 a1))] → W p l e rm_X5_takesSign s m args below meth c H locs 0 0 (MQ below (QI D (mdW cI md (p_X5_takesSign M a1)) (r_X5_takesSign M a1) A) args s 0 0 A) (F0 m 21 ls [.int x21_s0, .int ((M 0) 9), .ref (md 0)]) := by
    intro x21_s0 H locs ex21_s0 hP hD hS ls hl
    have hr : (r_X5_takesSign M a1) = ((fun (z_1 : CS) => (r_X5_isHere M a1 a1)) (va_up M 0 (upd (M 0) 9 (((M 0) 9) + x21_s0)))) := by subst ex21_s0; exact hr
    have hp : (p_X5_takesSign M a1) = ((fun (z_1 : CS) => z_1) (va_up M 0 (upd (M 0) 9 (((M 0) 9) + x21_s0)))) := by subst ex21_s0; exact hp
    refine lv_iadd hx hb dX5_takesSign_21 ?_
    refine va_put (D := D) (ci := 5) (v := .int (((M 0) 9) + x21_s0)) (ty := .int) (C := RX5) (T := TX5) (N := 14) hx hb hts inX5 tyX5 tyX5_ok nmX5 hown hK.1 hP hD hS 0 rfl rfl 9 (by decide) (hts (.fieldLink RX5 138 "GrayPointersModel" "spot" "I") (List.mem_of_getElem? (i := 1) rfl)) (fun _ h9 => h9) rfl (by decide +kernel) rfl rfl (Nat.le_of_ble_eq_true rfl) dX5_takesSign_22 (fun H locs hP hD hS => ?_)
    have hP : va_P D vwCl [((md 0), mdC md (upd (M 0) 9 (((M 0) 9) + x21_s0))), ((md 1), arC cI 96 (M 1)), ((md 2), arC cI 96 (M 2)), ((md 3), arC cI 96 (M 3)), ((md 4), arC cI 384 (M 4)), ((md 5), arC cI 96 (M 5)), ((md 6), arC cI 60 (M 6))] H := hP
    have hD : va_D A [((md 0), mdC md (upd (M 0) 9 (((M 0) 9) + x21_s0))), ((md 1), arC cI 96 (M 1)), ((md 2), arC cI 96 (M 2)), ((md 3), arC cI 96 (M 3)), ((md 4), arC cI 384 (M 4)), ((md 5), arC cI 96 (M 5)), ((md 6), arC cI 60 (M 6))] := hD
    refine lv_iload_n hx hb dX5_takesSign_25 rfl (lv_at hl 0 rfl) ?_
    obtain ⟨z_1, hz_1⟩ : ∃ z : CS, z = (va_up M 0 (upd (M 0) 9 (((M 0) 9) + x21_s0))) := ⟨_, rfl⟩
    have e0 : (z_1 0) = (upd (M 0) 9 (((M 0) 9) + x21_s0)) := (congrFun hz_1 0).trans va_up_s
    have e1 : (z_1 1) = (M 1) := (congrFun hz_1 1).trans (va_up_n (by decide))
    have e2 : (z_1 2) = (M 2) := (congrFun hz_1 2).trans (va_up_n (by decide))
    have e3 : (z_1 3) = (M 3) := (congrFun hz_1 3).trans (va_up_n (by decide))
    have e4 : (z_1 4) = (M 4) := (congrFun hz_1 4).trans (va_up_n (by decide))
    have e5 : (z_1 5) = (M 5) := (congrFun hz_1 5).trans (va_up_n (by decide))
    have e6 : (z_1 6) = (M 6) := (congrFun hz_1 6).trans (va_up_n (by decide))
    have hP : va_P D vwCl [((md 0), mdC md (z_1 0)), ((md 1), arC cI 96 (z_1 1)), ((md 2), arC cI 96 (z_1 2)), ((md 3), arC cI 96 (z_1 3)), ((md 4), arC cI 384 (z_1 4)), ((md 5), arC cI 96 (z_1 5)), ((md 6), arC cI 60 (z_1 6))] H := by rw [e0, e1, e2, e3, e4, e5, e6]; exact hP
    have hD : va_D A [((md 0), mdC md (z_1 0)), ((md 1), arC cI 96 (z_1 1)), ((md 2), arC cI 96 (z_1 2)), ((md 3), arC cI 96 (z_1 3)), ((md 4), arC cI 384 (z_1 4)), ((md 5), arC cI 96 (z_1 5)), ((md 6), arC cI 60 (z_1 6))] := by rw [e0, e1, e2, e3, e4, e5, e6]; exact hD
    clear e0 e1 e2 e3 e4 e5 e6
    have hr : (r_X5_takesSign M a1) = (r_X5_isHere M a1 a1) := by subst hz_1; exact hr
    have hp : (p_X5_takesSign M a1) = z_1 := by subst hz_1; exact hp
    exact endZ (v := (r_X5_isHere M a1 a1)) hb hx hsg (isHere_b _ _ _) hr.symm (by rw [hp]; exact hP) (by rw [hp]; exact hD) hS dX5_takesSign_26 hlocks
  refine lv_if_eq (tgt := 20) hx hb dX5_takesSign_13 (by decide) (fun c13 => ?_) (fun c13 => ?_)
  · refine lv_iconst (v := (0 : Int32)) hx hb dX5_takesSign_20 (by decide) ?_
    exact J_21 (0 : Int32) _ _ (if_pos c13).symm hP hD hS ls (lv_sub hl [0] rfl)
  · refine lv_iconst (v := (1 : Int32)) hx hb dX5_takesSign_16 (by decide) ?_
    refine lv_goto (tgt := 21) hx hb dX5_takesSign_17 (by decide) ?_
    exact J_21 (1 : Int32) _ _ (if_neg c13).symm hP hD hS ls (lv_sub hl [0] rfl)
theorem si_ts {M : CS} (hSI : SI M) {a1 : Int32} : SI (p_X5_takesSign M a1) := by
  unfold p_X5_takesSign
  by_cases c : r_X5_isHere M a1 a1 = (0 : Int32)
  · rw [if_pos c]
    show 0 ≤ ((M 0 9) + (0 : Int32)).toInt ∧ (M 0 8).toInt ≤ 60
    rw [Int32.add_zero]
    exact hSI
  · rw [if_neg c]
    exact si_inc hSI c
def r_X5_readsNumber (M : CS) (a1 : Int32) : Int32 := (if (r_X5_isHere M ((48 : Int32) + a1) (57 : Int32)) = (0 : Int32) then (0 : Int32) else (if (((M 6) ((M 0) 9).toNatClampNeg) - (48 : Int32)) ≤ (0 : Int32) then ((fun (z_1 : CS) => (1 : Int32)) (va_up M 0 (upd (upd (M 0) 10 (((M 6) ((M 0) 9).toNatClampNeg) - (48 : Int32))) 9 (((M 0) 9) + (1 : Int32))))) else ((fun (z_2 : CS) => (if (r_X5_isHere z_2 (48 : Int32) (57 : Int32)) = (0 : Int32) then (1 : Int32) else ((fun (z_3 : CS) => (1 : Int32)) (va_up z_2 0 (upd (upd (z_2 0) 10 ((((10 : Int32) * ((z_2 0) 10)) + ((z_2 6) ((z_2 0) 9).toNatClampNeg)) - (48 : Int32))) 9 (((z_2 0) 9) + (1 : Int32))))))) (va_up M 0 (upd (upd (M 0) 10 (((M 6) ((M 0) 9).toNatClampNeg) - (48 : Int32))) 9 (((M 0) 9) + (1 : Int32)))))))
def p_X5_readsNumber (M : CS) (a1 : Int32) : CS := (if (r_X5_isHere M ((48 : Int32) + a1) (57 : Int32)) = (0 : Int32) then M else (if (((M 6) ((M 0) 9).toNatClampNeg) - (48 : Int32)) ≤ (0 : Int32) then ((fun (z_1 : CS) => z_1) (va_up M 0 (upd (upd (M 0) 10 (((M 6) ((M 0) 9).toNatClampNeg) - (48 : Int32))) 9 (((M 0) 9) + (1 : Int32))))) else ((fun (z_2 : CS) => (if (r_X5_isHere z_2 (48 : Int32) (57 : Int32)) = (0 : Int32) then z_2 else ((fun (z_3 : CS) => z_3) (va_up z_2 0 (upd (upd (z_2 0) 10 ((((10 : Int32) * ((z_2 0) 10)) + ((z_2 6) ((z_2 0) 9).toNatClampNeg)) - (48 : Int32))) 9 (((z_2 0) 9) + (1 : Int32))))))) (va_up M 0 (upd (upd (M 0) 10 (((M 6) ((M 0) 9).toNatClampNeg) - (48 : Int32))) 9 (((M 0) 9) + (1 : Int32)))))))
abbrev rm_X5_readsNumber : Room := { frames := 2, cells := 0, slots := 0, locals := 47 }
set_option maxHeartbeats 4000000 in
set_option maxRecDepth 100000 in
theorem c_X5_readsNumber (l : Launch) (D : va_G) (cI cC cS : ClassId) (md : Nat → Nat) (M : CS) (a1 : Int32) (hSI : SI M) : CI l D cI cC cS yX5_readsNumber wsX5_readsNumber rm_X5_readsNumber [.ref (md 0), .int a1] (mdW cI md M) (mdW cI md (p_X5_readsNumber M a1)) (r_X5_readsNumber M a1) := by
  intro sz
  refine startC (cc := cX5_readsNumber) (maxL := 2) (ret := (some .boolean)) (by decide) rfl (Nat.le_of_ble_eq_true rfl) ?_
  intro p e s m args below meth c hx hb hml hsg hts hown hlocks hin hK A hA hS hP hD ls hl
  have hown : s.vm.findClass RX5 = some m.cls := hown
  have hl : lv_has ls 2 [(0, .ref (md 0)), (1, .int a1)] := hl
  have hP : va_P D vwCl [((md 0), mdC md (M 0)), ((md 1), arC cI 96 (M 1)), ((md 2), arC cI 96 (M 2)), ((md 3), arC cI 96 (M 3)), ((md 4), arC cI 384 (M 4)), ((md 5), arC cI 96 (M 5)), ((md 6), arC cI 60 (M 6))] s.heap := hP
  have hD : va_D A [((md 0), mdC md (M 0)), ((md 1), arC cI 96 (M 1)), ((md 2), arC cI 96 (M 2)), ((md 3), arC cI 96 (M 3)), ((md 4), arC cI 384 (M 4)), ((md 5), arC cI 96 (M 5)), ((md 6), arC cI 60 (M 6))] := hD
  have inX5 : ∀ w ∈ wsX50, w ∈ wsX5_readsNumber := fun _ h => List.mem_cons_of_mem _ (List.mem_append_right _ h)
  have hr : (r_X5_readsNumber M a1) = (if (r_X5_isHere M ((48 : Int32) + a1) (57 : Int32)) = (0 : Int32) then (0 : Int32) else (if (((M 6) ((M 0) 9).toNatClampNeg) - (48 : Int32)) ≤ (0 : Int32) then ((fun (z_1 : CS) => (1 : Int32)) (va_up M 0 (upd (upd (M 0) 10 (((M 6) ((M 0) 9).toNatClampNeg) - (48 : Int32))) 9 (((M 0) 9) + (1 : Int32))))) else ((fun (z_2 : CS) => (if (r_X5_isHere z_2 (48 : Int32) (57 : Int32)) = (0 : Int32) then (1 : Int32) else ((fun (z_3 : CS) => (1 : Int32)) (va_up z_2 0 (upd (upd (z_2 0) 10 ((((10 : Int32) * ((z_2 0) 10)) + ((z_2 6) ((z_2 0) 9).toNatClampNeg)) - (48 : Int32))) 9 (((z_2 0) 9) + (1 : Int32))))))) (va_up M 0 (upd (upd (M 0) 10 (((M 6) ((M 0) 9).toNatClampNeg) - (48 : Int32))) 9 (((M 0) 9) + (1 : Int32))))))) := rfl
  have hp : (p_X5_readsNumber M a1) = (if (r_X5_isHere M ((48 : Int32) + a1) (57 : Int32)) = (0 : Int32) then M else (if (((M 6) ((M 0) 9).toNatClampNeg) - (48 : Int32)) ≤ (0 : Int32) then ((fun (z_1 : CS) => z_1) (va_up M 0 (upd (upd (M 0) 10 (((M 6) ((M 0) 9).toNatClampNeg) - (48 : Int32))) 9 (((M 0) 9) + (1 : Int32))))) else ((fun (z_2 : CS) => (if (r_X5_isHere z_2 (48 : Int32) (57 : Int32)) = (0 : Int32) then z_2 else ((fun (z_3 : CS) => z_3) (va_up z_2 0 (upd (upd (z_2 0) 10 ((((10 : Int32) * ((z_2 0) 10)) + ((z_2 6) ((z_2 0) 9).toNatClampNeg)) - (48 : Int32))) 9 (((z_2 0) 9) + (1 : Int32))))))) (va_up M 0 (upd (upd (M 0) 10 (((M 6) ((M 0) 9).toNatClampNeg) - (48 : Int32))) 9 (((M 0) 9) + (1 : Int32))))))) := rfl
  refine lv_aload_n hx hb dX5_readsNumber_0 rfl (lv_at hl 0 rfl) ?_
  refine lv_bipush (v := (48 : Int32)) hx hb dX5_readsNumber_1 (by decide) ?_
  refine lv_iload_n hx hb dX5_readsNumber_3 rfl (lv_at hl 1 rfl) ?_
  refine lv_iadd hx hb dX5_readsNumber_4 ?_
  refine lv_bipush (v := (57 : Int32)) hx hb dX5_readsNumber_5 (by decide) ?_
  refine goI (n := 7) (ws' := [((md 0), mdC md (M 0)), ((md 1), arC cI 96 (M 1)), ((md 2), arC cI 96 (M 2)), ((md 3), arC cI 96 (M 3)), ((md 4), arC cI 384 (M 4)), ((md 5), arC cI 96 (M 5)), ((md 6), arC cI 60 (M 6))]) (rs := []) (va_runV (As := [.int ((48 : Int32) + a1), .int (57 : Int32)]) (rest := []) ⟨hx, hb, hml, hown, hts⟩ (c_X5_isHere l D cI cC cS md M ((48 : Int32) + a1) (57 : Int32) hSI _) (cwV 2 hts gX5_readsNumber_X5_isHere rfl rfl rfl (by decide +kernel) ⟨Nat.le_of_ble_eq_true rfl, Nat.le_of_ble_eq_true rfl⟩) (preV hK hP hD [0, 1, 2, 3, 4, 5, 6] (by decide) rfl 0 5 rfl rfl) rfl rfl hl.1 rfl (lv_room (Nat.le_of_ble_eq_true rfl)) dX5_readsNumber_7 ⟨Nat.zero_le _, Nat.zero_le _⟩) hP hD hS hA [0, 1, 2, 3, 4, 5, 6] [] rfl rfl rfl rfl rfl (by decide +kernel) rfl (fun H locs hP hD hS => ?_)
  refine lv_if_ne (tgt := 15) hx hb dX5_readsNumber_10 (by decide) (fun c10 => ?_) (fun c10 => ?_)
  · have hr := hr.trans (if_neg c10)
    have hp := hp.trans (if_neg c10)
    refine lv_aload_n hx hb dX5_readsNumber_15 rfl (lv_at hl 0 rfl) ?_
    refine lv_aload_n hx hb dX5_readsNumber_16 rfl (lv_at hl 0 rfl) ?_
    refine va_get (D := D) (ci := 5) (v := .ref (md 6)) (C := RX5) (T := TX5) (N := 14) hx hb hts inX5 hown hK.1 hP 0 rfl rfl 7 (by decide) (hts (.fieldLink RX5 25 "GrayPointersModel" "text" "[I") (List.mem_of_getElem? (i := 1) rfl)) (fun _ h9 => h9) rfl dX5_readsNumber_17 ?_
    refine lv_aload_n hx hb dX5_readsNumber_20 rfl (lv_at hl 0 rfl) ?_
    refine va_get (D := D) (ci := 5) (v := .int ((M 0) 9)) (C := RX5) (T := TX5) (N := 14) hx hb hts inX5 hown hK.1 hP 0 rfl rfl 9 (by decide) (hts (.fieldLink RX5 138 "GrayPointersModel" "spot" "I") (List.mem_of_getElem? (i := 2) rfl)) (fun _ h9 => h9) rfl dX5_readsNumber_21 ?_
    refine va_iald hx hb hK.1 hP 6 0 rfl rfl (i := ((M 0) 9)) (here_in hSI c10) dX5_readsNumber_24 ?_
    refine lv_bipush (v := (48 : Int32)) hx hb dX5_readsNumber_25 (by decide) ?_
    refine lv_isub hx hb dX5_readsNumber_27 ?_
    refine va_put (D := D) (ci := 5) (v := .int (((M 6) ((M 0) 9).toNatClampNeg) - (48 : Int32))) (ty := .int) (C := RX5) (T := TX5) (N := 14) hx hb hts inX5 tyX5 tyX5_ok nmX5 hown hK.1 hP hD hS 0 rfl rfl 10 (by decide) (hts (.fieldLink RX5 144 "GrayPointersModel" "number" "I") (List.mem_of_getElem? (i := 3) rfl)) (fun _ h9 => h9) rfl (by decide +kernel) rfl rfl (Nat.le_of_ble_eq_true rfl) dX5_readsNumber_28 (fun H locs hP hD hS => ?_)
    have hP : va_P D vwCl [((md 0), mdC md (upd (M 0) 10 (((M 6) ((M 0) 9).toNatClampNeg) - (48 : Int32)))), ((md 1), arC cI 96 (M 1)), ((md 2), arC cI 96 (M 2)), ((md 3), arC cI 96 (M 3)), ((md 4), arC cI 384 (M 4)), ((md 5), arC cI 96 (M 5)), ((md 6), arC cI 60 (M 6))] H := hP
    have hD : va_D A [((md 0), mdC md (upd (M 0) 10 (((M 6) ((M 0) 9).toNatClampNeg) - (48 : Int32)))), ((md 1), arC cI 96 (M 1)), ((md 2), arC cI 96 (M 2)), ((md 3), arC cI 96 (M 3)), ((md 4), arC cI 384 (M 4)), ((md 5), arC cI 96 (M 5)), ((md 6), arC cI 60 (M 6))] := hD
    refine lv_aload_n hx hb dX5_readsNumber_31 rfl (lv_at hl 0 rfl) ?_
    refine lv_dup hx hb dX5_readsNumber_32 rfl ?_
    refine va_get (D := D) (ci := 5) (v := .int ((M 0) 9)) (C := RX5) (T := TX5) (N := 14) hx hb hts inX5 hown hK.1 hP 0 rfl rfl 9 (by decide) (hts (.fieldLink RX5 138 "GrayPointersModel" "spot" "I") (List.mem_of_getElem? (i := 2) rfl)) (fun _ h9 => h9) rfl dX5_readsNumber_33 ?_
    refine lv_iconst (v := (1 : Int32)) hx hb dX5_readsNumber_36 (by decide) ?_
    refine lv_iadd hx hb dX5_readsNumber_37 ?_
    refine va_put (D := D) (ci := 5) (v := .int (((M 0) 9) + (1 : Int32))) (ty := .int) (C := RX5) (T := TX5) (N := 14) hx hb hts inX5 tyX5 tyX5_ok nmX5 hown hK.1 hP hD hS 0 rfl rfl 9 (by decide) (hts (.fieldLink RX5 138 "GrayPointersModel" "spot" "I") (List.mem_of_getElem? (i := 2) rfl)) (fun _ h9 => h9) rfl (by decide +kernel) rfl rfl (Nat.le_of_ble_eq_true rfl) dX5_readsNumber_38 (fun H locs hP hD hS => ?_)
    have hP : va_P D vwCl [((md 0), mdC md (upd (upd (M 0) 10 (((M 6) ((M 0) 9).toNatClampNeg) - (48 : Int32))) 9 (((M 0) 9) + (1 : Int32)))), ((md 1), arC cI 96 (M 1)), ((md 2), arC cI 96 (M 2)), ((md 3), arC cI 96 (M 3)), ((md 4), arC cI 384 (M 4)), ((md 5), arC cI 96 (M 5)), ((md 6), arC cI 60 (M 6))] H := hP
    have hD : va_D A [((md 0), mdC md (upd (upd (M 0) 10 (((M 6) ((M 0) 9).toNatClampNeg) - (48 : Int32))) 9 (((M 0) 9) + (1 : Int32)))), ((md 1), arC cI 96 (M 1)), ((md 2), arC cI 96 (M 2)), ((md 3), arC cI 96 (M 3)), ((md 4), arC cI 384 (M 4)), ((md 5), arC cI 96 (M 5)), ((md 6), arC cI 60 (M 6))] := hD
    refine lv_aload_n hx hb dX5_readsNumber_41 rfl (lv_at hl 0 rfl) ?_
    refine va_get (D := D) (ci := 5) (v := .int (((M 6) ((M 0) 9).toNatClampNeg) - (48 : Int32))) (C := RX5) (T := TX5) (N := 14) hx hb hts inX5 hown hK.1 hP 0 rfl rfl 10 (by decide) (hts (.fieldLink RX5 144 "GrayPointersModel" "number" "I") (List.mem_of_getElem? (i := 3) rfl)) (fun _ h9 => h9) rfl dX5_readsNumber_42 ?_
    refine lv_if_le (tgt := 93) hx hb dX5_readsNumber_45 (by decide) (fun c45 => ?_) (fun c45 => ?_)
    · have hr := hr.trans (if_pos c45)
      have hp := hp.trans (if_pos c45)
      refine lv_iconst (v := (1 : Int32)) hx hb dX5_readsNumber_93 (by decide) ?_
      obtain ⟨z_1, hz_1⟩ : ∃ z : CS, z = (va_up M 0 (upd (upd (M 0) 10 (((M 6) ((M 0) 9).toNatClampNeg) - (48 : Int32))) 9 (((M 0) 9) + (1 : Int32)))) := ⟨_, rfl⟩
      have e0 : (z_1 0) = (upd (upd (M 0) 10 (((M 6) ((M 0) 9).toNatClampNeg) - (48 : Int32))) 9 (((M 0) 9) + (1 : Int32))) := (congrFun hz_1 0).trans va_up_s
      have e1 : (z_1 1) = (M 1) := (congrFun hz_1 1).trans (va_up_n (by decide))
      have e2 : (z_1 2) = (M 2) := (congrFun hz_1 2).trans (va_up_n (by decide))
      have e3 : (z_1 3) = (M 3) := (congrFun hz_1 3).trans (va_up_n (by decide))
      have e4 : (z_1 4) = (M 4) := (congrFun hz_1 4).trans (va_up_n (by decide))
      have e5 : (z_1 5) = (M 5) := (congrFun hz_1 5).trans (va_up_n (by decide))
      have e6 : (z_1 6) = (M 6) := (congrFun hz_1 6).trans (va_up_n (by decide))
      have hP : va_P D vwCl [((md 0), mdC md (z_1 0)), ((md 1), arC cI 96 (z_1 1)), ((md 2), arC cI 96 (z_1 2)), ((md 3), arC cI 96 (z_1 3)), ((md 4), arC cI 384 (z_1 4)), ((md 5), arC cI 96 (z_1 5)), ((md 6), arC cI 60 (z_1 6))] H := by rw [e0, e1, e2, e3, e4, e5, e6]; exact hP
      have hD : va_D A [((md 0), mdC md (z_1 0)), ((md 1), arC cI 96 (z_1 1)), ((md 2), arC cI 96 (z_1 2)), ((md 3), arC cI 96 (z_1 3)), ((md 4), arC cI 384 (z_1 4)), ((md 5), arC cI 96 (z_1 5)), ((md 6), arC cI 60 (z_1 6))] := by rw [e0, e1, e2, e3, e4, e5, e6]; exact hD
      clear e0 e1 e2 e3 e4 e5 e6
      have hr : (r_X5_readsNumber M a1) = (1 : Int32) := by subst hz_1; exact hr
      have hp : (p_X5_readsNumber M a1) = z_1 := by subst hz_1; exact hp
      exact endZ (v := (1 : Int32)) hb hx hsg rfl hr.symm (by rw [hp]; exact hP) (by rw [hp]; exact hD) hS dX5_readsNumber_94 hlocks
    · have hr := hr.trans (if_neg c45)
      have hp := hp.trans (if_neg c45)
      refine lv_aload_n hx hb dX5_readsNumber_48 rfl (lv_at hl 0 rfl) ?_
      refine lv_bipush (v := (48 : Int32)) hx hb dX5_readsNumber_49 (by decide) ?_
      refine lv_bipush (v := (57 : Int32)) hx hb dX5_readsNumber_51 (by decide) ?_
      obtain ⟨z_2, hz_2⟩ : ∃ z : CS, z = (va_up M 0 (upd (upd (M 0) 10 (((M 6) ((M 0) 9).toNatClampNeg) - (48 : Int32))) 9 (((M 0) 9) + (1 : Int32)))) := ⟨_, rfl⟩
      have e0 : (z_2 0) = (upd (upd (M 0) 10 (((M 6) ((M 0) 9).toNatClampNeg) - (48 : Int32))) 9 (((M 0) 9) + (1 : Int32))) := (congrFun hz_2 0).trans va_up_s
      have e1 : (z_2 1) = (M 1) := (congrFun hz_2 1).trans (va_up_n (by decide))
      have e2 : (z_2 2) = (M 2) := (congrFun hz_2 2).trans (va_up_n (by decide))
      have e3 : (z_2 3) = (M 3) := (congrFun hz_2 3).trans (va_up_n (by decide))
      have e4 : (z_2 4) = (M 4) := (congrFun hz_2 4).trans (va_up_n (by decide))
      have e5 : (z_2 5) = (M 5) := (congrFun hz_2 5).trans (va_up_n (by decide))
      have e6 : (z_2 6) = (M 6) := (congrFun hz_2 6).trans (va_up_n (by decide))
      have hP : va_P D vwCl [((md 0), mdC md (z_2 0)), ((md 1), arC cI 96 (z_2 1)), ((md 2), arC cI 96 (z_2 2)), ((md 3), arC cI 96 (z_2 3)), ((md 4), arC cI 384 (z_2 4)), ((md 5), arC cI 96 (z_2 5)), ((md 6), arC cI 60 (z_2 6))] H := by rw [e0, e1, e2, e3, e4, e5, e6]; exact hP
      have hD : va_D A [((md 0), mdC md (z_2 0)), ((md 1), arC cI 96 (z_2 1)), ((md 2), arC cI 96 (z_2 2)), ((md 3), arC cI 96 (z_2 3)), ((md 4), arC cI 384 (z_2 4)), ((md 5), arC cI 96 (z_2 5)), ((md 6), arC cI 60 (z_2 6))] := by rw [e0, e1, e2, e3, e4, e5, e6]; exact hD
      clear e0 e1 e2 e3 e4 e5 e6
      have hr : (r_X5_readsNumber M a1) = (if (r_X5_isHere z_2 (48 : Int32) (57 : Int32)) = (0 : Int32) then (1 : Int32) else ((fun (z_3 : CS) => (1 : Int32)) (va_up z_2 0 (upd (upd (z_2 0) 10 ((((10 : Int32) * ((z_2 0) 10)) + ((z_2 6) ((z_2 0) 9).toNatClampNeg)) - (48 : Int32))) 9 (((z_2 0) 9) + (1 : Int32)))))) := by subst hz_2; exact hr
      have hp : (p_X5_readsNumber M a1) = (if (r_X5_isHere z_2 (48 : Int32) (57 : Int32)) = (0 : Int32) then z_2 else ((fun (z_3 : CS) => z_3) (va_up z_2 0 (upd (upd (z_2 0) 10 ((((10 : Int32) * ((z_2 0) 10)) + ((z_2 6) ((z_2 0) 9).toNatClampNeg)) - (48 : Int32))) 9 (((z_2 0) 9) + (1 : Int32)))))) := by subst hz_2; exact hp
      refine goI (n := 7) (ws' := [((md 0), mdC md (z_2 0)), ((md 1), arC cI 96 (z_2 1)), ((md 2), arC cI 96 (z_2 2)), ((md 3), arC cI 96 (z_2 3)), ((md 4), arC cI 384 (z_2 4)), ((md 5), arC cI 96 (z_2 5)), ((md 6), arC cI 60 (z_2 6))]) (rs := []) (va_runV (As := [.int (48 : Int32), .int (57 : Int32)]) (rest := []) ⟨hx, hb, hml, hown, hts⟩ (c_X5_isHere l D cI cC cS md z_2 (48 : Int32) (57 : Int32) (by subst_vars; exact si_inc hSI c10) _) (cwV 2 hts gX5_readsNumber_X5_isHere rfl rfl rfl (by decide +kernel) ⟨Nat.le_of_ble_eq_true rfl, Nat.le_of_ble_eq_true rfl⟩) (preV hK hP hD [0, 1, 2, 3, 4, 5, 6] (by decide) rfl 0 5 rfl rfl) rfl rfl hl.1 rfl (lv_room (Nat.le_of_ble_eq_true rfl)) dX5_readsNumber_53 ⟨Nat.zero_le _, Nat.zero_le _⟩) hP hD hS hA [0, 1, 2, 3, 4, 5, 6] [] rfl rfl rfl rfl rfl (by decide +kernel) rfl (fun H locs hP hD hS => ?_)
      refine lv_if_eq (tgt := 93) hx hb dX5_readsNumber_56 (by decide) (fun c56 => ?_) (fun c56 => ?_)
      · have hr := hr.trans (if_pos c56)
        have hp := hp.trans (if_pos c56)
        refine lv_iconst (v := (1 : Int32)) hx hb dX5_readsNumber_93 (by decide) ?_
        exact endZ (v := (1 : Int32)) hb hx hsg rfl hr.symm (by rw [hp]; exact hP) (by rw [hp]; exact hD) hS dX5_readsNumber_94 hlocks
      · have hr := hr.trans (if_neg c56)
        have hp := hp.trans (if_neg c56)
        refine lv_aload_n hx hb dX5_readsNumber_59 rfl (lv_at hl 0 rfl) ?_
        refine lv_bipush (v := (10 : Int32)) hx hb dX5_readsNumber_60 (by decide) ?_
        refine lv_aload_n hx hb dX5_readsNumber_62 rfl (lv_at hl 0 rfl) ?_
        refine va_get (D := D) (ci := 5) (v := .int ((z_2 0) 10)) (C := RX5) (T := TX5) (N := 14) hx hb hts inX5 hown hK.1 hP 0 rfl rfl 10 (by decide) (hts (.fieldLink RX5 144 "GrayPointersModel" "number" "I") (List.mem_of_getElem? (i := 3) rfl)) (fun _ h9 => h9) rfl dX5_readsNumber_63 ?_
        refine lv_imul hx hb dX5_readsNumber_66 ?_
        refine lv_aload_n hx hb dX5_readsNumber_67 rfl (lv_at hl 0 rfl) ?_
        refine va_get (D := D) (ci := 5) (v := .ref (md 6)) (C := RX5) (T := TX5) (N := 14) hx hb hts inX5 hown hK.1 hP 0 rfl rfl 7 (by decide) (hts (.fieldLink RX5 25 "GrayPointersModel" "text" "[I") (List.mem_of_getElem? (i := 1) rfl)) (fun _ h9 => h9) rfl dX5_readsNumber_68 ?_
        refine lv_aload_n hx hb dX5_readsNumber_71 rfl (lv_at hl 0 rfl) ?_
        refine va_get (D := D) (ci := 5) (v := .int ((z_2 0) 9)) (C := RX5) (T := TX5) (N := 14) hx hb hts inX5 hown hK.1 hP 0 rfl rfl 9 (by decide) (hts (.fieldLink RX5 138 "GrayPointersModel" "spot" "I") (List.mem_of_getElem? (i := 2) rfl)) (fun _ h9 => h9) rfl dX5_readsNumber_72 ?_
        refine va_iald hx hb hK.1 hP 6 0 rfl rfl (i := ((z_2 0) 9)) (here_in (by subst_vars; exact si_inc hSI c10) c56) dX5_readsNumber_75 ?_
        refine lv_iadd hx hb dX5_readsNumber_76 ?_
        refine lv_bipush (v := (48 : Int32)) hx hb dX5_readsNumber_77 (by decide) ?_
        refine lv_isub hx hb dX5_readsNumber_79 ?_
        refine va_put (D := D) (ci := 5) (v := .int ((((10 : Int32) * ((z_2 0) 10)) + ((z_2 6) ((z_2 0) 9).toNatClampNeg)) - (48 : Int32))) (ty := .int) (C := RX5) (T := TX5) (N := 14) hx hb hts inX5 tyX5 tyX5_ok nmX5 hown hK.1 hP hD hS 0 rfl rfl 10 (by decide) (hts (.fieldLink RX5 144 "GrayPointersModel" "number" "I") (List.mem_of_getElem? (i := 3) rfl)) (fun _ h9 => h9) rfl (by decide +kernel) rfl rfl (Nat.le_of_ble_eq_true rfl) dX5_readsNumber_80 (fun H locs hP hD hS => ?_)
        have hP : va_P D vwCl [((md 0), mdC md (upd (z_2 0) 10 ((((10 : Int32) * ((z_2 0) 10)) + ((z_2 6) ((z_2 0) 9).toNatClampNeg)) - (48 : Int32)))), ((md 1), arC cI 96 (z_2 1)), ((md 2), arC cI 96 (z_2 2)), ((md 3), arC cI 96 (z_2 3)), ((md 4), arC cI 384 (z_2 4)), ((md 5), arC cI 96 (z_2 5)), ((md 6), arC cI 60 (z_2 6))] H := hP
        have hD : va_D A [((md 0), mdC md (upd (z_2 0) 10 ((((10 : Int32) * ((z_2 0) 10)) + ((z_2 6) ((z_2 0) 9).toNatClampNeg)) - (48 : Int32)))), ((md 1), arC cI 96 (z_2 1)), ((md 2), arC cI 96 (z_2 2)), ((md 3), arC cI 96 (z_2 3)), ((md 4), arC cI 384 (z_2 4)), ((md 5), arC cI 96 (z_2 5)), ((md 6), arC cI 60 (z_2 6))] := hD
        refine lv_aload_n hx hb dX5_readsNumber_83 rfl (lv_at hl 0 rfl) ?_
        refine lv_dup hx hb dX5_readsNumber_84 rfl ?_
        refine va_get (D := D) (ci := 5) (v := .int ((z_2 0) 9)) (C := RX5) (T := TX5) (N := 14) hx hb hts inX5 hown hK.1 hP 0 rfl rfl 9 (by decide) (hts (.fieldLink RX5 138 "GrayPointersModel" "spot" "I") (List.mem_of_getElem? (i := 2) rfl)) (fun _ h9 => h9) rfl dX5_readsNumber_85 ?_
        refine lv_iconst (v := (1 : Int32)) hx hb dX5_readsNumber_88 (by decide) ?_
        refine lv_iadd hx hb dX5_readsNumber_89 ?_
        refine va_put (D := D) (ci := 5) (v := .int (((z_2 0) 9) + (1 : Int32))) (ty := .int) (C := RX5) (T := TX5) (N := 14) hx hb hts inX5 tyX5 tyX5_ok nmX5 hown hK.1 hP hD hS 0 rfl rfl 9 (by decide) (hts (.fieldLink RX5 138 "GrayPointersModel" "spot" "I") (List.mem_of_getElem? (i := 2) rfl)) (fun _ h9 => h9) rfl (by decide +kernel) rfl rfl (Nat.le_of_ble_eq_true rfl) dX5_readsNumber_90 (fun H locs hP hD hS => ?_)
        have hP : va_P D vwCl [((md 0), mdC md (upd (upd (z_2 0) 10 ((((10 : Int32) * ((z_2 0) 10)) + ((z_2 6) ((z_2 0) 9).toNatClampNeg)) - (48 : Int32))) 9 (((z_2 0) 9) + (1 : Int32)))), ((md 1), arC cI 96 (z_2 1)), ((md 2), arC cI 96 (z_2 2)), ((md 3), arC cI 96 (z_2 3)), ((md 4), arC cI 384 (z_2 4)), ((md 5), arC cI 96 (z_2 5)), ((md 6), arC cI 60 (z_2 6))] H := hP
        have hD : va_D A [((md 0), mdC md (upd (upd (z_2 0) 10 ((((10 : Int32) * ((z_2 0) 10)) + ((z_2 6) ((z_2 0) 9).toNatClampNeg)) - (48 : Int32))) 9 (((z_2 0) 9) + (1 : Int32)))), ((md 1), arC cI 96 (z_2 1)), ((md 2), arC cI 96 (z_2 2)), ((md 3), arC cI 96 (z_2 3)), ((md 4), arC cI 384 (z_2 4)), ((md 5), arC cI 96 (z_2 5)), ((md 6), arC cI 60 (z_2 6))] := hD
        refine lv_iconst (v := (1 : Int32)) hx hb dX5_readsNumber_93 (by decide) ?_
        obtain ⟨z_3, hz_3⟩ : ∃ z : CS, z = (va_up z_2 0 (upd (upd (z_2 0) 10 ((((10 : Int32) * ((z_2 0) 10)) + ((z_2 6) ((z_2 0) 9).toNatClampNeg)) - (48 : Int32))) 9 (((z_2 0) 9) + (1 : Int32)))) := ⟨_, rfl⟩
        have e0 : (z_3 0) = (upd (upd (z_2 0) 10 ((((10 : Int32) * ((z_2 0) 10)) + ((z_2 6) ((z_2 0) 9).toNatClampNeg)) - (48 : Int32))) 9 (((z_2 0) 9) + (1 : Int32))) := (congrFun hz_3 0).trans va_up_s
        have e1 : (z_3 1) = (z_2 1) := (congrFun hz_3 1).trans (va_up_n (by decide))
        have e2 : (z_3 2) = (z_2 2) := (congrFun hz_3 2).trans (va_up_n (by decide))
        have e3 : (z_3 3) = (z_2 3) := (congrFun hz_3 3).trans (va_up_n (by decide))
        have e4 : (z_3 4) = (z_2 4) := (congrFun hz_3 4).trans (va_up_n (by decide))
        have e5 : (z_3 5) = (z_2 5) := (congrFun hz_3 5).trans (va_up_n (by decide))
        have e6 : (z_3 6) = (z_2 6) := (congrFun hz_3 6).trans (va_up_n (by decide))
        have hP : va_P D vwCl [((md 0), mdC md (z_3 0)), ((md 1), arC cI 96 (z_3 1)), ((md 2), arC cI 96 (z_3 2)), ((md 3), arC cI 96 (z_3 3)), ((md 4), arC cI 384 (z_3 4)), ((md 5), arC cI 96 (z_3 5)), ((md 6), arC cI 60 (z_3 6))] H := by rw [e0, e1, e2, e3, e4, e5, e6]; exact hP
        have hD : va_D A [((md 0), mdC md (z_3 0)), ((md 1), arC cI 96 (z_3 1)), ((md 2), arC cI 96 (z_3 2)), ((md 3), arC cI 96 (z_3 3)), ((md 4), arC cI 384 (z_3 4)), ((md 5), arC cI 96 (z_3 5)), ((md 6), arC cI 60 (z_3 6))] := by rw [e0, e1, e2, e3, e4, e5, e6]; exact hD
        clear e0 e1 e2 e3 e4 e5 e6
        have hr : (r_X5_readsNumber M a1) = (1 : Int32) := by subst hz_3; exact hr
        have hp : (p_X5_readsNumber M a1) = z_3 := by subst hz_3; exact hp
        exact endZ (v := (1 : Int32)) hb hx hsg rfl hr.symm (by rw [hp]; exact hP) (by rw [hp]; exact hD) hS dX5_readsNumber_94 hlocks
  · have hr := hr.trans (if_pos c10)
    have hp := hp.trans (if_pos c10)
    refine lv_iconst (v := (0 : Int32)) hx hb dX5_readsNumber_13 (by decide) ?_
    exact endZ (v := (0 : Int32)) hb hx hsg rfl hr.symm (by rw [hp]; exact hP) (by rw [hp]; exact hD) hS dX5_readsNumber_14 hlocks
