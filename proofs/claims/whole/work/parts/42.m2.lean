def p_X5_takes (M : CS) : CS := ((fun (x38_s0 : Int32) => ((fun (z_1 : CS) => (if x38_s0 = (0 : Int32) then ((fun (z_2 : CS) => ((fun (z_3 : CS) => z_3) (p_X5_to z_2 (1 : Int32) (3 : Int32) (r_X5_around z_2 ((r_X5_of z_2 (1 : Int32) (3 : Int32)) + (1 : Int32)))))) (va_up z_1 1 (upd (upd (z_1 1) 7 (((z_1 1) 7) + (1 : Int32))) 9 (((z_1 1) 9) + (1 : Int32))))) else ((fun (z_4 : CS) => ((fun (z_5 : CS) => z_5) (p_X5_to z_4 (1 : Int32) (3 : Int32) (r_X5_around z_4 ((r_X5_of z_4 (1 : Int32) (3 : Int32)) + (1 : Int32)))))) (va_up z_1 1 (upd (upd (z_1 1) 7 (((z_1 1) 7) + (1 : Int32))) 8 (((z_1 1) 8) + (1 : Int32))))))) (p_X5_tells M ((M 1) ((47 : Int32) + ((r_X5_of M (1 : Int32) (3 : Int32)) &&& ((r_X5_depth M) - (1 : Int32)))).toNatClampNeg) x38_s0))) (if ((M 1) ((63 : Int32) + ((r_X5_of M (1 : Int32) (3 : Int32)) &&& ((r_X5_depth M) - (1 : Int32)))).toNatClampNeg) = ((M 1) 7) then (1 : Int32) else (0 : Int32)))
abbrev rm_X5_takes : Room := { frames := 2, cells := 0, slots := 0, locals := 41 }
set_option maxHeartbeats 4000000 in
set_option maxRecDepth 100000 in
theorem c_X5_takes (l : Launch) (D : va_G) (cI cC cS : ClassId) (md : Nat → Nat) (M : CS) (hk : 1 ≤ (M 1 0).toInt ∧ (M 1 0).toInt ≤ 4) : CV l D cI cC cS yX5_takes wsX5_takes rm_X5_takes [.ref (md 0)] (mdW cI md M) (mdW cI md (p_X5_takes M))  := by
  intro sz
  refine startC (cc := cX5_takes) (maxL := 3) (ret := none) (by decide) rfl (Nat.le_of_ble_eq_true rfl) ?_
  intro p e s m args below meth c hx hb hml hsg hts hown hlocks hin hK A hA hS hP hD ls hl
  have hown : s.vm.findClass RX5 = some m.cls := hown
  have hl : lv_has ls 3 [(0, .ref (md 0))] := hl
  have hP : va_P D vwCl [((md 0), mdC md (M 0)), ((md 1), arC cI 96 (M 1)), ((md 2), arC cI 96 (M 2)), ((md 3), arC cI 96 (M 3)), ((md 4), arC cI 384 (M 4)), ((md 5), arC cI 96 (M 5)), ((md 6), arC cI 60 (M 6))] s.heap := hP
  have hD : va_D A [((md 0), mdC md (M 0)), ((md 1), arC cI 96 (M 1)), ((md 2), arC cI 96 (M 2)), ((md 3), arC cI 96 (M 3)), ((md 4), arC cI 384 (M 4)), ((md 5), arC cI 96 (M 5)), ((md 6), arC cI 60 (M 6))] := hD
  have inX5 : ∀ w ∈ wsX50, w ∈ wsX5_takes := fun _ h => List.mem_cons_of_mem _ (List.mem_append_right _ h)
  have hp : (p_X5_takes M) = ((fun (x38_s0 : Int32) => ((fun (z_1 : CS) => (if x38_s0 = (0 : Int32) then ((fun (z_2 : CS) => ((fun (z_3 : CS) => z_3) (p_X5_to z_2 (1 : Int32) (3 : Int32) (r_X5_around z_2 ((r_X5_of z_2 (1 : Int32) (3 : Int32)) + (1 : Int32)))))) (va_up z_1 1 (upd (upd (z_1 1) 7 (((z_1 1) 7) + (1 : Int32))) 9 (((z_1 1) 9) + (1 : Int32))))) else ((fun (z_4 : CS) => ((fun (z_5 : CS) => z_5) (p_X5_to z_4 (1 : Int32) (3 : Int32) (r_X5_around z_4 ((r_X5_of z_4 (1 : Int32) (3 : Int32)) + (1 : Int32)))))) (va_up z_1 1 (upd (upd (z_1 1) 7 (((z_1 1) 7) + (1 : Int32))) 8 (((z_1 1) 8) + (1 : Int32))))))) (p_X5_tells M ((M 1) ((47 : Int32) + ((r_X5_of M (1 : Int32) (3 : Int32)) &&& ((r_X5_depth M) - (1 : Int32)))).toNatClampNeg) x38_s0))) (if ((M 1) ((63 : Int32) + ((r_X5_of M (1 : Int32) (3 : Int32)) &&& ((r_X5_depth M) - (1 : Int32)))).toNatClampNeg) = ((M 1) 7) then (1 : Int32) else (0 : Int32))) := rfl
  refine lv_aload_n hx hb dX5_takes_0 rfl (lv_at hl 0 rfl) ?_
  refine lv_iconst (v := (1 : Int32)) hx hb dX5_takes_1 (by decide) ?_
  refine lv_iconst (v := (3 : Int32)) hx hb dX5_takes_2 (by decide) ?_
  refine goI (n := 7) (ws' := [((md 0), mdC md (M 0)), ((md 1), arC cI 96 (M 1)), ((md 2), arC cI 96 (M 2)), ((md 3), arC cI 96 (M 3)), ((md 4), arC cI 384 (M 4)), ((md 5), arC cI 96 (M 5)), ((md 6), arC cI 60 (M 6))]) (rs := []) (va_runV (As := [.int (1 : Int32), .int (3 : Int32)]) (rest := []) ⟨hx, hb, hml, hown, hts⟩ (c_X5_of l D cI cC cS md M (1 : Int32) (3 : Int32) (vp_in_iff.mpr (by decide)) _) (cwV 2 hts gX5_takes_X5_of rfl rfl rfl (by decide +kernel) ⟨Nat.le_of_ble_eq_true rfl, Nat.le_of_ble_eq_true rfl⟩) (preV hK hP hD [0, 1, 2, 3, 4, 5, 6] (by decide) rfl 0 5 rfl rfl) rfl rfl hl.1 rfl (lv_room (Nat.le_of_ble_eq_true rfl)) dX5_takes_3 ⟨Nat.zero_le _, Nat.zero_le _⟩) hP hD hS hA [0, 1, 2, 3, 4, 5, 6] [] rfl rfl rfl rfl rfl (by decide +kernel) rfl (fun H locs hP hD hS => ?_)
  refine lv_aload_n hx hb dX5_takes_6 rfl (lv_at hl 0 rfl) ?_
  refine goI (n := 7) (ws' := [((md 0), mdC md (M 0)), ((md 1), arC cI 96 (M 1)), ((md 2), arC cI 96 (M 2)), ((md 3), arC cI 96 (M 3)), ((md 4), arC cI 384 (M 4)), ((md 5), arC cI 96 (M 5)), ((md 6), arC cI 60 (M 6))]) (rs := []) (va_runV (As := []) (rest := [.int (r_X5_of M (1 : Int32) (3 : Int32))]) ⟨hx, hb, hml, hown, hts⟩ (c_X5_depth l D cI cC cS md M  _) (cwV 0 hts gX5_takes_X5_depth rfl rfl rfl (by decide +kernel) ⟨Nat.le_of_ble_eq_true rfl, Nat.le_of_ble_eq_true rfl⟩) (preV hK hP hD [0, 1, 2, 3, 4, 5, 6] (by decide) rfl 0 5 rfl rfl) rfl rfl hl.1 rfl (lv_room (Nat.le_of_ble_eq_true rfl)) dX5_takes_7 ⟨Nat.zero_le _, Nat.zero_le _⟩) hP hD hS hA [0, 1, 2, 3, 4, 5, 6] [] rfl rfl rfl rfl rfl (by decide +kernel) rfl (fun H locs hP hD hS => ?_)
  refine lv_iconst (v := (1 : Int32)) hx hb dX5_takes_10 (by decide) ?_
  refine lv_isub hx hb dX5_takes_11 ?_
  refine lv_iand hx hb dX5_takes_12 ?_
  refine lv_istore_n (lv' := [(1, .int ((r_X5_of M (1 : Int32) (3 : Int32)) &&& ((r_X5_depth M) - (1 : Int32)))), (0, .ref (md 0))]) hx hb dX5_takes_13 rfl hl (by decide) rfl (fun ls hl => ?_)
  refine lv_aload_n hx hb dX5_takes_14 rfl (lv_at hl 1 rfl) ?_
  refine va_get (D := D) (ci := 5) (v := .ref (md 1)) (C := RX5) (T := TX5) (N := 14) hx hb hts inX5 hown hK.1 hP 0 rfl rfl 0 (by decide) (hts (.fieldLink RX5 7 "GrayPointersModel" "all" "[I") (List.mem_of_getElem? (i := 1) rfl)) (fun _ h9 => h9) rfl dX5_takes_15 ?_
  refine lv_bipush (v := (63 : Int32)) hx hb dX5_takes_18 (by decide) ?_
  refine lv_iload_n hx hb dX5_takes_20 rfl (lv_at hl 0 rfl) ?_
  refine lv_iadd hx hb dX5_takes_21 ?_
  refine va_iald hx hb hK.1 hP 1 0 rfl rfl (i := ((63 : Int32) + ((r_X5_of M (1 : Int32) (3 : Int32)) &&& ((r_X5_depth M) - (1 : Int32))))) (pl63 hk) dX5_takes_22 ?_
  refine lv_aload_n hx hb dX5_takes_23 rfl (lv_at hl 1 rfl) ?_
  refine va_get (D := D) (ci := 5) (v := .ref (md 1)) (C := RX5) (T := TX5) (N := 14) hx hb hts inX5 hown hK.1 hP 0 rfl rfl 0 (by decide) (hts (.fieldLink RX5 7 "GrayPointersModel" "all" "[I") (List.mem_of_getElem? (i := 1) rfl)) (fun _ h9 => h9) rfl dX5_takes_24 ?_
  refine lv_bipush (v := (7 : Int32)) hx hb dX5_takes_27 (by decide) ?_
  refine va_iald hx hb hK.1 hP 1 0 rfl rfl (i := (7 : Int32)) (vp_in_iff.mpr (by decide)) dX5_takes_29 ?_
  refine W.eq (g2 := F0 m 30 ls [.int ((M 1) 7), .int ((M 1) ((63 : Int32) + ((r_X5_of M (1 : Int32) (3 : Int32)) &&& ((r_X5_depth M) - (1 : Int32)))).toNatClampNeg)]) rfl ?_
  have J_38 : ∀ (x38_s0 : Int32) (H : Heap) (locs : List Loc), x38_s0 = (if ((M 1) ((63 : Int32) + ((r_X5_of M (1 : Int32) (3 : Int32)) &&& ((r_X5_depth M) - (1 : Int32)))).toNatClampNeg) = ((M 1) 7) then (1 : Int32) else (0 : Int32)) → va_P D vwCl [((md 0), mdC md (M 0)), ((md 1), arC cI 96 (M 1)), ((md 2), arC cI 96 (M 2)), ((md 3), arC cI 96 (M 3)), ((md 4), arC cI 384 (M 4)), ((md 5), arC cI 96 (M 5)), ((md 6), arC cI 60 (M 6))] H → va_D A [((md 0), mdC md (M 0)), ((md 1), arC cI 96 (M 1)), ((md 2), arC cI 96 (M 2)), ((md 3), arC cI 96 (M 3)), ((md 4), arC cI 384 (M 4)), ((md 5), arC cI 96 (M 5)), ((md 6), arC cI 60 (M 6))] → va_S A s.heap H locs → ∀ ls, lv_has ls 3 [(0, .ref (md 0)), (1, .int ((r_X5_of M (1 : Int32) (3 : Int32)) &&& ((r_X5_depth M) - (1 : Int32))))] → W p l e rm_X5_takes s m args below meth c H locs 0 0 (MQ below (QV D (mdW cI md (p_X5_takes M)) A) args s 0 0 A) (F0 m 38 ls [.int x38_s0]) := by
    intro x38_s0 H locs ex38_s0 hP hD hS ls hl
    have hp : (p_X5_takes M) = ((fun (z_1 : CS) => (if x38_s0 = (0 : Int32) then ((fun (z_2 : CS) => ((fun (z_3 : CS) => z_3) (p_X5_to z_2 (1 : Int32) (3 : Int32) (r_X5_around z_2 ((r_X5_of z_2 (1 : Int32) (3 : Int32)) + (1 : Int32)))))) (va_up z_1 1 (upd (upd (z_1 1) 7 (((z_1 1) 7) + (1 : Int32))) 9 (((z_1 1) 9) + (1 : Int32))))) else ((fun (z_4 : CS) => ((fun (z_5 : CS) => z_5) (p_X5_to z_4 (1 : Int32) (3 : Int32) (r_X5_around z_4 ((r_X5_of z_4 (1 : Int32) (3 : Int32)) + (1 : Int32)))))) (va_up z_1 1 (upd (upd (z_1 1) 7 (((z_1 1) 7) + (1 : Int32))) 8 (((z_1 1) 8) + (1 : Int32))))))) (p_X5_tells M ((M 1) ((47 : Int32) + ((r_X5_of M (1 : Int32) (3 : Int32)) &&& ((r_X5_depth M) - (1 : Int32)))).toNatClampNeg) x38_s0)) := by subst ex38_s0; exact hp
    refine lv_istore_n (lv' := [(2, .int x38_s0), (0, .ref (md 0)), (1, .int ((r_X5_of M (1 : Int32) (3 : Int32)) &&& ((r_X5_depth M) - (1 : Int32))))]) hx hb dX5_takes_38 rfl hl (by decide) rfl (fun ls hl => ?_)
    refine lv_aload_n hx hb dX5_takes_39 rfl (lv_at hl 1 rfl) ?_
    refine lv_aload_n hx hb dX5_takes_40 rfl (lv_at hl 1 rfl) ?_
    refine va_get (D := D) (ci := 5) (v := .ref (md 1)) (C := RX5) (T := TX5) (N := 14) hx hb hts inX5 hown hK.1 hP 0 rfl rfl 0 (by decide) (hts (.fieldLink RX5 7 "GrayPointersModel" "all" "[I") (List.mem_of_getElem? (i := 1) rfl)) (fun _ h9 => h9) rfl dX5_takes_41 ?_
    refine lv_bipush (v := (47 : Int32)) hx hb dX5_takes_44 (by decide) ?_
    refine lv_iload_n hx hb dX5_takes_46 rfl (lv_at hl 2 rfl) ?_
    refine lv_iadd hx hb dX5_takes_47 ?_
    refine va_iald hx hb hK.1 hP 1 0 rfl rfl (i := ((47 : Int32) + ((r_X5_of M (1 : Int32) (3 : Int32)) &&& ((r_X5_depth M) - (1 : Int32))))) (pl47 hk) dX5_takes_48 ?_
    refine lv_iload_n hx hb dX5_takes_49 rfl (lv_at hl 0 rfl) ?_
    refine goV (n := 7) (ws' := [((md 0), mdC md ((p_X5_tells M ((M 1) ((47 : Int32) + ((r_X5_of M (1 : Int32) (3 : Int32)) &&& ((r_X5_depth M) - (1 : Int32)))).toNatClampNeg) x38_s0) 0)), ((md 1), arC cI 96 ((p_X5_tells M ((M 1) ((47 : Int32) + ((r_X5_of M (1 : Int32) (3 : Int32)) &&& ((r_X5_depth M) - (1 : Int32)))).toNatClampNeg) x38_s0) 1)), ((md 2), arC cI 96 ((p_X5_tells M ((M 1) ((47 : Int32) + ((r_X5_of M (1 : Int32) (3 : Int32)) &&& ((r_X5_depth M) - (1 : Int32)))).toNatClampNeg) x38_s0) 2)), ((md 3), arC cI 96 ((p_X5_tells M ((M 1) ((47 : Int32) + ((r_X5_of M (1 : Int32) (3 : Int32)) &&& ((r_X5_depth M) - (1 : Int32)))).toNatClampNeg) x38_s0) 3)), ((md 4), arC cI 384 ((p_X5_tells M ((M 1) ((47 : Int32) + ((r_X5_of M (1 : Int32) (3 : Int32)) &&& ((r_X5_depth M) - (1 : Int32)))).toNatClampNeg) x38_s0) 4)), ((md 5), arC cI 96 ((p_X5_tells M ((M 1) ((47 : Int32) + ((r_X5_of M (1 : Int32) (3 : Int32)) &&& ((r_X5_depth M) - (1 : Int32)))).toNatClampNeg) x38_s0) 5)), ((md 6), arC cI 60 ((p_X5_tells M ((M 1) ((47 : Int32) + ((r_X5_of M (1 : Int32) (3 : Int32)) &&& ((r_X5_depth M) - (1 : Int32)))).toNatClampNeg) x38_s0) 6))]) (rs := []) (va_runV (As := [.int ((M 1) ((47 : Int32) + ((r_X5_of M (1 : Int32) (3 : Int32)) &&& ((r_X5_depth M) - (1 : Int32)))).toNatClampNeg), .int x38_s0]) (rest := []) ⟨hx, hb, hml, hown, hts⟩ (c_X5_tells l D cI cC cS md M ((M 1) ((47 : Int32) + ((r_X5_of M (1 : Int32) (3 : Int32)) &&& ((r_X5_depth M) - (1 : Int32)))).toNatClampNeg) x38_s0  _) (cwV 2 hts gX5_takes_X5_tells rfl rfl rfl (by decide +kernel) ⟨Nat.le_of_ble_eq_true rfl, Nat.le_of_ble_eq_true rfl⟩) (preV hK hP hD [0, 1, 2, 3, 4, 5, 6] (by decide) rfl 0 5 rfl rfl) rfl rfl hl.1 rfl (lv_room (Nat.le_of_ble_eq_true rfl)) dX5_takes_50 ⟨Nat.zero_le _, Nat.zero_le _⟩) hP hD hS hA [0, 1, 2, 3, 4, 5, 6] [] rfl rfl rfl rfl rfl (by decide +kernel) (fstE (as := [(md 0), (md 1), (md 2), (md 3), (md 4), (md 5), (md 6)]) rfl rfl) (fun H locs hP hD hS => ?_)
    obtain ⟨z_1, hz_1⟩ : ∃ z : CS, z = (p_X5_tells M ((M 1) ((47 : Int32) + ((r_X5_of M (1 : Int32) (3 : Int32)) &&& ((r_X5_depth M) - (1 : Int32)))).toNatClampNeg) x38_s0) := ⟨_, rfl⟩
    rw [← hz_1] at hP hD
    have hp : (p_X5_takes M) = (if x38_s0 = (0 : Int32) then ((fun (z_2 : CS) => ((fun (z_3 : CS) => z_3) (p_X5_to z_2 (1 : Int32) (3 : Int32) (r_X5_around z_2 ((r_X5_of z_2 (1 : Int32) (3 : Int32)) + (1 : Int32)))))) (va_up z_1 1 (upd (upd (z_1 1) 7 (((z_1 1) 7) + (1 : Int32))) 9 (((z_1 1) 9) + (1 : Int32))))) else ((fun (z_4 : CS) => ((fun (z_5 : CS) => z_5) (p_X5_to z_4 (1 : Int32) (3 : Int32) (r_X5_around z_4 ((r_X5_of z_4 (1 : Int32) (3 : Int32)) + (1 : Int32)))))) (va_up z_1 1 (upd (upd (z_1 1) 7 (((z_1 1) 7) + (1 : Int32))) 8 (((z_1 1) 8) + (1 : Int32)))))) := by subst hz_1; exact hp
    refine lv_aload_n hx hb dX5_takes_53 rfl (lv_at hl 1 rfl) ?_
    refine va_get (D := D) (ci := 5) (v := .ref (md 1)) (C := RX5) (T := TX5) (N := 14) hx hb hts inX5 hown hK.1 hP 0 rfl rfl 0 (by decide) (hts (.fieldLink RX5 7 "GrayPointersModel" "all" "[I") (List.mem_of_getElem? (i := 1) rfl)) (fun _ h9 => h9) rfl dX5_takes_54 ?_
    refine lv_bipush (v := (7 : Int32)) hx hb dX5_takes_57 (by decide) ?_
    refine lv_dup2_11 hx hb dX5_takes_59 rfl rfl ?_
    refine va_iald hx hb hK.1 hP 1 0 rfl rfl (i := (7 : Int32)) (vp_in_iff.mpr (by decide)) dX5_takes_60 ?_
    refine W.eq (g2 := F0 m 61 ls [.int ((z_1 1) 7), .int (7 : Int32), .ref (md 1)]) rfl ?_
    refine lv_iconst (v := (1 : Int32)) hx hb dX5_takes_61 (by decide) ?_
    refine lv_iadd hx hb dX5_takes_62 ?_
    refine va_iast hx hb hK.1 hP hD hS 1 0 rfl rfl (i := (7 : Int32)) (x := (((z_1 1) 7) + (1 : Int32))) (vp_in_iff.mpr (by decide)) dX5_takes_63 (fun H locs hP hD hS => ?_)
    have hP : va_P D vwCl [((md 0), mdC md (z_1 0)), ((md 1), arC cI 96 (upd (z_1 1) 7 (((z_1 1) 7) + (1 : Int32)))), ((md 2), arC cI 96 (z_1 2)), ((md 3), arC cI 96 (z_1 3)), ((md 4), arC cI 384 (z_1 4)), ((md 5), arC cI 96 (z_1 5)), ((md 6), arC cI 60 (z_1 6))] H := hP
    have hD : va_D A [((md 0), mdC md (z_1 0)), ((md 1), arC cI 96 (upd (z_1 1) 7 (((z_1 1) 7) + (1 : Int32)))), ((md 2), arC cI 96 (z_1 2)), ((md 3), arC cI 96 (z_1 3)), ((md 4), arC cI 384 (z_1 4)), ((md 5), arC cI 96 (z_1 5)), ((md 6), arC cI 60 (z_1 6))] := hD
    refine lv_aload_n hx hb dX5_takes_64 rfl (lv_at hl 1 rfl) ?_
    refine va_get (D := D) (ci := 5) (v := .ref (md 1)) (C := RX5) (T := TX5) (N := 14) hx hb hts inX5 hown hK.1 hP 0 rfl rfl 0 (by decide) (hts (.fieldLink RX5 7 "GrayPointersModel" "all" "[I") (List.mem_of_getElem? (i := 1) rfl)) (fun _ h9 => h9) rfl dX5_takes_65 ?_
    refine lv_iload_n hx hb dX5_takes_68 rfl (lv_at hl 0 rfl) ?_
    refine lv_if_eq (tgt := 77) hx hb dX5_takes_69 (by decide) (fun c69 => ?_) (fun c69 => ?_)
    · have hp := hp.trans (if_pos c69)
      refine lv_bipush (v := (9 : Int32)) hx hb dX5_takes_77 (by decide) ?_
      refine lv_dup2_11 hx hb dX5_takes_79 rfl rfl ?_
      refine va_iald hx hb hK.1 hP 1 0 rfl rfl (i := (9 : Int32)) (vp_in_iff.mpr (by decide)) dX5_takes_80 ?_
      refine W.eq (g2 := F0 m 81 ls [.int ((z_1 1) 9), .int (9 : Int32), .ref (md 1)]) rfl ?_
      refine lv_iconst (v := (1 : Int32)) hx hb dX5_takes_81 (by decide) ?_
      refine lv_iadd hx hb dX5_takes_82 ?_
      refine va_iast hx hb hK.1 hP hD hS 1 0 rfl rfl (i := (9 : Int32)) (x := (((z_1 1) 9) + (1 : Int32))) (vp_in_iff.mpr (by decide)) dX5_takes_83 (fun H locs hP hD hS => ?_)
      have hP : va_P D vwCl [((md 0), mdC md (z_1 0)), ((md 1), arC cI 96 (upd (upd (z_1 1) 7 (((z_1 1) 7) + (1 : Int32))) 9 (((z_1 1) 9) + (1 : Int32)))), ((md 2), arC cI 96 (z_1 2)), ((md 3), arC cI 96 (z_1 3)), ((md 4), arC cI 384 (z_1 4)), ((md 5), arC cI 96 (z_1 5)), ((md 6), arC cI 60 (z_1 6))] H := hP
      have hD : va_D A [((md 0), mdC md (z_1 0)), ((md 1), arC cI 96 (upd (upd (z_1 1) 7 (((z_1 1) 7) + (1 : Int32))) 9 (((z_1 1) 9) + (1 : Int32)))), ((md 2), arC cI 96 (z_1 2)), ((md 3), arC cI 96 (z_1 3)), ((md 4), arC cI 384 (z_1 4)), ((md 5), arC cI 96 (z_1 5)), ((md 6), arC cI 60 (z_1 6))] := hD
      refine lv_aload_n hx hb dX5_takes_84 rfl (lv_at hl 1 rfl) ?_
      refine lv_iconst (v := (1 : Int32)) hx hb dX5_takes_85 (by decide) ?_
      refine lv_iconst (v := (3 : Int32)) hx hb dX5_takes_86 (by decide) ?_
      refine lv_aload_n hx hb dX5_takes_87 rfl (lv_at hl 1 rfl) ?_
      refine lv_aload_n hx hb dX5_takes_88 rfl (lv_at hl 1 rfl) ?_
      refine lv_iconst (v := (1 : Int32)) hx hb dX5_takes_89 (by decide) ?_
      refine lv_iconst (v := (3 : Int32)) hx hb dX5_takes_90 (by decide) ?_
      obtain ⟨z_2, hz_2⟩ : ∃ z : CS, z = (va_up z_1 1 (upd (upd (z_1 1) 7 (((z_1 1) 7) + (1 : Int32))) 9 (((z_1 1) 9) + (1 : Int32)))) := ⟨_, rfl⟩
      have e0 : (z_2 0) = (z_1 0) := (congrFun hz_2 0).trans (va_up_n (by decide))
      have e1 : (z_2 1) = (upd (upd (z_1 1) 7 (((z_1 1) 7) + (1 : Int32))) 9 (((z_1 1) 9) + (1 : Int32))) := (congrFun hz_2 1).trans va_up_s
      have e2 : (z_2 2) = (z_1 2) := (congrFun hz_2 2).trans (va_up_n (by decide))
      have e3 : (z_2 3) = (z_1 3) := (congrFun hz_2 3).trans (va_up_n (by decide))
      have e4 : (z_2 4) = (z_1 4) := (congrFun hz_2 4).trans (va_up_n (by decide))
      have e5 : (z_2 5) = (z_1 5) := (congrFun hz_2 5).trans (va_up_n (by decide))
      have e6 : (z_2 6) = (z_1 6) := (congrFun hz_2 6).trans (va_up_n (by decide))
      have hP : va_P D vwCl [((md 0), mdC md (z_2 0)), ((md 1), arC cI 96 (z_2 1)), ((md 2), arC cI 96 (z_2 2)), ((md 3), arC cI 96 (z_2 3)), ((md 4), arC cI 384 (z_2 4)), ((md 5), arC cI 96 (z_2 5)), ((md 6), arC cI 60 (z_2 6))] H := by rw [e0, e1, e2, e3, e4, e5, e6]; exact hP
      have hD : va_D A [((md 0), mdC md (z_2 0)), ((md 1), arC cI 96 (z_2 1)), ((md 2), arC cI 96 (z_2 2)), ((md 3), arC cI 96 (z_2 3)), ((md 4), arC cI 384 (z_2 4)), ((md 5), arC cI 96 (z_2 5)), ((md 6), arC cI 60 (z_2 6))] := by rw [e0, e1, e2, e3, e4, e5, e6]; exact hD
      clear e0 e1 e2 e3 e4 e5 e6
      have hp : (p_X5_takes M) = ((fun (z_3 : CS) => z_3) (p_X5_to z_2 (1 : Int32) (3 : Int32) (r_X5_around z_2 ((r_X5_of z_2 (1 : Int32) (3 : Int32)) + (1 : Int32))))) := by subst hz_2; exact hp
      refine goI (n := 7) (ws' := [((md 0), mdC md (z_2 0)), ((md 1), arC cI 96 (z_2 1)), ((md 2), arC cI 96 (z_2 2)), ((md 3), arC cI 96 (z_2 3)), ((md 4), arC cI 384 (z_2 4)), ((md 5), arC cI 96 (z_2 5)), ((md 6), arC cI 60 (z_2 6))]) (rs := []) (va_runV (As := [.int (1 : Int32), .int (3 : Int32)]) (rest := [.ref (md 0), .int (3 : Int32), .int (1 : Int32), .ref (md 0)]) ⟨hx, hb, hml, hown, hts⟩ (c_X5_of l D cI cC cS md z_2 (1 : Int32) (3 : Int32) (vp_in_iff.mpr (by decide)) _) (cwV 2 hts gX5_takes_X5_of rfl rfl rfl (by decide +kernel) ⟨Nat.le_of_ble_eq_true rfl, Nat.le_of_ble_eq_true rfl⟩) (preV hK hP hD [0, 1, 2, 3, 4, 5, 6] (by decide) rfl 0 5 rfl rfl) rfl rfl hl.1 rfl (lv_room (Nat.le_of_ble_eq_true rfl)) dX5_takes_91 ⟨Nat.zero_le _, Nat.zero_le _⟩) hP hD hS hA [0, 1, 2, 3, 4, 5, 6] [] rfl rfl rfl rfl rfl (by decide +kernel) rfl (fun H locs hP hD hS => ?_)
      refine lv_iconst (v := (1 : Int32)) hx hb dX5_takes_94 (by decide) ?_
      refine lv_iadd hx hb dX5_takes_95 ?_
      refine goI (n := 7) (ws' := [((md 0), mdC md (z_2 0)), ((md 1), arC cI 96 (z_2 1)), ((md 2), arC cI 96 (z_2 2)), ((md 3), arC cI 96 (z_2 3)), ((md 4), arC cI 384 (z_2 4)), ((md 5), arC cI 96 (z_2 5)), ((md 6), arC cI 60 (z_2 6))]) (rs := []) (va_runV (As := [.int ((r_X5_of z_2 (1 : Int32) (3 : Int32)) + (1 : Int32))]) (rest := [.int (3 : Int32), .int (1 : Int32), .ref (md 0)]) ⟨hx, hb, hml, hown, hts⟩ (c_X5_around l D cI cC cS md z_2 ((r_X5_of z_2 (1 : Int32) (3 : Int32)) + (1 : Int32))  _) (cwV 1 hts gX5_takes_X5_around rfl rfl rfl (by decide +kernel) ⟨Nat.le_of_ble_eq_true rfl, Nat.le_of_ble_eq_true rfl⟩) (preV hK hP hD [0, 1, 2, 3, 4, 5, 6] (by decide) rfl 0 5 rfl rfl) rfl rfl hl.1 rfl (lv_room (Nat.le_of_ble_eq_true rfl)) dX5_takes_96 ⟨Nat.zero_le _, Nat.zero_le _⟩) hP hD hS hA [0, 1, 2, 3, 4, 5, 6] [] rfl rfl rfl rfl rfl (by decide +kernel) rfl (fun H locs hP hD hS => ?_)
      refine goV (n := 7) (ws' := [((md 0), mdC md ((p_X5_to z_2 (1 : Int32) (3 : Int32) (r_X5_around z_2 ((r_X5_of z_2 (1 : Int32) (3 : Int32)) + (1 : Int32)))) 0)), ((md 1), arC cI 96 ((p_X5_to z_2 (1 : Int32) (3 : Int32) (r_X5_around z_2 ((r_X5_of z_2 (1 : Int32) (3 : Int32)) + (1 : Int32)))) 1)), ((md 2), arC cI 96 ((p_X5_to z_2 (1 : Int32) (3 : Int32) (r_X5_around z_2 ((r_X5_of z_2 (1 : Int32) (3 : Int32)) + (1 : Int32)))) 2)), ((md 3), arC cI 96 ((p_X5_to z_2 (1 : Int32) (3 : Int32) (r_X5_around z_2 ((r_X5_of z_2 (1 : Int32) (3 : Int32)) + (1 : Int32)))) 3)), ((md 4), arC cI 384 ((p_X5_to z_2 (1 : Int32) (3 : Int32) (r_X5_around z_2 ((r_X5_of z_2 (1 : Int32) (3 : Int32)) + (1 : Int32)))) 4)), ((md 5), arC cI 96 ((p_X5_to z_2 (1 : Int32) (3 : Int32) (r_X5_around z_2 ((r_X5_of z_2 (1 : Int32) (3 : Int32)) + (1 : Int32)))) 5)), ((md 6), arC cI 60 ((p_X5_to z_2 (1 : Int32) (3 : Int32) (r_X5_around z_2 ((r_X5_of z_2 (1 : Int32) (3 : Int32)) + (1 : Int32)))) 6))]) (rs := []) (va_runV (As := [.int (1 : Int32), .int (3 : Int32), .int (r_X5_around z_2 ((r_X5_of z_2 (1 : Int32) (3 : Int32)) + (1 : Int32)))]) (rest := []) ⟨hx, hb, hml, hown, hts⟩ (c_X5_to l D cI cC cS md z_2 (1 : Int32) (3 : Int32) (r_X5_around z_2 ((r_X5_of z_2 (1 : Int32) (3 : Int32)) + (1 : Int32))) (vp_in_iff.mpr (by decide)) _) (cwV 3 hts gX5_takes_X5_to rfl rfl rfl (by decide +kernel) ⟨Nat.le_of_ble_eq_true rfl, Nat.le_of_ble_eq_true rfl⟩) (preV hK hP hD [0, 1, 2, 3, 4, 5, 6] (by decide) rfl 0 5 rfl rfl) rfl rfl hl.1 rfl (lv_room (Nat.le_of_ble_eq_true rfl)) dX5_takes_99 ⟨Nat.zero_le _, Nat.zero_le _⟩) hP hD hS hA [0, 1, 2, 3, 4, 5, 6] [] rfl rfl rfl rfl rfl (by decide +kernel) (fstE (as := [(md 0), (md 1), (md 2), (md 3), (md 4), (md 5), (md 6)]) rfl rfl) (fun H locs hP hD hS => ?_)
      obtain ⟨z_3, hz_3⟩ : ∃ z : CS, z = (p_X5_to z_2 (1 : Int32) (3 : Int32) (r_X5_around z_2 ((r_X5_of z_2 (1 : Int32) (3 : Int32)) + (1 : Int32)))) := ⟨_, rfl⟩
      rw [← hz_3] at hP hD
      have hp : (p_X5_takes M) = z_3 := by subst hz_3; exact hp
      exact endV hb hx hsg (by rw [hp]; exact hP) (by rw [hp]; exact hD) hS dX5_takes_102 hlocks
    · have hp := hp.trans (if_neg c69)
      refine lv_bipush (v := (8 : Int32)) hx hb dX5_takes_72 (by decide) ?_
      refine lv_goto (tgt := 79) hx hb dX5_takes_74 (by decide) ?_
      refine lv_dup2_11 hx hb dX5_takes_79 rfl rfl ?_
      refine va_iald hx hb hK.1 hP 1 0 rfl rfl (i := (8 : Int32)) (vp_in_iff.mpr (by decide)) dX5_takes_80 ?_
      refine W.eq (g2 := F0 m 81 ls [.int ((z_1 1) 8), .int (8 : Int32), .ref (md 1)]) rfl ?_
      refine lv_iconst (v := (1 : Int32)) hx hb dX5_takes_81 (by decide) ?_
      refine lv_iadd hx hb dX5_takes_82 ?_
      refine va_iast hx hb hK.1 hP hD hS 1 0 rfl rfl (i := (8 : Int32)) (x := (((z_1 1) 8) + (1 : Int32))) (vp_in_iff.mpr (by decide)) dX5_takes_83 (fun H locs hP hD hS => ?_)
      have hP : va_P D vwCl [((md 0), mdC md (z_1 0)), ((md 1), arC cI 96 (upd (upd (z_1 1) 7 (((z_1 1) 7) + (1 : Int32))) 8 (((z_1 1) 8) + (1 : Int32)))), ((md 2), arC cI 96 (z_1 2)), ((md 3), arC cI 96 (z_1 3)), ((md 4), arC cI 384 (z_1 4)), ((md 5), arC cI 96 (z_1 5)), ((md 6), arC cI 60 (z_1 6))] H := hP
      have hD : va_D A [((md 0), mdC md (z_1 0)), ((md 1), arC cI 96 (upd (upd (z_1 1) 7 (((z_1 1) 7) + (1 : Int32))) 8 (((z_1 1) 8) + (1 : Int32)))), ((md 2), arC cI 96 (z_1 2)), ((md 3), arC cI 96 (z_1 3)), ((md 4), arC cI 384 (z_1 4)), ((md 5), arC cI 96 (z_1 5)), ((md 6), arC cI 60 (z_1 6))] := hD
      refine lv_aload_n hx hb dX5_takes_84 rfl (lv_at hl 1 rfl) ?_
      refine lv_iconst (v := (1 : Int32)) hx hb dX5_takes_85 (by decide) ?_
      refine lv_iconst (v := (3 : Int32)) hx hb dX5_takes_86 (by decide) ?_
      refine lv_aload_n hx hb dX5_takes_87 rfl (lv_at hl 1 rfl) ?_
      refine lv_aload_n hx hb dX5_takes_88 rfl (lv_at hl 1 rfl) ?_
      refine lv_iconst (v := (1 : Int32)) hx hb dX5_takes_89 (by decide) ?_
      refine lv_iconst (v := (3 : Int32)) hx hb dX5_takes_90 (by decide) ?_
      obtain ⟨z_4, hz_4⟩ : ∃ z : CS, z = (va_up z_1 1 (upd (upd (z_1 1) 7 (((z_1 1) 7) + (1 : Int32))) 8 (((z_1 1) 8) + (1 : Int32)))) := ⟨_, rfl⟩
      have e0 : (z_4 0) = (z_1 0) := (congrFun hz_4 0).trans (va_up_n (by decide))
      have e1 : (z_4 1) = (upd (upd (z_1 1) 7 (((z_1 1) 7) + (1 : Int32))) 8 (((z_1 1) 8) + (1 : Int32))) := (congrFun hz_4 1).trans va_up_s
      have e2 : (z_4 2) = (z_1 2) := (congrFun hz_4 2).trans (va_up_n (by decide))
      have e3 : (z_4 3) = (z_1 3) := (congrFun hz_4 3).trans (va_up_n (by decide))
      have e4 : (z_4 4) = (z_1 4) := (congrFun hz_4 4).trans (va_up_n (by decide))
      have e5 : (z_4 5) = (z_1 5) := (congrFun hz_4 5).trans (va_up_n (by decide))
      have e6 : (z_4 6) = (z_1 6) := (congrFun hz_4 6).trans (va_up_n (by decide))
      have hP : va_P D vwCl [((md 0), mdC md (z_4 0)), ((md 1), arC cI 96 (z_4 1)), ((md 2), arC cI 96 (z_4 2)), ((md 3), arC cI 96 (z_4 3)), ((md 4), arC cI 384 (z_4 4)), ((md 5), arC cI 96 (z_4 5)), ((md 6), arC cI 60 (z_4 6))] H := by rw [e0, e1, e2, e3, e4, e5, e6]; exact hP
      have hD : va_D A [((md 0), mdC md (z_4 0)), ((md 1), arC cI 96 (z_4 1)), ((md 2), arC cI 96 (z_4 2)), ((md 3), arC cI 96 (z_4 3)), ((md 4), arC cI 384 (z_4 4)), ((md 5), arC cI 96 (z_4 5)), ((md 6), arC cI 60 (z_4 6))] := by rw [e0, e1, e2, e3, e4, e5, e6]; exact hD
      clear e0 e1 e2 e3 e4 e5 e6
      have hp : (p_X5_takes M) = ((fun (z_5 : CS) => z_5) (p_X5_to z_4 (1 : Int32) (3 : Int32) (r_X5_around z_4 ((r_X5_of z_4 (1 : Int32) (3 : Int32)) + (1 : Int32))))) := by subst hz_4; exact hp
      refine goI (n := 7) (ws' := [((md 0), mdC md (z_4 0)), ((md 1), arC cI 96 (z_4 1)), ((md 2), arC cI 96 (z_4 2)), ((md 3), arC cI 96 (z_4 3)), ((md 4), arC cI 384 (z_4 4)), ((md 5), arC cI 96 (z_4 5)), ((md 6), arC cI 60 (z_4 6))]) (rs := []) (va_runV (As := [.int (1 : Int32), .int (3 : Int32)]) (rest := [.ref (md 0), .int (3 : Int32), .int (1 : Int32), .ref (md 0)]) ⟨hx, hb, hml, hown, hts⟩ (c_X5_of l D cI cC cS md z_4 (1 : Int32) (3 : Int32) (vp_in_iff.mpr (by decide)) _) (cwV 2 hts gX5_takes_X5_of rfl rfl rfl (by decide +kernel) ⟨Nat.le_of_ble_eq_true rfl, Nat.le_of_ble_eq_true rfl⟩) (preV hK hP hD [0, 1, 2, 3, 4, 5, 6] (by decide) rfl 0 5 rfl rfl) rfl rfl hl.1 rfl (lv_room (Nat.le_of_ble_eq_true rfl)) dX5_takes_91 ⟨Nat.zero_le _, Nat.zero_le _⟩) hP hD hS hA [0, 1, 2, 3, 4, 5, 6] [] rfl rfl rfl rfl rfl (by decide +kernel) rfl (fun H locs hP hD hS => ?_)
      refine lv_iconst (v := (1 : Int32)) hx hb dX5_takes_94 (by decide) ?_
      refine lv_iadd hx hb dX5_takes_95 ?_
      refine goI (n := 7) (ws' := [((md 0), mdC md (z_4 0)), ((md 1), arC cI 96 (z_4 1)), ((md 2), arC cI 96 (z_4 2)), ((md 3), arC cI 96 (z_4 3)), ((md 4), arC cI 384 (z_4 4)), ((md 5), arC cI 96 (z_4 5)), ((md 6), arC cI 60 (z_4 6))]) (rs := []) (va_runV (As := [.int ((r_X5_of z_4 (1 : Int32) (3 : Int32)) + (1 : Int32))]) (rest := [.int (3 : Int32), .int (1 : Int32), .ref (md 0)]) ⟨hx, hb, hml, hown, hts⟩ (c_X5_around l D cI cC cS md z_4 ((r_X5_of z_4 (1 : Int32) (3 : Int32)) + (1 : Int32))  _) (cwV 1 hts gX5_takes_X5_around rfl rfl rfl (by decide +kernel) ⟨Nat.le_of_ble_eq_true rfl, Nat.le_of_ble_eq_true rfl⟩) (preV hK hP hD [0, 1, 2, 3, 4, 5, 6] (by decide) rfl 0 5 rfl rfl) rfl rfl hl.1 rfl (lv_room (Nat.le_of_ble_eq_true rfl)) dX5_takes_96 ⟨Nat.zero_le _, Nat.zero_le _⟩) hP hD hS hA [0, 1, 2, 3, 4, 5, 6] [] rfl rfl rfl rfl rfl (by decide +kernel) rfl (fun H locs hP hD hS => ?_)
      refine goV (n := 7) (ws' := [((md 0), mdC md ((p_X5_to z_4 (1 : Int32) (3 : Int32) (r_X5_around z_4 ((r_X5_of z_4 (1 : Int32) (3 : Int32)) + (1 : Int32)))) 0)), ((md 1), arC cI 96 ((p_X5_to z_4 (1 : Int32) (3 : Int32) (r_X5_around z_4 ((r_X5_of z_4 (1 : Int32) (3 : Int32)) + (1 : Int32)))) 1)), ((md 2), arC cI 96 ((p_X5_to z_4 (1 : Int32) (3 : Int32) (r_X5_around z_4 ((r_X5_of z_4 (1 : Int32) (3 : Int32)) + (1 : Int32)))) 2)), ((md 3), arC cI 96 ((p_X5_to z_4 (1 : Int32) (3 : Int32) (r_X5_around z_4 ((r_X5_of z_4 (1 : Int32) (3 : Int32)) + (1 : Int32)))) 3)), ((md 4), arC cI 384 ((p_X5_to z_4 (1 : Int32) (3 : Int32) (r_X5_around z_4 ((r_X5_of z_4 (1 : Int32) (3 : Int32)) + (1 : Int32)))) 4)), ((md 5), arC cI 96 ((p_X5_to z_4 (1 : Int32) (3 : Int32) (r_X5_around z_4 ((r_X5_of z_4 (1 : Int32) (3 : Int32)) + (1 : Int32)))) 5)), ((md 6), arC cI 60 ((p_X5_to z_4 (1 : Int32) (3 : Int32) (r_X5_around z_4 ((r_X5_of z_4 (1 : Int32) (3 : Int32)) + (1 : Int32)))) 6))]) (rs := []) (va_runV (As := [.int (1 : Int32), .int (3 : Int32), .int (r_X5_around z_4 ((r_X5_of z_4 (1 : Int32) (3 : Int32)) + (1 : Int32)))]) (rest := []) ⟨hx, hb, hml, hown, hts⟩ (c_X5_to l D cI cC cS md z_4 (1 : Int32) (3 : Int32) (r_X5_around z_4 ((r_X5_of z_4 (1 : Int32) (3 : Int32)) + (1 : Int32))) (vp_in_iff.mpr (by decide)) _) (cwV 3 hts gX5_takes_X5_to rfl rfl rfl (by decide +kernel) ⟨Nat.le_of_ble_eq_true rfl, Nat.le_of_ble_eq_true rfl⟩) (preV hK hP hD [0, 1, 2, 3, 4, 5, 6] (by decide) rfl 0 5 rfl rfl) rfl rfl hl.1 rfl (lv_room (Nat.le_of_ble_eq_true rfl)) dX5_takes_99 ⟨Nat.zero_le _, Nat.zero_le _⟩) hP hD hS hA [0, 1, 2, 3, 4, 5, 6] [] rfl rfl rfl rfl rfl (by decide +kernel) (fstE (as := [(md 0), (md 1), (md 2), (md 3), (md 4), (md 5), (md 6)]) rfl rfl) (fun H locs hP hD hS => ?_)
      obtain ⟨z_5, hz_5⟩ : ∃ z : CS, z = (p_X5_to z_4 (1 : Int32) (3 : Int32) (r_X5_around z_4 ((r_X5_of z_4 (1 : Int32) (3 : Int32)) + (1 : Int32)))) := ⟨_, rfl⟩
      rw [← hz_5] at hP hD
      have hp : (p_X5_takes M) = z_5 := by subst hz_5; exact hp
      exact endV hb hx hsg (by rw [hp]; exact hP) (by rw [hp]; exact hD) hS dX5_takes_102 hlocks
  refine lv_icmp_ne (tgt := 37) hx hb dX5_takes_30 (by decide) (fun c30 => ?_) (fun c30 => ?_)
  · refine lv_iconst (v := (0 : Int32)) hx hb dX5_takes_37 (by decide) ?_
    exact J_38 (0 : Int32) _ _ (if_neg c30).symm hP hD hS ls (lv_sub hl [1, 0] rfl)
  · refine lv_iconst (v := (1 : Int32)) hx hb dX5_takes_33 (by decide) ?_
    refine lv_goto (tgt := 38) hx hb dX5_takes_34 (by decide) ?_
    exact J_38 (1 : Int32) _ _ (if_pos c30).symm hP hD hS ls (lv_sub hl [1, 0] rfl)
def q_X5_puts_69  : Nat → Int32 → F1 → F1
  | 0, _, f1 => f1
  | fu + 1, i, f1 => (if (f1 5) ≤ i then f1 else (q_X5_puts_69 fu (i + (1 : Int32)) (upd f1 ((27 : Int32) + i).toNatClampNeg (f1 (((27 : Int32) + i) + (1 : Int32)).toNatClampNeg))))
def p_X5_puts (M : CS) : CS := ((fun (T69_f1 : F1) => ((fun (z_1 : CS) => ((fun (z_2 : CS) => z_2) (p_X5_to z_1 (0 : Int32) (3 : Int32) (r_X5_around z_1 ((r_X5_of z_1 (0 : Int32) (3 : Int32)) + (1 : Int32)))))) (va_up M 1 (upd T69_f1 ((27 : Int32) + (T69_f1 5)).toNatClampNeg (0 : Int32))))) (q_X5_puts_69 ((((upd (upd (upd (upd (M 1) ((47 : Int32) + ((r_X5_of M (0 : Int32) (3 : Int32)) &&& ((r_X5_depth M) - (1 : Int32)))).toNatClampNeg ((M 1) 27)) ((63 : Int32) + ((r_X5_of M (0 : Int32) (3 : Int32)) &&& ((r_X5_depth M) - (1 : Int32)))).toNatClampNeg ((upd (M 1) ((47 : Int32) + ((r_X5_of M (0 : Int32) (3 : Int32)) &&& ((r_X5_depth M) - (1 : Int32)))).toNatClampNeg ((M 1) 27)) 6)) 6 (((upd (upd (M 1) ((47 : Int32) + ((r_X5_of M (0 : Int32) (3 : Int32)) &&& ((r_X5_depth M) - (1 : Int32)))).toNatClampNeg ((M 1) 27)) ((63 : Int32) + ((r_X5_of M (0 : Int32) (3 : Int32)) &&& ((r_X5_depth M) - (1 : Int32)))).toNatClampNeg ((upd (M 1) ((47 : Int32) + ((r_X5_of M (0 : Int32) (3 : Int32)) &&& ((r_X5_depth M) - (1 : Int32)))).toNatClampNeg ((M 1) 27)) 6)) 6) + (1 : Int32))) 5 (((upd (upd (upd (M 1) ((47 : Int32) + ((r_X5_of M (0 : Int32) (3 : Int32)) &&& ((r_X5_depth M) - (1 : Int32)))).toNatClampNeg ((M 1) 27)) ((63 : Int32) + ((r_X5_of M (0 : Int32) (3 : Int32)) &&& ((r_X5_depth M) - (1 : Int32)))).toNatClampNeg ((upd (M 1) ((47 : Int32) + ((r_X5_of M (0 : Int32) (3 : Int32)) &&& ((r_X5_depth M) - (1 : Int32)))).toNatClampNeg ((M 1) 27)) 6)) 6 (((upd (upd (M 1) ((47 : Int32) + ((r_X5_of M (0 : Int32) (3 : Int32)) &&& ((r_X5_depth M) - (1 : Int32)))).toNatClampNeg ((M 1) 27)) ((63 : Int32) + ((r_X5_of M (0 : Int32) (3 : Int32)) &&& ((r_X5_depth M) - (1 : Int32)))).toNatClampNeg ((upd (M 1) ((47 : Int32) + ((r_X5_of M (0 : Int32) (3 : Int32)) &&& ((r_X5_depth M) - (1 : Int32)))).toNatClampNeg ((M 1) 27)) 6)) 6) + (1 : Int32))) 5) - (1 : Int32))) 5).toInt - (0 : Int32).toInt).toNat + 1) (0 : Int32) (upd (upd (upd (upd (M 1) ((47 : Int32) + ((r_X5_of M (0 : Int32) (3 : Int32)) &&& ((r_X5_depth M) - (1 : Int32)))).toNatClampNeg ((M 1) 27)) ((63 : Int32) + ((r_X5_of M (0 : Int32) (3 : Int32)) &&& ((r_X5_depth M) - (1 : Int32)))).toNatClampNeg ((upd (M 1) ((47 : Int32) + ((r_X5_of M (0 : Int32) (3 : Int32)) &&& ((r_X5_depth M) - (1 : Int32)))).toNatClampNeg ((M 1) 27)) 6)) 6 (((upd (upd (M 1) ((47 : Int32) + ((r_X5_of M (0 : Int32) (3 : Int32)) &&& ((r_X5_depth M) - (1 : Int32)))).toNatClampNeg ((M 1) 27)) ((63 : Int32) + ((r_X5_of M (0 : Int32) (3 : Int32)) &&& ((r_X5_depth M) - (1 : Int32)))).toNatClampNeg ((upd (M 1) ((47 : Int32) + ((r_X5_of M (0 : Int32) (3 : Int32)) &&& ((r_X5_depth M) - (1 : Int32)))).toNatClampNeg ((M 1) 27)) 6)) 6) + (1 : Int32))) 5 (((upd (upd (upd (M 1) ((47 : Int32) + ((r_X5_of M (0 : Int32) (3 : Int32)) &&& ((r_X5_depth M) - (1 : Int32)))).toNatClampNeg ((M 1) 27)) ((63 : Int32) + ((r_X5_of M (0 : Int32) (3 : Int32)) &&& ((r_X5_depth M) - (1 : Int32)))).toNatClampNeg ((upd (M 1) ((47 : Int32) + ((r_X5_of M (0 : Int32) (3 : Int32)) &&& ((r_X5_depth M) - (1 : Int32)))).toNatClampNeg ((M 1) 27)) 6)) 6 (((upd (upd (M 1) ((47 : Int32) + ((r_X5_of M (0 : Int32) (3 : Int32)) &&& ((r_X5_depth M) - (1 : Int32)))).toNatClampNeg ((M 1) 27)) ((63 : Int32) + ((r_X5_of M (0 : Int32) (3 : Int32)) &&& ((r_X5_depth M) - (1 : Int32)))).toNatClampNeg ((upd (M 1) ((47 : Int32) + ((r_X5_of M (0 : Int32) (3 : Int32)) &&& ((r_X5_depth M) - (1 : Int32)))).toNatClampNeg ((M 1) 27)) 6)) 6) + (1 : Int32))) 5) - (1 : Int32)))))
abbrev rm_X5_puts : Room := { frames := 2, cells := 0, slots := 0, locals := 41 }
set_option maxHeartbeats 4000000 in
set_option maxRecDepth 100000 in
theorem c_X5_puts (l : Launch) (D : va_G) (cI cC cS : ClassId) (md : Nat → Nat) (M : CS) (hk : 1 ≤ (M 1 0).toInt ∧ (M 1 0).toInt ≤ 4) (hw : 1 ≤ (M 1 5).toInt ∧ (M 1 5).toInt ≤ 20) : CV l D cI cC cS yX5_puts wsX5_puts rm_X5_puts [.ref (md 0)] (mdW cI md M) (mdW cI md (p_X5_puts M))  := by
  intro sz
  refine startC (cc := cX5_puts) (maxL := 3) (ret := none) (by decide) rfl (Nat.le_of_ble_eq_true rfl) ?_
  intro p e s m args below meth c hx hb hml hsg hts hown hlocks hin hK A hA hS hP hD ls hl
  have hown : s.vm.findClass RX5 = some m.cls := hown
  have hl : lv_has ls 3 [(0, .ref (md 0))] := hl
  have hP : va_P D vwCl [((md 0), mdC md (M 0)), ((md 1), arC cI 96 (M 1)), ((md 2), arC cI 96 (M 2)), ((md 3), arC cI 96 (M 3)), ((md 4), arC cI 384 (M 4)), ((md 5), arC cI 96 (M 5)), ((md 6), arC cI 60 (M 6))] s.heap := hP
  have hD : va_D A [((md 0), mdC md (M 0)), ((md 1), arC cI 96 (M 1)), ((md 2), arC cI 96 (M 2)), ((md 3), arC cI 96 (M 3)), ((md 4), arC cI 384 (M 4)), ((md 5), arC cI 96 (M 5)), ((md 6), arC cI 60 (M 6))] := hD
  have inX5 : ∀ w ∈ wsX50, w ∈ wsX5_puts := fun _ h => List.mem_cons_of_mem _ (List.mem_append_right _ h)
  have hp : (p_X5_puts M) = ((fun (T69_f1 : F1) => ((fun (z_1 : CS) => ((fun (z_2 : CS) => z_2) (p_X5_to z_1 (0 : Int32) (3 : Int32) (r_X5_around z_1 ((r_X5_of z_1 (0 : Int32) (3 : Int32)) + (1 : Int32)))))) (va_up M 1 (upd T69_f1 ((27 : Int32) + (T69_f1 5)).toNatClampNeg (0 : Int32))))) (q_X5_puts_69 ((((upd (upd (upd (upd (M 1) ((47 : Int32) + ((r_X5_of M (0 : Int32) (3 : Int32)) &&& ((r_X5_depth M) - (1 : Int32)))).toNatClampNeg ((M 1) 27)) ((63 : Int32) + ((r_X5_of M (0 : Int32) (3 : Int32)) &&& ((r_X5_depth M) - (1 : Int32)))).toNatClampNeg ((upd (M 1) ((47 : Int32) + ((r_X5_of M (0 : Int32) (3 : Int32)) &&& ((r_X5_depth M) - (1 : Int32)))).toNatClampNeg ((M 1) 27)) 6)) 6 (((upd (upd (M 1) ((47 : Int32) + ((r_X5_of M (0 : Int32) (3 : Int32)) &&& ((r_X5_depth M) - (1 : Int32)))).toNatClampNeg ((M 1) 27)) ((63 : Int32) + ((r_X5_of M (0 : Int32) (3 : Int32)) &&& ((r_X5_depth M) - (1 : Int32)))).toNatClampNeg ((upd (M 1) ((47 : Int32) + ((r_X5_of M (0 : Int32) (3 : Int32)) &&& ((r_X5_depth M) - (1 : Int32)))).toNatClampNeg ((M 1) 27)) 6)) 6) + (1 : Int32))) 5 (((upd (upd (upd (M 1) ((47 : Int32) + ((r_X5_of M (0 : Int32) (3 : Int32)) &&& ((r_X5_depth M) - (1 : Int32)))).toNatClampNeg ((M 1) 27)) ((63 : Int32) + ((r_X5_of M (0 : Int32) (3 : Int32)) &&& ((r_X5_depth M) - (1 : Int32)))).toNatClampNeg ((upd (M 1) ((47 : Int32) + ((r_X5_of M (0 : Int32) (3 : Int32)) &&& ((r_X5_depth M) - (1 : Int32)))).toNatClampNeg ((M 1) 27)) 6)) 6 (((upd (upd (M 1) ((47 : Int32) + ((r_X5_of M (0 : Int32) (3 : Int32)) &&& ((r_X5_depth M) - (1 : Int32)))).toNatClampNeg ((M 1) 27)) ((63 : Int32) + ((r_X5_of M (0 : Int32) (3 : Int32)) &&& ((r_X5_depth M) - (1 : Int32)))).toNatClampNeg ((upd (M 1) ((47 : Int32) + ((r_X5_of M (0 : Int32) (3 : Int32)) &&& ((r_X5_depth M) - (1 : Int32)))).toNatClampNeg ((M 1) 27)) 6)) 6) + (1 : Int32))) 5) - (1 : Int32))) 5).toInt - (0 : Int32).toInt).toNat + 1) (0 : Int32) (upd (upd (upd (upd (M 1) ((47 : Int32) + ((r_X5_of M (0 : Int32) (3 : Int32)) &&& ((r_X5_depth M) - (1 : Int32)))).toNatClampNeg ((M 1) 27)) ((63 : Int32) + ((r_X5_of M (0 : Int32) (3 : Int32)) &&& ((r_X5_depth M) - (1 : Int32)))).toNatClampNeg ((upd (M 1) ((47 : Int32) + ((r_X5_of M (0 : Int32) (3 : Int32)) &&& ((r_X5_depth M) - (1 : Int32)))).toNatClampNeg ((M 1) 27)) 6)) 6 (((upd (upd (M 1) ((47 : Int32) + ((r_X5_of M (0 : Int32) (3 : Int32)) &&& ((r_X5_depth M) - (1 : Int32)))).toNatClampNeg ((M 1) 27)) ((63 : Int32) + ((r_X5_of M (0 : Int32) (3 : Int32)) &&& ((r_X5_depth M) - (1 : Int32)))).toNatClampNeg ((upd (M 1) ((47 : Int32) + ((r_X5_of M (0 : Int32) (3 : Int32)) &&& ((r_X5_depth M) - (1 : Int32)))).toNatClampNeg ((M 1) 27)) 6)) 6) + (1 : Int32))) 5 (((upd (upd (upd (M 1) ((47 : Int32) + ((r_X5_of M (0 : Int32) (3 : Int32)) &&& ((r_X5_depth M) - (1 : Int32)))).toNatClampNeg ((M 1) 27)) ((63 : Int32) + ((r_X5_of M (0 : Int32) (3 : Int32)) &&& ((r_X5_depth M) - (1 : Int32)))).toNatClampNeg ((upd (M 1) ((47 : Int32) + ((r_X5_of M (0 : Int32) (3 : Int32)) &&& ((r_X5_depth M) - (1 : Int32)))).toNatClampNeg ((M 1) 27)) 6)) 6 (((upd (upd (M 1) ((47 : Int32) + ((r_X5_of M (0 : Int32) (3 : Int32)) &&& ((r_X5_depth M) - (1 : Int32)))).toNatClampNeg ((M 1) 27)) ((63 : Int32) + ((r_X5_of M (0 : Int32) (3 : Int32)) &&& ((r_X5_depth M) - (1 : Int32)))).toNatClampNeg ((upd (M 1) ((47 : Int32) + ((r_X5_of M (0 : Int32) (3 : Int32)) &&& ((r_X5_depth M) - (1 : Int32)))).toNatClampNeg ((M 1) 27)) 6)) 6) + (1 : Int32))) 5) - (1 : Int32))))) := rfl
  refine lv_aload_n hx hb dX5_puts_0 rfl (lv_at hl 0 rfl) ?_
  refine lv_iconst (v := (0 : Int32)) hx hb dX5_puts_1 (by decide) ?_
  refine lv_iconst (v := (3 : Int32)) hx hb dX5_puts_2 (by decide) ?_
  refine goI (n := 7) (ws' := [((md 0), mdC md (M 0)), ((md 1), arC cI 96 (M 1)), ((md 2), arC cI 96 (M 2)), ((md 3), arC cI 96 (M 3)), ((md 4), arC cI 384 (M 4)), ((md 5), arC cI 96 (M 5)), ((md 6), arC cI 60 (M 6))]) (rs := []) (va_runV (As := [.int (0 : Int32), .int (3 : Int32)]) (rest := []) ⟨hx, hb, hml, hown, hts⟩ (c_X5_of l D cI cC cS md M (0 : Int32) (3 : Int32) (vp_in_iff.mpr (by decide)) _) (cwV 2 hts gX5_puts_X5_of rfl rfl rfl (by decide +kernel) ⟨Nat.le_of_ble_eq_true rfl, Nat.le_of_ble_eq_true rfl⟩) (preV hK hP hD [0, 1, 2, 3, 4, 5, 6] (by decide) rfl 0 5 rfl rfl) rfl rfl hl.1 rfl (lv_room (Nat.le_of_ble_eq_true rfl)) dX5_puts_3 ⟨Nat.zero_le _, Nat.zero_le _⟩) hP hD hS hA [0, 1, 2, 3, 4, 5, 6] [] rfl rfl rfl rfl rfl (by decide +kernel) rfl (fun H locs hP hD hS => ?_)
  refine lv_aload_n hx hb dX5_puts_6 rfl (lv_at hl 0 rfl) ?_
  refine goI (n := 7) (ws' := [((md 0), mdC md (M 0)), ((md 1), arC cI 96 (M 1)), ((md 2), arC cI 96 (M 2)), ((md 3), arC cI 96 (M 3)), ((md 4), arC cI 384 (M 4)), ((md 5), arC cI 96 (M 5)), ((md 6), arC cI 60 (M 6))]) (rs := []) (va_runV (As := []) (rest := [.int (r_X5_of M (0 : Int32) (3 : Int32))]) ⟨hx, hb, hml, hown, hts⟩ (c_X5_depth l D cI cC cS md M  _) (cwV 0 hts gX5_puts_X5_depth rfl rfl rfl (by decide +kernel) ⟨Nat.le_of_ble_eq_true rfl, Nat.le_of_ble_eq_true rfl⟩) (preV hK hP hD [0, 1, 2, 3, 4, 5, 6] (by decide) rfl 0 5 rfl rfl) rfl rfl hl.1 rfl (lv_room (Nat.le_of_ble_eq_true rfl)) dX5_puts_7 ⟨Nat.zero_le _, Nat.zero_le _⟩) hP hD hS hA [0, 1, 2, 3, 4, 5, 6] [] rfl rfl rfl rfl rfl (by decide +kernel) rfl (fun H locs hP hD hS => ?_)
  refine lv_iconst (v := (1 : Int32)) hx hb dX5_puts_10 (by decide) ?_
  refine lv_isub hx hb dX5_puts_11 ?_
  refine lv_iand hx hb dX5_puts_12 ?_
  refine lv_istore_n (lv' := [(1, .int ((r_X5_of M (0 : Int32) (3 : Int32)) &&& ((r_X5_depth M) - (1 : Int32)))), (0, .ref (md 0))]) hx hb dX5_puts_13 rfl hl (by decide) rfl (fun ls hl => ?_)
  refine lv_aload_n hx hb dX5_puts_14 rfl (lv_at hl 1 rfl) ?_
  refine va_get (D := D) (ci := 5) (v := .ref (md 1)) (C := RX5) (T := TX5) (N := 14) hx hb hts inX5 hown hK.1 hP 0 rfl rfl 0 (by decide) (hts (.fieldLink RX5 7 "GrayPointersModel" "all" "[I") (List.mem_of_getElem? (i := 1) rfl)) (fun _ h9 => h9) rfl dX5_puts_15 ?_
  refine lv_bipush (v := (47 : Int32)) hx hb dX5_puts_18 (by decide) ?_
  refine lv_iload_n hx hb dX5_puts_20 rfl (lv_at hl 0 rfl) ?_
  refine lv_iadd hx hb dX5_puts_21 ?_
  refine lv_aload_n hx hb dX5_puts_22 rfl (lv_at hl 1 rfl) ?_
  refine va_get (D := D) (ci := 5) (v := .ref (md 1)) (C := RX5) (T := TX5) (N := 14) hx hb hts inX5 hown hK.1 hP 0 rfl rfl 0 (by decide) (hts (.fieldLink RX5 7 "GrayPointersModel" "all" "[I") (List.mem_of_getElem? (i := 1) rfl)) (fun _ h9 => h9) rfl dX5_puts_23 ?_
  refine lv_bipush (v := (27 : Int32)) hx hb dX5_puts_26 (by decide) ?_
  refine va_iald hx hb hK.1 hP 1 0 rfl rfl (i := (27 : Int32)) (vp_in_iff.mpr (by decide)) dX5_puts_28 ?_
  refine W.eq (g2 := F0 m 29 ls [.int ((M 1) 27), .int ((47 : Int32) + ((r_X5_of M (0 : Int32) (3 : Int32)) &&& ((r_X5_depth M) - (1 : Int32)))), .ref (md 1)]) rfl ?_
  refine va_iast hx hb hK.1 hP hD hS 1 0 rfl rfl (i := ((47 : Int32) + ((r_X5_of M (0 : Int32) (3 : Int32)) &&& ((r_X5_depth M) - (1 : Int32))))) (x := ((M 1) 27)) (pl47 hk) dX5_puts_29 (fun H locs hP hD hS => ?_)
  have hP : va_P D vwCl [((md 0), mdC md (M 0)), ((md 1), arC cI 96 (upd (M 1) ((47 : Int32) + ((r_X5_of M (0 : Int32) (3 : Int32)) &&& ((r_X5_depth M) - (1 : Int32)))).toNatClampNeg ((M 1) 27))), ((md 2), arC cI 96 (M 2)), ((md 3), arC cI 96 (M 3)), ((md 4), arC cI 384 (M 4)), ((md 5), arC cI 96 (M 5)), ((md 6), arC cI 60 (M 6))] H := hP
  have hD : va_D A [((md 0), mdC md (M 0)), ((md 1), arC cI 96 (upd (M 1) ((47 : Int32) + ((r_X5_of M (0 : Int32) (3 : Int32)) &&& ((r_X5_depth M) - (1 : Int32)))).toNatClampNeg ((M 1) 27))), ((md 2), arC cI 96 (M 2)), ((md 3), arC cI 96 (M 3)), ((md 4), arC cI 384 (M 4)), ((md 5), arC cI 96 (M 5)), ((md 6), arC cI 60 (M 6))] := hD
  refine lv_aload_n hx hb dX5_puts_30 rfl (lv_at hl 1 rfl) ?_
  refine va_get (D := D) (ci := 5) (v := .ref (md 1)) (C := RX5) (T := TX5) (N := 14) hx hb hts inX5 hown hK.1 hP 0 rfl rfl 0 (by decide) (hts (.fieldLink RX5 7 "GrayPointersModel" "all" "[I") (List.mem_of_getElem? (i := 1) rfl)) (fun _ h9 => h9) rfl dX5_puts_31 ?_
  refine lv_bipush (v := (63 : Int32)) hx hb dX5_puts_34 (by decide) ?_
  refine lv_iload_n hx hb dX5_puts_36 rfl (lv_at hl 0 rfl) ?_
  refine lv_iadd hx hb dX5_puts_37 ?_
  refine lv_aload_n hx hb dX5_puts_38 rfl (lv_at hl 1 rfl) ?_
  refine va_get (D := D) (ci := 5) (v := .ref (md 1)) (C := RX5) (T := TX5) (N := 14) hx hb hts inX5 hown hK.1 hP 0 rfl rfl 0 (by decide) (hts (.fieldLink RX5 7 "GrayPointersModel" "all" "[I") (List.mem_of_getElem? (i := 1) rfl)) (fun _ h9 => h9) rfl dX5_puts_39 ?_
  refine lv_bipush (v := (6 : Int32)) hx hb dX5_puts_42 (by decide) ?_
  refine va_iald hx hb hK.1 hP 1 0 rfl rfl (i := (6 : Int32)) (vp_in_iff.mpr (by decide)) dX5_puts_44 ?_
  refine W.eq (g2 := F0 m 45 ls [.int ((upd (M 1) ((47 : Int32) + ((r_X5_of M (0 : Int32) (3 : Int32)) &&& ((r_X5_depth M) - (1 : Int32)))).toNatClampNeg ((M 1) 27)) 6), .int ((63 : Int32) + ((r_X5_of M (0 : Int32) (3 : Int32)) &&& ((r_X5_depth M) - (1 : Int32)))), .ref (md 1)]) rfl ?_
  refine va_iast hx hb hK.1 hP hD hS 1 0 rfl rfl (i := ((63 : Int32) + ((r_X5_of M (0 : Int32) (3 : Int32)) &&& ((r_X5_depth M) - (1 : Int32))))) (x := ((upd (M 1) ((47 : Int32) + ((r_X5_of M (0 : Int32) (3 : Int32)) &&& ((r_X5_depth M) - (1 : Int32)))).toNatClampNeg ((M 1) 27)) 6)) (pl63 hk) dX5_puts_45 (fun H locs hP hD hS => ?_)
  have hP : va_P D vwCl [((md 0), mdC md (M 0)), ((md 1), arC cI 96 (upd (upd (M 1) ((47 : Int32) + ((r_X5_of M (0 : Int32) (3 : Int32)) &&& ((r_X5_depth M) - (1 : Int32)))).toNatClampNeg ((M 1) 27)) ((63 : Int32) + ((r_X5_of M (0 : Int32) (3 : Int32)) &&& ((r_X5_depth M) - (1 : Int32)))).toNatClampNeg ((upd (M 1) ((47 : Int32) + ((r_X5_of M (0 : Int32) (3 : Int32)) &&& ((r_X5_depth M) - (1 : Int32)))).toNatClampNeg ((M 1) 27)) 6))), ((md 2), arC cI 96 (M 2)), ((md 3), arC cI 96 (M 3)), ((md 4), arC cI 384 (M 4)), ((md 5), arC cI 96 (M 5)), ((md 6), arC cI 60 (M 6))] H := hP
  have hD : va_D A [((md 0), mdC md (M 0)), ((md 1), arC cI 96 (upd (upd (M 1) ((47 : Int32) + ((r_X5_of M (0 : Int32) (3 : Int32)) &&& ((r_X5_depth M) - (1 : Int32)))).toNatClampNeg ((M 1) 27)) ((63 : Int32) + ((r_X5_of M (0 : Int32) (3 : Int32)) &&& ((r_X5_depth M) - (1 : Int32)))).toNatClampNeg ((upd (M 1) ((47 : Int32) + ((r_X5_of M (0 : Int32) (3 : Int32)) &&& ((r_X5_depth M) - (1 : Int32)))).toNatClampNeg ((M 1) 27)) 6))), ((md 2), arC cI 96 (M 2)), ((md 3), arC cI 96 (M 3)), ((md 4), arC cI 384 (M 4)), ((md 5), arC cI 96 (M 5)), ((md 6), arC cI 60 (M 6))] := hD
  refine lv_aload_n hx hb dX5_puts_46 rfl (lv_at hl 1 rfl) ?_
  refine va_get (D := D) (ci := 5) (v := .ref (md 1)) (C := RX5) (T := TX5) (N := 14) hx hb hts inX5 hown hK.1 hP 0 rfl rfl 0 (by decide) (hts (.fieldLink RX5 7 "GrayPointersModel" "all" "[I") (List.mem_of_getElem? (i := 1) rfl)) (fun _ h9 => h9) rfl dX5_puts_47 ?_
  refine lv_bipush (v := (6 : Int32)) hx hb dX5_puts_50 (by decide) ?_
  refine lv_dup2_11 hx hb dX5_puts_52 rfl rfl ?_
  refine va_iald hx hb hK.1 hP 1 0 rfl rfl (i := (6 : Int32)) (vp_in_iff.mpr (by decide)) dX5_puts_53 ?_
  refine W.eq (g2 := F0 m 54 ls [.int ((upd (upd (M 1) ((47 : Int32) + ((r_X5_of M (0 : Int32) (3 : Int32)) &&& ((r_X5_depth M) - (1 : Int32)))).toNatClampNeg ((M 1) 27)) ((63 : Int32) + ((r_X5_of M (0 : Int32) (3 : Int32)) &&& ((r_X5_depth M) - (1 : Int32)))).toNatClampNeg ((upd (M 1) ((47 : Int32) + ((r_X5_of M (0 : Int32) (3 : Int32)) &&& ((r_X5_depth M) - (1 : Int32)))).toNatClampNeg ((M 1) 27)) 6)) 6), .int (6 : Int32), .ref (md 1)]) rfl ?_
  refine lv_iconst (v := (1 : Int32)) hx hb dX5_puts_54 (by decide) ?_
  refine lv_iadd hx hb dX5_puts_55 ?_
  refine va_iast hx hb hK.1 hP hD hS 1 0 rfl rfl (i := (6 : Int32)) (x := (((upd (upd (M 1) ((47 : Int32) + ((r_X5_of M (0 : Int32) (3 : Int32)) &&& ((r_X5_depth M) - (1 : Int32)))).toNatClampNeg ((M 1) 27)) ((63 : Int32) + ((r_X5_of M (0 : Int32) (3 : Int32)) &&& ((r_X5_depth M) - (1 : Int32)))).toNatClampNeg ((upd (M 1) ((47 : Int32) + ((r_X5_of M (0 : Int32) (3 : Int32)) &&& ((r_X5_depth M) - (1 : Int32)))).toNatClampNeg ((M 1) 27)) 6)) 6) + (1 : Int32))) (vp_in_iff.mpr (by decide)) dX5_puts_56 (fun H locs hP hD hS => ?_)
  have hP : va_P D vwCl [((md 0), mdC md (M 0)), ((md 1), arC cI 96 (upd (upd (upd (M 1) ((47 : Int32) + ((r_X5_of M (0 : Int32) (3 : Int32)) &&& ((r_X5_depth M) - (1 : Int32)))).toNatClampNeg ((M 1) 27)) ((63 : Int32) + ((r_X5_of M (0 : Int32) (3 : Int32)) &&& ((r_X5_depth M) - (1 : Int32)))).toNatClampNeg ((upd (M 1) ((47 : Int32) + ((r_X5_of M (0 : Int32) (3 : Int32)) &&& ((r_X5_depth M) - (1 : Int32)))).toNatClampNeg ((M 1) 27)) 6)) 6 (((upd (upd (M 1) ((47 : Int32) + ((r_X5_of M (0 : Int32) (3 : Int32)) &&& ((r_X5_depth M) - (1 : Int32)))).toNatClampNeg ((M 1) 27)) ((63 : Int32) + ((r_X5_of M (0 : Int32) (3 : Int32)) &&& ((r_X5_depth M) - (1 : Int32)))).toNatClampNeg ((upd (M 1) ((47 : Int32) + ((r_X5_of M (0 : Int32) (3 : Int32)) &&& ((r_X5_depth M) - (1 : Int32)))).toNatClampNeg ((M 1) 27)) 6)) 6) + (1 : Int32)))), ((md 2), arC cI 96 (M 2)), ((md 3), arC cI 96 (M 3)), ((md 4), arC cI 384 (M 4)), ((md 5), arC cI 96 (M 5)), ((md 6), arC cI 60 (M 6))] H := hP
  have hD : va_D A [((md 0), mdC md (M 0)), ((md 1), arC cI 96 (upd (upd (upd (M 1) ((47 : Int32) + ((r_X5_of M (0 : Int32) (3 : Int32)) &&& ((r_X5_depth M) - (1 : Int32)))).toNatClampNeg ((M 1) 27)) ((63 : Int32) + ((r_X5_of M (0 : Int32) (3 : Int32)) &&& ((r_X5_depth M) - (1 : Int32)))).toNatClampNeg ((upd (M 1) ((47 : Int32) + ((r_X5_of M (0 : Int32) (3 : Int32)) &&& ((r_X5_depth M) - (1 : Int32)))).toNatClampNeg ((M 1) 27)) 6)) 6 (((upd (upd (M 1) ((47 : Int32) + ((r_X5_of M (0 : Int32) (3 : Int32)) &&& ((r_X5_depth M) - (1 : Int32)))).toNatClampNeg ((M 1) 27)) ((63 : Int32) + ((r_X5_of M (0 : Int32) (3 : Int32)) &&& ((r_X5_depth M) - (1 : Int32)))).toNatClampNeg ((upd (M 1) ((47 : Int32) + ((r_X5_of M (0 : Int32) (3 : Int32)) &&& ((r_X5_depth M) - (1 : Int32)))).toNatClampNeg ((M 1) 27)) 6)) 6) + (1 : Int32)))), ((md 2), arC cI 96 (M 2)), ((md 3), arC cI 96 (M 3)), ((md 4), arC cI 384 (M 4)), ((md 5), arC cI 96 (M 5)), ((md 6), arC cI 60 (M 6))] := hD
  refine lv_aload_n hx hb dX5_puts_57 rfl (lv_at hl 1 rfl) ?_
  refine va_get (D := D) (ci := 5) (v := .ref (md 1)) (C := RX5) (T := TX5) (N := 14) hx hb hts inX5 hown hK.1 hP 0 rfl rfl 0 (by decide) (hts (.fieldLink RX5 7 "GrayPointersModel" "all" "[I") (List.mem_of_getElem? (i := 1) rfl)) (fun _ h9 => h9) rfl dX5_puts_58 ?_
  refine lv_iconst (v := (5 : Int32)) hx hb dX5_puts_61 (by decide) ?_
  refine lv_dup2_11 hx hb dX5_puts_62 rfl rfl ?_
  refine va_iald hx hb hK.1 hP 1 0 rfl rfl (i := (5 : Int32)) (vp_in_iff.mpr (by decide)) dX5_puts_63 ?_
  refine W.eq (g2 := F0 m 64 ls [.int ((upd (upd (upd (M 1) ((47 : Int32) + ((r_X5_of M (0 : Int32) (3 : Int32)) &&& ((r_X5_depth M) - (1 : Int32)))).toNatClampNeg ((M 1) 27)) ((63 : Int32) + ((r_X5_of M (0 : Int32) (3 : Int32)) &&& ((r_X5_depth M) - (1 : Int32)))).toNatClampNeg ((upd (M 1) ((47 : Int32) + ((r_X5_of M (0 : Int32) (3 : Int32)) &&& ((r_X5_depth M) - (1 : Int32)))).toNatClampNeg ((M 1) 27)) 6)) 6 (((upd (upd (M 1) ((47 : Int32) + ((r_X5_of M (0 : Int32) (3 : Int32)) &&& ((r_X5_depth M) - (1 : Int32)))).toNatClampNeg ((M 1) 27)) ((63 : Int32) + ((r_X5_of M (0 : Int32) (3 : Int32)) &&& ((r_X5_depth M) - (1 : Int32)))).toNatClampNeg ((upd (M 1) ((47 : Int32) + ((r_X5_of M (0 : Int32) (3 : Int32)) &&& ((r_X5_depth M) - (1 : Int32)))).toNatClampNeg ((M 1) 27)) 6)) 6) + (1 : Int32))) 5), .int (5 : Int32), .ref (md 1)]) rfl ?_
  refine lv_iconst (v := (1 : Int32)) hx hb dX5_puts_64 (by decide) ?_
  refine lv_isub hx hb dX5_puts_65 ?_
  refine va_iast hx hb hK.1 hP hD hS 1 0 rfl rfl (i := (5 : Int32)) (x := (((upd (upd (upd (M 1) ((47 : Int32) + ((r_X5_of M (0 : Int32) (3 : Int32)) &&& ((r_X5_depth M) - (1 : Int32)))).toNatClampNeg ((M 1) 27)) ((63 : Int32) + ((r_X5_of M (0 : Int32) (3 : Int32)) &&& ((r_X5_depth M) - (1 : Int32)))).toNatClampNeg ((upd (M 1) ((47 : Int32) + ((r_X5_of M (0 : Int32) (3 : Int32)) &&& ((r_X5_depth M) - (1 : Int32)))).toNatClampNeg ((M 1) 27)) 6)) 6 (((upd (upd (M 1) ((47 : Int32) + ((r_X5_of M (0 : Int32) (3 : Int32)) &&& ((r_X5_depth M) - (1 : Int32)))).toNatClampNeg ((M 1) 27)) ((63 : Int32) + ((r_X5_of M (0 : Int32) (3 : Int32)) &&& ((r_X5_depth M) - (1 : Int32)))).toNatClampNeg ((upd (M 1) ((47 : Int32) + ((r_X5_of M (0 : Int32) (3 : Int32)) &&& ((r_X5_depth M) - (1 : Int32)))).toNatClampNeg ((M 1) 27)) 6)) 6) + (1 : Int32))) 5) - (1 : Int32))) (vp_in_iff.mpr (by decide)) dX5_puts_66 (fun H locs hP hD hS => ?_)
  have hP : va_P D vwCl [((md 0), mdC md (M 0)), ((md 1), arC cI 96 (upd (upd (upd (upd (M 1) ((47 : Int32) + ((r_X5_of M (0 : Int32) (3 : Int32)) &&& ((r_X5_depth M) - (1 : Int32)))).toNatClampNeg ((M 1) 27)) ((63 : Int32) + ((r_X5_of M (0 : Int32) (3 : Int32)) &&& ((r_X5_depth M) - (1 : Int32)))).toNatClampNeg ((upd (M 1) ((47 : Int32) + ((r_X5_of M (0 : Int32) (3 : Int32)) &&& ((r_X5_depth M) - (1 : Int32)))).toNatClampNeg ((M 1) 27)) 6)) 6 (((upd (upd (M 1) ((47 : Int32) + ((r_X5_of M (0 : Int32) (3 : Int32)) &&& ((r_X5_depth M) - (1 : Int32)))).toNatClampNeg ((M 1) 27)) ((63 : Int32) + ((r_X5_of M (0 : Int32) (3 : Int32)) &&& ((r_X5_depth M) - (1 : Int32)))).toNatClampNeg ((upd (M 1) ((47 : Int32) + ((r_X5_of M (0 : Int32) (3 : Int32)) &&& ((r_X5_depth M) - (1 : Int32)))).toNatClampNeg ((M 1) 27)) 6)) 6) + (1 : Int32))) 5 (((upd (upd (upd (M 1) ((47 : Int32) + ((r_X5_of M (0 : Int32) (3 : Int32)) &&& ((r_X5_depth M) - (1 : Int32)))).toNatClampNeg ((M 1) 27)) ((63 : Int32) + ((r_X5_of M (0 : Int32) (3 : Int32)) &&& ((r_X5_depth M) - (1 : Int32)))).toNatClampNeg ((upd (M 1) ((47 : Int32) + ((r_X5_of M (0 : Int32) (3 : Int32)) &&& ((r_X5_depth M) - (1 : Int32)))).toNatClampNeg ((M 1) 27)) 6)) 6 (((upd (upd (M 1) ((47 : Int32) + ((r_X5_of M (0 : Int32) (3 : Int32)) &&& ((r_X5_depth M) - (1 : Int32)))).toNatClampNeg ((M 1) 27)) ((63 : Int32) + ((r_X5_of M (0 : Int32) (3 : Int32)) &&& ((r_X5_depth M) - (1 : Int32)))).toNatClampNeg ((upd (M 1) ((47 : Int32) + ((r_X5_of M (0 : Int32) (3 : Int32)) &&& ((r_X5_depth M) - (1 : Int32)))).toNatClampNeg ((M 1) 27)) 6)) 6) + (1 : Int32))) 5) - (1 : Int32)))), ((md 2), arC cI 96 (M 2)), ((md 3), arC cI 96 (M 3)), ((md 4), arC cI 384 (M 4)), ((md 5), arC cI 96 (M 5)), ((md 6), arC cI 60 (M 6))] H := hP
  have hD : va_D A [((md 0), mdC md (M 0)), ((md 1), arC cI 96 (upd (upd (upd (upd (M 1) ((47 : Int32) + ((r_X5_of M (0 : Int32) (3 : Int32)) &&& ((r_X5_depth M) - (1 : Int32)))).toNatClampNeg ((M 1) 27)) ((63 : Int32) + ((r_X5_of M (0 : Int32) (3 : Int32)) &&& ((r_X5_depth M) - (1 : Int32)))).toNatClampNeg ((upd (M 1) ((47 : Int32) + ((r_X5_of M (0 : Int32) (3 : Int32)) &&& ((r_X5_depth M) - (1 : Int32)))).toNatClampNeg ((M 1) 27)) 6)) 6 (((upd (upd (M 1) ((47 : Int32) + ((r_X5_of M (0 : Int32) (3 : Int32)) &&& ((r_X5_depth M) - (1 : Int32)))).toNatClampNeg ((M 1) 27)) ((63 : Int32) + ((r_X5_of M (0 : Int32) (3 : Int32)) &&& ((r_X5_depth M) - (1 : Int32)))).toNatClampNeg ((upd (M 1) ((47 : Int32) + ((r_X5_of M (0 : Int32) (3 : Int32)) &&& ((r_X5_depth M) - (1 : Int32)))).toNatClampNeg ((M 1) 27)) 6)) 6) + (1 : Int32))) 5 (((upd (upd (upd (M 1) ((47 : Int32) + ((r_X5_of M (0 : Int32) (3 : Int32)) &&& ((r_X5_depth M) - (1 : Int32)))).toNatClampNeg ((M 1) 27)) ((63 : Int32) + ((r_X5_of M (0 : Int32) (3 : Int32)) &&& ((r_X5_depth M) - (1 : Int32)))).toNatClampNeg ((upd (M 1) ((47 : Int32) + ((r_X5_of M (0 : Int32) (3 : Int32)) &&& ((r_X5_depth M) - (1 : Int32)))).toNatClampNeg ((M 1) 27)) 6)) 6 (((upd (upd (M 1) ((47 : Int32) + ((r_X5_of M (0 : Int32) (3 : Int32)) &&& ((r_X5_depth M) - (1 : Int32)))).toNatClampNeg ((M 1) 27)) ((63 : Int32) + ((r_X5_of M (0 : Int32) (3 : Int32)) &&& ((r_X5_depth M) - (1 : Int32)))).toNatClampNeg ((upd (M 1) ((47 : Int32) + ((r_X5_of M (0 : Int32) (3 : Int32)) &&& ((r_X5_depth M) - (1 : Int32)))).toNatClampNeg ((M 1) 27)) 6)) 6) + (1 : Int32))) 5) - (1 : Int32)))), ((md 2), arC cI 96 (M 2)), ((md 3), arC cI 96 (M 3)), ((md 4), arC cI 384 (M 4)), ((md 5), arC cI 96 (M 5)), ((md 6), arC cI 60 (M 6))] := hD
  refine lv_iconst (v := (0 : Int32)) hx hb dX5_puts_67 (by decide) ?_
  refine lv_istore_n (lv' := [(2, .int (0 : Int32)), (1, .int ((r_X5_of M (0 : Int32) (3 : Int32)) &&& ((r_X5_depth M) - (1 : Int32)))), (0, .ref (md 0))]) hx hb dX5_puts_68 rfl hl (by decide) rfl (fun ls hl => ?_)
  obtain ⟨T69_f1, hT69_f1⟩ : ∃ T : F1, T = (q_X5_puts_69 ((((upd (upd (upd (upd (M 1) ((47 : Int32) + ((r_X5_of M (0 : Int32) (3 : Int32)) &&& ((r_X5_depth M) - (1 : Int32)))).toNatClampNeg ((M 1) 27)) ((63 : Int32) + ((r_X5_of M (0 : Int32) (3 : Int32)) &&& ((r_X5_depth M) - (1 : Int32)))).toNatClampNeg ((upd (M 1) ((47 : Int32) + ((r_X5_of M (0 : Int32) (3 : Int32)) &&& ((r_X5_depth M) - (1 : Int32)))).toNatClampNeg ((M 1) 27)) 6)) 6 (((upd (upd (M 1) ((47 : Int32) + ((r_X5_of M (0 : Int32) (3 : Int32)) &&& ((r_X5_depth M) - (1 : Int32)))).toNatClampNeg ((M 1) 27)) ((63 : Int32) + ((r_X5_of M (0 : Int32) (3 : Int32)) &&& ((r_X5_depth M) - (1 : Int32)))).toNatClampNeg ((upd (M 1) ((47 : Int32) + ((r_X5_of M (0 : Int32) (3 : Int32)) &&& ((r_X5_depth M) - (1 : Int32)))).toNatClampNeg ((M 1) 27)) 6)) 6) + (1 : Int32))) 5 (((upd (upd (upd (M 1) ((47 : Int32) + ((r_X5_of M (0 : Int32) (3 : Int32)) &&& ((r_X5_depth M) - (1 : Int32)))).toNatClampNeg ((M 1) 27)) ((63 : Int32) + ((r_X5_of M (0 : Int32) (3 : Int32)) &&& ((r_X5_depth M) - (1 : Int32)))).toNatClampNeg ((upd (M 1) ((47 : Int32) + ((r_X5_of M (0 : Int32) (3 : Int32)) &&& ((r_X5_depth M) - (1 : Int32)))).toNatClampNeg ((M 1) 27)) 6)) 6 (((upd (upd (M 1) ((47 : Int32) + ((r_X5_of M (0 : Int32) (3 : Int32)) &&& ((r_X5_depth M) - (1 : Int32)))).toNatClampNeg ((M 1) 27)) ((63 : Int32) + ((r_X5_of M (0 : Int32) (3 : Int32)) &&& ((r_X5_depth M) - (1 : Int32)))).toNatClampNeg ((upd (M 1) ((47 : Int32) + ((r_X5_of M (0 : Int32) (3 : Int32)) &&& ((r_X5_depth M) - (1 : Int32)))).toNatClampNeg ((M 1) 27)) 6)) 6) + (1 : Int32))) 5) - (1 : Int32))) 5).toInt - (0 : Int32).toInt).toNat + 1) (0 : Int32) (upd (upd (upd (upd (M 1) ((47 : Int32) + ((r_X5_of M (0 : Int32) (3 : Int32)) &&& ((r_X5_depth M) - (1 : Int32)))).toNatClampNeg ((M 1) 27)) ((63 : Int32) + ((r_X5_of M (0 : Int32) (3 : Int32)) &&& ((r_X5_depth M) - (1 : Int32)))).toNatClampNeg ((upd (M 1) ((47 : Int32) + ((r_X5_of M (0 : Int32) (3 : Int32)) &&& ((r_X5_depth M) - (1 : Int32)))).toNatClampNeg ((M 1) 27)) 6)) 6 (((upd (upd (M 1) ((47 : Int32) + ((r_X5_of M (0 : Int32) (3 : Int32)) &&& ((r_X5_depth M) - (1 : Int32)))).toNatClampNeg ((M 1) 27)) ((63 : Int32) + ((r_X5_of M (0 : Int32) (3 : Int32)) &&& ((r_X5_depth M) - (1 : Int32)))).toNatClampNeg ((upd (M 1) ((47 : Int32) + ((r_X5_of M (0 : Int32) (3 : Int32)) &&& ((r_X5_depth M) - (1 : Int32)))).toNatClampNeg ((M 1) 27)) 6)) 6) + (1 : Int32))) 5 (((upd (upd (upd (M 1) ((47 : Int32) + ((r_X5_of M (0 : Int32) (3 : Int32)) &&& ((r_X5_depth M) - (1 : Int32)))).toNatClampNeg ((M 1) 27)) ((63 : Int32) + ((r_X5_of M (0 : Int32) (3 : Int32)) &&& ((r_X5_depth M) - (1 : Int32)))).toNatClampNeg ((upd (M 1) ((47 : Int32) + ((r_X5_of M (0 : Int32) (3 : Int32)) &&& ((r_X5_depth M) - (1 : Int32)))).toNatClampNeg ((M 1) 27)) 6)) 6 (((upd (upd (M 1) ((47 : Int32) + ((r_X5_of M (0 : Int32) (3 : Int32)) &&& ((r_X5_depth M) - (1 : Int32)))).toNatClampNeg ((M 1) 27)) ((63 : Int32) + ((r_X5_of M (0 : Int32) (3 : Int32)) &&& ((r_X5_depth M) - (1 : Int32)))).toNatClampNeg ((upd (M 1) ((47 : Int32) + ((r_X5_of M (0 : Int32) (3 : Int32)) &&& ((r_X5_depth M) - (1 : Int32)))).toNatClampNeg ((M 1) 27)) 6)) 6) + (1 : Int32))) 5) - (1 : Int32)))) := ⟨_, rfl⟩
  have K_69 : ∀ (H : Heap) (locs : List Loc), 0 ≤ (T69_f1 5).toInt ∧ (T69_f1 5).toInt ≤ 19 → va_P D vwCl [((md 0), mdC md (M 0)), ((md 1), arC cI 96 T69_f1), ((md 2), arC cI 96 (M 2)), ((md 3), arC cI 96 (M 3)), ((md 4), arC cI 384 (M 4)), ((md 5), arC cI 96 (M 5)), ((md 6), arC cI 60 (M 6))] H → va_D A [((md 0), mdC md (M 0)), ((md 1), arC cI 96 T69_f1), ((md 2), arC cI 96 (M 2)), ((md 3), arC cI 96 (M 3)), ((md 4), arC cI 384 (M 4)), ((md 5), arC cI 96 (M 5)), ((md 6), arC cI 60 (M 6))] → va_S A s.heap H locs → ∀ ls, lv_has ls 3 [(0, .ref (md 0))] → W p l e rm_X5_puts s m args below meth c H locs 0 0 (MQ below (QV D (mdW cI md (p_X5_puts M)) A) args s 0 0 A) (F0 m 105 ls []) := by
    intro H locs hk1 hP hD hS ls hl
    have hp : (p_X5_puts M) = ((fun (z_1 : CS) => ((fun (z_2 : CS) => z_2) (p_X5_to z_1 (0 : Int32) (3 : Int32) (r_X5_around z_1 ((r_X5_of z_1 (0 : Int32) (3 : Int32)) + (1 : Int32)))))) (va_up M 1 (upd T69_f1 ((27 : Int32) + (T69_f1 5)).toNatClampNeg (0 : Int32)))) := by subst hT69_f1; exact hp
    refine lv_aload_n hx hb dX5_puts_105 rfl (lv_at hl 0 rfl) ?_
    refine va_get (D := D) (ci := 5) (v := .ref (md 1)) (C := RX5) (T := TX5) (N := 14) hx hb hts inX5 hown hK.1 hP 0 rfl rfl 0 (by decide) (hts (.fieldLink RX5 7 "GrayPointersModel" "all" "[I") (List.mem_of_getElem? (i := 1) rfl)) (fun _ h9 => h9) rfl dX5_puts_106 ?_
    refine lv_bipush (v := (27 : Int32)) hx hb dX5_puts_109 (by decide) ?_
    refine lv_aload_n hx hb dX5_puts_111 rfl (lv_at hl 0 rfl) ?_
    refine va_get (D := D) (ci := 5) (v := .ref (md 1)) (C := RX5) (T := TX5) (N := 14) hx hb hts inX5 hown hK.1 hP 0 rfl rfl 0 (by decide) (hts (.fieldLink RX5 7 "GrayPointersModel" "all" "[I") (List.mem_of_getElem? (i := 1) rfl)) (fun _ h9 => h9) rfl dX5_puts_112 ?_
    refine lv_iconst (v := (5 : Int32)) hx hb dX5_puts_115 (by decide) ?_
    refine va_iald hx hb hK.1 hP 1 0 rfl rfl (i := (5 : Int32)) (vp_in_iff.mpr (by decide)) dX5_puts_116 ?_
    refine W.eq (g2 := F0 m 117 ls [.int (T69_f1 5), .int (27 : Int32), .ref (md 1)]) rfl ?_
    refine lv_iadd hx hb dX5_puts_117 ?_
    refine lv_iconst (v := (0 : Int32)) hx hb dX5_puts_118 (by decide) ?_
    refine va_iast hx hb hK.1 hP hD hS 1 0 rfl rfl (i := ((27 : Int32) + (T69_f1 5))) (x := (0 : Int32)) (vp_add (a := 27) (by decide) hk1.1 (by omega) (by decide)) dX5_puts_119 (fun H locs hP hD hS => ?_)
    have hP : va_P D vwCl [((md 0), mdC md (M 0)), ((md 1), arC cI 96 (upd T69_f1 ((27 : Int32) + (T69_f1 5)).toNatClampNeg (0 : Int32))), ((md 2), arC cI 96 (M 2)), ((md 3), arC cI 96 (M 3)), ((md 4), arC cI 384 (M 4)), ((md 5), arC cI 96 (M 5)), ((md 6), arC cI 60 (M 6))] H := hP
    have hD : va_D A [((md 0), mdC md (M 0)), ((md 1), arC cI 96 (upd T69_f1 ((27 : Int32) + (T69_f1 5)).toNatClampNeg (0 : Int32))), ((md 2), arC cI 96 (M 2)), ((md 3), arC cI 96 (M 3)), ((md 4), arC cI 384 (M 4)), ((md 5), arC cI 96 (M 5)), ((md 6), arC cI 60 (M 6))] := hD
    refine lv_aload_n hx hb dX5_puts_120 rfl (lv_at hl 0 rfl) ?_
    refine lv_iconst (v := (0 : Int32)) hx hb dX5_puts_121 (by decide) ?_
    refine lv_iconst (v := (3 : Int32)) hx hb dX5_puts_122 (by decide) ?_
    refine lv_aload_n hx hb dX5_puts_123 rfl (lv_at hl 0 rfl) ?_
    refine lv_aload_n hx hb dX5_puts_124 rfl (lv_at hl 0 rfl) ?_
    refine lv_iconst (v := (0 : Int32)) hx hb dX5_puts_125 (by decide) ?_
    refine lv_iconst (v := (3 : Int32)) hx hb dX5_puts_126 (by decide) ?_
    obtain ⟨z_1, hz_1⟩ : ∃ z : CS, z = (va_up M 1 (upd T69_f1 ((27 : Int32) + (T69_f1 5)).toNatClampNeg (0 : Int32))) := ⟨_, rfl⟩
    have e0 : (z_1 0) = (M 0) := (congrFun hz_1 0).trans (va_up_n (by decide))
    have e1 : (z_1 1) = (upd T69_f1 ((27 : Int32) + (T69_f1 5)).toNatClampNeg (0 : Int32)) := (congrFun hz_1 1).trans va_up_s
    have e2 : (z_1 2) = (M 2) := (congrFun hz_1 2).trans (va_up_n (by decide))
    have e3 : (z_1 3) = (M 3) := (congrFun hz_1 3).trans (va_up_n (by decide))
    have e4 : (z_1 4) = (M 4) := (congrFun hz_1 4).trans (va_up_n (by decide))
    have e5 : (z_1 5) = (M 5) := (congrFun hz_1 5).trans (va_up_n (by decide))
    have e6 : (z_1 6) = (M 6) := (congrFun hz_1 6).trans (va_up_n (by decide))
    have hP : va_P D vwCl [((md 0), mdC md (z_1 0)), ((md 1), arC cI 96 (z_1 1)), ((md 2), arC cI 96 (z_1 2)), ((md 3), arC cI 96 (z_1 3)), ((md 4), arC cI 384 (z_1 4)), ((md 5), arC cI 96 (z_1 5)), ((md 6), arC cI 60 (z_1 6))] H := by rw [e0, e1, e2, e3, e4, e5, e6]; exact hP
    have hD : va_D A [((md 0), mdC md (z_1 0)), ((md 1), arC cI 96 (z_1 1)), ((md 2), arC cI 96 (z_1 2)), ((md 3), arC cI 96 (z_1 3)), ((md 4), arC cI 384 (z_1 4)), ((md 5), arC cI 96 (z_1 5)), ((md 6), arC cI 60 (z_1 6))] := by rw [e0, e1, e2, e3, e4, e5, e6]; exact hD
    clear e0 e1 e2 e3 e4 e5 e6
    have hp : (p_X5_puts M) = ((fun (z_2 : CS) => z_2) (p_X5_to z_1 (0 : Int32) (3 : Int32) (r_X5_around z_1 ((r_X5_of z_1 (0 : Int32) (3 : Int32)) + (1 : Int32))))) := by subst hz_1; exact hp
    refine goI (n := 7) (ws' := [((md 0), mdC md (z_1 0)), ((md 1), arC cI 96 (z_1 1)), ((md 2), arC cI 96 (z_1 2)), ((md 3), arC cI 96 (z_1 3)), ((md 4), arC cI 384 (z_1 4)), ((md 5), arC cI 96 (z_1 5)), ((md 6), arC cI 60 (z_1 6))]) (rs := []) (va_runV (As := [.int (0 : Int32), .int (3 : Int32)]) (rest := [.ref (md 0), .int (3 : Int32), .int (0 : Int32), .ref (md 0)]) ⟨hx, hb, hml, hown, hts⟩ (c_X5_of l D cI cC cS md z_1 (0 : Int32) (3 : Int32) (vp_in_iff.mpr (by decide)) _) (cwV 2 hts gX5_puts_X5_of rfl rfl rfl (by decide +kernel) ⟨Nat.le_of_ble_eq_true rfl, Nat.le_of_ble_eq_true rfl⟩) (preV hK hP hD [0, 1, 2, 3, 4, 5, 6] (by decide) rfl 0 5 rfl rfl) rfl rfl hl.1 rfl (lv_room (Nat.le_of_ble_eq_true rfl)) dX5_puts_127 ⟨Nat.zero_le _, Nat.zero_le _⟩) hP hD hS hA [0, 1, 2, 3, 4, 5, 6] [] rfl rfl rfl rfl rfl (by decide +kernel) rfl (fun H locs hP hD hS => ?_)
    refine lv_iconst (v := (1 : Int32)) hx hb dX5_puts_130 (by decide) ?_
    refine lv_iadd hx hb dX5_puts_131 ?_
    refine goI (n := 7) (ws' := [((md 0), mdC md (z_1 0)), ((md 1), arC cI 96 (z_1 1)), ((md 2), arC cI 96 (z_1 2)), ((md 3), arC cI 96 (z_1 3)), ((md 4), arC cI 384 (z_1 4)), ((md 5), arC cI 96 (z_1 5)), ((md 6), arC cI 60 (z_1 6))]) (rs := []) (va_runV (As := [.int ((r_X5_of z_1 (0 : Int32) (3 : Int32)) + (1 : Int32))]) (rest := [.int (3 : Int32), .int (0 : Int32), .ref (md 0)]) ⟨hx, hb, hml, hown, hts⟩ (c_X5_around l D cI cC cS md z_1 ((r_X5_of z_1 (0 : Int32) (3 : Int32)) + (1 : Int32))  _) (cwV 1 hts gX5_puts_X5_around rfl rfl rfl (by decide +kernel) ⟨Nat.le_of_ble_eq_true rfl, Nat.le_of_ble_eq_true rfl⟩) (preV hK hP hD [0, 1, 2, 3, 4, 5, 6] (by decide) rfl 0 5 rfl rfl) rfl rfl hl.1 rfl (lv_room (Nat.le_of_ble_eq_true rfl)) dX5_puts_132 ⟨Nat.zero_le _, Nat.zero_le _⟩) hP hD hS hA [0, 1, 2, 3, 4, 5, 6] [] rfl rfl rfl rfl rfl (by decide +kernel) rfl (fun H locs hP hD hS => ?_)
    refine goV (n := 7) (ws' := [((md 0), mdC md ((p_X5_to z_1 (0 : Int32) (3 : Int32) (r_X5_around z_1 ((r_X5_of z_1 (0 : Int32) (3 : Int32)) + (1 : Int32)))) 0)), ((md 1), arC cI 96 ((p_X5_to z_1 (0 : Int32) (3 : Int32) (r_X5_around z_1 ((r_X5_of z_1 (0 : Int32) (3 : Int32)) + (1 : Int32)))) 1)), ((md 2), arC cI 96 ((p_X5_to z_1 (0 : Int32) (3 : Int32) (r_X5_around z_1 ((r_X5_of z_1 (0 : Int32) (3 : Int32)) + (1 : Int32)))) 2)), ((md 3), arC cI 96 ((p_X5_to z_1 (0 : Int32) (3 : Int32) (r_X5_around z_1 ((r_X5_of z_1 (0 : Int32) (3 : Int32)) + (1 : Int32)))) 3)), ((md 4), arC cI 384 ((p_X5_to z_1 (0 : Int32) (3 : Int32) (r_X5_around z_1 ((r_X5_of z_1 (0 : Int32) (3 : Int32)) + (1 : Int32)))) 4)), ((md 5), arC cI 96 ((p_X5_to z_1 (0 : Int32) (3 : Int32) (r_X5_around z_1 ((r_X5_of z_1 (0 : Int32) (3 : Int32)) + (1 : Int32)))) 5)), ((md 6), arC cI 60 ((p_X5_to z_1 (0 : Int32) (3 : Int32) (r_X5_around z_1 ((r_X5_of z_1 (0 : Int32) (3 : Int32)) + (1 : Int32)))) 6))]) (rs := []) (va_runV (As := [.int (0 : Int32), .int (3 : Int32), .int (r_X5_around z_1 ((r_X5_of z_1 (0 : Int32) (3 : Int32)) + (1 : Int32)))]) (rest := []) ⟨hx, hb, hml, hown, hts⟩ (c_X5_to l D cI cC cS md z_1 (0 : Int32) (3 : Int32) (r_X5_around z_1 ((r_X5_of z_1 (0 : Int32) (3 : Int32)) + (1 : Int32))) (vp_in_iff.mpr (by decide)) _) (cwV 3 hts gX5_puts_X5_to rfl rfl rfl (by decide +kernel) ⟨Nat.le_of_ble_eq_true rfl, Nat.le_of_ble_eq_true rfl⟩) (preV hK hP hD [0, 1, 2, 3, 4, 5, 6] (by decide) rfl 0 5 rfl rfl) rfl rfl hl.1 rfl (lv_room (Nat.le_of_ble_eq_true rfl)) dX5_puts_135 ⟨Nat.zero_le _, Nat.zero_le _⟩) hP hD hS hA [0, 1, 2, 3, 4, 5, 6] [] rfl rfl rfl rfl rfl (by decide +kernel) (fstE (as := [(md 0), (md 1), (md 2), (md 3), (md 4), (md 5), (md 6)]) rfl rfl) (fun H locs hP hD hS => ?_)
    obtain ⟨z_2, hz_2⟩ : ∃ z : CS, z = (p_X5_to z_1 (0 : Int32) (3 : Int32) (r_X5_around z_1 ((r_X5_of z_1 (0 : Int32) (3 : Int32)) + (1 : Int32)))) := ⟨_, rfl⟩
    rw [← hz_2] at hP hD
    have hp : (p_X5_puts M) = z_2 := by subst hz_2; exact hp
    exact endV hb hx hsg (by rw [hp]; exact hP) (by rw [hp]; exact hD) hS dX5_puts_138 hlocks
  have L_69 : ∀ (fu : Nat) (i : Int32) (f1 : F1) (H : Heap) (locs : List Loc), ((f1 5).toInt - i.toInt < (fu : Int) ∧ 0 < fu) → 0 ≤ i.toInt → 0 ≤ (f1 5).toInt ∧ (f1 5).toInt ≤ 19 → T69_f1 = (q_X5_puts_69 fu i f1) → va_P D vwCl [((md 0), mdC md (M 0)), ((md 1), arC cI 96 f1), ((md 2), arC cI 96 (M 2)), ((md 3), arC cI 96 (M 3)), ((md 4), arC cI 384 (M 4)), ((md 5), arC cI 96 (M 5)), ((md 6), arC cI 60 (M 6))] H → va_D A [((md 0), mdC md (M 0)), ((md 1), arC cI 96 f1), ((md 2), arC cI 96 (M 2)), ((md 3), arC cI 96 (M 3)), ((md 4), arC cI 384 (M 4)), ((md 5), arC cI 96 (M 5)), ((md 6), arC cI 60 (M 6))] → va_S A s.heap H locs → ∀ ls, lv_has ls 3 [(0, .ref (md 0)), (2, .int i)] → W p l e rm_X5_puts s m args below meth c H locs 0 0 (MQ below (QV D (mdW cI md (p_X5_puts M)) A) args s 0 0 A) (F0 m 69 ls []) := by
    intro fu
    induction fu with
    | zero => intro i f1 H locs hm; exact absurd hm.2 (Nat.lt_irrefl 0)
    | succ fu ih_69 =>
      intro i f1 H locs hm hi hw1 hq0 hP hD hS ls hl
      have hq0 : T69_f1 = (if (f1 5) ≤ i then f1 else (q_X5_puts_69 fu (i + (1 : Int32)) (upd f1 ((27 : Int32) + i).toNatClampNeg (f1 (((27 : Int32) + i) + (1 : Int32)).toNatClampNeg)))) := hq0
      refine lv_iload_n hx hb dX5_puts_69 rfl (lv_at hl 1 rfl) ?_
      refine lv_aload_n hx hb dX5_puts_70 rfl (lv_at hl 0 rfl) ?_
      refine va_get (D := D) (ci := 5) (v := .ref (md 1)) (C := RX5) (T := TX5) (N := 14) hx hb hts inX5 hown hK.1 hP 0 rfl rfl 0 (by decide) (hts (.fieldLink RX5 7 "GrayPointersModel" "all" "[I") (List.mem_of_getElem? (i := 1) rfl)) (fun _ h9 => h9) rfl dX5_puts_71 ?_
      refine lv_iconst (v := (5 : Int32)) hx hb dX5_puts_74 (by decide) ?_
      refine va_iald hx hb hK.1 hP 1 0 rfl rfl (i := (5 : Int32)) (vp_in_iff.mpr (by decide)) dX5_puts_75 ?_
      refine W.eq (g2 := F0 m 76 ls [.int (f1 5), .int i]) rfl ?_
      refine lv_icmp_ge (tgt := 105) hx hb dX5_puts_76 (by decide) (fun c76 => ?_) (fun c76 => ?_)
      · have hq0 := hq0.trans (if_pos c76)
        exact K_69 _ _ (by rw [hq0]; exact hw1) (by rw [hq0]; exact hP) (by rw [hq0]; exact hD) hS ls (by exact lv_sub hl [0] rfl)
      · have hq0 := hq0.trans (if_neg c76)
        refine lv_aload_n hx hb dX5_puts_79 rfl (lv_at hl 0 rfl) ?_
        refine va_get (D := D) (ci := 5) (v := .ref (md 1)) (C := RX5) (T := TX5) (N := 14) hx hb hts inX5 hown hK.1 hP 0 rfl rfl 0 (by decide) (hts (.fieldLink RX5 7 "GrayPointersModel" "all" "[I") (List.mem_of_getElem? (i := 1) rfl)) (fun _ h9 => h9) rfl dX5_puts_80 ?_
        refine lv_bipush (v := (27 : Int32)) hx hb dX5_puts_83 (by decide) ?_
        refine lv_iload_n hx hb dX5_puts_85 rfl (lv_at hl 1 rfl) ?_
        refine lv_iadd hx hb dX5_puts_86 ?_
        refine lv_aload_n hx hb dX5_puts_87 rfl (lv_at hl 0 rfl) ?_
        refine va_get (D := D) (ci := 5) (v := .ref (md 1)) (C := RX5) (T := TX5) (N := 14) hx hb hts inX5 hown hK.1 hP 0 rfl rfl 0 (by decide) (hts (.fieldLink RX5 7 "GrayPointersModel" "all" "[I") (List.mem_of_getElem? (i := 1) rfl)) (fun _ h9 => h9) rfl dX5_puts_88 ?_
        refine lv_bipush (v := (27 : Int32)) hx hb dX5_puts_91 (by decide) ?_
        refine lv_iload_n hx hb dX5_puts_93 rfl (lv_at hl 1 rfl) ?_
        refine lv_iadd hx hb dX5_puts_94 ?_
        refine lv_iconst (v := (1 : Int32)) hx hb dX5_puts_95 (by decide) ?_
        refine lv_iadd hx hb dX5_puts_96 ?_
        refine va_iald hx hb hK.1 hP 1 0 rfl rfl (i := (((27 : Int32) + i) + (1 : Int32))) (puts_i2 hi c76 hw1) dX5_puts_97 ?_
        refine va_iast hx hb hK.1 hP hD hS 1 0 rfl rfl (i := ((27 : Int32) + i)) (x := (f1 (((27 : Int32) + i) + (1 : Int32)).toNatClampNeg)) (puts_i1 hi c76 hw1) dX5_puts_98 (fun H locs hP hD hS => ?_)
        have hP : va_P D vwCl [((md 0), mdC md (M 0)), ((md 1), arC cI 96 (upd f1 ((27 : Int32) + i).toNatClampNeg (f1 (((27 : Int32) + i) + (1 : Int32)).toNatClampNeg))), ((md 2), arC cI 96 (M 2)), ((md 3), arC cI 96 (M 3)), ((md 4), arC cI 384 (M 4)), ((md 5), arC cI 96 (M 5)), ((md 6), arC cI 60 (M 6))] H := hP
        have hD : va_D A [((md 0), mdC md (M 0)), ((md 1), arC cI 96 (upd f1 ((27 : Int32) + i).toNatClampNeg (f1 (((27 : Int32) + i) + (1 : Int32)).toNatClampNeg))), ((md 2), arC cI 96 (M 2)), ((md 3), arC cI 96 (M 3)), ((md 4), arC cI 384 (M 4)), ((md 5), arC cI 96 (M 5)), ((md 6), arC cI 60 (M 6))] := hD
        refine lv_iinc (v := (i + (1 : Int32))) (lv' := [(2, .int (i + (1 : Int32))), (0, .ref (md 0))]) hx hb dX5_puts_99 hl (k := 1) rfl rfl (by decide) rfl (fun ls hl => ?_)
        refine lv_goto (tgt := 69) hx hb dX5_puts_102 (by decide) ?_
        exact ih_69 (i + (1 : Int32)) (upd f1 ((27 : Int32) + i).toNatClampNeg (f1 (((27 : Int32) + i) + (1 : Int32)).toNatClampNeg)) _ _ (by rw [up27 hi (puts_lt c76 hw1)]; exact cnt_step c76 hm) (inv_step c76 hi) (by rw [up27 hi (puts_lt c76 hw1)]; exact hw1) hq0 hP hD hS ls (lv_sub hl [1, 0] rfl)
  exact L_69 _ (0 : Int32) (upd (upd (upd (upd (M 1) ((47 : Int32) + ((r_X5_of M (0 : Int32) (3 : Int32)) &&& ((r_X5_depth M) - (1 : Int32)))).toNatClampNeg ((M 1) 27)) ((63 : Int32) + ((r_X5_of M (0 : Int32) (3 : Int32)) &&& ((r_X5_depth M) - (1 : Int32)))).toNatClampNeg ((upd (M 1) ((47 : Int32) + ((r_X5_of M (0 : Int32) (3 : Int32)) &&& ((r_X5_depth M) - (1 : Int32)))).toNatClampNeg ((M 1) 27)) 6)) 6 (((upd (upd (M 1) ((47 : Int32) + ((r_X5_of M (0 : Int32) (3 : Int32)) &&& ((r_X5_depth M) - (1 : Int32)))).toNatClampNeg ((M 1) 27)) ((63 : Int32) + ((r_X5_of M (0 : Int32) (3 : Int32)) &&& ((r_X5_depth M) - (1 : Int32)))).toNatClampNeg ((upd (M 1) ((47 : Int32) + ((r_X5_of M (0 : Int32) (3 : Int32)) &&& ((r_X5_depth M) - (1 : Int32)))).toNatClampNeg ((M 1) 27)) 6)) 6) + (1 : Int32))) 5 (((upd (upd (upd (M 1) ((47 : Int32) + ((r_X5_of M (0 : Int32) (3 : Int32)) &&& ((r_X5_depth M) - (1 : Int32)))).toNatClampNeg ((M 1) 27)) ((63 : Int32) + ((r_X5_of M (0 : Int32) (3 : Int32)) &&& ((r_X5_depth M) - (1 : Int32)))).toNatClampNeg ((upd (M 1) ((47 : Int32) + ((r_X5_of M (0 : Int32) (3 : Int32)) &&& ((r_X5_depth M) - (1 : Int32)))).toNatClampNeg ((M 1) 27)) 6)) 6 (((upd (upd (M 1) ((47 : Int32) + ((r_X5_of M (0 : Int32) (3 : Int32)) &&& ((r_X5_depth M) - (1 : Int32)))).toNatClampNeg ((M 1) 27)) ((63 : Int32) + ((r_X5_of M (0 : Int32) (3 : Int32)) &&& ((r_X5_depth M) - (1 : Int32)))).toNatClampNeg ((upd (M 1) ((47 : Int32) + ((r_X5_of M (0 : Int32) (3 : Int32)) &&& ((r_X5_depth M) - (1 : Int32)))).toNatClampNeg ((M 1) 27)) 6)) 6) + (1 : Int32))) 5) - (1 : Int32))) _ _ (cnt_init _ _) (by decide) (puts_w hk hw) hT69_f1 hP hD hS ls (lv_sub hl [2, 0] rfl)
def p_X5_waits (M : CS) (a1 : Int32) : CS := ((fun (z_1 : CS) => z_1) (va_up M 1 (upd (upd (M 1) ((27 : Int32) + ((M 1) 5)).toNatClampNeg a1) 5 (((upd (M 1) ((27 : Int32) + ((M 1) 5)).toNatClampNeg a1) 5) + (1 : Int32)))))
abbrev rm_X5_waits : Room := { frames := 0, cells := 0, slots := 0, locals := 0 }
set_option maxHeartbeats 4000000 in
set_option maxRecDepth 100000 in
theorem c_X5_waits (l : Launch) (D : va_G) (cI cC cS : ClassId) (md : Nat → Nat) (M : CS) (a1 : Int32) (hw : 0 ≤ (M 1 5).toInt ∧ (M 1 5).toInt < 20) : CV l D cI cC cS yX5_waits wsX5_waits rm_X5_waits [.ref (md 0), .int a1] (mdW cI md M) (mdW cI md (p_X5_waits M a1))  := by
  intro sz
  refine startC (cc := cX5_waits) (maxL := 2) (ret := none) (by decide) rfl (Nat.le_of_ble_eq_true rfl) ?_
  intro p e s m args below meth c hx hb hml hsg hts hown hlocks hin hK A hA hS hP hD ls hl
  have hown : s.vm.findClass RX5 = some m.cls := hown
  have hl : lv_has ls 2 [(0, .ref (md 0)), (1, .int a1)] := hl
  have hP : va_P D vwCl [((md 0), mdC md (M 0)), ((md 1), arC cI 96 (M 1)), ((md 2), arC cI 96 (M 2)), ((md 3), arC cI 96 (M 3)), ((md 4), arC cI 384 (M 4)), ((md 5), arC cI 96 (M 5)), ((md 6), arC cI 60 (M 6))] s.heap := hP
  have hD : va_D A [((md 0), mdC md (M 0)), ((md 1), arC cI 96 (M 1)), ((md 2), arC cI 96 (M 2)), ((md 3), arC cI 96 (M 3)), ((md 4), arC cI 384 (M 4)), ((md 5), arC cI 96 (M 5)), ((md 6), arC cI 60 (M 6))] := hD
  have inX5 : ∀ w ∈ wsX50, w ∈ wsX5_waits := fun _ h => List.mem_cons_of_mem _ (List.mem_append_right _ h)
  have hp : (p_X5_waits M a1) = ((fun (z_1 : CS) => z_1) (va_up M 1 (upd (upd (M 1) ((27 : Int32) + ((M 1) 5)).toNatClampNeg a1) 5 (((upd (M 1) ((27 : Int32) + ((M 1) 5)).toNatClampNeg a1) 5) + (1 : Int32))))) := rfl
  refine lv_aload_n hx hb dX5_waits_0 rfl (lv_at hl 0 rfl) ?_
  refine va_get (D := D) (ci := 5) (v := .ref (md 1)) (C := RX5) (T := TX5) (N := 14) hx hb hts inX5 hown hK.1 hP 0 rfl rfl 0 (by decide) (hts (.fieldLink RX5 7 "GrayPointersModel" "all" "[I") (List.mem_of_getElem? (i := 1) rfl)) (fun _ h9 => h9) rfl dX5_waits_1 ?_
  refine lv_bipush (v := (27 : Int32)) hx hb dX5_waits_4 (by decide) ?_
  refine lv_aload_n hx hb dX5_waits_6 rfl (lv_at hl 0 rfl) ?_
  refine va_get (D := D) (ci := 5) (v := .ref (md 1)) (C := RX5) (T := TX5) (N := 14) hx hb hts inX5 hown hK.1 hP 0 rfl rfl 0 (by decide) (hts (.fieldLink RX5 7 "GrayPointersModel" "all" "[I") (List.mem_of_getElem? (i := 1) rfl)) (fun _ h9 => h9) rfl dX5_waits_7 ?_
  refine lv_iconst (v := (5 : Int32)) hx hb dX5_waits_10 (by decide) ?_
  refine va_iald hx hb hK.1 hP 1 0 rfl rfl (i := (5 : Int32)) (vp_in_iff.mpr (by decide)) dX5_waits_11 ?_
  refine W.eq (g2 := F0 m 12 ls [.int ((M 1) 5), .int (27 : Int32), .ref (md 1)]) rfl ?_
  refine lv_iadd hx hb dX5_waits_12 ?_
  refine lv_iload_n hx hb dX5_waits_13 rfl (lv_at hl 1 rfl) ?_
  refine va_iast hx hb hK.1 hP hD hS 1 0 rfl rfl (i := ((27 : Int32) + ((M 1) 5))) (x := a1) (vp_add (a := 27) (by decide) hw.1 (by omega) (by decide)) dX5_waits_14 (fun H locs hP hD hS => ?_)
  have hP : va_P D vwCl [((md 0), mdC md (M 0)), ((md 1), arC cI 96 (upd (M 1) ((27 : Int32) + ((M 1) 5)).toNatClampNeg a1)), ((md 2), arC cI 96 (M 2)), ((md 3), arC cI 96 (M 3)), ((md 4), arC cI 384 (M 4)), ((md 5), arC cI 96 (M 5)), ((md 6), arC cI 60 (M 6))] H := hP
  have hD : va_D A [((md 0), mdC md (M 0)), ((md 1), arC cI 96 (upd (M 1) ((27 : Int32) + ((M 1) 5)).toNatClampNeg a1)), ((md 2), arC cI 96 (M 2)), ((md 3), arC cI 96 (M 3)), ((md 4), arC cI 384 (M 4)), ((md 5), arC cI 96 (M 5)), ((md 6), arC cI 60 (M 6))] := hD
  refine lv_aload_n hx hb dX5_waits_15 rfl (lv_at hl 0 rfl) ?_
  refine va_get (D := D) (ci := 5) (v := .ref (md 1)) (C := RX5) (T := TX5) (N := 14) hx hb hts inX5 hown hK.1 hP 0 rfl rfl 0 (by decide) (hts (.fieldLink RX5 7 "GrayPointersModel" "all" "[I") (List.mem_of_getElem? (i := 1) rfl)) (fun _ h9 => h9) rfl dX5_waits_16 ?_
  refine lv_iconst (v := (5 : Int32)) hx hb dX5_waits_19 (by decide) ?_
  refine lv_dup2_11 hx hb dX5_waits_20 rfl rfl ?_
  refine va_iald hx hb hK.1 hP 1 0 rfl rfl (i := (5 : Int32)) (vp_in_iff.mpr (by decide)) dX5_waits_21 ?_
  refine W.eq (g2 := F0 m 22 ls [.int ((upd (M 1) ((27 : Int32) + ((M 1) 5)).toNatClampNeg a1) 5), .int (5 : Int32), .ref (md 1)]) rfl ?_
  refine lv_iconst (v := (1 : Int32)) hx hb dX5_waits_22 (by decide) ?_
  refine lv_iadd hx hb dX5_waits_23 ?_
  refine va_iast hx hb hK.1 hP hD hS 1 0 rfl rfl (i := (5 : Int32)) (x := (((upd (M 1) ((27 : Int32) + ((M 1) 5)).toNatClampNeg a1) 5) + (1 : Int32))) (vp_in_iff.mpr (by decide)) dX5_waits_24 (fun H locs hP hD hS => ?_)
  have hP : va_P D vwCl [((md 0), mdC md (M 0)), ((md 1), arC cI 96 (upd (upd (M 1) ((27 : Int32) + ((M 1) 5)).toNatClampNeg a1) 5 (((upd (M 1) ((27 : Int32) + ((M 1) 5)).toNatClampNeg a1) 5) + (1 : Int32)))), ((md 2), arC cI 96 (M 2)), ((md 3), arC cI 96 (M 3)), ((md 4), arC cI 384 (M 4)), ((md 5), arC cI 96 (M 5)), ((md 6), arC cI 60 (M 6))] H := hP
  have hD : va_D A [((md 0), mdC md (M 0)), ((md 1), arC cI 96 (upd (upd (M 1) ((27 : Int32) + ((M 1) 5)).toNatClampNeg a1) 5 (((upd (M 1) ((27 : Int32) + ((M 1) 5)).toNatClampNeg a1) 5) + (1 : Int32)))), ((md 2), arC cI 96 (M 2)), ((md 3), arC cI 96 (M 3)), ((md 4), arC cI 384 (M 4)), ((md 5), arC cI 96 (M 5)), ((md 6), arC cI 60 (M 6))] := hD
  obtain ⟨z_1, hz_1⟩ : ∃ z : CS, z = (va_up M 1 (upd (upd (M 1) ((27 : Int32) + ((M 1) 5)).toNatClampNeg a1) 5 (((upd (M 1) ((27 : Int32) + ((M 1) 5)).toNatClampNeg a1) 5) + (1 : Int32)))) := ⟨_, rfl⟩
  have e0 : (z_1 0) = (M 0) := (congrFun hz_1 0).trans (va_up_n (by decide))
  have e1 : (z_1 1) = (upd (upd (M 1) ((27 : Int32) + ((M 1) 5)).toNatClampNeg a1) 5 (((upd (M 1) ((27 : Int32) + ((M 1) 5)).toNatClampNeg a1) 5) + (1 : Int32))) := (congrFun hz_1 1).trans va_up_s
  have e2 : (z_1 2) = (M 2) := (congrFun hz_1 2).trans (va_up_n (by decide))
  have e3 : (z_1 3) = (M 3) := (congrFun hz_1 3).trans (va_up_n (by decide))
  have e4 : (z_1 4) = (M 4) := (congrFun hz_1 4).trans (va_up_n (by decide))
  have e5 : (z_1 5) = (M 5) := (congrFun hz_1 5).trans (va_up_n (by decide))
  have e6 : (z_1 6) = (M 6) := (congrFun hz_1 6).trans (va_up_n (by decide))
  have hP : va_P D vwCl [((md 0), mdC md (z_1 0)), ((md 1), arC cI 96 (z_1 1)), ((md 2), arC cI 96 (z_1 2)), ((md 3), arC cI 96 (z_1 3)), ((md 4), arC cI 384 (z_1 4)), ((md 5), arC cI 96 (z_1 5)), ((md 6), arC cI 60 (z_1 6))] H := by rw [e0, e1, e2, e3, e4, e5, e6]; exact hP
  have hD : va_D A [((md 0), mdC md (z_1 0)), ((md 1), arC cI 96 (z_1 1)), ((md 2), arC cI 96 (z_1 2)), ((md 3), arC cI 96 (z_1 3)), ((md 4), arC cI 384 (z_1 4)), ((md 5), arC cI 96 (z_1 5)), ((md 6), arC cI 60 (z_1 6))] := by rw [e0, e1, e2, e3, e4, e5, e6]; exact hD
  clear e0 e1 e2 e3 e4 e5 e6
  have hp : (p_X5_waits M a1) = z_1 := by subst hz_1; exact hp
  exact endV hb hx hsg (by rw [hp]; exact hP) (by rw [hp]; exact hD) hS dX5_waits_25 hlocks
def q_X5_builds_74  : Nat → Int32 → F1 → F1
  | 0, _, f1 => f1
  | fu + 1, i, f1 => (if (96 : Int32) ≤ i then f1 else (q_X5_builds_74 fu (i + (1 : Int32)) (upd f1 i.toNatClampNeg (0 : Int32))))
def q_X5_builds_95  : Nat → Int32 → F1 → F1
  | 0, _, f2 => f2
  | fu + 1, i, f2 => (if (16 : Int32) ≤ i then f2 else (q_X5_builds_95 fu (i + (1 : Int32)) (upd f2 ((63 : Int32) + i).toNatClampNeg (-5 : Int32))))
def p_X5_builds (M : CS) (a1 : Int32) (a2 : Int32) : CS := ((fun (z_1 : CS) => ((fun (z_2 : CS) => ((fun (z_3 : CS) => ((fun (z_4 : CS) => ((fun (z_5 : CS) => ((fun (z_6 : CS) => ((fun (z_7 : CS) => ((fun (T74_f1 : F1) => ((fun (T95_f2 : F1) => ((fun (z_8 : CS) => z_8) (va_up z_7 1 T95_f2))) (q_X5_builds_95 (((16 : Int32).toInt - (0 : Int32).toInt).toNat + 1) (0 : Int32) T74_f1))) (q_X5_builds_74 (((96 : Int32).toInt - (27 : Int32).toInt).toNat + 1) (27 : Int32) (upd (upd (upd (upd (upd (upd (z_7 1) 5 (0 : Int32)) 6 (0 : Int32)) 7 (0 : Int32)) 8 (0 : Int32)) 9 (0 : Int32)) 10 (0 : Int32))))) (p_X5_to z_6 (1 : Int32) (5 : Int32) (0 : Int32)))) (p_X5_to z_5 (1 : Int32) (4 : Int32) (0 : Int32)))) (p_X5_to z_4 (1 : Int32) (3 : Int32) (0 : Int32)))) (p_X5_to z_3 (0 : Int32) (5 : Int32) (0 : Int32)))) (p_X5_to z_2 (0 : Int32) (4 : Int32) (0 : Int32)))) (p_X5_to z_1 (0 : Int32) (3 : Int32) (0 : Int32)))) (va_up M 1 (upd (upd (M 1) 0 a1) 1 a2)))
abbrev rm_X5_builds : Room := { frames := 1, cells := 0, slots := 0, locals := 23 }
set_option maxHeartbeats 4000000 in
set_option maxRecDepth 100000 in
theorem c_X5_builds (l : Launch) (D : va_G) (cI cC cS : ClassId) (md : Nat → Nat) (M : CS) (a1 : Int32) (a2 : Int32)  : CV l D cI cC cS yX5_builds wsX5_builds rm_X5_builds [.ref (md 0), .int a1, .int a2] (mdW cI md M) (mdW cI md (p_X5_builds M a1 a2))  := by
  intro sz
  refine startC (cc := cX5_builds) (maxL := 5) (ret := none) (by decide) rfl (Nat.le_of_ble_eq_true rfl) ?_
  intro p e s m args below meth c hx hb hml hsg hts hown hlocks hin hK A hA hS hP hD ls hl
  have hown : s.vm.findClass RX5 = some m.cls := hown
  have hl : lv_has ls 5 [(0, .ref (md 0)), (1, .int a1), (2, .int a2)] := hl
  have hP : va_P D vwCl [((md 0), mdC md (M 0)), ((md 1), arC cI 96 (M 1)), ((md 2), arC cI 96 (M 2)), ((md 3), arC cI 96 (M 3)), ((md 4), arC cI 384 (M 4)), ((md 5), arC cI 96 (M 5)), ((md 6), arC cI 60 (M 6))] s.heap := hP
  have hD : va_D A [((md 0), mdC md (M 0)), ((md 1), arC cI 96 (M 1)), ((md 2), arC cI 96 (M 2)), ((md 3), arC cI 96 (M 3)), ((md 4), arC cI 384 (M 4)), ((md 5), arC cI 96 (M 5)), ((md 6), arC cI 60 (M 6))] := hD
  have inX5 : ∀ w ∈ wsX50, w ∈ wsX5_builds := fun _ h => List.mem_cons_of_mem _ (List.mem_append_right _ h)
  have hp : (p_X5_builds M a1 a2) = ((fun (z_1 : CS) => ((fun (z_2 : CS) => ((fun (z_3 : CS) => ((fun (z_4 : CS) => ((fun (z_5 : CS) => ((fun (z_6 : CS) => ((fun (z_7 : CS) => ((fun (T74_f1 : F1) => ((fun (T95_f2 : F1) => ((fun (z_8 : CS) => z_8) (va_up z_7 1 T95_f2))) (q_X5_builds_95 (((16 : Int32).toInt - (0 : Int32).toInt).toNat + 1) (0 : Int32) T74_f1))) (q_X5_builds_74 (((96 : Int32).toInt - (27 : Int32).toInt).toNat + 1) (27 : Int32) (upd (upd (upd (upd (upd (upd (z_7 1) 5 (0 : Int32)) 6 (0 : Int32)) 7 (0 : Int32)) 8 (0 : Int32)) 9 (0 : Int32)) 10 (0 : Int32))))) (p_X5_to z_6 (1 : Int32) (5 : Int32) (0 : Int32)))) (p_X5_to z_5 (1 : Int32) (4 : Int32) (0 : Int32)))) (p_X5_to z_4 (1 : Int32) (3 : Int32) (0 : Int32)))) (p_X5_to z_3 (0 : Int32) (5 : Int32) (0 : Int32)))) (p_X5_to z_2 (0 : Int32) (4 : Int32) (0 : Int32)))) (p_X5_to z_1 (0 : Int32) (3 : Int32) (0 : Int32)))) (va_up M 1 (upd (upd (M 1) 0 a1) 1 a2))) := rfl
  refine lv_aload_n hx hb dX5_builds_0 rfl (lv_at hl 0 rfl) ?_
  refine va_get (D := D) (ci := 5) (v := .ref (md 1)) (C := RX5) (T := TX5) (N := 14) hx hb hts inX5 hown hK.1 hP 0 rfl rfl 0 (by decide) (hts (.fieldLink RX5 7 "GrayPointersModel" "all" "[I") (List.mem_of_getElem? (i := 1) rfl)) (fun _ h9 => h9) rfl dX5_builds_1 ?_
  refine lv_iconst (v := (0 : Int32)) hx hb dX5_builds_4 (by decide) ?_
  refine lv_iload_n hx hb dX5_builds_5 rfl (lv_at hl 1 rfl) ?_
  refine va_iast hx hb hK.1 hP hD hS 1 0 rfl rfl (i := (0 : Int32)) (x := a1) (vp_in_iff.mpr (by decide)) dX5_builds_6 (fun H locs hP hD hS => ?_)
  have hP : va_P D vwCl [((md 0), mdC md (M 0)), ((md 1), arC cI 96 (upd (M 1) 0 a1)), ((md 2), arC cI 96 (M 2)), ((md 3), arC cI 96 (M 3)), ((md 4), arC cI 384 (M 4)), ((md 5), arC cI 96 (M 5)), ((md 6), arC cI 60 (M 6))] H := hP
  have hD : va_D A [((md 0), mdC md (M 0)), ((md 1), arC cI 96 (upd (M 1) 0 a1)), ((md 2), arC cI 96 (M 2)), ((md 3), arC cI 96 (M 3)), ((md 4), arC cI 384 (M 4)), ((md 5), arC cI 96 (M 5)), ((md 6), arC cI 60 (M 6))] := hD
  refine lv_aload_n hx hb dX5_builds_7 rfl (lv_at hl 0 rfl) ?_
  refine va_get (D := D) (ci := 5) (v := .ref (md 1)) (C := RX5) (T := TX5) (N := 14) hx hb hts inX5 hown hK.1 hP 0 rfl rfl 0 (by decide) (hts (.fieldLink RX5 7 "GrayPointersModel" "all" "[I") (List.mem_of_getElem? (i := 1) rfl)) (fun _ h9 => h9) rfl dX5_builds_8 ?_
  refine lv_iconst (v := (1 : Int32)) hx hb dX5_builds_11 (by decide) ?_
  refine lv_iload_n hx hb dX5_builds_12 rfl (lv_at hl 2 rfl) ?_
  refine va_iast hx hb hK.1 hP hD hS 1 0 rfl rfl (i := (1 : Int32)) (x := a2) (vp_in_iff.mpr (by decide)) dX5_builds_13 (fun H locs hP hD hS => ?_)
  have hP : va_P D vwCl [((md 0), mdC md (M 0)), ((md 1), arC cI 96 (upd (upd (M 1) 0 a1) 1 a2)), ((md 2), arC cI 96 (M 2)), ((md 3), arC cI 96 (M 3)), ((md 4), arC cI 384 (M 4)), ((md 5), arC cI 96 (M 5)), ((md 6), arC cI 60 (M 6))] H := hP
  have hD : va_D A [((md 0), mdC md (M 0)), ((md 1), arC cI 96 (upd (upd (M 1) 0 a1) 1 a2)), ((md 2), arC cI 96 (M 2)), ((md 3), arC cI 96 (M 3)), ((md 4), arC cI 384 (M 4)), ((md 5), arC cI 96 (M 5)), ((md 6), arC cI 60 (M 6))] := hD
  refine lv_iconst (v := (0 : Int32)) hx hb dX5_builds_14 (by decide) ?_
  refine lv_istore_n (lv' := [(3, .int (0 : Int32)), (0, .ref (md 0)), (1, .int a1), (2, .int a2)]) hx hb dX5_builds_15 rfl hl (by decide) rfl (fun ls hl => ?_)
  refine lv_iload_n hx hb dX5_builds_16 rfl (lv_at hl 0 rfl) ?_
  refine lv_iconst (v := (2 : Int32)) hx hb dX5_builds_17 (by decide) ?_
  refine lv_icmp_ge (tgt := 50) hx hb dX5_builds_18 (by decide) (fun h9 => absurd h9 (by decide)) (fun _ => ?_)
  refine lv_iconst (v := (3 : Int32)) hx hb dX5_builds_21 (by decide) ?_
  refine lv_istore (lv' := [(4, .int (3 : Int32)), (3, .int (0 : Int32)), (0, .ref (md 0)), (1, .int a1), (2, .int a2)]) hx hb dX5_builds_22 hl (by decide) rfl (fun ls hl => ?_)
  refine lv_iload hx hb dX5_builds_24 (lv_at hl 0 rfl) ?_
  refine lv_iconst (v := (5 : Int32)) hx hb dX5_builds_26 (by decide) ?_
  refine lv_icmp_gt (tgt := 44) hx hb dX5_builds_27 (by decide) (fun h9 => absurd h9 (by decide)) (fun _ => ?_)
  refine lv_aload_n hx hb dX5_builds_30 rfl (lv_at hl 2 rfl) ?_
  refine lv_iload_n hx hb dX5_builds_31 rfl (lv_at hl 1 rfl) ?_
  refine lv_iload hx hb dX5_builds_32 (lv_at hl 0 rfl) ?_
  refine lv_iconst (v := (0 : Int32)) hx hb dX5_builds_34 (by decide) ?_
  obtain ⟨z_1, hz_1⟩ : ∃ z : CS, z = (va_up M 1 (upd (upd (M 1) 0 a1) 1 a2)) := ⟨_, rfl⟩
  have e0 : (z_1 0) = (M 0) := (congrFun hz_1 0).trans (va_up_n (by decide))
  have e1 : (z_1 1) = (upd (upd (M 1) 0 a1) 1 a2) := (congrFun hz_1 1).trans va_up_s
  have e2 : (z_1 2) = (M 2) := (congrFun hz_1 2).trans (va_up_n (by decide))
  have e3 : (z_1 3) = (M 3) := (congrFun hz_1 3).trans (va_up_n (by decide))
  have e4 : (z_1 4) = (M 4) := (congrFun hz_1 4).trans (va_up_n (by decide))
  have e5 : (z_1 5) = (M 5) := (congrFun hz_1 5).trans (va_up_n (by decide))
  have e6 : (z_1 6) = (M 6) := (congrFun hz_1 6).trans (va_up_n (by decide))
  have hP : va_P D vwCl [((md 0), mdC md (z_1 0)), ((md 1), arC cI 96 (z_1 1)), ((md 2), arC cI 96 (z_1 2)), ((md 3), arC cI 96 (z_1 3)), ((md 4), arC cI 384 (z_1 4)), ((md 5), arC cI 96 (z_1 5)), ((md 6), arC cI 60 (z_1 6))] H := by rw [e0, e1, e2, e3, e4, e5, e6]; exact hP
  have hD : va_D A [((md 0), mdC md (z_1 0)), ((md 1), arC cI 96 (z_1 1)), ((md 2), arC cI 96 (z_1 2)), ((md 3), arC cI 96 (z_1 3)), ((md 4), arC cI 384 (z_1 4)), ((md 5), arC cI 96 (z_1 5)), ((md 6), arC cI 60 (z_1 6))] := by rw [e0, e1, e2, e3, e4, e5, e6]; exact hD
  clear e0 e1 e2 e3 e4 e5 e6
  have hp : (p_X5_builds M a1 a2) = ((fun (z_2 : CS) => ((fun (z_3 : CS) => ((fun (z_4 : CS) => ((fun (z_5 : CS) => ((fun (z_6 : CS) => ((fun (z_7 : CS) => ((fun (T74_f1 : F1) => ((fun (T95_f2 : F1) => ((fun (z_8 : CS) => z_8) (va_up z_7 1 T95_f2))) (q_X5_builds_95 (((16 : Int32).toInt - (0 : Int32).toInt).toNat + 1) (0 : Int32) T74_f1))) (q_X5_builds_74 (((96 : Int32).toInt - (27 : Int32).toInt).toNat + 1) (27 : Int32) (upd (upd (upd (upd (upd (upd (z_7 1) 5 (0 : Int32)) 6 (0 : Int32)) 7 (0 : Int32)) 8 (0 : Int32)) 9 (0 : Int32)) 10 (0 : Int32))))) (p_X5_to z_6 (1 : Int32) (5 : Int32) (0 : Int32)))) (p_X5_to z_5 (1 : Int32) (4 : Int32) (0 : Int32)))) (p_X5_to z_4 (1 : Int32) (3 : Int32) (0 : Int32)))) (p_X5_to z_3 (0 : Int32) (5 : Int32) (0 : Int32)))) (p_X5_to z_2 (0 : Int32) (4 : Int32) (0 : Int32)))) (p_X5_to z_1 (0 : Int32) (3 : Int32) (0 : Int32))) := by subst hz_1; exact hp
  refine goV (n := 7) (ws' := [((md 0), mdC md ((p_X5_to z_1 (0 : Int32) (3 : Int32) (0 : Int32)) 0)), ((md 1), arC cI 96 ((p_X5_to z_1 (0 : Int32) (3 : Int32) (0 : Int32)) 1)), ((md 2), arC cI 96 ((p_X5_to z_1 (0 : Int32) (3 : Int32) (0 : Int32)) 2)), ((md 3), arC cI 96 ((p_X5_to z_1 (0 : Int32) (3 : Int32) (0 : Int32)) 3)), ((md 4), arC cI 384 ((p_X5_to z_1 (0 : Int32) (3 : Int32) (0 : Int32)) 4)), ((md 5), arC cI 96 ((p_X5_to z_1 (0 : Int32) (3 : Int32) (0 : Int32)) 5)), ((md 6), arC cI 60 ((p_X5_to z_1 (0 : Int32) (3 : Int32) (0 : Int32)) 6))]) (rs := []) (va_runV (As := [.int (0 : Int32), .int (3 : Int32), .int (0 : Int32)]) (rest := []) ⟨hx, hb, hml, hown, hts⟩ (c_X5_to l D cI cC cS md z_1 (0 : Int32) (3 : Int32) (0 : Int32) (vp_in_iff.mpr (by decide)) _) (cwV 3 hts gX5_builds_X5_to rfl rfl rfl (by decide +kernel) ⟨Nat.le_of_ble_eq_true rfl, Nat.le_of_ble_eq_true rfl⟩) (preV hK hP hD [0, 1, 2, 3, 4, 5, 6] (by decide) rfl 0 5 rfl rfl) rfl rfl hl.1 rfl (lv_room (Nat.le_of_ble_eq_true rfl)) dX5_builds_35 ⟨Nat.zero_le _, Nat.zero_le _⟩) hP hD hS hA [0, 1, 2, 3, 4, 5, 6] [] rfl rfl rfl rfl rfl (by decide +kernel) (fstE (as := [(md 0), (md 1), (md 2), (md 3), (md 4), (md 5), (md 6)]) rfl rfl) (fun H locs hP hD hS => ?_)
  obtain ⟨z_2, hz_2⟩ : ∃ z : CS, z = (p_X5_to z_1 (0 : Int32) (3 : Int32) (0 : Int32)) := ⟨_, rfl⟩
  rw [← hz_2] at hP hD
  have hp : (p_X5_builds M a1 a2) = ((fun (z_3 : CS) => ((fun (z_4 : CS) => ((fun (z_5 : CS) => ((fun (z_6 : CS) => ((fun (z_7 : CS) => ((fun (T74_f1 : F1) => ((fun (T95_f2 : F1) => ((fun (z_8 : CS) => z_8) (va_up z_7 1 T95_f2))) (q_X5_builds_95 (((16 : Int32).toInt - (0 : Int32).toInt).toNat + 1) (0 : Int32) T74_f1))) (q_X5_builds_74 (((96 : Int32).toInt - (27 : Int32).toInt).toNat + 1) (27 : Int32) (upd (upd (upd (upd (upd (upd (z_7 1) 5 (0 : Int32)) 6 (0 : Int32)) 7 (0 : Int32)) 8 (0 : Int32)) 9 (0 : Int32)) 10 (0 : Int32))))) (p_X5_to z_6 (1 : Int32) (5 : Int32) (0 : Int32)))) (p_X5_to z_5 (1 : Int32) (4 : Int32) (0 : Int32)))) (p_X5_to z_4 (1 : Int32) (3 : Int32) (0 : Int32)))) (p_X5_to z_3 (0 : Int32) (5 : Int32) (0 : Int32)))) (p_X5_to z_2 (0 : Int32) (4 : Int32) (0 : Int32))) := by subst hz_2; exact hp
  refine lv_iinc (v := (4 : Int32)) (lv' := [(4, .int (4 : Int32)), (3, .int (0 : Int32)), (0, .ref (md 0)), (1, .int a1), (2, .int a2)]) hx hb dX5_builds_38 hl (k := 0) rfl rfl (by decide) rfl (fun ls hl => ?_)
  refine lv_goto (tgt := 24) hx hb dX5_builds_41 (by decide) ?_
  refine lv_iload hx hb dX5_builds_24 (lv_at hl 0 rfl) ?_
  refine lv_iconst (v := (5 : Int32)) hx hb dX5_builds_26 (by decide) ?_
  refine lv_icmp_gt (tgt := 44) hx hb dX5_builds_27 (by decide) (fun h9 => absurd h9 (by decide)) (fun _ => ?_)
  refine lv_aload_n hx hb dX5_builds_30 rfl (lv_at hl 2 rfl) ?_
  refine lv_iload_n hx hb dX5_builds_31 rfl (lv_at hl 1 rfl) ?_
  refine lv_iload hx hb dX5_builds_32 (lv_at hl 0 rfl) ?_
  refine lv_iconst (v := (0 : Int32)) hx hb dX5_builds_34 (by decide) ?_
  refine goV (n := 7) (ws' := [((md 0), mdC md ((p_X5_to z_2 (0 : Int32) (4 : Int32) (0 : Int32)) 0)), ((md 1), arC cI 96 ((p_X5_to z_2 (0 : Int32) (4 : Int32) (0 : Int32)) 1)), ((md 2), arC cI 96 ((p_X5_to z_2 (0 : Int32) (4 : Int32) (0 : Int32)) 2)), ((md 3), arC cI 96 ((p_X5_to z_2 (0 : Int32) (4 : Int32) (0 : Int32)) 3)), ((md 4), arC cI 384 ((p_X5_to z_2 (0 : Int32) (4 : Int32) (0 : Int32)) 4)), ((md 5), arC cI 96 ((p_X5_to z_2 (0 : Int32) (4 : Int32) (0 : Int32)) 5)), ((md 6), arC cI 60 ((p_X5_to z_2 (0 : Int32) (4 : Int32) (0 : Int32)) 6))]) (rs := []) (va_runV (As := [.int (0 : Int32), .int (4 : Int32), .int (0 : Int32)]) (rest := []) ⟨hx, hb, hml, hown, hts⟩ (c_X5_to l D cI cC cS md z_2 (0 : Int32) (4 : Int32) (0 : Int32) (vp_in_iff.mpr (by decide)) _) (cwV 3 hts gX5_builds_X5_to rfl rfl rfl (by decide +kernel) ⟨Nat.le_of_ble_eq_true rfl, Nat.le_of_ble_eq_true rfl⟩) (preV hK hP hD [0, 1, 2, 3, 4, 5, 6] (by decide) rfl 0 5 rfl rfl) rfl rfl hl.1 rfl (lv_room (Nat.le_of_ble_eq_true rfl)) dX5_builds_35 ⟨Nat.zero_le _, Nat.zero_le _⟩) hP hD hS hA [0, 1, 2, 3, 4, 5, 6] [] rfl rfl rfl rfl rfl (by decide +kernel) (fstE (as := [(md 0), (md 1), (md 2), (md 3), (md 4), (md 5), (md 6)]) rfl rfl) (fun H locs hP hD hS => ?_)
  obtain ⟨z_3, hz_3⟩ : ∃ z : CS, z = (p_X5_to z_2 (0 : Int32) (4 : Int32) (0 : Int32)) := ⟨_, rfl⟩
  rw [← hz_3] at hP hD
  have hp : (p_X5_builds M a1 a2) = ((fun (z_4 : CS) => ((fun (z_5 : CS) => ((fun (z_6 : CS) => ((fun (z_7 : CS) => ((fun (T74_f1 : F1) => ((fun (T95_f2 : F1) => ((fun (z_8 : CS) => z_8) (va_up z_7 1 T95_f2))) (q_X5_builds_95 (((16 : Int32).toInt - (0 : Int32).toInt).toNat + 1) (0 : Int32) T74_f1))) (q_X5_builds_74 (((96 : Int32).toInt - (27 : Int32).toInt).toNat + 1) (27 : Int32) (upd (upd (upd (upd (upd (upd (z_7 1) 5 (0 : Int32)) 6 (0 : Int32)) 7 (0 : Int32)) 8 (0 : Int32)) 9 (0 : Int32)) 10 (0 : Int32))))) (p_X5_to z_6 (1 : Int32) (5 : Int32) (0 : Int32)))) (p_X5_to z_5 (1 : Int32) (4 : Int32) (0 : Int32)))) (p_X5_to z_4 (1 : Int32) (3 : Int32) (0 : Int32)))) (p_X5_to z_3 (0 : Int32) (5 : Int32) (0 : Int32))) := by subst hz_3; exact hp
  refine lv_iinc (v := (5 : Int32)) (lv' := [(4, .int (5 : Int32)), (3, .int (0 : Int32)), (0, .ref (md 0)), (1, .int a1), (2, .int a2)]) hx hb dX5_builds_38 hl (k := 0) rfl rfl (by decide) rfl (fun ls hl => ?_)
  refine lv_goto (tgt := 24) hx hb dX5_builds_41 (by decide) ?_
  refine lv_iload hx hb dX5_builds_24 (lv_at hl 0 rfl) ?_
  refine lv_iconst (v := (5 : Int32)) hx hb dX5_builds_26 (by decide) ?_
  refine lv_icmp_gt (tgt := 44) hx hb dX5_builds_27 (by decide) (fun h9 => absurd h9 (by decide)) (fun _ => ?_)
  refine lv_aload_n hx hb dX5_builds_30 rfl (lv_at hl 2 rfl) ?_
  refine lv_iload_n hx hb dX5_builds_31 rfl (lv_at hl 1 rfl) ?_
  refine lv_iload hx hb dX5_builds_32 (lv_at hl 0 rfl) ?_
  refine lv_iconst (v := (0 : Int32)) hx hb dX5_builds_34 (by decide) ?_
  refine goV (n := 7) (ws' := [((md 0), mdC md ((p_X5_to z_3 (0 : Int32) (5 : Int32) (0 : Int32)) 0)), ((md 1), arC cI 96 ((p_X5_to z_3 (0 : Int32) (5 : Int32) (0 : Int32)) 1)), ((md 2), arC cI 96 ((p_X5_to z_3 (0 : Int32) (5 : Int32) (0 : Int32)) 2)), ((md 3), arC cI 96 ((p_X5_to z_3 (0 : Int32) (5 : Int32) (0 : Int32)) 3)), ((md 4), arC cI 384 ((p_X5_to z_3 (0 : Int32) (5 : Int32) (0 : Int32)) 4)), ((md 5), arC cI 96 ((p_X5_to z_3 (0 : Int32) (5 : Int32) (0 : Int32)) 5)), ((md 6), arC cI 60 ((p_X5_to z_3 (0 : Int32) (5 : Int32) (0 : Int32)) 6))]) (rs := []) (va_runV (As := [.int (0 : Int32), .int (5 : Int32), .int (0 : Int32)]) (rest := []) ⟨hx, hb, hml, hown, hts⟩ (c_X5_to l D cI cC cS md z_3 (0 : Int32) (5 : Int32) (0 : Int32) (vp_in_iff.mpr (by decide)) _) (cwV 3 hts gX5_builds_X5_to rfl rfl rfl (by decide +kernel) ⟨Nat.le_of_ble_eq_true rfl, Nat.le_of_ble_eq_true rfl⟩) (preV hK hP hD [0, 1, 2, 3, 4, 5, 6] (by decide) rfl 0 5 rfl rfl) rfl rfl hl.1 rfl (lv_room (Nat.le_of_ble_eq_true rfl)) dX5_builds_35 ⟨Nat.zero_le _, Nat.zero_le _⟩) hP hD hS hA [0, 1, 2, 3, 4, 5, 6] [] rfl rfl rfl rfl rfl (by decide +kernel) (fstE (as := [(md 0), (md 1), (md 2), (md 3), (md 4), (md 5), (md 6)]) rfl rfl) (fun H locs hP hD hS => ?_)
  obtain ⟨z_4, hz_4⟩ : ∃ z : CS, z = (p_X5_to z_3 (0 : Int32) (5 : Int32) (0 : Int32)) := ⟨_, rfl⟩
  rw [← hz_4] at hP hD
  have hp : (p_X5_builds M a1 a2) = ((fun (z_5 : CS) => ((fun (z_6 : CS) => ((fun (z_7 : CS) => ((fun (T74_f1 : F1) => ((fun (T95_f2 : F1) => ((fun (z_8 : CS) => z_8) (va_up z_7 1 T95_f2))) (q_X5_builds_95 (((16 : Int32).toInt - (0 : Int32).toInt).toNat + 1) (0 : Int32) T74_f1))) (q_X5_builds_74 (((96 : Int32).toInt - (27 : Int32).toInt).toNat + 1) (27 : Int32) (upd (upd (upd (upd (upd (upd (z_7 1) 5 (0 : Int32)) 6 (0 : Int32)) 7 (0 : Int32)) 8 (0 : Int32)) 9 (0 : Int32)) 10 (0 : Int32))))) (p_X5_to z_6 (1 : Int32) (5 : Int32) (0 : Int32)))) (p_X5_to z_5 (1 : Int32) (4 : Int32) (0 : Int32)))) (p_X5_to z_4 (1 : Int32) (3 : Int32) (0 : Int32))) := by subst hz_4; exact hp
  refine lv_iinc (v := (6 : Int32)) (lv' := [(4, .int (6 : Int32)), (3, .int (0 : Int32)), (0, .ref (md 0)), (1, .int a1), (2, .int a2)]) hx hb dX5_builds_38 hl (k := 0) rfl rfl (by decide) rfl (fun ls hl => ?_)
  refine lv_goto (tgt := 24) hx hb dX5_builds_41 (by decide) ?_
  refine lv_iload hx hb dX5_builds_24 (lv_at hl 0 rfl) ?_
  refine lv_iconst (v := (5 : Int32)) hx hb dX5_builds_26 (by decide) ?_
  refine lv_icmp_gt (tgt := 44) hx hb dX5_builds_27 (by decide) (fun _ => ?_) (fun h9 => absurd h9 (by decide))
  refine lv_iinc (v := (1 : Int32)) (lv' := [(3, .int (1 : Int32)), (4, .int (6 : Int32)), (0, .ref (md 0)), (1, .int a1), (2, .int a2)]) hx hb dX5_builds_44 hl (k := 1) rfl rfl (by decide) rfl (fun ls hl => ?_)
  refine lv_goto (tgt := 16) hx hb dX5_builds_47 (by decide) ?_
  refine lv_iload_n hx hb dX5_builds_16 rfl (lv_at hl 0 rfl) ?_
  refine lv_iconst (v := (2 : Int32)) hx hb dX5_builds_17 (by decide) ?_
  refine lv_icmp_ge (tgt := 50) hx hb dX5_builds_18 (by decide) (fun h9 => absurd h9 (by decide)) (fun _ => ?_)
  refine lv_iconst (v := (3 : Int32)) hx hb dX5_builds_21 (by decide) ?_
  refine lv_istore (lv' := [(4, .int (3 : Int32)), (3, .int (1 : Int32)), (0, .ref (md 0)), (1, .int a1), (2, .int a2)]) hx hb dX5_builds_22 hl (by decide) rfl (fun ls hl => ?_)
  refine lv_iload hx hb dX5_builds_24 (lv_at hl 0 rfl) ?_
  refine lv_iconst (v := (5 : Int32)) hx hb dX5_builds_26 (by decide) ?_
  refine lv_icmp_gt (tgt := 44) hx hb dX5_builds_27 (by decide) (fun h9 => absurd h9 (by decide)) (fun _ => ?_)
  refine lv_aload_n hx hb dX5_builds_30 rfl (lv_at hl 2 rfl) ?_
  refine lv_iload_n hx hb dX5_builds_31 rfl (lv_at hl 1 rfl) ?_
  refine lv_iload hx hb dX5_builds_32 (lv_at hl 0 rfl) ?_
  refine lv_iconst (v := (0 : Int32)) hx hb dX5_builds_34 (by decide) ?_
  refine goV (n := 7) (ws' := [((md 0), mdC md ((p_X5_to z_4 (1 : Int32) (3 : Int32) (0 : Int32)) 0)), ((md 1), arC cI 96 ((p_X5_to z_4 (1 : Int32) (3 : Int32) (0 : Int32)) 1)), ((md 2), arC cI 96 ((p_X5_to z_4 (1 : Int32) (3 : Int32) (0 : Int32)) 2)), ((md 3), arC cI 96 ((p_X5_to z_4 (1 : Int32) (3 : Int32) (0 : Int32)) 3)), ((md 4), arC cI 384 ((p_X5_to z_4 (1 : Int32) (3 : Int32) (0 : Int32)) 4)), ((md 5), arC cI 96 ((p_X5_to z_4 (1 : Int32) (3 : Int32) (0 : Int32)) 5)), ((md 6), arC cI 60 ((p_X5_to z_4 (1 : Int32) (3 : Int32) (0 : Int32)) 6))]) (rs := []) (va_runV (As := [.int (1 : Int32), .int (3 : Int32), .int (0 : Int32)]) (rest := []) ⟨hx, hb, hml, hown, hts⟩ (c_X5_to l D cI cC cS md z_4 (1 : Int32) (3 : Int32) (0 : Int32) (vp_in_iff.mpr (by decide)) _) (cwV 3 hts gX5_builds_X5_to rfl rfl rfl (by decide +kernel) ⟨Nat.le_of_ble_eq_true rfl, Nat.le_of_ble_eq_true rfl⟩) (preV hK hP hD [0, 1, 2, 3, 4, 5, 6] (by decide) rfl 0 5 rfl rfl) rfl rfl hl.1 rfl (lv_room (Nat.le_of_ble_eq_true rfl)) dX5_builds_35 ⟨Nat.zero_le _, Nat.zero_le _⟩) hP hD hS hA [0, 1, 2, 3, 4, 5, 6] [] rfl rfl rfl rfl rfl (by decide +kernel) (fstE (as := [(md 0), (md 1), (md 2), (md 3), (md 4), (md 5), (md 6)]) rfl rfl) (fun H locs hP hD hS => ?_)
  obtain ⟨z_5, hz_5⟩ : ∃ z : CS, z = (p_X5_to z_4 (1 : Int32) (3 : Int32) (0 : Int32)) := ⟨_, rfl⟩
  rw [← hz_5] at hP hD
  have hp : (p_X5_builds M a1 a2) = ((fun (z_6 : CS) => ((fun (z_7 : CS) => ((fun (T74_f1 : F1) => ((fun (T95_f2 : F1) => ((fun (z_8 : CS) => z_8) (va_up z_7 1 T95_f2))) (q_X5_builds_95 (((16 : Int32).toInt - (0 : Int32).toInt).toNat + 1) (0 : Int32) T74_f1))) (q_X5_builds_74 (((96 : Int32).toInt - (27 : Int32).toInt).toNat + 1) (27 : Int32) (upd (upd (upd (upd (upd (upd (z_7 1) 5 (0 : Int32)) 6 (0 : Int32)) 7 (0 : Int32)) 8 (0 : Int32)) 9 (0 : Int32)) 10 (0 : Int32))))) (p_X5_to z_6 (1 : Int32) (5 : Int32) (0 : Int32)))) (p_X5_to z_5 (1 : Int32) (4 : Int32) (0 : Int32))) := by subst hz_5; exact hp
  refine lv_iinc (v := (4 : Int32)) (lv' := [(4, .int (4 : Int32)), (3, .int (1 : Int32)), (0, .ref (md 0)), (1, .int a1), (2, .int a2)]) hx hb dX5_builds_38 hl (k := 0) rfl rfl (by decide) rfl (fun ls hl => ?_)
  refine lv_goto (tgt := 24) hx hb dX5_builds_41 (by decide) ?_
  refine lv_iload hx hb dX5_builds_24 (lv_at hl 0 rfl) ?_
  refine lv_iconst (v := (5 : Int32)) hx hb dX5_builds_26 (by decide) ?_
  refine lv_icmp_gt (tgt := 44) hx hb dX5_builds_27 (by decide) (fun h9 => absurd h9 (by decide)) (fun _ => ?_)
  refine lv_aload_n hx hb dX5_builds_30 rfl (lv_at hl 2 rfl) ?_
  refine lv_iload_n hx hb dX5_builds_31 rfl (lv_at hl 1 rfl) ?_
  refine lv_iload hx hb dX5_builds_32 (lv_at hl 0 rfl) ?_
  refine lv_iconst (v := (0 : Int32)) hx hb dX5_builds_34 (by decide) ?_
  refine goV (n := 7) (ws' := [((md 0), mdC md ((p_X5_to z_5 (1 : Int32) (4 : Int32) (0 : Int32)) 0)), ((md 1), arC cI 96 ((p_X5_to z_5 (1 : Int32) (4 : Int32) (0 : Int32)) 1)), ((md 2), arC cI 96 ((p_X5_to z_5 (1 : Int32) (4 : Int32) (0 : Int32)) 2)), ((md 3), arC cI 96 ((p_X5_to z_5 (1 : Int32) (4 : Int32) (0 : Int32)) 3)), ((md 4), arC cI 384 ((p_X5_to z_5 (1 : Int32) (4 : Int32) (0 : Int32)) 4)), ((md 5), arC cI 96 ((p_X5_to z_5 (1 : Int32) (4 : Int32) (0 : Int32)) 5)), ((md 6), arC cI 60 ((p_X5_to z_5 (1 : Int32) (4 : Int32) (0 : Int32)) 6))]) (rs := []) (va_runV (As := [.int (1 : Int32), .int (4 : Int32), .int (0 : Int32)]) (rest := []) ⟨hx, hb, hml, hown, hts⟩ (c_X5_to l D cI cC cS md z_5 (1 : Int32) (4 : Int32) (0 : Int32) (vp_in_iff.mpr (by decide)) _) (cwV 3 hts gX5_builds_X5_to rfl rfl rfl (by decide +kernel) ⟨Nat.le_of_ble_eq_true rfl, Nat.le_of_ble_eq_true rfl⟩) (preV hK hP hD [0, 1, 2, 3, 4, 5, 6] (by decide) rfl 0 5 rfl rfl) rfl rfl hl.1 rfl (lv_room (Nat.le_of_ble_eq_true rfl)) dX5_builds_35 ⟨Nat.zero_le _, Nat.zero_le _⟩) hP hD hS hA [0, 1, 2, 3, 4, 5, 6] [] rfl rfl rfl rfl rfl (by decide +kernel) (fstE (as := [(md 0), (md 1), (md 2), (md 3), (md 4), (md 5), (md 6)]) rfl rfl) (fun H locs hP hD hS => ?_)
  obtain ⟨z_6, hz_6⟩ : ∃ z : CS, z = (p_X5_to z_5 (1 : Int32) (4 : Int32) (0 : Int32)) := ⟨_, rfl⟩
  rw [← hz_6] at hP hD
  have hp : (p_X5_builds M a1 a2) = ((fun (z_7 : CS) => ((fun (T74_f1 : F1) => ((fun (T95_f2 : F1) => ((fun (z_8 : CS) => z_8) (va_up z_7 1 T95_f2))) (q_X5_builds_95 (((16 : Int32).toInt - (0 : Int32).toInt).toNat + 1) (0 : Int32) T74_f1))) (q_X5_builds_74 (((96 : Int32).toInt - (27 : Int32).toInt).toNat + 1) (27 : Int32) (upd (upd (upd (upd (upd (upd (z_7 1) 5 (0 : Int32)) 6 (0 : Int32)) 7 (0 : Int32)) 8 (0 : Int32)) 9 (0 : Int32)) 10 (0 : Int32))))) (p_X5_to z_6 (1 : Int32) (5 : Int32) (0 : Int32))) := by subst hz_6; exact hp
  refine lv_iinc (v := (5 : Int32)) (lv' := [(4, .int (5 : Int32)), (3, .int (1 : Int32)), (0, .ref (md 0)), (1, .int a1), (2, .int a2)]) hx hb dX5_builds_38 hl (k := 0) rfl rfl (by decide) rfl (fun ls hl => ?_)
  refine lv_goto (tgt := 24) hx hb dX5_builds_41 (by decide) ?_
  refine lv_iload hx hb dX5_builds_24 (lv_at hl 0 rfl) ?_
  refine lv_iconst (v := (5 : Int32)) hx hb dX5_builds_26 (by decide) ?_
  refine lv_icmp_gt (tgt := 44) hx hb dX5_builds_27 (by decide) (fun h9 => absurd h9 (by decide)) (fun _ => ?_)
  refine lv_aload_n hx hb dX5_builds_30 rfl (lv_at hl 2 rfl) ?_
  refine lv_iload_n hx hb dX5_builds_31 rfl (lv_at hl 1 rfl) ?_
  refine lv_iload hx hb dX5_builds_32 (lv_at hl 0 rfl) ?_
  refine lv_iconst (v := (0 : Int32)) hx hb dX5_builds_34 (by decide) ?_
  refine goV (n := 7) (ws' := [((md 0), mdC md ((p_X5_to z_6 (1 : Int32) (5 : Int32) (0 : Int32)) 0)), ((md 1), arC cI 96 ((p_X5_to z_6 (1 : Int32) (5 : Int32) (0 : Int32)) 1)), ((md 2), arC cI 96 ((p_X5_to z_6 (1 : Int32) (5 : Int32) (0 : Int32)) 2)), ((md 3), arC cI 96 ((p_X5_to z_6 (1 : Int32) (5 : Int32) (0 : Int32)) 3)), ((md 4), arC cI 384 ((p_X5_to z_6 (1 : Int32) (5 : Int32) (0 : Int32)) 4)), ((md 5), arC cI 96 ((p_X5_to z_6 (1 : Int32) (5 : Int32) (0 : Int32)) 5)), ((md 6), arC cI 60 ((p_X5_to z_6 (1 : Int32) (5 : Int32) (0 : Int32)) 6))]) (rs := []) (va_runV (As := [.int (1 : Int32), .int (5 : Int32), .int (0 : Int32)]) (rest := []) ⟨hx, hb, hml, hown, hts⟩ (c_X5_to l D cI cC cS md z_6 (1 : Int32) (5 : Int32) (0 : Int32) (vp_in_iff.mpr (by decide)) _) (cwV 3 hts gX5_builds_X5_to rfl rfl rfl (by decide +kernel) ⟨Nat.le_of_ble_eq_true rfl, Nat.le_of_ble_eq_true rfl⟩) (preV hK hP hD [0, 1, 2, 3, 4, 5, 6] (by decide) rfl 0 5 rfl rfl) rfl rfl hl.1 rfl (lv_room (Nat.le_of_ble_eq_true rfl)) dX5_builds_35 ⟨Nat.zero_le _, Nat.zero_le _⟩) hP hD hS hA [0, 1, 2, 3, 4, 5, 6] [] rfl rfl rfl rfl rfl (by decide +kernel) (fstE (as := [(md 0), (md 1), (md 2), (md 3), (md 4), (md 5), (md 6)]) rfl rfl) (fun H locs hP hD hS => ?_)
  obtain ⟨z_7, hz_7⟩ : ∃ z : CS, z = (p_X5_to z_6 (1 : Int32) (5 : Int32) (0 : Int32)) := ⟨_, rfl⟩
  rw [← hz_7] at hP hD
  have hp : (p_X5_builds M a1 a2) = ((fun (T74_f1 : F1) => ((fun (T95_f2 : F1) => ((fun (z_8 : CS) => z_8) (va_up z_7 1 T95_f2))) (q_X5_builds_95 (((16 : Int32).toInt - (0 : Int32).toInt).toNat + 1) (0 : Int32) T74_f1))) (q_X5_builds_74 (((96 : Int32).toInt - (27 : Int32).toInt).toNat + 1) (27 : Int32) (upd (upd (upd (upd (upd (upd (z_7 1) 5 (0 : Int32)) 6 (0 : Int32)) 7 (0 : Int32)) 8 (0 : Int32)) 9 (0 : Int32)) 10 (0 : Int32)))) := by subst hz_7; exact hp
  refine lv_iinc (v := (6 : Int32)) (lv' := [(4, .int (6 : Int32)), (3, .int (1 : Int32)), (0, .ref (md 0)), (1, .int a1), (2, .int a2)]) hx hb dX5_builds_38 hl (k := 0) rfl rfl (by decide) rfl (fun ls hl => ?_)
  refine lv_goto (tgt := 24) hx hb dX5_builds_41 (by decide) ?_
  refine lv_iload hx hb dX5_builds_24 (lv_at hl 0 rfl) ?_
  refine lv_iconst (v := (5 : Int32)) hx hb dX5_builds_26 (by decide) ?_
  refine lv_icmp_gt (tgt := 44) hx hb dX5_builds_27 (by decide) (fun _ => ?_) (fun h9 => absurd h9 (by decide))
  refine lv_iinc (v := (2 : Int32)) (lv' := [(3, .int (2 : Int32)), (4, .int (6 : Int32)), (0, .ref (md 0)), (1, .int a1), (2, .int a2)]) hx hb dX5_builds_44 hl (k := 1) rfl rfl (by decide) rfl (fun ls hl => ?_)
  refine lv_goto (tgt := 16) hx hb dX5_builds_47 (by decide) ?_
  refine lv_iload_n hx hb dX5_builds_16 rfl (lv_at hl 0 rfl) ?_
  refine lv_iconst (v := (2 : Int32)) hx hb dX5_builds_17 (by decide) ?_
  refine lv_icmp_ge (tgt := 50) hx hb dX5_builds_18 (by decide) (fun _ => ?_) (fun h9 => absurd h9 (by decide))
  refine lv_iconst (v := (5 : Int32)) hx hb dX5_builds_50 (by decide) ?_
  refine lv_istore_n (lv' := [(3, .int (5 : Int32)), (4, .int (6 : Int32)), (0, .ref (md 0)), (1, .int a1), (2, .int a2)]) hx hb dX5_builds_51 rfl hl (by decide) rfl (fun ls hl => ?_)
  refine lv_iload_n hx hb dX5_builds_52 rfl (lv_at hl 0 rfl) ?_
  refine lv_bipush (v := (10 : Int32)) hx hb dX5_builds_53 (by decide) ?_
  refine lv_icmp_gt (tgt := 71) hx hb dX5_builds_55 (by decide) (fun h9 => absurd h9 (by decide)) (fun _ => ?_)
  refine lv_aload_n hx hb dX5_builds_58 rfl (lv_at hl 2 rfl) ?_
  refine va_get (D := D) (ci := 5) (v := .ref (md 1)) (C := RX5) (T := TX5) (N := 14) hx hb hts inX5 hown hK.1 hP 0 rfl rfl 0 (by decide) (hts (.fieldLink RX5 7 "GrayPointersModel" "all" "[I") (List.mem_of_getElem? (i := 1) rfl)) (fun _ h9 => h9) rfl dX5_builds_59 ?_
  refine lv_iload_n hx hb dX5_builds_62 rfl (lv_at hl 0 rfl) ?_
  refine lv_iconst (v := (0 : Int32)) hx hb dX5_builds_63 (by decide) ?_
  refine va_iast hx hb hK.1 hP hD hS 1 0 rfl rfl (i := (5 : Int32)) (x := (0 : Int32)) (vp_in_iff.mpr (by decide)) dX5_builds_64 (fun H locs hP hD hS => ?_)
  have hP : va_P D vwCl [((md 0), mdC md (z_7 0)), ((md 1), arC cI 96 (upd (z_7 1) 5 (0 : Int32))), ((md 2), arC cI 96 (z_7 2)), ((md 3), arC cI 96 (z_7 3)), ((md 4), arC cI 384 (z_7 4)), ((md 5), arC cI 96 (z_7 5)), ((md 6), arC cI 60 (z_7 6))] H := hP
  have hD : va_D A [((md 0), mdC md (z_7 0)), ((md 1), arC cI 96 (upd (z_7 1) 5 (0 : Int32))), ((md 2), arC cI 96 (z_7 2)), ((md 3), arC cI 96 (z_7 3)), ((md 4), arC cI 384 (z_7 4)), ((md 5), arC cI 96 (z_7 5)), ((md 6), arC cI 60 (z_7 6))] := hD
  refine lv_iinc (v := (6 : Int32)) (lv' := [(3, .int (6 : Int32)), (4, .int (6 : Int32)), (0, .ref (md 0)), (1, .int a1), (2, .int a2)]) hx hb dX5_builds_65 hl (k := 0) rfl rfl (by decide) rfl (fun ls hl => ?_)
  refine lv_goto (tgt := 52) hx hb dX5_builds_68 (by decide) ?_
  refine lv_iload_n hx hb dX5_builds_52 rfl (lv_at hl 0 rfl) ?_
  refine lv_bipush (v := (10 : Int32)) hx hb dX5_builds_53 (by decide) ?_
  refine lv_icmp_gt (tgt := 71) hx hb dX5_builds_55 (by decide) (fun h9 => absurd h9 (by decide)) (fun _ => ?_)
  refine lv_aload_n hx hb dX5_builds_58 rfl (lv_at hl 2 rfl) ?_
  refine va_get (D := D) (ci := 5) (v := .ref (md 1)) (C := RX5) (T := TX5) (N := 14) hx hb hts inX5 hown hK.1 hP 0 rfl rfl 0 (by decide) (hts (.fieldLink RX5 7 "GrayPointersModel" "all" "[I") (List.mem_of_getElem? (i := 1) rfl)) (fun _ h9 => h9) rfl dX5_builds_59 ?_
  refine lv_iload_n hx hb dX5_builds_62 rfl (lv_at hl 0 rfl) ?_
  refine lv_iconst (v := (0 : Int32)) hx hb dX5_builds_63 (by decide) ?_
  refine va_iast hx hb hK.1 hP hD hS 1 0 rfl rfl (i := (6 : Int32)) (x := (0 : Int32)) (vp_in_iff.mpr (by decide)) dX5_builds_64 (fun H locs hP hD hS => ?_)
  have hP : va_P D vwCl [((md 0), mdC md (z_7 0)), ((md 1), arC cI 96 (upd (upd (z_7 1) 5 (0 : Int32)) 6 (0 : Int32))), ((md 2), arC cI 96 (z_7 2)), ((md 3), arC cI 96 (z_7 3)), ((md 4), arC cI 384 (z_7 4)), ((md 5), arC cI 96 (z_7 5)), ((md 6), arC cI 60 (z_7 6))] H := hP
  have hD : va_D A [((md 0), mdC md (z_7 0)), ((md 1), arC cI 96 (upd (upd (z_7 1) 5 (0 : Int32)) 6 (0 : Int32))), ((md 2), arC cI 96 (z_7 2)), ((md 3), arC cI 96 (z_7 3)), ((md 4), arC cI 384 (z_7 4)), ((md 5), arC cI 96 (z_7 5)), ((md 6), arC cI 60 (z_7 6))] := hD
  refine lv_iinc (v := (7 : Int32)) (lv' := [(3, .int (7 : Int32)), (4, .int (6 : Int32)), (0, .ref (md 0)), (1, .int a1), (2, .int a2)]) hx hb dX5_builds_65 hl (k := 0) rfl rfl (by decide) rfl (fun ls hl => ?_)
  refine lv_goto (tgt := 52) hx hb dX5_builds_68 (by decide) ?_
  refine lv_iload_n hx hb dX5_builds_52 rfl (lv_at hl 0 rfl) ?_
  refine lv_bipush (v := (10 : Int32)) hx hb dX5_builds_53 (by decide) ?_
  refine lv_icmp_gt (tgt := 71) hx hb dX5_builds_55 (by decide) (fun h9 => absurd h9 (by decide)) (fun _ => ?_)
  refine lv_aload_n hx hb dX5_builds_58 rfl (lv_at hl 2 rfl) ?_
  refine va_get (D := D) (ci := 5) (v := .ref (md 1)) (C := RX5) (T := TX5) (N := 14) hx hb hts inX5 hown hK.1 hP 0 rfl rfl 0 (by decide) (hts (.fieldLink RX5 7 "GrayPointersModel" "all" "[I") (List.mem_of_getElem? (i := 1) rfl)) (fun _ h9 => h9) rfl dX5_builds_59 ?_
  refine lv_iload_n hx hb dX5_builds_62 rfl (lv_at hl 0 rfl) ?_
  refine lv_iconst (v := (0 : Int32)) hx hb dX5_builds_63 (by decide) ?_
  refine va_iast hx hb hK.1 hP hD hS 1 0 rfl rfl (i := (7 : Int32)) (x := (0 : Int32)) (vp_in_iff.mpr (by decide)) dX5_builds_64 (fun H locs hP hD hS => ?_)
  have hP : va_P D vwCl [((md 0), mdC md (z_7 0)), ((md 1), arC cI 96 (upd (upd (upd (z_7 1) 5 (0 : Int32)) 6 (0 : Int32)) 7 (0 : Int32))), ((md 2), arC cI 96 (z_7 2)), ((md 3), arC cI 96 (z_7 3)), ((md 4), arC cI 384 (z_7 4)), ((md 5), arC cI 96 (z_7 5)), ((md 6), arC cI 60 (z_7 6))] H := hP
  have hD : va_D A [((md 0), mdC md (z_7 0)), ((md 1), arC cI 96 (upd (upd (upd (z_7 1) 5 (0 : Int32)) 6 (0 : Int32)) 7 (0 : Int32))), ((md 2), arC cI 96 (z_7 2)), ((md 3), arC cI 96 (z_7 3)), ((md 4), arC cI 384 (z_7 4)), ((md 5), arC cI 96 (z_7 5)), ((md 6), arC cI 60 (z_7 6))] := hD
  refine lv_iinc (v := (8 : Int32)) (lv' := [(3, .int (8 : Int32)), (4, .int (6 : Int32)), (0, .ref (md 0)), (1, .int a1), (2, .int a2)]) hx hb dX5_builds_65 hl (k := 0) rfl rfl (by decide) rfl (fun ls hl => ?_)
  refine lv_goto (tgt := 52) hx hb dX5_builds_68 (by decide) ?_
  refine lv_iload_n hx hb dX5_builds_52 rfl (lv_at hl 0 rfl) ?_
  refine lv_bipush (v := (10 : Int32)) hx hb dX5_builds_53 (by decide) ?_
  refine lv_icmp_gt (tgt := 71) hx hb dX5_builds_55 (by decide) (fun h9 => absurd h9 (by decide)) (fun _ => ?_)
  refine lv_aload_n hx hb dX5_builds_58 rfl (lv_at hl 2 rfl) ?_
  refine va_get (D := D) (ci := 5) (v := .ref (md 1)) (C := RX5) (T := TX5) (N := 14) hx hb hts inX5 hown hK.1 hP 0 rfl rfl 0 (by decide) (hts (.fieldLink RX5 7 "GrayPointersModel" "all" "[I") (List.mem_of_getElem? (i := 1) rfl)) (fun _ h9 => h9) rfl dX5_builds_59 ?_
  refine lv_iload_n hx hb dX5_builds_62 rfl (lv_at hl 0 rfl) ?_
  refine lv_iconst (v := (0 : Int32)) hx hb dX5_builds_63 (by decide) ?_
  refine va_iast hx hb hK.1 hP hD hS 1 0 rfl rfl (i := (8 : Int32)) (x := (0 : Int32)) (vp_in_iff.mpr (by decide)) dX5_builds_64 (fun H locs hP hD hS => ?_)
  have hP : va_P D vwCl [((md 0), mdC md (z_7 0)), ((md 1), arC cI 96 (upd (upd (upd (upd (z_7 1) 5 (0 : Int32)) 6 (0 : Int32)) 7 (0 : Int32)) 8 (0 : Int32))), ((md 2), arC cI 96 (z_7 2)), ((md 3), arC cI 96 (z_7 3)), ((md 4), arC cI 384 (z_7 4)), ((md 5), arC cI 96 (z_7 5)), ((md 6), arC cI 60 (z_7 6))] H := hP
  have hD : va_D A [((md 0), mdC md (z_7 0)), ((md 1), arC cI 96 (upd (upd (upd (upd (z_7 1) 5 (0 : Int32)) 6 (0 : Int32)) 7 (0 : Int32)) 8 (0 : Int32))), ((md 2), arC cI 96 (z_7 2)), ((md 3), arC cI 96 (z_7 3)), ((md 4), arC cI 384 (z_7 4)), ((md 5), arC cI 96 (z_7 5)), ((md 6), arC cI 60 (z_7 6))] := hD
  refine lv_iinc (v := (9 : Int32)) (lv' := [(3, .int (9 : Int32)), (4, .int (6 : Int32)), (0, .ref (md 0)), (1, .int a1), (2, .int a2)]) hx hb dX5_builds_65 hl (k := 0) rfl rfl (by decide) rfl (fun ls hl => ?_)
  refine lv_goto (tgt := 52) hx hb dX5_builds_68 (by decide) ?_
  refine lv_iload_n hx hb dX5_builds_52 rfl (lv_at hl 0 rfl) ?_
  refine lv_bipush (v := (10 : Int32)) hx hb dX5_builds_53 (by decide) ?_
  refine lv_icmp_gt (tgt := 71) hx hb dX5_builds_55 (by decide) (fun h9 => absurd h9 (by decide)) (fun _ => ?_)
  refine lv_aload_n hx hb dX5_builds_58 rfl (lv_at hl 2 rfl) ?_
  refine va_get (D := D) (ci := 5) (v := .ref (md 1)) (C := RX5) (T := TX5) (N := 14) hx hb hts inX5 hown hK.1 hP 0 rfl rfl 0 (by decide) (hts (.fieldLink RX5 7 "GrayPointersModel" "all" "[I") (List.mem_of_getElem? (i := 1) rfl)) (fun _ h9 => h9) rfl dX5_builds_59 ?_
  refine lv_iload_n hx hb dX5_builds_62 rfl (lv_at hl 0 rfl) ?_
  refine lv_iconst (v := (0 : Int32)) hx hb dX5_builds_63 (by decide) ?_
  refine va_iast hx hb hK.1 hP hD hS 1 0 rfl rfl (i := (9 : Int32)) (x := (0 : Int32)) (vp_in_iff.mpr (by decide)) dX5_builds_64 (fun H locs hP hD hS => ?_)
  have hP : va_P D vwCl [((md 0), mdC md (z_7 0)), ((md 1), arC cI 96 (upd (upd (upd (upd (upd (z_7 1) 5 (0 : Int32)) 6 (0 : Int32)) 7 (0 : Int32)) 8 (0 : Int32)) 9 (0 : Int32))), ((md 2), arC cI 96 (z_7 2)), ((md 3), arC cI 96 (z_7 3)), ((md 4), arC cI 384 (z_7 4)), ((md 5), arC cI 96 (z_7 5)), ((md 6), arC cI 60 (z_7 6))] H := hP
  have hD : va_D A [((md 0), mdC md (z_7 0)), ((md 1), arC cI 96 (upd (upd (upd (upd (upd (z_7 1) 5 (0 : Int32)) 6 (0 : Int32)) 7 (0 : Int32)) 8 (0 : Int32)) 9 (0 : Int32))), ((md 2), arC cI 96 (z_7 2)), ((md 3), arC cI 96 (z_7 3)), ((md 4), arC cI 384 (z_7 4)), ((md 5), arC cI 96 (z_7 5)), ((md 6), arC cI 60 (z_7 6))] := hD
  refine lv_iinc (v := (10 : Int32)) (lv' := [(3, .int (10 : Int32)), (4, .int (6 : Int32)), (0, .ref (md 0)), (1, .int a1), (2, .int a2)]) hx hb dX5_builds_65 hl (k := 0) rfl rfl (by decide) rfl (fun ls hl => ?_)
  refine lv_goto (tgt := 52) hx hb dX5_builds_68 (by decide) ?_
  refine lv_iload_n hx hb dX5_builds_52 rfl (lv_at hl 0 rfl) ?_
  refine lv_bipush (v := (10 : Int32)) hx hb dX5_builds_53 (by decide) ?_
  refine lv_icmp_gt (tgt := 71) hx hb dX5_builds_55 (by decide) (fun h9 => absurd h9 (by decide)) (fun _ => ?_)
  refine lv_aload_n hx hb dX5_builds_58 rfl (lv_at hl 2 rfl) ?_
  refine va_get (D := D) (ci := 5) (v := .ref (md 1)) (C := RX5) (T := TX5) (N := 14) hx hb hts inX5 hown hK.1 hP 0 rfl rfl 0 (by decide) (hts (.fieldLink RX5 7 "GrayPointersModel" "all" "[I") (List.mem_of_getElem? (i := 1) rfl)) (fun _ h9 => h9) rfl dX5_builds_59 ?_
  refine lv_iload_n hx hb dX5_builds_62 rfl (lv_at hl 0 rfl) ?_
  refine lv_iconst (v := (0 : Int32)) hx hb dX5_builds_63 (by decide) ?_
  refine va_iast hx hb hK.1 hP hD hS 1 0 rfl rfl (i := (10 : Int32)) (x := (0 : Int32)) (vp_in_iff.mpr (by decide)) dX5_builds_64 (fun H locs hP hD hS => ?_)
  have hP : va_P D vwCl [((md 0), mdC md (z_7 0)), ((md 1), arC cI 96 (upd (upd (upd (upd (upd (upd (z_7 1) 5 (0 : Int32)) 6 (0 : Int32)) 7 (0 : Int32)) 8 (0 : Int32)) 9 (0 : Int32)) 10 (0 : Int32))), ((md 2), arC cI 96 (z_7 2)), ((md 3), arC cI 96 (z_7 3)), ((md 4), arC cI 384 (z_7 4)), ((md 5), arC cI 96 (z_7 5)), ((md 6), arC cI 60 (z_7 6))] H := hP
  have hD : va_D A [((md 0), mdC md (z_7 0)), ((md 1), arC cI 96 (upd (upd (upd (upd (upd (upd (z_7 1) 5 (0 : Int32)) 6 (0 : Int32)) 7 (0 : Int32)) 8 (0 : Int32)) 9 (0 : Int32)) 10 (0 : Int32))), ((md 2), arC cI 96 (z_7 2)), ((md 3), arC cI 96 (z_7 3)), ((md 4), arC cI 384 (z_7 4)), ((md 5), arC cI 96 (z_7 5)), ((md 6), arC cI 60 (z_7 6))] := hD
  refine lv_iinc (v := (11 : Int32)) (lv' := [(3, .int (11 : Int32)), (4, .int (6 : Int32)), (0, .ref (md 0)), (1, .int a1), (2, .int a2)]) hx hb dX5_builds_65 hl (k := 0) rfl rfl (by decide) rfl (fun ls hl => ?_)
  refine lv_goto (tgt := 52) hx hb dX5_builds_68 (by decide) ?_
  refine lv_iload_n hx hb dX5_builds_52 rfl (lv_at hl 0 rfl) ?_
  refine lv_bipush (v := (10 : Int32)) hx hb dX5_builds_53 (by decide) ?_
  refine lv_icmp_gt (tgt := 71) hx hb dX5_builds_55 (by decide) (fun _ => ?_) (fun h9 => absurd h9 (by decide))
  refine lv_bipush (v := (27 : Int32)) hx hb dX5_builds_71 (by decide) ?_
  refine lv_istore_n (lv' := [(3, .int (27 : Int32)), (4, .int (6 : Int32)), (0, .ref (md 0)), (1, .int a1), (2, .int a2)]) hx hb dX5_builds_73 rfl hl (by decide) rfl (fun ls hl => ?_)
  obtain ⟨T74_f1, hT74_f1⟩ : ∃ T : F1, T = (q_X5_builds_74 (((96 : Int32).toInt - (27 : Int32).toInt).toNat + 1) (27 : Int32) (upd (upd (upd (upd (upd (upd (z_7 1) 5 (0 : Int32)) 6 (0 : Int32)) 7 (0 : Int32)) 8 (0 : Int32)) 9 (0 : Int32)) 10 (0 : Int32))) := ⟨_, rfl⟩
  have K_74 : ∀ (H : Heap) (locs : List Loc), va_P D vwCl [((md 0), mdC md (z_7 0)), ((md 1), arC cI 96 T74_f1), ((md 2), arC cI 96 (z_7 2)), ((md 3), arC cI 96 (z_7 3)), ((md 4), arC cI 384 (z_7 4)), ((md 5), arC cI 96 (z_7 5)), ((md 6), arC cI 60 (z_7 6))] H → va_D A [((md 0), mdC md (z_7 0)), ((md 1), arC cI 96 T74_f1), ((md 2), arC cI 96 (z_7 2)), ((md 3), arC cI 96 (z_7 3)), ((md 4), arC cI 384 (z_7 4)), ((md 5), arC cI 96 (z_7 5)), ((md 6), arC cI 60 (z_7 6))] → va_S A s.heap H locs → ∀ ls, lv_has ls 5 [(0, .ref (md 0))] → W p l e rm_X5_builds s m args below meth c H locs 0 0 (MQ below (QV D (mdW cI md (p_X5_builds M a1 a2)) A) args s 0 0 A) (F0 m 93 ls []) := by
    intro H locs  hP hD hS ls hl
    have hp : (p_X5_builds M a1 a2) = ((fun (T95_f2 : F1) => ((fun (z_8 : CS) => z_8) (va_up z_7 1 T95_f2))) (q_X5_builds_95 (((16 : Int32).toInt - (0 : Int32).toInt).toNat + 1) (0 : Int32) T74_f1)) := by subst hT74_f1; exact hp
    refine lv_iconst (v := (0 : Int32)) hx hb dX5_builds_93 (by decide) ?_
    refine lv_istore_n (lv' := [(3, .int (0 : Int32)), (0, .ref (md 0))]) hx hb dX5_builds_94 rfl hl (by decide) rfl (fun ls hl => ?_)
    obtain ⟨T95_f2, hT95_f2⟩ : ∃ T : F1, T = (q_X5_builds_95 (((16 : Int32).toInt - (0 : Int32).toInt).toNat + 1) (0 : Int32) T74_f1) := ⟨_, rfl⟩
    have K_95 : ∀ (H : Heap) (locs : List Loc), va_P D vwCl [((md 0), mdC md (z_7 0)), ((md 1), arC cI 96 T95_f2), ((md 2), arC cI 96 (z_7 2)), ((md 3), arC cI 96 (z_7 3)), ((md 4), arC cI 384 (z_7 4)), ((md 5), arC cI 96 (z_7 5)), ((md 6), arC cI 60 (z_7 6))] H → va_D A [((md 0), mdC md (z_7 0)), ((md 1), arC cI 96 T95_f2), ((md 2), arC cI 96 (z_7 2)), ((md 3), arC cI 96 (z_7 3)), ((md 4), arC cI 384 (z_7 4)), ((md 5), arC cI 96 (z_7 5)), ((md 6), arC cI 60 (z_7 6))] → va_S A s.heap H locs → ∀ ls, lv_has ls 5 [(0, .ref (md 0))] → W p l e rm_X5_builds s m args below meth c H locs 0 0 (MQ below (QV D (mdW cI md (p_X5_builds M a1 a2)) A) args s 0 0 A) (F0 m 118 ls []) := by
      intro H locs  hP hD hS ls hl
      have hp : (p_X5_builds M a1 a2) = ((fun (z_8 : CS) => z_8) (va_up z_7 1 T95_f2)) := by subst hT95_f2; exact hp
      obtain ⟨z_8, hz_8⟩ : ∃ z : CS, z = (va_up z_7 1 T95_f2) := ⟨_, rfl⟩
      have e0 : (z_8 0) = (z_7 0) := (congrFun hz_8 0).trans (va_up_n (by decide))
      have e1 : (z_8 1) = T95_f2 := (congrFun hz_8 1).trans va_up_s
      have e2 : (z_8 2) = (z_7 2) := (congrFun hz_8 2).trans (va_up_n (by decide))
      have e3 : (z_8 3) = (z_7 3) := (congrFun hz_8 3).trans (va_up_n (by decide))
      have e4 : (z_8 4) = (z_7 4) := (congrFun hz_8 4).trans (va_up_n (by decide))
      have e5 : (z_8 5) = (z_7 5) := (congrFun hz_8 5).trans (va_up_n (by decide))
      have e6 : (z_8 6) = (z_7 6) := (congrFun hz_8 6).trans (va_up_n (by decide))
      have hP : va_P D vwCl [((md 0), mdC md (z_8 0)), ((md 1), arC cI 96 (z_8 1)), ((md 2), arC cI 96 (z_8 2)), ((md 3), arC cI 96 (z_8 3)), ((md 4), arC cI 384 (z_8 4)), ((md 5), arC cI 96 (z_8 5)), ((md 6), arC cI 60 (z_8 6))] H := by rw [e0, e1, e2, e3, e4, e5, e6]; exact hP
      have hD : va_D A [((md 0), mdC md (z_8 0)), ((md 1), arC cI 96 (z_8 1)), ((md 2), arC cI 96 (z_8 2)), ((md 3), arC cI 96 (z_8 3)), ((md 4), arC cI 384 (z_8 4)), ((md 5), arC cI 96 (z_8 5)), ((md 6), arC cI 60 (z_8 6))] := by rw [e0, e1, e2, e3, e4, e5, e6]; exact hD
      clear e0 e1 e2 e3 e4 e5 e6
      have hp : (p_X5_builds M a1 a2) = z_8 := by subst hz_8; exact hp
      exact endV hb hx hsg (by rw [hp]; exact hP) (by rw [hp]; exact hD) hS dX5_builds_118 hlocks
    have L_95 : ∀ (fu : Nat) (i : Int32) (f2 : F1) (H : Heap) (locs : List Loc), ((16 : Int32).toInt - i.toInt < (fu : Int) ∧ 0 < fu) → 0 ≤ i.toInt → T95_f2 = (q_X5_builds_95 fu i f2) → va_P D vwCl [((md 0), mdC md (z_7 0)), ((md 1), arC cI 96 f2), ((md 2), arC cI 96 (z_7 2)), ((md 3), arC cI 96 (z_7 3)), ((md 4), arC cI 384 (z_7 4)), ((md 5), arC cI 96 (z_7 5)), ((md 6), arC cI 60 (z_7 6))] H → va_D A [((md 0), mdC md (z_7 0)), ((md 1), arC cI 96 f2), ((md 2), arC cI 96 (z_7 2)), ((md 3), arC cI 96 (z_7 3)), ((md 4), arC cI 384 (z_7 4)), ((md 5), arC cI 96 (z_7 5)), ((md 6), arC cI 60 (z_7 6))] → va_S A s.heap H locs → ∀ ls, lv_has ls 5 [(0, .ref (md 0)), (3, .int i)] → W p l e rm_X5_builds s m args below meth c H locs 0 0 (MQ below (QV D (mdW cI md (p_X5_builds M a1 a2)) A) args s 0 0 A) (F0 m 95 ls []) := by
      intro fu
      induction fu with
      | zero => intro i f2 H locs hm; exact absurd hm.2 (Nat.lt_irrefl 0)
      | succ fu ih_95 =>
        intro i f2 H locs hm hi hq0 hP hD hS ls hl
        have hq0 : T95_f2 = (if (16 : Int32) ≤ i then f2 else (q_X5_builds_95 fu (i + (1 : Int32)) (upd f2 ((63 : Int32) + i).toNatClampNeg (-5 : Int32)))) := hq0
        refine lv_iload_n hx hb dX5_builds_95 rfl (lv_at hl 1 rfl) ?_
        refine lv_bipush (v := (16 : Int32)) hx hb dX5_builds_96 (by decide) ?_
        refine lv_icmp_ge (tgt := 118) hx hb dX5_builds_98 (by decide) (fun c98 => ?_) (fun c98 => ?_)
        · have hq0 := hq0.trans (if_pos c98)
          exact K_95 _ _  (by rw [hq0]; exact hP) (by rw [hq0]; exact hD) hS ls (by exact lv_sub hl [0] rfl)
        · have hq0 := hq0.trans (if_neg c98)
          refine lv_aload_n hx hb dX5_builds_101 rfl (lv_at hl 0 rfl) ?_
          refine va_get (D := D) (ci := 5) (v := .ref (md 1)) (C := RX5) (T := TX5) (N := 14) hx hb hts inX5 hown hK.1 hP 0 rfl rfl 0 (by decide) (hts (.fieldLink RX5 7 "GrayPointersModel" "all" "[I") (List.mem_of_getElem? (i := 1) rfl)) (fun _ h9 => h9) rfl dX5_builds_102 ?_
          refine lv_bipush (v := (63 : Int32)) hx hb dX5_builds_105 (by decide) ?_
          refine lv_iload_n hx hb dX5_builds_107 rfl (lv_at hl 1 rfl) ?_
          refine lv_iadd hx hb dX5_builds_108 ?_
          refine lv_bipush (v := (-5 : Int32)) hx hb dX5_builds_109 (by decide) ?_
          refine va_iast hx hb hK.1 hP hD hS 1 0 rfl rfl (i := ((63 : Int32) + i)) (x := (-5 : Int32)) (vp_add (a := 63) (by decide) hi (by have := lt_toI (n := 16) (by decide) c98; omega) (by decide)) dX5_builds_111 (fun H locs hP hD hS => ?_)
          have hP : va_P D vwCl [((md 0), mdC md (z_7 0)), ((md 1), arC cI 96 (upd f2 ((63 : Int32) + i).toNatClampNeg (-5 : Int32))), ((md 2), arC cI 96 (z_7 2)), ((md 3), arC cI 96 (z_7 3)), ((md 4), arC cI 384 (z_7 4)), ((md 5), arC cI 96 (z_7 5)), ((md 6), arC cI 60 (z_7 6))] H := hP
          have hD : va_D A [((md 0), mdC md (z_7 0)), ((md 1), arC cI 96 (upd f2 ((63 : Int32) + i).toNatClampNeg (-5 : Int32))), ((md 2), arC cI 96 (z_7 2)), ((md 3), arC cI 96 (z_7 3)), ((md 4), arC cI 384 (z_7 4)), ((md 5), arC cI 96 (z_7 5)), ((md 6), arC cI 60 (z_7 6))] := hD
          refine lv_iinc (v := (i + (1 : Int32))) (lv' := [(3, .int (i + (1 : Int32))), (0, .ref (md 0))]) hx hb dX5_builds_112 hl (k := 1) rfl rfl (by decide) rfl (fun ls hl => ?_)
          refine lv_goto (tgt := 95) hx hb dX5_builds_115 (by decide) ?_
          exact ih_95 (i + (1 : Int32)) (upd f2 ((63 : Int32) + i).toNatClampNeg (-5 : Int32)) _ _ (cnt_step c98 hm) (inv_step c98 hi) hq0 hP hD hS ls (lv_sub hl [1, 0] rfl)
    exact L_95 _ (0 : Int32) T74_f1 _ _ (cnt_init _ _) (by decide) hT95_f2 hP hD hS ls (lv_sub hl [1, 0] rfl)
  have L_74 : ∀ (fu : Nat) (i : Int32) (f1 : F1) (H : Heap) (locs : List Loc), ((96 : Int32).toInt - i.toInt < (fu : Int) ∧ 0 < fu) → 0 ≤ i.toInt → T74_f1 = (q_X5_builds_74 fu i f1) → va_P D vwCl [((md 0), mdC md (z_7 0)), ((md 1), arC cI 96 f1), ((md 2), arC cI 96 (z_7 2)), ((md 3), arC cI 96 (z_7 3)), ((md 4), arC cI 384 (z_7 4)), ((md 5), arC cI 96 (z_7 5)), ((md 6), arC cI 60 (z_7 6))] H → va_D A [((md 0), mdC md (z_7 0)), ((md 1), arC cI 96 f1), ((md 2), arC cI 96 (z_7 2)), ((md 3), arC cI 96 (z_7 3)), ((md 4), arC cI 384 (z_7 4)), ((md 5), arC cI 96 (z_7 5)), ((md 6), arC cI 60 (z_7 6))] → va_S A s.heap H locs → ∀ ls, lv_has ls 5 [(0, .ref (md 0)), (3, .int i)] → W p l e rm_X5_builds s m args below meth c H locs 0 0 (MQ below (QV D (mdW cI md (p_X5_builds M a1 a2)) A) args s 0 0 A) (F0 m 74 ls []) := by
    intro fu
    induction fu with
    | zero => intro i f1 H locs hm; exact absurd hm.2 (Nat.lt_irrefl 0)
    | succ fu ih_74 =>
      intro i f1 H locs hm hi hq0 hP hD hS ls hl
      have hq0 : T74_f1 = (if (96 : Int32) ≤ i then f1 else (q_X5_builds_74 fu (i + (1 : Int32)) (upd f1 i.toNatClampNeg (0 : Int32)))) := hq0
      refine lv_iload_n hx hb dX5_builds_74 rfl (lv_at hl 1 rfl) ?_
      refine lv_bipush (v := (96 : Int32)) hx hb dX5_builds_75 (by decide) ?_
      refine lv_icmp_ge (tgt := 93) hx hb dX5_builds_77 (by decide) (fun c77 => ?_) (fun c77 => ?_)
      · have hq0 := hq0.trans (if_pos c77)
        exact K_74 _ _  (by rw [hq0]; exact hP) (by rw [hq0]; exact hD) hS ls (by exact lv_sub hl [0] rfl)
      · have hq0 := hq0.trans (if_neg c77)
        refine lv_aload_n hx hb dX5_builds_80 rfl (lv_at hl 0 rfl) ?_
        refine va_get (D := D) (ci := 5) (v := .ref (md 1)) (C := RX5) (T := TX5) (N := 14) hx hb hts inX5 hown hK.1 hP 0 rfl rfl 0 (by decide) (hts (.fieldLink RX5 7 "GrayPointersModel" "all" "[I") (List.mem_of_getElem? (i := 1) rfl)) (fun _ h9 => h9) rfl dX5_builds_81 ?_
        refine lv_iload_n hx hb dX5_builds_84 rfl (lv_at hl 1 rfl) ?_
        refine lv_iconst (v := (0 : Int32)) hx hb dX5_builds_85 (by decide) ?_
        refine va_iast hx hb hK.1 hP hD hS 1 0 rfl rfl (i := i) (x := (0 : Int32)) (vp_lt (n := 96) hi c77 (by decide)) dX5_builds_86 (fun H locs hP hD hS => ?_)
        have hP : va_P D vwCl [((md 0), mdC md (z_7 0)), ((md 1), arC cI 96 (upd f1 i.toNatClampNeg (0 : Int32))), ((md 2), arC cI 96 (z_7 2)), ((md 3), arC cI 96 (z_7 3)), ((md 4), arC cI 384 (z_7 4)), ((md 5), arC cI 96 (z_7 5)), ((md 6), arC cI 60 (z_7 6))] H := hP
        have hD : va_D A [((md 0), mdC md (z_7 0)), ((md 1), arC cI 96 (upd f1 i.toNatClampNeg (0 : Int32))), ((md 2), arC cI 96 (z_7 2)), ((md 3), arC cI 96 (z_7 3)), ((md 4), arC cI 384 (z_7 4)), ((md 5), arC cI 96 (z_7 5)), ((md 6), arC cI 60 (z_7 6))] := hD
        refine lv_iinc (v := (i + (1 : Int32))) (lv' := [(3, .int (i + (1 : Int32))), (0, .ref (md 0))]) hx hb dX5_builds_87 hl (k := 1) rfl rfl (by decide) rfl (fun ls hl => ?_)
        refine lv_goto (tgt := 74) hx hb dX5_builds_90 (by decide) ?_
        exact ih_74 (i + (1 : Int32)) (upd f1 i.toNatClampNeg (0 : Int32)) _ _ (cnt_step c77 hm) (inv_step c77 hi) hq0 hP hD hS ls (lv_sub hl [1, 0] rfl)
  exact L_74 _ (27 : Int32) (upd (upd (upd (upd (upd (upd (z_7 1) 5 (0 : Int32)) 6 (0 : Int32)) 7 (0 : Int32)) 8 (0 : Int32)) 9 (0 : Int32)) 10 (0 : Int32)) _ _ (cnt_init _ _) (by decide) hT74_f1 hP hD hS ls (lv_sub hl [2, 0] rfl)
def p_X5_remember (M : CS) : CS := ((fun (z_1 : F1) => ((fun (z_2 : CS) => z_2) (va_up M 2 z_1))) (p_X5_copy (M 1) (M 2)))
abbrev rm_X5_remember : Room := { frames := 1, cells := 0, slots := 0, locals := 22 }
set_option maxHeartbeats 4000000 in
set_option maxRecDepth 100000 in
theorem c_X5_remember (l : Launch) (D : va_G) (cI cC cS : ClassId) (md : Nat → Nat) (M : CS)  : CV l D cI cC cS yX5_remember wsX5_remember rm_X5_remember [.ref (md 0)] (mdW cI md M) (mdW cI md (p_X5_remember M))  := by
  intro sz
  refine startC (cc := cX5_remember) (maxL := 1) (ret := none) (by decide) rfl (Nat.le_of_ble_eq_true rfl) ?_
  intro p e s m args below meth c hx hb hml hsg hts hown hlocks hin hK A hA hS hP hD ls hl
  have hown : s.vm.findClass RX5 = some m.cls := hown
  have hl : lv_has ls 1 [(0, .ref (md 0))] := hl
  have hP : va_P D vwCl [((md 0), mdC md (M 0)), ((md 1), arC cI 96 (M 1)), ((md 2), arC cI 96 (M 2)), ((md 3), arC cI 96 (M 3)), ((md 4), arC cI 384 (M 4)), ((md 5), arC cI 96 (M 5)), ((md 6), arC cI 60 (M 6))] s.heap := hP
  have hD : va_D A [((md 0), mdC md (M 0)), ((md 1), arC cI 96 (M 1)), ((md 2), arC cI 96 (M 2)), ((md 3), arC cI 96 (M 3)), ((md 4), arC cI 384 (M 4)), ((md 5), arC cI 96 (M 5)), ((md 6), arC cI 60 (M 6))] := hD
  have inX5 : ∀ w ∈ wsX50, w ∈ wsX5_remember := fun _ h => List.mem_cons_of_mem _ (List.mem_append_right _ h)
  have hp : (p_X5_remember M) = ((fun (z_1 : F1) => ((fun (z_2 : CS) => z_2) (va_up M 2 z_1))) (p_X5_copy (M 1) (M 2))) := rfl
  refine lv_aload_n hx hb dX5_remember_0 rfl (lv_at hl 0 rfl) ?_
  refine va_get (D := D) (ci := 5) (v := .ref (md 1)) (C := RX5) (T := TX5) (N := 14) hx hb hts inX5 hown hK.1 hP 0 rfl rfl 0 (by decide) (hts (.fieldLink RX5 7 "GrayPointersModel" "all" "[I") (List.mem_of_getElem? (i := 1) rfl)) (fun _ h9 => h9) rfl dX5_remember_1 ?_
  refine lv_aload_n hx hb dX5_remember_4 rfl (lv_at hl 0 rfl) ?_
  refine va_get (D := D) (ci := 5) (v := .ref (md 2)) (C := RX5) (T := TX5) (N := 14) hx hb hts inX5 hown hK.1 hP 0 rfl rfl 1 (by decide) (hts (.fieldLink RX5 13 "GrayPointersModel" "kept" "[I") (List.mem_of_getElem? (i := 2) rfl)) (fun _ h9 => h9) rfl dX5_remember_5 ?_
  refine goV (n := 7) (ws' := [((md 0), mdC md (M 0)), ((md 1), arC cI 96 (M 1)), ((md 2), arC cI 96 (p_X5_copy (M 1) (M 2))), ((md 3), arC cI 96 (M 3)), ((md 4), arC cI 384 (M 4)), ((md 5), arC cI 96 (M 5)), ((md 6), arC cI 60 (M 6))]) (rs := [((md 0), mdC md (M 0)), ((md 3), arC cI 96 (M 3)), ((md 4), arC cI 384 (M 4)), ((md 5), arC cI 96 (M 5)), ((md 6), arC cI 60 (M 6))]) (va_runS (As := [.ref (md 1), .ref (md 2)]) (rest := []) ⟨hx, hb, hml, hown, hts⟩ (c_X5_copy l D cI cC cS (md 1) (md 2) (M 1) (M 2)  _) (va_cwS 2 hts gX5_remember_X5_copy rfl rfl rfl (by decide +kernel) ⟨Nat.le_of_ble_eq_true rfl, Nat.le_of_ble_eq_true rfl⟩) (preS hK hP hD [1, 2] (by decide) rfl) rfl rfl hl.1 rfl (lv_room (Nat.le_of_ble_eq_true rfl)) dX5_remember_8 ⟨Nat.zero_le _, Nat.zero_le _⟩) hP hD hS hA [1, 2] [0, 3, 4, 5, 6] rfl rfl rfl rfl rfl (by decide +kernel) (fstE (as := [(md 1), (md 2)]) rfl rfl) (fun H locs hP hD hS => ?_)
  obtain ⟨z_1, hz_1⟩ : ∃ z : F1, z = (p_X5_copy (M 1) (M 2)) := ⟨_, rfl⟩
  rw [← hz_1] at hP hD
  have hp : (p_X5_remember M) = ((fun (z_2 : CS) => z_2) (va_up M 2 z_1)) := by subst hz_1; exact hp
  obtain ⟨z_2, hz_2⟩ : ∃ z : CS, z = (va_up M 2 z_1) := ⟨_, rfl⟩
  have e0 : (z_2 0) = (M 0) := (congrFun hz_2 0).trans (va_up_n (by decide))
  have e1 : (z_2 1) = (M 1) := (congrFun hz_2 1).trans (va_up_n (by decide))
  have e2 : (z_2 2) = z_1 := (congrFun hz_2 2).trans va_up_s
  have e3 : (z_2 3) = (M 3) := (congrFun hz_2 3).trans (va_up_n (by decide))
  have e4 : (z_2 4) = (M 4) := (congrFun hz_2 4).trans (va_up_n (by decide))
  have e5 : (z_2 5) = (M 5) := (congrFun hz_2 5).trans (va_up_n (by decide))
  have e6 : (z_2 6) = (M 6) := (congrFun hz_2 6).trans (va_up_n (by decide))
  have hP : va_P D vwCl [((md 0), mdC md (z_2 0)), ((md 1), arC cI 96 (z_2 1)), ((md 2), arC cI 96 (z_2 2)), ((md 3), arC cI 96 (z_2 3)), ((md 4), arC cI 384 (z_2 4)), ((md 5), arC cI 96 (z_2 5)), ((md 6), arC cI 60 (z_2 6))] H := by rw [e0, e1, e2, e3, e4, e5, e6]; exact hP
  have hD : va_D A [((md 0), mdC md (z_2 0)), ((md 1), arC cI 96 (z_2 1)), ((md 2), arC cI 96 (z_2 2)), ((md 3), arC cI 96 (z_2 3)), ((md 4), arC cI 384 (z_2 4)), ((md 5), arC cI 96 (z_2 5)), ((md 6), arC cI 60 (z_2 6))] := by rw [e0, e1, e2, e3, e4, e5, e6]; exact hD
  clear e0 e1 e2 e3 e4 e5 e6
  have hp : (p_X5_remember M) = z_2 := by subst hz_2; exact hp
  exact endV hb hx hsg (by rw [hp]; exact hP) (by rw [hp]; exact hD) hS dX5_remember_11 hlocks
def q_X5_acted_10  : Nat → Int32 → F1 → F1
  | 0, _, h1 => h1
  | fu + 1, i, h1 => (if (288 : Int32) ≤ i then h1 else (q_X5_acted_10 fu (i + (1 : Int32)) (upd h1 i.toNatClampNeg (h1 (i + (96 : Int32)).toNatClampNeg))))
def q_X5_acted_50b (M : CS) : Nat → Int32 → F1 → F1
  | 0, _, h2 => h2
  | fu + 1, i, h2 => (if (96 : Int32) ≤ i then h2 else (q_X5_acted_50b M fu (i + (1 : Int32)) (upd h2 (((96 : Int32) * (((M 0) 4) - (1 : Int32))) + i).toNatClampNeg ((M 2) i.toNatClampNeg))))
def q_X5_acted_50 (M : CS) : Nat → Int32 → F1 → F1
  | 0, _, h2 => h2
  | fu + 1, i, h2 => (if (96 : Int32) ≤ i then h2 else (q_X5_acted_50 M fu (i + (1 : Int32)) (upd h2 (((96 : Int32) * ((M 0) 4)) + i).toNatClampNeg ((M 2) i.toNatClampNeg))))
def r_X5_acted (M : CS) (a1 : Int32) : Int32 := (if ((M 0) 4) = (4 : Int32) then ((fun (T10_h1 : F1) => ((fun (T50_h2 : F1) => ((fun (z_2 : CS) => a1) (va_up (va_up M 0 (upd (M 0) 4 ((((M 0) 4) - (1 : Int32)) + (1 : Int32)))) 4 T50_h2))) (q_X5_acted_50b M (((96 : Int32).toInt - (0 : Int32).toInt).toNat + 1) (0 : Int32) T10_h1))) (q_X5_acted_10 (((288 : Int32).toInt - (0 : Int32).toInt).toNat + 1) (0 : Int32) (M 4))) else ((fun (T50_h2 : F1) => ((fun (z_1 : CS) => a1) (va_up (va_up M 0 (upd (M 0) 4 (((M 0) 4) + (1 : Int32)))) 4 T50_h2))) (q_X5_acted_50 M (((96 : Int32).toInt - (0 : Int32).toInt).toNat + 1) (0 : Int32) (M 4))))
def p_X5_acted (M : CS) (a1 : Int32) : CS := (if ((M 0) 4) = (4 : Int32) then ((fun (T10_h1 : F1) => ((fun (T50_h2 : F1) => ((fun (z_2 : CS) => z_2) (va_up (va_up M 0 (upd (M 0) 4 ((((M 0) 4) - (1 : Int32)) + (1 : Int32)))) 4 T50_h2))) (q_X5_acted_50b M (((96 : Int32).toInt - (0 : Int32).toInt).toNat + 1) (0 : Int32) T10_h1))) (q_X5_acted_10 (((288 : Int32).toInt - (0 : Int32).toInt).toNat + 1) (0 : Int32) (M 4))) else ((fun (T50_h2 : F1) => ((fun (z_1 : CS) => z_1) (va_up (va_up M 0 (upd (M 0) 4 (((M 0) 4) + (1 : Int32)))) 4 T50_h2))) (q_X5_acted_50 M (((96 : Int32).toInt - (0 : Int32).toInt).toNat + 1) (0 : Int32) (M 4))))
abbrev rm_X5_acted : Room := { frames := 0, cells := 0, slots := 0, locals := 0 }
set_option maxHeartbeats 4000000 in
set_option maxRecDepth 100000 in
theorem c_X5_acted (l : Launch) (D : va_G) (cI cC cS : ClassId) (md : Nat → Nat) (M : CS) (a1 : Int32) (hHL : HL M) : CI l D cI cC cS yX5_acted wsX5_acted rm_X5_acted [.ref (md 0), .int a1] (mdW cI md M) (mdW cI md (p_X5_acted M a1)) (r_X5_acted M a1) := by
  intro sz
  refine startC (cc := cX5_acted) (maxL := 3) (ret := (some .int)) (by decide) rfl (Nat.le_of_ble_eq_true rfl) ?_
  intro p e s m args below meth c hx hb hml hsg hts hown hlocks hin hK A hA hS hP hD ls hl
  have hown : s.vm.findClass RX5 = some m.cls := hown
  have hl : lv_has ls 3 [(0, .ref (md 0)), (1, .int a1)] := hl
  have hP : va_P D vwCl [((md 0), mdC md (M 0)), ((md 1), arC cI 96 (M 1)), ((md 2), arC cI 96 (M 2)), ((md 3), arC cI 96 (M 3)), ((md 4), arC cI 384 (M 4)), ((md 5), arC cI 96 (M 5)), ((md 6), arC cI 60 (M 6))] s.heap := hP
  have hD : va_D A [((md 0), mdC md (M 0)), ((md 1), arC cI 96 (M 1)), ((md 2), arC cI 96 (M 2)), ((md 3), arC cI 96 (M 3)), ((md 4), arC cI 384 (M 4)), ((md 5), arC cI 96 (M 5)), ((md 6), arC cI 60 (M 6))] := hD
  have inX5 : ∀ w ∈ wsX50, w ∈ wsX5_acted := fun _ h => List.mem_cons_of_mem _ (List.mem_append_right _ h)
  have hr : (r_X5_acted M a1) = (if ((M 0) 4) = (4 : Int32) then ((fun (T10_h1 : F1) => ((fun (T50_h2 : F1) => ((fun (z_2 : CS) => a1) (va_up (va_up M 0 (upd (M 0) 4 ((((M 0) 4) - (1 : Int32)) + (1 : Int32)))) 4 T50_h2))) (q_X5_acted_50b M (((96 : Int32).toInt - (0 : Int32).toInt).toNat + 1) (0 : Int32) T10_h1))) (q_X5_acted_10 (((288 : Int32).toInt - (0 : Int32).toInt).toNat + 1) (0 : Int32) (M 4))) else ((fun (T50_h2 : F1) => ((fun (z_1 : CS) => a1) (va_up (va_up M 0 (upd (M 0) 4 (((M 0) 4) + (1 : Int32)))) 4 T50_h2))) (q_X5_acted_50 M (((96 : Int32).toInt - (0 : Int32).toInt).toNat + 1) (0 : Int32) (M 4)))) := rfl
  have hp : (p_X5_acted M a1) = (if ((M 0) 4) = (4 : Int32) then ((fun (T10_h1 : F1) => ((fun (T50_h2 : F1) => ((fun (z_2 : CS) => z_2) (va_up (va_up M 0 (upd (M 0) 4 ((((M 0) 4) - (1 : Int32)) + (1 : Int32)))) 4 T50_h2))) (q_X5_acted_50b M (((96 : Int32).toInt - (0 : Int32).toInt).toNat + 1) (0 : Int32) T10_h1))) (q_X5_acted_10 (((288 : Int32).toInt - (0 : Int32).toInt).toNat + 1) (0 : Int32) (M 4))) else ((fun (T50_h2 : F1) => ((fun (z_1 : CS) => z_1) (va_up (va_up M 0 (upd (M 0) 4 (((M 0) 4) + (1 : Int32)))) 4 T50_h2))) (q_X5_acted_50 M (((96 : Int32).toInt - (0 : Int32).toInt).toNat + 1) (0 : Int32) (M 4)))) := rfl
  refine lv_aload_n hx hb dX5_acted_0 rfl (lv_at hl 0 rfl) ?_
  refine va_get (D := D) (ci := 5) (v := .int ((M 0) 4)) (C := RX5) (T := TX5) (N := 14) hx hb hts inX5 hown hK.1 hP 0 rfl rfl 4 (by decide) (hts (.fieldLink RX5 36 "GrayPointersModel" "historyLong" "I") (List.mem_of_getElem? (i := 1) rfl)) (fun _ h9 => h9) rfl dX5_acted_1 ?_
  refine lv_iconst (v := (4 : Int32)) hx hb dX5_acted_4 (by decide) ?_
  refine lv_icmp_ne (tgt := 48) hx hb dX5_acted_5 (by decide) (fun c5 => ?_) (fun c5 => ?_)
  · have hr := hr.trans (if_neg c5)
    have hp := hp.trans (if_neg c5)
    refine lv_iconst (v := (0 : Int32)) hx hb dX5_acted_48 (by decide) ?_
    refine lv_istore_n (lv' := [(2, .int (0 : Int32)), (0, .ref (md 0)), (1, .int a1)]) hx hb dX5_acted_49 rfl hl (by decide) rfl (fun ls hl => ?_)
    obtain ⟨T50_h2, hT50_h2⟩ : ∃ T : F1, T = (q_X5_acted_50 M (((96 : Int32).toInt - (0 : Int32).toInt).toNat + 1) (0 : Int32) (M 4)) := ⟨_, rfl⟩
    have K_50 : ∀ (H : Heap) (locs : List Loc), va_P D vwCl [((md 0), mdC md (M 0)), ((md 1), arC cI 96 (M 1)), ((md 2), arC cI 96 (M 2)), ((md 3), arC cI 96 (M 3)), ((md 4), arC cI 384 T50_h2), ((md 5), arC cI 96 (M 5)), ((md 6), arC cI 60 (M 6))] H → va_D A [((md 0), mdC md (M 0)), ((md 1), arC cI 96 (M 1)), ((md 2), arC cI 96 (M 2)), ((md 3), arC cI 96 (M 3)), ((md 4), arC cI 384 T50_h2), ((md 5), arC cI 96 (M 5)), ((md 6), arC cI 60 (M 6))] → va_S A s.heap H locs → ∀ ls, lv_has ls 3 [(0, .ref (md 0)), (1, .int a1)] → W p l e rm_X5_acted s m args below meth c H locs 0 0 (MQ below (QI D (mdW cI md (p_X5_acted M a1)) (r_X5_acted M a1) A) args s 0 0 A) (F0 m 82 ls []) := by
      intro H locs  hP hD hS ls hl
      have hr : (r_X5_acted M a1) = ((fun (z_1 : CS) => a1) (va_up (va_up M 0 (upd (M 0) 4 (((M 0) 4) + (1 : Int32)))) 4 T50_h2)) := by subst hT50_h2; exact hr
      have hp : (p_X5_acted M a1) = ((fun (z_1 : CS) => z_1) (va_up (va_up M 0 (upd (M 0) 4 (((M 0) 4) + (1 : Int32)))) 4 T50_h2)) := by subst hT50_h2; exact hp
      refine lv_aload_n hx hb dX5_acted_82 rfl (lv_at hl 0 rfl) ?_
      refine lv_dup hx hb dX5_acted_83 rfl ?_
      refine va_get (D := D) (ci := 5) (v := .int ((M 0) 4)) (C := RX5) (T := TX5) (N := 14) hx hb hts inX5 hown hK.1 hP 0 rfl rfl 4 (by decide) (hts (.fieldLink RX5 36 "GrayPointersModel" "historyLong" "I") (List.mem_of_getElem? (i := 1) rfl)) (fun _ h9 => h9) rfl dX5_acted_84 ?_
      refine lv_iconst (v := (1 : Int32)) hx hb dX5_acted_87 (by decide) ?_
      refine lv_iadd hx hb dX5_acted_88 ?_
      refine va_put (D := D) (ci := 5) (v := .int (((M 0) 4) + (1 : Int32))) (ty := .int) (C := RX5) (T := TX5) (N := 14) hx hb hts inX5 tyX5 tyX5_ok nmX5 hown hK.1 hP hD hS 0 rfl rfl 4 (by decide) (hts (.fieldLink RX5 36 "GrayPointersModel" "historyLong" "I") (List.mem_of_getElem? (i := 1) rfl)) (fun _ h9 => h9) rfl (by decide +kernel) rfl rfl (Nat.le_of_ble_eq_true rfl) dX5_acted_89 (fun H locs hP hD hS => ?_)
      have hP : va_P D vwCl [((md 0), mdC md (upd (M 0) 4 (((M 0) 4) + (1 : Int32)))), ((md 1), arC cI 96 (M 1)), ((md 2), arC cI 96 (M 2)), ((md 3), arC cI 96 (M 3)), ((md 4), arC cI 384 T50_h2), ((md 5), arC cI 96 (M 5)), ((md 6), arC cI 60 (M 6))] H := hP
      have hD : va_D A [((md 0), mdC md (upd (M 0) 4 (((M 0) 4) + (1 : Int32)))), ((md 1), arC cI 96 (M 1)), ((md 2), arC cI 96 (M 2)), ((md 3), arC cI 96 (M 3)), ((md 4), arC cI 384 T50_h2), ((md 5), arC cI 96 (M 5)), ((md 6), arC cI 60 (M 6))] := hD
      refine lv_iload_n hx hb dX5_acted_92 rfl (lv_at hl 1 rfl) ?_
      obtain ⟨z_1, hz_1⟩ : ∃ z : CS, z = (va_up (va_up M 0 (upd (M 0) 4 (((M 0) 4) + (1 : Int32)))) 4 T50_h2) := ⟨_, rfl⟩
      have e0 : (z_1 0) = (upd (M 0) 4 (((M 0) 4) + (1 : Int32))) := (congrFun hz_1 0).trans ((va_up_n (by decide)).trans va_up_s)
      have e1 : (z_1 1) = (M 1) := (congrFun hz_1 1).trans ((va_up_n (by decide)).trans (va_up_n (by decide)))
      have e2 : (z_1 2) = (M 2) := (congrFun hz_1 2).trans ((va_up_n (by decide)).trans (va_up_n (by decide)))
      have e3 : (z_1 3) = (M 3) := (congrFun hz_1 3).trans ((va_up_n (by decide)).trans (va_up_n (by decide)))
      have e4 : (z_1 4) = T50_h2 := (congrFun hz_1 4).trans va_up_s
      have e5 : (z_1 5) = (M 5) := (congrFun hz_1 5).trans ((va_up_n (by decide)).trans (va_up_n (by decide)))
      have e6 : (z_1 6) = (M 6) := (congrFun hz_1 6).trans ((va_up_n (by decide)).trans (va_up_n (by decide)))
      have hP : va_P D vwCl [((md 0), mdC md (z_1 0)), ((md 1), arC cI 96 (z_1 1)), ((md 2), arC cI 96 (z_1 2)), ((md 3), arC cI 96 (z_1 3)), ((md 4), arC cI 384 (z_1 4)), ((md 5), arC cI 96 (z_1 5)), ((md 6), arC cI 60 (z_1 6))] H := by rw [e0, e1, e2, e3, e4, e5, e6]; exact hP
      have hD : va_D A [((md 0), mdC md (z_1 0)), ((md 1), arC cI 96 (z_1 1)), ((md 2), arC cI 96 (z_1 2)), ((md 3), arC cI 96 (z_1 3)), ((md 4), arC cI 384 (z_1 4)), ((md 5), arC cI 96 (z_1 5)), ((md 6), arC cI 60 (z_1 6))] := by rw [e0, e1, e2, e3, e4, e5, e6]; exact hD
      clear e0 e1 e2 e3 e4 e5 e6
      have hr : (r_X5_acted M a1) = a1 := by subst hz_1; exact hr
      have hp : (p_X5_acted M a1) = z_1 := by subst hz_1; exact hp
      exact endI (v := a1) hb hx hsg hr.symm (by rw [hp]; exact hP) (by rw [hp]; exact hD) hS dX5_acted_93 hlocks
    have L_50 : ∀ (fu : Nat) (i : Int32) (h2 : F1) (H : Heap) (locs : List Loc), ((96 : Int32).toInt - i.toInt < (fu : Int) ∧ 0 < fu) → 0 ≤ i.toInt → T50_h2 = (q_X5_acted_50 M fu i h2) → va_P D vwCl [((md 0), mdC md (M 0)), ((md 1), arC cI 96 (M 1)), ((md 2), arC cI 96 (M 2)), ((md 3), arC cI 96 (M 3)), ((md 4), arC cI 384 h2), ((md 5), arC cI 96 (M 5)), ((md 6), arC cI 60 (M 6))] H → va_D A [((md 0), mdC md (M 0)), ((md 1), arC cI 96 (M 1)), ((md 2), arC cI 96 (M 2)), ((md 3), arC cI 96 (M 3)), ((md 4), arC cI 384 h2), ((md 5), arC cI 96 (M 5)), ((md 6), arC cI 60 (M 6))] → va_S A s.heap H locs → ∀ ls, lv_has ls 3 [(0, .ref (md 0)), (1, .int a1), (2, .int i)] → W p l e rm_X5_acted s m args below meth c H locs 0 0 (MQ below (QI D (mdW cI md (p_X5_acted M a1)) (r_X5_acted M a1) A) args s 0 0 A) (F0 m 50 ls []) := by
      intro fu
      induction fu with
      | zero => intro i h2 H locs hm; exact absurd hm.2 (Nat.lt_irrefl 0)
      | succ fu ih_50 =>
        intro i h2 H locs hm hi hq0 hP hD hS ls hl
        have hq0 : T50_h2 = (if (96 : Int32) ≤ i then h2 else (q_X5_acted_50 M fu (i + (1 : Int32)) (upd h2 (((96 : Int32) * ((M 0) 4)) + i).toNatClampNeg ((M 2) i.toNatClampNeg)))) := hq0
        refine lv_iload_n hx hb dX5_acted_50 rfl (lv_at hl 2 rfl) ?_
        refine lv_bipush (v := (96 : Int32)) hx hb dX5_acted_51 (by decide) ?_
        refine lv_icmp_ge (tgt := 82) hx hb dX5_acted_53 (by decide) (fun c53 => ?_) (fun c53 => ?_)
        · have hq0 := hq0.trans (if_pos c53)
          exact K_50 _ _  (by rw [hq0]; exact hP) (by rw [hq0]; exact hD) hS ls (by exact lv_sub hl [0, 1] rfl)
        · have hq0 := hq0.trans (if_neg c53)
          refine lv_aload_n hx hb dX5_acted_56 rfl (lv_at hl 0 rfl) ?_
          refine va_get (D := D) (ci := 5) (v := .ref (md 4)) (C := RX5) (T := TX5) (N := 14) hx hb hts inX5 hown hK.1 hP 0 rfl rfl 3 (by decide) (hts (.fieldLink RX5 19 "GrayPointersModel" "history" "[I") (List.mem_of_getElem? (i := 2) rfl)) (fun _ h9 => h9) rfl dX5_acted_57 ?_
          refine lv_bipush (v := (96 : Int32)) hx hb dX5_acted_60 (by decide) ?_
          refine lv_aload_n hx hb dX5_acted_62 rfl (lv_at hl 0 rfl) ?_
          refine va_get (D := D) (ci := 5) (v := .int ((M 0) 4)) (C := RX5) (T := TX5) (N := 14) hx hb hts inX5 hown hK.1 hP 0 rfl rfl 4 (by decide) (hts (.fieldLink RX5 36 "GrayPointersModel" "historyLong" "I") (List.mem_of_getElem? (i := 1) rfl)) (fun _ h9 => h9) rfl dX5_acted_63 ?_
          refine lv_imul hx hb dX5_acted_66 ?_
          refine lv_iload_n hx hb dX5_acted_67 rfl (lv_at hl 2 rfl) ?_
          refine lv_iadd hx hb dX5_acted_68 ?_
          refine lv_aload_n hx hb dX5_acted_69 rfl (lv_at hl 0 rfl) ?_
          refine va_get (D := D) (ci := 5) (v := .ref (md 2)) (C := RX5) (T := TX5) (N := 14) hx hb hts inX5 hown hK.1 hP 0 rfl rfl 1 (by decide) (hts (.fieldLink RX5 13 "GrayPointersModel" "kept" "[I") (List.mem_of_getElem? (i := 3) rfl)) (fun _ h9 => h9) rfl dX5_acted_70 ?_
          refine lv_iload_n hx hb dX5_acted_73 rfl (lv_at hl 2 rfl) ?_
          refine va_iald hx hb hK.1 hP 2 0 rfl rfl (i := i) (vp_lt (n := 96) hi c53 (by decide)) dX5_acted_74 ?_
          refine va_iast hx hb hK.1 hP hD hS 4 0 rfl rfl (i := (((96 : Int32) * ((M 0) 4)) + i)) (x := ((M 2) i.toNatClampNeg)) (act_b hHL c5 hi c53) dX5_acted_75 (fun H locs hP hD hS => ?_)
          have hP : va_P D vwCl [((md 0), mdC md (M 0)), ((md 1), arC cI 96 (M 1)), ((md 2), arC cI 96 (M 2)), ((md 3), arC cI 96 (M 3)), ((md 4), arC cI 384 (upd h2 (((96 : Int32) * ((M 0) 4)) + i).toNatClampNeg ((M 2) i.toNatClampNeg))), ((md 5), arC cI 96 (M 5)), ((md 6), arC cI 60 (M 6))] H := hP
          have hD : va_D A [((md 0), mdC md (M 0)), ((md 1), arC cI 96 (M 1)), ((md 2), arC cI 96 (M 2)), ((md 3), arC cI 96 (M 3)), ((md 4), arC cI 384 (upd h2 (((96 : Int32) * ((M 0) 4)) + i).toNatClampNeg ((M 2) i.toNatClampNeg))), ((md 5), arC cI 96 (M 5)), ((md 6), arC cI 60 (M 6))] := hD
          refine lv_iinc (v := (i + (1 : Int32))) (lv' := [(2, .int (i + (1 : Int32))), (0, .ref (md 0)), (1, .int a1)]) hx hb dX5_acted_76 hl (k := 2) rfl rfl (by decide) rfl (fun ls hl => ?_)
          refine lv_goto (tgt := 50) hx hb dX5_acted_79 (by decide) ?_
          exact ih_50 (i + (1 : Int32)) (upd h2 (((96 : Int32) * ((M 0) 4)) + i).toNatClampNeg ((M 2) i.toNatClampNeg)) _ _ (cnt_step c53 hm) (inv_step c53 hi) hq0 hP hD hS ls (lv_sub hl [1, 2, 0] rfl)
    exact L_50 _ (0 : Int32) (M 4) _ _ (cnt_init _ _) (by decide) hT50_h2 hP hD hS ls (lv_sub hl [1, 2, 0] rfl)
  · have hr := hr.trans (if_pos c5)
    have hp := hp.trans (if_pos c5)
    refine lv_iconst (v := (0 : Int32)) hx hb dX5_acted_8 (by decide) ?_
    refine lv_istore_n (lv' := [(2, .int (0 : Int32)), (0, .ref (md 0)), (1, .int a1)]) hx hb dX5_acted_9 rfl hl (by decide) rfl (fun ls hl => ?_)
    obtain ⟨T10_h1, hT10_h1⟩ : ∃ T : F1, T = (q_X5_acted_10 (((288 : Int32).toInt - (0 : Int32).toInt).toNat + 1) (0 : Int32) (M 4)) := ⟨_, rfl⟩
    have K_10 : ∀ (H : Heap) (locs : List Loc), va_P D vwCl [((md 0), mdC md (M 0)), ((md 1), arC cI 96 (M 1)), ((md 2), arC cI 96 (M 2)), ((md 3), arC cI 96 (M 3)), ((md 4), arC cI 384 T10_h1), ((md 5), arC cI 96 (M 5)), ((md 6), arC cI 60 (M 6))] H → va_D A [((md 0), mdC md (M 0)), ((md 1), arC cI 96 (M 1)), ((md 2), arC cI 96 (M 2)), ((md 3), arC cI 96 (M 3)), ((md 4), arC cI 384 T10_h1), ((md 5), arC cI 96 (M 5)), ((md 6), arC cI 60 (M 6))] → va_S A s.heap H locs → ∀ ls, lv_has ls 3 [(0, .ref (md 0)), (1, .int a1)] → W p l e rm_X5_acted s m args below meth c H locs 0 0 (MQ below (QI D (mdW cI md (p_X5_acted M a1)) (r_X5_acted M a1) A) args s 0 0 A) (F0 m 38 ls []) := by
      intro H locs  hP hD hS ls hl
      have hr : (r_X5_acted M a1) = ((fun (T50_h2 : F1) => ((fun (z_2 : CS) => a1) (va_up (va_up M 0 (upd (M 0) 4 ((((M 0) 4) - (1 : Int32)) + (1 : Int32)))) 4 T50_h2))) (q_X5_acted_50b M (((96 : Int32).toInt - (0 : Int32).toInt).toNat + 1) (0 : Int32) T10_h1)) := by subst hT10_h1; exact hr
      have hp : (p_X5_acted M a1) = ((fun (T50_h2 : F1) => ((fun (z_2 : CS) => z_2) (va_up (va_up M 0 (upd (M 0) 4 ((((M 0) 4) - (1 : Int32)) + (1 : Int32)))) 4 T50_h2))) (q_X5_acted_50b M (((96 : Int32).toInt - (0 : Int32).toInt).toNat + 1) (0 : Int32) T10_h1)) := by subst hT10_h1; exact hp
      refine lv_aload_n hx hb dX5_acted_38 rfl (lv_at hl 0 rfl) ?_
      refine lv_dup hx hb dX5_acted_39 rfl ?_
      refine va_get (D := D) (ci := 5) (v := .int ((M 0) 4)) (C := RX5) (T := TX5) (N := 14) hx hb hts inX5 hown hK.1 hP 0 rfl rfl 4 (by decide) (hts (.fieldLink RX5 36 "GrayPointersModel" "historyLong" "I") (List.mem_of_getElem? (i := 1) rfl)) (fun _ h9 => h9) rfl dX5_acted_40 ?_
      refine lv_iconst (v := (1 : Int32)) hx hb dX5_acted_43 (by decide) ?_
      refine lv_isub hx hb dX5_acted_44 ?_
      refine va_put (D := D) (ci := 5) (v := .int (((M 0) 4) - (1 : Int32))) (ty := .int) (C := RX5) (T := TX5) (N := 14) hx hb hts inX5 tyX5 tyX5_ok nmX5 hown hK.1 hP hD hS 0 rfl rfl 4 (by decide) (hts (.fieldLink RX5 36 "GrayPointersModel" "historyLong" "I") (List.mem_of_getElem? (i := 1) rfl)) (fun _ h9 => h9) rfl (by decide +kernel) rfl rfl (Nat.le_of_ble_eq_true rfl) dX5_acted_45 (fun H locs hP hD hS => ?_)
      have hP : va_P D vwCl [((md 0), mdC md (upd (M 0) 4 (((M 0) 4) - (1 : Int32)))), ((md 1), arC cI 96 (M 1)), ((md 2), arC cI 96 (M 2)), ((md 3), arC cI 96 (M 3)), ((md 4), arC cI 384 T10_h1), ((md 5), arC cI 96 (M 5)), ((md 6), arC cI 60 (M 6))] H := hP
      have hD : va_D A [((md 0), mdC md (upd (M 0) 4 (((M 0) 4) - (1 : Int32)))), ((md 1), arC cI 96 (M 1)), ((md 2), arC cI 96 (M 2)), ((md 3), arC cI 96 (M 3)), ((md 4), arC cI 384 T10_h1), ((md 5), arC cI 96 (M 5)), ((md 6), arC cI 60 (M 6))] := hD
      refine lv_iconst (v := (0 : Int32)) hx hb dX5_acted_48 (by decide) ?_
      refine lv_istore_n (lv' := [(2, .int (0 : Int32)), (0, .ref (md 0)), (1, .int a1)]) hx hb dX5_acted_49 rfl hl (by decide) rfl (fun ls hl => ?_)
      obtain ⟨T50_h2, hT50_h2⟩ : ∃ T : F1, T = (q_X5_acted_50b M (((96 : Int32).toInt - (0 : Int32).toInt).toNat + 1) (0 : Int32) T10_h1) := ⟨_, rfl⟩
      have K_50 : ∀ (H : Heap) (locs : List Loc), va_P D vwCl [((md 0), mdC md (upd (M 0) 4 (((M 0) 4) - (1 : Int32)))), ((md 1), arC cI 96 (M 1)), ((md 2), arC cI 96 (M 2)), ((md 3), arC cI 96 (M 3)), ((md 4), arC cI 384 T50_h2), ((md 5), arC cI 96 (M 5)), ((md 6), arC cI 60 (M 6))] H → va_D A [((md 0), mdC md (upd (M 0) 4 (((M 0) 4) - (1 : Int32)))), ((md 1), arC cI 96 (M 1)), ((md 2), arC cI 96 (M 2)), ((md 3), arC cI 96 (M 3)), ((md 4), arC cI 384 T50_h2), ((md 5), arC cI 96 (M 5)), ((md 6), arC cI 60 (M 6))] → va_S A s.heap H locs → ∀ ls, lv_has ls 3 [(0, .ref (md 0)), (1, .int a1)] → W p l e rm_X5_acted s m args below meth c H locs 0 0 (MQ below (QI D (mdW cI md (p_X5_acted M a1)) (r_X5_acted M a1) A) args s 0 0 A) (F0 m 82 ls []) := by
        intro H locs  hP hD hS ls hl
        have hr : (r_X5_acted M a1) = ((fun (z_2 : CS) => a1) (va_up (va_up M 0 (upd (M 0) 4 ((((M 0) 4) - (1 : Int32)) + (1 : Int32)))) 4 T50_h2)) := by subst hT50_h2; exact hr
        have hp : (p_X5_acted M a1) = ((fun (z_2 : CS) => z_2) (va_up (va_up M 0 (upd (M 0) 4 ((((M 0) 4) - (1 : Int32)) + (1 : Int32)))) 4 T50_h2)) := by subst hT50_h2; exact hp
        refine lv_aload_n hx hb dX5_acted_82 rfl (lv_at hl 0 rfl) ?_
        refine lv_dup hx hb dX5_acted_83 rfl ?_
        refine va_get (D := D) (ci := 5) (v := .int (((M 0) 4) - (1 : Int32))) (C := RX5) (T := TX5) (N := 14) hx hb hts inX5 hown hK.1 hP 0 rfl rfl 4 (by decide) (hts (.fieldLink RX5 36 "GrayPointersModel" "historyLong" "I") (List.mem_of_getElem? (i := 1) rfl)) (fun _ h9 => h9) rfl dX5_acted_84 ?_
        refine lv_iconst (v := (1 : Int32)) hx hb dX5_acted_87 (by decide) ?_
        refine lv_iadd hx hb dX5_acted_88 ?_
        refine va_put (D := D) (ci := 5) (v := .int ((((M 0) 4) - (1 : Int32)) + (1 : Int32))) (ty := .int) (C := RX5) (T := TX5) (N := 14) hx hb hts inX5 tyX5 tyX5_ok nmX5 hown hK.1 hP hD hS 0 rfl rfl 4 (by decide) (hts (.fieldLink RX5 36 "GrayPointersModel" "historyLong" "I") (List.mem_of_getElem? (i := 1) rfl)) (fun _ h9 => h9) rfl (by decide +kernel) rfl rfl (Nat.le_of_ble_eq_true rfl) dX5_acted_89 (fun H locs hP hD hS => ?_)
        have hP : va_P D vwCl [((md 0), mdC md (upd (M 0) 4 ((((M 0) 4) - (1 : Int32)) + (1 : Int32)))), ((md 1), arC cI 96 (M 1)), ((md 2), arC cI 96 (M 2)), ((md 3), arC cI 96 (M 3)), ((md 4), arC cI 384 T50_h2), ((md 5), arC cI 96 (M 5)), ((md 6), arC cI 60 (M 6))] H := hP
        have hD : va_D A [((md 0), mdC md (upd (M 0) 4 ((((M 0) 4) - (1 : Int32)) + (1 : Int32)))), ((md 1), arC cI 96 (M 1)), ((md 2), arC cI 96 (M 2)), ((md 3), arC cI 96 (M 3)), ((md 4), arC cI 384 T50_h2), ((md 5), arC cI 96 (M 5)), ((md 6), arC cI 60 (M 6))] := hD
        refine lv_iload_n hx hb dX5_acted_92 rfl (lv_at hl 1 rfl) ?_
        obtain ⟨z_2, hz_2⟩ : ∃ z : CS, z = (va_up (va_up M 0 (upd (M 0) 4 ((((M 0) 4) - (1 : Int32)) + (1 : Int32)))) 4 T50_h2) := ⟨_, rfl⟩
        have e0 : (z_2 0) = (upd (M 0) 4 ((((M 0) 4) - (1 : Int32)) + (1 : Int32))) := (congrFun hz_2 0).trans ((va_up_n (by decide)).trans va_up_s)
        have e1 : (z_2 1) = (M 1) := (congrFun hz_2 1).trans ((va_up_n (by decide)).trans (va_up_n (by decide)))
        have e2 : (z_2 2) = (M 2) := (congrFun hz_2 2).trans ((va_up_n (by decide)).trans (va_up_n (by decide)))
        have e3 : (z_2 3) = (M 3) := (congrFun hz_2 3).trans ((va_up_n (by decide)).trans (va_up_n (by decide)))
        have e4 : (z_2 4) = T50_h2 := (congrFun hz_2 4).trans va_up_s
        have e5 : (z_2 5) = (M 5) := (congrFun hz_2 5).trans ((va_up_n (by decide)).trans (va_up_n (by decide)))
        have e6 : (z_2 6) = (M 6) := (congrFun hz_2 6).trans ((va_up_n (by decide)).trans (va_up_n (by decide)))
        have hP : va_P D vwCl [((md 0), mdC md (z_2 0)), ((md 1), arC cI 96 (z_2 1)), ((md 2), arC cI 96 (z_2 2)), ((md 3), arC cI 96 (z_2 3)), ((md 4), arC cI 384 (z_2 4)), ((md 5), arC cI 96 (z_2 5)), ((md 6), arC cI 60 (z_2 6))] H := by rw [e0, e1, e2, e3, e4, e5, e6]; exact hP
        have hD : va_D A [((md 0), mdC md (z_2 0)), ((md 1), arC cI 96 (z_2 1)), ((md 2), arC cI 96 (z_2 2)), ((md 3), arC cI 96 (z_2 3)), ((md 4), arC cI 384 (z_2 4)), ((md 5), arC cI 96 (z_2 5)), ((md 6), arC cI 60 (z_2 6))] := by rw [e0, e1, e2, e3, e4, e5, e6]; exact hD
        clear e0 e1 e2 e3 e4 e5 e6
        have hr : (r_X5_acted M a1) = a1 := by subst hz_2; exact hr
        have hp : (p_X5_acted M a1) = z_2 := by subst hz_2; exact hp
        exact endI (v := a1) hb hx hsg hr.symm (by rw [hp]; exact hP) (by rw [hp]; exact hD) hS dX5_acted_93 hlocks
      have L_50 : ∀ (fu : Nat) (i : Int32) (h2 : F1) (H : Heap) (locs : List Loc), ((96 : Int32).toInt - i.toInt < (fu : Int) ∧ 0 < fu) → 0 ≤ i.toInt → T50_h2 = (q_X5_acted_50b M fu i h2) → va_P D vwCl [((md 0), mdC md (upd (M 0) 4 (((M 0) 4) - (1 : Int32)))), ((md 1), arC cI 96 (M 1)), ((md 2), arC cI 96 (M 2)), ((md 3), arC cI 96 (M 3)), ((md 4), arC cI 384 h2), ((md 5), arC cI 96 (M 5)), ((md 6), arC cI 60 (M 6))] H → va_D A [((md 0), mdC md (upd (M 0) 4 (((M 0) 4) - (1 : Int32)))), ((md 1), arC cI 96 (M 1)), ((md 2), arC cI 96 (M 2)), ((md 3), arC cI 96 (M 3)), ((md 4), arC cI 384 h2), ((md 5), arC cI 96 (M 5)), ((md 6), arC cI 60 (M 6))] → va_S A s.heap H locs → ∀ ls, lv_has ls 3 [(0, .ref (md 0)), (1, .int a1), (2, .int i)] → W p l e rm_X5_acted s m args below meth c H locs 0 0 (MQ below (QI D (mdW cI md (p_X5_acted M a1)) (r_X5_acted M a1) A) args s 0 0 A) (F0 m 50 ls []) := by
        intro fu
        induction fu with
        | zero => intro i h2 H locs hm; exact absurd hm.2 (Nat.lt_irrefl 0)
        | succ fu ih_50 =>
          intro i h2 H locs hm hi hq0 hP hD hS ls hl
          have hq0 : T50_h2 = (if (96 : Int32) ≤ i then h2 else (q_X5_acted_50b M fu (i + (1 : Int32)) (upd h2 (((96 : Int32) * (((M 0) 4) - (1 : Int32))) + i).toNatClampNeg ((M 2) i.toNatClampNeg)))) := hq0
          refine lv_iload_n hx hb dX5_acted_50 rfl (lv_at hl 2 rfl) ?_
          refine lv_bipush (v := (96 : Int32)) hx hb dX5_acted_51 (by decide) ?_
          refine lv_icmp_ge (tgt := 82) hx hb dX5_acted_53 (by decide) (fun c53 => ?_) (fun c53 => ?_)
          · have hq0 := hq0.trans (if_pos c53)
            exact K_50 _ _  (by rw [hq0]; exact hP) (by rw [hq0]; exact hD) hS ls (by exact lv_sub hl [0, 1] rfl)
          · have hq0 := hq0.trans (if_neg c53)
            refine lv_aload_n hx hb dX5_acted_56 rfl (lv_at hl 0 rfl) ?_
            refine va_get (D := D) (ci := 5) (v := .ref (md 4)) (C := RX5) (T := TX5) (N := 14) hx hb hts inX5 hown hK.1 hP 0 rfl rfl 3 (by decide) (hts (.fieldLink RX5 19 "GrayPointersModel" "history" "[I") (List.mem_of_getElem? (i := 2) rfl)) (fun _ h9 => h9) rfl dX5_acted_57 ?_
            refine lv_bipush (v := (96 : Int32)) hx hb dX5_acted_60 (by decide) ?_
            refine lv_aload_n hx hb dX5_acted_62 rfl (lv_at hl 0 rfl) ?_
            refine va_get (D := D) (ci := 5) (v := .int (((M 0) 4) - (1 : Int32))) (C := RX5) (T := TX5) (N := 14) hx hb hts inX5 hown hK.1 hP 0 rfl rfl 4 (by decide) (hts (.fieldLink RX5 36 "GrayPointersModel" "historyLong" "I") (List.mem_of_getElem? (i := 1) rfl)) (fun _ h9 => h9) rfl dX5_acted_63 ?_
            refine lv_imul hx hb dX5_acted_66 ?_
            refine lv_iload_n hx hb dX5_acted_67 rfl (lv_at hl 2 rfl) ?_
            refine lv_iadd hx hb dX5_acted_68 ?_
            refine lv_aload_n hx hb dX5_acted_69 rfl (lv_at hl 0 rfl) ?_
            refine va_get (D := D) (ci := 5) (v := .ref (md 2)) (C := RX5) (T := TX5) (N := 14) hx hb hts inX5 hown hK.1 hP 0 rfl rfl 1 (by decide) (hts (.fieldLink RX5 13 "GrayPointersModel" "kept" "[I") (List.mem_of_getElem? (i := 3) rfl)) (fun _ h9 => h9) rfl dX5_acted_70 ?_
            refine lv_iload_n hx hb dX5_acted_73 rfl (lv_at hl 2 rfl) ?_
            refine va_iald hx hb hK.1 hP 2 0 rfl rfl (i := i) (vp_lt (n := 96) hi c53 (by decide)) dX5_acted_74 ?_
            refine va_iast hx hb hK.1 hP hD hS 4 0 rfl rfl (i := (((96 : Int32) * (((M 0) 4) - (1 : Int32))) + i)) (x := ((M 2) i.toNatClampNeg)) (act_a hHL c5 hi c53) dX5_acted_75 (fun H locs hP hD hS => ?_)
            have hP : va_P D vwCl [((md 0), mdC md (upd (M 0) 4 (((M 0) 4) - (1 : Int32)))), ((md 1), arC cI 96 (M 1)), ((md 2), arC cI 96 (M 2)), ((md 3), arC cI 96 (M 3)), ((md 4), arC cI 384 (upd h2 (((96 : Int32) * (((M 0) 4) - (1 : Int32))) + i).toNatClampNeg ((M 2) i.toNatClampNeg))), ((md 5), arC cI 96 (M 5)), ((md 6), arC cI 60 (M 6))] H := hP
            have hD : va_D A [((md 0), mdC md (upd (M 0) 4 (((M 0) 4) - (1 : Int32)))), ((md 1), arC cI 96 (M 1)), ((md 2), arC cI 96 (M 2)), ((md 3), arC cI 96 (M 3)), ((md 4), arC cI 384 (upd h2 (((96 : Int32) * (((M 0) 4) - (1 : Int32))) + i).toNatClampNeg ((M 2) i.toNatClampNeg))), ((md 5), arC cI 96 (M 5)), ((md 6), arC cI 60 (M 6))] := hD
            refine lv_iinc (v := (i + (1 : Int32))) (lv' := [(2, .int (i + (1 : Int32))), (0, .ref (md 0)), (1, .int a1)]) hx hb dX5_acted_76 hl (k := 2) rfl rfl (by decide) rfl (fun ls hl => ?_)
            refine lv_goto (tgt := 50) hx hb dX5_acted_79 (by decide) ?_
            exact ih_50 (i + (1 : Int32)) (upd h2 (((96 : Int32) * (((M 0) 4) - (1 : Int32))) + i).toNatClampNeg ((M 2) i.toNatClampNeg)) _ _ (cnt_step c53 hm) (inv_step c53 hi) hq0 hP hD hS ls (lv_sub hl [1, 2, 0] rfl)
      exact L_50 _ (0 : Int32) T10_h1 _ _ (cnt_init _ _) (by decide) hT50_h2 hP hD hS ls (lv_sub hl [1, 2, 0] rfl)
    have L_10 : ∀ (fu : Nat) (i : Int32) (h1 : F1) (H : Heap) (locs : List Loc), ((288 : Int32).toInt - i.toInt < (fu : Int) ∧ 0 < fu) → 0 ≤ i.toInt → T10_h1 = (q_X5_acted_10 fu i h1) → va_P D vwCl [((md 0), mdC md (M 0)), ((md 1), arC cI 96 (M 1)), ((md 2), arC cI 96 (M 2)), ((md 3), arC cI 96 (M 3)), ((md 4), arC cI 384 h1), ((md 5), arC cI 96 (M 5)), ((md 6), arC cI 60 (M 6))] H → va_D A [((md 0), mdC md (M 0)), ((md 1), arC cI 96 (M 1)), ((md 2), arC cI 96 (M 2)), ((md 3), arC cI 96 (M 3)), ((md 4), arC cI 384 h1), ((md 5), arC cI 96 (M 5)), ((md 6), arC cI 60 (M 6))] → va_S A s.heap H locs → ∀ ls, lv_has ls 3 [(0, .ref (md 0)), (1, .int a1), (2, .int i)] → W p l e rm_X5_acted s m args below meth c H locs 0 0 (MQ below (QI D (mdW cI md (p_X5_acted M a1)) (r_X5_acted M a1) A) args s 0 0 A) (F0 m 10 ls []) := by
      intro fu
      induction fu with
      | zero => intro i h1 H locs hm; exact absurd hm.2 (Nat.lt_irrefl 0)
      | succ fu ih_10 =>
        intro i h1 H locs hm hi hq0 hP hD hS ls hl
        have hq0 : T10_h1 = (if (288 : Int32) ≤ i then h1 else (q_X5_acted_10 fu (i + (1 : Int32)) (upd h1 i.toNatClampNeg (h1 (i + (96 : Int32)).toNatClampNeg)))) := hq0
        refine lv_iload_n hx hb dX5_acted_10 rfl (lv_at hl 2 rfl) ?_
        refine lv_sipush (v := (288 : Int32)) hx hb dX5_acted_11 (by decide) ?_
        refine lv_icmp_ge (tgt := 38) hx hb dX5_acted_14 (by decide) (fun c14 => ?_) (fun c14 => ?_)
        · have hq0 := hq0.trans (if_pos c14)
          exact K_10 _ _  (by rw [hq0]; exact hP) (by rw [hq0]; exact hD) hS ls (by exact lv_sub hl [0, 1] rfl)
        · have hq0 := hq0.trans (if_neg c14)
          refine lv_aload_n hx hb dX5_acted_17 rfl (lv_at hl 0 rfl) ?_
          refine va_get (D := D) (ci := 5) (v := .ref (md 4)) (C := RX5) (T := TX5) (N := 14) hx hb hts inX5 hown hK.1 hP 0 rfl rfl 3 (by decide) (hts (.fieldLink RX5 19 "GrayPointersModel" "history" "[I") (List.mem_of_getElem? (i := 2) rfl)) (fun _ h9 => h9) rfl dX5_acted_18 ?_
          refine lv_iload_n hx hb dX5_acted_21 rfl (lv_at hl 2 rfl) ?_
          refine lv_aload_n hx hb dX5_acted_22 rfl (lv_at hl 0 rfl) ?_
          refine va_get (D := D) (ci := 5) (v := .ref (md 4)) (C := RX5) (T := TX5) (N := 14) hx hb hts inX5 hown hK.1 hP 0 rfl rfl 3 (by decide) (hts (.fieldLink RX5 19 "GrayPointersModel" "history" "[I") (List.mem_of_getElem? (i := 2) rfl)) (fun _ h9 => h9) rfl dX5_acted_23 ?_
          refine lv_iload_n hx hb dX5_acted_26 rfl (lv_at hl 2 rfl) ?_
          refine lv_bipush (v := (96 : Int32)) hx hb dX5_acted_27 (by decide) ?_
          refine lv_iadd hx hb dX5_acted_29 ?_
          refine va_iald hx hb hK.1 hP 4 0 rfl rfl (i := (i + (96 : Int32))) (acted_1 hi c14) dX5_acted_30 ?_
          refine va_iast hx hb hK.1 hP hD hS 4 0 rfl rfl (i := i) (x := (h1 (i + (96 : Int32)).toNatClampNeg)) (acted_2 hi c14) dX5_acted_31 (fun H locs hP hD hS => ?_)
          have hP : va_P D vwCl [((md 0), mdC md (M 0)), ((md 1), arC cI 96 (M 1)), ((md 2), arC cI 96 (M 2)), ((md 3), arC cI 96 (M 3)), ((md 4), arC cI 384 (upd h1 i.toNatClampNeg (h1 (i + (96 : Int32)).toNatClampNeg))), ((md 5), arC cI 96 (M 5)), ((md 6), arC cI 60 (M 6))] H := hP
          have hD : va_D A [((md 0), mdC md (M 0)), ((md 1), arC cI 96 (M 1)), ((md 2), arC cI 96 (M 2)), ((md 3), arC cI 96 (M 3)), ((md 4), arC cI 384 (upd h1 i.toNatClampNeg (h1 (i + (96 : Int32)).toNatClampNeg))), ((md 5), arC cI 96 (M 5)), ((md 6), arC cI 60 (M 6))] := hD
          refine lv_iinc (v := (i + (1 : Int32))) (lv' := [(2, .int (i + (1 : Int32))), (0, .ref (md 0)), (1, .int a1)]) hx hb dX5_acted_32 hl (k := 2) rfl rfl (by decide) rfl (fun ls hl => ?_)
          refine lv_goto (tgt := 10) hx hb dX5_acted_35 (by decide) ?_
          exact ih_10 (i + (1 : Int32)) (upd h1 i.toNatClampNeg (h1 (i + (96 : Int32)).toNatClampNeg)) _ _ (cnt_step c14 hm) (inv_step c14 hi) hq0 hP hD hS ls (lv_sub hl [1, 2, 0] rfl)
    exact L_10 _ (0 : Int32) (M 4) _ _ (cnt_init _ _) (by decide) hT10_h1 hP hD hS ls (lv_sub hl [1, 2, 0] rfl)
def q_X5_undo_22 (M : CS) : Nat → Int32 → F1 → F1
  | 0, _, f1 => f1
  | fu + 1, i, f1 => (if (96 : Int32) ≤ i then f1 else (q_X5_undo_22 M fu (i + (1 : Int32)) (upd f1 i.toNatClampNeg ((M 4) (((96 : Int32) * (((M 0) 4) - (1 : Int32))) + i).toNatClampNeg))))
def r_X5_undo (M : CS) : Int32 := (if ((M 0) 4) = (0 : Int32) then (-5 : Int32) else ((fun (T22_f1 : F1) => ((fun (z_1 : CS) => (((M 0) 4) - (1 : Int32))) (va_up (va_up M 0 (upd (M 0) 4 (((M 0) 4) - (1 : Int32)))) 1 T22_f1))) (q_X5_undo_22 M (((96 : Int32).toInt - (0 : Int32).toInt).toNat + 1) (0 : Int32) (M 1))))
def p_X5_undo (M : CS) : CS := (if ((M 0) 4) = (0 : Int32) then M else ((fun (T22_f1 : F1) => ((fun (z_1 : CS) => z_1) (va_up (va_up M 0 (upd (M 0) 4 (((M 0) 4) - (1 : Int32)))) 1 T22_f1))) (q_X5_undo_22 M (((96 : Int32).toInt - (0 : Int32).toInt).toNat + 1) (0 : Int32) (M 1))))
abbrev rm_X5_undo : Room := { frames := 0, cells := 0, slots := 0, locals := 0 }
set_option maxHeartbeats 4000000 in
set_option maxRecDepth 100000 in
theorem c_X5_undo (l : Launch) (D : va_G) (cI cC cS : ClassId) (md : Nat → Nat) (M : CS) (hHL : HL M) : CI l D cI cC cS yX5_undo wsX5_undo rm_X5_undo [.ref (md 0)] (mdW cI md M) (mdW cI md (p_X5_undo M)) (r_X5_undo M) := by
  intro sz
  refine startC (cc := cX5_undo) (maxL := 2) (ret := (some .int)) (by decide) rfl (Nat.le_of_ble_eq_true rfl) ?_
  intro p e s m args below meth c hx hb hml hsg hts hown hlocks hin hK A hA hS hP hD ls hl
  have hown : s.vm.findClass RX5 = some m.cls := hown
  have hl : lv_has ls 2 [(0, .ref (md 0))] := hl
  have hP : va_P D vwCl [((md 0), mdC md (M 0)), ((md 1), arC cI 96 (M 1)), ((md 2), arC cI 96 (M 2)), ((md 3), arC cI 96 (M 3)), ((md 4), arC cI 384 (M 4)), ((md 5), arC cI 96 (M 5)), ((md 6), arC cI 60 (M 6))] s.heap := hP
  have hD : va_D A [((md 0), mdC md (M 0)), ((md 1), arC cI 96 (M 1)), ((md 2), arC cI 96 (M 2)), ((md 3), arC cI 96 (M 3)), ((md 4), arC cI 384 (M 4)), ((md 5), arC cI 96 (M 5)), ((md 6), arC cI 60 (M 6))] := hD
  have inX5 : ∀ w ∈ wsX50, w ∈ wsX5_undo := fun _ h => List.mem_cons_of_mem _ (List.mem_append_right _ h)
  have hr : (r_X5_undo M) = (if ((M 0) 4) = (0 : Int32) then (-5 : Int32) else ((fun (T22_f1 : F1) => ((fun (z_1 : CS) => (((M 0) 4) - (1 : Int32))) (va_up (va_up M 0 (upd (M 0) 4 (((M 0) 4) - (1 : Int32)))) 1 T22_f1))) (q_X5_undo_22 M (((96 : Int32).toInt - (0 : Int32).toInt).toNat + 1) (0 : Int32) (M 1)))) := rfl
  have hp : (p_X5_undo M) = (if ((M 0) 4) = (0 : Int32) then M else ((fun (T22_f1 : F1) => ((fun (z_1 : CS) => z_1) (va_up (va_up M 0 (upd (M 0) 4 (((M 0) 4) - (1 : Int32)))) 1 T22_f1))) (q_X5_undo_22 M (((96 : Int32).toInt - (0 : Int32).toInt).toNat + 1) (0 : Int32) (M 1)))) := rfl
  refine lv_aload_n hx hb dX5_undo_0 rfl (lv_at hl 0 rfl) ?_
  refine va_get (D := D) (ci := 5) (v := .int ((M 0) 4)) (C := RX5) (T := TX5) (N := 14) hx hb hts inX5 hown hK.1 hP 0 rfl rfl 4 (by decide) (hts (.fieldLink RX5 36 "GrayPointersModel" "historyLong" "I") (List.mem_of_getElem? (i := 1) rfl)) (fun _ h9 => h9) rfl dX5_undo_1 ?_
  refine lv_if_ne (tgt := 10) hx hb dX5_undo_4 (by decide) (fun c4 => ?_) (fun c4 => ?_)
  · have hr := hr.trans (if_neg c4)
    have hp := hp.trans (if_neg c4)
    refine lv_aload_n hx hb dX5_undo_10 rfl (lv_at hl 0 rfl) ?_
    refine lv_dup hx hb dX5_undo_11 rfl ?_
    refine va_get (D := D) (ci := 5) (v := .int ((M 0) 4)) (C := RX5) (T := TX5) (N := 14) hx hb hts inX5 hown hK.1 hP 0 rfl rfl 4 (by decide) (hts (.fieldLink RX5 36 "GrayPointersModel" "historyLong" "I") (List.mem_of_getElem? (i := 1) rfl)) (fun _ h9 => h9) rfl dX5_undo_12 ?_
    refine lv_iconst (v := (1 : Int32)) hx hb dX5_undo_15 (by decide) ?_
    refine lv_isub hx hb dX5_undo_16 ?_
    refine va_put (D := D) (ci := 5) (v := .int (((M 0) 4) - (1 : Int32))) (ty := .int) (C := RX5) (T := TX5) (N := 14) hx hb hts inX5 tyX5 tyX5_ok nmX5 hown hK.1 hP hD hS 0 rfl rfl 4 (by decide) (hts (.fieldLink RX5 36 "GrayPointersModel" "historyLong" "I") (List.mem_of_getElem? (i := 1) rfl)) (fun _ h9 => h9) rfl (by decide +kernel) rfl rfl (Nat.le_of_ble_eq_true rfl) dX5_undo_17 (fun H locs hP hD hS => ?_)
    have hP : va_P D vwCl [((md 0), mdC md (upd (M 0) 4 (((M 0) 4) - (1 : Int32)))), ((md 1), arC cI 96 (M 1)), ((md 2), arC cI 96 (M 2)), ((md 3), arC cI 96 (M 3)), ((md 4), arC cI 384 (M 4)), ((md 5), arC cI 96 (M 5)), ((md 6), arC cI 60 (M 6))] H := hP
    have hD : va_D A [((md 0), mdC md (upd (M 0) 4 (((M 0) 4) - (1 : Int32)))), ((md 1), arC cI 96 (M 1)), ((md 2), arC cI 96 (M 2)), ((md 3), arC cI 96 (M 3)), ((md 4), arC cI 384 (M 4)), ((md 5), arC cI 96 (M 5)), ((md 6), arC cI 60 (M 6))] := hD
    refine lv_iconst (v := (0 : Int32)) hx hb dX5_undo_20 (by decide) ?_
    refine lv_istore_n (lv' := [(1, .int (0 : Int32)), (0, .ref (md 0))]) hx hb dX5_undo_21 rfl hl (by decide) rfl (fun ls hl => ?_)
    obtain ⟨T22_f1, hT22_f1⟩ : ∃ T : F1, T = (q_X5_undo_22 M (((96 : Int32).toInt - (0 : Int32).toInt).toNat + 1) (0 : Int32) (M 1)) := ⟨_, rfl⟩
    have K_22 : ∀ (H : Heap) (locs : List Loc), va_P D vwCl [((md 0), mdC md (upd (M 0) 4 (((M 0) 4) - (1 : Int32)))), ((md 1), arC cI 96 T22_f1), ((md 2), arC cI 96 (M 2)), ((md 3), arC cI 96 (M 3)), ((md 4), arC cI 384 (M 4)), ((md 5), arC cI 96 (M 5)), ((md 6), arC cI 60 (M 6))] H → va_D A [((md 0), mdC md (upd (M 0) 4 (((M 0) 4) - (1 : Int32)))), ((md 1), arC cI 96 T22_f1), ((md 2), arC cI 96 (M 2)), ((md 3), arC cI 96 (M 3)), ((md 4), arC cI 384 (M 4)), ((md 5), arC cI 96 (M 5)), ((md 6), arC cI 60 (M 6))] → va_S A s.heap H locs → ∀ ls, lv_has ls 2 [(0, .ref (md 0))] → W p l e rm_X5_undo s m args below meth c H locs 0 0 (MQ below (QI D (mdW cI md (p_X5_undo M)) (r_X5_undo M) A) args s 0 0 A) (F0 m 54 ls []) := by
      intro H locs  hP hD hS ls hl
      have hr : (r_X5_undo M) = ((fun (z_1 : CS) => (((M 0) 4) - (1 : Int32))) (va_up (va_up M 0 (upd (M 0) 4 (((M 0) 4) - (1 : Int32)))) 1 T22_f1)) := by subst hT22_f1; exact hr
      have hp : (p_X5_undo M) = ((fun (z_1 : CS) => z_1) (va_up (va_up M 0 (upd (M 0) 4 (((M 0) 4) - (1 : Int32)))) 1 T22_f1)) := by subst hT22_f1; exact hp
      refine lv_aload_n hx hb dX5_undo_54 rfl (lv_at hl 0 rfl) ?_
      refine va_get (D := D) (ci := 5) (v := .int (((M 0) 4) - (1 : Int32))) (C := RX5) (T := TX5) (N := 14) hx hb hts inX5 hown hK.1 hP 0 rfl rfl 4 (by decide) (hts (.fieldLink RX5 36 "GrayPointersModel" "historyLong" "I") (List.mem_of_getElem? (i := 1) rfl)) (fun _ h9 => h9) rfl dX5_undo_55 ?_
      obtain ⟨z_1, hz_1⟩ : ∃ z : CS, z = (va_up (va_up M 0 (upd (M 0) 4 (((M 0) 4) - (1 : Int32)))) 1 T22_f1) := ⟨_, rfl⟩
      have e0 : (z_1 0) = (upd (M 0) 4 (((M 0) 4) - (1 : Int32))) := (congrFun hz_1 0).trans ((va_up_n (by decide)).trans va_up_s)
      have e1 : (z_1 1) = T22_f1 := (congrFun hz_1 1).trans va_up_s
      have e2 : (z_1 2) = (M 2) := (congrFun hz_1 2).trans ((va_up_n (by decide)).trans (va_up_n (by decide)))
      have e3 : (z_1 3) = (M 3) := (congrFun hz_1 3).trans ((va_up_n (by decide)).trans (va_up_n (by decide)))
      have e4 : (z_1 4) = (M 4) := (congrFun hz_1 4).trans ((va_up_n (by decide)).trans (va_up_n (by decide)))
      have e5 : (z_1 5) = (M 5) := (congrFun hz_1 5).trans ((va_up_n (by decide)).trans (va_up_n (by decide)))
      have e6 : (z_1 6) = (M 6) := (congrFun hz_1 6).trans ((va_up_n (by decide)).trans (va_up_n (by decide)))
      have hP : va_P D vwCl [((md 0), mdC md (z_1 0)), ((md 1), arC cI 96 (z_1 1)), ((md 2), arC cI 96 (z_1 2)), ((md 3), arC cI 96 (z_1 3)), ((md 4), arC cI 384 (z_1 4)), ((md 5), arC cI 96 (z_1 5)), ((md 6), arC cI 60 (z_1 6))] H := by rw [e0, e1, e2, e3, e4, e5, e6]; exact hP
      have hD : va_D A [((md 0), mdC md (z_1 0)), ((md 1), arC cI 96 (z_1 1)), ((md 2), arC cI 96 (z_1 2)), ((md 3), arC cI 96 (z_1 3)), ((md 4), arC cI 384 (z_1 4)), ((md 5), arC cI 96 (z_1 5)), ((md 6), arC cI 60 (z_1 6))] := by rw [e0, e1, e2, e3, e4, e5, e6]; exact hD
      clear e0 e1 e2 e3 e4 e5 e6
      have hr : (r_X5_undo M) = (((M 0) 4) - (1 : Int32)) := by subst hz_1; exact hr
      have hp : (p_X5_undo M) = z_1 := by subst hz_1; exact hp
      exact endI (v := (((M 0) 4) - (1 : Int32))) hb hx hsg hr.symm (by rw [hp]; exact hP) (by rw [hp]; exact hD) hS dX5_undo_58 hlocks
    have L_22 : ∀ (fu : Nat) (i : Int32) (f1 : F1) (H : Heap) (locs : List Loc), ((96 : Int32).toInt - i.toInt < (fu : Int) ∧ 0 < fu) → 0 ≤ i.toInt → T22_f1 = (q_X5_undo_22 M fu i f1) → va_P D vwCl [((md 0), mdC md (upd (M 0) 4 (((M 0) 4) - (1 : Int32)))), ((md 1), arC cI 96 f1), ((md 2), arC cI 96 (M 2)), ((md 3), arC cI 96 (M 3)), ((md 4), arC cI 384 (M 4)), ((md 5), arC cI 96 (M 5)), ((md 6), arC cI 60 (M 6))] H → va_D A [((md 0), mdC md (upd (M 0) 4 (((M 0) 4) - (1 : Int32)))), ((md 1), arC cI 96 f1), ((md 2), arC cI 96 (M 2)), ((md 3), arC cI 96 (M 3)), ((md 4), arC cI 384 (M 4)), ((md 5), arC cI 96 (M 5)), ((md 6), arC cI 60 (M 6))] → va_S A s.heap H locs → ∀ ls, lv_has ls 2 [(0, .ref (md 0)), (1, .int i)] → W p l e rm_X5_undo s m args below meth c H locs 0 0 (MQ below (QI D (mdW cI md (p_X5_undo M)) (r_X5_undo M) A) args s 0 0 A) (F0 m 22 ls []) := by
      intro fu
      induction fu with
      | zero => intro i f1 H locs hm; exact absurd hm.2 (Nat.lt_irrefl 0)
      | succ fu ih_22 =>
        intro i f1 H locs hm hi hq0 hP hD hS ls hl
        have hq0 : T22_f1 = (if (96 : Int32) ≤ i then f1 else (q_X5_undo_22 M fu (i + (1 : Int32)) (upd f1 i.toNatClampNeg ((M 4) (((96 : Int32) * (((M 0) 4) - (1 : Int32))) + i).toNatClampNeg)))) := hq0
        refine lv_iload_n hx hb dX5_undo_22 rfl (lv_at hl 1 rfl) ?_
        refine lv_bipush (v := (96 : Int32)) hx hb dX5_undo_23 (by decide) ?_
        refine lv_icmp_ge (tgt := 54) hx hb dX5_undo_25 (by decide) (fun c25 => ?_) (fun c25 => ?_)
        · have hq0 := hq0.trans (if_pos c25)
          exact K_22 _ _  (by rw [hq0]; exact hP) (by rw [hq0]; exact hD) hS ls (by exact lv_sub hl [0] rfl)
        · have hq0 := hq0.trans (if_neg c25)
          refine lv_aload_n hx hb dX5_undo_28 rfl (lv_at hl 0 rfl) ?_
          refine va_get (D := D) (ci := 5) (v := .ref (md 1)) (C := RX5) (T := TX5) (N := 14) hx hb hts inX5 hown hK.1 hP 0 rfl rfl 0 (by decide) (hts (.fieldLink RX5 7 "GrayPointersModel" "all" "[I") (List.mem_of_getElem? (i := 2) rfl)) (fun _ h9 => h9) rfl dX5_undo_29 ?_
          refine lv_iload_n hx hb dX5_undo_32 rfl (lv_at hl 1 rfl) ?_
          refine lv_aload_n hx hb dX5_undo_33 rfl (lv_at hl 0 rfl) ?_
          refine va_get (D := D) (ci := 5) (v := .ref (md 4)) (C := RX5) (T := TX5) (N := 14) hx hb hts inX5 hown hK.1 hP 0 rfl rfl 3 (by decide) (hts (.fieldLink RX5 19 "GrayPointersModel" "history" "[I") (List.mem_of_getElem? (i := 3) rfl)) (fun _ h9 => h9) rfl dX5_undo_34 ?_
          refine lv_bipush (v := (96 : Int32)) hx hb dX5_undo_37 (by decide) ?_
          refine lv_aload_n hx hb dX5_undo_39 rfl (lv_at hl 0 rfl) ?_
          refine va_get (D := D) (ci := 5) (v := .int (((M 0) 4) - (1 : Int32))) (C := RX5) (T := TX5) (N := 14) hx hb hts inX5 hown hK.1 hP 0 rfl rfl 4 (by decide) (hts (.fieldLink RX5 36 "GrayPointersModel" "historyLong" "I") (List.mem_of_getElem? (i := 1) rfl)) (fun _ h9 => h9) rfl dX5_undo_40 ?_
          refine lv_imul hx hb dX5_undo_43 ?_
          refine lv_iload_n hx hb dX5_undo_44 rfl (lv_at hl 1 rfl) ?_
          refine lv_iadd hx hb dX5_undo_45 ?_
          refine va_iald hx hb hK.1 hP 4 0 rfl rfl (i := (((96 : Int32) * (((M 0) 4) - (1 : Int32))) + i)) (act_c hHL c4 hi c25) dX5_undo_46 ?_
          refine va_iast hx hb hK.1 hP hD hS 1 0 rfl rfl (i := i) (x := ((M 4) (((96 : Int32) * (((M 0) 4) - (1 : Int32))) + i).toNatClampNeg)) (vp_lt (n := 96) hi c25 (by decide)) dX5_undo_47 (fun H locs hP hD hS => ?_)
          have hP : va_P D vwCl [((md 0), mdC md (upd (M 0) 4 (((M 0) 4) - (1 : Int32)))), ((md 1), arC cI 96 (upd f1 i.toNatClampNeg ((M 4) (((96 : Int32) * (((M 0) 4) - (1 : Int32))) + i).toNatClampNeg))), ((md 2), arC cI 96 (M 2)), ((md 3), arC cI 96 (M 3)), ((md 4), arC cI 384 (M 4)), ((md 5), arC cI 96 (M 5)), ((md 6), arC cI 60 (M 6))] H := hP
          have hD : va_D A [((md 0), mdC md (upd (M 0) 4 (((M 0) 4) - (1 : Int32)))), ((md 1), arC cI 96 (upd f1 i.toNatClampNeg ((M 4) (((96 : Int32) * (((M 0) 4) - (1 : Int32))) + i).toNatClampNeg))), ((md 2), arC cI 96 (M 2)), ((md 3), arC cI 96 (M 3)), ((md 4), arC cI 384 (M 4)), ((md 5), arC cI 96 (M 5)), ((md 6), arC cI 60 (M 6))] := hD
          refine lv_iinc (v := (i + (1 : Int32))) (lv' := [(1, .int (i + (1 : Int32))), (0, .ref (md 0))]) hx hb dX5_undo_48 hl (k := 1) rfl rfl (by decide) rfl (fun ls hl => ?_)
          refine lv_goto (tgt := 22) hx hb dX5_undo_51 (by decide) ?_
          exact ih_22 (i + (1 : Int32)) (upd f1 i.toNatClampNeg ((M 4) (((96 : Int32) * (((M 0) 4) - (1 : Int32))) + i).toNatClampNeg)) _ _ (cnt_step c25 hm) (inv_step c25 hi) hq0 hP hD hS ls (lv_sub hl [1, 0] rfl)
    exact L_22 _ (0 : Int32) (M 1) _ _ (cnt_init _ _) (by decide) hT22_f1 hP hD hS ls (lv_sub hl [1, 0] rfl)
  · have hr := hr.trans (if_pos c4)
    have hp := hp.trans (if_pos c4)
    refine lv_bipush (v := (-5 : Int32)) hx hb dX5_undo_7 (by decide) ?_
    exact endI (v := (-5 : Int32)) hb hx hsg hr.symm (by rw [hp]; exact hP) (by rw [hp]; exact hD) hS dX5_undo_9 hlocks
def r_X5_keep (M : CS) : Int32 := ((fun (z_1 : F1) => ((fun (z_2 : CS) => ((M 1) 2)) (va_up (va_up M 0 (upd (M 0) 6 (1 : Int32))) 5 z_1))) (p_X5_copy (M 1) (M 5)))
def p_X5_keep (M : CS) : CS := ((fun (z_1 : F1) => ((fun (z_2 : CS) => z_2) (va_up (va_up M 0 (upd (M 0) 6 (1 : Int32))) 5 z_1))) (p_X5_copy (M 1) (M 5)))
abbrev rm_X5_keep : Room := { frames := 1, cells := 0, slots := 0, locals := 22 }
set_option maxHeartbeats 4000000 in
set_option maxRecDepth 100000 in
theorem c_X5_keep (l : Launch) (D : va_G) (cI cC cS : ClassId) (md : Nat → Nat) (M : CS)  : CI l D cI cC cS yX5_keep wsX5_keep rm_X5_keep [.ref (md 0)] (mdW cI md M) (mdW cI md (p_X5_keep M)) (r_X5_keep M) := by
  intro sz
  refine startC (cc := cX5_keep) (maxL := 1) (ret := (some .int)) (by decide) rfl (Nat.le_of_ble_eq_true rfl) ?_
  intro p e s m args below meth c hx hb hml hsg hts hown hlocks hin hK A hA hS hP hD ls hl
  have hown : s.vm.findClass RX5 = some m.cls := hown
  have hl : lv_has ls 1 [(0, .ref (md 0))] := hl
  have hP : va_P D vwCl [((md 0), mdC md (M 0)), ((md 1), arC cI 96 (M 1)), ((md 2), arC cI 96 (M 2)), ((md 3), arC cI 96 (M 3)), ((md 4), arC cI 384 (M 4)), ((md 5), arC cI 96 (M 5)), ((md 6), arC cI 60 (M 6))] s.heap := hP
  have hD : va_D A [((md 0), mdC md (M 0)), ((md 1), arC cI 96 (M 1)), ((md 2), arC cI 96 (M 2)), ((md 3), arC cI 96 (M 3)), ((md 4), arC cI 384 (M 4)), ((md 5), arC cI 96 (M 5)), ((md 6), arC cI 60 (M 6))] := hD
  have inX5 : ∀ w ∈ wsX50, w ∈ wsX5_keep := fun _ h => List.mem_cons_of_mem _ (List.mem_append_right _ h)
  have hr : (r_X5_keep M) = ((fun (z_1 : F1) => ((fun (z_2 : CS) => ((M 1) 2)) (va_up (va_up M 0 (upd (M 0) 6 (1 : Int32))) 5 z_1))) (p_X5_copy (M 1) (M 5))) := rfl
  have hp : (p_X5_keep M) = ((fun (z_1 : F1) => ((fun (z_2 : CS) => z_2) (va_up (va_up M 0 (upd (M 0) 6 (1 : Int32))) 5 z_1))) (p_X5_copy (M 1) (M 5))) := rfl
  refine lv_aload_n hx hb dX5_keep_0 rfl (lv_at hl 0 rfl) ?_
  refine va_get (D := D) (ci := 5) (v := .ref (md 1)) (C := RX5) (T := TX5) (N := 14) hx hb hts inX5 hown hK.1 hP 0 rfl rfl 0 (by decide) (hts (.fieldLink RX5 7 "GrayPointersModel" "all" "[I") (List.mem_of_getElem? (i := 1) rfl)) (fun _ h9 => h9) rfl dX5_keep_1 ?_
  refine lv_aload_n hx hb dX5_keep_4 rfl (lv_at hl 0 rfl) ?_
  refine va_get (D := D) (ci := 5) (v := .ref (md 5)) (C := RX5) (T := TX5) (N := 14) hx hb hts inX5 hown hK.1 hP 0 rfl rfl 5 (by decide) (hts (.fieldLink RX5 22 "GrayPointersModel" "snapshot" "[I") (List.mem_of_getElem? (i := 2) rfl)) (fun _ h9 => h9) rfl dX5_keep_5 ?_
  refine goV (n := 7) (ws' := [((md 0), mdC md (M 0)), ((md 1), arC cI 96 (M 1)), ((md 2), arC cI 96 (M 2)), ((md 3), arC cI 96 (M 3)), ((md 4), arC cI 384 (M 4)), ((md 5), arC cI 96 (p_X5_copy (M 1) (M 5))), ((md 6), arC cI 60 (M 6))]) (rs := [((md 0), mdC md (M 0)), ((md 2), arC cI 96 (M 2)), ((md 3), arC cI 96 (M 3)), ((md 4), arC cI 384 (M 4)), ((md 6), arC cI 60 (M 6))]) (va_runS (As := [.ref (md 1), .ref (md 5)]) (rest := []) ⟨hx, hb, hml, hown, hts⟩ (c_X5_copy l D cI cC cS (md 1) (md 5) (M 1) (M 5)  _) (va_cwS 2 hts gX5_keep_X5_copy rfl rfl rfl (by decide +kernel) ⟨Nat.le_of_ble_eq_true rfl, Nat.le_of_ble_eq_true rfl⟩) (preS hK hP hD [1, 5] (by decide) rfl) rfl rfl hl.1 rfl (lv_room (Nat.le_of_ble_eq_true rfl)) dX5_keep_8 ⟨Nat.zero_le _, Nat.zero_le _⟩) hP hD hS hA [1, 5] [0, 2, 3, 4, 6] rfl rfl rfl rfl rfl (by decide +kernel) (fstE (as := [(md 1), (md 5)]) rfl rfl) (fun H locs hP hD hS => ?_)
  obtain ⟨z_1, hz_1⟩ : ∃ z : F1, z = (p_X5_copy (M 1) (M 5)) := ⟨_, rfl⟩
  rw [← hz_1] at hP hD
  have hr : (r_X5_keep M) = ((fun (z_2 : CS) => ((M 1) 2)) (va_up (va_up M 0 (upd (M 0) 6 (1 : Int32))) 5 z_1)) := by subst hz_1; exact hr
  have hp : (p_X5_keep M) = ((fun (z_2 : CS) => z_2) (va_up (va_up M 0 (upd (M 0) 6 (1 : Int32))) 5 z_1)) := by subst hz_1; exact hp
  refine lv_aload_n hx hb dX5_keep_11 rfl (lv_at hl 0 rfl) ?_
  refine lv_iconst (v := (1 : Int32)) hx hb dX5_keep_12 (by decide) ?_
  refine va_put (D := D) (ci := 5) (v := .int (1 : Int32)) (ty := .int) (C := RX5) (T := TX5) (N := 14) hx hb hts inX5 tyX5 tyX5_ok nmX5 hown hK.1 hP hD hS 0 rfl rfl 6 (by decide) (hts (.fieldLink RX5 171 "GrayPointersModel" "isTaken" "I") (List.mem_of_getElem? (i := 3) rfl)) (fun _ h9 => h9) rfl (by decide +kernel) rfl rfl (Nat.le_of_ble_eq_true rfl) dX5_keep_13 (fun H locs hP hD hS => ?_)
  have hP : va_P D vwCl [((md 0), mdC md (upd (M 0) 6 (1 : Int32))), ((md 1), arC cI 96 (M 1)), ((md 2), arC cI 96 (M 2)), ((md 3), arC cI 96 (M 3)), ((md 4), arC cI 384 (M 4)), ((md 5), arC cI 96 z_1), ((md 6), arC cI 60 (M 6))] H := hP
  have hD : va_D A [((md 0), mdC md (upd (M 0) 6 (1 : Int32))), ((md 1), arC cI 96 (M 1)), ((md 2), arC cI 96 (M 2)), ((md 3), arC cI 96 (M 3)), ((md 4), arC cI 384 (M 4)), ((md 5), arC cI 96 z_1), ((md 6), arC cI 60 (M 6))] := hD
  refine lv_aload_n hx hb dX5_keep_16 rfl (lv_at hl 0 rfl) ?_
  refine va_get (D := D) (ci := 5) (v := .ref (md 1)) (C := RX5) (T := TX5) (N := 14) hx hb hts inX5 hown hK.1 hP 0 rfl rfl 0 (by decide) (hts (.fieldLink RX5 7 "GrayPointersModel" "all" "[I") (List.mem_of_getElem? (i := 1) rfl)) (fun _ h9 => h9) rfl dX5_keep_17 ?_
  refine lv_iconst (v := (2 : Int32)) hx hb dX5_keep_20 (by decide) ?_
  refine va_iald hx hb hK.1 hP 1 0 rfl rfl (i := (2 : Int32)) (vp_in_iff.mpr (by decide)) dX5_keep_21 ?_
  refine W.eq (g2 := F0 m 22 ls [.int ((M 1) 2)]) rfl ?_
  obtain ⟨z_2, hz_2⟩ : ∃ z : CS, z = (va_up (va_up M 0 (upd (M 0) 6 (1 : Int32))) 5 z_1) := ⟨_, rfl⟩
  have e0 : (z_2 0) = (upd (M 0) 6 (1 : Int32)) := (congrFun hz_2 0).trans ((va_up_n (by decide)).trans va_up_s)
  have e1 : (z_2 1) = (M 1) := (congrFun hz_2 1).trans ((va_up_n (by decide)).trans (va_up_n (by decide)))
  have e2 : (z_2 2) = (M 2) := (congrFun hz_2 2).trans ((va_up_n (by decide)).trans (va_up_n (by decide)))
  have e3 : (z_2 3) = (M 3) := (congrFun hz_2 3).trans ((va_up_n (by decide)).trans (va_up_n (by decide)))
  have e4 : (z_2 4) = (M 4) := (congrFun hz_2 4).trans ((va_up_n (by decide)).trans (va_up_n (by decide)))
  have e5 : (z_2 5) = z_1 := (congrFun hz_2 5).trans va_up_s
  have e6 : (z_2 6) = (M 6) := (congrFun hz_2 6).trans ((va_up_n (by decide)).trans (va_up_n (by decide)))
  have hP : va_P D vwCl [((md 0), mdC md (z_2 0)), ((md 1), arC cI 96 (z_2 1)), ((md 2), arC cI 96 (z_2 2)), ((md 3), arC cI 96 (z_2 3)), ((md 4), arC cI 384 (z_2 4)), ((md 5), arC cI 96 (z_2 5)), ((md 6), arC cI 60 (z_2 6))] H := by rw [e0, e1, e2, e3, e4, e5, e6]; exact hP
  have hD : va_D A [((md 0), mdC md (z_2 0)), ((md 1), arC cI 96 (z_2 1)), ((md 2), arC cI 96 (z_2 2)), ((md 3), arC cI 96 (z_2 3)), ((md 4), arC cI 384 (z_2 4)), ((md 5), arC cI 96 (z_2 5)), ((md 6), arC cI 60 (z_2 6))] := by rw [e0, e1, e2, e3, e4, e5, e6]; exact hD
  clear e0 e1 e2 e3 e4 e5 e6
  have hr : (r_X5_keep M) = ((M 1) 2) := by subst hz_2; exact hr
  have hp : (p_X5_keep M) = z_2 := by subst hz_2; exact hp
  exact endI (v := ((M 1) 2)) hb hx hsg hr.symm (by rw [hp]; exact hP) (by rw [hp]; exact hD) hS dX5_keep_22 hlocks
def r_X5_type (M : CS) (a1 : Int32) : Int32 := (if ((M 0) 8) = (60 : Int32) then (-3 : Int32) else ((fun (z_1 : CS) => (((M 0) 8) + (1 : Int32))) (va_up (va_up M 0 (upd (M 0) 8 (((M 0) 8) + (1 : Int32)))) 6 (upd (M 6) ((M 0) 8).toNatClampNeg a1))))
def p_X5_type (M : CS) (a1 : Int32) : CS := (if ((M 0) 8) = (60 : Int32) then M else ((fun (z_1 : CS) => z_1) (va_up (va_up M 0 (upd (M 0) 8 (((M 0) 8) + (1 : Int32)))) 6 (upd (M 6) ((M 0) 8).toNatClampNeg a1))))
abbrev rm_X5_type : Room := { frames := 0, cells := 0, slots := 0, locals := 0 }
set_option maxHeartbeats 4000000 in
set_option maxRecDepth 100000 in
theorem c_X5_type (l : Launch) (D : va_G) (cI cC cS : ClassId) (md : Nat → Nat) (M : CS) (a1 : Int32) (ht : 0 ≤ (M 0 8).toInt ∧ (M 0 8).toInt ≤ 60) : CI l D cI cC cS yX5_type wsX5_type rm_X5_type [.ref (md 0), .int a1] (mdW cI md M) (mdW cI md (p_X5_type M a1)) (r_X5_type M a1) := by
  intro sz
  refine startC (cc := cX5_type) (maxL := 2) (ret := (some .int)) (by decide) rfl (Nat.le_of_ble_eq_true rfl) ?_
  intro p e s m args below meth c hx hb hml hsg hts hown hlocks hin hK A hA hS hP hD ls hl
  have hown : s.vm.findClass RX5 = some m.cls := hown
  have hl : lv_has ls 2 [(0, .ref (md 0)), (1, .int a1)] := hl
  have hP : va_P D vwCl [((md 0), mdC md (M 0)), ((md 1), arC cI 96 (M 1)), ((md 2), arC cI 96 (M 2)), ((md 3), arC cI 96 (M 3)), ((md 4), arC cI 384 (M 4)), ((md 5), arC cI 96 (M 5)), ((md 6), arC cI 60 (M 6))] s.heap := hP
  have hD : va_D A [((md 0), mdC md (M 0)), ((md 1), arC cI 96 (M 1)), ((md 2), arC cI 96 (M 2)), ((md 3), arC cI 96 (M 3)), ((md 4), arC cI 384 (M 4)), ((md 5), arC cI 96 (M 5)), ((md 6), arC cI 60 (M 6))] := hD
  have inX5 : ∀ w ∈ wsX50, w ∈ wsX5_type := fun _ h => List.mem_cons_of_mem _ (List.mem_append_right _ h)
  have hr : (r_X5_type M a1) = (if ((M 0) 8) = (60 : Int32) then (-3 : Int32) else ((fun (z_1 : CS) => (((M 0) 8) + (1 : Int32))) (va_up (va_up M 0 (upd (M 0) 8 (((M 0) 8) + (1 : Int32)))) 6 (upd (M 6) ((M 0) 8).toNatClampNeg a1)))) := rfl
  have hp : (p_X5_type M a1) = (if ((M 0) 8) = (60 : Int32) then M else ((fun (z_1 : CS) => z_1) (va_up (va_up M 0 (upd (M 0) 8 (((M 0) 8) + (1 : Int32)))) 6 (upd (M 6) ((M 0) 8).toNatClampNeg a1)))) := rfl
  refine lv_aload_n hx hb dX5_type_0 rfl (lv_at hl 0 rfl) ?_
  refine va_get (D := D) (ci := 5) (v := .int ((M 0) 8)) (C := RX5) (T := TX5) (N := 14) hx hb hts inX5 hown hK.1 hP 0 rfl rfl 8 (by decide) (hts (.fieldLink RX5 135 "GrayPointersModel" "textLong" "I") (List.mem_of_getElem? (i := 1) rfl)) (fun _ h9 => h9) rfl dX5_type_1 ?_
  refine lv_bipush (v := (60 : Int32)) hx hb dX5_type_4 (by decide) ?_
  refine lv_icmp_ne (tgt := 12) hx hb dX5_type_6 (by decide) (fun c6 => ?_) (fun c6 => ?_)
  · have hr := hr.trans (if_neg c6)
    have hp := hp.trans (if_neg c6)
    refine lv_aload_n hx hb dX5_type_12 rfl (lv_at hl 0 rfl) ?_
    refine va_get (D := D) (ci := 5) (v := .ref (md 6)) (C := RX5) (T := TX5) (N := 14) hx hb hts inX5 hown hK.1 hP 0 rfl rfl 7 (by decide) (hts (.fieldLink RX5 25 "GrayPointersModel" "text" "[I") (List.mem_of_getElem? (i := 2) rfl)) (fun _ h9 => h9) rfl dX5_type_13 ?_
    refine lv_aload_n hx hb dX5_type_16 rfl (lv_at hl 0 rfl) ?_
    refine va_get (D := D) (ci := 5) (v := .int ((M 0) 8)) (C := RX5) (T := TX5) (N := 14) hx hb hts inX5 hown hK.1 hP 0 rfl rfl 8 (by decide) (hts (.fieldLink RX5 135 "GrayPointersModel" "textLong" "I") (List.mem_of_getElem? (i := 1) rfl)) (fun _ h9 => h9) rfl dX5_type_17 ?_
    refine lv_iload_n hx hb dX5_type_20 rfl (lv_at hl 1 rfl) ?_
    refine va_iast hx hb hK.1 hP hD hS 6 0 rfl rfl (i := ((M 0) 8)) (x := a1) (ty_in ht c6) dX5_type_21 (fun H locs hP hD hS => ?_)
    have hP : va_P D vwCl [((md 0), mdC md (M 0)), ((md 1), arC cI 96 (M 1)), ((md 2), arC cI 96 (M 2)), ((md 3), arC cI 96 (M 3)), ((md 4), arC cI 384 (M 4)), ((md 5), arC cI 96 (M 5)), ((md 6), arC cI 60 (upd (M 6) ((M 0) 8).toNatClampNeg a1))] H := hP
    have hD : va_D A [((md 0), mdC md (M 0)), ((md 1), arC cI 96 (M 1)), ((md 2), arC cI 96 (M 2)), ((md 3), arC cI 96 (M 3)), ((md 4), arC cI 384 (M 4)), ((md 5), arC cI 96 (M 5)), ((md 6), arC cI 60 (upd (M 6) ((M 0) 8).toNatClampNeg a1))] := hD
    refine lv_aload_n hx hb dX5_type_22 rfl (lv_at hl 0 rfl) ?_
    refine lv_dup hx hb dX5_type_23 rfl ?_
    refine va_get (D := D) (ci := 5) (v := .int ((M 0) 8)) (C := RX5) (T := TX5) (N := 14) hx hb hts inX5 hown hK.1 hP 0 rfl rfl 8 (by decide) (hts (.fieldLink RX5 135 "GrayPointersModel" "textLong" "I") (List.mem_of_getElem? (i := 1) rfl)) (fun _ h9 => h9) rfl dX5_type_24 ?_
    refine lv_iconst (v := (1 : Int32)) hx hb dX5_type_27 (by decide) ?_
    refine lv_iadd hx hb dX5_type_28 ?_
    refine va_put (D := D) (ci := 5) (v := .int (((M 0) 8) + (1 : Int32))) (ty := .int) (C := RX5) (T := TX5) (N := 14) hx hb hts inX5 tyX5 tyX5_ok nmX5 hown hK.1 hP hD hS 0 rfl rfl 8 (by decide) (hts (.fieldLink RX5 135 "GrayPointersModel" "textLong" "I") (List.mem_of_getElem? (i := 1) rfl)) (fun _ h9 => h9) rfl (by decide +kernel) rfl rfl (Nat.le_of_ble_eq_true rfl) dX5_type_29 (fun H locs hP hD hS => ?_)
    have hP : va_P D vwCl [((md 0), mdC md (upd (M 0) 8 (((M 0) 8) + (1 : Int32)))), ((md 1), arC cI 96 (M 1)), ((md 2), arC cI 96 (M 2)), ((md 3), arC cI 96 (M 3)), ((md 4), arC cI 384 (M 4)), ((md 5), arC cI 96 (M 5)), ((md 6), arC cI 60 (upd (M 6) ((M 0) 8).toNatClampNeg a1))] H := hP
    have hD : va_D A [((md 0), mdC md (upd (M 0) 8 (((M 0) 8) + (1 : Int32)))), ((md 1), arC cI 96 (M 1)), ((md 2), arC cI 96 (M 2)), ((md 3), arC cI 96 (M 3)), ((md 4), arC cI 384 (M 4)), ((md 5), arC cI 96 (M 5)), ((md 6), arC cI 60 (upd (M 6) ((M 0) 8).toNatClampNeg a1))] := hD
    refine lv_aload_n hx hb dX5_type_32 rfl (lv_at hl 0 rfl) ?_
    refine va_get (D := D) (ci := 5) (v := .int (((M 0) 8) + (1 : Int32))) (C := RX5) (T := TX5) (N := 14) hx hb hts inX5 hown hK.1 hP 0 rfl rfl 8 (by decide) (hts (.fieldLink RX5 135 "GrayPointersModel" "textLong" "I") (List.mem_of_getElem? (i := 1) rfl)) (fun _ h9 => h9) rfl dX5_type_33 ?_
    obtain ⟨z_1, hz_1⟩ : ∃ z : CS, z = (va_up (va_up M 0 (upd (M 0) 8 (((M 0) 8) + (1 : Int32)))) 6 (upd (M 6) ((M 0) 8).toNatClampNeg a1)) := ⟨_, rfl⟩
    have e0 : (z_1 0) = (upd (M 0) 8 (((M 0) 8) + (1 : Int32))) := (congrFun hz_1 0).trans ((va_up_n (by decide)).trans va_up_s)
    have e1 : (z_1 1) = (M 1) := (congrFun hz_1 1).trans ((va_up_n (by decide)).trans (va_up_n (by decide)))
    have e2 : (z_1 2) = (M 2) := (congrFun hz_1 2).trans ((va_up_n (by decide)).trans (va_up_n (by decide)))
    have e3 : (z_1 3) = (M 3) := (congrFun hz_1 3).trans ((va_up_n (by decide)).trans (va_up_n (by decide)))
    have e4 : (z_1 4) = (M 4) := (congrFun hz_1 4).trans ((va_up_n (by decide)).trans (va_up_n (by decide)))
    have e5 : (z_1 5) = (M 5) := (congrFun hz_1 5).trans ((va_up_n (by decide)).trans (va_up_n (by decide)))
    have e6 : (z_1 6) = (upd (M 6) ((M 0) 8).toNatClampNeg a1) := (congrFun hz_1 6).trans va_up_s
    have hP : va_P D vwCl [((md 0), mdC md (z_1 0)), ((md 1), arC cI 96 (z_1 1)), ((md 2), arC cI 96 (z_1 2)), ((md 3), arC cI 96 (z_1 3)), ((md 4), arC cI 384 (z_1 4)), ((md 5), arC cI 96 (z_1 5)), ((md 6), arC cI 60 (z_1 6))] H := by rw [e0, e1, e2, e3, e4, e5, e6]; exact hP
    have hD : va_D A [((md 0), mdC md (z_1 0)), ((md 1), arC cI 96 (z_1 1)), ((md 2), arC cI 96 (z_1 2)), ((md 3), arC cI 96 (z_1 3)), ((md 4), arC cI 384 (z_1 4)), ((md 5), arC cI 96 (z_1 5)), ((md 6), arC cI 60 (z_1 6))] := by rw [e0, e1, e2, e3, e4, e5, e6]; exact hD
    clear e0 e1 e2 e3 e4 e5 e6
    have hr : (r_X5_type M a1) = (((M 0) 8) + (1 : Int32)) := by subst hz_1; exact hr
    have hp : (p_X5_type M a1) = z_1 := by subst hz_1; exact hp
    exact endI (v := (((M 0) 8) + (1 : Int32))) hb hx hsg hr.symm (by rw [hp]; exact hP) (by rw [hp]; exact hD) hS dX5_type_36 hlocks
  · have hr := hr.trans (if_pos c6)
    have hp := hp.trans (if_pos c6)
    refine lv_bipush (v := (-3 : Int32)) hx hb dX5_type_9 (by decide) ?_
    exact endI (v := (-3 : Int32)) hb hx hsg hr.symm (by rw [hp]; exact hP) (by rw [hp]; exact hD) hS dX5_type_11 hlocks
def r_X5_waiting (M : CS) (a1 : Int32) : Int32 := (if (0 : Int32) ≤ a1 then (if ((M 1) 5) ≤ a1 then (-5 : Int32) else ((M 1) ((27 : Int32) + a1).toNatClampNeg)) else (-2 : Int32))
abbrev rm_X5_waiting : Room := { frames := 0, cells := 0, slots := 0, locals := 0 }
set_option maxHeartbeats 4000000 in
set_option maxRecDepth 100000 in
theorem c_X5_waiting (l : Launch) (D : va_G) (cI cC cS : ClassId) (md : Nat → Nat) (M : CS) (a1 : Int32) (hw : (M 1 5).toInt ≤ 20) : CI l D cI cC cS yX5_waiting wsX5_waiting rm_X5_waiting [.ref (md 0), .int a1] (mdW cI md M) (mdW cI md M) (r_X5_waiting M a1) := by
  intro sz
  refine startC (cc := cX5_waiting) (maxL := 2) (ret := (some .int)) (by decide) rfl (Nat.le_of_ble_eq_true rfl) ?_
  intro p e s m args below meth c hx hb hml hsg hts hown hlocks hin hK A hA hS hP hD ls hl
  have hown : s.vm.findClass RX5 = some m.cls := hown
  have hl : lv_has ls 2 [(0, .ref (md 0)), (1, .int a1)] := hl
  have hP : va_P D vwCl [((md 0), mdC md (M 0)), ((md 1), arC cI 96 (M 1)), ((md 2), arC cI 96 (M 2)), ((md 3), arC cI 96 (M 3)), ((md 4), arC cI 384 (M 4)), ((md 5), arC cI 96 (M 5)), ((md 6), arC cI 60 (M 6))] s.heap := hP
  have hD : va_D A [((md 0), mdC md (M 0)), ((md 1), arC cI 96 (M 1)), ((md 2), arC cI 96 (M 2)), ((md 3), arC cI 96 (M 3)), ((md 4), arC cI 384 (M 4)), ((md 5), arC cI 96 (M 5)), ((md 6), arC cI 60 (M 6))] := hD
  have inX5 : ∀ w ∈ wsX50, w ∈ wsX5_waiting := fun _ h => List.mem_cons_of_mem _ (List.mem_append_right _ h)
  have hr : (r_X5_waiting M a1) = (if (0 : Int32) ≤ a1 then (if ((M 1) 5) ≤ a1 then (-5 : Int32) else ((M 1) ((27 : Int32) + a1).toNatClampNeg)) else (-2 : Int32)) := rfl
  refine lv_iload_n hx hb dX5_waiting_0 rfl (lv_at hl 1 rfl) ?_
  refine lv_if_ge (tgt := 7) hx hb dX5_waiting_1 (by decide) (fun c1 => ?_) (fun c1 => ?_)
  · have hr := hr.trans (if_pos c1)
    refine lv_iload_n hx hb dX5_waiting_7 rfl (lv_at hl 1 rfl) ?_
    refine lv_aload_n hx hb dX5_waiting_8 rfl (lv_at hl 0 rfl) ?_
    refine va_get (D := D) (ci := 5) (v := .ref (md 1)) (C := RX5) (T := TX5) (N := 14) hx hb hts inX5 hown hK.1 hP 0 rfl rfl 0 (by decide) (hts (.fieldLink RX5 7 "GrayPointersModel" "all" "[I") (List.mem_of_getElem? (i := 1) rfl)) (fun _ h9 => h9) rfl dX5_waiting_9 ?_
    refine lv_iconst (v := (5 : Int32)) hx hb dX5_waiting_12 (by decide) ?_
    refine va_iald hx hb hK.1 hP 1 0 rfl rfl (i := (5 : Int32)) (vp_in_iff.mpr (by decide)) dX5_waiting_13 ?_
    refine W.eq (g2 := F0 m 14 ls [.int ((M 1) 5), .int a1]) rfl ?_
    refine lv_icmp_ge (tgt := 29) hx hb dX5_waiting_14 (by decide) (fun c14 => ?_) (fun c14 => ?_)
    · have hr := hr.trans (if_pos c14)
      refine lv_bipush (v := (-5 : Int32)) hx hb dX5_waiting_29 (by decide) ?_
      exact endI (v := (-5 : Int32)) hb hx hsg hr.symm hP hD hS dX5_waiting_31 hlocks
    · have hr := hr.trans (if_neg c14)
      refine lv_aload_n hx hb dX5_waiting_17 rfl (lv_at hl 0 rfl) ?_
      refine va_get (D := D) (ci := 5) (v := .ref (md 1)) (C := RX5) (T := TX5) (N := 14) hx hb hts inX5 hown hK.1 hP 0 rfl rfl 0 (by decide) (hts (.fieldLink RX5 7 "GrayPointersModel" "all" "[I") (List.mem_of_getElem? (i := 1) rfl)) (fun _ h9 => h9) rfl dX5_waiting_18 ?_
      refine lv_bipush (v := (27 : Int32)) hx hb dX5_waiting_21 (by decide) ?_
      refine lv_iload_n hx hb dX5_waiting_23 rfl (lv_at hl 1 rfl) ?_
      refine lv_iadd hx hb dX5_waiting_24 ?_
      refine va_iald hx hb hK.1 hP 1 0 rfl rfl (i := ((27 : Int32) + a1)) (vp_add (a := 27) (by decide) (nn0 c1) (by have := lt_of_nle c14; omega) (by decide)) dX5_waiting_25 ?_
      refine lv_goto (tgt := 31) hx hb dX5_waiting_26 (by decide) ?_
      exact endI (v := ((M 1) ((27 : Int32) + a1).toNatClampNeg)) hb hx hsg hr.symm hP hD hS dX5_waiting_31 hlocks
  · have hr := hr.trans (if_neg c1)
    refine lv_bipush (v := (-2 : Int32)) hx hb dX5_waiting_4 (by decide) ?_
    exact endI (v := (-2 : Int32)) hb hx hsg hr.symm hP hD hS dX5_waiting_6 hlocks
def r_X5_taken (M : CS) (a1 : Int32) : Int32 := (if (0 : Int32) ≤ a1 then (if ((M 1) 10) ≤ a1 then (-5 : Int32) else ((M 1) ((79 : Int32) + a1).toNatClampNeg)) else (-2 : Int32))
abbrev rm_X5_taken : Room := { frames := 0, cells := 0, slots := 0, locals := 0 }
set_option maxHeartbeats 4000000 in
set_option maxRecDepth 100000 in
theorem c_X5_taken (l : Launch) (D : va_G) (cI cC cS : ClassId) (md : Nat → Nat) (M : CS) (a1 : Int32) (hw : (M 1 10).toInt ≤ 16) : CI l D cI cC cS yX5_taken wsX5_taken rm_X5_taken [.ref (md 0), .int a1] (mdW cI md M) (mdW cI md M) (r_X5_taken M a1) := by
  intro sz
  refine startC (cc := cX5_taken) (maxL := 2) (ret := (some .int)) (by decide) rfl (Nat.le_of_ble_eq_true rfl) ?_
  intro p e s m args below meth c hx hb hml hsg hts hown hlocks hin hK A hA hS hP hD ls hl
  have hown : s.vm.findClass RX5 = some m.cls := hown
  have hl : lv_has ls 2 [(0, .ref (md 0)), (1, .int a1)] := hl
  have hP : va_P D vwCl [((md 0), mdC md (M 0)), ((md 1), arC cI 96 (M 1)), ((md 2), arC cI 96 (M 2)), ((md 3), arC cI 96 (M 3)), ((md 4), arC cI 384 (M 4)), ((md 5), arC cI 96 (M 5)), ((md 6), arC cI 60 (M 6))] s.heap := hP
  have hD : va_D A [((md 0), mdC md (M 0)), ((md 1), arC cI 96 (M 1)), ((md 2), arC cI 96 (M 2)), ((md 3), arC cI 96 (M 3)), ((md 4), arC cI 384 (M 4)), ((md 5), arC cI 96 (M 5)), ((md 6), arC cI 60 (M 6))] := hD
  have inX5 : ∀ w ∈ wsX50, w ∈ wsX5_taken := fun _ h => List.mem_cons_of_mem _ (List.mem_append_right _ h)
  have hr : (r_X5_taken M a1) = (if (0 : Int32) ≤ a1 then (if ((M 1) 10) ≤ a1 then (-5 : Int32) else ((M 1) ((79 : Int32) + a1).toNatClampNeg)) else (-2 : Int32)) := rfl
  refine lv_iload_n hx hb dX5_taken_0 rfl (lv_at hl 1 rfl) ?_
  refine lv_if_ge (tgt := 7) hx hb dX5_taken_1 (by decide) (fun c1 => ?_) (fun c1 => ?_)
  · have hr := hr.trans (if_pos c1)
    refine lv_iload_n hx hb dX5_taken_7 rfl (lv_at hl 1 rfl) ?_
    refine lv_aload_n hx hb dX5_taken_8 rfl (lv_at hl 0 rfl) ?_
    refine va_get (D := D) (ci := 5) (v := .ref (md 1)) (C := RX5) (T := TX5) (N := 14) hx hb hts inX5 hown hK.1 hP 0 rfl rfl 0 (by decide) (hts (.fieldLink RX5 7 "GrayPointersModel" "all" "[I") (List.mem_of_getElem? (i := 1) rfl)) (fun _ h9 => h9) rfl dX5_taken_9 ?_
    refine lv_bipush (v := (10 : Int32)) hx hb dX5_taken_12 (by decide) ?_
    refine va_iald hx hb hK.1 hP 1 0 rfl rfl (i := (10 : Int32)) (vp_in_iff.mpr (by decide)) dX5_taken_14 ?_
    refine W.eq (g2 := F0 m 15 ls [.int ((M 1) 10), .int a1]) rfl ?_
    refine lv_icmp_ge (tgt := 30) hx hb dX5_taken_15 (by decide) (fun c15 => ?_) (fun c15 => ?_)
    · have hr := hr.trans (if_pos c15)
      refine lv_bipush (v := (-5 : Int32)) hx hb dX5_taken_30 (by decide) ?_
      exact endI (v := (-5 : Int32)) hb hx hsg hr.symm hP hD hS dX5_taken_32 hlocks
    · have hr := hr.trans (if_neg c15)
      refine lv_aload_n hx hb dX5_taken_18 rfl (lv_at hl 0 rfl) ?_
      refine va_get (D := D) (ci := 5) (v := .ref (md 1)) (C := RX5) (T := TX5) (N := 14) hx hb hts inX5 hown hK.1 hP 0 rfl rfl 0 (by decide) (hts (.fieldLink RX5 7 "GrayPointersModel" "all" "[I") (List.mem_of_getElem? (i := 1) rfl)) (fun _ h9 => h9) rfl dX5_taken_19 ?_
      refine lv_bipush (v := (79 : Int32)) hx hb dX5_taken_22 (by decide) ?_
      refine lv_iload_n hx hb dX5_taken_24 rfl (lv_at hl 1 rfl) ?_
      refine lv_iadd hx hb dX5_taken_25 ?_
      refine va_iald hx hb hK.1 hP 1 0 rfl rfl (i := ((79 : Int32) + a1)) (vp_add (a := 79) (by decide) (nn0 c1) (by have := lt_of_nle c15; omega) (by decide)) dX5_taken_26 ?_
      refine lv_goto (tgt := 32) hx hb dX5_taken_27 (by decide) ?_
      exact endI (v := ((M 1) ((79 : Int32) + a1).toNatClampNeg)) hb hx hsg hr.symm hP hD hS dX5_taken_32 hlocks
  · have hr := hr.trans (if_neg c1)
    refine lv_bipush (v := (-2 : Int32)) hx hb dX5_taken_4 (by decide) ?_
    exact endI (v := (-2 : Int32)) hb hx hsg hr.symm hP hD hS dX5_taken_6 hlocks
def r_X5_place (M : CS) (a1 : Int32) (a2 : Int32) : Int32 := (if (r_X5_in a1.toInt64 (0 : Int64) ((r_X5_depth M).toInt64 - (1 : Int64))) = (0 : Int32) then (-1 : Int32) else (if a2 = (0 : Int32) then ((M 1) ((47 : Int32) + a1).toNatClampNeg) else (if a2 = (1 : Int32) then ((M 1) ((63 : Int32) + a1).toNatClampNeg) else (-2 : Int32))))
abbrev rm_X5_place : Room := { frames := 1, cells := 0, slots := 0, locals := 25 }
set_option maxHeartbeats 4000000 in
set_option maxRecDepth 100000 in
theorem c_X5_place (l : Launch) (D : va_G) (cI cC cS : ClassId) (md : Nat → Nat) (M : CS) (a1 : Int32) (a2 : Int32) (hk : 1 ≤ (M 1 0).toInt ∧ (M 1 0).toInt ≤ 4) : CI l D cI cC cS yX5_place wsX5_place rm_X5_place [.ref (md 0), .int a1, .int a2] (mdW cI md M) (mdW cI md M) (r_X5_place M a1 a2) := by
  intro sz
  refine startC (cc := cX5_place) (maxL := 3) (ret := (some .int)) (by decide) rfl (Nat.le_of_ble_eq_true rfl) ?_
  intro p e s m args below meth c hx hb hml hsg hts hown hlocks hin hK A hA hS hP hD ls hl
  have hown : s.vm.findClass RX5 = some m.cls := hown
  have hl : lv_has ls 3 [(0, .ref (md 0)), (1, .int a1), (2, .int a2)] := hl
  have hP : va_P D vwCl [((md 0), mdC md (M 0)), ((md 1), arC cI 96 (M 1)), ((md 2), arC cI 96 (M 2)), ((md 3), arC cI 96 (M 3)), ((md 4), arC cI 384 (M 4)), ((md 5), arC cI 96 (M 5)), ((md 6), arC cI 60 (M 6))] s.heap := hP
  have hD : va_D A [((md 0), mdC md (M 0)), ((md 1), arC cI 96 (M 1)), ((md 2), arC cI 96 (M 2)), ((md 3), arC cI 96 (M 3)), ((md 4), arC cI 384 (M 4)), ((md 5), arC cI 96 (M 5)), ((md 6), arC cI 60 (M 6))] := hD
  have inX5 : ∀ w ∈ wsX50, w ∈ wsX5_place := fun _ h => List.mem_cons_of_mem _ (List.mem_append_right _ h)
  have hr : (r_X5_place M a1 a2) = (if (r_X5_in a1.toInt64 (0 : Int64) ((r_X5_depth M).toInt64 - (1 : Int64))) = (0 : Int32) then (-1 : Int32) else (if a2 = (0 : Int32) then ((M 1) ((47 : Int32) + a1).toNatClampNeg) else (if a2 = (1 : Int32) then ((M 1) ((63 : Int32) + a1).toNatClampNeg) else (-2 : Int32)))) := rfl
  refine lv_iload_n hx hb dX5_place_0 rfl (lv_at hl 1 rfl) ?_
  refine lv_i2l (v := a1.toInt64) hx hb dX5_place_1 rfl ?_
  refine lv_lconst (v := (0 : Int64)) hx hb dX5_place_2 (by decide) ?_
  refine lv_aload_n hx hb dX5_place_3 rfl (lv_at hl 0 rfl) ?_
  refine goI (n := 7) (ws' := [((md 0), mdC md (M 0)), ((md 1), arC cI 96 (M 1)), ((md 2), arC cI 96 (M 2)), ((md 3), arC cI 96 (M 3)), ((md 4), arC cI 384 (M 4)), ((md 5), arC cI 96 (M 5)), ((md 6), arC cI 60 (M 6))]) (rs := []) (va_runV (As := []) (rest := [.long (0 : Int64), .long a1.toInt64]) ⟨hx, hb, hml, hown, hts⟩ (c_X5_depth l D cI cC cS md M  _) (cwV 0 hts gX5_place_X5_depth rfl rfl rfl (by decide +kernel) ⟨Nat.le_of_ble_eq_true rfl, Nat.le_of_ble_eq_true rfl⟩) (preV hK hP hD [0, 1, 2, 3, 4, 5, 6] (by decide) rfl 0 5 rfl rfl) rfl rfl hl.1 rfl (lv_room (Nat.le_of_ble_eq_true rfl)) dX5_place_4 ⟨Nat.zero_le _, Nat.zero_le _⟩) hP hD hS hA [0, 1, 2, 3, 4, 5, 6] [] rfl rfl rfl rfl rfl (by decide +kernel) rfl (fun H locs hP hD hS => ?_)
  refine lv_i2l (v := (r_X5_depth M).toInt64) hx hb dX5_place_7 rfl ?_
  refine lv_lconst (v := (1 : Int64)) hx hb dX5_place_8 (by decide) ?_
  refine lv_lsub hx hb dX5_place_9 ?_
  refine goI (n := 7) (ws' := [((md 0), mdC md (M 0)), ((md 1), arC cI 96 (M 1)), ((md 2), arC cI 96 (M 2)), ((md 3), arC cI 96 (M 3)), ((md 4), arC cI 384 (M 4)), ((md 5), arC cI 96 (M 5)), ((md 6), arC cI 60 (M 6))]) (rs := [((md 0), mdC md (M 0)), ((md 1), arC cI 96 (M 1)), ((md 2), arC cI 96 (M 2)), ((md 3), arC cI 96 (M 3)), ((md 4), arC cI 384 (M 4)), ((md 5), arC cI 96 (M 5)), ((md 6), arC cI 60 (M 6))]) (va_runS (As := [.long a1.toInt64, .long (0 : Int64), .long ((r_X5_depth M).toInt64 - (1 : Int64))]) (rest := []) ⟨hx, hb, hml, hown, hts⟩ (c_X5_in l D cI cC cS a1.toInt64 (0 : Int64) ((r_X5_depth M).toInt64 - (1 : Int64))  _) (va_cwS 3 hts gX5_place_X5_in rfl rfl rfl (by decide +kernel) ⟨Nat.le_of_ble_eq_true rfl, Nat.le_of_ble_eq_true rfl⟩) (preS hK hP hD [] (by decide) rfl) rfl rfl hl.1 rfl (lv_room (Nat.le_of_ble_eq_true rfl)) dX5_place_10 ⟨Nat.zero_le _, Nat.zero_le _⟩) hP hD hS hA [] [0, 1, 2, 3, 4, 5, 6] rfl rfl rfl rfl rfl (by decide +kernel) rfl (fun H locs hP hD hS => ?_)
  refine lv_if_ne (tgt := 18) hx hb dX5_place_13 (by decide) (fun c13 => ?_) (fun c13 => ?_)
  · have hr := hr.trans (if_neg c13)
    refine lv_iload_n hx hb dX5_place_18 rfl (lv_at hl 2 rfl) ?_
    refine lv_if_ne (tgt := 34) hx hb dX5_place_19 (by decide) (fun c19 => ?_) (fun c19 => ?_)
    · have hr := hr.trans (if_neg c19)
      refine lv_iload_n hx hb dX5_place_34 rfl (lv_at hl 2 rfl) ?_
      refine lv_iconst (v := (1 : Int32)) hx hb dX5_place_35 (by decide) ?_
      refine lv_icmp_ne (tgt := 51) hx hb dX5_place_36 (by decide) (fun c36 => ?_) (fun c36 => ?_)
      · have hr := hr.trans (if_neg c36)
        refine lv_bipush (v := (-2 : Int32)) hx hb dX5_place_51 (by decide) ?_
        exact endI (v := (-2 : Int32)) hb hx hsg hr.symm hP hD hS dX5_place_53 hlocks
      · have hr := hr.trans (if_pos c36)
        refine lv_aload_n hx hb dX5_place_39 rfl (lv_at hl 0 rfl) ?_
        refine va_get (D := D) (ci := 5) (v := .ref (md 1)) (C := RX5) (T := TX5) (N := 14) hx hb hts inX5 hown hK.1 hP 0 rfl rfl 0 (by decide) (hts (.fieldLink RX5 7 "GrayPointersModel" "all" "[I") (List.mem_of_getElem? (i := 1) rfl)) (fun _ h9 => h9) rfl dX5_place_40 ?_
        refine lv_bipush (v := (63 : Int32)) hx hb dX5_place_43 (by decide) ?_
        refine lv_iload_n hx hb dX5_place_45 rfl (lv_at hl 1 rfl) ?_
        refine lv_iadd hx hb dX5_place_46 ?_
        refine va_iald hx hb hK.1 hP 1 0 rfl rfl (i := ((63 : Int32) + a1)) (pl_in63 hk c13) dX5_place_47 ?_
        refine lv_goto (tgt := 53) hx hb dX5_place_48 (by decide) ?_
        exact endI (v := ((M 1) ((63 : Int32) + a1).toNatClampNeg)) hb hx hsg hr.symm hP hD hS dX5_place_53 hlocks
    · have hr := hr.trans (if_pos c19)
      refine lv_aload_n hx hb dX5_place_22 rfl (lv_at hl 0 rfl) ?_
      refine va_get (D := D) (ci := 5) (v := .ref (md 1)) (C := RX5) (T := TX5) (N := 14) hx hb hts inX5 hown hK.1 hP 0 rfl rfl 0 (by decide) (hts (.fieldLink RX5 7 "GrayPointersModel" "all" "[I") (List.mem_of_getElem? (i := 1) rfl)) (fun _ h9 => h9) rfl dX5_place_23 ?_
      refine lv_bipush (v := (47 : Int32)) hx hb dX5_place_26 (by decide) ?_
      refine lv_iload_n hx hb dX5_place_28 rfl (lv_at hl 1 rfl) ?_
      refine lv_iadd hx hb dX5_place_29 ?_
      refine va_iald hx hb hK.1 hP 1 0 rfl rfl (i := ((47 : Int32) + a1)) (pl_in47 hk c13) dX5_place_30 ?_
      refine lv_goto (tgt := 53) hx hb dX5_place_31 (by decide) ?_
      exact endI (v := ((M 1) ((47 : Int32) + a1).toNatClampNeg)) hb hx hsg hr.symm hP hD hS dX5_place_53 hlocks
  · have hr := hr.trans (if_pos c13)
    refine lv_iconst (v := (-1 : Int32)) hx hb dX5_place_16 (by decide) ?_
    exact endI (v := (-1 : Int32)) hb hx hsg hr.symm hP hD hS dX5_place_17 hlocks
def r_X5_count (M : CS) (a1 : Int32) : Int32 := (if a1 = (0 : Int32) then ((M 1) 2) else (if a1 = (1 : Int32) then ((M 1) 0) else (if a1 = (2 : Int32) then (r_X5_depth M) else (if a1 = (3 : Int32) then ((M 1) 1) else (if a1 = (4 : Int32) then (r_X5_around M ((r_X5_of M (0 : Int32) (3 : Int32)) - (r_X5_of M (1 : Int32) (3 : Int32)))) else (if a1 = (5 : Int32) then ((M 1) a1.toNatClampNeg) else (if a1 = (6 : Int32) then ((M 1) a1.toNatClampNeg) else (if a1 = (7 : Int32) then ((M 1) a1.toNatClampNeg) else (if a1 = (8 : Int32) then ((M 1) a1.toNatClampNeg) else (if a1 = (9 : Int32) then ((M 1) a1.toNatClampNeg) else (if a1 = (10 : Int32) then ((M 1) (((3 : Int32) + a1) - (10 : Int32)).toNatClampNeg) else (if a1 = (11 : Int32) then ((M 1) (((3 : Int32) + a1) - (10 : Int32)).toNatClampNeg) else (if a1 = (12 : Int32) then ((M 0) 4) else (if a1 = (13 : Int32) then ((M 0) 8) else (-2 : Int32)))))))))))))))
abbrev rm_X5_count : Room := { frames := 2, cells := 0, slots := 0, locals := 41 }
set_option maxHeartbeats 4000000 in
set_option maxRecDepth 100000 in
theorem c_X5_count (l : Launch) (D : va_G) (cI cC cS : ClassId) (md : Nat → Nat) (M : CS) (a1 : Int32)  : CI l D cI cC cS yX5_count wsX5_count rm_X5_count [.ref (md 0), .int a1] (mdW cI md M) (mdW cI md M) (r_X5_count M a1) := by
  intro sz
  refine startC (cc := cX5_count) (maxL := 2) (ret := (some .int)) (by decide) rfl (Nat.le_of_ble_eq_true rfl) ?_
  intro p e s m args below meth c hx hb hml hsg hts hown hlocks hin hK A hA hS hP hD ls hl
  have hown : s.vm.findClass RX5 = some m.cls := hown
  have hl : lv_has ls 2 [(0, .ref (md 0)), (1, .int a1)] := hl
  have hP : va_P D vwCl [((md 0), mdC md (M 0)), ((md 1), arC cI 96 (M 1)), ((md 2), arC cI 96 (M 2)), ((md 3), arC cI 96 (M 3)), ((md 4), arC cI 384 (M 4)), ((md 5), arC cI 96 (M 5)), ((md 6), arC cI 60 (M 6))] s.heap := hP
  have hD : va_D A [((md 0), mdC md (M 0)), ((md 1), arC cI 96 (M 1)), ((md 2), arC cI 96 (M 2)), ((md 3), arC cI 96 (M 3)), ((md 4), arC cI 384 (M 4)), ((md 5), arC cI 96 (M 5)), ((md 6), arC cI 60 (M 6))] := hD
  have inX5 : ∀ w ∈ wsX50, w ∈ wsX5_count := fun _ h => List.mem_cons_of_mem _ (List.mem_append_right _ h)
  have hr : (r_X5_count M a1) = (if a1 = (0 : Int32) then ((M 1) 2) else (if a1 = (1 : Int32) then ((M 1) 0) else (if a1 = (2 : Int32) then (r_X5_depth M) else (if a1 = (3 : Int32) then ((M 1) 1) else (if a1 = (4 : Int32) then (r_X5_around M ((r_X5_of M (0 : Int32) (3 : Int32)) - (r_X5_of M (1 : Int32) (3 : Int32)))) else (if a1 = (5 : Int32) then ((M 1) a1.toNatClampNeg) else (if a1 = (6 : Int32) then ((M 1) a1.toNatClampNeg) else (if a1 = (7 : Int32) then ((M 1) a1.toNatClampNeg) else (if a1 = (8 : Int32) then ((M 1) a1.toNatClampNeg) else (if a1 = (9 : Int32) then ((M 1) a1.toNatClampNeg) else (if a1 = (10 : Int32) then ((M 1) (((3 : Int32) + a1) - (10 : Int32)).toNatClampNeg) else (if a1 = (11 : Int32) then ((M 1) (((3 : Int32) + a1) - (10 : Int32)).toNatClampNeg) else (if a1 = (12 : Int32) then ((M 0) 4) else (if a1 = (13 : Int32) then ((M 0) 8) else (-2 : Int32))))))))))))))) := rfl
  refine lv_iload_n hx hb dX5_count_0 rfl (lv_at hl 1 rfl) ?_
  by_cases c1_0 : a1 = (0 : Int32)
  · refine lv_tableIn (off := 71) (tgt := 72) hx hb dX5_count_1 (by rw [c1_0]; decide) (by rw [c1_0]; decide) (by rw [c1_0]; rfl) (by decide) ?_
    have hr := hr.trans (if_pos c1_0)
    refine lv_aload_n hx hb dX5_count_72 rfl (lv_at hl 0 rfl) ?_
    refine va_get (D := D) (ci := 5) (v := .ref (md 1)) (C := RX5) (T := TX5) (N := 14) hx hb hts inX5 hown hK.1 hP 0 rfl rfl 0 (by decide) (hts (.fieldLink RX5 7 "GrayPointersModel" "all" "[I") (List.mem_of_getElem? (i := 1) rfl)) (fun _ h9 => h9) rfl dX5_count_73 ?_
    refine lv_iconst (v := (2 : Int32)) hx hb dX5_count_76 (by decide) ?_
    refine va_iald hx hb hK.1 hP 1 0 rfl rfl (i := (2 : Int32)) (vp_in_iff.mpr (by decide)) dX5_count_77 ?_
    refine W.eq (g2 := F0 m 78 ls [.int ((M 1) 2)]) rfl ?_
    exact endI (v := ((M 1) 2)) hb hx hsg hr.symm hP hD hS dX5_count_78 hlocks
  · skip
    have hr := hr.trans (if_neg c1_0)
    by_cases c1_1 : a1 = (1 : Int32)
    · refine lv_tableIn (off := 78) (tgt := 79) hx hb dX5_count_1 (by rw [c1_1]; decide) (by rw [c1_1]; decide) (by rw [c1_1]; rfl) (by decide) ?_
      have hr := hr.trans (if_pos c1_1)
      refine lv_aload_n hx hb dX5_count_79 rfl (lv_at hl 0 rfl) ?_
      refine va_get (D := D) (ci := 5) (v := .ref (md 1)) (C := RX5) (T := TX5) (N := 14) hx hb hts inX5 hown hK.1 hP 0 rfl rfl 0 (by decide) (hts (.fieldLink RX5 7 "GrayPointersModel" "all" "[I") (List.mem_of_getElem? (i := 1) rfl)) (fun _ h9 => h9) rfl dX5_count_80 ?_
      refine lv_iconst (v := (0 : Int32)) hx hb dX5_count_83 (by decide) ?_
      refine va_iald hx hb hK.1 hP 1 0 rfl rfl (i := (0 : Int32)) (vp_in_iff.mpr (by decide)) dX5_count_84 ?_
      refine W.eq (g2 := F0 m 85 ls [.int ((M 1) 0)]) rfl ?_
      exact endI (v := ((M 1) 0)) hb hx hsg hr.symm hP hD hS dX5_count_85 hlocks
    · skip
      have hr := hr.trans (if_neg c1_1)
      by_cases c1_2 : a1 = (2 : Int32)
      · refine lv_tableIn (off := 85) (tgt := 86) hx hb dX5_count_1 (by rw [c1_2]; decide) (by rw [c1_2]; decide) (by rw [c1_2]; rfl) (by decide) ?_
        have hr := hr.trans (if_pos c1_2)
        refine lv_aload_n hx hb dX5_count_86 rfl (lv_at hl 0 rfl) ?_
        refine goI (n := 7) (ws' := [((md 0), mdC md (M 0)), ((md 1), arC cI 96 (M 1)), ((md 2), arC cI 96 (M 2)), ((md 3), arC cI 96 (M 3)), ((md 4), arC cI 384 (M 4)), ((md 5), arC cI 96 (M 5)), ((md 6), arC cI 60 (M 6))]) (rs := []) (va_runV (As := []) (rest := []) ⟨hx, hb, hml, hown, hts⟩ (c_X5_depth l D cI cC cS md M  _) (cwV 0 hts gX5_count_X5_depth rfl rfl rfl (by decide +kernel) ⟨Nat.le_of_ble_eq_true rfl, Nat.le_of_ble_eq_true rfl⟩) (preV hK hP hD [0, 1, 2, 3, 4, 5, 6] (by decide) rfl 0 5 rfl rfl) rfl rfl hl.1 rfl (lv_room (Nat.le_of_ble_eq_true rfl)) dX5_count_87 ⟨Nat.zero_le _, Nat.zero_le _⟩) hP hD hS hA [0, 1, 2, 3, 4, 5, 6] [] rfl rfl rfl rfl rfl (by decide +kernel) rfl (fun H locs hP hD hS => ?_)
        exact endI (v := (r_X5_depth M)) hb hx hsg hr.symm hP hD hS dX5_count_90 hlocks
      · skip
        have hr := hr.trans (if_neg c1_2)
        by_cases c1_3 : a1 = (3 : Int32)
        · refine lv_tableIn (off := 90) (tgt := 91) hx hb dX5_count_1 (by rw [c1_3]; decide) (by rw [c1_3]; decide) (by rw [c1_3]; rfl) (by decide) ?_
          have hr := hr.trans (if_pos c1_3)
          refine lv_aload_n hx hb dX5_count_91 rfl (lv_at hl 0 rfl) ?_
          refine va_get (D := D) (ci := 5) (v := .ref (md 1)) (C := RX5) (T := TX5) (N := 14) hx hb hts inX5 hown hK.1 hP 0 rfl rfl 0 (by decide) (hts (.fieldLink RX5 7 "GrayPointersModel" "all" "[I") (List.mem_of_getElem? (i := 1) rfl)) (fun _ h9 => h9) rfl dX5_count_92 ?_
          refine lv_iconst (v := (1 : Int32)) hx hb dX5_count_95 (by decide) ?_
          refine va_iald hx hb hK.1 hP 1 0 rfl rfl (i := (1 : Int32)) (vp_in_iff.mpr (by decide)) dX5_count_96 ?_
          refine W.eq (g2 := F0 m 97 ls [.int ((M 1) 1)]) rfl ?_
          exact endI (v := ((M 1) 1)) hb hx hsg hr.symm hP hD hS dX5_count_97 hlocks
        · skip
          have hr := hr.trans (if_neg c1_3)
          by_cases c1_4 : a1 = (4 : Int32)
          · refine lv_tableIn (off := 97) (tgt := 98) hx hb dX5_count_1 (by rw [c1_4]; decide) (by rw [c1_4]; decide) (by rw [c1_4]; rfl) (by decide) ?_
            have hr := hr.trans (if_pos c1_4)
            refine lv_aload_n hx hb dX5_count_98 rfl (lv_at hl 0 rfl) ?_
            refine lv_aload_n hx hb dX5_count_99 rfl (lv_at hl 0 rfl) ?_
            refine lv_iconst (v := (0 : Int32)) hx hb dX5_count_100 (by decide) ?_
            refine lv_iconst (v := (3 : Int32)) hx hb dX5_count_101 (by decide) ?_
            refine goI (n := 7) (ws' := [((md 0), mdC md (M 0)), ((md 1), arC cI 96 (M 1)), ((md 2), arC cI 96 (M 2)), ((md 3), arC cI 96 (M 3)), ((md 4), arC cI 384 (M 4)), ((md 5), arC cI 96 (M 5)), ((md 6), arC cI 60 (M 6))]) (rs := []) (va_runV (As := [.int (0 : Int32), .int (3 : Int32)]) (rest := [.ref (md 0)]) ⟨hx, hb, hml, hown, hts⟩ (c_X5_of l D cI cC cS md M (0 : Int32) (3 : Int32) (vp_in_iff.mpr (by decide)) _) (cwV 2 hts gX5_count_X5_of rfl rfl rfl (by decide +kernel) ⟨Nat.le_of_ble_eq_true rfl, Nat.le_of_ble_eq_true rfl⟩) (preV hK hP hD [0, 1, 2, 3, 4, 5, 6] (by decide) rfl 0 5 rfl rfl) rfl rfl hl.1 rfl (lv_room (Nat.le_of_ble_eq_true rfl)) dX5_count_102 ⟨Nat.zero_le _, Nat.zero_le _⟩) hP hD hS hA [0, 1, 2, 3, 4, 5, 6] [] rfl rfl rfl rfl rfl (by decide +kernel) rfl (fun H locs hP hD hS => ?_)
            refine lv_aload_n hx hb dX5_count_105 rfl (lv_at hl 0 rfl) ?_
            refine lv_iconst (v := (1 : Int32)) hx hb dX5_count_106 (by decide) ?_
            refine lv_iconst (v := (3 : Int32)) hx hb dX5_count_107 (by decide) ?_
            refine goI (n := 7) (ws' := [((md 0), mdC md (M 0)), ((md 1), arC cI 96 (M 1)), ((md 2), arC cI 96 (M 2)), ((md 3), arC cI 96 (M 3)), ((md 4), arC cI 384 (M 4)), ((md 5), arC cI 96 (M 5)), ((md 6), arC cI 60 (M 6))]) (rs := []) (va_runV (As := [.int (1 : Int32), .int (3 : Int32)]) (rest := [.int (r_X5_of M (0 : Int32) (3 : Int32)), .ref (md 0)]) ⟨hx, hb, hml, hown, hts⟩ (c_X5_of l D cI cC cS md M (1 : Int32) (3 : Int32) (vp_in_iff.mpr (by decide)) _) (cwV 2 hts gX5_count_X5_of rfl rfl rfl (by decide +kernel) ⟨Nat.le_of_ble_eq_true rfl, Nat.le_of_ble_eq_true rfl⟩) (preV hK hP hD [0, 1, 2, 3, 4, 5, 6] (by decide) rfl 0 5 rfl rfl) rfl rfl hl.1 rfl (lv_room (Nat.le_of_ble_eq_true rfl)) dX5_count_108 ⟨Nat.zero_le _, Nat.zero_le _⟩) hP hD hS hA [0, 1, 2, 3, 4, 5, 6] [] rfl rfl rfl rfl rfl (by decide +kernel) rfl (fun H locs hP hD hS => ?_)
            refine lv_isub hx hb dX5_count_111 ?_
            refine goI (n := 7) (ws' := [((md 0), mdC md (M 0)), ((md 1), arC cI 96 (M 1)), ((md 2), arC cI 96 (M 2)), ((md 3), arC cI 96 (M 3)), ((md 4), arC cI 384 (M 4)), ((md 5), arC cI 96 (M 5)), ((md 6), arC cI 60 (M 6))]) (rs := []) (va_runV (As := [.int ((r_X5_of M (0 : Int32) (3 : Int32)) - (r_X5_of M (1 : Int32) (3 : Int32)))]) (rest := []) ⟨hx, hb, hml, hown, hts⟩ (c_X5_around l D cI cC cS md M ((r_X5_of M (0 : Int32) (3 : Int32)) - (r_X5_of M (1 : Int32) (3 : Int32)))  _) (cwV 1 hts gX5_count_X5_around rfl rfl rfl (by decide +kernel) ⟨Nat.le_of_ble_eq_true rfl, Nat.le_of_ble_eq_true rfl⟩) (preV hK hP hD [0, 1, 2, 3, 4, 5, 6] (by decide) rfl 0 5 rfl rfl) rfl rfl hl.1 rfl (lv_room (Nat.le_of_ble_eq_true rfl)) dX5_count_112 ⟨Nat.zero_le _, Nat.zero_le _⟩) hP hD hS hA [0, 1, 2, 3, 4, 5, 6] [] rfl rfl rfl rfl rfl (by decide +kernel) rfl (fun H locs hP hD hS => ?_)
            exact endI (v := (r_X5_around M ((r_X5_of M (0 : Int32) (3 : Int32)) - (r_X5_of M (1 : Int32) (3 : Int32))))) hb hx hsg hr.symm hP hD hS dX5_count_115 hlocks
          · skip
            have hr := hr.trans (if_neg c1_4)
            by_cases c1_5 : a1 = (5 : Int32)
            · refine lv_tableIn (off := 115) (tgt := 116) hx hb dX5_count_1 (by rw [c1_5]; decide) (by rw [c1_5]; decide) (by rw [c1_5]; rfl) (by decide) ?_
              have hr := hr.trans (if_pos c1_5)
              refine lv_aload_n hx hb dX5_count_116 rfl (lv_at hl 0 rfl) ?_
              refine va_get (D := D) (ci := 5) (v := .ref (md 1)) (C := RX5) (T := TX5) (N := 14) hx hb hts inX5 hown hK.1 hP 0 rfl rfl 0 (by decide) (hts (.fieldLink RX5 7 "GrayPointersModel" "all" "[I") (List.mem_of_getElem? (i := 1) rfl)) (fun _ h9 => h9) rfl dX5_count_117 ?_
              refine lv_iload_n hx hb dX5_count_120 rfl (lv_at hl 1 rfl) ?_
              refine va_iald hx hb hK.1 hP 1 0 rfl rfl (i := a1) (by first | (rw [c1_5]; exact vp_in_iff.mpr (by decide)) | (rw [c1_6]; exact vp_in_iff.mpr (by decide)) | (rw [c1_7]; exact vp_in_iff.mpr (by decide)) | (rw [c1_8]; exact vp_in_iff.mpr (by decide)) | (rw [c1_9]; exact vp_in_iff.mpr (by decide))) dX5_count_121 ?_
              exact endI (v := ((M 1) a1.toNatClampNeg)) hb hx hsg hr.symm hP hD hS dX5_count_122 hlocks
            · skip
              have hr := hr.trans (if_neg c1_5)
              by_cases c1_6 : a1 = (6 : Int32)
              · refine lv_tableIn (off := 115) (tgt := 116) hx hb dX5_count_1 (by rw [c1_6]; decide) (by rw [c1_6]; decide) (by rw [c1_6]; rfl) (by decide) ?_
                have hr := hr.trans (if_pos c1_6)
                refine lv_aload_n hx hb dX5_count_116 rfl (lv_at hl 0 rfl) ?_
                refine va_get (D := D) (ci := 5) (v := .ref (md 1)) (C := RX5) (T := TX5) (N := 14) hx hb hts inX5 hown hK.1 hP 0 rfl rfl 0 (by decide) (hts (.fieldLink RX5 7 "GrayPointersModel" "all" "[I") (List.mem_of_getElem? (i := 1) rfl)) (fun _ h9 => h9) rfl dX5_count_117 ?_
                refine lv_iload_n hx hb dX5_count_120 rfl (lv_at hl 1 rfl) ?_
                refine va_iald hx hb hK.1 hP 1 0 rfl rfl (i := a1) (by first | (rw [c1_5]; exact vp_in_iff.mpr (by decide)) | (rw [c1_6]; exact vp_in_iff.mpr (by decide)) | (rw [c1_7]; exact vp_in_iff.mpr (by decide)) | (rw [c1_8]; exact vp_in_iff.mpr (by decide)) | (rw [c1_9]; exact vp_in_iff.mpr (by decide))) dX5_count_121 ?_
                exact endI (v := ((M 1) a1.toNatClampNeg)) hb hx hsg hr.symm hP hD hS dX5_count_122 hlocks
              · skip
                have hr := hr.trans (if_neg c1_6)
                by_cases c1_7 : a1 = (7 : Int32)
                · refine lv_tableIn (off := 115) (tgt := 116) hx hb dX5_count_1 (by rw [c1_7]; decide) (by rw [c1_7]; decide) (by rw [c1_7]; rfl) (by decide) ?_
                  have hr := hr.trans (if_pos c1_7)
                  refine lv_aload_n hx hb dX5_count_116 rfl (lv_at hl 0 rfl) ?_
                  refine va_get (D := D) (ci := 5) (v := .ref (md 1)) (C := RX5) (T := TX5) (N := 14) hx hb hts inX5 hown hK.1 hP 0 rfl rfl 0 (by decide) (hts (.fieldLink RX5 7 "GrayPointersModel" "all" "[I") (List.mem_of_getElem? (i := 1) rfl)) (fun _ h9 => h9) rfl dX5_count_117 ?_
                  refine lv_iload_n hx hb dX5_count_120 rfl (lv_at hl 1 rfl) ?_
                  refine va_iald hx hb hK.1 hP 1 0 rfl rfl (i := a1) (by first | (rw [c1_5]; exact vp_in_iff.mpr (by decide)) | (rw [c1_6]; exact vp_in_iff.mpr (by decide)) | (rw [c1_7]; exact vp_in_iff.mpr (by decide)) | (rw [c1_8]; exact vp_in_iff.mpr (by decide)) | (rw [c1_9]; exact vp_in_iff.mpr (by decide))) dX5_count_121 ?_
                  exact endI (v := ((M 1) a1.toNatClampNeg)) hb hx hsg hr.symm hP hD hS dX5_count_122 hlocks
                · skip
                  have hr := hr.trans (if_neg c1_7)
                  by_cases c1_8 : a1 = (8 : Int32)
                  · refine lv_tableIn (off := 115) (tgt := 116) hx hb dX5_count_1 (by rw [c1_8]; decide) (by rw [c1_8]; decide) (by rw [c1_8]; rfl) (by decide) ?_
                    have hr := hr.trans (if_pos c1_8)
                    refine lv_aload_n hx hb dX5_count_116 rfl (lv_at hl 0 rfl) ?_
                    refine va_get (D := D) (ci := 5) (v := .ref (md 1)) (C := RX5) (T := TX5) (N := 14) hx hb hts inX5 hown hK.1 hP 0 rfl rfl 0 (by decide) (hts (.fieldLink RX5 7 "GrayPointersModel" "all" "[I") (List.mem_of_getElem? (i := 1) rfl)) (fun _ h9 => h9) rfl dX5_count_117 ?_
                    refine lv_iload_n hx hb dX5_count_120 rfl (lv_at hl 1 rfl) ?_
                    refine va_iald hx hb hK.1 hP 1 0 rfl rfl (i := a1) (by first | (rw [c1_5]; exact vp_in_iff.mpr (by decide)) | (rw [c1_6]; exact vp_in_iff.mpr (by decide)) | (rw [c1_7]; exact vp_in_iff.mpr (by decide)) | (rw [c1_8]; exact vp_in_iff.mpr (by decide)) | (rw [c1_9]; exact vp_in_iff.mpr (by decide))) dX5_count_121 ?_
                    exact endI (v := ((M 1) a1.toNatClampNeg)) hb hx hsg hr.symm hP hD hS dX5_count_122 hlocks
                  · skip
                    have hr := hr.trans (if_neg c1_8)
                    by_cases c1_9 : a1 = (9 : Int32)
                    · refine lv_tableIn (off := 115) (tgt := 116) hx hb dX5_count_1 (by rw [c1_9]; decide) (by rw [c1_9]; decide) (by rw [c1_9]; rfl) (by decide) ?_
                      have hr := hr.trans (if_pos c1_9)
                      refine lv_aload_n hx hb dX5_count_116 rfl (lv_at hl 0 rfl) ?_
                      refine va_get (D := D) (ci := 5) (v := .ref (md 1)) (C := RX5) (T := TX5) (N := 14) hx hb hts inX5 hown hK.1 hP 0 rfl rfl 0 (by decide) (hts (.fieldLink RX5 7 "GrayPointersModel" "all" "[I") (List.mem_of_getElem? (i := 1) rfl)) (fun _ h9 => h9) rfl dX5_count_117 ?_
                      refine lv_iload_n hx hb dX5_count_120 rfl (lv_at hl 1 rfl) ?_
                      refine va_iald hx hb hK.1 hP 1 0 rfl rfl (i := a1) (by first | (rw [c1_5]; exact vp_in_iff.mpr (by decide)) | (rw [c1_6]; exact vp_in_iff.mpr (by decide)) | (rw [c1_7]; exact vp_in_iff.mpr (by decide)) | (rw [c1_8]; exact vp_in_iff.mpr (by decide)) | (rw [c1_9]; exact vp_in_iff.mpr (by decide))) dX5_count_121 ?_
                      exact endI (v := ((M 1) a1.toNatClampNeg)) hb hx hsg hr.symm hP hD hS dX5_count_122 hlocks
                    · skip
                      have hr := hr.trans (if_neg c1_9)
                      by_cases c1_10 : a1 = (10 : Int32)
                      · refine lv_tableIn (off := 122) (tgt := 123) hx hb dX5_count_1 (by rw [c1_10]; decide) (by rw [c1_10]; decide) (by rw [c1_10]; rfl) (by decide) ?_
                        have hr := hr.trans (if_pos c1_10)
                        refine lv_aload_n hx hb dX5_count_123 rfl (lv_at hl 0 rfl) ?_
                        refine va_get (D := D) (ci := 5) (v := .ref (md 1)) (C := RX5) (T := TX5) (N := 14) hx hb hts inX5 hown hK.1 hP 0 rfl rfl 0 (by decide) (hts (.fieldLink RX5 7 "GrayPointersModel" "all" "[I") (List.mem_of_getElem? (i := 1) rfl)) (fun _ h9 => h9) rfl dX5_count_124 ?_
                        refine lv_iconst (v := (3 : Int32)) hx hb dX5_count_127 (by decide) ?_
                        refine lv_iload_n hx hb dX5_count_128 rfl (lv_at hl 1 rfl) ?_
                        refine lv_iadd hx hb dX5_count_129 ?_
                        refine lv_bipush (v := (10 : Int32)) hx hb dX5_count_130 (by decide) ?_
                        refine lv_isub hx hb dX5_count_132 ?_
                        refine va_iald hx hb hK.1 hP 1 0 rfl rfl (i := (((3 : Int32) + a1) - (10 : Int32))) (by first | (rw [c1_10]; exact vp_in_iff.mpr (by decide)) | (rw [c1_11]; exact vp_in_iff.mpr (by decide))) dX5_count_133 ?_
                        exact endI (v := ((M 1) (((3 : Int32) + a1) - (10 : Int32)).toNatClampNeg)) hb hx hsg hr.symm hP hD hS dX5_count_134 hlocks
                      · skip
                        have hr := hr.trans (if_neg c1_10)
                        by_cases c1_11 : a1 = (11 : Int32)
                        · refine lv_tableIn (off := 122) (tgt := 123) hx hb dX5_count_1 (by rw [c1_11]; decide) (by rw [c1_11]; decide) (by rw [c1_11]; rfl) (by decide) ?_
                          have hr := hr.trans (if_pos c1_11)
                          refine lv_aload_n hx hb dX5_count_123 rfl (lv_at hl 0 rfl) ?_
                          refine va_get (D := D) (ci := 5) (v := .ref (md 1)) (C := RX5) (T := TX5) (N := 14) hx hb hts inX5 hown hK.1 hP 0 rfl rfl 0 (by decide) (hts (.fieldLink RX5 7 "GrayPointersModel" "all" "[I") (List.mem_of_getElem? (i := 1) rfl)) (fun _ h9 => h9) rfl dX5_count_124 ?_
                          refine lv_iconst (v := (3 : Int32)) hx hb dX5_count_127 (by decide) ?_
                          refine lv_iload_n hx hb dX5_count_128 rfl (lv_at hl 1 rfl) ?_
                          refine lv_iadd hx hb dX5_count_129 ?_
                          refine lv_bipush (v := (10 : Int32)) hx hb dX5_count_130 (by decide) ?_
                          refine lv_isub hx hb dX5_count_132 ?_
                          refine va_iald hx hb hK.1 hP 1 0 rfl rfl (i := (((3 : Int32) + a1) - (10 : Int32))) (by first | (rw [c1_10]; exact vp_in_iff.mpr (by decide)) | (rw [c1_11]; exact vp_in_iff.mpr (by decide))) dX5_count_133 ?_
                          exact endI (v := ((M 1) (((3 : Int32) + a1) - (10 : Int32)).toNatClampNeg)) hb hx hsg hr.symm hP hD hS dX5_count_134 hlocks
                        · skip
                          have hr := hr.trans (if_neg c1_11)
                          by_cases c1_12 : a1 = (12 : Int32)
                          · refine lv_tableIn (off := 134) (tgt := 135) hx hb dX5_count_1 (by rw [c1_12]; decide) (by rw [c1_12]; decide) (by rw [c1_12]; rfl) (by decide) ?_
                            have hr := hr.trans (if_pos c1_12)
                            refine lv_aload_n hx hb dX5_count_135 rfl (lv_at hl 0 rfl) ?_
                            refine va_get (D := D) (ci := 5) (v := .int ((M 0) 4)) (C := RX5) (T := TX5) (N := 14) hx hb hts inX5 hown hK.1 hP 0 rfl rfl 4 (by decide) (hts (.fieldLink RX5 36 "GrayPointersModel" "historyLong" "I") (List.mem_of_getElem? (i := 2) rfl)) (fun _ h9 => h9) rfl dX5_count_136 ?_
                            exact endI (v := ((M 0) 4)) hb hx hsg hr.symm hP hD hS dX5_count_139 hlocks
                          · skip
                            have hr := hr.trans (if_neg c1_12)
                            by_cases c1_13 : a1 = (13 : Int32)
                            · refine lv_tableIn (off := 139) (tgt := 140) hx hb dX5_count_1 (by rw [c1_13]; decide) (by rw [c1_13]; decide) (by rw [c1_13]; rfl) (by decide) ?_
                              have hr := hr.trans (if_pos c1_13)
                              refine lv_aload_n hx hb dX5_count_140 rfl (lv_at hl 0 rfl) ?_
                              refine va_get (D := D) (ci := 5) (v := .int ((M 0) 8)) (C := RX5) (T := TX5) (N := 14) hx hb hts inX5 hown hK.1 hP 0 rfl rfl 8 (by decide) (hts (.fieldLink RX5 135 "GrayPointersModel" "textLong" "I") (List.mem_of_getElem? (i := 3) rfl)) (fun _ h9 => h9) rfl dX5_count_141 ?_
                              exact endI (v := ((M 0) 8)) hb hx hsg hr.symm hP hD hS dX5_count_144 hlocks
                            · skip
                              have hr := hr.trans (if_neg c1_13)
                              refine lv_tableOut (tgt := 145) hx hb dX5_count_1 (sw_out14 c1_0 c1_1 c1_2 c1_3 c1_4 c1_5 c1_6 c1_7 c1_8 c1_9 c1_10 c1_11 c1_12 c1_13) (by decide) ?_
                              refine lv_bipush (v := (-2 : Int32)) hx hb dX5_count_145 (by decide) ?_
                              exact endI (v := (-2 : Int32)) hb hx hsg hr.symm hP hD hS dX5_count_147 hlocks
