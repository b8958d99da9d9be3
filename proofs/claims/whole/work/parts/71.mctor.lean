abbrev rm_X5_init : Room := { frames := 3, cells := 6, slots := 828, locals := 120 }
set_option maxHeartbeats 4000000 in
set_option maxRecDepth 100000 in
theorem c_X5_init (l : Launch) (D : va_G) (cI cC cS : ClassId) (h : Nat)  : ∀ sz, Met l yX5_init wsX5_init rm_X5_init (va_Pc [.ref h] (CPre D cI cC cS [(h, .inr (5, [.null, .null, .null, .null, .int 0, .null, .int 0, .null, .int 0, .int 0, .int 0, .int 0, .int 0, .int 0]))] sz)) (va_Qv (fun u : Nat → Nat => u 0 = h) (fun u t => va_P D vwCl (mdW cI u (p_X5_builds mdI 2 1)) t.heap ∧ va_D (va_A [(h, .inr (5, [.null, .null, .null, .null, .int 0, .null, .int 0, .null, .int 0, .int 0, .int 0, .int 0, .int 0, .int 0]))] sz) (mdW cI u (p_X5_builds mdI 2 1))) (va_A [(h, .inr (5, [.null, .null, .null, .null, .int 0, .null, .int 0, .null, .int 0, .int 0, .int 0, .int 0, .int 0, .int 0]))] sz)) 6 828 (va_A [(h, .inr (5, [.null, .null, .null, .null, .int 0, .null, .int 0, .null, .int 0, .int 0, .int 0, .int 0, .int 0, .int 0]))] sz) := by
  intro sz
  refine startN (Qf := fun A => va_Qv (fun u : Nat → Nat => u 0 = h) (fun u t => va_P D vwCl (mdW cI u (p_X5_builds mdI 2 1)) t.heap ∧ va_D A (mdW cI u (p_X5_builds mdI 2 1))) A) (cc := cX5_init) (maxL := 1) (ret := none) (by decide) rfl (Nat.le_of_ble_eq_true rfl) ?_
  intro p e s m args below meth c hx hb hml hsg hts hown hlocks hin hK A hA hS hP hD ls hl
  have hown : s.vm.findClass RX5 = some m.cls := hown
  have hl : lv_has ls 1 [(0, .ref h)] := hl
  have hP : va_P D vwCl [(h, .inr (5, [.null, .null, .null, .null, .int 0, .null, .int 0, .null, .int 0, .int 0, .int 0, .int 0, .int 0, .int 0]))] s.heap := hP
  have hD : va_D A [(h, .inr (5, [.null, .null, .null, .null, .int 0, .null, .int 0, .null, .int 0, .int 0, .int 0, .int 0, .int 0, .int 0]))] := hD
  have inX5 : ∀ w ∈ wsX50, w ∈ wsX5_init := fun _ h => List.mem_cons_of_mem _ (List.mem_append_right _ h)
  refine lv_aload_n hx hb dX5_init_0 rfl (lv_at hl 0 rfl) ?_
  refine W.objInit hx hb hown (hts (.methodLink RX5 1 objectInit) (List.mem_of_getElem? (i := 1) rfl)) (hts (.instanceMethod objectInit) (List.mem_of_getElem? (i := 2) rfl)) (hts (.code objectInit ⟨#[0xb1]⟩ 1 none) (List.mem_of_getElem? (i := 3) rfl)) rfl (by rw [hml]; exact hl.1) rfl dX5_init_1 (Nat.le_of_ble_eq_true rfl) (Nat.le_of_ble_eq_true rfl) ?_
  refine W.eq (g2 := F0 m 4 ls []) rfl ?_
  refine lv_aload_n hx hb dX5_init_4 rfl (lv_at hl 0 rfl) ?_
  refine lv_bipush (v := (96 : Int32)) hx hb dX5_init_5 (by decide) ?_
  refine va_newa (atype := .int) (ty := .int) (a0 := (96, .inl (fun _ => 0))) hx hb (hts (.arrayClass .int) (List.mem_of_getElem? (i := 4) rfl)) rfl hK.1 hP hD hS hA (fun _ => rfl) (by decide) (N' := 96) (by decide) (Nat.le_of_ble_eq_true rfl) (Nat.le_of_ble_eq_true rfl) (Nat.le_of_ble_eq_true rfl) dX5_init_7 (fun q1 cA H hK9 hP hD hS => ?_)
  obtain rfl := (same_i hK hK9).symm
  have hP : va_P D vwCl [(h, .inr (5, [.null, .null, .null, .null, .int 0, .null, .int 0, .null, .int 0, .int 0, .int 0, .int 0, .int 0, .int 0])), (q1, arC cI 96 (fun _ => 0))] H := hP
  have hD : va_D A [(h, .inr (5, [.null, .null, .null, .null, .int 0, .null, .int 0, .null, .int 0, .int 0, .int 0, .int 0, .int 0, .int 0])), (q1, arC cI 96 (fun _ => 0))] := hD
  refine W.widen (k := 1) (n := 96) (Nat.le_of_ble_eq_true rfl) (Nat.le_of_ble_eq_true rfl) ?_
  refine va_putF (D := D) (ci := 5) (v := .ref q1) (ty := (.array .int)) (C := RX5) (T := TX5) (N := 14) hx hb hts inX5 tyX5 tyX5_ok nmX5 hown hK.1 hP hD hS 0 rfl rfl 0 (by decide) (hts (.fieldLink RX5 7 "GrayPointersModel" "all" "[I") (List.mem_of_getElem? (i := 5) rfl)) (fun _ h9 => h9) rfl hin rfl (by decide +kernel) rfl rfl (Nat.le_of_ble_eq_true rfl) dX5_init_9 (fun H locs hP hD hS => ?_)
  have hP : va_P D vwCl [(h, .inr (5, [.ref q1, .null, .null, .null, .int 0, .null, .int 0, .null, .int 0, .int 0, .int 0, .int 0, .int 0, .int 0])), (q1, arC cI 96 (fun _ => 0))] H := hP
  have hD : va_D A [(h, .inr (5, [.ref q1, .null, .null, .null, .int 0, .null, .int 0, .null, .int 0, .int 0, .int 0, .int 0, .int 0, .int 0])), (q1, arC cI 96 (fun _ => 0))] := hD
  refine lv_aload_n hx hb dX5_init_12 rfl (lv_at hl 0 rfl) ?_
  refine lv_bipush (v := (96 : Int32)) hx hb dX5_init_13 (by decide) ?_
  refine va_newa (atype := .int) (ty := .int) (a0 := (96, .inl (fun _ => 0))) hx hb (hts (.arrayClass .int) (List.mem_of_getElem? (i := 4) rfl)) rfl hK.1 hP hD hS hA (fun _ => rfl) (by decide) (N' := 96) (by decide) (Nat.le_of_ble_eq_true rfl) (Nat.le_of_ble_eq_true rfl) (Nat.le_of_ble_eq_true rfl) dX5_init_15 (fun q2 cA H hK9 hP hD hS => ?_)
  obtain rfl := (same_i hK hK9).symm
  have hP : va_P D vwCl [(h, .inr (5, [.ref q1, .null, .null, .null, .int 0, .null, .int 0, .null, .int 0, .int 0, .int 0, .int 0, .int 0, .int 0])), (q1, arC cI 96 (fun _ => 0)), (q2, arC cI 96 (fun _ => 0))] H := hP
  have hD : va_D A [(h, .inr (5, [.ref q1, .null, .null, .null, .int 0, .null, .int 0, .null, .int 0, .int 0, .int 0, .int 0, .int 0, .int 0])), (q1, arC cI 96 (fun _ => 0)), (q2, arC cI 96 (fun _ => 0))] := hD
  refine W.widen (k := 2) (n := 192) (Nat.le_of_ble_eq_true rfl) (Nat.le_of_ble_eq_true rfl) ?_
  refine va_putF (D := D) (ci := 5) (v := .ref q2) (ty := (.array .int)) (C := RX5) (T := TX5) (N := 14) hx hb hts inX5 tyX5 tyX5_ok nmX5 hown hK.1 hP hD hS 0 rfl rfl 1 (by decide) (hts (.fieldLink RX5 13 "GrayPointersModel" "kept" "[I") (List.mem_of_getElem? (i := 6) rfl)) (fun _ h9 => h9) rfl hin rfl (by decide +kernel) rfl rfl (Nat.le_of_ble_eq_true rfl) dX5_init_17 (fun H locs hP hD hS => ?_)
  have hP : va_P D vwCl [(h, .inr (5, [.ref q1, .ref q2, .null, .null, .int 0, .null, .int 0, .null, .int 0, .int 0, .int 0, .int 0, .int 0, .int 0])), (q1, arC cI 96 (fun _ => 0)), (q2, arC cI 96 (fun _ => 0))] H := hP
  have hD : va_D A [(h, .inr (5, [.ref q1, .ref q2, .null, .null, .int 0, .null, .int 0, .null, .int 0, .int 0, .int 0, .int 0, .int 0, .int 0])), (q1, arC cI 96 (fun _ => 0)), (q2, arC cI 96 (fun _ => 0))] := hD
  refine lv_aload_n hx hb dX5_init_20 rfl (lv_at hl 0 rfl) ?_
  refine lv_bipush (v := (96 : Int32)) hx hb dX5_init_21 (by decide) ?_
  refine va_newa (atype := .int) (ty := .int) (a0 := (96, .inl (fun _ => 0))) hx hb (hts (.arrayClass .int) (List.mem_of_getElem? (i := 4) rfl)) rfl hK.1 hP hD hS hA (fun _ => rfl) (by decide) (N' := 96) (by decide) (Nat.le_of_ble_eq_true rfl) (Nat.le_of_ble_eq_true rfl) (Nat.le_of_ble_eq_true rfl) dX5_init_23 (fun q3 cA H hK9 hP hD hS => ?_)
  obtain rfl := (same_i hK hK9).symm
  have hP : va_P D vwCl [(h, .inr (5, [.ref q1, .ref q2, .null, .null, .int 0, .null, .int 0, .null, .int 0, .int 0, .int 0, .int 0, .int 0, .int 0])), (q1, arC cI 96 (fun _ => 0)), (q2, arC cI 96 (fun _ => 0)), (q3, arC cI 96 (fun _ => 0))] H := hP
  have hD : va_D A [(h, .inr (5, [.ref q1, .ref q2, .null, .null, .int 0, .null, .int 0, .null, .int 0, .int 0, .int 0, .int 0, .int 0, .int 0])), (q1, arC cI 96 (fun _ => 0)), (q2, arC cI 96 (fun _ => 0)), (q3, arC cI 96 (fun _ => 0))] := hD
  refine W.widen (k := 3) (n := 288) (Nat.le_of_ble_eq_true rfl) (Nat.le_of_ble_eq_true rfl) ?_
  refine va_putF (D := D) (ci := 5) (v := .ref q3) (ty := (.array .int)) (C := RX5) (T := TX5) (N := 14) hx hb hts inX5 tyX5 tyX5_ok nmX5 hown hK.1 hP hD hS 0 rfl rfl 2 (by decide) (hts (.fieldLink RX5 16 "GrayPointersModel" "tried" "[I") (List.mem_of_getElem? (i := 7) rfl)) (fun _ h9 => h9) rfl hin rfl (by decide +kernel) rfl rfl (Nat.le_of_ble_eq_true rfl) dX5_init_25 (fun H locs hP hD hS => ?_)
  have hP : va_P D vwCl [(h, .inr (5, [.ref q1, .ref q2, .ref q3, .null, .int 0, .null, .int 0, .null, .int 0, .int 0, .int 0, .int 0, .int 0, .int 0])), (q1, arC cI 96 (fun _ => 0)), (q2, arC cI 96 (fun _ => 0)), (q3, arC cI 96 (fun _ => 0))] H := hP
  have hD : va_D A [(h, .inr (5, [.ref q1, .ref q2, .ref q3, .null, .int 0, .null, .int 0, .null, .int 0, .int 0, .int 0, .int 0, .int 0, .int 0])), (q1, arC cI 96 (fun _ => 0)), (q2, arC cI 96 (fun _ => 0)), (q3, arC cI 96 (fun _ => 0))] := hD
  refine lv_aload_n hx hb dX5_init_28 rfl (lv_at hl 0 rfl) ?_
  refine lv_sipush (v := (384 : Int32)) hx hb dX5_init_29 (by decide) ?_
  refine va_newa (atype := .int) (ty := .int) (a0 := (384, .inl (fun _ => 0))) hx hb (hts (.arrayClass .int) (List.mem_of_getElem? (i := 4) rfl)) rfl hK.1 hP hD hS hA (fun _ => rfl) (by decide) (N' := 384) (by decide) (Nat.le_of_ble_eq_true rfl) (Nat.le_of_ble_eq_true rfl) (Nat.le_of_ble_eq_true rfl) dX5_init_32 (fun q4 cA H hK9 hP hD hS => ?_)
  obtain rfl := (same_i hK hK9).symm
  have hP : va_P D vwCl [(h, .inr (5, [.ref q1, .ref q2, .ref q3, .null, .int 0, .null, .int 0, .null, .int 0, .int 0, .int 0, .int 0, .int 0, .int 0])), (q1, arC cI 96 (fun _ => 0)), (q2, arC cI 96 (fun _ => 0)), (q3, arC cI 96 (fun _ => 0)), (q4, arC cI 384 (fun _ => 0))] H := hP
  have hD : va_D A [(h, .inr (5, [.ref q1, .ref q2, .ref q3, .null, .int 0, .null, .int 0, .null, .int 0, .int 0, .int 0, .int 0, .int 0, .int 0])), (q1, arC cI 96 (fun _ => 0)), (q2, arC cI 96 (fun _ => 0)), (q3, arC cI 96 (fun _ => 0)), (q4, arC cI 384 (fun _ => 0))] := hD
  refine W.widen (k := 4) (n := 672) (Nat.le_of_ble_eq_true rfl) (Nat.le_of_ble_eq_true rfl) ?_
  refine va_putF (D := D) (ci := 5) (v := .ref q4) (ty := (.array .int)) (C := RX5) (T := TX5) (N := 14) hx hb hts inX5 tyX5 tyX5_ok nmX5 hown hK.1 hP hD hS 0 rfl rfl 3 (by decide) (hts (.fieldLink RX5 19 "GrayPointersModel" "history" "[I") (List.mem_of_getElem? (i := 8) rfl)) (fun _ h9 => h9) rfl hin rfl (by decide +kernel) rfl rfl (Nat.le_of_ble_eq_true rfl) dX5_init_34 (fun H locs hP hD hS => ?_)
  have hP : va_P D vwCl [(h, .inr (5, [.ref q1, .ref q2, .ref q3, .ref q4, .int 0, .null, .int 0, .null, .int 0, .int 0, .int 0, .int 0, .int 0, .int 0])), (q1, arC cI 96 (fun _ => 0)), (q2, arC cI 96 (fun _ => 0)), (q3, arC cI 96 (fun _ => 0)), (q4, arC cI 384 (fun _ => 0))] H := hP
  have hD : va_D A [(h, .inr (5, [.ref q1, .ref q2, .ref q3, .ref q4, .int 0, .null, .int 0, .null, .int 0, .int 0, .int 0, .int 0, .int 0, .int 0])), (q1, arC cI 96 (fun _ => 0)), (q2, arC cI 96 (fun _ => 0)), (q3, arC cI 96 (fun _ => 0)), (q4, arC cI 384 (fun _ => 0))] := hD
  refine lv_aload_n hx hb dX5_init_37 rfl (lv_at hl 0 rfl) ?_
  refine lv_bipush (v := (96 : Int32)) hx hb dX5_init_38 (by decide) ?_
  refine va_newa (atype := .int) (ty := .int) (a0 := (96, .inl (fun _ => 0))) hx hb (hts (.arrayClass .int) (List.mem_of_getElem? (i := 4) rfl)) rfl hK.1 hP hD hS hA (fun _ => rfl) (by decide) (N' := 96) (by decide) (Nat.le_of_ble_eq_true rfl) (Nat.le_of_ble_eq_true rfl) (Nat.le_of_ble_eq_true rfl) dX5_init_40 (fun q5 cA H hK9 hP hD hS => ?_)
  obtain rfl := (same_i hK hK9).symm
  have hP : va_P D vwCl [(h, .inr (5, [.ref q1, .ref q2, .ref q3, .ref q4, .int 0, .null, .int 0, .null, .int 0, .int 0, .int 0, .int 0, .int 0, .int 0])), (q1, arC cI 96 (fun _ => 0)), (q2, arC cI 96 (fun _ => 0)), (q3, arC cI 96 (fun _ => 0)), (q4, arC cI 384 (fun _ => 0)), (q5, arC cI 96 (fun _ => 0))] H := hP
  have hD : va_D A [(h, .inr (5, [.ref q1, .ref q2, .ref q3, .ref q4, .int 0, .null, .int 0, .null, .int 0, .int 0, .int 0, .int 0, .int 0, .int 0])), (q1, arC cI 96 (fun _ => 0)), (q2, arC cI 96 (fun _ => 0)), (q3, arC cI 96 (fun _ => 0)), (q4, arC cI 384 (fun _ => 0)), (q5, arC cI 96 (fun _ => 0))] := hD
  refine W.widen (k := 5) (n := 768) (Nat.le_of_ble_eq_true rfl) (Nat.le_of_ble_eq_true rfl) ?_
  refine va_putF (D := D) (ci := 5) (v := .ref q5) (ty := (.array .int)) (C := RX5) (T := TX5) (N := 14) hx hb hts inX5 tyX5 tyX5_ok nmX5 hown hK.1 hP hD hS 0 rfl rfl 5 (by decide) (hts (.fieldLink RX5 22 "GrayPointersModel" "snapshot" "[I") (List.mem_of_getElem? (i := 9) rfl)) (fun _ h9 => h9) rfl hin rfl (by decide +kernel) rfl rfl (Nat.le_of_ble_eq_true rfl) dX5_init_42 (fun H locs hP hD hS => ?_)
  have hP : va_P D vwCl [(h, .inr (5, [.ref q1, .ref q2, .ref q3, .ref q4, .int 0, .ref q5, .int 0, .null, .int 0, .int 0, .int 0, .int 0, .int 0, .int 0])), (q1, arC cI 96 (fun _ => 0)), (q2, arC cI 96 (fun _ => 0)), (q3, arC cI 96 (fun _ => 0)), (q4, arC cI 384 (fun _ => 0)), (q5, arC cI 96 (fun _ => 0))] H := hP
  have hD : va_D A [(h, .inr (5, [.ref q1, .ref q2, .ref q3, .ref q4, .int 0, .ref q5, .int 0, .null, .int 0, .int 0, .int 0, .int 0, .int 0, .int 0])), (q1, arC cI 96 (fun _ => 0)), (q2, arC cI 96 (fun _ => 0)), (q3, arC cI 96 (fun _ => 0)), (q4, arC cI 384 (fun _ => 0)), (q5, arC cI 96 (fun _ => 0))] := hD
  refine lv_aload_n hx hb dX5_init_45 rfl (lv_at hl 0 rfl) ?_
  refine lv_bipush (v := (60 : Int32)) hx hb dX5_init_46 (by decide) ?_
  refine va_newa (atype := .int) (ty := .int) (a0 := (60, .inl (fun _ => 0))) hx hb (hts (.arrayClass .int) (List.mem_of_getElem? (i := 4) rfl)) rfl hK.1 hP hD hS hA (fun _ => rfl) (by decide) (N' := 60) (by decide) (Nat.le_of_ble_eq_true rfl) (Nat.le_of_ble_eq_true rfl) (Nat.le_of_ble_eq_true rfl) dX5_init_48 (fun q6 cA H hK9 hP hD hS => ?_)
  obtain rfl := (same_i hK hK9).symm
  have hP : va_P D vwCl [(h, .inr (5, [.ref q1, .ref q2, .ref q3, .ref q4, .int 0, .ref q5, .int 0, .null, .int 0, .int 0, .int 0, .int 0, .int 0, .int 0])), (q1, arC cI 96 (fun _ => 0)), (q2, arC cI 96 (fun _ => 0)), (q3, arC cI 96 (fun _ => 0)), (q4, arC cI 384 (fun _ => 0)), (q5, arC cI 96 (fun _ => 0)), (q6, arC cI 60 (fun _ => 0))] H := hP
  have hD : va_D A [(h, .inr (5, [.ref q1, .ref q2, .ref q3, .ref q4, .int 0, .ref q5, .int 0, .null, .int 0, .int 0, .int 0, .int 0, .int 0, .int 0])), (q1, arC cI 96 (fun _ => 0)), (q2, arC cI 96 (fun _ => 0)), (q3, arC cI 96 (fun _ => 0)), (q4, arC cI 384 (fun _ => 0)), (q5, arC cI 96 (fun _ => 0)), (q6, arC cI 60 (fun _ => 0))] := hD
  refine W.widen (k := 6) (n := 828) (Nat.le_of_ble_eq_true rfl) (Nat.le_of_ble_eq_true rfl) ?_
  refine va_putF (D := D) (ci := 5) (v := .ref q6) (ty := (.array .int)) (C := RX5) (T := TX5) (N := 14) hx hb hts inX5 tyX5 tyX5_ok nmX5 hown hK.1 hP hD hS 0 rfl rfl 7 (by decide) (hts (.fieldLink RX5 25 "GrayPointersModel" "text" "[I") (List.mem_of_getElem? (i := 10) rfl)) (fun _ h9 => h9) rfl hin rfl (by decide +kernel) rfl rfl (Nat.le_of_ble_eq_true rfl) dX5_init_50 (fun H locs hP hD hS => ?_)
  have hP : va_P D vwCl [(h, .inr (5, [.ref q1, .ref q2, .ref q3, .ref q4, .int 0, .ref q5, .int 0, .ref q6, .int 0, .int 0, .int 0, .int 0, .int 0, .int 0])), (q1, arC cI 96 (fun _ => 0)), (q2, arC cI 96 (fun _ => 0)), (q3, arC cI 96 (fun _ => 0)), (q4, arC cI 384 (fun _ => 0)), (q5, arC cI 96 (fun _ => 0)), (q6, arC cI 60 (fun _ => 0))] H := hP
  have hD : va_D A [(h, .inr (5, [.ref q1, .ref q2, .ref q3, .ref q4, .int 0, .ref q5, .int 0, .ref q6, .int 0, .int 0, .int 0, .int 0, .int 0, .int 0])), (q1, arC cI 96 (fun _ => 0)), (q2, arC cI 96 (fun _ => 0)), (q3, arC cI 96 (fun _ => 0)), (q4, arC cI 384 (fun _ => 0)), (q5, arC cI 96 (fun _ => 0)), (q6, arC cI 60 (fun _ => 0))] := hD
  refine lv_aload_n hx hb dX5_init_53 rfl (lv_at hl 0 rfl) ?_
  refine va_get (D := D) (ci := 5) (v := .ref q1) (C := RX5) (T := TX5) (N := 14) hx hb hts inX5 hown hK.1 hP 0 rfl rfl 0 (by decide) (hts (.fieldLink RX5 7 "GrayPointersModel" "all" "[I") (List.mem_of_getElem? (i := 5) rfl)) (fun _ h9 => h9) rfl dX5_init_54 ?_
  refine lv_iconst (v := (3 : Int32)) hx hb dX5_init_57 (by decide) ?_
  refine lv_iconst (v := (1 : Int32)) hx hb dX5_init_58 (by decide) ?_
  refine va_iast hx hb hK.1 hP hD hS 1 0 rfl rfl (i := (3 : Int32)) (x := (1 : Int32)) (vp_in_iff.mpr (by decide)) dX5_init_59 (fun H locs hP hD hS => ?_)
  have hP : va_P D vwCl [(h, .inr (5, [.ref q1, .ref q2, .ref q3, .ref q4, .int 0, .ref q5, .int 0, .ref q6, .int 0, .int 0, .int 0, .int 0, .int 0, .int 0])), (q1, arC cI 96 (upd (fun _ => 0) 3 (1 : Int32))), (q2, arC cI 96 (fun _ => 0)), (q3, arC cI 96 (fun _ => 0)), (q4, arC cI 384 (fun _ => 0)), (q5, arC cI 96 (fun _ => 0)), (q6, arC cI 60 (fun _ => 0))] H := hP
  have hD : va_D A [(h, .inr (5, [.ref q1, .ref q2, .ref q3, .ref q4, .int 0, .ref q5, .int 0, .ref q6, .int 0, .int 0, .int 0, .int 0, .int 0, .int 0])), (q1, arC cI 96 (upd (fun _ => 0) 3 (1 : Int32))), (q2, arC cI 96 (fun _ => 0)), (q3, arC cI 96 (fun _ => 0)), (q4, arC cI 384 (fun _ => 0)), (q5, arC cI 96 (fun _ => 0)), (q6, arC cI 60 (fun _ => 0))] := hD
  refine lv_aload_n hx hb dX5_init_60 rfl (lv_at hl 0 rfl) ?_
  refine va_get (D := D) (ci := 5) (v := .ref q1) (C := RX5) (T := TX5) (N := 14) hx hb hts inX5 hown hK.1 hP 0 rfl rfl 0 (by decide) (hts (.fieldLink RX5 7 "GrayPointersModel" "all" "[I") (List.mem_of_getElem? (i := 5) rfl)) (fun _ h9 => h9) rfl dX5_init_61 ?_
  refine lv_iconst (v := (4 : Int32)) hx hb dX5_init_64 (by decide) ?_
  refine lv_iconst (v := (1 : Int32)) hx hb dX5_init_65 (by decide) ?_
  refine va_iast hx hb hK.1 hP hD hS 1 0 rfl rfl (i := (4 : Int32)) (x := (1 : Int32)) (vp_in_iff.mpr (by decide)) dX5_init_66 (fun H locs hP hD hS => ?_)
  have hP : va_P D vwCl [(h, .inr (5, [.ref q1, .ref q2, .ref q3, .ref q4, .int 0, .ref q5, .int 0, .ref q6, .int 0, .int 0, .int 0, .int 0, .int 0, .int 0])), (q1, arC cI 96 (upd (upd (fun _ => 0) 3 (1 : Int32)) 4 (1 : Int32))), (q2, arC cI 96 (fun _ => 0)), (q3, arC cI 96 (fun _ => 0)), (q4, arC cI 384 (fun _ => 0)), (q5, arC cI 96 (fun _ => 0)), (q6, arC cI 60 (fun _ => 0))] H := hP
  have hD : va_D A [(h, .inr (5, [.ref q1, .ref q2, .ref q3, .ref q4, .int 0, .ref q5, .int 0, .ref q6, .int 0, .int 0, .int 0, .int 0, .int 0, .int 0])), (q1, arC cI 96 (upd (upd (fun _ => 0) 3 (1 : Int32)) 4 (1 : Int32))), (q2, arC cI 96 (fun _ => 0)), (q3, arC cI 96 (fun _ => 0)), (q4, arC cI 384 (fun _ => 0)), (q5, arC cI 96 (fun _ => 0)), (q6, arC cI 60 (fun _ => 0))] := hD
  refine lv_aload_n hx hb dX5_init_67 rfl (lv_at hl 0 rfl) ?_
  refine va_get (D := D) (ci := 5) (v := .ref q1) (C := RX5) (T := TX5) (N := 14) hx hb hts inX5 hown hK.1 hP 0 rfl rfl 0 (by decide) (hts (.fieldLink RX5 7 "GrayPointersModel" "all" "[I") (List.mem_of_getElem? (i := 5) rfl)) (fun _ h9 => h9) rfl dX5_init_68 ?_
  refine lv_bipush (v := (11 : Int32)) hx hb dX5_init_71 (by decide) ?_
  refine lv_bipush (v := (10 : Int32)) hx hb dX5_init_73 (by decide) ?_
  refine va_iast hx hb hK.1 hP hD hS 1 0 rfl rfl (i := (11 : Int32)) (x := (10 : Int32)) (vp_in_iff.mpr (by decide)) dX5_init_75 (fun H locs hP hD hS => ?_)
  have hP : va_P D vwCl [(h, .inr (5, [.ref q1, .ref q2, .ref q3, .ref q4, .int 0, .ref q5, .int 0, .ref q6, .int 0, .int 0, .int 0, .int 0, .int 0, .int 0])), (q1, arC cI 96 (upd (upd (upd (fun _ => 0) 3 (1 : Int32)) 4 (1 : Int32)) 11 (10 : Int32))), (q2, arC cI 96 (fun _ => 0)), (q3, arC cI 96 (fun _ => 0)), (q4, arC cI 384 (fun _ => 0)), (q5, arC cI 96 (fun _ => 0)), (q6, arC cI 60 (fun _ => 0))] H := hP
  have hD : va_D A [(h, .inr (5, [.ref q1, .ref q2, .ref q3, .ref q4, .int 0, .ref q5, .int 0, .ref q6, .int 0, .int 0, .int 0, .int 0, .int 0, .int 0])), (q1, arC cI 96 (upd (upd (upd (fun _ => 0) 3 (1 : Int32)) 4 (1 : Int32)) 11 (10 : Int32))), (q2, arC cI 96 (fun _ => 0)), (q3, arC cI 96 (fun _ => 0)), (q4, arC cI 384 (fun _ => 0)), (q5, arC cI 96 (fun _ => 0)), (q6, arC cI 60 (fun _ => 0))] := hD
  refine lv_aload_n hx hb dX5_init_76 rfl (lv_at hl 0 rfl) ?_
  refine va_get (D := D) (ci := 5) (v := .ref q1) (C := RX5) (T := TX5) (N := 14) hx hb hts inX5 hown hK.1 hP 0 rfl rfl 0 (by decide) (hts (.fieldLink RX5 7 "GrayPointersModel" "all" "[I") (List.mem_of_getElem? (i := 5) rfl)) (fun _ h9 => h9) rfl dX5_init_77 ?_
  refine lv_bipush (v := (19 : Int32)) hx hb dX5_init_80 (by decide) ?_
  refine lv_bipush (v := (14 : Int32)) hx hb dX5_init_82 (by decide) ?_
  refine va_iast hx hb hK.1 hP hD hS 1 0 rfl rfl (i := (19 : Int32)) (x := (14 : Int32)) (vp_in_iff.mpr (by decide)) dX5_init_84 (fun H locs hP hD hS => ?_)
  have hP : va_P D vwCl [(h, .inr (5, [.ref q1, .ref q2, .ref q3, .ref q4, .int 0, .ref q5, .int 0, .ref q6, .int 0, .int 0, .int 0, .int 0, .int 0, .int 0])), (q1, arC cI 96 (upd (upd (upd (upd (fun _ => 0) 3 (1 : Int32)) 4 (1 : Int32)) 11 (10 : Int32)) 19 (14 : Int32))), (q2, arC cI 96 (fun _ => 0)), (q3, arC cI 96 (fun _ => 0)), (q4, arC cI 384 (fun _ => 0)), (q5, arC cI 96 (fun _ => 0)), (q6, arC cI 60 (fun _ => 0))] H := hP
  have hD : va_D A [(h, .inr (5, [.ref q1, .ref q2, .ref q3, .ref q4, .int 0, .ref q5, .int 0, .ref q6, .int 0, .int 0, .int 0, .int 0, .int 0, .int 0])), (q1, arC cI 96 (upd (upd (upd (upd (fun _ => 0) 3 (1 : Int32)) 4 (1 : Int32)) 11 (10 : Int32)) 19 (14 : Int32))), (q2, arC cI 96 (fun _ => 0)), (q3, arC cI 96 (fun _ => 0)), (q4, arC cI 384 (fun _ => 0)), (q5, arC cI 96 (fun _ => 0)), (q6, arC cI 60 (fun _ => 0))] := hD
  refine lv_aload_n hx hb dX5_init_85 rfl (lv_at hl 0 rfl) ?_
  refine va_get (D := D) (ci := 5) (v := .ref q1) (C := RX5) (T := TX5) (N := 14) hx hb hts inX5 hown hK.1 hP 0 rfl rfl 0 (by decide) (hts (.fieldLink RX5 7 "GrayPointersModel" "all" "[I") (List.mem_of_getElem? (i := 5) rfl)) (fun _ h9 => h9) rfl dX5_init_86 ?_
  refine lv_bipush (v := (13 : Int32)) hx hb dX5_init_89 (by decide) ?_
  refine lv_iconst (v := (1 : Int32)) hx hb dX5_init_91 (by decide) ?_
  refine va_iast hx hb hK.1 hP hD hS 1 0 rfl rfl (i := (13 : Int32)) (x := (1 : Int32)) (vp_in_iff.mpr (by decide)) dX5_init_92 (fun H locs hP hD hS => ?_)
  have hP : va_P D vwCl [(h, .inr (5, [.ref q1, .ref q2, .ref q3, .ref q4, .int 0, .ref q5, .int 0, .ref q6, .int 0, .int 0, .int 0, .int 0, .int 0, .int 0])), (q1, arC cI 96 (upd (upd (upd (upd (upd (fun _ => 0) 3 (1 : Int32)) 4 (1 : Int32)) 11 (10 : Int32)) 19 (14 : Int32)) 13 (1 : Int32))), (q2, arC cI 96 (fun _ => 0)), (q3, arC cI 96 (fun _ => 0)), (q4, arC cI 384 (fun _ => 0)), (q5, arC cI 96 (fun _ => 0)), (q6, arC cI 60 (fun _ => 0))] H := hP
  have hD : va_D A [(h, .inr (5, [.ref q1, .ref q2, .ref q3, .ref q4, .int 0, .ref q5, .int 0, .ref q6, .int 0, .int 0, .int 0, .int 0, .int 0, .int 0])), (q1, arC cI 96 (upd (upd (upd (upd (upd (fun _ => 0) 3 (1 : Int32)) 4 (1 : Int32)) 11 (10 : Int32)) 19 (14 : Int32)) 13 (1 : Int32))), (q2, arC cI 96 (fun _ => 0)), (q3, arC cI 96 (fun _ => 0)), (q4, arC cI 384 (fun _ => 0)), (q5, arC cI 96 (fun _ => 0)), (q6, arC cI 60 (fun _ => 0))] := hD
  refine lv_aload_n hx hb dX5_init_93 rfl (lv_at hl 0 rfl) ?_
  refine va_get (D := D) (ci := 5) (v := .ref q1) (C := RX5) (T := TX5) (N := 14) hx hb hts inX5 hown hK.1 hP 0 rfl rfl 0 (by decide) (hts (.fieldLink RX5 7 "GrayPointersModel" "all" "[I") (List.mem_of_getElem? (i := 5) rfl)) (fun _ h9 => h9) rfl dX5_init_94 ?_
  refine lv_bipush (v := (21 : Int32)) hx hb dX5_init_97 (by decide) ?_
  refine lv_iconst (v := (1 : Int32)) hx hb dX5_init_99 (by decide) ?_
  refine va_iast hx hb hK.1 hP hD hS 1 0 rfl rfl (i := (21 : Int32)) (x := (1 : Int32)) (vp_in_iff.mpr (by decide)) dX5_init_100 (fun H locs hP hD hS => ?_)
  have hP : va_P D vwCl [(h, .inr (5, [.ref q1, .ref q2, .ref q3, .ref q4, .int 0, .ref q5, .int 0, .ref q6, .int 0, .int 0, .int 0, .int 0, .int 0, .int 0])), (q1, arC cI 96 (upd (upd (upd (upd (upd (upd (fun _ => 0) 3 (1 : Int32)) 4 (1 : Int32)) 11 (10 : Int32)) 19 (14 : Int32)) 13 (1 : Int32)) 21 (1 : Int32))), (q2, arC cI 96 (fun _ => 0)), (q3, arC cI 96 (fun _ => 0)), (q4, arC cI 384 (fun _ => 0)), (q5, arC cI 96 (fun _ => 0)), (q6, arC cI 60 (fun _ => 0))] H := hP
  have hD : va_D A [(h, .inr (5, [.ref q1, .ref q2, .ref q3, .ref q4, .int 0, .ref q5, .int 0, .ref q6, .int 0, .int 0, .int 0, .int 0, .int 0, .int 0])), (q1, arC cI 96 (upd (upd (upd (upd (upd (upd (fun _ => 0) 3 (1 : Int32)) 4 (1 : Int32)) 11 (10 : Int32)) 19 (14 : Int32)) 13 (1 : Int32)) 21 (1 : Int32))), (q2, arC cI 96 (fun _ => 0)), (q3, arC cI 96 (fun _ => 0)), (q4, arC cI 384 (fun _ => 0)), (q5, arC cI 96 (fun _ => 0)), (q6, arC cI 60 (fun _ => 0))] := hD
  refine lv_aload_n hx hb dX5_init_101 rfl (lv_at hl 0 rfl) ?_
  refine lv_iconst (v := (2 : Int32)) hx hb dX5_init_102 (by decide) ?_
  refine lv_iconst (v := (1 : Int32)) hx hb dX5_init_103 (by decide) ?_
  have hP : va_P D vwCl (mdW cI (mdA h q1 q2 q3 q4 q5 q6) mdI) H := hP
  have hD : va_D A (mdW cI (mdA h q1 q2 q3 q4 q5 q6) mdI) := hD
  refine goV (n := 7) (ws' := mdW cI (mdA h q1 q2 q3 q4 q5 q6) (p_X5_builds mdI 2 1)) (rs := []) (va_runV (As := [.int 2, .int 1]) (rest := []) ⟨hx, hb, hml, hown, hts⟩ (c_X5_builds l D cI cC cS (mdA h q1 q2 q3 q4 q5 q6) mdI 2 1 _) (cwV 2 hts gX5_init_X5_builds rfl rfl rfl (by decide +kernel) ⟨Nat.le_of_ble_eq_true rfl, Nat.le_of_ble_eq_true rfl⟩) (preV hK hP hD [0, 1, 2, 3, 4, 5, 6] (by decide) rfl 0 5 rfl rfl) rfl rfl hl.1 rfl (lv_room (Nat.le_of_ble_eq_true rfl)) dX5_init_104 ⟨Nat.le_of_ble_eq_true rfl, Nat.le_of_ble_eq_true rfl⟩) hP hD hS hA [0, 1, 2, 3, 4, 5, 6] [] rfl rfl rfl rfl rfl (by decide +kernel) (fstE (as := [h, q1, q2, q3, q4, q5, q6]) rfl rfl) (fun H locs hP hD hS => ?_)
  exact endN (mdA h q1 q2 q3 q4 q5 q6) hb hx hsg rfl hP hD hS dX5_init_107 hlocks
