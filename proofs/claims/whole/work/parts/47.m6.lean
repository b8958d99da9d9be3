def lp_X5_passMany_2 (a1 : Int32) : Nat → Int32 → CS → CS
  | 0, _, M1 => M1
  | fu + 1, i, M1 => (if a1 ≤ i then M1 else ((fun (z_1 : CS) => (lp_X5_passMany_2 a1 fu (i + (1 : Int32)) z_1)) (p_X5_passes M1)))
def p_X5_passMany (M : CS) (a1 : Int32) : CS := (lp_X5_passMany_2 a1 ((a1.toInt - (0 : Int32).toInt).toNat + 1) (0 : Int32) M)
abbrev rm_X5_passMany : Room := { frames := 6, cells := 0, slots := 0, locals := 137 }
set_option maxHeartbeats 4000000 in
set_option maxRecDepth 100000 in
theorem c_X5_passMany (l : Launch) (D : va_G) (cI cC cS : ClassId) (md : Nat → Nat) (M : CS) (a1 : Int32) (hMI : MI M) : CV l D cI cC cS yX5_passMany wsX5_passMany rm_X5_passMany [.ref (md 0), .int a1] (mdW cI md M) (mdW cI md (p_X5_passMany M a1))  := by
  intro sz
  refine startC (cc := cX5_passMany) (maxL := 3) (ret := none) (by decide) rfl (Nat.le_of_ble_eq_true rfl) ?_
  intro p e s m args below meth c hx hb hml hsg hts hown hlocks hin hK A hA hS hP hD ls hl
  have hown : s.vm.findClass RX5 = some m.cls := hown
  have hl : lv_has ls 3 [(0, .ref (md 0)), (1, .int a1)] := hl
  have hP : va_P D vwCl [((md 0), mdC md (M 0)), ((md 1), arC cI 96 (M 1)), ((md 2), arC cI 96 (M 2)), ((md 3), arC cI 96 (M 3)), ((md 4), arC cI 384 (M 4)), ((md 5), arC cI 96 (M 5)), ((md 6), arC cI 60 (M 6))] s.heap := hP
  have hD : va_D A [((md 0), mdC md (M 0)), ((md 1), arC cI 96 (M 1)), ((md 2), arC cI 96 (M 2)), ((md 3), arC cI 96 (M 3)), ((md 4), arC cI 384 (M 4)), ((md 5), arC cI 96 (M 5)), ((md 6), arC cI 60 (M 6))] := hD
  have hp : (p_X5_passMany M a1) = (lp_X5_passMany_2 a1 ((a1.toInt - (0 : Int32).toInt).toNat + 1) (0 : Int32) M) := rfl
  refine lv_iconst (v := (0 : Int32)) hx hb dX5_passMany_0 (by decide) ?_
  refine lv_istore_n (lv' := [(2, .int (0 : Int32)), (0, .ref (md 0)), (1, .int a1)]) hx hb dX5_passMany_1 rfl hl (by decide) rfl (fun ls hl => ?_)
  have L_2 : ∀ (fu : Nat) (i : Int32) (M1 : CS) (H : Heap) (locs : List Loc), (a1.toInt - i.toInt < (fu : Int) ∧ 0 < fu) → MI M1 → (p_X5_passMany M a1) = (lp_X5_passMany_2 a1 fu i M1) → va_P D vwCl [((md 0), mdC md (M1 0)), ((md 1), arC cI 96 (M1 1)), ((md 2), arC cI 96 (M1 2)), ((md 3), arC cI 96 (M1 3)), ((md 4), arC cI 384 (M1 4)), ((md 5), arC cI 96 (M1 5)), ((md 6), arC cI 60 (M1 6))] H → va_D A [((md 0), mdC md (M1 0)), ((md 1), arC cI 96 (M1 1)), ((md 2), arC cI 96 (M1 2)), ((md 3), arC cI 96 (M1 3)), ((md 4), arC cI 384 (M1 4)), ((md 5), arC cI 96 (M1 5)), ((md 6), arC cI 60 (M1 6))] → va_S A s.heap H locs → ∀ ls, lv_has ls 3 [(0, .ref (md 0)), (1, .int a1), (2, .int i)] → W p l e rm_X5_passMany s m args below meth c H locs 0 0 (MQ below (QV D (mdW cI md (p_X5_passMany M a1)) A) args s 0 0 A) (F0 m 2 ls []) := by
    intro fu
    induction fu with
    | zero => intro i M1 H locs hm; exact absurd hm.2 (Nat.lt_irrefl 0)
    | succ fu ih_2 =>
      intro i M1 H locs hm hMI1 hp hP hD hS ls hl
      have hp : (p_X5_passMany M a1) = (if a1 ≤ i then M1 else ((fun (z_1 : CS) => (lp_X5_passMany_2 a1 fu (i + (1 : Int32)) z_1)) (p_X5_passes M1))) := hp
      refine lv_iload_n hx hb dX5_passMany_2 rfl (lv_at hl 2 rfl) ?_
      refine lv_iload_n hx hb dX5_passMany_3 rfl (lv_at hl 1 rfl) ?_
      refine lv_icmp_ge (tgt := 18) hx hb dX5_passMany_4 (by decide) (fun c4 => ?_) (fun c4 => ?_)
      · have hp := hp.trans (if_pos c4)
        exact endV hb hx hsg (by rw [hp]; exact hP) (by rw [hp]; exact hD) hS dX5_passMany_18 hlocks
      · have hp := hp.trans (if_neg c4)
        refine lv_aload_n hx hb dX5_passMany_7 rfl (lv_at hl 0 rfl) ?_
        refine goI (n := 7) (ws' := [((md 0), mdC md ((p_X5_passes M1) 0)), ((md 1), arC cI 96 ((p_X5_passes M1) 1)), ((md 2), arC cI 96 ((p_X5_passes M1) 2)), ((md 3), arC cI 96 ((p_X5_passes M1) 3)), ((md 4), arC cI 384 ((p_X5_passes M1) 4)), ((md 5), arC cI 96 ((p_X5_passes M1) 5)), ((md 6), arC cI 60 ((p_X5_passes M1) 6))]) (rs := []) (va_runV (As := []) (rest := []) ⟨hx, hb, hml, hown, hts⟩ (c_X5_passes l D cI cC cS md M1 hMI1 _) (cwV 0 hts gX5_passMany_X5_passes rfl rfl rfl (by decide +kernel) ⟨Nat.le_of_ble_eq_true rfl, Nat.le_of_ble_eq_true rfl⟩) (preV hK hP hD [0, 1, 2, 3, 4, 5, 6] (by decide) rfl 0 5 rfl rfl) rfl rfl hl.1 rfl (lv_room (Nat.le_of_ble_eq_true rfl)) dX5_passMany_8 ⟨Nat.zero_le _, Nat.zero_le _⟩) hP hD hS hA [0, 1, 2, 3, 4, 5, 6] [] rfl rfl rfl rfl rfl (by decide +kernel) (fstE (as := [(md 0), (md 1), (md 2), (md 3), (md 4), (md 5), (md 6)]) rfl rfl) (fun H locs hP hD hS => ?_)
        obtain ⟨z_1, hz_1⟩ : ∃ z : CS, z = (p_X5_passes M1) := ⟨_, rfl⟩
        rw [← hz_1] at hP hD
        have hp : (p_X5_passMany M a1) = (lp_X5_passMany_2 a1 fu (i + (1 : Int32)) z_1) := by subst hz_1; exact hp
        refine lv_pop hx hb dX5_passMany_11 rfl ?_
        refine lv_iinc (v := (i + (1 : Int32))) (lv' := [(2, .int (i + (1 : Int32))), (0, .ref (md 0)), (1, .int a1)]) hx hb dX5_passMany_12 hl (k := 2) rfl rfl (by decide) rfl (fun ls hl => ?_)
        refine lv_goto (tgt := 2) hx hb dX5_passMany_15 (by decide) ?_
        exact ih_2 (i + (1 : Int32)) z_1 _ _ (by subst hz_1; exact (cnt_step c4 hm)) (by subst hz_1; exact (mi_passes hMI1)) hp hP hD hS ls (lv_sub hl [1, 2, 0] rfl)
  exact L_2 _ (0 : Int32) M _ _ (cnt_init _ _) hMI hp hP hD hS ls (lv_sub hl [1, 2, 0] rfl)
theorem lpm_c {a : Int32} {i : Nat} (hi : i ≠ 1) : ∀ (fu : Nat) (k : Int32) (M : CS), (lp_X5_passMany_2 a fu k M) i = M i
  | 0, _, _ => rfl
  | fu + 1, k, M => by
    unfold lp_X5_passMany_2
    dsimp only
    split
    · rfl
    · rw [lpm_c hi fu, passes_c hi]
theorem pm_c {M : CS} {a : Int32} {i : Nat} (hi : i ≠ 1) : (p_X5_passMany M a) i = M i := lpm_c hi _ _ _
theorem lpm_mi {a : Int32} : ∀ (fu : Nat) (k : Int32) (M : CS), MI M → MI (lp_X5_passMany_2 a fu k M)
  | 0, _, _, h => h
  | fu + 1, k, M, h => by
    unfold lp_X5_passMany_2
    dsimp only
    split
    · exact h
    · exact lpm_mi fu _ _ (mi_passes h)
theorem hl_pm {M : CS} {a : Int32} (h : HL M) : HL (p_X5_passMany M a) := by
  unfold HL
  rw [pm_c (by decide)]
  exact h
def r_X5_pass (M : CS) (a1 : Int32) : Int32 := (if (r_X5_in a1.toInt64 (1 : Int64) (500 : Int64)) = (0 : Int32) then (-2 : Int32) else (if (((M 1) 2) + a1) ≤ (1000000 : Int32) then ((fun (z_1 : CS) => ((fun (z_2 : CS) => ((fun (z_3 : CS) => (r_X5_acted z_2 (((z_2 1) 7) - ((z_1 1) 7)))) (p_X5_acted z_2 (((z_2 1) 7) - ((z_1 1) 7))))) (p_X5_passMany z_1 a1))) (p_X5_remember M)) else (-3 : Int32)))
def p_X5_pass (M : CS) (a1 : Int32) : CS := (if (r_X5_in a1.toInt64 (1 : Int64) (500 : Int64)) = (0 : Int32) then M else (if (((M 1) 2) + a1) ≤ (1000000 : Int32) then ((fun (z_1 : CS) => ((fun (z_2 : CS) => ((fun (z_3 : CS) => z_3) (p_X5_acted z_2 (((z_2 1) 7) - ((z_1 1) 7))))) (p_X5_passMany z_1 a1))) (p_X5_remember M)) else M))
abbrev rm_X5_pass : Room := { frames := 7, cells := 0, slots := 0, locals := 159 }
set_option maxHeartbeats 4000000 in
set_option maxRecDepth 100000 in
theorem c_X5_pass (l : Launch) (D : va_G) (cI cC cS : ClassId) (md : Nat → Nat) (M : CS) (a1 : Int32) (hHL : HL M) (hMI : MI M) : CI l D cI cC cS yX5_pass wsX5_pass rm_X5_pass [.ref (md 0), .int a1] (mdW cI md M) (mdW cI md (p_X5_pass M a1)) (r_X5_pass M a1) := by
  intro sz
  refine startC (cc := cX5_pass) (maxL := 3) (ret := (some .int)) (by decide) rfl (Nat.le_of_ble_eq_true rfl) ?_
  intro p e s m args below meth c hx hb hml hsg hts hown hlocks hin hK A hA hS hP hD ls hl
  have hown : s.vm.findClass RX5 = some m.cls := hown
  have hl : lv_has ls 3 [(0, .ref (md 0)), (1, .int a1)] := hl
  have hP : va_P D vwCl [((md 0), mdC md (M 0)), ((md 1), arC cI 96 (M 1)), ((md 2), arC cI 96 (M 2)), ((md 3), arC cI 96 (M 3)), ((md 4), arC cI 384 (M 4)), ((md 5), arC cI 96 (M 5)), ((md 6), arC cI 60 (M 6))] s.heap := hP
  have hD : va_D A [((md 0), mdC md (M 0)), ((md 1), arC cI 96 (M 1)), ((md 2), arC cI 96 (M 2)), ((md 3), arC cI 96 (M 3)), ((md 4), arC cI 384 (M 4)), ((md 5), arC cI 96 (M 5)), ((md 6), arC cI 60 (M 6))] := hD
  have inX5 : ∀ w ∈ wsX50, w ∈ wsX5_pass := fun _ h => List.mem_cons_of_mem _ (List.mem_append_right _ h)
  have hr : (r_X5_pass M a1) = (if (r_X5_in a1.toInt64 (1 : Int64) (500 : Int64)) = (0 : Int32) then (-2 : Int32) else (if (((M 1) 2) + a1) ≤ (1000000 : Int32) then ((fun (z_1 : CS) => ((fun (z_2 : CS) => ((fun (z_3 : CS) => (r_X5_acted z_2 (((z_2 1) 7) - ((z_1 1) 7)))) (p_X5_acted z_2 (((z_2 1) 7) - ((z_1 1) 7))))) (p_X5_passMany z_1 a1))) (p_X5_remember M)) else (-3 : Int32))) := rfl
  have hp : (p_X5_pass M a1) = (if (r_X5_in a1.toInt64 (1 : Int64) (500 : Int64)) = (0 : Int32) then M else (if (((M 1) 2) + a1) ≤ (1000000 : Int32) then ((fun (z_1 : CS) => ((fun (z_2 : CS) => ((fun (z_3 : CS) => z_3) (p_X5_acted z_2 (((z_2 1) 7) - ((z_1 1) 7))))) (p_X5_passMany z_1 a1))) (p_X5_remember M)) else M)) := rfl
  refine lv_iload_n hx hb dX5_pass_0 rfl (lv_at hl 1 rfl) ?_
  refine lv_i2l (v := a1.toInt64) hx hb dX5_pass_1 rfl ?_
  refine lv_lconst (v := (1 : Int64)) hx hb dX5_pass_2 (by decide) ?_
  refine lv_ldc2 (v := (500 : Int64)) hx hb hown (hts (.constantLong RX5 129 500) (List.mem_of_getElem? (i := 1) rfl)) dX5_pass_3 ?_
  refine goI (n := 7) (ws' := [((md 0), mdC md (M 0)), ((md 1), arC cI 96 (M 1)), ((md 2), arC cI 96 (M 2)), ((md 3), arC cI 96 (M 3)), ((md 4), arC cI 384 (M 4)), ((md 5), arC cI 96 (M 5)), ((md 6), arC cI 60 (M 6))]) (rs := [((md 0), mdC md (M 0)), ((md 1), arC cI 96 (M 1)), ((md 2), arC cI 96 (M 2)), ((md 3), arC cI 96 (M 3)), ((md 4), arC cI 384 (M 4)), ((md 5), arC cI 96 (M 5)), ((md 6), arC cI 60 (M 6))]) (va_runS (As := [.long a1.toInt64, .long (1 : Int64), .long (500 : Int64)]) (rest := []) ⟨hx, hb, hml, hown, hts⟩ (c_X5_in l D cI cC cS a1.toInt64 (1 : Int64) (500 : Int64)  _) (va_cwS 3 hts gX5_pass_X5_in rfl rfl rfl (by decide +kernel) ⟨Nat.le_of_ble_eq_true rfl, Nat.le_of_ble_eq_true rfl⟩) (preS hK hP hD [] (by decide) rfl) rfl rfl hl.1 rfl (lv_room (Nat.le_of_ble_eq_true rfl)) dX5_pass_6 ⟨Nat.zero_le _, Nat.zero_le _⟩) hP hD hS hA [] [0, 1, 2, 3, 4, 5, 6] rfl rfl rfl rfl rfl (by decide +kernel) rfl (fun H locs hP hD hS => ?_)
  refine lv_if_ne (tgt := 15) hx hb dX5_pass_9 (by decide) (fun c9 => ?_) (fun c9 => ?_)
  · have hr := hr.trans (if_neg c9)
    have hp := hp.trans (if_neg c9)
    refine lv_aload_n hx hb dX5_pass_15 rfl (lv_at hl 0 rfl) ?_
    refine va_get (D := D) (ci := 5) (v := .ref (md 1)) (C := RX5) (T := TX5) (N := 14) hx hb hts inX5 hown hK.1 hP 0 rfl rfl 0 (by decide) (hts (.fieldLink RX5 7 "GrayPointersModel" "all" "[I") (List.mem_of_getElem? (i := 2) rfl)) (fun _ h9 => h9) rfl dX5_pass_16 ?_
    refine lv_iconst (v := (2 : Int32)) hx hb dX5_pass_19 (by decide) ?_
    refine va_iald hx hb hK.1 hP 1 0 rfl rfl (i := (2 : Int32)) (vp_in_iff.mpr (by decide)) dX5_pass_20 ?_
    refine W.eq (g2 := F0 m 21 ls [.int ((M 1) 2)]) rfl ?_
    refine lv_iload_n hx hb dX5_pass_21 rfl (lv_at hl 1 rfl) ?_
    refine lv_iadd hx hb dX5_pass_22 ?_
    refine lv_ldc (v := (1000000 : Int32)) hx hb hown (hts (.constant RX5 131 1000000) (List.mem_of_getElem? (i := 3) rfl)) dX5_pass_23 ?_
    refine lv_icmp_le (tgt := 31) hx hb dX5_pass_25 (by decide) (fun c25 => ?_) (fun c25 => ?_)
    · have hr := hr.trans (if_pos c25)
      have hp := hp.trans (if_pos c25)
      refine lv_aload_n hx hb dX5_pass_31 rfl (lv_at hl 0 rfl) ?_
      refine goV (n := 7) (ws' := [((md 0), mdC md ((p_X5_remember M) 0)), ((md 1), arC cI 96 ((p_X5_remember M) 1)), ((md 2), arC cI 96 ((p_X5_remember M) 2)), ((md 3), arC cI 96 ((p_X5_remember M) 3)), ((md 4), arC cI 384 ((p_X5_remember M) 4)), ((md 5), arC cI 96 ((p_X5_remember M) 5)), ((md 6), arC cI 60 ((p_X5_remember M) 6))]) (rs := []) (va_runV (As := []) (rest := []) ⟨hx, hb, hml, hown, hts⟩ (c_X5_remember l D cI cC cS md M  _) (cwV 0 hts gX5_pass_X5_remember rfl rfl rfl (by decide +kernel) ⟨Nat.le_of_ble_eq_true rfl, Nat.le_of_ble_eq_true rfl⟩) (preV hK hP hD [0, 1, 2, 3, 4, 5, 6] (by decide) rfl 0 5 rfl rfl) rfl rfl hl.1 rfl (lv_room (Nat.le_of_ble_eq_true rfl)) dX5_pass_32 ⟨Nat.zero_le _, Nat.zero_le _⟩) hP hD hS hA [0, 1, 2, 3, 4, 5, 6] [] rfl rfl rfl rfl rfl (by decide +kernel) (fstE (as := [(md 0), (md 1), (md 2), (md 3), (md 4), (md 5), (md 6)]) rfl rfl) (fun H locs hP hD hS => ?_)
      obtain ⟨z_1, hz_1⟩ : ∃ z : CS, z = (p_X5_remember M) := ⟨_, rfl⟩
      rw [← hz_1] at hP hD
      have hr : (r_X5_pass M a1) = ((fun (z_2 : CS) => ((fun (z_3 : CS) => (r_X5_acted z_2 (((z_2 1) 7) - ((z_1 1) 7)))) (p_X5_acted z_2 (((z_2 1) 7) - ((z_1 1) 7))))) (p_X5_passMany z_1 a1)) := by subst hz_1; exact hr
      have hp : (p_X5_pass M a1) = ((fun (z_2 : CS) => ((fun (z_3 : CS) => z_3) (p_X5_acted z_2 (((z_2 1) 7) - ((z_1 1) 7))))) (p_X5_passMany z_1 a1)) := by subst hz_1; exact hp
      refine lv_aload_n hx hb dX5_pass_35 rfl (lv_at hl 0 rfl) ?_
      refine va_get (D := D) (ci := 5) (v := .ref (md 1)) (C := RX5) (T := TX5) (N := 14) hx hb hts inX5 hown hK.1 hP 0 rfl rfl 0 (by decide) (hts (.fieldLink RX5 7 "GrayPointersModel" "all" "[I") (List.mem_of_getElem? (i := 2) rfl)) (fun _ h9 => h9) rfl dX5_pass_36 ?_
      refine lv_bipush (v := (7 : Int32)) hx hb dX5_pass_39 (by decide) ?_
      refine va_iald hx hb hK.1 hP 1 0 rfl rfl (i := (7 : Int32)) (vp_in_iff.mpr (by decide)) dX5_pass_41 ?_
      refine W.eq (g2 := F0 m 42 ls [.int ((z_1 1) 7)]) rfl ?_
      refine lv_istore_n (lv' := [(2, .int ((z_1 1) 7)), (0, .ref (md 0)), (1, .int a1)]) hx hb dX5_pass_42 rfl hl (by decide) rfl (fun ls hl => ?_)
      refine lv_aload_n hx hb dX5_pass_43 rfl (lv_at hl 1 rfl) ?_
      refine lv_iload_n hx hb dX5_pass_44 rfl (lv_at hl 2 rfl) ?_
      refine goV (n := 7) (ws' := [((md 0), mdC md ((p_X5_passMany z_1 a1) 0)), ((md 1), arC cI 96 ((p_X5_passMany z_1 a1) 1)), ((md 2), arC cI 96 ((p_X5_passMany z_1 a1) 2)), ((md 3), arC cI 96 ((p_X5_passMany z_1 a1) 3)), ((md 4), arC cI 384 ((p_X5_passMany z_1 a1) 4)), ((md 5), arC cI 96 ((p_X5_passMany z_1 a1) 5)), ((md 6), arC cI 60 ((p_X5_passMany z_1 a1) 6))]) (rs := []) (va_runV (As := [.int a1]) (rest := []) ⟨hx, hb, hml, hown, hts⟩ (c_X5_passMany l D cI cC cS md z_1 a1 (by subst_vars; exact hMI) _) (cwV 1 hts gX5_pass_X5_passMany rfl rfl rfl (by decide +kernel) ⟨Nat.le_of_ble_eq_true rfl, Nat.le_of_ble_eq_true rfl⟩) (preV hK hP hD [0, 1, 2, 3, 4, 5, 6] (by decide) rfl 0 5 rfl rfl) rfl rfl hl.1 rfl (lv_room (Nat.le_of_ble_eq_true rfl)) dX5_pass_45 ⟨Nat.zero_le _, Nat.zero_le _⟩) hP hD hS hA [0, 1, 2, 3, 4, 5, 6] [] rfl rfl rfl rfl rfl (by decide +kernel) (fstE (as := [(md 0), (md 1), (md 2), (md 3), (md 4), (md 5), (md 6)]) rfl rfl) (fun H locs hP hD hS => ?_)
      obtain ⟨z_2, hz_2⟩ : ∃ z : CS, z = (p_X5_passMany z_1 a1) := ⟨_, rfl⟩
      rw [← hz_2] at hP hD
      have hr : (r_X5_pass M a1) = ((fun (z_3 : CS) => (r_X5_acted z_2 (((z_2 1) 7) - ((z_1 1) 7)))) (p_X5_acted z_2 (((z_2 1) 7) - ((z_1 1) 7)))) := by subst hz_2; exact hr
      have hp : (p_X5_pass M a1) = ((fun (z_3 : CS) => z_3) (p_X5_acted z_2 (((z_2 1) 7) - ((z_1 1) 7)))) := by subst hz_2; exact hp
      refine lv_aload_n hx hb dX5_pass_48 rfl (lv_at hl 1 rfl) ?_
      refine lv_aload_n hx hb dX5_pass_49 rfl (lv_at hl 1 rfl) ?_
      refine va_get (D := D) (ci := 5) (v := .ref (md 1)) (C := RX5) (T := TX5) (N := 14) hx hb hts inX5 hown hK.1 hP 0 rfl rfl 0 (by decide) (hts (.fieldLink RX5 7 "GrayPointersModel" "all" "[I") (List.mem_of_getElem? (i := 2) rfl)) (fun _ h9 => h9) rfl dX5_pass_50 ?_
      refine lv_bipush (v := (7 : Int32)) hx hb dX5_pass_53 (by decide) ?_
      refine va_iald hx hb hK.1 hP 1 0 rfl rfl (i := (7 : Int32)) (vp_in_iff.mpr (by decide)) dX5_pass_55 ?_
      refine W.eq (g2 := F0 m 56 ls [.int ((z_2 1) 7), .ref (md 0)]) rfl ?_
      refine lv_iload_n hx hb dX5_pass_56 rfl (lv_at hl 0 rfl) ?_
      refine lv_isub hx hb dX5_pass_57 ?_
      refine goI (n := 7) (ws' := [((md 0), mdC md ((p_X5_acted z_2 (((z_2 1) 7) - ((z_1 1) 7))) 0)), ((md 1), arC cI 96 ((p_X5_acted z_2 (((z_2 1) 7) - ((z_1 1) 7))) 1)), ((md 2), arC cI 96 ((p_X5_acted z_2 (((z_2 1) 7) - ((z_1 1) 7))) 2)), ((md 3), arC cI 96 ((p_X5_acted z_2 (((z_2 1) 7) - ((z_1 1) 7))) 3)), ((md 4), arC cI 384 ((p_X5_acted z_2 (((z_2 1) 7) - ((z_1 1) 7))) 4)), ((md 5), arC cI 96 ((p_X5_acted z_2 (((z_2 1) 7) - ((z_1 1) 7))) 5)), ((md 6), arC cI 60 ((p_X5_acted z_2 (((z_2 1) 7) - ((z_1 1) 7))) 6))]) (rs := []) (va_runV (As := [.int (((z_2 1) 7) - ((z_1 1) 7))]) (rest := []) ⟨hx, hb, hml, hown, hts⟩ (c_X5_acted l D cI cC cS md z_2 (((z_2 1) 7) - ((z_1 1) 7)) (by subst_vars; exact hl_pm hHL) _) (cwV 1 hts gX5_pass_X5_acted rfl rfl rfl (by decide +kernel) ⟨Nat.le_of_ble_eq_true rfl, Nat.le_of_ble_eq_true rfl⟩) (preV hK hP hD [0, 1, 2, 3, 4, 5, 6] (by decide) rfl 0 5 rfl rfl) rfl rfl hl.1 rfl (lv_room (Nat.le_of_ble_eq_true rfl)) dX5_pass_58 ⟨Nat.zero_le _, Nat.zero_le _⟩) hP hD hS hA [0, 1, 2, 3, 4, 5, 6] [] rfl rfl rfl rfl rfl (by decide +kernel) (fstE (as := [(md 0), (md 1), (md 2), (md 3), (md 4), (md 5), (md 6)]) rfl rfl) (fun H locs hP hD hS => ?_)
      obtain ⟨z_3, hz_3⟩ : ∃ z : CS, z = (p_X5_acted z_2 (((z_2 1) 7) - ((z_1 1) 7))) := ⟨_, rfl⟩
      rw [← hz_3] at hP hD
      have hr : (r_X5_pass M a1) = (r_X5_acted z_2 (((z_2 1) 7) - ((z_1 1) 7))) := by subst hz_3; exact hr
      have hp : (p_X5_pass M a1) = z_3 := by subst hz_3; exact hp
      exact endI (v := (r_X5_acted z_2 (((z_2 1) 7) - ((z_1 1) 7)))) hb hx hsg hr.symm (by rw [hp]; exact hP) (by rw [hp]; exact hD) hS dX5_pass_61 hlocks
    · have hr := hr.trans (if_neg c25)
      have hp := hp.trans (if_neg c25)
      refine lv_bipush (v := (-3 : Int32)) hx hb dX5_pass_28 (by decide) ?_
      exact endI (v := (-3 : Int32)) hb hx hsg hr.symm (by rw [hp]; exact hP) (by rw [hp]; exact hD) hS dX5_pass_30 hlocks
  · have hr := hr.trans (if_pos c9)
    have hp := hp.trans (if_pos c9)
    refine lv_bipush (v := (-2 : Int32)) hx hb dX5_pass_12 (by decide) ?_
    exact endI (v := (-2 : Int32)) hb hx hsg hr.symm (by rw [hp]; exact hP) (by rw [hp]; exact hD) hS dX5_pass_14 hlocks
def lr_X5_doneIn_13  : Nat → Int32 → CS → Int32
  | 0, _, _ => 0
  | fu + 1, i, M1 => (if (5000 : Int32) < i then ((fun (z_3 : F1) => ((fun (x62_s0 : Int32) (M62 : CS) => x62_s0) (if i ≤ (5000 : Int32) then ((fun (z_4 : CS) => i) (va_up M1 1 z_3)) else ((fun (z_5 : CS) => (-5 : Int32)) (va_up M1 1 z_3))) (if i ≤ (5000 : Int32) then ((fun (z_4 : CS) => z_4) (va_up M1 1 z_3)) else ((fun (z_5 : CS) => z_5) (va_up M1 1 z_3))))) (p_X5_copy (M1 3) (M1 1))) else (if (r_X5_isDone M1) = (0 : Int32) then ((fun (z_9 : CS) => (lr_X5_doneIn_13 fu (i + (1 : Int32)) z_9)) (p_X5_passes M1)) else ((fun (z_6 : F1) => ((fun (x62_s0 : Int32) (M62 : CS) => x62_s0) (if i ≤ (5000 : Int32) then ((fun (z_7 : CS) => i) (va_up M1 1 z_6)) else ((fun (z_8 : CS) => (-5 : Int32)) (va_up M1 1 z_6))) (if i ≤ (5000 : Int32) then ((fun (z_7 : CS) => z_7) (va_up M1 1 z_6)) else ((fun (z_8 : CS) => z_8) (va_up M1 1 z_6))))) (p_X5_copy (M1 3) (M1 1)))))
def lp_X5_doneIn_13  : Nat → Int32 → CS → CS
  | 0, _, M1 => M1
  | fu + 1, i, M1 => (if (5000 : Int32) < i then ((fun (z_3 : F1) => ((fun (x62_s0 : Int32) (M62 : CS) => M62) (if i ≤ (5000 : Int32) then ((fun (z_4 : CS) => i) (va_up M1 1 z_3)) else ((fun (z_5 : CS) => (-5 : Int32)) (va_up M1 1 z_3))) (if i ≤ (5000 : Int32) then ((fun (z_4 : CS) => z_4) (va_up M1 1 z_3)) else ((fun (z_5 : CS) => z_5) (va_up M1 1 z_3))))) (p_X5_copy (M1 3) (M1 1))) else (if (r_X5_isDone M1) = (0 : Int32) then ((fun (z_9 : CS) => (lp_X5_doneIn_13 fu (i + (1 : Int32)) z_9)) (p_X5_passes M1)) else ((fun (z_6 : F1) => ((fun (x62_s0 : Int32) (M62 : CS) => M62) (if i ≤ (5000 : Int32) then ((fun (z_7 : CS) => i) (va_up M1 1 z_6)) else ((fun (z_8 : CS) => (-5 : Int32)) (va_up M1 1 z_6))) (if i ≤ (5000 : Int32) then ((fun (z_7 : CS) => z_7) (va_up M1 1 z_6)) else ((fun (z_8 : CS) => z_8) (va_up M1 1 z_6))))) (p_X5_copy (M1 3) (M1 1)))))
def r_X5_doneIn (M : CS) : Int32 := ((fun (z_1 : F1) => ((fun (z_2 : CS) => (lr_X5_doneIn_13 (((5000 : Int32).toInt + 1 - (0 : Int32).toInt).toNat + 1) (0 : Int32) z_2)) (va_up M 3 z_1))) (p_X5_copy (M 1) (M 3)))
def p_X5_doneIn (M : CS) : CS := ((fun (z_1 : F1) => ((fun (z_2 : CS) => (lp_X5_doneIn_13 (((5000 : Int32).toInt + 1 - (0 : Int32).toInt).toNat + 1) (0 : Int32) z_2)) (va_up M 3 z_1))) (p_X5_copy (M 1) (M 3)))
abbrev rm_X5_doneIn : Room := { frames := 6, cells := 0, slots := 0, locals := 137 }
set_option maxHeartbeats 4000000 in
set_option maxRecDepth 100000 in
theorem c_X5_doneIn (l : Launch) (D : va_G) (cI cC cS : ClassId) (md : Nat → Nat) (M : CS) (hMI : MI M) : CI l D cI cC cS yX5_doneIn wsX5_doneIn rm_X5_doneIn [.ref (md 0)] (mdW cI md M) (mdW cI md (p_X5_doneIn M)) (r_X5_doneIn M) := by
  intro sz
  refine startC (cc := cX5_doneIn) (maxL := 2) (ret := (some .int)) (by decide) rfl (Nat.le_of_ble_eq_true rfl) ?_
  intro p e s m args below meth c hx hb hml hsg hts hown hlocks hin hK A hA hS hP hD ls hl
  have hown : s.vm.findClass RX5 = some m.cls := hown
  have hl : lv_has ls 2 [(0, .ref (md 0))] := hl
  have hP : va_P D vwCl [((md 0), mdC md (M 0)), ((md 1), arC cI 96 (M 1)), ((md 2), arC cI 96 (M 2)), ((md 3), arC cI 96 (M 3)), ((md 4), arC cI 384 (M 4)), ((md 5), arC cI 96 (M 5)), ((md 6), arC cI 60 (M 6))] s.heap := hP
  have hD : va_D A [((md 0), mdC md (M 0)), ((md 1), arC cI 96 (M 1)), ((md 2), arC cI 96 (M 2)), ((md 3), arC cI 96 (M 3)), ((md 4), arC cI 384 (M 4)), ((md 5), arC cI 96 (M 5)), ((md 6), arC cI 60 (M 6))] := hD
  have inX5 : ∀ w ∈ wsX50, w ∈ wsX5_doneIn := fun _ h => List.mem_cons_of_mem _ (List.mem_append_right _ h)
  have hr : (r_X5_doneIn M) = ((fun (z_1 : F1) => ((fun (z_2 : CS) => (lr_X5_doneIn_13 (((5000 : Int32).toInt + 1 - (0 : Int32).toInt).toNat + 1) (0 : Int32) z_2)) (va_up M 3 z_1))) (p_X5_copy (M 1) (M 3))) := rfl
  have hp : (p_X5_doneIn M) = ((fun (z_1 : F1) => ((fun (z_2 : CS) => (lp_X5_doneIn_13 (((5000 : Int32).toInt + 1 - (0 : Int32).toInt).toNat + 1) (0 : Int32) z_2)) (va_up M 3 z_1))) (p_X5_copy (M 1) (M 3))) := rfl
  refine lv_aload_n hx hb dX5_doneIn_0 rfl (lv_at hl 0 rfl) ?_
  refine va_get (D := D) (ci := 5) (v := .ref (md 1)) (C := RX5) (T := TX5) (N := 14) hx hb hts inX5 hown hK.1 hP 0 rfl rfl 0 (by decide) (hts (.fieldLink RX5 7 "GrayPointersModel" "all" "[I") (List.mem_of_getElem? (i := 1) rfl)) (fun _ h9 => h9) rfl dX5_doneIn_1 ?_
  refine lv_aload_n hx hb dX5_doneIn_4 rfl (lv_at hl 0 rfl) ?_
  refine va_get (D := D) (ci := 5) (v := .ref (md 3)) (C := RX5) (T := TX5) (N := 14) hx hb hts inX5 hown hK.1 hP 0 rfl rfl 2 (by decide) (hts (.fieldLink RX5 16 "GrayPointersModel" "tried" "[I") (List.mem_of_getElem? (i := 2) rfl)) (fun _ h9 => h9) rfl dX5_doneIn_5 ?_
  refine goV (n := 7) (ws' := [((md 0), mdC md (M 0)), ((md 1), arC cI 96 (M 1)), ((md 2), arC cI 96 (M 2)), ((md 3), arC cI 96 (p_X5_copy (M 1) (M 3))), ((md 4), arC cI 384 (M 4)), ((md 5), arC cI 96 (M 5)), ((md 6), arC cI 60 (M 6))]) (rs := [((md 0), mdC md (M 0)), ((md 2), arC cI 96 (M 2)), ((md 4), arC cI 384 (M 4)), ((md 5), arC cI 96 (M 5)), ((md 6), arC cI 60 (M 6))]) (va_runS (As := [.ref (md 1), .ref (md 3)]) (rest := []) ⟨hx, hb, hml, hown, hts⟩ (c_X5_copy l D cI cC cS (md 1) (md 3) (M 1) (M 3)  _) (va_cwS 2 hts gX5_doneIn_X5_copy rfl rfl rfl (by decide +kernel) ⟨Nat.le_of_ble_eq_true rfl, Nat.le_of_ble_eq_true rfl⟩) (preS hK hP hD [1, 3] (by decide) rfl) rfl rfl hl.1 rfl (lv_room (Nat.le_of_ble_eq_true rfl)) dX5_doneIn_8 ⟨Nat.zero_le _, Nat.zero_le _⟩) hP hD hS hA [1, 3] [0, 2, 4, 5, 6] rfl rfl rfl rfl rfl (by decide +kernel) (fstE (as := [(md 1), (md 3)]) rfl rfl) (fun H locs hP hD hS => ?_)
  obtain ⟨z_1, hz_1⟩ : ∃ z : F1, z = (p_X5_copy (M 1) (M 3)) := ⟨_, rfl⟩
  rw [← hz_1] at hP hD
  have hr : (r_X5_doneIn M) = ((fun (z_2 : CS) => (lr_X5_doneIn_13 (((5000 : Int32).toInt + 1 - (0 : Int32).toInt).toNat + 1) (0 : Int32) z_2)) (va_up M 3 z_1)) := by subst hz_1; exact hr
  have hp : (p_X5_doneIn M) = ((fun (z_2 : CS) => (lp_X5_doneIn_13 (((5000 : Int32).toInt + 1 - (0 : Int32).toInt).toNat + 1) (0 : Int32) z_2)) (va_up M 3 z_1)) := by subst hz_1; exact hp
  refine lv_iconst (v := (0 : Int32)) hx hb dX5_doneIn_11 (by decide) ?_
  refine lv_istore_n (lv' := [(1, .int (0 : Int32)), (0, .ref (md 0))]) hx hb dX5_doneIn_12 rfl hl (by decide) rfl (fun ls hl => ?_)
  obtain ⟨z_2, hz_2⟩ : ∃ z : CS, z = (va_up M 3 z_1) := ⟨_, rfl⟩
  have e0 : (z_2 0) = (M 0) := (congrFun hz_2 0).trans (va_up_n (by decide))
  have e1 : (z_2 1) = (M 1) := (congrFun hz_2 1).trans (va_up_n (by decide))
  have e2 : (z_2 2) = (M 2) := (congrFun hz_2 2).trans (va_up_n (by decide))
  have e3 : (z_2 3) = z_1 := (congrFun hz_2 3).trans va_up_s
  have e4 : (z_2 4) = (M 4) := (congrFun hz_2 4).trans (va_up_n (by decide))
  have e5 : (z_2 5) = (M 5) := (congrFun hz_2 5).trans (va_up_n (by decide))
  have e6 : (z_2 6) = (M 6) := (congrFun hz_2 6).trans (va_up_n (by decide))
  have hP : va_P D vwCl [((md 0), mdC md (z_2 0)), ((md 1), arC cI 96 (z_2 1)), ((md 2), arC cI 96 (z_2 2)), ((md 3), arC cI 96 (z_2 3)), ((md 4), arC cI 384 (z_2 4)), ((md 5), arC cI 96 (z_2 5)), ((md 6), arC cI 60 (z_2 6))] H := by rw [e0, e1, e2, e3, e4, e5, e6]; exact hP
  have hD : va_D A [((md 0), mdC md (z_2 0)), ((md 1), arC cI 96 (z_2 1)), ((md 2), arC cI 96 (z_2 2)), ((md 3), arC cI 96 (z_2 3)), ((md 4), arC cI 384 (z_2 4)), ((md 5), arC cI 96 (z_2 5)), ((md 6), arC cI 60 (z_2 6))] := by rw [e0, e1, e2, e3, e4, e5, e6]; exact hD
  clear e0 e1 e2 e3 e4 e5 e6
  have hr : (r_X5_doneIn M) = (lr_X5_doneIn_13 (((5000 : Int32).toInt + 1 - (0 : Int32).toInt).toNat + 1) (0 : Int32) z_2) := by subst hz_2; exact hr
  have hp : (p_X5_doneIn M) = (lp_X5_doneIn_13 (((5000 : Int32).toInt + 1 - (0 : Int32).toInt).toNat + 1) (0 : Int32) z_2) := by subst hz_2; exact hp
  have L_13 : ∀ (fu : Nat) (i : Int32) (M1 : CS) (H : Heap) (locs : List Loc), ((5000 : Int32).toInt + 1 - i.toInt < (fu : Int) ∧ 0 < fu) → MI M1 → (r_X5_doneIn M) = (lr_X5_doneIn_13 fu i M1) → (p_X5_doneIn M) = (lp_X5_doneIn_13 fu i M1) → va_P D vwCl [((md 0), mdC md (M1 0)), ((md 1), arC cI 96 (M1 1)), ((md 2), arC cI 96 (M1 2)), ((md 3), arC cI 96 (M1 3)), ((md 4), arC cI 384 (M1 4)), ((md 5), arC cI 96 (M1 5)), ((md 6), arC cI 60 (M1 6))] H → va_D A [((md 0), mdC md (M1 0)), ((md 1), arC cI 96 (M1 1)), ((md 2), arC cI 96 (M1 2)), ((md 3), arC cI 96 (M1 3)), ((md 4), arC cI 384 (M1 4)), ((md 5), arC cI 96 (M1 5)), ((md 6), arC cI 60 (M1 6))] → va_S A s.heap H locs → ∀ ls, lv_has ls 2 [(0, .ref (md 0)), (1, .int i)] → W p l e rm_X5_doneIn s m args below meth c H locs 0 0 (MQ below (QI D (mdW cI md (p_X5_doneIn M)) (r_X5_doneIn M) A) args s 0 0 A) (F0 m 13 ls []) := by
    intro fu
    induction fu with
    | zero => intro i M1 H locs hm; exact absurd hm.2 (Nat.lt_irrefl 0)
    | succ fu ih_13 =>
      intro i M1 H locs hm hMI1 hr hp hP hD hS ls hl
      have hr : (r_X5_doneIn M) = (if (5000 : Int32) < i then ((fun (z_3 : F1) => ((fun (x62_s0 : Int32) (M62 : CS) => x62_s0) (if i ≤ (5000 : Int32) then ((fun (z_4 : CS) => i) (va_up M1 1 z_3)) else ((fun (z_5 : CS) => (-5 : Int32)) (va_up M1 1 z_3))) (if i ≤ (5000 : Int32) then ((fun (z_4 : CS) => z_4) (va_up M1 1 z_3)) else ((fun (z_5 : CS) => z_5) (va_up M1 1 z_3))))) (p_X5_copy (M1 3) (M1 1))) else (if (r_X5_isDone M1) = (0 : Int32) then ((fun (z_9 : CS) => (lr_X5_doneIn_13 fu (i + (1 : Int32)) z_9)) (p_X5_passes M1)) else ((fun (z_6 : F1) => ((fun (x62_s0 : Int32) (M62 : CS) => x62_s0) (if i ≤ (5000 : Int32) then ((fun (z_7 : CS) => i) (va_up M1 1 z_6)) else ((fun (z_8 : CS) => (-5 : Int32)) (va_up M1 1 z_6))) (if i ≤ (5000 : Int32) then ((fun (z_7 : CS) => z_7) (va_up M1 1 z_6)) else ((fun (z_8 : CS) => z_8) (va_up M1 1 z_6))))) (p_X5_copy (M1 3) (M1 1))))) := hr
      have hp : (p_X5_doneIn M) = (if (5000 : Int32) < i then ((fun (z_3 : F1) => ((fun (x62_s0 : Int32) (M62 : CS) => M62) (if i ≤ (5000 : Int32) then ((fun (z_4 : CS) => i) (va_up M1 1 z_3)) else ((fun (z_5 : CS) => (-5 : Int32)) (va_up M1 1 z_3))) (if i ≤ (5000 : Int32) then ((fun (z_4 : CS) => z_4) (va_up M1 1 z_3)) else ((fun (z_5 : CS) => z_5) (va_up M1 1 z_3))))) (p_X5_copy (M1 3) (M1 1))) else (if (r_X5_isDone M1) = (0 : Int32) then ((fun (z_9 : CS) => (lp_X5_doneIn_13 fu (i + (1 : Int32)) z_9)) (p_X5_passes M1)) else ((fun (z_6 : F1) => ((fun (x62_s0 : Int32) (M62 : CS) => M62) (if i ≤ (5000 : Int32) then ((fun (z_7 : CS) => i) (va_up M1 1 z_6)) else ((fun (z_8 : CS) => (-5 : Int32)) (va_up M1 1 z_6))) (if i ≤ (5000 : Int32) then ((fun (z_7 : CS) => z_7) (va_up M1 1 z_6)) else ((fun (z_8 : CS) => z_8) (va_up M1 1 z_6))))) (p_X5_copy (M1 3) (M1 1))))) := hp
      refine lv_iload_n hx hb dX5_doneIn_13 rfl (lv_at hl 1 rfl) ?_
      refine lv_sipush (v := (5000 : Int32)) hx hb dX5_doneIn_14 (by decide) ?_
      refine lv_icmp_gt (tgt := 38) hx hb dX5_doneIn_17 (by decide) (fun c17 => ?_) (fun c17 => ?_)
      · have hr := hr.trans (if_pos c17)
        have hp := hp.trans (if_pos c17)
        refine lv_aload_n hx hb dX5_doneIn_38 rfl (lv_at hl 0 rfl) ?_
        refine va_get (D := D) (ci := 5) (v := .ref (md 3)) (C := RX5) (T := TX5) (N := 14) hx hb hts inX5 hown hK.1 hP 0 rfl rfl 2 (by decide) (hts (.fieldLink RX5 16 "GrayPointersModel" "tried" "[I") (List.mem_of_getElem? (i := 2) rfl)) (fun _ h9 => h9) rfl dX5_doneIn_39 ?_
        refine lv_aload_n hx hb dX5_doneIn_42 rfl (lv_at hl 0 rfl) ?_
        refine va_get (D := D) (ci := 5) (v := .ref (md 1)) (C := RX5) (T := TX5) (N := 14) hx hb hts inX5 hown hK.1 hP 0 rfl rfl 0 (by decide) (hts (.fieldLink RX5 7 "GrayPointersModel" "all" "[I") (List.mem_of_getElem? (i := 1) rfl)) (fun _ h9 => h9) rfl dX5_doneIn_43 ?_
        refine goV (n := 7) (ws' := [((md 0), mdC md (M1 0)), ((md 1), arC cI 96 (p_X5_copy (M1 3) (M1 1))), ((md 2), arC cI 96 (M1 2)), ((md 3), arC cI 96 (M1 3)), ((md 4), arC cI 384 (M1 4)), ((md 5), arC cI 96 (M1 5)), ((md 6), arC cI 60 (M1 6))]) (rs := [((md 0), mdC md (M1 0)), ((md 2), arC cI 96 (M1 2)), ((md 4), arC cI 384 (M1 4)), ((md 5), arC cI 96 (M1 5)), ((md 6), arC cI 60 (M1 6))]) (va_runS (As := [.ref (md 3), .ref (md 1)]) (rest := []) ⟨hx, hb, hml, hown, hts⟩ (c_X5_copy l D cI cC cS (md 3) (md 1) (M1 3) (M1 1)  _) (va_cwS 2 hts gX5_doneIn_X5_copy rfl rfl rfl (by decide +kernel) ⟨Nat.le_of_ble_eq_true rfl, Nat.le_of_ble_eq_true rfl⟩) (preS hK hP hD [3, 1] (by decide) rfl) rfl rfl hl.1 rfl (lv_room (Nat.le_of_ble_eq_true rfl)) dX5_doneIn_46 ⟨Nat.zero_le _, Nat.zero_le _⟩) hP hD hS hA [3, 1] [0, 2, 4, 5, 6] rfl rfl rfl rfl rfl (by decide +kernel) (fstE (as := [(md 3), (md 1)]) rfl rfl) (fun H locs hP hD hS => ?_)
        obtain ⟨z_3, hz_3⟩ : ∃ z : F1, z = (p_X5_copy (M1 3) (M1 1)) := ⟨_, rfl⟩
        rw [← hz_3] at hP hD
        have hr : (r_X5_doneIn M) = ((fun (x62_s0 : Int32) (M62 : CS) => x62_s0) (if i ≤ (5000 : Int32) then ((fun (z_4 : CS) => i) (va_up M1 1 z_3)) else ((fun (z_5 : CS) => (-5 : Int32)) (va_up M1 1 z_3))) (if i ≤ (5000 : Int32) then ((fun (z_4 : CS) => z_4) (va_up M1 1 z_3)) else ((fun (z_5 : CS) => z_5) (va_up M1 1 z_3)))) := by subst hz_3; exact hr
        have hp : (p_X5_doneIn M) = ((fun (x62_s0 : Int32) (M62 : CS) => M62) (if i ≤ (5000 : Int32) then ((fun (z_4 : CS) => i) (va_up M1 1 z_3)) else ((fun (z_5 : CS) => (-5 : Int32)) (va_up M1 1 z_3))) (if i ≤ (5000 : Int32) then ((fun (z_4 : CS) => z_4) (va_up M1 1 z_3)) else ((fun (z_5 : CS) => z_5) (va_up M1 1 z_3)))) := by subst hz_3; exact hp
        refine lv_iload_n hx hb dX5_doneIn_49 rfl (lv_at hl 1 rfl) ?_
        refine lv_sipush (v := (5000 : Int32)) hx hb dX5_doneIn_50 (by decide) ?_
        have J_62 : ∀ (x62_s0 : Int32) (M62 : CS) (H : Heap) (locs : List Loc), x62_s0 = (if i ≤ (5000 : Int32) then ((fun (z_4 : CS) => i) (va_up M1 1 z_3)) else ((fun (z_5 : CS) => (-5 : Int32)) (va_up M1 1 z_3))) → M62 = (if i ≤ (5000 : Int32) then ((fun (z_4 : CS) => z_4) (va_up M1 1 z_3)) else ((fun (z_5 : CS) => z_5) (va_up M1 1 z_3))) → va_P D vwCl [((md 0), mdC md (M62 0)), ((md 1), arC cI 96 (M62 1)), ((md 2), arC cI 96 (M62 2)), ((md 3), arC cI 96 (M62 3)), ((md 4), arC cI 384 (M62 4)), ((md 5), arC cI 96 (M62 5)), ((md 6), arC cI 60 (M62 6))] H → va_D A [((md 0), mdC md (M62 0)), ((md 1), arC cI 96 (M62 1)), ((md 2), arC cI 96 (M62 2)), ((md 3), arC cI 96 (M62 3)), ((md 4), arC cI 384 (M62 4)), ((md 5), arC cI 96 (M62 5)), ((md 6), arC cI 60 (M62 6))] → va_S A s.heap H locs → ∀ ls, lv_has ls 2 [] → W p l e rm_X5_doneIn s m args below meth c H locs 0 0 (MQ below (QI D (mdW cI md (p_X5_doneIn M)) (r_X5_doneIn M) A) args s 0 0 A) (F0 m 62 ls [.int x62_s0]) := by
          intro x62_s0 M62 H locs ex62_s0 eM62 hP hD hS ls hl
          have hr : (r_X5_doneIn M) = x62_s0 := by subst eM62 ex62_s0; exact hr
          have hp : (p_X5_doneIn M) = M62 := by subst eM62 ex62_s0; exact hp
          exact endI (v := x62_s0) hb hx hsg hr.symm (by rw [hp]; exact hP) (by rw [hp]; exact hD) hS dX5_doneIn_62 hlocks
        refine lv_icmp_le (tgt := 61) hx hb dX5_doneIn_53 (by decide) (fun c53 => ?_) (fun c53 => ?_)
        · refine lv_iload_n hx hb dX5_doneIn_61 rfl (lv_at hl 1 rfl) ?_
          obtain ⟨z_4, hz_4⟩ : ∃ z : CS, z = (va_up M1 1 z_3) := ⟨_, rfl⟩
          have e0 : (z_4 0) = (M1 0) := (congrFun hz_4 0).trans (va_up_n (by decide))
          have e1 : (z_4 1) = z_3 := (congrFun hz_4 1).trans va_up_s
          have e2 : (z_4 2) = (M1 2) := (congrFun hz_4 2).trans (va_up_n (by decide))
          have e3 : (z_4 3) = (M1 3) := (congrFun hz_4 3).trans (va_up_n (by decide))
          have e4 : (z_4 4) = (M1 4) := (congrFun hz_4 4).trans (va_up_n (by decide))
          have e5 : (z_4 5) = (M1 5) := (congrFun hz_4 5).trans (va_up_n (by decide))
          have e6 : (z_4 6) = (M1 6) := (congrFun hz_4 6).trans (va_up_n (by decide))
          have hP : va_P D vwCl [((md 0), mdC md (z_4 0)), ((md 1), arC cI 96 (z_4 1)), ((md 2), arC cI 96 (z_4 2)), ((md 3), arC cI 96 (z_4 3)), ((md 4), arC cI 384 (z_4 4)), ((md 5), arC cI 96 (z_4 5)), ((md 6), arC cI 60 (z_4 6))] H := by rw [e0, e1, e2, e3, e4, e5, e6]; exact hP
          have hD : va_D A [((md 0), mdC md (z_4 0)), ((md 1), arC cI 96 (z_4 1)), ((md 2), arC cI 96 (z_4 2)), ((md 3), arC cI 96 (z_4 3)), ((md 4), arC cI 384 (z_4 4)), ((md 5), arC cI 96 (z_4 5)), ((md 6), arC cI 60 (z_4 6))] := by rw [e0, e1, e2, e3, e4, e5, e6]; exact hD
          clear e0 e1 e2 e3 e4 e5 e6
          exact J_62 i z_4 _ _ (by subst hz_4; exact (if_pos c53).symm) (by subst hz_4; exact (if_pos c53).symm) hP hD hS ls (lv_sub hl [] rfl)
        · refine lv_bipush (v := (-5 : Int32)) hx hb dX5_doneIn_56 (by decide) ?_
          refine lv_goto (tgt := 62) hx hb dX5_doneIn_58 (by decide) ?_
          obtain ⟨z_5, hz_5⟩ : ∃ z : CS, z = (va_up M1 1 z_3) := ⟨_, rfl⟩
          have e0 : (z_5 0) = (M1 0) := (congrFun hz_5 0).trans (va_up_n (by decide))
          have e1 : (z_5 1) = z_3 := (congrFun hz_5 1).trans va_up_s
          have e2 : (z_5 2) = (M1 2) := (congrFun hz_5 2).trans (va_up_n (by decide))
          have e3 : (z_5 3) = (M1 3) := (congrFun hz_5 3).trans (va_up_n (by decide))
          have e4 : (z_5 4) = (M1 4) := (congrFun hz_5 4).trans (va_up_n (by decide))
          have e5 : (z_5 5) = (M1 5) := (congrFun hz_5 5).trans (va_up_n (by decide))
          have e6 : (z_5 6) = (M1 6) := (congrFun hz_5 6).trans (va_up_n (by decide))
          have hP : va_P D vwCl [((md 0), mdC md (z_5 0)), ((md 1), arC cI 96 (z_5 1)), ((md 2), arC cI 96 (z_5 2)), ((md 3), arC cI 96 (z_5 3)), ((md 4), arC cI 384 (z_5 4)), ((md 5), arC cI 96 (z_5 5)), ((md 6), arC cI 60 (z_5 6))] H := by rw [e0, e1, e2, e3, e4, e5, e6]; exact hP
          have hD : va_D A [((md 0), mdC md (z_5 0)), ((md 1), arC cI 96 (z_5 1)), ((md 2), arC cI 96 (z_5 2)), ((md 3), arC cI 96 (z_5 3)), ((md 4), arC cI 384 (z_5 4)), ((md 5), arC cI 96 (z_5 5)), ((md 6), arC cI 60 (z_5 6))] := by rw [e0, e1, e2, e3, e4, e5, e6]; exact hD
          clear e0 e1 e2 e3 e4 e5 e6
          exact J_62 (-5 : Int32) z_5 _ _ (by subst hz_5; exact (if_neg c53).symm) (by subst hz_5; exact (if_neg c53).symm) hP hD hS ls (lv_sub hl [] rfl)
      · have hr := hr.trans (if_neg c17)
        have hp := hp.trans (if_neg c17)
        refine lv_aload_n hx hb dX5_doneIn_20 rfl (lv_at hl 0 rfl) ?_
        refine goI (n := 7) (ws' := [((md 0), mdC md (M1 0)), ((md 1), arC cI 96 (M1 1)), ((md 2), arC cI 96 (M1 2)), ((md 3), arC cI 96 (M1 3)), ((md 4), arC cI 384 (M1 4)), ((md 5), arC cI 96 (M1 5)), ((md 6), arC cI 60 (M1 6))]) (rs := []) (va_runV (As := []) (rest := []) ⟨hx, hb, hml, hown, hts⟩ (c_X5_isDone l D cI cC cS md M1  _) (cwV 0 hts gX5_doneIn_X5_isDone rfl rfl rfl (by decide +kernel) ⟨Nat.le_of_ble_eq_true rfl, Nat.le_of_ble_eq_true rfl⟩) (preV hK hP hD [0, 1, 2, 3, 4, 5, 6] (by decide) rfl 0 5 rfl rfl) rfl rfl hl.1 rfl (lv_room (Nat.le_of_ble_eq_true rfl)) dX5_doneIn_21 ⟨Nat.zero_le _, Nat.zero_le _⟩) hP hD hS hA [0, 1, 2, 3, 4, 5, 6] [] rfl rfl rfl rfl rfl (by decide +kernel) rfl (fun H locs hP hD hS => ?_)
        refine lv_if_ne (tgt := 38) hx hb dX5_doneIn_24 (by decide) (fun c24 => ?_) (fun c24 => ?_)
        · have hr := hr.trans (if_neg c24)
          have hp := hp.trans (if_neg c24)
          refine lv_aload_n hx hb dX5_doneIn_38 rfl (lv_at hl 0 rfl) ?_
          refine va_get (D := D) (ci := 5) (v := .ref (md 3)) (C := RX5) (T := TX5) (N := 14) hx hb hts inX5 hown hK.1 hP 0 rfl rfl 2 (by decide) (hts (.fieldLink RX5 16 "GrayPointersModel" "tried" "[I") (List.mem_of_getElem? (i := 2) rfl)) (fun _ h9 => h9) rfl dX5_doneIn_39 ?_
          refine lv_aload_n hx hb dX5_doneIn_42 rfl (lv_at hl 0 rfl) ?_
          refine va_get (D := D) (ci := 5) (v := .ref (md 1)) (C := RX5) (T := TX5) (N := 14) hx hb hts inX5 hown hK.1 hP 0 rfl rfl 0 (by decide) (hts (.fieldLink RX5 7 "GrayPointersModel" "all" "[I") (List.mem_of_getElem? (i := 1) rfl)) (fun _ h9 => h9) rfl dX5_doneIn_43 ?_
          refine goV (n := 7) (ws' := [((md 0), mdC md (M1 0)), ((md 1), arC cI 96 (p_X5_copy (M1 3) (M1 1))), ((md 2), arC cI 96 (M1 2)), ((md 3), arC cI 96 (M1 3)), ((md 4), arC cI 384 (M1 4)), ((md 5), arC cI 96 (M1 5)), ((md 6), arC cI 60 (M1 6))]) (rs := [((md 0), mdC md (M1 0)), ((md 2), arC cI 96 (M1 2)), ((md 4), arC cI 384 (M1 4)), ((md 5), arC cI 96 (M1 5)), ((md 6), arC cI 60 (M1 6))]) (va_runS (As := [.ref (md 3), .ref (md 1)]) (rest := []) ⟨hx, hb, hml, hown, hts⟩ (c_X5_copy l D cI cC cS (md 3) (md 1) (M1 3) (M1 1)  _) (va_cwS 2 hts gX5_doneIn_X5_copy rfl rfl rfl (by decide +kernel) ⟨Nat.le_of_ble_eq_true rfl, Nat.le_of_ble_eq_true rfl⟩) (preS hK hP hD [3, 1] (by decide) rfl) rfl rfl hl.1 rfl (lv_room (Nat.le_of_ble_eq_true rfl)) dX5_doneIn_46 ⟨Nat.zero_le _, Nat.zero_le _⟩) hP hD hS hA [3, 1] [0, 2, 4, 5, 6] rfl rfl rfl rfl rfl (by decide +kernel) (fstE (as := [(md 3), (md 1)]) rfl rfl) (fun H locs hP hD hS => ?_)
          obtain ⟨z_6, hz_6⟩ : ∃ z : F1, z = (p_X5_copy (M1 3) (M1 1)) := ⟨_, rfl⟩
          rw [← hz_6] at hP hD
          have hr : (r_X5_doneIn M) = ((fun (x62_s0 : Int32) (M62 : CS) => x62_s0) (if i ≤ (5000 : Int32) then ((fun (z_7 : CS) => i) (va_up M1 1 z_6)) else ((fun (z_8 : CS) => (-5 : Int32)) (va_up M1 1 z_6))) (if i ≤ (5000 : Int32) then ((fun (z_7 : CS) => z_7) (va_up M1 1 z_6)) else ((fun (z_8 : CS) => z_8) (va_up M1 1 z_6)))) := by subst hz_6; exact hr
          have hp : (p_X5_doneIn M) = ((fun (x62_s0 : Int32) (M62 : CS) => M62) (if i ≤ (5000 : Int32) then ((fun (z_7 : CS) => i) (va_up M1 1 z_6)) else ((fun (z_8 : CS) => (-5 : Int32)) (va_up M1 1 z_6))) (if i ≤ (5000 : Int32) then ((fun (z_7 : CS) => z_7) (va_up M1 1 z_6)) else ((fun (z_8 : CS) => z_8) (va_up M1 1 z_6)))) := by subst hz_6; exact hp
          refine lv_iload_n hx hb dX5_doneIn_49 rfl (lv_at hl 1 rfl) ?_
          refine lv_sipush (v := (5000 : Int32)) hx hb dX5_doneIn_50 (by decide) ?_
          have J_62 : ∀ (x62_s0 : Int32) (M62 : CS) (H : Heap) (locs : List Loc), x62_s0 = (if i ≤ (5000 : Int32) then ((fun (z_7 : CS) => i) (va_up M1 1 z_6)) else ((fun (z_8 : CS) => (-5 : Int32)) (va_up M1 1 z_6))) → M62 = (if i ≤ (5000 : Int32) then ((fun (z_7 : CS) => z_7) (va_up M1 1 z_6)) else ((fun (z_8 : CS) => z_8) (va_up M1 1 z_6))) → va_P D vwCl [((md 0), mdC md (M62 0)), ((md 1), arC cI 96 (M62 1)), ((md 2), arC cI 96 (M62 2)), ((md 3), arC cI 96 (M62 3)), ((md 4), arC cI 384 (M62 4)), ((md 5), arC cI 96 (M62 5)), ((md 6), arC cI 60 (M62 6))] H → va_D A [((md 0), mdC md (M62 0)), ((md 1), arC cI 96 (M62 1)), ((md 2), arC cI 96 (M62 2)), ((md 3), arC cI 96 (M62 3)), ((md 4), arC cI 384 (M62 4)), ((md 5), arC cI 96 (M62 5)), ((md 6), arC cI 60 (M62 6))] → va_S A s.heap H locs → ∀ ls, lv_has ls 2 [] → W p l e rm_X5_doneIn s m args below meth c H locs 0 0 (MQ below (QI D (mdW cI md (p_X5_doneIn M)) (r_X5_doneIn M) A) args s 0 0 A) (F0 m 62 ls [.int x62_s0]) := by
            intro x62_s0 M62 H locs ex62_s0 eM62 hP hD hS ls hl
            have hr : (r_X5_doneIn M) = x62_s0 := by subst eM62 ex62_s0; exact hr
            have hp : (p_X5_doneIn M) = M62 := by subst eM62 ex62_s0; exact hp
            exact endI (v := x62_s0) hb hx hsg hr.symm (by rw [hp]; exact hP) (by rw [hp]; exact hD) hS dX5_doneIn_62 hlocks
          refine lv_icmp_le (tgt := 61) hx hb dX5_doneIn_53 (by decide) (fun c53 => ?_) (fun c53 => ?_)
          · refine lv_iload_n hx hb dX5_doneIn_61 rfl (lv_at hl 1 rfl) ?_
            obtain ⟨z_7, hz_7⟩ : ∃ z : CS, z = (va_up M1 1 z_6) := ⟨_, rfl⟩
            have e0 : (z_7 0) = (M1 0) := (congrFun hz_7 0).trans (va_up_n (by decide))
            have e1 : (z_7 1) = z_6 := (congrFun hz_7 1).trans va_up_s
            have e2 : (z_7 2) = (M1 2) := (congrFun hz_7 2).trans (va_up_n (by decide))
            have e3 : (z_7 3) = (M1 3) := (congrFun hz_7 3).trans (va_up_n (by decide))
            have e4 : (z_7 4) = (M1 4) := (congrFun hz_7 4).trans (va_up_n (by decide))
            have e5 : (z_7 5) = (M1 5) := (congrFun hz_7 5).trans (va_up_n (by decide))
            have e6 : (z_7 6) = (M1 6) := (congrFun hz_7 6).trans (va_up_n (by decide))
            have hP : va_P D vwCl [((md 0), mdC md (z_7 0)), ((md 1), arC cI 96 (z_7 1)), ((md 2), arC cI 96 (z_7 2)), ((md 3), arC cI 96 (z_7 3)), ((md 4), arC cI 384 (z_7 4)), ((md 5), arC cI 96 (z_7 5)), ((md 6), arC cI 60 (z_7 6))] H := by rw [e0, e1, e2, e3, e4, e5, e6]; exact hP
            have hD : va_D A [((md 0), mdC md (z_7 0)), ((md 1), arC cI 96 (z_7 1)), ((md 2), arC cI 96 (z_7 2)), ((md 3), arC cI 96 (z_7 3)), ((md 4), arC cI 384 (z_7 4)), ((md 5), arC cI 96 (z_7 5)), ((md 6), arC cI 60 (z_7 6))] := by rw [e0, e1, e2, e3, e4, e5, e6]; exact hD
            clear e0 e1 e2 e3 e4 e5 e6
            exact J_62 i z_7 _ _ (by subst hz_7; exact (if_pos c53).symm) (by subst hz_7; exact (if_pos c53).symm) hP hD hS ls (lv_sub hl [] rfl)
          · refine lv_bipush (v := (-5 : Int32)) hx hb dX5_doneIn_56 (by decide) ?_
            refine lv_goto (tgt := 62) hx hb dX5_doneIn_58 (by decide) ?_
            obtain ⟨z_8, hz_8⟩ : ∃ z : CS, z = (va_up M1 1 z_6) := ⟨_, rfl⟩
            have e0 : (z_8 0) = (M1 0) := (congrFun hz_8 0).trans (va_up_n (by decide))
            have e1 : (z_8 1) = z_6 := (congrFun hz_8 1).trans va_up_s
            have e2 : (z_8 2) = (M1 2) := (congrFun hz_8 2).trans (va_up_n (by decide))
            have e3 : (z_8 3) = (M1 3) := (congrFun hz_8 3).trans (va_up_n (by decide))
            have e4 : (z_8 4) = (M1 4) := (congrFun hz_8 4).trans (va_up_n (by decide))
            have e5 : (z_8 5) = (M1 5) := (congrFun hz_8 5).trans (va_up_n (by decide))
            have e6 : (z_8 6) = (M1 6) := (congrFun hz_8 6).trans (va_up_n (by decide))
            have hP : va_P D vwCl [((md 0), mdC md (z_8 0)), ((md 1), arC cI 96 (z_8 1)), ((md 2), arC cI 96 (z_8 2)), ((md 3), arC cI 96 (z_8 3)), ((md 4), arC cI 384 (z_8 4)), ((md 5), arC cI 96 (z_8 5)), ((md 6), arC cI 60 (z_8 6))] H := by rw [e0, e1, e2, e3, e4, e5, e6]; exact hP
            have hD : va_D A [((md 0), mdC md (z_8 0)), ((md 1), arC cI 96 (z_8 1)), ((md 2), arC cI 96 (z_8 2)), ((md 3), arC cI 96 (z_8 3)), ((md 4), arC cI 384 (z_8 4)), ((md 5), arC cI 96 (z_8 5)), ((md 6), arC cI 60 (z_8 6))] := by rw [e0, e1, e2, e3, e4, e5, e6]; exact hD
            clear e0 e1 e2 e3 e4 e5 e6
            exact J_62 (-5 : Int32) z_8 _ _ (by subst hz_8; exact (if_neg c53).symm) (by subst hz_8; exact (if_neg c53).symm) hP hD hS ls (lv_sub hl [] rfl)
        · have hr := hr.trans (if_pos c24)
          have hp := hp.trans (if_pos c24)
          refine lv_aload_n hx hb dX5_doneIn_27 rfl (lv_at hl 0 rfl) ?_
          refine goI (n := 7) (ws' := [((md 0), mdC md ((p_X5_passes M1) 0)), ((md 1), arC cI 96 ((p_X5_passes M1) 1)), ((md 2), arC cI 96 ((p_X5_passes M1) 2)), ((md 3), arC cI 96 ((p_X5_passes M1) 3)), ((md 4), arC cI 384 ((p_X5_passes M1) 4)), ((md 5), arC cI 96 ((p_X5_passes M1) 5)), ((md 6), arC cI 60 ((p_X5_passes M1) 6))]) (rs := []) (va_runV (As := []) (rest := []) ⟨hx, hb, hml, hown, hts⟩ (c_X5_passes l D cI cC cS md M1 hMI1 _) (cwV 0 hts gX5_doneIn_X5_passes rfl rfl rfl (by decide +kernel) ⟨Nat.le_of_ble_eq_true rfl, Nat.le_of_ble_eq_true rfl⟩) (preV hK hP hD [0, 1, 2, 3, 4, 5, 6] (by decide) rfl 0 5 rfl rfl) rfl rfl hl.1 rfl (lv_room (Nat.le_of_ble_eq_true rfl)) dX5_doneIn_28 ⟨Nat.zero_le _, Nat.zero_le _⟩) hP hD hS hA [0, 1, 2, 3, 4, 5, 6] [] rfl rfl rfl rfl rfl (by decide +kernel) (fstE (as := [(md 0), (md 1), (md 2), (md 3), (md 4), (md 5), (md 6)]) rfl rfl) (fun H locs hP hD hS => ?_)
          obtain ⟨z_9, hz_9⟩ : ∃ z : CS, z = (p_X5_passes M1) := ⟨_, rfl⟩
          rw [← hz_9] at hP hD
          have hr : (r_X5_doneIn M) = (lr_X5_doneIn_13 fu (i + (1 : Int32)) z_9) := by subst hz_9; exact hr
          have hp : (p_X5_doneIn M) = (lp_X5_doneIn_13 fu (i + (1 : Int32)) z_9) := by subst hz_9; exact hp
          refine lv_pop hx hb dX5_doneIn_31 rfl ?_
          refine lv_iinc (v := (i + (1 : Int32))) (lv' := [(1, .int (i + (1 : Int32))), (0, .ref (md 0))]) hx hb dX5_doneIn_32 hl (k := 1) rfl rfl (by decide) rfl (fun ls hl => ?_)
          refine lv_goto (tgt := 13) hx hb dX5_doneIn_35 (by decide) ?_
          exact ih_13 (i + (1 : Int32)) z_9 _ _ (by subst hz_9; exact (cnt2_step (by decide) c17 hm)) (by subst hz_9; exact (mi_passes hMI1)) hr hp hP hD hS ls (lv_sub hl [1, 0] rfl)
  exact L_13 _ (0 : Int32) z_2 _ _ (cnt2_init _ _) (by subst_vars; exact hMI) hr hp hP hD hS ls (lv_sub hl [1, 0] rfl)
