theorem mi_waits {M : CS} {x : Int32} (h : MI M) (hw : 0 ≤ (M 1 5).toInt ∧ (M 1 5).toInt < 20) : MI (p_X5_waits M x) ∧ p_X5_waits M x 1 5 = M 1 5 + 1 ∧ (∀ j, j ≠ 1 → p_X5_waits M x j = M j) := by
  obtain ⟨w, hw1, hw2⟩ : ∃ w : Nat, w < 20 ∧ M 1 5 = nI w := by
    refine ⟨(M 1 5).toInt.toNat, by omega, Int32.toInt_inj.mp ?_⟩
    rw [nI_toInt (by omega)]; omega
  have e := waits_at hw2 hw1 x
  rw [e]
  have F : ∀ j, j ≠ 5 → j < 27 → upd (upd (M 1) (27 + w) x) 5 (nI (w + 1)) j = M 1 j := fun j h1 h2 => by rw [up_n h1, up_n (by omega)]
  have e1 : va_up M 1 (upd (upd (M 1) (27 + w) x) 5 (nI (w + 1))) 1 = upd (upd (M 1) (27 + w) x) 5 (nI (w + 1)) := va_up_s
  refine ⟨?_, ?_, fun j hj => va_up_n hj⟩
  · unfold MI
    rw [e1, F 0 (by decide) (by decide), F 11 (by decide) (by decide), F 19 (by decide) (by decide), up_s, nI_toInt (by omega)]
    exact ⟨h.1, h.2.1, by omega, by omega⟩
  · rw [e1, up_s, hw2, nI_1]
/-- what the rebuilt ring has at the places that its steps want -/
theorem mi_builds {M : CS} {x g : Int32} (hx : 1 ≤ x.toInt ∧ x.toInt ≤ 4) (h11 : ¬ (M 1 11) = 0 ∧ ¬ (M 1 19) = 0) : MI (p_X5_builds M x g) ∧ p_X5_builds M x g 1 5 = 0 ∧ (∀ j, j ≠ 1 → p_X5_builds M x g j = M j) := by
  rw [builds_at]
  refine ⟨?_, ?_, fun j hj => va_up_n hj⟩
  · unfold MI
    rw [va_up_s, show bld (M 1) x g 0 = x from rfl, bld_n (j := 11) (by omega), bld_n (j := 19) (by omega), bld_z (j := 5) (by omega)]
    exact ⟨hx, h11, by decide, by decide⟩
  · rw [va_up_s]; exact bld_z (by omega)
theorem en_b {M : CS} {x g : Int32} (hk : 1 ≤ x.toInt ∧ x.toInt ≤ 4) (hT : MI (va_up M 1 (M 3))) : MI (p_X5_builds (va_up M 1 (p_X5_copy (M 3) (M 1))) x g) ∧ p_X5_builds (va_up M 1 (p_X5_copy (M 3) (M 1))) x g 1 5 = 0 ∧ p_X5_builds (va_up M 1 (p_X5_copy (M 3) (M 1))) x g 3 = M 3 := by
  have e1 : ∀ j, j < 96 → va_up M 1 (p_X5_copy (M 3) (M 1)) 1 j = M 3 j := fun j hj => by rw [va_up_s]; exact cp5_lt _ _ hj
  have h := mi_builds (M := va_up M 1 (p_X5_copy (M 3) (M 1))) (x := x) (g := g) hk ⟨by rw [e1 11 (by decide)]; exact hT.2.1.1, by rw [e1 19 (by decide)]; exact hT.2.1.2⟩
  exact ⟨h.1, h.2.1, (h.2.2 3 (by decide)).trans (va_up_n (by decide))⟩
theorem en_m0 {M M1 : CS} (h3 : M1 3 = M 3) (hT : MI (va_up M 1 (M 3))) : (M1 3 5).toInt - (0 : Int32).toInt < ((21 : Nat) : Int) ∧ 0 < 21 := by
  have h : (M 3 5).toInt ≤ 20 := hT.2.2.2
  rw [h3, zero_toI]
  exact ⟨by omega, by decide⟩
theorem en_w {M M1 : CS} {i : Int32} (h5 : M1 1 5 = i) (h3 : M1 3 = M 3) (hT : MI (va_up M 1 (M 3))) (hi : 0 ≤ i.toInt) (c31 : ¬ (M1 3 5) ≤ i) : 0 ≤ (M1 1 5).toInt ∧ (M1 1 5).toInt < 20 := by
  have h : (M 3 5).toInt ≤ 20 := hT.2.2.2
  have := lt_of_nle c31
  rw [h3] at this
  rw [h5]; omega
theorem en_in {M M1 : CS} {i : Int32} (h3 : M1 3 = M 3) (hT : MI (va_up M 1 (M 3))) (hi : 0 ≤ i.toInt) (c31 : ¬ (M1 3 5) ≤ i) : vp_in ((27 : Int32) + i) 96 := by
  have h : (M 3 5).toInt ≤ 20 := hT.2.2.2
  have := lt_of_nle c31
  rw [h3] at this
  exact vp_add (a := 27) (by decide) hi (by omega) (by decide)
def q_X5_isEnough_24  : Nat → Int32 → CS → CS
  | 0, _, M1 => M1
  | fu + 1, i, M1 => (if ((M1 3) 5) ≤ i then M1 else ((fun (z_4 : CS) => (q_X5_isEnough_24 fu (i + (1 : Int32)) z_4)) (p_X5_waits M1 ((M1 3) ((27 : Int32) + i).toNatClampNeg))))
def lr_X5_isEnough_58 (a2 : Int32) : Nat → Int32 → Int32 → CS → Int32
  | 0, _, _, _ => 0
  | fu + 1, is, t, M2 => (if a2 ≤ t then is else (if is = (0 : Int32) then is else ((fun (z_5 : CS) => ((fun (x80_s0 : Int32) => (lr_X5_isEnough_58 a2 fu x80_s0 (t + (1 : Int32)) z_5)) (if (r_X5_passes M2) = (0 : Int32) then (1 : Int32) else (0 : Int32)))) (p_X5_passes M2))))
def lp_X5_isEnough_58 (a2 : Int32) : Nat → Int32 → Int32 → CS → CS
  | 0, _, _, M2 => M2
  | fu + 1, is, t, M2 => (if a2 ≤ t then M2 else (if is = (0 : Int32) then M2 else ((fun (z_5 : CS) => ((fun (x80_s0 : Int32) => (lp_X5_isEnough_58 a2 fu x80_s0 (t + (1 : Int32)) z_5)) (if (r_X5_passes M2) = (0 : Int32) then (1 : Int32) else (0 : Int32)))) (p_X5_passes M2))))
def r_X5_isEnough (M : CS) (a1 : Int32) (a2 : Int32) : Int32 := ((fun (z_1 : F1) => ((fun (z_2 : CS) => ((fun (z_3 : CS) => ((fun (T24_M1 : CS) => (lr_X5_isEnough_58 a2 ((a2.toInt - (0 : Int32).toInt).toNat + 1) (1 : Int32) (0 : Int32) T24_M1)) (q_X5_isEnough_24 21 (0 : Int32) z_3))) (p_X5_builds z_2 a1 ((M 3) 1)))) (va_up M 1 z_1))) (p_X5_copy (M 3) (M 1)))
def p_X5_isEnough (M : CS) (a1 : Int32) (a2 : Int32) : CS := ((fun (z_1 : F1) => ((fun (z_2 : CS) => ((fun (z_3 : CS) => ((fun (T24_M1 : CS) => (lp_X5_isEnough_58 a2 ((a2.toInt - (0 : Int32).toInt).toNat + 1) (1 : Int32) (0 : Int32) T24_M1)) (q_X5_isEnough_24 21 (0 : Int32) z_3))) (p_X5_builds z_2 a1 ((M 3) 1)))) (va_up M 1 z_1))) (p_X5_copy (M 3) (M 1)))
abbrev rm_X5_isEnough : Room := { frames := 6, cells := 0, slots := 0, locals := 137 }
set_option maxHeartbeats 4000000 in
set_option maxRecDepth 100000 in
theorem c_X5_isEnough (l : Launch) (D : va_G) (cI cC cS : ClassId) (md : Nat → Nat) (M : CS) (a1 : Int32) (a2 : Int32) (hk : 1 ≤ a1.toInt ∧ a1.toInt ≤ 4) (hT : MI (va_up M 1 (M 3))) : CI l D cI cC cS yX5_isEnough wsX5_isEnough rm_X5_isEnough [.ref (md 0), .int a1, .int a2] (mdW cI md M) (mdW cI md (p_X5_isEnough M a1 a2)) (r_X5_isEnough M a1 a2) := by
  intro sz
  refine startC (cc := cX5_isEnough) (maxL := 5) (ret := (some .boolean)) (by decide) rfl (Nat.le_of_ble_eq_true rfl) ?_
  intro p e s m args below meth c hx hb hml hsg hts hown hlocks hin hK A hA hS hP hD ls hl
  have hown : s.vm.findClass RX5 = some m.cls := hown
  have hl : lv_has ls 5 [(0, .ref (md 0)), (1, .int a1), (2, .int a2)] := hl
  have hP : va_P D vwCl [((md 0), mdC md (M 0)), ((md 1), arC cI 96 (M 1)), ((md 2), arC cI 96 (M 2)), ((md 3), arC cI 96 (M 3)), ((md 4), arC cI 384 (M 4)), ((md 5), arC cI 96 (M 5)), ((md 6), arC cI 60 (M 6))] s.heap := hP
  have hD : va_D A [((md 0), mdC md (M 0)), ((md 1), arC cI 96 (M 1)), ((md 2), arC cI 96 (M 2)), ((md 3), arC cI 96 (M 3)), ((md 4), arC cI 384 (M 4)), ((md 5), arC cI 96 (M 5)), ((md 6), arC cI 60 (M 6))] := hD
  have inX5 : ∀ w ∈ wsX50, w ∈ wsX5_isEnough := fun _ h => List.mem_cons_of_mem _ (List.mem_append_right _ h)
  have hr : (r_X5_isEnough M a1 a2) = ((fun (z_1 : F1) => ((fun (z_2 : CS) => ((fun (z_3 : CS) => ((fun (T24_M1 : CS) => (lr_X5_isEnough_58 a2 ((a2.toInt - (0 : Int32).toInt).toNat + 1) (1 : Int32) (0 : Int32) T24_M1)) (q_X5_isEnough_24 21 (0 : Int32) z_3))) (p_X5_builds z_2 a1 ((M 3) 1)))) (va_up M 1 z_1))) (p_X5_copy (M 3) (M 1))) := rfl
  have hp : (p_X5_isEnough M a1 a2) = ((fun (z_1 : F1) => ((fun (z_2 : CS) => ((fun (z_3 : CS) => ((fun (T24_M1 : CS) => (lp_X5_isEnough_58 a2 ((a2.toInt - (0 : Int32).toInt).toNat + 1) (1 : Int32) (0 : Int32) T24_M1)) (q_X5_isEnough_24 21 (0 : Int32) z_3))) (p_X5_builds z_2 a1 ((M 3) 1)))) (va_up M 1 z_1))) (p_X5_copy (M 3) (M 1))) := rfl
  refine lv_aload_n hx hb dX5_isEnough_0 rfl (lv_at hl 0 rfl) ?_
  refine va_get (D := D) (ci := 5) (v := .ref (md 3)) (C := RX5) (T := TX5) (N := 14) hx hb hts inX5 hown hK.1 hP 0 rfl rfl 2 (by decide) (hts (.fieldLink RX5 16 "GrayPointersModel" "tried" "[I") (List.mem_of_getElem? (i := 1) rfl)) (fun _ h9 => h9) rfl dX5_isEnough_1 ?_
  refine lv_aload_n hx hb dX5_isEnough_4 rfl (lv_at hl 0 rfl) ?_
  refine va_get (D := D) (ci := 5) (v := .ref (md 1)) (C := RX5) (T := TX5) (N := 14) hx hb hts inX5 hown hK.1 hP 0 rfl rfl 0 (by decide) (hts (.fieldLink RX5 7 "GrayPointersModel" "all" "[I") (List.mem_of_getElem? (i := 2) rfl)) (fun _ h9 => h9) rfl dX5_isEnough_5 ?_
  refine goV (n := 7) (ws' := [((md 0), mdC md (M 0)), ((md 1), arC cI 96 (p_X5_copy (M 3) (M 1))), ((md 2), arC cI 96 (M 2)), ((md 3), arC cI 96 (M 3)), ((md 4), arC cI 384 (M 4)), ((md 5), arC cI 96 (M 5)), ((md 6), arC cI 60 (M 6))]) (rs := [((md 0), mdC md (M 0)), ((md 2), arC cI 96 (M 2)), ((md 4), arC cI 384 (M 4)), ((md 5), arC cI 96 (M 5)), ((md 6), arC cI 60 (M 6))]) (va_runS (As := [.ref (md 3), .ref (md 1)]) (rest := []) ⟨hx, hb, hml, hown, hts⟩ (c_X5_copy l D cI cC cS (md 3) (md 1) (M 3) (M 1)  _) (va_cwS 2 hts gX5_isEnough_X5_copy rfl rfl rfl (by decide +kernel) ⟨Nat.le_of_ble_eq_true rfl, Nat.le_of_ble_eq_true rfl⟩) (preS hK hP hD [3, 1] (by decide) rfl) rfl rfl hl.1 rfl (lv_room (Nat.le_of_ble_eq_true rfl)) dX5_isEnough_8 ⟨Nat.zero_le _, Nat.zero_le _⟩) hP hD hS hA [3, 1] [0, 2, 4, 5, 6] rfl rfl rfl rfl rfl (by decide +kernel) (fstE (as := [(md 3), (md 1)]) rfl rfl) (fun H locs hP hD hS => ?_)
  obtain ⟨z_1, hz_1⟩ : ∃ z : F1, z = (p_X5_copy (M 3) (M 1)) := ⟨_, rfl⟩
  rw [← hz_1] at hP hD
  have hr : (r_X5_isEnough M a1 a2) = ((fun (z_2 : CS) => ((fun (z_3 : CS) => ((fun (T24_M1 : CS) => (lr_X5_isEnough_58 a2 ((a2.toInt - (0 : Int32).toInt).toNat + 1) (1 : Int32) (0 : Int32) T24_M1)) (q_X5_isEnough_24 21 (0 : Int32) z_3))) (p_X5_builds z_2 a1 ((M 3) 1)))) (va_up M 1 z_1)) := by subst hz_1; exact hr
  have hp : (p_X5_isEnough M a1 a2) = ((fun (z_2 : CS) => ((fun (z_3 : CS) => ((fun (T24_M1 : CS) => (lp_X5_isEnough_58 a2 ((a2.toInt - (0 : Int32).toInt).toNat + 1) (1 : Int32) (0 : Int32) T24_M1)) (q_X5_isEnough_24 21 (0 : Int32) z_3))) (p_X5_builds z_2 a1 ((M 3) 1)))) (va_up M 1 z_1)) := by subst hz_1; exact hp
  refine lv_aload_n hx hb dX5_isEnough_11 rfl (lv_at hl 0 rfl) ?_
  refine lv_iload_n hx hb dX5_isEnough_12 rfl (lv_at hl 1 rfl) ?_
  refine lv_aload_n hx hb dX5_isEnough_13 rfl (lv_at hl 0 rfl) ?_
  refine va_get (D := D) (ci := 5) (v := .ref (md 3)) (C := RX5) (T := TX5) (N := 14) hx hb hts inX5 hown hK.1 hP 0 rfl rfl 2 (by decide) (hts (.fieldLink RX5 16 "GrayPointersModel" "tried" "[I") (List.mem_of_getElem? (i := 1) rfl)) (fun _ h9 => h9) rfl dX5_isEnough_14 ?_
  refine lv_iconst (v := (1 : Int32)) hx hb dX5_isEnough_17 (by decide) ?_
  refine va_iald hx hb hK.1 hP 3 0 rfl rfl (i := (1 : Int32)) (vp_in_iff.mpr (by decide)) dX5_isEnough_18 ?_
  refine W.eq (g2 := F0 m 19 ls [.int ((M 3) 1), .int a1, .ref (md 0)]) rfl ?_
  obtain ⟨z_2, hz_2⟩ : ∃ z : CS, z = (va_up M 1 z_1) := ⟨_, rfl⟩
  have e0 : (z_2 0) = (M 0) := (congrFun hz_2 0).trans (va_up_n (by decide))
  have e1 : (z_2 1) = z_1 := (congrFun hz_2 1).trans va_up_s
  have e2 : (z_2 2) = (M 2) := (congrFun hz_2 2).trans (va_up_n (by decide))
  have e3 : (z_2 3) = (M 3) := (congrFun hz_2 3).trans (va_up_n (by decide))
  have e4 : (z_2 4) = (M 4) := (congrFun hz_2 4).trans (va_up_n (by decide))
  have e5 : (z_2 5) = (M 5) := (congrFun hz_2 5).trans (va_up_n (by decide))
  have e6 : (z_2 6) = (M 6) := (congrFun hz_2 6).trans (va_up_n (by decide))
  have hP : va_P D vwCl [((md 0), mdC md (z_2 0)), ((md 1), arC cI 96 (z_2 1)), ((md 2), arC cI 96 (z_2 2)), ((md 3), arC cI 96 (z_2 3)), ((md 4), arC cI 384 (z_2 4)), ((md 5), arC cI 96 (z_2 5)), ((md 6), arC cI 60 (z_2 6))] H := by rw [e0, e1, e2, e3, e4, e5, e6]; exact hP
  have hD : va_D A [((md 0), mdC md (z_2 0)), ((md 1), arC cI 96 (z_2 1)), ((md 2), arC cI 96 (z_2 2)), ((md 3), arC cI 96 (z_2 3)), ((md 4), arC cI 384 (z_2 4)), ((md 5), arC cI 96 (z_2 5)), ((md 6), arC cI 60 (z_2 6))] := by rw [e0, e1, e2, e3, e4, e5, e6]; exact hD
  clear e0 e1 e2 e3 e4 e5 e6
  have hr : (r_X5_isEnough M a1 a2) = ((fun (z_3 : CS) => ((fun (T24_M1 : CS) => (lr_X5_isEnough_58 a2 ((a2.toInt - (0 : Int32).toInt).toNat + 1) (1 : Int32) (0 : Int32) T24_M1)) (q_X5_isEnough_24 21 (0 : Int32) z_3))) (p_X5_builds z_2 a1 ((M 3) 1))) := by subst hz_2; exact hr
  have hp : (p_X5_isEnough M a1 a2) = ((fun (z_3 : CS) => ((fun (T24_M1 : CS) => (lp_X5_isEnough_58 a2 ((a2.toInt - (0 : Int32).toInt).toNat + 1) (1 : Int32) (0 : Int32) T24_M1)) (q_X5_isEnough_24 21 (0 : Int32) z_3))) (p_X5_builds z_2 a1 ((M 3) 1))) := by subst hz_2; exact hp
  refine goV (n := 7) (ws' := [((md 0), mdC md ((p_X5_builds z_2 a1 ((M 3) 1)) 0)), ((md 1), arC cI 96 ((p_X5_builds z_2 a1 ((M 3) 1)) 1)), ((md 2), arC cI 96 ((p_X5_builds z_2 a1 ((M 3) 1)) 2)), ((md 3), arC cI 96 ((p_X5_builds z_2 a1 ((M 3) 1)) 3)), ((md 4), arC cI 384 ((p_X5_builds z_2 a1 ((M 3) 1)) 4)), ((md 5), arC cI 96 ((p_X5_builds z_2 a1 ((M 3) 1)) 5)), ((md 6), arC cI 60 ((p_X5_builds z_2 a1 ((M 3) 1)) 6))]) (rs := []) (va_runV (As := [.int a1, .int ((M 3) 1)]) (rest := []) ⟨hx, hb, hml, hown, hts⟩ (c_X5_builds l D cI cC cS md z_2 a1 ((M 3) 1)  _) (cwV 2 hts gX5_isEnough_X5_builds rfl rfl rfl (by decide +kernel) ⟨Nat.le_of_ble_eq_true rfl, Nat.le_of_ble_eq_true rfl⟩) (preV hK hP hD [0, 1, 2, 3, 4, 5, 6] (by decide) rfl 0 5 rfl rfl) rfl rfl hl.1 rfl (lv_room (Nat.le_of_ble_eq_true rfl)) dX5_isEnough_19 ⟨Nat.zero_le _, Nat.zero_le _⟩) hP hD hS hA [0, 1, 2, 3, 4, 5, 6] [] rfl rfl rfl rfl rfl (by decide +kernel) (fstE (as := [(md 0), (md 1), (md 2), (md 3), (md 4), (md 5), (md 6)]) rfl rfl) (fun H locs hP hD hS => ?_)
  obtain ⟨z_3, hz_3⟩ : ∃ z : CS, z = (p_X5_builds z_2 a1 ((M 3) 1)) := ⟨_, rfl⟩
  rw [← hz_3] at hP hD
  have hr : (r_X5_isEnough M a1 a2) = ((fun (T24_M1 : CS) => (lr_X5_isEnough_58 a2 ((a2.toInt - (0 : Int32).toInt).toNat + 1) (1 : Int32) (0 : Int32) T24_M1)) (q_X5_isEnough_24 21 (0 : Int32) z_3)) := by subst hz_3; exact hr
  have hp : (p_X5_isEnough M a1 a2) = ((fun (T24_M1 : CS) => (lp_X5_isEnough_58 a2 ((a2.toInt - (0 : Int32).toInt).toNat + 1) (1 : Int32) (0 : Int32) T24_M1)) (q_X5_isEnough_24 21 (0 : Int32) z_3)) := by subst hz_3; exact hp
  refine lv_iconst (v := (0 : Int32)) hx hb dX5_isEnough_22 (by decide) ?_
  refine lv_istore_n (lv' := [(3, .int (0 : Int32)), (0, .ref (md 0)), (1, .int a1), (2, .int a2)]) hx hb dX5_isEnough_23 rfl hl (by decide) rfl (fun ls hl => ?_)
  obtain ⟨T24_M1, hT24_M1⟩ : ∃ T : CS, T = (q_X5_isEnough_24 21 (0 : Int32) z_3) := ⟨_, rfl⟩
  have K_24 : ∀ (H : Heap) (locs : List Loc), MI T24_M1 → va_P D vwCl [((md 0), mdC md (T24_M1 0)), ((md 1), arC cI 96 (T24_M1 1)), ((md 2), arC cI 96 (T24_M1 2)), ((md 3), arC cI 96 (T24_M1 3)), ((md 4), arC cI 384 (T24_M1 4)), ((md 5), arC cI 96 (T24_M1 5)), ((md 6), arC cI 60 (T24_M1 6))] H → va_D A [((md 0), mdC md (T24_M1 0)), ((md 1), arC cI 96 (T24_M1 1)), ((md 2), arC cI 96 (T24_M1 2)), ((md 3), arC cI 96 (T24_M1 3)), ((md 4), arC cI 384 (T24_M1 4)), ((md 5), arC cI 96 (T24_M1 5)), ((md 6), arC cI 60 (T24_M1 6))] → va_S A s.heap H locs → ∀ ls, lv_has ls 5 [(0, .ref (md 0)), (2, .int a2)] → W p l e rm_X5_isEnough s m args below meth c H locs 0 0 (MQ below (QI D (mdW cI md (p_X5_isEnough M a1 a2)) (r_X5_isEnough M a1 a2) A) args s 0 0 A) (F0 m 53 ls []) := by
    intro H locs hMI3 hP hD hS ls hl
    have hr : (r_X5_isEnough M a1 a2) = (lr_X5_isEnough_58 a2 ((a2.toInt - (0 : Int32).toInt).toNat + 1) (1 : Int32) (0 : Int32) T24_M1) := by subst hT24_M1; exact hr
    have hp : (p_X5_isEnough M a1 a2) = (lp_X5_isEnough_58 a2 ((a2.toInt - (0 : Int32).toInt).toNat + 1) (1 : Int32) (0 : Int32) T24_M1) := by subst hT24_M1; exact hp
    refine lv_iconst (v := (1 : Int32)) hx hb dX5_isEnough_53 (by decide) ?_
    refine lv_istore_n (lv' := [(3, .int (1 : Int32)), (0, .ref (md 0)), (2, .int a2)]) hx hb dX5_isEnough_54 rfl hl (by decide) rfl (fun ls hl => ?_)
    refine lv_iconst (v := (0 : Int32)) hx hb dX5_isEnough_55 (by decide) ?_
    refine lv_istore (lv' := [(4, .int (0 : Int32)), (3, .int (1 : Int32)), (0, .ref (md 0)), (2, .int a2)]) hx hb dX5_isEnough_56 hl (by decide) rfl (fun ls hl => ?_)
    have L_58 : ∀ (fu : Nat) (is : Int32) (t : Int32) (M2 : CS) (H : Heap) (locs : List Loc), (a2.toInt - t.toInt < (fu : Int) ∧ 0 < fu) → MI M2 → is = 0 ∨ is = 1 → (r_X5_isEnough M a1 a2) = (lr_X5_isEnough_58 a2 fu is t M2) → (p_X5_isEnough M a1 a2) = (lp_X5_isEnough_58 a2 fu is t M2) → va_P D vwCl [((md 0), mdC md (M2 0)), ((md 1), arC cI 96 (M2 1)), ((md 2), arC cI 96 (M2 2)), ((md 3), arC cI 96 (M2 3)), ((md 4), arC cI 384 (M2 4)), ((md 5), arC cI 96 (M2 5)), ((md 6), arC cI 60 (M2 6))] H → va_D A [((md 0), mdC md (M2 0)), ((md 1), arC cI 96 (M2 1)), ((md 2), arC cI 96 (M2 2)), ((md 3), arC cI 96 (M2 3)), ((md 4), arC cI 384 (M2 4)), ((md 5), arC cI 96 (M2 5)), ((md 6), arC cI 60 (M2 6))] → va_S A s.heap H locs → ∀ ls, lv_has ls 5 [(0, .ref (md 0)), (2, .int a2), (3, .int is), (4, .int t)] → W p l e rm_X5_isEnough s m args below meth c H locs 0 0 (MQ below (QI D (mdW cI md (p_X5_isEnough M a1 a2)) (r_X5_isEnough M a1 a2) A) args s 0 0 A) (F0 m 58 ls []) := by
      intro fu
      induction fu with
      | zero => intro is t M2 H locs hm; exact absurd hm.2 (Nat.lt_irrefl 0)
      | succ fu ih_58 =>
        intro is t M2 H locs hm hMI2 his hr hp hP hD hS ls hl
        have hr : (r_X5_isEnough M a1 a2) = (if a2 ≤ t then is else (if is = (0 : Int32) then is else ((fun (z_5 : CS) => ((fun (x80_s0 : Int32) => (lr_X5_isEnough_58 a2 fu x80_s0 (t + (1 : Int32)) z_5)) (if (r_X5_passes M2) = (0 : Int32) then (1 : Int32) else (0 : Int32)))) (p_X5_passes M2)))) := hr
        have hp : (p_X5_isEnough M a1 a2) = (if a2 ≤ t then M2 else (if is = (0 : Int32) then M2 else ((fun (z_5 : CS) => ((fun (x80_s0 : Int32) => (lp_X5_isEnough_58 a2 fu x80_s0 (t + (1 : Int32)) z_5)) (if (r_X5_passes M2) = (0 : Int32) then (1 : Int32) else (0 : Int32)))) (p_X5_passes M2)))) := hp
        refine lv_iload hx hb dX5_isEnough_58 (lv_at hl 3 rfl) ?_
        refine lv_iload_n hx hb dX5_isEnough_60 rfl (lv_at hl 1 rfl) ?_
        refine lv_icmp_ge (tgt := 87) hx hb dX5_isEnough_61 (by decide) (fun c61 => ?_) (fun c61 => ?_)
        · have hr := hr.trans (if_pos c61)
          have hp := hp.trans (if_pos c61)
          refine lv_iload_n hx hb dX5_isEnough_87 rfl (lv_at hl 2 rfl) ?_
          exact endZ (v := is) hb hx hsg (b01 his) hr.symm (by rw [hp]; exact hP) (by rw [hp]; exact hD) hS dX5_isEnough_88 hlocks
        · have hr := hr.trans (if_neg c61)
          have hp := hp.trans (if_neg c61)
          refine lv_iload_n hx hb dX5_isEnough_64 rfl (lv_at hl 2 rfl) ?_
          refine lv_if_eq (tgt := 87) hx hb dX5_isEnough_65 (by decide) (fun c65 => ?_) (fun c65 => ?_)
          · have hr := hr.trans (if_pos c65)
            have hp := hp.trans (if_pos c65)
            refine lv_iload_n hx hb dX5_isEnough_87 rfl (lv_at hl 2 rfl) ?_
            exact endZ (v := is) hb hx hsg (b01 his) hr.symm (by rw [hp]; exact hP) (by rw [hp]; exact hD) hS dX5_isEnough_88 hlocks
          · have hr := hr.trans (if_neg c65)
            have hp := hp.trans (if_neg c65)
            refine lv_aload_n hx hb dX5_isEnough_68 rfl (lv_at hl 0 rfl) ?_
            refine goI (n := 7) (ws' := [((md 0), mdC md ((p_X5_passes M2) 0)), ((md 1), arC cI 96 ((p_X5_passes M2) 1)), ((md 2), arC cI 96 ((p_X5_passes M2) 2)), ((md 3), arC cI 96 ((p_X5_passes M2) 3)), ((md 4), arC cI 384 ((p_X5_passes M2) 4)), ((md 5), arC cI 96 ((p_X5_passes M2) 5)), ((md 6), arC cI 60 ((p_X5_passes M2) 6))]) (rs := []) (va_runV (As := []) (rest := []) ⟨hx, hb, hml, hown, hts⟩ (c_X5_passes l D cI cC cS md M2 hMI2 _) (cwV 0 hts gX5_isEnough_X5_passes rfl rfl rfl (by decide +kernel) ⟨Nat.le_of_ble_eq_true rfl, Nat.le_of_ble_eq_true rfl⟩) (preV hK hP hD [0, 1, 2, 3, 4, 5, 6] (by decide) rfl 0 5 rfl rfl) rfl rfl hl.1 rfl (lv_room (Nat.le_of_ble_eq_true rfl)) dX5_isEnough_69 ⟨Nat.zero_le _, Nat.zero_le _⟩) hP hD hS hA [0, 1, 2, 3, 4, 5, 6] [] rfl rfl rfl rfl rfl (by decide +kernel) (fstE (as := [(md 0), (md 1), (md 2), (md 3), (md 4), (md 5), (md 6)]) rfl rfl) (fun H locs hP hD hS => ?_)
            obtain ⟨z_5, hz_5⟩ : ∃ z : CS, z = (p_X5_passes M2) := ⟨_, rfl⟩
            rw [← hz_5] at hP hD
            have hr : (r_X5_isEnough M a1 a2) = ((fun (x80_s0 : Int32) => (lr_X5_isEnough_58 a2 fu x80_s0 (t + (1 : Int32)) z_5)) (if (r_X5_passes M2) = (0 : Int32) then (1 : Int32) else (0 : Int32))) := by subst hz_5; exact hr
            have hp : (p_X5_isEnough M a1 a2) = ((fun (x80_s0 : Int32) => (lp_X5_isEnough_58 a2 fu x80_s0 (t + (1 : Int32)) z_5)) (if (r_X5_passes M2) = (0 : Int32) then (1 : Int32) else (0 : Int32))) := by subst hz_5; exact hp
            have J_80 : ∀ (x80_s0 : Int32) (H : Heap) (locs : List Loc), x80_s0 = (if (r_X5_passes M2) = (0 : Int32) then (1 : Int32) else (0 : Int32)) → va_P D vwCl [((md 0), mdC md (z_5 0)), ((md 1), arC cI 96 (z_5 1)), ((md 2), arC cI 96 (z_5 2)), ((md 3), arC cI 96 (z_5 3)), ((md 4), arC cI 384 (z_5 4)), ((md 5), arC cI 96 (z_5 5)), ((md 6), arC cI 60 (z_5 6))] H → va_D A [((md 0), mdC md (z_5 0)), ((md 1), arC cI 96 (z_5 1)), ((md 2), arC cI 96 (z_5 2)), ((md 3), arC cI 96 (z_5 3)), ((md 4), arC cI 384 (z_5 4)), ((md 5), arC cI 96 (z_5 5)), ((md 6), arC cI 60 (z_5 6))] → va_S A s.heap H locs → ∀ ls, lv_has ls 5 [(0, .ref (md 0)), (2, .int a2), (4, .int t)] → W p l e rm_X5_isEnough s m args below meth c H locs 0 0 (MQ below (QI D (mdW cI md (p_X5_isEnough M a1 a2)) (r_X5_isEnough M a1 a2) A) args s 0 0 A) (F0 m 80 ls [.int x80_s0]) := by
              intro x80_s0 H locs ex80_s0 hP hD hS ls hl
              have hr : (r_X5_isEnough M a1 a2) = (lr_X5_isEnough_58 a2 fu x80_s0 (t + (1 : Int32)) z_5) := by subst ex80_s0; exact hr
              have hp : (p_X5_isEnough M a1 a2) = (lp_X5_isEnough_58 a2 fu x80_s0 (t + (1 : Int32)) z_5) := by subst ex80_s0; exact hp
              refine lv_istore_n (lv' := [(3, .int x80_s0), (0, .ref (md 0)), (2, .int a2), (4, .int t)]) hx hb dX5_isEnough_80 rfl hl (by decide) rfl (fun ls hl => ?_)
              refine lv_iinc (v := (t + (1 : Int32))) (lv' := [(4, .int (t + (1 : Int32))), (3, .int x80_s0), (0, .ref (md 0)), (2, .int a2)]) hx hb dX5_isEnough_81 hl (k := 3) rfl rfl (by decide) rfl (fun ls hl => ?_)
              refine lv_goto (tgt := 58) hx hb dX5_isEnough_84 (by decide) ?_
              exact ih_58 x80_s0 (t + (1 : Int32)) z_5 _ _ (by subst hz_5; exact (cnt_step c61 hm)) (by subst hz_5; exact (mi_passes hMI2)) (by subst hz_5; exact (by subst_vars; split <;> first | exact Or.inl rfl | exact Or.inr rfl)) hr hp hP hD hS ls (lv_sub hl [2, 3, 1, 0] rfl)
            refine lv_if_ne (tgt := 79) hx hb dX5_isEnough_72 (by decide) (fun c72 => ?_) (fun c72 => ?_)
            · refine lv_iconst (v := (0 : Int32)) hx hb dX5_isEnough_79 (by decide) ?_
              exact J_80 (0 : Int32) _ _ (if_neg c72).symm hP hD hS ls (lv_sub hl [0, 1, 3] rfl)
            · refine lv_iconst (v := (1 : Int32)) hx hb dX5_isEnough_75 (by decide) ?_
              refine lv_goto (tgt := 80) hx hb dX5_isEnough_76 (by decide) ?_
              exact J_80 (1 : Int32) _ _ (if_pos c72).symm hP hD hS ls (lv_sub hl [0, 1, 3] rfl)
    exact L_58 _ (1 : Int32) (0 : Int32) T24_M1 _ _ (cnt_init _ _) hMI3 (Or.inr rfl) hr hp hP hD hS ls (lv_sub hl [2, 3, 1, 0] rfl)
  have L_24 : ∀ (fu : Nat) (i : Int32) (M1 : CS) (H : Heap) (locs : List Loc), ((M1 3 5).toInt - i.toInt < (fu : Int) ∧ 0 < fu) → 0 ≤ i.toInt → MI M1 → M1 1 5 = i → M1 3 = M 3 → T24_M1 = (q_X5_isEnough_24 fu i M1) → va_P D vwCl [((md 0), mdC md (M1 0)), ((md 1), arC cI 96 (M1 1)), ((md 2), arC cI 96 (M1 2)), ((md 3), arC cI 96 (M1 3)), ((md 4), arC cI 384 (M1 4)), ((md 5), arC cI 96 (M1 5)), ((md 6), arC cI 60 (M1 6))] H → va_D A [((md 0), mdC md (M1 0)), ((md 1), arC cI 96 (M1 1)), ((md 2), arC cI 96 (M1 2)), ((md 3), arC cI 96 (M1 3)), ((md 4), arC cI 384 (M1 4)), ((md 5), arC cI 96 (M1 5)), ((md 6), arC cI 60 (M1 6))] → va_S A s.heap H locs → ∀ ls, lv_has ls 5 [(0, .ref (md 0)), (2, .int a2), (3, .int i)] → W p l e rm_X5_isEnough s m args below meth c H locs 0 0 (MQ below (QI D (mdW cI md (p_X5_isEnough M a1 a2)) (r_X5_isEnough M a1 a2) A) args s 0 0 A) (F0 m 24 ls []) := by
    intro fu
    induction fu with
    | zero => intro i M1 H locs hm; exact absurd hm.2 (Nat.lt_irrefl 0)
    | succ fu ih_24 =>
      intro i M1 H locs hm hi hMI1 h5 h3 hq0 hP hD hS ls hl
      have hq0 : T24_M1 = (if ((M1 3) 5) ≤ i then M1 else ((fun (z_4 : CS) => (q_X5_isEnough_24 fu (i + (1 : Int32)) z_4)) (p_X5_waits M1 ((M1 3) ((27 : Int32) + i).toNatClampNeg)))) := hq0
      refine lv_iload_n hx hb dX5_isEnough_24 rfl (lv_at hl 2 rfl) ?_
      refine lv_aload_n hx hb dX5_isEnough_25 rfl (lv_at hl 0 rfl) ?_
      refine va_get (D := D) (ci := 5) (v := .ref (md 3)) (C := RX5) (T := TX5) (N := 14) hx hb hts inX5 hown hK.1 hP 0 rfl rfl 2 (by decide) (hts (.fieldLink RX5 16 "GrayPointersModel" "tried" "[I") (List.mem_of_getElem? (i := 1) rfl)) (fun _ h9 => h9) rfl dX5_isEnough_26 ?_
      refine lv_iconst (v := (5 : Int32)) hx hb dX5_isEnough_29 (by decide) ?_
      refine va_iald hx hb hK.1 hP 3 0 rfl rfl (i := (5 : Int32)) (vp_in_iff.mpr (by decide)) dX5_isEnough_30 ?_
      refine W.eq (g2 := F0 m 31 ls [.int ((M1 3) 5), .int i]) rfl ?_
      refine lv_icmp_ge (tgt := 53) hx hb dX5_isEnough_31 (by decide) (fun c31 => ?_) (fun c31 => ?_)
      · have hq0 := hq0.trans (if_pos c31)
        exact K_24 _ _ (by rw [hq0]; exact hMI1) (by rw [hq0]; exact hP) (by rw [hq0]; exact hD) hS ls (by exact lv_sub hl [0, 1] rfl)
      · have hq0 := hq0.trans (if_neg c31)
        refine lv_aload_n hx hb dX5_isEnough_34 rfl (lv_at hl 0 rfl) ?_
        refine lv_aload_n hx hb dX5_isEnough_35 rfl (lv_at hl 0 rfl) ?_
        refine va_get (D := D) (ci := 5) (v := .ref (md 3)) (C := RX5) (T := TX5) (N := 14) hx hb hts inX5 hown hK.1 hP 0 rfl rfl 2 (by decide) (hts (.fieldLink RX5 16 "GrayPointersModel" "tried" "[I") (List.mem_of_getElem? (i := 1) rfl)) (fun _ h9 => h9) rfl dX5_isEnough_36 ?_
        refine lv_bipush (v := (27 : Int32)) hx hb dX5_isEnough_39 (by decide) ?_
        refine lv_iload_n hx hb dX5_isEnough_41 rfl (lv_at hl 2 rfl) ?_
        refine lv_iadd hx hb dX5_isEnough_42 ?_
        refine va_iald hx hb hK.1 hP 3 0 rfl rfl (i := ((27 : Int32) + i)) (en_in h3 hT hi c31) dX5_isEnough_43 ?_
        refine goV (n := 7) (ws' := [((md 0), mdC md ((p_X5_waits M1 ((M1 3) ((27 : Int32) + i).toNatClampNeg)) 0)), ((md 1), arC cI 96 ((p_X5_waits M1 ((M1 3) ((27 : Int32) + i).toNatClampNeg)) 1)), ((md 2), arC cI 96 ((p_X5_waits M1 ((M1 3) ((27 : Int32) + i).toNatClampNeg)) 2)), ((md 3), arC cI 96 ((p_X5_waits M1 ((M1 3) ((27 : Int32) + i).toNatClampNeg)) 3)), ((md 4), arC cI 384 ((p_X5_waits M1 ((M1 3) ((27 : Int32) + i).toNatClampNeg)) 4)), ((md 5), arC cI 96 ((p_X5_waits M1 ((M1 3) ((27 : Int32) + i).toNatClampNeg)) 5)), ((md 6), arC cI 60 ((p_X5_waits M1 ((M1 3) ((27 : Int32) + i).toNatClampNeg)) 6))]) (rs := []) (va_runV (As := [.int ((M1 3) ((27 : Int32) + i).toNatClampNeg)]) (rest := []) ⟨hx, hb, hml, hown, hts⟩ (c_X5_waits l D cI cC cS md M1 ((M1 3) ((27 : Int32) + i).toNatClampNeg) (en_w h5 h3 hT hi c31) _) (cwV 1 hts gX5_isEnough_X5_waits rfl rfl rfl (by decide +kernel) ⟨Nat.le_of_ble_eq_true rfl, Nat.le_of_ble_eq_true rfl⟩) (preV hK hP hD [0, 1, 2, 3, 4, 5, 6] (by decide) rfl 0 5 rfl rfl) rfl rfl hl.1 rfl (lv_room (Nat.le_of_ble_eq_true rfl)) dX5_isEnough_44 ⟨Nat.zero_le _, Nat.zero_le _⟩) hP hD hS hA [0, 1, 2, 3, 4, 5, 6] [] rfl rfl rfl rfl rfl (by decide +kernel) (fstE (as := [(md 0), (md 1), (md 2), (md 3), (md 4), (md 5), (md 6)]) rfl rfl) (fun H locs hP hD hS => ?_)
        obtain ⟨z_4, hz_4⟩ : ∃ z : CS, z = (p_X5_waits M1 ((M1 3) ((27 : Int32) + i).toNatClampNeg)) := ⟨_, rfl⟩
        rw [← hz_4] at hP hD
        have hq0 : T24_M1 = (q_X5_isEnough_24 fu (i + (1 : Int32)) z_4) := by subst hz_4; exact hq0
        refine lv_iinc (v := (i + (1 : Int32))) (lv' := [(3, .int (i + (1 : Int32))), (0, .ref (md 0)), (2, .int a2)]) hx hb dX5_isEnough_47 hl (k := 2) rfl rfl (by decide) rfl (fun ls hl => ?_)
        refine lv_goto (tgt := 24) hx hb dX5_isEnough_50 (by decide) ?_
        exact ih_24 (i + (1 : Int32)) z_4 _ _ (by subst hz_4; exact (by rw [(mi_waits hMI1 (en_w h5 h3 hT hi c31)).2.2 3 (by decide)]; exact cnt_step c31 hm)) (by subst hz_4; exact (inv_step c31 hi)) (by subst hz_4; exact (mi_waits hMI1 (en_w h5 h3 hT hi c31)).1) (by subst hz_4; exact (by rw [(mi_waits hMI1 (en_w h5 h3 hT hi c31)).2.1, h5])) (by subst hz_4; exact (by rw [(mi_waits hMI1 (en_w h5 h3 hT hi c31)).2.2 3 (by decide), h3])) hq0 hP hD hS ls (lv_sub hl [1, 2, 0] rfl)
  exact L_24 _ (0 : Int32) z_3 _ _ (en_m0 (M := M) (by subst_vars; exact (en_b hk hT).2.2) hT) (by decide) (by subst_vars; exact (en_b hk hT).1) (by subst_vars; exact (en_b hk hT).2.1) (by subst_vars; exact (en_b hk hT).2.2) hT24_M1 hP hD hS ls (lv_sub hl [1, 3, 0] rfl)
