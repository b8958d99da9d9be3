theorem mi_waits {M : CS} {x : Int32} (h : MI M) (hw : 0 ≤ (M 1 5).toInt ∧ (M 1 5).toInt < 20) : MI (p_X5_waits M x) ∧ p_X5_waits M x 1 5 = M 1 5 + 1 ∧ (∀ j, j ≠ 1 → p_X5_waits M x j = M j) := by
  obtain ⟨w, hw1, hw2⟩ : ∃ w : Nat, w < 20 ∧ M 1 5 = nI w := by
    refine ⟨(M 1 5).toInt.toNat, by omega, Int32.toInt_inj.mp ?_⟩
    rw [nI_toInt (by omega)]; omega
  have e := waits_at hw2 hw1 x
  rw [e]
  have F : ∀ j, j ≠ 5 → j < 27 → upd (upd (M 1) (27 + w) x) 5 (nI (w + 1)) j = M 1 j := fun j h1 h2 => by rw [up_n h1, up_n (by omega)]
  have e1 : va_up M 1 (upd (upd (M 1) (27 + w) x) 5 (nI (w + 1))) 1 = upd (upd (M 1) (27 + w) x) 5 (nI (w + 1)) := va_up_s
  refine ⟨?_, ?_, fun j hj => va_up_n hj⟩
  · unfold MI
    rw [e1, F 0 (by decide) (by decide), F 11 (by decide) (by decide), F 19 (by decide) (by decide), up_s, nI_toInt (by omega)]
    exact ⟨h.1, h.2.1, by omega, by omega⟩
  · rw [e1, up_s, hw2, nI_1]
/-- what the rebuilt ring has at the places that its steps want -/
theorem mi_builds {M : CS} {x g : Int32} (hx : 1 ≤ x.toInt ∧ x.toInt ≤ 4) (h11 : ¬ (M 1 11) = 0 ∧ ¬ (M 1 19) = 0) : MI (p_X5_builds M x g) ∧ p_X5_builds M x g 1 5 = 0 ∧ (∀ j, j ≠ 1 → p_X5_builds M x g j = M j) := by
  rw [builds_at]
  refine ⟨?_, ?_, fun j hj => va_up_n hj⟩
  · unfold MI
    rw [va_up_s, show bld (M 1) x g 0 = x from rfl, bld_n (j := 11) (by omega), bld_n (j := 19) (by omega), bld_z (j := 5) (by omega)]
    exact ⟨hx, h11, by decide, by decide⟩
  · rw [va_up_s]; exact bld_z (by omega)
theorem en_b {M : CS} {x g : Int32} (hk : 1 ≤ x.toInt ∧ x.toInt ≤ 4) (hT : MI (va_up M 1 (M 3))) : MI (p_X5_builds (va_up M 1 (p_X5_copy (M 3) (M 1))) x g) ∧ p_X5_builds (va_up M 1 (p_X5_copy (M 3) (M 1))) x g 1 5 = 0 ∧ p_X5_builds (va_up M 1 (p_X5_copy (M 3) (M 1))) x g 3 = M 3 := by
  have e1 : ∀ j, j < 96 → va_up M 1 (p_X5_copy (M 3) (M 1)) 1 j = M 3 j := fun j hj => by rw [va_up_s]; exact cp5_lt _ _ hj
  have h := mi_builds (M := va_up M 1 (p_X5_copy (M 3) (M 1))) (x := x) (g := g) hk ⟨by rw [e1 11 (by decide)]; exact hT.2.1.1, by rw [e1 19 (by decide)]; exact hT.2.1.2⟩
  exact ⟨h.1, h.2.1, (h.2.2 3 (by decide)).trans (va_up_n (by decide))⟩
theorem en_m0 {M M1 : CS} (h3 : M1 3 = M 3) (hT : MI (va_up M 1 (M 3))) : (M1 3 5).toInt - (0 : Int32).toInt < ((21 : Nat) : Int) ∧ 0 < 21 := by
  have h : (M 3 5).toInt ≤ 20 := hT.2.2.2
  rw [h3, zero_toI]
  exact ⟨by omega, by decide⟩
theorem en_w {M M1 : CS} {i : Int32} (h5 : M1 1 5 = i) (h3 : M1 3 = M 3) (hT : MI (va_up M 1 (M 3))) (hi : 0 ≤ i.toInt) (c31 : ¬ (M1 3 5) ≤ i) : 0 ≤ (M1 1 5).toInt ∧ (M1 1 5).toInt < 20 := by
  have h : (M 3 5).toInt ≤ 20 := hT.2.2.2
  have := lt_of_nle c31
  rw [h3] at this
  rw [h5]; omega
theorem en_in {M M1 : CS} {i : Int32} (h3 : M1 3 = M 3) (hT : MI (va_up M 1 (M 3))) (hi : 0 ≤ i.toInt) (c31 : ¬ (M1 3 5) ≤ i) : vp_in ((27 : Int32) + i) 96 := by
  have h : (M 3 5).toInt ≤ 20 := hT.2.2.2
  have := lt_of_nle c31
  rw [h3] at this
  exact vp_add (a := 27) (by decide) hi (by omega) (by decide)
def q_X5_isEnough_24  : Nat → Int32 → CS → CS
  | 0, _, M1 => M1
  | fu + 1, i, M1 => (if ((M1 3) 5) ≤ i then M1 else ((fun (z_4 : CS) => (q_X5_isEnough_24 fu (i + (1 : Int32)) z_4)) (p_X5_waits M1 ((M1 3) ((27 : Int32) + i).toNatClampNeg))))
def lr_X5_isEnough_58 (a2 : Int32) : Nat → Int32 → Int32 → CS → Int32
  | 0, _, _, _ => 0
  | fu + 1, is, t, M2 => (if a2 ≤ t then is else (if is = (0 : Int32) then is else ((fun (z_5 : CS) => ((fun (x80_s0 : Int32) => (lr_X5_isEnough_58 a2 fu x80_s0 (t + (1 : Int32)) z_5)) (if (r_X5_passes M2) = (0 : Int32) then (1 : Int32) else (0 : Int32)))) (p_X5_passes M2))))
def lp_X5_isEnough_58 (a2 : Int32) : Nat → Int32 → Int32 → CS → CS
  | 0, _, _, M2 => M2
  | fu + 1, is, t, M2 => (if a2 ≤ t then M2 else (if is = (0 : Int32) then M2 else ((fun (z_5 : CS) => ((fun (x80_s0 : Int32) => (lp_X5_isEnough_58 a2 fu x80_s0 (t + (1 : Int32)) z_5)) (if (r_X5_passes M2) = (0 : Int32) then (1 : Int32) else (0 : Int32)))) (p_X5_passes M2))))
def r_X5_isEnough (M : CS) (a1 : Int32) (a2 : Int32) : Int32 := ((fun (z_1 : F1) => ((fun (z_2 : CS) => ((fun (z_3 : CS) => ((fun (T24_M1 : CS) => (lr_X5_isEnough_58 a2 ((a2.toInt - (0 : Int32).toInt).toNat + 1) (1 : Int32) (0 : Int32) T24_M1)) (q_X5_isEnough_24 21 (0 : Int32) z_3))) (p_X5_builds z_2 a1 ((M 3) 1)))) (va_up M 1 z_1))) (p_X5_copy (M 3) (M 1)))
def p_X5_isEnough (M : CS) (a1 : Int32) (a2 : Int32) : CS := ((fun (z_1 : F1) => ((fun (z_2 : CS) => ((fun (z_3 : CS) => ((fun (T24_M1 : CS) => (lp_X5_isEnough_58 a2 ((a2.toInt - (0 : Int32).toInt).toNat + 1) (1 : Int32) (0 : Int32) T24_M1)) (q_X5_isEnough_24 21 (0 : Int32) z_3))) (p_X5_builds z_2 a1 ((M 3) 1)))) (va_up M 1 z_1))) (p_X5_copy (M 3) (M 1)))
abbrev rm_X5_isEnough : Room := { frames := 6, cells := 0, slots := 0, locals := 137 }
set_option maxHeartbeats 4000000 in
set_option maxRecDepth 100000 in
theorem c_X5_isEnough (l : Launch) (D : va_G) (cI cC cS : ClassId) (md : Nat → Nat) (M : CS) (a1 : Int32) (a2 : Int32) (hk : 1 ≤ a1.toInt ∧ a1.toInt ≤ 4) (hT : MI (va_up M 1 (M 3))) : CI l D cI cC cS yX5_isEnough wsX5_isEnough rm_X5_isEnough [.ref (md 0), .int a1, .int a2] (mdW cI md M) (mdW cI md (p_X5_isEnough M a1 a2)) (r_X5_isEnough M a1 a2) := by
  intro sz
  refine startC (cc := cX5_isEnough) (maxL := 5) (ret := (some .boolean)) (by decide) rfl (Nat.le_of_ble_eq_true rfl) ?_
  intro p e s m args below meth c hx hb hml hsg hts hown hlocks hin hK A hA hS hP hD ls hl
  have hown : s.vm.findClass RX5 = some m.cls := hown
  have hl : lv_has ls 5 [(0, .ref (md 0)), (1, .int a1), (2, .int a2)] := hl
  have hP : va_P D vwCl [((md 0), mdC md (M 0)), ((md 1), arC cI 96 (M 1)), ((md 2), arC cI 96 (M 2)), ((md 3), arC cI 96 (M 3)), ((md 4), arC cI 384 (M 4)), ((md 5), arC cI 96 (M 5)), ((md 6), arC cI 60 (M 6))] s.heap := hP
  have hD : va_D A [((md 0), mdC md (M 0)), ((md 1), arC cI 96 (M 1)), ((md 2), arC cI 96 (M 2)), ((md 3), arC cI 96 (M 3)), ((md 4), arC cI 384 (M 4)), ((md 5), arC cI 96 (M 5)), ((md 6), arC cI 60 (M 6))] := hD
  have inX5 : ∀ w ∈ wsX50, w ∈ wsX5_isEnough := fun _ h => List.mem_cons_of_mem _ (List.mem_append_right _ h)
  have hr : (r_X5_isEnough M a1 a2) = ((fun (z_1 : F1) => ((fun (z_2 : CS) => ((fun (z_3 : CS) => ((fun (T24_M1 : CS) => (lr_X5_isEnough_58 a2 ((a2.toInt - (0 : Int32).toInt).toNat + 1) (1 : Int32) (0 : Int32) T24_M1)) (q_X5_isEnough_24 21 (0 : Int32) z_3))) (p_X5_builds z_2 a1 ((M 3) 1)))) (va_up M 1 z_1))) (p_X5_copy (M 3) (M 1))) := rfl
  have hp : (p_X5_isEnough M a1 a2) = ((fun (z_1 : F1) => ((fun (z_2 : CS) => ((fun (z_3 : CS) => ((fun (T24_M1 : CS) => (lp_X5_isEnough_58 a2 ((a2.toInt - (0 : Int32).toInt).toNat + 1) (1 : Int32) (0 : Int32) T24_M1)) (q_X5_isEnough_24 21 (0 : Int32) z_3))) (p_X5_builds z_2 a1 ((M 3) 1)))) (va_up M 1 z_1))) (p_X5_copy (M 3) (M 1))) := rfl
  refine lv_aload_n hx hb dX5_isEnough_0 rfl (lv_at hl 0 rfl) ?_
  refine va_get (D := D) (ci := 5) (v := .ref (md 3)) (C := RX5) (T := TX5) (N := 14) hx hb hts inX5 hown hK.1 hP 0 rfl rfl 2 (by decide) (hts (.fieldLink RX5 16 "GrayPointersModel" "tried" "[I") (List.mem_of_getElem? (i := 1) rfl)) (fun _ h9 => h9) rfl dX5_isEnough_1 ?_
  refine lv_aload_n hx hb dX5_isEnough_4 rfl (lv_at hl 0 rfl) ?_
  refine va_get (D := D) (ci := 5) (v := .ref (md 1)) (C := RX5) (T := TX5) (N := 14) hx hb hts inX5 hown hK.1 hP 0 rfl rfl 0 (by decide) (hts (.fieldLink RX5 7 "GrayPointersModel" "all" "[I") (List.mem_of_getElem? (i := 2) rfl)) (fun _ h9 => h9) rfl dX5_isEnough_5 ?_
  refine goV (n := 7) (ws' := [((md 0), mdC md (M 0)), ((md 1), arC cI 96 (p_X5_copy (M 3) (M 1))), ((md 2), arC cI 96 (M 2)), ((md 3), arC cI 96 (M 3)), ((md 4), arC cI 384 (M 4)), ((md 5), arC cI 96 (M 5)), ((md 6), arC cI 60 (M 6))]) (rs := [((md 0), mdC md (M 0)), ((md 2), arC cI 96 (M 2)), ((md 4), arC cI 384 (M 4)), ((md 5), arC cI 96 (M 5)), ((md 6), arC cI 60 (M 6))]) (va_runS (As := [.ref (md 3), .ref (md 1)]) (rest := []) ⟨hx, hb, hml, hown, hts⟩ (c_X5_copy l D cI cC cS (md 3) (md 1) (M 3) (M 1)  _) (va_cwS 2 hts gX5_isEnough_X5_copy rfl rfl rfl (by decide +kernel) ⟨Nat.le_of_ble_eq_true rfl, Nat.le_of_ble_eq_true rfl⟩) (preS hK hP hD [3, 1] (by decide) rfl) rfl rfl hl.1 rfl (lv_room (Nat.le_of_ble_eq_true rfl)) dX5_isEnough_8 ⟨Nat.zero_le _, Nat.zero_le _⟩) hP hD hS hA [3, 1] [0, 2, 4, 5, 6] rfl rfl rfl rfl rfl (by decide +kernel) (fstE (as := [(md 3), (md 1)]) rfl rfl) (fun H locs hP hD hS => ?_)
  obtain ⟨z_1, hz_1⟩ : ∃ z : F1, z = (p_X5_copy (M 3) (M 1)) := ⟨_, rfl⟩
  rw [← hz_1] at hP hD
  have hr : (r_X5_isEnough M a1 a2) = ((fun (z_2 : CS) => ((fun (z_3 : CS) => ((fun (T24_M1 : CS) => (lr_X5_isEnough_58 a2 ((a2.toInt - (0 : Int32).toInt).toNat + 1) (1 : Int32) (0 : Int32) T24_M1)) (q_X5_isEnough_24 21 (0 : Int32) z_3))) (p_X5_builds z_2 a1 ((M 3) 1)))) (va_up M 1 z_1)) := by subst hz_1; exact hr
  have hp : (p_X5_isEnough M a1 a2) = ((fun (z_2 : CS) => ((fun (z_3 : CS) => ((fun (T24_M1 : CS) => (lp_X5_isEnough_58 a2 ((a2.toInt - (0 : Int32).toInt).toNat + 1) (1 : Int32) (0 : Int32) T24_M1)) (q_X5_isEnough_24 21 (0 : Int32) z_3))) (p_X5_builds z_2 a1 ((M 3) 1)))) (va_up M 1 z_1)) := by subst hz_1; exact hp
  refine lv_aload_n hx hb dX5_isEnough_11 rfl (lv_at hl 0 rfl) ?_
  refine lv_iload_n hx hb dX5_isEnough_12 rfl (lv_at hl 1 rfl) ?_
  refine lv_aload_n hx hb dX5_isEnough_13 rfl (lv_at hl 0 rfl) ?_
  refine va_get (D := D) (ci := 5) (v := .ref (md 3)) (C := RX5) (T := TX5) (N := 14) hx hb hts inX5 hown hK.1 hP 0 rfl rfl 2 (by decide) (hts (.fieldLink RX5 16 "GrayPointersModel" "tried" "[I") (List.mem_of_getElem? (i := 1) rfl)) (fun _ h9 => h9) rfl dX5_isEnough_14 ?_
  refine lv_iconst (v := (1 : Int32)) hx hb dX5_isEnough_17 (by decide) ?_
  refine va_iald hx hb hK.1 hP 3 0 rfl rfl (i := (1 : Int32)) (vp_in_iff.mpr (by decide)) dX5_isEnough_18 ?_
  refine W.eq (g2 := F0 m 19 ls [.int ((M 3) 1), .int a1, .ref (md 0)]) rfl ?_
  obtain ⟨z_2, hz_2⟩ : ∃ z : CS, z = (va_up M 1 z_1) := ⟨_, rfl⟩
  have e0 : (z_2 0) = (M 0) := (congrFun hz_2 0).trans (va_up_n (by decide))
  have e1 : (z_2 1) = z_1 := (congrFun hz_2 1).trans va_up_s
  have e2 : (z_2 2) = (M 2) := (congrFun hz_2 2).trans (va_up_n (by decide))
  have e3 : (z_2 3) = (M 3) := (congrFun hz_2 3).trans (va_up_n (by decide))
  have e4 : (z_2 4) = (M 4) := (congrFun hz_2 4).trans (va_up_n (by decide))
  have e5 : (z_2 5) = (M 5) := (congrFun hz_2 5).trans (va_up_n (by decide))
  have e6 : (z_2 6) = (M 6) := (congrFun hz_2 6).trans (va_up_n (by decide))
  have hP : va_P D vwCl [((md 0), mdC md (z_2 0)), ((md 1), arC cI 96 (z_2 1)), ((md 2), arC cI 96 (z_2 2)), ((md 3), arC cI 96 (z_2 3)), ((md 4), arC cI 384 (z_2 4)), ((md 5), arC cI 96 (z_2 5)), ((md 6), arC cI 60 (z_2 6))] H := by rw [e0, e1, e2, e3, e4, e5, e6]; exact hP
  have hD : va_D A [((md 0), mdC md (z_2 0)), ((md 1), arC cI 96 (z_2 1)), ((md 2), arC cI 96 (z_2 2)), ((md 3), arC cI 96 (z_2 3)), ((md 4), arC cI 384 (z_2 4)), ((md 5), arC cI 96 (z_2 5)), ((md 6), arC cI 60 (z_2 6))] := by rw [e0, e1, e2, e3, e4, e5, e6]; exact hD
  clear e0 e1 e2 e3 e4 e5 e6
  have hr : (r_X5_isEnough M a1 a2) = ((fun (z_3 : CS) => ((fun (T24_M1 : CS) => (lr_X5_isEnough_58 a2 ((a2.toInt - (0 : Int32).toInt).toNat + 1) (1 : Int32) (0 : Int32) T24_M1)) (q_X5_isEnough_24 21 (0 : Int32) z_3))) (p_X5_builds z_2 a1 ((M 3) 1))) := by subst hz_2; exact hr
  have hp : (p_X5_isEnough M a1 a2) = ((fun (z_3 : CS) => ((fun (T24_M1 : CS) => (lp_X5_isEnough_58 a2 ((a2.toInt - (0 : Int32).toInt).toNat + 1) (1 : Int32) (0 : Int32) T24_M1)) (q_X5_isEnough_24 21 (0 : Int32) z_3))) (p_X5_builds z_2 a1 ((M 3) 1))) := by subst hz_2; exact hp
  refine goV (n := 7) (ws' := [((md 0), mdC md ((p_X5_builds z_2 a1 ((M 3) 1)) 0)), ((md 1), arC cI 96 ((p_X5_builds z_2 a1 ((M 3) 1)) 1)), ((md 2), arC cI 96 ((p_X5_builds z_2 a1 ((M 3) 1)) 2)), ((md 3), arC cI 96 ((p_X5_builds z_2 a1 ((M 3) 1)) 3)), ((md 4), arC cI 384 ((p_X5_builds z_2 a1 ((M 3) 1)) 4)), ((md 5), arC cI 96 ((p_X5_builds z_2 a1 ((M 3) 1)) 5)), ((md 6), arC cI 60 ((p_X5_builds z_2 a1 ((M 3) 1)) 6))]) (rs := []) (va_runV (As := [.int a1, .int ((M 3) 1)]) (rest := []) ⟨hx, hb, hml, hown, hts⟩ (c_X5_builds l D cI cC cS md z_2 a1 ((M 3) 1)  _) (cwV 2 hts gX5_isEnough_X5_builds rfl rfl rfl (by decide +kernel) ⟨Nat.le_of_ble_eq_true rfl, Nat.le_of_ble_eq_true rfl⟩) (preV hK hP hD [0, 1, 2, 3, 4, 5, 6] (by decide) rfl 0 5 rfl rfl) rfl rfl hl.1 rfl (lv_room (Nat.le_of_ble_eq_true rfl)) dX5_isEnough_19 ⟨Nat.zero_le _, Nat.zero_le _⟩) hP hD hS hA [0, 1, 2, 3, 4, 5, 6] [] rfl rfl rfl rfl rfl (by decide +kernel) (fstE (as := [(md 0), (md 1), (md 2), (md 3), (md 4), (md 5), (md 6)]) rfl rfl) (fun H locs hP hD hS => ?_)
  obtain ⟨z_3, hz_3⟩ : ∃ z : CS, z = (p_X5_builds z_2 a1 ((M 3) 1)) := ⟨_, rfl⟩
  rw [← hz_3] at hP hD
  have hr : (r_X5_isEnough M a1 a2) = ((fun (T24_M1 : CS) => (lr_X5_isEnough_58 a2 ((a2.toInt - (0 : Int32).toInt).toNat + 1) (1 : Int32) (0 : Int32) T24_M1)) (q_X5_isEnough_24 21 (0 : Int32) z_3)) := by subst hz_3; exact hr
  have hp : (p_X5_isEnough M a1 a2) = ((fun (T24_M1 : CS) => (lp_X5_isEnough_58 a2 ((a2.toInt - (0 : Int32).toInt).toNat + 1) (1 : Int32) (0 : Int32) T24_M1)) (q_X5_isEnough_24 21 (0 : Int32) z_3)) := by subst hz_3; exact hp
  refine lv_iconst (v := (0 : Int32)) hx hb dX5_isEnough_22 (by decide) ?_
  refine lv_istore_n (lv' := [(3, .int (0 : Int32)), (0, .ref (md 0)), (1, .int a1), (2, .int a2)]) hx hb dX5_isEnough_23 rfl hl (by decide) rfl (fun ls hl => ?_)
  obtain ⟨T24_M1, hT24_M1⟩ : ∃ T : CS, T = (q_X5_isEnough_24 21 (0 : Int32) z_3) := ⟨_, rfl⟩
  have K_24 : ∀ (H : Heap) (locs : List Loc), MI T24_M1 → va_P D vwCl [((md 0), mdC md (T24_M1 0)), ((md 1), arC cI 96 (T24_M1 1)), ((md 2), arC cI 96 (T24_M1 2)), ((md 3), arC cI 96 (T24_M1 3)), ((md 4), arC cI 384 (T24_M1 4)), ((md 5), arC cI 96 (T24_M1 5)), ((md 6), arC cI 60 (T24_M1 6))] H → va_D A [((md 0), mdC md (T24_M1 0)), ((md 1), arC cI 96 (T24_M1 1)), ((md 2), arC cI 96 (T24_M1 2)), ((md 3), arC cI 96 (T24_M1 3)), ((md 4), arC cI 384 (T24_M1 4)), ((md 5), arC cI 96 (T24_M1 5)), ((md 6), arC cI 60 (T24_M1 6))] → va_S A s.heap H locs → ∀ ls, lv_has ls 5 [(0, .ref (md 0)), (2, .int a2)] → W p l e rm_X5_isEnough s m args below meth c H locs 0 0 (MQ below (QI D (mdW cI md (p_X5_isEnough M a1 a2)) (r_X5_isEnough M a1 a2) A) args s 0 0 A) (F0 m 53 ls []) := by
    intro H locs hMI3 hP hD hS ls hl
    have hr : (r_X5_isEnough M a1 a2) = (lr_X5_isEnough_58 a2 ((a2.toInt - (0 : Int32).toInt).toNat + 1) (1 : Int32) (0 : Int32) T24_M1) := by subst hT24_M1; exact hr
    have hp : (p_X5_isEnough M a1 a2) = (lp_X5_isEnough_58 a2 ((a2.toInt - (0 : Int32).toInt).toNat + 1) (1 : Int32) (0 : Int32) T24_M1) := by subst hT24_M1; exact hp
    refine lv_iconst (v := (1 : Int32)) hx hb dX5_isEnough_53 (by decide) ?_
    refine lv_istore_n (lv' := [(3, .int (1 : Int32)), (0, .ref (md 0)), (2, .int a2)]) hx hb dX5_isEnough_54 rfl hl (by decide) rfl (fun ls hl => ?_)
    refine lv_iconst (v := (0 : Int32)) hx hb dX5_isEnough_55 (by decide) ?_
    refine lv_istore (lv' := [(4, .int (0 : Int32)), (3, .int (1 : Int32)), (0, .ref (md 0)), (2, .int a2)]) hx hb dX5_isEnough_56 hl (by decide) rfl (fun ls hl => ?_)
    have L_58 : ∀ (fu : Nat) (is : Int32) (t : Int32) (M2 : CS) (H : Heap) (locs : List Loc), (a2.toInt - t.toInt < (fu : Int) ∧ 0 < fu) → MI M2 → is = 0 ∨ is = 1 → (r_X5_isEnough M a1 a2) = (lr_X5_isEnough_58 a2 fu is t M2) → (p_X5_isEnough M a1 a2) = (lp_X5_isEnough_58 a2 fu is t M2) → va_P D vwCl [((md 0), mdC md (M2 0)), ((md 1), arC cI 96 (M2 1)), ((md 2), arC cI 96 (M2 2)), ((md 3), arC cI 96 (M2 3)), ((md 4), arC cI 384 (M2 4)), ((md 5), arC cI 96 (M2 5)), ((md 6), arC cI 60 (M2 6))] H → va_D A [((md 0), mdC md (M2 0)), ((md 1), arC cI 96 (M2 1)), ((md 2), arC cI 96 (M2 2)), ((md 3), arC cI 96 (M2 3)), ((md 4), arC cI 384 (M2 4)), ((md 5), arC cI 96 (M2 5)), ((md 6), arC cI 60 (M2 6))] → va_S A s.heap H locs → ∀ ls, lv_has ls 5 [(0, .ref (md 0)), (2, .int a2), (3, .int is), (4, .int t)] → W p l e rm_X5_isEnough s m args below meth c H locs 0 0 (MQ below (QI D (mdW cI md (p_X5_isEnough M a1 a2)) (r_X5_isEnough M a1 a2) A) args s 0 0 A) (F0 m 58 ls []) := by
      intro fu
      induction fu with
      | zero => intro is t M2 H locs hm; exact absurd hm.2 (Nat.lt_irrefl 0)
      | succ fu ih_58 =>
        intro is t M2 H locs hm hMI2 his hr hp hP hD hS ls hl
        have hr : (r_X5_isEnough M a1 a2) = (if a2 ≤ t then is else (if is = (0 : Int32) then is else ((fun (z_5 : CS) => ((fun (x80_s0 : Int32) => (lr_X5_isEnough_58 a2 fu x80_s0 (t + (1 : Int32)) z_5)) (if (r_X5_passes M2) = (0 : Int32) then (1 : Int32) else (0 : Int32)))) (p_X5_passes M2)))) := hr
        have hp : (p_X5_isEnough M a1 a2) = (if a2 ≤ t then M2 else (if is = (0 : Int32) then M2 else ((fun (z_5 : CS) => ((fun (x80_s0 : Int32) => (lp_X5_isEnough_58 a2 fu x80_s0 (t + (1 : Int32)) z_5)) (if (r_X5_passes M2) = (0 : Int32) then (1 : Int32) else (0 : Int32)))) (p_X5_passes M2)))) := hp
        refine lv_iload hx hb dX5_isEnough_58 (lv_at hl 3 rfl) ?_
        refine lv_iload_n hx hb dX5_isEnough_60 rfl (lv_at hl 1 rfl) ?_
        refine lv_icmp_ge (tgt := 87) hx hb dX5_isEnough_61 (by decide) (fun c61 => ?_) (fun c61 => ?_)
        · have hr := hr.trans (if_pos c61)
          have hp := hp.trans (if_pos c61)
          refine lv_iload_n hx hb dX5_isEnough_87 rfl (lv_at hl 2 rfl) ?_
          exact endZ (v := is) hb hx hsg (b01 his) hr.symm (by rw [hp]; exact hP) (by rw [hp]; exact hD) hS dX5_isEnough_88 hlocks
        · have hr := hr.trans (if_neg c61)
          have hp := hp.trans (if_neg c61)
          refine lv_iload_n hx hb dX5_isEnough_64 rfl (lv_at hl 2 rfl) ?_
          refine lv_if_eq (tgt := 87) hx hb dX5_isEnough_65 (by decide) (fun c65 => ?_) (fun c65 => ?_)
          · have hr := hr.trans (if_pos c65)
            have hp := hp.trans (if_pos c65)
            refine lv_iload_n hx hb dX5_isEnough_87 rfl (lv_at hl 2 rfl) ?_
            exact endZ (v := is) hb hx hsg (b01 his) hr.symm (by rw [hp]; exact hP) (by rw [hp]; exact hD) hS dX5_isEnough_88 hlocks
          · have hr := hr.trans (if_neg c65)
            have hp := hp.trans (if_neg c65)
            refine lv_aload_n hx hb dX5_isEnough_68 rfl (lv_at hl 0 rfl) ?_
            refine goI (n := 7) (ws' := [((md 0), mdC md ((p_X5_passes M2) 0)), ((md 1), arC cI 96 ((p_X5_passes M2) 1)), ((md 2), arC cI 96 ((p_X5_passes M2) 2)), ((md 3), arC cI 96 ((p_X5_passes M2) 3)), ((md 4), arC cI 384 ((p_X5_passes M2) 4)), ((md 5), arC cI 96 ((p_X5_passes M2) 5)), ((md 6), arC cI 60 ((p_X5_passes M2) 6))]) (rs := []) (va_runV (As := []) (rest := []) ⟨hx, hb, hml, hown, hts⟩ (c_X5_passes l D cI cC cS md M2 hMI2 _) (cwV 0 hts gX5_isEnough_X5_passes rfl rfl rfl (by decide +kernel) ⟨Nat.le_of_ble_eq_true rfl, Nat.le_of_ble_eq_true rfl⟩) (preV hK hP hD [0, 1, 2, 3, 4, 5, 6] (by decide) rfl 0 5 rfl rfl) rfl rfl hl.1 rfl (lv_room (Nat.le_of_ble_eq_true rfl)) dX5_isEnough_69 ⟨Nat.zero_le _, Nat.zero_le _⟩) hP hD hS hA [0, 1, 2, 3, 4, 5, 6] [] rfl rfl rfl rfl rfl (by decide +kernel) (fstE (as := [(md 0), (md 1), (md 2), (md 3), (md 4), (md 5), (md 6)]) rfl rfl) (fun H locs hP hD hS => ?_)
            obtain ⟨z_5, hz_5⟩ : ∃ z : CS, z = (p_X5_passes M2) := ⟨_, rfl⟩
            rw [← hz_5] at hP hD
            have hr : (r_X5_isEnough M a1 a2) = ((fun (x80_s0 : Int32) => (lr_X5_isEnough_58 a2 fu x80_s0 (t + (1 : Int32)) z_5)) (if (r_X5_passes M2) = (0 : Int32) then (1 : Int32) else (0 : Int32))) := by subst hz_5; exact hr
            have hp : (p_X5_isEnough M a1 a2) = ((fun (x80_s0 : Int32) => (lp_X5_isEnough_58 a2 fu x80_s0 (t + (1 : Int32)) z_5)) (if (r_X5_passes M2) = (0 : Int32) then (1 : Int32) else (0 : Int32))) := by subst hz_5; exact hp
            have J_80 : ∀ (x80_s0 : Int32) (H : Heap) (locs : List Loc), x80_s0 = (if (r_X5_passes M2) = (0 : Int32) then (1 : Int32) else (0 : Int32)) → va_P D vwCl [((md 0), mdC md (z_5 0)), ((md 1), arC cI 96 (z_5 1)), ((md 2), arC cI 96 (z_5 2)), ((md 3), arC cI 96 (z_5 3)), ((md 4), arC cI 384 (z_5 4)), ((md 5), arC cI 96 (z_5 5)), ((md 6), arC cI 60 (z_5 6))] H → va_D A [((md 0), mdC md (z_5 0)), ((md 1), arC cI 96 (z_5 1)), ((md 2), arC cI 96 (z_5 2)), ((md 3), arC cI 96 (z_5 3)), ((md 4), arC cI 384 (z_5 4)), ((md 5), arC cI 96 (z_5 5)), ((md 6), arC cI 60 (z_5 6))] → va_S A s.heap H locs → ∀ ls, lv_has ls 5 [(0, .ref (md 0)), (2, .int a2), (4, .int t)] → W p l e rm_X5_isEnough s m args below meth c H locs 0 0 (MQ below (QI D (mdW cI md (p_X5_isEnough M a1 a2)) (r_X5_isEnough M a1 a2) A) args s 0 0 A) (F0 m 80 ls [.int x80_s0]) := by
              intro x80_s0 H locs ex80_s0 hP hD hS ls hl
              have hr : (r_X5_isEnough M a1 a2) = (lr_X5_isEnough_58 a2 fu x80_s0 (t + (1 : Int32)) z_5) := by subst ex80_s0; exact hr
              have hp : (p_X5_isEnough M a1 a2) = (lp_X5_isEnough_58 a2 fu x80_s0 (t + (1 : Int32)) z_5) := by subst ex80_s0; exact hp
              refine lv_istore_n (lv' := [(3, .int x80_s0), (0, .ref (md 0)), (2, .int a2), (4, .int t)]) hx hb dX5_isEnough_80 rfl hl (by decide) rfl (fun ls hl => ?_)
              refine lv_iinc (v := (t + (1 : Int32))) (lv' := [(4, .int (t + (1 : Int32))), (3, .int x80_s0), (0, .ref (md 0)), (2, .int a2)]) hx hb dX5_isEnough_81 hl (k := 3) rfl rfl (by decide) rfl (fun ls hl => ?_)
              refine lv_goto (tgt := 58) hx hb dX5_isEnough_84 (by decide) ?_
              exact ih_58 x80_s0 (t + (1 : Int32)) z_5 _ _ (by subst hz_5; exact (cnt_step c61 hm)) (by subst hz_5; exact (mi_passes hMI2)) (by subst hz_5; exact (by subst_vars; split <;> first | exact Or.inl rfl | exact Or.inr rfl)) hr hp hP hD hS ls (lv_sub hl [2, 3, 1, 0] rfl)
            refine lv_if_ne (tgt := 79) hx hb dX5_isEnough_72 (by decide) (fun c72 => ?_) (fun c72 => ?_)
            · refine lv_iconst (v := (0 : Int32)) hx hb dX5_isEnough_79 (by decide) ?_
              exact J_80 (0 : Int32) _ _ (if_neg c72).symm hP hD hS ls (lv_sub hl [0, 1, 3] rfl)
            · refine lv_iconst (v := (1 : Int32)) hx hb dX5_isEnough_75 (by decide) ?_
              refine lv_goto (tgt := 80) hx hb dX5_isEnough_76 (by decide) ?_
              exact J_80 (1 : Int32) _ _ (if_pos c72).symm hP hD hS ls (lv_sub hl [0, 1, 3] rfl)
    exact L_58 _ (1 : Int32) (0 : Int32) T24_M1 _ _ (cnt_init _ _) hMI3 (Or.inr rfl) hr hp hP hD hS ls (lv_sub hl [2, 3, 1, 0] rfl)
  have L_24 : ∀ (fu : Nat) (i : Int32) (M1 : CS) (H : Heap) (locs : List Loc), ((M1 3 5).toInt - i.toInt < (fu : Int) ∧ 0 < fu) → 0 ≤ i.toInt → MI M1 → M1 1 5 = i → M1 3 = M 3 → T24_M1 = (q_X5_isEnough_24 fu i M1) → va_P D vwCl [((md 0), mdC md (M1 0)), ((md 1), arC cI 96 (M1 1)), ((md 2), arC cI 96 (M1 2)), ((md 3), arC cI 96 (M1 3)), ((md 4), arC cI 384 (M1 4)), ((md 5), arC cI 96 (M1 5)), ((md 6), arC cI 60 (M1 6))] H → va_D A [((md 0), mdC md (M1 0)), ((md 1), arC cI 96 (M1 1)), ((md 2), arC cI 96 (M1 2)), ((md 3), arC cI 96 (M1 3)), ((md 4), arC cI 384 (M1 4)), ((md 5), arC cI 96 (M1 5)), ((md 6), arC cI 60 (M1 6))] → va_S A s.heap H locs → ∀ ls, lv_has ls 5 [(0, .ref (md 0)), (2, .int a2), (3, .int i)] → W p l e rm_X5_isEnough s m args below meth c H locs 0 0 (MQ below (QI D (mdW cI md (p_X5_isEnough M a1 a2)) (r_X5_isEnough M a1 a2) A) args s 0 0 A) (F0 m 24 ls []) := by
    intro fu
    induction fu with
    | zero => intro i M1 H locs hm; exact absurd hm.2 (Nat.lt_irrefl 0)
    | succ fu ih_24 =>
      intro i M1 H locs hm hi hMI1 h5 h3 hq0 hP hD hS ls hl
      have hq0 : T24_M1 = (if ((M1 3) 5) ≤ i then M1 else ((fun (z_4 : CS) => (q_X5_isEnough_24 fu (i + (1 : Int32)) z_4)) (p_X5_waits M1 ((M1 3) ((27 : Int32) + i).toNatClampNeg)))) := hq0
      refine lv_iload_n hx hb dX5_isEnough_24 rfl (lv_at hl 2 rfl) ?_
      refine lv_aload_n hx hb dX5_isEnough_25 rfl (lv_at hl 0 rfl) ?_
      refine va_get (D := D) (ci := 5) (v := .ref (md 3)) (C := RX5) (T := TX5) (N := 14) hx hb hts inX5 hown hK.1 hP 0 rfl rfl 2 (by decide) (hts (.fieldLink RX5 16 "GrayPointersModel" "tried" "[I") (List.mem_of_getElem? (i := 1) rfl)) (fun _ h9 => h9) rfl dX5_isEnough_26 ?_
      refine lv_iconst (v := (5 : Int32)) hx hb dX5_isEnough_29 (by decide) ?_
      refine va_iald hx hb hK.1 hP 3 0 rfl rfl (i := (5 : Int32)) (vp_in_iff.mpr (by decide)) dX5_isEnough_30 ?_
      refine W.eq (g2 := F0 m 31 ls [.int ((M1 3) 5), .int i]) rfl ?_
      refine lv_icmp_ge (tgt := 53) hx hb dX5_isEnough_31 (by decide) (fun c31 => ?_) (fun c31 => ?_)
      · have hq0 := hq0.trans (if_pos c31)
        exact K_24 _ _ (by rw [hq0]; exact hMI1) (by rw [hq0]; exact hP) (by rw [hq0]; exact hD) hS ls (by exact lv_sub hl [0, 1] rfl)
      · have hq0 := hq0.trans (if_neg c31)
        refine lv_aload_n hx hb dX5_isEnough_34 rfl (lv_at hl 0 rfl) ?_
        refine lv_aload_n hx hb dX5_isEnough_35 rfl (lv_at hl 0 rfl) ?_
        refine va_get (D := D) (ci := 5) (v := .ref (md 3)) (C := RX5) (T := TX5) (N := 14) hx hb hts inX5 hown hK.1 hP 0 rfl rfl 2 (by decide) (hts (.fieldLink RX5 16 "GrayPointersModel" "tried" "[I") (List.mem_of_getElem? (i := 1) rfl)) (fun _ h9 => h9) rfl dX5_isEnough_36 ?_
        refine lv_bipush (v := (27 : Int32)) hx hb dX5_isEnough_39 (by decide) ?_
        refine lv_iload_n hx hb dX5_isEnough_41 rfl (lv_at hl 2 rfl) ?_
        refine lv_iadd hx hb dX5_isEnough_42 ?_
        refine va_iald hx hb hK.1 hP 3 0 rfl rfl (i := ((27 : Int32) + i)) (en_in h3 hT hi c31) dX5_isEnough_43 ?_
        refine goV (n := 7) (ws' := [((md 0), mdC md ((p_X5_waits M1 ((M1 3) ((27 : Int32) + i).toNatClampNeg)) 0)), ((md 1), arC cI 96 ((p_X5_waits M1 ((M1 3) ((27 : Int32) + i).toNatClampNeg)) 1)), ((md 2), arC cI 96 ((p_X5_waits M1 ((M1 3) ((27 : Int32) + i).toNatClampNeg)) 2)), ((md 3), arC cI 96 ((p_X5_waits M1 ((M1 3) ((27 : Int32) + i).toNatClampNeg)) 3)), ((md 4), arC cI 384 ((p_X5_waits M1 ((M1 3) ((27 : Int32) + i).toNatClampNeg)) 4)), ((md 5), arC cI 96 ((p_X5_waits M1 ((M1 3) ((27 : Int32) + i).toNatClampNeg)) 5)), ((md 6), arC cI 60 ((p_X5_waits M1 ((M1 3) ((27 : Int32) + i).toNatClampNeg)) 6))]) (rs := []) (va_runV (As := [.int ((M1 3) ((27 : Int32) + i).toNatClampNeg)]) (rest := []) ⟨hx, hb, hml, hown, hts⟩ (c_X5_waits l D cI cC cS md M1 ((M1 3) ((27 : Int32) + i).toNatClampNeg) (en_w h5 h3 hT hi c31) _) (cwV 1 hts gX5_isEnough_X5_waits rfl rfl rfl (by decide +kernel) ⟨Nat.le_of_ble_eq_true rfl, Nat.le_of_ble_eq_true rfl⟩) (preV hK hP hD [0, 1, 2, 3, 4, 5, 6] (by decide) rfl 0 5 rfl rfl) rfl rfl hl.1 rfl (lv_room (Nat.le_of_ble_eq_true rfl)) dX5_isEnough_44 ⟨Nat.zero_le _, Nat.zero_le _⟩) hP hD hS hA [0, 1, 2, 3, 4, 5, 6] [] rfl rfl rfl rfl rfl (by decide +kernel) (fstE (as := [(md 0), (md 1), (md 2), (md 3), (md 4), (md 5), (md 6)]) rfl rfl) (fun H locs hP hD hS => ?_)
        obtain ⟨z_4, hz_4⟩ : ∃ z : CS, z = (p_X5_waits M1 ((M1 3) ((27 : Int32) + i).toNatClampNeg)) := ⟨_, rfl⟩
        rw [← hz_4] at hP hD
        have hq0 : T24_M1 = (q_X5_isEnough_24 fu (i + (1 : Int32)) z_4) := by subst hz_4; exact hq0
        refine lv_iinc (v := (i + (1 : Int32))) (lv' := [(3, .int (i + (1 : Int32))), (0, .ref (md 0)), (2, .int a2)]) hx hb dX5_isEnough_47 hl (k := 2) rfl rfl (by decide) rfl (fun ls hl => ?_)
        refine lv_goto (tgt := 24) hx hb dX5_isEnough_50 (by decide) ?_
        exact ih_24 (i + (1 : Int32)) z_4 _ _ (by subst hz_4; exact (by rw [(mi_waits hMI1 (en_w h5 h3 hT hi c31)).2.2 3 (by decide)]; exact cnt_step c31 hm)) (by subst hz_4; exact (inv_step c31 hi)) (by subst hz_4; exact (mi_waits hMI1 (en_w h5 h3 hT hi c31)).1) (by subst hz_4; exact (by rw [(mi_waits hMI1 (en_w h5 h3 hT hi c31)).2.1, h5])) (by subst hz_4; exact (by rw [(mi_waits hMI1 (en_w h5 h3 hT hi c31)).2.2 3 (by decide), h3])) hq0 hP hD hS ls (lv_sub hl [1, 2, 0] rfl)
  exact L_24 _ (0 : Int32) z_3 _ _ (en_m0 (M := M) (by subst_vars; exact (en_b hk hT).2.2) hT) (by decide) (by subst_vars; exact (en_b hk hT).1) (by subst_vars; exact (en_b hk hT).2.1) (by subst_vars; exact (en_b hk hT).2.2) hT24_M1 hP hD hS ls (lv_sub hl [1, 3, 0] rfl)
theorem waits_c {M : CS} {x : Int32} {i : Nat} (hi : i ≠ 1) : p_X5_waits M x i = M i := va_up_n hi
theorem qen_c {j : Nat} (hj : j ≠ 1) : ∀ (fu : Nat) (i : Int32) (M : CS), q_X5_isEnough_24 fu i M j = M j
  | 0, _, _ => rfl
  | fu + 1, i, M => by
    unfold q_X5_isEnough_24
    by_cases c : (M 3 5) ≤ i
    · rw [if_pos c]
    · rw [if_neg c]
      dsimp only
      rw [qen_c hj fu, waits_c hj]
theorem len_c {a2 : Int32} {j : Nat} (hj : j ≠ 1) : ∀ (fu : Nat) (is t : Int32) (M : CS), lp_X5_isEnough_58 a2 fu is t M j = M j
  | 0, _, _, _ => rfl
  | fu + 1, is, t, M => by
    unfold lp_X5_isEnough_58
    by_cases c : a2 ≤ t
    · rw [if_pos c]
    · rw [if_neg c]
      by_cases d : is = (0 : Int32)
      · rw [if_pos d]
      · rw [if_neg d]
        dsimp only
        rw [len_c hj fu, passes_c hj]
theorem en_c {M : CS} {a1 a2 : Int32} {j : Nat} (hj : j ≠ 1) : p_X5_isEnough M a1 a2 j = M j := by
  unfold p_X5_isEnough
  dsimp only
  rw [len_c hj, qen_c hj, builds_at, va_up_n hj, va_up_n hj]
theorem ld_0 {M : CS} (h : MI M) : MI (va_up (va_up M 3 (p_X5_copy (M 1) (M 3))) 1 ((va_up M 3 (p_X5_copy (M 1) (M 3))) 3)) := by
  have e : ∀ j, j < 96 → va_up (va_up M 3 (p_X5_copy (M 1) (M 3))) 1 ((va_up M 3 (p_X5_copy (M 1) (M 3))) 3) 1 j = M 1 j := fun j hj => by
    rw [va_up_s, va_up_s]; exact cp5_lt _ _ hj
  unfold MI
  rw [e 0 (by decide), e 5 (by decide), e 11 (by decide), e 19 (by decide)]
  exact h
theorem ld_s {z : CS} {a b : Int32} (h : MI (va_up z 1 (z 3))) : MI (va_up (p_X5_isEnough z a b) 1 ((p_X5_isEnough z a b) 3)) := by
  rw [en_c (by decide)]
  exact h
def r_X5_leastDepth (M : CS) (a1 : Int32) : Int32 := (if (r_X5_in a1.toInt64 (1 : Int64) (500 : Int64)) = (0 : Int32) then (-2 : Int32) else ((fun (z_1 : F1) => ((fun (z_2 : CS) => ((fun (z_3 : CS) => (if (r_X5_isEnough z_2 (1 : Int32) a1) = (0 : Int32) then ((fun (z_6 : CS) => (if (r_X5_isEnough z_3 (2 : Int32) a1) = (0 : Int32) then ((fun (z_9 : CS) => (if (r_X5_isEnough z_6 (3 : Int32) a1) = (0 : Int32) then ((fun (z_12 : CS) => (if (r_X5_isEnough z_9 (4 : Int32) a1) = (0 : Int32) then ((fun (z_15 : F1) => ((fun (z_16 : CS) => (-5 : Int32)) (va_up z_12 1 z_15))) (p_X5_copy (z_12 3) (z_12 1))) else ((fun (z_13 : F1) => ((fun (z_14 : CS) => (4 : Int32)) (va_up z_12 1 z_13))) (p_X5_copy (z_12 3) (z_12 1))))) (p_X5_isEnough z_9 (4 : Int32) a1)) else ((fun (z_10 : F1) => ((fun (z_11 : CS) => (3 : Int32)) (va_up z_9 1 z_10))) (p_X5_copy (z_9 3) (z_9 1))))) (p_X5_isEnough z_6 (3 : Int32) a1)) else ((fun (z_7 : F1) => ((fun (z_8 : CS) => (2 : Int32)) (va_up z_6 1 z_7))) (p_X5_copy (z_6 3) (z_6 1))))) (p_X5_isEnough z_3 (2 : Int32) a1)) else ((fun (z_4 : F1) => ((fun (z_5 : CS) => (1 : Int32)) (va_up z_3 1 z_4))) (p_X5_copy (z_3 3) (z_3 1))))) (p_X5_isEnough z_2 (1 : Int32) a1))) (va_up M 3 z_1))) (p_X5_copy (M 1) (M 3))))
def p_X5_leastDepth (M : CS) (a1 : Int32) : CS := (if (r_X5_in a1.toInt64 (1 : Int64) (500 : Int64)) = (0 : Int32) then M else ((fun (z_1 : F1) => ((fun (z_2 : CS) => ((fun (z_3 : CS) => (if (r_X5_isEnough z_2 (1 : Int32) a1) = (0 : Int32) then ((fun (z_6 : CS) => (if (r_X5_isEnough z_3 (2 : Int32) a1) = (0 : Int32) then ((fun (z_9 : CS) => (if (r_X5_isEnough z_6 (3 : Int32) a1) = (0 : Int32) then ((fun (z_12 : CS) => (if (r_X5_isEnough z_9 (4 : Int32) a1) = (0 : Int32) then ((fun (z_15 : F1) => ((fun (z_16 : CS) => z_16) (va_up z_12 1 z_15))) (p_X5_copy (z_12 3) (z_12 1))) else ((fun (z_13 : F1) => ((fun (z_14 : CS) => z_14) (va_up z_12 1 z_13))) (p_X5_copy (z_12 3) (z_12 1))))) (p_X5_isEnough z_9 (4 : Int32) a1)) else ((fun (z_10 : F1) => ((fun (z_11 : CS) => z_11) (va_up z_9 1 z_10))) (p_X5_copy (z_9 3) (z_9 1))))) (p_X5_isEnough z_6 (3 : Int32) a1)) else ((fun (z_7 : F1) => ((fun (z_8 : CS) => z_8) (va_up z_6 1 z_7))) (p_X5_copy (z_6 3) (z_6 1))))) (p_X5_isEnough z_3 (2 : Int32) a1)) else ((fun (z_4 : F1) => ((fun (z_5 : CS) => z_5) (va_up z_3 1 z_4))) (p_X5_copy (z_3 3) (z_3 1))))) (p_X5_isEnough z_2 (1 : Int32) a1))) (va_up M 3 z_1))) (p_X5_copy (M 1) (M 3))))
abbrev rm_X5_leastDepth : Room := { frames := 7, cells := 0, slots := 0, locals := 161 }
set_option maxHeartbeats 4000000 in
set_option maxRecDepth 100000 in
theorem c_X5_leastDepth (l : Launch) (D : va_G) (cI cC cS : ClassId) (md : Nat → Nat) (M : CS) (a1 : Int32) (hMI : MI M) : CI l D cI cC cS yX5_leastDepth wsX5_leastDepth rm_X5_leastDepth [.ref (md 0), .int a1] (mdW cI md M) (mdW cI md (p_X5_leastDepth M a1)) (r_X5_leastDepth M a1) := by
  intro sz
  refine startC (cc := cX5_leastDepth) (maxL := 3) (ret := (some .int)) (by decide) rfl (Nat.le_of_ble_eq_true rfl) ?_
  intro p e s m args below meth c hx hb hml hsg hts hown hlocks hin hK A hA hS hP hD ls hl
  have hown : s.vm.findClass RX5 = some m.cls := hown
  have hl : lv_has ls 3 [(0, .ref (md 0)), (1, .int a1)] := hl
  have hP : va_P D vwCl [((md 0), mdC md (M 0)), ((md 1), arC cI 96 (M 1)), ((md 2), arC cI 96 (M 2)), ((md 3), arC cI 96 (M 3)), ((md 4), arC cI 384 (M 4)), ((md 5), arC cI 96 (M 5)), ((md 6), arC cI 60 (M 6))] s.heap := hP
  have hD : va_D A [((md 0), mdC md (M 0)), ((md 1), arC cI 96 (M 1)), ((md 2), arC cI 96 (M 2)), ((md 3), arC cI 96 (M 3)), ((md 4), arC cI 384 (M 4)), ((md 5), arC cI 96 (M 5)), ((md 6), arC cI 60 (M 6))] := hD
  have inX5 : ∀ w ∈ wsX50, w ∈ wsX5_leastDepth := fun _ h => List.mem_cons_of_mem _ (List.mem_append_right _ h)
  have hr : (r_X5_leastDepth M a1) = (if (r_X5_in a1.toInt64 (1 : Int64) (500 : Int64)) = (0 : Int32) then (-2 : Int32) else ((fun (z_1 : F1) => ((fun (z_2 : CS) => ((fun (z_3 : CS) => (if (r_X5_isEnough z_2 (1 : Int32) a1) = (0 : Int32) then ((fun (z_6 : CS) => (if (r_X5_isEnough z_3 (2 : Int32) a1) = (0 : Int32) then ((fun (z_9 : CS) => (if (r_X5_isEnough z_6 (3 : Int32) a1) = (0 : Int32) then ((fun (z_12 : CS) => (if (r_X5_isEnough z_9 (4 : Int32) a1) = (0 : Int32) then ((fun (z_15 : F1) => ((fun (z_16 : CS) => (-5 : Int32)) (va_up z_12 1 z_15))) (p_X5_copy (z_12 3) (z_12 1))) else ((fun (z_13 : F1) => ((fun (z_14 : CS) => (4 : Int32)) (va_up z_12 1 z_13))) (p_X5_copy (z_12 3) (z_12 1))))) (p_X5_isEnough z_9 (4 : Int32) a1)) else ((fun (z_10 : F1) => ((fun (z_11 : CS) => (3 : Int32)) (va_up z_9 1 z_10))) (p_X5_copy (z_9 3) (z_9 1))))) (p_X5_isEnough z_6 (3 : Int32) a1)) else ((fun (z_7 : F1) => ((fun (z_8 : CS) => (2 : Int32)) (va_up z_6 1 z_7))) (p_X5_copy (z_6 3) (z_6 1))))) (p_X5_isEnough z_3 (2 : Int32) a1)) else ((fun (z_4 : F1) => ((fun (z_5 : CS) => (1 : Int32)) (va_up z_3 1 z_4))) (p_X5_copy (z_3 3) (z_3 1))))) (p_X5_isEnough z_2 (1 : Int32) a1))) (va_up M 3 z_1))) (p_X5_copy (M 1) (M 3)))) := rfl
  have hp : (p_X5_leastDepth M a1) = (if (r_X5_in a1.toInt64 (1 : Int64) (500 : Int64)) = (0 : Int32) then M else ((fun (z_1 : F1) => ((fun (z_2 : CS) => ((fun (z_3 : CS) => (if (r_X5_isEnough z_2 (1 : Int32) a1) = (0 : Int32) then ((fun (z_6 : CS) => (if (r_X5_isEnough z_3 (2 : Int32) a1) = (0 : Int32) then ((fun (z_9 : CS) => (if (r_X5_isEnough z_6 (3 : Int32) a1) = (0 : Int32) then ((fun (z_12 : CS) => (if (r_X5_isEnough z_9 (4 : Int32) a1) = (0 : Int32) then ((fun (z_15 : F1) => ((fun (z_16 : CS) => z_16) (va_up z_12 1 z_15))) (p_X5_copy (z_12 3) (z_12 1))) else ((fun (z_13 : F1) => ((fun (z_14 : CS) => z_14) (va_up z_12 1 z_13))) (p_X5_copy (z_12 3) (z_12 1))))) (p_X5_isEnough z_9 (4 : Int32) a1)) else ((fun (z_10 : F1) => ((fun (z_11 : CS) => z_11) (va_up z_9 1 z_10))) (p_X5_copy (z_9 3) (z_9 1))))) (p_X5_isEnough z_6 (3 : Int32) a1)) else ((fun (z_7 : F1) => ((fun (z_8 : CS) => z_8) (va_up z_6 1 z_7))) (p_X5_copy (z_6 3) (z_6 1))))) (p_X5_isEnough z_3 (2 : Int32) a1)) else ((fun (z_4 : F1) => ((fun (z_5 : CS) => z_5) (va_up z_3 1 z_4))) (p_X5_copy (z_3 3) (z_3 1))))) (p_X5_isEnough z_2 (1 : Int32) a1))) (va_up M 3 z_1))) (p_X5_copy (M 1) (M 3)))) := rfl
  refine lv_iload_n hx hb dX5_leastDepth_0 rfl (lv_at hl 1 rfl) ?_
  refine lv_i2l (v := a1.toInt64) hx hb dX5_leastDepth_1 rfl ?_
  refine lv_lconst (v := (1 : Int64)) hx hb dX5_leastDepth_2 (by decide) ?_
  refine lv_ldc2 (v := (500 : Int64)) hx hb hown (hts (.constantLong RX5 129 500) (List.mem_of_getElem? (i := 1) rfl)) dX5_leastDepth_3 ?_
  refine goI (n := 7) (ws' := [((md 0), mdC md (M 0)), ((md 1), arC cI 96 (M 1)), ((md 2), arC cI 96 (M 2)), ((md 3), arC cI 96 (M 3)), ((md 4), arC cI 384 (M 4)), ((md 5), arC cI 96 (M 5)), ((md 6), arC cI 60 (M 6))]) (rs := [((md 0), mdC md (M 0)), ((md 1), arC cI 96 (M 1)), ((md 2), arC cI 96 (M 2)), ((md 3), arC cI 96 (M 3)), ((md 4), arC cI 384 (M 4)), ((md 5), arC cI 96 (M 5)), ((md 6), arC cI 60 (M 6))]) (va_runS (As := [.long a1.toInt64, .long (1 : Int64), .long (500 : Int64)]) (rest := []) ⟨hx, hb, hml, hown, hts⟩ (c_X5_in l D cI cC cS a1.toInt64 (1 : Int64) (500 : Int64)  _) (va_cwS 3 hts gX5_leastDepth_X5_in rfl rfl rfl (by decide +kernel) ⟨Nat.le_of_ble_eq_true rfl, Nat.le_of_ble_eq_true rfl⟩) (preS hK hP hD [] (by decide) rfl) rfl rfl hl.1 rfl (lv_room (Nat.le_of_ble_eq_true rfl)) dX5_leastDepth_6 ⟨Nat.zero_le _, Nat.zero_le _⟩) hP hD hS hA [] [0, 1, 2, 3, 4, 5, 6] rfl rfl rfl rfl rfl (by decide +kernel) rfl (fun H locs hP hD hS => ?_)
  refine lv_if_ne (tgt := 15) hx hb dX5_leastDepth_9 (by decide) (fun c9 => ?_) (fun c9 => ?_)
  · have hr := hr.trans (if_neg c9)
    have hp := hp.trans (if_neg c9)
    refine lv_aload_n hx hb dX5_leastDepth_15 rfl (lv_at hl 0 rfl) ?_
    refine va_get (D := D) (ci := 5) (v := .ref (md 1)) (C := RX5) (T := TX5) (N := 14) hx hb hts inX5 hown hK.1 hP 0 rfl rfl 0 (by decide) (hts (.fieldLink RX5 7 "GrayPointersModel" "all" "[I") (List.mem_of_getElem? (i := 2) rfl)) (fun _ h9 => h9) rfl dX5_leastDepth_16 ?_
    refine lv_aload_n hx hb dX5_leastDepth_19 rfl (lv_at hl 0 rfl) ?_
    refine va_get (D := D) (ci := 5) (v := .ref (md 3)) (C := RX5) (T := TX5) (N := 14) hx hb hts inX5 hown hK.1 hP 0 rfl rfl 2 (by decide) (hts (.fieldLink RX5 16 "GrayPointersModel" "tried" "[I") (List.mem_of_getElem? (i := 3) rfl)) (fun _ h9 => h9) rfl dX5_leastDepth_20 ?_
    refine goV (n := 7) (ws' := [((md 0), mdC md (M 0)), ((md 1), arC cI 96 (M 1)), ((md 2), arC cI 96 (M 2)), ((md 3), arC cI 96 (p_X5_copy (M 1) (M 3))), ((md 4), arC cI 384 (M 4)), ((md 5), arC cI 96 (M 5)), ((md 6), arC cI 60 (M 6))]) (rs := [((md 0), mdC md (M 0)), ((md 2), arC cI 96 (M 2)), ((md 4), arC cI 384 (M 4)), ((md 5), arC cI 96 (M 5)), ((md 6), arC cI 60 (M 6))]) (va_runS (As := [.ref (md 1), .ref (md 3)]) (rest := []) ⟨hx, hb, hml, hown, hts⟩ (c_X5_copy l D cI cC cS (md 1) (md 3) (M 1) (M 3)  _) (va_cwS 2 hts gX5_leastDepth_X5_copy rfl rfl rfl (by decide +kernel) ⟨Nat.le_of_ble_eq_true rfl, Nat.le_of_ble_eq_true rfl⟩) (preS hK hP hD [1, 3] (by decide) rfl) rfl rfl hl.1 rfl (lv_room (Nat.le_of_ble_eq_true rfl)) dX5_leastDepth_23 ⟨Nat.zero_le _, Nat.zero_le _⟩) hP hD hS hA [1, 3] [0, 2, 4, 5, 6] rfl rfl rfl rfl rfl (by decide +kernel) (fstE (as := [(md 1), (md 3)]) rfl rfl) (fun H locs hP hD hS => ?_)
    obtain ⟨z_1, hz_1⟩ : ∃ z : F1, z = (p_X5_copy (M 1) (M 3)) := ⟨_, rfl⟩
    rw [← hz_1] at hP hD
    have hr : (r_X5_leastDepth M a1) = ((fun (z_2 : CS) => ((fun (z_3 : CS) => (if (r_X5_isEnough z_2 (1 : Int32) a1) = (0 : Int32) then ((fun (z_6 : CS) => (if (r_X5_isEnough z_3 (2 : Int32) a1) = (0 : Int32) then ((fun (z_9 : CS) => (if (r_X5_isEnough z_6 (3 : Int32) a1) = (0 : Int32) then ((fun (z_12 : CS) => (if (r_X5_isEnough z_9 (4 : Int32) a1) = (0 : Int32) then ((fun (z_15 : F1) => ((fun (z_16 : CS) => (-5 : Int32)) (va_up z_12 1 z_15))) (p_X5_copy (z_12 3) (z_12 1))) else ((fun (z_13 : F1) => ((fun (z_14 : CS) => (4 : Int32)) (va_up z_12 1 z_13))) (p_X5_copy (z_12 3) (z_12 1))))) (p_X5_isEnough z_9 (4 : Int32) a1)) else ((fun (z_10 : F1) => ((fun (z_11 : CS) => (3 : Int32)) (va_up z_9 1 z_10))) (p_X5_copy (z_9 3) (z_9 1))))) (p_X5_isEnough z_6 (3 : Int32) a1)) else ((fun (z_7 : F1) => ((fun (z_8 : CS) => (2 : Int32)) (va_up z_6 1 z_7))) (p_X5_copy (z_6 3) (z_6 1))))) (p_X5_isEnough z_3 (2 : Int32) a1)) else ((fun (z_4 : F1) => ((fun (z_5 : CS) => (1 : Int32)) (va_up z_3 1 z_4))) (p_X5_copy (z_3 3) (z_3 1))))) (p_X5_isEnough z_2 (1 : Int32) a1))) (va_up M 3 z_1)) := by subst hz_1; exact hr
    have hp : (p_X5_leastDepth M a1) = ((fun (z_2 : CS) => ((fun (z_3 : CS) => (if (r_X5_isEnough z_2 (1 : Int32) a1) = (0 : Int32) then ((fun (z_6 : CS) => (if (r_X5_isEnough z_3 (2 : Int32) a1) = (0 : Int32) then ((fun (z_9 : CS) => (if (r_X5_isEnough z_6 (3 : Int32) a1) = (0 : Int32) then ((fun (z_12 : CS) => (if (r_X5_isEnough z_9 (4 : Int32) a1) = (0 : Int32) then ((fun (z_15 : F1) => ((fun (z_16 : CS) => z_16) (va_up z_12 1 z_15))) (p_X5_copy (z_12 3) (z_12 1))) else ((fun (z_13 : F1) => ((fun (z_14 : CS) => z_14) (va_up z_12 1 z_13))) (p_X5_copy (z_12 3) (z_12 1))))) (p_X5_isEnough z_9 (4 : Int32) a1)) else ((fun (z_10 : F1) => ((fun (z_11 : CS) => z_11) (va_up z_9 1 z_10))) (p_X5_copy (z_9 3) (z_9 1))))) (p_X5_isEnough z_6 (3 : Int32) a1)) else ((fun (z_7 : F1) => ((fun (z_8 : CS) => z_8) (va_up z_6 1 z_7))) (p_X5_copy (z_6 3) (z_6 1))))) (p_X5_isEnough z_3 (2 : Int32) a1)) else ((fun (z_4 : F1) => ((fun (z_5 : CS) => z_5) (va_up z_3 1 z_4))) (p_X5_copy (z_3 3) (z_3 1))))) (p_X5_isEnough z_2 (1 : Int32) a1))) (va_up M 3 z_1)) := by subst hz_1; exact hp
    refine lv_iconst (v := (1 : Int32)) hx hb dX5_leastDepth_26 (by decide) ?_
    refine lv_istore_n (lv' := [(2, .int (1 : Int32)), (0, .ref (md 0)), (1, .int a1)]) hx hb dX5_leastDepth_27 rfl hl (by decide) rfl (fun ls hl => ?_)
    refine lv_iload_n hx hb dX5_leastDepth_28 rfl (lv_at hl 0 rfl) ?_
    refine lv_iconst (v := (5 : Int32)) hx hb dX5_leastDepth_29 (by decide) ?_
    refine lv_icmp_ge (tgt := 48) hx hb dX5_leastDepth_30 (by decide) (fun h9 => absurd h9 (by decide)) (fun _ => ?_)
    refine lv_aload_n hx hb dX5_leastDepth_33 rfl (lv_at hl 1 rfl) ?_
    refine lv_iload_n hx hb dX5_leastDepth_34 rfl (lv_at hl 0 rfl) ?_
    refine lv_iload_n hx hb dX5_leastDepth_35 rfl (lv_at hl 2 rfl) ?_
    obtain ⟨z_2, hz_2⟩ : ∃ z : CS, z = (va_up M 3 z_1) := ⟨_, rfl⟩
    have e0 : (z_2 0) = (M 0) := (congrFun hz_2 0).trans (va_up_n (by decide))
    have e1 : (z_2 1) = (M 1) := (congrFun hz_2 1).trans (va_up_n (by decide))
    have e2 : (z_2 2) = (M 2) := (congrFun hz_2 2).trans (va_up_n (by decide))
    have e3 : (z_2 3) = z_1 := (congrFun hz_2 3).trans va_up_s
    have e4 : (z_2 4) = (M 4) := (congrFun hz_2 4).trans (va_up_n (by decide))
    have e5 : (z_2 5) = (M 5) := (congrFun hz_2 5).trans (va_up_n (by decide))
    have e6 : (z_2 6) = (M 6) := (congrFun hz_2 6).trans (va_up_n (by decide))
    have hP : va_P D vwCl [((md 0), mdC md (z_2 0)), ((md 1), arC cI 96 (z_2 1)), ((md 2), arC cI 96 (z_2 2)), ((md 3), arC cI 96 (z_2 3)), ((md 4), arC cI 384 (z_2 4)), ((md 5), arC cI 96 (z_2 5)), ((md 6), arC cI 60 (z_2 6))] H := by rw [e0, e1, e2, e3, e4, e5, e6]; exact hP
    have hD : va_D A [((md 0), mdC md (z_2 0)), ((md 1), arC cI 96 (z_2 1)), ((md 2), arC cI 96 (z_2 2)), ((md 3), arC cI 96 (z_2 3)), ((md 4), arC cI 384 (z_2 4)), ((md 5), arC cI 96 (z_2 5)), ((md 6), arC cI 60 (z_2 6))] := by rw [e0, e1, e2, e3, e4, e5, e6]; exact hD
    clear e0 e1 e2 e3 e4 e5 e6
    have hr : (r_X5_leastDepth M a1) = ((fun (z_3 : CS) => (if (r_X5_isEnough z_2 (1 : Int32) a1) = (0 : Int32) then ((fun (z_6 : CS) => (if (r_X5_isEnough z_3 (2 : Int32) a1) = (0 : Int32) then ((fun (z_9 : CS) => (if (r_X5_isEnough z_6 (3 : Int32) a1) = (0 : Int32) then ((fun (z_12 : CS) => (if (r_X5_isEnough z_9 (4 : Int32) a1) = (0 : Int32) then ((fun (z_15 : F1) => ((fun (z_16 : CS) => (-5 : Int32)) (va_up z_12 1 z_15))) (p_X5_copy (z_12 3) (z_12 1))) else ((fun (z_13 : F1) => ((fun (z_14 : CS) => (4 : Int32)) (va_up z_12 1 z_13))) (p_X5_copy (z_12 3) (z_12 1))))) (p_X5_isEnough z_9 (4 : Int32) a1)) else ((fun (z_10 : F1) => ((fun (z_11 : CS) => (3 : Int32)) (va_up z_9 1 z_10))) (p_X5_copy (z_9 3) (z_9 1))))) (p_X5_isEnough z_6 (3 : Int32) a1)) else ((fun (z_7 : F1) => ((fun (z_8 : CS) => (2 : Int32)) (va_up z_6 1 z_7))) (p_X5_copy (z_6 3) (z_6 1))))) (p_X5_isEnough z_3 (2 : Int32) a1)) else ((fun (z_4 : F1) => ((fun (z_5 : CS) => (1 : Int32)) (va_up z_3 1 z_4))) (p_X5_copy (z_3 3) (z_3 1))))) (p_X5_isEnough z_2 (1 : Int32) a1)) := by subst hz_2; exact hr
    have hp : (p_X5_leastDepth M a1) = ((fun (z_3 : CS) => (if (r_X5_isEnough z_2 (1 : Int32) a1) = (0 : Int32) then ((fun (z_6 : CS) => (if (r_X5_isEnough z_3 (2 : Int32) a1) = (0 : Int32) then ((fun (z_9 : CS) => (if (r_X5_isEnough z_6 (3 : Int32) a1) = (0 : Int32) then ((fun (z_12 : CS) => (if (r_X5_isEnough z_9 (4 : Int32) a1) = (0 : Int32) then ((fun (z_15 : F1) => ((fun (z_16 : CS) => z_16) (va_up z_12 1 z_15))) (p_X5_copy (z_12 3) (z_12 1))) else ((fun (z_13 : F1) => ((fun (z_14 : CS) => z_14) (va_up z_12 1 z_13))) (p_X5_copy (z_12 3) (z_12 1))))) (p_X5_isEnough z_9 (4 : Int32) a1)) else ((fun (z_10 : F1) => ((fun (z_11 : CS) => z_11) (va_up z_9 1 z_10))) (p_X5_copy (z_9 3) (z_9 1))))) (p_X5_isEnough z_6 (3 : Int32) a1)) else ((fun (z_7 : F1) => ((fun (z_8 : CS) => z_8) (va_up z_6 1 z_7))) (p_X5_copy (z_6 3) (z_6 1))))) (p_X5_isEnough z_3 (2 : Int32) a1)) else ((fun (z_4 : F1) => ((fun (z_5 : CS) => z_5) (va_up z_3 1 z_4))) (p_X5_copy (z_3 3) (z_3 1))))) (p_X5_isEnough z_2 (1 : Int32) a1)) := by subst hz_2; exact hp
    refine goI (n := 7) (ws' := [((md 0), mdC md ((p_X5_isEnough z_2 (1 : Int32) a1) 0)), ((md 1), arC cI 96 ((p_X5_isEnough z_2 (1 : Int32) a1) 1)), ((md 2), arC cI 96 ((p_X5_isEnough z_2 (1 : Int32) a1) 2)), ((md 3), arC cI 96 ((p_X5_isEnough z_2 (1 : Int32) a1) 3)), ((md 4), arC cI 384 ((p_X5_isEnough z_2 (1 : Int32) a1) 4)), ((md 5), arC cI 96 ((p_X5_isEnough z_2 (1 : Int32) a1) 5)), ((md 6), arC cI 60 ((p_X5_isEnough z_2 (1 : Int32) a1) 6))]) (rs := []) (va_runV (As := [.int (1 : Int32), .int a1]) (rest := []) ⟨hx, hb, hml, hown, hts⟩ (c_X5_isEnough l D cI cC cS md z_2 (1 : Int32) a1 (by decide) (by rw [hz_2, hz_1]; exact ld_0 hMI) _) (cwV 2 hts gX5_leastDepth_X5_isEnough rfl rfl rfl (by decide +kernel) ⟨Nat.le_of_ble_eq_true rfl, Nat.le_of_ble_eq_true rfl⟩) (preV hK hP hD [0, 1, 2, 3, 4, 5, 6] (by decide) rfl 0 5 rfl rfl) rfl rfl hl.1 rfl (lv_room (Nat.le_of_ble_eq_true rfl)) dX5_leastDepth_36 ⟨Nat.zero_le _, Nat.zero_le _⟩) hP hD hS hA [0, 1, 2, 3, 4, 5, 6] [] rfl rfl rfl rfl rfl (by decide +kernel) (fstE (as := [(md 0), (md 1), (md 2), (md 3), (md 4), (md 5), (md 6)]) rfl rfl) (fun H locs hP hD hS => ?_)
    obtain ⟨z_3, hz_3⟩ : ∃ z : CS, z = (p_X5_isEnough z_2 (1 : Int32) a1) := ⟨_, rfl⟩
    rw [← hz_3] at hP hD
    have hr : (r_X5_leastDepth M a1) = (if (r_X5_isEnough z_2 (1 : Int32) a1) = (0 : Int32) then ((fun (z_6 : CS) => (if (r_X5_isEnough z_3 (2 : Int32) a1) = (0 : Int32) then ((fun (z_9 : CS) => (if (r_X5_isEnough z_6 (3 : Int32) a1) = (0 : Int32) then ((fun (z_12 : CS) => (if (r_X5_isEnough z_9 (4 : Int32) a1) = (0 : Int32) then ((fun (z_15 : F1) => ((fun (z_16 : CS) => (-5 : Int32)) (va_up z_12 1 z_15))) (p_X5_copy (z_12 3) (z_12 1))) else ((fun (z_13 : F1) => ((fun (z_14 : CS) => (4 : Int32)) (va_up z_12 1 z_13))) (p_X5_copy (z_12 3) (z_12 1))))) (p_X5_isEnough z_9 (4 : Int32) a1)) else ((fun (z_10 : F1) => ((fun (z_11 : CS) => (3 : Int32)) (va_up z_9 1 z_10))) (p_X5_copy (z_9 3) (z_9 1))))) (p_X5_isEnough z_6 (3 : Int32) a1)) else ((fun (z_7 : F1) => ((fun (z_8 : CS) => (2 : Int32)) (va_up z_6 1 z_7))) (p_X5_copy (z_6 3) (z_6 1))))) (p_X5_isEnough z_3 (2 : Int32) a1)) else ((fun (z_4 : F1) => ((fun (z_5 : CS) => (1 : Int32)) (va_up z_3 1 z_4))) (p_X5_copy (z_3 3) (z_3 1)))) := by subst hz_3; exact hr
    have hp : (p_X5_leastDepth M a1) = (if (r_X5_isEnough z_2 (1 : Int32) a1) = (0 : Int32) then ((fun (z_6 : CS) => (if (r_X5_isEnough z_3 (2 : Int32) a1) = (0 : Int32) then ((fun (z_9 : CS) => (if (r_X5_isEnough z_6 (3 : Int32) a1) = (0 : Int32) then ((fun (z_12 : CS) => (if (r_X5_isEnough z_9 (4 : Int32) a1) = (0 : Int32) then ((fun (z_15 : F1) => ((fun (z_16 : CS) => z_16) (va_up z_12 1 z_15))) (p_X5_copy (z_12 3) (z_12 1))) else ((fun (z_13 : F1) => ((fun (z_14 : CS) => z_14) (va_up z_12 1 z_13))) (p_X5_copy (z_12 3) (z_12 1))))) (p_X5_isEnough z_9 (4 : Int32) a1)) else ((fun (z_10 : F1) => ((fun (z_11 : CS) => z_11) (va_up z_9 1 z_10))) (p_X5_copy (z_9 3) (z_9 1))))) (p_X5_isEnough z_6 (3 : Int32) a1)) else ((fun (z_7 : F1) => ((fun (z_8 : CS) => z_8) (va_up z_6 1 z_7))) (p_X5_copy (z_6 3) (z_6 1))))) (p_X5_isEnough z_3 (2 : Int32) a1)) else ((fun (z_4 : F1) => ((fun (z_5 : CS) => z_5) (va_up z_3 1 z_4))) (p_X5_copy (z_3 3) (z_3 1)))) := by subst hz_3; exact hp
    refine lv_if_ne (tgt := 48) hx hb dX5_leastDepth_39 (by decide) (fun c39 => ?_) (fun c39 => ?_)
    · have hr := hr.trans (if_neg c39)
      have hp := hp.trans (if_neg c39)
      refine lv_aload_n hx hb dX5_leastDepth_48 rfl (lv_at hl 1 rfl) ?_
      refine va_get (D := D) (ci := 5) (v := .ref (md 3)) (C := RX5) (T := TX5) (N := 14) hx hb hts inX5 hown hK.1 hP 0 rfl rfl 2 (by decide) (hts (.fieldLink RX5 16 "GrayPointersModel" "tried" "[I") (List.mem_of_getElem? (i := 3) rfl)) (fun _ h9 => h9) rfl dX5_leastDepth_49 ?_
      refine lv_aload_n hx hb dX5_leastDepth_52 rfl (lv_at hl 1 rfl) ?_
      refine va_get (D := D) (ci := 5) (v := .ref (md 1)) (C := RX5) (T := TX5) (N := 14) hx hb hts inX5 hown hK.1 hP 0 rfl rfl 0 (by decide) (hts (.fieldLink RX5 7 "GrayPointersModel" "all" "[I") (List.mem_of_getElem? (i := 2) rfl)) (fun _ h9 => h9) rfl dX5_leastDepth_53 ?_
      refine goV (n := 7) (ws' := [((md 0), mdC md (z_3 0)), ((md 1), arC cI 96 (p_X5_copy (z_3 3) (z_3 1))), ((md 2), arC cI 96 (z_3 2)), ((md 3), arC cI 96 (z_3 3)), ((md 4), arC cI 384 (z_3 4)), ((md 5), arC cI 96 (z_3 5)), ((md 6), arC cI 60 (z_3 6))]) (rs := [((md 0), mdC md (z_3 0)), ((md 2), arC cI 96 (z_3 2)), ((md 4), arC cI 384 (z_3 4)), ((md 5), arC cI 96 (z_3 5)), ((md 6), arC cI 60 (z_3 6))]) (va_runS (As := [.ref (md 3), .ref (md 1)]) (rest := []) ⟨hx, hb, hml, hown, hts⟩ (c_X5_copy l D cI cC cS (md 3) (md 1) (z_3 3) (z_3 1)  _) (va_cwS 2 hts gX5_leastDepth_X5_copy rfl rfl rfl (by decide +kernel) ⟨Nat.le_of_ble_eq_true rfl, Nat.le_of_ble_eq_true rfl⟩) (preS hK hP hD [3, 1] (by decide) rfl) rfl rfl hl.1 rfl (lv_room (Nat.le_of_ble_eq_true rfl)) dX5_leastDepth_56 ⟨Nat.zero_le _, Nat.zero_le _⟩) hP hD hS hA [3, 1] [0, 2, 4, 5, 6] rfl rfl rfl rfl rfl (by decide +kernel) (fstE (as := [(md 3), (md 1)]) rfl rfl) (fun H locs hP hD hS => ?_)
      obtain ⟨z_4, hz_4⟩ : ∃ z : F1, z = (p_X5_copy (z_3 3) (z_3 1)) := ⟨_, rfl⟩
      rw [← hz_4] at hP hD
      have hr : (r_X5_leastDepth M a1) = ((fun (z_5 : CS) => (1 : Int32)) (va_up z_3 1 z_4)) := by subst hz_4; exact hr
      have hp : (p_X5_leastDepth M a1) = ((fun (z_5 : CS) => z_5) (va_up z_3 1 z_4)) := by subst hz_4; exact hp
      refine lv_iload_n hx hb dX5_leastDepth_59 rfl (lv_at hl 0 rfl) ?_
      refine lv_iconst (v := (5 : Int32)) hx hb dX5_leastDepth_60 (by decide) ?_
      refine lv_icmp_ge (tgt := 68) hx hb dX5_leastDepth_61 (by decide) (fun h9 => absurd h9 (by decide)) (fun _ => ?_)
      refine lv_iload_n hx hb dX5_leastDepth_64 rfl (lv_at hl 0 rfl) ?_
      refine lv_goto (tgt := 70) hx hb dX5_leastDepth_65 (by decide) ?_
      obtain ⟨z_5, hz_5⟩ : ∃ z : CS, z = (va_up z_3 1 z_4) := ⟨_, rfl⟩
      have e0 : (z_5 0) = (z_3 0) := (congrFun hz_5 0).trans (va_up_n (by decide))
      have e1 : (z_5 1) = z_4 := (congrFun hz_5 1).trans va_up_s
      have e2 : (z_5 2) = (z_3 2) := (congrFun hz_5 2).trans (va_up_n (by decide))
      have e3 : (z_5 3) = (z_3 3) := (congrFun hz_5 3).trans (va_up_n (by decide))
      have e4 : (z_5 4) = (z_3 4) := (congrFun hz_5 4).trans (va_up_n (by decide))
      have e5 : (z_5 5) = (z_3 5) := (congrFun hz_5 5).trans (va_up_n (by decide))
      have e6 : (z_5 6) = (z_3 6) := (congrFun hz_5 6).trans (va_up_n (by decide))
      have hP : va_P D vwCl [((md 0), mdC md (z_5 0)), ((md 1), arC cI 96 (z_5 1)), ((md 2), arC cI 96 (z_5 2)), ((md 3), arC cI 96 (z_5 3)), ((md 4), arC cI 384 (z_5 4)), ((md 5), arC cI 96 (z_5 5)), ((md 6), arC cI 60 (z_5 6))] H := by rw [e0, e1, e2, e3, e4, e5, e6]; exact hP
      have hD : va_D A [((md 0), mdC md (z_5 0)), ((md 1), arC cI 96 (z_5 1)), ((md 2), arC cI 96 (z_5 2)), ((md 3), arC cI 96 (z_5 3)), ((md 4), arC cI 384 (z_5 4)), ((md 5), arC cI 96 (z_5 5)), ((md 6), arC cI 60 (z_5 6))] := by rw [e0, e1, e2, e3, e4, e5, e6]; exact hD
      clear e0 e1 e2 e3 e4 e5 e6
      have hr : (r_X5_leastDepth M a1) = (1 : Int32) := by subst hz_5; exact hr
      have hp : (p_X5_leastDepth M a1) = z_5 := by subst hz_5; exact hp
      exact endI (v := (1 : Int32)) hb hx hsg hr.symm (by rw [hp]; exact hP) (by rw [hp]; exact hD) hS dX5_leastDepth_70 hlocks
    · have hr := hr.trans (if_pos c39)
      have hp := hp.trans (if_pos c39)
      refine lv_iinc (v := (2 : Int32)) (lv' := [(2, .int (2 : Int32)), (0, .ref (md 0)), (1, .int a1)]) hx hb dX5_leastDepth_42 hl (k := 0) rfl rfl (by decide) rfl (fun ls hl => ?_)
      refine lv_goto (tgt := 28) hx hb dX5_leastDepth_45 (by decide) ?_
      refine lv_iload_n hx hb dX5_leastDepth_28 rfl (lv_at hl 0 rfl) ?_
      refine lv_iconst (v := (5 : Int32)) hx hb dX5_leastDepth_29 (by decide) ?_
      refine lv_icmp_ge (tgt := 48) hx hb dX5_leastDepth_30 (by decide) (fun h9 => absurd h9 (by decide)) (fun _ => ?_)
      refine lv_aload_n hx hb dX5_leastDepth_33 rfl (lv_at hl 1 rfl) ?_
      refine lv_iload_n hx hb dX5_leastDepth_34 rfl (lv_at hl 0 rfl) ?_
      refine lv_iload_n hx hb dX5_leastDepth_35 rfl (lv_at hl 2 rfl) ?_
      refine goI (n := 7) (ws' := [((md 0), mdC md ((p_X5_isEnough z_3 (2 : Int32) a1) 0)), ((md 1), arC cI 96 ((p_X5_isEnough z_3 (2 : Int32) a1) 1)), ((md 2), arC cI 96 ((p_X5_isEnough z_3 (2 : Int32) a1) 2)), ((md 3), arC cI 96 ((p_X5_isEnough z_3 (2 : Int32) a1) 3)), ((md 4), arC cI 384 ((p_X5_isEnough z_3 (2 : Int32) a1) 4)), ((md 5), arC cI 96 ((p_X5_isEnough z_3 (2 : Int32) a1) 5)), ((md 6), arC cI 60 ((p_X5_isEnough z_3 (2 : Int32) a1) 6))]) (rs := []) (va_runV (As := [.int (2 : Int32), .int a1]) (rest := []) ⟨hx, hb, hml, hown, hts⟩ (c_X5_isEnough l D cI cC cS md z_3 (2 : Int32) a1 (by decide) (by rw [hz_3]; exact ld_s (by rw [hz_2, hz_1]; exact ld_0 hMI)) _) (cwV 2 hts gX5_leastDepth_X5_isEnough rfl rfl rfl (by decide +kernel) ⟨Nat.le_of_ble_eq_true rfl, Nat.le_of_ble_eq_true rfl⟩) (preV hK hP hD [0, 1, 2, 3, 4, 5, 6] (by decide) rfl 0 5 rfl rfl) rfl rfl hl.1 rfl (lv_room (Nat.le_of_ble_eq_true rfl)) dX5_leastDepth_36 ⟨Nat.zero_le _, Nat.zero_le _⟩) hP hD hS hA [0, 1, 2, 3, 4, 5, 6] [] rfl rfl rfl rfl rfl (by decide +kernel) (fstE (as := [(md 0), (md 1), (md 2), (md 3), (md 4), (md 5), (md 6)]) rfl rfl) (fun H locs hP hD hS => ?_)
      obtain ⟨z_6, hz_6⟩ : ∃ z : CS, z = (p_X5_isEnough z_3 (2 : Int32) a1) := ⟨_, rfl⟩
      rw [← hz_6] at hP hD
      have hr : (r_X5_leastDepth M a1) = (if (r_X5_isEnough z_3 (2 : Int32) a1) = (0 : Int32) then ((fun (z_9 : CS) => (if (r_X5_isEnough z_6 (3 : Int32) a1) = (0 : Int32) then ((fun (z_12 : CS) => (if (r_X5_isEnough z_9 (4 : Int32) a1) = (0 : Int32) then ((fun (z_15 : F1) => ((fun (z_16 : CS) => (-5 : Int32)) (va_up z_12 1 z_15))) (p_X5_copy (z_12 3) (z_12 1))) else ((fun (z_13 : F1) => ((fun (z_14 : CS) => (4 : Int32)) (va_up z_12 1 z_13))) (p_X5_copy (z_12 3) (z_12 1))))) (p_X5_isEnough z_9 (4 : Int32) a1)) else ((fun (z_10 : F1) => ((fun (z_11 : CS) => (3 : Int32)) (va_up z_9 1 z_10))) (p_X5_copy (z_9 3) (z_9 1))))) (p_X5_isEnough z_6 (3 : Int32) a1)) else ((fun (z_7 : F1) => ((fun (z_8 : CS) => (2 : Int32)) (va_up z_6 1 z_7))) (p_X5_copy (z_6 3) (z_6 1)))) := by subst hz_6; exact hr
      have hp : (p_X5_leastDepth M a1) = (if (r_X5_isEnough z_3 (2 : Int32) a1) = (0 : Int32) then ((fun (z_9 : CS) => (if (r_X5_isEnough z_6 (3 : Int32) a1) = (0 : Int32) then ((fun (z_12 : CS) => (if (r_X5_isEnough z_9 (4 : Int32) a1) = (0 : Int32) then ((fun (z_15 : F1) => ((fun (z_16 : CS) => z_16) (va_up z_12 1 z_15))) (p_X5_copy (z_12 3) (z_12 1))) else ((fun (z_13 : F1) => ((fun (z_14 : CS) => z_14) (va_up z_12 1 z_13))) (p_X5_copy (z_12 3) (z_12 1))))) (p_X5_isEnough z_9 (4 : Int32) a1)) else ((fun (z_10 : F1) => ((fun (z_11 : CS) => z_11) (va_up z_9 1 z_10))) (p_X5_copy (z_9 3) (z_9 1))))) (p_X5_isEnough z_6 (3 : Int32) a1)) else ((fun (z_7 : F1) => ((fun (z_8 : CS) => z_8) (va_up z_6 1 z_7))) (p_X5_copy (z_6 3) (z_6 1)))) := by subst hz_6; exact hp
      refine lv_if_ne (tgt := 48) hx hb dX5_leastDepth_39 (by decide) (fun c39 => ?_) (fun c39 => ?_)
      · have hr := hr.trans (if_neg c39)
        have hp := hp.trans (if_neg c39)
        refine lv_aload_n hx hb dX5_leastDepth_48 rfl (lv_at hl 1 rfl) ?_
        refine va_get (D := D) (ci := 5) (v := .ref (md 3)) (C := RX5) (T := TX5) (N := 14) hx hb hts inX5 hown hK.1 hP 0 rfl rfl 2 (by decide) (hts (.fieldLink RX5 16 "GrayPointersModel" "tried" "[I") (List.mem_of_getElem? (i := 3) rfl)) (fun _ h9 => h9) rfl dX5_leastDepth_49 ?_
        refine lv_aload_n hx hb dX5_leastDepth_52 rfl (lv_at hl 1 rfl) ?_
        refine va_get (D := D) (ci := 5) (v := .ref (md 1)) (C := RX5) (T := TX5) (N := 14) hx hb hts inX5 hown hK.1 hP 0 rfl rfl 0 (by decide) (hts (.fieldLink RX5 7 "GrayPointersModel" "all" "[I") (List.mem_of_getElem? (i := 2) rfl)) (fun _ h9 => h9) rfl dX5_leastDepth_53 ?_
        refine goV (n := 7) (ws' := [((md 0), mdC md (z_6 0)), ((md 1), arC cI 96 (p_X5_copy (z_6 3) (z_6 1))), ((md 2), arC cI 96 (z_6 2)), ((md 3), arC cI 96 (z_6 3)), ((md 4), arC cI 384 (z_6 4)), ((md 5), arC cI 96 (z_6 5)), ((md 6), arC cI 60 (z_6 6))]) (rs := [((md 0), mdC md (z_6 0)), ((md 2), arC cI 96 (z_6 2)), ((md 4), arC cI 384 (z_6 4)), ((md 5), arC cI 96 (z_6 5)), ((md 6), arC cI 60 (z_6 6))]) (va_runS (As := [.ref (md 3), .ref (md 1)]) (rest := []) ⟨hx, hb, hml, hown, hts⟩ (c_X5_copy l D cI cC cS (md 3) (md 1) (z_6 3) (z_6 1)  _) (va_cwS 2 hts gX5_leastDepth_X5_copy rfl rfl rfl (by decide +kernel) ⟨Nat.le_of_ble_eq_true rfl, Nat.le_of_ble_eq_true rfl⟩) (preS hK hP hD [3, 1] (by decide) rfl) rfl rfl hl.1 rfl (lv_room (Nat.le_of_ble_eq_true rfl)) dX5_leastDepth_56 ⟨Nat.zero_le _, Nat.zero_le _⟩) hP hD hS hA [3, 1] [0, 2, 4, 5, 6] rfl rfl rfl rfl rfl (by decide +kernel) (fstE (as := [(md 3), (md 1)]) rfl rfl) (fun H locs hP hD hS => ?_)
        obtain ⟨z_7, hz_7⟩ : ∃ z : F1, z = (p_X5_copy (z_6 3) (z_6 1)) := ⟨_, rfl⟩
        rw [← hz_7] at hP hD
        have hr : (r_X5_leastDepth M a1) = ((fun (z_8 : CS) => (2 : Int32)) (va_up z_6 1 z_7)) := by subst hz_7; exact hr
        have hp : (p_X5_leastDepth M a1) = ((fun (z_8 : CS) => z_8) (va_up z_6 1 z_7)) := by subst hz_7; exact hp
        refine lv_iload_n hx hb dX5_leastDepth_59 rfl (lv_at hl 0 rfl) ?_
        refine lv_iconst (v := (5 : Int32)) hx hb dX5_leastDepth_60 (by decide) ?_
        refine lv_icmp_ge (tgt := 68) hx hb dX5_leastDepth_61 (by decide) (fun h9 => absurd h9 (by decide)) (fun _ => ?_)
        refine lv_iload_n hx hb dX5_leastDepth_64 rfl (lv_at hl 0 rfl) ?_
        refine lv_goto (tgt := 70) hx hb dX5_leastDepth_65 (by decide) ?_
        obtain ⟨z_8, hz_8⟩ : ∃ z : CS, z = (va_up z_6 1 z_7) := ⟨_, rfl⟩
        have e0 : (z_8 0) = (z_6 0) := (congrFun hz_8 0).trans (va_up_n (by decide))
        have e1 : (z_8 1) = z_7 := (congrFun hz_8 1).trans va_up_s
        have e2 : (z_8 2) = (z_6 2) := (congrFun hz_8 2).trans (va_up_n (by decide))
        have e3 : (z_8 3) = (z_6 3) := (congrFun hz_8 3).trans (va_up_n (by decide))
        have e4 : (z_8 4) = (z_6 4) := (congrFun hz_8 4).trans (va_up_n (by decide))
        have e5 : (z_8 5) = (z_6 5) := (congrFun hz_8 5).trans (va_up_n (by decide))
        have e6 : (z_8 6) = (z_6 6) := (congrFun hz_8 6).trans (va_up_n (by decide))
        have hP : va_P D vwCl [((md 0), mdC md (z_8 0)), ((md 1), arC cI 96 (z_8 1)), ((md 2), arC cI 96 (z_8 2)), ((md 3), arC cI 96 (z_8 3)), ((md 4), arC cI 384 (z_8 4)), ((md 5), arC cI 96 (z_8 5)), ((md 6), arC cI 60 (z_8 6))] H := by rw [e0, e1, e2, e3, e4, e5, e6]; exact hP
        have hD : va_D A [((md 0), mdC md (z_8 0)), ((md 1), arC cI 96 (z_8 1)), ((md 2), arC cI 96 (z_8 2)), ((md 3), arC cI 96 (z_8 3)), ((md 4), arC cI 384 (z_8 4)), ((md 5), arC cI 96 (z_8 5)), ((md 6), arC cI 60 (z_8 6))] := by rw [e0, e1, e2, e3, e4, e5, e6]; exact hD
        clear e0 e1 e2 e3 e4 e5 e6
        have hr : (r_X5_leastDepth M a1) = (2 : Int32) := by subst hz_8; exact hr
        have hp : (p_X5_leastDepth M a1) = z_8 := by subst hz_8; exact hp
        exact endI (v := (2 : Int32)) hb hx hsg hr.symm (by rw [hp]; exact hP) (by rw [hp]; exact hD) hS dX5_leastDepth_70 hlocks
      · have hr := hr.trans (if_pos c39)
        have hp := hp.trans (if_pos c39)
        refine lv_iinc (v := (3 : Int32)) (lv' := [(2, .int (3 : Int32)), (0, .ref (md 0)), (1, .int a1)]) hx hb dX5_leastDepth_42 hl (k := 0) rfl rfl (by decide) rfl (fun ls hl => ?_)
        refine lv_goto (tgt := 28) hx hb dX5_leastDepth_45 (by decide) ?_
        refine lv_iload_n hx hb dX5_leastDepth_28 rfl (lv_at hl 0 rfl) ?_
        refine lv_iconst (v := (5 : Int32)) hx hb dX5_leastDepth_29 (by decide) ?_
        refine lv_icmp_ge (tgt := 48) hx hb dX5_leastDepth_30 (by decide) (fun h9 => absurd h9 (by decide)) (fun _ => ?_)
        refine lv_aload_n hx hb dX5_leastDepth_33 rfl (lv_at hl 1 rfl) ?_
        refine lv_iload_n hx hb dX5_leastDepth_34 rfl (lv_at hl 0 rfl) ?_
        refine lv_iload_n hx hb dX5_leastDepth_35 rfl (lv_at hl 2 rfl) ?_
        refine goI (n := 7) (ws' := [((md 0), mdC md ((p_X5_isEnough z_6 (3 : Int32) a1) 0)), ((md 1), arC cI 96 ((p_X5_isEnough z_6 (3 : Int32) a1) 1)), ((md 2), arC cI 96 ((p_X5_isEnough z_6 (3 : Int32) a1) 2)), ((md 3), arC cI 96 ((p_X5_isEnough z_6 (3 : Int32) a1) 3)), ((md 4), arC cI 384 ((p_X5_isEnough z_6 (3 : Int32) a1) 4)), ((md 5), arC cI 96 ((p_X5_isEnough z_6 (3 : Int32) a1) 5)), ((md 6), arC cI 60 ((p_X5_isEnough z_6 (3 : Int32) a1) 6))]) (rs := []) (va_runV (As := [.int (3 : Int32), .int a1]) (rest := []) ⟨hx, hb, hml, hown, hts⟩ (c_X5_isEnough l D cI cC cS md z_6 (3 : Int32) a1 (by decide) (by rw [hz_6]; exact ld_s (by rw [hz_3]; exact ld_s (by rw [hz_2, hz_1]; exact ld_0 hMI))) _) (cwV 2 hts gX5_leastDepth_X5_isEnough rfl rfl rfl (by decide +kernel) ⟨Nat.le_of_ble_eq_true rfl, Nat.le_of_ble_eq_true rfl⟩) (preV hK hP hD [0, 1, 2, 3, 4, 5, 6] (by decide) rfl 0 5 rfl rfl) rfl rfl hl.1 rfl (lv_room (Nat.le_of_ble_eq_true rfl)) dX5_leastDepth_36 ⟨Nat.zero_le _, Nat.zero_le _⟩) hP hD hS hA [0, 1, 2, 3, 4, 5, 6] [] rfl rfl rfl rfl rfl (by decide +kernel) (fstE (as := [(md 0), (md 1), (md 2), (md 3), (md 4), (md 5), (md 6)]) rfl rfl) (fun H locs hP hD hS => ?_)
        obtain ⟨z_9, hz_9⟩ : ∃ z : CS, z = (p_X5_isEnough z_6 (3 : Int32) a1) := ⟨_, rfl⟩
        rw [← hz_9] at hP hD
        have hr : (r_X5_leastDepth M a1) = (if (r_X5_isEnough z_6 (3 : Int32) a1) = (0 : Int32) then ((fun (z_12 : CS) => (if (r_X5_isEnough z_9 (4 : Int32) a1) = (0 : Int32) then ((fun (z_15 : F1) => ((fun (z_16 : CS) => (-5 : Int32)) (va_up z_12 1 z_15))) (p_X5_copy (z_12 3) (z_12 1))) else ((fun (z_13 : F1) => ((fun (z_14 : CS) => (4 : Int32)) (va_up z_12 1 z_13))) (p_X5_copy (z_12 3) (z_12 1))))) (p_X5_isEnough z_9 (4 : Int32) a1)) else ((fun (z_10 : F1) => ((fun (z_11 : CS) => (3 : Int32)) (va_up z_9 1 z_10))) (p_X5_copy (z_9 3) (z_9 1)))) := by subst hz_9; exact hr
        have hp : (p_X5_leastDepth M a1) = (if (r_X5_isEnough z_6 (3 : Int32) a1) = (0 : Int32) then ((fun (z_12 : CS) => (if (r_X5_isEnough z_9 (4 : Int32) a1) = (0 : Int32) then ((fun (z_15 : F1) => ((fun (z_16 : CS) => z_16) (va_up z_12 1 z_15))) (p_X5_copy (z_12 3) (z_12 1))) else ((fun (z_13 : F1) => ((fun (z_14 : CS) => z_14) (va_up z_12 1 z_13))) (p_X5_copy (z_12 3) (z_12 1))))) (p_X5_isEnough z_9 (4 : Int32) a1)) else ((fun (z_10 : F1) => ((fun (z_11 : CS) => z_11) (va_up z_9 1 z_10))) (p_X5_copy (z_9 3) (z_9 1)))) := by subst hz_9; exact hp
        refine lv_if_ne (tgt := 48) hx hb dX5_leastDepth_39 (by decide) (fun c39 => ?_) (fun c39 => ?_)
        · have hr := hr.trans (if_neg c39)
          have hp := hp.trans (if_neg c39)
          refine lv_aload_n hx hb dX5_leastDepth_48 rfl (lv_at hl 1 rfl) ?_
          refine va_get (D := D) (ci := 5) (v := .ref (md 3)) (C := RX5) (T := TX5) (N := 14) hx hb hts inX5 hown hK.1 hP 0 rfl rfl 2 (by decide) (hts (.fieldLink RX5 16 "GrayPointersModel" "tried" "[I") (List.mem_of_getElem? (i := 3) rfl)) (fun _ h9 => h9) rfl dX5_leastDepth_49 ?_
          refine lv_aload_n hx hb dX5_leastDepth_52 rfl (lv_at hl 1 rfl) ?_
          refine va_get (D := D) (ci := 5) (v := .ref (md 1)) (C := RX5) (T := TX5) (N := 14) hx hb hts inX5 hown hK.1 hP 0 rfl rfl 0 (by decide) (hts (.fieldLink RX5 7 "GrayPointersModel" "all" "[I") (List.mem_of_getElem? (i := 2) rfl)) (fun _ h9 => h9) rfl dX5_leastDepth_53 ?_
          refine goV (n := 7) (ws' := [((md 0), mdC md (z_9 0)), ((md 1), arC cI 96 (p_X5_copy (z_9 3) (z_9 1))), ((md 2), arC cI 96 (z_9 2)), ((md 3), arC cI 96 (z_9 3)), ((md 4), arC cI 384 (z_9 4)), ((md 5), arC cI 96 (z_9 5)), ((md 6), arC cI 60 (z_9 6))]) (rs := [((md 0), mdC md (z_9 0)), ((md 2), arC cI 96 (z_9 2)), ((md 4), arC cI 384 (z_9 4)), ((md 5), arC cI 96 (z_9 5)), ((md 6), arC cI 60 (z_9 6))]) (va_runS (As := [.ref (md 3), .ref (md 1)]) (rest := []) ⟨hx, hb, hml, hown, hts⟩ (c_X5_copy l D cI cC cS (md 3) (md 1) (z_9 3) (z_9 1)  _) (va_cwS 2 hts gX5_leastDepth_X5_copy rfl rfl rfl (by decide +kernel) ⟨Nat.le_of_ble_eq_true rfl, Nat.le_of_ble_eq_true rfl⟩) (preS hK hP hD [3, 1] (by decide) rfl) rfl rfl hl.1 rfl (lv_room (Nat.le_of_ble_eq_true rfl)) dX5_leastDepth_56 ⟨Nat.zero_le _, Nat.zero_le _⟩) hP hD hS hA [3, 1] [0, 2, 4, 5, 6] rfl rfl rfl rfl rfl (by decide +kernel) (fstE (as := [(md 3), (md 1)]) rfl rfl) (fun H locs hP hD hS => ?_)
          obtain ⟨z_10, hz_10⟩ : ∃ z : F1, z = (p_X5_copy (z_9 3) (z_9 1)) := ⟨_, rfl⟩
          rw [← hz_10] at hP hD
          have hr : (r_X5_leastDepth M a1) = ((fun (z_11 : CS) => (3 : Int32)) (va_up z_9 1 z_10)) := by subst hz_10; exact hr
          have hp : (p_X5_leastDepth M a1) = ((fun (z_11 : CS) => z_11) (va_up z_9 1 z_10)) := by subst hz_10; exact hp
          refine lv_iload_n hx hb dX5_leastDepth_59 rfl (lv_at hl 0 rfl) ?_
          refine lv_iconst (v := (5 : Int32)) hx hb dX5_leastDepth_60 (by decide) ?_
          refine lv_icmp_ge (tgt := 68) hx hb dX5_leastDepth_61 (by decide) (fun h9 => absurd h9 (by decide)) (fun _ => ?_)
          refine lv_iload_n hx hb dX5_leastDepth_64 rfl (lv_at hl 0 rfl) ?_
          refine lv_goto (tgt := 70) hx hb dX5_leastDepth_65 (by decide) ?_
          obtain ⟨z_11, hz_11⟩ : ∃ z : CS, z = (va_up z_9 1 z_10) := ⟨_, rfl⟩
          have e0 : (z_11 0) = (z_9 0) := (congrFun hz_11 0).trans (va_up_n (by decide))
          have e1 : (z_11 1) = z_10 := (congrFun hz_11 1).trans va_up_s
          have e2 : (z_11 2) = (z_9 2) := (congrFun hz_11 2).trans (va_up_n (by decide))
          have e3 : (z_11 3) = (z_9 3) := (congrFun hz_11 3).trans (va_up_n (by decide))
          have e4 : (z_11 4) = (z_9 4) := (congrFun hz_11 4).trans (va_up_n (by decide))
          have e5 : (z_11 5) = (z_9 5) := (congrFun hz_11 5).trans (va_up_n (by decide))
          have e6 : (z_11 6) = (z_9 6) := (congrFun hz_11 6).trans (va_up_n (by decide))
          have hP : va_P D vwCl [((md 0), mdC md (z_11 0)), ((md 1), arC cI 96 (z_11 1)), ((md 2), arC cI 96 (z_11 2)), ((md 3), arC cI 96 (z_11 3)), ((md 4), arC cI 384 (z_11 4)), ((md 5), arC cI 96 (z_11 5)), ((md 6), arC cI 60 (z_11 6))] H := by rw [e0, e1, e2, e3, e4, e5, e6]; exact hP
          have hD : va_D A [((md 0), mdC md (z_11 0)), ((md 1), arC cI 96 (z_11 1)), ((md 2), arC cI 96 (z_11 2)), ((md 3), arC cI 96 (z_11 3)), ((md 4), arC cI 384 (z_11 4)), ((md 5), arC cI 96 (z_11 5)), ((md 6), arC cI 60 (z_11 6))] := by rw [e0, e1, e2, e3, e4, e5, e6]; exact hD
          clear e0 e1 e2 e3 e4 e5 e6
          have hr : (r_X5_leastDepth M a1) = (3 : Int32) := by subst hz_11; exact hr
          have hp : (p_X5_leastDepth M a1) = z_11 := by subst hz_11; exact hp
          exact endI (v := (3 : Int32)) hb hx hsg hr.symm (by rw [hp]; exact hP) (by rw [hp]; exact hD) hS dX5_leastDepth_70 hlocks
        · have hr := hr.trans (if_pos c39)
          have hp := hp.trans (if_pos c39)
          refine lv_iinc (v := (4 : Int32)) (lv' := [(2, .int (4 : Int32)), (0, .ref (md 0)), (1, .int a1)]) hx hb dX5_leastDepth_42 hl (k := 0) rfl rfl (by decide) rfl (fun ls hl => ?_)
          refine lv_goto (tgt := 28) hx hb dX5_leastDepth_45 (by decide) ?_
          refine lv_iload_n hx hb dX5_leastDepth_28 rfl (lv_at hl 0 rfl) ?_
          refine lv_iconst (v := (5 : Int32)) hx hb dX5_leastDepth_29 (by decide) ?_
          refine lv_icmp_ge (tgt := 48) hx hb dX5_leastDepth_30 (by decide) (fun h9 => absurd h9 (by decide)) (fun _ => ?_)
          refine lv_aload_n hx hb dX5_leastDepth_33 rfl (lv_at hl 1 rfl) ?_
          refine lv_iload_n hx hb dX5_leastDepth_34 rfl (lv_at hl 0 rfl) ?_
          refine lv_iload_n hx hb dX5_leastDepth_35 rfl (lv_at hl 2 rfl) ?_
          refine goI (n := 7) (ws' := [((md 0), mdC md ((p_X5_isEnough z_9 (4 : Int32) a1) 0)), ((md 1), arC cI 96 ((p_X5_isEnough z_9 (4 : Int32) a1) 1)), ((md 2), arC cI 96 ((p_X5_isEnough z_9 (4 : Int32) a1) 2)), ((md 3), arC cI 96 ((p_X5_isEnough z_9 (4 : Int32) a1) 3)), ((md 4), arC cI 384 ((p_X5_isEnough z_9 (4 : Int32) a1) 4)), ((md 5), arC cI 96 ((p_X5_isEnough z_9 (4 : Int32) a1) 5)), ((md 6), arC cI 60 ((p_X5_isEnough z_9 (4 : Int32) a1) 6))]) (rs := []) (va_runV (As := [.int (4 : Int32), .int a1]) (rest := []) ⟨hx, hb, hml, hown, hts⟩ (c_X5_isEnough l D cI cC cS md z_9 (4 : Int32) a1 (by decide) (by rw [hz_9]; exact ld_s (by rw [hz_6]; exact ld_s (by rw [hz_3]; exact ld_s (by rw [hz_2, hz_1]; exact ld_0 hMI)))) _) (cwV 2 hts gX5_leastDepth_X5_isEnough rfl rfl rfl (by decide +kernel) ⟨Nat.le_of_ble_eq_true rfl, Nat.le_of_ble_eq_true rfl⟩) (preV hK hP hD [0, 1, 2, 3, 4, 5, 6] (by decide) rfl 0 5 rfl rfl) rfl rfl hl.1 rfl (lv_room (Nat.le_of_ble_eq_true rfl)) dX5_leastDepth_36 ⟨Nat.zero_le _, Nat.zero_le _⟩) hP hD hS hA [0, 1, 2, 3, 4, 5, 6] [] rfl rfl rfl rfl rfl (by decide +kernel) (fstE (as := [(md 0), (md 1), (md 2), (md 3), (md 4), (md 5), (md 6)]) rfl rfl) (fun H locs hP hD hS => ?_)
          obtain ⟨z_12, hz_12⟩ : ∃ z : CS, z = (p_X5_isEnough z_9 (4 : Int32) a1) := ⟨_, rfl⟩
          rw [← hz_12] at hP hD
          have hr : (r_X5_leastDepth M a1) = (if (r_X5_isEnough z_9 (4 : Int32) a1) = (0 : Int32) then ((fun (z_15 : F1) => ((fun (z_16 : CS) => (-5 : Int32)) (va_up z_12 1 z_15))) (p_X5_copy (z_12 3) (z_12 1))) else ((fun (z_13 : F1) => ((fun (z_14 : CS) => (4 : Int32)) (va_up z_12 1 z_13))) (p_X5_copy (z_12 3) (z_12 1)))) := by subst hz_12; exact hr
          have hp : (p_X5_leastDepth M a1) = (if (r_X5_isEnough z_9 (4 : Int32) a1) = (0 : Int32) then ((fun (z_15 : F1) => ((fun (z_16 : CS) => z_16) (va_up z_12 1 z_15))) (p_X5_copy (z_12 3) (z_12 1))) else ((fun (z_13 : F1) => ((fun (z_14 : CS) => z_14) (va_up z_12 1 z_13))) (p_X5_copy (z_12 3) (z_12 1)))) := by subst hz_12; exact hp
          refine lv_if_ne (tgt := 48) hx hb dX5_leastDepth_39 (by decide) (fun c39 => ?_) (fun c39 => ?_)
          · have hr := hr.trans (if_neg c39)
            have hp := hp.trans (if_neg c39)
            refine lv_aload_n hx hb dX5_leastDepth_48 rfl (lv_at hl 1 rfl) ?_
            refine va_get (D := D) (ci := 5) (v := .ref (md 3)) (C := RX5) (T := TX5) (N := 14) hx hb hts inX5 hown hK.1 hP 0 rfl rfl 2 (by decide) (hts (.fieldLink RX5 16 "GrayPointersModel" "tried" "[I") (List.mem_of_getElem? (i := 3) rfl)) (fun _ h9 => h9) rfl dX5_leastDepth_49 ?_
            refine lv_aload_n hx hb dX5_leastDepth_52 rfl (lv_at hl 1 rfl) ?_
            refine va_get (D := D) (ci := 5) (v := .ref (md 1)) (C := RX5) (T := TX5) (N := 14) hx hb hts inX5 hown hK.1 hP 0 rfl rfl 0 (by decide) (hts (.fieldLink RX5 7 "GrayPointersModel" "all" "[I") (List.mem_of_getElem? (i := 2) rfl)) (fun _ h9 => h9) rfl dX5_leastDepth_53 ?_
            refine goV (n := 7) (ws' := [((md 0), mdC md (z_12 0)), ((md 1), arC cI 96 (p_X5_copy (z_12 3) (z_12 1))), ((md 2), arC cI 96 (z_12 2)), ((md 3), arC cI 96 (z_12 3)), ((md 4), arC cI 384 (z_12 4)), ((md 5), arC cI 96 (z_12 5)), ((md 6), arC cI 60 (z_12 6))]) (rs := [((md 0), mdC md (z_12 0)), ((md 2), arC cI 96 (z_12 2)), ((md 4), arC cI 384 (z_12 4)), ((md 5), arC cI 96 (z_12 5)), ((md 6), arC cI 60 (z_12 6))]) (va_runS (As := [.ref (md 3), .ref (md 1)]) (rest := []) ⟨hx, hb, hml, hown, hts⟩ (c_X5_copy l D cI cC cS (md 3) (md 1) (z_12 3) (z_12 1)  _) (va_cwS 2 hts gX5_leastDepth_X5_copy rfl rfl rfl (by decide +kernel) ⟨Nat.le_of_ble_eq_true rfl, Nat.le_of_ble_eq_true rfl⟩) (preS hK hP hD [3, 1] (by decide) rfl) rfl rfl hl.1 rfl (lv_room (Nat.le_of_ble_eq_true rfl)) dX5_leastDepth_56 ⟨Nat.zero_le _, Nat.zero_le _⟩) hP hD hS hA [3, 1] [0, 2, 4, 5, 6] rfl rfl rfl rfl rfl (by decide +kernel) (fstE (as := [(md 3), (md 1)]) rfl rfl) (fun H locs hP hD hS => ?_)
            obtain ⟨z_13, hz_13⟩ : ∃ z : F1, z = (p_X5_copy (z_12 3) (z_12 1)) := ⟨_, rfl⟩
            rw [← hz_13] at hP hD
            have hr : (r_X5_leastDepth M a1) = ((fun (z_14 : CS) => (4 : Int32)) (va_up z_12 1 z_13)) := by subst hz_13; exact hr
            have hp : (p_X5_leastDepth M a1) = ((fun (z_14 : CS) => z_14) (va_up z_12 1 z_13)) := by subst hz_13; exact hp
            refine lv_iload_n hx hb dX5_leastDepth_59 rfl (lv_at hl 0 rfl) ?_
            refine lv_iconst (v := (5 : Int32)) hx hb dX5_leastDepth_60 (by decide) ?_
            refine lv_icmp_ge (tgt := 68) hx hb dX5_leastDepth_61 (by decide) (fun h9 => absurd h9 (by decide)) (fun _ => ?_)
            refine lv_iload_n hx hb dX5_leastDepth_64 rfl (lv_at hl 0 rfl) ?_
            refine lv_goto (tgt := 70) hx hb dX5_leastDepth_65 (by decide) ?_
            obtain ⟨z_14, hz_14⟩ : ∃ z : CS, z = (va_up z_12 1 z_13) := ⟨_, rfl⟩
            have e0 : (z_14 0) = (z_12 0) := (congrFun hz_14 0).trans (va_up_n (by decide))
            have e1 : (z_14 1) = z_13 := (congrFun hz_14 1).trans va_up_s
            have e2 : (z_14 2) = (z_12 2) := (congrFun hz_14 2).trans (va_up_n (by decide))
            have e3 : (z_14 3) = (z_12 3) := (congrFun hz_14 3).trans (va_up_n (by decide))
            have e4 : (z_14 4) = (z_12 4) := (congrFun hz_14 4).trans (va_up_n (by decide))
            have e5 : (z_14 5) = (z_12 5) := (congrFun hz_14 5).trans (va_up_n (by decide))
            have e6 : (z_14 6) = (z_12 6) := (congrFun hz_14 6).trans (va_up_n (by decide))
            have hP : va_P D vwCl [((md 0), mdC md (z_14 0)), ((md 1), arC cI 96 (z_14 1)), ((md 2), arC cI 96 (z_14 2)), ((md 3), arC cI 96 (z_14 3)), ((md 4), arC cI 384 (z_14 4)), ((md 5), arC cI 96 (z_14 5)), ((md 6), arC cI 60 (z_14 6))] H := by rw [e0, e1, e2, e3, e4, e5, e6]; exact hP
            have hD : va_D A [((md 0), mdC md (z_14 0)), ((md 1), arC cI 96 (z_14 1)), ((md 2), arC cI 96 (z_14 2)), ((md 3), arC cI 96 (z_14 3)), ((md 4), arC cI 384 (z_14 4)), ((md 5), arC cI 96 (z_14 5)), ((md 6), arC cI 60 (z_14 6))] := by rw [e0, e1, e2, e3, e4, e5, e6]; exact hD
            clear e0 e1 e2 e3 e4 e5 e6
            have hr : (r_X5_leastDepth M a1) = (4 : Int32) := by subst hz_14; exact hr
            have hp : (p_X5_leastDepth M a1) = z_14 := by subst hz_14; exact hp
            exact endI (v := (4 : Int32)) hb hx hsg hr.symm (by rw [hp]; exact hP) (by rw [hp]; exact hD) hS dX5_leastDepth_70 hlocks
          · have hr := hr.trans (if_pos c39)
            have hp := hp.trans (if_pos c39)
            refine lv_iinc (v := (5 : Int32)) (lv' := [(2, .int (5 : Int32)), (0, .ref (md 0)), (1, .int a1)]) hx hb dX5_leastDepth_42 hl (k := 0) rfl rfl (by decide) rfl (fun ls hl => ?_)
            refine lv_goto (tgt := 28) hx hb dX5_leastDepth_45 (by decide) ?_
            refine lv_iload_n hx hb dX5_leastDepth_28 rfl (lv_at hl 0 rfl) ?_
            refine lv_iconst (v := (5 : Int32)) hx hb dX5_leastDepth_29 (by decide) ?_
            refine lv_icmp_ge (tgt := 48) hx hb dX5_leastDepth_30 (by decide) (fun _ => ?_) (fun h9 => absurd h9 (by decide))
            refine lv_aload_n hx hb dX5_leastDepth_48 rfl (lv_at hl 1 rfl) ?_
            refine va_get (D := D) (ci := 5) (v := .ref (md 3)) (C := RX5) (T := TX5) (N := 14) hx hb hts inX5 hown hK.1 hP 0 rfl rfl 2 (by decide) (hts (.fieldLink RX5 16 "GrayPointersModel" "tried" "[I") (List.mem_of_getElem? (i := 3) rfl)) (fun _ h9 => h9) rfl dX5_leastDepth_49 ?_
            refine lv_aload_n hx hb dX5_leastDepth_52 rfl (lv_at hl 1 rfl) ?_
            refine va_get (D := D) (ci := 5) (v := .ref (md 1)) (C := RX5) (T := TX5) (N := 14) hx hb hts inX5 hown hK.1 hP 0 rfl rfl 0 (by decide) (hts (.fieldLink RX5 7 "GrayPointersModel" "all" "[I") (List.mem_of_getElem? (i := 2) rfl)) (fun _ h9 => h9) rfl dX5_leastDepth_53 ?_
            refine goV (n := 7) (ws' := [((md 0), mdC md (z_12 0)), ((md 1), arC cI 96 (p_X5_copy (z_12 3) (z_12 1))), ((md 2), arC cI 96 (z_12 2)), ((md 3), arC cI 96 (z_12 3)), ((md 4), arC cI 384 (z_12 4)), ((md 5), arC cI 96 (z_12 5)), ((md 6), arC cI 60 (z_12 6))]) (rs := [((md 0), mdC md (z_12 0)), ((md 2), arC cI 96 (z_12 2)), ((md 4), arC cI 384 (z_12 4)), ((md 5), arC cI 96 (z_12 5)), ((md 6), arC cI 60 (z_12 6))]) (va_runS (As := [.ref (md 3), .ref (md 1)]) (rest := []) ⟨hx, hb, hml, hown, hts⟩ (c_X5_copy l D cI cC cS (md 3) (md 1) (z_12 3) (z_12 1)  _) (va_cwS 2 hts gX5_leastDepth_X5_copy rfl rfl rfl (by decide +kernel) ⟨Nat.le_of_ble_eq_true rfl, Nat.le_of_ble_eq_true rfl⟩) (preS hK hP hD [3, 1] (by decide) rfl) rfl rfl hl.1 rfl (lv_room (Nat.le_of_ble_eq_true rfl)) dX5_leastDepth_56 ⟨Nat.zero_le _, Nat.zero_le _⟩) hP hD hS hA [3, 1] [0, 2, 4, 5, 6] rfl rfl rfl rfl rfl (by decide +kernel) (fstE (as := [(md 3), (md 1)]) rfl rfl) (fun H locs hP hD hS => ?_)
            obtain ⟨z_15, hz_15⟩ : ∃ z : F1, z = (p_X5_copy (z_12 3) (z_12 1)) := ⟨_, rfl⟩
            rw [← hz_15] at hP hD
            have hr : (r_X5_leastDepth M a1) = ((fun (z_16 : CS) => (-5 : Int32)) (va_up z_12 1 z_15)) := by subst hz_15; exact hr
            have hp : (p_X5_leastDepth M a1) = ((fun (z_16 : CS) => z_16) (va_up z_12 1 z_15)) := by subst hz_15; exact hp
            refine lv_iload_n hx hb dX5_leastDepth_59 rfl (lv_at hl 0 rfl) ?_
            refine lv_iconst (v := (5 : Int32)) hx hb dX5_leastDepth_60 (by decide) ?_
            refine lv_icmp_ge (tgt := 68) hx hb dX5_leastDepth_61 (by decide) (fun _ => ?_) (fun h9 => absurd h9 (by decide))
            refine lv_bipush (v := (-5 : Int32)) hx hb dX5_leastDepth_68 (by decide) ?_
            obtain ⟨z_16, hz_16⟩ : ∃ z : CS, z = (va_up z_12 1 z_15) := ⟨_, rfl⟩
            have e0 : (z_16 0) = (z_12 0) := (congrFun hz_16 0).trans (va_up_n (by decide))
            have e1 : (z_16 1) = z_15 := (congrFun hz_16 1).trans va_up_s
            have e2 : (z_16 2) = (z_12 2) := (congrFun hz_16 2).trans (va_up_n (by decide))
            have e3 : (z_16 3) = (z_12 3) := (congrFun hz_16 3).trans (va_up_n (by decide))
            have e4 : (z_16 4) = (z_12 4) := (congrFun hz_16 4).trans (va_up_n (by decide))
            have e5 : (z_16 5) = (z_12 5) := (congrFun hz_16 5).trans (va_up_n (by decide))
            have e6 : (z_16 6) = (z_12 6) := (congrFun hz_16 6).trans (va_up_n (by decide))
            have hP : va_P D vwCl [((md 0), mdC md (z_16 0)), ((md 1), arC cI 96 (z_16 1)), ((md 2), arC cI 96 (z_16 2)), ((md 3), arC cI 96 (z_16 3)), ((md 4), arC cI 384 (z_16 4)), ((md 5), arC cI 96 (z_16 5)), ((md 6), arC cI 60 (z_16 6))] H := by rw [e0, e1, e2, e3, e4, e5, e6]; exact hP
            have hD : va_D A [((md 0), mdC md (z_16 0)), ((md 1), arC cI 96 (z_16 1)), ((md 2), arC cI 96 (z_16 2)), ((md 3), arC cI 96 (z_16 3)), ((md 4), arC cI 384 (z_16 4)), ((md 5), arC cI 96 (z_16 5)), ((md 6), arC cI 60 (z_16 6))] := by rw [e0, e1, e2, e3, e4, e5, e6]; exact hD
            clear e0 e1 e2 e3 e4 e5 e6
            have hr : (r_X5_leastDepth M a1) = (-5 : Int32) := by subst hz_16; exact hr
            have hp : (p_X5_leastDepth M a1) = z_16 := by subst hz_16; exact hp
            exact endI (v := (-5 : Int32)) hb hx hsg hr.symm (by rw [hp]; exact hP) (by rw [hp]; exact hD) hS dX5_leastDepth_70 hlocks
  · have hr := hr.trans (if_pos c9)
    have hp := hp.trans (if_pos c9)
    refine lv_bipush (v := (-2 : Int32)) hx hb dX5_leastDepth_12 (by decide) ?_
    exact endI (v := (-2 : Int32)) hb hx hsg hr.symm (by rw [hp]; exact hP) (by rw [hp]; exact hD) hS dX5_leastDepth_14 hlocks
