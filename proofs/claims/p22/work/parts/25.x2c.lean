def lp_X2_letPass_2 (a1 : Int32) : Nat → Int32 → CS → CS
  | 0, _, S1 => S1
  | fu + 1, i, S1 => (if a1 ≤ i then S1 else ((fun (z_1 : CS) => (lp_X2_letPass_2 a1 fu (i + (1 : Int32)) z_1)) (p_X2_step S1)))
def p_X2_letPass (S : CS) (a1 : Int32) : CS := (lp_X2_letPass_2 a1 ((a1.toInt - (0 : Int32).toInt).toNat + 1) (0 : Int32) S)
abbrev rm_X2_letPass : Room := { frames := 4, cells := 0, slots := 0, locals := 92 }
set_option maxHeartbeats 4000000 in
set_option maxRecDepth 100000 in
theorem c_X2_letPass (l : Launch) (D : va_G) (cI cC cS : ClassId) (ad : Nat → Nat) (S : CS) (a1 : Int32)  : CV l D cI cC cS yX2_letPass wsX2_letPass rm_X2_letPass [.ref (ad 0), .int a1] (stW cI ad S) (stW cI ad (p_X2_letPass S a1))  := by
  intro sz
  refine startC (cc := cX2_letPass) (maxL := 3) (ret := none) (by decide) rfl (Nat.le_of_ble_eq_true rfl) ?_
  intro p e s m args below meth c hx hb hml hsg hts hown hlocks hin hK A hA hS hP hD ls hl
  have hown : s.vm.findClass RX2 = some m.cls := hown
  have hl : lv_has ls 3 [(0, .ref (ad 0)), (1, .int a1)] := hl
  have hP : va_P D vwCl [((ad 0), stC ad (S 0)), ((ad 1), sdC (S 1)), ((ad 2), sdC (S 2)), ((ad 3), arC cI 16 (S 3)), ((ad 4), arC cI 16 (S 4)), ((ad 5), arC cI 20 (S 5)), ((ad 6), arC cI 16 (S 6))] s.heap := hP
  have hD : va_D A [((ad 0), stC ad (S 0)), ((ad 1), sdC (S 1)), ((ad 2), sdC (S 2)), ((ad 3), arC cI 16 (S 3)), ((ad 4), arC cI 16 (S 4)), ((ad 5), arC cI 20 (S 5)), ((ad 6), arC cI 16 (S 6))] := hD
  have hp : (p_X2_letPass S a1) = (lp_X2_letPass_2 a1 ((a1.toInt - (0 : Int32).toInt).toNat + 1) (0 : Int32) S) := rfl
  refine lv_iconst (v := (0 : Int32)) hx hb dX2_letPass_0 (by decide) ?_
  refine lv_istore_n (lv' := [(2, .int (0 : Int32)), (0, .ref (ad 0)), (1, .int a1)]) hx hb dX2_letPass_1 rfl hl (by decide) rfl (fun ls hl => ?_)
  have L_2 : ∀ (fu : Nat) (i : Int32) (S1 : CS) (H : Heap) (locs : List Loc), (a1.toInt - i.toInt < (fu : Int) ∧ 0 < fu) → (p_X2_letPass S a1) = (lp_X2_letPass_2 a1 fu i S1) → va_P D vwCl [((ad 0), stC ad (S1 0)), ((ad 1), sdC (S1 1)), ((ad 2), sdC (S1 2)), ((ad 3), arC cI 16 (S1 3)), ((ad 4), arC cI 16 (S1 4)), ((ad 5), arC cI 20 (S1 5)), ((ad 6), arC cI 16 (S1 6))] H → va_D A [((ad 0), stC ad (S1 0)), ((ad 1), sdC (S1 1)), ((ad 2), sdC (S1 2)), ((ad 3), arC cI 16 (S1 3)), ((ad 4), arC cI 16 (S1 4)), ((ad 5), arC cI 20 (S1 5)), ((ad 6), arC cI 16 (S1 6))] → va_S A s.heap H locs → ∀ ls, lv_has ls 3 [(0, .ref (ad 0)), (1, .int a1), (2, .int i)] → W p l e rm_X2_letPass s m args below meth c H locs 0 0 (MQ below (QV D (stW cI ad (p_X2_letPass S a1)) A) args s 0 0 A) (F0 m 2 ls []) := by
    intro fu
    induction fu with
    | zero => intro i S1 H locs hm; exact absurd hm.2 (Nat.lt_irrefl 0)
    | succ fu ih_2 =>
      intro i S1 H locs hm  hp hP hD hS ls hl
      have hp : (p_X2_letPass S a1) = (if a1 ≤ i then S1 else ((fun (z_1 : CS) => (lp_X2_letPass_2 a1 fu (i + (1 : Int32)) z_1)) (p_X2_step S1))) := hp
      refine lv_iload_n hx hb dX2_letPass_2 rfl (lv_at hl 2 rfl) ?_
      refine lv_iload_n hx hb dX2_letPass_3 rfl (lv_at hl 1 rfl) ?_
      refine lv_icmp_ge (tgt := 17) hx hb dX2_letPass_4 (by decide) (fun c4 => ?_) (fun c4 => ?_)
      · have hp := hp.trans (if_pos c4)
        exact endV hb hx hsg (by rw [hp]; exact hP) (by rw [hp]; exact hD) hS dX2_letPass_17 hlocks
      · have hp := hp.trans (if_neg c4)
        refine lv_aload_n hx hb dX2_letPass_7 rfl (lv_at hl 0 rfl) ?_
        refine goV (n := 7) (ws' := [((ad 0), stC ad ((p_X2_step S1) 0)), ((ad 1), sdC ((p_X2_step S1) 1)), ((ad 2), sdC ((p_X2_step S1) 2)), ((ad 3), arC cI 16 ((p_X2_step S1) 3)), ((ad 4), arC cI 16 ((p_X2_step S1) 4)), ((ad 5), arC cI 20 ((p_X2_step S1) 5)), ((ad 6), arC cI 16 ((p_X2_step S1) 6))]) (rs := []) (va_runV (As := []) (rest := []) ⟨hx, hb, hml, hown, hts⟩ (c_X2_step l D cI cC cS ad S1  _) (cwV 0 hts gX2_letPass_X2_step rfl rfl rfl (by decide +kernel) ⟨Nat.le_of_ble_eq_true rfl, Nat.le_of_ble_eq_true rfl⟩) (preV hK hP hD [0, 1, 2, 3, 4, 5, 6] (by decide) rfl 0 2 rfl rfl) rfl rfl hl.1 rfl (lv_room (Nat.le_of_ble_eq_true rfl)) dX2_letPass_8 ⟨Nat.zero_le _, Nat.zero_le _⟩) hP hD hS hA [0, 1, 2, 3, 4, 5, 6] [] rfl rfl rfl rfl rfl (by decide +kernel) (fstE (as := [(ad 0), (ad 1), (ad 2), (ad 3), (ad 4), (ad 5), (ad 6)]) rfl rfl) (fun H locs hP hD hS => ?_)
        obtain ⟨z_1, hz_1⟩ : ∃ z : CS, z = (p_X2_step S1) := ⟨_, rfl⟩
        rw [← hz_1] at hP hD
        have hp : (p_X2_letPass S a1) = (lp_X2_letPass_2 a1 fu (i + (1 : Int32)) z_1) := by subst hz_1; exact hp
        refine lv_iinc (v := (i + (1 : Int32))) (lv' := [(2, .int (i + (1 : Int32))), (0, .ref (ad 0)), (1, .int a1)]) hx hb dX2_letPass_11 hl (k := 2) rfl rfl (by decide) rfl (fun ls hl => ?_)
        refine lv_goto (tgt := 2) hx hb dX2_letPass_14 (by decide) ?_
        exact ih_2 (i + (1 : Int32)) z_1 _ _ (by subst hz_1; exact (cnt_step c4 hm)) hp hP hD hS ls (lv_sub hl [1, 2, 0] rfl)
  exact L_2 _ (0 : Int32) S _ _ (cnt_init _ _) hp hP hD hS ls (lv_sub hl [1, 2, 0] rfl)
def lr_X2_stallsWithin_2 (a1 : Int32) : Nat → Int32 → CS → Int32
  | 0, _, _ => 0
  | fu + 1, i, S1 => (if a1 ≤ i then (0 : Int32) else (if (r_X1_ticksAt (S1 1) (((S1 0) 2) + (1 : Int32))) = (0 : Int32) then ((fun (z_1 : CS) => (lr_X2_stallsWithin_2 a1 fu (i + (1 : Int32)) z_1)) (p_X2_step S1)) else (if ((S1 0) 10) ≤ (0 : Int32) then ((fun (z_2 : CS) => (lr_X2_stallsWithin_2 a1 fu (i + (1 : Int32)) z_2)) (p_X2_step S1)) else (if (r_X2_seemsFull S1) = (0 : Int32) then ((fun (z_3 : CS) => (lr_X2_stallsWithin_2 a1 fu (i + (1 : Int32)) z_3)) (p_X2_step S1)) else (1 : Int32)))))
def lp_X2_stallsWithin_2 (a1 : Int32) : Nat → Int32 → CS → CS
  | 0, _, S1 => S1
  | fu + 1, i, S1 => (if a1 ≤ i then S1 else (if (r_X1_ticksAt (S1 1) (((S1 0) 2) + (1 : Int32))) = (0 : Int32) then ((fun (z_1 : CS) => (lp_X2_stallsWithin_2 a1 fu (i + (1 : Int32)) z_1)) (p_X2_step S1)) else (if ((S1 0) 10) ≤ (0 : Int32) then ((fun (z_2 : CS) => (lp_X2_stallsWithin_2 a1 fu (i + (1 : Int32)) z_2)) (p_X2_step S1)) else (if (r_X2_seemsFull S1) = (0 : Int32) then ((fun (z_3 : CS) => (lp_X2_stallsWithin_2 a1 fu (i + (1 : Int32)) z_3)) (p_X2_step S1)) else S1))))
def r_X2_stallsWithin (S : CS) (a1 : Int32) : Int32 := (lr_X2_stallsWithin_2 a1 ((a1.toInt - (0 : Int32).toInt).toNat + 1) (0 : Int32) S)
def p_X2_stallsWithin (S : CS) (a1 : Int32) : CS := (lp_X2_stallsWithin_2 a1 ((a1.toInt - (0 : Int32).toInt).toNat + 1) (0 : Int32) S)
abbrev rm_X2_stallsWithin : Room := { frames := 4, cells := 0, slots := 0, locals := 92 }
set_option maxHeartbeats 4000000 in
set_option maxRecDepth 100000 in
theorem c_X2_stallsWithin (l : Launch) (D : va_G) (cI cC cS : ClassId) (ad : Nat → Nat) (S : CS) (a1 : Int32)  : CI l D cI cC cS yX2_stallsWithin wsX2_stallsWithin rm_X2_stallsWithin [.ref (ad 0), .int a1] (stW cI ad S) (stW cI ad (p_X2_stallsWithin S a1)) (r_X2_stallsWithin S a1) := by
  intro sz
  refine startC (cc := cX2_stallsWithin) (maxL := 3) (ret := (some .boolean)) (by decide) rfl (Nat.le_of_ble_eq_true rfl) ?_
  intro p e s m args below meth c hx hb hml hsg hts hown hlocks hin hK A hA hS hP hD ls hl
  have hown : s.vm.findClass RX2 = some m.cls := hown
  have hl : lv_has ls 3 [(0, .ref (ad 0)), (1, .int a1)] := hl
  have hP : va_P D vwCl [((ad 0), stC ad (S 0)), ((ad 1), sdC (S 1)), ((ad 2), sdC (S 2)), ((ad 3), arC cI 16 (S 3)), ((ad 4), arC cI 16 (S 4)), ((ad 5), arC cI 20 (S 5)), ((ad 6), arC cI 16 (S 6))] s.heap := hP
  have hD : va_D A [((ad 0), stC ad (S 0)), ((ad 1), sdC (S 1)), ((ad 2), sdC (S 2)), ((ad 3), arC cI 16 (S 3)), ((ad 4), arC cI 16 (S 4)), ((ad 5), arC cI 20 (S 5)), ((ad 6), arC cI 16 (S 6))] := hD
  have inX2 : ∀ w ∈ wsX20, w ∈ wsX2_stallsWithin := fun _ h => List.mem_cons_of_mem _ (List.mem_append_left _ (List.mem_append_right _ h))
  have hr : (r_X2_stallsWithin S a1) = (lr_X2_stallsWithin_2 a1 ((a1.toInt - (0 : Int32).toInt).toNat + 1) (0 : Int32) S) := rfl
  have hp : (p_X2_stallsWithin S a1) = (lp_X2_stallsWithin_2 a1 ((a1.toInt - (0 : Int32).toInt).toNat + 1) (0 : Int32) S) := rfl
  refine lv_iconst (v := (0 : Int32)) hx hb dX2_stallsWithin_0 (by decide) ?_
  refine lv_istore_n (lv' := [(2, .int (0 : Int32)), (0, .ref (ad 0)), (1, .int a1)]) hx hb dX2_stallsWithin_1 rfl hl (by decide) rfl (fun ls hl => ?_)
  have L_2 : ∀ (fu : Nat) (i : Int32) (S1 : CS) (H : Heap) (locs : List Loc), (a1.toInt - i.toInt < (fu : Int) ∧ 0 < fu) → (r_X2_stallsWithin S a1) = (lr_X2_stallsWithin_2 a1 fu i S1) → (p_X2_stallsWithin S a1) = (lp_X2_stallsWithin_2 a1 fu i S1) → va_P D vwCl [((ad 0), stC ad (S1 0)), ((ad 1), sdC (S1 1)), ((ad 2), sdC (S1 2)), ((ad 3), arC cI 16 (S1 3)), ((ad 4), arC cI 16 (S1 4)), ((ad 5), arC cI 20 (S1 5)), ((ad 6), arC cI 16 (S1 6))] H → va_D A [((ad 0), stC ad (S1 0)), ((ad 1), sdC (S1 1)), ((ad 2), sdC (S1 2)), ((ad 3), arC cI 16 (S1 3)), ((ad 4), arC cI 16 (S1 4)), ((ad 5), arC cI 20 (S1 5)), ((ad 6), arC cI 16 (S1 6))] → va_S A s.heap H locs → ∀ ls, lv_has ls 3 [(0, .ref (ad 0)), (1, .int a1), (2, .int i)] → W p l e rm_X2_stallsWithin s m args below meth c H locs 0 0 (MQ below (QI D (stW cI ad (p_X2_stallsWithin S a1)) (r_X2_stallsWithin S a1) A) args s 0 0 A) (F0 m 2 ls []) := by
    intro fu
    induction fu with
    | zero => intro i S1 H locs hm; exact absurd hm.2 (Nat.lt_irrefl 0)
    | succ fu ih_2 =>
      intro i S1 H locs hm  hr hp hP hD hS ls hl
      have hr : (r_X2_stallsWithin S a1) = (if a1 ≤ i then (0 : Int32) else (if (r_X1_ticksAt (S1 1) (((S1 0) 2) + (1 : Int32))) = (0 : Int32) then ((fun (z_1 : CS) => (lr_X2_stallsWithin_2 a1 fu (i + (1 : Int32)) z_1)) (p_X2_step S1)) else (if ((S1 0) 10) ≤ (0 : Int32) then ((fun (z_2 : CS) => (lr_X2_stallsWithin_2 a1 fu (i + (1 : Int32)) z_2)) (p_X2_step S1)) else (if (r_X2_seemsFull S1) = (0 : Int32) then ((fun (z_3 : CS) => (lr_X2_stallsWithin_2 a1 fu (i + (1 : Int32)) z_3)) (p_X2_step S1)) else (1 : Int32))))) := hr
      have hp : (p_X2_stallsWithin S a1) = (if a1 ≤ i then S1 else (if (r_X1_ticksAt (S1 1) (((S1 0) 2) + (1 : Int32))) = (0 : Int32) then ((fun (z_1 : CS) => (lp_X2_stallsWithin_2 a1 fu (i + (1 : Int32)) z_1)) (p_X2_step S1)) else (if ((S1 0) 10) ≤ (0 : Int32) then ((fun (z_2 : CS) => (lp_X2_stallsWithin_2 a1 fu (i + (1 : Int32)) z_2)) (p_X2_step S1)) else (if (r_X2_seemsFull S1) = (0 : Int32) then ((fun (z_3 : CS) => (lp_X2_stallsWithin_2 a1 fu (i + (1 : Int32)) z_3)) (p_X2_step S1)) else S1)))) := hp
      refine lv_iload_n hx hb dX2_stallsWithin_2 rfl (lv_at hl 2 rfl) ?_
      refine lv_iload_n hx hb dX2_stallsWithin_3 rfl (lv_at hl 1 rfl) ?_
      refine lv_icmp_ge (tgt := 49) hx hb dX2_stallsWithin_4 (by decide) (fun c4 => ?_) (fun c4 => ?_)
      · have hr := hr.trans (if_pos c4)
        have hp := hp.trans (if_pos c4)
        refine lv_iconst (v := (0 : Int32)) hx hb dX2_stallsWithin_49 (by decide) ?_
        exact endZ (v := (0 : Int32)) hb hx hsg rfl hr.symm (by rw [hp]; exact hP) (by rw [hp]; exact hD) hS dX2_stallsWithin_50 hlocks
      · have hr := hr.trans (if_neg c4)
        have hp := hp.trans (if_neg c4)
        refine lv_aload_n hx hb dX2_stallsWithin_7 rfl (lv_at hl 0 rfl) ?_
        refine va_get (D := D) (ci := 2) (v := .ref (ad 1)) (C := RX2) (T := TX2) (N := 15) hx hb hts inX2 hown hK.1 hP 0 rfl rfl 5 (by decide) (hts (.fieldLink RX2 30 "GrayPointers$State" "writer" "LGrayPointers$Side;") (List.mem_of_getElem? (i := 1) rfl)) (fun _ h9 => h9) rfl dX2_stallsWithin_8 ?_
        refine lv_aload_n hx hb dX2_stallsWithin_11 rfl (lv_at hl 0 rfl) ?_
        refine va_get (D := D) (ci := 2) (v := .int ((S1 0) 2)) (C := RX2) (T := TX2) (N := 15) hx hb hts inX2 hown hK.1 hP 0 rfl rfl 2 (by decide) (hts (.fieldLink RX2 96 "GrayPointers$State" "time" "I") (List.mem_of_getElem? (i := 2) rfl)) (fun _ h9 => h9) rfl dX2_stallsWithin_12 ?_
        refine lv_iconst (v := (1 : Int32)) hx hb dX2_stallsWithin_15 (by decide) ?_
        refine lv_iadd hx hb dX2_stallsWithin_16 ?_
        refine goI (n := 7) (ws' := [((ad 0), stC ad (S1 0)), ((ad 1), sdC (S1 1)), ((ad 2), sdC (S1 2)), ((ad 3), arC cI 16 (S1 3)), ((ad 4), arC cI 16 (S1 4)), ((ad 5), arC cI 20 (S1 5)), ((ad 6), arC cI 16 (S1 6))]) (rs := [((ad 0), stC ad (S1 0)), ((ad 2), sdC (S1 2)), ((ad 3), arC cI 16 (S1 3)), ((ad 4), arC cI 16 (S1 4)), ((ad 5), arC cI 20 (S1 5)), ((ad 6), arC cI 16 (S1 6))]) (va_runV (As := [.int (((S1 0) 2) + (1 : Int32))]) (rest := []) ⟨hx, hb, hml, hown, hts⟩ (c_X1_ticksAt l D cI cC cS (ad 1) (S1 1) (((S1 0) 2) + (1 : Int32))  _) (cwV 1 hts gX2_stallsWithin_X1_ticksAt rfl rfl rfl (by decide +kernel) ⟨Nat.le_of_ble_eq_true rfl, Nat.le_of_ble_eq_true rfl⟩) (preV hK hP hD [1] (by decide) rfl 1 1 rfl rfl) rfl rfl hl.1 rfl (lv_room (Nat.le_of_ble_eq_true rfl)) dX2_stallsWithin_17 ⟨Nat.zero_le _, Nat.zero_le _⟩) hP hD hS hA [1] [0, 2, 3, 4, 5, 6] rfl rfl rfl rfl rfl (by decide +kernel) rfl (fun H locs hP hD hS => ?_)
        refine lv_if_eq (tgt := 39) hx hb dX2_stallsWithin_20 (by decide) (fun c20 => ?_) (fun c20 => ?_)
        · have hr := hr.trans (if_pos c20)
          have hp := hp.trans (if_pos c20)
          refine lv_aload_n hx hb dX2_stallsWithin_39 rfl (lv_at hl 0 rfl) ?_
          refine goV (n := 7) (ws' := [((ad 0), stC ad ((p_X2_step S1) 0)), ((ad 1), sdC ((p_X2_step S1) 1)), ((ad 2), sdC ((p_X2_step S1) 2)), ((ad 3), arC cI 16 ((p_X2_step S1) 3)), ((ad 4), arC cI 16 ((p_X2_step S1) 4)), ((ad 5), arC cI 20 ((p_X2_step S1) 5)), ((ad 6), arC cI 16 ((p_X2_step S1) 6))]) (rs := []) (va_runV (As := []) (rest := []) ⟨hx, hb, hml, hown, hts⟩ (c_X2_step l D cI cC cS ad S1  _) (cwV 0 hts gX2_stallsWithin_X2_step rfl rfl rfl (by decide +kernel) ⟨Nat.le_of_ble_eq_true rfl, Nat.le_of_ble_eq_true rfl⟩) (preV hK hP hD [0, 1, 2, 3, 4, 5, 6] (by decide) rfl 0 2 rfl rfl) rfl rfl hl.1 rfl (lv_room (Nat.le_of_ble_eq_true rfl)) dX2_stallsWithin_40 ⟨Nat.zero_le _, Nat.zero_le _⟩) hP hD hS hA [0, 1, 2, 3, 4, 5, 6] [] rfl rfl rfl rfl rfl (by decide +kernel) (fstE (as := [(ad 0), (ad 1), (ad 2), (ad 3), (ad 4), (ad 5), (ad 6)]) rfl rfl) (fun H locs hP hD hS => ?_)
          obtain ⟨z_1, hz_1⟩ : ∃ z : CS, z = (p_X2_step S1) := ⟨_, rfl⟩
          rw [← hz_1] at hP hD
          have hr : (r_X2_stallsWithin S a1) = (lr_X2_stallsWithin_2 a1 fu (i + (1 : Int32)) z_1) := by subst hz_1; exact hr
          have hp : (p_X2_stallsWithin S a1) = (lp_X2_stallsWithin_2 a1 fu (i + (1 : Int32)) z_1) := by subst hz_1; exact hp
          refine lv_iinc (v := (i + (1 : Int32))) (lv' := [(2, .int (i + (1 : Int32))), (0, .ref (ad 0)), (1, .int a1)]) hx hb dX2_stallsWithin_43 hl (k := 2) rfl rfl (by decide) rfl (fun ls hl => ?_)
          refine lv_goto (tgt := 2) hx hb dX2_stallsWithin_46 (by decide) ?_
          exact ih_2 (i + (1 : Int32)) z_1 _ _ (by subst hz_1; exact (cnt_step c4 hm)) hr hp hP hD hS ls (lv_sub hl [1, 2, 0] rfl)
        · have hr := hr.trans (if_neg c20)
          have hp := hp.trans (if_neg c20)
          refine lv_aload_n hx hb dX2_stallsWithin_23 rfl (lv_at hl 0 rfl) ?_
          refine va_get (D := D) (ci := 2) (v := .int ((S1 0) 10)) (C := RX2) (T := TX2) (N := 15) hx hb hts inX2 hown hK.1 hP 0 rfl rfl 10 (by decide) (hts (.fieldLink RX2 89 "GrayPointers$State" "waitCount" "I") (List.mem_of_getElem? (i := 3) rfl)) (fun _ h9 => h9) rfl dX2_stallsWithin_24 ?_
          refine lv_if_le (tgt := 39) hx hb dX2_stallsWithin_27 (by decide) (fun c27 => ?_) (fun c27 => ?_)
          · have hr := hr.trans (if_pos c27)
            have hp := hp.trans (if_pos c27)
            refine lv_aload_n hx hb dX2_stallsWithin_39 rfl (lv_at hl 0 rfl) ?_
            refine goV (n := 7) (ws' := [((ad 0), stC ad ((p_X2_step S1) 0)), ((ad 1), sdC ((p_X2_step S1) 1)), ((ad 2), sdC ((p_X2_step S1) 2)), ((ad 3), arC cI 16 ((p_X2_step S1) 3)), ((ad 4), arC cI 16 ((p_X2_step S1) 4)), ((ad 5), arC cI 20 ((p_X2_step S1) 5)), ((ad 6), arC cI 16 ((p_X2_step S1) 6))]) (rs := []) (va_runV (As := []) (rest := []) ⟨hx, hb, hml, hown, hts⟩ (c_X2_step l D cI cC cS ad S1  _) (cwV 0 hts gX2_stallsWithin_X2_step rfl rfl rfl (by decide +kernel) ⟨Nat.le_of_ble_eq_true rfl, Nat.le_of_ble_eq_true rfl⟩) (preV hK hP hD [0, 1, 2, 3, 4, 5, 6] (by decide) rfl 0 2 rfl rfl) rfl rfl hl.1 rfl (lv_room (Nat.le_of_ble_eq_true rfl)) dX2_stallsWithin_40 ⟨Nat.zero_le _, Nat.zero_le _⟩) hP hD hS hA [0, 1, 2, 3, 4, 5, 6] [] rfl rfl rfl rfl rfl (by decide +kernel) (fstE (as := [(ad 0), (ad 1), (ad 2), (ad 3), (ad 4), (ad 5), (ad 6)]) rfl rfl) (fun H locs hP hD hS => ?_)
            obtain ⟨z_2, hz_2⟩ : ∃ z : CS, z = (p_X2_step S1) := ⟨_, rfl⟩
            rw [← hz_2] at hP hD
            have hr : (r_X2_stallsWithin S a1) = (lr_X2_stallsWithin_2 a1 fu (i + (1 : Int32)) z_2) := by subst hz_2; exact hr
            have hp : (p_X2_stallsWithin S a1) = (lp_X2_stallsWithin_2 a1 fu (i + (1 : Int32)) z_2) := by subst hz_2; exact hp
            refine lv_iinc (v := (i + (1 : Int32))) (lv' := [(2, .int (i + (1 : Int32))), (0, .ref (ad 0)), (1, .int a1)]) hx hb dX2_stallsWithin_43 hl (k := 2) rfl rfl (by decide) rfl (fun ls hl => ?_)
            refine lv_goto (tgt := 2) hx hb dX2_stallsWithin_46 (by decide) ?_
            exact ih_2 (i + (1 : Int32)) z_2 _ _ (by subst hz_2; exact (cnt_step c4 hm)) hr hp hP hD hS ls (lv_sub hl [1, 2, 0] rfl)
          · have hr := hr.trans (if_neg c27)
            have hp := hp.trans (if_neg c27)
            refine lv_aload_n hx hb dX2_stallsWithin_30 rfl (lv_at hl 0 rfl) ?_
            refine goI (n := 7) (ws' := [((ad 0), stC ad (S1 0)), ((ad 1), sdC (S1 1)), ((ad 2), sdC (S1 2)), ((ad 3), arC cI 16 (S1 3)), ((ad 4), arC cI 16 (S1 4)), ((ad 5), arC cI 20 (S1 5)), ((ad 6), arC cI 16 (S1 6))]) (rs := []) (va_runV (As := []) (rest := []) ⟨hx, hb, hml, hown, hts⟩ (c_X2_seemsFull l D cI cC cS ad S1  _) (cwV 0 hts gX2_stallsWithin_X2_seemsFull rfl rfl rfl (by decide +kernel) ⟨Nat.le_of_ble_eq_true rfl, Nat.le_of_ble_eq_true rfl⟩) (preV hK hP hD [0, 1, 2, 3, 4, 5, 6] (by decide) rfl 0 2 rfl rfl) rfl rfl hl.1 rfl (lv_room (Nat.le_of_ble_eq_true rfl)) dX2_stallsWithin_31 ⟨Nat.zero_le _, Nat.zero_le _⟩) hP hD hS hA [0, 1, 2, 3, 4, 5, 6] [] rfl rfl rfl rfl rfl (by decide +kernel) rfl (fun H locs hP hD hS => ?_)
            refine lv_if_eq (tgt := 39) hx hb dX2_stallsWithin_34 (by decide) (fun c34 => ?_) (fun c34 => ?_)
            · have hr := hr.trans (if_pos c34)
              have hp := hp.trans (if_pos c34)
              refine lv_aload_n hx hb dX2_stallsWithin_39 rfl (lv_at hl 0 rfl) ?_
              refine goV (n := 7) (ws' := [((ad 0), stC ad ((p_X2_step S1) 0)), ((ad 1), sdC ((p_X2_step S1) 1)), ((ad 2), sdC ((p_X2_step S1) 2)), ((ad 3), arC cI 16 ((p_X2_step S1) 3)), ((ad 4), arC cI 16 ((p_X2_step S1) 4)), ((ad 5), arC cI 20 ((p_X2_step S1) 5)), ((ad 6), arC cI 16 ((p_X2_step S1) 6))]) (rs := []) (va_runV (As := []) (rest := []) ⟨hx, hb, hml, hown, hts⟩ (c_X2_step l D cI cC cS ad S1  _) (cwV 0 hts gX2_stallsWithin_X2_step rfl rfl rfl (by decide +kernel) ⟨Nat.le_of_ble_eq_true rfl, Nat.le_of_ble_eq_true rfl⟩) (preV hK hP hD [0, 1, 2, 3, 4, 5, 6] (by decide) rfl 0 2 rfl rfl) rfl rfl hl.1 rfl (lv_room (Nat.le_of_ble_eq_true rfl)) dX2_stallsWithin_40 ⟨Nat.zero_le _, Nat.zero_le _⟩) hP hD hS hA [0, 1, 2, 3, 4, 5, 6] [] rfl rfl rfl rfl rfl (by decide +kernel) (fstE (as := [(ad 0), (ad 1), (ad 2), (ad 3), (ad 4), (ad 5), (ad 6)]) rfl rfl) (fun H locs hP hD hS => ?_)
              obtain ⟨z_3, hz_3⟩ : ∃ z : CS, z = (p_X2_step S1) := ⟨_, rfl⟩
              rw [← hz_3] at hP hD
              have hr : (r_X2_stallsWithin S a1) = (lr_X2_stallsWithin_2 a1 fu (i + (1 : Int32)) z_3) := by subst hz_3; exact hr
              have hp : (p_X2_stallsWithin S a1) = (lp_X2_stallsWithin_2 a1 fu (i + (1 : Int32)) z_3) := by subst hz_3; exact hp
              refine lv_iinc (v := (i + (1 : Int32))) (lv' := [(2, .int (i + (1 : Int32))), (0, .ref (ad 0)), (1, .int a1)]) hx hb dX2_stallsWithin_43 hl (k := 2) rfl rfl (by decide) rfl (fun ls hl => ?_)
              refine lv_goto (tgt := 2) hx hb dX2_stallsWithin_46 (by decide) ?_
              exact ih_2 (i + (1 : Int32)) z_3 _ _ (by subst hz_3; exact (cnt_step c4 hm)) hr hp hP hD hS ls (lv_sub hl [1, 2, 0] rfl)
            · have hr := hr.trans (if_neg c34)
              have hp := hp.trans (if_neg c34)
              refine lv_iconst (v := (1 : Int32)) hx hb dX2_stallsWithin_37 (by decide) ?_
              exact endZ (v := (1 : Int32)) hb hx hsg rfl hr.symm (by rw [hp]; exact hP) (by rw [hp]; exact hD) hS dX2_stallsWithin_38 hlocks
  exact L_2 _ (0 : Int32) S _ _ (cnt_init _ _) hr hp hP hD hS ls (lv_sub hl [1, 2, 0] rfl)
def lr_X2_follow_2 (T : CS) : Nat → Int32 → CS → Int32
  | 0, _, _ => 0
  | fu + 1, i, S1 => (if ((T 0) 4) ≤ i then (1 : Int32) else (if (r_X4_valueAt (T 2) i 30) = (-1 : Int32) then (if (r_X2_hasTimeFor S1 (r_X4_valueAt (T 3) i 30)) = (0 : Int32) then (0 : Int32) else ((fun (z_1 : CS) => (lr_X2_follow_2 T fu (i + (1 : Int32)) z_1)) (p_X2_letPass S1 (r_X4_valueAt (T 3) i 30)))) else ((fun (z_2 : CS) => (if (r_X2_letWait S1 (r_X4_valueAt (T 2) i 30) (r_X4_valueAt (T 3) i 30)) = (0 : Int32) then (0 : Int32) else (lr_X2_follow_2 T fu (i + (1 : Int32)) z_2))) (p_X2_letWait S1 (r_X4_valueAt (T 2) i 30) (r_X4_valueAt (T 3) i 30)))))
def lp_X2_follow_2 (T : CS) : Nat → Int32 → CS → CS
  | 0, _, S1 => S1
  | fu + 1, i, S1 => (if ((T 0) 4) ≤ i then S1 else (if (r_X4_valueAt (T 2) i 30) = (-1 : Int32) then (if (r_X2_hasTimeFor S1 (r_X4_valueAt (T 3) i 30)) = (0 : Int32) then S1 else ((fun (z_1 : CS) => (lp_X2_follow_2 T fu (i + (1 : Int32)) z_1)) (p_X2_letPass S1 (r_X4_valueAt (T 3) i 30)))) else ((fun (z_2 : CS) => (if (r_X2_letWait S1 (r_X4_valueAt (T 2) i 30) (r_X4_valueAt (T 3) i 30)) = (0 : Int32) then z_2 else (lp_X2_follow_2 T fu (i + (1 : Int32)) z_2))) (p_X2_letWait S1 (r_X4_valueAt (T 2) i 30) (r_X4_valueAt (T 3) i 30)))))
def r_X2_follow (S : CS) (T : CS) : Int32 := (lr_X2_follow_2 T ((((T 0) 4).toInt - (0 : Int32).toInt).toNat + 1) (0 : Int32) S)
def p_X2_follow (S : CS) (T : CS) : CS := (lp_X2_follow_2 T ((((T 0) 4).toInt - (0 : Int32).toInt).toNat + 1) (0 : Int32) S)
abbrev rm_X2_follow : Room := { frames := 5, cells := 0, slots := 0, locals := 114 }
set_option maxHeartbeats 4000000 in
set_option maxRecDepth 100000 in
theorem c_X2_follow (l : Launch) (D : va_G) (cI cC cS : ClassId) (ad : Nat → Nat) (td : Nat → Nat) (S : CS) (T : CS)  : CI l D cI cC cS yX2_follow wsX2_follow rm_X2_follow [.ref (ad 0), .ref (td 0)] (stW cI ad S ++ txW cI cC td T) (stW cI ad (p_X2_follow S T) ++ txW cI cC td T) (r_X2_follow S T) := by
  intro sz
  refine startC (cc := cX2_follow) (maxL := 5) (ret := (some .boolean)) (by decide) rfl (Nat.le_of_ble_eq_true rfl) ?_
  intro p e s m args below meth c hx hb hml hsg hts hown hlocks hin hK A hA hS hP hD ls hl
  have hown : s.vm.findClass RX2 = some m.cls := hown
  have hl : lv_has ls 5 [(0, .ref (ad 0)), (1, .ref (td 0))] := hl
  have hP : va_P D vwCl [((ad 0), stC ad (S 0)), ((ad 1), sdC (S 1)), ((ad 2), sdC (S 2)), ((ad 3), arC cI 16 (S 3)), ((ad 4), arC cI 16 (S 4)), ((ad 5), arC cI 20 (S 5)), ((ad 6), arC cI 16 (S 6)), ((td 0), txC td (T 0)), ((td 1), arC cC 60 (T 1)), ((td 2), arC cI 30 (T 2)), ((td 3), arC cI 30 (T 3))] s.heap := hP
  have hD : va_D A [((ad 0), stC ad (S 0)), ((ad 1), sdC (S 1)), ((ad 2), sdC (S 2)), ((ad 3), arC cI 16 (S 3)), ((ad 4), arC cI 16 (S 4)), ((ad 5), arC cI 20 (S 5)), ((ad 6), arC cI 16 (S 6)), ((td 0), txC td (T 0)), ((td 1), arC cC 60 (T 1)), ((td 2), arC cI 30 (T 2)), ((td 3), arC cI 30 (T 3))] := hD
  have inX3 : ∀ w ∈ wsX30, w ∈ wsX2_follow := fun _ h => List.mem_cons_of_mem _ (List.mem_append_left _ (List.mem_append_left _ (List.mem_append_right _ h)))
  have hr : (r_X2_follow S T) = (lr_X2_follow_2 T ((((T 0) 4).toInt - (0 : Int32).toInt).toNat + 1) (0 : Int32) S) := rfl
  have hp : (p_X2_follow S T) = (lp_X2_follow_2 T ((((T 0) 4).toInt - (0 : Int32).toInt).toNat + 1) (0 : Int32) S) := rfl
  refine lv_iconst (v := (0 : Int32)) hx hb dX2_follow_0 (by decide) ?_
  refine lv_istore_n (lv' := [(2, .int (0 : Int32)), (0, .ref (ad 0)), (1, .ref (td 0))]) hx hb dX2_follow_1 rfl hl (by decide) rfl (fun ls hl => ?_)
  have L_2 : ∀ (fu : Nat) (i : Int32) (S1 : CS) (H : Heap) (locs : List Loc), (((T 0) 4).toInt - i.toInt < (fu : Int) ∧ 0 < fu) → (r_X2_follow S T) = (lr_X2_follow_2 T fu i S1) → (p_X2_follow S T) = (lp_X2_follow_2 T fu i S1) → va_P D vwCl [((ad 0), stC ad (S1 0)), ((ad 1), sdC (S1 1)), ((ad 2), sdC (S1 2)), ((ad 3), arC cI 16 (S1 3)), ((ad 4), arC cI 16 (S1 4)), ((ad 5), arC cI 20 (S1 5)), ((ad 6), arC cI 16 (S1 6)), ((td 0), txC td (T 0)), ((td 1), arC cC 60 (T 1)), ((td 2), arC cI 30 (T 2)), ((td 3), arC cI 30 (T 3))] H → va_D A [((ad 0), stC ad (S1 0)), ((ad 1), sdC (S1 1)), ((ad 2), sdC (S1 2)), ((ad 3), arC cI 16 (S1 3)), ((ad 4), arC cI 16 (S1 4)), ((ad 5), arC cI 20 (S1 5)), ((ad 6), arC cI 16 (S1 6)), ((td 0), txC td (T 0)), ((td 1), arC cC 60 (T 1)), ((td 2), arC cI 30 (T 2)), ((td 3), arC cI 30 (T 3))] → va_S A s.heap H locs → ∀ ls, lv_has ls 5 [(0, .ref (ad 0)), (1, .ref (td 0)), (2, .int i)] → W p l e rm_X2_follow s m args below meth c H locs 0 0 (MQ below (QI D (stW cI ad (p_X2_follow S T) ++ txW cI cC td T) (r_X2_follow S T) A) args s 0 0 A) (F0 m 2 ls []) := by
    intro fu
    induction fu with
    | zero => intro i S1 H locs hm; exact absurd hm.2 (Nat.lt_irrefl 0)
    | succ fu ih_2 =>
      intro i S1 H locs hm  hr hp hP hD hS ls hl
      have hr : (r_X2_follow S T) = (if ((T 0) 4) ≤ i then (1 : Int32) else (if (r_X4_valueAt (T 2) i 30) = (-1 : Int32) then (if (r_X2_hasTimeFor S1 (r_X4_valueAt (T 3) i 30)) = (0 : Int32) then (0 : Int32) else ((fun (z_1 : CS) => (lr_X2_follow_2 T fu (i + (1 : Int32)) z_1)) (p_X2_letPass S1 (r_X4_valueAt (T 3) i 30)))) else ((fun (z_2 : CS) => (if (r_X2_letWait S1 (r_X4_valueAt (T 2) i 30) (r_X4_valueAt (T 3) i 30)) = (0 : Int32) then (0 : Int32) else (lr_X2_follow_2 T fu (i + (1 : Int32)) z_2))) (p_X2_letWait S1 (r_X4_valueAt (T 2) i 30) (r_X4_valueAt (T 3) i 30))))) := hr
      have hp : (p_X2_follow S T) = (if ((T 0) 4) ≤ i then S1 else (if (r_X4_valueAt (T 2) i 30) = (-1 : Int32) then (if (r_X2_hasTimeFor S1 (r_X4_valueAt (T 3) i 30)) = (0 : Int32) then S1 else ((fun (z_1 : CS) => (lp_X2_follow_2 T fu (i + (1 : Int32)) z_1)) (p_X2_letPass S1 (r_X4_valueAt (T 3) i 30)))) else ((fun (z_2 : CS) => (if (r_X2_letWait S1 (r_X4_valueAt (T 2) i 30) (r_X4_valueAt (T 3) i 30)) = (0 : Int32) then z_2 else (lp_X2_follow_2 T fu (i + (1 : Int32)) z_2))) (p_X2_letWait S1 (r_X4_valueAt (T 2) i 30) (r_X4_valueAt (T 3) i 30))))) := hp
      refine lv_iload_n hx hb dX2_follow_2 rfl (lv_at hl 2 rfl) ?_
      refine lv_aload_n hx hb dX2_follow_3 rfl (lv_at hl 1 rfl) ?_
      refine va_getN (D := D) (ci := 3) (v := .int ((T 0) 4)) (C := RX3) (T := TX3) (N := 6) hx hb hts inX3 hown hK.1 hP 7 rfl rfl 4 (by decide) (hK.nest 28 rfl _) (fun _ h9 => h9) rfl dX2_follow_4 ?_
      refine lv_icmp_ge (tgt := 72) hx hb dX2_follow_7 (by decide) (fun c7 => ?_) (fun c7 => ?_)
      · have hr := hr.trans (if_pos c7)
        have hp := hp.trans (if_pos c7)
        refine lv_iconst (v := (1 : Int32)) hx hb dX2_follow_72 (by decide) ?_
        exact endZ (v := (1 : Int32)) hb hx hsg rfl hr.symm (by rw [hp]; exact hP) (by rw [hp]; exact hD) hS dX2_follow_73 hlocks
      · have hr := hr.trans (if_neg c7)
        have hp := hp.trans (if_neg c7)
        refine lv_aload_n hx hb dX2_follow_10 rfl (lv_at hl 1 rfl) ?_
        refine va_getN (D := D) (ci := 3) (v := .ref (td 2)) (C := RX3) (T := TX3) (N := 6) hx hb hts inX3 hown hK.1 hP 7 rfl rfl 2 (by decide) (hK.nest 26 rfl _) (fun _ h9 => h9) rfl dX2_follow_11 ?_
        refine lv_iload_n hx hb dX2_follow_14 rfl (lv_at hl 2 rfl) ?_
        refine goI (n := 11) (ws' := [((ad 0), stC ad (S1 0)), ((ad 1), sdC (S1 1)), ((ad 2), sdC (S1 2)), ((ad 3), arC cI 16 (S1 3)), ((ad 4), arC cI 16 (S1 4)), ((ad 5), arC cI 20 (S1 5)), ((ad 6), arC cI 16 (S1 6)), ((td 0), txC td (T 0)), ((td 1), arC cC 60 (T 1)), ((td 2), arC cI 30 (T 2)), ((td 3), arC cI 30 (T 3))]) (rs := [((ad 0), stC ad (S1 0)), ((ad 1), sdC (S1 1)), ((ad 2), sdC (S1 2)), ((ad 3), arC cI 16 (S1 3)), ((ad 4), arC cI 16 (S1 4)), ((ad 5), arC cI 20 (S1 5)), ((ad 6), arC cI 16 (S1 6)), ((td 0), txC td (T 0)), ((td 1), arC cC 60 (T 1)), ((td 3), arC cI 30 (T 3))]) (va_runSN (As := [.ref (td 2), .int i]) (rest := []) ⟨hx, hb, hml, hown, hts⟩ (c_X4_valueAt l D cI cC cS (td 2) (T 2) i 30 (by decide) _) ⟨va_cnB 2 hts gX2_follow_X4_valueAt_n111 rfl rfl rfl (hK.nw 34 rfl) (hts (.initialized RX4) (List.mem_of_getElem? (i := 2) rfl)) (by decide +kernel) ⟨Nat.le_of_ble_eq_true rfl, Nat.le_of_ble_eq_true rfl⟩, (hts (.static yX4_valueAt) (List.mem_of_getElem? (i := 1) rfl)), trivial⟩ (preS hK hP hD [9] (by decide) rfl) rfl rfl hl.1 rfl (lv_room (Nat.le_of_ble_eq_true rfl)) dX2_follow_15 ⟨Nat.zero_le _, Nat.zero_le _⟩) hP hD hS hA [9] [0, 1, 2, 3, 4, 5, 6, 7, 8, 10] rfl rfl rfl rfl rfl (by decide +kernel) rfl (fun H locs hP hD hS => ?_)
        refine lv_istore_n (lv' := [(3, .int (r_X4_valueAt (T 2) i 30)), (0, .ref (ad 0)), (1, .ref (td 0)), (2, .int i)]) hx hb dX2_follow_18 rfl hl (by decide) rfl (fun ls hl => ?_)
        refine lv_aload_n hx hb dX2_follow_19 rfl (lv_at hl 2 rfl) ?_
        refine va_getN (D := D) (ci := 3) (v := .ref (td 3)) (C := RX3) (T := TX3) (N := 6) hx hb hts inX3 hown hK.1 hP 7 rfl rfl 3 (by decide) (hK.nest 27 rfl _) (fun _ h9 => h9) rfl dX2_follow_20 ?_
        refine lv_iload_n hx hb dX2_follow_23 rfl (lv_at hl 3 rfl) ?_
        refine goI (n := 11) (ws' := [((ad 0), stC ad (S1 0)), ((ad 1), sdC (S1 1)), ((ad 2), sdC (S1 2)), ((ad 3), arC cI 16 (S1 3)), ((ad 4), arC cI 16 (S1 4)), ((ad 5), arC cI 20 (S1 5)), ((ad 6), arC cI 16 (S1 6)), ((td 0), txC td (T 0)), ((td 1), arC cC 60 (T 1)), ((td 2), arC cI 30 (T 2)), ((td 3), arC cI 30 (T 3))]) (rs := [((ad 0), stC ad (S1 0)), ((ad 1), sdC (S1 1)), ((ad 2), sdC (S1 2)), ((ad 3), arC cI 16 (S1 3)), ((ad 4), arC cI 16 (S1 4)), ((ad 5), arC cI 20 (S1 5)), ((ad 6), arC cI 16 (S1 6)), ((td 0), txC td (T 0)), ((td 1), arC cC 60 (T 1)), ((td 2), arC cI 30 (T 2))]) (va_runSN (As := [.ref (td 3), .int i]) (rest := []) ⟨hx, hb, hml, hown, hts⟩ (c_X4_valueAt l D cI cC cS (td 3) (T 3) i 30 (by decide) _) ⟨va_cnB 2 hts gX2_follow_X4_valueAt_n111 rfl rfl rfl (hK.nw 34 rfl) (hts (.initialized RX4) (List.mem_of_getElem? (i := 2) rfl)) (by decide +kernel) ⟨Nat.le_of_ble_eq_true rfl, Nat.le_of_ble_eq_true rfl⟩, (hts (.static yX4_valueAt) (List.mem_of_getElem? (i := 1) rfl)), trivial⟩ (preS hK hP hD [10] (by decide) rfl) rfl rfl hl.1 rfl (lv_room (Nat.le_of_ble_eq_true rfl)) dX2_follow_24 ⟨Nat.zero_le _, Nat.zero_le _⟩) hP hD hS hA [10] [0, 1, 2, 3, 4, 5, 6, 7, 8, 9] rfl rfl rfl rfl rfl (by decide +kernel) rfl (fun H locs hP hD hS => ?_)
        refine lv_istore (lv' := [(4, .int (r_X4_valueAt (T 3) i 30)), (3, .int (r_X4_valueAt (T 2) i 30)), (0, .ref (ad 0)), (1, .ref (td 0)), (2, .int i)]) hx hb dX2_follow_27 hl (by decide) rfl (fun ls hl => ?_)
        refine lv_iload_n hx hb dX2_follow_29 rfl (lv_at hl 1 rfl) ?_
        refine lv_iconst (v := (-1 : Int32)) hx hb dX2_follow_30 (by decide) ?_
        refine lv_icmp_eq (tgt := 46) hx hb dX2_follow_31 (by decide) (fun c31 => ?_) (fun c31 => ?_)
        · have hr := hr.trans (if_pos c31)
          have hp := hp.trans (if_pos c31)
          refine lv_aload_n hx hb dX2_follow_46 rfl (lv_at hl 2 rfl) ?_
          refine lv_iload hx hb dX2_follow_47 (lv_at hl 0 rfl) ?_
          refine goI (n := 11) (ws' := [((ad 0), stC ad (S1 0)), ((ad 1), sdC (S1 1)), ((ad 2), sdC (S1 2)), ((ad 3), arC cI 16 (S1 3)), ((ad 4), arC cI 16 (S1 4)), ((ad 5), arC cI 20 (S1 5)), ((ad 6), arC cI 16 (S1 6)), ((td 0), txC td (T 0)), ((td 1), arC cC 60 (T 1)), ((td 2), arC cI 30 (T 2)), ((td 3), arC cI 30 (T 3))]) (rs := [((td 0), txC td (T 0)), ((td 1), arC cC 60 (T 1)), ((td 2), arC cI 30 (T 2)), ((td 3), arC cI 30 (T 3))]) (va_runV (As := [.int (r_X4_valueAt (T 3) i 30)]) (rest := []) ⟨hx, hb, hml, hown, hts⟩ (c_X2_hasTimeFor l D cI cC cS ad S1 (r_X4_valueAt (T 3) i 30)  _) (cwV 1 hts gX2_follow_X2_hasTimeFor rfl rfl rfl (by decide +kernel) ⟨Nat.le_of_ble_eq_true rfl, Nat.le_of_ble_eq_true rfl⟩) (preV hK hP hD [0, 1, 2, 3, 4, 5, 6] (by decide) rfl 0 2 rfl rfl) rfl rfl hl.1 rfl (lv_room (Nat.le_of_ble_eq_true rfl)) dX2_follow_49 ⟨Nat.zero_le _, Nat.zero_le _⟩) hP hD hS hA [0, 1, 2, 3, 4, 5, 6] [7, 8, 9, 10] rfl rfl rfl rfl rfl (by decide +kernel) rfl (fun H locs hP hD hS => ?_)
          refine lv_if_eq (tgt := 64) hx hb dX2_follow_52 (by decide) (fun c52 => ?_) (fun c52 => ?_)
          · have hr := hr.trans (if_pos c52)
            have hp := hp.trans (if_pos c52)
            refine lv_iconst (v := (0 : Int32)) hx hb dX2_follow_64 (by decide) ?_
            exact endZ (v := (0 : Int32)) hb hx hsg rfl hr.symm (by rw [hp]; exact hP) (by rw [hp]; exact hD) hS dX2_follow_65 hlocks
          · have hr := hr.trans (if_neg c52)
            have hp := hp.trans (if_neg c52)
            refine lv_aload_n hx hb dX2_follow_55 rfl (lv_at hl 2 rfl) ?_
            refine lv_iload hx hb dX2_follow_56 (lv_at hl 0 rfl) ?_
            refine goV (n := 11) (ws' := [((ad 0), stC ad ((p_X2_letPass S1 (r_X4_valueAt (T 3) i 30)) 0)), ((ad 1), sdC ((p_X2_letPass S1 (r_X4_valueAt (T 3) i 30)) 1)), ((ad 2), sdC ((p_X2_letPass S1 (r_X4_valueAt (T 3) i 30)) 2)), ((ad 3), arC cI 16 ((p_X2_letPass S1 (r_X4_valueAt (T 3) i 30)) 3)), ((ad 4), arC cI 16 ((p_X2_letPass S1 (r_X4_valueAt (T 3) i 30)) 4)), ((ad 5), arC cI 20 ((p_X2_letPass S1 (r_X4_valueAt (T 3) i 30)) 5)), ((ad 6), arC cI 16 ((p_X2_letPass S1 (r_X4_valueAt (T 3) i 30)) 6)), ((td 0), txC td (T 0)), ((td 1), arC cC 60 (T 1)), ((td 2), arC cI 30 (T 2)), ((td 3), arC cI 30 (T 3))]) (rs := [((td 0), txC td (T 0)), ((td 1), arC cC 60 (T 1)), ((td 2), arC cI 30 (T 2)), ((td 3), arC cI 30 (T 3))]) (va_runV (As := [.int (r_X4_valueAt (T 3) i 30)]) (rest := []) ⟨hx, hb, hml, hown, hts⟩ (c_X2_letPass l D cI cC cS ad S1 (r_X4_valueAt (T 3) i 30)  _) (cwV 1 hts gX2_follow_X2_letPass rfl rfl rfl (by decide +kernel) ⟨Nat.le_of_ble_eq_true rfl, Nat.le_of_ble_eq_true rfl⟩) (preV hK hP hD [0, 1, 2, 3, 4, 5, 6] (by decide) rfl 0 2 rfl rfl) rfl rfl hl.1 rfl (lv_room (Nat.le_of_ble_eq_true rfl)) dX2_follow_58 ⟨Nat.zero_le _, Nat.zero_le _⟩) hP hD hS hA [0, 1, 2, 3, 4, 5, 6] [7, 8, 9, 10] rfl rfl rfl rfl rfl (by decide +kernel) (fstE (as := [(ad 0), (ad 1), (ad 2), (ad 3), (ad 4), (ad 5), (ad 6)]) rfl rfl) (fun H locs hP hD hS => ?_)
            obtain ⟨z_1, hz_1⟩ : ∃ z : CS, z = (p_X2_letPass S1 (r_X4_valueAt (T 3) i 30)) := ⟨_, rfl⟩
            rw [← hz_1] at hP hD
            have hr : (r_X2_follow S T) = (lr_X2_follow_2 T fu (i + (1 : Int32)) z_1) := by subst hz_1; exact hr
            have hp : (p_X2_follow S T) = (lp_X2_follow_2 T fu (i + (1 : Int32)) z_1) := by subst hz_1; exact hp
            refine lv_goto (tgt := 66) hx hb dX2_follow_61 (by decide) ?_
            refine lv_iinc (v := (i + (1 : Int32))) (lv' := [(2, .int (i + (1 : Int32))), (4, .int (r_X4_valueAt (T 3) i 30)), (3, .int (r_X4_valueAt (T 2) i 30)), (0, .ref (ad 0)), (1, .ref (td 0))]) hx hb dX2_follow_66 hl (k := 4) rfl rfl (by decide) rfl (fun ls hl => ?_)
            refine lv_goto (tgt := 2) hx hb dX2_follow_69 (by decide) ?_
            exact ih_2 (i + (1 : Int32)) z_1 _ _ (by subst hz_1; exact (cnt_step c7 hm)) hr hp hP hD hS ls (lv_sub hl [3, 4, 0] rfl)
        · have hr := hr.trans (if_neg c31)
          have hp := hp.trans (if_neg c31)
          refine lv_aload_n hx hb dX2_follow_34 rfl (lv_at hl 2 rfl) ?_
          refine lv_iload_n hx hb dX2_follow_35 rfl (lv_at hl 1 rfl) ?_
          refine lv_iload hx hb dX2_follow_36 (lv_at hl 0 rfl) ?_
          refine goI (n := 11) (ws' := [((ad 0), stC ad ((p_X2_letWait S1 (r_X4_valueAt (T 2) i 30) (r_X4_valueAt (T 3) i 30)) 0)), ((ad 1), sdC ((p_X2_letWait S1 (r_X4_valueAt (T 2) i 30) (r_X4_valueAt (T 3) i 30)) 1)), ((ad 2), sdC ((p_X2_letWait S1 (r_X4_valueAt (T 2) i 30) (r_X4_valueAt (T 3) i 30)) 2)), ((ad 3), arC cI 16 ((p_X2_letWait S1 (r_X4_valueAt (T 2) i 30) (r_X4_valueAt (T 3) i 30)) 3)), ((ad 4), arC cI 16 ((p_X2_letWait S1 (r_X4_valueAt (T 2) i 30) (r_X4_valueAt (T 3) i 30)) 4)), ((ad 5), arC cI 20 ((p_X2_letWait S1 (r_X4_valueAt (T 2) i 30) (r_X4_valueAt (T 3) i 30)) 5)), ((ad 6), arC cI 16 ((p_X2_letWait S1 (r_X4_valueAt (T 2) i 30) (r_X4_valueAt (T 3) i 30)) 6)), ((td 0), txC td (T 0)), ((td 1), arC cC 60 (T 1)), ((td 2), arC cI 30 (T 2)), ((td 3), arC cI 30 (T 3))]) (rs := [((td 0), txC td (T 0)), ((td 1), arC cC 60 (T 1)), ((td 2), arC cI 30 (T 2)), ((td 3), arC cI 30 (T 3))]) (va_runV (As := [.int (r_X4_valueAt (T 2) i 30), .int (r_X4_valueAt (T 3) i 30)]) (rest := []) ⟨hx, hb, hml, hown, hts⟩ (c_X2_letWait l D cI cC cS ad S1 (r_X4_valueAt (T 2) i 30) (r_X4_valueAt (T 3) i 30)  _) (cwV 2 hts gX2_follow_X2_letWait rfl rfl rfl (by decide +kernel) ⟨Nat.le_of_ble_eq_true rfl, Nat.le_of_ble_eq_true rfl⟩) (preV hK hP hD [0, 1, 2, 3, 4, 5, 6] (by decide) rfl 0 2 rfl rfl) rfl rfl hl.1 rfl (lv_room (Nat.le_of_ble_eq_true rfl)) dX2_follow_38 ⟨Nat.zero_le _, Nat.zero_le _⟩) hP hD hS hA [0, 1, 2, 3, 4, 5, 6] [7, 8, 9, 10] rfl rfl rfl rfl rfl (by decide +kernel) (fstE (as := [(ad 0), (ad 1), (ad 2), (ad 3), (ad 4), (ad 5), (ad 6)]) rfl rfl) (fun H locs hP hD hS => ?_)
          obtain ⟨z_2, hz_2⟩ : ∃ z : CS, z = (p_X2_letWait S1 (r_X4_valueAt (T 2) i 30) (r_X4_valueAt (T 3) i 30)) := ⟨_, rfl⟩
          rw [← hz_2] at hP hD
          have hr : (r_X2_follow S T) = (if (r_X2_letWait S1 (r_X4_valueAt (T 2) i 30) (r_X4_valueAt (T 3) i 30)) = (0 : Int32) then (0 : Int32) else (lr_X2_follow_2 T fu (i + (1 : Int32)) z_2)) := by subst hz_2; exact hr
          have hp : (p_X2_follow S T) = (if (r_X2_letWait S1 (r_X4_valueAt (T 2) i 30) (r_X4_valueAt (T 3) i 30)) = (0 : Int32) then z_2 else (lp_X2_follow_2 T fu (i + (1 : Int32)) z_2)) := by subst hz_2; exact hp
          refine lv_if_ne (tgt := 66) hx hb dX2_follow_41 (by decide) (fun c41 => ?_) (fun c41 => ?_)
          · have hr := hr.trans (if_neg c41)
            have hp := hp.trans (if_neg c41)
            refine lv_iinc (v := (i + (1 : Int32))) (lv' := [(2, .int (i + (1 : Int32))), (4, .int (r_X4_valueAt (T 3) i 30)), (3, .int (r_X4_valueAt (T 2) i 30)), (0, .ref (ad 0)), (1, .ref (td 0))]) hx hb dX2_follow_66 hl (k := 4) rfl rfl (by decide) rfl (fun ls hl => ?_)
            refine lv_goto (tgt := 2) hx hb dX2_follow_69 (by decide) ?_
            exact ih_2 (i + (1 : Int32)) z_2 _ _ (by subst hz_2; exact (cnt_step c7 hm)) hr hp hP hD hS ls (lv_sub hl [3, 4, 0] rfl)
          · have hr := hr.trans (if_pos c41)
            have hp := hp.trans (if_pos c41)
            refine lv_iconst (v := (0 : Int32)) hx hb dX2_follow_44 (by decide) ?_
            exact endZ (v := (0 : Int32)) hb hx hsg rfl hr.symm (by rw [hp]; exact hP) (by rw [hp]; exact hD) hS dX2_follow_45 hlocks
  exact L_2 _ (0 : Int32) S _ _ (cnt_init _ _) hr hp hP hD hS ls (lv_sub hl [1, 2, 0] rfl)
