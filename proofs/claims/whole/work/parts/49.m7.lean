/-- what reading the text leaves as it is -/
def SQ (M z : CS) : Prop := z 0 8 = M 0 8 ∧ (M 0 9).toInt ≤ (z 0 9).toInt ∧ (∀ i, i ≠ 0 → z i = M i) ∧ z 0 4 = M 0 4
theorem SQ.refl (M : CS) : SQ M M := ⟨rfl, Int.le_refl _, fun _ _ => rfl, rfl⟩
theorem SQ.trans {a b d : CS} (h1 : SQ a b) (h2 : SQ b d) : SQ a d := ⟨h2.1.trans h1.1, Int.le_trans h1.2.1 h2.2.1, fun i hi => (h2.2.2.1 i hi).trans (h1.2.2.1 i hi), h2.2.2.2.trans h1.2.2.2⟩
theorem SQ.si {M z : CS} (h : SQ M z) (hSI : SI M) : SI z := ⟨Int.le_trans hSI.1 h.2.1, by rw [h.1]; exact hSI.2⟩
theorem sq_up {M : CS} {f : F1} (h8 : f 8 = M 0 8) (h9 : (M 0 9).toInt ≤ (f 9).toInt) (h4 : f 4 = M 0 4) : SQ M (va_up M 0 f) := ⟨h8, h9, fun i hi => va_up_n hi, h4⟩
theorem here_inc {M : CS} {a1 a2 : Int32} (h : ¬ r_X5_isHere M a1 a2 = 0) : ((M 0 9) + (1 : Int32)).toInt = (M 0 9).toInt + 1 := inc_toI (lt_of_nle (isHere_lt h))
theorem sq_ts (M : CS) (a1 : Int32) : SQ M (p_X5_takesSign M a1) := by
  unfold p_X5_takesSign
  by_cases c : r_X5_isHere M a1 a1 = (0 : Int32)
  · rw [if_pos c]
    refine sq_up rfl ?_ rfl
    show (M 0 9).toInt ≤ ((M 0 9) + (0 : Int32)).toInt
    rw [Int32.add_zero]; exact Int.le_refl _
  · rw [if_neg c]
    refine sq_up rfl ?_ rfl
    show (M 0 9).toInt ≤ ((M 0 9) + (1 : Int32)).toInt
    rw [here_inc c]; omega
theorem ts_inc {M : CS} (hSI : SI M) {a1 : Int32} (h : ¬ r_X5_takesSign M a1 = 0) : (p_X5_takesSign M a1 0 9).toInt = (M 0 9).toInt + 1 ∧ (p_X5_takesSign M a1 0 9).toInt ≤ 60 := by
  unfold r_X5_takesSign at h
  dsimp only at h
  have e : p_X5_takesSign M a1 0 9 = (M 0 9) + (1 : Int32) := by
    unfold p_X5_takesSign
    rw [if_neg h]; rfl
  rw [e, here_inc h]
  have := lt_of_nle (isHere_lt h)
  have := hSI.2
  omega
theorem sq_rdn (M : CS) (a1 : Int32) : SQ M (p_X5_readsNumber M a1) := by
  unfold p_X5_readsNumber
  by_cases c : r_X5_isHere M ((48 : Int32) + a1) (57 : Int32) = (0 : Int32)
  · rw [if_pos c]; exact SQ.refl M
  rw [if_neg c]
  have h1 : SQ M (va_up M 0 (upd (upd (M 0) 10 (((M 6) ((M 0) 9).toNatClampNeg) - (48 : Int32))) 9 (((M 0) 9) + (1 : Int32)))) := by
    refine sq_up rfl ?_ rfl
    show (M 0 9).toInt ≤ ((M 0 9) + (1 : Int32)).toInt
    rw [here_inc c]; omega
  by_cases d : (((M 6) ((M 0) 9).toNatClampNeg) - (48 : Int32)) ≤ (0 : Int32)
  · rw [if_pos d]; exact h1
  rw [if_neg d]
  generalize (va_up M 0 (upd (upd (M 0) 10 (((M 6) ((M 0) 9).toNatClampNeg) - (48 : Int32))) 9 (((M 0) 9) + (1 : Int32)))) = z at h1
  dsimp only
  by_cases f : r_X5_isHere z (48 : Int32) (57 : Int32) = (0 : Int32)
  · rw [if_pos f]; exact h1
  · rw [if_neg f]
    refine h1.trans (sq_up rfl ?_ rfl)
    show (z 0 9).toInt ≤ ((z 0 9) + (1 : Int32)).toInt
    rw [here_inc f]; omega
theorem rdn_b (M : CS) (a1 : Int32) : narrow .boolean (.int (r_X5_readsNumber M a1)) = .int (r_X5_readsNumber M a1) := by
  have h : r_X5_readsNumber M a1 = 0 ∨ r_X5_readsNumber M a1 = 1 := by
    unfold r_X5_readsNumber
    dsimp only
    repeat' split
    all_goals first | exact Or.inl rfl | exact Or.inr rfl
  exact b01 h
theorem sq_0 (M : CS) : SQ M (va_up M 0 (upd (upd (M 0) 12 (0 : Int32)) 13 (0 : Int32))) := sq_up rfl (Int.le_refl _) rfl
theorem sq_w {M : CS} {a b : Int32} : SQ M (va_up M 0 (upd (upd (M 0) 11 a) 12 b)) := sq_up rfl (Int.le_refl _) rfl
def r_X5_readsPart (M : CS) : Int32 := ((fun (z_1 : CS) => ((fun (z_2 : CS) => (if (r_X5_takesSign z_1 (46 : Int32)) = (0 : Int32) then ((fun (z_3 : CS) => (if (r_X5_readsNumber z_2 (0 : Int32)) = (0 : Int32) then (0 : Int32) else ((fun (z_4 : CS) => ((fun (z_5 : CS) => (if (r_X5_takesSign z_4 (120 : Int32)) = (0 : Int32) then (1 : Int32) else (if (r_X5_isHere z_5 (50 : Int32) (57 : Int32)) = (0 : Int32) then (0 : Int32) else ((fun (z_6 : CS) => (1 : Int32)) (va_up z_5 0 (upd (upd (z_5 0) 12 (((z_5 6) ((z_5 0) 9).toNatClampNeg) - (48 : Int32))) 9 (((z_5 0) 9) + (1 : Int32)))))))) (p_X5_takesSign z_4 (120 : Int32)))) (va_up z_3 0 (upd (upd (z_3 0) 11 ((z_3 0) 10)) 12 (1 : Int32)))))) (p_X5_readsNumber z_2 (0 : Int32))) else ((fun (z_7 : CS) => ((fun (z_8 : CS) => (r_X5_readsNumber z_2 (1 : Int32))) (va_up z_7 0 (upd (z_7 0) 13 ((z_7 0) 10))))) (p_X5_readsNumber z_2 (1 : Int32))))) (p_X5_takesSign z_1 (46 : Int32)))) (va_up M 0 (upd (upd (M 0) 12 (0 : Int32)) 13 (0 : Int32))))
def p_X5_readsPart (M : CS) : CS := ((fun (z_1 : CS) => ((fun (z_2 : CS) => (if (r_X5_takesSign z_1 (46 : Int32)) = (0 : Int32) then ((fun (z_3 : CS) => (if (r_X5_readsNumber z_2 (0 : Int32)) = (0 : Int32) then z_3 else ((fun (z_4 : CS) => ((fun (z_5 : CS) => (if (r_X5_takesSign z_4 (120 : Int32)) = (0 : Int32) then z_5 else (if (r_X5_isHere z_5 (50 : Int32) (57 : Int32)) = (0 : Int32) then z_5 else ((fun (z_6 : CS) => z_6) (va_up z_5 0 (upd (upd (z_5 0) 12 (((z_5 6) ((z_5 0) 9).toNatClampNeg) - (48 : Int32))) 9 (((z_5 0) 9) + (1 : Int32)))))))) (p_X5_takesSign z_4 (120 : Int32)))) (va_up z_3 0 (upd (upd (z_3 0) 11 ((z_3 0) 10)) 12 (1 : Int32)))))) (p_X5_readsNumber z_2 (0 : Int32))) else ((fun (z_7 : CS) => ((fun (z_8 : CS) => z_8) (va_up z_7 0 (upd (z_7 0) 13 ((z_7 0) 10))))) (p_X5_readsNumber z_2 (1 : Int32))))) (p_X5_takesSign z_1 (46 : Int32)))) (va_up M 0 (upd (upd (M 0) 12 (0 : Int32)) 13 (0 : Int32))))
abbrev rm_X5_readsPart : Room := { frames := 3, cells := 0, slots := 0, locals := 69 }
set_option maxHeartbeats 4000000 in
set_option maxRecDepth 100000 in
theorem c_X5_readsPart (l : Launch) (D : va_G) (cI cC cS : ClassId) (md : Nat → Nat) (M : CS) (hSI : SI M) : CI l D cI cC cS yX5_readsPart wsX5_readsPart rm_X5_readsPart [.ref (md 0)] (mdW cI md M) (mdW cI md (p_X5_readsPart M)) (r_X5_readsPart M) := by
  intro sz
  refine startC (cc := cX5_readsPart) (maxL := 2) (ret := (some .boolean)) (by decide) rfl (Nat.le_of_ble_eq_true rfl) ?_
  intro p e s m args below meth c hx hb hml hsg hts hown hlocks hin hK A hA hS hP hD ls hl
  have hown : s.vm.findClass RX5 = some m.cls := hown
  have hl : lv_has ls 2 [(0, .ref (md 0))] := hl
  have hP : va_P D vwCl [((md 0), mdC md (M 0)), ((md 1), arC cI 96 (M 1)), ((md 2), arC cI 96 (M 2)), ((md 3), arC cI 96 (M 3)), ((md 4), arC cI 384 (M 4)), ((md 5), arC cI 96 (M 5)), ((md 6), arC cI 60 (M 6))] s.heap := hP
  have hD : va_D A [((md 0), mdC md (M 0)), ((md 1), arC cI 96 (M 1)), ((md 2), arC cI 96 (M 2)), ((md 3), arC cI 96 (M 3)), ((md 4), arC cI 384 (M 4)), ((md 5), arC cI 96 (M 5)), ((md 6), arC cI 60 (M 6))] := hD
  have inX5 : ∀ w ∈ wsX50, w ∈ wsX5_readsPart := fun _ h => List.mem_cons_of_mem _ (List.mem_append_right _ h)
  have hr : (r_X5_readsPart M) = ((fun (z_1 : CS) => ((fun (z_2 : CS) => (if (r_X5_takesSign z_1 (46 : Int32)) = (0 : Int32) then ((fun (z_3 : CS) => (if (r_X5_readsNumber z_2 (0 : Int32)) = (0 : Int32) then (0 : Int32) else ((fun (z_4 : CS) => ((fun (z_5 : CS) => (if (r_X5_takesSign z_4 (120 : Int32)) = (0 : Int32) then (1 : Int32) else (if (r_X5_isHere z_5 (50 : Int32) (57 : Int32)) = (0 : Int32) then (0 : Int32) else ((fun (z_6 : CS) => (1 : Int32)) (va_up z_5 0 (upd (upd (z_5 0) 12 (((z_5 6) ((z_5 0) 9).toNatClampNeg) - (48 : Int32))) 9 (((z_5 0) 9) + (1 : Int32)))))))) (p_X5_takesSign z_4 (120 : Int32)))) (va_up z_3 0 (upd (upd (z_3 0) 11 ((z_3 0) 10)) 12 (1 : Int32)))))) (p_X5_readsNumber z_2 (0 : Int32))) else ((fun (z_7 : CS) => ((fun (z_8 : CS) => (r_X5_readsNumber z_2 (1 : Int32))) (va_up z_7 0 (upd (z_7 0) 13 ((z_7 0) 10))))) (p_X5_readsNumber z_2 (1 : Int32))))) (p_X5_takesSign z_1 (46 : Int32)))) (va_up M 0 (upd (upd (M 0) 12 (0 : Int32)) 13 (0 : Int32)))) := rfl
  have hp : (p_X5_readsPart M) = ((fun (z_1 : CS) => ((fun (z_2 : CS) => (if (r_X5_takesSign z_1 (46 : Int32)) = (0 : Int32) then ((fun (z_3 : CS) => (if (r_X5_readsNumber z_2 (0 : Int32)) = (0 : Int32) then z_3 else ((fun (z_4 : CS) => ((fun (z_5 : CS) => (if (r_X5_takesSign z_4 (120 : Int32)) = (0 : Int32) then z_5 else (if (r_X5_isHere z_5 (50 : Int32) (57 : Int32)) = (0 : Int32) then z_5 else ((fun (z_6 : CS) => z_6) (va_up z_5 0 (upd (upd (z_5 0) 12 (((z_5 6) ((z_5 0) 9).toNatClampNeg) - (48 : Int32))) 9 (((z_5 0) 9) + (1 : Int32)))))))) (p_X5_takesSign z_4 (120 : Int32)))) (va_up z_3 0 (upd (upd (z_3 0) 11 ((z_3 0) 10)) 12 (1 : Int32)))))) (p_X5_readsNumber z_2 (0 : Int32))) else ((fun (z_7 : CS) => ((fun (z_8 : CS) => z_8) (va_up z_7 0 (upd (z_7 0) 13 ((z_7 0) 10))))) (p_X5_readsNumber z_2 (1 : Int32))))) (p_X5_takesSign z_1 (46 : Int32)))) (va_up M 0 (upd (upd (M 0) 12 (0 : Int32)) 13 (0 : Int32)))) := rfl
  refine lv_aload_n hx hb dX5_readsPart_0 rfl (lv_at hl 0 rfl) ?_
  refine lv_iconst (v := (0 : Int32)) hx hb dX5_readsPart_1 (by decide) ?_
  refine va_put (D := D) (ci := 5) (v := .int (0 : Int32)) (ty := .int) (C := RX5) (T := TX5) (N := 14) hx hb hts inX5 tyX5 tyX5_ok nmX5 hown hK.1 hP hD hS 0 rfl rfl 12 (by decide) (hts (.fieldLink RX5 147 "GrayPointersModel" "oftenRead" "I") (List.mem_of_getElem? (i := 1) rfl)) (fun _ h9 => h9) rfl (by decide +kernel) rfl rfl (Nat.le_of_ble_eq_true rfl) dX5_readsPart_2 (fun H locs hP hD hS => ?_)
  have hP : va_P D vwCl [((md 0), mdC md (upd (M 0) 12 (0 : Int32))), ((md 1), arC cI 96 (M 1)), ((md 2), arC cI 96 (M 2)), ((md 3), arC cI 96 (M 3)), ((md 4), arC cI 384 (M 4)), ((md 5), arC cI 96 (M 5)), ((md 6), arC cI 60 (M 6))] H := hP
  have hD : va_D A [((md 0), mdC md (upd (M 0) 12 (0 : Int32))), ((md 1), arC cI 96 (M 1)), ((md 2), arC cI 96 (M 2)), ((md 3), arC cI 96 (M 3)), ((md 4), arC cI 384 (M 4)), ((md 5), arC cI 96 (M 5)), ((md 6), arC cI 60 (M 6))] := hD
  refine lv_aload_n hx hb dX5_readsPart_5 rfl (lv_at hl 0 rfl) ?_
  refine lv_iconst (v := (0 : Int32)) hx hb dX5_readsPart_6 (by decide) ?_
  refine va_put (D := D) (ci := 5) (v := .int (0 : Int32)) (ty := .int) (C := RX5) (T := TX5) (N := 14) hx hb hts inX5 tyX5 tyX5_ok nmX5 hown hK.1 hP hD hS 0 rfl rfl 13 (by decide) (hts (.fieldLink RX5 150 "GrayPointersModel" "timesRead" "I") (List.mem_of_getElem? (i := 2) rfl)) (fun _ h9 => h9) rfl (by decide +kernel) rfl rfl (Nat.le_of_ble_eq_true rfl) dX5_readsPart_7 (fun H locs hP hD hS => ?_)
  have hP : va_P D vwCl [((md 0), mdC md (upd (upd (M 0) 12 (0 : Int32)) 13 (0 : Int32))), ((md 1), arC cI 96 (M 1)), ((md 2), arC cI 96 (M 2)), ((md 3), arC cI 96 (M 3)), ((md 4), arC cI 384 (M 4)), ((md 5), arC cI 96 (M 5)), ((md 6), arC cI 60 (M 6))] H := hP
  have hD : va_D A [((md 0), mdC md (upd (upd (M 0) 12 (0 : Int32)) 13 (0 : Int32))), ((md 1), arC cI 96 (M 1)), ((md 2), arC cI 96 (M 2)), ((md 3), arC cI 96 (M 3)), ((md 4), arC cI 384 (M 4)), ((md 5), arC cI 96 (M 5)), ((md 6), arC cI 60 (M 6))] := hD
  refine lv_aload_n hx hb dX5_readsPart_10 rfl (lv_at hl 0 rfl) ?_
  refine lv_bipush (v := (46 : Int32)) hx hb dX5_readsPart_11 (by decide) ?_
  obtain ⟨z_1, hz_1⟩ : ∃ z : CS, z = (va_up M 0 (upd (upd (M 0) 12 (0 : Int32)) 13 (0 : Int32))) := ⟨_, rfl⟩
  have e0 : (z_1 0) = (upd (upd (M 0) 12 (0 : Int32)) 13 (0 : Int32)) := (congrFun hz_1 0).trans va_up_s
  have e1 : (z_1 1) = (M 1) := (congrFun hz_1 1).trans (va_up_n (by decide))
  have e2 : (z_1 2) = (M 2) := (congrFun hz_1 2).trans (va_up_n (by decide))
  have e3 : (z_1 3) = (M 3) := (congrFun hz_1 3).trans (va_up_n (by decide))
  have e4 : (z_1 4) = (M 4) := (congrFun hz_1 4).trans (va_up_n (by decide))
  have e5 : (z_1 5) = (M 5) := (congrFun hz_1 5).trans (va_up_n (by decide))
  have e6 : (z_1 6) = (M 6) := (congrFun hz_1 6).trans (va_up_n (by decide))
  have hP : va_P D vwCl [((md 0), mdC md (z_1 0)), ((md 1), arC cI 96 (z_1 1)), ((md 2), arC cI 96 (z_1 2)), ((md 3), arC cI 96 (z_1 3)), ((md 4), arC cI 384 (z_1 4)), ((md 5), arC cI 96 (z_1 5)), ((md 6), arC cI 60 (z_1 6))] H := by rw [e0, e1, e2, e3, e4, e5, e6]; exact hP
  have hD : va_D A [((md 0), mdC md (z_1 0)), ((md 1), arC cI 96 (z_1 1)), ((md 2), arC cI 96 (z_1 2)), ((md 3), arC cI 96 (z_1 3)), ((md 4), arC cI 384 (z_1 4)), ((md 5), arC cI 96 (z_1 5)), ((md 6), arC cI 60 (z_1 6))] := by rw [e0, e1, e2, e3, e4, e5, e6]; exact hD
  clear e0 e1 e2 e3 e4 e5 e6
  have hr : (r_X5_readsPart M) = ((fun (z_2 : CS) => (if (r_X5_takesSign z_1 (46 : Int32)) = (0 : Int32) then ((fun (z_3 : CS) => (if (r_X5_readsNumber z_2 (0 : Int32)) = (0 : Int32) then (0 : Int32) else ((fun (z_4 : CS) => ((fun (z_5 : CS) => (if (r_X5_takesSign z_4 (120 : Int32)) = (0 : Int32) then (1 : Int32) else (if (r_X5_isHere z_5 (50 : Int32) (57 : Int32)) = (0 : Int32) then (0 : Int32) else ((fun (z_6 : CS) => (1 : Int32)) (va_up z_5 0 (upd (upd (z_5 0) 12 (((z_5 6) ((z_5 0) 9).toNatClampNeg) - (48 : Int32))) 9 (((z_5 0) 9) + (1 : Int32)))))))) (p_X5_takesSign z_4 (120 : Int32)))) (va_up z_3 0 (upd (upd (z_3 0) 11 ((z_3 0) 10)) 12 (1 : Int32)))))) (p_X5_readsNumber z_2 (0 : Int32))) else ((fun (z_7 : CS) => ((fun (z_8 : CS) => (r_X5_readsNumber z_2 (1 : Int32))) (va_up z_7 0 (upd (z_7 0) 13 ((z_7 0) 10))))) (p_X5_readsNumber z_2 (1 : Int32))))) (p_X5_takesSign z_1 (46 : Int32))) := by subst hz_1; exact hr
  have hp : (p_X5_readsPart M) = ((fun (z_2 : CS) => (if (r_X5_takesSign z_1 (46 : Int32)) = (0 : Int32) then ((fun (z_3 : CS) => (if (r_X5_readsNumber z_2 (0 : Int32)) = (0 : Int32) then z_3 else ((fun (z_4 : CS) => ((fun (z_5 : CS) => (if (r_X5_takesSign z_4 (120 : Int32)) = (0 : Int32) then z_5 else (if (r_X5_isHere z_5 (50 : Int32) (57 : Int32)) = (0 : Int32) then z_5 else ((fun (z_6 : CS) => z_6) (va_up z_5 0 (upd (upd (z_5 0) 12 (((z_5 6) ((z_5 0) 9).toNatClampNeg) - (48 : Int32))) 9 (((z_5 0) 9) + (1 : Int32)))))))) (p_X5_takesSign z_4 (120 : Int32)))) (va_up z_3 0 (upd (upd (z_3 0) 11 ((z_3 0) 10)) 12 (1 : Int32)))))) (p_X5_readsNumber z_2 (0 : Int32))) else ((fun (z_7 : CS) => ((fun (z_8 : CS) => z_8) (va_up z_7 0 (upd (z_7 0) 13 ((z_7 0) 10))))) (p_X5_readsNumber z_2 (1 : Int32))))) (p_X5_takesSign z_1 (46 : Int32))) := by subst hz_1; exact hp
  refine goI (n := 7) (ws' := [((md 0), mdC md ((p_X5_takesSign z_1 (46 : Int32)) 0)), ((md 1), arC cI 96 ((p_X5_takesSign z_1 (46 : Int32)) 1)), ((md 2), arC cI 96 ((p_X5_takesSign z_1 (46 : Int32)) 2)), ((md 3), arC cI 96 ((p_X5_takesSign z_1 (46 : Int32)) 3)), ((md 4), arC cI 384 ((p_X5_takesSign z_1 (46 : Int32)) 4)), ((md 5), arC cI 96 ((p_X5_takesSign z_1 (46 : Int32)) 5)), ((md 6), arC cI 60 ((p_X5_takesSign z_1 (46 : Int32)) 6))]) (rs := []) (va_runV (As := [.int (46 : Int32)]) (rest := []) ⟨hx, hb, hml, hown, hts⟩ (c_X5_takesSign l D cI cC cS md z_1 (46 : Int32) (by rw [hz_1]; exact (sq_0 M).si hSI) _) (cwV 1 hts gX5_readsPart_X5_takesSign rfl rfl rfl (by decide +kernel) ⟨Nat.le_of_ble_eq_true rfl, Nat.le_of_ble_eq_true rfl⟩) (preV hK hP hD [0, 1, 2, 3, 4, 5, 6] (by decide) rfl 0 5 rfl rfl) rfl rfl hl.1 rfl (lv_room (Nat.le_of_ble_eq_true rfl)) dX5_readsPart_13 ⟨Nat.zero_le _, Nat.zero_le _⟩) hP hD hS hA [0, 1, 2, 3, 4, 5, 6] [] rfl rfl rfl rfl rfl (by decide +kernel) (fstE (as := [(md 0), (md 1), (md 2), (md 3), (md 4), (md 5), (md 6)]) rfl rfl) (fun H locs hP hD hS => ?_)
  obtain ⟨z_2, hz_2⟩ : ∃ z : CS, z = (p_X5_takesSign z_1 (46 : Int32)) := ⟨_, rfl⟩
  rw [← hz_2] at hP hD
  have hr : (r_X5_readsPart M) = (if (r_X5_takesSign z_1 (46 : Int32)) = (0 : Int32) then ((fun (z_3 : CS) => (if (r_X5_readsNumber z_2 (0 : Int32)) = (0 : Int32) then (0 : Int32) else ((fun (z_4 : CS) => ((fun (z_5 : CS) => (if (r_X5_takesSign z_4 (120 : Int32)) = (0 : Int32) then (1 : Int32) else (if (r_X5_isHere z_5 (50 : Int32) (57 : Int32)) = (0 : Int32) then (0 : Int32) else ((fun (z_6 : CS) => (1 : Int32)) (va_up z_5 0 (upd (upd (z_5 0) 12 (((z_5 6) ((z_5 0) 9).toNatClampNeg) - (48 : Int32))) 9 (((z_5 0) 9) + (1 : Int32)))))))) (p_X5_takesSign z_4 (120 : Int32)))) (va_up z_3 0 (upd (upd (z_3 0) 11 ((z_3 0) 10)) 12 (1 : Int32)))))) (p_X5_readsNumber z_2 (0 : Int32))) else ((fun (z_7 : CS) => ((fun (z_8 : CS) => (r_X5_readsNumber z_2 (1 : Int32))) (va_up z_7 0 (upd (z_7 0) 13 ((z_7 0) 10))))) (p_X5_readsNumber z_2 (1 : Int32)))) := by subst hz_2; exact hr
  have hp : (p_X5_readsPart M) = (if (r_X5_takesSign z_1 (46 : Int32)) = (0 : Int32) then ((fun (z_3 : CS) => (if (r_X5_readsNumber z_2 (0 : Int32)) = (0 : Int32) then z_3 else ((fun (z_4 : CS) => ((fun (z_5 : CS) => (if (r_X5_takesSign z_4 (120 : Int32)) = (0 : Int32) then z_5 else (if (r_X5_isHere z_5 (50 : Int32) (57 : Int32)) = (0 : Int32) then z_5 else ((fun (z_6 : CS) => z_6) (va_up z_5 0 (upd (upd (z_5 0) 12 (((z_5 6) ((z_5 0) 9).toNatClampNeg) - (48 : Int32))) 9 (((z_5 0) 9) + (1 : Int32)))))))) (p_X5_takesSign z_4 (120 : Int32)))) (va_up z_3 0 (upd (upd (z_3 0) 11 ((z_3 0) 10)) 12 (1 : Int32)))))) (p_X5_readsNumber z_2 (0 : Int32))) else ((fun (z_7 : CS) => ((fun (z_8 : CS) => z_8) (va_up z_7 0 (upd (z_7 0) 13 ((z_7 0) 10))))) (p_X5_readsNumber z_2 (1 : Int32)))) := by subst hz_2; exact hp
  refine lv_if_eq (tgt := 35) hx hb dX5_readsPart_16 (by decide) (fun c16 => ?_) (fun c16 => ?_)
  · have hr := hr.trans (if_pos c16)
    have hp := hp.trans (if_pos c16)
    refine lv_aload_n hx hb dX5_readsPart_35 rfl (lv_at hl 0 rfl) ?_
    refine lv_iconst (v := (0 : Int32)) hx hb dX5_readsPart_36 (by decide) ?_
    refine goI (n := 7) (ws' := [((md 0), mdC md ((p_X5_readsNumber z_2 (0 : Int32)) 0)), ((md 1), arC cI 96 ((p_X5_readsNumber z_2 (0 : Int32)) 1)), ((md 2), arC cI 96 ((p_X5_readsNumber z_2 (0 : Int32)) 2)), ((md 3), arC cI 96 ((p_X5_readsNumber z_2 (0 : Int32)) 3)), ((md 4), arC cI 384 ((p_X5_readsNumber z_2 (0 : Int32)) 4)), ((md 5), arC cI 96 ((p_X5_readsNumber z_2 (0 : Int32)) 5)), ((md 6), arC cI 60 ((p_X5_readsNumber z_2 (0 : Int32)) 6))]) (rs := []) (va_runV (As := [.int (0 : Int32)]) (rest := []) ⟨hx, hb, hml, hown, hts⟩ (c_X5_readsNumber l D cI cC cS md z_2 (0 : Int32) (by rw [hz_2]; exact (sq_ts z_1 _).si (by rw [hz_1]; exact (sq_0 M).si hSI)) _) (cwV 1 hts gX5_readsPart_X5_readsNumber rfl rfl rfl (by decide +kernel) ⟨Nat.le_of_ble_eq_true rfl, Nat.le_of_ble_eq_true rfl⟩) (preV hK hP hD [0, 1, 2, 3, 4, 5, 6] (by decide) rfl 0 5 rfl rfl) rfl rfl hl.1 rfl (lv_room (Nat.le_of_ble_eq_true rfl)) dX5_readsPart_37 ⟨Nat.zero_le _, Nat.zero_le _⟩) hP hD hS hA [0, 1, 2, 3, 4, 5, 6] [] rfl rfl rfl rfl rfl (by decide +kernel) (fstE (as := [(md 0), (md 1), (md 2), (md 3), (md 4), (md 5), (md 6)]) rfl rfl) (fun H locs hP hD hS => ?_)
    obtain ⟨z_3, hz_3⟩ : ∃ z : CS, z = (p_X5_readsNumber z_2 (0 : Int32)) := ⟨_, rfl⟩
    rw [← hz_3] at hP hD
    have hr : (r_X5_readsPart M) = (if (r_X5_readsNumber z_2 (0 : Int32)) = (0 : Int32) then (0 : Int32) else ((fun (z_4 : CS) => ((fun (z_5 : CS) => (if (r_X5_takesSign z_4 (120 : Int32)) = (0 : Int32) then (1 : Int32) else (if (r_X5_isHere z_5 (50 : Int32) (57 : Int32)) = (0 : Int32) then (0 : Int32) else ((fun (z_6 : CS) => (1 : Int32)) (va_up z_5 0 (upd (upd (z_5 0) 12 (((z_5 6) ((z_5 0) 9).toNatClampNeg) - (48 : Int32))) 9 (((z_5 0) 9) + (1 : Int32)))))))) (p_X5_takesSign z_4 (120 : Int32)))) (va_up z_3 0 (upd (upd (z_3 0) 11 ((z_3 0) 10)) 12 (1 : Int32))))) := by subst hz_3; exact hr
    have hp : (p_X5_readsPart M) = (if (r_X5_readsNumber z_2 (0 : Int32)) = (0 : Int32) then z_3 else ((fun (z_4 : CS) => ((fun (z_5 : CS) => (if (r_X5_takesSign z_4 (120 : Int32)) = (0 : Int32) then z_5 else (if (r_X5_isHere z_5 (50 : Int32) (57 : Int32)) = (0 : Int32) then z_5 else ((fun (z_6 : CS) => z_6) (va_up z_5 0 (upd (upd (z_5 0) 12 (((z_5 6) ((z_5 0) 9).toNatClampNeg) - (48 : Int32))) 9 (((z_5 0) 9) + (1 : Int32)))))))) (p_X5_takesSign z_4 (120 : Int32)))) (va_up z_3 0 (upd (upd (z_3 0) 11 ((z_3 0) 10)) 12 (1 : Int32))))) := by subst hz_3; exact hp
    refine lv_if_ne (tgt := 45) hx hb dX5_readsPart_40 (by decide) (fun c40 => ?_) (fun c40 => ?_)
    · have hr := hr.trans (if_neg c40)
      have hp := hp.trans (if_neg c40)
      refine lv_aload_n hx hb dX5_readsPart_45 rfl (lv_at hl 0 rfl) ?_
      refine lv_aload_n hx hb dX5_readsPart_46 rfl (lv_at hl 0 rfl) ?_
      refine va_get (D := D) (ci := 5) (v := .int ((z_3 0) 10)) (C := RX5) (T := TX5) (N := 14) hx hb hts inX5 hown hK.1 hP 0 rfl rfl 10 (by decide) (hts (.fieldLink RX5 144 "GrayPointersModel" "number" "I") (List.mem_of_getElem? (i := 3) rfl)) (fun _ h9 => h9) rfl dX5_readsPart_47 ?_
      refine va_put (D := D) (ci := 5) (v := .int ((z_3 0) 10)) (ty := .int) (C := RX5) (T := TX5) (N := 14) hx hb hts inX5 tyX5 tyX5_ok nmX5 hown hK.1 hP hD hS 0 rfl rfl 11 (by decide) (hts (.fieldLink RX5 159 "GrayPointersModel" "wordRead" "I") (List.mem_of_getElem? (i := 4) rfl)) (fun _ h9 => h9) rfl (by decide +kernel) rfl rfl (Nat.le_of_ble_eq_true rfl) dX5_readsPart_50 (fun H locs hP hD hS => ?_)
      have hP : va_P D vwCl [((md 0), mdC md (upd (z_3 0) 11 ((z_3 0) 10))), ((md 1), arC cI 96 (z_3 1)), ((md 2), arC cI 96 (z_3 2)), ((md 3), arC cI 96 (z_3 3)), ((md 4), arC cI 384 (z_3 4)), ((md 5), arC cI 96 (z_3 5)), ((md 6), arC cI 60 (z_3 6))] H := hP
      have hD : va_D A [((md 0), mdC md (upd (z_3 0) 11 ((z_3 0) 10))), ((md 1), arC cI 96 (z_3 1)), ((md 2), arC cI 96 (z_3 2)), ((md 3), arC cI 96 (z_3 3)), ((md 4), arC cI 384 (z_3 4)), ((md 5), arC cI 96 (z_3 5)), ((md 6), arC cI 60 (z_3 6))] := hD
      refine lv_aload_n hx hb dX5_readsPart_53 rfl (lv_at hl 0 rfl) ?_
      refine lv_iconst (v := (1 : Int32)) hx hb dX5_readsPart_54 (by decide) ?_
      refine va_put (D := D) (ci := 5) (v := .int (1 : Int32)) (ty := .int) (C := RX5) (T := TX5) (N := 14) hx hb hts inX5 tyX5 tyX5_ok nmX5 hown hK.1 hP hD hS 0 rfl rfl 12 (by decide) (hts (.fieldLink RX5 147 "GrayPointersModel" "oftenRead" "I") (List.mem_of_getElem? (i := 1) rfl)) (fun _ h9 => h9) rfl (by decide +kernel) rfl rfl (Nat.le_of_ble_eq_true rfl) dX5_readsPart_55 (fun H locs hP hD hS => ?_)
      have hP : va_P D vwCl [((md 0), mdC md (upd (upd (z_3 0) 11 ((z_3 0) 10)) 12 (1 : Int32))), ((md 1), arC cI 96 (z_3 1)), ((md 2), arC cI 96 (z_3 2)), ((md 3), arC cI 96 (z_3 3)), ((md 4), arC cI 384 (z_3 4)), ((md 5), arC cI 96 (z_3 5)), ((md 6), arC cI 60 (z_3 6))] H := hP
      have hD : va_D A [((md 0), mdC md (upd (upd (z_3 0) 11 ((z_3 0) 10)) 12 (1 : Int32))), ((md 1), arC cI 96 (z_3 1)), ((md 2), arC cI 96 (z_3 2)), ((md 3), arC cI 96 (z_3 3)), ((md 4), arC cI 384 (z_3 4)), ((md 5), arC cI 96 (z_3 5)), ((md 6), arC cI 60 (z_3 6))] := hD
      refine lv_aload_n hx hb dX5_readsPart_58 rfl (lv_at hl 0 rfl) ?_
      refine lv_bipush (v := (120 : Int32)) hx hb dX5_readsPart_59 (by decide) ?_
      obtain ⟨z_4, hz_4⟩ : ∃ z : CS, z = (va_up z_3 0 (upd (upd (z_3 0) 11 ((z_3 0) 10)) 12 (1 : Int32))) := ⟨_, rfl⟩
      have e0 : (z_4 0) = (upd (upd (z_3 0) 11 ((z_3 0) 10)) 12 (1 : Int32)) := (congrFun hz_4 0).trans va_up_s
      have e1 : (z_4 1) = (z_3 1) := (congrFun hz_4 1).trans (va_up_n (by decide))
      have e2 : (z_4 2) = (z_3 2) := (congrFun hz_4 2).trans (va_up_n (by decide))
      have e3 : (z_4 3) = (z_3 3) := (congrFun hz_4 3).trans (va_up_n (by decide))
      have e4 : (z_4 4) = (z_3 4) := (congrFun hz_4 4).trans (va_up_n (by decide))
      have e5 : (z_4 5) = (z_3 5) := (congrFun hz_4 5).trans (va_up_n (by decide))
      have e6 : (z_4 6) = (z_3 6) := (congrFun hz_4 6).trans (va_up_n (by decide))
      have hP : va_P D vwCl [((md 0), mdC md (z_4 0)), ((md 1), arC cI 96 (z_4 1)), ((md 2), arC cI 96 (z_4 2)), ((md 3), arC cI 96 (z_4 3)), ((md 4), arC cI 384 (z_4 4)), ((md 5), arC cI 96 (z_4 5)), ((md 6), arC cI 60 (z_4 6))] H := by rw [e0, e1, e2, e3, e4, e5, e6]; exact hP
      have hD : va_D A [((md 0), mdC md (z_4 0)), ((md 1), arC cI 96 (z_4 1)), ((md 2), arC cI 96 (z_4 2)), ((md 3), arC cI 96 (z_4 3)), ((md 4), arC cI 384 (z_4 4)), ((md 5), arC cI 96 (z_4 5)), ((md 6), arC cI 60 (z_4 6))] := by rw [e0, e1, e2, e3, e4, e5, e6]; exact hD
      clear e0 e1 e2 e3 e4 e5 e6
      have hr : (r_X5_readsPart M) = ((fun (z_5 : CS) => (if (r_X5_takesSign z_4 (120 : Int32)) = (0 : Int32) then (1 : Int32) else (if (r_X5_isHere z_5 (50 : Int32) (57 : Int32)) = (0 : Int32) then (0 : Int32) else ((fun (z_6 : CS) => (1 : Int32)) (va_up z_5 0 (upd (upd (z_5 0) 12 (((z_5 6) ((z_5 0) 9).toNatClampNeg) - (48 : Int32))) 9 (((z_5 0) 9) + (1 : Int32)))))))) (p_X5_takesSign z_4 (120 : Int32))) := by subst hz_4; exact hr
      have hp : (p_X5_readsPart M) = ((fun (z_5 : CS) => (if (r_X5_takesSign z_4 (120 : Int32)) = (0 : Int32) then z_5 else (if (r_X5_isHere z_5 (50 : Int32) (57 : Int32)) = (0 : Int32) then z_5 else ((fun (z_6 : CS) => z_6) (va_up z_5 0 (upd (upd (z_5 0) 12 (((z_5 6) ((z_5 0) 9).toNatClampNeg) - (48 : Int32))) 9 (((z_5 0) 9) + (1 : Int32)))))))) (p_X5_takesSign z_4 (120 : Int32))) := by subst hz_4; exact hp
      refine goI (n := 7) (ws' := [((md 0), mdC md ((p_X5_takesSign z_4 (120 : Int32)) 0)), ((md 1), arC cI 96 ((p_X5_takesSign z_4 (120 : Int32)) 1)), ((md 2), arC cI 96 ((p_X5_takesSign z_4 (120 : Int32)) 2)), ((md 3), arC cI 96 ((p_X5_takesSign z_4 (120 : Int32)) 3)), ((md 4), arC cI 384 ((p_X5_takesSign z_4 (120 : Int32)) 4)), ((md 5), arC cI 96 ((p_X5_takesSign z_4 (120 : Int32)) 5)), ((md 6), arC cI 60 ((p_X5_takesSign z_4 (120 : Int32)) 6))]) (rs := []) (va_runV (As := [.int (120 : Int32)]) (rest := []) ⟨hx, hb, hml, hown, hts⟩ (c_X5_takesSign l D cI cC cS md z_4 (120 : Int32) (by rw [hz_4]; exact (sq_w (M := z_3)).si (by rw [hz_3]; exact (sq_rdn z_2 _).si (by rw [hz_2]; exact (sq_ts z_1 _).si (by rw [hz_1]; exact (sq_0 M).si hSI)))) _) (cwV 1 hts gX5_readsPart_X5_takesSign rfl rfl rfl (by decide +kernel) ⟨Nat.le_of_ble_eq_true rfl, Nat.le_of_ble_eq_true rfl⟩) (preV hK hP hD [0, 1, 2, 3, 4, 5, 6] (by decide) rfl 0 5 rfl rfl) rfl rfl hl.1 rfl (lv_room (Nat.le_of_ble_eq_true rfl)) dX5_readsPart_61 ⟨Nat.zero_le _, Nat.zero_le _⟩) hP hD hS hA [0, 1, 2, 3, 4, 5, 6] [] rfl rfl rfl rfl rfl (by decide +kernel) (fstE (as := [(md 0), (md 1), (md 2), (md 3), (md 4), (md 5), (md 6)]) rfl rfl) (fun H locs hP hD hS => ?_)
      obtain ⟨z_5, hz_5⟩ : ∃ z : CS, z = (p_X5_takesSign z_4 (120 : Int32)) := ⟨_, rfl⟩
      rw [← hz_5] at hP hD
      have hr : (r_X5_readsPart M) = (if (r_X5_takesSign z_4 (120 : Int32)) = (0 : Int32) then (1 : Int32) else (if (r_X5_isHere z_5 (50 : Int32) (57 : Int32)) = (0 : Int32) then (0 : Int32) else ((fun (z_6 : CS) => (1 : Int32)) (va_up z_5 0 (upd (upd (z_5 0) 12 (((z_5 6) ((z_5 0) 9).toNatClampNeg) - (48 : Int32))) 9 (((z_5 0) 9) + (1 : Int32))))))) := by subst hz_5; exact hr
      have hp : (p_X5_readsPart M) = (if (r_X5_takesSign z_4 (120 : Int32)) = (0 : Int32) then z_5 else (if (r_X5_isHere z_5 (50 : Int32) (57 : Int32)) = (0 : Int32) then z_5 else ((fun (z_6 : CS) => z_6) (va_up z_5 0 (upd (upd (z_5 0) 12 (((z_5 6) ((z_5 0) 9).toNatClampNeg) - (48 : Int32))) 9 (((z_5 0) 9) + (1 : Int32))))))) := by subst hz_5; exact hp
      refine lv_if_eq (tgt := 106) hx hb dX5_readsPart_64 (by decide) (fun c64 => ?_) (fun c64 => ?_)
      · have hr := hr.trans (if_pos c64)
        have hp := hp.trans (if_pos c64)
        refine lv_iconst (v := (1 : Int32)) hx hb dX5_readsPart_106 (by decide) ?_
        exact endZ (v := (1 : Int32)) hb hx hsg rfl hr.symm (by rw [hp]; exact hP) (by rw [hp]; exact hD) hS dX5_readsPart_107 hlocks
      · have hr := hr.trans (if_neg c64)
        have hp := hp.trans (if_neg c64)
        refine lv_aload_n hx hb dX5_readsPart_67 rfl (lv_at hl 0 rfl) ?_
        refine lv_bipush (v := (50 : Int32)) hx hb dX5_readsPart_68 (by decide) ?_
        refine lv_bipush (v := (57 : Int32)) hx hb dX5_readsPart_70 (by decide) ?_
        refine goI (n := 7) (ws' := [((md 0), mdC md (z_5 0)), ((md 1), arC cI 96 (z_5 1)), ((md 2), arC cI 96 (z_5 2)), ((md 3), arC cI 96 (z_5 3)), ((md 4), arC cI 384 (z_5 4)), ((md 5), arC cI 96 (z_5 5)), ((md 6), arC cI 60 (z_5 6))]) (rs := []) (va_runV (As := [.int (50 : Int32), .int (57 : Int32)]) (rest := []) ⟨hx, hb, hml, hown, hts⟩ (c_X5_isHere l D cI cC cS md z_5 (50 : Int32) (57 : Int32) (by rw [hz_5]; exact (sq_ts z_4 _).si (by rw [hz_4]; exact (sq_w (M := z_3)).si (by rw [hz_3]; exact (sq_rdn z_2 _).si (by rw [hz_2]; exact (sq_ts z_1 _).si (by rw [hz_1]; exact (sq_0 M).si hSI))))) _) (cwV 2 hts gX5_readsPart_X5_isHere rfl rfl rfl (by decide +kernel) ⟨Nat.le_of_ble_eq_true rfl, Nat.le_of_ble_eq_true rfl⟩) (preV hK hP hD [0, 1, 2, 3, 4, 5, 6] (by decide) rfl 0 5 rfl rfl) rfl rfl hl.1 rfl (lv_room (Nat.le_of_ble_eq_true rfl)) dX5_readsPart_72 ⟨Nat.zero_le _, Nat.zero_le _⟩) hP hD hS hA [0, 1, 2, 3, 4, 5, 6] [] rfl rfl rfl rfl rfl (by decide +kernel) rfl (fun H locs hP hD hS => ?_)
        refine lv_if_ne (tgt := 80) hx hb dX5_readsPart_75 (by decide) (fun c75 => ?_) (fun c75 => ?_)
        · have hr := hr.trans (if_neg c75)
          have hp := hp.trans (if_neg c75)
          refine lv_aload_n hx hb dX5_readsPart_80 rfl (lv_at hl 0 rfl) ?_
          refine lv_aload_n hx hb dX5_readsPart_81 rfl (lv_at hl 0 rfl) ?_
          refine va_get (D := D) (ci := 5) (v := .ref (md 6)) (C := RX5) (T := TX5) (N := 14) hx hb hts inX5 hown hK.1 hP 0 rfl rfl 7 (by decide) (hts (.fieldLink RX5 25 "GrayPointersModel" "text" "[I") (List.mem_of_getElem? (i := 5) rfl)) (fun _ h9 => h9) rfl dX5_readsPart_82 ?_
          refine lv_aload_n hx hb dX5_readsPart_85 rfl (lv_at hl 0 rfl) ?_
          refine va_get (D := D) (ci := 5) (v := .int ((z_5 0) 9)) (C := RX5) (T := TX5) (N := 14) hx hb hts inX5 hown hK.1 hP 0 rfl rfl 9 (by decide) (hts (.fieldLink RX5 138 "GrayPointersModel" "spot" "I") (List.mem_of_getElem? (i := 6) rfl)) (fun _ h9 => h9) rfl dX5_readsPart_86 ?_
          refine va_iald hx hb hK.1 hP 6 0 rfl rfl (i := ((z_5 0) 9)) (here_in (by rw [hz_5]; exact (sq_ts z_4 _).si (by rw [hz_4]; exact (sq_w (M := z_3)).si (by rw [hz_3]; exact (sq_rdn z_2 _).si (by rw [hz_2]; exact (sq_ts z_1 _).si (by rw [hz_1]; exact (sq_0 M).si hSI))))) c75) dX5_readsPart_89 ?_
          refine lv_bipush (v := (48 : Int32)) hx hb dX5_readsPart_90 (by decide) ?_
          refine lv_isub hx hb dX5_readsPart_92 ?_
          refine va_put (D := D) (ci := 5) (v := .int (((z_5 6) ((z_5 0) 9).toNatClampNeg) - (48 : Int32))) (ty := .int) (C := RX5) (T := TX5) (N := 14) hx hb hts inX5 tyX5 tyX5_ok nmX5 hown hK.1 hP hD hS 0 rfl rfl 12 (by decide) (hts (.fieldLink RX5 147 "GrayPointersModel" "oftenRead" "I") (List.mem_of_getElem? (i := 1) rfl)) (fun _ h9 => h9) rfl (by decide +kernel) rfl rfl (Nat.le_of_ble_eq_true rfl) dX5_readsPart_93 (fun H locs hP hD hS => ?_)
          have hP : va_P D vwCl [((md 0), mdC md (upd (z_5 0) 12 (((z_5 6) ((z_5 0) 9).toNatClampNeg) - (48 : Int32)))), ((md 1), arC cI 96 (z_5 1)), ((md 2), arC cI 96 (z_5 2)), ((md 3), arC cI 96 (z_5 3)), ((md 4), arC cI 384 (z_5 4)), ((md 5), arC cI 96 (z_5 5)), ((md 6), arC cI 60 (z_5 6))] H := hP
          have hD : va_D A [((md 0), mdC md (upd (z_5 0) 12 (((z_5 6) ((z_5 0) 9).toNatClampNeg) - (48 : Int32)))), ((md 1), arC cI 96 (z_5 1)), ((md 2), arC cI 96 (z_5 2)), ((md 3), arC cI 96 (z_5 3)), ((md 4), arC cI 384 (z_5 4)), ((md 5), arC cI 96 (z_5 5)), ((md 6), arC cI 60 (z_5 6))] := hD
          refine lv_aload_n hx hb dX5_readsPart_96 rfl (lv_at hl 0 rfl) ?_
          refine lv_dup hx hb dX5_readsPart_97 rfl ?_
          refine va_get (D := D) (ci := 5) (v := .int ((z_5 0) 9)) (C := RX5) (T := TX5) (N := 14) hx hb hts inX5 hown hK.1 hP 0 rfl rfl 9 (by decide) (hts (.fieldLink RX5 138 "GrayPointersModel" "spot" "I") (List.mem_of_getElem? (i := 6) rfl)) (fun _ h9 => h9) rfl dX5_readsPart_98 ?_
          refine lv_iconst (v := (1 : Int32)) hx hb dX5_readsPart_101 (by decide) ?_
          refine lv_iadd hx hb dX5_readsPart_102 ?_
          refine va_put (D := D) (ci := 5) (v := .int (((z_5 0) 9) + (1 : Int32))) (ty := .int) (C := RX5) (T := TX5) (N := 14) hx hb hts inX5 tyX5 tyX5_ok nmX5 hown hK.1 hP hD hS 0 rfl rfl 9 (by decide) (hts (.fieldLink RX5 138 "GrayPointersModel" "spot" "I") (List.mem_of_getElem? (i := 6) rfl)) (fun _ h9 => h9) rfl (by decide +kernel) rfl rfl (Nat.le_of_ble_eq_true rfl) dX5_readsPart_103 (fun H locs hP hD hS => ?_)
          have hP : va_P D vwCl [((md 0), mdC md (upd (upd (z_5 0) 12 (((z_5 6) ((z_5 0) 9).toNatClampNeg) - (48 : Int32))) 9 (((z_5 0) 9) + (1 : Int32)))), ((md 1), arC cI 96 (z_5 1)), ((md 2), arC cI 96 (z_5 2)), ((md 3), arC cI 96 (z_5 3)), ((md 4), arC cI 384 (z_5 4)), ((md 5), arC cI 96 (z_5 5)), ((md 6), arC cI 60 (z_5 6))] H := hP
          have hD : va_D A [((md 0), mdC md (upd (upd (z_5 0) 12 (((z_5 6) ((z_5 0) 9).toNatClampNeg) - (48 : Int32))) 9 (((z_5 0) 9) + (1 : Int32)))), ((md 1), arC cI 96 (z_5 1)), ((md 2), arC cI 96 (z_5 2)), ((md 3), arC cI 96 (z_5 3)), ((md 4), arC cI 384 (z_5 4)), ((md 5), arC cI 96 (z_5 5)), ((md 6), arC cI 60 (z_5 6))] := hD
          refine lv_iconst (v := (1 : Int32)) hx hb dX5_readsPart_106 (by decide) ?_
          obtain ⟨z_6, hz_6⟩ : ∃ z : CS, z = (va_up z_5 0 (upd (upd (z_5 0) 12 (((z_5 6) ((z_5 0) 9).toNatClampNeg) - (48 : Int32))) 9 (((z_5 0) 9) + (1 : Int32)))) := ⟨_, rfl⟩
          have e0 : (z_6 0) = (upd (upd (z_5 0) 12 (((z_5 6) ((z_5 0) 9).toNatClampNeg) - (48 : Int32))) 9 (((z_5 0) 9) + (1 : Int32))) := (congrFun hz_6 0).trans va_up_s
          have e1 : (z_6 1) = (z_5 1) := (congrFun hz_6 1).trans (va_up_n (by decide))
          have e2 : (z_6 2) = (z_5 2) := (congrFun hz_6 2).trans (va_up_n (by decide))
          have e3 : (z_6 3) = (z_5 3) := (congrFun hz_6 3).trans (va_up_n (by decide))
          have e4 : (z_6 4) = (z_5 4) := (congrFun hz_6 4).trans (va_up_n (by decide))
          have e5 : (z_6 5) = (z_5 5) := (congrFun hz_6 5).trans (va_up_n (by decide))
          have e6 : (z_6 6) = (z_5 6) := (congrFun hz_6 6).trans (va_up_n (by decide))
          have hP : va_P D vwCl [((md 0), mdC md (z_6 0)), ((md 1), arC cI 96 (z_6 1)), ((md 2), arC cI 96 (z_6 2)), ((md 3), arC cI 96 (z_6 3)), ((md 4), arC cI 384 (z_6 4)), ((md 5), arC cI 96 (z_6 5)), ((md 6), arC cI 60 (z_6 6))] H := by rw [e0, e1, e2, e3, e4, e5, e6]; exact hP
          have hD : va_D A [((md 0), mdC md (z_6 0)), ((md 1), arC cI 96 (z_6 1)), ((md 2), arC cI 96 (z_6 2)), ((md 3), arC cI 96 (z_6 3)), ((md 4), arC cI 384 (z_6 4)), ((md 5), arC cI 96 (z_6 5)), ((md 6), arC cI 60 (z_6 6))] := by rw [e0, e1, e2, e3, e4, e5, e6]; exact hD
          clear e0 e1 e2 e3 e4 e5 e6
          have hr : (r_X5_readsPart M) = (1 : Int32) := by subst hz_6; exact hr
          have hp : (p_X5_readsPart M) = z_6 := by subst hz_6; exact hp
          exact endZ (v := (1 : Int32)) hb hx hsg rfl hr.symm (by rw [hp]; exact hP) (by rw [hp]; exact hD) hS dX5_readsPart_107 hlocks
        · have hr := hr.trans (if_pos c75)
          have hp := hp.trans (if_pos c75)
          refine lv_iconst (v := (0 : Int32)) hx hb dX5_readsPart_78 (by decide) ?_
          exact endZ (v := (0 : Int32)) hb hx hsg rfl hr.symm (by rw [hp]; exact hP) (by rw [hp]; exact hD) hS dX5_readsPart_79 hlocks
    · have hr := hr.trans (if_pos c40)
      have hp := hp.trans (if_pos c40)
      refine lv_iconst (v := (0 : Int32)) hx hb dX5_readsPart_43 (by decide) ?_
      exact endZ (v := (0 : Int32)) hb hx hsg rfl hr.symm (by rw [hp]; exact hP) (by rw [hp]; exact hD) hS dX5_readsPart_44 hlocks
  · have hr := hr.trans (if_neg c16)
    have hp := hp.trans (if_neg c16)
    refine lv_aload_n hx hb dX5_readsPart_19 rfl (lv_at hl 0 rfl) ?_
    refine lv_iconst (v := (1 : Int32)) hx hb dX5_readsPart_20 (by decide) ?_
    refine goI (n := 7) (ws' := [((md 0), mdC md ((p_X5_readsNumber z_2 (1 : Int32)) 0)), ((md 1), arC cI 96 ((p_X5_readsNumber z_2 (1 : Int32)) 1)), ((md 2), arC cI 96 ((p_X5_readsNumber z_2 (1 : Int32)) 2)), ((md 3), arC cI 96 ((p_X5_readsNumber z_2 (1 : Int32)) 3)), ((md 4), arC cI 384 ((p_X5_readsNumber z_2 (1 : Int32)) 4)), ((md 5), arC cI 96 ((p_X5_readsNumber z_2 (1 : Int32)) 5)), ((md 6), arC cI 60 ((p_X5_readsNumber z_2 (1 : Int32)) 6))]) (rs := []) (va_runV (As := [.int (1 : Int32)]) (rest := []) ⟨hx, hb, hml, hown, hts⟩ (c_X5_readsNumber l D cI cC cS md z_2 (1 : Int32) (by rw [hz_2]; exact (sq_ts z_1 _).si (by rw [hz_1]; exact (sq_0 M).si hSI)) _) (cwV 1 hts gX5_readsPart_X5_readsNumber rfl rfl rfl (by decide +kernel) ⟨Nat.le_of_ble_eq_true rfl, Nat.le_of_ble_eq_true rfl⟩) (preV hK hP hD [0, 1, 2, 3, 4, 5, 6] (by decide) rfl 0 5 rfl rfl) rfl rfl hl.1 rfl (lv_room (Nat.le_of_ble_eq_true rfl)) dX5_readsPart_21 ⟨Nat.zero_le _, Nat.zero_le _⟩) hP hD hS hA [0, 1, 2, 3, 4, 5, 6] [] rfl rfl rfl rfl rfl (by decide +kernel) (fstE (as := [(md 0), (md 1), (md 2), (md 3), (md 4), (md 5), (md 6)]) rfl rfl) (fun H locs hP hD hS => ?_)
    obtain ⟨z_7, hz_7⟩ : ∃ z : CS, z = (p_X5_readsNumber z_2 (1 : Int32)) := ⟨_, rfl⟩
    rw [← hz_7] at hP hD
    have hr : (r_X5_readsPart M) = ((fun (z_8 : CS) => (r_X5_readsNumber z_2 (1 : Int32))) (va_up z_7 0 (upd (z_7 0) 13 ((z_7 0) 10)))) := by subst hz_7; exact hr
    have hp : (p_X5_readsPart M) = ((fun (z_8 : CS) => z_8) (va_up z_7 0 (upd (z_7 0) 13 ((z_7 0) 10)))) := by subst hz_7; exact hp
    refine lv_istore_n (lv' := [(1, .int (r_X5_readsNumber z_2 (1 : Int32))), (0, .ref (md 0))]) hx hb dX5_readsPart_24 rfl hl (by decide) rfl (fun ls hl => ?_)
    refine lv_aload_n hx hb dX5_readsPart_25 rfl (lv_at hl 1 rfl) ?_
    refine lv_aload_n hx hb dX5_readsPart_26 rfl (lv_at hl 1 rfl) ?_
    refine va_get (D := D) (ci := 5) (v := .int ((z_7 0) 10)) (C := RX5) (T := TX5) (N := 14) hx hb hts inX5 hown hK.1 hP 0 rfl rfl 10 (by decide) (hts (.fieldLink RX5 144 "GrayPointersModel" "number" "I") (List.mem_of_getElem? (i := 3) rfl)) (fun _ h9 => h9) rfl dX5_readsPart_27 ?_
    refine va_put (D := D) (ci := 5) (v := .int ((z_7 0) 10)) (ty := .int) (C := RX5) (T := TX5) (N := 14) hx hb hts inX5 tyX5 tyX5_ok nmX5 hown hK.1 hP hD hS 0 rfl rfl 13 (by decide) (hts (.fieldLink RX5 150 "GrayPointersModel" "timesRead" "I") (List.mem_of_getElem? (i := 2) rfl)) (fun _ h9 => h9) rfl (by decide +kernel) rfl rfl (Nat.le_of_ble_eq_true rfl) dX5_readsPart_30 (fun H locs hP hD hS => ?_)
    have hP : va_P D vwCl [((md 0), mdC md (upd (z_7 0) 13 ((z_7 0) 10))), ((md 1), arC cI 96 (z_7 1)), ((md 2), arC cI 96 (z_7 2)), ((md 3), arC cI 96 (z_7 3)), ((md 4), arC cI 384 (z_7 4)), ((md 5), arC cI 96 (z_7 5)), ((md 6), arC cI 60 (z_7 6))] H := hP
    have hD : va_D A [((md 0), mdC md (upd (z_7 0) 13 ((z_7 0) 10))), ((md 1), arC cI 96 (z_7 1)), ((md 2), arC cI 96 (z_7 2)), ((md 3), arC cI 96 (z_7 3)), ((md 4), arC cI 384 (z_7 4)), ((md 5), arC cI 96 (z_7 5)), ((md 6), arC cI 60 (z_7 6))] := hD
    refine lv_iload_n hx hb dX5_readsPart_33 rfl (lv_at hl 0 rfl) ?_
    obtain ⟨z_8, hz_8⟩ : ∃ z : CS, z = (va_up z_7 0 (upd (z_7 0) 13 ((z_7 0) 10))) := ⟨_, rfl⟩
    have e0 : (z_8 0) = (upd (z_7 0) 13 ((z_7 0) 10)) := (congrFun hz_8 0).trans va_up_s
    have e1 : (z_8 1) = (z_7 1) := (congrFun hz_8 1).trans (va_up_n (by decide))
    have e2 : (z_8 2) = (z_7 2) := (congrFun hz_8 2).trans (va_up_n (by decide))
    have e3 : (z_8 3) = (z_7 3) := (congrFun hz_8 3).trans (va_up_n (by decide))
    have e4 : (z_8 4) = (z_7 4) := (congrFun hz_8 4).trans (va_up_n (by decide))
    have e5 : (z_8 5) = (z_7 5) := (congrFun hz_8 5).trans (va_up_n (by decide))
    have e6 : (z_8 6) = (z_7 6) := (congrFun hz_8 6).trans (va_up_n (by decide))
    have hP : va_P D vwCl [((md 0), mdC md (z_8 0)), ((md 1), arC cI 96 (z_8 1)), ((md 2), arC cI 96 (z_8 2)), ((md 3), arC cI 96 (z_8 3)), ((md 4), arC cI 384 (z_8 4)), ((md 5), arC cI 96 (z_8 5)), ((md 6), arC cI 60 (z_8 6))] H := by rw [e0, e1, e2, e3, e4, e5, e6]; exact hP
    have hD : va_D A [((md 0), mdC md (z_8 0)), ((md 1), arC cI 96 (z_8 1)), ((md 2), arC cI 96 (z_8 2)), ((md 3), arC cI 96 (z_8 3)), ((md 4), arC cI 384 (z_8 4)), ((md 5), arC cI 96 (z_8 5)), ((md 6), arC cI 60 (z_8 6))] := by rw [e0, e1, e2, e3, e4, e5, e6]; exact hD
    clear e0 e1 e2 e3 e4 e5 e6
    have hr : (r_X5_readsPart M) = (r_X5_readsNumber z_2 (1 : Int32)) := by subst hz_8; exact hr
    have hp : (p_X5_readsPart M) = z_8 := by subst hz_8; exact hp
    exact endZ (v := (r_X5_readsNumber z_2 (1 : Int32))) hb hx hsg (by first | exact rdn_b _ _ | exact (rfl : narrow .boolean (.int 0) = .int 0) | exact (rfl : narrow .boolean (.int 1) = .int 1)) hr.symm (by rw [hp]; exact hP) (by rw [hp]; exact hD) hS dX5_readsPart_34 hlocks
theorem sq_rp (M : CS) : SQ M (p_X5_readsPart M) := by
  unfold p_X5_readsPart
  have h1 := sq_0 M
  generalize va_up M 0 (upd (upd (M 0) 12 (0 : Int32)) 13 (0 : Int32)) = z1 at h1
  dsimp only
  have h2 := h1.trans (sq_ts z1 (46 : Int32))
  generalize p_X5_takesSign z1 (46 : Int32) = z2 at h2
  by_cases c1 : r_X5_takesSign z1 (46 : Int32) = (0 : Int32)
  · rw [if_pos c1]
    have h3 := h2.trans (sq_rdn z2 (0 : Int32))
    generalize p_X5_readsNumber z2 (0 : Int32) = z3 at h3
    by_cases c2 : r_X5_readsNumber z2 (0 : Int32) = (0 : Int32)
    · rw [if_pos c2]; exact h3
    rw [if_neg c2]
    have h4 := h3.trans (sq_w (M := z3) (a := z3 0 10) (b := 1))
    generalize va_up z3 0 (upd (upd (z3 0) 11 (z3 0 10)) 12 (1 : Int32)) = z4 at h4
    have h5 := h4.trans (sq_ts z4 (120 : Int32))
    generalize p_X5_takesSign z4 (120 : Int32) = z5 at h5
    by_cases c3 : r_X5_takesSign z4 (120 : Int32) = (0 : Int32)
    · rw [if_pos c3]; exact h5
    rw [if_neg c3]
    by_cases c4 : r_X5_isHere z5 (50 : Int32) (57 : Int32) = (0 : Int32)
    · rw [if_pos c4]; exact h5
    rw [if_neg c4]
    refine h5.trans (sq_up rfl ?_ rfl)
    show (z5 0 9).toInt ≤ ((z5 0 9) + (1 : Int32)).toInt
    rw [here_inc c4]; omega
  · rw [if_neg c1]
    have h3 := h2.trans (sq_rdn z2 (1 : Int32))
    generalize p_X5_readsNumber z2 (1 : Int32) = z3 at h3
    exact h3.trans (sq_up rfl (Int.le_refl _) rfl)
theorem flt_step {M1 z : CS} {more : Int32} {fu : Nat} (c : ¬ more = 0) (h9 : (M1 0 9).toInt ≤ (z 0 9).toInt) (hz : SI z) (h : (more = 0 ∨ ((M1 0 9).toInt ≤ 60 ∧ 61 - (M1 0 9).toInt < ((fu + 1 : Nat) : Int))) ∧ 0 < fu + 1) : (r_X5_takesSign z (44 : Int32) = 0 ∨ ((p_X5_takesSign z (44 : Int32) 0 9).toInt ≤ 60 ∧ 61 - (p_X5_takesSign z (44 : Int32) 0 9).toInt < (fu : Int))) ∧ 0 < fu := by
  obtain ⟨h1, h2⟩ := h.1.resolve_left c
  refine ⟨?_, by omega⟩
  by_cases d : r_X5_takesSign z (44 : Int32) = 0
  · exact Or.inl d
  · obtain ⟨e1, e2⟩ := ts_inc hz d
    exact Or.inr ⟨e2, by omega⟩
def lr_X5_fault_7  : Nat → Int32 → CS → Int32
  | 0, _, _ => 0
  | fu + 1, more, M1 => (if more = (0 : Int32) then ((fun (x53_s0 : Int32) => x53_s0) (if ((M1 0) 9) = ((M1 0) 8) then (-5 : Int32) else ((M1 0) 9))) else ((fun (z_2 : CS) => (if (r_X5_readsPart M1) = (0 : Int32) then ((z_2 0) 9) else ((fun (z_3 : CS) => (lr_X5_fault_7 fu (r_X5_takesSign z_2 (44 : Int32)) z_3)) (p_X5_takesSign z_2 (44 : Int32))))) (p_X5_readsPart M1)))
def lp_X5_fault_7  : Nat → Int32 → CS → CS
  | 0, _, M1 => M1
  | fu + 1, more, M1 => (if more = (0 : Int32) then ((fun (x53_s0 : Int32) => M1) (if ((M1 0) 9) = ((M1 0) 8) then (-5 : Int32) else ((M1 0) 9))) else ((fun (z_2 : CS) => (if (r_X5_readsPart M1) = (0 : Int32) then z_2 else ((fun (z_3 : CS) => (lp_X5_fault_7 fu (r_X5_takesSign z_2 (44 : Int32)) z_3)) (p_X5_takesSign z_2 (44 : Int32))))) (p_X5_readsPart M1)))
def r_X5_fault (M : CS) : Int32 := ((fun (z_1 : CS) => (lr_X5_fault_7 62 (1 : Int32) z_1)) (va_up M 0 (upd (M 0) 9 (0 : Int32))))
def p_X5_fault (M : CS) : CS := ((fun (z_1 : CS) => (lp_X5_fault_7 62 (1 : Int32) z_1)) (va_up M 0 (upd (M 0) 9 (0 : Int32))))
abbrev rm_X5_fault : Room := { frames := 4, cells := 0, slots := 0, locals := 90 }
set_option maxHeartbeats 4000000 in
set_option maxRecDepth 100000 in
theorem c_X5_fault (l : Launch) (D : va_G) (cI cC cS : ClassId) (md : Nat → Nat) (M : CS) (h60 : (M 0 8).toInt ≤ 60) : CI l D cI cC cS yX5_fault wsX5_fault rm_X5_fault [.ref (md 0)] (mdW cI md M) (mdW cI md (p_X5_fault M)) (r_X5_fault M) := by
  intro sz
  refine startC (cc := cX5_fault) (maxL := 2) (ret := (some .int)) (by decide) rfl (Nat.le_of_ble_eq_true rfl) ?_
  intro p e s m args below meth c hx hb hml hsg hts hown hlocks hin hK A hA hS hP hD ls hl
  have hown : s.vm.findClass RX5 = some m.cls := hown
  have hl : lv_has ls 2 [(0, .ref (md 0))] := hl
  have hP : va_P D vwCl [((md 0), mdC md (M 0)), ((md 1), arC cI 96 (M 1)), ((md 2), arC cI 96 (M 2)), ((md 3), arC cI 96 (M 3)), ((md 4), arC cI 384 (M 4)), ((md 5), arC cI 96 (M 5)), ((md 6), arC cI 60 (M 6))] s.heap := hP
  have hD : va_D A [((md 0), mdC md (M 0)), ((md 1), arC cI 96 (M 1)), ((md 2), arC cI 96 (M 2)), ((md 3), arC cI 96 (M 3)), ((md 4), arC cI 384 (M 4)), ((md 5), arC cI 96 (M 5)), ((md 6), arC cI 60 (M 6))] := hD
  have inX5 : ∀ w ∈ wsX50, w ∈ wsX5_fault := fun _ h => List.mem_cons_of_mem _ (List.mem_append_right _ h)
  have hr : (r_X5_fault M) = ((fun (z_1 : CS) => (lr_X5_fault_7 62 (1 : Int32) z_1)) (va_up M 0 (upd (M 0) 9 (0 : Int32)))) := rfl
  have hp : (p_X5_fault M) = ((fun (z_1 : CS) => (lp_X5_fault_7 62 (1 : Int32) z_1)) (va_up M 0 (upd (M 0) 9 (0 : Int32)))) := rfl
  refine lv_aload_n hx hb dX5_fault_0 rfl (lv_at hl 0 rfl) ?_
  refine lv_iconst (v := (0 : Int32)) hx hb dX5_fault_1 (by decide) ?_
  refine va_put (D := D) (ci := 5) (v := .int (0 : Int32)) (ty := .int) (C := RX5) (T := TX5) (N := 14) hx hb hts inX5 tyX5 tyX5_ok nmX5 hown hK.1 hP hD hS 0 rfl rfl 9 (by decide) (hts (.fieldLink RX5 138 "GrayPointersModel" "spot" "I") (List.mem_of_getElem? (i := 1) rfl)) (fun _ h9 => h9) rfl (by decide +kernel) rfl rfl (Nat.le_of_ble_eq_true rfl) dX5_fault_2 (fun H locs hP hD hS => ?_)
  have hP : va_P D vwCl [((md 0), mdC md (upd (M 0) 9 (0 : Int32))), ((md 1), arC cI 96 (M 1)), ((md 2), arC cI 96 (M 2)), ((md 3), arC cI 96 (M 3)), ((md 4), arC cI 384 (M 4)), ((md 5), arC cI 96 (M 5)), ((md 6), arC cI 60 (M 6))] H := hP
  have hD : va_D A [((md 0), mdC md (upd (M 0) 9 (0 : Int32))), ((md 1), arC cI 96 (M 1)), ((md 2), arC cI 96 (M 2)), ((md 3), arC cI 96 (M 3)), ((md 4), arC cI 384 (M 4)), ((md 5), arC cI 96 (M 5)), ((md 6), arC cI 60 (M 6))] := hD
  refine lv_iconst (v := (1 : Int32)) hx hb dX5_fault_5 (by decide) ?_
  refine lv_istore_n (lv' := [(1, .int (1 : Int32)), (0, .ref (md 0))]) hx hb dX5_fault_6 rfl hl (by decide) rfl (fun ls hl => ?_)
  obtain ⟨z_1, hz_1⟩ : ∃ z : CS, z = (va_up M 0 (upd (M 0) 9 (0 : Int32))) := ⟨_, rfl⟩
  have e0 : (z_1 0) = (upd (M 0) 9 (0 : Int32)) := (congrFun hz_1 0).trans va_up_s
  have e1 : (z_1 1) = (M 1) := (congrFun hz_1 1).trans (va_up_n (by decide))
  have e2 : (z_1 2) = (M 2) := (congrFun hz_1 2).trans (va_up_n (by decide))
  have e3 : (z_1 3) = (M 3) := (congrFun hz_1 3).trans (va_up_n (by decide))
  have e4 : (z_1 4) = (M 4) := (congrFun hz_1 4).trans (va_up_n (by decide))
  have e5 : (z_1 5) = (M 5) := (congrFun hz_1 5).trans (va_up_n (by decide))
  have e6 : (z_1 6) = (M 6) := (congrFun hz_1 6).trans (va_up_n (by decide))
  have hP : va_P D vwCl [((md 0), mdC md (z_1 0)), ((md 1), arC cI 96 (z_1 1)), ((md 2), arC cI 96 (z_1 2)), ((md 3), arC cI 96 (z_1 3)), ((md 4), arC cI 384 (z_1 4)), ((md 5), arC cI 96 (z_1 5)), ((md 6), arC cI 60 (z_1 6))] H := by rw [e0, e1, e2, e3, e4, e5, e6]; exact hP
  have hD : va_D A [((md 0), mdC md (z_1 0)), ((md 1), arC cI 96 (z_1 1)), ((md 2), arC cI 96 (z_1 2)), ((md 3), arC cI 96 (z_1 3)), ((md 4), arC cI 384 (z_1 4)), ((md 5), arC cI 96 (z_1 5)), ((md 6), arC cI 60 (z_1 6))] := by rw [e0, e1, e2, e3, e4, e5, e6]; exact hD
  clear e0 e1 e2 e3 e4 e5 e6
  have hr : (r_X5_fault M) = (lr_X5_fault_7 62 (1 : Int32) z_1) := by subst hz_1; exact hr
  have hp : (p_X5_fault M) = (lp_X5_fault_7 62 (1 : Int32) z_1) := by subst hz_1; exact hp
  have L_7 : ∀ (fu : Nat) (more : Int32) (M1 : CS) (H : Heap) (locs : List Loc), ((more = 0 ∨ ((M1 0 9).toInt ≤ 60 ∧ 61 - (M1 0 9).toInt < (fu : Int))) ∧ 0 < fu) → SI M1 → (r_X5_fault M) = (lr_X5_fault_7 fu more M1) → (p_X5_fault M) = (lp_X5_fault_7 fu more M1) → va_P D vwCl [((md 0), mdC md (M1 0)), ((md 1), arC cI 96 (M1 1)), ((md 2), arC cI 96 (M1 2)), ((md 3), arC cI 96 (M1 3)), ((md 4), arC cI 384 (M1 4)), ((md 5), arC cI 96 (M1 5)), ((md 6), arC cI 60 (M1 6))] H → va_D A [((md 0), mdC md (M1 0)), ((md 1), arC cI 96 (M1 1)), ((md 2), arC cI 96 (M1 2)), ((md 3), arC cI 96 (M1 3)), ((md 4), arC cI 384 (M1 4)), ((md 5), arC cI 96 (M1 5)), ((md 6), arC cI 60 (M1 6))] → va_S A s.heap H locs → ∀ ls, lv_has ls 2 [(0, .ref (md 0)), (1, .int more)] → W p l e rm_X5_fault s m args below meth c H locs 0 0 (MQ below (QI D (mdW cI md (p_X5_fault M)) (r_X5_fault M) A) args s 0 0 A) (F0 m 7 ls []) := by
    intro fu
    induction fu with
    | zero => intro more M1 H locs hm; exact absurd hm.2 (Nat.lt_irrefl 0)
    | succ fu ih_7 =>
      intro more M1 H locs hm hSI1 hr hp hP hD hS ls hl
      have hr : (r_X5_fault M) = (if more = (0 : Int32) then ((fun (x53_s0 : Int32) => x53_s0) (if ((M1 0) 9) = ((M1 0) 8) then (-5 : Int32) else ((M1 0) 9))) else ((fun (z_2 : CS) => (if (r_X5_readsPart M1) = (0 : Int32) then ((z_2 0) 9) else ((fun (z_3 : CS) => (lr_X5_fault_7 fu (r_X5_takesSign z_2 (44 : Int32)) z_3)) (p_X5_takesSign z_2 (44 : Int32))))) (p_X5_readsPart M1))) := hr
      have hp : (p_X5_fault M) = (if more = (0 : Int32) then ((fun (x53_s0 : Int32) => M1) (if ((M1 0) 9) = ((M1 0) 8) then (-5 : Int32) else ((M1 0) 9))) else ((fun (z_2 : CS) => (if (r_X5_readsPart M1) = (0 : Int32) then z_2 else ((fun (z_3 : CS) => (lp_X5_fault_7 fu (r_X5_takesSign z_2 (44 : Int32)) z_3)) (p_X5_takesSign z_2 (44 : Int32))))) (p_X5_readsPart M1))) := hp
      refine lv_iload_n hx hb dX5_fault_7 rfl (lv_at hl 1 rfl) ?_
      refine lv_if_eq (tgt := 33) hx hb dX5_fault_8 (by decide) (fun c8 => ?_) (fun c8 => ?_)
      · have hr := hr.trans (if_pos c8)
        have hp := hp.trans (if_pos c8)
        refine lv_aload_n hx hb dX5_fault_33 rfl (lv_at hl 0 rfl) ?_
        refine va_get (D := D) (ci := 5) (v := .int ((M1 0) 9)) (C := RX5) (T := TX5) (N := 14) hx hb hts inX5 hown hK.1 hP 0 rfl rfl 9 (by decide) (hts (.fieldLink RX5 138 "GrayPointersModel" "spot" "I") (List.mem_of_getElem? (i := 1) rfl)) (fun _ h9 => h9) rfl dX5_fault_34 ?_
        refine lv_aload_n hx hb dX5_fault_37 rfl (lv_at hl 0 rfl) ?_
        refine va_get (D := D) (ci := 5) (v := .int ((M1 0) 8)) (C := RX5) (T := TX5) (N := 14) hx hb hts inX5 hown hK.1 hP 0 rfl rfl 8 (by decide) (hts (.fieldLink RX5 135 "GrayPointersModel" "textLong" "I") (List.mem_of_getElem? (i := 2) rfl)) (fun _ h9 => h9) rfl dX5_fault_38 ?_
        have J_53 : ∀ (x53_s0 : Int32) (H : Heap) (locs : List Loc), x53_s0 = (if ((M1 0) 9) = ((M1 0) 8) then (-5 : Int32) else ((M1 0) 9)) → va_P D vwCl [((md 0), mdC md (M1 0)), ((md 1), arC cI 96 (M1 1)), ((md 2), arC cI 96 (M1 2)), ((md 3), arC cI 96 (M1 3)), ((md 4), arC cI 384 (M1 4)), ((md 5), arC cI 96 (M1 5)), ((md 6), arC cI 60 (M1 6))] H → va_D A [((md 0), mdC md (M1 0)), ((md 1), arC cI 96 (M1 1)), ((md 2), arC cI 96 (M1 2)), ((md 3), arC cI 96 (M1 3)), ((md 4), arC cI 384 (M1 4)), ((md 5), arC cI 96 (M1 5)), ((md 6), arC cI 60 (M1 6))] → va_S A s.heap H locs → ∀ ls, lv_has ls 2 [] → W p l e rm_X5_fault s m args below meth c H locs 0 0 (MQ below (QI D (mdW cI md (p_X5_fault M)) (r_X5_fault M) A) args s 0 0 A) (F0 m 53 ls [.int x53_s0]) := by
          intro x53_s0 H locs ex53_s0 hP hD hS ls hl
          have hr : (r_X5_fault M) = x53_s0 := by subst ex53_s0; exact hr
          have hp : (p_X5_fault M) = M1 := by subst ex53_s0; exact hp
          exact endI (v := x53_s0) hb hx hsg hr.symm (by rw [hp]; exact hP) (by rw [hp]; exact hD) hS dX5_fault_53 hlocks
        refine lv_icmp_ne (tgt := 49) hx hb dX5_fault_41 (by decide) (fun c41 => ?_) (fun c41 => ?_)
        · refine lv_aload_n hx hb dX5_fault_49 rfl (lv_at hl 0 rfl) ?_
          refine va_get (D := D) (ci := 5) (v := .int ((M1 0) 9)) (C := RX5) (T := TX5) (N := 14) hx hb hts inX5 hown hK.1 hP 0 rfl rfl 9 (by decide) (hts (.fieldLink RX5 138 "GrayPointersModel" "spot" "I") (List.mem_of_getElem? (i := 1) rfl)) (fun _ h9 => h9) rfl dX5_fault_50 ?_
          exact J_53 ((M1 0) 9) _ _ (if_neg c41).symm hP hD hS ls (lv_sub hl [] rfl)
        · refine lv_bipush (v := (-5 : Int32)) hx hb dX5_fault_44 (by decide) ?_
          refine lv_goto (tgt := 53) hx hb dX5_fault_46 (by decide) ?_
          exact J_53 (-5 : Int32) _ _ (if_pos c41).symm hP hD hS ls (lv_sub hl [] rfl)
      · have hr := hr.trans (if_neg c8)
        have hp := hp.trans (if_neg c8)
        refine lv_aload_n hx hb dX5_fault_11 rfl (lv_at hl 0 rfl) ?_
        refine goI (n := 7) (ws' := [((md 0), mdC md ((p_X5_readsPart M1) 0)), ((md 1), arC cI 96 ((p_X5_readsPart M1) 1)), ((md 2), arC cI 96 ((p_X5_readsPart M1) 2)), ((md 3), arC cI 96 ((p_X5_readsPart M1) 3)), ((md 4), arC cI 384 ((p_X5_readsPart M1) 4)), ((md 5), arC cI 96 ((p_X5_readsPart M1) 5)), ((md 6), arC cI 60 ((p_X5_readsPart M1) 6))]) (rs := []) (va_runV (As := []) (rest := []) ⟨hx, hb, hml, hown, hts⟩ (c_X5_readsPart l D cI cC cS md M1 hSI1 _) (cwV 0 hts gX5_fault_X5_readsPart rfl rfl rfl (by decide +kernel) ⟨Nat.le_of_ble_eq_true rfl, Nat.le_of_ble_eq_true rfl⟩) (preV hK hP hD [0, 1, 2, 3, 4, 5, 6] (by decide) rfl 0 5 rfl rfl) rfl rfl hl.1 rfl (lv_room (Nat.le_of_ble_eq_true rfl)) dX5_fault_12 ⟨Nat.zero_le _, Nat.zero_le _⟩) hP hD hS hA [0, 1, 2, 3, 4, 5, 6] [] rfl rfl rfl rfl rfl (by decide +kernel) (fstE (as := [(md 0), (md 1), (md 2), (md 3), (md 4), (md 5), (md 6)]) rfl rfl) (fun H locs hP hD hS => ?_)
        obtain ⟨z_2, hz_2⟩ : ∃ z : CS, z = (p_X5_readsPart M1) := ⟨_, rfl⟩
        rw [← hz_2] at hP hD
        have hr : (r_X5_fault M) = (if (r_X5_readsPart M1) = (0 : Int32) then ((z_2 0) 9) else ((fun (z_3 : CS) => (lr_X5_fault_7 fu (r_X5_takesSign z_2 (44 : Int32)) z_3)) (p_X5_takesSign z_2 (44 : Int32)))) := by subst hz_2; exact hr
        have hp : (p_X5_fault M) = (if (r_X5_readsPart M1) = (0 : Int32) then z_2 else ((fun (z_3 : CS) => (lp_X5_fault_7 fu (r_X5_takesSign z_2 (44 : Int32)) z_3)) (p_X5_takesSign z_2 (44 : Int32)))) := by subst hz_2; exact hp
        refine lv_if_ne (tgt := 23) hx hb dX5_fault_15 (by decide) (fun c15 => ?_) (fun c15 => ?_)
        · have hr := hr.trans (if_neg c15)
          have hp := hp.trans (if_neg c15)
          refine lv_aload_n hx hb dX5_fault_23 rfl (lv_at hl 0 rfl) ?_
          refine lv_bipush (v := (44 : Int32)) hx hb dX5_fault_24 (by decide) ?_
          refine goI (n := 7) (ws' := [((md 0), mdC md ((p_X5_takesSign z_2 (44 : Int32)) 0)), ((md 1), arC cI 96 ((p_X5_takesSign z_2 (44 : Int32)) 1)), ((md 2), arC cI 96 ((p_X5_takesSign z_2 (44 : Int32)) 2)), ((md 3), arC cI 96 ((p_X5_takesSign z_2 (44 : Int32)) 3)), ((md 4), arC cI 384 ((p_X5_takesSign z_2 (44 : Int32)) 4)), ((md 5), arC cI 96 ((p_X5_takesSign z_2 (44 : Int32)) 5)), ((md 6), arC cI 60 ((p_X5_takesSign z_2 (44 : Int32)) 6))]) (rs := []) (va_runV (As := [.int (44 : Int32)]) (rest := []) ⟨hx, hb, hml, hown, hts⟩ (c_X5_takesSign l D cI cC cS md z_2 (44 : Int32) (by subst_vars; exact (sq_rp M1).si hSI1) _) (cwV 1 hts gX5_fault_X5_takesSign rfl rfl rfl (by decide +kernel) ⟨Nat.le_of_ble_eq_true rfl, Nat.le_of_ble_eq_true rfl⟩) (preV hK hP hD [0, 1, 2, 3, 4, 5, 6] (by decide) rfl 0 5 rfl rfl) rfl rfl hl.1 rfl (lv_room (Nat.le_of_ble_eq_true rfl)) dX5_fault_26 ⟨Nat.zero_le _, Nat.zero_le _⟩) hP hD hS hA [0, 1, 2, 3, 4, 5, 6] [] rfl rfl rfl rfl rfl (by decide +kernel) (fstE (as := [(md 0), (md 1), (md 2), (md 3), (md 4), (md 5), (md 6)]) rfl rfl) (fun H locs hP hD hS => ?_)
          obtain ⟨z_3, hz_3⟩ : ∃ z : CS, z = (p_X5_takesSign z_2 (44 : Int32)) := ⟨_, rfl⟩
          rw [← hz_3] at hP hD
          have hr : (r_X5_fault M) = (lr_X5_fault_7 fu (r_X5_takesSign z_2 (44 : Int32)) z_3) := by subst hz_3; exact hr
          have hp : (p_X5_fault M) = (lp_X5_fault_7 fu (r_X5_takesSign z_2 (44 : Int32)) z_3) := by subst hz_3; exact hp
          refine lv_istore_n (lv' := [(1, .int (r_X5_takesSign z_2 (44 : Int32))), (0, .ref (md 0))]) hx hb dX5_fault_29 rfl hl (by decide) rfl (fun ls hl => ?_)
          refine lv_goto (tgt := 7) hx hb dX5_fault_30 (by decide) ?_
          exact ih_7 (r_X5_takesSign z_2 (44 : Int32)) z_3 _ _ (by subst hz_3; subst hz_2; exact (by subst_vars; exact flt_step c8 (sq_rp M1).2.1 ((sq_rp M1).si hSI1) hm)) (by subst hz_3; subst hz_2; exact (by subst_vars; exact (sq_ts _ _).si ((sq_rp M1).si hSI1))) hr hp hP hD hS ls (lv_sub hl [1, 0] rfl)
        · have hr := hr.trans (if_pos c15)
          have hp := hp.trans (if_pos c15)
          refine lv_aload_n hx hb dX5_fault_18 rfl (lv_at hl 0 rfl) ?_
          refine va_get (D := D) (ci := 5) (v := .int ((z_2 0) 9)) (C := RX5) (T := TX5) (N := 14) hx hb hts inX5 hown hK.1 hP 0 rfl rfl 9 (by decide) (hts (.fieldLink RX5 138 "GrayPointersModel" "spot" "I") (List.mem_of_getElem? (i := 1) rfl)) (fun _ h9 => h9) rfl dX5_fault_19 ?_
          exact endI (v := ((z_2 0) 9)) hb hx hsg hr.symm (by rw [hp]; exact hP) (by rw [hp]; exact hD) hS dX5_fault_22 hlocks
  exact L_7 _ (1 : Int32) z_1 _ _ (by subst_vars; exact ⟨Or.inr ⟨(show (0 : Int32).toInt ≤ 60 by decide), (show 61 - (0 : Int32).toInt < ((62 : Nat) : Int) by decide)⟩, by decide⟩) (by subst_vars; exact ⟨(by decide : 0 ≤ (0 : Int32).toInt), h60⟩) hr hp hP hD hS ls (lv_sub hl [1, 0] rfl)
