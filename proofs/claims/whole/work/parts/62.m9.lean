theorem of_9 {x : Int32} : 0 ≤ x.toInt → x.toInt ≤ 9 → 0 ≤ x.toInt ∧ x.toInt ≤ 9 := fun a b => ⟨a, b⟩
theorem often_in (M : CS) : 0 ≤ (p_X5_readsPart M 0 12).toInt ∧ (p_X5_readsPart M 0 12).toInt ≤ 9 := by
  have ts : ∀ (z : CS) (a : Int32), p_X5_takesSign z a 0 12 = z 0 12 := fun z a => rfl
  have rn : ∀ (z : CS) (a : Int32), p_X5_readsNumber z a 0 12 = z 0 12 := by
    intro z a
    unfold p_X5_readsNumber
    dsimp only
    repeat' split
    all_goals rfl
  unfold p_X5_readsPart
  have h1 : va_up M 0 (upd (upd (M 0) 12 (0 : Int32)) 13 (0 : Int32)) 0 12 = 0 := rfl
  generalize va_up M 0 (upd (upd (M 0) 12 (0 : Int32)) 13 (0 : Int32)) = z1 at h1
  dsimp only
  have h2 := (ts z1 (46 : Int32)).trans h1
  generalize p_X5_takesSign z1 (46 : Int32) = z2 at h2
  by_cases c1 : r_X5_takesSign z1 (46 : Int32) = (0 : Int32)
  · rw [if_pos c1]
    have h3 := (rn z2 (0 : Int32)).trans h2
    generalize p_X5_readsNumber z2 (0 : Int32) = z3 at h3
    by_cases c2 : r_X5_readsNumber z2 (0 : Int32) = (0 : Int32)
    · rw [if_pos c2, h3]; decide
    rw [if_neg c2]
    have h4 : va_up z3 0 (upd (upd (z3 0) 11 (z3 0 10)) 12 (1 : Int32)) 0 12 = 1 := rfl
    generalize va_up z3 0 (upd (upd (z3 0) 11 (z3 0 10)) 12 (1 : Int32)) = z4 at h4
    have h5 := (ts z4 (120 : Int32)).trans h4
    generalize p_X5_takesSign z4 (120 : Int32) = z5 at h5
    by_cases c3 : r_X5_takesSign z4 (120 : Int32) = (0 : Int32)
    · rw [if_pos c3, h5]; decide
    rw [if_neg c3]
    by_cases c4 : r_X5_isHere z5 (50 : Int32) (57 : Int32) = (0 : Int32)
    · rw [if_pos c4, h5]; decide
    rw [if_neg c4]
    show 0 ≤ ((z5 6 (z5 0 9).toNatClampNeg) - (48 : Int32)).toInt ∧ ((z5 6 (z5 0 9).toNatClampNeg) - (48 : Int32)).toInt ≤ 9
    have q : (50 : Int32) ≤ (z5 6 (z5 0 9).toNatClampNeg) ∧ (z5 6 (z5 0 9).toNatClampNeg) ≤ (57 : Int32) := by
      unfold r_X5_isHere at c4
      by_cases d : (z5 0 8) ≤ (z5 0 9)
      · rw [if_pos d] at c4; exact absurd rfl c4
      rw [if_neg d] at c4
      have e : ¬ r_X4_isWithin (z5 6 (z5 0 9).toNatClampNeg) 50 57 = 0 := by
        intro e
        rw [in_w, if_pos e] at c4; exact c4 rfl
      obtain ⟨n, n1, n2, n3⟩ := within_nI (lo := 50) (hi := 57) (by decide) e (by decide)
      rw [n3]
      exact ⟨nI_le (a := 50) n1 (by omega), nI_le (b := 57) n2 (by decide)⟩
    rw [Int32.le_iff_toInt_le, Int32.le_iff_toInt_le, show (50 : Int32).toInt = 50 by decide, show (57 : Int32).toInt = 57 by decide] at q
    rw [sub_toI (by rw [show (48 : Int32).toInt = 48 by decide]; omega) (by rw [show (48 : Int32).toInt = 48 by decide]; omega), show (48 : Int32).toInt = 48 by decide]
    omega
  · rw [if_neg c1]
    have h3 := (rn z2 (1 : Int32)).trans h2
    generalize p_X5_readsNumber z2 (1 : Int32) = z3 at h3
    show 0 ≤ (z3 0 12).toInt ∧ (z3 0 12).toInt ≤ 9
    rw [h3]; decide
theorem mi_1 {M z : CS} (e : z 1 = M 1) (h : MI M) : MI z := by unfold MI; rw [e]; exact h
theorem pm_mi {M : CS} {a : Int32} (h : MI M) : MI (p_X5_passMany M a) := by
  unfold p_X5_passMany; exact lpm_mi _ _ _ h
theorem dt_w {M2 : CS} {i : Int32} (h : MI M2) (hbd : (M2 1 5).toInt + ((M2 0 12).toInt - i.toInt) ≤ 20) (hc : ¬ (M2 0 12) ≤ i) : 0 ≤ (M2 1 5).toInt ∧ (M2 1 5).toInt < 20 := by
  have := lt_of_nle hc
  have := h.2.2.1
  omega
theorem dt_i0 {M1 : CS} (hMI : MI M1) (c31 : ¬ (20 : Int32) < (p_X5_readsPart M1 1 5) + (p_X5_readsPart M1 0 12)) : (p_X5_readsPart M1 1 5).toInt + ((p_X5_readsPart M1 0 12).toInt - (0 : Int32).toInt) ≤ 20 ∧ MI (p_X5_readsPart M1) := by
  have e : MI (p_X5_readsPart M1) := mi_1 ((sq_rp M1).2.2.1 1 (by decide)) hMI
  have h5 := e.2.2
  have h12 := often_in M1
  rw [Int32.lt_iff_toInt_lt, add_toI (by omega) (by omega), show (20 : Int32).toInt = 20 by decide] at c31
  rw [zero_toI]
  exact ⟨by omega, e⟩
theorem dt_m {x : Int32} (h : 0 ≤ x.toInt ∧ x.toInt ≤ 9) : x.toInt - (0 : Int32).toInt < ((21 : Nat) : Int) ∧ 0 < 21 := by
  rw [zero_toI]; exact ⟨by omega, by decide⟩
theorem dt_0 {M1 T : CS} {a : Int32} (h : T 0 = p_X5_readsPart M1 0) : (p_X5_passMany T a) 0 = p_X5_readsPart M1 0 := (pm_c (by decide)).trans h
theorem dt_9 {M1 T : CS} {a : Int32} (h : T 0 = p_X5_readsPart M1 0) : (M1 0 9).toInt ≤ ((p_X5_passMany T a) 0 9).toInt := by rw [dt_0 h]; exact (sq_rp M1).2.1
theorem dt_si {M1 T : CS} {a : Int32} (hSI : SI M1) (h : T 0 = p_X5_readsPart M1 0) : SI (p_X5_passMany T a) := by
  have := (sq_rp M1).si hSI
  unfold SI at this ⊢
  rw [dt_0 h]; exact this
theorem dt_bd {M2 : CS} {i x : Int32} (h : MI M2) (hbd : (M2 1 5).toInt + ((M2 0 12).toInt - i.toInt) ≤ 20) (hc : ¬ (M2 0 12) ≤ i) : (p_X5_waits M2 x 1 5).toInt + ((p_X5_waits M2 x 0 12).toInt - (i + 1).toInt) ≤ 20 := by
  have hw := dt_w h hbd hc
  obtain ⟨-, e5, e0⟩ := mi_waits (x := x) h hw
  rw [e5, e0 0 (by decide), inc_toI (lt_of_nle hc), add_toI (by rw [one_toI]; omega) (by rw [one_toI]; omega), one_toI]
  omega
def q_X5_doesText_56  : Nat → Int32 → CS → CS
  | 0, _, M2 => M2
  | fu + 1, i, M2 => (if ((M2 0) 12) ≤ i then M2 else ((fun (z_3 : CS) => (q_X5_doesText_56 fu (i + (1 : Int32)) z_3)) (p_X5_waits M2 ((M2 0) 11))))
def lr_X5_doesText_9  : Nat → Int32 → Int32 → CS → Int32
  | 0, _, _, _ => 0
  | fu + 1, n, more, M1 => (if more = (0 : Int32) then n else ((fun (z_2 : CS) => (if (20 : Int32) < (((z_2 1) 5) + ((z_2 0) 12)) then (-3 : Int32) else (if (((z_2 1) 2) + ((z_2 0) 13)) ≤ (1000000 : Int32) then ((fun (T56_M2 : CS) => ((fun (z_4 : CS) => ((fun (z_5 : CS) => (lr_X5_doesText_9 fu (n + ((z_4 0) 12)) (r_X5_takesSign z_4 (44 : Int32)) z_5)) (p_X5_takesSign z_4 (44 : Int32)))) (p_X5_passMany T56_M2 ((T56_M2 0) 13)))) (q_X5_doesText_56 21 (0 : Int32) z_2)) else (-3 : Int32)))) (p_X5_readsPart M1)))
def lp_X5_doesText_9  : Nat → Int32 → Int32 → CS → CS
  | 0, _, _, M1 => M1
  | fu + 1, n, more, M1 => (if more = (0 : Int32) then M1 else ((fun (z_2 : CS) => (if (20 : Int32) < (((z_2 1) 5) + ((z_2 0) 12)) then z_2 else (if (((z_2 1) 2) + ((z_2 0) 13)) ≤ (1000000 : Int32) then ((fun (T56_M2 : CS) => ((fun (z_4 : CS) => ((fun (z_5 : CS) => (lp_X5_doesText_9 fu (n + ((z_4 0) 12)) (r_X5_takesSign z_4 (44 : Int32)) z_5)) (p_X5_takesSign z_4 (44 : Int32)))) (p_X5_passMany T56_M2 ((T56_M2 0) 13)))) (q_X5_doesText_56 21 (0 : Int32) z_2)) else z_2))) (p_X5_readsPart M1)))
def r_X5_doesText (M : CS) : Int32 := ((fun (z_1 : CS) => (lr_X5_doesText_9 62 (0 : Int32) (1 : Int32) z_1)) (va_up M 0 (upd (M 0) 9 (0 : Int32))))
def p_X5_doesText (M : CS) : CS := ((fun (z_1 : CS) => (lp_X5_doesText_9 62 (0 : Int32) (1 : Int32) z_1)) (va_up M 0 (upd (M 0) 9 (0 : Int32))))
abbrev rm_X5_doesText : Room := { frames := 7, cells := 0, slots := 0, locals := 159 }
set_option maxHeartbeats 4000000 in
set_option maxRecDepth 100000 in
theorem c_X5_doesText (l : Launch) (D : va_G) (cI cC cS : ClassId) (md : Nat → Nat) (M : CS) (hSI : SI M) (hMI : MI M) : CI l D cI cC cS yX5_doesText wsX5_doesText rm_X5_doesText [.ref (md 0)] (mdW cI md M) (mdW cI md (p_X5_doesText M)) (r_X5_doesText M) := by
  intro sz
  refine startC (cc := cX5_doesText) (maxL := 5) (ret := (some .int)) (by decide) rfl (Nat.le_of_ble_eq_true rfl) ?_
  intro p e s m args below meth c hx hb hml hsg hts hown hlocks hin hK A hA hS hP hD ls hl
  have hown : s.vm.findClass RX5 = some m.cls := hown
  have hl : lv_has ls 5 [(0, .ref (md 0))] := hl
  have hP : va_P D vwCl [((md 0), mdC md (M 0)), ((md 1), arC cI 96 (M 1)), ((md 2), arC cI 96 (M 2)), ((md 3), arC cI 96 (M 3)), ((md 4), arC cI 384 (M 4)), ((md 5), arC cI 96 (M 5)), ((md 6), arC cI 60 (M 6))] s.heap := hP
  have hD : va_D A [((md 0), mdC md (M 0)), ((md 1), arC cI 96 (M 1)), ((md 2), arC cI 96 (M 2)), ((md 3), arC cI 96 (M 3)), ((md 4), arC cI 384 (M 4)), ((md 5), arC cI 96 (M 5)), ((md 6), arC cI 60 (M 6))] := hD
  have inX5 : ∀ w ∈ wsX50, w ∈ wsX5_doesText := fun _ h => List.mem_cons_of_mem _ (List.mem_append_right _ h)
  have hr : (r_X5_doesText M) = ((fun (z_1 : CS) => (lr_X5_doesText_9 62 (0 : Int32) (1 : Int32) z_1)) (va_up M 0 (upd (M 0) 9 (0 : Int32)))) := rfl
  have hp : (p_X5_doesText M) = ((fun (z_1 : CS) => (lp_X5_doesText_9 62 (0 : Int32) (1 : Int32) z_1)) (va_up M 0 (upd (M 0) 9 (0 : Int32)))) := rfl
  refine lv_aload_n hx hb dX5_doesText_0 rfl (lv_at hl 0 rfl) ?_
  refine lv_iconst (v := (0 : Int32)) hx hb dX5_doesText_1 (by decide) ?_
  refine va_put (D := D) (ci := 5) (v := .int (0 : Int32)) (ty := .int) (C := RX5) (T := TX5) (N := 14) hx hb hts inX5 tyX5 tyX5_ok nmX5 hown hK.1 hP hD hS 0 rfl rfl 9 (by decide) (hts (.fieldLink RX5 138 "GrayPointersModel" "spot" "I") (List.mem_of_getElem? (i := 1) rfl)) (fun _ h9 => h9) rfl (by decide +kernel) rfl rfl (Nat.le_of_ble_eq_true rfl) dX5_doesText_2 (fun H locs hP hD hS => ?_)
  have hP : va_P D vwCl [((md 0), mdC md (upd (M 0) 9 (0 : Int32))), ((md 1), arC cI 96 (M 1)), ((md 2), arC cI 96 (M 2)), ((md 3), arC cI 96 (M 3)), ((md 4), arC cI 384 (M 4)), ((md 5), arC cI 96 (M 5)), ((md 6), arC cI 60 (M 6))] H := hP
  have hD : va_D A [((md 0), mdC md (upd (M 0) 9 (0 : Int32))), ((md 1), arC cI 96 (M 1)), ((md 2), arC cI 96 (M 2)), ((md 3), arC cI 96 (M 3)), ((md 4), arC cI 384 (M 4)), ((md 5), arC cI 96 (M 5)), ((md 6), arC cI 60 (M 6))] := hD
  refine lv_iconst (v := (0 : Int32)) hx hb dX5_doesText_5 (by decide) ?_
  refine lv_istore_n (lv' := [(1, .int (0 : Int32)), (0, .ref (md 0))]) hx hb dX5_doesText_6 rfl hl (by decide) rfl (fun ls hl => ?_)
  refine lv_iconst (v := (1 : Int32)) hx hb dX5_doesText_7 (by decide) ?_
  refine lv_istore_n (lv' := [(2, .int (1 : Int32)), (1, .int (0 : Int32)), (0, .ref (md 0))]) hx hb dX5_doesText_8 rfl hl (by decide) rfl (fun ls hl => ?_)
  obtain ⟨z_1, hz_1⟩ : ∃ z : CS, z = (va_up M 0 (upd (M 0) 9 (0 : Int32))) := ⟨_, rfl⟩
  have e0 : (z_1 0) = (upd (M 0) 9 (0 : Int32)) := (congrFun hz_1 0).trans va_up_s
  have e1 : (z_1 1) = (M 1) := (congrFun hz_1 1).trans (va_up_n (by decide))
  have e2 : (z_1 2) = (M 2) := (congrFun hz_1 2).trans (va_up_n (by decide))
  have e3 : (z_1 3) = (M 3) := (congrFun hz_1 3).trans (va_up_n (by decide))
  have e4 : (z_1 4) = (M 4) := (congrFun hz_1 4).trans (va_up_n (by decide))
  have e5 : (z_1 5) = (M 5) := (congrFun hz_1 5).trans (va_up_n (by decide))
  have e6 : (z_1 6) = (M 6) := (congrFun hz_1 6).trans (va_up_n (by decide))
  have hP : va_P D vwCl [((md 0), mdC md (z_1 0)), ((md 1), arC cI 96 (z_1 1)), ((md 2), arC cI 96 (z_1 2)), ((md 3), arC cI 96 (z_1 3)), ((md 4), arC cI 384 (z_1 4)), ((md 5), arC cI 96 (z_1 5)), ((md 6), arC cI 60 (z_1 6))] H := by rw [e0, e1, e2, e3, e4, e5, e6]; exact hP
  have hD : va_D A [((md 0), mdC md (z_1 0)), ((md 1), arC cI 96 (z_1 1)), ((md 2), arC cI 96 (z_1 2)), ((md 3), arC cI 96 (z_1 3)), ((md 4), arC cI 384 (z_1 4)), ((md 5), arC cI 96 (z_1 5)), ((md 6), arC cI 60 (z_1 6))] := by rw [e0, e1, e2, e3, e4, e5, e6]; exact hD
  clear e0 e1 e2 e3 e4 e5 e6
  have hr : (r_X5_doesText M) = (lr_X5_doesText_9 62 (0 : Int32) (1 : Int32) z_1) := by subst hz_1; exact hr
  have hp : (p_X5_doesText M) = (lp_X5_doesText_9 62 (0 : Int32) (1 : Int32) z_1) := by subst hz_1; exact hp
  have L_9 : ∀ (fu : Nat) (n : Int32) (more : Int32) (M1 : CS) (H : Heap) (locs : List Loc), ((more = 0 ∨ ((M1 0 9).toInt ≤ 60 ∧ 61 - (M1 0 9).toInt < (fu : Int))) ∧ 0 < fu) → SI M1 → MI M1 → (r_X5_doesText M) = (lr_X5_doesText_9 fu n more M1) → (p_X5_doesText M) = (lp_X5_doesText_9 fu n more M1) → va_P D vwCl [((md 0), mdC md (M1 0)), ((md 1), arC cI 96 (M1 1)), ((md 2), arC cI 96 (M1 2)), ((md 3), arC cI 96 (M1 3)), ((md 4), arC cI 384 (M1 4)), ((md 5), arC cI 96 (M1 5)), ((md 6), arC cI 60 (M1 6))] H → va_D A [((md 0), mdC md (M1 0)), ((md 1), arC cI 96 (M1 1)), ((md 2), arC cI 96 (M1 2)), ((md 3), arC cI 96 (M1 3)), ((md 4), arC cI 384 (M1 4)), ((md 5), arC cI 96 (M1 5)), ((md 6), arC cI 60 (M1 6))] → va_S A s.heap H locs → ∀ ls, lv_has ls 5 [(0, .ref (md 0)), (1, .int n), (2, .int more)] → W p l e rm_X5_doesText s m args below meth c H locs 0 0 (MQ below (QI D (mdW cI md (p_X5_doesText M)) (r_X5_doesText M) A) args s 0 0 A) (F0 m 9 ls []) := by
    intro fu
    induction fu with
    | zero => intro n more M1 H locs hm; exact absurd hm.2 (Nat.lt_irrefl 0)
    | succ fu ih_9 =>
      intro n more M1 H locs hm hSI1 hMI1 hr hp hP hD hS ls hl
      have hr : (r_X5_doesText M) = (if more = (0 : Int32) then n else ((fun (z_2 : CS) => (if (20 : Int32) < (((z_2 1) 5) + ((z_2 0) 12)) then (-3 : Int32) else (if (((z_2 1) 2) + ((z_2 0) 13)) ≤ (1000000 : Int32) then ((fun (T56_M2 : CS) => ((fun (z_4 : CS) => ((fun (z_5 : CS) => (lr_X5_doesText_9 fu (n + ((z_4 0) 12)) (r_X5_takesSign z_4 (44 : Int32)) z_5)) (p_X5_takesSign z_4 (44 : Int32)))) (p_X5_passMany T56_M2 ((T56_M2 0) 13)))) (q_X5_doesText_56 21 (0 : Int32) z_2)) else (-3 : Int32)))) (p_X5_readsPart M1))) := hr
      have hp : (p_X5_doesText M) = (if more = (0 : Int32) then M1 else ((fun (z_2 : CS) => (if (20 : Int32) < (((z_2 1) 5) + ((z_2 0) 12)) then z_2 else (if (((z_2 1) 2) + ((z_2 0) 13)) ≤ (1000000 : Int32) then ((fun (T56_M2 : CS) => ((fun (z_4 : CS) => ((fun (z_5 : CS) => (lp_X5_doesText_9 fu (n + ((z_4 0) 12)) (r_X5_takesSign z_4 (44 : Int32)) z_5)) (p_X5_takesSign z_4 (44 : Int32)))) (p_X5_passMany T56_M2 ((T56_M2 0) 13)))) (q_X5_doesText_56 21 (0 : Int32) z_2)) else z_2))) (p_X5_readsPart M1))) := hp
      refine lv_iload_n hx hb dX5_doesText_9 rfl (lv_at hl 2 rfl) ?_
      refine lv_if_eq (tgt := 104) hx hb dX5_doesText_10 (by decide) (fun c10 => ?_) (fun c10 => ?_)
      · have hr := hr.trans (if_pos c10)
        have hp := hp.trans (if_pos c10)
        refine lv_iload_n hx hb dX5_doesText_104 rfl (lv_at hl 1 rfl) ?_
        exact endI (v := n) hb hx hsg hr.symm (by rw [hp]; exact hP) (by rw [hp]; exact hD) hS dX5_doesText_105 hlocks
      · have hr := hr.trans (if_neg c10)
        have hp := hp.trans (if_neg c10)
        refine lv_aload_n hx hb dX5_doesText_13 rfl (lv_at hl 0 rfl) ?_
        refine goI (n := 7) (ws' := [((md 0), mdC md ((p_X5_readsPart M1) 0)), ((md 1), arC cI 96 ((p_X5_readsPart M1) 1)), ((md 2), arC cI 96 ((p_X5_readsPart M1) 2)), ((md 3), arC cI 96 ((p_X5_readsPart M1) 3)), ((md 4), arC cI 384 ((p_X5_readsPart M1) 4)), ((md 5), arC cI 96 ((p_X5_readsPart M1) 5)), ((md 6), arC cI 60 ((p_X5_readsPart M1) 6))]) (rs := []) (va_runV (As := []) (rest := []) ⟨hx, hb, hml, hown, hts⟩ (c_X5_readsPart l D cI cC cS md M1 hSI1 _) (cwV 0 hts gX5_doesText_X5_readsPart rfl rfl rfl (by decide +kernel) ⟨Nat.le_of_ble_eq_true rfl, Nat.le_of_ble_eq_true rfl⟩) (preV hK hP hD [0, 1, 2, 3, 4, 5, 6] (by decide) rfl 0 5 rfl rfl) rfl rfl hl.1 rfl (lv_room (Nat.le_of_ble_eq_true rfl)) dX5_doesText_14 ⟨Nat.zero_le _, Nat.zero_le _⟩) hP hD hS hA [0, 1, 2, 3, 4, 5, 6] [] rfl rfl rfl rfl rfl (by decide +kernel) (fstE (as := [(md 0), (md 1), (md 2), (md 3), (md 4), (md 5), (md 6)]) rfl rfl) (fun H locs hP hD hS => ?_)
        obtain ⟨z_2, hz_2⟩ : ∃ z : CS, z = (p_X5_readsPart M1) := ⟨_, rfl⟩
        rw [← hz_2] at hP hD
        have hr : (r_X5_doesText M) = (if (20 : Int32) < (((z_2 1) 5) + ((z_2 0) 12)) then (-3 : Int32) else (if (((z_2 1) 2) + ((z_2 0) 13)) ≤ (1000000 : Int32) then ((fun (T56_M2 : CS) => ((fun (z_4 : CS) => ((fun (z_5 : CS) => (lr_X5_doesText_9 fu (n + ((z_4 0) 12)) (r_X5_takesSign z_4 (44 : Int32)) z_5)) (p_X5_takesSign z_4 (44 : Int32)))) (p_X5_passMany T56_M2 ((T56_M2 0) 13)))) (q_X5_doesText_56 21 (0 : Int32) z_2)) else (-3 : Int32))) := by subst hz_2; exact hr
        have hp : (p_X5_doesText M) = (if (20 : Int32) < (((z_2 1) 5) + ((z_2 0) 12)) then z_2 else (if (((z_2 1) 2) + ((z_2 0) 13)) ≤ (1000000 : Int32) then ((fun (T56_M2 : CS) => ((fun (z_4 : CS) => ((fun (z_5 : CS) => (lp_X5_doesText_9 fu (n + ((z_4 0) 12)) (r_X5_takesSign z_4 (44 : Int32)) z_5)) (p_X5_takesSign z_4 (44 : Int32)))) (p_X5_passMany T56_M2 ((T56_M2 0) 13)))) (q_X5_doesText_56 21 (0 : Int32) z_2)) else z_2)) := by subst hz_2; exact hp
        refine lv_istore_n (lv' := [(3, .int (r_X5_readsPart M1)), (0, .ref (md 0)), (1, .int n), (2, .int more)]) hx hb dX5_doesText_17 rfl hl (by decide) rfl (fun ls hl => ?_)
        refine lv_aload_n hx hb dX5_doesText_18 rfl (lv_at hl 1 rfl) ?_
        refine va_get (D := D) (ci := 5) (v := .ref (md 1)) (C := RX5) (T := TX5) (N := 14) hx hb hts inX5 hown hK.1 hP 0 rfl rfl 0 (by decide) (hts (.fieldLink RX5 7 "GrayPointersModel" "all" "[I") (List.mem_of_getElem? (i := 2) rfl)) (fun _ h9 => h9) rfl dX5_doesText_19 ?_
        refine lv_iconst (v := (5 : Int32)) hx hb dX5_doesText_22 (by decide) ?_
        refine va_iald hx hb hK.1 hP 1 0 rfl rfl (i := (5 : Int32)) (vp_in_iff.mpr (by decide)) dX5_doesText_23 ?_
        refine W.eq (g2 := F0 m 24 ls [.int ((z_2 1) 5)]) rfl ?_
        refine lv_aload_n hx hb dX5_doesText_24 rfl (lv_at hl 1 rfl) ?_
        refine va_get (D := D) (ci := 5) (v := .int ((z_2 0) 12)) (C := RX5) (T := TX5) (N := 14) hx hb hts inX5 hown hK.1 hP 0 rfl rfl 12 (by decide) (hts (.fieldLink RX5 147 "GrayPointersModel" "oftenRead" "I") (List.mem_of_getElem? (i := 3) rfl)) (fun _ h9 => h9) rfl dX5_doesText_25 ?_
        refine lv_iadd hx hb dX5_doesText_28 ?_
        refine lv_bipush (v := (20 : Int32)) hx hb dX5_doesText_29 (by decide) ?_
        refine lv_icmp_gt (tgt := 50) hx hb dX5_doesText_31 (by decide) (fun c31 => ?_) (fun c31 => ?_)
        · have hr := hr.trans (if_pos c31)
          have hp := hp.trans (if_pos c31)
          refine lv_bipush (v := (-3 : Int32)) hx hb dX5_doesText_50 (by decide) ?_
          exact endI (v := (-3 : Int32)) hb hx hsg hr.symm (by rw [hp]; exact hP) (by rw [hp]; exact hD) hS dX5_doesText_52 hlocks
        · have hr := hr.trans (if_neg c31)
          have hp := hp.trans (if_neg c31)
          refine lv_aload_n hx hb dX5_doesText_34 rfl (lv_at hl 1 rfl) ?_
          refine va_get (D := D) (ci := 5) (v := .ref (md 1)) (C := RX5) (T := TX5) (N := 14) hx hb hts inX5 hown hK.1 hP 0 rfl rfl 0 (by decide) (hts (.fieldLink RX5 7 "GrayPointersModel" "all" "[I") (List.mem_of_getElem? (i := 2) rfl)) (fun _ h9 => h9) rfl dX5_doesText_35 ?_
          refine lv_iconst (v := (2 : Int32)) hx hb dX5_doesText_38 (by decide) ?_
          refine va_iald hx hb hK.1 hP 1 0 rfl rfl (i := (2 : Int32)) (vp_in_iff.mpr (by decide)) dX5_doesText_39 ?_
          refine W.eq (g2 := F0 m 40 ls [.int ((z_2 1) 2)]) rfl ?_
          refine lv_aload_n hx hb dX5_doesText_40 rfl (lv_at hl 1 rfl) ?_
          refine va_get (D := D) (ci := 5) (v := .int ((z_2 0) 13)) (C := RX5) (T := TX5) (N := 14) hx hb hts inX5 hown hK.1 hP 0 rfl rfl 13 (by decide) (hts (.fieldLink RX5 150 "GrayPointersModel" "timesRead" "I") (List.mem_of_getElem? (i := 4) rfl)) (fun _ h9 => h9) rfl dX5_doesText_41 ?_
          refine lv_iadd hx hb dX5_doesText_44 ?_
          refine lv_ldc (v := (1000000 : Int32)) hx hb hown (hts (.constant RX5 131 1000000) (List.mem_of_getElem? (i := 5) rfl)) dX5_doesText_45 ?_
          refine lv_icmp_le (tgt := 53) hx hb dX5_doesText_47 (by decide) (fun c47 => ?_) (fun c47 => ?_)
          · have hr := hr.trans (if_pos c47)
            have hp := hp.trans (if_pos c47)
            refine lv_iconst (v := (0 : Int32)) hx hb dX5_doesText_53 (by decide) ?_
            refine lv_istore (lv' := [(4, .int (0 : Int32)), (3, .int (r_X5_readsPart M1)), (0, .ref (md 0)), (1, .int n), (2, .int more)]) hx hb dX5_doesText_54 hl (by decide) rfl (fun ls hl => ?_)
            obtain ⟨T56_M2, hT56_M2⟩ : ∃ T : CS, T = (q_X5_doesText_56 21 (0 : Int32) z_2) := ⟨_, rfl⟩
            have K_56 : ∀ (H : Heap) (locs : List Loc), MI T56_M2 → T56_M2 0 = p_X5_readsPart M1 0 → va_P D vwCl [((md 0), mdC md (T56_M2 0)), ((md 1), arC cI 96 (T56_M2 1)), ((md 2), arC cI 96 (T56_M2 2)), ((md 3), arC cI 96 (T56_M2 3)), ((md 4), arC cI 384 (T56_M2 4)), ((md 5), arC cI 96 (T56_M2 5)), ((md 6), arC cI 60 (T56_M2 6))] H → va_D A [((md 0), mdC md (T56_M2 0)), ((md 1), arC cI 96 (T56_M2 1)), ((md 2), arC cI 96 (T56_M2 2)), ((md 3), arC cI 96 (T56_M2 3)), ((md 4), arC cI 384 (T56_M2 4)), ((md 5), arC cI 96 (T56_M2 5)), ((md 6), arC cI 60 (T56_M2 6))] → va_S A s.heap H locs → ∀ ls, lv_has ls 5 [(0, .ref (md 0)), (1, .int n)] → W p l e rm_X5_doesText s m args below meth c H locs 0 0 (MQ below (QI D (mdW cI md (p_X5_doesText M)) (r_X5_doesText M) A) args s 0 0 A) (F0 m 79 ls []) := by
              intro H locs hMI3 hz0 hP hD hS ls hl
              have hr : (r_X5_doesText M) = ((fun (z_4 : CS) => ((fun (z_5 : CS) => (lr_X5_doesText_9 fu (n + ((z_4 0) 12)) (r_X5_takesSign z_4 (44 : Int32)) z_5)) (p_X5_takesSign z_4 (44 : Int32)))) (p_X5_passMany T56_M2 ((T56_M2 0) 13))) := by subst hT56_M2; exact hr
              have hp : (p_X5_doesText M) = ((fun (z_4 : CS) => ((fun (z_5 : CS) => (lp_X5_doesText_9 fu (n + ((z_4 0) 12)) (r_X5_takesSign z_4 (44 : Int32)) z_5)) (p_X5_takesSign z_4 (44 : Int32)))) (p_X5_passMany T56_M2 ((T56_M2 0) 13))) := by subst hT56_M2; exact hp
              refine lv_aload_n hx hb dX5_doesText_79 rfl (lv_at hl 0 rfl) ?_
              refine lv_aload_n hx hb dX5_doesText_80 rfl (lv_at hl 0 rfl) ?_
              refine va_get (D := D) (ci := 5) (v := .int ((T56_M2 0) 13)) (C := RX5) (T := TX5) (N := 14) hx hb hts inX5 hown hK.1 hP 0 rfl rfl 13 (by decide) (hts (.fieldLink RX5 150 "GrayPointersModel" "timesRead" "I") (List.mem_of_getElem? (i := 4) rfl)) (fun _ h9 => h9) rfl dX5_doesText_81 ?_
              refine goV (n := 7) (ws' := [((md 0), mdC md ((p_X5_passMany T56_M2 ((T56_M2 0) 13)) 0)), ((md 1), arC cI 96 ((p_X5_passMany T56_M2 ((T56_M2 0) 13)) 1)), ((md 2), arC cI 96 ((p_X5_passMany T56_M2 ((T56_M2 0) 13)) 2)), ((md 3), arC cI 96 ((p_X5_passMany T56_M2 ((T56_M2 0) 13)) 3)), ((md 4), arC cI 384 ((p_X5_passMany T56_M2 ((T56_M2 0) 13)) 4)), ((md 5), arC cI 96 ((p_X5_passMany T56_M2 ((T56_M2 0) 13)) 5)), ((md 6), arC cI 60 ((p_X5_passMany T56_M2 ((T56_M2 0) 13)) 6))]) (rs := []) (va_runV (As := [.int ((T56_M2 0) 13)]) (rest := []) ⟨hx, hb, hml, hown, hts⟩ (c_X5_passMany l D cI cC cS md T56_M2 ((T56_M2 0) 13) hMI3 _) (cwV 1 hts gX5_doesText_X5_passMany rfl rfl rfl (by decide +kernel) ⟨Nat.le_of_ble_eq_true rfl, Nat.le_of_ble_eq_true rfl⟩) (preV hK hP hD [0, 1, 2, 3, 4, 5, 6] (by decide) rfl 0 5 rfl rfl) rfl rfl hl.1 rfl (lv_room (Nat.le_of_ble_eq_true rfl)) dX5_doesText_84 ⟨Nat.zero_le _, Nat.zero_le _⟩) hP hD hS hA [0, 1, 2, 3, 4, 5, 6] [] rfl rfl rfl rfl rfl (by decide +kernel) (fstE (as := [(md 0), (md 1), (md 2), (md 3), (md 4), (md 5), (md 6)]) rfl rfl) (fun H locs hP hD hS => ?_)
              obtain ⟨z_4, hz_4⟩ : ∃ z : CS, z = (p_X5_passMany T56_M2 ((T56_M2 0) 13)) := ⟨_, rfl⟩
              rw [← hz_4] at hP hD
              have hr : (r_X5_doesText M) = ((fun (z_5 : CS) => (lr_X5_doesText_9 fu (n + ((z_4 0) 12)) (r_X5_takesSign z_4 (44 : Int32)) z_5)) (p_X5_takesSign z_4 (44 : Int32))) := by subst hz_4; exact hr
              have hp : (p_X5_doesText M) = ((fun (z_5 : CS) => (lp_X5_doesText_9 fu (n + ((z_4 0) 12)) (r_X5_takesSign z_4 (44 : Int32)) z_5)) (p_X5_takesSign z_4 (44 : Int32))) := by subst hz_4; exact hp
              refine lv_iload_n hx hb dX5_doesText_87 rfl (lv_at hl 1 rfl) ?_
              refine lv_aload_n hx hb dX5_doesText_88 rfl (lv_at hl 0 rfl) ?_
              refine va_get (D := D) (ci := 5) (v := .int ((z_4 0) 12)) (C := RX5) (T := TX5) (N := 14) hx hb hts inX5 hown hK.1 hP 0 rfl rfl 12 (by decide) (hts (.fieldLink RX5 147 "GrayPointersModel" "oftenRead" "I") (List.mem_of_getElem? (i := 3) rfl)) (fun _ h9 => h9) rfl dX5_doesText_89 ?_
              refine lv_iadd hx hb dX5_doesText_92 ?_
              refine lv_istore_n (lv' := [(1, .int (n + ((z_4 0) 12))), (0, .ref (md 0))]) hx hb dX5_doesText_93 rfl hl (by decide) rfl (fun ls hl => ?_)
              refine lv_aload_n hx hb dX5_doesText_94 rfl (lv_at hl 1 rfl) ?_
              refine lv_bipush (v := (44 : Int32)) hx hb dX5_doesText_95 (by decide) ?_
              refine goI (n := 7) (ws' := [((md 0), mdC md ((p_X5_takesSign z_4 (44 : Int32)) 0)), ((md 1), arC cI 96 ((p_X5_takesSign z_4 (44 : Int32)) 1)), ((md 2), arC cI 96 ((p_X5_takesSign z_4 (44 : Int32)) 2)), ((md 3), arC cI 96 ((p_X5_takesSign z_4 (44 : Int32)) 3)), ((md 4), arC cI 384 ((p_X5_takesSign z_4 (44 : Int32)) 4)), ((md 5), arC cI 96 ((p_X5_takesSign z_4 (44 : Int32)) 5)), ((md 6), arC cI 60 ((p_X5_takesSign z_4 (44 : Int32)) 6))]) (rs := []) (va_runV (As := [.int (44 : Int32)]) (rest := []) ⟨hx, hb, hml, hown, hts⟩ (c_X5_takesSign l D cI cC cS md z_4 (44 : Int32) (by rw [hz_4]; exact dt_si hSI1 hz0) _) (cwV 1 hts gX5_doesText_X5_takesSign rfl rfl rfl (by decide +kernel) ⟨Nat.le_of_ble_eq_true rfl, Nat.le_of_ble_eq_true rfl⟩) (preV hK hP hD [0, 1, 2, 3, 4, 5, 6] (by decide) rfl 0 5 rfl rfl) rfl rfl hl.1 rfl (lv_room (Nat.le_of_ble_eq_true rfl)) dX5_doesText_97 ⟨Nat.zero_le _, Nat.zero_le _⟩) hP hD hS hA [0, 1, 2, 3, 4, 5, 6] [] rfl rfl rfl rfl rfl (by decide +kernel) (fstE (as := [(md 0), (md 1), (md 2), (md 3), (md 4), (md 5), (md 6)]) rfl rfl) (fun H locs hP hD hS => ?_)
              obtain ⟨z_5, hz_5⟩ : ∃ z : CS, z = (p_X5_takesSign z_4 (44 : Int32)) := ⟨_, rfl⟩
              rw [← hz_5] at hP hD
              have hr : (r_X5_doesText M) = (lr_X5_doesText_9 fu (n + ((z_4 0) 12)) (r_X5_takesSign z_4 (44 : Int32)) z_5) := by subst hz_5; exact hr
              have hp : (p_X5_doesText M) = (lp_X5_doesText_9 fu (n + ((z_4 0) 12)) (r_X5_takesSign z_4 (44 : Int32)) z_5) := by subst hz_5; exact hp
              refine lv_istore_n (lv' := [(2, .int (r_X5_takesSign z_4 (44 : Int32))), (1, .int (n + ((z_4 0) 12))), (0, .ref (md 0))]) hx hb dX5_doesText_100 rfl hl (by decide) rfl (fun ls hl => ?_)
              refine lv_goto (tgt := 9) hx hb dX5_doesText_101 (by decide) ?_
              exact ih_9 (n + ((z_4 0) 12)) (r_X5_takesSign z_4 (44 : Int32)) z_5 _ _ (by subst hz_5; subst hz_4; subst hz_2; exact (flt_step c10 (dt_9 hz0) (dt_si hSI1 hz0) hm)) (by subst hz_5; subst hz_4; subst hz_2; exact ((sq_ts _ _).si (dt_si hSI1 hz0))) (by subst hz_5; subst hz_4; subst hz_2; exact (mi_1 ((sq_ts _ _).2.2.1 1 (by decide)) (pm_mi hMI3))) hr hp hP hD hS ls (lv_sub hl [2, 1, 0] rfl)
            have L_56 : ∀ (fu : Nat) (i : Int32) (M2 : CS) (H : Heap) (locs : List Loc), ((M2 0 12).toInt - i.toInt < (fu : Int) ∧ 0 < fu) → 0 ≤ i.toInt → MI M2 → (M2 1 5).toInt + ((M2 0 12).toInt - i.toInt) ≤ 20 → M2 0 = p_X5_readsPart M1 0 → T56_M2 = (q_X5_doesText_56 fu i M2) → va_P D vwCl [((md 0), mdC md (M2 0)), ((md 1), arC cI 96 (M2 1)), ((md 2), arC cI 96 (M2 2)), ((md 3), arC cI 96 (M2 3)), ((md 4), arC cI 384 (M2 4)), ((md 5), arC cI 96 (M2 5)), ((md 6), arC cI 60 (M2 6))] H → va_D A [((md 0), mdC md (M2 0)), ((md 1), arC cI 96 (M2 1)), ((md 2), arC cI 96 (M2 2)), ((md 3), arC cI 96 (M2 3)), ((md 4), arC cI 384 (M2 4)), ((md 5), arC cI 96 (M2 5)), ((md 6), arC cI 60 (M2 6))] → va_S A s.heap H locs → ∀ ls, lv_has ls 5 [(0, .ref (md 0)), (1, .int n), (4, .int i)] → W p l e rm_X5_doesText s m args below meth c H locs 0 0 (MQ below (QI D (mdW cI md (p_X5_doesText M)) (r_X5_doesText M) A) args s 0 0 A) (F0 m 56 ls []) := by
              intro fu
              induction fu with
              | zero => intro i M2 H locs hm; exact absurd hm.2 (Nat.lt_irrefl 0)
              | succ fu ih_56 =>
                intro i M2 H locs hm hi hMI2 hbd hz1 hq0 hP hD hS ls hl
                have hq0 : T56_M2 = (if ((M2 0) 12) ≤ i then M2 else ((fun (z_3 : CS) => (q_X5_doesText_56 fu (i + (1 : Int32)) z_3)) (p_X5_waits M2 ((M2 0) 11)))) := hq0
                refine lv_iload hx hb dX5_doesText_56 (lv_at hl 2 rfl) ?_
                refine lv_aload_n hx hb dX5_doesText_58 rfl (lv_at hl 0 rfl) ?_
                refine va_get (D := D) (ci := 5) (v := .int ((M2 0) 12)) (C := RX5) (T := TX5) (N := 14) hx hb hts inX5 hown hK.1 hP 0 rfl rfl 12 (by decide) (hts (.fieldLink RX5 147 "GrayPointersModel" "oftenRead" "I") (List.mem_of_getElem? (i := 3) rfl)) (fun _ h9 => h9) rfl dX5_doesText_59 ?_
                refine lv_icmp_ge (tgt := 79) hx hb dX5_doesText_62 (by decide) (fun c62 => ?_) (fun c62 => ?_)
                · have hq0 := hq0.trans (if_pos c62)
                  exact K_56 _ _ (by rw [hq0]; exact hMI2) (by rw [hq0]; exact hz1) (by rw [hq0]; exact hP) (by rw [hq0]; exact hD) hS ls (by exact lv_sub hl [0, 1] rfl)
                · have hq0 := hq0.trans (if_neg c62)
                  refine lv_aload_n hx hb dX5_doesText_65 rfl (lv_at hl 0 rfl) ?_
                  refine lv_aload_n hx hb dX5_doesText_66 rfl (lv_at hl 0 rfl) ?_
                  refine va_get (D := D) (ci := 5) (v := .int ((M2 0) 11)) (C := RX5) (T := TX5) (N := 14) hx hb hts inX5 hown hK.1 hP 0 rfl rfl 11 (by decide) (hts (.fieldLink RX5 159 "GrayPointersModel" "wordRead" "I") (List.mem_of_getElem? (i := 6) rfl)) (fun _ h9 => h9) rfl dX5_doesText_67 ?_
                  refine goV (n := 7) (ws' := [((md 0), mdC md ((p_X5_waits M2 ((M2 0) 11)) 0)), ((md 1), arC cI 96 ((p_X5_waits M2 ((M2 0) 11)) 1)), ((md 2), arC cI 96 ((p_X5_waits M2 ((M2 0) 11)) 2)), ((md 3), arC cI 96 ((p_X5_waits M2 ((M2 0) 11)) 3)), ((md 4), arC cI 384 ((p_X5_waits M2 ((M2 0) 11)) 4)), ((md 5), arC cI 96 ((p_X5_waits M2 ((M2 0) 11)) 5)), ((md 6), arC cI 60 ((p_X5_waits M2 ((M2 0) 11)) 6))]) (rs := []) (va_runV (As := [.int ((M2 0) 11)]) (rest := []) ⟨hx, hb, hml, hown, hts⟩ (c_X5_waits l D cI cC cS md M2 ((M2 0) 11) (dt_w hMI2 hbd c62) _) (cwV 1 hts gX5_doesText_X5_waits rfl rfl rfl (by decide +kernel) ⟨Nat.le_of_ble_eq_true rfl, Nat.le_of_ble_eq_true rfl⟩) (preV hK hP hD [0, 1, 2, 3, 4, 5, 6] (by decide) rfl 0 5 rfl rfl) rfl rfl hl.1 rfl (lv_room (Nat.le_of_ble_eq_true rfl)) dX5_doesText_70 ⟨Nat.zero_le _, Nat.zero_le _⟩) hP hD hS hA [0, 1, 2, 3, 4, 5, 6] [] rfl rfl rfl rfl rfl (by decide +kernel) (fstE (as := [(md 0), (md 1), (md 2), (md 3), (md 4), (md 5), (md 6)]) rfl rfl) (fun H locs hP hD hS => ?_)
                  obtain ⟨z_3, hz_3⟩ : ∃ z : CS, z = (p_X5_waits M2 ((M2 0) 11)) := ⟨_, rfl⟩
                  rw [← hz_3] at hP hD
                  have hq0 : T56_M2 = (q_X5_doesText_56 fu (i + (1 : Int32)) z_3) := by subst hz_3; exact hq0
                  refine lv_iinc (v := (i + (1 : Int32))) (lv' := [(4, .int (i + (1 : Int32))), (0, .ref (md 0)), (1, .int n)]) hx hb dX5_doesText_73 hl (k := 2) rfl rfl (by decide) rfl (fun ls hl => ?_)
                  refine lv_goto (tgt := 56) hx hb dX5_doesText_76 (by decide) ?_
                  exact ih_56 (i + (1 : Int32)) z_3 _ _ (by subst hz_3; exact (cnt_step c62 hm)) (by subst hz_3; exact (inv_step c62 hi)) (by subst hz_3; exact (mi_waits hMI2 (dt_w hMI2 hbd c62)).1) (by subst hz_3; exact (dt_bd hMI2 hbd c62)) (by subst hz_3; exact hz1) hq0 hP hD hS ls (lv_sub hl [1, 2, 0] rfl)
            exact L_56 _ (0 : Int32) z_2 _ _ (by rw [hz_2]; exact dt_m (often_in M1)) (by decide) (by rw [hz_2] at c31 ⊢; exact (dt_i0 hMI1 c31).2) (by rw [hz_2] at c31 ⊢; exact (dt_i0 hMI1 c31).1) (by rw [hz_2]) hT56_M2 hP hD hS ls (lv_sub hl [2, 3, 0] rfl)
          · have hr := hr.trans (if_neg c47)
            have hp := hp.trans (if_neg c47)
            refine lv_bipush (v := (-3 : Int32)) hx hb dX5_doesText_50 (by decide) ?_
            exact endI (v := (-3 : Int32)) hb hx hsg hr.symm (by rw [hp]; exact hP) (by rw [hp]; exact hD) hS dX5_doesText_52 hlocks
  exact L_9 _ (0 : Int32) (1 : Int32) z_1 _ _ (by rw [hz_1]; exact ⟨Or.inr ⟨(show (0 : Int32).toInt ≤ 60 by decide), (show 61 - (0 : Int32).toInt < ((62 : Nat) : Int) by decide)⟩, by decide⟩) (by rw [hz_1]; exact ⟨(by decide : 0 ≤ (0 : Int32).toInt), hSI.2⟩) (by rw [hz_1]; exact mi_1 (va_up_n (by decide)) hMI) hr hp hP hD hS ls (lv_sub hl [2, 1, 0] rfl)
theorem flt_sq : ∀ (fu : Nat) (more : Int32) (M : CS), SQ M (lp_X5_fault_7 fu more M)
  | 0, _, M => SQ.refl M
  | fu + 1, more, M => by
    unfold lp_X5_fault_7
    by_cases c : more = (0 : Int32)
    · rw [if_pos c]; exact SQ.refl M
    rw [if_neg c]
    have h := sq_rp M
    generalize p_X5_readsPart M = z at h
    dsimp only
    by_cases d : r_X5_readsPart M = (0 : Int32)
    · rw [if_pos d]; exact h
    · rw [if_neg d]
      exact (h.trans (sq_ts z _)).trans (flt_sq fu _ _)
theorem flt_si {M : CS} (h : (M 0 8).toInt ≤ 60) : SI (p_X5_fault M) ∧ (p_X5_fault M) 0 4 = M 0 4 ∧ (∀ i, i ≠ 0 → (p_X5_fault M) i = M i) := by
  unfold p_X5_fault
  have q := flt_sq 62 (1 : Int32) (va_up M 0 (upd (M 0) 9 (0 : Int32)))
  refine ⟨q.si ⟨(by decide : 0 ≤ (0 : Int32).toInt), h⟩, q.2.2.2, fun i hi => (q.2.2.1 i hi).trans (va_up_n hi)⟩
theorem q56_c {j : Nat} (hj : j ≠ 1) : ∀ (fu : Nat) (i : Int32) (M : CS), q_X5_doesText_56 fu i M j = M j
  | 0, _, _ => rfl
  | fu + 1, i, M => by
    unfold q_X5_doesText_56
    by_cases c : (M 0 12) ≤ i
    · rw [if_pos c]
    · rw [if_neg c]
      dsimp only
      rw [q56_c hj fu, waits_c hj]
theorem dtx_4 : ∀ (fu : Nat) (n more : Int32) (M : CS), lp_X5_doesText_9 fu n more M 0 4 = M 0 4 ∧ (∀ j, j ≠ 0 → j ≠ 1 → lp_X5_doesText_9 fu n more M j = M j) ∧ lp_X5_doesText_9 fu n more M 0 8 = M 0 8
  | 0, _, _, _ => ⟨rfl, fun _ _ _ => rfl, rfl⟩
  | fu + 1, n, more, M => by
    unfold lp_X5_doesText_9
    by_cases c : more = (0 : Int32)
    · rw [if_pos c]; exact ⟨rfl, fun _ _ _ => rfl, rfl⟩
    rw [if_neg c]
    have h := sq_rp M
    generalize p_X5_readsPart M = z at h
    dsimp only
    by_cases d : (20 : Int32) < (z 1 5) + (z 0 12)
    · rw [if_pos d]; exact ⟨h.2.2.2, fun j h0 _ => h.2.2.1 j h0, h.1⟩
    rw [if_neg d]
    by_cases e : (z 1 2) + (z 0 13) ≤ (1000000 : Int32)
    · rw [if_pos e]
      obtain ⟨i1, i2, i3⟩ := dtx_4 fu (n + ((p_X5_passMany (q_X5_doesText_56 21 0 z) ((q_X5_doesText_56 21 0 z) 0 13)) 0 12)) (r_X5_takesSign (p_X5_passMany (q_X5_doesText_56 21 0 z) ((q_X5_doesText_56 21 0 z) 0 13)) 44) (p_X5_takesSign (p_X5_passMany (q_X5_doesText_56 21 0 z) ((q_X5_doesText_56 21 0 z) 0 13)) 44)
      have e0 : (p_X5_passMany (q_X5_doesText_56 21 0 z) ((q_X5_doesText_56 21 0 z) 0 13)) 0 = z 0 := (pm_c (by decide)).trans (q56_c (by decide) _ _ _)
      have s := sq_ts (p_X5_passMany (q_X5_doesText_56 21 0 z) ((q_X5_doesText_56 21 0 z) 0 13)) 44
      refine ⟨i1.trans (s.2.2.2.trans (by rw [e0]; exact h.2.2.2)), fun j h0 h1 => (i2 j h0 h1).trans ((s.2.2.1 j h0).trans ((pm_c h1).trans ((q56_c h1 _ _ _).trans (h.2.2.1 j h0)))), i3.trans (s.1.trans (by rw [e0]; exact h.1))⟩
    · rw [if_neg e]; exact ⟨h.2.2.2, fun j h0 _ => h.2.2.1 j h0, h.1⟩
theorem dt_hl {M : CS} (h : HL M) : HL (p_X5_doesText M) := by
  unfold p_X5_doesText HL
  dsimp only
  rw [(dtx_4 62 0 1 _).1]
  exact h
theorem rm_si {M : CS} (h : SI M) : SI (p_X5_remember M) := h
theorem rm_mi {M : CS} (h : MI M) : MI (p_X5_remember M) := mi_1 (va_up_n (by decide)) h
theorem rm_hl {M : CS} (h : HL M) : HL (p_X5_remember M) := h
theorem flt_mi {M : CS} (h60 : (M 0 8).toInt ≤ 60) (h : MI M) : MI (p_X5_fault M) := mi_1 ((flt_si h60).2.2 1 (by decide)) h
theorem flt_hl {M : CS} (h60 : (M 0 8).toInt ≤ 60) (h : HL M) : HL (p_X5_fault M) := by
  unfold HL
  rw [(flt_si h60).2.1]; exact h
def r_X5_pushAll (M : CS) : Int32 := ((fun (z_1 : CS) => (if (r_X5_fault M) = (-5 : Int32) then ((fun (z_2 : CS) => ((fun (z_3 : CS) => (if (r_X5_doesText z_2) = (-3 : Int32) then ((fun (z_5 : F1) => ((fun (z_6 : CS) => (-3 : Int32)) (va_up z_3 1 z_5))) (p_X5_copy (z_3 2) (z_3 1))) else ((fun (z_4 : CS) => (r_X5_acted z_3 (r_X5_doesText z_2))) (p_X5_acted z_3 (r_X5_doesText z_2))))) (p_X5_doesText z_2))) (p_X5_remember z_1)) else ((-100 : Int32) - (r_X5_fault M)))) (p_X5_fault M))
def p_X5_pushAll (M : CS) : CS := ((fun (z_1 : CS) => (if (r_X5_fault M) = (-5 : Int32) then ((fun (z_2 : CS) => ((fun (z_3 : CS) => (if (r_X5_doesText z_2) = (-3 : Int32) then ((fun (z_5 : F1) => ((fun (z_6 : CS) => z_6) (va_up z_3 1 z_5))) (p_X5_copy (z_3 2) (z_3 1))) else ((fun (z_4 : CS) => z_4) (p_X5_acted z_3 (r_X5_doesText z_2))))) (p_X5_doesText z_2))) (p_X5_remember z_1)) else z_1)) (p_X5_fault M))
abbrev rm_X5_pushAll : Room := { frames := 8, cells := 0, slots := 0, locals := 183 }
set_option maxHeartbeats 4000000 in
set_option maxRecDepth 100000 in
theorem c_X5_pushAll (l : Launch) (D : va_G) (cI cC cS : ClassId) (md : Nat → Nat) (M : CS) (hHL : HL M) (h60 : (M 0 8).toInt ≤ 60) (hMI : MI M) : CI l D cI cC cS yX5_pushAll wsX5_pushAll rm_X5_pushAll [.ref (md 0)] (mdW cI md M) (mdW cI md (p_X5_pushAll M)) (r_X5_pushAll M) := by
  intro sz
  refine startC (cc := cX5_pushAll) (maxL := 3) (ret := (some .int)) (by decide) rfl (Nat.le_of_ble_eq_true rfl) ?_
  intro p e s m args below meth c hx hb hml hsg hts hown hlocks hin hK A hA hS hP hD ls hl
  have hown : s.vm.findClass RX5 = some m.cls := hown
  have hl : lv_has ls 3 [(0, .ref (md 0))] := hl
  have hP : va_P D vwCl [((md 0), mdC md (M 0)), ((md 1), arC cI 96 (M 1)), ((md 2), arC cI 96 (M 2)), ((md 3), arC cI 96 (M 3)), ((md 4), arC cI 384 (M 4)), ((md 5), arC cI 96 (M 5)), ((md 6), arC cI 60 (M 6))] s.heap := hP
  have hD : va_D A [((md 0), mdC md (M 0)), ((md 1), arC cI 96 (M 1)), ((md 2), arC cI 96 (M 2)), ((md 3), arC cI 96 (M 3)), ((md 4), arC cI 384 (M 4)), ((md 5), arC cI 96 (M 5)), ((md 6), arC cI 60 (M 6))] := hD
  have inX5 : ∀ w ∈ wsX50, w ∈ wsX5_pushAll := fun _ h => List.mem_cons_of_mem _ (List.mem_append_right _ h)
  have hr : (r_X5_pushAll M) = ((fun (z_1 : CS) => (if (r_X5_fault M) = (-5 : Int32) then ((fun (z_2 : CS) => ((fun (z_3 : CS) => (if (r_X5_doesText z_2) = (-3 : Int32) then ((fun (z_5 : F1) => ((fun (z_6 : CS) => (-3 : Int32)) (va_up z_3 1 z_5))) (p_X5_copy (z_3 2) (z_3 1))) else ((fun (z_4 : CS) => (r_X5_acted z_3 (r_X5_doesText z_2))) (p_X5_acted z_3 (r_X5_doesText z_2))))) (p_X5_doesText z_2))) (p_X5_remember z_1)) else ((-100 : Int32) - (r_X5_fault M)))) (p_X5_fault M)) := rfl
  have hp : (p_X5_pushAll M) = ((fun (z_1 : CS) => (if (r_X5_fault M) = (-5 : Int32) then ((fun (z_2 : CS) => ((fun (z_3 : CS) => (if (r_X5_doesText z_2) = (-3 : Int32) then ((fun (z_5 : F1) => ((fun (z_6 : CS) => z_6) (va_up z_3 1 z_5))) (p_X5_copy (z_3 2) (z_3 1))) else ((fun (z_4 : CS) => z_4) (p_X5_acted z_3 (r_X5_doesText z_2))))) (p_X5_doesText z_2))) (p_X5_remember z_1)) else z_1)) (p_X5_fault M)) := rfl
  refine lv_aload_n hx hb dX5_pushAll_0 rfl (lv_at hl 0 rfl) ?_
  refine goI (n := 7) (ws' := [((md 0), mdC md ((p_X5_fault M) 0)), ((md 1), arC cI 96 ((p_X5_fault M) 1)), ((md 2), arC cI 96 ((p_X5_fault M) 2)), ((md 3), arC cI 96 ((p_X5_fault M) 3)), ((md 4), arC cI 384 ((p_X5_fault M) 4)), ((md 5), arC cI 96 ((p_X5_fault M) 5)), ((md 6), arC cI 60 ((p_X5_fault M) 6))]) (rs := []) (va_runV (As := []) (rest := []) ⟨hx, hb, hml, hown, hts⟩ (c_X5_fault l D cI cC cS md M h60 _) (cwV 0 hts gX5_pushAll_X5_fault rfl rfl rfl (by decide +kernel) ⟨Nat.le_of_ble_eq_true rfl, Nat.le_of_ble_eq_true rfl⟩) (preV hK hP hD [0, 1, 2, 3, 4, 5, 6] (by decide) rfl 0 5 rfl rfl) rfl rfl hl.1 rfl (lv_room (Nat.le_of_ble_eq_true rfl)) dX5_pushAll_1 ⟨Nat.zero_le _, Nat.zero_le _⟩) hP hD hS hA [0, 1, 2, 3, 4, 5, 6] [] rfl rfl rfl rfl rfl (by decide +kernel) (fstE (as := [(md 0), (md 1), (md 2), (md 3), (md 4), (md 5), (md 6)]) rfl rfl) (fun H locs hP hD hS => ?_)
  obtain ⟨z_1, hz_1⟩ : ∃ z : CS, z = (p_X5_fault M) := ⟨_, rfl⟩
  rw [← hz_1] at hP hD
  have hr : (r_X5_pushAll M) = (if (r_X5_fault M) = (-5 : Int32) then ((fun (z_2 : CS) => ((fun (z_3 : CS) => (if (r_X5_doesText z_2) = (-3 : Int32) then ((fun (z_5 : F1) => ((fun (z_6 : CS) => (-3 : Int32)) (va_up z_3 1 z_5))) (p_X5_copy (z_3 2) (z_3 1))) else ((fun (z_4 : CS) => (r_X5_acted z_3 (r_X5_doesText z_2))) (p_X5_acted z_3 (r_X5_doesText z_2))))) (p_X5_doesText z_2))) (p_X5_remember z_1)) else ((-100 : Int32) - (r_X5_fault M))) := by subst hz_1; exact hr
  have hp : (p_X5_pushAll M) = (if (r_X5_fault M) = (-5 : Int32) then ((fun (z_2 : CS) => ((fun (z_3 : CS) => (if (r_X5_doesText z_2) = (-3 : Int32) then ((fun (z_5 : F1) => ((fun (z_6 : CS) => z_6) (va_up z_3 1 z_5))) (p_X5_copy (z_3 2) (z_3 1))) else ((fun (z_4 : CS) => z_4) (p_X5_acted z_3 (r_X5_doesText z_2))))) (p_X5_doesText z_2))) (p_X5_remember z_1)) else z_1) := by subst hz_1; exact hp
  refine lv_istore_n (lv' := [(1, .int (r_X5_fault M)), (0, .ref (md 0))]) hx hb dX5_pushAll_4 rfl hl (by decide) rfl (fun ls hl => ?_)
  refine lv_iload_n hx hb dX5_pushAll_5 rfl (lv_at hl 0 rfl) ?_
  refine lv_bipush (v := (-5 : Int32)) hx hb dX5_pushAll_6 (by decide) ?_
  refine lv_icmp_eq (tgt := 16) hx hb dX5_pushAll_8 (by decide) (fun c8 => ?_) (fun c8 => ?_)
  · have hr := hr.trans (if_pos c8)
    have hp := hp.trans (if_pos c8)
    refine lv_aload_n hx hb dX5_pushAll_16 rfl (lv_at hl 1 rfl) ?_
    refine goV (n := 7) (ws' := [((md 0), mdC md ((p_X5_remember z_1) 0)), ((md 1), arC cI 96 ((p_X5_remember z_1) 1)), ((md 2), arC cI 96 ((p_X5_remember z_1) 2)), ((md 3), arC cI 96 ((p_X5_remember z_1) 3)), ((md 4), arC cI 384 ((p_X5_remember z_1) 4)), ((md 5), arC cI 96 ((p_X5_remember z_1) 5)), ((md 6), arC cI 60 ((p_X5_remember z_1) 6))]) (rs := []) (va_runV (As := []) (rest := []) ⟨hx, hb, hml, hown, hts⟩ (c_X5_remember l D cI cC cS md z_1  _) (cwV 0 hts gX5_pushAll_X5_remember rfl rfl rfl (by decide +kernel) ⟨Nat.le_of_ble_eq_true rfl, Nat.le_of_ble_eq_true rfl⟩) (preV hK hP hD [0, 1, 2, 3, 4, 5, 6] (by decide) rfl 0 5 rfl rfl) rfl rfl hl.1 rfl (lv_room (Nat.le_of_ble_eq_true rfl)) dX5_pushAll_17 ⟨Nat.zero_le _, Nat.zero_le _⟩) hP hD hS hA [0, 1, 2, 3, 4, 5, 6] [] rfl rfl rfl rfl rfl (by decide +kernel) (fstE (as := [(md 0), (md 1), (md 2), (md 3), (md 4), (md 5), (md 6)]) rfl rfl) (fun H locs hP hD hS => ?_)
    obtain ⟨z_2, hz_2⟩ : ∃ z : CS, z = (p_X5_remember z_1) := ⟨_, rfl⟩
    rw [← hz_2] at hP hD
    have hr : (r_X5_pushAll M) = ((fun (z_3 : CS) => (if (r_X5_doesText z_2) = (-3 : Int32) then ((fun (z_5 : F1) => ((fun (z_6 : CS) => (-3 : Int32)) (va_up z_3 1 z_5))) (p_X5_copy (z_3 2) (z_3 1))) else ((fun (z_4 : CS) => (r_X5_acted z_3 (r_X5_doesText z_2))) (p_X5_acted z_3 (r_X5_doesText z_2))))) (p_X5_doesText z_2)) := by subst hz_2; exact hr
    have hp : (p_X5_pushAll M) = ((fun (z_3 : CS) => (if (r_X5_doesText z_2) = (-3 : Int32) then ((fun (z_5 : F1) => ((fun (z_6 : CS) => z_6) (va_up z_3 1 z_5))) (p_X5_copy (z_3 2) (z_3 1))) else ((fun (z_4 : CS) => z_4) (p_X5_acted z_3 (r_X5_doesText z_2))))) (p_X5_doesText z_2)) := by subst hz_2; exact hp
    refine lv_aload_n hx hb dX5_pushAll_20 rfl (lv_at hl 1 rfl) ?_
    refine goI (n := 7) (ws' := [((md 0), mdC md ((p_X5_doesText z_2) 0)), ((md 1), arC cI 96 ((p_X5_doesText z_2) 1)), ((md 2), arC cI 96 ((p_X5_doesText z_2) 2)), ((md 3), arC cI 96 ((p_X5_doesText z_2) 3)), ((md 4), arC cI 384 ((p_X5_doesText z_2) 4)), ((md 5), arC cI 96 ((p_X5_doesText z_2) 5)), ((md 6), arC cI 60 ((p_X5_doesText z_2) 6))]) (rs := []) (va_runV (As := []) (rest := []) ⟨hx, hb, hml, hown, hts⟩ (c_X5_doesText l D cI cC cS md z_2 (by rw [hz_2, hz_1]; exact rm_si (flt_si h60).1) (by rw [hz_2, hz_1]; exact rm_mi (flt_mi h60 hMI)) _) (cwV 0 hts gX5_pushAll_X5_doesText rfl rfl rfl (by decide +kernel) ⟨Nat.le_of_ble_eq_true rfl, Nat.le_of_ble_eq_true rfl⟩) (preV hK hP hD [0, 1, 2, 3, 4, 5, 6] (by decide) rfl 0 5 rfl rfl) rfl rfl hl.1 rfl (lv_room (Nat.le_of_ble_eq_true rfl)) dX5_pushAll_21 ⟨Nat.zero_le _, Nat.zero_le _⟩) hP hD hS hA [0, 1, 2, 3, 4, 5, 6] [] rfl rfl rfl rfl rfl (by decide +kernel) (fstE (as := [(md 0), (md 1), (md 2), (md 3), (md 4), (md 5), (md 6)]) rfl rfl) (fun H locs hP hD hS => ?_)
    obtain ⟨z_3, hz_3⟩ : ∃ z : CS, z = (p_X5_doesText z_2) := ⟨_, rfl⟩
    rw [← hz_3] at hP hD
    have hr : (r_X5_pushAll M) = (if (r_X5_doesText z_2) = (-3 : Int32) then ((fun (z_5 : F1) => ((fun (z_6 : CS) => (-3 : Int32)) (va_up z_3 1 z_5))) (p_X5_copy (z_3 2) (z_3 1))) else ((fun (z_4 : CS) => (r_X5_acted z_3 (r_X5_doesText z_2))) (p_X5_acted z_3 (r_X5_doesText z_2)))) := by subst hz_3; exact hr
    have hp : (p_X5_pushAll M) = (if (r_X5_doesText z_2) = (-3 : Int32) then ((fun (z_5 : F1) => ((fun (z_6 : CS) => z_6) (va_up z_3 1 z_5))) (p_X5_copy (z_3 2) (z_3 1))) else ((fun (z_4 : CS) => z_4) (p_X5_acted z_3 (r_X5_doesText z_2)))) := by subst hz_3; exact hp
    refine lv_istore_n (lv' := [(2, .int (r_X5_doesText z_2)), (1, .int (r_X5_fault M)), (0, .ref (md 0))]) hx hb dX5_pushAll_24 rfl hl (by decide) rfl (fun ls hl => ?_)
    refine lv_iload_n hx hb dX5_pushAll_25 rfl (lv_at hl 0 rfl) ?_
    refine lv_bipush (v := (-3 : Int32)) hx hb dX5_pushAll_26 (by decide) ?_
    refine lv_icmp_ne (tgt := 45) hx hb dX5_pushAll_28 (by decide) (fun c28 => ?_) (fun c28 => ?_)
    · have hr := hr.trans (if_neg c28)
      have hp := hp.trans (if_neg c28)
      refine lv_aload_n hx hb dX5_pushAll_45 rfl (lv_at hl 2 rfl) ?_
      refine lv_iload_n hx hb dX5_pushAll_46 rfl (lv_at hl 0 rfl) ?_
      refine goI (n := 7) (ws' := [((md 0), mdC md ((p_X5_acted z_3 (r_X5_doesText z_2)) 0)), ((md 1), arC cI 96 ((p_X5_acted z_3 (r_X5_doesText z_2)) 1)), ((md 2), arC cI 96 ((p_X5_acted z_3 (r_X5_doesText z_2)) 2)), ((md 3), arC cI 96 ((p_X5_acted z_3 (r_X5_doesText z_2)) 3)), ((md 4), arC cI 384 ((p_X5_acted z_3 (r_X5_doesText z_2)) 4)), ((md 5), arC cI 96 ((p_X5_acted z_3 (r_X5_doesText z_2)) 5)), ((md 6), arC cI 60 ((p_X5_acted z_3 (r_X5_doesText z_2)) 6))]) (rs := []) (va_runV (As := [.int (r_X5_doesText z_2)]) (rest := []) ⟨hx, hb, hml, hown, hts⟩ (c_X5_acted l D cI cC cS md z_3 (r_X5_doesText z_2) (by rw [hz_3, hz_2, hz_1]; exact dt_hl (rm_hl (flt_hl h60 hHL))) _) (cwV 1 hts gX5_pushAll_X5_acted rfl rfl rfl (by decide +kernel) ⟨Nat.le_of_ble_eq_true rfl, Nat.le_of_ble_eq_true rfl⟩) (preV hK hP hD [0, 1, 2, 3, 4, 5, 6] (by decide) rfl 0 5 rfl rfl) rfl rfl hl.1 rfl (lv_room (Nat.le_of_ble_eq_true rfl)) dX5_pushAll_47 ⟨Nat.zero_le _, Nat.zero_le _⟩) hP hD hS hA [0, 1, 2, 3, 4, 5, 6] [] rfl rfl rfl rfl rfl (by decide +kernel) (fstE (as := [(md 0), (md 1), (md 2), (md 3), (md 4), (md 5), (md 6)]) rfl rfl) (fun H locs hP hD hS => ?_)
      obtain ⟨z_4, hz_4⟩ : ∃ z : CS, z = (p_X5_acted z_3 (r_X5_doesText z_2)) := ⟨_, rfl⟩
      rw [← hz_4] at hP hD
      have hr : (r_X5_pushAll M) = (r_X5_acted z_3 (r_X5_doesText z_2)) := by subst hz_4; exact hr
      have hp : (p_X5_pushAll M) = z_4 := by subst hz_4; exact hp
      exact endI (v := (r_X5_acted z_3 (r_X5_doesText z_2))) hb hx hsg hr.symm (by rw [hp]; exact hP) (by rw [hp]; exact hD) hS dX5_pushAll_50 hlocks
    · have hr := hr.trans (if_pos c28)
      have hp := hp.trans (if_pos c28)
      refine lv_aload_n hx hb dX5_pushAll_31 rfl (lv_at hl 2 rfl) ?_
      refine va_get (D := D) (ci := 5) (v := .ref (md 2)) (C := RX5) (T := TX5) (N := 14) hx hb hts inX5 hown hK.1 hP 0 rfl rfl 1 (by decide) (hts (.fieldLink RX5 13 "GrayPointersModel" "kept" "[I") (List.mem_of_getElem? (i := 1) rfl)) (fun _ h9 => h9) rfl dX5_pushAll_32 ?_
      refine lv_aload_n hx hb dX5_pushAll_35 rfl (lv_at hl 2 rfl) ?_
      refine va_get (D := D) (ci := 5) (v := .ref (md 1)) (C := RX5) (T := TX5) (N := 14) hx hb hts inX5 hown hK.1 hP 0 rfl rfl 0 (by decide) (hts (.fieldLink RX5 7 "GrayPointersModel" "all" "[I") (List.mem_of_getElem? (i := 2) rfl)) (fun _ h9 => h9) rfl dX5_pushAll_36 ?_
      refine goV (n := 7) (ws' := [((md 0), mdC md (z_3 0)), ((md 1), arC cI 96 (p_X5_copy (z_3 2) (z_3 1))), ((md 2), arC cI 96 (z_3 2)), ((md 3), arC cI 96 (z_3 3)), ((md 4), arC cI 384 (z_3 4)), ((md 5), arC cI 96 (z_3 5)), ((md 6), arC cI 60 (z_3 6))]) (rs := [((md 0), mdC md (z_3 0)), ((md 3), arC cI 96 (z_3 3)), ((md 4), arC cI 384 (z_3 4)), ((md 5), arC cI 96 (z_3 5)), ((md 6), arC cI 60 (z_3 6))]) (va_runS (As := [.ref (md 2), .ref (md 1)]) (rest := []) ⟨hx, hb, hml, hown, hts⟩ (c_X5_copy l D cI cC cS (md 2) (md 1) (z_3 2) (z_3 1)  _) (va_cwS 2 hts gX5_pushAll_X5_copy rfl rfl rfl (by decide +kernel) ⟨Nat.le_of_ble_eq_true rfl, Nat.le_of_ble_eq_true rfl⟩) (preS hK hP hD [2, 1] (by decide) rfl) rfl rfl hl.1 rfl (lv_room (Nat.le_of_ble_eq_true rfl)) dX5_pushAll_39 ⟨Nat.zero_le _, Nat.zero_le _⟩) hP hD hS hA [2, 1] [0, 3, 4, 5, 6] rfl rfl rfl rfl rfl (by decide +kernel) (fstE (as := [(md 2), (md 1)]) rfl rfl) (fun H locs hP hD hS => ?_)
      obtain ⟨z_5, hz_5⟩ : ∃ z : F1, z = (p_X5_copy (z_3 2) (z_3 1)) := ⟨_, rfl⟩
      rw [← hz_5] at hP hD
      have hr : (r_X5_pushAll M) = ((fun (z_6 : CS) => (-3 : Int32)) (va_up z_3 1 z_5)) := by subst hz_5; exact hr
      have hp : (p_X5_pushAll M) = ((fun (z_6 : CS) => z_6) (va_up z_3 1 z_5)) := by subst hz_5; exact hp
      refine lv_bipush (v := (-3 : Int32)) hx hb dX5_pushAll_42 (by decide) ?_
      obtain ⟨z_6, hz_6⟩ : ∃ z : CS, z = (va_up z_3 1 z_5) := ⟨_, rfl⟩
      have e0 : (z_6 0) = (z_3 0) := (congrFun hz_6 0).trans (va_up_n (by decide))
      have e1 : (z_6 1) = z_5 := (congrFun hz_6 1).trans va_up_s
      have e2 : (z_6 2) = (z_3 2) := (congrFun hz_6 2).trans (va_up_n (by decide))
      have e3 : (z_6 3) = (z_3 3) := (congrFun hz_6 3).trans (va_up_n (by decide))
      have e4 : (z_6 4) = (z_3 4) := (congrFun hz_6 4).trans (va_up_n (by decide))
      have e5 : (z_6 5) = (z_3 5) := (congrFun hz_6 5).trans (va_up_n (by decide))
      have e6 : (z_6 6) = (z_3 6) := (congrFun hz_6 6).trans (va_up_n (by decide))
      have hP : va_P D vwCl [((md 0), mdC md (z_6 0)), ((md 1), arC cI 96 (z_6 1)), ((md 2), arC cI 96 (z_6 2)), ((md 3), arC cI 96 (z_6 3)), ((md 4), arC cI 384 (z_6 4)), ((md 5), arC cI 96 (z_6 5)), ((md 6), arC cI 60 (z_6 6))] H := by rw [e0, e1, e2, e3, e4, e5, e6]; exact hP
      have hD : va_D A [((md 0), mdC md (z_6 0)), ((md 1), arC cI 96 (z_6 1)), ((md 2), arC cI 96 (z_6 2)), ((md 3), arC cI 96 (z_6 3)), ((md 4), arC cI 384 (z_6 4)), ((md 5), arC cI 96 (z_6 5)), ((md 6), arC cI 60 (z_6 6))] := by rw [e0, e1, e2, e3, e4, e5, e6]; exact hD
      clear e0 e1 e2 e3 e4 e5 e6
      have hr : (r_X5_pushAll M) = (-3 : Int32) := by subst hz_6; exact hr
      have hp : (p_X5_pushAll M) = z_6 := by subst hz_6; exact hp
      exact endI (v := (-3 : Int32)) hb hx hsg hr.symm (by rw [hp]; exact hP) (by rw [hp]; exact hD) hS dX5_pushAll_44 hlocks
  · have hr := hr.trans (if_neg c8)
    have hp := hp.trans (if_neg c8)
    refine lv_bipush (v := (-100 : Int32)) hx hb dX5_pushAll_11 (by decide) ?_
    refine lv_iload_n hx hb dX5_pushAll_13 rfl (lv_at hl 0 rfl) ?_
    refine lv_isub hx hb dX5_pushAll_14 ?_
    exact endI (v := ((-100 : Int32) - (r_X5_fault M))) hb hx hsg hr.symm (by rw [hp]; exact hP) (by rw [hp]; exact hD) hS dX5_pushAll_15 hlocks
