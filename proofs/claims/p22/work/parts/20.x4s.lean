def r_X4_isWithin (a1 : Int32) (a2 : Int32) (a3 : Int32) : Int32 := (if a1 < a2 then (0 : Int32) else (if a3 < a1 then (0 : Int32) else (1 : Int32)))
abbrev rm_X4_isWithin : Room := { frames := 0, cells := 0, slots := 0, locals := 0 }
set_option maxHeartbeats 4000000 in
set_option maxRecDepth 100000 in
theorem c_X4_isWithin (l : Launch) (D : va_G) (cI cC cS : ClassId) (a1 : Int32) (a2 : Int32) (a3 : Int32)  : CI l D cI cC cS yX4_isWithin wsX4_isWithin rm_X4_isWithin [.int a1, .int a2, .int a3] [] [] (r_X4_isWithin a1 a2 a3) := by
  intro sz
  refine startC (cc := cX4_isWithin) (maxL := 3) (ret := (some .boolean)) (by decide) rfl (Nat.le_of_ble_eq_true rfl) ?_
  intro p e s m args below meth c hx hb hml hsg hts hown hlocks hin hK A hA hS hP hD ls hl
  have hown : s.vm.findClass RX4 = some m.cls := hown
  have hl : lv_has ls 3 [(0, .int a1), (1, .int a2), (2, .int a3)] := hl
  have hP : va_P D vwCl [] s.heap := hP
  have hD : va_D A [] := hD
  have hr : (r_X4_isWithin a1 a2 a3) = (if a1 < a2 then (0 : Int32) else (if a3 < a1 then (0 : Int32) else (1 : Int32))) := rfl
  refine lv_iload_n hx hb dX4_isWithin_0 rfl (lv_at hl 0 rfl) ?_
  refine lv_iload_n hx hb dX4_isWithin_1 rfl (lv_at hl 1 rfl) ?_
  refine lv_icmp_lt (tgt := 14) hx hb dX4_isWithin_2 (by decide) (fun c2 => ?_) (fun c2 => ?_)
  · have hr := hr.trans (if_pos c2)
    refine lv_iconst (v := (0 : Int32)) hx hb dX4_isWithin_14 (by decide) ?_
    exact endZ (v := (0 : Int32)) hb hx hsg rfl hr.symm hP hD hS dX4_isWithin_15 hlocks
  · have hr := hr.trans (if_neg c2)
    refine lv_iload_n hx hb dX4_isWithin_5 rfl (lv_at hl 0 rfl) ?_
    refine lv_iload_n hx hb dX4_isWithin_6 rfl (lv_at hl 2 rfl) ?_
    refine lv_icmp_gt (tgt := 14) hx hb dX4_isWithin_7 (by decide) (fun c7 => ?_) (fun c7 => ?_)
    · have hr := hr.trans (if_pos c7)
      refine lv_iconst (v := (0 : Int32)) hx hb dX4_isWithin_14 (by decide) ?_
      exact endZ (v := (0 : Int32)) hb hx hsg rfl hr.symm hP hD hS dX4_isWithin_15 hlocks
    · have hr := hr.trans (if_neg c7)
      refine lv_iconst (v := (1 : Int32)) hx hb dX4_isWithin_10 (by decide) ?_
      refine lv_goto (tgt := 15) hx hb dX4_isWithin_11 (by decide) ?_
      exact endZ (v := (1 : Int32)) hb hx hsg rfl hr.symm hP hD hS dX4_isWithin_15 hlocks
def r_X4_isSide (a1 : Int32) : Int32 := (if a1 = (0 : Int32) then (1 : Int32) else (if a1 = (1 : Int32) then (1 : Int32) else (0 : Int32)))
abbrev rm_X4_isSide : Room := { frames := 0, cells := 0, slots := 0, locals := 0 }
set_option maxHeartbeats 4000000 in
set_option maxRecDepth 100000 in
theorem c_X4_isSide (l : Launch) (D : va_G) (cI cC cS : ClassId) (a1 : Int32)  : CI l D cI cC cS yX4_isSide wsX4_isSide rm_X4_isSide [.int a1] [] [] (r_X4_isSide a1) := by
  intro sz
  refine startC (cc := cX4_isSide) (maxL := 1) (ret := (some .boolean)) (by decide) rfl (Nat.le_of_ble_eq_true rfl) ?_
  intro p e s m args below meth c hx hb hml hsg hts hown hlocks hin hK A hA hS hP hD ls hl
  have hown : s.vm.findClass RX4 = some m.cls := hown
  have hl : lv_has ls 1 [(0, .int a1)] := hl
  have hP : va_P D vwCl [] s.heap := hP
  have hD : va_D A [] := hD
  have hr : (r_X4_isSide a1) = (if a1 = (0 : Int32) then (1 : Int32) else (if a1 = (1 : Int32) then (1 : Int32) else (0 : Int32))) := rfl
  refine lv_iload_n hx hb dX4_isSide_0 rfl (lv_at hl 0 rfl) ?_
  refine lv_if_eq (tgt := 9) hx hb dX4_isSide_1 (by decide) (fun c1 => ?_) (fun c1 => ?_)
  · have hr := hr.trans (if_pos c1)
    refine lv_iconst (v := (1 : Int32)) hx hb dX4_isSide_9 (by decide) ?_
    refine lv_goto (tgt := 14) hx hb dX4_isSide_10 (by decide) ?_
    exact endZ (v := (1 : Int32)) hb hx hsg rfl hr.symm hP hD hS dX4_isSide_14 hlocks
  · have hr := hr.trans (if_neg c1)
    refine lv_iload_n hx hb dX4_isSide_4 rfl (lv_at hl 0 rfl) ?_
    refine lv_iconst (v := (1 : Int32)) hx hb dX4_isSide_5 (by decide) ?_
    refine lv_icmp_ne (tgt := 13) hx hb dX4_isSide_6 (by decide) (fun c6 => ?_) (fun c6 => ?_)
    · have hr := hr.trans (if_neg c6)
      refine lv_iconst (v := (0 : Int32)) hx hb dX4_isSide_13 (by decide) ?_
      exact endZ (v := (0 : Int32)) hb hx hsg rfl hr.symm hP hD hS dX4_isSide_14 hlocks
    · have hr := hr.trans (if_pos c6)
      refine lv_iconst (v := (1 : Int32)) hx hb dX4_isSide_9 (by decide) ?_
      refine lv_goto (tgt := 14) hx hb dX4_isSide_10 (by decide) ?_
      exact endZ (v := (1 : Int32)) hb hx hsg rfl hr.symm hP hD hS dX4_isSide_14 hlocks
def r_X4_asNumber (a1 : Int32) : Int32 := (if a1 = (0 : Int32) then (0 : Int32) else (1 : Int32))
abbrev rm_X4_asNumber : Room := { frames := 0, cells := 0, slots := 0, locals := 0 }
set_option maxHeartbeats 4000000 in
set_option maxRecDepth 100000 in
theorem c_X4_asNumber (l : Launch) (D : va_G) (cI cC cS : ClassId) (a1 : Int32)  : CI l D cI cC cS yX4_asNumber wsX4_asNumber rm_X4_asNumber [.int a1] [] [] (r_X4_asNumber a1) := by
  intro sz
  refine startC (cc := cX4_asNumber) (maxL := 1) (ret := (some .int)) (by decide) rfl (Nat.le_of_ble_eq_true rfl) ?_
  intro p e s m args below meth c hx hb hml hsg hts hown hlocks hin hK A hA hS hP hD ls hl
  have hown : s.vm.findClass RX4 = some m.cls := hown
  have hl : lv_has ls 1 [(0, .int a1)] := hl
  have hP : va_P D vwCl [] s.heap := hP
  have hD : va_D A [] := hD
  have hr : (r_X4_asNumber a1) = (if a1 = (0 : Int32) then (0 : Int32) else (1 : Int32)) := rfl
  refine lv_iload_n hx hb dX4_asNumber_0 rfl (lv_at hl 0 rfl) ?_
  refine lv_if_eq (tgt := 8) hx hb dX4_asNumber_1 (by decide) (fun c1 => ?_) (fun c1 => ?_)
  · have hr := hr.trans (if_pos c1)
    refine lv_iconst (v := (0 : Int32)) hx hb dX4_asNumber_8 (by decide) ?_
    exact endI (v := (0 : Int32)) hb hx hsg hr.symm hP hD hS dX4_asNumber_9 hlocks
  · have hr := hr.trans (if_neg c1)
    refine lv_iconst (v := (1 : Int32)) hx hb dX4_asNumber_4 (by decide) ?_
    refine lv_goto (tgt := 9) hx hb dX4_asNumber_5 (by decide) ?_
    exact endI (v := (1 : Int32)) hb hx hsg hr.symm hP hD hS dX4_asNumber_9 hlocks
def r_X4_remainder (a1 : Int32) (a2 : Int32) : Int32 := (if a2 ≤ (0 : Int32) then (0 : Int32) else (a1 - a1 / a2 * a2))
abbrev rm_X4_remainder : Room := { frames := 0, cells := 0, slots := 0, locals := 0 }
set_option maxHeartbeats 4000000 in
set_option maxRecDepth 100000 in
theorem c_X4_remainder (l : Launch) (D : va_G) (cI cC cS : ClassId) (a1 : Int32) (a2 : Int32)  : CI l D cI cC cS yX4_remainder wsX4_remainder rm_X4_remainder [.int a1, .int a2] [] [] (r_X4_remainder a1 a2) := by
  intro sz
  refine startC (cc := cX4_remainder) (maxL := 2) (ret := (some .int)) (by decide) rfl (Nat.le_of_ble_eq_true rfl) ?_
  intro p e s m args below meth c hx hb hml hsg hts hown hlocks hin hK A hA hS hP hD ls hl
  have hown : s.vm.findClass RX4 = some m.cls := hown
  have hl : lv_has ls 2 [(0, .int a1), (1, .int a2)] := hl
  have hP : va_P D vwCl [] s.heap := hP
  have hD : va_D A [] := hD
  have hr : (r_X4_remainder a1 a2) = (if a2 ≤ (0 : Int32) then (0 : Int32) else (a1 - a1 / a2 * a2)) := rfl
  refine lv_iload_n hx hb dX4_remainder_0 rfl (lv_at hl 1 rfl) ?_
  refine lv_if_le (tgt := 10) hx hb dX4_remainder_1 (by decide) (fun c1 => ?_) (fun c1 => ?_)
  · have hr := hr.trans (if_pos c1)
    refine lv_iconst (v := (0 : Int32)) hx hb dX4_remainder_10 (by decide) ?_
    exact endI (v := (0 : Int32)) hb hx hsg hr.symm hP hD hS dX4_remainder_11 hlocks
  · have hr := hr.trans (if_neg c1)
    refine lv_iload_n hx hb dX4_remainder_4 rfl (lv_at hl 0 rfl) ?_
    refine lv_iload_n hx hb dX4_remainder_5 rfl (lv_at hl 1 rfl) ?_
    refine lv_irem hx hb dX4_remainder_6 (pos_ne c1) ?_
    refine lv_goto (tgt := 11) hx hb dX4_remainder_7 (by decide) ?_
    exact endI (v := (a1 - a1 / a2 * a2)) hb hx hsg hr.symm hP hD hS dX4_remainder_11 hlocks
def r_X4_valueAt (f : F1) (a1 : Int32) (n : Nat) : Int32 := (if a1 < (0 : Int32) then (0 : Int32) else (if (nI n) ≤ a1 then (0 : Int32) else (f a1.toNatClampNeg)))
abbrev rm_X4_valueAt : Room := { frames := 0, cells := 0, slots := 0, locals := 0 }
set_option maxHeartbeats 4000000 in
set_option maxRecDepth 100000 in
theorem c_X4_valueAt (l : Launch) (D : va_G) (cI cC cS : ClassId) (h : Nat) (f : F1) (a1 : Int32) (n : Nat) (hn : n < 2147483648) : CI l D cI cC cS yX4_valueAt wsX4_valueAt rm_X4_valueAt [.ref h, .int a1] ([(h, arC cI n f)]) ([(h, arC cI n f)]) (r_X4_valueAt f a1 n) := by
  intro sz
  refine startC (cc := cX4_valueAt) (maxL := 2) (ret := (some .int)) (by decide) rfl (Nat.le_of_ble_eq_true rfl) ?_
  intro p e s m args below meth c hx hb hml hsg hts hown hlocks hin hK A hA hS hP hD ls hl
  have hown : s.vm.findClass RX4 = some m.cls := hown
  have hl : lv_has ls 2 [(0, .ref h), (1, .int a1)] := hl
  have hP : va_P D vwCl [(h, arC cI n f)] s.heap := hP
  have hD : va_D A [(h, arC cI n f)] := hD
  have hr : (r_X4_valueAt f a1 n) = (if a1 < (0 : Int32) then (0 : Int32) else (if (nI n) ≤ a1 then (0 : Int32) else (f a1.toNatClampNeg))) := rfl
  refine lv_iload_n hx hb dX4_valueAt_0 rfl (lv_at hl 1 rfl) ?_
  refine lv_if_lt (tgt := 16) hx hb dX4_valueAt_1 (by decide) (fun c1 => ?_) (fun c1 => ?_)
  · have hr := hr.trans (if_pos c1)
    refine lv_iconst (v := (0 : Int32)) hx hb dX4_valueAt_16 (by decide) ?_
    exact endI (v := (0 : Int32)) hb hx hsg hr.symm hP hD hS dX4_valueAt_17 hlocks
  · have hr := hr.trans (if_neg c1)
    refine lv_iload_n hx hb dX4_valueAt_4 rfl (lv_at hl 1 rfl) ?_
    refine lv_aload_n hx hb dX4_valueAt_5 rfl (lv_at hl 0 rfl) ?_
    refine va_alen (v := (nI n)) hx hb hK.1 hP 0 0 rfl rfl rfl dX4_valueAt_6 ?_
    refine lv_icmp_ge (tgt := 16) hx hb dX4_valueAt_7 (by decide) (fun c7 => ?_) (fun c7 => ?_)
    · have hr := hr.trans (if_pos c7)
      refine lv_iconst (v := (0 : Int32)) hx hb dX4_valueAt_16 (by decide) ?_
      exact endI (v := (0 : Int32)) hb hx hsg hr.symm hP hD hS dX4_valueAt_17 hlocks
    · have hr := hr.trans (if_neg c7)
      refine lv_aload_n hx hb dX4_valueAt_10 rfl (lv_at hl 0 rfl) ?_
      refine lv_iload_n hx hb dX4_valueAt_11 rfl (lv_at hl 1 rfl) ?_
      refine va_iald hx hb hK.1 hP 0 0 rfl rfl (i := a1) (vp_gd c1 c7 hn) dX4_valueAt_12 ?_
      refine lv_goto (tgt := 17) hx hb dX4_valueAt_13 (by decide) ?_
      exact endI (v := (f a1.toNatClampNeg)) hb hx hsg hr.symm hP hD hS dX4_valueAt_17 hlocks
def p_X4_setAt (f : F1) (a1 : Int32) (a2 : Int32) (n : Nat) : F1 := (if a1 < (0 : Int32) then f else (if (nI n) ≤ a1 then f else (upd f a1.toNatClampNeg a2)))
abbrev rm_X4_setAt : Room := { frames := 0, cells := 0, slots := 0, locals := 0 }
set_option maxHeartbeats 4000000 in
set_option maxRecDepth 100000 in
theorem c_X4_setAt (l : Launch) (D : va_G) (cI cC cS : ClassId) (h : Nat) (f : F1) (a1 : Int32) (a2 : Int32) (n : Nat) (hn : n < 2147483648) : CV l D cI cC cS yX4_setAt wsX4_setAt rm_X4_setAt [.ref h, .int a1, .int a2] ([(h, arC cI n f)]) ([(h, arC cI n (p_X4_setAt f a1 a2 n))])  := by
  intro sz
  refine startC (cc := cX4_setAt) (maxL := 3) (ret := none) (by decide) rfl (Nat.le_of_ble_eq_true rfl) ?_
  intro p e s m args below meth c hx hb hml hsg hts hown hlocks hin hK A hA hS hP hD ls hl
  have hown : s.vm.findClass RX4 = some m.cls := hown
  have hl : lv_has ls 3 [(0, .ref h), (1, .int a1), (2, .int a2)] := hl
  have hP : va_P D vwCl [(h, arC cI n f)] s.heap := hP
  have hD : va_D A [(h, arC cI n f)] := hD
  have hp : (p_X4_setAt f a1 a2 n) = (if a1 < (0 : Int32) then f else (if (nI n) ≤ a1 then f else (upd f a1.toNatClampNeg a2))) := rfl
  refine lv_iload_n hx hb dX4_setAt_0 rfl (lv_at hl 1 rfl) ?_
  refine lv_if_lt (tgt := 14) hx hb dX4_setAt_1 (by decide) (fun c1 => ?_) (fun c1 => ?_)
  · have hp := hp.trans (if_pos c1)
    exact endV hb hx hsg (by rw [hp]; exact hP) (by rw [hp]; exact hD) hS dX4_setAt_14 hlocks
  · have hp := hp.trans (if_neg c1)
    refine lv_iload_n hx hb dX4_setAt_4 rfl (lv_at hl 1 rfl) ?_
    refine lv_aload_n hx hb dX4_setAt_5 rfl (lv_at hl 0 rfl) ?_
    refine va_alen (v := (nI n)) hx hb hK.1 hP 0 0 rfl rfl rfl dX4_setAt_6 ?_
    refine lv_icmp_ge (tgt := 14) hx hb dX4_setAt_7 (by decide) (fun c7 => ?_) (fun c7 => ?_)
    · have hp := hp.trans (if_pos c7)
      exact endV hb hx hsg (by rw [hp]; exact hP) (by rw [hp]; exact hD) hS dX4_setAt_14 hlocks
    · have hp := hp.trans (if_neg c7)
      refine lv_aload_n hx hb dX4_setAt_10 rfl (lv_at hl 0 rfl) ?_
      refine lv_iload_n hx hb dX4_setAt_11 rfl (lv_at hl 1 rfl) ?_
      refine lv_iload_n hx hb dX4_setAt_12 rfl (lv_at hl 2 rfl) ?_
      refine va_iast hx hb hK.1 hP hD hS 0 0 rfl rfl (i := a1) (x := a2) (vp_gd c1 c7 hn) dX4_setAt_13 (fun H locs hP hD hS => ?_)
      have hP : va_P D vwCl [(h, arC cI n (upd f a1.toNatClampNeg a2))] H := hP
      have hD : va_D A [(h, arC cI n (upd f a1.toNatClampNeg a2))] := hD
      exact endV hb hx hsg (by rw [hp]; exact hP) (by rw [hp]; exact hD) hS dX4_setAt_14 hlocks
def lp_X4_fillRow_2 (a1 : Int32) (n : Nat) : Nat → Int32 → F1 → F1
  | 0, _, f1 => f1
  | fu + 1, i, f1 => (if (nI n) ≤ i then f1 else (lp_X4_fillRow_2 a1 n fu (i + (1 : Int32)) (upd f1 i.toNatClampNeg a1)))
def p_X4_fillRow (f : F1) (a1 : Int32) (n : Nat) : F1 := (lp_X4_fillRow_2 a1 n (((nI n).toInt - (0 : Int32).toInt).toNat + 1) (0 : Int32) f)
abbrev rm_X4_fillRow : Room := { frames := 0, cells := 0, slots := 0, locals := 0 }
set_option maxHeartbeats 4000000 in
set_option maxRecDepth 100000 in
theorem c_X4_fillRow (l : Launch) (D : va_G) (cI cC cS : ClassId) (h : Nat) (f : F1) (a1 : Int32) (n : Nat) (hn : n < 2147483648) : CV l D cI cC cS yX4_fillRow wsX4_fillRow rm_X4_fillRow [.ref h, .int a1] ([(h, arC cI n f)]) ([(h, arC cI n (p_X4_fillRow f a1 n))])  := by
  intro sz
  refine startC (cc := cX4_fillRow) (maxL := 3) (ret := none) (by decide) rfl (Nat.le_of_ble_eq_true rfl) ?_
  intro p e s m args below meth c hx hb hml hsg hts hown hlocks hin hK A hA hS hP hD ls hl
  have hown : s.vm.findClass RX4 = some m.cls := hown
  have hl : lv_has ls 3 [(0, .ref h), (1, .int a1)] := hl
  have hP : va_P D vwCl [(h, arC cI n f)] s.heap := hP
  have hD : va_D A [(h, arC cI n f)] := hD
  have hp : (p_X4_fillRow f a1 n) = (lp_X4_fillRow_2 a1 n (((nI n).toInt - (0 : Int32).toInt).toNat + 1) (0 : Int32) f) := rfl
  refine lv_iconst (v := (0 : Int32)) hx hb dX4_fillRow_0 (by decide) ?_
  refine lv_istore_n (lv' := [(2, .int (0 : Int32)), (0, .ref h), (1, .int a1)]) hx hb dX4_fillRow_1 rfl hl (by decide) rfl (fun ls hl => ?_)
  have L_2 : ∀ (fu : Nat) (i : Int32) (f1 : F1) (H : Heap) (locs : List Loc), ((nI n).toInt - i.toInt < (fu : Int) ∧ 0 < fu) → 0 ≤ i.toInt → (p_X4_fillRow f a1 n) = (lp_X4_fillRow_2 a1 n fu i f1) → va_P D vwCl [(h, arC cI n f1)] H → va_D A [(h, arC cI n f1)] → va_S A s.heap H locs → ∀ ls, lv_has ls 3 [(0, .ref h), (1, .int a1), (2, .int i)] → W p l e rm_X4_fillRow s m args below meth c H locs 0 0 (MQ below (QV D ([(h, arC cI n (p_X4_fillRow f a1 n))]) A) args s 0 0 A) (F0 m 2 ls []) := by
    intro fu
    induction fu with
    | zero => intro i f1 H locs hm; exact absurd hm.2 (Nat.lt_irrefl 0)
    | succ fu ih_2 =>
      intro i f1 H locs hm hi hp hP hD hS ls hl
      have hp : (p_X4_fillRow f a1 n) = (if (nI n) ≤ i then f1 else (lp_X4_fillRow_2 a1 n fu (i + (1 : Int32)) (upd f1 i.toNatClampNeg a1))) := hp
      refine lv_iload_n hx hb dX4_fillRow_2 rfl (lv_at hl 2 rfl) ?_
      refine lv_aload_n hx hb dX4_fillRow_3 rfl (lv_at hl 0 rfl) ?_
      refine va_alen (v := (nI n)) hx hb hK.1 hP 0 0 rfl rfl rfl dX4_fillRow_4 ?_
      refine lv_icmp_ge (tgt := 18) hx hb dX4_fillRow_5 (by decide) (fun c5 => ?_) (fun c5 => ?_)
      · have hp := hp.trans (if_pos c5)
        exact endV hb hx hsg (by rw [hp]; exact hP) (by rw [hp]; exact hD) hS dX4_fillRow_18 hlocks
      · have hp := hp.trans (if_neg c5)
        refine lv_aload_n hx hb dX4_fillRow_8 rfl (lv_at hl 0 rfl) ?_
        refine lv_iload_n hx hb dX4_fillRow_9 rfl (lv_at hl 2 rfl) ?_
        refine lv_iload_n hx hb dX4_fillRow_10 rfl (lv_at hl 1 rfl) ?_
        refine va_iast hx hb hK.1 hP hD hS 0 0 rfl rfl (i := i) (x := a1) (vp_lt hi c5 hn) dX4_fillRow_11 (fun H locs hP hD hS => ?_)
        have hP : va_P D vwCl [(h, arC cI n (upd f1 i.toNatClampNeg a1))] H := hP
        have hD : va_D A [(h, arC cI n (upd f1 i.toNatClampNeg a1))] := hD
        refine lv_iinc (v := (i + (1 : Int32))) (lv' := [(2, .int (i + (1 : Int32))), (0, .ref h), (1, .int a1)]) hx hb dX4_fillRow_12 hl (k := 2) rfl rfl (by decide) rfl (fun ls hl => ?_)
        refine lv_goto (tgt := 2) hx hb dX4_fillRow_15 (by decide) ?_
        exact ih_2 (i + (1 : Int32)) (upd f1 i.toNatClampNeg a1) _ _ (cnt_step c5 hm) (inv_step c5 hi) hp hP hD hS ls (lv_sub hl [1, 2, 0] rfl)
  exact L_2 _ (0 : Int32) f _ _ (cnt_init _ _) (by decide) hp hP hD hS ls (lv_sub hl [1, 2, 0] rfl)
def lp_X4_copyRow_2 (f : F1) (nf : Nat) (ng : Nat) : Nat → Int32 → F1 → F1
  | 0, _, g1 => g1
  | fu + 1, i, g1 => (if (nI nf) ≤ i then g1 else (if (nI ng) ≤ i then g1 else (lp_X4_copyRow_2 f nf ng fu (i + (1 : Int32)) (upd g1 i.toNatClampNeg (f i.toNatClampNeg)))))
def p_X4_copyRow (f : F1) (g : F1) (nf : Nat) (ng : Nat) : F1 := (lp_X4_copyRow_2 f nf ng (((nI nf).toInt - (0 : Int32).toInt).toNat + 1) (0 : Int32) g)
abbrev rm_X4_copyRow : Room := { frames := 0, cells := 0, slots := 0, locals := 0 }
set_option maxHeartbeats 4000000 in
set_option maxRecDepth 100000 in
theorem c_X4_copyRow (l : Launch) (D : va_G) (cI cC cS : ClassId) (h1 : Nat) (h2 : Nat) (f : F1) (g : F1) (nf : Nat) (ng : Nat) (hnf : nf < 2147483648) (hng : ng < 2147483648) : CV l D cI cC cS yX4_copyRow wsX4_copyRow rm_X4_copyRow [.ref h1, .ref h2] ([(h1, arC cI nf f)] ++ [(h2, arC cI ng g)]) ([(h1, arC cI nf f)] ++ [(h2, arC cI ng (p_X4_copyRow f g nf ng))])  := by
  intro sz
  refine startC (cc := cX4_copyRow) (maxL := 3) (ret := none) (by decide) rfl (Nat.le_of_ble_eq_true rfl) ?_
  intro p e s m args below meth c hx hb hml hsg hts hown hlocks hin hK A hA hS hP hD ls hl
  have hown : s.vm.findClass RX4 = some m.cls := hown
  have hl : lv_has ls 3 [(0, .ref h1), (1, .ref h2)] := hl
  have hP : va_P D vwCl [(h1, arC cI nf f), (h2, arC cI ng g)] s.heap := hP
  have hD : va_D A [(h1, arC cI nf f), (h2, arC cI ng g)] := hD
  have hp : (p_X4_copyRow f g nf ng) = (lp_X4_copyRow_2 f nf ng (((nI nf).toInt - (0 : Int32).toInt).toNat + 1) (0 : Int32) g) := rfl
  refine lv_iconst (v := (0 : Int32)) hx hb dX4_copyRow_0 (by decide) ?_
  refine lv_istore_n (lv' := [(2, .int (0 : Int32)), (0, .ref h1), (1, .ref h2)]) hx hb dX4_copyRow_1 rfl hl (by decide) rfl (fun ls hl => ?_)
  have L_2 : ∀ (fu : Nat) (i : Int32) (g1 : F1) (H : Heap) (locs : List Loc), ((nI nf).toInt - i.toInt < (fu : Int) ∧ 0 < fu) → 0 ≤ i.toInt → (p_X4_copyRow f g nf ng) = (lp_X4_copyRow_2 f nf ng fu i g1) → va_P D vwCl [(h1, arC cI nf f), (h2, arC cI ng g1)] H → va_D A [(h1, arC cI nf f), (h2, arC cI ng g1)] → va_S A s.heap H locs → ∀ ls, lv_has ls 3 [(0, .ref h1), (1, .ref h2), (2, .int i)] → W p l e rm_X4_copyRow s m args below meth c H locs 0 0 (MQ below (QV D ([(h1, arC cI nf f)] ++ [(h2, arC cI ng (p_X4_copyRow f g nf ng))]) A) args s 0 0 A) (F0 m 2 ls []) := by
    intro fu
    induction fu with
    | zero => intro i g1 H locs hm; exact absurd hm.2 (Nat.lt_irrefl 0)
    | succ fu ih_2 =>
      intro i g1 H locs hm hi hp hP hD hS ls hl
      have hp : (p_X4_copyRow f g nf ng) = (if (nI nf) ≤ i then g1 else (if (nI ng) ≤ i then g1 else (lp_X4_copyRow_2 f nf ng fu (i + (1 : Int32)) (upd g1 i.toNatClampNeg (f i.toNatClampNeg))))) := hp
      refine lv_iload_n hx hb dX4_copyRow_2 rfl (lv_at hl 2 rfl) ?_
      refine lv_aload_n hx hb dX4_copyRow_3 rfl (lv_at hl 0 rfl) ?_
      refine va_alen (v := (nI nf)) hx hb hK.1 hP 0 0 rfl rfl rfl dX4_copyRow_4 ?_
      refine lv_icmp_ge (tgt := 26) hx hb dX4_copyRow_5 (by decide) (fun c5 => ?_) (fun c5 => ?_)
      · have hp := hp.trans (if_pos c5)
        exact endV hb hx hsg (by rw [hp]; exact hP) (by rw [hp]; exact hD) hS dX4_copyRow_26 hlocks
      · have hp := hp.trans (if_neg c5)
        refine lv_iload_n hx hb dX4_copyRow_8 rfl (lv_at hl 2 rfl) ?_
        refine lv_aload_n hx hb dX4_copyRow_9 rfl (lv_at hl 1 rfl) ?_
        refine va_alen (v := (nI ng)) hx hb hK.1 hP 1 0 rfl rfl rfl dX4_copyRow_10 ?_
        refine lv_icmp_ge (tgt := 26) hx hb dX4_copyRow_11 (by decide) (fun c11 => ?_) (fun c11 => ?_)
        · have hp := hp.trans (if_pos c11)
          exact endV hb hx hsg (by rw [hp]; exact hP) (by rw [hp]; exact hD) hS dX4_copyRow_26 hlocks
        · have hp := hp.trans (if_neg c11)
          refine lv_aload_n hx hb dX4_copyRow_14 rfl (lv_at hl 1 rfl) ?_
          refine lv_iload_n hx hb dX4_copyRow_15 rfl (lv_at hl 2 rfl) ?_
          refine lv_aload_n hx hb dX4_copyRow_16 rfl (lv_at hl 0 rfl) ?_
          refine lv_iload_n hx hb dX4_copyRow_17 rfl (lv_at hl 2 rfl) ?_
          refine va_iald hx hb hK.1 hP 0 0 rfl rfl (i := i) (vp_lt hi c5 hnf) dX4_copyRow_18 ?_
          refine va_iast hx hb hK.1 hP hD hS 1 0 rfl rfl (i := i) (x := (f i.toNatClampNeg)) (vp_lt hi c11 hng) dX4_copyRow_19 (fun H locs hP hD hS => ?_)
          have hP : va_P D vwCl [(h1, arC cI nf f), (h2, arC cI ng (upd g1 i.toNatClampNeg (f i.toNatClampNeg)))] H := hP
          have hD : va_D A [(h1, arC cI nf f), (h2, arC cI ng (upd g1 i.toNatClampNeg (f i.toNatClampNeg)))] := hD
          refine lv_iinc (v := (i + (1 : Int32))) (lv' := [(2, .int (i + (1 : Int32))), (0, .ref h1), (1, .ref h2)]) hx hb dX4_copyRow_20 hl (k := 2) rfl rfl (by decide) rfl (fun ls hl => ?_)
          refine lv_goto (tgt := 2) hx hb dX4_copyRow_23 (by decide) ?_
          exact ih_2 (i + (1 : Int32)) (upd g1 i.toNatClampNeg (f i.toNatClampNeg)) _ _ (cnt_step c5 hm) (inv_step c5 hi) hp hP hD hS ls (lv_sub hl [1, 2, 0] rfl)
  exact L_2 _ (0 : Int32) g _ _ (cnt_init _ _) (by decide) hp hP hD hS ls (lv_sub hl [1, 2, 0] rfl)
