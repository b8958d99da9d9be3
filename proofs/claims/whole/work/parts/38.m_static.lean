def r_X5_in (a1 : Int64) (a2 : Int64) (a3 : Int64) : Int32 := (if (lg_cmp a1 a2) < (0 : Int32) then (0 : Int32) else (if (0 : Int32) < (lg_cmp a1 a3) then (0 : Int32) else (1 : Int32)))
abbrev rm_X5_in : Room := { frames := 0, cells := 0, slots := 0, locals := 0 }
set_option maxHeartbeats 4000000 in
set_option maxRecDepth 100000 in
theorem c_X5_in (l : Launch) (D : va_G) (cI cC cS : ClassId) (a1 : Int64) (a2 : Int64) (a3 : Int64)  : CI l D cI cC cS yX5_in wsX5_in rm_X5_in [.long a1, .long a2, .long a3] [] [] (r_X5_in a1 a2 a3) := by
  intro sz
  refine startC (cc := cX5_in) (maxL := 6) (ret := (some .boolean)) (by decide) rfl (Nat.le_of_ble_eq_true rfl) ?_
  intro p e s m args below meth c hx hb hml hsg hts hown hlocks hin hK A hA hS hP hD ls hl
  have hown : s.vm.findClass RX5 = some m.cls := hown
  have hl : lv_has ls 6 [(0, .long a1), (2, .long a2), (4, .long a3)] := hl
  have hP : va_P D vwCl [] s.heap := hP
  have hD : va_D A [] := hD
  have hr : (r_X5_in a1 a2 a3) = (if (lg_cmp a1 a2) < (0 : Int32) then (0 : Int32) else (if (0 : Int32) < (lg_cmp a1 a3) then (0 : Int32) else (1 : Int32))) := rfl
  refine lv_lload_n hx hb dX5_in_0 rfl (lv_at hl 0 rfl) ?_
  refine lv_lload_n hx hb dX5_in_1 rfl (lv_at hl 1 rfl) ?_
  refine W.lcmp hx hb dX5_in_2 ?_
  refine lv_if_lt (tgt := 17) hx hb dX5_in_3 (by decide) (fun c3 => ?_) (fun c3 => ?_)
  · have hr := hr.trans (if_pos c3)
    refine lv_iconst (v := (0 : Int32)) hx hb dX5_in_17 (by decide) ?_
    exact endZ (v := (0 : Int32)) hb hx hsg rfl hr.symm hP hD hS dX5_in_18 hlocks
  · have hr := hr.trans (if_neg c3)
    refine lv_lload_n hx hb dX5_in_6 rfl (lv_at hl 0 rfl) ?_
    refine lv_lload hx hb dX5_in_7 (lv_at hl 2 rfl) ?_
    refine W.lcmp hx hb dX5_in_9 ?_
    refine lv_if_gt (tgt := 17) hx hb dX5_in_10 (by decide) (fun c10 => ?_) (fun c10 => ?_)
    · have hr := hr.trans (if_pos c10)
      refine lv_iconst (v := (0 : Int32)) hx hb dX5_in_17 (by decide) ?_
      exact endZ (v := (0 : Int32)) hb hx hsg rfl hr.symm hP hD hS dX5_in_18 hlocks
    · have hr := hr.trans (if_neg c10)
      refine lv_iconst (v := (1 : Int32)) hx hb dX5_in_13 (by decide) ?_
      refine lv_goto (tgt := 18) hx hb dX5_in_14 (by decide) ?_
      exact endZ (v := (1 : Int32)) hb hx hsg rfl hr.symm hP hD hS dX5_in_18 hlocks
def r_X5_isSide (a1 : Int32) : Int32 := (if a1 = (0 : Int32) then (1 : Int32) else (if a1 = (1 : Int32) then (1 : Int32) else (0 : Int32)))
abbrev rm_X5_isSide : Room := { frames := 0, cells := 0, slots := 0, locals := 0 }
set_option maxHeartbeats 4000000 in
set_option maxRecDepth 100000 in
theorem c_X5_isSide (l : Launch) (D : va_G) (cI cC cS : ClassId) (a1 : Int32)  : CI l D cI cC cS yX5_isSide wsX5_isSide rm_X5_isSide [.int a1] [] [] (r_X5_isSide a1) := by
  intro sz
  refine startC (cc := cX5_isSide) (maxL := 1) (ret := (some .boolean)) (by decide) rfl (Nat.le_of_ble_eq_true rfl) ?_
  intro p e s m args below meth c hx hb hml hsg hts hown hlocks hin hK A hA hS hP hD ls hl
  have hown : s.vm.findClass RX5 = some m.cls := hown
  have hl : lv_has ls 1 [(0, .int a1)] := hl
  have hP : va_P D vwCl [] s.heap := hP
  have hD : va_D A [] := hD
  have hr : (r_X5_isSide a1) = (if a1 = (0 : Int32) then (1 : Int32) else (if a1 = (1 : Int32) then (1 : Int32) else (0 : Int32))) := rfl
  refine lv_iload_n hx hb dX5_isSide_0 rfl (lv_at hl 0 rfl) ?_
  refine lv_if_eq (tgt := 9) hx hb dX5_isSide_1 (by decide) (fun c1 => ?_) (fun c1 => ?_)
  · have hr := hr.trans (if_pos c1)
    refine lv_iconst (v := (1 : Int32)) hx hb dX5_isSide_9 (by decide) ?_
    refine lv_goto (tgt := 14) hx hb dX5_isSide_10 (by decide) ?_
    exact endZ (v := (1 : Int32)) hb hx hsg rfl hr.symm hP hD hS dX5_isSide_14 hlocks
  · have hr := hr.trans (if_neg c1)
    refine lv_iload_n hx hb dX5_isSide_4 rfl (lv_at hl 0 rfl) ?_
    refine lv_iconst (v := (1 : Int32)) hx hb dX5_isSide_5 (by decide) ?_
    refine lv_icmp_ne (tgt := 13) hx hb dX5_isSide_6 (by decide) (fun c6 => ?_) (fun c6 => ?_)
    · have hr := hr.trans (if_neg c6)
      refine lv_iconst (v := (0 : Int32)) hx hb dX5_isSide_13 (by decide) ?_
      exact endZ (v := (0 : Int32)) hb hx hsg rfl hr.symm hP hD hS dX5_isSide_14 hlocks
    · have hr := hr.trans (if_pos c6)
      refine lv_iconst (v := (1 : Int32)) hx hb dX5_isSide_9 (by decide) ?_
      refine lv_goto (tgt := 14) hx hb dX5_isSide_10 (by decide) ?_
      exact endZ (v := (1 : Int32)) hb hx hsg rfl hr.symm hP hD hS dX5_isSide_14 hlocks
def lp_X5_copy_2 (f : F1) : Nat → Int32 → F1 → F1
  | 0, _, g1 => g1
  | fu + 1, i, g1 => (if (96 : Int32) ≤ i then g1 else (lp_X5_copy_2 f fu (i + (1 : Int32)) (upd g1 i.toNatClampNeg (f i.toNatClampNeg))))
def p_X5_copy (f : F1) (g : F1) : F1 := (lp_X5_copy_2 f (((96 : Int32).toInt - (0 : Int32).toInt).toNat + 1) (0 : Int32) g)
abbrev rm_X5_copy : Room := { frames := 0, cells := 0, slots := 0, locals := 0 }
set_option maxHeartbeats 4000000 in
set_option maxRecDepth 100000 in
theorem c_X5_copy (l : Launch) (D : va_G) (cI cC cS : ClassId) (h1 : Nat) (h2 : Nat) (f : F1) (g : F1)  : CV l D cI cC cS yX5_copy wsX5_copy rm_X5_copy [.ref h1, .ref h2] ([(h1, arC cI 96 f)] ++ [(h2, arC cI 96 g)]) ([(h1, arC cI 96 f)] ++ [(h2, arC cI 96 (p_X5_copy f g))])  := by
  intro sz
  refine startC (cc := cX5_copy) (maxL := 3) (ret := none) (by decide) rfl (Nat.le_of_ble_eq_true rfl) ?_
  intro p e s m args below meth c hx hb hml hsg hts hown hlocks hin hK A hA hS hP hD ls hl
  have hown : s.vm.findClass RX5 = some m.cls := hown
  have hl : lv_has ls 3 [(0, .ref h1), (1, .ref h2)] := hl
  have hP : va_P D vwCl [(h1, arC cI 96 f), (h2, arC cI 96 g)] s.heap := hP
  have hD : va_D A [(h1, arC cI 96 f), (h2, arC cI 96 g)] := hD
  have hp : (p_X5_copy f g) = (lp_X5_copy_2 f (((96 : Int32).toInt - (0 : Int32).toInt).toNat + 1) (0 : Int32) g) := rfl
  refine lv_iconst (v := (0 : Int32)) hx hb dX5_copy_0 (by decide) ?_
  refine lv_istore_n (lv' := [(2, .int (0 : Int32)), (0, .ref h1), (1, .ref h2)]) hx hb dX5_copy_1 rfl hl (by decide) rfl (fun ls hl => ?_)
  have L_2 : ∀ (fu : Nat) (i : Int32) (g1 : F1) (H : Heap) (locs : List Loc), ((96 : Int32).toInt - i.toInt < (fu : Int) ∧ 0 < fu) → 0 ≤ i.toInt → (p_X5_copy f g) = (lp_X5_copy_2 f fu i g1) → va_P D vwCl [(h1, arC cI 96 f), (h2, arC cI 96 g1)] H → va_D A [(h1, arC cI 96 f), (h2, arC cI 96 g1)] → va_S A s.heap H locs → ∀ ls, lv_has ls 3 [(0, .ref h1), (1, .ref h2), (2, .int i)] → W p l e rm_X5_copy s m args below meth c H locs 0 0 (MQ below (QV D ([(h1, arC cI 96 f)] ++ [(h2, arC cI 96 (p_X5_copy f g))]) A) args s 0 0 A) (F0 m 2 ls []) := by
    intro fu
    induction fu with
    | zero => intro i g1 H locs hm; exact absurd hm.2 (Nat.lt_irrefl 0)
    | succ fu ih_2 =>
      intro i g1 H locs hm hi hp hP hD hS ls hl
      have hp : (p_X5_copy f g) = (if (96 : Int32) ≤ i then g1 else (lp_X5_copy_2 f fu (i + (1 : Int32)) (upd g1 i.toNatClampNeg (f i.toNatClampNeg)))) := hp
      refine lv_iload_n hx hb dX5_copy_2 rfl (lv_at hl 2 rfl) ?_
      refine lv_bipush (v := (96 : Int32)) hx hb dX5_copy_3 (by decide) ?_
      refine lv_icmp_ge (tgt := 20) hx hb dX5_copy_5 (by decide) (fun c5 => ?_) (fun c5 => ?_)
      · have hp := hp.trans (if_pos c5)
        exact endV hb hx hsg (by rw [hp]; exact hP) (by rw [hp]; exact hD) hS dX5_copy_20 hlocks
      · have hp := hp.trans (if_neg c5)
        refine lv_aload_n hx hb dX5_copy_8 rfl (lv_at hl 1 rfl) ?_
        refine lv_iload_n hx hb dX5_copy_9 rfl (lv_at hl 2 rfl) ?_
        refine lv_aload_n hx hb dX5_copy_10 rfl (lv_at hl 0 rfl) ?_
        refine lv_iload_n hx hb dX5_copy_11 rfl (lv_at hl 2 rfl) ?_
        refine va_iald hx hb hK.1 hP 0 0 rfl rfl (i := i) (vp_lt (n := 96) hi c5 (by decide)) dX5_copy_12 ?_
        refine va_iast hx hb hK.1 hP hD hS 1 0 rfl rfl (i := i) (x := (f i.toNatClampNeg)) (vp_lt (n := 96) hi c5 (by decide)) dX5_copy_13 (fun H locs hP hD hS => ?_)
        have hP : va_P D vwCl [(h1, arC cI 96 f), (h2, arC cI 96 (upd g1 i.toNatClampNeg (f i.toNatClampNeg)))] H := hP
        have hD : va_D A [(h1, arC cI 96 f), (h2, arC cI 96 (upd g1 i.toNatClampNeg (f i.toNatClampNeg)))] := hD
        refine lv_iinc (v := (i + (1 : Int32))) (lv' := [(2, .int (i + (1 : Int32))), (0, .ref h1), (1, .ref h2)]) hx hb dX5_copy_14 hl (k := 2) rfl rfl (by decide) rfl (fun ls hl => ?_)
        refine lv_goto (tgt := 2) hx hb dX5_copy_17 (by decide) ?_
        exact ih_2 (i + (1 : Int32)) (upd g1 i.toNatClampNeg (f i.toNatClampNeg)) _ _ (cnt_step c5 hm) (inv_step c5 hi) hp hP hD hS ls (lv_sub hl [1, 2, 0] rfl)
  exact L_2 _ (0 : Int32) g _ _ (cnt_init _ _) (by decide) hp hP hD hS ls (lv_sub hl [1, 2, 0] rfl)
