/-! what the constructors make -/
def sdI (p : Int32) : F1 := upd (upd (fun _ => 0) 2 1) 0 p
def stI : CS := fun i => if i = 0 then upd (upd (upd (upd (fun _ => 0) 0 2) 1 1) 3 1) 4 1 else if i = 1 then sdI 10 else if i = 2 then sdI 14 else if i = 4 then p_X4_fillRow (fun _ => 0) (-5 : Int32) 16 else fun _ => 0
def hsI : Nat → CS := fun j => if j = 4 then (fun _ _ => 0) else stI
def txI : CS := fun _ _ => 0
def gpI : Nat → Nat → CS := fun a b => if a = 0 then (if b = 3 then (fun _ _ => 0) else stI) else if a = 1 then hsI b else txI
def stA (h q1 q2 q3 q4 q5 q6 : Nat) : Nat → Nat := fun i => if i = 0 then h else if i = 1 then q1 else if i = 2 then q2 else if i = 3 then q3 else if i = 4 then q4 else if i = 5 then q5 else q6
def txA (h q1 q2 q3 : Nat) : Nat → Nat := fun i => if i = 0 then h else if i = 1 then q1 else if i = 2 then q2 else q3
def hsA (h q : Nat) (s0 s1 s2 s3 : Nat → Nat) : Nat → Nat → Nat := fun a => if a = 0 then s0 else if a = 1 then s1 else if a = 2 then s2 else if a = 3 then s3 else fun i => if i = 0 then h else q
def gpA (h : Nat) (s0 s1 s2 : Nat → Nat) (B : Nat → Nat → Nat) (td : Nat → Nat) : Nat → Nat → Nat → Nat := fun a b => if a = 0 then (if b = 0 then s0 else if b = 1 then s1 else if b = 2 then s2 else fun _ => h) else if a = 1 then B b else td
theorem stI_4 : stI 4 = p_X4_fillRow (fun _ => 0) (-5 : Int32) 16 := by
  unfold stI
  rw [if_neg (by decide), if_neg (by decide), if_neg (by decide), if_pos rfl]
theorem stI_w (cI : ClassId) (h q1 q2 q3 q4 q5 q6 : Nat) : stW cI (stA h q1 q2 q3 q4 q5 q6) stI = [(h, .inr (2, [.int (2 : Int32), .int (nb (1 : Int32)), .int 0, .int (1 : Int32), .int (1 : Int32), .ref q1, .ref q2, .ref q3, .ref q4, .ref q5, .int 0, .ref q6, .int 0, .int 0, .int 0])), (q1, sdC (sdI (10 : Int32))), (q2, sdC (sdI (14 : Int32))), (q3, arC cI 16 (fun _ => 0)), (q4, arC cI 16 (p_X4_fillRow (fun _ => 0) (-5 : Int32) 16)), (q5, arC cI 20 (fun _ => 0)), (q6, arC cI 16 (fun _ => 0))] := by
  unfold stW
  rw [stI_4]
  rfl
theorem hsI_w (cI cS : ClassId) (h q : Nat) (s0 s1 s2 s3 : Nat → Nat) : hsW cI cS (hsA h q s0 s1 s2 s3) hsI = (h, .inr (0, [.ref q, .int 0, .int 0])) :: (q, .inl (cS, 4, .inr (.inr (.inr (.inr (va_up (va_up (va_up (va_up (fun _ => none) 0 (some (s0 0))) 1 (some (s1 0))) 2 (some (s2 0))) 3 (some (s3 0)))))))) :: (stW cI s0 stI ++ (stW cI s1 stI ++ (stW cI s2 stI ++ stW cI s3 stI))) := by
  unfold hsW
  rw [show hsA h q s0 s1 s2 s3 0 = s0 from rfl, show hsA h q s0 s1 s2 s3 1 = s1 from rfl, show hsA h q s0 s1 s2 s3 2 = s2 from rfl, show hsA h q s0 s1 s2 s3 3 = s3 from rfl, show hsI 0 = stI from rfl, show hsI 1 = stI from rfl, show hsI 2 = stI from rfl, show hsI 3 = stI from rfl]
  rfl
theorem gpI_w (cI cC cS : ClassId) (h : Nat) (s0 s1 s2 : Nat → Nat) (B : Nat → Nat → Nat) (td : Nat → Nat) : gpW cI cC cS (gpA h s0 s1 s2 B td) gpI = (h, .inr (4, [.ref (s0 0), .ref (s1 0), .ref (s2 0), .int 0, .ref (B 4 0), .ref (td 0)])) :: (stW cI s0 stI ++ (stW cI s1 stI ++ (stW cI s2 stI ++ (hsW cI cS B hsI ++ txW cI cC td txI)))) := by
  unfold gpW
  rw [show gpA h s0 s1 s2 B td 0 0 = s0 from rfl, show gpA h s0 s1 s2 B td 0 1 = s1 from rfl, show gpA h s0 s1 s2 B td 0 2 = s2 from rfl, show gpA h s0 s1 s2 B td 1 = B from rfl, show gpA h s0 s1 s2 B td 2 0 = td from rfl, show gpI 0 0 = stI from rfl, show gpI 0 1 = stI from rfl, show gpI 0 2 = stI from rfl, show gpI 1 = hsI from rfl, show gpI 2 0 = txI from rfl]
  rfl
abbrev rm_X1_init : Room := { frames := 1, cells := 0, slots := 0, locals := 12 }
set_option maxHeartbeats 4000000 in
set_option maxRecDepth 100000 in
theorem c_X1_init (l : Launch) (D : va_G) (cI cC cS : ClassId) (h : Nat) (a1 : Int32) : ∀ sz, Met l yX1_init wsX1_init rm_X1_init (va_Pc [.ref h, .int a1] (CPre D cI cC cS [(h, .inr (1, [.int 0, .int 0, .int 0, .int 0, .int 0, .int 0, .int 0, .int 0]))] sz)) (va_Qv (fun u : Unit => True) (fun u t => va_P D vwCl [(h, sdC (sdI a1))] t.heap ∧ va_D (va_A [(h, .inr (1, [.int 0, .int 0, .int 0, .int 0, .int 0, .int 0, .int 0, .int 0]))] sz) [(h, sdC (sdI a1))]) (va_A [(h, .inr (1, [.int 0, .int 0, .int 0, .int 0, .int 0, .int 0, .int 0, .int 0]))] sz)) 0 0 (va_A [(h, .inr (1, [.int 0, .int 0, .int 0, .int 0, .int 0, .int 0, .int 0, .int 0]))] sz) := by
  intro sz
  refine startN (Qf := fun A => va_Qv (fun u : Unit => True) (fun u t => va_P D vwCl [(h, sdC (sdI a1))] t.heap ∧ va_D A [(h, sdC (sdI a1))]) A) (cc := cX1_init) (maxL := 2) (ret := none) (by decide) rfl (Nat.le_of_ble_eq_true rfl) ?_
  intro p e s m args below meth c hx hb hml hsg hts hown hlocks hin hK A hA hS hP hD ls hl
  have hown : s.vm.findClass RX1 = some m.cls := hown
  have hl : lv_has ls 2 [(0, .ref h), (1, .int a1)] := hl
  have hP : va_P D vwCl [(h, .inr (1, [.int 0, .int 0, .int 0, .int 0, .int 0, .int 0, .int 0, .int 0]))] s.heap := hP
  have hD : va_D A [(h, .inr (1, [.int 0, .int 0, .int 0, .int 0, .int 0, .int 0, .int 0, .int 0]))] := hD
  have inX1 : ∀ w ∈ wsX10, w ∈ wsX1_init := fun _ h => List.mem_cons_of_mem _ (List.mem_append_right _ h)
  refine lv_aload_n hx hb dX1_init_0 rfl (lv_at hl 0 rfl) ?_
  refine W.objInit hx hb hown (hts (.methodLink RX1 3 objectInit) (List.mem_of_getElem? (i := 1) rfl)) (hts (.instanceMethod objectInit) (List.mem_of_getElem? (i := 2) rfl)) (hts (.code objectInit ⟨#[0xb1]⟩ 1 none) (List.mem_of_getElem? (i := 3) rfl)) rfl (by rw [hml]; exact hl.1) rfl dX1_init_1 (Nat.le_of_ble_eq_true rfl) (Nat.le_of_ble_eq_true rfl) ?_
  refine W.eq (g2 := F0 m 4 ls []) rfl ?_
  refine lv_aload_n hx hb dX1_init_4 rfl (lv_at hl 0 rfl) ?_
  refine lv_iconst (v := (1 : Int32)) hx hb dX1_init_5 (by decide) ?_
  refine W.eq (g2 := F0 m 6 ls [.int (nb (1 : Int32)), .ref h]) (by rw [nb_1]) ?_
  refine va_put (D := D) (ci := 1) (v := .int (nb (1 : Int32))) (ty := .boolean) (C := RX1) (T := TX1) (N := 8) hx hb hts inX1 tyX1 tyX1_ok nmX1 hown hK.1 hP hD hS 0 rfl rfl 2 (by decide) (hts (.fieldLink RX1 9 "GrayPointers$Side" "going" "Z") (List.mem_of_getElem? (i := 4) rfl)) (fun _ h9 => h9) rfl (by decide +kernel) (nb_n _) (nb_f _) (Nat.le_of_ble_eq_true rfl) dX1_init_6 (fun H locs hP hD hS => ?_)
  have hP : va_P D vwCl [(h, .inr (1, [.int 0, .int 0, .int (nb (1 : Int32)), .int 0, .int 0, .int 0, .int 0, .int 0]))] H := hP
  have hD : va_D A [(h, .inr (1, [.int 0, .int 0, .int (nb (1 : Int32)), .int 0, .int 0, .int 0, .int 0, .int 0]))] := hD
  refine lv_aload_n hx hb dX1_init_9 rfl (lv_at hl 0 rfl) ?_
  refine lv_iload_n hx hb dX1_init_10 rfl (lv_at hl 1 rfl) ?_
  refine va_put (D := D) (ci := 1) (v := .int a1) (ty := .int) (C := RX1) (T := TX1) (N := 8) hx hb hts inX1 tyX1 tyX1_ok nmX1 hown hK.1 hP hD hS 0 rfl rfl 0 (by decide) (hts (.fieldLink RX1 15 "GrayPointers$Side" "period" "I") (List.mem_of_getElem? (i := 5) rfl)) (fun _ h9 => h9) rfl (by decide +kernel) rfl rfl (Nat.le_of_ble_eq_true rfl) dX1_init_11 (fun H locs hP hD hS => ?_)
  have hP : va_P D vwCl [(h, .inr (1, [.int a1, .int 0, .int (nb (1 : Int32)), .int 0, .int 0, .int 0, .int 0, .int 0]))] H := hP
  have hD : va_D A [(h, .inr (1, [.int a1, .int 0, .int (nb (1 : Int32)), .int 0, .int 0, .int 0, .int 0, .int 0]))] := hD
  exact endN () hb hx hsg trivial hP hD hS dX1_init_14 hlocks
abbrev rm_X2_init : Room := { frames := 2, cells := 6, slots := 84, locals := 60 }
set_option maxHeartbeats 4000000 in
set_option maxRecDepth 100000 in
theorem c_X2_init (l : Launch) (D : va_G) (cI cC cS : ClassId) (h : Nat)  : ∀ sz, Met l yX2_init wsX2_init rm_X2_init (va_Pc [.ref h] (CPre D cI cC cS [(h, .inr (2, [.int 0, .int 0, .int 0, .int 0, .int 0, .null, .null, .null, .null, .null, .int 0, .null, .int 0, .int 0, .int 0]))] sz)) (va_Qv (fun u : Nat → Nat => u 0 = h) (fun u t => va_P D vwCl (stW cI u stI) t.heap ∧ va_D (va_A [(h, .inr (2, [.int 0, .int 0, .int 0, .int 0, .int 0, .null, .null, .null, .null, .null, .int 0, .null, .int 0, .int 0, .int 0]))] sz) (stW cI u stI)) (va_A [(h, .inr (2, [.int 0, .int 0, .int 0, .int 0, .int 0, .null, .null, .null, .null, .null, .int 0, .null, .int 0, .int 0, .int 0]))] sz)) 6 84 (va_A [(h, .inr (2, [.int 0, .int 0, .int 0, .int 0, .int 0, .null, .null, .null, .null, .null, .int 0, .null, .int 0, .int 0, .int 0]))] sz) := by
  intro sz
  refine startN (Qf := fun A => va_Qv (fun u : Nat → Nat => u 0 = h) (fun u t => va_P D vwCl (stW cI u stI) t.heap ∧ va_D A (stW cI u stI)) A) (cc := cX2_init) (maxL := 1) (ret := none) (by decide) rfl (Nat.le_of_ble_eq_true rfl) ?_
  intro p e s m args below meth c hx hb hml hsg hts hown hlocks hin hK A hA hS hP hD ls hl
  have hown : s.vm.findClass RX2 = some m.cls := hown
  have hl : lv_has ls 1 [(0, .ref h)] := hl
  have hP : va_P D vwCl [(h, .inr (2, [.int 0, .int 0, .int 0, .int 0, .int 0, .null, .null, .null, .null, .null, .int 0, .null, .int 0, .int 0, .int 0]))] s.heap := hP
  have hD : va_D A [(h, .inr (2, [.int 0, .int 0, .int 0, .int 0, .int 0, .null, .null, .null, .null, .null, .int 0, .null, .int 0, .int 0, .int 0]))] := hD
  have inX1 : ∀ w ∈ wsX10, w ∈ wsX2_init := fun _ h => List.mem_cons_of_mem _ (List.mem_append_right _ h)
  have inX2 : ∀ w ∈ wsX20, w ∈ wsX2_init := fun _ h => List.mem_cons_of_mem _ (List.mem_append_left _ (List.mem_append_right _ h))
  refine lv_aload_n hx hb dX2_init_0 rfl (lv_at hl 0 rfl) ?_
  refine W.objInit hx hb hown (hts (.methodLink RX2 3 objectInit) (List.mem_of_getElem? (i := 1) rfl)) (hts (.instanceMethod objectInit) (List.mem_of_getElem? (i := 2) rfl)) (hts (.code objectInit ⟨#[0xb1]⟩ 1 none) (List.mem_of_getElem? (i := 3) rfl)) rfl (by rw [hml]; exact hl.1) rfl dX2_init_1 (Nat.le_of_ble_eq_true rfl) (Nat.le_of_ble_eq_true rfl) ?_
  refine W.eq (g2 := F0 m 4 ls []) rfl ?_
  refine lv_aload_n hx hb dX2_init_4 rfl (lv_at hl 0 rfl) ?_
  refine lv_iconst (v := (2 : Int32)) hx hb dX2_init_5 (by decide) ?_
  refine va_put (D := D) (ci := 2) (v := .int (2 : Int32)) (ty := .int) (C := RX2) (T := TX2) (N := 15) hx hb hts inX2 tyX2 tyX2_ok nmX2 hown hK.1 hP hD hS 0 rfl rfl 0 (by decide) (hts (.fieldLink RX2 9 "GrayPointers$State" "k" "I") (List.mem_of_getElem? (i := 4) rfl)) (fun _ h9 => h9) rfl (by decide +kernel) rfl rfl (Nat.le_of_ble_eq_true rfl) dX2_init_6 (fun H locs hP hD hS => ?_)
  have hP : va_P D vwCl [(h, .inr (2, [.int (2 : Int32), .int 0, .int 0, .int 0, .int 0, .null, .null, .null, .null, .null, .int 0, .null, .int 0, .int 0, .int 0]))] H := hP
  have hD : va_D A [(h, .inr (2, [.int (2 : Int32), .int 0, .int 0, .int 0, .int 0, .null, .null, .null, .null, .null, .int 0, .null, .int 0, .int 0, .int 0]))] := hD
  refine lv_aload_n hx hb dX2_init_9 rfl (lv_at hl 0 rfl) ?_
  refine lv_iconst (v := (1 : Int32)) hx hb dX2_init_10 (by decide) ?_
  refine W.eq (g2 := F0 m 11 ls [.int (nb (1 : Int32)), .ref h]) (by rw [nb_1]) ?_
  refine va_put (D := D) (ci := 2) (v := .int (nb (1 : Int32))) (ty := .boolean) (C := RX2) (T := TX2) (N := 15) hx hb hts inX2 tyX2 tyX2_ok nmX2 hown hK.1 hP hD hS 0 rfl rfl 1 (by decide) (hts (.fieldLink RX2 15 "GrayPointers$State" "gray" "Z") (List.mem_of_getElem? (i := 5) rfl)) (fun _ h9 => h9) rfl (by decide +kernel) (nb_n _) (nb_f _) (Nat.le_of_ble_eq_true rfl) dX2_init_11 (fun H locs hP hD hS => ?_)
  have hP : va_P D vwCl [(h, .inr (2, [.int (2 : Int32), .int (nb (1 : Int32)), .int 0, .int 0, .int 0, .null, .null, .null, .null, .null, .int 0, .null, .int 0, .int 0, .int 0]))] H := hP
  have hD : va_D A [(h, .inr (2, [.int (2 : Int32), .int (nb (1 : Int32)), .int 0, .int 0, .int 0, .null, .null, .null, .null, .null, .int 0, .null, .int 0, .int 0, .int 0]))] := hD
  refine lv_aload_n hx hb dX2_init_14 rfl (lv_at hl 0 rfl) ?_
  refine lv_iconst (v := (1 : Int32)) hx hb dX2_init_15 (by decide) ?_
  refine va_put (D := D) (ci := 2) (v := .int (1 : Int32)) (ty := .int) (C := RX2) (T := TX2) (N := 15) hx hb hts inX2 tyX2 tyX2_ok nmX2 hown hK.1 hP hD hS 0 rfl rfl 3 (by decide) (hts (.fieldLink RX2 19 "GrayPointers$State" "nearFull" "I") (List.mem_of_getElem? (i := 6) rfl)) (fun _ h9 => h9) rfl (by decide +kernel) rfl rfl (Nat.le_of_ble_eq_true rfl) dX2_init_16 (fun H locs hP hD hS => ?_)
  have hP : va_P D vwCl [(h, .inr (2, [.int (2 : Int32), .int (nb (1 : Int32)), .int 0, .int (1 : Int32), .int 0, .null, .null, .null, .null, .null, .int 0, .null, .int 0, .int 0, .int 0]))] H := hP
  have hD : va_D A [(h, .inr (2, [.int (2 : Int32), .int (nb (1 : Int32)), .int 0, .int (1 : Int32), .int 0, .null, .null, .null, .null, .null, .int 0, .null, .int 0, .int 0, .int 0]))] := hD
  refine lv_aload_n hx hb dX2_init_19 rfl (lv_at hl 0 rfl) ?_
  refine lv_iconst (v := (1 : Int32)) hx hb dX2_init_20 (by decide) ?_
  refine va_put (D := D) (ci := 2) (v := .int (1 : Int32)) (ty := .int) (C := RX2) (T := TX2) (N := 15) hx hb hts inX2 tyX2 tyX2_ok nmX2 hown hK.1 hP hD hS 0 rfl rfl 4 (by decide) (hts (.fieldLink RX2 22 "GrayPointers$State" "nearEmpty" "I") (List.mem_of_getElem? (i := 7) rfl)) (fun _ h9 => h9) rfl (by decide +kernel) rfl rfl (Nat.le_of_ble_eq_true rfl) dX2_init_21 (fun H locs hP hD hS => ?_)
  have hP : va_P D vwCl [(h, .inr (2, [.int (2 : Int32), .int (nb (1 : Int32)), .int 0, .int (1 : Int32), .int (1 : Int32), .null, .null, .null, .null, .null, .int 0, .null, .int 0, .int 0, .int 0]))] H := hP
  have hD : va_D A [(h, .inr (2, [.int (2 : Int32), .int (nb (1 : Int32)), .int 0, .int (1 : Int32), .int (1 : Int32), .null, .null, .null, .null, .null, .int 0, .null, .int 0, .int 0, .int 0]))] := hD
  refine lv_aload_n hx hb dX2_init_24 rfl (lv_at hl 0 rfl) ?_
  refine va_new (ci := 1) (fs := [.int 0, .int 0, .int 0, .int 0, .int 0, .int 0, .int 0, .int 0]) (C := RX1) (T := TX1) (N := 8) hx hb hts inX1 tyX1 tyX1_ok hown (hts (.classLink RX2 25 RX1) (List.mem_of_getElem? (i := 8) rfl)) (hts (.instantiable RX1 8) (List.mem_of_getElem? (i := 9) rfl)) (hts (.initialized RX1) (List.mem_of_getElem? (i := 10) rfl)) hK.1 hP hD hS hA rfl (fun j hj => by rcases (show j = 0 ∨ j = 1 ∨ j = 2 ∨ j = 3 ∨ j = 4 ∨ j = 5 ∨ j = 6 ∨ j = 7 by omega) with rfl | rfl | rfl | rfl | rfl | rfl | rfl | rfl <;> rfl) (Nat.le_of_ble_eq_true rfl) (Nat.le_of_ble_eq_true rfl) dX2_init_25 (fun q1 H hP hD hS => ?_)
  have hP : va_P D vwCl [(h, .inr (2, [.int (2 : Int32), .int (nb (1 : Int32)), .int 0, .int (1 : Int32), .int (1 : Int32), .null, .null, .null, .null, .null, .int 0, .null, .int 0, .int 0, .int 0])), (q1, .inr (1, [.int 0, .int 0, .int 0, .int 0, .int 0, .int 0, .int 0, .int 0]))] H := hP
  have hD : va_D A [(h, .inr (2, [.int (2 : Int32), .int (nb (1 : Int32)), .int 0, .int (1 : Int32), .int (1 : Int32), .null, .null, .null, .null, .null, .int 0, .null, .int 0, .int 0, .int 0])), (q1, .inr (1, [.int 0, .int 0, .int 0, .int 0, .int 0, .int 0, .int 0, .int 0]))] := hD
  refine W.widen (k := 1) (n := 8) (Nat.le_of_ble_eq_true rfl) (Nat.le_of_ble_eq_true rfl) ?_
  refine lv_dup hx hb dX2_init_28 rfl ?_
  refine lv_bipush (v := (10 : Int32)) hx hb dX2_init_29 (by decide) ?_
  refine goN (w := [(q1, .inr (1, [.int 0, .int 0, .int 0, .int 0, .int 0, .int 0, .int 0, .int 0]))]) (wr := [(h, .inr (2, [.int (2 : Int32), .int (nb (1 : Int32)), .int 0, .int (1 : Int32), .int (1 : Int32), .null, .null, .null, .null, .null, .int 0, .null, .int 0, .int 0, .int 0]))]) (va_runI (As := [.int (10 : Int32)]) (rest := [.ref q1, .ref h]) ⟨hx, hb, hml, hown, hts⟩ (c_X1_init l D cI cC cS q1 (10 : Int32) _) (cwI 1 hts gX2_init_X1_init rfl rfl rfl (hts (.initialized RX1) (List.mem_of_getElem? (i := 10) rfl)) (hts (.methodLink RX2 27 yX1_init) (List.mem_of_getElem? (i := 18) rfl)) (hts (.instanceMethod yX1_init) (List.mem_of_getElem? (i := 19) rfl)) rfl (by decide +kernel) ⟨Nat.le_of_ble_eq_true rfl, Nat.le_of_ble_eq_true rfl⟩) (preS hK hP hD [1] (by decide) rfl) rfl rfl hl.1 rfl (lv_room (Nat.le_of_ble_eq_true rfl)) dX2_init_31 ⟨Nat.le_of_ble_eq_true rfl, Nat.le_of_ble_eq_true rfl⟩) hP hD hS hA [1] [0] rfl rfl (by decide) (by decide) (fun u_1 H locs hu hPn hDn hS => ?_)
  have hP : va_P D vwCl [(h, .inr (2, [.int (2 : Int32), .int (nb (1 : Int32)), .int 0, .int (1 : Int32), .int (1 : Int32), .null, .null, .null, .null, .null, .int 0, .null, .int 0, .int 0, .int 0])), (q1, sdC (sdI (10 : Int32)))] H := hPn
  have hD : va_D A [(h, .inr (2, [.int (2 : Int32), .int (nb (1 : Int32)), .int 0, .int (1 : Int32), .int (1 : Int32), .null, .null, .null, .null, .null, .int 0, .null, .int 0, .int 0, .int 0])), (q1, sdC (sdI (10 : Int32)))] := hDn
  refine W.widen (k := 1) (n := 8) (Nat.le_of_ble_eq_true rfl) (Nat.le_of_ble_eq_true rfl) ?_
  refine va_putF (D := D) (ci := 2) (v := .ref q1) (ty := (.object "GrayPointers$Side")) (C := RX2) (T := TX2) (N := 15) hx hb hts inX2 tyX2 tyX2_ok nmX2 hown hK.1 hP hD hS 0 rfl rfl 5 (by decide) (hts (.fieldLink RX2 30 "GrayPointers$State" "writer" "LGrayPointers$Side;") (List.mem_of_getElem? (i := 11) rfl)) (fun _ h9 => h9) rfl hin rfl (by decide +kernel) rfl rfl (Nat.le_of_ble_eq_true rfl) dX2_init_34 (fun H locs hP hD hS => ?_)
  have hP : va_P D vwCl [(h, .inr (2, [.int (2 : Int32), .int (nb (1 : Int32)), .int 0, .int (1 : Int32), .int (1 : Int32), .ref q1, .null, .null, .null, .null, .int 0, .null, .int 0, .int 0, .int 0])), (q1, sdC (sdI (10 : Int32)))] H := hP
  have hD : va_D A [(h, .inr (2, [.int (2 : Int32), .int (nb (1 : Int32)), .int 0, .int (1 : Int32), .int (1 : Int32), .ref q1, .null, .null, .null, .null, .int 0, .null, .int 0, .int 0, .int 0])), (q1, sdC (sdI (10 : Int32)))] := hD
  refine lv_aload_n hx hb dX2_init_37 rfl (lv_at hl 0 rfl) ?_
  refine va_new (ci := 1) (fs := [.int 0, .int 0, .int 0, .int 0, .int 0, .int 0, .int 0, .int 0]) (C := RX1) (T := TX1) (N := 8) hx hb hts inX1 tyX1 tyX1_ok hown (hts (.classLink RX2 25 RX1) (List.mem_of_getElem? (i := 8) rfl)) (hts (.instantiable RX1 8) (List.mem_of_getElem? (i := 9) rfl)) (hts (.initialized RX1) (List.mem_of_getElem? (i := 10) rfl)) hK.1 hP hD hS hA rfl (fun j hj => by rcases (show j = 0 ∨ j = 1 ∨ j = 2 ∨ j = 3 ∨ j = 4 ∨ j = 5 ∨ j = 6 ∨ j = 7 by omega) with rfl | rfl | rfl | rfl | rfl | rfl | rfl | rfl <;> rfl) (Nat.le_of_ble_eq_true rfl) (Nat.le_of_ble_eq_true rfl) dX2_init_38 (fun q2 H hP hD hS => ?_)
  have hP : va_P D vwCl [(h, .inr (2, [.int (2 : Int32), .int (nb (1 : Int32)), .int 0, .int (1 : Int32), .int (1 : Int32), .ref q1, .null, .null, .null, .null, .int 0, .null, .int 0, .int 0, .int 0])), (q1, sdC (sdI (10 : Int32))), (q2, .inr (1, [.int 0, .int 0, .int 0, .int 0, .int 0, .int 0, .int 0, .int 0]))] H := hP
  have hD : va_D A [(h, .inr (2, [.int (2 : Int32), .int (nb (1 : Int32)), .int 0, .int (1 : Int32), .int (1 : Int32), .ref q1, .null, .null, .null, .null, .int 0, .null, .int 0, .int 0, .int 0])), (q1, sdC (sdI (10 : Int32))), (q2, .inr (1, [.int 0, .int 0, .int 0, .int 0, .int 0, .int 0, .int 0, .int 0]))] := hD
  refine W.widen (k := 2) (n := 16) (Nat.le_of_ble_eq_true rfl) (Nat.le_of_ble_eq_true rfl) ?_
  refine lv_dup hx hb dX2_init_41 rfl ?_
  refine lv_bipush (v := (14 : Int32)) hx hb dX2_init_42 (by decide) ?_
  refine goN (w := [(q2, .inr (1, [.int 0, .int 0, .int 0, .int 0, .int 0, .int 0, .int 0, .int 0]))]) (wr := [(h, .inr (2, [.int (2 : Int32), .int (nb (1 : Int32)), .int 0, .int (1 : Int32), .int (1 : Int32), .ref q1, .null, .null, .null, .null, .int 0, .null, .int 0, .int 0, .int 0])), (q1, sdC (sdI (10 : Int32)))]) (va_runI (As := [.int (14 : Int32)]) (rest := [.ref q2, .ref h]) ⟨hx, hb, hml, hown, hts⟩ (c_X1_init l D cI cC cS q2 (14 : Int32) _) (cwI 1 hts gX2_init_X1_init rfl rfl rfl (hts (.initialized RX1) (List.mem_of_getElem? (i := 10) rfl)) (hts (.methodLink RX2 27 yX1_init) (List.mem_of_getElem? (i := 18) rfl)) (hts (.instanceMethod yX1_init) (List.mem_of_getElem? (i := 19) rfl)) rfl (by decide +kernel) ⟨Nat.le_of_ble_eq_true rfl, Nat.le_of_ble_eq_true rfl⟩) (preS hK hP hD [2] (by decide) rfl) rfl rfl hl.1 rfl (lv_room (Nat.le_of_ble_eq_true rfl)) dX2_init_44 ⟨Nat.le_of_ble_eq_true rfl, Nat.le_of_ble_eq_true rfl⟩) hP hD hS hA [2] [0, 1] rfl rfl (by decide) (by decide) (fun u_2 H locs hu hPn hDn hS => ?_)
  have hP : va_P D vwCl [(h, .inr (2, [.int (2 : Int32), .int (nb (1 : Int32)), .int 0, .int (1 : Int32), .int (1 : Int32), .ref q1, .null, .null, .null, .null, .int 0, .null, .int 0, .int 0, .int 0])), (q1, sdC (sdI (10 : Int32))), (q2, sdC (sdI (14 : Int32)))] H := hPn
  have hD : va_D A [(h, .inr (2, [.int (2 : Int32), .int (nb (1 : Int32)), .int 0, .int (1 : Int32), .int (1 : Int32), .ref q1, .null, .null, .null, .null, .int 0, .null, .int 0, .int 0, .int 0])), (q1, sdC (sdI (10 : Int32))), (q2, sdC (sdI (14 : Int32)))] := hDn
  refine W.widen (k := 2) (n := 16) (Nat.le_of_ble_eq_true rfl) (Nat.le_of_ble_eq_true rfl) ?_
  refine va_putF (D := D) (ci := 2) (v := .ref q2) (ty := (.object "GrayPointers$Side")) (C := RX2) (T := TX2) (N := 15) hx hb hts inX2 tyX2 tyX2_ok nmX2 hown hK.1 hP hD hS 0 rfl rfl 6 (by decide) (hts (.fieldLink RX2 34 "GrayPointers$State" "reader" "LGrayPointers$Side;") (List.mem_of_getElem? (i := 12) rfl)) (fun _ h9 => h9) rfl hin rfl (by decide +kernel) rfl rfl (Nat.le_of_ble_eq_true rfl) dX2_init_47 (fun H locs hP hD hS => ?_)
  have hP : va_P D vwCl [(h, .inr (2, [.int (2 : Int32), .int (nb (1 : Int32)), .int 0, .int (1 : Int32), .int (1 : Int32), .ref q1, .ref q2, .null, .null, .null, .int 0, .null, .int 0, .int 0, .int 0])), (q1, sdC (sdI (10 : Int32))), (q2, sdC (sdI (14 : Int32)))] H := hP
  have hD : va_D A [(h, .inr (2, [.int (2 : Int32), .int (nb (1 : Int32)), .int 0, .int (1 : Int32), .int (1 : Int32), .ref q1, .ref q2, .null, .null, .null, .int 0, .null, .int 0, .int 0, .int 0])), (q1, sdC (sdI (10 : Int32))), (q2, sdC (sdI (14 : Int32)))] := hD
  refine lv_aload_n hx hb dX2_init_50 rfl (lv_at hl 0 rfl) ?_
  refine lv_bipush (v := (16 : Int32)) hx hb dX2_init_51 (by decide) ?_
  refine va_newa (atype := .int) (ty := .int) (a0 := (16, .inl (fun _ => 0))) hx hb (hts (.arrayClass .int) (List.mem_of_getElem? (i := 13) rfl)) rfl hK.1 hP hD hS hA (fun _ => rfl) (by decide) (N' := 16) (by decide) (Nat.le_of_ble_eq_true rfl) (Nat.le_of_ble_eq_true rfl) (Nat.le_of_ble_eq_true rfl) dX2_init_53 (fun q3 cA H hK9 hP hD hS => ?_)
  obtain rfl := (same_i hK hK9).symm
  have hP : va_P D vwCl [(h, .inr (2, [.int (2 : Int32), .int (nb (1 : Int32)), .int 0, .int (1 : Int32), .int (1 : Int32), .ref q1, .ref q2, .null, .null, .null, .int 0, .null, .int 0, .int 0, .int 0])), (q1, sdC (sdI (10 : Int32))), (q2, sdC (sdI (14 : Int32))), (q3, arC cI 16 (fun _ => 0))] H := hP
  have hD : va_D A [(h, .inr (2, [.int (2 : Int32), .int (nb (1 : Int32)), .int 0, .int (1 : Int32), .int (1 : Int32), .ref q1, .ref q2, .null, .null, .null, .int 0, .null, .int 0, .int 0, .int 0])), (q1, sdC (sdI (10 : Int32))), (q2, sdC (sdI (14 : Int32))), (q3, arC cI 16 (fun _ => 0))] := hD
  refine W.widen (k := 3) (n := 32) (Nat.le_of_ble_eq_true rfl) (Nat.le_of_ble_eq_true rfl) ?_
  refine va_putF (D := D) (ci := 2) (v := .ref q3) (ty := (.array .int)) (C := RX2) (T := TX2) (N := 15) hx hb hts inX2 tyX2 tyX2_ok nmX2 hown hK.1 hP hD hS 0 rfl rfl 7 (by decide) (hts (.fieldLink RX2 37 "GrayPointers$State" "words" "[I") (List.mem_of_getElem? (i := 14) rfl)) (fun _ h9 => h9) rfl hin rfl (by decide +kernel) rfl rfl (Nat.le_of_ble_eq_true rfl) dX2_init_55 (fun H locs hP hD hS => ?_)
  have hP : va_P D vwCl [(h, .inr (2, [.int (2 : Int32), .int (nb (1 : Int32)), .int 0, .int (1 : Int32), .int (1 : Int32), .ref q1, .ref q2, .ref q3, .null, .null, .int 0, .null, .int 0, .int 0, .int 0])), (q1, sdC (sdI (10 : Int32))), (q2, sdC (sdI (14 : Int32))), (q3, arC cI 16 (fun _ => 0))] H := hP
  have hD : va_D A [(h, .inr (2, [.int (2 : Int32), .int (nb (1 : Int32)), .int 0, .int (1 : Int32), .int (1 : Int32), .ref q1, .ref q2, .ref q3, .null, .null, .int 0, .null, .int 0, .int 0, .int 0])), (q1, sdC (sdI (10 : Int32))), (q2, sdC (sdI (14 : Int32))), (q3, arC cI 16 (fun _ => 0))] := hD
  refine lv_aload_n hx hb dX2_init_58 rfl (lv_at hl 0 rfl) ?_
  refine lv_bipush (v := (16 : Int32)) hx hb dX2_init_59 (by decide) ?_
  refine va_newa (atype := .int) (ty := .int) (a0 := (16, .inl (fun _ => 0))) hx hb (hts (.arrayClass .int) (List.mem_of_getElem? (i := 13) rfl)) rfl hK.1 hP hD hS hA (fun _ => rfl) (by decide) (N' := 16) (by decide) (Nat.le_of_ble_eq_true rfl) (Nat.le_of_ble_eq_true rfl) (Nat.le_of_ble_eq_true rfl) dX2_init_61 (fun q4 cA H hK9 hP hD hS => ?_)
  obtain rfl := (same_i hK hK9).symm
  have hP : va_P D vwCl [(h, .inr (2, [.int (2 : Int32), .int (nb (1 : Int32)), .int 0, .int (1 : Int32), .int (1 : Int32), .ref q1, .ref q2, .ref q3, .null, .null, .int 0, .null, .int 0, .int 0, .int 0])), (q1, sdC (sdI (10 : Int32))), (q2, sdC (sdI (14 : Int32))), (q3, arC cI 16 (fun _ => 0)), (q4, arC cI 16 (fun _ => 0))] H := hP
  have hD : va_D A [(h, .inr (2, [.int (2 : Int32), .int (nb (1 : Int32)), .int 0, .int (1 : Int32), .int (1 : Int32), .ref q1, .ref q2, .ref q3, .null, .null, .int 0, .null, .int 0, .int 0, .int 0])), (q1, sdC (sdI (10 : Int32))), (q2, sdC (sdI (14 : Int32))), (q3, arC cI 16 (fun _ => 0)), (q4, arC cI 16 (fun _ => 0))] := hD
  refine W.widen (k := 4) (n := 48) (Nat.le_of_ble_eq_true rfl) (Nat.le_of_ble_eq_true rfl) ?_
  refine va_putF (D := D) (ci := 2) (v := .ref q4) (ty := (.array .int)) (C := RX2) (T := TX2) (N := 15) hx hb hts inX2 tyX2 tyX2_ok nmX2 hown hK.1 hP hD hS 0 rfl rfl 8 (by decide) (hts (.fieldLink RX2 41 "GrayPointers$State" "numbers" "[I") (List.mem_of_getElem? (i := 15) rfl)) (fun _ h9 => h9) rfl hin rfl (by decide +kernel) rfl rfl (Nat.le_of_ble_eq_true rfl) dX2_init_63 (fun H locs hP hD hS => ?_)
  have hP : va_P D vwCl [(h, .inr (2, [.int (2 : Int32), .int (nb (1 : Int32)), .int 0, .int (1 : Int32), .int (1 : Int32), .ref q1, .ref q2, .ref q3, .ref q4, .null, .int 0, .null, .int 0, .int 0, .int 0])), (q1, sdC (sdI (10 : Int32))), (q2, sdC (sdI (14 : Int32))), (q3, arC cI 16 (fun _ => 0)), (q4, arC cI 16 (fun _ => 0))] H := hP
  have hD : va_D A [(h, .inr (2, [.int (2 : Int32), .int (nb (1 : Int32)), .int 0, .int (1 : Int32), .int (1 : Int32), .ref q1, .ref q2, .ref q3, .ref q4, .null, .int 0, .null, .int 0, .int 0, .int 0])), (q1, sdC (sdI (10 : Int32))), (q2, sdC (sdI (14 : Int32))), (q3, arC cI 16 (fun _ => 0)), (q4, arC cI 16 (fun _ => 0))] := hD
  refine lv_aload_n hx hb dX2_init_66 rfl (lv_at hl 0 rfl) ?_
  refine lv_bipush (v := (20 : Int32)) hx hb dX2_init_67 (by decide) ?_
  refine va_newa (atype := .int) (ty := .int) (a0 := (20, .inl (fun _ => 0))) hx hb (hts (.arrayClass .int) (List.mem_of_getElem? (i := 13) rfl)) rfl hK.1 hP hD hS hA (fun _ => rfl) (by decide) (N' := 20) (by decide) (Nat.le_of_ble_eq_true rfl) (Nat.le_of_ble_eq_true rfl) (Nat.le_of_ble_eq_true rfl) dX2_init_69 (fun q5 cA H hK9 hP hD hS => ?_)
  obtain rfl := (same_i hK hK9).symm
  have hP : va_P D vwCl [(h, .inr (2, [.int (2 : Int32), .int (nb (1 : Int32)), .int 0, .int (1 : Int32), .int (1 : Int32), .ref q1, .ref q2, .ref q3, .ref q4, .null, .int 0, .null, .int 0, .int 0, .int 0])), (q1, sdC (sdI (10 : Int32))), (q2, sdC (sdI (14 : Int32))), (q3, arC cI 16 (fun _ => 0)), (q4, arC cI 16 (fun _ => 0)), (q5, arC cI 20 (fun _ => 0))] H := hP
  have hD : va_D A [(h, .inr (2, [.int (2 : Int32), .int (nb (1 : Int32)), .int 0, .int (1 : Int32), .int (1 : Int32), .ref q1, .ref q2, .ref q3, .ref q4, .null, .int 0, .null, .int 0, .int 0, .int 0])), (q1, sdC (sdI (10 : Int32))), (q2, sdC (sdI (14 : Int32))), (q3, arC cI 16 (fun _ => 0)), (q4, arC cI 16 (fun _ => 0)), (q5, arC cI 20 (fun _ => 0))] := hD
  refine W.widen (k := 5) (n := 68) (Nat.le_of_ble_eq_true rfl) (Nat.le_of_ble_eq_true rfl) ?_
  refine va_putF (D := D) (ci := 2) (v := .ref q5) (ty := (.array .int)) (C := RX2) (T := TX2) (N := 15) hx hb hts inX2 tyX2 tyX2_ok nmX2 hown hK.1 hP hD hS 0 rfl rfl 9 (by decide) (hts (.fieldLink RX2 44 "GrayPointers$State" "waits" "[I") (List.mem_of_getElem? (i := 16) rfl)) (fun _ h9 => h9) rfl hin rfl (by decide +kernel) rfl rfl (Nat.le_of_ble_eq_true rfl) dX2_init_71 (fun H locs hP hD hS => ?_)
  have hP : va_P D vwCl [(h, .inr (2, [.int (2 : Int32), .int (nb (1 : Int32)), .int 0, .int (1 : Int32), .int (1 : Int32), .ref q1, .ref q2, .ref q3, .ref q4, .ref q5, .int 0, .null, .int 0, .int 0, .int 0])), (q1, sdC (sdI (10 : Int32))), (q2, sdC (sdI (14 : Int32))), (q3, arC cI 16 (fun _ => 0)), (q4, arC cI 16 (fun _ => 0)), (q5, arC cI 20 (fun _ => 0))] H := hP
  have hD : va_D A [(h, .inr (2, [.int (2 : Int32), .int (nb (1 : Int32)), .int 0, .int (1 : Int32), .int (1 : Int32), .ref q1, .ref q2, .ref q3, .ref q4, .ref q5, .int 0, .null, .int 0, .int 0, .int 0])), (q1, sdC (sdI (10 : Int32))), (q2, sdC (sdI (14 : Int32))), (q3, arC cI 16 (fun _ => 0)), (q4, arC cI 16 (fun _ => 0)), (q5, arC cI 20 (fun _ => 0))] := hD
  refine lv_aload_n hx hb dX2_init_74 rfl (lv_at hl 0 rfl) ?_
  refine lv_bipush (v := (16 : Int32)) hx hb dX2_init_75 (by decide) ?_
  refine va_newa (atype := .int) (ty := .int) (a0 := (16, .inl (fun _ => 0))) hx hb (hts (.arrayClass .int) (List.mem_of_getElem? (i := 13) rfl)) rfl hK.1 hP hD hS hA (fun _ => rfl) (by decide) (N' := 16) (by decide) (Nat.le_of_ble_eq_true rfl) (Nat.le_of_ble_eq_true rfl) (Nat.le_of_ble_eq_true rfl) dX2_init_77 (fun q6 cA H hK9 hP hD hS => ?_)
  obtain rfl := (same_i hK hK9).symm
  have hP : va_P D vwCl [(h, .inr (2, [.int (2 : Int32), .int (nb (1 : Int32)), .int 0, .int (1 : Int32), .int (1 : Int32), .ref q1, .ref q2, .ref q3, .ref q4, .ref q5, .int 0, .null, .int 0, .int 0, .int 0])), (q1, sdC (sdI (10 : Int32))), (q2, sdC (sdI (14 : Int32))), (q3, arC cI 16 (fun _ => 0)), (q4, arC cI 16 (fun _ => 0)), (q5, arC cI 20 (fun _ => 0)), (q6, arC cI 16 (fun _ => 0))] H := hP
  have hD : va_D A [(h, .inr (2, [.int (2 : Int32), .int (nb (1 : Int32)), .int 0, .int (1 : Int32), .int (1 : Int32), .ref q1, .ref q2, .ref q3, .ref q4, .ref q5, .int 0, .null, .int 0, .int 0, .int 0])), (q1, sdC (sdI (10 : Int32))), (q2, sdC (sdI (14 : Int32))), (q3, arC cI 16 (fun _ => 0)), (q4, arC cI 16 (fun _ => 0)), (q5, arC cI 20 (fun _ => 0)), (q6, arC cI 16 (fun _ => 0))] := hD
  refine W.widen (k := 6) (n := 84) (Nat.le_of_ble_eq_true rfl) (Nat.le_of_ble_eq_true rfl) ?_
  refine va_putF (D := D) (ci := 2) (v := .ref q6) (ty := (.array .int)) (C := RX2) (T := TX2) (N := 15) hx hb hts inX2 tyX2 tyX2_ok nmX2 hown hK.1 hP hD hS 0 rfl rfl 11 (by decide) (hts (.fieldLink RX2 47 "GrayPointers$State" "came" "[I") (List.mem_of_getElem? (i := 17) rfl)) (fun _ h9 => h9) rfl hin rfl (by decide +kernel) rfl rfl (Nat.le_of_ble_eq_true rfl) dX2_init_79 (fun H locs hP hD hS => ?_)
  have hP : va_P D vwCl [(h, .inr (2, [.int (2 : Int32), .int (nb (1 : Int32)), .int 0, .int (1 : Int32), .int (1 : Int32), .ref q1, .ref q2, .ref q3, .ref q4, .ref q5, .int 0, .ref q6, .int 0, .int 0, .int 0])), (q1, sdC (sdI (10 : Int32))), (q2, sdC (sdI (14 : Int32))), (q3, arC cI 16 (fun _ => 0)), (q4, arC cI 16 (fun _ => 0)), (q5, arC cI 20 (fun _ => 0)), (q6, arC cI 16 (fun _ => 0))] H := hP
  have hD : va_D A [(h, .inr (2, [.int (2 : Int32), .int (nb (1 : Int32)), .int 0, .int (1 : Int32), .int (1 : Int32), .ref q1, .ref q2, .ref q3, .ref q4, .ref q5, .int 0, .ref q6, .int 0, .int 0, .int 0])), (q1, sdC (sdI (10 : Int32))), (q2, sdC (sdI (14 : Int32))), (q3, arC cI 16 (fun _ => 0)), (q4, arC cI 16 (fun _ => 0)), (q5, arC cI 20 (fun _ => 0)), (q6, arC cI 16 (fun _ => 0))] := hD
  refine lv_aload_n hx hb dX2_init_82 rfl (lv_at hl 0 rfl) ?_
  refine va_get (D := D) (ci := 2) (v := .ref q4) (C := RX2) (T := TX2) (N := 15) hx hb hts inX2 hown hK.1 hP 0 rfl rfl 8 (by decide) (hts (.fieldLink RX2 41 "GrayPointers$State" "numbers" "[I") (List.mem_of_getElem? (i := 15) rfl)) (fun _ h9 => h9) rfl dX2_init_83 ?_
  refine lv_bipush (v := (-5 : Int32)) hx hb dX2_init_86 (by decide) ?_
  refine goV (n := 7) (ws' := [(h, .inr (2, [.int (2 : Int32), .int (nb (1 : Int32)), .int 0, .int (1 : Int32), .int (1 : Int32), .ref q1, .ref q2, .ref q3, .ref q4, .ref q5, .int 0, .ref q6, .int 0, .int 0, .int 0])), (q1, sdC (sdI (10 : Int32))), (q2, sdC (sdI (14 : Int32))), (q3, arC cI 16 (fun _ => 0)), (q4, arC cI 16 (p_X4_fillRow (fun _ => 0) (-5 : Int32) 16)), (q5, arC cI 20 (fun _ => 0)), (q6, arC cI 16 (fun _ => 0))]) (rs := [(h, .inr (2, [.int (2 : Int32), .int (nb (1 : Int32)), .int 0, .int (1 : Int32), .int (1 : Int32), .ref q1, .ref q2, .ref q3, .ref q4, .ref q5, .int 0, .ref q6, .int 0, .int 0, .int 0])), (q1, sdC (sdI (10 : Int32))), (q2, sdC (sdI (14 : Int32))), (q3, arC cI 16 (fun _ => 0)), (q5, arC cI 20 (fun _ => 0)), (q6, arC cI 16 (fun _ => 0))]) (va_runSN (As := [.ref q4, .int (-5 : Int32)]) (rest := []) ⟨hx, hb, hml, hown, hts⟩ (c_X4_fillRow l D cI cC cS q4 (fun _ => 0) (-5 : Int32) 16 (by decide) _) ⟨va_cnB 2 hts gX2_init_X4_fillRow_n50 rfl rfl rfl (hK.nw 29 rfl) (hts (.initialized RX4) (List.mem_of_getElem? (i := 25) rfl)) (by decide +kernel) ⟨Nat.le_of_ble_eq_true rfl, Nat.le_of_ble_eq_true rfl⟩, (hts (.static yX4_fillRow) (List.mem_of_getElem? (i := 24) rfl)), trivial⟩ (preS hK hP hD [4] (by decide) rfl) rfl rfl hl.1 rfl (lv_room (Nat.le_of_ble_eq_true rfl)) dX2_init_88 ⟨Nat.le_of_ble_eq_true rfl, Nat.le_of_ble_eq_true rfl⟩) hP hD hS hA [4] [0, 1, 2, 3, 5, 6] rfl rfl rfl rfl rfl (by decide +kernel) (fstE (as := [q4]) rfl rfl) (fun H locs hP hD hS => ?_)
  exact endN (stA h q1 q2 q3 q4 q5 q6) hb hx hsg rfl (by show va_P D vwCl (stW cI (stA h q1 q2 q3 q4 q5 q6) stI) H; rw [stI_w]; exact hP) (by show va_D A (stW cI (stA h q1 q2 q3 q4 q5 q6) stI); rw [stI_w]; exact hD) hS dX2_init_91 hlocks
abbrev rm_X3_init : Room := { frames := 1, cells := 3, slots := 120, locals := 12 }
set_option maxHeartbeats 4000000 in
set_option maxRecDepth 100000 in
theorem c_X3_init (l : Launch) (D : va_G) (cI cC cS : ClassId) (h : Nat)  : ∀ sz, Met l yX3_init wsX3_init rm_X3_init (va_Pc [.ref h] (CPre D cI cC cS [(h, .inr (3, [.null, .int 0, .null, .null, .int 0, .int 0]))] sz)) (va_Qv (fun u : Nat → Nat => u 0 = h) (fun u t => va_P D vwCl (txW cI cC u txI) t.heap ∧ va_D (va_A [(h, .inr (3, [.null, .int 0, .null, .null, .int 0, .int 0]))] sz) (txW cI cC u txI)) (va_A [(h, .inr (3, [.null, .int 0, .null, .null, .int 0, .int 0]))] sz)) 3 120 (va_A [(h, .inr (3, [.null, .int 0, .null, .null, .int 0, .int 0]))] sz) := by
  intro sz
  refine startN (Qf := fun A => va_Qv (fun u : Nat → Nat => u 0 = h) (fun u t => va_P D vwCl (txW cI cC u txI) t.heap ∧ va_D A (txW cI cC u txI)) A) (cc := cX3_init) (maxL := 1) (ret := none) (by decide) rfl (Nat.le_of_ble_eq_true rfl) ?_
  intro p e s m args below meth c hx hb hml hsg hts hown hlocks hin hK A hA hS hP hD ls hl
  have hown : s.vm.findClass RX3 = some m.cls := hown
  have hl : lv_has ls 1 [(0, .ref h)] := hl
  have hP : va_P D vwCl [(h, .inr (3, [.null, .int 0, .null, .null, .int 0, .int 0]))] s.heap := hP
  have hD : va_D A [(h, .inr (3, [.null, .int 0, .null, .null, .int 0, .int 0]))] := hD
  have inX3 : ∀ w ∈ wsX30, w ∈ wsX3_init := fun _ h => List.mem_cons_of_mem _ (List.mem_append_right _ h)
  refine lv_aload_n hx hb dX3_init_0 rfl (lv_at hl 0 rfl) ?_
  refine W.objInit hx hb hown (hts (.methodLink RX3 3 objectInit) (List.mem_of_getElem? (i := 1) rfl)) (hts (.instanceMethod objectInit) (List.mem_of_getElem? (i := 2) rfl)) (hts (.code objectInit ⟨#[0xb1]⟩ 1 none) (List.mem_of_getElem? (i := 3) rfl)) rfl (by rw [hml]; exact hl.1) rfl dX3_init_1 (Nat.le_of_ble_eq_true rfl) (Nat.le_of_ble_eq_true rfl) ?_
  refine W.eq (g2 := F0 m 4 ls []) rfl ?_
  refine lv_aload_n hx hb dX3_init_4 rfl (lv_at hl 0 rfl) ?_
  refine lv_bipush (v := (60 : Int32)) hx hb dX3_init_5 (by decide) ?_
  refine va_newa (atype := .char) (ty := .char) (a0 := (60, .inl (fun _ => 0))) hx hb (hts (.arrayClass .char) (List.mem_of_getElem? (i := 4) rfl)) rfl hK.1 hP hD hS hA (fun _ => rfl) (by decide) (N' := 60) (by decide) (Nat.le_of_ble_eq_true rfl) (Nat.le_of_ble_eq_true rfl) (Nat.le_of_ble_eq_true rfl) dX3_init_7 (fun q1 cA H hK9 hP hD hS => ?_)
  obtain rfl := (same_c hK hK9).symm
  have hP : va_P D vwCl [(h, .inr (3, [.null, .int 0, .null, .null, .int 0, .int 0])), (q1, arC cC 60 (fun _ => 0))] H := hP
  have hD : va_D A [(h, .inr (3, [.null, .int 0, .null, .null, .int 0, .int 0])), (q1, arC cC 60 (fun _ => 0))] := hD
  refine W.widen (k := 1) (n := 60) (Nat.le_of_ble_eq_true rfl) (Nat.le_of_ble_eq_true rfl) ?_
  refine va_putF (D := D) (ci := 3) (v := .ref q1) (ty := (.array .char)) (C := RX3) (T := TX3) (N := 6) hx hb hts inX3 tyX3 tyX3_ok nmX3 hown hK.1 hP hD hS 0 rfl rfl 0 (by decide) (hts (.fieldLink RX3 9 "GrayPointers$Text" "signs" "[C") (List.mem_of_getElem? (i := 5) rfl)) (fun _ h9 => h9) rfl hin rfl (by decide +kernel) rfl rfl (Nat.le_of_ble_eq_true rfl) dX3_init_9 (fun H locs hP hD hS => ?_)
  have hP : va_P D vwCl [(h, .inr (3, [.ref q1, .int 0, .null, .null, .int 0, .int 0])), (q1, arC cC 60 (fun _ => 0))] H := hP
  have hD : va_D A [(h, .inr (3, [.ref q1, .int 0, .null, .null, .int 0, .int 0])), (q1, arC cC 60 (fun _ => 0))] := hD
  refine lv_aload_n hx hb dX3_init_12 rfl (lv_at hl 0 rfl) ?_
  refine lv_bipush (v := (30 : Int32)) hx hb dX3_init_13 (by decide) ?_
  refine va_newa (atype := .int) (ty := .int) (a0 := (30, .inl (fun _ => 0))) hx hb (hts (.arrayClass .int) (List.mem_of_getElem? (i := 6) rfl)) rfl hK.1 hP hD hS hA (fun _ => rfl) (by decide) (N' := 30) (by decide) (Nat.le_of_ble_eq_true rfl) (Nat.le_of_ble_eq_true rfl) (Nat.le_of_ble_eq_true rfl) dX3_init_15 (fun q2 cA H hK9 hP hD hS => ?_)
  obtain rfl := (same_i hK hK9).symm
  have hP : va_P D vwCl [(h, .inr (3, [.ref q1, .int 0, .null, .null, .int 0, .int 0])), (q1, arC cC 60 (fun _ => 0)), (q2, arC cI 30 (fun _ => 0))] H := hP
  have hD : va_D A [(h, .inr (3, [.ref q1, .int 0, .null, .null, .int 0, .int 0])), (q1, arC cC 60 (fun _ => 0)), (q2, arC cI 30 (fun _ => 0))] := hD
  refine W.widen (k := 2) (n := 90) (Nat.le_of_ble_eq_true rfl) (Nat.le_of_ble_eq_true rfl) ?_
  refine va_putF (D := D) (ci := 3) (v := .ref q2) (ty := (.array .int)) (C := RX3) (T := TX3) (N := 6) hx hb hts inX3 tyX3 tyX3_ok nmX3 hown hK.1 hP hD hS 0 rfl rfl 2 (by decide) (hts (.fieldLink RX3 15 "GrayPointers$Text" "partWords" "[I") (List.mem_of_getElem? (i := 7) rfl)) (fun _ h9 => h9) rfl hin rfl (by decide +kernel) rfl rfl (Nat.le_of_ble_eq_true rfl) dX3_init_17 (fun H locs hP hD hS => ?_)
  have hP : va_P D vwCl [(h, .inr (3, [.ref q1, .int 0, .ref q2, .null, .int 0, .int 0])), (q1, arC cC 60 (fun _ => 0)), (q2, arC cI 30 (fun _ => 0))] H := hP
  have hD : va_D A [(h, .inr (3, [.ref q1, .int 0, .ref q2, .null, .int 0, .int 0])), (q1, arC cC 60 (fun _ => 0)), (q2, arC cI 30 (fun _ => 0))] := hD
  refine lv_aload_n hx hb dX3_init_20 rfl (lv_at hl 0 rfl) ?_
  refine lv_bipush (v := (30 : Int32)) hx hb dX3_init_21 (by decide) ?_
  refine va_newa (atype := .int) (ty := .int) (a0 := (30, .inl (fun _ => 0))) hx hb (hts (.arrayClass .int) (List.mem_of_getElem? (i := 6) rfl)) rfl hK.1 hP hD hS hA (fun _ => rfl) (by decide) (N' := 30) (by decide) (Nat.le_of_ble_eq_true rfl) (Nat.le_of_ble_eq_true rfl) (Nat.le_of_ble_eq_true rfl) dX3_init_23 (fun q3 cA H hK9 hP hD hS => ?_)
  obtain rfl := (same_i hK hK9).symm
  have hP : va_P D vwCl [(h, .inr (3, [.ref q1, .int 0, .ref q2, .null, .int 0, .int 0])), (q1, arC cC 60 (fun _ => 0)), (q2, arC cI 30 (fun _ => 0)), (q3, arC cI 30 (fun _ => 0))] H := hP
  have hD : va_D A [(h, .inr (3, [.ref q1, .int 0, .ref q2, .null, .int 0, .int 0])), (q1, arC cC 60 (fun _ => 0)), (q2, arC cI 30 (fun _ => 0)), (q3, arC cI 30 (fun _ => 0))] := hD
  refine W.widen (k := 3) (n := 120) (Nat.le_of_ble_eq_true rfl) (Nat.le_of_ble_eq_true rfl) ?_
  refine va_putF (D := D) (ci := 3) (v := .ref q3) (ty := (.array .int)) (C := RX3) (T := TX3) (N := 6) hx hb hts inX3 tyX3 tyX3_ok nmX3 hown hK.1 hP hD hS 0 rfl rfl 3 (by decide) (hts (.fieldLink RX3 19 "GrayPointers$Text" "partTimes" "[I") (List.mem_of_getElem? (i := 8) rfl)) (fun _ h9 => h9) rfl hin rfl (by decide +kernel) rfl rfl (Nat.le_of_ble_eq_true rfl) dX3_init_25 (fun H locs hP hD hS => ?_)
  have hP : va_P D vwCl [(h, .inr (3, [.ref q1, .int 0, .ref q2, .ref q3, .int 0, .int 0])), (q1, arC cC 60 (fun _ => 0)), (q2, arC cI 30 (fun _ => 0)), (q3, arC cI 30 (fun _ => 0))] H := hP
  have hD : va_D A [(h, .inr (3, [.ref q1, .int 0, .ref q2, .ref q3, .int 0, .int 0])), (q1, arC cC 60 (fun _ => 0)), (q2, arC cI 30 (fun _ => 0)), (q3, arC cI 30 (fun _ => 0))] := hD
  exact endN (txA h q1 q2 q3) hb hx hsg rfl hP hD hS dX3_init_28 hlocks
