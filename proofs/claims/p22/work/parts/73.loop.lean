/-! THE CLAIM OUT OF ONE WALK OF THE LAW'S BODY. Your part is whole_start (and what it stands on); all else here is the same for every law, but numbers. -/
def R_law : String := "GrayPointersLaw"
def lw_P (b : Addr) (xs : List Int32) (args : Array Value) (s : State) : Prop := args = #[.ref b] ∧ s.IntsAt b xs ∧ xs.length ≤ 260 ∧ (Jvm.Cond.and given_1 narrow_1).before args s = true
def lw_Q (_ : Array Value) (s : State) (o : Outcome) (t : State) : Prop := o = .returned (some (.int 1)) ∧ Framed s o t [] 600000 7302250
def lw_Z (below : List Frame) (a : Array Value) (s : State) : State → Prop := fun t => ∃ o, t.status = .running ∧ Ended t below o ∧ lw_Q a s o t
/-- the law's own end, with 1 on the stack, nothing written that was there before, its room as the claim has it -/
theorem lw_ret {p : Program} {l : Launch} {e : Env} {s : State} {m : MethodId} {below : List Frame} {meth : Method} {c : Code} {b : Nat} (hx : p.tables.exec = Jvm.exec) (hb : c.code = code) (hr : meth.sig.returnType = ret) (hlocks : meth.locks = false) {pc : Nat} {H : Heap} {ls : Array Slot} (hdg : decode code pc = .ok (.ireturn, 1)) : W p l e room_1 s m #[Value.ref b] below meth c H [] 600000 7302250 (lw_Z below #[Value.ref b] s) (F0 m pc ls [.int 1]) := by
  intro T hT X
  obtain ⟨fs, hret, hrun, hended, hW, hframe⟩ := X.leave (v := some (.int 1)) (hlocks := hlocks) (fun h => by rw [hr] at h; cases h)
  have hmeth' : T.vm.method? m = some meth := X.method'
  refine ⟨T.setFrames fs, ?_, .returned (some (.int 1)), hrun, hended, rfl, ⟨_, rfl⟩, hW, hframe⟩
  jvm_step X.here [X.here.top, hx, hb, hdg, hmeth', hr, ret, narrow_b1]
  (try refine ⟨rfl, ?_⟩); (try refine ⟨rfl, ?_⟩)
  first | (intro acts; rw [hret _ acts rfl rfl rfl]) | rw [hret _ _ rfl rfl rfl]
  exact Steps.refl _
/-- what holds at the law's entry: the machine, the code, the tables' words (any of lw_tbl by 'hts w (by decide +kernel)'), the script of L ints xs at the cell b, what the Statement gives of the start (any of its parts by flat_of_before) -/
def lw_At (p : Program) (s : State) (m : MethodId) (meth : Method) (c : Code) (b L : Nat) (xs : Nat → Int32) : Prop :=
  p.tables.exec = Jvm.exec ∧ c.code = code ∧ meth.sig.returnType = ret ∧ c.maxLocals = 5 ∧ s.vm.findClass R_law = some m.cls ∧ (∀ w ∈ lw_tbl, w.before #[Value.ref b] s = true) ∧ va_X b L xs s s.heap ∧ b < s.heap.size ∧ meth.locks = false ∧ (Jvm.Cond.and given_1 narrow_1).before #[Value.ref b] s = true
/-! a word of the script, and the law's own loop -/
def cellv (xs : Nat → Int32) (L : Nat) (i : Int32) : Int32 := if Int32.ofNat L ≤ i then (2143540663 : Int32) * (i + (1259 : Int32)) else xs i.toNatClampNeg
abbrev rm_L_cell : Room := { frames := 0, cells := 0, slots := 0, locals := 0 }
set_option maxHeartbeats 4000000 in
theorem c_L_cell (l : Launch) (b L : Nat) (xs : Nat → Int32) (k : Nat) (hk : k < 1000) (hL : L ≤ 260) : ∀ sz, Met l yL_cell wsL_cell rm_L_cell (va_Pc [.ref b, .int (nI k)] (fun U => U.heap.size = sz ∧ va_X b L xs U U.heap ∧ b < sz)) (va_Qi (fun (r : Int32) (_ : Unit) => r = cellv xs L (nI k)) (fun _ t => True) (va_A [] sz)) 0 0 (va_A [] sz) := by
  intro sz
  refine Met.ofW (cc := cL_cell) (maxL := 2) (ret := (some .int)) (by decide) rfl ?_
  intro p e s m args below meth c s₁ B hml hv
  obtain ⟨rfl, hsz, hX, hbl⟩ := hv
  have hts := atoms_spec (ws := wsL_cell) B.pre
  subst hsz
  have hl := lv_entry [.ref b, .int (nI k)] (n := 2) (Nat.le_of_ble_eq_true rfl)
  rw [lg_entry_eq]
  generalize (lg_sl ([.ref b, .int (nI k)]) ++ List.replicate (2 - (lg_sl ([.ref b, .int (nI k)])).length) Slot.unset).toArray = ls at hl ⊢
  have hl : lv_has ls 2 [(0, .ref b), (1, .int (nI k))] := hl
  have hx : p.tables.exec = Jvm.exec := B.exec
  have hb : c.code = cL_cell := B.bytes
  have hown : s.vm.findClass RL = some m.cls := findClass_of_methodNamed B.named
  have hsg := B.returns
  have hlocks := B.notSynchronized
  have hS : va_S (va_A [] s.heap.size) s.heap s.heap [] := va_S.rf
  have hbA : ¬ va_A [] s.heap.size b := fun z => by
    rcases z with ⟨j, e, z⟩ | z
    · cases z
    · exact absurd hbl (Nat.not_lt.mpr z)
  refine lv_iload_n hx hb dL_cell_0 rfl (lv_at hl 1 rfl) ?_
  refine lv_aload_n hx hb dL_cell_1 rfl (lv_at hl 0 rfl) ?_
  refine va_slen hx hb hX hbl hbA hS dL_cell_2 ?_
  refine lv_icmp_ge (tgt := 12) hx hb dL_cell_3 (by decide) (fun c3 => ?_) (fun c3 => ?_)
  · refine lv_ldc (v := (2143540663 : Int32)) hx hb hown (hts (.constant RL 7 2143540663) (List.mem_of_getElem? (i := 1) rfl)) dL_cell_12 ?_
    refine lv_iload_n hx hb dL_cell_14 rfl (lv_at hl 1 rfl) ?_
    refine lv_sipush (v := (1259 : Int32)) hx hb dL_cell_15 (by decide) ?_
    refine lv_iadd hx hb dL_cell_18 ?_
    refine lv_imul hx hb dL_cell_19 ?_
    exact W.iret (v := (2143540663 : Int32) * (nI k + (1259 : Int32))) hx hb hsg (fun t ht hW => ⟨⟨_, (), rfl, (by unfold cellv; rw [if_pos c3]), trivial⟩, hS.F ht⟩) hS.2.2 dL_cell_20 hlocks
  · have hin : vp_in (nI k) L := by
      refine vp_in_nI ?_ (by omega)
      rcases Nat.lt_or_ge k L with q | q
      · exact q
      · exact absurd (nI_le (a := L) q (by omega)) c3
    refine lv_aload_n hx hb dL_cell_6 rfl (lv_at hl 0 rfl) ?_
    refine lv_iload_n hx hb dL_cell_7 rfl (lv_at hl 1 rfl) ?_
    refine va_sld hx hb hX hbl hbA hS hin dL_cell_8 ?_
    refine lv_goto (tgt := 20) hx hb dL_cell_9 (by decide) ?_
    exact W.iret (v := xs (nI k).toNatClampNeg) hx hb hsg (fun t ht hW => ⟨⟨_, (), rfl, (by unfold cellv; rw [if_neg c3]), trivial⟩, hS.F ht⟩) hS.2.2 dL_cell_20 hlocks
section LOOP
variable {p : Program} {l : Launch} {e : Env} {s : State} {m : MethodId} {below : List Frame} {meth : Method} {c : Code} {b L : Nat} {xs : Nat → Int32} {D : va_G} {cI cC cS : ClassId} {B B2 : Nat → Nat → Nat → Nat} {Qz : State → Prop} {i : Nat} {G P : Nat → Nat → CS} {H : Heap} {locs : List Loc} {ls : Array Slot}
abbrev LA (s : State) : Nat → Prop := fun q : Nat => s.heap.size ≤ q
def LC (p : Program) (s : State) (m : MethodId) (c : Code) (b L : Nat) (xs : Nat → Int32) (D : va_G) (cI cC cS : ClassId) : Prop :=
  p.tables.exec = Jvm.exec ∧ c.code = cL_law ∧ c.maxLocals = 5 ∧ s.vm.findClass RL = some m.cls ∧ (∀ w ∈ wsL_law, w.before #[Value.ref b] s = true) ∧ va_X b L xs s s.heap ∧ b < s.heap.size ∧ KK D cI cC cS s
theorem preX (hX : va_X b L xs s s.heap) (hbl : b < s.heap.size) (hS : va_S (LA s) s.heap H locs) {As : List Value} : PreS s H (va_Pc As (fun U => U.heap.size = H.size ∧ va_X b L xs U U.heap ∧ b < H.size)) As :=
  ⟨fun a U g mk q => ⟨q.1, q.2.1, va_X.moved (u := U) (U := U.calling g mk a) (Vm.Alike.refl U.vm) q.2.2.1, q.2.2.2⟩, fun U hU hW => ⟨rfl, by rw [hU], by rw [hU]; exact (hX.kept (hS.2.1 b hbl (Nat.not_le.mpr hbl))).moved hW.alike, Nat.lt_of_lt_of_le hbl hS.1⟩⟩
section GO
variable {R : Room} {args a : Array Value} {cells slots pc : Nat} {st0 rest : List Value} {A : Nat → Prop} {H0 : Heap} {r : Int32} {ws : va_W}
theorem goX (hr : va_Run p l e R s m args below meth c H locs cells slots 0 0 (F0 m pc ls st0) rest (va_Qi (fun (r' : Int32) (_ : Unit) => r' = r) (fun _ t => True) (va_A [] H.size) a) (va_A [] H.size)) (hP : va_P D vwCl ws H) (hD : va_D A ws) (hS : va_S A H0 H locs) (hA : ∀ q, H0.size ≤ q → A q)
    (kk : ∀ (H1 : Heap) (locs1 : List Loc), va_P D vwCl ws H1 → va_D A ws → va_S A H0 H1 locs1 → W p l e R s m args below meth c H1 locs1 cells slots Qz (F0 m (pc + 3) ls (.int r :: rest))) : W p l e R s m args below meth c H locs cells slots Qz (F0 m pc ls st0) := by
  have hF := free_of (w := []) hD hS hA [] rfl
  refine va_calli hr hS (fun q _ h => hF q h) hF (fun r' u t H1 locs1 ht hvm hw hB hz1 hk1 hS1 => ?_)
  subst hw
  refine kk H1 locs1 (fun k x hx => (hP k x hx).kept (hk1 x.1 (hP k x hx).lt fun z => ?_)) hD hS1
  rcases z with ⟨j, e, z⟩ | z
  · cases z
  · exact absurd (hP k x hx).lt (Nat.not_lt.mpr z)
end GO
theorem c01 (x : Int32) : (if x = 1 then (1 : Int32) else 0) = 0 ∨ (if x = 1 then (1 : Int32) else 0) = 1 := by
  split
  · exact Or.inr rfl
  · exact Or.inl rfl
/-- what isWell asks, and its answer -/
theorem well_RR {t : Nat} (h : RR G P t) {g : Int32} (hg : ¬ g = 0 → r_X4_count G 3 = 1) (h01 : g = 0 ∨ g = 1) : (¬ ((2 : Int32) * (r_X4_count G (2 : Int32))) = (0 : Int32)) ∧ (¬ (r_X4_count G (2 : Int32)) = (0 : Int32)) ∧ r_L_isWell G g = 1 ∧ RR (p_L_isWell G g) P t := by
  obtain ⟨k, wc, Q, T, hJ⟩ := id h.1
  obtain ⟨-, -, v2, -⟩ := J_vals hJ
  have h32 := p2k hJ.1.1
  have h16 := pkk hJ.1.1
  refine ⟨?_, ?_, ?_, ?_⟩
  · rw [v2, two_d]; exact nI_ne0 pw_0 (by omega)
  · rw [v2]; exact nI_ne0 pw_0 (by omega)
  · refine well_law hJ (fun z => ?_)
    have e := hg (fun y => z ((nb_z h01).mpr y))
    rw [cnt_3] at e
    exact (an_1 _).mp e
  · rw [well_p]; exact RR_done h
set_option maxHeartbeats 4000000 in
set_option maxRecDepth 100000 in
/-- behind the loop -/
theorem law_end (C0 : LC p s m c b L xs D cI cC cS) (hr : meth.sig.returnType = ret) (hlocks : meth.locks = false) {t : Nat} (h : RR G P t) (ht : t ≤ 800000) (hP : va_P D vwCl (gpW cI cC cS B G ++ gpW cI cC cS B2 P) H) (hD : va_D (LA s) (gpW cI cC cS B G ++ gpW cI cC cS B2 P)) (hS : va_S (LA s) s.heap H locs) (hl : lv_has ls 5 [(0, .ref b), (1, .ref (B 0 3 0)), (2, .ref (B2 0 3 0)), (3, .int 1), (4, .int (nI i))]) : W p l e room_1 s m #[Value.ref b] below meth c H locs 600000 7302250 (lw_Z below #[Value.ref b] s) (F0 m 96 ls []) := by
  obtain ⟨hx, hb, hml, hown, hts, hX, hbl, hK⟩ := id C0
  have hA : ∀ q : Nat, s.heap.size ≤ q → LA s q := fun _ h => h
  refine lv_iload_n hx hb dL_law_96 rfl (lv_at hl 3 rfl) ?_
  refine lv_if_eq (tgt := 133) hx hb dL_law_97 (by decide) (fun h9 => absurd h9 (by decide)) (fun _ => ?_)
  refine lv_aload_n hx hb dL_law_100 rfl (lv_at hl 1 rfl) ?_
  refine lv_aload_n hx hb dL_law_101 rfl (lv_at hl 1 rfl) ?_
  refine lv_iconst (v := (3 : Int32)) hx hb dL_law_102 (by decide) ?_
  refine goG (va_runV (As := [.int (3 : Int32)]) (rest := [.ref (B 0 3 0)]) ⟨hx, hb, hml, hown, hts⟩ (c_X4_count l D cI cC cS B G (3 : Int32)  _) (cwV 1 hts gL_law_X4_count rfl rfl rfl (by decide +kernel) ⟨Nat.le_of_ble_eq_true rfl, Nat.le_of_ble_eq_true rfl⟩) (preG hK hP hD) rfl rfl hl.1 rfl (lv_room (Nat.le_of_ble_eq_true rfl)) dL_law_103 ⟨Nat.le_of_ble_eq_true rfl, Nat.le_of_ble_eq_true rfl⟩) hP hD hS hA (fun H locs hP hD hS => ?_)
  refine lv_iconst (v := (1 : Int32)) hx hb dL_law_106 (by decide) ?_
  have K115 : ∀ (g : Int32), (¬ g = 0 → r_X4_count G 3 = 1) → (g = 0 ∨ g = 1) → W p l e room_1 s m #[Value.ref b] below meth c H locs 600000 7302250 (lw_Z below #[Value.ref b] s) (F0 m 115 ls [.int g, .ref (B 0 3 0)]) := by
    intro g hg h01
    obtain ⟨w1, w2, w3, w4⟩ := well_RR h hg h01
    refine W.eq (g2 := F0 m 115 ls [.int (nb g), .ref (B 0 3 0)]) (by rw [nb_of h01]) ?_
    refine goG (va_runS (As := [.ref (B 0 3 0), .int (nb g)]) (rest := []) ⟨hx, hb, hml, hown, hts⟩ (c_L_isWell l D cI cC cS B G g w1 w2 _) (va_cwS 2 hts gL_law_L_isWell rfl rfl rfl (by decide +kernel) ⟨Nat.le_of_ble_eq_true rfl, Nat.le_of_ble_eq_true rfl⟩) (spreG hK hP hD) rfl rfl hl.1 rfl (lv_room (Nat.le_of_ble_eq_true rfl)) dL_law_115 ⟨Nat.le_of_ble_eq_true rfl, Nat.le_of_ble_eq_true rfl⟩) hP hD hS hA (fun H locs hP hD hS => ?_)
    generalize p_L_isWell G g = G1 at w4 hP hD
    refine W.eq (g2 := F0 m 118 ls [.int 1]) (by rw [w3]) ?_
    refine lv_if_eq (tgt := 133) hx hb dL_law_118 (by decide) (fun h9 => absurd h9 (by decide)) (fun _ => ?_)
    refine lv_aload_n hx hb dL_law_121 rfl (lv_at hl 1 rfl) ?_
    refine lv_aload_n hx hb dL_law_122 rfl (lv_at hl 2 rfl) ?_
    have e1 := alike_law w4.1 (by omega)
    refine goGP (va_runS (As := [.ref (B 0 3 0), .ref (B2 0 3 0)]) (rest := []) ⟨hx, hb, hml, hown, hts⟩ (c_L_areAlike l D cI cC cS B B2 G1 P  _) (va_cwS 2 hts gL_law_L_areAlike rfl rfl rfl (by decide +kernel) ⟨Nat.le_of_ble_eq_true rfl, Nat.le_of_ble_eq_true rfl⟩) (spreGP hK hP hD) rfl rfl hl.1 rfl (lv_room (Nat.le_of_ble_eq_true rfl)) dL_law_123 ⟨Nat.le_of_ble_eq_true rfl, Nat.le_of_ble_eq_true rfl⟩) hP hD hS hA (fun H locs hP hD hS => ?_)
    refine W.eq (g2 := F0 m 126 ls [.int 1]) (by rw [e1]) ?_
    refine lv_if_eq (tgt := 133) hx hb dL_law_126 (by decide) (fun h9 => absurd h9 (by decide)) (fun _ => ?_)
    refine lv_iconst (v := (1 : Int32)) hx hb dL_law_129 (by decide) ?_
    refine lv_goto (tgt := 134) hx hb dL_law_130 (by decide) ?_
    refine va_forget (fun q hq => hS.2.2 q hq) ?_
    exact lw_ret hx hb hr hlocks dL_law_134
  refine lv_icmp_ne (tgt := 114) hx hb dL_law_107 (by decide) (fun c3 => ?_) (fun c3 => ?_)
  · refine lv_iconst (v := (0 : Int32)) hx hb dL_law_114 (by decide) ?_
    exact K115 0 (fun z => absurd rfl z) (Or.inl rfl)
  · refine lv_iconst (v := (1 : Int32)) hx hb dL_law_110 (by decide) ?_
    refine lv_goto (tgt := 115) hx hb dL_law_111 (by decide) ?_
    exact K115 1 (fun _ => by first | exact c3 | exact Decidable.not_not.mp c3) (Or.inr rfl)
set_option maxHeartbeats 4000000 in
set_option maxRecDepth 100000 in
/-- the law's loop -/
theorem law_loop (hL : L ≤ 260) (C0 : LC p s m c b L xs D cI cC cS) (hr : meth.sig.returnType = ret) (hlocks : meth.locks = false) :
    ∀ (n i : Nat) (G P : Nat → Nat → CS) (t : Nat), i + n = 48 → t ≤ 500 * i → RR G P t → ∀ (H : Heap) (locs : List Loc), va_P D vwCl (gpW cI cC cS B G ++ gpW cI cC cS B2 P) H → va_D (LA s) (gpW cI cC cS B G ++ gpW cI cC cS B2 P) → va_S (LA s) s.heap H locs → ∀ (ls : Array Slot), lv_has ls 5 [(0, .ref b), (1, .ref (B 0 3 0)), (2, .ref (B2 0 3 0)), (3, .int 1), (4, .int (nI i))] → W p l e room_1 s m #[Value.ref b] below meth c H locs 600000 7302250 (lw_Z below #[Value.ref b] s) (F0 m 21 ls []) := by
  obtain ⟨hx, hb, hml, hown, hts, hX, hbl, hK⟩ := id C0
  have hA : ∀ q : Nat, s.heap.size ≤ q → LA s q := fun _ h => h
  intro n
  induction n with
  | zero =>
    intro i G P t hi ht h H locs hP hD hS ls hl
    obtain rfl : i = 48 := by omega
    refine lv_iload hx hb dL_law_21 (lv_at hl 4 rfl) ?_
    refine lv_bipush (v := (48 : Int32)) hx hb dL_law_23 (by decide) ?_
    refine lv_icmp_ge (tgt := 96) hx hb dL_law_25 (by decide) (fun _ => ?_) (fun q => absurd (show (48 : Int32) ≤ nI 48 by decide) q)
    exact law_end C0 hr hlocks h (by omega) hP hD hS hl
  | succ n ih =>
    intro i G P t hi ht h H locs hP hD hS ls hl
    refine lv_iload hx hb dL_law_21 (lv_at hl 4 rfl) ?_
    refine lv_bipush (v := (48 : Int32)) hx hb dL_law_23 (by decide) ?_
    refine lv_icmp_ge (tgt := 96) hx hb dL_law_25 (by decide) (fun q => absurd q (show ¬ (48 : Int32) ≤ nI i from nI_ge (b := 48) (by omega) (by decide))) (fun _ => ?_)
    refine lv_iload_n hx hb dL_law_28 rfl (lv_at hl 3 rfl) ?_
    refine lv_if_eq (tgt := 96) hx hb dL_law_29 (by decide) (fun h9 => absurd h9 (by decide)) (fun _ => ?_)
    have K84 : ∀ (G P : Nat → Nat → CS) (u : Nat), u ≤ 500 * (i + 1) → RR G P u → ∀ (H : Heap) (locs : List Loc), va_P D vwCl (gpW cI cC cS B G ++ gpW cI cC cS B2 P) H → va_D (LA s) (gpW cI cC cS B G ++ gpW cI cC cS B2 P) → va_S (LA s) s.heap H locs → W p l e room_1 s m #[Value.ref b] below meth c H locs 600000 7302250 (lw_Z below #[Value.ref b] s) (F0 m 84 ls []) := by
      intro G P u hu h H locs hP hD hS
      refine lv_iconst (v := (1 : Int32)) hx hb dL_law_84 (by decide) ?_
      refine lv_goto (tgt := 89) hx hb dL_law_85 (by decide) ?_
      refine lv_istore_n (lv' := [(3, .int 1), (0, .ref b), (1, .ref (B 0 3 0)), (2, .ref (B2 0 3 0)), (4, .int (nI i))]) hx hb dL_law_89 rfl hl (by decide) rfl (fun ls hl => ?_)
      refine lv_iinc (v := nI i + (1 : Int32)) (lv' := [(4, .int (nI i + (1 : Int32))), (3, .int 1), (0, .ref b), (1, .ref (B 0 3 0)), (2, .ref (B2 0 3 0))]) hx hb dL_law_90 hl (k := 4) rfl rfl (by decide) rfl (fun ls hl => ?_)
      refine lv_goto (tgt := 21) hx hb dL_law_93 (by decide) ?_
      rw [nI_1] at hl
      exact ih (i + 1) G P u (by omega) hu h _ _ hP hD hS ls (lv_sub hl [2, 3, 4, 1, 0] rfl)
    refine lv_aload_n hx hb dL_law_32 rfl (lv_at hl 1 rfl) ?_
    refine lv_aload_n hx hb dL_law_33 rfl (lv_at hl 2 rfl) ?_
    refine lv_aload_n hx hb dL_law_34 rfl (lv_at hl 0 rfl) ?_
    refine lv_iload hx hb dL_law_35 (lv_at hl 4 rfl) ?_
    refine goX (va_runS (As := [.ref b, .int (nI i)]) (rest := [.ref (B2 0 3 0), .ref (B 0 3 0)]) ⟨hx, hb, hml, hown, hts⟩ (c_L_cell l b L xs i (by omega) hL _) (va_cwS 2 hts gL_law_L_cell rfl rfl rfl (by decide +kernel) ⟨Nat.le_of_ble_eq_true rfl, Nat.le_of_ble_eq_true rfl⟩) (preX hX hbl hS) rfl rfl hl.1 rfl (lv_room (Nat.le_of_ble_eq_true rfl)) dL_law_37 ⟨Nat.le_of_ble_eq_true rfl, Nat.le_of_ble_eq_true rfl⟩) hP hD hS hA (fun H locs hP hD hS => ?_)
    refine lv_aload_n hx hb dL_law_40 rfl (lv_at hl 0 rfl) ?_
    refine lv_iload hx hb dL_law_41 (lv_at hl 4 rfl) ?_
    refine lv_iconst (v := (1 : Int32)) hx hb dL_law_43 (by decide) ?_
    refine lv_iadd hx hb dL_law_44 ?_
    refine W.eq (g2 := F0 m 45 ls [.int (nI (i + 1)), .ref b, .int (cellv xs L (nI i)), .ref (B2 0 3 0), .ref (B 0 3 0)]) (by rw [nI_1]) ?_
    refine goX (va_runS (As := [.ref b, .int (nI (i + 1))]) (rest := [.int (cellv xs L (nI i)), .ref (B2 0 3 0), .ref (B 0 3 0)]) ⟨hx, hb, hml, hown, hts⟩ (c_L_cell l b L xs (i + 1) (by omega) hL _) (va_cwS 2 hts gL_law_L_cell rfl rfl rfl (by decide +kernel) ⟨Nat.le_of_ble_eq_true rfl, Nat.le_of_ble_eq_true rfl⟩) (preX hX hbl hS) rfl rfl hl.1 rfl (lv_room (Nat.le_of_ble_eq_true rfl)) dL_law_45 ⟨Nat.le_of_ble_eq_true rfl, Nat.le_of_ble_eq_true rfl⟩) hP hD hS hA (fun H locs hP hD hS => ?_)
    refine lv_iconst (v := (2 : Int32)) hx hb dL_law_48 (by decide) ?_
    refine lv_ishr hx hb dL_law_49 ?_
    generalize cellv xs L (nI i) = y1
    generalize (cellv xs L (nI (i + 1)) >>> ((2 : Int32) &&& (31 : Int32))) = y2
    obtain ⟨e1, u, hu, h2⟩ := step_law h (by omega) y1 y2
    have hu : u ≤ 500 * (i + 1) := by omega
    refine goGP (va_runS (As := [.ref (B 0 3 0), .ref (B2 0 3 0), .int y1, .int y2]) (rest := []) ⟨hx, hb, hml, hown, hts⟩ (c_L_isStep l D cI cC cS B B2 G P y1 y2 h.2.1.1 h.2.2.1 _) (va_cwS 4 hts gL_law_L_isStep rfl rfl rfl (by decide +kernel) ⟨Nat.le_of_ble_eq_true rfl, Nat.le_of_ble_eq_true rfl⟩) (spreGP hK hP hD) rfl rfl hl.1 rfl (lv_room (Nat.le_of_ble_eq_true rfl)) dL_law_50 ⟨Nat.le_of_ble_eq_true rfl, Nat.le_of_ble_eq_true rfl⟩) hP hD hS hA (fun H locs hP hD hS => ?_)
    generalize p_L_isStep_G G P y1 y2 = G2 at h2 hP hD
    generalize p_L_isStep_P G P y1 y2 = P2 at h2 hP hD
    refine W.eq (g2 := F0 m 53 ls [.int 1]) (by rw [e1]) ?_
    clear e1
    obtain ⟨G, rfl⟩ : ∃ x, x = G2 := ⟨_, rfl⟩
    obtain ⟨P, rfl⟩ : ∃ x, x = P2 := ⟨_, rfl⟩
    have h := h2
    refine lv_if_eq (tgt := 88) hx hb dL_law_53 (by decide) (fun h9 => absurd h9 (by decide)) (fun _ => ?_)
    refine lv_iload hx hb dL_law_56 (lv_at hl 4 rfl) ?_
    refine lv_iconst (v := (4 : Int32)) hx hb dL_law_58 (by decide) ?_
    refine lv_irem hx hb dL_law_59 (by decide) ?_
    refine lv_if_gt (tgt := 84) hx hb dL_law_60 (by decide) (fun _ => ?_) (fun _ => ?_)
    · exact K84 G P u hu h _ _ hP hD hS
    · refine lv_aload_n hx hb dL_law_63 rfl (lv_at hl 1 rfl) ?_
      refine lv_aload_n hx hb dL_law_64 rfl (lv_at hl 1 rfl) ?_
      refine lv_iconst (v := (3 : Int32)) hx hb dL_law_65 (by decide) ?_
      refine goG (va_runV (As := [.int (3 : Int32)]) (rest := [.ref (B 0 3 0)]) ⟨hx, hb, hml, hown, hts⟩ (c_X4_count l D cI cC cS B G (3 : Int32)  _) (cwV 1 hts gL_law_X4_count rfl rfl rfl (by decide +kernel) ⟨Nat.le_of_ble_eq_true rfl, Nat.le_of_ble_eq_true rfl⟩) (preG hK hP hD) rfl rfl hl.1 rfl (lv_room (Nat.le_of_ble_eq_true rfl)) dL_law_66 ⟨Nat.le_of_ble_eq_true rfl, Nat.le_of_ble_eq_true rfl⟩) hP hD hS hA (fun H locs hP hD hS => ?_)
      refine lv_iconst (v := (1 : Int32)) hx hb dL_law_69 (by decide) ?_
      have K78 : ∀ (g : Int32), (¬ g = 0 → r_X4_count G 3 = 1) → (g = 0 ∨ g = 1) → W p l e room_1 s m #[Value.ref b] below meth c H locs 600000 7302250 (lw_Z below #[Value.ref b] s) (F0 m 78 ls [.int g, .ref (B 0 3 0)]) := by
        intro g hg h01
        obtain ⟨w1, w2, w3, w4⟩ := well_RR h hg h01
        refine W.eq (g2 := F0 m 78 ls [.int (nb g), .ref (B 0 3 0)]) (by rw [nb_of h01]) ?_
        refine goG (va_runS (As := [.ref (B 0 3 0), .int (nb g)]) (rest := []) ⟨hx, hb, hml, hown, hts⟩ (c_L_isWell l D cI cC cS B G g w1 w2 _) (va_cwS 2 hts gL_law_L_isWell rfl rfl rfl (by decide +kernel) ⟨Nat.le_of_ble_eq_true rfl, Nat.le_of_ble_eq_true rfl⟩) (spreG hK hP hD) rfl rfl hl.1 rfl (lv_room (Nat.le_of_ble_eq_true rfl)) dL_law_78 ⟨Nat.le_of_ble_eq_true rfl, Nat.le_of_ble_eq_true rfl⟩) hP hD hS hA (fun H locs hP hD hS => ?_)
        generalize p_L_isWell G g = G1 at w4 hP hD
        refine W.eq (g2 := F0 m 81 ls [.int 1]) (by rw [w3]) ?_
        refine lv_if_eq (tgt := 88) hx hb dL_law_81 (by decide) (fun h9 => absurd h9 (by decide)) (fun _ => ?_)
        exact K84 G1 P _ hu w4 _ _ hP hD hS
      refine lv_icmp_ne (tgt := 77) hx hb dL_law_70 (by decide) (fun c3 => ?_) (fun c3 => ?_)
      · refine lv_iconst (v := (0 : Int32)) hx hb dL_law_77 (by decide) ?_
        exact K78 0 (fun z => absurd rfl z) (Or.inl rfl)
      · refine lv_iconst (v := (1 : Int32)) hx hb dL_law_73 (by decide) ?_
        refine lv_goto (tgt := 78) hx hb dL_law_74 (by decide) ?_
        exact K78 1 (fun _ => by first | exact c3 | exact Decidable.not_not.mp c3) (Or.inr rfl)
end LOOP
