/-! the worlds of the class and of the reference; contracts of one shape; rows for calls -/
abbrev F1 : Type := Nat → Int32
abbrev CS : Type := Nat → Nat → Int32
/-- what a boolean field keeps -/
def nb (x : Int32) : Int32 := x &&& 1
theorem nb_c (x : Int32) : nb x = 0 ∨ nb x = 1 := by
  obtain ⟨j, hj, e⟩ := pk_andE x (m := 1) 1 (by decide)
  rcases (show j = 0 ∨ j = 1 by omega) with rfl | rfl
  · exact Or.inl e
  · exact Or.inr e
theorem nb_n (x : Int32) : narrow .boolean (.int (nb x)) = .int (nb x) := by
  show Value.int (nb x &&& 1) = Value.int (nb x)
  rcases nb_c x with h | h <;> rw [h] <;> rfl
theorem nb_f (x : Int32) : fits .boolean (.int (nb x)) = true := by
  show (nb x == 0 || nb x == 1) = true
  rcases nb_c x with h | h <;> rw [h] <;> rfl
theorem nb_nb (x : Int32) : nb (nb x) = nb x := by
  rcases nb_c x with h | h <;> rw [h] <;> rfl
theorem nb_1 : nb 1 = 1 := by decide
theorem nb_0 : nb 0 = 0 := by decide
def NWs : List Cond := [
  .fieldLinkNest "GrayPointers" 64 "GrayPointers$Side" "period" "I" "GrayPointers",
  .fieldLinkNest "GrayPointers" 69 "GrayPointers$Side" "phase" "I" "GrayPointers",
  .fieldLinkNest "GrayPointers" 72 "GrayPointers$Side" "going" "Z" "GrayPointers",
  .fieldLinkNest "GrayPointers$State" 58 "GrayPointers$Side" "pointer" "I" "GrayPointers",
  .fieldLinkNest "GrayPointers" 133 "GrayPointers$Side" "pointer" "I" "GrayPointers",
  .fieldLinkNest "GrayPointers" 140 "GrayPointers$Side" "first" "I" "GrayPointers",
  .fieldLinkNest "GrayPointers$State" 61 "GrayPointers$Side" "second" "I" "GrayPointers",
  .fieldLinkNest "GrayPointers" 143 "GrayPointers$Side" "second" "I" "GrayPointers",
  .fieldLinkNest "GrayPointers" 171 "GrayPointers$Side" "ticks" "I" "GrayPointers",
  .fieldLinkNest "GrayPointers" 174 "GrayPointers$Side" "torn" "I" "GrayPointers",
  .fieldLinkNest "GrayPointers" 206 "GrayPointers$State" "k" "I" "GrayPointers",
  .fieldLinkNest "GrayPointers" 200 "GrayPointers$State" "gray" "Z" "GrayPointers",
  .fieldLinkNest "GrayPointers" 76 "GrayPointers$State" "time" "I" "GrayPointers",
  .fieldLinkNest "GrayPointers" 79 "GrayPointers$State" "nearFull" "I" "GrayPointers",
  .fieldLinkNest "GrayPointers" 82 "GrayPointers$State" "nearEmpty" "I" "GrayPointers",
  .fieldLinkNest "GrayPointers" 209 "GrayPointers$State" "writer" "LGrayPointers$Side;" "GrayPointers",
  .fieldLinkNest "GrayPointers" 213 "GrayPointers$State" "reader" "LGrayPointers$Side;" "GrayPointers",
  .fieldLinkNest "GrayPointers" 177 "GrayPointers$State" "words" "[I" "GrayPointers",
  .fieldLinkNest "GrayPointers" 185 "GrayPointers$State" "numbers" "[I" "GrayPointers",
  .fieldLinkNest "GrayPointers" 188 "GrayPointers$State" "waits" "[I" "GrayPointers",
  .fieldLinkNest "GrayPointers" 48 "GrayPointers$State" "waitCount" "I" "GrayPointers",
  .fieldLinkNest "GrayPointers" 219 "GrayPointers$State" "putCount" "I" "GrayPointers",
  .fieldLinkNest "GrayPointers" 105 "GrayPointers$State" "takenCount" "I" "GrayPointers",
  .fieldLinkNest "GrayPointers" 222 "GrayPointers$State" "rightCount" "I" "GrayPointers",
  .fieldLinkNest "GrayPointers" 123 "GrayPointers$History" "size" "I" "GrayPointers",
  .fieldLinkNest "GrayPointers" 116 "GrayPointers$Text" "length" "I" "GrayPointers",
  .fieldLinkNest "GrayPointers$State" 108 "GrayPointers$Text" "partWords" "[I" "GrayPointers",
  .fieldLinkNest "GrayPointers$State" 115 "GrayPointers$Text" "partTimes" "[I" "GrayPointers",
  .fieldLinkNest "GrayPointers$State" 103 "GrayPointers$Text" "parts" "I" "GrayPointers",
  .methodLinkNest "GrayPointers$State" 50 ⟨"GrayPointers", "fillRow", "([II)V"⟩ "GrayPointers",
  .methodLinkNest "GrayPointers" 31 ⟨"GrayPointers$Text", "<init>", "()V"⟩ "GrayPointers",
  .methodLinkNest "GrayPointers$History" 25 ⟨"GrayPointers", "remainder", "(II)I"⟩ "GrayPointers",
  .methodLinkNest "GrayPointers$State" 159 ⟨"GrayPointers", "copyRow", "([I[I)V"⟩ "GrayPointers",
  .methodLinkNest "GrayPointers$Side" 22 ⟨"GrayPointers", "remainder", "(II)I"⟩ "GrayPointers",
  .methodLinkNest "GrayPointers$State" 111 ⟨"GrayPointers", "valueAt", "([II)I"⟩ "GrayPointers",
  .methodLinkNest "GrayPointers$State" 92 ⟨"GrayPointers", "setAt", "([III)V"⟩ "GrayPointers",
  .methodLinkNest "GrayPointers$Text" 59 ⟨"GrayPointers", "setAt", "([III)V"⟩ "GrayPointers",
  .methodLinkNest "GrayPointers$Text" 40 ⟨"GrayPointers", "valueAt", "([II)I"⟩ "GrayPointers"]
def isNest : Cond → Bool
  | .fieldLinkNest _ _ _ _ _ _ => true
  | .methodLinkNest _ _ _ _ => true
  | _ => false
theorem NWs_nest : ∀ w ∈ NWs, isNest w = true := by decide +kernel
theorem nw_tab {w : Cond} (hw : isNest w = true) : w.onTables = true := by cases w <;> first | rfl | cases hw
theorem nw_warm {w : Cond} (hw : isNest w = true) {s U : State} (hW : s.WarmedH U.vm) (hZ : va_Nw w s) : va_Nw w U := by
  cases w <;> first | exact va_Nw.warmF hW hZ | exact va_Nw.warmM hW hZ | cases hw
/-- the class tables as every method finds them -/
def KK (D : va_G) (cI cC cS : ClassId) (U : State) : Prop := va_K D vwCl [(cI, .int), (cC, .char), (cS, .object "GrayPointers$State")] U ∧ (∀ w ∈ NWs, va_Nw w U) ∧ va_AO "GrayPointers$State" U
theorem KK.call {D : va_G} {cI cC cS : ClassId} {U : State} (h : KK D cI cC cS U) (g : JFrame) (mk : MethodId) (a : Array Value) : KK D cI cC cS (U.calling g mk a) :=
  ⟨va_K.moved (u := U) (U := U.calling g mk a) (Vm.Alike.refl U.vm) h.1, fun w hw => va_Nw.same (nw_tab (NWs_nest w hw)) (u := U) (U := U.calling g mk a) rfl (h.2.1 w hw), va_AO.moved (u := U) (U := U.calling g mk a) (Vm.Alike.refl U.vm) h.2.2⟩
theorem KK.warm {D : va_G} {cI cC cS : ClassId} {s U : State} (hW : s.WarmedH U.vm) (h : KK D cI cC cS s) : KK D cI cC cS U :=
  ⟨va_K.moved hW.alike h.1, fun w hw => nw_warm (NWs_nest w hw) hW (h.2.1 w hw), va_AO.moved hW.alike h.2.2⟩
theorem KK.nest {D : va_G} {cI cC cS : ClassId} {s : State} (h : KK D cI cC cS s) (i : Nat) {w : Cond} (hi : NWs[i]? = some w) (args : Array Value) : w.before args s = true :=
  have hm := List.mem_of_getElem? hi
  va_Nw.use (nw_tab (NWs_nest w hm)) (h.2.1 w hm)
theorem KK.nw {D : va_G} {cI cC cS : ClassId} {s : State} (h : KK D cI cC cS s) (i : Nat) {w : Cond} (hi : NWs[i]? = some w) : va_Nw w s := h.2.1 w (List.mem_of_getElem? hi)
/-- what holds ahead of a method, and behind it -/
def CPre (D : va_G) (cI cC cS : ClassId) (w : va_W) (sz : Nat) (U : State) : Prop := U.heap.size = sz ∧ va_P D vwCl w U.heap ∧ KK D cI cC cS U ∧ va_D (fun _ => True) w
def QV (D : va_G) (w' : va_W) (A : Nat → Prop) : Array Value → State → Outcome → State → Prop := va_Qv (fun _ : Unit => True) (fun _ t => va_P D vwCl w' t.heap ∧ va_D A w') A
def QI (D : va_G) (w' : va_W) (r : Int32) (A : Nat → Prop) : Array Value → State → Outcome → State → Prop := va_Qi (fun (r' : Int32) (_ : Unit) => r' = r) (fun _ t => va_P D vwCl w' t.heap ∧ va_D A w') A
def QR (D : va_G) (w' : va_W) (r : Nat) (A : Nat → Prop) : Array Value → State → Outcome → State → Prop := va_Qr (fun _ : Unit => True) (fun _ a t => a = r ∧ va_P D vwCl w' t.heap ∧ va_D A w') A
def CV (l : Launch) (D : va_G) (cI cC cS : ClassId) (y : MethodName) (wc : List Cond) (rm : Room) (av : List Value) (w w' : va_W) : Prop := ∀ sz, Met l y wc rm (va_Pc av (CPre D cI cC cS w sz)) (QV D w' (va_A w sz)) 0 0 (va_A w sz)
def CI (l : Launch) (D : va_G) (cI cC cS : ClassId) (y : MethodName) (wc : List Cond) (rm : Room) (av : List Value) (w w' : va_W) (r : Int32) : Prop := ∀ sz, Met l y wc rm (va_Pc av (CPre D cI cC cS w sz)) (QI D w' r (va_A w sz)) 0 0 (va_A w sz)
def CR (l : Launch) (D : va_G) (cI cC cS : ClassId) (y : MethodName) (wc : List Cond) (rm : Room) (av : List Value) (w w' : va_W) (r : Nat) : Prop := ∀ sz, Met l y wc rm (va_Pc av (CPre D cI cC cS w sz)) (QR D w' r (va_A w sz)) 0 0 (va_A w sz)
theorem fstE {w w' : va_W} {as : List Nat} (h1 : w'.map Prod.fst = as) (h2 : w.map Prod.fst = as) : w'.map Prod.fst = w.map Prod.fst := h1.trans h2.symm
/-- cells put back at their places: is, those of the callee; js, the others -/
def covers (n : Nat) (is js : List Nat) : Bool := (List.range n).all (fun k => is.elem k || js.elem k) && js.all (fun j => !is.elem j)
theorem frame_put {A0 : Nat → Prop} {D : va_G} {cl : List vw_C} {ws ws' w w' rs : va_W} {H H1 : Heap} {n : Nat} (hP : va_P D cl ws H) (hD : va_D A0 ws) (is js : List Nat) (hC : is.map (fun i => ws[i]?) = w.map some) (hR : js.map (fun i => ws[i]?) = rs.map some) (hC' : is.map (fun i => ws'[i]?) = w'.map some) (hR' : js.map (fun i => ws'[i]?) = rs.map some) (hn : ws'.length = n) (hcov : covers n is js = true) (hw' : w'.map Prod.fst = w.map Prod.fst)
    (hk : ∀ q : Nat, q < H.size → ¬ va_A w H.size q → H1[q]? = H[q]?) (hP1 : va_P D cl w' H1) : va_P D cl ws' H1 ∧ va_D A0 ws' := by
  have hcov1 : ∀ k, k < n → k ∈ is ∨ k ∈ js := by
    intro k hk
    have h := (Bool.and_eq_true _ _ ▸ hcov : _ ∧ _).1
    have h2 := List.all_eq_true.mp h k (List.mem_range.mpr hk)
    rcases (Bool.or_eq_true _ _ ▸ h2 : _ ∨ _) with h3 | h3
    · exact Or.inl (List.elem_iff.mp h3)
    · exact Or.inr (List.elem_iff.mp h3)
  have hdis : ∀ j, j ∈ js → j ∉ is := by
    intro j hj hi
    have h := (Bool.and_eq_true _ _ ▸ hcov : _ ∧ _).2
    have h2 := List.all_eq_true.mp h j hj
    rw [List.elem_iff.mpr hi] at h2
    cases h2
  have at' : ∀ {l : List Nat} {u v : va_W}, l.map (fun i => u[i]?) = v.map some → ∀ (j k : Nat), l[j]? = some k → u[k]? = v[j]? := by
    intro l u v h j k hj
    have h1 : (l.map (fun i => u[i]?))[j]? = some (u[k]?) := by rw [List.getElem?_map, hj]; rfl
    rw [h, List.getElem?_map] at h1
    cases hv : v[j]? with
    | none => rw [hv] at h1; cases h1
    | some y => rw [hv] at h1; exact (Option.some.inj h1).symm
  have same : ∀ (k : Nat) (x : Nat × va_E), ws'[k]? = some x → ∃ y, ws[k]? = some y ∧ y.1 = x.1 ∧ ((k ∈ js ∧ y = x) ∨ ∃ j : Nat, is[j]? = some k ∧ w'[j]? = some x) := by
    intro k x hx
    have hlt : k < n := by rw [← hn]; exact (List.getElem?_eq_some_iff.mp hx).1
    rcases hcov1 k hlt with h | h
    · obtain ⟨j, hj⟩ := List.getElem?_of_mem h
      have h1 := at' hC' j k hj
      rw [hx] at h1
      have h2 : (w'.map Prod.fst)[j]? = some x.1 := by rw [List.getElem?_map, ← h1]; rfl
      rw [hw', List.getElem?_map] at h2
      cases hy : w[j]? with
      | none => rw [hy] at h2; cases h2
      | some y =>
        rw [hy] at h2
        exact ⟨y, by rw [at' hC j k hj, hy], Option.some.inj h2, Or.inr ⟨j, hj, h1.symm⟩⟩
    · obtain ⟨j, hj⟩ := List.getElem?_of_mem h
      refine ⟨x, ?_, rfl, Or.inl ⟨h, rfl⟩⟩
      rw [at' hR j k hj, ← at' hR' j k hj, hx]
  have hat2 : ∀ (j : Nat) (y : Nat × va_E), w[j]? = some y → ∃ k, is[j]? = some k ∧ ws[k]? = some y := by
    intro j y hy
    have h1 : (is.map (fun i => ws[i]?))[j]? = some (some y) := by rw [hC, List.getElem?_map, hy]; rfl
    rw [List.getElem?_map] at h1
    cases hi : is[j]? with
    | none => rw [hi] at h1; cases h1
    | some k => rw [hi] at h1; exact ⟨k, rfl, Option.some.inj h1⟩
  refine ⟨fun k x hx => ?_, fun i j x y hx hy hxy => ?_, fun k x hx => ?_⟩
  · obtain ⟨y, h1, h2, h3⟩ := same k x hx
    rcases h3 with ⟨h4, rfl⟩ | ⟨j, h4, h5⟩
    · refine (hP k y h1).kept (hk y.1 (hP k y h1).lt fun z => ?_)
      rcases z with ⟨j, e, z⟩ | z
      · obtain ⟨k2, a1, a2⟩ := hat2 j (y.1, e) z
        have := hD.1 k k2 y (y.1, e) h1 a2 rfl
        subst this
        exact hdis k h4 (List.mem_of_getElem? a1)
      · exact absurd (hP k y h1).lt (Nat.not_lt.mpr z)
    · exact hP1 j x h5
  · obtain ⟨x0, a1, a2, -⟩ := same i x hx
    obtain ⟨y0, b1, b2, -⟩ := same j y hy
    exact hD.1 i j x0 y0 a1 b1 (a2.trans (hxy.trans b2.symm))
  · obtain ⟨x0, a1, a2, -⟩ := same k x hx
    rw [← a2]
    exact hD.2 k x0 a1
section CALLS
variable {p : Program} {l : Launch} {e : Env} {R : Room} {s : State} {m : MethodId} {args : Array Value} {below : List Frame} {meth : Method} {c : Code} {H : Heap} {locs : List Loc} {cells slots : Nat} {Q : State → Prop}
variable {pc : Nat} {ls : Array Slot} {rest st0 : List Value} {a : Array Value} {A : Nat → Prop} {H0 : Heap} {D : va_G} {cI cC cS : ClassId} {ws w w' ws' rs : va_W} {n : Nat}
theorem preS (hK : KK D cI cC cS s) (hP : va_P D vwCl ws H) (hD : va_D A ws) (is : List Nat) (hn : va_nd is = true) (hC : is.map (fun i => ws[i]?) = w.map some) {As : List Value} : PreS s H (va_Pc As (CPre D cI cC cS w H.size)) As :=
  ⟨fun a U g mk q => ⟨q.1, q.2.1, q.2.2.1, q.2.2.2.1.call g mk a, q.2.2.2.2⟩, fun U hU hW => ⟨rfl, by rw [hU], by
    rw [hU]
    intro k x hx
    have h1 : (is.map (fun i => ws[i]?))[k]? = some (some x) := by rw [hC, List.getElem?_map, hx]; rfl
    rw [List.getElem?_map] at h1
    cases hi : is[k]? with
    | none => rw [hi] at h1; cases h1
    | some i => rw [hi] at h1; exact hP i x (Option.some.inj h1), hK.warm hW, (hD.sub is hn hC).weaken (fun _ _ _ _ => trivial)⟩⟩
theorem preV (hK : KK D cI cC cS s) (hP : va_P D vwCl ws H) (hD : va_D A ws) (is : List Nat) (hn : va_nd is = true) (hC : is.map (fun i => ws[i]?) = w.map some) (q0 : Nat) (ci : Nat) {C : String} {T : u_T} {N b : Nat} {fs : List Value} (hc : vwCl[ci]? = some (C, T, N)) (he : ws[q0]? = some (b, .inr (ci, fs))) {As : List Value} : PreV s H C b (va_Pc (.ref b :: As) (CPre D cI cC cS w H.size)) As :=
  ⟨(preS hK hP hD is hn hC).1, va_recv hK.1 hP hc he, (preS (As := .ref b :: As) hK hP hD is hn hC).2⟩
theorem free_of (hD : va_D A ws) (hS : va_S A H0 H locs) (hA : ∀ q, H0.size ≤ q → A q) (is : List Nat) (hC : is.map (fun i => ws[i]?) = w.map some) : ∀ q, va_A w H.size q → A q := va_free hD hS hA is hC
theorem goI {r : Int32} (hr : va_Run p l e R s m args below meth c H locs cells slots 0 0 (F0 m pc ls st0) rest (QI D w' r (va_A w H.size) a) (va_A w H.size)) (hP : va_P D vwCl ws H) (hD : va_D A ws) (hS : va_S A H0 H locs) (hA : ∀ q, H0.size ≤ q → A q) (is js : List Nat) (hC : is.map (fun i => ws[i]?) = w.map some) (hR : js.map (fun i => ws[i]?) = rs.map some) (hC' : is.map (fun i => ws'[i]?) = w'.map some) (hR' : js.map (fun i => ws'[i]?) = rs.map some) (hn : ws'.length = n) (hcov : covers n is js = true) (hw' : w'.map Prod.fst = w.map Prod.fst)
    (kk : ∀ (H1 : Heap) (locs1 : List Loc), va_P D vwCl ws' H1 → va_D A ws' → va_S A H0 H1 locs1 → W p l e R s m args below meth c H1 locs1 cells slots Q (F0 m (pc + 3) ls (.int r :: rest))) : W p l e R s m args below meth c H locs cells slots Q (F0 m pc ls st0) := by
  have hF := free_of hD hS hA is hC
  refine va_calli hr hS (fun q _ h => hF q h) hF (fun r' u t H1 locs1 ht hvm hw hB hz1 hk1 hS1 => ?_)
  subst hw
  obtain ⟨h1, h2⟩ := frame_put hP hD is js hC hR hC' hR' hn hcov hw' hk1 (by rw [← ht]; exact hB.1)
  exact kk H1 locs1 h1 h2 hS1
theorem goV (hr : va_Run p l e R s m args below meth c H locs cells slots 0 0 (F0 m pc ls st0) rest (QV D w' (va_A w H.size) a) (va_A w H.size)) (hP : va_P D vwCl ws H) (hD : va_D A ws) (hS : va_S A H0 H locs) (hA : ∀ q, H0.size ≤ q → A q) (is js : List Nat) (hC : is.map (fun i => ws[i]?) = w.map some) (hR : js.map (fun i => ws[i]?) = rs.map some) (hC' : is.map (fun i => ws'[i]?) = w'.map some) (hR' : js.map (fun i => ws'[i]?) = rs.map some) (hn : ws'.length = n) (hcov : covers n is js = true) (hw' : w'.map Prod.fst = w.map Prod.fst)
    (kk : ∀ (H1 : Heap) (locs1 : List Loc), va_P D vwCl ws' H1 → va_D A ws' → va_S A H0 H1 locs1 → W p l e R s m args below meth c H1 locs1 cells slots Q (F0 m (pc + 3) ls rest)) : W p l e R s m args below meth c H locs cells slots Q (F0 m pc ls st0) := by
  have hF := free_of hD hS hA is hC
  refine va_callv hr hS (fun q _ h => hF q h) hF (fun u t H1 locs1 ht hvm hw hB hz1 hk1 hS1 => ?_)
  obtain ⟨h1, h2⟩ := frame_put hP hD is js hC hR hC' hR' hn hcov hw' hk1 (by rw [← ht]; exact hB.1)
  exact kk H1 locs1 h1 h2 hS1
theorem goR {r : Nat} (hr : va_Run p l e R s m args below meth c H locs cells slots 0 0 (F0 m pc ls st0) rest (QR D w' r (va_A w H.size) a) (va_A w H.size)) (hP : va_P D vwCl ws H) (hD : va_D A ws) (hS : va_S A H0 H locs) (hA : ∀ q, H0.size ≤ q → A q) (is js : List Nat) (hC : is.map (fun i => ws[i]?) = w.map some) (hR : js.map (fun i => ws[i]?) = rs.map some) (hC' : is.map (fun i => ws'[i]?) = w'.map some) (hR' : js.map (fun i => ws'[i]?) = rs.map some) (hn : ws'.length = n) (hcov : covers n is js = true) (hw' : w'.map Prod.fst = w.map Prod.fst)
    (kk : ∀ (H1 : Heap) (locs1 : List Loc), va_P D vwCl ws' H1 → va_D A ws' → va_S A H0 H1 locs1 → W p l e R s m args below meth c H1 locs1 cells slots Q (F0 m (pc + 3) ls (.ref r :: rest))) : W p l e R s m args below meth c H locs cells slots Q (F0 m pc ls st0) := by
  have hF := free_of hD hS hA is hC
  refine va_callr hr hS (fun q _ h => hF q h) hF (fun u ra t H1 locs1 ht hvm hw hB hz1 hk1 hS1 => ?_)
  obtain ⟨rfl, hB1, -⟩ := hB
  obtain ⟨h1, h2⟩ := frame_put hP hD is js hC hR hC' hR' hn hcov hw' hk1 (by rw [← ht]; exact hB1)
  exact kk H1 locs1 h1 h2 hS1
theorem endI {cc : ByteArray} {r v : Int32} (hb : c.code = cc) (hx : p.tables.exec = Jvm.exec) (hr : meth.sig.returnType = some .int) (hq : v = r) (hP : va_P D vwCl w' H) (hD : va_D A w') (hS : va_S A s.heap H locs) (hdg : decode cc pc = .ok (.ireturn, 1)) (hlocks : meth.locks = false) : W p l e R s m args below meth c H locs cells slots (MQ below (QI D w' r A) args s cells slots A) (F0 m pc ls [.int v]) :=
  W.iret (v := v) hx hb hr (fun t ht hW => ⟨⟨v, (), rfl, hq, by rw [ht]; exact hP, hD⟩, hS.F ht⟩) hS.2.2 hdg hlocks
theorem endZ {cc : ByteArray} {r v : Int32} {ty : FieldType} (hb : c.code = cc) (hx : p.tables.exec = Jvm.exec) (hr : meth.sig.returnType = some ty) (hn : narrow ty (.int v) = .int v) (hq : v = r) (hP : va_P D vwCl w' H) (hD : va_D A w') (hS : va_S A s.heap H locs) (hdg : decode cc pc = .ok (.ireturn, 1)) (hlocks : meth.locks = false) : W p l e R s m args below meth c H locs cells slots (MQ below (QI D w' r A) args s cells slots A) (F0 m pc ls [.int v]) :=
  W.zret (v := v) hx hb hr hn (fun t ht hW => ⟨⟨v, (), rfl, hq, by rw [ht]; exact hP, hD⟩, hS.F ht⟩) hS.2.2 hdg hlocks
theorem endV {cc : ByteArray} (hb : c.code = cc) (hx : p.tables.exec = Jvm.exec) (hr : meth.sig.returnType = none) (hP : va_P D vwCl w' H) (hD : va_D A w') (hS : va_S A s.heap H locs) (hdg : decode cc pc = .ok (.return_, 1)) (hlocks : meth.locks = false) : W p l e R s m args below meth c H locs cells slots (MQ below (QV D w' A) args s cells slots A) (F0 m pc ls []) :=
  W.vret hx hb hr (fun t ht hW => ⟨⟨(), rfl, trivial, by rw [ht]; exact hP, hD⟩, hS.F ht⟩) hS.2.2 hdg hlocks
theorem endR {cc : ByteArray} {r v : Nat} {rt : FieldType} (hb : c.code = cc) (hx : p.tables.exec = Jvm.exec) (hr : meth.sig.returnType = some rt) (hq : v = r) (hrt : ∃ n, rt = .object n) (hP : va_P D vwCl w' H) (hD : va_D A w') (hS : va_S A s.heap H locs) (hdg : decode cc pc = .ok (.areturn, 1)) (hlocks : meth.locks = false) : W p l e R s m args below meth c H locs cells slots (MQ below (QR D w' r A) args s cells slots A) (F0 m pc ls [.ref v]) :=
  W.aret (v := .ref v) hx hb hr (Or.inl hrt) (Or.inr ⟨_, rfl⟩) (fun t ht hW => ⟨⟨(), v, rfl, trivial, hq, by rw [ht]; exact hP, hD⟩, hS.F ht⟩) hS.2.2 hdg hlocks
theorem startC {y : MethodName} {wc wt : List Cond} {rm : Room} {av : List Value} {sz : Nat} {cc : ByteArray} {maxL : Nat} {ret : Option FieldType} {Qf : (Nat → Prop) → Array Value → State → Outcome → State → Prop} (hy : plainName y.cls = true) (hw : wc = Cond.code y cc maxL ret :: wt) (hfit : (lg_sl av).length ≤ maxL)
    (body : ∀ p e s m args below meth c, p.tables.exec = Jvm.exec → c.code = cc → c.maxLocals = maxL → meth.sig.returnType = ret → (∀ w ∈ wc, w.before args s = true) → s.vm.findClass y.cls = some m.cls → meth.locks = false → meth.name = y.name → KK D cI cC cS s → ∀ A : Nat → Prop, (∀ q : Nat, s.heap.size ≤ q → A q) → va_S A s.heap s.heap [] → va_P D vwCl w s.heap → va_D A w →
      ∀ ls, lv_has ls maxL (lv_args 0 av) → W p l e rm s m args below meth c s.heap [] 0 0 (MQ below (Qf A) args s 0 0 A) (F0 m 0 ls [])) : Met l y wc rm (va_Pc av (CPre D cI cC cS w sz)) (Qf (va_A w sz)) 0 0 (va_A w sz) := by
  refine Met.ofW (cc := cc) (maxL := maxL) (ret := ret) hy hw ?_
  intro p e s m args below meth c s₁ B hml hv
  obtain ⟨rfl, hsz, hP, hK, hD0⟩ := hv
  have hts := atoms_spec (ws := wc) B.pre
  subst hsz
  have hD := hD0.self (sz := s.heap.size)
  have hl := lv_entry av (n := maxL) hfit
  rw [lg_entry_eq]
  exact body p e s m _ below meth c B.exec B.bytes hml B.returns hts (findClass_of_methodNamed B.named) B.notSynchronized (name_of_methodNamed B.named B.method).1 hK _ (fun q h => Or.inr h) va_S.rf hP hD _ hl
theorem same_i {cA : ClassId} (hK : KK D cI cC cS s) (h : va_K D vwCl ([(cI, .int), (cC, .char), (cS, .object "GrayPointers$State")] ++ [(cA, .int)]) s) : cA = cI := by
  have h1 : s.vm.findClass ("[" ++ (FieldType.int).toString) = some cI := (hK.1.2 0 _ rfl).2
  have h2 : s.vm.findClass ("[" ++ (FieldType.int).toString) = some cA := (h.2 3 _ rfl).2
  exact Option.some.inj (h2.symm.trans h1)
theorem same_c {cA : ClassId} (hK : KK D cI cC cS s) (h : va_K D vwCl ([(cI, .int), (cC, .char), (cS, .object "GrayPointers$State")] ++ [(cA, .char)]) s) : cA = cC := by
  have h1 : s.vm.findClass ("[" ++ (FieldType.char).toString) = some cC := (hK.1.2 1 _ rfl).2
  have h2 : s.vm.findClass ("[" ++ (FieldType.char).toString) = some cA := (h.2 3 _ rfl).2
  exact Option.some.inj (h2.symm.trans h1)
theorem same_s {cA : ClassId} (hK : KK D cI cC cS s) (h : va_K D vwCl ([(cI, .int), (cC, .char), (cS, .object "GrayPointers$State")] ++ [(cA, .object "GrayPointers$State")]) s) : cA = cS := by
  obtain ⟨_, _, -, -, -, h1⟩ := (hK.1.2 2 _ rfl).2
  obtain ⟨_, _, -, -, -, h2⟩ := (h.2 3 _ rfl).2
  exact Option.some.inj (h2.symm.trans h1)
theorem goN {U : Type} {mc ms : Nat} {post : U → Prop} {W' : U → va_W} {wr : va_W} (hr : va_Run p l e R s m args below meth c H locs cells slots mc ms (F0 m pc ls st0) rest (va_Qv post (fun u t => va_P D vwCl (W' u) t.heap ∧ va_D (va_A w H.size) (W' u)) (va_A w H.size) a) (va_A w H.size)) (hP : va_P D vwCl ws H) (hD : va_D A ws) (hS : va_S A H0 H locs) (hA : ∀ q, H0.size ≤ q → A q) (isC isR : List Nat) (hC : isC.map (fun i => ws[i]?) = w.map some) (hR : isR.map (fun i => ws[i]?) = wr.map some) (hn : va_nd isR = true) (hdis : ∀ i ∈ isR, i ∉ isC)
    (kk : ∀ (u : U) (H1 : Heap) (locs1 : List Loc), post u → va_P D vwCl (wr ++ W' u) H1 → va_D A (wr ++ W' u) → va_S A H0 H1 locs1 → W p l e R s m args below meth c H1 locs1 (cells + mc) (slots + ms) Q (F0 m (pc + 3) ls rest)) : W p l e R s m args below meth c H locs cells slots Q (F0 m pc ls st0) := by
  have hF := free_of hD hS hA isC hC
  refine va_callv hr hS (fun q _ h => hF q h) hF (fun u t H1 locs1 ht hvm hw hB hz1 hk1 hS1 => ?_)
  obtain ⟨h1, h2⟩ := va_join hP hD isC isR hC hR hn hdis hk1 hF (by rw [← ht]; exact hB.1) hB.2
  exact kk u H1 locs1 hw h1 h2 hS1
theorem startN {y : MethodName} {wc wt : List Cond} {rm : Room} {av : List Value} {sz mc ms : Nat} {cc : ByteArray} {maxL : Nat} {ret : Option FieldType} {Qf : (Nat → Prop) → Array Value → State → Outcome → State → Prop} (hy : plainName y.cls = true) (hw : wc = Cond.code y cc maxL ret :: wt) (hfit : (lg_sl av).length ≤ maxL)
    (body : ∀ p e s m args below meth c, p.tables.exec = Jvm.exec → c.code = cc → c.maxLocals = maxL → meth.sig.returnType = ret → (∀ w ∈ wc, w.before args s = true) → s.vm.findClass y.cls = some m.cls → meth.locks = false → meth.name = y.name → KK D cI cC cS s → ∀ A : Nat → Prop, (∀ q : Nat, s.heap.size ≤ q → A q) → va_S A s.heap s.heap [] → va_P D vwCl w s.heap → va_D A w →
      ∀ ls, lv_has ls maxL (lv_args 0 av) → W p l e rm s m args below meth c s.heap [] 0 0 (MQ below (Qf A) args s mc ms A) (F0 m 0 ls [])) : Met l y wc rm (va_Pc av (CPre D cI cC cS w sz)) (Qf (va_A w sz)) mc ms (va_A w sz) := by
  refine Met.ofW (cc := cc) (maxL := maxL) (ret := ret) hy hw ?_
  intro p e s m args below meth c s₁ B hml hv
  obtain ⟨rfl, hsz, hP, hK, hD0⟩ := hv
  have hts := atoms_spec (ws := wc) B.pre
  subst hsz
  have hD := hD0.self (sz := s.heap.size)
  have hl := lv_entry av (n := maxL) hfit
  rw [lg_entry_eq]
  exact body p e s m _ below meth c B.exec B.bytes hml B.returns hts (findClass_of_methodNamed B.named) B.notSynchronized (name_of_methodNamed B.named B.method).1 hK _ (fun q h => Or.inr h) va_S.rf hP hD _ hl
theorem endN {U : Type} {cc : ByteArray} {post : U → Prop} {W' : U → va_W} (u : U) (hb : c.code = cc) (hx : p.tables.exec = Jvm.exec) (hr : meth.sig.returnType = none) (hu : post u) (hP : va_P D vwCl (W' u) H) (hD : va_D A (W' u)) (hS : va_S A s.heap H locs) (hdg : decode cc pc = .ok (.return_, 1)) (hlocks : meth.locks = false) : W p l e R s m args below meth c H locs cells slots (MQ below (va_Qv post (fun u t => va_P D vwCl (W' u) t.heap ∧ va_D A (W' u)) A) args s cells slots A) (F0 m pc ls []) :=
  W.vret hx hb hr (fun t ht hW => ⟨⟨u, rfl, hu, by rw [ht]; exact hP, hD⟩, hS.F ht⟩) hS.2.2 hdg hlocks
end CALLS
theorem va_up_s {α : Type} {f : Nat → α} {k : Nat} {v : α} : va_up f k v k = v := if_pos rfl
theorem va_up_n {α : Type} {f : Nat → α} {k j : Nat} {v : α} (h : j ≠ k) : va_up f k v j = f j := if_neg h
/-! the cells -/
def sdC (w : F1) : va_E := .inr (1, [.int (w 0), .int (w 1), .int (nb (w 2)), .int (w 3), .int (w 4), .int (w 5), .int (w 6), .int (w 7)])
def stC (ad : Nat → Nat) (c : F1) : va_E := .inr (2, [.int (c 0), .int (nb (c 1)), .int (c 2), .int (c 3), .int (c 4), .ref (ad 1), .ref (ad 2), .ref (ad 3), .ref (ad 4), .ref (ad 5), .int (c 10), .ref (ad 6), .int (c 12), .int (c 13), .int (c 14)])
def arC (cA : ClassId) (n : Nat) (f : F1) : va_E := .inl (cA, n, .inl f)
def stW (cI : ClassId) (ad : Nat → Nat) (S : CS) : va_W := [(ad 0, stC ad (S 0)), (ad 1, sdC (S 1)), (ad 2, sdC (S 2)), (ad 3, arC cI 16 (S 3)), (ad 4, arC cI 16 (S 4)), (ad 5, arC cI 20 (S 5)), (ad 6, arC cI 16 (S 6))]
def txC (ad : Nat → Nat) (c : F1) : va_E := .inr (3, [.ref (ad 1), .int (c 1), .ref (ad 2), .ref (ad 3), .int (c 4), .int (c 5)])
def txW (cI cC : ClassId) (ad : Nat → Nat) (T : CS) : va_W := [(ad 0, txC ad (T 0)), (ad 1, arC cC 60 (T 1)), (ad 2, arC cI 30 (T 2)), (ad 3, arC cI 30 (T 3))]
def hsC (ad : Nat → Nat) (c : F1) : va_E := .inr (0, [.ref (ad 1), .int (c 1), .int (c 2)])
/-- the four states of the history: where each begins -/
def hsF (A : Nat → Nat → Nat) : Nat → Option Nat := va_up (va_up (va_up (va_up (fun _ => none) 0 (some (A 0 0))) 1 (some (A 1 0))) 2 (some (A 2 0))) 3 (some (A 3 0))
def hsW (cI cS : ClassId) (A : Nat → Nat → Nat) (K : Nat → CS) : va_W := (A 4 0, hsC (A 4) (K 4 0)) :: (A 4 1, .inl (cS, 4, .inr (.inr (.inr (.inr (hsF A)))))) :: (stW cI (A 0) (K 0) ++ (stW cI (A 1) (K 1) ++ (stW cI (A 2) (K 2) ++ stW cI (A 3) (K 3))))
def gpC (A : Nat → Nat → Nat → Nat) (c : F1) : va_E := .inr (4, [.ref (A 0 0 0), .ref (A 0 1 0), .ref (A 0 2 0), .int (nb (c 3)), .ref (A 1 4 0), .ref (A 2 0 0)])
def gpW (cI cC cS : ClassId) (A : Nat → Nat → Nat → Nat) (G : Nat → Nat → CS) : va_W := (A 0 3 0, gpC A (G 0 3 0)) :: (stW cI (A 0 0) (G 0 0) ++ (stW cI (A 0 1) (G 0 1) ++ (stW cI (A 0 2) (G 0 2) ++ (hsW cI cS (A 1) (G 1) ++ txW cI cC (A 2 0) (G 2 0)))))
theorem hsW_e {cI cS : ClassId} {A : Nat → Nat → Nat} {K : Nat → CS} {c : F1} {K0 K1 K2 K3 : CS} (h : K 4 0 = c) (k0 : K 0 = K0) (k1 : K 1 = K1) (k2 : K 2 = K2) (k3 : K 3 = K3) : hsW cI cS A K = (A 4 0, hsC (A 4) c) :: (A 4 1, .inl (cS, 4, .inr (.inr (.inr (.inr (hsF A)))))) :: (stW cI (A 0) K0 ++ (stW cI (A 1) K1 ++ (stW cI (A 2) K2 ++ stW cI (A 3) K3))) := by
  subst h; subst k0; subst k1; subst k2; subst k3; rfl
theorem gpW_e {cI cC cS : ClassId} {A : Nat → Nat → Nat → Nat} {G : Nat → Nat → CS} {c : F1} {S0 S1 S2 : CS} {c1 : F1} {K0 K1 K2 K3 T : CS} (h : G 0 3 0 = c) (h0 : G 0 0 = S0) (h1 : G 0 1 = S1) (h2 : G 0 2 = S2) (h3 : G 1 4 0 = c1) (k0 : G 1 0 = K0) (k1 : G 1 1 = K1) (k2 : G 1 2 = K2) (k3 : G 1 3 = K3) (t : G 2 0 = T) : gpW cI cC cS A G = (A 0 3 0, gpC A c) :: (stW cI (A 0 0) S0 ++ (stW cI (A 0 1) S1 ++ (stW cI (A 0 2) S2 ++ ((A 1 4 0, hsC (A 1 4) c1) :: (A 1 4 1, .inl (cS, 4, .inr (.inr (.inr (.inr (hsF (A 1))))))) :: (stW cI (A 1 0) K0 ++ (stW cI (A 1 1) K1 ++ (stW cI (A 1 2) K2 ++ stW cI (A 1 3) K3))) ++ txW cI cC (A 2 0) T)))) := by
  subst h; subst h0; subst h1; subst h2; subst h3; subst k0; subst k1; subst k2; subst k3; subst t; rfl
