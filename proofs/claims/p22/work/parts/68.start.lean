/-! the law's start -/
theorem NWs_in : ∀ w ∈ NWs, w ∈ lw_tbl := List.forall_mem_cons.mpr ⟨List.mem_of_getElem? (i := 36) (by decide +kernel), List.forall_mem_cons.mpr ⟨List.mem_of_getElem? (i := 38) (by decide +kernel), List.forall_mem_cons.mpr ⟨List.mem_of_getElem? (i := 40) (by decide +kernel), List.forall_mem_cons.mpr ⟨List.mem_of_getElem? (i := 42) (by decide +kernel), List.forall_mem_cons.mpr ⟨List.mem_of_getElem? (i := 43) (by decide +kernel), List.forall_mem_cons.mpr ⟨List.mem_of_getElem? (i := 45) (by decide +kernel), List.forall_mem_cons.mpr ⟨List.mem_of_getElem? (i := 47) (by decide +kernel), List.forall_mem_cons.mpr ⟨List.mem_of_getElem? (i := 48) (by decide +kernel), List.forall_mem_cons.mpr ⟨List.mem_of_getElem? (i := 50) (by decide +kernel), List.forall_mem_cons.mpr ⟨List.mem_of_getElem? (i := 52) (by decide +kernel), List.forall_mem_cons.mpr ⟨List.mem_of_getElem? (i := 74) (by decide +kernel), List.forall_mem_cons.mpr ⟨List.mem_of_getElem? (i := 76) (by decide +kernel), List.forall_mem_cons.mpr ⟨List.mem_of_getElem? (i := 77) (by decide +kernel), List.forall_mem_cons.mpr ⟨List.mem_of_getElem? (i := 80) (by decide +kernel), List.forall_mem_cons.mpr ⟨List.mem_of_getElem? (i := 82) (by decide +kernel), List.forall_mem_cons.mpr ⟨List.mem_of_getElem? (i := 84) (by decide +kernel), List.forall_mem_cons.mpr ⟨List.mem_of_getElem? (i := 86) (by decide +kernel), List.forall_mem_cons.mpr ⟨List.mem_of_getElem? (i := 88) (by decide +kernel), List.forall_mem_cons.mpr ⟨List.mem_of_getElem? (i := 90) (by decide +kernel), List.forall_mem_cons.mpr ⟨List.mem_of_getElem? (i := 92) (by decide +kernel), List.forall_mem_cons.mpr ⟨List.mem_of_getElem? (i := 93) (by decide +kernel), List.forall_mem_cons.mpr ⟨List.mem_of_getElem? (i := 97) (by decide +kernel), List.forall_mem_cons.mpr ⟨List.mem_of_getElem? (i := 98) (by decide +kernel), List.forall_mem_cons.mpr ⟨List.mem_of_getElem? (i := 101) (by decide +kernel), List.forall_mem_cons.mpr ⟨List.mem_of_getElem? (i := 146) (by decide +kernel), List.forall_mem_cons.mpr ⟨List.mem_of_getElem? (i := 162) (by decide +kernel), List.forall_mem_cons.mpr ⟨List.mem_of_getElem? (i := 164) (by decide +kernel), List.forall_mem_cons.mpr ⟨List.mem_of_getElem? (i := 166) (by decide +kernel), List.forall_mem_cons.mpr ⟨List.mem_of_getElem? (i := 168) (by decide +kernel), List.forall_mem_cons.mpr ⟨List.mem_of_getElem? (i := 70) (by decide +kernel), List.forall_mem_cons.mpr ⟨List.mem_of_getElem? (i := 156) (by decide +kernel), List.forall_mem_cons.mpr ⟨List.mem_of_getElem? (i := 240) (by decide +kernel), List.forall_mem_cons.mpr ⟨List.mem_of_getElem? (i := 255) (by decide +kernel), List.forall_mem_cons.mpr ⟨List.mem_of_getElem? (i := 283) (by decide +kernel), List.forall_mem_cons.mpr ⟨List.mem_of_getElem? (i := 313) (by decide +kernel), List.forall_mem_cons.mpr ⟨List.mem_of_getElem? (i := 316) (by decide +kernel), List.forall_mem_cons.mpr ⟨List.mem_of_getElem? (i := 432) (by decide +kernel), List.forall_mem_cons.mpr ⟨List.mem_of_getElem? (i := 452) (by decide +kernel), fun _ h => absurd h List.not_mem_nil⟩⟩⟩⟩⟩⟩⟩⟩⟩⟩⟩⟩⟩⟩⟩⟩⟩⟩⟩⟩⟩⟩⟩⟩⟩⟩⟩⟩⟩⟩⟩⟩⟩⟩⟩⟩⟩⟩
/-- the tables as the law finds them -/
theorem KK_start {s : State} {args : Array Value} (hts : ∀ w ∈ lw_tbl, w.before args s = true) : ∃ (D : va_G) (cI cC cS : ClassId), KK D cI cC cS s := by
  have htl : ∀ w ∈ wsL_law, w.before args s = true := fun w h => hts w (wsL_law_in w h)
  obtain ⟨c0, s0, hn0⟩ := u_known (C := RX0) (T := TX0) (N := 3) (n := 3) htl inlX0 (hts (.instantiable RX0 3) (List.mem_of_getElem? (i := 135) (by decide +kernel)))
  obtain ⟨c1, s1, hn1⟩ := u_known (C := RX1) (T := TX1) (N := 8) (n := 8) htl inlX1 (hts (.instantiable RX1 8) (List.mem_of_getElem? (i := 30) (by decide +kernel)))
  obtain ⟨c2, s2, hn2⟩ := u_known (C := RX2) (T := TX2) (N := 15) (n := 15) htl inlX2 (hts (.instantiable RX2 15) (List.mem_of_getElem? (i := 24) (by decide +kernel)))
  obtain ⟨c3, s3, hn3⟩ := u_known (C := RX3) (T := TX3) (N := 6) (n := 6) htl inlX3 (hts (.instantiable RX3 6) (List.mem_of_getElem? (i := 155) (by decide +kernel)))
  obtain ⟨c4, s4, hn4⟩ := u_known (C := RX4) (T := TX4) (N := 6) (n := 6) htl inlX4 (hts (.instantiable RX4 6) (List.mem_of_getElem? (i := 16) (by decide +kernel)))
  obtain ⟨dC, dI, hKc⟩ : ∃ (dC : Nat → ClassId) (dI : Nat → Nat → Nat), ∀ (k : Nat) (q : vw_C), vwCl[k]? = some q → u_Kn s q.1 q.2.1 q.2.2 (dC k) (dI k) := by
    refine ⟨fun k => if k = 0 then c0 else if k = 1 then c1 else if k = 2 then c2 else if k = 3 then c3 else c4, fun k => if k = 0 then s0 else if k = 1 then s1 else if k = 2 then s2 else if k = 3 then s3 else s4, ?_⟩
    intro k q hq
    match k, hq with
    | 0, hq => cases hq; exact hn0
    | 1, hq => cases hq; exact hn1
    | 2, hq => cases hq; exact hn2
    | 3, hq => cases hq; exact hn3
    | 4, hq => cases hq; exact hn4
    | k + 5, hq => cases hq
  obtain ⟨cI, kI, oI, i1, i2, i3⟩ := Cond.arrayClass_spec (hts (.arrayClass .int) (List.mem_of_getElem? (i := 133) (by decide +kernel)))
  obtain ⟨cC, kC, oC, j1, j2, j3⟩ := Cond.arrayClass_spec (hts (.arrayClass .char) (List.mem_of_getElem? (i := 183) (by decide +kernel)))
  have hao := hts (.arrayOver (.object "GrayPointers$State")) (List.mem_of_getElem? (i := 141) (by decide +kernel))
  obtain ⟨oS, cS, kS, q1, q2, q3, q4, q5⟩ := Cond.arrayOver_spec hao
  refine ⟨(dC, dI), cI, cC, cS, ⟨hKc, ?_⟩, fun w hw => va_Nw.of (nw_tab (NWs_nest w hw)) (hts w (NWs_in w hw)), va_AO.of hao⟩
  intro k q hq
  match k, hq with
  | 0, hq => cases hq; exact ⟨fun n z => ⟨(fun k h => by cases h), kI, i2, oI, i3⟩, i1⟩
  | 1, hq => cases hq; exact ⟨fun n z => ⟨(fun k h => by cases h), kC, j2, oC, j3⟩, j1⟩
  | 2, hq => cases hq; exact ⟨fun n z => ⟨(fun k h => by cases h), kS, q3, oS, q4⟩, kS, oS, q3, q4, q1, q5⟩
  | k + 3, hq => cases hq
/-! two new objects are alike -/
theorem J_0 : J stI stI 0 := by
  have z : (0 : Nat) < 2 ^ (2 + 1) := by decide
  have z0 : (0 : Int32) = gcode (nI (0 % 2 ^ (2 + 1))) := by decide
  have n4 : ∀ i, i < 16 → stI 4 i = -5 := fun i hi => by rw [stI_4]; exact fillRow16 _ _ hi
  refine ⟨2, 0, 0, 0, ⟨by decide, by decide, by decide, Nat.le_refl _, Nat.le_refl _, ⟨rfl, rfl, rfl, rfl, rfl⟩, ⟨10, 0, 0, 0, rfl, by decide, by decide, rfl, by decide, rfl, rfl, Nat.le_refl _, Nat.le_refl _⟩, ⟨14, 0, 0, 0, rfl, by decide, by decide, rfl, by decide, rfl, rfl, Nat.le_refl _, Nat.le_refl _⟩, ⟨rfl, 0, 0, z, z, rfl, rfl⟩, ⟨rfl, 0, 0, z, z, rfl, rfl⟩, fun q hq => Or.inl ⟨n4 q (by have : 2 ^ 2 = 4 := rfl; omega), Nat.zero_le _⟩, 0, rfl, Nat.le_refl _⟩, fun _ => ⟨rfl, 0, 0, 0, 0, z0, z0, z0, z0, Nat.le_refl _, Nat.le_refl _, Nat.zero_le _, Nat.le_refl _, Nat.le_refl _, Nat.le_refl _⟩, ⟨rfl, rfl, rfl, rfl, rfl, rfl, rfl, rfl, rfl⟩, ⟨rfl, rfl, rfl, rfl, rfl, rfl, rfl, 10, 0, rfl, by decide, by decide, rfl, by decide, rfl⟩, ⟨rfl, rfl, rfl, rfl, rfl, rfl, rfl, 14, 0, rfl, by decide, by decide, rfl, by decide, rfl⟩, fun _ _ => rfl, fun _ _ _ => ⟨rfl, rfl⟩, fun i hi h => absurd (n4 i hi) h, fun i hi => absurd hi (Nat.not_lt_zero _), fun j _ hj => absurd hj (Nat.not_lt_zero _)⟩
theorem HG_0 : HG gpI := ⟨⟨0, 0, rfl, rfl, by decide, by decide⟩, [], Nat.zero_le _, rfl, fun i hi => absurd hi (Nat.not_lt_zero _)⟩
theorem RR_0 : RR gpI gpI 0 := ⟨J_0, HG_0, HG_0⟩
