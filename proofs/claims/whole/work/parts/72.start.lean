/-! the law's start -/
theorem NWs_in : ∀ w ∈ NWs, w ∈ lw_tbl := List.forall_mem_cons.mpr ⟨List.mem_of_getElem? (i := 69) (by decide +kernel), List.forall_mem_cons.mpr ⟨List.mem_of_getElem? (i := 71) (by decide +kernel), List.forall_mem_cons.mpr ⟨List.mem_of_getElem? (i := 73) (by decide +kernel), List.forall_mem_cons.mpr ⟨List.mem_of_getElem? (i := 75) (by decide +kernel), List.forall_mem_cons.mpr ⟨List.mem_of_getElem? (i := 76) (by decide +kernel), List.forall_mem_cons.mpr ⟨List.mem_of_getElem? (i := 78) (by decide +kernel), List.forall_mem_cons.mpr ⟨List.mem_of_getElem? (i := 80) (by decide +kernel), List.forall_mem_cons.mpr ⟨List.mem_of_getElem? (i := 81) (by decide +kernel), List.forall_mem_cons.mpr ⟨List.mem_of_getElem? (i := 83) (by decide +kernel), List.forall_mem_cons.mpr ⟨List.mem_of_getElem? (i := 85) (by decide +kernel), List.forall_mem_cons.mpr ⟨List.mem_of_getElem? (i := 107) (by decide +kernel), List.forall_mem_cons.mpr ⟨List.mem_of_getElem? (i := 109) (by decide +kernel), List.forall_mem_cons.mpr ⟨List.mem_of_getElem? (i := 110) (by decide +kernel), List.forall_mem_cons.mpr ⟨List.mem_of_getElem? (i := 113) (by decide +kernel), List.forall_mem_cons.mpr ⟨List.mem_of_getElem? (i := 115) (by decide +kernel), List.forall_mem_cons.mpr ⟨List.mem_of_getElem? (i := 117) (by decide +kernel), List.forall_mem_cons.mpr ⟨List.mem_of_getElem? (i := 119) (by decide +kernel), List.forall_mem_cons.mpr ⟨List.mem_of_getElem? (i := 121) (by decide +kernel), List.forall_mem_cons.mpr ⟨List.mem_of_getElem? (i := 123) (by decide +kernel), List.forall_mem_cons.mpr ⟨List.mem_of_getElem? (i := 125) (by decide +kernel), List.forall_mem_cons.mpr ⟨List.mem_of_getElem? (i := 126) (by decide +kernel), List.forall_mem_cons.mpr ⟨List.mem_of_getElem? (i := 130) (by decide +kernel), List.forall_mem_cons.mpr ⟨List.mem_of_getElem? (i := 131) (by decide +kernel), List.forall_mem_cons.mpr ⟨List.mem_of_getElem? (i := 134) (by decide +kernel), List.forall_mem_cons.mpr ⟨List.mem_of_getElem? (i := 179) (by decide +kernel), List.forall_mem_cons.mpr ⟨List.mem_of_getElem? (i := 195) (by decide +kernel), List.forall_mem_cons.mpr ⟨List.mem_of_getElem? (i := 197) (by decide +kernel), List.forall_mem_cons.mpr ⟨List.mem_of_getElem? (i := 199) (by decide +kernel), List.forall_mem_cons.mpr ⟨List.mem_of_getElem? (i := 201) (by decide +kernel), List.forall_mem_cons.mpr ⟨List.mem_of_getElem? (i := 103) (by decide +kernel), List.forall_mem_cons.mpr ⟨List.mem_of_getElem? (i := 189) (by decide +kernel), List.forall_mem_cons.mpr ⟨List.mem_of_getElem? (i := 247) (by decide +kernel), List.forall_mem_cons.mpr ⟨List.mem_of_getElem? (i := 262) (by decide +kernel), List.forall_mem_cons.mpr ⟨List.mem_of_getElem? (i := 304) (by decide +kernel), List.forall_mem_cons.mpr ⟨List.mem_of_getElem? (i := 339) (by decide +kernel), List.forall_mem_cons.mpr ⟨List.mem_of_getElem? (i := 345) (by decide +kernel), List.forall_mem_cons.mpr ⟨List.mem_of_getElem? (i := 366) (by decide +kernel), List.forall_mem_cons.mpr ⟨List.mem_of_getElem? (i := 408) (by decide +kernel), fun _ h => absurd h List.not_mem_nil⟩⟩⟩⟩⟩⟩⟩⟩⟩⟩⟩⟩⟩⟩⟩⟩⟩⟩⟩⟩⟩⟩⟩⟩⟩⟩⟩⟩⟩⟩⟩⟩⟩⟩⟩⟩⟩⟩
/-- the tables as the law finds them -/
theorem KK_start {s : State} {args : Array Value} (hts : ∀ w ∈ lw_tbl, w.before args s = true) : ∃ (D : va_G) (cI cC cS : ClassId), KK D cI cC cS s := by
  have htl : ∀ w ∈ wsL_law, w.before args s = true := fun w h => hts w (wsL_law_in w h)
  obtain ⟨c0, s0, hn0⟩ := u_known (C := RX0) (T := TX0) (N := 3) (n := 3) htl inlX0 (hts (.instantiable RX0 3) (List.mem_of_getElem? (i := 168) (by decide +kernel)))
  obtain ⟨c1, s1, hn1⟩ := u_known (C := RX1) (T := TX1) (N := 8) (n := 8) htl inlX1 (hts (.instantiable RX1 8) (List.mem_of_getElem? (i := 63) (by decide +kernel)))
  obtain ⟨c2, s2, hn2⟩ := u_known (C := RX2) (T := TX2) (N := 15) (n := 15) htl inlX2 (hts (.instantiable RX2 15) (List.mem_of_getElem? (i := 57) (by decide +kernel)))
  obtain ⟨c3, s3, hn3⟩ := u_known (C := RX3) (T := TX3) (N := 6) (n := 6) htl inlX3 (hts (.instantiable RX3 6) (List.mem_of_getElem? (i := 188) (by decide +kernel)))
  obtain ⟨c4, s4, hn4⟩ := u_known (C := RX4) (T := TX4) (N := 6) (n := 6) htl inlX4 (hts (.instantiable RX4 6) (List.mem_of_getElem? (i := 49) (by decide +kernel)))
  obtain ⟨c5, s5, hn5⟩ := u_known (C := RX5) (T := TX5) (N := 14) (n := 14) htl inlX5 (hts (.instantiable RX5 14) (List.mem_of_getElem? (i := 516) (by decide +kernel)))
  obtain ⟨dC, dI, hKc⟩ : ∃ (dC : Nat → ClassId) (dI : Nat → Nat → Nat), ∀ (k : Nat) (q : vw_C), vwCl[k]? = some q → u_Kn s q.1 q.2.1 q.2.2 (dC k) (dI k) := by
    refine ⟨fun k => if k = 0 then c0 else if k = 1 then c1 else if k = 2 then c2 else if k = 3 then c3 else if k = 4 then c4 else c5, fun k => if k = 0 then s0 else if k = 1 then s1 else if k = 2 then s2 else if k = 3 then s3 else if k = 4 then s4 else s5, ?_⟩
    intro k q hq
    match k, hq with
    | 0, hq => cases hq; exact hn0
    | 1, hq => cases hq; exact hn1
    | 2, hq => cases hq; exact hn2
    | 3, hq => cases hq; exact hn3
    | 4, hq => cases hq; exact hn4
    | 5, hq => cases hq; exact hn5
    | k + 6, hq => cases hq
  obtain ⟨cI, kI, oI, i1, i2, i3⟩ := Cond.arrayClass_spec (hts (.arrayClass .int) (List.mem_of_getElem? (i := 166) (by decide +kernel)))
  obtain ⟨cC, kC, oC, j1, j2, j3⟩ := Cond.arrayClass_spec (hts (.arrayClass .char) (List.mem_of_getElem? (i := 216) (by decide +kernel)))
  have hao := hts (.arrayOver (.object "GrayPointers$State")) (List.mem_of_getElem? (i := 174) (by decide +kernel))
  obtain ⟨oS, cS, kS, q1, q2, q3, q4, q5⟩ := Cond.arrayOver_spec hao
  refine ⟨(dC, dI), cI, cC, cS, ⟨hKc, ?_⟩, fun w hw => va_Nw.of (nw_tab (NWs_nest w hw)) (hts w (NWs_in w hw)), va_AO.of hao⟩
  intro k q hq
  match k, hq with
  | 0, hq => cases hq; exact ⟨fun n z => ⟨(fun k h => by cases h), kI, i2, oI, i3⟩, i1⟩
  | 1, hq => cases hq; exact ⟨fun n z => ⟨(fun k h => by cases h), kC, j2, oC, j3⟩, j1⟩
  | 2, hq => cases hq; exact ⟨fun n z => ⟨(fun k h => by cases h), kS, q3, oS, q4⟩, kS, oS, q3, q4, q1, q5⟩
  | k + 3, hq => cases hq
/-! what was made agrees -/
theorem RT_start0s : RT stI (p_X5_builds mdI 2 1 1) 2 0 0 0 := by
  rw [builds_at, va_up_s]
  have z : (0 : Nat) < 2 ^ (2 + 1) := by decide
  refine ⟨⟨by decide, by decide, ⟨rfl, rfl, rfl, rfl, rfl, rfl, rfl, rfl, rfl, rfl, rfl, rfl, rfl, rfl⟩, ⟨rfl, rfl, rfl, rfl, rfl, rfl, rfl, rfl, by decide, 0, 0, 0, rfl, rfl, rfl, z, z, z⟩, ⟨rfl, rfl, rfl, rfl, rfl, rfl, rfl, rfl, by decide, 0, 0, 0, rfl, rfl, rfl, z, z, z⟩, fun i hi => ?_, fun i hi => ?_, fun i hi => absurd hi (Nat.not_lt_zero _), fun j hj _ => absurd hj (Nat.not_lt_zero _)⟩, rfl, Nat.le_refl _⟩
  · rw [bld_47 hi]; rfl
  · rw [bld_63 hi, stI_4]; exact (fillRow16 (fun _ => 0) (-5) hi).symm
theorem RG_0 : RG gpI (p_X5_builds mdI 2 1) := by
  have e : ∀ i, i ≠ 1 → p_X5_builds mdI 2 1 i = mdI i := fun i hi => by rw [builds_at, va_up_n hi]
  refine ⟨⟨2, 0, 0, 0, RT_start0s, by omega⟩, ⟨0, 0, by omega, by omega, rfl, rfl, ?_, fun i hi => absurd hi (Nat.not_lt_zero _)⟩, Or.inl ⟨rfl, ?_⟩, 0, by omega, rfl, ?_, fun i hi => absurd hi (Nat.not_lt_zero _)⟩
  · rw [e 0 (by decide)]; rfl
  · rw [e 0 (by decide)]; rfl
  · rw [e 0 (by decide)]; rfl
/-! what the contracts ask -/
theorem RG_HI {G : Nat → Nat → CS} {M : CS} (h : RG G M) : HI (G 1) := by
  obtain ⟨-, ⟨o, n, a1, a2, a3, a4, -⟩, -⟩ := h
  exact ⟨o, n, a3, a4, a1, a2⟩
theorem RG_HL {G : Nat → Nat → CS} {M : CS} (h : RG G M) : HL M := by
  obtain ⟨-, ⟨o, n, a1, a2, a3, a4, a5, -⟩, -⟩ := h
  exact ⟨n, a5, a2⟩
theorem RG_60 {G : Nat → Nat → CS} {M : CS} (h : RG G M) : 0 ≤ (M 0 8).toInt ∧ (M 0 8).toInt ≤ 60 := by
  obtain ⟨-, -, -, L, x1, x2, x3, -⟩ := h
  rw [x3, nI_toInt (by omega)]; omega
theorem RG_MI {G : Nat → Nat → CS} {M : CS} (h : RG G M) : MI M := by
  obtain ⟨k, wc, t, hR⟩ := RG_now h
  obtain ⟨hk, hw, hN, hW, hr, -⟩ := hR
  have e0 : M 1 0 = nI k := hN.2.1
  have e5 : M 1 5 = nI wc := hN.2.2.2.2.2.2.2.1
  have ne : ∀ x : Int32, 1 ≤ x.toInt → ¬ x = 0 := fun x hx e => by rw [e, zero_toI] at hx; omega
  refine ⟨?_, ⟨?_, ?_⟩, ?_⟩
  · rw [e0, nI_toInt (by omega)]; omega
  · rw [hW.1]; exact ne _ hW.2.2.2.2.2.2.2.2.1
  · rw [hr.1]; exact ne _ hr.2.2.2.2.2.2.2.2.1
  · rw [e5, nI_toInt (by omega)]; omega
theorem RG_16 {G : Nat → Nat → CS} {M : CS} (h : RG G M) : (M 1 10).toInt ≤ 16 := by
  obtain ⟨k, wc, t, hR⟩ := RG_now h
  rw [hR.2.2.1.2.2.2.2.2.2.2.2.2.2.2.2.2, nI_toInt (by omega)]; omega
def bz (x : Int32) : Int32 := if x = 0 then 0 else 1
theorem bz_01 (x : Int32) : bz x = 0 ∨ bz x = 1 := by
  unfold bz
  split
  · exact Or.inl rfl
  · exact Or.inr rfl
