/-! the law's cases, one by one -/
section LAW
variable {p : Program} {l : Launch} {e : Env} {s : State} {m : MethodId} {below : List Frame} {meth : Method} {c : Code} {b L : Nat} {xs : Nat → Int32} {D : va_G} {cI cC cS : ClassId} {B : Nat → Nat → Nat → Nat} {md : Nat → Nat} {Qz : State → Prop} {i : Nat} {G G' : Nat → Nat → CS} {M M' : CS} {H : Heap} {locs : List Loc} {ls : Array Slot}
abbrev LA (s : State) : Nat → Prop := fun q : Nat => s.heap.size ≤ q
def LC (p : Program) (s : State) (m : MethodId) (c : Code) (b L : Nat) (xs : Nat → Int32) (D : va_G) (cI cC cS : ClassId) : Prop :=
  p.tables.exec = Jvm.exec ∧ c.code = cL_law ∧ c.maxLocals = 4 ∧ s.vm.findClass RL = some m.cls ∧ (∀ w ∈ wsL_law, w.before #[Value.ref b] s = true) ∧ va_X b L xs s s.heap ∧ b < s.heap.size ∧ KK D cI cC cS s
theorem ixk (hL : L ≤ 2048) (hi : i + 4 ≤ L) {k : Nat} (hk : k < 4) : vp_in (nI i + nI k) L := by
  rw [nI_add]; exact vp_in_nI (by omega) (by omega)
theorem preG {A : Nat → Prop} (hK : KK D cI cC cS s) (hP : va_P D vwCl (gpW cI cC cS B G ++ mdW cI md M) H) (hD : va_D A (gpW cI cC cS B G ++ mdW cI md M)) {As : List Value} : PreV s H RX4 (B 0 3 0) (va_Pc (.ref (B 0 3 0) :: As) (CPre D cI cC cS (gpW cI cC cS B G) H.size)) As :=
  preV hK hP hD [0, 1, 2, 3, 4, 5, 6, 7, 8, 9, 10, 11, 12, 13, 14, 15, 16, 17, 18, 19, 20, 21, 22, 23, 24, 25, 26, 27, 28, 29, 30, 31, 32, 33, 34, 35, 36, 37, 38, 39, 40, 41, 42, 43, 44, 45, 46, 47, 48, 49, 50, 51, 52, 53, 54, 55] (by decide) rfl 0 4 rfl rfl
theorem preM {A : Nat → Prop} (hK : KK D cI cC cS s) (hP : va_P D vwCl (gpW cI cC cS B G ++ mdW cI md M) H) (hD : va_D A (gpW cI cC cS B G ++ mdW cI md M)) {As : List Value} : PreV s H RX5 (md 0) (va_Pc (.ref (md 0) :: As) (CPre D cI cC cS (mdW cI md M) H.size)) As :=
  preV hK hP hD [56, 57, 58, 59, 60, 61, 62] (by decide) rfl 56 5 rfl rfl
section GO
variable {R : Room} {args a : Array Value} {cells slots pc : Nat} {st0 rest : List Value} {A : Nat → Prop} {H0 : Heap} {r : Int32}
theorem goG (hr : va_Run p l e R s m args below meth c H locs cells slots 0 0 (F0 m pc ls st0) rest (QI D (gpW cI cC cS B G') r (va_A (gpW cI cC cS B G) H.size) a) (va_A (gpW cI cC cS B G) H.size)) (hP : va_P D vwCl (gpW cI cC cS B G ++ mdW cI md M) H) (hD : va_D A (gpW cI cC cS B G ++ mdW cI md M)) (hS : va_S A H0 H locs) (hA : ∀ q, H0.size ≤ q → A q)
    (kk : ∀ (H1 : Heap) (locs1 : List Loc), va_P D vwCl (gpW cI cC cS B G' ++ mdW cI md M) H1 → va_D A (gpW cI cC cS B G' ++ mdW cI md M) → va_S A H0 H1 locs1 → W p l e R s m args below meth c H1 locs1 cells slots Qz (F0 m (pc + 3) ls (.int r :: rest))) : W p l e R s m args below meth c H locs cells slots Qz (F0 m pc ls st0) :=
  goI (n := 63) (ws' := (gpW cI cC cS B G' ++ mdW cI md M)) (rs := mdW cI md M) hr hP hD hS hA [0, 1, 2, 3, 4, 5, 6, 7, 8, 9, 10, 11, 12, 13, 14, 15, 16, 17, 18, 19, 20, 21, 22, 23, 24, 25, 26, 27, 28, 29, 30, 31, 32, 33, 34, 35, 36, 37, 38, 39, 40, 41, 42, 43, 44, 45, 46, 47, 48, 49, 50, 51, 52, 53, 54, 55] [56, 57, 58, 59, 60, 61, 62] rfl rfl rfl rfl rfl (by decide +kernel) (fstE (as := [B 0 3 0, B 0 0 0, B 0 0 1, B 0 0 2, B 0 0 3, B 0 0 4, B 0 0 5, B 0 0 6, B 0 1 0, B 0 1 1, B 0 1 2, B 0 1 3, B 0 1 4, B 0 1 5, B 0 1 6, B 0 2 0, B 0 2 1, B 0 2 2, B 0 2 3, B 0 2 4, B 0 2 5, B 0 2 6, B 1 4 0, B 1 4 1, B 1 0 0, B 1 0 1, B 1 0 2, B 1 0 3, B 1 0 4, B 1 0 5, B 1 0 6, B 1 1 0, B 1 1 1, B 1 1 2, B 1 1 3, B 1 1 4, B 1 1 5, B 1 1 6, B 1 2 0, B 1 2 1, B 1 2 2, B 1 2 3, B 1 2 4, B 1 2 5, B 1 2 6, B 1 3 0, B 1 3 1, B 1 3 2, B 1 3 3, B 1 3 4, B 1 3 5, B 1 3 6, B 2 0 0, B 2 0 1, B 2 0 2, B 2 0 3]) rfl rfl) kk
theorem goM (hr : va_Run p l e R s m args below meth c H locs cells slots 0 0 (F0 m pc ls st0) rest (QI D (mdW cI md M') r (va_A (mdW cI md M) H.size) a) (va_A (mdW cI md M) H.size)) (hP : va_P D vwCl (gpW cI cC cS B G ++ mdW cI md M) H) (hD : va_D A (gpW cI cC cS B G ++ mdW cI md M)) (hS : va_S A H0 H locs) (hA : ∀ q, H0.size ≤ q → A q)
    (kk : ∀ (H1 : Heap) (locs1 : List Loc), va_P D vwCl (gpW cI cC cS B G ++ mdW cI md M') H1 → va_D A (gpW cI cC cS B G ++ mdW cI md M') → va_S A H0 H1 locs1 → W p l e R s m args below meth c H1 locs1 cells slots Qz (F0 m (pc + 3) ls (.int r :: rest))) : W p l e R s m args below meth c H locs cells slots Qz (F0 m pc ls st0) :=
  goI (n := 63) (ws' := (gpW cI cC cS B G ++ mdW cI md M')) (rs := gpW cI cC cS B G) hr hP hD hS hA [56, 57, 58, 59, 60, 61, 62] [0, 1, 2, 3, 4, 5, 6, 7, 8, 9, 10, 11, 12, 13, 14, 15, 16, 17, 18, 19, 20, 21, 22, 23, 24, 25, 26, 27, 28, 29, 30, 31, 32, 33, 34, 35, 36, 37, 38, 39, 40, 41, 42, 43, 44, 45, 46, 47, 48, 49, 50, 51, 52, 53, 54, 55] rfl rfl rfl rfl rfl (by decide +kernel) (fstE (as := [md 0, md 1, md 2, md 3, md 4, md 5, md 6]) rfl rfl) kk
/-- x != 0 as an argument -/
theorem law_bit {cc : ByteArray} (hx : p.tables.exec = Jvm.exec) (hb : c.code = cc) {x : Int32} (d1 : decode cc pc = .ok (.ifCond .eq 7, 3)) (d2 : decode cc (pc + 3) = .ok (.iconst 1, 1)) (d3 : decode cc (pc + 4) = .ok (.goto 4, 3)) (d4 : decode cc (pc + 7) = .ok (.iconst 0, 1))
    (k : W p l e R s m args below meth c H locs cells slots Qz (F0 m (pc + 8) ls (.int (bz x) :: rest))) : W p l e R s m args below meth c H locs cells slots Qz (F0 m pc ls (.int x :: rest)) := by
  unfold bz at k
  refine lv_if_eq (tgt := pc + 7) hx hb d1 (by omega) (fun q => ?_) (fun q => ?_)
  · rw [if_pos q] at k
    exact lv_iconst (v := 0) hx hb d4 (by decide) k
  · rw [if_neg q] at k
    refine lv_iconst (v := 1) hx hb d2 (by decide) ?_
    exact lv_goto (tgt := pc + 8) hx hb d3 (by omega) k
end GO
set_option maxHeartbeats 4000000 in
set_option maxRecDepth 100000 in
theorem lawc_0 (C0 : LC p s m c b L xs D cI cC cS) (hL : L ≤ 2048) (hi : i + 4 ≤ L) (h : RG G M) (hP : va_P D vwCl (gpW cI cC cS B G ++ mdW cI md M) H) (hD : va_D (LA s) (gpW cI cC cS B G ++ mdW cI md M)) (hS : va_S (LA s) s.heap H locs) (hl : lv_has ls 4 [(0, .ref b), (1, .ref (B 0 3 0)), (2, .ref (md 0)), (3, .int (nI i))])
    (K : ∀ (G' : Nat → Nat → CS) (M' : CS) (H : Heap) (locs : List Loc), RG G' M' → va_P D vwCl (gpW cI cC cS B G' ++ mdW cI md M') H → va_D (LA s) (gpW cI cC cS B G' ++ mdW cI md M') → va_S (LA s) s.heap H locs → W p l e room_1 s m #[Value.ref b] below meth c H locs 600000 7302250 Qz (F0 m 605 ls [])) : W p l e room_1 s m #[Value.ref b] below meth c H locs 600000 7302250 Qz (F0 m 124 ls []) := by
  obtain ⟨hx, hb, hml, hown, hts, hX, hbl, hK⟩ := C0
  have hA : ∀ q : Nat, s.heap.size ≤ q → LA s q := fun _ h => h
  have hbA : ¬ LA s b := Nat.not_le.mpr hbl
  have i1 : vp_in (nI i + (1 : Int32)) L := ixk (k := 1) hL hi (by decide)
  have i2 : vp_in (nI i + (2 : Int32)) L := ixk (k := 2) hL hi (by decide)
  refine lv_aload_n hx hb dL_law_124 rfl (lv_at hl 1 rfl) ?_
  refine lv_aload_n hx hb dL_law_125 rfl (lv_at hl 0 rfl) ?_
  refine lv_iload_n hx hb dL_law_126 rfl (lv_at hl 3 rfl) ?_
  refine lv_iconst (v := 1) hx hb dL_law_127 (by decide) ?_
  refine lv_iadd hx hb dL_law_128 ?_
  refine va_sld hx hb hX hbl hbA hS i1 dL_law_129 ?_
  refine lv_aload_n hx hb dL_law_130 rfl (lv_at hl 0 rfl) ?_
  refine lv_iload_n hx hb dL_law_131 rfl (lv_at hl 3 rfl) ?_
  refine lv_iconst (v := 2) hx hb dL_law_132 (by decide) ?_
  refine lv_iadd hx hb dL_law_133 ?_
  refine va_sld hx hb hX hbl hbA hS i2 dL_law_134 ?_
  refine law_bit hx hb dL_law_135 dL_law_138 dL_law_139 dL_law_142 ?_
  refine W.eq (g2 := F0 m 143 ls [.int (nb (bz (xs (nI i + (2 : Int32)).toNatClampNeg))), .int (xs (nI i + (1 : Int32)).toNatClampNeg), .ref (B 0 3 0)]) (by rw [nb_01 (bz_01 _)]) ?_
  refine goG (va_runV (As := [.int (xs (nI i + (1 : Int32)).toNatClampNeg), .int (nb (bz (xs (nI i + (2 : Int32)).toNatClampNeg)))]) (rest := []) ⟨hx, hb, hml, hown, hts⟩ (c_X4_build l D cI cC cS B G (xs (nI i + (1 : Int32)).toNatClampNeg) (bz (xs (nI i + (2 : Int32)).toNatClampNeg)) (RG_HI h) _) (cwV 2 hts gL_law_X4_build rfl rfl rfl (by decide +kernel) ⟨Nat.le_of_ble_eq_true rfl, Nat.le_of_ble_eq_true rfl⟩) (preG hK hP hD) rfl rfl hl.1 rfl (lv_room (Nat.le_of_ble_eq_true rfl)) dL_law_143 ⟨Nat.le_of_ble_eq_true rfl, Nat.le_of_ble_eq_true rfl⟩) hP hD hS hA (fun H locs hP hD hS => ?_)
  refine lv_aload_n hx hb dL_law_146 rfl (lv_at hl 2 rfl) ?_
  refine lv_aload_n hx hb dL_law_147 rfl (lv_at hl 0 rfl) ?_
  refine lv_iload_n hx hb dL_law_148 rfl (lv_at hl 3 rfl) ?_
  refine lv_iconst (v := 1) hx hb dL_law_149 (by decide) ?_
  refine lv_iadd hx hb dL_law_150 ?_
  refine va_sld hx hb hX hbl hbA hS i1 dL_law_151 ?_
  refine lv_aload_n hx hb dL_law_152 rfl (lv_at hl 0 rfl) ?_
  refine lv_iload_n hx hb dL_law_153 rfl (lv_at hl 3 rfl) ?_
  refine lv_iconst (v := 2) hx hb dL_law_154 (by decide) ?_
  refine lv_iadd hx hb dL_law_155 ?_
  refine va_sld hx hb hX hbl hbA hS i2 dL_law_156 ?_
  refine law_bit hx hb dL_law_157 dL_law_160 dL_law_161 dL_law_164 ?_
  refine goM (va_runV (As := [.int (xs (nI i + (1 : Int32)).toNatClampNeg), .int (bz (xs (nI i + (2 : Int32)).toNatClampNeg))]) (rest := [.int (r_X4_build G (xs (nI i + (1 : Int32)).toNatClampNeg) (bz (xs (nI i + (2 : Int32)).toNatClampNeg)))]) ⟨hx, hb, hml, hown, hts⟩ (c_X5_build l D cI cC cS md M (xs (nI i + (1 : Int32)).toNatClampNeg) (bz (xs (nI i + (2 : Int32)).toNatClampNeg)) (RG_HL h) _) (cwV 2 hts gL_law_X5_build rfl rfl rfl (by decide +kernel) ⟨Nat.le_of_ble_eq_true rfl, Nat.le_of_ble_eq_true rfl⟩) (preM hK hP hD) rfl rfl hl.1 rfl (lv_room (Nat.le_of_ble_eq_true rfl)) dL_law_165 ⟨Nat.le_of_ble_eq_true rfl, Nat.le_of_ble_eq_true rfl⟩) hP hD hS hA (fun H locs hP hD hS => ?_)
  have X := X_build h (xs (nI i + (1 : Int32)).toNatClampNeg) (bz_01 (xs (nI i + (2 : Int32)).toNatClampNeg))
  exact lv_icmp_eq (tgt := 605) hx hb dL_law_168 (by decide) (fun _ => K _ _ _ _ X.2 hP hD hS) (fun q => absurd X.1 q)
set_option maxHeartbeats 4000000 in
set_option maxRecDepth 100000 in
theorem lawc_1 (C0 : LC p s m c b L xs D cI cC cS) (hL : L ≤ 2048) (hi : i + 4 ≤ L) (h : RG G M) (hP : va_P D vwCl (gpW cI cC cS B G ++ mdW cI md M) H) (hD : va_D (LA s) (gpW cI cC cS B G ++ mdW cI md M)) (hS : va_S (LA s) s.heap H locs) (hl : lv_has ls 4 [(0, .ref b), (1, .ref (B 0 3 0)), (2, .ref (md 0)), (3, .int (nI i))])
    (K : ∀ (G' : Nat → Nat → CS) (M' : CS) (H : Heap) (locs : List Loc), RG G' M' → va_P D vwCl (gpW cI cC cS B G' ++ mdW cI md M') H → va_D (LA s) (gpW cI cC cS B G' ++ mdW cI md M') → va_S (LA s) s.heap H locs → W p l e room_1 s m #[Value.ref b] below meth c H locs 600000 7302250 Qz (F0 m 605 ls [])) : W p l e room_1 s m #[Value.ref b] below meth c H locs 600000 7302250 Qz (F0 m 173 ls []) := by
  obtain ⟨hx, hb, hml, hown, hts, hX, hbl, hK⟩ := C0
  have hA : ∀ q : Nat, s.heap.size ≤ q → LA s q := fun _ h => h
  have hbA : ¬ LA s b := Nat.not_le.mpr hbl
  have i1 : vp_in (nI i + (1 : Int32)) L := ixk (k := 1) hL hi (by decide)
  have i2 : vp_in (nI i + (2 : Int32)) L := ixk (k := 2) hL hi (by decide)
  have i3 : vp_in (nI i + (3 : Int32)) L := ixk (k := 3) hL hi (by decide)
  refine lv_aload_n hx hb dL_law_173 rfl (lv_at hl 1 rfl) ?_
  refine lv_aload_n hx hb dL_law_174 rfl (lv_at hl 0 rfl) ?_
  refine lv_iload_n hx hb dL_law_175 rfl (lv_at hl 3 rfl) ?_
  refine lv_iconst (v := 1) hx hb dL_law_176 (by decide) ?_
  refine lv_iadd hx hb dL_law_177 ?_
  refine va_sld hx hb hX hbl hbA hS i1 dL_law_178 ?_
  refine lv_aload_n hx hb dL_law_179 rfl (lv_at hl 0 rfl) ?_
  refine lv_iload_n hx hb dL_law_180 rfl (lv_at hl 3 rfl) ?_
  refine lv_iconst (v := 2) hx hb dL_law_181 (by decide) ?_
  refine lv_iadd hx hb dL_law_182 ?_
  refine va_sld hx hb hX hbl hbA hS i2 dL_law_183 ?_
  refine lv_aload_n hx hb dL_law_184 rfl (lv_at hl 0 rfl) ?_
  refine lv_iload_n hx hb dL_law_185 rfl (lv_at hl 3 rfl) ?_
  refine lv_iconst (v := 3) hx hb dL_law_186 (by decide) ?_
  refine lv_iadd hx hb dL_law_187 ?_
  refine va_sld hx hb hX hbl hbA hS i3 dL_law_188 ?_
  refine goG (va_runV (As := [.int (xs (nI i + (1 : Int32)).toNatClampNeg), .int (xs (nI i + (2 : Int32)).toNatClampNeg), .int (xs (nI i + (3 : Int32)).toNatClampNeg)]) (rest := []) ⟨hx, hb, hml, hown, hts⟩ (c_X4_setClock l D cI cC cS B G (xs (nI i + (1 : Int32)).toNatClampNeg) (xs (nI i + (2 : Int32)).toNatClampNeg) (xs (nI i + (3 : Int32)).toNatClampNeg) (RG_HI h) _) (cwV 3 hts gL_law_X4_setClock rfl rfl rfl (by decide +kernel) ⟨Nat.le_of_ble_eq_true rfl, Nat.le_of_ble_eq_true rfl⟩) (preG hK hP hD) rfl rfl hl.1 rfl (lv_room (Nat.le_of_ble_eq_true rfl)) dL_law_189 ⟨Nat.le_of_ble_eq_true rfl, Nat.le_of_ble_eq_true rfl⟩) hP hD hS hA (fun H locs hP hD hS => ?_)
  refine lv_aload_n hx hb dL_law_192 rfl (lv_at hl 2 rfl) ?_
  refine lv_aload_n hx hb dL_law_193 rfl (lv_at hl 0 rfl) ?_
  refine lv_iload_n hx hb dL_law_194 rfl (lv_at hl 3 rfl) ?_
  refine lv_iconst (v := 1) hx hb dL_law_195 (by decide) ?_
  refine lv_iadd hx hb dL_law_196 ?_
  refine va_sld hx hb hX hbl hbA hS i1 dL_law_197 ?_
  refine lv_aload_n hx hb dL_law_198 rfl (lv_at hl 0 rfl) ?_
  refine lv_iload_n hx hb dL_law_199 rfl (lv_at hl 3 rfl) ?_
  refine lv_iconst (v := 2) hx hb dL_law_200 (by decide) ?_
  refine lv_iadd hx hb dL_law_201 ?_
  refine va_sld hx hb hX hbl hbA hS i2 dL_law_202 ?_
  refine lv_aload_n hx hb dL_law_203 rfl (lv_at hl 0 rfl) ?_
  refine lv_iload_n hx hb dL_law_204 rfl (lv_at hl 3 rfl) ?_
  refine lv_iconst (v := 3) hx hb dL_law_205 (by decide) ?_
  refine lv_iadd hx hb dL_law_206 ?_
  refine va_sld hx hb hX hbl hbA hS i3 dL_law_207 ?_
  refine goM (va_runV (As := [.int (xs (nI i + (1 : Int32)).toNatClampNeg), .int (xs (nI i + (2 : Int32)).toNatClampNeg), .int (xs (nI i + (3 : Int32)).toNatClampNeg)]) (rest := [.int (r_X4_setClock G (xs (nI i + (1 : Int32)).toNatClampNeg) (xs (nI i + (2 : Int32)).toNatClampNeg) (xs (nI i + (3 : Int32)).toNatClampNeg))]) ⟨hx, hb, hml, hown, hts⟩ (c_X5_setClock l D cI cC cS md M (xs (nI i + (1 : Int32)).toNatClampNeg) (xs (nI i + (2 : Int32)).toNatClampNeg) (xs (nI i + (3 : Int32)).toNatClampNeg) (RG_HL h) _) (cwV 3 hts gL_law_X5_setClock rfl rfl rfl (by decide +kernel) ⟨Nat.le_of_ble_eq_true rfl, Nat.le_of_ble_eq_true rfl⟩) (preM hK hP hD) rfl rfl hl.1 rfl (lv_room (Nat.le_of_ble_eq_true rfl)) dL_law_208 ⟨Nat.le_of_ble_eq_true rfl, Nat.le_of_ble_eq_true rfl⟩) hP hD hS hA (fun H locs hP hD hS => ?_)
  have X := X_setClock h (xs (nI i + (1 : Int32)).toNatClampNeg) (xs (nI i + (2 : Int32)).toNatClampNeg) (xs (nI i + (3 : Int32)).toNatClampNeg)
  exact lv_icmp_eq (tgt := 605) hx hb dL_law_211 (by decide) (fun _ => K _ _ _ _ X.2 hP hD hS) (fun q => absurd X.1 q)
set_option maxHeartbeats 4000000 in
set_option maxRecDepth 100000 in
theorem lawc_2 (C0 : LC p s m c b L xs D cI cC cS) (hL : L ≤ 2048) (hi : i + 4 ≤ L) (h : RG G M) (hP : va_P D vwCl (gpW cI cC cS B G ++ mdW cI md M) H) (hD : va_D (LA s) (gpW cI cC cS B G ++ mdW cI md M)) (hS : va_S (LA s) s.heap H locs) (hl : lv_has ls 4 [(0, .ref b), (1, .ref (B 0 3 0)), (2, .ref (md 0)), (3, .int (nI i))])
    (K : ∀ (G' : Nat → Nat → CS) (M' : CS) (H : Heap) (locs : List Loc), RG G' M' → va_P D vwCl (gpW cI cC cS B G' ++ mdW cI md M') H → va_D (LA s) (gpW cI cC cS B G' ++ mdW cI md M') → va_S (LA s) s.heap H locs → W p l e room_1 s m #[Value.ref b] below meth c H locs 600000 7302250 Qz (F0 m 605 ls [])) : W p l e room_1 s m #[Value.ref b] below meth c H locs 600000 7302250 Qz (F0 m 216 ls []) := by
  obtain ⟨hx, hb, hml, hown, hts, hX, hbl, hK⟩ := C0
  have hA : ∀ q : Nat, s.heap.size ≤ q → LA s q := fun _ h => h
  have hbA : ¬ LA s b := Nat.not_le.mpr hbl
  have i1 : vp_in (nI i + (1 : Int32)) L := ixk (k := 1) hL hi (by decide)
  have i2 : vp_in (nI i + (2 : Int32)) L := ixk (k := 2) hL hi (by decide)
  refine lv_aload_n hx hb dL_law_216 rfl (lv_at hl 1 rfl) ?_
  refine lv_aload_n hx hb dL_law_217 rfl (lv_at hl 0 rfl) ?_
  refine lv_iload_n hx hb dL_law_218 rfl (lv_at hl 3 rfl) ?_
  refine lv_iconst (v := 1) hx hb dL_law_219 (by decide) ?_
  refine lv_iadd hx hb dL_law_220 ?_
  refine va_sld hx hb hX hbl hbA hS i1 dL_law_221 ?_
  refine lv_aload_n hx hb dL_law_222 rfl (lv_at hl 0 rfl) ?_
  refine lv_iload_n hx hb dL_law_223 rfl (lv_at hl 3 rfl) ?_
  refine lv_iconst (v := 2) hx hb dL_law_224 (by decide) ?_
  refine lv_iadd hx hb dL_law_225 ?_
  refine va_sld hx hb hX hbl hbA hS i2 dL_law_226 ?_
  refine law_bit hx hb dL_law_227 dL_law_230 dL_law_231 dL_law_234 ?_
  refine W.eq (g2 := F0 m 235 ls [.int (nb (bz (xs (nI i + (2 : Int32)).toNatClampNeg))), .int (xs (nI i + (1 : Int32)).toNatClampNeg), .ref (B 0 3 0)]) (by rw [nb_01 (bz_01 _)]) ?_
  refine goG (va_runV (As := [.int (xs (nI i + (1 : Int32)).toNatClampNeg), .int (nb (bz (xs (nI i + (2 : Int32)).toNatClampNeg)))]) (rest := []) ⟨hx, hb, hml, hown, hts⟩ (c_X4_start l D cI cC cS B G (xs (nI i + (1 : Int32)).toNatClampNeg) (bz (xs (nI i + (2 : Int32)).toNatClampNeg)) (RG_HI h) _) (cwV 2 hts gL_law_X4_start rfl rfl rfl (by decide +kernel) ⟨Nat.le_of_ble_eq_true rfl, Nat.le_of_ble_eq_true rfl⟩) (preG hK hP hD) rfl rfl hl.1 rfl (lv_room (Nat.le_of_ble_eq_true rfl)) dL_law_235 ⟨Nat.le_of_ble_eq_true rfl, Nat.le_of_ble_eq_true rfl⟩) hP hD hS hA (fun H locs hP hD hS => ?_)
  refine lv_aload_n hx hb dL_law_238 rfl (lv_at hl 2 rfl) ?_
  refine lv_aload_n hx hb dL_law_239 rfl (lv_at hl 0 rfl) ?_
  refine lv_iload_n hx hb dL_law_240 rfl (lv_at hl 3 rfl) ?_
  refine lv_iconst (v := 1) hx hb dL_law_241 (by decide) ?_
  refine lv_iadd hx hb dL_law_242 ?_
  refine va_sld hx hb hX hbl hbA hS i1 dL_law_243 ?_
  refine lv_aload_n hx hb dL_law_244 rfl (lv_at hl 0 rfl) ?_
  refine lv_iload_n hx hb dL_law_245 rfl (lv_at hl 3 rfl) ?_
  refine lv_iconst (v := 2) hx hb dL_law_246 (by decide) ?_
  refine lv_iadd hx hb dL_law_247 ?_
  refine va_sld hx hb hX hbl hbA hS i2 dL_law_248 ?_
  refine law_bit hx hb dL_law_249 dL_law_252 dL_law_253 dL_law_256 ?_
  refine goM (va_runV (As := [.int (xs (nI i + (1 : Int32)).toNatClampNeg), .int (bz (xs (nI i + (2 : Int32)).toNatClampNeg))]) (rest := [.int (r_X4_start G (xs (nI i + (1 : Int32)).toNatClampNeg) (bz (xs (nI i + (2 : Int32)).toNatClampNeg)))]) ⟨hx, hb, hml, hown, hts⟩ (c_X5_start l D cI cC cS md M (xs (nI i + (1 : Int32)).toNatClampNeg) (bz (xs (nI i + (2 : Int32)).toNatClampNeg)) (RG_HL h) _) (cwV 2 hts gL_law_X5_start rfl rfl rfl (by decide +kernel) ⟨Nat.le_of_ble_eq_true rfl, Nat.le_of_ble_eq_true rfl⟩) (preM hK hP hD) rfl rfl hl.1 rfl (lv_room (Nat.le_of_ble_eq_true rfl)) dL_law_257 ⟨Nat.le_of_ble_eq_true rfl, Nat.le_of_ble_eq_true rfl⟩) hP hD hS hA (fun H locs hP hD hS => ?_)
  have X := X_start h (xs (nI i + (1 : Int32)).toNatClampNeg) (bz_01 (xs (nI i + (2 : Int32)).toNatClampNeg))
  exact lv_icmp_eq (tgt := 605) hx hb dL_law_260 (by decide) (fun _ => K _ _ _ _ X.2 hP hD hS) (fun q => absurd X.1 q)
set_option maxHeartbeats 4000000 in
set_option maxRecDepth 100000 in
theorem lawc_3 (C0 : LC p s m c b L xs D cI cC cS) (hL : L ≤ 2048) (hi : i + 4 ≤ L) (h : RG G M) (hP : va_P D vwCl (gpW cI cC cS B G ++ mdW cI md M) H) (hD : va_D (LA s) (gpW cI cC cS B G ++ mdW cI md M)) (hS : va_S (LA s) s.heap H locs) (hl : lv_has ls 4 [(0, .ref b), (1, .ref (B 0 3 0)), (2, .ref (md 0)), (3, .int (nI i))])
    (K : ∀ (G' : Nat → Nat → CS) (M' : CS) (H : Heap) (locs : List Loc), RG G' M' → va_P D vwCl (gpW cI cC cS B G' ++ mdW cI md M') H → va_D (LA s) (gpW cI cC cS B G' ++ mdW cI md M') → va_S (LA s) s.heap H locs → W p l e room_1 s m #[Value.ref b] below meth c H locs 600000 7302250 Qz (F0 m 605 ls [])) : W p l e room_1 s m #[Value.ref b] below meth c H locs 600000 7302250 Qz (F0 m 265 ls []) := by
  obtain ⟨hx, hb, hml, hown, hts, hX, hbl, hK⟩ := C0
  have hA : ∀ q : Nat, s.heap.size ≤ q → LA s q := fun _ h => h
  have hbA : ¬ LA s b := Nat.not_le.mpr hbl
  have i1 : vp_in (nI i + (1 : Int32)) L := ixk (k := 1) hL hi (by decide)
  have i2 : vp_in (nI i + (2 : Int32)) L := ixk (k := 2) hL hi (by decide)
  refine lv_aload_n hx hb dL_law_265 rfl (lv_at hl 1 rfl) ?_
  refine lv_aload_n hx hb dL_law_266 rfl (lv_at hl 0 rfl) ?_
  refine lv_iload_n hx hb dL_law_267 rfl (lv_at hl 3 rfl) ?_
  refine lv_iconst (v := 1) hx hb dL_law_268 (by decide) ?_
  refine lv_iadd hx hb dL_law_269 ?_
  refine va_sld hx hb hX hbl hbA hS i1 dL_law_270 ?_
  refine lv_aload_n hx hb dL_law_271 rfl (lv_at hl 0 rfl) ?_
  refine lv_iload_n hx hb dL_law_272 rfl (lv_at hl 3 rfl) ?_
  refine lv_iconst (v := 2) hx hb dL_law_273 (by decide) ?_
  refine lv_iadd hx hb dL_law_274 ?_
  refine va_sld hx hb hX hbl hbA hS i2 dL_law_275 ?_
  refine goG (va_runV (As := [.int (xs (nI i + (1 : Int32)).toNatClampNeg), .int (xs (nI i + (2 : Int32)).toNatClampNeg)]) (rest := []) ⟨hx, hb, hml, hown, hts⟩ (c_X4_set l D cI cC cS B G (xs (nI i + (1 : Int32)).toNatClampNeg) (xs (nI i + (2 : Int32)).toNatClampNeg) (RG_HI h) _) (cwV 2 hts gL_law_X4_set rfl rfl rfl (by decide +kernel) ⟨Nat.le_of_ble_eq_true rfl, Nat.le_of_ble_eq_true rfl⟩) (preG hK hP hD) rfl rfl hl.1 rfl (lv_room (Nat.le_of_ble_eq_true rfl)) dL_law_276 ⟨Nat.le_of_ble_eq_true rfl, Nat.le_of_ble_eq_true rfl⟩) hP hD hS hA (fun H locs hP hD hS => ?_)
  refine lv_aload_n hx hb dL_law_279 rfl (lv_at hl 2 rfl) ?_
  refine lv_aload_n hx hb dL_law_280 rfl (lv_at hl 0 rfl) ?_
  refine lv_iload_n hx hb dL_law_281 rfl (lv_at hl 3 rfl) ?_
  refine lv_iconst (v := 1) hx hb dL_law_282 (by decide) ?_
  refine lv_iadd hx hb dL_law_283 ?_
  refine va_sld hx hb hX hbl hbA hS i1 dL_law_284 ?_
  refine lv_aload_n hx hb dL_law_285 rfl (lv_at hl 0 rfl) ?_
  refine lv_iload_n hx hb dL_law_286 rfl (lv_at hl 3 rfl) ?_
  refine lv_iconst (v := 2) hx hb dL_law_287 (by decide) ?_
  refine lv_iadd hx hb dL_law_288 ?_
  refine va_sld hx hb hX hbl hbA hS i2 dL_law_289 ?_
  refine goM (va_runV (As := [.int (xs (nI i + (1 : Int32)).toNatClampNeg), .int (xs (nI i + (2 : Int32)).toNatClampNeg)]) (rest := [.int (r_X4_set G (xs (nI i + (1 : Int32)).toNatClampNeg) (xs (nI i + (2 : Int32)).toNatClampNeg))]) ⟨hx, hb, hml, hown, hts⟩ (c_X5_set l D cI cC cS md M (xs (nI i + (1 : Int32)).toNatClampNeg) (xs (nI i + (2 : Int32)).toNatClampNeg) (RG_HL h) _) (cwV 2 hts gL_law_X5_set rfl rfl rfl (by decide +kernel) ⟨Nat.le_of_ble_eq_true rfl, Nat.le_of_ble_eq_true rfl⟩) (preM hK hP hD) rfl rfl hl.1 rfl (lv_room (Nat.le_of_ble_eq_true rfl)) dL_law_290 ⟨Nat.le_of_ble_eq_true rfl, Nat.le_of_ble_eq_true rfl⟩) hP hD hS hA (fun H locs hP hD hS => ?_)
  have X := X_set h (xs (nI i + (1 : Int32)).toNatClampNeg) (xs (nI i + (2 : Int32)).toNatClampNeg)
  exact lv_icmp_eq (tgt := 605) hx hb dL_law_293 (by decide) (fun _ => K _ _ _ _ X.2 hP hD hS) (fun q => absurd X.1 q)
set_option maxHeartbeats 4000000 in
set_option maxRecDepth 100000 in
theorem lawc_4 (C0 : LC p s m c b L xs D cI cC cS) (hL : L ≤ 2048) (hi : i + 4 ≤ L) (h : RG G M) (hP : va_P D vwCl (gpW cI cC cS B G ++ mdW cI md M) H) (hD : va_D (LA s) (gpW cI cC cS B G ++ mdW cI md M)) (hS : va_S (LA s) s.heap H locs) (hl : lv_has ls 4 [(0, .ref b), (1, .ref (B 0 3 0)), (2, .ref (md 0)), (3, .int (nI i))])
    (K : ∀ (G' : Nat → Nat → CS) (M' : CS) (H : Heap) (locs : List Loc), RG G' M' → va_P D vwCl (gpW cI cC cS B G' ++ mdW cI md M') H → va_D (LA s) (gpW cI cC cS B G' ++ mdW cI md M') → va_S (LA s) s.heap H locs → W p l e room_1 s m #[Value.ref b] below meth c H locs 600000 7302250 Qz (F0 m 605 ls [])) : W p l e room_1 s m #[Value.ref b] below meth c H locs 600000 7302250 Qz (F0 m 298 ls []) := by
  obtain ⟨hx, hb, hml, hown, hts, hX, hbl, hK⟩ := C0
  have hA : ∀ q : Nat, s.heap.size ≤ q → LA s q := fun _ h => h
  have hbA : ¬ LA s b := Nat.not_le.mpr hbl
  have i1 : vp_in (nI i + (1 : Int32)) L := ixk (k := 1) hL hi (by decide)
  refine lv_aload_n hx hb dL_law_298 rfl (lv_at hl 1 rfl) ?_
  refine lv_aload_n hx hb dL_law_299 rfl (lv_at hl 0 rfl) ?_
  refine lv_iload_n hx hb dL_law_300 rfl (lv_at hl 3 rfl) ?_
  refine lv_iconst (v := 1) hx hb dL_law_301 (by decide) ?_
  refine lv_iadd hx hb dL_law_302 ?_
  refine va_sld hx hb hX hbl hbA hS i1 dL_law_303 ?_
  refine goG (va_runV (As := [.int (xs (nI i + (1 : Int32)).toNatClampNeg)]) (rest := []) ⟨hx, hb, hml, hown, hts⟩ (c_X4_push l D cI cC cS B G (xs (nI i + (1 : Int32)).toNatClampNeg) (RG_HI h) _) (cwV 1 hts gL_law_X4_push rfl rfl rfl (by decide +kernel) ⟨Nat.le_of_ble_eq_true rfl, Nat.le_of_ble_eq_true rfl⟩) (preG hK hP hD) rfl rfl hl.1 rfl (lv_room (Nat.le_of_ble_eq_true rfl)) dL_law_304 ⟨Nat.le_of_ble_eq_true rfl, Nat.le_of_ble_eq_true rfl⟩) hP hD hS hA (fun H locs hP hD hS => ?_)
  refine lv_aload_n hx hb dL_law_307 rfl (lv_at hl 2 rfl) ?_
  refine lv_aload_n hx hb dL_law_308 rfl (lv_at hl 0 rfl) ?_
  refine lv_iload_n hx hb dL_law_309 rfl (lv_at hl 3 rfl) ?_
  refine lv_iconst (v := 1) hx hb dL_law_310 (by decide) ?_
  refine lv_iadd hx hb dL_law_311 ?_
  refine va_sld hx hb hX hbl hbA hS i1 dL_law_312 ?_
  refine goM (va_runV (As := [.int (xs (nI i + (1 : Int32)).toNatClampNeg)]) (rest := [.int (r_X4_push G (xs (nI i + (1 : Int32)).toNatClampNeg))]) ⟨hx, hb, hml, hown, hts⟩ (c_X5_push l D cI cC cS md M (xs (nI i + (1 : Int32)).toNatClampNeg) (RG_HL h) (RG_MI h).2.2 _) (cwV 1 hts gL_law_X5_push rfl rfl rfl (by decide +kernel) ⟨Nat.le_of_ble_eq_true rfl, Nat.le_of_ble_eq_true rfl⟩) (preM hK hP hD) rfl rfl hl.1 rfl (lv_room (Nat.le_of_ble_eq_true rfl)) dL_law_313 ⟨Nat.le_of_ble_eq_true rfl, Nat.le_of_ble_eq_true rfl⟩) hP hD hS hA (fun H locs hP hD hS => ?_)
  have X := X_push h (xs (nI i + (1 : Int32)).toNatClampNeg)
  exact lv_icmp_eq (tgt := 605) hx hb dL_law_316 (by decide) (fun _ => K _ _ _ _ X.2 hP hD hS) (fun q => absurd X.1 q)
set_option maxHeartbeats 4000000 in
set_option maxRecDepth 100000 in
theorem lawc_5 (C0 : LC p s m c b L xs D cI cC cS) (hL : L ≤ 2048) (hi : i + 4 ≤ L) (h : RG G M) (hP : va_P D vwCl (gpW cI cC cS B G ++ mdW cI md M) H) (hD : va_D (LA s) (gpW cI cC cS B G ++ mdW cI md M)) (hS : va_S (LA s) s.heap H locs) (hl : lv_has ls 4 [(0, .ref b), (1, .ref (B 0 3 0)), (2, .ref (md 0)), (3, .int (nI i))])
    (K : ∀ (G' : Nat → Nat → CS) (M' : CS) (H : Heap) (locs : List Loc), RG G' M' → va_P D vwCl (gpW cI cC cS B G' ++ mdW cI md M') H → va_D (LA s) (gpW cI cC cS B G' ++ mdW cI md M') → va_S (LA s) s.heap H locs → W p l e room_1 s m #[Value.ref b] below meth c H locs 600000 7302250 Qz (F0 m 605 ls [])) : W p l e room_1 s m #[Value.ref b] below meth c H locs 600000 7302250 Qz (F0 m 321 ls []) := by
  obtain ⟨hx, hb, hml, hown, hts, hX, hbl, hK⟩ := C0
  have hA : ∀ q : Nat, s.heap.size ≤ q → LA s q := fun _ h => h
  have hbA : ¬ LA s b := Nat.not_le.mpr hbl
  refine lv_aload_n hx hb dL_law_321 rfl (lv_at hl 1 rfl) ?_
  refine goG (va_runV (As := []) (rest := []) ⟨hx, hb, hml, hown, hts⟩ (c_X4_pushAll l D cI cC cS B G  (RG_HI h) _) (cwV 0 hts gL_law_X4_pushAll rfl rfl rfl (by decide +kernel) ⟨Nat.le_of_ble_eq_true rfl, Nat.le_of_ble_eq_true rfl⟩) (preG hK hP hD) rfl rfl hl.1 rfl (lv_room (Nat.le_of_ble_eq_true rfl)) dL_law_322 ⟨Nat.le_of_ble_eq_true rfl, Nat.le_of_ble_eq_true rfl⟩) hP hD hS hA (fun H locs hP hD hS => ?_)
  refine lv_aload_n hx hb dL_law_325 rfl (lv_at hl 2 rfl) ?_
  refine goM (va_runV (As := []) (rest := [.int (r_X4_pushAll G)]) ⟨hx, hb, hml, hown, hts⟩ (c_X5_pushAll l D cI cC cS md M  (RG_HL h) (RG_60 h).2 (RG_MI h) _) (cwV 0 hts gL_law_X5_pushAll rfl rfl rfl (by decide +kernel) ⟨Nat.le_of_ble_eq_true rfl, Nat.le_of_ble_eq_true rfl⟩) (preM hK hP hD) rfl rfl hl.1 rfl (lv_room (Nat.le_of_ble_eq_true rfl)) dL_law_326 ⟨Nat.le_of_ble_eq_true rfl, Nat.le_of_ble_eq_true rfl⟩) hP hD hS hA (fun H locs hP hD hS => ?_)
  have X := X_pushAll h
  exact lv_icmp_eq (tgt := 605) hx hb dL_law_329 (by decide) (fun _ => K _ _ _ _ X.2 hP hD hS) (fun q => absurd X.1 q)
set_option maxHeartbeats 4000000 in
set_option maxRecDepth 100000 in
theorem lawc_6 (C0 : LC p s m c b L xs D cI cC cS) (hL : L ≤ 2048) (hi : i + 4 ≤ L) (h : RG G M) (hP : va_P D vwCl (gpW cI cC cS B G ++ mdW cI md M) H) (hD : va_D (LA s) (gpW cI cC cS B G ++ mdW cI md M)) (hS : va_S (LA s) s.heap H locs) (hl : lv_has ls 4 [(0, .ref b), (1, .ref (B 0 3 0)), (2, .ref (md 0)), (3, .int (nI i))])
    (K : ∀ (G' : Nat → Nat → CS) (M' : CS) (H : Heap) (locs : List Loc), RG G' M' → va_P D vwCl (gpW cI cC cS B G' ++ mdW cI md M') H → va_D (LA s) (gpW cI cC cS B G' ++ mdW cI md M') → va_S (LA s) s.heap H locs → W p l e room_1 s m #[Value.ref b] below meth c H locs 600000 7302250 Qz (F0 m 605 ls [])) : W p l e room_1 s m #[Value.ref b] below meth c H locs 600000 7302250 Qz (F0 m 334 ls []) := by
  obtain ⟨hx, hb, hml, hown, hts, hX, hbl, hK⟩ := C0
  have hA : ∀ q : Nat, s.heap.size ≤ q → LA s q := fun _ h => h
  have hbA : ¬ LA s b := Nat.not_le.mpr hbl
  have i1 : vp_in (nI i + (1 : Int32)) L := ixk (k := 1) hL hi (by decide)
  refine lv_aload_n hx hb dL_law_334 rfl (lv_at hl 1 rfl) ?_
  refine lv_aload_n hx hb dL_law_335 rfl (lv_at hl 0 rfl) ?_
  refine lv_iload_n hx hb dL_law_336 rfl (lv_at hl 3 rfl) ?_
  refine lv_iconst (v := 1) hx hb dL_law_337 (by decide) ?_
  refine lv_iadd hx hb dL_law_338 ?_
  refine va_sld hx hb hX hbl hbA hS i1 dL_law_339 ?_
  refine goG (va_runV (As := [.int (xs (nI i + (1 : Int32)).toNatClampNeg)]) (rest := []) ⟨hx, hb, hml, hown, hts⟩ (c_X4_pass l D cI cC cS B G (xs (nI i + (1 : Int32)).toNatClampNeg) (RG_HI h) _) (cwV 1 hts gL_law_X4_pass rfl rfl rfl (by decide +kernel) ⟨Nat.le_of_ble_eq_true rfl, Nat.le_of_ble_eq_true rfl⟩) (preG hK hP hD) rfl rfl hl.1 rfl (lv_room (Nat.le_of_ble_eq_true rfl)) dL_law_340 ⟨Nat.le_of_ble_eq_true rfl, Nat.le_of_ble_eq_true rfl⟩) hP hD hS hA (fun H locs hP hD hS => ?_)
  refine lv_aload_n hx hb dL_law_343 rfl (lv_at hl 2 rfl) ?_
  refine lv_aload_n hx hb dL_law_344 rfl (lv_at hl 0 rfl) ?_
  refine lv_iload_n hx hb dL_law_345 rfl (lv_at hl 3 rfl) ?_
  refine lv_iconst (v := 1) hx hb dL_law_346 (by decide) ?_
  refine lv_iadd hx hb dL_law_347 ?_
  refine va_sld hx hb hX hbl hbA hS i1 dL_law_348 ?_
  refine goM (va_runV (As := [.int (xs (nI i + (1 : Int32)).toNatClampNeg)]) (rest := [.int (r_X4_pass G (xs (nI i + (1 : Int32)).toNatClampNeg))]) ⟨hx, hb, hml, hown, hts⟩ (c_X5_pass l D cI cC cS md M (xs (nI i + (1 : Int32)).toNatClampNeg) (RG_HL h) (RG_MI h) _) (cwV 1 hts gL_law_X5_pass rfl rfl rfl (by decide +kernel) ⟨Nat.le_of_ble_eq_true rfl, Nat.le_of_ble_eq_true rfl⟩) (preM hK hP hD) rfl rfl hl.1 rfl (lv_room (Nat.le_of_ble_eq_true rfl)) dL_law_349 ⟨Nat.le_of_ble_eq_true rfl, Nat.le_of_ble_eq_true rfl⟩) hP hD hS hA (fun H locs hP hD hS => ?_)
  have X := X_pass h (xs (nI i + (1 : Int32)).toNatClampNeg)
  exact lv_icmp_eq (tgt := 605) hx hb dL_law_352 (by decide) (fun _ => K _ _ _ _ X.2 hP hD hS) (fun q => absurd X.1 q)
set_option maxHeartbeats 4000000 in
set_option maxRecDepth 100000 in
theorem lawc_7 (C0 : LC p s m c b L xs D cI cC cS) (hL : L ≤ 2048) (hi : i + 4 ≤ L) (h : RG G M) (hP : va_P D vwCl (gpW cI cC cS B G ++ mdW cI md M) H) (hD : va_D (LA s) (gpW cI cC cS B G ++ mdW cI md M)) (hS : va_S (LA s) s.heap H locs) (hl : lv_has ls 4 [(0, .ref b), (1, .ref (B 0 3 0)), (2, .ref (md 0)), (3, .int (nI i))])
    (K : ∀ (G' : Nat → Nat → CS) (M' : CS) (H : Heap) (locs : List Loc), RG G' M' → va_P D vwCl (gpW cI cC cS B G' ++ mdW cI md M') H → va_D (LA s) (gpW cI cC cS B G' ++ mdW cI md M') → va_S (LA s) s.heap H locs → W p l e room_1 s m #[Value.ref b] below meth c H locs 600000 7302250 Qz (F0 m 605 ls [])) : W p l e room_1 s m #[Value.ref b] below meth c H locs 600000 7302250 Qz (F0 m 357 ls []) := by
  obtain ⟨hx, hb, hml, hown, hts, hX, hbl, hK⟩ := C0
  have hA : ∀ q : Nat, s.heap.size ≤ q → LA s q := fun _ h => h
  have hbA : ¬ LA s b := Nat.not_le.mpr hbl
  have i1 : vp_in (nI i + (1 : Int32)) L := ixk (k := 1) hL hi (by decide)
  refine lv_aload_n hx hb dL_law_357 rfl (lv_at hl 1 rfl) ?_
  refine lv_aload_n hx hb dL_law_358 rfl (lv_at hl 0 rfl) ?_
  refine lv_iload_n hx hb dL_law_359 rfl (lv_at hl 3 rfl) ?_
  refine lv_iconst (v := 1) hx hb dL_law_360 (by decide) ?_
  refine lv_iadd hx hb dL_law_361 ?_
  refine va_sld hx hb hX hbl hbA hS i1 dL_law_362 ?_
  refine lv_i2c hx hb dL_law_363 rfl ?_
  refine goG (va_runV (As := [.int ((xs (nI i + (1 : Int32)).toNatClampNeg).toUInt32 % 65536).toInt32]) (rest := []) ⟨hx, hb, hml, hown, hts⟩ (c_X4_type l D cI cC cS B G ((xs (nI i + (1 : Int32)).toNatClampNeg).toUInt32 % 65536).toInt32  _) (cwV 1 hts gL_law_X4_type rfl rfl rfl (by decide +kernel) ⟨Nat.le_of_ble_eq_true rfl, Nat.le_of_ble_eq_true rfl⟩) (preG hK hP hD) rfl rfl hl.1 rfl (lv_room (Nat.le_of_ble_eq_true rfl)) dL_law_364 ⟨Nat.le_of_ble_eq_true rfl, Nat.le_of_ble_eq_true rfl⟩) hP hD hS hA (fun H locs hP hD hS => ?_)
  refine lv_aload_n hx hb dL_law_367 rfl (lv_at hl 2 rfl) ?_
  refine lv_aload_n hx hb dL_law_368 rfl (lv_at hl 0 rfl) ?_
  refine lv_iload_n hx hb dL_law_369 rfl (lv_at hl 3 rfl) ?_
  refine lv_iconst (v := 1) hx hb dL_law_370 (by decide) ?_
  refine lv_iadd hx hb dL_law_371 ?_
  refine va_sld hx hb hX hbl hbA hS i1 dL_law_372 ?_
  refine lv_i2c hx hb dL_law_373 rfl ?_
  refine goM (va_runV (As := [.int ((xs (nI i + (1 : Int32)).toNatClampNeg).toUInt32 % 65536).toInt32]) (rest := [.int (r_X4_type G ((xs (nI i + (1 : Int32)).toNatClampNeg).toUInt32 % 65536).toInt32)]) ⟨hx, hb, hml, hown, hts⟩ (c_X5_type l D cI cC cS md M ((xs (nI i + (1 : Int32)).toNatClampNeg).toUInt32 % 65536).toInt32 (RG_60 h) _) (cwV 1 hts gL_law_X5_type rfl rfl rfl (by decide +kernel) ⟨Nat.le_of_ble_eq_true rfl, Nat.le_of_ble_eq_true rfl⟩) (preM hK hP hD) rfl rfl hl.1 rfl (lv_room (Nat.le_of_ble_eq_true rfl)) dL_law_374 ⟨Nat.le_of_ble_eq_true rfl, Nat.le_of_ble_eq_true rfl⟩) hP hD hS hA (fun H locs hP hD hS => ?_)
  have X := X_type h (pk_vc (xs (nI i + (1 : Int32)).toNatClampNeg))
  exact lv_icmp_eq (tgt := 605) hx hb dL_law_377 (by decide) (fun _ => K _ _ _ _ X.2 hP hD hS) (fun q => absurd X.1 q)
set_option maxHeartbeats 4000000 in
set_option maxRecDepth 100000 in
theorem lawc_8 (C0 : LC p s m c b L xs D cI cC cS) (hL : L ≤ 2048) (hi : i + 4 ≤ L) (h : RG G M) (hP : va_P D vwCl (gpW cI cC cS B G ++ mdW cI md M) H) (hD : va_D (LA s) (gpW cI cC cS B G ++ mdW cI md M)) (hS : va_S (LA s) s.heap H locs) (hl : lv_has ls 4 [(0, .ref b), (1, .ref (B 0 3 0)), (2, .ref (md 0)), (3, .int (nI i))])
    (K : ∀ (G' : Nat → Nat → CS) (M' : CS) (H : Heap) (locs : List Loc), RG G' M' → va_P D vwCl (gpW cI cC cS B G' ++ mdW cI md M') H → va_D (LA s) (gpW cI cC cS B G' ++ mdW cI md M') → va_S (LA s) s.heap H locs → W p l e room_1 s m #[Value.ref b] below meth c H locs 600000 7302250 Qz (F0 m 605 ls [])) : W p l e room_1 s m #[Value.ref b] below meth c H locs 600000 7302250 Qz (F0 m 382 ls []) := by
  obtain ⟨hx, hb, hml, hown, hts, hX, hbl, hK⟩ := C0
  have hA : ∀ q : Nat, s.heap.size ≤ q → LA s q := fun _ h => h
  have hbA : ¬ LA s b := Nat.not_le.mpr hbl
  refine lv_aload_n hx hb dL_law_382 rfl (lv_at hl 1 rfl) ?_
  refine goG (va_runV (As := []) (rest := []) ⟨hx, hb, hml, hown, hts⟩ (c_X4_clearText l D cI cC cS B G   _) (cwV 0 hts gL_law_X4_clearText rfl rfl rfl (by decide +kernel) ⟨Nat.le_of_ble_eq_true rfl, Nat.le_of_ble_eq_true rfl⟩) (preG hK hP hD) rfl rfl hl.1 rfl (lv_room (Nat.le_of_ble_eq_true rfl)) dL_law_383 ⟨Nat.le_of_ble_eq_true rfl, Nat.le_of_ble_eq_true rfl⟩) hP hD hS hA (fun H locs hP hD hS => ?_)
  refine lv_aload_n hx hb dL_law_386 rfl (lv_at hl 2 rfl) ?_
  refine goM (va_runV (As := []) (rest := [.int (r_X4_clearText G)]) ⟨hx, hb, hml, hown, hts⟩ (c_X5_clearText l D cI cC cS md M   _) (cwV 0 hts gL_law_X5_clearText rfl rfl rfl (by decide +kernel) ⟨Nat.le_of_ble_eq_true rfl, Nat.le_of_ble_eq_true rfl⟩) (preM hK hP hD) rfl rfl hl.1 rfl (lv_room (Nat.le_of_ble_eq_true rfl)) dL_law_387 ⟨Nat.le_of_ble_eq_true rfl, Nat.le_of_ble_eq_true rfl⟩) hP hD hS hA (fun H locs hP hD hS => ?_)
  have X := X_clearText h
  exact lv_icmp_eq (tgt := 605) hx hb dL_law_390 (by decide) (fun _ => K _ _ _ _ X.2 hP hD hS) (fun q => absurd X.1 q)
set_option maxHeartbeats 4000000 in
set_option maxRecDepth 100000 in
theorem lawc_9 (C0 : LC p s m c b L xs D cI cC cS) (hL : L ≤ 2048) (hi : i + 4 ≤ L) (h : RG G M) (hP : va_P D vwCl (gpW cI cC cS B G ++ mdW cI md M) H) (hD : va_D (LA s) (gpW cI cC cS B G ++ mdW cI md M)) (hS : va_S (LA s) s.heap H locs) (hl : lv_has ls 4 [(0, .ref b), (1, .ref (B 0 3 0)), (2, .ref (md 0)), (3, .int (nI i))])
    (K : ∀ (G' : Nat → Nat → CS) (M' : CS) (H : Heap) (locs : List Loc), RG G' M' → va_P D vwCl (gpW cI cC cS B G' ++ mdW cI md M') H → va_D (LA s) (gpW cI cC cS B G' ++ mdW cI md M') → va_S (LA s) s.heap H locs → W p l e room_1 s m #[Value.ref b] below meth c H locs 600000 7302250 Qz (F0 m 605 ls [])) : W p l e room_1 s m #[Value.ref b] below meth c H locs 600000 7302250 Qz (F0 m 395 ls []) := by
  obtain ⟨hx, hb, hml, hown, hts, hX, hbl, hK⟩ := C0
  have hA : ∀ q : Nat, s.heap.size ≤ q → LA s q := fun _ h => h
  have hbA : ¬ LA s b := Nat.not_le.mpr hbl
  refine lv_aload_n hx hb dL_law_395 rfl (lv_at hl 1 rfl) ?_
  refine goG (va_runV (As := []) (rest := []) ⟨hx, hb, hml, hown, hts⟩ (c_X4_undo l D cI cC cS B G  (RG_HI h) _) (cwV 0 hts gL_law_X4_undo rfl rfl rfl (by decide +kernel) ⟨Nat.le_of_ble_eq_true rfl, Nat.le_of_ble_eq_true rfl⟩) (preG hK hP hD) rfl rfl hl.1 rfl (lv_room (Nat.le_of_ble_eq_true rfl)) dL_law_396 ⟨Nat.le_of_ble_eq_true rfl, Nat.le_of_ble_eq_true rfl⟩) hP hD hS hA (fun H locs hP hD hS => ?_)
  refine lv_aload_n hx hb dL_law_399 rfl (lv_at hl 2 rfl) ?_
  refine goM (va_runV (As := []) (rest := [.int (r_X4_undo G)]) ⟨hx, hb, hml, hown, hts⟩ (c_X5_undo l D cI cC cS md M  (RG_HL h) _) (cwV 0 hts gL_law_X5_undo rfl rfl rfl (by decide +kernel) ⟨Nat.le_of_ble_eq_true rfl, Nat.le_of_ble_eq_true rfl⟩) (preM hK hP hD) rfl rfl hl.1 rfl (lv_room (Nat.le_of_ble_eq_true rfl)) dL_law_400 ⟨Nat.le_of_ble_eq_true rfl, Nat.le_of_ble_eq_true rfl⟩) hP hD hS hA (fun H locs hP hD hS => ?_)
  have X := X_undo h
  exact lv_icmp_eq (tgt := 605) hx hb dL_law_403 (by decide) (fun _ => K _ _ _ _ X.2 hP hD hS) (fun q => absurd X.1 q)
set_option maxHeartbeats 4000000 in
set_option maxRecDepth 100000 in
theorem lawc_10 (C0 : LC p s m c b L xs D cI cC cS) (hL : L ≤ 2048) (hi : i + 4 ≤ L) (h : RG G M) (hP : va_P D vwCl (gpW cI cC cS B G ++ mdW cI md M) H) (hD : va_D (LA s) (gpW cI cC cS B G ++ mdW cI md M)) (hS : va_S (LA s) s.heap H locs) (hl : lv_has ls 4 [(0, .ref b), (1, .ref (B 0 3 0)), (2, .ref (md 0)), (3, .int (nI i))])
    (K : ∀ (G' : Nat → Nat → CS) (M' : CS) (H : Heap) (locs : List Loc), RG G' M' → va_P D vwCl (gpW cI cC cS B G' ++ mdW cI md M') H → va_D (LA s) (gpW cI cC cS B G' ++ mdW cI md M') → va_S (LA s) s.heap H locs → W p l e room_1 s m #[Value.ref b] below meth c H locs 600000 7302250 Qz (F0 m 605 ls [])) : W p l e room_1 s m #[Value.ref b] below meth c H locs 600000 7302250 Qz (F0 m 408 ls []) := by
  obtain ⟨hx, hb, hml, hown, hts, hX, hbl, hK⟩ := C0
  have hA : ∀ q : Nat, s.heap.size ≤ q → LA s q := fun _ h => h
  have hbA : ¬ LA s b := Nat.not_le.mpr hbl
  refine lv_aload_n hx hb dL_law_408 rfl (lv_at hl 1 rfl) ?_
  refine goG (va_runV (As := []) (rest := []) ⟨hx, hb, hml, hown, hts⟩ (c_X4_keep l D cI cC cS B G   _) (cwV 0 hts gL_law_X4_keep rfl rfl rfl (by decide +kernel) ⟨Nat.le_of_ble_eq_true rfl, Nat.le_of_ble_eq_true rfl⟩) (preG hK hP hD) rfl rfl hl.1 rfl (lv_room (Nat.le_of_ble_eq_true rfl)) dL_law_409 ⟨Nat.le_of_ble_eq_true rfl, Nat.le_of_ble_eq_true rfl⟩) hP hD hS hA (fun H locs hP hD hS => ?_)
  refine lv_aload_n hx hb dL_law_412 rfl (lv_at hl 2 rfl) ?_
  refine goM (va_runV (As := []) (rest := [.int (r_X4_keep G)]) ⟨hx, hb, hml, hown, hts⟩ (c_X5_keep l D cI cC cS md M   _) (cwV 0 hts gL_law_X5_keep rfl rfl rfl (by decide +kernel) ⟨Nat.le_of_ble_eq_true rfl, Nat.le_of_ble_eq_true rfl⟩) (preM hK hP hD) rfl rfl hl.1 rfl (lv_room (Nat.le_of_ble_eq_true rfl)) dL_law_413 ⟨Nat.le_of_ble_eq_true rfl, Nat.le_of_ble_eq_true rfl⟩) hP hD hS hA (fun H locs hP hD hS => ?_)
  have X := X_keep h
  exact lv_icmp_eq (tgt := 605) hx hb dL_law_416 (by decide) (fun _ => K _ _ _ _ X.2 hP hD hS) (fun q => absurd X.1 q)
set_option maxHeartbeats 4000000 in
set_option maxRecDepth 100000 in
theorem lawc_11 (C0 : LC p s m c b L xs D cI cC cS) (hL : L ≤ 2048) (hi : i + 4 ≤ L) (h : RG G M) (hP : va_P D vwCl (gpW cI cC cS B G ++ mdW cI md M) H) (hD : va_D (LA s) (gpW cI cC cS B G ++ mdW cI md M)) (hS : va_S (LA s) s.heap H locs) (hl : lv_has ls 4 [(0, .ref b), (1, .ref (B 0 3 0)), (2, .ref (md 0)), (3, .int (nI i))])
    (K : ∀ (G' : Nat → Nat → CS) (M' : CS) (H : Heap) (locs : List Loc), RG G' M' → va_P D vwCl (gpW cI cC cS B G' ++ mdW cI md M') H → va_D (LA s) (gpW cI cC cS B G' ++ mdW cI md M') → va_S (LA s) s.heap H locs → W p l e room_1 s m #[Value.ref b] below meth c H locs 600000 7302250 Qz (F0 m 605 ls [])) : W p l e room_1 s m #[Value.ref b] below meth c H locs 600000 7302250 Qz (F0 m 421 ls []) := by
  obtain ⟨hx, hb, hml, hown, hts, hX, hbl, hK⟩ := C0
  have hA : ∀ q : Nat, s.heap.size ≤ q → LA s q := fun _ h => h
  have hbA : ¬ LA s b := Nat.not_le.mpr hbl
  refine lv_aload_n hx hb dL_law_421 rfl (lv_at hl 1 rfl) ?_
  refine goG (va_runV (As := []) (rest := []) ⟨hx, hb, hml, hown, hts⟩ (c_X4_restore l D cI cC cS B G  (RG_HI h) _) (cwV 0 hts gL_law_X4_restore rfl rfl rfl (by decide +kernel) ⟨Nat.le_of_ble_eq_true rfl, Nat.le_of_ble_eq_true rfl⟩) (preG hK hP hD) rfl rfl hl.1 rfl (lv_room (Nat.le_of_ble_eq_true rfl)) dL_law_422 ⟨Nat.le_of_ble_eq_true rfl, Nat.le_of_ble_eq_true rfl⟩) hP hD hS hA (fun H locs hP hD hS => ?_)
  refine lv_aload_n hx hb dL_law_425 rfl (lv_at hl 2 rfl) ?_
  refine goM (va_runV (As := []) (rest := [.int (r_X4_restore G)]) ⟨hx, hb, hml, hown, hts⟩ (c_X5_restore l D cI cC cS md M  (RG_HL h) _) (cwV 0 hts gL_law_X5_restore rfl rfl rfl (by decide +kernel) ⟨Nat.le_of_ble_eq_true rfl, Nat.le_of_ble_eq_true rfl⟩) (preM hK hP hD) rfl rfl hl.1 rfl (lv_room (Nat.le_of_ble_eq_true rfl)) dL_law_426 ⟨Nat.le_of_ble_eq_true rfl, Nat.le_of_ble_eq_true rfl⟩) hP hD hS hA (fun H locs hP hD hS => ?_)
  have X := X_restore h
  exact lv_icmp_eq (tgt := 605) hx hb dL_law_429 (by decide) (fun _ => K _ _ _ _ X.2 hP hD hS) (fun q => absurd X.1 q)
set_option maxHeartbeats 4000000 in
set_option maxRecDepth 100000 in
theorem lawc_12 (C0 : LC p s m c b L xs D cI cC cS) (hL : L ≤ 2048) (hi : i + 4 ≤ L) (h : RG G M) (hP : va_P D vwCl (gpW cI cC cS B G ++ mdW cI md M) H) (hD : va_D (LA s) (gpW cI cC cS B G ++ mdW cI md M)) (hS : va_S (LA s) s.heap H locs) (hl : lv_has ls 4 [(0, .ref b), (1, .ref (B 0 3 0)), (2, .ref (md 0)), (3, .int (nI i))])
    (K : ∀ (G' : Nat → Nat → CS) (M' : CS) (H : Heap) (locs : List Loc), RG G' M' → va_P D vwCl (gpW cI cC cS B G' ++ mdW cI md M') H → va_D (LA s) (gpW cI cC cS B G' ++ mdW cI md M') → va_S (LA s) s.heap H locs → W p l e room_1 s m #[Value.ref b] below meth c H locs 600000 7302250 Qz (F0 m 605 ls [])) : W p l e room_1 s m #[Value.ref b] below meth c H locs 600000 7302250 Qz (F0 m 434 ls []) := by
  obtain ⟨hx, hb, hml, hown, hts, hX, hbl, hK⟩ := C0
  have hA : ∀ q : Nat, s.heap.size ≤ q → LA s q := fun _ h => h
  have hbA : ¬ LA s b := Nat.not_le.mpr hbl
  have i1 : vp_in (nI i + (1 : Int32)) L := ixk (k := 1) hL hi (by decide)
  have i2 : vp_in (nI i + (2 : Int32)) L := ixk (k := 2) hL hi (by decide)
  refine lv_aload_n hx hb dL_law_434 rfl (lv_at hl 1 rfl) ?_
  refine lv_aload_n hx hb dL_law_435 rfl (lv_at hl 0 rfl) ?_
  refine lv_iload_n hx hb dL_law_436 rfl (lv_at hl 3 rfl) ?_
  refine lv_iconst (v := 1) hx hb dL_law_437 (by decide) ?_
  refine lv_iadd hx hb dL_law_438 ?_
  refine va_sld hx hb hX hbl hbA hS i1 dL_law_439 ?_
  refine lv_aload_n hx hb dL_law_440 rfl (lv_at hl 0 rfl) ?_
  refine lv_iload_n hx hb dL_law_441 rfl (lv_at hl 3 rfl) ?_
  refine lv_iconst (v := 2) hx hb dL_law_442 (by decide) ?_
  refine lv_iadd hx hb dL_law_443 ?_
  refine va_sld hx hb hX hbl hbA hS i2 dL_law_444 ?_
  refine goG (va_runV (As := [.int (xs (nI i + (1 : Int32)).toNatClampNeg), .int (xs (nI i + (2 : Int32)).toNatClampNeg)]) (rest := []) ⟨hx, hb, hml, hown, hts⟩ (c_X4_side l D cI cC cS B G (xs (nI i + (1 : Int32)).toNatClampNeg) (xs (nI i + (2 : Int32)).toNatClampNeg)  _) (cwV 2 hts gL_law_X4_side rfl rfl rfl (by decide +kernel) ⟨Nat.le_of_ble_eq_true rfl, Nat.le_of_ble_eq_true rfl⟩) (preG hK hP hD) rfl rfl hl.1 rfl (lv_room (Nat.le_of_ble_eq_true rfl)) dL_law_445 ⟨Nat.le_of_ble_eq_true rfl, Nat.le_of_ble_eq_true rfl⟩) hP hD hS hA (fun H locs hP hD hS => ?_)
  refine lv_aload_n hx hb dL_law_448 rfl (lv_at hl 2 rfl) ?_
  refine lv_aload_n hx hb dL_law_449 rfl (lv_at hl 0 rfl) ?_
  refine lv_iload_n hx hb dL_law_450 rfl (lv_at hl 3 rfl) ?_
  refine lv_iconst (v := 1) hx hb dL_law_451 (by decide) ?_
  refine lv_iadd hx hb dL_law_452 ?_
  refine va_sld hx hb hX hbl hbA hS i1 dL_law_453 ?_
  refine lv_aload_n hx hb dL_law_454 rfl (lv_at hl 0 rfl) ?_
  refine lv_iload_n hx hb dL_law_455 rfl (lv_at hl 3 rfl) ?_
  refine lv_iconst (v := 2) hx hb dL_law_456 (by decide) ?_
  refine lv_iadd hx hb dL_law_457 ?_
  refine va_sld hx hb hX hbl hbA hS i2 dL_law_458 ?_
  refine goM (va_runV (As := [.int (xs (nI i + (1 : Int32)).toNatClampNeg), .int (xs (nI i + (2 : Int32)).toNatClampNeg)]) (rest := [.int (r_X4_side G (xs (nI i + (1 : Int32)).toNatClampNeg) (xs (nI i + (2 : Int32)).toNatClampNeg))]) ⟨hx, hb, hml, hown, hts⟩ (c_X5_side l D cI cC cS md M (xs (nI i + (1 : Int32)).toNatClampNeg) (xs (nI i + (2 : Int32)).toNatClampNeg) (RG_MI h).2.1 _) (cwV 2 hts gL_law_X5_side rfl rfl rfl (by decide +kernel) ⟨Nat.le_of_ble_eq_true rfl, Nat.le_of_ble_eq_true rfl⟩) (preM hK hP hD) rfl rfl hl.1 rfl (lv_room (Nat.le_of_ble_eq_true rfl)) dL_law_459 ⟨Nat.le_of_ble_eq_true rfl, Nat.le_of_ble_eq_true rfl⟩) hP hD hS hA (fun H locs hP hD hS => ?_)
  have X := X_side h (xs (nI i + (1 : Int32)).toNatClampNeg) (xs (nI i + (2 : Int32)).toNatClampNeg)
  exact lv_icmp_eq (tgt := 605) hx hb dL_law_462 (by decide) (fun _ => K _ _ _ _ h hP hD hS) (fun q => absurd X q)
set_option maxHeartbeats 4000000 in
set_option maxRecDepth 100000 in
theorem lawc_13 (C0 : LC p s m c b L xs D cI cC cS) (hL : L ≤ 2048) (hi : i + 4 ≤ L) (h : RG G M) (hP : va_P D vwCl (gpW cI cC cS B G ++ mdW cI md M) H) (hD : va_D (LA s) (gpW cI cC cS B G ++ mdW cI md M)) (hS : va_S (LA s) s.heap H locs) (hl : lv_has ls 4 [(0, .ref b), (1, .ref (B 0 3 0)), (2, .ref (md 0)), (3, .int (nI i))])
    (K : ∀ (G' : Nat → Nat → CS) (M' : CS) (H : Heap) (locs : List Loc), RG G' M' → va_P D vwCl (gpW cI cC cS B G' ++ mdW cI md M') H → va_D (LA s) (gpW cI cC cS B G' ++ mdW cI md M') → va_S (LA s) s.heap H locs → W p l e room_1 s m #[Value.ref b] below meth c H locs 600000 7302250 Qz (F0 m 605 ls [])) : W p l e room_1 s m #[Value.ref b] below meth c H locs 600000 7302250 Qz (F0 m 467 ls []) := by
  obtain ⟨hx, hb, hml, hown, hts, hX, hbl, hK⟩ := C0
  have hA : ∀ q : Nat, s.heap.size ≤ q → LA s q := fun _ h => h
  have hbA : ¬ LA s b := Nat.not_le.mpr hbl
  have i1 : vp_in (nI i + (1 : Int32)) L := ixk (k := 1) hL hi (by decide)
  have i2 : vp_in (nI i + (2 : Int32)) L := ixk (k := 2) hL hi (by decide)
  refine lv_aload_n hx hb dL_law_467 rfl (lv_at hl 1 rfl) ?_
  refine lv_aload_n hx hb dL_law_468 rfl (lv_at hl 0 rfl) ?_
  refine lv_iload_n hx hb dL_law_469 rfl (lv_at hl 3 rfl) ?_
  refine lv_iconst (v := 1) hx hb dL_law_470 (by decide) ?_
  refine lv_iadd hx hb dL_law_471 ?_
  refine va_sld hx hb hX hbl hbA hS i1 dL_law_472 ?_
  refine lv_aload_n hx hb dL_law_473 rfl (lv_at hl 0 rfl) ?_
  refine lv_iload_n hx hb dL_law_474 rfl (lv_at hl 3 rfl) ?_
  refine lv_iconst (v := 2) hx hb dL_law_475 (by decide) ?_
  refine lv_iadd hx hb dL_law_476 ?_
  refine va_sld hx hb hX hbl hbA hS i2 dL_law_477 ?_
  refine goG (va_runV (As := [.int (xs (nI i + (1 : Int32)).toNatClampNeg), .int (xs (nI i + (2 : Int32)).toNatClampNeg)]) (rest := []) ⟨hx, hb, hml, hown, hts⟩ (c_X4_place l D cI cC cS B G (xs (nI i + (1 : Int32)).toNatClampNeg) (xs (nI i + (2 : Int32)).toNatClampNeg)  _) (cwV 2 hts gL_law_X4_place rfl rfl rfl (by decide +kernel) ⟨Nat.le_of_ble_eq_true rfl, Nat.le_of_ble_eq_true rfl⟩) (preG hK hP hD) rfl rfl hl.1 rfl (lv_room (Nat.le_of_ble_eq_true rfl)) dL_law_478 ⟨Nat.le_of_ble_eq_true rfl, Nat.le_of_ble_eq_true rfl⟩) hP hD hS hA (fun H locs hP hD hS => ?_)
  refine lv_aload_n hx hb dL_law_481 rfl (lv_at hl 2 rfl) ?_
  refine lv_aload_n hx hb dL_law_482 rfl (lv_at hl 0 rfl) ?_
  refine lv_iload_n hx hb dL_law_483 rfl (lv_at hl 3 rfl) ?_
  refine lv_iconst (v := 1) hx hb dL_law_484 (by decide) ?_
  refine lv_iadd hx hb dL_law_485 ?_
  refine va_sld hx hb hX hbl hbA hS i1 dL_law_486 ?_
  refine lv_aload_n hx hb dL_law_487 rfl (lv_at hl 0 rfl) ?_
  refine lv_iload_n hx hb dL_law_488 rfl (lv_at hl 3 rfl) ?_
  refine lv_iconst (v := 2) hx hb dL_law_489 (by decide) ?_
  refine lv_iadd hx hb dL_law_490 ?_
  refine va_sld hx hb hX hbl hbA hS i2 dL_law_491 ?_
  refine goM (va_runV (As := [.int (xs (nI i + (1 : Int32)).toNatClampNeg), .int (xs (nI i + (2 : Int32)).toNatClampNeg)]) (rest := [.int (r_X4_place G (xs (nI i + (1 : Int32)).toNatClampNeg) (xs (nI i + (2 : Int32)).toNatClampNeg))]) ⟨hx, hb, hml, hown, hts⟩ (c_X5_place l D cI cC cS md M (xs (nI i + (1 : Int32)).toNatClampNeg) (xs (nI i + (2 : Int32)).toNatClampNeg) (RG_MI h).1 _) (cwV 2 hts gL_law_X5_place rfl rfl rfl (by decide +kernel) ⟨Nat.le_of_ble_eq_true rfl, Nat.le_of_ble_eq_true rfl⟩) (preM hK hP hD) rfl rfl hl.1 rfl (lv_room (Nat.le_of_ble_eq_true rfl)) dL_law_492 ⟨Nat.le_of_ble_eq_true rfl, Nat.le_of_ble_eq_true rfl⟩) hP hD hS hA (fun H locs hP hD hS => ?_)
  have X := X_place h (xs (nI i + (1 : Int32)).toNatClampNeg) (xs (nI i + (2 : Int32)).toNatClampNeg)
  exact lv_icmp_eq (tgt := 605) hx hb dL_law_495 (by decide) (fun _ => K _ _ _ _ h hP hD hS) (fun q => absurd X q)
set_option maxHeartbeats 4000000 in
set_option maxRecDepth 100000 in
theorem lawc_14 (C0 : LC p s m c b L xs D cI cC cS) (hL : L ≤ 2048) (hi : i + 4 ≤ L) (h : RG G M) (hP : va_P D vwCl (gpW cI cC cS B G ++ mdW cI md M) H) (hD : va_D (LA s) (gpW cI cC cS B G ++ mdW cI md M)) (hS : va_S (LA s) s.heap H locs) (hl : lv_has ls 4 [(0, .ref b), (1, .ref (B 0 3 0)), (2, .ref (md 0)), (3, .int (nI i))])
    (K : ∀ (G' : Nat → Nat → CS) (M' : CS) (H : Heap) (locs : List Loc), RG G' M' → va_P D vwCl (gpW cI cC cS B G' ++ mdW cI md M') H → va_D (LA s) (gpW cI cC cS B G' ++ mdW cI md M') → va_S (LA s) s.heap H locs → W p l e room_1 s m #[Value.ref b] below meth c H locs 600000 7302250 Qz (F0 m 605 ls [])) : W p l e room_1 s m #[Value.ref b] below meth c H locs 600000 7302250 Qz (F0 m 500 ls []) := by
  obtain ⟨hx, hb, hml, hown, hts, hX, hbl, hK⟩ := C0
  have hA : ∀ q : Nat, s.heap.size ≤ q → LA s q := fun _ h => h
  have hbA : ¬ LA s b := Nat.not_le.mpr hbl
  have i1 : vp_in (nI i + (1 : Int32)) L := ixk (k := 1) hL hi (by decide)
  refine lv_aload_n hx hb dL_law_500 rfl (lv_at hl 1 rfl) ?_
  refine lv_aload_n hx hb dL_law_501 rfl (lv_at hl 0 rfl) ?_
  refine lv_iload_n hx hb dL_law_502 rfl (lv_at hl 3 rfl) ?_
  refine lv_iconst (v := 1) hx hb dL_law_503 (by decide) ?_
  refine lv_iadd hx hb dL_law_504 ?_
  refine va_sld hx hb hX hbl hbA hS i1 dL_law_505 ?_
  refine goG (va_runV (As := [.int (xs (nI i + (1 : Int32)).toNatClampNeg)]) (rest := []) ⟨hx, hb, hml, hown, hts⟩ (c_X4_waiting l D cI cC cS B G (xs (nI i + (1 : Int32)).toNatClampNeg)  _) (cwV 1 hts gL_law_X4_waiting rfl rfl rfl (by decide +kernel) ⟨Nat.le_of_ble_eq_true rfl, Nat.le_of_ble_eq_true rfl⟩) (preG hK hP hD) rfl rfl hl.1 rfl (lv_room (Nat.le_of_ble_eq_true rfl)) dL_law_506 ⟨Nat.le_of_ble_eq_true rfl, Nat.le_of_ble_eq_true rfl⟩) hP hD hS hA (fun H locs hP hD hS => ?_)
  refine lv_aload_n hx hb dL_law_509 rfl (lv_at hl 2 rfl) ?_
  refine lv_aload_n hx hb dL_law_510 rfl (lv_at hl 0 rfl) ?_
  refine lv_iload_n hx hb dL_law_511 rfl (lv_at hl 3 rfl) ?_
  refine lv_iconst (v := 1) hx hb dL_law_512 (by decide) ?_
  refine lv_iadd hx hb dL_law_513 ?_
  refine va_sld hx hb hX hbl hbA hS i1 dL_law_514 ?_
  refine goM (va_runV (As := [.int (xs (nI i + (1 : Int32)).toNatClampNeg)]) (rest := [.int (r_X4_waiting G (xs (nI i + (1 : Int32)).toNatClampNeg))]) ⟨hx, hb, hml, hown, hts⟩ (c_X5_waiting l D cI cC cS md M (xs (nI i + (1 : Int32)).toNatClampNeg) (RG_MI h).2.2.2 _) (cwV 1 hts gL_law_X5_waiting rfl rfl rfl (by decide +kernel) ⟨Nat.le_of_ble_eq_true rfl, Nat.le_of_ble_eq_true rfl⟩) (preM hK hP hD) rfl rfl hl.1 rfl (lv_room (Nat.le_of_ble_eq_true rfl)) dL_law_515 ⟨Nat.le_of_ble_eq_true rfl, Nat.le_of_ble_eq_true rfl⟩) hP hD hS hA (fun H locs hP hD hS => ?_)
  have X := X_waiting h (xs (nI i + (1 : Int32)).toNatClampNeg)
  exact lv_icmp_eq (tgt := 605) hx hb dL_law_518 (by decide) (fun _ => K _ _ _ _ h hP hD hS) (fun q => absurd X q)
set_option maxHeartbeats 4000000 in
set_option maxRecDepth 100000 in
theorem lawc_15 (C0 : LC p s m c b L xs D cI cC cS) (hL : L ≤ 2048) (hi : i + 4 ≤ L) (h : RG G M) (hP : va_P D vwCl (gpW cI cC cS B G ++ mdW cI md M) H) (hD : va_D (LA s) (gpW cI cC cS B G ++ mdW cI md M)) (hS : va_S (LA s) s.heap H locs) (hl : lv_has ls 4 [(0, .ref b), (1, .ref (B 0 3 0)), (2, .ref (md 0)), (3, .int (nI i))])
    (K : ∀ (G' : Nat → Nat → CS) (M' : CS) (H : Heap) (locs : List Loc), RG G' M' → va_P D vwCl (gpW cI cC cS B G' ++ mdW cI md M') H → va_D (LA s) (gpW cI cC cS B G' ++ mdW cI md M') → va_S (LA s) s.heap H locs → W p l e room_1 s m #[Value.ref b] below meth c H locs 600000 7302250 Qz (F0 m 605 ls [])) : W p l e room_1 s m #[Value.ref b] below meth c H locs 600000 7302250 Qz (F0 m 523 ls []) := by
  obtain ⟨hx, hb, hml, hown, hts, hX, hbl, hK⟩ := C0
  have hA : ∀ q : Nat, s.heap.size ≤ q → LA s q := fun _ h => h
  have hbA : ¬ LA s b := Nat.not_le.mpr hbl
  have i1 : vp_in (nI i + (1 : Int32)) L := ixk (k := 1) hL hi (by decide)
  refine lv_aload_n hx hb dL_law_523 rfl (lv_at hl 1 rfl) ?_
  refine lv_aload_n hx hb dL_law_524 rfl (lv_at hl 0 rfl) ?_
  refine lv_iload_n hx hb dL_law_525 rfl (lv_at hl 3 rfl) ?_
  refine lv_iconst (v := 1) hx hb dL_law_526 (by decide) ?_
  refine lv_iadd hx hb dL_law_527 ?_
  refine va_sld hx hb hX hbl hbA hS i1 dL_law_528 ?_
  refine goG (va_runV (As := [.int (xs (nI i + (1 : Int32)).toNatClampNeg)]) (rest := []) ⟨hx, hb, hml, hown, hts⟩ (c_X4_taken l D cI cC cS B G (xs (nI i + (1 : Int32)).toNatClampNeg)  _) (cwV 1 hts gL_law_X4_taken rfl rfl rfl (by decide +kernel) ⟨Nat.le_of_ble_eq_true rfl, Nat.le_of_ble_eq_true rfl⟩) (preG hK hP hD) rfl rfl hl.1 rfl (lv_room (Nat.le_of_ble_eq_true rfl)) dL_law_529 ⟨Nat.le_of_ble_eq_true rfl, Nat.le_of_ble_eq_true rfl⟩) hP hD hS hA (fun H locs hP hD hS => ?_)
  refine lv_aload_n hx hb dL_law_532 rfl (lv_at hl 2 rfl) ?_
  refine lv_aload_n hx hb dL_law_533 rfl (lv_at hl 0 rfl) ?_
  refine lv_iload_n hx hb dL_law_534 rfl (lv_at hl 3 rfl) ?_
  refine lv_iconst (v := 1) hx hb dL_law_535 (by decide) ?_
  refine lv_iadd hx hb dL_law_536 ?_
  refine va_sld hx hb hX hbl hbA hS i1 dL_law_537 ?_
  refine goM (va_runV (As := [.int (xs (nI i + (1 : Int32)).toNatClampNeg)]) (rest := [.int (r_X4_taken G (xs (nI i + (1 : Int32)).toNatClampNeg))]) ⟨hx, hb, hml, hown, hts⟩ (c_X5_taken l D cI cC cS md M (xs (nI i + (1 : Int32)).toNatClampNeg) (RG_16 h) _) (cwV 1 hts gL_law_X5_taken rfl rfl rfl (by decide +kernel) ⟨Nat.le_of_ble_eq_true rfl, Nat.le_of_ble_eq_true rfl⟩) (preM hK hP hD) rfl rfl hl.1 rfl (lv_room (Nat.le_of_ble_eq_true rfl)) dL_law_538 ⟨Nat.le_of_ble_eq_true rfl, Nat.le_of_ble_eq_true rfl⟩) hP hD hS hA (fun H locs hP hD hS => ?_)
  have X := X_taken h (xs (nI i + (1 : Int32)).toNatClampNeg)
  exact lv_icmp_eq (tgt := 605) hx hb dL_law_541 (by decide) (fun _ => K _ _ _ _ h hP hD hS) (fun q => absurd X q)
set_option maxHeartbeats 4000000 in
set_option maxRecDepth 100000 in
theorem lawc_16 (C0 : LC p s m c b L xs D cI cC cS) (hL : L ≤ 2048) (hi : i + 4 ≤ L) (h : RG G M) (hP : va_P D vwCl (gpW cI cC cS B G ++ mdW cI md M) H) (hD : va_D (LA s) (gpW cI cC cS B G ++ mdW cI md M)) (hS : va_S (LA s) s.heap H locs) (hl : lv_has ls 4 [(0, .ref b), (1, .ref (B 0 3 0)), (2, .ref (md 0)), (3, .int (nI i))])
    (K : ∀ (G' : Nat → Nat → CS) (M' : CS) (H : Heap) (locs : List Loc), RG G' M' → va_P D vwCl (gpW cI cC cS B G' ++ mdW cI md M') H → va_D (LA s) (gpW cI cC cS B G' ++ mdW cI md M') → va_S (LA s) s.heap H locs → W p l e room_1 s m #[Value.ref b] below meth c H locs 600000 7302250 Qz (F0 m 605 ls [])) : W p l e room_1 s m #[Value.ref b] below meth c H locs 600000 7302250 Qz (F0 m 546 ls []) := by
  obtain ⟨hx, hb, hml, hown, hts, hX, hbl, hK⟩ := C0
  have hA : ∀ q : Nat, s.heap.size ≤ q → LA s q := fun _ h => h
  have hbA : ¬ LA s b := Nat.not_le.mpr hbl
  refine lv_aload_n hx hb dL_law_546 rfl (lv_at hl 1 rfl) ?_
  refine goG (va_runV (As := []) (rest := []) ⟨hx, hb, hml, hown, hts⟩ (c_X4_doneIn l D cI cC cS B G   _) (cwV 0 hts gL_law_X4_doneIn rfl rfl rfl (by decide +kernel) ⟨Nat.le_of_ble_eq_true rfl, Nat.le_of_ble_eq_true rfl⟩) (preG hK hP hD) rfl rfl hl.1 rfl (lv_room (Nat.le_of_ble_eq_true rfl)) dL_law_547 ⟨Nat.le_of_ble_eq_true rfl, Nat.le_of_ble_eq_true rfl⟩) hP hD hS hA (fun H locs hP hD hS => ?_)
  refine lv_aload_n hx hb dL_law_550 rfl (lv_at hl 2 rfl) ?_
  refine goM (va_runV (As := []) (rest := [.int (r_X4_doneIn G)]) ⟨hx, hb, hml, hown, hts⟩ (c_X5_doneIn l D cI cC cS md M  (RG_MI h) _) (cwV 0 hts gL_law_X5_doneIn rfl rfl rfl (by decide +kernel) ⟨Nat.le_of_ble_eq_true rfl, Nat.le_of_ble_eq_true rfl⟩) (preM hK hP hD) rfl rfl hl.1 rfl (lv_room (Nat.le_of_ble_eq_true rfl)) dL_law_551 ⟨Nat.le_of_ble_eq_true rfl, Nat.le_of_ble_eq_true rfl⟩) hP hD hS hA (fun H locs hP hD hS => ?_)
  have X := X_doneIn h
  exact lv_icmp_eq (tgt := 605) hx hb dL_law_554 (by decide) (fun _ => K _ _ _ _ X.2 hP hD hS) (fun q => absurd X.1 q)
set_option maxHeartbeats 4000000 in
set_option maxRecDepth 100000 in
theorem lawc_17 (C0 : LC p s m c b L xs D cI cC cS) (hL : L ≤ 2048) (hi : i + 4 ≤ L) (h : RG G M) (hP : va_P D vwCl (gpW cI cC cS B G ++ mdW cI md M) H) (hD : va_D (LA s) (gpW cI cC cS B G ++ mdW cI md M)) (hS : va_S (LA s) s.heap H locs) (hl : lv_has ls 4 [(0, .ref b), (1, .ref (B 0 3 0)), (2, .ref (md 0)), (3, .int (nI i))])
    (K : ∀ (G' : Nat → Nat → CS) (M' : CS) (H : Heap) (locs : List Loc), RG G' M' → va_P D vwCl (gpW cI cC cS B G' ++ mdW cI md M') H → va_D (LA s) (gpW cI cC cS B G' ++ mdW cI md M') → va_S (LA s) s.heap H locs → W p l e room_1 s m #[Value.ref b] below meth c H locs 600000 7302250 Qz (F0 m 605 ls [])) : W p l e room_1 s m #[Value.ref b] below meth c H locs 600000 7302250 Qz (F0 m 559 ls []) := by
  obtain ⟨hx, hb, hml, hown, hts, hX, hbl, hK⟩ := C0
  have hA : ∀ q : Nat, s.heap.size ≤ q → LA s q := fun _ h => h
  have hbA : ¬ LA s b := Nat.not_le.mpr hbl
  have i1 : vp_in (nI i + (1 : Int32)) L := ixk (k := 1) hL hi (by decide)
  refine lv_aload_n hx hb dL_law_559 rfl (lv_at hl 1 rfl) ?_
  refine lv_aload_n hx hb dL_law_560 rfl (lv_at hl 0 rfl) ?_
  refine lv_iload_n hx hb dL_law_561 rfl (lv_at hl 3 rfl) ?_
  refine lv_iconst (v := 1) hx hb dL_law_562 (by decide) ?_
  refine lv_iadd hx hb dL_law_563 ?_
  refine va_sld hx hb hX hbl hbA hS i1 dL_law_564 ?_
  refine goG (va_runV (As := [.int (xs (nI i + (1 : Int32)).toNatClampNeg)]) (rest := []) ⟨hx, hb, hml, hown, hts⟩ (c_X4_leastDepth l D cI cC cS B G (xs (nI i + (1 : Int32)).toNatClampNeg)  _) (cwV 1 hts gL_law_X4_leastDepth rfl rfl rfl (by decide +kernel) ⟨Nat.le_of_ble_eq_true rfl, Nat.le_of_ble_eq_true rfl⟩) (preG hK hP hD) rfl rfl hl.1 rfl (lv_room (Nat.le_of_ble_eq_true rfl)) dL_law_565 ⟨Nat.le_of_ble_eq_true rfl, Nat.le_of_ble_eq_true rfl⟩) hP hD hS hA (fun H locs hP hD hS => ?_)
  refine lv_aload_n hx hb dL_law_568 rfl (lv_at hl 2 rfl) ?_
  refine lv_aload_n hx hb dL_law_569 rfl (lv_at hl 0 rfl) ?_
  refine lv_iload_n hx hb dL_law_570 rfl (lv_at hl 3 rfl) ?_
  refine lv_iconst (v := 1) hx hb dL_law_571 (by decide) ?_
  refine lv_iadd hx hb dL_law_572 ?_
  refine va_sld hx hb hX hbl hbA hS i1 dL_law_573 ?_
  refine goM (va_runV (As := [.int (xs (nI i + (1 : Int32)).toNatClampNeg)]) (rest := [.int (r_X4_leastDepth G (xs (nI i + (1 : Int32)).toNatClampNeg))]) ⟨hx, hb, hml, hown, hts⟩ (c_X5_leastDepth l D cI cC cS md M (xs (nI i + (1 : Int32)).toNatClampNeg) (RG_MI h) _) (cwV 1 hts gL_law_X5_leastDepth rfl rfl rfl (by decide +kernel) ⟨Nat.le_of_ble_eq_true rfl, Nat.le_of_ble_eq_true rfl⟩) (preM hK hP hD) rfl rfl hl.1 rfl (lv_room (Nat.le_of_ble_eq_true rfl)) dL_law_574 ⟨Nat.le_of_ble_eq_true rfl, Nat.le_of_ble_eq_true rfl⟩) hP hD hS hA (fun H locs hP hD hS => ?_)
  have X := X_leastDepth h (xs (nI i + (1 : Int32)).toNatClampNeg)
  exact lv_icmp_eq (tgt := 605) hx hb dL_law_577 (by decide) (fun _ => K _ _ _ _ X.2 hP hD hS) (fun q => absurd X.1 q)
set_option maxHeartbeats 4000000 in
set_option maxRecDepth 100000 in
theorem lawc_18 (C0 : LC p s m c b L xs D cI cC cS) (hL : L ≤ 2048) (hi : i + 4 ≤ L) (h : RG G M) (hP : va_P D vwCl (gpW cI cC cS B G ++ mdW cI md M) H) (hD : va_D (LA s) (gpW cI cC cS B G ++ mdW cI md M)) (hS : va_S (LA s) s.heap H locs) (hl : lv_has ls 4 [(0, .ref b), (1, .ref (B 0 3 0)), (2, .ref (md 0)), (3, .int (nI i))])
    (K : ∀ (G' : Nat → Nat → CS) (M' : CS) (H : Heap) (locs : List Loc), RG G' M' → va_P D vwCl (gpW cI cC cS B G' ++ mdW cI md M') H → va_D (LA s) (gpW cI cC cS B G' ++ mdW cI md M') → va_S (LA s) s.heap H locs → W p l e room_1 s m #[Value.ref b] below meth c H locs 600000 7302250 Qz (F0 m 605 ls [])) : W p l e room_1 s m #[Value.ref b] below meth c H locs 600000 7302250 Qz (F0 m 582 ls []) := by
  obtain ⟨hx, hb, hml, hown, hts, hX, hbl, hK⟩ := C0
  have hA : ∀ q : Nat, s.heap.size ≤ q → LA s q := fun _ h => h
  have hbA : ¬ LA s b := Nat.not_le.mpr hbl
  have i1 : vp_in (nI i + (1 : Int32)) L := ixk (k := 1) hL hi (by decide)
  refine lv_aload_n hx hb dL_law_582 rfl (lv_at hl 1 rfl) ?_
  refine lv_aload_n hx hb dL_law_583 rfl (lv_at hl 0 rfl) ?_
  refine lv_iload_n hx hb dL_law_584 rfl (lv_at hl 3 rfl) ?_
  refine lv_iconst (v := 1) hx hb dL_law_585 (by decide) ?_
  refine lv_iadd hx hb dL_law_586 ?_
  refine va_sld hx hb hX hbl hbA hS i1 dL_law_587 ?_
  refine goG (va_runV (As := [.int (xs (nI i + (1 : Int32)).toNatClampNeg)]) (rest := []) ⟨hx, hb, hml, hown, hts⟩ (c_X4_count l D cI cC cS B G (xs (nI i + (1 : Int32)).toNatClampNeg)  _) (cwV 1 hts gL_law_X4_count rfl rfl rfl (by decide +kernel) ⟨Nat.le_of_ble_eq_true rfl, Nat.le_of_ble_eq_true rfl⟩) (preG hK hP hD) rfl rfl hl.1 rfl (lv_room (Nat.le_of_ble_eq_true rfl)) dL_law_588 ⟨Nat.le_of_ble_eq_true rfl, Nat.le_of_ble_eq_true rfl⟩) hP hD hS hA (fun H locs hP hD hS => ?_)
  refine lv_aload_n hx hb dL_law_591 rfl (lv_at hl 2 rfl) ?_
  refine lv_aload_n hx hb dL_law_592 rfl (lv_at hl 0 rfl) ?_
  refine lv_iload_n hx hb dL_law_593 rfl (lv_at hl 3 rfl) ?_
  refine lv_iconst (v := 1) hx hb dL_law_594 (by decide) ?_
  refine lv_iadd hx hb dL_law_595 ?_
  refine va_sld hx hb hX hbl hbA hS i1 dL_law_596 ?_
  refine goM (va_runV (As := [.int (xs (nI i + (1 : Int32)).toNatClampNeg)]) (rest := [.int (r_X4_count G (xs (nI i + (1 : Int32)).toNatClampNeg))]) ⟨hx, hb, hml, hown, hts⟩ (c_X5_count l D cI cC cS md M (xs (nI i + (1 : Int32)).toNatClampNeg)  _) (cwV 1 hts gL_law_X5_count rfl rfl rfl (by decide +kernel) ⟨Nat.le_of_ble_eq_true rfl, Nat.le_of_ble_eq_true rfl⟩) (preM hK hP hD) rfl rfl hl.1 rfl (lv_room (Nat.le_of_ble_eq_true rfl)) dL_law_597 ⟨Nat.le_of_ble_eq_true rfl, Nat.le_of_ble_eq_true rfl⟩) hP hD hS hA (fun H locs hP hD hS => ?_)
  have X := X_count h (xs (nI i + (1 : Int32)).toNatClampNeg)
  exact lv_icmp_eq (tgt := 605) hx hb dL_law_600 (by decide) (fun _ => K _ _ _ _ h hP hD hS) (fun q => absurd X q)
end LAW
