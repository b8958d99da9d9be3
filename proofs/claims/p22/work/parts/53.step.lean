/-! one unit of time, in closed form -/
def t1S (S : CS) : CS := va_up S 0 (upd (S 0) 2 (S 0 2 + 1))
def wtS (S : CS) : Int32 := r_X1_ticksAt (S 1) (S 0 2 + 1)
def rtS (S : CS) : Int32 := r_X1_ticksAt (S 2) (S 0 2 + 1)
def waS (S : CS) : Int32 := if wtS S = 0 then 0 else if S 0 10 ≤ 0 then 0 else if r_X2_seemsFull (t1S S) = 0 then 1 else 0
def raS (S : CS) : Int32 := if rtS S = 0 then 0 else if r_X2_seemsEmpty (t1S S) = 0 then 1 else 0
def toR (S : CS) : Int32 := if waS S = 0 then r_X2_codeOf (t1S S) (t1S S 1 3) else r_X2_codeOf (t1S S) (r_X2_around (t1S S) (t1S S 1 3 + 1))
def toW (S : CS) : Int32 := if raS S = 0 then r_X2_codeOf (t1S S) (t1S S 2 3) else r_X2_codeOf (t1S S) (r_X2_around (t1S S) (t1S S 2 3 + 1))
def kW (S : CS) : CS := if wtS S = 0 then t1S S else va_up (t1S S) 1 (p_X1_tick (t1S S 1) (r_X2_codeOf (t1S S) (t1S S 2 3)) (toW S))
def kR (S : CS) : CS := if rtS S = 0 then kW S else va_up (kW S) 2 (p_X1_tick (kW S 2) (r_X2_codeOf (t1S S) (t1S S 1 3)) (toR S))
def kT (S : CS) : CS := if raS S = 0 then kR S else p_X2_takeWord (kR S)
def kP (S : CS) : CS := if waS S = 0 then kT S else p_X2_putWord (kT S)
theorem step_eq (S : CS) : p_X2_step S = kP S := by
  unfold p_X2_step kP kT kR kW toR toW waS raS wtS rtS t1S
  dsimp only
  by_cases h1 : r_X1_ticksAt (S 1) (S 0 2 + 1) = 0 <;> by_cases h2 : r_X1_ticksAt (S 2) (S 0 2 + 1) = 0 <;> by_cases h3 : S 0 10 ≤ 0 <;> by_cases h4 : r_X2_seemsFull (va_up S 0 (upd (S 0) 2 (S 0 2 + 1))) = 0 <;> simp only [h1, h2, h3, h4, if_true, if_false, ite_self, if_pos, if_neg, not_true_eq_false, not_false_eq_true]
theorem wa_bit (S : CS) : waS S = 0 ∨ waS S = 1 := by
  unfold waS
  repeat' split
  all_goals first | exact Or.inl rfl | exact Or.inr rfl
theorem ra_bit (S : CS) : raS S = 0 ∨ raS S = 1 := by
  unfold raS
  repeat' split
  all_goals first | exact Or.inl rfl | exact Or.inr rfl
theorem and15 (t : Nat) (h : t < 2 ^ 32) : nI t &&& (15 : Int32) = nI (t % 16) := pk_andN h 4 (by decide)
def tkS (S : CS) (q : Nat) (x : Int32) (u : Nat) (p' : Int32) : CS := va_up (va_up (va_up S 0 (upd (upd (S 0) 13 (S 0 13 + 1)) 14 (S 0 14 + (if x = 0 then 0 else 1)))) 6 (upd (S 6) u (if x = 0 then S 3 q + 100 else S 3 q))) 2 (upd (S 2) 3 p')
theorem takeWord_at {S : CS} {k p q t : Nat} {p' : Int32} (hk : S 0 0 = nI k) (hp : S 2 3 = nI p) (hq : nI p &&& (dpt k - 1) = nI q) (hq6 : q < 16) (he : (nI p + 1) &&& msk k = p') (ht : S 0 13 = nI t) (ht3 : t < 2 ^ 32) : p_X2_takeWord S = tkS S q (if S 4 q = S 0 13 then 1 else 0) (t % 16) p' := by
  have hd : r_X2_placeOf S (S 2 3) = nI q := by unfold r_X2_placeOf r_X2_depth; rw [hp, hk]; exact hq
  unfold p_X2_takeWord
  rw [hd, valueAt_in (by decide) hq6, valueAt_in (by decide) hq6]
  have h15 : S 0 13 &&& (15 : Int32) = nI (t % 16) := by rw [ht]; exact and15 t ht3
  have hs : ∀ v, p_X4_setAt (S 6) (nI (t % 16)) v 16 = upd (S 6) (t % 16) v := fun v => setAt_in (n := 16) (by decide) (Nat.mod_lt _ (by decide))
  rw [h15]
  dsimp only
  rw [hs]
  have hr : ∀ f g, f 0 = S 0 0 → va_up (va_up (va_up S 0 f) 6 g) 2 (upd (va_up (va_up S 0 f) 6 g 2) 3 (r_X2_around (va_up (va_up S 0 f) 6 g) (va_up (va_up S 0 f) 6 g 2 3 + 1))) = va_up (va_up (va_up S 0 f) 6 g) 2 (upd (S 2) 3 p') := by
    intro f g hf
    rw [around2 (k := k) (by rw [va_up_n (by decide), va_up_s, hf]; exact hk), show va_up (va_up S 0 f) 6 g 2 = S 2 by rw [va_up_n (by decide), va_up_n (by decide)], hp, he]
  unfold tkS
  by_cases c : (if S 4 q = S 0 13 then (1 : Int32) else 0) = 0
  · rw [if_pos c, if_pos c, if_pos c, hr (upd (S 0) 13 (S 0 13 + 1)) _ rfl]
    have e : upd (S 0) 13 (S 0 13 + 1) = upd (upd (S 0) 13 (S 0 13 + 1)) 14 (S 0 14 + 0) := by
      funext j
      by_cases j8 : j = 14
      · subst j8; rw [fu_s, Int32.add_zero, fu_n (by decide)]
      · rw [fu_n j8]
    rw [← e]
  · rw [if_neg c, if_neg c, if_neg c, hr (upd (upd (S 0) 13 (S 0 13 + 1)) 14 (S 0 14 + 1)) _ rfl]
theorem putWord_at {S : CS} {k p q w : Nat} {p' : Int32} (hk : S 0 0 = nI k) (hp : S 1 3 = nI p) (hq : nI p &&& (dpt k - 1) = nI q) (hq6 : q < 16) (he : (nI p + 1) &&& msk k = p') (hw : S 0 10 = nI (w + 1)) (hw9 : w ≤ 19) :
    p_X2_putWord S = va_up (va_up (va_up (va_up (va_up S 0 (upd (upd (S 0) 12 (S 0 12 + 1)) 10 (nI w))) 3 (upd (S 3) q (S 5 0))) 4 (upd (S 4) q (S 0 12))) 5 (fun j => if j < w then S 5 (j + 1) else S 5 j)) 1 (upd (S 1) 3 p') := by
  have hd : r_X2_placeOf S (S 1 3) = nI q := by unfold r_X2_placeOf r_X2_depth; rw [hp, hk]; exact hq
  unfold p_X2_putWord
  rw [hd, show (0 : Int32) = nI 0 from rfl, valueAt_in (by decide) (by decide), setAt_in (by decide) hq6, setAt_in (by decide) hq6, hw, nI_pred w]
  dsimp only
  have h10 : va_up (va_up (va_up S 0 (upd (upd (S 0) 12 (S 0 12 + 1)) 10 (nI w))) 3 (upd (S 3) q (S 5 0))) 4 (upd (S 4) q (S 0 12)) 0 10 = nI w := rfl
  rw [h10, p62_at hw9 _ 0 _ h10 (by rw [nI_toInt (by omega)]; have : (nI 0).toInt = 0 := by decide
                                    omega) (Nat.zero_le _)]
  have b1 : (fun j => if 0 ≤ j ∧ j < w then va_up (va_up (va_up S 0 (upd (upd (S 0) 12 (S 0 12 + 1)) 10 (nI w))) 3 (upd (S 3) q (S 5 0))) 4 (upd (S 4) q (S 0 12)) 5 (j + 1) else va_up (va_up (va_up S 0 (upd (upd (S 0) 12 (S 0 12 + 1)) 10 (nI w))) 3 (upd (S 3) q (S 5 0))) 4 (upd (S 4) q (S 0 12)) 5 j) = (fun j => if j < w then S 5 (j + 1) else S 5 j) := by
    funext j
    by_cases c : j < w
    · rw [if_pos c, if_pos ⟨Nat.zero_le _, c⟩]; rfl
    · rw [if_neg c, if_neg (fun z => c z.2)]; rfl
  rw [b1]
  dsimp only
  rw [around2 (k := k) (by rw [va_up_n (by decide), va_up_n (by decide), va_up_n (by decide), va_up_s, fu_n (by decide), fu_n (by decide)]; exact hk)]
  have b2 : va_up (va_up (va_up (va_up S 0 (upd (upd (S 0) 12 (S 0 12 + 1)) 10 (nI w))) 3 (upd (S 3) q (S 5 0))) 4 (upd (S 4) q (S 0 12))) 5 (fun j => if j < w then S 5 (j + 1) else S 5 j) 1 = S 1 := rfl
  rw [b2, hp, he]
theorem tick_at (w : F1) (x y : Int32) : p_X1_tick w x y = upd (upd (upd (upd w 6 (w 6 + 1)) 7 (w 7 + (if (x ^^^ y) = 0 then 0 else 1))) 5 (w 4)) 4 (x ^^^ ((x ^^^ y) &&& (170 : Int32))) := by
  unfold p_X1_tick
  dsimp only
  by_cases c : (x ^^^ y) = 0
  · rw [if_pos c, if_pos c]
    funext j
    by_cases j4 : j = 4
    · subst j4; rw [fu_s, fu_s]
    · rw [fu_n j4, fu_n j4]
      by_cases j5 : j = 5
      · subst j5; rw [fu_s, fu_s, fu_n (by decide)]
      · rw [fu_n j5, fu_n j5]
        by_cases j7 : j = 7
        · subst j7; rw [fu_s, fu_n (by decide), Int32.add_zero]
        · rw [fu_n j7]
  · rw [if_neg c, if_neg c]
    funext j
    by_cases j4 : j = 4
    · subst j4; rw [fu_s, fu_s]
    · rw [fu_n j4, fu_n j4]
      by_cases j5 : j = 5
      · subst j5; rw [fu_s, fu_s, fu_n (by decide), fu_n (by decide)]
      · rw [fu_n j5, fu_n j5]
theorem tick_3 (w : F1) (x y : Int32) : p_X1_tick w x y 3 = w 3 := by rw [tick_at]; rfl
/-- the sides behind their ticks -/
def sW (S : CS) : F1 := if wtS S = 0 then S 1 else p_X1_tick (S 1) (r_X2_codeOf S (S 2 3)) (toW S)
def sR (S : CS) : F1 := if rtS S = 0 then S 2 else p_X1_tick (S 2) (r_X2_codeOf S (S 1 3)) (toR S)
def i1 (x : Int32) : Nat := if x = 0 then 0 else 1
theorem i1_0 {x : Int32} (h : x = 0) : i1 x = 0 := if_pos h
theorem i1_1 {x : Int32} (h : ¬ x = 0) : i1 x = 1 := if_neg h
theorem kR_f (S : CS) : kR S 1 = sW S ∧ kR S 2 = sR S ∧ ∀ i, i ≠ 1 → i ≠ 2 → kR S i = t1S S i := by
  have w1 : kW S 1 = sW S ∧ ∀ i, i ≠ 1 → kW S i = t1S S i := by
    unfold kW sW
    by_cases c : wtS S = 0
    · rw [if_pos c, if_pos c]; exact ⟨rfl, fun _ _ => rfl⟩
    · rw [if_neg c, if_neg c]; exact ⟨rfl, fun i hi => va_up_n hi⟩
  obtain ⟨w1, w2⟩ := w1
  unfold kR sR
  by_cases c : rtS S = 0
  · rw [if_pos c, if_pos c]; exact ⟨w1, w2 2 (by decide), fun i h1 _ => w2 i h1⟩
  · rw [if_neg c, if_neg c]
    refine ⟨(va_up_n (by decide)).trans w1, ?_, fun i h1 h2 => (va_up_n h2).trans (w2 i h1)⟩
    rw [va_up_s, w2 2 (by decide)]; rfl
theorem sW_3 (S : CS) : sW S 3 = S 1 3 := by
  unfold sW
  by_cases c : wtS S = 0
  · rw [if_pos c]
  · rw [if_neg c, tick_3]
theorem sR_3 (S : CS) : sR S 3 = S 2 3 := by
  unfold sR
  by_cases c : rtS S = 0
  · rw [if_pos c]
  · rw [if_neg c, tick_3]
theorem q16 {k c : Nat} (hk : 1 ≤ k ∧ k ≤ 4) : c % 2 ^ k < 16 := by
  have h1 : c % 2 ^ k < 2 ^ k := Nat.mod_lt _ pw_0
  have h2 := pkk hk
  omega
theorem take_f {K : CS} {k T : Nat} (hk : 1 ≤ k ∧ k ≤ 4) (h0 : K 0 0 = nI k) (hp : K 2 3 = nI (T % 2 ^ (k + 1))) (ht : K 0 13 = nI T) (hT : T < 2 ^ 31) : p_X2_takeWord K = tkS K (T % 2 ^ k) (if K 4 (T % 2 ^ k) = nI T then 1 else 0) (T % 16) (nI ((T + 1) % 2 ^ (k + 1))) := by
  obtain ⟨c1, c2, -⟩ := chk1 hk (ml (k := k) (c := T))
  rw [md_s] at c1
  rw [md_d] at c2
  rw [takeWord_at h0 hp c2 (q16 hk) c1 ht (by omega), ht]
theorem kT_f {S K : CS} {k T : Nat} (hk : 1 ≤ k ∧ k ≤ 4) (hK : K = kR S) (h0 : K 0 0 = nI k) (hp : K 2 3 = nI (T % 2 ^ (k + 1))) (ht : K 0 13 = nI T) (hT : T < 2 ^ 31) :
    (∀ j, j ≠ 13 → j ≠ 14 → kT S 0 j = K 0 j) ∧ kT S 0 13 = nI (T + i1 (raS S)) ∧ kT S 0 14 = K 0 14 + (if raS S = 0 then 0 else if K 4 (T % 2 ^ k) = nI T then 1 else 0) ∧ kT S 1 = K 1 ∧ kT S 2 = (if raS S = 0 then K 2 else upd (K 2) 3 (nI ((T + 1) % 2 ^ (k + 1)))) ∧ kT S 3 = K 3 ∧ kT S 4 = K 4 ∧ kT S 5 = K 5 ∧ kT S 6 = (if raS S = 0 then K 6 else upd (K 6) (T % 16) (if K 4 (T % 2 ^ k) = nI T then K 3 (T % 2 ^ k) else K 3 (T % 2 ^ k) + 100)) := by
  unfold kT
  rw [← hK]
  by_cases c : raS S = 0
  · rw [if_pos c, if_pos c, if_pos c, if_pos c, i1_0 c]
    exact ⟨fun _ _ _ => rfl, ht, (Int32.add_zero _).symm, rfl, rfl, rfl, rfl, rfl, rfl⟩
  · rw [if_neg c, if_neg c, if_neg c, if_neg c, i1_1 c]
    rw [take_f hk h0 hp ht hT]
    unfold tkS
    by_cases d : K 4 (T % 2 ^ k) = nI T
    · rw [if_pos d, if_pos d]
      rw [if_neg (show ¬ (1 : Int32) = 0 by decide), if_neg (show ¬ (1 : Int32) = 0 by decide)]
      refine ⟨fun j h1 h2 => ?_, ?_, rfl, rfl, rfl, rfl, rfl, rfl, rfl⟩
      · show upd (upd (K 0) 13 (K 0 13 + 1)) 14 (K 0 14 + 1) j = K 0 j
        rw [fu_n h2, fu_n h1]
      · show K 0 13 + 1 = _
        rw [ht, nI_1]
    · rw [if_neg d, if_neg d]
      rw [if_pos rfl, if_pos rfl]
      refine ⟨fun j h1 h2 => ?_, ?_, rfl, rfl, rfl, rfl, rfl, rfl, rfl⟩
      · show upd (upd (K 0) 13 (K 0 13 + 1)) 14 (K 0 14 + 0) j = K 0 j
        rw [fu_n h2, fu_n h1]
      · show K 0 13 + 1 = _
        rw [ht, nI_1]
theorem kP_f {S Y : CS} {k P wc : Nat} (hk : 1 ≤ k ∧ k ≤ 4) (hY : Y = kT S) (h0 : Y 0 0 = nI k) (hp : Y 1 3 = nI (P % 2 ^ (k + 1))) (hP : Y 0 12 = nI P) (hw : Y 0 10 = nI wc) (hw2 : wc ≤ 20) (ha : ¬ waS S = 0 → 0 < wc) :
    (∀ j, j ≠ 12 → j ≠ 10 → kP S 0 j = Y 0 j) ∧ kP S 0 12 = nI (P + i1 (waS S)) ∧ kP S 0 10 = nI (wc - i1 (waS S)) ∧ kP S 1 = (if waS S = 0 then Y 1 else upd (Y 1) 3 (nI ((P + 1) % 2 ^ (k + 1)))) ∧ kP S 2 = Y 2 ∧ kP S 3 = (if waS S = 0 then Y 3 else upd (Y 3) (P % 2 ^ k) (Y 5 0)) ∧ kP S 4 = (if waS S = 0 then Y 4 else upd (Y 4) (P % 2 ^ k) (nI P)) ∧ kP S 5 = (if waS S = 0 then Y 5 else fun j => if j < wc - 1 then Y 5 (j + 1) else Y 5 j) ∧ kP S 6 = Y 6 := by
  unfold kP
  rw [← hY]
  by_cases c : waS S = 0
  · rw [if_pos c, if_pos c, if_pos c, if_pos c, if_pos c, i1_0 c]
    exact ⟨fun _ _ _ => rfl, hP, hw, rfl, rfl, rfl, rfl, rfl, rfl⟩
  · rw [if_neg c, if_neg c, if_neg c, if_neg c, if_neg c, i1_1 c]
    obtain ⟨w, rfl⟩ : ∃ w, wc = w + 1 := ⟨wc - 1, by have := ha c; omega⟩
    obtain ⟨c1, c2, -⟩ := chk1 hk (ml (k := k) (c := P))
    rw [md_s] at c1
    rw [md_d] at c2
    rw [putWord_at h0 hp c2 (q16 hk) c1 hw (by omega), hP, nI_1]
    refine ⟨fun j h1 h2 => ?_, rfl, rfl, rfl, rfl, rfl, rfl, rfl, rfl⟩
    show upd (upd (Y 0) 12 (nI (P + 1))) 10 (nI w) j = Y 0 j
    rw [fu_n h2, fu_n h1]
theorem wa_w {S : CS} {wc : Nat} (h : S 0 10 = nI wc) (hw : wc ≤ 20) : ¬ waS S = 0 → 0 < wc := by
  intro a
  rcases Nat.eq_zero_or_pos wc with e | e
  · subst e
    exfalso
    apply a
    unfold waS
    rw [h]
    by_cases c : wtS S = 0
    · rw [if_pos c]
    · rw [if_neg c, if_pos (show nI 0 ≤ 0 by decide)]
  · exact e
/-- a step, field by field -/
theorem step_at {S : CS} {k t wc P T : Nat} (h : BS S k t wc P T) :
    (∀ j, j ≠ 2 → j ≠ 10 → j ≠ 12 → j ≠ 13 → j ≠ 14 → p_X2_step S 0 j = S 0 j) ∧ p_X2_step S 0 2 = nI (t + 1) ∧ p_X2_step S 0 10 = nI (wc - i1 (waS S)) ∧ p_X2_step S 0 12 = nI (P + i1 (waS S)) ∧ p_X2_step S 0 13 = nI (T + i1 (raS S)) ∧ p_X2_step S 0 14 = S 0 14 + (if raS S = 0 then 0 else if S 4 (T % 2 ^ k) = nI T then 1 else 0) ∧
    p_X2_step S 1 = (if waS S = 0 then sW S else upd (sW S) 3 (nI ((P + 1) % 2 ^ (k + 1)))) ∧ p_X2_step S 2 = (if raS S = 0 then sR S else upd (sR S) 3 (nI ((T + 1) % 2 ^ (k + 1)))) ∧ p_X2_step S 3 = (if waS S = 0 then S 3 else upd (S 3) (P % 2 ^ k) (S 5 0)) ∧ p_X2_step S 4 = (if waS S = 0 then S 4 else upd (S 4) (P % 2 ^ k) (nI P)) ∧ p_X2_step S 5 = (if waS S = 0 then S 5 else fun j => if j < wc - 1 then S 5 (j + 1) else S 5 j) ∧ p_X2_step S 6 = (if raS S = 0 then S 6 else upd (S 6) (T % 16) (if S 4 (T % 2 ^ k) = nI T then S 3 (T % 2 ^ k) else S 3 (T % 2 ^ k) + 100)) := by
  obtain ⟨hk, hw, ht, hT, ⟨n0, n2, n10, n12, n13⟩, ⟨a3, -⟩, ⟨b3, -⟩⟩ := h
  have ha := wa_w n10 hw
  obtain ⟨r1, r2, r3⟩ := kR_f S
  have z0 : ∀ j, j ≠ 2 → kR S 0 j = S 0 j := fun j hj => by rw [r3 0 (by decide) (by decide)]; show upd (S 0) 2 _ j = _; exact fu_n hj
  have z2 : kR S 0 2 = nI (t + 1) := by rw [r3 0 (by decide) (by decide)]; show S 0 2 + 1 = _; rw [n2, nI_1]
  have y3 : kR S 3 = S 3 := r3 3 (by decide) (by decide)
  have y4 : kR S 4 = S 4 := r3 4 (by decide) (by decide)
  have y5 : kR S 5 = S 5 := r3 5 (by decide) (by decide)
  have y6 : kR S 6 = S 6 := r3 6 (by decide) (by decide)
  obtain ⟨t0, t13, t14, t1, t2, t3, t4, t5, t6⟩ := kT_f (S := S) (T := T) hk rfl ((z0 0 (by decide)).trans n0) (by rw [r2, sR_3]; exact b3) ((z0 13 (by decide)).trans n13) (by omega)
  obtain ⟨p0, p12, p10, p1, p2, p3, p4, p5, p6⟩ := kP_f (S := S) (P := P) (wc := wc) hk rfl ((t0 0 (by decide) (by decide)).trans ((z0 0 (by decide)).trans n0)) (by rw [t1, r1, sW_3]; exact a3) ((t0 12 (by decide) (by decide)).trans ((z0 12 (by decide)).trans n12)) ((t0 10 (by decide) (by decide)).trans ((z0 10 (by decide)).trans n10)) hw ha
  rw [step_eq]
  refine ⟨fun j h2 h10 h12 h13 h14 => ?_, ?_, p10, p12, ?_, ?_, ?_, ?_, ?_, ?_, ?_, ?_⟩
  · rw [p0 j h12 h10, t0 j h13 h14, z0 j h2]
  · rw [p0 2 (by decide) (by decide), t0 2 (by decide) (by decide), z2]
  · rw [p0 13 (by decide) (by decide), t13]
  · rw [p0 14 (by decide) (by decide), t14, z0 14 (by decide), y4]
  · rw [p1, t1, r1]
  · rw [p2, t2, r2]
  · rw [p3, t3, t5, y3, y5]
  · rw [p4, t4, y4]
  · rw [p5, t5, y5]
  · rw [p6, t6, y6, y4, y3]
