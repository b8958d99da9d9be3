/-! the two samples of a unit of time -/
theorem around5 {M : CS} {k : Nat} (h : M 1 0 = nI k) (x : Int32) : r_X5_around M x = x &&& msk k := by
  unfold r_X5_around r_X5_depth msk dpt
  rw [h]
theorem around2 {S : CS} {k : Nat} (h : S 0 0 = nI k) (x : Int32) : r_X2_around S x = x &&& msk k := by
  unfold r_X2_around r_X2_depth msk dpt
  rw [h]
theorem R_k {S M : CS} {k wc t : Nat} (h : R S (M 1) k wc t) : S 0 0 = nI k ∧ M 1 0 = nI k := ⟨h.2.2.1.1, h.2.2.1.2.1⟩
/-- the code of a place lies in the range -/
theorem R_codeIn {S M : CS} {k wc t p : Nat} (h : R S (M 1) k wc t) (hp : p < 2 ^ (k + 1)) : ∃ q, q < 2 ^ (k + 1) ∧ r_X2_codeOf S (nI p) = nI q := by
  rcases (R_code h (nI p)).2 with e | e
  · exact ⟨p, hp, e⟩
  · obtain ⟨e1, e2⟩ := chk_N h.1 hp
    exact ⟨_, e2, e.trans e1⟩
theorem R_codeNe {S M : CS} {k wc t p : Nat} (h : R S (M 1) k wc t) (hp : p < 2 ^ (k + 1)) : ¬ (r_X2_codeOf S (nI p) ^^^ r_X2_codeOf S ((nI p + 1) &&& msk k)) = 0 := by
  have hN := h.2.2.1
  unfold r_X2_codeOf
  rcases nb01 (S 0 1) with e | e
  · rw [e, if_pos rfl, if_pos rfl]; exact chk_P h.1 hp
  · rw [e, if_neg (by decide), if_neg (by decide)]; exact chk_G h.1 hp
/-- what the reference's side sees of a pointer is the class's sample -/
theorem R_sample {S M : CS} {k wc t p : Nat} (h : R S (M 1) k wc t) (hp : p < 2 ^ (k + 1)) {m : Int32} (hm : m = 0 ∨ m = 1) {y : Int32} (hy : y = if m = 0 then r_X2_codeOf S (nI p) else r_X2_codeOf S (r_X2_around S (nI p + 1))) :
    r_X5_sampleOf M (nI p) m = r_X2_codeOf S (nI p) ^^^ ((r_X2_codeOf S (nI p) ^^^ y) &&& (170 : Int32)) ∧ (∃ q, q < 2 ^ (k + 1) ∧ r_X5_sampleOf M (nI p) m = nI q) ∧ ((r_X2_codeOf S (nI p) ^^^ y) = 0 ↔ m = 0) := by
  have h32 := p2k h.1
  obtain ⟨q, hq, eq⟩ := R_codeIn h hp
  obtain ⟨f1, f2⟩ := chk_M h.1 hp
  have hy' : ∃ q', q' < 2 ^ (k + 1) ∧ y = nI q' := by
    rcases hm with e | e
    · rw [hy, if_pos e]; exact ⟨q, hq, eq⟩
    · rw [hy, if_neg (by rw [e]; decide), (R_around h _).1, f1]; exact R_codeIn h f2
  obtain ⟨q', hq', eq'⟩ := hy'
  have e0 : r_X5_sampleOf M (nI p) m = ((r_X2_codeOf S (nI p)) &&& (21 : Int32)) ||| (y &&& (10 : Int32)) := by
    unfold r_X5_sampleOf
    dsimp only
    rw [(R_code h _).1, (R_code h _).1, (R_around h _).2, hy, (R_around h _).1]
  have e1 : r_X5_sampleOf M (nI p) m = r_X2_codeOf S (nI p) ^^^ ((r_X2_codeOf S (nI p) ^^^ y) &&& (170 : Int32)) := by
    rw [e0, eq, eq', chk_samp q (by omega) q' (by omega)]
  refine ⟨e1, ?_, ?_⟩
  · obtain ⟨g1, g2⟩ := chk_samp2 k (by have := h.1; omega) q (by omega) q' (by omega) ⟨hq, hq'⟩
    refine ⟨_, g2, ?_⟩
    rw [e1, eq, eq']; exact g1
  · rcases hm with e | e
    · rw [hy, if_pos e, e]; exact ⟨fun _ => rfl, fun _ => Int32.xor_self⟩
    · rw [hy, if_neg (by rw [e]; decide), (R_around h _).1]
      exact ⟨fun z => absurd z (R_codeNe h hp), fun z => absurd (e.symm.trans z) (by decide)⟩
theorem tick_3 (w : F1) (x y : Int32) : p_X1_tick w x y 3 = w 3 := by
  unfold p_X1_tick
  dsimp only
  split <;> rfl
/-- a sample of the reference's speaks of what does not change in a unit -/
theorem RW_place {S M : CS} {k wc t : Nat} (h : R S (M 1) k wc t) : ∃ p, p < 2 ^ (k + 1) ∧ S 1 3 = nI p ∧ r_X5_of M 0 3 = nI p := by
  obtain ⟨-, -, -, a3, -, -, -, -, -, p, f, s, e3, -, -, hp, -⟩ := h.2.2.2.1
  exact ⟨p, hp, e3, ((of_0 M 3 (by decide)).trans a3).trans e3⟩
theorem RR_place {S M : CS} {k wc t : Nat} (h : R S (M 1) k wc t) : ∃ p, p < 2 ^ (k + 1) ∧ S 2 3 = nI p ∧ r_X5_of M 1 3 = nI p := by
  obtain ⟨-, -, -, a3, -, -, -, -, -, p, f, s, e3, -, -, hp, -⟩ := h.2.2.2.2.1
  exact ⟨p, hp, e3, ((of_1 M 3 (by decide)).trans a3).trans e3⟩
theorem R_kW {S M : CS} {k wc t : Nat} (h : R S (M 1) k wc t) : R (kW S) (mW M 1) k wc t ∧ (∀ i, i ≠ 1 → kW S i = t1S S i) ∧ (∀ i, i ≠ 1 → mW M i = M i) ∧ (kW S 1 3 = S 1 3) := by
  have ht := R_time h
  unfold kW mW
  rw [R_wt h]
  by_cases c : wtS S = 0
  · rw [if_pos c, if_pos c]
    exact ⟨ht, fun _ _ => rfl, fun i hi => va_up_n hi, rfl⟩
  · rw [if_neg c, if_neg c, R_ra h, samp_0]
    obtain ⟨p, hp, e1, e2⟩ := RR_place h
    have hy : toW S = if raS S = 0 then r_X2_codeOf S (nI p) else r_X2_codeOf S (r_X2_around S (nI p + 1)) := by
      unfold toW
      rw [show t1S S 2 3 = nI p from e1]; rfl
    obtain ⟨s1, s2, s3⟩ := R_sample h hp (ra_bit S) hy
    rw [e2]
    refine ⟨?_, fun i hi => va_up_n hi, fun i hi => by rw [va_up_n hi]; exact va_up_n hi, by rw [va_up_s, tick_3]; rfl⟩
    refine R_side0 ht (fun i hi => va_up_n hi) (fun j hj => ?_) ?_
    · rw [va_up_s]; exact smp_n (by omega)
    · rw [va_up_s, va_up_s]
      refine RS_tick ht.2.2.2.1 ?_ s2 ?_
      · rw [show t1S S 2 3 = nI p from e1]; exact s1
      · rw [show t1S S 2 3 = nI p from e1]; exact s3
theorem R_kR {S M : CS} {k wc t : Nat} (h : R S (M 1) k wc t) : R (kR S) (mR M 1) k wc t ∧ (∀ i, i ≠ 1 → i ≠ 2 → kR S i = t1S S i) ∧ (∀ i, i ≠ 1 → mR M i = M i) ∧ (kR S 1 3 = S 1 3) ∧ (kR S 2 3 = S 2 3) := by
  obtain ⟨hw, w1, w2, w3⟩ := R_kW h
  unfold kR mR
  rw [R_rt h]
  by_cases c : rtS S = 0
  · rw [if_pos c, if_pos c]
    exact ⟨hw, fun i hi _ => w1 i hi, w2, w3, by rw [w1 2 (by decide)]; rfl⟩
  · rw [if_neg c, if_neg c, R_wa h, samp_1]
    obtain ⟨p, hp, e1, e2⟩ := RW_place h
    have hy : toR S = if waS S = 0 then r_X2_codeOf S (nI p) else r_X2_codeOf S (r_X2_around S (nI p + 1)) := by
      unfold toR
      rw [show t1S S 1 3 = nI p from e1]; rfl
    obtain ⟨s1, s2, s3⟩ := R_sample h hp (wa_bit S) hy
    rw [e2]
    refine ⟨?_, fun i hi hi2 => by rw [va_up_n hi2]; exact w1 i hi, fun i hi => by rw [va_up_n hi]; exact w2 i hi, by rw [va_up_n (by decide)]; exact w3, ?_⟩
    · refine R_side1 hw (fun i hi => va_up_n hi) (fun j hj => ?_) ?_
      · rw [va_up_s]; exact smp_n (by omega)
      · rw [va_up_s, va_up_s]
        refine RS_tick hw.2.2.2.2.1 ?_ s2 ?_
        · rw [show t1S S 1 3 = nI p from e1]; exact s1
        · rw [show t1S S 1 3 = nI p from e1]; exact s3
    · rw [va_up_s]
      rw [tick_3, w1 2 (by decide)]; rfl
/-! a word that is taken -/
def okQ (k p : Nat) : Bool := decide (p < 2 ^ (k + 1) ∧ 0 < k → (nI p &&& (dpt k - 1)) = nI (nI p &&& (dpt k - 1)).toNatClampNeg ∧ (nI p &&& (dpt k - 1)).toNatClampNeg < 16)
theorem chk_Q' : ∀ k, k < 5 → ∀ p, p < 32 → okQ k p = true := by decide +kernel
theorem chk_Q {k p : Nat} (hk : 1 ≤ k ∧ k ≤ 4) (hp : p < 2 ^ (k + 1)) : ∃ q, q < 16 ∧ nI p &&& (dpt k - 1) = nI q := by
  obtain ⟨h1, h2⟩ := of_decide_eq_true (chk_Q' k (by omega) p (by have := p2k hk; omega)) ⟨hp, by omega⟩
  exact ⟨_, h2, h1⟩
theorem chk_M2 {k p : Nat} (hk : 1 ≤ k ∧ k ≤ 4) (hp : p < 2 ^ (k + 1)) : ∃ q, q < 2 ^ (k + 1) ∧ (nI p + 1) &&& msk k = nI q := by
  obtain ⟨h1, h2⟩ := chk_M hk hp
  exact ⟨_, h2, h1⟩
theorem and15 (t : Nat) (h : t < 2 ^ 32) : nI t &&& (15 : Int32) = nI (t % 16) := pk_andN h 4 (by decide)
/-- what the reference tells moves down by one -/
def dwn (a : F1) : F1 := upd (upd (upd (upd (upd (upd (upd (upd (upd (upd (upd (upd (upd (upd (upd a 94 (a 93)) 93 (a 92)) 92 (a 91)) 91 (a 90)) 90 (a 89)) 89 (a 88)) 88 (a 87)) 87 (a 86)) 86 (a 85)) 85 (a 84)) 84 (a 83)) 83 (a 82)) 82 (a 81)) 81 (a 80)) 80 (a 79)
theorem dwn_n {a : F1} {j : Nat} (h : j < 80 ∨ 95 ≤ j) : dwn a j = a j := by
  unfold dwn
  rw [fu_n (by omega), fu_n (by omega), fu_n (by omega), fu_n (by omega), fu_n (by omega), fu_n (by omega), fu_n (by omega), fu_n (by omega), fu_n (by omega), fu_n (by omega), fu_n (by omega), fu_n (by omega), fu_n (by omega), fu_n (by omega), fu_n (by omega)]
theorem dwn_s {a : F1} {j : Nat} (h1 : j < 15) : dwn a (80 + j) = a (79 + j) := by
  have c : j = 0 ∨ j = 1 ∨ j = 2 ∨ j = 3 ∨ j = 4 ∨ j = 5 ∨ j = 6 ∨ j = 7 ∨ j = 8 ∨ j = 9 ∨ j = 10 ∨ j = 11 ∨ j = 12 ∨ j = 13 ∨ j = 14 := by omega
  rcases c with rfl | rfl | rfl | rfl | rfl | rfl | rfl | rfl | rfl | rfl | rfl | rfl | rfl | rfl | rfl <;> rfl
theorem tells_at (M : CS) (v x : Int32) : p_X5_tells M v x = va_up M 1 (upd (upd (dwn (M 1)) 79 (if x = 0 then v + 100 else v)) 10 (M 1 10 + (if 16 ≤ M 1 10 then 0 else 1))) := by
  unfold p_X5_tells
  dsimp only
  rw [ite_self (va_up M 1 _)]
  have e : (upd (upd (upd (upd (upd (upd (upd (upd (upd (upd (upd (upd (upd (upd (upd (M 1) 94 ((M 1) 93)) 93 ((M 1) 92)) 92 ((M 1) 91)) 91 ((M 1) 90)) 90 ((M 1) 89)) 89 ((M 1) 88)) 88 ((M 1) 87)) 87 ((M 1) 86)) 86 ((M 1) 85)) 85 ((M 1) 84)) 84 ((M 1) 83)) 83 ((M 1) 82)) 82 ((M 1) 81)) 81 ((M 1) 80)) 80 ((M 1) 79)) = dwn (M 1) := rfl
  rw [e, upup, upup, up1, dwn_n (a := M 1) (j := 10) (by decide)]
  by_cases c : (16 : Int32) ≤ M 1 10
  · rw [if_pos c, if_pos c]
  · rw [if_neg c, if_neg c]
def tkM (a : F1) (q : Nat) (x : Int32) (p' : Int32) : F1 := upd (upd (upd (upd (upd (upd (dwn a) 79 (if x = 0 then a (47 + q) + 100 else a (47 + q))) 10 (a 10 + (if 16 ≤ a 10 then 0 else 1))) 7 (a 7 + 1)) 9 (a 9 + (if x = 0 then 1 else 0))) 8 (a 8 + (if x = 0 then 0 else 1))) 22 p'
theorem takes_at {M : CS} {k p q : Nat} {p' : Int32} (hk : M 1 0 = nI k) (hp : r_X5_of M 1 3 = nI p) (hq : nI p &&& (dpt k - 1) = nI q) (hq6 : q < 16) (he : (nI p + 1) &&& msk k = p') : p_X5_takes M = va_up M 1 (tkM (M 1) q (if M 1 (63 + q) = M 1 7 then 1 else 0) p') := by
  have hd : r_X5_depth M = dpt k := by unfold r_X5_depth dpt; rw [hk]
  unfold p_X5_takes
  rw [hp, hd, hq, show (63 : Int32) = nI 63 from rfl, show (47 : Int32) = nI 47 from rfl, nI_add, nI_add, nI_clamp (by omega), nI_clamp (by omega)]
  dsimp only
  rw [tells_at]
  have o3 : ∀ (f : F1), f 0 = M 1 0 → f 22 = M 1 22 → p_X5_to (va_up M 1 f) 1 3 (r_X5_around (va_up M 1 f) (r_X5_of (va_up M 1 f) 1 3 + 1)) = va_up M 1 (upd f 22 p') := by
    intro f h1 h2
    have h3 : r_X5_of (va_up M 1 f) 1 3 = nI p := by
      rw [← hp, show (3 : Int32) = nI 3 from rfl, of_1 _ 3 (by decide), of_1 _ 3 (by decide), up1]; exact h2
    rw [h3, around5 (k := k) (by rw [up1, h1]; exact hk), he, show (3 : Int32) = nI 3 from rfl, to_1 _ 3 _ (by decide), upup, up1]
  rw [upup, upup, up1]
  have n7 : ∀ (f : F1) x y, upd (upd f 79 x) 10 y 7 = f 7 := fun f x y => by rw [fu_n (by decide), fu_n (by decide)]
  have n8 : ∀ (f : F1) x y, upd (upd f 79 x) 10 y 8 = f 8 := fun f x y => by rw [fu_n (by decide), fu_n (by decide)]
  have n9 : ∀ (f : F1) x y, upd (upd f 79 x) 10 y 9 = f 9 := fun f x y => by rw [fu_n (by decide), fu_n (by decide)]
  rw [n7, n8, n9, dwn_n (a := M 1) (j := 7) (by decide), dwn_n (a := M 1) (j := 8) (by decide), dwn_n (a := M 1) (j := 9) (by decide)]
  have z0 : ∀ f : F1, (f 0 = M 1 0 ∧ f 22 = M 1 22) → ∀ v i, i ≠ 0 → i ≠ 22 → (upd f i v 0 = M 1 0 ∧ upd f i v 22 = M 1 22) := fun f h v i h1 h2 => ⟨(fu_n (Ne.symm h1)).trans h.1, (fu_n (Ne.symm h2)).trans h.2⟩
  have z1 : dwn (M 1) 0 = M 1 0 ∧ dwn (M 1) 22 = M 1 22 := ⟨dwn_n (by decide), dwn_n (by decide)⟩
  by_cases c : (if M 1 (63 + q) = M 1 7 then (1 : Int32) else 0) = 0
  · rw [if_pos c]
    obtain ⟨y1, y2⟩ := z0 _ (z0 _ (z0 _ (z0 _ z1 (if (if M 1 (63 + q) = M 1 7 then (1 : Int32) else 0) = 0 then M 1 (47 + q) + 100 else M 1 (47 + q)) 79 (by decide) (by decide)) (M 1 10 + (if 16 ≤ M 1 10 then 0 else 1)) 10 (by decide) (by decide)) (M 1 7 + 1) 7 (by decide) (by decide)) (M 1 9 + 1) 9 (by decide) (by decide)
    rw [o3 _ y1 y2]
    unfold tkM
    rw [if_pos c, if_pos c, if_pos c]
    congr 1
    congr 1
    funext j
    by_cases j8 : j = 8
    · subst j8; rw [fu_s, Int32.add_zero, fu_n (by decide), fu_n (by decide), fu_n (by decide), fu_n (by decide), dwn_n (by decide)]
    · rw [fu_n j8]
  · rw [if_neg c]
    obtain ⟨y1, y2⟩ := z0 _ (z0 _ (z0 _ (z0 _ z1 (if (if M 1 (63 + q) = M 1 7 then (1 : Int32) else 0) = 0 then M 1 (47 + q) + 100 else M 1 (47 + q)) 79 (by decide) (by decide)) (M 1 10 + (if 16 ≤ M 1 10 then 0 else 1)) 10 (by decide) (by decide)) (M 1 7 + 1) 7 (by decide) (by decide)) (M 1 8 + 1) 8 (by decide) (by decide)
    rw [o3 _ y1 y2]
    unfold tkM
    rw [if_neg c, if_neg c, if_neg c]
    congr 1
    congr 1
    funext j
    by_cases j8 : j = 8
    · subst j8; rw [fu_s, fu_s]
    · rw [fu_n j8, fu_n j8]
      by_cases j9 : j = 9
      · subst j9; rw [fu_s, Int32.add_zero, fu_n (by decide), fu_n (by decide), fu_n (by decide), dwn_n (by decide)]
      · rw [fu_n j9]
def tkS (S : CS) (q : Nat) (x : Int32) (u : Nat) (p' : Int32) : CS := va_up (va_up (va_up S 0 (upd (upd (S 0) 13 (S 0 13 + 1)) 14 (S 0 14 + (if x = 0 then 0 else 1)))) 6 (upd (S 6) u (if x = 0 then S 3 q + 100 else S 3 q))) 2 (upd (S 2) 3 p')
theorem takeWord_at {S : CS} {k p q t : Nat} {p' : Int32} (hk : S 0 0 = nI k) (hp : S 2 3 = nI p) (hq : nI p &&& (dpt k - 1) = nI q) (hq6 : q < 16) (he : (nI p + 1) &&& msk k = p') (ht : S 0 13 = nI t) (ht3 : t < 2 ^ 32) : p_X2_takeWord S = tkS S q (if S 4 q = S 0 13 then 1 else 0) (t % 16) p' := by
  have hd : r_X2_placeOf S (S 2 3) = nI q := by unfold r_X2_placeOf r_X2_depth; rw [hp, hk]; exact hq
  unfold p_X2_takeWord
  rw [hd, valueAt_in (by decide) hq6, valueAt_in (by decide) hq6]
  have h15 : S 0 13 &&& (15 : Int32) = nI (t % 16) := by rw [ht]; exact and15 t ht3
  have hs : ∀ v, p_X4_setAt (S 6) (nI (t % 16)) v 16 = upd (S 6) (t % 16) v := fun v => setAt_in (n := 16) (by decide) (Nat.mod_lt _ (by decide))
  rw [h15]
  dsimp only
  rw [hs]
  have hr : ∀ f g, f 0 = S 0 0 → va_up (va_up (va_up S 0 f) 6 g) 2 (upd (va_up (va_up S 0 f) 6 g 2) 3 (r_X2_around (va_up (va_up S 0 f) 6 g) (va_up (va_up S 0 f) 6 g 2 3 + 1))) = va_up (va_up (va_up S 0 f) 6 g) 2 (upd (S 2) 3 p') := by
    intro f g hf
    rw [around2 (k := k) (by rw [va_up_n (by decide), va_up_s, hf]; exact hk), show va_up (va_up S 0 f) 6 g 2 = S 2 by rw [va_up_n (by decide), va_up_n (by decide)], hp, he]
  unfold tkS
  by_cases c : (if S 4 q = S 0 13 then (1 : Int32) else 0) = 0
  · rw [if_pos c, if_pos c, if_pos c, hr (upd (S 0) 13 (S 0 13 + 1)) _ rfl]
    have e : upd (S 0) 13 (S 0 13 + 1) = upd (upd (S 0) 13 (S 0 13 + 1)) 14 (S 0 14 + 0) := by
      funext j
      by_cases j8 : j = 14
      · subst j8; rw [fu_s, Int32.add_zero, fu_n (by decide)]
      · rw [fu_n j8]
    rw [← e]
  · rw [if_neg c, if_neg c, if_neg c, hr (upd (upd (S 0) 13 (S 0 13 + 1)) 14 (S 0 14 + 1)) _ rfl]
