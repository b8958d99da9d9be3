/-! one unit of time, in the class and in the reference -/
def t1S (S : CS) : CS := va_up S 0 (upd (S 0) 2 (S 0 2 + 1))
def t1M (M : CS) : CS := va_up M 1 (upd (M 1) 2 (M 1 2 + 1))
def wtS (S : CS) : Int32 := r_X1_ticksAt (S 1) (S 0 2 + 1)
def rtS (S : CS) : Int32 := r_X1_ticksAt (S 2) (S 0 2 + 1)
def waS (S : CS) : Int32 := if wtS S = 0 then 0 else if S 0 10 ≤ 0 then 0 else if r_X2_seemsFull (t1S S) = 0 then 1 else 0
def raS (S : CS) : Int32 := if rtS S = 0 then 0 else if r_X2_seemsEmpty (t1S S) = 0 then 1 else 0
def toR (S : CS) : Int32 := if waS S = 0 then r_X2_codeOf (t1S S) (t1S S 1 3) else r_X2_codeOf (t1S S) (r_X2_around (t1S S) (t1S S 1 3 + 1))
def toW (S : CS) : Int32 := if raS S = 0 then r_X2_codeOf (t1S S) (t1S S 2 3) else r_X2_codeOf (t1S S) (r_X2_around (t1S S) (t1S S 2 3 + 1))
def kW (S : CS) : CS := if wtS S = 0 then t1S S else va_up (t1S S) 1 (p_X1_tick (t1S S 1) (r_X2_codeOf (t1S S) (t1S S 2 3)) (toW S))
def kR (S : CS) : CS := if rtS S = 0 then kW S else va_up (kW S) 2 (p_X1_tick (kW S 2) (r_X2_codeOf (t1S S) (t1S S 1 3)) (toR S))
def kT (S : CS) : CS := if raS S = 0 then kR S else p_X2_takeWord (kR S)
def kP (S : CS) : CS := if waS S = 0 then kT S else p_X2_putWord (kT S)
theorem step_eq (S : CS) : p_X2_step S = kP S := by
  unfold p_X2_step kP kT kR kW toR toW waS raS wtS rtS t1S
  dsimp only
  by_cases h1 : r_X1_ticksAt (S 1) (S 0 2 + 1) = 0 <;> by_cases h2 : r_X1_ticksAt (S 2) (S 0 2 + 1) = 0 <;> by_cases h3 : S 0 10 ≤ 0 <;> by_cases h4 : r_X2_seemsFull (va_up S 0 (upd (S 0) 2 (S 0 2 + 1))) = 0 <;> simp only [h1, h2, h3, h4, if_true, if_false, ite_self, if_pos, if_neg, not_true_eq_false, not_false_eq_true]
def wtM (M : CS) : Int32 := r_X5_ticksAt M 0 (M 1 2 + 1)
def rtM (M : CS) : Int32 := r_X5_ticksAt M 1 (M 1 2 + 1)
def waM (M : CS) : Int32 := r_X5_acts M 0 (wtM M)
def raM (M : CS) : Int32 := r_X5_acts M 1 (rtM M)
def mW (M : CS) : CS := if wtM M = 0 then t1M M else p_X5_samples (t1M M) 0 (r_X5_sampleOf M (r_X5_of M 1 3) (raM M)) (raM M)
def mR (M : CS) : CS := if rtM M = 0 then mW M else p_X5_samples (mW M) 1 (r_X5_sampleOf M (r_X5_of M 0 3) (waM M)) (waM M)
def mT (M : CS) : CS := if raM M = 0 then mR M else p_X5_takes (mR M)
def mP (M : CS) : CS := if waM M = 0 then mT M else p_X5_puts (mT M)
theorem pass_eq (M : CS) : p_X5_passes M = mP M := rfl
theorem passr_eq (M : CS) : r_X5_passes M = if wtM M = 0 then 0 else if waM M = 0 then (if M 1 5 ≤ 0 then 0 else 1) else 0 := by
  unfold r_X5_passes waM wtM
  dsimp only
  by_cases h1 : r_X5_ticksAt M 0 (M 1 2 + 1) = 0
  · rw [if_pos h1]
    by_cases h2 : r_X5_acts M 0 (r_X5_ticksAt M 0 (M 1 2 + 1)) = 0
    · rw [if_pos h2]
    · rw [if_neg h2]
  · rw [if_neg h1]
    by_cases h2 : r_X5_acts M 0 (r_X5_ticksAt M 0 (M 1 2 + 1)) = 0
    · rw [if_pos h2]
    · rw [if_neg h2]
/-! what stays when one part changes -/
theorem RN_of {c c' a a' : F1} {k wc t : Nat} (h : RN c a k wc t) (hc : c' = c) (ha : ∀ j, j < 11 → a' j = a j) : RN c' a' k wc t := by
  subst hc
  obtain ⟨h0, h1, h2, h3, h4, h5, h6, h7, h8, h9, h10, h11, h12, h13⟩ := h
  exact ⟨h0, (ha 0 (by decide)).trans h1, (ha 1 (by decide)).trans h2, (ha 2 (by decide)).trans h3, (ha 3 (by decide)).trans h4, (ha 4 (by decide)).trans h5, h6, (ha 5 (by decide)).trans h7, (ha 6 (by decide)).trans h8, h9, (ha 7 (by decide)).trans h10, (ha 8 (by decide)).trans h11, (ha 9 (by decide)).trans h12, (ha 10 (by decide)).trans h13⟩
theorem RS_of {w w' a a' : F1} {b k : Nat} (h : RS w a b k) (hw : w' = w) (ha : ∀ j, b ≤ j → j < b + 8 → a' j = a j) : RS w' a' b k := by
  subst hw
  obtain ⟨h0, h1, h2, h3, h4, h5, h6, h7, h8⟩ := h
  exact ⟨(ha _ (by omega) (by omega)).trans h0, (ha _ (by omega) (by omega)).trans h1, (ha _ (by omega) (by omega)).trans h2, (ha _ (by omega) (by omega)).trans h3, (ha _ (by omega) (by omega)).trans h4, (ha _ (by omega) (by omega)).trans h5, (ha _ (by omega) (by omega)).trans h6, (ha _ (by omega) (by omega)).trans h7, h8⟩
theorem RW_of {S S' : CS} {a a' : F1} {wc t : Nat} (h : RW S a wc t) (h3 : S' 3 = S 3) (h4 : S' 4 = S 4) (h5 : S' 5 = S 5) (h6 : S' 6 = S 6) (hw : wc ≤ 20) (ha : ∀ j, 27 ≤ j → a' j = a j) : RW S' a' wc t := by
  obtain ⟨q3, q4, q5, q6⟩ := h
  refine ⟨fun i hi => ?_, fun i hi => ?_, fun i hi => ?_, fun j hj hk => ?_⟩
  · rw [ha _ (by omega), h3]; exact q3 i hi
  · rw [ha _ (by omega), h4]; exact q4 i hi
  · rw [ha _ (by omega), h5]; exact q5 i hi
  · rw [ha _ (by omega), h6]; exact q6 j hj hk
theorem R_side0 {S S' : CS} {a a' : F1} {k wc t : Nat} (h : R S a k wc t) (hS : ∀ i, i ≠ 1 → S' i = S i) (ha : ∀ j, (j < 11 ∨ 19 ≤ j) → a' j = a j) (hs : RS (S' 1) a' 11 k) : R S' a' k wc t :=
  ⟨h.1, h.2.1, RN_of h.2.2.1 (hS 0 (by decide)) (fun j hj => ha j (Or.inl hj)), hs, RS_of h.2.2.2.2.1 (hS 2 (by decide)) (fun j h1 h2 => ha j (Or.inr h1)), RW_of h.2.2.2.2.2 (hS 3 (by decide)) (hS 4 (by decide)) (hS 5 (by decide)) (hS 6 (by decide)) h.2.1 (fun j hj => ha j (Or.inr (by omega)))⟩
theorem R_side1 {S S' : CS} {a a' : F1} {k wc t : Nat} (h : R S a k wc t) (hS : ∀ i, i ≠ 2 → S' i = S i) (ha : ∀ j, (j < 19 ∨ 27 ≤ j) → a' j = a j) (hs : RS (S' 2) a' 19 k) : R S' a' k wc t :=
  ⟨h.1, h.2.1, RN_of h.2.2.1 (hS 0 (by decide)) (fun j hj => ha j (Or.inl (by omega))), RS_of h.2.2.2.1 (hS 1 (by decide)) (fun j h1 h2 => ha j (Or.inl (by omega))), hs, RW_of h.2.2.2.2.2 (hS 3 (by decide)) (hS 4 (by decide)) (hS 5 (by decide)) (hS 6 (by decide)) h.2.1 (fun j hj => ha j (Or.inr (by omega)))⟩
/-! the time -/
theorem R_time {S M : CS} {k wc t : Nat} (h : R S (M 1) k wc t) : R (t1S S) (t1M M 1) k wc t := by
  have e : t1M M 1 = upd (M 1) 2 (M 1 2 + 1) := rfl
  rw [e]
  obtain ⟨hk, hw, ⟨h0, h1, h2, h3, h4, h5, h6, h7, h8, h9, h10, h11, h12, h13⟩, hW, hR, hr⟩ := h
  have c0 : t1S S 0 = upd (S 0) 2 (S 0 2 + 1) := rfl
  refine ⟨hk, hw, ?_, RS_of hW rfl (fun j h1 h2 => fu_n (by omega)), RS_of hR rfl (fun j h1 h2 => fu_n (by omega)), RW_of hr rfl rfl rfl rfl hw (fun j hj => fu_n (by omega))⟩
  rw [c0]
  refine ⟨?_, ?_, ?_, ?_, ?_, ?_, ?_, ?_, ?_, ?_, ?_, ?_, ?_, ?_⟩
  · rw [fu_n (by decide)]; exact h0
  · rw [fu_n (by decide)]; exact h1
  · rw [fu_n (by decide), fu_n (by decide)]; exact h2
  · rw [fu_s, fu_s, h3]
  · rw [fu_n (by decide), fu_n (by decide)]; exact h4
  · rw [fu_n (by decide), fu_n (by decide)]; exact h5
  · rw [fu_n (by decide)]; exact h6
  · rw [fu_n (by decide)]; exact h7
  · rw [fu_n (by decide), fu_n (by decide)]; exact h8
  · rw [fu_n (by decide)]; exact h9
  · rw [fu_n (by decide)]; exact h10
  · rw [fu_n (by decide), fu_n (by decide)]; exact h11
  · rw [fu_n (by decide), fu_n (by decide)]; exact h12
  · rw [fu_n (by decide)]; exact h13
theorem R_t {S M : CS} {k wc t : Nat} (h : R S (M 1) k wc t) : M 1 2 = S 0 2 := h.2.2.1.2.2.2.1
theorem R_wt {S M : CS} {k wc t : Nat} (h : R S (M 1) k wc t) : wtM M = wtS S := by
  unfold wtM wtS
  rw [R_t h]; exact R_tickW h _
theorem R_rt {S M : CS} {k wc t : Nat} (h : R S (M 1) k wc t) : rtM M = rtS S := by
  unfold rtM rtS
  rw [R_t h]; exact R_tickR h _
/-- what the class reads after the time has moved is what it was before -/
theorem t1_full (S : CS) : r_X2_seemsFull (t1S S) = r_X2_seemsFull S := rfl
theorem t1_empty (S : CS) : r_X2_seemsEmpty (t1S S) = r_X2_seemsEmpty S := rfl
theorem t1_code (S : CS) (x : Int32) : r_X2_codeOf (t1S S) x = r_X2_codeOf S x := rfl
theorem t1_around (S : CS) (x : Int32) : r_X2_around (t1S S) x = r_X2_around S x := rfl
theorem R_wa {S M : CS} {k wc t : Nat} (h : R S (M 1) k wc t) : waM M = waS S := by
  unfold waM waS r_X5_acts
  rw [R_wt h, t1_full, R_full h]
  have e5 : M 1 5 = S 0 10 := h.2.2.1.2.2.2.2.2.2.2.1.trans h.2.2.1.2.2.2.2.2.2.1.symm
  rw [e5]
  by_cases c : wtS S = 0
  · rw [if_pos c, if_pos c]
  · rw [if_neg c, if_neg c]
    by_cases d : r_X2_seemsFull S = 0
    · rw [if_pos d, if_neg (show ¬ (0 : Int32) = 1 by decide)]
      by_cases e : S 0 10 ≤ 0
      · rw [if_pos e, if_pos e]
      · rw [if_neg e, if_neg e, if_pos d]
    · rw [if_neg d]
      by_cases e : S 0 10 ≤ 0
      · rw [if_pos e]
      · rw [if_neg e, if_neg d]
theorem R_ra {S M : CS} {k wc t : Nat} (h : R S (M 1) k wc t) : raM M = raS S := by
  unfold raM raS r_X5_acts
  rw [R_rt h, t1_empty, R_empty h]
  by_cases c : rtS S = 0
  · rw [if_pos c, if_pos c]
  · rw [if_neg c, if_neg c]
    by_cases d : r_X2_seemsEmpty S = 0
    · rw [if_pos d, if_pos d, if_pos rfl]
    · rw [if_neg d, if_neg d]
theorem wa_bit (S : CS) : waS S = 0 ∨ waS S = 1 := by
  unfold waS
  repeat' split
  all_goals first | exact Or.inl rfl | exact Or.inr rfl
theorem ra_bit (S : CS) : raS S = 0 ∨ raS S = 1 := by
  unfold raS
  repeat' split
  all_goals first | exact Or.inl rfl | exact Or.inr rfl
/-! a side's sample -/
theorem up1 {M : CS} {v : F1} : va_up M 1 v 1 = v := va_up_s
theorem to_0 (M : CS) (i : Nat) (v : Int32) (hi : i < 8) : p_X5_to M 0 (nI i) v = va_up M 1 (upd (M 1) (11 + i) v) := by
  unfold p_X5_to
  rw [show (11 : Int32) + ((8 : Int32) * 0) = nI 11 by decide, nI_add, nI_clamp (by omega)]
theorem to_1 (M : CS) (i : Nat) (v : Int32) (hi : i < 8) : p_X5_to M 1 (nI i) v = va_up M 1 (upd (M 1) (19 + i) v) := by
  unfold p_X5_to
  rw [show (11 : Int32) + ((8 : Int32) * 1) = nI 19 by decide, nI_add, nI_clamp (by omega)]
theorem upup {M : CS} {v w : F1} : va_up (va_up M 1 v) 1 w = va_up M 1 w := by
  funext i
  by_cases e : i = 1
  · subst e; rw [va_up_s, va_up_s]
  · rw [va_up_n e, va_up_n e, va_up_n e]
def smp (a : F1) (b : Nat) (s m : Int32) : F1 := upd (upd (upd (upd a (b + 5) (a (b + 4))) (b + 4) s) (b + 6) (a (b + 6) + 1)) (b + 7) (a (b + 7) + (if m = 0 then 0 else 1))
theorem samp_0 (M : CS) (s m : Int32) : p_X5_samples M 0 s m = va_up M 1 (smp (M 1) 11 s m) := by
  unfold p_X5_samples smp
  dsimp only
  rw [show (5 : Int32) = nI 5 from rfl, show (4 : Int32) = nI 4 from rfl, show (6 : Int32) = nI 6 from rfl, show (7 : Int32) = nI 7 from rfl]
  simp only [to_0 _ 5 _ (by decide), to_0 _ 4 _ (by decide), to_0 _ 6 _ (by decide), to_0 _ 7 _ (by decide), of_0 _ 4 (by decide), of_0 _ 6 (by decide), of_0 _ 7 (by decide), upup, up1]
  have n6 : ∀ (f : F1) x y, upd (upd f (11 + 5) x) (11 + 4) y (11 + 6) = f (11 + 6) := fun f x y => by rw [fu_n (by decide), fu_n (by decide)]
  have n7 : ∀ (f : F1) x y z, upd (upd (upd f (11 + 5) x) (11 + 4) y) (11 + 6) z (11 + 7) = f (11 + 7) := fun f x y z => by rw [fu_n (by decide), fu_n (by decide), fu_n (by decide)]
  by_cases c : m = 0
  · rw [if_pos c, if_pos c, n6, n7]
  · rw [if_neg c, if_neg c, n6, n7]
theorem samp_1 (M : CS) (s m : Int32) : p_X5_samples M 1 s m = va_up M 1 (smp (M 1) 19 s m) := by
  unfold p_X5_samples smp
  dsimp only
  rw [show (5 : Int32) = nI 5 from rfl, show (4 : Int32) = nI 4 from rfl, show (6 : Int32) = nI 6 from rfl, show (7 : Int32) = nI 7 from rfl]
  simp only [to_1 _ 5 _ (by decide), to_1 _ 4 _ (by decide), to_1 _ 6 _ (by decide), to_1 _ 7 _ (by decide), of_1 _ 4 (by decide), of_1 _ 6 (by decide), of_1 _ 7 (by decide), upup, up1]
  have n6 : ∀ (f : F1) x y, upd (upd f (19 + 5) x) (19 + 4) y (19 + 6) = f (19 + 6) := fun f x y => by rw [fu_n (by decide), fu_n (by decide)]
  have n7 : ∀ (f : F1) x y z, upd (upd (upd f (19 + 5) x) (19 + 4) y) (19 + 6) z (19 + 7) = f (19 + 7) := fun f x y z => by rw [fu_n (by decide), fu_n (by decide), fu_n (by decide)]
  by_cases c : m = 0
  · rw [if_pos c, if_pos c, n6, n7]
  · rw [if_neg c, if_neg c, n6, n7]
theorem smp_n {a : F1} {b j : Nat} {s m : Int32} (h : j < b + 4 ∨ b + 8 ≤ j) : smp a b s m j = a j := by
  unfold smp
  rw [fu_n (by omega), fu_n (by omega), fu_n (by omega), fu_n (by omega)]
/-- the class's sample and the reference's -/
theorem RS_tick {w a : F1} {b k : Nat} {x y s m : Int32} (h : RS w a b k) (hx : s = x ^^^ ((x ^^^ y) &&& (170 : Int32))) (hq : ∃ q, q < 2 ^ (k + 1) ∧ s = nI q) (hm : (x ^^^ y) = 0 ↔ m = 0) : RS (p_X1_tick w x y) (smp a b s m) b k := by
  obtain ⟨h0, h1, h2, h3, h4, h5, h6, h7, hp, p, f, g, e3, e4, e5, hp', hf, hg⟩ := h
  obtain ⟨q, hq, eq⟩ := hq
  have T : p_X1_tick w x y = upd (upd (upd (upd w 6 (w 6 + 1)) 7 (w 7 + (if m = 0 then 0 else 1))) 5 (w 4)) 4 s := by
    unfold p_X1_tick
    dsimp only
    rw [hx]
    by_cases c : (x ^^^ y) = 0
    · rw [if_pos c, if_pos (hm.mp c)]
      funext j
      by_cases j4 : j = 4
      · subst j4; rw [fu_s, fu_s]
      · rw [fu_n j4, fu_n j4]
        by_cases j5 : j = 5
        · subst j5; rw [fu_s, fu_s, fu_n (by decide)]
        · rw [fu_n j5, fu_n j5]
          by_cases j7 : j = 7
          · subst j7; rw [fu_s, fu_n (by decide), Int32.add_zero]
          · rw [fu_n j7]
    · rw [if_neg c, if_neg (fun z => c (hm.mpr z))]
      funext j
      by_cases j4 : j = 4
      · subst j4; rw [fu_s, fu_s]
      · rw [fu_n j4, fu_n j4]
        by_cases j5 : j = 5
        · subst j5; rw [fu_s, fu_s, fu_n (by decide), fu_n (by decide)]
        · rw [fu_n j5, fu_n j5]
  rw [T]
  refine ⟨?_, ?_, ?_, ?_, ?_, ?_, ?_, ?_, ?_, p, q, f, ?_, ?_, ?_, hp', hq, hf⟩
  · rw [smp_n (by omega), h0]; rfl
  · rw [smp_n (by omega), h1]; rfl
  · rw [smp_n (by omega), h2]; rfl
  · rw [smp_n (by omega), h3]; rfl
  · unfold smp; rw [fu_n (by omega), fu_n (by omega), fu_s, fu_s]
  · unfold smp; rw [fu_n (by omega), fu_n (by omega), fu_n (by omega), fu_s, h4]; rfl
  · unfold smp; rw [fu_n (by omega), fu_s, h6]; rfl
  · unfold smp; rw [fu_s, h7]; rfl
  · exact hp
  · rw [← e3]; rfl
  · rw [← eq]; rfl
  · rw [← e4]; rfl
