/-! the class reads a text -/
/-- the sign at a place; behind the text there is none -/
def sg (x : F1) (L : Nat) : F1 := fun c => if c < L then x c else (-1)
theorem sg_in {x : F1} {L c : Nat} (h : c < L) : sg x L c = x c := if_pos h
theorem sg_out {x : F1} {L c : Nat} (h : ¬ c < L) : sg x L c = -1 := if_neg h
theorem sg_lt {x : F1} {L c : Nat} {a : Int32} (h : sg x L c = a) (ha : ¬ a = -1) : c < L := by
  rcases Nat.lt_or_ge c L with q | q
  · exact q
  · exact absurd (h.symm.trans (sg_out (by omega))) ha
def dg (s : F1) (c : Nat) : Int32 := if s c < 48 then (-1) else if s c ≤ 57 then s c - 48 else (-1)
theorem nI_nm1 {n : Nat} (h : n < 2 ^ 31) : ¬ nI n = -1 := by
  intro e
  have h1 := nI_toInt h
  rw [e] at h1
  have h2 : (-1 : Int32).toInt = -1 := by decide
  omega
theorem le_m1 {n : Nat} (h : n < 2 ^ 31) : ¬ nI n ≤ -1 := by
  rw [Int32.le_iff_toInt_le, nI_toInt h]
  have h2 : (-1 : Int32).toInt = -1 := by decide
  omega
theorem dg_c (s : F1) (c : Nat) : dg s c = -1 ∨ ∃ d, d ≤ 9 ∧ s c = nI (48 + d) ∧ dg s c = nI d := by
  unfold dg
  by_cases q : s c < 48
  · rw [if_pos q]; exact Or.inl rfl
  · rw [if_neg q]
    by_cases z : s c ≤ 57
    · rw [if_pos z]
      have n0 : ¬ s c < 0 := fun e => q (by rw [Int32.lt_iff_toInt_lt] at *; rw [zero_toI] at e; have : (48 : Int32).toInt = 48 := by decide
                                            omega)
      obtain ⟨j, hj, e⟩ := nI_of2 (x := s c) (M := 57) (n := 57) (by decide) n0 z
      rw [e] at q ⊢
      have h48 : 48 ≤ j := by
        rcases Nat.lt_or_ge j 48 with p | p
        · exact absurd (nI_lt (b := 48) p (by decide)) q
        · exact p
      exact Or.inr ⟨j - 48, by omega, by rw [show 48 + (j - 48) = j by omega], by rw [show (48 : Int32) = nI 48 from rfl, pk_sub h48]⟩
    · rw [if_neg z]; exact Or.inl rfl
/-- a number: where it ends, and its value, or -1 -/
def nxN (s : F1) (c : Nat) (lo : Int32) : Nat × Int32 := if lo ≤ dg s c then (if dg s c = 0 then (c + 1, dg s c) else if dg s (c + 1) = -1 then (c + 1, dg s c) else (c + 2, dg s c * 10 + dg s (c + 1))) else (c, -1)
theorem nxN_c {x : F1} {L c l : Nat} (hl : l ≤ 1) (hc : c ≤ L) : (nxN (sg x L) c (nI l) = (c, -1)) ∨ ∃ n c', nxN (sg x L) c (nI l) = (c', nI n) ∧ l ≤ n ∧ n ≤ 99 ∧ c < c' ∧ c' ≤ L := by
  unfold nxN
  rcases dg_c (sg x L) c with h | ⟨d, h1, h2, h3⟩
  · rw [h, if_neg (le_m1 (by omega))]; exact Or.inl rfl
  · rw [h3]
    have hcL := sg_lt h2 (nI_nm1 (by omega))
    by_cases q : nI l ≤ nI d
    · have q1 : l ≤ d := (nI_leI (by omega) (by omega)).mp q
      rw [if_pos q]
      by_cases z : nI d = 0
      · rw [if_pos z]; exact Or.inr ⟨d, c + 1, rfl, q1, by omega, by omega, hcL⟩
      · rw [if_neg z]
        rcases dg_c (sg x L) (c + 1) with h | ⟨e, g1, g2, g3⟩
        · rw [if_pos h]; exact Or.inr ⟨d, c + 1, rfl, q1, by omega, by omega, hcL⟩
        · rw [g3, if_neg (nI_nm1 (by omega))]
          have hcL := sg_lt g2 (nI_nm1 (by omega))
          exact Or.inr ⟨d * 10 + e, c + 2, by rw [show (10 : Int32) = nI 10 from rfl, pk_mul, nI_add], by omega, by omega, by omega, hcL⟩
    · rw [if_neg q]; exact Or.inl rfl
/-- a part: whether it is one, where it ends, its word (-1 where times pass) and how often (how many times) -/
def nxP (s : F1) (c : Nat) : Int32 × Nat × Int32 × Int32 := if s c = 46 then (if (nxN s (c + 1) 1).2 = -1 then (0, (nxN s (c + 1) 1).1, -1, 0) else (1, (nxN s (c + 1) 1).1, -1, (nxN s (c + 1) 1).2)) else (if (nxN s c 0).2 = -1 then (0, (nxN s c 0).1, -1, 0) else (if s (nxN s c 0).1 = 120 then (if 2 ≤ dg s ((nxN s c 0).1 + 1) then (1, (nxN s c 0).1 + 2, (nxN s c 0).2, dg s ((nxN s c 0).1 + 1)) else (0, (nxN s c 0).1 + 1, -1, 0)) else (1, (nxN s c 0).1, (nxN s c 0).2, 1)))
theorem nxP_c {x : F1} {L c : Nat} (hc : c ≤ L) : (nxP (sg x L) c).2.1 ≤ L ∧ ((nxP (sg x L) c).1 = 0 ∨ (nxP (sg x L) c).1 = 1 ∧ c < (nxP (sg x L) c).2.1 ∧ (((nxP (sg x L) c).2.2.1 = -1 ∧ ∃ n, n ≤ 99 ∧ (nxP (sg x L) c).2.2.2 = nI n) ∨ (∃ b o, b ≤ 99 ∧ (nxP (sg x L) c).2.2.1 = nI b ∧ 1 ≤ o ∧ o ≤ 9 ∧ (nxP (sg x L) c).2.2.2 = nI o))) := by
  unfold nxP
  by_cases q : sg x L c = 46
  · rw [if_pos q]
    have hcL := sg_lt q (by decide)
    rcases nxN_c (x := x) (l := 1) (by decide) (show c + 1 ≤ L from hcL) with h | ⟨n, c', h, h1, h2, h3, h4⟩
    · rw [show nI 1 = (1 : Int32) from rfl] at h
      rw [h, if_pos rfl]; exact ⟨hcL, Or.inl rfl⟩
    · rw [show nI 1 = (1 : Int32) from rfl] at h
      rw [h, if_neg (nI_nm1 (by omega))]; exact ⟨h4, Or.inr ⟨rfl, by dsimp only; omega, Or.inl ⟨rfl, n, h2, rfl⟩⟩⟩
  · rw [if_neg q]
    rcases nxN_c (x := x) (l := 0) (by decide) hc with h | ⟨n, c', h, h1, h2, h3, h4⟩
    · rw [show nI 0 = (0 : Int32) from rfl] at h
      rw [h, if_pos rfl]; exact ⟨hc, Or.inl rfl⟩
    · rw [show nI 0 = (0 : Int32) from rfl] at h
      rw [h, if_neg (nI_nm1 (by omega))]
      dsimp only
      by_cases z : sg x L c' = 120
      · rw [if_pos z]
        have hcL' := sg_lt z (by decide)
        rcases dg_c (sg x L) (c' + 1) with g | ⟨d, g1, g2, g3⟩
        · rw [g, if_neg (by decide)]; exact ⟨hcL', Or.inl rfl⟩
        · have hcL2 := sg_lt g2 (nI_nm1 (by omega))
          rw [g3]
          by_cases p : (2 : Int32) ≤ nI d
          · have p1 : 2 ≤ d := (nI_leI (a := 2) (by omega) (by omega)).mp p
            rw [if_pos p]; exact ⟨hcL2, Or.inr ⟨rfl, by dsimp only; omega, Or.inr ⟨n, d, h2, rfl, by omega, g1, rfl⟩⟩⟩
          · rw [if_neg p]; exact ⟨hcL', Or.inl rfl⟩
      · rw [if_neg z]; exact ⟨h4, Or.inr ⟨rfl, h3, Or.inr ⟨n, 1, h2, rfl, by omega, by omega, rfl⟩⟩⟩
/-- the parts of a text, and its fault -/
def prs (s : F1) (L : Nat) : Nat → Nat → List (Int32 × Int32) × Option Nat
  | 0, c => ([], some c)
  | f + 1, c => if (nxP s c).1 = 0 then ([], some (nxP s c).2.1) else if (nxP s c).2.1 = L then ([((nxP s c).2.2.1, (nxP s c).2.2.2)], none) else if s (nxP s c).2.1 = 44 then (((nxP s c).2.2.1, (nxP s c).2.2.2) :: (prs s L f ((nxP s c).2.1 + 1)).1, (prs s L f ((nxP s c).2.1 + 1)).2) else ([], some (nxP s c).2.1)
def ouI : Option Nat → Int32
  | none => -1
  | some c => nI c
def T5 (T : CS) (c : Nat) : CS := va_up T 0 (upd (T 0) 5 (nI c))
theorem T5_self {T : CS} {c : Nat} (h : T 0 5 = nI c) : T5 T c = T := by
  funext i
  unfold T5
  by_cases e : i = 0
  · subst e
    rw [va_up_s]
    funext j
    by_cases d : j = 5
    · subst d; rw [fu_s]; exact h.symm
    · rw [fu_n d]
  · rw [va_up_n e]
theorem T5_T5 (T : CS) (a b : Nat) : T5 (T5 T a) b = T5 T b := by
  funext i
  unfold T5
  by_cases e : i = 0
  · subst e
    rw [va_up_s, va_up_s, va_up_s]
    funext j
    by_cases d : j = 5
    · subst d; rw [fu_s, fu_s]
    · rw [fu_n d, fu_n d, fu_n d]
  · rw [va_up_n e, va_up_n e, va_up_n e]
theorem T5_x (T : CS) (a : Nat) : T5 T a 0 1 = T 0 1 ∧ T5 T a 0 4 = T 0 4 ∧ T5 T a 0 5 = nI a ∧ T5 T a 1 = T 1 ∧ T5 T a 2 = T 2 ∧ T5 T a 3 = T 3 := ⟨rfl, rfl, rfl, rfl, rfl, rfl⟩
theorem has_at {T : CS} {L c : Nat} (hL : L ≤ 60) (h1 : T 0 1 = nI L) (h5 : T 0 5 = nI c) (hc : c ≤ L) : r_X3_hasSign T = if c < L then 1 else 0 := by
  unfold r_X3_hasSign
  rw [h1, h5, if_neg (nI_pos (by omega))]
  by_cases q : c < L
  · rw [if_pos q, if_neg (nle_nI (by omega) q), if_neg (show ¬ (60 : Int32) ≤ nI c from nle_nI (n := 60) (by decide) (by omega))]
  · rw [if_neg q, if_pos (le_nI (by omega) (by omega) (by omega))]
theorem dig_at {T : CS} {L c : Nat} (hL : L ≤ 60) (h1 : T 0 1 = nI L) (h5 : T 0 5 = nI c) (hc : c ≤ L) : r_X3_digitAtCursor T = dg (sg (T 1) L) c := by
  unfold r_X3_digitAtCursor dg
  rw [has_at hL h1 h5 hc, h5, nI_clamp (by omega)]
  by_cases q : c < L
  · rw [if_pos q, if_neg (by decide), sg_in q]
  · rw [if_neg q, if_pos rfl, sg_out q, if_pos (by decide)]
theorem sig_at {T : CS} {L c : Nat} (hL : L ≤ 60) (h1 : T 0 1 = nI L) (h5 : T 0 5 = nI c) (hc : c ≤ L) {a : Int32} (ha : ¬ a = -1) : (sg (T 1) L c = a ∧ r_X3_readSign T a = 1 ∧ p_X3_readSign T a = T5 T (c + 1)) ∨ (¬ sg (T 1) L c = a ∧ r_X3_readSign T a = 0 ∧ p_X3_readSign T a = T) := by
  unfold r_X3_readSign p_X3_readSign
  rw [has_at hL h1 h5 hc, h5, nI_clamp (by omega), nI_1]
  by_cases q : c < L
  · rw [if_pos q, if_neg (show ¬ (1 : Int32) = 0 by decide), if_neg (show ¬ (1 : Int32) = 0 by decide), sg_in q]
    by_cases z : T 1 c = a
    · rw [if_pos z, if_pos z]; exact Or.inl ⟨z, rfl, rfl⟩
    · rw [if_neg z, if_neg z]; exact Or.inr ⟨z, rfl, rfl⟩
  · rw [if_neg q, if_pos rfl, if_pos rfl, sg_out q]; exact Or.inr ⟨fun e => ha e.symm, rfl, rfl⟩
theorem num_at {T : CS} {L c l : Nat} (hL : L ≤ 60) (hl : l ≤ 1) (h1 : T 0 1 = nI L) (h5 : T 0 5 = nI c) (hc : c ≤ L) : r_X3_readNumber T (nI l) = (nxN (sg (T 1) L) c (nI l)).2 ∧ p_X3_readNumber T (nI l) = T5 T (nxN (sg (T 1) L) c (nI l)).1 := by
  unfold r_X3_readNumber p_X3_readNumber nxN
  rw [dig_at hL h1 h5 hc]
  rcases dg_c (sg (T 1) L) c with h | ⟨d, g1, g2, g3⟩
  · rw [h, if_neg (le_m1 (by omega)), if_neg (le_m1 (by omega)), if_neg (le_m1 (by omega))]; exact ⟨rfl, (T5_self h5).symm⟩
  · have hcL := sg_lt g2 (nI_nm1 (by omega))
    rw [g3]
    by_cases q : nI l ≤ nI d
    · rw [if_pos q, if_pos q, if_pos q]
      have e5 : va_up T 0 (upd (T 0) 5 ((T 0 5) + (1 : Int32))) = T5 T (c + 1) := by rw [h5, nI_1]; rfl
      dsimp only
      rw [e5, dig_at hL (T := T5 T (c + 1)) h1 rfl hcL, show T5 T (c + 1) 1 = T 1 from rfl, show T5 T (c + 1) 0 5 = nI (c + 1) from rfl, nI_1]
      by_cases z : nI d = 0
      · rw [if_pos z, if_pos z, if_pos z]; exact ⟨rfl, rfl⟩
      · rw [if_neg z, if_neg z, if_neg z]
        by_cases y : dg (sg (T 1) L) (c + 1) = -1
        · rw [if_pos y, if_pos y, if_pos y]; exact ⟨rfl, rfl⟩
        · rw [if_neg y, if_neg y, if_neg y]; exact ⟨rfl, T5_T5 T (c + 1) (c + 2)⟩
    · rw [if_neg q, if_neg q, if_neg q]; exact ⟨rfl, (T5_self h5).symm⟩
/-- a part is added -/
def apT (T : CS) (p : Nat) (w t : Int32) : CS := va_up (va_up (va_up T 0 (upd (T 0) 4 (nI (p + 1)))) 2 (upd (T 2) p w)) 3 (upd (T 3) p t)
theorem add_at {T : CS} {p c : Nat} (hp : p < 30) (h4 : T 0 4 = nI p) (w t : Int32) : r_X3_addPart (T5 T c) w t = 1 ∧ p_X3_addPart (T5 T c) w t = T5 (apT T p w t) c := by
  unfold r_X3_addPart p_X3_addPart
  have e4 : T5 T c 0 4 = nI p := h4
  rw [e4, if_pos (show nI p < (30 : Int32) from nI_lt (b := 30) hp (by decide)), if_pos (show nI p < (30 : Int32) from nI_lt (b := 30) hp (by decide)), setAt_in (by decide) hp, setAt_in (by decide) hp, nI_1]
  refine ⟨rfl, ?_⟩
  funext i
  unfold T5 apT
  by_cases e3 : i = 3
  · subst e3; rfl
  by_cases e2 : i = 2
  · subst e2; rfl
  by_cases e0 : i = 0
  · subst e0
    show upd (upd (T 0) 5 (nI c)) 4 (nI (p + 1)) = upd (upd (T 0) 4 (nI (p + 1))) 5 (nI c)
    funext j
    by_cases d4 : j = 4
    · subst d4; rw [fu_s, fu_n (by decide), fu_s]
    · rw [fu_n d4]
      by_cases d5 : j = 5
      · subst d5; rw [fu_s, fu_s]
      · rw [fu_n d5, fu_n d5, fu_n d4]
  · dsimp only
    rw [va_up_n e3, va_up_n e2, va_up_n e0, va_up_n e0, va_up_n e0, va_up_n e3, va_up_n e2, va_up_n e0]
theorem part_at {T : CS} {L c p : Nat} (hL : L ≤ 60) (h1 : T 0 1 = nI L) (h5 : T 0 5 = nI c) (hc : c ≤ L) (hp : p < 30) (h4 : T 0 4 = nI p) :
    r_X3_readPart T = (nxP (sg (T 1) L) c).1 ∧ ((nxP (sg (T 1) L) c).1 = 0 → p_X3_readPart T = T5 T (nxP (sg (T 1) L) c).2.1) ∧ (¬ (nxP (sg (T 1) L) c).1 = 0 → p_X3_readPart T = T5 (apT T p (nxP (sg (T 1) L) c).2.2.1 (nxP (sg (T 1) L) c).2.2.2) (nxP (sg (T 1) L) c).2.1) := by
  unfold r_X3_readPart p_X3_readPart
  have z1 : ¬ (1 : Int32) = 0 := by decide
  rcases sig_at hL h1 h5 hc (a := 46) (by decide) with ⟨s1, s2, s3⟩ | ⟨s1, s2, s3⟩
  · have hcL := sg_lt s1 (by decide)
    obtain ⟨n1, n2⟩ := num_at (T := T5 T (c + 1)) (l := 1) hL (by decide) h1 rfl hcL
    rw [show nI 1 = (1 : Int32) from rfl, show T5 T (c + 1) 1 = T 1 from rfl] at n1 n2
    rw [T5_T5] at n2
    dsimp only
    rw [s2, s3, if_neg z1, if_neg z1, n1, n2]
    unfold nxP
    rw [if_pos s1]
    by_cases y : (nxN (sg (T 1) L) (c + 1) 1).2 = -1
    · rw [if_pos y, if_pos y, if_pos y]; exact ⟨rfl, fun _ => rfl, fun e => absurd rfl e⟩
    · obtain ⟨a1, a2⟩ := add_at hp h4 (c := (nxN (sg (T 1) L) (c + 1) 1).1) (-1) (nxN (sg (T 1) L) (c + 1) 1).2
      rw [if_neg y, if_neg y, if_neg y, a1, a2, if_neg z1, ite_self]; exact ⟨rfl, fun e => absurd e z1, fun _ => rfl⟩
  · obtain ⟨n1, n2⟩ := num_at (T := T) (l := 0) hL (by decide) h1 h5 hc
    rw [show nI 0 = (0 : Int32) from rfl] at n1 n2
    dsimp only
    rw [s2, s3, if_pos rfl, if_pos rfl, n1, n2]
    unfold nxP
    rw [if_neg s1]
    rcases nxN_c (x := T 1) (l := 0) (by decide) hc with h | ⟨n, c', h, g1, g2, g3, g4⟩
    · rw [show nI 0 = (0 : Int32) from rfl] at h
      rw [h, if_pos rfl, if_pos rfl, if_pos rfl]; exact ⟨rfl, fun _ => rfl, fun e => absurd rfl e⟩
    · rw [show nI 0 = (0 : Int32) from rfl] at h
      rw [h]
      dsimp only
      have y : ¬ nI n = -1 := nI_nm1 (by omega)
      rw [if_neg y, if_neg y, if_neg y]
      rcases sig_at (T := T5 T c') hL h1 rfl g4 (a := 120) (by decide) with ⟨t1, t2, t3⟩ | ⟨t1, t2, t3⟩
      · have hcL2 := sg_lt t1 (by decide)
        rw [show T5 T c' 1 = T 1 from rfl] at t1
        rw [T5_T5] at t3
        rw [t2, t3, if_neg z1, if_neg z1, if_pos t1]
        have D := dig_at (T := T5 T (c' + 1)) hL h1 rfl hcL2
        rw [show T5 T (c' + 1) 1 = T 1 from rfl] at D
        rw [D]
        by_cases v : 2 ≤ dg (sg (T 1) L) (c' + 1)
        · have e5 : va_up (T5 T (c' + 1)) 0 (upd (T5 T (c' + 1) 0) 5 ((T5 T (c' + 1) 0 5) + (1 : Int32))) = T5 T (c' + 2) := by
            rw [show T5 T (c' + 1) 0 5 = nI (c' + 1) from rfl, nI_1]; exact T5_T5 T (c' + 1) (c' + 2)
          obtain ⟨a1, a2⟩ := add_at hp h4 (c := c' + 2) (nI n) (dg (sg (T 1) L) (c' + 1))
          rw [if_pos v, if_pos v, if_pos v, e5, a1, a2]; exact ⟨rfl, fun e => absurd e z1, fun _ => rfl⟩
        · rw [if_neg v, if_neg v, if_neg v]; exact ⟨rfl, fun _ => rfl, fun e => absurd rfl e⟩
      · rw [show T5 T c' 1 = T 1 from rfl] at t1
        obtain ⟨a1, a2⟩ := add_at hp h4 (c := c') (nI n) 1
        rw [t2, t3, if_pos rfl, if_pos rfl, if_neg t1, a1, a2]; exact ⟨rfl, fun e => absurd e z1, fun _ => rfl⟩
def Arr (T : CS) : Nat → List (Int32 × Int32) → Prop
  | j, [] => T 0 4 = nI j
  | j, (w, t) :: r => j < 30 ∧ T 2 j = w ∧ T 3 j = t ∧ Arr T (j + 1) r
/-- the class has read -/
theorem read_at {L : Nat} (hL : L ≤ 60) : ∀ (f i c : Nat) (T : CS), T 0 1 = nI L → T 0 5 = nI c → c ≤ L → T 0 4 = nI i → i + f = 30 →
    lr_X3_read_12 (f + 1) (nI i) T = ouI (prs (sg (T 1) L) L f c).2 ∧ (lp_X3_read_12 (f + 1) (nI i) T 0 1 = nI L ∧ lp_X3_read_12 (f + 1) (nI i) T 1 = T 1) ∧ (∀ j, j < i → lp_X3_read_12 (f + 1) (nI i) T 2 j = T 2 j ∧ lp_X3_read_12 (f + 1) (nI i) T 3 j = T 3 j) ∧ ((prs (sg (T 1) L) L f c).2 = none → Arr (lp_X3_read_12 (f + 1) (nI i) T) i (prs (sg (T 1) L) L f c).1)
  | 0, i, c, T, h1, h5, hc, h4, hi => by
    obtain rfl : i = 30 := by omega
    unfold lr_X3_read_12 lp_X3_read_12 prs
    rw [if_pos (show (30 : Int32) ≤ nI 30 by decide), if_pos (show (30 : Int32) ≤ nI 30 by decide)]
    exact ⟨h5, ⟨h1, rfl⟩, fun _ _ => ⟨rfl, rfl⟩, fun e => by cases e⟩
  | f + 1, i, c, T, h1, h5, hc, h4, hi => by
    have q : ¬ (30 : Int32) ≤ nI i := nle_nI (n := 30) (by decide) (by omega)
    have E : ∀ T', lr_X3_read_12 (f + 1 + 1) (nI i) T' = (if (30 : Int32) ≤ nI i then ((T' 0) 5) else ((fun (z_2 : CS) => (if (r_X3_readPart T') = (0 : Int32) then ((z_2 0) 5) else (if ((z_2 0) 5) = ((z_2 0) 1) then (-1 : Int32) else ((fun (z_3 : CS) => (if (r_X3_readSign z_2 (44 : Int32)) = (0 : Int32) then ((z_3 0) 5) else (lr_X3_read_12 (f + 1) (nI i + (1 : Int32)) z_3))) (p_X3_readSign z_2 (44 : Int32)))))) (p_X3_readPart T'))) := fun _ => rfl
    have E2 : ∀ T', lp_X3_read_12 (f + 1 + 1) (nI i) T' = (if (30 : Int32) ≤ nI i then T' else ((fun (z_2 : CS) => (if (r_X3_readPart T') = (0 : Int32) then z_2 else (if ((z_2 0) 5) = ((z_2 0) 1) then z_2 else ((fun (z_3 : CS) => (if (r_X3_readSign z_2 (44 : Int32)) = (0 : Int32) then z_3 else (lp_X3_read_12 (f + 1) (nI i + (1 : Int32)) z_3))) (p_X3_readSign z_2 (44 : Int32)))))) (p_X3_readPart T'))) := fun _ => rfl
    rw [E, E2, if_neg q, if_neg q, nI_1]
    unfold prs
    dsimp only
    obtain ⟨b1, b2, b3⟩ := part_at hL h1 h5 hc (show i < 30 by omega) h4
    obtain ⟨c1, c2⟩ := nxP_c (x := T 1) hc
    rw [b1]
    generalize nxP (sg (T 1) L) c = P at *
    by_cases n : P.1 = 0
    · rw [b2 n, if_pos n, if_pos n, if_pos n]
      exact ⟨rfl, ⟨h1, rfl⟩, fun _ _ => ⟨rfl, rfl⟩, fun e => by cases e⟩
    · have c3 : c < P.2.1 := by rcases c2 with c2 | c2
                                · exact absurd c2 n
                                · exact c2.2.1
      rw [b3 n, if_neg n, if_neg n, if_neg n]
      have x1 : T5 (apT T i P.2.2.1 P.2.2.2) P.2.1 0 1 = nI L := h1
      have x5 : T5 (apT T i P.2.2.1 P.2.2.2) P.2.1 0 5 = nI P.2.1 := rfl
      have k2 : ∀ j, j < i → T5 (apT T i P.2.2.1 P.2.2.2) P.2.1 2 j = T 2 j ∧ T5 (apT T i P.2.2.1 P.2.2.2) P.2.1 3 j = T 3 j := fun j hj => ⟨fu_n (by omega), fu_n (by omega)⟩
      have v2 : T5 (apT T i P.2.2.1 P.2.2.2) P.2.1 2 i = P.2.2.1 := fu_s
      have v3 : T5 (apT T i P.2.2.1 P.2.2.2) P.2.1 3 i = P.2.2.2 := fu_s
      have x4 : T5 (apT T i P.2.2.1 P.2.2.2) P.2.1 0 4 = nI (i + 1) := rfl
      have y1 : T5 (apT T i P.2.2.1 P.2.2.2) P.2.1 1 = T 1 := rfl
      generalize T5 (apT T i P.2.2.1 P.2.2.2) P.2.1 = Z at *
      rw [x5, x1]
      by_cases m : P.2.1 = L
      · rw [if_pos (show nI P.2.1 = nI L by rw [m]), if_pos (show nI P.2.1 = nI L by rw [m]), if_pos m]
        exact ⟨rfl, ⟨x1, y1⟩, k2, fun _ => ⟨by omega, v2, v3, x4⟩⟩
      · have m1 : ¬ nI P.2.1 = nI L := fun e => m ((nI_eq (by omega) (by omega)).mp e)
        rw [if_neg m1, if_neg m1, if_neg m]
        rcases sig_at hL x1 x5 c1 (a := 44) (by decide) with ⟨t1, t2, t3⟩ | ⟨t1, t2, t3⟩
        · rw [y1] at t1
          rw [t2, t3, if_neg (show ¬ (1 : Int32) = 0 by decide), if_neg (show ¬ (1 : Int32) = 0 by decide), if_pos t1]
          obtain ⟨g1, g2, g3, g4⟩ := read_at hL f (i + 1) (P.2.1 + 1) (T5 Z (P.2.1 + 1)) x1 rfl (by omega) x4 (by omega)
          rw [show T5 Z (P.2.1 + 1) 1 = T 1 from y1] at g1 g2 g4
          rw [show T5 Z (P.2.1 + 1) 2 = Z 2 from rfl, show T5 Z (P.2.1 + 1) 3 = Z 3 from rfl] at g3
          refine ⟨g1, g2, fun j hj => ⟨(g3 j (by omega)).1.trans (k2 j hj).1, (g3 j (by omega)).2.trans (k2 j hj).2⟩, fun e => ⟨by omega, (g3 i (by omega)).1.trans v2, (g3 i (by omega)).2.trans v3, g4 e⟩⟩
        · rw [y1] at t1
          rw [t2, t3, if_pos rfl, if_pos rfl, if_neg t1]
          exact ⟨x5, ⟨x1, y1⟩, k2, fun e => by cases e⟩
