/-! the two objects: acts -/
def add2 (T : Nat → CS) (S : CS) : Nat → CS := (if (r_X4_remainder ((T 4 0 1) + (((T 4) 0) 2)) (4 : Int32)) = (0 : Int32) then (va_up (va_up T 0 (p_X2_copy (T 0) S)) 4 (va_up (T 4) 0 (upd ((T 4) 0) 2 ((((T 4) 0) 2) + (1 : Int32))))) else (if (r_X4_remainder ((T 4 0 1) + (((T 4) 0) 2)) (4 : Int32)) = (1 : Int32) then (va_up (va_up T 1 (p_X2_copy (T 1) S)) 4 (va_up (T 4) 0 (upd ((T 4) 0) 2 ((((T 4) 0) 2) + (1 : Int32))))) else (if (r_X4_remainder ((T 4 0 1) + (((T 4) 0) 2)) (4 : Int32)) = (2 : Int32) then (va_up (va_up T 2 (p_X2_copy (T 2) S)) 4 (va_up (T 4) 0 (upd ((T 4) 0) 2 ((((T 4) 0) 2) + (1 : Int32))))) else (va_up (va_up T 3 (p_X2_copy (T 3) S)) 4 (va_up (T 4) 0 (upd ((T 4) 0) 2 ((((T 4) 0) 2) + (1 : Int32))))))))
theorem add_eq (Hs : Nat → CS) (S : CS) : p_X0_add Hs S = add2 (hsTrim Hs) S := rfl
theorem rem4 (a : Nat) (h : a < 2 ^ 31) : r_X4_remainder (nI a) 4 = nI (a % 4) := by
  unfold r_X4_remainder
  rw [if_neg (by decide), show (4 : Int32) = nI 4 from rfl]
  exact pk_rem h (by decide) (by decide)
theorem add2_at {T : Nat → CS} {S : CS} {o n : Nat} (ho : o < 4) (hn : n ≤ 4) (h1 : T 4 0 1 = nI o) (h2 : T 4 0 2 = nI n) :
    add2 T S = va_up (va_up T ((o + n) % 4) (p_X2_copy (T ((o + n) % 4)) S)) 4 (va_up (T 4) 0 (upd (T 4 0) 2 (nI (n + 1)))) := by
  unfold add2
  rw [h1, h2, nI_add, rem4 _ (by omega), nI_1]
  have c : (o + n) % 4 = 0 ∨ (o + n) % 4 = 1 ∨ (o + n) % 4 = 2 ∨ (o + n) % 4 = 3 := by omega
  rcases c with c | c | c | c <;> rw [c]
  · rw [if_pos (by decide)]
  · rw [if_neg (by decide), if_pos (by decide)]
  · rw [if_neg (by decide), if_neg (by decide), if_pos (by decide)]
  · rw [if_neg (by decide), if_neg (by decide), if_neg (by decide)]
theorem HI_add {Hs : Nat → CS} (h : HI Hs) (S : CS) : HI (p_X0_add Hs S) := by
  obtain ⟨o, k, h1, h2, h3, h4⟩ := hsTrim_ok h
  rw [add_eq, add2_at h3 (by omega) h1 h2]
  refine ⟨o, k + 1, ?_, ?_, h3, by omega⟩
  · rw [va_up_s, va_up_s, fu_n (by decide)]; exact h1
  · rw [va_up_s, va_up_s, fu_s]
/-- the history and the text are in order -/
def HG (G : Nat → Nat → CS) : Prop := HI (G 1) ∧ ∃ s, TX (G 2 0) s
def RR (G P : Nat → Nat → CS) (t : Nat) : Prop := J (G 0 0) (P 0 0) t ∧ HG G ∧ HG P
/-- an act -/
def act (G : Nat → Nat → CS) (z : CS) : Nat → Nat → CS := va_up (va_up G 0 (va_up (G 0) 0 z)) 1 (p_X0_add (G 1) (G 0 0))
theorem act_0 (G : Nat → Nat → CS) (z : CS) : act G z 0 0 = z := rfl
theorem HG_act {G : Nat → Nat → CS} (h : HG G) (z : CS) : HG (act G z) := ⟨HI_add h.1 _, h.2⟩
theorem RR_act {G P : Nat → Nat → CS} {t u : Nat} {z y : CS} (h : RR G P t) (hz : J z y u) : RR (act G z) (act P y) u := ⟨hz, HG_act h.2.1 z, HG_act h.2.2 y⟩
theorem in_ok {n lo hi : Nat} (h1 : lo ≤ n) (h2 : n ≤ hi) (hh : hi < 2 ^ 31) : ¬ r_X4_isWithin (nI n) (nI lo) (nI hi) = 0 := by
  unfold r_X4_isWithin
  rw [if_neg (nI_nlt h1 (by omega)), if_neg (nI_nlt h2 (by omega))]
  decide
/-! build -/
theorem build_at (G : Nat → Nat → CS) {k : Nat} (hk : 1 ≤ k ∧ k ≤ 4) (g : Int32) : r_X4_build G (nI k) g = dpt k ∧ p_X4_build G (nI k) g = act G (va_up (p_X2_emptyRing (G 0 0) (nI k) g) 0 (upd (p_X2_emptyRing (G 0 0) (nI k) g 0) 10 0)) := by
  have c := in_ok (n := k) (lo := 1) (hi := 4) hk.1 hk.2 (by decide)
  unfold r_X4_build p_X4_build
  rw [show (1 : Int32) = nI 1 from rfl, show (4 : Int32) = nI 4 from rfl, if_neg c, if_neg c]
  exact ⟨rfl, rfl⟩
theorem JJ_build {S Z : CS} {t k : Nat} {g : Int32} (h : J S Z t) (hk : 1 ≤ k ∧ k ≤ 4) : JJ (va_up (p_X2_emptyRing S (nI k) g) 0 (upd (p_X2_emptyRing S (nI k) g 0) 10 0)) (va_up (p_X2_emptyRing Z (nI k) g) 0 (upd (p_X2_emptyRing Z (nI k) g 0) 10 0)) k t 0 0 0 := by
  obtain ⟨k0, wc, P, T, h⟩ := h
  exact JJ_wc0 (JJ_empty h hk rfl)
/-! clocks -/
theorem JJ_side {S Z A B : CS} {k t wc P T i : Nat} (h : JJ S Z k t wc P T) (hi : i = 1 ∨ i = 2) (hA : ∀ j, j ≠ i → A j = S j) (hB : ∀ j, j ≠ i → B j = Z j) (rk : RK (A i) (B i)) (ck : CK (A i) t) (e3 : A i 3 = S i 3) (e4 : A i 4 = S i 4) (e5 : A i 5 = S i 5) : JJ A B k t wc P T := by
  obtain ⟨⟨hk, hw, ht, hP, hT, bn, c1, c2, q1, q2, nu, r, hr, rT⟩, gy, rn, k1, k2, r4, rx, ry, rq, rc⟩ := h
  have RPs : ∀ {w v : F1} {c : Nat}, RP w k c → v 3 = w 3 → v 4 = w 4 → v 5 = w 5 → RP v k c := fun {w v c} h a b d => by unfold RP; rw [a, b, d]; exact h
  have hi0 : 0 ≠ i ∧ 3 ≠ i ∧ 4 ≠ i ∧ 5 ≠ i ∧ 6 ≠ i := by rcases hi with rfl | rfl <;> decide
  obtain ⟨h0, h3, h4, h5, h6⟩ := hi0
  have gy' : GY A k P T := by
    intro hg
    rw [hA 0 h0] at hg
    obtain ⟨v14, a1, a2, b1, b2, w4, w5, z4, z5, rest⟩ := gy hg
    rcases hi with rfl | rfl
    · exact ⟨by rw [hA 0 h0]; exact v14, a1, a2, b1, b2, e4.trans w4, e5.trans w5, by rw [hA 2 (by decide)]; exact z4, by rw [hA 2 (by decide)]; exact z5, rest⟩
    · exact ⟨by rw [hA 0 h0]; exact v14, a1, a2, b1, b2, by rw [hA 1 (by decide)]; exact w4, by rw [hA 1 (by decide)]; exact w5, e4.trans z4, e5.trans z5, rest⟩
  have rw0 : RW A B wc T := by
    unfold RW
    rw [hA 3 h3, hA 4 h4, hA 5 h5, hA 6 h6, hB 3 h3, hB 4 h4, hB 5 h5, hB 6 h6]
    exact ⟨r4, rx, ry, rq, rc⟩
  have hn : BN (A 0) k t wc P T ∧ RN (A 0) (B 0) ∧ NU (A 4) k P ∧ A 0 14 = nI r := by
    rw [hA 0 h0, hB 0 h0, hA 4 h4]; exact ⟨bn, rn, nu, hr⟩
  obtain ⟨m1, m2, m3, m4⟩ := hn
  rcases hi with rfl | rfl
  · exact ⟨⟨hk, hw, ht, hP, hT, m1, ck, by rw [hA 2 (by decide)]; exact c2, RPs q1 e3 e4 e5, by rw [hA 2 (by decide)]; exact q2, m3, r, m4, rT⟩, gy', m2, rk, by rw [hA 2 (by decide), hB 2 (by decide)]; exact k2, rw0⟩
  · exact ⟨⟨hk, hw, ht, hP, hT, m1, by rw [hA 1 (by decide)]; exact c1, ck, by rw [hA 1 (by decide)]; exact q1, RPs q2 e3 e4 e5, m3, r, m4, rT⟩, gy', m2, by rw [hA 1 (by decide), hB 1 (by decide)]; exact k1, rk, rw0⟩
def clk (S : CS) (i : Nat) (p f : Int32) : CS := va_up S i (upd (upd (S i) 0 p) 1 f)
theorem J_ck {S Z : CS} {t i : Nat} (h : J S Z t) (hi : i = 1 ∨ i = 2) : CK (S i) t ∧ RK (S i) (Z i) := by
  obtain ⟨k, wc, P, T, h⟩ := h
  rcases hi with rfl | rfl
  · exact ⟨h.1.2.2.2.2.2.2.1, h.2.2.2.1⟩
  · exact ⟨h.1.2.2.2.2.2.2.2.1, h.2.2.2.2.1⟩
/-- clocks set in both, or in the first alone where the second's is so already -/
theorem J_clk {S Z B : CS} {t i p f : Nat} (h : J S Z t) (hi : i = 1 ∨ i = 2) (p1 : 1 ≤ p) (p2 : p ≤ 50) (f1 : f ≤ 49) (hB : B = clk Z i (nI p) (nI (f % p)) ∨ (B = Z ∧ Z i 0 = nI p ∧ Z i 1 = nI (f % p))) : J (clk S i (nI p) (nI f)) B t := by
  obtain ⟨⟨q, g, x, y, -, -, -, -, -, h6, h7, yx, xt⟩, ⟨e0, e2, e3, e4, e5, e6, e7, -⟩⟩ := J_ck h hi
  obtain ⟨k, wc, P, T, h⟩ := h
  have c0 : clk S i (nI p) (nI f) i = upd (upd (S i) 0 (nI p)) 1 (nI f) := va_up_s
  refine ⟨k, wc, P, T, JJ_side h hi (fun j hj => va_up_n hj) ?_ ?_ ?_ ?_ ?_ ?_⟩
  · rcases hB with rfl | ⟨rfl, -⟩
    · exact fun j hj => va_up_n hj
    · exact fun _ _ => rfl
  · rw [c0]
    rcases hB with rfl | ⟨rfl, z0, z1⟩
    · rw [show clk Z i (nI p) (nI (f % p)) i = upd (upd (Z i) 0 (nI p)) 1 (nI (f % p)) from va_up_s]
      exact ⟨rfl, e2, e3, e4, e5, e6, e7, p, f, rfl, p1, p2, rfl, f1, rfl⟩
    · exact ⟨z0, e2, e3, e4, e5, e6, e7, p, f, rfl, p1, p2, rfl, f1, z1⟩
  · rw [c0]; exact ⟨p, f, x, y, rfl, p1, p2, rfl, f1, h6, h7, yx, xt⟩
  · rw [c0]; rfl
  · rw [c0]; rfl
  · rw [c0]; rfl
theorem setClock_at (G : Nat → Nat → CS) {s p f : Nat} (hs : s = 0 ∨ s = 1) (p1 : 1 ≤ p) (p2 : p ≤ 50) (f1 : f ≤ 49) :
    (G 0 0 (s + 1) 0 = nI p ∧ G 0 0 (s + 1) 1 = nI f ∧ r_X4_setClock G (nI s) (nI p) (nI f) = -5 ∧ p_X4_setClock G (nI s) (nI p) (nI f) = G) ∨
    (¬ (G 0 0 (s + 1) 0 = nI p ∧ G 0 0 (s + 1) 1 = nI f) ∧ r_X4_setClock G (nI s) (nI p) (nI f) = G 0 0 (s + 1) 0 ∧ p_X4_setClock G (nI s) (nI p) (nI f) = act G (clk (G 0 0) (s + 1) (nI p) (nI f))) := by
  have c1 := in_ok (n := p) (lo := 1) (hi := 50) p1 p2 (by decide)
  have c2 := in_ok (n := f) (lo := 0) (hi := 49) (Nat.zero_le _) f1 (by decide)
  rw [show nI 1 = (1 : Int32) from rfl, show nI 50 = (50 : Int32) from rfl] at c1
  rw [show nI 0 = (0 : Int32) from rfl, show nI 49 = (49 : Int32) from rfl] at c2
  unfold r_X4_setClock p_X4_setClock
  rcases hs with rfl | rfl
  · have c0 : ¬ r_X4_isSide (nI 0) = 0 := by decide
    rw [if_neg c0, if_neg c1, if_neg c2, if_pos (show nI 0 = 0 from rfl), if_neg c0, if_neg c1, if_neg c2, if_pos (show nI 0 = 0 from rfl)]
    by_cases d : G 0 0 1 0 = nI p
    · rw [if_pos d, if_pos d]
      by_cases e : G 0 0 1 1 = nI f
      · rw [if_pos e, if_pos e]; exact Or.inl ⟨d, e, rfl, rfl⟩
      · rw [if_neg e, if_neg e]; exact Or.inr ⟨fun z => e z.2, rfl, rfl⟩
    · rw [if_neg d, if_neg d]; exact Or.inr ⟨fun z => d z.1, rfl, rfl⟩
  · have c0 : ¬ r_X4_isSide (nI 1) = 0 := by decide
    have c3 : ¬ nI 1 = 0 := by decide
    rw [if_neg c0, if_neg c1, if_neg c2, if_neg c3, if_neg c0, if_neg c1, if_neg c2, if_neg c3]
    by_cases d : G 0 0 2 0 = nI p
    · rw [if_pos d, if_pos d]
      by_cases e : G 0 0 2 1 = nI f
      · rw [if_pos e, if_pos e]; exact Or.inl ⟨d, e, rfl, rfl⟩
      · rw [if_neg e, if_neg e]; exact Or.inr ⟨fun z => e z.2, rfl, rfl⟩
    · rw [if_neg d, if_neg d]; exact Or.inr ⟨fun z => d z.1, rfl, rfl⟩
/-- the law's setClock, of both -/
theorem RR_clock {G P : Nat → Nat → CS} {t s p f : Nat} (h : RR G P t) (hs : s = 0 ∨ s = 1) (p1 : 1 ≤ p) (p2 : p ≤ 50) (f1 : f ≤ 49) :
    r_X4_setClock G (nI s) (nI p) (nI f) = (if G 0 0 (s + 1) 0 = nI p ∧ G 0 0 (s + 1) 1 = nI f then -5 else G 0 0 (s + 1) 0) ∧ (r_X4_setClock P (nI s) (nI p) (nI (f % p)) = G 0 0 (s + 1) 0 ∨ r_X4_setClock P (nI s) (nI p) (nI (f % p)) = -5) ∧ RR (p_X4_setClock G (nI s) (nI p) (nI f)) (p_X4_setClock P (nI s) (nI p) (nI (f % p))) t := by
  have hi : s + 1 = 1 ∨ s + 1 = 2 := by omega
  have hf : f % p ≤ 49 := Nat.le_trans (Nat.mod_le _ _) f1
  obtain ⟨-, rk⟩ := J_ck h.1 hi
  have z0 : P 0 0 (s + 1) 0 = G 0 0 (s + 1) 0 := rk.1
  rcases setClock_at P hs p1 p2 hf with ⟨b1, b2, b3, b4⟩ | ⟨b1, b2, b3⟩
  · rcases setClock_at G hs p1 p2 f1 with ⟨a1, a2, a3, a4⟩ | ⟨a1, a2, a3⟩
    · rw [if_pos ⟨a1, a2⟩, a3, a4, b3, b4]; exact ⟨rfl, Or.inr rfl, h⟩
    · rw [if_neg a1, a2, a3, b3, b4]
      exact ⟨rfl, Or.inr rfl, J_clk h.1 hi p1 p2 f1 (Or.inr ⟨rfl, b1, b2⟩), HG_act h.2.1 _, h.2.2⟩
  · rcases setClock_at G hs p1 p2 f1 with ⟨a1, a2, a3, a4⟩ | ⟨a1, a2, a3⟩
    · exfalso
      obtain ⟨-, -, -, -, -, -, -, q, g, w0, q1, q2, w1, g1, v1⟩ := rk
      apply b1
      refine ⟨z0.trans a1, ?_⟩
      rw [a1] at w0
      rw [a2] at w1
      have e1 : p = q := (nI_eq (by omega) (by omega)).mp w0
      have e2 : f = g := (nI_eq (by omega) (by omega)).mp w1
      rw [v1, ← e1, ← e2]
    · rw [if_neg a1, a2, a3, b2, b3, z0]
      exact ⟨rfl, Or.inl rfl, RR_act h (J_clk h.1 hi p1 p2 f1 (Or.inl rfl))⟩
/-! start -/
def gos (S : CS) (i : Nat) (g : Int32) : CS := va_up S i (upd (S i) 2 g)
theorem J_gos {S Z : CS} {t i : Nat} {g : Int32} (h : J S Z t) (hi : i = 1 ∨ i = 2) : J (gos S i g) (gos Z i g) t := by
  obtain ⟨⟨q, a, x, y, h0, q1, q2, h1, a1, h6, h7, yx, xt⟩, ⟨e0, e2, e3, e4, e5, e6, e7, p, f, w0, p1, p2, w1, f1, v1⟩⟩ := J_ck h hi
  obtain ⟨k, wc, P, T, h⟩ := h
  have c0 : gos S i g i = upd (S i) 2 g := va_up_s
  have c1 : gos Z i g i = upd (Z i) 2 g := va_up_s
  refine ⟨k, wc, P, T, JJ_side h hi (fun j hj => va_up_n hj) (fun j hj => va_up_n hj) ?_ ?_ ?_ ?_ ?_⟩
  · rw [c0, c1]; exact ⟨e0, rfl, e3, e4, e5, e6, e7, p, f, w0, p1, p2, w1, f1, v1⟩
  · rw [c0]; exact ⟨q, a, x, y, h0, q1, q2, h1, a1, h6, h7, yx, xt⟩
  · rw [c0]; rfl
  · rw [c0]; rfl
  · rw [c0]; rfl
theorem start_at (G : Nat → Nat → CS) {s : Nat} (g : Int32) (hs : s = 0 ∨ s = 1) :
    (nb (G 0 0 (s + 1) 2) = nb g ∧ r_X4_start G (nI s) g = -5 ∧ p_X4_start G (nI s) g = G) ∨ (¬ nb (G 0 0 (s + 1) 2) = nb g ∧ r_X4_start G (nI s) g = G 0 0 0 2 ∧ p_X4_start G (nI s) g = act G (gos (G 0 0) (s + 1) g)) := by
  unfold r_X4_start p_X4_start
  rcases hs with rfl | rfl
  · have c0 : ¬ r_X4_isSide (nI 0) = 0 := by decide
    rw [if_neg c0, if_pos (show nI 0 = 0 from rfl), if_neg c0, if_pos (show nI 0 = 0 from rfl)]
    by_cases d : nb (G 0 0 1 2) = nb g
    · rw [if_pos d, if_pos d]; exact Or.inl ⟨d, rfl, rfl⟩
    · rw [if_neg d, if_neg d]; exact Or.inr ⟨d, rfl, rfl⟩
  · have c0 : ¬ r_X4_isSide (nI 1) = 0 := by decide
    have c3 : ¬ nI 1 = 0 := by decide
    rw [if_neg c0, if_neg c3, if_neg c0, if_neg c3]
    by_cases d : nb (G 0 0 2 2) = nb g
    · rw [if_pos d, if_pos d]; exact Or.inl ⟨d, rfl, rfl⟩
    · rw [if_neg d, if_neg d]; exact Or.inr ⟨d, rfl, rfl⟩
theorem RR_start {G P : Nat → Nat → CS} {t s : Nat} {g : Int32} (h : RR G P t) (hs : s = 0 ∨ s = 1) :
    r_X4_start P (nI s) g = r_X4_start G (nI s) g ∧ (r_X4_start G (nI s) g = -5 ∨ r_X4_start G (nI s) g = nI t) ∧ RR (p_X4_start G (nI s) g) (p_X4_start P (nI s) g) t ∧ nb (p_X4_start G (nI s) g 0 0 (s + 1) 2) = nb g := by
  have hi : s + 1 = 1 ∨ s + 1 = 2 := by omega
  obtain ⟨-, rk⟩ := J_ck h.1 hi
  have z0 : nb (P 0 0 (s + 1) 2) = nb (G 0 0 (s + 1) 2) := rk.2.1
  obtain ⟨n1, n2, -⟩ := J_time h.1
  rcases start_at G g hs with ⟨a1, a2, a3⟩ | ⟨a1, a2, a3⟩
  · rcases start_at P g hs with ⟨b1, b2, b3⟩ | ⟨b1, b2, b3⟩
    · rw [a2, a3, b2, b3]; exact ⟨rfl, Or.inl rfl, h, a1⟩
    · exact absurd (z0.trans a1) b1
  · rcases start_at P g hs with ⟨b1, b2, b3⟩ | ⟨b1, b2, b3⟩
    · exact absurd (z0.symm.trans b1) a1
    · rw [a2, a3, b2, b3, n1, n2]
      refine ⟨rfl, Or.inr rfl, RR_act h (J_gos h.1 hi), ?_⟩
      rw [act_0, show gos (G 0 0) (s + 1) g (s + 1) = upd (G 0 0 (s + 1)) 2 g from va_up_s]; rfl
/-! set -/
theorem J_set {S Z : CS} {t i : Nat} (v : Int32) (h : J S Z t) (hi : i = 3 ∨ i = 4) : J (va_up S 0 (upd (S 0) i v)) (va_up Z 0 (upd (Z 0) i v)) t := by
  obtain ⟨k, wc, P, T, ⟨hk, hw, ht, hP, hT, ⟨n0, n2, n10, n12, n13⟩, c1, c2, q1, q2, nu, r, hr, rT⟩, gy, ⟨x0, x1, x2, x3, x4, x10, x12, x13, x14⟩, k1, k2, r4, rn, rw', rq, rc⟩ := h
  rcases hi with rfl | rfl
  · exact ⟨k, wc, P, T, ⟨hk, hw, ht, hP, hT, ⟨n0, n2, n10, n12, n13⟩, c1, c2, q1, q2, nu, r, hr, rT⟩, gy, ⟨x0, x1, x2, rfl, x4, x10, x12, x13, x14⟩, k1, k2, r4, rn, rw', rq, rc⟩
  · exact ⟨k, wc, P, T, ⟨hk, hw, ht, hP, hT, ⟨n0, n2, n10, n12, n13⟩, c1, c2, q1, q2, nu, r, hr, rT⟩, gy, ⟨x0, x1, x2, x3, rfl, x10, x12, x13, x14⟩, k1, k2, r4, rn, rw', rq, rc⟩
theorem set_at (G : Nat → Nat → CS) {s v : Nat} (hs : s = 0 ∨ s = 1) (hv : v ≤ 15) :
    (G 0 0 0 (s + 3) = nI v ∧ r_X4_set G (nI s) (nI v) = -5 ∧ p_X4_set G (nI s) (nI v) = G) ∨ (¬ G 0 0 0 (s + 3) = nI v ∧ r_X4_set G (nI s) (nI v) = G 0 0 0 (s + 3) ∧ p_X4_set G (nI s) (nI v) = act G (va_up (G 0 0) 0 (upd (G 0 0 0) (s + 3) (nI v)))) := by
  have c2 := in_ok (n := v) (lo := 0) (hi := 15) (Nat.zero_le _) hv (by decide)
  rw [show nI 0 = (0 : Int32) from rfl, show nI 15 = (15 : Int32) from rfl] at c2
  unfold r_X4_set p_X4_set
  rcases hs with rfl | rfl
  · have c1 : ¬ r_X4_isWithin (nI 0) 0 1 = 0 := by decide
    rw [if_neg c1, if_neg c2, if_pos (show nI 0 = 0 from rfl), if_neg c1, if_neg c2]
    dsimp only
    by_cases d : G 0 0 0 3 = nI v
    · rw [if_pos d, if_pos d]; exact Or.inl ⟨d, rfl, rfl⟩
    · rw [if_neg d, if_neg d, if_pos (show nI 0 = 0 from rfl), if_pos (show nI 0 = 0 from rfl)]; exact Or.inr ⟨d, rfl, rfl⟩
  · have c1 : ¬ r_X4_isWithin (nI 1) 0 1 = 0 := by decide
    have c3 : ¬ nI 1 = 0 := by decide
    rw [if_neg c1, if_neg c2, if_neg c3, if_neg c1, if_neg c2]
    dsimp only
    by_cases d : G 0 0 0 4 = nI v
    · rw [if_pos d, if_pos d]; exact Or.inl ⟨d, rfl, rfl⟩
    · rw [if_neg d, if_neg d, if_neg c3, if_neg c3]; exact Or.inr ⟨d, rfl, rfl⟩
theorem RR_set {G P : Nat → Nat → CS} {t s v : Nat} (h : RR G P t) (hs : s = 0 ∨ s = 1) (hv : v ≤ 15) :
    r_X4_set P (nI s) (nI v) = r_X4_set G (nI s) (nI v) ∧ RR (p_X4_set G (nI s) (nI v)) (p_X4_set P (nI s) (nI v)) t ∧ p_X4_set G (nI s) (nI v) 0 0 0 (s + 3) = nI v := by
  have z0 : P 0 0 0 (s + 3) = G 0 0 0 (s + 3) := by
    obtain ⟨k, wc, Q, T, -, -, ⟨x0, x1, x2, x3, x4, -⟩, -⟩ := h.1
    rcases hs with rfl | rfl
    · exact x3
    · exact x4
  rcases set_at G hs hv with ⟨a1, a2, a3⟩ | ⟨a1, a2, a3⟩
  · rcases set_at P hs hv with ⟨b1, b2, b3⟩ | ⟨b1, b2, b3⟩
    · rw [a2, a3, b2, b3]; exact ⟨rfl, h, a1⟩
    · exact absurd (z0.trans a1) b1
  · rcases set_at P hs hv with ⟨b1, b2, b3⟩ | ⟨b1, b2, b3⟩
    · exact absurd (z0.symm.trans b1) a1
    · rw [a2, a3, b2, b3]
      refine ⟨z0, RR_act h (J_set _ h.1 (by omega)), ?_⟩
      rw [act_0, va_up_s, fu_s]
/-! push -/
theorem letWait1 {S : CS} {wc : Nat} (h : S 0 10 = nI wc) (hw : wc < 20) (x : Int32) : p_X2_letWait S x 1 = wtw S x := by
  have e : S 0 10 + 1 ≤ (20 : Int32) := by rw [h, nI_1]; exact nI_le (b := 20) hw (by decide)
  unfold p_X2_letWait
  rw [if_pos e, show ((1 : Int32).toInt - (0 : Int32).toInt).toNat + 1 = 2 from rfl]
  unfold lp_X2_letWait_15
  rw [if_neg (show ¬ (1 : Int32) ≤ 0 by decide)]
  dsimp only
  unfold lp_X2_letWait_15
  rw [if_pos (show (1 : Int32) ≤ 0 + 1 by decide)]
  rfl
theorem RR_push {G P : Nat → Nat → CS} {t w : Nat} (h : RR G P t) (hw : w ≤ 99) : ∃ wc, G 0 0 0 10 = nI wc ∧ wc ≤ 20 ∧ r_X4_push P (nI (99 - w)) = r_X4_push G (nI w) ∧ RR (p_X4_push G (nI w)) (p_X4_push P (nI (99 - w))) t ∧ ((wc = 20 ∧ r_X4_push G (nI w) = -3) ∨ (wc < 20 ∧ r_X4_push G (nI w) = nI (wc + 1) ∧ p_X4_push G (nI w) 0 0 0 10 = nI (wc + 1) ∧ p_X4_push G (nI w) 0 0 5 wc = nI w)) := by
  obtain ⟨k, wc, Q, T, hJ⟩ := id h.1
  have n10 : G 0 0 0 10 = nI wc := hJ.1.2.2.2.2.2.1.2.2.1
  have x10 : P 0 0 0 10 = nI wc := hJ.2.2.1.2.2.2.2.2.1.trans n10
  have hwc := hJ.1.2.1
  have c1 := in_ok (n := w) (lo := 0) (hi := 99) (Nat.zero_le _) hw (by decide)
  have c2 := in_ok (n := 99 - w) (lo := 0) (hi := 99) (Nat.zero_le _) (by omega) (by decide)
  rw [show nI 0 = (0 : Int32) from rfl, show nI 99 = (99 : Int32) from rfl] at c1 c2
  refine ⟨wc, n10, hwc, ?_⟩
  unfold r_X4_push p_X4_push
  rw [if_neg c1, if_neg c2, if_neg c1, if_neg c2]
  rcases Nat.lt_or_ge wc 20 with q | q
  · have l1 : G 0 0 0 10 < (20 : Int32) := by rw [n10]; exact nI_lt (b := 20) q (by decide)
    have l2 : P 0 0 0 10 < (20 : Int32) := by rw [x10]; exact nI_lt (b := 20) q (by decide)
    rw [if_pos l1, if_pos l2, if_pos l1, if_pos l2]
    dsimp only
    rw [letWait1 n10 q, letWait1 x10 q]
    obtain ⟨m1, m2⟩ := JJ_wait (x := nI w) (y := nI (99 - w)) hJ q ⟨w, hw, rfl, rfl⟩
    have e1 : wtw (G 0 0) (nI w) 0 10 = nI (wc + 1) := m1.1.2.2.2.2.2.1.2.2.1
    have e2 : wtw (P 0 0) (nI (99 - w)) 0 10 = nI (wc + 1) := m1.2.2.1.2.2.2.2.2.1.trans e1
    rw [e1, e2]
    refine ⟨rfl, RR_act (z := wtw (G 0 0) (nI w)) (y := wtw (P 0 0) (nI (99 - w))) h ⟨k, wc + 1, Q, T, m1⟩, Or.inr ⟨q, rfl, e1, m2⟩⟩
  · have l1 : ¬ G 0 0 0 10 < (20 : Int32) := by rw [n10]; exact nI_nlt (b := 20) q (by omega)
    have l2 : ¬ P 0 0 0 10 < (20 : Int32) := by rw [x10]; exact nI_nlt (b := 20) q (by omega)
    rw [if_neg l1, if_neg l2, if_neg l1, if_neg l2]
    exact ⟨rfl, h, Or.inl ⟨by omega, rfl⟩⟩
/-! pass -/
theorem RR_pass {G P : Nat → Nat → CS} {t n : Nat} (h : RR G P t) (n1 : 1 ≤ n) (n2 : n ≤ 500) (ht : t + n ≤ 1000000) : r_X4_pass P (nI n) = r_X4_pass G (nI n) ∧ RR (p_X4_pass G (nI n)) (p_X4_pass P (nI n)) (t + n) ∧ p_X4_pass G (nI n) 0 0 0 13 = G 0 0 0 13 + r_X4_pass G (nI n) := by
  have c1 := in_ok (n := n) (lo := 1) (hi := 500) n1 n2 (by decide)
  rw [show nI 1 = (1 : Int32) from rfl, show nI 500 = (500 : Int32) from rfl] at c1
  obtain ⟨e1, e2, -⟩ := J_time h.1
  have c2 : ∀ S : CS, S 0 2 = nI t → ¬ r_X2_hasTimeFor S (nI n) = 0 := by
    intro S e
    unfold r_X2_hasTimeFor
    rw [e, nI_add, if_neg (show ¬ (1000000 : Int32) < nI (t + n) from nI_nlt (a := 1000000) ht (by decide))]
    decide
  have hJ := J_pass (n := n) h.1 (by omega)
  have e13 : p_X2_letPass (P 0 0) (nI n) 0 13 = p_X2_letPass (G 0 0) (nI n) 0 13 ∧ P 0 0 0 13 = G 0 0 0 13 := by
    obtain ⟨k, wc, Q, T, -, -, ⟨-, -, -, -, -, -, -, x13, -⟩, -⟩ := hJ
    obtain ⟨k, wc, Q, T, -, -, ⟨-, -, -, -, -, -, -, y13, -⟩, -⟩ := h.1
    exact ⟨x13, y13⟩
  unfold r_X4_pass p_X4_pass
  rw [if_neg c1, if_neg (c2 _ e1), if_neg c1, if_neg (c2 _ e2), if_neg c1, if_neg (c2 _ e1), if_neg c1, if_neg (c2 _ e2)]
  dsimp only
  rw [e13.1, e13.2]
  refine ⟨rfl, RR_act (z := p_X2_letPass (G 0 0) (nI n)) (y := p_X2_letPass (P 0 0) (nI n)) h hJ, ?_⟩
  show p_X2_letPass (G 0 0) (nI n) 0 13 = _
  rw [Int32.sub_eq_add_neg, Int32.add_comm (p_X2_letPass (G 0 0) (nI n) 0 13), ← Int32.add_assoc, Int32.add_right_neg, Int32.zero_add]
