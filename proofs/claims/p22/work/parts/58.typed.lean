/-! texts as lists of signs, and what the law types -/
def sgL : List Nat → Nat → Int32
  | [], _ => -1
  | a :: _, 0 => nI a
  | _ :: s, c + 1 => sgL s c
theorem sgL_out : ∀ (s : List Nat) (c : Nat), s.length ≤ c → sgL s c = -1
  | [], _, _ => rfl
  | _ :: s, 0, h => absurd h (by rw [List.length_cons]; omega)
  | _ :: s, c + 1, h => sgL_out s c (by rw [List.length_cons] at h; omega)
theorem sgL_app : ∀ (s r : List Nat) (i : Nat), sgL (s ++ r) (s.length + i) = sgL r i
  | [], r, i => by rw [List.nil_append, List.length_nil, Nat.zero_add]
  | a :: s, r, i => by
    rw [List.cons_append, List.length_cons, show s.length + 1 + i = (s.length + i) + 1 by omega]
    exact sgL_app s r i
theorem sgL_l : ∀ (s r : List Nat) (i : Nat), i < s.length → sgL (s ++ r) i = sgL s i
  | [], r, i, h => absurd h (Nat.not_lt_zero _)
  | a :: s, r, 0, h => rfl
  | a :: s, r, i + 1, h => sgL_l s r i (by rw [List.length_cons] at h; omega)
/-- the text's signs are those of the list -/
def TX (T : CS) (s : List Nat) : Prop := s.length ≤ 60 ∧ T 0 1 = nI s.length ∧ ∀ i, i < s.length → T 1 i = sgL s i
theorem TX_sg {T : CS} {s : List Nat} (h : TX T s) : sg (T 1) s.length = sgL s := by
  funext c
  by_cases q : c < s.length
  · rw [sg_in q]; exact h.2.2 c q
  · rw [sg_out q]; exact (sgL_out s c (by omega)).symm
theorem nar_n {a : Nat} (ha : a < 65536) : vp_nar .char (nI a) = nI a := by
  unfold vp_nar
  rw [(pk_charN ha).1]
theorem TX_app {T : CS} {s : List Nat} {a : Nat} (h : TX T s) (hs : s.length < 60) (ha : a < 65536) : r_X3_append T (nI a) = 1 ∧ TX (p_X3_append T (nI a)) (s ++ [a]) ∧ p_X3_append T (nI a) 0 1 = nI (s.length + 1) := by
  obtain ⟨h1, h2, h3⟩ := h
  have c0 : ¬ T 0 1 < 0 := by rw [h2]; exact nI_pos (by omega)
  have c1 : T 0 1 < 60 := by rw [h2]; exact nI_lt (b := 60) hs (by decide)
  unfold r_X3_append p_X3_append
  rw [if_neg c0, if_pos c1, if_neg c0, if_pos c1, nar_n ha, h2, nI_1, nI_clamp (by omega)]
  refine ⟨rfl, ⟨?_, ?_, fun i hi => ?_⟩, rfl⟩
  · rw [List.length_append, List.length_singleton]; omega
  · rw [List.length_append, List.length_singleton]; rfl
  · rw [List.length_append, List.length_singleton] at hi
    show upd (T 1) s.length (nI a) i = _
    by_cases d : i = s.length
    · subst d
      rw [fu_s]
      exact (sgL_app s [a] 0).symm
    · rw [fu_n d, sgL_l s [a] i (by omega)]; exact h3 i (by omega)
/-- what typing leaves -/
def KT (G' G : Nat → Nat → CS) : Prop := G' 0 = G 0 ∧ G' 1 = G 1
theorem KT.rfl' (G : Nat → Nat → CS) : KT G G := ⟨rfl, rfl⟩
theorem KT.trans {a b c : Nat → Nat → CS} (h : KT b a) (g : KT c b) : KT c a := ⟨g.1.trans h.1, g.2.trans h.2⟩
theorem type_at {G : Nat → Nat → CS} {s : List Nat} {a : Nat} (h : TX (G 2 0) s) (hs : s.length < 60) (ha : a < 65536) : ¬ r_X4_type G (nI a) ≤ 0 ∧ TX (p_X4_type G (nI a) 2 0) (s ++ [a]) ∧ KT (p_X4_type G (nI a)) G := by
  obtain ⟨h1, h2, h3⟩ := TX_app h hs ha
  unfold r_X4_type p_X4_type
  dsimp only
  rw [h1, if_neg (show ¬ (1 : Int32) = 0 by decide), if_neg (show ¬ (1 : Int32) = 0 by decide), h3]
  refine ⟨nI_nle (by omega) (by omega), ?_, va_up_n (by decide), va_up_n (by decide)⟩
  rw [va_up_s, va_up_s]; exact h2
def num (v : Nat) : List Nat := if v < 10 then [48 + v] else [48 + v / 10, 48 + v % 10]
theorem num_len (v : Nat) : 1 ≤ (num v).length ∧ (num v).length ≤ 2 := by
  unfold num
  split
  · show 1 ≤ 1 ∧ 1 ≤ 2; decide
  · show 1 ≤ 2 ∧ 2 ≤ 2; decide
theorem chr_n {n : Nat} (h : n < 65536) : ((nI n).toUInt32 % 65536).toInt32 = nI n := by
  rw [pk_char, pk_tn (by omega), Nat.mod_eq_of_lt h]
theorem number_at {G : Nat → Nat → CS} {s : List Nat} {v : Nat} (h : TX (G 2 0) s) (hs : s.length + 2 ≤ 60) (hv : v ≤ 99) : r_L_number G (nI v) = 1 ∧ TX (p_L_number G (nI v) 2 0) (s ++ num v) ∧ KT (p_L_number G (nI v)) G := by
  have e1 : ((48 : Int32) + (nI v - nI v / (10 : Int32) * (10 : Int32))) = nI (48 + v % 10) := by
    rw [show (10 : Int32) = nI 10 from rfl, pk_rem (by omega) (by decide) (by decide), show (48 : Int32) = nI 48 from rfl, nI_add]
  have e2 : ((48 : Int32) + (nI v / (10 : Int32))) = nI (48 + v / 10) := by
    rw [show (10 : Int32) = nI 10 from rfl, pk_div (by omega) (by decide) (by decide), show (48 : Int32) = nI 48 from rfl, nI_add]
  unfold r_L_number p_L_number num
  rw [e1, e2, chr_n (by omega), chr_n (by omega)]
  dsimp only
  rcases Nat.lt_or_ge v 10 with q | q
  · have c : nI v < (10 : Int32) := nI_lt (b := 10) q (by decide)
    obtain ⟨t1, t2, t3⟩ := type_at (a := 48 + v % 10) h (by omega) (by omega)
    rw [if_pos c, if_pos c, if_neg t1, if_neg t1, if_pos q]
    rw [Nat.mod_eq_of_lt q] at t2 t3 ⊢
    exact ⟨rfl, t2, t3⟩
  · have c : ¬ nI v < (10 : Int32) := nI_nlt (b := 10) q (by omega)
    obtain ⟨t1, t2, t3⟩ := type_at (a := 48 + v / 10) h (by omega) (by omega)
    have l1 : (s ++ [48 + v / 10]).length < 60 := by rw [List.length_append, List.length_singleton]; omega
    obtain ⟨u1, u2, u3⟩ := type_at (a := 48 + v % 10) t2 l1 (by omega)
    rw [if_neg c, if_neg c, if_neg t1, if_neg u1, if_neg t1, if_neg u1, if_neg (by omega)]
    refine ⟨rfl, ?_, t3.trans u3⟩
    rw [List.append_assoc] at u2
    exact u2
/-- a part: a word and how often, or (100) times that pass -/
def okp (p : Nat × Nat) : Prop := (p.1 = 100 ∧ 1 ≤ p.2 ∧ p.2 ≤ 60) ∨ (p.1 ≤ 99 ∧ 1 ≤ p.2 ∧ p.2 ≤ 3)
def flp (p : Nat × Nat) : Nat × Nat := if p.1 = 100 then p else (99 - p.1, p.2)
def ren (p : Nat × Nat) : List Nat := if p.1 = 100 then 46 :: num p.2 else if p.2 < 2 then num p.1 else num p.1 ++ 120 :: num p.2
def tl : List (Nat × Nat) → List Nat
  | [] => []
  | p :: l => 44 :: (ren p ++ tl l)
def rl : List (Nat × Nat) → List Nat
  | [] => []
  | p :: l => ren p ++ tl l
def vl (p : Nat × Nat) : Int32 × Int32 := (if p.1 = 100 then -1 else nI p.1, nI p.2)
theorem tl_app : ∀ (l : List (Nat × Nat)) (p : Nat × Nat), tl (l ++ [p]) = tl l ++ 44 :: ren p
  | [], p => by
    show 44 :: (ren p ++ tl []) = 44 :: ren p
    rw [show tl [] = [] from rfl, List.append_nil]
  | q :: l, p => by
    show 44 :: (ren q ++ tl (l ++ [p])) = 44 :: (ren q ++ tl l) ++ 44 :: ren p
    rw [tl_app l p, List.cons_append, List.append_assoc]
theorem rl_app (l : List (Nat × Nat)) (p : Nat × Nat) : rl (l ++ [p]) = (if l.length = 0 then rl l else rl l ++ [44]) ++ ren p := by
  cases l with
  | nil =>
    rw [if_pos (show ([] : List (Nat × Nat)).length = 0 from rfl)]
    show ren p ++ tl [] = [] ++ ren p
    rw [show tl [] = [] from rfl, List.append_nil, List.nil_append]
  | cons q l =>
    rw [if_neg (by rw [List.length_cons]; omega)]
    show ren q ++ tl (l ++ [p]) = ren q ++ tl l ++ [44] ++ ren p
    rw [tl_app, List.append_assoc, List.append_assoc, List.singleton_append]
theorem flp_ok {p : Nat × Nat} (h : okp p) : okp (flp p) := by
  unfold flp
  rcases h with ⟨h1, h2, h3⟩ | ⟨h1, h2, h3⟩
  · rw [if_pos h1]; exact Or.inl ⟨h1, h2, h3⟩
  · rw [if_neg (by omega)]; exact Or.inr ⟨by show 99 - p.1 ≤ 99; omega, h2, h3⟩
theorem ren_len {p : Nat × Nat} (h : okp p) : 1 ≤ (ren p).length ∧ (ren p).length ≤ 5 := by
  have a := num_len p.1
  have b := num_len p.2
  unfold ren
  split
  · rw [List.length_cons]; omega
  · split
    · omega
    · rw [List.length_append, List.length_cons]; omega
theorem tl_len : ∀ (l : List (Nat × Nat)), (∀ p ∈ l, okp p) → (tl l).length ≤ 6 * l.length
  | [], _ => Nat.le_refl _
  | p :: l, h => by
    have a := ren_len (h p (List.mem_cons_self ..))
    have b := tl_len l (fun q hq => h q (List.mem_cons_of_mem _ hq))
    show (44 :: (ren p ++ tl l)).length ≤ _
    rw [List.length_cons, List.length_append, List.length_cons]; omega
theorem rl_len (l : List (Nat × Nat)) (h : ∀ p ∈ l, okp p) : (rl l).length ≤ 6 * l.length := by
  cases l with
  | nil => exact Nat.le_refl _
  | cons p l =>
    have a := ren_len (h p (List.mem_cons_self ..))
    have b := tl_len l (fun q hq => h q (List.mem_cons_of_mem _ hq))
    show (ren p ++ tl l).length ≤ _
    rw [List.length_append, List.length_cons]; omega
/-! reading what was typed -/
theorem dg_n {s : F1} {c d : Nat} (h : s c = nI (48 + d)) (hd : d ≤ 9) : dg s c = nI d := by
  unfold dg
  rw [h, if_neg (show ¬ nI (48 + d) < (48 : Int32) from nI_nlt (b := 48) (by omega) (by omega)), if_pos (show nI (48 + d) ≤ (57 : Int32) from nI_le (b := 57) (by omega) (by decide)), show (48 : Int32) = nI 48 from rfl, pk_sub (by omega)]
  exact congrArg nI (by omega)
theorem dg_o {s : F1} {c : Nat} (h : s c = -1 ∨ s c = 44 ∨ s c = 120) : dg s c = -1 := by
  unfold dg
  rcases h with e | e | e <;> rw [e] <;> decide
theorem nxN_n {s : F1} {c v lo : Nat} {rest : List Nat} (hs : ∀ i, s (c + i) = sgL (num v ++ rest) i) (hr : sgL rest 0 = -1 ∨ sgL rest 0 = 44 ∨ sgL rest 0 = 120) (hlo : lo ≤ 1) (hv : lo ≤ v) (hv9 : v ≤ 99) : nxN s c (nI lo) = (c + (num v).length, nI v) := by
  unfold nxN
  unfold num at hs ⊢
  rcases Nat.lt_or_ge v 10 with q | q
  · rw [if_pos q] at hs ⊢
    have d0 : dg s c = nI v := dg_n (show s c = nI (48 + v) from hs 0) (by omega)
    have d1 : dg s (c + 1) = -1 := dg_o (by rw [hs 1]; exact hr)
    rw [d0, d1, if_pos (nI_le hv (by omega))]
    by_cases z : nI v = 0
    · rw [if_pos z]; rfl
    · rw [if_neg z, if_pos rfl]; rfl
  · rw [if_neg (show ¬ v < 10 by omega)] at hs ⊢
    have d0 : dg s c = nI (v / 10) := dg_n (show s c = nI (48 + v / 10) from hs 0) (by omega)
    have d1 : dg s (c + 1) = nI (v % 10) := dg_n (show s (c + 1) = nI (48 + v % 10) from hs 1) (by omega)
    rw [d0, d1, if_pos (nI_le (by omega) (by omega)), if_neg (nI_ne0 (by omega) (by omega)), if_neg (nI_nm1 (by omega)), show (10 : Int32) = nI 10 from rfl, pk_mul, nI_add, show v / 10 * 10 + v % 10 = v by omega]
    rfl
theorem hd_num {v : Nat} {rest : List Nat} (hv : v ≤ 99) : ∃ d, d ≤ 9 ∧ sgL (num v ++ rest) 0 = nI (48 + d) := by
  unfold num
  rcases Nat.lt_or_ge v 10 with q | q
  · rw [if_pos q]; exact ⟨v, by omega, rfl⟩
  · rw [if_neg (by omega)]; exact ⟨v / 10, by omega, rfl⟩
theorem nxP_r {s : F1} {c : Nat} {p : Nat × Nat} {rest : List Nat} (hp : okp p) (hs : ∀ i, s (c + i) = sgL (ren p ++ rest) i) (hr : sgL rest 0 = -1 ∨ sgL rest 0 = 44) : nxP s c = (1, c + (ren p).length, (vl p).1, (vl p).2) := by
  have hr' : sgL rest 0 = -1 ∨ sgL rest 0 = 44 ∨ sgL rest 0 = 120 := hr.imp id Or.inl
  unfold nxP vl
  unfold ren at hs ⊢
  rcases hp with ⟨h1, h2, h3⟩ | ⟨h1, h2, h3⟩
  · rw [if_pos h1] at hs ⊢
    rw [if_pos h1]
    have e0 : s c = 46 := hs 0
    have n := nxN_n (s := s) (c := c + 1) (v := p.2) (lo := 1) (rest := rest) (fun i => by rw [show c + 1 + i = c + (i + 1) by omega, hs (i + 1)]; rfl) hr' (by decide) h2 (by omega)
    rw [show nI 1 = (1 : Int32) from rfl] at n
    rw [if_pos e0, n, if_neg (nI_nm1 (by omega)), List.length_cons, show c + 1 + (num p.2).length = c + ((num p.2).length + 1) by omega]
  · have hn : ¬ p.1 = 100 := by omega
    rw [if_neg hn] at hs ⊢
    rw [if_neg hn]
    rcases Nat.lt_or_ge p.2 2 with q | q
    · rw [if_pos q] at hs ⊢
      obtain ⟨d, hd, ed⟩ := hd_num (v := p.1) (rest := rest) (by omega)
      have e0 : ¬ s c = 46 := by
        intro e
        have : s c = nI (48 + d) := (hs 0).trans ed
        rw [this] at e
        exact absurd ((nI_eq (a := 48 + d) (b := 46) (by omega) (by decide)).mp e) (by omega)
      have n := nxN_n (s := s) (c := c) (v := p.1) (lo := 0) (rest := rest) hs hr' (by decide) (Nat.zero_le _) (by omega)
      rw [show nI 0 = (0 : Int32) from rfl] at n
      have ex : ¬ s (c + (num p.1).length) = 120 := by
        rw [hs, show (num p.1).length = (num p.1).length + 0 by omega, sgL_app]
        rcases hr with e | e <;> rw [e] <;> decide
      rw [if_neg e0, n, if_neg (nI_nm1 (by omega))]
      dsimp only
      rw [if_neg ex, show p.2 = 1 by omega]
      rfl
    · rw [if_neg (show ¬ p.2 < 2 by omega)] at hs ⊢
      rw [List.append_assoc] at hs
      obtain ⟨d, hd, ed⟩ := hd_num (v := p.1) (rest := 120 :: num p.2 ++ rest) (by omega)
      have e0 : ¬ s c = 46 := by
        intro e
        have : s c = nI (48 + d) := (hs 0).trans ed
        rw [this] at e
        exact absurd ((nI_eq (a := 48 + d) (b := 46) (by omega) (by decide)).mp e) (by omega)
      have n := nxN_n (s := s) (c := c) (v := p.1) (lo := 0) (rest := 120 :: num p.2 ++ rest) hs (Or.inr (Or.inr rfl)) (by decide) (Nat.zero_le _) (by omega)
      rw [show nI 0 = (0 : Int32) from rfl] at n
      have ex : s (c + (num p.1).length) = 120 := by
        rw [hs, show (num p.1).length = (num p.1).length + 0 by omega, sgL_app]; rfl
      have hq : num p.2 = [48 + p.2] := by unfold num; rw [if_pos (by omega)]
      have e2 : dg s (c + (num p.1).length + 1) = nI p.2 := by
        refine dg_n ?_ (by omega)
        rw [show c + (num p.1).length + 1 = c + ((num p.1).length + 1) by omega, hs, sgL_app, hq]; rfl
      rw [if_neg e0, n, if_neg (nI_nm1 (by omega))]
      dsimp only
      rw [if_pos ex, e2, if_pos (show (2 : Int32) ≤ nI p.2 from nI_le (a := 2) q (by omega)), List.length_append, List.length_cons, hq, List.length_singleton, show c + (num p.1).length + 2 = c + ((num p.1).length + (1 + 1)) by omega]
theorem prs_r : ∀ (l : List (Nat × Nat)) (p : Nat × Nat) (pre : List Nat) (f : Nat), okp p → (∀ q ∈ l, okp q) → l.length < f → prs (sgL (pre ++ (ren p ++ tl l))) (pre ++ (ren p ++ tl l)).length f pre.length = (vl p :: l.map vl, none)
  | _, _, _, 0, _, _, h => absurd h (Nat.not_lt_zero _)
  | [], p, pre, f + 1, hp, _, _ => by
    rw [show tl [] = [] from rfl]
    unfold prs
    have n := nxP_r (s := sgL (pre ++ (ren p ++ []))) (c := pre.length) hp (rest := []) (fun i => sgL_app _ _ _) (Or.inl rfl)
    rw [n]
    dsimp only
    rw [if_neg (show ¬ (1 : Int32) = 0 by decide), if_pos (by rw [List.append_nil, List.length_append])]
    rfl
  | q :: l, p, pre, f + 1, hp, hl, h => by
    rw [show tl (q :: l) = 44 :: (ren q ++ tl l) from rfl]
    have n := nxP_r (s := sgL (pre ++ (ren p ++ 44 :: (ren q ++ tl l)))) (c := pre.length) hp (rest := 44 :: (ren q ++ tl l)) (fun i => sgL_app _ _ _) (Or.inr rfl)
    have e1 : pre ++ (ren p ++ 44 :: (ren q ++ tl l)) = (pre ++ ren p ++ [44]) ++ (ren q ++ tl l) := by
      rw [List.append_assoc, List.append_assoc, List.singleton_append]
    have e2 : (pre ++ ren p ++ [44]).length = pre.length + (ren p).length + 1 := by
      rw [List.length_append, List.length_append, List.length_singleton]
    have r := prs_r l q (pre ++ ren p ++ [44]) f (hl q (List.mem_cons_self ..)) (fun x hx => hl x (List.mem_cons_of_mem _ hx)) (by rw [List.length_cons] at h; omega)
    rw [← e1, e2] at r
    have c44 : sgL (pre ++ (ren p ++ 44 :: (ren q ++ tl l))) (pre.length + (ren p).length) = 44 := by
      rw [← List.append_assoc, ← List.length_append, show (pre ++ ren p).length = (pre ++ ren p).length + 0 by omega, sgL_app]; rfl
    unfold prs
    rw [n]
    dsimp only
    rw [if_neg (show ¬ (1 : Int32) = 0 by decide), if_neg (by rw [List.length_append, List.length_append, List.length_cons]; omega), if_pos c44, r]
    rfl
/-- the class reads the parts that were typed -/
theorem read_r {T : CS} {l : List (Nat × Nat)} (h : TX T (rl l)) (h0 : 0 < l.length) (hl : l.length ≤ 30) (ho : ∀ q ∈ l, okp q) : r_X3_read T = -1 ∧ Arr (p_X3_read T) 0 (l.map vl) ∧ p_X3_read T 0 1 = T 0 1 := by
  cases l with
  | nil => exact absurd h0 (Nat.lt_irrefl 0)
  | cons p l =>
    have z : TX (va_up T 0 (upd (upd (T 0) 4 0) 5 0)) (rl (p :: l)) := ⟨h.1, h.2.1, h.2.2⟩
    obtain ⟨r1, r2, -, r4⟩ := read_at (L := (rl (p :: l)).length) h.1 30 0 0 (va_up T 0 (upd (upd (T 0) 4 0) 5 0)) z.2.1 rfl (Nat.zero_le _) rfl rfl
    have e := prs_r l p [] 30 (ho p (List.mem_cons_self ..)) (fun x hx => ho x (List.mem_cons_of_mem _ hx)) (by rw [List.length_cons] at hl; omega)
    rw [List.nil_append] at e
    have e' : prs (sgL (rl (p :: l))) (rl (p :: l)).length 30 0 = (vl p :: l.map vl, none) := e
    rw [TX_sg z, e'] at r1 r4
    unfold r_X3_read p_X3_read
    exact ⟨r1, r4 rfl, r2.1.trans h.2.1.symm⟩
