/-! the parts are followed, by both -/
theorem ww_at {o : Nat} (w : Int32) : ∀ (f g i : Nat) (S M : CS) (k wc t u : Nat), RT S (M 1) k wc t u → M 0 12 = nI o → M 0 11 = w → wc + (o - i) ≤ 20 → o - i < f → o - i < g → i ≤ o → o < 2 ^ 20 →
    RT (lp_X2_letWait_15 w (nI o) f (nI i) S) (q_X5_doesText_56 g (nI i) M 1) k (wc + (o - i)) t u ∧ (∀ z, z ≠ 1 → q_X5_doesText_56 g (nI i) M z = M z) ∧ lr_X2_letWait_15 w (nI o) f (nI i) S = 1
  | 0, g, i, S, M, k, wc, t, u, _, _, _, _, hf, _, _, _ => absurd hf (Nat.not_lt_zero _)
  | f + 1, 0, i, S, M, k, wc, t, u, _, _, _, _, _, hg, _, _ => absurd hg (Nat.not_lt_zero _)
  | f + 1, g + 1, i, S, M, k, wc, t, u, h, h12, h11, hw, hf, hg, hi, ho => by
    unfold lp_X2_letWait_15 q_X5_doesText_56 lr_X2_letWait_15
    rw [h12]
    rcases Nat.lt_or_ge i o with q | q
    · rw [if_neg (nle_nI (by omega) q), if_neg (nle_nI (by omega) q), if_neg (nle_nI (by omega) q), nI_1, h11]
      dsimp only
      obtain ⟨w1, w2⟩ := RT_wait h (by omega) w
      obtain ⟨g1, g2, g3⟩ := ww_at (o := o) w f g (i + 1) _ _ k (wc + 1) t u w1 (by rw [w2 0 (by decide)]; exact h12) (by rw [w2 0 (by decide)]; exact h11) (by omega) (by omega) (by omega) q ho
      refine ⟨?_, fun z hz => (g2 z hz).trans (w2 z hz), g3⟩
      rw [show wc + (o - i) = wc + 1 + (o - (i + 1)) by omega]
      exact g1
    · rw [if_pos (le_nI (by omega) q (by omega)), if_pos (le_nI (by omega) q (by omega)), if_pos (le_nI (by omega) q (by omega)), show o - i = 0 by omega]
      exact ⟨h, fun _ _ => rfl, rfl⟩
def sm : List (Int32 × Int32) → Int32
  | [] => 0
  | (w, t) :: r => (if w = -1 then 0 else t) + sm r
theorem wip_at {T : CS} : ∀ (ps : List (Int32 × Int32)) (f j : Nat) (n : Int32), Arr T j ps → ps.length < f → j + ps.length ≤ 60 → T 0 4 = nI (j + ps.length) → lr_X3_wordsInParts_4 T f n (nI j) = n + sm ps
  | ps, 0, j, n, _, h, _, _ => absurd h (Nat.not_lt_zero _)
  | [], f + 1, j, n, _, _, hj, h4 => by
    unfold lr_X3_wordsInParts_4 sm
    have hj : j + 0 ≤ 60 := hj
    have h4 : T 0 4 = nI j := h4
    rw [h4, if_pos (le_nI (n := j) (k := j) (by omega) (Nat.le_refl _) (by omega)), Int32.add_zero]
  | (w, t) :: r, f + 1, j, n, hA, hf, hj, h4 => by
    have hl : ((w, t) :: r).length = r.length + 1 := rfl
    obtain ⟨a1, a2, a3, a4⟩ := hA
    unfold lr_X3_wordsInParts_4 sm
    rw [h4, if_neg (nle_nI (by omega) (by omega)), valueAt_in (by decide) a1, valueAt_in (by decide) a1, a2, a3, nI_1]
    dsimp only
    rw [wip_at r f (j + 1) _ a4 (by omega) (by omega) (by rw [h4, hl]; exact congrArg nI (by omega))]
    by_cases c : w = -1
    · rw [if_pos c, if_pos c, Int32.zero_add]
    · rw [if_neg c, if_neg c, Int32.add_assoc]
theorem Arr_len {T : CS} : ∀ (ps : List (Int32 × Int32)) (j : Nat), Arr T j ps → T 0 4 = nI (j + ps.length) ∧ (j ≤ 30 → j + ps.length ≤ 30)
  | [], j, h => ⟨h, fun e => e⟩
  | (w, t) :: r, j, ⟨a1, _, _, a4⟩ => by
    obtain ⟨h1, h2⟩ := Arr_len r (j + 1) a4
    have hl : ((w, t) :: r).length = r.length + 1 := rfl
    refine ⟨?_, fun _ => ?_⟩
    · rw [h1, hl]; exact congrArg nI (by omega)
    · have := h2 (by omega)
      omega
theorem sm_c {x : F1} {L : Nat} : ∀ (f c : Nat), c ≤ L → (prs (sg x L) L f c).2 = none → ∃ m, m ≤ 9 * f ∧ sm (prs (sg x L) L f c).1 = nI m
  | 0, c, _, h => by cases h
  | f + 1, c, hc, h => by
    obtain ⟨c1, c2⟩ := nxP_c (x := x) hc
    unfold prs at h ⊢
    have V : ∃ v, v ≤ 9 ∧ ((nxP (sg x L) c).1 = 0 ∨ (if (nxP (sg x L) c).2.2.1 = -1 then (0 : Int32) else (nxP (sg x L) c).2.2.2) = nI v) := by
      rcases c2 with c2 | ⟨-, -, ⟨e1, -⟩ | ⟨b, o, e1, e2, e3, e4, e5⟩⟩
      · exact ⟨0, by omega, Or.inl c2⟩
      · exact ⟨0, by omega, Or.inr (by rw [if_pos e1]; rfl)⟩
      · exact ⟨o, e4, Or.inr (by rw [e2, if_neg (nI_nm1 (by omega)), e5])⟩
    obtain ⟨v, v1, v2⟩ := V
    by_cases n : (nxP (sg x L) c).1 = 0
    · rw [if_pos n] at h; cases h
    · have v2 := v2.resolve_left n
      rw [if_neg n] at h ⊢
      by_cases q : (nxP (sg x L) c).2.1 = L
      · rw [if_pos q]
        unfold sm sm
        rw [v2, Int32.add_zero]; exact ⟨v, by omega, rfl⟩
      · rw [if_neg q] at h ⊢
        by_cases z : sg x L (nxP (sg x L) c).2.1 = 44
        · rw [if_pos z] at h ⊢
          have hcL := sg_lt z (by decide)
          obtain ⟨m, m1, m2⟩ := sm_c f ((nxP (sg x L) c).2.1 + 1) hcL h
          unfold sm
          rw [v2, m2, nI_add]; exact ⟨v + m, by omega, rfl⟩
        · rw [if_neg z] at h; cases h
/-- the class follows the parts as the reference does the text -/
theorem fol_at {L : Nat} (hL : L ≤ 60) {T : CS} {x : F1} : ∀ (f j c : Nat) (S M : CS) (n : Int32) (k wc t u fc : Nat), M 0 8 = nI L → M 0 9 = nI c → M 6 = x → c ≤ L → (prs (sg x L) L f c).2 = none → Arr T j (prs (sg x L) L f c).1 → j ≤ 30 → (prs (sg x L) L f c).1.length < fc →
    RT S (M 1) k wc t u → u ≤ 1000000 →
    ((lr_X2_follow_2 T fc (nI j) S = 0 ∧ lr_X5_doesText_9 (f + 1) n 1 M = -3) ∨ (lr_X2_follow_2 T fc (nI j) S = 1 ∧ lr_X5_doesText_9 (f + 1) n 1 M = n + sm (prs (sg x L) L f c).1 ∧ ∃ wc' t' u', RT (lp_X2_follow_2 T fc (nI j) S) (lp_X5_doesText_9 (f + 1) n 1 M 1) k wc' t' u' ∧ u' ≤ 1000000)) ∧
    (∀ i, i ≠ 0 → i ≠ 1 → lp_X5_doesText_9 (f + 1) n 1 M i = M i) ∧ (∀ i, i = 4 ∨ i = 6 ∨ i = 8 → lp_X5_doesText_9 (f + 1) n 1 M 0 i = M 0 i) := by
  intro f
  have z1 : ¬ (1 : Int32) = 0 := by decide
  induction f with
  | zero => intro j c S M n k wc t u fc _ _ _ _ h; cases h
  | succ f ih =>
    intro j c S M n k wc t u fc h8 h9 h6 hc hN hA hj hfc hT hu
    cases fc with
    | zero => exact absurd hfc (Nat.not_lt_zero _)
    | succ fc =>
    obtain ⟨A4, A30⟩ := Arr_len _ _ hA
    have A30 := A30 hj
    obtain ⟨b1, b2, b3, b4⟩ := rdp_at hL h8 h9 hc
    obtain ⟨c1, c2⟩ := nxP_c (x := x) hc
    rw [h6] at b1 b2 b4
    -- one part, and what is left
    have P1 : ¬ (nxP (sg x L) c).1 = 0 := by
      intro e
      unfold prs at hN
      rw [if_pos e] at hN; cases hN
    have c2 := (c2.resolve_left P1)
    have b4 := b4 P1
    have e8 : p_X5_readsPart M 0 8 = nI L := (b3.2 8 (by decide)).trans h8
    have e6 : p_X5_readsPart M 6 = x := (b3.1 6 (by decide)).trans h6
    have e1 : p_X5_readsPart M 1 = M 1 := b3.1 1 (by decide)
    have E : ∀ M', lr_X5_doesText_9 (f + 1 + 1) n 1 M' = (if (1 : Int32) = (0 : Int32) then n else ((fun (z_2 : CS) => (if (20 : Int32) < (((z_2 1) 5) + ((z_2 0) 12)) then (-3 : Int32) else (if (((z_2 1) 2) + ((z_2 0) 13)) ≤ (1000000 : Int32) then ((fun (T56_M2 : CS) => ((fun (z_4 : CS) => ((fun (z_5 : CS) => (lr_X5_doesText_9 (f + 1) (n + ((z_4 0) 12)) (r_X5_takesSign z_4 (44 : Int32)) z_5)) (p_X5_takesSign z_4 (44 : Int32)))) (p_X5_passMany T56_M2 ((T56_M2 0) 13)))) (q_X5_doesText_56 21 (0 : Int32) z_2)) else (-3 : Int32)))) (p_X5_readsPart M'))) := fun _ => rfl
    have E' : ∀ M', lp_X5_doesText_9 (f + 1 + 1) n 1 M' = (if (1 : Int32) = (0 : Int32) then M' else ((fun (z_2 : CS) => (if (20 : Int32) < (((z_2 1) 5) + ((z_2 0) 12)) then z_2 else (if (((z_2 1) 2) + ((z_2 0) 13)) ≤ (1000000 : Int32) then ((fun (T56_M2 : CS) => ((fun (z_4 : CS) => ((fun (z_5 : CS) => (lp_X5_doesText_9 (f + 1) (n + ((z_4 0) 12)) (r_X5_takesSign z_4 (44 : Int32)) z_5)) (p_X5_takesSign z_4 (44 : Int32)))) (p_X5_passMany T56_M2 ((T56_M2 0) 13)))) (q_X5_doesText_56 21 (0 : Int32) z_2)) else z_2))) (p_X5_readsPart M'))) := fun _ => rfl
    rw [E, E', if_neg z1, if_neg z1]
    clear E E'
    unfold lr_X2_follow_2 lp_X2_follow_2
    dsimp only
    have n5 : M 1 5 = nI wc := hT.1.2.2.1.2.2.2.2.2.2.2.1
    have n10 : S 0 10 = nI wc := hT.1.2.2.1.2.2.2.2.2.2.1
    have n2 : M 1 2 = nI u := (R_t hT.1).trans hT.2.1
    have hwc : wc ≤ 20 := hT.1.2.1
    have hZT : RT S (p_X5_readsPart M 1) k wc t u := by rw [e1]; exact hT
    -- the rest of the text, from a state behind this part
    have REST : ∀ (S' Z4 : CS) (n' : Int32) (wc' t' u' : Nat) (w tt : Int32), (nxP (sg x L) c).2.2.1 = w → (nxP (sg x L) c).2.2.2 = tt → n' = n + (if w = -1 then 0 else tt) → Z4 0 8 = nI L → Z4 0 9 = nI (nxP (sg x L) c).2.1 → Z4 6 = x → RT S' (Z4 1) k wc' t' u' → u' ≤ 1000000 → (∀ i, i ≠ 0 → i ≠ 1 → Z4 i = M i) → (∀ i, i = 4 ∨ i = 6 ∨ i = 8 → Z4 0 i = M 0 i) →
        ((lr_X2_follow_2 T fc (nI (j + 1)) S' = 0 ∧ lr_X5_doesText_9 (f + 1) n' (r_X5_takesSign Z4 44) (p_X5_takesSign Z4 44) = -3) ∨ (lr_X2_follow_2 T fc (nI (j + 1)) S' = 1 ∧ lr_X5_doesText_9 (f + 1) n' (r_X5_takesSign Z4 44) (p_X5_takesSign Z4 44) = n + sm (prs (sg x L) L (f + 1) c).1 ∧ ∃ wc' t' u', RT (lp_X2_follow_2 T fc (nI (j + 1)) S') (lp_X5_doesText_9 (f + 1) n' (r_X5_takesSign Z4 44) (p_X5_takesSign Z4 44) 1) k wc' t' u' ∧ u' ≤ 1000000)) ∧
        (∀ i, i ≠ 0 → i ≠ 1 → lp_X5_doesText_9 (f + 1) n' (r_X5_takesSign Z4 44) (p_X5_takesSign Z4 44) i = M i) ∧ (∀ i, i = 4 ∨ i = 6 ∨ i = 8 → lp_X5_doesText_9 (f + 1) n' (r_X5_takesSign Z4 44) (p_X5_takesSign Z4 44) 0 i = M 0 i) := by
      intro S' Z4 n' wc' t' u' w tt hw htt hn' h48 h49 h46 hT4 hu4 hZi hZ0
      unfold prs at hN hA hfc A4 A30 ⊢
      rw [if_neg P1] at hN hA hfc A4 A30 ⊢
      rcases tks_at hL h48 h49 c1 (a := 44) (by decide) with ⟨t1, t2, t3⟩ | ⟨t1, t2, t3⟩
      · rw [h46] at t1
        have hcL := sg_lt t1 (by decide)
        have nq : ¬ (nxP (sg x L) c).2.1 = L := by omega
        rw [if_neg nq, if_pos t1] at hN hA hfc A4 A30 ⊢
        rw [t2, t3]
        obtain ⟨a1, a2, a3, a4⟩ := hA
        have hl : (((nxP (sg x L) c).2.2.1, (nxP (sg x L) c).2.2.2) :: (prs (sg x L) L f ((nxP (sg x L) c).2.1 + 1)).1).length = (prs (sg x L) L f ((nxP (sg x L) c).2.1 + 1)).1.length + 1 := rfl
        dsimp only at hl hfc
        obtain ⟨i1, i2, i3⟩ := ih (j + 1) ((nxP (sg x L) c).2.1 + 1) S' (va_up Z4 0 (upd (Z4 0) 9 (nI ((nxP (sg x L) c).2.1 + 1)))) n' k wc' t' u' fc h48 rfl h46 hcL hN a4 (by omega) (by omega) hT4 hu4
        refine ⟨?_, fun i h0 h1 => (i2 i h0 h1).trans ((va_up_n h0).trans (hZi i h0 h1)), fun i hi => (i3 i hi).trans (Eq.trans (by rw [va_up_s, fu_n (by omega)]) (hZ0 i hi))⟩
        rcases i1 with ⟨r1, r2⟩ | ⟨r1, r2, r3⟩
        · exact Or.inl ⟨r1, r2⟩
        · refine Or.inr ⟨r1, ?_, r3⟩
          rw [r2, hn']
          conv => rhs; unfold sm
          rw [hw, htt, Int32.add_assoc]
      · rw [h46] at t1
        have eq : (nxP (sg x L) c).2.1 = L := by
          by_cases q : (nxP (sg x L) c).2.1 = L
          · exact q
          · rw [if_neg q, if_neg t1] at hN; cases hN
        rw [if_pos eq] at hN hA hfc A4 A30 ⊢
        rw [t2, t3]
        obtain ⟨a1, a2, a3, a4⟩ := hA
        have a4 : T 0 4 = nI (j + 1) := a4
        have m : ∀ z : CS, lr_X5_doesText_9 (f + 1) n' 0 z = n' ∧ lp_X5_doesText_9 (f + 1) n' 0 z = z := fun z => by
          unfold lr_X5_doesText_9 lp_X5_doesText_9
          rw [if_pos rfl, if_pos rfl]; exact ⟨rfl, rfl⟩
        rw [(m _).1, (m _).2]
        refine ⟨?_, fun i h0 h1 => (va_up_n h0).trans (hZi i h0 h1), fun i hi => Eq.trans (by rw [va_up_s, fu_n (by omega)]) (hZ0 i hi)⟩
        have hfc0 : 0 < fc := by
          have hfc : 1 < fc + 1 := hfc
          omega
        cases fc with
        | zero => exact absurd hfc0 (Nat.lt_irrefl 0)
        | succ fc =>
          unfold lr_X2_follow_2 lp_X2_follow_2
          rw [a4, if_pos (le_nI (by omega) (Nat.le_refl _) (by omega)), if_pos (le_nI (by omega) (Nat.le_refl _) (by omega))]
          refine Or.inr ⟨rfl, ?_, wc', t', u', hT4, hu4⟩
          rw [hn']
          unfold sm sm
          rw [hw, htt, Int32.add_zero]
    -- this part's word and times in the class
    have AT : j < 30 ∧ T 2 j = (nxP (sg x L) c).2.2.1 ∧ T 3 j = (nxP (sg x L) c).2.2.2 ∧ ¬ T 0 4 ≤ nI j := by
      have X : ∀ r, Arr T j (((nxP (sg x L) c).2.2.1, (nxP (sg x L) c).2.2.2) :: r) → j < 30 ∧ T 2 j = (nxP (sg x L) c).2.2.1 ∧ T 3 j = (nxP (sg x L) c).2.2.2 ∧ ¬ T 0 4 ≤ nI j := by
        intro r hr
        obtain ⟨l1, l2⟩ := Arr_len _ _ hr
        have l2 := l2 hj
        obtain ⟨a1, a2, a3, a4⟩ := hr
        have hl : (((nxP (sg x L) c).2.2.1, (nxP (sg x L) c).2.2.2) :: r).length = r.length + 1 := rfl
        refine ⟨a1, a2, a3, ?_⟩
        rw [l1]; exact nle_nI (by omega) (by omega)
      unfold prs at hA
      rw [if_neg P1] at hA
      by_cases q : (nxP (sg x L) c).2.1 = L
      · rw [if_pos q] at hA; exact X _ hA
      · rw [if_neg q] at hA
        by_cases z : sg x L (nxP (sg x L) c).2.1 = 44
        · rw [if_pos z] at hA; exact X _ hA
        · unfold prs at hN
          rw [if_neg P1, if_neg q, if_neg z] at hN; cases hN
    obtain ⟨j30, v2, v3, v4⟩ := AT
    rw [if_neg v4, if_neg v4, valueAt_in (by decide) j30, valueAt_in (by decide) j30, v2, v3, nI_1]
    generalize p_X5_readsPart M = Z at *
    generalize hw : (nxP (sg x L) c).2.2.1 = w at *
    generalize htt : (nxP (sg x L) c).2.2.2 = tt at *
    rw [e1, n5, n2]
    have zi : ∀ i, i ≠ 0 → i ≠ 1 → Z i = M i := fun i h0 _ => b3.1 i h0
    rcases c2.2.2 with ⟨w1, a, ha, ea⟩ | ⟨b, o, hb, eb, ho1, ho, eo⟩
    · -- times pass
      subst w1
      have g := b4.resolve_right (fun y => y.1 rfl)
      obtain ⟨-, g12, g13⟩ := g
      rw [if_pos rfl, if_pos rfl, g12, g13, ea, Int32.add_zero]
      have n20 : ¬ (20 : Int32) < nI wc := nI_nlt (b := wc) (a := 20) hwc (by decide) |> fun h => by rw [Int32.lt_iff_toInt_lt, nI_toInt (by omega), show (20 : Int32).toInt = 20 by decide]; omega
      rw [if_neg n20, if_neg n20]
      have q0 : q_X5_doesText_56 21 0 Z = Z := by
        unfold q_X5_doesText_56
        rw [g12, if_pos (by decide)]
      have e2 : r_X2_hasTimeFor S (nI a) = 0 ↔ ¬ u + a ≤ 1000000 := by
        unfold r_X2_hasTimeFor
        rw [hT.2.1, nI_add, show (1000000 : Int32) = nI 1000000 from rfl]
        by_cases d : u + a ≤ 1000000
        · rw [if_neg (nI_nlt d (by decide))]; exact ⟨fun z => absurd z (by decide), fun z => absurd d z⟩
        · rw [if_pos (nI_lt (by omega) (by omega))]; exact ⟨fun _ => d, fun _ => rfl⟩
      have e3 : (nI u + nI a) ≤ 1000000 ↔ u + a ≤ 1000000 := by
        rw [nI_add, show (1000000 : Int32) = nI 1000000 from rfl]
        exact nI_leI (by omega) (by decide)
      by_cases d : u + a ≤ 1000000
      · rw [if_neg (fun z => e2.mp z d), if_neg (fun z => e2.mp z d), if_pos (e3.mpr d), if_pos (e3.mpr d), q0, g13, ea]
        obtain ⟨wc', t', hp, -, hm⟩ := RT_pass (a := a) (by omega) hZT (by omega)
        have m0 : p_X5_passMany Z (nI a) 0 = Z 0 := hm 0 (by decide)
        exact REST _ (p_X5_passMany Z (nI a)) _ wc' t' (u + a) (-1) (nI a) rfl ea (by rw [m0, g12, if_pos rfl]) (by rw [m0]; exact e8) (by rw [m0]; exact b2) ((hm 6 (by decide)).trans e6) hp d (fun i h0 h1 => (hm i h1).trans (zi i h0 h1)) (fun i hi => by rw [m0]; exact b3.2 i hi)
      · rw [if_pos (e2.mpr d), if_pos (e2.mpr d), if_neg (fun z => d (e3.mp z)), if_neg (fun z => d (e3.mp z))]
        exact ⟨Or.inl ⟨rfl, rfl⟩, zi, b3.2⟩
    · -- a word waits
      subst eb
      have wn : ¬ nI b = -1 := nI_nm1 (by omega)
      have g := b4.resolve_left (fun y => wn y.1)
      obtain ⟨-, g12, g13, g11⟩ := g
      rw [if_neg wn, if_neg wn, g12, g13, eo, Int32.add_zero, nI_add]
      have eu : nI u ≤ (1000000 : Int32) := nI_le (b := 1000000) hu (by decide)
      unfold r_X2_letWait p_X2_letWait
      rw [n10, nI_add]
      by_cases d : wc + o ≤ 20
      · have d1 : nI (wc + o) ≤ (20 : Int32) := nI_le (b := 20) d (by decide)
        have d2 : ¬ (20 : Int32) < nI (wc + o) := by rw [Int32.lt_iff_toInt_lt, nI_toInt (by omega), show (20 : Int32).toInt = 20 by decide]; omega
        obtain ⟨k1, k2, k3⟩ := ww_at (o := o) (nI b) (((nI o).toInt - (0 : Int32).toInt).toNat + 1) 21 0 S Z k wc t u hZT (by rw [g12, eo]) g11 (by omega) (by rw [nI_toInt (by omega), zero_toI]; omega) (by omega) (Nat.zero_le _) (by omega)
        rw [show nI 0 = (0 : Int32) from rfl] at k1 k2 k3
        rw [if_neg d2, if_neg d2, if_pos eu, if_pos eu, if_pos d1, if_pos d1, k3, if_neg z1, if_neg z1]
        have m0 : q_X5_doesText_56 21 0 Z 0 = Z 0 := k2 0 (by decide)
        have p0 : p_X5_passMany (q_X5_doesText_56 21 0 Z) 0 = q_X5_doesText_56 21 0 Z := by
          unfold p_X5_passMany
          rw [show ((0 : Int32).toInt - (0 : Int32).toInt).toNat + 1 = 1 by decide]
          unfold lp_X5_passMany_2
          rw [if_pos (by decide)]
        rw [m0, g13, p0]
        exact REST _ (q_X5_doesText_56 21 0 Z) _ (wc + (o - 0)) t u (nI b) (nI o) rfl eo (by rw [m0, g12, eo, if_neg wn]) (by rw [m0]; exact e8) (by rw [m0]; exact b2) ((k2 6 (by decide)).trans e6) k1 hu (fun i h0 h1 => (k2 i h1).trans (zi i h0 h1)) (fun i hi => by rw [m0]; exact b3.2 i hi)
      · have d1 : ¬ nI (wc + o) ≤ (20 : Int32) := nle_nI (n := wc + o) (k := 20) (by omega) (by omega)
        have d2 : (20 : Int32) < nI (wc + o) := nI_lt (a := 20) (by omega) (by omega)
        rw [if_pos d2, if_pos d2, if_neg d1, if_pos rfl]
        refine ⟨Or.inl ⟨rfl, rfl⟩, zi, b3.2⟩
