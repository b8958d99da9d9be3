set_option maxHeartbeats 40000000 in
set_option maxRecDepth 100000 in
theorem c_L_areAlike (l : Launch) (D : va_G) (cI cC cS : ClassId) (B : Nat → Nat → Nat → Nat) (B2 : Nat → Nat → Nat → Nat) (G : Nat → Nat → CS) (P : Nat → Nat → CS)  : CI l D cI cC cS yL_areAlike wsL_areAlike rm_L_areAlike [.ref (B 0 3 0), .ref (B2 0 3 0)] (gpW cI cC cS B G ++ gpW cI cC cS B2 P) (gpW cI cC cS B (p_L_areAlike_G G P) ++ gpW cI cC cS B2 (p_L_areAlike_P G P)) (r_L_areAlike G P) := by
  intro sz
  refine startC (cc := cL_areAlike) (maxL := 6) (ret := (some .boolean)) (by decide) rfl (Nat.le_of_ble_eq_true rfl) ?_
  intro p e s m args below meth c hx hb hml hsg hts hown hlocks hin hK A hA hS hP hD ls hl
  have hown : s.vm.findClass RL = some m.cls := hown
  have hl : lv_has ls 6 [(0, .ref (B 0 3 0)), (1, .ref (B2 0 3 0))] := hl
  have hP : va_P D vwCl (gpW cI cC cS B G ++ gpW cI cC cS B2 P) s.heap := hP
  have hD : va_D A (gpW cI cC cS B G ++ gpW cI cC cS B2 P) := hD
  have hr : (r_L_areAlike G P) = (k4_r_L_areAlike G P (q_L_areAlike_4 G P (((12 : Int32).toInt - (0 : Int32).toInt).toNat + 1) (1 : Int32) (0 : Int32))) := rfl
  have hp_G : (p_L_areAlike_G G P) = (k4_p_L_areAlike_G G P (q_L_areAlike_4 G P (((12 : Int32).toInt - (0 : Int32).toInt).toNat + 1) (1 : Int32) (0 : Int32))) := rfl
  have hp_P : (p_L_areAlike_P G P) = (k4_p_L_areAlike_P G P (q_L_areAlike_4 G P (((12 : Int32).toInt - (0 : Int32).toInt).toNat + 1) (1 : Int32) (0 : Int32))) := rfl
  refine lv_iconst (v := (1 : Int32)) hx hb dL_areAlike_0 (by decide) ?_
  refine lv_istore_n (lv' := [(2, .int (1 : Int32)), (0, .ref (B 0 3 0)), (1, .ref (B2 0 3 0))]) hx hb dL_areAlike_1 rfl hl (by decide) rfl (fun ls hl => ?_)
  refine lv_iconst (v := (0 : Int32)) hx hb dL_areAlike_2 (by decide) ?_
  refine lv_istore_n (lv' := [(3, .int (0 : Int32)), (2, .int (1 : Int32)), (0, .ref (B 0 3 0)), (1, .ref (B2 0 3 0))]) hx hb dL_areAlike_3 rfl hl (by decide) rfl (fun ls hl => ?_)
  obtain ⟨nf_4, hnf_4⟩ : ∃ n : Nat, n = (((12 : Int32).toInt - (0 : Int32).toInt).toNat + 1) := ⟨_, rfl⟩
  rw [← hnf_4] at hr hp_G hp_P
  obtain ⟨T4_is, hT4_is⟩ : ∃ T : Int32, T = (q_L_areAlike_4 G P nf_4 (1 : Int32) (0 : Int32)) := ⟨_, rfl⟩
  have K_4 : ∀ (H : Heap) (locs : List Loc), va_P D vwCl (gpW cI cC cS B G ++ gpW cI cC cS B2 P) H → va_D A (gpW cI cC cS B G ++ gpW cI cC cS B2 P) → va_S A s.heap H locs → ∀ ls, lv_has ls 6 [(0, .ref (B 0 3 0)), (1, .ref (B2 0 3 0)), (2, .int T4_is)] → W p l e rm_L_areAlike s m args below meth c H locs 0 0 (MQ below (QI D (gpW cI cC cS B (p_L_areAlike_G G P) ++ gpW cI cC cS B2 (p_L_areAlike_P G P)) (r_L_areAlike G P) A) args s 0 0 A) (F0 m 39 ls []) := by
    intro H locs  hP hD hS ls hl
    have hr : (r_L_areAlike G P) = (k4_r_L_areAlike G P T4_is) := by rw [hT4_is]; exact hr
    have hr : (r_L_areAlike G P) = (k41_r_L_areAlike G P (q_L_areAlike_41 G P (((2 : Int32).toInt - (0 : Int32).toInt).toNat + 1) T4_is (0 : Int32))) := hr
    have hp_G : (p_L_areAlike_G G P) = (k4_p_L_areAlike_G G P T4_is) := by rw [hT4_is]; exact hp_G
    have hp_G : (p_L_areAlike_G G P) = (k41_p_L_areAlike_G G P (q_L_areAlike_41 G P (((2 : Int32).toInt - (0 : Int32).toInt).toNat + 1) T4_is (0 : Int32))) := hp_G
    have hp_P : (p_L_areAlike_P G P) = (k4_p_L_areAlike_P G P T4_is) := by rw [hT4_is]; exact hp_P
    have hp_P : (p_L_areAlike_P G P) = (k41_p_L_areAlike_P G P (q_L_areAlike_41 G P (((2 : Int32).toInt - (0 : Int32).toInt).toNat + 1) T4_is (0 : Int32))) := hp_P
    refine lv_iconst (v := (0 : Int32)) hx hb dL_areAlike_39 (by decide) ?_
    refine lv_istore_n (lv' := [(3, .int (0 : Int32)), (0, .ref (B 0 3 0)), (1, .ref (B2 0 3 0)), (2, .int T4_is)]) hx hb dL_areAlike_40 rfl hl (by decide) rfl (fun ls hl => ?_)
    obtain ⟨nf_41, hnf_41⟩ : ∃ n : Nat, n = (((2 : Int32).toInt - (0 : Int32).toInt).toNat + 1) := ⟨_, rfl⟩
    rw [← hnf_41] at hr hp_G hp_P
    obtain ⟨T41_it, hT41_it⟩ : ∃ T : Int32, T = (q_L_areAlike_41 G P nf_41 T4_is (0 : Int32)) := ⟨_, rfl⟩
    have K_41 : ∀ (H : Heap) (locs : List Loc), va_P D vwCl (gpW cI cC cS B G ++ gpW cI cC cS B2 P) H → va_D A (gpW cI cC cS B G ++ gpW cI cC cS B2 P) → va_S A s.heap H locs → ∀ ls, lv_has ls 6 [(0, .ref (B 0 3 0)), (1, .ref (B2 0 3 0)), (2, .int T41_it)] → W p l e rm_L_areAlike s m args below meth c H locs 0 0 (MQ below (QI D (gpW cI cC cS B (p_L_areAlike_G G P) ++ gpW cI cC cS B2 (p_L_areAlike_P G P)) (r_L_areAlike G P) A) args s 0 0 A) (F0 m 101 ls []) := by
      intro H locs  hP hD hS ls hl
      have hr : (r_L_areAlike G P) = (k41_r_L_areAlike G P T41_it) := by rw [hT41_it]; exact hr
      have hr : (r_L_areAlike G P) = (k103_r_L_areAlike G P (q_L_areAlike_103 G P (((r_X4_count G (2 : Int32)).toInt - (0 : Int32).toInt).toNat + 1) T41_it (0 : Int32))) := hr
      have hp_G : (p_L_areAlike_G G P) = (k41_p_L_areAlike_G G P T41_it) := by rw [hT41_it]; exact hp_G
      have hp_G : (p_L_areAlike_G G P) = (k103_p_L_areAlike_G G P (q_L_areAlike_103 G P (((r_X4_count G (2 : Int32)).toInt - (0 : Int32).toInt).toNat + 1) T41_it (0 : Int32))) := hp_G
      have hp_P : (p_L_areAlike_P G P) = (k41_p_L_areAlike_P G P T41_it) := by rw [hT41_it]; exact hp_P
      have hp_P : (p_L_areAlike_P G P) = (k103_p_L_areAlike_P G P (q_L_areAlike_103 G P (((r_X4_count G (2 : Int32)).toInt - (0 : Int32).toInt).toNat + 1) T41_it (0 : Int32))) := hp_P
      refine lv_iconst (v := (0 : Int32)) hx hb dL_areAlike_101 (by decide) ?_
      refine lv_istore_n (lv' := [(3, .int (0 : Int32)), (0, .ref (B 0 3 0)), (1, .ref (B2 0 3 0)), (2, .int T41_it)]) hx hb dL_areAlike_102 rfl hl (by decide) rfl (fun ls hl => ?_)
      obtain ⟨nf_103, hnf_103⟩ : ∃ n : Nat, n = (((r_X4_count G (2 : Int32)).toInt - (0 : Int32).toInt).toNat + 1) := ⟨_, rfl⟩
      rw [← hnf_103] at hr hp_G hp_P
      obtain ⟨T103_iv, hT103_iv⟩ : ∃ T : Int32, T = (q_L_areAlike_103 G P nf_103 T41_it (0 : Int32)) := ⟨_, rfl⟩
      have K_103 : ∀ (H : Heap) (locs : List Loc), va_P D vwCl (gpW cI cC cS B G ++ gpW cI cC cS B2 P) H → va_D A (gpW cI cC cS B G ++ gpW cI cC cS B2 P) → va_S A s.heap H locs → ∀ ls, lv_has ls 6 [(0, .ref (B 0 3 0)), (1, .ref (B2 0 3 0)), (2, .int T103_iv)] → W p l e rm_L_areAlike s m args below meth c H locs 0 0 (MQ below (QI D (gpW cI cC cS B (p_L_areAlike_G G P) ++ gpW cI cC cS B2 (p_L_areAlike_P G P)) (r_L_areAlike G P) A) args s 0 0 A) (F0 m 205 ls []) := by
        intro H locs  hP hD hS ls hl
        have hr : (r_L_areAlike G P) = (k103_r_L_areAlike G P T103_iv) := by rw [hT103_iv]; exact hr
        have hr : (r_L_areAlike G P) = (k207_r_L_areAlike G P (q_L_areAlike_207 G P (((20 : Int32).toInt - (0 : Int32).toInt).toNat + 1) T103_iv (0 : Int32))) := hr
        have hp_G : (p_L_areAlike_G G P) = (k103_p_L_areAlike_G G P T103_iv) := by rw [hT103_iv]; exact hp_G
        have hp_G : (p_L_areAlike_G G P) = (k207_p_L_areAlike_G G P (q_L_areAlike_207 G P (((20 : Int32).toInt - (0 : Int32).toInt).toNat + 1) T103_iv (0 : Int32))) := hp_G
        have hp_P : (p_L_areAlike_P G P) = (k103_p_L_areAlike_P G P T103_iv) := by rw [hT103_iv]; exact hp_P
        have hp_P : (p_L_areAlike_P G P) = (k207_p_L_areAlike_P G P (q_L_areAlike_207 G P (((20 : Int32).toInt - (0 : Int32).toInt).toNat + 1) T103_iv (0 : Int32))) := hp_P
        refine lv_iconst (v := (0 : Int32)) hx hb dL_areAlike_205 (by decide) ?_
        refine lv_istore_n (lv' := [(3, .int (0 : Int32)), (0, .ref (B 0 3 0)), (1, .ref (B2 0 3 0)), (2, .int T103_iv)]) hx hb dL_areAlike_206 rfl hl (by decide) rfl (fun ls hl => ?_)
        obtain ⟨nf_207, hnf_207⟩ : ∃ n : Nat, n = (((20 : Int32).toInt - (0 : Int32).toInt).toNat + 1) := ⟨_, rfl⟩
        rw [← hnf_207] at hr hp_G hp_P
        obtain ⟨T207_iw, hT207_iw⟩ : ∃ T : Int32, T = (q_L_areAlike_207 G P nf_207 T103_iv (0 : Int32)) := ⟨_, rfl⟩
        have K_207 : ∀ (H : Heap) (locs : List Loc), va_P D vwCl (gpW cI cC cS B G ++ gpW cI cC cS B2 P) H → va_D A (gpW cI cC cS B G ++ gpW cI cC cS B2 P) → va_S A s.heap H locs → ∀ ls, lv_has ls 6 [(0, .ref (B 0 3 0)), (1, .ref (B2 0 3 0)), (2, .int T207_iw)] → W p l e rm_L_areAlike s m args below meth c H locs 0 0 (MQ below (QI D (gpW cI cC cS B (p_L_areAlike_G G P) ++ gpW cI cC cS B2 (p_L_areAlike_P G P)) (r_L_areAlike G P) A) args s 0 0 A) (F0 m 282 ls []) := by
          intro H locs  hP hD hS ls hl
          have hr : (r_L_areAlike G P) = (k207_r_L_areAlike G P T207_iw) := by rw [hT207_iw]; exact hr
          have hr : (r_L_areAlike G P) = (k284_r_L_areAlike G P (q_L_areAlike_284 G P (((16 : Int32).toInt - (0 : Int32).toInt).toNat + 1) T207_iw (0 : Int32))) := hr
          have hp_G : (p_L_areAlike_G G P) = (k207_p_L_areAlike_G G P T207_iw) := by rw [hT207_iw]; exact hp_G
          have hp_G : (p_L_areAlike_G G P) = (k284_p_L_areAlike_G G P (q_L_areAlike_284 G P (((16 : Int32).toInt - (0 : Int32).toInt).toNat + 1) T207_iw (0 : Int32))) := hp_G
          have hp_P : (p_L_areAlike_P G P) = (k207_p_L_areAlike_P G P T207_iw) := by rw [hT207_iw]; exact hp_P
          have hp_P : (p_L_areAlike_P G P) = (k284_p_L_areAlike_P G P (q_L_areAlike_284 G P (((16 : Int32).toInt - (0 : Int32).toInt).toNat + 1) T207_iw (0 : Int32))) := hp_P
          refine lv_iconst (v := (0 : Int32)) hx hb dL_areAlike_282 (by decide) ?_
          refine lv_istore_n (lv' := [(3, .int (0 : Int32)), (0, .ref (B 0 3 0)), (1, .ref (B2 0 3 0)), (2, .int T207_iw)]) hx hb dL_areAlike_283 rfl hl (by decide) rfl (fun ls hl => ?_)
          obtain ⟨nf_284, hnf_284⟩ : ∃ n : Nat, n = (((16 : Int32).toInt - (0 : Int32).toInt).toNat + 1) := ⟨_, rfl⟩
          rw [← hnf_284] at hr hp_G hp_P
          obtain ⟨T284_iy, hT284_iy⟩ : ∃ T : Int32, T = (q_L_areAlike_284 G P nf_284 T207_iw (0 : Int32)) := ⟨_, rfl⟩
          have K_284 : ∀ (H : Heap) (locs : List Loc), va_P D vwCl (gpW cI cC cS B G ++ gpW cI cC cS B2 P) H → va_D A (gpW cI cC cS B G ++ gpW cI cC cS B2 P) → va_S A s.heap H locs → ∀ ls, lv_has ls 6 [(0, .ref (B 0 3 0)), (1, .ref (B2 0 3 0)), (2, .int T284_iy)] → W p l e rm_L_areAlike s m args below meth c H locs 0 0 (MQ below (QI D (gpW cI cC cS B (p_L_areAlike_G G P) ++ gpW cI cC cS B2 (p_L_areAlike_P G P)) (r_L_areAlike G P) A) args s 0 0 A) (F0 m 385 ls []) := by
            intro H locs  hP hD hS ls hl
            have hr : (r_L_areAlike G P) = (k284_r_L_areAlike G P T284_iy) := by rw [hT284_iy]; exact hr
            have hr : (r_L_areAlike G P) = (if T284_iy = (0 : Int32) then (0 : Int32) else ((fun (z_1 : Nat → Nat → CS) => ((fun (z_2 : Nat → Nat → CS) => (if (r_X4_doneIn G) = (r_X4_doneIn P) then ((fun (z_3 : Nat → Nat → CS) => ((fun (z_4 : Nat → Nat → CS) => (if (r_X4_leastDepth z_1 (40 : Int32)) = (r_X4_leastDepth z_2 (40 : Int32)) then (1 : Int32) else (0 : Int32))) (p_X4_leastDepth z_2 (40 : Int32)))) (p_X4_leastDepth z_1 (40 : Int32))) else (0 : Int32))) (p_X4_doneIn P))) (p_X4_doneIn G))) := hr
            have hp_G : (p_L_areAlike_G G P) = (k284_p_L_areAlike_G G P T284_iy) := by rw [hT284_iy]; exact hp_G
            have hp_G : (p_L_areAlike_G G P) = (if T284_iy = (0 : Int32) then G else ((fun (z_1 : Nat → Nat → CS) => ((fun (z_2 : Nat → Nat → CS) => (if (r_X4_doneIn G) = (r_X4_doneIn P) then ((fun (z_3 : Nat → Nat → CS) => ((fun (z_4 : Nat → Nat → CS) => (if (r_X4_leastDepth z_1 (40 : Int32)) = (r_X4_leastDepth z_2 (40 : Int32)) then z_3 else z_3)) (p_X4_leastDepth z_2 (40 : Int32)))) (p_X4_leastDepth z_1 (40 : Int32))) else z_1)) (p_X4_doneIn P))) (p_X4_doneIn G))) := hp_G
            have hp_P : (p_L_areAlike_P G P) = (k284_p_L_areAlike_P G P T284_iy) := by rw [hT284_iy]; exact hp_P
            have hp_P : (p_L_areAlike_P G P) = (if T284_iy = (0 : Int32) then P else ((fun (z_1 : Nat → Nat → CS) => ((fun (z_2 : Nat → Nat → CS) => (if (r_X4_doneIn G) = (r_X4_doneIn P) then ((fun (z_3 : Nat → Nat → CS) => ((fun (z_4 : Nat → Nat → CS) => (if (r_X4_leastDepth z_1 (40 : Int32)) = (r_X4_leastDepth z_2 (40 : Int32)) then z_4 else z_4)) (p_X4_leastDepth z_2 (40 : Int32)))) (p_X4_leastDepth z_1 (40 : Int32))) else z_2)) (p_X4_doneIn P))) (p_X4_doneIn G))) := hp_P
            refine lv_iload_n hx hb dL_areAlike_385 rfl (lv_at hl 2 rfl) ?_
            refine lv_if_eq (tgt := 419) hx hb dL_areAlike_386 (by decide) (fun c386 => ?_) (fun c386 => ?_)
            · have hr := hr.trans (if_pos c386)
              have hp_G := hp_G.trans (if_pos c386)
              have hp_P := hp_P.trans (if_pos c386)
              refine lv_iconst (v := (0 : Int32)) hx hb dL_areAlike_419 (by decide) ?_
              exact endZ (v := (0 : Int32)) hb hx hsg rfl hr.symm (by rw [hp_G, hp_P]; exact hP) (by rw [hp_G, hp_P]; exact hD) hS dL_areAlike_420 hlocks
            · have hr := hr.trans (if_neg c386)
              have hp_G := hp_G.trans (if_neg c386)
              have hp_P := hp_P.trans (if_neg c386)
              refine lv_aload_n hx hb dL_areAlike_389 rfl (lv_at hl 0 rfl) ?_
              refine goG (va_runV (As := []) (rest := []) ⟨hx, hb, hml, hown, hts⟩ (c_X4_doneIn l D cI cC cS B G  _) (cwV 0 hts gL_areAlike_X4_doneIn rfl rfl rfl (by decide +kernel) ⟨Nat.le_of_ble_eq_true rfl, Nat.le_of_ble_eq_true rfl⟩) (preG hK hP hD) rfl rfl hl.1 rfl (lv_room (Nat.le_of_ble_eq_true rfl)) dL_areAlike_390 ⟨Nat.zero_le _, Nat.zero_le _⟩) hP hD hS hA (fun H locs hP hD hS => ?_)
              obtain ⟨z_1, hz_1⟩ : ∃ z : Nat → Nat → CS, z = (p_X4_doneIn G) := ⟨_, rfl⟩
              rw [← hz_1] at hP hD
              have hr : (r_L_areAlike G P) = ((fun (z_2 : Nat → Nat → CS) => (if (r_X4_doneIn G) = (r_X4_doneIn P) then ((fun (z_3 : Nat → Nat → CS) => ((fun (z_4 : Nat → Nat → CS) => (if (r_X4_leastDepth z_1 (40 : Int32)) = (r_X4_leastDepth z_2 (40 : Int32)) then (1 : Int32) else (0 : Int32))) (p_X4_leastDepth z_2 (40 : Int32)))) (p_X4_leastDepth z_1 (40 : Int32))) else (0 : Int32))) (p_X4_doneIn P)) := by subst hz_1; exact hr
              have hp_G : (p_L_areAlike_G G P) = ((fun (z_2 : Nat → Nat → CS) => (if (r_X4_doneIn G) = (r_X4_doneIn P) then ((fun (z_3 : Nat → Nat → CS) => ((fun (z_4 : Nat → Nat → CS) => (if (r_X4_leastDepth z_1 (40 : Int32)) = (r_X4_leastDepth z_2 (40 : Int32)) then z_3 else z_3)) (p_X4_leastDepth z_2 (40 : Int32)))) (p_X4_leastDepth z_1 (40 : Int32))) else z_1)) (p_X4_doneIn P)) := by subst hz_1; exact hp_G
              have hp_P : (p_L_areAlike_P G P) = ((fun (z_2 : Nat → Nat → CS) => (if (r_X4_doneIn G) = (r_X4_doneIn P) then ((fun (z_3 : Nat → Nat → CS) => ((fun (z_4 : Nat → Nat → CS) => (if (r_X4_leastDepth z_1 (40 : Int32)) = (r_X4_leastDepth z_2 (40 : Int32)) then z_4 else z_4)) (p_X4_leastDepth z_2 (40 : Int32)))) (p_X4_leastDepth z_1 (40 : Int32))) else z_2)) (p_X4_doneIn P)) := by subst hz_1; exact hp_P
              refine lv_aload_n hx hb dL_areAlike_393 rfl (lv_at hl 1 rfl) ?_
              refine goP (va_runV (As := []) (rest := [.int (r_X4_doneIn G)]) ⟨hx, hb, hml, hown, hts⟩ (c_X4_doneIn l D cI cC cS B2 P  _) (cwV 0 hts gL_areAlike_X4_doneIn rfl rfl rfl (by decide +kernel) ⟨Nat.le_of_ble_eq_true rfl, Nat.le_of_ble_eq_true rfl⟩) (preP hK hP hD) rfl rfl hl.1 rfl (lv_room (Nat.le_of_ble_eq_true rfl)) dL_areAlike_394 ⟨Nat.zero_le _, Nat.zero_le _⟩) hP hD hS hA (fun H locs hP hD hS => ?_)
              obtain ⟨z_2, hz_2⟩ : ∃ z : Nat → Nat → CS, z = (p_X4_doneIn P) := ⟨_, rfl⟩
              rw [← hz_2] at hP hD
              have hr : (r_L_areAlike G P) = (if (r_X4_doneIn G) = (r_X4_doneIn P) then ((fun (z_3 : Nat → Nat → CS) => ((fun (z_4 : Nat → Nat → CS) => (if (r_X4_leastDepth z_1 (40 : Int32)) = (r_X4_leastDepth z_2 (40 : Int32)) then (1 : Int32) else (0 : Int32))) (p_X4_leastDepth z_2 (40 : Int32)))) (p_X4_leastDepth z_1 (40 : Int32))) else (0 : Int32)) := by subst hz_2; exact hr
              have hp_G : (p_L_areAlike_G G P) = (if (r_X4_doneIn G) = (r_X4_doneIn P) then ((fun (z_3 : Nat → Nat → CS) => ((fun (z_4 : Nat → Nat → CS) => (if (r_X4_leastDepth z_1 (40 : Int32)) = (r_X4_leastDepth z_2 (40 : Int32)) then z_3 else z_3)) (p_X4_leastDepth z_2 (40 : Int32)))) (p_X4_leastDepth z_1 (40 : Int32))) else z_1) := by subst hz_2; exact hp_G
              have hp_P : (p_L_areAlike_P G P) = (if (r_X4_doneIn G) = (r_X4_doneIn P) then ((fun (z_3 : Nat → Nat → CS) => ((fun (z_4 : Nat → Nat → CS) => (if (r_X4_leastDepth z_1 (40 : Int32)) = (r_X4_leastDepth z_2 (40 : Int32)) then z_4 else z_4)) (p_X4_leastDepth z_2 (40 : Int32)))) (p_X4_leastDepth z_1 (40 : Int32))) else z_2) := by subst hz_2; exact hp_P
              refine lv_icmp_ne (tgt := 419) hx hb dL_areAlike_397 (by decide) (fun c397 => ?_) (fun c397 => ?_)
              · have hr := hr.trans (if_neg c397)
                have hp_G := hp_G.trans (if_neg c397)
                have hp_P := hp_P.trans (if_neg c397)
                refine lv_iconst (v := (0 : Int32)) hx hb dL_areAlike_419 (by decide) ?_
                exact endZ (v := (0 : Int32)) hb hx hsg rfl hr.symm (by rw [hp_G, hp_P]; exact hP) (by rw [hp_G, hp_P]; exact hD) hS dL_areAlike_420 hlocks
              · have hr := hr.trans (if_pos c397)
                have hp_G := hp_G.trans (if_pos c397)
                have hp_P := hp_P.trans (if_pos c397)
                refine lv_aload_n hx hb dL_areAlike_400 rfl (lv_at hl 0 rfl) ?_
                refine lv_bipush (v := (40 : Int32)) hx hb dL_areAlike_401 (by decide) ?_
                refine goG (va_runV (As := [.int (40 : Int32)]) (rest := []) ⟨hx, hb, hml, hown, hts⟩ (c_X4_leastDepth l D cI cC cS B z_1 (40 : Int32)  _) (cwV 1 hts gL_areAlike_X4_leastDepth rfl rfl rfl (by decide +kernel) ⟨Nat.le_of_ble_eq_true rfl, Nat.le_of_ble_eq_true rfl⟩) (preG hK hP hD) rfl rfl hl.1 rfl (lv_room (Nat.le_of_ble_eq_true rfl)) dL_areAlike_403 ⟨Nat.zero_le _, Nat.zero_le _⟩) hP hD hS hA (fun H locs hP hD hS => ?_)
                obtain ⟨z_3, hz_3⟩ : ∃ z : Nat → Nat → CS, z = (p_X4_leastDepth z_1 (40 : Int32)) := ⟨_, rfl⟩
                rw [← hz_3] at hP hD
                have hr : (r_L_areAlike G P) = ((fun (z_4 : Nat → Nat → CS) => (if (r_X4_leastDepth z_1 (40 : Int32)) = (r_X4_leastDepth z_2 (40 : Int32)) then (1 : Int32) else (0 : Int32))) (p_X4_leastDepth z_2 (40 : Int32))) := by subst hz_3; exact hr
                have hp_G : (p_L_areAlike_G G P) = ((fun (z_4 : Nat → Nat → CS) => (if (r_X4_leastDepth z_1 (40 : Int32)) = (r_X4_leastDepth z_2 (40 : Int32)) then z_3 else z_3)) (p_X4_leastDepth z_2 (40 : Int32))) := by subst hz_3; exact hp_G
                have hp_P : (p_L_areAlike_P G P) = ((fun (z_4 : Nat → Nat → CS) => (if (r_X4_leastDepth z_1 (40 : Int32)) = (r_X4_leastDepth z_2 (40 : Int32)) then z_4 else z_4)) (p_X4_leastDepth z_2 (40 : Int32))) := by subst hz_3; exact hp_P
                refine lv_aload_n hx hb dL_areAlike_406 rfl (lv_at hl 1 rfl) ?_
                refine lv_bipush (v := (40 : Int32)) hx hb dL_areAlike_407 (by decide) ?_
                refine goP (va_runV (As := [.int (40 : Int32)]) (rest := [.int (r_X4_leastDepth z_1 (40 : Int32))]) ⟨hx, hb, hml, hown, hts⟩ (c_X4_leastDepth l D cI cC cS B2 z_2 (40 : Int32)  _) (cwV 1 hts gL_areAlike_X4_leastDepth rfl rfl rfl (by decide +kernel) ⟨Nat.le_of_ble_eq_true rfl, Nat.le_of_ble_eq_true rfl⟩) (preP hK hP hD) rfl rfl hl.1 rfl (lv_room (Nat.le_of_ble_eq_true rfl)) dL_areAlike_409 ⟨Nat.zero_le _, Nat.zero_le _⟩) hP hD hS hA (fun H locs hP hD hS => ?_)
                obtain ⟨z_4, hz_4⟩ : ∃ z : Nat → Nat → CS, z = (p_X4_leastDepth z_2 (40 : Int32)) := ⟨_, rfl⟩
                rw [← hz_4] at hP hD
                have hr : (r_L_areAlike G P) = (if (r_X4_leastDepth z_1 (40 : Int32)) = (r_X4_leastDepth z_2 (40 : Int32)) then (1 : Int32) else (0 : Int32)) := by subst hz_4; exact hr
                have hp_G : (p_L_areAlike_G G P) = (if (r_X4_leastDepth z_1 (40 : Int32)) = (r_X4_leastDepth z_2 (40 : Int32)) then z_3 else z_3) := by subst hz_4; exact hp_G
                have hp_P : (p_L_areAlike_P G P) = (if (r_X4_leastDepth z_1 (40 : Int32)) = (r_X4_leastDepth z_2 (40 : Int32)) then z_4 else z_4) := by subst hz_4; exact hp_P
                refine lv_icmp_ne (tgt := 419) hx hb dL_areAlike_412 (by decide) (fun c412 => ?_) (fun c412 => ?_)
                · have hr := hr.trans (if_neg c412)
                  have hp_G := hp_G.trans (if_neg c412)
                  have hp_P := hp_P.trans (if_neg c412)
                  refine lv_iconst (v := (0 : Int32)) hx hb dL_areAlike_419 (by decide) ?_
                  exact endZ (v := (0 : Int32)) hb hx hsg rfl hr.symm (by rw [hp_G, hp_P]; exact hP) (by rw [hp_G, hp_P]; exact hD) hS dL_areAlike_420 hlocks
                · have hr := hr.trans (if_pos c412)
                  have hp_G := hp_G.trans (if_pos c412)
                  have hp_P := hp_P.trans (if_pos c412)
                  refine lv_iconst (v := (1 : Int32)) hx hb dL_areAlike_415 (by decide) ?_
                  refine lv_goto (tgt := 420) hx hb dL_areAlike_416 (by decide) ?_
                  exact endZ (v := (1 : Int32)) hb hx hsg rfl hr.symm (by rw [hp_G, hp_P]; exact hP) (by rw [hp_G, hp_P]; exact hD) hS dL_areAlike_420 hlocks
          have L_284 : ∀ (fu : Nat) (iy : Int32) (kt : Int32) (H : Heap) (locs : List Loc), ((16 : Int32).toInt - kt.toInt < (fu : Int) ∧ 0 < fu) → T284_iy = (q_L_areAlike_284 G P fu iy kt) → va_P D vwCl (gpW cI cC cS B G ++ gpW cI cC cS B2 P) H → va_D A (gpW cI cC cS B G ++ gpW cI cC cS B2 P) → va_S A s.heap H locs → ∀ ls, lv_has ls 6 [(0, .ref (B 0 3 0)), (1, .ref (B2 0 3 0)), (2, .int iy), (3, .int kt)] → W p l e rm_L_areAlike s m args below meth c H locs 0 0 (MQ below (QI D (gpW cI cC cS B (p_L_areAlike_G G P) ++ gpW cI cC cS B2 (p_L_areAlike_P G P)) (r_L_areAlike G P) A) args s 0 0 A) (F0 m 284 ls []) := by
            intro fu
            induction fu with
            | zero => intro iy kt H locs hm; exact absurd hm.2 (Nat.lt_irrefl 0)
            | succ fu ih_284 =>
              intro iy kt H locs hm  hq0 hP hD hS ls hl
              have hq0 : T284_iy = (if (16 : Int32) ≤ kt then iy else ((fun (x378_s0 : Int32) => (q_L_areAlike_284 G P fu x378_s0 (kt + (1 : Int32)))) (if iy = (0 : Int32) then (0 : Int32) else (if (0 : Int32) ≤ (r_X4_taken G kt) then (if ((r_X4_taken G kt) / (100 : Int32)) = ((r_X4_taken P kt) / (100 : Int32)) then (if (((r_X4_taken G kt) - (r_X4_taken G kt) / (100 : Int32) * (100 : Int32)) + ((r_X4_taken P kt) - (r_X4_taken P kt) / (100 : Int32) * (100 : Int32))) = (99 : Int32) then (1 : Int32) else (if (r_X4_taken G kt) < (100 : Int32) then (0 : Int32) else (if (((r_X4_taken G kt) - (r_X4_taken G kt) / (100 : Int32) * (100 : Int32)) + ((r_X4_taken P kt) - (r_X4_taken P kt) / (100 : Int32) * (100 : Int32))) = (0 : Int32) then (1 : Int32) else (0 : Int32)))) else (0 : Int32)) else (if (r_X4_taken G kt) = (r_X4_taken P kt) then (1 : Int32) else (0 : Int32)))))) := hq0
              refine lv_iload_n hx hb dL_areAlike_284 rfl (lv_at hl 3 rfl) ?_
              refine lv_bipush (v := (16 : Int32)) hx hb dL_areAlike_285 (by decide) ?_
              refine lv_icmp_ge (tgt := 385) hx hb dL_areAlike_287 (by decide) (fun c287 => ?_) (fun c287 => ?_)
              · have hq0 := hq0.trans (if_pos c287)
                exact K_284 _ _  (by exact hP) (by exact hD) hS ls (by rw [hq0]; exact lv_sub hl [0, 1, 2] rfl)
              · have hq0 := hq0.trans (if_neg c287)
                refine lv_aload_n hx hb dL_areAlike_290 rfl (lv_at hl 0 rfl) ?_
                refine lv_iload_n hx hb dL_areAlike_291 rfl (lv_at hl 3 rfl) ?_
                refine goG (va_runV (As := [.int kt]) (rest := []) ⟨hx, hb, hml, hown, hts⟩ (c_X4_taken l D cI cC cS B G kt  _) (cwV 1 hts gL_areAlike_X4_taken rfl rfl rfl (by decide +kernel) ⟨Nat.le_of_ble_eq_true rfl, Nat.le_of_ble_eq_true rfl⟩) (preG hK hP hD) rfl rfl hl.1 rfl (lv_room (Nat.le_of_ble_eq_true rfl)) dL_areAlike_292 ⟨Nat.zero_le _, Nat.zero_le _⟩) hP hD hS hA (fun H locs hP hD hS => ?_)
                refine lv_istore (lv' := [(4, .int (r_X4_taken G kt)), (0, .ref (B 0 3 0)), (1, .ref (B2 0 3 0)), (2, .int iy), (3, .int kt)]) hx hb dL_areAlike_295 hl (by decide) rfl (fun ls hl => ?_)
                refine lv_aload_n hx hb dL_areAlike_297 rfl (lv_at hl 2 rfl) ?_
                refine lv_iload_n hx hb dL_areAlike_298 rfl (lv_at hl 4 rfl) ?_
                refine goP (va_runV (As := [.int kt]) (rest := []) ⟨hx, hb, hml, hown, hts⟩ (c_X4_taken l D cI cC cS B2 P kt  _) (cwV 1 hts gL_areAlike_X4_taken rfl rfl rfl (by decide +kernel) ⟨Nat.le_of_ble_eq_true rfl, Nat.le_of_ble_eq_true rfl⟩) (preP hK hP hD) rfl rfl hl.1 rfl (lv_room (Nat.le_of_ble_eq_true rfl)) dL_areAlike_299 ⟨Nat.zero_le _, Nat.zero_le _⟩) hP hD hS hA (fun H locs hP hD hS => ?_)
                refine lv_istore (lv' := [(5, .int (r_X4_taken P kt)), (4, .int (r_X4_taken G kt)), (0, .ref (B 0 3 0)), (1, .ref (B2 0 3 0)), (2, .int iy), (3, .int kt)]) hx hb dL_areAlike_302 hl (by decide) rfl (fun ls hl => ?_)
                refine lv_iload_n hx hb dL_areAlike_304 rfl (lv_at hl 4 rfl) ?_
                have J_378 : ∀ (x378_s0 : Int32) (H : Heap) (locs : List Loc), x378_s0 = (if iy = (0 : Int32) then (0 : Int32) else (if (0 : Int32) ≤ (r_X4_taken G kt) then (if ((r_X4_taken G kt) / (100 : Int32)) = ((r_X4_taken P kt) / (100 : Int32)) then (if (((r_X4_taken G kt) - (r_X4_taken G kt) / (100 : Int32) * (100 : Int32)) + ((r_X4_taken P kt) - (r_X4_taken P kt) / (100 : Int32) * (100 : Int32))) = (99 : Int32) then (1 : Int32) else (if (r_X4_taken G kt) < (100 : Int32) then (0 : Int32) else (if (((r_X4_taken G kt) - (r_X4_taken G kt) / (100 : Int32) * (100 : Int32)) + ((r_X4_taken P kt) - (r_X4_taken P kt) / (100 : Int32) * (100 : Int32))) = (0 : Int32) then (1 : Int32) else (0 : Int32)))) else (0 : Int32)) else (if (r_X4_taken G kt) = (r_X4_taken P kt) then (1 : Int32) else (0 : Int32)))) → va_P D vwCl (gpW cI cC cS B G ++ gpW cI cC cS B2 P) H → va_D A (gpW cI cC cS B G ++ gpW cI cC cS B2 P) → va_S A s.heap H locs → ∀ ls, lv_has ls 6 [(0, .ref (B 0 3 0)), (1, .ref (B2 0 3 0)), (3, .int kt)] → W p l e rm_L_areAlike s m args below meth c H locs 0 0 (MQ below (QI D (gpW cI cC cS B (p_L_areAlike_G G P) ++ gpW cI cC cS B2 (p_L_areAlike_P G P)) (r_L_areAlike G P) A) args s 0 0 A) (F0 m 378 ls [.int x378_s0]) := by
                  intro x378_s0 H locs ex378_s0 hP hD hS ls hl
                  have hq0 : T284_iy = (q_L_areAlike_284 G P fu x378_s0 (kt + (1 : Int32))) := by subst ex378_s0; exact hq0
                  refine lv_istore_n (lv' := [(2, .int x378_s0), (0, .ref (B 0 3 0)), (1, .ref (B2 0 3 0)), (3, .int kt)]) hx hb dL_areAlike_378 rfl hl (by decide) rfl (fun ls hl => ?_)
                  refine lv_iinc (v := (kt + (1 : Int32))) (lv' := [(3, .int (kt + (1 : Int32))), (2, .int x378_s0), (0, .ref (B 0 3 0)), (1, .ref (B2 0 3 0))]) hx hb dL_areAlike_379 hl (k := 3) rfl rfl (by decide) rfl (fun ls hl => ?_)
                  refine lv_goto (tgt := 284) hx hb dL_areAlike_382 (by decide) ?_
                  exact ih_284 x378_s0 (kt + (1 : Int32)) _ _ (cnt_step c287 hm) hq0 hP hD hS ls (lv_sub hl [2, 3, 1, 0] rfl)
                refine lv_if_eq (tgt := 377) hx hb dL_areAlike_305 (by decide) (fun c305 => ?_) (fun c305 => ?_)
                · refine lv_iconst (v := (0 : Int32)) hx hb dL_areAlike_377 (by decide) ?_
                  exact J_378 (0 : Int32) _ _ (if_pos c305).symm hP hD hS ls (lv_sub hl [2, 3, 5] rfl)
                · refine lv_iload hx hb dL_areAlike_308 (lv_at hl 1 rfl) ?_
                  refine lv_if_ge (tgt := 323) hx hb dL_areAlike_310 (by decide) (fun c310 => ?_) (fun c310 => ?_)
                  · refine lv_iload hx hb dL_areAlike_323 (lv_at hl 1 rfl) ?_
                    refine lv_bipush (v := (100 : Int32)) hx hb dL_areAlike_325 (by decide) ?_
                    refine lv_idiv hx hb dL_areAlike_327 (by decide) ?_
                    refine lv_iload hx hb dL_areAlike_328 (lv_at hl 0 rfl) ?_
                    refine lv_bipush (v := (100 : Int32)) hx hb dL_areAlike_330 (by decide) ?_
                    refine lv_idiv hx hb dL_areAlike_332 (by decide) ?_
                    refine lv_icmp_ne (tgt := 377) hx hb dL_areAlike_333 (by decide) (fun c333 => ?_) (fun c333 => ?_)
                    · refine lv_iconst (v := (0 : Int32)) hx hb dL_areAlike_377 (by decide) ?_
                      exact J_378 (0 : Int32) _ _ (((if_neg c305).trans (if_pos c310)).trans (if_neg c333)).symm hP hD hS ls (lv_sub hl [2, 3, 5] rfl)
                    · refine lv_iload hx hb dL_areAlike_336 (lv_at hl 1 rfl) ?_
                      refine lv_bipush (v := (100 : Int32)) hx hb dL_areAlike_338 (by decide) ?_
                      refine lv_irem hx hb dL_areAlike_340 (by decide) ?_
                      refine lv_iload hx hb dL_areAlike_341 (lv_at hl 0 rfl) ?_
                      refine lv_bipush (v := (100 : Int32)) hx hb dL_areAlike_343 (by decide) ?_
                      refine lv_irem hx hb dL_areAlike_345 (by decide) ?_
                      refine lv_iadd hx hb dL_areAlike_346 ?_
                      refine lv_bipush (v := (99 : Int32)) hx hb dL_areAlike_347 (by decide) ?_
                      refine lv_icmp_eq (tgt := 373) hx hb dL_areAlike_349 (by decide) (fun c349 => ?_) (fun c349 => ?_)
                      · refine lv_iconst (v := (1 : Int32)) hx hb dL_areAlike_373 (by decide) ?_
                        refine lv_goto (tgt := 378) hx hb dL_areAlike_374 (by decide) ?_
                        exact J_378 (1 : Int32) _ _ ((((if_neg c305).trans (if_pos c310)).trans (if_pos c333)).trans (if_pos c349)).symm hP hD hS ls (lv_sub hl [2, 3, 5] rfl)
                      · refine lv_iload hx hb dL_areAlike_352 (lv_at hl 1 rfl) ?_
                        refine lv_bipush (v := (100 : Int32)) hx hb dL_areAlike_354 (by decide) ?_
                        refine lv_icmp_lt (tgt := 377) hx hb dL_areAlike_356 (by decide) (fun c356 => ?_) (fun c356 => ?_)
                        · refine lv_iconst (v := (0 : Int32)) hx hb dL_areAlike_377 (by decide) ?_
                          exact J_378 (0 : Int32) _ _ (((((if_neg c305).trans (if_pos c310)).trans (if_pos c333)).trans (if_neg c349)).trans (if_pos c356)).symm hP hD hS ls (lv_sub hl [2, 3, 5] rfl)
                        · refine lv_iload hx hb dL_areAlike_359 (lv_at hl 1 rfl) ?_
                          refine lv_bipush (v := (100 : Int32)) hx hb dL_areAlike_361 (by decide) ?_
                          refine lv_irem hx hb dL_areAlike_363 (by decide) ?_
                          refine lv_iload hx hb dL_areAlike_364 (lv_at hl 0 rfl) ?_
                          refine lv_bipush (v := (100 : Int32)) hx hb dL_areAlike_366 (by decide) ?_
                          refine lv_irem hx hb dL_areAlike_368 (by decide) ?_
                          refine lv_iadd hx hb dL_areAlike_369 ?_
                          refine lv_if_ne (tgt := 377) hx hb dL_areAlike_370 (by decide) (fun c370 => ?_) (fun c370 => ?_)
                          · refine lv_iconst (v := (0 : Int32)) hx hb dL_areAlike_377 (by decide) ?_
                            exact J_378 (0 : Int32) _ _ ((((((if_neg c305).trans (if_pos c310)).trans (if_pos c333)).trans (if_neg c349)).trans (if_neg c356)).trans (if_neg c370)).symm hP hD hS ls (lv_sub hl [2, 3, 5] rfl)
                          · refine lv_iconst (v := (1 : Int32)) hx hb dL_areAlike_373 (by decide) ?_
                            refine lv_goto (tgt := 378) hx hb dL_areAlike_374 (by decide) ?_
                            exact J_378 (1 : Int32) _ _ ((((((if_neg c305).trans (if_pos c310)).trans (if_pos c333)).trans (if_neg c349)).trans (if_neg c356)).trans (if_pos c370)).symm hP hD hS ls (lv_sub hl [2, 3, 5] rfl)
                  · refine lv_iload hx hb dL_areAlike_313 (lv_at hl 1 rfl) ?_
                    refine lv_iload hx hb dL_areAlike_315 (lv_at hl 0 rfl) ?_
                    refine lv_icmp_ne (tgt := 377) hx hb dL_areAlike_317 (by decide) (fun c317 => ?_) (fun c317 => ?_)
                    · refine lv_iconst (v := (0 : Int32)) hx hb dL_areAlike_377 (by decide) ?_
                      exact J_378 (0 : Int32) _ _ (((if_neg c305).trans (if_neg c310)).trans (if_neg c317)).symm hP hD hS ls (lv_sub hl [2, 3, 5] rfl)
                    · refine lv_goto (tgt := 373) hx hb dL_areAlike_320 (by decide) ?_
                      refine lv_iconst (v := (1 : Int32)) hx hb dL_areAlike_373 (by decide) ?_
                      refine lv_goto (tgt := 378) hx hb dL_areAlike_374 (by decide) ?_
                      exact J_378 (1 : Int32) _ _ (((if_neg c305).trans (if_neg c310)).trans (if_pos c317)).symm hP hD hS ls (lv_sub hl [2, 3, 5] rfl)
          exact L_284 _ T207_iw (0 : Int32) _ _ (by rw [hnf_284]; exact (cnt_init _ _)) hT284_iy hP hD hS ls (lv_sub hl [1, 2, 3, 0] rfl)
        have L_207 : ∀ (fu : Nat) (iw : Int32) (kw : Int32) (H : Heap) (locs : List Loc), ((20 : Int32).toInt - kw.toInt < (fu : Int) ∧ 0 < fu) → T207_iw = (q_L_areAlike_207 G P fu iw kw) → va_P D vwCl (gpW cI cC cS B G ++ gpW cI cC cS B2 P) H → va_D A (gpW cI cC cS B G ++ gpW cI cC cS B2 P) → va_S A s.heap H locs → ∀ ls, lv_has ls 6 [(0, .ref (B 0 3 0)), (1, .ref (B2 0 3 0)), (2, .int iw), (3, .int kw)] → W p l e rm_L_areAlike s m args below meth c H locs 0 0 (MQ below (QI D (gpW cI cC cS B (p_L_areAlike_G G P) ++ gpW cI cC cS B2 (p_L_areAlike_P G P)) (r_L_areAlike G P) A) args s 0 0 A) (F0 m 207 ls []) := by
          intro fu
          induction fu with
          | zero => intro iw kw H locs hm; exact absurd hm.2 (Nat.lt_irrefl 0)
          | succ fu ih_207 =>
            intro iw kw H locs hm  hq0 hP hD hS ls hl
            have hq0 : T207_iw = (if (20 : Int32) ≤ kw then iw else ((fun (x227_s0 : Int32) => ((fun (x275_s0 : Int32) => (q_L_areAlike_207 G P fu x275_s0 (kw + (1 : Int32)))) (if iw = (0 : Int32) then (0 : Int32) else (if x227_s0 = (0 : Int32) then (if (r_X4_waiting G kw) = (r_X4_waiting P kw) then (1 : Int32) else (0 : Int32)) else (if ((r_X4_waiting G kw) + (r_X4_waiting P kw)) = (99 : Int32) then (1 : Int32) else (0 : Int32)))))) (if (r_X4_count G (5 : Int32)) ≤ kw then (0 : Int32) else (1 : Int32)))) := hq0
            refine lv_iload_n hx hb dL_areAlike_207 rfl (lv_at hl 3 rfl) ?_
            refine lv_bipush (v := (20 : Int32)) hx hb dL_areAlike_208 (by decide) ?_
            refine lv_icmp_ge (tgt := 282) hx hb dL_areAlike_210 (by decide) (fun c210 => ?_) (fun c210 => ?_)
            · have hq0 := hq0.trans (if_pos c210)
              exact K_207 _ _  (by exact hP) (by exact hD) hS ls (by rw [hq0]; exact lv_sub hl [0, 1, 2] rfl)
            · have hq0 := hq0.trans (if_neg c210)
              refine lv_iload_n hx hb dL_areAlike_213 rfl (lv_at hl 3 rfl) ?_
              refine lv_aload_n hx hb dL_areAlike_214 rfl (lv_at hl 0 rfl) ?_
              refine lv_iconst (v := (5 : Int32)) hx hb dL_areAlike_215 (by decide) ?_
              refine goG (va_runV (As := [.int (5 : Int32)]) (rest := [.int kw]) ⟨hx, hb, hml, hown, hts⟩ (c_X4_count l D cI cC cS B G (5 : Int32)  _) (cwV 1 hts gL_areAlike_X4_count rfl rfl rfl (by decide +kernel) ⟨Nat.le_of_ble_eq_true rfl, Nat.le_of_ble_eq_true rfl⟩) (preG hK hP hD) rfl rfl hl.1 rfl (lv_room (Nat.le_of_ble_eq_true rfl)) dL_areAlike_216 ⟨Nat.zero_le _, Nat.zero_le _⟩) hP hD hS hA (fun H locs hP hD hS => ?_)
              have J_227 : ∀ (x227_s0 : Int32) (H : Heap) (locs : List Loc), x227_s0 = (if (r_X4_count G (5 : Int32)) ≤ kw then (0 : Int32) else (1 : Int32)) → va_P D vwCl (gpW cI cC cS B G ++ gpW cI cC cS B2 P) H → va_D A (gpW cI cC cS B G ++ gpW cI cC cS B2 P) → va_S A s.heap H locs → ∀ ls, lv_has ls 6 [(0, .ref (B 0 3 0)), (1, .ref (B2 0 3 0)), (2, .int iw), (3, .int kw)] → W p l e rm_L_areAlike s m args below meth c H locs 0 0 (MQ below (QI D (gpW cI cC cS B (p_L_areAlike_G G P) ++ gpW cI cC cS B2 (p_L_areAlike_P G P)) (r_L_areAlike G P) A) args s 0 0 A) (F0 m 227 ls [.int x227_s0]) := by
                intro x227_s0 H locs ex227_s0 hP hD hS ls hl
                have hq0 : T207_iw = ((fun (x275_s0 : Int32) => (q_L_areAlike_207 G P fu x275_s0 (kw + (1 : Int32)))) (if iw = (0 : Int32) then (0 : Int32) else (if x227_s0 = (0 : Int32) then (if (r_X4_waiting G kw) = (r_X4_waiting P kw) then (1 : Int32) else (0 : Int32)) else (if ((r_X4_waiting G kw) + (r_X4_waiting P kw)) = (99 : Int32) then (1 : Int32) else (0 : Int32))))) := by subst ex227_s0; exact hq0
                refine lv_istore (lv' := [(4, .int x227_s0), (0, .ref (B 0 3 0)), (1, .ref (B2 0 3 0)), (2, .int iw), (3, .int kw)]) hx hb dL_areAlike_227 hl (by decide) rfl (fun ls hl => ?_)
                refine lv_iload_n hx hb dL_areAlike_229 rfl (lv_at hl 3 rfl) ?_
                have J_275 : ∀ (x275_s0 : Int32) (H : Heap) (locs : List Loc), x275_s0 = (if iw = (0 : Int32) then (0 : Int32) else (if x227_s0 = (0 : Int32) then (if (r_X4_waiting G kw) = (r_X4_waiting P kw) then (1 : Int32) else (0 : Int32)) else (if ((r_X4_waiting G kw) + (r_X4_waiting P kw)) = (99 : Int32) then (1 : Int32) else (0 : Int32)))) → va_P D vwCl (gpW cI cC cS B G ++ gpW cI cC cS B2 P) H → va_D A (gpW cI cC cS B G ++ gpW cI cC cS B2 P) → va_S A s.heap H locs → ∀ ls, lv_has ls 6 [(0, .ref (B 0 3 0)), (1, .ref (B2 0 3 0)), (3, .int kw)] → W p l e rm_L_areAlike s m args below meth c H locs 0 0 (MQ below (QI D (gpW cI cC cS B (p_L_areAlike_G G P) ++ gpW cI cC cS B2 (p_L_areAlike_P G P)) (r_L_areAlike G P) A) args s 0 0 A) (F0 m 275 ls [.int x275_s0]) := by
                  intro x275_s0 H locs ex275_s0 hP hD hS ls hl
                  have hq0 : T207_iw = (q_L_areAlike_207 G P fu x275_s0 (kw + (1 : Int32))) := by subst ex275_s0; exact hq0
                  refine lv_istore_n (lv' := [(2, .int x275_s0), (0, .ref (B 0 3 0)), (1, .ref (B2 0 3 0)), (3, .int kw)]) hx hb dL_areAlike_275 rfl hl (by decide) rfl (fun ls hl => ?_)
                  refine lv_iinc (v := (kw + (1 : Int32))) (lv' := [(3, .int (kw + (1 : Int32))), (2, .int x275_s0), (0, .ref (B 0 3 0)), (1, .ref (B2 0 3 0))]) hx hb dL_areAlike_276 hl (k := 3) rfl rfl (by decide) rfl (fun ls hl => ?_)
                  refine lv_goto (tgt := 207) hx hb dL_areAlike_279 (by decide) ?_
                  exact ih_207 x275_s0 (kw + (1 : Int32)) _ _ (cnt_step c210 hm) hq0 hP hD hS ls (lv_sub hl [2, 3, 1, 0] rfl)
                refine lv_if_eq (tgt := 274) hx hb dL_areAlike_230 (by decide) (fun c230 => ?_) (fun c230 => ?_)
                · refine lv_iconst (v := (0 : Int32)) hx hb dL_areAlike_274 (by decide) ?_
                  exact J_275 (0 : Int32) _ _ (if_pos c230).symm hP hD hS ls (lv_sub hl [1, 2, 4] rfl)
                · refine lv_iload hx hb dL_areAlike_233 (lv_at hl 0 rfl) ?_
                  refine lv_if_eq (tgt := 257) hx hb dL_areAlike_235 (by decide) (fun c235 => ?_) (fun c235 => ?_)
                  · refine lv_aload_n hx hb dL_areAlike_257 rfl (lv_at hl 1 rfl) ?_
                    refine lv_iload_n hx hb dL_areAlike_258 rfl (lv_at hl 4 rfl) ?_
                    refine goG (va_runV (As := [.int kw]) (rest := []) ⟨hx, hb, hml, hown, hts⟩ (c_X4_waiting l D cI cC cS B G kw  _) (cwV 1 hts gL_areAlike_X4_waiting rfl rfl rfl (by decide +kernel) ⟨Nat.le_of_ble_eq_true rfl, Nat.le_of_ble_eq_true rfl⟩) (preG hK hP hD) rfl rfl hl.1 rfl (lv_room (Nat.le_of_ble_eq_true rfl)) dL_areAlike_259 ⟨Nat.zero_le _, Nat.zero_le _⟩) hP hD hS hA (fun H locs hP hD hS => ?_)
                    refine lv_aload_n hx hb dL_areAlike_262 rfl (lv_at hl 2 rfl) ?_
                    refine lv_iload_n hx hb dL_areAlike_263 rfl (lv_at hl 4 rfl) ?_
                    refine goP (va_runV (As := [.int kw]) (rest := [.int (r_X4_waiting G kw)]) ⟨hx, hb, hml, hown, hts⟩ (c_X4_waiting l D cI cC cS B2 P kw  _) (cwV 1 hts gL_areAlike_X4_waiting rfl rfl rfl (by decide +kernel) ⟨Nat.le_of_ble_eq_true rfl, Nat.le_of_ble_eq_true rfl⟩) (preP hK hP hD) rfl rfl hl.1 rfl (lv_room (Nat.le_of_ble_eq_true rfl)) dL_areAlike_264 ⟨Nat.zero_le _, Nat.zero_le _⟩) hP hD hS hA (fun H locs hP hD hS => ?_)
                    refine lv_icmp_ne (tgt := 274) hx hb dL_areAlike_267 (by decide) (fun c267 => ?_) (fun c267 => ?_)
                    · refine lv_iconst (v := (0 : Int32)) hx hb dL_areAlike_274 (by decide) ?_
                      exact J_275 (0 : Int32) _ _ (((if_neg c230).trans (if_pos c235)).trans (if_neg c267)).symm hP hD hS ls (lv_sub hl [1, 2, 4] rfl)
                    · refine lv_iconst (v := (1 : Int32)) hx hb dL_areAlike_270 (by decide) ?_
                      refine lv_goto (tgt := 275) hx hb dL_areAlike_271 (by decide) ?_
                      exact J_275 (1 : Int32) _ _ (((if_neg c230).trans (if_pos c235)).trans (if_pos c267)).symm hP hD hS ls (lv_sub hl [1, 2, 4] rfl)
                  · refine lv_aload_n hx hb dL_areAlike_238 rfl (lv_at hl 1 rfl) ?_
                    refine lv_iload_n hx hb dL_areAlike_239 rfl (lv_at hl 4 rfl) ?_
                    refine goG (va_runV (As := [.int kw]) (rest := []) ⟨hx, hb, hml, hown, hts⟩ (c_X4_waiting l D cI cC cS B G kw  _) (cwV 1 hts gL_areAlike_X4_waiting rfl rfl rfl (by decide +kernel) ⟨Nat.le_of_ble_eq_true rfl, Nat.le_of_ble_eq_true rfl⟩) (preG hK hP hD) rfl rfl hl.1 rfl (lv_room (Nat.le_of_ble_eq_true rfl)) dL_areAlike_240 ⟨Nat.zero_le _, Nat.zero_le _⟩) hP hD hS hA (fun H locs hP hD hS => ?_)
                    refine lv_aload_n hx hb dL_areAlike_243 rfl (lv_at hl 2 rfl) ?_
                    refine lv_iload_n hx hb dL_areAlike_244 rfl (lv_at hl 4 rfl) ?_
                    refine goP (va_runV (As := [.int kw]) (rest := [.int (r_X4_waiting G kw)]) ⟨hx, hb, hml, hown, hts⟩ (c_X4_waiting l D cI cC cS B2 P kw  _) (cwV 1 hts gL_areAlike_X4_waiting rfl rfl rfl (by decide +kernel) ⟨Nat.le_of_ble_eq_true rfl, Nat.le_of_ble_eq_true rfl⟩) (preP hK hP hD) rfl rfl hl.1 rfl (lv_room (Nat.le_of_ble_eq_true rfl)) dL_areAlike_245 ⟨Nat.zero_le _, Nat.zero_le _⟩) hP hD hS hA (fun H locs hP hD hS => ?_)
                    refine lv_iadd hx hb dL_areAlike_248 ?_
                    refine lv_bipush (v := (99 : Int32)) hx hb dL_areAlike_249 (by decide) ?_
                    refine lv_icmp_ne (tgt := 274) hx hb dL_areAlike_251 (by decide) (fun c251 => ?_) (fun c251 => ?_)
                    · refine lv_iconst (v := (0 : Int32)) hx hb dL_areAlike_274 (by decide) ?_
                      exact J_275 (0 : Int32) _ _ (((if_neg c230).trans (if_neg c235)).trans (if_neg c251)).symm hP hD hS ls (lv_sub hl [1, 2, 4] rfl)
                    · refine lv_goto (tgt := 270) hx hb dL_areAlike_254 (by decide) ?_
                      refine lv_iconst (v := (1 : Int32)) hx hb dL_areAlike_270 (by decide) ?_
                      refine lv_goto (tgt := 275) hx hb dL_areAlike_271 (by decide) ?_
                      exact J_275 (1 : Int32) _ _ (((if_neg c230).trans (if_neg c235)).trans (if_pos c251)).symm hP hD hS ls (lv_sub hl [1, 2, 4] rfl)
              refine lv_icmp_ge (tgt := 226) hx hb dL_areAlike_219 (by decide) (fun c219 => ?_) (fun c219 => ?_)
              · refine lv_iconst (v := (0 : Int32)) hx hb dL_areAlike_226 (by decide) ?_
                exact J_227 (0 : Int32) _ _ (if_pos c219).symm hP hD hS ls (lv_sub hl [0, 1, 2, 3] rfl)
              · refine lv_iconst (v := (1 : Int32)) hx hb dL_areAlike_222 (by decide) ?_
                refine lv_goto (tgt := 227) hx hb dL_areAlike_223 (by decide) ?_
                exact J_227 (1 : Int32) _ _ (if_neg c219).symm hP hD hS ls (lv_sub hl [0, 1, 2, 3] rfl)
        exact L_207 _ T103_iv (0 : Int32) _ _ (by rw [hnf_207]; exact (cnt_init _ _)) hT207_iw hP hD hS ls (lv_sub hl [1, 2, 3, 0] rfl)
      have L_103 : ∀ (fu : Nat) (iv : Int32) (kp : Int32) (H : Heap) (locs : List Loc), ((r_X4_count G (2 : Int32)).toInt - kp.toInt < (fu : Int) ∧ 0 < fu) → T103_iv = (q_L_areAlike_103 G P fu iv kp) → va_P D vwCl (gpW cI cC cS B G ++ gpW cI cC cS B2 P) H → va_D A (gpW cI cC cS B G ++ gpW cI cC cS B2 P) → va_S A s.heap H locs → ∀ ls, lv_has ls 6 [(0, .ref (B 0 3 0)), (1, .ref (B2 0 3 0)), (2, .int iv), (3, .int kp)] → W p l e rm_L_areAlike s m args below meth c H locs 0 0 (MQ below (QI D (gpW cI cC cS B (p_L_areAlike_G G P) ++ gpW cI cC cS B2 (p_L_areAlike_P G P)) (r_L_areAlike G P) A) args s 0 0 A) (F0 m 103 ls []) := by
        intro fu
        induction fu with
        | zero => intro iv kp H locs hm; exact absurd hm.2 (Nat.lt_irrefl 0)
        | succ fu ih_103 =>
          intro iv kp H locs hm  hq0 hP hD hS ls hl
          have hq0 : T103_iv = (if (r_X4_count G (2 : Int32)) ≤ kp then iv else ((fun (x128_s0 : Int32) => ((fun (x198_s0 : Int32) => (q_L_areAlike_103 G P fu x198_s0 (kp + (1 : Int32)))) (if iv = (0 : Int32) then (0 : Int32) else (if (r_X4_place G kp (1 : Int32)) = (r_X4_place P kp (1 : Int32)) then (if x128_s0 = (0 : Int32) then (if (r_X4_place G kp (0 : Int32)) = (0 : Int32) then (if (r_X4_place P kp (0 : Int32)) = (0 : Int32) then (1 : Int32) else (0 : Int32)) else (0 : Int32)) else (if ((r_X4_place G kp (0 : Int32)) + (r_X4_place P kp (0 : Int32))) = (99 : Int32) then (1 : Int32) else (0 : Int32))) else (0 : Int32))))) (if (r_X4_place G kp (1 : Int32)) = (-5 : Int32) then (0 : Int32) else (1 : Int32)))) := hq0
          refine lv_iload_n hx hb dL_areAlike_103 rfl (lv_at hl 3 rfl) ?_
          refine lv_aload_n hx hb dL_areAlike_104 rfl (lv_at hl 0 rfl) ?_
          refine lv_iconst (v := (2 : Int32)) hx hb dL_areAlike_105 (by decide) ?_
          refine goG (va_runV (As := [.int (2 : Int32)]) (rest := [.int kp]) ⟨hx, hb, hml, hown, hts⟩ (c_X4_count l D cI cC cS B G (2 : Int32)  _) (cwV 1 hts gL_areAlike_X4_count rfl rfl rfl (by decide +kernel) ⟨Nat.le_of_ble_eq_true rfl, Nat.le_of_ble_eq_true rfl⟩) (preG hK hP hD) rfl rfl hl.1 rfl (lv_room (Nat.le_of_ble_eq_true rfl)) dL_areAlike_106 ⟨Nat.zero_le _, Nat.zero_le _⟩) hP hD hS hA (fun H locs hP hD hS => ?_)
          refine lv_icmp_ge (tgt := 205) hx hb dL_areAlike_109 (by decide) (fun c109 => ?_) (fun c109 => ?_)
          · have hq0 := hq0.trans (if_pos c109)
            exact K_103 _ _  (by exact hP) (by exact hD) hS ls (by rw [hq0]; exact lv_sub hl [0, 1, 2] rfl)
          · have hq0 := hq0.trans (if_neg c109)
            refine lv_aload_n hx hb dL_areAlike_112 rfl (lv_at hl 0 rfl) ?_
            refine lv_iload_n hx hb dL_areAlike_113 rfl (lv_at hl 3 rfl) ?_
            refine lv_iconst (v := (1 : Int32)) hx hb dL_areAlike_114 (by decide) ?_
            refine goG (va_runV (As := [.int kp, .int (1 : Int32)]) (rest := []) ⟨hx, hb, hml, hown, hts⟩ (c_X4_place l D cI cC cS B G kp (1 : Int32)  _) (cwV 2 hts gL_areAlike_X4_place rfl rfl rfl (by decide +kernel) ⟨Nat.le_of_ble_eq_true rfl, Nat.le_of_ble_eq_true rfl⟩) (preG hK hP hD) rfl rfl hl.1 rfl (lv_room (Nat.le_of_ble_eq_true rfl)) dL_areAlike_115 ⟨Nat.zero_le _, Nat.zero_le _⟩) hP hD hS hA (fun H locs hP hD hS => ?_)
            refine lv_bipush (v := (-5 : Int32)) hx hb dL_areAlike_118 (by decide) ?_
            have J_128 : ∀ (x128_s0 : Int32) (H : Heap) (locs : List Loc), x128_s0 = (if (r_X4_place G kp (1 : Int32)) = (-5 : Int32) then (0 : Int32) else (1 : Int32)) → va_P D vwCl (gpW cI cC cS B G ++ gpW cI cC cS B2 P) H → va_D A (gpW cI cC cS B G ++ gpW cI cC cS B2 P) → va_S A s.heap H locs → ∀ ls, lv_has ls 6 [(0, .ref (B 0 3 0)), (1, .ref (B2 0 3 0)), (2, .int iv), (3, .int kp)] → W p l e rm_L_areAlike s m args below meth c H locs 0 0 (MQ below (QI D (gpW cI cC cS B (p_L_areAlike_G G P) ++ gpW cI cC cS B2 (p_L_areAlike_P G P)) (r_L_areAlike G P) A) args s 0 0 A) (F0 m 128 ls [.int x128_s0]) := by
              intro x128_s0 H locs ex128_s0 hP hD hS ls hl
              have hq0 : T103_iv = ((fun (x198_s0 : Int32) => (q_L_areAlike_103 G P fu x198_s0 (kp + (1 : Int32)))) (if iv = (0 : Int32) then (0 : Int32) else (if (r_X4_place G kp (1 : Int32)) = (r_X4_place P kp (1 : Int32)) then (if x128_s0 = (0 : Int32) then (if (r_X4_place G kp (0 : Int32)) = (0 : Int32) then (if (r_X4_place P kp (0 : Int32)) = (0 : Int32) then (1 : Int32) else (0 : Int32)) else (0 : Int32)) else (if ((r_X4_place G kp (0 : Int32)) + (r_X4_place P kp (0 : Int32))) = (99 : Int32) then (1 : Int32) else (0 : Int32))) else (0 : Int32)))) := by subst ex128_s0; exact hq0
              refine lv_istore (lv' := [(4, .int x128_s0), (0, .ref (B 0 3 0)), (1, .ref (B2 0 3 0)), (2, .int iv), (3, .int kp)]) hx hb dL_areAlike_128 hl (by decide) rfl (fun ls hl => ?_)
              refine lv_iload_n hx hb dL_areAlike_130 rfl (lv_at hl 3 rfl) ?_
              have J_198 : ∀ (x198_s0 : Int32) (H : Heap) (locs : List Loc), x198_s0 = (if iv = (0 : Int32) then (0 : Int32) else (if (r_X4_place G kp (1 : Int32)) = (r_X4_place P kp (1 : Int32)) then (if x128_s0 = (0 : Int32) then (if (r_X4_place G kp (0 : Int32)) = (0 : Int32) then (if (r_X4_place P kp (0 : Int32)) = (0 : Int32) then (1 : Int32) else (0 : Int32)) else (0 : Int32)) else (if ((r_X4_place G kp (0 : Int32)) + (r_X4_place P kp (0 : Int32))) = (99 : Int32) then (1 : Int32) else (0 : Int32))) else (0 : Int32))) → va_P D vwCl (gpW cI cC cS B G ++ gpW cI cC cS B2 P) H → va_D A (gpW cI cC cS B G ++ gpW cI cC cS B2 P) → va_S A s.heap H locs → ∀ ls, lv_has ls 6 [(0, .ref (B 0 3 0)), (1, .ref (B2 0 3 0)), (3, .int kp)] → W p l e rm_L_areAlike s m args below meth c H locs 0 0 (MQ below (QI D (gpW cI cC cS B (p_L_areAlike_G G P) ++ gpW cI cC cS B2 (p_L_areAlike_P G P)) (r_L_areAlike G P) A) args s 0 0 A) (F0 m 198 ls [.int x198_s0]) := by
                intro x198_s0 H locs ex198_s0 hP hD hS ls hl
                have hq0 : T103_iv = (q_L_areAlike_103 G P fu x198_s0 (kp + (1 : Int32))) := by subst ex198_s0; exact hq0
                refine lv_istore_n (lv' := [(2, .int x198_s0), (0, .ref (B 0 3 0)), (1, .ref (B2 0 3 0)), (3, .int kp)]) hx hb dL_areAlike_198 rfl hl (by decide) rfl (fun ls hl => ?_)
                refine lv_iinc (v := (kp + (1 : Int32))) (lv' := [(3, .int (kp + (1 : Int32))), (2, .int x198_s0), (0, .ref (B 0 3 0)), (1, .ref (B2 0 3 0))]) hx hb dL_areAlike_199 hl (k := 3) rfl rfl (by decide) rfl (fun ls hl => ?_)
                refine lv_goto (tgt := 103) hx hb dL_areAlike_202 (by decide) ?_
                exact ih_103 x198_s0 (kp + (1 : Int32)) _ _ (cnt_step c109 hm) hq0 hP hD hS ls (lv_sub hl [2, 3, 1, 0] rfl)
              refine lv_if_eq (tgt := 197) hx hb dL_areAlike_131 (by decide) (fun c131 => ?_) (fun c131 => ?_)
              · refine lv_iconst (v := (0 : Int32)) hx hb dL_areAlike_197 (by decide) ?_
                exact J_198 (0 : Int32) _ _ (if_pos c131).symm hP hD hS ls (lv_sub hl [1, 2, 4] rfl)
              · refine lv_aload_n hx hb dL_areAlike_134 rfl (lv_at hl 1 rfl) ?_
                refine lv_iload_n hx hb dL_areAlike_135 rfl (lv_at hl 4 rfl) ?_
                refine lv_iconst (v := (1 : Int32)) hx hb dL_areAlike_136 (by decide) ?_
                refine goG (va_runV (As := [.int kp, .int (1 : Int32)]) (rest := []) ⟨hx, hb, hml, hown, hts⟩ (c_X4_place l D cI cC cS B G kp (1 : Int32)  _) (cwV 2 hts gL_areAlike_X4_place rfl rfl rfl (by decide +kernel) ⟨Nat.le_of_ble_eq_true rfl, Nat.le_of_ble_eq_true rfl⟩) (preG hK hP hD) rfl rfl hl.1 rfl (lv_room (Nat.le_of_ble_eq_true rfl)) dL_areAlike_137 ⟨Nat.zero_le _, Nat.zero_le _⟩) hP hD hS hA (fun H locs hP hD hS => ?_)
                refine lv_aload_n hx hb dL_areAlike_140 rfl (lv_at hl 2 rfl) ?_
                refine lv_iload_n hx hb dL_areAlike_141 rfl (lv_at hl 4 rfl) ?_
                refine lv_iconst (v := (1 : Int32)) hx hb dL_areAlike_142 (by decide) ?_
                refine goP (va_runV (As := [.int kp, .int (1 : Int32)]) (rest := [.int (r_X4_place G kp (1 : Int32))]) ⟨hx, hb, hml, hown, hts⟩ (c_X4_place l D cI cC cS B2 P kp (1 : Int32)  _) (cwV 2 hts gL_areAlike_X4_place rfl rfl rfl (by decide +kernel) ⟨Nat.le_of_ble_eq_true rfl, Nat.le_of_ble_eq_true rfl⟩) (preP hK hP hD) rfl rfl hl.1 rfl (lv_room (Nat.le_of_ble_eq_true rfl)) dL_areAlike_143 ⟨Nat.zero_le _, Nat.zero_le _⟩) hP hD hS hA (fun H locs hP hD hS => ?_)
                refine lv_icmp_ne (tgt := 197) hx hb dL_areAlike_146 (by decide) (fun c146 => ?_) (fun c146 => ?_)
                · refine lv_iconst (v := (0 : Int32)) hx hb dL_areAlike_197 (by decide) ?_
                  exact J_198 (0 : Int32) _ _ ((if_neg c131).trans (if_neg c146)).symm hP hD hS ls (lv_sub hl [1, 2, 4] rfl)
                · refine lv_iload hx hb dL_areAlike_149 (lv_at hl 0 rfl) ?_
                  refine lv_if_eq (tgt := 175) hx hb dL_areAlike_151 (by decide) (fun c151 => ?_) (fun c151 => ?_)
                  · refine lv_aload_n hx hb dL_areAlike_175 rfl (lv_at hl 1 rfl) ?_
                    refine lv_iload_n hx hb dL_areAlike_176 rfl (lv_at hl 4 rfl) ?_
                    refine lv_iconst (v := (0 : Int32)) hx hb dL_areAlike_177 (by decide) ?_
                    refine goG (va_runV (As := [.int kp, .int (0 : Int32)]) (rest := []) ⟨hx, hb, hml, hown, hts⟩ (c_X4_place l D cI cC cS B G kp (0 : Int32)  _) (cwV 2 hts gL_areAlike_X4_place rfl rfl rfl (by decide +kernel) ⟨Nat.le_of_ble_eq_true rfl, Nat.le_of_ble_eq_true rfl⟩) (preG hK hP hD) rfl rfl hl.1 rfl (lv_room (Nat.le_of_ble_eq_true rfl)) dL_areAlike_178 ⟨Nat.zero_le _, Nat.zero_le _⟩) hP hD hS hA (fun H locs hP hD hS => ?_)
                    refine lv_if_ne (tgt := 197) hx hb dL_areAlike_181 (by decide) (fun c181 => ?_) (fun c181 => ?_)
                    · refine lv_iconst (v := (0 : Int32)) hx hb dL_areAlike_197 (by decide) ?_
                      exact J_198 (0 : Int32) _ _ ((((if_neg c131).trans (if_pos c146)).trans (if_pos c151)).trans (if_neg c181)).symm hP hD hS ls (lv_sub hl [1, 2, 4] rfl)
                    · refine lv_aload_n hx hb dL_areAlike_184 rfl (lv_at hl 2 rfl) ?_
                      refine lv_iload_n hx hb dL_areAlike_185 rfl (lv_at hl 4 rfl) ?_
                      refine lv_iconst (v := (0 : Int32)) hx hb dL_areAlike_186 (by decide) ?_
                      refine goP (va_runV (As := [.int kp, .int (0 : Int32)]) (rest := []) ⟨hx, hb, hml, hown, hts⟩ (c_X4_place l D cI cC cS B2 P kp (0 : Int32)  _) (cwV 2 hts gL_areAlike_X4_place rfl rfl rfl (by decide +kernel) ⟨Nat.le_of_ble_eq_true rfl, Nat.le_of_ble_eq_true rfl⟩) (preP hK hP hD) rfl rfl hl.1 rfl (lv_room (Nat.le_of_ble_eq_true rfl)) dL_areAlike_187 ⟨Nat.zero_le _, Nat.zero_le _⟩) hP hD hS hA (fun H locs hP hD hS => ?_)
                      refine lv_if_ne (tgt := 197) hx hb dL_areAlike_190 (by decide) (fun c190 => ?_) (fun c190 => ?_)
                      · refine lv_iconst (v := (0 : Int32)) hx hb dL_areAlike_197 (by decide) ?_
                        exact J_198 (0 : Int32) _ _ (((((if_neg c131).trans (if_pos c146)).trans (if_pos c151)).trans (if_pos c181)).trans (if_neg c190)).symm hP hD hS ls (lv_sub hl [1, 2, 4] rfl)
                      · refine lv_iconst (v := (1 : Int32)) hx hb dL_areAlike_193 (by decide) ?_
                        refine lv_goto (tgt := 198) hx hb dL_areAlike_194 (by decide) ?_
                        exact J_198 (1 : Int32) _ _ (((((if_neg c131).trans (if_pos c146)).trans (if_pos c151)).trans (if_pos c181)).trans (if_pos c190)).symm hP hD hS ls (lv_sub hl [1, 2, 4] rfl)
                  · refine lv_aload_n hx hb dL_areAlike_154 rfl (lv_at hl 1 rfl) ?_
                    refine lv_iload_n hx hb dL_areAlike_155 rfl (lv_at hl 4 rfl) ?_
                    refine lv_iconst (v := (0 : Int32)) hx hb dL_areAlike_156 (by decide) ?_
                    refine goG (va_runV (As := [.int kp, .int (0 : Int32)]) (rest := []) ⟨hx, hb, hml, hown, hts⟩ (c_X4_place l D cI cC cS B G kp (0 : Int32)  _) (cwV 2 hts gL_areAlike_X4_place rfl rfl rfl (by decide +kernel) ⟨Nat.le_of_ble_eq_true rfl, Nat.le_of_ble_eq_true rfl⟩) (preG hK hP hD) rfl rfl hl.1 rfl (lv_room (Nat.le_of_ble_eq_true rfl)) dL_areAlike_157 ⟨Nat.zero_le _, Nat.zero_le _⟩) hP hD hS hA (fun H locs hP hD hS => ?_)
                    refine lv_aload_n hx hb dL_areAlike_160 rfl (lv_at hl 2 rfl) ?_
                    refine lv_iload_n hx hb dL_areAlike_161 rfl (lv_at hl 4 rfl) ?_
                    refine lv_iconst (v := (0 : Int32)) hx hb dL_areAlike_162 (by decide) ?_
                    refine goP (va_runV (As := [.int kp, .int (0 : Int32)]) (rest := [.int (r_X4_place G kp (0 : Int32))]) ⟨hx, hb, hml, hown, hts⟩ (c_X4_place l D cI cC cS B2 P kp (0 : Int32)  _) (cwV 2 hts gL_areAlike_X4_place rfl rfl rfl (by decide +kernel) ⟨Nat.le_of_ble_eq_true rfl, Nat.le_of_ble_eq_true rfl⟩) (preP hK hP hD) rfl rfl hl.1 rfl (lv_room (Nat.le_of_ble_eq_true rfl)) dL_areAlike_163 ⟨Nat.zero_le _, Nat.zero_le _⟩) hP hD hS hA (fun H locs hP hD hS => ?_)
                    refine lv_iadd hx hb dL_areAlike_166 ?_
                    refine lv_bipush (v := (99 : Int32)) hx hb dL_areAlike_167 (by decide) ?_
                    refine lv_icmp_ne (tgt := 197) hx hb dL_areAlike_169 (by decide) (fun c169 => ?_) (fun c169 => ?_)
                    · refine lv_iconst (v := (0 : Int32)) hx hb dL_areAlike_197 (by decide) ?_
                      exact J_198 (0 : Int32) _ _ ((((if_neg c131).trans (if_pos c146)).trans (if_neg c151)).trans (if_neg c169)).symm hP hD hS ls (lv_sub hl [1, 2, 4] rfl)
                    · refine lv_goto (tgt := 193) hx hb dL_areAlike_172 (by decide) ?_
                      refine lv_iconst (v := (1 : Int32)) hx hb dL_areAlike_193 (by decide) ?_
                      refine lv_goto (tgt := 198) hx hb dL_areAlike_194 (by decide) ?_
                      exact J_198 (1 : Int32) _ _ ((((if_neg c131).trans (if_pos c146)).trans (if_neg c151)).trans (if_pos c169)).symm hP hD hS ls (lv_sub hl [1, 2, 4] rfl)
            refine lv_icmp_eq (tgt := 127) hx hb dL_areAlike_120 (by decide) (fun c120 => ?_) (fun c120 => ?_)
            · refine lv_iconst (v := (0 : Int32)) hx hb dL_areAlike_127 (by decide) ?_
              exact J_128 (0 : Int32) _ _ (if_pos c120).symm hP hD hS ls (lv_sub hl [0, 1, 2, 3] rfl)
            · refine lv_iconst (v := (1 : Int32)) hx hb dL_areAlike_123 (by decide) ?_
              refine lv_goto (tgt := 128) hx hb dL_areAlike_124 (by decide) ?_
              exact J_128 (1 : Int32) _ _ (if_neg c120).symm hP hD hS ls (lv_sub hl [0, 1, 2, 3] rfl)
      exact L_103 _ T41_it (0 : Int32) _ _ (by rw [hnf_103]; exact (cnt_init _ _)) hT103_iv hP hD hS ls (lv_sub hl [1, 2, 3, 0] rfl)
    have L_41 : ∀ (fu : Nat) (it : Int32) (sd : Int32) (H : Heap) (locs : List Loc), ((2 : Int32).toInt - sd.toInt < (fu : Int) ∧ 0 < fu) → T41_it = (q_L_areAlike_41 G P fu it sd) → va_P D vwCl (gpW cI cC cS B G ++ gpW cI cC cS B2 P) H → va_D A (gpW cI cC cS B G ++ gpW cI cC cS B2 P) → va_S A s.heap H locs → ∀ ls, lv_has ls 6 [(0, .ref (B 0 3 0)), (1, .ref (B2 0 3 0)), (2, .int it), (3, .int sd)] → W p l e rm_L_areAlike s m args below meth c H locs 0 0 (MQ below (QI D (gpW cI cC cS B (p_L_areAlike_G G P) ++ gpW cI cC cS B2 (p_L_areAlike_P G P)) (r_L_areAlike G P) A) args s 0 0 A) (F0 m 41 ls []) := by
      intro fu
      induction fu with
      | zero => intro it sd H locs hm; exact absurd hm.2 (Nat.lt_irrefl 0)
      | succ fu ih_41 =>
        intro it sd H locs hm  hq0 hP hD hS ls hl
        have hq0 : T41_it = (if (2 : Int32) ≤ sd then it else ((fun (T49_iu : Int32) => (q_L_areAlike_41 G P fu T49_iu (sd + (1 : Int32)))) (q_L_areAlike_49 G P sd (((14 : Int32).toInt - (0 : Int32).toInt).toNat + 1) it (0 : Int32)))) := hq0
        refine lv_iload_n hx hb dL_areAlike_41 rfl (lv_at hl 3 rfl) ?_
        refine lv_iconst (v := (2 : Int32)) hx hb dL_areAlike_42 (by decide) ?_
        refine lv_icmp_ge (tgt := 101) hx hb dL_areAlike_43 (by decide) (fun c43 => ?_) (fun c43 => ?_)
        · have hq0 := hq0.trans (if_pos c43)
          exact K_41 _ _  (by exact hP) (by exact hD) hS ls (by rw [hq0]; exact lv_sub hl [0, 1, 2] rfl)
        · have hq0 := hq0.trans (if_neg c43)
          refine lv_iconst (v := (0 : Int32)) hx hb dL_areAlike_46 (by decide) ?_
          refine lv_istore (lv' := [(4, .int (0 : Int32)), (0, .ref (B 0 3 0)), (1, .ref (B2 0 3 0)), (2, .int it), (3, .int sd)]) hx hb dL_areAlike_47 hl (by decide) rfl (fun ls hl => ?_)
          obtain ⟨nf_49, hnf_49⟩ : ∃ n : Nat, n = (((14 : Int32).toInt - (0 : Int32).toInt).toNat + 1) := ⟨_, rfl⟩
          rw [← hnf_49] at hq0
          obtain ⟨T49_iu, hT49_iu⟩ : ∃ T : Int32, T = (q_L_areAlike_49 G P sd nf_49 it (0 : Int32)) := ⟨_, rfl⟩
          have K_49 : ∀ (H : Heap) (locs : List Loc), va_P D vwCl (gpW cI cC cS B G ++ gpW cI cC cS B2 P) H → va_D A (gpW cI cC cS B G ++ gpW cI cC cS B2 P) → va_S A s.heap H locs → ∀ ls, lv_has ls 6 [(0, .ref (B 0 3 0)), (1, .ref (B2 0 3 0)), (2, .int T49_iu), (3, .int sd)] → W p l e rm_L_areAlike s m args below meth c H locs 0 0 (MQ below (QI D (gpW cI cC cS B (p_L_areAlike_G G P) ++ gpW cI cC cS B2 (p_L_areAlike_P G P)) (r_L_areAlike G P) A) args s 0 0 A) (F0 m 95 ls []) := by
            intro H locs  hP hD hS ls hl
            have hq0 : T41_it = (q_L_areAlike_41 G P fu T49_iu (sd + (1 : Int32))) := by rw [hT49_iu]; exact hq0
            refine lv_iinc (v := (sd + (1 : Int32))) (lv' := [(3, .int (sd + (1 : Int32))), (0, .ref (B 0 3 0)), (1, .ref (B2 0 3 0)), (2, .int T49_iu)]) hx hb dL_areAlike_95 hl (k := 3) rfl rfl (by decide) rfl (fun ls hl => ?_)
            refine lv_goto (tgt := 41) hx hb dL_areAlike_98 (by decide) ?_
            exact ih_41 T49_iu (sd + (1 : Int32)) _ _ (cnt_step c43 hm) hq0 hP hD hS ls (lv_sub hl [1, 2, 3, 0] rfl)
          have L_49 : ∀ (fu : Nat) (iu : Int32) (wi : Int32) (H : Heap) (locs : List Loc), ((14 : Int32).toInt - wi.toInt < (fu : Int) ∧ 0 < fu) → T49_iu = (q_L_areAlike_49 G P sd fu iu wi) → va_P D vwCl (gpW cI cC cS B G ++ gpW cI cC cS B2 P) H → va_D A (gpW cI cC cS B G ++ gpW cI cC cS B2 P) → va_S A s.heap H locs → ∀ ls, lv_has ls 6 [(0, .ref (B 0 3 0)), (1, .ref (B2 0 3 0)), (2, .int iu), (3, .int sd), (4, .int wi)] → W p l e rm_L_areAlike s m args below meth c H locs 0 0 (MQ below (QI D (gpW cI cC cS B (p_L_areAlike_G G P) ++ gpW cI cC cS B2 (p_L_areAlike_P G P)) (r_L_areAlike G P) A) args s 0 0 A) (F0 m 49 ls []) := by
            intro fu
            induction fu with
            | zero => intro iu wi H locs hm; exact absurd hm.2 (Nat.lt_irrefl 0)
            | succ fu ih_49 =>
              intro iu wi H locs hm  hq0 hP hD hS ls hl
              have hq0 : T49_iu = (if (14 : Int32) ≤ wi then iu else ((fun (x88_s0 : Int32) => (q_L_areAlike_49 G P sd fu x88_s0 (wi + (1 : Int32)))) (if iu = (0 : Int32) then (0 : Int32) else (if wi = (1 : Int32) then (1 : Int32) else (if (r_X4_side G sd wi) = (r_X4_side P sd wi) then (1 : Int32) else (0 : Int32)))))) := hq0
              refine lv_iload hx hb dL_areAlike_49 (lv_at hl 4 rfl) ?_
              refine lv_bipush (v := (14 : Int32)) hx hb dL_areAlike_51 (by decide) ?_
              refine lv_icmp_ge (tgt := 95) hx hb dL_areAlike_53 (by decide) (fun c53 => ?_) (fun c53 => ?_)
              · have hq0 := hq0.trans (if_pos c53)
                exact K_49 _ _  (by exact hP) (by exact hD) hS ls (by rw [hq0]; exact lv_sub hl [0, 1, 2, 3] rfl)
              · have hq0 := hq0.trans (if_neg c53)
                refine lv_iload_n hx hb dL_areAlike_56 rfl (lv_at hl 2 rfl) ?_
                have J_88 : ∀ (x88_s0 : Int32) (H : Heap) (locs : List Loc), x88_s0 = (if iu = (0 : Int32) then (0 : Int32) else (if wi = (1 : Int32) then (1 : Int32) else (if (r_X4_side G sd wi) = (r_X4_side P sd wi) then (1 : Int32) else (0 : Int32)))) → va_P D vwCl (gpW cI cC cS B G ++ gpW cI cC cS B2 P) H → va_D A (gpW cI cC cS B G ++ gpW cI cC cS B2 P) → va_S A s.heap H locs → ∀ ls, lv_has ls 6 [(0, .ref (B 0 3 0)), (1, .ref (B2 0 3 0)), (3, .int sd), (4, .int wi)] → W p l e rm_L_areAlike s m args below meth c H locs 0 0 (MQ below (QI D (gpW cI cC cS B (p_L_areAlike_G G P) ++ gpW cI cC cS B2 (p_L_areAlike_P G P)) (r_L_areAlike G P) A) args s 0 0 A) (F0 m 88 ls [.int x88_s0]) := by
                  intro x88_s0 H locs ex88_s0 hP hD hS ls hl
                  have hq0 : T49_iu = (q_L_areAlike_49 G P sd fu x88_s0 (wi + (1 : Int32))) := by subst ex88_s0; exact hq0
                  refine lv_istore_n (lv' := [(2, .int x88_s0), (0, .ref (B 0 3 0)), (1, .ref (B2 0 3 0)), (3, .int sd), (4, .int wi)]) hx hb dL_areAlike_88 rfl hl (by decide) rfl (fun ls hl => ?_)
                  refine lv_iinc (v := (wi + (1 : Int32))) (lv' := [(4, .int (wi + (1 : Int32))), (2, .int x88_s0), (0, .ref (B 0 3 0)), (1, .ref (B2 0 3 0)), (3, .int sd)]) hx hb dL_areAlike_89 hl (k := 4) rfl rfl (by decide) rfl (fun ls hl => ?_)
                  refine lv_goto (tgt := 49) hx hb dL_areAlike_92 (by decide) ?_
                  exact ih_49 x88_s0 (wi + (1 : Int32)) _ _ (cnt_step c53 hm) hq0 hP hD hS ls (lv_sub hl [2, 3, 1, 4, 0] rfl)
                refine lv_if_eq (tgt := 87) hx hb dL_areAlike_57 (by decide) (fun c57 => ?_) (fun c57 => ?_)
                · refine lv_iconst (v := (0 : Int32)) hx hb dL_areAlike_87 (by decide) ?_
                  exact J_88 (0 : Int32) _ _ (if_pos c57).symm hP hD hS ls (lv_sub hl [0, 1, 3, 4] rfl)
                · refine lv_iload hx hb dL_areAlike_60 (lv_at hl 4 rfl) ?_
                  refine lv_iconst (v := (1 : Int32)) hx hb dL_areAlike_62 (by decide) ?_
                  refine lv_icmp_eq (tgt := 83) hx hb dL_areAlike_63 (by decide) (fun c63 => ?_) (fun c63 => ?_)
                  · refine lv_iconst (v := (1 : Int32)) hx hb dL_areAlike_83 (by decide) ?_
                    refine lv_goto (tgt := 88) hx hb dL_areAlike_84 (by decide) ?_
                    exact J_88 (1 : Int32) _ _ ((if_neg c57).trans (if_pos c63)).symm hP hD hS ls (lv_sub hl [0, 1, 3, 4] rfl)
                  · refine lv_aload_n hx hb dL_areAlike_66 rfl (lv_at hl 0 rfl) ?_
                    refine lv_iload_n hx hb dL_areAlike_67 rfl (lv_at hl 3 rfl) ?_
                    refine lv_iload hx hb dL_areAlike_68 (lv_at hl 4 rfl) ?_
                    refine goG (va_runV (As := [.int sd, .int wi]) (rest := []) ⟨hx, hb, hml, hown, hts⟩ (c_X4_side l D cI cC cS B G sd wi  _) (cwV 2 hts gL_areAlike_X4_side rfl rfl rfl (by decide +kernel) ⟨Nat.le_of_ble_eq_true rfl, Nat.le_of_ble_eq_true rfl⟩) (preG hK hP hD) rfl rfl hl.1 rfl (lv_room (Nat.le_of_ble_eq_true rfl)) dL_areAlike_70 ⟨Nat.zero_le _, Nat.zero_le _⟩) hP hD hS hA (fun H locs hP hD hS => ?_)
                    refine lv_aload_n hx hb dL_areAlike_73 rfl (lv_at hl 1 rfl) ?_
                    refine lv_iload_n hx hb dL_areAlike_74 rfl (lv_at hl 3 rfl) ?_
                    refine lv_iload hx hb dL_areAlike_75 (lv_at hl 4 rfl) ?_
                    refine goP (va_runV (As := [.int sd, .int wi]) (rest := [.int (r_X4_side G sd wi)]) ⟨hx, hb, hml, hown, hts⟩ (c_X4_side l D cI cC cS B2 P sd wi  _) (cwV 2 hts gL_areAlike_X4_side rfl rfl rfl (by decide +kernel) ⟨Nat.le_of_ble_eq_true rfl, Nat.le_of_ble_eq_true rfl⟩) (preP hK hP hD) rfl rfl hl.1 rfl (lv_room (Nat.le_of_ble_eq_true rfl)) dL_areAlike_77 ⟨Nat.zero_le _, Nat.zero_le _⟩) hP hD hS hA (fun H locs hP hD hS => ?_)
                    refine lv_icmp_ne (tgt := 87) hx hb dL_areAlike_80 (by decide) (fun c80 => ?_) (fun c80 => ?_)
                    · refine lv_iconst (v := (0 : Int32)) hx hb dL_areAlike_87 (by decide) ?_
                      exact J_88 (0 : Int32) _ _ (((if_neg c57).trans (if_neg c63)).trans (if_neg c80)).symm hP hD hS ls (lv_sub hl [0, 1, 3, 4] rfl)
                    · refine lv_iconst (v := (1 : Int32)) hx hb dL_areAlike_83 (by decide) ?_
                      refine lv_goto (tgt := 88) hx hb dL_areAlike_84 (by decide) ?_
                      exact J_88 (1 : Int32) _ _ (((if_neg c57).trans (if_neg c63)).trans (if_pos c80)).symm hP hD hS ls (lv_sub hl [0, 1, 3, 4] rfl)
          exact L_49 _ it (0 : Int32) _ _ (by rw [hnf_49]; exact (cnt_init _ _)) hT49_iu hP hD hS ls (lv_sub hl [1, 2, 3, 4, 0] rfl)
    exact L_41 _ T4_is (0 : Int32) _ _ (by rw [hnf_41]; exact (cnt_init _ _)) hT41_it hP hD hS ls (lv_sub hl [1, 2, 3, 0] rfl)
  have L_4 : ∀ (fu : Nat) (is : Int32) (wh : Int32) (H : Heap) (locs : List Loc), ((12 : Int32).toInt - wh.toInt < (fu : Int) ∧ 0 < fu) → T4_is = (q_L_areAlike_4 G P fu is wh) → va_P D vwCl (gpW cI cC cS B G ++ gpW cI cC cS B2 P) H → va_D A (gpW cI cC cS B G ++ gpW cI cC cS B2 P) → va_S A s.heap H locs → ∀ ls, lv_has ls 6 [(0, .ref (B 0 3 0)), (1, .ref (B2 0 3 0)), (2, .int is), (3, .int wh)] → W p l e rm_L_areAlike s m args below meth c H locs 0 0 (MQ below (QI D (gpW cI cC cS B (p_L_areAlike_G G P) ++ gpW cI cC cS B2 (p_L_areAlike_P G P)) (r_L_areAlike G P) A) args s 0 0 A) (F0 m 4 ls []) := by
    intro fu
    induction fu with
    | zero => intro is wh H locs hm; exact absurd hm.2 (Nat.lt_irrefl 0)
    | succ fu ih_4 =>
      intro is wh H locs hm  hq0 hP hD hS ls hl
      have hq0 : T4_is = (if (12 : Int32) ≤ wh then is else ((fun (x32_s0 : Int32) => (q_L_areAlike_4 G P fu x32_s0 (wh + (1 : Int32)))) (if is = (0 : Int32) then (0 : Int32) else (if (r_X4_count G wh) = (r_X4_count P wh) then (1 : Int32) else (0 : Int32))))) := hq0
      refine lv_iload_n hx hb dL_areAlike_4 rfl (lv_at hl 3 rfl) ?_
      refine lv_bipush (v := (12 : Int32)) hx hb dL_areAlike_5 (by decide) ?_
      refine lv_icmp_ge (tgt := 39) hx hb dL_areAlike_7 (by decide) (fun c7 => ?_) (fun c7 => ?_)
      · have hq0 := hq0.trans (if_pos c7)
        exact K_4 _ _  (by exact hP) (by exact hD) hS ls (by rw [hq0]; exact lv_sub hl [0, 1, 2] rfl)
      · have hq0 := hq0.trans (if_neg c7)
        refine lv_iload_n hx hb dL_areAlike_10 rfl (lv_at hl 2 rfl) ?_
        have J_32 : ∀ (x32_s0 : Int32) (H : Heap) (locs : List Loc), x32_s0 = (if is = (0 : Int32) then (0 : Int32) else (if (r_X4_count G wh) = (r_X4_count P wh) then (1 : Int32) else (0 : Int32))) → va_P D vwCl (gpW cI cC cS B G ++ gpW cI cC cS B2 P) H → va_D A (gpW cI cC cS B G ++ gpW cI cC cS B2 P) → va_S A s.heap H locs → ∀ ls, lv_has ls 6 [(0, .ref (B 0 3 0)), (1, .ref (B2 0 3 0)), (3, .int wh)] → W p l e rm_L_areAlike s m args below meth c H locs 0 0 (MQ below (QI D (gpW cI cC cS B (p_L_areAlike_G G P) ++ gpW cI cC cS B2 (p_L_areAlike_P G P)) (r_L_areAlike G P) A) args s 0 0 A) (F0 m 32 ls [.int x32_s0]) := by
          intro x32_s0 H locs ex32_s0 hP hD hS ls hl
          have hq0 : T4_is = (q_L_areAlike_4 G P fu x32_s0 (wh + (1 : Int32))) := by subst ex32_s0; exact hq0
          refine lv_istore_n (lv' := [(2, .int x32_s0), (0, .ref (B 0 3 0)), (1, .ref (B2 0 3 0)), (3, .int wh)]) hx hb dL_areAlike_32 rfl hl (by decide) rfl (fun ls hl => ?_)
          refine lv_iinc (v := (wh + (1 : Int32))) (lv' := [(3, .int (wh + (1 : Int32))), (2, .int x32_s0), (0, .ref (B 0 3 0)), (1, .ref (B2 0 3 0))]) hx hb dL_areAlike_33 hl (k := 3) rfl rfl (by decide) rfl (fun ls hl => ?_)
          refine lv_goto (tgt := 4) hx hb dL_areAlike_36 (by decide) ?_
          exact ih_4 x32_s0 (wh + (1 : Int32)) _ _ (cnt_step c7 hm) hq0 hP hD hS ls (lv_sub hl [2, 3, 1, 0] rfl)
        refine lv_if_eq (tgt := 31) hx hb dL_areAlike_11 (by decide) (fun c11 => ?_) (fun c11 => ?_)
        · refine lv_iconst (v := (0 : Int32)) hx hb dL_areAlike_31 (by decide) ?_
          exact J_32 (0 : Int32) _ _ (if_pos c11).symm hP hD hS ls (lv_sub hl [0, 1, 3] rfl)
        · refine lv_aload_n hx hb dL_areAlike_14 rfl (lv_at hl 0 rfl) ?_
          refine lv_iload_n hx hb dL_areAlike_15 rfl (lv_at hl 3 rfl) ?_
          refine goG (va_runV (As := [.int wh]) (rest := []) ⟨hx, hb, hml, hown, hts⟩ (c_X4_count l D cI cC cS B G wh  _) (cwV 1 hts gL_areAlike_X4_count rfl rfl rfl (by decide +kernel) ⟨Nat.le_of_ble_eq_true rfl, Nat.le_of_ble_eq_true rfl⟩) (preG hK hP hD) rfl rfl hl.1 rfl (lv_room (Nat.le_of_ble_eq_true rfl)) dL_areAlike_16 ⟨Nat.zero_le _, Nat.zero_le _⟩) hP hD hS hA (fun H locs hP hD hS => ?_)
          refine lv_aload_n hx hb dL_areAlike_19 rfl (lv_at hl 1 rfl) ?_
          refine lv_iload_n hx hb dL_areAlike_20 rfl (lv_at hl 3 rfl) ?_
          refine goP (va_runV (As := [.int wh]) (rest := [.int (r_X4_count G wh)]) ⟨hx, hb, hml, hown, hts⟩ (c_X4_count l D cI cC cS B2 P wh  _) (cwV 1 hts gL_areAlike_X4_count rfl rfl rfl (by decide +kernel) ⟨Nat.le_of_ble_eq_true rfl, Nat.le_of_ble_eq_true rfl⟩) (preP hK hP hD) rfl rfl hl.1 rfl (lv_room (Nat.le_of_ble_eq_true rfl)) dL_areAlike_21 ⟨Nat.zero_le _, Nat.zero_le _⟩) hP hD hS hA (fun H locs hP hD hS => ?_)
          refine lv_icmp_ne (tgt := 31) hx hb dL_areAlike_24 (by decide) (fun c24 => ?_) (fun c24 => ?_)
          · refine lv_iconst (v := (0 : Int32)) hx hb dL_areAlike_31 (by decide) ?_
            exact J_32 (0 : Int32) _ _ ((if_neg c11).trans (if_neg c24)).symm hP hD hS ls (lv_sub hl [0, 1, 3] rfl)
          · refine lv_iconst (v := (1 : Int32)) hx hb dL_areAlike_27 (by decide) ?_
            refine lv_goto (tgt := 32) hx hb dL_areAlike_28 (by decide) ?_
            exact J_32 (1 : Int32) _ _ ((if_neg c11).trans (if_pos c24)).symm hP hD hS ls (lv_sub hl [0, 1, 3] rfl)
  exact L_4 _ (1 : Int32) (0 : Int32) _ _ (by rw [hnf_4]; exact (cnt_init _ _)) hT4_is hP hD hS ls (lv_sub hl [2, 3, 1, 0] rfl)
