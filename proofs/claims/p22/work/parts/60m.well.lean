def q_L_isWell_110 (G : Nat → Nat → CS) : Nat → Int32 → Int32 → Int32
  | 0, _, _ => 0
  | fu + 1, is, sd => (if (2 : Int32) ≤ sd then is else ((fun (x264_s0 : Int32) => (q_L_isWell_110 G fu x264_s0 (sd + (1 : Int32)))) (if is = (0 : Int32) then (0 : Int32) else (if (r_X4_side G sd (8 : Int32)) < (0 : Int32) then (0 : Int32) else (if ((2 : Int32) * (r_X4_count G (2 : Int32))) ≤ (r_X4_side G sd (8 : Int32)) then (0 : Int32) else (if (r_X4_side G sd (4 : Int32)) < (0 : Int32) then (0 : Int32) else (if ((2 : Int32) * (r_X4_count G (2 : Int32))) ≤ (r_X4_side G sd (4 : Int32)) then (0 : Int32) else (if (r_X4_side G sd (12 : Int32)) < (r_X4_side G sd (13 : Int32)) then (0 : Int32) else ((fun (x199_s0 : Int32) => ((fun (x211_s0 : Int32) => ((fun (x219_s0 : Int32) => (if x199_s0 = x219_s0 then ((fun (x238_s0 : Int32) => ((fun (x256_s0 : Int32) => (if x238_s0 = x256_s0 then (1 : Int32) else (0 : Int32))) (if (r_X4_side G sd (11 : Int32)) = (-5 : Int32) then (0 : Int32) else (1 : Int32)))) (if (r_X4_side G sd (2 : Int32)) = (1 : Int32) then (1 : Int32) else (0 : Int32))) else (0 : Int32))) (if (r_X4_side G sd (8 : Int32)) = x211_s0 then (1 : Int32) else (0 : Int32)))) (if sd = (0 : Int32) then (r_X4_count G (2 : Int32)) else (0 : Int32)))) (if (r_X4_side G sd (9 : Int32)) = (1 : Int32) then (1 : Int32) else (0 : Int32)))))))))))
def q_L_isWell_357 (G : Nat → Nat → CS) : Nat → Int32 → Int32 → Int32
  | 0, _, _ => 0
  | fu + 1, iz, k => (if (r_X4_count G (2 : Int32)) ≤ k then iz else ((fun (x424_s0 : Int32) => (q_L_isWell_357 G fu x424_s0 (k + (1 : Int32)))) (if iz = (0 : Int32) then (0 : Int32) else (if (r_X4_place G k (1 : Int32)) = (-5 : Int32) then (if k < (r_X4_count G (6 : Int32)) then (0 : Int32) else (1 : Int32)) else (if ((r_X4_place G k (1 : Int32)) - (r_X4_place G k (1 : Int32)) / (r_X4_count G (2 : Int32)) * (r_X4_count G (2 : Int32))) = k then (if (r_X4_count G (6 : Int32)) ≤ (r_X4_place G k (1 : Int32)) then (0 : Int32) else (if (r_X4_place G k (1 : Int32)) < ((r_X4_count G (6 : Int32)) - (r_X4_count G (2 : Int32))) then (0 : Int32) else (1 : Int32))) else (0 : Int32))))))
def k357_r_L_isWell (G : Nat → Nat → CS) (T357_iz : Int32) : Int32 := ((fun (z_2 : Nat → Nat → CS) => (if T357_iz = (0 : Int32) then (0 : Int32) else ((fun (x453_s0 : Int32) => ((fun (x473_s0 : Int32) => (if x453_s0 = x473_s0 then (if (r_X4_doneIn G) = (-5 : Int32) then (1 : Int32) else (if (5000 : Int32) < (r_X4_doneIn G) then (0 : Int32) else (1 : Int32))) else (0 : Int32))) (if (r_X4_count G (6 : Int32)) = (r_X4_count G (7 : Int32)) then (if (r_X4_count z_2 (5 : Int32)) = (0 : Int32) then (1 : Int32) else (0 : Int32)) else (0 : Int32)))) (if (r_X4_doneIn G) = (0 : Int32) then (1 : Int32) else (0 : Int32))))) (p_X4_doneIn G))
def k110_r_L_isWell (G : Nat → Nat → CS) (a1 : Int32) (T110_is : Int32) : Int32 := (if (nb a1) = (0 : Int32) then ((fun (z_1 : Nat → Nat → CS) => (if T110_is = (0 : Int32) then (0 : Int32) else ((fun (x453_s0 : Int32) => ((fun (x473_s0 : Int32) => (if x453_s0 = x473_s0 then (if (r_X4_doneIn G) = (-5 : Int32) then (1 : Int32) else (if (5000 : Int32) < (r_X4_doneIn G) then (0 : Int32) else (1 : Int32))) else (0 : Int32))) (if (r_X4_count G (6 : Int32)) = (r_X4_count G (7 : Int32)) then (if (r_X4_count z_1 (5 : Int32)) = (0 : Int32) then (1 : Int32) else (0 : Int32)) else (0 : Int32)))) (if (r_X4_doneIn G) = (0 : Int32) then (1 : Int32) else (0 : Int32))))) (p_X4_doneIn G)) else ((fun (x352_s0 : Int32) => (k357_r_L_isWell G (q_L_isWell_357 G (((r_X4_count G (2 : Int32)).toInt - (0 : Int32).toInt).toNat + 1) x352_s0 (0 : Int32)))) (if T110_is = (0 : Int32) then (0 : Int32) else (if (r_X4_count G (9 : Int32)) = (0 : Int32) then (if (r_X4_count G (6 : Int32)) < (r_X4_count G (7 : Int32)) then (0 : Int32) else (if (r_X4_count G (2 : Int32)) < ((r_X4_count G (6 : Int32)) - (r_X4_count G (7 : Int32))) then (0 : Int32) else (if (r_X4_side G (0 : Int32) (8 : Int32)) < ((r_X4_count G (6 : Int32)) - (r_X4_count G (7 : Int32))) then (0 : Int32) else (if (r_X4_count G (2 : Int32)) < (r_X4_side G (0 : Int32) (8 : Int32)) then (0 : Int32) else (if ((r_X4_count G (6 : Int32)) - (r_X4_count G (7 : Int32))) < (r_X4_side G (1 : Int32) (8 : Int32)) then (0 : Int32) else (1 : Int32)))))) else (0 : Int32)))))
def k357_p_L_isWell (G : Nat → Nat → CS) (T357_iz : Int32) : Nat → Nat → CS := ((fun (z_2 : Nat → Nat → CS) => (if T357_iz = (0 : Int32) then z_2 else ((fun (x453_s0 : Int32) => ((fun (x473_s0 : Int32) => (if x453_s0 = x473_s0 then (if (r_X4_doneIn G) = (-5 : Int32) then z_2 else (if (5000 : Int32) < (r_X4_doneIn G) then z_2 else z_2)) else z_2)) (if (r_X4_count G (6 : Int32)) = (r_X4_count G (7 : Int32)) then (if (r_X4_count z_2 (5 : Int32)) = (0 : Int32) then (1 : Int32) else (0 : Int32)) else (0 : Int32)))) (if (r_X4_doneIn G) = (0 : Int32) then (1 : Int32) else (0 : Int32))))) (p_X4_doneIn G))
def k110_p_L_isWell (G : Nat → Nat → CS) (a1 : Int32) (T110_is : Int32) : Nat → Nat → CS := (if (nb a1) = (0 : Int32) then ((fun (z_1 : Nat → Nat → CS) => (if T110_is = (0 : Int32) then z_1 else ((fun (x453_s0 : Int32) => ((fun (x473_s0 : Int32) => (if x453_s0 = x473_s0 then (if (r_X4_doneIn G) = (-5 : Int32) then z_1 else (if (5000 : Int32) < (r_X4_doneIn G) then z_1 else z_1)) else z_1)) (if (r_X4_count G (6 : Int32)) = (r_X4_count G (7 : Int32)) then (if (r_X4_count z_1 (5 : Int32)) = (0 : Int32) then (1 : Int32) else (0 : Int32)) else (0 : Int32)))) (if (r_X4_doneIn G) = (0 : Int32) then (1 : Int32) else (0 : Int32))))) (p_X4_doneIn G)) else ((fun (x352_s0 : Int32) => (k357_p_L_isWell G (q_L_isWell_357 G (((r_X4_count G (2 : Int32)).toInt - (0 : Int32).toInt).toNat + 1) x352_s0 (0 : Int32)))) (if T110_is = (0 : Int32) then (0 : Int32) else (if (r_X4_count G (9 : Int32)) = (0 : Int32) then (if (r_X4_count G (6 : Int32)) < (r_X4_count G (7 : Int32)) then (0 : Int32) else (if (r_X4_count G (2 : Int32)) < ((r_X4_count G (6 : Int32)) - (r_X4_count G (7 : Int32))) then (0 : Int32) else (if (r_X4_side G (0 : Int32) (8 : Int32)) < ((r_X4_count G (6 : Int32)) - (r_X4_count G (7 : Int32))) then (0 : Int32) else (if (r_X4_count G (2 : Int32)) < (r_X4_side G (0 : Int32) (8 : Int32)) then (0 : Int32) else (if ((r_X4_count G (6 : Int32)) - (r_X4_count G (7 : Int32))) < (r_X4_side G (1 : Int32) (8 : Int32)) then (0 : Int32) else (1 : Int32)))))) else (0 : Int32)))))
def r_L_isWell (G : Nat → Nat → CS) (a1 : Int32) : Int32 := ((fun (x105_s0 : Int32) => (k110_r_L_isWell G a1 (q_L_isWell_110 G (((2 : Int32).toInt - (0 : Int32).toInt).toNat + 1) x105_s0 (0 : Int32)))) (if (r_X4_count G (2 : Int32)) = ((1 : Int32) <<< ((r_X4_count G (1 : Int32)) &&& (31 : Int32))) then (if (r_X4_side G (0 : Int32) (3 : Int32)) = ((r_X4_count G (6 : Int32)) - (r_X4_count G (6 : Int32)) / ((2 : Int32) * (r_X4_count G (2 : Int32))) * ((2 : Int32) * (r_X4_count G (2 : Int32)))) then (if (r_X4_side G (1 : Int32) (3 : Int32)) = ((r_X4_count G (7 : Int32)) - (r_X4_count G (7 : Int32)) / ((2 : Int32) * (r_X4_count G (2 : Int32))) * ((2 : Int32) * (r_X4_count G (2 : Int32)))) then (if ((r_X4_count G (8 : Int32)) + (r_X4_count G (9 : Int32))) = (r_X4_count G (7 : Int32)) then (if (r_X4_count G (4 : Int32)) = (((((r_X4_count G (6 : Int32)) - (r_X4_count G (7 : Int32))) - ((r_X4_count G (6 : Int32)) - (r_X4_count G (7 : Int32))) / ((2 : Int32) * (r_X4_count G (2 : Int32))) * ((2 : Int32) * (r_X4_count G (2 : Int32)))) + ((2 : Int32) * (r_X4_count G (2 : Int32)))) - ((((r_X4_count G (6 : Int32)) - (r_X4_count G (7 : Int32))) - ((r_X4_count G (6 : Int32)) - (r_X4_count G (7 : Int32))) / ((2 : Int32) * (r_X4_count G (2 : Int32))) * ((2 : Int32) * (r_X4_count G (2 : Int32)))) + ((2 : Int32) * (r_X4_count G (2 : Int32)))) / ((2 : Int32) * (r_X4_count G (2 : Int32))) * ((2 : Int32) * (r_X4_count G (2 : Int32)))) then (1 : Int32) else (0 : Int32)) else (0 : Int32)) else (0 : Int32)) else (0 : Int32)) else (0 : Int32)))
def p_L_isWell (G : Nat → Nat → CS) (a1 : Int32) : Nat → Nat → CS := ((fun (x105_s0 : Int32) => (k110_p_L_isWell G a1 (q_L_isWell_110 G (((2 : Int32).toInt - (0 : Int32).toInt).toNat + 1) x105_s0 (0 : Int32)))) (if (r_X4_count G (2 : Int32)) = ((1 : Int32) <<< ((r_X4_count G (1 : Int32)) &&& (31 : Int32))) then (if (r_X4_side G (0 : Int32) (3 : Int32)) = ((r_X4_count G (6 : Int32)) - (r_X4_count G (6 : Int32)) / ((2 : Int32) * (r_X4_count G (2 : Int32))) * ((2 : Int32) * (r_X4_count G (2 : Int32)))) then (if (r_X4_side G (1 : Int32) (3 : Int32)) = ((r_X4_count G (7 : Int32)) - (r_X4_count G (7 : Int32)) / ((2 : Int32) * (r_X4_count G (2 : Int32))) * ((2 : Int32) * (r_X4_count G (2 : Int32)))) then (if ((r_X4_count G (8 : Int32)) + (r_X4_count G (9 : Int32))) = (r_X4_count G (7 : Int32)) then (if (r_X4_count G (4 : Int32)) = (((((r_X4_count G (6 : Int32)) - (r_X4_count G (7 : Int32))) - ((r_X4_count G (6 : Int32)) - (r_X4_count G (7 : Int32))) / ((2 : Int32) * (r_X4_count G (2 : Int32))) * ((2 : Int32) * (r_X4_count G (2 : Int32)))) + ((2 : Int32) * (r_X4_count G (2 : Int32)))) - ((((r_X4_count G (6 : Int32)) - (r_X4_count G (7 : Int32))) - ((r_X4_count G (6 : Int32)) - (r_X4_count G (7 : Int32))) / ((2 : Int32) * (r_X4_count G (2 : Int32))) * ((2 : Int32) * (r_X4_count G (2 : Int32)))) + ((2 : Int32) * (r_X4_count G (2 : Int32)))) / ((2 : Int32) * (r_X4_count G (2 : Int32))) * ((2 : Int32) * (r_X4_count G (2 : Int32)))) then (1 : Int32) else (0 : Int32)) else (0 : Int32)) else (0 : Int32)) else (0 : Int32)) else (0 : Int32)))
abbrev rm_L_isWell : Room := { frames := 5, cells := 0, slots := 0, locals := 113 }
set_option maxHeartbeats 4000000 in
set_option maxRecDepth 100000 in
theorem c_L_isWell (l : Launch) (D : va_G) (cI cC cS : ClassId) (B : Nat → Nat → Nat → Nat) (G : Nat → Nat → CS) (a1 : Int32) (hd : ¬ ((2 : Int32) * (r_X4_count G (2 : Int32))) = (0 : Int32)) (hd2 : ¬ (r_X4_count G (2 : Int32)) = (0 : Int32)) : CI l D cI cC cS yL_isWell wsL_isWell rm_L_isWell [.ref (B 0 3 0), .int (nb a1)] (gpW cI cC cS B G) (gpW cI cC cS B (p_L_isWell G a1)) (r_L_isWell G a1) := by
  intro sz
  refine startC (cc := cL_isWell) (maxL := 9) (ret := (some .boolean)) (by decide) rfl (Nat.le_of_ble_eq_true rfl) ?_
  intro p e s m args below meth c hx hb hml hsg hts hown hlocks hin hK A hA hS hP hD ls hl
  have hown : s.vm.findClass RL = some m.cls := hown
  have hl : lv_has ls 9 [(0, .ref (B 0 3 0)), (1, .int (nb a1))] := hl
  have hP : va_P D vwCl (gpW cI cC cS B G) s.heap := hP
  have hD : va_D A (gpW cI cC cS B G) := hD
  have hr : (r_L_isWell G a1) = ((fun (x105_s0 : Int32) => (k110_r_L_isWell G a1 (q_L_isWell_110 G (((2 : Int32).toInt - (0 : Int32).toInt).toNat + 1) x105_s0 (0 : Int32)))) (if (r_X4_count G (2 : Int32)) = ((1 : Int32) <<< ((r_X4_count G (1 : Int32)) &&& (31 : Int32))) then (if (r_X4_side G (0 : Int32) (3 : Int32)) = ((r_X4_count G (6 : Int32)) - (r_X4_count G (6 : Int32)) / ((2 : Int32) * (r_X4_count G (2 : Int32))) * ((2 : Int32) * (r_X4_count G (2 : Int32)))) then (if (r_X4_side G (1 : Int32) (3 : Int32)) = ((r_X4_count G (7 : Int32)) - (r_X4_count G (7 : Int32)) / ((2 : Int32) * (r_X4_count G (2 : Int32))) * ((2 : Int32) * (r_X4_count G (2 : Int32)))) then (if ((r_X4_count G (8 : Int32)) + (r_X4_count G (9 : Int32))) = (r_X4_count G (7 : Int32)) then (if (r_X4_count G (4 : Int32)) = (((((r_X4_count G (6 : Int32)) - (r_X4_count G (7 : Int32))) - ((r_X4_count G (6 : Int32)) - (r_X4_count G (7 : Int32))) / ((2 : Int32) * (r_X4_count G (2 : Int32))) * ((2 : Int32) * (r_X4_count G (2 : Int32)))) + ((2 : Int32) * (r_X4_count G (2 : Int32)))) - ((((r_X4_count G (6 : Int32)) - (r_X4_count G (7 : Int32))) - ((r_X4_count G (6 : Int32)) - (r_X4_count G (7 : Int32))) / ((2 : Int32) * (r_X4_count G (2 : Int32))) * ((2 : Int32) * (r_X4_count G (2 : Int32)))) + ((2 : Int32) * (r_X4_count G (2 : Int32)))) / ((2 : Int32) * (r_X4_count G (2 : Int32))) * ((2 : Int32) * (r_X4_count G (2 : Int32)))) then (1 : Int32) else (0 : Int32)) else (0 : Int32)) else (0 : Int32)) else (0 : Int32)) else (0 : Int32))) := rfl
  have hp : (p_L_isWell G a1) = ((fun (x105_s0 : Int32) => (k110_p_L_isWell G a1 (q_L_isWell_110 G (((2 : Int32).toInt - (0 : Int32).toInt).toNat + 1) x105_s0 (0 : Int32)))) (if (r_X4_count G (2 : Int32)) = ((1 : Int32) <<< ((r_X4_count G (1 : Int32)) &&& (31 : Int32))) then (if (r_X4_side G (0 : Int32) (3 : Int32)) = ((r_X4_count G (6 : Int32)) - (r_X4_count G (6 : Int32)) / ((2 : Int32) * (r_X4_count G (2 : Int32))) * ((2 : Int32) * (r_X4_count G (2 : Int32)))) then (if (r_X4_side G (1 : Int32) (3 : Int32)) = ((r_X4_count G (7 : Int32)) - (r_X4_count G (7 : Int32)) / ((2 : Int32) * (r_X4_count G (2 : Int32))) * ((2 : Int32) * (r_X4_count G (2 : Int32)))) then (if ((r_X4_count G (8 : Int32)) + (r_X4_count G (9 : Int32))) = (r_X4_count G (7 : Int32)) then (if (r_X4_count G (4 : Int32)) = (((((r_X4_count G (6 : Int32)) - (r_X4_count G (7 : Int32))) - ((r_X4_count G (6 : Int32)) - (r_X4_count G (7 : Int32))) / ((2 : Int32) * (r_X4_count G (2 : Int32))) * ((2 : Int32) * (r_X4_count G (2 : Int32)))) + ((2 : Int32) * (r_X4_count G (2 : Int32)))) - ((((r_X4_count G (6 : Int32)) - (r_X4_count G (7 : Int32))) - ((r_X4_count G (6 : Int32)) - (r_X4_count G (7 : Int32))) / ((2 : Int32) * (r_X4_count G (2 : Int32))) * ((2 : Int32) * (r_X4_count G (2 : Int32)))) + ((2 : Int32) * (r_X4_count G (2 : Int32)))) / ((2 : Int32) * (r_X4_count G (2 : Int32))) * ((2 : Int32) * (r_X4_count G (2 : Int32)))) then (1 : Int32) else (0 : Int32)) else (0 : Int32)) else (0 : Int32)) else (0 : Int32)) else (0 : Int32))) := rfl
  refine lv_aload_n hx hb dL_isWell_0 rfl (lv_at hl 0 rfl) ?_
  refine lv_iconst (v := (2 : Int32)) hx hb dL_isWell_1 (by decide) ?_
  refine go1 (va_runV (As := [.int (2 : Int32)]) (rest := []) ⟨hx, hb, hml, hown, hts⟩ (c_X4_count l D cI cC cS B G (2 : Int32)  _) (cwV 1 hts gL_isWell_X4_count rfl rfl rfl (by decide +kernel) ⟨Nat.le_of_ble_eq_true rfl, Nat.le_of_ble_eq_true rfl⟩) (pre1 hK hP hD) rfl rfl hl.1 rfl (lv_room (Nat.le_of_ble_eq_true rfl)) dL_isWell_2 ⟨Nat.zero_le _, Nat.zero_le _⟩) hP hD hS hA (fun H locs hP hD hS => ?_)
  refine lv_istore_n (lv' := [(2, .int (r_X4_count G (2 : Int32))), (0, .ref (B 0 3 0)), (1, .int (nb a1))]) hx hb dL_isWell_5 rfl hl (by decide) rfl (fun ls hl => ?_)
  refine lv_iconst (v := (2 : Int32)) hx hb dL_isWell_6 (by decide) ?_
  refine lv_iload_n hx hb dL_isWell_7 rfl (lv_at hl 0 rfl) ?_
  refine lv_imul hx hb dL_isWell_8 ?_
  refine lv_istore_n (lv' := [(3, .int ((2 : Int32) * (r_X4_count G (2 : Int32)))), (2, .int (r_X4_count G (2 : Int32))), (0, .ref (B 0 3 0)), (1, .int (nb a1))]) hx hb dL_isWell_9 rfl hl (by decide) rfl (fun ls hl => ?_)
  refine lv_aload_n hx hb dL_isWell_10 rfl (lv_at hl 2 rfl) ?_
  refine lv_bipush (v := (6 : Int32)) hx hb dL_isWell_11 (by decide) ?_
  refine go1 (va_runV (As := [.int (6 : Int32)]) (rest := []) ⟨hx, hb, hml, hown, hts⟩ (c_X4_count l D cI cC cS B G (6 : Int32)  _) (cwV 1 hts gL_isWell_X4_count rfl rfl rfl (by decide +kernel) ⟨Nat.le_of_ble_eq_true rfl, Nat.le_of_ble_eq_true rfl⟩) (pre1 hK hP hD) rfl rfl hl.1 rfl (lv_room (Nat.le_of_ble_eq_true rfl)) dL_isWell_13 ⟨Nat.zero_le _, Nat.zero_le _⟩) hP hD hS hA (fun H locs hP hD hS => ?_)
  refine lv_istore (lv' := [(4, .int (r_X4_count G (6 : Int32))), (3, .int ((2 : Int32) * (r_X4_count G (2 : Int32)))), (2, .int (r_X4_count G (2 : Int32))), (0, .ref (B 0 3 0)), (1, .int (nb a1))]) hx hb dL_isWell_16 hl (by decide) rfl (fun ls hl => ?_)
  refine lv_aload_n hx hb dL_isWell_18 rfl (lv_at hl 3 rfl) ?_
  refine lv_bipush (v := (7 : Int32)) hx hb dL_isWell_19 (by decide) ?_
  refine go1 (va_runV (As := [.int (7 : Int32)]) (rest := []) ⟨hx, hb, hml, hown, hts⟩ (c_X4_count l D cI cC cS B G (7 : Int32)  _) (cwV 1 hts gL_isWell_X4_count rfl rfl rfl (by decide +kernel) ⟨Nat.le_of_ble_eq_true rfl, Nat.le_of_ble_eq_true rfl⟩) (pre1 hK hP hD) rfl rfl hl.1 rfl (lv_room (Nat.le_of_ble_eq_true rfl)) dL_isWell_21 ⟨Nat.zero_le _, Nat.zero_le _⟩) hP hD hS hA (fun H locs hP hD hS => ?_)
  refine lv_istore (lv' := [(5, .int (r_X4_count G (7 : Int32))), (4, .int (r_X4_count G (6 : Int32))), (3, .int ((2 : Int32) * (r_X4_count G (2 : Int32)))), (2, .int (r_X4_count G (2 : Int32))), (0, .ref (B 0 3 0)), (1, .int (nb a1))]) hx hb dL_isWell_24 hl (by decide) rfl (fun ls hl => ?_)
  refine lv_iload_n hx hb dL_isWell_26 rfl (lv_at hl 3 rfl) ?_
  refine lv_iconst (v := (1 : Int32)) hx hb dL_isWell_27 (by decide) ?_
  refine lv_aload_n hx hb dL_isWell_28 rfl (lv_at hl 4 rfl) ?_
  refine lv_iconst (v := (1 : Int32)) hx hb dL_isWell_29 (by decide) ?_
  refine go1 (va_runV (As := [.int (1 : Int32)]) (rest := [.int (1 : Int32), .int (r_X4_count G (2 : Int32))]) ⟨hx, hb, hml, hown, hts⟩ (c_X4_count l D cI cC cS B G (1 : Int32)  _) (cwV 1 hts gL_isWell_X4_count rfl rfl rfl (by decide +kernel) ⟨Nat.le_of_ble_eq_true rfl, Nat.le_of_ble_eq_true rfl⟩) (pre1 hK hP hD) rfl rfl hl.1 rfl (lv_room (Nat.le_of_ble_eq_true rfl)) dL_isWell_30 ⟨Nat.zero_le _, Nat.zero_le _⟩) hP hD hS hA (fun H locs hP hD hS => ?_)
  refine lv_ishl hx hb dL_isWell_33 ?_
  have J_105 : ∀ (x105_s0 : Int32) (H : Heap) (locs : List Loc), x105_s0 = (if (r_X4_count G (2 : Int32)) = ((1 : Int32) <<< ((r_X4_count G (1 : Int32)) &&& (31 : Int32))) then (if (r_X4_side G (0 : Int32) (3 : Int32)) = ((r_X4_count G (6 : Int32)) - (r_X4_count G (6 : Int32)) / ((2 : Int32) * (r_X4_count G (2 : Int32))) * ((2 : Int32) * (r_X4_count G (2 : Int32)))) then (if (r_X4_side G (1 : Int32) (3 : Int32)) = ((r_X4_count G (7 : Int32)) - (r_X4_count G (7 : Int32)) / ((2 : Int32) * (r_X4_count G (2 : Int32))) * ((2 : Int32) * (r_X4_count G (2 : Int32)))) then (if ((r_X4_count G (8 : Int32)) + (r_X4_count G (9 : Int32))) = (r_X4_count G (7 : Int32)) then (if (r_X4_count G (4 : Int32)) = (((((r_X4_count G (6 : Int32)) - (r_X4_count G (7 : Int32))) - ((r_X4_count G (6 : Int32)) - (r_X4_count G (7 : Int32))) / ((2 : Int32) * (r_X4_count G (2 : Int32))) * ((2 : Int32) * (r_X4_count G (2 : Int32)))) + ((2 : Int32) * (r_X4_count G (2 : Int32)))) - ((((r_X4_count G (6 : Int32)) - (r_X4_count G (7 : Int32))) - ((r_X4_count G (6 : Int32)) - (r_X4_count G (7 : Int32))) / ((2 : Int32) * (r_X4_count G (2 : Int32))) * ((2 : Int32) * (r_X4_count G (2 : Int32)))) + ((2 : Int32) * (r_X4_count G (2 : Int32)))) / ((2 : Int32) * (r_X4_count G (2 : Int32))) * ((2 : Int32) * (r_X4_count G (2 : Int32)))) then (1 : Int32) else (0 : Int32)) else (0 : Int32)) else (0 : Int32)) else (0 : Int32)) else (0 : Int32)) → va_P D vwCl (gpW cI cC cS B G) H → va_D A (gpW cI cC cS B G) → va_S A s.heap H locs → ∀ ls, lv_has ls 9 [(0, .ref (B 0 3 0)), (1, .int (nb a1)), (2, .int (r_X4_count G (2 : Int32))), (3, .int ((2 : Int32) * (r_X4_count G (2 : Int32)))), (4, .int (r_X4_count G (6 : Int32))), (5, .int (r_X4_count G (7 : Int32)))] → W p l e rm_L_isWell s m args below meth c H locs 0 0 (MQ below (QI D (gpW cI cC cS B (p_L_isWell G a1)) (r_L_isWell G a1) A) args s 0 0 A) (F0 m 105 ls [.int x105_s0]) := by
    intro x105_s0 H locs ex105_s0 hP hD hS ls hl
    have hr : (r_L_isWell G a1) = (k110_r_L_isWell G a1 (q_L_isWell_110 G (((2 : Int32).toInt - (0 : Int32).toInt).toNat + 1) x105_s0 (0 : Int32))) := by subst ex105_s0; exact hr
    have hp : (p_L_isWell G a1) = (k110_p_L_isWell G a1 (q_L_isWell_110 G (((2 : Int32).toInt - (0 : Int32).toInt).toNat + 1) x105_s0 (0 : Int32))) := by subst ex105_s0; exact hp
    refine lv_istore (lv' := [(6, .int x105_s0), (0, .ref (B 0 3 0)), (1, .int (nb a1)), (2, .int (r_X4_count G (2 : Int32))), (3, .int ((2 : Int32) * (r_X4_count G (2 : Int32)))), (4, .int (r_X4_count G (6 : Int32))), (5, .int (r_X4_count G (7 : Int32)))]) hx hb dL_isWell_105 hl (by decide) rfl (fun ls hl => ?_)
    refine lv_iconst (v := (0 : Int32)) hx hb dL_isWell_107 (by decide) ?_
    refine lv_istore (lv' := [(7, .int (0 : Int32)), (6, .int x105_s0), (0, .ref (B 0 3 0)), (1, .int (nb a1)), (2, .int (r_X4_count G (2 : Int32))), (3, .int ((2 : Int32) * (r_X4_count G (2 : Int32)))), (4, .int (r_X4_count G (6 : Int32))), (5, .int (r_X4_count G (7 : Int32)))]) hx hb dL_isWell_108 hl (by decide) rfl (fun ls hl => ?_)
    obtain ⟨nf_110, hnf_110⟩ : ∃ n : Nat, n = (((2 : Int32).toInt - (0 : Int32).toInt).toNat + 1) := ⟨_, rfl⟩
    rw [← hnf_110] at hr hp
    obtain ⟨T110_is, hT110_is⟩ : ∃ T : Int32, T = (q_L_isWell_110 G nf_110 x105_s0 (0 : Int32)) := ⟨_, rfl⟩
    have K_110 : ∀ (H : Heap) (locs : List Loc), va_P D vwCl (gpW cI cC cS B G) H → va_D A (gpW cI cC cS B G) → va_S A s.heap H locs → ∀ ls, lv_has ls 9 [(0, .ref (B 0 3 0)), (1, .int (nb a1)), (2, .int (r_X4_count G (2 : Int32))), (3, .int ((2 : Int32) * (r_X4_count G (2 : Int32)))), (4, .int (r_X4_count G (6 : Int32))), (5, .int (r_X4_count G (7 : Int32))), (6, .int T110_is)] → W p l e rm_L_isWell s m args below meth c H locs 0 0 (MQ below (QI D (gpW cI cC cS B (p_L_isWell G a1)) (r_L_isWell G a1) A) args s 0 0 A) (F0 m 272 ls []) := by
      intro H locs  hP hD hS ls hl
      have hr : (r_L_isWell G a1) = (k110_r_L_isWell G a1 T110_is) := by rw [hT110_is]; exact hr
      have hr : (r_L_isWell G a1) = (if (nb a1) = (0 : Int32) then ((fun (z_1 : Nat → Nat → CS) => (if T110_is = (0 : Int32) then (0 : Int32) else ((fun (x453_s0 : Int32) => ((fun (x473_s0 : Int32) => (if x453_s0 = x473_s0 then (if (r_X4_doneIn G) = (-5 : Int32) then (1 : Int32) else (if (5000 : Int32) < (r_X4_doneIn G) then (0 : Int32) else (1 : Int32))) else (0 : Int32))) (if (r_X4_count G (6 : Int32)) = (r_X4_count G (7 : Int32)) then (if (r_X4_count z_1 (5 : Int32)) = (0 : Int32) then (1 : Int32) else (0 : Int32)) else (0 : Int32)))) (if (r_X4_doneIn G) = (0 : Int32) then (1 : Int32) else (0 : Int32))))) (p_X4_doneIn G)) else ((fun (x352_s0 : Int32) => (k357_r_L_isWell G (q_L_isWell_357 G (((r_X4_count G (2 : Int32)).toInt - (0 : Int32).toInt).toNat + 1) x352_s0 (0 : Int32)))) (if T110_is = (0 : Int32) then (0 : Int32) else (if (r_X4_count G (9 : Int32)) = (0 : Int32) then (if (r_X4_count G (6 : Int32)) < (r_X4_count G (7 : Int32)) then (0 : Int32) else (if (r_X4_count G (2 : Int32)) < ((r_X4_count G (6 : Int32)) - (r_X4_count G (7 : Int32))) then (0 : Int32) else (if (r_X4_side G (0 : Int32) (8 : Int32)) < ((r_X4_count G (6 : Int32)) - (r_X4_count G (7 : Int32))) then (0 : Int32) else (if (r_X4_count G (2 : Int32)) < (r_X4_side G (0 : Int32) (8 : Int32)) then (0 : Int32) else (if ((r_X4_count G (6 : Int32)) - (r_X4_count G (7 : Int32))) < (r_X4_side G (1 : Int32) (8 : Int32)) then (0 : Int32) else (1 : Int32)))))) else (0 : Int32))))) := hr
      have hp : (p_L_isWell G a1) = (k110_p_L_isWell G a1 T110_is) := by rw [hT110_is]; exact hp
      have hp : (p_L_isWell G a1) = (if (nb a1) = (0 : Int32) then ((fun (z_1 : Nat → Nat → CS) => (if T110_is = (0 : Int32) then z_1 else ((fun (x453_s0 : Int32) => ((fun (x473_s0 : Int32) => (if x453_s0 = x473_s0 then (if (r_X4_doneIn G) = (-5 : Int32) then z_1 else (if (5000 : Int32) < (r_X4_doneIn G) then z_1 else z_1)) else z_1)) (if (r_X4_count G (6 : Int32)) = (r_X4_count G (7 : Int32)) then (if (r_X4_count z_1 (5 : Int32)) = (0 : Int32) then (1 : Int32) else (0 : Int32)) else (0 : Int32)))) (if (r_X4_doneIn G) = (0 : Int32) then (1 : Int32) else (0 : Int32))))) (p_X4_doneIn G)) else ((fun (x352_s0 : Int32) => (k357_p_L_isWell G (q_L_isWell_357 G (((r_X4_count G (2 : Int32)).toInt - (0 : Int32).toInt).toNat + 1) x352_s0 (0 : Int32)))) (if T110_is = (0 : Int32) then (0 : Int32) else (if (r_X4_count G (9 : Int32)) = (0 : Int32) then (if (r_X4_count G (6 : Int32)) < (r_X4_count G (7 : Int32)) then (0 : Int32) else (if (r_X4_count G (2 : Int32)) < ((r_X4_count G (6 : Int32)) - (r_X4_count G (7 : Int32))) then (0 : Int32) else (if (r_X4_side G (0 : Int32) (8 : Int32)) < ((r_X4_count G (6 : Int32)) - (r_X4_count G (7 : Int32))) then (0 : Int32) else (if (r_X4_count G (2 : Int32)) < (r_X4_side G (0 : Int32) (8 : Int32)) then (0 : Int32) else (if ((r_X4_count G (6 : Int32)) - (r_X4_count G (7 : Int32))) < (r_X4_side G (1 : Int32) (8 : Int32)) then (0 : Int32) else (1 : Int32)))))) else (0 : Int32))))) := hp
      refine lv_iload_n hx hb dL_isWell_272 rfl (lv_at hl 1 rfl) ?_
      refine lv_if_eq (tgt := 432) hx hb dL_isWell_273 (by decide) (fun c273 => ?_) (fun c273 => ?_)
      · have hr := hr.trans (if_pos c273)
        have hp := hp.trans (if_pos c273)
        refine lv_aload_n hx hb dL_isWell_432 rfl (lv_at hl 0 rfl) ?_
        refine go1 (va_runV (As := []) (rest := []) ⟨hx, hb, hml, hown, hts⟩ (c_X4_doneIn l D cI cC cS B G  _) (cwV 0 hts gL_isWell_X4_doneIn rfl rfl rfl (by decide +kernel) ⟨Nat.le_of_ble_eq_true rfl, Nat.le_of_ble_eq_true rfl⟩) (pre1 hK hP hD) rfl rfl hl.1 rfl (lv_room (Nat.le_of_ble_eq_true rfl)) dL_isWell_433 ⟨Nat.zero_le _, Nat.zero_le _⟩) hP hD hS hA (fun H locs hP hD hS => ?_)
        obtain ⟨z_1, hz_1⟩ : ∃ z : Nat → Nat → CS, z = (p_X4_doneIn G) := ⟨_, rfl⟩
        rw [← hz_1] at hP hD
        have hr : (r_L_isWell G a1) = (if T110_is = (0 : Int32) then (0 : Int32) else ((fun (x453_s0 : Int32) => ((fun (x473_s0 : Int32) => (if x453_s0 = x473_s0 then (if (r_X4_doneIn G) = (-5 : Int32) then (1 : Int32) else (if (5000 : Int32) < (r_X4_doneIn G) then (0 : Int32) else (1 : Int32))) else (0 : Int32))) (if (r_X4_count G (6 : Int32)) = (r_X4_count G (7 : Int32)) then (if (r_X4_count z_1 (5 : Int32)) = (0 : Int32) then (1 : Int32) else (0 : Int32)) else (0 : Int32)))) (if (r_X4_doneIn G) = (0 : Int32) then (1 : Int32) else (0 : Int32)))) := by subst hz_1; exact hr
        have hp : (p_L_isWell G a1) = (if T110_is = (0 : Int32) then z_1 else ((fun (x453_s0 : Int32) => ((fun (x473_s0 : Int32) => (if x453_s0 = x473_s0 then (if (r_X4_doneIn G) = (-5 : Int32) then z_1 else (if (5000 : Int32) < (r_X4_doneIn G) then z_1 else z_1)) else z_1)) (if (r_X4_count G (6 : Int32)) = (r_X4_count G (7 : Int32)) then (if (r_X4_count z_1 (5 : Int32)) = (0 : Int32) then (1 : Int32) else (0 : Int32)) else (0 : Int32)))) (if (r_X4_doneIn G) = (0 : Int32) then (1 : Int32) else (0 : Int32)))) := by subst hz_1; exact hp
        refine lv_istore (lv' := [(7, .int (r_X4_doneIn G)), (0, .ref (B 0 3 0)), (1, .int (nb a1)), (2, .int (r_X4_count G (2 : Int32))), (3, .int ((2 : Int32) * (r_X4_count G (2 : Int32)))), (4, .int (r_X4_count G (6 : Int32))), (5, .int (r_X4_count G (7 : Int32))), (6, .int T110_is)]) hx hb dL_isWell_436 hl (by decide) rfl (fun ls hl => ?_)
        refine lv_iload hx hb dL_isWell_438 (lv_at hl 7 rfl) ?_
        refine lv_if_eq (tgt := 495) hx hb dL_isWell_440 (by decide) (fun c440 => ?_) (fun c440 => ?_)
        · have hr := hr.trans (if_pos c440)
          have hp := hp.trans (if_pos c440)
          refine lv_iconst (v := (0 : Int32)) hx hb dL_isWell_495 (by decide) ?_
          exact endZ (v := (0 : Int32)) hb hx hsg rfl hr.symm (by rw [hp]; exact hP) (by rw [hp]; exact hD) hS dL_isWell_496 hlocks
        · have hr := hr.trans (if_neg c440)
          have hp := hp.trans (if_neg c440)
          refine lv_iload hx hb dL_isWell_443 (lv_at hl 0 rfl) ?_
          have J_453 : ∀ (x453_s0 : Int32) (H : Heap) (locs : List Loc), x453_s0 = (if (r_X4_doneIn G) = (0 : Int32) then (1 : Int32) else (0 : Int32)) → va_P D vwCl (gpW cI cC cS B z_1) H → va_D A (gpW cI cC cS B z_1) → va_S A s.heap H locs → ∀ ls, lv_has ls 9 [(0, .ref (B 0 3 0)), (4, .int (r_X4_count G (6 : Int32))), (5, .int (r_X4_count G (7 : Int32))), (7, .int (r_X4_doneIn G))] → W p l e rm_L_isWell s m args below meth c H locs 0 0 (MQ below (QI D (gpW cI cC cS B (p_L_isWell G a1)) (r_L_isWell G a1) A) args s 0 0 A) (F0 m 453 ls [.int x453_s0]) := by
            intro x453_s0 H locs ex453_s0 hP hD hS ls hl
            have hr : (r_L_isWell G a1) = ((fun (x473_s0 : Int32) => (if x453_s0 = x473_s0 then (if (r_X4_doneIn G) = (-5 : Int32) then (1 : Int32) else (if (5000 : Int32) < (r_X4_doneIn G) then (0 : Int32) else (1 : Int32))) else (0 : Int32))) (if (r_X4_count G (6 : Int32)) = (r_X4_count G (7 : Int32)) then (if (r_X4_count z_1 (5 : Int32)) = (0 : Int32) then (1 : Int32) else (0 : Int32)) else (0 : Int32))) := by subst ex453_s0; exact hr
            have hp : (p_L_isWell G a1) = ((fun (x473_s0 : Int32) => (if x453_s0 = x473_s0 then (if (r_X4_doneIn G) = (-5 : Int32) then z_1 else (if (5000 : Int32) < (r_X4_doneIn G) then z_1 else z_1)) else z_1)) (if (r_X4_count G (6 : Int32)) = (r_X4_count G (7 : Int32)) then (if (r_X4_count z_1 (5 : Int32)) = (0 : Int32) then (1 : Int32) else (0 : Int32)) else (0 : Int32))) := by subst ex453_s0; exact hp
            refine lv_iload hx hb dL_isWell_453 (lv_at hl 1 rfl) ?_
            refine lv_iload hx hb dL_isWell_455 (lv_at hl 2 rfl) ?_
            have J_473 : ∀ (x473_s0 : Int32) (H : Heap) (locs : List Loc), x473_s0 = (if (r_X4_count G (6 : Int32)) = (r_X4_count G (7 : Int32)) then (if (r_X4_count z_1 (5 : Int32)) = (0 : Int32) then (1 : Int32) else (0 : Int32)) else (0 : Int32)) → va_P D vwCl (gpW cI cC cS B z_1) H → va_D A (gpW cI cC cS B z_1) → va_S A s.heap H locs → ∀ ls, lv_has ls 9 [(7, .int (r_X4_doneIn G))] → W p l e rm_L_isWell s m args below meth c H locs 0 0 (MQ below (QI D (gpW cI cC cS B (p_L_isWell G a1)) (r_L_isWell G a1) A) args s 0 0 A) (F0 m 473 ls [.int x473_s0, .int x453_s0]) := by
              intro x473_s0 H locs ex473_s0 hP hD hS ls hl
              have hr : (r_L_isWell G a1) = (if x453_s0 = x473_s0 then (if (r_X4_doneIn G) = (-5 : Int32) then (1 : Int32) else (if (5000 : Int32) < (r_X4_doneIn G) then (0 : Int32) else (1 : Int32))) else (0 : Int32)) := by subst ex473_s0; exact hr
              have hp : (p_L_isWell G a1) = (if x453_s0 = x473_s0 then (if (r_X4_doneIn G) = (-5 : Int32) then z_1 else (if (5000 : Int32) < (r_X4_doneIn G) then z_1 else z_1)) else z_1) := by subst ex473_s0; exact hp
              refine lv_icmp_ne (tgt := 495) hx hb dL_isWell_473 (by decide) (fun c473 => ?_) (fun c473 => ?_)
              · have hr := hr.trans (if_neg c473)
                have hp := hp.trans (if_neg c473)
                refine lv_iconst (v := (0 : Int32)) hx hb dL_isWell_495 (by decide) ?_
                exact endZ (v := (0 : Int32)) hb hx hsg rfl hr.symm (by rw [hp]; exact hP) (by rw [hp]; exact hD) hS dL_isWell_496 hlocks
              · have hr := hr.trans (if_pos c473)
                have hp := hp.trans (if_pos c473)
                refine lv_iload hx hb dL_isWell_476 (lv_at hl 0 rfl) ?_
                refine lv_bipush (v := (-5 : Int32)) hx hb dL_isWell_478 (by decide) ?_
                refine lv_icmp_eq (tgt := 491) hx hb dL_isWell_480 (by decide) (fun c480 => ?_) (fun c480 => ?_)
                · have hr := hr.trans (if_pos c480)
                  have hp := hp.trans (if_pos c480)
                  refine lv_iconst (v := (1 : Int32)) hx hb dL_isWell_491 (by decide) ?_
                  refine lv_goto (tgt := 496) hx hb dL_isWell_492 (by decide) ?_
                  exact endZ (v := (1 : Int32)) hb hx hsg rfl hr.symm (by rw [hp]; exact hP) (by rw [hp]; exact hD) hS dL_isWell_496 hlocks
                · have hr := hr.trans (if_neg c480)
                  have hp := hp.trans (if_neg c480)
                  refine lv_iload hx hb dL_isWell_483 (lv_at hl 0 rfl) ?_
                  refine lv_sipush (v := (5000 : Int32)) hx hb dL_isWell_485 (by decide) ?_
                  refine lv_icmp_gt (tgt := 495) hx hb dL_isWell_488 (by decide) (fun c488 => ?_) (fun c488 => ?_)
                  · have hr := hr.trans (if_pos c488)
                    have hp := hp.trans (if_pos c488)
                    refine lv_iconst (v := (0 : Int32)) hx hb dL_isWell_495 (by decide) ?_
                    exact endZ (v := (0 : Int32)) hb hx hsg rfl hr.symm (by rw [hp]; exact hP) (by rw [hp]; exact hD) hS dL_isWell_496 hlocks
                  · have hr := hr.trans (if_neg c488)
                    have hp := hp.trans (if_neg c488)
                    refine lv_iconst (v := (1 : Int32)) hx hb dL_isWell_491 (by decide) ?_
                    refine lv_goto (tgt := 496) hx hb dL_isWell_492 (by decide) ?_
                    exact endZ (v := (1 : Int32)) hb hx hsg rfl hr.symm (by rw [hp]; exact hP) (by rw [hp]; exact hD) hS dL_isWell_496 hlocks
            refine lv_icmp_ne (tgt := 472) hx hb dL_isWell_457 (by decide) (fun c457 => ?_) (fun c457 => ?_)
            · refine lv_iconst (v := (0 : Int32)) hx hb dL_isWell_472 (by decide) ?_
              exact J_473 (0 : Int32) _ _ (if_neg c457).symm hP hD hS ls (lv_sub hl [3] rfl)
            · refine lv_aload_n hx hb dL_isWell_460 rfl (lv_at hl 0 rfl) ?_
              refine lv_iconst (v := (5 : Int32)) hx hb dL_isWell_461 (by decide) ?_
              refine go1 (va_runV (As := [.int (5 : Int32)]) (rest := [.int x453_s0]) ⟨hx, hb, hml, hown, hts⟩ (c_X4_count l D cI cC cS B z_1 (5 : Int32)  _) (cwV 1 hts gL_isWell_X4_count rfl rfl rfl (by decide +kernel) ⟨Nat.le_of_ble_eq_true rfl, Nat.le_of_ble_eq_true rfl⟩) (pre1 hK hP hD) rfl rfl hl.1 rfl (lv_room (Nat.le_of_ble_eq_true rfl)) dL_isWell_462 ⟨Nat.zero_le _, Nat.zero_le _⟩) hP hD hS hA (fun H locs hP hD hS => ?_)
              refine lv_if_ne (tgt := 472) hx hb dL_isWell_465 (by decide) (fun c465 => ?_) (fun c465 => ?_)
              · refine lv_iconst (v := (0 : Int32)) hx hb dL_isWell_472 (by decide) ?_
                exact J_473 (0 : Int32) _ _ ((if_pos c457).trans (if_neg c465)).symm hP hD hS ls (lv_sub hl [3] rfl)
              · refine lv_iconst (v := (1 : Int32)) hx hb dL_isWell_468 (by decide) ?_
                refine lv_goto (tgt := 473) hx hb dL_isWell_469 (by decide) ?_
                exact J_473 (1 : Int32) _ _ ((if_pos c457).trans (if_pos c465)).symm hP hD hS ls (lv_sub hl [3] rfl)
          refine lv_if_ne (tgt := 452) hx hb dL_isWell_445 (by decide) (fun c445 => ?_) (fun c445 => ?_)
          · refine lv_iconst (v := (0 : Int32)) hx hb dL_isWell_452 (by decide) ?_
            exact J_453 (0 : Int32) _ _ (if_neg c445).symm hP hD hS ls (lv_sub hl [1, 5, 6, 0] rfl)
          · refine lv_iconst (v := (1 : Int32)) hx hb dL_isWell_448 (by decide) ?_
            refine lv_goto (tgt := 453) hx hb dL_isWell_449 (by decide) ?_
            exact J_453 (1 : Int32) _ _ (if_pos c445).symm hP hD hS ls (lv_sub hl [1, 5, 6, 0] rfl)
      · have hr := hr.trans (if_neg c273)
        have hp := hp.trans (if_neg c273)
        refine lv_iload hx hb dL_isWell_276 (lv_at hl 6 rfl) ?_
        have J_352 : ∀ (x352_s0 : Int32) (H : Heap) (locs : List Loc), x352_s0 = (if T110_is = (0 : Int32) then (0 : Int32) else (if (r_X4_count G (9 : Int32)) = (0 : Int32) then (if (r_X4_count G (6 : Int32)) < (r_X4_count G (7 : Int32)) then (0 : Int32) else (if (r_X4_count G (2 : Int32)) < ((r_X4_count G (6 : Int32)) - (r_X4_count G (7 : Int32))) then (0 : Int32) else (if (r_X4_side G (0 : Int32) (8 : Int32)) < ((r_X4_count G (6 : Int32)) - (r_X4_count G (7 : Int32))) then (0 : Int32) else (if (r_X4_count G (2 : Int32)) < (r_X4_side G (0 : Int32) (8 : Int32)) then (0 : Int32) else (if ((r_X4_count G (6 : Int32)) - (r_X4_count G (7 : Int32))) < (r_X4_side G (1 : Int32) (8 : Int32)) then (0 : Int32) else (1 : Int32)))))) else (0 : Int32))) → va_P D vwCl (gpW cI cC cS B G) H → va_D A (gpW cI cC cS B G) → va_S A s.heap H locs → ∀ ls, lv_has ls 9 [(0, .ref (B 0 3 0)), (2, .int (r_X4_count G (2 : Int32))), (4, .int (r_X4_count G (6 : Int32))), (5, .int (r_X4_count G (7 : Int32)))] → W p l e rm_L_isWell s m args below meth c H locs 0 0 (MQ below (QI D (gpW cI cC cS B (p_L_isWell G a1)) (r_L_isWell G a1) A) args s 0 0 A) (F0 m 352 ls [.int x352_s0]) := by
          intro x352_s0 H locs ex352_s0 hP hD hS ls hl
          have hr : (r_L_isWell G a1) = (k357_r_L_isWell G (q_L_isWell_357 G (((r_X4_count G (2 : Int32)).toInt - (0 : Int32).toInt).toNat + 1) x352_s0 (0 : Int32))) := by subst ex352_s0; exact hr
          have hp : (p_L_isWell G a1) = (k357_p_L_isWell G (q_L_isWell_357 G (((r_X4_count G (2 : Int32)).toInt - (0 : Int32).toInt).toNat + 1) x352_s0 (0 : Int32))) := by subst ex352_s0; exact hp
          refine lv_istore (lv' := [(6, .int x352_s0), (0, .ref (B 0 3 0)), (2, .int (r_X4_count G (2 : Int32))), (4, .int (r_X4_count G (6 : Int32))), (5, .int (r_X4_count G (7 : Int32)))]) hx hb dL_isWell_352 hl (by decide) rfl (fun ls hl => ?_)
          refine lv_iconst (v := (0 : Int32)) hx hb dL_isWell_354 (by decide) ?_
          refine lv_istore (lv' := [(7, .int (0 : Int32)), (6, .int x352_s0), (0, .ref (B 0 3 0)), (2, .int (r_X4_count G (2 : Int32))), (4, .int (r_X4_count G (6 : Int32))), (5, .int (r_X4_count G (7 : Int32)))]) hx hb dL_isWell_355 hl (by decide) rfl (fun ls hl => ?_)
          obtain ⟨nf_357, hnf_357⟩ : ∃ n : Nat, n = (((r_X4_count G (2 : Int32)).toInt - (0 : Int32).toInt).toNat + 1) := ⟨_, rfl⟩
          rw [← hnf_357] at hr hp
          obtain ⟨T357_iz, hT357_iz⟩ : ∃ T : Int32, T = (q_L_isWell_357 G nf_357 x352_s0 (0 : Int32)) := ⟨_, rfl⟩
          have K_357 : ∀ (H : Heap) (locs : List Loc), va_P D vwCl (gpW cI cC cS B G) H → va_D A (gpW cI cC cS B G) → va_S A s.heap H locs → ∀ ls, lv_has ls 9 [(0, .ref (B 0 3 0)), (2, .int (r_X4_count G (2 : Int32))), (4, .int (r_X4_count G (6 : Int32))), (5, .int (r_X4_count G (7 : Int32))), (6, .int T357_iz)] → W p l e rm_L_isWell s m args below meth c H locs 0 0 (MQ below (QI D (gpW cI cC cS B (p_L_isWell G a1)) (r_L_isWell G a1) A) args s 0 0 A) (F0 m 432 ls []) := by
            intro H locs  hP hD hS ls hl
            have hr : (r_L_isWell G a1) = (k357_r_L_isWell G T357_iz) := by rw [hT357_iz]; exact hr
            have hr : (r_L_isWell G a1) = ((fun (z_2 : Nat → Nat → CS) => (if T357_iz = (0 : Int32) then (0 : Int32) else ((fun (x453_s0 : Int32) => ((fun (x473_s0 : Int32) => (if x453_s0 = x473_s0 then (if (r_X4_doneIn G) = (-5 : Int32) then (1 : Int32) else (if (5000 : Int32) < (r_X4_doneIn G) then (0 : Int32) else (1 : Int32))) else (0 : Int32))) (if (r_X4_count G (6 : Int32)) = (r_X4_count G (7 : Int32)) then (if (r_X4_count z_2 (5 : Int32)) = (0 : Int32) then (1 : Int32) else (0 : Int32)) else (0 : Int32)))) (if (r_X4_doneIn G) = (0 : Int32) then (1 : Int32) else (0 : Int32))))) (p_X4_doneIn G)) := hr
            have hp : (p_L_isWell G a1) = (k357_p_L_isWell G T357_iz) := by rw [hT357_iz]; exact hp
            have hp : (p_L_isWell G a1) = ((fun (z_2 : Nat → Nat → CS) => (if T357_iz = (0 : Int32) then z_2 else ((fun (x453_s0 : Int32) => ((fun (x473_s0 : Int32) => (if x453_s0 = x473_s0 then (if (r_X4_doneIn G) = (-5 : Int32) then z_2 else (if (5000 : Int32) < (r_X4_doneIn G) then z_2 else z_2)) else z_2)) (if (r_X4_count G (6 : Int32)) = (r_X4_count G (7 : Int32)) then (if (r_X4_count z_2 (5 : Int32)) = (0 : Int32) then (1 : Int32) else (0 : Int32)) else (0 : Int32)))) (if (r_X4_doneIn G) = (0 : Int32) then (1 : Int32) else (0 : Int32))))) (p_X4_doneIn G)) := hp
            refine lv_aload_n hx hb dL_isWell_432 rfl (lv_at hl 0 rfl) ?_
            refine go1 (va_runV (As := []) (rest := []) ⟨hx, hb, hml, hown, hts⟩ (c_X4_doneIn l D cI cC cS B G  _) (cwV 0 hts gL_isWell_X4_doneIn rfl rfl rfl (by decide +kernel) ⟨Nat.le_of_ble_eq_true rfl, Nat.le_of_ble_eq_true rfl⟩) (pre1 hK hP hD) rfl rfl hl.1 rfl (lv_room (Nat.le_of_ble_eq_true rfl)) dL_isWell_433 ⟨Nat.zero_le _, Nat.zero_le _⟩) hP hD hS hA (fun H locs hP hD hS => ?_)
            obtain ⟨z_2, hz_2⟩ : ∃ z : Nat → Nat → CS, z = (p_X4_doneIn G) := ⟨_, rfl⟩
            rw [← hz_2] at hP hD
            have hr : (r_L_isWell G a1) = (if T357_iz = (0 : Int32) then (0 : Int32) else ((fun (x453_s0 : Int32) => ((fun (x473_s0 : Int32) => (if x453_s0 = x473_s0 then (if (r_X4_doneIn G) = (-5 : Int32) then (1 : Int32) else (if (5000 : Int32) < (r_X4_doneIn G) then (0 : Int32) else (1 : Int32))) else (0 : Int32))) (if (r_X4_count G (6 : Int32)) = (r_X4_count G (7 : Int32)) then (if (r_X4_count z_2 (5 : Int32)) = (0 : Int32) then (1 : Int32) else (0 : Int32)) else (0 : Int32)))) (if (r_X4_doneIn G) = (0 : Int32) then (1 : Int32) else (0 : Int32)))) := by subst hz_2; exact hr
            have hp : (p_L_isWell G a1) = (if T357_iz = (0 : Int32) then z_2 else ((fun (x453_s0 : Int32) => ((fun (x473_s0 : Int32) => (if x453_s0 = x473_s0 then (if (r_X4_doneIn G) = (-5 : Int32) then z_2 else (if (5000 : Int32) < (r_X4_doneIn G) then z_2 else z_2)) else z_2)) (if (r_X4_count G (6 : Int32)) = (r_X4_count G (7 : Int32)) then (if (r_X4_count z_2 (5 : Int32)) = (0 : Int32) then (1 : Int32) else (0 : Int32)) else (0 : Int32)))) (if (r_X4_doneIn G) = (0 : Int32) then (1 : Int32) else (0 : Int32)))) := by subst hz_2; exact hp
            refine lv_istore (lv' := [(7, .int (r_X4_doneIn G)), (0, .ref (B 0 3 0)), (2, .int (r_X4_count G (2 : Int32))), (4, .int (r_X4_count G (6 : Int32))), (5, .int (r_X4_count G (7 : Int32))), (6, .int T357_iz)]) hx hb dL_isWell_436 hl (by decide) rfl (fun ls hl => ?_)
            refine lv_iload hx hb dL_isWell_438 (lv_at hl 5 rfl) ?_
            refine lv_if_eq (tgt := 495) hx hb dL_isWell_440 (by decide) (fun c440 => ?_) (fun c440 => ?_)
            · have hr := hr.trans (if_pos c440)
              have hp := hp.trans (if_pos c440)
              refine lv_iconst (v := (0 : Int32)) hx hb dL_isWell_495 (by decide) ?_
              exact endZ (v := (0 : Int32)) hb hx hsg rfl hr.symm (by rw [hp]; exact hP) (by rw [hp]; exact hD) hS dL_isWell_496 hlocks
            · have hr := hr.trans (if_neg c440)
              have hp := hp.trans (if_neg c440)
              refine lv_iload hx hb dL_isWell_443 (lv_at hl 0 rfl) ?_
              have J_453 : ∀ (x453_s0 : Int32) (H : Heap) (locs : List Loc), x453_s0 = (if (r_X4_doneIn G) = (0 : Int32) then (1 : Int32) else (0 : Int32)) → va_P D vwCl (gpW cI cC cS B z_2) H → va_D A (gpW cI cC cS B z_2) → va_S A s.heap H locs → ∀ ls, lv_has ls 9 [(0, .ref (B 0 3 0)), (4, .int (r_X4_count G (6 : Int32))), (5, .int (r_X4_count G (7 : Int32))), (7, .int (r_X4_doneIn G))] → W p l e rm_L_isWell s m args below meth c H locs 0 0 (MQ below (QI D (gpW cI cC cS B (p_L_isWell G a1)) (r_L_isWell G a1) A) args s 0 0 A) (F0 m 453 ls [.int x453_s0]) := by
                intro x453_s0 H locs ex453_s0 hP hD hS ls hl
                have hr : (r_L_isWell G a1) = ((fun (x473_s0 : Int32) => (if x453_s0 = x473_s0 then (if (r_X4_doneIn G) = (-5 : Int32) then (1 : Int32) else (if (5000 : Int32) < (r_X4_doneIn G) then (0 : Int32) else (1 : Int32))) else (0 : Int32))) (if (r_X4_count G (6 : Int32)) = (r_X4_count G (7 : Int32)) then (if (r_X4_count z_2 (5 : Int32)) = (0 : Int32) then (1 : Int32) else (0 : Int32)) else (0 : Int32))) := by subst ex453_s0; exact hr
                have hp : (p_L_isWell G a1) = ((fun (x473_s0 : Int32) => (if x453_s0 = x473_s0 then (if (r_X4_doneIn G) = (-5 : Int32) then z_2 else (if (5000 : Int32) < (r_X4_doneIn G) then z_2 else z_2)) else z_2)) (if (r_X4_count G (6 : Int32)) = (r_X4_count G (7 : Int32)) then (if (r_X4_count z_2 (5 : Int32)) = (0 : Int32) then (1 : Int32) else (0 : Int32)) else (0 : Int32))) := by subst ex453_s0; exact hp
                refine lv_iload hx hb dL_isWell_453 (lv_at hl 1 rfl) ?_
                refine lv_iload hx hb dL_isWell_455 (lv_at hl 2 rfl) ?_
                have J_473 : ∀ (x473_s0 : Int32) (H : Heap) (locs : List Loc), x473_s0 = (if (r_X4_count G (6 : Int32)) = (r_X4_count G (7 : Int32)) then (if (r_X4_count z_2 (5 : Int32)) = (0 : Int32) then (1 : Int32) else (0 : Int32)) else (0 : Int32)) → va_P D vwCl (gpW cI cC cS B z_2) H → va_D A (gpW cI cC cS B z_2) → va_S A s.heap H locs → ∀ ls, lv_has ls 9 [(7, .int (r_X4_doneIn G))] → W p l e rm_L_isWell s m args below meth c H locs 0 0 (MQ below (QI D (gpW cI cC cS B (p_L_isWell G a1)) (r_L_isWell G a1) A) args s 0 0 A) (F0 m 473 ls [.int x473_s0, .int x453_s0]) := by
                  intro x473_s0 H locs ex473_s0 hP hD hS ls hl
                  have hr : (r_L_isWell G a1) = (if x453_s0 = x473_s0 then (if (r_X4_doneIn G) = (-5 : Int32) then (1 : Int32) else (if (5000 : Int32) < (r_X4_doneIn G) then (0 : Int32) else (1 : Int32))) else (0 : Int32)) := by subst ex473_s0; exact hr
                  have hp : (p_L_isWell G a1) = (if x453_s0 = x473_s0 then (if (r_X4_doneIn G) = (-5 : Int32) then z_2 else (if (5000 : Int32) < (r_X4_doneIn G) then z_2 else z_2)) else z_2) := by subst ex473_s0; exact hp
                  refine lv_icmp_ne (tgt := 495) hx hb dL_isWell_473 (by decide) (fun c473 => ?_) (fun c473 => ?_)
                  · have hr := hr.trans (if_neg c473)
                    have hp := hp.trans (if_neg c473)
                    refine lv_iconst (v := (0 : Int32)) hx hb dL_isWell_495 (by decide) ?_
                    exact endZ (v := (0 : Int32)) hb hx hsg rfl hr.symm (by rw [hp]; exact hP) (by rw [hp]; exact hD) hS dL_isWell_496 hlocks
                  · have hr := hr.trans (if_pos c473)
                    have hp := hp.trans (if_pos c473)
                    refine lv_iload hx hb dL_isWell_476 (lv_at hl 0 rfl) ?_
                    refine lv_bipush (v := (-5 : Int32)) hx hb dL_isWell_478 (by decide) ?_
                    refine lv_icmp_eq (tgt := 491) hx hb dL_isWell_480 (by decide) (fun c480 => ?_) (fun c480 => ?_)
                    · have hr := hr.trans (if_pos c480)
                      have hp := hp.trans (if_pos c480)
                      refine lv_iconst (v := (1 : Int32)) hx hb dL_isWell_491 (by decide) ?_
                      refine lv_goto (tgt := 496) hx hb dL_isWell_492 (by decide) ?_
                      exact endZ (v := (1 : Int32)) hb hx hsg rfl hr.symm (by rw [hp]; exact hP) (by rw [hp]; exact hD) hS dL_isWell_496 hlocks
                    · have hr := hr.trans (if_neg c480)
                      have hp := hp.trans (if_neg c480)
                      refine lv_iload hx hb dL_isWell_483 (lv_at hl 0 rfl) ?_
                      refine lv_sipush (v := (5000 : Int32)) hx hb dL_isWell_485 (by decide) ?_
                      refine lv_icmp_gt (tgt := 495) hx hb dL_isWell_488 (by decide) (fun c488 => ?_) (fun c488 => ?_)
                      · have hr := hr.trans (if_pos c488)
                        have hp := hp.trans (if_pos c488)
                        refine lv_iconst (v := (0 : Int32)) hx hb dL_isWell_495 (by decide) ?_
                        exact endZ (v := (0 : Int32)) hb hx hsg rfl hr.symm (by rw [hp]; exact hP) (by rw [hp]; exact hD) hS dL_isWell_496 hlocks
                      · have hr := hr.trans (if_neg c488)
                        have hp := hp.trans (if_neg c488)
                        refine lv_iconst (v := (1 : Int32)) hx hb dL_isWell_491 (by decide) ?_
                        refine lv_goto (tgt := 496) hx hb dL_isWell_492 (by decide) ?_
                        exact endZ (v := (1 : Int32)) hb hx hsg rfl hr.symm (by rw [hp]; exact hP) (by rw [hp]; exact hD) hS dL_isWell_496 hlocks
                refine lv_icmp_ne (tgt := 472) hx hb dL_isWell_457 (by decide) (fun c457 => ?_) (fun c457 => ?_)
                · refine lv_iconst (v := (0 : Int32)) hx hb dL_isWell_472 (by decide) ?_
                  exact J_473 (0 : Int32) _ _ (if_neg c457).symm hP hD hS ls (lv_sub hl [3] rfl)
                · refine lv_aload_n hx hb dL_isWell_460 rfl (lv_at hl 0 rfl) ?_
                  refine lv_iconst (v := (5 : Int32)) hx hb dL_isWell_461 (by decide) ?_
                  refine go1 (va_runV (As := [.int (5 : Int32)]) (rest := [.int x453_s0]) ⟨hx, hb, hml, hown, hts⟩ (c_X4_count l D cI cC cS B z_2 (5 : Int32)  _) (cwV 1 hts gL_isWell_X4_count rfl rfl rfl (by decide +kernel) ⟨Nat.le_of_ble_eq_true rfl, Nat.le_of_ble_eq_true rfl⟩) (pre1 hK hP hD) rfl rfl hl.1 rfl (lv_room (Nat.le_of_ble_eq_true rfl)) dL_isWell_462 ⟨Nat.zero_le _, Nat.zero_le _⟩) hP hD hS hA (fun H locs hP hD hS => ?_)
                  refine lv_if_ne (tgt := 472) hx hb dL_isWell_465 (by decide) (fun c465 => ?_) (fun c465 => ?_)
                  · refine lv_iconst (v := (0 : Int32)) hx hb dL_isWell_472 (by decide) ?_
                    exact J_473 (0 : Int32) _ _ ((if_pos c457).trans (if_neg c465)).symm hP hD hS ls (lv_sub hl [3] rfl)
                  · refine lv_iconst (v := (1 : Int32)) hx hb dL_isWell_468 (by decide) ?_
                    refine lv_goto (tgt := 473) hx hb dL_isWell_469 (by decide) ?_
                    exact J_473 (1 : Int32) _ _ ((if_pos c457).trans (if_pos c465)).symm hP hD hS ls (lv_sub hl [3] rfl)
              refine lv_if_ne (tgt := 452) hx hb dL_isWell_445 (by decide) (fun c445 => ?_) (fun c445 => ?_)
              · refine lv_iconst (v := (0 : Int32)) hx hb dL_isWell_452 (by decide) ?_
                exact J_453 (0 : Int32) _ _ (if_neg c445).symm hP hD hS ls (lv_sub hl [1, 3, 4, 0] rfl)
              · refine lv_iconst (v := (1 : Int32)) hx hb dL_isWell_448 (by decide) ?_
                refine lv_goto (tgt := 453) hx hb dL_isWell_449 (by decide) ?_
                exact J_453 (1 : Int32) _ _ (if_pos c445).symm hP hD hS ls (lv_sub hl [1, 3, 4, 0] rfl)
          have L_357 : ∀ (fu : Nat) (iz : Int32) (k : Int32) (H : Heap) (locs : List Loc), ((r_X4_count G (2 : Int32)).toInt - k.toInt < (fu : Int) ∧ 0 < fu) → T357_iz = (q_L_isWell_357 G fu iz k) → va_P D vwCl (gpW cI cC cS B G) H → va_D A (gpW cI cC cS B G) → va_S A s.heap H locs → ∀ ls, lv_has ls 9 [(0, .ref (B 0 3 0)), (2, .int (r_X4_count G (2 : Int32))), (4, .int (r_X4_count G (6 : Int32))), (5, .int (r_X4_count G (7 : Int32))), (6, .int iz), (7, .int k)] → W p l e rm_L_isWell s m args below meth c H locs 0 0 (MQ below (QI D (gpW cI cC cS B (p_L_isWell G a1)) (r_L_isWell G a1) A) args s 0 0 A) (F0 m 357 ls []) := by
            intro fu
            induction fu with
            | zero => intro iz k H locs hm; exact absurd hm.2 (Nat.lt_irrefl 0)
            | succ fu ih_357 =>
              intro iz k H locs hm  hq0 hP hD hS ls hl
              have hq0 : T357_iz = (if (r_X4_count G (2 : Int32)) ≤ k then iz else ((fun (x424_s0 : Int32) => (q_L_isWell_357 G fu x424_s0 (k + (1 : Int32)))) (if iz = (0 : Int32) then (0 : Int32) else (if (r_X4_place G k (1 : Int32)) = (-5 : Int32) then (if k < (r_X4_count G (6 : Int32)) then (0 : Int32) else (1 : Int32)) else (if ((r_X4_place G k (1 : Int32)) - (r_X4_place G k (1 : Int32)) / (r_X4_count G (2 : Int32)) * (r_X4_count G (2 : Int32))) = k then (if (r_X4_count G (6 : Int32)) ≤ (r_X4_place G k (1 : Int32)) then (0 : Int32) else (if (r_X4_place G k (1 : Int32)) < ((r_X4_count G (6 : Int32)) - (r_X4_count G (2 : Int32))) then (0 : Int32) else (1 : Int32))) else (0 : Int32)))))) := hq0
              refine lv_iload hx hb dL_isWell_357 (lv_at hl 5 rfl) ?_
              refine lv_iload_n hx hb dL_isWell_359 rfl (lv_at hl 1 rfl) ?_
              refine lv_icmp_ge (tgt := 432) hx hb dL_isWell_360 (by decide) (fun c360 => ?_) (fun c360 => ?_)
              · have hq0 := hq0.trans (if_pos c360)
                exact K_357 _ _  (by exact hP) (by exact hD) hS ls (by rw [hq0]; exact lv_sub hl [0, 1, 2, 3, 4] rfl)
              · have hq0 := hq0.trans (if_neg c360)
                refine lv_aload_n hx hb dL_isWell_363 rfl (lv_at hl 0 rfl) ?_
                refine lv_iload hx hb dL_isWell_364 (lv_at hl 5 rfl) ?_
                refine lv_iconst (v := (1 : Int32)) hx hb dL_isWell_366 (by decide) ?_
                refine go1 (va_runV (As := [.int k, .int (1 : Int32)]) (rest := []) ⟨hx, hb, hml, hown, hts⟩ (c_X4_place l D cI cC cS B G k (1 : Int32)  _) (cwV 2 hts gL_isWell_X4_place rfl rfl rfl (by decide +kernel) ⟨Nat.le_of_ble_eq_true rfl, Nat.le_of_ble_eq_true rfl⟩) (pre1 hK hP hD) rfl rfl hl.1 rfl (lv_room (Nat.le_of_ble_eq_true rfl)) dL_isWell_367 ⟨Nat.zero_le _, Nat.zero_le _⟩) hP hD hS hA (fun H locs hP hD hS => ?_)
                refine lv_istore (lv' := [(8, .int (r_X4_place G k (1 : Int32))), (0, .ref (B 0 3 0)), (2, .int (r_X4_count G (2 : Int32))), (4, .int (r_X4_count G (6 : Int32))), (5, .int (r_X4_count G (7 : Int32))), (6, .int iz), (7, .int k)]) hx hb dL_isWell_370 hl (by decide) rfl (fun ls hl => ?_)
                refine lv_iload hx hb dL_isWell_372 (lv_at hl 5 rfl) ?_
                have J_424 : ∀ (x424_s0 : Int32) (H : Heap) (locs : List Loc), x424_s0 = (if iz = (0 : Int32) then (0 : Int32) else (if (r_X4_place G k (1 : Int32)) = (-5 : Int32) then (if k < (r_X4_count G (6 : Int32)) then (0 : Int32) else (1 : Int32)) else (if ((r_X4_place G k (1 : Int32)) - (r_X4_place G k (1 : Int32)) / (r_X4_count G (2 : Int32)) * (r_X4_count G (2 : Int32))) = k then (if (r_X4_count G (6 : Int32)) ≤ (r_X4_place G k (1 : Int32)) then (0 : Int32) else (if (r_X4_place G k (1 : Int32)) < ((r_X4_count G (6 : Int32)) - (r_X4_count G (2 : Int32))) then (0 : Int32) else (1 : Int32))) else (0 : Int32)))) → va_P D vwCl (gpW cI cC cS B G) H → va_D A (gpW cI cC cS B G) → va_S A s.heap H locs → ∀ ls, lv_has ls 9 [(0, .ref (B 0 3 0)), (2, .int (r_X4_count G (2 : Int32))), (4, .int (r_X4_count G (6 : Int32))), (5, .int (r_X4_count G (7 : Int32))), (7, .int k)] → W p l e rm_L_isWell s m args below meth c H locs 0 0 (MQ below (QI D (gpW cI cC cS B (p_L_isWell G a1)) (r_L_isWell G a1) A) args s 0 0 A) (F0 m 424 ls [.int x424_s0]) := by
                  intro x424_s0 H locs ex424_s0 hP hD hS ls hl
                  have hq0 : T357_iz = (q_L_isWell_357 G fu x424_s0 (k + (1 : Int32))) := by subst ex424_s0; exact hq0
                  refine lv_istore (lv' := [(6, .int x424_s0), (0, .ref (B 0 3 0)), (2, .int (r_X4_count G (2 : Int32))), (4, .int (r_X4_count G (6 : Int32))), (5, .int (r_X4_count G (7 : Int32))), (7, .int k)]) hx hb dL_isWell_424 hl (by decide) rfl (fun ls hl => ?_)
                  refine lv_iinc (v := (k + (1 : Int32))) (lv' := [(7, .int (k + (1 : Int32))), (6, .int x424_s0), (0, .ref (B 0 3 0)), (2, .int (r_X4_count G (2 : Int32))), (4, .int (r_X4_count G (6 : Int32))), (5, .int (r_X4_count G (7 : Int32)))]) hx hb dL_isWell_426 hl (k := 5) rfl rfl (by decide) rfl (fun ls hl => ?_)
                  refine lv_goto (tgt := 357) hx hb dL_isWell_429 (by decide) ?_
                  exact ih_357 x424_s0 (k + (1 : Int32)) _ _ (cnt_step c360 hm) hq0 hP hD hS ls (lv_sub hl [2, 3, 4, 5, 1, 0] rfl)
                refine lv_if_eq (tgt := 423) hx hb dL_isWell_374 (by decide) (fun c374 => ?_) (fun c374 => ?_)
                · refine lv_iconst (v := (0 : Int32)) hx hb dL_isWell_423 (by decide) ?_
                  exact J_424 (0 : Int32) _ _ (if_pos c374).symm hP hD hS ls (lv_sub hl [1, 2, 3, 4, 6] rfl)
                · refine lv_iload hx hb dL_isWell_377 (lv_at hl 0 rfl) ?_
                  refine lv_bipush (v := (-5 : Int32)) hx hb dL_isWell_379 (by decide) ?_
                  refine lv_icmp_ne (tgt := 394) hx hb dL_isWell_381 (by decide) (fun c381 => ?_) (fun c381 => ?_)
                  · refine lv_iload hx hb dL_isWell_394 (lv_at hl 0 rfl) ?_
                    refine lv_iload_n hx hb dL_isWell_396 rfl (lv_at hl 2 rfl) ?_
                    refine lv_irem hx hb dL_isWell_397 hd2 ?_
                    refine lv_iload hx hb dL_isWell_398 (lv_at hl 6 rfl) ?_
                    refine lv_icmp_ne (tgt := 423) hx hb dL_isWell_400 (by decide) (fun c400 => ?_) (fun c400 => ?_)
                    · refine lv_iconst (v := (0 : Int32)) hx hb dL_isWell_423 (by decide) ?_
                      exact J_424 (0 : Int32) _ _ (((if_neg c374).trans (if_neg c381)).trans (if_neg c400)).symm hP hD hS ls (lv_sub hl [1, 2, 3, 4, 6] rfl)
                    · refine lv_iload hx hb dL_isWell_403 (lv_at hl 0 rfl) ?_
                      refine lv_iload hx hb dL_isWell_405 (lv_at hl 3 rfl) ?_
                      refine lv_icmp_ge (tgt := 423) hx hb dL_isWell_407 (by decide) (fun c407 => ?_) (fun c407 => ?_)
                      · refine lv_iconst (v := (0 : Int32)) hx hb dL_isWell_423 (by decide) ?_
                        exact J_424 (0 : Int32) _ _ ((((if_neg c374).trans (if_neg c381)).trans (if_pos c400)).trans (if_pos c407)).symm hP hD hS ls (lv_sub hl [1, 2, 3, 4, 6] rfl)
                      · refine lv_iload hx hb dL_isWell_410 (lv_at hl 0 rfl) ?_
                        refine lv_iload hx hb dL_isWell_412 (lv_at hl 3 rfl) ?_
                        refine lv_iload_n hx hb dL_isWell_414 rfl (lv_at hl 2 rfl) ?_
                        refine lv_isub hx hb dL_isWell_415 ?_
                        refine lv_icmp_lt (tgt := 423) hx hb dL_isWell_416 (by decide) (fun c416 => ?_) (fun c416 => ?_)
                        · refine lv_iconst (v := (0 : Int32)) hx hb dL_isWell_423 (by decide) ?_
                          exact J_424 (0 : Int32) _ _ (((((if_neg c374).trans (if_neg c381)).trans (if_pos c400)).trans (if_neg c407)).trans (if_pos c416)).symm hP hD hS ls (lv_sub hl [1, 2, 3, 4, 6] rfl)
                        · refine lv_iconst (v := (1 : Int32)) hx hb dL_isWell_419 (by decide) ?_
                          refine lv_goto (tgt := 424) hx hb dL_isWell_420 (by decide) ?_
                          exact J_424 (1 : Int32) _ _ (((((if_neg c374).trans (if_neg c381)).trans (if_pos c400)).trans (if_neg c407)).trans (if_neg c416)).symm hP hD hS ls (lv_sub hl [1, 2, 3, 4, 6] rfl)
                  · refine lv_iload hx hb dL_isWell_384 (lv_at hl 3 rfl) ?_
                    refine lv_iload hx hb dL_isWell_386 (lv_at hl 6 rfl) ?_
                    refine lv_icmp_gt (tgt := 423) hx hb dL_isWell_388 (by decide) (fun c388 => ?_) (fun c388 => ?_)
                    · refine lv_iconst (v := (0 : Int32)) hx hb dL_isWell_423 (by decide) ?_
                      exact J_424 (0 : Int32) _ _ (((if_neg c374).trans (if_pos c381)).trans (if_pos c388)).symm hP hD hS ls (lv_sub hl [1, 2, 3, 4, 6] rfl)
                    · refine lv_goto (tgt := 419) hx hb dL_isWell_391 (by decide) ?_
                      refine lv_iconst (v := (1 : Int32)) hx hb dL_isWell_419 (by decide) ?_
                      refine lv_goto (tgt := 424) hx hb dL_isWell_420 (by decide) ?_
                      exact J_424 (1 : Int32) _ _ (((if_neg c374).trans (if_pos c381)).trans (if_neg c388)).symm hP hD hS ls (lv_sub hl [1, 2, 3, 4, 6] rfl)
          exact L_357 _ x352_s0 (0 : Int32) _ _ (by rw [hnf_357]; exact (cnt_init _ _)) hT357_iz hP hD hS ls (lv_sub hl [2, 3, 4, 5, 1, 0] rfl)
        refine lv_if_eq (tgt := 351) hx hb dL_isWell_278 (by decide) (fun c278 => ?_) (fun c278 => ?_)
        · refine lv_iconst (v := (0 : Int32)) hx hb dL_isWell_351 (by decide) ?_
          exact J_352 (0 : Int32) _ _ (if_pos c278).symm hP hD hS ls (lv_sub hl [0, 2, 4, 5] rfl)
        · refine lv_aload_n hx hb dL_isWell_281 rfl (lv_at hl 0 rfl) ?_
          refine lv_bipush (v := (9 : Int32)) hx hb dL_isWell_282 (by decide) ?_
          refine go1 (va_runV (As := [.int (9 : Int32)]) (rest := []) ⟨hx, hb, hml, hown, hts⟩ (c_X4_count l D cI cC cS B G (9 : Int32)  _) (cwV 1 hts gL_isWell_X4_count rfl rfl rfl (by decide +kernel) ⟨Nat.le_of_ble_eq_true rfl, Nat.le_of_ble_eq_true rfl⟩) (pre1 hK hP hD) rfl rfl hl.1 rfl (lv_room (Nat.le_of_ble_eq_true rfl)) dL_isWell_284 ⟨Nat.zero_le _, Nat.zero_le _⟩) hP hD hS hA (fun H locs hP hD hS => ?_)
          refine lv_if_ne (tgt := 351) hx hb dL_isWell_287 (by decide) (fun c287 => ?_) (fun c287 => ?_)
          · refine lv_iconst (v := (0 : Int32)) hx hb dL_isWell_351 (by decide) ?_
            exact J_352 (0 : Int32) _ _ ((if_neg c278).trans (if_neg c287)).symm hP hD hS ls (lv_sub hl [0, 2, 4, 5] rfl)
          · refine lv_iload hx hb dL_isWell_290 (lv_at hl 5 rfl) ?_
            refine lv_iload hx hb dL_isWell_292 (lv_at hl 4 rfl) ?_
            refine lv_icmp_gt (tgt := 351) hx hb dL_isWell_294 (by decide) (fun c294 => ?_) (fun c294 => ?_)
            · refine lv_iconst (v := (0 : Int32)) hx hb dL_isWell_351 (by decide) ?_
              exact J_352 (0 : Int32) _ _ (((if_neg c278).trans (if_pos c287)).trans (if_pos c294)).symm hP hD hS ls (lv_sub hl [0, 2, 4, 5] rfl)
            · refine lv_iload hx hb dL_isWell_297 (lv_at hl 4 rfl) ?_
              refine lv_iload hx hb dL_isWell_299 (lv_at hl 5 rfl) ?_
              refine lv_isub hx hb dL_isWell_301 ?_
              refine lv_iload_n hx hb dL_isWell_302 rfl (lv_at hl 2 rfl) ?_
              refine lv_icmp_gt (tgt := 351) hx hb dL_isWell_303 (by decide) (fun c303 => ?_) (fun c303 => ?_)
              · refine lv_iconst (v := (0 : Int32)) hx hb dL_isWell_351 (by decide) ?_
                exact J_352 (0 : Int32) _ _ ((((if_neg c278).trans (if_pos c287)).trans (if_neg c294)).trans (if_pos c303)).symm hP hD hS ls (lv_sub hl [0, 2, 4, 5] rfl)
              · refine lv_aload_n hx hb dL_isWell_306 rfl (lv_at hl 0 rfl) ?_
                refine lv_iconst (v := (0 : Int32)) hx hb dL_isWell_307 (by decide) ?_
                refine lv_bipush (v := (8 : Int32)) hx hb dL_isWell_308 (by decide) ?_
                refine go1 (va_runV (As := [.int (0 : Int32), .int (8 : Int32)]) (rest := []) ⟨hx, hb, hml, hown, hts⟩ (c_X4_side l D cI cC cS B G (0 : Int32) (8 : Int32)  _) (cwV 2 hts gL_isWell_X4_side rfl rfl rfl (by decide +kernel) ⟨Nat.le_of_ble_eq_true rfl, Nat.le_of_ble_eq_true rfl⟩) (pre1 hK hP hD) rfl rfl hl.1 rfl (lv_room (Nat.le_of_ble_eq_true rfl)) dL_isWell_310 ⟨Nat.zero_le _, Nat.zero_le _⟩) hP hD hS hA (fun H locs hP hD hS => ?_)
                refine lv_iload hx hb dL_isWell_313 (lv_at hl 4 rfl) ?_
                refine lv_iload hx hb dL_isWell_315 (lv_at hl 5 rfl) ?_
                refine lv_isub hx hb dL_isWell_317 ?_
                refine lv_icmp_lt (tgt := 351) hx hb dL_isWell_318 (by decide) (fun c318 => ?_) (fun c318 => ?_)
                · refine lv_iconst (v := (0 : Int32)) hx hb dL_isWell_351 (by decide) ?_
                  exact J_352 (0 : Int32) _ _ (((((if_neg c278).trans (if_pos c287)).trans (if_neg c294)).trans (if_neg c303)).trans (if_pos c318)).symm hP hD hS ls (lv_sub hl [0, 2, 4, 5] rfl)
                · refine lv_aload_n hx hb dL_isWell_321 rfl (lv_at hl 0 rfl) ?_
                  refine lv_iconst (v := (0 : Int32)) hx hb dL_isWell_322 (by decide) ?_
                  refine lv_bipush (v := (8 : Int32)) hx hb dL_isWell_323 (by decide) ?_
                  refine go1 (va_runV (As := [.int (0 : Int32), .int (8 : Int32)]) (rest := []) ⟨hx, hb, hml, hown, hts⟩ (c_X4_side l D cI cC cS B G (0 : Int32) (8 : Int32)  _) (cwV 2 hts gL_isWell_X4_side rfl rfl rfl (by decide +kernel) ⟨Nat.le_of_ble_eq_true rfl, Nat.le_of_ble_eq_true rfl⟩) (pre1 hK hP hD) rfl rfl hl.1 rfl (lv_room (Nat.le_of_ble_eq_true rfl)) dL_isWell_325 ⟨Nat.zero_le _, Nat.zero_le _⟩) hP hD hS hA (fun H locs hP hD hS => ?_)
                  refine lv_iload_n hx hb dL_isWell_328 rfl (lv_at hl 2 rfl) ?_
                  refine lv_icmp_gt (tgt := 351) hx hb dL_isWell_329 (by decide) (fun c329 => ?_) (fun c329 => ?_)
                  · refine lv_iconst (v := (0 : Int32)) hx hb dL_isWell_351 (by decide) ?_
                    exact J_352 (0 : Int32) _ _ ((((((if_neg c278).trans (if_pos c287)).trans (if_neg c294)).trans (if_neg c303)).trans (if_neg c318)).trans (if_pos c329)).symm hP hD hS ls (lv_sub hl [0, 2, 4, 5] rfl)
                  · refine lv_aload_n hx hb dL_isWell_332 rfl (lv_at hl 0 rfl) ?_
                    refine lv_iconst (v := (1 : Int32)) hx hb dL_isWell_333 (by decide) ?_
                    refine lv_bipush (v := (8 : Int32)) hx hb dL_isWell_334 (by decide) ?_
                    refine go1 (va_runV (As := [.int (1 : Int32), .int (8 : Int32)]) (rest := []) ⟨hx, hb, hml, hown, hts⟩ (c_X4_side l D cI cC cS B G (1 : Int32) (8 : Int32)  _) (cwV 2 hts gL_isWell_X4_side rfl rfl rfl (by decide +kernel) ⟨Nat.le_of_ble_eq_true rfl, Nat.le_of_ble_eq_true rfl⟩) (pre1 hK hP hD) rfl rfl hl.1 rfl (lv_room (Nat.le_of_ble_eq_true rfl)) dL_isWell_336 ⟨Nat.zero_le _, Nat.zero_le _⟩) hP hD hS hA (fun H locs hP hD hS => ?_)
                    refine lv_iload hx hb dL_isWell_339 (lv_at hl 4 rfl) ?_
                    refine lv_iload hx hb dL_isWell_341 (lv_at hl 5 rfl) ?_
                    refine lv_isub hx hb dL_isWell_343 ?_
                    refine lv_icmp_gt (tgt := 351) hx hb dL_isWell_344 (by decide) (fun c344 => ?_) (fun c344 => ?_)
                    · refine lv_iconst (v := (0 : Int32)) hx hb dL_isWell_351 (by decide) ?_
                      exact J_352 (0 : Int32) _ _ (((((((if_neg c278).trans (if_pos c287)).trans (if_neg c294)).trans (if_neg c303)).trans (if_neg c318)).trans (if_neg c329)).trans (if_pos c344)).symm hP hD hS ls (lv_sub hl [0, 2, 4, 5] rfl)
                    · refine lv_iconst (v := (1 : Int32)) hx hb dL_isWell_347 (by decide) ?_
                      refine lv_goto (tgt := 352) hx hb dL_isWell_348 (by decide) ?_
                      exact J_352 (1 : Int32) _ _ (((((((if_neg c278).trans (if_pos c287)).trans (if_neg c294)).trans (if_neg c303)).trans (if_neg c318)).trans (if_neg c329)).trans (if_neg c344)).symm hP hD hS ls (lv_sub hl [0, 2, 4, 5] rfl)
    have L_110 : ∀ (fu : Nat) (is : Int32) (sd : Int32) (H : Heap) (locs : List Loc), ((2 : Int32).toInt - sd.toInt < (fu : Int) ∧ 0 < fu) → T110_is = (q_L_isWell_110 G fu is sd) → va_P D vwCl (gpW cI cC cS B G) H → va_D A (gpW cI cC cS B G) → va_S A s.heap H locs → ∀ ls, lv_has ls 9 [(0, .ref (B 0 3 0)), (1, .int (nb a1)), (2, .int (r_X4_count G (2 : Int32))), (3, .int ((2 : Int32) * (r_X4_count G (2 : Int32)))), (4, .int (r_X4_count G (6 : Int32))), (5, .int (r_X4_count G (7 : Int32))), (6, .int is), (7, .int sd)] → W p l e rm_L_isWell s m args below meth c H locs 0 0 (MQ below (QI D (gpW cI cC cS B (p_L_isWell G a1)) (r_L_isWell G a1) A) args s 0 0 A) (F0 m 110 ls []) := by
      intro fu
      induction fu with
      | zero => intro is sd H locs hm; exact absurd hm.2 (Nat.lt_irrefl 0)
      | succ fu ih_110 =>
        intro is sd H locs hm  hq0 hP hD hS ls hl
        have hq0 : T110_is = (if (2 : Int32) ≤ sd then is else ((fun (x264_s0 : Int32) => (q_L_isWell_110 G fu x264_s0 (sd + (1 : Int32)))) (if is = (0 : Int32) then (0 : Int32) else (if (r_X4_side G sd (8 : Int32)) < (0 : Int32) then (0 : Int32) else (if ((2 : Int32) * (r_X4_count G (2 : Int32))) ≤ (r_X4_side G sd (8 : Int32)) then (0 : Int32) else (if (r_X4_side G sd (4 : Int32)) < (0 : Int32) then (0 : Int32) else (if ((2 : Int32) * (r_X4_count G (2 : Int32))) ≤ (r_X4_side G sd (4 : Int32)) then (0 : Int32) else (if (r_X4_side G sd (12 : Int32)) < (r_X4_side G sd (13 : Int32)) then (0 : Int32) else ((fun (x199_s0 : Int32) => ((fun (x211_s0 : Int32) => ((fun (x219_s0 : Int32) => (if x199_s0 = x219_s0 then ((fun (x238_s0 : Int32) => ((fun (x256_s0 : Int32) => (if x238_s0 = x256_s0 then (1 : Int32) else (0 : Int32))) (if (r_X4_side G sd (11 : Int32)) = (-5 : Int32) then (0 : Int32) else (1 : Int32)))) (if (r_X4_side G sd (2 : Int32)) = (1 : Int32) then (1 : Int32) else (0 : Int32))) else (0 : Int32))) (if (r_X4_side G sd (8 : Int32)) = x211_s0 then (1 : Int32) else (0 : Int32)))) (if sd = (0 : Int32) then (r_X4_count G (2 : Int32)) else (0 : Int32)))) (if (r_X4_side G sd (9 : Int32)) = (1 : Int32) then (1 : Int32) else (0 : Int32))))))))))) := hq0
        refine lv_iload hx hb dL_isWell_110 (lv_at hl 7 rfl) ?_
        refine lv_iconst (v := (2 : Int32)) hx hb dL_isWell_112 (by decide) ?_
        refine lv_icmp_ge (tgt := 272) hx hb dL_isWell_113 (by decide) (fun c113 => ?_) (fun c113 => ?_)
        · have hq0 := hq0.trans (if_pos c113)
          exact K_110 _ _  (by exact hP) (by exact hD) hS ls (by rw [hq0]; exact lv_sub hl [0, 1, 2, 3, 4, 5, 6] rfl)
        · have hq0 := hq0.trans (if_neg c113)
          refine lv_aload_n hx hb dL_isWell_116 rfl (lv_at hl 0 rfl) ?_
          refine lv_iload hx hb dL_isWell_117 (lv_at hl 7 rfl) ?_
          refine lv_bipush (v := (8 : Int32)) hx hb dL_isWell_119 (by decide) ?_
          refine go1 (va_runV (As := [.int sd, .int (8 : Int32)]) (rest := []) ⟨hx, hb, hml, hown, hts⟩ (c_X4_side l D cI cC cS B G sd (8 : Int32)  _) (cwV 2 hts gL_isWell_X4_side rfl rfl rfl (by decide +kernel) ⟨Nat.le_of_ble_eq_true rfl, Nat.le_of_ble_eq_true rfl⟩) (pre1 hK hP hD) rfl rfl hl.1 rfl (lv_room (Nat.le_of_ble_eq_true rfl)) dL_isWell_121 ⟨Nat.zero_le _, Nat.zero_le _⟩) hP hD hS hA (fun H locs hP hD hS => ?_)
          refine lv_istore (lv' := [(8, .int (r_X4_side G sd (8 : Int32))), (0, .ref (B 0 3 0)), (1, .int (nb a1)), (2, .int (r_X4_count G (2 : Int32))), (3, .int ((2 : Int32) * (r_X4_count G (2 : Int32)))), (4, .int (r_X4_count G (6 : Int32))), (5, .int (r_X4_count G (7 : Int32))), (6, .int is), (7, .int sd)]) hx hb dL_isWell_124 hl (by decide) rfl (fun ls hl => ?_)
          refine lv_iload hx hb dL_isWell_126 (lv_at hl 7 rfl) ?_
          have J_264 : ∀ (x264_s0 : Int32) (H : Heap) (locs : List Loc), x264_s0 = (if is = (0 : Int32) then (0 : Int32) else (if (r_X4_side G sd (8 : Int32)) < (0 : Int32) then (0 : Int32) else (if ((2 : Int32) * (r_X4_count G (2 : Int32))) ≤ (r_X4_side G sd (8 : Int32)) then (0 : Int32) else (if (r_X4_side G sd (4 : Int32)) < (0 : Int32) then (0 : Int32) else (if ((2 : Int32) * (r_X4_count G (2 : Int32))) ≤ (r_X4_side G sd (4 : Int32)) then (0 : Int32) else (if (r_X4_side G sd (12 : Int32)) < (r_X4_side G sd (13 : Int32)) then (0 : Int32) else ((fun (x199_s0 : Int32) => ((fun (x211_s0 : Int32) => ((fun (x219_s0 : Int32) => (if x199_s0 = x219_s0 then ((fun (x238_s0 : Int32) => ((fun (x256_s0 : Int32) => (if x238_s0 = x256_s0 then (1 : Int32) else (0 : Int32))) (if (r_X4_side G sd (11 : Int32)) = (-5 : Int32) then (0 : Int32) else (1 : Int32)))) (if (r_X4_side G sd (2 : Int32)) = (1 : Int32) then (1 : Int32) else (0 : Int32))) else (0 : Int32))) (if (r_X4_side G sd (8 : Int32)) = x211_s0 then (1 : Int32) else (0 : Int32)))) (if sd = (0 : Int32) then (r_X4_count G (2 : Int32)) else (0 : Int32)))) (if (r_X4_side G sd (9 : Int32)) = (1 : Int32) then (1 : Int32) else (0 : Int32))))))))) → va_P D vwCl (gpW cI cC cS B G) H → va_D A (gpW cI cC cS B G) → va_S A s.heap H locs → ∀ ls, lv_has ls 9 [(0, .ref (B 0 3 0)), (1, .int (nb a1)), (2, .int (r_X4_count G (2 : Int32))), (3, .int ((2 : Int32) * (r_X4_count G (2 : Int32)))), (4, .int (r_X4_count G (6 : Int32))), (5, .int (r_X4_count G (7 : Int32))), (7, .int sd)] → W p l e rm_L_isWell s m args below meth c H locs 0 0 (MQ below (QI D (gpW cI cC cS B (p_L_isWell G a1)) (r_L_isWell G a1) A) args s 0 0 A) (F0 m 264 ls [.int x264_s0]) := by
            intro x264_s0 H locs ex264_s0 hP hD hS ls hl
            have hq0 : T110_is = (q_L_isWell_110 G fu x264_s0 (sd + (1 : Int32))) := by subst ex264_s0; exact hq0
            refine lv_istore (lv' := [(6, .int x264_s0), (0, .ref (B 0 3 0)), (1, .int (nb a1)), (2, .int (r_X4_count G (2 : Int32))), (3, .int ((2 : Int32) * (r_X4_count G (2 : Int32)))), (4, .int (r_X4_count G (6 : Int32))), (5, .int (r_X4_count G (7 : Int32))), (7, .int sd)]) hx hb dL_isWell_264 hl (by decide) rfl (fun ls hl => ?_)
            refine lv_iinc (v := (sd + (1 : Int32))) (lv' := [(7, .int (sd + (1 : Int32))), (6, .int x264_s0), (0, .ref (B 0 3 0)), (1, .int (nb a1)), (2, .int (r_X4_count G (2 : Int32))), (3, .int ((2 : Int32) * (r_X4_count G (2 : Int32)))), (4, .int (r_X4_count G (6 : Int32))), (5, .int (r_X4_count G (7 : Int32)))]) hx hb dL_isWell_266 hl (k := 7) rfl rfl (by decide) rfl (fun ls hl => ?_)
            refine lv_goto (tgt := 110) hx hb dL_isWell_269 (by decide) ?_
            exact ih_110 x264_s0 (sd + (1 : Int32)) _ _ (cnt_step c113 hm) hq0 hP hD hS ls (lv_sub hl [2, 3, 4, 5, 6, 7, 1, 0] rfl)
          refine lv_if_eq (tgt := 263) hx hb dL_isWell_128 (by decide) (fun c128 => ?_) (fun c128 => ?_)
          · refine lv_iconst (v := (0 : Int32)) hx hb dL_isWell_263 (by decide) ?_
            exact J_264 (0 : Int32) _ _ (if_pos c128).symm hP hD hS ls (lv_sub hl [1, 2, 3, 4, 5, 6, 8] rfl)
          · refine lv_iload hx hb dL_isWell_131 (lv_at hl 0 rfl) ?_
            refine lv_if_lt (tgt := 263) hx hb dL_isWell_133 (by decide) (fun c133 => ?_) (fun c133 => ?_)
            · refine lv_iconst (v := (0 : Int32)) hx hb dL_isWell_263 (by decide) ?_
              exact J_264 (0 : Int32) _ _ ((if_neg c128).trans (if_pos c133)).symm hP hD hS ls (lv_sub hl [1, 2, 3, 4, 5, 6, 8] rfl)
            · refine lv_iload hx hb dL_isWell_136 (lv_at hl 0 rfl) ?_
              refine lv_iload_n hx hb dL_isWell_138 rfl (lv_at hl 4 rfl) ?_
              refine lv_icmp_ge (tgt := 263) hx hb dL_isWell_139 (by decide) (fun c139 => ?_) (fun c139 => ?_)
              · refine lv_iconst (v := (0 : Int32)) hx hb dL_isWell_263 (by decide) ?_
                exact J_264 (0 : Int32) _ _ (((if_neg c128).trans (if_neg c133)).trans (if_pos c139)).symm hP hD hS ls (lv_sub hl [1, 2, 3, 4, 5, 6, 8] rfl)
              · refine lv_aload_n hx hb dL_isWell_142 rfl (lv_at hl 1 rfl) ?_
                refine lv_iload hx hb dL_isWell_143 (lv_at hl 8 rfl) ?_
                refine lv_iconst (v := (4 : Int32)) hx hb dL_isWell_145 (by decide) ?_
                refine go1 (va_runV (As := [.int sd, .int (4 : Int32)]) (rest := []) ⟨hx, hb, hml, hown, hts⟩ (c_X4_side l D cI cC cS B G sd (4 : Int32)  _) (cwV 2 hts gL_isWell_X4_side rfl rfl rfl (by decide +kernel) ⟨Nat.le_of_ble_eq_true rfl, Nat.le_of_ble_eq_true rfl⟩) (pre1 hK hP hD) rfl rfl hl.1 rfl (lv_room (Nat.le_of_ble_eq_true rfl)) dL_isWell_146 ⟨Nat.zero_le _, Nat.zero_le _⟩) hP hD hS hA (fun H locs hP hD hS => ?_)
                refine lv_if_lt (tgt := 263) hx hb dL_isWell_149 (by decide) (fun c149 => ?_) (fun c149 => ?_)
                · refine lv_iconst (v := (0 : Int32)) hx hb dL_isWell_263 (by decide) ?_
                  exact J_264 (0 : Int32) _ _ ((((if_neg c128).trans (if_neg c133)).trans (if_neg c139)).trans (if_pos c149)).symm hP hD hS ls (lv_sub hl [1, 2, 3, 4, 5, 6, 8] rfl)
                · refine lv_aload_n hx hb dL_isWell_152 rfl (lv_at hl 1 rfl) ?_
                  refine lv_iload hx hb dL_isWell_153 (lv_at hl 8 rfl) ?_
                  refine lv_iconst (v := (4 : Int32)) hx hb dL_isWell_155 (by decide) ?_
                  refine go1 (va_runV (As := [.int sd, .int (4 : Int32)]) (rest := []) ⟨hx, hb, hml, hown, hts⟩ (c_X4_side l D cI cC cS B G sd (4 : Int32)  _) (cwV 2 hts gL_isWell_X4_side rfl rfl rfl (by decide +kernel) ⟨Nat.le_of_ble_eq_true rfl, Nat.le_of_ble_eq_true rfl⟩) (pre1 hK hP hD) rfl rfl hl.1 rfl (lv_room (Nat.le_of_ble_eq_true rfl)) dL_isWell_156 ⟨Nat.zero_le _, Nat.zero_le _⟩) hP hD hS hA (fun H locs hP hD hS => ?_)
                  refine lv_iload_n hx hb dL_isWell_159 rfl (lv_at hl 4 rfl) ?_
                  refine lv_icmp_ge (tgt := 263) hx hb dL_isWell_160 (by decide) (fun c160 => ?_) (fun c160 => ?_)
                  · refine lv_iconst (v := (0 : Int32)) hx hb dL_isWell_263 (by decide) ?_
                    exact J_264 (0 : Int32) _ _ (((((if_neg c128).trans (if_neg c133)).trans (if_neg c139)).trans (if_neg c149)).trans (if_pos c160)).symm hP hD hS ls (lv_sub hl [1, 2, 3, 4, 5, 6, 8] rfl)
                  · refine lv_aload_n hx hb dL_isWell_163 rfl (lv_at hl 1 rfl) ?_
                    refine lv_iload hx hb dL_isWell_164 (lv_at hl 8 rfl) ?_
                    refine lv_bipush (v := (13 : Int32)) hx hb dL_isWell_166 (by decide) ?_
                    refine go1 (va_runV (As := [.int sd, .int (13 : Int32)]) (rest := []) ⟨hx, hb, hml, hown, hts⟩ (c_X4_side l D cI cC cS B G sd (13 : Int32)  _) (cwV 2 hts gL_isWell_X4_side rfl rfl rfl (by decide +kernel) ⟨Nat.le_of_ble_eq_true rfl, Nat.le_of_ble_eq_true rfl⟩) (pre1 hK hP hD) rfl rfl hl.1 rfl (lv_room (Nat.le_of_ble_eq_true rfl)) dL_isWell_168 ⟨Nat.zero_le _, Nat.zero_le _⟩) hP hD hS hA (fun H locs hP hD hS => ?_)
                    refine lv_aload_n hx hb dL_isWell_171 rfl (lv_at hl 1 rfl) ?_
                    refine lv_iload hx hb dL_isWell_172 (lv_at hl 8 rfl) ?_
                    refine lv_bipush (v := (12 : Int32)) hx hb dL_isWell_174 (by decide) ?_
                    refine go1 (va_runV (As := [.int sd, .int (12 : Int32)]) (rest := [.int (r_X4_side G sd (13 : Int32))]) ⟨hx, hb, hml, hown, hts⟩ (c_X4_side l D cI cC cS B G sd (12 : Int32)  _) (cwV 2 hts gL_isWell_X4_side rfl rfl rfl (by decide +kernel) ⟨Nat.le_of_ble_eq_true rfl, Nat.le_of_ble_eq_true rfl⟩) (pre1 hK hP hD) rfl rfl hl.1 rfl (lv_room (Nat.le_of_ble_eq_true rfl)) dL_isWell_176 ⟨Nat.zero_le _, Nat.zero_le _⟩) hP hD hS hA (fun H locs hP hD hS => ?_)
                    refine lv_icmp_gt (tgt := 263) hx hb dL_isWell_179 (by decide) (fun c179 => ?_) (fun c179 => ?_)
                    · refine lv_iconst (v := (0 : Int32)) hx hb dL_isWell_263 (by decide) ?_
                      exact J_264 (0 : Int32) _ _ ((((((if_neg c128).trans (if_neg c133)).trans (if_neg c139)).trans (if_neg c149)).trans (if_neg c160)).trans (if_pos c179)).symm hP hD hS ls (lv_sub hl [1, 2, 3, 4, 5, 6, 8] rfl)
                    · refine lv_aload_n hx hb dL_isWell_182 rfl (lv_at hl 1 rfl) ?_
                      refine lv_iload hx hb dL_isWell_183 (lv_at hl 8 rfl) ?_
                      refine lv_bipush (v := (9 : Int32)) hx hb dL_isWell_185 (by decide) ?_
                      refine go1 (va_runV (As := [.int sd, .int (9 : Int32)]) (rest := []) ⟨hx, hb, hml, hown, hts⟩ (c_X4_side l D cI cC cS B G sd (9 : Int32)  _) (cwV 2 hts gL_isWell_X4_side rfl rfl rfl (by decide +kernel) ⟨Nat.le_of_ble_eq_true rfl, Nat.le_of_ble_eq_true rfl⟩) (pre1 hK hP hD) rfl rfl hl.1 rfl (lv_room (Nat.le_of_ble_eq_true rfl)) dL_isWell_187 ⟨Nat.zero_le _, Nat.zero_le _⟩) hP hD hS hA (fun H locs hP hD hS => ?_)
                      refine lv_iconst (v := (1 : Int32)) hx hb dL_isWell_190 (by decide) ?_
                      have J_199 : ∀ (x199_s0 : Int32) (H : Heap) (locs : List Loc), x199_s0 = (if (r_X4_side G sd (9 : Int32)) = (1 : Int32) then (1 : Int32) else (0 : Int32)) → va_P D vwCl (gpW cI cC cS B G) H → va_D A (gpW cI cC cS B G) → va_S A s.heap H locs → ∀ ls, lv_has ls 9 [(0, .ref (B 0 3 0)), (1, .int (nb a1)), (2, .int (r_X4_count G (2 : Int32))), (3, .int ((2 : Int32) * (r_X4_count G (2 : Int32)))), (4, .int (r_X4_count G (6 : Int32))), (5, .int (r_X4_count G (7 : Int32))), (7, .int sd), (8, .int (r_X4_side G sd (8 : Int32)))] → W p l e rm_L_isWell s m args below meth c H locs 0 0 (MQ below (QI D (gpW cI cC cS B (p_L_isWell G a1)) (r_L_isWell G a1) A) args s 0 0 A) (F0 m 199 ls [.int x199_s0]) := by
                        intro x199_s0 H locs ex199_s0 hP hD hS ls hl
                        refine lv_iload hx hb dL_isWell_199 (lv_at hl 7 rfl) ?_
                        refine lv_iload hx hb dL_isWell_201 (lv_at hl 6 rfl) ?_
                        have J_211 : ∀ (x211_s0 : Int32) (H : Heap) (locs : List Loc), x211_s0 = (if sd = (0 : Int32) then (r_X4_count G (2 : Int32)) else (0 : Int32)) → va_P D vwCl (gpW cI cC cS B G) H → va_D A (gpW cI cC cS B G) → va_S A s.heap H locs → ∀ ls, lv_has ls 9 [(0, .ref (B 0 3 0)), (1, .int (nb a1)), (2, .int (r_X4_count G (2 : Int32))), (3, .int ((2 : Int32) * (r_X4_count G (2 : Int32)))), (4, .int (r_X4_count G (6 : Int32))), (5, .int (r_X4_count G (7 : Int32))), (7, .int sd)] → W p l e rm_L_isWell s m args below meth c H locs 0 0 (MQ below (QI D (gpW cI cC cS B (p_L_isWell G a1)) (r_L_isWell G a1) A) args s 0 0 A) (F0 m 211 ls [.int x211_s0, .int (r_X4_side G sd (8 : Int32)), .int x199_s0]) := by
                          intro x211_s0 H locs ex211_s0 hP hD hS ls hl
                          have J_219 : ∀ (x219_s0 : Int32) (H : Heap) (locs : List Loc), x219_s0 = (if (r_X4_side G sd (8 : Int32)) = x211_s0 then (1 : Int32) else (0 : Int32)) → va_P D vwCl (gpW cI cC cS B G) H → va_D A (gpW cI cC cS B G) → va_S A s.heap H locs → ∀ ls, lv_has ls 9 [(0, .ref (B 0 3 0)), (1, .int (nb a1)), (2, .int (r_X4_count G (2 : Int32))), (3, .int ((2 : Int32) * (r_X4_count G (2 : Int32)))), (4, .int (r_X4_count G (6 : Int32))), (5, .int (r_X4_count G (7 : Int32))), (7, .int sd)] → W p l e rm_L_isWell s m args below meth c H locs 0 0 (MQ below (QI D (gpW cI cC cS B (p_L_isWell G a1)) (r_L_isWell G a1) A) args s 0 0 A) (F0 m 219 ls [.int x219_s0, .int x199_s0]) := by
                            intro x219_s0 H locs ex219_s0 hP hD hS ls hl
                            refine lv_icmp_ne (tgt := 263) hx hb dL_isWell_219 (by decide) (fun c219 => ?_) (fun c219 => ?_)
                            · refine lv_iconst (v := (0 : Int32)) hx hb dL_isWell_263 (by decide) ?_
                              exact J_264 (0 : Int32) _ _ (by subst ex219_s0; subst ex211_s0; subst ex199_s0; exact (((((((if_neg c128).trans (if_neg c133)).trans (if_neg c139)).trans (if_neg c149)).trans (if_neg c160)).trans (if_neg c179)).trans (if_neg c219)).symm) hP hD hS ls (lv_sub hl [0, 1, 2, 3, 4, 5, 6] rfl)
                            · refine lv_aload_n hx hb dL_isWell_222 rfl (lv_at hl 0 rfl) ?_
                              refine lv_iload hx hb dL_isWell_223 (lv_at hl 6 rfl) ?_
                              refine lv_iconst (v := (2 : Int32)) hx hb dL_isWell_225 (by decide) ?_
                              refine go1 (va_runV (As := [.int sd, .int (2 : Int32)]) (rest := []) ⟨hx, hb, hml, hown, hts⟩ (c_X4_side l D cI cC cS B G sd (2 : Int32)  _) (cwV 2 hts gL_isWell_X4_side rfl rfl rfl (by decide +kernel) ⟨Nat.le_of_ble_eq_true rfl, Nat.le_of_ble_eq_true rfl⟩) (pre1 hK hP hD) rfl rfl hl.1 rfl (lv_room (Nat.le_of_ble_eq_true rfl)) dL_isWell_226 ⟨Nat.zero_le _, Nat.zero_le _⟩) hP hD hS hA (fun H locs hP hD hS => ?_)
                              refine lv_iconst (v := (1 : Int32)) hx hb dL_isWell_229 (by decide) ?_
                              have J_238 : ∀ (x238_s0 : Int32) (H : Heap) (locs : List Loc), x238_s0 = (if (r_X4_side G sd (2 : Int32)) = (1 : Int32) then (1 : Int32) else (0 : Int32)) → va_P D vwCl (gpW cI cC cS B G) H → va_D A (gpW cI cC cS B G) → va_S A s.heap H locs → ∀ ls, lv_has ls 9 [(0, .ref (B 0 3 0)), (1, .int (nb a1)), (2, .int (r_X4_count G (2 : Int32))), (3, .int ((2 : Int32) * (r_X4_count G (2 : Int32)))), (4, .int (r_X4_count G (6 : Int32))), (5, .int (r_X4_count G (7 : Int32))), (7, .int sd)] → W p l e rm_L_isWell s m args below meth c H locs 0 0 (MQ below (QI D (gpW cI cC cS B (p_L_isWell G a1)) (r_L_isWell G a1) A) args s 0 0 A) (F0 m 238 ls [.int x238_s0]) := by
                                intro x238_s0 H locs ex238_s0 hP hD hS ls hl
                                refine lv_aload_n hx hb dL_isWell_238 rfl (lv_at hl 0 rfl) ?_
                                refine lv_iload hx hb dL_isWell_239 (lv_at hl 6 rfl) ?_
                                refine lv_bipush (v := (11 : Int32)) hx hb dL_isWell_241 (by decide) ?_
                                refine go1 (va_runV (As := [.int sd, .int (11 : Int32)]) (rest := [.int x238_s0]) ⟨hx, hb, hml, hown, hts⟩ (c_X4_side l D cI cC cS B G sd (11 : Int32)  _) (cwV 2 hts gL_isWell_X4_side rfl rfl rfl (by decide +kernel) ⟨Nat.le_of_ble_eq_true rfl, Nat.le_of_ble_eq_true rfl⟩) (pre1 hK hP hD) rfl rfl hl.1 rfl (lv_room (Nat.le_of_ble_eq_true rfl)) dL_isWell_243 ⟨Nat.zero_le _, Nat.zero_le _⟩) hP hD hS hA (fun H locs hP hD hS => ?_)
                                refine lv_bipush (v := (-5 : Int32)) hx hb dL_isWell_246 (by decide) ?_
                                have J_256 : ∀ (x256_s0 : Int32) (H : Heap) (locs : List Loc), x256_s0 = (if (r_X4_side G sd (11 : Int32)) = (-5 : Int32) then (0 : Int32) else (1 : Int32)) → va_P D vwCl (gpW cI cC cS B G) H → va_D A (gpW cI cC cS B G) → va_S A s.heap H locs → ∀ ls, lv_has ls 9 [(0, .ref (B 0 3 0)), (1, .int (nb a1)), (2, .int (r_X4_count G (2 : Int32))), (3, .int ((2 : Int32) * (r_X4_count G (2 : Int32)))), (4, .int (r_X4_count G (6 : Int32))), (5, .int (r_X4_count G (7 : Int32))), (7, .int sd)] → W p l e rm_L_isWell s m args below meth c H locs 0 0 (MQ below (QI D (gpW cI cC cS B (p_L_isWell G a1)) (r_L_isWell G a1) A) args s 0 0 A) (F0 m 256 ls [.int x256_s0, .int x238_s0]) := by
                                  intro x256_s0 H locs ex256_s0 hP hD hS ls hl
                                  refine lv_icmp_ne (tgt := 263) hx hb dL_isWell_256 (by decide) (fun c256 => ?_) (fun c256 => ?_)
                                  · refine lv_iconst (v := (0 : Int32)) hx hb dL_isWell_263 (by decide) ?_
                                    exact J_264 (0 : Int32) _ _ (by subst ex256_s0; subst ex238_s0; subst ex219_s0; subst ex211_s0; subst ex199_s0; exact ((((((((if_neg c128).trans (if_neg c133)).trans (if_neg c139)).trans (if_neg c149)).trans (if_neg c160)).trans (if_neg c179)).trans (if_pos c219)).trans (if_neg c256)).symm) hP hD hS ls (lv_sub hl [0, 1, 2, 3, 4, 5, 6] rfl)
                                  · refine lv_iconst (v := (1 : Int32)) hx hb dL_isWell_259 (by decide) ?_
                                    refine lv_goto (tgt := 264) hx hb dL_isWell_260 (by decide) ?_
                                    exact J_264 (1 : Int32) _ _ (by subst ex256_s0; subst ex238_s0; subst ex219_s0; subst ex211_s0; subst ex199_s0; exact ((((((((if_neg c128).trans (if_neg c133)).trans (if_neg c139)).trans (if_neg c149)).trans (if_neg c160)).trans (if_neg c179)).trans (if_pos c219)).trans (if_pos c256)).symm) hP hD hS ls (lv_sub hl [0, 1, 2, 3, 4, 5, 6] rfl)
                                refine lv_icmp_eq (tgt := 255) hx hb dL_isWell_248 (by decide) (fun c248 => ?_) (fun c248 => ?_)
                                · refine lv_iconst (v := (0 : Int32)) hx hb dL_isWell_255 (by decide) ?_
                                  exact J_256 (0 : Int32) _ _ (if_pos c248).symm hP hD hS ls (lv_sub hl [0, 1, 2, 3, 4, 5, 6] rfl)
                                · refine lv_iconst (v := (1 : Int32)) hx hb dL_isWell_251 (by decide) ?_
                                  refine lv_goto (tgt := 256) hx hb dL_isWell_252 (by decide) ?_
                                  exact J_256 (1 : Int32) _ _ (if_neg c248).symm hP hD hS ls (lv_sub hl [0, 1, 2, 3, 4, 5, 6] rfl)
                              refine lv_icmp_ne (tgt := 237) hx hb dL_isWell_230 (by decide) (fun c230 => ?_) (fun c230 => ?_)
                              · refine lv_iconst (v := (0 : Int32)) hx hb dL_isWell_237 (by decide) ?_
                                exact J_238 (0 : Int32) _ _ (if_neg c230).symm hP hD hS ls (lv_sub hl [0, 1, 2, 3, 4, 5, 6] rfl)
                              · refine lv_iconst (v := (1 : Int32)) hx hb dL_isWell_233 (by decide) ?_
                                refine lv_goto (tgt := 238) hx hb dL_isWell_234 (by decide) ?_
                                exact J_238 (1 : Int32) _ _ (if_pos c230).symm hP hD hS ls (lv_sub hl [0, 1, 2, 3, 4, 5, 6] rfl)
                          refine lv_icmp_ne (tgt := 218) hx hb dL_isWell_211 (by decide) (fun c211 => ?_) (fun c211 => ?_)
                          · refine lv_iconst (v := (0 : Int32)) hx hb dL_isWell_218 (by decide) ?_
                            exact J_219 (0 : Int32) _ _ (if_neg c211).symm hP hD hS ls (lv_sub hl [0, 1, 2, 3, 4, 5, 6] rfl)
                          · refine lv_iconst (v := (1 : Int32)) hx hb dL_isWell_214 (by decide) ?_
                            refine lv_goto (tgt := 219) hx hb dL_isWell_215 (by decide) ?_
                            exact J_219 (1 : Int32) _ _ (if_pos c211).symm hP hD hS ls (lv_sub hl [0, 1, 2, 3, 4, 5, 6] rfl)
                        refine lv_if_ne (tgt := 210) hx hb dL_isWell_203 (by decide) (fun c203 => ?_) (fun c203 => ?_)
                        · refine lv_iconst (v := (0 : Int32)) hx hb dL_isWell_210 (by decide) ?_
                          exact J_211 (0 : Int32) _ _ (if_neg c203).symm hP hD hS ls (lv_sub hl [0, 1, 2, 3, 4, 5, 6] rfl)
                        · refine lv_iload_n hx hb dL_isWell_206 rfl (lv_at hl 2 rfl) ?_
                          refine lv_goto (tgt := 211) hx hb dL_isWell_207 (by decide) ?_
                          exact J_211 (r_X4_count G (2 : Int32)) _ _ (if_pos c203).symm hP hD hS ls (lv_sub hl [0, 1, 2, 3, 4, 5, 6] rfl)
                      refine lv_icmp_ne (tgt := 198) hx hb dL_isWell_191 (by decide) (fun c191 => ?_) (fun c191 => ?_)
                      · refine lv_iconst (v := (0 : Int32)) hx hb dL_isWell_198 (by decide) ?_
                        exact J_199 (0 : Int32) _ _ (if_neg c191).symm hP hD hS ls (lv_sub hl [1, 2, 3, 4, 5, 6, 8, 0] rfl)
                      · refine lv_iconst (v := (1 : Int32)) hx hb dL_isWell_194 (by decide) ?_
                        refine lv_goto (tgt := 199) hx hb dL_isWell_195 (by decide) ?_
                        exact J_199 (1 : Int32) _ _ (if_pos c191).symm hP hD hS ls (lv_sub hl [1, 2, 3, 4, 5, 6, 8, 0] rfl)
    exact L_110 _ x105_s0 (0 : Int32) _ _ (by rw [hnf_110]; exact (cnt_init _ _)) hT110_is hP hD hS ls (lv_sub hl [2, 3, 4, 5, 6, 7, 1, 0] rfl)
  refine lv_icmp_ne (tgt := 104) hx hb dL_isWell_34 (by decide) (fun c34 => ?_) (fun c34 => ?_)
  · refine lv_iconst (v := (0 : Int32)) hx hb dL_isWell_104 (by decide) ?_
    exact J_105 (0 : Int32) _ _ (if_neg c34).symm hP hD hS ls (lv_sub hl [4, 5, 3, 2, 1, 0] rfl)
  · refine lv_aload_n hx hb dL_isWell_37 rfl (lv_at hl 4 rfl) ?_
    refine lv_iconst (v := (0 : Int32)) hx hb dL_isWell_38 (by decide) ?_
    refine lv_iconst (v := (3 : Int32)) hx hb dL_isWell_39 (by decide) ?_
    refine go1 (va_runV (As := [.int (0 : Int32), .int (3 : Int32)]) (rest := []) ⟨hx, hb, hml, hown, hts⟩ (c_X4_side l D cI cC cS B G (0 : Int32) (3 : Int32)  _) (cwV 2 hts gL_isWell_X4_side rfl rfl rfl (by decide +kernel) ⟨Nat.le_of_ble_eq_true rfl, Nat.le_of_ble_eq_true rfl⟩) (pre1 hK hP hD) rfl rfl hl.1 rfl (lv_room (Nat.le_of_ble_eq_true rfl)) dL_isWell_40 ⟨Nat.zero_le _, Nat.zero_le _⟩) hP hD hS hA (fun H locs hP hD hS => ?_)
    refine lv_iload hx hb dL_isWell_43 (lv_at hl 1 rfl) ?_
    refine lv_iload_n hx hb dL_isWell_45 rfl (lv_at hl 2 rfl) ?_
    refine lv_irem hx hb dL_isWell_46 hd ?_
    refine lv_icmp_ne (tgt := 104) hx hb dL_isWell_47 (by decide) (fun c47 => ?_) (fun c47 => ?_)
    · refine lv_iconst (v := (0 : Int32)) hx hb dL_isWell_104 (by decide) ?_
      exact J_105 (0 : Int32) _ _ ((if_pos c34).trans (if_neg c47)).symm hP hD hS ls (lv_sub hl [4, 5, 3, 2, 1, 0] rfl)
    · refine lv_aload_n hx hb dL_isWell_50 rfl (lv_at hl 4 rfl) ?_
      refine lv_iconst (v := (1 : Int32)) hx hb dL_isWell_51 (by decide) ?_
      refine lv_iconst (v := (3 : Int32)) hx hb dL_isWell_52 (by decide) ?_
      refine go1 (va_runV (As := [.int (1 : Int32), .int (3 : Int32)]) (rest := []) ⟨hx, hb, hml, hown, hts⟩ (c_X4_side l D cI cC cS B G (1 : Int32) (3 : Int32)  _) (cwV 2 hts gL_isWell_X4_side rfl rfl rfl (by decide +kernel) ⟨Nat.le_of_ble_eq_true rfl, Nat.le_of_ble_eq_true rfl⟩) (pre1 hK hP hD) rfl rfl hl.1 rfl (lv_room (Nat.le_of_ble_eq_true rfl)) dL_isWell_53 ⟨Nat.zero_le _, Nat.zero_le _⟩) hP hD hS hA (fun H locs hP hD hS => ?_)
      refine lv_iload hx hb dL_isWell_56 (lv_at hl 0 rfl) ?_
      refine lv_iload_n hx hb dL_isWell_58 rfl (lv_at hl 2 rfl) ?_
      refine lv_irem hx hb dL_isWell_59 hd ?_
      refine lv_icmp_ne (tgt := 104) hx hb dL_isWell_60 (by decide) (fun c60 => ?_) (fun c60 => ?_)
      · refine lv_iconst (v := (0 : Int32)) hx hb dL_isWell_104 (by decide) ?_
        exact J_105 (0 : Int32) _ _ (((if_pos c34).trans (if_pos c47)).trans (if_neg c60)).symm hP hD hS ls (lv_sub hl [4, 5, 3, 2, 1, 0] rfl)
      · refine lv_aload_n hx hb dL_isWell_63 rfl (lv_at hl 4 rfl) ?_
        refine lv_bipush (v := (8 : Int32)) hx hb dL_isWell_64 (by decide) ?_
        refine go1 (va_runV (As := [.int (8 : Int32)]) (rest := []) ⟨hx, hb, hml, hown, hts⟩ (c_X4_count l D cI cC cS B G (8 : Int32)  _) (cwV 1 hts gL_isWell_X4_count rfl rfl rfl (by decide +kernel) ⟨Nat.le_of_ble_eq_true rfl, Nat.le_of_ble_eq_true rfl⟩) (pre1 hK hP hD) rfl rfl hl.1 rfl (lv_room (Nat.le_of_ble_eq_true rfl)) dL_isWell_66 ⟨Nat.zero_le _, Nat.zero_le _⟩) hP hD hS hA (fun H locs hP hD hS => ?_)
        refine lv_aload_n hx hb dL_isWell_69 rfl (lv_at hl 4 rfl) ?_
        refine lv_bipush (v := (9 : Int32)) hx hb dL_isWell_70 (by decide) ?_
        refine go1 (va_runV (As := [.int (9 : Int32)]) (rest := [.int (r_X4_count G (8 : Int32))]) ⟨hx, hb, hml, hown, hts⟩ (c_X4_count l D cI cC cS B G (9 : Int32)  _) (cwV 1 hts gL_isWell_X4_count rfl rfl rfl (by decide +kernel) ⟨Nat.le_of_ble_eq_true rfl, Nat.le_of_ble_eq_true rfl⟩) (pre1 hK hP hD) rfl rfl hl.1 rfl (lv_room (Nat.le_of_ble_eq_true rfl)) dL_isWell_72 ⟨Nat.zero_le _, Nat.zero_le _⟩) hP hD hS hA (fun H locs hP hD hS => ?_)
        refine lv_iadd hx hb dL_isWell_75 ?_
        refine lv_iload hx hb dL_isWell_76 (lv_at hl 0 rfl) ?_
        refine lv_icmp_ne (tgt := 104) hx hb dL_isWell_78 (by decide) (fun c78 => ?_) (fun c78 => ?_)
        · refine lv_iconst (v := (0 : Int32)) hx hb dL_isWell_104 (by decide) ?_
          exact J_105 (0 : Int32) _ _ ((((if_pos c34).trans (if_pos c47)).trans (if_pos c60)).trans (if_neg c78)).symm hP hD hS ls (lv_sub hl [4, 5, 3, 2, 1, 0] rfl)
        · refine lv_aload_n hx hb dL_isWell_81 rfl (lv_at hl 4 rfl) ?_
          refine lv_iconst (v := (4 : Int32)) hx hb dL_isWell_82 (by decide) ?_
          refine go1 (va_runV (As := [.int (4 : Int32)]) (rest := []) ⟨hx, hb, hml, hown, hts⟩ (c_X4_count l D cI cC cS B G (4 : Int32)  _) (cwV 1 hts gL_isWell_X4_count rfl rfl rfl (by decide +kernel) ⟨Nat.le_of_ble_eq_true rfl, Nat.le_of_ble_eq_true rfl⟩) (pre1 hK hP hD) rfl rfl hl.1 rfl (lv_room (Nat.le_of_ble_eq_true rfl)) dL_isWell_83 ⟨Nat.zero_le _, Nat.zero_le _⟩) hP hD hS hA (fun H locs hP hD hS => ?_)
          refine lv_iload hx hb dL_isWell_86 (lv_at hl 1 rfl) ?_
          refine lv_iload hx hb dL_isWell_88 (lv_at hl 0 rfl) ?_
          refine lv_isub hx hb dL_isWell_90 ?_
          refine lv_iload_n hx hb dL_isWell_91 rfl (lv_at hl 2 rfl) ?_
          refine lv_irem hx hb dL_isWell_92 hd ?_
          refine lv_iload_n hx hb dL_isWell_93 rfl (lv_at hl 2 rfl) ?_
          refine lv_iadd hx hb dL_isWell_94 ?_
          refine lv_iload_n hx hb dL_isWell_95 rfl (lv_at hl 2 rfl) ?_
          refine lv_irem hx hb dL_isWell_96 hd ?_
          refine lv_icmp_ne (tgt := 104) hx hb dL_isWell_97 (by decide) (fun c97 => ?_) (fun c97 => ?_)
          · refine lv_iconst (v := (0 : Int32)) hx hb dL_isWell_104 (by decide) ?_
            exact J_105 (0 : Int32) _ _ (((((if_pos c34).trans (if_pos c47)).trans (if_pos c60)).trans (if_pos c78)).trans (if_neg c97)).symm hP hD hS ls (lv_sub hl [4, 5, 3, 2, 1, 0] rfl)
          · refine lv_iconst (v := (1 : Int32)) hx hb dL_isWell_100 (by decide) ?_
            refine lv_goto (tgt := 105) hx hb dL_isWell_101 (by decide) ?_
            exact J_105 (1 : Int32) _ _ (((((if_pos c34).trans (if_pos c47)).trans (if_pos c60)).trans (if_pos c78)).trans (if_pos c97)).symm hP hD hS ls (lv_sub hl [4, 5, 3, 2, 1, 0] rfl)
