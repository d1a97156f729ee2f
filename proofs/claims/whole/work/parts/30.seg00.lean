set_option maxRecDepth 20000 in
theorem gX0_askOf_0 {xs : List Int} {d : Nat} {M : z_M} {P : Option z_V → z_L → z_M → Prop} {a1 : Int} {a2 : Int} {a3 : Int} {a4 : Int} 
    (l1 : P none z_LL (z_up (z_up (z_up (z_up M 38 4 a1) 38 5 a2) 38 6 a3) 38 7 a4)) :
    wp xs d mX0_askOf 0 [(2, 38), (0, a1), (0, a2), (0, a3), (0, a4)] [] z_LL M P := by
  refine wp_run 2 (pc' := 2) (ls' := [(2, 38), (0, a1), (0, a2), (0, a3), (0, a4)]) (st' := [(0, a1), (2, 38)]) rfl ?_
  refine wp_pf (pc' := 5) rfl rfl rfl rfl (fun z => absurd z (by decide)) (fun z => absurd z (by decide)) ?_
  refine wp_run 2 (pc' := 7) (ls' := [(2, 38), (0, a1), (0, a2), (0, a3), (0, a4)]) (st' := [(0, a2), (2, 38)]) rfl ?_
  refine wp_pf (pc' := 10) rfl rfl rfl rfl (fun z => absurd z (by decide)) (fun z => absurd z (by decide)) ?_
  refine wp_run 2 (pc' := 12) (ls' := [(2, 38), (0, a1), (0, a2), (0, a3), (0, a4)]) (st' := [(0, a3), (2, 38)]) rfl ?_
  refine wp_pf (pc' := 15) rfl rfl rfl rfl (fun z => absurd z (by decide)) (fun z => absurd z (by decide)) ?_
  refine wp_run 2 (pc' := 18) (ls' := [(2, 38), (0, a1), (0, a2), (0, a3), (0, a4)]) (st' := [(0, a4), (2, 38)]) rfl ?_
  refine wp_pf (pc' := 21) rfl rfl rfl rfl (fun z => absurd z (by decide)) (fun z => absurd z (by decide)) ?_
  exact wp_ret rfl rfl (l1)
set_option maxRecDepth 20000 in
theorem gX0_behind_0 {xs : List Int} {d : Nat} {M : z_M} {P : Option z_V → z_L → z_M → Prop} {a1 : Int} {a2 : Int} (hF : z_fix M) (ha1 : z_her M a1) (hn1 : a1 ≠ 39)
    (l1 : wp xs (d + 1) mX0_behind 10 [(2, 38), (2, a1), (0, a2), (0, 0)] [] z_LL (z_up (z_up (z_up (z_cpy (z_cpy (z_cpy (z_cpy (z_cpy M (a1 + 1) 0 40 0 6) (a1 + 2) 0 41 0 6) (a1 + 3) 0 42 0 25) (a1 + 4) 0 43 0 25) (a1 + 5) 0 44 0 36) 39 5 (M a1 5)) 39 6 (M a1 6)) 39 7 (M a1 7)) P) :
    wp xs (d + 1) mX0_behind 0 [(2, 38), (2, a1), (0, a2), (3, 0)] [] z_LL M P := by
  refine wp_run 1 (pc' := 1) (ls' := [(2, 38), (2, a1), (0, a2), (3, 0)]) (st' := [(2, 38)]) rfl ?_
  refine wp_gf (pc' := 4) (t := 2) (v := 39) rfl rfl (by decide) rfl rfl (fx_38_1 hF) ?_
  refine wp_run 1 (pc' := 5) (ls' := [(2, 38), (2, a1), (0, a2), (3, 0)]) (st' := [(2, a1), (2, 39)]) rfl ?_
  refine wp_callv (pc' := 8) (as := [(2, 39), (2, a1)]) (rest := []) (ls1 := [(2, 39), (2, a1)]) rfl rfl rfl rfl rfl rfl ?_
  refine wp_run 1 (pc' := 1) (ls' := [(2, 39), (2, a1)]) (st' := [(2, a1)]) rfl ?_
  refine wp_gf (pc' := 4) (t := 2) (v := (a1 + 1)) rfl rfl (by decide) rfl (z_hl0 ha1) (z_hf0 ha1) ?_
  refine wp_run 2 (pc' := 6) (ls' := [(2, 39), (2, a1)]) (st' := [(2, 39), (0, 0), (2, (a1 + 1))]) rfl ?_
  refine wp_gf (pc' := 9) (t := 2) (v := 40) rfl rfl (by decide) rfl rfl (fx_39_0 hF) ?_
  refine wp_run 2 (pc' := 12) (ls' := [(2, 39), (2, a1)]) (st' := [(0, 6), (0, 0), (2, 40), (0, 0), (2, (a1 + 1))]) rfl ?_
  refine wp_acp (pc' := 15) rfl rfl (z_hl1 ha1) rfl (by decide) ?_
  refine wp_run 1 (pc' := 16) (ls' := [(2, 39), (2, a1)]) (st' := [(2, a1)]) rfl ?_
  refine wp_gf (pc' := 19) (t := 2) (v := (a1 + 2)) rfl rfl (by decide) rfl (z_hl0 ha1) (z_cpq (by have := z_hr ha1; omega) (z_hf1 ha1)) ?_
  refine wp_run 2 (pc' := 21) (ls' := [(2, 39), (2, a1)]) (st' := [(2, 39), (0, 0), (2, (a1 + 2))]) rfl ?_
  refine wp_gf (pc' := 24) (t := 2) (v := 41) rfl rfl (by decide) rfl rfl (z_cpq (by decide) (fx_39_1 hF)) ?_
  refine wp_run 2 (pc' := 27) (ls' := [(2, 39), (2, a1)]) (st' := [(0, 6), (0, 0), (2, 41), (0, 0), (2, (a1 + 2))]) rfl ?_
  refine wp_acp (pc' := 30) rfl rfl (z_hl2 ha1) rfl (by decide) ?_
  refine wp_run 1 (pc' := 31) (ls' := [(2, 39), (2, a1)]) (st' := [(2, a1)]) rfl ?_
  refine wp_gf (pc' := 34) (t := 2) (v := (a1 + 3)) rfl rfl (by decide) rfl (z_hl0 ha1) (z_cpq (by have := z_hr ha1; omega) (z_cpq (by have := z_hr ha1; omega) (z_hf2 ha1))) ?_
  refine wp_run 2 (pc' := 36) (ls' := [(2, 39), (2, a1)]) (st' := [(2, 39), (0, 0), (2, (a1 + 3))]) rfl ?_
  refine wp_gf (pc' := 39) (t := 2) (v := 42) rfl rfl (by decide) rfl rfl (z_cpq (by decide) (z_cpq (by decide) (fx_39_2 hF))) ?_
  refine wp_run 2 (pc' := 42) (ls' := [(2, 39), (2, a1)]) (st' := [(0, 25), (0, 0), (2, 42), (0, 0), (2, (a1 + 3))]) rfl ?_
  refine wp_acp (pc' := 45) rfl rfl (z_hl3 ha1) rfl (by decide) ?_
  refine wp_run 1 (pc' := 46) (ls' := [(2, 39), (2, a1)]) (st' := [(2, a1)]) rfl ?_
  refine wp_gf (pc' := 49) (t := 2) (v := (a1 + 4)) rfl rfl (by decide) rfl (z_hl0 ha1) (z_cpq (by have := z_hr ha1; omega) (z_cpq (by have := z_hr ha1; omega) (z_cpq (by have := z_hr ha1; omega) (z_hf3 ha1)))) ?_
  refine wp_run 2 (pc' := 51) (ls' := [(2, 39), (2, a1)]) (st' := [(2, 39), (0, 0), (2, (a1 + 4))]) rfl ?_
  refine wp_gf (pc' := 54) (t := 2) (v := 43) rfl rfl (by decide) rfl rfl (z_cpq (by decide) (z_cpq (by decide) (z_cpq (by decide) (fx_39_3 hF)))) ?_
  refine wp_run 2 (pc' := 57) (ls' := [(2, 39), (2, a1)]) (st' := [(0, 25), (0, 0), (2, 43), (0, 0), (2, (a1 + 4))]) rfl ?_
  refine wp_acp (pc' := 60) rfl rfl (z_hl4 ha1) rfl (by decide) ?_
  refine wp_run 1 (pc' := 61) (ls' := [(2, 39), (2, a1)]) (st' := [(2, a1)]) rfl ?_
  refine wp_gf (pc' := 64) (t := 2) (v := (a1 + 5)) rfl rfl (by decide) rfl (z_hl0 ha1) (z_cpq (by have := z_hr ha1; omega) (z_cpq (by have := z_hr ha1; omega) (z_cpq (by have := z_hr ha1; omega) (z_cpq (by have := z_hr ha1; omega) (z_hf4 ha1))))) ?_
  refine wp_run 2 (pc' := 66) (ls' := [(2, 39), (2, a1)]) (st' := [(2, 39), (0, 0), (2, (a1 + 5))]) rfl ?_
  refine wp_gf (pc' := 69) (t := 2) (v := 44) rfl rfl (by decide) rfl rfl (z_cpq (by decide) (z_cpq (by decide) (z_cpq (by decide) (z_cpq (by decide) (fx_39_4 hF))))) ?_
  refine wp_run 2 (pc' := 71) (ls' := [(2, 39), (2, a1)]) (st' := [(2, 39), (0, 0), (2, 44), (0, 0), (2, (a1 + 5))]) rfl ?_
  refine wp_gf (pc' := 74) (t := 2) (v := 44) rfl rfl (by decide) rfl rfl (z_cpq (by decide) (z_cpq (by decide) (z_cpq (by decide) (z_cpq (by decide) (fx_39_4 hF))))) ?_
  refine wp_len (pc' := 75) rfl rfl rfl (by decide) ?_
  refine wp_acp (pc' := 78) rfl rfl (z_hl5 ha1) rfl (by decide) ?_
  refine wp_run 2 (pc' := 80) (ls' := [(2, 39), (2, a1)]) (st' := [(2, a1), (2, 39)]) rfl ?_
  refine wp_gf (pc' := 83) (t := 0) (v := (M a1 5)) rfl rfl (by decide) rfl (z_hl0 ha1) (z_cpq (by have := z_hr ha1; omega) (z_cpq (by have := z_hr ha1; omega) (z_cpq (by have := z_hr ha1; omega) (z_cpq (by have := z_hr ha1; omega) (z_cpq (by have := z_hr ha1; omega) rfl))))) ?_
  refine wp_pf (pc' := 86) rfl rfl rfl rfl (fun z => absurd z (by decide)) (fun z => absurd z (by decide)) ?_
  refine wp_run 2 (pc' := 88) (ls' := [(2, 39), (2, a1)]) (st' := [(2, a1), (2, 39)]) rfl ?_
  refine wp_gf (pc' := 91) (t := 0) (v := (M a1 6)) rfl rfl (by decide) rfl (z_hl0 ha1) (z_upq (by have := z_hr ha1; omega) (z_cpq (by have := z_hr ha1; omega) (z_cpq (by have := z_hr ha1; omega) (z_cpq (by have := z_hr ha1; omega) (z_cpq (by have := z_hr ha1; omega) (z_cpq (by have := z_hr ha1; omega) rfl)))))) ?_
  refine wp_pf (pc' := 94) rfl rfl rfl rfl (fun z => absurd z (by decide)) (fun z => absurd z (by decide)) ?_
  refine wp_run 2 (pc' := 96) (ls' := [(2, 39), (2, a1)]) (st' := [(2, a1), (2, 39)]) rfl ?_
  refine wp_gf (pc' := 99) (t := 0) (v := (M a1 7)) rfl rfl (by decide) rfl (z_hl0 ha1) (z_upq (by have := z_hr ha1; omega) (z_upq (by have := z_hr ha1; omega) (z_cpq (by have := z_hr ha1; omega) (z_cpq (by have := z_hr ha1; omega) (z_cpq (by have := z_hr ha1; omega) (z_cpq (by have := z_hr ha1; omega) (z_cpq (by have := z_hr ha1; omega) rfl))))))) ?_
  refine wp_pf (pc' := 102) rfl rfl rfl rfl (fun z => absurd z (by decide)) (fun z => absurd z (by decide)) ?_
  refine wp_ret rfl rfl ?_
  show wp xs _ mX0_behind 8 [(2, 38), (2, a1), (0, a2), (3, 0)] [] z_LL (z_up (z_up (z_up (z_cpy (z_cpy (z_cpy (z_cpy (z_cpy M (a1 + 1) 0 40 0 6) (a1 + 2) 0 41 0 6) (a1 + 3) 0 42 0 25) (a1 + 4) 0 43 0 25) (a1 + 5) 0 44 0 36) 39 5 (M a1 5)) 39 6 (M a1 6)) 39 7 (M a1 7)) _
  refine wp_run 2 (pc' := 10) (ls' := [(2, 38), (2, a1), (0, a2), (0, 0)]) (st' := []) rfl ?_
  exact l1
set_option maxRecDepth 20000 in
theorem gX0_behind_10 {xs : List Int} {d : Nat} {M : z_M} {P : Option z_V → z_L → z_M → Prop} {x1 : Int} {x2 : Int} {x3 : Int} (hF : z_fix M) (hx1 : z_her M x1) (hg2 : z_gor M (M 34 3))
    (l1 : (x2 ≤ x3) → P (some (2, 39)) z_LL M)
    (l2 : (¬ (x2 ≤ x3)) → wp xs d mX8_pass 0 [(2, 34), (2, 39), (0, (M (M 34 3) 18)), (3, 0)] [] z_LL M (fun r L1 M1 => wp xs (d + 1) mX0_behind 36 [(2, 38), (2, x1), (0, x2), (0, x3)] (z_ol r ++ []) L1 M1 P)) :
    wp xs (d + 1) mX0_behind 10 [(2, 38), (2, x1), (0, x2), (0, x3)] [] z_LL M P := by
  refine wp_run 2 (pc' := 12) (ls' := [(2, 38), (2, x1), (0, x2), (0, x3)]) (st' := [(0, x2), (0, x3)]) rfl ?_
  refine wp_if2 rfl rfl rfl (fun (c1 : x2 ≤ x3) => ?_) (fun (c1 : ¬ (x2 ≤ x3)) => ?_)
  · refine wp_run 1 (pc' := 44) (ls' := [(2, 38), (2, x1), (0, x2), (0, x3)]) (st' := [(2, 38)]) rfl ?_
    refine wp_gf (pc' := 47) (t := 2) (v := 39) rfl rfl (by decide) rfl rfl (fx_38_1 hF) ?_
    exact wp_ret rfl rfl (l1 c1)
  · refine wp_run 1 (pc' := 16) (ls' := [(2, 38), (2, x1), (0, x2), (0, x3)]) (st' := [(2, 38)]) rfl ?_
    refine wp_gf (pc' := 19) (t := 2) (v := 34) rfl rfl (by decide) rfl rfl (fx_38_0 hF) ?_
    refine wp_run 1 (pc' := 20) (ls' := [(2, 38), (2, x1), (0, x2), (0, x3)]) (st' := [(2, 38), (2, 34)]) rfl ?_
    refine wp_gf (pc' := 23) (t := 2) (v := 39) rfl rfl (by decide) rfl rfl (fx_38_1 hF) ?_
    refine wp_run 1 (pc' := 24) (ls' := [(2, 38), (2, x1), (0, x2), (0, x3)]) (st' := [(2, 38), (2, 39), (2, 34)]) rfl ?_
    refine wp_gf (pc' := 27) (t := 2) (v := 34) rfl rfl (by decide) rfl rfl (fx_38_0 hF) ?_
    refine wp_gf (pc' := 30) (t := 2) (v := (M 34 3)) rfl rfl (by decide) rfl rfl rfl ?_
    refine wp_gf (pc' := 33) (t := 0) (v := (M (M 34 3) 18)) rfl rfl (by decide) rfl (z_gl0 hg2) rfl ?_
    refine wp_callv (pc' := 36) (as := [(2, 34), (2, 39), (0, (M (M 34 3) 18))]) (rest := []) (ls1 := [(2, 34), (2, 39), (0, (M (M 34 3) 18)), (3, 0)]) rfl rfl rfl rfl rfl rfl ?_
    exact l2 c1
set_option maxRecDepth 20000 in
theorem gX0_behind_36 {xs : List Int} {d : Nat} {M : z_M} {P : Option z_V → z_L → z_M → Prop} {x1 : Int} {x2 : Int} {x3 : Int} {s0 : Int} (hx1 : z_her M x1)
    (l1 : wp xs d mX0_behind 10 [(2, 38), (2, x1), (0, x2), (0, (z_w (x3 + 1)))] [] z_LL M P) :
    wp xs d mX0_behind 36 [(2, 38), (2, x1), (0, x2), (0, x3)] [(0, s0)] z_LL M P := by
  refine wp_run 3 (pc' := 10) (ls' := [(2, 38), (2, x1), (0, x2), (0, (z_w (x3 + 1)))]) (st' := []) rfl ?_
  exact l1
set_option maxRecDepth 20000 in
theorem gX0_bestDrive_0 {xs : List Int} {d : Nat} {M : z_M} {P : Option z_V → z_L → z_M → Prop} {a1 : Int} (ha1 : z_her M a1)
    (b1 : 0 ≤ (M 38 4) ∧ (M 38 4) < 6)
    (l1 : wp xs d mX0_mixesFrom 0 [(2, 38), (2, a1), (0, (M (a1 + 1) (M 38 4))), (3, 0)] [] z_LL M (fun r L1 M1 => wp xs (d + 1) mX0_bestDrive 19 [(2, 38), (2, a1), (0, (M (a1 + 1) (M 38 4))), (0, (M (a1 + 1) (M 38 4))), (3, 0), (3, 0), (3, 0)] (z_ol r ++ [(2, 38)]) L1 M1 P)) :
    wp xs (d + 1) mX0_bestDrive 0 [(2, 38), (2, a1), (3, 0), (3, 0), (3, 0), (3, 0), (3, 0)] [] z_LL M P := by
  refine wp_run 1 (pc' := 1) (ls' := [(2, 38), (2, a1), (3, 0), (3, 0), (3, 0), (3, 0), (3, 0)]) (st' := [(2, a1)]) rfl ?_
  refine wp_gf (pc' := 4) (t := 2) (v := (a1 + 1)) rfl rfl (by decide) rfl (z_hl0 ha1) (z_hf0 ha1) ?_
  refine wp_run 1 (pc' := 5) (ls' := [(2, 38), (2, a1), (3, 0), (3, 0), (3, 0), (3, 0), (3, 0)]) (st' := [(2, 38), (2, (a1 + 1))]) rfl ?_
  refine wp_gf (pc' := 8) (t := 0) (v := (M 38 4)) rfl rfl (by decide) rfl rfl rfl ?_
  refine wp_iald (pc' := 9) (v := (M (a1 + 1) (M 38 4))) rfl rfl (z_hl1 ha1) (b1) rfl ?_
  refine wp_run 7 (pc' := 16) (ls' := [(2, 38), (2, a1), (0, (M (a1 + 1) (M 38 4))), (0, (M (a1 + 1) (M 38 4))), (3, 0), (3, 0), (3, 0)]) (st' := [(0, (M (a1 + 1) (M 38 4))), (2, a1), (2, 38), (2, 38)]) rfl ?_
  refine wp_callv (pc' := 19) (as := [(2, 38), (2, a1), (0, (M (a1 + 1) (M 38 4)))]) (rest := [(2, 38)]) (ls1 := [(2, 38), (2, a1), (0, (M (a1 + 1) (M 38 4))), (3, 0)]) rfl rfl rfl rfl rfl rfl ?_
  exact l1
set_option maxRecDepth 20000 in
theorem gX0_bestDrive_19 {xs : List Int} {d : Nat} {M : z_M} {P : Option z_V → z_L → z_M → Prop} {x1 : Int} {x2 : Int} {x3 : Int} {s1 : Int} (hx1 : z_her M x1)
    (l1 : wp xs d mX0_bestDrive 25 [(2, 38), (2, x1), (0, x2), (0, x3), (0, 0), (3, 0), (3, 0)] [] z_LL (z_up M 38 8 s1) P) :
    wp xs d mX0_bestDrive 19 [(2, 38), (2, x1), (0, x2), (0, x3), (3, 0), (3, 0), (3, 0)] [(0, s1), (2, 38)] z_LL M P := by
  refine wp_pf (pc' := 22) rfl rfl rfl rfl (fun z => absurd z (by decide)) (fun z => absurd z (by decide)) ?_
  refine wp_run 2 (pc' := 25) (ls' := [(2, 38), (2, x1), (0, x2), (0, x3), (0, 0), (3, 0), (3, 0)]) (st' := []) rfl ?_
  exact l1
set_option maxRecDepth 20000 in
theorem gX0_bestDrive_25 {xs : List Int} {d : Nat} {M : z_M} {P : Option z_V → z_L → z_M → Prop} {x1 : Int} {x2 : Int} {x3 : Int} {x4 : Int} {w5 : z_V} {w6 : z_V} (hF : z_fix M) (hx1 : z_her M x1) (hg2 : z_gor M (M 34 3))
    (l1 : (4 ≤ x4) → P (some (0, x3)) z_LL M)
    (b1 : (¬ (4 ≤ x4)) → 0 ≤ (z_w ((z_w (x2 * 4)) + x4)) ∧ (z_w ((z_w (x2 * 4)) + x4)) < 100)
    (l2 : (¬ (4 ≤ x4)) → ((M ((M 34 3) + 9) (z_w ((z_w (x2 * 4)) + x4))) ≠ (-1)) → wp xs d mX0_mixesFrom 0 [(2, 38), (2, x1), (0, (M ((M 34 3) + 9) (z_w ((z_w (x2 * 4)) + x4)))), (3, 0)] [] z_LL M (fun r L1 M1 => wp xs (d + 1) mX0_bestDrive 67 [(2, 38), (2, x1), (0, x2), (0, x3), (0, x4), (0, (M ((M 34 3) + 9) (z_w ((z_w (x2 * 4)) + x4)))), w6] (z_ol r ++ []) L1 M1 P))
    (l3 : (¬ (4 ≤ x4)) → (¬ ((M ((M 34 3) + 9) (z_w ((z_w (x2 * 4)) + x4))) ≠ (-1))) → ((-1) ≤ (M 38 8)) → wp xs (d + 1) mX0_bestDrive 25 [(2, 38), (2, x1), (0, x2), (0, x3), (0, (z_w (x4 + 1))), (0, (M ((M 34 3) + 9) (z_w ((z_w (x2 * 4)) + x4)))), (0, (-1))] [] z_LL M P)
    (l4 : (¬ (4 ≤ x4)) → (¬ ((M ((M 34 3) + 9) (z_w ((z_w (x2 * 4)) + x4))) ≠ (-1))) → (¬ ((-1) ≤ (M 38 8))) → wp xs (d + 1) mX0_bestDrive 25 [(2, 38), (2, x1), (0, x2), (0, (M ((M 34 3) + 9) (z_w ((z_w (x2 * 4)) + x4)))), (0, (z_w (x4 + 1))), (0, (M ((M 34 3) + 9) (z_w ((z_w (x2 * 4)) + x4)))), (0, (-1))] [] z_LL (z_up M 38 8 (-1)) P) :
    wp xs (d + 1) mX0_bestDrive 25 [(2, 38), (2, x1), (0, x2), (0, x3), (0, x4), w5, w6] [] z_LL M P := by
  refine wp_run 2 (pc' := 28) (ls' := [(2, 38), (2, x1), (0, x2), (0, x3), (0, x4), w5, w6]) (st' := [(0, 4), (0, x4)]) rfl ?_
  refine wp_if2 rfl rfl rfl (fun (c1 : 4 ≤ x4) => ?_) (fun (c1 : ¬ (4 ≤ x4)) => ?_)
  · refine wp_run 1 (pc' := 94) (ls' := [(2, 38), (2, x1), (0, x2), (0, x3), (0, x4), w5, w6]) (st' := [(0, x3)]) rfl ?_
    exact wp_ret rfl rfl (l1 c1)
  · refine wp_run 1 (pc' := 32) (ls' := [(2, 38), (2, x1), (0, x2), (0, x3), (0, x4), w5, w6]) (st' := [(2, 38)]) rfl ?_
    refine wp_gf (pc' := 35) (t := 2) (v := 34) rfl rfl (by decide) rfl rfl (fx_38_0 hF) ?_
    refine wp_gf (pc' := 38) (t := 2) (v := (M 34 3)) rfl rfl (by decide) rfl rfl rfl ?_
    refine wp_gf (pc' := 41) (t := 2) (v := ((M 34 3) + 9)) rfl rfl (by decide) rfl (z_gl0 hg2) (z_gf8 hg2) ?_
    refine wp_run 5 (pc' := 47) (ls' := [(2, 38), (2, x1), (0, x2), (0, x3), (0, x4), w5, w6]) (st' := [(0, (z_w ((z_w (x2 * 4)) + x4))), (2, ((M 34 3) + 9))]) rfl ?_
    refine wp_iald (pc' := 48) (v := (M ((M 34 3) + 9) (z_w ((z_w (x2 * 4)) + x4)))) rfl rfl (z_gl9 hg2) (b1 c1) rfl ?_
    refine wp_run 3 (pc' := 53) (ls' := [(2, 38), (2, x1), (0, x2), (0, x3), (0, x4), (0, (M ((M 34 3) + 9) (z_w ((z_w (x2 * 4)) + x4)))), w6]) (st' := [(0, (-1)), (0, (M ((M 34 3) + 9) (z_w ((z_w (x2 * 4)) + x4))))]) rfl ?_
    refine wp_if2 rfl rfl rfl (fun (c2 : (M ((M 34 3) + 9) (z_w ((z_w (x2 * 4)) + x4))) ≠ (-1)) => ?_) (fun (c2 : ¬ ((M ((M 34 3) + 9) (z_w ((z_w (x2 * 4)) + x4))) ≠ (-1))) => ?_)
    · refine wp_run 3 (pc' := 64) (ls' := [(2, 38), (2, x1), (0, x2), (0, x3), (0, x4), (0, (M ((M 34 3) + 9) (z_w ((z_w (x2 * 4)) + x4)))), w6]) (st' := [(0, (M ((M 34 3) + 9) (z_w ((z_w (x2 * 4)) + x4)))), (2, x1), (2, 38)]) rfl ?_
      refine wp_callv (pc' := 67) (as := [(2, 38), (2, x1), (0, (M ((M 34 3) + 9) (z_w ((z_w (x2 * 4)) + x4))))]) (rest := []) (ls1 := [(2, 38), (2, x1), (0, (M ((M 34 3) + 9) (z_w ((z_w (x2 * 4)) + x4)))), (3, 0)]) rfl rfl rfl rfl rfl rfl ?_
      exact l2 c1 c2
    · refine wp_run 5 (pc' := 72) (ls' := [(2, 38), (2, x1), (0, x2), (0, x3), (0, x4), (0, (M ((M 34 3) + 9) (z_w ((z_w (x2 * 4)) + x4)))), (0, (-1))]) (st' := [(2, 38), (0, (-1))]) rfl ?_
      refine wp_gf (pc' := 75) (t := 0) (v := (M 38 8)) rfl rfl (by decide) rfl rfl rfl ?_
      refine wp_if2 rfl rfl rfl (fun (c3 : (-1) ≤ (M 38 8)) => ?_) (fun (c3 : ¬ ((-1) ≤ (M 38 8))) => ?_)
      · refine wp_run 2 (pc' := 25) (ls' := [(2, 38), (2, x1), (0, x2), (0, x3), (0, (z_w (x4 + 1))), (0, (M ((M 34 3) + 9) (z_w ((z_w (x2 * 4)) + x4)))), (0, (-1))]) (st' := []) rfl ?_
        exact l3 c1 c2 c3
      · refine wp_run 2 (pc' := 81) (ls' := [(2, 38), (2, x1), (0, x2), (0, x3), (0, x4), (0, (M ((M 34 3) + 9) (z_w ((z_w (x2 * 4)) + x4)))), (0, (-1))]) (st' := [(0, (-1)), (2, 38)]) rfl ?_
        refine wp_pf (pc' := 84) rfl rfl rfl rfl (fun z => absurd z (by decide)) (fun z => absurd z (by decide)) ?_
        refine wp_run 4 (pc' := 25) (ls' := [(2, 38), (2, x1), (0, x2), (0, (M ((M 34 3) + 9) (z_w ((z_w (x2 * 4)) + x4)))), (0, (z_w (x4 + 1))), (0, (M ((M 34 3) + 9) (z_w ((z_w (x2 * 4)) + x4)))), (0, (-1))]) (st' := []) rfl ?_
        exact l4 c1 c2 c3
set_option maxRecDepth 20000 in
theorem gX0_bestDrive_67 {xs : List Int} {d : Nat} {M : z_M} {P : Option z_V → z_L → z_M → Prop} {x1 : Int} {x2 : Int} {x3 : Int} {x4 : Int} {x5 : Int} {w6 : z_V} {s0 : Int} (hx1 : z_her M x1)
    (l1 : (s0 ≤ (M 38 8)) → wp xs d mX0_bestDrive 25 [(2, 38), (2, x1), (0, x2), (0, x3), (0, (z_w (x4 + 1))), (0, x5), (0, s0)] [] z_LL M P)
    (l2 : (¬ (s0 ≤ (M 38 8))) → wp xs d mX0_bestDrive 25 [(2, 38), (2, x1), (0, x2), (0, x5), (0, (z_w (x4 + 1))), (0, x5), (0, s0)] [] z_LL (z_up M 38 8 s0) P) :
    wp xs d mX0_bestDrive 67 [(2, 38), (2, x1), (0, x2), (0, x3), (0, x4), (0, x5), w6] [(0, s0)] z_LL M P := by
  refine wp_run 3 (pc' := 72) (ls' := [(2, 38), (2, x1), (0, x2), (0, x3), (0, x4), (0, x5), (0, s0)]) (st' := [(2, 38), (0, s0)]) rfl ?_
  refine wp_gf (pc' := 75) (t := 0) (v := (M 38 8)) rfl rfl (by decide) rfl rfl rfl ?_
  refine wp_if2 rfl rfl rfl (fun (c1 : s0 ≤ (M 38 8)) => ?_) (fun (c1 : ¬ (s0 ≤ (M 38 8))) => ?_)
  · refine wp_run 2 (pc' := 25) (ls' := [(2, 38), (2, x1), (0, x2), (0, x3), (0, (z_w (x4 + 1))), (0, x5), (0, s0)]) (st' := []) rfl ?_
    exact l1 c1
  · refine wp_run 2 (pc' := 81) (ls' := [(2, 38), (2, x1), (0, x2), (0, x3), (0, x4), (0, x5), (0, s0)]) (st' := [(0, s0), (2, 38)]) rfl ?_
    refine wp_pf (pc' := 84) rfl rfl rfl rfl (fun z => absurd z (by decide)) (fun z => absurd z (by decide)) ?_
    refine wp_run 4 (pc' := 25) (ls' := [(2, 38), (2, x1), (0, x2), (0, x5), (0, (z_w (x4 + 1))), (0, x5), (0, s0)]) (st' := []) rfl ?_
    exact l2 c1
set_option maxRecDepth 20000 in
theorem gX0_countWhere_0 {xs : List Int} {d : Nat} {M : z_M} {P : Option z_V → z_L → z_M → Prop} {a1 : Int} {a2 : Int} {a3 : Int} (hF : z_fix M) (ha1 : z_her M a1) (hn1 : a1 ≠ 39)
    (b1 : 0 ≤ a2 ∧ a2 < 25)
    (l1 : wp xs (d + 1) mX0_countWhere 22 [(2, 38), (2, a1), (0, a2), (0, a3), (0, 0)] [] z_LL (z_up (z_up (z_up (z_up (z_cpy (z_cpy (z_cpy (z_cpy (z_cpy M (a1 + 1) 0 40 0 6) (a1 + 2) 0 41 0 6) (a1 + 3) 0 42 0 25) (a1 + 4) 0 43 0 25) (a1 + 5) 0 44 0 36) 39 5 (M a1 5)) 39 6 (M a1 6)) 39 7 (M a1 7)) 43 a2 9) P) :
    wp xs (d + 1) mX0_countWhere 0 [(2, 38), (2, a1), (0, a2), (0, a3), (3, 0)] [] z_LL M P := by
  refine wp_run 1 (pc' := 1) (ls' := [(2, 38), (2, a1), (0, a2), (0, a3), (3, 0)]) (st' := [(2, 38)]) rfl ?_
  refine wp_gf (pc' := 4) (t := 2) (v := 39) rfl rfl (by decide) rfl rfl (fx_38_1 hF) ?_
  refine wp_run 1 (pc' := 5) (ls' := [(2, 38), (2, a1), (0, a2), (0, a3), (3, 0)]) (st' := [(2, a1), (2, 39)]) rfl ?_
  refine wp_callv (pc' := 8) (as := [(2, 39), (2, a1)]) (rest := []) (ls1 := [(2, 39), (2, a1)]) rfl rfl rfl rfl rfl rfl ?_
  refine wp_run 1 (pc' := 1) (ls' := [(2, 39), (2, a1)]) (st' := [(2, a1)]) rfl ?_
  refine wp_gf (pc' := 4) (t := 2) (v := (a1 + 1)) rfl rfl (by decide) rfl (z_hl0 ha1) (z_hf0 ha1) ?_
  refine wp_run 2 (pc' := 6) (ls' := [(2, 39), (2, a1)]) (st' := [(2, 39), (0, 0), (2, (a1 + 1))]) rfl ?_
  refine wp_gf (pc' := 9) (t := 2) (v := 40) rfl rfl (by decide) rfl rfl (fx_39_0 hF) ?_
  refine wp_run 2 (pc' := 12) (ls' := [(2, 39), (2, a1)]) (st' := [(0, 6), (0, 0), (2, 40), (0, 0), (2, (a1 + 1))]) rfl ?_
  refine wp_acp (pc' := 15) rfl rfl (z_hl1 ha1) rfl (by decide) ?_
  refine wp_run 1 (pc' := 16) (ls' := [(2, 39), (2, a1)]) (st' := [(2, a1)]) rfl ?_
  refine wp_gf (pc' := 19) (t := 2) (v := (a1 + 2)) rfl rfl (by decide) rfl (z_hl0 ha1) (z_cpq (by have := z_hr ha1; omega) (z_hf1 ha1)) ?_
  refine wp_run 2 (pc' := 21) (ls' := [(2, 39), (2, a1)]) (st' := [(2, 39), (0, 0), (2, (a1 + 2))]) rfl ?_
  refine wp_gf (pc' := 24) (t := 2) (v := 41) rfl rfl (by decide) rfl rfl (z_cpq (by decide) (fx_39_1 hF)) ?_
  refine wp_run 2 (pc' := 27) (ls' := [(2, 39), (2, a1)]) (st' := [(0, 6), (0, 0), (2, 41), (0, 0), (2, (a1 + 2))]) rfl ?_
  refine wp_acp (pc' := 30) rfl rfl (z_hl2 ha1) rfl (by decide) ?_
  refine wp_run 1 (pc' := 31) (ls' := [(2, 39), (2, a1)]) (st' := [(2, a1)]) rfl ?_
  refine wp_gf (pc' := 34) (t := 2) (v := (a1 + 3)) rfl rfl (by decide) rfl (z_hl0 ha1) (z_cpq (by have := z_hr ha1; omega) (z_cpq (by have := z_hr ha1; omega) (z_hf2 ha1))) ?_
  refine wp_run 2 (pc' := 36) (ls' := [(2, 39), (2, a1)]) (st' := [(2, 39), (0, 0), (2, (a1 + 3))]) rfl ?_
  refine wp_gf (pc' := 39) (t := 2) (v := 42) rfl rfl (by decide) rfl rfl (z_cpq (by decide) (z_cpq (by decide) (fx_39_2 hF))) ?_
  refine wp_run 2 (pc' := 42) (ls' := [(2, 39), (2, a1)]) (st' := [(0, 25), (0, 0), (2, 42), (0, 0), (2, (a1 + 3))]) rfl ?_
  refine wp_acp (pc' := 45) rfl rfl (z_hl3 ha1) rfl (by decide) ?_
  refine wp_run 1 (pc' := 46) (ls' := [(2, 39), (2, a1)]) (st' := [(2, a1)]) rfl ?_
  refine wp_gf (pc' := 49) (t := 2) (v := (a1 + 4)) rfl rfl (by decide) rfl (z_hl0 ha1) (z_cpq (by have := z_hr ha1; omega) (z_cpq (by have := z_hr ha1; omega) (z_cpq (by have := z_hr ha1; omega) (z_hf3 ha1)))) ?_
  refine wp_run 2 (pc' := 51) (ls' := [(2, 39), (2, a1)]) (st' := [(2, 39), (0, 0), (2, (a1 + 4))]) rfl ?_
  refine wp_gf (pc' := 54) (t := 2) (v := 43) rfl rfl (by decide) rfl rfl (z_cpq (by decide) (z_cpq (by decide) (z_cpq (by decide) (fx_39_3 hF)))) ?_
  refine wp_run 2 (pc' := 57) (ls' := [(2, 39), (2, a1)]) (st' := [(0, 25), (0, 0), (2, 43), (0, 0), (2, (a1 + 4))]) rfl ?_
  refine wp_acp (pc' := 60) rfl rfl (z_hl4 ha1) rfl (by decide) ?_
  refine wp_run 1 (pc' := 61) (ls' := [(2, 39), (2, a1)]) (st' := [(2, a1)]) rfl ?_
  refine wp_gf (pc' := 64) (t := 2) (v := (a1 + 5)) rfl rfl (by decide) rfl (z_hl0 ha1) (z_cpq (by have := z_hr ha1; omega) (z_cpq (by have := z_hr ha1; omega) (z_cpq (by have := z_hr ha1; omega) (z_cpq (by have := z_hr ha1; omega) (z_hf4 ha1))))) ?_
  refine wp_run 2 (pc' := 66) (ls' := [(2, 39), (2, a1)]) (st' := [(2, 39), (0, 0), (2, (a1 + 5))]) rfl ?_
  refine wp_gf (pc' := 69) (t := 2) (v := 44) rfl rfl (by decide) rfl rfl (z_cpq (by decide) (z_cpq (by decide) (z_cpq (by decide) (z_cpq (by decide) (fx_39_4 hF))))) ?_
  refine wp_run 2 (pc' := 71) (ls' := [(2, 39), (2, a1)]) (st' := [(2, 39), (0, 0), (2, 44), (0, 0), (2, (a1 + 5))]) rfl ?_
  refine wp_gf (pc' := 74) (t := 2) (v := 44) rfl rfl (by decide) rfl rfl (z_cpq (by decide) (z_cpq (by decide) (z_cpq (by decide) (z_cpq (by decide) (fx_39_4 hF))))) ?_
  refine wp_len (pc' := 75) rfl rfl rfl (by decide) ?_
  refine wp_acp (pc' := 78) rfl rfl (z_hl5 ha1) rfl (by decide) ?_
  refine wp_run 2 (pc' := 80) (ls' := [(2, 39), (2, a1)]) (st' := [(2, a1), (2, 39)]) rfl ?_
  refine wp_gf (pc' := 83) (t := 0) (v := (M a1 5)) rfl rfl (by decide) rfl (z_hl0 ha1) (z_cpq (by have := z_hr ha1; omega) (z_cpq (by have := z_hr ha1; omega) (z_cpq (by have := z_hr ha1; omega) (z_cpq (by have := z_hr ha1; omega) (z_cpq (by have := z_hr ha1; omega) rfl))))) ?_
  refine wp_pf (pc' := 86) rfl rfl rfl rfl (fun z => absurd z (by decide)) (fun z => absurd z (by decide)) ?_
  refine wp_run 2 (pc' := 88) (ls' := [(2, 39), (2, a1)]) (st' := [(2, a1), (2, 39)]) rfl ?_
  refine wp_gf (pc' := 91) (t := 0) (v := (M a1 6)) rfl rfl (by decide) rfl (z_hl0 ha1) (z_upq (by have := z_hr ha1; omega) (z_cpq (by have := z_hr ha1; omega) (z_cpq (by have := z_hr ha1; omega) (z_cpq (by have := z_hr ha1; omega) (z_cpq (by have := z_hr ha1; omega) (z_cpq (by have := z_hr ha1; omega) rfl)))))) ?_
  refine wp_pf (pc' := 94) rfl rfl rfl rfl (fun z => absurd z (by decide)) (fun z => absurd z (by decide)) ?_
  refine wp_run 2 (pc' := 96) (ls' := [(2, 39), (2, a1)]) (st' := [(2, a1), (2, 39)]) rfl ?_
  refine wp_gf (pc' := 99) (t := 0) (v := (M a1 7)) rfl rfl (by decide) rfl (z_hl0 ha1) (z_upq (by have := z_hr ha1; omega) (z_upq (by have := z_hr ha1; omega) (z_cpq (by have := z_hr ha1; omega) (z_cpq (by have := z_hr ha1; omega) (z_cpq (by have := z_hr ha1; omega) (z_cpq (by have := z_hr ha1; omega) (z_cpq (by have := z_hr ha1; omega) rfl))))))) ?_
  refine wp_pf (pc' := 102) rfl rfl rfl rfl (fun z => absurd z (by decide)) (fun z => absurd z (by decide)) ?_
  refine wp_ret rfl rfl ?_
  show wp xs _ mX0_countWhere 8 [(2, 38), (2, a1), (0, a2), (0, a3), (3, 0)] [] z_LL (z_up (z_up (z_up (z_cpy (z_cpy (z_cpy (z_cpy (z_cpy M (a1 + 1) 0 40 0 6) (a1 + 2) 0 41 0 6) (a1 + 3) 0 42 0 25) (a1 + 4) 0 43 0 25) (a1 + 5) 0 44 0 36) 39 5 (M a1 5)) 39 6 (M a1 6)) 39 7 (M a1 7)) _
  refine wp_run 1 (pc' := 9) (ls' := [(2, 38), (2, a1), (0, a2), (0, a3), (3, 0)]) (st' := [(2, 38)]) rfl ?_
  refine wp_gf (pc' := 12) (t := 2) (v := 39) rfl rfl (by decide) rfl rfl (z_upq (by decide) (z_upq (by decide) (z_upq (by decide) (z_cpq (by decide) (z_cpq (by decide) (z_cpq (by decide) (z_cpq (by decide) (z_cpq (by decide) (fx_38_1 hF))))))))) ?_
  refine wp_gf (pc' := 15) (t := 2) (v := 43) rfl rfl (by decide) rfl rfl (z_upi (by decide) (z_upi (by decide) (z_upi (by decide) (z_cpq (by decide) (z_cpq (by decide) (z_cpq (by decide) (z_cpq (by decide) (z_cpq (by decide) (fx_39_3 hF))))))))) ?_
  refine wp_run 2 (pc' := 18) (ls' := [(2, 38), (2, a1), (0, a2), (0, a3), (3, 0)]) (st' := [(0, 9), (0, a2), (2, 43)]) rfl ?_
  refine wp_iast (pc' := 19) rfl rfl rfl (b1) ?_
  refine wp_run 2 (pc' := 22) (ls' := [(2, 38), (2, a1), (0, a2), (0, a3), (0, 0)]) (st' := []) rfl ?_
  exact l1
set_option maxRecDepth 20000 in
theorem gX0_countWhere_22 {xs : List Int} {d : Nat} {M : z_M} {P : Option z_V → z_L → z_M → Prop} {x1 : Int} {x2 : Int} {x3 : Int} {x4 : Int} (hF : z_fix M) (hx1 : z_her M x1) (hg2 : z_gor M (M 34 3))
    (l1 : (x3 ≤ x4) → wp xs (d + 1) mX0_countWhere 59 [(2, 38), (2, x1), (0, x2), (0, x3), (0, 0)] [] z_LL M P)
    (l2 : (¬ (x3 ≤ x4)) → wp xs d mX8_pass 0 [(2, 34), (2, 39), (0, (M (M 34 3) 18)), (3, 0)] [] z_LL M (fun r L1 M1 => wp xs (d + 1) mX0_countWhere 49 [(2, 38), (2, x1), (0, x2), (0, x3), (0, x4)] (z_ol r ++ []) L1 M1 P)) :
    wp xs (d + 1) mX0_countWhere 22 [(2, 38), (2, x1), (0, x2), (0, x3), (0, x4)] [] z_LL M P := by
  refine wp_run 2 (pc' := 25) (ls' := [(2, 38), (2, x1), (0, x2), (0, x3), (0, x4)]) (st' := [(0, x3), (0, x4)]) rfl ?_
  refine wp_if2 rfl rfl rfl (fun (c1 : x3 ≤ x4) => ?_) (fun (c1 : ¬ (x3 ≤ x4)) => ?_)
  · refine wp_run 2 (pc' := 59) (ls' := [(2, 38), (2, x1), (0, x2), (0, x3), (0, 0)]) (st' := []) rfl ?_
    exact l1 c1
  · refine wp_run 1 (pc' := 29) (ls' := [(2, 38), (2, x1), (0, x2), (0, x3), (0, x4)]) (st' := [(2, 38)]) rfl ?_
    refine wp_gf (pc' := 32) (t := 2) (v := 34) rfl rfl (by decide) rfl rfl (fx_38_0 hF) ?_
    refine wp_run 1 (pc' := 33) (ls' := [(2, 38), (2, x1), (0, x2), (0, x3), (0, x4)]) (st' := [(2, 38), (2, 34)]) rfl ?_
    refine wp_gf (pc' := 36) (t := 2) (v := 39) rfl rfl (by decide) rfl rfl (fx_38_1 hF) ?_
    refine wp_run 1 (pc' := 37) (ls' := [(2, 38), (2, x1), (0, x2), (0, x3), (0, x4)]) (st' := [(2, 38), (2, 39), (2, 34)]) rfl ?_
    refine wp_gf (pc' := 40) (t := 2) (v := 34) rfl rfl (by decide) rfl rfl (fx_38_0 hF) ?_
    refine wp_gf (pc' := 43) (t := 2) (v := (M 34 3)) rfl rfl (by decide) rfl rfl rfl ?_
    refine wp_gf (pc' := 46) (t := 0) (v := (M (M 34 3) 18)) rfl rfl (by decide) rfl (z_gl0 hg2) rfl ?_
    refine wp_callv (pc' := 49) (as := [(2, 34), (2, 39), (0, (M (M 34 3) 18))]) (rest := []) (ls1 := [(2, 34), (2, 39), (0, (M (M 34 3) 18)), (3, 0)]) rfl rfl rfl rfl rfl rfl ?_
    exact l2 c1
set_option maxRecDepth 20000 in
theorem gX0_countWhere_49 {xs : List Int} {d : Nat} {M : z_M} {P : Option z_V → z_L → z_M → Prop} {x1 : Int} {x2 : Int} {x3 : Int} {x4 : Int} {s0 : Int} (hx1 : z_her M x1)
    (l1 : wp xs d mX0_countWhere 22 [(2, 38), (2, x1), (0, x2), (0, x3), (0, (z_w (x4 + 1)))] [] z_LL M P) :
    wp xs d mX0_countWhere 49 [(2, 38), (2, x1), (0, x2), (0, x3), (0, x4)] [(0, s0)] z_LL M P := by
  refine wp_run 3 (pc' := 22) (ls' := [(2, 38), (2, x1), (0, x2), (0, x3), (0, (z_w (x4 + 1)))]) (st' := []) rfl ?_
  exact l1
set_option maxRecDepth 20000 in
theorem gX0_countWhere_59 {xs : List Int} {d : Nat} {M : z_M} {P : Option z_V → z_L → z_M → Prop} {x1 : Int} {x2 : Int} {x3 : Int} {x4 : Int} (hF : z_fix M) (hx1 : z_her M x1) (hg2 : z_gor M (M 34 3))
    (l1 : ((M (M 34 3) 12) ≤ x4) → P none z_LL M)
    (b1 : (¬ ((M (M 34 3) 12) ≤ x4)) → 0 ≤ x4 ∧ x4 < 6)
    (b2 : (¬ ((M (M 34 3) 12) ≤ x4)) → 0 ≤ (z_w ((z_w (x4 * 25)) + (M 40 x4))) ∧ (z_w ((z_w (x4 * 25)) + (M 40 x4))) < 150)
    (b3 : (¬ ((M (M 34 3) 12) ≤ x4)) → 0 ≤ (z_w ((z_w (x4 * 25)) + (M 40 x4))) ∧ (z_w ((z_w (x4 * 25)) + (M 40 x4))) < 150)
    (l2 : (¬ ((M (M 34 3) 12) ≤ x4)) → wp xs d mX0_countWhere 59 [(2, 38), (2, x1), (0, x2), (0, x3), (0, (z_w (x4 + 1)))] [] z_LL (z_up M 46 (z_w ((z_w (x4 * 25)) + (M 40 x4))) (z_w ((M 46 (z_w ((z_w (x4 * 25)) + (M 40 x4)))) + 1))) P) :
    wp xs d mX0_countWhere 59 [(2, 38), (2, x1), (0, x2), (0, x3), (0, x4)] [] z_LL M P := by
  refine wp_run 2 (pc' := 62) (ls' := [(2, 38), (2, x1), (0, x2), (0, x3), (0, x4)]) (st' := [(2, 38), (0, x4)]) rfl ?_
  refine wp_gf (pc' := 65) (t := 2) (v := 34) rfl rfl (by decide) rfl rfl (fx_38_0 hF) ?_
  refine wp_gf (pc' := 68) (t := 2) (v := (M 34 3)) rfl rfl (by decide) rfl rfl rfl ?_
  refine wp_gf (pc' := 71) (t := 0) (v := (M (M 34 3) 12)) rfl rfl (by decide) rfl (z_gl0 hg2) rfl ?_
  refine wp_if2 rfl rfl rfl (fun (c1 : (M (M 34 3) 12) ≤ x4) => ?_) (fun (c1 : ¬ ((M (M 34 3) 12) ≤ x4)) => ?_)
  · exact wp_ret rfl rfl (l1 c1)
  · refine wp_run 1 (pc' := 75) (ls' := [(2, 38), (2, x1), (0, x2), (0, x3), (0, x4)]) (st' := [(2, 38)]) rfl ?_
    refine wp_gf (pc' := 78) (t := 2) (v := 46) rfl rfl (by decide) rfl rfl (fx_38_3 hF) ?_
    refine wp_run 4 (pc' := 84) (ls' := [(2, 38), (2, x1), (0, x2), (0, x3), (0, x4)]) (st' := [(2, 38), (0, (z_w (x4 * 25))), (2, 46)]) rfl ?_
    refine wp_gf (pc' := 87) (t := 2) (v := 39) rfl rfl (by decide) rfl rfl (fx_38_1 hF) ?_
    refine wp_gf (pc' := 90) (t := 2) (v := 40) rfl rfl (by decide) rfl rfl (fx_39_0 hF) ?_
    refine wp_run 1 (pc' := 92) (ls' := [(2, 38), (2, x1), (0, x2), (0, x3), (0, x4)]) (st' := [(0, x4), (2, 40), (0, (z_w (x4 * 25))), (2, 46)]) rfl ?_
    refine wp_iald (pc' := 93) (v := (M 40 x4)) rfl rfl rfl (b1 c1) rfl ?_
    refine wp_run 2 (pc' := 95) (ls' := [(2, 38), (2, x1), (0, x2), (0, x3), (0, x4)]) (st' := [(0, (z_w ((z_w (x4 * 25)) + (M 40 x4)))), (2, 46), (0, (z_w ((z_w (x4 * 25)) + (M 40 x4)))), (2, 46)]) rfl ?_
    refine wp_iald (pc' := 96) (v := (M 46 (z_w ((z_w (x4 * 25)) + (M 40 x4))))) rfl rfl rfl (b2 c1) rfl ?_
    refine wp_run 2 (pc' := 98) (ls' := [(2, 38), (2, x1), (0, x2), (0, x3), (0, x4)]) (st' := [(0, (z_w ((M 46 (z_w ((z_w (x4 * 25)) + (M 40 x4)))) + 1))), (0, (z_w ((z_w (x4 * 25)) + (M 40 x4)))), (2, 46)]) rfl ?_
    refine wp_iast (pc' := 99) rfl rfl rfl (b3 c1) ?_
    refine wp_run 2 (pc' := 59) (ls' := [(2, 38), (2, x1), (0, x2), (0, x3), (0, (z_w (x4 + 1)))]) (st' := []) rfl ?_
    exact l2 c1
set_option maxRecDepth 20000 in
theorem gX0_daysToBare_0 {xs : List Int} {d : Nat} {M : z_M} {P : Option z_V → z_L → z_M → Prop} {a1 : Int} (hF : z_fix M) (ha1 : z_her M a1) (hn1 : a1 ≠ 39)
    (l1 : wp xs (d + 1) mX0_daysToBare 10 [(2, 38), (2, a1), (0, 0)] [] z_LL (z_up (z_up (z_up (z_cpy (z_cpy (z_cpy (z_cpy (z_cpy M (a1 + 1) 0 40 0 6) (a1 + 2) 0 41 0 6) (a1 + 3) 0 42 0 25) (a1 + 4) 0 43 0 25) (a1 + 5) 0 44 0 36) 39 5 (M a1 5)) 39 6 (M a1 6)) 39 7 (M a1 7)) P) :
    wp xs (d + 1) mX0_daysToBare 0 [(2, 38), (2, a1), (3, 0)] [] z_LL M P := by
  refine wp_run 1 (pc' := 1) (ls' := [(2, 38), (2, a1), (3, 0)]) (st' := [(2, 38)]) rfl ?_
  refine wp_gf (pc' := 4) (t := 2) (v := 39) rfl rfl (by decide) rfl rfl (fx_38_1 hF) ?_
  refine wp_run 1 (pc' := 5) (ls' := [(2, 38), (2, a1), (3, 0)]) (st' := [(2, a1), (2, 39)]) rfl ?_
  refine wp_callv (pc' := 8) (as := [(2, 39), (2, a1)]) (rest := []) (ls1 := [(2, 39), (2, a1)]) rfl rfl rfl rfl rfl rfl ?_
  refine wp_run 1 (pc' := 1) (ls' := [(2, 39), (2, a1)]) (st' := [(2, a1)]) rfl ?_
  refine wp_gf (pc' := 4) (t := 2) (v := (a1 + 1)) rfl rfl (by decide) rfl (z_hl0 ha1) (z_hf0 ha1) ?_
  refine wp_run 2 (pc' := 6) (ls' := [(2, 39), (2, a1)]) (st' := [(2, 39), (0, 0), (2, (a1 + 1))]) rfl ?_
  refine wp_gf (pc' := 9) (t := 2) (v := 40) rfl rfl (by decide) rfl rfl (fx_39_0 hF) ?_
  refine wp_run 2 (pc' := 12) (ls' := [(2, 39), (2, a1)]) (st' := [(0, 6), (0, 0), (2, 40), (0, 0), (2, (a1 + 1))]) rfl ?_
  refine wp_acp (pc' := 15) rfl rfl (z_hl1 ha1) rfl (by decide) ?_
  refine wp_run 1 (pc' := 16) (ls' := [(2, 39), (2, a1)]) (st' := [(2, a1)]) rfl ?_
  refine wp_gf (pc' := 19) (t := 2) (v := (a1 + 2)) rfl rfl (by decide) rfl (z_hl0 ha1) (z_cpq (by have := z_hr ha1; omega) (z_hf1 ha1)) ?_
  refine wp_run 2 (pc' := 21) (ls' := [(2, 39), (2, a1)]) (st' := [(2, 39), (0, 0), (2, (a1 + 2))]) rfl ?_
  refine wp_gf (pc' := 24) (t := 2) (v := 41) rfl rfl (by decide) rfl rfl (z_cpq (by decide) (fx_39_1 hF)) ?_
  refine wp_run 2 (pc' := 27) (ls' := [(2, 39), (2, a1)]) (st' := [(0, 6), (0, 0), (2, 41), (0, 0), (2, (a1 + 2))]) rfl ?_
  refine wp_acp (pc' := 30) rfl rfl (z_hl2 ha1) rfl (by decide) ?_
  refine wp_run 1 (pc' := 31) (ls' := [(2, 39), (2, a1)]) (st' := [(2, a1)]) rfl ?_
  refine wp_gf (pc' := 34) (t := 2) (v := (a1 + 3)) rfl rfl (by decide) rfl (z_hl0 ha1) (z_cpq (by have := z_hr ha1; omega) (z_cpq (by have := z_hr ha1; omega) (z_hf2 ha1))) ?_
  refine wp_run 2 (pc' := 36) (ls' := [(2, 39), (2, a1)]) (st' := [(2, 39), (0, 0), (2, (a1 + 3))]) rfl ?_
  refine wp_gf (pc' := 39) (t := 2) (v := 42) rfl rfl (by decide) rfl rfl (z_cpq (by decide) (z_cpq (by decide) (fx_39_2 hF))) ?_
  refine wp_run 2 (pc' := 42) (ls' := [(2, 39), (2, a1)]) (st' := [(0, 25), (0, 0), (2, 42), (0, 0), (2, (a1 + 3))]) rfl ?_
  refine wp_acp (pc' := 45) rfl rfl (z_hl3 ha1) rfl (by decide) ?_
  refine wp_run 1 (pc' := 46) (ls' := [(2, 39), (2, a1)]) (st' := [(2, a1)]) rfl ?_
  refine wp_gf (pc' := 49) (t := 2) (v := (a1 + 4)) rfl rfl (by decide) rfl (z_hl0 ha1) (z_cpq (by have := z_hr ha1; omega) (z_cpq (by have := z_hr ha1; omega) (z_cpq (by have := z_hr ha1; omega) (z_hf3 ha1)))) ?_
  refine wp_run 2 (pc' := 51) (ls' := [(2, 39), (2, a1)]) (st' := [(2, 39), (0, 0), (2, (a1 + 4))]) rfl ?_
  refine wp_gf (pc' := 54) (t := 2) (v := 43) rfl rfl (by decide) rfl rfl (z_cpq (by decide) (z_cpq (by decide) (z_cpq (by decide) (fx_39_3 hF)))) ?_
  refine wp_run 2 (pc' := 57) (ls' := [(2, 39), (2, a1)]) (st' := [(0, 25), (0, 0), (2, 43), (0, 0), (2, (a1 + 4))]) rfl ?_
  refine wp_acp (pc' := 60) rfl rfl (z_hl4 ha1) rfl (by decide) ?_
  refine wp_run 1 (pc' := 61) (ls' := [(2, 39), (2, a1)]) (st' := [(2, a1)]) rfl ?_
  refine wp_gf (pc' := 64) (t := 2) (v := (a1 + 5)) rfl rfl (by decide) rfl (z_hl0 ha1) (z_cpq (by have := z_hr ha1; omega) (z_cpq (by have := z_hr ha1; omega) (z_cpq (by have := z_hr ha1; omega) (z_cpq (by have := z_hr ha1; omega) (z_hf4 ha1))))) ?_
  refine wp_run 2 (pc' := 66) (ls' := [(2, 39), (2, a1)]) (st' := [(2, 39), (0, 0), (2, (a1 + 5))]) rfl ?_
  refine wp_gf (pc' := 69) (t := 2) (v := 44) rfl rfl (by decide) rfl rfl (z_cpq (by decide) (z_cpq (by decide) (z_cpq (by decide) (z_cpq (by decide) (fx_39_4 hF))))) ?_
  refine wp_run 2 (pc' := 71) (ls' := [(2, 39), (2, a1)]) (st' := [(2, 39), (0, 0), (2, 44), (0, 0), (2, (a1 + 5))]) rfl ?_
  refine wp_gf (pc' := 74) (t := 2) (v := 44) rfl rfl (by decide) rfl rfl (z_cpq (by decide) (z_cpq (by decide) (z_cpq (by decide) (z_cpq (by decide) (fx_39_4 hF))))) ?_
  refine wp_len (pc' := 75) rfl rfl rfl (by decide) ?_
  refine wp_acp (pc' := 78) rfl rfl (z_hl5 ha1) rfl (by decide) ?_
  refine wp_run 2 (pc' := 80) (ls' := [(2, 39), (2, a1)]) (st' := [(2, a1), (2, 39)]) rfl ?_
  refine wp_gf (pc' := 83) (t := 0) (v := (M a1 5)) rfl rfl (by decide) rfl (z_hl0 ha1) (z_cpq (by have := z_hr ha1; omega) (z_cpq (by have := z_hr ha1; omega) (z_cpq (by have := z_hr ha1; omega) (z_cpq (by have := z_hr ha1; omega) (z_cpq (by have := z_hr ha1; omega) rfl))))) ?_
  refine wp_pf (pc' := 86) rfl rfl rfl rfl (fun z => absurd z (by decide)) (fun z => absurd z (by decide)) ?_
  refine wp_run 2 (pc' := 88) (ls' := [(2, 39), (2, a1)]) (st' := [(2, a1), (2, 39)]) rfl ?_
  refine wp_gf (pc' := 91) (t := 0) (v := (M a1 6)) rfl rfl (by decide) rfl (z_hl0 ha1) (z_upq (by have := z_hr ha1; omega) (z_cpq (by have := z_hr ha1; omega) (z_cpq (by have := z_hr ha1; omega) (z_cpq (by have := z_hr ha1; omega) (z_cpq (by have := z_hr ha1; omega) (z_cpq (by have := z_hr ha1; omega) rfl)))))) ?_
  refine wp_pf (pc' := 94) rfl rfl rfl rfl (fun z => absurd z (by decide)) (fun z => absurd z (by decide)) ?_
  refine wp_run 2 (pc' := 96) (ls' := [(2, 39), (2, a1)]) (st' := [(2, a1), (2, 39)]) rfl ?_
  refine wp_gf (pc' := 99) (t := 0) (v := (M a1 7)) rfl rfl (by decide) rfl (z_hl0 ha1) (z_upq (by have := z_hr ha1; omega) (z_upq (by have := z_hr ha1; omega) (z_cpq (by have := z_hr ha1; omega) (z_cpq (by have := z_hr ha1; omega) (z_cpq (by have := z_hr ha1; omega) (z_cpq (by have := z_hr ha1; omega) (z_cpq (by have := z_hr ha1; omega) rfl))))))) ?_
  refine wp_pf (pc' := 102) rfl rfl rfl rfl (fun z => absurd z (by decide)) (fun z => absurd z (by decide)) ?_
  refine wp_ret rfl rfl ?_
  show wp xs _ mX0_daysToBare 8 [(2, 38), (2, a1), (3, 0)] [] z_LL (z_up (z_up (z_up (z_cpy (z_cpy (z_cpy (z_cpy (z_cpy M (a1 + 1) 0 40 0 6) (a1 + 2) 0 41 0 6) (a1 + 3) 0 42 0 25) (a1 + 4) 0 43 0 25) (a1 + 5) 0 44 0 36) 39 5 (M a1 5)) 39 6 (M a1 6)) 39 7 (M a1 7)) _
  refine wp_run 2 (pc' := 10) (ls' := [(2, 38), (2, a1), (0, 0)]) (st' := []) rfl ?_
  exact l1
set_option maxRecDepth 20000 in
theorem gX0_daysToBare_10 {xs : List Int} {d : Nat} {M : z_M} {P : Option z_V → z_L → z_M → Prop} {x1 : Int} {x2 : Int} (hF : z_fix M) (hx1 : z_her M x1)
    (l1 : (60 ≤ x2) → wp xs d mX2_allGrass 0 [(2, 39), (3, 0), (3, 0)] [] z_LL M (fun r L1 M1 => wp xs (d + 1) mX0_daysToBare 61 [(2, 38), (2, x1), (0, x2)] (z_ol r ++ []) L1 M1 P))
    (l2 : (¬ (60 ≤ x2)) → wp xs d mX2_allGrass 0 [(2, 39), (3, 0), (3, 0)] [] z_LL M (fun r L1 M1 => wp xs (d + 1) mX0_daysToBare 23 [(2, 38), (2, x1), (0, x2)] (z_ol r ++ []) L1 M1 P)) :
    wp xs (d + 1) mX0_daysToBare 10 [(2, 38), (2, x1), (0, x2)] [] z_LL M P := by
  refine wp_run 2 (pc' := 13) (ls' := [(2, 38), (2, x1), (0, x2)]) (st' := [(0, 60), (0, x2)]) rfl ?_
  refine wp_if2 rfl rfl rfl (fun (c1 : 60 ≤ x2) => ?_) (fun (c1 : ¬ (60 ≤ x2)) => ?_)
  · refine wp_run 1 (pc' := 55) (ls' := [(2, 38), (2, x1), (0, x2)]) (st' := [(2, 38)]) rfl ?_
    refine wp_gf (pc' := 58) (t := 2) (v := 39) rfl rfl (by decide) rfl rfl (fx_38_1 hF) ?_
    refine wp_callv (pc' := 61) (as := [(2, 39)]) (rest := []) (ls1 := [(2, 39), (3, 0), (3, 0)]) rfl rfl rfl rfl rfl rfl ?_
    exact l1 c1
  · refine wp_run 1 (pc' := 17) (ls' := [(2, 38), (2, x1), (0, x2)]) (st' := [(2, 38)]) rfl ?_
    refine wp_gf (pc' := 20) (t := 2) (v := 39) rfl rfl (by decide) rfl rfl (fx_38_1 hF) ?_
    refine wp_callv (pc' := 23) (as := [(2, 39)]) (rest := []) (ls1 := [(2, 39), (3, 0), (3, 0)]) rfl rfl rfl rfl rfl rfl ?_
    exact l2 c1
set_option maxRecDepth 20000 in
theorem gX0_daysToBare_23 {xs : List Int} {d : Nat} {M : z_M} {P : Option z_V → z_L → z_M → Prop} {x1 : Int} {x2 : Int} {s0 : Int} (hF : z_fix M) (hx1 : z_her M x1) (hg2 : z_gor M (M 34 3))
    (l1 : (s0 ≤ 0) → wp xs d mX2_allGrass 0 [(2, 39), (3, 0), (3, 0)] [] z_LL M (fun r L1 M1 => wp xs (d + 1) mX0_daysToBare 61 [(2, 38), (2, x1), (0, x2)] (z_ol r ++ []) L1 M1 P))
    (l2 : (¬ (s0 ≤ 0)) → wp xs d mX8_pass 0 [(2, 34), (2, 39), (0, (M (M 34 3) 18)), (3, 0)] [] z_LL M (fun r L1 M1 => wp xs (d + 1) mX0_daysToBare 47 [(2, 38), (2, x1), (0, x2)] (z_ol r ++ []) L1 M1 P)) :
    wp xs (d + 1) mX0_daysToBare 23 [(2, 38), (2, x1), (0, x2)] [(0, s0)] z_LL M P := by
  refine wp_if1 rfl rfl rfl (fun (c1 : s0 ≤ 0) => ?_) (fun (c1 : ¬ (s0 ≤ 0)) => ?_)
  · refine wp_run 1 (pc' := 55) (ls' := [(2, 38), (2, x1), (0, x2)]) (st' := [(2, 38)]) rfl ?_
    refine wp_gf (pc' := 58) (t := 2) (v := 39) rfl rfl (by decide) rfl rfl (fx_38_1 hF) ?_
    refine wp_callv (pc' := 61) (as := [(2, 39)]) (rest := []) (ls1 := [(2, 39), (3, 0), (3, 0)]) rfl rfl rfl rfl rfl rfl ?_
    exact l1 c1
  · refine wp_run 1 (pc' := 27) (ls' := [(2, 38), (2, x1), (0, x2)]) (st' := [(2, 38)]) rfl ?_
    refine wp_gf (pc' := 30) (t := 2) (v := 34) rfl rfl (by decide) rfl rfl (fx_38_0 hF) ?_
    refine wp_run 1 (pc' := 31) (ls' := [(2, 38), (2, x1), (0, x2)]) (st' := [(2, 38), (2, 34)]) rfl ?_
    refine wp_gf (pc' := 34) (t := 2) (v := 39) rfl rfl (by decide) rfl rfl (fx_38_1 hF) ?_
    refine wp_run 1 (pc' := 35) (ls' := [(2, 38), (2, x1), (0, x2)]) (st' := [(2, 38), (2, 39), (2, 34)]) rfl ?_
    refine wp_gf (pc' := 38) (t := 2) (v := 34) rfl rfl (by decide) rfl rfl (fx_38_0 hF) ?_
    refine wp_gf (pc' := 41) (t := 2) (v := (M 34 3)) rfl rfl (by decide) rfl rfl rfl ?_
    refine wp_gf (pc' := 44) (t := 0) (v := (M (M 34 3) 18)) rfl rfl (by decide) rfl (z_gl0 hg2) rfl ?_
    refine wp_callv (pc' := 47) (as := [(2, 34), (2, 39), (0, (M (M 34 3) 18))]) (rest := []) (ls1 := [(2, 34), (2, 39), (0, (M (M 34 3) 18)), (3, 0)]) rfl rfl rfl rfl rfl rfl ?_
    exact l2 c1
set_option maxRecDepth 20000 in
theorem gX0_daysToBare_47 {xs : List Int} {d : Nat} {M : z_M} {P : Option z_V → z_L → z_M → Prop} {x1 : Int} {x2 : Int} {s0 : Int} (hx1 : z_her M x1)
    (l1 : wp xs d mX0_daysToBare 10 [(2, 38), (2, x1), (0, (z_w (x2 + 1)))] [] z_LL M P) :
    wp xs d mX0_daysToBare 47 [(2, 38), (2, x1), (0, x2)] [(0, s0)] z_LL M P := by
  refine wp_run 3 (pc' := 10) (ls' := [(2, 38), (2, x1), (0, (z_w (x2 + 1)))]) (st' := []) rfl ?_
  exact l1
set_option maxRecDepth 20000 in
theorem gX0_daysToBare_61 {xs : List Int} {d : Nat} {M : z_M} {P : Option z_V → z_L → z_M → Prop} {x1 : Int} {x2 : Int} {s0 : Int} (hF : z_fix M) (hx1 : z_her M x1)
    (l1 : (s0 ≤ 0) → P (some (0, (z_w ((M 39 6) - (M x1 6))))) z_LL M)
    (l2 : (¬ (s0 ≤ 0)) → P (some (0, (-1))) z_LL M) :
    wp xs d mX0_daysToBare 61 [(2, 38), (2, x1), (0, x2)] [(0, s0)] z_LL M P := by
  refine wp_if1 rfl rfl rfl (fun (c1 : s0 ≤ 0) => ?_) (fun (c1 : ¬ (s0 ≤ 0)) => ?_)
  · refine wp_run 1 (pc' := 69) (ls' := [(2, 38), (2, x1), (0, x2)]) (st' := [(2, 38)]) rfl ?_
    refine wp_gf (pc' := 72) (t := 2) (v := 39) rfl rfl (by decide) rfl rfl (fx_38_1 hF) ?_
    refine wp_gf (pc' := 75) (t := 0) (v := (M 39 6)) rfl rfl (by decide) rfl rfl rfl ?_
    refine wp_run 1 (pc' := 76) (ls' := [(2, 38), (2, x1), (0, x2)]) (st' := [(2, x1), (0, (M 39 6))]) rfl ?_
    refine wp_gf (pc' := 79) (t := 0) (v := (M x1 6)) rfl rfl (by decide) rfl (z_hl0 hx1) rfl ?_
    refine wp_run 1 (pc' := 80) (ls' := [(2, 38), (2, x1), (0, x2)]) (st' := [(0, (z_w ((M 39 6) - (M x1 6))))]) rfl ?_
    exact wp_ret rfl rfl (l1 c1)
  · refine wp_run 2 (pc' := 80) (ls' := [(2, 38), (2, x1), (0, x2)]) (st' := [(0, (-1))]) rfl ?_
    exact wp_ret rfl rfl (l2 c1)
set_option maxRecDepth 20000 in
theorem gX0_daysToMatch_0 {xs : List Int} {d : Nat} {M : z_M} {P : Option z_V → z_L → z_M → Prop} {a1 : Int} {a2 : Int} (hF : z_fix M) (ha1 : z_her M a1) (hn1 : a1 ≠ 39)
    (l1 : wp xs (d + 1) mX0_daysToMatch 10 [(2, 38), (2, a1), (0, a2), (0, 0)] [] z_LL (z_up (z_up (z_up (z_cpy (z_cpy (z_cpy (z_cpy (z_cpy M (a1 + 1) 0 40 0 6) (a1 + 2) 0 41 0 6) (a1 + 3) 0 42 0 25) (a1 + 4) 0 43 0 25) (a1 + 5) 0 44 0 36) 39 5 (M a1 5)) 39 6 (M a1 6)) 39 7 (M a1 7)) P) :
    wp xs (d + 1) mX0_daysToMatch 0 [(2, 38), (2, a1), (0, a2), (3, 0)] [] z_LL M P := by
  refine wp_run 1 (pc' := 1) (ls' := [(2, 38), (2, a1), (0, a2), (3, 0)]) (st' := [(2, 38)]) rfl ?_
  refine wp_gf (pc' := 4) (t := 2) (v := 39) rfl rfl (by decide) rfl rfl (fx_38_1 hF) ?_
  refine wp_run 1 (pc' := 5) (ls' := [(2, 38), (2, a1), (0, a2), (3, 0)]) (st' := [(2, a1), (2, 39)]) rfl ?_
  refine wp_callv (pc' := 8) (as := [(2, 39), (2, a1)]) (rest := []) (ls1 := [(2, 39), (2, a1)]) rfl rfl rfl rfl rfl rfl ?_
  refine wp_run 1 (pc' := 1) (ls' := [(2, 39), (2, a1)]) (st' := [(2, a1)]) rfl ?_
  refine wp_gf (pc' := 4) (t := 2) (v := (a1 + 1)) rfl rfl (by decide) rfl (z_hl0 ha1) (z_hf0 ha1) ?_
  refine wp_run 2 (pc' := 6) (ls' := [(2, 39), (2, a1)]) (st' := [(2, 39), (0, 0), (2, (a1 + 1))]) rfl ?_
  refine wp_gf (pc' := 9) (t := 2) (v := 40) rfl rfl (by decide) rfl rfl (fx_39_0 hF) ?_
  refine wp_run 2 (pc' := 12) (ls' := [(2, 39), (2, a1)]) (st' := [(0, 6), (0, 0), (2, 40), (0, 0), (2, (a1 + 1))]) rfl ?_
  refine wp_acp (pc' := 15) rfl rfl (z_hl1 ha1) rfl (by decide) ?_
  refine wp_run 1 (pc' := 16) (ls' := [(2, 39), (2, a1)]) (st' := [(2, a1)]) rfl ?_
  refine wp_gf (pc' := 19) (t := 2) (v := (a1 + 2)) rfl rfl (by decide) rfl (z_hl0 ha1) (z_cpq (by have := z_hr ha1; omega) (z_hf1 ha1)) ?_
  refine wp_run 2 (pc' := 21) (ls' := [(2, 39), (2, a1)]) (st' := [(2, 39), (0, 0), (2, (a1 + 2))]) rfl ?_
  refine wp_gf (pc' := 24) (t := 2) (v := 41) rfl rfl (by decide) rfl rfl (z_cpq (by decide) (fx_39_1 hF)) ?_
  refine wp_run 2 (pc' := 27) (ls' := [(2, 39), (2, a1)]) (st' := [(0, 6), (0, 0), (2, 41), (0, 0), (2, (a1 + 2))]) rfl ?_
  refine wp_acp (pc' := 30) rfl rfl (z_hl2 ha1) rfl (by decide) ?_
  refine wp_run 1 (pc' := 31) (ls' := [(2, 39), (2, a1)]) (st' := [(2, a1)]) rfl ?_
  refine wp_gf (pc' := 34) (t := 2) (v := (a1 + 3)) rfl rfl (by decide) rfl (z_hl0 ha1) (z_cpq (by have := z_hr ha1; omega) (z_cpq (by have := z_hr ha1; omega) (z_hf2 ha1))) ?_
  refine wp_run 2 (pc' := 36) (ls' := [(2, 39), (2, a1)]) (st' := [(2, 39), (0, 0), (2, (a1 + 3))]) rfl ?_
  refine wp_gf (pc' := 39) (t := 2) (v := 42) rfl rfl (by decide) rfl rfl (z_cpq (by decide) (z_cpq (by decide) (fx_39_2 hF))) ?_
  refine wp_run 2 (pc' := 42) (ls' := [(2, 39), (2, a1)]) (st' := [(0, 25), (0, 0), (2, 42), (0, 0), (2, (a1 + 3))]) rfl ?_
  refine wp_acp (pc' := 45) rfl rfl (z_hl3 ha1) rfl (by decide) ?_
  refine wp_run 1 (pc' := 46) (ls' := [(2, 39), (2, a1)]) (st' := [(2, a1)]) rfl ?_
  refine wp_gf (pc' := 49) (t := 2) (v := (a1 + 4)) rfl rfl (by decide) rfl (z_hl0 ha1) (z_cpq (by have := z_hr ha1; omega) (z_cpq (by have := z_hr ha1; omega) (z_cpq (by have := z_hr ha1; omega) (z_hf3 ha1)))) ?_
  refine wp_run 2 (pc' := 51) (ls' := [(2, 39), (2, a1)]) (st' := [(2, 39), (0, 0), (2, (a1 + 4))]) rfl ?_
  refine wp_gf (pc' := 54) (t := 2) (v := 43) rfl rfl (by decide) rfl rfl (z_cpq (by decide) (z_cpq (by decide) (z_cpq (by decide) (fx_39_3 hF)))) ?_
  refine wp_run 2 (pc' := 57) (ls' := [(2, 39), (2, a1)]) (st' := [(0, 25), (0, 0), (2, 43), (0, 0), (2, (a1 + 4))]) rfl ?_
  refine wp_acp (pc' := 60) rfl rfl (z_hl4 ha1) rfl (by decide) ?_
  refine wp_run 1 (pc' := 61) (ls' := [(2, 39), (2, a1)]) (st' := [(2, a1)]) rfl ?_
  refine wp_gf (pc' := 64) (t := 2) (v := (a1 + 5)) rfl rfl (by decide) rfl (z_hl0 ha1) (z_cpq (by have := z_hr ha1; omega) (z_cpq (by have := z_hr ha1; omega) (z_cpq (by have := z_hr ha1; omega) (z_cpq (by have := z_hr ha1; omega) (z_hf4 ha1))))) ?_
  refine wp_run 2 (pc' := 66) (ls' := [(2, 39), (2, a1)]) (st' := [(2, 39), (0, 0), (2, (a1 + 5))]) rfl ?_
  refine wp_gf (pc' := 69) (t := 2) (v := 44) rfl rfl (by decide) rfl rfl (z_cpq (by decide) (z_cpq (by decide) (z_cpq (by decide) (z_cpq (by decide) (fx_39_4 hF))))) ?_
  refine wp_run 2 (pc' := 71) (ls' := [(2, 39), (2, a1)]) (st' := [(2, 39), (0, 0), (2, 44), (0, 0), (2, (a1 + 5))]) rfl ?_
  refine wp_gf (pc' := 74) (t := 2) (v := 44) rfl rfl (by decide) rfl rfl (z_cpq (by decide) (z_cpq (by decide) (z_cpq (by decide) (z_cpq (by decide) (fx_39_4 hF))))) ?_
  refine wp_len (pc' := 75) rfl rfl rfl (by decide) ?_
  refine wp_acp (pc' := 78) rfl rfl (z_hl5 ha1) rfl (by decide) ?_
  refine wp_run 2 (pc' := 80) (ls' := [(2, 39), (2, a1)]) (st' := [(2, a1), (2, 39)]) rfl ?_
  refine wp_gf (pc' := 83) (t := 0) (v := (M a1 5)) rfl rfl (by decide) rfl (z_hl0 ha1) (z_cpq (by have := z_hr ha1; omega) (z_cpq (by have := z_hr ha1; omega) (z_cpq (by have := z_hr ha1; omega) (z_cpq (by have := z_hr ha1; omega) (z_cpq (by have := z_hr ha1; omega) rfl))))) ?_
  refine wp_pf (pc' := 86) rfl rfl rfl rfl (fun z => absurd z (by decide)) (fun z => absurd z (by decide)) ?_
  refine wp_run 2 (pc' := 88) (ls' := [(2, 39), (2, a1)]) (st' := [(2, a1), (2, 39)]) rfl ?_
  refine wp_gf (pc' := 91) (t := 0) (v := (M a1 6)) rfl rfl (by decide) rfl (z_hl0 ha1) (z_upq (by have := z_hr ha1; omega) (z_cpq (by have := z_hr ha1; omega) (z_cpq (by have := z_hr ha1; omega) (z_cpq (by have := z_hr ha1; omega) (z_cpq (by have := z_hr ha1; omega) (z_cpq (by have := z_hr ha1; omega) rfl)))))) ?_
  refine wp_pf (pc' := 94) rfl rfl rfl rfl (fun z => absurd z (by decide)) (fun z => absurd z (by decide)) ?_
  refine wp_run 2 (pc' := 96) (ls' := [(2, 39), (2, a1)]) (st' := [(2, a1), (2, 39)]) rfl ?_
  refine wp_gf (pc' := 99) (t := 0) (v := (M a1 7)) rfl rfl (by decide) rfl (z_hl0 ha1) (z_upq (by have := z_hr ha1; omega) (z_upq (by have := z_hr ha1; omega) (z_cpq (by have := z_hr ha1; omega) (z_cpq (by have := z_hr ha1; omega) (z_cpq (by have := z_hr ha1; omega) (z_cpq (by have := z_hr ha1; omega) (z_cpq (by have := z_hr ha1; omega) rfl))))))) ?_
  refine wp_pf (pc' := 102) rfl rfl rfl rfl (fun z => absurd z (by decide)) (fun z => absurd z (by decide)) ?_
  refine wp_ret rfl rfl ?_
  show wp xs _ mX0_daysToMatch 8 [(2, 38), (2, a1), (0, a2), (3, 0)] [] z_LL (z_up (z_up (z_up (z_cpy (z_cpy (z_cpy (z_cpy (z_cpy M (a1 + 1) 0 40 0 6) (a1 + 2) 0 41 0 6) (a1 + 3) 0 42 0 25) (a1 + 4) 0 43 0 25) (a1 + 5) 0 44 0 36) 39 5 (M a1 5)) 39 6 (M a1 6)) 39 7 (M a1 7)) _
  refine wp_run 2 (pc' := 10) (ls' := [(2, 38), (2, a1), (0, a2), (0, 0)]) (st' := []) rfl ?_
  exact l1
set_option maxRecDepth 20000 in
theorem gX0_daysToMatch_10 {xs : List Int} {d : Nat} {M : z_M} {P : Option z_V → z_L → z_M → Prop} {x1 : Int} {x2 : Int} {x3 : Int} (hF : z_fix M) (hx1 : z_her M x1) (hg2 : z_gor M (M 34 3))
    (b1 : (60 ≤ x3) → 0 ≤ x2 ∧ x2 < 6)
    (l1 : (60 ≤ x3) → ((M 41 x2) ≠ (-1)) → P (some (0, (z_w ((M 39 6) - (M x1 6))))) z_LL M)
    (l2 : (60 ≤ x3) → (¬ ((M 41 x2) ≠ (-1))) → P (some (0, (-1))) z_LL M)
    (b2 : (¬ (60 ≤ x3)) → 0 ≤ x2 ∧ x2 < 6)
    (b3 : (¬ (60 ≤ x3)) → ((M 41 x2) ≠ (-1)) → 0 ≤ x2 ∧ x2 < 6)
    (l3 : (¬ (60 ≤ x3)) → ((M 41 x2) ≠ (-1)) → ((M 41 x2) ≠ (-1)) → P (some (0, (z_w ((M 39 6) - (M x1 6))))) z_LL M)
    (l4 : (¬ (60 ≤ x3)) → ((M 41 x2) ≠ (-1)) → (¬ ((M 41 x2) ≠ (-1))) → P (some (0, (-1))) z_LL M)
    (l5 : (¬ (60 ≤ x3)) → (¬ ((M 41 x2) ≠ (-1))) → wp xs d mX8_pass 0 [(2, 34), (2, 39), (0, (M (M 34 3) 18)), (3, 0)] [] z_LL M (fun r L1 M1 => wp xs (d + 1) mX0_daysToMatch 50 [(2, 38), (2, x1), (0, x2), (0, x3)] (z_ol r ++ []) L1 M1 P)) :
    wp xs (d + 1) mX0_daysToMatch 10 [(2, 38), (2, x1), (0, x2), (0, x3)] [] z_LL M P := by
  refine wp_run 2 (pc' := 13) (ls' := [(2, 38), (2, x1), (0, x2), (0, x3)]) (st' := [(0, 60), (0, x3)]) rfl ?_
  refine wp_if2 rfl rfl rfl (fun (c1 : 60 ≤ x3) => ?_) (fun (c1 : ¬ (60 ≤ x3)) => ?_)
  · refine wp_run 1 (pc' := 58) (ls' := [(2, 38), (2, x1), (0, x2), (0, x3)]) (st' := [(2, 38)]) rfl ?_
    refine wp_gf (pc' := 61) (t := 2) (v := 39) rfl rfl (by decide) rfl rfl (fx_38_1 hF) ?_
    refine wp_gf (pc' := 64) (t := 2) (v := 41) rfl rfl (by decide) rfl rfl (fx_39_1 hF) ?_
    refine wp_run 1 (pc' := 65) (ls' := [(2, 38), (2, x1), (0, x2), (0, x3)]) (st' := [(0, x2), (2, 41)]) rfl ?_
    refine wp_iald (pc' := 66) (v := (M 41 x2)) rfl rfl rfl (b1 c1) rfl ?_
    refine wp_run 1 (pc' := 67) (ls' := [(2, 38), (2, x1), (0, x2), (0, x3)]) (st' := [(0, (-1)), (0, (M 41 x2))]) rfl ?_
    refine wp_if2 rfl rfl rfl (fun (c2 : (M 41 x2) ≠ (-1)) => ?_) (fun (c2 : ¬ ((M 41 x2) ≠ (-1))) => ?_)
    · refine wp_run 1 (pc' := 75) (ls' := [(2, 38), (2, x1), (0, x2), (0, x3)]) (st' := [(2, 38)]) rfl ?_
      refine wp_gf (pc' := 78) (t := 2) (v := 39) rfl rfl (by decide) rfl rfl (fx_38_1 hF) ?_
      refine wp_gf (pc' := 81) (t := 0) (v := (M 39 6)) rfl rfl (by decide) rfl rfl rfl ?_
      refine wp_run 1 (pc' := 82) (ls' := [(2, 38), (2, x1), (0, x2), (0, x3)]) (st' := [(2, x1), (0, (M 39 6))]) rfl ?_
      refine wp_gf (pc' := 85) (t := 0) (v := (M x1 6)) rfl rfl (by decide) rfl (z_hl0 hx1) rfl ?_
      refine wp_run 1 (pc' := 86) (ls' := [(2, 38), (2, x1), (0, x2), (0, x3)]) (st' := [(0, (z_w ((M 39 6) - (M x1 6))))]) rfl ?_
      exact wp_ret rfl rfl (l1 c1 c2)
    · refine wp_run 2 (pc' := 86) (ls' := [(2, 38), (2, x1), (0, x2), (0, x3)]) (st' := [(0, (-1))]) rfl ?_
      exact wp_ret rfl rfl (l2 c1 c2)
  · refine wp_run 1 (pc' := 17) (ls' := [(2, 38), (2, x1), (0, x2), (0, x3)]) (st' := [(2, 38)]) rfl ?_
    refine wp_gf (pc' := 20) (t := 2) (v := 39) rfl rfl (by decide) rfl rfl (fx_38_1 hF) ?_
    refine wp_gf (pc' := 23) (t := 2) (v := 41) rfl rfl (by decide) rfl rfl (fx_39_1 hF) ?_
    refine wp_run 1 (pc' := 24) (ls' := [(2, 38), (2, x1), (0, x2), (0, x3)]) (st' := [(0, x2), (2, 41)]) rfl ?_
    refine wp_iald (pc' := 25) (v := (M 41 x2)) rfl rfl rfl (b2 c1) rfl ?_
    refine wp_run 1 (pc' := 26) (ls' := [(2, 38), (2, x1), (0, x2), (0, x3)]) (st' := [(0, (-1)), (0, (M 41 x2))]) rfl ?_
    refine wp_if2 rfl rfl rfl (fun (c3 : (M 41 x2) ≠ (-1)) => ?_) (fun (c3 : ¬ ((M 41 x2) ≠ (-1))) => ?_)
    · refine wp_run 1 (pc' := 58) (ls' := [(2, 38), (2, x1), (0, x2), (0, x3)]) (st' := [(2, 38)]) rfl ?_
      refine wp_gf (pc' := 61) (t := 2) (v := 39) rfl rfl (by decide) rfl rfl (fx_38_1 hF) ?_
      refine wp_gf (pc' := 64) (t := 2) (v := 41) rfl rfl (by decide) rfl rfl (fx_39_1 hF) ?_
      refine wp_run 1 (pc' := 65) (ls' := [(2, 38), (2, x1), (0, x2), (0, x3)]) (st' := [(0, x2), (2, 41)]) rfl ?_
      refine wp_iald (pc' := 66) (v := (M 41 x2)) rfl rfl rfl (b3 c1 c3) rfl ?_
      refine wp_run 1 (pc' := 67) (ls' := [(2, 38), (2, x1), (0, x2), (0, x3)]) (st' := [(0, (-1)), (0, (M 41 x2))]) rfl ?_
      refine wp_if2 rfl rfl rfl (fun (c4 : (M 41 x2) ≠ (-1)) => ?_) (fun (c4 : ¬ ((M 41 x2) ≠ (-1))) => ?_)
      · refine wp_run 1 (pc' := 75) (ls' := [(2, 38), (2, x1), (0, x2), (0, x3)]) (st' := [(2, 38)]) rfl ?_
        refine wp_gf (pc' := 78) (t := 2) (v := 39) rfl rfl (by decide) rfl rfl (fx_38_1 hF) ?_
        refine wp_gf (pc' := 81) (t := 0) (v := (M 39 6)) rfl rfl (by decide) rfl rfl rfl ?_
        refine wp_run 1 (pc' := 82) (ls' := [(2, 38), (2, x1), (0, x2), (0, x3)]) (st' := [(2, x1), (0, (M 39 6))]) rfl ?_
        refine wp_gf (pc' := 85) (t := 0) (v := (M x1 6)) rfl rfl (by decide) rfl (z_hl0 hx1) rfl ?_
        refine wp_run 1 (pc' := 86) (ls' := [(2, 38), (2, x1), (0, x2), (0, x3)]) (st' := [(0, (z_w ((M 39 6) - (M x1 6))))]) rfl ?_
        exact wp_ret rfl rfl (l3 c1 c3 c4)
      · refine wp_run 2 (pc' := 86) (ls' := [(2, 38), (2, x1), (0, x2), (0, x3)]) (st' := [(0, (-1))]) rfl ?_
        exact wp_ret rfl rfl (l4 c1 c3 c4)
    · refine wp_run 1 (pc' := 30) (ls' := [(2, 38), (2, x1), (0, x2), (0, x3)]) (st' := [(2, 38)]) rfl ?_
      refine wp_gf (pc' := 33) (t := 2) (v := 34) rfl rfl (by decide) rfl rfl (fx_38_0 hF) ?_
      refine wp_run 1 (pc' := 34) (ls' := [(2, 38), (2, x1), (0, x2), (0, x3)]) (st' := [(2, 38), (2, 34)]) rfl ?_
      refine wp_gf (pc' := 37) (t := 2) (v := 39) rfl rfl (by decide) rfl rfl (fx_38_1 hF) ?_
      refine wp_run 1 (pc' := 38) (ls' := [(2, 38), (2, x1), (0, x2), (0, x3)]) (st' := [(2, 38), (2, 39), (2, 34)]) rfl ?_
      refine wp_gf (pc' := 41) (t := 2) (v := 34) rfl rfl (by decide) rfl rfl (fx_38_0 hF) ?_
      refine wp_gf (pc' := 44) (t := 2) (v := (M 34 3)) rfl rfl (by decide) rfl rfl rfl ?_
      refine wp_gf (pc' := 47) (t := 0) (v := (M (M 34 3) 18)) rfl rfl (by decide) rfl (z_gl0 hg2) rfl ?_
      refine wp_callv (pc' := 50) (as := [(2, 34), (2, 39), (0, (M (M 34 3) 18))]) (rest := []) (ls1 := [(2, 34), (2, 39), (0, (M (M 34 3) 18)), (3, 0)]) rfl rfl rfl rfl rfl rfl ?_
      exact l5 c1 c3
set_option maxRecDepth 20000 in
theorem gX0_daysToMatch_50 {xs : List Int} {d : Nat} {M : z_M} {P : Option z_V → z_L → z_M → Prop} {x1 : Int} {x2 : Int} {x3 : Int} {s0 : Int} (hx1 : z_her M x1)
    (l1 : wp xs d mX0_daysToMatch 10 [(2, 38), (2, x1), (0, x2), (0, (z_w (x3 + 1)))] [] z_LL M P) :
    wp xs d mX0_daysToMatch 50 [(2, 38), (2, x1), (0, x2), (0, x3)] [(0, s0)] z_LL M P := by
  refine wp_run 3 (pc' := 10) (ls' := [(2, 38), (2, x1), (0, x2), (0, (z_w (x3 + 1)))]) (st' := []) rfl ?_
  exact l1
set_option maxRecDepth 20000 in
theorem gX0_eachIsLookedAt_0 {xs : List Int} {d : Nat} {M : z_M} {P : Option z_V → z_L → z_M → Prop} {a1 : Int} {a2 : Int} {a3 : Int} (hF : z_fix M) 
    (b1 : 0 ≤ (z_w ((z_w (a1 * 25)) + a2)) ∧ (z_w ((z_w (a1 * 25)) + a2)) < 625)
    (l1 : ((z_and (z_shr (M 45 (z_w ((z_w (a1 * 25)) + a2))) a3) 1) = 0) → P (some (0, 0)) z_LL M)
    (b2 : (¬ ((z_and (z_shr (M 45 (z_w ((z_w (a1 * 25)) + a2))) a3) 1) = 0)) → 0 ≤ (z_w ((z_w (a1 * 25)) + a3)) ∧ (z_w ((z_w (a1 * 25)) + a3)) < 625)
    (l2 : (¬ ((z_and (z_shr (M 45 (z_w ((z_w (a1 * 25)) + a2))) a3) 1) = 0)) → ((z_and (z_shr (M 45 (z_w ((z_w (a1 * 25)) + a3))) a2) 1) = 0) → P (some (0, 0)) z_LL M)
    (b3 : (¬ ((z_and (z_shr (M 45 (z_w ((z_w (a1 * 25)) + a2))) a3) 1) = 0)) → (¬ ((z_and (z_shr (M 45 (z_w ((z_w (a1 * 25)) + a3))) a2) 1) = 0)) → 0 ≤ (z_w ((z_w (a2 * 25)) + a3)) ∧ (z_w ((z_w (a2 * 25)) + a3)) < 625)
    (l3 : (¬ ((z_and (z_shr (M 45 (z_w ((z_w (a1 * 25)) + a2))) a3) 1) = 0)) → (¬ ((z_and (z_shr (M 45 (z_w ((z_w (a1 * 25)) + a3))) a2) 1) = 0)) → ((z_and (z_shr (M 45 (z_w ((z_w (a2 * 25)) + a3))) a1) 1) = 0) → P (some (0, 0)) z_LL M)
    (l4 : (¬ ((z_and (z_shr (M 45 (z_w ((z_w (a1 * 25)) + a2))) a3) 1) = 0)) → (¬ ((z_and (z_shr (M 45 (z_w ((z_w (a1 * 25)) + a3))) a2) 1) = 0)) → (¬ ((z_and (z_shr (M 45 (z_w ((z_w (a2 * 25)) + a3))) a1) 1) = 0)) → P (some (0, 1)) z_LL M) :
    wp xs d mX0_eachIsLookedAt 0 [(2, 38), (0, a1), (0, a2), (0, a3)] [] z_LL M P := by
  refine wp_run 1 (pc' := 1) (ls' := [(2, 38), (0, a1), (0, a2), (0, a3)]) (st' := [(2, 38)]) rfl ?_
  refine wp_gf (pc' := 4) (t := 2) (v := 45) rfl rfl (by decide) rfl rfl (fx_38_2 hF) ?_
  refine wp_run 5 (pc' := 10) (ls' := [(2, 38), (0, a1), (0, a2), (0, a3)]) (st' := [(0, (z_w ((z_w (a1 * 25)) + a2))), (2, 45)]) rfl ?_
  refine wp_iald (pc' := 11) (v := (M 45 (z_w ((z_w (a1 * 25)) + a2)))) rfl rfl rfl (b1) rfl ?_
  refine wp_run 4 (pc' := 15) (ls' := [(2, 38), (0, a1), (0, a2), (0, a3)]) (st' := [(0, (z_and (z_shr (M 45 (z_w ((z_w (a1 * 25)) + a2))) a3) 1))]) rfl ?_
  refine wp_if1 rfl rfl rfl (fun (c1 : (z_and (z_shr (M 45 (z_w ((z_w (a1 * 25)) + a2))) a3) 1) = 0) => ?_) (fun (c1 : ¬ ((z_and (z_shr (M 45 (z_w ((z_w (a1 * 25)) + a2))) a3) 1) = 0)) => ?_)
  · refine wp_run 1 (pc' := 59) (ls' := [(2, 38), (0, a1), (0, a2), (0, a3)]) (st' := [(0, 0)]) rfl ?_
    exact wp_ret rfl rfl (l1 c1)
  · refine wp_run 1 (pc' := 19) (ls' := [(2, 38), (0, a1), (0, a2), (0, a3)]) (st' := [(2, 38)]) rfl ?_
    refine wp_gf (pc' := 22) (t := 2) (v := 45) rfl rfl (by decide) rfl rfl (fx_38_2 hF) ?_
    refine wp_run 5 (pc' := 28) (ls' := [(2, 38), (0, a1), (0, a2), (0, a3)]) (st' := [(0, (z_w ((z_w (a1 * 25)) + a3))), (2, 45)]) rfl ?_
    refine wp_iald (pc' := 29) (v := (M 45 (z_w ((z_w (a1 * 25)) + a3)))) rfl rfl rfl (b2 c1) rfl ?_
    refine wp_run 4 (pc' := 33) (ls' := [(2, 38), (0, a1), (0, a2), (0, a3)]) (st' := [(0, (z_and (z_shr (M 45 (z_w ((z_w (a1 * 25)) + a3))) a2) 1))]) rfl ?_
    refine wp_if1 rfl rfl rfl (fun (c2 : (z_and (z_shr (M 45 (z_w ((z_w (a1 * 25)) + a3))) a2) 1) = 0) => ?_) (fun (c2 : ¬ ((z_and (z_shr (M 45 (z_w ((z_w (a1 * 25)) + a3))) a2) 1) = 0)) => ?_)
    · refine wp_run 1 (pc' := 59) (ls' := [(2, 38), (0, a1), (0, a2), (0, a3)]) (st' := [(0, 0)]) rfl ?_
      exact wp_ret rfl rfl (l2 c1 c2)
    · refine wp_run 1 (pc' := 37) (ls' := [(2, 38), (0, a1), (0, a2), (0, a3)]) (st' := [(2, 38)]) rfl ?_
      refine wp_gf (pc' := 40) (t := 2) (v := 45) rfl rfl (by decide) rfl rfl (fx_38_2 hF) ?_
      refine wp_run 5 (pc' := 46) (ls' := [(2, 38), (0, a1), (0, a2), (0, a3)]) (st' := [(0, (z_w ((z_w (a2 * 25)) + a3))), (2, 45)]) rfl ?_
      refine wp_iald (pc' := 47) (v := (M 45 (z_w ((z_w (a2 * 25)) + a3)))) rfl rfl rfl (b3 c1 c2) rfl ?_
      refine wp_run 4 (pc' := 51) (ls' := [(2, 38), (0, a1), (0, a2), (0, a3)]) (st' := [(0, (z_and (z_shr (M 45 (z_w ((z_w (a2 * 25)) + a3))) a1) 1))]) rfl ?_
      refine wp_if1 rfl rfl rfl (fun (c3 : (z_and (z_shr (M 45 (z_w ((z_w (a2 * 25)) + a3))) a1) 1) = 0) => ?_) (fun (c3 : ¬ ((z_and (z_shr (M 45 (z_w ((z_w (a2 * 25)) + a3))) a1) 1) = 0)) => ?_)
      · refine wp_run 1 (pc' := 59) (ls' := [(2, 38), (0, a1), (0, a2), (0, a3)]) (st' := [(0, 0)]) rfl ?_
        exact wp_ret rfl rfl (l3 c1 c2 c3)
      · refine wp_run 2 (pc' := 59) (ls' := [(2, 38), (0, a1), (0, a2), (0, a3)]) (st' := [(0, 1)]) rfl ?_
        exact wp_ret rfl rfl (l4 c1 c2 c3)
set_option maxRecDepth 20000 in
theorem gX0_explains_0 {xs : List Int} {d : Nat} {M : z_M} {P : Option z_V → z_L → z_M → Prop} {a1 : Int} {a2 : Int} {a4 : Int} {a5 : Int} (hF : z_fix M) (ha1 : z_her M a1) (hn1 : a1 ≠ 39)
    (b1 : 0 ≤ a2 ∧ a2 < 25)
    (l1 : wp xs (d + 1) mX0_explains 22 [(2, 38), (2, a1), (0, a2), (2, 294), (0, a4), (0, a5), (0, 0)] [] z_LL (z_up (z_up (z_up (z_up (z_cpy (z_cpy (z_cpy (z_cpy (z_cpy M (a1 + 1) 0 40 0 6) (a1 + 2) 0 41 0 6) (a1 + 3) 0 42 0 25) (a1 + 4) 0 43 0 25) (a1 + 5) 0 44 0 36) 39 5 (M a1 5)) 39 6 (M a1 6)) 39 7 (M a1 7)) 43 a2 9) P) :
    wp xs (d + 1) mX0_explains 0 [(2, 38), (2, a1), (0, a2), (2, 294), (0, a4), (0, a5), (3, 0)] [] z_LL M P := by
  refine wp_run 1 (pc' := 1) (ls' := [(2, 38), (2, a1), (0, a2), (2, 294), (0, a4), (0, a5), (3, 0)]) (st' := [(2, 38)]) rfl ?_
  refine wp_gf (pc' := 4) (t := 2) (v := 39) rfl rfl (by decide) rfl rfl (fx_38_1 hF) ?_
  refine wp_run 1 (pc' := 5) (ls' := [(2, 38), (2, a1), (0, a2), (2, 294), (0, a4), (0, a5), (3, 0)]) (st' := [(2, a1), (2, 39)]) rfl ?_
  refine wp_callv (pc' := 8) (as := [(2, 39), (2, a1)]) (rest := []) (ls1 := [(2, 39), (2, a1)]) rfl rfl rfl rfl rfl rfl ?_
  refine wp_run 1 (pc' := 1) (ls' := [(2, 39), (2, a1)]) (st' := [(2, a1)]) rfl ?_
  refine wp_gf (pc' := 4) (t := 2) (v := (a1 + 1)) rfl rfl (by decide) rfl (z_hl0 ha1) (z_hf0 ha1) ?_
  refine wp_run 2 (pc' := 6) (ls' := [(2, 39), (2, a1)]) (st' := [(2, 39), (0, 0), (2, (a1 + 1))]) rfl ?_
  refine wp_gf (pc' := 9) (t := 2) (v := 40) rfl rfl (by decide) rfl rfl (fx_39_0 hF) ?_
  refine wp_run 2 (pc' := 12) (ls' := [(2, 39), (2, a1)]) (st' := [(0, 6), (0, 0), (2, 40), (0, 0), (2, (a1 + 1))]) rfl ?_
  refine wp_acp (pc' := 15) rfl rfl (z_hl1 ha1) rfl (by decide) ?_
  refine wp_run 1 (pc' := 16) (ls' := [(2, 39), (2, a1)]) (st' := [(2, a1)]) rfl ?_
  refine wp_gf (pc' := 19) (t := 2) (v := (a1 + 2)) rfl rfl (by decide) rfl (z_hl0 ha1) (z_cpq (by have := z_hr ha1; omega) (z_hf1 ha1)) ?_
  refine wp_run 2 (pc' := 21) (ls' := [(2, 39), (2, a1)]) (st' := [(2, 39), (0, 0), (2, (a1 + 2))]) rfl ?_
  refine wp_gf (pc' := 24) (t := 2) (v := 41) rfl rfl (by decide) rfl rfl (z_cpq (by decide) (fx_39_1 hF)) ?_
  refine wp_run 2 (pc' := 27) (ls' := [(2, 39), (2, a1)]) (st' := [(0, 6), (0, 0), (2, 41), (0, 0), (2, (a1 + 2))]) rfl ?_
  refine wp_acp (pc' := 30) rfl rfl (z_hl2 ha1) rfl (by decide) ?_
  refine wp_run 1 (pc' := 31) (ls' := [(2, 39), (2, a1)]) (st' := [(2, a1)]) rfl ?_
  refine wp_gf (pc' := 34) (t := 2) (v := (a1 + 3)) rfl rfl (by decide) rfl (z_hl0 ha1) (z_cpq (by have := z_hr ha1; omega) (z_cpq (by have := z_hr ha1; omega) (z_hf2 ha1))) ?_
  refine wp_run 2 (pc' := 36) (ls' := [(2, 39), (2, a1)]) (st' := [(2, 39), (0, 0), (2, (a1 + 3))]) rfl ?_
  refine wp_gf (pc' := 39) (t := 2) (v := 42) rfl rfl (by decide) rfl rfl (z_cpq (by decide) (z_cpq (by decide) (fx_39_2 hF))) ?_
  refine wp_run 2 (pc' := 42) (ls' := [(2, 39), (2, a1)]) (st' := [(0, 25), (0, 0), (2, 42), (0, 0), (2, (a1 + 3))]) rfl ?_
  refine wp_acp (pc' := 45) rfl rfl (z_hl3 ha1) rfl (by decide) ?_
  refine wp_run 1 (pc' := 46) (ls' := [(2, 39), (2, a1)]) (st' := [(2, a1)]) rfl ?_
  refine wp_gf (pc' := 49) (t := 2) (v := (a1 + 4)) rfl rfl (by decide) rfl (z_hl0 ha1) (z_cpq (by have := z_hr ha1; omega) (z_cpq (by have := z_hr ha1; omega) (z_cpq (by have := z_hr ha1; omega) (z_hf3 ha1)))) ?_
  refine wp_run 2 (pc' := 51) (ls' := [(2, 39), (2, a1)]) (st' := [(2, 39), (0, 0), (2, (a1 + 4))]) rfl ?_
  refine wp_gf (pc' := 54) (t := 2) (v := 43) rfl rfl (by decide) rfl rfl (z_cpq (by decide) (z_cpq (by decide) (z_cpq (by decide) (fx_39_3 hF)))) ?_
  refine wp_run 2 (pc' := 57) (ls' := [(2, 39), (2, a1)]) (st' := [(0, 25), (0, 0), (2, 43), (0, 0), (2, (a1 + 4))]) rfl ?_
  refine wp_acp (pc' := 60) rfl rfl (z_hl4 ha1) rfl (by decide) ?_
  refine wp_run 1 (pc' := 61) (ls' := [(2, 39), (2, a1)]) (st' := [(2, a1)]) rfl ?_
  refine wp_gf (pc' := 64) (t := 2) (v := (a1 + 5)) rfl rfl (by decide) rfl (z_hl0 ha1) (z_cpq (by have := z_hr ha1; omega) (z_cpq (by have := z_hr ha1; omega) (z_cpq (by have := z_hr ha1; omega) (z_cpq (by have := z_hr ha1; omega) (z_hf4 ha1))))) ?_
  refine wp_run 2 (pc' := 66) (ls' := [(2, 39), (2, a1)]) (st' := [(2, 39), (0, 0), (2, (a1 + 5))]) rfl ?_
  refine wp_gf (pc' := 69) (t := 2) (v := 44) rfl rfl (by decide) rfl rfl (z_cpq (by decide) (z_cpq (by decide) (z_cpq (by decide) (z_cpq (by decide) (fx_39_4 hF))))) ?_
  refine wp_run 2 (pc' := 71) (ls' := [(2, 39), (2, a1)]) (st' := [(2, 39), (0, 0), (2, 44), (0, 0), (2, (a1 + 5))]) rfl ?_
  refine wp_gf (pc' := 74) (t := 2) (v := 44) rfl rfl (by decide) rfl rfl (z_cpq (by decide) (z_cpq (by decide) (z_cpq (by decide) (z_cpq (by decide) (fx_39_4 hF))))) ?_
  refine wp_len (pc' := 75) rfl rfl rfl (by decide) ?_
  refine wp_acp (pc' := 78) rfl rfl (z_hl5 ha1) rfl (by decide) ?_
  refine wp_run 2 (pc' := 80) (ls' := [(2, 39), (2, a1)]) (st' := [(2, a1), (2, 39)]) rfl ?_
  refine wp_gf (pc' := 83) (t := 0) (v := (M a1 5)) rfl rfl (by decide) rfl (z_hl0 ha1) (z_cpq (by have := z_hr ha1; omega) (z_cpq (by have := z_hr ha1; omega) (z_cpq (by have := z_hr ha1; omega) (z_cpq (by have := z_hr ha1; omega) (z_cpq (by have := z_hr ha1; omega) rfl))))) ?_
  refine wp_pf (pc' := 86) rfl rfl rfl rfl (fun z => absurd z (by decide)) (fun z => absurd z (by decide)) ?_
  refine wp_run 2 (pc' := 88) (ls' := [(2, 39), (2, a1)]) (st' := [(2, a1), (2, 39)]) rfl ?_
  refine wp_gf (pc' := 91) (t := 0) (v := (M a1 6)) rfl rfl (by decide) rfl (z_hl0 ha1) (z_upq (by have := z_hr ha1; omega) (z_cpq (by have := z_hr ha1; omega) (z_cpq (by have := z_hr ha1; omega) (z_cpq (by have := z_hr ha1; omega) (z_cpq (by have := z_hr ha1; omega) (z_cpq (by have := z_hr ha1; omega) rfl)))))) ?_
  refine wp_pf (pc' := 94) rfl rfl rfl rfl (fun z => absurd z (by decide)) (fun z => absurd z (by decide)) ?_
  refine wp_run 2 (pc' := 96) (ls' := [(2, 39), (2, a1)]) (st' := [(2, a1), (2, 39)]) rfl ?_
  refine wp_gf (pc' := 99) (t := 0) (v := (M a1 7)) rfl rfl (by decide) rfl (z_hl0 ha1) (z_upq (by have := z_hr ha1; omega) (z_upq (by have := z_hr ha1; omega) (z_cpq (by have := z_hr ha1; omega) (z_cpq (by have := z_hr ha1; omega) (z_cpq (by have := z_hr ha1; omega) (z_cpq (by have := z_hr ha1; omega) (z_cpq (by have := z_hr ha1; omega) rfl))))))) ?_
  refine wp_pf (pc' := 102) rfl rfl rfl rfl (fun z => absurd z (by decide)) (fun z => absurd z (by decide)) ?_
  refine wp_ret rfl rfl ?_
  show wp xs _ mX0_explains 8 [(2, 38), (2, a1), (0, a2), (2, 294), (0, a4), (0, a5), (3, 0)] [] z_LL (z_up (z_up (z_up (z_cpy (z_cpy (z_cpy (z_cpy (z_cpy M (a1 + 1) 0 40 0 6) (a1 + 2) 0 41 0 6) (a1 + 3) 0 42 0 25) (a1 + 4) 0 43 0 25) (a1 + 5) 0 44 0 36) 39 5 (M a1 5)) 39 6 (M a1 6)) 39 7 (M a1 7)) _
  refine wp_run 1 (pc' := 9) (ls' := [(2, 38), (2, a1), (0, a2), (2, 294), (0, a4), (0, a5), (3, 0)]) (st' := [(2, 38)]) rfl ?_
  refine wp_gf (pc' := 12) (t := 2) (v := 39) rfl rfl (by decide) rfl rfl (z_upq (by decide) (z_upq (by decide) (z_upq (by decide) (z_cpq (by decide) (z_cpq (by decide) (z_cpq (by decide) (z_cpq (by decide) (z_cpq (by decide) (fx_38_1 hF))))))))) ?_
  refine wp_gf (pc' := 15) (t := 2) (v := 43) rfl rfl (by decide) rfl rfl (z_upi (by decide) (z_upi (by decide) (z_upi (by decide) (z_cpq (by decide) (z_cpq (by decide) (z_cpq (by decide) (z_cpq (by decide) (z_cpq (by decide) (fx_39_3 hF))))))))) ?_
  refine wp_run 2 (pc' := 18) (ls' := [(2, 38), (2, a1), (0, a2), (2, 294), (0, a4), (0, a5), (3, 0)]) (st' := [(0, 9), (0, a2), (2, 43)]) rfl ?_
  refine wp_iast (pc' := 19) rfl rfl rfl (b1) ?_
  refine wp_run 2 (pc' := 22) (ls' := [(2, 38), (2, a1), (0, a2), (2, 294), (0, a4), (0, a5), (0, 0)]) (st' := []) rfl ?_
  exact l1
set_option maxRecDepth 20000 in
theorem gX0_explains_22 {xs : List Int} {d : Nat} {M : z_M} {P : Option z_V → z_L → z_M → Prop} {x1 : Int} {x2 : Int} {x4 : Int} {x5 : Int} {x6 : Int} (hF : z_fix M) (hx1 : z_her M x1)
    (l1 : (x5 < x6) → P (some (0, 1)) z_LL M)
    (l2 : (¬ (x5 < x6)) → wp xs d mX6_agree 0 [(2, 294), (2, 39), (0, x6), (0, x4), (3, 0), (3, 0)] [] z_LL M (fun r L1 M1 => wp xs (d + 1) mX0_explains 41 [(2, 38), (2, x1), (0, x2), (2, 294), (0, x4), (0, x5), (0, x6)] (z_ol r ++ []) L1 M1 P)) :
    wp xs (d + 1) mX0_explains 22 [(2, 38), (2, x1), (0, x2), (2, 294), (0, x4), (0, x5), (0, x6)] [] z_LL M P := by
  refine wp_run 2 (pc' := 26) (ls' := [(2, 38), (2, x1), (0, x2), (2, 294), (0, x4), (0, x5), (0, x6)]) (st' := [(0, x5), (0, x6)]) rfl ?_
  refine wp_if2 rfl rfl rfl (fun (c1 : x5 < x6) => ?_) (fun (c1 : ¬ (x5 < x6)) => ?_)
  · refine wp_run 1 (pc' := 82) (ls' := [(2, 38), (2, x1), (0, x2), (2, 294), (0, x4), (0, x5), (0, x6)]) (st' := [(0, 1)]) rfl ?_
    exact wp_ret rfl rfl (l1 c1)
  · refine wp_run 2 (pc' := 31) (ls' := [(2, 38), (2, x1), (0, x2), (2, 294), (0, x4), (0, x5), (0, x6)]) (st' := [(2, 38), (2, 294)]) rfl ?_
    refine wp_gf (pc' := 34) (t := 2) (v := 39) rfl rfl (by decide) rfl rfl (fx_38_1 hF) ?_
    refine wp_run 2 (pc' := 38) (ls' := [(2, 38), (2, x1), (0, x2), (2, 294), (0, x4), (0, x5), (0, x6)]) (st' := [(0, x4), (0, x6), (2, 39), (2, 294)]) rfl ?_
    refine wp_callv (pc' := 41) (as := [(2, 294), (2, 39), (0, x6), (0, x4)]) (rest := []) (ls1 := [(2, 294), (2, 39), (0, x6), (0, x4), (3, 0), (3, 0)]) rfl rfl rfl rfl rfl rfl ?_
    exact l2 c1
set_option maxRecDepth 20000 in
theorem gX0_explains_41 {xs : List Int} {d : Nat} {M : z_M} {P : Option z_V → z_L → z_M → Prop} {x1 : Int} {x2 : Int} {x4 : Int} {x5 : Int} {x6 : Int} {s0 : Int} (hF : z_fix M) (hx1 : z_her M x1) (hg2 : z_gor M (M 34 3))
    (l1 : (s0 ≠ 0) → (x5 ≤ x6) → wp xs (d + 1) mX0_explains 22 [(2, 38), (2, x1), (0, x2), (2, 294), (0, x4), (0, x5), (0, (z_w (x6 + 1)))] [] z_LL M P)
    (l2 : (s0 ≠ 0) → (¬ (x5 ≤ x6)) → wp xs d mX8_pass 0 [(2, 34), (2, 39), (0, (M (M 34 3) 18)), (3, 0)] [] z_LL M (fun r L1 M1 => wp xs (d + 1) mX0_explains 74 [(2, 38), (2, x1), (0, x2), (2, 294), (0, x4), (0, x5), (0, x6)] (z_ol r ++ []) L1 M1 P))
    (l3 : (¬ (s0 ≠ 0)) → P (some (0, 0)) z_LL M) :
    wp xs (d + 1) mX0_explains 41 [(2, 38), (2, x1), (0, x2), (2, 294), (0, x4), (0, x5), (0, x6)] [(0, s0)] z_LL M P := by
  refine wp_if1 rfl rfl rfl (fun (c1 : s0 ≠ 0) => ?_) (fun (c1 : ¬ (s0 ≠ 0)) => ?_)
  · refine wp_run 2 (pc' := 50) (ls' := [(2, 38), (2, x1), (0, x2), (2, 294), (0, x4), (0, x5), (0, x6)]) (st' := [(0, x5), (0, x6)]) rfl ?_
    refine wp_if2 rfl rfl rfl (fun (c2 : x5 ≤ x6) => ?_) (fun (c2 : ¬ (x5 ≤ x6)) => ?_)
    · refine wp_run 2 (pc' := 22) (ls' := [(2, 38), (2, x1), (0, x2), (2, 294), (0, x4), (0, x5), (0, (z_w (x6 + 1)))]) (st' := []) rfl ?_
      exact l1 c1 c2
    · refine wp_run 1 (pc' := 54) (ls' := [(2, 38), (2, x1), (0, x2), (2, 294), (0, x4), (0, x5), (0, x6)]) (st' := [(2, 38)]) rfl ?_
      refine wp_gf (pc' := 57) (t := 2) (v := 34) rfl rfl (by decide) rfl rfl (fx_38_0 hF) ?_
      refine wp_run 1 (pc' := 58) (ls' := [(2, 38), (2, x1), (0, x2), (2, 294), (0, x4), (0, x5), (0, x6)]) (st' := [(2, 38), (2, 34)]) rfl ?_
      refine wp_gf (pc' := 61) (t := 2) (v := 39) rfl rfl (by decide) rfl rfl (fx_38_1 hF) ?_
      refine wp_run 1 (pc' := 62) (ls' := [(2, 38), (2, x1), (0, x2), (2, 294), (0, x4), (0, x5), (0, x6)]) (st' := [(2, 38), (2, 39), (2, 34)]) rfl ?_
      refine wp_gf (pc' := 65) (t := 2) (v := 34) rfl rfl (by decide) rfl rfl (fx_38_0 hF) ?_
      refine wp_gf (pc' := 68) (t := 2) (v := (M 34 3)) rfl rfl (by decide) rfl rfl rfl ?_
      refine wp_gf (pc' := 71) (t := 0) (v := (M (M 34 3) 18)) rfl rfl (by decide) rfl (z_gl0 hg2) rfl ?_
      refine wp_callv (pc' := 74) (as := [(2, 34), (2, 39), (0, (M (M 34 3) 18))]) (rest := []) (ls1 := [(2, 34), (2, 39), (0, (M (M 34 3) 18)), (3, 0)]) rfl rfl rfl rfl rfl rfl ?_
      exact l2 c1 c2
  · refine wp_run 1 (pc' := 45) (ls' := [(2, 38), (2, x1), (0, x2), (2, 294), (0, x4), (0, x5), (0, x6)]) (st' := [(0, 0)]) rfl ?_
    exact wp_ret rfl rfl (l3 c1)
set_option maxRecDepth 20000 in
theorem gX0_explains_74 {xs : List Int} {d : Nat} {M : z_M} {P : Option z_V → z_L → z_M → Prop} {x1 : Int} {x2 : Int} {x4 : Int} {x5 : Int} {x6 : Int} {s0 : Int} (hx1 : z_her M x1)
    (l1 : wp xs d mX0_explains 22 [(2, 38), (2, x1), (0, x2), (2, 294), (0, x4), (0, x5), (0, (z_w (x6 + 1)))] [] z_LL M P) :
    wp xs d mX0_explains 74 [(2, 38), (2, x1), (0, x2), (2, 294), (0, x4), (0, x5), (0, x6)] [(0, s0)] z_LL M P := by
  refine wp_run 3 (pc' := 22) (ls' := [(2, 38), (2, x1), (0, x2), (2, 294), (0, x4), (0, x5), (0, (z_w (x6 + 1)))]) (st' := []) rfl ?_
  exact l1
set_option maxRecDepth 20000 in
theorem gX0_leastOne_0 {xs : List Int} {d : Nat} {M : z_M} {P : Option z_V → z_L → z_M → Prop} {a1 : Int} {a2 : Int} (ha1 : z_her M a1)
    (l1 : wp xs d mX0_leastOne 2 [(2, 38), (2, a1), (0, a2), (0, 0), (3, 0)] [] z_LL M P) :
    wp xs d mX0_leastOne 0 [(2, 38), (2, a1), (0, a2), (3, 0), (3, 0)] [] z_LL M P := by
  refine wp_run 2 (pc' := 2) (ls' := [(2, 38), (2, a1), (0, a2), (0, 0), (3, 0)]) (st' := []) rfl ?_
  exact l1
set_option maxRecDepth 20000 in
theorem gX0_leastOne_2 {xs : List Int} {d : Nat} {M : z_M} {P : Option z_V → z_L → z_M → Prop} {x1 : Int} {x2 : Int} {x3 : Int} {w4 : z_V} (hF : z_fix M) (hx1 : z_her M x1) (hg2 : z_gor M (M 34 3))
    (l1 : ((z_w ((M (M 34 3) 10) * (M (M 34 3) 11))) ≤ x3) → P (some (0, (-1))) z_LL M)
    (b1 : (¬ ((z_w ((M (M 34 3) 10) * (M (M 34 3) 11))) ≤ x3)) → 0 ≤ x3 ∧ x3 < 25)
    (b2 : (¬ ((z_w ((M (M 34 3) 10) * (M (M 34 3) 11))) ≤ x3)) → ((M (x1 + 4) x3) ≤ 0) → ((z_and (z_shr x2 x3) 1) = 0) → 0 ≤ (z_w ((z_w (x3 * 25)) + x3)) ∧ (z_w ((z_w (x3 * 25)) + x3)) < 625)
    (l2 : (¬ ((z_w ((M (M 34 3) 10) * (M (M 34 3) 11))) ≤ x3)) → ((M (x1 + 4) x3) ≤ 0) → ((z_and (z_shr x2 x3) 1) = 0) → wp xs (d + 1) mX0_leastOne 2 [(2, 38), (2, x1), (0, x2), (0, (z_w (x3 + 1))), (0, x2)] [] z_LL (z_up M 45 (z_w ((z_w (x3 * 25)) + x3)) x2) P)
    (l3 : (¬ ((z_w ((M (M 34 3) 10) * (M (M 34 3) 11))) ≤ x3)) → ((M (x1 + 4) x3) ≤ 0) → (¬ ((z_and (z_shr x2 x3) 1) = 0)) → wp xs d mX0_mixEnough 0 [(2, 38), (2, x1), (0, (z_shl 1 x3)), (0, 0), (3, 0), (3, 0), (3, 0)] [] z_LL M (fun r L1 M1 => wp xs (d + 1) mX0_leastOne 49 [(2, 38), (2, x1), (0, x2), (0, x3), (0, x2)] (z_ol r ++ []) L1 M1 P))
    (l4 : (¬ ((z_w ((M (M 34 3) 10) * (M (M 34 3) 11))) ≤ x3)) → (¬ ((M (x1 + 4) x3) ≤ 0)) → wp xs (d + 1) mX0_leastOne 2 [(2, 38), (2, x1), (0, x2), (0, (z_w (x3 + 1))), w4] [] z_LL M P) :
    wp xs (d + 1) mX0_leastOne 2 [(2, 38), (2, x1), (0, x2), (0, x3), w4] [] z_LL M P := by
  refine wp_run 2 (pc' := 4) (ls' := [(2, 38), (2, x1), (0, x2), (0, x3), w4]) (st' := [(2, 38), (0, x3)]) rfl ?_
  refine wp_gf (pc' := 7) (t := 2) (v := 34) rfl rfl (by decide) rfl rfl (fx_38_0 hF) ?_
  refine wp_gf (pc' := 10) (t := 2) (v := (M 34 3)) rfl rfl (by decide) rfl rfl rfl ?_
  refine wp_callv (pc' := 13) (as := [(2, (M 34 3))]) (rest := [(0, x3)]) (ls1 := [(2, (M 34 3))]) rfl rfl rfl rfl (z_args_v rfl rfl rfl rfl (Nat.le_of_ble_eq_true rfl) rfl (by decide) (z_gl0 hg2)) rfl ?_
  refine wp_run 1 (pc' := 1) (ls' := [(2, (M 34 3))]) (st' := [(2, (M 34 3))]) rfl ?_
  refine wp_gf (pc' := 4) (t := 0) (v := (M (M 34 3) 10)) rfl rfl (by decide) rfl (z_gl0 hg2) rfl ?_
  refine wp_run 1 (pc' := 5) (ls' := [(2, (M 34 3))]) (st' := [(2, (M 34 3)), (0, (M (M 34 3) 10))]) rfl ?_
  refine wp_gf (pc' := 8) (t := 0) (v := (M (M 34 3) 11)) rfl rfl (by decide) rfl (z_gl0 hg2) rfl ?_
  refine wp_run 1 (pc' := 9) (ls' := [(2, (M 34 3))]) (st' := [(0, (z_w ((M (M 34 3) 10) * (M (M 34 3) 11))))]) rfl ?_
  refine wp_ret rfl rfl ?_
  show wp xs _ mX0_leastOne 13 [(2, 38), (2, x1), (0, x2), (0, x3), w4] [(0, (z_w ((M (M 34 3) 10) * (M (M 34 3) 11)))), (0, x3)] z_LL M _
  refine wp_if2 rfl rfl rfl (fun (c1 : (z_w ((M (M 34 3) 10) * (M (M 34 3) 11))) ≤ x3) => ?_) (fun (c1 : ¬ ((z_w ((M (M 34 3) 10) * (M (M 34 3) 11))) ≤ x3)) => ?_)
  · refine wp_run 1 (pc' := 85) (ls' := [(2, 38), (2, x1), (0, x2), (0, x3), w4]) (st' := [(0, (-1))]) rfl ?_
    exact wp_ret rfl rfl (l1 c1)
  · refine wp_run 1 (pc' := 17) (ls' := [(2, 38), (2, x1), (0, x2), (0, x3), w4]) (st' := [(2, x1)]) rfl ?_
    refine wp_gf (pc' := 20) (t := 2) (v := (x1 + 4)) rfl rfl (by decide) rfl (z_hl0 hx1) (z_hf3 hx1) ?_
    refine wp_run 1 (pc' := 21) (ls' := [(2, 38), (2, x1), (0, x2), (0, x3), w4]) (st' := [(0, x3), (2, (x1 + 4))]) rfl ?_
    refine wp_iald (pc' := 22) (v := (M (x1 + 4) x3)) rfl rfl (z_hl4 hx1) (b1 c1) rfl ?_
    refine wp_if1 rfl rfl rfl (fun (c2 : (M (x1 + 4) x3) ≤ 0) => ?_) (fun (c2 : ¬ ((M (x1 + 4) x3) ≤ 0)) => ?_)
    · refine wp_run 7 (pc' := 37) (ls' := [(2, 38), (2, x1), (0, x2), (0, x3), (0, x2)]) (st' := [(0, (z_and (z_shr x2 x3) 1))]) rfl ?_
      refine wp_if1 rfl rfl rfl (fun (c3 : (z_and (z_shr x2 x3) 1) = 0) => ?_) (fun (c3 : ¬ ((z_and (z_shr x2 x3) 1) = 0)) => ?_)
      · refine wp_run 1 (pc' := 66) (ls' := [(2, 38), (2, x1), (0, x2), (0, x3), (0, x2)]) (st' := [(2, 38)]) rfl ?_
        refine wp_gf (pc' := 69) (t := 2) (v := 45) rfl rfl (by decide) rfl rfl (fx_38_2 hF) ?_
        refine wp_run 6 (pc' := 77) (ls' := [(2, 38), (2, x1), (0, x2), (0, x3), (0, x2)]) (st' := [(0, x2), (0, (z_w ((z_w (x3 * 25)) + x3))), (2, 45)]) rfl ?_
        refine wp_iast (pc' := 78) rfl rfl rfl (b2 c1 c2 c3) ?_
        refine wp_run 2 (pc' := 2) (ls' := [(2, 38), (2, x1), (0, x2), (0, (z_w (x3 + 1))), (0, x2)]) (st' := []) rfl ?_
        exact l2 c1 c2 c3
      · refine wp_run 6 (pc' := 46) (ls' := [(2, 38), (2, x1), (0, x2), (0, x3), (0, x2)]) (st' := [(0, 0), (0, (z_shl 1 x3)), (2, x1), (2, 38)]) rfl ?_
        refine wp_callv (pc' := 49) (as := [(2, 38), (2, x1), (0, (z_shl 1 x3)), (0, 0)]) (rest := []) (ls1 := [(2, 38), (2, x1), (0, (z_shl 1 x3)), (0, 0), (3, 0), (3, 0), (3, 0)]) rfl rfl rfl rfl rfl rfl ?_
        exact l3 c1 c2 c3
    · refine wp_run 3 (pc' := 2) (ls' := [(2, 38), (2, x1), (0, x2), (0, (z_w (x3 + 1))), w4]) (st' := []) rfl ?_
      exact l4 c1 c2
set_option maxRecDepth 20000 in
theorem gX0_leastOne_49 {xs : List Int} {d : Nat} {M : z_M} {P : Option z_V → z_L → z_M → Prop} {x1 : Int} {x2 : Int} {x3 : Int} {x4 : Int} {s0 : Int} (hF : z_fix M) (hx1 : z_her M x1)
    (b1 : (s0 = 0) → 0 ≤ (z_w ((z_w (x3 * 25)) + x3)) ∧ (z_w ((z_w (x3 * 25)) + x3)) < 625)
    (l1 : (s0 = 0) → wp xs d mX0_leastOne 2 [(2, 38), (2, x1), (0, x2), (0, (z_w (x3 + 1))), (0, (M 34 4))] [] z_LL (z_up M 45 (z_w ((z_w (x3 * 25)) + x3)) (M 34 4)) P)
    (l2 : (¬ (s0 = 0)) → P (some (0, (z_shl 1 x3))) z_LL M) :
    wp xs d mX0_leastOne 49 [(2, 38), (2, x1), (0, x2), (0, x3), (0, x4)] [(0, s0)] z_LL M P := by
  refine wp_if1 rfl rfl rfl (fun (c1 : s0 = 0) => ?_) (fun (c1 : ¬ (s0 = 0)) => ?_)
  · refine wp_run 1 (pc' := 57) (ls' := [(2, 38), (2, x1), (0, x2), (0, x3), (0, x4)]) (st' := [(2, 38)]) rfl ?_
    refine wp_gf (pc' := 60) (t := 2) (v := 34) rfl rfl (by decide) rfl rfl (fx_38_0 hF) ?_
    refine wp_gf (pc' := 63) (t := 0) (v := (M 34 4)) rfl rfl (by decide) rfl rfl rfl ?_
    refine wp_run 2 (pc' := 66) (ls' := [(2, 38), (2, x1), (0, x2), (0, x3), (0, (M 34 4))]) (st' := [(2, 38)]) rfl ?_
    refine wp_gf (pc' := 69) (t := 2) (v := 45) rfl rfl (by decide) rfl rfl (fx_38_2 hF) ?_
    refine wp_run 6 (pc' := 77) (ls' := [(2, 38), (2, x1), (0, x2), (0, x3), (0, (M 34 4))]) (st' := [(0, (M 34 4)), (0, (z_w ((z_w (x3 * 25)) + x3))), (2, 45)]) rfl ?_
    refine wp_iast (pc' := 78) rfl rfl rfl (b1 c1) ?_
    refine wp_run 2 (pc' := 2) (ls' := [(2, 38), (2, x1), (0, x2), (0, (z_w (x3 + 1))), (0, (M 34 4))]) (st' := []) rfl ?_
    exact l1 c1
  · refine wp_run 3 (pc' := 55) (ls' := [(2, 38), (2, x1), (0, x2), (0, x3), (0, x4)]) (st' := [(0, (z_shl 1 x3))]) rfl ?_
    exact wp_ret rfl rfl (l2 c1)
set_option maxRecDepth 20000 in
theorem gX0_leastPens_0 {xs : List Int} {d : Nat} {M : z_M} {P : Option z_V → z_L → z_M → Prop} {a1 : Int} (hF : z_fix M) (ha1 : z_her M a1) (hg2 : z_gor M (M 34 3))
    (l1 : wp xs d mX0_leastPens 15 [(2, 38), (2, a1), (0, (z_shl 1 (M (M 34 3) 12))), (0, 0), (3, 0), (3, 0)] [] z_LL M P) :
    wp xs d mX0_leastPens 0 [(2, 38), (2, a1), (3, 0), (3, 0), (3, 0), (3, 0)] [] z_LL M P := by
  refine wp_run 2 (pc' := 2) (ls' := [(2, 38), (2, a1), (3, 0), (3, 0), (3, 0), (3, 0)]) (st' := [(2, 38), (0, 1)]) rfl ?_
  refine wp_gf (pc' := 5) (t := 2) (v := 34) rfl rfl (by decide) rfl rfl (fx_38_0 hF) ?_
  refine wp_gf (pc' := 8) (t := 2) (v := (M 34 3)) rfl rfl (by decide) rfl rfl rfl ?_
  refine wp_gf (pc' := 11) (t := 0) (v := (M (M 34 3) 12)) rfl rfl (by decide) rfl (z_gl0 hg2) rfl ?_
  refine wp_run 4 (pc' := 15) (ls' := [(2, 38), (2, a1), (0, (z_shl 1 (M (M 34 3) 12))), (0, 0), (3, 0), (3, 0)]) (st' := []) rfl ?_
  exact l1
set_option maxRecDepth 20000 in
theorem gX0_leastPens_15 {xs : List Int} {d : Nat} {M : z_M} {P : Option z_V → z_L → z_M → Prop} {x1 : Int} {x2 : Int} {x3 : Int} {w4 : z_V} {w5 : z_V} (hF : z_fix M) (hx1 : z_her M x1) (hg2 : z_gor M (M 34 3))
    (l1 : ((M (M 34 3) 12) < x3) → P (some (0, (-1))) z_LL M)
    (l2 : (¬ ((M (M 34 3) 12) < x3)) → wp xs d mX0_leastPens 32 [(2, 38), (2, x1), (0, x2), (0, x3), (0, 0), w5] [] z_LL M P) :
    wp xs d mX0_leastPens 15 [(2, 38), (2, x1), (0, x2), (0, x3), w4, w5] [] z_LL M P := by
  refine wp_run 2 (pc' := 17) (ls' := [(2, 38), (2, x1), (0, x2), (0, x3), w4, w5]) (st' := [(2, 38), (0, x3)]) rfl ?_
  refine wp_gf (pc' := 20) (t := 2) (v := 34) rfl rfl (by decide) rfl rfl (fx_38_0 hF) ?_
  refine wp_gf (pc' := 23) (t := 2) (v := (M 34 3)) rfl rfl (by decide) rfl rfl rfl ?_
  refine wp_gf (pc' := 26) (t := 0) (v := (M (M 34 3) 12)) rfl rfl (by decide) rfl (z_gl0 hg2) rfl ?_
  refine wp_if2 rfl rfl rfl (fun (c1 : (M (M 34 3) 12) < x3) => ?_) (fun (c1 : ¬ ((M (M 34 3) 12) < x3)) => ?_)
  · refine wp_run 1 (pc' := 96) (ls' := [(2, 38), (2, x1), (0, x2), (0, x3), w4, w5]) (st' := [(0, (-1))]) rfl ?_
    exact wp_ret rfl rfl (l1 c1)
  · refine wp_run 2 (pc' := 32) (ls' := [(2, 38), (2, x1), (0, x2), (0, x3), (0, 0), w5]) (st' := []) rfl ?_
    exact l2 c1
set_option maxRecDepth 20000 in
theorem gX0_leastPens_32 {xs : List Int} {d : Nat} {M : z_M} {P : Option z_V → z_L → z_M → Prop} {x1 : Int} {x2 : Int} {x3 : Int} {x4 : Int} {w5 : z_V} (hx1 : z_her M x1)
    (l1 : (x2 ≤ x4) → wp xs (d + 1) mX0_leastPens 15 [(2, 38), (2, x1), (0, x2), (0, (z_w (x3 + 1))), (0, x4), w5] [] z_LL M P)
    (l2 : (¬ (x2 ≤ x4)) → ((z_and (z_w ((z_w ((z_and (z_w ((z_w ((z_and (z_w (x4 - (z_and (z_ushr x4 1) 1431655765))) 858993459) + (z_and (z_ushr (z_w (x4 - (z_and (z_ushr x4 1) 1431655765))) 2) 858993459))) + (z_ushr (z_w ((z_and (z_w (x4 - (z_and (z_ushr x4 1) 1431655765))) 858993459) + (z_and (z_ushr (z_w (x4 - (z_and (z_ushr x4 1) 1431655765))) 2) 858993459))) 4))) 252645135) + (z_ushr (z_and (z_w ((z_w ((z_and (z_w (x4 - (z_and (z_ushr x4 1) 1431655765))) 858993459) + (z_and (z_ushr (z_w (x4 - (z_and (z_ushr x4 1) 1431655765))) 2) 858993459))) + (z_ushr (z_w ((z_and (z_w (x4 - (z_and (z_ushr x4 1) 1431655765))) 858993459) + (z_and (z_ushr (z_w (x4 - (z_and (z_ushr x4 1) 1431655765))) 2) 858993459))) 4))) 252645135) 8))) + (z_ushr (z_w ((z_and (z_w ((z_w ((z_and (z_w (x4 - (z_and (z_ushr x4 1) 1431655765))) 858993459) + (z_and (z_ushr (z_w (x4 - (z_and (z_ushr x4 1) 1431655765))) 2) 858993459))) + (z_ushr (z_w ((z_and (z_w (x4 - (z_and (z_ushr x4 1) 1431655765))) 858993459) + (z_and (z_ushr (z_w (x4 - (z_and (z_ushr x4 1) 1431655765))) 2) 858993459))) 4))) 252645135) + (z_ushr (z_and (z_w ((z_w ((z_and (z_w (x4 - (z_and (z_ushr x4 1) 1431655765))) 858993459) + (z_and (z_ushr (z_w (x4 - (z_and (z_ushr x4 1) 1431655765))) 2) 858993459))) + (z_ushr (z_w ((z_and (z_w (x4 - (z_and (z_ushr x4 1) 1431655765))) 858993459) + (z_and (z_ushr (z_w (x4 - (z_and (z_ushr x4 1) 1431655765))) 2) 858993459))) 4))) 252645135) 8))) 16))) 63) ≠ x3) → wp xs (d + 1) mX0_leastPens 32 [(2, 38), (2, x1), (0, x2), (0, x3), (0, (z_w (x4 + 1))), (0, 0)] [] z_LL M P)
    (l3 : (¬ (x2 ≤ x4)) → (¬ ((z_and (z_w ((z_w ((z_and (z_w ((z_w ((z_and (z_w (x4 - (z_and (z_ushr x4 1) 1431655765))) 858993459) + (z_and (z_ushr (z_w (x4 - (z_and (z_ushr x4 1) 1431655765))) 2) 858993459))) + (z_ushr (z_w ((z_and (z_w (x4 - (z_and (z_ushr x4 1) 1431655765))) 858993459) + (z_and (z_ushr (z_w (x4 - (z_and (z_ushr x4 1) 1431655765))) 2) 858993459))) 4))) 252645135) + (z_ushr (z_and (z_w ((z_w ((z_and (z_w (x4 - (z_and (z_ushr x4 1) 1431655765))) 858993459) + (z_and (z_ushr (z_w (x4 - (z_and (z_ushr x4 1) 1431655765))) 2) 858993459))) + (z_ushr (z_w ((z_and (z_w (x4 - (z_and (z_ushr x4 1) 1431655765))) 858993459) + (z_and (z_ushr (z_w (x4 - (z_and (z_ushr x4 1) 1431655765))) 2) 858993459))) 4))) 252645135) 8))) + (z_ushr (z_w ((z_and (z_w ((z_w ((z_and (z_w (x4 - (z_and (z_ushr x4 1) 1431655765))) 858993459) + (z_and (z_ushr (z_w (x4 - (z_and (z_ushr x4 1) 1431655765))) 2) 858993459))) + (z_ushr (z_w ((z_and (z_w (x4 - (z_and (z_ushr x4 1) 1431655765))) 858993459) + (z_and (z_ushr (z_w (x4 - (z_and (z_ushr x4 1) 1431655765))) 2) 858993459))) 4))) 252645135) + (z_ushr (z_and (z_w ((z_w ((z_and (z_w (x4 - (z_and (z_ushr x4 1) 1431655765))) 858993459) + (z_and (z_ushr (z_w (x4 - (z_and (z_ushr x4 1) 1431655765))) 2) 858993459))) + (z_ushr (z_w ((z_and (z_w (x4 - (z_and (z_ushr x4 1) 1431655765))) 858993459) + (z_and (z_ushr (z_w (x4 - (z_and (z_ushr x4 1) 1431655765))) 2) 858993459))) 4))) 252645135) 8))) 16))) 63) ≠ x3)) → ((z_and x4 (M x1 5)) ≠ 0) → wp xs (d + 1) mX0_leastPens 32 [(2, 38), (2, x1), (0, x2), (0, x3), (0, (z_w (x4 + 1))), (0, 0)] [] z_LL M P)
    (l4 : (¬ (x2 ≤ x4)) → (¬ ((z_and (z_w ((z_w ((z_and (z_w ((z_w ((z_and (z_w (x4 - (z_and (z_ushr x4 1) 1431655765))) 858993459) + (z_and (z_ushr (z_w (x4 - (z_and (z_ushr x4 1) 1431655765))) 2) 858993459))) + (z_ushr (z_w ((z_and (z_w (x4 - (z_and (z_ushr x4 1) 1431655765))) 858993459) + (z_and (z_ushr (z_w (x4 - (z_and (z_ushr x4 1) 1431655765))) 2) 858993459))) 4))) 252645135) + (z_ushr (z_and (z_w ((z_w ((z_and (z_w (x4 - (z_and (z_ushr x4 1) 1431655765))) 858993459) + (z_and (z_ushr (z_w (x4 - (z_and (z_ushr x4 1) 1431655765))) 2) 858993459))) + (z_ushr (z_w ((z_and (z_w (x4 - (z_and (z_ushr x4 1) 1431655765))) 858993459) + (z_and (z_ushr (z_w (x4 - (z_and (z_ushr x4 1) 1431655765))) 2) 858993459))) 4))) 252645135) 8))) + (z_ushr (z_w ((z_and (z_w ((z_w ((z_and (z_w (x4 - (z_and (z_ushr x4 1) 1431655765))) 858993459) + (z_and (z_ushr (z_w (x4 - (z_and (z_ushr x4 1) 1431655765))) 2) 858993459))) + (z_ushr (z_w ((z_and (z_w (x4 - (z_and (z_ushr x4 1) 1431655765))) 858993459) + (z_and (z_ushr (z_w (x4 - (z_and (z_ushr x4 1) 1431655765))) 2) 858993459))) 4))) 252645135) + (z_ushr (z_and (z_w ((z_w ((z_and (z_w (x4 - (z_and (z_ushr x4 1) 1431655765))) 858993459) + (z_and (z_ushr (z_w (x4 - (z_and (z_ushr x4 1) 1431655765))) 2) 858993459))) + (z_ushr (z_w ((z_and (z_w (x4 - (z_and (z_ushr x4 1) 1431655765))) 858993459) + (z_and (z_ushr (z_w (x4 - (z_and (z_ushr x4 1) 1431655765))) 2) 858993459))) 4))) 252645135) 8))) 16))) 63) ≠ x3)) → (¬ ((z_and x4 (M x1 5)) ≠ 0)) → wp xs d mX0_mixEnough 0 [(2, 38), (2, x1), (0, 0), (0, x4), (3, 0), (3, 0), (3, 0)] [] z_LL M (fun r L1 M1 => wp xs (d + 1) mX0_leastPens 77 [(2, 38), (2, x1), (0, x2), (0, x3), (0, x4), (0, 1)] (z_ol r ++ []) L1 M1 P)) :
    wp xs (d + 1) mX0_leastPens 32 [(2, 38), (2, x1), (0, x2), (0, x3), (0, x4), w5] [] z_LL M P := by
  refine wp_run 2 (pc' := 35) (ls' := [(2, 38), (2, x1), (0, x2), (0, x3), (0, x4), w5]) (st' := [(0, x2), (0, x4)]) rfl ?_
  refine wp_if2 rfl rfl rfl (fun (c1 : x2 ≤ x4) => ?_) (fun (c1 : ¬ (x2 ≤ x4)) => ?_)
  · refine wp_run 2 (pc' := 15) (ls' := [(2, 38), (2, x1), (0, x2), (0, (z_w (x3 + 1))), (0, x4), w5]) (st' := []) rfl ?_
    exact l1 c1
  · refine wp_run 1 (pc' := 40) (ls' := [(2, 38), (2, x1), (0, x2), (0, x3), (0, x4), w5]) (st' := [(0, x4)]) rfl ?_
    refine wp_callv (pc' := 43) (as := [(0, x4)]) (rest := []) (ls1 := [(0, x4)]) rfl rfl rfl rfl rfl rfl ?_
    refine wp_run 41 (pc' := 52) (ls' := [(0, (z_w ((z_w ((z_and (z_w ((z_w ((z_and (z_w (x4 - (z_and (z_ushr x4 1) 1431655765))) 858993459) + (z_and (z_ushr (z_w (x4 - (z_and (z_ushr x4 1) 1431655765))) 2) 858993459))) + (z_ushr (z_w ((z_and (z_w (x4 - (z_and (z_ushr x4 1) 1431655765))) 858993459) + (z_and (z_ushr (z_w (x4 - (z_and (z_ushr x4 1) 1431655765))) 2) 858993459))) 4))) 252645135) + (z_ushr (z_and (z_w ((z_w ((z_and (z_w (x4 - (z_and (z_ushr x4 1) 1431655765))) 858993459) + (z_and (z_ushr (z_w (x4 - (z_and (z_ushr x4 1) 1431655765))) 2) 858993459))) + (z_ushr (z_w ((z_and (z_w (x4 - (z_and (z_ushr x4 1) 1431655765))) 858993459) + (z_and (z_ushr (z_w (x4 - (z_and (z_ushr x4 1) 1431655765))) 2) 858993459))) 4))) 252645135) 8))) + (z_ushr (z_w ((z_and (z_w ((z_w ((z_and (z_w (x4 - (z_and (z_ushr x4 1) 1431655765))) 858993459) + (z_and (z_ushr (z_w (x4 - (z_and (z_ushr x4 1) 1431655765))) 2) 858993459))) + (z_ushr (z_w ((z_and (z_w (x4 - (z_and (z_ushr x4 1) 1431655765))) 858993459) + (z_and (z_ushr (z_w (x4 - (z_and (z_ushr x4 1) 1431655765))) 2) 858993459))) 4))) 252645135) + (z_ushr (z_and (z_w ((z_w ((z_and (z_w (x4 - (z_and (z_ushr x4 1) 1431655765))) 858993459) + (z_and (z_ushr (z_w (x4 - (z_and (z_ushr x4 1) 1431655765))) 2) 858993459))) + (z_ushr (z_w ((z_and (z_w (x4 - (z_and (z_ushr x4 1) 1431655765))) 858993459) + (z_and (z_ushr (z_w (x4 - (z_and (z_ushr x4 1) 1431655765))) 2) 858993459))) 4))) 252645135) 8))) 16))))]) (st' := [(0, (z_and (z_w ((z_w ((z_and (z_w ((z_w ((z_and (z_w (x4 - (z_and (z_ushr x4 1) 1431655765))) 858993459) + (z_and (z_ushr (z_w (x4 - (z_and (z_ushr x4 1) 1431655765))) 2) 858993459))) + (z_ushr (z_w ((z_and (z_w (x4 - (z_and (z_ushr x4 1) 1431655765))) 858993459) + (z_and (z_ushr (z_w (x4 - (z_and (z_ushr x4 1) 1431655765))) 2) 858993459))) 4))) 252645135) + (z_ushr (z_and (z_w ((z_w ((z_and (z_w (x4 - (z_and (z_ushr x4 1) 1431655765))) 858993459) + (z_and (z_ushr (z_w (x4 - (z_and (z_ushr x4 1) 1431655765))) 2) 858993459))) + (z_ushr (z_w ((z_and (z_w (x4 - (z_and (z_ushr x4 1) 1431655765))) 858993459) + (z_and (z_ushr (z_w (x4 - (z_and (z_ushr x4 1) 1431655765))) 2) 858993459))) 4))) 252645135) 8))) + (z_ushr (z_w ((z_and (z_w ((z_w ((z_and (z_w (x4 - (z_and (z_ushr x4 1) 1431655765))) 858993459) + (z_and (z_ushr (z_w (x4 - (z_and (z_ushr x4 1) 1431655765))) 2) 858993459))) + (z_ushr (z_w ((z_and (z_w (x4 - (z_and (z_ushr x4 1) 1431655765))) 858993459) + (z_and (z_ushr (z_w (x4 - (z_and (z_ushr x4 1) 1431655765))) 2) 858993459))) 4))) 252645135) + (z_ushr (z_and (z_w ((z_w ((z_and (z_w (x4 - (z_and (z_ushr x4 1) 1431655765))) 858993459) + (z_and (z_ushr (z_w (x4 - (z_and (z_ushr x4 1) 1431655765))) 2) 858993459))) + (z_ushr (z_w ((z_and (z_w (x4 - (z_and (z_ushr x4 1) 1431655765))) 858993459) + (z_and (z_ushr (z_w (x4 - (z_and (z_ushr x4 1) 1431655765))) 2) 858993459))) 4))) 252645135) 8))) 16))) 63))]) rfl ?_
    refine wp_ret rfl rfl ?_
    show wp xs _ mX0_leastPens 43 [(2, 38), (2, x1), (0, x2), (0, x3), (0, x4), w5] [(0, (z_and (z_w ((z_w ((z_and (z_w ((z_w ((z_and (z_w (x4 - (z_and (z_ushr x4 1) 1431655765))) 858993459) + (z_and (z_ushr (z_w (x4 - (z_and (z_ushr x4 1) 1431655765))) 2) 858993459))) + (z_ushr (z_w ((z_and (z_w (x4 - (z_and (z_ushr x4 1) 1431655765))) 858993459) + (z_and (z_ushr (z_w (x4 - (z_and (z_ushr x4 1) 1431655765))) 2) 858993459))) 4))) 252645135) + (z_ushr (z_and (z_w ((z_w ((z_and (z_w (x4 - (z_and (z_ushr x4 1) 1431655765))) 858993459) + (z_and (z_ushr (z_w (x4 - (z_and (z_ushr x4 1) 1431655765))) 2) 858993459))) + (z_ushr (z_w ((z_and (z_w (x4 - (z_and (z_ushr x4 1) 1431655765))) 858993459) + (z_and (z_ushr (z_w (x4 - (z_and (z_ushr x4 1) 1431655765))) 2) 858993459))) 4))) 252645135) 8))) + (z_ushr (z_w ((z_and (z_w ((z_w ((z_and (z_w (x4 - (z_and (z_ushr x4 1) 1431655765))) 858993459) + (z_and (z_ushr (z_w (x4 - (z_and (z_ushr x4 1) 1431655765))) 2) 858993459))) + (z_ushr (z_w ((z_and (z_w (x4 - (z_and (z_ushr x4 1) 1431655765))) 858993459) + (z_and (z_ushr (z_w (x4 - (z_and (z_ushr x4 1) 1431655765))) 2) 858993459))) 4))) 252645135) + (z_ushr (z_and (z_w ((z_w ((z_and (z_w (x4 - (z_and (z_ushr x4 1) 1431655765))) 858993459) + (z_and (z_ushr (z_w (x4 - (z_and (z_ushr x4 1) 1431655765))) 2) 858993459))) + (z_ushr (z_w ((z_and (z_w (x4 - (z_and (z_ushr x4 1) 1431655765))) 858993459) + (z_and (z_ushr (z_w (x4 - (z_and (z_ushr x4 1) 1431655765))) 2) 858993459))) 4))) 252645135) 8))) 16))) 63))] z_LL M _
    refine wp_run 1 (pc' := 44) (ls' := [(2, 38), (2, x1), (0, x2), (0, x3), (0, x4), w5]) (st' := [(0, x3), (0, (z_and (z_w ((z_w ((z_and (z_w ((z_w ((z_and (z_w (x4 - (z_and (z_ushr x4 1) 1431655765))) 858993459) + (z_and (z_ushr (z_w (x4 - (z_and (z_ushr x4 1) 1431655765))) 2) 858993459))) + (z_ushr (z_w ((z_and (z_w (x4 - (z_and (z_ushr x4 1) 1431655765))) 858993459) + (z_and (z_ushr (z_w (x4 - (z_and (z_ushr x4 1) 1431655765))) 2) 858993459))) 4))) 252645135) + (z_ushr (z_and (z_w ((z_w ((z_and (z_w (x4 - (z_and (z_ushr x4 1) 1431655765))) 858993459) + (z_and (z_ushr (z_w (x4 - (z_and (z_ushr x4 1) 1431655765))) 2) 858993459))) + (z_ushr (z_w ((z_and (z_w (x4 - (z_and (z_ushr x4 1) 1431655765))) 858993459) + (z_and (z_ushr (z_w (x4 - (z_and (z_ushr x4 1) 1431655765))) 2) 858993459))) 4))) 252645135) 8))) + (z_ushr (z_w ((z_and (z_w ((z_w ((z_and (z_w (x4 - (z_and (z_ushr x4 1) 1431655765))) 858993459) + (z_and (z_ushr (z_w (x4 - (z_and (z_ushr x4 1) 1431655765))) 2) 858993459))) + (z_ushr (z_w ((z_and (z_w (x4 - (z_and (z_ushr x4 1) 1431655765))) 858993459) + (z_and (z_ushr (z_w (x4 - (z_and (z_ushr x4 1) 1431655765))) 2) 858993459))) 4))) 252645135) + (z_ushr (z_and (z_w ((z_w ((z_and (z_w (x4 - (z_and (z_ushr x4 1) 1431655765))) 858993459) + (z_and (z_ushr (z_w (x4 - (z_and (z_ushr x4 1) 1431655765))) 2) 858993459))) + (z_ushr (z_w ((z_and (z_w (x4 - (z_and (z_ushr x4 1) 1431655765))) 858993459) + (z_and (z_ushr (z_w (x4 - (z_and (z_ushr x4 1) 1431655765))) 2) 858993459))) 4))) 252645135) 8))) 16))) 63))]) rfl ?_
    refine wp_if2 rfl rfl rfl (fun (c2 : (z_and (z_w ((z_w ((z_and (z_w ((z_w ((z_and (z_w (x4 - (z_and (z_ushr x4 1) 1431655765))) 858993459) + (z_and (z_ushr (z_w (x4 - (z_and (z_ushr x4 1) 1431655765))) 2) 858993459))) + (z_ushr (z_w ((z_and (z_w (x4 - (z_and (z_ushr x4 1) 1431655765))) 858993459) + (z_and (z_ushr (z_w (x4 - (z_and (z_ushr x4 1) 1431655765))) 2) 858993459))) 4))) 252645135) + (z_ushr (z_and (z_w ((z_w ((z_and (z_w (x4 - (z_and (z_ushr x4 1) 1431655765))) 858993459) + (z_and (z_ushr (z_w (x4 - (z_and (z_ushr x4 1) 1431655765))) 2) 858993459))) + (z_ushr (z_w ((z_and (z_w (x4 - (z_and (z_ushr x4 1) 1431655765))) 858993459) + (z_and (z_ushr (z_w (x4 - (z_and (z_ushr x4 1) 1431655765))) 2) 858993459))) 4))) 252645135) 8))) + (z_ushr (z_w ((z_and (z_w ((z_w ((z_and (z_w (x4 - (z_and (z_ushr x4 1) 1431655765))) 858993459) + (z_and (z_ushr (z_w (x4 - (z_and (z_ushr x4 1) 1431655765))) 2) 858993459))) + (z_ushr (z_w ((z_and (z_w (x4 - (z_and (z_ushr x4 1) 1431655765))) 858993459) + (z_and (z_ushr (z_w (x4 - (z_and (z_ushr x4 1) 1431655765))) 2) 858993459))) 4))) 252645135) + (z_ushr (z_and (z_w ((z_w ((z_and (z_w (x4 - (z_and (z_ushr x4 1) 1431655765))) 858993459) + (z_and (z_ushr (z_w (x4 - (z_and (z_ushr x4 1) 1431655765))) 2) 858993459))) + (z_ushr (z_w ((z_and (z_w (x4 - (z_and (z_ushr x4 1) 1431655765))) 858993459) + (z_and (z_ushr (z_w (x4 - (z_and (z_ushr x4 1) 1431655765))) 2) 858993459))) 4))) 252645135) 8))) 16))) 63) ≠ x3) => ?_) (fun (c2 : ¬ ((z_and (z_w ((z_w ((z_and (z_w ((z_w ((z_and (z_w (x4 - (z_and (z_ushr x4 1) 1431655765))) 858993459) + (z_and (z_ushr (z_w (x4 - (z_and (z_ushr x4 1) 1431655765))) 2) 858993459))) + (z_ushr (z_w ((z_and (z_w (x4 - (z_and (z_ushr x4 1) 1431655765))) 858993459) + (z_and (z_ushr (z_w (x4 - (z_and (z_ushr x4 1) 1431655765))) 2) 858993459))) 4))) 252645135) + (z_ushr (z_and (z_w ((z_w ((z_and (z_w (x4 - (z_and (z_ushr x4 1) 1431655765))) 858993459) + (z_and (z_ushr (z_w (x4 - (z_and (z_ushr x4 1) 1431655765))) 2) 858993459))) + (z_ushr (z_w ((z_and (z_w (x4 - (z_and (z_ushr x4 1) 1431655765))) 858993459) + (z_and (z_ushr (z_w (x4 - (z_and (z_ushr x4 1) 1431655765))) 2) 858993459))) 4))) 252645135) 8))) + (z_ushr (z_w ((z_and (z_w ((z_w ((z_and (z_w (x4 - (z_and (z_ushr x4 1) 1431655765))) 858993459) + (z_and (z_ushr (z_w (x4 - (z_and (z_ushr x4 1) 1431655765))) 2) 858993459))) + (z_ushr (z_w ((z_and (z_w (x4 - (z_and (z_ushr x4 1) 1431655765))) 858993459) + (z_and (z_ushr (z_w (x4 - (z_and (z_ushr x4 1) 1431655765))) 2) 858993459))) 4))) 252645135) + (z_ushr (z_and (z_w ((z_w ((z_and (z_w (x4 - (z_and (z_ushr x4 1) 1431655765))) 858993459) + (z_and (z_ushr (z_w (x4 - (z_and (z_ushr x4 1) 1431655765))) 2) 858993459))) + (z_ushr (z_w ((z_and (z_w (x4 - (z_and (z_ushr x4 1) 1431655765))) 858993459) + (z_and (z_ushr (z_w (x4 - (z_and (z_ushr x4 1) 1431655765))) 2) 858993459))) 4))) 252645135) 8))) 16))) 63) ≠ x3)) => ?_)
    · refine wp_run 6 (pc' := 32) (ls' := [(2, 38), (2, x1), (0, x2), (0, x3), (0, (z_w (x4 + 1))), (0, 0)]) (st' := []) rfl ?_
      exact l2 c1 c2
    · refine wp_run 2 (pc' := 50) (ls' := [(2, 38), (2, x1), (0, x2), (0, x3), (0, x4), w5]) (st' := [(2, x1), (0, x4)]) rfl ?_
      refine wp_gf (pc' := 53) (t := 0) (v := (M x1 5)) rfl rfl (by decide) rfl (z_hl0 hx1) rfl ?_
      refine wp_run 1 (pc' := 54) (ls' := [(2, 38), (2, x1), (0, x2), (0, x3), (0, x4), w5]) (st' := [(0, (z_and x4 (M x1 5)))]) rfl ?_
      refine wp_if1 rfl rfl rfl (fun (c3 : (z_and x4 (M x1 5)) ≠ 0) => ?_) (fun (c3 : ¬ ((z_and x4 (M x1 5)) ≠ 0)) => ?_)
      · refine wp_run 6 (pc' := 32) (ls' := [(2, 38), (2, x1), (0, x2), (0, x3), (0, (z_w (x4 + 1))), (0, 0)]) (st' := []) rfl ?_
        exact l3 c1 c2 c3
      · refine wp_run 9 (pc' := 74) (ls' := [(2, 38), (2, x1), (0, x2), (0, x3), (0, x4), (0, 1)]) (st' := [(0, x4), (0, 0), (2, x1), (2, 38)]) rfl ?_
        refine wp_callv (pc' := 77) (as := [(2, 38), (2, x1), (0, 0), (0, x4)]) (rest := []) (ls1 := [(2, 38), (2, x1), (0, 0), (0, x4), (3, 0), (3, 0), (3, 0)]) rfl rfl rfl rfl rfl rfl ?_
        exact l4 c1 c2 c3
set_option maxRecDepth 20000 in
theorem gX0_leastPens_77 {xs : List Int} {d : Nat} {M : z_M} {P : Option z_V → z_L → z_M → Prop} {x1 : Int} {x2 : Int} {x3 : Int} {x4 : Int} {x5 : Int} {s0 : Int} (hx1 : z_her M x1)
    (l1 : (s0 ≠ 0) → wp xs d mX0_leastPens 32 [(2, 38), (2, x1), (0, x2), (0, x3), (0, (z_w (x4 + 1))), (0, x5)] [] z_LL M P)
    (l2 : (¬ (s0 ≠ 0)) → P (some (0, x4)) z_LL M) :
    wp xs d mX0_leastPens 77 [(2, 38), (2, x1), (0, x2), (0, x3), (0, x4), (0, x5)] [(0, s0)] z_LL M P := by
  refine wp_if1 rfl rfl rfl (fun (c1 : s0 ≠ 0) => ?_) (fun (c1 : ¬ (s0 ≠ 0)) => ?_)
  · refine wp_run 2 (pc' := 32) (ls' := [(2, 38), (2, x1), (0, x2), (0, x3), (0, (z_w (x4 + 1))), (0, x5)]) (st' := []) rfl ?_
    exact l1 c1
  · refine wp_run 1 (pc' := 82) (ls' := [(2, 38), (2, x1), (0, x2), (0, x3), (0, x4), (0, x5)]) (st' := [(0, x4)]) rfl ?_
    exact wp_ret rfl rfl (l2 c1)
set_option maxRecDepth 20000 in
theorem gX0_leastSalt_0 {xs : List Int} {d : Nat} {M : z_M} {P : Option z_V → z_L → z_M → Prop} {a1 : Int} (ha1 : z_her M a1)
    (l1 : wp xs d mX0_mixEnough 0 [(2, 38), (2, a1), (0, 0), (0, 0), (3, 0), (3, 0), (3, 0)] [] z_LL M (fun r L1 M1 => wp xs (d + 1) mX0_leastSalt 7 [(2, 38), (2, a1), (3, 0)] (z_ol r ++ []) L1 M1 P)) :
    wp xs (d + 1) mX0_leastSalt 0 [(2, 38), (2, a1), (3, 0)] [] z_LL M P := by
  refine wp_run 4 (pc' := 4) (ls' := [(2, 38), (2, a1), (3, 0)]) (st' := [(0, 0), (0, 0), (2, a1), (2, 38)]) rfl ?_
  refine wp_callv (pc' := 7) (as := [(2, 38), (2, a1), (0, 0), (0, 0)]) (rest := []) (ls1 := [(2, 38), (2, a1), (0, 0), (0, 0), (3, 0), (3, 0), (3, 0)]) rfl rfl rfl rfl rfl rfl ?_
  exact l1
set_option maxRecDepth 20000 in
theorem gX0_leastSalt_7 {xs : List Int} {d : Nat} {M : z_M} {P : Option z_V → z_L → z_M → Prop} {x1 : Int} {s0 : Int} (hF : z_fix M) (hx1 : z_her M x1) (hg2 : z_gor M (M 34 3))
    (l1 : (s0 = 0) → wp xs d mX1_readsSalt 0 [(2, (M 34 3)), (3, 0)] [] z_LL M (fun r L1 M1 => wp xs (d + 1) mX0_leastSalt 22 [(2, 38), (2, x1), (3, 0)] (z_ol r ++ []) L1 M1 P))
    (l2 : (¬ (s0 = 0)) → P (some (0, 0)) z_LL M) :
    wp xs (d + 1) mX0_leastSalt 7 [(2, 38), (2, x1), (3, 0)] [(0, s0)] z_LL M P := by
  refine wp_if1 rfl rfl rfl (fun (c1 : s0 = 0) => ?_) (fun (c1 : ¬ (s0 = 0)) => ?_)
  · refine wp_run 1 (pc' := 13) (ls' := [(2, 38), (2, x1), (3, 0)]) (st' := [(2, 38)]) rfl ?_
    refine wp_gf (pc' := 16) (t := 2) (v := 34) rfl rfl (by decide) rfl rfl (fx_38_0 hF) ?_
    refine wp_gf (pc' := 19) (t := 2) (v := (M 34 3)) rfl rfl (by decide) rfl rfl rfl ?_
    refine wp_callv (pc' := 22) (as := [(2, (M 34 3))]) (rest := []) (ls1 := [(2, (M 34 3)), (3, 0)]) rfl rfl rfl rfl (z_args_v rfl rfl rfl rfl (Nat.le_of_ble_eq_true rfl) rfl (by decide) (z_gl0 hg2)) rfl ?_
    exact l1 c1
  · refine wp_run 1 (pc' := 11) (ls' := [(2, 38), (2, x1), (3, 0)]) (st' := [(0, 0)]) rfl ?_
    exact wp_ret rfl rfl (l2 c1)
set_option maxRecDepth 20000 in
theorem gX0_leastSalt_22 {xs : List Int} {d : Nat} {M : z_M} {P : Option z_V → z_L → z_M → Prop} {x1 : Int} {s0 : Int} (hF : z_fix M) (hx1 : z_her M x1)
    (l1 : (s0 ≠ 0) → wp xs d mX0_leastOne 0 [(2, 38), (2, x1), (0, (M 34 4)), (3, 0), (3, 0)] [] z_LL M (fun r L1 M1 => wp xs (d + 1) mX0_leastSalt 39 [(2, 38), (2, x1), (3, 0)] (z_ol r ++ []) L1 M1 P))
    (l2 : (¬ (s0 ≠ 0)) → P (some (0, (-1))) z_LL M) :
    wp xs (d + 1) mX0_leastSalt 22 [(2, 38), (2, x1), (3, 0)] [(0, s0)] z_LL M P := by
  refine wp_if1 rfl rfl rfl (fun (c1 : s0 ≠ 0) => ?_) (fun (c1 : ¬ (s0 ≠ 0)) => ?_)
  · refine wp_run 3 (pc' := 30) (ls' := [(2, 38), (2, x1), (3, 0)]) (st' := [(2, 38), (2, x1), (2, 38)]) rfl ?_
    refine wp_gf (pc' := 33) (t := 2) (v := 34) rfl rfl (by decide) rfl rfl (fx_38_0 hF) ?_
    refine wp_gf (pc' := 36) (t := 0) (v := (M 34 4)) rfl rfl (by decide) rfl rfl rfl ?_
    refine wp_callv (pc' := 39) (as := [(2, 38), (2, x1), (0, (M 34 4))]) (rest := []) (ls1 := [(2, 38), (2, x1), (0, (M 34 4)), (3, 0), (3, 0)]) rfl rfl rfl rfl rfl rfl ?_
    exact l1 c1
  · refine wp_run 1 (pc' := 26) (ls' := [(2, 38), (2, x1), (3, 0)]) (st' := [(0, (-1))]) rfl ?_
    exact wp_ret rfl rfl (l2 c1)
set_option maxRecDepth 20000 in
theorem gX0_leastSalt_39 {xs : List Int} {d : Nat} {M : z_M} {P : Option z_V → z_L → z_M → Prop} {x1 : Int} {s0 : Int} (hx1 : z_her M x1)
    (l1 : (s0 ≠ (-1)) → (s0 ≠ (-1)) → P (some (0, s0)) z_LL M)
    (l2 : (s0 ≠ (-1)) → (¬ (s0 ≠ (-1))) → wp xs d mX0_leastThree 0 [(2, 38), (2, x1), (3, 0), (3, 0), (3, 0), (3, 0)] [] z_LL M (fun r L1 M1 => wp xs (d + 1) mX0_leastSalt 61 [(2, 38), (2, x1), (0, s0)] (z_ol r ++ []) L1 M1 P))
    (l3 : (¬ (s0 ≠ (-1))) → wp xs d mX0_leastTwo 0 [(2, 38), (2, x1), (3, 0), (3, 0), (3, 0)] [] z_LL M (fun r L1 M1 => wp xs (d + 1) mX0_leastSalt 50 [(2, 38), (2, x1), (0, s0)] (z_ol r ++ []) L1 M1 P)) :
    wp xs (d + 1) mX0_leastSalt 39 [(2, 38), (2, x1), (3, 0)] [(0, s0)] z_LL M P := by
  refine wp_run 3 (pc' := 42) (ls' := [(2, 38), (2, x1), (0, s0)]) (st' := [(0, (-1)), (0, s0)]) rfl ?_
  refine wp_if2 rfl rfl rfl (fun (c1 : s0 ≠ (-1)) => ?_) (fun (c1 : ¬ (s0 ≠ (-1))) => ?_)
  · refine wp_run 2 (pc' := 53) (ls' := [(2, 38), (2, x1), (0, s0)]) (st' := [(0, (-1)), (0, s0)]) rfl ?_
    refine wp_if2 rfl rfl rfl (fun (c2 : s0 ≠ (-1)) => ?_) (fun (c2 : ¬ (s0 ≠ (-1))) => ?_)
    · refine wp_run 1 (pc' := 65) (ls' := [(2, 38), (2, x1), (0, s0)]) (st' := [(0, s0)]) rfl ?_
      exact wp_ret rfl rfl (l1 c1 c2)
    · refine wp_run 2 (pc' := 58) (ls' := [(2, 38), (2, x1), (0, s0)]) (st' := [(2, x1), (2, 38)]) rfl ?_
      refine wp_callv (pc' := 61) (as := [(2, 38), (2, x1)]) (rest := []) (ls1 := [(2, 38), (2, x1), (3, 0), (3, 0), (3, 0), (3, 0)]) rfl rfl rfl rfl rfl rfl ?_
      exact l2 c1 c2
  · refine wp_run 2 (pc' := 47) (ls' := [(2, 38), (2, x1), (0, s0)]) (st' := [(2, x1), (2, 38)]) rfl ?_
    refine wp_callv (pc' := 50) (as := [(2, 38), (2, x1)]) (rest := []) (ls1 := [(2, 38), (2, x1), (3, 0), (3, 0), (3, 0)]) rfl rfl rfl rfl rfl rfl ?_
    exact l3 c1
set_option maxRecDepth 20000 in
theorem gX0_leastSalt_50 {xs : List Int} {d : Nat} {M : z_M} {P : Option z_V → z_L → z_M → Prop} {x1 : Int} {x2 : Int} {s0 : Int} (hx1 : z_her M x1)
    (l1 : (s0 ≠ (-1)) → P (some (0, s0)) z_LL M)
    (l2 : (¬ (s0 ≠ (-1))) → wp xs d mX0_leastThree 0 [(2, 38), (2, x1), (3, 0), (3, 0), (3, 0), (3, 0)] [] z_LL M (fun r L1 M1 => wp xs (d + 1) mX0_leastSalt 61 [(2, 38), (2, x1), (0, s0)] (z_ol r ++ []) L1 M1 P)) :
    wp xs (d + 1) mX0_leastSalt 50 [(2, 38), (2, x1), (0, x2)] [(0, s0)] z_LL M P := by
  refine wp_run 3 (pc' := 53) (ls' := [(2, 38), (2, x1), (0, s0)]) (st' := [(0, (-1)), (0, s0)]) rfl ?_
  refine wp_if2 rfl rfl rfl (fun (c1 : s0 ≠ (-1)) => ?_) (fun (c1 : ¬ (s0 ≠ (-1))) => ?_)
  · refine wp_run 1 (pc' := 65) (ls' := [(2, 38), (2, x1), (0, s0)]) (st' := [(0, s0)]) rfl ?_
    exact wp_ret rfl rfl (l1 c1)
  · refine wp_run 2 (pc' := 58) (ls' := [(2, 38), (2, x1), (0, s0)]) (st' := [(2, x1), (2, 38)]) rfl ?_
    refine wp_callv (pc' := 61) (as := [(2, 38), (2, x1)]) (rest := []) (ls1 := [(2, 38), (2, x1), (3, 0), (3, 0), (3, 0), (3, 0)]) rfl rfl rfl rfl rfl rfl ?_
    exact l2 c1
set_option maxRecDepth 20000 in
theorem gX0_leastSalt_61 {xs : List Int} {d : Nat} {M : z_M} {P : Option z_V → z_L → z_M → Prop} {x1 : Int} {x2 : Int} {s0 : Int} (hx1 : z_her M x1)
    (l1 : P (some (0, s0)) z_LL M) :
    wp xs d mX0_leastSalt 61 [(2, 38), (2, x1), (0, x2)] [(0, s0)] z_LL M P := by
  refine wp_run 1 (pc' := 65) (ls' := [(2, 38), (2, x1), (0, x2)]) (st' := [(0, s0)]) rfl ?_
  exact wp_ret rfl rfl (l1)
set_option maxRecDepth 20000 in
theorem gX0_leastThree_0 {xs : List Int} {d : Nat} {M : z_M} {P : Option z_V → z_L → z_M → Prop} {a1 : Int} (ha1 : z_her M a1)
    (l1 : wp xs d mX0_leastThree 2 [(2, 38), (2, a1), (0, 2), (3, 0), (3, 0), (3, 0)] [] z_LL M P) :
    wp xs d mX0_leastThree 0 [(2, 38), (2, a1), (3, 0), (3, 0), (3, 0), (3, 0)] [] z_LL M P := by
  refine wp_run 2 (pc' := 2) (ls' := [(2, 38), (2, a1), (0, 2), (3, 0), (3, 0), (3, 0)]) (st' := []) rfl ?_
  exact l1
set_option maxRecDepth 20000 in
theorem gX0_leastThree_2 {xs : List Int} {d : Nat} {M : z_M} {P : Option z_V → z_L → z_M → Prop} {x1 : Int} {x2 : Int} {w3 : z_V} {w4 : z_V} {w5 : z_V} (hF : z_fix M) (hx1 : z_her M x1) (hg2 : z_gor M (M 34 3))
    (l1 : ((z_w ((M (M 34 3) 10) * (M (M 34 3) 11))) ≤ x2) → P (some (0, (-1))) z_LL M)
    (l2 : (¬ ((z_w ((M (M 34 3) 10) * (M (M 34 3) 11))) ≤ x2)) → wp xs (d + 1) mX0_leastThree 18 [(2, 38), (2, x1), (0, x2), (0, 1), w4, w5] [] z_LL M P) :
    wp xs (d + 1) mX0_leastThree 2 [(2, 38), (2, x1), (0, x2), w3, w4, w5] [] z_LL M P := by
  refine wp_run 2 (pc' := 4) (ls' := [(2, 38), (2, x1), (0, x2), w3, w4, w5]) (st' := [(2, 38), (0, x2)]) rfl ?_
  refine wp_gf (pc' := 7) (t := 2) (v := 34) rfl rfl (by decide) rfl rfl (fx_38_0 hF) ?_
  refine wp_gf (pc' := 10) (t := 2) (v := (M 34 3)) rfl rfl (by decide) rfl rfl rfl ?_
  refine wp_callv (pc' := 13) (as := [(2, (M 34 3))]) (rest := [(0, x2)]) (ls1 := [(2, (M 34 3))]) rfl rfl rfl rfl (z_args_v rfl rfl rfl rfl (Nat.le_of_ble_eq_true rfl) rfl (by decide) (z_gl0 hg2)) rfl ?_
  refine wp_run 1 (pc' := 1) (ls' := [(2, (M 34 3))]) (st' := [(2, (M 34 3))]) rfl ?_
  refine wp_gf (pc' := 4) (t := 0) (v := (M (M 34 3) 10)) rfl rfl (by decide) rfl (z_gl0 hg2) rfl ?_
  refine wp_run 1 (pc' := 5) (ls' := [(2, (M 34 3))]) (st' := [(2, (M 34 3)), (0, (M (M 34 3) 10))]) rfl ?_
  refine wp_gf (pc' := 8) (t := 0) (v := (M (M 34 3) 11)) rfl rfl (by decide) rfl (z_gl0 hg2) rfl ?_
  refine wp_run 1 (pc' := 9) (ls' := [(2, (M 34 3))]) (st' := [(0, (z_w ((M (M 34 3) 10) * (M (M 34 3) 11))))]) rfl ?_
  refine wp_ret rfl rfl ?_
  show wp xs _ mX0_leastThree 13 [(2, 38), (2, x1), (0, x2), w3, w4, w5] [(0, (z_w ((M (M 34 3) 10) * (M (M 34 3) 11)))), (0, x2)] z_LL M _
  refine wp_if2 rfl rfl rfl (fun (c1 : (z_w ((M (M 34 3) 10) * (M (M 34 3) 11))) ≤ x2) => ?_) (fun (c1 : ¬ ((z_w ((M (M 34 3) 10) * (M (M 34 3) 11))) ≤ x2)) => ?_)
  · refine wp_run 1 (pc' := 121) (ls' := [(2, 38), (2, x1), (0, x2), w3, w4, w5]) (st' := [(0, (-1))]) rfl ?_
    exact wp_ret rfl rfl (l1 c1)
  · refine wp_run 2 (pc' := 18) (ls' := [(2, 38), (2, x1), (0, x2), (0, 1), w4, w5]) (st' := []) rfl ?_
    exact l2 c1
set_option maxRecDepth 20000 in
theorem gX0_leastThree_18 {xs : List Int} {d : Nat} {M : z_M} {P : Option z_V → z_L → z_M → Prop} {x1 : Int} {x2 : Int} {x3 : Int} {w4 : z_V} {w5 : z_V} (hx1 : z_her M x1)
    (l1 : (x2 ≤ x3) → wp xs d mX0_leastThree 2 [(2, 38), (2, x1), (0, (z_w (x2 + 1))), (0, x3), w4, w5] [] z_LL M P)
    (l2 : (¬ (x2 ≤ x3)) → wp xs d mX0_leastThree 26 [(2, 38), (2, x1), (0, x2), (0, x3), (0, 0), w5] [] z_LL M P) :
    wp xs d mX0_leastThree 18 [(2, 38), (2, x1), (0, x2), (0, x3), w4, w5] [] z_LL M P := by
  refine wp_run 2 (pc' := 20) (ls' := [(2, 38), (2, x1), (0, x2), (0, x3), w4, w5]) (st' := [(0, x2), (0, x3)]) rfl ?_
  refine wp_if2 rfl rfl rfl (fun (c1 : x2 ≤ x3) => ?_) (fun (c1 : ¬ (x2 ≤ x3)) => ?_)
  · refine wp_run 2 (pc' := 2) (ls' := [(2, 38), (2, x1), (0, (z_w (x2 + 1))), (0, x3), w4, w5]) (st' := []) rfl ?_
    exact l1 c1
  · refine wp_run 2 (pc' := 26) (ls' := [(2, 38), (2, x1), (0, x2), (0, x3), (0, 0), w5]) (st' := []) rfl ?_
    exact l2 c1
set_option maxRecDepth 20000 in
theorem gX0_leastThree_26 {xs : List Int} {d : Nat} {M : z_M} {P : Option z_V → z_L → z_M → Prop} {x1 : Int} {x2 : Int} {x3 : Int} {x4 : Int} {w5 : z_V} (hF : z_fix M) (hx1 : z_her M x1)
    (l1 : (x3 ≤ x4) → wp xs (d + 1) mX0_leastThree 18 [(2, 38), (2, x1), (0, x2), (0, (z_w (x3 + 1))), (0, x4), w5] [] z_LL M P)
    (b1 : (¬ (x3 ≤ x4)) → 0 ≤ x2 ∧ x2 < 25)
    (l2 : (¬ (x3 ≤ x4)) → (0 < (M (x1 + 4) x2)) → wp xs (d + 1) mX0_leastThree 26 [(2, 38), (2, x1), (0, x2), (0, x3), (0, (z_w (x4 + 1))), w5] [] z_LL M P)
    (b2 : (¬ (x3 ≤ x4)) → (¬ (0 < (M (x1 + 4) x2))) → 0 ≤ x3 ∧ x3 < 25)
    (l3 : (¬ (x3 ≤ x4)) → (¬ (0 < (M (x1 + 4) x2))) → (0 < (M (x1 + 4) x3)) → wp xs (d + 1) mX0_leastThree 26 [(2, 38), (2, x1), (0, x2), (0, x3), (0, (z_w (x4 + 1))), w5] [] z_LL M P)
    (b3 : (¬ (x3 ≤ x4)) → (¬ (0 < (M (x1 + 4) x2))) → (¬ (0 < (M (x1 + 4) x3))) → 0 ≤ x4 ∧ x4 < 25)
    (b4 : (¬ (x3 ≤ x4)) → (¬ (0 < (M (x1 + 4) x2))) → (¬ (0 < (M (x1 + 4) x3))) → ((M (x1 + 4) x4) ≤ 0) → 0 ≤ (z_w ((z_w (x2 * 25)) + x3)) ∧ (z_w ((z_w (x2 * 25)) + x3)) < 625)
    (l4 : (¬ (x3 ≤ x4)) → (¬ (0 < (M (x1 + 4) x2))) → (¬ (0 < (M (x1 + 4) x3))) → ((M (x1 + 4) x4) ≤ 0) → ((z_and (z_shr (M 45 (z_w ((z_w (x2 * 25)) + x3))) x4) 1) = 0) → wp xs (d + 1) mX0_leastThree 26 [(2, 38), (2, x1), (0, x2), (0, x3), (0, (z_w (x4 + 1))), (0, (z_or (z_or (z_shl 1 x2) (z_shl 1 x3)) (z_shl 1 x4)))] [] z_LL M P)
    (b5 : (¬ (x3 ≤ x4)) → (¬ (0 < (M (x1 + 4) x2))) → (¬ (0 < (M (x1 + 4) x3))) → ((M (x1 + 4) x4) ≤ 0) → (¬ ((z_and (z_shr (M 45 (z_w ((z_w (x2 * 25)) + x3))) x4) 1) = 0)) → 0 ≤ (z_w ((z_w (x2 * 25)) + x4)) ∧ (z_w ((z_w (x2 * 25)) + x4)) < 625)
    (l5 : (¬ (x3 ≤ x4)) → (¬ (0 < (M (x1 + 4) x2))) → (¬ (0 < (M (x1 + 4) x3))) → ((M (x1 + 4) x4) ≤ 0) → (¬ ((z_and (z_shr (M 45 (z_w ((z_w (x2 * 25)) + x3))) x4) 1) = 0)) → ((z_and (z_shr (M 45 (z_w ((z_w (x2 * 25)) + x4))) x3) 1) = 0) → wp xs (d + 1) mX0_leastThree 26 [(2, 38), (2, x1), (0, x2), (0, x3), (0, (z_w (x4 + 1))), (0, (z_or (z_or (z_shl 1 x2) (z_shl 1 x3)) (z_shl 1 x4)))] [] z_LL M P)
    (b6 : (¬ (x3 ≤ x4)) → (¬ (0 < (M (x1 + 4) x2))) → (¬ (0 < (M (x1 + 4) x3))) → ((M (x1 + 4) x4) ≤ 0) → (¬ ((z_and (z_shr (M 45 (z_w ((z_w (x2 * 25)) + x3))) x4) 1) = 0)) → (¬ ((z_and (z_shr (M 45 (z_w ((z_w (x2 * 25)) + x4))) x3) 1) = 0)) → 0 ≤ (z_w ((z_w (x3 * 25)) + x4)) ∧ (z_w ((z_w (x3 * 25)) + x4)) < 625)
    (l6 : (¬ (x3 ≤ x4)) → (¬ (0 < (M (x1 + 4) x2))) → (¬ (0 < (M (x1 + 4) x3))) → ((M (x1 + 4) x4) ≤ 0) → (¬ ((z_and (z_shr (M 45 (z_w ((z_w (x2 * 25)) + x3))) x4) 1) = 0)) → (¬ ((z_and (z_shr (M 45 (z_w ((z_w (x2 * 25)) + x4))) x3) 1) = 0)) → ((z_and (z_shr (M 45 (z_w ((z_w (x3 * 25)) + x4))) x2) 1) = 0) → wp xs (d + 1) mX0_leastThree 26 [(2, 38), (2, x1), (0, x2), (0, x3), (0, (z_w (x4 + 1))), (0, (z_or (z_or (z_shl 1 x2) (z_shl 1 x3)) (z_shl 1 x4)))] [] z_LL M P)
    (l7 : (¬ (x3 ≤ x4)) → (¬ (0 < (M (x1 + 4) x2))) → (¬ (0 < (M (x1 + 4) x3))) → ((M (x1 + 4) x4) ≤ 0) → (¬ ((z_and (z_shr (M 45 (z_w ((z_w (x2 * 25)) + x3))) x4) 1) = 0)) → (¬ ((z_and (z_shr (M 45 (z_w ((z_w (x2 * 25)) + x4))) x3) 1) = 0)) → (¬ ((z_and (z_shr (M 45 (z_w ((z_w (x3 * 25)) + x4))) x2) 1) = 0)) → wp xs d mX0_mixEnough 0 [(2, 38), (2, x1), (0, (z_or (z_or (z_shl 1 x2) (z_shl 1 x3)) (z_shl 1 x4))), (0, 0), (3, 0), (3, 0), (3, 0)] [] z_LL M (fun r L1 M1 => wp xs (d + 1) mX0_leastThree 96 [(2, 38), (2, x1), (0, x2), (0, x3), (0, x4), (0, (z_or (z_or (z_shl 1 x2) (z_shl 1 x3)) (z_shl 1 x4)))] (z_ol r ++ []) L1 M1 P))
    (l8 : (¬ (x3 ≤ x4)) → (¬ (0 < (M (x1 + 4) x2))) → (¬ (0 < (M (x1 + 4) x3))) → (¬ ((M (x1 + 4) x4) ≤ 0)) → wp xs (d + 1) mX0_leastThree 26 [(2, 38), (2, x1), (0, x2), (0, x3), (0, (z_w (x4 + 1))), w5] [] z_LL M P) :
    wp xs (d + 1) mX0_leastThree 26 [(2, 38), (2, x1), (0, x2), (0, x3), (0, x4), w5] [] z_LL M P := by
  refine wp_run 2 (pc' := 29) (ls' := [(2, 38), (2, x1), (0, x2), (0, x3), (0, x4), w5]) (st' := [(0, x3), (0, x4)]) rfl ?_
  refine wp_if2 rfl rfl rfl (fun (c1 : x3 ≤ x4) => ?_) (fun (c1 : ¬ (x3 ≤ x4)) => ?_)
  · refine wp_run 2 (pc' := 18) (ls' := [(2, 38), (2, x1), (0, x2), (0, (z_w (x3 + 1))), (0, x4), w5]) (st' := []) rfl ?_
    exact l1 c1
  · refine wp_run 1 (pc' := 33) (ls' := [(2, 38), (2, x1), (0, x2), (0, x3), (0, x4), w5]) (st' := [(2, x1)]) rfl ?_
    refine wp_gf (pc' := 36) (t := 2) (v := (x1 + 4)) rfl rfl (by decide) rfl (z_hl0 hx1) (z_hf3 hx1) ?_
    refine wp_run 1 (pc' := 37) (ls' := [(2, 38), (2, x1), (0, x2), (0, x3), (0, x4), w5]) (st' := [(0, x2), (2, (x1 + 4))]) rfl ?_
    refine wp_iald (pc' := 38) (v := (M (x1 + 4) x2)) rfl rfl (z_hl4 hx1) (b1 c1) rfl ?_
    refine wp_if1 rfl rfl rfl (fun (c2 : 0 < (M (x1 + 4) x2)) => ?_) (fun (c2 : ¬ (0 < (M (x1 + 4) x2))) => ?_)
    · refine wp_run 2 (pc' := 26) (ls' := [(2, 38), (2, x1), (0, x2), (0, x3), (0, (z_w (x4 + 1))), w5]) (st' := []) rfl ?_
      exact l2 c1 c2
    · refine wp_run 1 (pc' := 42) (ls' := [(2, 38), (2, x1), (0, x2), (0, x3), (0, x4), w5]) (st' := [(2, x1)]) rfl ?_
      refine wp_gf (pc' := 45) (t := 2) (v := (x1 + 4)) rfl rfl (by decide) rfl (z_hl0 hx1) (z_hf3 hx1) ?_
      refine wp_run 1 (pc' := 46) (ls' := [(2, 38), (2, x1), (0, x2), (0, x3), (0, x4), w5]) (st' := [(0, x3), (2, (x1 + 4))]) rfl ?_
      refine wp_iald (pc' := 47) (v := (M (x1 + 4) x3)) rfl rfl (z_hl4 hx1) (b2 c1 c2) rfl ?_
      refine wp_if1 rfl rfl rfl (fun (c3 : 0 < (M (x1 + 4) x3)) => ?_) (fun (c3 : ¬ (0 < (M (x1 + 4) x3))) => ?_)
      · refine wp_run 2 (pc' := 26) (ls' := [(2, 38), (2, x1), (0, x2), (0, x3), (0, (z_w (x4 + 1))), w5]) (st' := []) rfl ?_
        exact l3 c1 c2 c3
      · refine wp_run 1 (pc' := 51) (ls' := [(2, 38), (2, x1), (0, x2), (0, x3), (0, x4), w5]) (st' := [(2, x1)]) rfl ?_
        refine wp_gf (pc' := 54) (t := 2) (v := (x1 + 4)) rfl rfl (by decide) rfl (z_hl0 hx1) (z_hf3 hx1) ?_
        refine wp_run 1 (pc' := 56) (ls' := [(2, 38), (2, x1), (0, x2), (0, x3), (0, x4), w5]) (st' := [(0, x4), (2, (x1 + 4))]) rfl ?_
        refine wp_iald (pc' := 57) (v := (M (x1 + 4) x4)) rfl rfl (z_hl4 hx1) (b3 c1 c2 c3) rfl ?_
        refine wp_if1 rfl rfl rfl (fun (c4 : (M (x1 + 4) x4) ≤ 0) => ?_) (fun (c4 : ¬ ((M (x1 + 4) x4) ≤ 0)) => ?_)
        · refine wp_run 16 (pc' := 82) (ls' := [(2, 38), (2, x1), (0, x2), (0, x3), (0, x4), (0, (z_or (z_or (z_shl 1 x2) (z_shl 1 x3)) (z_shl 1 x4)))]) (st' := [(0, x4), (0, x3), (0, x2), (2, 38)]) rfl ?_
          refine wp_callv (pc' := 85) (as := [(2, 38), (0, x2), (0, x3), (0, x4)]) (rest := []) (ls1 := [(2, 38), (0, x2), (0, x3), (0, x4)]) rfl rfl rfl rfl rfl rfl ?_
          refine wp_run 1 (pc' := 1) (ls' := [(2, 38), (0, x2), (0, x3), (0, x4)]) (st' := [(2, 38)]) rfl ?_
          refine wp_gf (pc' := 4) (t := 2) (v := 45) rfl rfl (by decide) rfl rfl (fx_38_2 hF) ?_
          refine wp_run 5 (pc' := 10) (ls' := [(2, 38), (0, x2), (0, x3), (0, x4)]) (st' := [(0, (z_w ((z_w (x2 * 25)) + x3))), (2, 45)]) rfl ?_
          refine wp_iald (pc' := 11) (v := (M 45 (z_w ((z_w (x2 * 25)) + x3)))) rfl rfl rfl (b4 c1 c2 c3 c4) rfl ?_
          refine wp_run 4 (pc' := 15) (ls' := [(2, 38), (0, x2), (0, x3), (0, x4)]) (st' := [(0, (z_and (z_shr (M 45 (z_w ((z_w (x2 * 25)) + x3))) x4) 1))]) rfl ?_
          refine wp_if1 rfl rfl rfl (fun (c5 : (z_and (z_shr (M 45 (z_w ((z_w (x2 * 25)) + x3))) x4) 1) = 0) => ?_) (fun (c5 : ¬ ((z_and (z_shr (M 45 (z_w ((z_w (x2 * 25)) + x3))) x4) 1) = 0)) => ?_)
          · refine wp_run 1 (pc' := 59) (ls' := [(2, 38), (0, x2), (0, x3), (0, x4)]) (st' := [(0, 0)]) rfl ?_
            refine wp_ret rfl rfl ?_
            show wp xs _ mX0_leastThree 85 [(2, 38), (2, x1), (0, x2), (0, x3), (0, x4), (0, (z_or (z_or (z_shl 1 x2) (z_shl 1 x3)) (z_shl 1 x4)))] [(0, 0)] z_LL M _
            refine wp_run 3 (pc' := 26) (ls' := [(2, 38), (2, x1), (0, x2), (0, x3), (0, (z_w (x4 + 1))), (0, (z_or (z_or (z_shl 1 x2) (z_shl 1 x3)) (z_shl 1 x4)))]) (st' := []) rfl ?_
            exact l4 c1 c2 c3 c4 c5
          · refine wp_run 1 (pc' := 19) (ls' := [(2, 38), (0, x2), (0, x3), (0, x4)]) (st' := [(2, 38)]) rfl ?_
            refine wp_gf (pc' := 22) (t := 2) (v := 45) rfl rfl (by decide) rfl rfl (fx_38_2 hF) ?_
            refine wp_run 5 (pc' := 28) (ls' := [(2, 38), (0, x2), (0, x3), (0, x4)]) (st' := [(0, (z_w ((z_w (x2 * 25)) + x4))), (2, 45)]) rfl ?_
            refine wp_iald (pc' := 29) (v := (M 45 (z_w ((z_w (x2 * 25)) + x4)))) rfl rfl rfl (b5 c1 c2 c3 c4 c5) rfl ?_
            refine wp_run 4 (pc' := 33) (ls' := [(2, 38), (0, x2), (0, x3), (0, x4)]) (st' := [(0, (z_and (z_shr (M 45 (z_w ((z_w (x2 * 25)) + x4))) x3) 1))]) rfl ?_
            refine wp_if1 rfl rfl rfl (fun (c6 : (z_and (z_shr (M 45 (z_w ((z_w (x2 * 25)) + x4))) x3) 1) = 0) => ?_) (fun (c6 : ¬ ((z_and (z_shr (M 45 (z_w ((z_w (x2 * 25)) + x4))) x3) 1) = 0)) => ?_)
            · refine wp_run 1 (pc' := 59) (ls' := [(2, 38), (0, x2), (0, x3), (0, x4)]) (st' := [(0, 0)]) rfl ?_
              refine wp_ret rfl rfl ?_
              show wp xs _ mX0_leastThree 85 [(2, 38), (2, x1), (0, x2), (0, x3), (0, x4), (0, (z_or (z_or (z_shl 1 x2) (z_shl 1 x3)) (z_shl 1 x4)))] [(0, 0)] z_LL M _
              refine wp_run 3 (pc' := 26) (ls' := [(2, 38), (2, x1), (0, x2), (0, x3), (0, (z_w (x4 + 1))), (0, (z_or (z_or (z_shl 1 x2) (z_shl 1 x3)) (z_shl 1 x4)))]) (st' := []) rfl ?_
              exact l5 c1 c2 c3 c4 c5 c6
            · refine wp_run 1 (pc' := 37) (ls' := [(2, 38), (0, x2), (0, x3), (0, x4)]) (st' := [(2, 38)]) rfl ?_
              refine wp_gf (pc' := 40) (t := 2) (v := 45) rfl rfl (by decide) rfl rfl (fx_38_2 hF) ?_
              refine wp_run 5 (pc' := 46) (ls' := [(2, 38), (0, x2), (0, x3), (0, x4)]) (st' := [(0, (z_w ((z_w (x3 * 25)) + x4))), (2, 45)]) rfl ?_
              refine wp_iald (pc' := 47) (v := (M 45 (z_w ((z_w (x3 * 25)) + x4)))) rfl rfl rfl (b6 c1 c2 c3 c4 c5 c6) rfl ?_
              refine wp_run 4 (pc' := 51) (ls' := [(2, 38), (0, x2), (0, x3), (0, x4)]) (st' := [(0, (z_and (z_shr (M 45 (z_w ((z_w (x3 * 25)) + x4))) x2) 1))]) rfl ?_
              refine wp_if1 rfl rfl rfl (fun (c7 : (z_and (z_shr (M 45 (z_w ((z_w (x3 * 25)) + x4))) x2) 1) = 0) => ?_) (fun (c7 : ¬ ((z_and (z_shr (M 45 (z_w ((z_w (x3 * 25)) + x4))) x2) 1) = 0)) => ?_)
              · refine wp_run 1 (pc' := 59) (ls' := [(2, 38), (0, x2), (0, x3), (0, x4)]) (st' := [(0, 0)]) rfl ?_
                refine wp_ret rfl rfl ?_
                show wp xs _ mX0_leastThree 85 [(2, 38), (2, x1), (0, x2), (0, x3), (0, x4), (0, (z_or (z_or (z_shl 1 x2) (z_shl 1 x3)) (z_shl 1 x4)))] [(0, 0)] z_LL M _
                refine wp_run 3 (pc' := 26) (ls' := [(2, 38), (2, x1), (0, x2), (0, x3), (0, (z_w (x4 + 1))), (0, (z_or (z_or (z_shl 1 x2) (z_shl 1 x3)) (z_shl 1 x4)))]) (st' := []) rfl ?_
                exact l6 c1 c2 c3 c4 c5 c6 c7
              · refine wp_run 2 (pc' := 59) (ls' := [(2, 38), (0, x2), (0, x3), (0, x4)]) (st' := [(0, 1)]) rfl ?_
                refine wp_ret rfl rfl ?_
                show wp xs _ mX0_leastThree 85 [(2, 38), (2, x1), (0, x2), (0, x3), (0, x4), (0, (z_or (z_or (z_shl 1 x2) (z_shl 1 x3)) (z_shl 1 x4)))] [(0, 1)] z_LL M _
                refine wp_run 5 (pc' := 93) (ls' := [(2, 38), (2, x1), (0, x2), (0, x3), (0, x4), (0, (z_or (z_or (z_shl 1 x2) (z_shl 1 x3)) (z_shl 1 x4)))]) (st' := [(0, 0), (0, (z_or (z_or (z_shl 1 x2) (z_shl 1 x3)) (z_shl 1 x4))), (2, x1), (2, 38)]) rfl ?_
                refine wp_callv (pc' := 96) (as := [(2, 38), (2, x1), (0, (z_or (z_or (z_shl 1 x2) (z_shl 1 x3)) (z_shl 1 x4))), (0, 0)]) (rest := []) (ls1 := [(2, 38), (2, x1), (0, (z_or (z_or (z_shl 1 x2) (z_shl 1 x3)) (z_shl 1 x4))), (0, 0), (3, 0), (3, 0), (3, 0)]) rfl rfl rfl rfl rfl rfl ?_
                exact l7 c1 c2 c3 c4 c5 c6 c7
        · refine wp_run 3 (pc' := 26) (ls' := [(2, 38), (2, x1), (0, x2), (0, x3), (0, (z_w (x4 + 1))), w5]) (st' := []) rfl ?_
          exact l8 c1 c2 c3 c4
set_option maxRecDepth 20000 in
theorem gX0_leastThree_96 {xs : List Int} {d : Nat} {M : z_M} {P : Option z_V → z_L → z_M → Prop} {x1 : Int} {x2 : Int} {x3 : Int} {x4 : Int} {x5 : Int} {s0 : Int} (hx1 : z_her M x1)
    (l1 : (s0 = 0) → wp xs d mX0_leastThree 26 [(2, 38), (2, x1), (0, x2), (0, x3), (0, (z_w (x4 + 1))), (0, x5)] [] z_LL M P)
    (l2 : (¬ (s0 = 0)) → P (some (0, x5)) z_LL M) :
    wp xs d mX0_leastThree 96 [(2, 38), (2, x1), (0, x2), (0, x3), (0, x4), (0, x5)] [(0, s0)] z_LL M P := by
  refine wp_if1 rfl rfl rfl (fun (c1 : s0 = 0) => ?_) (fun (c1 : ¬ (s0 = 0)) => ?_)
  · refine wp_run 2 (pc' := 26) (ls' := [(2, 38), (2, x1), (0, x2), (0, x3), (0, (z_w (x4 + 1))), (0, x5)]) (st' := []) rfl ?_
    exact l1 c1
  · refine wp_run 1 (pc' := 101) (ls' := [(2, 38), (2, x1), (0, x2), (0, x3), (0, x4), (0, x5)]) (st' := [(0, x5)]) rfl ?_
    exact wp_ret rfl rfl (l2 c1)
set_option maxRecDepth 20000 in
theorem gX0_leastTwo_0 {xs : List Int} {d : Nat} {M : z_M} {P : Option z_V → z_L → z_M → Prop} {a1 : Int} (ha1 : z_her M a1)
    (l1 : wp xs d mX0_leastTwo 2 [(2, 38), (2, a1), (0, 1), (3, 0), (3, 0)] [] z_LL M P) :
    wp xs d mX0_leastTwo 0 [(2, 38), (2, a1), (3, 0), (3, 0), (3, 0)] [] z_LL M P := by
  refine wp_run 2 (pc' := 2) (ls' := [(2, 38), (2, a1), (0, 1), (3, 0), (3, 0)]) (st' := []) rfl ?_
  exact l1
set_option maxRecDepth 20000 in
theorem gX0_leastTwo_2 {xs : List Int} {d : Nat} {M : z_M} {P : Option z_V → z_L → z_M → Prop} {x1 : Int} {x2 : Int} {w3 : z_V} {w4 : z_V} (hF : z_fix M) (hx1 : z_her M x1) (hg2 : z_gor M (M 34 3))
    (l1 : ((z_w ((M (M 34 3) 10) * (M (M 34 3) 11))) ≤ x2) → P (some (0, (-1))) z_LL M)
    (l2 : (¬ ((z_w ((M (M 34 3) 10) * (M (M 34 3) 11))) ≤ x2)) → wp xs (d + 1) mX0_leastTwo 18 [(2, 38), (2, x1), (0, x2), (0, 0), w4] [] z_LL M P) :
    wp xs (d + 1) mX0_leastTwo 2 [(2, 38), (2, x1), (0, x2), w3, w4] [] z_LL M P := by
  refine wp_run 2 (pc' := 4) (ls' := [(2, 38), (2, x1), (0, x2), w3, w4]) (st' := [(2, 38), (0, x2)]) rfl ?_
  refine wp_gf (pc' := 7) (t := 2) (v := 34) rfl rfl (by decide) rfl rfl (fx_38_0 hF) ?_
  refine wp_gf (pc' := 10) (t := 2) (v := (M 34 3)) rfl rfl (by decide) rfl rfl rfl ?_
  refine wp_callv (pc' := 13) (as := [(2, (M 34 3))]) (rest := [(0, x2)]) (ls1 := [(2, (M 34 3))]) rfl rfl rfl rfl (z_args_v rfl rfl rfl rfl (Nat.le_of_ble_eq_true rfl) rfl (by decide) (z_gl0 hg2)) rfl ?_
  refine wp_run 1 (pc' := 1) (ls' := [(2, (M 34 3))]) (st' := [(2, (M 34 3))]) rfl ?_
  refine wp_gf (pc' := 4) (t := 0) (v := (M (M 34 3) 10)) rfl rfl (by decide) rfl (z_gl0 hg2) rfl ?_
  refine wp_run 1 (pc' := 5) (ls' := [(2, (M 34 3))]) (st' := [(2, (M 34 3)), (0, (M (M 34 3) 10))]) rfl ?_
  refine wp_gf (pc' := 8) (t := 0) (v := (M (M 34 3) 11)) rfl rfl (by decide) rfl (z_gl0 hg2) rfl ?_
  refine wp_run 1 (pc' := 9) (ls' := [(2, (M 34 3))]) (st' := [(0, (z_w ((M (M 34 3) 10) * (M (M 34 3) 11))))]) rfl ?_
  refine wp_ret rfl rfl ?_
  show wp xs _ mX0_leastTwo 13 [(2, 38), (2, x1), (0, x2), w3, w4] [(0, (z_w ((M (M 34 3) 10) * (M (M 34 3) 11)))), (0, x2)] z_LL M _
  refine wp_if2 rfl rfl rfl (fun (c1 : (z_w ((M (M 34 3) 10) * (M (M 34 3) 11))) ≤ x2) => ?_) (fun (c1 : ¬ ((z_w ((M (M 34 3) 10) * (M (M 34 3) 11))) ≤ x2)) => ?_)
  · refine wp_run 1 (pc' := 147) (ls' := [(2, 38), (2, x1), (0, x2), w3, w4]) (st' := [(0, (-1))]) rfl ?_
    exact wp_ret rfl rfl (l1 c1)
  · refine wp_run 2 (pc' := 18) (ls' := [(2, 38), (2, x1), (0, x2), (0, 0), w4]) (st' := []) rfl ?_
    exact l2 c1
set_option maxRecDepth 20000 in
theorem gX0_leastTwo_18 {xs : List Int} {d : Nat} {M : z_M} {P : Option z_V → z_L → z_M → Prop} {x1 : Int} {x2 : Int} {x3 : Int} {w4 : z_V} (hF : z_fix M) (hx1 : z_her M x1)
    (l1 : (x2 ≤ x3) → wp xs (d + 1) mX0_leastTwo 2 [(2, 38), (2, x1), (0, (z_w (x2 + 1))), (0, x3), w4] [] z_LL M P)
    (b1 : (¬ (x2 ≤ x3)) → 0 ≤ x2 ∧ x2 < 25)
    (l2 : (¬ (x2 ≤ x3)) → (0 < (M (x1 + 4) x2)) → wp xs (d + 1) mX0_leastTwo 18 [(2, 38), (2, x1), (0, x2), (0, (z_w (x3 + 1))), w4] [] z_LL M P)
    (b2 : (¬ (x2 ≤ x3)) → (¬ (0 < (M (x1 + 4) x2))) → 0 ≤ x3 ∧ x3 < 25)
    (b3 : (¬ (x2 ≤ x3)) → (¬ (0 < (M (x1 + 4) x2))) → ((M (x1 + 4) x3) ≤ 0) → 0 ≤ (z_w ((z_w (x2 * 25)) + x2)) ∧ (z_w ((z_w (x2 * 25)) + x2)) < 625)
    (b4 : (¬ (x2 ≤ x3)) → (¬ (0 < (M (x1 + 4) x2))) → ((M (x1 + 4) x3) ≤ 0) → ((z_and (z_shr (M 45 (z_w ((z_w (x2 * 25)) + x2))) x3) 1) = 0) → 0 ≤ (z_w ((z_w (x2 * 25)) + x3)) ∧ (z_w ((z_w (x2 * 25)) + x3)) < 625)
    (l3 : (¬ (x2 ≤ x3)) → (¬ (0 < (M (x1 + 4) x2))) → ((M (x1 + 4) x3) ≤ 0) → ((z_and (z_shr (M 45 (z_w ((z_w (x2 * 25)) + x2))) x3) 1) = 0) → wp xs (d + 1) mX0_leastTwo 18 [(2, 38), (2, x1), (0, x2), (0, (z_w (x3 + 1))), (0, (M 45 (z_w ((z_w (x2 * 25)) + x2))))] [] z_LL (z_up M 45 (z_w ((z_w (x2 * 25)) + x3)) (M 45 (z_w ((z_w (x2 * 25)) + x2)))) P)
    (b5 : (¬ (x2 ≤ x3)) → (¬ (0 < (M (x1 + 4) x2))) → ((M (x1 + 4) x3) ≤ 0) → (¬ ((z_and (z_shr (M 45 (z_w ((z_w (x2 * 25)) + x2))) x3) 1) = 0)) → 0 ≤ (z_w ((z_w (x3 * 25)) + x3)) ∧ (z_w ((z_w (x3 * 25)) + x3)) < 625)
    (b6 : (¬ (x2 ≤ x3)) → (¬ (0 < (M (x1 + 4) x2))) → ((M (x1 + 4) x3) ≤ 0) → (¬ ((z_and (z_shr (M 45 (z_w ((z_w (x2 * 25)) + x2))) x3) 1) = 0)) → ((z_and (z_shr (M 45 (z_w ((z_w (x3 * 25)) + x3))) x2) 1) = 0) → 0 ≤ (z_w ((z_w (x2 * 25)) + x3)) ∧ (z_w ((z_w (x2 * 25)) + x3)) < 625)
    (l4 : (¬ (x2 ≤ x3)) → (¬ (0 < (M (x1 + 4) x2))) → ((M (x1 + 4) x3) ≤ 0) → (¬ ((z_and (z_shr (M 45 (z_w ((z_w (x2 * 25)) + x2))) x3) 1) = 0)) → ((z_and (z_shr (M 45 (z_w ((z_w (x3 * 25)) + x3))) x2) 1) = 0) → wp xs (d + 1) mX0_leastTwo 18 [(2, 38), (2, x1), (0, x2), (0, (z_w (x3 + 1))), (0, (M 45 (z_w ((z_w (x3 * 25)) + x3))))] [] z_LL (z_up M 45 (z_w ((z_w (x2 * 25)) + x3)) (M 45 (z_w ((z_w (x3 * 25)) + x3)))) P)
    (l5 : (¬ (x2 ≤ x3)) → (¬ (0 < (M (x1 + 4) x2))) → ((M (x1 + 4) x3) ≤ 0) → (¬ ((z_and (z_shr (M 45 (z_w ((z_w (x2 * 25)) + x2))) x3) 1) = 0)) → (¬ ((z_and (z_shr (M 45 (z_w ((z_w (x3 * 25)) + x3))) x2) 1) = 0)) → wp xs d mX0_mixEnough 0 [(2, 38), (2, x1), (0, (z_or (z_shl 1 x2) (z_shl 1 x3))), (0, 0), (3, 0), (3, 0), (3, 0)] [] z_LL M (fun r L1 M1 => wp xs (d + 1) mX0_leastTwo 101 [(2, 38), (2, x1), (0, x2), (0, x3), (0, (M 45 (z_w ((z_w (x3 * 25)) + x3))))] (z_ol r ++ []) L1 M1 P))
    (l6 : (¬ (x2 ≤ x3)) → (¬ (0 < (M (x1 + 4) x2))) → (¬ ((M (x1 + 4) x3) ≤ 0)) → wp xs (d + 1) mX0_leastTwo 18 [(2, 38), (2, x1), (0, x2), (0, (z_w (x3 + 1))), w4] [] z_LL M P) :
    wp xs (d + 1) mX0_leastTwo 18 [(2, 38), (2, x1), (0, x2), (0, x3), w4] [] z_LL M P := by
  refine wp_run 2 (pc' := 20) (ls' := [(2, 38), (2, x1), (0, x2), (0, x3), w4]) (st' := [(0, x2), (0, x3)]) rfl ?_
  refine wp_if2 rfl rfl rfl (fun (c1 : x2 ≤ x3) => ?_) (fun (c1 : ¬ (x2 ≤ x3)) => ?_)
  · refine wp_run 2 (pc' := 2) (ls' := [(2, 38), (2, x1), (0, (z_w (x2 + 1))), (0, x3), w4]) (st' := []) rfl ?_
    exact l1 c1
  · refine wp_run 1 (pc' := 24) (ls' := [(2, 38), (2, x1), (0, x2), (0, x3), w4]) (st' := [(2, x1)]) rfl ?_
    refine wp_gf (pc' := 27) (t := 2) (v := (x1 + 4)) rfl rfl (by decide) rfl (z_hl0 hx1) (z_hf3 hx1) ?_
    refine wp_run 1 (pc' := 28) (ls' := [(2, 38), (2, x1), (0, x2), (0, x3), w4]) (st' := [(0, x2), (2, (x1 + 4))]) rfl ?_
    refine wp_iald (pc' := 29) (v := (M (x1 + 4) x2)) rfl rfl (z_hl4 hx1) (b1 c1) rfl ?_
    refine wp_if1 rfl rfl rfl (fun (c2 : 0 < (M (x1 + 4) x2)) => ?_) (fun (c2 : ¬ (0 < (M (x1 + 4) x2))) => ?_)
    · refine wp_run 2 (pc' := 18) (ls' := [(2, 38), (2, x1), (0, x2), (0, (z_w (x3 + 1))), w4]) (st' := []) rfl ?_
      exact l2 c1 c2
    · refine wp_run 1 (pc' := 33) (ls' := [(2, 38), (2, x1), (0, x2), (0, x3), w4]) (st' := [(2, x1)]) rfl ?_
      refine wp_gf (pc' := 36) (t := 2) (v := (x1 + 4)) rfl rfl (by decide) rfl (z_hl0 hx1) (z_hf3 hx1) ?_
      refine wp_run 1 (pc' := 37) (ls' := [(2, 38), (2, x1), (0, x2), (0, x3), w4]) (st' := [(0, x3), (2, (x1 + 4))]) rfl ?_
      refine wp_iald (pc' := 38) (v := (M (x1 + 4) x3)) rfl rfl (z_hl4 hx1) (b2 c1 c2) rfl ?_
      refine wp_if1 rfl rfl rfl (fun (c3 : (M (x1 + 4) x3) ≤ 0) => ?_) (fun (c3 : ¬ ((M (x1 + 4) x3) ≤ 0)) => ?_)
      · refine wp_run 1 (pc' := 45) (ls' := [(2, 38), (2, x1), (0, x2), (0, x3), w4]) (st' := [(2, 38)]) rfl ?_
        refine wp_gf (pc' := 48) (t := 2) (v := 45) rfl rfl (by decide) rfl rfl (fx_38_2 hF) ?_
        refine wp_run 5 (pc' := 54) (ls' := [(2, 38), (2, x1), (0, x2), (0, x3), w4]) (st' := [(0, (z_w ((z_w (x2 * 25)) + x2))), (2, 45)]) rfl ?_
        refine wp_iald (pc' := 55) (v := (M 45 (z_w ((z_w (x2 * 25)) + x2)))) rfl rfl rfl (b3 c1 c2 c3) rfl ?_
        refine wp_run 6 (pc' := 63) (ls' := [(2, 38), (2, x1), (0, x2), (0, x3), (0, (M 45 (z_w ((z_w (x2 * 25)) + x2))))]) (st' := [(0, (z_and (z_shr (M 45 (z_w ((z_w (x2 * 25)) + x2))) x3) 1))]) rfl ?_
        refine wp_if1 rfl rfl rfl (fun (c4 : (z_and (z_shr (M 45 (z_w ((z_w (x2 * 25)) + x2))) x3) 1) = 0) => ?_) (fun (c4 : ¬ ((z_and (z_shr (M 45 (z_w ((z_w (x2 * 25)) + x2))) x3) 1) = 0)) => ?_)
        · refine wp_run 1 (pc' := 122) (ls' := [(2, 38), (2, x1), (0, x2), (0, x3), (0, (M 45 (z_w ((z_w (x2 * 25)) + x2))))]) (st' := [(2, 38)]) rfl ?_
          refine wp_gf (pc' := 125) (t := 2) (v := 45) rfl rfl (by decide) rfl rfl (fx_38_2 hF) ?_
          refine wp_run 6 (pc' := 133) (ls' := [(2, 38), (2, x1), (0, x2), (0, x3), (0, (M 45 (z_w ((z_w (x2 * 25)) + x2))))]) (st' := [(0, (M 45 (z_w ((z_w (x2 * 25)) + x2)))), (0, (z_w ((z_w (x2 * 25)) + x3))), (2, 45)]) rfl ?_
          refine wp_iast (pc' := 134) rfl rfl rfl (b4 c1 c2 c3 c4) ?_
          refine wp_run 2 (pc' := 18) (ls' := [(2, 38), (2, x1), (0, x2), (0, (z_w (x3 + 1))), (0, (M 45 (z_w ((z_w (x2 * 25)) + x2))))]) (st' := []) rfl ?_
          exact l3 c1 c2 c3 c4
        · refine wp_run 1 (pc' := 67) (ls' := [(2, 38), (2, x1), (0, x2), (0, x3), (0, (M 45 (z_w ((z_w (x2 * 25)) + x2))))]) (st' := [(2, 38)]) rfl ?_
          refine wp_gf (pc' := 70) (t := 2) (v := 45) rfl rfl (by decide) rfl rfl (fx_38_2 hF) ?_
          refine wp_run 5 (pc' := 76) (ls' := [(2, 38), (2, x1), (0, x2), (0, x3), (0, (M 45 (z_w ((z_w (x2 * 25)) + x2))))]) (st' := [(0, (z_w ((z_w (x3 * 25)) + x3))), (2, 45)]) rfl ?_
          refine wp_iald (pc' := 77) (v := (M 45 (z_w ((z_w (x3 * 25)) + x3)))) rfl rfl rfl (b5 c1 c2 c3 c4) rfl ?_
          refine wp_run 6 (pc' := 85) (ls' := [(2, 38), (2, x1), (0, x2), (0, x3), (0, (M 45 (z_w ((z_w (x3 * 25)) + x3))))]) (st' := [(0, (z_and (z_shr (M 45 (z_w ((z_w (x3 * 25)) + x3))) x2) 1))]) rfl ?_
          refine wp_if1 rfl rfl rfl (fun (c5 : (z_and (z_shr (M 45 (z_w ((z_w (x3 * 25)) + x3))) x2) 1) = 0) => ?_) (fun (c5 : ¬ ((z_and (z_shr (M 45 (z_w ((z_w (x3 * 25)) + x3))) x2) 1) = 0)) => ?_)
          · refine wp_run 1 (pc' := 122) (ls' := [(2, 38), (2, x1), (0, x2), (0, x3), (0, (M 45 (z_w ((z_w (x3 * 25)) + x3))))]) (st' := [(2, 38)]) rfl ?_
            refine wp_gf (pc' := 125) (t := 2) (v := 45) rfl rfl (by decide) rfl rfl (fx_38_2 hF) ?_
            refine wp_run 6 (pc' := 133) (ls' := [(2, 38), (2, x1), (0, x2), (0, x3), (0, (M 45 (z_w ((z_w (x3 * 25)) + x3))))]) (st' := [(0, (M 45 (z_w ((z_w (x3 * 25)) + x3)))), (0, (z_w ((z_w (x2 * 25)) + x3))), (2, 45)]) rfl ?_
            refine wp_iast (pc' := 134) rfl rfl rfl (b6 c1 c2 c3 c4 c5) ?_
            refine wp_run 2 (pc' := 18) (ls' := [(2, 38), (2, x1), (0, x2), (0, (z_w (x3 + 1))), (0, (M 45 (z_w ((z_w (x3 * 25)) + x3))))]) (st' := []) rfl ?_
            exact l4 c1 c2 c3 c4 c5
          · refine wp_run 10 (pc' := 98) (ls' := [(2, 38), (2, x1), (0, x2), (0, x3), (0, (M 45 (z_w ((z_w (x3 * 25)) + x3))))]) (st' := [(0, 0), (0, (z_or (z_shl 1 x2) (z_shl 1 x3))), (2, x1), (2, 38)]) rfl ?_
            refine wp_callv (pc' := 101) (as := [(2, 38), (2, x1), (0, (z_or (z_shl 1 x2) (z_shl 1 x3))), (0, 0)]) (rest := []) (ls1 := [(2, 38), (2, x1), (0, (z_or (z_shl 1 x2) (z_shl 1 x3))), (0, 0), (3, 0), (3, 0), (3, 0)]) rfl rfl rfl rfl rfl rfl ?_
            exact l5 c1 c2 c3 c4 c5
      · refine wp_run 3 (pc' := 18) (ls' := [(2, 38), (2, x1), (0, x2), (0, (z_w (x3 + 1))), w4]) (st' := []) rfl ?_
        exact l6 c1 c2 c3
set_option maxRecDepth 20000 in
theorem gX0_leastTwo_101 {xs : List Int} {d : Nat} {M : z_M} {P : Option z_V → z_L → z_M → Prop} {x1 : Int} {x2 : Int} {x3 : Int} {x4 : Int} {s0 : Int} (hF : z_fix M) (hx1 : z_her M x1)
    (b1 : (s0 = 0) → 0 ≤ (z_w ((z_w (x2 * 25)) + x3)) ∧ (z_w ((z_w (x2 * 25)) + x3)) < 625)
    (l1 : (s0 = 0) → wp xs d mX0_leastTwo 18 [(2, 38), (2, x1), (0, x2), (0, (z_w (x3 + 1))), (0, (M 34 4))] [] z_LL (z_up M 45 (z_w ((z_w (x2 * 25)) + x3)) (M 34 4)) P)
    (l2 : (¬ (s0 = 0)) → P (some (0, (z_or (z_shl 1 x2) (z_shl 1 x3)))) z_LL M) :
    wp xs d mX0_leastTwo 101 [(2, 38), (2, x1), (0, x2), (0, x3), (0, x4)] [(0, s0)] z_LL M P := by
  refine wp_if1 rfl rfl rfl (fun (c1 : s0 = 0) => ?_) (fun (c1 : ¬ (s0 = 0)) => ?_)
  · refine wp_run 1 (pc' := 113) (ls' := [(2, 38), (2, x1), (0, x2), (0, x3), (0, x4)]) (st' := [(2, 38)]) rfl ?_
    refine wp_gf (pc' := 116) (t := 2) (v := 34) rfl rfl (by decide) rfl rfl (fx_38_0 hF) ?_
    refine wp_gf (pc' := 119) (t := 0) (v := (M 34 4)) rfl rfl (by decide) rfl rfl rfl ?_
    refine wp_run 2 (pc' := 122) (ls' := [(2, 38), (2, x1), (0, x2), (0, x3), (0, (M 34 4))]) (st' := [(2, 38)]) rfl ?_
    refine wp_gf (pc' := 125) (t := 2) (v := 45) rfl rfl (by decide) rfl rfl (fx_38_2 hF) ?_
    refine wp_run 6 (pc' := 133) (ls' := [(2, 38), (2, x1), (0, x2), (0, x3), (0, (M 34 4))]) (st' := [(0, (M 34 4)), (0, (z_w ((z_w (x2 * 25)) + x3))), (2, 45)]) rfl ?_
    refine wp_iast (pc' := 134) rfl rfl rfl (b1 c1) ?_
    refine wp_run 2 (pc' := 18) (ls' := [(2, 38), (2, x1), (0, x2), (0, (z_w (x3 + 1))), (0, (M 34 4))]) (st' := []) rfl ?_
    exact l1 c1
  · refine wp_run 7 (pc' := 111) (ls' := [(2, 38), (2, x1), (0, x2), (0, x3), (0, x4)]) (st' := [(0, (z_or (z_shl 1 x2) (z_shl 1 x3)))]) rfl ?_
    exact wp_ret rfl rfl (l2 c1)
set_option maxRecDepth 20000 in
theorem gX0_mixEnough_0 {xs : List Int} {d : Nat} {M : z_M} {P : Option z_V → z_L → z_M → Prop} {a1 : Int} {a2 : Int} {a3 : Int} (hF : z_fix M) (ha1 : z_her M a1) (hn1 : a1 ≠ 39)
    (l1 : wp xs (d + 1) mX0_mixEnough 24 [(2, 38), (2, a1), (0, a2), (0, a3), (0, 0), (3, 0), (3, 0)] [] z_LL (z_up (z_up (z_up (z_up (z_cpy (z_cpy (z_cpy (z_cpy (z_cpy M (a1 + 1) 0 40 0 6) (a1 + 2) 0 41 0 6) (a1 + 3) 0 42 0 25) (a1 + 4) 0 43 0 25) (a1 + 5) 0 44 0 36) 39 5 (M a1 5)) 39 6 (M a1 6)) 39 7 (M a1 7)) 39 5 (z_or (M a1 5) a3)) P) :
    wp xs (d + 1) mX0_mixEnough 0 [(2, 38), (2, a1), (0, a2), (0, a3), (3, 0), (3, 0), (3, 0)] [] z_LL M P := by
  refine wp_run 1 (pc' := 1) (ls' := [(2, 38), (2, a1), (0, a2), (0, a3), (3, 0), (3, 0), (3, 0)]) (st' := [(2, 38)]) rfl ?_
  refine wp_gf (pc' := 4) (t := 2) (v := 39) rfl rfl (by decide) rfl rfl (fx_38_1 hF) ?_
  refine wp_run 1 (pc' := 5) (ls' := [(2, 38), (2, a1), (0, a2), (0, a3), (3, 0), (3, 0), (3, 0)]) (st' := [(2, a1), (2, 39)]) rfl ?_
  refine wp_callv (pc' := 8) (as := [(2, 39), (2, a1)]) (rest := []) (ls1 := [(2, 39), (2, a1)]) rfl rfl rfl rfl rfl rfl ?_
  refine wp_run 1 (pc' := 1) (ls' := [(2, 39), (2, a1)]) (st' := [(2, a1)]) rfl ?_
  refine wp_gf (pc' := 4) (t := 2) (v := (a1 + 1)) rfl rfl (by decide) rfl (z_hl0 ha1) (z_hf0 ha1) ?_
  refine wp_run 2 (pc' := 6) (ls' := [(2, 39), (2, a1)]) (st' := [(2, 39), (0, 0), (2, (a1 + 1))]) rfl ?_
  refine wp_gf (pc' := 9) (t := 2) (v := 40) rfl rfl (by decide) rfl rfl (fx_39_0 hF) ?_
  refine wp_run 2 (pc' := 12) (ls' := [(2, 39), (2, a1)]) (st' := [(0, 6), (0, 0), (2, 40), (0, 0), (2, (a1 + 1))]) rfl ?_
  refine wp_acp (pc' := 15) rfl rfl (z_hl1 ha1) rfl (by decide) ?_
  refine wp_run 1 (pc' := 16) (ls' := [(2, 39), (2, a1)]) (st' := [(2, a1)]) rfl ?_
  refine wp_gf (pc' := 19) (t := 2) (v := (a1 + 2)) rfl rfl (by decide) rfl (z_hl0 ha1) (z_cpq (by have := z_hr ha1; omega) (z_hf1 ha1)) ?_
  refine wp_run 2 (pc' := 21) (ls' := [(2, 39), (2, a1)]) (st' := [(2, 39), (0, 0), (2, (a1 + 2))]) rfl ?_
  refine wp_gf (pc' := 24) (t := 2) (v := 41) rfl rfl (by decide) rfl rfl (z_cpq (by decide) (fx_39_1 hF)) ?_
  refine wp_run 2 (pc' := 27) (ls' := [(2, 39), (2, a1)]) (st' := [(0, 6), (0, 0), (2, 41), (0, 0), (2, (a1 + 2))]) rfl ?_
  refine wp_acp (pc' := 30) rfl rfl (z_hl2 ha1) rfl (by decide) ?_
  refine wp_run 1 (pc' := 31) (ls' := [(2, 39), (2, a1)]) (st' := [(2, a1)]) rfl ?_
  refine wp_gf (pc' := 34) (t := 2) (v := (a1 + 3)) rfl rfl (by decide) rfl (z_hl0 ha1) (z_cpq (by have := z_hr ha1; omega) (z_cpq (by have := z_hr ha1; omega) (z_hf2 ha1))) ?_
  refine wp_run 2 (pc' := 36) (ls' := [(2, 39), (2, a1)]) (st' := [(2, 39), (0, 0), (2, (a1 + 3))]) rfl ?_
  refine wp_gf (pc' := 39) (t := 2) (v := 42) rfl rfl (by decide) rfl rfl (z_cpq (by decide) (z_cpq (by decide) (fx_39_2 hF))) ?_
  refine wp_run 2 (pc' := 42) (ls' := [(2, 39), (2, a1)]) (st' := [(0, 25), (0, 0), (2, 42), (0, 0), (2, (a1 + 3))]) rfl ?_
  refine wp_acp (pc' := 45) rfl rfl (z_hl3 ha1) rfl (by decide) ?_
  refine wp_run 1 (pc' := 46) (ls' := [(2, 39), (2, a1)]) (st' := [(2, a1)]) rfl ?_
  refine wp_gf (pc' := 49) (t := 2) (v := (a1 + 4)) rfl rfl (by decide) rfl (z_hl0 ha1) (z_cpq (by have := z_hr ha1; omega) (z_cpq (by have := z_hr ha1; omega) (z_cpq (by have := z_hr ha1; omega) (z_hf3 ha1)))) ?_
  refine wp_run 2 (pc' := 51) (ls' := [(2, 39), (2, a1)]) (st' := [(2, 39), (0, 0), (2, (a1 + 4))]) rfl ?_
  refine wp_gf (pc' := 54) (t := 2) (v := 43) rfl rfl (by decide) rfl rfl (z_cpq (by decide) (z_cpq (by decide) (z_cpq (by decide) (fx_39_3 hF)))) ?_
  refine wp_run 2 (pc' := 57) (ls' := [(2, 39), (2, a1)]) (st' := [(0, 25), (0, 0), (2, 43), (0, 0), (2, (a1 + 4))]) rfl ?_
  refine wp_acp (pc' := 60) rfl rfl (z_hl4 ha1) rfl (by decide) ?_
  refine wp_run 1 (pc' := 61) (ls' := [(2, 39), (2, a1)]) (st' := [(2, a1)]) rfl ?_
  refine wp_gf (pc' := 64) (t := 2) (v := (a1 + 5)) rfl rfl (by decide) rfl (z_hl0 ha1) (z_cpq (by have := z_hr ha1; omega) (z_cpq (by have := z_hr ha1; omega) (z_cpq (by have := z_hr ha1; omega) (z_cpq (by have := z_hr ha1; omega) (z_hf4 ha1))))) ?_
  refine wp_run 2 (pc' := 66) (ls' := [(2, 39), (2, a1)]) (st' := [(2, 39), (0, 0), (2, (a1 + 5))]) rfl ?_
  refine wp_gf (pc' := 69) (t := 2) (v := 44) rfl rfl (by decide) rfl rfl (z_cpq (by decide) (z_cpq (by decide) (z_cpq (by decide) (z_cpq (by decide) (fx_39_4 hF))))) ?_
  refine wp_run 2 (pc' := 71) (ls' := [(2, 39), (2, a1)]) (st' := [(2, 39), (0, 0), (2, 44), (0, 0), (2, (a1 + 5))]) rfl ?_
  refine wp_gf (pc' := 74) (t := 2) (v := 44) rfl rfl (by decide) rfl rfl (z_cpq (by decide) (z_cpq (by decide) (z_cpq (by decide) (z_cpq (by decide) (fx_39_4 hF))))) ?_
  refine wp_len (pc' := 75) rfl rfl rfl (by decide) ?_
  refine wp_acp (pc' := 78) rfl rfl (z_hl5 ha1) rfl (by decide) ?_
  refine wp_run 2 (pc' := 80) (ls' := [(2, 39), (2, a1)]) (st' := [(2, a1), (2, 39)]) rfl ?_
  refine wp_gf (pc' := 83) (t := 0) (v := (M a1 5)) rfl rfl (by decide) rfl (z_hl0 ha1) (z_cpq (by have := z_hr ha1; omega) (z_cpq (by have := z_hr ha1; omega) (z_cpq (by have := z_hr ha1; omega) (z_cpq (by have := z_hr ha1; omega) (z_cpq (by have := z_hr ha1; omega) rfl))))) ?_
  refine wp_pf (pc' := 86) rfl rfl rfl rfl (fun z => absurd z (by decide)) (fun z => absurd z (by decide)) ?_
  refine wp_run 2 (pc' := 88) (ls' := [(2, 39), (2, a1)]) (st' := [(2, a1), (2, 39)]) rfl ?_
  refine wp_gf (pc' := 91) (t := 0) (v := (M a1 6)) rfl rfl (by decide) rfl (z_hl0 ha1) (z_upq (by have := z_hr ha1; omega) (z_cpq (by have := z_hr ha1; omega) (z_cpq (by have := z_hr ha1; omega) (z_cpq (by have := z_hr ha1; omega) (z_cpq (by have := z_hr ha1; omega) (z_cpq (by have := z_hr ha1; omega) rfl)))))) ?_
  refine wp_pf (pc' := 94) rfl rfl rfl rfl (fun z => absurd z (by decide)) (fun z => absurd z (by decide)) ?_
  refine wp_run 2 (pc' := 96) (ls' := [(2, 39), (2, a1)]) (st' := [(2, a1), (2, 39)]) rfl ?_
  refine wp_gf (pc' := 99) (t := 0) (v := (M a1 7)) rfl rfl (by decide) rfl (z_hl0 ha1) (z_upq (by have := z_hr ha1; omega) (z_upq (by have := z_hr ha1; omega) (z_cpq (by have := z_hr ha1; omega) (z_cpq (by have := z_hr ha1; omega) (z_cpq (by have := z_hr ha1; omega) (z_cpq (by have := z_hr ha1; omega) (z_cpq (by have := z_hr ha1; omega) rfl))))))) ?_
  refine wp_pf (pc' := 102) rfl rfl rfl rfl (fun z => absurd z (by decide)) (fun z => absurd z (by decide)) ?_
  refine wp_ret rfl rfl ?_
  show wp xs _ mX0_mixEnough 8 [(2, 38), (2, a1), (0, a2), (0, a3), (3, 0), (3, 0), (3, 0)] [] z_LL (z_up (z_up (z_up (z_cpy (z_cpy (z_cpy (z_cpy (z_cpy M (a1 + 1) 0 40 0 6) (a1 + 2) 0 41 0 6) (a1 + 3) 0 42 0 25) (a1 + 4) 0 43 0 25) (a1 + 5) 0 44 0 36) 39 5 (M a1 5)) 39 6 (M a1 6)) 39 7 (M a1 7)) _
  refine wp_run 1 (pc' := 9) (ls' := [(2, 38), (2, a1), (0, a2), (0, a3), (3, 0), (3, 0), (3, 0)]) (st' := [(2, 38)]) rfl ?_
  refine wp_gf (pc' := 12) (t := 2) (v := 39) rfl rfl (by decide) rfl rfl (z_upq (by decide) (z_upq (by decide) (z_upq (by decide) (z_cpq (by decide) (z_cpq (by decide) (z_cpq (by decide) (z_cpq (by decide) (z_cpq (by decide) (fx_38_1 hF))))))))) ?_
  refine wp_run 1 (pc' := 13) (ls' := [(2, 38), (2, a1), (0, a2), (0, a3), (3, 0), (3, 0), (3, 0)]) (st' := [(2, 39), (2, 39)]) rfl ?_
  refine wp_gf (pc' := 16) (t := 0) (v := (M a1 5)) rfl rfl (by decide) rfl rfl (z_upi (by decide) (z_upi (by decide) z_ups)) ?_
  refine wp_run 2 (pc' := 18) (ls' := [(2, 38), (2, a1), (0, a2), (0, a3), (3, 0), (3, 0), (3, 0)]) (st' := [(0, (z_or (M a1 5) a3)), (2, 39)]) rfl ?_
  refine wp_pf (pc' := 21) rfl rfl rfl rfl (fun z => absurd z (by decide)) (fun z => absurd z (by decide)) ?_
  refine wp_run 2 (pc' := 24) (ls' := [(2, 38), (2, a1), (0, a2), (0, a3), (0, 0), (3, 0), (3, 0)]) (st' := []) rfl ?_
  exact l1
set_option maxRecDepth 20000 in
theorem gX0_mixEnough_24 {xs : List Int} {d : Nat} {M : z_M} {P : Option z_V → z_L → z_M → Prop} {x1 : Int} {x2 : Int} {x3 : Int} {x4 : Int} (hF : z_fix M) (hx1 : z_her M x1)
    (b1 : (25 ≤ x4) → ((M 38 5) ≤ (M 38 4)) → 0 ≤ (z_w ((z_w ((M 38 5) * 6)) + (M 38 4))) ∧ (z_w ((z_w ((M 38 5) * 6)) + (M 38 4))) < 36)
    (l1 : (25 ≤ x4) → ((M 38 5) ≤ (M 38 4)) → wp xs (d + 2) mX0_mixEnough 91 [(2, 38), (2, x1), (0, x2), (0, x3), (0, (z_w ((M (x1 + 5) (z_w ((z_w ((M 38 5) * 6)) + (M 38 4)))) + (M 38 6)))), (0, (M 38 7)), (3, 0)] [] z_LL (z_up M 34 4 0) P)
    (b2 : (25 ≤ x4) → (¬ ((M 38 5) ≤ (M 38 4))) → 0 ≤ (z_w ((z_w ((M 38 4) * 6)) + (M 38 5))) ∧ (z_w ((z_w ((M 38 4) * 6)) + (M 38 5))) < 36)
    (l2 : (25 ≤ x4) → (¬ ((M 38 5) ≤ (M 38 4))) → wp xs (d + 2) mX0_mixEnough 91 [(2, 38), (2, x1), (0, x2), (0, x3), (0, (z_w ((M (x1 + 5) (z_w ((z_w ((M 38 4) * 6)) + (M 38 5)))) + (M 38 6)))), (0, (M 38 7)), (3, 0)] [] z_LL (z_up M 34 4 0) P)
    (l3 : (¬ (25 ≤ x4)) → ((z_and (z_shr x2 x4) 1) = 0) → wp xs (d + 2) mX0_mixEnough 24 [(2, 38), (2, x1), (0, x2), (0, x3), (0, (z_w (x4 + 1))), (3, 0), (3, 0)] [] z_LL M P)
    (b3 : (¬ (25 ≤ x4)) → (¬ ((z_and (z_shr x2 x4) 1) = 0)) → 0 ≤ x4 ∧ x4 < 25)
    (l4 : (¬ (25 ≤ x4)) → (¬ ((z_and (z_shr x2 x4) 1) = 0)) → wp xs (d + 2) mX0_mixEnough 24 [(2, 38), (2, x1), (0, x2), (0, x3), (0, (z_w (x4 + 1))), (3, 0), (3, 0)] [] z_LL (z_up M 43 x4 9) P) :
    wp xs (d + 2) mX0_mixEnough 24 [(2, 38), (2, x1), (0, x2), (0, x3), (0, x4), (3, 0), (3, 0)] [] z_LL M P := by
  refine wp_run 2 (pc' := 28) (ls' := [(2, 38), (2, x1), (0, x2), (0, x3), (0, x4), (3, 0), (3, 0)]) (st' := [(0, 25), (0, x4)]) rfl ?_
  refine wp_if2 rfl rfl rfl (fun (c1 : 25 ≤ x4) => ?_) (fun (c1 : ¬ (25 ≤ x4)) => ?_)
  · refine wp_run 1 (pc' := 59) (ls' := [(2, 38), (2, x1), (0, x2), (0, x3), (0, x4), (3, 0), (3, 0)]) (st' := [(2, 38)]) rfl ?_
    refine wp_gf (pc' := 62) (t := 2) (v := 34) rfl rfl (by decide) rfl rfl (fx_38_0 hF) ?_
    refine wp_run 1 (pc' := 63) (ls' := [(2, 38), (2, x1), (0, x2), (0, x3), (0, x4), (3, 0), (3, 0)]) (st' := [(0, 0), (2, 34)]) rfl ?_
    refine wp_pf (pc' := 66) rfl rfl rfl rfl (fun z => absurd z (by decide)) (fun z => absurd z (by decide)) ?_
    refine wp_run 2 (pc' := 68) (ls' := [(2, 38), (2, x1), (0, x2), (0, x3), (0, x4), (3, 0), (3, 0)]) (st' := [(2, 38), (2, x1)]) rfl ?_
    refine wp_gf (pc' := 71) (t := 0) (v := (M 38 4)) rfl rfl (by decide) rfl rfl (z_upq (by decide) rfl) ?_
    refine wp_run 1 (pc' := 72) (ls' := [(2, 38), (2, x1), (0, x2), (0, x3), (0, x4), (3, 0), (3, 0)]) (st' := [(2, 38), (0, (M 38 4)), (2, x1)]) rfl ?_
    refine wp_gf (pc' := 75) (t := 0) (v := (M 38 5)) rfl rfl (by decide) rfl rfl (z_upq (by decide) rfl) ?_
    refine wp_callv (pc' := 78) (as := [(2, x1), (0, (M 38 4)), (0, (M 38 5))]) (rest := []) (ls1 := [(2, x1), (0, (M 38 4)), (0, (M 38 5))]) rfl rfl rfl rfl (z_args_v rfl rfl rfl rfl (Nat.le_of_ble_eq_true rfl) rfl (by decide) (z_hl0 hx1)) rfl ?_
    refine wp_run 1 (pc' := 1) (ls' := [(2, x1), (0, (M 38 4)), (0, (M 38 5))]) (st' := [(2, x1)]) rfl ?_
    refine wp_gf (pc' := 4) (t := 2) (v := (x1 + 5)) rfl rfl (by decide) rfl (z_hl0 hx1) (z_upq (by have := z_hr hx1; omega) (z_hf4 hx1)) ?_
    refine wp_run 2 (pc' := 6) (ls' := [(2, x1), (0, (M 38 4)), (0, (M 38 5))]) (st' := [(0, (M 38 5)), (0, (M 38 4)), (2, (x1 + 5))]) rfl ?_
    refine wp_callv (pc' := 9) (as := [(0, (M 38 4)), (0, (M 38 5))]) (rest := [(2, (x1 + 5))]) (ls1 := [(0, (M 38 4)), (0, (M 38 5))]) rfl rfl rfl rfl rfl rfl ?_
    refine wp_run 2 (pc' := 2) (ls' := [(0, (M 38 4)), (0, (M 38 5))]) (st' := [(0, (M 38 5)), (0, (M 38 4))]) rfl ?_
    refine wp_if2 rfl rfl rfl (fun (c2 : (M 38 5) ≤ (M 38 4)) => ?_) (fun (c2 : ¬ ((M 38 5) ≤ (M 38 4))) => ?_)
    · refine wp_run 5 (pc' := 20) (ls' := [(0, (M 38 4)), (0, (M 38 5))]) (st' := [(0, (z_w ((z_w ((M 38 5) * 6)) + (M 38 4))))]) rfl ?_
      refine wp_ret rfl rfl ?_
      show wp xs _ mX2_mixedOf 9 [(2, x1), (0, (M 38 4)), (0, (M 38 5))] [(0, (z_w ((z_w ((M 38 5) * 6)) + (M 38 4)))), (2, (x1 + 5))] z_LL (z_up M 34 4 0) _
      refine wp_iald (pc' := 10) (v := (M (x1 + 5) (z_w ((z_w ((M 38 5) * 6)) + (M 38 4))))) rfl rfl (z_hl5 hx1) (b1 c1 c2) (z_upq (by have := z_hr hx1; omega) rfl) ?_
      refine wp_ret rfl rfl ?_
      show wp xs _ mX0_mixEnough 78 [(2, 38), (2, x1), (0, x2), (0, x3), (0, x4), (3, 0), (3, 0)] [(0, (M (x1 + 5) (z_w ((z_w ((M 38 5) * 6)) + (M 38 4)))))] z_LL (z_up M 34 4 0) _
      refine wp_run 1 (pc' := 79) (ls' := [(2, 38), (2, x1), (0, x2), (0, x3), (0, x4), (3, 0), (3, 0)]) (st' := [(2, 38), (0, (M (x1 + 5) (z_w ((z_w ((M 38 5) * 6)) + (M 38 4)))))]) rfl ?_
      refine wp_gf (pc' := 82) (t := 0) (v := (M 38 6)) rfl rfl (by decide) rfl rfl (z_upq (by decide) rfl) ?_
      refine wp_run 3 (pc' := 86) (ls' := [(2, 38), (2, x1), (0, x2), (0, x3), (0, (z_w ((M (x1 + 5) (z_w ((z_w ((M 38 5) * 6)) + (M 38 4)))) + (M 38 6)))), (3, 0), (3, 0)]) (st' := [(2, 38)]) rfl ?_
      refine wp_gf (pc' := 89) (t := 0) (v := (M 38 7)) rfl rfl (by decide) rfl rfl (z_upq (by decide) rfl) ?_
      refine wp_run 1 (pc' := 91) (ls' := [(2, 38), (2, x1), (0, x2), (0, x3), (0, (z_w ((M (x1 + 5) (z_w ((z_w ((M 38 5) * 6)) + (M 38 4)))) + (M 38 6)))), (0, (M 38 7)), (3, 0)]) (st' := []) rfl ?_
      exact l1 c1 c2
    · refine wp_run 6 (pc' := 20) (ls' := [(0, (M 38 4)), (0, (M 38 5))]) (st' := [(0, (z_w ((z_w ((M 38 4) * 6)) + (M 38 5))))]) rfl ?_
      refine wp_ret rfl rfl ?_
      show wp xs _ mX2_mixedOf 9 [(2, x1), (0, (M 38 4)), (0, (M 38 5))] [(0, (z_w ((z_w ((M 38 4) * 6)) + (M 38 5)))), (2, (x1 + 5))] z_LL (z_up M 34 4 0) _
      refine wp_iald (pc' := 10) (v := (M (x1 + 5) (z_w ((z_w ((M 38 4) * 6)) + (M 38 5))))) rfl rfl (z_hl5 hx1) (b2 c1 c2) (z_upq (by have := z_hr hx1; omega) rfl) ?_
      refine wp_ret rfl rfl ?_
      show wp xs _ mX0_mixEnough 78 [(2, 38), (2, x1), (0, x2), (0, x3), (0, x4), (3, 0), (3, 0)] [(0, (M (x1 + 5) (z_w ((z_w ((M 38 4) * 6)) + (M 38 5)))))] z_LL (z_up M 34 4 0) _
      refine wp_run 1 (pc' := 79) (ls' := [(2, 38), (2, x1), (0, x2), (0, x3), (0, x4), (3, 0), (3, 0)]) (st' := [(2, 38), (0, (M (x1 + 5) (z_w ((z_w ((M 38 4) * 6)) + (M 38 5)))))]) rfl ?_
      refine wp_gf (pc' := 82) (t := 0) (v := (M 38 6)) rfl rfl (by decide) rfl rfl (z_upq (by decide) rfl) ?_
      refine wp_run 3 (pc' := 86) (ls' := [(2, 38), (2, x1), (0, x2), (0, x3), (0, (z_w ((M (x1 + 5) (z_w ((z_w ((M 38 4) * 6)) + (M 38 5)))) + (M 38 6)))), (3, 0), (3, 0)]) (st' := [(2, 38)]) rfl ?_
      refine wp_gf (pc' := 89) (t := 0) (v := (M 38 7)) rfl rfl (by decide) rfl rfl (z_upq (by decide) rfl) ?_
      refine wp_run 1 (pc' := 91) (ls' := [(2, 38), (2, x1), (0, x2), (0, x3), (0, (z_w ((M (x1 + 5) (z_w ((z_w ((M 38 4) * 6)) + (M 38 5)))) + (M 38 6)))), (0, (M 38 7)), (3, 0)]) (st' := []) rfl ?_
      exact l2 c1 c2
  · refine wp_run 5 (pc' := 37) (ls' := [(2, 38), (2, x1), (0, x2), (0, x3), (0, x4), (3, 0), (3, 0)]) (st' := [(0, (z_and (z_shr x2 x4) 1))]) rfl ?_
    refine wp_if1 rfl rfl rfl (fun (c3 : (z_and (z_shr x2 x4) 1) = 0) => ?_) (fun (c3 : ¬ ((z_and (z_shr x2 x4) 1) = 0)) => ?_)
    · refine wp_run 2 (pc' := 24) (ls' := [(2, 38), (2, x1), (0, x2), (0, x3), (0, (z_w (x4 + 1))), (3, 0), (3, 0)]) (st' := []) rfl ?_
      exact l3 c1 c3
    · refine wp_run 1 (pc' := 41) (ls' := [(2, 38), (2, x1), (0, x2), (0, x3), (0, x4), (3, 0), (3, 0)]) (st' := [(2, 38)]) rfl ?_
      refine wp_gf (pc' := 44) (t := 2) (v := 39) rfl rfl (by decide) rfl rfl (fx_38_1 hF) ?_
      refine wp_gf (pc' := 47) (t := 2) (v := 43) rfl rfl (by decide) rfl rfl (fx_39_3 hF) ?_
      refine wp_run 2 (pc' := 51) (ls' := [(2, 38), (2, x1), (0, x2), (0, x3), (0, x4), (3, 0), (3, 0)]) (st' := [(0, 9), (0, x4), (2, 43)]) rfl ?_
      refine wp_iast (pc' := 52) rfl rfl rfl (b3 c1 c3) ?_
      refine wp_run 2 (pc' := 24) (ls' := [(2, 38), (2, x1), (0, x2), (0, x3), (0, (z_w (x4 + 1))), (3, 0), (3, 0)]) (st' := []) rfl ?_
      exact l4 c1 c3
set_option maxRecDepth 20000 in
theorem gX0_mixEnough_91 {xs : List Int} {d : Nat} {M : z_M} {P : Option z_V → z_L → z_M → Prop} {x1 : Int} {x2 : Int} {x3 : Int} {x4 : Int} {x5 : Int} {w6 : z_V} (hF : z_fix M) (hx1 : z_her M x1) (hg2 : z_gor M (M 34 3))
    (l1 : (x5 < 0) → P (some (0, 0)) z_LL M)
    (b1 : (¬ (x5 < 0)) → ((M 38 5) ≤ (M 38 4)) → 0 ≤ (z_w ((z_w ((M 38 5) * 6)) + (M 38 4))) ∧ (z_w ((z_w ((M 38 5) * 6)) + (M 38 4))) < 36)
    (l2 : (¬ (x5 < 0)) → ((M 38 5) ≤ (M 38 4)) → ((z_w (x4 - (M 44 (z_w ((z_w ((M 38 5) * 6)) + (M 38 4)))))) ≤ 0) → (0 < (z_w (x4 - (M 44 (z_w ((z_w ((M 38 5) * 6)) + (M 38 4))))))) → P (some (0, 0)) z_LL M)
    (l3 : (¬ (x5 < 0)) → ((M 38 5) ≤ (M 38 4)) → ((z_w (x4 - (M 44 (z_w ((z_w ((M 38 5) * 6)) + (M 38 4)))))) ≤ 0) → (¬ (0 < (z_w (x4 - (M 44 (z_w ((z_w ((M 38 5) * 6)) + (M 38 4)))))))) → P (some (0, 1)) z_LL M)
    (l4 : (¬ (x5 < 0)) → ((M 38 5) ≤ (M 38 4)) → (¬ ((z_w (x4 - (M 44 (z_w ((z_w ((M 38 5) * 6)) + (M 38 4)))))) ≤ 0)) → ((z_w (x4 - (M 44 (z_w ((z_w ((M 38 5) * 6)) + (M 38 4)))))) ≤ x5) → wp xs (d + 1) mX8_pass 0 [(2, 34), (2, 39), (0, (M (M 34 3) 18)), (3, 0)] [] z_LL M (fun r L1 M1 => wp xs (d + 2) mX0_mixEnough 160 [(2, 38), (2, x1), (0, x2), (0, x3), (0, x4), (0, x5), (0, (z_w (x4 - (M 44 (z_w ((z_w ((M 38 5) * 6)) + (M 38 4)))))))] (z_ol r ++ []) L1 M1 P))
    (l5 : (¬ (x5 < 0)) → ((M 38 5) ≤ (M 38 4)) → (¬ ((z_w (x4 - (M 44 (z_w ((z_w ((M 38 5) * 6)) + (M 38 4)))))) ≤ 0)) → (¬ ((z_w (x4 - (M 44 (z_w ((z_w ((M 38 5) * 6)) + (M 38 4)))))) ≤ x5)) → (0 < (z_w (x4 - (M 44 (z_w ((z_w ((M 38 5) * 6)) + (M 38 4))))))) → P (some (0, 0)) z_LL M)
    (l6 : (¬ (x5 < 0)) → ((M 38 5) ≤ (M 38 4)) → (¬ ((z_w (x4 - (M 44 (z_w ((z_w ((M 38 5) * 6)) + (M 38 4)))))) ≤ 0)) → (¬ ((z_w (x4 - (M 44 (z_w ((z_w ((M 38 5) * 6)) + (M 38 4)))))) ≤ x5)) → (¬ (0 < (z_w (x4 - (M 44 (z_w ((z_w ((M 38 5) * 6)) + (M 38 4)))))))) → P (some (0, 1)) z_LL M)
    (b2 : (¬ (x5 < 0)) → (¬ ((M 38 5) ≤ (M 38 4))) → 0 ≤ (z_w ((z_w ((M 38 4) * 6)) + (M 38 5))) ∧ (z_w ((z_w ((M 38 4) * 6)) + (M 38 5))) < 36)
    (l7 : (¬ (x5 < 0)) → (¬ ((M 38 5) ≤ (M 38 4))) → ((z_w (x4 - (M 44 (z_w ((z_w ((M 38 4) * 6)) + (M 38 5)))))) ≤ 0) → (0 < (z_w (x4 - (M 44 (z_w ((z_w ((M 38 4) * 6)) + (M 38 5))))))) → P (some (0, 0)) z_LL M)
    (l8 : (¬ (x5 < 0)) → (¬ ((M 38 5) ≤ (M 38 4))) → ((z_w (x4 - (M 44 (z_w ((z_w ((M 38 4) * 6)) + (M 38 5)))))) ≤ 0) → (¬ (0 < (z_w (x4 - (M 44 (z_w ((z_w ((M 38 4) * 6)) + (M 38 5)))))))) → P (some (0, 1)) z_LL M)
    (l9 : (¬ (x5 < 0)) → (¬ ((M 38 5) ≤ (M 38 4))) → (¬ ((z_w (x4 - (M 44 (z_w ((z_w ((M 38 4) * 6)) + (M 38 5)))))) ≤ 0)) → ((z_w (x4 - (M 44 (z_w ((z_w ((M 38 4) * 6)) + (M 38 5)))))) ≤ x5) → wp xs (d + 1) mX8_pass 0 [(2, 34), (2, 39), (0, (M (M 34 3) 18)), (3, 0)] [] z_LL M (fun r L1 M1 => wp xs (d + 2) mX0_mixEnough 160 [(2, 38), (2, x1), (0, x2), (0, x3), (0, x4), (0, x5), (0, (z_w (x4 - (M 44 (z_w ((z_w ((M 38 4) * 6)) + (M 38 5)))))))] (z_ol r ++ []) L1 M1 P))
    (l10 : (¬ (x5 < 0)) → (¬ ((M 38 5) ≤ (M 38 4))) → (¬ ((z_w (x4 - (M 44 (z_w ((z_w ((M 38 4) * 6)) + (M 38 5)))))) ≤ 0)) → (¬ ((z_w (x4 - (M 44 (z_w ((z_w ((M 38 4) * 6)) + (M 38 5)))))) ≤ x5)) → (0 < (z_w (x4 - (M 44 (z_w ((z_w ((M 38 4) * 6)) + (M 38 5))))))) → P (some (0, 0)) z_LL M)
    (l11 : (¬ (x5 < 0)) → (¬ ((M 38 5) ≤ (M 38 4))) → (¬ ((z_w (x4 - (M 44 (z_w ((z_w ((M 38 4) * 6)) + (M 38 5)))))) ≤ 0)) → (¬ ((z_w (x4 - (M 44 (z_w ((z_w ((M 38 4) * 6)) + (M 38 5)))))) ≤ x5)) → (¬ (0 < (z_w (x4 - (M 44 (z_w ((z_w ((M 38 4) * 6)) + (M 38 5)))))))) → P (some (0, 1)) z_LL M) :
    wp xs (d + 2) mX0_mixEnough 91 [(2, 38), (2, x1), (0, x2), (0, x3), (0, x4), (0, x5), w6] [] z_LL M P := by
  refine wp_run 1 (pc' := 93) (ls' := [(2, 38), (2, x1), (0, x2), (0, x3), (0, x4), (0, x5), w6]) (st' := [(0, x5)]) rfl ?_
  refine wp_if1 rfl rfl rfl (fun (c1 : x5 < 0) => ?_) (fun (c1 : ¬ (x5 < 0)) => ?_)
  · refine wp_run 1 (pc' := 168) (ls' := [(2, 38), (2, x1), (0, x2), (0, x3), (0, x4), (0, x5), w6]) (st' := [(0, 0)]) rfl ?_
    exact wp_ret rfl rfl (l1 c1)
  · refine wp_run 2 (pc' := 99) (ls' := [(2, 38), (2, x1), (0, x2), (0, x3), (0, x4), (0, x5), w6]) (st' := [(2, 38), (0, x4)]) rfl ?_
    refine wp_gf (pc' := 102) (t := 2) (v := 39) rfl rfl (by decide) rfl rfl (fx_38_1 hF) ?_
    refine wp_run 1 (pc' := 103) (ls' := [(2, 38), (2, x1), (0, x2), (0, x3), (0, x4), (0, x5), w6]) (st' := [(2, 38), (2, 39), (0, x4)]) rfl ?_
    refine wp_gf (pc' := 106) (t := 0) (v := (M 38 4)) rfl rfl (by decide) rfl rfl rfl ?_
    refine wp_run 1 (pc' := 107) (ls' := [(2, 38), (2, x1), (0, x2), (0, x3), (0, x4), (0, x5), w6]) (st' := [(2, 38), (0, (M 38 4)), (2, 39), (0, x4)]) rfl ?_
    refine wp_gf (pc' := 110) (t := 0) (v := (M 38 5)) rfl rfl (by decide) rfl rfl rfl ?_
    refine wp_callv (pc' := 113) (as := [(2, 39), (0, (M 38 4)), (0, (M 38 5))]) (rest := [(0, x4)]) (ls1 := [(2, 39), (0, (M 38 4)), (0, (M 38 5))]) rfl rfl rfl rfl rfl rfl ?_
    refine wp_run 1 (pc' := 1) (ls' := [(2, 39), (0, (M 38 4)), (0, (M 38 5))]) (st' := [(2, 39)]) rfl ?_
    refine wp_gf (pc' := 4) (t := 2) (v := 44) rfl rfl (by decide) rfl rfl (fx_39_4 hF) ?_
    refine wp_run 2 (pc' := 6) (ls' := [(2, 39), (0, (M 38 4)), (0, (M 38 5))]) (st' := [(0, (M 38 5)), (0, (M 38 4)), (2, 44)]) rfl ?_
    refine wp_callv (pc' := 9) (as := [(0, (M 38 4)), (0, (M 38 5))]) (rest := [(2, 44)]) (ls1 := [(0, (M 38 4)), (0, (M 38 5))]) rfl rfl rfl rfl rfl rfl ?_
    refine wp_run 2 (pc' := 2) (ls' := [(0, (M 38 4)), (0, (M 38 5))]) (st' := [(0, (M 38 5)), (0, (M 38 4))]) rfl ?_
    refine wp_if2 rfl rfl rfl (fun (c2 : (M 38 5) ≤ (M 38 4)) => ?_) (fun (c2 : ¬ ((M 38 5) ≤ (M 38 4))) => ?_)
    · refine wp_run 5 (pc' := 20) (ls' := [(0, (M 38 4)), (0, (M 38 5))]) (st' := [(0, (z_w ((z_w ((M 38 5) * 6)) + (M 38 4))))]) rfl ?_
      refine wp_ret rfl rfl ?_
      show wp xs _ mX2_mixedOf 9 [(2, 39), (0, (M 38 4)), (0, (M 38 5))] [(0, (z_w ((z_w ((M 38 5) * 6)) + (M 38 4)))), (2, 44)] z_LL M _
      refine wp_iald (pc' := 10) (v := (M 44 (z_w ((z_w ((M 38 5) * 6)) + (M 38 4))))) rfl rfl rfl (b1 c1 c2) rfl ?_
      refine wp_ret rfl rfl ?_
      show wp xs _ mX0_mixEnough 113 [(2, 38), (2, x1), (0, x2), (0, x3), (0, x4), (0, x5), w6] [(0, (M 44 (z_w ((z_w ((M 38 5) * 6)) + (M 38 4))))), (0, x4)] z_LL M _
      refine wp_run 3 (pc' := 118) (ls' := [(2, 38), (2, x1), (0, x2), (0, x3), (0, x4), (0, x5), (0, (z_w (x4 - (M 44 (z_w ((z_w ((M 38 5) * 6)) + (M 38 4)))))))]) (st' := [(0, (z_w (x4 - (M 44 (z_w ((z_w ((M 38 5) * 6)) + (M 38 4)))))))]) rfl ?_
      refine wp_if1 rfl rfl rfl (fun (c3 : (z_w (x4 - (M 44 (z_w ((z_w ((M 38 5) * 6)) + (M 38 4)))))) ≤ 0) => ?_) (fun (c3 : ¬ ((z_w (x4 - (M 44 (z_w ((z_w ((M 38 5) * 6)) + (M 38 4)))))) ≤ 0)) => ?_)
      · refine wp_run 1 (pc' := 130) (ls' := [(2, 38), (2, x1), (0, x2), (0, x3), (0, x4), (0, x5), (0, (z_w (x4 - (M 44 (z_w ((z_w ((M 38 5) * 6)) + (M 38 4)))))))]) (st' := [(0, (z_w (x4 - (M 44 (z_w ((z_w ((M 38 5) * 6)) + (M 38 4)))))))]) rfl ?_
        refine wp_if1 rfl rfl rfl (fun (c4 : 0 < (z_w (x4 - (M 44 (z_w ((z_w ((M 38 5) * 6)) + (M 38 4))))))) => ?_) (fun (c4 : ¬ (0 < (z_w (x4 - (M 44 (z_w ((z_w ((M 38 5) * 6)) + (M 38 4)))))))) => ?_)
        · refine wp_run 1 (pc' := 138) (ls' := [(2, 38), (2, x1), (0, x2), (0, x3), (0, x4), (0, x5), (0, (z_w (x4 - (M 44 (z_w ((z_w ((M 38 5) * 6)) + (M 38 4)))))))]) (st' := [(0, 0)]) rfl ?_
          exact wp_ret rfl rfl (l2 c1 c2 c3 c4)
        · refine wp_run 2 (pc' := 138) (ls' := [(2, 38), (2, x1), (0, x2), (0, x3), (0, x4), (0, x5), (0, (z_w (x4 - (M 44 (z_w ((z_w ((M 38 5) * 6)) + (M 38 4)))))))]) (st' := [(0, 1)]) rfl ?_
          exact wp_ret rfl rfl (l3 c1 c2 c3 c4)
      · refine wp_run 2 (pc' := 125) (ls' := [(2, 38), (2, x1), (0, x2), (0, x3), (0, x4), (0, x5), (0, (z_w (x4 - (M 44 (z_w ((z_w ((M 38 5) * 6)) + (M 38 4)))))))]) (st' := [(0, x5), (0, (z_w (x4 - (M 44 (z_w ((z_w ((M 38 5) * 6)) + (M 38 4)))))))]) rfl ?_
        refine wp_if2 rfl rfl rfl (fun (c5 : (z_w (x4 - (M 44 (z_w ((z_w ((M 38 5) * 6)) + (M 38 4)))))) ≤ x5) => ?_) (fun (c5 : ¬ ((z_w (x4 - (M 44 (z_w ((z_w ((M 38 5) * 6)) + (M 38 4)))))) ≤ x5)) => ?_)
        · refine wp_run 1 (pc' := 140) (ls' := [(2, 38), (2, x1), (0, x2), (0, x3), (0, x4), (0, x5), (0, (z_w (x4 - (M 44 (z_w ((z_w ((M 38 5) * 6)) + (M 38 4)))))))]) (st' := [(2, 38)]) rfl ?_
          refine wp_gf (pc' := 143) (t := 2) (v := 34) rfl rfl (by decide) rfl rfl (fx_38_0 hF) ?_
          refine wp_run 1 (pc' := 144) (ls' := [(2, 38), (2, x1), (0, x2), (0, x3), (0, x4), (0, x5), (0, (z_w (x4 - (M 44 (z_w ((z_w ((M 38 5) * 6)) + (M 38 4)))))))]) (st' := [(2, 38), (2, 34)]) rfl ?_
          refine wp_gf (pc' := 147) (t := 2) (v := 39) rfl rfl (by decide) rfl rfl (fx_38_1 hF) ?_
          refine wp_run 1 (pc' := 148) (ls' := [(2, 38), (2, x1), (0, x2), (0, x3), (0, x4), (0, x5), (0, (z_w (x4 - (M 44 (z_w ((z_w ((M 38 5) * 6)) + (M 38 4)))))))]) (st' := [(2, 38), (2, 39), (2, 34)]) rfl ?_
          refine wp_gf (pc' := 151) (t := 2) (v := 34) rfl rfl (by decide) rfl rfl (fx_38_0 hF) ?_
          refine wp_gf (pc' := 154) (t := 2) (v := (M 34 3)) rfl rfl (by decide) rfl rfl rfl ?_
          refine wp_gf (pc' := 157) (t := 0) (v := (M (M 34 3) 18)) rfl rfl (by decide) rfl (z_gl0 hg2) rfl ?_
          refine wp_callv (pc' := 160) (as := [(2, 34), (2, 39), (0, (M (M 34 3) 18))]) (rest := []) (ls1 := [(2, 34), (2, 39), (0, (M (M 34 3) 18)), (3, 0)]) rfl rfl rfl rfl rfl rfl ?_
          exact l4 c1 c2 c3 c5
        · refine wp_run 1 (pc' := 130) (ls' := [(2, 38), (2, x1), (0, x2), (0, x3), (0, x4), (0, x5), (0, (z_w (x4 - (M 44 (z_w ((z_w ((M 38 5) * 6)) + (M 38 4)))))))]) (st' := [(0, (z_w (x4 - (M 44 (z_w ((z_w ((M 38 5) * 6)) + (M 38 4)))))))]) rfl ?_
          refine wp_if1 rfl rfl rfl (fun (c6 : 0 < (z_w (x4 - (M 44 (z_w ((z_w ((M 38 5) * 6)) + (M 38 4))))))) => ?_) (fun (c6 : ¬ (0 < (z_w (x4 - (M 44 (z_w ((z_w ((M 38 5) * 6)) + (M 38 4)))))))) => ?_)
          · refine wp_run 1 (pc' := 138) (ls' := [(2, 38), (2, x1), (0, x2), (0, x3), (0, x4), (0, x5), (0, (z_w (x4 - (M 44 (z_w ((z_w ((M 38 5) * 6)) + (M 38 4)))))))]) (st' := [(0, 0)]) rfl ?_
            exact wp_ret rfl rfl (l5 c1 c2 c3 c5 c6)
          · refine wp_run 2 (pc' := 138) (ls' := [(2, 38), (2, x1), (0, x2), (0, x3), (0, x4), (0, x5), (0, (z_w (x4 - (M 44 (z_w ((z_w ((M 38 5) * 6)) + (M 38 4)))))))]) (st' := [(0, 1)]) rfl ?_
            exact wp_ret rfl rfl (l6 c1 c2 c3 c5 c6)
    · refine wp_run 6 (pc' := 20) (ls' := [(0, (M 38 4)), (0, (M 38 5))]) (st' := [(0, (z_w ((z_w ((M 38 4) * 6)) + (M 38 5))))]) rfl ?_
      refine wp_ret rfl rfl ?_
      show wp xs _ mX2_mixedOf 9 [(2, 39), (0, (M 38 4)), (0, (M 38 5))] [(0, (z_w ((z_w ((M 38 4) * 6)) + (M 38 5)))), (2, 44)] z_LL M _
      refine wp_iald (pc' := 10) (v := (M 44 (z_w ((z_w ((M 38 4) * 6)) + (M 38 5))))) rfl rfl rfl (b2 c1 c2) rfl ?_
      refine wp_ret rfl rfl ?_
      show wp xs _ mX0_mixEnough 113 [(2, 38), (2, x1), (0, x2), (0, x3), (0, x4), (0, x5), w6] [(0, (M 44 (z_w ((z_w ((M 38 4) * 6)) + (M 38 5))))), (0, x4)] z_LL M _
      refine wp_run 3 (pc' := 118) (ls' := [(2, 38), (2, x1), (0, x2), (0, x3), (0, x4), (0, x5), (0, (z_w (x4 - (M 44 (z_w ((z_w ((M 38 4) * 6)) + (M 38 5)))))))]) (st' := [(0, (z_w (x4 - (M 44 (z_w ((z_w ((M 38 4) * 6)) + (M 38 5)))))))]) rfl ?_
      refine wp_if1 rfl rfl rfl (fun (c7 : (z_w (x4 - (M 44 (z_w ((z_w ((M 38 4) * 6)) + (M 38 5)))))) ≤ 0) => ?_) (fun (c7 : ¬ ((z_w (x4 - (M 44 (z_w ((z_w ((M 38 4) * 6)) + (M 38 5)))))) ≤ 0)) => ?_)
      · refine wp_run 1 (pc' := 130) (ls' := [(2, 38), (2, x1), (0, x2), (0, x3), (0, x4), (0, x5), (0, (z_w (x4 - (M 44 (z_w ((z_w ((M 38 4) * 6)) + (M 38 5)))))))]) (st' := [(0, (z_w (x4 - (M 44 (z_w ((z_w ((M 38 4) * 6)) + (M 38 5)))))))]) rfl ?_
        refine wp_if1 rfl rfl rfl (fun (c8 : 0 < (z_w (x4 - (M 44 (z_w ((z_w ((M 38 4) * 6)) + (M 38 5))))))) => ?_) (fun (c8 : ¬ (0 < (z_w (x4 - (M 44 (z_w ((z_w ((M 38 4) * 6)) + (M 38 5)))))))) => ?_)
        · refine wp_run 1 (pc' := 138) (ls' := [(2, 38), (2, x1), (0, x2), (0, x3), (0, x4), (0, x5), (0, (z_w (x4 - (M 44 (z_w ((z_w ((M 38 4) * 6)) + (M 38 5)))))))]) (st' := [(0, 0)]) rfl ?_
          exact wp_ret rfl rfl (l7 c1 c2 c7 c8)
        · refine wp_run 2 (pc' := 138) (ls' := [(2, 38), (2, x1), (0, x2), (0, x3), (0, x4), (0, x5), (0, (z_w (x4 - (M 44 (z_w ((z_w ((M 38 4) * 6)) + (M 38 5)))))))]) (st' := [(0, 1)]) rfl ?_
          exact wp_ret rfl rfl (l8 c1 c2 c7 c8)
      · refine wp_run 2 (pc' := 125) (ls' := [(2, 38), (2, x1), (0, x2), (0, x3), (0, x4), (0, x5), (0, (z_w (x4 - (M 44 (z_w ((z_w ((M 38 4) * 6)) + (M 38 5)))))))]) (st' := [(0, x5), (0, (z_w (x4 - (M 44 (z_w ((z_w ((M 38 4) * 6)) + (M 38 5)))))))]) rfl ?_
        refine wp_if2 rfl rfl rfl (fun (c9 : (z_w (x4 - (M 44 (z_w ((z_w ((M 38 4) * 6)) + (M 38 5)))))) ≤ x5) => ?_) (fun (c9 : ¬ ((z_w (x4 - (M 44 (z_w ((z_w ((M 38 4) * 6)) + (M 38 5)))))) ≤ x5)) => ?_)
        · refine wp_run 1 (pc' := 140) (ls' := [(2, 38), (2, x1), (0, x2), (0, x3), (0, x4), (0, x5), (0, (z_w (x4 - (M 44 (z_w ((z_w ((M 38 4) * 6)) + (M 38 5)))))))]) (st' := [(2, 38)]) rfl ?_
          refine wp_gf (pc' := 143) (t := 2) (v := 34) rfl rfl (by decide) rfl rfl (fx_38_0 hF) ?_
          refine wp_run 1 (pc' := 144) (ls' := [(2, 38), (2, x1), (0, x2), (0, x3), (0, x4), (0, x5), (0, (z_w (x4 - (M 44 (z_w ((z_w ((M 38 4) * 6)) + (M 38 5)))))))]) (st' := [(2, 38), (2, 34)]) rfl ?_
          refine wp_gf (pc' := 147) (t := 2) (v := 39) rfl rfl (by decide) rfl rfl (fx_38_1 hF) ?_
          refine wp_run 1 (pc' := 148) (ls' := [(2, 38), (2, x1), (0, x2), (0, x3), (0, x4), (0, x5), (0, (z_w (x4 - (M 44 (z_w ((z_w ((M 38 4) * 6)) + (M 38 5)))))))]) (st' := [(2, 38), (2, 39), (2, 34)]) rfl ?_
          refine wp_gf (pc' := 151) (t := 2) (v := 34) rfl rfl (by decide) rfl rfl (fx_38_0 hF) ?_
          refine wp_gf (pc' := 154) (t := 2) (v := (M 34 3)) rfl rfl (by decide) rfl rfl rfl ?_
          refine wp_gf (pc' := 157) (t := 0) (v := (M (M 34 3) 18)) rfl rfl (by decide) rfl (z_gl0 hg2) rfl ?_
          refine wp_callv (pc' := 160) (as := [(2, 34), (2, 39), (0, (M (M 34 3) 18))]) (rest := []) (ls1 := [(2, 34), (2, 39), (0, (M (M 34 3) 18)), (3, 0)]) rfl rfl rfl rfl rfl rfl ?_
          exact l9 c1 c2 c7 c9
        · refine wp_run 1 (pc' := 130) (ls' := [(2, 38), (2, x1), (0, x2), (0, x3), (0, x4), (0, x5), (0, (z_w (x4 - (M 44 (z_w ((z_w ((M 38 4) * 6)) + (M 38 5)))))))]) (st' := [(0, (z_w (x4 - (M 44 (z_w ((z_w ((M 38 4) * 6)) + (M 38 5)))))))]) rfl ?_
          refine wp_if1 rfl rfl rfl (fun (c10 : 0 < (z_w (x4 - (M 44 (z_w ((z_w ((M 38 4) * 6)) + (M 38 5))))))) => ?_) (fun (c10 : ¬ (0 < (z_w (x4 - (M 44 (z_w ((z_w ((M 38 4) * 6)) + (M 38 5)))))))) => ?_)
          · refine wp_run 1 (pc' := 138) (ls' := [(2, 38), (2, x1), (0, x2), (0, x3), (0, x4), (0, x5), (0, (z_w (x4 - (M 44 (z_w ((z_w ((M 38 4) * 6)) + (M 38 5)))))))]) (st' := [(0, 0)]) rfl ?_
            exact wp_ret rfl rfl (l10 c1 c2 c7 c9 c10)
          · refine wp_run 2 (pc' := 138) (ls' := [(2, 38), (2, x1), (0, x2), (0, x3), (0, x4), (0, x5), (0, (z_w (x4 - (M 44 (z_w ((z_w ((M 38 4) * 6)) + (M 38 5)))))))]) (st' := [(0, 1)]) rfl ?_
            exact wp_ret rfl rfl (l11 c1 c2 c7 c9 c10)
set_option maxRecDepth 20000 in
theorem gX0_mixEnough_160 {xs : List Int} {d : Nat} {M : z_M} {P : Option z_V → z_L → z_M → Prop} {x1 : Int} {x2 : Int} {x3 : Int} {x4 : Int} {x5 : Int} {x6 : Int} {s0 : Int} (hx1 : z_her M x1)
    (l1 : wp xs d mX0_mixEnough 91 [(2, 38), (2, x1), (0, x2), (0, x3), (0, x4), (0, (z_w (x5 + (-1)))), (0, x6)] [] z_LL M P) :
    wp xs d mX0_mixEnough 160 [(2, 38), (2, x1), (0, x2), (0, x3), (0, x4), (0, x5), (0, x6)] [(0, s0)] z_LL M P := by
  refine wp_run 3 (pc' := 91) (ls' := [(2, 38), (2, x1), (0, x2), (0, x3), (0, x4), (0, (z_w (x5 + (-1)))), (0, x6)]) (st' := []) rfl ?_
  exact l1
set_option maxRecDepth 20000 in
theorem gX0_mixesFrom_0 {xs : List Int} {d : Nat} {M : z_M} {P : Option z_V → z_L → z_M → Prop} {a1 : Int} {a2 : Int} (hF : z_fix M) (ha1 : z_her M a1) (hn1 : a1 ≠ 39)
    (b1 : 0 ≤ (M 38 4) ∧ (M 38 4) < 6)
    (l1 : wp xs (d + 1) mX0_mixesFrom 23 [(2, 38), (2, a1), (0, a2), (0, 0)] [] z_LL (z_up (z_up (z_up (z_up (z_cpy (z_cpy (z_cpy (z_cpy (z_cpy M (a1 + 1) 0 40 0 6) (a1 + 2) 0 41 0 6) (a1 + 3) 0 42 0 25) (a1 + 4) 0 43 0 25) (a1 + 5) 0 44 0 36) 39 5 (M a1 5)) 39 6 (M a1 6)) 39 7 (M a1 7)) 40 (M 38 4) a2) P) :
    wp xs (d + 1) mX0_mixesFrom 0 [(2, 38), (2, a1), (0, a2), (3, 0)] [] z_LL M P := by
  refine wp_run 1 (pc' := 1) (ls' := [(2, 38), (2, a1), (0, a2), (3, 0)]) (st' := [(2, 38)]) rfl ?_
  refine wp_gf (pc' := 4) (t := 2) (v := 39) rfl rfl (by decide) rfl rfl (fx_38_1 hF) ?_
  refine wp_run 1 (pc' := 5) (ls' := [(2, 38), (2, a1), (0, a2), (3, 0)]) (st' := [(2, a1), (2, 39)]) rfl ?_
  refine wp_callv (pc' := 8) (as := [(2, 39), (2, a1)]) (rest := []) (ls1 := [(2, 39), (2, a1)]) rfl rfl rfl rfl rfl rfl ?_
  refine wp_run 1 (pc' := 1) (ls' := [(2, 39), (2, a1)]) (st' := [(2, a1)]) rfl ?_
  refine wp_gf (pc' := 4) (t := 2) (v := (a1 + 1)) rfl rfl (by decide) rfl (z_hl0 ha1) (z_hf0 ha1) ?_
  refine wp_run 2 (pc' := 6) (ls' := [(2, 39), (2, a1)]) (st' := [(2, 39), (0, 0), (2, (a1 + 1))]) rfl ?_
  refine wp_gf (pc' := 9) (t := 2) (v := 40) rfl rfl (by decide) rfl rfl (fx_39_0 hF) ?_
  refine wp_run 2 (pc' := 12) (ls' := [(2, 39), (2, a1)]) (st' := [(0, 6), (0, 0), (2, 40), (0, 0), (2, (a1 + 1))]) rfl ?_
  refine wp_acp (pc' := 15) rfl rfl (z_hl1 ha1) rfl (by decide) ?_
  refine wp_run 1 (pc' := 16) (ls' := [(2, 39), (2, a1)]) (st' := [(2, a1)]) rfl ?_
  refine wp_gf (pc' := 19) (t := 2) (v := (a1 + 2)) rfl rfl (by decide) rfl (z_hl0 ha1) (z_cpq (by have := z_hr ha1; omega) (z_hf1 ha1)) ?_
  refine wp_run 2 (pc' := 21) (ls' := [(2, 39), (2, a1)]) (st' := [(2, 39), (0, 0), (2, (a1 + 2))]) rfl ?_
  refine wp_gf (pc' := 24) (t := 2) (v := 41) rfl rfl (by decide) rfl rfl (z_cpq (by decide) (fx_39_1 hF)) ?_
  refine wp_run 2 (pc' := 27) (ls' := [(2, 39), (2, a1)]) (st' := [(0, 6), (0, 0), (2, 41), (0, 0), (2, (a1 + 2))]) rfl ?_
  refine wp_acp (pc' := 30) rfl rfl (z_hl2 ha1) rfl (by decide) ?_
  refine wp_run 1 (pc' := 31) (ls' := [(2, 39), (2, a1)]) (st' := [(2, a1)]) rfl ?_
  refine wp_gf (pc' := 34) (t := 2) (v := (a1 + 3)) rfl rfl (by decide) rfl (z_hl0 ha1) (z_cpq (by have := z_hr ha1; omega) (z_cpq (by have := z_hr ha1; omega) (z_hf2 ha1))) ?_
  refine wp_run 2 (pc' := 36) (ls' := [(2, 39), (2, a1)]) (st' := [(2, 39), (0, 0), (2, (a1 + 3))]) rfl ?_
  refine wp_gf (pc' := 39) (t := 2) (v := 42) rfl rfl (by decide) rfl rfl (z_cpq (by decide) (z_cpq (by decide) (fx_39_2 hF))) ?_
  refine wp_run 2 (pc' := 42) (ls' := [(2, 39), (2, a1)]) (st' := [(0, 25), (0, 0), (2, 42), (0, 0), (2, (a1 + 3))]) rfl ?_
  refine wp_acp (pc' := 45) rfl rfl (z_hl3 ha1) rfl (by decide) ?_
  refine wp_run 1 (pc' := 46) (ls' := [(2, 39), (2, a1)]) (st' := [(2, a1)]) rfl ?_
  refine wp_gf (pc' := 49) (t := 2) (v := (a1 + 4)) rfl rfl (by decide) rfl (z_hl0 ha1) (z_cpq (by have := z_hr ha1; omega) (z_cpq (by have := z_hr ha1; omega) (z_cpq (by have := z_hr ha1; omega) (z_hf3 ha1)))) ?_
  refine wp_run 2 (pc' := 51) (ls' := [(2, 39), (2, a1)]) (st' := [(2, 39), (0, 0), (2, (a1 + 4))]) rfl ?_
  refine wp_gf (pc' := 54) (t := 2) (v := 43) rfl rfl (by decide) rfl rfl (z_cpq (by decide) (z_cpq (by decide) (z_cpq (by decide) (fx_39_3 hF)))) ?_
  refine wp_run 2 (pc' := 57) (ls' := [(2, 39), (2, a1)]) (st' := [(0, 25), (0, 0), (2, 43), (0, 0), (2, (a1 + 4))]) rfl ?_
  refine wp_acp (pc' := 60) rfl rfl (z_hl4 ha1) rfl (by decide) ?_
  refine wp_run 1 (pc' := 61) (ls' := [(2, 39), (2, a1)]) (st' := [(2, a1)]) rfl ?_
  refine wp_gf (pc' := 64) (t := 2) (v := (a1 + 5)) rfl rfl (by decide) rfl (z_hl0 ha1) (z_cpq (by have := z_hr ha1; omega) (z_cpq (by have := z_hr ha1; omega) (z_cpq (by have := z_hr ha1; omega) (z_cpq (by have := z_hr ha1; omega) (z_hf4 ha1))))) ?_
  refine wp_run 2 (pc' := 66) (ls' := [(2, 39), (2, a1)]) (st' := [(2, 39), (0, 0), (2, (a1 + 5))]) rfl ?_
  refine wp_gf (pc' := 69) (t := 2) (v := 44) rfl rfl (by decide) rfl rfl (z_cpq (by decide) (z_cpq (by decide) (z_cpq (by decide) (z_cpq (by decide) (fx_39_4 hF))))) ?_
  refine wp_run 2 (pc' := 71) (ls' := [(2, 39), (2, a1)]) (st' := [(2, 39), (0, 0), (2, 44), (0, 0), (2, (a1 + 5))]) rfl ?_
  refine wp_gf (pc' := 74) (t := 2) (v := 44) rfl rfl (by decide) rfl rfl (z_cpq (by decide) (z_cpq (by decide) (z_cpq (by decide) (z_cpq (by decide) (fx_39_4 hF))))) ?_
  refine wp_len (pc' := 75) rfl rfl rfl (by decide) ?_
  refine wp_acp (pc' := 78) rfl rfl (z_hl5 ha1) rfl (by decide) ?_
  refine wp_run 2 (pc' := 80) (ls' := [(2, 39), (2, a1)]) (st' := [(2, a1), (2, 39)]) rfl ?_
  refine wp_gf (pc' := 83) (t := 0) (v := (M a1 5)) rfl rfl (by decide) rfl (z_hl0 ha1) (z_cpq (by have := z_hr ha1; omega) (z_cpq (by have := z_hr ha1; omega) (z_cpq (by have := z_hr ha1; omega) (z_cpq (by have := z_hr ha1; omega) (z_cpq (by have := z_hr ha1; omega) rfl))))) ?_
  refine wp_pf (pc' := 86) rfl rfl rfl rfl (fun z => absurd z (by decide)) (fun z => absurd z (by decide)) ?_
  refine wp_run 2 (pc' := 88) (ls' := [(2, 39), (2, a1)]) (st' := [(2, a1), (2, 39)]) rfl ?_
  refine wp_gf (pc' := 91) (t := 0) (v := (M a1 6)) rfl rfl (by decide) rfl (z_hl0 ha1) (z_upq (by have := z_hr ha1; omega) (z_cpq (by have := z_hr ha1; omega) (z_cpq (by have := z_hr ha1; omega) (z_cpq (by have := z_hr ha1; omega) (z_cpq (by have := z_hr ha1; omega) (z_cpq (by have := z_hr ha1; omega) rfl)))))) ?_
  refine wp_pf (pc' := 94) rfl rfl rfl rfl (fun z => absurd z (by decide)) (fun z => absurd z (by decide)) ?_
  refine wp_run 2 (pc' := 96) (ls' := [(2, 39), (2, a1)]) (st' := [(2, a1), (2, 39)]) rfl ?_
  refine wp_gf (pc' := 99) (t := 0) (v := (M a1 7)) rfl rfl (by decide) rfl (z_hl0 ha1) (z_upq (by have := z_hr ha1; omega) (z_upq (by have := z_hr ha1; omega) (z_cpq (by have := z_hr ha1; omega) (z_cpq (by have := z_hr ha1; omega) (z_cpq (by have := z_hr ha1; omega) (z_cpq (by have := z_hr ha1; omega) (z_cpq (by have := z_hr ha1; omega) rfl))))))) ?_
  refine wp_pf (pc' := 102) rfl rfl rfl rfl (fun z => absurd z (by decide)) (fun z => absurd z (by decide)) ?_
  refine wp_ret rfl rfl ?_
  show wp xs _ mX0_mixesFrom 8 [(2, 38), (2, a1), (0, a2), (3, 0)] [] z_LL (z_up (z_up (z_up (z_cpy (z_cpy (z_cpy (z_cpy (z_cpy M (a1 + 1) 0 40 0 6) (a1 + 2) 0 41 0 6) (a1 + 3) 0 42 0 25) (a1 + 4) 0 43 0 25) (a1 + 5) 0 44 0 36) 39 5 (M a1 5)) 39 6 (M a1 6)) 39 7 (M a1 7)) _
  refine wp_run 1 (pc' := 9) (ls' := [(2, 38), (2, a1), (0, a2), (3, 0)]) (st' := [(2, 38)]) rfl ?_
  refine wp_gf (pc' := 12) (t := 2) (v := 39) rfl rfl (by decide) rfl rfl (z_upq (by decide) (z_upq (by decide) (z_upq (by decide) (z_cpq (by decide) (z_cpq (by decide) (z_cpq (by decide) (z_cpq (by decide) (z_cpq (by decide) (fx_38_1 hF))))))))) ?_
  refine wp_gf (pc' := 15) (t := 2) (v := 40) rfl rfl (by decide) rfl rfl (z_upi (by decide) (z_upi (by decide) (z_upi (by decide) (z_cpq (by decide) (z_cpq (by decide) (z_cpq (by decide) (z_cpq (by decide) (z_cpq (by decide) (fx_39_0 hF))))))))) ?_
  refine wp_run 1 (pc' := 16) (ls' := [(2, 38), (2, a1), (0, a2), (3, 0)]) (st' := [(2, 38), (2, 40)]) rfl ?_
  refine wp_gf (pc' := 19) (t := 0) (v := (M 38 4)) rfl rfl (by decide) rfl rfl (z_upq (by decide) (z_upq (by decide) (z_upq (by decide) (z_cpq (by decide) (z_cpq (by decide) (z_cpq (by decide) (z_cpq (by decide) (z_cpq (by decide) rfl)))))))) ?_
  refine wp_run 1 (pc' := 20) (ls' := [(2, 38), (2, a1), (0, a2), (3, 0)]) (st' := [(0, a2), (0, (M 38 4)), (2, 40)]) rfl ?_
  refine wp_iast (pc' := 21) rfl rfl rfl (b1) ?_
  refine wp_run 2 (pc' := 23) (ls' := [(2, 38), (2, a1), (0, a2), (0, 0)]) (st' := []) rfl ?_
  exact l1
set_option maxRecDepth 20000 in
theorem gX0_mixesFrom_23 {xs : List Int} {d : Nat} {M : z_M} {P : Option z_V → z_L → z_M → Prop} {x1 : Int} {x2 : Int} {x3 : Int} (hF : z_fix M) (hx1 : z_her M x1) (hg2 : z_gor M (M 34 3))
    (b1 : ((M 38 7) ≤ x3) → ((M 38 5) ≤ (M 38 4)) → 0 ≤ (z_w ((z_w ((M 38 5) * 6)) + (M 38 4))) ∧ (z_w ((z_w ((M 38 5) * 6)) + (M 38 4))) < 36)
    (b2 : ((M 38 7) ≤ x3) → ((M 38 5) ≤ (M 38 4)) → ((M 38 5) ≤ (M 38 4)) → 0 ≤ (z_w ((z_w ((M 38 5) * 6)) + (M 38 4))) ∧ (z_w ((z_w ((M 38 5) * 6)) + (M 38 4))) < 36)
    (l1 : ((M 38 7) ≤ x3) → ((M 38 5) ≤ (M 38 4)) → ((M 38 5) ≤ (M 38 4)) → P (some (0, (z_w ((M 44 (z_w ((z_w ((M 38 5) * 6)) + (M 38 4)))) - (M (x1 + 5) (z_w ((z_w ((M 38 5) * 6)) + (M 38 4)))))))) z_LL M)
    (b3 : ((M 38 7) ≤ x3) → ((M 38 5) ≤ (M 38 4)) → (¬ ((M 38 5) ≤ (M 38 4))) → 0 ≤ (z_w ((z_w ((M 38 4) * 6)) + (M 38 5))) ∧ (z_w ((z_w ((M 38 4) * 6)) + (M 38 5))) < 36)
    (l2 : ((M 38 7) ≤ x3) → ((M 38 5) ≤ (M 38 4)) → (¬ ((M 38 5) ≤ (M 38 4))) → P (some (0, (z_w ((M 44 (z_w ((z_w ((M 38 5) * 6)) + (M 38 4)))) - (M (x1 + 5) (z_w ((z_w ((M 38 4) * 6)) + (M 38 5)))))))) z_LL M)
    (b4 : ((M 38 7) ≤ x3) → (¬ ((M 38 5) ≤ (M 38 4))) → 0 ≤ (z_w ((z_w ((M 38 4) * 6)) + (M 38 5))) ∧ (z_w ((z_w ((M 38 4) * 6)) + (M 38 5))) < 36)
    (b5 : ((M 38 7) ≤ x3) → (¬ ((M 38 5) ≤ (M 38 4))) → ((M 38 5) ≤ (M 38 4)) → 0 ≤ (z_w ((z_w ((M 38 5) * 6)) + (M 38 4))) ∧ (z_w ((z_w ((M 38 5) * 6)) + (M 38 4))) < 36)
    (l3 : ((M 38 7) ≤ x3) → (¬ ((M 38 5) ≤ (M 38 4))) → ((M 38 5) ≤ (M 38 4)) → P (some (0, (z_w ((M 44 (z_w ((z_w ((M 38 4) * 6)) + (M 38 5)))) - (M (x1 + 5) (z_w ((z_w ((M 38 5) * 6)) + (M 38 4)))))))) z_LL M)
    (b6 : ((M 38 7) ≤ x3) → (¬ ((M 38 5) ≤ (M 38 4))) → (¬ ((M 38 5) ≤ (M 38 4))) → 0 ≤ (z_w ((z_w ((M 38 4) * 6)) + (M 38 5))) ∧ (z_w ((z_w ((M 38 4) * 6)) + (M 38 5))) < 36)
    (l4 : ((M 38 7) ≤ x3) → (¬ ((M 38 5) ≤ (M 38 4))) → (¬ ((M 38 5) ≤ (M 38 4))) → P (some (0, (z_w ((M 44 (z_w ((z_w ((M 38 4) * 6)) + (M 38 5)))) - (M (x1 + 5) (z_w ((z_w ((M 38 4) * 6)) + (M 38 5)))))))) z_LL M)
    (l5 : (¬ ((M 38 7) ≤ x3)) → wp xs (d + 1) mX8_pass 0 [(2, 34), (2, 39), (0, (M (M 34 3) 18)), (3, 0)] [] z_LL M (fun r L1 M1 => wp xs (d + 2) mX0_mixesFrom 52 [(2, 38), (2, x1), (0, x2), (0, x3)] (z_ol r ++ []) L1 M1 P)) :
    wp xs (d + 2) mX0_mixesFrom 23 [(2, 38), (2, x1), (0, x2), (0, x3)] [] z_LL M P := by
  refine wp_run 2 (pc' := 25) (ls' := [(2, 38), (2, x1), (0, x2), (0, x3)]) (st' := [(2, 38), (0, x3)]) rfl ?_
  refine wp_gf (pc' := 28) (t := 0) (v := (M 38 7)) rfl rfl (by decide) rfl rfl rfl ?_
  refine wp_if2 rfl rfl rfl (fun (c1 : (M 38 7) ≤ x3) => ?_) (fun (c1 : ¬ ((M 38 7) ≤ x3)) => ?_)
  · refine wp_run 1 (pc' := 60) (ls' := [(2, 38), (2, x1), (0, x2), (0, x3)]) (st' := [(2, 38)]) rfl ?_
    refine wp_gf (pc' := 63) (t := 2) (v := 39) rfl rfl (by decide) rfl rfl (fx_38_1 hF) ?_
    refine wp_run 1 (pc' := 64) (ls' := [(2, 38), (2, x1), (0, x2), (0, x3)]) (st' := [(2, 38), (2, 39)]) rfl ?_
    refine wp_gf (pc' := 67) (t := 0) (v := (M 38 4)) rfl rfl (by decide) rfl rfl rfl ?_
    refine wp_run 1 (pc' := 68) (ls' := [(2, 38), (2, x1), (0, x2), (0, x3)]) (st' := [(2, 38), (0, (M 38 4)), (2, 39)]) rfl ?_
    refine wp_gf (pc' := 71) (t := 0) (v := (M 38 5)) rfl rfl (by decide) rfl rfl rfl ?_
    refine wp_callv (pc' := 74) (as := [(2, 39), (0, (M 38 4)), (0, (M 38 5))]) (rest := []) (ls1 := [(2, 39), (0, (M 38 4)), (0, (M 38 5))]) rfl rfl rfl rfl rfl rfl ?_
    refine wp_run 1 (pc' := 1) (ls' := [(2, 39), (0, (M 38 4)), (0, (M 38 5))]) (st' := [(2, 39)]) rfl ?_
    refine wp_gf (pc' := 4) (t := 2) (v := 44) rfl rfl (by decide) rfl rfl (fx_39_4 hF) ?_
    refine wp_run 2 (pc' := 6) (ls' := [(2, 39), (0, (M 38 4)), (0, (M 38 5))]) (st' := [(0, (M 38 5)), (0, (M 38 4)), (2, 44)]) rfl ?_
    refine wp_callv (pc' := 9) (as := [(0, (M 38 4)), (0, (M 38 5))]) (rest := [(2, 44)]) (ls1 := [(0, (M 38 4)), (0, (M 38 5))]) rfl rfl rfl rfl rfl rfl ?_
    refine wp_run 2 (pc' := 2) (ls' := [(0, (M 38 4)), (0, (M 38 5))]) (st' := [(0, (M 38 5)), (0, (M 38 4))]) rfl ?_
    refine wp_if2 rfl rfl rfl (fun (c2 : (M 38 5) ≤ (M 38 4)) => ?_) (fun (c2 : ¬ ((M 38 5) ≤ (M 38 4))) => ?_)
    · refine wp_run 5 (pc' := 20) (ls' := [(0, (M 38 4)), (0, (M 38 5))]) (st' := [(0, (z_w ((z_w ((M 38 5) * 6)) + (M 38 4))))]) rfl ?_
      refine wp_ret rfl rfl ?_
      show wp xs _ mX2_mixedOf 9 [(2, 39), (0, (M 38 4)), (0, (M 38 5))] [(0, (z_w ((z_w ((M 38 5) * 6)) + (M 38 4)))), (2, 44)] z_LL M _
      refine wp_iald (pc' := 10) (v := (M 44 (z_w ((z_w ((M 38 5) * 6)) + (M 38 4))))) rfl rfl rfl (b1 c1 c2) rfl ?_
      refine wp_ret rfl rfl ?_
      show wp xs _ mX0_mixesFrom 74 [(2, 38), (2, x1), (0, x2), (0, x3)] [(0, (M 44 (z_w ((z_w ((M 38 5) * 6)) + (M 38 4)))))] z_LL M _
      refine wp_run 2 (pc' := 76) (ls' := [(2, 38), (2, x1), (0, x2), (0, x3)]) (st' := [(2, 38), (2, x1), (0, (M 44 (z_w ((z_w ((M 38 5) * 6)) + (M 38 4)))))]) rfl ?_
      refine wp_gf (pc' := 79) (t := 0) (v := (M 38 4)) rfl rfl (by decide) rfl rfl rfl ?_
      refine wp_run 1 (pc' := 80) (ls' := [(2, 38), (2, x1), (0, x2), (0, x3)]) (st' := [(2, 38), (0, (M 38 4)), (2, x1), (0, (M 44 (z_w ((z_w ((M 38 5) * 6)) + (M 38 4)))))]) rfl ?_
      refine wp_gf (pc' := 83) (t := 0) (v := (M 38 5)) rfl rfl (by decide) rfl rfl rfl ?_
      refine wp_callv (pc' := 86) (as := [(2, x1), (0, (M 38 4)), (0, (M 38 5))]) (rest := [(0, (M 44 (z_w ((z_w ((M 38 5) * 6)) + (M 38 4)))))]) (ls1 := [(2, x1), (0, (M 38 4)), (0, (M 38 5))]) rfl rfl rfl rfl (z_args_v rfl rfl rfl rfl (Nat.le_of_ble_eq_true rfl) rfl (by decide) (z_hl0 hx1)) rfl ?_
      refine wp_run 1 (pc' := 1) (ls' := [(2, x1), (0, (M 38 4)), (0, (M 38 5))]) (st' := [(2, x1)]) rfl ?_
      refine wp_gf (pc' := 4) (t := 2) (v := (x1 + 5)) rfl rfl (by decide) rfl (z_hl0 hx1) (z_hf4 hx1) ?_
      refine wp_run 2 (pc' := 6) (ls' := [(2, x1), (0, (M 38 4)), (0, (M 38 5))]) (st' := [(0, (M 38 5)), (0, (M 38 4)), (2, (x1 + 5))]) rfl ?_
      refine wp_callv (pc' := 9) (as := [(0, (M 38 4)), (0, (M 38 5))]) (rest := [(2, (x1 + 5))]) (ls1 := [(0, (M 38 4)), (0, (M 38 5))]) rfl rfl rfl rfl rfl rfl ?_
      refine wp_run 2 (pc' := 2) (ls' := [(0, (M 38 4)), (0, (M 38 5))]) (st' := [(0, (M 38 5)), (0, (M 38 4))]) rfl ?_
      refine wp_if2 rfl rfl rfl (fun (c3 : (M 38 5) ≤ (M 38 4)) => ?_) (fun (c3 : ¬ ((M 38 5) ≤ (M 38 4))) => ?_)
      · refine wp_run 5 (pc' := 20) (ls' := [(0, (M 38 4)), (0, (M 38 5))]) (st' := [(0, (z_w ((z_w ((M 38 5) * 6)) + (M 38 4))))]) rfl ?_
        refine wp_ret rfl rfl ?_
        show wp xs _ mX2_mixedOf 9 [(2, x1), (0, (M 38 4)), (0, (M 38 5))] [(0, (z_w ((z_w ((M 38 5) * 6)) + (M 38 4)))), (2, (x1 + 5))] z_LL M _
        refine wp_iald (pc' := 10) (v := (M (x1 + 5) (z_w ((z_w ((M 38 5) * 6)) + (M 38 4))))) rfl rfl (z_hl5 hx1) (b2 c1 c2 c3) rfl ?_
        refine wp_ret rfl rfl ?_
        show wp xs _ mX0_mixesFrom 86 [(2, 38), (2, x1), (0, x2), (0, x3)] [(0, (M (x1 + 5) (z_w ((z_w ((M 38 5) * 6)) + (M 38 4))))), (0, (M 44 (z_w ((z_w ((M 38 5) * 6)) + (M 38 4)))))] z_LL M _
        refine wp_run 1 (pc' := 87) (ls' := [(2, 38), (2, x1), (0, x2), (0, x3)]) (st' := [(0, (z_w ((M 44 (z_w ((z_w ((M 38 5) * 6)) + (M 38 4)))) - (M (x1 + 5) (z_w ((z_w ((M 38 5) * 6)) + (M 38 4)))))))]) rfl ?_
        exact wp_ret rfl rfl (l1 c1 c2 c3)
      · refine wp_run 6 (pc' := 20) (ls' := [(0, (M 38 4)), (0, (M 38 5))]) (st' := [(0, (z_w ((z_w ((M 38 4) * 6)) + (M 38 5))))]) rfl ?_
        refine wp_ret rfl rfl ?_
        show wp xs _ mX2_mixedOf 9 [(2, x1), (0, (M 38 4)), (0, (M 38 5))] [(0, (z_w ((z_w ((M 38 4) * 6)) + (M 38 5)))), (2, (x1 + 5))] z_LL M _
        refine wp_iald (pc' := 10) (v := (M (x1 + 5) (z_w ((z_w ((M 38 4) * 6)) + (M 38 5))))) rfl rfl (z_hl5 hx1) (b3 c1 c2 c3) rfl ?_
        refine wp_ret rfl rfl ?_
        show wp xs _ mX0_mixesFrom 86 [(2, 38), (2, x1), (0, x2), (0, x3)] [(0, (M (x1 + 5) (z_w ((z_w ((M 38 4) * 6)) + (M 38 5))))), (0, (M 44 (z_w ((z_w ((M 38 5) * 6)) + (M 38 4)))))] z_LL M _
        refine wp_run 1 (pc' := 87) (ls' := [(2, 38), (2, x1), (0, x2), (0, x3)]) (st' := [(0, (z_w ((M 44 (z_w ((z_w ((M 38 5) * 6)) + (M 38 4)))) - (M (x1 + 5) (z_w ((z_w ((M 38 4) * 6)) + (M 38 5)))))))]) rfl ?_
        exact wp_ret rfl rfl (l2 c1 c2 c3)
    · refine wp_run 6 (pc' := 20) (ls' := [(0, (M 38 4)), (0, (M 38 5))]) (st' := [(0, (z_w ((z_w ((M 38 4) * 6)) + (M 38 5))))]) rfl ?_
      refine wp_ret rfl rfl ?_
      show wp xs _ mX2_mixedOf 9 [(2, 39), (0, (M 38 4)), (0, (M 38 5))] [(0, (z_w ((z_w ((M 38 4) * 6)) + (M 38 5)))), (2, 44)] z_LL M _
      refine wp_iald (pc' := 10) (v := (M 44 (z_w ((z_w ((M 38 4) * 6)) + (M 38 5))))) rfl rfl rfl (b4 c1 c2) rfl ?_
      refine wp_ret rfl rfl ?_
      show wp xs _ mX0_mixesFrom 74 [(2, 38), (2, x1), (0, x2), (0, x3)] [(0, (M 44 (z_w ((z_w ((M 38 4) * 6)) + (M 38 5)))))] z_LL M _
      refine wp_run 2 (pc' := 76) (ls' := [(2, 38), (2, x1), (0, x2), (0, x3)]) (st' := [(2, 38), (2, x1), (0, (M 44 (z_w ((z_w ((M 38 4) * 6)) + (M 38 5)))))]) rfl ?_
      refine wp_gf (pc' := 79) (t := 0) (v := (M 38 4)) rfl rfl (by decide) rfl rfl rfl ?_
      refine wp_run 1 (pc' := 80) (ls' := [(2, 38), (2, x1), (0, x2), (0, x3)]) (st' := [(2, 38), (0, (M 38 4)), (2, x1), (0, (M 44 (z_w ((z_w ((M 38 4) * 6)) + (M 38 5)))))]) rfl ?_
      refine wp_gf (pc' := 83) (t := 0) (v := (M 38 5)) rfl rfl (by decide) rfl rfl rfl ?_
      refine wp_callv (pc' := 86) (as := [(2, x1), (0, (M 38 4)), (0, (M 38 5))]) (rest := [(0, (M 44 (z_w ((z_w ((M 38 4) * 6)) + (M 38 5)))))]) (ls1 := [(2, x1), (0, (M 38 4)), (0, (M 38 5))]) rfl rfl rfl rfl (z_args_v rfl rfl rfl rfl (Nat.le_of_ble_eq_true rfl) rfl (by decide) (z_hl0 hx1)) rfl ?_
      refine wp_run 1 (pc' := 1) (ls' := [(2, x1), (0, (M 38 4)), (0, (M 38 5))]) (st' := [(2, x1)]) rfl ?_
      refine wp_gf (pc' := 4) (t := 2) (v := (x1 + 5)) rfl rfl (by decide) rfl (z_hl0 hx1) (z_hf4 hx1) ?_
      refine wp_run 2 (pc' := 6) (ls' := [(2, x1), (0, (M 38 4)), (0, (M 38 5))]) (st' := [(0, (M 38 5)), (0, (M 38 4)), (2, (x1 + 5))]) rfl ?_
      refine wp_callv (pc' := 9) (as := [(0, (M 38 4)), (0, (M 38 5))]) (rest := [(2, (x1 + 5))]) (ls1 := [(0, (M 38 4)), (0, (M 38 5))]) rfl rfl rfl rfl rfl rfl ?_
      refine wp_run 2 (pc' := 2) (ls' := [(0, (M 38 4)), (0, (M 38 5))]) (st' := [(0, (M 38 5)), (0, (M 38 4))]) rfl ?_
      refine wp_if2 rfl rfl rfl (fun (c4 : (M 38 5) ≤ (M 38 4)) => ?_) (fun (c4 : ¬ ((M 38 5) ≤ (M 38 4))) => ?_)
      · refine wp_run 5 (pc' := 20) (ls' := [(0, (M 38 4)), (0, (M 38 5))]) (st' := [(0, (z_w ((z_w ((M 38 5) * 6)) + (M 38 4))))]) rfl ?_
        refine wp_ret rfl rfl ?_
        show wp xs _ mX2_mixedOf 9 [(2, x1), (0, (M 38 4)), (0, (M 38 5))] [(0, (z_w ((z_w ((M 38 5) * 6)) + (M 38 4)))), (2, (x1 + 5))] z_LL M _
        refine wp_iald (pc' := 10) (v := (M (x1 + 5) (z_w ((z_w ((M 38 5) * 6)) + (M 38 4))))) rfl rfl (z_hl5 hx1) (b5 c1 c2 c4) rfl ?_
        refine wp_ret rfl rfl ?_
        show wp xs _ mX0_mixesFrom 86 [(2, 38), (2, x1), (0, x2), (0, x3)] [(0, (M (x1 + 5) (z_w ((z_w ((M 38 5) * 6)) + (M 38 4))))), (0, (M 44 (z_w ((z_w ((M 38 4) * 6)) + (M 38 5)))))] z_LL M _
        refine wp_run 1 (pc' := 87) (ls' := [(2, 38), (2, x1), (0, x2), (0, x3)]) (st' := [(0, (z_w ((M 44 (z_w ((z_w ((M 38 4) * 6)) + (M 38 5)))) - (M (x1 + 5) (z_w ((z_w ((M 38 5) * 6)) + (M 38 4)))))))]) rfl ?_
        exact wp_ret rfl rfl (l3 c1 c2 c4)
      · refine wp_run 6 (pc' := 20) (ls' := [(0, (M 38 4)), (0, (M 38 5))]) (st' := [(0, (z_w ((z_w ((M 38 4) * 6)) + (M 38 5))))]) rfl ?_
        refine wp_ret rfl rfl ?_
        show wp xs _ mX2_mixedOf 9 [(2, x1), (0, (M 38 4)), (0, (M 38 5))] [(0, (z_w ((z_w ((M 38 4) * 6)) + (M 38 5)))), (2, (x1 + 5))] z_LL M _
        refine wp_iald (pc' := 10) (v := (M (x1 + 5) (z_w ((z_w ((M 38 4) * 6)) + (M 38 5))))) rfl rfl (z_hl5 hx1) (b6 c1 c2 c4) rfl ?_
        refine wp_ret rfl rfl ?_
        show wp xs _ mX0_mixesFrom 86 [(2, 38), (2, x1), (0, x2), (0, x3)] [(0, (M (x1 + 5) (z_w ((z_w ((M 38 4) * 6)) + (M 38 5))))), (0, (M 44 (z_w ((z_w ((M 38 4) * 6)) + (M 38 5)))))] z_LL M _
        refine wp_run 1 (pc' := 87) (ls' := [(2, 38), (2, x1), (0, x2), (0, x3)]) (st' := [(0, (z_w ((M 44 (z_w ((z_w ((M 38 4) * 6)) + (M 38 5)))) - (M (x1 + 5) (z_w ((z_w ((M 38 4) * 6)) + (M 38 5)))))))]) rfl ?_
        exact wp_ret rfl rfl (l4 c1 c2 c4)
  · refine wp_run 1 (pc' := 32) (ls' := [(2, 38), (2, x1), (0, x2), (0, x3)]) (st' := [(2, 38)]) rfl ?_
    refine wp_gf (pc' := 35) (t := 2) (v := 34) rfl rfl (by decide) rfl rfl (fx_38_0 hF) ?_
    refine wp_run 1 (pc' := 36) (ls' := [(2, 38), (2, x1), (0, x2), (0, x3)]) (st' := [(2, 38), (2, 34)]) rfl ?_
    refine wp_gf (pc' := 39) (t := 2) (v := 39) rfl rfl (by decide) rfl rfl (fx_38_1 hF) ?_
    refine wp_run 1 (pc' := 40) (ls' := [(2, 38), (2, x1), (0, x2), (0, x3)]) (st' := [(2, 38), (2, 39), (2, 34)]) rfl ?_
    refine wp_gf (pc' := 43) (t := 2) (v := 34) rfl rfl (by decide) rfl rfl (fx_38_0 hF) ?_
    refine wp_gf (pc' := 46) (t := 2) (v := (M 34 3)) rfl rfl (by decide) rfl rfl rfl ?_
    refine wp_gf (pc' := 49) (t := 0) (v := (M (M 34 3) 18)) rfl rfl (by decide) rfl (z_gl0 hg2) rfl ?_
    refine wp_callv (pc' := 52) (as := [(2, 34), (2, 39), (0, (M (M 34 3) 18))]) (rest := []) (ls1 := [(2, 34), (2, 39), (0, (M (M 34 3) 18)), (3, 0)]) rfl rfl rfl rfl rfl rfl ?_
    exact l5 c1
set_option maxRecDepth 20000 in
theorem gX0_mixesFrom_52 {xs : List Int} {d : Nat} {M : z_M} {P : Option z_V → z_L → z_M → Prop} {x1 : Int} {x2 : Int} {x3 : Int} {s0 : Int} (hx1 : z_her M x1)
    (l1 : wp xs d mX0_mixesFrom 23 [(2, 38), (2, x1), (0, x2), (0, (z_w (x3 + 1)))] [] z_LL M P) :
    wp xs d mX0_mixesFrom 52 [(2, 38), (2, x1), (0, x2), (0, x3)] [(0, s0)] z_LL M P := by
  refine wp_run 3 (pc' := 23) (ls' := [(2, 38), (2, x1), (0, x2), (0, (z_w (x3 + 1)))]) (st' := []) rfl ?_
  exact l1
set_option maxRecDepth 20000 in
theorem gX0_nextToWatch_0 {xs : List Int} {d : Nat} {M : z_M} {P : Option z_V → z_L → z_M → Prop} {a1 : Int} {a2 : Int} {a3 : Int} (hF : z_fix M) (ha1 : z_her M a1)
    (l1 : wp xs d mJ7_fill_53178 0 [(2, 46), (0, 0), (3, 0), (3, 0)] [] z_LL M (fun r L1 M1 => wp xs (d + 1) mX0_nextToWatch 8 [(2, 38), (2, a1), (0, a2), (0, a3), (3, 0), (3, 0), (3, 0), (3, 0)] (z_ol r ++ []) L1 M1 P)) :
    wp xs (d + 1) mX0_nextToWatch 0 [(2, 38), (2, a1), (0, a2), (0, a3), (3, 0), (3, 0), (3, 0), (3, 0)] [] z_LL M P := by
  refine wp_run 1 (pc' := 1) (ls' := [(2, 38), (2, a1), (0, a2), (0, a3), (3, 0), (3, 0), (3, 0), (3, 0)]) (st' := [(2, 38)]) rfl ?_
  refine wp_gf (pc' := 4) (t := 2) (v := 46) rfl rfl (by decide) rfl rfl (fx_38_3 hF) ?_
  refine wp_run 1 (pc' := 5) (ls' := [(2, 38), (2, a1), (0, a2), (0, a3), (3, 0), (3, 0), (3, 0), (3, 0)]) (st' := [(0, 0), (2, 46)]) rfl ?_
  refine wp_callv (pc' := 8) (as := [(2, 46), (0, 0)]) (rest := []) (ls1 := [(2, 46), (0, 0), (3, 0), (3, 0)]) rfl rfl rfl rfl rfl rfl ?_
  exact l1
set_option maxRecDepth 20000 in
theorem gX0_nextToWatch_8 {xs : List Int} {d : Nat} {M : z_M} {P : Option z_V → z_L → z_M → Prop} {x1 : Int} {x2 : Int} {x3 : Int} (hx1 : z_her M x1)
    (l1 : wp xs d mX0_nextToWatch 11 [(2, 38), (2, x1), (0, x2), (0, x3), (0, 0), (3, 0), (3, 0), (3, 0)] [] z_LL M P) :
    wp xs d mX0_nextToWatch 8 [(2, 38), (2, x1), (0, x2), (0, x3), (3, 0), (3, 0), (3, 0), (3, 0)] [] z_LL M P := by
  refine wp_run 2 (pc' := 11) (ls' := [(2, 38), (2, x1), (0, x2), (0, x3), (0, 0), (3, 0), (3, 0), (3, 0)]) (st' := []) rfl ?_
  exact l1
set_option maxRecDepth 20000 in
theorem gX0_nextToWatch_11 {xs : List Int} {d : Nat} {M : z_M} {P : Option z_V → z_L → z_M → Prop} {x1 : Int} {x2 : Int} {x3 : Int} {x4 : Int} (hF : z_fix M) (hx1 : z_her M x1) (hg2 : z_gor M (M 34 3))
    (l1 : ((z_w ((M (M 34 3) 10) * (M (M 34 3) 11))) ≤ x4) → wp xs (d + 1) mX0_nextToWatch 55 [(2, 38), (2, x1), (0, x2), (0, x3), (0, (-1)), (0, 0), (3, 0), (3, 0)] [] z_LL M P)
    (l2 : (¬ ((z_w ((M (M 34 3) 10) * (M (M 34 3) 11))) ≤ x4)) → ((z_and (z_shr x2 x4) 1) = 0) → wp xs (d + 1) mX0_nextToWatch 11 [(2, 38), (2, x1), (0, x2), (0, x3), (0, (z_w (x4 + 1))), (3, 0), (3, 0), (3, 0)] [] z_LL M P)
    (l3 : (¬ ((z_w ((M (M 34 3) 10) * (M (M 34 3) 11))) ≤ x4)) → (¬ ((z_and (z_shr x2 x4) 1) = 0)) → wp xs d mX0_countWhere 0 [(2, 38), (2, x1), (0, x4), (0, x3), (3, 0)] [] z_LL M (fun r L1 M1 => wp xs (d + 1) mX0_nextToWatch 43 [(2, 38), (2, x1), (0, x2), (0, x3), (0, x4), (3, 0), (3, 0), (3, 0)] (z_ol r ++ []) L1 M1 P)) :
    wp xs (d + 1) mX0_nextToWatch 11 [(2, 38), (2, x1), (0, x2), (0, x3), (0, x4), (3, 0), (3, 0), (3, 0)] [] z_LL M P := by
  refine wp_run 2 (pc' := 14) (ls' := [(2, 38), (2, x1), (0, x2), (0, x3), (0, x4), (3, 0), (3, 0), (3, 0)]) (st' := [(2, 38), (0, x4)]) rfl ?_
  refine wp_gf (pc' := 17) (t := 2) (v := 34) rfl rfl (by decide) rfl rfl (fx_38_0 hF) ?_
  refine wp_gf (pc' := 20) (t := 2) (v := (M 34 3)) rfl rfl (by decide) rfl rfl rfl ?_
  refine wp_callv (pc' := 23) (as := [(2, (M 34 3))]) (rest := [(0, x4)]) (ls1 := [(2, (M 34 3))]) rfl rfl rfl rfl (z_args_v rfl rfl rfl rfl (Nat.le_of_ble_eq_true rfl) rfl (by decide) (z_gl0 hg2)) rfl ?_
  refine wp_run 1 (pc' := 1) (ls' := [(2, (M 34 3))]) (st' := [(2, (M 34 3))]) rfl ?_
  refine wp_gf (pc' := 4) (t := 0) (v := (M (M 34 3) 10)) rfl rfl (by decide) rfl (z_gl0 hg2) rfl ?_
  refine wp_run 1 (pc' := 5) (ls' := [(2, (M 34 3))]) (st' := [(2, (M 34 3)), (0, (M (M 34 3) 10))]) rfl ?_
  refine wp_gf (pc' := 8) (t := 0) (v := (M (M 34 3) 11)) rfl rfl (by decide) rfl (z_gl0 hg2) rfl ?_
  refine wp_run 1 (pc' := 9) (ls' := [(2, (M 34 3))]) (st' := [(0, (z_w ((M (M 34 3) 10) * (M (M 34 3) 11))))]) rfl ?_
  refine wp_ret rfl rfl ?_
  show wp xs _ mX0_nextToWatch 23 [(2, 38), (2, x1), (0, x2), (0, x3), (0, x4), (3, 0), (3, 0), (3, 0)] [(0, (z_w ((M (M 34 3) 10) * (M (M 34 3) 11)))), (0, x4)] z_LL M _
  refine wp_if2 rfl rfl rfl (fun (c1 : (z_w ((M (M 34 3) 10) * (M (M 34 3) 11))) ≤ x4) => ?_) (fun (c1 : ¬ ((z_w ((M (M 34 3) 10) * (M (M 34 3) 11))) ≤ x4)) => ?_)
  · refine wp_run 4 (pc' := 55) (ls' := [(2, 38), (2, x1), (0, x2), (0, x3), (0, (-1)), (0, 0), (3, 0), (3, 0)]) (st' := []) rfl ?_
    exact l1 c1
  · refine wp_run 5 (pc' := 32) (ls' := [(2, 38), (2, x1), (0, x2), (0, x3), (0, x4), (3, 0), (3, 0), (3, 0)]) (st' := [(0, (z_and (z_shr x2 x4) 1))]) rfl ?_
    refine wp_if1 rfl rfl rfl (fun (c2 : (z_and (z_shr x2 x4) 1) = 0) => ?_) (fun (c2 : ¬ ((z_and (z_shr x2 x4) 1) = 0)) => ?_)
    · refine wp_run 2 (pc' := 11) (ls' := [(2, 38), (2, x1), (0, x2), (0, x3), (0, (z_w (x4 + 1))), (3, 0), (3, 0), (3, 0)]) (st' := []) rfl ?_
      exact l2 c1 c2
    · refine wp_run 4 (pc' := 40) (ls' := [(2, 38), (2, x1), (0, x2), (0, x3), (0, x4), (3, 0), (3, 0), (3, 0)]) (st' := [(0, x3), (0, x4), (2, x1), (2, 38)]) rfl ?_
      refine wp_callv (pc' := 43) (as := [(2, 38), (2, x1), (0, x4), (0, x3)]) (rest := []) (ls1 := [(2, 38), (2, x1), (0, x4), (0, x3), (3, 0)]) rfl rfl rfl rfl rfl rfl ?_
      exact l3 c1 c2
set_option maxRecDepth 20000 in
theorem gX0_nextToWatch_43 {xs : List Int} {d : Nat} {M : z_M} {P : Option z_V → z_L → z_M → Prop} {x1 : Int} {x2 : Int} {x3 : Int} {x4 : Int} (hx1 : z_her M x1)
    (l1 : wp xs d mX0_nextToWatch 11 [(2, 38), (2, x1), (0, x2), (0, x3), (0, (z_w (x4 + 1))), (3, 0), (3, 0), (3, 0)] [] z_LL M P) :
    wp xs d mX0_nextToWatch 43 [(2, 38), (2, x1), (0, x2), (0, x3), (0, x4), (3, 0), (3, 0), (3, 0)] [] z_LL M P := by
  refine wp_run 2 (pc' := 11) (ls' := [(2, 38), (2, x1), (0, x2), (0, x3), (0, (z_w (x4 + 1))), (3, 0), (3, 0), (3, 0)]) (st' := []) rfl ?_
  exact l1
set_option maxRecDepth 20000 in
theorem gX0_nextToWatch_55 {xs : List Int} {d : Nat} {M : z_M} {P : Option z_V → z_L → z_M → Prop} {x1 : Int} {x2 : Int} {x3 : Int} {x4 : Int} {x5 : Int} {w6 : z_V} {w7 : z_V} (hF : z_fix M) (hx1 : z_her M x1) (hg2 : z_gor M (M 34 3))
    (l1 : ((M (M 34 3) 12) ≤ x5) → P (some (0, x4)) z_LL M)
    (l2 : (¬ ((M (M 34 3) 12) ≤ x5)) → wp xs d mX0_nextToWatch 76 [(2, 38), (2, x1), (0, x2), (0, x3), (0, x4), (0, x5), (0, 0), (0, 0)] [] z_LL M P) :
    wp xs d mX0_nextToWatch 55 [(2, 38), (2, x1), (0, x2), (0, x3), (0, x4), (0, x5), w6, w7] [] z_LL M P := by
  refine wp_run 2 (pc' := 58) (ls' := [(2, 38), (2, x1), (0, x2), (0, x3), (0, x4), (0, x5), w6, w7]) (st' := [(2, 38), (0, x5)]) rfl ?_
  refine wp_gf (pc' := 61) (t := 2) (v := 34) rfl rfl (by decide) rfl rfl (fx_38_0 hF) ?_
  refine wp_gf (pc' := 64) (t := 2) (v := (M 34 3)) rfl rfl (by decide) rfl rfl rfl ?_
  refine wp_gf (pc' := 67) (t := 0) (v := (M (M 34 3) 12)) rfl rfl (by decide) rfl (z_gl0 hg2) rfl ?_
  refine wp_if2 rfl rfl rfl (fun (c1 : (M (M 34 3) 12) ≤ x5) => ?_) (fun (c1 : ¬ ((M (M 34 3) 12) ≤ x5)) => ?_)
  · refine wp_run 1 (pc' := 142) (ls' := [(2, 38), (2, x1), (0, x2), (0, x3), (0, x4), (0, x5), w6, w7]) (st' := [(0, x4)]) rfl ?_
    exact wp_ret rfl rfl (l1 c1)
  · refine wp_run 4 (pc' := 76) (ls' := [(2, 38), (2, x1), (0, x2), (0, x3), (0, x4), (0, x5), (0, 0), (0, 0)]) (st' := []) rfl ?_
    exact l2 c1
set_option maxRecDepth 20000 in
theorem gX0_nextToWatch_76 {xs : List Int} {d : Nat} {M : z_M} {P : Option z_V → z_L → z_M → Prop} {x1 : Int} {x2 : Int} {x3 : Int} {x4 : Int} {x5 : Int} {x6 : Int} {x7 : Int} (hF : z_fix M) (hx1 : z_her M x1)
    (l1 : (25 ≤ x7) → (x4 = (-1)) → wp xs d mX0_nextToWatch 55 [(2, 38), (2, x1), (0, x2), (0, x3), (0, x5), (0, (z_w (x5 + 1))), (0, x6), (0, x7)] [] z_LL (z_up M 38 8 x6) P)
    (l2 : (25 ≤ x7) → (¬ (x4 = (-1))) → ((M 38 8) ≤ x6) → wp xs d mX0_nextToWatch 55 [(2, 38), (2, x1), (0, x2), (0, x3), (0, x4), (0, (z_w (x5 + 1))), (0, x6), (0, x7)] [] z_LL M P)
    (l3 : (25 ≤ x7) → (¬ (x4 = (-1))) → (¬ ((M 38 8) ≤ x6)) → wp xs d mX0_nextToWatch 55 [(2, 38), (2, x1), (0, x2), (0, x3), (0, x5), (0, (z_w (x5 + 1))), (0, x6), (0, x7)] [] z_LL (z_up M 38 8 x6) P)
    (b1 : (¬ (25 ≤ x7)) → 0 ≤ (z_w ((z_w (x5 * 25)) + x7)) ∧ (z_w ((z_w (x5 * 25)) + x7)) < 150)
    (l4 : (¬ (25 ≤ x7)) → wp xs d mX0_nextToWatch 76 [(2, 38), (2, x1), (0, x2), (0, x3), (0, x4), (0, x5), (0, (z_max x6 (M 46 (z_w ((z_w (x5 * 25)) + x7))))), (0, (z_w (x7 + 1)))] [] z_LL M P) :
    wp xs d mX0_nextToWatch 76 [(2, 38), (2, x1), (0, x2), (0, x3), (0, x4), (0, x5), (0, x6), (0, x7)] [] z_LL M P := by
  refine wp_run 2 (pc' := 80) (ls' := [(2, 38), (2, x1), (0, x2), (0, x3), (0, x4), (0, x5), (0, x6), (0, x7)]) (st' := [(0, 25), (0, x7)]) rfl ?_
  refine wp_if2 rfl rfl rfl (fun (c1 : 25 ≤ x7) => ?_) (fun (c1 : ¬ (25 ≤ x7)) => ?_)
  · refine wp_run 2 (pc' := 112) (ls' := [(2, 38), (2, x1), (0, x2), (0, x3), (0, x4), (0, x5), (0, x6), (0, x7)]) (st' := [(0, (-1)), (0, x4)]) rfl ?_
    refine wp_if2 rfl rfl rfl (fun (c2 : x4 = (-1)) => ?_) (fun (c2 : ¬ (x4 = (-1))) => ?_)
    · refine wp_run 4 (pc' := 131) (ls' := [(2, 38), (2, x1), (0, x2), (0, x3), (0, x5), (0, x5), (0, x6), (0, x7)]) (st' := [(0, x6), (2, 38)]) rfl ?_
      refine wp_pf (pc' := 134) rfl rfl rfl rfl (fun z => absurd z (by decide)) (fun z => absurd z (by decide)) ?_
      refine wp_run 2 (pc' := 55) (ls' := [(2, 38), (2, x1), (0, x2), (0, x3), (0, x5), (0, (z_w (x5 + 1))), (0, x6), (0, x7)]) (st' := []) rfl ?_
      exact l1 c1 c2
    · refine wp_run 2 (pc' := 118) (ls' := [(2, 38), (2, x1), (0, x2), (0, x3), (0, x4), (0, x5), (0, x6), (0, x7)]) (st' := [(2, 38), (0, x6)]) rfl ?_
      refine wp_gf (pc' := 121) (t := 0) (v := (M 38 8)) rfl rfl (by decide) rfl rfl rfl ?_
      refine wp_if2 rfl rfl rfl (fun (c3 : (M 38 8) ≤ x6) => ?_) (fun (c3 : ¬ ((M 38 8) ≤ x6)) => ?_)
      · refine wp_run 2 (pc' := 55) (ls' := [(2, 38), (2, x1), (0, x2), (0, x3), (0, x4), (0, (z_w (x5 + 1))), (0, x6), (0, x7)]) (st' := []) rfl ?_
        exact l2 c1 c2 c3
      · refine wp_run 4 (pc' := 131) (ls' := [(2, 38), (2, x1), (0, x2), (0, x3), (0, x5), (0, x5), (0, x6), (0, x7)]) (st' := [(0, x6), (2, 38)]) rfl ?_
        refine wp_pf (pc' := 134) rfl rfl rfl rfl (fun z => absurd z (by decide)) (fun z => absurd z (by decide)) ?_
        refine wp_run 2 (pc' := 55) (ls' := [(2, 38), (2, x1), (0, x2), (0, x3), (0, x5), (0, (z_w (x5 + 1))), (0, x6), (0, x7)]) (st' := []) rfl ?_
        exact l3 c1 c2 c3
  · refine wp_run 2 (pc' := 86) (ls' := [(2, 38), (2, x1), (0, x2), (0, x3), (0, x4), (0, x5), (0, x6), (0, x7)]) (st' := [(2, 38), (0, x6)]) rfl ?_
    refine wp_gf (pc' := 89) (t := 2) (v := 46) rfl rfl (by decide) rfl rfl (fx_38_3 hF) ?_
    refine wp_run 5 (pc' := 97) (ls' := [(2, 38), (2, x1), (0, x2), (0, x3), (0, x4), (0, x5), (0, x6), (0, x7)]) (st' := [(0, (z_w ((z_w (x5 * 25)) + x7))), (2, 46), (0, x6)]) rfl ?_
    refine wp_iald (pc' := 98) (v := (M 46 (z_w ((z_w (x5 * 25)) + x7)))) rfl rfl rfl (b1 c1) rfl ?_
    refine wp_max (pc' := 101) rfl rfl (Nat.le_of_ble_eq_true rfl) ?_
    refine wp_run 3 (pc' := 76) (ls' := [(2, 38), (2, x1), (0, x2), (0, x3), (0, x4), (0, x5), (0, (z_max x6 (M 46 (z_w ((z_w (x5 * 25)) + x7))))), (0, (z_w (x7 + 1)))]) (st' := []) rfl ?_
    exact l4 c1
set_option maxRecDepth 20000 in
theorem gX0_saltedAtNight_0 {xs : List Int} {d : Nat} {M : z_M} {P : Option z_V → z_L → z_M → Prop} {a1 : Int} {a3 : Int} (ha1 : z_her M a1)
    (l1 : wp xs d mX6_lastDay 0 [(2, 294), (0, a3), (3, 0), (3, 0)] [] z_LL M (fun r L1 M1 => wp xs (d + 1) mX0_saltedAtNight 8 [(2, 38), (2, a1), (2, 294), (0, a3), (0, 0), (3, 0), (3, 0)] (z_ol r ++ []) L1 M1 P)) :
    wp xs (d + 1) mX0_saltedAtNight 0 [(2, 38), (2, a1), (2, 294), (0, a3), (3, 0), (3, 0), (3, 0)] [] z_LL M P := by
  refine wp_run 4 (pc' := 5) (ls' := [(2, 38), (2, a1), (2, 294), (0, a3), (0, 0), (3, 0), (3, 0)]) (st' := [(0, a3), (2, 294)]) rfl ?_
  refine wp_callv (pc' := 8) (as := [(2, 294), (0, a3)]) (rest := []) (ls1 := [(2, 294), (0, a3), (3, 0), (3, 0)]) rfl rfl rfl rfl rfl rfl ?_
  exact l1
set_option maxRecDepth 20000 in
theorem gX0_saltedAtNight_8 {xs : List Int} {d : Nat} {M : z_M} {P : Option z_V → z_L → z_M → Prop} {x1 : Int} {x3 : Int} {x4 : Int} {s0 : Int} (hx1 : z_her M x1)
    (l1 : wp xs d mX0_saltedAtNight 13 [(2, 38), (2, x1), (2, 294), (0, x3), (0, x4), (0, s0), (0, 0)] [] z_LL M P) :
    wp xs d mX0_saltedAtNight 8 [(2, 38), (2, x1), (2, 294), (0, x3), (0, x4), (3, 0), (3, 0)] [(0, s0)] z_LL M P := by
  refine wp_run 3 (pc' := 13) (ls' := [(2, 38), (2, x1), (2, 294), (0, x3), (0, x4), (0, s0), (0, 0)]) (st' := []) rfl ?_
  exact l1
set_option maxRecDepth 20000 in
theorem gX0_saltedAtNight_13 {xs : List Int} {d : Nat} {M : z_M} {P : Option z_V → z_L → z_M → Prop} {x1 : Int} {x3 : Int} {x4 : Int} {x5 : Int} {x6 : Int} (hF : z_fix M) (hx1 : z_her M x1) (hg2 : z_gor M (M 34 3))
    (l1 : ((z_w ((M (M 34 3) 10) * (M (M 34 3) 11))) ≤ x6) → P (some (0, x4)) z_LL M)
    (b1 : (¬ ((z_w ((M (M 34 3) 10) * (M (M 34 3) 11))) ≤ x6)) → 0 ≤ x6 ∧ x6 < 25)
    (l2 : (¬ ((z_w ((M (M 34 3) 10) * (M (M 34 3) 11))) ≤ x6)) → ((M (x1 + 4) x6) ≠ 0) → wp xs (d + 1) mX0_saltedAtNight 13 [(2, 38), (2, x1), (2, 294), (0, x3), (0, x4), (0, x5), (0, (z_w (x6 + 1)))] [] z_LL M P)
    (l3 : (¬ ((z_w ((M (M 34 3) 10) * (M (M 34 3) 11))) ≤ x6)) → (¬ ((M (x1 + 4) x6) ≠ 0)) → wp xs d mX0_explains 0 [(2, 38), (2, x1), (0, x6), (2, 294), (0, x3), (0, x5), (3, 0)] [] z_LL M (fun r L1 M1 => wp xs (d + 1) mX0_saltedAtNight 49 [(2, 38), (2, x1), (2, 294), (0, x3), (0, x4), (0, x5), (0, x6)] (z_ol r ++ []) L1 M1 P)) :
    wp xs (d + 1) mX0_saltedAtNight 13 [(2, 38), (2, x1), (2, 294), (0, x3), (0, x4), (0, x5), (0, x6)] [] z_LL M P := by
  refine wp_run 2 (pc' := 16) (ls' := [(2, 38), (2, x1), (2, 294), (0, x3), (0, x4), (0, x5), (0, x6)]) (st' := [(2, 38), (0, x6)]) rfl ?_
  refine wp_gf (pc' := 19) (t := 2) (v := 34) rfl rfl (by decide) rfl rfl (fx_38_0 hF) ?_
  refine wp_gf (pc' := 22) (t := 2) (v := (M 34 3)) rfl rfl (by decide) rfl rfl rfl ?_
  refine wp_callv (pc' := 25) (as := [(2, (M 34 3))]) (rest := [(0, x6)]) (ls1 := [(2, (M 34 3))]) rfl rfl rfl rfl (z_args_v rfl rfl rfl rfl (Nat.le_of_ble_eq_true rfl) rfl (by decide) (z_gl0 hg2)) rfl ?_
  refine wp_run 1 (pc' := 1) (ls' := [(2, (M 34 3))]) (st' := [(2, (M 34 3))]) rfl ?_
  refine wp_gf (pc' := 4) (t := 0) (v := (M (M 34 3) 10)) rfl rfl (by decide) rfl (z_gl0 hg2) rfl ?_
  refine wp_run 1 (pc' := 5) (ls' := [(2, (M 34 3))]) (st' := [(2, (M 34 3)), (0, (M (M 34 3) 10))]) rfl ?_
  refine wp_gf (pc' := 8) (t := 0) (v := (M (M 34 3) 11)) rfl rfl (by decide) rfl (z_gl0 hg2) rfl ?_
  refine wp_run 1 (pc' := 9) (ls' := [(2, (M 34 3))]) (st' := [(0, (z_w ((M (M 34 3) 10) * (M (M 34 3) 11))))]) rfl ?_
  refine wp_ret rfl rfl ?_
  show wp xs _ mX0_saltedAtNight 25 [(2, 38), (2, x1), (2, 294), (0, x3), (0, x4), (0, x5), (0, x6)] [(0, (z_w ((M (M 34 3) 10) * (M (M 34 3) 11)))), (0, x6)] z_LL M _
  refine wp_if2 rfl rfl rfl (fun (c1 : (z_w ((M (M 34 3) 10) * (M (M 34 3) 11))) ≤ x6) => ?_) (fun (c1 : ¬ ((z_w ((M (M 34 3) 10) * (M (M 34 3) 11))) ≤ x6)) => ?_)
  · refine wp_run 1 (pc' := 69) (ls' := [(2, 38), (2, x1), (2, 294), (0, x3), (0, x4), (0, x5), (0, x6)]) (st' := [(0, x4)]) rfl ?_
    exact wp_ret rfl rfl (l1 c1)
  · refine wp_run 1 (pc' := 29) (ls' := [(2, 38), (2, x1), (2, 294), (0, x3), (0, x4), (0, x5), (0, x6)]) (st' := [(2, x1)]) rfl ?_
    refine wp_gf (pc' := 32) (t := 2) (v := (x1 + 4)) rfl rfl (by decide) rfl (z_hl0 hx1) (z_hf3 hx1) ?_
    refine wp_run 1 (pc' := 34) (ls' := [(2, 38), (2, x1), (2, 294), (0, x3), (0, x4), (0, x5), (0, x6)]) (st' := [(0, x6), (2, (x1 + 4))]) rfl ?_
    refine wp_iald (pc' := 35) (v := (M (x1 + 4) x6)) rfl rfl (z_hl4 hx1) (b1 c1) rfl ?_
    refine wp_if1 rfl rfl rfl (fun (c2 : (M (x1 + 4) x6) ≠ 0) => ?_) (fun (c2 : ¬ ((M (x1 + 4) x6) ≠ 0)) => ?_)
    · refine wp_run 2 (pc' := 13) (ls' := [(2, 38), (2, x1), (2, 294), (0, x3), (0, x4), (0, x5), (0, (z_w (x6 + 1)))]) (st' := []) rfl ?_
      exact l2 c1 c2
    · refine wp_run 6 (pc' := 46) (ls' := [(2, 38), (2, x1), (2, 294), (0, x3), (0, x4), (0, x5), (0, x6)]) (st' := [(0, x5), (0, x3), (2, 294), (0, x6), (2, x1), (2, 38)]) rfl ?_
      refine wp_callv (pc' := 49) (as := [(2, 38), (2, x1), (0, x6), (2, 294), (0, x3), (0, x5)]) (rest := []) (ls1 := [(2, 38), (2, x1), (0, x6), (2, 294), (0, x3), (0, x5), (3, 0)]) rfl rfl rfl rfl rfl rfl ?_
      exact l3 c1 c2
set_option maxRecDepth 20000 in
theorem gX0_saltedAtNight_49 {xs : List Int} {d : Nat} {M : z_M} {P : Option z_V → z_L → z_M → Prop} {x1 : Int} {x3 : Int} {x4 : Int} {x5 : Int} {x6 : Int} {s0 : Int} (hx1 : z_her M x1)
    (l1 : (s0 = 0) → wp xs d mX0_saltedAtNight 13 [(2, 38), (2, x1), (2, 294), (0, x3), (0, x4), (0, x5), (0, (z_w (x6 + 1)))] [] z_LL M P)
    (l2 : (¬ (s0 = 0)) → wp xs d mX0_saltedAtNight 13 [(2, 38), (2, x1), (2, 294), (0, x3), (0, (z_or x4 (z_shl 1 x6))), (0, x5), (0, (z_w (x6 + 1)))] [] z_LL M P) :
    wp xs d mX0_saltedAtNight 49 [(2, 38), (2, x1), (2, 294), (0, x3), (0, x4), (0, x5), (0, x6)] [(0, s0)] z_LL M P := by
  refine wp_if1 rfl rfl rfl (fun (c1 : s0 = 0) => ?_) (fun (c1 : ¬ (s0 = 0)) => ?_)
  · refine wp_run 2 (pc' := 13) (ls' := [(2, 38), (2, x1), (2, 294), (0, x3), (0, x4), (0, x5), (0, (z_w (x6 + 1)))]) (st' := []) rfl ?_
    exact l1 c1
  · refine wp_run 8 (pc' := 13) (ls' := [(2, 38), (2, x1), (2, 294), (0, x3), (0, (z_or x4 (z_shl 1 x6))), (0, x5), (0, (z_w (x6 + 1)))]) (st' := []) rfl ?_
    exact l2 c1
set_option maxRecDepth 20000 in
theorem gX0_singleAtLast_0 {xs : List Int} {d : Nat} {M : z_M} {P : Option z_V → z_L → z_M → Prop} {a1 : Int} {a2 : Int} (hF : z_fix M) (ha1 : z_her M a1) (hn1 : a1 ≠ 39)
    (l1 : wp xs (d + 1) mX0_singleAtLast 10 [(2, 38), (2, a1), (0, a2), (0, 0)] [] z_LL (z_up (z_up (z_up (z_cpy (z_cpy (z_cpy (z_cpy (z_cpy M (a1 + 1) 0 40 0 6) (a1 + 2) 0 41 0 6) (a1 + 3) 0 42 0 25) (a1 + 4) 0 43 0 25) (a1 + 5) 0 44 0 36) 39 5 (M a1 5)) 39 6 (M a1 6)) 39 7 (M a1 7)) P) :
    wp xs (d + 1) mX0_singleAtLast 0 [(2, 38), (2, a1), (0, a2), (3, 0)] [] z_LL M P := by
  refine wp_run 1 (pc' := 1) (ls' := [(2, 38), (2, a1), (0, a2), (3, 0)]) (st' := [(2, 38)]) rfl ?_
  refine wp_gf (pc' := 4) (t := 2) (v := 39) rfl rfl (by decide) rfl rfl (fx_38_1 hF) ?_
  refine wp_run 1 (pc' := 5) (ls' := [(2, 38), (2, a1), (0, a2), (3, 0)]) (st' := [(2, a1), (2, 39)]) rfl ?_
  refine wp_callv (pc' := 8) (as := [(2, 39), (2, a1)]) (rest := []) (ls1 := [(2, 39), (2, a1)]) rfl rfl rfl rfl rfl rfl ?_
  refine wp_run 1 (pc' := 1) (ls' := [(2, 39), (2, a1)]) (st' := [(2, a1)]) rfl ?_
  refine wp_gf (pc' := 4) (t := 2) (v := (a1 + 1)) rfl rfl (by decide) rfl (z_hl0 ha1) (z_hf0 ha1) ?_
  refine wp_run 2 (pc' := 6) (ls' := [(2, 39), (2, a1)]) (st' := [(2, 39), (0, 0), (2, (a1 + 1))]) rfl ?_
  refine wp_gf (pc' := 9) (t := 2) (v := 40) rfl rfl (by decide) rfl rfl (fx_39_0 hF) ?_
  refine wp_run 2 (pc' := 12) (ls' := [(2, 39), (2, a1)]) (st' := [(0, 6), (0, 0), (2, 40), (0, 0), (2, (a1 + 1))]) rfl ?_
  refine wp_acp (pc' := 15) rfl rfl (z_hl1 ha1) rfl (by decide) ?_
  refine wp_run 1 (pc' := 16) (ls' := [(2, 39), (2, a1)]) (st' := [(2, a1)]) rfl ?_
  refine wp_gf (pc' := 19) (t := 2) (v := (a1 + 2)) rfl rfl (by decide) rfl (z_hl0 ha1) (z_cpq (by have := z_hr ha1; omega) (z_hf1 ha1)) ?_
  refine wp_run 2 (pc' := 21) (ls' := [(2, 39), (2, a1)]) (st' := [(2, 39), (0, 0), (2, (a1 + 2))]) rfl ?_
  refine wp_gf (pc' := 24) (t := 2) (v := 41) rfl rfl (by decide) rfl rfl (z_cpq (by decide) (fx_39_1 hF)) ?_
  refine wp_run 2 (pc' := 27) (ls' := [(2, 39), (2, a1)]) (st' := [(0, 6), (0, 0), (2, 41), (0, 0), (2, (a1 + 2))]) rfl ?_
  refine wp_acp (pc' := 30) rfl rfl (z_hl2 ha1) rfl (by decide) ?_
  refine wp_run 1 (pc' := 31) (ls' := [(2, 39), (2, a1)]) (st' := [(2, a1)]) rfl ?_
  refine wp_gf (pc' := 34) (t := 2) (v := (a1 + 3)) rfl rfl (by decide) rfl (z_hl0 ha1) (z_cpq (by have := z_hr ha1; omega) (z_cpq (by have := z_hr ha1; omega) (z_hf2 ha1))) ?_
  refine wp_run 2 (pc' := 36) (ls' := [(2, 39), (2, a1)]) (st' := [(2, 39), (0, 0), (2, (a1 + 3))]) rfl ?_
  refine wp_gf (pc' := 39) (t := 2) (v := 42) rfl rfl (by decide) rfl rfl (z_cpq (by decide) (z_cpq (by decide) (fx_39_2 hF))) ?_
  refine wp_run 2 (pc' := 42) (ls' := [(2, 39), (2, a1)]) (st' := [(0, 25), (0, 0), (2, 42), (0, 0), (2, (a1 + 3))]) rfl ?_
  refine wp_acp (pc' := 45) rfl rfl (z_hl3 ha1) rfl (by decide) ?_
  refine wp_run 1 (pc' := 46) (ls' := [(2, 39), (2, a1)]) (st' := [(2, a1)]) rfl ?_
  refine wp_gf (pc' := 49) (t := 2) (v := (a1 + 4)) rfl rfl (by decide) rfl (z_hl0 ha1) (z_cpq (by have := z_hr ha1; omega) (z_cpq (by have := z_hr ha1; omega) (z_cpq (by have := z_hr ha1; omega) (z_hf3 ha1)))) ?_
  refine wp_run 2 (pc' := 51) (ls' := [(2, 39), (2, a1)]) (st' := [(2, 39), (0, 0), (2, (a1 + 4))]) rfl ?_
  refine wp_gf (pc' := 54) (t := 2) (v := 43) rfl rfl (by decide) rfl rfl (z_cpq (by decide) (z_cpq (by decide) (z_cpq (by decide) (fx_39_3 hF)))) ?_
  refine wp_run 2 (pc' := 57) (ls' := [(2, 39), (2, a1)]) (st' := [(0, 25), (0, 0), (2, 43), (0, 0), (2, (a1 + 4))]) rfl ?_
  refine wp_acp (pc' := 60) rfl rfl (z_hl4 ha1) rfl (by decide) ?_
  refine wp_run 1 (pc' := 61) (ls' := [(2, 39), (2, a1)]) (st' := [(2, a1)]) rfl ?_
  refine wp_gf (pc' := 64) (t := 2) (v := (a1 + 5)) rfl rfl (by decide) rfl (z_hl0 ha1) (z_cpq (by have := z_hr ha1; omega) (z_cpq (by have := z_hr ha1; omega) (z_cpq (by have := z_hr ha1; omega) (z_cpq (by have := z_hr ha1; omega) (z_hf4 ha1))))) ?_
  refine wp_run 2 (pc' := 66) (ls' := [(2, 39), (2, a1)]) (st' := [(2, 39), (0, 0), (2, (a1 + 5))]) rfl ?_
  refine wp_gf (pc' := 69) (t := 2) (v := 44) rfl rfl (by decide) rfl rfl (z_cpq (by decide) (z_cpq (by decide) (z_cpq (by decide) (z_cpq (by decide) (fx_39_4 hF))))) ?_
  refine wp_run 2 (pc' := 71) (ls' := [(2, 39), (2, a1)]) (st' := [(2, 39), (0, 0), (2, 44), (0, 0), (2, (a1 + 5))]) rfl ?_
  refine wp_gf (pc' := 74) (t := 2) (v := 44) rfl rfl (by decide) rfl rfl (z_cpq (by decide) (z_cpq (by decide) (z_cpq (by decide) (z_cpq (by decide) (fx_39_4 hF))))) ?_
  refine wp_len (pc' := 75) rfl rfl rfl (by decide) ?_
  refine wp_acp (pc' := 78) rfl rfl (z_hl5 ha1) rfl (by decide) ?_
  refine wp_run 2 (pc' := 80) (ls' := [(2, 39), (2, a1)]) (st' := [(2, a1), (2, 39)]) rfl ?_
  refine wp_gf (pc' := 83) (t := 0) (v := (M a1 5)) rfl rfl (by decide) rfl (z_hl0 ha1) (z_cpq (by have := z_hr ha1; omega) (z_cpq (by have := z_hr ha1; omega) (z_cpq (by have := z_hr ha1; omega) (z_cpq (by have := z_hr ha1; omega) (z_cpq (by have := z_hr ha1; omega) rfl))))) ?_
  refine wp_pf (pc' := 86) rfl rfl rfl rfl (fun z => absurd z (by decide)) (fun z => absurd z (by decide)) ?_
  refine wp_run 2 (pc' := 88) (ls' := [(2, 39), (2, a1)]) (st' := [(2, a1), (2, 39)]) rfl ?_
  refine wp_gf (pc' := 91) (t := 0) (v := (M a1 6)) rfl rfl (by decide) rfl (z_hl0 ha1) (z_upq (by have := z_hr ha1; omega) (z_cpq (by have := z_hr ha1; omega) (z_cpq (by have := z_hr ha1; omega) (z_cpq (by have := z_hr ha1; omega) (z_cpq (by have := z_hr ha1; omega) (z_cpq (by have := z_hr ha1; omega) rfl)))))) ?_
  refine wp_pf (pc' := 94) rfl rfl rfl rfl (fun z => absurd z (by decide)) (fun z => absurd z (by decide)) ?_
  refine wp_run 2 (pc' := 96) (ls' := [(2, 39), (2, a1)]) (st' := [(2, a1), (2, 39)]) rfl ?_
  refine wp_gf (pc' := 99) (t := 0) (v := (M a1 7)) rfl rfl (by decide) rfl (z_hl0 ha1) (z_upq (by have := z_hr ha1; omega) (z_upq (by have := z_hr ha1; omega) (z_cpq (by have := z_hr ha1; omega) (z_cpq (by have := z_hr ha1; omega) (z_cpq (by have := z_hr ha1; omega) (z_cpq (by have := z_hr ha1; omega) (z_cpq (by have := z_hr ha1; omega) rfl))))))) ?_
  refine wp_pf (pc' := 102) rfl rfl rfl rfl (fun z => absurd z (by decide)) (fun z => absurd z (by decide)) ?_
  refine wp_ret rfl rfl ?_
  show wp xs _ mX0_singleAtLast 8 [(2, 38), (2, a1), (0, a2), (3, 0)] [] z_LL (z_up (z_up (z_up (z_cpy (z_cpy (z_cpy (z_cpy (z_cpy M (a1 + 1) 0 40 0 6) (a1 + 2) 0 41 0 6) (a1 + 3) 0 42 0 25) (a1 + 4) 0 43 0 25) (a1 + 5) 0 44 0 36) 39 5 (M a1 5)) 39 6 (M a1 6)) 39 7 (M a1 7)) _
  refine wp_run 2 (pc' := 10) (ls' := [(2, 38), (2, a1), (0, a2), (0, 0)]) (st' := []) rfl ?_
  exact l1
set_option maxRecDepth 20000 in
theorem gX0_singleAtLast_10 {xs : List Int} {d : Nat} {M : z_M} {P : Option z_V → z_L → z_M → Prop} {x1 : Int} {x2 : Int} {x3 : Int} (hF : z_fix M) (hx1 : z_her M x1) (hg2 : z_gor M (M 34 3))
    (l1 : (60 ≤ x3) → wp xs d mX2_single 0 [(2, 39), (0, (M (M 34 3) 12)), (3, 0), (3, 0)] [] z_LL M (fun r L1 M1 => wp xs (d + 1) mX0_singleAtLast 52 [(2, 38), (2, x1), (0, x2), (0, x3)] (z_ol r ++ []) L1 M1 P))
    (l2 : (¬ (60 ≤ x3)) → wp xs d mX8_pass 0 [(2, 34), (2, 39), (0, x2), (3, 0)] [] z_LL M (fun r L1 M1 => wp xs (d + 1) mX0_singleAtLast 28 [(2, 38), (2, x1), (0, x2), (0, x3)] (z_ol r ++ []) L1 M1 P)) :
    wp xs (d + 1) mX0_singleAtLast 10 [(2, 38), (2, x1), (0, x2), (0, x3)] [] z_LL M P := by
  refine wp_run 2 (pc' := 13) (ls' := [(2, 38), (2, x1), (0, x2), (0, x3)]) (st' := [(0, 60), (0, x3)]) rfl ?_
  refine wp_if2 rfl rfl rfl (fun (c1 : 60 ≤ x3) => ?_) (fun (c1 : ¬ (60 ≤ x3)) => ?_)
  · refine wp_run 1 (pc' := 36) (ls' := [(2, 38), (2, x1), (0, x2), (0, x3)]) (st' := [(2, 38)]) rfl ?_
    refine wp_gf (pc' := 39) (t := 2) (v := 39) rfl rfl (by decide) rfl rfl (fx_38_1 hF) ?_
    refine wp_run 1 (pc' := 40) (ls' := [(2, 38), (2, x1), (0, x2), (0, x3)]) (st' := [(2, 38), (2, 39)]) rfl ?_
    refine wp_gf (pc' := 43) (t := 2) (v := 34) rfl rfl (by decide) rfl rfl (fx_38_0 hF) ?_
    refine wp_gf (pc' := 46) (t := 2) (v := (M 34 3)) rfl rfl (by decide) rfl rfl rfl ?_
    refine wp_gf (pc' := 49) (t := 0) (v := (M (M 34 3) 12)) rfl rfl (by decide) rfl (z_gl0 hg2) rfl ?_
    refine wp_callv (pc' := 52) (as := [(2, 39), (0, (M (M 34 3) 12))]) (rest := []) (ls1 := [(2, 39), (0, (M (M 34 3) 12)), (3, 0), (3, 0)]) rfl rfl rfl rfl rfl rfl ?_
    exact l1 c1
  · refine wp_run 1 (pc' := 17) (ls' := [(2, 38), (2, x1), (0, x2), (0, x3)]) (st' := [(2, 38)]) rfl ?_
    refine wp_gf (pc' := 20) (t := 2) (v := 34) rfl rfl (by decide) rfl rfl (fx_38_0 hF) ?_
    refine wp_run 1 (pc' := 21) (ls' := [(2, 38), (2, x1), (0, x2), (0, x3)]) (st' := [(2, 38), (2, 34)]) rfl ?_
    refine wp_gf (pc' := 24) (t := 2) (v := 39) rfl rfl (by decide) rfl rfl (fx_38_1 hF) ?_
    refine wp_run 1 (pc' := 25) (ls' := [(2, 38), (2, x1), (0, x2), (0, x3)]) (st' := [(0, x2), (2, 39), (2, 34)]) rfl ?_
    refine wp_callv (pc' := 28) (as := [(2, 34), (2, 39), (0, x2)]) (rest := []) (ls1 := [(2, 34), (2, 39), (0, x2), (3, 0)]) rfl rfl rfl rfl rfl rfl ?_
    exact l2 c1
set_option maxRecDepth 20000 in
theorem gX0_singleAtLast_28 {xs : List Int} {d : Nat} {M : z_M} {P : Option z_V → z_L → z_M → Prop} {x1 : Int} {x2 : Int} {x3 : Int} {s0 : Int} (hx1 : z_her M x1)
    (l1 : wp xs d mX0_singleAtLast 10 [(2, 38), (2, x1), (0, x2), (0, (z_w (x3 + 1)))] [] z_LL M P) :
    wp xs d mX0_singleAtLast 28 [(2, 38), (2, x1), (0, x2), (0, x3)] [(0, s0)] z_LL M P := by
  refine wp_run 3 (pc' := 10) (ls' := [(2, 38), (2, x1), (0, x2), (0, (z_w (x3 + 1)))]) (st' := []) rfl ?_
  exact l1
set_option maxRecDepth 20000 in
theorem gX0_singleAtLast_52 {xs : List Int} {d : Nat} {M : z_M} {P : Option z_V → z_L → z_M → Prop} {x1 : Int} {x2 : Int} {x3 : Int} {s0 : Int} (hx1 : z_her M x1)
    (l1 : P (some (0, (z_and (z_w ((z_w ((z_and (z_w ((z_w ((z_and (z_w (s0 - (z_and (z_ushr s0 1) 1431655765))) 858993459) + (z_and (z_ushr (z_w (s0 - (z_and (z_ushr s0 1) 1431655765))) 2) 858993459))) + (z_ushr (z_w ((z_and (z_w (s0 - (z_and (z_ushr s0 1) 1431655765))) 858993459) + (z_and (z_ushr (z_w (s0 - (z_and (z_ushr s0 1) 1431655765))) 2) 858993459))) 4))) 252645135) + (z_ushr (z_and (z_w ((z_w ((z_and (z_w (s0 - (z_and (z_ushr s0 1) 1431655765))) 858993459) + (z_and (z_ushr (z_w (s0 - (z_and (z_ushr s0 1) 1431655765))) 2) 858993459))) + (z_ushr (z_w ((z_and (z_w (s0 - (z_and (z_ushr s0 1) 1431655765))) 858993459) + (z_and (z_ushr (z_w (s0 - (z_and (z_ushr s0 1) 1431655765))) 2) 858993459))) 4))) 252645135) 8))) + (z_ushr (z_w ((z_and (z_w ((z_w ((z_and (z_w (s0 - (z_and (z_ushr s0 1) 1431655765))) 858993459) + (z_and (z_ushr (z_w (s0 - (z_and (z_ushr s0 1) 1431655765))) 2) 858993459))) + (z_ushr (z_w ((z_and (z_w (s0 - (z_and (z_ushr s0 1) 1431655765))) 858993459) + (z_and (z_ushr (z_w (s0 - (z_and (z_ushr s0 1) 1431655765))) 2) 858993459))) 4))) 252645135) + (z_ushr (z_and (z_w ((z_w ((z_and (z_w (s0 - (z_and (z_ushr s0 1) 1431655765))) 858993459) + (z_and (z_ushr (z_w (s0 - (z_and (z_ushr s0 1) 1431655765))) 2) 858993459))) + (z_ushr (z_w ((z_and (z_w (s0 - (z_and (z_ushr s0 1) 1431655765))) 858993459) + (z_and (z_ushr (z_w (s0 - (z_and (z_ushr s0 1) 1431655765))) 2) 858993459))) 4))) 252645135) 8))) 16))) 63))) z_LL M) :
    wp xs (d + 1) mX0_singleAtLast 52 [(2, 38), (2, x1), (0, x2), (0, x3)] [(0, s0)] z_LL M P := by
  refine wp_callv (pc' := 55) (as := [(0, s0)]) (rest := []) (ls1 := [(0, s0)]) rfl rfl rfl rfl rfl rfl ?_
  refine wp_run 41 (pc' := 52) (ls' := [(0, (z_w ((z_w ((z_and (z_w ((z_w ((z_and (z_w (s0 - (z_and (z_ushr s0 1) 1431655765))) 858993459) + (z_and (z_ushr (z_w (s0 - (z_and (z_ushr s0 1) 1431655765))) 2) 858993459))) + (z_ushr (z_w ((z_and (z_w (s0 - (z_and (z_ushr s0 1) 1431655765))) 858993459) + (z_and (z_ushr (z_w (s0 - (z_and (z_ushr s0 1) 1431655765))) 2) 858993459))) 4))) 252645135) + (z_ushr (z_and (z_w ((z_w ((z_and (z_w (s0 - (z_and (z_ushr s0 1) 1431655765))) 858993459) + (z_and (z_ushr (z_w (s0 - (z_and (z_ushr s0 1) 1431655765))) 2) 858993459))) + (z_ushr (z_w ((z_and (z_w (s0 - (z_and (z_ushr s0 1) 1431655765))) 858993459) + (z_and (z_ushr (z_w (s0 - (z_and (z_ushr s0 1) 1431655765))) 2) 858993459))) 4))) 252645135) 8))) + (z_ushr (z_w ((z_and (z_w ((z_w ((z_and (z_w (s0 - (z_and (z_ushr s0 1) 1431655765))) 858993459) + (z_and (z_ushr (z_w (s0 - (z_and (z_ushr s0 1) 1431655765))) 2) 858993459))) + (z_ushr (z_w ((z_and (z_w (s0 - (z_and (z_ushr s0 1) 1431655765))) 858993459) + (z_and (z_ushr (z_w (s0 - (z_and (z_ushr s0 1) 1431655765))) 2) 858993459))) 4))) 252645135) + (z_ushr (z_and (z_w ((z_w ((z_and (z_w (s0 - (z_and (z_ushr s0 1) 1431655765))) 858993459) + (z_and (z_ushr (z_w (s0 - (z_and (z_ushr s0 1) 1431655765))) 2) 858993459))) + (z_ushr (z_w ((z_and (z_w (s0 - (z_and (z_ushr s0 1) 1431655765))) 858993459) + (z_and (z_ushr (z_w (s0 - (z_and (z_ushr s0 1) 1431655765))) 2) 858993459))) 4))) 252645135) 8))) 16))))]) (st' := [(0, (z_and (z_w ((z_w ((z_and (z_w ((z_w ((z_and (z_w (s0 - (z_and (z_ushr s0 1) 1431655765))) 858993459) + (z_and (z_ushr (z_w (s0 - (z_and (z_ushr s0 1) 1431655765))) 2) 858993459))) + (z_ushr (z_w ((z_and (z_w (s0 - (z_and (z_ushr s0 1) 1431655765))) 858993459) + (z_and (z_ushr (z_w (s0 - (z_and (z_ushr s0 1) 1431655765))) 2) 858993459))) 4))) 252645135) + (z_ushr (z_and (z_w ((z_w ((z_and (z_w (s0 - (z_and (z_ushr s0 1) 1431655765))) 858993459) + (z_and (z_ushr (z_w (s0 - (z_and (z_ushr s0 1) 1431655765))) 2) 858993459))) + (z_ushr (z_w ((z_and (z_w (s0 - (z_and (z_ushr s0 1) 1431655765))) 858993459) + (z_and (z_ushr (z_w (s0 - (z_and (z_ushr s0 1) 1431655765))) 2) 858993459))) 4))) 252645135) 8))) + (z_ushr (z_w ((z_and (z_w ((z_w ((z_and (z_w (s0 - (z_and (z_ushr s0 1) 1431655765))) 858993459) + (z_and (z_ushr (z_w (s0 - (z_and (z_ushr s0 1) 1431655765))) 2) 858993459))) + (z_ushr (z_w ((z_and (z_w (s0 - (z_and (z_ushr s0 1) 1431655765))) 858993459) + (z_and (z_ushr (z_w (s0 - (z_and (z_ushr s0 1) 1431655765))) 2) 858993459))) 4))) 252645135) + (z_ushr (z_and (z_w ((z_w ((z_and (z_w (s0 - (z_and (z_ushr s0 1) 1431655765))) 858993459) + (z_and (z_ushr (z_w (s0 - (z_and (z_ushr s0 1) 1431655765))) 2) 858993459))) + (z_ushr (z_w ((z_and (z_w (s0 - (z_and (z_ushr s0 1) 1431655765))) 858993459) + (z_and (z_ushr (z_w (s0 - (z_and (z_ushr s0 1) 1431655765))) 2) 858993459))) 4))) 252645135) 8))) 16))) 63))]) rfl ?_
  refine wp_ret rfl rfl ?_
  show wp xs _ mX0_singleAtLast 55 [(2, 38), (2, x1), (0, x2), (0, x3)] [(0, (z_and (z_w ((z_w ((z_and (z_w ((z_w ((z_and (z_w (s0 - (z_and (z_ushr s0 1) 1431655765))) 858993459) + (z_and (z_ushr (z_w (s0 - (z_and (z_ushr s0 1) 1431655765))) 2) 858993459))) + (z_ushr (z_w ((z_and (z_w (s0 - (z_and (z_ushr s0 1) 1431655765))) 858993459) + (z_and (z_ushr (z_w (s0 - (z_and (z_ushr s0 1) 1431655765))) 2) 858993459))) 4))) 252645135) + (z_ushr (z_and (z_w ((z_w ((z_and (z_w (s0 - (z_and (z_ushr s0 1) 1431655765))) 858993459) + (z_and (z_ushr (z_w (s0 - (z_and (z_ushr s0 1) 1431655765))) 2) 858993459))) + (z_ushr (z_w ((z_and (z_w (s0 - (z_and (z_ushr s0 1) 1431655765))) 858993459) + (z_and (z_ushr (z_w (s0 - (z_and (z_ushr s0 1) 1431655765))) 2) 858993459))) 4))) 252645135) 8))) + (z_ushr (z_w ((z_and (z_w ((z_w ((z_and (z_w (s0 - (z_and (z_ushr s0 1) 1431655765))) 858993459) + (z_and (z_ushr (z_w (s0 - (z_and (z_ushr s0 1) 1431655765))) 2) 858993459))) + (z_ushr (z_w ((z_and (z_w (s0 - (z_and (z_ushr s0 1) 1431655765))) 858993459) + (z_and (z_ushr (z_w (s0 - (z_and (z_ushr s0 1) 1431655765))) 2) 858993459))) 4))) 252645135) + (z_ushr (z_and (z_w ((z_w ((z_and (z_w (s0 - (z_and (z_ushr s0 1) 1431655765))) 858993459) + (z_and (z_ushr (z_w (s0 - (z_and (z_ushr s0 1) 1431655765))) 2) 858993459))) + (z_ushr (z_w ((z_and (z_w (s0 - (z_and (z_ushr s0 1) 1431655765))) 858993459) + (z_and (z_ushr (z_w (s0 - (z_and (z_ushr s0 1) 1431655765))) 2) 858993459))) 4))) 252645135) 8))) 16))) 63))] z_LL M _
  exact wp_ret rfl rfl (l1)
set_option maxRecDepth 20000 in
theorem gX1_addFlock_0 {xs : List Int} {d : Nat} {M : z_M} {P : Option z_V → z_L → z_M → Prop} {g : Int} {a1 : Int} {a2 : Int} {a3 : Int} {a4 : Int} (hg : z_gor M g)
    (l1 : (6 ≤ (M g 12)) → P none z_LL M)
    (b1 : (¬ (6 ≤ (M g 12))) → 0 ≤ (M g 12) ∧ (M g 12) < 6)
    (b2 : (¬ (6 ≤ (M g 12))) → 0 ≤ (M g 12) ∧ (M g 12) < 6)
    (b3 : (¬ (6 ≤ (M g 12))) → 0 ≤ (M g 12) ∧ (M g 12) < 6)
    (b4 : (¬ (6 ≤ (M g 12))) → 0 ≤ (M g 12) ∧ (M g 12) < 6)
    (l2 : (¬ (6 ≤ (M g 12))) → P none z_LL (z_up (z_up (z_up (z_up (z_up M (g + 1) (M g 12) a1) (g + 2) (M g 12) a2) (g + 4) (M g 12) a3) (g + 3) (M g 12) a4) g 12 (z_w ((M g 12) + 1)))) :
    wp xs d mX1_addFlock 0 [(2, g), (1, a1), (3, 0), (0, a2), (0, a3), (0, a4)] [] z_LL M P := by
  refine wp_run 1 (pc' := 1) (ls' := [(2, g), (1, a1), (3, 0), (0, a2), (0, a3), (0, a4)]) (st' := [(2, g)]) rfl ?_
  refine wp_gf (pc' := 4) (t := 0) (v := (M g 12)) rfl rfl (by decide) rfl (z_gl0 hg) rfl ?_
  refine wp_run 1 (pc' := 6) (ls' := [(2, g), (1, a1), (3, 0), (0, a2), (0, a3), (0, a4)]) (st' := [(0, 6), (0, (M g 12))]) rfl ?_
  refine wp_if2 rfl rfl rfl (fun (c1 : 6 ≤ (M g 12)) => ?_) (fun (c1 : ¬ (6 ≤ (M g 12))) => ?_)
  · exact wp_ret rfl rfl (l1 c1)
  · refine wp_run 1 (pc' := 10) (ls' := [(2, g), (1, a1), (3, 0), (0, a2), (0, a3), (0, a4)]) (st' := [(2, g)]) rfl ?_
    refine wp_gf (pc' := 13) (t := 2) (v := (g + 1)) rfl rfl (by decide) rfl (z_gl0 hg) (z_gf0 hg) ?_
    refine wp_run 1 (pc' := 14) (ls' := [(2, g), (1, a1), (3, 0), (0, a2), (0, a3), (0, a4)]) (st' := [(2, g), (2, (g + 1))]) rfl ?_
    refine wp_gf (pc' := 17) (t := 0) (v := (M g 12)) rfl rfl (by decide) rfl (z_gl0 hg) rfl ?_
    refine wp_run 1 (pc' := 18) (ls' := [(2, g), (1, a1), (3, 0), (0, a2), (0, a3), (0, a4)]) (st' := [(1, a1), (0, (M g 12)), (2, (g + 1))]) rfl ?_
    refine wp_last (pc' := 19) rfl rfl (z_gl1 hg) (b1 c1) ?_
    refine wp_run 1 (pc' := 20) (ls' := [(2, g), (1, a1), (3, 0), (0, a2), (0, a3), (0, a4)]) (st' := [(2, g)]) rfl ?_
    refine wp_gf (pc' := 23) (t := 2) (v := (g + 2)) rfl rfl (by decide) rfl (z_gl0 hg) (z_upq (by have := z_gr hg; have := z_gr hg; omega) (z_gf1 hg)) ?_
    refine wp_run 1 (pc' := 24) (ls' := [(2, g), (1, a1), (3, 0), (0, a2), (0, a3), (0, a4)]) (st' := [(2, g), (2, (g + 2))]) rfl ?_
    refine wp_gf (pc' := 27) (t := 0) (v := (M g 12)) rfl rfl (by decide) rfl (z_gl0 hg) (z_upq (by have := z_gr hg; have := z_gr hg; omega) rfl) ?_
    refine wp_run 1 (pc' := 28) (ls' := [(2, g), (1, a1), (3, 0), (0, a2), (0, a3), (0, a4)]) (st' := [(0, a2), (0, (M g 12)), (2, (g + 2))]) rfl ?_
    refine wp_iast (pc' := 29) rfl rfl (z_gl2 hg) (b2 c1) ?_
    refine wp_run 1 (pc' := 30) (ls' := [(2, g), (1, a1), (3, 0), (0, a2), (0, a3), (0, a4)]) (st' := [(2, g)]) rfl ?_
    refine wp_gf (pc' := 33) (t := 2) (v := (g + 4)) rfl rfl (by decide) rfl (z_gl0 hg) (z_upq (by have := z_gr hg; have := z_gr hg; omega) (z_upq (by have := z_gr hg; have := z_gr hg; omega) (z_gf3 hg))) ?_
    refine wp_run 1 (pc' := 34) (ls' := [(2, g), (1, a1), (3, 0), (0, a2), (0, a3), (0, a4)]) (st' := [(2, g), (2, (g + 4))]) rfl ?_
    refine wp_gf (pc' := 37) (t := 0) (v := (M g 12)) rfl rfl (by decide) rfl (z_gl0 hg) (z_upq (by have := z_gr hg; have := z_gr hg; omega) (z_upq (by have := z_gr hg; have := z_gr hg; omega) rfl)) ?_
    refine wp_run 1 (pc' := 39) (ls' := [(2, g), (1, a1), (3, 0), (0, a2), (0, a3), (0, a4)]) (st' := [(0, a3), (0, (M g 12)), (2, (g + 4))]) rfl ?_
    refine wp_iast (pc' := 40) rfl rfl (z_gl4 hg) (b3 c1) ?_
    refine wp_run 1 (pc' := 41) (ls' := [(2, g), (1, a1), (3, 0), (0, a2), (0, a3), (0, a4)]) (st' := [(2, g)]) rfl ?_
    refine wp_gf (pc' := 44) (t := 2) (v := (g + 3)) rfl rfl (by decide) rfl (z_gl0 hg) (z_upq (by have := z_gr hg; have := z_gr hg; omega) (z_upq (by have := z_gr hg; have := z_gr hg; omega) (z_upq (by have := z_gr hg; have := z_gr hg; omega) (z_gf2 hg)))) ?_
    refine wp_run 1 (pc' := 45) (ls' := [(2, g), (1, a1), (3, 0), (0, a2), (0, a3), (0, a4)]) (st' := [(2, g), (2, (g + 3))]) rfl ?_
    refine wp_gf (pc' := 48) (t := 0) (v := (M g 12)) rfl rfl (by decide) rfl (z_gl0 hg) (z_upq (by have := z_gr hg; have := z_gr hg; omega) (z_upq (by have := z_gr hg; have := z_gr hg; omega) (z_upq (by have := z_gr hg; have := z_gr hg; omega) rfl))) ?_
    refine wp_run 1 (pc' := 50) (ls' := [(2, g), (1, a1), (3, 0), (0, a2), (0, a3), (0, a4)]) (st' := [(0, a4), (0, (M g 12)), (2, (g + 3))]) rfl ?_
    refine wp_iast (pc' := 51) rfl rfl (z_gl3 hg) (b4 c1) ?_
    refine wp_run 2 (pc' := 53) (ls' := [(2, g), (1, a1), (3, 0), (0, a2), (0, a3), (0, a4)]) (st' := [(2, g), (2, g)]) rfl ?_
    refine wp_gf (pc' := 56) (t := 0) (v := (M g 12)) rfl rfl (by decide) rfl (z_gl0 hg) (z_upq (by have := z_gr hg; have := z_gr hg; omega) (z_upq (by have := z_gr hg; have := z_gr hg; omega) (z_upq (by have := z_gr hg; have := z_gr hg; omega) (z_upq (by have := z_gr hg; have := z_gr hg; omega) rfl)))) ?_
    refine wp_run 2 (pc' := 58) (ls' := [(2, g), (1, a1), (3, 0), (0, a2), (0, a3), (0, a4)]) (st' := [(0, (z_w ((M g 12) + 1))), (2, g)]) rfl ?_
    refine wp_pf (pc' := 61) rfl rfl rfl (z_gl0 hg) (fun z => absurd z (by decide)) (fun z => absurd z (by decide)) ?_
    exact wp_ret rfl rfl (l2 c1)
set_option maxRecDepth 20000 in
theorem gX1_addStep_0 {xs : List Int} {d : Nat} {M : z_M} {P : Option z_V → z_L → z_M → Prop} {g : Int} {a1 : Int} (hg : z_gor M g)
    (l1 : (270 ≤ (M g 15)) → P none z_LL M)
    (b1 : (¬ (270 ≤ (M g 15))) → 0 ≤ (M g 15) ∧ (M g 15) < 270)
    (l2 : (¬ (270 ≤ (M g 15))) → P none z_LL (z_up (z_up M (g + 8) (M g 15) a1) g 15 (z_w ((M g 15) + 1)))) :
    wp xs d mX1_addStep 0 [(2, g), (0, a1)] [] z_LL M P := by
  refine wp_run 1 (pc' := 1) (ls' := [(2, g), (0, a1)]) (st' := [(2, g)]) rfl ?_
  refine wp_gf (pc' := 4) (t := 0) (v := (M g 15)) rfl rfl (by decide) rfl (z_gl0 hg) rfl ?_
  refine wp_run 1 (pc' := 5) (ls' := [(2, g), (0, a1)]) (st' := [(2, g), (0, (M g 15))]) rfl ?_
  refine wp_gf (pc' := 8) (t := 2) (v := (g + 8)) rfl rfl (by decide) rfl (z_gl0 hg) (z_gf7 hg) ?_
  refine wp_len (pc' := 9) rfl rfl (z_gl8 hg) (by decide) ?_
  refine wp_if2 rfl rfl rfl (fun (c1 : 270 ≤ (M g 15)) => ?_) (fun (c1 : ¬ (270 ≤ (M g 15))) => ?_)
  · exact wp_ret rfl rfl (l1 c1)
  · refine wp_run 1 (pc' := 13) (ls' := [(2, g), (0, a1)]) (st' := [(2, g)]) rfl ?_
    refine wp_gf (pc' := 16) (t := 2) (v := (g + 8)) rfl rfl (by decide) rfl (z_gl0 hg) (z_gf7 hg) ?_
    refine wp_run 1 (pc' := 17) (ls' := [(2, g), (0, a1)]) (st' := [(2, g), (2, (g + 8))]) rfl ?_
    refine wp_gf (pc' := 20) (t := 0) (v := (M g 15)) rfl rfl (by decide) rfl (z_gl0 hg) rfl ?_
    refine wp_run 1 (pc' := 21) (ls' := [(2, g), (0, a1)]) (st' := [(0, a1), (0, (M g 15)), (2, (g + 8))]) rfl ?_
    refine wp_iast (pc' := 22) rfl rfl (z_gl8 hg) (b1 c1) ?_
    refine wp_run 2 (pc' := 24) (ls' := [(2, g), (0, a1)]) (st' := [(2, g), (2, g)]) rfl ?_
    refine wp_gf (pc' := 27) (t := 0) (v := (M g 15)) rfl rfl (by decide) rfl (z_gl0 hg) (z_upq (by have := z_gr hg; have := z_gr hg; omega) rfl) ?_
    refine wp_run 2 (pc' := 29) (ls' := [(2, g), (0, a1)]) (st' := [(0, (z_w ((M g 15) + 1))), (2, g)]) rfl ?_
    refine wp_pf (pc' := 32) rfl rfl rfl (z_gl0 hg) (fun z => absurd z (by decide)) (fun z => absurd z (by decide)) ?_
    exact wp_ret rfl rfl (l2 c1)
set_option maxRecDepth 20000 in
theorem gX1_apart_0 {xs : List Int} {d : Nat} {M : z_M} {P : Option z_V → z_L → z_M → Prop} {g : Int} {a1 : Int} {a2 : Int} (hg : z_gor M g)
    (b1 : ((M g 10) ≠ 0) → ¬ (M g 10) = 0)
    (b2 : ((M g 10) ≠ 0) → ((M g 10) ≠ 0) → ¬ (M g 10) = 0)
    (b3 : ((M g 10) ≠ 0) → ((M g 10) ≠ 0) → ((M g 10) ≠ 0) → ¬ (M g 10) = 0)
    (b4 : ((M g 10) ≠ 0) → ((M g 10) ≠ 0) → ((M g 10) ≠ 0) → ((M g 10) ≠ 0) → ¬ (M g 10) = 0)
    (l1 : ((M g 10) ≠ 0) → ((M g 10) ≠ 0) → ((M g 10) ≠ 0) → ((M g 10) ≠ 0) → P (some (0, (z_w ((z_abs (z_w ((z_div a1 (M g 10)) - (z_div a2 (M g 10))))) + (z_abs (z_w ((z_rem a1 (M g 10)) - (z_rem a2 (M g 10))))))))) z_LL M)
    (l2 : ((M g 10) ≠ 0) → ((M g 10) ≠ 0) → ((M g 10) ≠ 0) → (¬ ((M g 10) ≠ 0)) → P (some (0, (z_w ((z_abs (z_w ((z_div a1 (M g 10)) - (z_div a2 (M g 10))))) + (z_abs (z_w ((z_rem a1 (M g 10)) - 0))))))) z_LL M)
    (b5 : ((M g 10) ≠ 0) → ((M g 10) ≠ 0) → (¬ ((M g 10) ≠ 0)) → ((M g 10) ≠ 0) → ¬ (M g 10) = 0)
    (l3 : ((M g 10) ≠ 0) → ((M g 10) ≠ 0) → (¬ ((M g 10) ≠ 0)) → ((M g 10) ≠ 0) → P (some (0, (z_w ((z_abs (z_w ((z_div a1 (M g 10)) - (z_div a2 (M g 10))))) + (z_abs (z_w (0 - (z_rem a2 (M g 10))))))))) z_LL M)
    (l4 : ((M g 10) ≠ 0) → ((M g 10) ≠ 0) → (¬ ((M g 10) ≠ 0)) → (¬ ((M g 10) ≠ 0)) → P (some (0, (z_w ((z_abs (z_w ((z_div a1 (M g 10)) - (z_div a2 (M g 10))))) + (z_abs 0))))) z_LL M)
    (b6 : ((M g 10) ≠ 0) → (¬ ((M g 10) ≠ 0)) → ((M g 10) ≠ 0) → ¬ (M g 10) = 0)
    (b7 : ((M g 10) ≠ 0) → (¬ ((M g 10) ≠ 0)) → ((M g 10) ≠ 0) → ((M g 10) ≠ 0) → ¬ (M g 10) = 0)
    (l5 : ((M g 10) ≠ 0) → (¬ ((M g 10) ≠ 0)) → ((M g 10) ≠ 0) → ((M g 10) ≠ 0) → P (some (0, (z_w ((z_abs (z_w ((z_div a1 (M g 10)) - 0))) + (z_abs (z_w ((z_rem a1 (M g 10)) - (z_rem a2 (M g 10))))))))) z_LL M)
    (l6 : ((M g 10) ≠ 0) → (¬ ((M g 10) ≠ 0)) → ((M g 10) ≠ 0) → (¬ ((M g 10) ≠ 0)) → P (some (0, (z_w ((z_abs (z_w ((z_div a1 (M g 10)) - 0))) + (z_abs (z_w ((z_rem a1 (M g 10)) - 0))))))) z_LL M)
    (b8 : ((M g 10) ≠ 0) → (¬ ((M g 10) ≠ 0)) → (¬ ((M g 10) ≠ 0)) → ((M g 10) ≠ 0) → ¬ (M g 10) = 0)
    (l7 : ((M g 10) ≠ 0) → (¬ ((M g 10) ≠ 0)) → (¬ ((M g 10) ≠ 0)) → ((M g 10) ≠ 0) → P (some (0, (z_w ((z_abs (z_w ((z_div a1 (M g 10)) - 0))) + (z_abs (z_w (0 - (z_rem a2 (M g 10))))))))) z_LL M)
    (l8 : ((M g 10) ≠ 0) → (¬ ((M g 10) ≠ 0)) → (¬ ((M g 10) ≠ 0)) → (¬ ((M g 10) ≠ 0)) → P (some (0, (z_w ((z_abs (z_w ((z_div a1 (M g 10)) - 0))) + (z_abs 0))))) z_LL M)
    (b9 : (¬ ((M g 10) ≠ 0)) → ((M g 10) ≠ 0) → ¬ (M g 10) = 0)
    (b10 : (¬ ((M g 10) ≠ 0)) → ((M g 10) ≠ 0) → ((M g 10) ≠ 0) → ¬ (M g 10) = 0)
    (b11 : (¬ ((M g 10) ≠ 0)) → ((M g 10) ≠ 0) → ((M g 10) ≠ 0) → ((M g 10) ≠ 0) → ¬ (M g 10) = 0)
    (l9 : (¬ ((M g 10) ≠ 0)) → ((M g 10) ≠ 0) → ((M g 10) ≠ 0) → ((M g 10) ≠ 0) → P (some (0, (z_w ((z_abs (z_w (0 - (z_div a2 (M g 10))))) + (z_abs (z_w ((z_rem a1 (M g 10)) - (z_rem a2 (M g 10))))))))) z_LL M)
    (l10 : (¬ ((M g 10) ≠ 0)) → ((M g 10) ≠ 0) → ((M g 10) ≠ 0) → (¬ ((M g 10) ≠ 0)) → P (some (0, (z_w ((z_abs (z_w (0 - (z_div a2 (M g 10))))) + (z_abs (z_w ((z_rem a1 (M g 10)) - 0))))))) z_LL M)
    (b12 : (¬ ((M g 10) ≠ 0)) → ((M g 10) ≠ 0) → (¬ ((M g 10) ≠ 0)) → ((M g 10) ≠ 0) → ¬ (M g 10) = 0)
    (l11 : (¬ ((M g 10) ≠ 0)) → ((M g 10) ≠ 0) → (¬ ((M g 10) ≠ 0)) → ((M g 10) ≠ 0) → P (some (0, (z_w ((z_abs (z_w (0 - (z_div a2 (M g 10))))) + (z_abs (z_w (0 - (z_rem a2 (M g 10))))))))) z_LL M)
    (l12 : (¬ ((M g 10) ≠ 0)) → ((M g 10) ≠ 0) → (¬ ((M g 10) ≠ 0)) → (¬ ((M g 10) ≠ 0)) → P (some (0, (z_w ((z_abs (z_w (0 - (z_div a2 (M g 10))))) + (z_abs 0))))) z_LL M)
    (b13 : (¬ ((M g 10) ≠ 0)) → (¬ ((M g 10) ≠ 0)) → ((M g 10) ≠ 0) → ¬ (M g 10) = 0)
    (b14 : (¬ ((M g 10) ≠ 0)) → (¬ ((M g 10) ≠ 0)) → ((M g 10) ≠ 0) → ((M g 10) ≠ 0) → ¬ (M g 10) = 0)
    (l13 : (¬ ((M g 10) ≠ 0)) → (¬ ((M g 10) ≠ 0)) → ((M g 10) ≠ 0) → ((M g 10) ≠ 0) → P (some (0, (z_w ((z_abs 0) + (z_abs (z_w ((z_rem a1 (M g 10)) - (z_rem a2 (M g 10))))))))) z_LL M)
    (l14 : (¬ ((M g 10) ≠ 0)) → (¬ ((M g 10) ≠ 0)) → ((M g 10) ≠ 0) → (¬ ((M g 10) ≠ 0)) → P (some (0, (z_w ((z_abs 0) + (z_abs (z_w ((z_rem a1 (M g 10)) - 0))))))) z_LL M)
    (b15 : (¬ ((M g 10) ≠ 0)) → (¬ ((M g 10) ≠ 0)) → (¬ ((M g 10) ≠ 0)) → ((M g 10) ≠ 0) → ¬ (M g 10) = 0)
    (l15 : (¬ ((M g 10) ≠ 0)) → (¬ ((M g 10) ≠ 0)) → (¬ ((M g 10) ≠ 0)) → ((M g 10) ≠ 0) → P (some (0, (z_w ((z_abs 0) + (z_abs (z_w (0 - (z_rem a2 (M g 10))))))))) z_LL M)
    (l16 : (¬ ((M g 10) ≠ 0)) → (¬ ((M g 10) ≠ 0)) → (¬ ((M g 10) ≠ 0)) → (¬ ((M g 10) ≠ 0)) → P (some (0, (z_w ((z_abs 0) + (z_abs 0))))) z_LL M) :
    wp xs (d + 1) mX1_apart 0 [(2, g), (0, a1), (0, a2)] [] z_LL M P := by
  refine wp_run 2 (pc' := 2) (ls' := [(2, g), (0, a1), (0, a2)]) (st' := [(0, a1), (2, g)]) rfl ?_
  refine wp_callv (pc' := 5) (as := [(2, g), (0, a1)]) (rest := []) (ls1 := [(2, g), (0, a1)]) rfl rfl rfl rfl (z_args_v rfl rfl rfl rfl (Nat.le_of_ble_eq_true rfl) rfl (by decide) (z_gl0 hg)) rfl ?_
  refine wp_run 1 (pc' := 1) (ls' := [(2, g), (0, a1)]) (st' := [(2, g)]) rfl ?_
  refine wp_gf (pc' := 4) (t := 0) (v := (M g 10)) rfl rfl (by decide) rfl (z_gl0 hg) rfl ?_
  refine wp_if1 rfl rfl rfl (fun (c1 : (M g 10) ≠ 0) => ?_) (fun (c1 : ¬ ((M g 10) ≠ 0)) => ?_)
  · refine wp_run 2 (pc' := 13) (ls' := [(2, g), (0, a1)]) (st' := [(2, g), (0, a1)]) rfl ?_
    refine wp_gf (pc' := 16) (t := 0) (v := (M g 10)) rfl rfl (by decide) rfl (z_gl0 hg) rfl ?_
    refine wp_div rfl rfl (b1 c1) ?_
    refine wp_ret rfl rfl ?_
    show wp xs _ mX1_apart 5 [(2, g), (0, a1), (0, a2)] [(0, (z_div a1 (M g 10)))] z_LL M _
    refine wp_run 2 (pc' := 7) (ls' := [(2, g), (0, a1), (0, a2)]) (st' := [(0, a2), (2, g), (0, (z_div a1 (M g 10)))]) rfl ?_
    refine wp_callv (pc' := 10) (as := [(2, g), (0, a2)]) (rest := [(0, (z_div a1 (M g 10)))]) (ls1 := [(2, g), (0, a2)]) rfl rfl rfl rfl (z_args_v rfl rfl rfl rfl (Nat.le_of_ble_eq_true rfl) rfl (by decide) (z_gl0 hg)) rfl ?_
    refine wp_run 1 (pc' := 1) (ls' := [(2, g), (0, a2)]) (st' := [(2, g)]) rfl ?_
    refine wp_gf (pc' := 4) (t := 0) (v := (M g 10)) rfl rfl (by decide) rfl (z_gl0 hg) rfl ?_
    refine wp_if1 rfl rfl rfl (fun (c2 : (M g 10) ≠ 0) => ?_) (fun (c2 : ¬ ((M g 10) ≠ 0)) => ?_)
    · refine wp_run 2 (pc' := 13) (ls' := [(2, g), (0, a2)]) (st' := [(2, g), (0, a2)]) rfl ?_
      refine wp_gf (pc' := 16) (t := 0) (v := (M g 10)) rfl rfl (by decide) rfl (z_gl0 hg) rfl ?_
      refine wp_div rfl rfl (b2 c1 c2) ?_
      refine wp_ret rfl rfl ?_
      show wp xs _ mX1_apart 10 [(2, g), (0, a1), (0, a2)] [(0, (z_div a2 (M g 10))), (0, (z_div a1 (M g 10)))] z_LL M _
      refine wp_run 1 (pc' := 11) (ls' := [(2, g), (0, a1), (0, a2)]) (st' := [(0, (z_w ((z_div a1 (M g 10)) - (z_div a2 (M g 10)))))]) rfl ?_
      refine wp_abs (pc' := 14) rfl rfl (Nat.le_of_ble_eq_true rfl) ?_
      refine wp_run 2 (pc' := 16) (ls' := [(2, g), (0, a1), (0, a2)]) (st' := [(0, a1), (2, g), (0, (z_abs (z_w ((z_div a1 (M g 10)) - (z_div a2 (M g 10))))))]) rfl ?_
      refine wp_callv (pc' := 19) (as := [(2, g), (0, a1)]) (rest := [(0, (z_abs (z_w ((z_div a1 (M g 10)) - (z_div a2 (M g 10))))))]) (ls1 := [(2, g), (0, a1)]) rfl rfl rfl rfl (z_args_v rfl rfl rfl rfl (Nat.le_of_ble_eq_true rfl) rfl (by decide) (z_gl0 hg)) rfl ?_
      refine wp_run 1 (pc' := 1) (ls' := [(2, g), (0, a1)]) (st' := [(2, g)]) rfl ?_
      refine wp_gf (pc' := 4) (t := 0) (v := (M g 10)) rfl rfl (by decide) rfl (z_gl0 hg) rfl ?_
      refine wp_if1 rfl rfl rfl (fun (c3 : (M g 10) ≠ 0) => ?_) (fun (c3 : ¬ ((M g 10) ≠ 0)) => ?_)
      · refine wp_run 2 (pc' := 13) (ls' := [(2, g), (0, a1)]) (st' := [(2, g), (0, a1)]) rfl ?_
        refine wp_gf (pc' := 16) (t := 0) (v := (M g 10)) rfl rfl (by decide) rfl (z_gl0 hg) rfl ?_
        refine wp_rem rfl rfl (b3 c1 c2 c3) ?_
        refine wp_ret rfl rfl ?_
        show wp xs _ mX1_apart 19 [(2, g), (0, a1), (0, a2)] [(0, (z_rem a1 (M g 10))), (0, (z_abs (z_w ((z_div a1 (M g 10)) - (z_div a2 (M g 10))))))] z_LL M _
        refine wp_run 2 (pc' := 21) (ls' := [(2, g), (0, a1), (0, a2)]) (st' := [(0, a2), (2, g), (0, (z_rem a1 (M g 10))), (0, (z_abs (z_w ((z_div a1 (M g 10)) - (z_div a2 (M g 10))))))]) rfl ?_
        refine wp_callv (pc' := 24) (as := [(2, g), (0, a2)]) (rest := [(0, (z_rem a1 (M g 10))), (0, (z_abs (z_w ((z_div a1 (M g 10)) - (z_div a2 (M g 10))))))]) (ls1 := [(2, g), (0, a2)]) rfl rfl rfl rfl (z_args_v rfl rfl rfl rfl (Nat.le_of_ble_eq_true rfl) rfl (by decide) (z_gl0 hg)) rfl ?_
        refine wp_run 1 (pc' := 1) (ls' := [(2, g), (0, a2)]) (st' := [(2, g)]) rfl ?_
        refine wp_gf (pc' := 4) (t := 0) (v := (M g 10)) rfl rfl (by decide) rfl (z_gl0 hg) rfl ?_
        refine wp_if1 rfl rfl rfl (fun (c4 : (M g 10) ≠ 0) => ?_) (fun (c4 : ¬ ((M g 10) ≠ 0)) => ?_)
        · refine wp_run 2 (pc' := 13) (ls' := [(2, g), (0, a2)]) (st' := [(2, g), (0, a2)]) rfl ?_
          refine wp_gf (pc' := 16) (t := 0) (v := (M g 10)) rfl rfl (by decide) rfl (z_gl0 hg) rfl ?_
          refine wp_rem rfl rfl (b4 c1 c2 c3 c4) ?_
          refine wp_ret rfl rfl ?_
          show wp xs _ mX1_apart 24 [(2, g), (0, a1), (0, a2)] [(0, (z_rem a2 (M g 10))), (0, (z_rem a1 (M g 10))), (0, (z_abs (z_w ((z_div a1 (M g 10)) - (z_div a2 (M g 10))))))] z_LL M _
          refine wp_run 1 (pc' := 25) (ls' := [(2, g), (0, a1), (0, a2)]) (st' := [(0, (z_w ((z_rem a1 (M g 10)) - (z_rem a2 (M g 10))))), (0, (z_abs (z_w ((z_div a1 (M g 10)) - (z_div a2 (M g 10))))))]) rfl ?_
          refine wp_abs (pc' := 28) rfl rfl (Nat.le_of_ble_eq_true rfl) ?_
          refine wp_run 1 (pc' := 29) (ls' := [(2, g), (0, a1), (0, a2)]) (st' := [(0, (z_w ((z_abs (z_w ((z_div a1 (M g 10)) - (z_div a2 (M g 10))))) + (z_abs (z_w ((z_rem a1 (M g 10)) - (z_rem a2 (M g 10))))))))]) rfl ?_
          exact wp_ret rfl rfl (l1 c1 c2 c3 c4)
        · refine wp_run 2 (pc' := 17) (ls' := [(2, g), (0, a2)]) (st' := [(0, 0)]) rfl ?_
          refine wp_ret rfl rfl ?_
          show wp xs _ mX1_apart 24 [(2, g), (0, a1), (0, a2)] [(0, 0), (0, (z_rem a1 (M g 10))), (0, (z_abs (z_w ((z_div a1 (M g 10)) - (z_div a2 (M g 10))))))] z_LL M _
          refine wp_run 1 (pc' := 25) (ls' := [(2, g), (0, a1), (0, a2)]) (st' := [(0, (z_w ((z_rem a1 (M g 10)) - 0))), (0, (z_abs (z_w ((z_div a1 (M g 10)) - (z_div a2 (M g 10))))))]) rfl ?_
          refine wp_abs (pc' := 28) rfl rfl (Nat.le_of_ble_eq_true rfl) ?_
          refine wp_run 1 (pc' := 29) (ls' := [(2, g), (0, a1), (0, a2)]) (st' := [(0, (z_w ((z_abs (z_w ((z_div a1 (M g 10)) - (z_div a2 (M g 10))))) + (z_abs (z_w ((z_rem a1 (M g 10)) - 0))))))]) rfl ?_
          exact wp_ret rfl rfl (l2 c1 c2 c3 c4)
      · refine wp_run 2 (pc' := 17) (ls' := [(2, g), (0, a1)]) (st' := [(0, 0)]) rfl ?_
        refine wp_ret rfl rfl ?_
        show wp xs _ mX1_apart 19 [(2, g), (0, a1), (0, a2)] [(0, 0), (0, (z_abs (z_w ((z_div a1 (M g 10)) - (z_div a2 (M g 10))))))] z_LL M _
        refine wp_run 2 (pc' := 21) (ls' := [(2, g), (0, a1), (0, a2)]) (st' := [(0, a2), (2, g), (0, 0), (0, (z_abs (z_w ((z_div a1 (M g 10)) - (z_div a2 (M g 10))))))]) rfl ?_
        refine wp_callv (pc' := 24) (as := [(2, g), (0, a2)]) (rest := [(0, 0), (0, (z_abs (z_w ((z_div a1 (M g 10)) - (z_div a2 (M g 10))))))]) (ls1 := [(2, g), (0, a2)]) rfl rfl rfl rfl (z_args_v rfl rfl rfl rfl (Nat.le_of_ble_eq_true rfl) rfl (by decide) (z_gl0 hg)) rfl ?_
        refine wp_run 1 (pc' := 1) (ls' := [(2, g), (0, a2)]) (st' := [(2, g)]) rfl ?_
        refine wp_gf (pc' := 4) (t := 0) (v := (M g 10)) rfl rfl (by decide) rfl (z_gl0 hg) rfl ?_
        refine wp_if1 rfl rfl rfl (fun (c5 : (M g 10) ≠ 0) => ?_) (fun (c5 : ¬ ((M g 10) ≠ 0)) => ?_)
        · refine wp_run 2 (pc' := 13) (ls' := [(2, g), (0, a2)]) (st' := [(2, g), (0, a2)]) rfl ?_
          refine wp_gf (pc' := 16) (t := 0) (v := (M g 10)) rfl rfl (by decide) rfl (z_gl0 hg) rfl ?_
          refine wp_rem rfl rfl (b5 c1 c2 c3 c5) ?_
          refine wp_ret rfl rfl ?_
          show wp xs _ mX1_apart 24 [(2, g), (0, a1), (0, a2)] [(0, (z_rem a2 (M g 10))), (0, 0), (0, (z_abs (z_w ((z_div a1 (M g 10)) - (z_div a2 (M g 10))))))] z_LL M _
          refine wp_run 1 (pc' := 25) (ls' := [(2, g), (0, a1), (0, a2)]) (st' := [(0, (z_w (0 - (z_rem a2 (M g 10))))), (0, (z_abs (z_w ((z_div a1 (M g 10)) - (z_div a2 (M g 10))))))]) rfl ?_
          refine wp_abs (pc' := 28) rfl rfl (Nat.le_of_ble_eq_true rfl) ?_
          refine wp_run 1 (pc' := 29) (ls' := [(2, g), (0, a1), (0, a2)]) (st' := [(0, (z_w ((z_abs (z_w ((z_div a1 (M g 10)) - (z_div a2 (M g 10))))) + (z_abs (z_w (0 - (z_rem a2 (M g 10))))))))]) rfl ?_
          exact wp_ret rfl rfl (l3 c1 c2 c3 c5)
        · refine wp_run 2 (pc' := 17) (ls' := [(2, g), (0, a2)]) (st' := [(0, 0)]) rfl ?_
          refine wp_ret rfl rfl ?_
          show wp xs _ mX1_apart 24 [(2, g), (0, a1), (0, a2)] [(0, 0), (0, 0), (0, (z_abs (z_w ((z_div a1 (M g 10)) - (z_div a2 (M g 10))))))] z_LL M _
          refine wp_run 1 (pc' := 25) (ls' := [(2, g), (0, a1), (0, a2)]) (st' := [(0, 0), (0, (z_abs (z_w ((z_div a1 (M g 10)) - (z_div a2 (M g 10))))))]) rfl ?_
          refine wp_abs (pc' := 28) rfl rfl (Nat.le_of_ble_eq_true rfl) ?_
          refine wp_run 1 (pc' := 29) (ls' := [(2, g), (0, a1), (0, a2)]) (st' := [(0, (z_w ((z_abs (z_w ((z_div a1 (M g 10)) - (z_div a2 (M g 10))))) + (z_abs 0))))]) rfl ?_
          exact wp_ret rfl rfl (l4 c1 c2 c3 c5)
    · refine wp_run 2 (pc' := 17) (ls' := [(2, g), (0, a2)]) (st' := [(0, 0)]) rfl ?_
      refine wp_ret rfl rfl ?_
      show wp xs _ mX1_apart 10 [(2, g), (0, a1), (0, a2)] [(0, 0), (0, (z_div a1 (M g 10)))] z_LL M _
      refine wp_run 1 (pc' := 11) (ls' := [(2, g), (0, a1), (0, a2)]) (st' := [(0, (z_w ((z_div a1 (M g 10)) - 0)))]) rfl ?_
      refine wp_abs (pc' := 14) rfl rfl (Nat.le_of_ble_eq_true rfl) ?_
      refine wp_run 2 (pc' := 16) (ls' := [(2, g), (0, a1), (0, a2)]) (st' := [(0, a1), (2, g), (0, (z_abs (z_w ((z_div a1 (M g 10)) - 0))))]) rfl ?_
      refine wp_callv (pc' := 19) (as := [(2, g), (0, a1)]) (rest := [(0, (z_abs (z_w ((z_div a1 (M g 10)) - 0))))]) (ls1 := [(2, g), (0, a1)]) rfl rfl rfl rfl (z_args_v rfl rfl rfl rfl (Nat.le_of_ble_eq_true rfl) rfl (by decide) (z_gl0 hg)) rfl ?_
      refine wp_run 1 (pc' := 1) (ls' := [(2, g), (0, a1)]) (st' := [(2, g)]) rfl ?_
      refine wp_gf (pc' := 4) (t := 0) (v := (M g 10)) rfl rfl (by decide) rfl (z_gl0 hg) rfl ?_
      refine wp_if1 rfl rfl rfl (fun (c6 : (M g 10) ≠ 0) => ?_) (fun (c6 : ¬ ((M g 10) ≠ 0)) => ?_)
      · refine wp_run 2 (pc' := 13) (ls' := [(2, g), (0, a1)]) (st' := [(2, g), (0, a1)]) rfl ?_
        refine wp_gf (pc' := 16) (t := 0) (v := (M g 10)) rfl rfl (by decide) rfl (z_gl0 hg) rfl ?_
        refine wp_rem rfl rfl (b6 c1 c2 c6) ?_
        refine wp_ret rfl rfl ?_
        show wp xs _ mX1_apart 19 [(2, g), (0, a1), (0, a2)] [(0, (z_rem a1 (M g 10))), (0, (z_abs (z_w ((z_div a1 (M g 10)) - 0))))] z_LL M _
        refine wp_run 2 (pc' := 21) (ls' := [(2, g), (0, a1), (0, a2)]) (st' := [(0, a2), (2, g), (0, (z_rem a1 (M g 10))), (0, (z_abs (z_w ((z_div a1 (M g 10)) - 0))))]) rfl ?_
        refine wp_callv (pc' := 24) (as := [(2, g), (0, a2)]) (rest := [(0, (z_rem a1 (M g 10))), (0, (z_abs (z_w ((z_div a1 (M g 10)) - 0))))]) (ls1 := [(2, g), (0, a2)]) rfl rfl rfl rfl (z_args_v rfl rfl rfl rfl (Nat.le_of_ble_eq_true rfl) rfl (by decide) (z_gl0 hg)) rfl ?_
        refine wp_run 1 (pc' := 1) (ls' := [(2, g), (0, a2)]) (st' := [(2, g)]) rfl ?_
        refine wp_gf (pc' := 4) (t := 0) (v := (M g 10)) rfl rfl (by decide) rfl (z_gl0 hg) rfl ?_
        refine wp_if1 rfl rfl rfl (fun (c7 : (M g 10) ≠ 0) => ?_) (fun (c7 : ¬ ((M g 10) ≠ 0)) => ?_)
        · refine wp_run 2 (pc' := 13) (ls' := [(2, g), (0, a2)]) (st' := [(2, g), (0, a2)]) rfl ?_
          refine wp_gf (pc' := 16) (t := 0) (v := (M g 10)) rfl rfl (by decide) rfl (z_gl0 hg) rfl ?_
          refine wp_rem rfl rfl (b7 c1 c2 c6 c7) ?_
          refine wp_ret rfl rfl ?_
          show wp xs _ mX1_apart 24 [(2, g), (0, a1), (0, a2)] [(0, (z_rem a2 (M g 10))), (0, (z_rem a1 (M g 10))), (0, (z_abs (z_w ((z_div a1 (M g 10)) - 0))))] z_LL M _
          refine wp_run 1 (pc' := 25) (ls' := [(2, g), (0, a1), (0, a2)]) (st' := [(0, (z_w ((z_rem a1 (M g 10)) - (z_rem a2 (M g 10))))), (0, (z_abs (z_w ((z_div a1 (M g 10)) - 0))))]) rfl ?_
          refine wp_abs (pc' := 28) rfl rfl (Nat.le_of_ble_eq_true rfl) ?_
          refine wp_run 1 (pc' := 29) (ls' := [(2, g), (0, a1), (0, a2)]) (st' := [(0, (z_w ((z_abs (z_w ((z_div a1 (M g 10)) - 0))) + (z_abs (z_w ((z_rem a1 (M g 10)) - (z_rem a2 (M g 10))))))))]) rfl ?_
          exact wp_ret rfl rfl (l5 c1 c2 c6 c7)
        · refine wp_run 2 (pc' := 17) (ls' := [(2, g), (0, a2)]) (st' := [(0, 0)]) rfl ?_
          refine wp_ret rfl rfl ?_
          show wp xs _ mX1_apart 24 [(2, g), (0, a1), (0, a2)] [(0, 0), (0, (z_rem a1 (M g 10))), (0, (z_abs (z_w ((z_div a1 (M g 10)) - 0))))] z_LL M _
          refine wp_run 1 (pc' := 25) (ls' := [(2, g), (0, a1), (0, a2)]) (st' := [(0, (z_w ((z_rem a1 (M g 10)) - 0))), (0, (z_abs (z_w ((z_div a1 (M g 10)) - 0))))]) rfl ?_
          refine wp_abs (pc' := 28) rfl rfl (Nat.le_of_ble_eq_true rfl) ?_
          refine wp_run 1 (pc' := 29) (ls' := [(2, g), (0, a1), (0, a2)]) (st' := [(0, (z_w ((z_abs (z_w ((z_div a1 (M g 10)) - 0))) + (z_abs (z_w ((z_rem a1 (M g 10)) - 0))))))]) rfl ?_
          exact wp_ret rfl rfl (l6 c1 c2 c6 c7)
      · refine wp_run 2 (pc' := 17) (ls' := [(2, g), (0, a1)]) (st' := [(0, 0)]) rfl ?_
        refine wp_ret rfl rfl ?_
        show wp xs _ mX1_apart 19 [(2, g), (0, a1), (0, a2)] [(0, 0), (0, (z_abs (z_w ((z_div a1 (M g 10)) - 0))))] z_LL M _
        refine wp_run 2 (pc' := 21) (ls' := [(2, g), (0, a1), (0, a2)]) (st' := [(0, a2), (2, g), (0, 0), (0, (z_abs (z_w ((z_div a1 (M g 10)) - 0))))]) rfl ?_
        refine wp_callv (pc' := 24) (as := [(2, g), (0, a2)]) (rest := [(0, 0), (0, (z_abs (z_w ((z_div a1 (M g 10)) - 0))))]) (ls1 := [(2, g), (0, a2)]) rfl rfl rfl rfl (z_args_v rfl rfl rfl rfl (Nat.le_of_ble_eq_true rfl) rfl (by decide) (z_gl0 hg)) rfl ?_
        refine wp_run 1 (pc' := 1) (ls' := [(2, g), (0, a2)]) (st' := [(2, g)]) rfl ?_
        refine wp_gf (pc' := 4) (t := 0) (v := (M g 10)) rfl rfl (by decide) rfl (z_gl0 hg) rfl ?_
        refine wp_if1 rfl rfl rfl (fun (c8 : (M g 10) ≠ 0) => ?_) (fun (c8 : ¬ ((M g 10) ≠ 0)) => ?_)
        · refine wp_run 2 (pc' := 13) (ls' := [(2, g), (0, a2)]) (st' := [(2, g), (0, a2)]) rfl ?_
          refine wp_gf (pc' := 16) (t := 0) (v := (M g 10)) rfl rfl (by decide) rfl (z_gl0 hg) rfl ?_
          refine wp_rem rfl rfl (b8 c1 c2 c6 c8) ?_
          refine wp_ret rfl rfl ?_
          show wp xs _ mX1_apart 24 [(2, g), (0, a1), (0, a2)] [(0, (z_rem a2 (M g 10))), (0, 0), (0, (z_abs (z_w ((z_div a1 (M g 10)) - 0))))] z_LL M _
          refine wp_run 1 (pc' := 25) (ls' := [(2, g), (0, a1), (0, a2)]) (st' := [(0, (z_w (0 - (z_rem a2 (M g 10))))), (0, (z_abs (z_w ((z_div a1 (M g 10)) - 0))))]) rfl ?_
          refine wp_abs (pc' := 28) rfl rfl (Nat.le_of_ble_eq_true rfl) ?_
          refine wp_run 1 (pc' := 29) (ls' := [(2, g), (0, a1), (0, a2)]) (st' := [(0, (z_w ((z_abs (z_w ((z_div a1 (M g 10)) - 0))) + (z_abs (z_w (0 - (z_rem a2 (M g 10))))))))]) rfl ?_
          exact wp_ret rfl rfl (l7 c1 c2 c6 c8)
        · refine wp_run 2 (pc' := 17) (ls' := [(2, g), (0, a2)]) (st' := [(0, 0)]) rfl ?_
          refine wp_ret rfl rfl ?_
          show wp xs _ mX1_apart 24 [(2, g), (0, a1), (0, a2)] [(0, 0), (0, 0), (0, (z_abs (z_w ((z_div a1 (M g 10)) - 0))))] z_LL M _
          refine wp_run 1 (pc' := 25) (ls' := [(2, g), (0, a1), (0, a2)]) (st' := [(0, 0), (0, (z_abs (z_w ((z_div a1 (M g 10)) - 0))))]) rfl ?_
          refine wp_abs (pc' := 28) rfl rfl (Nat.le_of_ble_eq_true rfl) ?_
          refine wp_run 1 (pc' := 29) (ls' := [(2, g), (0, a1), (0, a2)]) (st' := [(0, (z_w ((z_abs (z_w ((z_div a1 (M g 10)) - 0))) + (z_abs 0))))]) rfl ?_
          exact wp_ret rfl rfl (l8 c1 c2 c6 c8)
  · refine wp_run 2 (pc' := 17) (ls' := [(2, g), (0, a1)]) (st' := [(0, 0)]) rfl ?_
    refine wp_ret rfl rfl ?_
    show wp xs _ mX1_apart 5 [(2, g), (0, a1), (0, a2)] [(0, 0)] z_LL M _
    refine wp_run 2 (pc' := 7) (ls' := [(2, g), (0, a1), (0, a2)]) (st' := [(0, a2), (2, g), (0, 0)]) rfl ?_
    refine wp_callv (pc' := 10) (as := [(2, g), (0, a2)]) (rest := [(0, 0)]) (ls1 := [(2, g), (0, a2)]) rfl rfl rfl rfl (z_args_v rfl rfl rfl rfl (Nat.le_of_ble_eq_true rfl) rfl (by decide) (z_gl0 hg)) rfl ?_
    refine wp_run 1 (pc' := 1) (ls' := [(2, g), (0, a2)]) (st' := [(2, g)]) rfl ?_
    refine wp_gf (pc' := 4) (t := 0) (v := (M g 10)) rfl rfl (by decide) rfl (z_gl0 hg) rfl ?_
    refine wp_if1 rfl rfl rfl (fun (c9 : (M g 10) ≠ 0) => ?_) (fun (c9 : ¬ ((M g 10) ≠ 0)) => ?_)
    · refine wp_run 2 (pc' := 13) (ls' := [(2, g), (0, a2)]) (st' := [(2, g), (0, a2)]) rfl ?_
      refine wp_gf (pc' := 16) (t := 0) (v := (M g 10)) rfl rfl (by decide) rfl (z_gl0 hg) rfl ?_
      refine wp_div rfl rfl (b9 c1 c9) ?_
      refine wp_ret rfl rfl ?_
      show wp xs _ mX1_apart 10 [(2, g), (0, a1), (0, a2)] [(0, (z_div a2 (M g 10))), (0, 0)] z_LL M _
      refine wp_run 1 (pc' := 11) (ls' := [(2, g), (0, a1), (0, a2)]) (st' := [(0, (z_w (0 - (z_div a2 (M g 10)))))]) rfl ?_
      refine wp_abs (pc' := 14) rfl rfl (Nat.le_of_ble_eq_true rfl) ?_
      refine wp_run 2 (pc' := 16) (ls' := [(2, g), (0, a1), (0, a2)]) (st' := [(0, a1), (2, g), (0, (z_abs (z_w (0 - (z_div a2 (M g 10))))))]) rfl ?_
      refine wp_callv (pc' := 19) (as := [(2, g), (0, a1)]) (rest := [(0, (z_abs (z_w (0 - (z_div a2 (M g 10))))))]) (ls1 := [(2, g), (0, a1)]) rfl rfl rfl rfl (z_args_v rfl rfl rfl rfl (Nat.le_of_ble_eq_true rfl) rfl (by decide) (z_gl0 hg)) rfl ?_
      refine wp_run 1 (pc' := 1) (ls' := [(2, g), (0, a1)]) (st' := [(2, g)]) rfl ?_
      refine wp_gf (pc' := 4) (t := 0) (v := (M g 10)) rfl rfl (by decide) rfl (z_gl0 hg) rfl ?_
      refine wp_if1 rfl rfl rfl (fun (c10 : (M g 10) ≠ 0) => ?_) (fun (c10 : ¬ ((M g 10) ≠ 0)) => ?_)
      · refine wp_run 2 (pc' := 13) (ls' := [(2, g), (0, a1)]) (st' := [(2, g), (0, a1)]) rfl ?_
        refine wp_gf (pc' := 16) (t := 0) (v := (M g 10)) rfl rfl (by decide) rfl (z_gl0 hg) rfl ?_
        refine wp_rem rfl rfl (b10 c1 c9 c10) ?_
        refine wp_ret rfl rfl ?_
        show wp xs _ mX1_apart 19 [(2, g), (0, a1), (0, a2)] [(0, (z_rem a1 (M g 10))), (0, (z_abs (z_w (0 - (z_div a2 (M g 10))))))] z_LL M _
        refine wp_run 2 (pc' := 21) (ls' := [(2, g), (0, a1), (0, a2)]) (st' := [(0, a2), (2, g), (0, (z_rem a1 (M g 10))), (0, (z_abs (z_w (0 - (z_div a2 (M g 10))))))]) rfl ?_
        refine wp_callv (pc' := 24) (as := [(2, g), (0, a2)]) (rest := [(0, (z_rem a1 (M g 10))), (0, (z_abs (z_w (0 - (z_div a2 (M g 10))))))]) (ls1 := [(2, g), (0, a2)]) rfl rfl rfl rfl (z_args_v rfl rfl rfl rfl (Nat.le_of_ble_eq_true rfl) rfl (by decide) (z_gl0 hg)) rfl ?_
        refine wp_run 1 (pc' := 1) (ls' := [(2, g), (0, a2)]) (st' := [(2, g)]) rfl ?_
        refine wp_gf (pc' := 4) (t := 0) (v := (M g 10)) rfl rfl (by decide) rfl (z_gl0 hg) rfl ?_
        refine wp_if1 rfl rfl rfl (fun (c11 : (M g 10) ≠ 0) => ?_) (fun (c11 : ¬ ((M g 10) ≠ 0)) => ?_)
        · refine wp_run 2 (pc' := 13) (ls' := [(2, g), (0, a2)]) (st' := [(2, g), (0, a2)]) rfl ?_
          refine wp_gf (pc' := 16) (t := 0) (v := (M g 10)) rfl rfl (by decide) rfl (z_gl0 hg) rfl ?_
          refine wp_rem rfl rfl (b11 c1 c9 c10 c11) ?_
          refine wp_ret rfl rfl ?_
          show wp xs _ mX1_apart 24 [(2, g), (0, a1), (0, a2)] [(0, (z_rem a2 (M g 10))), (0, (z_rem a1 (M g 10))), (0, (z_abs (z_w (0 - (z_div a2 (M g 10))))))] z_LL M _
          refine wp_run 1 (pc' := 25) (ls' := [(2, g), (0, a1), (0, a2)]) (st' := [(0, (z_w ((z_rem a1 (M g 10)) - (z_rem a2 (M g 10))))), (0, (z_abs (z_w (0 - (z_div a2 (M g 10))))))]) rfl ?_
          refine wp_abs (pc' := 28) rfl rfl (Nat.le_of_ble_eq_true rfl) ?_
          refine wp_run 1 (pc' := 29) (ls' := [(2, g), (0, a1), (0, a2)]) (st' := [(0, (z_w ((z_abs (z_w (0 - (z_div a2 (M g 10))))) + (z_abs (z_w ((z_rem a1 (M g 10)) - (z_rem a2 (M g 10))))))))]) rfl ?_
          exact wp_ret rfl rfl (l9 c1 c9 c10 c11)
        · refine wp_run 2 (pc' := 17) (ls' := [(2, g), (0, a2)]) (st' := [(0, 0)]) rfl ?_
          refine wp_ret rfl rfl ?_
          show wp xs _ mX1_apart 24 [(2, g), (0, a1), (0, a2)] [(0, 0), (0, (z_rem a1 (M g 10))), (0, (z_abs (z_w (0 - (z_div a2 (M g 10))))))] z_LL M _
          refine wp_run 1 (pc' := 25) (ls' := [(2, g), (0, a1), (0, a2)]) (st' := [(0, (z_w ((z_rem a1 (M g 10)) - 0))), (0, (z_abs (z_w (0 - (z_div a2 (M g 10))))))]) rfl ?_
          refine wp_abs (pc' := 28) rfl rfl (Nat.le_of_ble_eq_true rfl) ?_
          refine wp_run 1 (pc' := 29) (ls' := [(2, g), (0, a1), (0, a2)]) (st' := [(0, (z_w ((z_abs (z_w (0 - (z_div a2 (M g 10))))) + (z_abs (z_w ((z_rem a1 (M g 10)) - 0))))))]) rfl ?_
          exact wp_ret rfl rfl (l10 c1 c9 c10 c11)
      · refine wp_run 2 (pc' := 17) (ls' := [(2, g), (0, a1)]) (st' := [(0, 0)]) rfl ?_
        refine wp_ret rfl rfl ?_
        show wp xs _ mX1_apart 19 [(2, g), (0, a1), (0, a2)] [(0, 0), (0, (z_abs (z_w (0 - (z_div a2 (M g 10))))))] z_LL M _
        refine wp_run 2 (pc' := 21) (ls' := [(2, g), (0, a1), (0, a2)]) (st' := [(0, a2), (2, g), (0, 0), (0, (z_abs (z_w (0 - (z_div a2 (M g 10))))))]) rfl ?_
        refine wp_callv (pc' := 24) (as := [(2, g), (0, a2)]) (rest := [(0, 0), (0, (z_abs (z_w (0 - (z_div a2 (M g 10))))))]) (ls1 := [(2, g), (0, a2)]) rfl rfl rfl rfl (z_args_v rfl rfl rfl rfl (Nat.le_of_ble_eq_true rfl) rfl (by decide) (z_gl0 hg)) rfl ?_
        refine wp_run 1 (pc' := 1) (ls' := [(2, g), (0, a2)]) (st' := [(2, g)]) rfl ?_
        refine wp_gf (pc' := 4) (t := 0) (v := (M g 10)) rfl rfl (by decide) rfl (z_gl0 hg) rfl ?_
        refine wp_if1 rfl rfl rfl (fun (c12 : (M g 10) ≠ 0) => ?_) (fun (c12 : ¬ ((M g 10) ≠ 0)) => ?_)
        · refine wp_run 2 (pc' := 13) (ls' := [(2, g), (0, a2)]) (st' := [(2, g), (0, a2)]) rfl ?_
          refine wp_gf (pc' := 16) (t := 0) (v := (M g 10)) rfl rfl (by decide) rfl (z_gl0 hg) rfl ?_
          refine wp_rem rfl rfl (b12 c1 c9 c10 c12) ?_
          refine wp_ret rfl rfl ?_
          show wp xs _ mX1_apart 24 [(2, g), (0, a1), (0, a2)] [(0, (z_rem a2 (M g 10))), (0, 0), (0, (z_abs (z_w (0 - (z_div a2 (M g 10))))))] z_LL M _
          refine wp_run 1 (pc' := 25) (ls' := [(2, g), (0, a1), (0, a2)]) (st' := [(0, (z_w (0 - (z_rem a2 (M g 10))))), (0, (z_abs (z_w (0 - (z_div a2 (M g 10))))))]) rfl ?_
          refine wp_abs (pc' := 28) rfl rfl (Nat.le_of_ble_eq_true rfl) ?_
          refine wp_run 1 (pc' := 29) (ls' := [(2, g), (0, a1), (0, a2)]) (st' := [(0, (z_w ((z_abs (z_w (0 - (z_div a2 (M g 10))))) + (z_abs (z_w (0 - (z_rem a2 (M g 10))))))))]) rfl ?_
          exact wp_ret rfl rfl (l11 c1 c9 c10 c12)
        · refine wp_run 2 (pc' := 17) (ls' := [(2, g), (0, a2)]) (st' := [(0, 0)]) rfl ?_
          refine wp_ret rfl rfl ?_
          show wp xs _ mX1_apart 24 [(2, g), (0, a1), (0, a2)] [(0, 0), (0, 0), (0, (z_abs (z_w (0 - (z_div a2 (M g 10))))))] z_LL M _
          refine wp_run 1 (pc' := 25) (ls' := [(2, g), (0, a1), (0, a2)]) (st' := [(0, 0), (0, (z_abs (z_w (0 - (z_div a2 (M g 10))))))]) rfl ?_
          refine wp_abs (pc' := 28) rfl rfl (Nat.le_of_ble_eq_true rfl) ?_
          refine wp_run 1 (pc' := 29) (ls' := [(2, g), (0, a1), (0, a2)]) (st' := [(0, (z_w ((z_abs (z_w (0 - (z_div a2 (M g 10))))) + (z_abs 0))))]) rfl ?_
          exact wp_ret rfl rfl (l12 c1 c9 c10 c12)
    · refine wp_run 2 (pc' := 17) (ls' := [(2, g), (0, a2)]) (st' := [(0, 0)]) rfl ?_
      refine wp_ret rfl rfl ?_
      show wp xs _ mX1_apart 10 [(2, g), (0, a1), (0, a2)] [(0, 0), (0, 0)] z_LL M _
      refine wp_run 1 (pc' := 11) (ls' := [(2, g), (0, a1), (0, a2)]) (st' := [(0, 0)]) rfl ?_
      refine wp_abs (pc' := 14) rfl rfl (Nat.le_of_ble_eq_true rfl) ?_
      refine wp_run 2 (pc' := 16) (ls' := [(2, g), (0, a1), (0, a2)]) (st' := [(0, a1), (2, g), (0, (z_abs 0))]) rfl ?_
      refine wp_callv (pc' := 19) (as := [(2, g), (0, a1)]) (rest := [(0, (z_abs 0))]) (ls1 := [(2, g), (0, a1)]) rfl rfl rfl rfl (z_args_v rfl rfl rfl rfl (Nat.le_of_ble_eq_true rfl) rfl (by decide) (z_gl0 hg)) rfl ?_
      refine wp_run 1 (pc' := 1) (ls' := [(2, g), (0, a1)]) (st' := [(2, g)]) rfl ?_
      refine wp_gf (pc' := 4) (t := 0) (v := (M g 10)) rfl rfl (by decide) rfl (z_gl0 hg) rfl ?_
      refine wp_if1 rfl rfl rfl (fun (c13 : (M g 10) ≠ 0) => ?_) (fun (c13 : ¬ ((M g 10) ≠ 0)) => ?_)
      · refine wp_run 2 (pc' := 13) (ls' := [(2, g), (0, a1)]) (st' := [(2, g), (0, a1)]) rfl ?_
        refine wp_gf (pc' := 16) (t := 0) (v := (M g 10)) rfl rfl (by decide) rfl (z_gl0 hg) rfl ?_
        refine wp_rem rfl rfl (b13 c1 c9 c13) ?_
        refine wp_ret rfl rfl ?_
        show wp xs _ mX1_apart 19 [(2, g), (0, a1), (0, a2)] [(0, (z_rem a1 (M g 10))), (0, (z_abs 0))] z_LL M _
        refine wp_run 2 (pc' := 21) (ls' := [(2, g), (0, a1), (0, a2)]) (st' := [(0, a2), (2, g), (0, (z_rem a1 (M g 10))), (0, (z_abs 0))]) rfl ?_
        refine wp_callv (pc' := 24) (as := [(2, g), (0, a2)]) (rest := [(0, (z_rem a1 (M g 10))), (0, (z_abs 0))]) (ls1 := [(2, g), (0, a2)]) rfl rfl rfl rfl (z_args_v rfl rfl rfl rfl (Nat.le_of_ble_eq_true rfl) rfl (by decide) (z_gl0 hg)) rfl ?_
        refine wp_run 1 (pc' := 1) (ls' := [(2, g), (0, a2)]) (st' := [(2, g)]) rfl ?_
        refine wp_gf (pc' := 4) (t := 0) (v := (M g 10)) rfl rfl (by decide) rfl (z_gl0 hg) rfl ?_
        refine wp_if1 rfl rfl rfl (fun (c14 : (M g 10) ≠ 0) => ?_) (fun (c14 : ¬ ((M g 10) ≠ 0)) => ?_)
        · refine wp_run 2 (pc' := 13) (ls' := [(2, g), (0, a2)]) (st' := [(2, g), (0, a2)]) rfl ?_
          refine wp_gf (pc' := 16) (t := 0) (v := (M g 10)) rfl rfl (by decide) rfl (z_gl0 hg) rfl ?_
          refine wp_rem rfl rfl (b14 c1 c9 c13 c14) ?_
          refine wp_ret rfl rfl ?_
          show wp xs _ mX1_apart 24 [(2, g), (0, a1), (0, a2)] [(0, (z_rem a2 (M g 10))), (0, (z_rem a1 (M g 10))), (0, (z_abs 0))] z_LL M _
          refine wp_run 1 (pc' := 25) (ls' := [(2, g), (0, a1), (0, a2)]) (st' := [(0, (z_w ((z_rem a1 (M g 10)) - (z_rem a2 (M g 10))))), (0, (z_abs 0))]) rfl ?_
          refine wp_abs (pc' := 28) rfl rfl (Nat.le_of_ble_eq_true rfl) ?_
          refine wp_run 1 (pc' := 29) (ls' := [(2, g), (0, a1), (0, a2)]) (st' := [(0, (z_w ((z_abs 0) + (z_abs (z_w ((z_rem a1 (M g 10)) - (z_rem a2 (M g 10))))))))]) rfl ?_
          exact wp_ret rfl rfl (l13 c1 c9 c13 c14)
        · refine wp_run 2 (pc' := 17) (ls' := [(2, g), (0, a2)]) (st' := [(0, 0)]) rfl ?_
          refine wp_ret rfl rfl ?_
          show wp xs _ mX1_apart 24 [(2, g), (0, a1), (0, a2)] [(0, 0), (0, (z_rem a1 (M g 10))), (0, (z_abs 0))] z_LL M _
          refine wp_run 1 (pc' := 25) (ls' := [(2, g), (0, a1), (0, a2)]) (st' := [(0, (z_w ((z_rem a1 (M g 10)) - 0))), (0, (z_abs 0))]) rfl ?_
          refine wp_abs (pc' := 28) rfl rfl (Nat.le_of_ble_eq_true rfl) ?_
          refine wp_run 1 (pc' := 29) (ls' := [(2, g), (0, a1), (0, a2)]) (st' := [(0, (z_w ((z_abs 0) + (z_abs (z_w ((z_rem a1 (M g 10)) - 0))))))]) rfl ?_
          exact wp_ret rfl rfl (l14 c1 c9 c13 c14)
      · refine wp_run 2 (pc' := 17) (ls' := [(2, g), (0, a1)]) (st' := [(0, 0)]) rfl ?_
        refine wp_ret rfl rfl ?_
        show wp xs _ mX1_apart 19 [(2, g), (0, a1), (0, a2)] [(0, 0), (0, (z_abs 0))] z_LL M _
        refine wp_run 2 (pc' := 21) (ls' := [(2, g), (0, a1), (0, a2)]) (st' := [(0, a2), (2, g), (0, 0), (0, (z_abs 0))]) rfl ?_
        refine wp_callv (pc' := 24) (as := [(2, g), (0, a2)]) (rest := [(0, 0), (0, (z_abs 0))]) (ls1 := [(2, g), (0, a2)]) rfl rfl rfl rfl (z_args_v rfl rfl rfl rfl (Nat.le_of_ble_eq_true rfl) rfl (by decide) (z_gl0 hg)) rfl ?_
        refine wp_run 1 (pc' := 1) (ls' := [(2, g), (0, a2)]) (st' := [(2, g)]) rfl ?_
        refine wp_gf (pc' := 4) (t := 0) (v := (M g 10)) rfl rfl (by decide) rfl (z_gl0 hg) rfl ?_
        refine wp_if1 rfl rfl rfl (fun (c15 : (M g 10) ≠ 0) => ?_) (fun (c15 : ¬ ((M g 10) ≠ 0)) => ?_)
        · refine wp_run 2 (pc' := 13) (ls' := [(2, g), (0, a2)]) (st' := [(2, g), (0, a2)]) rfl ?_
          refine wp_gf (pc' := 16) (t := 0) (v := (M g 10)) rfl rfl (by decide) rfl (z_gl0 hg) rfl ?_
          refine wp_rem rfl rfl (b15 c1 c9 c13 c15) ?_
          refine wp_ret rfl rfl ?_
          show wp xs _ mX1_apart 24 [(2, g), (0, a1), (0, a2)] [(0, (z_rem a2 (M g 10))), (0, 0), (0, (z_abs 0))] z_LL M _
          refine wp_run 1 (pc' := 25) (ls' := [(2, g), (0, a1), (0, a2)]) (st' := [(0, (z_w (0 - (z_rem a2 (M g 10))))), (0, (z_abs 0))]) rfl ?_
          refine wp_abs (pc' := 28) rfl rfl (Nat.le_of_ble_eq_true rfl) ?_
          refine wp_run 1 (pc' := 29) (ls' := [(2, g), (0, a1), (0, a2)]) (st' := [(0, (z_w ((z_abs 0) + (z_abs (z_w (0 - (z_rem a2 (M g 10))))))))]) rfl ?_
          exact wp_ret rfl rfl (l15 c1 c9 c13 c15)
        · refine wp_run 2 (pc' := 17) (ls' := [(2, g), (0, a2)]) (st' := [(0, 0)]) rfl ?_
          refine wp_ret rfl rfl ?_
          show wp xs _ mX1_apart 24 [(2, g), (0, a1), (0, a2)] [(0, 0), (0, 0), (0, (z_abs 0))] z_LL M _
          refine wp_run 1 (pc' := 25) (ls' := [(2, g), (0, a1), (0, a2)]) (st' := [(0, 0), (0, (z_abs 0))]) rfl ?_
          refine wp_abs (pc' := 28) rfl rfl (Nat.le_of_ble_eq_true rfl) ?_
          refine wp_run 1 (pc' := 29) (ls' := [(2, g), (0, a1), (0, a2)]) (st' := [(0, (z_w ((z_abs 0) + (z_abs 0))))]) rfl ?_
          exact wp_ret rfl rfl (l16 c1 c9 c13 c15)
set_option maxRecDepth 20000 in
theorem gX1_canMix_0 {xs : List Int} {d : Nat} {M : z_M} {P : Option z_V → z_L → z_M → Prop} {g : Int} {a1 : Int} {a2 : Int} (hg : z_gor M g)
    (l1 : (a1 < 0) → P (some (0, 0)) z_LL M)
    (l2 : (¬ (a1 < 0)) → ((M g 12) ≤ a1) → P (some (0, 0)) z_LL M)
    (l3 : (¬ (a1 < 0)) → (¬ ((M g 12) ≤ a1)) → (a2 < 0) → P (some (0, 0)) z_LL M)
    (l4 : (¬ (a1 < 0)) → (¬ ((M g 12) ≤ a1)) → (¬ (a2 < 0)) → ((M g 12) ≤ a2) → P (some (0, 0)) z_LL M)
    (b1 : (¬ (a1 < 0)) → (¬ ((M g 12) ≤ a1)) → (¬ (a2 < 0)) → (¬ ((M g 12) ≤ a2)) → 0 ≤ a1 ∧ a1 < 6)
    (b2 : (¬ (a1 < 0)) → (¬ ((M g 12) ≤ a1)) → (¬ (a2 < 0)) → (¬ ((M g 12) ≤ a2)) → 0 ≤ a2 ∧ a2 < 6)
    (l5 : (¬ (a1 < 0)) → (¬ ((M g 12) ≤ a1)) → (¬ (a2 < 0)) → (¬ ((M g 12) ≤ a2)) → ((M (g + 2) a1) = (M (g + 2) a2)) → P (some (0, 0)) z_LL M)
    (b3 : (¬ (a1 < 0)) → (¬ ((M g 12) ≤ a1)) → (¬ (a2 < 0)) → (¬ ((M g 12) ≤ a2)) → (¬ ((M (g + 2) a1) = (M (g + 2) a2))) → 0 ≤ a1 ∧ a1 < 6)
    (l6 : (¬ (a1 < 0)) → (¬ ((M g 12) ≤ a1)) → (¬ (a2 < 0)) → (¬ ((M g 12) ≤ a2)) → (¬ ((M (g + 2) a1) = (M (g + 2) a2))) → ((z_and (z_shr (M (g + 5) a1) a2) 1) = 0) → P (some (0, 1)) z_LL M)
    (l7 : (¬ (a1 < 0)) → (¬ ((M g 12) ≤ a1)) → (¬ (a2 < 0)) → (¬ ((M g 12) ≤ a2)) → (¬ ((M (g + 2) a1) = (M (g + 2) a2))) → (¬ ((z_and (z_shr (M (g + 5) a1) a2) 1) = 0)) → P (some (0, 0)) z_LL M) :
    wp xs (d + 1) mX1_canMix 0 [(2, g), (0, a1), (0, a2)] [] z_LL M P := by
  refine wp_run 2 (pc' := 2) (ls' := [(2, g), (0, a1), (0, a2)]) (st' := [(0, a1), (2, g)]) rfl ?_
  refine wp_callv (pc' := 5) (as := [(2, g), (0, a1)]) (rest := []) (ls1 := [(2, g), (0, a1)]) rfl rfl rfl rfl (z_args_v rfl rfl rfl rfl (Nat.le_of_ble_eq_true rfl) rfl (by decide) (z_gl0 hg)) rfl ?_
  refine wp_run 1 (pc' := 1) (ls' := [(2, g), (0, a1)]) (st' := [(0, a1)]) rfl ?_
  refine wp_if1 rfl rfl rfl (fun (c1 : a1 < 0) => ?_) (fun (c1 : ¬ (a1 < 0)) => ?_)
  · refine wp_run 1 (pc' := 17) (ls' := [(2, g), (0, a1)]) (st' := [(0, 0)]) rfl ?_
    refine wp_ret rfl rfl ?_
    show wp xs _ mX1_canMix 5 [(2, g), (0, a1), (0, a2)] [(0, 0)] z_LL M _
    refine wp_run 2 (pc' := 45) (ls' := [(2, g), (0, a1), (0, a2)]) (st' := [(0, 0)]) rfl ?_
    exact wp_ret rfl rfl (l1 c1)
  · refine wp_run 2 (pc' := 6) (ls' := [(2, g), (0, a1)]) (st' := [(2, g), (0, a1)]) rfl ?_
    refine wp_gf (pc' := 9) (t := 0) (v := (M g 12)) rfl rfl (by decide) rfl (z_gl0 hg) rfl ?_
    refine wp_if2 rfl rfl rfl (fun (c2 : (M g 12) ≤ a1) => ?_) (fun (c2 : ¬ ((M g 12) ≤ a1)) => ?_)
    · refine wp_run 1 (pc' := 17) (ls' := [(2, g), (0, a1)]) (st' := [(0, 0)]) rfl ?_
      refine wp_ret rfl rfl ?_
      show wp xs _ mX1_canMix 5 [(2, g), (0, a1), (0, a2)] [(0, 0)] z_LL M _
      refine wp_run 2 (pc' := 45) (ls' := [(2, g), (0, a1), (0, a2)]) (st' := [(0, 0)]) rfl ?_
      exact wp_ret rfl rfl (l2 c1 c2)
    · refine wp_run 2 (pc' := 17) (ls' := [(2, g), (0, a1)]) (st' := [(0, 1)]) rfl ?_
      refine wp_ret rfl rfl ?_
      show wp xs _ mX1_canMix 5 [(2, g), (0, a1), (0, a2)] [(0, 1)] z_LL M _
      refine wp_run 3 (pc' := 10) (ls' := [(2, g), (0, a1), (0, a2)]) (st' := [(0, a2), (2, g)]) rfl ?_
      refine wp_callv (pc' := 13) (as := [(2, g), (0, a2)]) (rest := []) (ls1 := [(2, g), (0, a2)]) rfl rfl rfl rfl (z_args_v rfl rfl rfl rfl (Nat.le_of_ble_eq_true rfl) rfl (by decide) (z_gl0 hg)) rfl ?_
      refine wp_run 1 (pc' := 1) (ls' := [(2, g), (0, a2)]) (st' := [(0, a2)]) rfl ?_
      refine wp_if1 rfl rfl rfl (fun (c3 : a2 < 0) => ?_) (fun (c3 : ¬ (a2 < 0)) => ?_)
      · refine wp_run 1 (pc' := 17) (ls' := [(2, g), (0, a2)]) (st' := [(0, 0)]) rfl ?_
        refine wp_ret rfl rfl ?_
        show wp xs _ mX1_canMix 13 [(2, g), (0, a1), (0, a2)] [(0, 0)] z_LL M _
        refine wp_run 2 (pc' := 45) (ls' := [(2, g), (0, a1), (0, a2)]) (st' := [(0, 0)]) rfl ?_
        exact wp_ret rfl rfl (l3 c1 c2 c3)
      · refine wp_run 2 (pc' := 6) (ls' := [(2, g), (0, a2)]) (st' := [(2, g), (0, a2)]) rfl ?_
        refine wp_gf (pc' := 9) (t := 0) (v := (M g 12)) rfl rfl (by decide) rfl (z_gl0 hg) rfl ?_
        refine wp_if2 rfl rfl rfl (fun (c4 : (M g 12) ≤ a2) => ?_) (fun (c4 : ¬ ((M g 12) ≤ a2)) => ?_)
        · refine wp_run 1 (pc' := 17) (ls' := [(2, g), (0, a2)]) (st' := [(0, 0)]) rfl ?_
          refine wp_ret rfl rfl ?_
          show wp xs _ mX1_canMix 13 [(2, g), (0, a1), (0, a2)] [(0, 0)] z_LL M _
          refine wp_run 2 (pc' := 45) (ls' := [(2, g), (0, a1), (0, a2)]) (st' := [(0, 0)]) rfl ?_
          exact wp_ret rfl rfl (l4 c1 c2 c3 c4)
        · refine wp_run 2 (pc' := 17) (ls' := [(2, g), (0, a2)]) (st' := [(0, 1)]) rfl ?_
          refine wp_ret rfl rfl ?_
          show wp xs _ mX1_canMix 13 [(2, g), (0, a1), (0, a2)] [(0, 1)] z_LL M _
          refine wp_run 2 (pc' := 17) (ls' := [(2, g), (0, a1), (0, a2)]) (st' := [(2, g)]) rfl ?_
          refine wp_gf (pc' := 20) (t := 2) (v := (g + 2)) rfl rfl (by decide) rfl (z_gl0 hg) (z_gf1 hg) ?_
          refine wp_run 1 (pc' := 21) (ls' := [(2, g), (0, a1), (0, a2)]) (st' := [(0, a1), (2, (g + 2))]) rfl ?_
          refine wp_iald (pc' := 22) (v := (M (g + 2) a1)) rfl rfl (z_gl2 hg) (b1 c1 c2 c3 c4) rfl ?_
          refine wp_run 1 (pc' := 23) (ls' := [(2, g), (0, a1), (0, a2)]) (st' := [(2, g), (0, (M (g + 2) a1))]) rfl ?_
          refine wp_gf (pc' := 26) (t := 2) (v := (g + 2)) rfl rfl (by decide) rfl (z_gl0 hg) (z_gf1 hg) ?_
          refine wp_run 1 (pc' := 27) (ls' := [(2, g), (0, a1), (0, a2)]) (st' := [(0, a2), (2, (g + 2)), (0, (M (g + 2) a1))]) rfl ?_
          refine wp_iald (pc' := 28) (v := (M (g + 2) a2)) rfl rfl (z_gl2 hg) (b2 c1 c2 c3 c4) rfl ?_
          refine wp_if2 rfl rfl rfl (fun (c5 : (M (g + 2) a1) = (M (g + 2) a2)) => ?_) (fun (c5 : ¬ ((M (g + 2) a1) = (M (g + 2) a2))) => ?_)
          · refine wp_run 1 (pc' := 45) (ls' := [(2, g), (0, a1), (0, a2)]) (st' := [(0, 0)]) rfl ?_
            exact wp_ret rfl rfl (l5 c1 c2 c3 c4 c5)
          · refine wp_run 3 (pc' := 34) (ls' := [(2, g), (0, a1), (0, a2)]) (st' := [(0, a2), (0, a1), (2, g)]) rfl ?_
            refine wp_callv (pc' := 37) (as := [(2, g), (0, a1), (0, a2)]) (rest := []) (ls1 := [(2, g), (0, a1), (0, a2)]) rfl rfl rfl rfl (z_args_v rfl rfl rfl rfl (Nat.le_of_ble_eq_true rfl) rfl (by decide) (z_gl0 hg)) rfl ?_
            refine wp_run 1 (pc' := 1) (ls' := [(2, g), (0, a1), (0, a2)]) (st' := [(2, g)]) rfl ?_
            refine wp_gf (pc' := 4) (t := 2) (v := (g + 5)) rfl rfl (by decide) rfl (z_gl0 hg) (z_gf4 hg) ?_
            refine wp_run 1 (pc' := 5) (ls' := [(2, g), (0, a1), (0, a2)]) (st' := [(0, a1), (2, (g + 5))]) rfl ?_
            refine wp_iald (pc' := 6) (v := (M (g + 5) a1)) rfl rfl (z_gl5 hg) (b3 c1 c2 c3 c4 c5) rfl ?_
            refine wp_run 4 (pc' := 10) (ls' := [(2, g), (0, a1), (0, a2)]) (st' := [(0, (z_and (z_shr (M (g + 5) a1) a2) 1))]) rfl ?_
            refine wp_if1 rfl rfl rfl (fun (c6 : (z_and (z_shr (M (g + 5) a1) a2) 1) = 0) => ?_) (fun (c6 : ¬ ((z_and (z_shr (M (g + 5) a1) a2) 1) = 0)) => ?_)
            · refine wp_run 1 (pc' := 18) (ls' := [(2, g), (0, a1), (0, a2)]) (st' := [(0, 0)]) rfl ?_
              refine wp_ret rfl rfl ?_
              show wp xs _ mX1_canMix 37 [(2, g), (0, a1), (0, a2)] [(0, 0)] z_LL M _
              refine wp_run 3 (pc' := 45) (ls' := [(2, g), (0, a1), (0, a2)]) (st' := [(0, 1)]) rfl ?_
              exact wp_ret rfl rfl (l6 c1 c2 c3 c4 c5 c6)
            · refine wp_run 2 (pc' := 18) (ls' := [(2, g), (0, a1), (0, a2)]) (st' := [(0, 1)]) rfl ?_
              refine wp_ret rfl rfl ?_
              show wp xs _ mX1_canMix 37 [(2, g), (0, a1), (0, a2)] [(0, 1)] z_LL M _
              refine wp_run 2 (pc' := 45) (ls' := [(2, g), (0, a1), (0, a2)]) (st' := [(0, 0)]) rfl ?_
              exact wp_ret rfl rfl (l7 c1 c2 c3 c4 c5 c6)
set_option maxRecDepth 20000 in
theorem gX1_cells_0 {xs : List Int} {d : Nat} {M : z_M} {P : Option z_V → z_L → z_M → Prop} {g : Int} (hg : z_gor M g)
    (l1 : P (some (0, (z_w ((M g 10) * (M g 11))))) z_LL M) :
    wp xs d mX1_cells 0 [(2, g)] [] z_LL M P := by
  refine wp_run 1 (pc' := 1) (ls' := [(2, g)]) (st' := [(2, g)]) rfl ?_
  refine wp_gf (pc' := 4) (t := 0) (v := (M g 10)) rfl rfl (by decide) rfl (z_gl0 hg) rfl ?_
  refine wp_run 1 (pc' := 5) (ls' := [(2, g)]) (st' := [(2, g), (0, (M g 10))]) rfl ?_
  refine wp_gf (pc' := 8) (t := 0) (v := (M g 11)) rfl rfl (by decide) rfl (z_gl0 hg) rfl ?_
  refine wp_run 1 (pc' := 9) (ls' := [(2, g)]) (st' := [(0, (z_w ((M g 10) * (M g 11))))]) rfl ?_
  exact wp_ret rfl rfl (l1)
set_option maxRecDepth 20000 in
theorem gX1_clear_0 {xs : List Int} {d : Nat} {M : z_M} {P : Option z_V → z_L → z_M → Prop} {g : Int} (hg : z_gor M g)
    (l1 : wp xs d mJ7_fill_53178 0 [(2, (g + 5)), (0, 0), (3, 0), (3, 0)] [] z_LL (z_up (z_up (z_up (z_up (z_up (z_up (z_up (z_up (z_up (z_up M g 10 4) g 11 4) g 12 0) g 13 0) g 14 0) g 15 0) g 16 0) g 17 1) g 18 9) g 19 0) (fun r L1 M1 => wp xs (d + 1) mX1_clear 59 [(2, g)] (z_ol r ++ []) L1 M1 P)) :
    wp xs (d + 1) mX1_clear 0 [(2, g)] [] z_LL M P := by
  refine wp_run 2 (pc' := 2) (ls' := [(2, g)]) (st' := [(0, 4), (2, g)]) rfl ?_
  refine wp_pf (pc' := 5) rfl rfl rfl (z_gl0 hg) (fun z => absurd z (by decide)) (fun z => absurd z (by decide)) ?_
  refine wp_run 2 (pc' := 7) (ls' := [(2, g)]) (st' := [(0, 4), (2, g)]) rfl ?_
  refine wp_pf (pc' := 10) rfl rfl rfl (z_gl0 hg) (fun z => absurd z (by decide)) (fun z => absurd z (by decide)) ?_
  refine wp_run 2 (pc' := 12) (ls' := [(2, g)]) (st' := [(0, 0), (2, g)]) rfl ?_
  refine wp_pf (pc' := 15) rfl rfl rfl (z_gl0 hg) (fun z => absurd z (by decide)) (fun z => absurd z (by decide)) ?_
  refine wp_run 2 (pc' := 17) (ls' := [(2, g)]) (st' := [(0, 0), (2, g)]) rfl ?_
  refine wp_pf (pc' := 20) rfl rfl rfl (z_gl0 hg) (fun z => absurd z (by decide)) (fun z => absurd z (by decide)) ?_
  refine wp_run 2 (pc' := 22) (ls' := [(2, g)]) (st' := [(0, 0), (2, g)]) rfl ?_
  refine wp_pf (pc' := 25) rfl rfl rfl (z_gl0 hg) (fun z => absurd z (by decide)) (fun z => absurd z (by decide)) ?_
  refine wp_run 2 (pc' := 27) (ls' := [(2, g)]) (st' := [(0, 0), (2, g)]) rfl ?_
  refine wp_pf (pc' := 30) rfl rfl rfl (z_gl0 hg) (fun z => absurd z (by decide)) (fun z => absurd z (by decide)) ?_
  refine wp_run 2 (pc' := 32) (ls' := [(2, g)]) (st' := [(0, 0), (2, g)]) rfl ?_
  refine wp_pf (pc' := 35) rfl rfl rfl (z_gl0 hg) (fun z => absurd z (by decide)) (fun z => absurd z (by decide)) ?_
  refine wp_run 2 (pc' := 37) (ls' := [(2, g)]) (st' := [(0, 1), (2, g)]) rfl ?_
  refine wp_pf (pc' := 40) rfl rfl rfl (z_gl0 hg) (fun z => absurd z (by decide)) (fun z => absurd z (by decide)) ?_
  refine wp_run 2 (pc' := 43) (ls' := [(2, g)]) (st' := [(0, 9), (2, g)]) rfl ?_
  refine wp_pf (pc' := 46) rfl rfl rfl (z_gl0 hg) (fun z => absurd z (by decide)) (fun z => absurd z (by decide)) ?_
  refine wp_run 2 (pc' := 48) (ls' := [(2, g)]) (st' := [(0, 0), (2, g)]) rfl ?_
  refine wp_pf (pc' := 51) rfl rfl rfl (z_gl0 hg) (fun z => absurd z (by decide)) (fun z => absurd z (by decide)) ?_
  refine wp_run 1 (pc' := 52) (ls' := [(2, g)]) (st' := [(2, g)]) rfl ?_
  refine wp_gf (pc' := 55) (t := 2) (v := (g + 5)) rfl rfl (by decide) rfl (z_gl0 hg) (z_upi (by decide) (z_upi (by decide) (z_upi (by decide) (z_upi (by decide) (z_upi (by decide) (z_upi (by decide) (z_upi (by decide) (z_upi (by decide) (z_upi (by decide) (z_upi (by decide) (z_gf4 hg))))))))))) ?_
  refine wp_run 1 (pc' := 56) (ls' := [(2, g)]) (st' := [(0, 0), (2, (g + 5))]) rfl ?_
  refine wp_callv (pc' := 59) (as := [(2, (g + 5)), (0, 0)]) (rest := []) (ls1 := [(2, (g + 5)), (0, 0), (3, 0), (3, 0)]) rfl rfl rfl rfl rfl rfl ?_
  exact l1
set_option maxRecDepth 20000 in
theorem gX1_clear_59 {xs : List Int} {d : Nat} {M : z_M} {P : Option z_V → z_L → z_M → Prop} {x0 : Int} (hx0 : z_gor M x0)
    (l1 : wp xs d mJ7_fill_53178 0 [(2, (x0 + 6)), (0, (-1)), (3, 0), (3, 0)] [] z_LL M (fun r L1 M1 => wp xs (d + 1) mX1_clear 67 [(2, x0)] (z_ol r ++ []) L1 M1 P)) :
    wp xs (d + 1) mX1_clear 59 [(2, x0)] [] z_LL M P := by
  refine wp_run 1 (pc' := 60) (ls' := [(2, x0)]) (st' := [(2, x0)]) rfl ?_
  refine wp_gf (pc' := 63) (t := 2) (v := (x0 + 6)) rfl rfl (by decide) rfl (z_gl0 hx0) (z_gf5 hx0) ?_
  refine wp_run 1 (pc' := 64) (ls' := [(2, x0)]) (st' := [(0, (-1)), (2, (x0 + 6))]) rfl ?_
  refine wp_callv (pc' := 67) (as := [(2, (x0 + 6)), (0, (-1))]) (rest := []) (ls1 := [(2, (x0 + 6)), (0, (-1)), (3, 0), (3, 0)]) rfl rfl rfl rfl rfl rfl ?_
  exact l1
set_option maxRecDepth 20000 in
theorem gX1_clear_67 {xs : List Int} {d : Nat} {M : z_M} {P : Option z_V → z_L → z_M → Prop} {x0 : Int} (hx0 : z_gor M x0)
    (l1 : wp xs d mJ7_fill_53178 0 [(2, (x0 + 7)), (0, (-1)), (3, 0), (3, 0)] [] z_LL M (fun r L1 M1 => wp xs (d + 1) mX1_clear 75 [(2, x0)] (z_ol r ++ []) L1 M1 P)) :
    wp xs (d + 1) mX1_clear 67 [(2, x0)] [] z_LL M P := by
  refine wp_run 1 (pc' := 68) (ls' := [(2, x0)]) (st' := [(2, x0)]) rfl ?_
  refine wp_gf (pc' := 71) (t := 2) (v := (x0 + 7)) rfl rfl (by decide) rfl (z_gl0 hx0) (z_gf6 hx0) ?_
  refine wp_run 1 (pc' := 72) (ls' := [(2, x0)]) (st' := [(0, (-1)), (2, (x0 + 7))]) rfl ?_
  refine wp_callv (pc' := 75) (as := [(2, (x0 + 7)), (0, (-1))]) (rest := []) (ls1 := [(2, (x0 + 7)), (0, (-1)), (3, 0), (3, 0)]) rfl rfl rfl rfl rfl rfl ?_
  exact l1
set_option maxRecDepth 20000 in
theorem gX1_clear_75 {xs : List Int} {d : Nat} {M : z_M} {P : Option z_V → z_L → z_M → Prop} {x0 : Int} (hx0 : z_gor M x0)
    (l1 : P none z_LL M) :
    wp xs d mX1_clear 75 [(2, x0)] [] z_LL M P := by
  exact wp_ret rfl rfl (l1)
set_option maxRecDepth 20000 in
theorem gX1_columnOf_0 {xs : List Int} {d : Nat} {M : z_M} {P : Option z_V → z_L → z_M → Prop} {g : Int} {a1 : Int} (hg : z_gor M g)
    (b1 : ((M g 10) ≠ 0) → ¬ (M g 10) = 0)
    (l1 : ((M g 10) ≠ 0) → P (some (0, (z_rem a1 (M g 10)))) z_LL M)
    (l2 : (¬ ((M g 10) ≠ 0)) → P (some (0, 0)) z_LL M) :
    wp xs d mX1_columnOf 0 [(2, g), (0, a1)] [] z_LL M P := by
  refine wp_run 1 (pc' := 1) (ls' := [(2, g), (0, a1)]) (st' := [(2, g)]) rfl ?_
  refine wp_gf (pc' := 4) (t := 0) (v := (M g 10)) rfl rfl (by decide) rfl (z_gl0 hg) rfl ?_
  refine wp_if1 rfl rfl rfl (fun (c1 : (M g 10) ≠ 0) => ?_) (fun (c1 : ¬ ((M g 10) ≠ 0)) => ?_)
  · refine wp_run 2 (pc' := 13) (ls' := [(2, g), (0, a1)]) (st' := [(2, g), (0, a1)]) rfl ?_
    refine wp_gf (pc' := 16) (t := 0) (v := (M g 10)) rfl rfl (by decide) rfl (z_gl0 hg) rfl ?_
    refine wp_rem rfl rfl (b1 c1) ?_
    exact wp_ret rfl rfl (l1 c1)
  · refine wp_run 2 (pc' := 17) (ls' := [(2, g), (0, a1)]) (st' := [(0, 0)]) rfl ?_
    exact wp_ret rfl rfl (l2 c1)
set_option maxRecDepth 20000 in
theorem gX1_couldPair_0 {xs : List Int} {d : Nat} {M : z_M} {P : Option z_V → z_L → z_M → Prop} {g : Int} {a1 : Int} {a2 : Int} (hg : z_gor M g)
    (l1 : wp xs d mX1_canMix 0 [(2, g), (0, a1), (0, a2)] [] z_LL M (fun r L1 M1 => wp xs (d + 1) mX1_couldPair 6 [(2, g), (0, a1), (0, a2)] (z_ol r ++ []) L1 M1 P)) :
    wp xs (d + 1) mX1_couldPair 0 [(2, g), (0, a1), (0, a2)] [] z_LL M P := by
  refine wp_run 3 (pc' := 3) (ls' := [(2, g), (0, a1), (0, a2)]) (st' := [(0, a2), (0, a1), (2, g)]) rfl ?_
  refine wp_callv (pc' := 6) (as := [(2, g), (0, a1), (0, a2)]) (rest := []) (ls1 := [(2, g), (0, a1), (0, a2)]) rfl rfl rfl rfl (z_args_v rfl rfl rfl rfl (Nat.le_of_ble_eq_true rfl) rfl (by decide) (z_gl0 hg)) rfl ?_
  exact l1
set_option maxRecDepth 20000 in
theorem gX1_couldPair_6 {xs : List Int} {d : Nat} {M : z_M} {P : Option z_V → z_L → z_M → Prop} {x0 : Int} {x1 : Int} {x2 : Int} {s0 : Int} (hx0 : z_gor M x0)
    (l1 : (s0 = 0) → P (some (0, 0)) z_LL M)
    (b1 : (¬ (s0 = 0)) → 0 ≤ (z_w ((z_w (x1 * 6)) + x2)) ∧ (z_w ((z_w (x1 * 6)) + x2)) < 36)
    (l2 : (¬ (s0 = 0)) → ((M (x0 + 6) (z_w ((z_w (x1 * 6)) + x2))) = (-1)) → P (some (0, 0)) z_LL M)
    (b2 : (¬ (s0 = 0)) → (¬ ((M (x0 + 6) (z_w ((z_w (x1 * 6)) + x2))) = (-1))) → 0 ≤ (z_w ((z_w (x2 * 6)) + x1)) ∧ (z_w ((z_w (x2 * 6)) + x1)) < 36)
    (l3 : (¬ (s0 = 0)) → (¬ ((M (x0 + 6) (z_w ((z_w (x1 * 6)) + x2))) = (-1))) → ((M (x0 + 6) (z_w ((z_w (x2 * 6)) + x1))) = (-1)) → P (some (0, 0)) z_LL M)
    (l4 : (¬ (s0 = 0)) → (¬ ((M (x0 + 6) (z_w ((z_w (x1 * 6)) + x2))) = (-1))) → (¬ ((M (x0 + 6) (z_w ((z_w (x2 * 6)) + x1))) = (-1))) → P (some (0, 1)) z_LL M) :
    wp xs (d + 1) mX1_couldPair 6 [(2, x0), (0, x1), (0, x2)] [(0, s0)] z_LL M P := by
  refine wp_if1 rfl rfl rfl (fun (c1 : s0 = 0) => ?_) (fun (c1 : ¬ (s0 = 0)) => ?_)
  · refine wp_run 1 (pc' := 34) (ls' := [(2, x0), (0, x1), (0, x2)]) (st' := [(0, 0)]) rfl ?_
    exact wp_ret rfl rfl (l1 c1)
  · refine wp_run 3 (pc' := 12) (ls' := [(2, x0), (0, x1), (0, x2)]) (st' := [(0, x2), (0, x1), (2, x0)]) rfl ?_
    refine wp_callv (pc' := 15) (as := [(2, x0), (0, x1), (0, x2)]) (rest := []) (ls1 := [(2, x0), (0, x1), (0, x2)]) rfl rfl rfl rfl (z_args_v rfl rfl rfl rfl (Nat.le_of_ble_eq_true rfl) rfl (by decide) (z_gl0 hx0)) rfl ?_
    refine wp_run 1 (pc' := 1) (ls' := [(2, x0), (0, x1), (0, x2)]) (st' := [(2, x0)]) rfl ?_
    refine wp_gf (pc' := 4) (t := 2) (v := (x0 + 6)) rfl rfl (by decide) rfl (z_gl0 hx0) (z_gf5 hx0) ?_
    refine wp_run 5 (pc' := 10) (ls' := [(2, x0), (0, x1), (0, x2)]) (st' := [(0, (z_w ((z_w (x1 * 6)) + x2))), (2, (x0 + 6))]) rfl ?_
    refine wp_iald (pc' := 11) (v := (M (x0 + 6) (z_w ((z_w (x1 * 6)) + x2)))) rfl rfl (z_gl6 hx0) (b1 c1) rfl ?_
    refine wp_ret rfl rfl ?_
    show wp xs _ mX1_couldPair 15 [(2, x0), (0, x1), (0, x2)] [(0, (M (x0 + 6) (z_w ((z_w (x1 * 6)) + x2))))] z_LL M _
    refine wp_run 1 (pc' := 16) (ls' := [(2, x0), (0, x1), (0, x2)]) (st' := [(0, (-1)), (0, (M (x0 + 6) (z_w ((z_w (x1 * 6)) + x2))))]) rfl ?_
    refine wp_if2 rfl rfl rfl (fun (c2 : (M (x0 + 6) (z_w ((z_w (x1 * 6)) + x2))) = (-1)) => ?_) (fun (c2 : ¬ ((M (x0 + 6) (z_w ((z_w (x1 * 6)) + x2))) = (-1))) => ?_)
    · refine wp_run 1 (pc' := 34) (ls' := [(2, x0), (0, x1), (0, x2)]) (st' := [(0, 0)]) rfl ?_
      exact wp_ret rfl rfl (l2 c1 c2)
    · refine wp_run 3 (pc' := 22) (ls' := [(2, x0), (0, x1), (0, x2)]) (st' := [(0, x1), (0, x2), (2, x0)]) rfl ?_
      refine wp_callv (pc' := 25) (as := [(2, x0), (0, x2), (0, x1)]) (rest := []) (ls1 := [(2, x0), (0, x2), (0, x1)]) rfl rfl rfl rfl (z_args_v rfl rfl rfl rfl (Nat.le_of_ble_eq_true rfl) rfl (by decide) (z_gl0 hx0)) rfl ?_
      refine wp_run 1 (pc' := 1) (ls' := [(2, x0), (0, x2), (0, x1)]) (st' := [(2, x0)]) rfl ?_
      refine wp_gf (pc' := 4) (t := 2) (v := (x0 + 6)) rfl rfl (by decide) rfl (z_gl0 hx0) (z_gf5 hx0) ?_
      refine wp_run 5 (pc' := 10) (ls' := [(2, x0), (0, x2), (0, x1)]) (st' := [(0, (z_w ((z_w (x2 * 6)) + x1))), (2, (x0 + 6))]) rfl ?_
      refine wp_iald (pc' := 11) (v := (M (x0 + 6) (z_w ((z_w (x2 * 6)) + x1)))) rfl rfl (z_gl6 hx0) (b2 c1 c2) rfl ?_
      refine wp_ret rfl rfl ?_
      show wp xs _ mX1_couldPair 25 [(2, x0), (0, x1), (0, x2)] [(0, (M (x0 + 6) (z_w ((z_w (x2 * 6)) + x1))))] z_LL M _
      refine wp_run 1 (pc' := 26) (ls' := [(2, x0), (0, x1), (0, x2)]) (st' := [(0, (-1)), (0, (M (x0 + 6) (z_w ((z_w (x2 * 6)) + x1))))]) rfl ?_
      refine wp_if2 rfl rfl rfl (fun (c3 : (M (x0 + 6) (z_w ((z_w (x2 * 6)) + x1))) = (-1)) => ?_) (fun (c3 : ¬ ((M (x0 + 6) (z_w ((z_w (x2 * 6)) + x1))) = (-1))) => ?_)
      · refine wp_run 1 (pc' := 34) (ls' := [(2, x0), (0, x1), (0, x2)]) (st' := [(0, 0)]) rfl ?_
        exact wp_ret rfl rfl (l3 c1 c2 c3)
      · refine wp_run 2 (pc' := 34) (ls' := [(2, x0), (0, x1), (0, x2)]) (st' := [(0, 1)]) rfl ?_
        exact wp_ret rfl rfl (l4 c1 c2 c3)
set_option maxRecDepth 20000 in
theorem gX1_flockNamed_0 {xs : List Int} {d : Nat} {M : z_M} {P : Option z_V → z_L → z_M → Prop} {g : Int} {a1 : Int} (hg : z_gor M g)
    (l1 : wp xs d mX1_flockNamed 2 [(2, g), (1, a1), (3, 0), (0, 0)] [] z_LL M P) :
    wp xs d mX1_flockNamed 0 [(2, g), (1, a1), (3, 0), (3, 0)] [] z_LL M P := by
  refine wp_run 2 (pc' := 2) (ls' := [(2, g), (1, a1), (3, 0), (0, 0)]) (st' := []) rfl ?_
  exact l1
set_option maxRecDepth 20000 in
theorem gX1_flockNamed_2 {xs : List Int} {d : Nat} {M : z_M} {P : Option z_V → z_L → z_M → Prop} {x0 : Int} {x1 : Int} {x3 : Int} (hx0 : z_gor M x0)
    (l1 : ((M x0 12) ≤ x3) → P (some (0, (-1))) z_LL M)
    (b1 : (¬ ((M x0 12) ≤ x3)) → 0 ≤ x3 ∧ x3 < 6)
    (l2 : (¬ ((M x0 12) ≤ x3)) → ((z_lcmp (M (x0 + 1) x3) x1) ≠ 0) → wp xs d mX1_flockNamed 2 [(2, x0), (1, x1), (3, 0), (0, (z_w (x3 + 1)))] [] z_LL M P)
    (l3 : (¬ ((M x0 12) ≤ x3)) → (¬ ((z_lcmp (M (x0 + 1) x3) x1) ≠ 0)) → P (some (0, x3)) z_LL M) :
    wp xs d mX1_flockNamed 2 [(2, x0), (1, x1), (3, 0), (0, x3)] [] z_LL M P := by
  refine wp_run 2 (pc' := 4) (ls' := [(2, x0), (1, x1), (3, 0), (0, x3)]) (st' := [(2, x0), (0, x3)]) rfl ?_
  refine wp_gf (pc' := 7) (t := 0) (v := (M x0 12)) rfl rfl (by decide) rfl (z_gl0 hx0) rfl ?_
  refine wp_if2 rfl rfl rfl (fun (c1 : (M x0 12) ≤ x3) => ?_) (fun (c1 : ¬ ((M x0 12) ≤ x3)) => ?_)
  · refine wp_run 1 (pc' := 30) (ls' := [(2, x0), (1, x1), (3, 0), (0, x3)]) (st' := [(0, (-1))]) rfl ?_
    exact wp_ret rfl rfl (l1 c1)
  · refine wp_run 1 (pc' := 11) (ls' := [(2, x0), (1, x1), (3, 0), (0, x3)]) (st' := [(2, x0)]) rfl ?_
    refine wp_gf (pc' := 14) (t := 2) (v := (x0 + 1)) rfl rfl (by decide) rfl (z_gl0 hx0) (z_gf0 hx0) ?_
    refine wp_run 1 (pc' := 15) (ls' := [(2, x0), (1, x1), (3, 0), (0, x3)]) (st' := [(0, x3), (2, (x0 + 1))]) rfl ?_
    refine wp_lald (pc' := 16) (v := (M (x0 + 1) x3)) rfl rfl (z_gl1 hx0) (b1 c1) rfl ?_
    refine wp_run 2 (pc' := 18) (ls' := [(2, x0), (1, x1), (3, 0), (0, x3)]) (st' := [(0, (z_lcmp (M (x0 + 1) x3) x1))]) rfl ?_
    refine wp_if1 rfl rfl rfl (fun (c2 : (z_lcmp (M (x0 + 1) x3) x1) ≠ 0) => ?_) (fun (c2 : ¬ ((z_lcmp (M (x0 + 1) x3) x1) ≠ 0)) => ?_)
    · refine wp_run 2 (pc' := 2) (ls' := [(2, x0), (1, x1), (3, 0), (0, (z_w (x3 + 1)))]) (st' := []) rfl ?_
      exact l2 c1 c2
    · refine wp_run 1 (pc' := 22) (ls' := [(2, x0), (1, x1), (3, 0), (0, x3)]) (st' := [(0, x3)]) rfl ?_
      exact wp_ret rfl rfl (l3 c1 c2)
set_option maxRecDepth 20000 in
theorem gX1_hasCell_0 {xs : List Int} {d : Nat} {M : z_M} {P : Option z_V → z_L → z_M → Prop} {g : Int} {a1 : Int} (hg : z_gor M g)
    (l1 : (a1 < 0) → P (some (0, 0)) z_LL M)
    (l2 : (¬ (a1 < 0)) → ((z_w ((M g 10) * (M g 11))) ≤ a1) → P (some (0, 0)) z_LL M)
    (l3 : (¬ (a1 < 0)) → (¬ ((z_w ((M g 10) * (M g 11))) ≤ a1)) → P (some (0, 1)) z_LL M) :
    wp xs (d + 1) mX1_hasCell 0 [(2, g), (0, a1)] [] z_LL M P := by
  refine wp_run 1 (pc' := 1) (ls' := [(2, g), (0, a1)]) (st' := [(0, a1)]) rfl ?_
  refine wp_if1 rfl rfl rfl (fun (c1 : a1 < 0) => ?_) (fun (c1 : ¬ (a1 < 0)) => ?_)
  · refine wp_run 1 (pc' := 17) (ls' := [(2, g), (0, a1)]) (st' := [(0, 0)]) rfl ?_
    exact wp_ret rfl rfl (l1 c1)
  · refine wp_run 2 (pc' := 6) (ls' := [(2, g), (0, a1)]) (st' := [(2, g), (0, a1)]) rfl ?_
    refine wp_callv (pc' := 9) (as := [(2, g)]) (rest := [(0, a1)]) (ls1 := [(2, g)]) rfl rfl rfl rfl (z_args_v rfl rfl rfl rfl (Nat.le_of_ble_eq_true rfl) rfl (by decide) (z_gl0 hg)) rfl ?_
    refine wp_run 1 (pc' := 1) (ls' := [(2, g)]) (st' := [(2, g)]) rfl ?_
    refine wp_gf (pc' := 4) (t := 0) (v := (M g 10)) rfl rfl (by decide) rfl (z_gl0 hg) rfl ?_
    refine wp_run 1 (pc' := 5) (ls' := [(2, g)]) (st' := [(2, g), (0, (M g 10))]) rfl ?_
    refine wp_gf (pc' := 8) (t := 0) (v := (M g 11)) rfl rfl (by decide) rfl (z_gl0 hg) rfl ?_
    refine wp_run 1 (pc' := 9) (ls' := [(2, g)]) (st' := [(0, (z_w ((M g 10) * (M g 11))))]) rfl ?_
    refine wp_ret rfl rfl ?_
    show wp xs _ mX1_hasCell 9 [(2, g), (0, a1)] [(0, (z_w ((M g 10) * (M g 11)))), (0, a1)] z_LL M _
    refine wp_if2 rfl rfl rfl (fun (c2 : (z_w ((M g 10) * (M g 11))) ≤ a1) => ?_) (fun (c2 : ¬ ((z_w ((M g 10) * (M g 11))) ≤ a1)) => ?_)
    · refine wp_run 1 (pc' := 17) (ls' := [(2, g), (0, a1)]) (st' := [(0, 0)]) rfl ?_
      exact wp_ret rfl rfl (l2 c1 c2)
    · refine wp_run 2 (pc' := 17) (ls' := [(2, g), (0, a1)]) (st' := [(0, 1)]) rfl ?_
      exact wp_ret rfl rfl (l3 c1 c2)
set_option maxRecDepth 20000 in
theorem gX1_hasFlock_0 {xs : List Int} {d : Nat} {M : z_M} {P : Option z_V → z_L → z_M → Prop} {g : Int} {a1 : Int} (hg : z_gor M g)
    (l1 : (a1 < 0) → P (some (0, 0)) z_LL M)
    (l2 : (¬ (a1 < 0)) → ((M g 12) ≤ a1) → P (some (0, 0)) z_LL M)
    (l3 : (¬ (a1 < 0)) → (¬ ((M g 12) ≤ a1)) → P (some (0, 1)) z_LL M) :
    wp xs d mX1_hasFlock 0 [(2, g), (0, a1)] [] z_LL M P := by
  refine wp_run 1 (pc' := 1) (ls' := [(2, g), (0, a1)]) (st' := [(0, a1)]) rfl ?_
  refine wp_if1 rfl rfl rfl (fun (c1 : a1 < 0) => ?_) (fun (c1 : ¬ (a1 < 0)) => ?_)
  · refine wp_run 1 (pc' := 17) (ls' := [(2, g), (0, a1)]) (st' := [(0, 0)]) rfl ?_
    exact wp_ret rfl rfl (l1 c1)
  · refine wp_run 2 (pc' := 6) (ls' := [(2, g), (0, a1)]) (st' := [(2, g), (0, a1)]) rfl ?_
    refine wp_gf (pc' := 9) (t := 0) (v := (M g 12)) rfl rfl (by decide) rfl (z_gl0 hg) rfl ?_
    refine wp_if2 rfl rfl rfl (fun (c2 : (M g 12) ≤ a1) => ?_) (fun (c2 : ¬ ((M g 12) ≤ a1)) => ?_)
    · refine wp_run 1 (pc' := 17) (ls' := [(2, g), (0, a1)]) (st' := [(0, 0)]) rfl ?_
      exact wp_ret rfl rfl (l2 c1 c2)
    · refine wp_run 2 (pc' := 17) (ls' := [(2, g), (0, a1)]) (st' := [(0, 1)]) rfl ?_
      exact wp_ret rfl rfl (l3 c1 c2)
set_option maxRecDepth 20000 in
theorem gX1_haveFeud_0 {xs : List Int} {d : Nat} {M : z_M} {P : Option z_V → z_L → z_M → Prop} {g : Int} {a1 : Int} {a2 : Int} (hg : z_gor M g)
    (b1 : 0 ≤ a1 ∧ a1 < 6)
    (l1 : ((z_and (z_shr (M (g + 5) a1) a2) 1) = 0) → P (some (0, 0)) z_LL M)
    (l2 : (¬ ((z_and (z_shr (M (g + 5) a1) a2) 1) = 0)) → P (some (0, 1)) z_LL M) :
    wp xs d mX1_haveFeud 0 [(2, g), (0, a1), (0, a2)] [] z_LL M P := by
  refine wp_run 1 (pc' := 1) (ls' := [(2, g), (0, a1), (0, a2)]) (st' := [(2, g)]) rfl ?_
  refine wp_gf (pc' := 4) (t := 2) (v := (g + 5)) rfl rfl (by decide) rfl (z_gl0 hg) (z_gf4 hg) ?_
  refine wp_run 1 (pc' := 5) (ls' := [(2, g), (0, a1), (0, a2)]) (st' := [(0, a1), (2, (g + 5))]) rfl ?_
  refine wp_iald (pc' := 6) (v := (M (g + 5) a1)) rfl rfl (z_gl5 hg) (b1) rfl ?_
  refine wp_run 4 (pc' := 10) (ls' := [(2, g), (0, a1), (0, a2)]) (st' := [(0, (z_and (z_shr (M (g + 5) a1) a2) 1))]) rfl ?_
  refine wp_if1 rfl rfl rfl (fun (c1 : (z_and (z_shr (M (g + 5) a1) a2) 1) = 0) => ?_) (fun (c1 : ¬ ((z_and (z_shr (M (g + 5) a1) a2) 1) = 0)) => ?_)
  · refine wp_run 1 (pc' := 18) (ls' := [(2, g), (0, a1), (0, a2)]) (st' := [(0, 0)]) rfl ?_
    exact wp_ret rfl rfl (l1 c1)
  · refine wp_run 2 (pc' := 18) (ls' := [(2, g), (0, a1), (0, a2)]) (st' := [(0, 1)]) rfl ?_
    exact wp_ret rfl rfl (l2 c1)
