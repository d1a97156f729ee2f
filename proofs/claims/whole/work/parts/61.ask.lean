/-! THE CALLS: ask -/
set_option maxRecDepth 20000 in
theorem gX0_countWhere_0 {xs : List Int} {d : Nat} {M : z_M} {P : Option z_V → z_L → z_M → Prop} {a1 : Int} {a2 : Int} {a3 : Int} (hF : z_fix M) (ha1 : z_her M a1) (hn1 : a1 ≠ 39)
    (b1 : 0 ≤ a2 ∧ a2 < 25)
    (l1 : wp xs (d + 1) mX0_countWhere 22 [(2, 38), (2, a1), (0, a2), (0, a3), (0, 0)] [] z_LL (z_up (z_up (z_up (z_up (z_cpy (z_cpy (z_cpy (z_cpy (z_cpy M (a1 + 1) 0 40 0 6) (a1 + 2) 0 41 0 6) (a1 + 3) 0 42 0 25) (a1 + 4) 0 43 0 25) (a1 + 5) 0 44 0 36) 39 5 (M a1 5)) 39 6 (M a1 6)) 39 7 (M a1 7)) 43 a2 9) P) :
    wp xs (d + 1) mX0_countWhere 0 [(2, 38), (2, a1), (0, a2), (0, a3), (3, 0)] [] z_LL M P := by
  refine wp_run 1 (pc' := 1) (ls' := [(2, 38), (2, a1), (0, a2), (0, a3), (3, 0)]) (st' := [(2, 38)]) rfl ?_
  refine wp_gf (pc' := 4) (t := 2) (v := 39) rfl rfl (by decide) rfl rfl (fx_38_1 hF) ?_
  refine wp_run 1 (pc' := 5) (ls' := [(2, 38), (2, a1), (0, a2), (0, a3), (3, 0)]) (st' := [(2, a1), (2, 39)]) rfl ?_
  refine wp_callv (pc' := 8) (as := [(2, 39), (2, a1)]) (rest := []) (ls1 := [(2, 39), (2, a1)]) rfl rfl rfl rfl rfl rfl ?_
  refine wp_run 1 (pc' := 1) (ls' := [(2, 39), (2, a1)]) (st' := [(2, a1)]) rfl ?_
  refine wp_gf (pc' := 4) (t := 2) (v := (a1 + 1)) rfl rfl (by decide) rfl (z_hl0 ha1) (z_hf0 ha1) ?_
  refine wp_run 2 (pc' := 6) (ls' := [(2, 39), (2, a1)]) (st' := [(2, 39), (0, 0), (2, (a1 + 1))]) rfl ?_
  refine wp_gf (pc' := 9) (t := 2) (v := 40) rfl rfl (by decide) rfl rfl (fx_39_0 hF) ?_
  refine wp_run 2 (pc' := 12) (ls' := [(2, 39), (2, a1)]) (st' := [(0, 6), (0, 0), (2, 40), (0, 0), (2, (a1 + 1))]) rfl ?_
  refine wp_acp (pc' := 15) rfl rfl (z_hl1 ha1) rfl (by decide) ?_
  refine wp_run 1 (pc' := 16) (ls' := [(2, 39), (2, a1)]) (st' := [(2, a1)]) rfl ?_
  refine wp_gf (pc' := 19) (t := 2) (v := (a1 + 2)) rfl rfl (by decide) rfl (z_hl0 ha1) (z_cpq (by have := z_hr ha1; omega) (z_hf1 ha1)) ?_
  refine wp_run 2 (pc' := 21) (ls' := [(2, 39), (2, a1)]) (st' := [(2, 39), (0, 0), (2, (a1 + 2))]) rfl ?_
  refine wp_gf (pc' := 24) (t := 2) (v := 41) rfl rfl (by decide) rfl rfl (z_cpq (by decide) (fx_39_1 hF)) ?_
  refine wp_run 2 (pc' := 27) (ls' := [(2, 39), (2, a1)]) (st' := [(0, 6), (0, 0), (2, 41), (0, 0), (2, (a1 + 2))]) rfl ?_
  refine wp_acp (pc' := 30) rfl rfl (z_hl2 ha1) rfl (by decide) ?_
  refine wp_run 1 (pc' := 31) (ls' := [(2, 39), (2, a1)]) (st' := [(2, a1)]) rfl ?_
  refine wp_gf (pc' := 34) (t := 2) (v := (a1 + 3)) rfl rfl (by decide) rfl (z_hl0 ha1) (z_cpq (by have := z_hr ha1; omega) (z_cpq (by have := z_hr ha1; omega) (z_hf2 ha1))) ?_
  refine wp_run 2 (pc' := 36) (ls' := [(2, 39), (2, a1)]) (st' := [(2, 39), (0, 0), (2, (a1 + 3))]) rfl ?_
  refine wp_gf (pc' := 39) (t := 2) (v := 42) rfl rfl (by decide) rfl rfl (z_cpq (by decide) (z_cpq (by decide) (fx_39_2 hF))) ?_
  refine wp_run 2 (pc' := 42) (ls' := [(2, 39), (2, a1)]) (st' := [(0, 25), (0, 0), (2, 42), (0, 0), (2, (a1 + 3))]) rfl ?_
  refine wp_acp (pc' := 45) rfl rfl (z_hl3 ha1) rfl (by decide) ?_
  refine wp_run 1 (pc' := 46) (ls' := [(2, 39), (2, a1)]) (st' := [(2, a1)]) rfl ?_
  refine wp_gf (pc' := 49) (t := 2) (v := (a1 + 4)) rfl rfl (by decide) rfl (z_hl0 ha1) (z_cpq (by have := z_hr ha1; omega) (z_cpq (by have := z_hr ha1; omega) (z_cpq (by have := z_hr ha1; omega) (z_hf3 ha1)))) ?_
  refine wp_run 2 (pc' := 51) (ls' := [(2, 39), (2, a1)]) (st' := [(2, 39), (0, 0), (2, (a1 + 4))]) rfl ?_
  refine wp_gf (pc' := 54) (t := 2) (v := 43) rfl rfl (by decide) rfl rfl (z_cpq (by decide) (z_cpq (by decide) (z_cpq (by decide) (fx_39_3 hF)))) ?_
  refine wp_run 2 (pc' := 57) (ls' := [(2, 39), (2, a1)]) (st' := [(0, 25), (0, 0), (2, 43), (0, 0), (2, (a1 + 4))]) rfl ?_
  refine wp_acp (pc' := 60) rfl rfl (z_hl4 ha1) rfl (by decide) ?_
  refine wp_run 1 (pc' := 61) (ls' := [(2, 39), (2, a1)]) (st' := [(2, a1)]) rfl ?_
  refine wp_gf (pc' := 64) (t := 2) (v := (a1 + 5)) rfl rfl (by decide) rfl (z_hl0 ha1) (z_cpq (by have := z_hr ha1; omega) (z_cpq (by have := z_hr ha1; omega) (z_cpq (by have := z_hr ha1; omega) (z_cpq (by have := z_hr ha1; omega) (z_hf4 ha1))))) ?_
  refine wp_run 2 (pc' := 66) (ls' := [(2, 39), (2, a1)]) (st' := [(2, 39), (0, 0), (2, (a1 + 5))]) rfl ?_
  refine wp_gf (pc' := 69) (t := 2) (v := 44) rfl rfl (by decide) rfl rfl (z_cpq (by decide) (z_cpq (by decide) (z_cpq (by decide) (z_cpq (by decide) (fx_39_4 hF))))) ?_
  refine wp_run 2 (pc' := 71) (ls' := [(2, 39), (2, a1)]) (st' := [(2, 39), (0, 0), (2, 44), (0, 0), (2, (a1 + 5))]) rfl ?_
  refine wp_gf (pc' := 74) (t := 2) (v := 44) rfl rfl (by decide) rfl rfl (z_cpq (by decide) (z_cpq (by decide) (z_cpq (by decide) (z_cpq (by decide) (fx_39_4 hF))))) ?_
  refine wp_len (pc' := 75) rfl rfl rfl (by decide) ?_
  refine wp_acp (pc' := 78) rfl rfl (z_hl5 ha1) rfl (by decide) ?_
  refine wp_run 2 (pc' := 80) (ls' := [(2, 39), (2, a1)]) (st' := [(2, a1), (2, 39)]) rfl ?_
  refine wp_gf (pc' := 83) (t := 0) (v := (M a1 5)) rfl rfl (by decide) rfl (z_hl0 ha1) (z_cpq (by have := z_hr ha1; omega) (z_cpq (by have := z_hr ha1; omega) (z_cpq (by have := z_hr ha1; omega) (z_cpq (by have := z_hr ha1; omega) (z_cpq (by have := z_hr ha1; omega) rfl))))) ?_
  refine wp_pf (pc' := 86) rfl rfl rfl rfl (fun z => absurd z (by decide)) (fun z => absurd z (by decide)) ?_
  refine wp_run 2 (pc' := 88) (ls' := [(2, 39), (2, a1)]) (st' := [(2, a1), (2, 39)]) rfl ?_
  refine wp_gf (pc' := 91) (t := 0) (v := (M a1 6)) rfl rfl (by decide) rfl (z_hl0 ha1) (z_upq (by have := z_hr ha1; omega) (z_cpq (by have := z_hr ha1; omega) (z_cpq (by have := z_hr ha1; omega) (z_cpq (by have := z_hr ha1; omega) (z_cpq (by have := z_hr ha1; omega) (z_cpq (by have := z_hr ha1; omega) rfl)))))) ?_
  refine wp_pf (pc' := 94) rfl rfl rfl rfl (fun z => absurd z (by decide)) (fun z => absurd z (by decide)) ?_
  refine wp_run 2 (pc' := 96) (ls' := [(2, 39), (2, a1)]) (st' := [(2, a1), (2, 39)]) rfl ?_
  refine wp_gf (pc' := 99) (t := 0) (v := (M a1 7)) rfl rfl (by decide) rfl (z_hl0 ha1) (z_upq (by have := z_hr ha1; omega) (z_upq (by have := z_hr ha1; omega) (z_cpq (by have := z_hr ha1; omega) (z_cpq (by have := z_hr ha1; omega) (z_cpq (by have := z_hr ha1; omega) (z_cpq (by have := z_hr ha1; omega) (z_cpq (by have := z_hr ha1; omega) rfl))))))) ?_
  refine wp_pf (pc' := 102) rfl rfl rfl rfl (fun z => absurd z (by decide)) (fun z => absurd z (by decide)) ?_
  refine wp_ret rfl rfl ?_
  show wp xs _ mX0_countWhere 8 [(2, 38), (2, a1), (0, a2), (0, a3), (3, 0)] [] z_LL (z_up (z_up (z_up (z_cpy (z_cpy (z_cpy (z_cpy (z_cpy M (a1 + 1) 0 40 0 6) (a1 + 2) 0 41 0 6) (a1 + 3) 0 42 0 25) (a1 + 4) 0 43 0 25) (a1 + 5) 0 44 0 36) 39 5 (M a1 5)) 39 6 (M a1 6)) 39 7 (M a1 7)) _
  refine wp_run 1 (pc' := 9) (ls' := [(2, 38), (2, a1), (0, a2), (0, a3), (3, 0)]) (st' := [(2, 38)]) rfl ?_
  refine wp_gf (pc' := 12) (t := 2) (v := 39) rfl rfl (by decide) rfl rfl (z_upq (by decide) (z_upq (by decide) (z_upq (by decide) (z_cpq (by decide) (z_cpq (by decide) (z_cpq (by decide) (z_cpq (by decide) (z_cpq (by decide) (fx_38_1 hF))))))))) ?_
  refine wp_gf (pc' := 15) (t := 2) (v := 43) rfl rfl (by decide) rfl rfl (z_upi (by decide) (z_upi (by decide) (z_upi (by decide) (z_cpq (by decide) (z_cpq (by decide) (z_cpq (by decide) (z_cpq (by decide) (z_cpq (by decide) (fx_39_3 hF))))))))) ?_
  refine wp_run 2 (pc' := 18) (ls' := [(2, 38), (2, a1), (0, a2), (0, a3), (3, 0)]) (st' := [(0, 9), (0, a2), (2, 43)]) rfl ?_
  refine wp_iast (pc' := 19) rfl rfl rfl (b1) ?_
  refine wp_run 2 (pc' := 22) (ls' := [(2, 38), (2, a1), (0, a2), (0, a3), (0, 0)]) (st' := []) rfl ?_
  exact l1
set_option maxRecDepth 20000 in
theorem gX0_countWhere_22 {xs : List Int} {d : Nat} {M : z_M} {P : Option z_V → z_L → z_M → Prop} {x1 : Int} {x2 : Int} {x3 : Int} {x4 : Int} (hF : z_fix M) (hx1 : z_her M x1) (hg2 : z_gor M (M 34 3))
    (l1 : (x3 ≤ x4) → wp xs (d + 1) mX0_countWhere 59 [(2, 38), (2, x1), (0, x2), (0, x3), (0, 0)] [] z_LL M P)
    (l2 : (¬ (x3 ≤ x4)) → wp xs d mX8_pass 0 [(2, 34), (2, 39), (0, (M (M 34 3) 18)), (3, 0)] [] z_LL M (fun r L1 M1 => wp xs (d + 1) mX0_countWhere 49 [(2, 38), (2, x1), (0, x2), (0, x3), (0, x4)] (z_ol r ++ []) L1 M1 P)) :
    wp xs (d + 1) mX0_countWhere 22 [(2, 38), (2, x1), (0, x2), (0, x3), (0, x4)] [] z_LL M P := by
  refine wp_run 2 (pc' := 25) (ls' := [(2, 38), (2, x1), (0, x2), (0, x3), (0, x4)]) (st' := [(0, x3), (0, x4)]) rfl ?_
  refine wp_if2 rfl rfl rfl (fun (c1 : x3 ≤ x4) => ?_) (fun (c1 : ¬ (x3 ≤ x4)) => ?_)
  · refine wp_run 2 (pc' := 59) (ls' := [(2, 38), (2, x1), (0, x2), (0, x3), (0, 0)]) (st' := []) rfl ?_
    exact l1 c1
  · refine wp_run 1 (pc' := 29) (ls' := [(2, 38), (2, x1), (0, x2), (0, x3), (0, x4)]) (st' := [(2, 38)]) rfl ?_
    refine wp_gf (pc' := 32) (t := 2) (v := 34) rfl rfl (by decide) rfl rfl (fx_38_0 hF) ?_
    refine wp_run 1 (pc' := 33) (ls' := [(2, 38), (2, x1), (0, x2), (0, x3), (0, x4)]) (st' := [(2, 38), (2, 34)]) rfl ?_
    refine wp_gf (pc' := 36) (t := 2) (v := 39) rfl rfl (by decide) rfl rfl (fx_38_1 hF) ?_
    refine wp_run 1 (pc' := 37) (ls' := [(2, 38), (2, x1), (0, x2), (0, x3), (0, x4)]) (st' := [(2, 38), (2, 39), (2, 34)]) rfl ?_
    refine wp_gf (pc' := 40) (t := 2) (v := 34) rfl rfl (by decide) rfl rfl (fx_38_0 hF) ?_
    refine wp_gf (pc' := 43) (t := 2) (v := (M 34 3)) rfl rfl (by decide) rfl rfl rfl ?_
    refine wp_gf (pc' := 46) (t := 0) (v := (M (M 34 3) 18)) rfl rfl (by decide) rfl (z_gl0 hg2) rfl ?_
    refine wp_callv (pc' := 49) (as := [(2, 34), (2, 39), (0, (M (M 34 3) 18))]) (rest := []) (ls1 := [(2, 34), (2, 39), (0, (M (M 34 3) 18)), (3, 0)]) rfl rfl rfl rfl rfl rfl ?_
    exact l2 c1
set_option maxRecDepth 20000 in
theorem gX0_countWhere_49 {xs : List Int} {d : Nat} {M : z_M} {P : Option z_V → z_L → z_M → Prop} {x1 : Int} {x2 : Int} {x3 : Int} {x4 : Int} {s0 : Int} (hx1 : z_her M x1)
    (l1 : wp xs d mX0_countWhere 22 [(2, 38), (2, x1), (0, x2), (0, x3), (0, (z_w (x4 + 1)))] [] z_LL M P) :
    wp xs d mX0_countWhere 49 [(2, 38), (2, x1), (0, x2), (0, x3), (0, x4)] [(0, s0)] z_LL M P := by
  refine wp_run 3 (pc' := 22) (ls' := [(2, 38), (2, x1), (0, x2), (0, x3), (0, (z_w (x4 + 1)))]) (st' := []) rfl ?_
  exact l1
set_option maxRecDepth 20000 in
theorem gX0_countWhere_59 {xs : List Int} {d : Nat} {M : z_M} {P : Option z_V → z_L → z_M → Prop} {x1 : Int} {x2 : Int} {x3 : Int} {x4 : Int} (hF : z_fix M) (hx1 : z_her M x1) (hg2 : z_gor M (M 34 3))
    (l1 : ((M (M 34 3) 12) ≤ x4) → P none z_LL M)
    (b1 : (¬ ((M (M 34 3) 12) ≤ x4)) → 0 ≤ x4 ∧ x4 < 6)
    (b2 : (¬ ((M (M 34 3) 12) ≤ x4)) → 0 ≤ (z_w ((z_w (x4 * 25)) + (M 40 x4))) ∧ (z_w ((z_w (x4 * 25)) + (M 40 x4))) < 150)
    (l2 : (¬ ((M (M 34 3) 12) ≤ x4)) → wp xs d mX0_countWhere 59 [(2, 38), (2, x1), (0, x2), (0, x3), (0, (z_w (x4 + 1)))] [] z_LL (z_up M 46 (z_w ((z_w (x4 * 25)) + (M 40 x4))) (z_w ((M 46 (z_w ((z_w (x4 * 25)) + (M 40 x4)))) + 1))) P) :
    wp xs d mX0_countWhere 59 [(2, 38), (2, x1), (0, x2), (0, x3), (0, x4)] [] z_LL M P := by
  refine wp_run 2 (pc' := 62) (ls' := [(2, 38), (2, x1), (0, x2), (0, x3), (0, x4)]) (st' := [(2, 38), (0, x4)]) rfl ?_
  refine wp_gf (pc' := 65) (t := 2) (v := 34) rfl rfl (by decide) rfl rfl (fx_38_0 hF) ?_
  refine wp_gf (pc' := 68) (t := 2) (v := (M 34 3)) rfl rfl (by decide) rfl rfl rfl ?_
  refine wp_gf (pc' := 71) (t := 0) (v := (M (M 34 3) 12)) rfl rfl (by decide) rfl (z_gl0 hg2) rfl ?_
  refine wp_if2 rfl rfl rfl (fun (c1 : (M (M 34 3) 12) ≤ x4) => ?_) (fun (c1 : ¬ ((M (M 34 3) 12) ≤ x4)) => ?_)
  · exact wp_ret rfl rfl (l1 c1)
  · refine wp_run 1 (pc' := 75) (ls' := [(2, 38), (2, x1), (0, x2), (0, x3), (0, x4)]) (st' := [(2, 38)]) rfl ?_
    refine wp_gf (pc' := 78) (t := 2) (v := 46) rfl rfl (by decide) rfl rfl (fx_38_3 hF) ?_
    refine wp_run 4 (pc' := 84) (ls' := [(2, 38), (2, x1), (0, x2), (0, x3), (0, x4)]) (st' := [(2, 38), (0, (z_w (x4 * 25))), (2, 46)]) rfl ?_
    refine wp_gf (pc' := 87) (t := 2) (v := 39) rfl rfl (by decide) rfl rfl (fx_38_1 hF) ?_
    refine wp_gf (pc' := 90) (t := 2) (v := 40) rfl rfl (by decide) rfl rfl (fx_39_0 hF) ?_
    refine wp_run 1 (pc' := 92) (ls' := [(2, 38), (2, x1), (0, x2), (0, x3), (0, x4)]) (st' := [(0, x4), (2, 40), (0, (z_w (x4 * 25))), (2, 46)]) rfl ?_
    refine wp_iald (pc' := 93) (v := (M 40 x4)) rfl rfl rfl (b1 c1) rfl ?_
    refine wp_run 2 (pc' := 95) (ls' := [(2, 38), (2, x1), (0, x2), (0, x3), (0, x4)]) (st' := [(0, (z_w ((z_w (x4 * 25)) + (M 40 x4)))), (2, 46), (0, (z_w ((z_w (x4 * 25)) + (M 40 x4)))), (2, 46)]) rfl ?_
    refine wp_iald (pc' := 96) (v := (M 46 (z_w ((z_w (x4 * 25)) + (M 40 x4))))) rfl rfl rfl (b2 c1) rfl ?_
    refine wp_run 2 (pc' := 98) (ls' := [(2, 38), (2, x1), (0, x2), (0, x3), (0, x4)]) (st' := [(0, (z_w ((M 46 (z_w ((z_w (x4 * 25)) + (M 40 x4)))) + 1))), (0, (z_w ((z_w (x4 * 25)) + (M 40 x4)))), (2, 46)]) rfl ?_
    refine wp_iast (pc' := 99) rfl rfl rfl (b2 c1) ?_
    refine wp_run 2 (pc' := 59) (ls' := [(2, 38), (2, x1), (0, x2), (0, x3), (0, (z_w (x4 + 1)))]) (st' := []) rfl ?_
    exact l2 c1
set_option maxRecDepth 20000 in
theorem gX0_nextToWatch_0 {xs : List Int} {d : Nat} {M : z_M} {P : Option z_V → z_L → z_M → Prop} {a1 : Int} {a2 : Int} {a3 : Int} (hF : z_fix M) (ha1 : z_her M a1)
    (l1 : wp xs d mJ7_fill_53178 0 [(2, 46), (0, 0), (3, 0), (3, 0)] [] z_LL M (fun r L1 M1 => wp xs (d + 1) mX0_nextToWatch 8 [(2, 38), (2, a1), (0, a2), (0, a3), (3, 0), (3, 0), (3, 0), (3, 0)] (z_ol r ++ []) L1 M1 P)) :
    wp xs (d + 1) mX0_nextToWatch 0 [(2, 38), (2, a1), (0, a2), (0, a3), (3, 0), (3, 0), (3, 0), (3, 0)] [] z_LL M P := by
  refine wp_run 1 (pc' := 1) (ls' := [(2, 38), (2, a1), (0, a2), (0, a3), (3, 0), (3, 0), (3, 0), (3, 0)]) (st' := [(2, 38)]) rfl ?_
  refine wp_gf (pc' := 4) (t := 2) (v := 46) rfl rfl (by decide) rfl rfl (fx_38_3 hF) ?_
  refine wp_run 1 (pc' := 5) (ls' := [(2, 38), (2, a1), (0, a2), (0, a3), (3, 0), (3, 0), (3, 0), (3, 0)]) (st' := [(0, 0), (2, 46)]) rfl ?_
  refine wp_callv (pc' := 8) (as := [(2, 46), (0, 0)]) (rest := []) (ls1 := [(2, 46), (0, 0), (3, 0), (3, 0)]) rfl rfl rfl rfl rfl rfl ?_
  exact l1
set_option maxRecDepth 20000 in
theorem gX0_nextToWatch_8 {xs : List Int} {d : Nat} {M : z_M} {P : Option z_V → z_L → z_M → Prop} {x1 : Int} {x2 : Int} {x3 : Int} (hx1 : z_her M x1)
    (l1 : wp xs d mX0_nextToWatch 11 [(2, 38), (2, x1), (0, x2), (0, x3), (0, 0), (3, 0), (3, 0), (3, 0)] [] z_LL M P) :
    wp xs d mX0_nextToWatch 8 [(2, 38), (2, x1), (0, x2), (0, x3), (3, 0), (3, 0), (3, 0), (3, 0)] [] z_LL M P := by
  refine wp_run 2 (pc' := 11) (ls' := [(2, 38), (2, x1), (0, x2), (0, x3), (0, 0), (3, 0), (3, 0), (3, 0)]) (st' := []) rfl ?_
  exact l1
set_option maxRecDepth 20000 in
theorem gX0_nextToWatch_11 {xs : List Int} {d : Nat} {M : z_M} {P : Option z_V → z_L → z_M → Prop} {x1 : Int} {x2 : Int} {x3 : Int} {x4 : Int} (hF : z_fix M) (hx1 : z_her M x1) (hg2 : z_gor M (M 34 3))
    (l1 : ((z_w ((M (M 34 3) 10) * (M (M 34 3) 11))) ≤ x4) → wp xs (d + 1) mX0_nextToWatch 55 [(2, 38), (2, x1), (0, x2), (0, x3), (0, (-1)), (0, 0), (3, 0), (3, 0)] [] z_LL M P)
    (l2 : (¬ ((z_w ((M (M 34 3) 10) * (M (M 34 3) 11))) ≤ x4)) → ((z_and (z_shr x2 x4) 1) = 0) → wp xs (d + 1) mX0_nextToWatch 11 [(2, 38), (2, x1), (0, x2), (0, x3), (0, (z_w (x4 + 1))), (3, 0), (3, 0), (3, 0)] [] z_LL M P)
    (l3 : (¬ ((z_w ((M (M 34 3) 10) * (M (M 34 3) 11))) ≤ x4)) → (¬ ((z_and (z_shr x2 x4) 1) = 0)) → wp xs d mX0_countWhere 0 [(2, 38), (2, x1), (0, x4), (0, x3), (3, 0)] [] z_LL M (fun r L1 M1 => wp xs (d + 1) mX0_nextToWatch 43 [(2, 38), (2, x1), (0, x2), (0, x3), (0, x4), (3, 0), (3, 0), (3, 0)] (z_ol r ++ []) L1 M1 P)) :
    wp xs (d + 1) mX0_nextToWatch 11 [(2, 38), (2, x1), (0, x2), (0, x3), (0, x4), (3, 0), (3, 0), (3, 0)] [] z_LL M P := by
  refine wp_run 2 (pc' := 14) (ls' := [(2, 38), (2, x1), (0, x2), (0, x3), (0, x4), (3, 0), (3, 0), (3, 0)]) (st' := [(2, 38), (0, x4)]) rfl ?_
  refine wp_gf (pc' := 17) (t := 2) (v := 34) rfl rfl (by decide) rfl rfl (fx_38_0 hF) ?_
  refine wp_gf (pc' := 20) (t := 2) (v := (M 34 3)) rfl rfl (by decide) rfl rfl rfl ?_
  refine wp_callv (pc' := 23) (as := [(2, (M 34 3))]) (rest := [(0, x4)]) (ls1 := [(2, (M 34 3))]) rfl rfl rfl rfl (z_args_v rfl rfl rfl rfl (Nat.le_of_ble_eq_true rfl) rfl (by decide) (z_gl0 hg2)) rfl ?_
  refine wp_run 1 (pc' := 1) (ls' := [(2, (M 34 3))]) (st' := [(2, (M 34 3))]) rfl ?_
  refine wp_gf (pc' := 4) (t := 0) (v := (M (M 34 3) 10)) rfl rfl (by decide) rfl (z_gl0 hg2) rfl ?_
  refine wp_run 1 (pc' := 5) (ls' := [(2, (M 34 3))]) (st' := [(2, (M 34 3)), (0, (M (M 34 3) 10))]) rfl ?_
  refine wp_gf (pc' := 8) (t := 0) (v := (M (M 34 3) 11)) rfl rfl (by decide) rfl (z_gl0 hg2) rfl ?_
  refine wp_run 1 (pc' := 9) (ls' := [(2, (M 34 3))]) (st' := [(0, (z_w ((M (M 34 3) 10) * (M (M 34 3) 11))))]) rfl ?_
  refine wp_ret rfl rfl ?_
  show wp xs _ mX0_nextToWatch 23 [(2, 38), (2, x1), (0, x2), (0, x3), (0, x4), (3, 0), (3, 0), (3, 0)] [(0, (z_w ((M (M 34 3) 10) * (M (M 34 3) 11)))), (0, x4)] z_LL M _
  refine wp_if2 rfl rfl rfl (fun (c1 : (z_w ((M (M 34 3) 10) * (M (M 34 3) 11))) ≤ x4) => ?_) (fun (c1 : ¬ ((z_w ((M (M 34 3) 10) * (M (M 34 3) 11))) ≤ x4)) => ?_)
  · refine wp_run 4 (pc' := 55) (ls' := [(2, 38), (2, x1), (0, x2), (0, x3), (0, (-1)), (0, 0), (3, 0), (3, 0)]) (st' := []) rfl ?_
    exact l1 c1
  · refine wp_run 5 (pc' := 32) (ls' := [(2, 38), (2, x1), (0, x2), (0, x3), (0, x4), (3, 0), (3, 0), (3, 0)]) (st' := [(0, (z_and (z_shr x2 x4) 1))]) rfl ?_
    refine wp_if1 rfl rfl rfl (fun (c2 : (z_and (z_shr x2 x4) 1) = 0) => ?_) (fun (c2 : ¬ ((z_and (z_shr x2 x4) 1) = 0)) => ?_)
    · refine wp_run 2 (pc' := 11) (ls' := [(2, 38), (2, x1), (0, x2), (0, x3), (0, (z_w (x4 + 1))), (3, 0), (3, 0), (3, 0)]) (st' := []) rfl ?_
      exact l2 c1 c2
    · refine wp_run 4 (pc' := 40) (ls' := [(2, 38), (2, x1), (0, x2), (0, x3), (0, x4), (3, 0), (3, 0), (3, 0)]) (st' := [(0, x3), (0, x4), (2, x1), (2, 38)]) rfl ?_
      refine wp_callv (pc' := 43) (as := [(2, 38), (2, x1), (0, x4), (0, x3)]) (rest := []) (ls1 := [(2, 38), (2, x1), (0, x4), (0, x3), (3, 0)]) rfl rfl rfl rfl rfl rfl ?_
      exact l3 c1 c2
set_option maxRecDepth 20000 in
theorem gX0_nextToWatch_43 {xs : List Int} {d : Nat} {M : z_M} {P : Option z_V → z_L → z_M → Prop} {x1 : Int} {x2 : Int} {x3 : Int} {x4 : Int} (hx1 : z_her M x1)
    (l1 : wp xs d mX0_nextToWatch 11 [(2, 38), (2, x1), (0, x2), (0, x3), (0, (z_w (x4 + 1))), (3, 0), (3, 0), (3, 0)] [] z_LL M P) :
    wp xs d mX0_nextToWatch 43 [(2, 38), (2, x1), (0, x2), (0, x3), (0, x4), (3, 0), (3, 0), (3, 0)] [] z_LL M P := by
  refine wp_run 2 (pc' := 11) (ls' := [(2, 38), (2, x1), (0, x2), (0, x3), (0, (z_w (x4 + 1))), (3, 0), (3, 0), (3, 0)]) (st' := []) rfl ?_
  exact l1
set_option maxRecDepth 20000 in
theorem gX0_nextToWatch_55 {xs : List Int} {d : Nat} {M : z_M} {P : Option z_V → z_L → z_M → Prop} {x1 : Int} {x2 : Int} {x3 : Int} {x4 : Int} {x5 : Int} {w6 : z_V} {w7 : z_V} (hF : z_fix M) (hx1 : z_her M x1) (hg2 : z_gor M (M 34 3))
    (l1 : ((M (M 34 3) 12) ≤ x5) → P (some (0, x4)) z_LL M)
    (l2 : (¬ ((M (M 34 3) 12) ≤ x5)) → wp xs d mX0_nextToWatch 76 [(2, 38), (2, x1), (0, x2), (0, x3), (0, x4), (0, x5), (0, 0), (0, 0)] [] z_LL M P) :
    wp xs d mX0_nextToWatch 55 [(2, 38), (2, x1), (0, x2), (0, x3), (0, x4), (0, x5), w6, w7] [] z_LL M P := by
  refine wp_run 2 (pc' := 58) (ls' := [(2, 38), (2, x1), (0, x2), (0, x3), (0, x4), (0, x5), w6, w7]) (st' := [(2, 38), (0, x5)]) rfl ?_
  refine wp_gf (pc' := 61) (t := 2) (v := 34) rfl rfl (by decide) rfl rfl (fx_38_0 hF) ?_
  refine wp_gf (pc' := 64) (t := 2) (v := (M 34 3)) rfl rfl (by decide) rfl rfl rfl ?_
  refine wp_gf (pc' := 67) (t := 0) (v := (M (M 34 3) 12)) rfl rfl (by decide) rfl (z_gl0 hg2) rfl ?_
  refine wp_if2 rfl rfl rfl (fun (c1 : (M (M 34 3) 12) ≤ x5) => ?_) (fun (c1 : ¬ ((M (M 34 3) 12) ≤ x5)) => ?_)
  · refine wp_run 1 (pc' := 142) (ls' := [(2, 38), (2, x1), (0, x2), (0, x3), (0, x4), (0, x5), w6, w7]) (st' := [(0, x4)]) rfl ?_
    exact wp_ret rfl rfl (l1 c1)
  · refine wp_run 4 (pc' := 76) (ls' := [(2, 38), (2, x1), (0, x2), (0, x3), (0, x4), (0, x5), (0, 0), (0, 0)]) (st' := []) rfl ?_
    exact l2 c1
set_option maxRecDepth 20000 in
theorem gX0_nextToWatch_76 {xs : List Int} {d : Nat} {M : z_M} {P : Option z_V → z_L → z_M → Prop} {x1 : Int} {x2 : Int} {x3 : Int} {x4 : Int} {x5 : Int} {x6 : Int} {x7 : Int} (hF : z_fix M) (hx1 : z_her M x1)
    (l1 : (25 ≤ x7) → (x4 = (-1)) → wp xs d mX0_nextToWatch 55 [(2, 38), (2, x1), (0, x2), (0, x3), (0, x5), (0, (z_w (x5 + 1))), (0, x6), (0, x7)] [] z_LL (z_up M 38 8 x6) P)
    (l2 : (25 ≤ x7) → (¬ (x4 = (-1))) → ((M 38 8) ≤ x6) → wp xs d mX0_nextToWatch 55 [(2, 38), (2, x1), (0, x2), (0, x3), (0, x4), (0, (z_w (x5 + 1))), (0, x6), (0, x7)] [] z_LL M P)
    (l3 : (25 ≤ x7) → (¬ (x4 = (-1))) → (¬ ((M 38 8) ≤ x6)) → wp xs d mX0_nextToWatch 55 [(2, 38), (2, x1), (0, x2), (0, x3), (0, x5), (0, (z_w (x5 + 1))), (0, x6), (0, x7)] [] z_LL (z_up M 38 8 x6) P)
    (b1 : (¬ (25 ≤ x7)) → 0 ≤ (z_w ((z_w (x5 * 25)) + x7)) ∧ (z_w ((z_w (x5 * 25)) + x7)) < 150)
    (l4 : (¬ (25 ≤ x7)) → wp xs d mX0_nextToWatch 76 [(2, 38), (2, x1), (0, x2), (0, x3), (0, x4), (0, x5), (0, (z_max x6 (M 46 (z_w ((z_w (x5 * 25)) + x7))))), (0, (z_w (x7 + 1)))] [] z_LL M P) :
    wp xs d mX0_nextToWatch 76 [(2, 38), (2, x1), (0, x2), (0, x3), (0, x4), (0, x5), (0, x6), (0, x7)] [] z_LL M P := by
  refine wp_run 2 (pc' := 80) (ls' := [(2, 38), (2, x1), (0, x2), (0, x3), (0, x4), (0, x5), (0, x6), (0, x7)]) (st' := [(0, 25), (0, x7)]) rfl ?_
  refine wp_if2 rfl rfl rfl (fun (c1 : 25 ≤ x7) => ?_) (fun (c1 : ¬ (25 ≤ x7)) => ?_)
  · refine wp_run 2 (pc' := 112) (ls' := [(2, 38), (2, x1), (0, x2), (0, x3), (0, x4), (0, x5), (0, x6), (0, x7)]) (st' := [(0, (-1)), (0, x4)]) rfl ?_
    refine wp_if2 rfl rfl rfl (fun (c2 : x4 = (-1)) => ?_) (fun (c2 : ¬ (x4 = (-1))) => ?_)
    · refine wp_run 4 (pc' := 131) (ls' := [(2, 38), (2, x1), (0, x2), (0, x3), (0, x5), (0, x5), (0, x6), (0, x7)]) (st' := [(0, x6), (2, 38)]) rfl ?_
      refine wp_pf (pc' := 134) rfl rfl rfl rfl (fun z => absurd z (by decide)) (fun z => absurd z (by decide)) ?_
      refine wp_run 2 (pc' := 55) (ls' := [(2, 38), (2, x1), (0, x2), (0, x3), (0, x5), (0, (z_w (x5 + 1))), (0, x6), (0, x7)]) (st' := []) rfl ?_
      exact l1 c1 c2
    · refine wp_run 2 (pc' := 118) (ls' := [(2, 38), (2, x1), (0, x2), (0, x3), (0, x4), (0, x5), (0, x6), (0, x7)]) (st' := [(2, 38), (0, x6)]) rfl ?_
      refine wp_gf (pc' := 121) (t := 0) (v := (M 38 8)) rfl rfl (by decide) rfl rfl rfl ?_
      refine wp_if2 rfl rfl rfl (fun (c3 : (M 38 8) ≤ x6) => ?_) (fun (c3 : ¬ ((M 38 8) ≤ x6)) => ?_)
      · refine wp_run 2 (pc' := 55) (ls' := [(2, 38), (2, x1), (0, x2), (0, x3), (0, x4), (0, (z_w (x5 + 1))), (0, x6), (0, x7)]) (st' := []) rfl ?_
        exact l2 c1 c2 c3
      · refine wp_run 4 (pc' := 131) (ls' := [(2, 38), (2, x1), (0, x2), (0, x3), (0, x5), (0, x5), (0, x6), (0, x7)]) (st' := [(0, x6), (2, 38)]) rfl ?_
        refine wp_pf (pc' := 134) rfl rfl rfl rfl (fun z => absurd z (by decide)) (fun z => absurd z (by decide)) ?_
        refine wp_run 2 (pc' := 55) (ls' := [(2, 38), (2, x1), (0, x2), (0, x3), (0, x5), (0, (z_w (x5 + 1))), (0, x6), (0, x7)]) (st' := []) rfl ?_
        exact l3 c1 c2 c3
  · refine wp_run 2 (pc' := 86) (ls' := [(2, 38), (2, x1), (0, x2), (0, x3), (0, x4), (0, x5), (0, x6), (0, x7)]) (st' := [(2, 38), (0, x6)]) rfl ?_
    refine wp_gf (pc' := 89) (t := 2) (v := 46) rfl rfl (by decide) rfl rfl (fx_38_3 hF) ?_
    refine wp_run 5 (pc' := 97) (ls' := [(2, 38), (2, x1), (0, x2), (0, x3), (0, x4), (0, x5), (0, x6), (0, x7)]) (st' := [(0, (z_w ((z_w (x5 * 25)) + x7))), (2, 46), (0, x6)]) rfl ?_
    refine wp_iald (pc' := 98) (v := (M 46 (z_w ((z_w (x5 * 25)) + x7)))) rfl rfl rfl (b1 c1) rfl ?_
    refine wp_max (pc' := 101) rfl rfl (Nat.le_of_ble_eq_true rfl) ?_
    refine wp_run 3 (pc' := 76) (ls' := [(2, 38), (2, x1), (0, x2), (0, x3), (0, x4), (0, x5), (0, (z_max x6 (M 46 (z_w ((z_w (x5 * 25)) + x7))))), (0, (z_w (x7 + 1)))]) (st' := []) rfl ?_
    exact l4 c1
set_option maxRecDepth 20000 in
theorem gX9_ask_0 {xs : List Int} {d : Nat} {M : z_M} {P : Option z_V → z_L → z_M → Prop} {a1 : Int} {a2 : Int} {a3 : Int} (hF : z_fix M) (hg1 : z_gor M (M 1 0)) (hh2 : z_her M (M 1 2))
    (l1 : (a1 < 0) → P (some (0, (-1))) z_LL M)
    (l2 : (¬ (a1 < 0)) → (9 < a1) → P (some (0, (-1))) z_LL M)
    (l3 : (¬ (a1 < 0)) → (¬ (9 < a1)) → (a2 < 0) → P (some (0, (-1))) z_LL M)
    (l4 : (¬ (a1 < 0)) → (¬ (9 < a1)) → (¬ (a2 < 0)) → (1 < a2) → P (some (0, (-1))) z_LL M)
    (l5 : (¬ (a1 < 0)) → (¬ (9 < a1)) → (¬ (a2 < 0)) → (¬ (1 < a2)) → ((M (M 1 0) 12) ≠ 0) → wp xs d mX0_saltedAtNight 0 [(2, 38), (2, (M 1 2)), (2, 294), (0, a3), (3, 0), (3, 0), (3, 0)] [] z_LL M (fun r L1 M1 => wp xs (d + 1) mX9_ask 47 [(2, 1), (0, a1), (0, a2), (0, a3), (3, 0), (3, 0)] (z_ol r ++ []) L1 M1 P))
    (l6 : (¬ (a1 < 0)) → (¬ (9 < a1)) → (¬ (a2 < 0)) → (¬ (1 < a2)) → (¬ ((M (M 1 0) 12) ≠ 0)) → P (some (0, (-1))) z_LL M) :
    wp xs (d + 1) mX9_ask 0 [(2, 1), (0, a1), (0, a2), (0, a3), (3, 0), (3, 0)] [] z_LL M P := by
  refine wp_run 1 (pc' := 1) (ls' := [(2, 1), (0, a1), (0, a2), (0, a3), (3, 0), (3, 0)]) (st' := [(0, a1)]) rfl ?_
  refine wp_if1 rfl rfl rfl (fun (c1 : a1 < 0) => ?_) (fun (c1 : ¬ (a1 < 0)) => ?_)
  · refine wp_run 1 (pc' := 30) (ls' := [(2, 1), (0, a1), (0, a2), (0, a3), (3, 0), (3, 0)]) (st' := [(0, (-1))]) rfl ?_
    exact wp_ret rfl rfl (l1 c1)
  · refine wp_run 2 (pc' := 7) (ls' := [(2, 1), (0, a1), (0, a2), (0, a3), (3, 0), (3, 0)]) (st' := [(0, 9), (0, a1)]) rfl ?_
    refine wp_if2 rfl rfl rfl (fun (c2 : 9 < a1) => ?_) (fun (c2 : ¬ (9 < a1)) => ?_)
    · refine wp_run 1 (pc' := 30) (ls' := [(2, 1), (0, a1), (0, a2), (0, a3), (3, 0), (3, 0)]) (st' := [(0, (-1))]) rfl ?_
      exact wp_ret rfl rfl (l2 c1 c2)
    · refine wp_run 1 (pc' := 11) (ls' := [(2, 1), (0, a1), (0, a2), (0, a3), (3, 0), (3, 0)]) (st' := [(0, a2)]) rfl ?_
      refine wp_if1 rfl rfl rfl (fun (c3 : a2 < 0) => ?_) (fun (c3 : ¬ (a2 < 0)) => ?_)
      · refine wp_run 1 (pc' := 30) (ls' := [(2, 1), (0, a1), (0, a2), (0, a3), (3, 0), (3, 0)]) (st' := [(0, (-1))]) rfl ?_
        exact wp_ret rfl rfl (l3 c1 c2 c3)
      · refine wp_run 2 (pc' := 16) (ls' := [(2, 1), (0, a1), (0, a2), (0, a3), (3, 0), (3, 0)]) (st' := [(0, 1), (0, a2)]) rfl ?_
        refine wp_if2 rfl rfl rfl (fun (c4 : 1 < a2) => ?_) (fun (c4 : ¬ (1 < a2)) => ?_)
        · refine wp_run 1 (pc' := 30) (ls' := [(2, 1), (0, a1), (0, a2), (0, a3), (3, 0), (3, 0)]) (st' := [(0, (-1))]) rfl ?_
          exact wp_ret rfl rfl (l4 c1 c2 c3 c4)
        · refine wp_run 1 (pc' := 20) (ls' := [(2, 1), (0, a1), (0, a2), (0, a3), (3, 0), (3, 0)]) (st' := [(2, 1)]) rfl ?_
          refine wp_gf (pc' := 23) (t := 2) (v := (M 1 0)) rfl rfl (by decide) rfl rfl rfl ?_
          refine wp_gf (pc' := 26) (t := 0) (v := (M (M 1 0) 12)) rfl rfl (by decide) rfl (z_gl0 hg1) rfl ?_
          refine wp_if1 rfl rfl rfl (fun (c5 : (M (M 1 0) 12) ≠ 0) => ?_) (fun (c5 : ¬ ((M (M 1 0) 12) ≠ 0)) => ?_)
          · refine wp_run 1 (pc' := 32) (ls' := [(2, 1), (0, a1), (0, a2), (0, a3), (3, 0), (3, 0)]) (st' := [(2, 1)]) rfl ?_
            refine wp_gf (pc' := 35) (t := 2) (v := 38) rfl rfl (by decide) rfl rfl (fx_1_6 hF) ?_
            refine wp_run 1 (pc' := 36) (ls' := [(2, 1), (0, a1), (0, a2), (0, a3), (3, 0), (3, 0)]) (st' := [(2, 1), (2, 38)]) rfl ?_
            refine wp_gf (pc' := 39) (t := 2) (v := (M 1 2)) rfl rfl (by decide) rfl rfl rfl ?_
            refine wp_run 1 (pc' := 40) (ls' := [(2, 1), (0, a1), (0, a2), (0, a3), (3, 0), (3, 0)]) (st' := [(2, 1), (2, (M 1 2)), (2, 38)]) rfl ?_
            refine wp_gf (pc' := 43) (t := 2) (v := 294) rfl rfl (by decide) rfl rfl (fx_1_9 hF) ?_
            refine wp_run 1 (pc' := 44) (ls' := [(2, 1), (0, a1), (0, a2), (0, a3), (3, 0), (3, 0)]) (st' := [(0, a3), (2, 294), (2, (M 1 2)), (2, 38)]) rfl ?_
            refine wp_callv (pc' := 47) (as := [(2, 38), (2, (M 1 2)), (2, 294), (0, a3)]) (rest := []) (ls1 := [(2, 38), (2, (M 1 2)), (2, 294), (0, a3), (3, 0), (3, 0), (3, 0)]) rfl rfl rfl rfl rfl rfl ?_
            exact l5 c1 c2 c3 c4 c5
          · refine wp_run 1 (pc' := 30) (ls' := [(2, 1), (0, a1), (0, a2), (0, a3), (3, 0), (3, 0)]) (st' := [(0, (-1))]) rfl ?_
            exact wp_ret rfl rfl (l6 c1 c2 c3 c4 c5)
set_option maxRecDepth 20000 in
theorem gX9_ask_47 {xs : List Int} {d : Nat} {M : z_M} {P : Option z_V → z_L → z_M → Prop} {x1 : Int} {x2 : Int} {x3 : Int} {s0 : Int} (hF : z_fix M) (hh1 : z_her M (M 1 2))
    (l1 : (s0 ≠ 0) → wp xs d mX0_nextToWatch 0 [(2, 38), (2, (M 1 2)), (0, s0), (0, x1), (3, 0), (3, 0), (3, 0), (3, 0)] [] z_LL M (fun r L1 M1 => wp xs (d + 1) mX9_ask 70 [(2, 1), (0, x1), (0, x2), (0, x3), (0, s0), (3, 0)] (z_ol r ++ []) L1 M1 P))
    (l2 : (¬ (s0 ≠ 0)) → P (some (0, (-1))) z_LL M) :
    wp xs (d + 1) mX9_ask 47 [(2, 1), (0, x1), (0, x2), (0, x3), (3, 0), (3, 0)] [(0, s0)] z_LL M P := by
  refine wp_run 2 (pc' := 51) (ls' := [(2, 1), (0, x1), (0, x2), (0, x3), (0, s0), (3, 0)]) (st' := [(0, s0)]) rfl ?_
  refine wp_if1 rfl rfl rfl (fun (c1 : s0 ≠ 0) => ?_) (fun (c1 : ¬ (s0 ≠ 0)) => ?_)
  · refine wp_run 1 (pc' := 57) (ls' := [(2, 1), (0, x1), (0, x2), (0, x3), (0, s0), (3, 0)]) (st' := [(2, 1)]) rfl ?_
    refine wp_gf (pc' := 60) (t := 2) (v := 38) rfl rfl (by decide) rfl rfl (fx_1_6 hF) ?_
    refine wp_run 1 (pc' := 61) (ls' := [(2, 1), (0, x1), (0, x2), (0, x3), (0, s0), (3, 0)]) (st' := [(2, 1), (2, 38)]) rfl ?_
    refine wp_gf (pc' := 64) (t := 2) (v := (M 1 2)) rfl rfl (by decide) rfl rfl rfl ?_
    refine wp_run 2 (pc' := 67) (ls' := [(2, 1), (0, x1), (0, x2), (0, x3), (0, s0), (3, 0)]) (st' := [(0, x1), (0, s0), (2, (M 1 2)), (2, 38)]) rfl ?_
    refine wp_callv (pc' := 70) (as := [(2, 38), (2, (M 1 2)), (0, s0), (0, x1)]) (rest := []) (ls1 := [(2, 38), (2, (M 1 2)), (0, s0), (0, x1), (3, 0), (3, 0), (3, 0), (3, 0)]) rfl rfl rfl rfl rfl rfl ?_
    exact l1 c1
  · refine wp_run 1 (pc' := 55) (ls' := [(2, 1), (0, x1), (0, x2), (0, x3), (0, s0), (3, 0)]) (st' := [(0, (-1))]) rfl ?_
    exact wp_ret rfl rfl (l2 c1)
set_option maxRecDepth 20000 in
theorem gX9_ask_70 {xs : List Int} {d : Nat} {M : z_M} {P : Option z_V → z_L → z_M → Prop} {x1 : Int} {x2 : Int} {x3 : Int} {x4 : Int} {s0 : Int} (hF : z_fix M) 
    (l1 : (x2 ≠ 0) → P (some (0, (M 38 8))) z_LL M)
    (l2 : (¬ (x2 ≠ 0)) → P (some (0, s0)) z_LL M) :
    wp xs d mX9_ask 70 [(2, 1), (0, x1), (0, x2), (0, x3), (0, x4), (3, 0)] [(0, s0)] z_LL M P := by
  refine wp_run 2 (pc' := 73) (ls' := [(2, 1), (0, x1), (0, x2), (0, x3), (0, x4), (0, s0)]) (st' := [(0, x2)]) rfl ?_
  refine wp_if1 rfl rfl rfl (fun (c1 : x2 ≠ 0) => ?_) (fun (c1 : ¬ (x2 ≠ 0)) => ?_)
  · refine wp_run 1 (pc' := 82) (ls' := [(2, 1), (0, x1), (0, x2), (0, x3), (0, x4), (0, s0)]) (st' := [(2, 1)]) rfl ?_
    refine wp_gf (pc' := 85) (t := 2) (v := 38) rfl rfl (by decide) rfl rfl (fx_1_6 hF) ?_
    refine wp_gf (pc' := 88) (t := 0) (v := (M 38 8)) rfl rfl (by decide) rfl rfl rfl ?_
    exact wp_ret rfl rfl (l1 c1)
  · refine wp_run 2 (pc' := 88) (ls' := [(2, 1), (0, x1), (0, x2), (0, x3), (0, x4), (0, s0)]) (st' := [(0, s0)]) rfl ?_
    exact wp_ret rfl rfl (l2 c1)
set_option maxRecDepth 20000 in
theorem gX10_layTally_0 {xs : List Int} {d : Nat} {M : z_M} {P : Option z_V → z_L → z_M → Prop} {a1 : Int} {a2 : Int} 
    (l1 : wp xs d mX10_layTally 2 [(2, 321), (0, a1), (0, a2), (0, 0), (3, 0)] [] z_LL M P) :
    wp xs d mX10_layTally 0 [(2, 321), (0, a1), (0, a2), (3, 0), (3, 0)] [] z_LL M P := by
  refine wp_run 2 (pc' := 2) (ls' := [(2, 321), (0, a1), (0, a2), (0, 0), (3, 0)]) (st' := []) rfl ?_
  exact l1
set_option maxRecDepth 20000 in
theorem gX10_layTally_2 {xs : List Int} {d : Nat} {M : z_M} {P : Option z_V → z_L → z_M → Prop} {x1 : Int} {x2 : Int} {x3 : Int} (hF : z_fix M) 
    (l1 : (150 ≤ x3) → wp xs d mX10_layTally 24 [(2, 321), (0, x1), (0, x2), (0, 0), (3, 0)] [] z_LL M P)
    (b1 : (¬ (150 ≤ x3)) → 0 ≤ x3 ∧ x3 < 150)
    (l2 : (¬ (150 ≤ x3)) → wp xs d mX10_layTally 2 [(2, 321), (0, x1), (0, x2), (0, (z_w (x3 + 1))), (3, 0)] [] z_LL (z_up M 355 x3 0) P) :
    wp xs d mX10_layTally 2 [(2, 321), (0, x1), (0, x2), (0, x3), (3, 0)] [] z_LL M P := by
  refine wp_run 2 (pc' := 6) (ls' := [(2, 321), (0, x1), (0, x2), (0, x3), (3, 0)]) (st' := [(0, 150), (0, x3)]) rfl ?_
  refine wp_if2 rfl rfl rfl (fun (c1 : 150 ≤ x3) => ?_) (fun (c1 : ¬ (150 ≤ x3)) => ?_)
  · refine wp_run 2 (pc' := 24) (ls' := [(2, 321), (0, x1), (0, x2), (0, 0), (3, 0)]) (st' := []) rfl ?_
    exact l1 c1
  · refine wp_run 1 (pc' := 10) (ls' := [(2, 321), (0, x1), (0, x2), (0, x3), (3, 0)]) (st' := [(2, 321)]) rfl ?_
    refine wp_gf (pc' := 13) (t := 2) (v := 355) rfl rfl (by decide) rfl rfl (fx_321_78 hF) ?_
    refine wp_run 2 (pc' := 15) (ls' := [(2, 321), (0, x1), (0, x2), (0, x3), (3, 0)]) (st' := [(0, 0), (0, x3), (2, 355)]) rfl ?_
    refine wp_iast (pc' := 16) rfl rfl rfl (b1 c1) ?_
    refine wp_run 2 (pc' := 2) (ls' := [(2, 321), (0, x1), (0, x2), (0, (z_w (x3 + 1))), (3, 0)]) (st' := []) rfl ?_
    exact l2 c1
set_option maxRecDepth 20000 in
theorem gX10_layTally_24 {xs : List Int} {d : Nat} {M : z_M} {P : Option z_V → z_L → z_M → Prop} {x1 : Int} {x2 : Int} {x3 : Int} {w4 : z_V} (hF : z_fix M) (hC : z_mc M) 
    (l1 : ((M 321 46 * M 321 47) ≤ x3) → P none z_LL M)
    (l2 : (¬ ((M 321 46 * M 321 47) ≤ x3)) → ((z_and (z_shr x1 x3) 1) ≠ 0) → wp xs d mX10_load 0 [(2, 321), (3, 0)] [] z_LL M (fun r L1 M1 => wp xs (d + 1) mX10_layTally 47 [(2, 321), (0, x1), (0, x2), (0, x3), w4] (z_ol r ++ []) L1 M1 P))
    (l3 : (¬ ((M 321 46 * M 321 47) ≤ x3)) → (¬ ((z_and (z_shr x1 x3) 1) ≠ 0)) → wp xs (d + 1) mX10_layTally 24 [(2, 321), (0, x1), (0, x2), (0, (z_w (x3 + 1))), w4] [] z_LL M P) :
    wp xs (d + 1) mX10_layTally 24 [(2, 321), (0, x1), (0, x2), (0, x3), w4] [] z_LL M P := by
  refine wp_run 2 (pc' := 26) (ls' := [(2, 321), (0, x1), (0, x2), (0, x3), w4]) (st' := [(2, 321), (0, x3)]) rfl ?_
  refine wp_callv (pc' := 29) (as := [(2, 321)]) (rest := [(0, x3)]) (ls1 := [(2, 321)]) rfl rfl rfl rfl rfl rfl ?_
  refine s_X10_all hF hC ?_
  show wp xs _ mX10_layTally 29 [(2, 321), (0, x1), (0, x2), (0, x3), w4] [(0, (M 321 46 * M 321 47)), (0, x3)] z_LL M _
  refine wp_if2 rfl rfl rfl (fun (c1 : (M 321 46 * M 321 47) ≤ x3) => ?_) (fun (c1 : ¬ ((M 321 46 * M 321 47) ≤ x3)) => ?_)
  · exact wp_ret rfl rfl (l1 c1)
  · refine wp_run 5 (pc' := 37) (ls' := [(2, 321), (0, x1), (0, x2), (0, x3), w4]) (st' := [(0, (z_and (z_shr x1 x3) 1))]) rfl ?_
    refine wp_if1 rfl rfl rfl (fun (c2 : (z_and (z_shr x1 x3) 1) ≠ 0) => ?_) (fun (c2 : ¬ ((z_and (z_shr x1 x3) 1) ≠ 0)) => ?_)
    · refine wp_run 1 (pc' := 44) (ls' := [(2, 321), (0, x1), (0, x2), (0, x3), w4]) (st' := [(2, 321)]) rfl ?_
      refine wp_callv (pc' := 47) (as := [(2, 321)]) (rest := []) (ls1 := [(2, 321), (3, 0)]) rfl rfl rfl rfl rfl rfl ?_
      exact l2 c1 c2
    · refine wp_run 3 (pc' := 24) (ls' := [(2, 321), (0, x1), (0, x2), (0, (z_w (x3 + 1))), w4]) (st' := []) rfl ?_
      exact l3 c1 c2
set_option maxRecDepth 20000 in
theorem gX10_layTally_47 {xs : List Int} {d : Nat} {M : z_M} {P : Option z_V → z_L → z_M → Prop} {x1 : Int} {x2 : Int} {x3 : Int} {w4 : z_V} (hF : z_fix M) 
    (b1 : 0 ≤ (z_w (79 + x3)) ∧ (z_w (79 + x3)) < 106)
    (l1 : wp xs d mX10_layTally 61 [(2, 321), (0, x1), (0, x2), (0, x3), (0, 0)] [] z_LL (z_up M 343 (z_w (79 + x3)) 9) P) :
    wp xs d mX10_layTally 47 [(2, 321), (0, x1), (0, x2), (0, x3), w4] [] z_LL M P := by
  refine wp_run 1 (pc' := 48) (ls' := [(2, 321), (0, x1), (0, x2), (0, x3), w4]) (st' := [(2, 321)]) rfl ?_
  refine wp_gf (pc' := 51) (t := 2) (v := 343) rfl rfl (by decide) rfl rfl (fx_321_61 hF) ?_
  refine wp_run 4 (pc' := 57) (ls' := [(2, 321), (0, x1), (0, x2), (0, x3), w4]) (st' := [(0, 9), (0, (z_w (79 + x3))), (2, 343)]) rfl ?_
  refine wp_iast (pc' := 58) rfl rfl rfl (b1) ?_
  refine wp_run 2 (pc' := 61) (ls' := [(2, 321), (0, x1), (0, x2), (0, x3), (0, 0)]) (st' := []) rfl ?_
  exact l1
set_option maxRecDepth 20000 in
theorem gX10_layTally_61 {xs : List Int} {d : Nat} {M : z_M} {P : Option z_V → z_L → z_M → Prop} {x1 : Int} {x2 : Int} {x3 : Int} {x4 : Int} 
    (l1 : (x2 ≤ x4) → wp xs (d + 1) mX10_layTally 85 [(2, 321), (0, x1), (0, x2), (0, x3), (0, 0)] [] z_LL M P)
    (l2 : (¬ (x2 ≤ x4)) → wp xs d mX10_goDay 0 [(2, 321), (0, (M 321 52)), (3, 0), (3, 0)] [] z_LL M (fun r L1 M1 => wp xs (d + 1) mX10_layTally 75 [(2, 321), (0, x1), (0, x2), (0, x3), (0, x4)] (z_ol r ++ []) L1 M1 P)) :
    wp xs (d + 1) mX10_layTally 61 [(2, 321), (0, x1), (0, x2), (0, x3), (0, x4)] [] z_LL M P := by
  refine wp_run 2 (pc' := 64) (ls' := [(2, 321), (0, x1), (0, x2), (0, x3), (0, x4)]) (st' := [(0, x2), (0, x4)]) rfl ?_
  refine wp_if2 rfl rfl rfl (fun (c1 : x2 ≤ x4) => ?_) (fun (c1 : ¬ (x2 ≤ x4)) => ?_)
  · refine wp_run 2 (pc' := 85) (ls' := [(2, 321), (0, x1), (0, x2), (0, x3), (0, 0)]) (st' := []) rfl ?_
    exact l1 c1
  · refine wp_run 2 (pc' := 69) (ls' := [(2, 321), (0, x1), (0, x2), (0, x3), (0, x4)]) (st' := [(2, 321), (2, 321)]) rfl ?_
    refine wp_gf (pc' := 72) (t := 0) (v := (M 321 52)) rfl rfl (by decide) rfl rfl rfl ?_
    refine wp_callv (pc' := 75) (as := [(2, 321), (0, (M 321 52))]) (rest := []) (ls1 := [(2, 321), (0, (M 321 52)), (3, 0), (3, 0)]) rfl rfl rfl rfl rfl rfl ?_
    exact l2 c1
set_option maxRecDepth 20000 in
theorem gX10_layTally_75 {xs : List Int} {d : Nat} {M : z_M} {P : Option z_V → z_L → z_M → Prop} {x1 : Int} {x2 : Int} {x3 : Int} {x4 : Int} {s0 : Int} 
    (l1 : wp xs d mX10_layTally 61 [(2, 321), (0, x1), (0, x2), (0, x3), (0, (z_w (x4 + 1)))] [] z_LL M P) :
    wp xs d mX10_layTally 75 [(2, 321), (0, x1), (0, x2), (0, x3), (0, x4)] [(0, s0)] z_LL M P := by
  refine wp_run 3 (pc' := 61) (ls' := [(2, 321), (0, x1), (0, x2), (0, x3), (0, (z_w (x4 + 1)))]) (st' := []) rfl ?_
  exact l1
set_option maxRecDepth 20000 in
theorem gX10_layTally_85 {xs : List Int} {d : Nat} {M : z_M} {P : Option z_V → z_L → z_M → Prop} {x1 : Int} {x2 : Int} {x3 : Int} {x4 : Int} (hF : z_fix M) 
    (l1 : ((M 321 48) ≤ x4) → wp xs d mX10_layTally 24 [(2, 321), (0, x1), (0, x2), (0, (z_w (x3 + 1))), (0, x4)] [] z_LL M P)
    (b1 : (¬ ((M 321 48) ≤ x4)) → 0 ≤ x4 ∧ x4 < 106)
    (b2 : (¬ ((M 321 48) ≤ x4)) → 0 ≤ (z_w ((z_w (25 * x4)) + (M 343 x4))) ∧ (z_w ((z_w (25 * x4)) + (M 343 x4))) < 150)
    (l2 : (¬ ((M 321 48) ≤ x4)) → wp xs d mX10_layTally 85 [(2, 321), (0, x1), (0, x2), (0, x3), (0, (z_w (x4 + 1)))] [] z_LL (z_up M 355 (z_w ((z_w (25 * x4)) + (M 343 x4))) (z_w ((M 355 (z_w ((z_w (25 * x4)) + (M 343 x4)))) + 1))) P) :
    wp xs d mX10_layTally 85 [(2, 321), (0, x1), (0, x2), (0, x3), (0, x4)] [] z_LL M P := by
  refine wp_run 2 (pc' := 88) (ls' := [(2, 321), (0, x1), (0, x2), (0, x3), (0, x4)]) (st' := [(2, 321), (0, x4)]) rfl ?_
  refine wp_gf (pc' := 91) (t := 0) (v := (M 321 48)) rfl rfl (by decide) rfl rfl rfl ?_
  refine wp_if2 rfl rfl rfl (fun (c1 : (M 321 48) ≤ x4) => ?_) (fun (c1 : ¬ ((M 321 48) ≤ x4)) => ?_)
  · refine wp_run 2 (pc' := 24) (ls' := [(2, 321), (0, x1), (0, x2), (0, (z_w (x3 + 1))), (0, x4)]) (st' := []) rfl ?_
    exact l1 c1
  · refine wp_run 1 (pc' := 95) (ls' := [(2, 321), (0, x1), (0, x2), (0, x3), (0, x4)]) (st' := [(2, 321)]) rfl ?_
    refine wp_gf (pc' := 98) (t := 2) (v := 355) rfl rfl (by decide) rfl rfl (fx_321_78 hF) ?_
    refine wp_run 4 (pc' := 104) (ls' := [(2, 321), (0, x1), (0, x2), (0, x3), (0, x4)]) (st' := [(2, 321), (0, (z_w (25 * x4))), (2, 355)]) rfl ?_
    refine wp_gf (pc' := 107) (t := 2) (v := 343) rfl rfl (by decide) rfl rfl (fx_321_61 hF) ?_
    refine wp_run 1 (pc' := 109) (ls' := [(2, 321), (0, x1), (0, x2), (0, x3), (0, x4)]) (st' := [(0, x4), (2, 343), (0, (z_w (25 * x4))), (2, 355)]) rfl ?_
    refine wp_iald (pc' := 110) (v := (M 343 x4)) rfl rfl rfl (b1 c1) rfl ?_
    refine wp_run 2 (pc' := 112) (ls' := [(2, 321), (0, x1), (0, x2), (0, x3), (0, x4)]) (st' := [(0, (z_w ((z_w (25 * x4)) + (M 343 x4)))), (2, 355), (0, (z_w ((z_w (25 * x4)) + (M 343 x4)))), (2, 355)]) rfl ?_
    refine wp_iald (pc' := 113) (v := (M 355 (z_w ((z_w (25 * x4)) + (M 343 x4))))) rfl rfl rfl (b2 c1) rfl ?_
    refine wp_run 2 (pc' := 115) (ls' := [(2, 321), (0, x1), (0, x2), (0, x3), (0, x4)]) (st' := [(0, (z_w ((M 355 (z_w ((z_w (25 * x4)) + (M 343 x4)))) + 1))), (0, (z_w ((z_w (25 * x4)) + (M 343 x4)))), (2, 355)]) rfl ?_
    refine wp_iast (pc' := 116) rfl rfl rfl (b2 c1) ?_
    refine wp_run 2 (pc' := 85) (ls' := [(2, 321), (0, x1), (0, x2), (0, x3), (0, (z_w (x4 + 1)))]) (st' := []) rfl ?_
    exact l2 c1
set_option maxRecDepth 20000 in
theorem gX10_mostOf_0 {xs : List Int} {d : Nat} {M : z_M} {P : Option z_V → z_L → z_M → Prop} {a1 : Int} 
    (l1 : wp xs d mX10_mostOf 4 [(2, 321), (0, a1), (0, 0), (0, 0)] [] z_LL M P) :
    wp xs d mX10_mostOf 0 [(2, 321), (0, a1), (3, 0), (3, 0)] [] z_LL M P := by
  refine wp_run 4 (pc' := 4) (ls' := [(2, 321), (0, a1), (0, 0), (0, 0)]) (st' := []) rfl ?_
  exact l1
set_option maxRecDepth 20000 in
theorem gX10_mostOf_4 {xs : List Int} {d : Nat} {M : z_M} {P : Option z_V → z_L → z_M → Prop} {x1 : Int} {x2 : Int} {x3 : Int} (hF : z_fix M) 
    (l1 : (25 ≤ x3) → P (some (0, x2)) z_LL M)
    (b1 : (¬ (25 ≤ x3)) → 0 ≤ (z_w ((z_w (25 * x1)) + x3)) ∧ (z_w ((z_w (25 * x1)) + x3)) < 150)
    (l2 : (¬ (25 ≤ x3)) → ((M 355 (z_w ((z_w (25 * x1)) + x3))) ≤ x2) → wp xs d mX10_mostOf 4 [(2, 321), (0, x1), (0, x2), (0, (z_w (x3 + 1)))] [] z_LL M P)
    (l3 : (¬ (25 ≤ x3)) → (¬ ((M 355 (z_w ((z_w (25 * x1)) + x3))) ≤ x2)) → wp xs d mX10_mostOf 4 [(2, 321), (0, x1), (0, (M 355 (z_w ((z_w (25 * x1)) + x3)))), (0, (z_w (x3 + 1)))] [] z_LL M P) :
    wp xs d mX10_mostOf 4 [(2, 321), (0, x1), (0, x2), (0, x3)] [] z_LL M P := by
  refine wp_run 2 (pc' := 7) (ls' := [(2, 321), (0, x1), (0, x2), (0, x3)]) (st' := [(0, 25), (0, x3)]) rfl ?_
  refine wp_if2 rfl rfl rfl (fun (c1 : 25 ≤ x3) => ?_) (fun (c1 : ¬ (25 ≤ x3)) => ?_)
  · refine wp_run 1 (pc' := 48) (ls' := [(2, 321), (0, x1), (0, x2), (0, x3)]) (st' := [(0, x2)]) rfl ?_
    exact wp_ret rfl rfl (l1 c1)
  · refine wp_run 1 (pc' := 11) (ls' := [(2, 321), (0, x1), (0, x2), (0, x3)]) (st' := [(2, 321)]) rfl ?_
    refine wp_gf (pc' := 14) (t := 2) (v := 355) rfl rfl (by decide) rfl rfl (fx_321_78 hF) ?_
    refine wp_run 5 (pc' := 20) (ls' := [(2, 321), (0, x1), (0, x2), (0, x3)]) (st' := [(0, (z_w ((z_w (25 * x1)) + x3))), (2, 355)]) rfl ?_
    refine wp_iald (pc' := 21) (v := (M 355 (z_w ((z_w (25 * x1)) + x3)))) rfl rfl rfl (b1 c1) rfl ?_
    refine wp_run 1 (pc' := 22) (ls' := [(2, 321), (0, x1), (0, x2), (0, x3)]) (st' := [(0, x2), (0, (M 355 (z_w ((z_w (25 * x1)) + x3))))]) rfl ?_
    refine wp_if2 rfl rfl rfl (fun (c2 : (M 355 (z_w ((z_w (25 * x1)) + x3))) ≤ x2) => ?_) (fun (c2 : ¬ ((M 355 (z_w ((z_w (25 * x1)) + x3))) ≤ x2)) => ?_)
    · refine wp_run 4 (pc' := 4) (ls' := [(2, 321), (0, x1), (0, x2), (0, (z_w (x3 + 1)))]) (st' := []) rfl ?_
      exact l2 c1 c2
    · refine wp_run 1 (pc' := 26) (ls' := [(2, 321), (0, x1), (0, x2), (0, x3)]) (st' := [(2, 321)]) rfl ?_
      refine wp_gf (pc' := 29) (t := 2) (v := 355) rfl rfl (by decide) rfl rfl (fx_321_78 hF) ?_
      refine wp_run 5 (pc' := 35) (ls' := [(2, 321), (0, x1), (0, x2), (0, x3)]) (st' := [(0, (z_w ((z_w (25 * x1)) + x3))), (2, 355)]) rfl ?_
      refine wp_iald (pc' := 36) (v := (M 355 (z_w ((z_w (25 * x1)) + x3)))) rfl rfl rfl (b1 c1) rfl ?_
      refine wp_run 4 (pc' := 4) (ls' := [(2, 321), (0, x1), (0, (M 355 (z_w ((z_w (25 * x1)) + x3)))), (0, (z_w (x3 + 1)))]) (st' := []) rfl ?_
      exact l3 c1 c2
set_option maxRecDepth 20000 in
theorem gX10_ask_0 {xs : List Int} {d : Nat} {M : z_M} {P : Option z_V → z_L → z_M → Prop} {a1 : Int} {a2 : Int} {a3 : Int} 
    (l1 : (¬ (0 ≤ a1 ∧ a1 ≤ 9)) → P (some (0, (-1))) z_LL M)
    (l2 : ((0 ≤ a1 ∧ a1 ≤ 9)) → ((0 ≤ a2 ∧ a2 ≤ 1)) → wp xs d mX10_ledges 0 [(2, 321), (0, a3), (3, 0), (3, 0)] [] z_LL M (fun r L1 M1 => wp xs (d + 1) mX10_ask 26 [(2, 321), (0, a1), (0, a2), (0, a3), (3, 0), (3, 0), (3, 0)] (z_ol r ++ []) L1 M1 P))
    (l3 : ((0 ≤ a1 ∧ a1 ≤ 9)) → (¬ (0 ≤ a2 ∧ a2 ≤ 1)) → P (some (0, (-1))) z_LL M) :
    wp xs (d + 1) mX10_ask 0 [(2, 321), (0, a1), (0, a2), (0, a3), (3, 0), (3, 0), (3, 0)] [] z_LL M P := by
  refine wp_run 3 (pc' := 4) (ls' := [(2, 321), (0, a1), (0, a2), (0, a3), (3, 0), (3, 0), (3, 0)]) (st' := [(0, 9), (0, 0), (0, a1)]) rfl ?_
  refine wp_callv (pc' := 7) (as := [(0, a1), (0, 0), (0, 9)]) (rest := []) (ls1 := [(0, a1), (0, 0), (0, 9)]) rfl rfl rfl rfl rfl rfl ?_
  refine s_X10_isIn  ?_
  show wp xs _ mX10_ask 7 [(2, 321), (0, a1), (0, a2), (0, a3), (3, 0), (3, 0), (3, 0)] [(0, (z_b (0 ≤ a1 ∧ a1 ≤ 9)))] z_LL M _
  refine wp_be rfl rfl rfl (fun (c1 : ¬ (0 ≤ a1 ∧ a1 ≤ 9)) => ?_) (fun (c1 : (0 ≤ a1 ∧ a1 ≤ 9)) => ?_)
  · refine wp_run 1 (pc' := 20) (ls' := [(2, 321), (0, a1), (0, a2), (0, a3), (3, 0), (3, 0), (3, 0)]) (st' := [(0, (-1))]) rfl ?_
    exact wp_ret rfl rfl (l1 c1)
  · refine wp_run 3 (pc' := 13) (ls' := [(2, 321), (0, a1), (0, a2), (0, a3), (3, 0), (3, 0), (3, 0)]) (st' := [(0, 1), (0, 0), (0, a2)]) rfl ?_
    refine wp_callv (pc' := 16) (as := [(0, a2), (0, 0), (0, 1)]) (rest := []) (ls1 := [(0, a2), (0, 0), (0, 1)]) rfl rfl rfl rfl rfl rfl ?_
    refine s_X10_isIn  ?_
    show wp xs _ mX10_ask 16 [(2, 321), (0, a1), (0, a2), (0, a3), (3, 0), (3, 0), (3, 0)] [(0, (z_b (0 ≤ a2 ∧ a2 ≤ 1)))] z_LL M _
    refine wp_bn rfl rfl rfl (fun (c2 : (0 ≤ a2 ∧ a2 ≤ 1)) => ?_) (fun (c2 : ¬ (0 ≤ a2 ∧ a2 ≤ 1)) => ?_)
    · refine wp_run 2 (pc' := 23) (ls' := [(2, 321), (0, a1), (0, a2), (0, a3), (3, 0), (3, 0), (3, 0)]) (st' := [(0, a3), (2, 321)]) rfl ?_
      refine wp_callv (pc' := 26) (as := [(2, 321), (0, a3)]) (rest := []) (ls1 := [(2, 321), (0, a3), (3, 0), (3, 0)]) rfl rfl rfl rfl rfl rfl ?_
      exact l2 c1 c2
    · refine wp_run 1 (pc' := 20) (ls' := [(2, 321), (0, a1), (0, a2), (0, a3), (3, 0), (3, 0), (3, 0)]) (st' := [(0, (-1))]) rfl ?_
      exact wp_ret rfl rfl (l3 c1 c2)
set_option maxRecDepth 20000 in
theorem gX10_ask_26 {xs : List Int} {d : Nat} {M : z_M} {P : Option z_V → z_L → z_M → Prop} {x1 : Int} {x2 : Int} {x3 : Int} {s0 : Int} 
    (l1 : (s0 = 0) → P (some (0, (-1))) z_LL M)
    (l2 : (¬ (s0 = 0)) → ((M 321 48) ≠ 0) → wp xs d mX10_layTally 0 [(2, 321), (0, s0), (0, x1), (3, 0), (3, 0)] [] z_LL M (fun r L1 M1 => wp xs (d + 1) mX10_ask 49 [(2, 321), (0, x1), (0, x2), (0, x3), (0, s0), (3, 0), (3, 0)] (z_ol r ++ []) L1 M1 P))
    (l3 : (¬ (s0 = 0)) → (¬ ((M 321 48) ≠ 0)) → P (some (0, (-1))) z_LL M) :
    wp xs (d + 1) mX10_ask 26 [(2, 321), (0, x1), (0, x2), (0, x3), (3, 0), (3, 0), (3, 0)] [(0, s0)] z_LL M P := by
  refine wp_run 2 (pc' := 30) (ls' := [(2, 321), (0, x1), (0, x2), (0, x3), (0, s0), (3, 0), (3, 0)]) (st' := [(0, s0)]) rfl ?_
  refine wp_if1 rfl rfl rfl (fun (c1 : s0 = 0) => ?_) (fun (c1 : ¬ (s0 = 0)) => ?_)
  · refine wp_run 1 (pc' := 41) (ls' := [(2, 321), (0, x1), (0, x2), (0, x3), (0, s0), (3, 0), (3, 0)]) (st' := [(0, (-1))]) rfl ?_
    exact wp_ret rfl rfl (l1 c1)
  · refine wp_run 1 (pc' := 34) (ls' := [(2, 321), (0, x1), (0, x2), (0, x3), (0, s0), (3, 0), (3, 0)]) (st' := [(2, 321)]) rfl ?_
    refine wp_gf (pc' := 37) (t := 0) (v := (M 321 48)) rfl rfl (by decide) rfl rfl rfl ?_
    refine wp_if1 rfl rfl rfl (fun (c2 : (M 321 48) ≠ 0) => ?_) (fun (c2 : ¬ ((M 321 48) ≠ 0)) => ?_)
    · refine wp_run 3 (pc' := 46) (ls' := [(2, 321), (0, x1), (0, x2), (0, x3), (0, s0), (3, 0), (3, 0)]) (st' := [(0, x1), (0, s0), (2, 321)]) rfl ?_
      refine wp_callv (pc' := 49) (as := [(2, 321), (0, s0), (0, x1)]) (rest := []) (ls1 := [(2, 321), (0, s0), (0, x1), (3, 0), (3, 0)]) rfl rfl rfl rfl rfl rfl ?_
      exact l2 c1 c2
    · refine wp_run 1 (pc' := 41) (ls' := [(2, 321), (0, x1), (0, x2), (0, x3), (0, s0), (3, 0), (3, 0)]) (st' := [(0, (-1))]) rfl ?_
      exact wp_ret rfl rfl (l3 c1 c2)
set_option maxRecDepth 20000 in
theorem gX10_ask_49 {xs : List Int} {d : Nat} {M : z_M} {P : Option z_V → z_L → z_M → Prop} {x1 : Int} {x2 : Int} {x3 : Int} {x4 : Int} 
    (l1 : wp xs d mX10_ask 55 [(2, 321), (0, x1), (0, x2), (0, x3), (0, x4), (0, 0), (0, 1)] [] z_LL M P) :
    wp xs d mX10_ask 49 [(2, 321), (0, x1), (0, x2), (0, x3), (0, x4), (3, 0), (3, 0)] [] z_LL M P := by
  refine wp_run 4 (pc' := 55) (ls' := [(2, 321), (0, x1), (0, x2), (0, x3), (0, x4), (0, 0), (0, 1)]) (st' := []) rfl ?_
  exact l1
set_option maxRecDepth 20000 in
theorem gX10_ask_55 {xs : List Int} {d : Nat} {M : z_M} {P : Option z_V → z_L → z_M → Prop} {x1 : Int} {x2 : Int} {x3 : Int} {x4 : Int} {x5 : Int} {x6 : Int} 
    (l1 : ((M 321 48) ≤ x6) → (x2 ≠ 0) → wp xs d mX10_mostOf 0 [(2, 321), (0, x5), (3, 0), (3, 0)] [] z_LL M (fun r L1 M1 => wp xs (d + 1) mX10_ask 109 [(2, 321), (0, x1), (0, x2), (0, x3), (0, x4), (0, x5), (0, x6)] (z_ol r ++ []) L1 M1 P))
    (l2 : ((M 321 48) ≤ x6) → (¬ (x2 ≠ 0)) → P (some (0, x5)) z_LL M)
    (l3 : (¬ ((M 321 48) ≤ x6)) → wp xs d mX10_mostOf 0 [(2, 321), (0, x6), (3, 0), (3, 0)] [] z_LL M (fun r L1 M1 => wp xs (d + 1) mX10_ask 70 [(2, 321), (0, x1), (0, x2), (0, x3), (0, x4), (0, x5), (0, x6)] (z_ol r ++ []) L1 M1 P)) :
    wp xs (d + 1) mX10_ask 55 [(2, 321), (0, x1), (0, x2), (0, x3), (0, x4), (0, x5), (0, x6)] [] z_LL M P := by
  refine wp_run 2 (pc' := 58) (ls' := [(2, 321), (0, x1), (0, x2), (0, x3), (0, x4), (0, x5), (0, x6)]) (st' := [(2, 321), (0, x6)]) rfl ?_
  refine wp_gf (pc' := 61) (t := 0) (v := (M 321 48)) rfl rfl (by decide) rfl rfl rfl ?_
  refine wp_if2 rfl rfl rfl (fun (c1 : (M 321 48) ≤ x6) => ?_) (fun (c1 : ¬ ((M 321 48) ≤ x6)) => ?_)
  · refine wp_run 1 (pc' := 95) (ls' := [(2, 321), (0, x1), (0, x2), (0, x3), (0, x4), (0, x5), (0, x6)]) (st' := [(0, x2)]) rfl ?_
    refine wp_if1 rfl rfl rfl (fun (c2 : x2 ≠ 0) => ?_) (fun (c2 : ¬ (x2 ≠ 0)) => ?_)
    · refine wp_run 2 (pc' := 106) (ls' := [(2, 321), (0, x1), (0, x2), (0, x3), (0, x4), (0, x5), (0, x6)]) (st' := [(0, x5), (2, 321)]) rfl ?_
      refine wp_callv (pc' := 109) (as := [(2, 321), (0, x5)]) (rest := []) (ls1 := [(2, 321), (0, x5), (3, 0), (3, 0)]) rfl rfl rfl rfl rfl rfl ?_
      exact l1 c1 c2
    · refine wp_run 2 (pc' := 109) (ls' := [(2, 321), (0, x1), (0, x2), (0, x3), (0, x4), (0, x5), (0, x6)]) (st' := [(0, x5)]) rfl ?_
      exact wp_ret rfl rfl (l2 c1 c2)
  · refine wp_run 2 (pc' := 67) (ls' := [(2, 321), (0, x1), (0, x2), (0, x3), (0, x4), (0, x5), (0, x6)]) (st' := [(0, x6), (2, 321)]) rfl ?_
    refine wp_callv (pc' := 70) (as := [(2, 321), (0, x6)]) (rest := []) (ls1 := [(2, 321), (0, x6), (3, 0), (3, 0)]) rfl rfl rfl rfl rfl rfl ?_
    exact l3 c1
set_option maxRecDepth 20000 in
theorem gX10_ask_70 {xs : List Int} {d : Nat} {M : z_M} {P : Option z_V → z_L → z_M → Prop} {x1 : Int} {x2 : Int} {x3 : Int} {x4 : Int} {x5 : Int} {x6 : Int} {s0 : Int} 
    (l1 : wp xs d mX10_mostOf 0 [(2, 321), (0, x5), (3, 0), (3, 0)] [] z_LL M (fun r L1 M1 => wp xs (d + 1) mX10_ask 76 [(2, 321), (0, x1), (0, x2), (0, x3), (0, x4), (0, x5), (0, x6)] (z_ol r ++ [(0, s0)]) L1 M1 P)) :
    wp xs (d + 1) mX10_ask 70 [(2, 321), (0, x1), (0, x2), (0, x3), (0, x4), (0, x5), (0, x6)] [(0, s0)] z_LL M P := by
  refine wp_run 2 (pc' := 73) (ls' := [(2, 321), (0, x1), (0, x2), (0, x3), (0, x4), (0, x5), (0, x6)]) (st' := [(0, x5), (2, 321), (0, s0)]) rfl ?_
  refine wp_callv (pc' := 76) (as := [(2, 321), (0, x5)]) (rest := [(0, s0)]) (ls1 := [(2, 321), (0, x5), (3, 0), (3, 0)]) rfl rfl rfl rfl rfl rfl ?_
  exact l1
set_option maxRecDepth 20000 in
theorem gX10_ask_76 {xs : List Int} {d : Nat} {M : z_M} {P : Option z_V → z_L → z_M → Prop} {x1 : Int} {x2 : Int} {x3 : Int} {x4 : Int} {x5 : Int} {x6 : Int} {s0 : Int} {s1 : Int} 
    (l1 : (s1 ≤ s0) → wp xs d mX10_ask 55 [(2, 321), (0, x1), (0, x2), (0, x3), (0, x4), (0, x5), (0, (z_w (x6 + 1)))] [] z_LL M P)
    (l2 : (¬ (s1 ≤ s0)) → wp xs d mX10_ask 55 [(2, 321), (0, x1), (0, x2), (0, x3), (0, x4), (0, x6), (0, (z_w (x6 + 1)))] [] z_LL M P) :
    wp xs d mX10_ask 76 [(2, 321), (0, x1), (0, x2), (0, x3), (0, x4), (0, x5), (0, x6)] [(0, s1), (0, s0)] z_LL M P := by
  refine wp_if2 rfl rfl rfl (fun (c1 : s1 ≤ s0) => ?_) (fun (c1 : ¬ (s1 ≤ s0)) => ?_)
  · refine wp_run 4 (pc' := 55) (ls' := [(2, 321), (0, x1), (0, x2), (0, x3), (0, x4), (0, x5), (0, (z_w (x6 + 1)))]) (st' := []) rfl ?_
    exact l1 c1
  · refine wp_run 5 (pc' := 55) (ls' := [(2, 321), (0, x1), (0, x2), (0, x3), (0, x4), (0, x6), (0, (z_w (x6 + 1)))]) (st' := []) rfl ?_
    exact l2 c1
set_option maxRecDepth 20000 in
theorem gX10_ask_109 {xs : List Int} {d : Nat} {M : z_M} {P : Option z_V → z_L → z_M → Prop} {x1 : Int} {x2 : Int} {x3 : Int} {x4 : Int} {x5 : Int} {x6 : Int} {s0 : Int} 
    (l1 : P (some (0, s0)) z_LL M) :
    wp xs d mX10_ask 109 [(2, 321), (0, x1), (0, x2), (0, x3), (0, x4), (0, x5), (0, x6)] [(0, s0)] z_LL M P := by
  exact wp_ret rfl rfl (l1)
section
variable {xs : List Int} {d : Nat} {M : z_M}
/-- where a flock is behind n days, had salt been laid on a cell -/
noncomputable def z_whr (M : z_M) (n : Nat) (c f : Int) : Int := z_dys M (M 321 52) (z_slc (M 342) c) n f
theorem z_whr_q {M' : z_M} (f : z_sc M M') (n : Nat) : z_whr M' n = z_whr M n := by
  funext c g
  unfold z_whr
  rw [z_dys_q (z_sc_c f), f.1 342 (by unfold z_sq; omega), z_sc_c f 321 (by unfold z_conf; omega)]
/-- how many of the first i cells of a set put a flock into a cell -/
noncomputable def z_tal (M : z_M) (p : Int → Prop) (n : Nat) (i : Nat) (f c : Int) : Int := z_cnt (fun x => p x ∧ z_whr M n x f = c) i
theorem z_tal_b {p : Int → Prop} {n i : Nat} {f c : Int} : 0 ≤ z_tal M p n i f c ∧ z_tal M p n i f c ≤ i := z_cnt_b _ _
theorem z_tal_y {p : Int → Prop} {n i : Nat} (h : p i) (f c : Int) : z_tal M p n (i + 1) f c = z_tal M p n i f c + z_b (z_whr M n i f = c) := by
  show z_cnt _ i + z_b (p i ∧ z_whr M n i f = c) = _
  rw [z_b_i (q := z_whr M n i f = c) ⟨fun q => q.2, fun q => ⟨h, q⟩⟩]
  rfl
theorem z_tal_n {p : Int → Prop} {n i : Nat} (h : ¬ p i) (f c : Int) : z_tal M p n (i + 1) f c = z_tal M p n i f c := z_cnt_0 (fun q => h q.1)
theorem z_whr_r (hR : z_R M) {n : Nat} {c f : Int} (hc : 0 ≤ c ∧ c < 25) (h0 : 0 ≤ f) (h1 : f < M 321 48) : 0 ≤ z_whr M n c f ∧ z_whr M n c f < 25 := by
  have := ((z_dys_sn (ev := M 321 52) (z_R_C hR) (z_sn_slc hR hc) n).1 f h0 h1).1
  have hx := z_mc_cells (z_R_C hR)
  unfold z_whr
  omega
theorem s_X0_countWhere {P : Option z_V → z_L → z_M → Prop} {c : Int} {n : Nat} (hR : z_R M) (hc : 0 ≤ c ∧ c < 25) (hn9 : n ≤ 9) (hb : ∀ j : Int, 0 ≤ j → j < 150 → 0 ≤ M 46 j ∧ M 46 j ≤ 1000) (kk : ∀ M' : z_M, z_sc M M' → (∀ f x : Int, 0 ≤ f → f < M 321 48 → 0 ≤ x → x < 25 → M' 46 (25 * f + x) = M 46 (25 * f + x) + z_b (z_whr M n c f = x)) → (∀ j : Int, ¬ (0 ≤ j ∧ j < 25 * M 321 48) → M' 46 j = M 46 j) → P none z_LL M') : wp xs (d + 4) mX0_countWhere 0 [(2, 38), (2, M 1 2), (0, c), (0, (n : Int)), (3, 0)] [] z_LL M P := by
  have he := (z_R_C hR).2.2.2.1
  have hnf := (z_R_C hR).2.2.1
  obtain ⟨f0, H0⟩ := z_R_t1 hR hc
  have hsn := fun j : Nat => z_dys_sn (ev := M 321 52) (z_R_C hR) (z_sn_slc hR hc) j
  have e46 : z_up (z_cph M (M 1 2) 39) 43 c 9 46 = M 46 := by rw [z_upn (by decide), z_cph_o (by omega)]
  refine gX0_countWhere_0 (z_R_F hR) (z_R_H hR).1 (z_hk_ish (z_R_k hR)).2 hc ?_
  refine z_loop (W := fun i => ∀ M' : z_M, z_sc M M' → M' 46 = M 46 → z_hrd M' 39 (z_dys M (M 321 52) (z_slc (M 342) c) i) → wp xs (d + 4) mX0_countWhere 22 [(2, 38), (2, M 1 2), (0, c), (0, (n : Int)), (0, (i : Int))] [] z_LL M' P) n (fun i hi ih M' f e6 H => ?_) _ f0 e46 H0
  have hR' := z_sc_R f hR
  have q1 : M' 1 = M 1 := f.1 1 (by unfold z_sq; omega)
  have e321 := z_sc_c f 321 (by unfold z_conf; omega)
  have hh : z_her M' (M 1 2) := by rw [← q1]; exact (z_R_H hR').1
  have g := gX0_countWhere_22 (M := M') (xs := xs) (d := d + 3) (P := P) (x1 := M 1 2) (x2 := c) (x3 := (n : Int)) (x4 := (i : Int)) (z_R_F hR') hh (z_R_G hR').1
  rw [(z_R_G hR').2.1.2.2.2.2.2, e321] at g
  refine g (fun c1 => ?_) (fun c1 => ?_)
  · obtain rfl : i = n := by omega
    have wr := fun f a b => z_whr_r (n := i) hR hc (f := f) a b
    have wh : ∀ f : Int, 0 ≤ f → f < M 321 48 → M' 40 f = z_whr M i c f := fun f a b => (H.2.1 f a (by rw [e321]; exact b)).1
    refine z_loop (W := fun j => ∀ M2 : z_M, (∀ q, q ≠ 46 → M2 q = M' q) → (∀ f x : Int, 0 ≤ f → f < j → 0 ≤ x → x < 25 → M2 46 (25 * f + x) = M 46 (25 * f + x) + z_b (z_whr M i c f = x)) → (∀ y : Int, ¬ (0 ≤ y ∧ y < 25 * j) → M2 46 y = M 46 y) → wp xs (d + 4) mX0_countWhere 59 [(2, 38), (2, M 1 2), (0, c), (0, (i : Int)), (0, (j : Int))] [] z_LL M2 P) (M 321 48).toNat (fun j hj ih2 M2 h1 h2 h3 => ?_) M' (fun _ _ => rfl) (fun f x a b => by omega) (fun y _ => by rw [e6])
    have f2 : z_sc M M2 := z_sc_t f ⟨fun q hq => h1 q (by unfold z_sq at hq; omega), fun j _ => by rw [h1 34 (by decide)], fun j _ _ => ⟨by rw [h1 38 (by decide)], by rw [h1 289 (by decide)]⟩, fun j _ _ => by rw [h1 39 (by decide)], fun k _ => by rw [h1 343 (by decide)]⟩
    have hR2 := z_sc_R f2 hR
    have g := gX0_countWhere_59 (M := M2) (xs := xs) (d := d + 4) (P := P) (x1 := M 1 2) (x2 := c) (x3 := (i : Int)) (x4 := (j : Int)) (z_R_F hR2) (by rw [← q1, ← h1 1 (by decide)]; exact (z_R_H hR2).1) (z_R_G hR2).1
    rw [(z_R_G hR2).2.1.2.2.1, z_sc_c f2 321 (by unfold z_conf; omega), h1 40 (by decide), z_in1 (by omega)] at g
    by_cases hlt : (j : Int) < M 321 48
    · have w := wr j (by omega) hlt
      have hbj := hb (25 * j + z_whr M i c j) (by omega) (by omega)
      rw [wh j (by omega) hlt, z_wid (x := (j : Int) * 25) (by omega), show (j : Int) * 25 = 25 * j by omega, z_wid (x := 25 * (j : Int) + z_whr M i c j) (by omega), h3 (25 * j + z_whr M i c j) (by omega), z_wid (x := M 46 (25 * j + z_whr M i c j) + 1) (by omega)] at g
      refine g (fun q => by omega) (fun _ => by omega) (fun _ => by omega) (fun _ => ?_)
      refine ih2 (by omega) _ (fun q hq => by rw [z_upn hq, h1 q hq]) (fun f x a b a2 b2 => ?_) (fun y hy => ?_)
      · by_cases e : f = j
        · rw [e]
          by_cases e2 : x = z_whr M i c j
          · rw [e2, z_ups, z_b_t rfl]
          · rw [z_upi (by omega) rfl, z_b_f (fun q => e2 q.symm), h3 _ (by omega)]
            omega
        · rw [z_upi (by omega) rfl, h2 f x a (by omega) a2 b2]
      · rw [z_upi (by omega) rfl, h3 y (by omega)]
    · refine g (fun _ => kk M2 f2 (fun f x a b => h2 f x a (by omega)) (fun y hy => h3 y (by omega))) (fun q => by omega) (fun q => by omega) (fun q => by omega)
  · refine s_trial hR' H (z_sn_x (z_cfe_c (z_sc_c f)) (hsn i)) (by omega) (by omega) (fun M2 f2 _ fp H2 => ?_)
    refine gX0_countWhere_49 (M := M2) (x1 := M 1 2) (by rw [← q1, ← show M2 1 = M' 1 from f2.1 1 (by unfold z_sq; omega)]; exact (z_R_H (z_sc_R f2 hR')).1) ?_
    rw [z_in1 (by omega)]
    refine ih (by omega) M2 (z_sc_t f f2) (by rw [fp.1 46 (by decide) (by decide) (by decide) (by decide) (by decide), e6]) ?_
    rw [z_day_q (z_sc_c f)] at H2
    exact H2
def z_mxo (T : Int → Int) : Nat → Int
  | 0 => 0
  | k + 1 => max (z_mxo T k) (T k)
theorem z_mxo_c {T U : Int → Int} : ∀ {n : Nat}, (∀ c : Int, 0 ≤ c → c < n → T c = U c) → z_mxo T n = z_mxo U n
  | 0, _ => rfl
  | n + 1, h => by rw [z_mxo, z_mxo, z_mxo_c (n := n) (fun c a b => h c a (by omega)), h n (by omega) (by omega)]
/-- the first of the least -/
def z_bsf (g : Int → Int) : Nat → Int × Int
  | 0 => (0, g 0)
  | k + 1 => if g ((k + 1 : Nat) : Int) < (z_bsf g k).2 then (((k + 1 : Nat) : Int), g ((k + 1 : Nat) : Int)) else z_bsf g k
theorem z_bsf_v {g : Int → Int} : ∀ k : Nat, g (z_bsf g k).1 = (z_bsf g k).2 ∧ 0 ≤ (z_bsf g k).1 ∧ (z_bsf g k).1 ≤ k
  | 0 => ⟨rfl, Int.le_refl _, Int.le_refl _⟩
  | k + 1 => by
    have ih := z_bsf_v (g := g) k
    rw [z_bsf]
    by_cases c : g ((k + 1 : Nat) : Int) < (z_bsf g k).2
    · rw [if_pos c]
      exact ⟨rfl, by show (0 : Int) ≤ ((k + 1 : Nat) : Int); omega, Int.le_refl _⟩
    · rw [if_neg c]
      exact ⟨ih.1, ih.2.1, by omega⟩
/-- what a watched flock would leave at the most -/
noncomputable def z_lft (M : z_M) (k : Int) (n : Nat) (f : Int) : Int := z_mxo (fun c => z_tal M (z_ldg M k) n (M 321 46 * M 321 47).toNat f c) 25
theorem z_lft_q {M' : z_M} (f : z_sc M M') : z_lft M' = z_lft M := by
  funext k n g
  unfold z_lft z_tal
  rw [z_ldg_q f, z_whr_q f, z_sc_c f 321 (by unfold z_conf; omega)]
theorem s_X0_nextToWatch {P : Option z_V → z_L → z_M → Prop} {k : Int} {n : Nat} (hR : z_R M) (hn9 : n ≤ 9) (hnf : 1 ≤ M 321 48) (kk : ∀ M' : z_M, z_sc M M' → M' 38 8 = (z_bsf (z_lft M k n) ((M 321 48).toNat - 1)).2 → P (some (0, (z_bsf (z_lft M k n) ((M 321 48).toNat - 1)).1)) z_LL M') : wp xs (d + 5) mX0_nextToWatch 0 [(2, 38), (2, M 1 2), (0, z_set (z_ldg M k) (M 321 46 * M 321 47).toNat), (0, (n : Int)), (3, 0), (3, 0), (3, 0), (3, 0)] [] z_LL M P := by
  have hx := z_mc_cells (z_R_C hR)
  have hn := (z_R_C hR).2.2.1
  refine gX0_nextToWatch_0 (z_R_F hR) (z_R_H hR).1 ?_
  refine s_fill (n := 150) rfl (by decide) (fun M1 h1 h2 => ?_)
  have f1 : z_sc M M1 := ⟨fun q hq => h1 q (by unfold z_sq at hq; omega), fun j _ => by rw [h1 34 (by decide)], fun j _ _ => ⟨by rw [h1 38 (by decide)], by rw [h1 289 (by decide)]⟩, fun j _ _ => by rw [h1 39 (by decide)], fun k _ => by rw [h1 343 (by decide)]⟩
  have hh : ∀ M' : z_M, z_sc M M' → z_her M' (M 1 2) := fun M' f => by
    have q1 : M' 1 = M 1 := f.1 1 (by unfold z_sq; omega)
    rw [← q1]
    exact (z_R_H (z_sc_R f hR)).1
  refine gX0_nextToWatch_8 (x1 := M 1 2) (hh M1 f1) ?_
  generalize hp : z_ldg M k = p at *
  refine z_loop (W := fun i => ∀ M' : z_M, z_sc M M' → (∀ f x : Int, 0 ≤ f → f < M 321 48 → 0 ≤ x → x < 25 → M' 46 (25 * f + x) = z_tal M p n i f x) → (∀ j : Int, ¬ (0 ≤ j ∧ j < 25 * M 321 48) → 0 ≤ j → j < 150 → M' 46 j = 0) → wp xs (d + 5) mX0_nextToWatch 11 [(2, 38), (2, M 1 2), (0, z_set p (M 321 46 * M 321 47).toNat), (0, (n : Int)), (0, (i : Int)), (3, 0), (3, 0), (3, 0)] [] z_LL M' P) (M 321 46 * M 321 47).toNat (fun i hi ih M' f v1 v2 => ?_) M1 f1 (fun f x a b a2 b2 => h2 _ (by omega) (by omega)) (fun j _ a b => h2 j a b)
  have hR' := z_sc_R f hR
  have q1 : M' 1 = M 1 := f.1 1 (by unfold z_sq; omega)
  have e321 := z_sc_c f 321 (by unfold z_conf; omega)
  have g := gX0_nextToWatch_11 (M := M') (xs := xs) (d := d + 4) (P := P) (x1 := M 1 2) (x2 := z_set p (M 321 46 * M 321 47).toNat) (x3 := (n : Int)) (x4 := (i : Int)) (z_R_F hR') (hh M' f) (z_R_G hR').1
  rw [(z_R_G hR').2.1.1, (z_R_G hR').2.1.2.1, (z_R_n hR').2.2.2.2, e321, z_in1 (by omega)] at g
  have bit : (i : Int) < M 321 46 * M 321 47 → (z_and (z_shr (z_set p (M 321 46 * M 321 47).toNat) i) 1 ≠ 0 ↔ p i) := fun hlt => by
    have := z_set_b (p := p) (c := (i : Int)) (by omega) (n := (M 321 46 * M 321 47).toNat) (by omega)
    unfold z_bt at this
    rw [this]
    exact ⟨fun q => q.2, fun q => ⟨by omega, q⟩⟩
  refine g (fun c => ?_) (fun c c2 => ?_) (fun c c2 => ?_)
  · -- which flock
    obtain rfl : i = (M 321 46 * M 321 47).toNat := by omega
    have lf : ∀ f : Int, z_lft M k n f = z_mxo (fun c => z_tal M p n (M 321 46 * M 321 47).toNat f c) 25 := fun f => by
      unfold z_lft
      rw [hp]
    have W55 : ∀ j : Nat, j ≤ (M 321 48).toNat → ∀ (M2 : z_M) (x4 : Int) (w6 w7 : z_V), z_sc M M2 → M2 46 = M' 46 → ((j = 0 ∧ x4 = -1) ∨ (1 ≤ j ∧ x4 = (z_bsf (z_lft M k n) (j - 1)).1 ∧ M2 38 8 = (z_bsf (z_lft M k n) (j - 1)).2)) → wp xs (d + 5) mX0_nextToWatch 55 [(2, 38), (2, M 1 2), (0, z_set p (M 321 46 * M 321 47).toNat), (0, (n : Int)), (0, x4), (0, (j : Int)), w6, w7] [] z_LL M2 P := by
      refine z_down (W := fun j => ∀ (M2 : z_M) (x4 : Int) (w6 w7 : z_V), z_sc M M2 → M2 46 = M' 46 → ((j = 0 ∧ x4 = -1) ∨ (1 ≤ j ∧ x4 = (z_bsf (z_lft M k n) (j - 1)).1 ∧ M2 38 8 = (z_bsf (z_lft M k n) (j - 1)).2)) → wp xs (d + 5) mX0_nextToWatch 55 [(2, 38), (2, M 1 2), (0, z_set p (M 321 46 * M 321 47).toNat), (0, (n : Int)), (0, x4), (0, (j : Int)), w6, w7] [] z_LL M2 P) (M 321 48).toNat ?_ ?_
      · intro M2 x4 w6 w7 f2 e6 hv
        have hR2 := z_sc_R f2 hR
        have g := gX0_nextToWatch_55 (M := M2) (xs := xs) (d := d + 5) (P := P) (x1 := M 1 2) (x2 := z_set p (M 321 46 * M 321 47).toNat) (x3 := (n : Int)) (x4 := x4) (x5 := (((M 321 48).toNat : Nat) : Int)) (w6 := w6) (w7 := w7) (z_R_F hR2) (hh M2 f2) (z_R_G hR2).1
        rw [(z_R_G hR2).2.1.2.2.1, z_sc_c f2 321 (by unfold z_conf; omega)] at g
        refine g (fun _ => ?_) (fun q => by omega)
        rcases hv with hv | ⟨_, hv1, hv2⟩
        · omega
        · rw [hv1]
          exact kk M2 f2 hv2
      · intro j hj ih2 M2 x4 w6 w7 f2 e6 hv
        have hR2 := z_sc_R f2 hR
        have g := gX0_nextToWatch_55 (M := M2) (xs := xs) (d := d + 5) (P := P) (x1 := M 1 2) (x2 := z_set p (M 321 46 * M 321 47).toNat) (x3 := (n : Int)) (x4 := x4) (x5 := (j : Int)) (w6 := w6) (w7 := w7) (z_R_F hR2) (hh M2 f2) (z_R_G hR2).1
        rw [(z_R_G hR2).2.1.2.2.1, z_sc_c f2 321 (by unfold z_conf; omega)] at g
        refine g (fun q => by omega) (fun _ => ?_)
        refine z_loop (W := fun c => wp xs (d + 5) mX0_nextToWatch 76 [(2, 38), (2, M 1 2), (0, z_set p (M 321 46 * M 321 47).toNat), (0, (n : Int)), (0, x4), (0, (j : Int)), (0, z_mxo (fun c => z_tal M p n (M 321 46 * M 321 47).toNat j c) c), (0, (c : Int))] [] z_LL M2 P) 25 (fun c hc ih3 => ?_)
        have g := gX0_nextToWatch_76 (M := M2) (xs := xs) (d := d + 5) (P := P) (x1 := M 1 2) (x2 := z_set p (M 321 46 * M 321 47).toNat) (x3 := (n : Int)) (x4 := x4) (x5 := (j : Int)) (x6 := z_mxo (fun c => z_tal M p n (M 321 46 * M 321 47).toNat j c) c) (x7 := (c : Int)) (z_R_F hR2) (hh M2 f2)
        rw [e6, z_wid (x := (j : Int) * 25) (by omega), show (j : Int) * 25 = 25 * j by omega, z_wid (x := 25 * (j : Int) + c) (by omega), z_in1 (i := j) (by omega), z_in1 (i := c) (by omega), z_max_eq] at g
        have fin : c = 25 → ∀ (v : Int), z_sc M (z_up M2 38 8 v) := fun _ v => z_sc_t f2 ⟨fun q hq => z_upn (by unfold z_sq at hq; omega), fun j _ => by rw [z_upn (by decide)], fun j _ hj => ⟨z_upi (by omega) rfl, by rw [z_upn (by decide)]⟩, fun j _ _ => by rw [z_upn (by decide)], fun k _ => by rw [z_upn (by decide)]⟩
        refine g (fun c1 c2 => ?_) (fun c1 c2 c3 => ?_) (fun c1 c2 c3 => ?_) (fun _ => by omega) (fun c1 => ?_)
        · obtain rfl : c = 25 := by omega
          rw [← lf]
          refine ih2 _ _ _ _ (fin rfl _) (by rw [z_upn (by decide), e6]) (Or.inr ⟨by omega, ?_, ?_⟩)
          all_goals
            rcases hv with ⟨hv1, hv2⟩ | ⟨hv0, hv1, hv2⟩
          · rw [hv1]
            rfl
          · have := (z_bsf_v (g := z_lft M k n) (j - 1)).2.1
            omega
          · rw [z_ups, hv1]
            rfl
          · have := (z_bsf_v (g := z_lft M k n) (j - 1)).2.1
            omega
        · obtain rfl : c = 25 := by omega
          rw [← lf] at c3 ⊢
          rcases hv with ⟨hv1, hv2⟩ | ⟨hv0, hv1, hv2⟩
          · exact absurd hv2 c2
          · have es : z_bsf (z_lft M k n) j = z_bsf (z_lft M k n) (j - 1) := by
              obtain ⟨j', rfl⟩ : ∃ j', j = j' + 1 := ⟨j - 1, by omega⟩
              rw [z_bsf, if_neg (by rw [hv2] at c3; show ¬ z_lft M k n ((j' + 1 : Nat) : Int) < (z_bsf (z_lft M k n) (j' + 1 - 1)).2; omega)]
              rfl
            refine ih2 _ _ _ _ f2 e6 (Or.inr ⟨by omega, ?_, ?_⟩)
            · show x4 = (z_bsf (z_lft M k n) j).1
              rw [es, hv1]
            · show M2 38 8 = (z_bsf (z_lft M k n) j).2
              rw [es, hv2]
        · obtain rfl : c = 25 := by omega
          rw [← lf] at c3 ⊢
          rcases hv with ⟨hv1, hv2⟩ | ⟨hv0, hv1, hv2⟩
          · exact absurd hv2 c2
          · have es : z_bsf (z_lft M k n) j = ((j : Int), z_lft M k n j) := by
              obtain ⟨j', rfl⟩ : ∃ j', j = j' + 1 := ⟨j - 1, by omega⟩
              rw [z_bsf, if_pos (by rw [hv2] at c3; show z_lft M k n ((j' + 1 : Nat) : Int) < (z_bsf (z_lft M k n) (j' + 1 - 1)).2; omega)]
            refine ih2 _ _ _ _ (fin rfl _) (by rw [z_upn (by decide), e6]) (Or.inr ⟨by omega, ?_, ?_⟩)
            · show (j : Int) = (z_bsf (z_lft M k n) j).1
              rw [es]
            · show z_up M2 38 8 _ 38 8 = (z_bsf (z_lft M k n) j).2
              rw [es, z_ups]
        · rw [v1 j c (by omega) (by omega) (by omega) (by omega)]
          exact ih3 (by omega)
    exact W55 0 (by omega) M' (-1) _ _ f rfl (Or.inl ⟨rfl, rfl⟩)
  · have np : ¬ p i := fun q => ((bit (by omega)).mpr q) c2
    refine ih (by omega) M' f (fun f x a b a2 b2 => ?_) v2
    rw [z_tal_n np]
    exact v1 f x a b a2 b2
  · have yp : p i := (bit (by omega)).mp c2
    rw [← q1]
    refine s_X0_countWhere hR' (by omega) hn9 (fun j a b => ?_) (fun M2 f2 w1 w2 => ?_)
    · by_cases e : j < 25 * M 321 48
      · have tb := z_tal_b (M := M) (p := p) (n := n) (i := i) (f := j / 25) (c := j % 25)
        have := v1 (j / 25) (j % 25) (by omega) (by omega) (by omega) (by omega)
        rw [show 25 * (j / 25) + j % 25 = j by omega] at this
        omega
      · have := v2 j (by omega) a b
        omega
    · have q2 : M2 1 = M' 1 := f2.1 1 (by unfold z_sq; omega)
      refine gX0_nextToWatch_43 (M := M2) (x1 := M' 1 2) (by rw [← q2]; exact (z_R_H (z_sc_R f2 hR')).1) ?_
      rw [z_in1 (by omega), q1]
      rw [e321] at w1 w2
      refine ih (by omega) M2 (z_sc_t f f2) (fun f' x a b a2 b2 => ?_) (fun j hj a b => by rw [w2 j hj]; exact v2 j hj a b)
      rw [w1 f' x a b a2 b2, v1 f' x a b a2 b2, z_tal_y yp, z_whr_q f]
end
