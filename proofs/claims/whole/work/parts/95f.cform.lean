/-! THE FORMULA: the class reads it -/
set_option maxRecDepth 20000 in
theorem gX5_levelOf_0 {xs : List Int} {d : Nat} {M : z_M} {P : Option z_V → z_L → z_M → Prop} {a1 : Int} 
    (l1 : (a1 = 16) → P (some (0, 0)) z_LL M)
    (l2 : (¬ a1 = 16) → (a1 = 17) → P (some (0, 1)) z_LL M)
    (l3 : (¬ a1 = 16) → (¬ a1 = 17) → (a1 = 37) → P (some (0, 4)) z_LL M)
    (l4 : (¬ a1 = 16) → (¬ a1 = 17) → (¬ a1 = 37) → (a1 = 42) → P (some (0, 4)) z_LL M)
    (l5 : (¬ a1 = 16) → (¬ a1 = 17) → (¬ a1 = 37) → (¬ a1 = 42) → (a1 = 43) → P (some (0, 3)) z_LL M)
    (l6 : (¬ a1 = 16) → (¬ a1 = 17) → (¬ a1 = 37) → (¬ a1 = 42) → (¬ a1 = 43) → (a1 = 45) → P (some (0, 3)) z_LL M)
    (l7 : (¬ a1 = 16) → (¬ a1 = 17) → (¬ a1 = 37) → (¬ a1 = 42) → (¬ a1 = 43) → (¬ a1 = 45) → (a1 = 47) → P (some (0, 4)) z_LL M)
    (l8 : (¬ a1 = 16) → (¬ a1 = 17) → (¬ a1 = 37) → (¬ a1 = 42) → (¬ a1 = 43) → (¬ a1 = 45) → (¬ a1 = 47) → (a1 = 60) → P (some (0, 2)) z_LL M)
    (l9 : (¬ a1 = 16) → (¬ a1 = 17) → (¬ a1 = 37) → (¬ a1 = 42) → (¬ a1 = 43) → (¬ a1 = 45) → (¬ a1 = 47) → (¬ a1 = 60) → (a1 = 61) → P (some (0, 2)) z_LL M)
    (l10 : (¬ a1 = 16) → (¬ a1 = 17) → (¬ a1 = 37) → (¬ a1 = 42) → (¬ a1 = 43) → (¬ a1 = 45) → (¬ a1 = 47) → (¬ a1 = 60) → (¬ a1 = 61) → (a1 = 62) → P (some (0, 2)) z_LL M)
    (l11 : (¬ a1 = 16) → (¬ a1 = 17) → (¬ a1 = 37) → (¬ a1 = 42) → (¬ a1 = 43) → (¬ a1 = 45) → (¬ a1 = 47) → (¬ a1 = 60) → (¬ a1 = 61) → (¬ a1 = 62) → P (some (0, (-1))) z_LL M) :
    wp xs d mX5_levelOf 0 [(0, a1)] [] z_LL M P := by
  refine wp_run 1 (pc' := 1) (ls' := [(0, a1)]) (st' := [(0, a1)]) rfl ?_
  by_cases c1 : a1 = 16
  · refine wp_cast c1 ?_
    refine wp_run 2 (pc' := 93) (ls' := [(0, a1)]) (st' := [(0, 0)]) rfl ?_
    exact wp_ret rfl rfl (l1 c1)
  by_cases c2 : a1 = 17
  · refine wp_cast c2 ?_
    refine wp_run 2 (pc' := 95) (ls' := [(0, a1)]) (st' := [(0, 1)]) rfl ?_
    exact wp_ret rfl rfl (l2 c1 c2)
  by_cases c3 : a1 = 37
  · refine wp_cast c3 ?_
    refine wp_run 2 (pc' := 101) (ls' := [(0, a1)]) (st' := [(0, 4)]) rfl ?_
    exact wp_ret rfl rfl (l3 c1 c2 c3)
  by_cases c4 : a1 = 42
  · refine wp_cast c4 ?_
    refine wp_run 2 (pc' := 101) (ls' := [(0, a1)]) (st' := [(0, 4)]) rfl ?_
    exact wp_ret rfl rfl (l4 c1 c2 c3 c4)
  by_cases c5 : a1 = 43
  · refine wp_cast c5 ?_
    refine wp_run 2 (pc' := 99) (ls' := [(0, a1)]) (st' := [(0, 3)]) rfl ?_
    exact wp_ret rfl rfl (l5 c1 c2 c3 c4 c5)
  by_cases c6 : a1 = 45
  · refine wp_cast c6 ?_
    refine wp_run 2 (pc' := 99) (ls' := [(0, a1)]) (st' := [(0, 3)]) rfl ?_
    exact wp_ret rfl rfl (l6 c1 c2 c3 c4 c5 c6)
  by_cases c7 : a1 = 47
  · refine wp_cast c7 ?_
    refine wp_run 2 (pc' := 101) (ls' := [(0, a1)]) (st' := [(0, 4)]) rfl ?_
    exact wp_ret rfl rfl (l7 c1 c2 c3 c4 c5 c6 c7)
  by_cases c8 : a1 = 60
  · refine wp_cast c8 ?_
    refine wp_run 2 (pc' := 97) (ls' := [(0, a1)]) (st' := [(0, 2)]) rfl ?_
    exact wp_ret rfl rfl (l8 c1 c2 c3 c4 c5 c6 c7 c8)
  by_cases c9 : a1 = 61
  · refine wp_cast c9 ?_
    refine wp_run 2 (pc' := 97) (ls' := [(0, a1)]) (st' := [(0, 2)]) rfl ?_
    exact wp_ret rfl rfl (l9 c1 c2 c3 c4 c5 c6 c7 c8 c9)
  by_cases c10 : a1 = 62
  · refine wp_cast c10 ?_
    refine wp_run 2 (pc' := 97) (ls' := [(0, a1)]) (st' := [(0, 2)]) rfl ?_
    exact wp_ret rfl rfl (l10 c1 c2 c3 c4 c5 c6 c7 c8 c9 c10)
  refine wp_lsd rfl rfl (by simp [z_lsw, c1, c2, c3, c4, c5, c6, c7, c8, c9, c10]) ?_
  refine wp_run 1 (pc' := 103) (ls' := [(0, a1)]) (st' := [(0, (-1))]) rfl ?_
  exact wp_ret rfl rfl (l11 c1 c2 c3 c4 c5 c6 c7 c8 c9 c10)
set_option maxRecDepth 20000 in
theorem gX5_isUnit_0 {xs : List Int} {d : Nat} {M : z_M} {P : Option z_V → z_L → z_M → Prop} {a1 : Int} 
    (l1 : (a1 = 25) → P (some (0, 1)) z_LL M)
    (l2 : (¬ (a1 = 25)) → (a1 = 40) → P (some (0, 1)) z_LL M)
    (l3 : (¬ (a1 = 25)) → (¬ (a1 = 40)) → (¬ (a1 = 3 ∨ (19 ≤ a1 ∧ a1 ≤ 23))) → P (some (0, 0)) z_LL M)
    (l4 : (¬ (a1 = 25)) → (¬ (a1 = 40)) → ((a1 = 3 ∨ (19 ≤ a1 ∧ a1 ≤ 23))) → P (some (0, 1)) z_LL M) :
    wp xs (d + 1) mX5_isUnit 0 [(0, a1)] [] z_LL M P := by
  refine wp_run 2 (pc' := 3) (ls' := [(0, a1)]) (st' := [(0, 25), (0, a1)]) rfl ?_
  refine wp_if2 rfl rfl rfl (fun (c1 : a1 = 25) => ?_) (fun (c1 : ¬ (a1 = 25)) => ?_)
  · refine wp_run 2 (pc' := 24) (ls' := [(0, a1)]) (st' := [(0, 1)]) rfl ?_
    exact wp_ret rfl rfl (l1 c1)
  · refine wp_run 2 (pc' := 9) (ls' := [(0, a1)]) (st' := [(0, 40), (0, a1)]) rfl ?_
    refine wp_if2 rfl rfl rfl (fun (c2 : a1 = 40) => ?_) (fun (c2 : ¬ (a1 = 40)) => ?_)
    · refine wp_run 2 (pc' := 24) (ls' := [(0, a1)]) (st' := [(0, 1)]) rfl ?_
      exact wp_ret rfl rfl (l2 c1 c2)
    · refine wp_run 1 (pc' := 13) (ls' := [(0, a1)]) (st' := [(0, a1)]) rfl ?_
      refine wp_callv (pc' := 16) (as := [(0, a1)]) (rest := []) (ls1 := [(0, a1)]) rfl rfl rfl rfl rfl rfl ?_
      refine s_X5_isUnitWord  ?_
      show wp xs _ mX5_isUnit 16 [(0, a1)] [(0, (z_b (a1 = 3 ∨ (19 ≤ a1 ∧ a1 ≤ 23))))] z_LL M _
      refine wp_be rfl rfl rfl (fun (c3 : ¬ (a1 = 3 ∨ (19 ≤ a1 ∧ a1 ≤ 23))) => ?_) (fun (c3 : (a1 = 3 ∨ (19 ≤ a1 ∧ a1 ≤ 23))) => ?_)
      · refine wp_run 1 (pc' := 24) (ls' := [(0, a1)]) (st' := [(0, 0)]) rfl ?_
        exact wp_ret rfl rfl (l3 c1 c2 c3)
      · refine wp_run 2 (pc' := 24) (ls' := [(0, a1)]) (st' := [(0, 1)]) rfl ?_
        exact wp_ret rfl rfl (l4 c1 c2 c3)
set_option maxRecDepth 20000 in
theorem gX5_formula_0 {xs : List Int} {d : Nat} {M : z_M} {P : Option z_V → z_L → z_M → Prop} {a1 : Int} {a2 : Int} (hF : z_fix M) 
    (l1 : (a1 ≠ 2) → (a1 ≠ 5) → wp xs d mX5_formula 0 [(2, 33), (0, (z_w (a1 + 1))), (0, a2), (3, 0), (3, 0)] [] z_LL M (fun r L1 M1 => wp xs (d + 1) mX5_formula 42 [(2, 33), (0, a1), (0, a2), (3, 0), (3, 0)] (z_ol r ++ []) L1 M1 P))
    (l2 : (a1 ≠ 2) → (¬ (a1 ≠ 5)) → wp xs d mX5_unit 0 [(2, 33), (0, a2), (3, 0), (3, 0), (3, 0)] [] z_LL M (fun r L1 M1 => wp xs (d + 1) mX5_formula 33 [(2, 33), (0, a1), (0, a2), (3, 0), (3, 0)] (z_ol r ++ []) L1 M1 P))
    (l3 : (¬ (a1 ≠ 2)) → ((M 30 3) ≠ 18) → (a1 ≠ 5) → wp xs d mX5_formula 0 [(2, 33), (0, (z_w (a1 + 1))), (0, a2), (3, 0), (3, 0)] [] z_LL M (fun r L1 M1 => wp xs (d + 1) mX5_formula 42 [(2, 33), (0, a1), (0, a2), (3, 0), (3, 0)] (z_ol r ++ []) L1 M1 P))
    (l4 : (¬ (a1 ≠ 2)) → ((M 30 3) ≠ 18) → (¬ (a1 ≠ 5)) → wp xs d mX5_unit 0 [(2, 33), (0, a2), (3, 0), (3, 0), (3, 0)] [] z_LL M (fun r L1 M1 => wp xs (d + 1) mX5_formula 33 [(2, 33), (0, a1), (0, a2), (3, 0), (3, 0)] (z_ol r ++ []) L1 M1 P))
    (l5 : (¬ (a1 ≠ 2)) → (¬ ((M 30 3) ≠ 18)) → wp xs d mX5_negation 0 [(2, 33), (0, a2)] [] z_LL M (fun r L1 M1 => wp xs (d + 1) mX5_formula 22 [(2, 33), (0, a1), (0, a2), (3, 0), (3, 0)] (z_ol r ++ []) L1 M1 P)) :
    wp xs (d + 1) mX5_formula 0 [(2, 33), (0, a1), (0, a2), (3, 0), (3, 0)] [] z_LL M P := by
  refine wp_run 2 (pc' := 2) (ls' := [(2, 33), (0, a1), (0, a2), (3, 0), (3, 0)]) (st' := [(0, 2), (0, a1)]) rfl ?_
  refine wp_if2 rfl rfl rfl (fun (c1 : a1 ≠ 2) => ?_) (fun (c1 : ¬ (a1 ≠ 2)) => ?_)
  · refine wp_run 2 (pc' := 25) (ls' := [(2, 33), (0, a1), (0, a2), (3, 0), (3, 0)]) (st' := [(0, 5), (0, a1)]) rfl ?_
    refine wp_if2 rfl rfl rfl (fun (c2 : a1 ≠ 5) => ?_) (fun (c2 : ¬ (a1 ≠ 5)) => ?_)
    · refine wp_run 5 (pc' := 39) (ls' := [(2, 33), (0, a1), (0, a2), (3, 0), (3, 0)]) (st' := [(0, a2), (0, (z_w (a1 + 1))), (2, 33)]) rfl ?_
      refine wp_callv (pc' := 42) (as := [(2, 33), (0, (z_w (a1 + 1))), (0, a2)]) (rest := []) (ls1 := [(2, 33), (0, (z_w (a1 + 1))), (0, a2), (3, 0), (3, 0)]) rfl rfl rfl rfl rfl rfl ?_
      exact l1 c1 c2
    · refine wp_run 2 (pc' := 30) (ls' := [(2, 33), (0, a1), (0, a2), (3, 0), (3, 0)]) (st' := [(0, a2), (2, 33)]) rfl ?_
      refine wp_callv (pc' := 33) (as := [(2, 33), (0, a2)]) (rest := []) (ls1 := [(2, 33), (0, a2), (3, 0), (3, 0), (3, 0)]) rfl rfl rfl rfl rfl rfl ?_
      exact l2 c1 c2
  · refine wp_run 1 (pc' := 6) (ls' := [(2, 33), (0, a1), (0, a2), (3, 0), (3, 0)]) (st' := [(2, 33)]) rfl ?_
    refine wp_gf (pc' := 9) (t := 2) (v := 30) rfl rfl (by decide) rfl rfl (fx_33_0 hF) ?_
    refine wp_gf (pc' := 12) (t := 0) (v := (M 30 3)) rfl rfl (by decide) rfl rfl rfl ?_
    refine wp_run 1 (pc' := 14) (ls' := [(2, 33), (0, a1), (0, a2), (3, 0), (3, 0)]) (st' := [(0, 18), (0, (M 30 3))]) rfl ?_
    refine wp_if2 rfl rfl rfl (fun (c3 : (M 30 3) ≠ 18) => ?_) (fun (c3 : ¬ ((M 30 3) ≠ 18)) => ?_)
    · refine wp_run 2 (pc' := 25) (ls' := [(2, 33), (0, a1), (0, a2), (3, 0), (3, 0)]) (st' := [(0, 5), (0, a1)]) rfl ?_
      refine wp_if2 rfl rfl rfl (fun (c4 : a1 ≠ 5) => ?_) (fun (c4 : ¬ (a1 ≠ 5)) => ?_)
      · refine wp_run 5 (pc' := 39) (ls' := [(2, 33), (0, a1), (0, a2), (3, 0), (3, 0)]) (st' := [(0, a2), (0, (z_w (a1 + 1))), (2, 33)]) rfl ?_
        refine wp_callv (pc' := 42) (as := [(2, 33), (0, (z_w (a1 + 1))), (0, a2)]) (rest := []) (ls1 := [(2, 33), (0, (z_w (a1 + 1))), (0, a2), (3, 0), (3, 0)]) rfl rfl rfl rfl rfl rfl ?_
        exact l3 c1 c3 c4
      · refine wp_run 2 (pc' := 30) (ls' := [(2, 33), (0, a1), (0, a2), (3, 0), (3, 0)]) (st' := [(0, a2), (2, 33)]) rfl ?_
        refine wp_callv (pc' := 33) (as := [(2, 33), (0, a2)]) (rest := []) (ls1 := [(2, 33), (0, a2), (3, 0), (3, 0), (3, 0)]) rfl rfl rfl rfl rfl rfl ?_
        exact l4 c1 c3 c4
    · refine wp_run 2 (pc' := 19) (ls' := [(2, 33), (0, a1), (0, a2), (3, 0), (3, 0)]) (st' := [(0, a2), (2, 33)]) rfl ?_
      refine wp_callv (pc' := 22) (as := [(2, 33), (0, a2)]) (rest := []) (ls1 := [(2, 33), (0, a2)]) rfl rfl rfl rfl rfl rfl ?_
      exact l5 c1 c3
set_option maxRecDepth 20000 in
theorem gX5_formula_22 {xs : List Int} {d : Nat} {M : z_M} {P : Option z_V → z_L → z_M → Prop} {x1 : Int} {x2 : Int} 
    (l1 : P none z_LL M) :
    wp xs d mX5_formula 22 [(2, 33), (0, x1), (0, x2), (3, 0), (3, 0)] [] z_LL M P := by
  exact wp_ret rfl rfl (l1)
set_option maxRecDepth 20000 in
theorem gX5_formula_33 {xs : List Int} {d : Nat} {M : z_M} {P : Option z_V → z_L → z_M → Prop} {x1 : Int} {x2 : Int} 
    (l1 : P none z_LL M) :
    wp xs d mX5_formula 33 [(2, 33), (0, x1), (0, x2), (3, 0), (3, 0)] [] z_LL M P := by
  exact wp_ret rfl rfl (l1)
set_option maxRecDepth 20000 in
theorem gX5_formula_42 {xs : List Int} {d : Nat} {M : z_M} {P : Option z_V → z_L → z_M → Prop} {x1 : Int} {x2 : Int} 
    (l1 : wp xs d mX5_formula 44 [(2, 33), (0, x1), (0, x2), (0, 0), (3, 0)] [] z_LL M P) :
    wp xs d mX5_formula 42 [(2, 33), (0, x1), (0, x2), (3, 0), (3, 0)] [] z_LL M P := by
  refine wp_run 2 (pc' := 44) (ls' := [(2, 33), (0, x1), (0, x2), (0, 0), (3, 0)]) (st' := []) rfl ?_
  exact l1
set_option maxRecDepth 20000 in
theorem gX5_formula_44 {xs : List Int} {d : Nat} {M : z_M} {P : Option z_V → z_L → z_M → Prop} {x1 : Int} {x2 : Int} {x3 : Int} {w4 : z_V} (hF : z_fix M) 
    (l1 : (1600 ≤ x3) → P none z_LL M)
    (l2 : (¬ (1600 ≤ x3)) → ((M 33 1) ≠ 0) → P none z_LL M)
    (l3 : (¬ (1600 ≤ x3)) → (¬ ((M 33 1) ≠ 0)) → wp xs d mX5_levelOf 0 [(0, (M 30 3))] [] z_LL M (fun r L1 M1 => wp xs (d + 1) mX5_formula 68 [(2, 33), (0, x1), (0, x2), (0, x3), w4] (z_ol r ++ []) L1 M1 P)) :
    wp xs (d + 1) mX5_formula 44 [(2, 33), (0, x1), (0, x2), (0, x3), w4] [] z_LL M P := by
  refine wp_run 2 (pc' := 48) (ls' := [(2, 33), (0, x1), (0, x2), (0, x3), w4]) (st' := [(0, 1600), (0, x3)]) rfl ?_
  refine wp_if2 rfl rfl rfl (fun (c1 : 1600 ≤ x3) => ?_) (fun (c1 : ¬ (1600 ≤ x3)) => ?_)
  · exact wp_ret rfl rfl (l1 c1)
  · refine wp_run 1 (pc' := 52) (ls' := [(2, 33), (0, x1), (0, x2), (0, x3), w4]) (st' := [(2, 33)]) rfl ?_
    refine wp_callv (pc' := 55) (as := [(2, 33)]) (rest := []) (ls1 := [(2, 33)]) rfl rfl rfl rfl rfl rfl ?_
    refine wp_run 1 (pc' := 1) (ls' := [(2, 33)]) (st' := [(2, 33)]) rfl ?_
    refine wp_gf (pc' := 4) (t := 0) (v := (M 33 1)) rfl rfl (by decide) rfl rfl rfl ?_
    refine wp_if1 rfl rfl rfl (fun (c2 : (M 33 1) ≠ 0) => ?_) (fun (c2 : ¬ ((M 33 1) ≠ 0)) => ?_)
    · refine wp_run 1 (pc' := 12) (ls' := [(2, 33)]) (st' := [(0, 0)]) rfl ?_
      refine wp_ret rfl rfl ?_
      show wp xs _ mX5_formula 55 [(2, 33), (0, x1), (0, x2), (0, x3), w4] [(0, 0)] z_LL M _
      refine wp_run 1 (pc' := 119) (ls' := [(2, 33), (0, x1), (0, x2), (0, x3), w4]) (st' := []) rfl ?_
      exact wp_ret rfl rfl (l2 c1 c2)
    · refine wp_run 2 (pc' := 12) (ls' := [(2, 33)]) (st' := [(0, 1)]) rfl ?_
      refine wp_ret rfl rfl ?_
      show wp xs _ mX5_formula 55 [(2, 33), (0, x1), (0, x2), (0, x3), w4] [(0, 1)] z_LL M _
      refine wp_run 2 (pc' := 59) (ls' := [(2, 33), (0, x1), (0, x2), (0, x3), w4]) (st' := [(2, 33)]) rfl ?_
      refine wp_gf (pc' := 62) (t := 2) (v := 30) rfl rfl (by decide) rfl rfl (fx_33_0 hF) ?_
      refine wp_gf (pc' := 65) (t := 0) (v := (M 30 3)) rfl rfl (by decide) rfl rfl rfl ?_
      refine wp_callv (pc' := 68) (as := [(0, (M 30 3))]) (rest := []) (ls1 := [(0, (M 30 3))]) rfl rfl rfl rfl rfl rfl ?_
      exact l3 c1 c2
set_option maxRecDepth 20000 in
theorem gX5_formula_68 {xs : List Int} {d : Nat} {M : z_M} {P : Option z_V → z_L → z_M → Prop} {x1 : Int} {x2 : Int} {x3 : Int} {w4 : z_V} {s0 : Int} (hF : z_fix M) 
    (l1 : (s0 ≠ x1) → P none z_LL M)
    (l2 : (¬ (s0 ≠ x1)) → wp xs d mX7_step 0 [(2, 30)] [] z_LL M (fun r L1 M1 => wp xs (d + 1) mX5_formula 88 [(2, 33), (0, x1), (0, x2), (0, x3), (0, (M 30 3))] (z_ol r ++ []) L1 M1 P)) :
    wp xs (d + 1) mX5_formula 68 [(2, 33), (0, x1), (0, x2), (0, x3), w4] [(0, s0)] z_LL M P := by
  refine wp_run 1 (pc' := 69) (ls' := [(2, 33), (0, x1), (0, x2), (0, x3), w4]) (st' := [(0, x1), (0, s0)]) rfl ?_
  refine wp_if2 rfl rfl rfl (fun (c1 : s0 ≠ x1) => ?_) (fun (c1 : ¬ (s0 ≠ x1)) => ?_)
  · exact wp_ret rfl rfl (l1 c1)
  · refine wp_run 1 (pc' := 73) (ls' := [(2, 33), (0, x1), (0, x2), (0, x3), w4]) (st' := [(2, 33)]) rfl ?_
    refine wp_gf (pc' := 76) (t := 2) (v := 30) rfl rfl (by decide) rfl rfl (fx_33_0 hF) ?_
    refine wp_gf (pc' := 79) (t := 0) (v := (M 30 3)) rfl rfl (by decide) rfl rfl rfl ?_
    refine wp_run 2 (pc' := 82) (ls' := [(2, 33), (0, x1), (0, x2), (0, x3), (0, (M 30 3))]) (st' := [(2, 33)]) rfl ?_
    refine wp_gf (pc' := 85) (t := 2) (v := 30) rfl rfl (by decide) rfl rfl (fx_33_0 hF) ?_
    refine wp_callv (pc' := 88) (as := [(2, 30)]) (rest := []) (ls1 := [(2, 30)]) rfl rfl rfl rfl rfl rfl ?_
    exact l2 c1
set_option maxRecDepth 20000 in
theorem gX5_formula_88 {xs : List Int} {d : Nat} {M : z_M} {P : Option z_V → z_L → z_M → Prop} {x1 : Int} {x2 : Int} {x3 : Int} {x4 : Int} 
    (l1 : wp xs d mX5_formula 0 [(2, 33), (0, (z_w (x1 + 1))), (0, x2), (3, 0), (3, 0)] [] z_LL M (fun r L1 M1 => wp xs (d + 1) mX5_formula 96 [(2, 33), (0, x1), (0, x2), (0, x3), (0, x4)] (z_ol r ++ []) L1 M1 P)) :
    wp xs (d + 1) mX5_formula 88 [(2, 33), (0, x1), (0, x2), (0, x3), (0, x4)] [] z_LL M P := by
  refine wp_run 5 (pc' := 93) (ls' := [(2, 33), (0, x1), (0, x2), (0, x3), (0, x4)]) (st' := [(0, x2), (0, (z_w (x1 + 1))), (2, 33)]) rfl ?_
  refine wp_callv (pc' := 96) (as := [(2, 33), (0, (z_w (x1 + 1))), (0, x2)]) (rest := []) (ls1 := [(2, 33), (0, (z_w (x1 + 1))), (0, x2), (3, 0), (3, 0)]) rfl rfl rfl rfl rfl rfl ?_
  exact l1
set_option maxRecDepth 20000 in
theorem gX5_formula_96 {xs : List Int} {d : Nat} {M : z_M} {P : Option z_V → z_L → z_M → Prop} {x1 : Int} {x2 : Int} {x3 : Int} {x4 : Int} (hg1 : z_gor M (M 33 3))
    (l1 : (270 ≤ (M (M 33 3) 15)) → (x1 ≠ 2) → wp xs (d + 1) mX5_formula 44 [(2, 33), (0, x1), (0, x2), (0, (z_w (x3 + 1))), (0, x4)] [] z_LL M P)
    (l2 : (270 ≤ (M (M 33 3) 15)) → (¬ (x1 ≠ 2)) → P none z_LL M)
    (b1 : (¬ (270 ≤ (M (M 33 3) 15))) → 0 ≤ (M (M 33 3) 15) ∧ (M (M 33 3) 15) < 270)
    (l3 : (¬ (270 ≤ (M (M 33 3) 15))) → (x1 ≠ 2) → wp xs (d + 1) mX5_formula 44 [(2, 33), (0, x1), (0, x2), (0, (z_w (x3 + 1))), (0, x4)] [] z_LL (z_up (z_up M ((M 33 3) + 8) (M (M 33 3) 15) (z_xor x4 (-1))) (M 33 3) 15 (z_w ((M (M 33 3) 15) + 1))) P)
    (l4 : (¬ (270 ≤ (M (M 33 3) 15))) → (¬ (x1 ≠ 2)) → P none z_LL (z_up (z_up M ((M 33 3) + 8) (M (M 33 3) 15) (z_xor x4 (-1))) (M 33 3) 15 (z_w ((M (M 33 3) 15) + 1)))) :
    wp xs (d + 1) mX5_formula 96 [(2, 33), (0, x1), (0, x2), (0, x3), (0, x4)] [] z_LL M P := by
  refine wp_run 1 (pc' := 97) (ls' := [(2, 33), (0, x1), (0, x2), (0, x3), (0, x4)]) (st' := [(2, 33)]) rfl ?_
  refine wp_gf (pc' := 100) (t := 2) (v := (M 33 3)) rfl rfl (by decide) rfl rfl rfl ?_
  refine wp_run 3 (pc' := 104) (ls' := [(2, 33), (0, x1), (0, x2), (0, x3), (0, x4)]) (st' := [(0, (z_xor x4 (-1))), (2, (M 33 3))]) rfl ?_
  refine wp_callv (pc' := 107) (as := [(2, (M 33 3)), (0, (z_xor x4 (-1)))]) (rest := []) (ls1 := [(2, (M 33 3)), (0, (z_xor x4 (-1)))]) rfl rfl rfl rfl (z_args_v rfl rfl rfl rfl (Nat.le_of_ble_eq_true rfl) rfl (by decide) (z_gl0 hg1)) rfl ?_
  refine wp_run 1 (pc' := 1) (ls' := [(2, (M 33 3)), (0, (z_xor x4 (-1)))]) (st' := [(2, (M 33 3))]) rfl ?_
  refine wp_gf (pc' := 4) (t := 0) (v := (M (M 33 3) 15)) rfl rfl (by decide) rfl (z_gl0 hg1) rfl ?_
  refine wp_run 1 (pc' := 5) (ls' := [(2, (M 33 3)), (0, (z_xor x4 (-1)))]) (st' := [(2, (M 33 3)), (0, (M (M 33 3) 15))]) rfl ?_
  refine wp_gf (pc' := 8) (t := 2) (v := ((M 33 3) + 8)) rfl rfl (by decide) rfl (z_gl0 hg1) (z_gf7 hg1) ?_
  refine wp_len (pc' := 9) rfl rfl (z_gl8 hg1) (by decide) ?_
  refine wp_if2 rfl rfl rfl (fun (c1 : 270 ≤ (M (M 33 3) 15)) => ?_) (fun (c1 : ¬ (270 ≤ (M (M 33 3) 15))) => ?_)
  · refine wp_ret rfl rfl ?_
    show wp xs _ mX5_formula 107 [(2, 33), (0, x1), (0, x2), (0, x3), (0, x4)] [] z_LL M _
    refine wp_run 2 (pc' := 109) (ls' := [(2, 33), (0, x1), (0, x2), (0, x3), (0, x4)]) (st' := [(0, 2), (0, x1)]) rfl ?_
    refine wp_if2 rfl rfl rfl (fun (c2 : x1 ≠ 2) => ?_) (fun (c2 : ¬ (x1 ≠ 2)) => ?_)
    · refine wp_run 2 (pc' := 44) (ls' := [(2, 33), (0, x1), (0, x2), (0, (z_w (x3 + 1))), (0, x4)]) (st' := []) rfl ?_
      exact l1 c1 c2
    · exact wp_ret rfl rfl (l2 c1 c2)
  · refine wp_run 1 (pc' := 13) (ls' := [(2, (M 33 3)), (0, (z_xor x4 (-1)))]) (st' := [(2, (M 33 3))]) rfl ?_
    refine wp_gf (pc' := 16) (t := 2) (v := ((M 33 3) + 8)) rfl rfl (by decide) rfl (z_gl0 hg1) (z_gf7 hg1) ?_
    refine wp_run 1 (pc' := 17) (ls' := [(2, (M 33 3)), (0, (z_xor x4 (-1)))]) (st' := [(2, (M 33 3)), (2, ((M 33 3) + 8))]) rfl ?_
    refine wp_gf (pc' := 20) (t := 0) (v := (M (M 33 3) 15)) rfl rfl (by decide) rfl (z_gl0 hg1) rfl ?_
    refine wp_run 1 (pc' := 21) (ls' := [(2, (M 33 3)), (0, (z_xor x4 (-1)))]) (st' := [(0, (z_xor x4 (-1))), (0, (M (M 33 3) 15)), (2, ((M 33 3) + 8))]) rfl ?_
    refine wp_iast (pc' := 22) rfl rfl (z_gl8 hg1) (b1 c1) ?_
    refine wp_run 2 (pc' := 24) (ls' := [(2, (M 33 3)), (0, (z_xor x4 (-1)))]) (st' := [(2, (M 33 3)), (2, (M 33 3))]) rfl ?_
    refine wp_gf (pc' := 27) (t := 0) (v := (M (M 33 3) 15)) rfl rfl (by decide) rfl (z_gl0 hg1) (z_upq (by have := z_gr hg1; have := z_gr hg1; omega) rfl) ?_
    refine wp_run 2 (pc' := 29) (ls' := [(2, (M 33 3)), (0, (z_xor x4 (-1)))]) (st' := [(0, (z_w ((M (M 33 3) 15) + 1))), (2, (M 33 3))]) rfl ?_
    refine wp_pf (pc' := 32) rfl rfl rfl (z_gl0 hg1) (fun z => absurd z (by decide)) (fun z => absurd z (by decide)) ?_
    refine wp_ret rfl rfl ?_
    show wp xs _ mX5_formula 107 [(2, 33), (0, x1), (0, x2), (0, x3), (0, x4)] [] z_LL (z_up (z_up M ((M 33 3) + 8) (M (M 33 3) 15) (z_xor x4 (-1))) (M 33 3) 15 (z_w ((M (M 33 3) 15) + 1))) _
    refine wp_run 2 (pc' := 109) (ls' := [(2, 33), (0, x1), (0, x2), (0, x3), (0, x4)]) (st' := [(0, 2), (0, x1)]) rfl ?_
    refine wp_if2 rfl rfl rfl (fun (c3 : x1 ≠ 2) => ?_) (fun (c3 : ¬ (x1 ≠ 2)) => ?_)
    · refine wp_run 2 (pc' := 44) (ls' := [(2, 33), (0, x1), (0, x2), (0, (z_w (x3 + 1))), (0, x4)]) (st' := []) rfl ?_
      exact l3 c1 c3
    · exact wp_ret rfl rfl (l4 c1 c3)
set_option maxRecDepth 20000 in
theorem gX5_unit_0 {xs : List Int} {d : Nat} {M : z_M} {P : Option z_V → z_L → z_M → Prop} {a1 : Int} (hF : z_fix M) 
    (l1 : ((M 30 3) ≠ 40) → wp xs d mX5_isUnit 0 [(0, (M 30 3))] [] z_LL M (fun r L1 M1 => wp xs (d + 1) mX5_unit 41 [(2, 33), (0, a1), (0, (M 30 3)), (0, 0), (0, 0)] (z_ol r ++ []) L1 M1 P))
    (l2 : (¬ ((M 30 3) ≠ 40)) → (a1 < 7) → wp xs d mX5_isUnit 0 [(0, (M 30 3))] [] z_LL M (fun r L1 M1 => wp xs (d + 1) mX5_unit 41 [(2, 33), (0, a1), (0, (M 30 3)), (0, 1), (0, 0)] (z_ol r ++ []) L1 M1 P))
    (l3 : (¬ ((M 30 3) ≠ 40)) → (¬ (a1 < 7)) → wp xs d mX5_isUnit 0 [(0, (M 30 3))] [] z_LL M (fun r L1 M1 => wp xs (d + 1) mX5_unit 41 [(2, 33), (0, a1), (0, (M 30 3)), (0, 1), (0, 1)] (z_ol r ++ []) L1 M1 P)) :
    wp xs (d + 1) mX5_unit 0 [(2, 33), (0, a1), (3, 0), (3, 0), (3, 0)] [] z_LL M P := by
  refine wp_run 1 (pc' := 1) (ls' := [(2, 33), (0, a1), (3, 0), (3, 0), (3, 0)]) (st' := [(2, 33)]) rfl ?_
  refine wp_gf (pc' := 4) (t := 2) (v := 30) rfl rfl (by decide) rfl rfl (fx_33_0 hF) ?_
  refine wp_gf (pc' := 7) (t := 0) (v := (M 30 3)) rfl rfl (by decide) rfl rfl rfl ?_
  refine wp_run 3 (pc' := 11) (ls' := [(2, 33), (0, a1), (0, (M 30 3)), (3, 0), (3, 0)]) (st' := [(0, 40), (0, (M 30 3))]) rfl ?_
  refine wp_if2 rfl rfl rfl (fun (c1 : (M 30 3) ≠ 40) => ?_) (fun (c1 : ¬ ((M 30 3) ≠ 40)) => ?_)
  · refine wp_run 7 (pc' := 38) (ls' := [(2, 33), (0, a1), (0, (M 30 3)), (0, 0), (0, 0)]) (st' := [(0, (M 30 3))]) rfl ?_
    refine wp_callv (pc' := 41) (as := [(0, (M 30 3))]) (rest := []) (ls1 := [(0, (M 30 3))]) rfl rfl rfl rfl rfl rfl ?_
    exact l1 c1
  · refine wp_run 7 (pc' := 27) (ls' := [(2, 33), (0, a1), (0, (M 30 3)), (0, 1), (3, 0)]) (st' := [(0, 7), (0, a1)]) rfl ?_
    refine wp_if2 rfl rfl rfl (fun (c2 : a1 < 7) => ?_) (fun (c2 : ¬ (a1 < 7)) => ?_)
    · refine wp_run 3 (pc' := 38) (ls' := [(2, 33), (0, a1), (0, (M 30 3)), (0, 1), (0, 0)]) (st' := [(0, (M 30 3))]) rfl ?_
      refine wp_callv (pc' := 41) (as := [(0, (M 30 3))]) (rest := []) (ls1 := [(0, (M 30 3))]) rfl rfl rfl rfl rfl rfl ?_
      exact l2 c1 c2
    · refine wp_run 4 (pc' := 38) (ls' := [(2, 33), (0, a1), (0, (M 30 3)), (0, 1), (0, 1)]) (st' := [(0, (M 30 3))]) rfl ?_
      refine wp_callv (pc' := 41) (as := [(0, (M 30 3))]) (rest := []) (ls1 := [(0, (M 30 3))]) rfl rfl rfl rfl rfl rfl ?_
      exact l3 c1 c2
set_option maxRecDepth 20000 in
theorem gX5_unit_41 {xs : List Int} {d : Nat} {M : z_M} {P : Option z_V → z_L → z_M → Prop} {x1 : Int} {x2 : Int} {x3 : Int} {x4 : Int} {s0 : Int} (hg1 : z_gor M (M 33 3))
    (l1 : (s0 = 0) → wp xs d mX5_unit 61 [(2, 33), (0, x1), (0, x2), (0, x3), (0, x4)] [] z_LL M P)
    (l2 : (¬ (s0 = 0)) → (x4 ≠ 0) → wp xs d mX5_unit 61 [(2, 33), (0, x1), (0, x2), (0, x3), (0, x4)] [] z_LL M P)
    (l3 : (¬ (s0 = 0)) → (¬ (x4 ≠ 0)) → ((M (M 33 3) 14) < 30) → wp xs d mX5_unit 66 [(2, 33), (0, x1), (0, x2), (0, x3), (0, x4)] [] z_LL M P)
    (l4 : (¬ (s0 = 0)) → (¬ (x4 ≠ 0)) → (¬ ((M (M 33 3) 14) < 30)) → wp xs d mX5_unit 61 [(2, 33), (0, x1), (0, x2), (0, x3), (0, x4)] [] z_LL M P) :
    wp xs d mX5_unit 41 [(2, 33), (0, x1), (0, x2), (0, x3), (0, x4)] [(0, s0)] z_LL M P := by
  refine wp_if1 rfl rfl rfl (fun (c1 : s0 = 0) => ?_) (fun (c1 : ¬ (s0 = 0)) => ?_)
  · exact l1 c1
  · refine wp_run 1 (pc' := 46) (ls' := [(2, 33), (0, x1), (0, x2), (0, x3), (0, x4)]) (st' := [(0, x4)]) rfl ?_
    refine wp_if1 rfl rfl rfl (fun (c2 : x4 ≠ 0) => ?_) (fun (c2 : ¬ (x4 ≠ 0)) => ?_)
    · exact l2 c1 c2
    · refine wp_run 1 (pc' := 50) (ls' := [(2, 33), (0, x1), (0, x2), (0, x3), (0, x4)]) (st' := [(2, 33)]) rfl ?_
      refine wp_gf (pc' := 53) (t := 2) (v := (M 33 3)) rfl rfl (by decide) rfl rfl rfl ?_
      refine wp_gf (pc' := 56) (t := 0) (v := (M (M 33 3) 14)) rfl rfl (by decide) rfl (z_gl0 hg1) rfl ?_
      refine wp_run 1 (pc' := 58) (ls' := [(2, 33), (0, x1), (0, x2), (0, x3), (0, x4)]) (st' := [(0, 30), (0, (M (M 33 3) 14))]) rfl ?_
      refine wp_if2 rfl rfl rfl (fun (c3 : (M (M 33 3) 14) < 30) => ?_) (fun (c3 : ¬ ((M (M 33 3) 14) < 30)) => ?_)
      · exact l3 c1 c2 c3
      · exact l4 c1 c2 c3
set_option maxRecDepth 20000 in
theorem gX5_unit_61 {xs : List Int} {d : Nat} {M : z_M} {P : Option z_V → z_L → z_M → Prop} {x1 : Int} {x2 : Int} {x3 : Int} {x4 : Int} (hF : z_fix M) 
    (l1 : ((M 33 1) ≠ 0) → wp xs (d + 2) mX5_unit 66 [(2, 33), (0, x1), (0, x2), (0, x3), (0, x4)] [] z_LL M P)
    (l2 : (¬ ((M 33 1) ≠ 0)) → ((M 30 3) ≠ 27) → wp xs (d + 2) mX5_unit 66 [(2, 33), (0, x1), (0, x2), (0, x3), (0, x4)] [] z_LL (z_up (z_up M 33 1 2) 33 2 (M 30 4)) P)
    (l3 : (¬ ((M 33 1) ≠ 0)) → (¬ ((M 30 3) ≠ 27)) → wp xs (d + 2) mX5_unit 66 [(2, 33), (0, x1), (0, x2), (0, x3), (0, x4)] [] z_LL (z_up (z_up M 33 1 1) 33 2 (M 30 4)) P) :
    wp xs (d + 2) mX5_unit 61 [(2, 33), (0, x1), (0, x2), (0, x3), (0, x4)] [] z_LL M P := by
  refine wp_run 2 (pc' := 63) (ls' := [(2, 33), (0, x1), (0, x2), (0, x3), (0, x4)]) (st' := [(0, 2), (2, 33)]) rfl ?_
  refine wp_callv (pc' := 66) (as := [(2, 33), (0, 2)]) (rest := []) (ls1 := [(2, 33), (0, 2)]) rfl rfl rfl rfl rfl rfl ?_
  refine wp_run 1 (pc' := 1) (ls' := [(2, 33), (0, 2)]) (st' := [(2, 33)]) rfl ?_
  refine wp_callv (pc' := 4) (as := [(2, 33)]) (rest := []) (ls1 := [(2, 33)]) rfl rfl rfl rfl rfl rfl ?_
  refine wp_run 1 (pc' := 1) (ls' := [(2, 33)]) (st' := [(2, 33)]) rfl ?_
  refine wp_gf (pc' := 4) (t := 0) (v := (M 33 1)) rfl rfl (by decide) rfl rfl rfl ?_
  refine wp_if1 rfl rfl rfl (fun (c1 : (M 33 1) ≠ 0) => ?_) (fun (c1 : ¬ ((M 33 1) ≠ 0)) => ?_)
  · refine wp_run 1 (pc' := 12) (ls' := [(2, 33)]) (st' := [(0, 0)]) rfl ?_
    refine wp_ret rfl rfl ?_
    show wp xs _ mX5_fail 4 [(2, 33), (0, 2)] [(0, 0)] z_LL M _
    refine wp_run 1 (pc' := 39) (ls' := [(2, 33), (0, 2)]) (st' := []) rfl ?_
    refine wp_ret rfl rfl ?_
    show wp xs _ mX5_unit 66 [(2, 33), (0, x1), (0, x2), (0, x3), (0, x4)] [] z_LL M _
    exact l1 c1
  · refine wp_run 2 (pc' := 12) (ls' := [(2, 33)]) (st' := [(0, 1)]) rfl ?_
    refine wp_ret rfl rfl ?_
    show wp xs _ mX5_fail 4 [(2, 33), (0, 2)] [(0, 1)] z_LL M _
    refine wp_run 3 (pc' := 9) (ls' := [(2, 33), (0, 2)]) (st' := [(2, 33), (2, 33)]) rfl ?_
    refine wp_gf (pc' := 12) (t := 2) (v := 30) rfl rfl (by decide) rfl rfl (fx_33_0 hF) ?_
    refine wp_gf (pc' := 15) (t := 0) (v := (M 30 3)) rfl rfl (by decide) rfl rfl rfl ?_
    refine wp_run 1 (pc' := 17) (ls' := [(2, 33), (0, 2)]) (st' := [(0, 27), (0, (M 30 3)), (2, 33)]) rfl ?_
    refine wp_if2 rfl rfl rfl (fun (c2 : (M 30 3) ≠ 27) => ?_) (fun (c2 : ¬ ((M 30 3) ≠ 27)) => ?_)
    · refine wp_run 1 (pc' := 25) (ls' := [(2, 33), (0, 2)]) (st' := [(0, 2), (2, 33)]) rfl ?_
      refine wp_pf (pc' := 28) rfl rfl rfl rfl (fun z => absurd z (by decide)) (fun z => absurd z (by decide)) ?_
      refine wp_run 2 (pc' := 30) (ls' := [(2, 33), (0, 2)]) (st' := [(2, 33), (2, 33)]) rfl ?_
      refine wp_gf (pc' := 33) (t := 2) (v := 30) rfl rfl (by decide) rfl rfl (z_upi (by decide) (fx_33_0 hF)) ?_
      refine wp_gf (pc' := 36) (t := 0) (v := (M 30 4)) rfl rfl (by decide) rfl rfl (z_upq (by decide) rfl) ?_
      refine wp_pf (pc' := 39) rfl rfl rfl rfl (fun z => absurd z (by decide)) (fun z => absurd z (by decide)) ?_
      refine wp_ret rfl rfl ?_
      show wp xs _ mX5_unit 66 [(2, 33), (0, x1), (0, x2), (0, x3), (0, x4)] [] z_LL (z_up (z_up M 33 1 2) 33 2 (M 30 4)) _
      exact l2 c1 c2
    · refine wp_run 2 (pc' := 25) (ls' := [(2, 33), (0, 2)]) (st' := [(0, 1), (2, 33)]) rfl ?_
      refine wp_pf (pc' := 28) rfl rfl rfl rfl (fun z => absurd z (by decide)) (fun z => absurd z (by decide)) ?_
      refine wp_run 2 (pc' := 30) (ls' := [(2, 33), (0, 2)]) (st' := [(2, 33), (2, 33)]) rfl ?_
      refine wp_gf (pc' := 33) (t := 2) (v := 30) rfl rfl (by decide) rfl rfl (z_upi (by decide) (fx_33_0 hF)) ?_
      refine wp_gf (pc' := 36) (t := 0) (v := (M 30 4)) rfl rfl (by decide) rfl rfl (z_upq (by decide) rfl) ?_
      refine wp_pf (pc' := 39) rfl rfl rfl rfl (fun z => absurd z (by decide)) (fun z => absurd z (by decide)) ?_
      refine wp_ret rfl rfl ?_
      show wp xs _ mX5_unit 66 [(2, 33), (0, x1), (0, x2), (0, x3), (0, x4)] [] z_LL (z_up (z_up M 33 1 1) 33 2 (M 30 4)) _
      exact l3 c1 c2
set_option maxRecDepth 20000 in
theorem gX5_unit_66 {xs : List Int} {d : Nat} {M : z_M} {P : Option z_V → z_L → z_M → Prop} {x1 : Int} {x2 : Int} {x3 : Int} {x4 : Int} (hF : z_fix M) (hg1 : z_gor M (M 33 3))
    (l1 : ((M 33 1) ≠ 0) → P none z_LL M)
    (l2 : (¬ ((M 33 1) ≠ 0)) → (x3 ≠ 0) → wp xs d mX7_step 0 [(2, 30)] [] z_LL (z_up M (M 33 3) 14 (z_w ((M (M 33 3) 14) + 1))) (fun r L1 M1 => wp xs (d + 1) mX5_unit 124 [(2, 33), (0, x1), (0, x2), (0, x3), (0, x4)] (z_ol r ++ []) L1 M1 P))
    (l3 : (¬ ((M 33 1) ≠ 0)) → (¬ (x3 ≠ 0)) → (x2 ≠ 25) → (270 ≤ (M (M 33 3) 15)) → wp xs d mX7_step 0 [(2, 30)] [] z_LL (z_up M (M 33 3) 14 (z_w ((M (M 33 3) 14) + 1))) (fun r L1 M1 => wp xs (d + 1) mX5_unit 124 [(2, 33), (0, x1), (0, x2), (0, x3), (0, x4)] (z_ol r ++ []) L1 M1 P))
    (b1 : (¬ ((M 33 1) ≠ 0)) → (¬ (x3 ≠ 0)) → (x2 ≠ 25) → (¬ (270 ≤ (M (M 33 3) 15))) → 0 ≤ (M (M 33 3) 15) ∧ (M (M 33 3) 15) < 270)
    (l4 : (¬ ((M 33 1) ≠ 0)) → (¬ (x3 ≠ 0)) → (x2 ≠ 25) → (¬ (270 ≤ (M (M 33 3) 15))) → wp xs d mX7_step 0 [(2, 30)] [] z_LL (z_up (z_up (z_up M (M 33 3) 14 (z_w ((M (M 33 3) 14) + 1))) ((M 33 3) + 8) (M (M 33 3) 15) (z_xor x2 (-1))) (M 33 3) 15 (z_w ((M (M 33 3) 15) + 1))) (fun r L1 M1 => wp xs (d + 1) mX5_unit 124 [(2, 33), (0, x1), (0, x2), (0, x3), (0, x4)] (z_ol r ++ []) L1 M1 P))
    (l5 : (¬ ((M 33 1) ≠ 0)) → (¬ (x3 ≠ 0)) → (¬ (x2 ≠ 25)) → (270 ≤ (M (M 33 3) 15)) → wp xs d mX7_step 0 [(2, 30)] [] z_LL (z_up M (M 33 3) 14 (z_w ((M (M 33 3) 14) + 1))) (fun r L1 M1 => wp xs (d + 1) mX5_unit 124 [(2, 33), (0, x1), (0, x2), (0, x3), (0, x4)] (z_ol r ++ []) L1 M1 P))
    (b2 : (¬ ((M 33 1) ≠ 0)) → (¬ (x3 ≠ 0)) → (¬ (x2 ≠ 25)) → (¬ (270 ≤ (M (M 33 3) 15))) → 0 ≤ (M (M 33 3) 15) ∧ (M (M 33 3) 15) < 270)
    (l6 : (¬ ((M 33 1) ≠ 0)) → (¬ (x3 ≠ 0)) → (¬ (x2 ≠ 25)) → (¬ (270 ≤ (M (M 33 3) 15))) → wp xs d mX7_step 0 [(2, 30)] [] z_LL (z_up (z_up (z_up M (M 33 3) 14 (z_w ((M (M 33 3) 14) + 1))) ((M 33 3) + 8) (M (M 33 3) 15) (M 30 5)) (M 33 3) 15 (z_w ((M (M 33 3) 15) + 1))) (fun r L1 M1 => wp xs (d + 1) mX5_unit 124 [(2, 33), (0, x1), (0, x2), (0, x3), (0, x4)] (z_ol r ++ []) L1 M1 P)) :
    wp xs (d + 1) mX5_unit 66 [(2, 33), (0, x1), (0, x2), (0, x3), (0, x4)] [] z_LL M P := by
  refine wp_run 1 (pc' := 67) (ls' := [(2, 33), (0, x1), (0, x2), (0, x3), (0, x4)]) (st' := [(2, 33)]) rfl ?_
  refine wp_callv (pc' := 70) (as := [(2, 33)]) (rest := []) (ls1 := [(2, 33)]) rfl rfl rfl rfl rfl rfl ?_
  refine wp_run 1 (pc' := 1) (ls' := [(2, 33)]) (st' := [(2, 33)]) rfl ?_
  refine wp_gf (pc' := 4) (t := 0) (v := (M 33 1)) rfl rfl (by decide) rfl rfl rfl ?_
  refine wp_if1 rfl rfl rfl (fun (c1 : (M 33 1) ≠ 0) => ?_) (fun (c1 : ¬ ((M 33 1) ≠ 0)) => ?_)
  · refine wp_run 1 (pc' := 12) (ls' := [(2, 33)]) (st' := [(0, 0)]) rfl ?_
    refine wp_ret rfl rfl ?_
    show wp xs _ mX5_unit 70 [(2, 33), (0, x1), (0, x2), (0, x3), (0, x4)] [(0, 0)] z_LL M _
    refine wp_run 1 (pc' := 73) (ls' := [(2, 33), (0, x1), (0, x2), (0, x3), (0, x4)]) (st' := []) rfl ?_
    exact wp_ret rfl rfl (l1 c1)
  · refine wp_run 2 (pc' := 12) (ls' := [(2, 33)]) (st' := [(0, 1)]) rfl ?_
    refine wp_ret rfl rfl ?_
    show wp xs _ mX5_unit 70 [(2, 33), (0, x1), (0, x2), (0, x3), (0, x4)] [(0, 1)] z_LL M _
    refine wp_run 2 (pc' := 75) (ls' := [(2, 33), (0, x1), (0, x2), (0, x3), (0, x4)]) (st' := [(2, 33)]) rfl ?_
    refine wp_gf (pc' := 78) (t := 2) (v := (M 33 3)) rfl rfl (by decide) rfl rfl rfl ?_
    refine wp_run 1 (pc' := 79) (ls' := [(2, 33), (0, x1), (0, x2), (0, x3), (0, x4)]) (st' := [(2, (M 33 3)), (2, (M 33 3))]) rfl ?_
    refine wp_gf (pc' := 82) (t := 0) (v := (M (M 33 3) 14)) rfl rfl (by decide) rfl (z_gl0 hg1) rfl ?_
    refine wp_run 2 (pc' := 84) (ls' := [(2, 33), (0, x1), (0, x2), (0, x3), (0, x4)]) (st' := [(0, (z_w ((M (M 33 3) 14) + 1))), (2, (M 33 3))]) rfl ?_
    refine wp_pf (pc' := 87) rfl rfl rfl (z_gl0 hg1) (fun z => absurd z (by decide)) (fun z => absurd z (by decide)) ?_
    refine wp_run 1 (pc' := 88) (ls' := [(2, 33), (0, x1), (0, x2), (0, x3), (0, x4)]) (st' := [(0, x3)]) rfl ?_
    refine wp_if1 rfl rfl rfl (fun (c2 : x3 ≠ 0) => ?_) (fun (c2 : ¬ (x3 ≠ 0)) => ?_)
    · refine wp_run 1 (pc' := 118) (ls' := [(2, 33), (0, x1), (0, x2), (0, x3), (0, x4)]) (st' := [(2, 33)]) rfl ?_
      refine wp_gf (pc' := 121) (t := 2) (v := 30) rfl rfl (by decide) rfl rfl (z_upq (by have := z_gr hg1; omega) (fx_33_0 hF)) ?_
      refine wp_callv (pc' := 124) (as := [(2, 30)]) (rest := []) (ls1 := [(2, 30)]) rfl rfl rfl rfl rfl rfl ?_
      exact l2 c1 c2
    · refine wp_run 1 (pc' := 92) (ls' := [(2, 33), (0, x1), (0, x2), (0, x3), (0, x4)]) (st' := [(2, 33)]) rfl ?_
      refine wp_gf (pc' := 95) (t := 2) (v := (M 33 3)) rfl rfl (by decide) rfl rfl (z_upq (by have := z_gr hg1; omega) rfl) ?_
      refine wp_run 2 (pc' := 98) (ls' := [(2, 33), (0, x1), (0, x2), (0, x3), (0, x4)]) (st' := [(0, 25), (0, x2), (2, (M 33 3))]) rfl ?_
      refine wp_if2 rfl rfl rfl (fun (c3 : x2 ≠ 25) => ?_) (fun (c3 : ¬ (x2 ≠ 25)) => ?_)
      · refine wp_run 3 (pc' := 114) (ls' := [(2, 33), (0, x1), (0, x2), (0, x3), (0, x4)]) (st' := [(0, (z_xor x2 (-1))), (2, (M 33 3))]) rfl ?_
        refine wp_callv (pc' := 117) (as := [(2, (M 33 3)), (0, (z_xor x2 (-1)))]) (rest := []) (ls1 := [(2, (M 33 3)), (0, (z_xor x2 (-1)))]) rfl rfl rfl rfl (z_args_v rfl rfl rfl rfl (Nat.le_of_ble_eq_true rfl) rfl (by decide) (z_gl0 hg1)) rfl ?_
        refine wp_run 1 (pc' := 1) (ls' := [(2, (M 33 3)), (0, (z_xor x2 (-1)))]) (st' := [(2, (M 33 3))]) rfl ?_
        refine wp_gf (pc' := 4) (t := 0) (v := (M (M 33 3) 15)) rfl rfl (by decide) rfl (z_gl0 hg1) (z_upi (by decide) rfl) ?_
        refine wp_run 1 (pc' := 5) (ls' := [(2, (M 33 3)), (0, (z_xor x2 (-1)))]) (st' := [(2, (M 33 3)), (0, (M (M 33 3) 15))]) rfl ?_
        refine wp_gf (pc' := 8) (t := 2) (v := ((M 33 3) + 8)) rfl rfl (by decide) rfl (z_gl0 hg1) (z_upi (by decide) (z_gf7 hg1)) ?_
        refine wp_len (pc' := 9) rfl rfl (z_gl8 hg1) (by decide) ?_
        refine wp_if2 rfl rfl rfl (fun (c4 : 270 ≤ (M (M 33 3) 15)) => ?_) (fun (c4 : ¬ (270 ≤ (M (M 33 3) 15))) => ?_)
        · refine wp_ret rfl rfl ?_
          show wp xs _ mX5_unit 117 [(2, 33), (0, x1), (0, x2), (0, x3), (0, x4)] [] z_LL (z_up M (M 33 3) 14 (z_w ((M (M 33 3) 14) + 1))) _
          refine wp_run 1 (pc' := 118) (ls' := [(2, 33), (0, x1), (0, x2), (0, x3), (0, x4)]) (st' := [(2, 33)]) rfl ?_
          refine wp_gf (pc' := 121) (t := 2) (v := 30) rfl rfl (by decide) rfl rfl (z_upq (by have := z_gr hg1; omega) (fx_33_0 hF)) ?_
          refine wp_callv (pc' := 124) (as := [(2, 30)]) (rest := []) (ls1 := [(2, 30)]) rfl rfl rfl rfl rfl rfl ?_
          exact l3 c1 c2 c3 c4
        · refine wp_run 1 (pc' := 13) (ls' := [(2, (M 33 3)), (0, (z_xor x2 (-1)))]) (st' := [(2, (M 33 3))]) rfl ?_
          refine wp_gf (pc' := 16) (t := 2) (v := ((M 33 3) + 8)) rfl rfl (by decide) rfl (z_gl0 hg1) (z_upi (by decide) (z_gf7 hg1)) ?_
          refine wp_run 1 (pc' := 17) (ls' := [(2, (M 33 3)), (0, (z_xor x2 (-1)))]) (st' := [(2, (M 33 3)), (2, ((M 33 3) + 8))]) rfl ?_
          refine wp_gf (pc' := 20) (t := 0) (v := (M (M 33 3) 15)) rfl rfl (by decide) rfl (z_gl0 hg1) (z_upi (by decide) rfl) ?_
          refine wp_run 1 (pc' := 21) (ls' := [(2, (M 33 3)), (0, (z_xor x2 (-1)))]) (st' := [(0, (z_xor x2 (-1))), (0, (M (M 33 3) 15)), (2, ((M 33 3) + 8))]) rfl ?_
          refine wp_iast (pc' := 22) rfl rfl (z_gl8 hg1) (b1 c1 c2 c3 c4) ?_
          refine wp_run 2 (pc' := 24) (ls' := [(2, (M 33 3)), (0, (z_xor x2 (-1)))]) (st' := [(2, (M 33 3)), (2, (M 33 3))]) rfl ?_
          refine wp_gf (pc' := 27) (t := 0) (v := (M (M 33 3) 15)) rfl rfl (by decide) rfl (z_gl0 hg1) (z_upq (by have := z_gr hg1; have := z_gr hg1; omega) (z_upi (by decide) rfl)) ?_
          refine wp_run 2 (pc' := 29) (ls' := [(2, (M 33 3)), (0, (z_xor x2 (-1)))]) (st' := [(0, (z_w ((M (M 33 3) 15) + 1))), (2, (M 33 3))]) rfl ?_
          refine wp_pf (pc' := 32) rfl rfl rfl (z_gl0 hg1) (fun z => absurd z (by decide)) (fun z => absurd z (by decide)) ?_
          refine wp_ret rfl rfl ?_
          show wp xs _ mX5_unit 117 [(2, 33), (0, x1), (0, x2), (0, x3), (0, x4)] [] z_LL (z_up (z_up (z_up M (M 33 3) 14 (z_w ((M (M 33 3) 14) + 1))) ((M 33 3) + 8) (M (M 33 3) 15) (z_xor x2 (-1))) (M 33 3) 15 (z_w ((M (M 33 3) 15) + 1))) _
          refine wp_run 1 (pc' := 118) (ls' := [(2, 33), (0, x1), (0, x2), (0, x3), (0, x4)]) (st' := [(2, 33)]) rfl ?_
          refine wp_gf (pc' := 121) (t := 2) (v := 30) rfl rfl (by decide) rfl rfl (z_upq (by have := z_gr hg1; omega) (z_upq (by have := z_gr hg1; omega) (z_upq (by have := z_gr hg1; omega) (fx_33_0 hF)))) ?_
          refine wp_callv (pc' := 124) (as := [(2, 30)]) (rest := []) (ls1 := [(2, 30)]) rfl rfl rfl rfl rfl rfl ?_
          exact l4 c1 c2 c3 c4
      · refine wp_run 1 (pc' := 102) (ls' := [(2, 33), (0, x1), (0, x2), (0, x3), (0, x4)]) (st' := [(2, 33), (2, (M 33 3))]) rfl ?_
        refine wp_gf (pc' := 105) (t := 2) (v := 30) rfl rfl (by decide) rfl rfl (z_upq (by have := z_gr hg1; omega) (fx_33_0 hF)) ?_
        refine wp_gf (pc' := 108) (t := 0) (v := (M 30 5)) rfl rfl (by decide) rfl rfl (z_upq (by have := z_gr hg1; omega) rfl) ?_
        refine wp_run 1 (pc' := 114) (ls' := [(2, 33), (0, x1), (0, x2), (0, x3), (0, x4)]) (st' := [(0, (M 30 5)), (2, (M 33 3))]) rfl ?_
        refine wp_callv (pc' := 117) (as := [(2, (M 33 3)), (0, (M 30 5))]) (rest := []) (ls1 := [(2, (M 33 3)), (0, (M 30 5))]) rfl rfl rfl rfl (z_args_v rfl rfl rfl rfl (Nat.le_of_ble_eq_true rfl) rfl (by decide) (z_gl0 hg1)) rfl ?_
        refine wp_run 1 (pc' := 1) (ls' := [(2, (M 33 3)), (0, (M 30 5))]) (st' := [(2, (M 33 3))]) rfl ?_
        refine wp_gf (pc' := 4) (t := 0) (v := (M (M 33 3) 15)) rfl rfl (by decide) rfl (z_gl0 hg1) (z_upi (by decide) rfl) ?_
        refine wp_run 1 (pc' := 5) (ls' := [(2, (M 33 3)), (0, (M 30 5))]) (st' := [(2, (M 33 3)), (0, (M (M 33 3) 15))]) rfl ?_
        refine wp_gf (pc' := 8) (t := 2) (v := ((M 33 3) + 8)) rfl rfl (by decide) rfl (z_gl0 hg1) (z_upi (by decide) (z_gf7 hg1)) ?_
        refine wp_len (pc' := 9) rfl rfl (z_gl8 hg1) (by decide) ?_
        refine wp_if2 rfl rfl rfl (fun (c5 : 270 ≤ (M (M 33 3) 15)) => ?_) (fun (c5 : ¬ (270 ≤ (M (M 33 3) 15))) => ?_)
        · refine wp_ret rfl rfl ?_
          show wp xs _ mX5_unit 117 [(2, 33), (0, x1), (0, x2), (0, x3), (0, x4)] [] z_LL (z_up M (M 33 3) 14 (z_w ((M (M 33 3) 14) + 1))) _
          refine wp_run 1 (pc' := 118) (ls' := [(2, 33), (0, x1), (0, x2), (0, x3), (0, x4)]) (st' := [(2, 33)]) rfl ?_
          refine wp_gf (pc' := 121) (t := 2) (v := 30) rfl rfl (by decide) rfl rfl (z_upq (by have := z_gr hg1; omega) (fx_33_0 hF)) ?_
          refine wp_callv (pc' := 124) (as := [(2, 30)]) (rest := []) (ls1 := [(2, 30)]) rfl rfl rfl rfl rfl rfl ?_
          exact l5 c1 c2 c3 c5
        · refine wp_run 1 (pc' := 13) (ls' := [(2, (M 33 3)), (0, (M 30 5))]) (st' := [(2, (M 33 3))]) rfl ?_
          refine wp_gf (pc' := 16) (t := 2) (v := ((M 33 3) + 8)) rfl rfl (by decide) rfl (z_gl0 hg1) (z_upi (by decide) (z_gf7 hg1)) ?_
          refine wp_run 1 (pc' := 17) (ls' := [(2, (M 33 3)), (0, (M 30 5))]) (st' := [(2, (M 33 3)), (2, ((M 33 3) + 8))]) rfl ?_
          refine wp_gf (pc' := 20) (t := 0) (v := (M (M 33 3) 15)) rfl rfl (by decide) rfl (z_gl0 hg1) (z_upi (by decide) rfl) ?_
          refine wp_run 1 (pc' := 21) (ls' := [(2, (M 33 3)), (0, (M 30 5))]) (st' := [(0, (M 30 5)), (0, (M (M 33 3) 15)), (2, ((M 33 3) + 8))]) rfl ?_
          refine wp_iast (pc' := 22) rfl rfl (z_gl8 hg1) (b2 c1 c2 c3 c5) ?_
          refine wp_run 2 (pc' := 24) (ls' := [(2, (M 33 3)), (0, (M 30 5))]) (st' := [(2, (M 33 3)), (2, (M 33 3))]) rfl ?_
          refine wp_gf (pc' := 27) (t := 0) (v := (M (M 33 3) 15)) rfl rfl (by decide) rfl (z_gl0 hg1) (z_upq (by have := z_gr hg1; have := z_gr hg1; omega) (z_upi (by decide) rfl)) ?_
          refine wp_run 2 (pc' := 29) (ls' := [(2, (M 33 3)), (0, (M 30 5))]) (st' := [(0, (z_w ((M (M 33 3) 15) + 1))), (2, (M 33 3))]) rfl ?_
          refine wp_pf (pc' := 32) rfl rfl rfl (z_gl0 hg1) (fun z => absurd z (by decide)) (fun z => absurd z (by decide)) ?_
          refine wp_ret rfl rfl ?_
          show wp xs _ mX5_unit 117 [(2, 33), (0, x1), (0, x2), (0, x3), (0, x4)] [] z_LL (z_up (z_up (z_up M (M 33 3) 14 (z_w ((M (M 33 3) 14) + 1))) ((M 33 3) + 8) (M (M 33 3) 15) (M 30 5)) (M 33 3) 15 (z_w ((M (M 33 3) 15) + 1))) _
          refine wp_run 1 (pc' := 118) (ls' := [(2, 33), (0, x1), (0, x2), (0, x3), (0, x4)]) (st' := [(2, 33)]) rfl ?_
          refine wp_gf (pc' := 121) (t := 2) (v := 30) rfl rfl (by decide) rfl rfl (z_upq (by have := z_gr hg1; omega) (z_upq (by have := z_gr hg1; omega) (z_upq (by have := z_gr hg1; omega) (fx_33_0 hF)))) ?_
          refine wp_callv (pc' := 124) (as := [(2, 30)]) (rest := []) (ls1 := [(2, 30)]) rfl rfl rfl rfl rfl rfl ?_
          exact l6 c1 c2 c3 c5
set_option maxRecDepth 20000 in
theorem gX5_unit_124 {xs : List Int} {d : Nat} {M : z_M} {P : Option z_V → z_L → z_M → Prop} {x1 : Int} {x2 : Int} {x3 : Int} {x4 : Int} 
    (l1 : (x3 = 0) → P none z_LL M)
    (l2 : (¬ (x3 = 0)) → wp xs d mX5_formula 0 [(2, 33), (0, 0), (0, (z_w (x1 + 1))), (3, 0), (3, 0)] [] z_LL M (fun r L1 M1 => wp xs (d + 1) mX5_unit 136 [(2, 33), (0, x1), (0, x2), (0, x3), (0, x4)] (z_ol r ++ []) L1 M1 P)) :
    wp xs (d + 1) mX5_unit 124 [(2, 33), (0, x1), (0, x2), (0, x3), (0, x4)] [] z_LL M P := by
  refine wp_run 1 (pc' := 125) (ls' := [(2, 33), (0, x1), (0, x2), (0, x3), (0, x4)]) (st' := [(0, x3)]) rfl ?_
  refine wp_if1 rfl rfl rfl (fun (c1 : x3 = 0) => ?_) (fun (c1 : ¬ (x3 = 0)) => ?_)
  · exact wp_ret rfl rfl (l1 c1)
  · refine wp_run 5 (pc' := 133) (ls' := [(2, 33), (0, x1), (0, x2), (0, x3), (0, x4)]) (st' := [(0, (z_w (x1 + 1))), (0, 0), (2, 33)]) rfl ?_
    refine wp_callv (pc' := 136) (as := [(2, 33), (0, 0), (0, (z_w (x1 + 1)))]) (rest := []) (ls1 := [(2, 33), (0, 0), (0, (z_w (x1 + 1))), (3, 0), (3, 0)]) rfl rfl rfl rfl rfl rfl ?_
    exact l2 c1
set_option maxRecDepth 20000 in
theorem gX5_unit_136 {xs : List Int} {d : Nat} {M : z_M} {P : Option z_V → z_L → z_M → Prop} {x1 : Int} {x2 : Int} {x3 : Int} {x4 : Int} (hF : z_fix M) 
    (l1 : ((M 30 3) ≠ 41) → ((M 33 1) ≠ 0) → P none z_LL M)
    (l2 : ((M 30 3) ≠ 41) → (¬ ((M 33 1) ≠ 0)) → ((M 30 3) ≠ 27) → P none z_LL (z_up (z_up M 33 1 2) 33 2 (M 30 4)))
    (l3 : ((M 30 3) ≠ 41) → (¬ ((M 33 1) ≠ 0)) → (¬ ((M 30 3) ≠ 27)) → P none z_LL (z_up (z_up M 33 1 1) 33 2 (M 30 4)))
    (l4 : (¬ ((M 30 3) ≠ 41)) → wp xs (d + 1) mX7_step 0 [(2, 30)] [] z_LL M (fun r L1 M1 => wp xs (d + 2) mX5_unit 155 [(2, 33), (0, x1), (0, x2), (0, x3), (0, x4)] (z_ol r ++ []) L1 M1 P)) :
    wp xs (d + 2) mX5_unit 136 [(2, 33), (0, x1), (0, x2), (0, x3), (0, x4)] [] z_LL M P := by
  refine wp_run 1 (pc' := 137) (ls' := [(2, 33), (0, x1), (0, x2), (0, x3), (0, x4)]) (st' := [(2, 33)]) rfl ?_
  refine wp_gf (pc' := 140) (t := 2) (v := 30) rfl rfl (by decide) rfl rfl (fx_33_0 hF) ?_
  refine wp_gf (pc' := 143) (t := 0) (v := (M 30 3)) rfl rfl (by decide) rfl rfl rfl ?_
  refine wp_run 1 (pc' := 145) (ls' := [(2, 33), (0, x1), (0, x2), (0, x3), (0, x4)]) (st' := [(0, 41), (0, (M 30 3))]) rfl ?_
  refine wp_if2 rfl rfl rfl (fun (c1 : (M 30 3) ≠ 41) => ?_) (fun (c1 : ¬ ((M 30 3) ≠ 41)) => ?_)
  · refine wp_run 2 (pc' := 160) (ls' := [(2, 33), (0, x1), (0, x2), (0, x3), (0, x4)]) (st' := [(0, 2), (2, 33)]) rfl ?_
    refine wp_callv (pc' := 163) (as := [(2, 33), (0, 2)]) (rest := []) (ls1 := [(2, 33), (0, 2)]) rfl rfl rfl rfl rfl rfl ?_
    refine wp_run 1 (pc' := 1) (ls' := [(2, 33), (0, 2)]) (st' := [(2, 33)]) rfl ?_
    refine wp_callv (pc' := 4) (as := [(2, 33)]) (rest := []) (ls1 := [(2, 33)]) rfl rfl rfl rfl rfl rfl ?_
    refine wp_run 1 (pc' := 1) (ls' := [(2, 33)]) (st' := [(2, 33)]) rfl ?_
    refine wp_gf (pc' := 4) (t := 0) (v := (M 33 1)) rfl rfl (by decide) rfl rfl rfl ?_
    refine wp_if1 rfl rfl rfl (fun (c2 : (M 33 1) ≠ 0) => ?_) (fun (c2 : ¬ ((M 33 1) ≠ 0)) => ?_)
    · refine wp_run 1 (pc' := 12) (ls' := [(2, 33)]) (st' := [(0, 0)]) rfl ?_
      refine wp_ret rfl rfl ?_
      show wp xs _ mX5_fail 4 [(2, 33), (0, 2)] [(0, 0)] z_LL M _
      refine wp_run 1 (pc' := 39) (ls' := [(2, 33), (0, 2)]) (st' := []) rfl ?_
      refine wp_ret rfl rfl ?_
      show wp xs _ mX5_unit 163 [(2, 33), (0, x1), (0, x2), (0, x3), (0, x4)] [] z_LL M _
      exact wp_ret rfl rfl (l1 c1 c2)
    · refine wp_run 2 (pc' := 12) (ls' := [(2, 33)]) (st' := [(0, 1)]) rfl ?_
      refine wp_ret rfl rfl ?_
      show wp xs _ mX5_fail 4 [(2, 33), (0, 2)] [(0, 1)] z_LL M _
      refine wp_run 3 (pc' := 9) (ls' := [(2, 33), (0, 2)]) (st' := [(2, 33), (2, 33)]) rfl ?_
      refine wp_gf (pc' := 12) (t := 2) (v := 30) rfl rfl (by decide) rfl rfl (fx_33_0 hF) ?_
      refine wp_gf (pc' := 15) (t := 0) (v := (M 30 3)) rfl rfl (by decide) rfl rfl rfl ?_
      refine wp_run 1 (pc' := 17) (ls' := [(2, 33), (0, 2)]) (st' := [(0, 27), (0, (M 30 3)), (2, 33)]) rfl ?_
      refine wp_if2 rfl rfl rfl (fun (c3 : (M 30 3) ≠ 27) => ?_) (fun (c3 : ¬ ((M 30 3) ≠ 27)) => ?_)
      · refine wp_run 1 (pc' := 25) (ls' := [(2, 33), (0, 2)]) (st' := [(0, 2), (2, 33)]) rfl ?_
        refine wp_pf (pc' := 28) rfl rfl rfl rfl (fun z => absurd z (by decide)) (fun z => absurd z (by decide)) ?_
        refine wp_run 2 (pc' := 30) (ls' := [(2, 33), (0, 2)]) (st' := [(2, 33), (2, 33)]) rfl ?_
        refine wp_gf (pc' := 33) (t := 2) (v := 30) rfl rfl (by decide) rfl rfl (z_upi (by decide) (fx_33_0 hF)) ?_
        refine wp_gf (pc' := 36) (t := 0) (v := (M 30 4)) rfl rfl (by decide) rfl rfl (z_upq (by decide) rfl) ?_
        refine wp_pf (pc' := 39) rfl rfl rfl rfl (fun z => absurd z (by decide)) (fun z => absurd z (by decide)) ?_
        refine wp_ret rfl rfl ?_
        show wp xs _ mX5_unit 163 [(2, 33), (0, x1), (0, x2), (0, x3), (0, x4)] [] z_LL (z_up (z_up M 33 1 2) 33 2 (M 30 4)) _
        exact wp_ret rfl rfl (l2 c1 c2 c3)
      · refine wp_run 2 (pc' := 25) (ls' := [(2, 33), (0, 2)]) (st' := [(0, 1), (2, 33)]) rfl ?_
        refine wp_pf (pc' := 28) rfl rfl rfl rfl (fun z => absurd z (by decide)) (fun z => absurd z (by decide)) ?_
        refine wp_run 2 (pc' := 30) (ls' := [(2, 33), (0, 2)]) (st' := [(2, 33), (2, 33)]) rfl ?_
        refine wp_gf (pc' := 33) (t := 2) (v := 30) rfl rfl (by decide) rfl rfl (z_upi (by decide) (fx_33_0 hF)) ?_
        refine wp_gf (pc' := 36) (t := 0) (v := (M 30 4)) rfl rfl (by decide) rfl rfl (z_upq (by decide) rfl) ?_
        refine wp_pf (pc' := 39) rfl rfl rfl rfl (fun z => absurd z (by decide)) (fun z => absurd z (by decide)) ?_
        refine wp_ret rfl rfl ?_
        show wp xs _ mX5_unit 163 [(2, 33), (0, x1), (0, x2), (0, x3), (0, x4)] [] z_LL (z_up (z_up M 33 1 1) 33 2 (M 30 4)) _
        exact wp_ret rfl rfl (l3 c1 c2 c3)
  · refine wp_run 1 (pc' := 149) (ls' := [(2, 33), (0, x1), (0, x2), (0, x3), (0, x4)]) (st' := [(2, 33)]) rfl ?_
    refine wp_gf (pc' := 152) (t := 2) (v := 30) rfl rfl (by decide) rfl rfl (fx_33_0 hF) ?_
    refine wp_callv (pc' := 155) (as := [(2, 30)]) (rest := []) (ls1 := [(2, 30)]) rfl rfl rfl rfl rfl rfl ?_
    exact l4 c1
set_option maxRecDepth 20000 in
theorem gX5_unit_155 {xs : List Int} {d : Nat} {M : z_M} {P : Option z_V → z_L → z_M → Prop} {x1 : Int} {x2 : Int} {x3 : Int} {x4 : Int} 
    (l1 : P none z_LL M) :
    wp xs d mX5_unit 155 [(2, 33), (0, x1), (0, x2), (0, x3), (0, x4)] [] z_LL M P := by
  refine wp_run 1 (pc' := 163) (ls' := [(2, 33), (0, x1), (0, x2), (0, x3), (0, x4)]) (st' := []) rfl ?_
  exact wp_ret rfl rfl (l1)
set_option maxRecDepth 20000 in
theorem gX5_negation_0 {xs : List Int} {d : Nat} {M : z_M} {P : Option z_V → z_L → z_M → Prop} {a1 : Int} (hF : z_fix M) 
    (l1 : (a1 < 7) → wp xs (d + 1) mX7_step 0 [(2, 30)] [] z_LL M (fun r L1 M1 => wp xs (d + 2) mX5_negation 19 [(2, 33), (0, a1)] (z_ol r ++ []) L1 M1 P))
    (l2 : (¬ (a1 < 7)) → ((M 33 1) ≠ 0) → P none z_LL M)
    (l3 : (¬ (a1 < 7)) → (¬ ((M 33 1) ≠ 0)) → ((M 30 3) ≠ 27) → P none z_LL (z_up (z_up M 33 1 2) 33 2 (M 30 4)))
    (l4 : (¬ (a1 < 7)) → (¬ ((M 33 1) ≠ 0)) → (¬ ((M 30 3) ≠ 27)) → P none z_LL (z_up (z_up M 33 1 1) 33 2 (M 30 4))) :
    wp xs (d + 2) mX5_negation 0 [(2, 33), (0, a1)] [] z_LL M P := by
  refine wp_run 2 (pc' := 3) (ls' := [(2, 33), (0, a1)]) (st' := [(0, 7), (0, a1)]) rfl ?_
  refine wp_if2 rfl rfl rfl (fun (c1 : a1 < 7) => ?_) (fun (c1 : ¬ (a1 < 7)) => ?_)
  · refine wp_run 1 (pc' := 13) (ls' := [(2, 33), (0, a1)]) (st' := [(2, 33)]) rfl ?_
    refine wp_gf (pc' := 16) (t := 2) (v := 30) rfl rfl (by decide) rfl rfl (fx_33_0 hF) ?_
    refine wp_callv (pc' := 19) (as := [(2, 30)]) (rest := []) (ls1 := [(2, 30)]) rfl rfl rfl rfl rfl rfl ?_
    exact l1 c1
  · refine wp_run 2 (pc' := 8) (ls' := [(2, 33), (0, a1)]) (st' := [(0, 2), (2, 33)]) rfl ?_
    refine wp_callv (pc' := 11) (as := [(2, 33), (0, 2)]) (rest := []) (ls1 := [(2, 33), (0, 2)]) rfl rfl rfl rfl rfl rfl ?_
    refine wp_run 1 (pc' := 1) (ls' := [(2, 33), (0, 2)]) (st' := [(2, 33)]) rfl ?_
    refine wp_callv (pc' := 4) (as := [(2, 33)]) (rest := []) (ls1 := [(2, 33)]) rfl rfl rfl rfl rfl rfl ?_
    refine wp_run 1 (pc' := 1) (ls' := [(2, 33)]) (st' := [(2, 33)]) rfl ?_
    refine wp_gf (pc' := 4) (t := 0) (v := (M 33 1)) rfl rfl (by decide) rfl rfl rfl ?_
    refine wp_if1 rfl rfl rfl (fun (c2 : (M 33 1) ≠ 0) => ?_) (fun (c2 : ¬ ((M 33 1) ≠ 0)) => ?_)
    · refine wp_run 1 (pc' := 12) (ls' := [(2, 33)]) (st' := [(0, 0)]) rfl ?_
      refine wp_ret rfl rfl ?_
      show wp xs _ mX5_fail 4 [(2, 33), (0, 2)] [(0, 0)] z_LL M _
      refine wp_run 1 (pc' := 39) (ls' := [(2, 33), (0, 2)]) (st' := []) rfl ?_
      refine wp_ret rfl rfl ?_
      show wp xs _ mX5_negation 11 [(2, 33), (0, a1)] [] z_LL M _
      exact wp_ret rfl rfl (l2 c1 c2)
    · refine wp_run 2 (pc' := 12) (ls' := [(2, 33)]) (st' := [(0, 1)]) rfl ?_
      refine wp_ret rfl rfl ?_
      show wp xs _ mX5_fail 4 [(2, 33), (0, 2)] [(0, 1)] z_LL M _
      refine wp_run 3 (pc' := 9) (ls' := [(2, 33), (0, 2)]) (st' := [(2, 33), (2, 33)]) rfl ?_
      refine wp_gf (pc' := 12) (t := 2) (v := 30) rfl rfl (by decide) rfl rfl (fx_33_0 hF) ?_
      refine wp_gf (pc' := 15) (t := 0) (v := (M 30 3)) rfl rfl (by decide) rfl rfl rfl ?_
      refine wp_run 1 (pc' := 17) (ls' := [(2, 33), (0, 2)]) (st' := [(0, 27), (0, (M 30 3)), (2, 33)]) rfl ?_
      refine wp_if2 rfl rfl rfl (fun (c3 : (M 30 3) ≠ 27) => ?_) (fun (c3 : ¬ ((M 30 3) ≠ 27)) => ?_)
      · refine wp_run 1 (pc' := 25) (ls' := [(2, 33), (0, 2)]) (st' := [(0, 2), (2, 33)]) rfl ?_
        refine wp_pf (pc' := 28) rfl rfl rfl rfl (fun z => absurd z (by decide)) (fun z => absurd z (by decide)) ?_
        refine wp_run 2 (pc' := 30) (ls' := [(2, 33), (0, 2)]) (st' := [(2, 33), (2, 33)]) rfl ?_
        refine wp_gf (pc' := 33) (t := 2) (v := 30) rfl rfl (by decide) rfl rfl (z_upi (by decide) (fx_33_0 hF)) ?_
        refine wp_gf (pc' := 36) (t := 0) (v := (M 30 4)) rfl rfl (by decide) rfl rfl (z_upq (by decide) rfl) ?_
        refine wp_pf (pc' := 39) rfl rfl rfl rfl (fun z => absurd z (by decide)) (fun z => absurd z (by decide)) ?_
        refine wp_ret rfl rfl ?_
        show wp xs _ mX5_negation 11 [(2, 33), (0, a1)] [] z_LL (z_up (z_up M 33 1 2) 33 2 (M 30 4)) _
        exact wp_ret rfl rfl (l3 c1 c2 c3)
      · refine wp_run 2 (pc' := 25) (ls' := [(2, 33), (0, 2)]) (st' := [(0, 1), (2, 33)]) rfl ?_
        refine wp_pf (pc' := 28) rfl rfl rfl rfl (fun z => absurd z (by decide)) (fun z => absurd z (by decide)) ?_
        refine wp_run 2 (pc' := 30) (ls' := [(2, 33), (0, 2)]) (st' := [(2, 33), (2, 33)]) rfl ?_
        refine wp_gf (pc' := 33) (t := 2) (v := 30) rfl rfl (by decide) rfl rfl (z_upi (by decide) (fx_33_0 hF)) ?_
        refine wp_gf (pc' := 36) (t := 0) (v := (M 30 4)) rfl rfl (by decide) rfl rfl (z_upq (by decide) rfl) ?_
        refine wp_pf (pc' := 39) rfl rfl rfl rfl (fun z => absurd z (by decide)) (fun z => absurd z (by decide)) ?_
        refine wp_ret rfl rfl ?_
        show wp xs _ mX5_negation 11 [(2, 33), (0, a1)] [] z_LL (z_up (z_up M 33 1 1) 33 2 (M 30 4)) _
        exact wp_ret rfl rfl (l4 c1 c2 c3)
set_option maxRecDepth 20000 in
theorem gX5_negation_19 {xs : List Int} {d : Nat} {M : z_M} {P : Option z_V → z_L → z_M → Prop} {x1 : Int} 
    (l1 : wp xs d mX5_formula 0 [(2, 33), (0, 2), (0, (z_w (x1 + 1))), (3, 0), (3, 0)] [] z_LL M (fun r L1 M1 => wp xs (d + 1) mX5_negation 27 [(2, 33), (0, x1)] (z_ol r ++ []) L1 M1 P)) :
    wp xs (d + 1) mX5_negation 19 [(2, 33), (0, x1)] [] z_LL M P := by
  refine wp_run 5 (pc' := 24) (ls' := [(2, 33), (0, x1)]) (st' := [(0, (z_w (x1 + 1))), (0, 2), (2, 33)]) rfl ?_
  refine wp_callv (pc' := 27) (as := [(2, 33), (0, 2), (0, (z_w (x1 + 1)))]) (rest := []) (ls1 := [(2, 33), (0, 2), (0, (z_w (x1 + 1))), (3, 0), (3, 0)]) rfl rfl rfl rfl rfl rfl ?_
  exact l1
set_option maxRecDepth 20000 in
theorem gX5_negation_27 {xs : List Int} {d : Nat} {M : z_M} {P : Option z_V → z_L → z_M → Prop} {x1 : Int} (hg1 : z_gor M (M 33 3))
    (l1 : (270 ≤ (M (M 33 3) 15)) → P none z_LL M)
    (b1 : (¬ (270 ≤ (M (M 33 3) 15))) → 0 ≤ (M (M 33 3) 15) ∧ (M (M 33 3) 15) < 270)
    (l2 : (¬ (270 ≤ (M (M 33 3) 15))) → P none z_LL (z_up (z_up M ((M 33 3) + 8) (M (M 33 3) 15) (-19)) (M 33 3) 15 (z_w ((M (M 33 3) 15) + 1)))) :
    wp xs (d + 1) mX5_negation 27 [(2, 33), (0, x1)] [] z_LL M P := by
  refine wp_run 1 (pc' := 28) (ls' := [(2, 33), (0, x1)]) (st' := [(2, 33)]) rfl ?_
  refine wp_gf (pc' := 31) (t := 2) (v := (M 33 3)) rfl rfl (by decide) rfl rfl rfl ?_
  refine wp_run 1 (pc' := 33) (ls' := [(2, 33), (0, x1)]) (st' := [(0, (-19)), (2, (M 33 3))]) rfl ?_
  refine wp_callv (pc' := 36) (as := [(2, (M 33 3)), (0, (-19))]) (rest := []) (ls1 := [(2, (M 33 3)), (0, (-19))]) rfl rfl rfl rfl (z_args_v rfl rfl rfl rfl (Nat.le_of_ble_eq_true rfl) rfl (by decide) (z_gl0 hg1)) rfl ?_
  refine wp_run 1 (pc' := 1) (ls' := [(2, (M 33 3)), (0, (-19))]) (st' := [(2, (M 33 3))]) rfl ?_
  refine wp_gf (pc' := 4) (t := 0) (v := (M (M 33 3) 15)) rfl rfl (by decide) rfl (z_gl0 hg1) rfl ?_
  refine wp_run 1 (pc' := 5) (ls' := [(2, (M 33 3)), (0, (-19))]) (st' := [(2, (M 33 3)), (0, (M (M 33 3) 15))]) rfl ?_
  refine wp_gf (pc' := 8) (t := 2) (v := ((M 33 3) + 8)) rfl rfl (by decide) rfl (z_gl0 hg1) (z_gf7 hg1) ?_
  refine wp_len (pc' := 9) rfl rfl (z_gl8 hg1) (by decide) ?_
  refine wp_if2 rfl rfl rfl (fun (c1 : 270 ≤ (M (M 33 3) 15)) => ?_) (fun (c1 : ¬ (270 ≤ (M (M 33 3) 15))) => ?_)
  · refine wp_ret rfl rfl ?_
    show wp xs _ mX5_negation 36 [(2, 33), (0, x1)] [] z_LL M _
    exact wp_ret rfl rfl (l1 c1)
  · refine wp_run 1 (pc' := 13) (ls' := [(2, (M 33 3)), (0, (-19))]) (st' := [(2, (M 33 3))]) rfl ?_
    refine wp_gf (pc' := 16) (t := 2) (v := ((M 33 3) + 8)) rfl rfl (by decide) rfl (z_gl0 hg1) (z_gf7 hg1) ?_
    refine wp_run 1 (pc' := 17) (ls' := [(2, (M 33 3)), (0, (-19))]) (st' := [(2, (M 33 3)), (2, ((M 33 3) + 8))]) rfl ?_
    refine wp_gf (pc' := 20) (t := 0) (v := (M (M 33 3) 15)) rfl rfl (by decide) rfl (z_gl0 hg1) rfl ?_
    refine wp_run 1 (pc' := 21) (ls' := [(2, (M 33 3)), (0, (-19))]) (st' := [(0, (-19)), (0, (M (M 33 3) 15)), (2, ((M 33 3) + 8))]) rfl ?_
    refine wp_iast (pc' := 22) rfl rfl (z_gl8 hg1) (b1 c1) ?_
    refine wp_run 2 (pc' := 24) (ls' := [(2, (M 33 3)), (0, (-19))]) (st' := [(2, (M 33 3)), (2, (M 33 3))]) rfl ?_
    refine wp_gf (pc' := 27) (t := 0) (v := (M (M 33 3) 15)) rfl rfl (by decide) rfl (z_gl0 hg1) (z_upq (by have := z_gr hg1; have := z_gr hg1; omega) rfl) ?_
    refine wp_run 2 (pc' := 29) (ls' := [(2, (M 33 3)), (0, (-19))]) (st' := [(0, (z_w ((M (M 33 3) 15) + 1))), (2, (M 33 3))]) rfl ?_
    refine wp_pf (pc' := 32) rfl rfl rfl (z_gl0 hg1) (fun z => absurd z (by decide)) (fun z => absurd z (by decide)) ?_
    refine wp_ret rfl rfl ?_
    show wp xs _ mX5_negation 36 [(2, 33), (0, x1)] [] z_LL (z_up (z_up M ((M 33 3) + 8) (M (M 33 3) 15) (-19)) (M 33 3) 15 (z_w ((M (M 33 3) 15) + 1))) _
    exact wp_ret rfl rfl (l2 c1)
theorem zf_xs {k : Int} (h : zf_lv k ≠ -1) : z_stp 3 (zf_sg k) (z_xor k (-1)) := by
  have c : k = 16 ∨ k = 17 ∨ k = 60 ∨ k = 61 ∨ k = 62 ∨ k = 43 ∨ k = 45 ∨ k = 42 ∨ k = 47 ∨ k = 37 := by
    unfold zf_lv at h
    repeat' split at h
    all_goals first | omega | exact absurd rfl h
  refine Or.inr (Or.inr (Or.inr ⟨rfl, k, ?_, ?_⟩))
  · rcases c with rfl | rfl | rfl | rfl | rfl | rfl | rfl | rfl | rfl | rfl <;> decide
  · unfold z_sgn zf_sg
    rcases c with rfl | rfl | rfl | rfl | rfl | rfl | rfl | rfl | rfl | rfl <;> decide
theorem zf_xu {k : Int} (h : k = 3 ∨ (19 ≤ k ∧ k ≤ 23)) : z_stp 1 (zf_ak k) (z_xor k (-1)) := by
  have c : k = 3 ∨ k = 19 ∨ k = 20 ∨ k = 21 ∨ k = 22 ∨ k = 23 := by omega
  refine Or.inr (Or.inl ⟨rfl, k, ?_, ?_⟩)
  · rcases c with rfl | rfl | rfl | rfl | rfl | rfl <;> decide
  · unfold z_unk zf_ak
    rcases c with rfl | rfl | rfl | rfl | rfl | rfl <;> decide
theorem s_X5_levelOf {xs : List Int} {d : Nat} {M : z_M} {P : Option z_V → z_L → z_M → Prop} {x : Int} (k : P (some (0, zf_lv x)) z_LL M) : wp xs d mX5_levelOf 0 [(0, x)] [] z_LL M P := by
  apply gX5_levelOf_0
  case l11 =>
    intros
    rw [show zf_lv x = -1 by unfold zf_lv; simp [*]] at k
    exact k
  all_goals
    intros
    rename_i h
    subst h
    exact k
theorem s_X5_isUnit {xs : List Int} {d : Nat} {M : z_M} {P : Option z_V → z_L → z_M → Prop} {x : Int} (k : P (some (0, z_b (x = 25 ∨ x = 40 ∨ (x = 3 ∨ (19 ≤ x ∧ x ≤ 23))))) z_LL M) : wp xs (d + 1) mX5_isUnit 0 [(0, x)] [] z_LL M P := by
  refine gX5_isUnit_0 (fun h => ?_) (fun _ h => ?_) (fun h1 h2 h3 => ?_) (fun _ _ h => ?_)
  · rw [z_b_t (Or.inl h)] at k
    exact k
  · rw [z_b_t (Or.inr (Or.inl h))] at k
    exact k
  · rw [z_b_f (fun w => w.elim h1 (fun w => w.elim h2 h3))] at k
    exact k
  · rw [z_b_t (Or.inr (Or.inr h))] at k
    exact k
section
variable {xs : List Int} {d : Nat} {M G : z_M} {b : Int → Int} {n g so ar st lv dep : Int} {s : zf_S} {f : zf_S → zf_S} {N : Nat}
theorem zg_add (h : zg_c M g G) (hz : zg_z G) (hs : z_stp so ar st) : (270 ≤ M g 15 → zg_c M g (zf_add so ar G) ∧ zg_z (zf_add so ar G)) ∧ (¬ 270 ≤ M g 15 → zg_c (z_up (z_up M (g + 8) (M g 15) st) g 15 (z_w (M g 15 + 1))) g (zf_add so ar G) ∧ zg_z (zf_add so ar G)) := by
  obtain ⟨h1, h2, a, b, c, d, e, i, y, k, l⟩ := id h
  have hg := z_gsep h2
  have e15 : M g 15 = G 321 17 := a.2.2.2.2.2.1
  have z4 := hz.2.2.2.1
  refine ⟨fun w => ?_, fun w => ?_⟩
  · have e0 : zf_add so ar G = G := by
      unfold zf_add
      rw [if_neg (by omega)]
    rw [e0]
    exact ⟨h, hz⟩
  · obtain ⟨r1, r2, r3, r4, r5, r6⟩ := zf_add_r (G := G) (so := so) (ar := ar) (by omega)
    rw [z_wid (by omega)]
    have o : ∀ q, q ≠ g → q ≠ g + 8 → z_up (z_up M (g + 8) (M g 15) st) g 15 (M g 15 + 1) q = M q := fun q w1 w2 => by rw [z_upn w1, z_upn w2]
    have og : ∀ j, j ≠ 15 → z_up (z_up M (g + 8) (M g 15) st) g 15 (M g 15 + 1) g j = M g j := fun j w1 => by rw [z_upi w1 rfl, z_upn (by omega)]
    refine ⟨⟨by rw [o 33 (by omega) (by omega)]; exact h1, z_gor_n h2 (fun k x y => og k (by omega)), ?_, zgN_q (o _ (by omega) (by omega)) (r2 40 (by decide)) (r1 323 (by decide) (by decide) (by decide)) b, zgF_q ⟨o _ (by omega) (by omega), o _ (by omega) (by omega), o _ (by omega) (by omega)⟩ (r2 40 (by decide)) ⟨r1 332 (by decide) (by decide) (by decide), r1 333 (by decide) (by decide) (by decide), r1 334 (by decide) (by decide) (by decide)⟩ c, zgE_q (o _ (by omega) (by omega)) (r2 40 (by decide)) (r1 336 (by decide) (by decide) (by decide)) d, zgW_q (o _ (by omega) (by omega)) (r2 40 (by decide)) (r1 335 (by decide) (by decide) (by decide)) e, zgG_q (o _ (by omega) (by omega)) (r1 331 (by decide) (by decide) (by decide)) i, ?_, zgB_q (by rw [o 33 (by omega) (by omega)]) (fun q w1 w2 => r2 q (by omega)) k, ?_⟩, ?_⟩
    · obtain ⟨a1, a2, a3, a4, a5, a6, a7, a8, a9, a10⟩ := a
      refine ⟨?_, ?_, ?_, ?_, ?_, ?_, ?_, ?_, ?_, ?_⟩
      case refine_6 => rw [z_ups, r3, e15]
      all_goals
        rw [og _ (by decide), r2 _ (by decide)]
        assumption
    · intro k hk
      rw [r3] at hk
      rw [z_upn (q := g + 8) (by omega)]
      by_cases e : (k : Int) = G 321 17
      · rw [e, r5, r6, ← e15, z_ups]
        exact hs
      · rw [(r4 k e).1, (r4 k e).2, z_upi (by omega) rfl]
        exact y k (by omega)
    · unfold zgL at l ⊢
      rw [o 33 (by omega) (by omega), r2 39 (by decide), r2 38 (by decide)]
      exact l
    · unfold zg_z at hz ⊢
      rw [r2 36 (by decide), r2 37 (by decide), r2 40 (by decide), r3, r2 20 (by decide), r2 41 (by decide), r2 39 (by decide), r1 323 (by decide) (by decide) (by decide), r1 335 (by decide) (by decide) (by decide)]
      exact ⟨hz.1, hz.2.1, hz.2.2.1, by omega, hz.2.2.2.2⟩
theorem zk_add (h : zk b n g M s) (hs : z_stp so ar st) : (270 ≤ M g 15 → zk b n g M (zf_ad so ar s)) ∧ (¬ 270 ≤ M g 15 → zk b n g (z_up (z_up M (g + 8) (M g 15) st) g 15 (z_w (M g 15 + 1))) (zf_ad so ar s)) := by
  obtain ⟨h1, G', h2, h3, h4⟩ := h
  have hg := z_gsep h2.2.1
  have r := zg_add h2 h3 hs
  have t : ∀ p, (zf_ad so ar s).1 = .ok p → zf_add so ar G' = (zf_ad so ar s).2 := fun p hp => by
    show _ = zf_add so ar s.2
    rw [h4 p hp]
  exact ⟨fun w => ⟨h1, _, (r.1 w).1, (r.1 w).2, t⟩, fun w => ⟨zs_c_u (by omega) (by omega) (zs_c_u (by omega) (by omega) h1), _, (r.2 w).1, (r.2 w).2, t⟩⟩
/-- a level of the formula, read by the class -/
def kf (xs : List Int) (b : Int → Int) (n g lv dep : Int) (N : Nat) (f : zf_S → zf_S) : Prop := ∀ (d : Nat) (M G : z_M) (p : Int) (P : Option z_V → z_L → z_M → Prop), N ≤ d → z_fix M → zs_c M b n (.ok p) → zg_c M g G → zg_z G → (∀ M' : z_M, zl_f g M M' → zk b n g M' (f (.ok p, G)) → P none z_LL M') → wp xs d mX5_formula 0 [(2, 33), (0, lv), (0, dep), (3, 0), (3, 0)] [] z_LL M P
def ku (xs : List Int) (b : Int → Int) (n g dep : Int) (N : Nat) (f : zf_S → zf_S) : Prop := ∀ (d : Nat) (M G : z_M) (p : Int) (P : Option z_V → z_L → z_M → Prop), N ≤ d → z_fix M → zs_c M b n (.ok p) → zg_c M g G → zg_z G → (∀ M' : z_M, zl_f g M M' → zk b n g M' (f (.ok p, G)) → P none z_LL M') → wp xs d mX5_unit 0 [(2, 33), (0, dep), (3, 0), (3, 0), (3, 0)] [] z_LL M P
def kn (xs : List Int) (b : Int → Int) (n g dep : Int) (N : Nat) (f : zf_S → zf_S) : Prop := ∀ (d : Nat) (M G : z_M) (p : Int) (P : Option z_V → z_L → z_M → Prop), N ≤ d → z_fix M → zs_c M b n (.ok p) → zt_k b n p = 18 → zg_c M g G → zg_z G → (∀ M' : z_M, zl_f g M M' → zk b n g M' (f (.ok p, G)) → P none z_LL M') → wp xs d mX5_negation 0 [(2, 33), (0, dep)] [] z_LL M P
theorem kf_lp {e : Nat} {P : Option z_V → z_L → z_M → Prop} (hl : lv = 0 ∨ lv = 1 ∨ lv = 3 ∨ lv = 4) (hf : kf xs b n g (lv + 1) dep N f) (hd : N ≤ e + 5) : ∀ (k : Nat) (M : z_M) (s : zf_S) (w : z_V), k ≤ 1600 → z_fix M → zk b n g M s → (∀ M' : z_M, zl_f g M M' → zk b n g M' (zf_lp b n lv f k s) → P none z_LL M') → wp xs (e + 5 + 1) mX5_formula 44 [(2, 33), (0, lv), (0, dep), (0, 1600 - (k : Int)), w] [] z_LL M P
  | 0, M, s, w, _, hF, h, kk => gX5_formula_44 (d := e + 5) hF (fun _ => kk M zl_f_r h) (fun w => absurd (by omega) w) (fun w => absurd (by omega) w)
  | k + 1, M, (.error e1, G1), w, hk, hF, h, kk => by
    have n0 := zs_c_e h.1
    exact gX5_formula_44 (d := e + 5) hF (fun w => by omega) (fun _ _ => kk M zl_f_r h) (fun _ w => absurd n0 w)
  | k + 1, M, (.ok p, G1), w, hk, hF, h, kk => by
    obtain ⟨hc, G', hg, hz, he⟩ := id h
    obtain rfl : G' = G1 := he p rfl
    obtain ⟨n0, n3, np, -, -⟩ := zs_c_o hc
    have hs := z_gsep hg.2.1
    refine gX5_formula_44 (d := e + 5) hF (fun w => by omega) (fun _ w => absurd n0 w) (fun _ _ => ?_)
    rw [n3]
    refine s_X5_levelOf ?_
    have g1 := gX5_formula_68 (M := M) (xs := xs) (d := e + 5) (P := P) (x1 := lv) (x2 := dep) (x3 := 1600 - ((k + 1 : Nat) : Int)) (w4 := w) (s0 := zf_lv (zt_k b n p)) hF
    rw [zf_lp_o] at kk
    by_cases c : zf_lv (zt_k b n p) = lv
    · rw [if_pos c] at kk
      refine g1 (fun w => absurd c w) (fun _ => ?_)
      refine s_X5_next (d := e) hF hc (fun M1 f1 c1 => ?_)
      rw [n3]
      refine gX5_formula_88 (d := e + 5) ?_
      rw [z_wid (by omega)]
      have gg1 := zg_c_g hg f1
      have l1 := zl_f_g (g := g) f1
      refine hf _ M1 G' _ _ hd (zl_f_F l1 hs hF) c1 gg1 hz (fun M2 f2 k2 => ?_)
      obtain ⟨hc2, G2, hg2, hz2, he2⟩ := id k2
      have g2 := gX5_formula_96 (M := M2) (xs := xs) (d := e + 5) (P := P) (x1 := lv) (x2 := dep) (x3 := 1600 - ((k + 1 : Nat) : Int)) (x4 := zt_k b n p) (by rw [hg2.1]; exact hg2.2.1)
      rw [hg2.1] at g2
      have e3 : z_w (1600 - ((k + 1 : Nat) : Int) + 1) = 1600 - (k : Int) := by rw [z_wid (by omega)]; omega
      rw [e3] at g2
      have za := zk_add (so := 3) (ar := zf_sg (zt_k b n p)) k2 (zf_xs (by rw [c]; omega))
      have l2 := zl_f_t l1 f2
      have b15 : M2 g 15 = G2 321 17 := hg2.2.2.1.2.2.2.2.2.1
      have b17 := hz2.2.2.2.1
      exact g2 (fun w _ => kf_lp hl hf hd k M2 _ _ (by omega) (zl_f_F l2 hs hF) (za.1 w) (fun M3 f3 k3 => kk M3 (zl_f_t l2 f3) k3)) (fun _ w => absurd (show lv ≠ 2 by omega) w) (fun w => by omega) (fun w _ => kf_lp hl hf hd k _ _ _ (by omega) (zl_f_F (zl_f_t l2 (zl_f_t (zl_f_u hs (by omega)) (zl_f_u hs (by omega)))) hs hF) (za.2 w) (fun M3 f3 k3 => kk M3 (zl_f_t (zl_f_t l2 (zl_f_t (zl_f_u hs (by omega)) (zl_f_u hs (by omega)))) f3) k3)) (fun _ w => absurd (show lv ≠ 2 by omega) w)
    · rw [if_neg c] at kk
      exact g1 (fun _ => kk M zl_f_r h) (fun w => absurd c w)
theorem kf_bin (hl : lv = 0 ∨ lv = 1 ∨ lv = 3 ∨ lv = 4) (hN : 5 ≤ N) (hf : kf xs b n g (lv + 1) dep N f) : kf xs b n g lv dep (N + 1) (zf_bin b n lv f) := by
  intro d M G p P hd hF hc hg hz kk
  obtain ⟨e, rfl⟩ : ∃ e, d = e + 5 + 1 := ⟨d - 6, by omega⟩
  have hs := z_gsep hg.2.1
  refine gX5_formula_0 (d := e + 5) hF (fun _ _ => ?_) (fun _ w => absurd (show lv ≠ 5 by omega) w) (fun w => absurd (show lv ≠ 2 by omega) w) (fun w => absurd (show lv ≠ 2 by omega) w) (fun w => absurd (show lv ≠ 2 by omega) w)
  rw [z_wid (x := lv + 1) (by omega)]
  refine hf _ M G p _ (by omega) hF hc hg hz (fun M1 f1 k1 => ?_)
  refine gX5_formula_42 (d := e + 5 + 1) ?_
  have w := kf_lp (e := e) (P := P) hl hf (by omega) 1600 M1 _ (3, 0) (by omega) (zl_f_F f1 hs hF) k1 (fun M2 f2 k2 => kk M2 (zl_f_t f1 f2) k2)
  rw [show (1600 : Int) - ((1600 : Nat) : Int) = 0 by decide] at w
  exact w
/-- one relation at most; a not ahead -/
theorem kf_one {O : Option (zf_S → zf_S)} {Nf : zf_S → zf_S} (hN : 5 ≤ N) (hf : kf xs b n g 3 dep N f) (hn : kn xs b n g dep N Nf) (he : ∀ p G, zt_k b n p = 18 → Nf (.ok p, G) = zf_one b n O f (.ok p, G)) : kf xs b n g 2 dep (N + 1) (zf_one b n O f) := by
  intro d M G p P hd hF hc hg hz kk
  obtain ⟨e, rfl⟩ : ∃ e, d = e + 5 + 1 := ⟨d - 6, by omega⟩
  have hs := z_gsep hg.2.1
  obtain ⟨n0, n3, np, -, -⟩ := zs_c_o hc
  refine gX5_formula_0 (d := e + 5) hF (fun w => absurd rfl w) (fun w => absurd rfl w) (fun _ nk _ => ?_) (fun _ _ w => absurd (show (2 : Int) ≠ 5 by decide) w) (fun _ nk => ?_)
  · rw [n3] at nk
    refine hf _ M G p _ (by omega) hF hc hg hz (fun M1 f1 k1 => ?_)
    refine gX5_formula_42 (d := e + 5 + 1) ?_
    have F1 := zl_f_F f1 hs hF
    have kk : ∀ M' : z_M, zl_f g M M' → zk b n g M' (zf_r1 b n f (f (.ok p, G))) → P none z_LL M' := fun M' w1 w2 => kk M' w1 (by rw [zf_one_o, if_neg nk]; exact w2)
    generalize hs1 : f (.ok p, G) = s1 at k1 kk
    obtain ⟨σ, G1⟩ := s1
    cases σ with
    | error e1 =>
      have n1 := zs_c_e k1.1
      exact gX5_formula_44 (d := e + 5) F1 (fun w => by omega) (fun _ _ => kk M1 f1 k1) (fun _ w => absurd n1 w)
    | ok p1 =>
      obtain ⟨hc1, G', hg1, hz1, he1⟩ := id k1
      obtain rfl : G' = G1 := he1 p1 rfl
      obtain ⟨m0, m3, mp, -, -⟩ := zs_c_o hc1
      refine gX5_formula_44 (d := e + 5) F1 (fun w => by omega) (fun _ w => absurd m0 w) (fun _ _ => ?_)
      rw [m3]
      refine s_X5_levelOf ?_
      have g1 := gX5_formula_68 (M := M1) (xs := xs) (d := e + 5) (P := P) (x1 := 2) (x2 := dep) (x3 := 0) (w4 := (3, 0)) (s0 := zf_lv (zt_k b n p1)) F1
      rw [zf_r1_o] at kk
      by_cases c : zf_lv (zt_k b n p1) = 2
      · rw [if_pos c] at kk
        refine g1 (fun w => absurd c w) (fun _ => ?_)
        refine s_X5_next (d := e) F1 hc1 (fun M2 f2 c2 => ?_)
        rw [m3]
        refine gX5_formula_88 (d := e + 5) ?_
        rw [z_wid (by omega)]
        have gg2 := zg_c_g hg1 f2
        have l2 := zl_f_t f1 (zl_f_g (g := g) f2)
        refine hf _ M2 G' _ _ (by omega) (zl_f_F l2 hs hF) c2 gg2 hz1 (fun M3 f3 k3 => ?_)
        obtain ⟨hc3, G3, hg3, hz3, he3⟩ := id k3
        have g2 := gX5_formula_96 (M := M3) (xs := xs) (d := e + 5) (P := P) (x1 := 2) (x2 := dep) (x3 := 0) (x4 := zt_k b n p1) (by rw [hg3.1]; exact hg3.2.1)
        rw [hg3.1] at g2
        have za := zk_add (so := 3) (ar := zf_sg (zt_k b n p1)) k3 (zf_xs (by rw [c]; decide))
        have l3 := zl_f_t l2 f3
        have b15 : M3 g 15 = G3 321 17 := hg3.2.2.1.2.2.2.2.2.1
        have b17 := hz3.2.2.2.1
        exact g2 (fun _ w => absurd rfl w) (fun w _ => kk M3 l3 (za.1 w)) (fun w => by omega) (fun _ w => absurd rfl w) (fun w _ => kk _ (zl_f_t l3 (zl_f_t (zl_f_u hs (by omega)) (zl_f_u hs (by omega)))) (za.2 w))
      · rw [if_neg c] at kk
        exact g1 (fun _ => kk M1 f1 k1) (fun w => absurd c w)
  · have nk : zt_k b n p = 18 := by omega
    refine hn _ M G p _ (by omega) hF hc nk hg hz (fun M1 f1 k1 => ?_)
    rw [he p G nk] at k1
    exact gX5_formula_22 (kk M1 f1 k1)
noncomputable def zf_nts (b : Int → Int) (n : Int) (O : Option (zf_S → zf_S)) : zf_S → zf_S
  | (.ok p, G) => zf_nt b n p G O
  | (.error e, G) => (.error e, G)
theorem kn_not (hd : 0 ≤ dep ∧ dep ≤ 7) {O : Option (zf_S → zf_S)} (h7 : O = none → 7 ≤ dep) (hN : 5 ≤ N) (hf : ∀ f, O = some f → dep < 7 ∧ kf xs b n g 2 (dep + 1) N f) : kn xs b n g dep (N + 2) (zf_nts b n O) := by
  intro d M G p P hdd hF hc hk hg hz kk
  obtain ⟨e, rfl⟩ : ∃ e, d = e + 5 + 2 := ⟨d - 7, by omega⟩
  have hs := z_gsep hg.2.1
  obtain ⟨n0, n3, np, -, -⟩ := zs_c_o hc
  have kk : ∀ M' : z_M, zl_f g M M' → zk b n g M' (zf_nt b n p G O) → P none z_LL M' := kk
  cases O with
  | none =>
    have h7 := h7 rfl
    refine gX5_negation_0 (d := e + 5) hF (fun w => by omega) (fun _ w => absurd n0 w) (fun _ _ w => ?_) (fun _ _ w => by omega)
    have w3 := zs_c_w (c := 2) (v := 2) hc (by decide) (by unfold zs_f; rw [if_neg (by omega)])
    exact kk _ (zl_f_g w3.2) ⟨w3.1, G, zg_c_g hg w3.2, hz, fun p' hp => by cases hp⟩
  | some f =>
    obtain ⟨h7, hf⟩ := hf f rfl
    refine gX5_negation_0 (d := e + 5) hF (fun _ => ?_) (fun w => by omega) (fun w => by omega) (fun w => by omega)
    refine (s_X5_next (d := e) hF hc (fun M1 f1 c1 => ?_)).deep (by omega)
    refine gX5_negation_19 (d := e + 6) ?_
    rw [z_wid (by omega)]
    have gg1 := zg_c_g hg f1
    have l1 := zl_f_g (g := g) f1
    refine hf _ M1 G _ _ (by omega) (zl_f_F l1 hs hF) c1 gg1 hz (fun M2 f2 k2 => ?_)
    obtain ⟨hc2, G2, hg2, hz2, he2⟩ := id k2
    have g2 := gX5_negation_27 (M := M2) (xs := xs) (d := e + 6) (P := P) (x1 := dep) (by rw [hg2.1]; exact hg2.2.1)
    rw [hg2.1] at g2
    have za := zk_add (so := 2) (ar := 0) (st := -19) k2 (Or.inr (Or.inr (Or.inl ⟨rfl, rfl⟩)))
    have l2 := zl_f_t l1 f2
    have b15 : M2 g 15 = G2 321 17 := hg2.2.2.1.2.2.2.2.2.1
    have b17 := hz2.2.2.2.1
    exact g2 (fun w => kk M2 l2 (za.1 w)) (fun w => by omega) (fun w => kk _ (zl_f_t l2 (zl_f_t (zl_f_u hs (by omega)) (zl_f_u hs (by omega)))) (za.2 w))
theorem zg_un (h : zg_c M g G) (hz : zg_z G) (hu : G 321 20 < 30) : zg_c (z_up M g 14 (G 321 20 + 1)) g (zf_un G) ∧ zg_z (zf_un G) := by
  obtain ⟨u1, u2, u3⟩ := zf_un_r (G := G)
  refine ⟨zg_u (j := 14) (fld := 20) h (by unfold zg_p; omega), ?_⟩
  unfold zg_z at hz ⊢
  rw [u2 36 (by decide), u2 37 (by decide), u2 40 (by decide), u2 17 (by decide), u3, u2 41 (by decide), u2 39 (by decide), u1 323 (by decide), u1 335 (by decide)]
  exact ⟨hz.1, hz.2.1, hz.2.2.1, hz.2.2.2.1, ⟨by omega, hz.2.2.2.2.1.2⟩, hz.2.2.2.2.2⟩
/-- the tape moves on behind a fault -/
theorem s_X5_nxe {P : Option z_V → z_L → z_M → Prop} {e : Int × Int} (hF : z_fix M) (h : zs_c M b n (.error e)) (k : ∀ M' : z_M, zs_g M M' → zs_c M' b n (.error e) → P none z_LL M') : wp xs (d + 5) mX7_step 0 [(2, 30)] [] z_LL M P := by
  obtain ⟨h1, h2, h3, p', h4, h5, h6⟩ := h
  have xb := zt_x_b (b := b) h4
  have sb := zt_s_b (b := b) h4
  refine s_X7_step (d := d) hF h1 h5.2.2.1 (by omega) (fun M' f t => k M' ⟨fun q a _ => f.1 q a, f.2, fun j _ _ => by rw [f.1 33 (by decide)]⟩ ⟨zt_f_t f h1, by rw [f.1 33 (by decide)]; exact h2, h3, _, by omega, t, fun q w => by cases w⟩)
theorem ku_uni (hd : 0 ≤ dep ∧ dep ≤ 7) {F : Option (zf_S → zf_S)} (h7 : F = none ↔ 7 ≤ dep) (hN : 5 ≤ N) (hf : ∀ f, F = some f → kf xs b n g 0 (dep + 1) N f) : ku xs b n g dep (N + 1) (zf_uni b n F) := by
  intro d M G p P hdd hF hc hg hz kk
  obtain ⟨e, rfl⟩ : ∃ e, d = e + 5 + 1 := ⟨d - 6, by omega⟩
  have hs := z_gsep hg.2.1
  obtain ⟨n0, n3, np, nv, -⟩ := zs_c_o hc
  have e14 : M g 14 = G 321 20 := hg.2.2.1.2.2.2.2.1
  have e15 : M g 15 = G 321 17 := hg.2.2.1.2.2.2.2.2.1
  have z20 := hz.2.2.2.2.1.1
  have z17 := hz.2.2.2.1
  have g0 := gX5_unit_0 (M := M) (xs := xs) (d := e + 5) (P := P) (a1 := dep) hF
  rw [n3] at g0
  have key : ∀ x3 x4 : Int, (¬ x3 = 0 ↔ zt_k b n p = 40) → (¬ x4 = 0 ↔ zt_k b n p = 40 ∧ 7 ≤ dep) → wp xs (e + 4 + 1) mX5_isUnit 0 [(0, zt_k b n p)] [] z_LL M (fun r L1 M1 => wp xs (e + 5 + 1) mX5_unit 41 [(2, 33), (0, dep), (0, zt_k b n p), (0, x3), (0, x4)] (z_ol r ++ []) L1 M1 P) := by
    intro x3 x4 h3 h4
    refine s_X5_isUnit ?_
    have bad : zf_uni b n F (.ok p, G) = (.error (zs_f b n p 2), G) → wp xs (e + 5 + 1) mX5_unit 61 [(2, 33), (0, dep), (0, zt_k b n p), (0, x3), (0, x4)] [] z_LL M P := by
      intro er
      have fin : ∀ v : Int, v = (zs_f b n p 2).1 → wp xs (e + 5 + 1) mX5_unit 66 [(2, 33), (0, dep), (0, zt_k b n p), (0, x3), (0, x4)] [] z_LL (z_up (z_up M 33 1 v) 33 2 (M 30 4)) P := fun v hv => by
        have w3 := zs_c_w (c := 2) (v := v) hc (by decide) hv
        have l3 := zl_f_g (g := g) w3.2
        have ne := zs_c_e w3.1
        have hg3 := zg_c_g hg w3.2
        exact gX5_unit_66 (d := e + 5) (zl_f_F l3 hs hF) (by rw [hg3.1]; exact hg3.2.1) (fun _ => kk _ l3 ⟨by rw [er]; exact w3.1, G, hg3, hz, fun p' hp => by rw [er] at hp; cases hp⟩) (fun w => absurd ne w) (fun w => absurd ne w) (fun w => absurd ne w) (fun w => absurd ne w) (fun w => absurd ne w) (fun w => absurd ne w) (fun w => absurd ne w)
      refine gX5_unit_61 (d := e + 4) hF (fun w => absurd n0 w) (fun _ w => fin 2 ?_) (fun _ w => fin 1 ?_)
      · rw [n3] at w
        unfold zs_f
        rw [if_neg w]
      · rw [n3] at w
        unfold zs_f
        rw [if_pos (by omega)]
    have g1 := gX5_unit_41 (M := M) (xs := xs) (d := e + 5 + 1) (P := P) (x1 := dep) (x2 := zt_k b n p) (x3 := x3) (x4 := x4) (s0 := z_b (zt_k b n p = 25 ∨ zt_k b n p = 40 ∨ (zt_k b n p = 3 ∨ (19 ≤ zt_k b n p ∧ zt_k b n p ≤ 23)))) (by rw [hg.1]; exact hg.2.1)
    rw [hg.1] at g1
    refine g1 (fun w => bad ?_) (fun _ w => bad ?_) (fun w1 w2 w3 => ?_) (fun _ _ w => bad ?_)
    · have w := zf_b0.mp w
      rw [zf_uni_o]
      split
      · rfl
      · rw [if_neg (fun c => w (Or.inr (Or.inl c))), if_neg (fun c => w (Or.inl c)), if_neg (fun c => w (Or.inr (Or.inr c)))]
    · have w := h4.mp w
      rw [zf_uni_o]
      split
      · rfl
      · rw [if_pos w.1, h7.mpr w.2]
        rfl
    · have hu : ¬ 30 ≤ G 321 20 := by omega
      have w1 : zt_k b n p = 25 ∨ zt_k b n p = 40 ∨ (zt_k b n p = 3 ∨ (19 ≤ zt_k b n p ∧ zt_k b n p ≤ 23)) := Classical.byContradiction (fun c => w1 (zf_b0.mpr c))
      have hU := zg_un hg hz (by omega)
      have cU : zs_c (z_up M g 14 (G 321 20 + 1)) b n (.ok p) := zs_c_u (by omega) (by omega) hc
      have lU : zl_f g M (z_up M g 14 (G 321 20 + 1)) := zl_f_u hs (by omega)
      have g2 := gX5_unit_66 (M := M) (xs := xs) (d := e + 5) (P := P) (x1 := dep) (x2 := zt_k b n p) (x3 := x3) (x4 := x4) hF (by rw [hg.1]; exact hg.2.1)
      rw [hg.1, e14, z_wid (x := G 321 20 + 1) (by omega)] at g2
      have eU15 : z_up M g 14 (G 321 20 + 1) g 15 = M g 15 := z_upi (by decide) rfl
      -- behind a unit alone
      have leaf : ∀ (M1 : z_M) (G1 : z_M), zl_f g M M1 → zs_c M1 b n (.ok p) → zg_c M1 g G1 → zg_z G1 → x3 = 0 → zf_uni b n F (.ok p, G) = (.ok (zt_x b n p), G1) → wp xs (e + 5) mX7_step 0 [(2, 30)] [] z_LL M1 (fun r L1 M1 => wp xs (e + 5 + 1) mX5_unit 124 [(2, 33), (0, dep), (0, zt_k b n p), (0, x3), (0, x4)] (z_ol r ++ []) L1 M1 P) := fun M1 G1 l1 c1 hg1 hz1 x0 er => by
        refine s_X5_next (d := e) (zl_f_F l1 hs hF) c1 (fun M2 f2 c2 => ?_)
        refine gX5_unit_124 (d := e + 5) (fun _ => kk M2 (zl_f_t l1 (zl_f_g f2)) ?_) (fun w => absurd x0 w)
        rw [er]
        exact ⟨c2, G1, zg_c_g hg1 f2, hz1, fun _ _ => rfl⟩
      refine g2 (fun w => absurd n0 w) (fun _ w => ?_) (fun _ w w5 w6 => ?_) (fun _ _ _ w => by omega) (fun _ w w5 w6 => ?_) (fun _ w w5 w6 => ?_) (fun _ _ _ w => by omega) (fun _ w w5 w6 => ?_)
      · -- a bracket
        have k40 := h3.mp w
        have hd7 : ¬ 7 ≤ dep := fun c => w2 (h4.mpr ⟨k40, c⟩)
        cases F with
        | none => exact absurd (h7.mp rfl) hd7
        | some F =>
          have er : zf_uni b n (some F) (.ok p, G) = zf_cl b n (F (.ok (zt_x b n p), zf_un G)) := by
            rw [zf_uni_o]
            rw [if_neg hu, if_pos k40]
            rfl
          rw [er] at kk
          refine s_X5_next (d := e) (zl_f_F lU hs hF) cU (fun M2 f2 c2 => ?_)
          refine gX5_unit_124 (d := e + 5) (fun x => absurd x w) (fun _ => ?_)
          rw [z_wid (by omega)]
          have l2 := zl_f_t lU (zl_f_g (g := g) f2)
          refine hf F rfl _ M2 _ _ _ (by omega) (zl_f_F l2 hs hF) c2 (zg_c_g hU.1 f2) hU.2 (fun M3 f3 k3 => ?_)
          have l3 := zl_f_t l2 f3
          have F3 := zl_f_F l3 hs hF
          generalize F (.ok (zt_x b n p), zf_un G) = s3 at k3 kk
          obtain ⟨σ, G3⟩ := s3
          have g3 := gX5_unit_136 (M := M3) (xs := xs) (d := e + 4) (P := P) (x1 := dep) (x2 := zt_k b n p) (x3 := x3) (x4 := x4) F3
          cases σ with
          | error e1 =>
            have m0 := zs_c_e k3.1
            refine g3 (fun _ _ => kk M3 l3 k3) (fun _ w => absurd m0 w) (fun _ w => absurd m0 w) (fun _ => ?_)
            refine s_X5_nxe (d := e) F3 k3.1 (fun M4 f4 c4 => ?_)
            obtain ⟨_, G4, hg4, hz4, he4⟩ := k3
            exact gX5_unit_155 (kk M4 (zl_f_t l3 (zl_f_g f4)) ⟨c4, G4, zg_c_g hg4 f4, hz4, fun p' w => by cases w⟩)
          | ok p3 =>
            obtain ⟨hc3, G4, hg4, hz4, he4⟩ := k3
            obtain rfl : G4 = G3 := he4 p3 rfl
            obtain ⟨m0, m3, mp, -, -⟩ := zs_c_o hc3
            rw [zf_cl_o] at kk
            refine g3 (fun _ w => absurd m0 w) (fun w1 _ w => ?_) (fun w1 _ w => ?_) (fun w1 => ?_)
            · rw [m3] at w w1
              rw [if_neg w1] at kk
              have w3 := zs_c_w (c := 2) (v := 2) hc3 (by decide) (by unfold zs_f; rw [if_neg w])
              exact kk _ (zl_f_t l3 (zl_f_g w3.2)) ⟨w3.1, G4, zg_c_g hg4 w3.2, hz4, fun p' hp => by cases hp⟩
            · rw [m3] at w w1
              rw [if_neg w1] at kk
              have w3 := zs_c_w (c := 2) (v := 1) hc3 (by decide) (by unfold zs_f; rw [if_pos (by omega)])
              exact kk _ (zl_f_t l3 (zl_f_g w3.2)) ⟨w3.1, G4, zg_c_g hg4 w3.2, hz4, fun p' hp => by cases hp⟩
            · rw [m3] at w1
              rw [if_pos (by omega)] at kk
              refine s_X5_next (d := e) F3 hc3 (fun M5 f5 c5 => ?_)
              exact gX5_unit_155 (kk M5 (zl_f_t l3 (zl_f_g f5)) ⟨c5, G4, zg_c_g hg4 f5, hz4, fun _ _ => rfl⟩)
      · have k40 : ¬ zt_k b n p = 40 := fun c => w (h3.mpr c)
        have er : zf_uni b n F (.ok p, G) = (.ok (zt_x b n p), zf_add 1 (zf_ak (zt_k b n p)) (zf_un G)) := by
          rw [zf_uni_o]
          rw [if_neg hu, if_neg k40, if_neg w5, if_pos (by omega)]
        have za := (zg_add (so := 1) (ar := zf_ak (zt_k b n p)) hU.1 hU.2 (zf_xu (by omega))).1 (by omega)
        exact leaf _ _ lU cU za.1 za.2 (by omega) er
      · have k40 : ¬ zt_k b n p = 40 := fun c => w (h3.mpr c)
        have er : zf_uni b n F (.ok p, G) = (.ok (zt_x b n p), zf_add 1 (zf_ak (zt_k b n p)) (zf_un G)) := by
          rw [zf_uni_o]
          rw [if_neg hu, if_neg k40, if_neg w5, if_pos (by omega)]
        have za := (zg_add (so := 1) (ar := zf_ak (zt_k b n p)) hU.1 hU.2 (zf_xu (by omega))).2 (by omega)
        rw [eU15] at za
        exact leaf _ _ (zl_f_t lU (zl_f_t (zl_f_u hs (by omega)) (zl_f_u hs (by omega)))) (zs_c_u (by omega) (by omega) (zs_c_u (by omega) (by omega) cU)) za.1 za.2 (by omega) er
      · have k40 : ¬ zt_k b n p = 40 := fun c => w (h3.mpr c)
        have w5 : zt_k b n p = 25 := by omega
        have er : zf_uni b n F (.ok p, G) = (.ok (zt_x b n p), zf_add 0 (zt_v b n p) (zf_un G)) := by
          rw [zf_uni_o]
          rw [if_neg hu, if_neg k40, if_pos w5]
        have za := (zg_add (so := 0) (ar := zt_v b n p) (st := zt_v b n p) hU.1 hU.2 (Or.inl ⟨rfl, rfl⟩)).1 (by omega)
        exact leaf _ _ lU cU za.1 za.2 (by omega) er
      · have k40 : ¬ zt_k b n p = 40 := fun c => w (h3.mpr c)
        have w5 : zt_k b n p = 25 := by omega
        have er : zf_uni b n F (.ok p, G) = (.ok (zt_x b n p), zf_add 0 (zt_v b n p) (zf_un G)) := by
          rw [zf_uni_o]
          rw [if_neg hu, if_neg k40, if_pos w5]
        have za := (zg_add (so := 0) (ar := zt_v b n p) (st := zt_v b n p) hU.1 hU.2 (Or.inl ⟨rfl, rfl⟩)).2 (by omega)
        rw [eU15] at za
        rw [nv w5]
        exact leaf _ _ (zl_f_t lU (zl_f_t (zl_f_u hs (by omega)) (zl_f_u hs (by omega)))) (zs_c_u (by omega) (by omega) (zs_c_u (by omega) (by omega) cU)) za.1 za.2 (by omega) er
    · rw [zf_uni_o]
      rw [if_pos (by omega)]
  refine g0 (fun w => key 0 0 (by omega) (by omega)) (fun w w2 => key 1 0 (by omega) (by omega)) (fun w w2 => key 1 1 (by omega) (by omega))
theorem kf_unit (hu : ku xs b n g dep N f) : kf xs b n g 5 dep (N + 1) f := by
  intro d M G p P hd hF hc hg hz kk
  obtain ⟨e, rfl⟩ : ∃ e, d = e + 1 := ⟨d - 1, by omega⟩
  refine gX5_formula_0 (d := e) hF (fun _ w => absurd rfl w) (fun _ _ => ?_) (fun w => absurd (show (5 : Int) ≠ 2 by decide) w) (fun w => absurd (show (5 : Int) ≠ 2 by decide) w) (fun w => absurd (show (5 : Int) ≠ 2 by decide) w)
  exact hu _ M G p _ (by omega) hF hc hg hz (fun M1 f1 k1 => gX5_formula_33 (kk M1 f1 k1))
end
/-- at depth 7 - r -/
theorem kf_build {xs : List Int} {b : Int → Int} {n g dep : Int} {F N : Option (zf_S → zf_S)} {m : Nat} (hd : 0 ≤ dep ∧ dep ≤ 7) (hm : 5 ≤ m) (hF : F = none ↔ 7 ≤ dep) (hN : N = none → 7 ≤ dep) (h1 : ∀ f, F = some f → kf xs b n g 0 (dep + 1) m f) (h2 : ∀ f, N = some f → dep < 7 ∧ kf xs b n g 2 (dep + 1) m f) : kf xs b n g 0 dep (m + 7) (zf_f b n F N) ∧ kf xs b n g 2 dep (m + 5) (zf_o b n F N) := by
  have t := kf_bin (lv := 3) (by omega) (by omega) (kf_bin (lv := 4) (by omega) (by omega) (kf_unit (ku_uni hd hF hm h1)))
  have o : kf xs b n g 2 dep (m + 5) (zf_o b n F N) := kf_one (N := m + 4) (Nf := zf_nts b n N) (by omega) t (fun d M G p P a => kn_not hd hN hm h2 d M G p P (by omega)) (fun p G hk => by
    rw [zf_one_o, if_pos hk]
    rfl)
  exact ⟨kf_bin (lv := 0) (by omega) (by omega) (kf_bin (lv := 1) (by omega) (by omega) o), o⟩
theorem kf_all (xs : List Int) (b : Int → Int) (n g : Int) : ∀ r : Nat, r ≤ 7 → kf xs b n g 0 (7 - r) (12 + 7 * r) (zf b n r).1 ∧ kf xs b n g 2 (7 - r) (12 + 7 * r) (zf b n r).2
  | 0, _ => by
    have h := kf_build (xs := xs) (b := b) (n := n) (g := g) (dep := 7) (F := none) (N := none) (m := 5) (by omega) (by omega) ⟨fun _ => by omega, fun _ => rfl⟩ (fun _ => by omega) (fun f w => by cases w) (fun f w => by cases w)
    exact ⟨h.1, fun d M G p P a => h.2 d M G p P (by omega)⟩
  | r + 1, hr => by
    obtain ⟨i1, i2⟩ := kf_all xs b n g r (by omega)
    have e : (7 : Int) - ((r + 1 : Nat) : Int) + 1 = 7 - r := by omega
    have h := kf_build (xs := xs) (b := b) (n := n) (g := g) (dep := 7 - ((r + 1 : Nat) : Int)) (F := some (zf b n r).1) (N := some (zf b n r).2) (m := 12 + 7 * r) (by omega) (by omega) ⟨fun w => absurd w (by simp), fun w => by omega⟩ (fun w => absurd w (by simp)) (fun f w => by injection w with w; rw [← w, e]; exact i1) (fun f w => by injection w with w; rw [← w, e]; exact ⟨by omega, i2⟩)
    exact ⟨fun d M G p P a => h.1 d M G p P (by omega), fun d M G p P a => h.2 d M G p P (by omega)⟩
