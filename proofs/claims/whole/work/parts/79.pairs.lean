/-! pairs: the class -/
set_option maxRecDepth 20000 in
theorem gX1_couldPair_0 {xs : List Int} {d : Nat} {M : z_M} {P : Option z_V → z_L → z_M → Prop} {g : Int} {a1 : Int} {a2 : Int} (hg : z_gor M g)
    (b1 : M g 12 ≤ 6)
    (l1 : (¬ (z_cmg M g a1 a2)) → P (some (0, 0)) z_LL M)
    (b2 : ((z_cmg M g a1 a2)) → 0 ≤ (z_w ((z_w (a1 * 6)) + a2)) ∧ (z_w ((z_w (a1 * 6)) + a2)) < 36)
    (l2 : ((z_cmg M g a1 a2)) → ((M (g + 6) (z_w ((z_w (a1 * 6)) + a2))) = (-1)) → P (some (0, 0)) z_LL M)
    (b3 : ((z_cmg M g a1 a2)) → (¬ ((M (g + 6) (z_w ((z_w (a1 * 6)) + a2))) = (-1))) → 0 ≤ (z_w ((z_w (a2 * 6)) + a1)) ∧ (z_w ((z_w (a2 * 6)) + a1)) < 36)
    (l3 : ((z_cmg M g a1 a2)) → (¬ ((M (g + 6) (z_w ((z_w (a1 * 6)) + a2))) = (-1))) → ((M (g + 6) (z_w ((z_w (a2 * 6)) + a1))) = (-1)) → P (some (0, 0)) z_LL M)
    (l4 : ((z_cmg M g a1 a2)) → (¬ ((M (g + 6) (z_w ((z_w (a1 * 6)) + a2))) = (-1))) → (¬ ((M (g + 6) (z_w ((z_w (a2 * 6)) + a1))) = (-1))) → P (some (0, 1)) z_LL M) :
    wp xs (d + 2) mX1_couldPair 0 [(2, g), (0, a1), (0, a2)] [] z_LL M P := by
  refine wp_run 3 (pc' := 3) (ls' := [(2, g), (0, a1), (0, a2)]) (st' := [(0, a2), (0, a1), (2, g)]) rfl ?_
  refine wp_callv (pc' := 6) (as := [(2, g), (0, a1), (0, a2)]) (rest := []) (ls1 := [(2, g), (0, a1), (0, a2)]) rfl rfl rfl rfl (z_args_v rfl rfl rfl rfl (Nat.le_of_ble_eq_true rfl) rfl (by decide) (z_gl0 hg)) rfl ?_
  refine s_X1_canMix hg (b1) ?_
  show wp xs _ mX1_couldPair 6 [(2, g), (0, a1), (0, a2)] [(0, (z_b (z_cmg M g a1 a2)))] z_LL M _
  refine wp_be rfl rfl rfl (fun (c1 : ¬ (z_cmg M g a1 a2)) => ?_) (fun (c1 : (z_cmg M g a1 a2)) => ?_)
  · refine wp_run 1 (pc' := 34) (ls' := [(2, g), (0, a1), (0, a2)]) (st' := [(0, 0)]) rfl ?_
    exact wp_ret rfl rfl (l1 c1)
  · refine wp_run 3 (pc' := 12) (ls' := [(2, g), (0, a1), (0, a2)]) (st' := [(0, a2), (0, a1), (2, g)]) rfl ?_
    refine wp_callv (pc' := 15) (as := [(2, g), (0, a1), (0, a2)]) (rest := []) (ls1 := [(2, g), (0, a1), (0, a2)]) rfl rfl rfl rfl (z_args_v rfl rfl rfl rfl (Nat.le_of_ble_eq_true rfl) rfl (by decide) (z_gl0 hg)) rfl ?_
    refine wp_run 1 (pc' := 1) (ls' := [(2, g), (0, a1), (0, a2)]) (st' := [(2, g)]) rfl ?_
    refine wp_gf (pc' := 4) (t := 2) (v := (g + 6)) rfl rfl (by decide) rfl (z_gl0 hg) (z_gf5 hg) ?_
    refine wp_run 5 (pc' := 10) (ls' := [(2, g), (0, a1), (0, a2)]) (st' := [(0, (z_w ((z_w (a1 * 6)) + a2))), (2, (g + 6))]) rfl ?_
    refine wp_iald (pc' := 11) (v := (M (g + 6) (z_w ((z_w (a1 * 6)) + a2)))) rfl rfl (z_gl6 hg) (b2 c1) rfl ?_
    refine wp_ret rfl rfl ?_
    show wp xs _ mX1_couldPair 15 [(2, g), (0, a1), (0, a2)] [(0, (M (g + 6) (z_w ((z_w (a1 * 6)) + a2))))] z_LL M _
    refine wp_run 1 (pc' := 16) (ls' := [(2, g), (0, a1), (0, a2)]) (st' := [(0, (-1)), (0, (M (g + 6) (z_w ((z_w (a1 * 6)) + a2))))]) rfl ?_
    refine wp_if2 rfl rfl rfl (fun (c2 : (M (g + 6) (z_w ((z_w (a1 * 6)) + a2))) = (-1)) => ?_) (fun (c2 : ¬ ((M (g + 6) (z_w ((z_w (a1 * 6)) + a2))) = (-1))) => ?_)
    · refine wp_run 1 (pc' := 34) (ls' := [(2, g), (0, a1), (0, a2)]) (st' := [(0, 0)]) rfl ?_
      exact wp_ret rfl rfl (l2 c1 c2)
    · refine wp_run 3 (pc' := 22) (ls' := [(2, g), (0, a1), (0, a2)]) (st' := [(0, a1), (0, a2), (2, g)]) rfl ?_
      refine wp_callv (pc' := 25) (as := [(2, g), (0, a2), (0, a1)]) (rest := []) (ls1 := [(2, g), (0, a2), (0, a1)]) rfl rfl rfl rfl (z_args_v rfl rfl rfl rfl (Nat.le_of_ble_eq_true rfl) rfl (by decide) (z_gl0 hg)) rfl ?_
      refine wp_run 1 (pc' := 1) (ls' := [(2, g), (0, a2), (0, a1)]) (st' := [(2, g)]) rfl ?_
      refine wp_gf (pc' := 4) (t := 2) (v := (g + 6)) rfl rfl (by decide) rfl (z_gl0 hg) (z_gf5 hg) ?_
      refine wp_run 5 (pc' := 10) (ls' := [(2, g), (0, a2), (0, a1)]) (st' := [(0, (z_w ((z_w (a2 * 6)) + a1))), (2, (g + 6))]) rfl ?_
      refine wp_iald (pc' := 11) (v := (M (g + 6) (z_w ((z_w (a2 * 6)) + a1)))) rfl rfl (z_gl6 hg) (b3 c1 c2) rfl ?_
      refine wp_ret rfl rfl ?_
      show wp xs _ mX1_couldPair 25 [(2, g), (0, a1), (0, a2)] [(0, (M (g + 6) (z_w ((z_w (a2 * 6)) + a1))))] z_LL M _
      refine wp_run 1 (pc' := 26) (ls' := [(2, g), (0, a1), (0, a2)]) (st' := [(0, (-1)), (0, (M (g + 6) (z_w ((z_w (a2 * 6)) + a1))))]) rfl ?_
      refine wp_if2 rfl rfl rfl (fun (c3 : (M (g + 6) (z_w ((z_w (a2 * 6)) + a1))) = (-1)) => ?_) (fun (c3 : ¬ ((M (g + 6) (z_w ((z_w (a2 * 6)) + a1))) = (-1))) => ?_)
      · refine wp_run 1 (pc' := 34) (ls' := [(2, g), (0, a1), (0, a2)]) (st' := [(0, 0)]) rfl ?_
        exact wp_ret rfl rfl (l3 c1 c2 c3)
      · refine wp_run 2 (pc' := 34) (ls' := [(2, g), (0, a1), (0, a2)]) (st' := [(0, 1)]) rfl ?_
        exact wp_ret rfl rfl (l4 c1 c2 c3)
set_option maxRecDepth 20000 in
theorem gX3_isCalm_0 {xs : List Int} {d : Nat} {M : z_M} {P : Option z_V → z_L → z_M → Prop} 
    (l1 : wp xs d mX3_isCalm 2 [(2, 289), (0, 0), (3, 0)] [] z_LL M P) :
    wp xs d mX3_isCalm 0 [(2, 289), (3, 0), (3, 0)] [] z_LL M P := by
  refine wp_run 2 (pc' := 2) (ls' := [(2, 289), (0, 0), (3, 0)]) (st' := []) rfl ?_
  exact l1
set_option maxRecDepth 20000 in
theorem gX3_isCalm_2 {xs : List Int} {d : Nat} {M : z_M} {P : Option z_V → z_L → z_M → Prop} {x1 : Int} {w2 : z_V} (hg1 : z_gor M (M 289 6))
    (l1 : ((M (M 289 6) 12) ≤ x1) → P (some (0, 1)) z_LL M)
    (l2 : (¬ ((M (M 289 6) 12) ≤ x1)) → wp xs d mX3_isCalm 17 [(2, 289), (0, x1), (0, (z_w (x1 + 1)))] [] z_LL M P) :
    wp xs d mX3_isCalm 2 [(2, 289), (0, x1), w2] [] z_LL M P := by
  refine wp_run 2 (pc' := 4) (ls' := [(2, 289), (0, x1), w2]) (st' := [(2, 289), (0, x1)]) rfl ?_
  refine wp_gf (pc' := 7) (t := 2) (v := (M 289 6)) rfl rfl (by decide) rfl rfl rfl ?_
  refine wp_gf (pc' := 10) (t := 0) (v := (M (M 289 6) 12)) rfl rfl (by decide) rfl (z_gl0 hg1) rfl ?_
  refine wp_if2 rfl rfl rfl (fun (c1 : (M (M 289 6) 12) ≤ x1) => ?_) (fun (c1 : ¬ ((M (M 289 6) 12) ≤ x1)) => ?_)
  · refine wp_run 1 (pc' := 89) (ls' := [(2, 289), (0, x1), w2]) (st' := [(0, 1)]) rfl ?_
    exact wp_ret rfl rfl (l1 c1)
  · refine wp_run 4 (pc' := 17) (ls' := [(2, 289), (0, x1), (0, (z_w (x1 + 1)))]) (st' := []) rfl ?_
    exact l2 c1
set_option maxRecDepth 20000 in
theorem gX3_isCalm_17 {xs : List Int} {d : Nat} {M : z_M} {P : Option z_V → z_L → z_M → Prop} {x1 : Int} {x2 : Int} (hg1 : z_gor M (M 289 6))
    (l1 : ((M (M 289 6) 12) ≤ x2) → wp xs (d + 1) mX3_isCalm 2 [(2, 289), (0, (z_w (x1 + 1))), (0, x2)] [] z_LL M P)
    (l2 : (¬ ((M (M 289 6) 12) ≤ x2)) → wp xs d mX1_couldPair 0 [(2, (M 289 6)), (0, x1), (0, x2)] [] z_LL M (fun r L1 M1 => wp xs (d + 1) mX3_isCalm 37 [(2, 289), (0, x1), (0, x2)] (z_ol r ++ []) L1 M1 P)) :
    wp xs (d + 1) mX3_isCalm 17 [(2, 289), (0, x1), (0, x2)] [] z_LL M P := by
  refine wp_run 2 (pc' := 19) (ls' := [(2, 289), (0, x1), (0, x2)]) (st' := [(2, 289), (0, x2)]) rfl ?_
  refine wp_gf (pc' := 22) (t := 2) (v := (M 289 6)) rfl rfl (by decide) rfl rfl rfl ?_
  refine wp_gf (pc' := 25) (t := 0) (v := (M (M 289 6) 12)) rfl rfl (by decide) rfl (z_gl0 hg1) rfl ?_
  refine wp_if2 rfl rfl rfl (fun (c1 : (M (M 289 6) 12) ≤ x2) => ?_) (fun (c1 : ¬ ((M (M 289 6) 12) ≤ x2)) => ?_)
  · refine wp_run 2 (pc' := 2) (ls' := [(2, 289), (0, (z_w (x1 + 1))), (0, x2)]) (st' := []) rfl ?_
    exact l1 c1
  · refine wp_run 1 (pc' := 29) (ls' := [(2, 289), (0, x1), (0, x2)]) (st' := [(2, 289)]) rfl ?_
    refine wp_gf (pc' := 32) (t := 2) (v := (M 289 6)) rfl rfl (by decide) rfl rfl rfl ?_
    refine wp_run 2 (pc' := 34) (ls' := [(2, 289), (0, x1), (0, x2)]) (st' := [(0, x2), (0, x1), (2, (M 289 6))]) rfl ?_
    refine wp_callv (pc' := 37) (as := [(2, (M 289 6)), (0, x1), (0, x2)]) (rest := []) (ls1 := [(2, (M 289 6)), (0, x1), (0, x2)]) rfl rfl rfl rfl (z_args_v rfl rfl rfl rfl (Nat.le_of_ble_eq_true rfl) rfl (by decide) (z_gl0 hg1)) rfl ?_
    exact l2 c1
set_option maxRecDepth 20000 in
theorem gX3_isCalm_37 {xs : List Int} {d : Nat} {M : z_M} {P : Option z_V → z_L → z_M → Prop} {x1 : Int} {x2 : Int} {s0 : Int} (hF : z_fix M) (hg1 : z_gor M (M 289 6))
    (l1 : (s0 = 0) → wp xs (d + 2) mX3_isCalm 17 [(2, 289), (0, x1), (0, (z_w (x2 + 1)))] [] z_LL M P)
    (b1 : (¬ (s0 = 0)) → 0 ≤ (z_w ((z_w (x1 * 6)) + x2)) ∧ (z_w ((z_w (x1 * 6)) + x2)) < 36)
    (b2 : (¬ (s0 = 0)) → 0 ≤ x1 ∧ x1 < 6)
    (b3 : (¬ (s0 = 0)) → ((M 290 x1) ≠ (-1)) → 0 ≤ (z_w ((z_w (x1 * 6)) + (M 290 x1))) ∧ (z_w ((z_w (x1 * 6)) + (M 290 x1))) < 36)
    (l2 : (¬ (s0 = 0)) → ((M 290 x1) ≠ (-1)) → ((M ((M 289 6) + 6) (z_w ((z_w (x1 * 6)) + x2))) ≤ (M ((M 289 6) + 6) (z_w ((z_w (x1 * 6)) + (M 290 x1))))) → wp xs (d + 2) mX3_isCalm 17 [(2, 289), (0, x1), (0, (z_w (x2 + 1)))] [] z_LL M P)
    (b4 : (¬ (s0 = 0)) → ((M 290 x1) ≠ (-1)) → (¬ ((M ((M 289 6) + 6) (z_w ((z_w (x1 * 6)) + x2))) ≤ (M ((M 289 6) + 6) (z_w ((z_w (x1 * 6)) + (M 290 x1)))))) → 0 ≤ (z_w ((z_w (x2 * 6)) + x1)) ∧ (z_w ((z_w (x2 * 6)) + x1)) < 36)
    (b5 : (¬ (s0 = 0)) → ((M 290 x1) ≠ (-1)) → (¬ ((M ((M 289 6) + 6) (z_w ((z_w (x1 * 6)) + x2))) ≤ (M ((M 289 6) + 6) (z_w ((z_w (x1 * 6)) + (M 290 x1)))))) → 0 ≤ x2 ∧ x2 < 6)
    (b6 : (¬ (s0 = 0)) → ((M 290 x1) ≠ (-1)) → (¬ ((M ((M 289 6) + 6) (z_w ((z_w (x1 * 6)) + x2))) ≤ (M ((M 289 6) + 6) (z_w ((z_w (x1 * 6)) + (M 290 x1)))))) → ((M 290 x2) ≠ (-1)) → 0 ≤ (z_w ((z_w (x2 * 6)) + (M 290 x2))) ∧ (z_w ((z_w (x2 * 6)) + (M 290 x2))) < 36)
    (l3 : (¬ (s0 = 0)) → ((M 290 x1) ≠ (-1)) → (¬ ((M ((M 289 6) + 6) (z_w ((z_w (x1 * 6)) + x2))) ≤ (M ((M 289 6) + 6) (z_w ((z_w (x1 * 6)) + (M 290 x1)))))) → ((M 290 x2) ≠ (-1)) → ((M ((M 289 6) + 6) (z_w ((z_w (x2 * 6)) + x1))) ≤ (M ((M 289 6) + 6) (z_w ((z_w (x2 * 6)) + (M 290 x2))))) → wp xs (d + 2) mX3_isCalm 17 [(2, 289), (0, x1), (0, (z_w (x2 + 1)))] [] z_LL M P)
    (l4 : (¬ (s0 = 0)) → ((M 290 x1) ≠ (-1)) → (¬ ((M ((M 289 6) + 6) (z_w ((z_w (x1 * 6)) + x2))) ≤ (M ((M 289 6) + 6) (z_w ((z_w (x1 * 6)) + (M 290 x1)))))) → ((M 290 x2) ≠ (-1)) → (¬ ((M ((M 289 6) + 6) (z_w ((z_w (x2 * 6)) + x1))) ≤ (M ((M 289 6) + 6) (z_w ((z_w (x2 * 6)) + (M 290 x2)))))) → P (some (0, 0)) z_LL M)
    (l5 : (¬ (s0 = 0)) → ((M 290 x1) ≠ (-1)) → (¬ ((M ((M 289 6) + 6) (z_w ((z_w (x1 * 6)) + x2))) ≤ (M ((M 289 6) + 6) (z_w ((z_w (x1 * 6)) + (M 290 x1)))))) → (¬ ((M 290 x2) ≠ (-1))) → ((M ((M 289 6) + 6) (z_w ((z_w (x2 * 6)) + x1))) ≤ 0) → wp xs (d + 2) mX3_isCalm 17 [(2, 289), (0, x1), (0, (z_w (x2 + 1)))] [] z_LL M P)
    (l6 : (¬ (s0 = 0)) → ((M 290 x1) ≠ (-1)) → (¬ ((M ((M 289 6) + 6) (z_w ((z_w (x1 * 6)) + x2))) ≤ (M ((M 289 6) + 6) (z_w ((z_w (x1 * 6)) + (M 290 x1)))))) → (¬ ((M 290 x2) ≠ (-1))) → (¬ ((M ((M 289 6) + 6) (z_w ((z_w (x2 * 6)) + x1))) ≤ 0)) → P (some (0, 0)) z_LL M)
    (l7 : (¬ (s0 = 0)) → (¬ ((M 290 x1) ≠ (-1))) → ((M ((M 289 6) + 6) (z_w ((z_w (x1 * 6)) + x2))) ≤ 0) → wp xs (d + 2) mX3_isCalm 17 [(2, 289), (0, x1), (0, (z_w (x2 + 1)))] [] z_LL M P)
    (b7 : (¬ (s0 = 0)) → (¬ ((M 290 x1) ≠ (-1))) → (¬ ((M ((M 289 6) + 6) (z_w ((z_w (x1 * 6)) + x2))) ≤ 0)) → 0 ≤ (z_w ((z_w (x2 * 6)) + x1)) ∧ (z_w ((z_w (x2 * 6)) + x1)) < 36)
    (b8 : (¬ (s0 = 0)) → (¬ ((M 290 x1) ≠ (-1))) → (¬ ((M ((M 289 6) + 6) (z_w ((z_w (x1 * 6)) + x2))) ≤ 0)) → 0 ≤ x2 ∧ x2 < 6)
    (b9 : (¬ (s0 = 0)) → (¬ ((M 290 x1) ≠ (-1))) → (¬ ((M ((M 289 6) + 6) (z_w ((z_w (x1 * 6)) + x2))) ≤ 0)) → ((M 290 x2) ≠ (-1)) → 0 ≤ (z_w ((z_w (x2 * 6)) + (M 290 x2))) ∧ (z_w ((z_w (x2 * 6)) + (M 290 x2))) < 36)
    (l8 : (¬ (s0 = 0)) → (¬ ((M 290 x1) ≠ (-1))) → (¬ ((M ((M 289 6) + 6) (z_w ((z_w (x1 * 6)) + x2))) ≤ 0)) → ((M 290 x2) ≠ (-1)) → ((M ((M 289 6) + 6) (z_w ((z_w (x2 * 6)) + x1))) ≤ (M ((M 289 6) + 6) (z_w ((z_w (x2 * 6)) + (M 290 x2))))) → wp xs (d + 2) mX3_isCalm 17 [(2, 289), (0, x1), (0, (z_w (x2 + 1)))] [] z_LL M P)
    (l9 : (¬ (s0 = 0)) → (¬ ((M 290 x1) ≠ (-1))) → (¬ ((M ((M 289 6) + 6) (z_w ((z_w (x1 * 6)) + x2))) ≤ 0)) → ((M 290 x2) ≠ (-1)) → (¬ ((M ((M 289 6) + 6) (z_w ((z_w (x2 * 6)) + x1))) ≤ (M ((M 289 6) + 6) (z_w ((z_w (x2 * 6)) + (M 290 x2)))))) → P (some (0, 0)) z_LL M)
    (l10 : (¬ (s0 = 0)) → (¬ ((M 290 x1) ≠ (-1))) → (¬ ((M ((M 289 6) + 6) (z_w ((z_w (x1 * 6)) + x2))) ≤ 0)) → (¬ ((M 290 x2) ≠ (-1))) → ((M ((M 289 6) + 6) (z_w ((z_w (x2 * 6)) + x1))) ≤ 0) → wp xs (d + 2) mX3_isCalm 17 [(2, 289), (0, x1), (0, (z_w (x2 + 1)))] [] z_LL M P)
    (l11 : (¬ (s0 = 0)) → (¬ ((M 290 x1) ≠ (-1))) → (¬ ((M ((M 289 6) + 6) (z_w ((z_w (x1 * 6)) + x2))) ≤ 0)) → (¬ ((M 290 x2) ≠ (-1))) → (¬ ((M ((M 289 6) + 6) (z_w ((z_w (x2 * 6)) + x1))) ≤ 0)) → P (some (0, 0)) z_LL M) :
    wp xs (d + 2) mX3_isCalm 37 [(2, 289), (0, x1), (0, x2)] [(0, s0)] z_LL M P := by
  refine wp_if1 rfl rfl rfl (fun (c1 : s0 = 0) => ?_) (fun (c1 : ¬ (s0 = 0)) => ?_)
  · refine wp_run 2 (pc' := 17) (ls' := [(2, 289), (0, x1), (0, (z_w (x2 + 1)))]) (st' := []) rfl ?_
    exact l1 c1
  · refine wp_run 1 (pc' := 41) (ls' := [(2, 289), (0, x1), (0, x2)]) (st' := [(2, 289)]) rfl ?_
    refine wp_gf (pc' := 44) (t := 2) (v := (M 289 6)) rfl rfl (by decide) rfl rfl rfl ?_
    refine wp_run 2 (pc' := 46) (ls' := [(2, 289), (0, x1), (0, x2)]) (st' := [(0, x2), (0, x1), (2, (M 289 6))]) rfl ?_
    refine wp_callv (pc' := 49) (as := [(2, (M 289 6)), (0, x1), (0, x2)]) (rest := []) (ls1 := [(2, (M 289 6)), (0, x1), (0, x2)]) rfl rfl rfl rfl (z_args_v rfl rfl rfl rfl (Nat.le_of_ble_eq_true rfl) rfl (by decide) (z_gl0 hg1)) rfl ?_
    refine wp_run 1 (pc' := 1) (ls' := [(2, (M 289 6)), (0, x1), (0, x2)]) (st' := [(2, (M 289 6))]) rfl ?_
    refine wp_gf (pc' := 4) (t := 2) (v := ((M 289 6) + 6)) rfl rfl (by decide) rfl (z_gl0 hg1) (z_gf5 hg1) ?_
    refine wp_run 5 (pc' := 10) (ls' := [(2, (M 289 6)), (0, x1), (0, x2)]) (st' := [(0, (z_w ((z_w (x1 * 6)) + x2))), (2, ((M 289 6) + 6))]) rfl ?_
    refine wp_iald (pc' := 11) (v := (M ((M 289 6) + 6) (z_w ((z_w (x1 * 6)) + x2)))) rfl rfl (z_gl6 hg1) (b1 c1) rfl ?_
    refine wp_ret rfl rfl ?_
    show wp xs _ mX3_isCalm 49 [(2, 289), (0, x1), (0, x2)] [(0, (M ((M 289 6) + 6) (z_w ((z_w (x1 * 6)) + x2))))] z_LL M _
    refine wp_run 2 (pc' := 51) (ls' := [(2, 289), (0, x1), (0, x2)]) (st' := [(0, x1), (2, 289), (0, (M ((M 289 6) + 6) (z_w ((z_w (x1 * 6)) + x2))))]) rfl ?_
    refine wp_callv (pc' := 54) (as := [(2, 289), (0, x1)]) (rest := [(0, (M ((M 289 6) + 6) (z_w ((z_w (x1 * 6)) + x2))))]) (ls1 := [(2, 289), (0, x1)]) rfl rfl rfl rfl rfl rfl ?_
    refine wp_run 1 (pc' := 1) (ls' := [(2, 289), (0, x1)]) (st' := [(2, 289)]) rfl ?_
    refine wp_gf (pc' := 4) (t := 2) (v := 290) rfl rfl (by decide) rfl rfl (fx_289_0 hF) ?_
    refine wp_run 1 (pc' := 5) (ls' := [(2, 289), (0, x1)]) (st' := [(0, x1), (2, 290)]) rfl ?_
    refine wp_iald (pc' := 6) (v := (M 290 x1)) rfl rfl rfl (b2 c1) rfl ?_
    refine wp_run 1 (pc' := 7) (ls' := [(2, 289), (0, x1)]) (st' := [(0, (-1)), (0, (M 290 x1))]) rfl ?_
    refine wp_if2 rfl rfl rfl (fun (c2 : (M 290 x1) ≠ (-1)) => ?_) (fun (c2 : ¬ ((M 290 x1) ≠ (-1))) => ?_)
    · refine wp_run 1 (pc' := 15) (ls' := [(2, 289), (0, x1)]) (st' := [(2, 289)]) rfl ?_
      refine wp_gf (pc' := 18) (t := 2) (v := (M 289 6)) rfl rfl (by decide) rfl rfl rfl ?_
      refine wp_run 2 (pc' := 20) (ls' := [(2, 289), (0, x1)]) (st' := [(2, 289), (0, x1), (2, (M 289 6))]) rfl ?_
      refine wp_gf (pc' := 23) (t := 2) (v := 290) rfl rfl (by decide) rfl rfl (fx_289_0 hF) ?_
      refine wp_run 1 (pc' := 24) (ls' := [(2, 289), (0, x1)]) (st' := [(0, x1), (2, 290), (0, x1), (2, (M 289 6))]) rfl ?_
      refine wp_iald (pc' := 25) (v := (M 290 x1)) rfl rfl rfl (b2 c1) rfl ?_
      refine wp_callv (pc' := 28) (as := [(2, (M 289 6)), (0, x1), (0, (M 290 x1))]) (rest := []) (ls1 := [(2, (M 289 6)), (0, x1), (0, (M 290 x1))]) rfl rfl rfl rfl (z_args_v rfl rfl rfl rfl (Nat.le_of_ble_eq_true rfl) rfl (by decide) (z_gl0 hg1)) rfl ?_
      refine wp_run 1 (pc' := 1) (ls' := [(2, (M 289 6)), (0, x1), (0, (M 290 x1))]) (st' := [(2, (M 289 6))]) rfl ?_
      refine wp_gf (pc' := 4) (t := 2) (v := ((M 289 6) + 6)) rfl rfl (by decide) rfl (z_gl0 hg1) (z_gf5 hg1) ?_
      refine wp_run 5 (pc' := 10) (ls' := [(2, (M 289 6)), (0, x1), (0, (M 290 x1))]) (st' := [(0, (z_w ((z_w (x1 * 6)) + (M 290 x1)))), (2, ((M 289 6) + 6))]) rfl ?_
      refine wp_iald (pc' := 11) (v := (M ((M 289 6) + 6) (z_w ((z_w (x1 * 6)) + (M 290 x1))))) rfl rfl (z_gl6 hg1) (b3 c1 c2) rfl ?_
      refine wp_ret rfl rfl ?_
      show wp xs _ mX3_has 28 [(2, 289), (0, x1)] [(0, (M ((M 289 6) + 6) (z_w ((z_w (x1 * 6)) + (M 290 x1)))))] z_LL M _
      refine wp_ret rfl rfl ?_
      show wp xs _ mX3_isCalm 54 [(2, 289), (0, x1), (0, x2)] [(0, (M ((M 289 6) + 6) (z_w ((z_w (x1 * 6)) + (M 290 x1))))), (0, (M ((M 289 6) + 6) (z_w ((z_w (x1 * 6)) + x2))))] z_LL M _
      refine wp_if2 rfl rfl rfl (fun (c3 : (M ((M 289 6) + 6) (z_w ((z_w (x1 * 6)) + x2))) ≤ (M ((M 289 6) + 6) (z_w ((z_w (x1 * 6)) + (M 290 x1))))) => ?_) (fun (c3 : ¬ ((M ((M 289 6) + 6) (z_w ((z_w (x1 * 6)) + x2))) ≤ (M ((M 289 6) + 6) (z_w ((z_w (x1 * 6)) + (M 290 x1)))))) => ?_)
      · refine wp_run 2 (pc' := 17) (ls' := [(2, 289), (0, x1), (0, (z_w (x2 + 1)))]) (st' := []) rfl ?_
        exact l2 c1 c2 c3
      · refine wp_run 1 (pc' := 58) (ls' := [(2, 289), (0, x1), (0, x2)]) (st' := [(2, 289)]) rfl ?_
        refine wp_gf (pc' := 61) (t := 2) (v := (M 289 6)) rfl rfl (by decide) rfl rfl rfl ?_
        refine wp_run 2 (pc' := 63) (ls' := [(2, 289), (0, x1), (0, x2)]) (st' := [(0, x1), (0, x2), (2, (M 289 6))]) rfl ?_
        refine wp_callv (pc' := 66) (as := [(2, (M 289 6)), (0, x2), (0, x1)]) (rest := []) (ls1 := [(2, (M 289 6)), (0, x2), (0, x1)]) rfl rfl rfl rfl (z_args_v rfl rfl rfl rfl (Nat.le_of_ble_eq_true rfl) rfl (by decide) (z_gl0 hg1)) rfl ?_
        refine wp_run 1 (pc' := 1) (ls' := [(2, (M 289 6)), (0, x2), (0, x1)]) (st' := [(2, (M 289 6))]) rfl ?_
        refine wp_gf (pc' := 4) (t := 2) (v := ((M 289 6) + 6)) rfl rfl (by decide) rfl (z_gl0 hg1) (z_gf5 hg1) ?_
        refine wp_run 5 (pc' := 10) (ls' := [(2, (M 289 6)), (0, x2), (0, x1)]) (st' := [(0, (z_w ((z_w (x2 * 6)) + x1))), (2, ((M 289 6) + 6))]) rfl ?_
        refine wp_iald (pc' := 11) (v := (M ((M 289 6) + 6) (z_w ((z_w (x2 * 6)) + x1)))) rfl rfl (z_gl6 hg1) (b4 c1 c2 c3) rfl ?_
        refine wp_ret rfl rfl ?_
        show wp xs _ mX3_isCalm 66 [(2, 289), (0, x1), (0, x2)] [(0, (M ((M 289 6) + 6) (z_w ((z_w (x2 * 6)) + x1))))] z_LL M _
        refine wp_run 2 (pc' := 68) (ls' := [(2, 289), (0, x1), (0, x2)]) (st' := [(0, x2), (2, 289), (0, (M ((M 289 6) + 6) (z_w ((z_w (x2 * 6)) + x1))))]) rfl ?_
        refine wp_callv (pc' := 71) (as := [(2, 289), (0, x2)]) (rest := [(0, (M ((M 289 6) + 6) (z_w ((z_w (x2 * 6)) + x1))))]) (ls1 := [(2, 289), (0, x2)]) rfl rfl rfl rfl rfl rfl ?_
        refine wp_run 1 (pc' := 1) (ls' := [(2, 289), (0, x2)]) (st' := [(2, 289)]) rfl ?_
        refine wp_gf (pc' := 4) (t := 2) (v := 290) rfl rfl (by decide) rfl rfl (fx_289_0 hF) ?_
        refine wp_run 1 (pc' := 5) (ls' := [(2, 289), (0, x2)]) (st' := [(0, x2), (2, 290)]) rfl ?_
        refine wp_iald (pc' := 6) (v := (M 290 x2)) rfl rfl rfl (b5 c1 c2 c3) rfl ?_
        refine wp_run 1 (pc' := 7) (ls' := [(2, 289), (0, x2)]) (st' := [(0, (-1)), (0, (M 290 x2))]) rfl ?_
        refine wp_if2 rfl rfl rfl (fun (c4 : (M 290 x2) ≠ (-1)) => ?_) (fun (c4 : ¬ ((M 290 x2) ≠ (-1))) => ?_)
        · refine wp_run 1 (pc' := 15) (ls' := [(2, 289), (0, x2)]) (st' := [(2, 289)]) rfl ?_
          refine wp_gf (pc' := 18) (t := 2) (v := (M 289 6)) rfl rfl (by decide) rfl rfl rfl ?_
          refine wp_run 2 (pc' := 20) (ls' := [(2, 289), (0, x2)]) (st' := [(2, 289), (0, x2), (2, (M 289 6))]) rfl ?_
          refine wp_gf (pc' := 23) (t := 2) (v := 290) rfl rfl (by decide) rfl rfl (fx_289_0 hF) ?_
          refine wp_run 1 (pc' := 24) (ls' := [(2, 289), (0, x2)]) (st' := [(0, x2), (2, 290), (0, x2), (2, (M 289 6))]) rfl ?_
          refine wp_iald (pc' := 25) (v := (M 290 x2)) rfl rfl rfl (b5 c1 c2 c3) rfl ?_
          refine wp_callv (pc' := 28) (as := [(2, (M 289 6)), (0, x2), (0, (M 290 x2))]) (rest := []) (ls1 := [(2, (M 289 6)), (0, x2), (0, (M 290 x2))]) rfl rfl rfl rfl (z_args_v rfl rfl rfl rfl (Nat.le_of_ble_eq_true rfl) rfl (by decide) (z_gl0 hg1)) rfl ?_
          refine wp_run 1 (pc' := 1) (ls' := [(2, (M 289 6)), (0, x2), (0, (M 290 x2))]) (st' := [(2, (M 289 6))]) rfl ?_
          refine wp_gf (pc' := 4) (t := 2) (v := ((M 289 6) + 6)) rfl rfl (by decide) rfl (z_gl0 hg1) (z_gf5 hg1) ?_
          refine wp_run 5 (pc' := 10) (ls' := [(2, (M 289 6)), (0, x2), (0, (M 290 x2))]) (st' := [(0, (z_w ((z_w (x2 * 6)) + (M 290 x2)))), (2, ((M 289 6) + 6))]) rfl ?_
          refine wp_iald (pc' := 11) (v := (M ((M 289 6) + 6) (z_w ((z_w (x2 * 6)) + (M 290 x2))))) rfl rfl (z_gl6 hg1) (b6 c1 c2 c3 c4) rfl ?_
          refine wp_ret rfl rfl ?_
          show wp xs _ mX3_has 28 [(2, 289), (0, x2)] [(0, (M ((M 289 6) + 6) (z_w ((z_w (x2 * 6)) + (M 290 x2)))))] z_LL M _
          refine wp_ret rfl rfl ?_
          show wp xs _ mX3_isCalm 71 [(2, 289), (0, x1), (0, x2)] [(0, (M ((M 289 6) + 6) (z_w ((z_w (x2 * 6)) + (M 290 x2))))), (0, (M ((M 289 6) + 6) (z_w ((z_w (x2 * 6)) + x1))))] z_LL M _
          refine wp_if2 rfl rfl rfl (fun (c5 : (M ((M 289 6) + 6) (z_w ((z_w (x2 * 6)) + x1))) ≤ (M ((M 289 6) + 6) (z_w ((z_w (x2 * 6)) + (M 290 x2))))) => ?_) (fun (c5 : ¬ ((M ((M 289 6) + 6) (z_w ((z_w (x2 * 6)) + x1))) ≤ (M ((M 289 6) + 6) (z_w ((z_w (x2 * 6)) + (M 290 x2)))))) => ?_)
          · refine wp_run 2 (pc' := 17) (ls' := [(2, 289), (0, x1), (0, (z_w (x2 + 1)))]) (st' := []) rfl ?_
            exact l3 c1 c2 c3 c4 c5
          · refine wp_run 1 (pc' := 75) (ls' := [(2, 289), (0, x1), (0, x2)]) (st' := [(0, 0)]) rfl ?_
            exact wp_ret rfl rfl (l4 c1 c2 c3 c4 c5)
        · refine wp_run 2 (pc' := 28) (ls' := [(2, 289), (0, x2)]) (st' := [(0, 0)]) rfl ?_
          refine wp_ret rfl rfl ?_
          show wp xs _ mX3_isCalm 71 [(2, 289), (0, x1), (0, x2)] [(0, 0), (0, (M ((M 289 6) + 6) (z_w ((z_w (x2 * 6)) + x1))))] z_LL M _
          refine wp_if2 rfl rfl rfl (fun (c6 : (M ((M 289 6) + 6) (z_w ((z_w (x2 * 6)) + x1))) ≤ 0) => ?_) (fun (c6 : ¬ ((M ((M 289 6) + 6) (z_w ((z_w (x2 * 6)) + x1))) ≤ 0)) => ?_)
          · refine wp_run 2 (pc' := 17) (ls' := [(2, 289), (0, x1), (0, (z_w (x2 + 1)))]) (st' := []) rfl ?_
            exact l5 c1 c2 c3 c4 c6
          · refine wp_run 1 (pc' := 75) (ls' := [(2, 289), (0, x1), (0, x2)]) (st' := [(0, 0)]) rfl ?_
            exact wp_ret rfl rfl (l6 c1 c2 c3 c4 c6)
    · refine wp_run 2 (pc' := 28) (ls' := [(2, 289), (0, x1)]) (st' := [(0, 0)]) rfl ?_
      refine wp_ret rfl rfl ?_
      show wp xs _ mX3_isCalm 54 [(2, 289), (0, x1), (0, x2)] [(0, 0), (0, (M ((M 289 6) + 6) (z_w ((z_w (x1 * 6)) + x2))))] z_LL M _
      refine wp_if2 rfl rfl rfl (fun (c7 : (M ((M 289 6) + 6) (z_w ((z_w (x1 * 6)) + x2))) ≤ 0) => ?_) (fun (c7 : ¬ ((M ((M 289 6) + 6) (z_w ((z_w (x1 * 6)) + x2))) ≤ 0)) => ?_)
      · refine wp_run 2 (pc' := 17) (ls' := [(2, 289), (0, x1), (0, (z_w (x2 + 1)))]) (st' := []) rfl ?_
        exact l7 c1 c2 c7
      · refine wp_run 1 (pc' := 58) (ls' := [(2, 289), (0, x1), (0, x2)]) (st' := [(2, 289)]) rfl ?_
        refine wp_gf (pc' := 61) (t := 2) (v := (M 289 6)) rfl rfl (by decide) rfl rfl rfl ?_
        refine wp_run 2 (pc' := 63) (ls' := [(2, 289), (0, x1), (0, x2)]) (st' := [(0, x1), (0, x2), (2, (M 289 6))]) rfl ?_
        refine wp_callv (pc' := 66) (as := [(2, (M 289 6)), (0, x2), (0, x1)]) (rest := []) (ls1 := [(2, (M 289 6)), (0, x2), (0, x1)]) rfl rfl rfl rfl (z_args_v rfl rfl rfl rfl (Nat.le_of_ble_eq_true rfl) rfl (by decide) (z_gl0 hg1)) rfl ?_
        refine wp_run 1 (pc' := 1) (ls' := [(2, (M 289 6)), (0, x2), (0, x1)]) (st' := [(2, (M 289 6))]) rfl ?_
        refine wp_gf (pc' := 4) (t := 2) (v := ((M 289 6) + 6)) rfl rfl (by decide) rfl (z_gl0 hg1) (z_gf5 hg1) ?_
        refine wp_run 5 (pc' := 10) (ls' := [(2, (M 289 6)), (0, x2), (0, x1)]) (st' := [(0, (z_w ((z_w (x2 * 6)) + x1))), (2, ((M 289 6) + 6))]) rfl ?_
        refine wp_iald (pc' := 11) (v := (M ((M 289 6) + 6) (z_w ((z_w (x2 * 6)) + x1)))) rfl rfl (z_gl6 hg1) (b7 c1 c2 c7) rfl ?_
        refine wp_ret rfl rfl ?_
        show wp xs _ mX3_isCalm 66 [(2, 289), (0, x1), (0, x2)] [(0, (M ((M 289 6) + 6) (z_w ((z_w (x2 * 6)) + x1))))] z_LL M _
        refine wp_run 2 (pc' := 68) (ls' := [(2, 289), (0, x1), (0, x2)]) (st' := [(0, x2), (2, 289), (0, (M ((M 289 6) + 6) (z_w ((z_w (x2 * 6)) + x1))))]) rfl ?_
        refine wp_callv (pc' := 71) (as := [(2, 289), (0, x2)]) (rest := [(0, (M ((M 289 6) + 6) (z_w ((z_w (x2 * 6)) + x1))))]) (ls1 := [(2, 289), (0, x2)]) rfl rfl rfl rfl rfl rfl ?_
        refine wp_run 1 (pc' := 1) (ls' := [(2, 289), (0, x2)]) (st' := [(2, 289)]) rfl ?_
        refine wp_gf (pc' := 4) (t := 2) (v := 290) rfl rfl (by decide) rfl rfl (fx_289_0 hF) ?_
        refine wp_run 1 (pc' := 5) (ls' := [(2, 289), (0, x2)]) (st' := [(0, x2), (2, 290)]) rfl ?_
        refine wp_iald (pc' := 6) (v := (M 290 x2)) rfl rfl rfl (b8 c1 c2 c7) rfl ?_
        refine wp_run 1 (pc' := 7) (ls' := [(2, 289), (0, x2)]) (st' := [(0, (-1)), (0, (M 290 x2))]) rfl ?_
        refine wp_if2 rfl rfl rfl (fun (c8 : (M 290 x2) ≠ (-1)) => ?_) (fun (c8 : ¬ ((M 290 x2) ≠ (-1))) => ?_)
        · refine wp_run 1 (pc' := 15) (ls' := [(2, 289), (0, x2)]) (st' := [(2, 289)]) rfl ?_
          refine wp_gf (pc' := 18) (t := 2) (v := (M 289 6)) rfl rfl (by decide) rfl rfl rfl ?_
          refine wp_run 2 (pc' := 20) (ls' := [(2, 289), (0, x2)]) (st' := [(2, 289), (0, x2), (2, (M 289 6))]) rfl ?_
          refine wp_gf (pc' := 23) (t := 2) (v := 290) rfl rfl (by decide) rfl rfl (fx_289_0 hF) ?_
          refine wp_run 1 (pc' := 24) (ls' := [(2, 289), (0, x2)]) (st' := [(0, x2), (2, 290), (0, x2), (2, (M 289 6))]) rfl ?_
          refine wp_iald (pc' := 25) (v := (M 290 x2)) rfl rfl rfl (b8 c1 c2 c7) rfl ?_
          refine wp_callv (pc' := 28) (as := [(2, (M 289 6)), (0, x2), (0, (M 290 x2))]) (rest := []) (ls1 := [(2, (M 289 6)), (0, x2), (0, (M 290 x2))]) rfl rfl rfl rfl (z_args_v rfl rfl rfl rfl (Nat.le_of_ble_eq_true rfl) rfl (by decide) (z_gl0 hg1)) rfl ?_
          refine wp_run 1 (pc' := 1) (ls' := [(2, (M 289 6)), (0, x2), (0, (M 290 x2))]) (st' := [(2, (M 289 6))]) rfl ?_
          refine wp_gf (pc' := 4) (t := 2) (v := ((M 289 6) + 6)) rfl rfl (by decide) rfl (z_gl0 hg1) (z_gf5 hg1) ?_
          refine wp_run 5 (pc' := 10) (ls' := [(2, (M 289 6)), (0, x2), (0, (M 290 x2))]) (st' := [(0, (z_w ((z_w (x2 * 6)) + (M 290 x2)))), (2, ((M 289 6) + 6))]) rfl ?_
          refine wp_iald (pc' := 11) (v := (M ((M 289 6) + 6) (z_w ((z_w (x2 * 6)) + (M 290 x2))))) rfl rfl (z_gl6 hg1) (b9 c1 c2 c7 c8) rfl ?_
          refine wp_ret rfl rfl ?_
          show wp xs _ mX3_has 28 [(2, 289), (0, x2)] [(0, (M ((M 289 6) + 6) (z_w ((z_w (x2 * 6)) + (M 290 x2)))))] z_LL M _
          refine wp_ret rfl rfl ?_
          show wp xs _ mX3_isCalm 71 [(2, 289), (0, x1), (0, x2)] [(0, (M ((M 289 6) + 6) (z_w ((z_w (x2 * 6)) + (M 290 x2))))), (0, (M ((M 289 6) + 6) (z_w ((z_w (x2 * 6)) + x1))))] z_LL M _
          refine wp_if2 rfl rfl rfl (fun (c9 : (M ((M 289 6) + 6) (z_w ((z_w (x2 * 6)) + x1))) ≤ (M ((M 289 6) + 6) (z_w ((z_w (x2 * 6)) + (M 290 x2))))) => ?_) (fun (c9 : ¬ ((M ((M 289 6) + 6) (z_w ((z_w (x2 * 6)) + x1))) ≤ (M ((M 289 6) + 6) (z_w ((z_w (x2 * 6)) + (M 290 x2)))))) => ?_)
          · refine wp_run 2 (pc' := 17) (ls' := [(2, 289), (0, x1), (0, (z_w (x2 + 1)))]) (st' := []) rfl ?_
            exact l8 c1 c2 c7 c8 c9
          · refine wp_run 1 (pc' := 75) (ls' := [(2, 289), (0, x1), (0, x2)]) (st' := [(0, 0)]) rfl ?_
            exact wp_ret rfl rfl (l9 c1 c2 c7 c8 c9)
        · refine wp_run 2 (pc' := 28) (ls' := [(2, 289), (0, x2)]) (st' := [(0, 0)]) rfl ?_
          refine wp_ret rfl rfl ?_
          show wp xs _ mX3_isCalm 71 [(2, 289), (0, x1), (0, x2)] [(0, 0), (0, (M ((M 289 6) + 6) (z_w ((z_w (x2 * 6)) + x1))))] z_LL M _
          refine wp_if2 rfl rfl rfl (fun (c10 : (M ((M 289 6) + 6) (z_w ((z_w (x2 * 6)) + x1))) ≤ 0) => ?_) (fun (c10 : ¬ ((M ((M 289 6) + 6) (z_w ((z_w (x2 * 6)) + x1))) ≤ 0)) => ?_)
          · refine wp_run 2 (pc' := 17) (ls' := [(2, 289), (0, x1), (0, (z_w (x2 + 1)))]) (st' := []) rfl ?_
            exact l10 c1 c2 c7 c8 c10
          · refine wp_run 1 (pc' := 75) (ls' := [(2, 289), (0, x1), (0, x2)]) (st' := [(0, 0)]) rfl ?_
            exact wp_ret rfl rfl (l11 c1 c2 c7 c8 c10)
set_option maxRecDepth 20000 in
theorem gX3_note_0 {xs : List Int} {d : Nat} {M : z_M} {P : Option z_V → z_L → z_M → Prop} 
    (l1 : wp xs d mX3_note 4 [(2, 289), (0, 0), (0, 0), (3, 0)] [] z_LL M P) :
    wp xs d mX3_note 0 [(2, 289), (3, 0), (3, 0), (3, 0)] [] z_LL M P := by
  refine wp_run 4 (pc' := 4) (ls' := [(2, 289), (0, 0), (0, 0), (3, 0)]) (st' := []) rfl ?_
  exact l1
set_option maxRecDepth 20000 in
theorem gX3_note_4 {xs : List Int} {d : Nat} {M : z_M} {P : Option z_V → z_L → z_M → Prop} {x1 : Int} {x2 : Int} {w3 : z_V} (hF : z_fix M) (hg1 : z_gor M (M 289 6))
    (l1 : ((M (M 289 6) 12) ≤ x2) → ((M 289 4) ≠ 0) → (x1 ≤ (M 289 5)) → P none z_LL (z_up M 289 4 (z_w ((M 289 4) + 1))))
    (l2 : ((M (M 289 6) 12) ≤ x2) → ((M 289 4) ≠ 0) → (¬ (x1 ≤ (M 289 5))) → P none z_LL (z_up (z_cpy (z_up M 289 5 x1) 290 0 292 0 6) 289 4 (z_w ((M 289 4) + 1))))
    (l3 : ((M (M 289 6) 12) ≤ x2) → (¬ ((M 289 4) ≠ 0)) → (x1 ≤ (M 289 5)) → P none z_LL (z_up (z_cpy M 290 0 291 0 6) 289 4 (z_w ((M 289 4) + 1))))
    (l4 : ((M (M 289 6) 12) ≤ x2) → (¬ ((M 289 4) ≠ 0)) → (¬ (x1 ≤ (M 289 5))) → P none z_LL (z_up (z_cpy (z_up (z_cpy M 290 0 291 0 6) 289 5 x1) 290 0 292 0 6) 289 4 (z_w ((M 289 4) + 1))))
    (b1 : (¬ ((M (M 289 6) 12) ≤ x2)) → 0 ≤ x2 ∧ x2 < 6)
    (b2 : (¬ ((M (M 289 6) 12) ≤ x2)) → ((M 290 x2) ≠ (-1)) → 0 ≤ (z_w ((z_w (x2 * 6)) + (M 290 x2))) ∧ (z_w ((z_w (x2 * 6)) + (M 290 x2))) < 36)
    (l5 : (¬ ((M (M 289 6) 12) ≤ x2)) → ((M 290 x2) ≠ (-1)) → wp xs (d + 2) mX3_note 4 [(2, 289), (0, (z_w (x1 + (M ((M 289 6) + 6) (z_w ((z_w (x2 * 6)) + (M 290 x2))))))), (0, (z_w (x2 + 1))), (0, (M ((M 289 6) + 6) (z_w ((z_w (x2 * 6)) + (M 290 x2)))))] [] z_LL (z_up M 293 x2 (z_max (M 293 x2) (M ((M 289 6) + 6) (z_w ((z_w (x2 * 6)) + (M 290 x2)))))) P)
    (l6 : (¬ ((M (M 289 6) 12) ≤ x2)) → (¬ ((M 290 x2) ≠ (-1))) → wp xs (d + 2) mX3_note 4 [(2, 289), (0, (z_w (x1 + 0))), (0, (z_w (x2 + 1))), (0, 0)] [] z_LL (z_up M 293 x2 (z_max (M 293 x2) 0)) P) :
    wp xs (d + 2) mX3_note 4 [(2, 289), (0, x1), (0, x2), w3] [] z_LL M P := by
  refine wp_run 2 (pc' := 6) (ls' := [(2, 289), (0, x1), (0, x2), w3]) (st' := [(2, 289), (0, x2)]) rfl ?_
  refine wp_gf (pc' := 9) (t := 2) (v := (M 289 6)) rfl rfl (by decide) rfl rfl rfl ?_
  refine wp_gf (pc' := 12) (t := 0) (v := (M (M 289 6) 12)) rfl rfl (by decide) rfl (z_gl0 hg1) rfl ?_
  refine wp_if2 rfl rfl rfl (fun (c1 : (M (M 289 6) 12) ≤ x2) => ?_) (fun (c1 : ¬ ((M (M 289 6) 12) ≤ x2)) => ?_)
  · refine wp_run 1 (pc' := 48) (ls' := [(2, 289), (0, x1), (0, x2), w3]) (st' := [(2, 289)]) rfl ?_
    refine wp_gf (pc' := 51) (t := 0) (v := (M 289 4)) rfl rfl (by decide) rfl rfl rfl ?_
    refine wp_if1 rfl rfl rfl (fun (c2 : (M 289 4) ≠ 0) => ?_) (fun (c2 : ¬ ((M 289 4) ≠ 0)) => ?_)
    · refine wp_run 2 (pc' := 71) (ls' := [(2, 289), (0, x1), (0, x2), w3]) (st' := [(2, 289), (0, x1)]) rfl ?_
      refine wp_gf (pc' := 74) (t := 0) (v := (M 289 5)) rfl rfl (by decide) rfl rfl rfl ?_
      refine wp_if2 rfl rfl rfl (fun (c3 : x1 ≤ (M 289 5)) => ?_) (fun (c3 : ¬ (x1 ≤ (M 289 5))) => ?_)
      · refine wp_run 2 (pc' := 99) (ls' := [(2, 289), (0, x1), (0, x2), w3]) (st' := [(2, 289), (2, 289)]) rfl ?_
        refine wp_gf (pc' := 102) (t := 0) (v := (M 289 4)) rfl rfl (by decide) rfl rfl rfl ?_
        refine wp_run 2 (pc' := 104) (ls' := [(2, 289), (0, x1), (0, x2), w3]) (st' := [(0, (z_w ((M 289 4) + 1))), (2, 289)]) rfl ?_
        refine wp_pf (pc' := 107) rfl rfl rfl rfl (fun z => absurd z (by decide)) (fun z => absurd z (by decide)) ?_
        exact wp_ret rfl rfl (l1 c1 c2 c3)
      · refine wp_run 2 (pc' := 79) (ls' := [(2, 289), (0, x1), (0, x2), w3]) (st' := [(0, x1), (2, 289)]) rfl ?_
        refine wp_pf (pc' := 82) rfl rfl rfl rfl (fun z => absurd z (by decide)) (fun z => absurd z (by decide)) ?_
        refine wp_run 1 (pc' := 83) (ls' := [(2, 289), (0, x1), (0, x2), w3]) (st' := [(2, 289)]) rfl ?_
        refine wp_gf (pc' := 86) (t := 2) (v := 290) rfl rfl (by decide) rfl rfl (z_upi (by decide) (fx_289_0 hF)) ?_
        refine wp_run 2 (pc' := 88) (ls' := [(2, 289), (0, x1), (0, x2), w3]) (st' := [(2, 289), (0, 0), (2, 290)]) rfl ?_
        refine wp_gf (pc' := 91) (t := 2) (v := 292) rfl rfl (by decide) rfl rfl (z_upi (by decide) (fx_289_2 hF)) ?_
        refine wp_run 2 (pc' := 94) (ls' := [(2, 289), (0, x1), (0, x2), w3]) (st' := [(0, 6), (0, 0), (2, 292), (0, 0), (2, 290)]) rfl ?_
        refine wp_acp (pc' := 97) rfl rfl rfl rfl (by decide) ?_
        refine wp_run 2 (pc' := 99) (ls' := [(2, 289), (0, x1), (0, x2), w3]) (st' := [(2, 289), (2, 289)]) rfl ?_
        refine wp_gf (pc' := 102) (t := 0) (v := (M 289 4)) rfl rfl (by decide) rfl rfl (z_cpq (by decide) (z_upi (by decide) rfl)) ?_
        refine wp_run 2 (pc' := 104) (ls' := [(2, 289), (0, x1), (0, x2), w3]) (st' := [(0, (z_w ((M 289 4) + 1))), (2, 289)]) rfl ?_
        refine wp_pf (pc' := 107) rfl rfl rfl rfl (fun z => absurd z (by decide)) (fun z => absurd z (by decide)) ?_
        exact wp_ret rfl rfl (l2 c1 c2 c3)
    · refine wp_run 1 (pc' := 55) (ls' := [(2, 289), (0, x1), (0, x2), w3]) (st' := [(2, 289)]) rfl ?_
      refine wp_gf (pc' := 58) (t := 2) (v := 290) rfl rfl (by decide) rfl rfl (fx_289_0 hF) ?_
      refine wp_run 2 (pc' := 60) (ls' := [(2, 289), (0, x1), (0, x2), w3]) (st' := [(2, 289), (0, 0), (2, 290)]) rfl ?_
      refine wp_gf (pc' := 63) (t := 2) (v := 291) rfl rfl (by decide) rfl rfl (fx_289_1 hF) ?_
      refine wp_run 2 (pc' := 66) (ls' := [(2, 289), (0, x1), (0, x2), w3]) (st' := [(0, 6), (0, 0), (2, 291), (0, 0), (2, 290)]) rfl ?_
      refine wp_acp (pc' := 69) rfl rfl rfl rfl (by decide) ?_
      refine wp_run 2 (pc' := 71) (ls' := [(2, 289), (0, x1), (0, x2), w3]) (st' := [(2, 289), (0, x1)]) rfl ?_
      refine wp_gf (pc' := 74) (t := 0) (v := (M 289 5)) rfl rfl (by decide) rfl rfl (z_cpq (by decide) rfl) ?_
      refine wp_if2 rfl rfl rfl (fun (c4 : x1 ≤ (M 289 5)) => ?_) (fun (c4 : ¬ (x1 ≤ (M 289 5))) => ?_)
      · refine wp_run 2 (pc' := 99) (ls' := [(2, 289), (0, x1), (0, x2), w3]) (st' := [(2, 289), (2, 289)]) rfl ?_
        refine wp_gf (pc' := 102) (t := 0) (v := (M 289 4)) rfl rfl (by decide) rfl rfl (z_cpq (by decide) rfl) ?_
        refine wp_run 2 (pc' := 104) (ls' := [(2, 289), (0, x1), (0, x2), w3]) (st' := [(0, (z_w ((M 289 4) + 1))), (2, 289)]) rfl ?_
        refine wp_pf (pc' := 107) rfl rfl rfl rfl (fun z => absurd z (by decide)) (fun z => absurd z (by decide)) ?_
        exact wp_ret rfl rfl (l3 c1 c2 c4)
      · refine wp_run 2 (pc' := 79) (ls' := [(2, 289), (0, x1), (0, x2), w3]) (st' := [(0, x1), (2, 289)]) rfl ?_
        refine wp_pf (pc' := 82) rfl rfl rfl rfl (fun z => absurd z (by decide)) (fun z => absurd z (by decide)) ?_
        refine wp_run 1 (pc' := 83) (ls' := [(2, 289), (0, x1), (0, x2), w3]) (st' := [(2, 289)]) rfl ?_
        refine wp_gf (pc' := 86) (t := 2) (v := 290) rfl rfl (by decide) rfl rfl (z_upi (by decide) (z_cpq (by decide) (fx_289_0 hF))) ?_
        refine wp_run 2 (pc' := 88) (ls' := [(2, 289), (0, x1), (0, x2), w3]) (st' := [(2, 289), (0, 0), (2, 290)]) rfl ?_
        refine wp_gf (pc' := 91) (t := 2) (v := 292) rfl rfl (by decide) rfl rfl (z_upi (by decide) (z_cpq (by decide) (fx_289_2 hF))) ?_
        refine wp_run 2 (pc' := 94) (ls' := [(2, 289), (0, x1), (0, x2), w3]) (st' := [(0, 6), (0, 0), (2, 292), (0, 0), (2, 290)]) rfl ?_
        refine wp_acp (pc' := 97) rfl rfl rfl rfl (by decide) ?_
        refine wp_run 2 (pc' := 99) (ls' := [(2, 289), (0, x1), (0, x2), w3]) (st' := [(2, 289), (2, 289)]) rfl ?_
        refine wp_gf (pc' := 102) (t := 0) (v := (M 289 4)) rfl rfl (by decide) rfl rfl (z_cpq (by decide) (z_upi (by decide) (z_cpq (by decide) rfl))) ?_
        refine wp_run 2 (pc' := 104) (ls' := [(2, 289), (0, x1), (0, x2), w3]) (st' := [(0, (z_w ((M 289 4) + 1))), (2, 289)]) rfl ?_
        refine wp_pf (pc' := 107) rfl rfl rfl rfl (fun z => absurd z (by decide)) (fun z => absurd z (by decide)) ?_
        exact wp_ret rfl rfl (l4 c1 c2 c4)
  · refine wp_run 2 (pc' := 17) (ls' := [(2, 289), (0, x1), (0, x2), w3]) (st' := [(0, x2), (2, 289)]) rfl ?_
    refine wp_callv (pc' := 20) (as := [(2, 289), (0, x2)]) (rest := []) (ls1 := [(2, 289), (0, x2)]) rfl rfl rfl rfl rfl rfl ?_
    refine wp_run 1 (pc' := 1) (ls' := [(2, 289), (0, x2)]) (st' := [(2, 289)]) rfl ?_
    refine wp_gf (pc' := 4) (t := 2) (v := 290) rfl rfl (by decide) rfl rfl (fx_289_0 hF) ?_
    refine wp_run 1 (pc' := 5) (ls' := [(2, 289), (0, x2)]) (st' := [(0, x2), (2, 290)]) rfl ?_
    refine wp_iald (pc' := 6) (v := (M 290 x2)) rfl rfl rfl (b1 c1) rfl ?_
    refine wp_run 1 (pc' := 7) (ls' := [(2, 289), (0, x2)]) (st' := [(0, (-1)), (0, (M 290 x2))]) rfl ?_
    refine wp_if2 rfl rfl rfl (fun (c5 : (M 290 x2) ≠ (-1)) => ?_) (fun (c5 : ¬ ((M 290 x2) ≠ (-1))) => ?_)
    · refine wp_run 1 (pc' := 15) (ls' := [(2, 289), (0, x2)]) (st' := [(2, 289)]) rfl ?_
      refine wp_gf (pc' := 18) (t := 2) (v := (M 289 6)) rfl rfl (by decide) rfl rfl rfl ?_
      refine wp_run 2 (pc' := 20) (ls' := [(2, 289), (0, x2)]) (st' := [(2, 289), (0, x2), (2, (M 289 6))]) rfl ?_
      refine wp_gf (pc' := 23) (t := 2) (v := 290) rfl rfl (by decide) rfl rfl (fx_289_0 hF) ?_
      refine wp_run 1 (pc' := 24) (ls' := [(2, 289), (0, x2)]) (st' := [(0, x2), (2, 290), (0, x2), (2, (M 289 6))]) rfl ?_
      refine wp_iald (pc' := 25) (v := (M 290 x2)) rfl rfl rfl (b1 c1) rfl ?_
      refine wp_callv (pc' := 28) (as := [(2, (M 289 6)), (0, x2), (0, (M 290 x2))]) (rest := []) (ls1 := [(2, (M 289 6)), (0, x2), (0, (M 290 x2))]) rfl rfl rfl rfl (z_args_v rfl rfl rfl rfl (Nat.le_of_ble_eq_true rfl) rfl (by decide) (z_gl0 hg1)) rfl ?_
      refine wp_run 1 (pc' := 1) (ls' := [(2, (M 289 6)), (0, x2), (0, (M 290 x2))]) (st' := [(2, (M 289 6))]) rfl ?_
      refine wp_gf (pc' := 4) (t := 2) (v := ((M 289 6) + 6)) rfl rfl (by decide) rfl (z_gl0 hg1) (z_gf5 hg1) ?_
      refine wp_run 5 (pc' := 10) (ls' := [(2, (M 289 6)), (0, x2), (0, (M 290 x2))]) (st' := [(0, (z_w ((z_w (x2 * 6)) + (M 290 x2)))), (2, ((M 289 6) + 6))]) rfl ?_
      refine wp_iald (pc' := 11) (v := (M ((M 289 6) + 6) (z_w ((z_w (x2 * 6)) + (M 290 x2))))) rfl rfl (z_gl6 hg1) (b2 c1 c5) rfl ?_
      refine wp_ret rfl rfl ?_
      show wp xs _ mX3_has 28 [(2, 289), (0, x2)] [(0, (M ((M 289 6) + 6) (z_w ((z_w (x2 * 6)) + (M 290 x2)))))] z_LL M _
      refine wp_ret rfl rfl ?_
      show wp xs _ mX3_note 20 [(2, 289), (0, x1), (0, x2), w3] [(0, (M ((M 289 6) + 6) (z_w ((z_w (x2 * 6)) + (M 290 x2)))))] z_LL M _
      refine wp_run 6 (pc' := 26) (ls' := [(2, 289), (0, (z_w (x1 + (M ((M 289 6) + 6) (z_w ((z_w (x2 * 6)) + (M 290 x2))))))), (0, x2), (0, (M ((M 289 6) + 6) (z_w ((z_w (x2 * 6)) + (M 290 x2)))))]) (st' := [(2, 289)]) rfl ?_
      refine wp_gf (pc' := 29) (t := 2) (v := 293) rfl rfl (by decide) rfl rfl (fx_289_3 hF) ?_
      refine wp_run 2 (pc' := 31) (ls' := [(2, 289), (0, (z_w (x1 + (M ((M 289 6) + 6) (z_w ((z_w (x2 * 6)) + (M 290 x2))))))), (0, x2), (0, (M ((M 289 6) + 6) (z_w ((z_w (x2 * 6)) + (M 290 x2)))))]) (st' := [(2, 289), (0, x2), (2, 293)]) rfl ?_
      refine wp_gf (pc' := 34) (t := 2) (v := 293) rfl rfl (by decide) rfl rfl (fx_289_3 hF) ?_
      refine wp_run 1 (pc' := 35) (ls' := [(2, 289), (0, (z_w (x1 + (M ((M 289 6) + 6) (z_w ((z_w (x2 * 6)) + (M 290 x2))))))), (0, x2), (0, (M ((M 289 6) + 6) (z_w ((z_w (x2 * 6)) + (M 290 x2)))))]) (st' := [(0, x2), (2, 293), (0, x2), (2, 293)]) rfl ?_
      refine wp_iald (pc' := 36) (v := (M 293 x2)) rfl rfl rfl (b1 c1) rfl ?_
      refine wp_run 1 (pc' := 37) (ls' := [(2, 289), (0, (z_w (x1 + (M ((M 289 6) + 6) (z_w ((z_w (x2 * 6)) + (M 290 x2))))))), (0, x2), (0, (M ((M 289 6) + 6) (z_w ((z_w (x2 * 6)) + (M 290 x2)))))]) (st' := [(0, (M ((M 289 6) + 6) (z_w ((z_w (x2 * 6)) + (M 290 x2))))), (0, (M 293 x2)), (0, x2), (2, 293)]) rfl ?_
      refine wp_max (pc' := 40) rfl rfl (Nat.le_of_ble_eq_true rfl) ?_
      refine wp_iast (pc' := 41) rfl rfl rfl (b1 c1) ?_
      refine wp_run 2 (pc' := 4) (ls' := [(2, 289), (0, (z_w (x1 + (M ((M 289 6) + 6) (z_w ((z_w (x2 * 6)) + (M 290 x2))))))), (0, (z_w (x2 + 1))), (0, (M ((M 289 6) + 6) (z_w ((z_w (x2 * 6)) + (M 290 x2)))))]) (st' := []) rfl ?_
      exact l5 c1 c5
    · refine wp_run 2 (pc' := 28) (ls' := [(2, 289), (0, x2)]) (st' := [(0, 0)]) rfl ?_
      refine wp_ret rfl rfl ?_
      show wp xs _ mX3_note 20 [(2, 289), (0, x1), (0, x2), w3] [(0, 0)] z_LL M _
      refine wp_run 6 (pc' := 26) (ls' := [(2, 289), (0, (z_w (x1 + 0))), (0, x2), (0, 0)]) (st' := [(2, 289)]) rfl ?_
      refine wp_gf (pc' := 29) (t := 2) (v := 293) rfl rfl (by decide) rfl rfl (fx_289_3 hF) ?_
      refine wp_run 2 (pc' := 31) (ls' := [(2, 289), (0, (z_w (x1 + 0))), (0, x2), (0, 0)]) (st' := [(2, 289), (0, x2), (2, 293)]) rfl ?_
      refine wp_gf (pc' := 34) (t := 2) (v := 293) rfl rfl (by decide) rfl rfl (fx_289_3 hF) ?_
      refine wp_run 1 (pc' := 35) (ls' := [(2, 289), (0, (z_w (x1 + 0))), (0, x2), (0, 0)]) (st' := [(0, x2), (2, 293), (0, x2), (2, 293)]) rfl ?_
      refine wp_iald (pc' := 36) (v := (M 293 x2)) rfl rfl rfl (b1 c1) rfl ?_
      refine wp_run 1 (pc' := 37) (ls' := [(2, 289), (0, (z_w (x1 + 0))), (0, x2), (0, 0)]) (st' := [(0, 0), (0, (M 293 x2)), (0, x2), (2, 293)]) rfl ?_
      refine wp_max (pc' := 40) rfl rfl (Nat.le_of_ble_eq_true rfl) ?_
      refine wp_iast (pc' := 41) rfl rfl rfl (b1 c1) ?_
      refine wp_run 2 (pc' := 4) (ls' := [(2, 289), (0, (z_w (x1 + 0))), (0, (z_w (x2 + 1))), (0, 0)]) (st' := []) rfl ?_
      exact l6 c1 c5
set_option maxRecDepth 20000 in
theorem gX3_pairFrom_0 {xs : List Int} {d : Nat} {M : z_M} {P : Option z_V → z_L → z_M → Prop} {a1 : Int} (hg1 : z_gor M (M 289 6))
    (l1 : (a1 < (M (M 289 6) 12)) → wp xs d mX3_pairFrom 0 [(2, 289), (0, (z_w (a1 + 1))), (3, 0)] [] z_LL M (fun r L1 M1 => wp xs (d + 1) mX3_pairFrom 30 [(2, 289), (0, a1), (3, 0)] (z_ol r ++ []) L1 M1 P))
    (l2 : (¬ (a1 < (M (M 289 6) 12))) → wp xs d mX3_isCalm 0 [(2, 289), (3, 0), (3, 0)] [] z_LL M (fun r L1 M1 => wp xs (d + 1) mX3_pairFrom 15 [(2, 289), (0, a1), (3, 0)] (z_ol r ++ []) L1 M1 P)) :
    wp xs (d + 1) mX3_pairFrom 0 [(2, 289), (0, a1), (3, 0)] [] z_LL M P := by
  refine wp_run 2 (pc' := 2) (ls' := [(2, 289), (0, a1), (3, 0)]) (st' := [(2, 289), (0, a1)]) rfl ?_
  refine wp_gf (pc' := 5) (t := 2) (v := (M 289 6)) rfl rfl (by decide) rfl rfl rfl ?_
  refine wp_gf (pc' := 8) (t := 0) (v := (M (M 289 6) 12)) rfl rfl (by decide) rfl (z_gl0 hg1) rfl ?_
  refine wp_if2 rfl rfl rfl (fun (c1 : a1 < (M (M 289 6) 12)) => ?_) (fun (c1 : ¬ (a1 < (M (M 289 6) 12))) => ?_)
  · refine wp_run 4 (pc' := 27) (ls' := [(2, 289), (0, a1), (3, 0)]) (st' := [(0, (z_w (a1 + 1))), (2, 289)]) rfl ?_
    refine wp_callv (pc' := 30) (as := [(2, 289), (0, (z_w (a1 + 1)))]) (rest := []) (ls1 := [(2, 289), (0, (z_w (a1 + 1))), (3, 0)]) rfl rfl rfl rfl rfl rfl ?_
    exact l1 c1
  · refine wp_run 1 (pc' := 12) (ls' := [(2, 289), (0, a1), (3, 0)]) (st' := [(2, 289)]) rfl ?_
    refine wp_callv (pc' := 15) (as := [(2, 289)]) (rest := []) (ls1 := [(2, 289), (3, 0), (3, 0)]) rfl rfl rfl rfl rfl rfl ?_
    exact l2 c1
set_option maxRecDepth 20000 in
theorem gX3_pairFrom_15 {xs : List Int} {d : Nat} {M : z_M} {P : Option z_V → z_L → z_M → Prop} {x1 : Int} {s0 : Int} 
    (l1 : (s0 = 0) → P none z_LL M)
    (l2 : (¬ (s0 = 0)) → wp xs d mX3_note 0 [(2, 289), (3, 0), (3, 0), (3, 0)] [] z_LL M (fun r L1 M1 => wp xs (d + 1) mX3_pairFrom 22 [(2, 289), (0, x1), (3, 0)] (z_ol r ++ []) L1 M1 P)) :
    wp xs (d + 1) mX3_pairFrom 15 [(2, 289), (0, x1), (3, 0)] [(0, s0)] z_LL M P := by
  refine wp_if1 rfl rfl rfl (fun (c1 : s0 = 0) => ?_) (fun (c1 : ¬ (s0 = 0)) => ?_)
  · exact wp_ret rfl rfl (l1 c1)
  · refine wp_run 1 (pc' := 19) (ls' := [(2, 289), (0, x1), (3, 0)]) (st' := [(2, 289)]) rfl ?_
    refine wp_callv (pc' := 22) (as := [(2, 289)]) (rest := []) (ls1 := [(2, 289), (3, 0), (3, 0), (3, 0)]) rfl rfl rfl rfl rfl rfl ?_
    exact l2 c1
set_option maxRecDepth 20000 in
theorem gX3_pairFrom_22 {xs : List Int} {d : Nat} {M : z_M} {P : Option z_V → z_L → z_M → Prop} {x1 : Int} 
    (l1 : P none z_LL M) :
    wp xs d mX3_pairFrom 22 [(2, 289), (0, x1), (3, 0)] [] z_LL M P := by
  exact wp_ret rfl rfl (l1)
set_option maxRecDepth 20000 in
theorem gX3_pairFrom_30 {xs : List Int} {d : Nat} {M : z_M} {P : Option z_V → z_L → z_M → Prop} {x1 : Int} (hF : z_fix M) 
    (b1 : 0 ≤ x1 ∧ x1 < 6)
    (l1 : ((M 290 x1) = (-1)) → wp xs d mX3_pairFrom 45 [(2, 289), (0, x1), (0, (z_w (x1 + 1)))] [] z_LL M P)
    (l2 : (¬ ((M 290 x1) = (-1))) → P none z_LL M) :
    wp xs d mX3_pairFrom 30 [(2, 289), (0, x1), (3, 0)] [] z_LL M P := by
  refine wp_run 1 (pc' := 31) (ls' := [(2, 289), (0, x1), (3, 0)]) (st' := [(2, 289)]) rfl ?_
  refine wp_gf (pc' := 34) (t := 2) (v := 290) rfl rfl (by decide) rfl rfl (fx_289_0 hF) ?_
  refine wp_run 1 (pc' := 35) (ls' := [(2, 289), (0, x1), (3, 0)]) (st' := [(0, x1), (2, 290)]) rfl ?_
  refine wp_iald (pc' := 36) (v := (M 290 x1)) rfl rfl rfl (b1) rfl ?_
  refine wp_run 1 (pc' := 37) (ls' := [(2, 289), (0, x1), (3, 0)]) (st' := [(0, (-1)), (0, (M 290 x1))]) rfl ?_
  refine wp_if2 rfl rfl rfl (fun (c1 : (M 290 x1) = (-1)) => ?_) (fun (c1 : ¬ ((M 290 x1) = (-1))) => ?_)
  · refine wp_run 4 (pc' := 45) (ls' := [(2, 289), (0, x1), (0, (z_w (x1 + 1)))]) (st' := []) rfl ?_
    exact l1 c1
  · exact wp_ret rfl rfl (l2 c1)
set_option maxRecDepth 20000 in
theorem gX3_pairFrom_45 {xs : List Int} {d : Nat} {M : z_M} {P : Option z_V → z_L → z_M → Prop} {x1 : Int} {x2 : Int} (hF : z_fix M) (hg1 : z_gor M (M 289 6))
    (l1 : ((M (M 289 6) 12) ≤ x2) → P none z_LL M)
    (b1 : (¬ ((M (M 289 6) 12) ≤ x2)) → 0 ≤ x2 ∧ x2 < 6)
    (l2 : (¬ ((M (M 289 6) 12) ≤ x2)) → ((M 290 x2) ≠ (-1)) → wp xs (d + 1) mX3_pairFrom 45 [(2, 289), (0, x1), (0, (z_w (x2 + 1)))] [] z_LL M P)
    (l3 : (¬ ((M (M 289 6) 12) ≤ x2)) → (¬ ((M 290 x2) ≠ (-1))) → wp xs d mX1_couldPair 0 [(2, (M 289 6)), (0, x1), (0, x2)] [] z_LL M (fun r L1 M1 => wp xs (d + 1) mX3_pairFrom 75 [(2, 289), (0, x1), (0, x2)] (z_ol r ++ []) L1 M1 P)) :
    wp xs (d + 1) mX3_pairFrom 45 [(2, 289), (0, x1), (0, x2)] [] z_LL M P := by
  refine wp_run 2 (pc' := 47) (ls' := [(2, 289), (0, x1), (0, x2)]) (st' := [(2, 289), (0, x2)]) rfl ?_
  refine wp_gf (pc' := 50) (t := 2) (v := (M 289 6)) rfl rfl (by decide) rfl rfl rfl ?_
  refine wp_gf (pc' := 53) (t := 0) (v := (M (M 289 6) 12)) rfl rfl (by decide) rfl (z_gl0 hg1) rfl ?_
  refine wp_if2 rfl rfl rfl (fun (c1 : (M (M 289 6) 12) ≤ x2) => ?_) (fun (c1 : ¬ ((M (M 289 6) 12) ≤ x2)) => ?_)
  · exact wp_ret rfl rfl (l1 c1)
  · refine wp_run 1 (pc' := 57) (ls' := [(2, 289), (0, x1), (0, x2)]) (st' := [(2, 289)]) rfl ?_
    refine wp_gf (pc' := 60) (t := 2) (v := 290) rfl rfl (by decide) rfl rfl (fx_289_0 hF) ?_
    refine wp_run 1 (pc' := 61) (ls' := [(2, 289), (0, x1), (0, x2)]) (st' := [(0, x2), (2, 290)]) rfl ?_
    refine wp_iald (pc' := 62) (v := (M 290 x2)) rfl rfl rfl (b1 c1) rfl ?_
    refine wp_run 1 (pc' := 63) (ls' := [(2, 289), (0, x1), (0, x2)]) (st' := [(0, (-1)), (0, (M 290 x2))]) rfl ?_
    refine wp_if2 rfl rfl rfl (fun (c2 : (M 290 x2) ≠ (-1)) => ?_) (fun (c2 : ¬ ((M 290 x2) ≠ (-1))) => ?_)
    · refine wp_run 2 (pc' := 45) (ls' := [(2, 289), (0, x1), (0, (z_w (x2 + 1)))]) (st' := []) rfl ?_
      exact l2 c1 c2
    · refine wp_run 1 (pc' := 67) (ls' := [(2, 289), (0, x1), (0, x2)]) (st' := [(2, 289)]) rfl ?_
      refine wp_gf (pc' := 70) (t := 2) (v := (M 289 6)) rfl rfl (by decide) rfl rfl rfl ?_
      refine wp_run 2 (pc' := 72) (ls' := [(2, 289), (0, x1), (0, x2)]) (st' := [(0, x2), (0, x1), (2, (M 289 6))]) rfl ?_
      refine wp_callv (pc' := 75) (as := [(2, (M 289 6)), (0, x1), (0, x2)]) (rest := []) (ls1 := [(2, (M 289 6)), (0, x1), (0, x2)]) rfl rfl rfl rfl (z_args_v rfl rfl rfl rfl (Nat.le_of_ble_eq_true rfl) rfl (by decide) (z_gl0 hg1)) rfl ?_
      exact l3 c1 c2
set_option maxRecDepth 20000 in
theorem gX3_pairFrom_75 {xs : List Int} {d : Nat} {M : z_M} {P : Option z_V → z_L → z_M → Prop} {x1 : Int} {x2 : Int} {s0 : Int} (hF : z_fix M) 
    (l1 : (s0 = 0) → wp xs (d + 1) mX3_pairFrom 45 [(2, 289), (0, x1), (0, (z_w (x2 + 1)))] [] z_LL M P)
    (b1 : (¬ (s0 = 0)) → 0 ≤ x1 ∧ x1 < 6)
    (b2 : (¬ (s0 = 0)) → 0 ≤ x2 ∧ x2 < 6)
    (l2 : (¬ (s0 = 0)) → wp xs d mX3_pairFrom 0 [(2, 289), (0, (z_w (x1 + 1))), (3, 0)] [] z_LL (z_up (z_up M 290 x1 x2) 290 x2 x1) (fun r L1 M1 => wp xs (d + 1) mX3_pairFrom 99 [(2, 289), (0, x1), (0, x2)] (z_ol r ++ []) L1 M1 P)) :
    wp xs (d + 1) mX3_pairFrom 75 [(2, 289), (0, x1), (0, x2)] [(0, s0)] z_LL M P := by
  refine wp_if1 rfl rfl rfl (fun (c1 : s0 = 0) => ?_) (fun (c1 : ¬ (s0 = 0)) => ?_)
  · refine wp_run 2 (pc' := 45) (ls' := [(2, 289), (0, x1), (0, (z_w (x2 + 1)))]) (st' := []) rfl ?_
    exact l1 c1
  · refine wp_run 1 (pc' := 79) (ls' := [(2, 289), (0, x1), (0, x2)]) (st' := [(2, 289)]) rfl ?_
    refine wp_gf (pc' := 82) (t := 2) (v := 290) rfl rfl (by decide) rfl rfl (fx_289_0 hF) ?_
    refine wp_run 2 (pc' := 84) (ls' := [(2, 289), (0, x1), (0, x2)]) (st' := [(0, x2), (0, x1), (2, 290)]) rfl ?_
    refine wp_iast (pc' := 85) rfl rfl rfl (b1 c1) ?_
    refine wp_run 1 (pc' := 86) (ls' := [(2, 289), (0, x1), (0, x2)]) (st' := [(2, 289)]) rfl ?_
    refine wp_gf (pc' := 89) (t := 2) (v := 290) rfl rfl (by decide) rfl rfl (z_upq (by decide) (fx_289_0 hF)) ?_
    refine wp_run 2 (pc' := 91) (ls' := [(2, 289), (0, x1), (0, x2)]) (st' := [(0, x1), (0, x2), (2, 290)]) rfl ?_
    refine wp_iast (pc' := 92) rfl rfl rfl (b2 c1) ?_
    refine wp_run 4 (pc' := 96) (ls' := [(2, 289), (0, x1), (0, x2)]) (st' := [(0, (z_w (x1 + 1))), (2, 289)]) rfl ?_
    refine wp_callv (pc' := 99) (as := [(2, 289), (0, (z_w (x1 + 1)))]) (rest := []) (ls1 := [(2, 289), (0, (z_w (x1 + 1))), (3, 0)]) rfl rfl rfl rfl rfl rfl ?_
    exact l2 c1
set_option maxRecDepth 20000 in
theorem gX3_pairFrom_99 {xs : List Int} {d : Nat} {M : z_M} {P : Option z_V → z_L → z_M → Prop} {x1 : Int} {x2 : Int} (hF : z_fix M) 
    (b1 : 0 ≤ x1 ∧ x1 < 6)
    (b2 : 0 ≤ x2 ∧ x2 < 6)
    (l1 : wp xs d mX3_pairFrom 45 [(2, 289), (0, x1), (0, (z_w (x2 + 1)))] [] z_LL (z_up (z_up M 290 x1 (-1)) 290 x2 (-1)) P) :
    wp xs d mX3_pairFrom 99 [(2, 289), (0, x1), (0, x2)] [] z_LL M P := by
  refine wp_run 1 (pc' := 100) (ls' := [(2, 289), (0, x1), (0, x2)]) (st' := [(2, 289)]) rfl ?_
  refine wp_gf (pc' := 103) (t := 2) (v := 290) rfl rfl (by decide) rfl rfl (fx_289_0 hF) ?_
  refine wp_run 2 (pc' := 105) (ls' := [(2, 289), (0, x1), (0, x2)]) (st' := [(0, (-1)), (0, x1), (2, 290)]) rfl ?_
  refine wp_iast (pc' := 106) rfl rfl rfl (b1) ?_
  refine wp_run 1 (pc' := 107) (ls' := [(2, 289), (0, x1), (0, x2)]) (st' := [(2, 289)]) rfl ?_
  refine wp_gf (pc' := 110) (t := 2) (v := 290) rfl rfl (by decide) rfl rfl (z_upq (by decide) (fx_289_0 hF)) ?_
  refine wp_run 2 (pc' := 112) (ls' := [(2, 289), (0, x1), (0, x2)]) (st' := [(0, (-1)), (0, x2), (2, 290)]) rfl ?_
  refine wp_iast (pc' := 113) rfl rfl rfl (b2) ?_
  refine wp_run 2 (pc' := 45) (ls' := [(2, 289), (0, x1), (0, (z_w (x2 + 1)))]) (st' := []) rfl ?_
  exact l1
set_option maxRecDepth 20000 in
theorem gX3_search_0 {xs : List Int} {d : Nat} {M : z_M} {P : Option z_V → z_L → z_M → Prop} {a1 : Int} (hF : z_fix M) (ha1 : z_gor M a1)
    (l1 : wp xs d mJ7_fill_53178 0 [(2, 290), (0, (-1)), (3, 0), (3, 0)] [] z_LL (z_up (z_up (z_up M 289 6 a1) 289 4 0) 289 5 (-1)) (fun r L1 M1 => wp xs (d + 1) mX3_search 23 [(2, 289), (2, a1)] (z_ol r ++ []) L1 M1 P)) :
    wp xs (d + 1) mX3_search 0 [(2, 289), (2, a1)] [] z_LL M P := by
  refine wp_run 2 (pc' := 2) (ls' := [(2, 289), (2, a1)]) (st' := [(2, a1), (2, 289)]) rfl ?_
  refine wp_pf (pc' := 5) rfl rfl rfl rfl (fun _ => by have := z_gr ha1; omega) (fun z => absurd z (by decide)) ?_
  refine wp_run 2 (pc' := 7) (ls' := [(2, 289), (2, a1)]) (st' := [(0, 0), (2, 289)]) rfl ?_
  refine wp_pf (pc' := 10) rfl rfl rfl rfl (fun z => absurd z (by decide)) (fun z => absurd z (by decide)) ?_
  refine wp_run 2 (pc' := 12) (ls' := [(2, 289), (2, a1)]) (st' := [(0, (-1)), (2, 289)]) rfl ?_
  refine wp_pf (pc' := 15) rfl rfl rfl rfl (fun z => absurd z (by decide)) (fun z => absurd z (by decide)) ?_
  refine wp_run 1 (pc' := 16) (ls' := [(2, 289), (2, a1)]) (st' := [(2, 289)]) rfl ?_
  refine wp_gf (pc' := 19) (t := 2) (v := 290) rfl rfl (by decide) rfl rfl (z_upi (by decide) (z_upi (by decide) (z_upi (by decide) (fx_289_0 hF)))) ?_
  refine wp_run 1 (pc' := 20) (ls' := [(2, 289), (2, a1)]) (st' := [(0, (-1)), (2, 290)]) rfl ?_
  refine wp_callv (pc' := 23) (as := [(2, 290), (0, (-1))]) (rest := []) (ls1 := [(2, 290), (0, (-1)), (3, 0), (3, 0)]) rfl rfl rfl rfl rfl rfl ?_
  exact l1
set_option maxRecDepth 20000 in
theorem gX3_search_23 {xs : List Int} {d : Nat} {M : z_M} {P : Option z_V → z_L → z_M → Prop} {x1 : Int} (hF : z_fix M) (hx1 : z_gor M x1)
    (l1 : wp xs d mJ7_fill_53178 0 [(2, 293), (0, (-1)), (3, 0), (3, 0)] [] z_LL M (fun r L1 M1 => wp xs (d + 1) mX3_search 31 [(2, 289), (2, x1)] (z_ol r ++ []) L1 M1 P)) :
    wp xs (d + 1) mX3_search 23 [(2, 289), (2, x1)] [] z_LL M P := by
  refine wp_run 1 (pc' := 24) (ls' := [(2, 289), (2, x1)]) (st' := [(2, 289)]) rfl ?_
  refine wp_gf (pc' := 27) (t := 2) (v := 293) rfl rfl (by decide) rfl rfl (fx_289_3 hF) ?_
  refine wp_run 1 (pc' := 28) (ls' := [(2, 289), (2, x1)]) (st' := [(0, (-1)), (2, 293)]) rfl ?_
  refine wp_callv (pc' := 31) (as := [(2, 293), (0, (-1))]) (rest := []) (ls1 := [(2, 293), (0, (-1)), (3, 0), (3, 0)]) rfl rfl rfl rfl rfl rfl ?_
  exact l1
set_option maxRecDepth 20000 in
theorem gX3_search_31 {xs : List Int} {d : Nat} {M : z_M} {P : Option z_V → z_L → z_M → Prop} {x1 : Int} (hx1 : z_gor M x1)
    (l1 : wp xs d mX3_pairFrom 0 [(2, 289), (0, 0), (3, 0)] [] z_LL M (fun r L1 M1 => wp xs (d + 1) mX3_search 36 [(2, 289), (2, x1)] (z_ol r ++ []) L1 M1 P)) :
    wp xs (d + 1) mX3_search 31 [(2, 289), (2, x1)] [] z_LL M P := by
  refine wp_run 2 (pc' := 33) (ls' := [(2, 289), (2, x1)]) (st' := [(0, 0), (2, 289)]) rfl ?_
  refine wp_callv (pc' := 36) (as := [(2, 289), (0, 0)]) (rest := []) (ls1 := [(2, 289), (0, 0), (3, 0)]) rfl rfl rfl rfl rfl rfl ?_
  exact l1
set_option maxRecDepth 20000 in
theorem gX3_search_36 {xs : List Int} {d : Nat} {M : z_M} {P : Option z_V → z_L → z_M → Prop} {x1 : Int} (hx1 : z_gor M x1)
    (l1 : P none z_LL M) :
    wp xs d mX3_search 36 [(2, 289), (2, x1)] [] z_LL M P := by
  exact wp_ret rfl rfl (l1)
section
variable {xs : List Int} {d : Nat} {M : z_M}
/-- who could be paired, and how much one wants another -/
def z_cpr (M : z_M) (a b : Int) : Prop := ((0 ≤ a ∧ a < M 321 48) ∧ (0 ≤ b ∧ b < M 321 48)) ∧ z_cm M a b ∧ 0 ≤ M 340 (6 * a + b) ∧ 0 ≤ M 340 (6 * b + a)
def z_wnt (M : z_M) (a b : Int) : Int := M 340 (6 * a + b)
theorem z_cpr_s (hY : z_fsy M) {a b : Int} (h : z_cpr M a b) : z_cpr M b a := ⟨⟨h.1.2, h.1.1⟩, (z_cm_y hY h.1.1.1 h.1.1.2 h.1.2.1 h.1.2.2).mp h.2.1, h.2.2.2, h.2.2.1⟩
theorem z_cpr_i {a : Int} (h : z_cpr M a a) : False := by
  have := h.2.1
  unfold z_cm at this
  exact this.1 rfl
theorem s_X1_couldPair {P : Option z_V → z_L → z_M → Prop} {g a b : Int} (hC : z_mc M) (hG : z_gg M g) (ha : 0 ≤ a ∧ a < 6) (hb : 0 ≤ b ∧ b < 6) (k : P (some (0, z_b (z_cpr M a b))) z_LL M) : wp xs (d + 2) mX1_couldPair 0 [(2, g), (0, a), (0, b)] [] z_LL M P := by
  have hn := hC.2.2.1
  have e12 := hG.2.1.2.2.1
  have g0 := gX1_couldPair_0 (M := M) (xs := xs) (d := d) (P := P) (a1 := a) (a2 := b) hG.1
  simp only [show a * 6 = 6 * a by omega, show b * 6 = 6 * b by omega, z_wid (x := 6 * a) (by omega), z_wid (x := 6 * b) (by omega), z_wid (x := 6 * a + b) (by omega), z_wid (x := 6 * b + a) (by omega)] at g0
  by_cases h : z_cmg M g a b
  · have ra : 0 ≤ a ∧ a < M 321 48 := by have := h.1; omega
    have rb : 0 ≤ b ∧ b < M 321 48 := by have := h.2.1; omega
    have cm := (z_cmg_cm hG ra.1 ra.2 rb.1 rb.2).mp h
    rw [(hG.2.2.1 a ra.1 ra.2).2.2.2.2.1 b rb.1 rb.2, (hG.2.2.1 b rb.1 rb.2).2.2.2.2.1 a ra.1 ra.2] at g0
    have b1 := (hC.2.2.2.2.2.2 a ra.1 ra.2).2.2.2.2 b rb.1 rb.2
    have b2 := (hC.2.2.2.2.2.2 b rb.1 rb.2).2.2.2.2 a ra.1 ra.2
    refine g0 (by omega) (fun q => absurd h q) (fun _ => by omega) (fun _ c => ?_) (fun _ _ => by omega) (fun _ _ c => ?_) (fun _ c c2 => ?_)
    · rw [z_b_f (fun q => by have := q.2.2.1; omega)] at k
      exact k
    · rw [z_b_f (fun q => by have := q.2.2.2; omega)] at k
      exact k
    · rw [z_b_t ⟨⟨ra, rb⟩, cm, by omega, by omega⟩] at k
      exact k
  · refine g0 (by omega) (fun _ => ?_) (fun q => absurd q h) (fun q => absurd q h) (fun q => absurd q h) (fun q => absurd q h) (fun q => absurd q h)
    rw [z_b_f (fun q => h ((z_cmg_cm hG q.1.1.1 q.1.1.2 q.1.2.1 q.1.2.2).mpr q.2.1))] at k
    exact k
/-- a row of partners holds W -/
def z_rwp (n : Nat) (f W : Int → Int) : Prop := ∀ i : Int, 0 ≤ i → i < n → f i = W i ∧ -1 ≤ W i ∧ W i < n
theorem s_X3_isCalm {P : Option z_V → z_L → z_M → Prop} {n : Nat} {W : Int → Int} (hF : z_fix M) (hC : z_mc M) (hn : M 321 48 = (n : Int)) (hG : z_gg M (M 289 6)) (hW : z_rwp n (M 290) W) (k : P (some (0, z_b (∀ a b : Int, a < b → ¬ z_blk n (z_cpr M) (z_wnt M) W a b))) z_LL M) : wp xs (d + 3) mX3_isCalm 0 [(2, 289), (3, 0), (3, 0)] [] z_LL M P := by
  have h6 := hC.2.2.1
  have e12 := hG.2.1.2.2.1
  rw [hn] at e12
  have wt : ∀ a b : Int, 0 ≤ a → a < n → 0 ≤ b → b < n → M (M 289 6 + 6) (6 * a + b) = z_wnt M a b := fun a b a1 a2 b1 b2 => (hG.2.2.1 a a1 (by omega)).2.2.2.2.1 b b1 (by omega)
  refine gX3_isCalm_0 ?_
  refine z_loop (W := fun i => ∀ w2 : z_V, (∀ a b : Int, a < b → a < i → ¬ z_blk n (z_cpr M) (z_wnt M) W a b) → wp xs (d + 3) mX3_isCalm 2 [(2, 289), (0, (i : Int)), w2] [] z_LL M P) n (fun i hi ih w2 hv => ?_) _ (fun a b _ h1 h2 => by have := h2.1; omega)
  have g := gX3_isCalm_2 (M := M) (xs := xs) (d := d + 3) (P := P) (x1 := (i : Int)) (w2 := w2) hG.1
  rw [e12, z_in1 (by omega)] at g
  refine g (fun c => ?_) (fun c => ?_)
  · rw [z_b_t (fun a b h q => hv a b h (by have := q.1; omega) q)] at k
    exact k
  · have ih := ih (by omega)
    have hWi := hW i (by omega) (by omega)
    have hin : i < n := by omega
    refine z_loop (W := fun j => (∀ a b : Int, a < b → a = i → b < (i + 1 + j : Nat) → ¬ z_blk n (z_cpr M) (z_wnt M) W a b) → wp xs (d + 3) mX3_isCalm 17 [(2, 289), (0, (i : Int)), (0, ((i + 1 + j : Nat) : Int))] [] z_LL M P) (n - i - 1) (fun j hj ih2 hv2 => ?_) (fun a b h1 h2 h3 => by omega)
    have hjn : i + 1 + j ≤ n := by omega
    rw [show i + 1 + (j + 1) = i + 1 + j + 1 by omega] at ih2
    have hij : i < i + 1 + j := by omega
    generalize hb : i + 1 + j = b at *
    have g := gX3_isCalm_17 (M := M) (xs := xs) (d := d + 2) (P := P) (x1 := (i : Int)) (x2 := (b : Int)) hG.1
    rw [e12, z_in1 (by omega)] at g
    refine g (fun c => ?_) (fun c => ?_)
    · refine ih _ (fun a b' h1 h2 q => ?_)
      by_cases e : a = i
      · exact hv2 a b' h1 e (by have := q.2.1; omega) q
      · exact hv a b' h1 (by omega) q
    · have ih2 := ih2 (by omega)
      have hWb := hW b (by omega) (by omega)
      refine s_X1_couldPair (d := d) hC hG (by omega) (by omega) ?_
      have nxt : ¬ z_blk n (z_cpr M) (z_wnt M) W i b → wp xs (d + 3) mX3_isCalm 17 [(2, 289), (0, (i : Int)), (0, ((b + 1 : Nat) : Int))] [] z_LL M P := fun q => ih2 (fun a b' h1 h2 h3 => by
        by_cases e : b' = b
        · rw [h2, e]
          exact q
        · exact hv2 a b' h1 h2 (by omega))
      have bad : z_blk n (z_cpr M) (z_wnt M) W i b → P (some (0, 0)) z_LL M := fun q => by
        rw [z_b_f (fun w => w i b (by omega) q)] at k
        exact k
      have g := gX3_isCalm_37 (M := M) (xs := xs) (d := d + 1) (P := P) (x1 := (i : Int)) (x2 := (b : Int)) (s0 := z_b (z_cpr M i b)) hF hG.1
      have hs1 : ∀ f : Int, 0 ≤ f → f < n → z_hsv (z_wnt M) W f = if W f ≠ -1 then M (M 289 6 + 6) (6 * f + W f) else 0 := fun f h1 h2 => by
        have := hW f h1 h2
        unfold z_hsv
        by_cases c : W f < 0
        · rw [if_pos c, if_neg (by omega)]
        · rw [if_neg c, if_pos (by omega), wt f (W f) h1 h2 (by omega) (by omega)]
      have hsi := hs1 i (by omega) (by omega)
      have hsb := hs1 b (by omega) (by omega)
      have wib := wt i b (by omega) (by omega) (by omega) (by omega)
      have wbi := wt b i (by omega) (by omega) (by omega) (by omega)
      have bk : z_blk n (z_cpr M) (z_wnt M) W i b ↔ z_cpr M i b ∧ z_hsv (z_wnt M) W i < z_wnt M i b ∧ z_hsv (z_wnt M) W b < z_wnt M b i := by
        unfold z_blk
        exact ⟨fun q => ⟨q.2.2.1, q.2.2.2⟩, fun q => ⟨by omega, by omega, q.1, q.2⟩⟩
      rw [hWi.1, hWb.1, z_in1 (by omega), show (i : Int) * 6 = 6 * i by omega, show (b : Int) * 6 = 6 * b by omega, z_wid (x := 6 * (i : Int)) (by omega), z_wid (x := 6 * (b : Int)) (by omega), z_wid (x := 6 * (i : Int) + b) (by omega), z_wid (x := 6 * (b : Int) + i) (by omega), z_wid (x := 6 * (i : Int) + W i) (by omega), z_wid (x := 6 * (b : Int) + W b) (by omega), wib, wbi] at g
      have cp : ¬ z_b (z_cpr M i b) = 0 → z_cpr M i b := fun q => Classical.byContradiction fun w => q (z_b_f w)
      have ncp : z_b (z_cpr M i b) = 0 → ¬ z_cpr M i b := fun q w => by
        rw [z_b_t w] at q
        omega
      apply g
      case l1 => exact fun c => nxt (fun q => ncp c (bk.mp q).1)
      case l2 =>
        intro c1 c2 c3
        rw [if_pos c2] at hsi
        exact nxt (fun q => by have := (bk.mp q).2; omega)
      case l3 =>
        intro c1 c2 c3 c4 c5
        rw [if_pos c4] at hsb
        exact nxt (fun q => by have := (bk.mp q).2; omega)
      case l4 =>
        intro c1 c2 c3 c4 c5
        rw [if_pos c2] at hsi
        rw [if_pos c4] at hsb
        exact bad (bk.mpr ⟨cp c1, by omega, by omega⟩)
      case l5 =>
        intro c1 c2 c3 c4 c5
        rw [if_neg c4] at hsb
        exact nxt (fun q => by have := (bk.mp q).2; omega)
      case l6 =>
        intro c1 c2 c3 c4 c5
        rw [if_pos c2] at hsi
        rw [if_neg c4] at hsb
        exact bad (bk.mpr ⟨cp c1, by omega, by omega⟩)
      case l7 =>
        intro c1 c2 c3
        rw [if_neg c2] at hsi
        exact nxt (fun q => by have := (bk.mp q).2; omega)
      case l8 =>
        intro c1 c2 c3 c4 c5
        rw [if_pos c4] at hsb
        exact nxt (fun q => by have := (bk.mp q).2; omega)
      case l9 =>
        intro c1 c2 c3 c4 c5
        rw [if_neg c2] at hsi
        rw [if_pos c4] at hsb
        exact bad (bk.mpr ⟨cp c1, by omega, by omega⟩)
      case l10 =>
        intro c1 c2 c3 c4 c5
        rw [if_neg c4] at hsb
        exact nxt (fun q => by have := (bk.mp q).2; omega)
      case l11 =>
        intro c1 c2 c3 c4 c5
        rw [if_neg c2] at hsi
        rw [if_neg c4] at hsb
        exact bad (bk.mpr ⟨cp c1, by omega, by omega⟩)
      all_goals (clear ih ih2 nxt bad hv hv2 wt hs1 hW hsi hsb bk cp ncp; intros; omega)
end
