/-! THE CLASS READS A TEXT -/
set_option maxRecDepth 20000 in
theorem gX1_rowOf_0 {xs : List Int} {d : Nat} {M : z_M} {P : Option z_V → z_L → z_M → Prop} {g : Int} {a1 : Int} (hg : z_gor M g)
    (b1 : ((M g 10) ≠ 0) → ¬ (M g 10) = 0)
    (l1 : ((M g 10) ≠ 0) → P (some (0, (z_div a1 (M g 10)))) z_LL M)
    (l2 : (¬ ((M g 10) ≠ 0)) → P (some (0, 0)) z_LL M) :
    wp xs d mX1_rowOf 0 [(2, g), (0, a1)] [] z_LL M P := by
  refine wp_run 1 (pc' := 1) (ls' := [(2, g), (0, a1)]) (st' := [(2, g)]) rfl ?_
  refine wp_gf (pc' := 4) (t := 0) (v := (M g 10)) rfl rfl (by decide) rfl (z_gl0 hg) rfl ?_
  refine wp_if1 rfl rfl rfl (fun (c1 : (M g 10) ≠ 0) => ?_) (fun (c1 : ¬ ((M g 10) ≠ 0)) => ?_)
  · refine wp_run 2 (pc' := 13) (ls' := [(2, g), (0, a1)]) (st' := [(2, g), (0, a1)]) rfl ?_
    refine wp_gf (pc' := 16) (t := 0) (v := (M g 10)) rfl rfl (by decide) rfl (z_gl0 hg) rfl ?_
    refine wp_div rfl rfl (b1 c1) ?_
    exact wp_ret rfl rfl (l1 c1)
  · refine wp_run 2 (pc' := 17) (ls' := [(2, g), (0, a1)]) (st' := [(0, 0)]) rfl ?_
    exact wp_ret rfl rfl (l2 c1)
set_option maxRecDepth 20000 in
theorem gX1_columnOf_0 {xs : List Int} {d : Nat} {M : z_M} {P : Option z_V → z_L → z_M → Prop} {g : Int} {a1 : Int} (hg : z_gor M g)
    (b1 : ((M g 10) ≠ 0) → ¬ (M g 10) = 0)
    (l1 : ((M g 10) ≠ 0) → P (some (0, (z_rem a1 (M g 10)))) z_LL M)
    (l2 : (¬ ((M g 10) ≠ 0)) → P (some (0, 0)) z_LL M) :
    wp xs d mX1_columnOf 0 [(2, g), (0, a1)] [] z_LL M P := by
  refine wp_run 1 (pc' := 1) (ls' := [(2, g), (0, a1)]) (st' := [(2, g)]) rfl ?_
  refine wp_gf (pc' := 4) (t := 0) (v := (M g 10)) rfl rfl (by decide) rfl (z_gl0 hg) rfl ?_
  refine wp_if1 rfl rfl rfl (fun (c1 : (M g 10) ≠ 0) => ?_) (fun (c1 : ¬ ((M g 10) ≠ 0)) => ?_)
  · refine wp_run 2 (pc' := 13) (ls' := [(2, g), (0, a1)]) (st' := [(2, g), (0, a1)]) rfl ?_
    refine wp_gf (pc' := 16) (t := 0) (v := (M g 10)) rfl rfl (by decide) rfl (z_gl0 hg) rfl ?_
    refine wp_rem rfl rfl (b1 c1) ?_
    exact wp_ret rfl rfl (l1 c1)
  · refine wp_run 2 (pc' := 17) (ls' := [(2, g), (0, a1)]) (st' := [(0, 0)]) rfl ?_
    exact wp_ret rfl rfl (l2 c1)
theorem s_X1_rowOf {xs : List Int} {d : Nat} {M : z_M} {P : Option z_V → z_L → z_M → Prop} {g a1 : Int} (hg : z_gor M g) (h : ¬ M g 10 = 0) (k : P (some (0, z_div a1 (M g 10))) z_LL M) : wp xs d mX1_rowOf 0 [(2, g), (0, a1)] [] z_LL M P := gX1_rowOf_0 hg (fun _ => h) (fun _ => k) (fun w => absurd h w)
theorem s_X1_columnOf {xs : List Int} {d : Nat} {M : z_M} {P : Option z_V → z_L → z_M → Prop} {g a1 : Int} (hg : z_gor M g) (h : ¬ M g 10 = 0) (k : P (some (0, z_rem a1 (M g 10))) z_LL M) : wp xs d mX1_columnOf 0 [(2, g), (0, a1)] [] z_LL M P := gX1_columnOf_0 hg (fun _ => h) (fun _ => k) (fun w => absurd h w)
set_option maxRecDepth 20000 in
theorem gX1_measure_0 {xs : List Int} {d : Nat} {M : z_M} {P : Option z_V → z_L → z_M → Prop} {g : Int} (hg : z_gor M g)
    (l1 : wp xs d mX1_measure 2 [(2, g), (0, 0), (3, 0), (3, 0), (3, 0)] [] z_LL M P) :
    wp xs d mX1_measure 0 [(2, g), (3, 0), (3, 0), (3, 0), (3, 0)] [] z_LL M P := by
  refine wp_run 2 (pc' := 2) (ls' := [(2, g), (0, 0), (3, 0), (3, 0), (3, 0)]) (st' := []) rfl ?_
  exact l1
set_option maxRecDepth 20000 in
theorem gX1_measure_2 {xs : List Int} {d : Nat} {M : z_M} {P : Option z_V → z_L → z_M → Prop} {x0 : Int} {x1 : Int} {w2 : z_V} {w3 : z_V} {w4 : z_V} (hx0 : z_gor M x0)
    (l1 : ((z_w ((M x0 10) * (M x0 11))) ≤ x1) → P none z_LL M)
    (b1 : (¬ ((z_w ((M x0 10) * (M x0 11))) ≤ x1)) → ¬ M x0 10 = 0)
    (l2 : (¬ ((z_w ((M x0 10) * (M x0 11))) ≤ x1)) → wp xs (d + 1) mX1_measure 22 [(2, x0), (0, x1), (0, (z_rem x1 (M x0 10))), (0, (z_div x1 (M x0 10))), w4] [] z_LL M P) :
    wp xs (d + 1) mX1_measure 2 [(2, x0), (0, x1), w2, w3, w4] [] z_LL M P := by
  refine wp_run 2 (pc' := 4) (ls' := [(2, x0), (0, x1), w2, w3, w4]) (st' := [(2, x0), (0, x1)]) rfl ?_
  refine wp_callv (pc' := 7) (as := [(2, x0)]) (rest := [(0, x1)]) (ls1 := [(2, x0)]) rfl rfl rfl rfl (z_args_v rfl rfl rfl rfl (Nat.le_of_ble_eq_true rfl) rfl (by decide) (z_gl0 hx0)) rfl ?_
  refine wp_run 1 (pc' := 1) (ls' := [(2, x0)]) (st' := [(2, x0)]) rfl ?_
  refine wp_gf (pc' := 4) (t := 0) (v := (M x0 10)) rfl rfl (by decide) rfl (z_gl0 hx0) rfl ?_
  refine wp_run 1 (pc' := 5) (ls' := [(2, x0)]) (st' := [(2, x0), (0, (M x0 10))]) rfl ?_
  refine wp_gf (pc' := 8) (t := 0) (v := (M x0 11)) rfl rfl (by decide) rfl (z_gl0 hx0) rfl ?_
  refine wp_run 1 (pc' := 9) (ls' := [(2, x0)]) (st' := [(0, (z_w ((M x0 10) * (M x0 11))))]) rfl ?_
  refine wp_ret rfl rfl ?_
  show wp xs _ mX1_measure 7 [(2, x0), (0, x1), w2, w3, w4] [(0, (z_w ((M x0 10) * (M x0 11)))), (0, x1)] z_LL M _
  refine wp_if2 rfl rfl rfl (fun (c1 : (z_w ((M x0 10) * (M x0 11))) ≤ x1) => ?_) (fun (c1 : ¬ ((z_w ((M x0 10) * (M x0 11))) ≤ x1)) => ?_)
  · exact wp_ret rfl rfl (l1 c1)
  · refine wp_run 2 (pc' := 12) (ls' := [(2, x0), (0, x1), w2, w3, w4]) (st' := [(0, x1), (2, x0)]) rfl ?_
    refine wp_callv (pc' := 15) (as := [(2, x0), (0, x1)]) (rest := []) (ls1 := [(2, x0), (0, x1)]) rfl rfl rfl rfl (z_args_v rfl rfl rfl rfl (Nat.le_of_ble_eq_true rfl) rfl (by decide) (z_gl0 hx0)) rfl ?_
    refine s_X1_columnOf hx0 (b1 c1) ?_
    show wp xs _ mX1_measure 15 [(2, x0), (0, x1), w2, w3, w4] [(0, (z_rem x1 (M x0 10)))] z_LL M _
    refine wp_run 3 (pc' := 18) (ls' := [(2, x0), (0, x1), (0, (z_rem x1 (M x0 10))), w3, w4]) (st' := [(0, x1), (2, x0)]) rfl ?_
    refine wp_callv (pc' := 21) (as := [(2, x0), (0, x1)]) (rest := []) (ls1 := [(2, x0), (0, x1)]) rfl rfl rfl rfl (z_args_v rfl rfl rfl rfl (Nat.le_of_ble_eq_true rfl) rfl (by decide) (z_gl0 hx0)) rfl ?_
    refine s_X1_rowOf hx0 (b1 c1) ?_
    show wp xs _ mX1_measure 21 [(2, x0), (0, x1), (0, (z_rem x1 (M x0 10))), w3, w4] [(0, (z_div x1 (M x0 10)))] z_LL M _
    refine wp_run 1 (pc' := 22) (ls' := [(2, x0), (0, x1), (0, (z_rem x1 (M x0 10))), (0, (z_div x1 (M x0 10))), w4]) (st' := []) rfl ?_
    exact l2 c1
set_option maxRecDepth 20000 in
theorem gX1_measure_22 {xs : List Int} {d : Nat} {M : z_M} {P : Option z_V → z_L → z_M → Prop} {x0 : Int} {x1 : Int} {x2 : Int} {x3 : Int} {w4 : z_V} (hx0 : z_gor M x0)
    (b1 : (x3 ≤ 0) → 0 ≤ (z_w (x1 * 4)) ∧ (z_w (x1 * 4)) < 100)
    (l1 : (x3 ≤ 0) → wp xs d mX1_measure 44 [(2, x0), (0, x1), (0, x2), (0, x3), w4] [] z_LL (z_up M (x0 + 9) (z_w (x1 * 4)) (-1)) P)
    (b2 : (¬ (x3 ≤ 0)) → 0 ≤ (z_w (x1 * 4)) ∧ (z_w (x1 * 4)) < 100)
    (l2 : (¬ (x3 ≤ 0)) → wp xs d mX1_measure 44 [(2, x0), (0, x1), (0, x2), (0, x3), w4] [] z_LL (z_up M (x0 + 9) (z_w (x1 * 4)) (z_w (x1 - (M x0 10)))) P) :
    wp xs d mX1_measure 22 [(2, x0), (0, x1), (0, x2), (0, x3), w4] [] z_LL M P := by
  refine wp_run 1 (pc' := 23) (ls' := [(2, x0), (0, x1), (0, x2), (0, x3), w4]) (st' := [(2, x0)]) rfl ?_
  refine wp_gf (pc' := 26) (t := 2) (v := (x0 + 9)) rfl rfl (by decide) rfl (z_gl0 hx0) (z_gf8 hx0) ?_
  refine wp_run 4 (pc' := 30) (ls' := [(2, x0), (0, x1), (0, x2), (0, x3), w4]) (st' := [(0, x3), (0, (z_w (x1 * 4))), (2, (x0 + 9))]) rfl ?_
  refine wp_if1 rfl rfl rfl (fun (c1 : x3 ≤ 0) => ?_) (fun (c1 : ¬ (x3 ≤ 0)) => ?_)
  · refine wp_run 1 (pc' := 43) (ls' := [(2, x0), (0, x1), (0, x2), (0, x3), w4]) (st' := [(0, (-1)), (0, (z_w (x1 * 4))), (2, (x0 + 9))]) rfl ?_
    refine wp_iast (pc' := 44) rfl rfl (z_gl9 hx0) (b1 c1) ?_
    exact l1 c1
  · refine wp_run 2 (pc' := 35) (ls' := [(2, x0), (0, x1), (0, x2), (0, x3), w4]) (st' := [(2, x0), (0, x1), (0, (z_w (x1 * 4))), (2, (x0 + 9))]) rfl ?_
    refine wp_gf (pc' := 38) (t := 0) (v := (M x0 10)) rfl rfl (by decide) rfl (z_gl0 hx0) rfl ?_
    refine wp_run 2 (pc' := 43) (ls' := [(2, x0), (0, x1), (0, x2), (0, x3), w4]) (st' := [(0, (z_w (x1 - (M x0 10)))), (0, (z_w (x1 * 4))), (2, (x0 + 9))]) rfl ?_
    refine wp_iast (pc' := 44) rfl rfl (z_gl9 hx0) (b2 c1) ?_
    exact l2 c1
set_option maxRecDepth 20000 in
theorem gX1_measure_44 {xs : List Int} {d : Nat} {M : z_M} {P : Option z_V → z_L → z_M → Prop} {x0 : Int} {x1 : Int} {x2 : Int} {x3 : Int} {w4 : z_V} (hx0 : z_gor M x0)
    (b1 : (x2 ≤ 0) → 0 ≤ (z_w ((z_w (x1 * 4)) + 1)) ∧ (z_w ((z_w (x1 * 4)) + 1)) < 100)
    (l1 : (x2 ≤ 0) → wp xs d mX1_measure 65 [(2, x0), (0, x1), (0, x2), (0, x3), w4] [] z_LL (z_up M (x0 + 9) (z_w ((z_w (x1 * 4)) + 1)) (-1)) P)
    (b2 : (¬ (x2 ≤ 0)) → 0 ≤ (z_w ((z_w (x1 * 4)) + 1)) ∧ (z_w ((z_w (x1 * 4)) + 1)) < 100)
    (l2 : (¬ (x2 ≤ 0)) → wp xs d mX1_measure 65 [(2, x0), (0, x1), (0, x2), (0, x3), w4] [] z_LL (z_up M (x0 + 9) (z_w ((z_w (x1 * 4)) + 1)) (z_w (x1 - 1))) P) :
    wp xs d mX1_measure 44 [(2, x0), (0, x1), (0, x2), (0, x3), w4] [] z_LL M P := by
  refine wp_run 1 (pc' := 45) (ls' := [(2, x0), (0, x1), (0, x2), (0, x3), w4]) (st' := [(2, x0)]) rfl ?_
  refine wp_gf (pc' := 48) (t := 2) (v := (x0 + 9)) rfl rfl (by decide) rfl (z_gl0 hx0) (z_gf8 hx0) ?_
  refine wp_run 6 (pc' := 54) (ls' := [(2, x0), (0, x1), (0, x2), (0, x3), w4]) (st' := [(0, x2), (0, (z_w ((z_w (x1 * 4)) + 1))), (2, (x0 + 9))]) rfl ?_
  refine wp_if1 rfl rfl rfl (fun (c1 : x2 ≤ 0) => ?_) (fun (c1 : ¬ (x2 ≤ 0)) => ?_)
  · refine wp_run 1 (pc' := 64) (ls' := [(2, x0), (0, x1), (0, x2), (0, x3), w4]) (st' := [(0, (-1)), (0, (z_w ((z_w (x1 * 4)) + 1))), (2, (x0 + 9))]) rfl ?_
    refine wp_iast (pc' := 65) rfl rfl (z_gl9 hx0) (b1 c1) ?_
    exact l1 c1
  · refine wp_run 4 (pc' := 64) (ls' := [(2, x0), (0, x1), (0, x2), (0, x3), w4]) (st' := [(0, (z_w (x1 - 1))), (0, (z_w ((z_w (x1 * 4)) + 1))), (2, (x0 + 9))]) rfl ?_
    refine wp_iast (pc' := 65) rfl rfl (z_gl9 hx0) (b2 c1) ?_
    exact l2 c1
set_option maxRecDepth 20000 in
theorem gX1_measure_65 {xs : List Int} {d : Nat} {M : z_M} {P : Option z_V → z_L → z_M → Prop} {x0 : Int} {x1 : Int} {x2 : Int} {x3 : Int} {w4 : z_V} (hx0 : z_gor M x0)
    (b1 : ((z_w ((M x0 10) - 1)) ≤ x2) → 0 ≤ (z_w ((z_w (x1 * 4)) + 2)) ∧ (z_w ((z_w (x1 * 4)) + 2)) < 100)
    (l1 : ((z_w ((M x0 10) - 1)) ≤ x2) → wp xs d mX1_measure 92 [(2, x0), (0, x1), (0, x2), (0, x3), w4] [] z_LL (z_up M (x0 + 9) (z_w ((z_w (x1 * 4)) + 2)) (-1)) P)
    (b2 : (¬ ((z_w ((M x0 10) - 1)) ≤ x2)) → 0 ≤ (z_w ((z_w (x1 * 4)) + 2)) ∧ (z_w ((z_w (x1 * 4)) + 2)) < 100)
    (l2 : (¬ ((z_w ((M x0 10) - 1)) ≤ x2)) → wp xs d mX1_measure 92 [(2, x0), (0, x1), (0, x2), (0, x3), w4] [] z_LL (z_up M (x0 + 9) (z_w ((z_w (x1 * 4)) + 2)) (z_w (x1 + 1))) P) :
    wp xs d mX1_measure 65 [(2, x0), (0, x1), (0, x2), (0, x3), w4] [] z_LL M P := by
  refine wp_run 1 (pc' := 66) (ls' := [(2, x0), (0, x1), (0, x2), (0, x3), w4]) (st' := [(2, x0)]) rfl ?_
  refine wp_gf (pc' := 69) (t := 2) (v := (x0 + 9)) rfl rfl (by decide) rfl (z_gl0 hx0) (z_gf8 hx0) ?_
  refine wp_run 7 (pc' := 76) (ls' := [(2, x0), (0, x1), (0, x2), (0, x3), w4]) (st' := [(2, x0), (0, x2), (0, (z_w ((z_w (x1 * 4)) + 2))), (2, (x0 + 9))]) rfl ?_
  refine wp_gf (pc' := 79) (t := 0) (v := (M x0 10)) rfl rfl (by decide) rfl (z_gl0 hx0) rfl ?_
  refine wp_run 2 (pc' := 81) (ls' := [(2, x0), (0, x1), (0, x2), (0, x3), w4]) (st' := [(0, (z_w ((M x0 10) - 1))), (0, x2), (0, (z_w ((z_w (x1 * 4)) + 2))), (2, (x0 + 9))]) rfl ?_
  refine wp_if2 rfl rfl rfl (fun (c1 : (z_w ((M x0 10) - 1)) ≤ x2) => ?_) (fun (c1 : ¬ ((z_w ((M x0 10) - 1)) ≤ x2)) => ?_)
  · refine wp_run 1 (pc' := 91) (ls' := [(2, x0), (0, x1), (0, x2), (0, x3), w4]) (st' := [(0, (-1)), (0, (z_w ((z_w (x1 * 4)) + 2))), (2, (x0 + 9))]) rfl ?_
    refine wp_iast (pc' := 92) rfl rfl (z_gl9 hx0) (b1 c1) ?_
    exact l1 c1
  · refine wp_run 4 (pc' := 91) (ls' := [(2, x0), (0, x1), (0, x2), (0, x3), w4]) (st' := [(0, (z_w (x1 + 1))), (0, (z_w ((z_w (x1 * 4)) + 2))), (2, (x0 + 9))]) rfl ?_
    refine wp_iast (pc' := 92) rfl rfl (z_gl9 hx0) (b2 c1) ?_
    exact l2 c1
set_option maxRecDepth 20000 in
theorem gX1_measure_92 {xs : List Int} {d : Nat} {M : z_M} {P : Option z_V → z_L → z_M → Prop} {x0 : Int} {x1 : Int} {x2 : Int} {x3 : Int} {w4 : z_V} (hx0 : z_gor M x0)
    (b1 : ((z_w ((M x0 11) - 1)) ≤ x3) → 0 ≤ (z_w ((z_w (x1 * 4)) + 3)) ∧ (z_w ((z_w (x1 * 4)) + 3)) < 100)
    (l1 : ((z_w ((M x0 11) - 1)) ≤ x3) → wp xs d mX1_measure 122 [(2, x0), (0, x1), (0, x2), (0, x3), w4] [] z_LL (z_up M (x0 + 9) (z_w ((z_w (x1 * 4)) + 3)) (-1)) P)
    (b2 : (¬ ((z_w ((M x0 11) - 1)) ≤ x3)) → 0 ≤ (z_w ((z_w (x1 * 4)) + 3)) ∧ (z_w ((z_w (x1 * 4)) + 3)) < 100)
    (l2 : (¬ ((z_w ((M x0 11) - 1)) ≤ x3)) → wp xs d mX1_measure 122 [(2, x0), (0, x1), (0, x2), (0, x3), w4] [] z_LL (z_up M (x0 + 9) (z_w ((z_w (x1 * 4)) + 3)) (z_w (x1 + (M x0 10)))) P) :
    wp xs d mX1_measure 92 [(2, x0), (0, x1), (0, x2), (0, x3), w4] [] z_LL M P := by
  refine wp_run 1 (pc' := 93) (ls' := [(2, x0), (0, x1), (0, x2), (0, x3), w4]) (st' := [(2, x0)]) rfl ?_
  refine wp_gf (pc' := 96) (t := 2) (v := (x0 + 9)) rfl rfl (by decide) rfl (z_gl0 hx0) (z_gf8 hx0) ?_
  refine wp_run 7 (pc' := 103) (ls' := [(2, x0), (0, x1), (0, x2), (0, x3), w4]) (st' := [(2, x0), (0, x3), (0, (z_w ((z_w (x1 * 4)) + 3))), (2, (x0 + 9))]) rfl ?_
  refine wp_gf (pc' := 106) (t := 0) (v := (M x0 11)) rfl rfl (by decide) rfl (z_gl0 hx0) rfl ?_
  refine wp_run 2 (pc' := 108) (ls' := [(2, x0), (0, x1), (0, x2), (0, x3), w4]) (st' := [(0, (z_w ((M x0 11) - 1))), (0, x3), (0, (z_w ((z_w (x1 * 4)) + 3))), (2, (x0 + 9))]) rfl ?_
  refine wp_if2 rfl rfl rfl (fun (c1 : (z_w ((M x0 11) - 1)) ≤ x3) => ?_) (fun (c1 : ¬ ((z_w ((M x0 11) - 1)) ≤ x3)) => ?_)
  · refine wp_run 1 (pc' := 121) (ls' := [(2, x0), (0, x1), (0, x2), (0, x3), w4]) (st' := [(0, (-1)), (0, (z_w ((z_w (x1 * 4)) + 3))), (2, (x0 + 9))]) rfl ?_
    refine wp_iast (pc' := 122) rfl rfl (z_gl9 hx0) (b1 c1) ?_
    exact l1 c1
  · refine wp_run 2 (pc' := 113) (ls' := [(2, x0), (0, x1), (0, x2), (0, x3), w4]) (st' := [(2, x0), (0, x1), (0, (z_w ((z_w (x1 * 4)) + 3))), (2, (x0 + 9))]) rfl ?_
    refine wp_gf (pc' := 116) (t := 0) (v := (M x0 10)) rfl rfl (by decide) rfl (z_gl0 hx0) rfl ?_
    refine wp_run 2 (pc' := 121) (ls' := [(2, x0), (0, x1), (0, x2), (0, x3), w4]) (st' := [(0, (z_w (x1 + (M x0 10)))), (0, (z_w ((z_w (x1 * 4)) + 3))), (2, (x0 + 9))]) rfl ?_
    refine wp_iast (pc' := 122) rfl rfl (z_gl9 hx0) (b2 c1) ?_
    exact l2 c1
set_option maxRecDepth 20000 in
theorem gX1_measure_122 {xs : List Int} {d : Nat} {M : z_M} {P : Option z_V → z_L → z_M → Prop} {x0 : Int} {x1 : Int} {x2 : Int} {x3 : Int} {w4 : z_V} (hx0 : z_gor M x0)
    (l1 : wp xs d mX1_measure 125 [(2, x0), (0, x1), (0, x2), (0, x3), (0, 0)] [] z_LL M P) :
    wp xs d mX1_measure 122 [(2, x0), (0, x1), (0, x2), (0, x3), w4] [] z_LL M P := by
  refine wp_run 2 (pc' := 125) (ls' := [(2, x0), (0, x1), (0, x2), (0, x3), (0, 0)]) (st' := []) rfl ?_
  exact l1
set_option maxRecDepth 20000 in
theorem gX1_measure_125 {xs : List Int} {d : Nat} {M : z_M} {P : Option z_V → z_L → z_M → Prop} {x0 : Int} {x1 : Int} {x2 : Int} {x3 : Int} {x4 : Int} (hx0 : z_gor M x0)
    (l1 : ((M x0 12) ≤ x4) → wp xs (d + 1) mX1_measure 2 [(2, x0), (0, (z_w (x1 + 1))), (0, x2), (0, x3), (0, x4)] [] z_LL M P)
    (b1 : (¬ ((M x0 12) ≤ x4)) → 0 ≤ x4 ∧ x4 < 6)
    (l2 : (¬ ((M x0 12) ≤ x4)) → wp xs d mX1_apart 0 [(2, x0), (0, x1), (0, (M (x0 + 4) x4))] [] z_LL M (fun r L1 M1 => wp xs (d + 1) mX1_measure 157 [(2, x0), (0, x1), (0, x2), (0, x3), (0, x4)] (z_ol r ++ [(0, (z_w ((z_w (x4 * 25)) + x1))), (2, (x0 + 10))]) L1 M1 P)) :
    wp xs (d + 1) mX1_measure 125 [(2, x0), (0, x1), (0, x2), (0, x3), (0, x4)] [] z_LL M P := by
  refine wp_run 2 (pc' := 128) (ls' := [(2, x0), (0, x1), (0, x2), (0, x3), (0, x4)]) (st' := [(2, x0), (0, x4)]) rfl ?_
  refine wp_gf (pc' := 131) (t := 0) (v := (M x0 12)) rfl rfl (by decide) rfl (z_gl0 hx0) rfl ?_
  refine wp_if2 rfl rfl rfl (fun (c1 : (M x0 12) ≤ x4) => ?_) (fun (c1 : ¬ ((M x0 12) ≤ x4)) => ?_)
  · refine wp_run 2 (pc' := 2) (ls' := [(2, x0), (0, (z_w (x1 + 1))), (0, x2), (0, x3), (0, x4)]) (st' := []) rfl ?_
    exact l1 c1
  · refine wp_run 1 (pc' := 135) (ls' := [(2, x0), (0, x1), (0, x2), (0, x3), (0, x4)]) (st' := [(2, x0)]) rfl ?_
    refine wp_gf (pc' := 138) (t := 2) (v := (x0 + 10)) rfl rfl (by decide) rfl (z_gl0 hx0) (z_gf9 hx0) ?_
    refine wp_run 8 (pc' := 148) (ls' := [(2, x0), (0, x1), (0, x2), (0, x3), (0, x4)]) (st' := [(2, x0), (0, x1), (2, x0), (0, (z_w ((z_w (x4 * 25)) + x1))), (2, (x0 + 10))]) rfl ?_
    refine wp_gf (pc' := 151) (t := 2) (v := (x0 + 4)) rfl rfl (by decide) rfl (z_gl0 hx0) (z_gf3 hx0) ?_
    refine wp_run 1 (pc' := 153) (ls' := [(2, x0), (0, x1), (0, x2), (0, x3), (0, x4)]) (st' := [(0, x4), (2, (x0 + 4)), (0, x1), (2, x0), (0, (z_w ((z_w (x4 * 25)) + x1))), (2, (x0 + 10))]) rfl ?_
    refine wp_iald (pc' := 154) (v := (M (x0 + 4) x4)) rfl rfl (z_gl4 hx0) (b1 c1) rfl ?_
    refine wp_callv (pc' := 157) (as := [(2, x0), (0, x1), (0, (M (x0 + 4) x4))]) (rest := [(0, (z_w ((z_w (x4 * 25)) + x1))), (2, (x0 + 10))]) (ls1 := [(2, x0), (0, x1), (0, (M (x0 + 4) x4))]) rfl rfl rfl rfl (z_args_v rfl rfl rfl rfl (Nat.le_of_ble_eq_true rfl) rfl (by decide) (z_gl0 hx0)) rfl ?_
    exact l2 c1
set_option maxRecDepth 20000 in
theorem gX1_measure_157 {xs : List Int} {d : Nat} {M : z_M} {P : Option z_V → z_L → z_M → Prop} {x0 : Int} {x1 : Int} {x2 : Int} {x3 : Int} {x4 : Int} {s0 : Int} {s1 : Int} {s2 : Int} (hx0 : z_gor M x0) (hs0 : z_lay z_LL s0 = some (0, 150))
    (b1 : 0 ≤ s1 ∧ s1 < 150)
    (l1 : wp xs d mX1_measure 125 [(2, x0), (0, x1), (0, x2), (0, x3), (0, (z_w (x4 + 1)))] [] z_LL (z_up M s0 s1 s2) P) :
    wp xs d mX1_measure 157 [(2, x0), (0, x1), (0, x2), (0, x3), (0, x4)] [(0, s2), (0, s1), (2, s0)] z_LL M P := by
  refine wp_iast (pc' := 158) rfl rfl hs0 (b1) ?_
  refine wp_run 2 (pc' := 125) (ls' := [(2, x0), (0, x1), (0, x2), (0, x3), (0, (z_w (x4 + 1)))]) (st' := []) rfl ?_
  exact l1
set_option maxRecDepth 20000 in
theorem gX5_sow_0 {xs : List Int} {d : Nat} {M : z_M} {P : Option z_V → z_L → z_M → Prop} 
    (l1 : wp xs d mX5_sow 2 [(2, 33), (0, 0)] [] z_LL M P) :
    wp xs d mX5_sow 0 [(2, 33), (3, 0)] [] z_LL M P := by
  refine wp_run 2 (pc' := 2) (ls' := [(2, 33), (0, 0)]) (st' := []) rfl ?_
  exact l1
set_option maxRecDepth 20000 in
theorem gX5_sow_2 {xs : List Int} {d : Nat} {M : z_M} {P : Option z_V → z_L → z_M → Prop} {x1 : Int} (hg1 : z_gor M (M 33 3))
    (l1 : (25 ≤ x1) → P none z_LL M)
    (b1 : (¬ (25 ≤ x1)) → 0 ≤ x1 ∧ x1 < 25)
    (l2 : (¬ (25 ≤ x1)) → ((M ((M 33 3) + 7) x1) ≠ (-1)) → wp xs d mX5_sow 2 [(2, 33), (0, (z_w (x1 + 1)))] [] z_LL M P)
    (l3 : (¬ (25 ≤ x1)) → (¬ ((M ((M 33 3) + 7) x1) ≠ (-1))) → wp xs d mX5_sow 2 [(2, 33), (0, (z_w (x1 + 1)))] [] z_LL (z_up M ((M 33 3) + 7) x1 (M 33 6)) P) :
    wp xs d mX5_sow 2 [(2, 33), (0, x1)] [] z_LL M P := by
  refine wp_run 2 (pc' := 5) (ls' := [(2, 33), (0, x1)]) (st' := [(0, 25), (0, x1)]) rfl ?_
  refine wp_if2 rfl rfl rfl (fun (c1 : 25 ≤ x1) => ?_) (fun (c1 : ¬ (25 ≤ x1)) => ?_)
  · exact wp_ret rfl rfl (l1 c1)
  · refine wp_run 1 (pc' := 9) (ls' := [(2, 33), (0, x1)]) (st' := [(2, 33)]) rfl ?_
    refine wp_gf (pc' := 12) (t := 2) (v := (M 33 3)) rfl rfl (by decide) rfl rfl rfl ?_
    refine wp_gf (pc' := 15) (t := 2) (v := ((M 33 3) + 7)) rfl rfl (by decide) rfl (z_gl0 hg1) (z_gf6 hg1) ?_
    refine wp_run 1 (pc' := 16) (ls' := [(2, 33), (0, x1)]) (st' := [(0, x1), (2, ((M 33 3) + 7))]) rfl ?_
    refine wp_iald (pc' := 17) (v := (M ((M 33 3) + 7) x1)) rfl rfl (z_gl7 hg1) (b1 c1) rfl ?_
    refine wp_run 1 (pc' := 18) (ls' := [(2, 33), (0, x1)]) (st' := [(0, (-1)), (0, (M ((M 33 3) + 7) x1))]) rfl ?_
    refine wp_if2 rfl rfl rfl (fun (c2 : (M ((M 33 3) + 7) x1) ≠ (-1)) => ?_) (fun (c2 : ¬ ((M ((M 33 3) + 7) x1) ≠ (-1))) => ?_)
    · refine wp_run 2 (pc' := 2) (ls' := [(2, 33), (0, (z_w (x1 + 1)))]) (st' := []) rfl ?_
      exact l2 c1 c2
    · refine wp_run 1 (pc' := 22) (ls' := [(2, 33), (0, x1)]) (st' := [(2, 33)]) rfl ?_
      refine wp_gf (pc' := 25) (t := 2) (v := (M 33 3)) rfl rfl (by decide) rfl rfl rfl ?_
      refine wp_gf (pc' := 28) (t := 2) (v := ((M 33 3) + 7)) rfl rfl (by decide) rfl (z_gl0 hg1) (z_gf6 hg1) ?_
      refine wp_run 2 (pc' := 30) (ls' := [(2, 33), (0, x1)]) (st' := [(2, 33), (0, x1), (2, ((M 33 3) + 7))]) rfl ?_
      refine wp_gf (pc' := 33) (t := 0) (v := (M 33 6)) rfl rfl (by decide) rfl rfl rfl ?_
      refine wp_iast (pc' := 34) rfl rfl (z_gl7 hg1) (b1 c1) ?_
      refine wp_run 2 (pc' := 2) (ls' := [(2, 33), (0, (z_w (x1 + 1)))]) (st' := []) rfl ?_
      exact l3 c1 c2
set_option maxRecDepth 20000 in
theorem gX1_clear_0 {xs : List Int} {d : Nat} {M : z_M} {P : Option z_V → z_L → z_M → Prop} {g : Int} (hg : z_gor M g)
    (l1 : wp xs d mJ7_fill_53178 0 [(2, (g + 5)), (0, 0), (3, 0), (3, 0)] [] z_LL (z_up (z_up (z_up (z_up (z_up (z_up (z_up (z_up (z_up (z_up M g 10 4) g 11 4) g 12 0) g 13 0) g 14 0) g 15 0) g 16 0) g 17 1) g 18 9) g 19 0) (fun r L1 M1 => wp xs (d + 1) mX1_clear 59 [(2, g)] (z_ol r ++ []) L1 M1 P)) :
    wp xs (d + 1) mX1_clear 0 [(2, g)] [] z_LL M P := by
  refine wp_run 2 (pc' := 2) (ls' := [(2, g)]) (st' := [(0, 4), (2, g)]) rfl ?_
  refine wp_pf (pc' := 5) rfl rfl rfl (z_gl0 hg) (fun z => absurd z (by decide)) (fun z => absurd z (by decide)) ?_
  refine wp_run 2 (pc' := 7) (ls' := [(2, g)]) (st' := [(0, 4), (2, g)]) rfl ?_
  refine wp_pf (pc' := 10) rfl rfl rfl (z_gl0 hg) (fun z => absurd z (by decide)) (fun z => absurd z (by decide)) ?_
  refine wp_run 2 (pc' := 12) (ls' := [(2, g)]) (st' := [(0, 0), (2, g)]) rfl ?_
  refine wp_pf (pc' := 15) rfl rfl rfl (z_gl0 hg) (fun z => absurd z (by decide)) (fun z => absurd z (by decide)) ?_
  refine wp_run 2 (pc' := 17) (ls' := [(2, g)]) (st' := [(0, 0), (2, g)]) rfl ?_
  refine wp_pf (pc' := 20) rfl rfl rfl (z_gl0 hg) (fun z => absurd z (by decide)) (fun z => absurd z (by decide)) ?_
  refine wp_run 2 (pc' := 22) (ls' := [(2, g)]) (st' := [(0, 0), (2, g)]) rfl ?_
  refine wp_pf (pc' := 25) rfl rfl rfl (z_gl0 hg) (fun z => absurd z (by decide)) (fun z => absurd z (by decide)) ?_
  refine wp_run 2 (pc' := 27) (ls' := [(2, g)]) (st' := [(0, 0), (2, g)]) rfl ?_
  refine wp_pf (pc' := 30) rfl rfl rfl (z_gl0 hg) (fun z => absurd z (by decide)) (fun z => absurd z (by decide)) ?_
  refine wp_run 2 (pc' := 32) (ls' := [(2, g)]) (st' := [(0, 0), (2, g)]) rfl ?_
  refine wp_pf (pc' := 35) rfl rfl rfl (z_gl0 hg) (fun z => absurd z (by decide)) (fun z => absurd z (by decide)) ?_
  refine wp_run 2 (pc' := 37) (ls' := [(2, g)]) (st' := [(0, 1), (2, g)]) rfl ?_
  refine wp_pf (pc' := 40) rfl rfl rfl (z_gl0 hg) (fun z => absurd z (by decide)) (fun z => absurd z (by decide)) ?_
  refine wp_run 2 (pc' := 43) (ls' := [(2, g)]) (st' := [(0, 9), (2, g)]) rfl ?_
  refine wp_pf (pc' := 46) rfl rfl rfl (z_gl0 hg) (fun z => absurd z (by decide)) (fun z => absurd z (by decide)) ?_
  refine wp_run 2 (pc' := 48) (ls' := [(2, g)]) (st' := [(0, 0), (2, g)]) rfl ?_
  refine wp_pf (pc' := 51) rfl rfl rfl (z_gl0 hg) (fun z => absurd z (by decide)) (fun z => absurd z (by decide)) ?_
  refine wp_run 1 (pc' := 52) (ls' := [(2, g)]) (st' := [(2, g)]) rfl ?_
  refine wp_gf (pc' := 55) (t := 2) (v := (g + 5)) rfl rfl (by decide) rfl (z_gl0 hg) (z_upi (by decide) (z_upi (by decide) (z_upi (by decide) (z_upi (by decide) (z_upi (by decide) (z_upi (by decide) (z_upi (by decide) (z_upi (by decide) (z_upi (by decide) (z_upi (by decide) (z_gf4 hg))))))))))) ?_
  refine wp_run 1 (pc' := 56) (ls' := [(2, g)]) (st' := [(0, 0), (2, (g + 5))]) rfl ?_
  refine wp_callv (pc' := 59) (as := [(2, (g + 5)), (0, 0)]) (rest := []) (ls1 := [(2, (g + 5)), (0, 0), (3, 0), (3, 0)]) rfl rfl rfl rfl rfl rfl ?_
  exact l1
set_option maxRecDepth 20000 in
theorem gX1_clear_59 {xs : List Int} {d : Nat} {M : z_M} {P : Option z_V → z_L → z_M → Prop} {x0 : Int} (hx0 : z_gor M x0)
    (l1 : wp xs d mJ7_fill_53178 0 [(2, (x0 + 6)), (0, (-1)), (3, 0), (3, 0)] [] z_LL M (fun r L1 M1 => wp xs (d + 1) mX1_clear 67 [(2, x0)] (z_ol r ++ []) L1 M1 P)) :
    wp xs (d + 1) mX1_clear 59 [(2, x0)] [] z_LL M P := by
  refine wp_run 1 (pc' := 60) (ls' := [(2, x0)]) (st' := [(2, x0)]) rfl ?_
  refine wp_gf (pc' := 63) (t := 2) (v := (x0 + 6)) rfl rfl (by decide) rfl (z_gl0 hx0) (z_gf5 hx0) ?_
  refine wp_run 1 (pc' := 64) (ls' := [(2, x0)]) (st' := [(0, (-1)), (2, (x0 + 6))]) rfl ?_
  refine wp_callv (pc' := 67) (as := [(2, (x0 + 6)), (0, (-1))]) (rest := []) (ls1 := [(2, (x0 + 6)), (0, (-1)), (3, 0), (3, 0)]) rfl rfl rfl rfl rfl rfl ?_
  exact l1
set_option maxRecDepth 20000 in
theorem gX1_clear_67 {xs : List Int} {d : Nat} {M : z_M} {P : Option z_V → z_L → z_M → Prop} {x0 : Int} (hx0 : z_gor M x0)
    (l1 : wp xs d mJ7_fill_53178 0 [(2, (x0 + 7)), (0, (-1)), (3, 0), (3, 0)] [] z_LL M (fun r L1 M1 => wp xs (d + 1) mX1_clear 75 [(2, x0)] (z_ol r ++ []) L1 M1 P)) :
    wp xs (d + 1) mX1_clear 67 [(2, x0)] [] z_LL M P := by
  refine wp_run 1 (pc' := 68) (ls' := [(2, x0)]) (st' := [(2, x0)]) rfl ?_
  refine wp_gf (pc' := 71) (t := 2) (v := (x0 + 7)) rfl rfl (by decide) rfl (z_gl0 hx0) (z_gf6 hx0) ?_
  refine wp_run 1 (pc' := 72) (ls' := [(2, x0)]) (st' := [(0, (-1)), (2, (x0 + 7))]) rfl ?_
  refine wp_callv (pc' := 75) (as := [(2, (x0 + 7)), (0, (-1))]) (rest := []) (ls1 := [(2, (x0 + 7)), (0, (-1)), (3, 0), (3, 0)]) rfl rfl rfl rfl rfl rfl ?_
  exact l1
set_option maxRecDepth 20000 in
theorem gX1_clear_75 {xs : List Int} {d : Nat} {M : z_M} {P : Option z_V → z_L → z_M → Prop} {x0 : Int} (hx0 : z_gor M x0)
    (l1 : P none z_LL M) :
    wp xs d mX1_clear 75 [(2, x0)] [] z_LL M P := by
  exact wp_ret rfl rfl (l1)
set_option maxRecDepth 20000 in
theorem gX7_rewind_0 {xs : List Int} {d : Nat} {M : z_M} {P : Option z_V → z_L → z_M → Prop} 
    (l1 : wp xs d mX7_step 0 [(2, 30)] [] z_LL (z_up M 30 7 0) (fun r L1 M1 => wp xs (d + 1) mX7_rewind 9 [(2, 30)] (z_ol r ++ []) L1 M1 P)) :
    wp xs (d + 1) mX7_rewind 0 [(2, 30)] [] z_LL M P := by
  refine wp_run 2 (pc' := 2) (ls' := [(2, 30)]) (st' := [(0, 0), (2, 30)]) rfl ?_
  refine wp_pf (pc' := 5) rfl rfl rfl rfl (fun z => absurd z (by decide)) (fun z => absurd z (by decide)) ?_
  refine wp_run 1 (pc' := 6) (ls' := [(2, 30)]) (st' := [(2, 30)]) rfl ?_
  refine wp_callv (pc' := 9) (as := [(2, 30)]) (rest := []) (ls1 := [(2, 30)]) rfl rfl rfl rfl rfl rfl ?_
  exact l1
set_option maxRecDepth 20000 in
theorem gX7_rewind_9 {xs : List Int} {d : Nat} {M : z_M} {P : Option z_V → z_L → z_M → Prop} 
    (l1 : P none z_LL M) :
    wp xs d mX7_rewind 9 [(2, 30)] [] z_LL M P := by
  exact wp_ret rfl rfl (l1)
set_option maxRecDepth 20000 in
theorem gX5_reads_0 {xs : List Int} {d : Nat} {M : z_M} {P : Option z_V → z_L → z_M → Prop} {a1 : Int} (ha1 : z_gor M a1)
    (l1 : wp xs d mX1_clear 0 [(2, a1)] [] z_LL (z_up M 33 3 a1) (fun r L1 M1 => wp xs (d + 1) mX5_reads 12 [(2, 33), (2, a1), (3, 0)] (z_ol r ++ []) L1 M1 P)) :
    wp xs (d + 1) mX5_reads 0 [(2, 33), (2, a1), (3, 0)] [] z_LL M P := by
  refine wp_run 2 (pc' := 2) (ls' := [(2, 33), (2, a1), (3, 0)]) (st' := [(2, a1), (2, 33)]) rfl ?_
  refine wp_pf (pc' := 5) rfl rfl rfl rfl (fun _ => by have := z_gr ha1; omega) (fun z => absurd z (by decide)) ?_
  refine wp_run 1 (pc' := 6) (ls' := [(2, 33), (2, a1), (3, 0)]) (st' := [(2, 33)]) rfl ?_
  refine wp_gf (pc' := 9) (t := 2) (v := a1) rfl rfl (by decide) rfl rfl z_ups ?_
  refine wp_callv (pc' := 12) (as := [(2, a1)]) (rest := []) (ls1 := [(2, a1)]) rfl rfl rfl rfl (z_args_v rfl rfl rfl rfl (Nat.le_of_ble_eq_true rfl) rfl (by decide) (z_gl0 ha1)) rfl ?_
  exact l1
set_option maxRecDepth 20000 in
theorem gX5_reads_12 {xs : List Int} {d : Nat} {M : z_M} {P : Option z_V → z_L → z_M → Prop} {x1 : Int} (hF : z_fix M) (hx1 : z_gor M x1)
    (l1 : wp xs d mX7_rewind 0 [(2, 30)] [] z_LL (z_up (z_up (z_up (z_up (z_up M 33 1 0) 33 2 (-1)) 33 4 0) 33 5 0) 33 6 5) (fun r L1 M1 => wp xs (d + 1) mX5_reads 44 [(2, 33), (2, x1), (3, 0)] (z_ol r ++ []) L1 M1 P)) :
    wp xs (d + 1) mX5_reads 12 [(2, 33), (2, x1), (3, 0)] [] z_LL M P := by
  refine wp_run 2 (pc' := 14) (ls' := [(2, 33), (2, x1), (3, 0)]) (st' := [(0, 0), (2, 33)]) rfl ?_
  refine wp_pf (pc' := 17) rfl rfl rfl rfl (fun z => absurd z (by decide)) (fun z => absurd z (by decide)) ?_
  refine wp_run 2 (pc' := 19) (ls' := [(2, 33), (2, x1), (3, 0)]) (st' := [(0, (-1)), (2, 33)]) rfl ?_
  refine wp_pf (pc' := 22) rfl rfl rfl rfl (fun z => absurd z (by decide)) (fun z => absurd z (by decide)) ?_
  refine wp_run 2 (pc' := 24) (ls' := [(2, 33), (2, x1), (3, 0)]) (st' := [(0, 0), (2, 33)]) rfl ?_
  refine wp_pf (pc' := 27) rfl rfl rfl rfl (fun z => absurd z (by decide)) (fun z => absurd z (by decide)) ?_
  refine wp_run 2 (pc' := 29) (ls' := [(2, 33), (2, x1), (3, 0)]) (st' := [(0, 0), (2, 33)]) rfl ?_
  refine wp_pf (pc' := 32) rfl rfl rfl rfl (fun z => absurd z (by decide)) (fun z => absurd z (by decide)) ?_
  refine wp_run 2 (pc' := 34) (ls' := [(2, 33), (2, x1), (3, 0)]) (st' := [(0, 5), (2, 33)]) rfl ?_
  refine wp_pf (pc' := 37) rfl rfl rfl rfl (fun z => absurd z (by decide)) (fun z => absurd z (by decide)) ?_
  refine wp_run 1 (pc' := 38) (ls' := [(2, 33), (2, x1), (3, 0)]) (st' := [(2, 33)]) rfl ?_
  refine wp_gf (pc' := 41) (t := 2) (v := 30) rfl rfl (by decide) rfl rfl (z_upi (by decide) (z_upi (by decide) (z_upi (by decide) (z_upi (by decide) (z_upi (by decide) (fx_33_0 hF)))))) ?_
  refine wp_callv (pc' := 44) (as := [(2, 30)]) (rest := []) (ls1 := [(2, 30)]) rfl rfl rfl rfl rfl rfl ?_
  exact l1
set_option maxRecDepth 20000 in
theorem gX5_reads_44 {xs : List Int} {d : Nat} {M : z_M} {P : Option z_V → z_L → z_M → Prop} {x1 : Int} (hx1 : z_gor M x1)
    (l1 : wp xs d mX5_reads 46 [(2, 33), (2, x1), (0, 0)] [] z_LL M P) :
    wp xs d mX5_reads 44 [(2, 33), (2, x1), (3, 0)] [] z_LL M P := by
  refine wp_run 2 (pc' := 46) (ls' := [(2, 33), (2, x1), (0, 0)]) (st' := []) rfl ?_
  exact l1
set_option maxRecDepth 20000 in
theorem gX5_reads_46 {xs : List Int} {d : Nat} {M : z_M} {P : Option z_V → z_L → z_M → Prop} {x1 : Int} {x2 : Int} (hF : z_fix M) (hx1 : z_gor M x1)
    (l1 : (1600 ≤ x2) → wp xs d mX5_sow 0 [(2, 33), (3, 0)] [] z_LL M (fun r L1 M1 => wp xs (d + 1) mX5_reads 86 [(2, 33), (2, x1), (0, x2)] (z_ol r ++ []) L1 M1 P))
    (l2 : (¬ (1600 ≤ x2)) → ((M 33 1) ≠ 0) → wp xs d mX5_sow 0 [(2, 33), (3, 0)] [] z_LL M (fun r L1 M1 => wp xs (d + 1) mX5_reads 86 [(2, 33), (2, x1), (0, x2)] (z_ol r ++ []) L1 M1 P))
    (l3 : (¬ (1600 ≤ x2)) → (¬ ((M 33 1) ≠ 0)) → ((M 30 3) = 26) → wp xs d mX5_sow 0 [(2, 33), (3, 0)] [] z_LL M (fun r L1 M1 => wp xs (d + 1) mX5_reads 86 [(2, 33), (2, x1), (0, x2)] (z_ol r ++ []) L1 M1 P))
    (l4 : (¬ (1600 ≤ x2)) → (¬ ((M 33 1) ≠ 0)) → (¬ ((M 30 3) = 26)) → wp xs d mX5_line 0 [(2, 33), (3, 0)] [] z_LL M (fun r L1 M1 => wp xs (d + 1) mX5_reads 76 [(2, 33), (2, x1), (0, x2)] (z_ol r ++ []) L1 M1 P)) :
    wp xs (d + 1) mX5_reads 46 [(2, 33), (2, x1), (0, x2)] [] z_LL M P := by
  refine wp_run 2 (pc' := 50) (ls' := [(2, 33), (2, x1), (0, x2)]) (st' := [(0, 1600), (0, x2)]) rfl ?_
  refine wp_if2 rfl rfl rfl (fun (c1 : 1600 ≤ x2) => ?_) (fun (c1 : ¬ (1600 ≤ x2)) => ?_)
  · refine wp_run 1 (pc' := 83) (ls' := [(2, 33), (2, x1), (0, x2)]) (st' := [(2, 33)]) rfl ?_
    refine wp_callv (pc' := 86) (as := [(2, 33)]) (rest := []) (ls1 := [(2, 33), (3, 0)]) rfl rfl rfl rfl rfl rfl ?_
    exact l1 c1
  · refine wp_run 1 (pc' := 54) (ls' := [(2, 33), (2, x1), (0, x2)]) (st' := [(2, 33)]) rfl ?_
    refine wp_callv (pc' := 57) (as := [(2, 33)]) (rest := []) (ls1 := [(2, 33)]) rfl rfl rfl rfl rfl rfl ?_
    refine wp_run 1 (pc' := 1) (ls' := [(2, 33)]) (st' := [(2, 33)]) rfl ?_
    refine wp_gf (pc' := 4) (t := 0) (v := (M 33 1)) rfl rfl (by decide) rfl rfl rfl ?_
    refine wp_if1 rfl rfl rfl (fun (c2 : (M 33 1) ≠ 0) => ?_) (fun (c2 : ¬ ((M 33 1) ≠ 0)) => ?_)
    · refine wp_run 1 (pc' := 12) (ls' := [(2, 33)]) (st' := [(0, 0)]) rfl ?_
      refine wp_ret rfl rfl ?_
      show wp xs _ mX5_reads 57 [(2, 33), (2, x1), (0, x2)] [(0, 0)] z_LL M _
      refine wp_run 2 (pc' := 83) (ls' := [(2, 33), (2, x1), (0, x2)]) (st' := [(2, 33)]) rfl ?_
      refine wp_callv (pc' := 86) (as := [(2, 33)]) (rest := []) (ls1 := [(2, 33), (3, 0)]) rfl rfl rfl rfl rfl rfl ?_
      exact l2 c1 c2
    · refine wp_run 2 (pc' := 12) (ls' := [(2, 33)]) (st' := [(0, 1)]) rfl ?_
      refine wp_ret rfl rfl ?_
      show wp xs _ mX5_reads 57 [(2, 33), (2, x1), (0, x2)] [(0, 1)] z_LL M _
      refine wp_run 2 (pc' := 61) (ls' := [(2, 33), (2, x1), (0, x2)]) (st' := [(2, 33)]) rfl ?_
      refine wp_gf (pc' := 64) (t := 2) (v := 30) rfl rfl (by decide) rfl rfl (fx_33_0 hF) ?_
      refine wp_gf (pc' := 67) (t := 0) (v := (M 30 3)) rfl rfl (by decide) rfl rfl rfl ?_
      refine wp_run 1 (pc' := 69) (ls' := [(2, 33), (2, x1), (0, x2)]) (st' := [(0, 26), (0, (M 30 3))]) rfl ?_
      refine wp_if2 rfl rfl rfl (fun (c3 : (M 30 3) = 26) => ?_) (fun (c3 : ¬ ((M 30 3) = 26)) => ?_)
      · refine wp_run 1 (pc' := 83) (ls' := [(2, 33), (2, x1), (0, x2)]) (st' := [(2, 33)]) rfl ?_
        refine wp_callv (pc' := 86) (as := [(2, 33)]) (rest := []) (ls1 := [(2, 33), (3, 0)]) rfl rfl rfl rfl rfl rfl ?_
        exact l3 c1 c2 c3
      · refine wp_run 1 (pc' := 73) (ls' := [(2, 33), (2, x1), (0, x2)]) (st' := [(2, 33)]) rfl ?_
        refine wp_callv (pc' := 76) (as := [(2, 33)]) (rest := []) (ls1 := [(2, 33), (3, 0)]) rfl rfl rfl rfl rfl rfl ?_
        exact l4 c1 c2 c3
set_option maxRecDepth 20000 in
theorem gX5_reads_76 {xs : List Int} {d : Nat} {M : z_M} {P : Option z_V → z_L → z_M → Prop} {x1 : Int} {x2 : Int} (hx1 : z_gor M x1)
    (l1 : wp xs d mX5_reads 46 [(2, 33), (2, x1), (0, (z_w (x2 + 1)))] [] z_LL M P) :
    wp xs d mX5_reads 76 [(2, 33), (2, x1), (0, x2)] [] z_LL M P := by
  refine wp_run 2 (pc' := 46) (ls' := [(2, 33), (2, x1), (0, (z_w (x2 + 1)))]) (st' := []) rfl ?_
  exact l1
set_option maxRecDepth 20000 in
theorem gX5_reads_86 {xs : List Int} {d : Nat} {M : z_M} {P : Option z_V → z_L → z_M → Prop} {x1 : Int} {x2 : Int} (hx1 : z_gor M x1) (hg2 : z_gor M (M 33 3))
    (l1 : wp xs d mX1_measure 0 [(2, (M 33 3)), (3, 0), (3, 0), (3, 0), (3, 0)] [] z_LL M (fun r L1 M1 => wp xs (d + 1) mX5_reads 93 [(2, 33), (2, x1), (0, x2)] (z_ol r ++ []) L1 M1 P)) :
    wp xs (d + 1) mX5_reads 86 [(2, 33), (2, x1), (0, x2)] [] z_LL M P := by
  refine wp_run 1 (pc' := 87) (ls' := [(2, 33), (2, x1), (0, x2)]) (st' := [(2, 33)]) rfl ?_
  refine wp_gf (pc' := 90) (t := 2) (v := (M 33 3)) rfl rfl (by decide) rfl rfl rfl ?_
  refine wp_callv (pc' := 93) (as := [(2, (M 33 3))]) (rest := []) (ls1 := [(2, (M 33 3)), (3, 0), (3, 0), (3, 0), (3, 0)]) rfl rfl rfl rfl (z_args_v rfl rfl rfl rfl (Nat.le_of_ble_eq_true rfl) rfl (by decide) (z_gl0 hg2)) rfl ?_
  exact l1
set_option maxRecDepth 20000 in
theorem gX5_reads_93 {xs : List Int} {d : Nat} {M : z_M} {P : Option z_V → z_L → z_M → Prop} {x1 : Int} {x2 : Int} (hx1 : z_gor M x1)
    (l1 : ((M 33 1) ≠ 0) → P (some (0, 0)) z_LL M)
    (l2 : (¬ ((M 33 1) ≠ 0)) → P (some (0, 1)) z_LL M) :
    wp xs (d + 1) mX5_reads 93 [(2, 33), (2, x1), (0, x2)] [] z_LL M P := by
  refine wp_run 1 (pc' := 94) (ls' := [(2, 33), (2, x1), (0, x2)]) (st' := [(2, 33)]) rfl ?_
  refine wp_callv (pc' := 97) (as := [(2, 33)]) (rest := []) (ls1 := [(2, 33)]) rfl rfl rfl rfl rfl rfl ?_
  refine wp_run 1 (pc' := 1) (ls' := [(2, 33)]) (st' := [(2, 33)]) rfl ?_
  refine wp_gf (pc' := 4) (t := 0) (v := (M 33 1)) rfl rfl (by decide) rfl rfl rfl ?_
  refine wp_if1 rfl rfl rfl (fun (c1 : (M 33 1) ≠ 0) => ?_) (fun (c1 : ¬ ((M 33 1) ≠ 0)) => ?_)
  · refine wp_run 1 (pc' := 12) (ls' := [(2, 33)]) (st' := [(0, 0)]) rfl ?_
    refine wp_ret rfl rfl ?_
    show wp xs _ mX5_reads 97 [(2, 33), (2, x1), (0, x2)] [(0, 0)] z_LL M _
    exact wp_ret rfl rfl (l1 c1)
  · refine wp_run 2 (pc' := 12) (ls' := [(2, 33)]) (st' := [(0, 1)]) rfl ?_
    refine wp_ret rfl rfl ?_
    show wp xs _ mX5_reads 97 [(2, 33), (2, x1), (0, x2)] [(0, 1)] z_LL M _
    exact wp_ret rfl rfl (l2 c1)
/-- a cell measured -/
def zm_f (M M' : z_M) (g c : Int) : Prop := (M' (g + 9) (4 * c) = (if c / M g 10 > 0 then c - M g 10 else -1) ∧ M' (g + 9) (4 * c + 1) = (if c % M g 10 > 0 then c - 1 else -1) ∧ M' (g + 9) (4 * c + 2) = (if c % M g 10 < M g 10 - 1 then c + 1 else -1) ∧ M' (g + 9) (4 * c + 3) = (if c / M g 10 < M g 11 - 1 then c + M g 10 else -1)) ∧ ∀ f : Int, 0 ≤ f → f < M g 12 → 0 ≤ M (g + 4) f → M (g + 4) f < 25 → M' (g + 10) (25 * f + c) = z_far (M g 10) (M (g + 4) f) c
theorem z_far_c {c x y : Int} : z_far c x y = z_far c y x := by
  unfold z_far z_dis
  repeat' split
  all_goals omega
theorem zm_cr {C R : Int} (h1 : 2 ≤ C ∧ C ≤ 5) (h2 : 2 ≤ R ∧ R ≤ 5) : 4 ≤ C * R ∧ C * R ≤ 25 := by
  have h : C = 2 ∨ C = 3 ∨ C = 4 ∨ C = 5 := by omega
  rcases h with rfl | rfl | rfl | rfl <;> omega
section
variable {xs : List Int} {d : Nat} {M : z_M} {g : Int}
theorem s_X1_apart_v {P : Option z_V → z_L → z_M → Prop} {c h : Int} (hg : z_gor M g) (hc : 2 ≤ M g 10 ∧ M g 10 ≤ 5) (k : ∀ v : Int, (0 ≤ c → c < 25 → 0 ≤ h → h < 25 → v = z_far (M g 10) c h) → P (some (0, v)) z_LL M) : wp xs (d + 1) mX1_apart 0 [(2, g), (0, c), (0, h)] [] z_LL M P := by
  by_cases w : (0 ≤ c ∧ c < 25) ∧ (0 ≤ h ∧ h < 25)
  · exact s_X1_apart hg hc w.1 w.2 (k _ (fun _ _ _ _ => rfl))
  · have t := gX1_apart_0 (M := M) (xs := xs) (d := d) (P := P) (g := g) (a1 := c) (a2 := h) hg
    have kk : ∀ v : Int, P (some (0, v)) z_LL M := fun v => k v (fun a1 a2 a3 a4 => absurd ⟨⟨a1, a2⟩, a3, a4⟩ w)
    apply t
    case l1 => exact fun _ _ _ _ => kk _
    all_goals (intros; omega)
theorem s_X1_measure {P : Option z_V → z_L → z_M → Prop} (hG : z_gor M g) (h10 : 2 ≤ M g 10 ∧ M g 10 ≤ 5) (h11 : 2 ≤ M g 11 ∧ M g 11 ≤ 5) (h12 : 0 ≤ M g 12 ∧ M g 12 ≤ 6) (k : ∀ M' : z_M, (∀ q, q ≠ g + 9 → q ≠ g + 10 → M' q = M q) → (∀ c : Int, 0 ≤ c → c < M g 10 * M g 11 → zm_f M M' g c) → P none z_LL M') : wp xs (d + 2) mX1_measure 0 [(2, g), (3, 0), (3, 0), (3, 0), (3, 0)] [] z_LL M P := by
  have hs := z_gsep hG
  have cr := zm_cr h10 h11
  obtain ⟨N, hN⟩ : ∃ N : Nat, M g 10 * M g 11 = (N : Int) := ⟨(M g 10 * M g 11).toNat, by omega⟩
  obtain ⟨F, hF⟩ : ∃ F : Nat, M g 12 = (F : Int) := ⟨(M g 12).toNat, by omega⟩
  refine gX1_measure_0 (d := d + 2) hG ?_
  refine z_loop (W := fun i => ∀ (M' : z_M) (w2 w3 w4 : z_V), (∀ q, q ≠ g + 9 → q ≠ g + 10 → M' q = M q) → (∀ c : Int, 0 ≤ c → c < i → zm_f M M' g c) → wp xs (d + 2) mX1_measure 2 [(2, g), (0, (i : Int)), w2, w3, w4] [] z_LL M' P) N (fun i hi ih M' w2 w3 w4 hM hf => ?_) M (3, 0) (3, 0) (3, 0) (fun _ _ _ => rfl) (fun c a b => by omega)
  have eg : M' g = M g := hM g (by omega) (by omega)
  have hG' : z_gor M' g := z_gor_q eg hG
  have t := gX1_measure_2 (M := M') (xs := xs) (d := d + 1) (P := P) (x1 := (i : Int)) (w2 := w2) (w3 := w3) (w4 := w4) hG'
  rw [eg, hN, z_wid (x := (N : Int)) (by omega)] at t
  refine t (fun w => k M' hM (fun c a b => hf c a (by omega))) (fun _ => by omega) (fun w => ?_)
  rw [z_div_pos (by omega) (by omega), z_rem_pos (by omega) (by omega)]
  have rc := z_rc (c := M g 10) (a := (i : Int)) h10 (by omega)
  have e1 : z_w ((i : Int) * 4) = 4 * i := by rw [z_wid (by omega)]; omega
  have e2 : z_w (4 * (i : Int) + 1) = 4 * i + 1 := z_wid (by omega)
  have e3 : z_w (4 * (i : Int) + 2) = 4 * i + 2 := z_wid (by omega)
  have e4 : z_w (4 * (i : Int) + 3) = 4 * i + 3 := z_wid (by omega)
  generalize hx2 : (i : Int) % M g 10 = x2 at rc ⊢
  generalize hx3 : (i : Int) / M g 10 = x3 at rc ⊢
  suffices h : wp xs (d + 2) mX1_measure 44 [(2, g), (0, (i : Int)), (0, x2), (0, x3), w4] [] z_LL (z_up M' (g + 9) (4 * i) (if x3 > 0 then i - M g 10 else -1)) P by
    have t := gX1_measure_22 (M := M') (xs := xs) (d := d + 2) (P := P) (x1 := (i : Int)) (x2 := x2) (x3 := x3) (w4 := w4) hG'
    rw [eg, e1] at t
    refine t (fun _ => by omega) (fun w => ?_) (fun _ => by omega) (fun w => ?_)
    · rw [if_neg (by omega)] at h
      exact h
    · rw [if_pos (by omega)] at h
      rw [z_wid (by omega)]
      exact h
  generalize hv1 : (if x3 > 0 then (i : Int) - M g 10 else -1) = v1
  suffices h : wp xs (d + 2) mX1_measure 65 [(2, g), (0, (i : Int)), (0, x2), (0, x3), w4] [] z_LL (z_up (z_up M' (g + 9) (4 * i) v1) (g + 9) (4 * i + 1) (if x2 > 0 then i - 1 else -1)) P by
    have t := gX1_measure_44 (M := z_up M' (g + 9) (4 * i) v1) (xs := xs) (d := d + 2) (P := P) (x1 := (i : Int)) (x2 := x2) (x3 := x3) (w4 := w4) (z_gor_q (z_upn (by omega)) hG')
    rw [e1, e2] at t
    refine t (fun _ => by omega) (fun w => ?_) (fun _ => by omega) (fun w => ?_)
    · rw [if_neg (by omega)] at h
      exact h
    · rw [if_pos (by omega)] at h
      rw [z_wid (by omega)]
      exact h
  generalize hv2 : (if x2 > 0 then (i : Int) - 1 else -1) = v2
  suffices h : wp xs (d + 2) mX1_measure 92 [(2, g), (0, (i : Int)), (0, x2), (0, x3), w4] [] z_LL (z_up (z_up (z_up M' (g + 9) (4 * i) v1) (g + 9) (4 * i + 1) v2) (g + 9) (4 * i + 2) (if x2 < M g 10 - 1 then i + 1 else -1)) P by
    have t := gX1_measure_65 (M := z_up (z_up M' (g + 9) (4 * i) v1) (g + 9) (4 * i + 1) v2) (xs := xs) (d := d + 2) (P := P) (x1 := (i : Int)) (x2 := x2) (x3 := x3) (w4 := w4) (z_gor_q (by rw [z_upn (by omega), z_upn (by omega)]) hG')
    rw [z_upn (q := g) (by omega), z_upn (q := g) (by omega), eg, e1, e3, z_wid (x := M g 10 - 1) (by omega)] at t
    refine t (fun _ => by omega) (fun w => ?_) (fun _ => by omega) (fun w => ?_)
    · rw [if_neg (by omega)] at h
      exact h
    · rw [if_pos (by omega)] at h
      rw [z_wid (by omega)]
      exact h
  generalize hv3 : (if x2 < M g 10 - 1 then (i : Int) + 1 else -1) = v3
  suffices h : wp xs (d + 2) mX1_measure 122 [(2, g), (0, (i : Int)), (0, x2), (0, x3), w4] [] z_LL (z_up (z_up (z_up (z_up M' (g + 9) (4 * i) v1) (g + 9) (4 * i + 1) v2) (g + 9) (4 * i + 2) v3) (g + 9) (4 * i + 3) (if x3 < M g 11 - 1 then i + M g 10 else -1)) P by
    have t := gX1_measure_92 (M := z_up (z_up (z_up M' (g + 9) (4 * i) v1) (g + 9) (4 * i + 1) v2) (g + 9) (4 * i + 2) v3) (xs := xs) (d := d + 2) (P := P) (x1 := (i : Int)) (x2 := x2) (x3 := x3) (w4 := w4) (z_gor_q (by rw [z_upn (by omega), z_upn (by omega), z_upn (by omega)]) hG')
    rw [z_upn (q := g) (by omega), z_upn (q := g) (by omega), z_upn (q := g) (by omega), eg, e1, e4, z_wid (x := M g 11 - 1) (by omega)] at t
    refine t (fun _ => by omega) (fun w => ?_) (fun _ => by omega) (fun w => ?_)
    · rw [if_neg (by omega)] at h
      exact h
    · rw [if_pos (by omega)] at h
      rw [z_wid (by omega)]
      exact h
  generalize hv4 : (if x3 < M g 11 - 1 then (i : Int) + M g 10 else -1) = v4
  generalize hM4 : z_up (z_up (z_up (z_up M' (g + 9) (4 * i) v1) (g + 9) (4 * i + 1) v2) (g + 9) (4 * i + 2) v3) (g + 9) (4 * i + 3) v4 = M4
  have o4 : ∀ q, q ≠ g + 9 → M4 q = M' q := fun q h => by rw [← hM4, z_upn h, z_upn h, z_upn h, z_upn h]
  have n4 : M4 (g + 9) (4 * i) = v1 ∧ M4 (g + 9) (4 * i + 1) = v2 ∧ M4 (g + 9) (4 * i + 2) = v3 ∧ M4 (g + 9) (4 * i + 3) = v4 := by
    rw [← hM4]
    exact ⟨by rw [z_upi (by omega) rfl, z_upi (by omega) rfl, z_upi (by omega) rfl, z_ups], by rw [z_upi (by omega) rfl, z_upi (by omega) rfl, z_ups], by rw [z_upi (by omega) rfl, z_ups], by rw [z_ups]⟩
  have p4 : ∀ j : Int, ¬ (4 * i ≤ j ∧ j ≤ 4 * i + 3) → M4 (g + 9) j = M' (g + 9) j := fun j h => by rw [← hM4, z_upi (by omega) rfl, z_upi (by omega) rfl, z_upi (by omega) rfl, z_upi (by omega) rfl]
  clear hM4
  have hG4 : z_gor M4 g := z_gor_q (o4 g (by omega)) hG'
  refine gX1_measure_122 hG4 ?_
  refine z_loop (W := fun j => ∀ M5 : z_M, (∀ q, q ≠ g + 10 → M5 q = M4 q) → (∀ f : Int, 0 ≤ f → f < j → 0 ≤ M (g + 4) f → M (g + 4) f < 25 → M5 (g + 10) (25 * f + i) = z_far (M g 10) (M (g + 4) f) i) → (∀ x : Int, (∀ f : Int, 0 ≤ f → f < 6 → x ≠ 25 * f + i) → M5 (g + 10) x = M4 (g + 10) x) → wp xs (d + 2) mX1_measure 125 [(2, g), (0, (i : Int)), (0, x2), (0, x3), (0, (j : Int))] [] z_LL M5 P) F (fun j hj jh M5 hM5 hf5 hx5 => ?_) M4 (fun _ _ => rfl) (fun f a b => by omega) (fun _ _ => rfl)
  have eg5 : M5 g = M g := by rw [hM5 g (by omega), o4 g (by omega), eg]
  have hG5 : z_gor M5 g := z_gor_q eg5 hG
  have eh5 : M5 (g + 4) = M (g + 4) := by rw [hM5 _ (by omega), o4 _ (by omega), hM _ (by omega) (by omega)]
  have t := gX1_measure_125 (M := M5) (xs := xs) (d := d + 1) (P := P) (x1 := (i : Int)) (x2 := x2) (x3 := x3) (x4 := (j : Int)) hG5
  rw [eg5, hF, eh5] at t
  refine t (fun w => ?_) (fun _ => by omega) (fun w => ?_)
  · rw [show z_w ((i : Int) + 1) = ((i + 1 : Nat) : Int) by rw [z_wid (by omega)]; omega]
    refine ih (by omega) M5 _ _ _ (fun q a1 a2 => by rw [hM5 q a2, o4 q a1, hM q a1 a2]) (fun c a b => ?_)
    by_cases hc : c = i
    · rw [hc]
      refine ⟨?_, fun f f1 f2 f3 f4 => hf5 f f1 (by omega) f3 f4⟩
      rw [hM5 (g + 9) (by omega), hx2, hx3, hv1, hv2, hv3, hv4]
      exact n4
    · obtain ⟨⟨c1, c2, c3, c4⟩, c5⟩ := hf c a (by omega)
      refine ⟨?_, fun f f1 f2 f3 f4 => ?_⟩
      · rw [hM5 (g + 9) (by omega), p4 _ (by omega), p4 _ (by omega), p4 _ (by omega), p4 _ (by omega)]
        exact ⟨c1, c2, c3, c4⟩
      · rw [hx5 _ (fun f' x1 x2 => by omega), o4 _ (by omega)]
        exact c5 f f1 f2 f3 f4
  · refine s_X1_apart_v hG5 (by rw [eg5]; exact h10) (fun v hv => ?_)
    rw [eg5] at hv
    rw [z_wid (x := (j : Int) * 25) (by omega), z_wid (x := (j : Int) * 25 + i) (by omega)]
    refine gX1_measure_157 (d := d + 2) hG5 (z_gl10 hG5) (by omega) ?_
    rw [show z_w ((j : Int) + 1) = ((j + 1 : Nat) : Int) by rw [z_wid (by omega)]; omega, show (j : Int) * 25 + i = 25 * j + i by omega]
    refine jh (by omega) _ (fun q a1 => by rw [z_upn a1, hM5 q a1]) (fun f f1 f2 f3 f4 => ?_) (fun x hx => ?_)
    · by_cases e : f = j
      · rw [e, z_ups, hv (by omega) (by omega) (by rw [← e]; exact f3) (by rw [← e]; exact f4), z_far_c]
      · rw [z_upi (by omega) rfl]
        exact hf5 f f1 (by omega) f3 f4
    · rw [z_upi (hx j (by omega) (by omega)) rfl]
      exact hx5 x hx
theorem s_X5_sow {P : Option z_V → z_L → z_M → Prop} (h3 : M 33 3 = g) (hG : z_gor M g) (k : ∀ M' : z_M, (∀ q, q ≠ g + 7 → M' q = M q) → (∀ x : Int, 0 ≤ x → x < 25 → M' (g + 7) x = if M (g + 7) x = -1 then M 33 6 else M (g + 7) x) → P none z_LL M') : wp xs d mX5_sow 0 [(2, 33), (3, 0)] [] z_LL M P := by
  have hs := z_gsep hG
  refine gX5_sow_0 ?_
  refine z_loop (W := fun i => ∀ M' : z_M, (∀ q, q ≠ g + 7 → M' q = M q) → (∀ x : Int, 0 ≤ x → x < i → M' (g + 7) x = if M (g + 7) x = -1 then M 33 6 else M (g + 7) x) → (∀ x : Int, i ≤ x → M' (g + 7) x = M (g + 7) x) → wp xs d mX5_sow 2 [(2, 33), (0, (i : Int))] [] z_LL M' P) 25 (fun i hi ih M' hM h1 h2 => ?_) M (fun _ _ => rfl) (fun x a b => by omega) (fun _ _ => rfl)
  have e33 : M' 33 = M 33 := hM 33 (by omega)
  have hG' : z_gor M' g := z_gor_q (hM g (by omega)) hG
  have t := gX5_sow_2 (M := M') (xs := xs) (d := d) (P := P) (x1 := (i : Int)) (by rw [e33, h3]; exact hG')
  rw [e33, h3, h2 i (Int.le_refl _), z_wid (x := (i : Int) + 1) (by omega)] at t
  refine t (fun w => k M' hM (fun x a b => h1 x a (by omega))) (fun w => by omega) (fun w w2 => ?_) (fun w w2 => ?_)
  · refine ih (by omega) M' hM (fun x a b => ?_) (fun x a => h2 x (by omega))
    by_cases e : x = i
    · rw [e, if_neg w2, h2 i (Int.le_refl _)]
    · exact h1 x a (by omega)
  · refine ih (by omega) _ (fun q a => by rw [z_upn a, hM q a]) (fun x a b => ?_) (fun x a => by rw [z_upi (by omega) rfl]; exact h2 x (by omega))
    by_cases e : x = i
    · rw [e, z_ups, if_pos (by omega)]
    · rw [z_upi e rfl]
      exact h1 x a (by omega)
theorem s_X1_clear {P : Option z_V → z_L → z_M → Prop} (hG : z_gor M g) (k : ∀ M' : z_M, (∀ q, q ≠ g → q ≠ g + 5 → q ≠ g + 6 → q ≠ g + 7 → M' q = M q) → z_gor M' g → (M' g 10 = 4 ∧ M' g 11 = 4 ∧ M' g 12 = 0 ∧ M' g 13 = 0 ∧ M' g 14 = 0 ∧ M' g 15 = 0 ∧ M' g 16 = 0 ∧ M' g 17 = 1 ∧ M' g 18 = 9 ∧ M' g 19 = 0) → (∀ x : Int, 0 ≤ x → x < 6 → M' (g + 5) x = 0) → (∀ x : Int, 0 ≤ x → x < 36 → M' (g + 6) x = -1) → (∀ x : Int, 0 ≤ x → x < 25 → M' (g + 7) x = -1) → P none z_LL M') : wp xs (d + 1) mX1_clear 0 [(2, g)] [] z_LL M P := by
  have hs := z_gsep hG
  refine gX1_clear_0 hG ?_
  generalize hM0 : z_up (z_up (z_up (z_up (z_up (z_up (z_up (z_up (z_up (z_up M g 10 4) g 11 4) g 12 0) g 13 0) g 14 0) g 15 0) g 16 0) g 17 1) g 18 9) g 19 0 = M0
  have o : ∀ q, q ≠ g → M0 q = M q := fun q h => by rw [← hM0, z_upn h, z_upn h, z_upn h, z_upn h, z_upn h, z_upn h, z_upn h, z_upn h, z_upn h, z_upn h]
  have hG0 : z_gor M0 g := z_gor_n hG (fun j a b => by rw [← hM0, z_upi (by omega) rfl, z_upi (by omega) rfl, z_upi (by omega) rfl, z_upi (by omega) rfl, z_upi (by omega) rfl, z_upi (by omega) rfl, z_upi (by omega) rfl, z_upi (by omega) rfl, z_upi (by omega) rfl, z_upi (by omega) rfl])
  have vs : M0 g 10 = 4 ∧ M0 g 11 = 4 ∧ M0 g 12 = 0 ∧ M0 g 13 = 0 ∧ M0 g 14 = 0 ∧ M0 g 15 = 0 ∧ M0 g 16 = 0 ∧ M0 g 17 = 1 ∧ M0 g 18 = 9 ∧ M0 g 19 = 0 := by
    rw [← hM0]
    refine ⟨?_, ?_, ?_, ?_, ?_, ?_, ?_, ?_, ?_, ?_⟩ <;> simp [z_up]
  clear hM0
  refine s_fill (n := 6) (z_gl5 hG0) (by decide) (fun M1 f1 v1 => ?_)
  have hG1 : z_gor M1 g := z_gor_q (f1 g (by omega)) hG0
  refine gX1_clear_59 hG1 (s_fill (n := 36) (z_gl6 hG1) (by decide) (fun M2 f2 v2 => ?_))
  have hG2 : z_gor M2 g := z_gor_q (f2 g (by omega)) hG1
  refine gX1_clear_67 hG2 (s_fill (n := 25) (z_gl7 hG2) (by decide) (fun M3 f3 v3 => ?_))
  have e3 : M3 g = M0 g := by rw [f3 g (by omega), f2 g (by omega), f1 g (by omega)]
  have hG3 : z_gor M3 g := z_gor_q e3 hG0
  refine gX1_clear_75 hG3 (k M3 (fun q a1 a2 a3 a4 => by rw [f3 q a4, f2 q a3, f1 q a2, o q a1]) hG3 (by rw [e3]; exact vs) (fun x a c => by rw [f3 _ (by omega), f2 _ (by omega)]; exact v1 x a c) (fun x a c => by rw [f3 _ (by omega)]; exact v2 x a c) v3)
end
/-- lines, one after the other -/
noncomputable def zr (b : Int → Int) (n : Int) : Nat → zs_S × z_M → zs_S × z_M
  | 0, s => s
  | _ + 1, (.error e, G) => (.error e, G)
  | i + 1, (.ok p, G) => if zt_k b n p = 26 then (.ok p, G) else zr b n i (zl b n p G)
theorem zr_o {b : Int → Int} {n p : Int} {i : Nat} {G : z_M} : zr b n (i + 1) (.ok p, G) = if zt_k b n p = 26 then (.ok p, G) else zr b n i (zl b n p G) := rfl
/-- nothing is told yet -/
def zr_0 (M : z_M) : z_M := fun q j => if q = 321 then (if j = 36 ∨ j = 37 then 4 else if j = 38 then 5 else if j = 43 then 1 else if j = 44 then 9 else 0) else if q = 331 then -1 else M q j
/-- what is told lies in the class's gorge -/
def zh (M : z_M) (g : Int) (G : z_M) : Prop := z_gor M g ∧ zg_z G ∧ zgA M g G ∧ zgF M g G ∧ zgE M g G ∧ zgW M g G ∧ (∀ x : Int, 0 ≤ x → x < 25 → M (g + 7) x = if G 331 x = -1 then G 321 38 else G 331 x) ∧ zgT M g G ∧ ∀ c : Int, 0 ≤ c → c < G 321 36 * G 321 37 → zm_f M M g c
def zr_f (g : Int) (M M' : z_M) : Prop := (∀ q, q ≠ 30 → q ≠ 33 → ¬ (g ≤ q ∧ q ≤ g + 10) → M' q = M q) ∧ (∀ j, ¬ (3 ≤ j ∧ j ≤ 7) → M' 30 j = M 30 j) ∧ M' 33 0 = M 33 0
section
variable {xs : List Int} {d : Nat} {M G : z_M} {b : Int → Int} {n g : Int}
theorem zr_f_l {M' : z_M} (f : zl_f g M M') : zr_f g M M' := ⟨fun q a1 a2 a3 => f.1 q a1 a2 (by omega), f.2.1, f.2.2⟩
theorem zr_f_t {M1 M2 : z_M} (f : zr_f g M M1) (h : zr_f g M1 M2) : zr_f g M M2 := ⟨fun q x y z => by rw [h.1 q x y z, f.1 q x y z], fun j a => by rw [h.2.1 j a, f.2.1 j a], by rw [h.2.2, f.2.2]⟩
theorem zr_f_F {M' : z_M} (f : zr_f g M M') (hg : 2 ≤ g ∧ g ≤ 13) (hF : z_fix M) : z_fix M' := z_fix_gen hF (fun q i hq => by
  by_cases e : q = 30
  · rw [e] at hq ⊢
    exact f.2.1 i (by unfold z_fin at hq; omega)
  · by_cases e2 : q = 33
    · rw [e2] at hq ⊢
      rw [show i = 0 by unfold z_fin at hq; omega]
      exact f.2.2
    · rw [f.1 q e e2 (by unfold z_fin at hq; omega)])
/-- behind the lines -/
theorem k_end {P : Option z_V → z_L → z_M → Prop} {s : zs_S × z_M} {x : Int} (hF : z_fix M) (h : zk b n g M s) (k : ∀ M' : z_M, zr_f g M M' → zs_at n s.1 → zt_t M' b n → M' 33 1 = zs_e s.1 → M' 33 2 = zs_l s.1 → z_gor M' g → (∀ p, s.1 = .ok p → zh M' g s.2) → P (some (0, z_b (zs_e s.1 = 0))) z_LL M') : wp xs (d + 2) mX5_sow 0 [(2, 33), (3, 0)] [] z_LL M (fun r L1 M1 => wp xs (d + 3) mX5_reads 86 [(2, 33), (2, g), (0, x)] (z_ol r ++ []) L1 M1 P) := by
  obtain ⟨hc, G, hg, hz, he⟩ := h
  have hs := z_gsep hg.2.1
  refine s_X5_sow hg.1 hg.2.1 (fun M1 f1 v1 => ?_)
  have eg1 : M1 g = M g := f1 g (by omega)
  have e33 : M1 33 = M 33 := f1 33 (by omega)
  have hG1 : z_gor M1 g := z_gor_q eg1 hg.2.1
  have t := gX5_reads_86 (M := M1) (xs := xs) (d := d + 2) (P := P) (x1 := g) (x2 := x) hG1 (by rw [e33, hg.1]; exact hG1)
  rw [e33, hg.1] at t
  obtain ⟨z1, z2, z3, z4⟩ := id hz
  have A := hg.2.2.1
  refine t (s_X1_measure (d := d) hG1 (by rw [eg1, A.1]; exact z1) (by rw [eg1, A.2.1]; exact z2) (by rw [eg1, A.2.2.1]; exact z3) (fun M2 f2 v2 => ?_))
  have e2 : ∀ q, q ≠ g + 7 → q ≠ g + 9 → q ≠ g + 10 → M2 q = M q := fun q a1 a2 a3 => by rw [f2 q a2 a3, f1 q a1]
  have eg2 : M2 g = M g := e2 g (by omega) (by omega) (by omega)
  have hG2 : z_gor M2 g := z_gor_q eg2 hg.2.1
  have e33' : M2 33 = M 33 := e2 33 (by omega) (by omega) (by omega)
  have fr : zr_f g M M2 := ⟨fun q a1 a2 a3 => e2 q (by omega) (by omega) (by omega), fun j _ => by rw [e2 30 (by omega) (by omega) (by omega)], by rw [e33']⟩
  have tt : zt_t M2 b n := by
    have h1 := hc.1
    unfold zt_t at h1 ⊢
    rw [e2 30 (by omega) (by omega) (by omega), e2 31 (by omega) (by omega) (by omega), e2 32 (by omega) (by omega) (by omega)]
    exact h1
  have z : ∀ p, s.1 = .ok p → zh M2 g s.2 := fun p hp => by
    rw [← he p hp]
    obtain ⟨h1, h2, a, b', c, d', e, i, y, kk, l⟩ := hg
    refine ⟨hG2, hz, zgA_q eg2 a, zgF_q ⟨e2 _ (by omega) (by omega) (by omega), e2 _ (by omega) (by omega) (by omega), e2 _ (by omega) (by omega) (by omega)⟩ rfl ⟨rfl, rfl, rfl⟩ c, zgE_q (e2 _ (by omega) (by omega) (by omega)) rfl rfl d', zgW_q (e2 _ (by omega) (by omega) (by omega)) rfl rfl e, fun x x1 x2 => ?_, zgT_q (e2 _ (by omega) (by omega) (by omega)) rfl ⟨rfl, rfl⟩ y, fun c c1 c2 => ?_⟩
    · rw [f2 (g + 7) (by omega) (by omega), v1 x x1 x2, i x x1 x2, l.2]
    · have w := v2 c c1 (by rw [eg1, A.1, A.2.1]; exact c2)
      unfold zm_f at w ⊢
      rw [eg1, f1 (g + 4) (by omega)] at w
      rw [eg2, e2 (g + 4) (by omega) (by omega) (by omega)]
      exact w
  have r := gX5_reads_93 (M := M2) (xs := xs) (d := d + 2) (P := P) (x1 := g) (x2 := x) hG2
  rw [e33', hc.2.1.1] at r
  have kk := k M2 fr hc.2.2.1 tt (by rw [e33']; exact hc.2.1.1) (by rw [e33']; exact hc.2.1.2) hG2 z
  refine r (fun w => ?_) (fun w => ?_)
  · rw [z_b_f w] at kk
    exact kk
  · rw [z_b_t (Classical.byContradiction w)] at kk
    exact kk
theorem k_lines {P : Option z_V → z_L → z_M → Prop} : ∀ (m : Nat) (M : z_M) (s : zs_S × z_M), m ≤ 1600 → z_fix M → z_gor M g → zk b n g M s → (∀ M' : z_M, zr_f g M M' → zs_at n (zr b n m s).1 → zt_t M' b n → M' 33 1 = zs_e (zr b n m s).1 → M' 33 2 = zs_l (zr b n m s).1 → z_gor M' g → (∀ p, (zr b n m s).1 = .ok p → zh M' g (zr b n m s).2) → P (some (0, z_b (zs_e (zr b n m s).1 = 0))) z_LL M') → wp xs (d + 81) mX5_reads 46 [(2, 33), (2, g), (0, 1600 - (m : Int))] [] z_LL M P
  | 0, M, s, _, hF, hG, h, k => gX5_reads_46 (d := d + 80) hF hG (fun _ => k_end (d := d + 78) hF h k) (fun w => absurd (by omega) w) (fun w => absurd (by omega) w) (fun w => absurd (by omega) w)
  | m + 1, M, (.error e, G1), hm, hF, hG, h, k => gX5_reads_46 (d := d + 80) hF hG (fun w => by omega) (fun _ _ => k_end (d := d + 78) hF h k) (fun _ w => absurd (zs_c_e h.1) w) (fun _ w => absurd (zs_c_e h.1) w)
  | m + 1, M, (.ok p, G1), hm, hF, hG, h, k => by
    obtain ⟨n0, n3, np, -, -⟩ := zs_c_o h.1
    have t := gX5_reads_46 (M := M) (xs := xs) (d := d + 80) (P := P) (x1 := g) (x2 := 1600 - ((m + 1 : Nat) : Int)) hF hG
    rw [n3] at t
    rw [zr_o] at k
    refine t (fun w => by omega) (fun _ w => absurd n0 w) (fun _ _ w => ?_) (fun _ _ w => ?_)
    · rw [if_pos w] at k
      exact k_end (d := d + 78) hF h k
    · rw [if_neg w] at k
      obtain ⟨hc, G', hg, hz, he⟩ := h
      obtain rfl : G' = G1 := he p rfl
      have hs := z_gsep hg.2.1
      refine k_line (d := d) hF hc hg hz (fun M1 f1 k1 => ?_)
      have hG1 : z_gor M1 g := k1.2.choose_spec.1.2.1
      refine gX5_reads_76 hG1 ?_
      rw [show z_w (1600 - ((m + 1 : Nat) : Int) + 1) = 1600 - (m : Int) by rw [z_wid (by omega)]; omega]
      exact k_lines m M1 _ (by omega) (zl_f_F f1 hs hF) hG1 k1 (fun M2 f2 => k M2 (zr_f_t (zr_f_l f1) f2))
theorem s_X5_reads {P : Option z_V → z_L → z_M → Prop} {Q : z_M} (hF : z_fix M) (hG : z_gor M g) (hT : zt_t M b n) (k : ∀ M' : z_M, zr_f g M M' → zs_at n (zr b n 1600 (.ok 0, zr_0 Q)).1 → zt_t M' b n → M' 33 1 = zs_e (zr b n 1600 (.ok 0, zr_0 Q)).1 → M' 33 2 = zs_l (zr b n 1600 (.ok 0, zr_0 Q)).1 → z_gor M' g → (∀ p, (zr b n 1600 (.ok 0, zr_0 Q)).1 = .ok p → zh M' g (zr b n 1600 (.ok 0, zr_0 Q)).2) → P (some (0, z_b (zs_e (zr b n 1600 (.ok 0, zr_0 Q)).1 = 0))) z_LL M') : wp xs (d + 81) mX5_reads 0 [(2, 33), (2, g), (3, 0)] [] z_LL M P := by
  have hs := z_gsep hG
  refine gX5_reads_0 (d := d + 80) hG ?_
  have l0 : zl_f g M (z_up M 33 3 g) := zl_f_v (by decide)
  have hG0 : z_gor (z_up M 33 3 g) g := z_gor_q (z_upn (by omega)) hG
  refine s_X1_clear (d := d + 79) hG0 (fun M1 f1 hG1 vs v5 v6 v7 => ?_)
  have l1 : zl_f g M M1 := zl_f_t l0 ⟨fun q a1 a2 a3 => f1 q (by omega) (by omega) (by omega) (by omega), fun j _ => by rw [f1 30 (by omega) (by omega) (by omega) (by omega)], by rw [f1 33 (by omega) (by omega) (by omega) (by omega)]⟩
  have F1 := zl_f_F l1 hs hF
  refine gX5_reads_12 (d := d + 80) F1 hG1 ?_
  generalize hM2 : z_up (z_up (z_up (z_up (z_up M1 33 1 0) 33 2 (-1)) 33 4 0) 33 5 0) 33 6 5 = M2
  have l2 : zl_f g M M2 := by
    rw [← hM2]
    exact zl_f_t (zl_f_t (zl_f_t (zl_f_t (zl_f_t l1 (zl_f_v (by decide))) (zl_f_v (by decide))) (zl_f_v (by decide))) (zl_f_v (by decide))) (zl_f_v (by decide))
  have o2 : ∀ q, q ≠ 33 → M2 q = M1 q := fun q h => by rw [← hM2, z_upn h, z_upn h, z_upn h, z_upn h, z_upn h]
  have v33 : M2 33 1 = 0 ∧ M2 33 2 = -1 ∧ M2 33 3 = g ∧ M2 33 4 = 0 ∧ M2 33 5 = 0 ∧ M2 33 6 = 5 := by
    have e : M1 33 3 = g := by rw [f1 33 (by omega) (by omega) (by omega) (by omega), z_ups]
    rw [← hM2]
    refine ⟨?_, ?_, ?_, ?_, ?_, ?_⟩ <;> simp [z_up]
    exact e
  clear hM2
  have hG2 : z_gor M2 g := z_gor_q (o2 g (by omega)) hG1
  refine gX7_rewind_0 (d := d + 79) ?_
  have T2 : zt_t (z_up M2 30 7 0) b n := by
    unfold zt_t at hT ⊢
    rw [z_upi (by decide) rfl, z_upn (by decide), z_upn (by decide), l2.2.1 2 (by decide), l2.1 31 (by decide) (by decide) (by omega), l2.1 32 (by decide) (by decide) (by omega)]
    exact hT
  have F2 := zl_f_F l2 hs hF
  refine s_X7_step (d := d + 74) (p := 0) (z_fix_i (by decide +kernel) F2) T2 z_ups ⟨Int.le_refl _, hT.2.1.1⟩ (fun M3 f3 c3 => ?_)
  refine gX7_rewind_9 ?_
  have e3 : ∀ q, q ≠ 30 → M3 q = M2 q := fun q h => by rw [f3.1 q h, z_upn h]
  have l3 : zl_f g M M3 := zl_f_t l2 ⟨fun q a1 a2 a3 => e3 q a1, fun j hj => by rw [f3.2 j hj, z_upi (by omega) rfl], by rw [e3 33 (by decide)]⟩
  have hG3 : z_gor M3 g := z_gor_q (e3 g (by omega)) hG2
  refine gX5_reads_44 (d := d + 81) hG3 ?_
  have eg : M3 g = M1 g := by rw [e3 g (by omega), o2 g (by omega)]
  have e5 : M3 (g + 5) = M1 (g + 5) := by rw [e3 _ (by omega), o2 _ (by omega)]
  have e6 : M3 (g + 6) = M1 (g + 6) := by rw [e3 _ (by omega), o2 _ (by omega)]
  have e7 : M3 (g + 7) = M1 (g + 7) := by rw [e3 _ (by omega), o2 _ (by omega)]
  have e33 : M3 33 = M2 33 := e3 33 (by decide)
  have K : zk b n g M3 (.ok 0, zr_0 Q) := by
    refine ⟨⟨zt_f_t f3 T2, by rw [e33]; exact ⟨v33.1, v33.2.1⟩, ⟨Int.le_refl _, hT.2.1.1⟩, 0, ⟨Int.le_refl _, hT.2.1.1⟩, c3, fun q hq => by cases hq; rfl⟩, zr_0 Q, ⟨by rw [e33]; exact v33.2.2.1, hG3, ?_, fun k hk => ?_, fun k k1 k2 => ?_, fun k k1 k2 => ?_, fun f o f1 f2 o1 o2 => ?_, fun x x1 x2 => ?_, fun k hk => ?_, ?_, ?_⟩, ?_, fun _ _ => rfl⟩
    · unfold zgA
      rw [eg]
      exact vs
    · exact absurd (show (k : Int) < 0 from hk) (by omega)
    · exact absurd (show k < 0 from k2) (by omega)
    · rw [e5, v5 k k1 k2]
      exact (if_neg (show ¬ k < 0 by omega)).symm
    · rw [e6, v6 _ (by omega) (by omega)]
      exact (if_neg (fun w => absurd (show f < 0 from w.1) (by omega))).symm
    · rw [e7, v7 x x1 x2]
      rfl
    · exact absurd (show (k : Int) < 0 from hk) (by omega)
    · unfold zgB
      rw [e33, v33.2.2.2.1]
      have nb : ∀ c : Int, 0 ≤ c → c < 32 → (z_bt 0 c ↔ (0 : Int) ≠ 0) := fun c c1 c2 => ⟨fun w => absurd w (z_bt_0 ⟨c1, c2⟩), fun w => absurd rfl w⟩
      exact ⟨by decide, ⟨fun _ => rfl, fun _ => rfl⟩, nb 2 (by decide) (by decide), nb 11 (by decide) (by decide), nb 12 (by decide) (by decide), nb 14 (by decide) (by decide), nb 15 (by decide) (by decide)⟩
    · unfold zgL
      rw [e33]
      exact v33.2.2.2.2
    · refine ⟨by show (2 : Int) ≤ 4 ∧ (4 : Int) ≤ 5; decide, by show (2 : Int) ≤ 4 ∧ (4 : Int) ≤ 5; decide, by show (0 : Int) ≤ 0 ∧ (0 : Int) ≤ 6; decide, by show (0 : Int) ≤ 0 ∧ (0 : Int) ≤ 270; decide, ⟨by show (0 : Int) ≤ 0 ∧ (0 : Int) ≤ 30; decide, by show (0 : Int) ≤ 0 ∧ (0 : Int) ≤ 15; decide, by show (0 : Int) ≤ 0 ∧ (0 : Int) ≤ 8; decide⟩, fun j k hj => absurd (show (j : Int) < 0 from hj) (by omega), fun f o f1 f2 => absurd (show f < 0 from f2) (by omega)⟩
  have w := k_lines (xs := xs) (d := d) (P := P) 1600 M3 _ (by decide) (zl_f_F l3 hs hF) hG3 K (fun M' f => k M' (zr_f_t (zr_f_l l3) f))
  rw [show (1600 : Int) - ((1600 : Nat) : Int) = 0 by decide] at w
  exact w
end
