/-! pairs: the model's three searches -/
set_option maxRecDepth 20000 in
theorem gX10_calm_0 {xs : List Int} {d : Nat} {M : z_M} {P : Option z_V → z_L → z_M → Prop} 
    (l1 : wp xs d mX10_rowsOf 0 [(2, 321), (3, 0), (3, 0)] [] z_LL (z_up M 321 68 0) (fun r L1 M1 => wp xs (d + 1) mX10_calm 11 [(2, 321), (0, 0), (3, 0), (3, 0), (3, 0)] (z_ol r ++ []) L1 M1 P)) :
    wp xs (d + 1) mX10_calm 0 [(2, 321), (3, 0), (3, 0), (3, 0), (3, 0)] [] z_LL M P := by
  refine wp_run 2 (pc' := 2) (ls' := [(2, 321), (3, 0), (3, 0), (3, 0), (3, 0)]) (st' := [(0, 0), (2, 321)]) rfl ?_
  refine wp_pf (pc' := 5) rfl rfl rfl rfl (fun z => absurd z (by decide)) (fun z => absurd z (by decide)) ?_
  refine wp_run 3 (pc' := 8) (ls' := [(2, 321), (0, 0), (3, 0), (3, 0), (3, 0)]) (st' := [(2, 321)]) rfl ?_
  refine wp_callv (pc' := 11) (as := [(2, 321)]) (rest := []) (ls1 := [(2, 321), (3, 0), (3, 0)]) rfl rfl rfl rfl rfl rfl ?_
  exact l1
set_option maxRecDepth 20000 in
theorem gX10_calm_11 {xs : List Int} {d : Nat} {M : z_M} {P : Option z_V → z_L → z_M → Prop} {x1 : Int} {s0 : Int} 
    (l1 : wp xs d mX10_calm 14 [(2, 321), (0, x1), (0, s0), (0, 0), (3, 0)] [] z_LL M P) :
    wp xs d mX10_calm 11 [(2, 321), (0, x1), (3, 0), (3, 0), (3, 0)] [(0, s0)] z_LL M P := by
  refine wp_run 3 (pc' := 14) (ls' := [(2, 321), (0, x1), (0, s0), (0, 0), (3, 0)]) (st' := []) rfl ?_
  exact l1
set_option maxRecDepth 20000 in
theorem gX10_calm_14 {xs : List Int} {d : Nat} {M : z_M} {P : Option z_V → z_L → z_M → Prop} {x1 : Int} {x2 : Int} {x3 : Int} {w4 : z_V} 
    (l1 : (x2 ≤ x3) → (x1 ≠ 0) → P (some (0, x1)) z_LL (z_up M 321 68 (M 321 48)))
    (l2 : (x2 ≤ x3) → (¬ (x1 ≠ 0)) → P (some (0, x1)) z_LL (z_up M 321 68 0))
    (l3 : (¬ (x2 ≤ x3)) → wp xs d mX10_layPairs 0 [(2, 321), (0, x3), (3, 0), (3, 0), (3, 0)] [] z_LL M (fun r L1 M1 => wp xs (d + 1) mX10_calm 24 [(2, 321), (0, x1), (0, x2), (0, x3), w4] (z_ol r ++ []) L1 M1 P)) :
    wp xs (d + 1) mX10_calm 14 [(2, 321), (0, x1), (0, x2), (0, x3), w4] [] z_LL M P := by
  refine wp_run 2 (pc' := 16) (ls' := [(2, 321), (0, x1), (0, x2), (0, x3), w4]) (st' := [(0, x2), (0, x3)]) rfl ?_
  refine wp_if2 rfl rfl rfl (fun (c1 : x2 ≤ x3) => ?_) (fun (c1 : ¬ (x2 ≤ x3)) => ?_)
  · refine wp_run 2 (pc' := 84) (ls' := [(2, 321), (0, x1), (0, x2), (0, x3), w4]) (st' := [(0, x1), (2, 321)]) rfl ?_
    refine wp_if1 rfl rfl rfl (fun (c2 : x1 ≠ 0) => ?_) (fun (c2 : ¬ (x1 ≠ 0)) => ?_)
    · refine wp_run 1 (pc' := 92) (ls' := [(2, 321), (0, x1), (0, x2), (0, x3), w4]) (st' := [(2, 321), (2, 321)]) rfl ?_
      refine wp_gf (pc' := 95) (t := 0) (v := (M 321 48)) rfl rfl (by decide) rfl rfl rfl ?_
      refine wp_pf (pc' := 98) rfl rfl rfl rfl (fun z => absurd z (by decide)) (fun z => absurd z (by decide)) ?_
      refine wp_run 1 (pc' := 99) (ls' := [(2, 321), (0, x1), (0, x2), (0, x3), w4]) (st' := [(0, x1)]) rfl ?_
      exact wp_ret rfl rfl (l1 c1 c2)
    · refine wp_run 2 (pc' := 95) (ls' := [(2, 321), (0, x1), (0, x2), (0, x3), w4]) (st' := [(0, 0), (2, 321)]) rfl ?_
      refine wp_pf (pc' := 98) rfl rfl rfl rfl (fun z => absurd z (by decide)) (fun z => absurd z (by decide)) ?_
      refine wp_run 1 (pc' := 99) (ls' := [(2, 321), (0, x1), (0, x2), (0, x3), w4]) (st' := [(0, x1)]) rfl ?_
      exact wp_ret rfl rfl (l2 c1 c2)
  · refine wp_run 2 (pc' := 21) (ls' := [(2, 321), (0, x1), (0, x2), (0, x3), w4]) (st' := [(0, x3), (2, 321)]) rfl ?_
    refine wp_callv (pc' := 24) (as := [(2, 321), (0, x3)]) (rest := []) (ls1 := [(2, 321), (0, x3), (3, 0), (3, 0), (3, 0)]) rfl rfl rfl rfl rfl rfl ?_
    exact l3 c1
set_option maxRecDepth 20000 in
theorem gX10_calm_24 {xs : List Int} {d : Nat} {M : z_M} {P : Option z_V → z_L → z_M → Prop} {x1 : Int} {x2 : Int} {x3 : Int} {w4 : z_V} {s0 : Int} 
    (l1 : (s0 = 0) → wp xs (d + 1) mX10_calm 14 [(2, 321), (0, x1), (0, x2), (0, (z_w (x3 + 1))), w4] [] z_LL M P)
    (l2 : (¬ (s0 = 0)) → wp xs d mX10_isCalm 0 [(2, 321), (3, 0), (3, 0), (3, 0)] [] z_LL M (fun r L1 M1 => wp xs (d + 1) mX10_calm 31 [(2, 321), (0, x1), (0, x2), (0, x3), w4] (z_ol r ++ []) L1 M1 P)) :
    wp xs (d + 1) mX10_calm 24 [(2, 321), (0, x1), (0, x2), (0, x3), w4] [(0, s0)] z_LL M P := by
  refine wp_if1 rfl rfl rfl (fun (c1 : s0 = 0) => ?_) (fun (c1 : ¬ (s0 = 0)) => ?_)
  · refine wp_run 2 (pc' := 14) (ls' := [(2, 321), (0, x1), (0, x2), (0, (z_w (x3 + 1))), w4]) (st' := []) rfl ?_
    exact l1 c1
  · refine wp_run 1 (pc' := 28) (ls' := [(2, 321), (0, x1), (0, x2), (0, x3), w4]) (st' := [(2, 321)]) rfl ?_
    refine wp_callv (pc' := 31) (as := [(2, 321)]) (rest := []) (ls1 := [(2, 321), (3, 0), (3, 0), (3, 0)]) rfl rfl rfl rfl rfl rfl ?_
    exact l2 c1
set_option maxRecDepth 20000 in
theorem gX10_calm_31 {xs : List Int} {d : Nat} {M : z_M} {P : Option z_V → z_L → z_M → Prop} {x1 : Int} {x2 : Int} {x3 : Int} {w4 : z_V} {s0 : Int} 
    (l1 : (s0 ≠ 0) → (x1 ≠ 0) → wp xs d mX10_calm 14 [(2, 321), (0, (z_w (x1 + 1))), (0, x2), (0, (z_w (x3 + 1))), w4] [] z_LL M P)
    (l2 : (s0 ≠ 0) → (¬ (x1 ≠ 0)) → wp xs d mX10_calm 44 [(2, 321), (0, x1), (0, x2), (0, x3), (0, 0)] [] z_LL M P)
    (l3 : (¬ (s0 ≠ 0)) → wp xs d mX10_calm 14 [(2, 321), (0, x1), (0, x2), (0, (z_w (x3 + 1))), w4] [] z_LL M P) :
    wp xs d mX10_calm 31 [(2, 321), (0, x1), (0, x2), (0, x3), w4] [(0, s0)] z_LL M P := by
  refine wp_if1 rfl rfl rfl (fun (c1 : s0 ≠ 0) => ?_) (fun (c1 : ¬ (s0 ≠ 0)) => ?_)
  · refine wp_run 1 (pc' := 38) (ls' := [(2, 321), (0, x1), (0, x2), (0, x3), w4]) (st' := [(0, x1)]) rfl ?_
    refine wp_if1 rfl rfl rfl (fun (c2 : x1 ≠ 0) => ?_) (fun (c2 : ¬ (x1 ≠ 0)) => ?_)
    · refine wp_run 3 (pc' := 14) (ls' := [(2, 321), (0, (z_w (x1 + 1))), (0, x2), (0, (z_w (x3 + 1))), w4]) (st' := []) rfl ?_
      exact l1 c1 c2
    · refine wp_run 2 (pc' := 44) (ls' := [(2, 321), (0, x1), (0, x2), (0, x3), (0, 0)]) (st' := []) rfl ?_
      exact l2 c1 c2
  · refine wp_run 3 (pc' := 14) (ls' := [(2, 321), (0, x1), (0, x2), (0, (z_w (x3 + 1))), w4]) (st' := []) rfl ?_
    exact l3 c1
set_option maxRecDepth 20000 in
theorem gX10_calm_44 {xs : List Int} {d : Nat} {M : z_M} {P : Option z_V → z_L → z_M → Prop} {x1 : Int} {x2 : Int} {x3 : Int} {x4 : Int} (hF : z_fix M) 
    (l1 : ((M 321 48) ≤ x4) → wp xs d mX10_calm 14 [(2, 321), (0, (z_w (x1 + 1))), (0, x2), (0, (z_w (x3 + 1))), (0, x4)] [] z_LL M P)
    (b1 : (¬ ((M 321 48) ≤ x4)) → 0 ≤ x4 ∧ x4 < 6)
    (l2 : (¬ ((M 321 48) ≤ x4)) → wp xs d mX10_calm 44 [(2, 321), (0, x1), (0, x2), (0, x3), (0, (z_w (x4 + 1)))] [] z_LL (z_up M 347 x4 (M 346 x4)) P) :
    wp xs d mX10_calm 44 [(2, 321), (0, x1), (0, x2), (0, x3), (0, x4)] [] z_LL M P := by
  refine wp_run 2 (pc' := 47) (ls' := [(2, 321), (0, x1), (0, x2), (0, x3), (0, x4)]) (st' := [(2, 321), (0, x4)]) rfl ?_
  refine wp_gf (pc' := 50) (t := 0) (v := (M 321 48)) rfl rfl (by decide) rfl rfl rfl ?_
  refine wp_if2 rfl rfl rfl (fun (c1 : (M 321 48) ≤ x4) => ?_) (fun (c1 : ¬ ((M 321 48) ≤ x4)) => ?_)
  · refine wp_run 3 (pc' := 14) (ls' := [(2, 321), (0, (z_w (x1 + 1))), (0, x2), (0, (z_w (x3 + 1))), (0, x4)]) (st' := []) rfl ?_
    exact l1 c1
  · refine wp_run 1 (pc' := 54) (ls' := [(2, 321), (0, x1), (0, x2), (0, x3), (0, x4)]) (st' := [(2, 321)]) rfl ?_
    refine wp_gf (pc' := 57) (t := 2) (v := 347) rfl rfl (by decide) rfl rfl (fx_321_67 hF) ?_
    refine wp_run 2 (pc' := 60) (ls' := [(2, 321), (0, x1), (0, x2), (0, x3), (0, x4)]) (st' := [(2, 321), (0, x4), (2, 347)]) rfl ?_
    refine wp_gf (pc' := 63) (t := 2) (v := 346) rfl rfl (by decide) rfl rfl (fx_321_66 hF) ?_
    refine wp_run 1 (pc' := 65) (ls' := [(2, 321), (0, x1), (0, x2), (0, x3), (0, x4)]) (st' := [(0, x4), (2, 346), (0, x4), (2, 347)]) rfl ?_
    refine wp_iald (pc' := 66) (v := (M 346 x4)) rfl rfl rfl (b1 c1) rfl ?_
    refine wp_iast (pc' := 67) rfl rfl rfl (b1 c1) ?_
    refine wp_run 2 (pc' := 44) (ls' := [(2, 321), (0, x1), (0, x2), (0, x3), (0, (z_w (x4 + 1)))]) (st' := []) rfl ?_
    exact l2 c1
set_option maxRecDepth 20000 in
theorem gX10_dear_0 {xs : List Int} {d : Nat} {M : z_M} {P : Option z_V → z_L → z_M → Prop} 
    (l1 : wp xs d mX10_rowsOf 0 [(2, 321), (3, 0), (3, 0)] [] z_LL (z_up M 321 68 0) (fun r L1 M1 => wp xs (d + 1) mX10_dear 11 [(2, 321), (0, (-1)), (3, 0), (3, 0), (3, 0)] (z_ol r ++ []) L1 M1 P)) :
    wp xs (d + 1) mX10_dear 0 [(2, 321), (3, 0), (3, 0), (3, 0), (3, 0)] [] z_LL M P := by
  refine wp_run 2 (pc' := 2) (ls' := [(2, 321), (3, 0), (3, 0), (3, 0), (3, 0)]) (st' := [(0, 0), (2, 321)]) rfl ?_
  refine wp_pf (pc' := 5) rfl rfl rfl rfl (fun z => absurd z (by decide)) (fun z => absurd z (by decide)) ?_
  refine wp_run 3 (pc' := 8) (ls' := [(2, 321), (0, (-1)), (3, 0), (3, 0), (3, 0)]) (st' := [(2, 321)]) rfl ?_
  refine wp_callv (pc' := 11) (as := [(2, 321)]) (rest := []) (ls1 := [(2, 321), (3, 0), (3, 0)]) rfl rfl rfl rfl rfl rfl ?_
  exact l1
set_option maxRecDepth 20000 in
theorem gX10_dear_11 {xs : List Int} {d : Nat} {M : z_M} {P : Option z_V → z_L → z_M → Prop} {x1 : Int} {s0 : Int} 
    (l1 : wp xs d mX10_dear 14 [(2, 321), (0, x1), (0, s0), (0, 0), (3, 0)] [] z_LL M P) :
    wp xs d mX10_dear 11 [(2, 321), (0, x1), (3, 0), (3, 0), (3, 0)] [(0, s0)] z_LL M P := by
  refine wp_run 3 (pc' := 14) (ls' := [(2, 321), (0, x1), (0, s0), (0, 0), (3, 0)]) (st' := []) rfl ?_
  exact l1
set_option maxRecDepth 20000 in
theorem gX10_dear_14 {xs : List Int} {d : Nat} {M : z_M} {P : Option z_V → z_L → z_M → Prop} {x1 : Int} {x2 : Int} {x3 : Int} {w4 : z_V} 
    (l1 : (x2 ≤ x3) → (0 ≤ x1) → P (some (0, x1)) z_LL (z_up M 321 68 (M 321 48)))
    (l2 : (x2 ≤ x3) → (¬ (0 ≤ x1)) → P (some (0, x1)) z_LL (z_up M 321 68 0))
    (l3 : (¬ (x2 ≤ x3)) → wp xs d mX10_layPairs 0 [(2, 321), (0, x3), (3, 0), (3, 0), (3, 0)] [] z_LL M (fun r L1 M1 => wp xs (d + 1) mX10_dear 24 [(2, 321), (0, x1), (0, x2), (0, x3), w4] (z_ol r ++ []) L1 M1 P)) :
    wp xs (d + 1) mX10_dear 14 [(2, 321), (0, x1), (0, x2), (0, x3), w4] [] z_LL M P := by
  refine wp_run 2 (pc' := 16) (ls' := [(2, 321), (0, x1), (0, x2), (0, x3), w4]) (st' := [(0, x2), (0, x3)]) rfl ?_
  refine wp_if2 rfl rfl rfl (fun (c1 : x2 ≤ x3) => ?_) (fun (c1 : ¬ (x2 ≤ x3)) => ?_)
  · refine wp_run 2 (pc' := 90) (ls' := [(2, 321), (0, x1), (0, x2), (0, x3), w4]) (st' := [(0, x1), (2, 321)]) rfl ?_
    refine wp_if1 rfl rfl rfl (fun (c2 : 0 ≤ x1) => ?_) (fun (c2 : ¬ (0 ≤ x1)) => ?_)
    · refine wp_run 1 (pc' := 98) (ls' := [(2, 321), (0, x1), (0, x2), (0, x3), w4]) (st' := [(2, 321), (2, 321)]) rfl ?_
      refine wp_gf (pc' := 101) (t := 0) (v := (M 321 48)) rfl rfl (by decide) rfl rfl rfl ?_
      refine wp_pf (pc' := 104) rfl rfl rfl rfl (fun z => absurd z (by decide)) (fun z => absurd z (by decide)) ?_
      refine wp_run 1 (pc' := 105) (ls' := [(2, 321), (0, x1), (0, x2), (0, x3), w4]) (st' := [(0, x1)]) rfl ?_
      exact wp_ret rfl rfl (l1 c1 c2)
    · refine wp_run 2 (pc' := 101) (ls' := [(2, 321), (0, x1), (0, x2), (0, x3), w4]) (st' := [(0, 0), (2, 321)]) rfl ?_
      refine wp_pf (pc' := 104) rfl rfl rfl rfl (fun z => absurd z (by decide)) (fun z => absurd z (by decide)) ?_
      refine wp_run 1 (pc' := 105) (ls' := [(2, 321), (0, x1), (0, x2), (0, x3), w4]) (st' := [(0, x1)]) rfl ?_
      exact wp_ret rfl rfl (l2 c1 c2)
  · refine wp_run 2 (pc' := 21) (ls' := [(2, 321), (0, x1), (0, x2), (0, x3), w4]) (st' := [(0, x3), (2, 321)]) rfl ?_
    refine wp_callv (pc' := 24) (as := [(2, 321), (0, x3)]) (rest := []) (ls1 := [(2, 321), (0, x3), (3, 0), (3, 0), (3, 0)]) rfl rfl rfl rfl rfl rfl ?_
    exact l3 c1
set_option maxRecDepth 20000 in
theorem gX10_dear_24 {xs : List Int} {d : Nat} {M : z_M} {P : Option z_V → z_L → z_M → Prop} {x1 : Int} {x2 : Int} {x3 : Int} {w4 : z_V} {s0 : Int} 
    (l1 : (s0 = 0) → wp xs (d + 1) mX10_dear 14 [(2, 321), (0, x1), (0, x2), (0, (z_w (x3 + 1))), w4] [] z_LL M P)
    (l2 : (¬ (s0 = 0)) → wp xs d mX10_isCalm 0 [(2, 321), (3, 0), (3, 0), (3, 0)] [] z_LL M (fun r L1 M1 => wp xs (d + 1) mX10_dear 31 [(2, 321), (0, x1), (0, x2), (0, x3), w4] (z_ol r ++ []) L1 M1 P)) :
    wp xs (d + 1) mX10_dear 24 [(2, 321), (0, x1), (0, x2), (0, x3), w4] [(0, s0)] z_LL M P := by
  refine wp_if1 rfl rfl rfl (fun (c1 : s0 = 0) => ?_) (fun (c1 : ¬ (s0 = 0)) => ?_)
  · refine wp_run 2 (pc' := 14) (ls' := [(2, 321), (0, x1), (0, x2), (0, (z_w (x3 + 1))), w4]) (st' := []) rfl ?_
    exact l1 c1
  · refine wp_run 1 (pc' := 28) (ls' := [(2, 321), (0, x1), (0, x2), (0, x3), w4]) (st' := [(2, 321)]) rfl ?_
    refine wp_callv (pc' := 31) (as := [(2, 321)]) (rest := []) (ls1 := [(2, 321), (3, 0), (3, 0), (3, 0)]) rfl rfl rfl rfl rfl rfl ?_
    exact l2 c1
set_option maxRecDepth 20000 in
theorem gX10_dear_31 {xs : List Int} {d : Nat} {M : z_M} {P : Option z_V → z_L → z_M → Prop} {x1 : Int} {x2 : Int} {x3 : Int} {w4 : z_V} {s0 : Int} 
    (l1 : (s0 = 0) → wp xs (d + 1) mX10_dear 14 [(2, 321), (0, x1), (0, x2), (0, (z_w (x3 + 1))), w4] [] z_LL M P)
    (l2 : (¬ (s0 = 0)) → wp xs d mX10_allHave 0 [(2, 321), (3, 0), (3, 0)] [] z_LL M (fun r L1 M1 => wp xs (d + 1) mX10_dear 38 [(2, 321), (0, x1), (0, x2), (0, x3), w4] (z_ol r ++ []) L1 M1 P)) :
    wp xs (d + 1) mX10_dear 31 [(2, 321), (0, x1), (0, x2), (0, x3), w4] [(0, s0)] z_LL M P := by
  refine wp_if1 rfl rfl rfl (fun (c1 : s0 = 0) => ?_) (fun (c1 : ¬ (s0 = 0)) => ?_)
  · refine wp_run 2 (pc' := 14) (ls' := [(2, 321), (0, x1), (0, x2), (0, (z_w (x3 + 1))), w4]) (st' := []) rfl ?_
    exact l1 c1
  · refine wp_run 1 (pc' := 35) (ls' := [(2, 321), (0, x1), (0, x2), (0, x3), w4]) (st' := [(2, 321)]) rfl ?_
    refine wp_callv (pc' := 38) (as := [(2, 321)]) (rest := []) (ls1 := [(2, 321), (3, 0), (3, 0)]) rfl rfl rfl rfl rfl rfl ?_
    exact l2 c1
set_option maxRecDepth 20000 in
theorem gX10_dear_38 {xs : List Int} {d : Nat} {M : z_M} {P : Option z_V → z_L → z_M → Prop} {x1 : Int} {x2 : Int} {x3 : Int} {w4 : z_V} {s0 : Int} 
    (l1 : (x1 < s0) → wp xs d mX10_allHave 0 [(2, 321), (3, 0), (3, 0)] [] z_LL M (fun r L1 M1 => wp xs (d + 1) mX10_dear 49 [(2, 321), (0, x1), (0, x2), (0, x3), w4] (z_ol r ++ []) L1 M1 P))
    (l2 : (¬ (x1 < s0)) → wp xs (d + 1) mX10_dear 14 [(2, 321), (0, x1), (0, x2), (0, (z_w (x3 + 1))), w4] [] z_LL M P) :
    wp xs (d + 1) mX10_dear 38 [(2, 321), (0, x1), (0, x2), (0, x3), w4] [(0, s0)] z_LL M P := by
  refine wp_run 1 (pc' := 39) (ls' := [(2, 321), (0, x1), (0, x2), (0, x3), w4]) (st' := [(0, x1), (0, s0)]) rfl ?_
  refine wp_if2 rfl rfl rfl (fun (c1 : x1 < s0) => ?_) (fun (c1 : ¬ (x1 < s0)) => ?_)
  · refine wp_run 1 (pc' := 46) (ls' := [(2, 321), (0, x1), (0, x2), (0, x3), w4]) (st' := [(2, 321)]) rfl ?_
    refine wp_callv (pc' := 49) (as := [(2, 321)]) (rest := []) (ls1 := [(2, 321), (3, 0), (3, 0)]) rfl rfl rfl rfl rfl rfl ?_
    exact l1 c1
  · refine wp_run 3 (pc' := 14) (ls' := [(2, 321), (0, x1), (0, x2), (0, (z_w (x3 + 1))), w4]) (st' := []) rfl ?_
    exact l2 c1
set_option maxRecDepth 20000 in
theorem gX10_dear_49 {xs : List Int} {d : Nat} {M : z_M} {P : Option z_V → z_L → z_M → Prop} {x1 : Int} {x2 : Int} {x3 : Int} {w4 : z_V} {s0 : Int} 
    (l1 : wp xs d mX10_dear 53 [(2, 321), (0, s0), (0, x2), (0, x3), (0, 0)] [] z_LL M P) :
    wp xs d mX10_dear 49 [(2, 321), (0, x1), (0, x2), (0, x3), w4] [(0, s0)] z_LL M P := by
  refine wp_run 3 (pc' := 53) (ls' := [(2, 321), (0, s0), (0, x2), (0, x3), (0, 0)]) (st' := []) rfl ?_
  exact l1
set_option maxRecDepth 20000 in
theorem gX10_dear_53 {xs : List Int} {d : Nat} {M : z_M} {P : Option z_V → z_L → z_M → Prop} {x1 : Int} {x2 : Int} {x3 : Int} {x4 : Int} (hF : z_fix M) 
    (l1 : ((M 321 48) ≤ x4) → wp xs d mX10_dear 14 [(2, 321), (0, x1), (0, x2), (0, (z_w (x3 + 1))), (0, x4)] [] z_LL M P)
    (b1 : (¬ ((M 321 48) ≤ x4)) → 0 ≤ x4 ∧ x4 < 6)
    (l2 : (¬ ((M 321 48) ≤ x4)) → wp xs d mX10_dear 53 [(2, 321), (0, x1), (0, x2), (0, x3), (0, (z_w (x4 + 1)))] [] z_LL (z_up M 347 x4 (M 346 x4)) P) :
    wp xs d mX10_dear 53 [(2, 321), (0, x1), (0, x2), (0, x3), (0, x4)] [] z_LL M P := by
  refine wp_run 2 (pc' := 56) (ls' := [(2, 321), (0, x1), (0, x2), (0, x3), (0, x4)]) (st' := [(2, 321), (0, x4)]) rfl ?_
  refine wp_gf (pc' := 59) (t := 0) (v := (M 321 48)) rfl rfl (by decide) rfl rfl rfl ?_
  refine wp_if2 rfl rfl rfl (fun (c1 : (M 321 48) ≤ x4) => ?_) (fun (c1 : ¬ ((M 321 48) ≤ x4)) => ?_)
  · refine wp_run 2 (pc' := 14) (ls' := [(2, 321), (0, x1), (0, x2), (0, (z_w (x3 + 1))), (0, x4)]) (st' := []) rfl ?_
    exact l1 c1
  · refine wp_run 1 (pc' := 63) (ls' := [(2, 321), (0, x1), (0, x2), (0, x3), (0, x4)]) (st' := [(2, 321)]) rfl ?_
    refine wp_gf (pc' := 66) (t := 2) (v := 347) rfl rfl (by decide) rfl rfl (fx_321_67 hF) ?_
    refine wp_run 2 (pc' := 69) (ls' := [(2, 321), (0, x1), (0, x2), (0, x3), (0, x4)]) (st' := [(2, 321), (0, x4), (2, 347)]) rfl ?_
    refine wp_gf (pc' := 72) (t := 2) (v := 346) rfl rfl (by decide) rfl rfl (fx_321_66 hF) ?_
    refine wp_run 1 (pc' := 74) (ls' := [(2, 321), (0, x1), (0, x2), (0, x3), (0, x4)]) (st' := [(0, x4), (2, 346), (0, x4), (2, 347)]) rfl ?_
    refine wp_iald (pc' := 75) (v := (M 346 x4)) rfl rfl rfl (b1 c1) rfl ?_
    refine wp_iast (pc' := 76) rfl rfl rfl (b1 c1) ?_
    refine wp_run 2 (pc' := 53) (ls' := [(2, 321), (0, x1), (0, x2), (0, x3), (0, (z_w (x4 + 1)))]) (st' := []) rfl ?_
    exact l2 c1
set_option maxRecDepth 20000 in
theorem gX10_reach_0 {xs : List Int} {d : Nat} {M : z_M} {P : Option z_V → z_L → z_M → Prop} {a1 : Int} (hF : z_fix M) (hC : z_mc M) 
    (l1 : ((0 ≤ a1 ∧ a1 < M 321 48)) → wp xs (d + 1) mX10_rowsOf 0 [(2, 321), (3, 0), (3, 0)] [] z_LL M (fun r L1 M1 => wp xs (d + 2) mX10_reach 16 [(2, 321), (0, a1), (0, (-1)), (3, 0), (3, 0)] (z_ol r ++ []) L1 M1 P))
    (l2 : (¬ (0 ≤ a1 ∧ a1 < M 321 48)) → P (some (0, (-1))) z_LL M) :
    wp xs (d + 2) mX10_reach 0 [(2, 321), (0, a1), (3, 0), (3, 0), (3, 0)] [] z_LL M P := by
  refine wp_run 2 (pc' := 2) (ls' := [(2, 321), (0, a1), (3, 0), (3, 0), (3, 0)]) (st' := [(0, a1), (2, 321)]) rfl ?_
  refine wp_callv (pc' := 5) (as := [(2, 321), (0, a1)]) (rest := []) (ls1 := [(2, 321), (0, a1)]) rfl rfl rfl rfl rfl rfl ?_
  refine s_X10_isFlock hF hC ?_
  show wp xs _ mX10_reach 5 [(2, 321), (0, a1), (3, 0), (3, 0), (3, 0)] [(0, (z_b (0 ≤ a1 ∧ a1 < M 321 48)))] z_LL M _
  refine wp_bn rfl rfl rfl (fun (c1 : (0 ≤ a1 ∧ a1 < M 321 48)) => ?_) (fun (c1 : ¬ (0 ≤ a1 ∧ a1 < M 321 48)) => ?_)
  · refine wp_run 3 (pc' := 13) (ls' := [(2, 321), (0, a1), (0, (-1)), (3, 0), (3, 0)]) (st' := [(2, 321)]) rfl ?_
    refine wp_callv (pc' := 16) (as := [(2, 321)]) (rest := []) (ls1 := [(2, 321), (3, 0), (3, 0)]) rfl rfl rfl rfl rfl rfl ?_
    exact l1 c1
  · refine wp_run 1 (pc' := 9) (ls' := [(2, 321), (0, a1), (3, 0), (3, 0), (3, 0)]) (st' := [(0, (-1))]) rfl ?_
    exact wp_ret rfl rfl (l2 c1)
set_option maxRecDepth 20000 in
theorem gX10_reach_16 {xs : List Int} {d : Nat} {M : z_M} {P : Option z_V → z_L → z_M → Prop} {x1 : Int} {x2 : Int} {s0 : Int} 
    (l1 : wp xs d mX10_reach 20 [(2, 321), (0, x1), (0, x2), (0, s0), (0, 0)] [] z_LL M P) :
    wp xs d mX10_reach 16 [(2, 321), (0, x1), (0, x2), (3, 0), (3, 0)] [(0, s0)] z_LL M P := by
  refine wp_run 3 (pc' := 20) (ls' := [(2, 321), (0, x1), (0, x2), (0, s0), (0, 0)]) (st' := []) rfl ?_
  exact l1
set_option maxRecDepth 20000 in
theorem gX10_reach_20 {xs : List Int} {d : Nat} {M : z_M} {P : Option z_V → z_L → z_M → Prop} {x1 : Int} {x2 : Int} {x3 : Int} {x4 : Int} 
    (l1 : (x3 ≤ x4) → P (some (0, x2)) z_LL M)
    (l2 : (¬ (x3 ≤ x4)) → wp xs d mX10_layPairs 0 [(2, 321), (0, x4), (3, 0), (3, 0), (3, 0)] [] z_LL M (fun r L1 M1 => wp xs (d + 1) mX10_reach 32 [(2, 321), (0, x1), (0, x2), (0, x3), (0, x4)] (z_ol r ++ []) L1 M1 P)) :
    wp xs (d + 1) mX10_reach 20 [(2, 321), (0, x1), (0, x2), (0, x3), (0, x4)] [] z_LL M P := by
  refine wp_run 2 (pc' := 23) (ls' := [(2, 321), (0, x1), (0, x2), (0, x3), (0, x4)]) (st' := [(0, x3), (0, x4)]) rfl ?_
  refine wp_if2 rfl rfl rfl (fun (c1 : x3 ≤ x4) => ?_) (fun (c1 : ¬ (x3 ≤ x4)) => ?_)
  · refine wp_run 1 (pc' := 64) (ls' := [(2, 321), (0, x1), (0, x2), (0, x3), (0, x4)]) (st' := [(0, x2)]) rfl ?_
    exact wp_ret rfl rfl (l1 c1)
  · refine wp_run 2 (pc' := 29) (ls' := [(2, 321), (0, x1), (0, x2), (0, x3), (0, x4)]) (st' := [(0, x4), (2, 321)]) rfl ?_
    refine wp_callv (pc' := 32) (as := [(2, 321), (0, x4)]) (rest := []) (ls1 := [(2, 321), (0, x4), (3, 0), (3, 0), (3, 0)]) rfl rfl rfl rfl rfl rfl ?_
    exact l2 c1
set_option maxRecDepth 20000 in
theorem gX10_reach_32 {xs : List Int} {d : Nat} {M : z_M} {P : Option z_V → z_L → z_M → Prop} {x1 : Int} {x2 : Int} {x3 : Int} {x4 : Int} {s0 : Int} 
    (l1 : (s0 = 0) → wp xs (d + 1) mX10_reach 20 [(2, 321), (0, x1), (0, x2), (0, x3), (0, (z_w (x4 + 1)))] [] z_LL M P)
    (l2 : (¬ (s0 = 0)) → wp xs d mX10_isCalm 0 [(2, 321), (3, 0), (3, 0), (3, 0)] [] z_LL M (fun r L1 M1 => wp xs (d + 1) mX10_reach 39 [(2, 321), (0, x1), (0, x2), (0, x3), (0, x4)] (z_ol r ++ []) L1 M1 P)) :
    wp xs (d + 1) mX10_reach 32 [(2, 321), (0, x1), (0, x2), (0, x3), (0, x4)] [(0, s0)] z_LL M P := by
  refine wp_if1 rfl rfl rfl (fun (c1 : s0 = 0) => ?_) (fun (c1 : ¬ (s0 = 0)) => ?_)
  · refine wp_run 2 (pc' := 20) (ls' := [(2, 321), (0, x1), (0, x2), (0, x3), (0, (z_w (x4 + 1)))]) (st' := []) rfl ?_
    exact l1 c1
  · refine wp_run 1 (pc' := 36) (ls' := [(2, 321), (0, x1), (0, x2), (0, x3), (0, x4)]) (st' := [(2, 321)]) rfl ?_
    refine wp_callv (pc' := 39) (as := [(2, 321)]) (rest := []) (ls1 := [(2, 321), (3, 0), (3, 0), (3, 0)]) rfl rfl rfl rfl rfl rfl ?_
    exact l2 c1
set_option maxRecDepth 20000 in
theorem gX10_reach_39 {xs : List Int} {d : Nat} {M : z_M} {P : Option z_V → z_L → z_M → Prop} {x1 : Int} {x2 : Int} {x3 : Int} {x4 : Int} {s0 : Int} (hF : z_fix M) 
    (l1 : (s0 = 0) → wp xs (d + 1) mX10_reach 20 [(2, 321), (0, x1), (0, x2), (0, x3), (0, (z_w (x4 + 1)))] [] z_LL M P)
    (b1 : (¬ (s0 = 0)) → 0 ≤ x1 ∧ x1 < 6)
    (b2 : (¬ (s0 = 0)) → (0 ≤ (M 346 x1)) → 0 ≤ (z_w ((z_w (6 * x1)) + (M 346 x1))) ∧ (z_w ((z_w (6 * x1)) + (M 346 x1))) < 36)
    (l2 : (¬ (s0 = 0)) → (0 ≤ (M 346 x1)) → ((M 340 (z_w ((z_w (6 * x1)) + (M 346 x1)))) ≤ x2) → wp xs (d + 1) mX10_reach 20 [(2, 321), (0, x1), (0, x2), (0, x3), (0, (z_w (x4 + 1)))] [] z_LL M P)
    (l3 : (¬ (s0 = 0)) → (0 ≤ (M 346 x1)) → (¬ ((M 340 (z_w ((z_w (6 * x1)) + (M 346 x1)))) ≤ x2)) → (0 ≤ (M 346 x1)) → wp xs (d + 1) mX10_reach 20 [(2, 321), (0, x1), (0, (M 340 (z_w ((z_w (6 * x1)) + (M 346 x1))))), (0, x3), (0, (z_w (x4 + 1)))] [] z_LL M P)
    (l4 : (¬ (s0 = 0)) → (0 ≤ (M 346 x1)) → (¬ ((M 340 (z_w ((z_w (6 * x1)) + (M 346 x1)))) ≤ x2)) → (¬ (0 ≤ (M 346 x1))) → wp xs (d + 1) mX10_reach 20 [(2, 321), (0, x1), (0, 0), (0, x3), (0, (z_w (x4 + 1)))] [] z_LL M P)
    (l5 : (¬ (s0 = 0)) → (¬ (0 ≤ (M 346 x1))) → (0 ≤ x2) → wp xs (d + 1) mX10_reach 20 [(2, 321), (0, x1), (0, x2), (0, x3), (0, (z_w (x4 + 1)))] [] z_LL M P)
    (b3 : (¬ (s0 = 0)) → (¬ (0 ≤ (M 346 x1))) → (¬ (0 ≤ x2)) → (0 ≤ (M 346 x1)) → 0 ≤ (z_w ((z_w (6 * x1)) + (M 346 x1))) ∧ (z_w ((z_w (6 * x1)) + (M 346 x1))) < 36)
    (l6 : (¬ (s0 = 0)) → (¬ (0 ≤ (M 346 x1))) → (¬ (0 ≤ x2)) → (0 ≤ (M 346 x1)) → wp xs (d + 1) mX10_reach 20 [(2, 321), (0, x1), (0, (M 340 (z_w ((z_w (6 * x1)) + (M 346 x1))))), (0, x3), (0, (z_w (x4 + 1)))] [] z_LL M P)
    (l7 : (¬ (s0 = 0)) → (¬ (0 ≤ (M 346 x1))) → (¬ (0 ≤ x2)) → (¬ (0 ≤ (M 346 x1))) → wp xs (d + 1) mX10_reach 20 [(2, 321), (0, x1), (0, 0), (0, x3), (0, (z_w (x4 + 1)))] [] z_LL M P) :
    wp xs (d + 1) mX10_reach 39 [(2, 321), (0, x1), (0, x2), (0, x3), (0, x4)] [(0, s0)] z_LL M P := by
  refine wp_if1 rfl rfl rfl (fun (c1 : s0 = 0) => ?_) (fun (c1 : ¬ (s0 = 0)) => ?_)
  · refine wp_run 2 (pc' := 20) (ls' := [(2, 321), (0, x1), (0, x2), (0, x3), (0, (z_w (x4 + 1)))]) (st' := []) rfl ?_
    exact l1 c1
  · refine wp_run 2 (pc' := 44) (ls' := [(2, 321), (0, x1), (0, x2), (0, x3), (0, x4)]) (st' := [(0, x1), (2, 321)]) rfl ?_
    refine wp_callv (pc' := 47) (as := [(2, 321), (0, x1)]) (rest := []) (ls1 := [(2, 321), (0, x1)]) rfl rfl rfl rfl rfl rfl ?_
    refine wp_run 1 (pc' := 1) (ls' := [(2, 321), (0, x1)]) (st' := [(2, 321)]) rfl ?_
    refine wp_gf (pc' := 4) (t := 2) (v := 346) rfl rfl (by decide) rfl rfl (fx_321_66 hF) ?_
    refine wp_run 1 (pc' := 5) (ls' := [(2, 321), (0, x1)]) (st' := [(0, x1), (2, 346)]) rfl ?_
    refine wp_iald (pc' := 6) (v := (M 346 x1)) rfl rfl rfl (b1 c1) rfl ?_
    refine wp_if1 rfl rfl rfl (fun (c2 : 0 ≤ (M 346 x1)) => ?_) (fun (c2 : ¬ (0 ≤ (M 346 x1))) => ?_)
    · refine wp_run 1 (pc' := 14) (ls' := [(2, 321), (0, x1)]) (st' := [(2, 321)]) rfl ?_
      refine wp_gf (pc' := 17) (t := 2) (v := 340) rfl rfl (by decide) rfl rfl (fx_321_34 hF) ?_
      refine wp_run 4 (pc' := 22) (ls' := [(2, 321), (0, x1)]) (st' := [(2, 321), (0, (z_w (6 * x1))), (2, 340)]) rfl ?_
      refine wp_gf (pc' := 25) (t := 2) (v := 346) rfl rfl (by decide) rfl rfl (fx_321_66 hF) ?_
      refine wp_run 1 (pc' := 26) (ls' := [(2, 321), (0, x1)]) (st' := [(0, x1), (2, 346), (0, (z_w (6 * x1))), (2, 340)]) rfl ?_
      refine wp_iald (pc' := 27) (v := (M 346 x1)) rfl rfl rfl (b1 c1) rfl ?_
      refine wp_run 1 (pc' := 28) (ls' := [(2, 321), (0, x1)]) (st' := [(0, (z_w ((z_w (6 * x1)) + (M 346 x1)))), (2, 340)]) rfl ?_
      refine wp_iald (pc' := 29) (v := (M 340 (z_w ((z_w (6 * x1)) + (M 346 x1))))) rfl rfl rfl (b2 c1 c2) rfl ?_
      refine wp_ret rfl rfl ?_
      show wp xs _ mX10_reach 47 [(2, 321), (0, x1), (0, x2), (0, x3), (0, x4)] [(0, (M 340 (z_w ((z_w (6 * x1)) + (M 346 x1)))))] z_LL M _
      refine wp_run 1 (pc' := 48) (ls' := [(2, 321), (0, x1), (0, x2), (0, x3), (0, x4)]) (st' := [(0, x2), (0, (M 340 (z_w ((z_w (6 * x1)) + (M 346 x1)))))]) rfl ?_
      refine wp_if2 rfl rfl rfl (fun (c3 : (M 340 (z_w ((z_w (6 * x1)) + (M 346 x1)))) ≤ x2) => ?_) (fun (c3 : ¬ ((M 340 (z_w ((z_w (6 * x1)) + (M 346 x1)))) ≤ x2)) => ?_)
      · refine wp_run 2 (pc' := 20) (ls' := [(2, 321), (0, x1), (0, x2), (0, x3), (0, (z_w (x4 + 1)))]) (st' := []) rfl ?_
        exact l2 c1 c2 c3
      · refine wp_run 2 (pc' := 53) (ls' := [(2, 321), (0, x1), (0, x2), (0, x3), (0, x4)]) (st' := [(0, x1), (2, 321)]) rfl ?_
        refine wp_callv (pc' := 56) (as := [(2, 321), (0, x1)]) (rest := []) (ls1 := [(2, 321), (0, x1)]) rfl rfl rfl rfl rfl rfl ?_
        refine wp_run 1 (pc' := 1) (ls' := [(2, 321), (0, x1)]) (st' := [(2, 321)]) rfl ?_
        refine wp_gf (pc' := 4) (t := 2) (v := 346) rfl rfl (by decide) rfl rfl (fx_321_66 hF) ?_
        refine wp_run 1 (pc' := 5) (ls' := [(2, 321), (0, x1)]) (st' := [(0, x1), (2, 346)]) rfl ?_
        refine wp_iald (pc' := 6) (v := (M 346 x1)) rfl rfl rfl (b1 c1) rfl ?_
        refine wp_if1 rfl rfl rfl (fun (c4 : 0 ≤ (M 346 x1)) => ?_) (fun (c4 : ¬ (0 ≤ (M 346 x1))) => ?_)
        · refine wp_run 1 (pc' := 14) (ls' := [(2, 321), (0, x1)]) (st' := [(2, 321)]) rfl ?_
          refine wp_gf (pc' := 17) (t := 2) (v := 340) rfl rfl (by decide) rfl rfl (fx_321_34 hF) ?_
          refine wp_run 4 (pc' := 22) (ls' := [(2, 321), (0, x1)]) (st' := [(2, 321), (0, (z_w (6 * x1))), (2, 340)]) rfl ?_
          refine wp_gf (pc' := 25) (t := 2) (v := 346) rfl rfl (by decide) rfl rfl (fx_321_66 hF) ?_
          refine wp_run 1 (pc' := 26) (ls' := [(2, 321), (0, x1)]) (st' := [(0, x1), (2, 346), (0, (z_w (6 * x1))), (2, 340)]) rfl ?_
          refine wp_iald (pc' := 27) (v := (M 346 x1)) rfl rfl rfl (b1 c1) rfl ?_
          refine wp_run 1 (pc' := 28) (ls' := [(2, 321), (0, x1)]) (st' := [(0, (z_w ((z_w (6 * x1)) + (M 346 x1)))), (2, 340)]) rfl ?_
          refine wp_iald (pc' := 29) (v := (M 340 (z_w ((z_w (6 * x1)) + (M 346 x1))))) rfl rfl rfl (b2 c1 c2) rfl ?_
          refine wp_ret rfl rfl ?_
          show wp xs _ mX10_reach 56 [(2, 321), (0, x1), (0, x2), (0, x3), (0, x4)] [(0, (M 340 (z_w ((z_w (6 * x1)) + (M 346 x1)))))] z_LL M _
          refine wp_run 3 (pc' := 20) (ls' := [(2, 321), (0, x1), (0, (M 340 (z_w ((z_w (6 * x1)) + (M 346 x1))))), (0, x3), (0, (z_w (x4 + 1)))]) (st' := []) rfl ?_
          exact l3 c1 c2 c3 c4
        · refine wp_run 2 (pc' := 29) (ls' := [(2, 321), (0, x1)]) (st' := [(0, 0)]) rfl ?_
          refine wp_ret rfl rfl ?_
          show wp xs _ mX10_reach 56 [(2, 321), (0, x1), (0, x2), (0, x3), (0, x4)] [(0, 0)] z_LL M _
          refine wp_run 3 (pc' := 20) (ls' := [(2, 321), (0, x1), (0, 0), (0, x3), (0, (z_w (x4 + 1)))]) (st' := []) rfl ?_
          exact l4 c1 c2 c3 c4
    · refine wp_run 2 (pc' := 29) (ls' := [(2, 321), (0, x1)]) (st' := [(0, 0)]) rfl ?_
      refine wp_ret rfl rfl ?_
      show wp xs _ mX10_reach 47 [(2, 321), (0, x1), (0, x2), (0, x3), (0, x4)] [(0, 0)] z_LL M _
      refine wp_run 1 (pc' := 48) (ls' := [(2, 321), (0, x1), (0, x2), (0, x3), (0, x4)]) (st' := [(0, x2), (0, 0)]) rfl ?_
      refine wp_if2 rfl rfl rfl (fun (c5 : 0 ≤ x2) => ?_) (fun (c5 : ¬ (0 ≤ x2)) => ?_)
      · refine wp_run 2 (pc' := 20) (ls' := [(2, 321), (0, x1), (0, x2), (0, x3), (0, (z_w (x4 + 1)))]) (st' := []) rfl ?_
        exact l5 c1 c2 c5
      · refine wp_run 2 (pc' := 53) (ls' := [(2, 321), (0, x1), (0, x2), (0, x3), (0, x4)]) (st' := [(0, x1), (2, 321)]) rfl ?_
        refine wp_callv (pc' := 56) (as := [(2, 321), (0, x1)]) (rest := []) (ls1 := [(2, 321), (0, x1)]) rfl rfl rfl rfl rfl rfl ?_
        refine wp_run 1 (pc' := 1) (ls' := [(2, 321), (0, x1)]) (st' := [(2, 321)]) rfl ?_
        refine wp_gf (pc' := 4) (t := 2) (v := 346) rfl rfl (by decide) rfl rfl (fx_321_66 hF) ?_
        refine wp_run 1 (pc' := 5) (ls' := [(2, 321), (0, x1)]) (st' := [(0, x1), (2, 346)]) rfl ?_
        refine wp_iald (pc' := 6) (v := (M 346 x1)) rfl rfl rfl (b1 c1) rfl ?_
        refine wp_if1 rfl rfl rfl (fun (c6 : 0 ≤ (M 346 x1)) => ?_) (fun (c6 : ¬ (0 ≤ (M 346 x1))) => ?_)
        · refine wp_run 1 (pc' := 14) (ls' := [(2, 321), (0, x1)]) (st' := [(2, 321)]) rfl ?_
          refine wp_gf (pc' := 17) (t := 2) (v := 340) rfl rfl (by decide) rfl rfl (fx_321_34 hF) ?_
          refine wp_run 4 (pc' := 22) (ls' := [(2, 321), (0, x1)]) (st' := [(2, 321), (0, (z_w (6 * x1))), (2, 340)]) rfl ?_
          refine wp_gf (pc' := 25) (t := 2) (v := 346) rfl rfl (by decide) rfl rfl (fx_321_66 hF) ?_
          refine wp_run 1 (pc' := 26) (ls' := [(2, 321), (0, x1)]) (st' := [(0, x1), (2, 346), (0, (z_w (6 * x1))), (2, 340)]) rfl ?_
          refine wp_iald (pc' := 27) (v := (M 346 x1)) rfl rfl rfl (b1 c1) rfl ?_
          refine wp_run 1 (pc' := 28) (ls' := [(2, 321), (0, x1)]) (st' := [(0, (z_w ((z_w (6 * x1)) + (M 346 x1)))), (2, 340)]) rfl ?_
          refine wp_iald (pc' := 29) (v := (M 340 (z_w ((z_w (6 * x1)) + (M 346 x1))))) rfl rfl rfl (b3 c1 c2 c5 c6) rfl ?_
          refine wp_ret rfl rfl ?_
          show wp xs _ mX10_reach 56 [(2, 321), (0, x1), (0, x2), (0, x3), (0, x4)] [(0, (M 340 (z_w ((z_w (6 * x1)) + (M 346 x1)))))] z_LL M _
          refine wp_run 3 (pc' := 20) (ls' := [(2, 321), (0, x1), (0, (M 340 (z_w ((z_w (6 * x1)) + (M 346 x1))))), (0, x3), (0, (z_w (x4 + 1)))]) (st' := []) rfl ?_
          exact l6 c1 c2 c5 c6
        · refine wp_run 2 (pc' := 29) (ls' := [(2, 321), (0, x1)]) (st' := [(0, 0)]) rfl ?_
          refine wp_ret rfl rfl ?_
          show wp xs _ mX10_reach 56 [(2, 321), (0, x1), (0, x2), (0, x3), (0, x4)] [(0, 0)] z_LL M _
          refine wp_run 3 (pc' := 20) (ls' := [(2, 321), (0, x1), (0, 0), (0, x3), (0, (z_w (x4 + 1)))]) (st' := []) rfl ?_
          exact l7 c1 c2 c5 c6
abbrev z_NT : Type := Int × Int × (Int → Int) × (Int → Int) × (Int → Int)
def z_way (n y : Nat) : Int → Int := z_dgr n n y (fun _ => -1)
noncomputable def z_tup (n : Nat) (M : z_M) (t0 : z_NT) (i : Nat) : z_NT := (((List.range i).map (fun y => z_way n y)).filter (z_vlb n (z_cpr M))).foldl (z_nta n M) t0
def z_mi (M M' : z_M) : Prop := (∀ q, q ≠ 321 → q ≠ 346 → q ≠ 347 → M' q = M q) ∧ ∀ j, j ≠ 68 → M' 321 j = M 321 j
section
variable {xs : List Int} {d : Nat} {M : z_M}
theorem z_vlb_t {n : Nat} {C : Int → Int → Prop} {W : Int → Int} : z_vlb n C W = true ↔ z_val n C W := by
  unfold z_vlb
  exact @decide_eq_true_iff _ (Classical.propDecidable _)
theorem z_tup_s {n i : Nat} {t0 : z_NT} : z_tup n M t0 (i + 1) = if z_vlb n (z_cpr M) (z_way n i) = true then z_nta n M (z_tup n M t0 i) (z_way n i) else z_tup n M t0 i := by
  unfold z_tup
  rw [List.range_succ, List.map_append, List.filter_append, List.foldl_append]
  show List.foldl _ _ ([z_way n i].filter _) = _
  rw [List.filter_cons]
  split
  · rfl
  · rfl
theorem z_tup_n {n i : Nat} {t0 : z_NT} (h : ¬ z_val n (z_cpr M) (z_way n i)) : z_tup n M t0 (i + 1) = z_tup n M t0 i := by
  rw [z_tup_s, if_neg (fun q => h (z_vlb_t.mp q))]
theorem z_tup_u {n i : Nat} {t0 : z_NT} (h : ¬ z_clm n M (z_way n i)) : z_tup n M t0 (i + 1) = z_tup n M t0 i := by
  rw [z_tup_s]
  unfold z_nta
  rw [if_neg h, ite_self]
theorem z_tup_y {n i : Nat} {t0 : z_NT} (h : z_val n (z_cpr M) (z_way n i)) (h2 : z_clm n M (z_way n i)) : z_tup n M t0 (i + 1) = z_nt1 n (z_wnt M) (z_tup n M t0 i) (z_way n i) := by
  rw [z_tup_s, if_pos (z_vlb_t.mpr h)]
  unfold z_nta
  rw [if_pos h2]
theorem z_tup_b {n i : Nat} {t0 : z_NT} : t0.1 ≤ (z_tup n M t0 i).1 ∧ (z_tup n M t0 i).1 ≤ t0.1 + i := by
  have h1 := z_nta_n (n := n) (M := M) (((List.range i).map (fun y => z_way n y)).filter (z_vlb n (z_cpr M))) t0
  have h2 := List.length_filter_le (z_vlb n (z_cpr M)) ((List.range i).map (fun y => z_way n y))
  rw [List.length_map, List.length_range] at h2
  unfold z_tup
  omega
theorem z_mi_r : z_mi M M := ⟨fun _ _ _ _ => rfl, fun _ _ => rfl⟩
theorem z_mi_e {M' : z_M} (f : z_mi M M') : z_cfe M M' := ⟨fun k hk => f.2 k (by omega), f.1 _ (by decide) (by decide) (by decide), f.1 _ (by decide) (by decide) (by decide), f.1 _ (by decide) (by decide) (by decide), f.1 _ (by decide) (by decide) (by decide), f.1 _ (by decide) (by decide) (by decide), f.1 _ (by decide) (by decide) (by decide), f.1 _ (by decide) (by decide) (by decide)⟩
theorem z_mi_F {M' : z_M} (f : z_mi M M') (hF : z_fix M) : z_fix M' := z_fix_gen hF (fun q j hq => by
  by_cases e : q = 321
  · rw [e] at hq ⊢
    exact f.2 j (by unfold z_fin at hq; omega)
  · rw [f.1 q e (by unfold z_fin at hq; omega) (by unfold z_fin at hq; omega)])
theorem z_cfe_w {M' : z_M} (c : z_cfe M M') : z_cpr M' = z_cpr M ∧ z_wnt M' = z_wnt M := by
  constructor
  · funext a b
    unfold z_cpr
    rw [z_e48 c, z_cm_x c, c.2.2.2.2.2.2.1]
  · funext a b
    unfold z_wnt
    rw [c.2.2.2.2.2.2.1]
theorem z_cfe_u {M' : z_M} (c : z_cfe M M') {n : Nat} : z_tup n M' = z_tup n M ∧ z_clm n M' = z_clm n M := by
  have q := z_cfe_w c
  have e : z_clm n M' = z_clm n M := by
    funext W
    unfold z_clm
    rw [q.1, q.2]
  refine ⟨?_, e⟩
  funext t0 i
  unfold z_tup
  rw [q.1, show z_nta n M' = z_nta n M from by
    funext t W
    unfold z_nta
    rw [q.2, e]]
theorem s_X10_calm {P : Option z_V → z_L → z_M → Prop} {n : Nat} (t0 : z_NT) (h0 : t0.1 = 0) (hF : z_fix M) (hC : z_mc M) (hY : z_fsy M) (hn : M 321 48 = (n : Int)) (k : ∀ M' : z_M, z_mi M M' → M' 321 68 = (if (z_tup n M t0 ((n + 1) ^ n)).1 ≠ 0 then (n : Int) else 0) → ((z_tup n M t0 ((n + 1) ^ n)).1 ≠ 0 → ∀ j : Int, 0 ≤ j → j < n → M' 347 j = (z_tup n M t0 ((n + 1) ^ n)).2.2.1 j) → P (some (0, (z_tup n M t0 ((n + 1) ^ n)).1)) z_LL M') : wp xs (d + 3) mX10_calm 0 [(2, 321), (3, 0), (3, 0), (3, 0), (3, 0)] [] z_LL M P := by
  have h6 := hC.2.2.1
  have hp := z_pow7 n (by omega)
  have m0 : z_mi M (z_up M 321 68 0) := ⟨fun q a _ _ => z_upn a, fun j a => z_upi a rfl⟩
  refine gX10_calm_0 (d := d + 2) ?_
  refine s_X10_rowsOf (n := n) (by rw [m0.2 48 (by decide)]; exact hn) (by omega) ?_
  refine gX10_calm_11 ?_
  generalize hN : (n + 1) ^ n = N at *
  have key := z_loop (W := fun i => ∀ (M' : z_M) (w4 : z_V), z_mi M M' → ((z_tup n M t0 i).1 ≠ 0 → ∀ j : Int, 0 ≤ j → j < n → M' 347 j = (z_tup n M t0 i).2.2.1 j) → wp xs (d + 3) mX10_calm 14 [(2, 321), (0, (z_tup n M t0 i).1), (0, (N : Int)), (0, (i : Int)), w4] [] z_LL M' P) N (fun i hi ih M' w4 f hv => ?_)
  · rw [show (z_tup n M t0 0).1 = 0 from h0] at key
    exact key _ _ m0 (fun q => absurd rfl q)
  · have F' := z_mi_F f hF
    have C' := z_mc_x (z_mi_e f) hC
    have n' : M' 321 48 = (n : Int) := by rw [f.2 48 (by decide)]; exact hn
    have bt := z_tup_b (M := M) (n := n) (i := i) (t0 := t0)
    have g := gX10_calm_14 (M := M') (xs := xs) (d := d + 2) (P := P) (x1 := (z_tup n M t0 i).1) (x2 := (N : Int)) (x3 := (i : Int)) (w4 := w4)
    rw [n'] at g
    refine g (fun c c2 => ?_) (fun c c2 => ?_) (fun c => ?_)
    · obtain rfl : i = N := by omega
      refine k _ ⟨fun q a b e => by rw [z_upn a]; exact f.1 q a b e, fun j a => by rw [z_upi a rfl]; exact f.2 j a⟩ (by rw [z_ups, if_pos c2]) (fun _ j a b => ?_)
      rw [z_upn (by decide)]
      exact hv c2 j a b
    · obtain rfl : i = N := by omega
      exact k _ ⟨fun q a b e => by rw [z_upn a]; exact f.1 q a b e, fun j a => by rw [z_upi a rfl]; exact f.2 j a⟩ (by rw [z_ups, if_neg c2]) (fun q => absurd q c2)
    · have ih := ih (by omega)
      refine s_X10_layPairs (d := d) (y := i) F' C' n' (by omega) (fun M2 f2 v2 => ?_)
      have m2 : z_mi M M2 := ⟨fun q a b e => by rw [f2 q b, f.1 q a b e], fun j a => by rw [f2 321 (by decide), f.2 j a]⟩
      have hv2 : (z_tup n M t0 i).1 ≠ 0 → ∀ j : Int, 0 ≤ j → j < n → M2 347 j = (z_tup n M t0 i).2.2.1 j := fun q j a b => by
        rw [f2 347 (by decide)]
        exact hv q j a b
      rw [(z_cfe_w (z_mi_e f)).1]
      have nx : ∀ (M3 : z_M) (w4 : z_V), z_tup n M t0 (i + 1) = z_tup n M t0 i → z_mi M M3 → ((z_tup n M t0 i).1 ≠ 0 → ∀ j : Int, 0 ≤ j → j < n → M3 347 j = (z_tup n M t0 i).2.2.1 j) → wp xs (d + 3) mX10_calm 14 [(2, 321), (0, (z_tup n M t0 i).1), (0, (N : Int)), (0, z_w ((i : Int) + 1)), w4] [] z_LL M3 P := fun M3 w4 e m h => by
        rw [z_in1 (by omega)]
        rw [e] at ih
        exact ih M3 w4 m h
      refine gX10_calm_24 (d := d + 2) (fun c1 => ?_) (fun c1 => ?_)
      · refine nx M2 w4 (z_tup_n (fun q => ?_)) m2 hv2
        rw [z_b_t (p := z_val n (z_cpr M) (z_dgr n n i fun _ => -1)) q] at c1
        omega
      · have va : z_val n (z_cpr M) (z_way n i) := Classical.byContradiction fun q => c1 (z_b_f q)
        refine s_X10_isCalm (d := d) (W := z_way n i) (z_mi_F m2 hF) (z_mc_x (z_mi_e m2) hC) (z_fsy_x (z_mi_e m2) hY) (by rw [m2.2 48 (by decide)]; exact hn) v2 ?_
        rw [(z_cfe_u (z_mi_e m2)).2]
        have no : ¬ z_b (z_clm n M (z_way n i)) ≠ 0 → ¬ z_clm n M (z_way n i) := fun q w => q (by rw [z_b_t w]; decide)
        have yes : z_b (z_clm n M (z_way n i)) ≠ 0 → z_clm n M (z_way n i) := fun q => Classical.byContradiction fun w => q (z_b_f w)
        refine gX10_calm_31 (fun c2 c3 => ?_) (fun c2 c3 => ?_) (fun c2 => nx M2 w4 (z_tup_u (no c2)) m2 hv2)
        · have e := z_tup_y (t0 := t0) va (yes c2)
          rw [e] at ih
          rw [z_in1 (by omega), z_wid (by omega)]
          refine ih M2 w4 m2 (fun _ j a b => ?_)
          rw [hv2 c3 j a b]
          unfold z_nt1
          dsimp only
          rw [if_neg c3]
        · have e := z_tup_y (t0 := t0) va (yes c2)
          have c3 : (z_tup n M t0 i).1 = 0 := Classical.byContradiction c3
          refine z_loop (W := fun m => ∀ M3 : z_M, z_mi M M3 → M3 346 = M2 346 → (∀ j : Int, 0 ≤ j → j < m → M3 347 j = z_way n i j) → wp xs (d + 3) mX10_calm 44 [(2, 321), (0, (z_tup n M t0 i).1), (0, (N : Int)), (0, (i : Int)), (0, (m : Int))] [] z_LL M3 P) n (fun m hm ih2 M3 m3 e346 hv3 => ?_) M2 m2 rfl (fun j a b => by omega)
          have g := gX10_calm_44 (M := M3) (xs := xs) (d := d + 3) (P := P) (x1 := (z_tup n M t0 i).1) (x2 := (N : Int)) (x3 := (i : Int)) (x4 := (m : Int)) (z_mi_F m3 hF)
          rw [m3.2 48 (by decide), hn, z_in1 (i := m) (by omega), z_in1 (i := i) (by omega), z_wid (x := (z_tup n M t0 i).1 + 1) (by omega), e346] at g
          refine g (fun c4 => ?_) (fun _ => by omega) (fun c4 => ?_)
          · obtain rfl : m = n := by omega
            rw [e] at ih
            refine ih M3 _ m3 (fun _ j a b => ?_)
            rw [hv3 j a b]
            unfold z_nt1
            dsimp only
            rw [if_pos c3]
          · refine ih2 (by omega) _ ⟨fun q a b c => by rw [z_upn c]; exact m3.1 q a b c, fun j a => by rw [z_upn (by decide)]; exact m3.2 j a⟩ (by rw [z_upn (by decide), e346]) (fun j a b => ?_)
            by_cases ej : j = m
            · rw [ej, z_ups]
              exact (v2 m (by omega) (by omega)).1
            · rw [z_upi ej rfl]
              exact hv3 j a (by omega)
end
