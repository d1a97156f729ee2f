/-! the wells: the model -/
set_option maxRecDepth 20000 in
theorem gX10_wells_0 {xs : List Int} {d : Nat} {M : z_M} {P : Option z_V → z_L → z_M → Prop} 
    (l1 : wp xs d mX10_wells 2 [(2, 321), (0, 0), (3, 0), (3, 0), (3, 0)] [] z_LL M P) :
    wp xs d mX10_wells 0 [(2, 321), (3, 0), (3, 0), (3, 0), (3, 0)] [] z_LL M P := by
  refine wp_run 2 (pc' := 2) (ls' := [(2, 321), (0, 0), (3, 0), (3, 0), (3, 0)]) (st' := []) rfl ?_
  exact l1
set_option maxRecDepth 20000 in
theorem gX10_wells_2 {xs : List Int} {d : Nat} {M : z_M} {P : Option z_V → z_L → z_M → Prop} {x1 : Int} (hF : z_fix M) 
    (l1 : ((M 321 48) ≤ x1) → wp xs d mX10_wells 29 [(2, 321), (0, 1000000), (0, 1), (3, 0), (3, 0)] [] z_LL M P)
    (b1 : (¬ ((M 321 48) ≤ x1)) → 0 ≤ x1 ∧ x1 < 6)
    (l2 : (¬ ((M 321 48) ≤ x1)) → wp xs d mX10_wells 2 [(2, 321), (0, (z_w (x1 + 1))), (3, 0), (3, 0), (3, 0)] [] z_LL (z_up M 348 x1 x1) P) :
    wp xs d mX10_wells 2 [(2, 321), (0, x1), (3, 0), (3, 0), (3, 0)] [] z_LL M P := by
  refine wp_run 2 (pc' := 4) (ls' := [(2, 321), (0, x1), (3, 0), (3, 0), (3, 0)]) (st' := [(2, 321), (0, x1)]) rfl ?_
  refine wp_gf (pc' := 7) (t := 0) (v := (M 321 48)) rfl rfl (by decide) rfl rfl rfl ?_
  refine wp_if2 rfl rfl rfl (fun (c1 : (M 321 48) ≤ x1) => ?_) (fun (c1 : ¬ ((M 321 48) ≤ x1)) => ?_)
  · refine wp_run 4 (pc' := 29) (ls' := [(2, 321), (0, 1000000), (0, 1), (3, 0), (3, 0)]) (st' := []) rfl ?_
    exact l1 c1
  · refine wp_run 1 (pc' := 11) (ls' := [(2, 321), (0, x1), (3, 0), (3, 0), (3, 0)]) (st' := [(2, 321)]) rfl ?_
    refine wp_gf (pc' := 14) (t := 2) (v := 348) rfl rfl (by decide) rfl rfl (fx_321_69 hF) ?_
    refine wp_run 2 (pc' := 16) (ls' := [(2, 321), (0, x1), (3, 0), (3, 0), (3, 0)]) (st' := [(0, x1), (0, x1), (2, 348)]) rfl ?_
    refine wp_iast (pc' := 17) rfl rfl rfl (b1 c1) ?_
    refine wp_run 2 (pc' := 2) (ls' := [(2, 321), (0, (z_w (x1 + 1))), (3, 0), (3, 0), (3, 0)]) (st' := []) rfl ?_
    exact l2 c1
set_option maxRecDepth 20000 in
theorem gX10_wells_29 {xs : List Int} {d : Nat} {M : z_M} {P : Option z_V → z_L → z_M → Prop} {x1 : Int} {x2 : Int} {w3 : z_V} {w4 : z_V} 
    (l1 : (x2 = 0) → P (some (0, x1)) z_LL (z_up M 321 68 (M 321 48)))
    (l2 : (¬ (x2 = 0)) → wp xs d mX10_lossOf 0 [(2, 321), (3, 0), (3, 0), (3, 0), (3, 0)] [] z_LL M (fun r L1 M1 => wp xs (d + 1) mX10_wells 37 [(2, 321), (0, x1), (0, x2), w3, w4] (z_ol r ++ []) L1 M1 P)) :
    wp xs (d + 1) mX10_wells 29 [(2, 321), (0, x1), (0, x2), w3, w4] [] z_LL M P := by
  refine wp_run 1 (pc' := 30) (ls' := [(2, 321), (0, x1), (0, x2), w3, w4]) (st' := [(0, x2)]) rfl ?_
  refine wp_if1 rfl rfl rfl (fun (c1 : x2 = 0) => ?_) (fun (c1 : ¬ (x2 = 0)) => ?_)
  · refine wp_run 2 (pc' := 87) (ls' := [(2, 321), (0, x1), (0, x2), w3, w4]) (st' := [(2, 321), (2, 321)]) rfl ?_
    refine wp_gf (pc' := 90) (t := 0) (v := (M 321 48)) rfl rfl (by decide) rfl rfl rfl ?_
    refine wp_pf (pc' := 93) rfl rfl rfl rfl (fun z => absurd z (by decide)) (fun z => absurd z (by decide)) ?_
    refine wp_run 1 (pc' := 94) (ls' := [(2, 321), (0, x1), (0, x2), w3, w4]) (st' := [(0, x1)]) rfl ?_
    exact wp_ret rfl rfl (l1 c1)
  · refine wp_run 1 (pc' := 34) (ls' := [(2, 321), (0, x1), (0, x2), w3, w4]) (st' := [(2, 321)]) rfl ?_
    refine wp_callv (pc' := 37) (as := [(2, 321)]) (rest := []) (ls1 := [(2, 321), (3, 0), (3, 0), (3, 0), (3, 0)]) rfl rfl rfl rfl rfl rfl ?_
    exact l2 c1
set_option maxRecDepth 20000 in
theorem gX10_wells_37 {xs : List Int} {d : Nat} {M : z_M} {P : Option z_V → z_L → z_M → Prop} {x1 : Int} {x2 : Int} {w3 : z_V} {w4 : z_V} {s0 : Int} 
    (l1 : (x1 ≤ s0) → wp xs d mX10_nextOrder 0 [(2, 321), (3, 0), (3, 0), (3, 0), (3, 0)] [] z_LL M (fun r L1 M1 => wp xs (d + 1) mX10_wells 81 [(2, 321), (0, x1), (0, x2), (0, s0), w4] (z_ol r ++ []) L1 M1 P))
    (l2 : (¬ (x1 ≤ s0)) → wp xs (d + 1) mX10_wells 48 [(2, 321), (0, s0), (0, x2), (0, s0), (0, 0)] [] z_LL M P) :
    wp xs (d + 1) mX10_wells 37 [(2, 321), (0, x1), (0, x2), w3, w4] [(0, s0)] z_LL M P := by
  refine wp_run 3 (pc' := 40) (ls' := [(2, 321), (0, x1), (0, x2), (0, s0), w4]) (st' := [(0, x1), (0, s0)]) rfl ?_
  refine wp_if2 rfl rfl rfl (fun (c1 : x1 ≤ s0) => ?_) (fun (c1 : ¬ (x1 ≤ s0)) => ?_)
  · refine wp_run 1 (pc' := 78) (ls' := [(2, 321), (0, x1), (0, x2), (0, s0), w4]) (st' := [(2, 321)]) rfl ?_
    refine wp_callv (pc' := 81) (as := [(2, 321)]) (rest := []) (ls1 := [(2, 321), (3, 0), (3, 0), (3, 0), (3, 0)]) rfl rfl rfl rfl rfl rfl ?_
    exact l1 c1
  · refine wp_run 4 (pc' := 48) (ls' := [(2, 321), (0, s0), (0, x2), (0, s0), (0, 0)]) (st' := []) rfl ?_
    exact l2 c1
set_option maxRecDepth 20000 in
theorem gX10_wells_48 {xs : List Int} {d : Nat} {M : z_M} {P : Option z_V → z_L → z_M → Prop} {x1 : Int} {x2 : Int} {x3 : Int} {x4 : Int} (hF : z_fix M) 
    (l1 : ((M 321 48) ≤ x4) → wp xs d mX10_nextOrder 0 [(2, 321), (3, 0), (3, 0), (3, 0), (3, 0)] [] z_LL M (fun r L1 M1 => wp xs (d + 1) mX10_wells 81 [(2, 321), (0, x1), (0, x2), (0, x3), (0, x4)] (z_ol r ++ []) L1 M1 P))
    (b1 : (¬ ((M 321 48) ≤ x4)) → 0 ≤ x4 ∧ x4 < 6)
    (l2 : (¬ ((M 321 48) ≤ x4)) → wp xs (d + 1) mX10_wells 48 [(2, 321), (0, x1), (0, x2), (0, x3), (0, (z_w (x4 + 1)))] [] z_LL (z_up M 347 x4 (M 348 x4)) P) :
    wp xs (d + 1) mX10_wells 48 [(2, 321), (0, x1), (0, x2), (0, x3), (0, x4)] [] z_LL M P := by
  refine wp_run 2 (pc' := 51) (ls' := [(2, 321), (0, x1), (0, x2), (0, x3), (0, x4)]) (st' := [(2, 321), (0, x4)]) rfl ?_
  refine wp_gf (pc' := 54) (t := 0) (v := (M 321 48)) rfl rfl (by decide) rfl rfl rfl ?_
  refine wp_if2 rfl rfl rfl (fun (c1 : (M 321 48) ≤ x4) => ?_) (fun (c1 : ¬ ((M 321 48) ≤ x4)) => ?_)
  · refine wp_run 1 (pc' := 78) (ls' := [(2, 321), (0, x1), (0, x2), (0, x3), (0, x4)]) (st' := [(2, 321)]) rfl ?_
    refine wp_callv (pc' := 81) (as := [(2, 321)]) (rest := []) (ls1 := [(2, 321), (3, 0), (3, 0), (3, 0), (3, 0)]) rfl rfl rfl rfl rfl rfl ?_
    exact l1 c1
  · refine wp_run 1 (pc' := 58) (ls' := [(2, 321), (0, x1), (0, x2), (0, x3), (0, x4)]) (st' := [(2, 321)]) rfl ?_
    refine wp_gf (pc' := 61) (t := 2) (v := 347) rfl rfl (by decide) rfl rfl (fx_321_67 hF) ?_
    refine wp_run 2 (pc' := 64) (ls' := [(2, 321), (0, x1), (0, x2), (0, x3), (0, x4)]) (st' := [(2, 321), (0, x4), (2, 347)]) rfl ?_
    refine wp_gf (pc' := 67) (t := 2) (v := 348) rfl rfl (by decide) rfl rfl (fx_321_69 hF) ?_
    refine wp_run 1 (pc' := 69) (ls' := [(2, 321), (0, x1), (0, x2), (0, x3), (0, x4)]) (st' := [(0, x4), (2, 348), (0, x4), (2, 347)]) rfl ?_
    refine wp_iald (pc' := 70) (v := (M 348 x4)) rfl rfl rfl (b1 c1) rfl ?_
    refine wp_iast (pc' := 71) rfl rfl rfl (b1 c1) ?_
    refine wp_run 2 (pc' := 48) (ls' := [(2, 321), (0, x1), (0, x2), (0, x3), (0, (z_w (x4 + 1)))]) (st' := []) rfl ?_
    exact l2 c1
set_option maxRecDepth 20000 in
theorem gX10_wells_81 {xs : List Int} {d : Nat} {M : z_M} {P : Option z_V → z_L → z_M → Prop} {x1 : Int} {x2 : Int} {x3 : Int} {w4 : z_V} {s0 : Int} 
    (l1 : wp xs d mX10_wells 29 [(2, 321), (0, x1), (0, s0), (0, x3), w4] [] z_LL M P) :
    wp xs d mX10_wells 81 [(2, 321), (0, x1), (0, x2), (0, x3), w4] [(0, s0)] z_LL M P := by
  refine wp_run 2 (pc' := 29) (ls' := [(2, 321), (0, x1), (0, s0), (0, x3), w4]) (st' := []) rfl ?_
  exact l1
set_option maxRecDepth 20000 in
theorem gX10_lossOf_0 {xs : List Int} {d : Nat} {M : z_M} {P : Option z_V → z_L → z_M → Prop} 
    (l1 : wp xs d mX10_lossOf 6 [(2, 321), (0, 0), (0, 0), (0, 0), (3, 0)] [] z_LL M P) :
    wp xs d mX10_lossOf 0 [(2, 321), (3, 0), (3, 0), (3, 0), (3, 0)] [] z_LL M P := by
  refine wp_run 6 (pc' := 6) (ls' := [(2, 321), (0, 0), (0, 0), (0, 0), (3, 0)]) (st' := []) rfl ?_
  exact l1
set_option maxRecDepth 20000 in
theorem gX10_lossOf_6 {xs : List Int} {d : Nat} {M : z_M} {P : Option z_V → z_L → z_M → Prop} {x1 : Int} {x2 : Int} {x3 : Int} {w4 : z_V} (hF : z_fix M) 
    (l1 : ((M 321 48) ≤ x3) → P (some (0, x2)) z_LL M)
    (b1 : (¬ ((M 321 48) ≤ x3)) → 0 ≤ x3 ∧ x3 < 6)
    (b2 : (¬ ((M 321 48) ≤ x3)) → 0 ≤ (z_w (12 + (M 348 x3))) ∧ (z_w (12 + (M 348 x3))) < 106)
    (b3 : (¬ ((M 321 48) ≤ x3)) → ((M 342 (z_w (12 + (M 348 x3)))) < 0) → 0 ≤ (M 348 x3) ∧ (M 348 x3) < 6)
    (l2 : (¬ ((M 321 48) ≤ x3)) → ((M 342 (z_w (12 + (M 348 x3)))) < 0) → wp xs d mX10_lossOf 6 [(2, 321), (0, (z_w (x1 + (M 339 (M 348 x3))))), (0, (z_w (x2 + (z_w (x1 * (M 339 (M 348 x3))))))), (0, (z_w (x3 + 1))), (0, (M 348 x3))] [] z_LL M P)
    (b4 : (¬ ((M 321 48) ≤ x3)) → (¬ ((M 342 (z_w (12 + (M 348 x3)))) < 0)) → 0 ≤ (M 348 x3) ∧ (M 348 x3) < 6)
    (l3 : (¬ ((M 321 48) ≤ x3)) → (¬ ((M 342 (z_w (12 + (M 348 x3)))) < 0)) → wp xs d mX10_lossOf 6 [(2, 321), (0, (z_w (x1 + (M 339 (M 348 x3))))), (0, (z_w (x2 + (z_w (x1 * 1))))), (0, (z_w (x3 + 1))), (0, (M 348 x3))] [] z_LL M P) :
    wp xs d mX10_lossOf 6 [(2, 321), (0, x1), (0, x2), (0, x3), w4] [] z_LL M P := by
  refine wp_run 2 (pc' := 8) (ls' := [(2, 321), (0, x1), (0, x2), (0, x3), w4]) (st' := [(2, 321), (0, x3)]) rfl ?_
  refine wp_gf (pc' := 11) (t := 0) (v := (M 321 48)) rfl rfl (by decide) rfl rfl rfl ?_
  refine wp_if2 rfl rfl rfl (fun (c1 : (M 321 48) ≤ x3) => ?_) (fun (c1 : ¬ ((M 321 48) ≤ x3)) => ?_)
  · refine wp_run 1 (pc' := 68) (ls' := [(2, 321), (0, x1), (0, x2), (0, x3), w4]) (st' := [(0, x2)]) rfl ?_
    exact wp_ret rfl rfl (l1 c1)
  · refine wp_run 1 (pc' := 15) (ls' := [(2, 321), (0, x1), (0, x2), (0, x3), w4]) (st' := [(2, 321)]) rfl ?_
    refine wp_gf (pc' := 18) (t := 2) (v := 348) rfl rfl (by decide) rfl rfl (fx_321_69 hF) ?_
    refine wp_run 1 (pc' := 19) (ls' := [(2, 321), (0, x1), (0, x2), (0, x3), w4]) (st' := [(0, x3), (2, 348)]) rfl ?_
    refine wp_iald (pc' := 20) (v := (M 348 x3)) rfl rfl rfl (b1 c1) rfl ?_
    refine wp_run 4 (pc' := 25) (ls' := [(2, 321), (0, x1), (0, x2), (0, x3), (0, (M 348 x3))]) (st' := [(2, 321), (0, x1), (0, x2)]) rfl ?_
    refine wp_gf (pc' := 28) (t := 2) (v := 342) rfl rfl (by decide) rfl rfl (fx_321_60 hF) ?_
    refine wp_run 3 (pc' := 33) (ls' := [(2, 321), (0, x1), (0, x2), (0, x3), (0, (M 348 x3))]) (st' := [(0, (z_w (12 + (M 348 x3)))), (2, 342), (0, x1), (0, x2)]) rfl ?_
    refine wp_iald (pc' := 34) (v := (M 342 (z_w (12 + (M 348 x3))))) rfl rfl rfl (b2 c1) rfl ?_
    refine wp_if1 rfl rfl rfl (fun (c2 : (M 342 (z_w (12 + (M 348 x3)))) < 0) => ?_) (fun (c2 : ¬ ((M 342 (z_w (12 + (M 348 x3)))) < 0)) => ?_)
    · refine wp_run 1 (pc' := 42) (ls' := [(2, 321), (0, x1), (0, x2), (0, x3), (0, (M 348 x3))]) (st' := [(2, 321), (0, x1), (0, x2)]) rfl ?_
      refine wp_gf (pc' := 45) (t := 2) (v := 339) rfl rfl (by decide) rfl rfl (fx_321_33 hF) ?_
      refine wp_run 1 (pc' := 47) (ls' := [(2, 321), (0, x1), (0, x2), (0, x3), (0, (M 348 x3))]) (st' := [(0, (M 348 x3)), (2, 339), (0, x1), (0, x2)]) rfl ?_
      refine wp_iald (pc' := 48) (v := (M 339 (M 348 x3))) rfl rfl rfl (b3 c1 c2) rfl ?_
      refine wp_run 5 (pc' := 53) (ls' := [(2, 321), (0, x1), (0, (z_w (x2 + (z_w (x1 * (M 339 (M 348 x3))))))), (0, x3), (0, (M 348 x3))]) (st' := [(2, 321), (0, x1)]) rfl ?_
      refine wp_gf (pc' := 56) (t := 2) (v := 339) rfl rfl (by decide) rfl rfl (fx_321_33 hF) ?_
      refine wp_run 1 (pc' := 58) (ls' := [(2, 321), (0, x1), (0, (z_w (x2 + (z_w (x1 * (M 339 (M 348 x3))))))), (0, x3), (0, (M 348 x3))]) (st' := [(0, (M 348 x3)), (2, 339), (0, x1)]) rfl ?_
      refine wp_iald (pc' := 59) (v := (M 339 (M 348 x3))) rfl rfl rfl (b3 c1 c2) rfl ?_
      refine wp_run 4 (pc' := 6) (ls' := [(2, 321), (0, (z_w (x1 + (M 339 (M 348 x3))))), (0, (z_w (x2 + (z_w (x1 * (M 339 (M 348 x3))))))), (0, (z_w (x3 + 1))), (0, (M 348 x3))]) (st' := []) rfl ?_
      exact l2 c1 c2
    · refine wp_run 7 (pc' := 53) (ls' := [(2, 321), (0, x1), (0, (z_w (x2 + (z_w (x1 * 1))))), (0, x3), (0, (M 348 x3))]) (st' := [(2, 321), (0, x1)]) rfl ?_
      refine wp_gf (pc' := 56) (t := 2) (v := 339) rfl rfl (by decide) rfl rfl (fx_321_33 hF) ?_
      refine wp_run 1 (pc' := 58) (ls' := [(2, 321), (0, x1), (0, (z_w (x2 + (z_w (x1 * 1))))), (0, x3), (0, (M 348 x3))]) (st' := [(0, (M 348 x3)), (2, 339), (0, x1)]) rfl ?_
      refine wp_iald (pc' := 59) (v := (M 339 (M 348 x3))) rfl rfl rfl (b4 c1 c2) rfl ?_
      refine wp_run 4 (pc' := 6) (ls' := [(2, 321), (0, (z_w (x1 + (M 339 (M 348 x3))))), (0, (z_w (x2 + (z_w (x1 * 1))))), (0, (z_w (x3 + 1))), (0, (M 348 x3))]) (st' := []) rfl ?_
      exact l3 c1 c2
set_option maxRecDepth 20000 in
theorem gX10_nextOrder_0 {xs : List Int} {d : Nat} {M : z_M} {P : Option z_V → z_L → z_M → Prop} 
    (l1 : wp xs d mX10_nextOrder 7 [(2, 321), (0, (z_w ((M 321 48) - 2))), (3, 0), (3, 0), (3, 0)] [] z_LL M P) :
    wp xs d mX10_nextOrder 0 [(2, 321), (3, 0), (3, 0), (3, 0), (3, 0)] [] z_LL M P := by
  refine wp_run 1 (pc' := 1) (ls' := [(2, 321), (3, 0), (3, 0), (3, 0), (3, 0)]) (st' := [(2, 321)]) rfl ?_
  refine wp_gf (pc' := 4) (t := 0) (v := (M 321 48)) rfl rfl (by decide) rfl rfl rfl ?_
  refine wp_run 3 (pc' := 7) (ls' := [(2, 321), (0, (z_w ((M 321 48) - 2))), (3, 0), (3, 0), (3, 0)]) (st' := []) rfl ?_
  exact l1
set_option maxRecDepth 20000 in
theorem gX10_nextOrder_7 {xs : List Int} {d : Nat} {M : z_M} {P : Option z_V → z_L → z_M → Prop} {x1 : Int} (hF : z_fix M) 
    (l1 : (x1 < 0) → (0 ≤ x1) → wp xs d mX10_nextOrder 47 [(2, 321), (0, x1), (0, (z_w ((M 321 48) - 1))), (3, 0), (3, 0)] [] z_LL M P)
    (l2 : (x1 < 0) → (¬ (0 ≤ x1)) → P (some (0, 0)) z_LL M)
    (b1 : (¬ (x1 < 0)) → 0 ≤ x1 ∧ x1 < 6)
    (b2 : (¬ (x1 < 0)) → 0 ≤ (z_w (x1 + 1)) ∧ (z_w (x1 + 1)) < 6)
    (l3 : (¬ (x1 < 0)) → ((M 348 x1) ≤ (M 348 (z_w (x1 + 1)))) → (0 ≤ x1) → wp xs d mX10_nextOrder 47 [(2, 321), (0, x1), (0, (z_w ((M 321 48) - 1))), (3, 0), (3, 0)] [] z_LL M P)
    (l4 : (¬ (x1 < 0)) → ((M 348 x1) ≤ (M 348 (z_w (x1 + 1)))) → (¬ (0 ≤ x1)) → P (some (0, 0)) z_LL M)
    (l5 : (¬ (x1 < 0)) → (¬ ((M 348 x1) ≤ (M 348 (z_w (x1 + 1))))) → wp xs d mX10_nextOrder 7 [(2, 321), (0, (z_w (x1 + (-1)))), (3, 0), (3, 0), (3, 0)] [] z_LL M P) :
    wp xs d mX10_nextOrder 7 [(2, 321), (0, x1), (3, 0), (3, 0), (3, 0)] [] z_LL M P := by
  refine wp_run 1 (pc' := 8) (ls' := [(2, 321), (0, x1), (3, 0), (3, 0), (3, 0)]) (st' := [(0, x1)]) rfl ?_
  refine wp_if1 rfl rfl rfl (fun (c1 : x1 < 0) => ?_) (fun (c1 : ¬ (x1 < 0)) => ?_)
  · refine wp_run 1 (pc' := 35) (ls' := [(2, 321), (0, x1), (3, 0), (3, 0), (3, 0)]) (st' := [(0, x1)]) rfl ?_
    refine wp_if1 rfl rfl rfl (fun (c2 : 0 ≤ x1) => ?_) (fun (c2 : ¬ (0 ≤ x1)) => ?_)
    · refine wp_run 1 (pc' := 41) (ls' := [(2, 321), (0, x1), (3, 0), (3, 0), (3, 0)]) (st' := [(2, 321)]) rfl ?_
      refine wp_gf (pc' := 44) (t := 0) (v := (M 321 48)) rfl rfl (by decide) rfl rfl rfl ?_
      refine wp_run 3 (pc' := 47) (ls' := [(2, 321), (0, x1), (0, (z_w ((M 321 48) - 1))), (3, 0), (3, 0)]) (st' := []) rfl ?_
      exact l1 c1 c2
    · refine wp_run 1 (pc' := 39) (ls' := [(2, 321), (0, x1), (3, 0), (3, 0), (3, 0)]) (st' := [(0, 0)]) rfl ?_
      exact wp_ret rfl rfl (l2 c1 c2)
  · refine wp_run 1 (pc' := 12) (ls' := [(2, 321), (0, x1), (3, 0), (3, 0), (3, 0)]) (st' := [(2, 321)]) rfl ?_
    refine wp_gf (pc' := 15) (t := 2) (v := 348) rfl rfl (by decide) rfl rfl (fx_321_69 hF) ?_
    refine wp_run 1 (pc' := 16) (ls' := [(2, 321), (0, x1), (3, 0), (3, 0), (3, 0)]) (st' := [(0, x1), (2, 348)]) rfl ?_
    refine wp_iald (pc' := 17) (v := (M 348 x1)) rfl rfl rfl (b1 c1) rfl ?_
    refine wp_run 1 (pc' := 18) (ls' := [(2, 321), (0, x1), (3, 0), (3, 0), (3, 0)]) (st' := [(2, 321), (0, (M 348 x1))]) rfl ?_
    refine wp_gf (pc' := 21) (t := 2) (v := 348) rfl rfl (by decide) rfl rfl (fx_321_69 hF) ?_
    refine wp_run 3 (pc' := 24) (ls' := [(2, 321), (0, x1), (3, 0), (3, 0), (3, 0)]) (st' := [(0, (z_w (x1 + 1))), (2, 348), (0, (M 348 x1))]) rfl ?_
    refine wp_iald (pc' := 25) (v := (M 348 (z_w (x1 + 1)))) rfl rfl rfl (b2 c1) rfl ?_
    refine wp_if2 rfl rfl rfl (fun (c3 : (M 348 x1) ≤ (M 348 (z_w (x1 + 1)))) => ?_) (fun (c3 : ¬ ((M 348 x1) ≤ (M 348 (z_w (x1 + 1))))) => ?_)
    · refine wp_run 1 (pc' := 35) (ls' := [(2, 321), (0, x1), (3, 0), (3, 0), (3, 0)]) (st' := [(0, x1)]) rfl ?_
      refine wp_if1 rfl rfl rfl (fun (c4 : 0 ≤ x1) => ?_) (fun (c4 : ¬ (0 ≤ x1)) => ?_)
      · refine wp_run 1 (pc' := 41) (ls' := [(2, 321), (0, x1), (3, 0), (3, 0), (3, 0)]) (st' := [(2, 321)]) rfl ?_
        refine wp_gf (pc' := 44) (t := 0) (v := (M 321 48)) rfl rfl (by decide) rfl rfl rfl ?_
        refine wp_run 3 (pc' := 47) (ls' := [(2, 321), (0, x1), (0, (z_w ((M 321 48) - 1))), (3, 0), (3, 0)]) (st' := []) rfl ?_
        exact l3 c1 c3 c4
      · refine wp_run 1 (pc' := 39) (ls' := [(2, 321), (0, x1), (3, 0), (3, 0), (3, 0)]) (st' := [(0, 0)]) rfl ?_
        exact wp_ret rfl rfl (l4 c1 c3 c4)
    · refine wp_run 2 (pc' := 7) (ls' := [(2, 321), (0, (z_w (x1 + (-1)))), (3, 0), (3, 0), (3, 0)]) (st' := []) rfl ?_
      exact l5 c1 c3
set_option maxRecDepth 20000 in
theorem gX10_nextOrder_47 {xs : List Int} {d : Nat} {M : z_M} {P : Option z_V → z_L → z_M → Prop} {x1 : Int} {x2 : Int} (hF : z_fix M) 
    (b1 : 0 ≤ x2 ∧ x2 < 6)
    (b2 : 0 ≤ x1 ∧ x1 < 6)
    (l1 : ((M 348 x1) ≤ (M 348 x2)) → wp xs (d + 1) mX10_nextOrder 86 [(2, 321), (0, x1), (0, x2), (0, (z_w (x1 + 1))), (0, (z_w ((M 321 48) - 1)))] [] z_LL (z_up (z_up M 348 x1 (M 348 x2)) 348 x2 (M 348 x1)) P)
    (l2 : (¬ ((M 348 x1) ≤ (M 348 x2))) → wp xs (d + 1) mX10_nextOrder 47 [(2, 321), (0, x1), (0, (z_w (x2 + (-1)))), (3, 0), (3, 0)] [] z_LL M P) :
    wp xs (d + 1) mX10_nextOrder 47 [(2, 321), (0, x1), (0, x2), (3, 0), (3, 0)] [] z_LL M P := by
  refine wp_run 1 (pc' := 48) (ls' := [(2, 321), (0, x1), (0, x2), (3, 0), (3, 0)]) (st' := [(2, 321)]) rfl ?_
  refine wp_gf (pc' := 51) (t := 2) (v := 348) rfl rfl (by decide) rfl rfl (fx_321_69 hF) ?_
  refine wp_run 1 (pc' := 52) (ls' := [(2, 321), (0, x1), (0, x2), (3, 0), (3, 0)]) (st' := [(0, x2), (2, 348)]) rfl ?_
  refine wp_iald (pc' := 53) (v := (M 348 x2)) rfl rfl rfl (b1) rfl ?_
  refine wp_run 1 (pc' := 54) (ls' := [(2, 321), (0, x1), (0, x2), (3, 0), (3, 0)]) (st' := [(2, 321), (0, (M 348 x2))]) rfl ?_
  refine wp_gf (pc' := 57) (t := 2) (v := 348) rfl rfl (by decide) rfl rfl (fx_321_69 hF) ?_
  refine wp_run 1 (pc' := 58) (ls' := [(2, 321), (0, x1), (0, x2), (3, 0), (3, 0)]) (st' := [(0, x1), (2, 348), (0, (M 348 x2))]) rfl ?_
  refine wp_iald (pc' := 59) (v := (M 348 x1)) rfl rfl rfl (b2) rfl ?_
  refine wp_if2 rfl rfl rfl (fun (c1 : (M 348 x1) ≤ (M 348 x2)) => ?_) (fun (c1 : ¬ ((M 348 x1) ≤ (M 348 x2))) => ?_)
  · refine wp_run 3 (pc' := 71) (ls' := [(2, 321), (0, x1), (0, x2), (3, 0), (3, 0)]) (st' := [(0, x2), (0, x1), (2, 321)]) rfl ?_
    refine wp_callv (pc' := 74) (as := [(2, 321), (0, x1), (0, x2)]) (rest := []) (ls1 := [(2, 321), (0, x1), (0, x2), (3, 0)]) rfl rfl rfl rfl rfl rfl ?_
    refine wp_run 1 (pc' := 1) (ls' := [(2, 321), (0, x1), (0, x2), (3, 0)]) (st' := [(2, 321)]) rfl ?_
    refine wp_gf (pc' := 4) (t := 2) (v := 348) rfl rfl (by decide) rfl rfl (fx_321_69 hF) ?_
    refine wp_run 1 (pc' := 5) (ls' := [(2, 321), (0, x1), (0, x2), (3, 0)]) (st' := [(0, x1), (2, 348)]) rfl ?_
    refine wp_iald (pc' := 6) (v := (M 348 x1)) rfl rfl rfl (b2) rfl ?_
    refine wp_run 2 (pc' := 8) (ls' := [(2, 321), (0, x1), (0, x2), (0, (M 348 x1))]) (st' := [(2, 321)]) rfl ?_
    refine wp_gf (pc' := 11) (t := 2) (v := 348) rfl rfl (by decide) rfl rfl (fx_321_69 hF) ?_
    refine wp_run 2 (pc' := 13) (ls' := [(2, 321), (0, x1), (0, x2), (0, (M 348 x1))]) (st' := [(2, 321), (0, x1), (2, 348)]) rfl ?_
    refine wp_gf (pc' := 16) (t := 2) (v := 348) rfl rfl (by decide) rfl rfl (fx_321_69 hF) ?_
    refine wp_run 1 (pc' := 17) (ls' := [(2, 321), (0, x1), (0, x2), (0, (M 348 x1))]) (st' := [(0, x2), (2, 348), (0, x1), (2, 348)]) rfl ?_
    refine wp_iald (pc' := 18) (v := (M 348 x2)) rfl rfl rfl (b1) rfl ?_
    refine wp_iast (pc' := 19) rfl rfl rfl (b2) ?_
    refine wp_run 1 (pc' := 20) (ls' := [(2, 321), (0, x1), (0, x2), (0, (M 348 x1))]) (st' := [(2, 321)]) rfl ?_
    refine wp_gf (pc' := 23) (t := 2) (v := 348) rfl rfl (by decide) rfl rfl (z_upq (by decide) (fx_321_69 hF)) ?_
    refine wp_run 2 (pc' := 25) (ls' := [(2, 321), (0, x1), (0, x2), (0, (M 348 x1))]) (st' := [(0, (M 348 x1)), (0, x2), (2, 348)]) rfl ?_
    refine wp_iast (pc' := 26) rfl rfl rfl (b1) ?_
    refine wp_ret rfl rfl ?_
    show wp xs _ mX10_nextOrder 74 [(2, 321), (0, x1), (0, x2), (3, 0), (3, 0)] [] z_LL (z_up (z_up M 348 x1 (M 348 x2)) 348 x2 (M 348 x1)) _
    refine wp_run 5 (pc' := 79) (ls' := [(2, 321), (0, x1), (0, x2), (0, (z_w (x1 + 1))), (3, 0)]) (st' := [(2, 321)]) rfl ?_
    refine wp_gf (pc' := 82) (t := 0) (v := (M 321 48)) rfl rfl (by decide) rfl rfl (z_upq (by decide) (z_upq (by decide) rfl)) ?_
    refine wp_run 3 (pc' := 86) (ls' := [(2, 321), (0, x1), (0, x2), (0, (z_w (x1 + 1))), (0, (z_w ((M 321 48) - 1)))]) (st' := []) rfl ?_
    exact l1 c1
  · refine wp_run 2 (pc' := 47) (ls' := [(2, 321), (0, x1), (0, (z_w (x2 + (-1)))), (3, 0), (3, 0)]) (st' := []) rfl ?_
    exact l2 c1
set_option maxRecDepth 20000 in
theorem gX10_nextOrder_86 {xs : List Int} {d : Nat} {M : z_M} {P : Option z_V → z_L → z_M → Prop} {x1 : Int} {x2 : Int} {x3 : Int} {x4 : Int} (hF : z_fix M) 
    (l1 : (x4 ≤ x3) → P (some (0, 1)) z_LL M)
    (b1 : (¬ (x4 ≤ x3)) → 0 ≤ x3 ∧ x3 < 6)
    (b2 : (¬ (x4 ≤ x3)) → 0 ≤ x4 ∧ x4 < 6)
    (l2 : (¬ (x4 ≤ x3)) → wp xs (d + 1) mX10_nextOrder 86 [(2, 321), (0, x1), (0, x2), (0, (z_w (x3 + 1))), (0, (z_w (x4 + (-1))))] [] z_LL (z_up (z_up M 348 x3 (M 348 x4)) 348 x4 (M 348 x3)) P) :
    wp xs (d + 1) mX10_nextOrder 86 [(2, 321), (0, x1), (0, x2), (0, x3), (0, x4)] [] z_LL M P := by
  refine wp_run 2 (pc' := 89) (ls' := [(2, 321), (0, x1), (0, x2), (0, x3), (0, x4)]) (st' := [(0, x4), (0, x3)]) rfl ?_
  refine wp_if2 rfl rfl rfl (fun (c1 : x4 ≤ x3) => ?_) (fun (c1 : ¬ (x4 ≤ x3)) => ?_)
  · refine wp_run 1 (pc' := 109) (ls' := [(2, 321), (0, x1), (0, x2), (0, x3), (0, x4)]) (st' := [(0, 1)]) rfl ?_
    exact wp_ret rfl rfl (l1 c1)
  · refine wp_run 3 (pc' := 96) (ls' := [(2, 321), (0, x1), (0, x2), (0, x3), (0, x4)]) (st' := [(0, x4), (0, x3), (2, 321)]) rfl ?_
    refine wp_callv (pc' := 99) (as := [(2, 321), (0, x3), (0, x4)]) (rest := []) (ls1 := [(2, 321), (0, x3), (0, x4), (3, 0)]) rfl rfl rfl rfl rfl rfl ?_
    refine wp_run 1 (pc' := 1) (ls' := [(2, 321), (0, x3), (0, x4), (3, 0)]) (st' := [(2, 321)]) rfl ?_
    refine wp_gf (pc' := 4) (t := 2) (v := 348) rfl rfl (by decide) rfl rfl (fx_321_69 hF) ?_
    refine wp_run 1 (pc' := 5) (ls' := [(2, 321), (0, x3), (0, x4), (3, 0)]) (st' := [(0, x3), (2, 348)]) rfl ?_
    refine wp_iald (pc' := 6) (v := (M 348 x3)) rfl rfl rfl (b1 c1) rfl ?_
    refine wp_run 2 (pc' := 8) (ls' := [(2, 321), (0, x3), (0, x4), (0, (M 348 x3))]) (st' := [(2, 321)]) rfl ?_
    refine wp_gf (pc' := 11) (t := 2) (v := 348) rfl rfl (by decide) rfl rfl (fx_321_69 hF) ?_
    refine wp_run 2 (pc' := 13) (ls' := [(2, 321), (0, x3), (0, x4), (0, (M 348 x3))]) (st' := [(2, 321), (0, x3), (2, 348)]) rfl ?_
    refine wp_gf (pc' := 16) (t := 2) (v := 348) rfl rfl (by decide) rfl rfl (fx_321_69 hF) ?_
    refine wp_run 1 (pc' := 17) (ls' := [(2, 321), (0, x3), (0, x4), (0, (M 348 x3))]) (st' := [(0, x4), (2, 348), (0, x3), (2, 348)]) rfl ?_
    refine wp_iald (pc' := 18) (v := (M 348 x4)) rfl rfl rfl (b2 c1) rfl ?_
    refine wp_iast (pc' := 19) rfl rfl rfl (b1 c1) ?_
    refine wp_run 1 (pc' := 20) (ls' := [(2, 321), (0, x3), (0, x4), (0, (M 348 x3))]) (st' := [(2, 321)]) rfl ?_
    refine wp_gf (pc' := 23) (t := 2) (v := 348) rfl rfl (by decide) rfl rfl (z_upq (by decide) (fx_321_69 hF)) ?_
    refine wp_run 2 (pc' := 25) (ls' := [(2, 321), (0, x3), (0, x4), (0, (M 348 x3))]) (st' := [(0, (M 348 x3)), (0, x4), (2, 348)]) rfl ?_
    refine wp_iast (pc' := 26) rfl rfl rfl (b2 c1) ?_
    refine wp_ret rfl rfl ?_
    show wp xs _ mX10_nextOrder 99 [(2, 321), (0, x1), (0, x2), (0, x3), (0, x4)] [] z_LL (z_up (z_up M 348 x3 (M 348 x4)) 348 x4 (M 348 x3)) _
    refine wp_run 3 (pc' := 86) (ls' := [(2, 321), (0, x1), (0, x2), (0, (z_w (x3 + 1))), (0, (z_w (x4 + (-1))))]) (st' := []) rfl ?_
    exact l2 c1
section
variable {xs : List Int} {d : Nat} {M : z_M}
/-- a row holds a list -/
def z_rw (f : Int → Int) (p : List Nat) : Prop := ∀ i : Nat, i < p.length → f i = (p.getD i 0 : Nat)
theorem z_xch_l {p : List Nat} {i j : Nat} : (z_xch p i j).length = p.length := by
  unfold z_xch
  rw [List.length_set, List.length_set]
theorem z_xch_at {p : List Nat} {i j k : Nat} (hi : i < p.length) (hj : j < p.length) : (z_xch p i j).getD k 0 = if k = j then p.getD i 0 else if k = i then p.getD j 0 else p.getD k 0 := by
  unfold z_xch
  rw [List.getD_eq_getElem?_getD, List.getElem?_set]
  by_cases c : j = k
  · rw [if_pos c, if_pos c.symm, List.length_set, if_pos hj]
    rfl
  · rw [if_neg c, if_neg (fun q => c q.symm), List.getElem?_set]
    by_cases e : i = k
    · rw [if_pos e, if_pos e.symm, if_pos hi]
      rfl
    · rw [if_neg e, if_neg (fun q => e q.symm), ← List.getD_eq_getElem?_getD]
theorem z_rw_x {p : List Nat} {i j : Nat} {c : Int} (h : z_rw (M c) p) (hi : i < p.length) (hj : j < p.length) : z_rw (z_up (z_up M c i (M c j)) c j (M c i) c) (z_xch p i j) := fun k hk => by
  rw [z_xch_l] at hk
  rw [z_xch_at hi hj]
  by_cases e : k = j
  · rw [if_pos e, e, z_ups, h i hi]
  · rw [if_neg e, z_upi (by omega) rfl]
    by_cases e2 : k = i
    · rw [if_pos e2, e2, z_ups, h j hj]
    · rw [if_neg e2, z_upi (by omega) rfl, h k hk]
theorem z_rvs_l : ∀ (k : Nat) (p : List Nat) (i j : Nat), (z_rvs k p i j).length = p.length
  | 0, _, _, _ => rfl
  | k + 1, p, i, j => by
    unfold z_rvs
    by_cases c : j ≤ i
    · rw [if_pos c]
    · rw [if_neg c, z_rvs_l k, z_xch_l]
theorem z_nf348 : ¬ z_fobj 348 := by
  unfold z_fobj
  omega
theorem z_nf347 : ¬ z_fobj 347 := by
  unfold z_fobj
  omega
theorem s_X10_nextOrder {P : Option z_V → z_L → z_M → Prop} {p : List Nat} {n : Nat} (hF : z_fix M) (hn : M 321 48 = (n : Int)) (h6 : n ≤ 6) (hl : p.length = n) (hr : z_rw (M 348) p) (k0 : z_nx p = none → P (some (0, 0)) z_LL M) (k1 : ∀ (q : List Nat) (M' : z_M), z_nx p = some q → (∀ c, c ≠ 348 → M' c = M c) → z_rw (M' 348) q → P (some (0, 1)) z_LL M') : wp xs (d + 1) mX10_nextOrder 0 [(2, 321), (3, 0), (3, 0), (3, 0), (3, 0)] [] z_LL M P := by
  unfold z_nx at k0 k1
  rw [hl] at k0 k1
  -- turning the end round
  have rev : ∀ (x1 x2 : Int) (k : Nat) (q : List Nat) (i j : Nat) (M' : z_M), q.length = n → j ≤ i + 2 * k → j < n → (∀ c, c ≠ 348 → M' c = M c) → z_rw (M' 348) q → (∀ M2 : z_M, (∀ c, c ≠ 348 → M2 c = M c) → z_rw (M2 348) (z_rvs k q i j) → P (some (0, 1)) z_LL M2) → wp xs (d + 1) mX10_nextOrder 86 [(2, 321), (0, x1), (0, x2), (0, (i : Int)), (0, (j : Int))] [] z_LL M' P := by
    intro x1 x2 k
    induction k with
    | zero =>
      intro q i j M' hq hj hjn hM hr kk
      refine gX10_nextOrder_86 (d := d) (x3 := (i : Int)) (x4 := (j : Int)) (z_fix_at hF hM z_nf348) (fun _ => kk M' hM hr) (fun _ => by omega) (fun _ => by omega) (fun _ => by omega)
    | succ k ih =>
      intro q i j M' hq hj hjn hM hr kk
      unfold z_rvs at kk
      refine gX10_nextOrder_86 (d := d) (x3 := (i : Int)) (x4 := (j : Int)) (z_fix_at hF hM z_nf348) (fun c => ?_) (fun _ => by omega) (fun _ => by omega) (fun c => ?_)
      · rw [if_pos (by omega)] at kk
        exact kk M' hM hr
      · rw [if_neg (by omega)] at kk
        rw [z_in1 (by omega), z_wid (x := (j : Int) + -1) (by omega), show (j : Int) + -1 = ((j - 1 : Nat) : Int) by omega]
        exact ih (z_xch q i j) (i + 1) (j - 1) _ (by rw [z_xch_l]; exact hq) (by omega) (by omega) (fun c hc => by rw [z_upn hc, z_upn hc, hM c hc]) (z_rw_x hr (by omega) (by omega)) kk
  -- looking for the one to exchange with
  have sp : ∀ (x : Nat), x + 1 < n → p.getD x 0 ≤ p.getD (x + 1) 0 → (∀ (q : List Nat) (M' : z_M), some (z_rvs 6 (z_xch p x (z_sp p x (n - 1))) (x + 1) (n - 1)) = some q → (∀ c, c ≠ 348 → M' c = M c) → z_rw (M' 348) q → P (some (0, 1)) z_LL M') → ∀ j : Nat, j ≤ n - 1 → x + 1 ≤ j → z_sp p x j = z_sp p x (n - 1) → wp xs (d + 1) mX10_nextOrder 47 [(2, 321), (0, (x : Int)), (0, (j : Int)), (3, 0), (3, 0)] [] z_LL M P := by
    intro x hx hle kk j
    induction j with
    | zero => intro _ q; omega
    | succ j ih =>
      intro h1 h2 h3
      have g := gX10_nextOrder_47 (M := M) (xs := xs) (d := d) (P := P) (x1 := (x : Int)) (x2 := ((j + 1 : Nat) : Int)) hF
      rw [hn, hr x (by omega), hr (j + 1) (by omega), z_in1 (by omega), z_wid (x := (n : Int) - 1) (by omega), z_wid (x := ((j + 1 : Nat) : Int) + -1) (by omega)] at g
      replace h3 : (if p.getD x 0 ≤ p.getD (j + 1) 0 then j + 1 else z_sp p x j) = z_sp p x (n - 1) := h3
      refine g (by omega) (by omega) (fun c => ?_) (fun c => ?_)
      · rw [if_pos (by omega)] at h3
        rw [show (n : Int) - 1 = ((n - 1 : Nat) : Int) by omega, ← hr x (by omega), ← hr (j + 1) (by omega)]
        refine rev x _ 6 (z_xch p x (j + 1)) (x + 1) (n - 1) _ (by rw [z_xch_l]; exact hl) (by omega) (by omega) (fun c hc => by rw [z_upn hc, z_upn hc]) (z_rw_x hr (by omega) (by omega)) (fun M2 hM2 hr2 => ?_)
        rw [h3] at hr2
        exact kk _ M2 rfl hM2 hr2
      · rw [if_neg (by omega)] at h3
        rw [show ((j + 1 : Nat) : Int) + -1 = (j : Int) by omega]
        refine ih (by omega) ?_ h3
        by_cases e : j = x
        · rw [e] at c
          omega
        · omega
  refine gX10_nextOrder_0 ?_
  rw [hn, z_wid (by omega)]
  have pv : ∀ (i : Nat) (x1 : Int), (i = 0 → x1 < 0) → (0 < i → x1 = (i : Int) - 1) → i ≤ n - 1 → z_pv p i = z_pv p (n - 1) → wp xs (d + 1) mX10_nextOrder 7 [(2, 321), (0, x1), (3, 0), (3, 0), (3, 0)] [] z_LL M P := by
    intro i
    induction i with
    | zero =>
      intro x1 h1 h2 h3 h4
      have := h1 rfl
      refine gX10_nextOrder_7 (x1 := x1) hF (fun _ _ => by omega) (fun _ _ => ?_) (fun _ => by omega) (fun _ => by omega) (fun _ _ _ => by omega) (fun _ _ _ => by omega) (fun _ _ => by omega)
      exact k0 (if_pos (by rw [← h4]; rfl))
    | succ i ih =>
      intro x1 h1 h2 h3 h4
      obtain rfl : x1 = (i : Int) := by have := h2 (by omega); omega
      replace h4 : (if p.getD i 0 ≤ p.getD (i + 1) 0 then i + 1 else z_pv p i) = z_pv p (n - 1) := h4
      have g := gX10_nextOrder_7 (M := M) (xs := xs) (d := d + 1) (P := P) (x1 := (i : Int)) hF
      rw [hn, z_in1 (by omega), hr i (by omega), hr (i + 1) (by omega), z_wid (x := (n : Int) - 1) (by omega), z_wid (x := (i : Int) + -1) (by omega), show (n : Int) - 1 = ((n - 1 : Nat) : Int) by omega] at g
      refine g (fun _ _ => by omega) (fun _ _ => by omega) (fun _ => by omega) (fun _ => by omega) (fun _ c _ => ?_) (fun _ _ _ => by omega) (fun _ c => ?_)
      · rw [if_pos (by omega)] at h4
        refine sp i (by omega) (by omega) ?_ (n - 1) (by omega) (by omega) rfl
        rw [← h4, if_neg (by omega), Nat.add_sub_cancel] at k1
        exact k1
      · rw [if_neg (by omega)] at h4
        exact ih _ (by omega) (by omega) (by omega) h4
  exact pv (n - 1) _ (by omega) (by omega) (by omega) rfl
theorem s_X10_lossOf {P : Option z_V → z_L → z_M → Prop} {p : List Nat} {n : Nat} {s w : Nat → Int} (hF : z_fix M) (hn : M 321 48 = (n : Int)) (h6 : n ≤ 6) (hl : p.length = n) (hp : ∀ i : Nat, i < n → p.getD i 0 < n) (hr : z_rw (M 348) p) (hs : ∀ f : Nat, f < n → s f = M 339 f ∧ 1 ≤ s f ∧ s f ≤ 9) (hw : ∀ f : Nat, f < n → w f = if M 342 (12 + f) < 0 then M 339 f else 1) (k : P (some (0, z_ct s w p)) z_LL M) : wp xs d mX10_lossOf 0 [(2, 321), (3, 0), (3, 0), (3, 0), (3, 0)] [] z_LL M P := by
  refine gX10_lossOf_0 ?_
  refine z_loop (W := fun i => ∀ (H T : Int) (w4 : z_V), (0 ≤ H ∧ H ≤ 9 * i) → (0 ≤ T ∧ T ≤ 486 * i) → T + z_lo s w H (p.drop i) = z_ct s w p → wp xs d mX10_lossOf 6 [(2, 321), (0, H), (0, T), (0, (i : Int)), w4] [] z_LL M P) n (fun i hi ih H T w4 bH bT e => ?_) 0 0 _ (by omega) (by omega) (by rw [z_lo_c, List.drop_zero]; omega)
  have g := gX10_lossOf_6 (M := M) (xs := xs) (d := d) (P := P) (x1 := H) (x2 := T) (x3 := (i : Int)) (w4 := w4) hF
  rw [hn, z_in1 (by omega)] at g
  by_cases c : i < n
  · have pi := hp i c
    obtain ⟨s1, s2, s3⟩ := hs _ pi
    have w1 := hw _ pi
    have eg : p[i]'(by omega) = p.getD i 0 := by
      rw [List.getD_eq_getElem?_getD, List.getElem?_eq_getElem (by omega)]
      rfl
    rw [List.drop_eq_getElem_cons (by omega), z_lo, eg] at e
    rw [hr i (by omega), ← s1, z_wid (x := 12 + ((p.getD i 0 : Nat) : Int)) (by omega)] at g
    generalize p.getD i 0 = f at *
    have W0 : 0 ≤ w f ∧ w f ≤ 9 := by
      rw [w1]
      split <;> omega
    have m1 : H * w f ≤ 54 * 9 := Int.mul_le_mul (by omega) W0.2 W0.1 (by omega)
    have m0 : 0 ≤ H * w f := Int.mul_nonneg bH.1 W0.1
    have nx := fun w4 => ih c (H + s f) (T + H * w f) w4 (by omega) (by omega) (by omega)
    rw [z_wid (x := H + s f) (by omega)] at g
    refine g (fun _ => by omega) (fun _ => by omega) (fun _ => by omega) (fun _ _ => by omega) (fun _ c2 => ?_) (fun _ _ => by omega) (fun _ c2 => ?_)
    · rw [if_pos c2, ← s1] at w1
      rw [← w1, z_wid (x := H * w f) (by omega), z_wid (by omega), w1]
      rw [w1] at nx
      exact nx _
    · rw [if_neg c2] at w1
      rw [← w1, z_wid (x := H * w f) (by omega), z_wid (by omega)]
      exact nx _
  · obtain rfl : i = n := by omega
    refine g (fun _ => ?_) (fun q => by omega) (fun q => by omega) (fun q => by omega) (fun q => by omega) (fun q => by omega) (fun q => by omega)
    rw [List.drop_eq_nil_of_le (by omega), z_lo] at e
    rw [show T = z_ct s w p by omega]
    exact k
end
