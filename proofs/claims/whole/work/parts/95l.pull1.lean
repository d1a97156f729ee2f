/-! THE MODEL READS THE FORMULA: helpers -/
set_option maxRecDepth 20000 in
theorem gX10_tight_0 {xs : List Int} {d : Nat} {M : z_M} {P : Option z_V → z_L → z_M → Prop} {a1 : Int} 
    (l1 : (a1 = 21) → P (some (0, 3)) z_LL M)
    (l2 : (¬ a1 = 21) → (a1 = 38) → P (some (0, 2)) z_LL M)
    (l3 : (¬ a1 = 21) → (¬ a1 = 38) → (a1 = 43) → P (some (0, 5)) z_LL M)
    (l4 : (¬ a1 = 21) → (¬ a1 = 38) → (¬ a1 = 43) → (a1 = 45) → P (some (0, 5)) z_LL M)
    (l5 : (¬ a1 = 21) → (¬ a1 = 38) → (¬ a1 = 43) → (¬ a1 = 45) → (a1 = 60) → P (some (0, 4)) z_LL M)
    (l6 : (¬ a1 = 21) → (¬ a1 = 38) → (¬ a1 = 43) → (¬ a1 = 45) → (¬ a1 = 60) → (a1 = 61) → P (some (0, 4)) z_LL M)
    (l7 : (¬ a1 = 21) → (¬ a1 = 38) → (¬ a1 = 43) → (¬ a1 = 45) → (¬ a1 = 60) → (¬ a1 = 61) → (a1 = 62) → P (some (0, 4)) z_LL M)
    (l8 : (¬ a1 = 21) → (¬ a1 = 38) → (¬ a1 = 43) → (¬ a1 = 45) → (¬ a1 = 60) → (¬ a1 = 61) → (¬ a1 = 62) → (a1 = 124) → P (some (0, 1)) z_LL M)
    (l9 : (¬ a1 = 21) → (¬ a1 = 38) → (¬ a1 = 43) → (¬ a1 = 45) → (¬ a1 = 60) → (¬ a1 = 61) → (¬ a1 = 62) → (¬ a1 = 124) → P (some (0, 6)) z_LL M) :
    wp xs d mX10_tight 0 [(0, a1)] [] z_LL M P := by
  refine wp_run 1 (pc' := 1) (ls' := [(0, a1)]) (st' := [(0, a1)]) rfl ?_
  by_cases c1 : a1 = 21
  · refine wp_cast c1 ?_
    refine wp_run 2 (pc' := 81) (ls' := [(0, a1)]) (st' := [(0, 3)]) rfl ?_
    exact wp_ret rfl rfl (l1 c1)
  by_cases c2 : a1 = 38
  · refine wp_cast c2 ?_
    refine wp_run 2 (pc' := 79) (ls' := [(0, a1)]) (st' := [(0, 2)]) rfl ?_
    exact wp_ret rfl rfl (l2 c1 c2)
  by_cases c3 : a1 = 43
  · refine wp_cast c3 ?_
    refine wp_run 2 (pc' := 85) (ls' := [(0, a1)]) (st' := [(0, 5)]) rfl ?_
    exact wp_ret rfl rfl (l3 c1 c2 c3)
  by_cases c4 : a1 = 45
  · refine wp_cast c4 ?_
    refine wp_run 2 (pc' := 85) (ls' := [(0, a1)]) (st' := [(0, 5)]) rfl ?_
    exact wp_ret rfl rfl (l4 c1 c2 c3 c4)
  by_cases c5 : a1 = 60
  · refine wp_cast c5 ?_
    refine wp_run 2 (pc' := 83) (ls' := [(0, a1)]) (st' := [(0, 4)]) rfl ?_
    exact wp_ret rfl rfl (l5 c1 c2 c3 c4 c5)
  by_cases c6 : a1 = 61
  · refine wp_cast c6 ?_
    refine wp_run 2 (pc' := 83) (ls' := [(0, a1)]) (st' := [(0, 4)]) rfl ?_
    exact wp_ret rfl rfl (l6 c1 c2 c3 c4 c5 c6)
  by_cases c7 : a1 = 62
  · refine wp_cast c7 ?_
    refine wp_run 2 (pc' := 83) (ls' := [(0, a1)]) (st' := [(0, 4)]) rfl ?_
    exact wp_ret rfl rfl (l7 c1 c2 c3 c4 c5 c6 c7)
  by_cases c8 : a1 = 124
  · refine wp_cast c8 ?_
    refine wp_run 2 (pc' := 77) (ls' := [(0, a1)]) (st' := [(0, 1)]) rfl ?_
    exact wp_ret rfl rfl (l8 c1 c2 c3 c4 c5 c6 c7 c8)
  refine wp_lsd rfl rfl (by simp [z_lsw, c1, c2, c3, c4, c5, c6, c7, c8]) ?_
  refine wp_run 1 (pc' := 88) (ls' := [(0, a1)]) (st' := [(0, 6)]) rfl ?_
  exact wp_ret rfl rfl (l9 c1 c2 c3 c4 c5 c6 c7 c8)
set_option maxRecDepth 20000 in
theorem gX10_close_0 {xs : List Int} {d : Nat} {M : z_M} {P : Option z_V → z_L → z_M → Prop} {a1 : Int} (hF : z_fix M) 
    (l1 : ((M 321 19) ≤ 0) → P none z_LL M)
    (b1 : (¬ ((M 321 19) ≤ 0)) → 0 ≤ (z_w ((M 321 19) - 1)) ∧ (z_w ((M 321 19) - 1)) < 160)
    (l2 : (¬ ((M 321 19) ≤ 0)) → ((M 328 (z_w ((M 321 19) - 1))) = 20) → P none z_LL M)
    (l3 : (¬ ((M 321 19) ≤ 0)) → (¬ ((M 328 (z_w ((M 321 19) - 1))) = 20)) → wp xs d mX10_tight 0 [(0, (M 328 (z_w ((M 321 19) - 1))))] [] z_LL M (fun r L1 M1 => wp xs (d + 1) mX10_close 37 [(2, 321), (0, a1)] (z_ol r ++ []) L1 M1 P)) :
    wp xs (d + 1) mX10_close 0 [(2, 321), (0, a1)] [] z_LL M P := by
  refine wp_run 1 (pc' := 1) (ls' := [(2, 321), (0, a1)]) (st' := [(2, 321)]) rfl ?_
  refine wp_gf (pc' := 4) (t := 0) (v := (M 321 19)) rfl rfl (by decide) rfl rfl rfl ?_
  refine wp_if1 rfl rfl rfl (fun (c1 : (M 321 19) ≤ 0) => ?_) (fun (c1 : ¬ ((M 321 19) ≤ 0)) => ?_)
  · exact wp_ret rfl rfl (l1 c1)
  · refine wp_run 1 (pc' := 8) (ls' := [(2, 321), (0, a1)]) (st' := [(2, 321)]) rfl ?_
    refine wp_gf (pc' := 11) (t := 2) (v := 328) rfl rfl (by decide) rfl rfl (fx_321_15 hF) ?_
    refine wp_run 1 (pc' := 12) (ls' := [(2, 321), (0, a1)]) (st' := [(2, 321), (2, 328)]) rfl ?_
    refine wp_gf (pc' := 15) (t := 0) (v := (M 321 19)) rfl rfl (by decide) rfl rfl rfl ?_
    refine wp_run 2 (pc' := 17) (ls' := [(2, 321), (0, a1)]) (st' := [(0, (z_w ((M 321 19) - 1))), (2, 328)]) rfl ?_
    refine wp_iald (pc' := 18) (v := (M 328 (z_w ((M 321 19) - 1)))) rfl rfl rfl (b1 c1) rfl ?_
    refine wp_run 1 (pc' := 20) (ls' := [(2, 321), (0, a1)]) (st' := [(0, 20), (0, (M 328 (z_w ((M 321 19) - 1))))]) rfl ?_
    refine wp_if2 rfl rfl rfl (fun (c2 : (M 328 (z_w ((M 321 19) - 1))) = 20) => ?_) (fun (c2 : ¬ ((M 328 (z_w ((M 321 19) - 1))) = 20)) => ?_)
    · exact wp_ret rfl rfl (l2 c1 c2)
    · refine wp_run 1 (pc' := 24) (ls' := [(2, 321), (0, a1)]) (st' := [(2, 321)]) rfl ?_
      refine wp_gf (pc' := 27) (t := 2) (v := 328) rfl rfl (by decide) rfl rfl (fx_321_15 hF) ?_
      refine wp_run 1 (pc' := 28) (ls' := [(2, 321), (0, a1)]) (st' := [(2, 321), (2, 328)]) rfl ?_
      refine wp_gf (pc' := 31) (t := 0) (v := (M 321 19)) rfl rfl (by decide) rfl rfl rfl ?_
      refine wp_run 2 (pc' := 33) (ls' := [(2, 321), (0, a1)]) (st' := [(0, (z_w ((M 321 19) - 1))), (2, 328)]) rfl ?_
      refine wp_iald (pc' := 34) (v := (M 328 (z_w ((M 321 19) - 1)))) rfl rfl rfl (b1 c1) rfl ?_
      refine wp_callv (pc' := 37) (as := [(0, (M 328 (z_w ((M 321 19) - 1))))]) (rest := []) (ls1 := [(0, (M 328 (z_w ((M 321 19) - 1))))]) rfl rfl rfl rfl rfl rfl ?_
      exact l3 c1 c2
set_option maxRecDepth 20000 in
theorem gX10_close_37 {xs : List Int} {d : Nat} {M : z_M} {P : Option z_V → z_L → z_M → Prop} {x1 : Int} {s0 : Int} (hF : z_fix M) 
    (l1 : (s0 < x1) → P none z_LL M)
    (b1 : (¬ (s0 < x1)) → 0 ≤ (z_w ((M 321 19) - 1)) ∧ (z_w ((M 321 19) - 1)) < 160)
    (b2 : (¬ (s0 < x1)) → ((M 328 (z_w ((M 321 19) - 1))) ≠ 21) → 0 ≤ (M 321 17) ∧ (M 321 17) < 320)
    (l2 : (¬ (s0 < x1)) → ((M 328 (z_w ((M 321 19) - 1))) ≠ 21) → wp xs (d + 1) mX10_close 0 [(2, 321), (0, x1)] [] z_LL (z_up (z_up (z_up (z_up M 321 19 (z_w ((M 321 19) - 1))) 324 (M 321 17) 3) 325 (M 321 17) (M 328 (z_w ((M 321 19) - 1)))) 321 17 (z_w ((M 321 17) + 1))) P)
    (b3 : (¬ (s0 < x1)) → (¬ ((M 328 (z_w ((M 321 19) - 1))) ≠ 21)) → 0 ≤ (M 321 17) ∧ (M 321 17) < 320)
    (l3 : (¬ (s0 < x1)) → (¬ ((M 328 (z_w ((M 321 19) - 1))) ≠ 21)) → wp xs (d + 1) mX10_close 0 [(2, 321), (0, x1)] [] z_LL (z_up (z_up (z_up (z_up (z_up M 321 19 (z_w ((M 321 19) - 1))) 324 (M 321 17) 2) 325 (M 321 17) 0) 321 17 (z_w ((M 321 17) + 1))) 321 23 (z_w ((M 321 23) - 1))) P) :
    wp xs (d + 1) mX10_close 37 [(2, 321), (0, x1)] [(0, s0)] z_LL M P := by
  refine wp_run 1 (pc' := 38) (ls' := [(2, 321), (0, x1)]) (st' := [(0, x1), (0, s0)]) rfl ?_
  refine wp_if2 rfl rfl rfl (fun (c1 : s0 < x1) => ?_) (fun (c1 : ¬ (s0 < x1)) => ?_)
  · exact wp_ret rfl rfl (l1 c1)
  · refine wp_run 2 (pc' := 43) (ls' := [(2, 321), (0, x1)]) (st' := [(2, 321), (2, 321)]) rfl ?_
    refine wp_gf (pc' := 46) (t := 0) (v := (M 321 19)) rfl rfl (by decide) rfl rfl rfl ?_
    refine wp_run 2 (pc' := 48) (ls' := [(2, 321), (0, x1)]) (st' := [(0, (z_w ((M 321 19) - 1))), (2, 321)]) rfl ?_
    refine wp_pf (pc' := 51) rfl rfl rfl rfl (fun z => absurd z (by decide)) (fun z => absurd z (by decide)) ?_
    refine wp_run 1 (pc' := 52) (ls' := [(2, 321), (0, x1)]) (st' := [(2, 321)]) rfl ?_
    refine wp_gf (pc' := 55) (t := 2) (v := 328) rfl rfl (by decide) rfl rfl (z_upi (by decide) (fx_321_15 hF)) ?_
    refine wp_run 1 (pc' := 56) (ls' := [(2, 321), (0, x1)]) (st' := [(2, 321), (2, 328)]) rfl ?_
    refine wp_gf (pc' := 59) (t := 0) (v := (z_w ((M 321 19) - 1))) rfl rfl (by decide) rfl rfl z_ups ?_
    refine wp_iald (pc' := 60) (v := (M 328 (z_w ((M 321 19) - 1)))) rfl rfl rfl (b1 c1) (z_upq (by decide) rfl) ?_
    refine wp_run 1 (pc' := 62) (ls' := [(2, 321), (0, x1)]) (st' := [(0, 21), (0, (M 328 (z_w ((M 321 19) - 1))))]) rfl ?_
    refine wp_if2 rfl rfl rfl (fun (c2 : (M 328 (z_w ((M 321 19) - 1))) ≠ 21) => ?_) (fun (c2 : ¬ ((M 328 (z_w ((M 321 19) - 1))) ≠ 21)) => ?_)
    · refine wp_run 3 (pc' := 87) (ls' := [(2, 321), (0, x1)]) (st' := [(2, 321), (0, 3), (2, 321)]) rfl ?_
      refine wp_gf (pc' := 90) (t := 2) (v := 328) rfl rfl (by decide) rfl rfl (z_upi (by decide) (fx_321_15 hF)) ?_
      refine wp_run 1 (pc' := 91) (ls' := [(2, 321), (0, x1)]) (st' := [(2, 321), (2, 328), (0, 3), (2, 321)]) rfl ?_
      refine wp_gf (pc' := 94) (t := 0) (v := (z_w ((M 321 19) - 1))) rfl rfl (by decide) rfl rfl z_ups ?_
      refine wp_iald (pc' := 95) (v := (M 328 (z_w ((M 321 19) - 1)))) rfl rfl rfl (b1 c1) (z_upq (by decide) rfl) ?_
      refine wp_callv (pc' := 98) (as := [(2, 321), (0, 3), (0, (M 328 (z_w ((M 321 19) - 1))))]) (rest := []) (ls1 := [(2, 321), (0, 3), (0, (M 328 (z_w ((M 321 19) - 1))))]) rfl rfl rfl rfl rfl rfl ?_
      refine wp_run 1 (pc' := 1) (ls' := [(2, 321), (0, 3), (0, (M 328 (z_w ((M 321 19) - 1))))]) (st' := [(2, 321)]) rfl ?_
      refine wp_gf (pc' := 4) (t := 2) (v := 324) rfl rfl (by decide) rfl rfl (z_upi (by decide) (fx_321_11 hF)) ?_
      refine wp_run 1 (pc' := 5) (ls' := [(2, 321), (0, 3), (0, (M 328 (z_w ((M 321 19) - 1))))]) (st' := [(2, 321), (2, 324)]) rfl ?_
      refine wp_gf (pc' := 8) (t := 0) (v := (M 321 17)) rfl rfl (by decide) rfl rfl (z_upi (by decide) rfl) ?_
      refine wp_run 1 (pc' := 9) (ls' := [(2, 321), (0, 3), (0, (M 328 (z_w ((M 321 19) - 1))))]) (st' := [(0, 3), (0, (M 321 17)), (2, 324)]) rfl ?_
      refine wp_iast (pc' := 10) rfl rfl rfl (b2 c1 c2) ?_
      refine wp_run 1 (pc' := 11) (ls' := [(2, 321), (0, 3), (0, (M 328 (z_w ((M 321 19) - 1))))]) (st' := [(2, 321)]) rfl ?_
      refine wp_gf (pc' := 14) (t := 2) (v := 325) rfl rfl (by decide) rfl rfl (z_upq (by decide) (z_upi (by decide) (fx_321_12 hF))) ?_
      refine wp_run 1 (pc' := 15) (ls' := [(2, 321), (0, 3), (0, (M 328 (z_w ((M 321 19) - 1))))]) (st' := [(2, 321), (2, 325)]) rfl ?_
      refine wp_gf (pc' := 18) (t := 0) (v := (M 321 17)) rfl rfl (by decide) rfl rfl (z_upq (by decide) (z_upi (by decide) rfl)) ?_
      refine wp_run 1 (pc' := 19) (ls' := [(2, 321), (0, 3), (0, (M 328 (z_w ((M 321 19) - 1))))]) (st' := [(0, (M 328 (z_w ((M 321 19) - 1)))), (0, (M 321 17)), (2, 325)]) rfl ?_
      refine wp_iast (pc' := 20) rfl rfl rfl (b2 c1 c2) ?_
      refine wp_run 2 (pc' := 22) (ls' := [(2, 321), (0, 3), (0, (M 328 (z_w ((M 321 19) - 1))))]) (st' := [(2, 321), (2, 321)]) rfl ?_
      refine wp_gf (pc' := 25) (t := 0) (v := (M 321 17)) rfl rfl (by decide) rfl rfl (z_upq (by decide) (z_upq (by decide) (z_upi (by decide) rfl))) ?_
      refine wp_run 2 (pc' := 27) (ls' := [(2, 321), (0, 3), (0, (M 328 (z_w ((M 321 19) - 1))))]) (st' := [(0, (z_w ((M 321 17) + 1))), (2, 321)]) rfl ?_
      refine wp_pf (pc' := 30) rfl rfl rfl rfl (fun z => absurd z (by decide)) (fun z => absurd z (by decide)) ?_
      refine wp_ret rfl rfl ?_
      show wp xs _ mX10_close 98 [(2, 321), (0, x1)] [] z_LL (z_up (z_up (z_up (z_up M 321 19 (z_w ((M 321 19) - 1))) 324 (M 321 17) 3) 325 (M 321 17) (M 328 (z_w ((M 321 19) - 1)))) 321 17 (z_w ((M 321 17) + 1))) _
      refine wp_run 1 (pc' := 0) (ls' := [(2, 321), (0, x1)]) (st' := []) rfl ?_
      exact l2 c1 c2
    · refine wp_run 3 (pc' := 68) (ls' := [(2, 321), (0, x1)]) (st' := [(0, 0), (0, 2), (2, 321)]) rfl ?_
      refine wp_callv (pc' := 71) (as := [(2, 321), (0, 2), (0, 0)]) (rest := []) (ls1 := [(2, 321), (0, 2), (0, 0)]) rfl rfl rfl rfl rfl rfl ?_
      refine wp_run 1 (pc' := 1) (ls' := [(2, 321), (0, 2), (0, 0)]) (st' := [(2, 321)]) rfl ?_
      refine wp_gf (pc' := 4) (t := 2) (v := 324) rfl rfl (by decide) rfl rfl (z_upi (by decide) (fx_321_11 hF)) ?_
      refine wp_run 1 (pc' := 5) (ls' := [(2, 321), (0, 2), (0, 0)]) (st' := [(2, 321), (2, 324)]) rfl ?_
      refine wp_gf (pc' := 8) (t := 0) (v := (M 321 17)) rfl rfl (by decide) rfl rfl (z_upi (by decide) rfl) ?_
      refine wp_run 1 (pc' := 9) (ls' := [(2, 321), (0, 2), (0, 0)]) (st' := [(0, 2), (0, (M 321 17)), (2, 324)]) rfl ?_
      refine wp_iast (pc' := 10) rfl rfl rfl (b3 c1 c2) ?_
      refine wp_run 1 (pc' := 11) (ls' := [(2, 321), (0, 2), (0, 0)]) (st' := [(2, 321)]) rfl ?_
      refine wp_gf (pc' := 14) (t := 2) (v := 325) rfl rfl (by decide) rfl rfl (z_upq (by decide) (z_upi (by decide) (fx_321_12 hF))) ?_
      refine wp_run 1 (pc' := 15) (ls' := [(2, 321), (0, 2), (0, 0)]) (st' := [(2, 321), (2, 325)]) rfl ?_
      refine wp_gf (pc' := 18) (t := 0) (v := (M 321 17)) rfl rfl (by decide) rfl rfl (z_upq (by decide) (z_upi (by decide) rfl)) ?_
      refine wp_run 1 (pc' := 19) (ls' := [(2, 321), (0, 2), (0, 0)]) (st' := [(0, 0), (0, (M 321 17)), (2, 325)]) rfl ?_
      refine wp_iast (pc' := 20) rfl rfl rfl (b3 c1 c2) ?_
      refine wp_run 2 (pc' := 22) (ls' := [(2, 321), (0, 2), (0, 0)]) (st' := [(2, 321), (2, 321)]) rfl ?_
      refine wp_gf (pc' := 25) (t := 0) (v := (M 321 17)) rfl rfl (by decide) rfl rfl (z_upq (by decide) (z_upq (by decide) (z_upi (by decide) rfl))) ?_
      refine wp_run 2 (pc' := 27) (ls' := [(2, 321), (0, 2), (0, 0)]) (st' := [(0, (z_w ((M 321 17) + 1))), (2, 321)]) rfl ?_
      refine wp_pf (pc' := 30) rfl rfl rfl rfl (fun z => absurd z (by decide)) (fun z => absurd z (by decide)) ?_
      refine wp_ret rfl rfl ?_
      show wp xs _ mX10_close 71 [(2, 321), (0, x1)] [] z_LL (z_up (z_up (z_up (z_up M 321 19 (z_w ((M 321 19) - 1))) 324 (M 321 17) 2) 325 (M 321 17) 0) 321 17 (z_w ((M 321 17) + 1))) _
      refine wp_run 2 (pc' := 73) (ls' := [(2, 321), (0, x1)]) (st' := [(2, 321), (2, 321)]) rfl ?_
      refine wp_gf (pc' := 76) (t := 0) (v := (M 321 23)) rfl rfl (by decide) rfl rfl (z_upi (by decide) (z_upq (by decide) (z_upq (by decide) (z_upi (by decide) rfl)))) ?_
      refine wp_run 2 (pc' := 78) (ls' := [(2, 321), (0, x1)]) (st' := [(0, (z_w ((M 321 23) - 1))), (2, 321)]) rfl ?_
      refine wp_pf (pc' := 81) rfl rfl rfl rfl (fun z => absurd z (by decide)) (fun z => absurd z (by decide)) ?_
      refine wp_run 1 (pc' := 0) (ls' := [(2, 321), (0, x1)]) (st' := []) rfl ?_
      exact l3 c1 c2
set_option maxRecDepth 20000 in
theorem gX10_hasRelation_0 {xs : List Int} {d : Nat} {M : z_M} {P : Option z_V → z_L → z_M → Prop} 
    (l1 : wp xs d mX10_hasRelation 7 [(2, 321), (0, (z_w ((M 321 19) - 1)))] [] z_LL M P) :
    wp xs d mX10_hasRelation 0 [(2, 321), (3, 0)] [] z_LL M P := by
  refine wp_run 1 (pc' := 1) (ls' := [(2, 321), (3, 0)]) (st' := [(2, 321)]) rfl ?_
  refine wp_gf (pc' := 4) (t := 0) (v := (M 321 19)) rfl rfl (by decide) rfl rfl rfl ?_
  refine wp_run 3 (pc' := 7) (ls' := [(2, 321), (0, (z_w ((M 321 19) - 1)))]) (st' := []) rfl ?_
  exact l1
set_option maxRecDepth 20000 in
theorem gX10_hasRelation_7 {xs : List Int} {d : Nat} {M : z_M} {P : Option z_V → z_L → z_M → Prop} {x1 : Int} (hF : z_fix M) 
    (l1 : (x1 < 0) → (x1 < 0) → P (some (0, 0)) z_LL M)
    (b1 : (x1 < 0) → (¬ (x1 < 0)) → 0 ≤ x1 ∧ x1 < 160)
    (l2 : (x1 < 0) → (¬ (x1 < 0)) → ((M 328 x1) = 20) → P (some (0, 0)) z_LL M)
    (l3 : (x1 < 0) → (¬ (x1 < 0)) → (¬ ((M 328 x1) = 20)) → wp xs d mX10_tight 0 [(0, (M 328 x1))] [] z_LL M (fun r L1 M1 => wp xs (d + 1) mX10_hasRelation 65 [(2, 321), (0, x1)] (z_ol r ++ []) L1 M1 P))
    (b2 : (¬ (x1 < 0)) → 0 ≤ x1 ∧ x1 < 160)
    (l4 : (¬ (x1 < 0)) → ((M 328 x1) = 20) → (x1 < 0) → P (some (0, 0)) z_LL M)
    (l5 : (¬ (x1 < 0)) → ((M 328 x1) = 20) → (¬ (x1 < 0)) → ((M 328 x1) = 20) → P (some (0, 0)) z_LL M)
    (l6 : (¬ (x1 < 0)) → ((M 328 x1) = 20) → (¬ (x1 < 0)) → (¬ ((M 328 x1) = 20)) → wp xs d mX10_tight 0 [(0, (M 328 x1))] [] z_LL M (fun r L1 M1 => wp xs (d + 1) mX10_hasRelation 65 [(2, 321), (0, x1)] (z_ol r ++ []) L1 M1 P))
    (l7 : (¬ (x1 < 0)) → (¬ ((M 328 x1) = 20)) → wp xs d mX10_tight 0 [(0, (M 328 x1))] [] z_LL M (fun r L1 M1 => wp xs (d + 1) mX10_hasRelation 31 [(2, 321), (0, x1)] (z_ol r ++ []) L1 M1 P)) :
    wp xs (d + 1) mX10_hasRelation 7 [(2, 321), (0, x1)] [] z_LL M P := by
  refine wp_run 1 (pc' := 8) (ls' := [(2, 321), (0, x1)]) (st' := [(0, x1)]) rfl ?_
  refine wp_if1 rfl rfl rfl (fun (c1 : x1 < 0) => ?_) (fun (c1 : ¬ (x1 < 0)) => ?_)
  · refine wp_run 1 (pc' := 42) (ls' := [(2, 321), (0, x1)]) (st' := [(0, x1)]) rfl ?_
    refine wp_if1 rfl rfl rfl (fun (c2 : x1 < 0) => ?_) (fun (c2 : ¬ (x1 < 0)) => ?_)
    · refine wp_run 1 (pc' := 74) (ls' := [(2, 321), (0, x1)]) (st' := [(0, 0)]) rfl ?_
      exact wp_ret rfl rfl (l1 c1 c2)
    · refine wp_run 1 (pc' := 46) (ls' := [(2, 321), (0, x1)]) (st' := [(2, 321)]) rfl ?_
      refine wp_gf (pc' := 49) (t := 2) (v := 328) rfl rfl (by decide) rfl rfl (fx_321_15 hF) ?_
      refine wp_run 1 (pc' := 50) (ls' := [(2, 321), (0, x1)]) (st' := [(0, x1), (2, 328)]) rfl ?_
      refine wp_iald (pc' := 51) (v := (M 328 x1)) rfl rfl rfl (b1 c1 c2) rfl ?_
      refine wp_run 1 (pc' := 53) (ls' := [(2, 321), (0, x1)]) (st' := [(0, 20), (0, (M 328 x1))]) rfl ?_
      refine wp_if2 rfl rfl rfl (fun (c3 : (M 328 x1) = 20) => ?_) (fun (c3 : ¬ ((M 328 x1) = 20)) => ?_)
      · refine wp_run 1 (pc' := 74) (ls' := [(2, 321), (0, x1)]) (st' := [(0, 0)]) rfl ?_
        exact wp_ret rfl rfl (l2 c1 c2 c3)
      · refine wp_run 1 (pc' := 57) (ls' := [(2, 321), (0, x1)]) (st' := [(2, 321)]) rfl ?_
        refine wp_gf (pc' := 60) (t := 2) (v := 328) rfl rfl (by decide) rfl rfl (fx_321_15 hF) ?_
        refine wp_run 1 (pc' := 61) (ls' := [(2, 321), (0, x1)]) (st' := [(0, x1), (2, 328)]) rfl ?_
        refine wp_iald (pc' := 62) (v := (M 328 x1)) rfl rfl rfl (b1 c1 c2) rfl ?_
        refine wp_callv (pc' := 65) (as := [(0, (M 328 x1))]) (rest := []) (ls1 := [(0, (M 328 x1))]) rfl rfl rfl rfl rfl rfl ?_
        exact l3 c1 c2 c3
  · refine wp_run 1 (pc' := 12) (ls' := [(2, 321), (0, x1)]) (st' := [(2, 321)]) rfl ?_
    refine wp_gf (pc' := 15) (t := 2) (v := 328) rfl rfl (by decide) rfl rfl (fx_321_15 hF) ?_
    refine wp_run 1 (pc' := 16) (ls' := [(2, 321), (0, x1)]) (st' := [(0, x1), (2, 328)]) rfl ?_
    refine wp_iald (pc' := 17) (v := (M 328 x1)) rfl rfl rfl (b2 c1) rfl ?_
    refine wp_run 1 (pc' := 19) (ls' := [(2, 321), (0, x1)]) (st' := [(0, 20), (0, (M 328 x1))]) rfl ?_
    refine wp_if2 rfl rfl rfl (fun (c4 : (M 328 x1) = 20) => ?_) (fun (c4 : ¬ ((M 328 x1) = 20)) => ?_)
    · refine wp_run 1 (pc' := 42) (ls' := [(2, 321), (0, x1)]) (st' := [(0, x1)]) rfl ?_
      refine wp_if1 rfl rfl rfl (fun (c5 : x1 < 0) => ?_) (fun (c5 : ¬ (x1 < 0)) => ?_)
      · refine wp_run 1 (pc' := 74) (ls' := [(2, 321), (0, x1)]) (st' := [(0, 0)]) rfl ?_
        exact wp_ret rfl rfl (l4 c1 c4 c5)
      · refine wp_run 1 (pc' := 46) (ls' := [(2, 321), (0, x1)]) (st' := [(2, 321)]) rfl ?_
        refine wp_gf (pc' := 49) (t := 2) (v := 328) rfl rfl (by decide) rfl rfl (fx_321_15 hF) ?_
        refine wp_run 1 (pc' := 50) (ls' := [(2, 321), (0, x1)]) (st' := [(0, x1), (2, 328)]) rfl ?_
        refine wp_iald (pc' := 51) (v := (M 328 x1)) rfl rfl rfl (b2 c1) rfl ?_
        refine wp_run 1 (pc' := 53) (ls' := [(2, 321), (0, x1)]) (st' := [(0, 20), (0, (M 328 x1))]) rfl ?_
        refine wp_if2 rfl rfl rfl (fun (c6 : (M 328 x1) = 20) => ?_) (fun (c6 : ¬ ((M 328 x1) = 20)) => ?_)
        · refine wp_run 1 (pc' := 74) (ls' := [(2, 321), (0, x1)]) (st' := [(0, 0)]) rfl ?_
          exact wp_ret rfl rfl (l5 c1 c4 c5 c6)
        · refine wp_run 1 (pc' := 57) (ls' := [(2, 321), (0, x1)]) (st' := [(2, 321)]) rfl ?_
          refine wp_gf (pc' := 60) (t := 2) (v := 328) rfl rfl (by decide) rfl rfl (fx_321_15 hF) ?_
          refine wp_run 1 (pc' := 61) (ls' := [(2, 321), (0, x1)]) (st' := [(0, x1), (2, 328)]) rfl ?_
          refine wp_iald (pc' := 62) (v := (M 328 x1)) rfl rfl rfl (b2 c1) rfl ?_
          refine wp_callv (pc' := 65) (as := [(0, (M 328 x1))]) (rest := []) (ls1 := [(0, (M 328 x1))]) rfl rfl rfl rfl rfl rfl ?_
          exact l6 c1 c4 c5 c6
    · refine wp_run 1 (pc' := 23) (ls' := [(2, 321), (0, x1)]) (st' := [(2, 321)]) rfl ?_
      refine wp_gf (pc' := 26) (t := 2) (v := 328) rfl rfl (by decide) rfl rfl (fx_321_15 hF) ?_
      refine wp_run 1 (pc' := 27) (ls' := [(2, 321), (0, x1)]) (st' := [(0, x1), (2, 328)]) rfl ?_
      refine wp_iald (pc' := 28) (v := (M 328 x1)) rfl rfl rfl (b2 c1) rfl ?_
      refine wp_callv (pc' := 31) (as := [(0, (M 328 x1))]) (rest := []) (ls1 := [(0, (M 328 x1))]) rfl rfl rfl rfl rfl rfl ?_
      exact l7 c1 c4
set_option maxRecDepth 20000 in
theorem gX10_hasRelation_31 {xs : List Int} {d : Nat} {M : z_M} {P : Option z_V → z_L → z_M → Prop} {x1 : Int} {s0 : Int} (hF : z_fix M) 
    (l1 : (s0 ≤ 4) → (x1 < 0) → P (some (0, 0)) z_LL M)
    (b1 : (s0 ≤ 4) → (¬ (x1 < 0)) → 0 ≤ x1 ∧ x1 < 160)
    (l2 : (s0 ≤ 4) → (¬ (x1 < 0)) → ((M 328 x1) = 20) → P (some (0, 0)) z_LL M)
    (l3 : (s0 ≤ 4) → (¬ (x1 < 0)) → (¬ ((M 328 x1) = 20)) → wp xs d mX10_tight 0 [(0, (M 328 x1))] [] z_LL M (fun r L1 M1 => wp xs (d + 1) mX10_hasRelation 65 [(2, 321), (0, x1)] (z_ol r ++ []) L1 M1 P))
    (l4 : (¬ (s0 ≤ 4)) → wp xs (d + 1) mX10_hasRelation 7 [(2, 321), (0, (z_w (x1 + (-1))))] [] z_LL M P) :
    wp xs (d + 1) mX10_hasRelation 31 [(2, 321), (0, x1)] [(0, s0)] z_LL M P := by
  refine wp_run 1 (pc' := 32) (ls' := [(2, 321), (0, x1)]) (st' := [(0, 4), (0, s0)]) rfl ?_
  refine wp_if2 rfl rfl rfl (fun (c1 : s0 ≤ 4) => ?_) (fun (c1 : ¬ (s0 ≤ 4)) => ?_)
  · refine wp_run 1 (pc' := 42) (ls' := [(2, 321), (0, x1)]) (st' := [(0, x1)]) rfl ?_
    refine wp_if1 rfl rfl rfl (fun (c2 : x1 < 0) => ?_) (fun (c2 : ¬ (x1 < 0)) => ?_)
    · refine wp_run 1 (pc' := 74) (ls' := [(2, 321), (0, x1)]) (st' := [(0, 0)]) rfl ?_
      exact wp_ret rfl rfl (l1 c1 c2)
    · refine wp_run 1 (pc' := 46) (ls' := [(2, 321), (0, x1)]) (st' := [(2, 321)]) rfl ?_
      refine wp_gf (pc' := 49) (t := 2) (v := 328) rfl rfl (by decide) rfl rfl (fx_321_15 hF) ?_
      refine wp_run 1 (pc' := 50) (ls' := [(2, 321), (0, x1)]) (st' := [(0, x1), (2, 328)]) rfl ?_
      refine wp_iald (pc' := 51) (v := (M 328 x1)) rfl rfl rfl (b1 c1 c2) rfl ?_
      refine wp_run 1 (pc' := 53) (ls' := [(2, 321), (0, x1)]) (st' := [(0, 20), (0, (M 328 x1))]) rfl ?_
      refine wp_if2 rfl rfl rfl (fun (c3 : (M 328 x1) = 20) => ?_) (fun (c3 : ¬ ((M 328 x1) = 20)) => ?_)
      · refine wp_run 1 (pc' := 74) (ls' := [(2, 321), (0, x1)]) (st' := [(0, 0)]) rfl ?_
        exact wp_ret rfl rfl (l2 c1 c2 c3)
      · refine wp_run 1 (pc' := 57) (ls' := [(2, 321), (0, x1)]) (st' := [(2, 321)]) rfl ?_
        refine wp_gf (pc' := 60) (t := 2) (v := 328) rfl rfl (by decide) rfl rfl (fx_321_15 hF) ?_
        refine wp_run 1 (pc' := 61) (ls' := [(2, 321), (0, x1)]) (st' := [(0, x1), (2, 328)]) rfl ?_
        refine wp_iald (pc' := 62) (v := (M 328 x1)) rfl rfl rfl (b1 c1 c2) rfl ?_
        refine wp_callv (pc' := 65) (as := [(0, (M 328 x1))]) (rest := []) (ls1 := [(0, (M 328 x1))]) rfl rfl rfl rfl rfl rfl ?_
        exact l3 c1 c2 c3
  · refine wp_run 2 (pc' := 7) (ls' := [(2, 321), (0, (z_w (x1 + (-1))))]) (st' := []) rfl ?_
    exact l4 c1
set_option maxRecDepth 20000 in
theorem gX10_hasRelation_65 {xs : List Int} {d : Nat} {M : z_M} {P : Option z_V → z_L → z_M → Prop} {x1 : Int} {s0 : Int} 
    (l1 : (s0 ≠ 4) → P (some (0, 0)) z_LL M)
    (l2 : (¬ (s0 ≠ 4)) → P (some (0, 1)) z_LL M) :
    wp xs d mX10_hasRelation 65 [(2, 321), (0, x1)] [(0, s0)] z_LL M P := by
  refine wp_run 1 (pc' := 66) (ls' := [(2, 321), (0, x1)]) (st' := [(0, 4), (0, s0)]) rfl ?_
  refine wp_if2 rfl rfl rfl (fun (c1 : s0 ≠ 4) => ?_) (fun (c1 : ¬ (s0 ≠ 4)) => ?_)
  · refine wp_run 1 (pc' := 74) (ls' := [(2, 321), (0, x1)]) (st' := [(0, 0)]) rfl ?_
    exact wp_ret rfl rfl (l1 c1)
  · refine wp_run 2 (pc' := 74) (ls' := [(2, 321), (0, x1)]) (st' := [(0, 1)]) rfl ?_
    exact wp_ret rfl rfl (l2 c1)
set_option maxRecDepth 20000 in
theorem gX10_hasBracket_0 {xs : List Int} {d : Nat} {M : z_M} {P : Option z_V → z_L → z_M → Prop} 
    (l1 : wp xs d mX10_hasBracket 4 [(2, 321), (0, 0), (0, 0)] [] z_LL M P) :
    wp xs d mX10_hasBracket 0 [(2, 321), (3, 0), (3, 0)] [] z_LL M P := by
  refine wp_run 4 (pc' := 4) (ls' := [(2, 321), (0, 0), (0, 0)]) (st' := []) rfl ?_
  exact l1
set_option maxRecDepth 20000 in
theorem gX10_hasBracket_4 {xs : List Int} {d : Nat} {M : z_M} {P : Option z_V → z_L → z_M → Prop} {x1 : Int} {x2 : Int} (hF : z_fix M) 
    (b1 : ((M 321 19) ≤ x2) → x1 = 0 ∨ x1 = 1)
    (l1 : ((M 321 19) ≤ x2) → P (some (0, x1)) z_LL M)
    (l2 : (¬ ((M 321 19) ≤ x2)) → (x1 ≠ 0) → wp xs d mX10_hasBracket 4 [(2, 321), (0, 1), (0, (z_w (x2 + 1)))] [] z_LL M P)
    (b2 : (¬ ((M 321 19) ≤ x2)) → (¬ (x1 ≠ 0)) → 0 ≤ x2 ∧ x2 < 160)
    (l3 : (¬ ((M 321 19) ≤ x2)) → (¬ (x1 ≠ 0)) → ((M 328 x2) ≠ 20) → wp xs d mX10_hasBracket 4 [(2, 321), (0, 0), (0, (z_w (x2 + 1)))] [] z_LL M P)
    (l4 : (¬ ((M 321 19) ≤ x2)) → (¬ (x1 ≠ 0)) → (¬ ((M 328 x2) ≠ 20)) → wp xs d mX10_hasBracket 4 [(2, 321), (0, 1), (0, (z_w (x2 + 1)))] [] z_LL M P) :
    wp xs d mX10_hasBracket 4 [(2, 321), (0, x1), (0, x2)] [] z_LL M P := by
  refine wp_run 2 (pc' := 6) (ls' := [(2, 321), (0, x1), (0, x2)]) (st' := [(2, 321), (0, x2)]) rfl ?_
  refine wp_gf (pc' := 9) (t := 0) (v := (M 321 19)) rfl rfl (by decide) rfl rfl rfl ?_
  refine wp_if2 rfl rfl rfl (fun (c1 : (M 321 19) ≤ x2) => ?_) (fun (c1 : ¬ ((M 321 19) ≤ x2)) => ?_)
  · refine wp_run 1 (pc' := 40) (ls' := [(2, 321), (0, x1), (0, x2)]) (st' := [(0, x1)]) rfl ?_
    exact wp_retz rfl rfl rfl (b1 c1) (l1 c1)
  · refine wp_run 1 (pc' := 13) (ls' := [(2, 321), (0, x1), (0, x2)]) (st' := [(0, x1)]) rfl ?_
    refine wp_if1 rfl rfl rfl (fun (c2 : x1 ≠ 0) => ?_) (fun (c2 : ¬ (x1 ≠ 0)) => ?_)
    · refine wp_run 5 (pc' := 4) (ls' := [(2, 321), (0, 1), (0, (z_w (x2 + 1)))]) (st' := []) rfl ?_
      exact l2 c1 c2
    · refine wp_run 1 (pc' := 17) (ls' := [(2, 321), (0, x1), (0, x2)]) (st' := [(2, 321)]) rfl ?_
      refine wp_gf (pc' := 20) (t := 2) (v := 328) rfl rfl (by decide) rfl rfl (fx_321_15 hF) ?_
      refine wp_run 1 (pc' := 21) (ls' := [(2, 321), (0, x1), (0, x2)]) (st' := [(0, x2), (2, 328)]) rfl ?_
      refine wp_iald (pc' := 22) (v := (M 328 x2)) rfl rfl rfl (b2 c1 c2) rfl ?_
      refine wp_run 1 (pc' := 24) (ls' := [(2, 321), (0, x1), (0, x2)]) (st' := [(0, 20), (0, (M 328 x2))]) rfl ?_
      refine wp_if2 rfl rfl rfl (fun (c3 : (M 328 x2) ≠ 20) => ?_) (fun (c3 : ¬ ((M 328 x2) ≠ 20)) => ?_)
      · refine wp_run 4 (pc' := 4) (ls' := [(2, 321), (0, 0), (0, (z_w (x2 + 1)))]) (st' := []) rfl ?_
        exact l3 c1 c2 c3
      · refine wp_run 5 (pc' := 4) (ls' := [(2, 321), (0, 1), (0, (z_w (x2 + 1)))]) (st' := []) rfl ?_
        exact l4 c1 c2 c3
set_option maxRecDepth 20000 in
theorem gX10_mayNot_0 {xs : List Int} {d : Nat} {M : z_M} {P : Option z_V → z_L → z_M → Prop} (hF : z_fix M) 
    (l1 : ((M 321 19) = 0) → P (some (0, 1)) z_LL M)
    (b1 : (¬ ((M 321 19) = 0)) → 0 ≤ (z_w ((M 321 19) - 1)) ∧ (z_w ((M 321 19) - 1)) < 160)
    (l2 : (¬ ((M 321 19) = 0)) → ((M 328 (z_w ((M 321 19) - 1))) = 20) → P (some (0, 1)) z_LL M)
    (l3 : (¬ ((M 321 19) = 0)) → (¬ ((M 328 (z_w ((M 321 19) - 1))) = 20)) → wp xs d mX10_tight 0 [(0, (M 328 (z_w ((M 321 19) - 1))))] [] z_LL M (fun r L1 M1 => wp xs (d + 1) mX10_mayNot 37 [(2, 321)] (z_ol r ++ []) L1 M1 P)) :
    wp xs (d + 1) mX10_mayNot 0 [(2, 321)] [] z_LL M P := by
  refine wp_run 1 (pc' := 1) (ls' := [(2, 321)]) (st' := [(2, 321)]) rfl ?_
  refine wp_gf (pc' := 4) (t := 0) (v := (M 321 19)) rfl rfl (by decide) rfl rfl rfl ?_
  refine wp_if1 rfl rfl rfl (fun (c1 : (M 321 19) = 0) => ?_) (fun (c1 : ¬ ((M 321 19) = 0)) => ?_)
  · refine wp_run 2 (pc' := 46) (ls' := [(2, 321)]) (st' := [(0, 1)]) rfl ?_
    exact wp_ret rfl rfl (l1 c1)
  · refine wp_run 1 (pc' := 8) (ls' := [(2, 321)]) (st' := [(2, 321)]) rfl ?_
    refine wp_gf (pc' := 11) (t := 2) (v := 328) rfl rfl (by decide) rfl rfl (fx_321_15 hF) ?_
    refine wp_run 1 (pc' := 12) (ls' := [(2, 321)]) (st' := [(2, 321), (2, 328)]) rfl ?_
    refine wp_gf (pc' := 15) (t := 0) (v := (M 321 19)) rfl rfl (by decide) rfl rfl rfl ?_
    refine wp_run 2 (pc' := 17) (ls' := [(2, 321)]) (st' := [(0, (z_w ((M 321 19) - 1))), (2, 328)]) rfl ?_
    refine wp_iald (pc' := 18) (v := (M 328 (z_w ((M 321 19) - 1)))) rfl rfl rfl (b1 c1) rfl ?_
    refine wp_run 1 (pc' := 20) (ls' := [(2, 321)]) (st' := [(0, 20), (0, (M 328 (z_w ((M 321 19) - 1))))]) rfl ?_
    refine wp_if2 rfl rfl rfl (fun (c2 : (M 328 (z_w ((M 321 19) - 1))) = 20) => ?_) (fun (c2 : ¬ ((M 328 (z_w ((M 321 19) - 1))) = 20)) => ?_)
    · refine wp_run 2 (pc' := 46) (ls' := [(2, 321)]) (st' := [(0, 1)]) rfl ?_
      exact wp_ret rfl rfl (l2 c1 c2)
    · refine wp_run 1 (pc' := 24) (ls' := [(2, 321)]) (st' := [(2, 321)]) rfl ?_
      refine wp_gf (pc' := 27) (t := 2) (v := 328) rfl rfl (by decide) rfl rfl (fx_321_15 hF) ?_
      refine wp_run 1 (pc' := 28) (ls' := [(2, 321)]) (st' := [(2, 321), (2, 328)]) rfl ?_
      refine wp_gf (pc' := 31) (t := 0) (v := (M 321 19)) rfl rfl (by decide) rfl rfl rfl ?_
      refine wp_run 2 (pc' := 33) (ls' := [(2, 321)]) (st' := [(0, (z_w ((M 321 19) - 1))), (2, 328)]) rfl ?_
      refine wp_iald (pc' := 34) (v := (M 328 (z_w ((M 321 19) - 1)))) rfl rfl rfl (b1 c1) rfl ?_
      refine wp_callv (pc' := 37) (as := [(0, (M 328 (z_w ((M 321 19) - 1))))]) (rest := []) (ls1 := [(0, (M 328 (z_w ((M 321 19) - 1))))]) rfl rfl rfl rfl rfl rfl ?_
      exact l3 c1 c2
set_option maxRecDepth 20000 in
theorem gX10_mayNot_37 {xs : List Int} {d : Nat} {M : z_M} {P : Option z_V → z_L → z_M → Prop} {s0 : Int} 
    (l1 : (4 ≤ s0) → P (some (0, 0)) z_LL M)
    (l2 : (¬ (4 ≤ s0)) → P (some (0, 1)) z_LL M) :
    wp xs d mX10_mayNot 37 [(2, 321)] [(0, s0)] z_LL M P := by
  refine wp_run 1 (pc' := 38) (ls' := [(2, 321)]) (st' := [(0, 4), (0, s0)]) rfl ?_
  refine wp_if2 rfl rfl rfl (fun (c1 : 4 ≤ s0) => ?_) (fun (c1 : ¬ (4 ≤ s0)) => ?_)
  · refine wp_run 1 (pc' := 46) (ls' := [(2, 321)]) (st' := [(0, 0)]) rfl ?_
    exact wp_ret rfl rfl (l1 c1)
  · refine wp_run 2 (pc' := 46) (ls' := [(2, 321)]) (st' := [(0, 1)]) rfl ?_
    exact wp_ret rfl rfl (l2 c1)
set_option maxRecDepth 20000 in
theorem gX10_asked_0 {xs : List Int} {d : Nat} {M : z_M} {P : Option z_V → z_L → z_M → Prop} 
    (l1 : ((M 321 6) = 1) → ((z_lcmp (M 321 9) 444300620659) ≠ 0) → ((z_lcmp (M 321 9) 1935764596) ≠ 0) → ((z_lcmp (M 321 9) 122545758368371) ≠ 0) → ((z_lcmp (M 321 9) 1752132965) ≠ 0) → ((z_lcmp (M 321 9) 1751478885) ≠ 0) → ((z_lcmp (M 321 9) 6578553) ≠ 0) → P (some (0, (-1))) z_LL M)
    (l2 : ((M 321 6) = 1) → ((z_lcmp (M 321 9) 444300620659) ≠ 0) → ((z_lcmp (M 321 9) 1935764596) ≠ 0) → ((z_lcmp (M 321 9) 122545758368371) ≠ 0) → ((z_lcmp (M 321 9) 1752132965) ≠ 0) → ((z_lcmp (M 321 9) 1751478885) ≠ 0) → (¬ ((z_lcmp (M 321 9) 6578553) ≠ 0)) → P (some (0, 5)) z_LL M)
    (l3 : ((M 321 6) = 1) → ((z_lcmp (M 321 9) 444300620659) ≠ 0) → ((z_lcmp (M 321 9) 1935764596) ≠ 0) → ((z_lcmp (M 321 9) 122545758368371) ≠ 0) → ((z_lcmp (M 321 9) 1752132965) ≠ 0) → (¬ ((z_lcmp (M 321 9) 1751478885) ≠ 0)) → P (some (0, 4)) z_LL M)
    (l4 : ((M 321 6) = 1) → ((z_lcmp (M 321 9) 444300620659) ≠ 0) → ((z_lcmp (M 321 9) 1935764596) ≠ 0) → ((z_lcmp (M 321 9) 122545758368371) ≠ 0) → (¬ ((z_lcmp (M 321 9) 1752132965) ≠ 0)) → P (some (0, 3)) z_LL M)
    (l5 : ((M 321 6) = 1) → ((z_lcmp (M 321 9) 444300620659) ≠ 0) → ((z_lcmp (M 321 9) 1935764596) ≠ 0) → (¬ ((z_lcmp (M 321 9) 122545758368371) ≠ 0)) → P (some (0, 2)) z_LL M)
    (l6 : ((M 321 6) = 1) → ((z_lcmp (M 321 9) 444300620659) ≠ 0) → (¬ ((z_lcmp (M 321 9) 1935764596) ≠ 0)) → P (some (0, 1)) z_LL M)
    (l7 : ((M 321 6) = 1) → (¬ ((z_lcmp (M 321 9) 444300620659) ≠ 0)) → P (some (0, 0)) z_LL M)
    (l8 : (¬ ((M 321 6) = 1)) → P (some (0, (-1))) z_LL M) :
    wp xs d mX10_asked 0 [(2, 321)] [] z_LL M P := by
  refine wp_run 1 (pc' := 1) (ls' := [(2, 321)]) (st' := [(2, 321)]) rfl ?_
  refine wp_gf (pc' := 4) (t := 0) (v := (M 321 6)) rfl rfl (by decide) rfl rfl rfl ?_
  refine wp_run 1 (pc' := 5) (ls' := [(2, 321)]) (st' := [(0, 1), (0, (M 321 6))]) rfl ?_
  refine wp_if2 rfl rfl rfl (fun (c1 : (M 321 6) = 1) => ?_) (fun (c1 : ¬ ((M 321 6) = 1)) => ?_)
  · refine wp_run 1 (pc' := 11) (ls' := [(2, 321)]) (st' := [(2, 321)]) rfl ?_
    refine wp_gf (pc' := 14) (t := 1) (v := (M 321 9)) rfl rfl (by decide) rfl rfl rfl ?_
    refine wp_run 2 (pc' := 18) (ls' := [(2, 321)]) (st' := [(0, (z_lcmp (M 321 9) 444300620659))]) rfl ?_
    refine wp_if1 rfl rfl rfl (fun (c2 : (z_lcmp (M 321 9) 444300620659) ≠ 0) => ?_) (fun (c2 : ¬ ((z_lcmp (M 321 9) 444300620659) ≠ 0)) => ?_)
    · refine wp_run 1 (pc' := 24) (ls' := [(2, 321)]) (st' := [(2, 321)]) rfl ?_
      refine wp_gf (pc' := 27) (t := 1) (v := (M 321 9)) rfl rfl (by decide) rfl rfl rfl ?_
      refine wp_run 2 (pc' := 31) (ls' := [(2, 321)]) (st' := [(0, (z_lcmp (M 321 9) 1935764596))]) rfl ?_
      refine wp_if1 rfl rfl rfl (fun (c3 : (z_lcmp (M 321 9) 1935764596) ≠ 0) => ?_) (fun (c3 : ¬ ((z_lcmp (M 321 9) 1935764596) ≠ 0)) => ?_)
      · refine wp_run 1 (pc' := 37) (ls' := [(2, 321)]) (st' := [(2, 321)]) rfl ?_
        refine wp_gf (pc' := 40) (t := 1) (v := (M 321 9)) rfl rfl (by decide) rfl rfl rfl ?_
        refine wp_run 2 (pc' := 44) (ls' := [(2, 321)]) (st' := [(0, (z_lcmp (M 321 9) 122545758368371))]) rfl ?_
        refine wp_if1 rfl rfl rfl (fun (c4 : (z_lcmp (M 321 9) 122545758368371) ≠ 0) => ?_) (fun (c4 : ¬ ((z_lcmp (M 321 9) 122545758368371) ≠ 0)) => ?_)
        · refine wp_run 1 (pc' := 50) (ls' := [(2, 321)]) (st' := [(2, 321)]) rfl ?_
          refine wp_gf (pc' := 53) (t := 1) (v := (M 321 9)) rfl rfl (by decide) rfl rfl rfl ?_
          refine wp_run 2 (pc' := 57) (ls' := [(2, 321)]) (st' := [(0, (z_lcmp (M 321 9) 1752132965))]) rfl ?_
          refine wp_if1 rfl rfl rfl (fun (c5 : (z_lcmp (M 321 9) 1752132965) ≠ 0) => ?_) (fun (c5 : ¬ ((z_lcmp (M 321 9) 1752132965) ≠ 0)) => ?_)
          · refine wp_run 1 (pc' := 63) (ls' := [(2, 321)]) (st' := [(2, 321)]) rfl ?_
            refine wp_gf (pc' := 66) (t := 1) (v := (M 321 9)) rfl rfl (by decide) rfl rfl rfl ?_
            refine wp_run 2 (pc' := 70) (ls' := [(2, 321)]) (st' := [(0, (z_lcmp (M 321 9) 1751478885))]) rfl ?_
            refine wp_if1 rfl rfl rfl (fun (c6 : (z_lcmp (M 321 9) 1751478885) ≠ 0) => ?_) (fun (c6 : ¬ ((z_lcmp (M 321 9) 1751478885) ≠ 0)) => ?_)
            · refine wp_run 1 (pc' := 76) (ls' := [(2, 321)]) (st' := [(2, 321)]) rfl ?_
              refine wp_gf (pc' := 79) (t := 1) (v := (M 321 9)) rfl rfl (by decide) rfl rfl rfl ?_
              refine wp_run 2 (pc' := 83) (ls' := [(2, 321)]) (st' := [(0, (z_lcmp (M 321 9) 6578553))]) rfl ?_
              refine wp_if1 rfl rfl rfl (fun (c7 : (z_lcmp (M 321 9) 6578553) ≠ 0) => ?_) (fun (c7 : ¬ ((z_lcmp (M 321 9) 6578553) ≠ 0)) => ?_)
              · refine wp_run 1 (pc' := 91) (ls' := [(2, 321)]) (st' := [(0, (-1))]) rfl ?_
                exact wp_ret rfl rfl (l1 c1 c2 c3 c4 c5 c6 c7)
              · refine wp_run 2 (pc' := 91) (ls' := [(2, 321)]) (st' := [(0, 5)]) rfl ?_
                exact wp_ret rfl rfl (l2 c1 c2 c3 c4 c5 c6 c7)
            · refine wp_run 1 (pc' := 74) (ls' := [(2, 321)]) (st' := [(0, 4)]) rfl ?_
              exact wp_ret rfl rfl (l3 c1 c2 c3 c4 c5 c6)
          · refine wp_run 1 (pc' := 61) (ls' := [(2, 321)]) (st' := [(0, 3)]) rfl ?_
            exact wp_ret rfl rfl (l4 c1 c2 c3 c4 c5)
        · refine wp_run 1 (pc' := 48) (ls' := [(2, 321)]) (st' := [(0, 2)]) rfl ?_
          exact wp_ret rfl rfl (l5 c1 c2 c3 c4)
      · refine wp_run 1 (pc' := 35) (ls' := [(2, 321)]) (st' := [(0, 1)]) rfl ?_
        exact wp_ret rfl rfl (l6 c1 c2 c3)
    · refine wp_run 1 (pc' := 22) (ls' := [(2, 321)]) (st' := [(0, 0)]) rfl ?_
      exact wp_ret rfl rfl (l7 c1 c2)
  · refine wp_run 1 (pc' := 9) (ls' := [(2, 321)]) (st' := [(0, (-1))]) rfl ?_
    exact wp_ret rfl rfl (l8 c1)
set_option maxRecDepth 20000 in
theorem gX10_sign_0 {xs : List Int} {d : Nat} {M : z_M} {P : Option z_V → z_L → z_M → Prop} 
    (l1 : (¬ (M 321 6 = 1 ∧ M 321 9 = 6385252)) → (¬ (M 321 6 = 1 ∧ M 321 9 = 28530)) → ((M 321 6) = 60) → P (some (0, (M 321 6))) z_LL M)
    (l2 : (¬ (M 321 6 = 1 ∧ M 321 9 = 6385252)) → (¬ (M 321 6 = 1 ∧ M 321 9 = 28530)) → (¬ ((M 321 6) = 60)) → ((M 321 6) = 62) → P (some (0, (M 321 6))) z_LL M)
    (l3 : (¬ (M 321 6 = 1 ∧ M 321 9 = 6385252)) → (¬ (M 321 6 = 1 ∧ M 321 9 = 28530)) → (¬ ((M 321 6) = 60)) → (¬ ((M 321 6) = 62)) → ((M 321 6) = 61) → P (some (0, (M 321 6))) z_LL M)
    (l4 : (¬ (M 321 6 = 1 ∧ M 321 9 = 6385252)) → (¬ (M 321 6 = 1 ∧ M 321 9 = 28530)) → (¬ ((M 321 6) = 60)) → (¬ ((M 321 6) = 62)) → (¬ ((M 321 6) = 61)) → ((M 321 6) = 43) → P (some (0, (M 321 6))) z_LL M)
    (l5 : (¬ (M 321 6 = 1 ∧ M 321 9 = 6385252)) → (¬ (M 321 6 = 1 ∧ M 321 9 = 28530)) → (¬ ((M 321 6) = 60)) → (¬ ((M 321 6) = 62)) → (¬ ((M 321 6) = 61)) → (¬ ((M 321 6) = 43)) → ((M 321 6) = 45) → P (some (0, (M 321 6))) z_LL M)
    (l6 : (¬ (M 321 6 = 1 ∧ M 321 9 = 6385252)) → (¬ (M 321 6 = 1 ∧ M 321 9 = 28530)) → (¬ ((M 321 6) = 60)) → (¬ ((M 321 6) = 62)) → (¬ ((M 321 6) = 61)) → (¬ ((M 321 6) = 43)) → (¬ ((M 321 6) = 45)) → ((M 321 6) = 42) → P (some (0, (M 321 6))) z_LL M)
    (l7 : (¬ (M 321 6 = 1 ∧ M 321 9 = 6385252)) → (¬ (M 321 6 = 1 ∧ M 321 9 = 28530)) → (¬ ((M 321 6) = 60)) → (¬ ((M 321 6) = 62)) → (¬ ((M 321 6) = 61)) → (¬ ((M 321 6) = 43)) → (¬ ((M 321 6) = 45)) → (¬ ((M 321 6) = 42)) → ((M 321 6) = 47) → P (some (0, (M 321 6))) z_LL M)
    (l8 : (¬ (M 321 6 = 1 ∧ M 321 9 = 6385252)) → (¬ (M 321 6 = 1 ∧ M 321 9 = 28530)) → (¬ ((M 321 6) = 60)) → (¬ ((M 321 6) = 62)) → (¬ ((M 321 6) = 61)) → (¬ ((M 321 6) = 43)) → (¬ ((M 321 6) = 45)) → (¬ ((M 321 6) = 42)) → (¬ ((M 321 6) = 47)) → ((M 321 6) ≠ 37) → P (some (0, 0)) z_LL M)
    (l9 : (¬ (M 321 6 = 1 ∧ M 321 9 = 6385252)) → (¬ (M 321 6 = 1 ∧ M 321 9 = 28530)) → (¬ ((M 321 6) = 60)) → (¬ ((M 321 6) = 62)) → (¬ ((M 321 6) = 61)) → (¬ ((M 321 6) = 43)) → (¬ ((M 321 6) = 45)) → (¬ ((M 321 6) = 42)) → (¬ ((M 321 6) = 47)) → (¬ ((M 321 6) ≠ 37)) → P (some (0, (M 321 6))) z_LL M)
    (l10 : (¬ (M 321 6 = 1 ∧ M 321 9 = 6385252)) → ((M 321 6 = 1 ∧ M 321 9 = 28530)) → P (some (0, 124)) z_LL M)
    (l11 : ((M 321 6 = 1 ∧ M 321 9 = 6385252)) → P (some (0, 38)) z_LL M) :
    wp xs (d + 1) mX10_sign 0 [(2, 321)] [] z_LL M P := by
  refine wp_run 2 (pc' := 4) (ls' := [(2, 321)]) (st' := [(1, 6385252), (2, 321)]) rfl ?_
  refine wp_callv (pc' := 7) (as := [(2, 321), (1, 6385252)]) (rest := []) (ls1 := [(2, 321), (1, 6385252), (3, 0)]) rfl rfl rfl rfl rfl rfl ?_
  refine s_X10_isWord  ?_
  show wp xs _ mX10_sign 7 [(2, 321)] [(0, (z_b (M 321 6 = 1 ∧ M 321 9 = 6385252)))] z_LL M _
  refine wp_be rfl rfl rfl (fun (c1 : ¬ (M 321 6 = 1 ∧ M 321 9 = 6385252)) => ?_) (fun (c1 : (M 321 6 = 1 ∧ M 321 9 = 6385252)) => ?_)
  · refine wp_run 2 (pc' := 17) (ls' := [(2, 321)]) (st' := [(1, 28530), (2, 321)]) rfl ?_
    refine wp_callv (pc' := 20) (as := [(2, 321), (1, 28530)]) (rest := []) (ls1 := [(2, 321), (1, 28530), (3, 0)]) rfl rfl rfl rfl rfl rfl ?_
    refine s_X10_isWord  ?_
    show wp xs _ mX10_sign 20 [(2, 321)] [(0, (z_b (M 321 6 = 1 ∧ M 321 9 = 28530)))] z_LL M _
    refine wp_be rfl rfl rfl (fun (c2 : ¬ (M 321 6 = 1 ∧ M 321 9 = 28530)) => ?_) (fun (c2 : (M 321 6 = 1 ∧ M 321 9 = 28530)) => ?_)
    · refine wp_run 1 (pc' := 27) (ls' := [(2, 321)]) (st' := [(2, 321)]) rfl ?_
      refine wp_gf (pc' := 30) (t := 0) (v := (M 321 6)) rfl rfl (by decide) rfl rfl rfl ?_
      refine wp_run 1 (pc' := 32) (ls' := [(2, 321)]) (st' := [(0, 60), (0, (M 321 6))]) rfl ?_
      refine wp_if2 rfl rfl rfl (fun (c3 : (M 321 6) = 60) => ?_) (fun (c3 : ¬ ((M 321 6) = 60)) => ?_)
      · refine wp_run 1 (pc' := 99) (ls' := [(2, 321)]) (st' := [(2, 321)]) rfl ?_
        refine wp_gf (pc' := 102) (t := 0) (v := (M 321 6)) rfl rfl (by decide) rfl rfl rfl ?_
        refine wp_run 1 (pc' := 106) (ls' := [(2, 321)]) (st' := [(0, (M 321 6))]) rfl ?_
        exact wp_ret rfl rfl (l1 c1 c2 c3)
      · refine wp_run 1 (pc' := 36) (ls' := [(2, 321)]) (st' := [(2, 321)]) rfl ?_
        refine wp_gf (pc' := 39) (t := 0) (v := (M 321 6)) rfl rfl (by decide) rfl rfl rfl ?_
        refine wp_run 1 (pc' := 41) (ls' := [(2, 321)]) (st' := [(0, 62), (0, (M 321 6))]) rfl ?_
        refine wp_if2 rfl rfl rfl (fun (c4 : (M 321 6) = 62) => ?_) (fun (c4 : ¬ ((M 321 6) = 62)) => ?_)
        · refine wp_run 1 (pc' := 99) (ls' := [(2, 321)]) (st' := [(2, 321)]) rfl ?_
          refine wp_gf (pc' := 102) (t := 0) (v := (M 321 6)) rfl rfl (by decide) rfl rfl rfl ?_
          refine wp_run 1 (pc' := 106) (ls' := [(2, 321)]) (st' := [(0, (M 321 6))]) rfl ?_
          exact wp_ret rfl rfl (l2 c1 c2 c3 c4)
        · refine wp_run 1 (pc' := 45) (ls' := [(2, 321)]) (st' := [(2, 321)]) rfl ?_
          refine wp_gf (pc' := 48) (t := 0) (v := (M 321 6)) rfl rfl (by decide) rfl rfl rfl ?_
          refine wp_run 1 (pc' := 50) (ls' := [(2, 321)]) (st' := [(0, 61), (0, (M 321 6))]) rfl ?_
          refine wp_if2 rfl rfl rfl (fun (c5 : (M 321 6) = 61) => ?_) (fun (c5 : ¬ ((M 321 6) = 61)) => ?_)
          · refine wp_run 1 (pc' := 99) (ls' := [(2, 321)]) (st' := [(2, 321)]) rfl ?_
            refine wp_gf (pc' := 102) (t := 0) (v := (M 321 6)) rfl rfl (by decide) rfl rfl rfl ?_
            refine wp_run 1 (pc' := 106) (ls' := [(2, 321)]) (st' := [(0, (M 321 6))]) rfl ?_
            exact wp_ret rfl rfl (l3 c1 c2 c3 c4 c5)
          · refine wp_run 1 (pc' := 54) (ls' := [(2, 321)]) (st' := [(2, 321)]) rfl ?_
            refine wp_gf (pc' := 57) (t := 0) (v := (M 321 6)) rfl rfl (by decide) rfl rfl rfl ?_
            refine wp_run 1 (pc' := 59) (ls' := [(2, 321)]) (st' := [(0, 43), (0, (M 321 6))]) rfl ?_
            refine wp_if2 rfl rfl rfl (fun (c6 : (M 321 6) = 43) => ?_) (fun (c6 : ¬ ((M 321 6) = 43)) => ?_)
            · refine wp_run 1 (pc' := 99) (ls' := [(2, 321)]) (st' := [(2, 321)]) rfl ?_
              refine wp_gf (pc' := 102) (t := 0) (v := (M 321 6)) rfl rfl (by decide) rfl rfl rfl ?_
              refine wp_run 1 (pc' := 106) (ls' := [(2, 321)]) (st' := [(0, (M 321 6))]) rfl ?_
              exact wp_ret rfl rfl (l4 c1 c2 c3 c4 c5 c6)
            · refine wp_run 1 (pc' := 63) (ls' := [(2, 321)]) (st' := [(2, 321)]) rfl ?_
              refine wp_gf (pc' := 66) (t := 0) (v := (M 321 6)) rfl rfl (by decide) rfl rfl rfl ?_
              refine wp_run 1 (pc' := 68) (ls' := [(2, 321)]) (st' := [(0, 45), (0, (M 321 6))]) rfl ?_
              refine wp_if2 rfl rfl rfl (fun (c7 : (M 321 6) = 45) => ?_) (fun (c7 : ¬ ((M 321 6) = 45)) => ?_)
              · refine wp_run 1 (pc' := 99) (ls' := [(2, 321)]) (st' := [(2, 321)]) rfl ?_
                refine wp_gf (pc' := 102) (t := 0) (v := (M 321 6)) rfl rfl (by decide) rfl rfl rfl ?_
                refine wp_run 1 (pc' := 106) (ls' := [(2, 321)]) (st' := [(0, (M 321 6))]) rfl ?_
                exact wp_ret rfl rfl (l5 c1 c2 c3 c4 c5 c6 c7)
              · refine wp_run 1 (pc' := 72) (ls' := [(2, 321)]) (st' := [(2, 321)]) rfl ?_
                refine wp_gf (pc' := 75) (t := 0) (v := (M 321 6)) rfl rfl (by decide) rfl rfl rfl ?_
                refine wp_run 1 (pc' := 77) (ls' := [(2, 321)]) (st' := [(0, 42), (0, (M 321 6))]) rfl ?_
                refine wp_if2 rfl rfl rfl (fun (c8 : (M 321 6) = 42) => ?_) (fun (c8 : ¬ ((M 321 6) = 42)) => ?_)
                · refine wp_run 1 (pc' := 99) (ls' := [(2, 321)]) (st' := [(2, 321)]) rfl ?_
                  refine wp_gf (pc' := 102) (t := 0) (v := (M 321 6)) rfl rfl (by decide) rfl rfl rfl ?_
                  refine wp_run 1 (pc' := 106) (ls' := [(2, 321)]) (st' := [(0, (M 321 6))]) rfl ?_
                  exact wp_ret rfl rfl (l6 c1 c2 c3 c4 c5 c6 c7 c8)
                · refine wp_run 1 (pc' := 81) (ls' := [(2, 321)]) (st' := [(2, 321)]) rfl ?_
                  refine wp_gf (pc' := 84) (t := 0) (v := (M 321 6)) rfl rfl (by decide) rfl rfl rfl ?_
                  refine wp_run 1 (pc' := 86) (ls' := [(2, 321)]) (st' := [(0, 47), (0, (M 321 6))]) rfl ?_
                  refine wp_if2 rfl rfl rfl (fun (c9 : (M 321 6) = 47) => ?_) (fun (c9 : ¬ ((M 321 6) = 47)) => ?_)
                  · refine wp_run 1 (pc' := 99) (ls' := [(2, 321)]) (st' := [(2, 321)]) rfl ?_
                    refine wp_gf (pc' := 102) (t := 0) (v := (M 321 6)) rfl rfl (by decide) rfl rfl rfl ?_
                    refine wp_run 1 (pc' := 106) (ls' := [(2, 321)]) (st' := [(0, (M 321 6))]) rfl ?_
                    exact wp_ret rfl rfl (l7 c1 c2 c3 c4 c5 c6 c7 c8 c9)
                  · refine wp_run 1 (pc' := 90) (ls' := [(2, 321)]) (st' := [(2, 321)]) rfl ?_
                    refine wp_gf (pc' := 93) (t := 0) (v := (M 321 6)) rfl rfl (by decide) rfl rfl rfl ?_
                    refine wp_run 1 (pc' := 95) (ls' := [(2, 321)]) (st' := [(0, 37), (0, (M 321 6))]) rfl ?_
                    refine wp_if2 rfl rfl rfl (fun (c10 : (M 321 6) ≠ 37) => ?_) (fun (c10 : ¬ ((M 321 6) ≠ 37)) => ?_)
                    · refine wp_run 1 (pc' := 106) (ls' := [(2, 321)]) (st' := [(0, 0)]) rfl ?_
                      exact wp_ret rfl rfl (l8 c1 c2 c3 c4 c5 c6 c7 c8 c9 c10)
                    · refine wp_run 1 (pc' := 99) (ls' := [(2, 321)]) (st' := [(2, 321)]) rfl ?_
                      refine wp_gf (pc' := 102) (t := 0) (v := (M 321 6)) rfl rfl (by decide) rfl rfl rfl ?_
                      refine wp_run 1 (pc' := 106) (ls' := [(2, 321)]) (st' := [(0, (M 321 6))]) rfl ?_
                      exact wp_ret rfl rfl (l9 c1 c2 c3 c4 c5 c6 c7 c8 c9 c10)
    · refine wp_run 1 (pc' := 25) (ls' := [(2, 321)]) (st' := [(0, 124)]) rfl ?_
      exact wp_ret rfl rfl (l10 c1 c2)
  · refine wp_run 1 (pc' := 12) (ls' := [(2, 321)]) (st' := [(0, 38)]) rfl ?_
    exact wp_ret rfl rfl (l11 c1)
set_option maxRecDepth 20000 in
theorem gX10_isFull_0 {xs : List Int} {d : Nat} {M : z_M} {P : Option z_V → z_L → z_M → Prop} 
    (l1 : ((M 321 20) = 60) → P (some (0, 1)) z_LL M)
    (l2 : (¬ ((M 321 20) = 60)) → ((M 321 22) ≠ 30) → P (some (0, 0)) z_LL M)
    (l3 : (¬ ((M 321 20) = 60)) → (¬ ((M 321 22) ≠ 30)) → P (some (0, 1)) z_LL M) :
    wp xs d mX10_isFull 0 [(2, 321)] [] z_LL M P := by
  refine wp_run 1 (pc' := 1) (ls' := [(2, 321)]) (st' := [(2, 321)]) rfl ?_
  refine wp_gf (pc' := 4) (t := 0) (v := (M 321 20)) rfl rfl (by decide) rfl rfl rfl ?_
  refine wp_run 1 (pc' := 6) (ls' := [(2, 321)]) (st' := [(0, 60), (0, (M 321 20))]) rfl ?_
  refine wp_if2 rfl rfl rfl (fun (c1 : (M 321 20) = 60) => ?_) (fun (c1 : ¬ ((M 321 20) = 60)) => ?_)
  · refine wp_run 2 (pc' := 23) (ls' := [(2, 321)]) (st' := [(0, 1)]) rfl ?_
    exact wp_ret rfl rfl (l1 c1)
  · refine wp_run 1 (pc' := 10) (ls' := [(2, 321)]) (st' := [(2, 321)]) rfl ?_
    refine wp_gf (pc' := 13) (t := 0) (v := (M 321 22)) rfl rfl (by decide) rfl rfl rfl ?_
    refine wp_run 1 (pc' := 15) (ls' := [(2, 321)]) (st' := [(0, 30), (0, (M 321 22))]) rfl ?_
    refine wp_if2 rfl rfl rfl (fun (c2 : (M 321 22) ≠ 30) => ?_) (fun (c2 : ¬ ((M 321 22) ≠ 30)) => ?_)
    · refine wp_run 1 (pc' := 23) (ls' := [(2, 321)]) (st' := [(0, 0)]) rfl ?_
      exact wp_ret rfl rfl (l2 c1 c2)
    · refine wp_run 2 (pc' := 23) (ls' := [(2, 321)]) (st' := [(0, 1)]) rfl ?_
      exact wp_ret rfl rfl (l3 c1 c2)
set_option maxRecDepth 20000 in
theorem gX10_openUp_0 {xs : List Int} {d : Nat} {M : z_M} {P : Option z_V → z_L → z_M → Prop} {a1 : Int} (hF : z_fix M) 
    (b1 : 0 ≤ (M 321 19) ∧ (M 321 19) < 160)
    (l1 : ((M 321 2) ≠ 0) → P none z_LL (z_up (z_up (z_up M 328 (M 321 19) a1) 321 19 (z_w ((M 321 19) + 1))) 321 23 (z_w ((M 321 23) + 1))))
    (l2 : (¬ ((M 321 2) ≠ 0)) → wp xs d mX10_token 0 [(2, 321), (3, 0), (3, 0)] [] z_LL (z_up (z_up (z_up M 328 (M 321 19) a1) 321 19 (z_w ((M 321 19) + 1))) 321 23 (z_w ((M 321 23) + 1))) (fun r L1 M1 => wp xs (d + 1) mX10_openUp 41 [(2, 321), (0, a1)] (z_ol r ++ []) L1 M1 P)) :
    wp xs (d + 1) mX10_openUp 0 [(2, 321), (0, a1)] [] z_LL M P := by
  refine wp_run 1 (pc' := 1) (ls' := [(2, 321), (0, a1)]) (st' := [(2, 321)]) rfl ?_
  refine wp_gf (pc' := 4) (t := 2) (v := 328) rfl rfl (by decide) rfl rfl (fx_321_15 hF) ?_
  refine wp_run 1 (pc' := 5) (ls' := [(2, 321), (0, a1)]) (st' := [(2, 321), (2, 328)]) rfl ?_
  refine wp_gf (pc' := 8) (t := 0) (v := (M 321 19)) rfl rfl (by decide) rfl rfl rfl ?_
  refine wp_run 1 (pc' := 9) (ls' := [(2, 321), (0, a1)]) (st' := [(0, a1), (0, (M 321 19)), (2, 328)]) rfl ?_
  refine wp_iast (pc' := 10) rfl rfl rfl (b1) ?_
  refine wp_run 2 (pc' := 12) (ls' := [(2, 321), (0, a1)]) (st' := [(2, 321), (2, 321)]) rfl ?_
  refine wp_gf (pc' := 15) (t := 0) (v := (M 321 19)) rfl rfl (by decide) rfl rfl (z_upq (by decide) rfl) ?_
  refine wp_run 2 (pc' := 17) (ls' := [(2, 321), (0, a1)]) (st' := [(0, (z_w ((M 321 19) + 1))), (2, 321)]) rfl ?_
  refine wp_pf (pc' := 20) rfl rfl rfl rfl (fun z => absurd z (by decide)) (fun z => absurd z (by decide)) ?_
  refine wp_run 2 (pc' := 22) (ls' := [(2, 321), (0, a1)]) (st' := [(2, 321), (2, 321)]) rfl ?_
  refine wp_gf (pc' := 25) (t := 0) (v := (M 321 23)) rfl rfl (by decide) rfl rfl (z_upi (by decide) (z_upq (by decide) rfl)) ?_
  refine wp_run 2 (pc' := 27) (ls' := [(2, 321), (0, a1)]) (st' := [(0, (z_w ((M 321 23) + 1))), (2, 321)]) rfl ?_
  refine wp_pf (pc' := 30) rfl rfl rfl rfl (fun z => absurd z (by decide)) (fun z => absurd z (by decide)) ?_
  refine wp_run 1 (pc' := 31) (ls' := [(2, 321), (0, a1)]) (st' := [(2, 321)]) rfl ?_
  refine wp_gf (pc' := 34) (t := 0) (v := (M 321 2)) rfl rfl (by decide) rfl rfl (z_upi (by decide) (z_upi (by decide) (z_upq (by decide) rfl))) ?_
  refine wp_if1 rfl rfl rfl (fun (c1 : (M 321 2) ≠ 0) => ?_) (fun (c1 : ¬ ((M 321 2) ≠ 0)) => ?_)
  · exact wp_ret rfl rfl (l1 c1)
  · refine wp_run 1 (pc' := 38) (ls' := [(2, 321), (0, a1)]) (st' := [(2, 321)]) rfl ?_
    refine wp_callv (pc' := 41) (as := [(2, 321)]) (rest := []) (ls1 := [(2, 321), (3, 0), (3, 0)]) rfl rfl rfl rfl rfl rfl ?_
    exact l2 c1
set_option maxRecDepth 20000 in
theorem gX10_openUp_41 {xs : List Int} {d : Nat} {M : z_M} {P : Option z_V → z_L → z_M → Prop} {x1 : Int} 
    (l1 : P none z_LL M) :
    wp xs d mX10_openUp 41 [(2, 321), (0, x1)] [] z_LL M P := by
  exact wp_ret rfl rfl (l1)
def zq_t (x : Int) : Int := if x = 21 then 3 else if x = 38 then 2 else if x = 43 ∨ x = 45 then 5 else if x = 60 ∨ x = 61 ∨ x = 62 then 4 else if x = 124 then 1 else 6
theorem s_X10_tight {xs : List Int} {d : Nat} {M : z_M} {P : Option z_V → z_L → z_M → Prop} {x : Int} (k : P (some (0, zq_t x)) z_LL M) : wp xs d mX10_tight 0 [(0, x)] [] z_LL M P := by
  apply gX10_tight_0
  case l9 =>
    intros
    rw [show zq_t x = 6 by unfold zq_t; simp [*]] at k
    exact k
  all_goals
    intros
    rename_i h
    subst h
    exact k
def zq_H (M : z_M) : Prop := ∃ i : Int, (0 ≤ i ∧ i < M 321 19) ∧ M 328 i ≠ 20 ∧ zq_t (M 328 i) = 4 ∧ ∀ i', i < i' → i' < M 321 19 → M 328 i' ≠ 20 ∧ 4 < zq_t (M 328 i')
def zq_B (M : z_M) : Prop := ∃ i : Int, (0 ≤ i ∧ i < M 321 19) ∧ M 328 i = 20
section
variable {xs : List Int} {d : Nat} {M G : z_M} {b : Int → Int} {n p : Int} {P : Option z_V → z_L → z_M → Prop}
theorem s_hasRelation (hF : z_fix M) (h : 0 ≤ M 321 19 ∧ M 321 19 ≤ 160) (k : P (some (0, z_b (zq_H M))) z_LL M) : ∀ c : Nat, (c : Int) ≤ M 321 19 → (∀ i : Int, c ≤ i → i < M 321 19 → M 328 i ≠ 20 ∧ 4 < zq_t (M 328 i)) → wp xs (d + 1) mX10_hasRelation 7 [(2, 321), (0, (c : Int) - 1)] [] z_LL M P
  | 0, hc, ha => by
    have t := gX10_hasRelation_7 (M := M) (xs := xs) (d := d) (P := P) (x1 := ((0 : Nat) : Int) - 1) hF
    have nH : ¬ zq_H M := by
      rintro ⟨i, hi, h1, h2, h3⟩
      have := ha i (by omega) hi.2
      omega
    rw [z_b_f nH] at k
    exact t (fun _ _ => k) (fun _ w => absurd (by omega) w) (fun _ w => absurd (by omega) w) (fun _ w => absurd (by omega) w) (fun w => absurd (by omega) w) (fun w => absurd (by omega) w) (fun w => absurd (by omega) w) (fun w => absurd (by omega) w) (fun w => absurd (by omega) w)
  | c + 1, hc, ha => by
    have t := gX10_hasRelation_7 (M := M) (xs := xs) (d := d) (P := P) (x1 := ((c + 1 : Nat) : Int) - 1) hF
    have e : ((c + 1 : Nat) : Int) - 1 = (c : Int) := by omega
    rw [e] at t ⊢
    by_cases w20 : M 328 c = 20
    · have nH : ¬ zq_H M := by
        rintro ⟨i, hi, h1, h2, h3⟩
        by_cases w : i < c
        · exact (h3 c w (by omega)).1 w20
        · by_cases w1 : i = c
          · rw [w1] at h1
            exact h1 w20
          · have := ha i (by omega) hi.2
            omega
      rw [z_b_f nH] at k
      exact t (fun w => by omega) (fun w => by omega) (fun w => by omega) (fun w => by omega) (fun _ => by omega) (fun _ _ w => by omega) (fun _ _ _ _ => k) (fun _ _ _ w => absurd w20 w) (fun _ w => absurd w20 w)
    · refine t (fun w => by omega) (fun w => by omega) (fun w => by omega) (fun w => by omega) (fun _ => by omega) (fun _ w => absurd w w20) (fun _ w => absurd w w20) (fun _ w => absurd w w20) (fun _ _ => s_X10_tight ?_)
      refine gX10_hasRelation_31 (d := d) hF (fun _ w => by omega) (fun _ _ => by omega) (fun _ _ w => absurd w w20) (fun w4 _ _ => s_X10_tight (gX10_hasRelation_65 (fun w => ?_) (fun w => ?_))) (fun w4 => ?_)
      · have nH : ¬ zq_H M := by
          rintro ⟨i, hi, h1, h2, h3⟩
          by_cases w0 : i < c
          · have := (h3 c w0 (by omega)).2
            omega
          · by_cases w1 : i = c
            · rw [w1] at h2
              exact w h2
            · have := ha i (by omega) hi.2
              omega
        rw [z_b_f nH] at k
        exact k
      · have yH : zq_H M := ⟨c, by omega, w20, Classical.byContradiction w, fun i' a1 a2 => ha i' (by omega) a2⟩
        rw [z_b_t yH] at k
        exact k
      · rw [show z_w ((c : Int) + (-1)) = (c : Int) - 1 by rw [z_wid (by omega)]; omega]
        refine s_hasRelation hF h k c (by omega) (fun i a1 a2 => ?_)
        by_cases w1 : i = c
        · rw [w1]
          exact ⟨w20, by omega⟩
        · exact ha i (by omega) a2
theorem s_X10_hasRelation (hF : z_fix M) (h : 0 ≤ M 321 19 ∧ M 321 19 ≤ 160) (k : P (some (0, z_b (zq_H M))) z_LL M) : wp xs (d + 1) mX10_hasRelation 0 [(2, 321), (3, 0)] [] z_LL M P := by
  refine gX10_hasRelation_0 ?_
  rw [z_wid (by omega)]
  have w := s_hasRelation (xs := xs) (d := d) hF h k (M 321 19).toNat (by omega) (fun i a1 a2 => by omega)
  rw [show (((M 321 19).toNat : Nat) : Int) = M 321 19 by omega] at w
  exact w
theorem s_X10_hasBracket (hF : z_fix M) (h : 0 ≤ M 321 19 ∧ M 321 19 ≤ 160) (k : P (some (0, z_b (zq_B M))) z_LL M) : wp xs d mX10_hasBracket 0 [(2, 321), (3, 0), (3, 0)] [] z_LL M P := by
  refine gX10_hasBracket_0 ?_
  obtain ⟨N, hN⟩ : ∃ N : Nat, M 321 19 = (N : Int) := ⟨(M 321 19).toNat, by omega⟩
  have key := z_loop (W := fun i => ∀ x1 : Int, x1 = z_b (∃ i' : Int, (0 ≤ i' ∧ i' < i) ∧ M 328 i' = 20) → wp xs d mX10_hasBracket 4 [(2, 321), (0, x1), (0, (i : Int))] [] z_LL M P) N (fun i hi ih x1 h1 => ?_)
  · exact key 0 (z_b_f (fun ⟨i', a, _⟩ => by omega)).symm
  · have t := gX10_hasBracket_4 (M := M) (xs := xs) (d := d) (P := P) (x1 := x1) (x2 := (i : Int)) hF
    rw [hN, show z_w ((i : Int) + 1) = ((i + 1 : Nat) : Int) by rw [z_wid (by omega)]; omega] at t
    have b01 : x1 = 0 ∨ x1 = 1 := by
      rw [h1]
      exact z_b_01
    refine t (fun _ => b01) (fun w => ?_) (fun w w2 => ih (by omega) 1 ?_) (fun _ _ => by omega) (fun w w2 w3 => ih (by omega) 0 ?_) (fun w w2 w3 => ih (by omega) 1 ?_)
    · have e : (∃ i' : Int, (0 ≤ i' ∧ i' < i) ∧ M 328 i' = 20) ↔ zq_B M := by
        unfold zq_B
        rw [hN, show (i : Int) = N by omega]
      rw [h1, z_b_i e]
      exact k
    · have hx : x1 = 1 := by omega
      rw [hx] at h1
      have : ∃ i' : Int, (0 ≤ i' ∧ i' < i) ∧ M 328 i' = 20 := Classical.byContradiction (fun c => by rw [z_b_f c] at h1; omega)
      obtain ⟨i', a1, a2⟩ := this
      exact (z_b_t ⟨i', by omega, a2⟩).symm
    · have hx : x1 = 0 := by omega
      rw [hx] at h1
      have nx := zf_b0.mp h1.symm
      refine (z_b_f (fun ⟨i', a1, a2⟩ => ?_)).symm
      by_cases e : i' = i
      · rw [e] at a2
        exact w3 a2
      · exact nx ⟨i', by omega, a2⟩
    · exact (z_b_t ⟨i, by omega, Classical.byContradiction w3⟩).symm
theorem s_X10_mayNot (hF : z_fix M) (h : 0 ≤ M 321 19 ∧ M 321 19 ≤ 160) (k : P (some (0, z_b (M 321 19 = 0 ∨ M 328 (M 321 19 - 1) = 20 ∨ zq_t (M 328 (M 321 19 - 1)) < 4))) z_LL M) : wp xs (d + 1) mX10_mayNot 0 [(2, 321)] [] z_LL M P := by
  have t := gX10_mayNot_0 (M := M) (xs := xs) (d := d) (P := P) hF
  rw [z_wid (x := M 321 19 - 1) (by omega)] at t
  refine t (fun w => ?_) (fun _ => by omega) (fun _ w => ?_) (fun w w2 => s_X10_tight (gX10_mayNot_37 (fun w3 => ?_) (fun w3 => ?_)))
  · rw [z_b_t (Or.inl w)] at k
    exact k
  · rw [z_b_t (Or.inr (Or.inl w))] at k
    exact k
  · rw [z_b_f (fun c => c.elim w (fun c => c.elim w2 (fun c => by omega)))] at k
    exact k
  · rw [z_b_t (Or.inr (Or.inr (by omega)))] at k
    exact k
theorem s_X10_isFull (k : P (some (0, z_b (M 321 20 = 60 ∨ M 321 22 = 30))) z_LL M) : wp xs d mX10_isFull 0 [(2, 321)] [] z_LL M P := by
  refine gX10_isFull_0 (fun w => ?_) (fun w w2 => ?_) (fun w w2 => ?_)
  · rw [z_b_t (Or.inl w)] at k
    exact k
  · rw [z_b_f (fun c => c.elim w w2)] at k
    exact k
  · rw [z_b_t (Or.inr (Classical.byContradiction w2))] at k
    exact k
def zq_a (k : Int) : Int := if k = 3 ∨ (19 ≤ k ∧ k ≤ 23) then zf_ak k else -1
theorem s_X10_asked (h : zs_m M b n (.ok p)) (k : P (some (0, zq_a (zt_k b n p))) z_LL M) : wp xs d mX10_asked 0 [(2, 321)] [] z_LL M P := by
  have hp : 0 ≤ p ∧ p ≤ n := h.2.2.1
  have h4 := h.2.2.2 p rfl
  have w3 := zt_m_w h4 hp (i := 3) (by decide)
  have w19 := zt_m_w h4 hp (i := 19) (by decide)
  have w20 := zt_m_w h4 hp (i := 20) (by decide)
  have w21 := zt_m_w h4 hp (i := 21) (by decide)
  have w22 := zt_m_w h4 hp (i := 22) (by decide)
  have w23 := zt_m_w h4 hp (i := 23) (by decide)
  rw [show z_own8.getD 3 0 = 444300620659 by decide] at w3
  rw [show z_own8.getD 19 0 = 1935764596 by decide] at w19
  rw [show z_own8.getD 20 0 = 122545758368371 by decide] at w20
  rw [show z_own8.getD 21 0 = 1752132965 by decide] at w21
  rw [show z_own8.getD 22 0 = 1751478885 by decide] at w22
  rw [show z_own8.getD 23 0 = 6578553 by decide] at w23
  have ne : ∀ {c : Int}, z_lcmp (M 321 9) c ≠ 0 → M 321 9 ≠ c := fun w e => w (z_lc0.mpr e)
  have eq : ∀ {c : Int}, ¬ z_lcmp (M 321 9) c ≠ 0 → M 321 9 = c := fun w => z_lc0.mp (Classical.byContradiction w)
  have fin : ∀ v : Int, zt_k b n p = v → P (some (0, zq_a v)) z_LL M := fun v e => by
    rw [← e]
    exact k
  have none : ¬ (zt_k b n p = 3 ∨ (19 ≤ zt_k b n p ∧ zt_k b n p ≤ 23)) → P (some (0, -1)) z_LL M := fun e => by
    unfold zq_a at k
    rw [if_neg e] at k
    exact k
  refine gX10_asked_0 (fun a b1 b2 b3 b4 b5 b6 => none (fun c => ?_)) (fun a _ _ _ _ _ c => fin 23 (w23.mp ⟨a, eq c⟩)) (fun a _ _ _ _ c => fin 22 (w22.mp ⟨a, eq c⟩)) (fun a _ _ _ c => fin 21 (w21.mp ⟨a, eq c⟩)) (fun a _ _ c => fin 20 (w20.mp ⟨a, eq c⟩)) (fun a _ c => fin 19 (w19.mp ⟨a, eq c⟩)) (fun a c => fin 3 (w3.mp ⟨a, eq c⟩)) (fun a => none (fun c => ?_))
  · have c6 : zt_k b n p = 3 ∨ zt_k b n p = 19 ∨ zt_k b n p = 20 ∨ zt_k b n p = 21 ∨ zt_k b n p = 22 ∨ zt_k b n p = 23 := by omega
    rcases c6 with c | c | c | c | c | c
    · exact ne b1 (w3.mpr c).2
    · exact ne b2 (w19.mpr c).2
    · exact ne b3 (w20.mpr c).2
    · exact ne b4 (w21.mpr c).2
    · exact ne b5 (w22.mpr c).2
    · exact ne b6 (w23.mpr c).2
  · refine a ?_
    rw [h4.1]
    exact zt_r_i.1.mpr (by omega)
def zq_g (k : Int) : Int := if zf_lv k = -1 then 0 else zf_sg k
theorem s_X10_sign (h : zs_m M b n (.ok p)) (k : P (some (0, zq_g (zt_k b n p))) z_LL M) : wp xs (d + 1) mX10_sign 0 [(2, 321)] [] z_LL M P := by
  have hp : 0 ≤ p ∧ p ≤ n := h.2.2.1
  have h4 := h.2.2.2 p rfl
  have w16 := zt_m_w h4 hp (i := 16) (by decide)
  have w17 := zt_m_w h4 hp (i := 17) (by decide)
  rw [show z_own8.getD 16 0 = 28530 by decide] at w16
  rw [show z_own8.getD 17 0 = 6385252 by decide] at w17
  have ri := (zt_r_i (b := b) (n := n) (p := p)).2.2.2.2
  have e6 : ∀ s, 37 ≤ s → (M 321 6 = s ↔ zt_k b n p = s) := fun s hs => by
    rw [h4.1]
    exact ri s hs
  have fin : ∀ v : Int, zt_k b n p = v → P (some (0, zq_g v)) z_LL M := fun v e => by
    rw [← e]
    exact k
  have same : ∀ v : Int, 37 ≤ v → M 321 6 = v → zq_g v = v → P (some (0, M 321 6)) z_LL M := fun v hv e eg => by
    have := fin v ((e6 v hv).mp e)
    rw [eg] at this
    rw [e]
    exact this
  refine gX10_sign_0 (fun _ _ c => same 60 (by decide) c (by decide)) (fun _ _ _ c => same 62 (by decide) c (by decide)) (fun _ _ _ _ c => same 61 (by decide) c (by decide)) (fun _ _ _ _ _ c => same 43 (by decide) c (by decide)) (fun _ _ _ _ _ _ c => same 45 (by decide) c (by decide)) (fun _ _ _ _ _ _ _ c => same 42 (by decide) c (by decide)) (fun _ _ _ _ _ _ _ _ c => same 47 (by decide) c (by decide)) (fun a1 a2 a3 a4 a5 a6 a7 a8 a9 a10 => ?_) (fun _ _ _ _ _ _ _ _ _ c => same 37 (by decide) (Classical.byContradiction c) (by decide)) (fun _ c => fin 16 (w16.mp c)) (fun c => fin 17 (w17.mp c))
  have e : zq_g (zt_k b n p) = 0 := by
    have n16 : zt_k b n p ≠ 16 := fun c => a2 (w16.mpr c)
    have n17 : zt_k b n p ≠ 17 := fun c => a1 (w17.mpr c)
    have f : ∀ s, 37 ≤ s → M 321 6 ≠ s → zt_k b n p ≠ s := fun s hs c e => c ((e6 s hs).mpr e)
    have f1 := f 60 (by decide) a3
    have f2 := f 62 (by decide) a4
    have f3 := f 61 (by decide) a5
    have f4 := f 43 (by decide) a6
    have f5 := f 45 (by decide) a7
    have f6 := f 42 (by decide) a8
    have f7 := f 47 (by decide) a9
    have f8 := f 37 (by decide) a10
    unfold zq_g
    refine if_pos ?_
    unfold zf_lv
    rw [if_neg n16, if_neg n17, if_neg (by omega), if_neg (by omega), if_neg (by omega)]
  rw [e] at k
  exact k
/-! the stack of signs -/
def zq_n (M : z_M) (o : Int) : Nat → Int
  | 0 => 0
  | j + 1 => zq_n M o j + if M 328 (o + j) = 21 then 1 else 0
theorem zq_n_b {o : Int} : ∀ j : Nat, 0 ≤ zq_n M o j ∧ zq_n M o j ≤ j
  | 0 => by unfold zq_n; omega
  | j + 1 => by
    have := zq_n_b (o := o) j
    unfold zq_n
    split <;> omega
theorem zq_n_q {M' : z_M} {o : Int} : ∀ j : Nat, (∀ i : Int, o ≤ i → i < o + j → M' 328 i = M 328 i) → zq_n M' o j = zq_n M o j
  | 0, _ => rfl
  | j + 1, h => by
    unfold zq_n
    rw [zq_n_q j (fun i a c => h i a (by omega)), h (o + j) (by omega) (by omega)]
theorem zq_n_s {o : Int} : ∀ j : Nat, zq_n M o (j + 1) = (if M 328 o = 21 then 1 else 0) + zq_n M (o + 1) j
  | 0 => by
    unfold zq_n zq_n
    simp
  | j + 1 => by
    have ih := zq_n_s (o := o) j
    rw [zq_n, ih]
    conv => rhs; rw [zq_n]
    rw [show o + ((j + 1 : Nat) : Int) = o + 1 + (j : Int) by omega]
    omega
/-- only the signs that are worked off change -/
def zq_e (M M' : z_M) : Prop := (∀ q, q ≠ 321 → q ≠ 324 → q ≠ 325 → M' q = M q) ∧ ∀ j, j ≠ 17 → j ≠ 19 → j ≠ 23 → M' 321 j = M 321 j
theorem zq_e_r : zq_e M M := ⟨fun _ _ _ _ => rfl, fun _ _ _ _ => rfl⟩
theorem zq_e_t {M1 M2 : z_M} (f : zq_e M M1) (g : zq_e M1 M2) : zq_e M M2 := ⟨fun q a c e => by rw [g.1 q a c e, f.1 q a c e], fun j a c e => by rw [g.2 j a c e, f.2 j a c e]⟩
theorem zq_e_b {M' : z_M} (f : zq_e M M') : zm_b M M' := ⟨fun q hq => f.1 q (fun e => hq (by unfold zm_q; omega)) (fun e => hq (by unfold zm_q; omega)) (fun e => hq (by unfold zm_q; omega)), fun j hj => f.2 j (fun e => hj (by unfold zm_j; omega)) (fun e => hj (by unfold zm_j; omega)) (fun e => hj (by unfold zm_j; omega))⟩
/-- a sign worked off -/
def zq_c (x : Int) : Int × Int := if x = 21 then (2, 0) else (3, x)
theorem s_X10_close {o m least : Int} : ∀ (j : Nat) (M : z_M), z_fix M → M 321 19 = o + j → (0 ≤ o ∧ o + j ≤ 100) → (∀ i : Int, o ≤ i → i < o + j → M 328 i ≠ 20 ∧ least ≤ zq_t (M 328 i)) → (o = 0 ∨ M 328 (o - 1) = 20 ∨ zq_t (M 328 (o - 1)) < least) → M 321 17 = m → (0 ≤ m ∧ m + j ≤ 300) → (-100 ≤ M 321 23 - zq_n M o j ∧ M 321 23 ≤ 100) → (∀ M' : z_M, zq_e M M' → M' 321 19 = o → M' 321 17 = m + j → (∀ i : Int, 0 ≤ i → i < j → M' 324 (m + i) = (zq_c (M 328 (o + j - 1 - i))).1 ∧ M' 325 (m + i) = (zq_c (M 328 (o + j - 1 - i))).2) → (∀ k : Int, k < m → M' 324 k = M 324 k ∧ M' 325 k = M 325 k) → M' 321 23 = M 321 23 - zq_n M o j → P none z_LL M') → wp xs (d + 1) mX10_close 0 [(2, 321), (0, least)] [] z_LL M P
  | 0, M, hF, h19, ho, hk, hb, h17, hm, h23, k => by
    have t := gX10_close_0 (M := M) (xs := xs) (d := d) (P := P) (a1 := least) hF
    have e19 : M 321 19 = o := by omega
    have kk := k M zq_e_r e19 (by omega) (fun i a c => by omega) (fun _ _ => ⟨rfl, rfl⟩) (by unfold zq_n; omega)
    rw [e19] at t
    by_cases w0 : o ≤ 0
    · exact t (fun _ => kk) (fun w => absurd w0 w) (fun w => absurd w0 w) (fun w => absurd w0 w)
    · rw [z_wid (x := o - 1) (by omega)] at t
      refine t (fun w => absurd w w0) (fun _ => by omega) (fun _ _ => kk) (fun _ w => s_X10_tight ?_)
      have hl : zq_t (M 328 (o - 1)) < least := by
        rcases hb with w1 | w1 | w1
        · omega
        · exact absurd w1 w
        · exact w1
      exact gX10_close_37 (d := d) hF (fun _ => kk) (fun w => absurd hl w) (fun w => absurd hl w) (fun w => absurd hl w) (fun w => absurd hl w) (fun w => absurd hl w)
  | j + 1, M, hF, h19, ho, hk, hb, h17, hm, h23, k => by
    have t := gX10_close_0 (M := M) (xs := xs) (d := d) (P := P) (a1 := least) hF
    have e19 : z_w (o + ((j + 1 : Nat) : Int) - 1) = o + j := by rw [z_wid (by omega)]; omega
    have top := hk (o + j) (by omega) (by omega)
    have bn := zq_n_b (M := M) (o := o) j
    rw [h19, e19] at t
    refine t (fun w => by omega) (fun _ => by omega) (fun _ w => absurd w top.1) (fun _ _ => s_X10_tight ?_)
    have r := gX10_close_37 (M := M) (xs := xs) (d := d) (P := P) (x1 := least) (s0 := zq_t (M 328 (o + j))) hF
    have bn1 := zq_n_b (M := M) (o := o) (j + 1)
    rw [h19, e19, h17, z_wid (x := m + 1) (by omega), z_wid (x := M 321 23 - 1) (by omega)] at r
    refine r (fun w => by omega) (fun _ => by omega) (fun _ _ => by omega) (fun _ w => ?_) (fun _ _ => by omega) (fun _ w => ?_)
    · generalize hM1 : z_up (z_up (z_up (z_up M 321 19 (o + j)) 324 m 3) 325 m (M 328 (o + j))) 321 17 (m + 1) = M1
      have o1 : ∀ q, q ≠ 321 → q ≠ 324 → q ≠ 325 → M1 q = M q := fun q a c e => by rw [← hM1, z_upn a, z_upn e, z_upn c, z_upn a]
      have o2 : ∀ i, i ≠ 17 → i ≠ 19 → M1 321 i = M 321 i := fun i a c => by rw [← hM1, z_upi a rfl, z_upn (by decide), z_upn (by decide), z_upi c rfl]
      have v19 : M1 321 19 = o + j := by rw [← hM1, z_upi (by decide) rfl, z_upn (by decide), z_upn (by decide), z_ups]
      have v17 : M1 321 17 = m + 1 := by rw [← hM1, z_ups]
      have v24 : ∀ i, M1 324 i = if i = m then 3 else M 324 i := fun i => by
        rw [← hM1, z_upn (by decide), z_upn (by decide)]
        by_cases e : i = m
        · rw [if_pos e, e, z_ups]
        · rw [if_neg e, z_upi e rfl, z_upn (by decide)]
      have v25 : ∀ i, M1 325 i = if i = m then M 328 (o + j) else M 325 i := fun i => by
        rw [← hM1, z_upn (by decide)]
        by_cases e : i = m
        · rw [if_pos e, e, z_ups]
        · rw [if_neg e, z_upi e rfl, z_upn (by decide), z_upn (by decide)]
      clear hM1
      have f1 : zq_e M M1 := ⟨o1, fun i a c _ => o2 i a c⟩
      have e28 : M1 328 = M 328 := o1 328 (by decide) (by decide) (by decide)
      have en : zq_n M1 o j = zq_n M o j := zq_n_q j (fun i _ _ => by rw [e28])
      refine s_X10_close (m := m + 1) j M1 (zm_b_F (zq_e_b f1) hF) v19 (by omega) (fun i a c => by rw [e28]; exact hk i a (by omega)) (by rw [e28]; exact hb) v17 (by omega) (by rw [o2 23 (by decide) (by decide), en]; rw [zq_n, if_neg w] at h23; omega) (fun M' f v1 v2 v3 v4 v5 => k M' (zq_e_t f1 f) v1 (by omega) (fun i a c => ?_) (fun x hx => ?_) ?_)
      · by_cases e : i = 0
        · have w4 := v4 m (by omega)
          rw [e, show m + 0 = m by omega, w4.1, w4.2, v24, v25, if_pos rfl, if_pos rfl, show o + ((j + 1 : Nat) : Int) - 1 - 0 = o + j by omega]
          unfold zq_c
          rw [if_neg w]
          exact ⟨rfl, rfl⟩
        · have w3 := v3 (i - 1) (by omega) (by omega)
          rw [e28, show m + 1 + (i - 1) = m + i by omega, show o + (j : Int) - 1 - (i - 1) = o + ((j + 1 : Nat) : Int) - 1 - i by omega] at w3
          exact w3
      · have w4 := v4 x (by omega)
        rw [w4.1, w4.2, v24, v25, if_neg (by omega), if_neg (by omega)]
        exact ⟨rfl, rfl⟩
      · rw [v5, en, o2 23 (by decide) (by decide), zq_n, if_neg w]
        omega
    · have w : M 328 (o + j) = 21 := Classical.byContradiction w
      generalize hM1 : z_up (z_up (z_up (z_up (z_up M 321 19 (o + j)) 324 m 2) 325 m 0) 321 17 (m + 1)) 321 23 (M 321 23 - 1) = M1
      have e23 : ∀ X : z_M, X = z_up (z_up (z_up (z_up (z_up M 321 19 (o + j)) 324 m 2) 325 m 0) 321 17 (m + 1)) 321 23 (M 321 23 - 1) → True := fun _ _ => trivial
      have o1 : ∀ q, q ≠ 321 → q ≠ 324 → q ≠ 325 → M1 q = M q := fun q a c e => by rw [← hM1, z_upn a, z_upn a, z_upn e, z_upn c, z_upn a]
      have o2 : ∀ i, i ≠ 17 → i ≠ 19 → i ≠ 23 → M1 321 i = M 321 i := fun i a c e => by rw [← hM1, z_upi e rfl, z_upi a rfl, z_upn (by decide), z_upn (by decide), z_upi c rfl]
      have v19 : M1 321 19 = o + j := by rw [← hM1, z_upi (by decide) rfl, z_upi (by decide) rfl, z_upn (by decide), z_upn (by decide), z_ups]
      have v17 : M1 321 17 = m + 1 := by rw [← hM1, z_upi (by decide) rfl, z_ups]
      have v23 : M1 321 23 = M 321 23 - 1 := by rw [← hM1, z_ups]
      have v24 : ∀ i, M1 324 i = if i = m then 2 else M 324 i := fun i => by
        rw [← hM1, z_upn (by decide), z_upn (by decide), z_upn (by decide)]
        by_cases e : i = m
        · rw [if_pos e, e, z_ups]
        · rw [if_neg e, z_upi e rfl, z_upn (by decide)]
      have v25 : ∀ i, M1 325 i = if i = m then 0 else M 325 i := fun i => by
        rw [← hM1, z_upn (by decide), z_upn (by decide)]
        by_cases e : i = m
        · rw [if_pos e, e, z_ups]
        · rw [if_neg e, z_upi e rfl, z_upn (by decide), z_upn (by decide)]
      clear hM1 e23
      have f1 : zq_e M M1 := ⟨o1, o2⟩
      have e28 : M1 328 = M 328 := o1 328 (by decide) (by decide) (by decide)
      have en : zq_n M1 o j = zq_n M o j := zq_n_q j (fun i _ _ => by rw [e28])
      rw [zq_n, if_pos w] at h23
      refine s_X10_close (m := m + 1) j M1 (zm_b_F (zq_e_b f1) hF) v19 (by omega) (fun i a c => by rw [e28]; exact hk i a (by omega)) (by rw [e28]; exact hb) v17 (by omega) (by rw [en]; omega) (fun M' f v1 v2 v3 v4 v5 => k M' (zq_e_t f1 f) v1 (by omega) (fun i a c => ?_) (fun x hx => ?_) ?_)
      · by_cases e : i = 0
        · have w4 := v4 m (by omega)
          rw [e, show m + 0 = m by omega, w4.1, w4.2, v24, v25, if_pos rfl, if_pos rfl, show o + ((j + 1 : Nat) : Int) - 1 - 0 = o + j by omega, w]
          exact ⟨rfl, rfl⟩
        · have w3 := v3 (i - 1) (by omega) (by omega)
          rw [e28, show m + 1 + (i - 1) = m + i by omega, show o + (j : Int) - 1 - (i - 1) = o + ((j + 1 : Nat) : Int) - 1 - i by omega] at w3
          exact w3
      · have w4 := v4 x (by omega)
        rw [w4.1, w4.2, v24, v25, if_neg (by omega), if_neg (by omega)]
        exact ⟨rfl, rfl⟩
      · rw [v5, en, v23, zq_n, if_pos w]
        omega
end
