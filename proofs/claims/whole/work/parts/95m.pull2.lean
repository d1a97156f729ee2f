/-! THE MODEL READS THE FORMULA -/
set_option maxRecDepth 20000 in
theorem gX10_unit_0 {xs : List Int} {d : Nat} {M : z_M} {P : Option z_V → z_L → z_M → Prop} 
    (l1 : wp xs d mX10_unit 2 [(2, 321), (0, 1), (3, 0)] [] z_LL M P) :
    wp xs d mX10_unit 0 [(2, 321), (3, 0), (3, 0)] [] z_LL M P := by
  refine wp_run 2 (pc' := 2) (ls' := [(2, 321), (0, 1), (3, 0)]) (st' := []) rfl ?_
  exact l1
set_option maxRecDepth 20000 in
theorem gX10_unit_2 {xs : List Int} {d : Nat} {M : z_M} {P : Option z_V → z_L → z_M → Prop} {x1 : Int} 
    (l1 : (x1 = 0) → ((M 321 2) ≤ 0) → wp xs d mX10_asked 0 [(2, 321)] [] z_LL M (fun r L1 M1 => wp xs (d + 1) mX10_unit 113 [(2, 321), (0, x1), (3, 0)] (z_ol r ++ []) L1 M1 P))
    (l2 : (x1 = 0) → (¬ ((M 321 2) ≤ 0)) → P none z_LL M)
    (l3 : (¬ (x1 = 0)) → ((M 321 2) ≠ 0) → ((M 321 2) ≤ 0) → wp xs d mX10_asked 0 [(2, 321)] [] z_LL M (fun r L1 M1 => wp xs (d + 1) mX10_unit 113 [(2, 321), (0, x1), (3, 0)] (z_ol r ++ []) L1 M1 P))
    (l4 : (¬ (x1 = 0)) → ((M 321 2) ≠ 0) → (¬ ((M 321 2) ≤ 0)) → P none z_LL M)
    (l5 : (¬ (x1 = 0)) → (¬ ((M 321 2) ≠ 0)) → (¬ (M 321 6 = 1 ∧ M 321 9 = 7237492)) → ((M 321 6) ≠ 40) → wp xs (d + 1) mX10_unit 2 [(2, 321), (0, 0), (3, 0)] [] z_LL M P)
    (l6 : (¬ (x1 = 0)) → (¬ ((M 321 2) ≠ 0)) → (¬ (M 321 6 = 1 ∧ M 321 9 = 7237492)) → (¬ ((M 321 6) ≠ 40)) → wp xs d mX10_isFull 0 [(2, 321)] [] z_LL M (fun r L1 M1 => wp xs (d + 1) mX10_unit 66 [(2, 321), (0, x1), (3, 0)] (z_ol r ++ []) L1 M1 P))
    (l7 : (¬ (x1 = 0)) → (¬ ((M 321 2) ≠ 0)) → ((M 321 6 = 1 ∧ M 321 9 = 7237492)) → wp xs d mX10_mayNot 0 [(2, 321)] [] z_LL M (fun r L1 M1 => wp xs (d + 1) mX10_unit 27 [(2, 321), (0, x1), (3, 0)] (z_ol r ++ []) L1 M1 P)) :
    wp xs (d + 1) mX10_unit 2 [(2, 321), (0, x1), (3, 0)] [] z_LL M P := by
  refine wp_run 1 (pc' := 3) (ls' := [(2, 321), (0, x1), (3, 0)]) (st' := [(0, x1)]) rfl ?_
  refine wp_if1 rfl rfl rfl (fun (c1 : x1 = 0) => ?_) (fun (c1 : ¬ (x1 = 0)) => ?_)
  · refine wp_run 1 (pc' := 102) (ls' := [(2, 321), (0, x1), (3, 0)]) (st' := [(2, 321)]) rfl ?_
    refine wp_gf (pc' := 105) (t := 0) (v := (M 321 2)) rfl rfl (by decide) rfl rfl rfl ?_
    refine wp_if1 rfl rfl rfl (fun (c2 : (M 321 2) ≤ 0) => ?_) (fun (c2 : ¬ ((M 321 2) ≤ 0)) => ?_)
    · refine wp_run 1 (pc' := 110) (ls' := [(2, 321), (0, x1), (3, 0)]) (st' := [(2, 321)]) rfl ?_
      refine wp_callv (pc' := 113) (as := [(2, 321)]) (rest := []) (ls1 := [(2, 321)]) rfl rfl rfl rfl rfl rfl ?_
      exact l1 c1 c2
    · exact wp_ret rfl rfl (l2 c1 c2)
  · refine wp_run 1 (pc' := 7) (ls' := [(2, 321), (0, x1), (3, 0)]) (st' := [(2, 321)]) rfl ?_
    refine wp_gf (pc' := 10) (t := 0) (v := (M 321 2)) rfl rfl (by decide) rfl rfl rfl ?_
    refine wp_if1 rfl rfl rfl (fun (c3 : (M 321 2) ≠ 0) => ?_) (fun (c3 : ¬ ((M 321 2) ≠ 0)) => ?_)
    · refine wp_run 1 (pc' := 102) (ls' := [(2, 321), (0, x1), (3, 0)]) (st' := [(2, 321)]) rfl ?_
      refine wp_gf (pc' := 105) (t := 0) (v := (M 321 2)) rfl rfl (by decide) rfl rfl rfl ?_
      refine wp_if1 rfl rfl rfl (fun (c4 : (M 321 2) ≤ 0) => ?_) (fun (c4 : ¬ ((M 321 2) ≤ 0)) => ?_)
      · refine wp_run 1 (pc' := 110) (ls' := [(2, 321), (0, x1), (3, 0)]) (st' := [(2, 321)]) rfl ?_
        refine wp_callv (pc' := 113) (as := [(2, 321)]) (rest := []) (ls1 := [(2, 321)]) rfl rfl rfl rfl rfl rfl ?_
        exact l3 c1 c3 c4
      · exact wp_ret rfl rfl (l4 c1 c3 c4)
    · refine wp_run 2 (pc' := 17) (ls' := [(2, 321), (0, x1), (3, 0)]) (st' := [(1, 7237492), (2, 321)]) rfl ?_
      refine wp_callv (pc' := 20) (as := [(2, 321), (1, 7237492)]) (rest := []) (ls1 := [(2, 321), (1, 7237492), (3, 0)]) rfl rfl rfl rfl rfl rfl ?_
      refine s_X10_isWord  ?_
      show wp xs _ mX10_unit 20 [(2, 321), (0, x1), (3, 0)] [(0, (z_b (M 321 6 = 1 ∧ M 321 9 = 7237492)))] z_LL M _
      refine wp_be rfl rfl rfl (fun (c5 : ¬ (M 321 6 = 1 ∧ M 321 9 = 7237492)) => ?_) (fun (c5 : (M 321 6 = 1 ∧ M 321 9 = 7237492)) => ?_)
      · refine wp_run 1 (pc' := 54) (ls' := [(2, 321), (0, x1), (3, 0)]) (st' := [(2, 321)]) rfl ?_
        refine wp_gf (pc' := 57) (t := 0) (v := (M 321 6)) rfl rfl (by decide) rfl rfl rfl ?_
        refine wp_run 1 (pc' := 59) (ls' := [(2, 321), (0, x1), (3, 0)]) (st' := [(0, 40), (0, (M 321 6))]) rfl ?_
        refine wp_if2 rfl rfl rfl (fun (c6 : (M 321 6) ≠ 40) => ?_) (fun (c6 : ¬ ((M 321 6) ≠ 40)) => ?_)
        · refine wp_run 3 (pc' := 2) (ls' := [(2, 321), (0, 0), (3, 0)]) (st' := []) rfl ?_
          exact l5 c1 c3 c5 c6
        · refine wp_run 1 (pc' := 63) (ls' := [(2, 321), (0, x1), (3, 0)]) (st' := [(2, 321)]) rfl ?_
          refine wp_callv (pc' := 66) (as := [(2, 321)]) (rest := []) (ls1 := [(2, 321)]) rfl rfl rfl rfl rfl rfl ?_
          exact l6 c1 c3 c5 c6
      · refine wp_run 1 (pc' := 24) (ls' := [(2, 321), (0, x1), (3, 0)]) (st' := [(2, 321)]) rfl ?_
        refine wp_callv (pc' := 27) (as := [(2, 321)]) (rest := []) (ls1 := [(2, 321)]) rfl rfl rfl rfl rfl rfl ?_
        exact l7 c1 c3 c5
set_option maxRecDepth 20000 in
theorem gX10_unit_27 {xs : List Int} {d : Nat} {M : z_M} {P : Option z_V → z_L → z_M → Prop} {x1 : Int} {s0 : Int} 
    (l1 : (s0 = 0) → ((M 321 6) ≠ 40) → wp xs (d + 1) mX10_unit 2 [(2, 321), (0, 0), (3, 0)] [] z_LL M P)
    (l2 : (s0 = 0) → (¬ ((M 321 6) ≠ 40)) → wp xs d mX10_isFull 0 [(2, 321)] [] z_LL M (fun r L1 M1 => wp xs (d + 1) mX10_unit 66 [(2, 321), (0, x1), (3, 0)] (z_ol r ++ []) L1 M1 P))
    (l3 : (¬ (s0 = 0)) → ((M 321 23) ≤ 6) → wp xs d mX10_openUp 0 [(2, 321), (0, 21)] [] z_LL M (fun r L1 M1 => wp xs (d + 1) mX10_unit 50 [(2, 321), (0, x1), (3, 0)] (z_ol r ++ []) L1 M1 P))
    (l4 : (¬ (s0 = 0)) → (¬ ((M 321 23) ≤ 6)) → wp xs d mX10_wrong 0 [(2, 321), (0, 2)] [] z_LL M (fun r L1 M1 => wp xs (d + 1) mX10_unit 44 [(2, 321), (0, x1), (3, 0)] (z_ol r ++ []) L1 M1 P)) :
    wp xs (d + 1) mX10_unit 27 [(2, 321), (0, x1), (3, 0)] [(0, s0)] z_LL M P := by
  refine wp_if1 rfl rfl rfl (fun (c1 : s0 = 0) => ?_) (fun (c1 : ¬ (s0 = 0)) => ?_)
  · refine wp_run 1 (pc' := 54) (ls' := [(2, 321), (0, x1), (3, 0)]) (st' := [(2, 321)]) rfl ?_
    refine wp_gf (pc' := 57) (t := 0) (v := (M 321 6)) rfl rfl (by decide) rfl rfl rfl ?_
    refine wp_run 1 (pc' := 59) (ls' := [(2, 321), (0, x1), (3, 0)]) (st' := [(0, 40), (0, (M 321 6))]) rfl ?_
    refine wp_if2 rfl rfl rfl (fun (c2 : (M 321 6) ≠ 40) => ?_) (fun (c2 : ¬ ((M 321 6) ≠ 40)) => ?_)
    · refine wp_run 3 (pc' := 2) (ls' := [(2, 321), (0, 0), (3, 0)]) (st' := []) rfl ?_
      exact l1 c1 c2
    · refine wp_run 1 (pc' := 63) (ls' := [(2, 321), (0, x1), (3, 0)]) (st' := [(2, 321)]) rfl ?_
      refine wp_callv (pc' := 66) (as := [(2, 321)]) (rest := []) (ls1 := [(2, 321)]) rfl rfl rfl rfl rfl rfl ?_
      exact l2 c1 c2
  · refine wp_run 1 (pc' := 31) (ls' := [(2, 321), (0, x1), (3, 0)]) (st' := [(2, 321)]) rfl ?_
    refine wp_gf (pc' := 34) (t := 0) (v := (M 321 23)) rfl rfl (by decide) rfl rfl rfl ?_
    refine wp_run 1 (pc' := 36) (ls' := [(2, 321), (0, x1), (3, 0)]) (st' := [(0, 6), (0, (M 321 23))]) rfl ?_
    refine wp_if2 rfl rfl rfl (fun (c3 : (M 321 23) ≤ 6) => ?_) (fun (c3 : ¬ ((M 321 23) ≤ 6)) => ?_)
    · refine wp_run 2 (pc' := 47) (ls' := [(2, 321), (0, x1), (3, 0)]) (st' := [(0, 21), (2, 321)]) rfl ?_
      refine wp_callv (pc' := 50) (as := [(2, 321), (0, 21)]) (rest := []) (ls1 := [(2, 321), (0, 21)]) rfl rfl rfl rfl rfl rfl ?_
      exact l3 c1 c3
    · refine wp_run 2 (pc' := 41) (ls' := [(2, 321), (0, x1), (3, 0)]) (st' := [(0, 2), (2, 321)]) rfl ?_
      refine wp_callv (pc' := 44) (as := [(2, 321), (0, 2)]) (rest := []) (ls1 := [(2, 321), (0, 2)]) rfl rfl rfl rfl rfl rfl ?_
      exact l4 c1 c3
set_option maxRecDepth 20000 in
theorem gX10_unit_44 {xs : List Int} {d : Nat} {M : z_M} {P : Option z_V → z_L → z_M → Prop} {x1 : Int} 
    (l1 : wp xs d mX10_openUp 0 [(2, 321), (0, 21)] [] z_LL M (fun r L1 M1 => wp xs (d + 1) mX10_unit 50 [(2, 321), (0, x1), (3, 0)] (z_ol r ++ []) L1 M1 P)) :
    wp xs (d + 1) mX10_unit 44 [(2, 321), (0, x1), (3, 0)] [] z_LL M P := by
  refine wp_run 2 (pc' := 47) (ls' := [(2, 321), (0, x1), (3, 0)]) (st' := [(0, 21), (2, 321)]) rfl ?_
  refine wp_callv (pc' := 50) (as := [(2, 321), (0, 21)]) (rest := []) (ls1 := [(2, 321), (0, 21)]) rfl rfl rfl rfl rfl rfl ?_
  exact l1
set_option maxRecDepth 20000 in
theorem gX10_unit_50 {xs : List Int} {d : Nat} {M : z_M} {P : Option z_V → z_L → z_M → Prop} {x1 : Int} 
    (l1 : wp xs d mX10_unit 2 [(2, 321), (0, x1), (3, 0)] [] z_LL M P) :
    wp xs d mX10_unit 50 [(2, 321), (0, x1), (3, 0)] [] z_LL M P := by
  refine wp_run 1 (pc' := 2) (ls' := [(2, 321), (0, x1), (3, 0)]) (st' := []) rfl ?_
  exact l1
set_option maxRecDepth 20000 in
theorem gX10_unit_66 {xs : List Int} {d : Nat} {M : z_M} {P : Option z_V → z_L → z_M → Prop} {x1 : Int} {s0 : Int} 
    (l1 : (s0 ≠ 0) → wp xs d mX10_wrong 0 [(2, 321), (0, 2)] [] z_LL M (fun r L1 M1 => wp xs (d + 1) mX10_unit 83 [(2, 321), (0, x1), (3, 0)] (z_ol r ++ []) L1 M1 P))
    (l2 : (¬ (s0 ≠ 0)) → ((M 321 23) ≤ 6) → wp xs d mX10_openUp 0 [(2, 321), (0, 20)] [] z_LL (z_up (z_up M 321 20 (z_w ((M 321 20) + 1))) 321 22 (z_w ((M 321 22) + 1))) (fun r L1 M1 => wp xs (d + 1) mX10_unit 93 [(2, 321), (0, x1), (3, 0)] (z_ol r ++ []) L1 M1 P))
    (l3 : (¬ (s0 ≠ 0)) → (¬ ((M 321 23) ≤ 6)) → wp xs d mX10_wrong 0 [(2, 321), (0, 2)] [] z_LL M (fun r L1 M1 => wp xs (d + 1) mX10_unit 83 [(2, 321), (0, x1), (3, 0)] (z_ol r ++ []) L1 M1 P)) :
    wp xs (d + 1) mX10_unit 66 [(2, 321), (0, x1), (3, 0)] [(0, s0)] z_LL M P := by
  refine wp_if1 rfl rfl rfl (fun (c1 : s0 ≠ 0) => ?_) (fun (c1 : ¬ (s0 ≠ 0)) => ?_)
  · refine wp_run 2 (pc' := 80) (ls' := [(2, 321), (0, x1), (3, 0)]) (st' := [(0, 2), (2, 321)]) rfl ?_
    refine wp_callv (pc' := 83) (as := [(2, 321), (0, 2)]) (rest := []) (ls1 := [(2, 321), (0, 2)]) rfl rfl rfl rfl rfl rfl ?_
    exact l1 c1
  · refine wp_run 1 (pc' := 70) (ls' := [(2, 321), (0, x1), (3, 0)]) (st' := [(2, 321)]) rfl ?_
    refine wp_gf (pc' := 73) (t := 0) (v := (M 321 23)) rfl rfl (by decide) rfl rfl rfl ?_
    refine wp_run 1 (pc' := 75) (ls' := [(2, 321), (0, x1), (3, 0)]) (st' := [(0, 6), (0, (M 321 23))]) rfl ?_
    refine wp_if2 rfl rfl rfl (fun (c2 : (M 321 23) ≤ 6) => ?_) (fun (c2 : ¬ ((M 321 23) ≤ 6)) => ?_)
    · refine wp_run 1 (pc' := 84) (ls' := [(2, 321), (0, x1), (3, 0)]) (st' := [(2, 321)]) rfl ?_
      refine wp_callv (pc' := 87) (as := [(2, 321)]) (rest := []) (ls1 := [(2, 321)]) rfl rfl rfl rfl rfl rfl ?_
      refine wp_run 2 (pc' := 2) (ls' := [(2, 321)]) (st' := [(2, 321), (2, 321)]) rfl ?_
      refine wp_gf (pc' := 5) (t := 0) (v := (M 321 20)) rfl rfl (by decide) rfl rfl rfl ?_
      refine wp_run 2 (pc' := 7) (ls' := [(2, 321)]) (st' := [(0, (z_w ((M 321 20) + 1))), (2, 321)]) rfl ?_
      refine wp_pf (pc' := 10) rfl rfl rfl rfl (fun z => absurd z (by decide)) (fun z => absurd z (by decide)) ?_
      refine wp_run 2 (pc' := 12) (ls' := [(2, 321)]) (st' := [(2, 321), (2, 321)]) rfl ?_
      refine wp_gf (pc' := 15) (t := 0) (v := (M 321 22)) rfl rfl (by decide) rfl rfl (z_upi (by decide) rfl) ?_
      refine wp_run 2 (pc' := 17) (ls' := [(2, 321)]) (st' := [(0, (z_w ((M 321 22) + 1))), (2, 321)]) rfl ?_
      refine wp_pf (pc' := 20) rfl rfl rfl rfl (fun z => absurd z (by decide)) (fun z => absurd z (by decide)) ?_
      refine wp_ret rfl rfl ?_
      show wp xs _ mX10_unit 87 [(2, 321), (0, x1), (3, 0)] [] z_LL (z_up (z_up M 321 20 (z_w ((M 321 20) + 1))) 321 22 (z_w ((M 321 22) + 1))) _
      refine wp_run 2 (pc' := 90) (ls' := [(2, 321), (0, x1), (3, 0)]) (st' := [(0, 20), (2, 321)]) rfl ?_
      refine wp_callv (pc' := 93) (as := [(2, 321), (0, 20)]) (rest := []) (ls1 := [(2, 321), (0, 20)]) rfl rfl rfl rfl rfl rfl ?_
      exact l2 c1 c2
    · refine wp_run 2 (pc' := 80) (ls' := [(2, 321), (0, x1), (3, 0)]) (st' := [(0, 2), (2, 321)]) rfl ?_
      refine wp_callv (pc' := 83) (as := [(2, 321), (0, 2)]) (rest := []) (ls1 := [(2, 321), (0, 2)]) rfl rfl rfl rfl rfl rfl ?_
      exact l3 c1 c2
set_option maxRecDepth 20000 in
theorem gX10_unit_83 {xs : List Int} {d : Nat} {M : z_M} {P : Option z_V → z_L → z_M → Prop} {x1 : Int} 
    (l1 : wp xs d mX10_openUp 0 [(2, 321), (0, 20)] [] z_LL (z_up (z_up M 321 20 (z_w ((M 321 20) + 1))) 321 22 (z_w ((M 321 22) + 1))) (fun r L1 M1 => wp xs (d + 1) mX10_unit 93 [(2, 321), (0, x1), (3, 0)] (z_ol r ++ []) L1 M1 P)) :
    wp xs (d + 1) mX10_unit 83 [(2, 321), (0, x1), (3, 0)] [] z_LL M P := by
  refine wp_run 1 (pc' := 84) (ls' := [(2, 321), (0, x1), (3, 0)]) (st' := [(2, 321)]) rfl ?_
  refine wp_callv (pc' := 87) (as := [(2, 321)]) (rest := []) (ls1 := [(2, 321)]) rfl rfl rfl rfl rfl rfl ?_
  refine wp_run 2 (pc' := 2) (ls' := [(2, 321)]) (st' := [(2, 321), (2, 321)]) rfl ?_
  refine wp_gf (pc' := 5) (t := 0) (v := (M 321 20)) rfl rfl (by decide) rfl rfl rfl ?_
  refine wp_run 2 (pc' := 7) (ls' := [(2, 321)]) (st' := [(0, (z_w ((M 321 20) + 1))), (2, 321)]) rfl ?_
  refine wp_pf (pc' := 10) rfl rfl rfl rfl (fun z => absurd z (by decide)) (fun z => absurd z (by decide)) ?_
  refine wp_run 2 (pc' := 12) (ls' := [(2, 321)]) (st' := [(2, 321), (2, 321)]) rfl ?_
  refine wp_gf (pc' := 15) (t := 0) (v := (M 321 22)) rfl rfl (by decide) rfl rfl (z_upi (by decide) rfl) ?_
  refine wp_run 2 (pc' := 17) (ls' := [(2, 321)]) (st' := [(0, (z_w ((M 321 22) + 1))), (2, 321)]) rfl ?_
  refine wp_pf (pc' := 20) rfl rfl rfl rfl (fun z => absurd z (by decide)) (fun z => absurd z (by decide)) ?_
  refine wp_ret rfl rfl ?_
  show wp xs _ mX10_unit 87 [(2, 321), (0, x1), (3, 0)] [] z_LL (z_up (z_up M 321 20 (z_w ((M 321 20) + 1))) 321 22 (z_w ((M 321 22) + 1))) _
  refine wp_run 2 (pc' := 90) (ls' := [(2, 321), (0, x1), (3, 0)]) (st' := [(0, 20), (2, 321)]) rfl ?_
  refine wp_callv (pc' := 93) (as := [(2, 321), (0, 20)]) (rest := []) (ls1 := [(2, 321), (0, 20)]) rfl rfl rfl rfl rfl rfl ?_
  exact l1
set_option maxRecDepth 20000 in
theorem gX10_unit_93 {xs : List Int} {d : Nat} {M : z_M} {P : Option z_V → z_L → z_M → Prop} {x1 : Int} 
    (l1 : wp xs d mX10_unit 2 [(2, 321), (0, x1), (3, 0)] [] z_LL M P) :
    wp xs d mX10_unit 93 [(2, 321), (0, x1), (3, 0)] [] z_LL M P := by
  refine wp_run 1 (pc' := 2) (ls' := [(2, 321), (0, x1), (3, 0)]) (st' := []) rfl ?_
  exact l1
set_option maxRecDepth 20000 in
theorem gX10_unit_113 {xs : List Int} {d : Nat} {M : z_M} {P : Option z_V → z_L → z_M → Prop} {x1 : Int} {s0 : Int} 
    (l1 : ((M 321 6) = 2) → wp xs d mX10_isFull 0 [(2, 321)] [] z_LL M (fun r L1 M1 => wp xs (d + 1) mX10_unit 130 [(2, 321), (0, x1), (0, s0)] (z_ol r ++ []) L1 M1 P))
    (l2 : (¬ ((M 321 6) = 2)) → (s0 < 0) → wp xs d mX10_wrong 0 [(2, 321), (0, 2)] [] z_LL M (fun r L1 M1 => wp xs (d + 1) mX10_unit 138 [(2, 321), (0, x1), (0, s0)] (z_ol r ++ []) L1 M1 P))
    (l3 : (¬ ((M 321 6) = 2)) → (¬ (s0 < 0)) → wp xs d mX10_isFull 0 [(2, 321)] [] z_LL M (fun r L1 M1 => wp xs (d + 1) mX10_unit 130 [(2, 321), (0, x1), (0, s0)] (z_ol r ++ []) L1 M1 P)) :
    wp xs (d + 1) mX10_unit 113 [(2, 321), (0, x1), (3, 0)] [(0, s0)] z_LL M P := by
  refine wp_run 2 (pc' := 115) (ls' := [(2, 321), (0, x1), (0, s0)]) (st' := [(2, 321)]) rfl ?_
  refine wp_gf (pc' := 118) (t := 0) (v := (M 321 6)) rfl rfl (by decide) rfl rfl rfl ?_
  refine wp_run 1 (pc' := 119) (ls' := [(2, 321), (0, x1), (0, s0)]) (st' := [(0, 2), (0, (M 321 6))]) rfl ?_
  refine wp_if2 rfl rfl rfl (fun (c1 : (M 321 6) = 2) => ?_) (fun (c1 : ¬ ((M 321 6) = 2)) => ?_)
  · refine wp_run 1 (pc' := 127) (ls' := [(2, 321), (0, x1), (0, s0)]) (st' := [(2, 321)]) rfl ?_
    refine wp_callv (pc' := 130) (as := [(2, 321)]) (rest := []) (ls1 := [(2, 321)]) rfl rfl rfl rfl rfl rfl ?_
    exact l1 c1
  · refine wp_run 1 (pc' := 123) (ls' := [(2, 321), (0, x1), (0, s0)]) (st' := [(0, s0)]) rfl ?_
    refine wp_if1 rfl rfl rfl (fun (c2 : s0 < 0) => ?_) (fun (c2 : ¬ (s0 < 0)) => ?_)
    · refine wp_run 2 (pc' := 135) (ls' := [(2, 321), (0, x1), (0, s0)]) (st' := [(0, 2), (2, 321)]) rfl ?_
      refine wp_callv (pc' := 138) (as := [(2, 321), (0, 2)]) (rest := []) (ls1 := [(2, 321), (0, 2)]) rfl rfl rfl rfl rfl rfl ?_
      exact l2 c1 c2
    · refine wp_run 1 (pc' := 127) (ls' := [(2, 321), (0, x1), (0, s0)]) (st' := [(2, 321)]) rfl ?_
      refine wp_callv (pc' := 130) (as := [(2, 321)]) (rest := []) (ls1 := [(2, 321)]) rfl rfl rfl rfl rfl rfl ?_
      exact l3 c1 c2
set_option maxRecDepth 20000 in
theorem gX10_unit_130 {xs : List Int} {d : Nat} {M : z_M} {P : Option z_V → z_L → z_M → Prop} {x1 : Int} {x2 : Int} {s0 : Int} (hF : z_fix M) 
    (b1 : (s0 = 0) → ((M 321 2) ≤ 0) → (0 ≤ x2) → (0 ≤ x2) → 0 ≤ (M 321 17) ∧ (M 321 17) < 320)
    (l1 : (s0 = 0) → ((M 321 2) ≤ 0) → (0 ≤ x2) → (0 ≤ x2) → wp xs d mX10_token 0 [(2, 321), (3, 0), (3, 0)] [] z_LL (z_up (z_up (z_up (z_up (z_up M 321 20 (z_w ((M 321 20) + 1))) 321 22 (z_w ((M 321 22) + 1))) 324 (M 321 17) 1) 325 (M 321 17) x2) 321 17 (z_w ((M 321 17) + 1))) (fun r L1 M1 => wp xs (d + 1) mX10_unit 179 [(2, 321), (0, x1), (0, x2)] (z_ol r ++ []) L1 M1 P))
    (b2 : (s0 = 0) → ((M 321 2) ≤ 0) → (0 ≤ x2) → (¬ (0 ≤ x2)) → 0 ≤ (M 321 17) ∧ (M 321 17) < 320)
    (l2 : (s0 = 0) → ((M 321 2) ≤ 0) → (0 ≤ x2) → (¬ (0 ≤ x2)) → wp xs d mX10_token 0 [(2, 321), (3, 0), (3, 0)] [] z_LL (z_up (z_up (z_up (z_up (z_up M 321 20 (z_w ((M 321 20) + 1))) 321 22 (z_w ((M 321 22) + 1))) 324 (M 321 17) 1) 325 (M 321 17) (M 321 8)) 321 17 (z_w ((M 321 17) + 1))) (fun r L1 M1 => wp xs (d + 1) mX10_unit 179 [(2, 321), (0, x1), (0, x2)] (z_ol r ++ []) L1 M1 P))
    (b3 : (s0 = 0) → ((M 321 2) ≤ 0) → (¬ (0 ≤ x2)) → (0 ≤ x2) → 0 ≤ (M 321 17) ∧ (M 321 17) < 320)
    (l3 : (s0 = 0) → ((M 321 2) ≤ 0) → (¬ (0 ≤ x2)) → (0 ≤ x2) → wp xs d mX10_token 0 [(2, 321), (3, 0), (3, 0)] [] z_LL (z_up (z_up (z_up (z_up (z_up M 321 20 (z_w ((M 321 20) + 1))) 321 22 (z_w ((M 321 22) + 1))) 324 (M 321 17) 0) 325 (M 321 17) x2) 321 17 (z_w ((M 321 17) + 1))) (fun r L1 M1 => wp xs (d + 1) mX10_unit 179 [(2, 321), (0, x1), (0, x2)] (z_ol r ++ []) L1 M1 P))
    (b4 : (s0 = 0) → ((M 321 2) ≤ 0) → (¬ (0 ≤ x2)) → (¬ (0 ≤ x2)) → 0 ≤ (M 321 17) ∧ (M 321 17) < 320)
    (l4 : (s0 = 0) → ((M 321 2) ≤ 0) → (¬ (0 ≤ x2)) → (¬ (0 ≤ x2)) → wp xs d mX10_token 0 [(2, 321), (3, 0), (3, 0)] [] z_LL (z_up (z_up (z_up (z_up (z_up M 321 20 (z_w ((M 321 20) + 1))) 321 22 (z_w ((M 321 22) + 1))) 324 (M 321 17) 0) 325 (M 321 17) (M 321 8)) 321 17 (z_w ((M 321 17) + 1))) (fun r L1 M1 => wp xs (d + 1) mX10_unit 179 [(2, 321), (0, x1), (0, x2)] (z_ol r ++ []) L1 M1 P))
    (l5 : (s0 = 0) → (¬ ((M 321 2) ≤ 0)) → P none z_LL M)
    (l6 : (¬ (s0 = 0)) → wp xs d mX10_wrong 0 [(2, 321), (0, 2)] [] z_LL M (fun r L1 M1 => wp xs (d + 1) mX10_unit 138 [(2, 321), (0, x1), (0, x2)] (z_ol r ++ []) L1 M1 P)) :
    wp xs (d + 1) mX10_unit 130 [(2, 321), (0, x1), (0, x2)] [(0, s0)] z_LL M P := by
  refine wp_if1 rfl rfl rfl (fun (c1 : s0 = 0) => ?_) (fun (c1 : ¬ (s0 = 0)) => ?_)
  · refine wp_run 1 (pc' := 139) (ls' := [(2, 321), (0, x1), (0, x2)]) (st' := [(2, 321)]) rfl ?_
    refine wp_gf (pc' := 142) (t := 0) (v := (M 321 2)) rfl rfl (by decide) rfl rfl rfl ?_
    refine wp_if1 rfl rfl rfl (fun (c2 : (M 321 2) ≤ 0) => ?_) (fun (c2 : ¬ ((M 321 2) ≤ 0)) => ?_)
    · refine wp_run 1 (pc' := 147) (ls' := [(2, 321), (0, x1), (0, x2)]) (st' := [(2, 321)]) rfl ?_
      refine wp_callv (pc' := 150) (as := [(2, 321)]) (rest := []) (ls1 := [(2, 321)]) rfl rfl rfl rfl rfl rfl ?_
      refine wp_run 2 (pc' := 2) (ls' := [(2, 321)]) (st' := [(2, 321), (2, 321)]) rfl ?_
      refine wp_gf (pc' := 5) (t := 0) (v := (M 321 20)) rfl rfl (by decide) rfl rfl rfl ?_
      refine wp_run 2 (pc' := 7) (ls' := [(2, 321)]) (st' := [(0, (z_w ((M 321 20) + 1))), (2, 321)]) rfl ?_
      refine wp_pf (pc' := 10) rfl rfl rfl rfl (fun z => absurd z (by decide)) (fun z => absurd z (by decide)) ?_
      refine wp_run 2 (pc' := 12) (ls' := [(2, 321)]) (st' := [(2, 321), (2, 321)]) rfl ?_
      refine wp_gf (pc' := 15) (t := 0) (v := (M 321 22)) rfl rfl (by decide) rfl rfl (z_upi (by decide) rfl) ?_
      refine wp_run 2 (pc' := 17) (ls' := [(2, 321)]) (st' := [(0, (z_w ((M 321 22) + 1))), (2, 321)]) rfl ?_
      refine wp_pf (pc' := 20) rfl rfl rfl rfl (fun z => absurd z (by decide)) (fun z => absurd z (by decide)) ?_
      refine wp_ret rfl rfl ?_
      show wp xs _ mX10_unit 150 [(2, 321), (0, x1), (0, x2)] [] z_LL (z_up (z_up M 321 20 (z_w ((M 321 20) + 1))) 321 22 (z_w ((M 321 22) + 1))) _
      refine wp_run 2 (pc' := 152) (ls' := [(2, 321), (0, x1), (0, x2)]) (st' := [(0, x2), (2, 321)]) rfl ?_
      refine wp_if1 rfl rfl rfl (fun (c3 : 0 ≤ x2) => ?_) (fun (c3 : ¬ (0 ≤ x2)) => ?_)
      · refine wp_run 2 (pc' := 161) (ls' := [(2, 321), (0, x1), (0, x2)]) (st' := [(0, x2), (0, 1), (2, 321)]) rfl ?_
        refine wp_if1 rfl rfl rfl (fun (c4 : 0 ≤ x2) => ?_) (fun (c4 : ¬ (0 ≤ x2)) => ?_)
        · refine wp_run 1 (pc' := 172) (ls' := [(2, 321), (0, x1), (0, x2)]) (st' := [(0, x2), (0, 1), (2, 321)]) rfl ?_
          refine wp_callv (pc' := 175) (as := [(2, 321), (0, 1), (0, x2)]) (rest := []) (ls1 := [(2, 321), (0, 1), (0, x2)]) rfl rfl rfl rfl rfl rfl ?_
          refine wp_run 1 (pc' := 1) (ls' := [(2, 321), (0, 1), (0, x2)]) (st' := [(2, 321)]) rfl ?_
          refine wp_gf (pc' := 4) (t := 2) (v := 324) rfl rfl (by decide) rfl rfl (z_upi (by decide) (z_upi (by decide) (fx_321_11 hF))) ?_
          refine wp_run 1 (pc' := 5) (ls' := [(2, 321), (0, 1), (0, x2)]) (st' := [(2, 321), (2, 324)]) rfl ?_
          refine wp_gf (pc' := 8) (t := 0) (v := (M 321 17)) rfl rfl (by decide) rfl rfl (z_upi (by decide) (z_upi (by decide) rfl)) ?_
          refine wp_run 1 (pc' := 9) (ls' := [(2, 321), (0, 1), (0, x2)]) (st' := [(0, 1), (0, (M 321 17)), (2, 324)]) rfl ?_
          refine wp_iast (pc' := 10) rfl rfl rfl (b1 c1 c2 c3 c4) ?_
          refine wp_run 1 (pc' := 11) (ls' := [(2, 321), (0, 1), (0, x2)]) (st' := [(2, 321)]) rfl ?_
          refine wp_gf (pc' := 14) (t := 2) (v := 325) rfl rfl (by decide) rfl rfl (z_upq (by decide) (z_upi (by decide) (z_upi (by decide) (fx_321_12 hF)))) ?_
          refine wp_run 1 (pc' := 15) (ls' := [(2, 321), (0, 1), (0, x2)]) (st' := [(2, 321), (2, 325)]) rfl ?_
          refine wp_gf (pc' := 18) (t := 0) (v := (M 321 17)) rfl rfl (by decide) rfl rfl (z_upq (by decide) (z_upi (by decide) (z_upi (by decide) rfl))) ?_
          refine wp_run 1 (pc' := 19) (ls' := [(2, 321), (0, 1), (0, x2)]) (st' := [(0, x2), (0, (M 321 17)), (2, 325)]) rfl ?_
          refine wp_iast (pc' := 20) rfl rfl rfl (b1 c1 c2 c3 c4) ?_
          refine wp_run 2 (pc' := 22) (ls' := [(2, 321), (0, 1), (0, x2)]) (st' := [(2, 321), (2, 321)]) rfl ?_
          refine wp_gf (pc' := 25) (t := 0) (v := (M 321 17)) rfl rfl (by decide) rfl rfl (z_upq (by decide) (z_upq (by decide) (z_upi (by decide) (z_upi (by decide) rfl)))) ?_
          refine wp_run 2 (pc' := 27) (ls' := [(2, 321), (0, 1), (0, x2)]) (st' := [(0, (z_w ((M 321 17) + 1))), (2, 321)]) rfl ?_
          refine wp_pf (pc' := 30) rfl rfl rfl rfl (fun z => absurd z (by decide)) (fun z => absurd z (by decide)) ?_
          refine wp_ret rfl rfl ?_
          show wp xs _ mX10_unit 175 [(2, 321), (0, x1), (0, x2)] [] z_LL (z_up (z_up (z_up (z_up (z_up M 321 20 (z_w ((M 321 20) + 1))) 321 22 (z_w ((M 321 22) + 1))) 324 (M 321 17) 1) 325 (M 321 17) x2) 321 17 (z_w ((M 321 17) + 1))) _
          refine wp_run 1 (pc' := 176) (ls' := [(2, 321), (0, x1), (0, x2)]) (st' := [(2, 321)]) rfl ?_
          refine wp_callv (pc' := 179) (as := [(2, 321)]) (rest := []) (ls1 := [(2, 321), (3, 0), (3, 0)]) rfl rfl rfl rfl rfl rfl ?_
          exact l1 c1 c2 c3 c4
        · refine wp_run 1 (pc' := 165) (ls' := [(2, 321), (0, x1), (0, x2)]) (st' := [(2, 321), (0, 1), (2, 321)]) rfl ?_
          refine wp_gf (pc' := 168) (t := 0) (v := (M 321 8)) rfl rfl (by decide) rfl rfl (z_upi (by decide) (z_upi (by decide) rfl)) ?_
          refine wp_run 1 (pc' := 172) (ls' := [(2, 321), (0, x1), (0, x2)]) (st' := [(0, (M 321 8)), (0, 1), (2, 321)]) rfl ?_
          refine wp_callv (pc' := 175) (as := [(2, 321), (0, 1), (0, (M 321 8))]) (rest := []) (ls1 := [(2, 321), (0, 1), (0, (M 321 8))]) rfl rfl rfl rfl rfl rfl ?_
          refine wp_run 1 (pc' := 1) (ls' := [(2, 321), (0, 1), (0, (M 321 8))]) (st' := [(2, 321)]) rfl ?_
          refine wp_gf (pc' := 4) (t := 2) (v := 324) rfl rfl (by decide) rfl rfl (z_upi (by decide) (z_upi (by decide) (fx_321_11 hF))) ?_
          refine wp_run 1 (pc' := 5) (ls' := [(2, 321), (0, 1), (0, (M 321 8))]) (st' := [(2, 321), (2, 324)]) rfl ?_
          refine wp_gf (pc' := 8) (t := 0) (v := (M 321 17)) rfl rfl (by decide) rfl rfl (z_upi (by decide) (z_upi (by decide) rfl)) ?_
          refine wp_run 1 (pc' := 9) (ls' := [(2, 321), (0, 1), (0, (M 321 8))]) (st' := [(0, 1), (0, (M 321 17)), (2, 324)]) rfl ?_
          refine wp_iast (pc' := 10) rfl rfl rfl (b2 c1 c2 c3 c4) ?_
          refine wp_run 1 (pc' := 11) (ls' := [(2, 321), (0, 1), (0, (M 321 8))]) (st' := [(2, 321)]) rfl ?_
          refine wp_gf (pc' := 14) (t := 2) (v := 325) rfl rfl (by decide) rfl rfl (z_upq (by decide) (z_upi (by decide) (z_upi (by decide) (fx_321_12 hF)))) ?_
          refine wp_run 1 (pc' := 15) (ls' := [(2, 321), (0, 1), (0, (M 321 8))]) (st' := [(2, 321), (2, 325)]) rfl ?_
          refine wp_gf (pc' := 18) (t := 0) (v := (M 321 17)) rfl rfl (by decide) rfl rfl (z_upq (by decide) (z_upi (by decide) (z_upi (by decide) rfl))) ?_
          refine wp_run 1 (pc' := 19) (ls' := [(2, 321), (0, 1), (0, (M 321 8))]) (st' := [(0, (M 321 8)), (0, (M 321 17)), (2, 325)]) rfl ?_
          refine wp_iast (pc' := 20) rfl rfl rfl (b2 c1 c2 c3 c4) ?_
          refine wp_run 2 (pc' := 22) (ls' := [(2, 321), (0, 1), (0, (M 321 8))]) (st' := [(2, 321), (2, 321)]) rfl ?_
          refine wp_gf (pc' := 25) (t := 0) (v := (M 321 17)) rfl rfl (by decide) rfl rfl (z_upq (by decide) (z_upq (by decide) (z_upi (by decide) (z_upi (by decide) rfl)))) ?_
          refine wp_run 2 (pc' := 27) (ls' := [(2, 321), (0, 1), (0, (M 321 8))]) (st' := [(0, (z_w ((M 321 17) + 1))), (2, 321)]) rfl ?_
          refine wp_pf (pc' := 30) rfl rfl rfl rfl (fun z => absurd z (by decide)) (fun z => absurd z (by decide)) ?_
          refine wp_ret rfl rfl ?_
          show wp xs _ mX10_unit 175 [(2, 321), (0, x1), (0, x2)] [] z_LL (z_up (z_up (z_up (z_up (z_up M 321 20 (z_w ((M 321 20) + 1))) 321 22 (z_w ((M 321 22) + 1))) 324 (M 321 17) 1) 325 (M 321 17) (M 321 8)) 321 17 (z_w ((M 321 17) + 1))) _
          refine wp_run 1 (pc' := 176) (ls' := [(2, 321), (0, x1), (0, x2)]) (st' := [(2, 321)]) rfl ?_
          refine wp_callv (pc' := 179) (as := [(2, 321)]) (rest := []) (ls1 := [(2, 321), (3, 0), (3, 0)]) rfl rfl rfl rfl rfl rfl ?_
          exact l2 c1 c2 c3 c4
      · refine wp_run 3 (pc' := 161) (ls' := [(2, 321), (0, x1), (0, x2)]) (st' := [(0, x2), (0, 0), (2, 321)]) rfl ?_
        refine wp_if1 rfl rfl rfl (fun (c5 : 0 ≤ x2) => ?_) (fun (c5 : ¬ (0 ≤ x2)) => ?_)
        · refine wp_run 1 (pc' := 172) (ls' := [(2, 321), (0, x1), (0, x2)]) (st' := [(0, x2), (0, 0), (2, 321)]) rfl ?_
          refine wp_callv (pc' := 175) (as := [(2, 321), (0, 0), (0, x2)]) (rest := []) (ls1 := [(2, 321), (0, 0), (0, x2)]) rfl rfl rfl rfl rfl rfl ?_
          refine wp_run 1 (pc' := 1) (ls' := [(2, 321), (0, 0), (0, x2)]) (st' := [(2, 321)]) rfl ?_
          refine wp_gf (pc' := 4) (t := 2) (v := 324) rfl rfl (by decide) rfl rfl (z_upi (by decide) (z_upi (by decide) (fx_321_11 hF))) ?_
          refine wp_run 1 (pc' := 5) (ls' := [(2, 321), (0, 0), (0, x2)]) (st' := [(2, 321), (2, 324)]) rfl ?_
          refine wp_gf (pc' := 8) (t := 0) (v := (M 321 17)) rfl rfl (by decide) rfl rfl (z_upi (by decide) (z_upi (by decide) rfl)) ?_
          refine wp_run 1 (pc' := 9) (ls' := [(2, 321), (0, 0), (0, x2)]) (st' := [(0, 0), (0, (M 321 17)), (2, 324)]) rfl ?_
          refine wp_iast (pc' := 10) rfl rfl rfl (b3 c1 c2 c3 c5) ?_
          refine wp_run 1 (pc' := 11) (ls' := [(2, 321), (0, 0), (0, x2)]) (st' := [(2, 321)]) rfl ?_
          refine wp_gf (pc' := 14) (t := 2) (v := 325) rfl rfl (by decide) rfl rfl (z_upq (by decide) (z_upi (by decide) (z_upi (by decide) (fx_321_12 hF)))) ?_
          refine wp_run 1 (pc' := 15) (ls' := [(2, 321), (0, 0), (0, x2)]) (st' := [(2, 321), (2, 325)]) rfl ?_
          refine wp_gf (pc' := 18) (t := 0) (v := (M 321 17)) rfl rfl (by decide) rfl rfl (z_upq (by decide) (z_upi (by decide) (z_upi (by decide) rfl))) ?_
          refine wp_run 1 (pc' := 19) (ls' := [(2, 321), (0, 0), (0, x2)]) (st' := [(0, x2), (0, (M 321 17)), (2, 325)]) rfl ?_
          refine wp_iast (pc' := 20) rfl rfl rfl (b3 c1 c2 c3 c5) ?_
          refine wp_run 2 (pc' := 22) (ls' := [(2, 321), (0, 0), (0, x2)]) (st' := [(2, 321), (2, 321)]) rfl ?_
          refine wp_gf (pc' := 25) (t := 0) (v := (M 321 17)) rfl rfl (by decide) rfl rfl (z_upq (by decide) (z_upq (by decide) (z_upi (by decide) (z_upi (by decide) rfl)))) ?_
          refine wp_run 2 (pc' := 27) (ls' := [(2, 321), (0, 0), (0, x2)]) (st' := [(0, (z_w ((M 321 17) + 1))), (2, 321)]) rfl ?_
          refine wp_pf (pc' := 30) rfl rfl rfl rfl (fun z => absurd z (by decide)) (fun z => absurd z (by decide)) ?_
          refine wp_ret rfl rfl ?_
          show wp xs _ mX10_unit 175 [(2, 321), (0, x1), (0, x2)] [] z_LL (z_up (z_up (z_up (z_up (z_up M 321 20 (z_w ((M 321 20) + 1))) 321 22 (z_w ((M 321 22) + 1))) 324 (M 321 17) 0) 325 (M 321 17) x2) 321 17 (z_w ((M 321 17) + 1))) _
          refine wp_run 1 (pc' := 176) (ls' := [(2, 321), (0, x1), (0, x2)]) (st' := [(2, 321)]) rfl ?_
          refine wp_callv (pc' := 179) (as := [(2, 321)]) (rest := []) (ls1 := [(2, 321), (3, 0), (3, 0)]) rfl rfl rfl rfl rfl rfl ?_
          exact l3 c1 c2 c3 c5
        · refine wp_run 1 (pc' := 165) (ls' := [(2, 321), (0, x1), (0, x2)]) (st' := [(2, 321), (0, 0), (2, 321)]) rfl ?_
          refine wp_gf (pc' := 168) (t := 0) (v := (M 321 8)) rfl rfl (by decide) rfl rfl (z_upi (by decide) (z_upi (by decide) rfl)) ?_
          refine wp_run 1 (pc' := 172) (ls' := [(2, 321), (0, x1), (0, x2)]) (st' := [(0, (M 321 8)), (0, 0), (2, 321)]) rfl ?_
          refine wp_callv (pc' := 175) (as := [(2, 321), (0, 0), (0, (M 321 8))]) (rest := []) (ls1 := [(2, 321), (0, 0), (0, (M 321 8))]) rfl rfl rfl rfl rfl rfl ?_
          refine wp_run 1 (pc' := 1) (ls' := [(2, 321), (0, 0), (0, (M 321 8))]) (st' := [(2, 321)]) rfl ?_
          refine wp_gf (pc' := 4) (t := 2) (v := 324) rfl rfl (by decide) rfl rfl (z_upi (by decide) (z_upi (by decide) (fx_321_11 hF))) ?_
          refine wp_run 1 (pc' := 5) (ls' := [(2, 321), (0, 0), (0, (M 321 8))]) (st' := [(2, 321), (2, 324)]) rfl ?_
          refine wp_gf (pc' := 8) (t := 0) (v := (M 321 17)) rfl rfl (by decide) rfl rfl (z_upi (by decide) (z_upi (by decide) rfl)) ?_
          refine wp_run 1 (pc' := 9) (ls' := [(2, 321), (0, 0), (0, (M 321 8))]) (st' := [(0, 0), (0, (M 321 17)), (2, 324)]) rfl ?_
          refine wp_iast (pc' := 10) rfl rfl rfl (b4 c1 c2 c3 c5) ?_
          refine wp_run 1 (pc' := 11) (ls' := [(2, 321), (0, 0), (0, (M 321 8))]) (st' := [(2, 321)]) rfl ?_
          refine wp_gf (pc' := 14) (t := 2) (v := 325) rfl rfl (by decide) rfl rfl (z_upq (by decide) (z_upi (by decide) (z_upi (by decide) (fx_321_12 hF)))) ?_
          refine wp_run 1 (pc' := 15) (ls' := [(2, 321), (0, 0), (0, (M 321 8))]) (st' := [(2, 321), (2, 325)]) rfl ?_
          refine wp_gf (pc' := 18) (t := 0) (v := (M 321 17)) rfl rfl (by decide) rfl rfl (z_upq (by decide) (z_upi (by decide) (z_upi (by decide) rfl))) ?_
          refine wp_run 1 (pc' := 19) (ls' := [(2, 321), (0, 0), (0, (M 321 8))]) (st' := [(0, (M 321 8)), (0, (M 321 17)), (2, 325)]) rfl ?_
          refine wp_iast (pc' := 20) rfl rfl rfl (b4 c1 c2 c3 c5) ?_
          refine wp_run 2 (pc' := 22) (ls' := [(2, 321), (0, 0), (0, (M 321 8))]) (st' := [(2, 321), (2, 321)]) rfl ?_
          refine wp_gf (pc' := 25) (t := 0) (v := (M 321 17)) rfl rfl (by decide) rfl rfl (z_upq (by decide) (z_upq (by decide) (z_upi (by decide) (z_upi (by decide) rfl)))) ?_
          refine wp_run 2 (pc' := 27) (ls' := [(2, 321), (0, 0), (0, (M 321 8))]) (st' := [(0, (z_w ((M 321 17) + 1))), (2, 321)]) rfl ?_
          refine wp_pf (pc' := 30) rfl rfl rfl rfl (fun z => absurd z (by decide)) (fun z => absurd z (by decide)) ?_
          refine wp_ret rfl rfl ?_
          show wp xs _ mX10_unit 175 [(2, 321), (0, x1), (0, x2)] [] z_LL (z_up (z_up (z_up (z_up (z_up M 321 20 (z_w ((M 321 20) + 1))) 321 22 (z_w ((M 321 22) + 1))) 324 (M 321 17) 0) 325 (M 321 17) (M 321 8)) 321 17 (z_w ((M 321 17) + 1))) _
          refine wp_run 1 (pc' := 176) (ls' := [(2, 321), (0, x1), (0, x2)]) (st' := [(2, 321)]) rfl ?_
          refine wp_callv (pc' := 179) (as := [(2, 321)]) (rest := []) (ls1 := [(2, 321), (3, 0), (3, 0)]) rfl rfl rfl rfl rfl rfl ?_
          exact l4 c1 c2 c3 c5
    · exact wp_ret rfl rfl (l5 c1 c2)
  · refine wp_run 2 (pc' := 135) (ls' := [(2, 321), (0, x1), (0, x2)]) (st' := [(0, 2), (2, 321)]) rfl ?_
    refine wp_callv (pc' := 138) (as := [(2, 321), (0, 2)]) (rest := []) (ls1 := [(2, 321), (0, 2)]) rfl rfl rfl rfl rfl rfl ?_
    exact l6 c1
set_option maxRecDepth 20000 in
theorem gX10_unit_138 {xs : List Int} {d : Nat} {M : z_M} {P : Option z_V → z_L → z_M → Prop} {x1 : Int} {x2 : Int} (hF : z_fix M) 
    (b1 : ((M 321 2) ≤ 0) → (0 ≤ x2) → (0 ≤ x2) → 0 ≤ (M 321 17) ∧ (M 321 17) < 320)
    (l1 : ((M 321 2) ≤ 0) → (0 ≤ x2) → (0 ≤ x2) → wp xs d mX10_token 0 [(2, 321), (3, 0), (3, 0)] [] z_LL (z_up (z_up (z_up (z_up (z_up M 321 20 (z_w ((M 321 20) + 1))) 321 22 (z_w ((M 321 22) + 1))) 324 (M 321 17) 1) 325 (M 321 17) x2) 321 17 (z_w ((M 321 17) + 1))) (fun r L1 M1 => wp xs (d + 1) mX10_unit 179 [(2, 321), (0, x1), (0, x2)] (z_ol r ++ []) L1 M1 P))
    (b2 : ((M 321 2) ≤ 0) → (0 ≤ x2) → (¬ (0 ≤ x2)) → 0 ≤ (M 321 17) ∧ (M 321 17) < 320)
    (l2 : ((M 321 2) ≤ 0) → (0 ≤ x2) → (¬ (0 ≤ x2)) → wp xs d mX10_token 0 [(2, 321), (3, 0), (3, 0)] [] z_LL (z_up (z_up (z_up (z_up (z_up M 321 20 (z_w ((M 321 20) + 1))) 321 22 (z_w ((M 321 22) + 1))) 324 (M 321 17) 1) 325 (M 321 17) (M 321 8)) 321 17 (z_w ((M 321 17) + 1))) (fun r L1 M1 => wp xs (d + 1) mX10_unit 179 [(2, 321), (0, x1), (0, x2)] (z_ol r ++ []) L1 M1 P))
    (b3 : ((M 321 2) ≤ 0) → (¬ (0 ≤ x2)) → (0 ≤ x2) → 0 ≤ (M 321 17) ∧ (M 321 17) < 320)
    (l3 : ((M 321 2) ≤ 0) → (¬ (0 ≤ x2)) → (0 ≤ x2) → wp xs d mX10_token 0 [(2, 321), (3, 0), (3, 0)] [] z_LL (z_up (z_up (z_up (z_up (z_up M 321 20 (z_w ((M 321 20) + 1))) 321 22 (z_w ((M 321 22) + 1))) 324 (M 321 17) 0) 325 (M 321 17) x2) 321 17 (z_w ((M 321 17) + 1))) (fun r L1 M1 => wp xs (d + 1) mX10_unit 179 [(2, 321), (0, x1), (0, x2)] (z_ol r ++ []) L1 M1 P))
    (b4 : ((M 321 2) ≤ 0) → (¬ (0 ≤ x2)) → (¬ (0 ≤ x2)) → 0 ≤ (M 321 17) ∧ (M 321 17) < 320)
    (l4 : ((M 321 2) ≤ 0) → (¬ (0 ≤ x2)) → (¬ (0 ≤ x2)) → wp xs d mX10_token 0 [(2, 321), (3, 0), (3, 0)] [] z_LL (z_up (z_up (z_up (z_up (z_up M 321 20 (z_w ((M 321 20) + 1))) 321 22 (z_w ((M 321 22) + 1))) 324 (M 321 17) 0) 325 (M 321 17) (M 321 8)) 321 17 (z_w ((M 321 17) + 1))) (fun r L1 M1 => wp xs (d + 1) mX10_unit 179 [(2, 321), (0, x1), (0, x2)] (z_ol r ++ []) L1 M1 P))
    (l5 : (¬ ((M 321 2) ≤ 0)) → P none z_LL M) :
    wp xs (d + 1) mX10_unit 138 [(2, 321), (0, x1), (0, x2)] [] z_LL M P := by
  refine wp_run 1 (pc' := 139) (ls' := [(2, 321), (0, x1), (0, x2)]) (st' := [(2, 321)]) rfl ?_
  refine wp_gf (pc' := 142) (t := 0) (v := (M 321 2)) rfl rfl (by decide) rfl rfl rfl ?_
  refine wp_if1 rfl rfl rfl (fun (c1 : (M 321 2) ≤ 0) => ?_) (fun (c1 : ¬ ((M 321 2) ≤ 0)) => ?_)
  · refine wp_run 1 (pc' := 147) (ls' := [(2, 321), (0, x1), (0, x2)]) (st' := [(2, 321)]) rfl ?_
    refine wp_callv (pc' := 150) (as := [(2, 321)]) (rest := []) (ls1 := [(2, 321)]) rfl rfl rfl rfl rfl rfl ?_
    refine wp_run 2 (pc' := 2) (ls' := [(2, 321)]) (st' := [(2, 321), (2, 321)]) rfl ?_
    refine wp_gf (pc' := 5) (t := 0) (v := (M 321 20)) rfl rfl (by decide) rfl rfl rfl ?_
    refine wp_run 2 (pc' := 7) (ls' := [(2, 321)]) (st' := [(0, (z_w ((M 321 20) + 1))), (2, 321)]) rfl ?_
    refine wp_pf (pc' := 10) rfl rfl rfl rfl (fun z => absurd z (by decide)) (fun z => absurd z (by decide)) ?_
    refine wp_run 2 (pc' := 12) (ls' := [(2, 321)]) (st' := [(2, 321), (2, 321)]) rfl ?_
    refine wp_gf (pc' := 15) (t := 0) (v := (M 321 22)) rfl rfl (by decide) rfl rfl (z_upi (by decide) rfl) ?_
    refine wp_run 2 (pc' := 17) (ls' := [(2, 321)]) (st' := [(0, (z_w ((M 321 22) + 1))), (2, 321)]) rfl ?_
    refine wp_pf (pc' := 20) rfl rfl rfl rfl (fun z => absurd z (by decide)) (fun z => absurd z (by decide)) ?_
    refine wp_ret rfl rfl ?_
    show wp xs _ mX10_unit 150 [(2, 321), (0, x1), (0, x2)] [] z_LL (z_up (z_up M 321 20 (z_w ((M 321 20) + 1))) 321 22 (z_w ((M 321 22) + 1))) _
    refine wp_run 2 (pc' := 152) (ls' := [(2, 321), (0, x1), (0, x2)]) (st' := [(0, x2), (2, 321)]) rfl ?_
    refine wp_if1 rfl rfl rfl (fun (c2 : 0 ≤ x2) => ?_) (fun (c2 : ¬ (0 ≤ x2)) => ?_)
    · refine wp_run 2 (pc' := 161) (ls' := [(2, 321), (0, x1), (0, x2)]) (st' := [(0, x2), (0, 1), (2, 321)]) rfl ?_
      refine wp_if1 rfl rfl rfl (fun (c3 : 0 ≤ x2) => ?_) (fun (c3 : ¬ (0 ≤ x2)) => ?_)
      · refine wp_run 1 (pc' := 172) (ls' := [(2, 321), (0, x1), (0, x2)]) (st' := [(0, x2), (0, 1), (2, 321)]) rfl ?_
        refine wp_callv (pc' := 175) (as := [(2, 321), (0, 1), (0, x2)]) (rest := []) (ls1 := [(2, 321), (0, 1), (0, x2)]) rfl rfl rfl rfl rfl rfl ?_
        refine wp_run 1 (pc' := 1) (ls' := [(2, 321), (0, 1), (0, x2)]) (st' := [(2, 321)]) rfl ?_
        refine wp_gf (pc' := 4) (t := 2) (v := 324) rfl rfl (by decide) rfl rfl (z_upi (by decide) (z_upi (by decide) (fx_321_11 hF))) ?_
        refine wp_run 1 (pc' := 5) (ls' := [(2, 321), (0, 1), (0, x2)]) (st' := [(2, 321), (2, 324)]) rfl ?_
        refine wp_gf (pc' := 8) (t := 0) (v := (M 321 17)) rfl rfl (by decide) rfl rfl (z_upi (by decide) (z_upi (by decide) rfl)) ?_
        refine wp_run 1 (pc' := 9) (ls' := [(2, 321), (0, 1), (0, x2)]) (st' := [(0, 1), (0, (M 321 17)), (2, 324)]) rfl ?_
        refine wp_iast (pc' := 10) rfl rfl rfl (b1 c1 c2 c3) ?_
        refine wp_run 1 (pc' := 11) (ls' := [(2, 321), (0, 1), (0, x2)]) (st' := [(2, 321)]) rfl ?_
        refine wp_gf (pc' := 14) (t := 2) (v := 325) rfl rfl (by decide) rfl rfl (z_upq (by decide) (z_upi (by decide) (z_upi (by decide) (fx_321_12 hF)))) ?_
        refine wp_run 1 (pc' := 15) (ls' := [(2, 321), (0, 1), (0, x2)]) (st' := [(2, 321), (2, 325)]) rfl ?_
        refine wp_gf (pc' := 18) (t := 0) (v := (M 321 17)) rfl rfl (by decide) rfl rfl (z_upq (by decide) (z_upi (by decide) (z_upi (by decide) rfl))) ?_
        refine wp_run 1 (pc' := 19) (ls' := [(2, 321), (0, 1), (0, x2)]) (st' := [(0, x2), (0, (M 321 17)), (2, 325)]) rfl ?_
        refine wp_iast (pc' := 20) rfl rfl rfl (b1 c1 c2 c3) ?_
        refine wp_run 2 (pc' := 22) (ls' := [(2, 321), (0, 1), (0, x2)]) (st' := [(2, 321), (2, 321)]) rfl ?_
        refine wp_gf (pc' := 25) (t := 0) (v := (M 321 17)) rfl rfl (by decide) rfl rfl (z_upq (by decide) (z_upq (by decide) (z_upi (by decide) (z_upi (by decide) rfl)))) ?_
        refine wp_run 2 (pc' := 27) (ls' := [(2, 321), (0, 1), (0, x2)]) (st' := [(0, (z_w ((M 321 17) + 1))), (2, 321)]) rfl ?_
        refine wp_pf (pc' := 30) rfl rfl rfl rfl (fun z => absurd z (by decide)) (fun z => absurd z (by decide)) ?_
        refine wp_ret rfl rfl ?_
        show wp xs _ mX10_unit 175 [(2, 321), (0, x1), (0, x2)] [] z_LL (z_up (z_up (z_up (z_up (z_up M 321 20 (z_w ((M 321 20) + 1))) 321 22 (z_w ((M 321 22) + 1))) 324 (M 321 17) 1) 325 (M 321 17) x2) 321 17 (z_w ((M 321 17) + 1))) _
        refine wp_run 1 (pc' := 176) (ls' := [(2, 321), (0, x1), (0, x2)]) (st' := [(2, 321)]) rfl ?_
        refine wp_callv (pc' := 179) (as := [(2, 321)]) (rest := []) (ls1 := [(2, 321), (3, 0), (3, 0)]) rfl rfl rfl rfl rfl rfl ?_
        exact l1 c1 c2 c3
      · refine wp_run 1 (pc' := 165) (ls' := [(2, 321), (0, x1), (0, x2)]) (st' := [(2, 321), (0, 1), (2, 321)]) rfl ?_
        refine wp_gf (pc' := 168) (t := 0) (v := (M 321 8)) rfl rfl (by decide) rfl rfl (z_upi (by decide) (z_upi (by decide) rfl)) ?_
        refine wp_run 1 (pc' := 172) (ls' := [(2, 321), (0, x1), (0, x2)]) (st' := [(0, (M 321 8)), (0, 1), (2, 321)]) rfl ?_
        refine wp_callv (pc' := 175) (as := [(2, 321), (0, 1), (0, (M 321 8))]) (rest := []) (ls1 := [(2, 321), (0, 1), (0, (M 321 8))]) rfl rfl rfl rfl rfl rfl ?_
        refine wp_run 1 (pc' := 1) (ls' := [(2, 321), (0, 1), (0, (M 321 8))]) (st' := [(2, 321)]) rfl ?_
        refine wp_gf (pc' := 4) (t := 2) (v := 324) rfl rfl (by decide) rfl rfl (z_upi (by decide) (z_upi (by decide) (fx_321_11 hF))) ?_
        refine wp_run 1 (pc' := 5) (ls' := [(2, 321), (0, 1), (0, (M 321 8))]) (st' := [(2, 321), (2, 324)]) rfl ?_
        refine wp_gf (pc' := 8) (t := 0) (v := (M 321 17)) rfl rfl (by decide) rfl rfl (z_upi (by decide) (z_upi (by decide) rfl)) ?_
        refine wp_run 1 (pc' := 9) (ls' := [(2, 321), (0, 1), (0, (M 321 8))]) (st' := [(0, 1), (0, (M 321 17)), (2, 324)]) rfl ?_
        refine wp_iast (pc' := 10) rfl rfl rfl (b2 c1 c2 c3) ?_
        refine wp_run 1 (pc' := 11) (ls' := [(2, 321), (0, 1), (0, (M 321 8))]) (st' := [(2, 321)]) rfl ?_
        refine wp_gf (pc' := 14) (t := 2) (v := 325) rfl rfl (by decide) rfl rfl (z_upq (by decide) (z_upi (by decide) (z_upi (by decide) (fx_321_12 hF)))) ?_
        refine wp_run 1 (pc' := 15) (ls' := [(2, 321), (0, 1), (0, (M 321 8))]) (st' := [(2, 321), (2, 325)]) rfl ?_
        refine wp_gf (pc' := 18) (t := 0) (v := (M 321 17)) rfl rfl (by decide) rfl rfl (z_upq (by decide) (z_upi (by decide) (z_upi (by decide) rfl))) ?_
        refine wp_run 1 (pc' := 19) (ls' := [(2, 321), (0, 1), (0, (M 321 8))]) (st' := [(0, (M 321 8)), (0, (M 321 17)), (2, 325)]) rfl ?_
        refine wp_iast (pc' := 20) rfl rfl rfl (b2 c1 c2 c3) ?_
        refine wp_run 2 (pc' := 22) (ls' := [(2, 321), (0, 1), (0, (M 321 8))]) (st' := [(2, 321), (2, 321)]) rfl ?_
        refine wp_gf (pc' := 25) (t := 0) (v := (M 321 17)) rfl rfl (by decide) rfl rfl (z_upq (by decide) (z_upq (by decide) (z_upi (by decide) (z_upi (by decide) rfl)))) ?_
        refine wp_run 2 (pc' := 27) (ls' := [(2, 321), (0, 1), (0, (M 321 8))]) (st' := [(0, (z_w ((M 321 17) + 1))), (2, 321)]) rfl ?_
        refine wp_pf (pc' := 30) rfl rfl rfl rfl (fun z => absurd z (by decide)) (fun z => absurd z (by decide)) ?_
        refine wp_ret rfl rfl ?_
        show wp xs _ mX10_unit 175 [(2, 321), (0, x1), (0, x2)] [] z_LL (z_up (z_up (z_up (z_up (z_up M 321 20 (z_w ((M 321 20) + 1))) 321 22 (z_w ((M 321 22) + 1))) 324 (M 321 17) 1) 325 (M 321 17) (M 321 8)) 321 17 (z_w ((M 321 17) + 1))) _
        refine wp_run 1 (pc' := 176) (ls' := [(2, 321), (0, x1), (0, x2)]) (st' := [(2, 321)]) rfl ?_
        refine wp_callv (pc' := 179) (as := [(2, 321)]) (rest := []) (ls1 := [(2, 321), (3, 0), (3, 0)]) rfl rfl rfl rfl rfl rfl ?_
        exact l2 c1 c2 c3
    · refine wp_run 3 (pc' := 161) (ls' := [(2, 321), (0, x1), (0, x2)]) (st' := [(0, x2), (0, 0), (2, 321)]) rfl ?_
      refine wp_if1 rfl rfl rfl (fun (c4 : 0 ≤ x2) => ?_) (fun (c4 : ¬ (0 ≤ x2)) => ?_)
      · refine wp_run 1 (pc' := 172) (ls' := [(2, 321), (0, x1), (0, x2)]) (st' := [(0, x2), (0, 0), (2, 321)]) rfl ?_
        refine wp_callv (pc' := 175) (as := [(2, 321), (0, 0), (0, x2)]) (rest := []) (ls1 := [(2, 321), (0, 0), (0, x2)]) rfl rfl rfl rfl rfl rfl ?_
        refine wp_run 1 (pc' := 1) (ls' := [(2, 321), (0, 0), (0, x2)]) (st' := [(2, 321)]) rfl ?_
        refine wp_gf (pc' := 4) (t := 2) (v := 324) rfl rfl (by decide) rfl rfl (z_upi (by decide) (z_upi (by decide) (fx_321_11 hF))) ?_
        refine wp_run 1 (pc' := 5) (ls' := [(2, 321), (0, 0), (0, x2)]) (st' := [(2, 321), (2, 324)]) rfl ?_
        refine wp_gf (pc' := 8) (t := 0) (v := (M 321 17)) rfl rfl (by decide) rfl rfl (z_upi (by decide) (z_upi (by decide) rfl)) ?_
        refine wp_run 1 (pc' := 9) (ls' := [(2, 321), (0, 0), (0, x2)]) (st' := [(0, 0), (0, (M 321 17)), (2, 324)]) rfl ?_
        refine wp_iast (pc' := 10) rfl rfl rfl (b3 c1 c2 c4) ?_
        refine wp_run 1 (pc' := 11) (ls' := [(2, 321), (0, 0), (0, x2)]) (st' := [(2, 321)]) rfl ?_
        refine wp_gf (pc' := 14) (t := 2) (v := 325) rfl rfl (by decide) rfl rfl (z_upq (by decide) (z_upi (by decide) (z_upi (by decide) (fx_321_12 hF)))) ?_
        refine wp_run 1 (pc' := 15) (ls' := [(2, 321), (0, 0), (0, x2)]) (st' := [(2, 321), (2, 325)]) rfl ?_
        refine wp_gf (pc' := 18) (t := 0) (v := (M 321 17)) rfl rfl (by decide) rfl rfl (z_upq (by decide) (z_upi (by decide) (z_upi (by decide) rfl))) ?_
        refine wp_run 1 (pc' := 19) (ls' := [(2, 321), (0, 0), (0, x2)]) (st' := [(0, x2), (0, (M 321 17)), (2, 325)]) rfl ?_
        refine wp_iast (pc' := 20) rfl rfl rfl (b3 c1 c2 c4) ?_
        refine wp_run 2 (pc' := 22) (ls' := [(2, 321), (0, 0), (0, x2)]) (st' := [(2, 321), (2, 321)]) rfl ?_
        refine wp_gf (pc' := 25) (t := 0) (v := (M 321 17)) rfl rfl (by decide) rfl rfl (z_upq (by decide) (z_upq (by decide) (z_upi (by decide) (z_upi (by decide) rfl)))) ?_
        refine wp_run 2 (pc' := 27) (ls' := [(2, 321), (0, 0), (0, x2)]) (st' := [(0, (z_w ((M 321 17) + 1))), (2, 321)]) rfl ?_
        refine wp_pf (pc' := 30) rfl rfl rfl rfl (fun z => absurd z (by decide)) (fun z => absurd z (by decide)) ?_
        refine wp_ret rfl rfl ?_
        show wp xs _ mX10_unit 175 [(2, 321), (0, x1), (0, x2)] [] z_LL (z_up (z_up (z_up (z_up (z_up M 321 20 (z_w ((M 321 20) + 1))) 321 22 (z_w ((M 321 22) + 1))) 324 (M 321 17) 0) 325 (M 321 17) x2) 321 17 (z_w ((M 321 17) + 1))) _
        refine wp_run 1 (pc' := 176) (ls' := [(2, 321), (0, x1), (0, x2)]) (st' := [(2, 321)]) rfl ?_
        refine wp_callv (pc' := 179) (as := [(2, 321)]) (rest := []) (ls1 := [(2, 321), (3, 0), (3, 0)]) rfl rfl rfl rfl rfl rfl ?_
        exact l3 c1 c2 c4
      · refine wp_run 1 (pc' := 165) (ls' := [(2, 321), (0, x1), (0, x2)]) (st' := [(2, 321), (0, 0), (2, 321)]) rfl ?_
        refine wp_gf (pc' := 168) (t := 0) (v := (M 321 8)) rfl rfl (by decide) rfl rfl (z_upi (by decide) (z_upi (by decide) rfl)) ?_
        refine wp_run 1 (pc' := 172) (ls' := [(2, 321), (0, x1), (0, x2)]) (st' := [(0, (M 321 8)), (0, 0), (2, 321)]) rfl ?_
        refine wp_callv (pc' := 175) (as := [(2, 321), (0, 0), (0, (M 321 8))]) (rest := []) (ls1 := [(2, 321), (0, 0), (0, (M 321 8))]) rfl rfl rfl rfl rfl rfl ?_
        refine wp_run 1 (pc' := 1) (ls' := [(2, 321), (0, 0), (0, (M 321 8))]) (st' := [(2, 321)]) rfl ?_
        refine wp_gf (pc' := 4) (t := 2) (v := 324) rfl rfl (by decide) rfl rfl (z_upi (by decide) (z_upi (by decide) (fx_321_11 hF))) ?_
        refine wp_run 1 (pc' := 5) (ls' := [(2, 321), (0, 0), (0, (M 321 8))]) (st' := [(2, 321), (2, 324)]) rfl ?_
        refine wp_gf (pc' := 8) (t := 0) (v := (M 321 17)) rfl rfl (by decide) rfl rfl (z_upi (by decide) (z_upi (by decide) rfl)) ?_
        refine wp_run 1 (pc' := 9) (ls' := [(2, 321), (0, 0), (0, (M 321 8))]) (st' := [(0, 0), (0, (M 321 17)), (2, 324)]) rfl ?_
        refine wp_iast (pc' := 10) rfl rfl rfl (b4 c1 c2 c4) ?_
        refine wp_run 1 (pc' := 11) (ls' := [(2, 321), (0, 0), (0, (M 321 8))]) (st' := [(2, 321)]) rfl ?_
        refine wp_gf (pc' := 14) (t := 2) (v := 325) rfl rfl (by decide) rfl rfl (z_upq (by decide) (z_upi (by decide) (z_upi (by decide) (fx_321_12 hF)))) ?_
        refine wp_run 1 (pc' := 15) (ls' := [(2, 321), (0, 0), (0, (M 321 8))]) (st' := [(2, 321), (2, 325)]) rfl ?_
        refine wp_gf (pc' := 18) (t := 0) (v := (M 321 17)) rfl rfl (by decide) rfl rfl (z_upq (by decide) (z_upi (by decide) (z_upi (by decide) rfl))) ?_
        refine wp_run 1 (pc' := 19) (ls' := [(2, 321), (0, 0), (0, (M 321 8))]) (st' := [(0, (M 321 8)), (0, (M 321 17)), (2, 325)]) rfl ?_
        refine wp_iast (pc' := 20) rfl rfl rfl (b4 c1 c2 c4) ?_
        refine wp_run 2 (pc' := 22) (ls' := [(2, 321), (0, 0), (0, (M 321 8))]) (st' := [(2, 321), (2, 321)]) rfl ?_
        refine wp_gf (pc' := 25) (t := 0) (v := (M 321 17)) rfl rfl (by decide) rfl rfl (z_upq (by decide) (z_upq (by decide) (z_upi (by decide) (z_upi (by decide) rfl)))) ?_
        refine wp_run 2 (pc' := 27) (ls' := [(2, 321), (0, 0), (0, (M 321 8))]) (st' := [(0, (z_w ((M 321 17) + 1))), (2, 321)]) rfl ?_
        refine wp_pf (pc' := 30) rfl rfl rfl rfl (fun z => absurd z (by decide)) (fun z => absurd z (by decide)) ?_
        refine wp_ret rfl rfl ?_
        show wp xs _ mX10_unit 175 [(2, 321), (0, x1), (0, x2)] [] z_LL (z_up (z_up (z_up (z_up (z_up M 321 20 (z_w ((M 321 20) + 1))) 321 22 (z_w ((M 321 22) + 1))) 324 (M 321 17) 0) 325 (M 321 17) (M 321 8)) 321 17 (z_w ((M 321 17) + 1))) _
        refine wp_run 1 (pc' := 176) (ls' := [(2, 321), (0, x1), (0, x2)]) (st' := [(2, 321)]) rfl ?_
        refine wp_callv (pc' := 179) (as := [(2, 321)]) (rest := []) (ls1 := [(2, 321), (3, 0), (3, 0)]) rfl rfl rfl rfl rfl rfl ?_
        exact l4 c1 c2 c4
  · exact wp_ret rfl rfl (l5 c1)
set_option maxRecDepth 20000 in
theorem gX10_unit_179 {xs : List Int} {d : Nat} {M : z_M} {P : Option z_V → z_L → z_M → Prop} {x1 : Int} {x2 : Int} 
    (l1 : P none z_LL M) :
    wp xs d mX10_unit 179 [(2, 321), (0, x1), (0, x2)] [] z_LL M P := by
  exact wp_ret rfl rfl (l1)
set_option maxRecDepth 20000 in
theorem gX10_readPull_0 {xs : List Int} {d : Nat} {M : z_M} {P : Option z_V → z_L → z_M → Prop} 
    (l1 : wp xs d mX10_token 0 [(2, 321), (3, 0), (3, 0)] [] z_LL M (fun r L1 M1 => wp xs (d + 1) mX10_readPull 4 [(2, 321), (3, 0), (3, 0)] (z_ol r ++ []) L1 M1 P)) :
    wp xs (d + 1) mX10_readPull 0 [(2, 321), (3, 0), (3, 0)] [] z_LL M P := by
  refine wp_run 1 (pc' := 1) (ls' := [(2, 321), (3, 0), (3, 0)]) (st' := [(2, 321)]) rfl ?_
  refine wp_callv (pc' := 4) (as := [(2, 321)]) (rest := []) (ls1 := [(2, 321), (3, 0), (3, 0)]) rfl rfl rfl rfl rfl rfl ?_
  exact l1
set_option maxRecDepth 20000 in
theorem gX10_readPull_4 {xs : List Int} {d : Nat} {M : z_M} {P : Option z_V → z_L → z_M → Prop} 
    (l1 : wp xs d mX10_unit 0 [(2, 321), (3, 0), (3, 0)] [] z_LL (z_up (z_up (z_up (z_up M 321 17 0) 321 19 0) 321 23 0) 321 22 0) (fun r L1 M1 => wp xs (d + 1) mX10_readPull 28 [(2, 321), (3, 0), (3, 0)] (z_ol r ++ []) L1 M1 P)) :
    wp xs (d + 1) mX10_readPull 4 [(2, 321), (3, 0), (3, 0)] [] z_LL M P := by
  refine wp_run 2 (pc' := 6) (ls' := [(2, 321), (3, 0), (3, 0)]) (st' := [(0, 0), (2, 321)]) rfl ?_
  refine wp_pf (pc' := 9) rfl rfl rfl rfl (fun z => absurd z (by decide)) (fun z => absurd z (by decide)) ?_
  refine wp_run 2 (pc' := 11) (ls' := [(2, 321), (3, 0), (3, 0)]) (st' := [(0, 0), (2, 321)]) rfl ?_
  refine wp_pf (pc' := 14) rfl rfl rfl rfl (fun z => absurd z (by decide)) (fun z => absurd z (by decide)) ?_
  refine wp_run 2 (pc' := 16) (ls' := [(2, 321), (3, 0), (3, 0)]) (st' := [(0, 0), (2, 321)]) rfl ?_
  refine wp_pf (pc' := 19) rfl rfl rfl rfl (fun z => absurd z (by decide)) (fun z => absurd z (by decide)) ?_
  refine wp_run 2 (pc' := 21) (ls' := [(2, 321), (3, 0), (3, 0)]) (st' := [(0, 0), (2, 321)]) rfl ?_
  refine wp_pf (pc' := 24) rfl rfl rfl rfl (fun z => absurd z (by decide)) (fun z => absurd z (by decide)) ?_
  refine wp_run 1 (pc' := 25) (ls' := [(2, 321), (3, 0), (3, 0)]) (st' := [(2, 321)]) rfl ?_
  refine wp_callv (pc' := 28) (as := [(2, 321)]) (rest := []) (ls1 := [(2, 321), (3, 0), (3, 0)]) rfl rfl rfl rfl rfl rfl ?_
  exact l1
set_option maxRecDepth 20000 in
theorem gX10_readPull_28 {xs : List Int} {d : Nat} {M : z_M} {P : Option z_V → z_L → z_M → Prop} 
    (l1 : wp xs d mX10_readPull 30 [(2, 321), (0, 1), (3, 0)] [] z_LL M P) :
    wp xs d mX10_readPull 28 [(2, 321), (3, 0), (3, 0)] [] z_LL M P := by
  refine wp_run 2 (pc' := 30) (ls' := [(2, 321), (0, 1), (3, 0)]) (st' := []) rfl ?_
  exact l1
set_option maxRecDepth 20000 in
theorem gX10_readPull_30 {xs : List Int} {d : Nat} {M : z_M} {P : Option z_V → z_L → z_M → Prop} {x1 : Int} {w2 : z_V} 
    (l1 : (x1 = 0) → ((M 321 2) ≠ 0) → ((M 321 2) ≠ 0) → P none z_LL M)
    (l2 : (x1 = 0) → ((M 321 2) ≠ 0) → (¬ ((M 321 2) ≠ 0)) → wp xs d mX10_close 0 [(2, 321), (0, 0)] [] z_LL M (fun r L1 M1 => wp xs (d + 1) mX10_readPull 188 [(2, 321), (0, x1), w2] (z_ol r ++ []) L1 M1 P))
    (l3 : (x1 = 0) → (¬ ((M 321 2) ≠ 0)) → wp xs d mX10_hasBracket 0 [(2, 321), (3, 0), (3, 0)] [] z_LL M (fun r L1 M1 => wp xs (d + 1) mX10_readPull 168 [(2, 321), (0, x1), w2] (z_ol r ++ []) L1 M1 P))
    (l4 : (¬ (x1 = 0)) → ((M 321 2) ≠ 0) → ((M 321 2) ≠ 0) → ((M 321 2) ≠ 0) → P none z_LL M)
    (l5 : (¬ (x1 = 0)) → ((M 321 2) ≠ 0) → ((M 321 2) ≠ 0) → (¬ ((M 321 2) ≠ 0)) → wp xs d mX10_close 0 [(2, 321), (0, 0)] [] z_LL M (fun r L1 M1 => wp xs (d + 1) mX10_readPull 188 [(2, 321), (0, x1), w2] (z_ol r ++ []) L1 M1 P))
    (l6 : (¬ (x1 = 0)) → ((M 321 2) ≠ 0) → (¬ ((M 321 2) ≠ 0)) → wp xs d mX10_hasBracket 0 [(2, 321), (3, 0), (3, 0)] [] z_LL M (fun r L1 M1 => wp xs (d + 1) mX10_readPull 168 [(2, 321), (0, x1), w2] (z_ol r ++ []) L1 M1 P))
    (l7 : (¬ (x1 = 0)) → (¬ ((M 321 2) ≠ 0)) → wp xs d mX10_sign 0 [(2, 321)] [] z_LL M (fun r L1 M1 => wp xs (d + 1) mX10_readPull 45 [(2, 321), (0, x1), w2] (z_ol r ++ []) L1 M1 P)) :
    wp xs (d + 1) mX10_readPull 30 [(2, 321), (0, x1), w2] [] z_LL M P := by
  refine wp_run 1 (pc' := 31) (ls' := [(2, 321), (0, x1), w2]) (st' := [(0, x1)]) rfl ?_
  refine wp_if1 rfl rfl rfl (fun (c1 : x1 = 0) => ?_) (fun (c1 : ¬ (x1 = 0)) => ?_)
  · refine wp_run 1 (pc' := 158) (ls' := [(2, 321), (0, x1), w2]) (st' := [(2, 321)]) rfl ?_
    refine wp_gf (pc' := 161) (t := 0) (v := (M 321 2)) rfl rfl (by decide) rfl rfl rfl ?_
    refine wp_if1 rfl rfl rfl (fun (c2 : (M 321 2) ≠ 0) => ?_) (fun (c2 : ¬ ((M 321 2) ≠ 0)) => ?_)
    · refine wp_run 1 (pc' := 177) (ls' := [(2, 321), (0, x1), w2]) (st' := [(2, 321)]) rfl ?_
      refine wp_gf (pc' := 180) (t := 0) (v := (M 321 2)) rfl rfl (by decide) rfl rfl rfl ?_
      refine wp_if1 rfl rfl rfl (fun (c3 : (M 321 2) ≠ 0) => ?_) (fun (c3 : ¬ ((M 321 2) ≠ 0)) => ?_)
      · exact wp_ret rfl rfl (l1 c1 c2 c3)
      · refine wp_run 2 (pc' := 185) (ls' := [(2, 321), (0, x1), w2]) (st' := [(0, 0), (2, 321)]) rfl ?_
        refine wp_callv (pc' := 188) (as := [(2, 321), (0, 0)]) (rest := []) (ls1 := [(2, 321), (0, 0)]) rfl rfl rfl rfl rfl rfl ?_
        exact l2 c1 c2 c3
    · refine wp_run 1 (pc' := 165) (ls' := [(2, 321), (0, x1), w2]) (st' := [(2, 321)]) rfl ?_
      refine wp_callv (pc' := 168) (as := [(2, 321)]) (rest := []) (ls1 := [(2, 321), (3, 0), (3, 0)]) rfl rfl rfl rfl rfl rfl ?_
      exact l3 c1 c2
  · refine wp_run 1 (pc' := 35) (ls' := [(2, 321), (0, x1), w2]) (st' := [(2, 321)]) rfl ?_
    refine wp_gf (pc' := 38) (t := 0) (v := (M 321 2)) rfl rfl (by decide) rfl rfl rfl ?_
    refine wp_if1 rfl rfl rfl (fun (c4 : (M 321 2) ≠ 0) => ?_) (fun (c4 : ¬ ((M 321 2) ≠ 0)) => ?_)
    · refine wp_run 1 (pc' := 158) (ls' := [(2, 321), (0, x1), w2]) (st' := [(2, 321)]) rfl ?_
      refine wp_gf (pc' := 161) (t := 0) (v := (M 321 2)) rfl rfl (by decide) rfl rfl rfl ?_
      refine wp_if1 rfl rfl rfl (fun (c5 : (M 321 2) ≠ 0) => ?_) (fun (c5 : ¬ ((M 321 2) ≠ 0)) => ?_)
      · refine wp_run 1 (pc' := 177) (ls' := [(2, 321), (0, x1), w2]) (st' := [(2, 321)]) rfl ?_
        refine wp_gf (pc' := 180) (t := 0) (v := (M 321 2)) rfl rfl (by decide) rfl rfl rfl ?_
        refine wp_if1 rfl rfl rfl (fun (c6 : (M 321 2) ≠ 0) => ?_) (fun (c6 : ¬ ((M 321 2) ≠ 0)) => ?_)
        · exact wp_ret rfl rfl (l4 c1 c4 c5 c6)
        · refine wp_run 2 (pc' := 185) (ls' := [(2, 321), (0, x1), w2]) (st' := [(0, 0), (2, 321)]) rfl ?_
          refine wp_callv (pc' := 188) (as := [(2, 321), (0, 0)]) (rest := []) (ls1 := [(2, 321), (0, 0)]) rfl rfl rfl rfl rfl rfl ?_
          exact l5 c1 c4 c5 c6
      · refine wp_run 1 (pc' := 165) (ls' := [(2, 321), (0, x1), w2]) (st' := [(2, 321)]) rfl ?_
        refine wp_callv (pc' := 168) (as := [(2, 321)]) (rest := []) (ls1 := [(2, 321), (3, 0), (3, 0)]) rfl rfl rfl rfl rfl rfl ?_
        exact l6 c1 c4 c5
    · refine wp_run 1 (pc' := 42) (ls' := [(2, 321), (0, x1), w2]) (st' := [(2, 321)]) rfl ?_
      refine wp_callv (pc' := 45) (as := [(2, 321)]) (rest := []) (ls1 := [(2, 321)]) rfl rfl rfl rfl rfl rfl ?_
      exact l7 c1 c4
set_option maxRecDepth 20000 in
theorem gX10_readPull_45 {xs : List Int} {d : Nat} {M : z_M} {P : Option z_V → z_L → z_M → Prop} {x1 : Int} {w2 : z_V} {s0 : Int} 
    (l1 : ((M 321 6) ≠ 41) → (s0 = 0) → wp xs (d + 1) mX10_readPull 30 [(2, 321), (0, 0), (0, s0)] [] z_LL M P)
    (l2 : ((M 321 6) ≠ 41) → (¬ (s0 = 0)) → wp xs d mX10_tight 0 [(0, s0)] [] z_LL M (fun r L1 M1 => wp xs (d + 1) mX10_readPull 102 [(2, 321), (0, x1), (0, s0)] (z_ol r ++ []) L1 M1 P))
    (l3 : (¬ ((M 321 6) ≠ 41)) → wp xs d mX10_hasBracket 0 [(2, 321), (3, 0), (3, 0)] [] z_LL M (fun r L1 M1 => wp xs (d + 1) mX10_readPull 59 [(2, 321), (0, x1), (0, s0)] (z_ol r ++ []) L1 M1 P)) :
    wp xs (d + 1) mX10_readPull 45 [(2, 321), (0, x1), w2] [(0, s0)] z_LL M P := by
  refine wp_run 2 (pc' := 47) (ls' := [(2, 321), (0, x1), (0, s0)]) (st' := [(2, 321)]) rfl ?_
  refine wp_gf (pc' := 50) (t := 0) (v := (M 321 6)) rfl rfl (by decide) rfl rfl rfl ?_
  refine wp_run 1 (pc' := 52) (ls' := [(2, 321), (0, x1), (0, s0)]) (st' := [(0, 41), (0, (M 321 6))]) rfl ?_
  refine wp_if2 rfl rfl rfl (fun (c1 : (M 321 6) ≠ 41) => ?_) (fun (c1 : ¬ ((M 321 6) ≠ 41)) => ?_)
  · refine wp_run 1 (pc' := 95) (ls' := [(2, 321), (0, x1), (0, s0)]) (st' := [(0, s0)]) rfl ?_
    refine wp_if1 rfl rfl rfl (fun (c2 : s0 = 0) => ?_) (fun (c2 : ¬ (s0 = 0)) => ?_)
    · refine wp_run 3 (pc' := 30) (ls' := [(2, 321), (0, 0), (0, s0)]) (st' := []) rfl ?_
      exact l1 c1 c2
    · refine wp_run 1 (pc' := 99) (ls' := [(2, 321), (0, x1), (0, s0)]) (st' := [(0, s0)]) rfl ?_
      refine wp_callv (pc' := 102) (as := [(0, s0)]) (rest := []) (ls1 := [(0, s0)]) rfl rfl rfl rfl rfl rfl ?_
      exact l2 c1 c2
  · refine wp_run 1 (pc' := 56) (ls' := [(2, 321), (0, x1), (0, s0)]) (st' := [(2, 321)]) rfl ?_
    refine wp_callv (pc' := 59) (as := [(2, 321)]) (rest := []) (ls1 := [(2, 321), (3, 0), (3, 0)]) rfl rfl rfl rfl rfl rfl ?_
    exact l3 c1
set_option maxRecDepth 20000 in
theorem gX10_readPull_59 {xs : List Int} {d : Nat} {M : z_M} {P : Option z_V → z_L → z_M → Prop} {x1 : Int} {x2 : Int} {s0 : Int} 
    (l1 : (s0 = 0) → (x2 = 0) → wp xs (d + 1) mX10_readPull 30 [(2, 321), (0, 0), (0, x2)] [] z_LL M P)
    (l2 : (s0 = 0) → (¬ (x2 = 0)) → wp xs d mX10_tight 0 [(0, x2)] [] z_LL M (fun r L1 M1 => wp xs (d + 1) mX10_readPull 102 [(2, 321), (0, x1), (0, x2)] (z_ol r ++ []) L1 M1 P))
    (l3 : (¬ (s0 = 0)) → wp xs d mX10_close 0 [(2, 321), (0, 0)] [] z_LL M (fun r L1 M1 => wp xs (d + 1) mX10_readPull 67 [(2, 321), (0, x1), (0, x2)] (z_ol r ++ []) L1 M1 P)) :
    wp xs (d + 1) mX10_readPull 59 [(2, 321), (0, x1), (0, x2)] [(0, s0)] z_LL M P := by
  refine wp_if1 rfl rfl rfl (fun (c1 : s0 = 0) => ?_) (fun (c1 : ¬ (s0 = 0)) => ?_)
  · refine wp_run 1 (pc' := 95) (ls' := [(2, 321), (0, x1), (0, x2)]) (st' := [(0, x2)]) rfl ?_
    refine wp_if1 rfl rfl rfl (fun (c2 : x2 = 0) => ?_) (fun (c2 : ¬ (x2 = 0)) => ?_)
    · refine wp_run 3 (pc' := 30) (ls' := [(2, 321), (0, 0), (0, x2)]) (st' := []) rfl ?_
      exact l1 c1 c2
    · refine wp_run 1 (pc' := 99) (ls' := [(2, 321), (0, x1), (0, x2)]) (st' := [(0, x2)]) rfl ?_
      refine wp_callv (pc' := 102) (as := [(0, x2)]) (rest := []) (ls1 := [(0, x2)]) rfl rfl rfl rfl rfl rfl ?_
      exact l2 c1 c2
  · refine wp_run 2 (pc' := 64) (ls' := [(2, 321), (0, x1), (0, x2)]) (st' := [(0, 0), (2, 321)]) rfl ?_
    refine wp_callv (pc' := 67) (as := [(2, 321), (0, 0)]) (rest := []) (ls1 := [(2, 321), (0, 0)]) rfl rfl rfl rfl rfl rfl ?_
    exact l3 c1
set_option maxRecDepth 20000 in
theorem gX10_readPull_67 {xs : List Int} {d : Nat} {M : z_M} {P : Option z_V → z_L → z_M → Prop} {x1 : Int} {x2 : Int} 
    (l1 : wp xs d mX10_token 0 [(2, 321), (3, 0), (3, 0)] [] z_LL (z_up (z_up M 321 19 (z_w ((M 321 19) - 1))) 321 23 (z_w ((M 321 23) - 1))) (fun r L1 M1 => wp xs (d + 1) mX10_readPull 91 [(2, 321), (0, x1), (0, x2)] (z_ol r ++ []) L1 M1 P)) :
    wp xs (d + 1) mX10_readPull 67 [(2, 321), (0, x1), (0, x2)] [] z_LL M P := by
  refine wp_run 2 (pc' := 69) (ls' := [(2, 321), (0, x1), (0, x2)]) (st' := [(2, 321), (2, 321)]) rfl ?_
  refine wp_gf (pc' := 72) (t := 0) (v := (M 321 19)) rfl rfl (by decide) rfl rfl rfl ?_
  refine wp_run 2 (pc' := 74) (ls' := [(2, 321), (0, x1), (0, x2)]) (st' := [(0, (z_w ((M 321 19) - 1))), (2, 321)]) rfl ?_
  refine wp_pf (pc' := 77) rfl rfl rfl rfl (fun z => absurd z (by decide)) (fun z => absurd z (by decide)) ?_
  refine wp_run 2 (pc' := 79) (ls' := [(2, 321), (0, x1), (0, x2)]) (st' := [(2, 321), (2, 321)]) rfl ?_
  refine wp_gf (pc' := 82) (t := 0) (v := (M 321 23)) rfl rfl (by decide) rfl rfl (z_upi (by decide) rfl) ?_
  refine wp_run 2 (pc' := 84) (ls' := [(2, 321), (0, x1), (0, x2)]) (st' := [(0, (z_w ((M 321 23) - 1))), (2, 321)]) rfl ?_
  refine wp_pf (pc' := 87) rfl rfl rfl rfl (fun z => absurd z (by decide)) (fun z => absurd z (by decide)) ?_
  refine wp_run 1 (pc' := 88) (ls' := [(2, 321), (0, x1), (0, x2)]) (st' := [(2, 321)]) rfl ?_
  refine wp_callv (pc' := 91) (as := [(2, 321)]) (rest := []) (ls1 := [(2, 321), (3, 0), (3, 0)]) rfl rfl rfl rfl rfl rfl ?_
  exact l1
set_option maxRecDepth 20000 in
theorem gX10_readPull_91 {xs : List Int} {d : Nat} {M : z_M} {P : Option z_V → z_L → z_M → Prop} {x1 : Int} {x2 : Int} 
    (l1 : wp xs d mX10_readPull 30 [(2, 321), (0, x1), (0, x2)] [] z_LL M P) :
    wp xs d mX10_readPull 91 [(2, 321), (0, x1), (0, x2)] [] z_LL M P := by
  refine wp_run 2 (pc' := 30) (ls' := [(2, 321), (0, x1), (0, x2)]) (st' := []) rfl ?_
  exact l1
set_option maxRecDepth 20000 in
theorem gX10_readPull_102 {xs : List Int} {d : Nat} {M : z_M} {P : Option z_V → z_L → z_M → Prop} {x1 : Int} {x2 : Int} {s0 : Int} 
    (l1 : (s0 ≠ 4) → wp xs d mX10_tight 0 [(0, x2)] [] z_LL M (fun r L1 M1 => wp xs (d + 1) mX10_readPull 118 [(2, 321), (0, x1), (0, x2)] (z_ol r ++ [(2, 321)]) L1 M1 P))
    (l2 : (¬ (s0 ≠ 4)) → wp xs d mX10_hasRelation 0 [(2, 321), (3, 0)] [] z_LL M (fun r L1 M1 => wp xs (d + 1) mX10_readPull 110 [(2, 321), (0, x1), (0, x2)] (z_ol r ++ []) L1 M1 P)) :
    wp xs (d + 1) mX10_readPull 102 [(2, 321), (0, x1), (0, x2)] [(0, s0)] z_LL M P := by
  refine wp_run 1 (pc' := 103) (ls' := [(2, 321), (0, x1), (0, x2)]) (st' := [(0, 4), (0, s0)]) rfl ?_
  refine wp_if2 rfl rfl rfl (fun (c1 : s0 ≠ 4) => ?_) (fun (c1 : ¬ (s0 ≠ 4)) => ?_)
  · refine wp_run 2 (pc' := 115) (ls' := [(2, 321), (0, x1), (0, x2)]) (st' := [(0, x2), (2, 321)]) rfl ?_
    refine wp_callv (pc' := 118) (as := [(0, x2)]) (rest := [(2, 321)]) (ls1 := [(0, x2)]) rfl rfl rfl rfl rfl rfl ?_
    exact l1 c1
  · refine wp_run 1 (pc' := 107) (ls' := [(2, 321), (0, x1), (0, x2)]) (st' := [(2, 321)]) rfl ?_
    refine wp_callv (pc' := 110) (as := [(2, 321)]) (rest := []) (ls1 := [(2, 321), (3, 0)]) rfl rfl rfl rfl rfl rfl ?_
    exact l2 c1
set_option maxRecDepth 20000 in
theorem gX10_readPull_110 {xs : List Int} {d : Nat} {M : z_M} {P : Option z_V → z_L → z_M → Prop} {x1 : Int} {x2 : Int} {s0 : Int} 
    (l1 : (s0 ≠ 0) → wp xs (d + 1) mX10_readPull 30 [(2, 321), (0, 0), (0, x2)] [] z_LL M P)
    (l2 : (¬ (s0 ≠ 0)) → wp xs d mX10_tight 0 [(0, x2)] [] z_LL M (fun r L1 M1 => wp xs (d + 1) mX10_readPull 118 [(2, 321), (0, x1), (0, x2)] (z_ol r ++ [(2, 321)]) L1 M1 P)) :
    wp xs (d + 1) mX10_readPull 110 [(2, 321), (0, x1), (0, x2)] [(0, s0)] z_LL M P := by
  refine wp_if1 rfl rfl rfl (fun (c1 : s0 ≠ 0) => ?_) (fun (c1 : ¬ (s0 ≠ 0)) => ?_)
  · refine wp_run 3 (pc' := 30) (ls' := [(2, 321), (0, 0), (0, x2)]) (st' := []) rfl ?_
    exact l1 c1
  · refine wp_run 2 (pc' := 115) (ls' := [(2, 321), (0, x1), (0, x2)]) (st' := [(0, x2), (2, 321)]) rfl ?_
    refine wp_callv (pc' := 118) (as := [(0, x2)]) (rest := [(2, 321)]) (ls1 := [(0, x2)]) rfl rfl rfl rfl rfl rfl ?_
    exact l2 c1
set_option maxRecDepth 20000 in
theorem gX10_readPull_118 {xs : List Int} {d : Nat} {M : z_M} {P : Option z_V → z_L → z_M → Prop} {x1 : Int} {x2 : Int} {s1 : Int} 
    (l1 : wp xs d mX10_close 0 [(2, 321), (0, s1)] [] z_LL M (fun r L1 M1 => wp xs (d + 1) mX10_readPull 121 [(2, 321), (0, x1), (0, x2)] (z_ol r ++ []) L1 M1 P)) :
    wp xs (d + 1) mX10_readPull 118 [(2, 321), (0, x1), (0, x2)] [(0, s1), (2, 321)] z_LL M P := by
  refine wp_callv (pc' := 121) (as := [(2, 321), (0, s1)]) (rest := []) (ls1 := [(2, 321), (0, s1)]) rfl rfl rfl rfl rfl rfl ?_
  exact l1
set_option maxRecDepth 20000 in
theorem gX10_readPull_121 {xs : List Int} {d : Nat} {M : z_M} {P : Option z_V → z_L → z_M → Prop} {x1 : Int} {x2 : Int} (hF : z_fix M) 
    (b1 : 0 ≤ (M 321 19) ∧ (M 321 19) < 160)
    (l1 : wp xs d mX10_token 0 [(2, 321), (3, 0), (3, 0)] [] z_LL (z_up (z_up M 328 (M 321 19) x2) 321 19 (z_w ((M 321 19) + 1))) (fun r L1 M1 => wp xs (d + 1) mX10_readPull 145 [(2, 321), (0, x1), (0, x2)] (z_ol r ++ []) L1 M1 P)) :
    wp xs (d + 1) mX10_readPull 121 [(2, 321), (0, x1), (0, x2)] [] z_LL M P := by
  refine wp_run 1 (pc' := 122) (ls' := [(2, 321), (0, x1), (0, x2)]) (st' := [(2, 321)]) rfl ?_
  refine wp_gf (pc' := 125) (t := 2) (v := 328) rfl rfl (by decide) rfl rfl (fx_321_15 hF) ?_
  refine wp_run 1 (pc' := 126) (ls' := [(2, 321), (0, x1), (0, x2)]) (st' := [(2, 321), (2, 328)]) rfl ?_
  refine wp_gf (pc' := 129) (t := 0) (v := (M 321 19)) rfl rfl (by decide) rfl rfl rfl ?_
  refine wp_run 1 (pc' := 130) (ls' := [(2, 321), (0, x1), (0, x2)]) (st' := [(0, x2), (0, (M 321 19)), (2, 328)]) rfl ?_
  refine wp_iast (pc' := 131) rfl rfl rfl (b1) ?_
  refine wp_run 2 (pc' := 133) (ls' := [(2, 321), (0, x1), (0, x2)]) (st' := [(2, 321), (2, 321)]) rfl ?_
  refine wp_gf (pc' := 136) (t := 0) (v := (M 321 19)) rfl rfl (by decide) rfl rfl (z_upq (by decide) rfl) ?_
  refine wp_run 2 (pc' := 138) (ls' := [(2, 321), (0, x1), (0, x2)]) (st' := [(0, (z_w ((M 321 19) + 1))), (2, 321)]) rfl ?_
  refine wp_pf (pc' := 141) rfl rfl rfl rfl (fun z => absurd z (by decide)) (fun z => absurd z (by decide)) ?_
  refine wp_run 1 (pc' := 142) (ls' := [(2, 321), (0, x1), (0, x2)]) (st' := [(2, 321)]) rfl ?_
  refine wp_callv (pc' := 145) (as := [(2, 321)]) (rest := []) (ls1 := [(2, 321), (3, 0), (3, 0)]) rfl rfl rfl rfl rfl rfl ?_
  exact l1
set_option maxRecDepth 20000 in
theorem gX10_readPull_145 {xs : List Int} {d : Nat} {M : z_M} {P : Option z_V → z_L → z_M → Prop} {x1 : Int} {x2 : Int} 
    (l1 : wp xs d mX10_unit 0 [(2, 321), (3, 0), (3, 0)] [] z_LL M (fun r L1 M1 => wp xs (d + 1) mX10_readPull 149 [(2, 321), (0, x1), (0, x2)] (z_ol r ++ []) L1 M1 P)) :
    wp xs (d + 1) mX10_readPull 145 [(2, 321), (0, x1), (0, x2)] [] z_LL M P := by
  refine wp_run 1 (pc' := 146) (ls' := [(2, 321), (0, x1), (0, x2)]) (st' := [(2, 321)]) rfl ?_
  refine wp_callv (pc' := 149) (as := [(2, 321)]) (rest := []) (ls1 := [(2, 321), (3, 0), (3, 0)]) rfl rfl rfl rfl rfl rfl ?_
  exact l1
set_option maxRecDepth 20000 in
theorem gX10_readPull_149 {xs : List Int} {d : Nat} {M : z_M} {P : Option z_V → z_L → z_M → Prop} {x1 : Int} {x2 : Int} 
    (l1 : wp xs d mX10_readPull 30 [(2, 321), (0, x1), (0, x2)] [] z_LL M P) :
    wp xs d mX10_readPull 149 [(2, 321), (0, x1), (0, x2)] [] z_LL M P := by
  refine wp_run 2 (pc' := 30) (ls' := [(2, 321), (0, x1), (0, x2)]) (st' := []) rfl ?_
  exact l1
set_option maxRecDepth 20000 in
theorem gX10_readPull_168 {xs : List Int} {d : Nat} {M : z_M} {P : Option z_V → z_L → z_M → Prop} {x1 : Int} {w2 : z_V} {s0 : Int} 
    (l1 : (s0 = 0) → ((M 321 2) ≠ 0) → P none z_LL M)
    (l2 : (s0 = 0) → (¬ ((M 321 2) ≠ 0)) → wp xs d mX10_close 0 [(2, 321), (0, 0)] [] z_LL M (fun r L1 M1 => wp xs (d + 1) mX10_readPull 188 [(2, 321), (0, x1), w2] (z_ol r ++ []) L1 M1 P))
    (l3 : (¬ (s0 = 0)) → wp xs d mX10_wrong 0 [(2, 321), (0, 2)] [] z_LL M (fun r L1 M1 => wp xs (d + 1) mX10_readPull 176 [(2, 321), (0, x1), w2] (z_ol r ++ []) L1 M1 P)) :
    wp xs (d + 1) mX10_readPull 168 [(2, 321), (0, x1), w2] [(0, s0)] z_LL M P := by
  refine wp_if1 rfl rfl rfl (fun (c1 : s0 = 0) => ?_) (fun (c1 : ¬ (s0 = 0)) => ?_)
  · refine wp_run 1 (pc' := 177) (ls' := [(2, 321), (0, x1), w2]) (st' := [(2, 321)]) rfl ?_
    refine wp_gf (pc' := 180) (t := 0) (v := (M 321 2)) rfl rfl (by decide) rfl rfl rfl ?_
    refine wp_if1 rfl rfl rfl (fun (c2 : (M 321 2) ≠ 0) => ?_) (fun (c2 : ¬ ((M 321 2) ≠ 0)) => ?_)
    · exact wp_ret rfl rfl (l1 c1 c2)
    · refine wp_run 2 (pc' := 185) (ls' := [(2, 321), (0, x1), w2]) (st' := [(0, 0), (2, 321)]) rfl ?_
      refine wp_callv (pc' := 188) (as := [(2, 321), (0, 0)]) (rest := []) (ls1 := [(2, 321), (0, 0)]) rfl rfl rfl rfl rfl rfl ?_
      exact l2 c1 c2
  · refine wp_run 2 (pc' := 173) (ls' := [(2, 321), (0, x1), w2]) (st' := [(0, 2), (2, 321)]) rfl ?_
    refine wp_callv (pc' := 176) (as := [(2, 321), (0, 2)]) (rest := []) (ls1 := [(2, 321), (0, 2)]) rfl rfl rfl rfl rfl rfl ?_
    exact l3 c1
set_option maxRecDepth 20000 in
theorem gX10_readPull_176 {xs : List Int} {d : Nat} {M : z_M} {P : Option z_V → z_L → z_M → Prop} {x1 : Int} {x2 : z_V} 
    (l1 : ((M 321 2) ≠ 0) → P none z_LL M)
    (l2 : (¬ ((M 321 2) ≠ 0)) → wp xs d mX10_close 0 [(2, 321), (0, 0)] [] z_LL M (fun r L1 M1 => wp xs (d + 1) mX10_readPull 188 [(2, 321), (0, x1), x2] (z_ol r ++ []) L1 M1 P)) :
    wp xs (d + 1) mX10_readPull 176 [(2, 321), (0, x1), x2] [] z_LL M P := by
  refine wp_run 1 (pc' := 177) (ls' := [(2, 321), (0, x1), x2]) (st' := [(2, 321)]) rfl ?_
  refine wp_gf (pc' := 180) (t := 0) (v := (M 321 2)) rfl rfl (by decide) rfl rfl rfl ?_
  refine wp_if1 rfl rfl rfl (fun (c1 : (M 321 2) ≠ 0) => ?_) (fun (c1 : ¬ ((M 321 2) ≠ 0)) => ?_)
  · exact wp_ret rfl rfl (l1 c1)
  · refine wp_run 2 (pc' := 185) (ls' := [(2, 321), (0, x1), x2]) (st' := [(0, 0), (2, 321)]) rfl ?_
    refine wp_callv (pc' := 188) (as := [(2, 321), (0, 0)]) (rest := []) (ls1 := [(2, 321), (0, 0)]) rfl rfl rfl rfl rfl rfl ?_
    exact l2 c1
set_option maxRecDepth 20000 in
theorem gX10_readPull_188 {xs : List Int} {d : Nat} {M : z_M} {P : Option z_V → z_L → z_M → Prop} {x1 : Int} {w2 : z_V} 
    (l1 : P none z_LL M) :
    wp xs d mX10_readPull 188 [(2, 321), (0, x1), w2] [] z_LL M P := by
  exact wp_ret rfl rfl (l1)
def zq_f (M M' : z_M) : Prop := (∀ q, q ≠ 321 → q ≠ 324 → q ≠ 325 → q ≠ 328 → M' q = M q) ∧ ∀ j, ¬ ((2 ≤ j ∧ j ≤ 4) ∨ (6 ≤ j ∧ j ≤ 9) ∨ j = 17 ∨ j = 19 ∨ j = 20 ∨ j = 22 ∨ j = 23) → M' 321 j = M 321 j
/-- where a level stands: from o on j signs wait, that will be worked off -/
def zq_l (M G : z_M) (o dep tk : Int) (j : Nat) : Prop :=
  M 321 19 = o + j ∧ M 321 23 = dep + zq_n M o j ∧ (M 321 20 = G 321 20 ∧ M 321 22 = G 321 20) ∧ (0 ≤ M 321 17 ∧ M 321 17 + j = G 321 17) ∧
  (∀ k : Int, 0 ≤ k → k < M 321 17 → M 324 k = G 324 k ∧ M 325 k = G 325 k) ∧
  (∀ i : Int, 0 ≤ i → i < j → G 324 (M 321 17 + i) = (zq_c (M 328 (o + j - 1 - i))).1 ∧ G 325 (M 321 17 + i) = (zq_c (M 328 (o + j - 1 - i))).2) ∧
  ∀ i : Int, o ≤ i → i < o + j → M 328 i ≠ 20 ∧ tk ≤ zq_t (M 328 i)
def zq_b (M : z_M) (o tb : Int) : Prop := o = 0 ∨ M 328 (o - 1) = 20 ∨ zq_t (M 328 (o - 1)) < tb
def zq_s (b : Int → Int) (n : Int) (M : z_M) (q lv : Int) : Prop := (lv ≤ 4 → zf_lv (zt_k b n q) ≠ 4) ∧ (lv ≤ 3 → zf_lv (zt_k b n q) ≠ 3) ∧ (lv ≤ 2 → zf_lv (zt_k b n q) = 2 → zq_H M) ∧ (lv ≤ 1 → zf_lv (zt_k b n q) ≠ 1) ∧ (lv ≤ 0 → zf_lv (zt_k b n q) ≠ 0)
def zLp (xs : List Int) (d : Nat) (P : Option z_V → z_L → z_M → Prop) (M : z_M) : Prop := ∀ w : z_V, wp xs (d + 9) mX10_readPull 30 [(2, 321), (0, 1), w] [] z_LL M P
def zU (xs : List Int) (d : Nat) (P : Option z_V → z_L → z_M → Prop) (M : z_M) : Prop := wp xs (d + 8) mX10_unit 2 [(2, 321), (0, 1), (3, 0)] [] z_LL M (fun r L1 M1 => r = none ∧ L1 = z_LL ∧ zLp xs d P M1)
def mf (xs : List Int) (b : Int → Int) (n lv tb tk dep : Int) (f : zf_S → zf_S) : Prop := ∀ (d : Nat) (P : Option z_V → z_L → z_M → Prop) (M G : z_M) (p o : Int), z_fix M → zs_m M b n (.ok p) → zf_y n p G → G 321 20 ≤ 30 → zq_l M G o dep tk 0 → (0 ≤ o ∧ o ≤ 6 * dep + lv) → zq_b M o tb → (3 ≤ lv → zt_k b n p = 18 → ¬ zq_b M o 4) →
  (∀ (M' : z_M) (e : Int × Int), zq_f M M' → (f (.ok p, G)).1 = .error e → zs_m M' b n (.error e) → P none z_LL M') →
  (∀ (M' : z_M) (q : Int) (j : Nat), zq_f M M' → (∀ i, i < o → M' 328 i = M 328 i) → (f (.ok p, G)).1 = .ok q → zs_m M' b n (.ok q) → zq_l M' (f (.ok p, G)).2 o dep tk j → (j : Int) ≤ 12 - lv - dep → zq_s b n M' q lv → zLp xs d P M') → zU xs d P M
def zq_v (lv : Int) : Int := if lv = 0 then 1 else if lv = 1 then 2 else if lv = 2 then 4 else if lv = 3 then 5 else 6
theorem zq_v_k {k : Int} (h : zf_lv k ≠ -1) : zq_t (zf_sg k) = zq_v (zf_lv k) ∧ zf_sg k ≠ 20 ∧ zf_sg k ≠ 21 ∧ zf_sg k ≠ 0 ∧ k ≠ 41 ∧ k ≠ 18 := by
  have c : k = 16 ∨ k = 17 ∨ k = 60 ∨ k = 61 ∨ k = 62 ∨ k = 43 ∨ k = 45 ∨ k = 42 ∨ k = 47 ∨ k = 37 := by
    unfold zf_lv at h
    repeat' split at h
    all_goals first | omega | exact absurd rfl h
  rcases c with rfl | rfl | rfl | rfl | rfl | rfl | rfl | rfl | rfl | rfl <;> decide
theorem zf_lv_r (k : Int) : zf_lv k = -1 ∨ zf_lv k = 0 ∨ zf_lv k = 1 ∨ zf_lv k = 2 ∨ zf_lv k = 3 ∨ zf_lv k = 4 := by
  unfold zf_lv
  repeat' split
  all_goals omega
section
variable {xs : List Int} {d : Nat} {M M' G : z_M} {b : Int → Int} {n p o dep tk t lv a : Int} {j : Nat} {P : Option z_V → z_L → z_M → Prop} {f : zf_S → zf_S}
theorem zq_f_r : zq_f M M := ⟨fun _ _ _ _ _ => rfl, fun _ _ => rfl⟩
theorem zq_f_t {M2 : z_M} (f : zq_f M M') (g : zq_f M' M2) : zq_f M M2 := ⟨fun q h1 h2 h3 h4 => by rw [g.1 q h1 h2 h3 h4, f.1 q h1 h2 h3 h4], fun i h => by rw [g.2 i h, f.2 i h]⟩
theorem zq_f_b (f : zq_f M M') : zm_b M M' := ⟨fun q hq => f.1 q (fun e => hq (by unfold zm_q; omega)) (fun e => hq (by unfold zm_q; omega)) (fun e => hq (by unfold zm_q; omega)) (fun e => hq (by unfold zm_q; omega)), fun i hi => f.2 i (fun w => hi (by unfold zm_j; omega))⟩
theorem zq_f_h (f : zs_h M M') : zq_f M M' := ⟨fun q h1 _ _ _ => f.1 q h1, fun i hi => f.2 i (fun w => hi (by unfold zs_j at w; omega))⟩
theorem zq_f_e (f : zq_e M M') : zq_f M M' := ⟨fun q h1 h2 h3 _ => f.1 q h1 h2 h3, fun i hi => f.2 i (by omega) (by omega) (by omega)⟩
theorem zq_f_u {q i v : Int} (h : q = 324 ∨ q = 325 ∨ q = 328 ∨ (q = 321 ∧ (i = 17 ∨ i = 19 ∨ i = 20 ∨ i = 22 ∨ i = 23))) : zq_f M (z_up M q i v) := ⟨fun x h1 h2 h3 h4 => z_upn (by omega), fun x hx => by
  by_cases e : q = 321
  · rw [e, z_upi (by omega) rfl]
  · rw [z_upn (fun w => e w.symm)]⟩
theorem zq_f_F (f : zq_f M M') (hF : z_fix M) : z_fix M' := zm_b_F (zq_f_b f) hF
theorem zf_lp_er {e : Int × Int} : ∀ i : Nat, zf_lp b n lv f i (.error e, G) = (.error e, G)
  | 0 => rfl
  | _ + 1 => rfl
/-- a fault ends the reading -/
theorem zLp_e {e : Int × Int} (h : zs_m M b n (.error e)) (k : P none z_LL M) : zLp xs d P M := fun w => by
  have n0 := (zs_m_e h).1
  exact gX10_readPull_30 (d := d + 8) (fun _ _ _ => k) (fun _ _ w => absurd n0 w) (fun _ w => absurd n0 w) (fun _ _ _ _ => k) (fun _ _ _ w => absurd n0 w) (fun _ _ w => absurd n0 w) (fun _ w => absurd n0 w)
/-- a sign -/
theorem q_sign {q : Int} (hF : z_fix M) (h : zs_m M b n (.ok q)) (hl : zq_l M G o dep t j) (ho : 0 ≤ o ∧ o + j ≤ 90) (hG : G 321 17 ≤ 270) (hd : 0 ≤ dep ∧ dep ≤ 7) (hlv : zf_lv (zt_k b n q) = lv) (hl1 : lv ≠ -1) (hk : zq_v lv ≤ t) (hb : zq_b M o (zq_v lv)) (hH : lv = 2 → ¬ zq_H M) (k : ∀ M2 : z_M, zq_f M M2 → (∀ i, i < o → M2 328 i = M 328 i) → M2 328 o = zf_sg (zt_k b n q) → zs_m M2 b n (.ok (zt_x b n q)) → (∀ tk, zq_l M2 G (o + 1) dep tk 0) → zU xs d P M2) : zLp xs d P M := by
  intro w
  obtain ⟨l1, l2, l3, l4, l5, l6, l7⟩ := id hl
  obtain ⟨n0, np, s6, -, -⟩ := zs_m_o h
  obtain ⟨v1, v2, v3, v4, v5, v6⟩ := zq_v_k (k := zt_k b n q) (by rw [hlv]; exact hl1)
  rw [hlv] at v1
  have bn := zq_n_b (M := M) (o := o) j
  have ri := (zt_r_i (b := b) (n := n) (p := q)).2.2.2.2
  have h41 : M 321 6 ≠ 41 := by
    rw [s6]
    exact fun c => v5 ((ri 41 (by decide)).mp c)
  have hg : zq_g (zt_k b n q) = zf_sg (zt_k b n q) := by
    unfold zq_g
    rw [if_neg (by rw [hlv]; exact hl1)]
  refine gX10_readPull_30 (d := d + 8) (fun c => absurd c (by decide)) (fun c => absurd c (by decide)) (fun c => absurd c (by decide)) (fun _ c => absurd n0 c) (fun _ c => absurd n0 c) (fun _ c => absurd n0 c) (fun _ _ => ?_)
  refine s_X10_sign (d := d + 7) h ?_
  rw [hg]
  generalize hsg : zf_sg (zt_k b n q) = sg at *
  generalize hv : zq_v lv = v at *
  have go : wp xs (d + 9) mX10_readPull 118 [(2, 321), (0, 1), (0, sg)] [(0, v), (2, 321)] z_LL M P := by
    refine gX10_readPull_118 (d := d + 8) ?_
    refine s_X10_close (d := d + 7) (o := o) (m := M 321 17) j M hF l1 (by omega) (fun i i1 i2 => ⟨(l7 i i1 i2).1, by have := (l7 i i1 i2).2; omega⟩) hb rfl (by omega) (by omega) (fun M1 f1 w19 w17 wi wk w23 => ?_)
    have F1 := zm_b_F (zq_e_b f1) hF
    have e28 : M1 328 = M 328 := f1.1 328 (by decide) (by decide) (by decide)
    have t := gX10_readPull_121 (M := M1) (xs := xs) (d := d + 8) (P := P) (x1 := 1) (x2 := sg) F1
    rw [w19, z_wid (x := o + 1) (by omega)] at t
    refine t (by omega) ?_
    have f2 : zq_f M (z_up (z_up M1 328 o sg) 321 19 (o + 1)) := zq_f_t (zq_f_e f1) (zq_f_t (zq_f_u (by omega)) (zq_f_u (by omega)))
    have c1 : zs_m M1 b n (.ok q) := by
      unfold zs_m zt_u zt_m at h ⊢
      rw [f1.1 322 (by decide) (by decide) (by decide), f1.2 5 (by decide) (by decide) (by decide), f1.2 2 (by decide) (by decide) (by decide), f1.2 3 (by decide) (by decide) (by decide), f1.2 6 (by decide) (by decide) (by decide), f1.2 7 (by decide) (by decide) (by decide), f1.2 4 (by decide) (by decide) (by decide), f1.2 8 (by decide) (by decide) (by decide), f1.2 9 (by decide) (by decide) (by decide)]
      exact h
    refine s_X10_next (d := d + 7) (zq_f_F f2 hF) (zs_m_u (by decide) (by omega) (zs_m_u (by decide) (by omega) c1)) (fun c => by rw [c] at hlv; exact hl1 (hlv.symm.trans (by decide))) (fun M3 f3 c3 => ?_)
    have f03 := zq_f_t f2 (zq_f_h f3)
    refine gX10_readPull_145 (d := d + 8) (gX10_unit_0 ?_)
    have g19 : M3 321 19 = o + 1 := by rw [f3.2 19 (by unfold zs_j; omega), z_ups]
    have gu : ∀ i, ¬ zs_j i → i ≠ 19 → M3 321 i = M1 321 i := fun i a1 a2 => by rw [f3.2 i a1, z_upi a2 rfl, z_upn (by decide)]
    have gr : ∀ x, x ≠ 321 → x ≠ 328 → M3 x = M1 x := fun x a1 a2 => by rw [f3.1 x a1, z_upn a1, z_upn a2]
    have g28 : ∀ i, M3 328 i = if i = o then sg else M 328 i := fun i => by
      rw [f3.1 328 (by decide), z_upn (by decide)]
      by_cases e : i = o
      · rw [if_pos e, e, z_ups]
      · rw [if_neg e, z_upi e rfl, e28]
    have key := k M3 f03 (fun i hi => by rw [g28, if_neg (by omega)]) (by rw [g28, if_pos rfl]) c3 (fun tk => by
      refine ⟨by rw [g19]; omega, ?_, ⟨?_, ?_⟩, ⟨?_, ?_⟩, fun k' k1 k2 => ?_, fun i i1 i2 => by omega, fun i i1 i2 => by omega⟩
      · rw [gu 23 (by unfold zs_j; omega) (by decide), w23, l2]
        unfold zq_n
        omega
      · rw [gu 20 (by unfold zs_j; omega) (by decide), f1.2 20 (by decide) (by decide) (by decide)]
        exact l3.1
      · rw [gu 22 (by unfold zs_j; omega) (by decide), f1.2 22 (by decide) (by decide) (by decide)]
        exact l3.2
      · rw [gu 17 (by unfold zs_j; omega) (by decide), w17]
        omega
      · rw [gu 17 (by unfold zs_j; omega) (by decide), w17]
        omega
      · rw [gu 17 (by unfold zs_j; omega) (by decide), w17] at k2
        rw [gr 324 (by decide) (by decide), gr 325 (by decide) (by decide)]
        by_cases e : k' < M 321 17
        · rw [(wk k' e).1, (wk k' e).2]
          exact l5 k' k1 e
        · have wi' := wi (k' - M 321 17) (by omega) (by omega)
          have l6' := l6 (k' - M 321 17) (by omega) (by omega)
          rw [show M 321 17 + (k' - M 321 17) = k' by omega] at wi' l6'
          rw [wi'.1, wi'.2, l6'.1, l6'.2]
          exact ⟨rfl, rfl⟩)
    exact wp.mono key (fun r L' M' hr => by
      obtain ⟨e1, e2, e3⟩ := hr
      subst e1
      subst e2
      exact gX10_readPull_149 (e3 _))
  refine gX10_readPull_45 (d := d + 8) (fun _ c => absurd c v4) (fun _ _ => s_X10_tight ?_) (fun c => absurd h41 c)
  rw [v1]
  refine gX10_readPull_102 (d := d + 8) (fun c => s_X10_tight ?_) (fun c => ?_)
  · rw [v1]
    exact go
  · have l2' : lv = 2 := by
      rcases zf_lv_r (zt_k b n q) with e | e | e | e | e | e
      all_goals
        rw [hlv] at e
        first
          | exact e
          | (rw [e] at hv; exact absurd (hv.trans (Classical.byContradiction c)) (by decide))
          | exact absurd e hl1
    refine s_X10_hasRelation (d := d + 7) hF (by omega) ?_
    rw [z_b_f (hH l2')]
    refine gX10_readPull_110 (d := d + 8) (fun c => absurd rfl c) (fun _ => s_X10_tight ?_)
    rw [v1]
    exact go
/-- no sign, or one that may not stand here -/
theorem q_stop {q : Int} (hF : z_fix M) (h : zs_m M b n (.ok q)) (h19 : 0 ≤ M 321 19 ∧ M 321 19 ≤ 100) (hs : zq_s b n M q 0) (h41 : zt_k b n q = 41 → ¬ zq_B M) (kB : zq_B M → ∀ M' : z_M, zs_h M M' → zs_m M' b n (.error (zs_f b n q 2)) → P none z_LL M') (kN : ¬ zq_B M → wp xs (d + 8) mX10_close 0 [(2, 321), (0, 0)] [] z_LL M (fun r L1 M1 => r = none ∧ L1 = z_LL ∧ P none z_LL M1)) : zLp xs d P M := by
  intro w
  obtain ⟨n0, np, s6, -, -⟩ := zs_m_o h
  have ri := (zt_r_i (b := b) (n := n) (p := q)).2.2.2.2
  have e41 : M 321 6 = 41 ↔ zt_k b n q = 41 := by
    rw [s6]
    exact ri 41 (by decide)
  have out : ∀ w : z_V, wp xs (d + 9) mX10_readPull 30 [(2, 321), (0, 0), w] [] z_LL M P := fun w => by
    refine gX10_readPull_30 (d := d + 8) (fun _ c => absurd n0 c) (fun _ c => absurd n0 c) (fun _ _ => ?_) (fun c => absurd rfl c) (fun c => absurd rfl c) (fun c => absurd rfl c) (fun c => absurd rfl c)
    refine s_X10_hasBracket hF (by omega) ?_
    refine gX10_readPull_168 (d := d + 8) (fun _ c => absurd n0 c) (fun c _ => ?_) (fun c => ?_)
    · exact wp.mono (kN (zf_b0.mp c)) (fun r L' M' hr => by
        obtain ⟨e1, e2, e3⟩ := hr
        subst e1
        subst e2
        exact gX10_readPull_188 e3)
    · have yB : zq_B M := Classical.byContradiction (fun e => c (z_b_f e))
      refine s_X10_wrong h (by decide) (fun M1 f1 c1 => ?_)
      have n1 := (zs_m_e (e := zs_f b n q 2) c1).1
      exact gX10_readPull_176 (d := d + 8) (fun _ => kB yB M1 f1 c1) (fun e => absurd n1 e)
  refine gX10_readPull_30 (d := d + 8) (fun c => absurd c (by decide)) (fun c => absurd c (by decide)) (fun c => absurd c (by decide)) (fun _ c => absurd n0 c) (fun _ c => absurd n0 c) (fun _ c => absurd n0 c) (fun _ _ => ?_)
  refine s_X10_sign (d := d + 7) h ?_
  refine gX10_readPull_45 (d := d + 8) (fun _ c => out _) (fun c1 c2 => s_X10_tight ?_) (fun c => s_X10_hasBracket hF (by omega) ?_)
  · have nl : zf_lv (zt_k b n q) ≠ -1 := fun e => c2 (by unfold zq_g; rw [if_pos e])
    have hg : zq_g (zt_k b n q) = zf_sg (zt_k b n q) := by
      unfold zq_g
      rw [if_neg nl]
    have l2 : zf_lv (zt_k b n q) = 2 := by
      have := zf_lv_r (zt_k b n q)
      have := hs.1 (by decide)
      have := hs.2.1 (by decide)
      have := hs.2.2.2.1 (by decide)
      have := hs.2.2.2.2 (by decide)
      omega
    have v := (zq_v_k nl).1
    rw [l2] at v
    rw [hg, v]
    refine gX10_readPull_102 (d := d + 8) (fun c => absurd rfl c) (fun _ => ?_)
    refine s_X10_hasRelation (d := d + 7) hF (by omega) ?_
    rw [z_b_t (hs.2.2.1 (by decide) l2)]
    exact gX10_readPull_110 (d := d + 8) (fun _ => out _) (fun c => absurd (by decide) c)
  · have k41 : zt_k b n q = 41 := e41.mp (Classical.byContradiction c)
    rw [z_b_f (h41 k41), k41]
    exact gX10_readPull_59 (d := d + 8) (fun _ _ => out _) (fun _ c => absurd (by decide) c) (fun c => absurd rfl c)
/-- what waits behind a sign, and the sign -/
theorem q_comb {tk2 dep2 x : Int} (hl : zq_l M G (o + 1) dep2 tk2 j) (hx : M 328 o = x) (h20 : x ≠ 20) (ht : tk ≤ zq_t x) (ht2 : tk ≤ tk2) (hd : dep2 = dep + if x = 21 then 1 else 0) (hG : G 321 17 < 270) : zq_l M (zf_add (zq_c x).1 (zq_c x).2 G) o dep tk (j + 1) := by
  obtain ⟨l1, l2, l3, l4, l5, l6, l7⟩ := hl
  obtain ⟨r1, r2, r3, r4, r5, r6⟩ := zf_add_r (so := (zq_c x).1) (ar := (zq_c x).2) hG
  refine ⟨by omega, ?_, ?_, ?_, fun k k1 k2 => ?_, fun i i1 i2 => ?_, fun i i1 i2 => ?_⟩
  · rw [l2, hd, zq_n_s, hx]
    omega
  · rw [r2 20 (by decide)]
    exact l3
  · rw [r3]
    omega
  · rw [(r4 k (by omega)).1, (r4 k (by omega)).2]
    exact l5 k k1 k2
  · by_cases e : i = j
    · rw [e, show M 321 17 + (j : Int) = G 321 17 by omega, r5, r6, show o + ((j + 1 : Nat) : Int) - 1 - (j : Int) = o by omega, hx]
      exact ⟨rfl, rfl⟩
    · rw [(r4 _ (by omega)).1, (r4 _ (by omega)).2, show o + ((j + 1 : Nat) : Int) - 1 - i = o + 1 + (j : Int) - 1 - i by omega]
      exact l6 i i1 (by omega)
  · by_cases e : i = o
    · rw [e, hx]
      exact ⟨h20, ht⟩
    · have := l7 i (by omega) (by omega)
      exact ⟨this.1, by omega⟩
theorem zq_s_d {q : Int} (hlv : lv = 0 ∨ lv = 1 ∨ lv = 3 ∨ lv = 4) (h : zq_s b n M q (lv + 1)) (hn : zf_lv (zt_k b n q) ≠ lv) : zq_s b n M q lv := by
  obtain ⟨h1, h2, h3, h4, h5⟩ := h
  refine ⟨fun w => ?_, fun w => ?_, fun w => h3 (by omega), fun w => ?_, fun w => ?_⟩
  · by_cases e : lv = 4
    · rw [← e]; exact hn
    · exact h1 (by omega)
  · by_cases e : lv = 3
    · rw [← e]; exact hn
    · exact h2 (by omega)
  · by_cases e : lv = 1
    · rw [← e]; exact hn
    · exact h4 (by omega)
  · have e : lv = 0 := by omega
    rw [← e]; exact hn
theorem zq_v_b {lv : Int} (hlv : lv = 0 ∨ lv = 1 ∨ lv = 3 ∨ lv = 4) : 1 ≤ zq_v lv ∧ zq_v lv ≤ 6 ∧ lv + 1 ≤ zq_v lv := by
  rcases hlv with rfl | rfl | rfl | rfl <;> decide
theorem mf_lp {tb2 tk2 : Int} {M0 : z_M} (hlv : lv = 0 ∨ lv = 1 ∨ lv = 3 ∨ lv = 4) (hd : 0 ≤ dep ∧ dep ≤ 7) (ha : 0 ≤ a ∧ a ≤ 7) (c1 : zq_v lv < tb2) (c2 : zq_v lv ≤ tk2) (hf : mf xs b n (lv + 1) tb2 tk2 dep f) (hex : zf_ex a n f) (hy : zf_y n p G) (ho : 0 ≤ o ∧ o ≤ 6 * dep + lv) (hb : zq_b M0 o (zq_v lv)) : ∀ (i : Nat) (M : z_M) (q : Int) (G1 : z_M) (j : Nat), z_fix M → zq_f M0 M → (∀ x, x < o → M 328 x = M0 328 x) → zs_m M b n (.ok q) → zf_x a n p G (.ok q, G1) → n ≤ q + i → zq_l M G1 o dep (zq_v lv) j → (j : Int) ≤ 12 - lv - dep → zq_s b n M q (lv + 1) →
  (∀ (M' : z_M) (e : Int × Int), zq_f M0 M' → (zf_lp b n lv f i (.ok q, G1)).1 = .error e → zs_m M' b n (.error e) → P none z_LL M') →
  (∀ (M' : z_M) (q' : Int) (j' : Nat), zq_f M0 M' → (∀ i, i < o → M' 328 i = M0 328 i) → (zf_lp b n lv f i (.ok q, G1)).1 = .ok q' → zs_m M' b n (.ok q') → zq_l M' (zf_lp b n lv f i (.ok q, G1)).2 o dep (zq_v lv) j' → (j' : Int) ≤ 12 - lv - dep → zq_s b n M' q' lv → zLp xs d P M') → zLp xs d P M
  | 0, M, q, G1, j, hF, f0, r0, h, hx, hn, hl, hj, hs, kE, kO => by
    have k26 : zt_k b n q = 26 := by
      have := z_nd_b (ok := z_isb) (b := b) (n := n) (p := q)
      unfold zt_k zt_s
      rw [if_pos (by omega)]
    refine kO M q j f0 r0 rfl h hl hj (zq_s_d hlv hs ?_)
    rw [k26]
    rcases hlv with rfl | rfl | rfl | rfl <;> decide
  | i + 1, M, q, G1, j, hF, f0, r0, h, hx, hn, hl, hj, hs, kE, kO => by
    rw [zf_lp_o] at kE kO
    by_cases c : zf_lv (zt_k b n q) = lv
    · rw [if_pos c] at kE kO
      have hx1 := hx q rfl
      dsimp only at hx1
      have hy17 := hy.2.1
      have hn1 := zf_nxt (b := b) (n := n) (p := q) ⟨by have := hy.1; omega, hx1.1.2⟩ (zf_lv_26 c (by omega))
      have hy1 := zf_x_y (s := (.ok q, G1)) (p2 := zt_x b n q) (by omega) hy hx rfl ⟨by omega, hn1.2⟩
      dsimp only at hy1
      have hy18 := hy1.2.1
      have vb := zq_v_b hlv
      obtain ⟨v1, v2, v3, v4, v5, v6⟩ := zq_v_k (k := zt_k b n q) (by rw [c]; omega)
      rw [c] at v1
      refine q_sign hF h hl (by omega) (by omega) hd c (by omega) (Int.le_refl _) ?_ (fun w => by omega) (fun M2 f2 r2 e2 c2' l2 => ?_)
      · unfold zq_b at hb ⊢
        rcases hb with w | w
        · exact Or.inl w
        · by_cases w0 : o = 0
          · exact Or.inl w0
          · rw [r0 (o - 1) (by omega)]
            exact Or.inr w
      · have f02 := zq_f_t f0 f2
        refine hf d P M2 G1 (zt_x b n q) (o + 1) (zq_f_F f2 hF) c2' hy1 (by omega) (l2 _) (by omega) ?_ (fun w _ => ?_) (fun M3 e f3 e3 c3 => ?_) (fun M3 q3 j3 f3 r3 e3 c3 l3 hj3 s3 => ?_)
        · unfold zq_b
          rw [show o + 1 - 1 = o by omega, e2, v1]
          exact Or.inr (Or.inr c1)
        · unfold zq_b
          rw [show o + 1 - 1 = o by omega, e2, v1]
          have : 5 ≤ zq_v lv := by
            rcases hlv with rfl | rfl | rfl | rfl
            · omega
            · omega
            · decide
            · decide
          omega
        · refine kE M3 e (zq_f_t f02 f3) ?_ c3
          have : f (.ok (zt_x b n q), G1) = (.error e, (f (.ok (zt_x b n q), G1)).2) := Prod.ext e3 rfl
          rw [this]
          exact congrArg Prod.fst (zf_lp_er i)
        · have hx3 := hex _ _ hy1
          have e3' : f (.ok (zt_x b n q), G1) = (.ok q3, (f (.ok (zt_x b n q), G1)).2) := Prod.ext e3 rfl
          have hx4 := zf_x_two (ar := zf_sg (zt_k b n q)) ha hy hx hn1 hx3
          have hx3q := hx3 q3 e3
          generalize hG3 : (f (.ok (zt_x b n q), G1)).2 = G3 at *
          rw [e3'] at kE kO hx3 hx4
          have eo : M3 328 o = zf_sg (zt_k b n q) := by rw [r3 o (by omega), e2]
          have cc := q_comb (tk := zq_v lv) (dep := dep) l3 eo v2 (by omega) c2 (by rw [if_neg v3]; omega) (by omega)
          rw [show zq_c (zf_sg (zt_k b n q)) = (3, zf_sg (zt_k b n q)) by unfold zq_c; rw [if_neg v3]] at cc
          refine mf_lp hlv hd ha c1 c2 hf hex hy ho hb i M3 q3 (zf_add 3 (zf_sg (zt_k b n q)) G3) (j3 + 1) (zq_f_F f3 (zq_f_F f2 hF)) (zq_f_t f02 f3) (fun x hx => by rw [r3 x (by omega), r2 x hx, r0 x hx]) c3 hx4 (by omega) cc (by omega) s3 kE kO
    · rw [if_neg c] at kE kO
      exact kO M q j f0 r0 rfl h hl hj (zq_s_d hlv hs c)
theorem mf_bin {tb2 tk2 : Int} (hlv : lv = 0 ∨ lv = 1 ∨ lv = 3 ∨ lv = 4) (hn : n ≤ 1600) (hd : 0 ≤ dep ∧ dep ≤ 7) (ha : 0 ≤ a ∧ a ≤ 7) (c1 : zq_v lv < tb2) (c2 : zq_v lv ≤ tk2) (hf : mf xs b n (lv + 1) tb2 tk2 dep f) (hex : zf_ex a n f) : mf xs b n lv (zq_v lv) (zq_v lv) dep (zf_bin b n lv f) := by
  intro d P M G p o hF h hy h30 hl ho hb hnot kE kO
  have vb := zq_v_b hlv
  have hl2 : ∀ tk, zq_l M G o dep tk 0 := fun tk => by
    obtain ⟨l1, l2, l3, l4, l5, l6, l7⟩ := hl
    exact ⟨l1, l2, l3, l4, l5, l6, fun i i1 i2 => by omega⟩
  refine hf d P M G p o hF h hy h30 (hl2 _) (by omega) ?_ (fun w w2 => hnot (by omega) w2) (fun M1 e f1 e1 c1' => ?_) (fun M1 q j f1 r1 e1 c1' l1 hj s1 => ?_)
  · unfold zq_b at hb ⊢
    omega
  · refine kE M1 e f1 ?_ c1'
    unfold zf_bin
    have : f (.ok p, G) = (.error e, (f (.ok p, G)).2) := Prod.ext e1 rfl
    rw [this]
    exact congrArg Prod.fst (zf_lp_er 1600)
  · have e1' : f (.ok p, G) = (.ok q, (f (.ok p, G)).2) := Prod.ext e1 rfl
    have hx := hex p G hy
    have hxq := hx q e1
    unfold zf_bin at kE kO
    generalize hG1 : (f (.ok p, G)).2 = G1 at *
    rw [e1'] at kE kO hx
    refine mf_lp (M0 := M) hlv hd ha c1 c2 hf hex hy ho hb 1600 M1 q G1 j (zq_f_F f1 hF) f1 r1 c1' hx (by have := hy.1; omega) ?_ (by omega) s1 kE kO
    obtain ⟨l1, l2, l3, l4, l5, l6, l7⟩ := l1
    exact ⟨l1, l2, l3, l4, l5, l6, fun i i1 i2 => ⟨(l7 i i1 i2).1, by have := (l7 i i1 i2).2; omega⟩⟩
end
