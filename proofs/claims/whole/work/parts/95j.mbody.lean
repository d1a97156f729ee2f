/-! THE MODEL READS LINES -/
set_option maxRecDepth 20000 in
theorem gX10_readGorge_0 {xs : List Int} {d : Nat} {M : z_M} {P : Option z_V → z_L → z_M → Prop} 
    (l1 : wp xs d mX10_token 0 [(2, 321), (3, 0), (3, 0)] [] z_LL M (fun r L1 M1 => wp xs (d + 1) mX10_readGorge 4 [(2, 321)] (z_ol r ++ []) L1 M1 P)) :
    wp xs (d + 1) mX10_readGorge 0 [(2, 321)] [] z_LL M P := by
  refine wp_run 1 (pc' := 1) (ls' := [(2, 321)]) (st' := [(2, 321)]) rfl ?_
  refine wp_callv (pc' := 4) (as := [(2, 321)]) (rest := []) (ls1 := [(2, 321), (3, 0), (3, 0)]) rfl rfl rfl rfl rfl rfl ?_
  exact l1
set_option maxRecDepth 20000 in
theorem gX10_readGorge_4 {xs : List Int} {d : Nat} {M : z_M} {P : Option z_V → z_L → z_M → Prop} 
    (l1 : wp xs d mX10_toldNumber 0 [(2, 321), (0, 2), (0, 5), (3, 0)] [] z_LL M (fun r L1 M1 => wp xs (d + 1) mX10_readGorge 11 [(2, 321)] (z_ol r ++ [(2, 321)]) L1 M1 P)) :
    wp xs (d + 1) mX10_readGorge 4 [(2, 321)] [] z_LL M P := by
  refine wp_run 4 (pc' := 8) (ls' := [(2, 321)]) (st' := [(0, 5), (0, 2), (2, 321), (2, 321)]) rfl ?_
  refine wp_callv (pc' := 11) (as := [(2, 321), (0, 2), (0, 5)]) (rest := [(2, 321)]) (ls1 := [(2, 321), (0, 2), (0, 5), (3, 0)]) rfl rfl rfl rfl rfl rfl ?_
  exact l1
set_option maxRecDepth 20000 in
theorem gX10_readGorge_11 {xs : List Int} {d : Nat} {M : z_M} {P : Option z_V → z_L → z_M → Prop} {s1 : Int} 
    (l1 : wp xs d mX10_told 0 [(2, 321), (1, 25209), (3, 0), (0, 2), (0, 5)] [] z_LL (z_up M 321 36 s1) (fun r L1 M1 => wp xs (d + 1) mX10_readGorge 24 [(2, 321)] (z_ol r ++ [(2, 321)]) L1 M1 P)) :
    wp xs (d + 1) mX10_readGorge 11 [(2, 321)] [(0, s1), (2, 321)] z_LL M P := by
  refine wp_pf (pc' := 14) rfl rfl rfl rfl (fun z => absurd z (by decide)) (fun z => absurd z (by decide)) ?_
  refine wp_run 5 (pc' := 21) (ls' := [(2, 321)]) (st' := [(0, 5), (0, 2), (1, 25209), (2, 321), (2, 321)]) rfl ?_
  refine wp_callv (pc' := 24) (as := [(2, 321), (1, 25209), (0, 2), (0, 5)]) (rest := [(2, 321)]) (ls1 := [(2, 321), (1, 25209), (3, 0), (0, 2), (0, 5)]) rfl rfl rfl rfl rfl rfl ?_
  exact l1
set_option maxRecDepth 20000 in
theorem gX10_readGorge_24 {xs : List Int} {d : Nat} {M : z_M} {P : Option z_V → z_L → z_M → Prop} {s1 : Int} 
    (l1 : P none z_LL (z_up M 321 37 s1)) :
    wp xs d mX10_readGorge 24 [(2, 321)] [(0, s1), (2, 321)] z_LL M P := by
  refine wp_pf (pc' := 27) rfl rfl rfl rfl (fun z => absurd z (by decide)) (fun z => absurd z (by decide)) ?_
  exact wp_ret rfl rfl (l1)
set_option maxRecDepth 20000 in
theorem gX10_readGrass_0 {xs : List Int} {d : Nat} {M : z_M} {P : Option z_V → z_L → z_M → Prop} 
    (l1 : wp xs d mX10_token 0 [(2, 321), (3, 0), (3, 0)] [] z_LL M (fun r L1 M1 => wp xs (d + 1) mX10_readGrass 4 [(2, 321), (3, 0), (3, 0), (3, 0)] (z_ol r ++ []) L1 M1 P)) :
    wp xs (d + 1) mX10_readGrass 0 [(2, 321), (3, 0), (3, 0), (3, 0)] [] z_LL M P := by
  refine wp_run 1 (pc' := 1) (ls' := [(2, 321), (3, 0), (3, 0), (3, 0)]) (st' := [(2, 321)]) rfl ?_
  refine wp_callv (pc' := 4) (as := [(2, 321)]) (rest := []) (ls1 := [(2, 321), (3, 0), (3, 0)]) rfl rfl rfl rfl rfl rfl ?_
  exact l1
set_option maxRecDepth 20000 in
theorem gX10_readGrass_4 {xs : List Int} {d : Nat} {M : z_M} {P : Option z_V → z_L → z_M → Prop} 
    (l1 : wp xs d mX10_toldNumber 0 [(2, 321), (0, 0), (0, (z_w ((M 321 36) - 1))), (3, 0)] [] z_LL M (fun r L1 M1 => wp xs (d + 1) mX10_readGrass 15 [(2, 321), (3, 0), (3, 0), (3, 0)] (z_ol r ++ []) L1 M1 P)) :
    wp xs (d + 1) mX10_readGrass 4 [(2, 321), (3, 0), (3, 0), (3, 0)] [] z_LL M P := by
  refine wp_run 3 (pc' := 7) (ls' := [(2, 321), (3, 0), (3, 0), (3, 0)]) (st' := [(2, 321), (0, 0), (2, 321)]) rfl ?_
  refine wp_gf (pc' := 10) (t := 0) (v := (M 321 36)) rfl rfl (by decide) rfl rfl rfl ?_
  refine wp_run 2 (pc' := 12) (ls' := [(2, 321), (3, 0), (3, 0), (3, 0)]) (st' := [(0, (z_w ((M 321 36) - 1))), (0, 0), (2, 321)]) rfl ?_
  refine wp_callv (pc' := 15) (as := [(2, 321), (0, 0), (0, (z_w ((M 321 36) - 1)))]) (rest := []) (ls1 := [(2, 321), (0, 0), (0, (z_w ((M 321 36) - 1))), (3, 0)]) rfl rfl rfl rfl rfl rfl ?_
  exact l1
set_option maxRecDepth 20000 in
theorem gX10_readGrass_15 {xs : List Int} {d : Nat} {M : z_M} {P : Option z_V → z_L → z_M → Prop} {s0 : Int} (hF : z_fix M) 
    (l1 : ((M 321 2) ≠ 0) → wp xs d mX10_readGrass 66 [(2, 321), (0, s0), (3, 0), (3, 0)] [] z_LL M P)
    (l2 : (¬ ((M 321 2) ≠ 0)) → ((M 321 6) ≠ 2) → wp xs d mX10_readGrass 66 [(2, 321), (0, s0), (3, 0), (3, 0)] [] z_LL M P)
    (l3 : (¬ ((M 321 2) ≠ 0)) → (¬ ((M 321 6) ≠ 2)) → ((M 321 37) ≤ (M 321 8)) → wp xs d mX10_readGrass 66 [(2, 321), (0, s0), (3, 0), (3, 0)] [] z_LL M P)
    (b1 : (¬ ((M 321 2) ≠ 0)) → (¬ ((M 321 6) ≠ 2)) → (¬ ((M 321 37) ≤ (M 321 8))) → 0 ≤ (z_w ((z_w ((M 321 36) * (M 321 8))) + s0)) ∧ (z_w ((z_w ((M 321 36) * (M 321 8))) + s0)) < 25)
    (l4 : (¬ ((M 321 2) ≠ 0)) → (¬ ((M 321 6) ≠ 2)) → (¬ ((M 321 37) ≤ (M 321 8))) → ((M 331 (z_w ((z_w ((M 321 36) * (M 321 8))) + s0))) < 0) → wp xs d mX10_readGrass 66 [(2, 321), (0, s0), (3, 0), (3, 0)] [] z_LL M P)
    (l5 : (¬ ((M 321 2) ≠ 0)) → (¬ ((M 321 6) ≠ 2)) → (¬ ((M 321 37) ≤ (M 321 8))) → (¬ ((M 331 (z_w ((z_w ((M 321 36) * (M 321 8))) + s0))) < 0)) → wp xs d mX10_readGrass 61 [(2, 321), (0, s0), (3, 0), (3, 0)] [] z_LL M P) :
    wp xs d mX10_readGrass 15 [(2, 321), (3, 0), (3, 0), (3, 0)] [(0, s0)] z_LL M P := by
  refine wp_run 2 (pc' := 17) (ls' := [(2, 321), (0, s0), (3, 0), (3, 0)]) (st' := [(2, 321)]) rfl ?_
  refine wp_gf (pc' := 20) (t := 0) (v := (M 321 2)) rfl rfl (by decide) rfl rfl rfl ?_
  refine wp_if1 rfl rfl rfl (fun (c1 : (M 321 2) ≠ 0) => ?_) (fun (c1 : ¬ ((M 321 2) ≠ 0)) => ?_)
  · exact l1 c1
  · refine wp_run 1 (pc' := 24) (ls' := [(2, 321), (0, s0), (3, 0), (3, 0)]) (st' := [(2, 321)]) rfl ?_
    refine wp_gf (pc' := 27) (t := 0) (v := (M 321 6)) rfl rfl (by decide) rfl rfl rfl ?_
    refine wp_run 1 (pc' := 28) (ls' := [(2, 321), (0, s0), (3, 0), (3, 0)]) (st' := [(0, 2), (0, (M 321 6))]) rfl ?_
    refine wp_if2 rfl rfl rfl (fun (c2 : (M 321 6) ≠ 2) => ?_) (fun (c2 : ¬ ((M 321 6) ≠ 2)) => ?_)
    · exact l2 c1 c2
    · refine wp_run 1 (pc' := 32) (ls' := [(2, 321), (0, s0), (3, 0), (3, 0)]) (st' := [(2, 321)]) rfl ?_
      refine wp_gf (pc' := 35) (t := 0) (v := (M 321 8)) rfl rfl (by decide) rfl rfl rfl ?_
      refine wp_run 1 (pc' := 36) (ls' := [(2, 321), (0, s0), (3, 0), (3, 0)]) (st' := [(2, 321), (0, (M 321 8))]) rfl ?_
      refine wp_gf (pc' := 39) (t := 0) (v := (M 321 37)) rfl rfl (by decide) rfl rfl rfl ?_
      refine wp_if2 rfl rfl rfl (fun (c3 : (M 321 37) ≤ (M 321 8)) => ?_) (fun (c3 : ¬ ((M 321 37) ≤ (M 321 8))) => ?_)
      · exact l3 c1 c2 c3
      · refine wp_run 1 (pc' := 43) (ls' := [(2, 321), (0, s0), (3, 0), (3, 0)]) (st' := [(2, 321)]) rfl ?_
        refine wp_gf (pc' := 46) (t := 2) (v := 331) rfl rfl (by decide) rfl rfl (fx_321_25 hF) ?_
        refine wp_run 1 (pc' := 47) (ls' := [(2, 321), (0, s0), (3, 0), (3, 0)]) (st' := [(2, 321), (2, 331)]) rfl ?_
        refine wp_gf (pc' := 50) (t := 0) (v := (M 321 36)) rfl rfl (by decide) rfl rfl rfl ?_
        refine wp_run 1 (pc' := 51) (ls' := [(2, 321), (0, s0), (3, 0), (3, 0)]) (st' := [(2, 321), (0, (M 321 36)), (2, 331)]) rfl ?_
        refine wp_gf (pc' := 54) (t := 0) (v := (M 321 8)) rfl rfl (by decide) rfl rfl rfl ?_
        refine wp_run 3 (pc' := 57) (ls' := [(2, 321), (0, s0), (3, 0), (3, 0)]) (st' := [(0, (z_w ((z_w ((M 321 36) * (M 321 8))) + s0))), (2, 331)]) rfl ?_
        refine wp_iald (pc' := 58) (v := (M 331 (z_w ((z_w ((M 321 36) * (M 321 8))) + s0)))) rfl rfl rfl (b1 c1 c2 c3) rfl ?_
        refine wp_if1 rfl rfl rfl (fun (c4 : (M 331 (z_w ((z_w ((M 321 36) * (M 321 8))) + s0))) < 0) => ?_) (fun (c4 : ¬ ((M 331 (z_w ((z_w ((M 321 36) * (M 321 8))) + s0))) < 0)) => ?_)
        · exact l4 c1 c2 c3 c4
        · exact l5 c1 c2 c3 c4
set_option maxRecDepth 20000 in
theorem gX10_readGrass_61 {xs : List Int} {d : Nat} {M : z_M} {P : Option z_V → z_L → z_M → Prop} {x1 : Int} 
    (l1 : wp xs d mX10_wrong 0 [(2, 321), (0, 3)] [] z_LL M (fun r L1 M1 => wp xs (d + 1) mX10_readGrass 66 [(2, 321), (0, x1), (3, 0), (3, 0)] (z_ol r ++ []) L1 M1 P)) :
    wp xs (d + 1) mX10_readGrass 61 [(2, 321), (0, x1), (3, 0), (3, 0)] [] z_LL M P := by
  refine wp_run 2 (pc' := 63) (ls' := [(2, 321), (0, x1), (3, 0), (3, 0)]) (st' := [(0, 3), (2, 321)]) rfl ?_
  refine wp_callv (pc' := 66) (as := [(2, 321), (0, 3)]) (rest := []) (ls1 := [(2, 321), (0, 3)]) rfl rfl rfl rfl rfl rfl ?_
  exact l1
set_option maxRecDepth 20000 in
theorem gX10_readGrass_66 {xs : List Int} {d : Nat} {M : z_M} {P : Option z_V → z_L → z_M → Prop} {x1 : Int} 
    (l1 : wp xs d mX10_toldNumber 0 [(2, 321), (0, 0), (0, (z_w ((M 321 37) - 1))), (3, 0)] [] z_LL M (fun r L1 M1 => wp xs (d + 1) mX10_readGrass 81 [(2, 321), (0, x1), (3, 0), (3, 0)] (z_ol r ++ [(0, (M 321 36))]) L1 M1 P)) :
    wp xs (d + 1) mX10_readGrass 66 [(2, 321), (0, x1), (3, 0), (3, 0)] [] z_LL M P := by
  refine wp_run 1 (pc' := 67) (ls' := [(2, 321), (0, x1), (3, 0), (3, 0)]) (st' := [(2, 321)]) rfl ?_
  refine wp_gf (pc' := 70) (t := 0) (v := (M 321 36)) rfl rfl (by decide) rfl rfl rfl ?_
  refine wp_run 3 (pc' := 73) (ls' := [(2, 321), (0, x1), (3, 0), (3, 0)]) (st' := [(2, 321), (0, 0), (2, 321), (0, (M 321 36))]) rfl ?_
  refine wp_gf (pc' := 76) (t := 0) (v := (M 321 37)) rfl rfl (by decide) rfl rfl rfl ?_
  refine wp_run 2 (pc' := 78) (ls' := [(2, 321), (0, x1), (3, 0), (3, 0)]) (st' := [(0, (z_w ((M 321 37) - 1))), (0, 0), (2, 321), (0, (M 321 36))]) rfl ?_
  refine wp_callv (pc' := 81) (as := [(2, 321), (0, 0), (0, (z_w ((M 321 37) - 1)))]) (rest := [(0, (M 321 36))]) (ls1 := [(2, 321), (0, 0), (0, (z_w ((M 321 37) - 1))), (3, 0)]) rfl rfl rfl rfl rfl rfl ?_
  exact l1
set_option maxRecDepth 20000 in
theorem gX10_readGrass_81 {xs : List Int} {d : Nat} {M : z_M} {P : Option z_V → z_L → z_M → Prop} {x1 : Int} {s0 : Int} {s1 : Int} 
    (l1 : wp xs d mX10_toldNumber 0 [(2, 321), (0, 0), (0, 9), (3, 0)] [] z_LL M (fun r L1 M1 => wp xs (d + 1) mX10_readGrass 92 [(2, 321), (0, x1), (0, (z_w ((z_w (s0 * s1)) + x1))), (3, 0)] (z_ol r ++ []) L1 M1 P)) :
    wp xs (d + 1) mX10_readGrass 81 [(2, 321), (0, x1), (3, 0), (3, 0)] [(0, s1), (0, s0)] z_LL M P := by
  refine wp_run 7 (pc' := 89) (ls' := [(2, 321), (0, x1), (0, (z_w ((z_w (s0 * s1)) + x1))), (3, 0)]) (st' := [(0, 9), (0, 0), (2, 321)]) rfl ?_
  refine wp_callv (pc' := 92) (as := [(2, 321), (0, 0), (0, 9)]) (rest := []) (ls1 := [(2, 321), (0, 0), (0, 9), (3, 0)]) rfl rfl rfl rfl rfl rfl ?_
  exact l1
set_option maxRecDepth 20000 in
theorem gX10_readGrass_92 {xs : List Int} {d : Nat} {M : z_M} {P : Option z_V → z_L → z_M → Prop} {x1 : Int} {x2 : Int} {s0 : Int} (hF : z_fix M) 
    (b1 : ((M 321 2) ≤ 0) → 0 ≤ x2 ∧ x2 < 25)
    (l1 : ((M 321 2) ≤ 0) → P none z_LL (z_up (z_up M 331 x2 s0) 321 39 (z_w ((M 321 39) + 1))))
    (l2 : (¬ ((M 321 2) ≤ 0)) → P none z_LL M) :
    wp xs d mX10_readGrass 92 [(2, 321), (0, x1), (0, x2), (3, 0)] [(0, s0)] z_LL M P := by
  refine wp_run 2 (pc' := 94) (ls' := [(2, 321), (0, x1), (0, x2), (0, s0)]) (st' := [(2, 321)]) rfl ?_
  refine wp_gf (pc' := 97) (t := 0) (v := (M 321 2)) rfl rfl (by decide) rfl rfl rfl ?_
  refine wp_if1 rfl rfl rfl (fun (c1 : (M 321 2) ≤ 0) => ?_) (fun (c1 : ¬ ((M 321 2) ≤ 0)) => ?_)
  · refine wp_run 1 (pc' := 102) (ls' := [(2, 321), (0, x1), (0, x2), (0, s0)]) (st' := [(2, 321)]) rfl ?_
    refine wp_gf (pc' := 105) (t := 2) (v := 331) rfl rfl (by decide) rfl rfl (fx_321_25 hF) ?_
    refine wp_run 2 (pc' := 107) (ls' := [(2, 321), (0, x1), (0, x2), (0, s0)]) (st' := [(0, s0), (0, x2), (2, 331)]) rfl ?_
    refine wp_iast (pc' := 108) rfl rfl rfl (b1 c1) ?_
    refine wp_run 2 (pc' := 110) (ls' := [(2, 321), (0, x1), (0, x2), (0, s0)]) (st' := [(2, 321), (2, 321)]) rfl ?_
    refine wp_gf (pc' := 113) (t := 0) (v := (M 321 39)) rfl rfl (by decide) rfl rfl (z_upq (by decide) rfl) ?_
    refine wp_run 2 (pc' := 115) (ls' := [(2, 321), (0, x1), (0, x2), (0, s0)]) (st' := [(0, (z_w ((M 321 39) + 1))), (2, 321)]) rfl ?_
    refine wp_pf (pc' := 118) rfl rfl rfl rfl (fun z => absurd z (by decide)) (fun z => absurd z (by decide)) ?_
    exact wp_ret rfl rfl (l1 c1)
  · exact wp_ret rfl rfl (l2 c1)
set_option maxRecDepth 20000 in
theorem gX10_readFlock_0 {xs : List Int} {d : Nat} {M : z_M} {P : Option z_V → z_L → z_M → Prop} 
    (l1 : wp xs d mX10_token 0 [(2, 321), (3, 0), (3, 0)] [] z_LL M (fun r L1 M1 => wp xs (d + 1) mX10_readFlock 4 [(2, 321), (3, 0), (3, 0), (3, 0)] (z_ol r ++ []) L1 M1 P)) :
    wp xs (d + 1) mX10_readFlock 0 [(2, 321), (3, 0), (3, 0), (3, 0)] [] z_LL M P := by
  refine wp_run 1 (pc' := 1) (ls' := [(2, 321), (3, 0), (3, 0), (3, 0)]) (st' := [(2, 321)]) rfl ?_
  refine wp_callv (pc' := 4) (as := [(2, 321)]) (rest := []) (ls1 := [(2, 321), (3, 0), (3, 0)]) rfl rfl rfl rfl rfl rfl ?_
  exact l1
set_option maxRecDepth 20000 in
theorem gX10_readFlock_4 {xs : List Int} {d : Nat} {M : z_M} {P : Option z_V → z_L → z_M → Prop} 
    (l1 : ((M 321 6 = 1 ∧ ¬ z_own (M 321 9))) → wp xs (d + 1) mX10_find 0 [(2, 321), (3, 0), (3, 0)] [] z_LL M (fun r L1 M1 => wp xs (d + 2) mX10_readFlock 23 [(2, 321), (3, 0), (3, 0), (3, 0)] (z_ol r ++ []) L1 M1 P))
    (l2 : (¬ (M 321 6 = 1 ∧ ¬ z_own (M 321 9))) → wp xs (d + 1) mX10_wrong 0 [(2, 321), (0, 2)] [] z_LL M (fun r L1 M1 => wp xs (d + 2) mX10_readFlock 16 [(2, 321), (3, 0), (3, 0), (3, 0)] (z_ol r ++ []) L1 M1 P)) :
    wp xs (d + 2) mX10_readFlock 4 [(2, 321), (3, 0), (3, 0), (3, 0)] [] z_LL M P := by
  refine wp_run 1 (pc' := 5) (ls' := [(2, 321), (3, 0), (3, 0), (3, 0)]) (st' := [(2, 321)]) rfl ?_
  refine wp_callv (pc' := 8) (as := [(2, 321)]) (rest := []) (ls1 := [(2, 321)]) rfl rfl rfl rfl rfl rfl ?_
  refine s_X10_isName  ?_
  show wp xs _ mX10_readFlock 8 [(2, 321), (3, 0), (3, 0), (3, 0)] [(0, (z_b (M 321 6 = 1 ∧ ¬ z_own (M 321 9))))] z_LL M _
  refine wp_bn rfl rfl rfl (fun (c1 : (M 321 6 = 1 ∧ ¬ z_own (M 321 9))) => ?_) (fun (c1 : ¬ (M 321 6 = 1 ∧ ¬ z_own (M 321 9))) => ?_)
  · refine wp_run 1 (pc' := 20) (ls' := [(2, 321), (3, 0), (3, 0), (3, 0)]) (st' := [(2, 321)]) rfl ?_
    refine wp_callv (pc' := 23) (as := [(2, 321)]) (rest := []) (ls1 := [(2, 321), (3, 0), (3, 0)]) rfl rfl rfl rfl rfl rfl ?_
    exact l1 c1
  · refine wp_run 2 (pc' := 13) (ls' := [(2, 321), (3, 0), (3, 0), (3, 0)]) (st' := [(0, 2), (2, 321)]) rfl ?_
    refine wp_callv (pc' := 16) (as := [(2, 321), (0, 2)]) (rest := []) (ls1 := [(2, 321), (0, 2)]) rfl rfl rfl rfl rfl rfl ?_
    exact l2 c1
set_option maxRecDepth 20000 in
theorem gX10_readFlock_16 {xs : List Int} {d : Nat} {M : z_M} {P : Option z_V → z_L → z_M → Prop} 
    (l1 : wp xs d mX10_readFlock 31 [(2, 321), (3, 0), (3, 0), (3, 0)] [] z_LL M P) :
    wp xs d mX10_readFlock 16 [(2, 321), (3, 0), (3, 0), (3, 0)] [] z_LL M P := by
  refine wp_run 1 (pc' := 31) (ls' := [(2, 321), (3, 0), (3, 0), (3, 0)]) (st' := []) rfl ?_
  exact l1
set_option maxRecDepth 20000 in
theorem gX10_readFlock_23 {xs : List Int} {d : Nat} {M : z_M} {P : Option z_V → z_L → z_M → Prop} {s0 : Int} 
    (l1 : (s0 < 0) → wp xs (d + 1) mX10_readFlock 31 [(2, 321), (3, 0), (3, 0), (3, 0)] [] z_LL M P)
    (l2 : (¬ (s0 < 0)) → wp xs d mX10_wrong 0 [(2, 321), (0, 3)] [] z_LL M (fun r L1 M1 => wp xs (d + 1) mX10_readFlock 31 [(2, 321), (3, 0), (3, 0), (3, 0)] (z_ol r ++ []) L1 M1 P)) :
    wp xs (d + 1) mX10_readFlock 23 [(2, 321), (3, 0), (3, 0), (3, 0)] [(0, s0)] z_LL M P := by
  refine wp_if1 rfl rfl rfl (fun (c1 : s0 < 0) => ?_) (fun (c1 : ¬ (s0 < 0)) => ?_)
  · exact l1 c1
  · refine wp_run 2 (pc' := 28) (ls' := [(2, 321), (3, 0), (3, 0), (3, 0)]) (st' := [(0, 3), (2, 321)]) rfl ?_
    refine wp_callv (pc' := 31) (as := [(2, 321), (0, 3)]) (rest := []) (ls1 := [(2, 321), (0, 3)]) rfl rfl rfl rfl rfl rfl ?_
    exact l2 c1
set_option maxRecDepth 20000 in
theorem gX10_readFlock_31 {xs : List Int} {d : Nat} {M : z_M} {P : Option z_V → z_L → z_M → Prop} (hF : z_fix M) 
    (b1 : ((M 321 2) ≤ 0) → 0 ≤ (M 321 40) ∧ (M 321 40) < 6)
    (l1 : ((M 321 2) ≤ 0) → wp xs d mX10_token 0 [(2, 321), (3, 0), (3, 0)] [] z_LL (z_up M 323 (M 321 40) (M 321 9)) (fun r L1 M1 => wp xs (d + 1) mX10_readFlock 58 [(2, 321), (0, (M 321 40)), (3, 0), (3, 0)] (z_ol r ++ []) L1 M1 P))
    (l2 : (¬ ((M 321 2) ≤ 0)) → P none z_LL M) :
    wp xs (d + 1) mX10_readFlock 31 [(2, 321), (3, 0), (3, 0), (3, 0)] [] z_LL M P := by
  refine wp_run 1 (pc' := 32) (ls' := [(2, 321), (3, 0), (3, 0), (3, 0)]) (st' := [(2, 321)]) rfl ?_
  refine wp_gf (pc' := 35) (t := 0) (v := (M 321 2)) rfl rfl (by decide) rfl rfl rfl ?_
  refine wp_if1 rfl rfl rfl (fun (c1 : (M 321 2) ≤ 0) => ?_) (fun (c1 : ¬ ((M 321 2) ≤ 0)) => ?_)
  · refine wp_run 1 (pc' := 40) (ls' := [(2, 321), (3, 0), (3, 0), (3, 0)]) (st' := [(2, 321)]) rfl ?_
    refine wp_gf (pc' := 43) (t := 0) (v := (M 321 40)) rfl rfl (by decide) rfl rfl rfl ?_
    refine wp_run 2 (pc' := 45) (ls' := [(2, 321), (0, (M 321 40)), (3, 0), (3, 0)]) (st' := [(2, 321)]) rfl ?_
    refine wp_gf (pc' := 48) (t := 2) (v := 323) rfl rfl (by decide) rfl rfl (fx_321_10 hF) ?_
    refine wp_run 2 (pc' := 50) (ls' := [(2, 321), (0, (M 321 40)), (3, 0), (3, 0)]) (st' := [(2, 321), (0, (M 321 40)), (2, 323)]) rfl ?_
    refine wp_gf (pc' := 53) (t := 1) (v := (M 321 9)) rfl rfl (by decide) rfl rfl rfl ?_
    refine wp_last (pc' := 54) rfl rfl rfl (b1 c1) ?_
    refine wp_run 1 (pc' := 55) (ls' := [(2, 321), (0, (M 321 40)), (3, 0), (3, 0)]) (st' := [(2, 321)]) rfl ?_
    refine wp_callv (pc' := 58) (as := [(2, 321)]) (rest := []) (ls1 := [(2, 321), (3, 0), (3, 0)]) rfl rfl rfl rfl rfl rfl ?_
    exact l1 c1
  · exact wp_ret rfl rfl (l2 c1)
set_option maxRecDepth 20000 in
theorem gX10_readFlock_58 {xs : List Int} {d : Nat} {M : z_M} {P : Option z_V → z_L → z_M → Prop} {x1 : Int} 
    (l1 : ((M 321 6 = 1 ∧ M 321 9 = 422826304613)) → wp xs (d + 1) mX10_readFlock 83 [(2, 321), (0, x1), (3, 0), (3, 0)] [] z_LL M P)
    (l2 : (¬ (M 321 6 = 1 ∧ M 321 9 = 422826304613)) → ((M 321 6 = 1 ∧ M 321 9 = 444301537133)) → wp xs (d + 1) mX10_readFlock 83 [(2, 321), (0, x1), (3, 0), (3, 0)] [] z_LL M P)
    (l3 : (¬ (M 321 6 = 1 ∧ M 321 9 = 422826304613)) → (¬ (M 321 6 = 1 ∧ M 321 9 = 444301537133)) → wp xs d mX10_wrong 0 [(2, 321), (0, 2)] [] z_LL M (fun r L1 M1 => wp xs (d + 1) mX10_readFlock 83 [(2, 321), (0, x1), (3, 0), (3, 0)] (z_ol r ++ []) L1 M1 P)) :
    wp xs (d + 1) mX10_readFlock 58 [(2, 321), (0, x1), (3, 0), (3, 0)] [] z_LL M P := by
  refine wp_run 2 (pc' := 62) (ls' := [(2, 321), (0, x1), (3, 0), (3, 0)]) (st' := [(1, 422826304613), (2, 321)]) rfl ?_
  refine wp_callv (pc' := 65) (as := [(2, 321), (1, 422826304613)]) (rest := []) (ls1 := [(2, 321), (1, 422826304613), (3, 0)]) rfl rfl rfl rfl rfl rfl ?_
  refine s_X10_isWord  ?_
  show wp xs _ mX10_readFlock 65 [(2, 321), (0, x1), (3, 0), (3, 0)] [(0, (z_b (M 321 6 = 1 ∧ M 321 9 = 422826304613)))] z_LL M _
  refine wp_bn rfl rfl rfl (fun (c1 : (M 321 6 = 1 ∧ M 321 9 = 422826304613)) => ?_) (fun (c1 : ¬ (M 321 6 = 1 ∧ M 321 9 = 422826304613)) => ?_)
  · exact l1 c1
  · refine wp_run 2 (pc' := 72) (ls' := [(2, 321), (0, x1), (3, 0), (3, 0)]) (st' := [(1, 444301537133), (2, 321)]) rfl ?_
    refine wp_callv (pc' := 75) (as := [(2, 321), (1, 444301537133)]) (rest := []) (ls1 := [(2, 321), (1, 444301537133), (3, 0)]) rfl rfl rfl rfl rfl rfl ?_
    refine s_X10_isWord  ?_
    show wp xs _ mX10_readFlock 75 [(2, 321), (0, x1), (3, 0), (3, 0)] [(0, (z_b (M 321 6 = 1 ∧ M 321 9 = 444301537133)))] z_LL M _
    refine wp_bn rfl rfl rfl (fun (c2 : (M 321 6 = 1 ∧ M 321 9 = 444301537133)) => ?_) (fun (c2 : ¬ (M 321 6 = 1 ∧ M 321 9 = 444301537133)) => ?_)
    · exact l2 c1 c2
    · refine wp_run 2 (pc' := 80) (ls' := [(2, 321), (0, x1), (3, 0), (3, 0)]) (st' := [(0, 2), (2, 321)]) rfl ?_
      refine wp_callv (pc' := 83) (as := [(2, 321), (0, 2)]) (rest := []) (ls1 := [(2, 321), (0, 2)]) rfl rfl rfl rfl rfl rfl ?_
      exact l3 c1 c2
set_option maxRecDepth 20000 in
theorem gX10_readFlock_83 {xs : List Int} {d : Nat} {M : z_M} {P : Option z_V → z_L → z_M → Prop} {x1 : Int} (hF : z_fix M) 
    (b1 : ((z_b (M 321 6 = 1 ∧ M 321 9 = 444301537133)) = 0 ∨ (z_b (M 321 6 = 1 ∧ M 321 9 = 444301537133)) = 1))
    (b2 : 0 ≤ x1 ∧ x1 < 6)
    (l1 : ((M 321 2) ≠ 0) → wp xs (d + 1) mX10_readFlock 110 [(2, 321), (0, x1), (3, 0), (3, 0)] [] z_LL (z_up M 332 x1 (z_b (M 321 6 = 1 ∧ M 321 9 = 444301537133))) P)
    (l2 : (¬ ((M 321 2) ≠ 0)) → wp xs d mX10_token 0 [(2, 321), (3, 0), (3, 0)] [] z_LL (z_up M 332 x1 (z_b (M 321 6 = 1 ∧ M 321 9 = 444301537133))) (fun r L1 M1 => wp xs (d + 1) mX10_readFlock 110 [(2, 321), (0, x1), (3, 0), (3, 0)] (z_ol r ++ []) L1 M1 P)) :
    wp xs (d + 1) mX10_readFlock 83 [(2, 321), (0, x1), (3, 0), (3, 0)] [] z_LL M P := by
  refine wp_run 1 (pc' := 84) (ls' := [(2, 321), (0, x1), (3, 0), (3, 0)]) (st' := [(2, 321)]) rfl ?_
  refine wp_gf (pc' := 87) (t := 2) (v := 332) rfl rfl (by decide) rfl rfl (fx_321_26 hF) ?_
  refine wp_run 3 (pc' := 92) (ls' := [(2, 321), (0, x1), (3, 0), (3, 0)]) (st' := [(1, 444301537133), (2, 321), (0, x1), (2, 332)]) rfl ?_
  refine wp_callv (pc' := 95) (as := [(2, 321), (1, 444301537133)]) (rest := [(0, x1), (2, 332)]) (ls1 := [(2, 321), (1, 444301537133), (3, 0)]) rfl rfl rfl rfl rfl rfl ?_
  refine s_X10_isWord  ?_
  show wp xs _ mX10_readFlock 95 [(2, 321), (0, x1), (3, 0), (3, 0)] [(0, (z_b (M 321 6 = 1 ∧ M 321 9 = 444301537133))), (0, x1), (2, 332)] z_LL M _
  refine wp_callv (pc' := 98) (as := [(0, (z_b (M 321 6 = 1 ∧ M 321 9 = 444301537133)))]) (rest := [(0, x1), (2, 332)]) (ls1 := [(0, (z_b (M 321 6 = 1 ∧ M 321 9 = 444301537133)))]) rfl rfl rfl rfl rfl rfl ?_
  refine s_X10_truth (b1) ?_
  show wp xs _ mX10_readFlock 98 [(2, 321), (0, x1), (3, 0), (3, 0)] [(0, (z_b (M 321 6 = 1 ∧ M 321 9 = 444301537133))), (0, x1), (2, 332)] z_LL M _
  refine wp_iast (pc' := 99) rfl rfl rfl (b2) ?_
  refine wp_run 1 (pc' := 100) (ls' := [(2, 321), (0, x1), (3, 0), (3, 0)]) (st' := [(2, 321)]) rfl ?_
  refine wp_gf (pc' := 103) (t := 0) (v := (M 321 2)) rfl rfl (by decide) rfl rfl (z_upq (by decide) rfl) ?_
  refine wp_if1 rfl rfl rfl (fun (c1 : (M 321 2) ≠ 0) => ?_) (fun (c1 : ¬ ((M 321 2) ≠ 0)) => ?_)
  · exact l1 c1
  · refine wp_run 1 (pc' := 107) (ls' := [(2, 321), (0, x1), (3, 0), (3, 0)]) (st' := [(2, 321)]) rfl ?_
    refine wp_callv (pc' := 110) (as := [(2, 321)]) (rest := []) (ls1 := [(2, 321), (3, 0), (3, 0)]) rfl rfl rfl rfl rfl rfl ?_
    exact l2 c1
set_option maxRecDepth 20000 in
theorem gX10_readFlock_110 {xs : List Int} {d : Nat} {M : z_M} {P : Option z_V → z_L → z_M → Prop} {x1 : Int} 
    (l1 : wp xs d mX10_told 0 [(2, 321), (1, 24948), (3, 0), (0, 0), (0, (z_w ((M 321 36) - 1)))] [] z_LL M (fun r L1 M1 => wp xs (d + 1) mX10_readFlock 124 [(2, 321), (0, x1), (3, 0), (3, 0)] (z_ol r ++ []) L1 M1 P)) :
    wp xs (d + 1) mX10_readFlock 110 [(2, 321), (0, x1), (3, 0), (3, 0)] [] z_LL M P := by
  refine wp_run 4 (pc' := 116) (ls' := [(2, 321), (0, x1), (3, 0), (3, 0)]) (st' := [(2, 321), (0, 0), (1, 24948), (2, 321)]) rfl ?_
  refine wp_gf (pc' := 119) (t := 0) (v := (M 321 36)) rfl rfl (by decide) rfl rfl rfl ?_
  refine wp_run 2 (pc' := 121) (ls' := [(2, 321), (0, x1), (3, 0), (3, 0)]) (st' := [(0, (z_w ((M 321 36) - 1))), (0, 0), (1, 24948), (2, 321)]) rfl ?_
  refine wp_callv (pc' := 124) (as := [(2, 321), (1, 24948), (0, 0), (0, (z_w ((M 321 36) - 1)))]) (rest := []) (ls1 := [(2, 321), (1, 24948), (3, 0), (0, 0), (0, (z_w ((M 321 36) - 1)))]) rfl rfl rfl rfl rfl rfl ?_
  exact l1
set_option maxRecDepth 20000 in
theorem gX10_readFlock_124 {xs : List Int} {d : Nat} {M : z_M} {P : Option z_V → z_L → z_M → Prop} {x1 : Int} {s0 : Int} (hF : z_fix M) 
    (l1 : wp xs d mX10_toldNumber 0 [(2, 321), (0, 0), (0, (z_w ((M 321 37) - 1))), (3, 0)] [] z_LL M (fun r L1 M1 => wp xs (d + 1) mX10_readFlock 145 [(2, 321), (0, x1), (0, s0), (3, 0)] (z_ol r ++ [(0, (M 321 36)), (0, x1), (2, 333)]) L1 M1 P)) :
    wp xs (d + 1) mX10_readFlock 124 [(2, 321), (0, x1), (3, 0), (3, 0)] [(0, s0)] z_LL M P := by
  refine wp_run 2 (pc' := 126) (ls' := [(2, 321), (0, x1), (0, s0), (3, 0)]) (st' := [(2, 321)]) rfl ?_
  refine wp_gf (pc' := 129) (t := 2) (v := 333) rfl rfl (by decide) rfl rfl (fx_321_27 hF) ?_
  refine wp_run 2 (pc' := 131) (ls' := [(2, 321), (0, x1), (0, s0), (3, 0)]) (st' := [(2, 321), (0, x1), (2, 333)]) rfl ?_
  refine wp_gf (pc' := 134) (t := 0) (v := (M 321 36)) rfl rfl (by decide) rfl rfl rfl ?_
  refine wp_run 3 (pc' := 137) (ls' := [(2, 321), (0, x1), (0, s0), (3, 0)]) (st' := [(2, 321), (0, 0), (2, 321), (0, (M 321 36)), (0, x1), (2, 333)]) rfl ?_
  refine wp_gf (pc' := 140) (t := 0) (v := (M 321 37)) rfl rfl (by decide) rfl rfl rfl ?_
  refine wp_run 2 (pc' := 142) (ls' := [(2, 321), (0, x1), (0, s0), (3, 0)]) (st' := [(0, (z_w ((M 321 37) - 1))), (0, 0), (2, 321), (0, (M 321 36)), (0, x1), (2, 333)]) rfl ?_
  refine wp_callv (pc' := 145) (as := [(2, 321), (0, 0), (0, (z_w ((M 321 37) - 1)))]) (rest := [(0, (M 321 36)), (0, x1), (2, 333)]) (ls1 := [(2, 321), (0, 0), (0, (z_w ((M 321 37) - 1))), (3, 0)]) rfl rfl rfl rfl rfl rfl ?_
  exact l1
set_option maxRecDepth 20000 in
theorem gX10_readFlock_145 {xs : List Int} {d : Nat} {M : z_M} {P : Option z_V → z_L → z_M → Prop} {x1 : Int} {x2 : Int} {s1 : Int} {s2 : Int} {s3 : Int} (hF : z_fix M) 
    (b1 : 0 ≤ s1 ∧ s1 < 6)
    (l1 : wp xs d mX10_told 0 [(2, 321), (1, 1936292453), (3, 0), (0, 1), (0, 9)] [] z_LL (z_up M 333 s1 (z_w ((z_w (s2 * s3)) + x2))) (fun r L1 M1 => wp xs (d + 1) mX10_readFlock 164 [(2, 321), (0, x1), (0, x2), (3, 0)] (z_ol r ++ [(0, x1), (2, 334)]) L1 M1 P)) :
    wp xs (d + 1) mX10_readFlock 145 [(2, 321), (0, x1), (0, x2), (3, 0)] [(0, s3), (0, s2), (0, s1), (2, 333)] z_LL M P := by
  refine wp_run 3 (pc' := 148) (ls' := [(2, 321), (0, x1), (0, x2), (3, 0)]) (st' := [(0, (z_w ((z_w (s2 * s3)) + x2))), (0, s1), (2, 333)]) rfl ?_
  refine wp_iast (pc' := 149) rfl rfl rfl (b1) ?_
  refine wp_run 1 (pc' := 150) (ls' := [(2, 321), (0, x1), (0, x2), (3, 0)]) (st' := [(2, 321)]) rfl ?_
  refine wp_gf (pc' := 153) (t := 2) (v := 334) rfl rfl (by decide) rfl rfl (z_upq (by decide) (fx_321_28 hF)) ?_
  refine wp_run 5 (pc' := 161) (ls' := [(2, 321), (0, x1), (0, x2), (3, 0)]) (st' := [(0, 9), (0, 1), (1, 1936292453), (2, 321), (0, x1), (2, 334)]) rfl ?_
  refine wp_callv (pc' := 164) (as := [(2, 321), (1, 1936292453), (0, 1), (0, 9)]) (rest := [(0, x1), (2, 334)]) (ls1 := [(2, 321), (1, 1936292453), (3, 0), (0, 1), (0, 9)]) rfl rfl rfl rfl rfl rfl ?_
  exact l1
set_option maxRecDepth 20000 in
theorem gX10_readFlock_164 {xs : List Int} {d : Nat} {M : z_M} {P : Option z_V → z_L → z_M → Prop} {x1 : Int} {x2 : Int} {s1 : Int} {s2 : Int} (hF : z_fix M) 
    (b1 : 0 ≤ s1 ∧ s1 < 6)
    (b2 : 0 ≤ x1 ∧ x1 < 6)
    (l1 : wp xs d mX10_readFlock 174 [(2, 321), (0, x1), (0, x2), (0, 0)] [] z_LL (z_up (z_up M 334 s1 s2) 336 x1 0) P) :
    wp xs d mX10_readFlock 164 [(2, 321), (0, x1), (0, x2), (3, 0)] [(0, s2), (0, s1), (2, 334)] z_LL M P := by
  refine wp_iast (pc' := 165) rfl rfl rfl (b1) ?_
  refine wp_run 1 (pc' := 166) (ls' := [(2, 321), (0, x1), (0, x2), (3, 0)]) (st' := [(2, 321)]) rfl ?_
  refine wp_gf (pc' := 169) (t := 2) (v := 336) rfl rfl (by decide) rfl rfl (z_upq (by decide) (fx_321_30 hF)) ?_
  refine wp_run 2 (pc' := 171) (ls' := [(2, 321), (0, x1), (0, x2), (3, 0)]) (st' := [(0, 0), (0, x1), (2, 336)]) rfl ?_
  refine wp_iast (pc' := 172) rfl rfl rfl (b2) ?_
  refine wp_run 2 (pc' := 174) (ls' := [(2, 321), (0, x1), (0, x2), (0, 0)]) (st' := []) rfl ?_
  exact l1
set_option maxRecDepth 20000 in
theorem gX10_readFlock_174 {xs : List Int} {d : Nat} {M : z_M} {P : Option z_V → z_L → z_M → Prop} {x1 : Int} {x2 : Int} {x3 : Int} (hF : z_fix M) 
    (l1 : (6 ≤ x3) → ((M 321 2) ≠ 0) → P none z_LL M)
    (l2 : (6 ≤ x3) → (¬ ((M 321 2) ≠ 0)) → P none z_LL (z_up M 321 40 (z_w ((M 321 40) + 1))))
    (b1 : (¬ (6 ≤ x3)) → 0 ≤ (z_w ((z_w (6 * x1)) + x3)) ∧ (z_w ((z_w (6 * x1)) + x3)) < 36)
    (l3 : (¬ (6 ≤ x3)) → wp xs d mX10_readFlock 174 [(2, 321), (0, x1), (0, x2), (0, (z_w (x3 + 1)))] [] z_LL (z_up M 335 (z_w ((z_w (6 * x1)) + x3)) (-1)) P) :
    wp xs d mX10_readFlock 174 [(2, 321), (0, x1), (0, x2), (0, x3)] [] z_LL M P := by
  refine wp_run 2 (pc' := 177) (ls' := [(2, 321), (0, x1), (0, x2), (0, x3)]) (st' := [(0, 6), (0, x3)]) rfl ?_
  refine wp_if2 rfl rfl rfl (fun (c1 : 6 ≤ x3) => ?_) (fun (c1 : ¬ (6 ≤ x3)) => ?_)
  · refine wp_run 1 (pc' := 199) (ls' := [(2, 321), (0, x1), (0, x2), (0, x3)]) (st' := [(2, 321)]) rfl ?_
    refine wp_gf (pc' := 202) (t := 0) (v := (M 321 2)) rfl rfl (by decide) rfl rfl rfl ?_
    refine wp_if1 rfl rfl rfl (fun (c2 : (M 321 2) ≠ 0) => ?_) (fun (c2 : ¬ ((M 321 2) ≠ 0)) => ?_)
    · exact wp_ret rfl rfl (l1 c1 c2)
    · refine wp_run 2 (pc' := 207) (ls' := [(2, 321), (0, x1), (0, x2), (0, x3)]) (st' := [(2, 321), (2, 321)]) rfl ?_
      refine wp_gf (pc' := 210) (t := 0) (v := (M 321 40)) rfl rfl (by decide) rfl rfl rfl ?_
      refine wp_run 2 (pc' := 212) (ls' := [(2, 321), (0, x1), (0, x2), (0, x3)]) (st' := [(0, (z_w ((M 321 40) + 1))), (2, 321)]) rfl ?_
      refine wp_pf (pc' := 215) rfl rfl rfl rfl (fun z => absurd z (by decide)) (fun z => absurd z (by decide)) ?_
      exact wp_ret rfl rfl (l2 c1 c2)
  · refine wp_run 1 (pc' := 181) (ls' := [(2, 321), (0, x1), (0, x2), (0, x3)]) (st' := [(2, 321)]) rfl ?_
    refine wp_gf (pc' := 184) (t := 2) (v := 335) rfl rfl (by decide) rfl rfl (fx_321_29 hF) ?_
    refine wp_run 6 (pc' := 191) (ls' := [(2, 321), (0, x1), (0, x2), (0, x3)]) (st' := [(0, (-1)), (0, (z_w ((z_w (6 * x1)) + x3))), (2, 335)]) rfl ?_
    refine wp_iast (pc' := 192) rfl rfl rfl (b1 c1) ?_
    refine wp_run 2 (pc' := 174) (ls' := [(2, 321), (0, x1), (0, x2), (0, (z_w (x3 + 1)))]) (st' := []) rfl ?_
    exact l3 c1
set_option maxRecDepth 20000 in
theorem gX10_readWants_0 {xs : List Int} {d : Nat} {M : z_M} {P : Option z_V → z_L → z_M → Prop} 
    (l1 : wp xs d mX10_token 0 [(2, 321), (3, 0), (3, 0)] [] z_LL M (fun r L1 M1 => wp xs (d + 1) mX10_readWants 4 [(2, 321), (3, 0), (3, 0), (3, 0)] (z_ol r ++ []) L1 M1 P)) :
    wp xs (d + 1) mX10_readWants 0 [(2, 321), (3, 0), (3, 0), (3, 0)] [] z_LL M P := by
  refine wp_run 1 (pc' := 1) (ls' := [(2, 321), (3, 0), (3, 0), (3, 0)]) (st' := [(2, 321)]) rfl ?_
  refine wp_callv (pc' := 4) (as := [(2, 321)]) (rest := []) (ls1 := [(2, 321), (3, 0), (3, 0)]) rfl rfl rfl rfl rfl rfl ?_
  exact l1
set_option maxRecDepth 20000 in
theorem gX10_readWants_4 {xs : List Int} {d : Nat} {M : z_M} {P : Option z_V → z_L → z_M → Prop} 
    (l1 : wp xs d mX10_oldFlock 0 [(2, 321)] [] z_LL M (fun r L1 M1 => wp xs (d + 1) mX10_readWants 8 [(2, 321), (3, 0), (3, 0), (3, 0)] (z_ol r ++ []) L1 M1 P)) :
    wp xs (d + 1) mX10_readWants 4 [(2, 321), (3, 0), (3, 0), (3, 0)] [] z_LL M P := by
  refine wp_run 1 (pc' := 5) (ls' := [(2, 321), (3, 0), (3, 0), (3, 0)]) (st' := [(2, 321)]) rfl ?_
  refine wp_callv (pc' := 8) (as := [(2, 321)]) (rest := []) (ls1 := [(2, 321)]) rfl rfl rfl rfl rfl rfl ?_
  exact l1
set_option maxRecDepth 20000 in
theorem gX10_readWants_8 {xs : List Int} {d : Nat} {M : z_M} {P : Option z_V → z_L → z_M → Prop} {s0 : Int} 
    (l1 : ((M 321 2) ≠ 0) → wp xs (d + 1) mX10_readWants 20 [(2, 321), (0, s0), (3, 0), (3, 0)] [] z_LL M P)
    (l2 : (¬ ((M 321 2) ≠ 0)) → wp xs d mX10_token 0 [(2, 321), (3, 0), (3, 0)] [] z_LL M (fun r L1 M1 => wp xs (d + 1) mX10_readWants 20 [(2, 321), (0, s0), (3, 0), (3, 0)] (z_ol r ++ []) L1 M1 P)) :
    wp xs (d + 1) mX10_readWants 8 [(2, 321), (3, 0), (3, 0), (3, 0)] [(0, s0)] z_LL M P := by
  refine wp_run 2 (pc' := 10) (ls' := [(2, 321), (0, s0), (3, 0), (3, 0)]) (st' := [(2, 321)]) rfl ?_
  refine wp_gf (pc' := 13) (t := 0) (v := (M 321 2)) rfl rfl (by decide) rfl rfl rfl ?_
  refine wp_if1 rfl rfl rfl (fun (c1 : (M 321 2) ≠ 0) => ?_) (fun (c1 : ¬ ((M 321 2) ≠ 0)) => ?_)
  · exact l1 c1
  · refine wp_run 1 (pc' := 17) (ls' := [(2, 321), (0, s0), (3, 0), (3, 0)]) (st' := [(2, 321)]) rfl ?_
    refine wp_callv (pc' := 20) (as := [(2, 321)]) (rest := []) (ls1 := [(2, 321), (3, 0), (3, 0)]) rfl rfl rfl rfl rfl rfl ?_
    exact l2 c1
set_option maxRecDepth 20000 in
theorem gX10_readWants_20 {xs : List Int} {d : Nat} {M : z_M} {P : Option z_V → z_L → z_M → Prop} {x1 : Int} 
    (l1 : wp xs d mX10_oldFlock 0 [(2, 321)] [] z_LL M (fun r L1 M1 => wp xs (d + 1) mX10_readWants 24 [(2, 321), (0, x1), (3, 0), (3, 0)] (z_ol r ++ []) L1 M1 P)) :
    wp xs (d + 1) mX10_readWants 20 [(2, 321), (0, x1), (3, 0), (3, 0)] [] z_LL M P := by
  refine wp_run 1 (pc' := 21) (ls' := [(2, 321), (0, x1), (3, 0), (3, 0)]) (st' := [(2, 321)]) rfl ?_
  refine wp_callv (pc' := 24) (as := [(2, 321)]) (rest := []) (ls1 := [(2, 321)]) rfl rfl rfl rfl rfl rfl ?_
  exact l1
set_option maxRecDepth 20000 in
theorem gX10_readWants_24 {xs : List Int} {d : Nat} {M : z_M} {P : Option z_V → z_L → z_M → Prop} {x1 : Int} {s0 : Int} (hF : z_fix M) 
    (l1 : ((M 321 2) ≠ 0) → wp xs d mX10_readWants 66 [(2, 321), (0, x1), (0, s0), (3, 0)] [] z_LL M P)
    (b1 : (¬ ((M 321 2) ≠ 0)) → 0 ≤ x1 ∧ x1 < 6)
    (b2 : (¬ ((M 321 2) ≠ 0)) → 0 ≤ s0 ∧ s0 < 6)
    (l2 : (¬ ((M 321 2) ≠ 0)) → ((M 332 x1) = (M 332 s0)) → wp xs d mX10_readWants 61 [(2, 321), (0, x1), (0, s0), (3, 0)] [] z_LL M P)
    (b3 : (¬ ((M 321 2) ≠ 0)) → (¬ ((M 332 x1) = (M 332 s0))) → 0 ≤ (z_w ((z_w (6 * x1)) + s0)) ∧ (z_w ((z_w (6 * x1)) + s0)) < 36)
    (l3 : (¬ ((M 321 2) ≠ 0)) → (¬ ((M 332 x1) = (M 332 s0))) → ((M 335 (z_w ((z_w (6 * x1)) + s0))) < 0) → wp xs d mX10_readWants 66 [(2, 321), (0, x1), (0, s0), (3, 0)] [] z_LL M P)
    (l4 : (¬ ((M 321 2) ≠ 0)) → (¬ ((M 332 x1) = (M 332 s0))) → (¬ ((M 335 (z_w ((z_w (6 * x1)) + s0))) < 0)) → wp xs d mX10_readWants 61 [(2, 321), (0, x1), (0, s0), (3, 0)] [] z_LL M P) :
    wp xs d mX10_readWants 24 [(2, 321), (0, x1), (3, 0), (3, 0)] [(0, s0)] z_LL M P := by
  refine wp_run 2 (pc' := 26) (ls' := [(2, 321), (0, x1), (0, s0), (3, 0)]) (st' := [(2, 321)]) rfl ?_
  refine wp_gf (pc' := 29) (t := 0) (v := (M 321 2)) rfl rfl (by decide) rfl rfl rfl ?_
  refine wp_if1 rfl rfl rfl (fun (c1 : (M 321 2) ≠ 0) => ?_) (fun (c1 : ¬ ((M 321 2) ≠ 0)) => ?_)
  · exact l1 c1
  · refine wp_run 1 (pc' := 33) (ls' := [(2, 321), (0, x1), (0, s0), (3, 0)]) (st' := [(2, 321)]) rfl ?_
    refine wp_gf (pc' := 36) (t := 2) (v := 332) rfl rfl (by decide) rfl rfl (fx_321_26 hF) ?_
    refine wp_run 1 (pc' := 37) (ls' := [(2, 321), (0, x1), (0, s0), (3, 0)]) (st' := [(0, x1), (2, 332)]) rfl ?_
    refine wp_iald (pc' := 38) (v := (M 332 x1)) rfl rfl rfl (b1 c1) rfl ?_
    refine wp_run 1 (pc' := 39) (ls' := [(2, 321), (0, x1), (0, s0), (3, 0)]) (st' := [(2, 321), (0, (M 332 x1))]) rfl ?_
    refine wp_gf (pc' := 42) (t := 2) (v := 332) rfl rfl (by decide) rfl rfl (fx_321_26 hF) ?_
    refine wp_run 1 (pc' := 43) (ls' := [(2, 321), (0, x1), (0, s0), (3, 0)]) (st' := [(0, s0), (2, 332), (0, (M 332 x1))]) rfl ?_
    refine wp_iald (pc' := 44) (v := (M 332 s0)) rfl rfl rfl (b2 c1) rfl ?_
    refine wp_if2 rfl rfl rfl (fun (c2 : (M 332 x1) = (M 332 s0)) => ?_) (fun (c2 : ¬ ((M 332 x1) = (M 332 s0))) => ?_)
    · exact l2 c1 c2
    · refine wp_run 1 (pc' := 48) (ls' := [(2, 321), (0, x1), (0, s0), (3, 0)]) (st' := [(2, 321)]) rfl ?_
      refine wp_gf (pc' := 51) (t := 2) (v := 335) rfl rfl (by decide) rfl rfl (fx_321_29 hF) ?_
      refine wp_run 5 (pc' := 57) (ls' := [(2, 321), (0, x1), (0, s0), (3, 0)]) (st' := [(0, (z_w ((z_w (6 * x1)) + s0))), (2, 335)]) rfl ?_
      refine wp_iald (pc' := 58) (v := (M 335 (z_w ((z_w (6 * x1)) + s0)))) rfl rfl rfl (b3 c1 c2) rfl ?_
      refine wp_if1 rfl rfl rfl (fun (c3 : (M 335 (z_w ((z_w (6 * x1)) + s0))) < 0) => ?_) (fun (c3 : ¬ ((M 335 (z_w ((z_w (6 * x1)) + s0))) < 0)) => ?_)
      · exact l3 c1 c2 c3
      · exact l4 c1 c2 c3
set_option maxRecDepth 20000 in
theorem gX10_readWants_61 {xs : List Int} {d : Nat} {M : z_M} {P : Option z_V → z_L → z_M → Prop} {x1 : Int} {x2 : Int} 
    (l1 : wp xs d mX10_wrong 0 [(2, 321), (0, 3)] [] z_LL M (fun r L1 M1 => wp xs (d + 1) mX10_readWants 66 [(2, 321), (0, x1), (0, x2), (3, 0)] (z_ol r ++ []) L1 M1 P)) :
    wp xs (d + 1) mX10_readWants 61 [(2, 321), (0, x1), (0, x2), (3, 0)] [] z_LL M P := by
  refine wp_run 2 (pc' := 63) (ls' := [(2, 321), (0, x1), (0, x2), (3, 0)]) (st' := [(0, 3), (2, 321)]) rfl ?_
  refine wp_callv (pc' := 66) (as := [(2, 321), (0, 3)]) (rest := []) (ls1 := [(2, 321), (0, 3)]) rfl rfl rfl rfl rfl rfl ?_
  exact l1
set_option maxRecDepth 20000 in
theorem gX10_readWants_66 {xs : List Int} {d : Nat} {M : z_M} {P : Option z_V → z_L → z_M → Prop} {x1 : Int} {x2 : Int} 
    (l1 : ((M 321 2) ≠ 0) → wp xs (d + 1) mX10_readWants 77 [(2, 321), (0, x1), (0, x2), (3, 0)] [] z_LL M P)
    (l2 : (¬ ((M 321 2) ≠ 0)) → wp xs d mX10_token 0 [(2, 321), (3, 0), (3, 0)] [] z_LL M (fun r L1 M1 => wp xs (d + 1) mX10_readWants 77 [(2, 321), (0, x1), (0, x2), (3, 0)] (z_ol r ++ []) L1 M1 P)) :
    wp xs (d + 1) mX10_readWants 66 [(2, 321), (0, x1), (0, x2), (3, 0)] [] z_LL M P := by
  refine wp_run 1 (pc' := 67) (ls' := [(2, 321), (0, x1), (0, x2), (3, 0)]) (st' := [(2, 321)]) rfl ?_
  refine wp_gf (pc' := 70) (t := 0) (v := (M 321 2)) rfl rfl (by decide) rfl rfl rfl ?_
  refine wp_if1 rfl rfl rfl (fun (c1 : (M 321 2) ≠ 0) => ?_) (fun (c1 : ¬ ((M 321 2) ≠ 0)) => ?_)
  · exact l1 c1
  · refine wp_run 1 (pc' := 74) (ls' := [(2, 321), (0, x1), (0, x2), (3, 0)]) (st' := [(2, 321)]) rfl ?_
    refine wp_callv (pc' := 77) (as := [(2, 321)]) (rest := []) (ls1 := [(2, 321), (3, 0), (3, 0)]) rfl rfl rfl rfl rfl rfl ?_
    exact l2 c1
set_option maxRecDepth 20000 in
theorem gX10_readWants_77 {xs : List Int} {d : Nat} {M : z_M} {P : Option z_V → z_L → z_M → Prop} {x1 : Int} {x2 : Int} 
    (l1 : wp xs d mX10_toldNumber 0 [(2, 321), (0, 0), (0, 99), (3, 0)] [] z_LL M (fun r L1 M1 => wp xs (d + 1) mX10_readWants 84 [(2, 321), (0, x1), (0, x2), (3, 0)] (z_ol r ++ []) L1 M1 P)) :
    wp xs (d + 1) mX10_readWants 77 [(2, 321), (0, x1), (0, x2), (3, 0)] [] z_LL M P := by
  refine wp_run 3 (pc' := 81) (ls' := [(2, 321), (0, x1), (0, x2), (3, 0)]) (st' := [(0, 99), (0, 0), (2, 321)]) rfl ?_
  refine wp_callv (pc' := 84) (as := [(2, 321), (0, 0), (0, 99)]) (rest := []) (ls1 := [(2, 321), (0, 0), (0, 99), (3, 0)]) rfl rfl rfl rfl rfl rfl ?_
  exact l1
set_option maxRecDepth 20000 in
theorem gX10_readWants_84 {xs : List Int} {d : Nat} {M : z_M} {P : Option z_V → z_L → z_M → Prop} {x1 : Int} {x2 : Int} {s0 : Int} (hF : z_fix M) 
    (l1 : ((M 321 2) ≠ 0) → P none z_LL M)
    (b1 : (¬ ((M 321 2) ≠ 0)) → 0 ≤ (z_w ((z_w (6 * x1)) + x2)) ∧ (z_w ((z_w (6 * x1)) + x2)) < 36)
    (l2 : (¬ ((M 321 2) ≠ 0)) → P none z_LL (z_up M 335 (z_w ((z_w (6 * x1)) + x2)) s0)) :
    wp xs d mX10_readWants 84 [(2, 321), (0, x1), (0, x2), (3, 0)] [(0, s0)] z_LL M P := by
  refine wp_run 2 (pc' := 86) (ls' := [(2, 321), (0, x1), (0, x2), (0, s0)]) (st' := [(2, 321)]) rfl ?_
  refine wp_gf (pc' := 89) (t := 0) (v := (M 321 2)) rfl rfl (by decide) rfl rfl rfl ?_
  refine wp_if1 rfl rfl rfl (fun (c1 : (M 321 2) ≠ 0) => ?_) (fun (c1 : ¬ ((M 321 2) ≠ 0)) => ?_)
  · exact wp_ret rfl rfl (l1 c1)
  · refine wp_run 1 (pc' := 93) (ls' := [(2, 321), (0, x1), (0, x2), (0, s0)]) (st' := [(2, 321)]) rfl ?_
    refine wp_gf (pc' := 96) (t := 2) (v := 335) rfl rfl (by decide) rfl rfl (fx_321_29 hF) ?_
    refine wp_run 6 (pc' := 103) (ls' := [(2, 321), (0, x1), (0, x2), (0, s0)]) (st' := [(0, s0), (0, (z_w ((z_w (6 * x1)) + x2))), (2, 335)]) rfl ?_
    refine wp_iast (pc' := 104) rfl rfl rfl (b1 c1) ?_
    exact wp_ret rfl rfl (l2 c1)
set_option maxRecDepth 20000 in
theorem gX10_readFeud_0 {xs : List Int} {d : Nat} {M : z_M} {P : Option z_V → z_L → z_M → Prop} 
    (l1 : wp xs d mX10_token 0 [(2, 321), (3, 0), (3, 0)] [] z_LL M (fun r L1 M1 => wp xs (d + 1) mX10_readFeud 4 [(2, 321), (3, 0), (3, 0)] (z_ol r ++ []) L1 M1 P)) :
    wp xs (d + 1) mX10_readFeud 0 [(2, 321), (3, 0), (3, 0)] [] z_LL M P := by
  refine wp_run 1 (pc' := 1) (ls' := [(2, 321), (3, 0), (3, 0)]) (st' := [(2, 321)]) rfl ?_
  refine wp_callv (pc' := 4) (as := [(2, 321)]) (rest := []) (ls1 := [(2, 321), (3, 0), (3, 0)]) rfl rfl rfl rfl rfl rfl ?_
  exact l1
set_option maxRecDepth 20000 in
theorem gX10_readFeud_4 {xs : List Int} {d : Nat} {M : z_M} {P : Option z_V → z_L → z_M → Prop} 
    (l1 : wp xs d mX10_oldFlock 0 [(2, 321)] [] z_LL M (fun r L1 M1 => wp xs (d + 1) mX10_readFeud 8 [(2, 321), (3, 0), (3, 0)] (z_ol r ++ []) L1 M1 P)) :
    wp xs (d + 1) mX10_readFeud 4 [(2, 321), (3, 0), (3, 0)] [] z_LL M P := by
  refine wp_run 1 (pc' := 5) (ls' := [(2, 321), (3, 0), (3, 0)]) (st' := [(2, 321)]) rfl ?_
  refine wp_callv (pc' := 8) (as := [(2, 321)]) (rest := []) (ls1 := [(2, 321)]) rfl rfl rfl rfl rfl rfl ?_
  exact l1
set_option maxRecDepth 20000 in
theorem gX10_readFeud_8 {xs : List Int} {d : Nat} {M : z_M} {P : Option z_V → z_L → z_M → Prop} {s0 : Int} 
    (l1 : ((M 321 2) ≠ 0) → wp xs (d + 1) mX10_readFeud 20 [(2, 321), (0, s0), (3, 0)] [] z_LL M P)
    (l2 : (¬ ((M 321 2) ≠ 0)) → wp xs d mX10_token 0 [(2, 321), (3, 0), (3, 0)] [] z_LL M (fun r L1 M1 => wp xs (d + 1) mX10_readFeud 20 [(2, 321), (0, s0), (3, 0)] (z_ol r ++ []) L1 M1 P)) :
    wp xs (d + 1) mX10_readFeud 8 [(2, 321), (3, 0), (3, 0)] [(0, s0)] z_LL M P := by
  refine wp_run 2 (pc' := 10) (ls' := [(2, 321), (0, s0), (3, 0)]) (st' := [(2, 321)]) rfl ?_
  refine wp_gf (pc' := 13) (t := 0) (v := (M 321 2)) rfl rfl (by decide) rfl rfl rfl ?_
  refine wp_if1 rfl rfl rfl (fun (c1 : (M 321 2) ≠ 0) => ?_) (fun (c1 : ¬ ((M 321 2) ≠ 0)) => ?_)
  · exact l1 c1
  · refine wp_run 1 (pc' := 17) (ls' := [(2, 321), (0, s0), (3, 0)]) (st' := [(2, 321)]) rfl ?_
    refine wp_callv (pc' := 20) (as := [(2, 321)]) (rest := []) (ls1 := [(2, 321), (3, 0), (3, 0)]) rfl rfl rfl rfl rfl rfl ?_
    exact l2 c1
set_option maxRecDepth 20000 in
theorem gX10_readFeud_20 {xs : List Int} {d : Nat} {M : z_M} {P : Option z_V → z_L → z_M → Prop} {x1 : Int} 
    (l1 : wp xs d mX10_oldFlock 0 [(2, 321)] [] z_LL M (fun r L1 M1 => wp xs (d + 1) mX10_readFeud 24 [(2, 321), (0, x1), (3, 0)] (z_ol r ++ []) L1 M1 P)) :
    wp xs (d + 1) mX10_readFeud 20 [(2, 321), (0, x1), (3, 0)] [] z_LL M P := by
  refine wp_run 1 (pc' := 21) (ls' := [(2, 321), (0, x1), (3, 0)]) (st' := [(2, 321)]) rfl ?_
  refine wp_callv (pc' := 24) (as := [(2, 321)]) (rest := []) (ls1 := [(2, 321)]) rfl rfl rfl rfl rfl rfl ?_
  exact l1
set_option maxRecDepth 20000 in
theorem gX10_readFeud_24 {xs : List Int} {d : Nat} {M : z_M} {P : Option z_V → z_L → z_M → Prop} {x1 : Int} {s0 : Int} (hF : z_fix M) 
    (l1 : ((M 321 2) ≠ 0) → wp xs d mX10_readFeud 56 [(2, 321), (0, x1), (0, s0)] [] z_LL M P)
    (l2 : (¬ ((M 321 2) ≠ 0)) → (x1 = s0) → wp xs d mX10_readFeud 51 [(2, 321), (0, x1), (0, s0)] [] z_LL M P)
    (b1 : (¬ ((M 321 2) ≠ 0)) → (¬ (x1 = s0)) → 0 ≤ x1 ∧ x1 < 6)
    (l3 : (¬ ((M 321 2) ≠ 0)) → (¬ (x1 = s0)) → ((z_and (z_shr (M 336 x1) s0) 1) ≠ 1) → wp xs d mX10_readFeud 56 [(2, 321), (0, x1), (0, s0)] [] z_LL M P)
    (l4 : (¬ ((M 321 2) ≠ 0)) → (¬ (x1 = s0)) → (¬ ((z_and (z_shr (M 336 x1) s0) 1) ≠ 1)) → wp xs d mX10_readFeud 51 [(2, 321), (0, x1), (0, s0)] [] z_LL M P) :
    wp xs d mX10_readFeud 24 [(2, 321), (0, x1), (3, 0)] [(0, s0)] z_LL M P := by
  refine wp_run 2 (pc' := 26) (ls' := [(2, 321), (0, x1), (0, s0)]) (st' := [(2, 321)]) rfl ?_
  refine wp_gf (pc' := 29) (t := 0) (v := (M 321 2)) rfl rfl (by decide) rfl rfl rfl ?_
  refine wp_if1 rfl rfl rfl (fun (c1 : (M 321 2) ≠ 0) => ?_) (fun (c1 : ¬ ((M 321 2) ≠ 0)) => ?_)
  · exact l1 c1
  · refine wp_run 2 (pc' := 34) (ls' := [(2, 321), (0, x1), (0, s0)]) (st' := [(0, s0), (0, x1)]) rfl ?_
    refine wp_if2 rfl rfl rfl (fun (c2 : x1 = s0) => ?_) (fun (c2 : ¬ (x1 = s0)) => ?_)
    · exact l2 c1 c2
    · refine wp_run 1 (pc' := 38) (ls' := [(2, 321), (0, x1), (0, s0)]) (st' := [(2, 321)]) rfl ?_
      refine wp_gf (pc' := 41) (t := 2) (v := 336) rfl rfl (by decide) rfl rfl (fx_321_30 hF) ?_
      refine wp_run 1 (pc' := 42) (ls' := [(2, 321), (0, x1), (0, s0)]) (st' := [(0, x1), (2, 336)]) rfl ?_
      refine wp_iald (pc' := 43) (v := (M 336 x1)) rfl rfl rfl (b1 c1 c2) rfl ?_
      refine wp_run 5 (pc' := 48) (ls' := [(2, 321), (0, x1), (0, s0)]) (st' := [(0, 1), (0, (z_and (z_shr (M 336 x1) s0) 1))]) rfl ?_
      refine wp_if2 rfl rfl rfl (fun (c3 : (z_and (z_shr (M 336 x1) s0) 1) ≠ 1) => ?_) (fun (c3 : ¬ ((z_and (z_shr (M 336 x1) s0) 1) ≠ 1)) => ?_)
      · exact l3 c1 c2 c3
      · exact l4 c1 c2 c3
set_option maxRecDepth 20000 in
theorem gX10_readFeud_51 {xs : List Int} {d : Nat} {M : z_M} {P : Option z_V → z_L → z_M → Prop} {x1 : Int} {x2 : Int} 
    (l1 : wp xs d mX10_wrong 0 [(2, 321), (0, 3)] [] z_LL M (fun r L1 M1 => wp xs (d + 1) mX10_readFeud 56 [(2, 321), (0, x1), (0, x2)] (z_ol r ++ []) L1 M1 P)) :
    wp xs (d + 1) mX10_readFeud 51 [(2, 321), (0, x1), (0, x2)] [] z_LL M P := by
  refine wp_run 2 (pc' := 53) (ls' := [(2, 321), (0, x1), (0, x2)]) (st' := [(0, 3), (2, 321)]) rfl ?_
  refine wp_callv (pc' := 56) (as := [(2, 321), (0, 3)]) (rest := []) (ls1 := [(2, 321), (0, 3)]) rfl rfl rfl rfl rfl rfl ?_
  exact l1
set_option maxRecDepth 20000 in
theorem gX10_readFeud_56 {xs : List Int} {d : Nat} {M : z_M} {P : Option z_V → z_L → z_M → Prop} {x1 : Int} {x2 : Int} (hF : z_fix M) 
    (b1 : ((M 321 2) ≤ 0) → 0 ≤ x1 ∧ x1 < 6)
    (b2 : ((M 321 2) ≤ 0) → 0 ≤ x2 ∧ x2 < 6)
    (l1 : ((M 321 2) ≤ 0) → wp xs d mX10_token 0 [(2, 321), (3, 0), (3, 0)] [] z_LL (z_up (z_up (z_up M 336 x1 (z_or (M 336 x1) (z_shl 1 x2))) 336 x2 (z_or ((z_up M 336 x1 (z_or (M 336 x1) (z_shl 1 x2))) 336 x2) (z_shl 1 x1))) 321 41 (z_w ((M 321 41) + 1))) (fun r L1 M1 => wp xs (d + 1) mX10_readFeud 102 [(2, 321), (0, x1), (0, x2)] (z_ol r ++ []) L1 M1 P))
    (l2 : (¬ ((M 321 2) ≤ 0)) → P none z_LL M) :
    wp xs (d + 1) mX10_readFeud 56 [(2, 321), (0, x1), (0, x2)] [] z_LL M P := by
  refine wp_run 1 (pc' := 57) (ls' := [(2, 321), (0, x1), (0, x2)]) (st' := [(2, 321)]) rfl ?_
  refine wp_gf (pc' := 60) (t := 0) (v := (M 321 2)) rfl rfl (by decide) rfl rfl rfl ?_
  refine wp_if1 rfl rfl rfl (fun (c1 : (M 321 2) ≤ 0) => ?_) (fun (c1 : ¬ ((M 321 2) ≤ 0)) => ?_)
  · refine wp_run 1 (pc' := 65) (ls' := [(2, 321), (0, x1), (0, x2)]) (st' := [(2, 321)]) rfl ?_
    refine wp_gf (pc' := 68) (t := 2) (v := 336) rfl rfl (by decide) rfl rfl (fx_321_30 hF) ?_
    refine wp_run 2 (pc' := 70) (ls' := [(2, 321), (0, x1), (0, x2)]) (st' := [(0, x1), (2, 336), (0, x1), (2, 336)]) rfl ?_
    refine wp_iald (pc' := 71) (v := (M 336 x1)) rfl rfl rfl (b1 c1) rfl ?_
    refine wp_run 4 (pc' := 75) (ls' := [(2, 321), (0, x1), (0, x2)]) (st' := [(0, (z_or (M 336 x1) (z_shl 1 x2))), (0, x1), (2, 336)]) rfl ?_
    refine wp_iast (pc' := 76) rfl rfl rfl (b1 c1) ?_
    refine wp_run 1 (pc' := 77) (ls' := [(2, 321), (0, x1), (0, x2)]) (st' := [(2, 321)]) rfl ?_
    refine wp_gf (pc' := 80) (t := 2) (v := 336) rfl rfl (by decide) rfl rfl (z_upq (by decide) (fx_321_30 hF)) ?_
    refine wp_run 2 (pc' := 82) (ls' := [(2, 321), (0, x1), (0, x2)]) (st' := [(0, x2), (2, 336), (0, x2), (2, 336)]) rfl ?_
    refine wp_iald (pc' := 83) (v := ((z_up M 336 x1 (z_or (M 336 x1) (z_shl 1 x2))) 336 x2)) rfl rfl rfl (b2 c1) rfl ?_
    refine wp_run 4 (pc' := 87) (ls' := [(2, 321), (0, x1), (0, x2)]) (st' := [(0, (z_or ((z_up M 336 x1 (z_or (M 336 x1) (z_shl 1 x2))) 336 x2) (z_shl 1 x1))), (0, x2), (2, 336)]) rfl ?_
    refine wp_iast (pc' := 88) rfl rfl rfl (b2 c1) ?_
    refine wp_run 2 (pc' := 90) (ls' := [(2, 321), (0, x1), (0, x2)]) (st' := [(2, 321), (2, 321)]) rfl ?_
    refine wp_gf (pc' := 93) (t := 0) (v := (M 321 41)) rfl rfl (by decide) rfl rfl (z_upq (by decide) (z_upq (by decide) rfl)) ?_
    refine wp_run 2 (pc' := 95) (ls' := [(2, 321), (0, x1), (0, x2)]) (st' := [(0, (z_w ((M 321 41) + 1))), (2, 321)]) rfl ?_
    refine wp_pf (pc' := 98) rfl rfl rfl rfl (fun z => absurd z (by decide)) (fun z => absurd z (by decide)) ?_
    refine wp_run 1 (pc' := 99) (ls' := [(2, 321), (0, x1), (0, x2)]) (st' := [(2, 321)]) rfl ?_
    refine wp_callv (pc' := 102) (as := [(2, 321)]) (rest := []) (ls1 := [(2, 321), (3, 0), (3, 0)]) rfl rfl rfl rfl rfl rfl ?_
    exact l1 c1
  · exact wp_ret rfl rfl (l2 c1)
set_option maxRecDepth 20000 in
theorem gX10_readFeud_102 {xs : List Int} {d : Nat} {M : z_M} {P : Option z_V → z_L → z_M → Prop} {x1 : Int} {x2 : Int} 
    (l1 : P none z_LL M) :
    wp xs d mX10_readFeud 102 [(2, 321), (0, x1), (0, x2)] [] z_LL M P := by
  exact wp_ret rfl rfl (l1)
/-- the model's cells tell G -/
def zm_d (j : Int) : Prop := j = 17 ∨ j = 20 ∨ (36 ≤ j ∧ j ≤ 45) ∨ (54 ≤ j ∧ j ≤ 58)
def zm_c (M G : z_M) : Prop := (∀ j, zm_d j → M 321 j = G 321 j) ∧ (∀ k, 0 ≤ k → k < G 321 17 → M 324 k = G 324 k ∧ M 325 k = G 325 k) ∧ (∀ x, 0 ≤ x → x < 25 → M 331 x = G 331 x) ∧ M 323 = G 323 ∧ M 332 = G 332 ∧ M 333 = G 333 ∧ M 334 = G 334 ∧ M 335 = G 335 ∧ M 336 = G 336
def zm_q (q : Int) : Prop := q = 321 ∨ (323 ≤ q ∧ q ≤ 325) ∨ q = 328 ∨ (331 ≤ q ∧ q ≤ 336)
def zm_j (j : Int) : Prop := (2 ≤ j ∧ j ≤ 4) ∨ (6 ≤ j ∧ j ≤ 9) ∨ j = 17 ∨ j = 19 ∨ j = 20 ∨ j = 22 ∨ j = 23 ∨ (36 ≤ j ∧ j ≤ 45)
/-- only what is read changes -/
def zm_b (M M' : z_M) : Prop := (∀ q, ¬ zm_q q → M' q = M q) ∧ ∀ j, ¬ zm_j j → M' 321 j = M 321 j
def zj (b : Int → Int) (n : Int) (M' : z_M) (r : zs_S × z_M) : Prop := zs_m M' b n r.1 ∧ ∀ p, r.1 = .ok p → zm_c M' r.2
section
variable {xs : List Int} {d : Nat} {M M' G : z_M} {b : Int → Int} {n p : Int} {σ : zs_S}
theorem zm_b_r : zm_b M M := ⟨fun _ _ => rfl, fun _ _ => rfl⟩
theorem zm_b_t {M2 : z_M} (f : zm_b M M') (g : zm_b M' M2) : zm_b M M2 := ⟨fun q a => by rw [g.1 q a, f.1 q a], fun j a => by rw [g.2 j a, f.2 j a]⟩
theorem zm_b_h (f : zs_h M M') : zm_b M M' := ⟨fun q a => f.1 q (fun e => a (Or.inl e)), fun j a => f.2 j (fun w => a (by unfold zs_j at w; unfold zm_j; omega))⟩
theorem zm_b_u {q j v : Int} (h : zm_q q) (hj : q = 321 → zm_j j) : zm_b M (z_up M q j v) := ⟨fun a ha => z_upn (fun e => ha (e ▸ h)), fun i hi => by
  by_cases e : q = 321
  · rw [e, z_upi (fun (w : i = j) => hi (by rw [w]; exact hj e)) rfl]
  · rw [z_upn (fun w => e w.symm)]⟩
theorem zm_b_F (f : zm_b M M') (hF : z_fix M) : z_fix M' := z_fix_gen hF (fun q i hq => by
  by_cases e : q = 321
  · rw [e] at hq ⊢
    exact f.2 i (by unfold z_fin at hq; unfold zm_j; omega)
  · rw [f.1 q (by unfold z_fin at hq; unfold zm_q; omega)])
theorem zm_c_b {q : Int} (f : zs_h M M') (h : zm_c M G) : zm_c M' G := by
  obtain ⟨h1, h2, h3, h4⟩ := h
  refine ⟨fun j hj => by rw [f.2 j (by unfold zm_d at hj; unfold zs_j; omega)]; exact h1 j hj, ?_, ?_, ?_⟩
  · rw [f.1 324 (by decide), f.1 325 (by decide)]
    exact h2
  · rw [f.1 331 (by decide)]
    exact h3
  · rw [f.1 323 (by decide), f.1 332 (by decide), f.1 333 (by decide), f.1 334 (by decide), f.1 335 (by decide), f.1 336 (by decide)]
    exact h4
theorem zm_c_h (h : zm_c M G) (f : zs_h M M') : zm_c M' G := zm_c_b (q := 0) f h
theorem zup_c {q j v a : Int} (e : M a = G a) : z_up M q j v a = z_up G q j v a := by
  funext i
  unfold z_up
  rw [e]
theorem zup_p {q j v a i : Int} (e : M a i = G a i) : z_up M q j v a i = z_up G q j v a i := by
  unfold z_up
  rw [e]
theorem zm_c_u {q j v : Int} (hq : ¬ (q = 321 ∧ j = 17)) (h : zm_c M G) : zm_c (z_up M q j v) (z_up G q j v) := by
  obtain ⟨h1, h2, h3, h4, h5, h6, h7, h8, h9⟩ := h
  have e17 : z_up G q j v 321 17 = G 321 17 := by
    unfold z_up
    exact if_neg (fun w => hq ⟨w.1.symm, w.2.symm⟩)
  exact ⟨fun i hi => zup_p (h1 i hi), fun k k1 k2 => by rw [e17] at k2; exact ⟨zup_p (h2 k k1 k2).1, zup_p (h2 k k1 k2).2⟩, fun x x1 x2 => zup_p (h3 x x1 x2), zup_c h4, zup_c h5, zup_c h6, zup_c h7, zup_c h8, zup_c h9⟩
/-- a cell of M that G doesn't tell -/
theorem zm_c_o {q j v : Int} (hq : q = 328 ∨ (q = 321 ∧ ¬ zm_d j)) (h : zm_c M G) : zm_c (z_up M q j v) G := by
  obtain ⟨h1, h2, h3, h4⟩ := h
  have o : ∀ a, a ≠ q → z_up M q j v a = M a := fun a w => z_upn w
  refine ⟨fun i hi => ?_, ?_, ?_, ?_⟩
  · rcases hq with e | ⟨e, w⟩
    · rw [o 321 (by omega)]
      exact h1 i hi
    · rw [e, z_upi (fun (z : i = j) => w (by rw [← z]; exact hi)) rfl]
      exact h1 i hi
  · rw [o 324 (by omega), o 325 (by omega)]
    exact h2
  · rw [o 331 (by omega)]
    exact h3
  · rw [o 323 (by omega), o 332 (by omega), o 333 (by omega), o 334 (by omega), o 335 (by omega), o 336 (by omega)]
    exact h4
theorem zs_m_u {q j v : Int} (h2 : q ≠ 322) (hj : q = 321 → ¬ (2 ≤ j ∧ j ≤ 9)) (h : zs_m M b n σ) : zs_m (z_up M q j v) b n σ := by
  have e : ∀ i, 2 ≤ i → i ≤ 9 → z_up M q j v 321 i = M 321 i := fun i i1 i2 => by
    by_cases w : q = 321
    · rw [w, z_upi (by have := hj w; omega) rfl]
    · rw [z_upn (fun z => w z.symm)]
  unfold zs_m zt_u zt_m at h ⊢
  rw [z_upn (q := 322) (fun w => h2 w.symm), e 5 (by decide) (by decide), e 2 (by decide) (by decide), e 3 (by decide) (by decide), e 6 (by decide) (by decide), e 7 (by decide) (by decide), e 4 (by decide) (by decide), e 8 (by decide) (by decide), e 9 (by decide) (by decide)]
  exact h
theorem zs_m_e {e : Int × Int} (h : zs_m M b n (.error e)) : M 321 2 ≠ 0 ∧ 0 < M 321 2 := by
  have h1 : M 321 2 = e.1 := h.2.1.1
  have h2 : 0 < e.1 := h.2.2.1
  omega
theorem zs_m_o (h : zs_m M b n (.ok p)) : M 321 2 = 0 ∧ (0 ≤ p ∧ p ≤ n) ∧ M 321 6 = zt_r (zt_k b n p) ∧ (zt_k b n p = 25 → M 321 8 = zt_v b n p) ∧ (zt_k b n p ≤ 24 → M 321 9 = z_c8 (zt_l b n p)) := by
  have h4 := h.2.2.2 p rfl
  exact ⟨h.2.1.1, h.2.2.1, h4.1, h4.2.2.2.1, h4.2.2.2.2⟩
theorem m_gorge {P : Option z_V → z_L → z_M → Prop} (hF : z_fix M) (h : zs_m M b n (.ok p)) (hk : zt_k b n p ≠ 27) (hm : zm_c M G) (k : ∀ M' : z_M, zm_b M M' → zj b n M' (zb_gorge b n (.ok (zt_x b n p)) G) → P none z_LL M') : wp xs (d + 6) mX10_readGorge 0 [(2, 321)] [] z_LL M P := by
  refine gX10_readGorge_0 (d := d + 5) (s_X10_next (d := d + 4) hF h hk (fun M1 f1 c1 => ?_))
  have b1 := zm_b_h f1
  refine gX10_readGorge_4 (d := d + 5) (s_X10_toldNumber (d := d + 3) (zm_b_F b1 hF) c1 (fun v2 M2 f2 c2 e2 => ?_))
  have b2 := zm_b_t (zm_b_t b1 (zm_b_h f2)) (zm_b_u (q := 321) (j := 36) (v := v2) (by unfold zm_q; omega) (fun _ => by unfold zm_j; omega))
  refine gX10_readGorge_11 (d := d + 5) (s_X10_told (d := d + 2) (i := 1) (zm_b_F b2 hF) (by decide) (by decide) (zs_m_u (by decide) (by omega) c2) (fun v3 M3 f3 c3 e3 => ?_))
  refine gX10_readGorge_24 (k _ (zm_b_t (zm_b_t b2 (zm_b_h f3)) (zm_b_u (by unfold zm_q; omega) (fun _ => by unfold zm_j; omega))) ⟨zs_m_u (by decide) (by omega) c3, fun q hq => ?_⟩)
  obtain ⟨q1, hq1⟩ := (zs_nm_k hq).1
  obtain ⟨q2, hq2⟩ := zs_nd_k hq1
  have er : (zb_gorge b n (.ok (zt_x b n p)) G).2 = z_up (z_up G 321 36 v2) 321 37 v3 := by
    rw [e3 q hq, e2 q2 hq2]
    rfl
  rw [er]
  exact zm_c_u (by omega) (zm_c_h (zm_c_u (by omega) (zm_c_h (zm_c_h hm f1) f2)) f3)
theorem m_grass {P : Option z_V → z_L → z_M → Prop} (hF : z_fix M) (h : zs_m M b n (.ok p)) (hk : zt_k b n p ≠ 27) (hz : zg_z G) (h39 : G 321 39 < 8) (hn : ∀ x, 0 ≤ x → x < 25 → -1 ≤ G 331 x) (hm : zm_c M G) (k : ∀ M' : z_M, zm_b M M' → zj b n M' (zb_grass b n (.ok (zt_x b n p)) G) → P none z_LL M') : wp xs (d + 6) mX10_readGrass 0 [(2, 321), (3, 0), (3, 0), (3, 0)] [] z_LL M P := by
  obtain ⟨z1, z2, z3, z4, ⟨z5, z6, z7⟩, z8⟩ := id hz
  refine gX10_readGrass_0 (d := d + 5) (s_X10_next (d := d + 4) hF h hk (fun M1 f1 c1 => ?_))
  generalize hp1 : zt_x b n p = p1 at *
  have m1 := zm_c_h hm f1
  have t1 := gX10_readGrass_4 (M := M1) (xs := xs) (d := d + 5) (P := P)
  rw [m1.1 36 (by unfold zm_d; omega), z_wid (x := G 321 36 - 1) (by omega)] at t1
  refine t1 (s_X10_toldNumber (d := d + 3) (zm_b_F (zm_b_h f1) hF) c1 (fun v2 M2 f2 c2 e2 => ?_))
  have m2 := zm_c_h m1 f2
  have b2 := zm_b_t (zm_b_h f1) (zm_b_h f2)
  have F2 := zm_b_F b2 hF
  have e36 := m2.1 36 (by unfold zm_d; omega)
  have e37 := m2.1 37 (by unfold zm_d; omega)
  have tail : ∀ M3 : z_M, zs_h M2 M3 → zs_m M3 b n (zb_g2 b n (.ok p1) G) → wp xs (d + 6) mX10_readGrass 66 [(2, 321), (0, v2), (3, 0), (3, 0)] [] z_LL M3 P := fun M3 f3 c3 => by
    have m3 := zm_c_h m2 f3
    have b3 := zm_b_t b2 (zm_b_h f3)
    have t3 := gX10_readGrass_66 (M := M3) (xs := xs) (d := d + 5) (P := P) (x1 := v2)
    rw [m3.1 36 (by unfold zm_d; omega), m3.1 37 (by unfold zm_d; omega), z_wid (x := G 321 37 - 1) (by omega)] at t3
    refine t3 (s_X10_toldNumber (d := d + 3) (zm_b_F b3 hF) c3 (fun v4 M4 f4 c4 e4 => ?_))
    have m4 := zm_c_h m3 f4
    have b4 := zm_b_t b3 (zm_b_h f4)
    refine gX10_readGrass_81 (d := d + 5) (s_X10_toldNumber (d := d + 3) (zm_b_F b4 hF) c4 (fun v5 M5 f5 c5 e5 => ?_))
    have m5 := zm_c_h m4 f5
    have b5 := zm_b_t b4 (zm_b_h f5)
    have t5 := gX10_readGrass_92 (M := M5) (xs := xs) (d := d + 6) (P := P) (x1 := v2) (x2 := z_w (z_w (G 321 36 * v4) + v2)) (s0 := v5) (zm_b_F b5 hF)
    change zs_m M5 b n (zb_grass b n (.ok p1) G).1 at c5
    cases hr : (zb_grass b n (.ok p1) G).1 with
    | error e =>
      rw [hr] at c5
      have n5 := zs_m_e c5
      exact t5 (fun w => by omega) (fun w => by omega) (fun _ => k M5 b5 ⟨by rw [hr]; exact c5, fun q hq => by rw [hr] at hq; cases hq⟩)
    | ok p5 =>
      obtain ⟨⟨p4, h4⟩, r5⟩ := zs_nm_k hr
      obtain ⟨⟨p3, h3⟩, r4⟩ := zs_nm_k h4
      have h2 := (zs_ck_k h3).1
      have r2 := (zs_nm_k h2).2
      have v2e := e2 _ h2
      have v4e := e4 p4 h4
      have v5e := e5 p5 hr
      rw [← v2e] at r2
      change 0 ≤ zs_v b n (zb_g2 b n (.ok p1) G) ∧ zs_v b n (zb_g2 b n (.ok p1) G) ≤ G 321 37 - 1 at r4
      rw [← v4e] at r4
      rw [hr] at c5
      have n5 := (zs_m_o c5).1
      have ix := zb_ix z1 z2 r4 r2
      have ec : G 321 36 * v4 = v4 * G 321 36 := Int.mul_comm _ _
      have e39 := m5.1 39 (by unfold zm_d; omega)
      rw [ec, z_wid (x := v4 * G 321 36) (by omega), z_wid (x := v4 * G 321 36 + v2) (by omega), e39, z_wid (x := G 321 39 + 1) (by omega)] at t5
      rw [ec, z_wid (x := v4 * G 321 36) (by omega), z_wid (x := v4 * G 321 36 + v2) (by omega)]
      refine t5 (fun _ => ⟨ix.2.1, ix.2.2.1⟩) (fun _ => k _ (zm_b_t b5 (zm_b_t (zm_b_u (by unfold zm_q; omega) (by omega)) (zm_b_u (by unfold zm_q; omega) (fun _ => by unfold zm_j; omega)))) ⟨by rw [hr]; exact zs_m_u (by decide) (by omega) (zs_m_u (by decide) (by omega) c5), fun q hq => ?_⟩) (fun w => by omega)
      rw [v2e, v4e, v5e]
      exact zm_c_u (by omega) (zm_c_u (by omega) m5)
  have t2 := gX10_readGrass_15 (M := M2) (xs := xs) (d := d + 6) (P := P) (s0 := v2) F2
  rw [e36, e37] at t2
  cases hr : zs_nm b n 0 (G 321 36 - 1) (.ok p1) with
  | error e =>
    rw [hr] at c2
    have n2 := zs_m_e c2
    have hg : zb_g2 b n (.ok p1) G = .error e := by
      unfold zb_g2
      rw [hr]
      rfl
    exact t2 (fun _ => tail M2 zs_h_r (by rw [hg]; exact c2)) (fun w => absurd n2.1 w) (fun w => absurd n2.1 w) (fun w => absurd n2.1 w) (fun w => absurd n2.1 w) (fun w => absurd n2.1 w)
  | ok q =>
    have r2 := (zs_nm_k hr).2
    have v2e := e2 q hr
    rw [← v2e] at r2
    rw [hr] at c2
    obtain ⟨n2, nq, s6, s8, s9⟩ := zs_m_o c2
    have ri := (zt_r_i (b := b) (n := n) (p := q)).2.1
    have hgC : zb_gC b n (.ok p1) G ↔ zt_k b n q = 25 ∧ zt_v b n q < G 321 37 ∧ G 331 (zt_v b n q * G 321 36 + v2) ≠ -1 := by
      unfold zb_gC
      rw [hr, ← v2e]
      exact Iff.rfl
    have no : ¬ zb_gC b n (.ok p1) G → wp xs (d + 6) mX10_readGrass 66 [(2, 321), (0, v2), (3, 0), (3, 0)] [] z_LL M2 P := fun w => tail M2 zs_h_r (by
      have : zb_g2 b n (.ok p1) G = .ok q := by
        unfold zb_g2
        rw [hr]
        exact if_neg w
      rw [this]
      exact c2)
    have ix : zt_k b n q = 25 → ¬ G 321 37 ≤ zt_v b n q → z_w (z_w (G 321 36 * M2 321 8) + v2) = zt_v b n q * G 321 36 + v2 ∧ 0 ≤ zt_v b n q * G 321 36 + v2 ∧ zt_v b n q * G 321 36 + v2 < 25 := fun w1 w2 => by
      have w3 := zt_k_n w1 nq
      have := zb_ix (v := zt_v b n q) (u := v2) z1 z2 (by omega) r2
      rw [s8 w1, Int.mul_comm, z_wid (x := zt_v b n q * G 321 36) (by omega), z_wid (by omega)]
      exact ⟨rfl, this.2.1, this.2.2.1⟩
    refine t2 (fun w => absurd n2 w) (fun _ w => no (fun c => w (by rw [s6]; exact ri.mpr (hgC.mp c).1))) (fun _ w1 w => no (fun c => ?_)) (fun _ w1 w => ?_) (fun _ w1 w2 w => ?_) (fun _ w1 w2 w => ?_)
    · have c := hgC.mp c
      rw [s8 c.1] at w
      omega
    · have k25 : zt_k b n q = 25 := ri.mp (by rw [← s6]; omega)
      rw [s8 k25] at w
      have := ix k25 w
      rw [this.1]
      exact this.2
    · have k25 : zt_k b n q = 25 := ri.mp (by rw [← s6]; omega)
      rw [s8 k25] at w2
      have := ix k25 w2
      rw [this.1, m2.2.2.1 _ this.2.1 this.2.2] at w
      exact no (fun c => by
        have c := hgC.mp c
        have := hn _ this.2.1 this.2.2
        omega)
    · have k25 : zt_k b n q = 25 := ri.mp (by rw [← s6]; omega)
      rw [s8 k25] at w2
      have := ix k25 w2
      rw [this.1, m2.2.2.1 _ this.2.1 this.2.2] at w
      have hC := hgC.mpr ⟨k25, by omega, by omega⟩
      refine gX10_readGrass_61 (d := d + 5) (s_X10_wrong c2 (by decide) (fun M3 f3 c3 => tail M3 f3 ?_))
      have e3 : zb_g2 b n (.ok p1) G = .error (3, zt_s b n q) := by
        unfold zb_g2
        rw [hr]
        exact if_pos hC
      have e4 : zs_w b n 3 (.ok q) = .error (3, zt_s b n q) := by
        show Except.error (zs_f b n q 3) = _
        unfold zs_f
        rw [if_neg (by omega)]
      rw [e3, ← e4]
      exact c3
end
