/-! THE CALLS: days ahead -/
set_option maxRecDepth 20000 in
theorem gX9_pull_0 {xs : List Int} {d : Nat} {M : z_M} {P : Option z_V → z_L → z_M → Prop} {a1 : Int} {a2 : Int} (hF : z_fix M) (hg1 : z_gor M (M 1 0)) (hh2 : z_her M (M 1 2))
    (l1 : (a1 < 0) → P (some (0, (-1000000))) z_LL M)
    (l2 : (¬ (a1 < 0)) → ((M (M 1 0) 12) ≤ a1) → P (some (0, (-1000000))) z_LL M)
    (l3 : (¬ (a1 < 0)) → (¬ ((M (M 1 0) 12) ≤ a1)) → (a2 < 0) → P (some (0, (-1000000))) z_LL M)
    (l4 : (¬ (a1 < 0)) → (¬ ((M (M 1 0) 12) ≤ a1)) → (¬ (a2 < 0)) → ((z_w ((M (M 1 0) 10) * (M (M 1 0) 11))) ≤ a2) → P (some (0, (-1000000))) z_LL M)
    (l5 : (¬ (a1 < 0)) → (¬ ((M (M 1 0) 12) ≤ a1)) → (¬ (a2 < 0)) → (¬ ((z_w ((M (M 1 0) 10) * (M (M 1 0) 11))) ≤ a2)) → wp xs (d + 1) mX8_count 0 [(2, 34), (2, (M 1 2)), (3, 0)] [] z_LL M (fun r L1 M1 => wp xs (d + 2) mX9_pull 36 [(2, 1), (0, a1), (0, a2)] (z_ol r ++ []) L1 M1 P)) :
    wp xs (d + 2) mX9_pull 0 [(2, 1), (0, a1), (0, a2)] [] z_LL M P := by
  refine wp_run 1 (pc' := 1) (ls' := [(2, 1), (0, a1), (0, a2)]) (st' := [(2, 1)]) rfl ?_
  refine wp_gf (pc' := 4) (t := 2) (v := (M 1 0)) rfl rfl (by decide) rfl rfl rfl ?_
  refine wp_run 1 (pc' := 5) (ls' := [(2, 1), (0, a1), (0, a2)]) (st' := [(0, a1), (2, (M 1 0))]) rfl ?_
  refine wp_callv (pc' := 8) (as := [(2, (M 1 0)), (0, a1)]) (rest := []) (ls1 := [(2, (M 1 0)), (0, a1)]) rfl rfl rfl rfl (z_args_v rfl rfl rfl rfl (Nat.le_of_ble_eq_true rfl) rfl (by decide) (z_gl0 hg1)) rfl ?_
  refine wp_run 1 (pc' := 1) (ls' := [(2, (M 1 0)), (0, a1)]) (st' := [(0, a1)]) rfl ?_
  refine wp_if1 rfl rfl rfl (fun (c1 : a1 < 0) => ?_) (fun (c1 : ¬ (a1 < 0)) => ?_)
  · refine wp_run 1 (pc' := 17) (ls' := [(2, (M 1 0)), (0, a1)]) (st' := [(0, 0)]) rfl ?_
    refine wp_ret rfl rfl ?_
    show wp xs _ mX9_pull 8 [(2, 1), (0, a1), (0, a2)] [(0, 0)] z_LL M _
    refine wp_run 2 (pc' := 24) (ls' := [(2, 1), (0, a1), (0, a2)]) (st' := [(0, (-1000000))]) rfl ?_
    exact wp_ret rfl rfl (l1 c1)
  · refine wp_run 2 (pc' := 6) (ls' := [(2, (M 1 0)), (0, a1)]) (st' := [(2, (M 1 0)), (0, a1)]) rfl ?_
    refine wp_gf (pc' := 9) (t := 0) (v := (M (M 1 0) 12)) rfl rfl (by decide) rfl (z_gl0 hg1) rfl ?_
    refine wp_if2 rfl rfl rfl (fun (c2 : (M (M 1 0) 12) ≤ a1) => ?_) (fun (c2 : ¬ ((M (M 1 0) 12) ≤ a1)) => ?_)
    · refine wp_run 1 (pc' := 17) (ls' := [(2, (M 1 0)), (0, a1)]) (st' := [(0, 0)]) rfl ?_
      refine wp_ret rfl rfl ?_
      show wp xs _ mX9_pull 8 [(2, 1), (0, a1), (0, a2)] [(0, 0)] z_LL M _
      refine wp_run 2 (pc' := 24) (ls' := [(2, 1), (0, a1), (0, a2)]) (st' := [(0, (-1000000))]) rfl ?_
      exact wp_ret rfl rfl (l2 c1 c2)
    · refine wp_run 2 (pc' := 17) (ls' := [(2, (M 1 0)), (0, a1)]) (st' := [(0, 1)]) rfl ?_
      refine wp_ret rfl rfl ?_
      show wp xs _ mX9_pull 8 [(2, 1), (0, a1), (0, a2)] [(0, 1)] z_LL M _
      refine wp_run 2 (pc' := 12) (ls' := [(2, 1), (0, a1), (0, a2)]) (st' := [(2, 1)]) rfl ?_
      refine wp_gf (pc' := 15) (t := 2) (v := (M 1 0)) rfl rfl (by decide) rfl rfl rfl ?_
      refine wp_run 1 (pc' := 16) (ls' := [(2, 1), (0, a1), (0, a2)]) (st' := [(0, a2), (2, (M 1 0))]) rfl ?_
      refine wp_callv (pc' := 19) (as := [(2, (M 1 0)), (0, a2)]) (rest := []) (ls1 := [(2, (M 1 0)), (0, a2)]) rfl rfl rfl rfl (z_args_v rfl rfl rfl rfl (Nat.le_of_ble_eq_true rfl) rfl (by decide) (z_gl0 hg1)) rfl ?_
      refine wp_run 1 (pc' := 1) (ls' := [(2, (M 1 0)), (0, a2)]) (st' := [(0, a2)]) rfl ?_
      refine wp_if1 rfl rfl rfl (fun (c3 : a2 < 0) => ?_) (fun (c3 : ¬ (a2 < 0)) => ?_)
      · refine wp_run 1 (pc' := 17) (ls' := [(2, (M 1 0)), (0, a2)]) (st' := [(0, 0)]) rfl ?_
        refine wp_ret rfl rfl ?_
        show wp xs _ mX9_pull 19 [(2, 1), (0, a1), (0, a2)] [(0, 0)] z_LL M _
        refine wp_run 2 (pc' := 24) (ls' := [(2, 1), (0, a1), (0, a2)]) (st' := [(0, (-1000000))]) rfl ?_
        exact wp_ret rfl rfl (l3 c1 c2 c3)
      · refine wp_run 2 (pc' := 6) (ls' := [(2, (M 1 0)), (0, a2)]) (st' := [(2, (M 1 0)), (0, a2)]) rfl ?_
        refine wp_callv (pc' := 9) (as := [(2, (M 1 0))]) (rest := [(0, a2)]) (ls1 := [(2, (M 1 0))]) rfl rfl rfl rfl (z_args_v rfl rfl rfl rfl (Nat.le_of_ble_eq_true rfl) rfl (by decide) (z_gl0 hg1)) rfl ?_
        refine wp_run 1 (pc' := 1) (ls' := [(2, (M 1 0))]) (st' := [(2, (M 1 0))]) rfl ?_
        refine wp_gf (pc' := 4) (t := 0) (v := (M (M 1 0) 10)) rfl rfl (by decide) rfl (z_gl0 hg1) rfl ?_
        refine wp_run 1 (pc' := 5) (ls' := [(2, (M 1 0))]) (st' := [(2, (M 1 0)), (0, (M (M 1 0) 10))]) rfl ?_
        refine wp_gf (pc' := 8) (t := 0) (v := (M (M 1 0) 11)) rfl rfl (by decide) rfl (z_gl0 hg1) rfl ?_
        refine wp_run 1 (pc' := 9) (ls' := [(2, (M 1 0))]) (st' := [(0, (z_w ((M (M 1 0) 10) * (M (M 1 0) 11))))]) rfl ?_
        refine wp_ret rfl rfl ?_
        show wp xs _ mX1_hasCell 9 [(2, (M 1 0)), (0, a2)] [(0, (z_w ((M (M 1 0) 10) * (M (M 1 0) 11)))), (0, a2)] z_LL M _
        refine wp_if2 rfl rfl rfl (fun (c4 : (z_w ((M (M 1 0) 10) * (M (M 1 0) 11))) ≤ a2) => ?_) (fun (c4 : ¬ ((z_w ((M (M 1 0) 10) * (M (M 1 0) 11))) ≤ a2)) => ?_)
        · refine wp_run 1 (pc' := 17) (ls' := [(2, (M 1 0)), (0, a2)]) (st' := [(0, 0)]) rfl ?_
          refine wp_ret rfl rfl ?_
          show wp xs _ mX9_pull 19 [(2, 1), (0, a1), (0, a2)] [(0, 0)] z_LL M _
          refine wp_run 2 (pc' := 24) (ls' := [(2, 1), (0, a1), (0, a2)]) (st' := [(0, (-1000000))]) rfl ?_
          exact wp_ret rfl rfl (l4 c1 c2 c3 c4)
        · refine wp_run 2 (pc' := 17) (ls' := [(2, (M 1 0)), (0, a2)]) (st' := [(0, 1)]) rfl ?_
          refine wp_ret rfl rfl ?_
          show wp xs _ mX9_pull 19 [(2, 1), (0, a1), (0, a2)] [(0, 1)] z_LL M _
          refine wp_run 2 (pc' := 26) (ls' := [(2, 1), (0, a1), (0, a2)]) (st' := [(2, 1)]) rfl ?_
          refine wp_gf (pc' := 29) (t := 2) (v := 34) rfl rfl (by decide) rfl rfl (fx_1_5 hF) ?_
          refine wp_run 1 (pc' := 30) (ls' := [(2, 1), (0, a1), (0, a2)]) (st' := [(2, 1), (2, 34)]) rfl ?_
          refine wp_gf (pc' := 33) (t := 2) (v := (M 1 2)) rfl rfl (by decide) rfl rfl rfl ?_
          refine wp_callv (pc' := 36) (as := [(2, 34), (2, (M 1 2))]) (rest := []) (ls1 := [(2, 34), (2, (M 1 2)), (3, 0)]) rfl rfl rfl rfl rfl rfl ?_
          exact l5 c1 c2 c3 c4
set_option maxRecDepth 20000 in
theorem gX9_pull_36 {xs : List Int} {d : Nat} {M : z_M} {P : Option z_V → z_L → z_M → Prop} {x1 : Int} {x2 : Int} (hF : z_fix M) (hh1 : z_her M (M 1 2))
    (l1 : wp xs d mX8_worth 0 [(2, 34), (2, (M 1 2)), (0, x1), (0, x2), (3, 0), (3, 0), (3, 0), (3, 0)] [] z_LL M (fun r L1 M1 => wp xs (d + 1) mX9_pull 49 [(2, 1), (0, x1), (0, x2)] (z_ol r ++ []) L1 M1 P)) :
    wp xs (d + 1) mX9_pull 36 [(2, 1), (0, x1), (0, x2)] [] z_LL M P := by
  refine wp_run 1 (pc' := 37) (ls' := [(2, 1), (0, x1), (0, x2)]) (st' := [(2, 1)]) rfl ?_
  refine wp_gf (pc' := 40) (t := 2) (v := 34) rfl rfl (by decide) rfl rfl (fx_1_5 hF) ?_
  refine wp_run 1 (pc' := 41) (ls' := [(2, 1), (0, x1), (0, x2)]) (st' := [(2, 1), (2, 34)]) rfl ?_
  refine wp_gf (pc' := 44) (t := 2) (v := (M 1 2)) rfl rfl (by decide) rfl rfl rfl ?_
  refine wp_run 2 (pc' := 46) (ls' := [(2, 1), (0, x1), (0, x2)]) (st' := [(0, x2), (0, x1), (2, (M 1 2)), (2, 34)]) rfl ?_
  refine wp_callv (pc' := 49) (as := [(2, 34), (2, (M 1 2)), (0, x1), (0, x2)]) (rest := []) (ls1 := [(2, 34), (2, (M 1 2)), (0, x1), (0, x2), (3, 0), (3, 0), (3, 0), (3, 0)]) rfl rfl rfl rfl rfl rfl ?_
  exact l1
set_option maxRecDepth 20000 in
theorem gX9_pull_49 {xs : List Int} {d : Nat} {M : z_M} {P : Option z_V → z_L → z_M → Prop} {x1 : Int} {x2 : Int} {s0 : Int} 
    (l1 : P (some (0, s0)) z_LL M) :
    wp xs d mX9_pull 49 [(2, 1), (0, x1), (0, x2)] [(0, s0)] z_LL M P := by
  exact wp_ret rfl rfl (l1)
set_option maxRecDepth 20000 in
theorem gX10_pull_0 {xs : List Int} {d : Nat} {M : z_M} {P : Option z_V → z_L → z_M → Prop} {a1 : Int} {a2 : Int} (hF : z_fix M) (hC : z_mc M) 
    (l1 : (¬ (0 ≤ a1 ∧ a1 < M 321 48)) → P (some (0, (-1000000))) z_LL M)
    (l2 : ((0 ≤ a1 ∧ a1 < M 321 48)) → ((0 ≤ a2 ∧ a2 < M 321 46 * M 321 47)) → wp xs (d + 1) mX10_load 0 [(2, 321), (3, 0)] [] z_LL M (fun r L1 M1 => wp xs (d + 2) mX10_pull 24 [(2, 321), (0, a1), (0, a2)] (z_ol r ++ []) L1 M1 P))
    (l3 : ((0 ≤ a1 ∧ a1 < M 321 48)) → (¬ (0 ≤ a2 ∧ a2 < M 321 46 * M 321 47)) → P (some (0, (-1000000))) z_LL M) :
    wp xs (d + 2) mX10_pull 0 [(2, 321), (0, a1), (0, a2)] [] z_LL M P := by
  refine wp_run 2 (pc' := 2) (ls' := [(2, 321), (0, a1), (0, a2)]) (st' := [(0, a1), (2, 321)]) rfl ?_
  refine wp_callv (pc' := 5) (as := [(2, 321), (0, a1)]) (rest := []) (ls1 := [(2, 321), (0, a1)]) rfl rfl rfl rfl rfl rfl ?_
  refine s_X10_isFlock hF hC ?_
  show wp xs _ mX10_pull 5 [(2, 321), (0, a1), (0, a2)] [(0, (z_b (0 ≤ a1 ∧ a1 < M 321 48)))] z_LL M _
  refine wp_be rfl rfl rfl (fun (c1 : ¬ (0 ≤ a1 ∧ a1 < M 321 48)) => ?_) (fun (c1 : (0 ≤ a1 ∧ a1 < M 321 48)) => ?_)
  · refine wp_run 1 (pc' := 19) (ls' := [(2, 321), (0, a1), (0, a2)]) (st' := [(0, (-1000000))]) rfl ?_
    exact wp_ret rfl rfl (l1 c1)
  · refine wp_run 2 (pc' := 10) (ls' := [(2, 321), (0, a1), (0, a2)]) (st' := [(0, a2), (2, 321)]) rfl ?_
    refine wp_callv (pc' := 13) (as := [(2, 321), (0, a2)]) (rest := []) (ls1 := [(2, 321), (0, a2)]) rfl rfl rfl rfl rfl rfl ?_
    refine s_X10_isCell hF hC ?_
    show wp xs _ mX10_pull 13 [(2, 321), (0, a1), (0, a2)] [(0, (z_b (0 ≤ a2 ∧ a2 < M 321 46 * M 321 47)))] z_LL M _
    refine wp_bn rfl rfl rfl (fun (c2 : (0 ≤ a2 ∧ a2 < M 321 46 * M 321 47)) => ?_) (fun (c2 : ¬ (0 ≤ a2 ∧ a2 < M 321 46 * M 321 47)) => ?_)
    · refine wp_run 1 (pc' := 21) (ls' := [(2, 321), (0, a1), (0, a2)]) (st' := [(2, 321)]) rfl ?_
      refine wp_callv (pc' := 24) (as := [(2, 321)]) (rest := []) (ls1 := [(2, 321), (3, 0)]) rfl rfl rfl rfl rfl rfl ?_
      exact l2 c1 c2
    · refine wp_run 1 (pc' := 19) (ls' := [(2, 321), (0, a1), (0, a2)]) (st' := [(0, (-1000000))]) rfl ?_
      exact wp_ret rfl rfl (l3 c1 c2)
set_option maxRecDepth 20000 in
theorem gX10_pull_24 {xs : List Int} {d : Nat} {M : z_M} {P : Option z_V → z_L → z_M → Prop} {x1 : Int} {x2 : Int} 
    (l1 : wp xs d mX10_pullOf 0 [(2, 321), (0, x1), (0, x2)] [] z_LL M (fun r L1 M1 => wp xs (d + 1) mX10_pull 30 [(2, 321), (0, x1), (0, x2)] (z_ol r ++ []) L1 M1 P)) :
    wp xs (d + 1) mX10_pull 24 [(2, 321), (0, x1), (0, x2)] [] z_LL M P := by
  refine wp_run 3 (pc' := 27) (ls' := [(2, 321), (0, x1), (0, x2)]) (st' := [(0, x2), (0, x1), (2, 321)]) rfl ?_
  refine wp_callv (pc' := 30) (as := [(2, 321), (0, x1), (0, x2)]) (rest := []) (ls1 := [(2, 321), (0, x1), (0, x2)]) rfl rfl rfl rfl rfl rfl ?_
  exact l1
set_option maxRecDepth 20000 in
theorem gX10_pull_30 {xs : List Int} {d : Nat} {M : z_M} {P : Option z_V → z_L → z_M → Prop} {x1 : Int} {x2 : Int} {s0 : Int} 
    (l1 : P (some (0, s0)) z_LL M) :
    wp xs d mX10_pull 30 [(2, 321), (0, x1), (0, x2)] [(0, s0)] z_LL M P := by
  exact wp_ret rfl rfl (l1)
set_option maxRecDepth 20000 in
theorem gX9_matched_0 {xs : List Int} {d : Nat} {M : z_M} {P : Option z_V → z_L → z_M → Prop} (hg1 : z_gor M (M 1 0)) (hh2 : z_her M (M 1 2))
    (b1 : (M (M 1 0) 12) ≤ 6)
    (l1 : P (some (0, (z_w ((M (M 1 0) 12) - (z_bc (z_sgl M (M 1 2) (M (M 1 0) 12))))))) z_LL M) :
    wp xs (d + 1) mX9_matched 0 [(2, 1)] [] z_LL M P := by
  refine wp_run 1 (pc' := 1) (ls' := [(2, 1)]) (st' := [(2, 1)]) rfl ?_
  refine wp_gf (pc' := 4) (t := 2) (v := (M 1 0)) rfl rfl (by decide) rfl rfl rfl ?_
  refine wp_gf (pc' := 7) (t := 0) (v := (M (M 1 0) 12)) rfl rfl (by decide) rfl (z_gl0 hg1) rfl ?_
  refine wp_run 1 (pc' := 8) (ls' := [(2, 1)]) (st' := [(2, 1), (0, (M (M 1 0) 12))]) rfl ?_
  refine wp_gf (pc' := 11) (t := 2) (v := (M 1 2)) rfl rfl (by decide) rfl rfl rfl ?_
  refine wp_run 1 (pc' := 12) (ls' := [(2, 1)]) (st' := [(2, 1), (2, (M 1 2)), (0, (M (M 1 0) 12))]) rfl ?_
  refine wp_gf (pc' := 15) (t := 2) (v := (M 1 0)) rfl rfl (by decide) rfl rfl rfl ?_
  refine wp_gf (pc' := 18) (t := 0) (v := (M (M 1 0) 12)) rfl rfl (by decide) rfl (z_gl0 hg1) rfl ?_
  refine wp_callv (pc' := 21) (as := [(2, (M 1 2)), (0, (M (M 1 0) 12))]) (rest := [(0, (M (M 1 0) 12))]) (ls1 := [(2, (M 1 2)), (0, (M (M 1 0) 12)), (3, 0), (3, 0)]) rfl rfl rfl rfl (z_args_v rfl rfl rfl rfl (Nat.le_of_ble_eq_true rfl) rfl (by decide) (z_hl0 hh2)) rfl ?_
  refine s_X2_single hh2 (b1) ?_
  show wp xs _ mX9_matched 21 [(2, 1)] [(0, (z_sgl M (M 1 2) (M (M 1 0) 12))), (0, (M (M 1 0) 12))] z_LL M _
  refine wp_callv (pc' := 24) (as := [(0, (z_sgl M (M 1 2) (M (M 1 0) 12)))]) (rest := [(0, (M (M 1 0) 12))]) (ls1 := [(0, (z_sgl M (M 1 2) (M (M 1 0) 12)))]) rfl rfl rfl rfl rfl rfl ?_
  refine s_J6_bitCount_0f7a4  ?_
  show wp xs _ mX9_matched 24 [(2, 1)] [(0, (z_bc (z_sgl M (M 1 2) (M (M 1 0) 12)))), (0, (M (M 1 0) 12))] z_LL M _
  refine wp_run 1 (pc' := 25) (ls' := [(2, 1)]) (st' := [(0, (z_w ((M (M 1 0) 12) - (z_bc (z_sgl M (M 1 2) (M (M 1 0) 12))))))]) rfl ?_
  exact wp_ret rfl rfl (l1)
set_option maxRecDepth 20000 in
theorem gX10_matched_0 {xs : List Int} {d : Nat} {M : z_M} {P : Option z_V → z_L → z_M → Prop} 
    (l1 : wp xs d mX10_load 0 [(2, 321), (3, 0)] [] z_LL M (fun r L1 M1 => wp xs (d + 1) mX10_matched 4 [(2, 321)] (z_ol r ++ []) L1 M1 P)) :
    wp xs (d + 1) mX10_matched 0 [(2, 321)] [] z_LL M P := by
  refine wp_run 1 (pc' := 1) (ls' := [(2, 321)]) (st' := [(2, 321)]) rfl ?_
  refine wp_callv (pc' := 4) (as := [(2, 321)]) (rest := []) (ls1 := [(2, 321), (3, 0)]) rfl rfl rfl rfl rfl rfl ?_
  exact l1
set_option maxRecDepth 20000 in
theorem gX10_matched_4 {xs : List Int} {d : Nat} {M : z_M} {P : Option z_V → z_L → z_M → Prop} (hF : z_fix M) (hC : z_mc M) 
    (l1 : P (some (0, (z_amm M))) z_LL M) :
    wp xs (d + 2) mX10_matched 4 [(2, 321)] [] z_LL M P := by
  refine wp_run 1 (pc' := 5) (ls' := [(2, 321)]) (st' := [(2, 321)]) rfl ?_
  refine wp_callv (pc' := 8) (as := [(2, 321)]) (rest := []) (ls1 := [(2, 321), (3, 0), (3, 0)]) rfl rfl rfl rfl rfl rfl ?_
  refine s_X10_allMatched hF hC ?_
  show wp xs _ mX10_matched 8 [(2, 321)] [(0, (z_amm M))] z_LL M _
  exact wp_ret rfl rfl (l1)
set_option maxRecDepth 20000 in
theorem gX9_will_0 {xs : List Int} {d : Nat} {M : z_M} {P : Option z_V → z_L → z_M → Prop} {a1 : Int} {a2 : Int} (hF : z_fix M) (hg1 : z_gor M (M 1 0)) (hh2 : z_her M (M 1 2))
    (l1 : (a1 < 0) → P (some (0, (-1))) z_LL M)
    (l2 : (¬ (a1 < 0)) → ((M (M 1 0) 12) ≤ a1) → P (some (0, (-1))) z_LL M)
    (l3 : (¬ (a1 < 0)) → (¬ ((M (M 1 0) 12) ≤ a1)) → (a2 < 0) → P (some (0, (-1))) z_LL M)
    (l4 : (¬ (a1 < 0)) → (¬ ((M (M 1 0) 12) ≤ a1)) → (¬ (a2 < 0)) → (60 < a2) → P (some (0, (-1))) z_LL M)
    (l5 : (¬ (a1 < 0)) → (¬ ((M (M 1 0) 12) ≤ a1)) → (¬ (a2 < 0)) → (¬ (60 < a2)) → wp xs d mX0_behind 0 [(2, 38), (2, (M 1 2)), (0, a2), (3, 0)] [] z_LL M (fun r L1 M1 => wp xs (d + 1) mX9_will 32 [(2, 1), (0, a1), (0, a2)] (z_ol r ++ []) L1 M1 P)) :
    wp xs (d + 1) mX9_will 0 [(2, 1), (0, a1), (0, a2)] [] z_LL M P := by
  refine wp_run 1 (pc' := 1) (ls' := [(2, 1), (0, a1), (0, a2)]) (st' := [(2, 1)]) rfl ?_
  refine wp_gf (pc' := 4) (t := 2) (v := (M 1 0)) rfl rfl (by decide) rfl rfl rfl ?_
  refine wp_run 1 (pc' := 5) (ls' := [(2, 1), (0, a1), (0, a2)]) (st' := [(0, a1), (2, (M 1 0))]) rfl ?_
  refine wp_callv (pc' := 8) (as := [(2, (M 1 0)), (0, a1)]) (rest := []) (ls1 := [(2, (M 1 0)), (0, a1)]) rfl rfl rfl rfl (z_args_v rfl rfl rfl rfl (Nat.le_of_ble_eq_true rfl) rfl (by decide) (z_gl0 hg1)) rfl ?_
  refine wp_run 1 (pc' := 1) (ls' := [(2, (M 1 0)), (0, a1)]) (st' := [(0, a1)]) rfl ?_
  refine wp_if1 rfl rfl rfl (fun (c1 : a1 < 0) => ?_) (fun (c1 : ¬ (a1 < 0)) => ?_)
  · refine wp_run 1 (pc' := 17) (ls' := [(2, (M 1 0)), (0, a1)]) (st' := [(0, 0)]) rfl ?_
    refine wp_ret rfl rfl ?_
    show wp xs _ mX9_will 8 [(2, 1), (0, a1), (0, a2)] [(0, 0)] z_LL M _
    refine wp_run 2 (pc' := 19) (ls' := [(2, 1), (0, a1), (0, a2)]) (st' := [(0, (-1))]) rfl ?_
    exact wp_ret rfl rfl (l1 c1)
  · refine wp_run 2 (pc' := 6) (ls' := [(2, (M 1 0)), (0, a1)]) (st' := [(2, (M 1 0)), (0, a1)]) rfl ?_
    refine wp_gf (pc' := 9) (t := 0) (v := (M (M 1 0) 12)) rfl rfl (by decide) rfl (z_gl0 hg1) rfl ?_
    refine wp_if2 rfl rfl rfl (fun (c2 : (M (M 1 0) 12) ≤ a1) => ?_) (fun (c2 : ¬ ((M (M 1 0) 12) ≤ a1)) => ?_)
    · refine wp_run 1 (pc' := 17) (ls' := [(2, (M 1 0)), (0, a1)]) (st' := [(0, 0)]) rfl ?_
      refine wp_ret rfl rfl ?_
      show wp xs _ mX9_will 8 [(2, 1), (0, a1), (0, a2)] [(0, 0)] z_LL M _
      refine wp_run 2 (pc' := 19) (ls' := [(2, 1), (0, a1), (0, a2)]) (st' := [(0, (-1))]) rfl ?_
      exact wp_ret rfl rfl (l2 c1 c2)
    · refine wp_run 2 (pc' := 17) (ls' := [(2, (M 1 0)), (0, a1)]) (st' := [(0, 1)]) rfl ?_
      refine wp_ret rfl rfl ?_
      show wp xs _ mX9_will 8 [(2, 1), (0, a1), (0, a2)] [(0, 1)] z_LL M _
      refine wp_run 2 (pc' := 12) (ls' := [(2, 1), (0, a1), (0, a2)]) (st' := [(0, a2)]) rfl ?_
      refine wp_callv (pc' := 15) (as := [(0, a2)]) (rest := []) (ls1 := [(0, a2)]) rfl rfl rfl rfl rfl rfl ?_
      refine wp_run 1 (pc' := 1) (ls' := [(0, a2)]) (st' := [(0, a2)]) rfl ?_
      refine wp_if1 rfl rfl rfl (fun (c3 : a2 < 0) => ?_) (fun (c3 : ¬ (a2 < 0)) => ?_)
      · refine wp_run 1 (pc' := 15) (ls' := [(0, a2)]) (st' := [(0, 0)]) rfl ?_
        refine wp_ret rfl rfl ?_
        show wp xs _ mX9_will 15 [(2, 1), (0, a1), (0, a2)] [(0, 0)] z_LL M _
        refine wp_run 2 (pc' := 19) (ls' := [(2, 1), (0, a1), (0, a2)]) (st' := [(0, (-1))]) rfl ?_
        exact wp_ret rfl rfl (l3 c1 c2 c3)
      · refine wp_run 2 (pc' := 7) (ls' := [(0, a2)]) (st' := [(0, 60), (0, a2)]) rfl ?_
        refine wp_if2 rfl rfl rfl (fun (c4 : 60 < a2) => ?_) (fun (c4 : ¬ (60 < a2)) => ?_)
        · refine wp_run 1 (pc' := 15) (ls' := [(0, a2)]) (st' := [(0, 0)]) rfl ?_
          refine wp_ret rfl rfl ?_
          show wp xs _ mX9_will 15 [(2, 1), (0, a1), (0, a2)] [(0, 0)] z_LL M _
          refine wp_run 2 (pc' := 19) (ls' := [(2, 1), (0, a1), (0, a2)]) (st' := [(0, (-1))]) rfl ?_
          exact wp_ret rfl rfl (l4 c1 c2 c3 c4)
        · refine wp_run 2 (pc' := 15) (ls' := [(0, a2)]) (st' := [(0, 1)]) rfl ?_
          refine wp_ret rfl rfl ?_
          show wp xs _ mX9_will 15 [(2, 1), (0, a1), (0, a2)] [(0, 1)] z_LL M _
          refine wp_run 2 (pc' := 21) (ls' := [(2, 1), (0, a1), (0, a2)]) (st' := [(2, 1)]) rfl ?_
          refine wp_gf (pc' := 24) (t := 2) (v := 38) rfl rfl (by decide) rfl rfl (fx_1_6 hF) ?_
          refine wp_run 1 (pc' := 25) (ls' := [(2, 1), (0, a1), (0, a2)]) (st' := [(2, 1), (2, 38)]) rfl ?_
          refine wp_gf (pc' := 28) (t := 2) (v := (M 1 2)) rfl rfl (by decide) rfl rfl rfl ?_
          refine wp_run 1 (pc' := 29) (ls' := [(2, 1), (0, a1), (0, a2)]) (st' := [(0, a2), (2, (M 1 2)), (2, 38)]) rfl ?_
          refine wp_callv (pc' := 32) (as := [(2, 38), (2, (M 1 2)), (0, a2)]) (rest := []) (ls1 := [(2, 38), (2, (M 1 2)), (0, a2), (3, 0)]) rfl rfl rfl rfl rfl rfl ?_
          exact l5 c1 c2 c3 c4
set_option maxRecDepth 20000 in
theorem gX9_will_32 {xs : List Int} {d : Nat} {M : z_M} {P : Option z_V → z_L → z_M → Prop} {x1 : Int} {x2 : Int} {s0 : Int} (hs0 : z_her M s0)
    (b1 : 0 ≤ x1 ∧ x1 < 6)
    (l1 : P (some (0, (M (s0 + 1) x1))) z_LL M) :
    wp xs d mX9_will 32 [(2, 1), (0, x1), (0, x2)] [(2, s0)] z_LL M P := by
  refine wp_gf (pc' := 35) (t := 2) (v := (s0 + 1)) rfl rfl (by decide) rfl (z_hl0 hs0) (z_hf0 hs0) ?_
  refine wp_run 1 (pc' := 36) (ls' := [(2, 1), (0, x1), (0, x2)]) (st' := [(0, x1), (2, (s0 + 1))]) rfl ?_
  refine wp_iald (pc' := 37) (v := (M (s0 + 1) x1)) rfl rfl (z_hl1 hs0) (b1) rfl ?_
  exact wp_ret rfl rfl (l1)
set_option maxRecDepth 20000 in
theorem gX10_will_0 {xs : List Int} {d : Nat} {M : z_M} {P : Option z_V → z_L → z_M → Prop} {a1 : Int} {a2 : Int} (hF : z_fix M) (hC : z_mc M) 
    (l1 : (¬ (0 ≤ a1 ∧ a1 < M 321 48)) → P (some (0, (-1))) z_LL M)
    (l2 : ((0 ≤ a1 ∧ a1 < M 321 48)) → ((0 ≤ a2 ∧ a2 ≤ 60)) → wp xs (d + 1) mX10_goFar 0 [(2, 321), (0, a2), (0, (M 321 52)), (3, 0)] [] z_LL M (fun r L1 M1 => wp xs (d + 2) mX10_will 29 [(2, 321), (0, a1), (0, a2)] (z_ol r ++ []) L1 M1 P))
    (l3 : ((0 ≤ a1 ∧ a1 < M 321 48)) → (¬ (0 ≤ a2 ∧ a2 ≤ 60)) → P (some (0, (-1))) z_LL M) :
    wp xs (d + 2) mX10_will 0 [(2, 321), (0, a1), (0, a2)] [] z_LL M P := by
  refine wp_run 2 (pc' := 2) (ls' := [(2, 321), (0, a1), (0, a2)]) (st' := [(0, a1), (2, 321)]) rfl ?_
  refine wp_callv (pc' := 5) (as := [(2, 321), (0, a1)]) (rest := []) (ls1 := [(2, 321), (0, a1)]) rfl rfl rfl rfl rfl rfl ?_
  refine s_X10_isFlock hF hC ?_
  show wp xs _ mX10_will 5 [(2, 321), (0, a1), (0, a2)] [(0, (z_b (0 ≤ a1 ∧ a1 < M 321 48)))] z_LL M _
  refine wp_be rfl rfl rfl (fun (c1 : ¬ (0 ≤ a1 ∧ a1 < M 321 48)) => ?_) (fun (c1 : (0 ≤ a1 ∧ a1 < M 321 48)) => ?_)
  · refine wp_run 1 (pc' := 19) (ls' := [(2, 321), (0, a1), (0, a2)]) (st' := [(0, (-1))]) rfl ?_
    exact wp_ret rfl rfl (l1 c1)
  · refine wp_run 3 (pc' := 12) (ls' := [(2, 321), (0, a1), (0, a2)]) (st' := [(0, 60), (0, 0), (0, a2)]) rfl ?_
    refine wp_callv (pc' := 15) (as := [(0, a2), (0, 0), (0, 60)]) (rest := []) (ls1 := [(0, a2), (0, 0), (0, 60)]) rfl rfl rfl rfl rfl rfl ?_
    refine s_X10_isIn  ?_
    show wp xs _ mX10_will 15 [(2, 321), (0, a1), (0, a2)] [(0, (z_b (0 ≤ a2 ∧ a2 ≤ 60)))] z_LL M _
    refine wp_bn rfl rfl rfl (fun (c2 : (0 ≤ a2 ∧ a2 ≤ 60)) => ?_) (fun (c2 : ¬ (0 ≤ a2 ∧ a2 ≤ 60)) => ?_)
    · refine wp_run 3 (pc' := 23) (ls' := [(2, 321), (0, a1), (0, a2)]) (st' := [(2, 321), (0, a2), (2, 321)]) rfl ?_
      refine wp_gf (pc' := 26) (t := 0) (v := (M 321 52)) rfl rfl (by decide) rfl rfl rfl ?_
      refine wp_callv (pc' := 29) (as := [(2, 321), (0, a2), (0, (M 321 52))]) (rest := []) (ls1 := [(2, 321), (0, a2), (0, (M 321 52)), (3, 0)]) rfl rfl rfl rfl rfl rfl ?_
      exact l2 c1 c2
    · refine wp_run 1 (pc' := 19) (ls' := [(2, 321), (0, a1), (0, a2)]) (st' := [(0, (-1))]) rfl ?_
      exact wp_ret rfl rfl (l3 c1 c2)
set_option maxRecDepth 20000 in
theorem gX10_will_29 {xs : List Int} {d : Nat} {M : z_M} {P : Option z_V → z_L → z_M → Prop} {x1 : Int} {x2 : Int} (hF : z_fix M) 
    (b1 : 0 ≤ x1 ∧ x1 < 106)
    (l1 : P (some (0, (M 343 x1))) z_LL M) :
    wp xs d mX10_will 29 [(2, 321), (0, x1), (0, x2)] [] z_LL M P := by
  refine wp_run 1 (pc' := 30) (ls' := [(2, 321), (0, x1), (0, x2)]) (st' := [(2, 321)]) rfl ?_
  refine wp_gf (pc' := 33) (t := 2) (v := 343) rfl rfl (by decide) rfl rfl (fx_321_61 hF) ?_
  refine wp_run 1 (pc' := 34) (ls' := [(2, 321), (0, x1), (0, x2)]) (st' := [(0, x1), (2, 343)]) rfl ?_
  refine wp_iald (pc' := 35) (v := (M 343 x1)) rfl rfl rfl (b1) rfl ?_
  exact wp_ret rfl rfl (l1)
set_option maxRecDepth 20000 in
theorem gX9_mixes_0 {xs : List Int} {d : Nat} {M : z_M} {P : Option z_V → z_L → z_M → Prop} {a1 : Int} {a2 : Int} {a3 : Int} (hF : z_fix M) (hg1 : z_gor M (M 1 0)) (hh2 : z_her M (M 1 2))
    (b1 : M (M 1 0) 12 ≤ 6)
    (l1 : (¬ (z_cmg M (M 1 0) a1 a2)) → P (some (0, (-1))) z_LL M)
    (l2 : ((z_cmg M (M 1 0) a1 a2)) → (a3 < 0) → P (some (0, (-1))) z_LL M)
    (l3 : ((z_cmg M (M 1 0) a1 a2)) → (¬ (a3 < 0)) → (60 < a3) → P (some (0, (-1))) z_LL M)
    (l4 : ((z_cmg M (M 1 0) a1 a2)) → (¬ (a3 < 0)) → (¬ (60 < a3)) → wp xs (d + 1) mX0_behind 0 [(2, 38), (2, (M 1 2)), (0, a3), (3, 0)] [] z_LL M (fun r L1 M1 => wp xs (d + 2) mX9_mixes 33 [(2, 1), (0, a1), (0, a2), (0, a3)] (z_ol r ++ []) L1 M1 P)) :
    wp xs (d + 2) mX9_mixes 0 [(2, 1), (0, a1), (0, a2), (0, a3)] [] z_LL M P := by
  refine wp_run 1 (pc' := 1) (ls' := [(2, 1), (0, a1), (0, a2), (0, a3)]) (st' := [(2, 1)]) rfl ?_
  refine wp_gf (pc' := 4) (t := 2) (v := (M 1 0)) rfl rfl (by decide) rfl rfl rfl ?_
  refine wp_run 2 (pc' := 6) (ls' := [(2, 1), (0, a1), (0, a2), (0, a3)]) (st' := [(0, a2), (0, a1), (2, (M 1 0))]) rfl ?_
  refine wp_callv (pc' := 9) (as := [(2, (M 1 0)), (0, a1), (0, a2)]) (rest := []) (ls1 := [(2, (M 1 0)), (0, a1), (0, a2)]) rfl rfl rfl rfl (z_args_v rfl rfl rfl rfl (Nat.le_of_ble_eq_true rfl) rfl (by decide) (z_gl0 hg1)) rfl ?_
  refine s_X1_canMix hg1 (b1) ?_
  show wp xs _ mX9_mixes 9 [(2, 1), (0, a1), (0, a2), (0, a3)] [(0, (z_b (z_cmg M (M 1 0) a1 a2)))] z_LL M _
  refine wp_be rfl rfl rfl (fun (c1 : ¬ (z_cmg M (M 1 0) a1 a2)) => ?_) (fun (c1 : (z_cmg M (M 1 0) a1 a2)) => ?_)
  · refine wp_run 1 (pc' := 20) (ls' := [(2, 1), (0, a1), (0, a2), (0, a3)]) (st' := [(0, (-1))]) rfl ?_
    exact wp_ret rfl rfl (l1 c1)
  · refine wp_run 1 (pc' := 13) (ls' := [(2, 1), (0, a1), (0, a2), (0, a3)]) (st' := [(0, a3)]) rfl ?_
    refine wp_callv (pc' := 16) (as := [(0, a3)]) (rest := []) (ls1 := [(0, a3)]) rfl rfl rfl rfl rfl rfl ?_
    refine wp_run 1 (pc' := 1) (ls' := [(0, a3)]) (st' := [(0, a3)]) rfl ?_
    refine wp_if1 rfl rfl rfl (fun (c2 : a3 < 0) => ?_) (fun (c2 : ¬ (a3 < 0)) => ?_)
    · refine wp_run 1 (pc' := 15) (ls' := [(0, a3)]) (st' := [(0, 0)]) rfl ?_
      refine wp_ret rfl rfl ?_
      show wp xs _ mX9_mixes 16 [(2, 1), (0, a1), (0, a2), (0, a3)] [(0, 0)] z_LL M _
      refine wp_run 2 (pc' := 20) (ls' := [(2, 1), (0, a1), (0, a2), (0, a3)]) (st' := [(0, (-1))]) rfl ?_
      exact wp_ret rfl rfl (l2 c1 c2)
    · refine wp_run 2 (pc' := 7) (ls' := [(0, a3)]) (st' := [(0, 60), (0, a3)]) rfl ?_
      refine wp_if2 rfl rfl rfl (fun (c3 : 60 < a3) => ?_) (fun (c3 : ¬ (60 < a3)) => ?_)
      · refine wp_run 1 (pc' := 15) (ls' := [(0, a3)]) (st' := [(0, 0)]) rfl ?_
        refine wp_ret rfl rfl ?_
        show wp xs _ mX9_mixes 16 [(2, 1), (0, a1), (0, a2), (0, a3)] [(0, 0)] z_LL M _
        refine wp_run 2 (pc' := 20) (ls' := [(2, 1), (0, a1), (0, a2), (0, a3)]) (st' := [(0, (-1))]) rfl ?_
        exact wp_ret rfl rfl (l3 c1 c2 c3)
      · refine wp_run 2 (pc' := 15) (ls' := [(0, a3)]) (st' := [(0, 1)]) rfl ?_
        refine wp_ret rfl rfl ?_
        show wp xs _ mX9_mixes 16 [(2, 1), (0, a1), (0, a2), (0, a3)] [(0, 1)] z_LL M _
        refine wp_run 2 (pc' := 22) (ls' := [(2, 1), (0, a1), (0, a2), (0, a3)]) (st' := [(2, 1)]) rfl ?_
        refine wp_gf (pc' := 25) (t := 2) (v := 38) rfl rfl (by decide) rfl rfl (fx_1_6 hF) ?_
        refine wp_run 1 (pc' := 26) (ls' := [(2, 1), (0, a1), (0, a2), (0, a3)]) (st' := [(2, 1), (2, 38)]) rfl ?_
        refine wp_gf (pc' := 29) (t := 2) (v := (M 1 2)) rfl rfl (by decide) rfl rfl rfl ?_
        refine wp_run 1 (pc' := 30) (ls' := [(2, 1), (0, a1), (0, a2), (0, a3)]) (st' := [(0, a3), (2, (M 1 2)), (2, 38)]) rfl ?_
        refine wp_callv (pc' := 33) (as := [(2, 38), (2, (M 1 2)), (0, a3)]) (rest := []) (ls1 := [(2, 38), (2, (M 1 2)), (0, a3), (3, 0)]) rfl rfl rfl rfl rfl rfl ?_
        exact l4 c1 c2 c3
set_option maxRecDepth 20000 in
theorem gX9_mixes_33 {xs : List Int} {d : Nat} {M : z_M} {P : Option z_V → z_L → z_M → Prop} {x1 : Int} {x2 : Int} {x3 : Int} {s0 : Int} (hs0 : z_her M s0) (hh2 : z_her M (M 1 2))
    (b1 : (x2 ≤ x1) → 0 ≤ (z_w ((z_w (x2 * 6)) + x1)) ∧ (z_w ((z_w (x2 * 6)) + x1)) < 36)
    (l1 : (x2 ≤ x1) → (x2 ≤ x1) → P (some (0, (z_w ((M (s0 + 5) (z_w ((z_w (x2 * 6)) + x1))) - (M ((M 1 2) + 5) (z_w ((z_w (x2 * 6)) + x1))))))) z_LL M)
    (b2 : (x2 ≤ x1) → (¬ (x2 ≤ x1)) → 0 ≤ (z_w ((z_w (x1 * 6)) + x2)) ∧ (z_w ((z_w (x1 * 6)) + x2)) < 36)
    (l2 : (x2 ≤ x1) → (¬ (x2 ≤ x1)) → P (some (0, (z_w ((M (s0 + 5) (z_w ((z_w (x2 * 6)) + x1))) - (M ((M 1 2) + 5) (z_w ((z_w (x1 * 6)) + x2))))))) z_LL M)
    (b3 : (¬ (x2 ≤ x1)) → 0 ≤ (z_w ((z_w (x1 * 6)) + x2)) ∧ (z_w ((z_w (x1 * 6)) + x2)) < 36)
    (b4 : (¬ (x2 ≤ x1)) → (x2 ≤ x1) → 0 ≤ (z_w ((z_w (x2 * 6)) + x1)) ∧ (z_w ((z_w (x2 * 6)) + x1)) < 36)
    (l3 : (¬ (x2 ≤ x1)) → (x2 ≤ x1) → P (some (0, (z_w ((M (s0 + 5) (z_w ((z_w (x1 * 6)) + x2))) - (M ((M 1 2) + 5) (z_w ((z_w (x2 * 6)) + x1))))))) z_LL M)
    (l4 : (¬ (x2 ≤ x1)) → (¬ (x2 ≤ x1)) → P (some (0, (z_w ((M (s0 + 5) (z_w ((z_w (x1 * 6)) + x2))) - (M ((M 1 2) + 5) (z_w ((z_w (x1 * 6)) + x2))))))) z_LL M) :
    wp xs (d + 2) mX9_mixes 33 [(2, 1), (0, x1), (0, x2), (0, x3)] [(2, s0)] z_LL M P := by
  refine wp_run 2 (pc' := 35) (ls' := [(2, 1), (0, x1), (0, x2), (0, x3)]) (st' := [(0, x2), (0, x1), (2, s0)]) rfl ?_
  refine wp_callv (pc' := 38) (as := [(2, s0), (0, x1), (0, x2)]) (rest := []) (ls1 := [(2, s0), (0, x1), (0, x2)]) rfl rfl rfl rfl (z_args_v rfl rfl rfl rfl (Nat.le_of_ble_eq_true rfl) rfl (by decide) (z_hl0 hs0)) rfl ?_
  refine wp_run 1 (pc' := 1) (ls' := [(2, s0), (0, x1), (0, x2)]) (st' := [(2, s0)]) rfl ?_
  refine wp_gf (pc' := 4) (t := 2) (v := (s0 + 5)) rfl rfl (by decide) rfl (z_hl0 hs0) (z_hf4 hs0) ?_
  refine wp_run 2 (pc' := 6) (ls' := [(2, s0), (0, x1), (0, x2)]) (st' := [(0, x2), (0, x1), (2, (s0 + 5))]) rfl ?_
  refine wp_callv (pc' := 9) (as := [(0, x1), (0, x2)]) (rest := [(2, (s0 + 5))]) (ls1 := [(0, x1), (0, x2)]) rfl rfl rfl rfl rfl rfl ?_
  refine wp_run 2 (pc' := 2) (ls' := [(0, x1), (0, x2)]) (st' := [(0, x2), (0, x1)]) rfl ?_
  refine wp_if2 rfl rfl rfl (fun (c1 : x2 ≤ x1) => ?_) (fun (c1 : ¬ (x2 ≤ x1)) => ?_)
  · refine wp_run 5 (pc' := 20) (ls' := [(0, x1), (0, x2)]) (st' := [(0, (z_w ((z_w (x2 * 6)) + x1)))]) rfl ?_
    refine wp_ret rfl rfl ?_
    show wp xs _ mX2_mixedOf 9 [(2, s0), (0, x1), (0, x2)] [(0, (z_w ((z_w (x2 * 6)) + x1))), (2, (s0 + 5))] z_LL M _
    refine wp_iald (pc' := 10) (v := (M (s0 + 5) (z_w ((z_w (x2 * 6)) + x1)))) rfl rfl (z_hl5 hs0) (b1 c1) rfl ?_
    refine wp_ret rfl rfl ?_
    show wp xs _ mX9_mixes 38 [(2, 1), (0, x1), (0, x2), (0, x3)] [(0, (M (s0 + 5) (z_w ((z_w (x2 * 6)) + x1))))] z_LL M _
    refine wp_run 1 (pc' := 39) (ls' := [(2, 1), (0, x1), (0, x2), (0, x3)]) (st' := [(2, 1), (0, (M (s0 + 5) (z_w ((z_w (x2 * 6)) + x1))))]) rfl ?_
    refine wp_gf (pc' := 42) (t := 2) (v := (M 1 2)) rfl rfl (by decide) rfl rfl rfl ?_
    refine wp_run 2 (pc' := 44) (ls' := [(2, 1), (0, x1), (0, x2), (0, x3)]) (st' := [(0, x2), (0, x1), (2, (M 1 2)), (0, (M (s0 + 5) (z_w ((z_w (x2 * 6)) + x1))))]) rfl ?_
    refine wp_callv (pc' := 47) (as := [(2, (M 1 2)), (0, x1), (0, x2)]) (rest := [(0, (M (s0 + 5) (z_w ((z_w (x2 * 6)) + x1))))]) (ls1 := [(2, (M 1 2)), (0, x1), (0, x2)]) rfl rfl rfl rfl (z_args_v rfl rfl rfl rfl (Nat.le_of_ble_eq_true rfl) rfl (by decide) (z_hl0 hh2)) rfl ?_
    refine wp_run 1 (pc' := 1) (ls' := [(2, (M 1 2)), (0, x1), (0, x2)]) (st' := [(2, (M 1 2))]) rfl ?_
    refine wp_gf (pc' := 4) (t := 2) (v := ((M 1 2) + 5)) rfl rfl (by decide) rfl (z_hl0 hh2) (z_hf4 hh2) ?_
    refine wp_run 2 (pc' := 6) (ls' := [(2, (M 1 2)), (0, x1), (0, x2)]) (st' := [(0, x2), (0, x1), (2, ((M 1 2) + 5))]) rfl ?_
    refine wp_callv (pc' := 9) (as := [(0, x1), (0, x2)]) (rest := [(2, ((M 1 2) + 5))]) (ls1 := [(0, x1), (0, x2)]) rfl rfl rfl rfl rfl rfl ?_
    refine wp_run 2 (pc' := 2) (ls' := [(0, x1), (0, x2)]) (st' := [(0, x2), (0, x1)]) rfl ?_
    refine wp_if2 rfl rfl rfl (fun (c2 : x2 ≤ x1) => ?_) (fun (c2 : ¬ (x2 ≤ x1)) => ?_)
    · refine wp_run 5 (pc' := 20) (ls' := [(0, x1), (0, x2)]) (st' := [(0, (z_w ((z_w (x2 * 6)) + x1)))]) rfl ?_
      refine wp_ret rfl rfl ?_
      show wp xs _ mX2_mixedOf 9 [(2, (M 1 2)), (0, x1), (0, x2)] [(0, (z_w ((z_w (x2 * 6)) + x1))), (2, ((M 1 2) + 5))] z_LL M _
      refine wp_iald (pc' := 10) (v := (M ((M 1 2) + 5) (z_w ((z_w (x2 * 6)) + x1)))) rfl rfl (z_hl5 hh2) (b1 c1) rfl ?_
      refine wp_ret rfl rfl ?_
      show wp xs _ mX9_mixes 47 [(2, 1), (0, x1), (0, x2), (0, x3)] [(0, (M ((M 1 2) + 5) (z_w ((z_w (x2 * 6)) + x1)))), (0, (M (s0 + 5) (z_w ((z_w (x2 * 6)) + x1))))] z_LL M _
      refine wp_run 1 (pc' := 48) (ls' := [(2, 1), (0, x1), (0, x2), (0, x3)]) (st' := [(0, (z_w ((M (s0 + 5) (z_w ((z_w (x2 * 6)) + x1))) - (M ((M 1 2) + 5) (z_w ((z_w (x2 * 6)) + x1))))))]) rfl ?_
      exact wp_ret rfl rfl (l1 c1 c2)
    · refine wp_run 6 (pc' := 20) (ls' := [(0, x1), (0, x2)]) (st' := [(0, (z_w ((z_w (x1 * 6)) + x2)))]) rfl ?_
      refine wp_ret rfl rfl ?_
      show wp xs _ mX2_mixedOf 9 [(2, (M 1 2)), (0, x1), (0, x2)] [(0, (z_w ((z_w (x1 * 6)) + x2))), (2, ((M 1 2) + 5))] z_LL M _
      refine wp_iald (pc' := 10) (v := (M ((M 1 2) + 5) (z_w ((z_w (x1 * 6)) + x2)))) rfl rfl (z_hl5 hh2) (b2 c1 c2) rfl ?_
      refine wp_ret rfl rfl ?_
      show wp xs _ mX9_mixes 47 [(2, 1), (0, x1), (0, x2), (0, x3)] [(0, (M ((M 1 2) + 5) (z_w ((z_w (x1 * 6)) + x2)))), (0, (M (s0 + 5) (z_w ((z_w (x2 * 6)) + x1))))] z_LL M _
      refine wp_run 1 (pc' := 48) (ls' := [(2, 1), (0, x1), (0, x2), (0, x3)]) (st' := [(0, (z_w ((M (s0 + 5) (z_w ((z_w (x2 * 6)) + x1))) - (M ((M 1 2) + 5) (z_w ((z_w (x1 * 6)) + x2))))))]) rfl ?_
      exact wp_ret rfl rfl (l2 c1 c2)
  · refine wp_run 6 (pc' := 20) (ls' := [(0, x1), (0, x2)]) (st' := [(0, (z_w ((z_w (x1 * 6)) + x2)))]) rfl ?_
    refine wp_ret rfl rfl ?_
    show wp xs _ mX2_mixedOf 9 [(2, s0), (0, x1), (0, x2)] [(0, (z_w ((z_w (x1 * 6)) + x2))), (2, (s0 + 5))] z_LL M _
    refine wp_iald (pc' := 10) (v := (M (s0 + 5) (z_w ((z_w (x1 * 6)) + x2)))) rfl rfl (z_hl5 hs0) (b3 c1) rfl ?_
    refine wp_ret rfl rfl ?_
    show wp xs _ mX9_mixes 38 [(2, 1), (0, x1), (0, x2), (0, x3)] [(0, (M (s0 + 5) (z_w ((z_w (x1 * 6)) + x2))))] z_LL M _
    refine wp_run 1 (pc' := 39) (ls' := [(2, 1), (0, x1), (0, x2), (0, x3)]) (st' := [(2, 1), (0, (M (s0 + 5) (z_w ((z_w (x1 * 6)) + x2))))]) rfl ?_
    refine wp_gf (pc' := 42) (t := 2) (v := (M 1 2)) rfl rfl (by decide) rfl rfl rfl ?_
    refine wp_run 2 (pc' := 44) (ls' := [(2, 1), (0, x1), (0, x2), (0, x3)]) (st' := [(0, x2), (0, x1), (2, (M 1 2)), (0, (M (s0 + 5) (z_w ((z_w (x1 * 6)) + x2))))]) rfl ?_
    refine wp_callv (pc' := 47) (as := [(2, (M 1 2)), (0, x1), (0, x2)]) (rest := [(0, (M (s0 + 5) (z_w ((z_w (x1 * 6)) + x2))))]) (ls1 := [(2, (M 1 2)), (0, x1), (0, x2)]) rfl rfl rfl rfl (z_args_v rfl rfl rfl rfl (Nat.le_of_ble_eq_true rfl) rfl (by decide) (z_hl0 hh2)) rfl ?_
    refine wp_run 1 (pc' := 1) (ls' := [(2, (M 1 2)), (0, x1), (0, x2)]) (st' := [(2, (M 1 2))]) rfl ?_
    refine wp_gf (pc' := 4) (t := 2) (v := ((M 1 2) + 5)) rfl rfl (by decide) rfl (z_hl0 hh2) (z_hf4 hh2) ?_
    refine wp_run 2 (pc' := 6) (ls' := [(2, (M 1 2)), (0, x1), (0, x2)]) (st' := [(0, x2), (0, x1), (2, ((M 1 2) + 5))]) rfl ?_
    refine wp_callv (pc' := 9) (as := [(0, x1), (0, x2)]) (rest := [(2, ((M 1 2) + 5))]) (ls1 := [(0, x1), (0, x2)]) rfl rfl rfl rfl rfl rfl ?_
    refine wp_run 2 (pc' := 2) (ls' := [(0, x1), (0, x2)]) (st' := [(0, x2), (0, x1)]) rfl ?_
    refine wp_if2 rfl rfl rfl (fun (c3 : x2 ≤ x1) => ?_) (fun (c3 : ¬ (x2 ≤ x1)) => ?_)
    · refine wp_run 5 (pc' := 20) (ls' := [(0, x1), (0, x2)]) (st' := [(0, (z_w ((z_w (x2 * 6)) + x1)))]) rfl ?_
      refine wp_ret rfl rfl ?_
      show wp xs _ mX2_mixedOf 9 [(2, (M 1 2)), (0, x1), (0, x2)] [(0, (z_w ((z_w (x2 * 6)) + x1))), (2, ((M 1 2) + 5))] z_LL M _
      refine wp_iald (pc' := 10) (v := (M ((M 1 2) + 5) (z_w ((z_w (x2 * 6)) + x1)))) rfl rfl (z_hl5 hh2) (b4 c1 c3) rfl ?_
      refine wp_ret rfl rfl ?_
      show wp xs _ mX9_mixes 47 [(2, 1), (0, x1), (0, x2), (0, x3)] [(0, (M ((M 1 2) + 5) (z_w ((z_w (x2 * 6)) + x1)))), (0, (M (s0 + 5) (z_w ((z_w (x1 * 6)) + x2))))] z_LL M _
      refine wp_run 1 (pc' := 48) (ls' := [(2, 1), (0, x1), (0, x2), (0, x3)]) (st' := [(0, (z_w ((M (s0 + 5) (z_w ((z_w (x1 * 6)) + x2))) - (M ((M 1 2) + 5) (z_w ((z_w (x2 * 6)) + x1))))))]) rfl ?_
      exact wp_ret rfl rfl (l3 c1 c3)
    · refine wp_run 6 (pc' := 20) (ls' := [(0, x1), (0, x2)]) (st' := [(0, (z_w ((z_w (x1 * 6)) + x2)))]) rfl ?_
      refine wp_ret rfl rfl ?_
      show wp xs _ mX2_mixedOf 9 [(2, (M 1 2)), (0, x1), (0, x2)] [(0, (z_w ((z_w (x1 * 6)) + x2))), (2, ((M 1 2) + 5))] z_LL M _
      refine wp_iald (pc' := 10) (v := (M ((M 1 2) + 5) (z_w ((z_w (x1 * 6)) + x2)))) rfl rfl (z_hl5 hh2) (b3 c1) rfl ?_
      refine wp_ret rfl rfl ?_
      show wp xs _ mX9_mixes 47 [(2, 1), (0, x1), (0, x2), (0, x3)] [(0, (M ((M 1 2) + 5) (z_w ((z_w (x1 * 6)) + x2)))), (0, (M (s0 + 5) (z_w ((z_w (x1 * 6)) + x2))))] z_LL M _
      refine wp_run 1 (pc' := 48) (ls' := [(2, 1), (0, x1), (0, x2), (0, x3)]) (st' := [(0, (z_w ((M (s0 + 5) (z_w ((z_w (x1 * 6)) + x2))) - (M ((M 1 2) + 5) (z_w ((z_w (x1 * 6)) + x2))))))]) rfl ?_
      exact wp_ret rfl rfl (l4 c1 c3)
set_option maxRecDepth 20000 in
theorem gX10_mixes_0 {xs : List Int} {d : Nat} {M : z_M} {P : Option z_V → z_L → z_M → Prop} {a1 : Int} {a2 : Int} {a3 : Int} (hF : z_fix M) (hC : z_mc M) 
    (l1 : (¬ ((0 ≤ a1 ∧ a1 < M 321 48) ∧ (0 ≤ a2 ∧ a2 < M 321 48) ∧ z_cm M a1 a2)) → P (some (0, (-1))) z_LL M)
    (l2 : (((0 ≤ a1 ∧ a1 < M 321 48) ∧ (0 ≤ a2 ∧ a2 < M 321 48) ∧ z_cm M a1 a2)) → ((0 ≤ a3 ∧ a3 ≤ 60)) → wp xs (d + 2) mX10_goFar 0 [(2, 321), (0, a3), (0, (M 321 52)), (3, 0)] [] z_LL M (fun r L1 M1 => wp xs (d + 3) mX10_mixes 30 [(2, 321), (0, a1), (0, a2), (0, a3)] (z_ol r ++ []) L1 M1 P))
    (l3 : (((0 ≤ a1 ∧ a1 < M 321 48) ∧ (0 ≤ a2 ∧ a2 < M 321 48) ∧ z_cm M a1 a2)) → (¬ (0 ≤ a3 ∧ a3 ≤ 60)) → P (some (0, (-1))) z_LL M) :
    wp xs (d + 3) mX10_mixes 0 [(2, 321), (0, a1), (0, a2), (0, a3)] [] z_LL M P := by
  refine wp_run 3 (pc' := 3) (ls' := [(2, 321), (0, a1), (0, a2), (0, a3)]) (st' := [(0, a2), (0, a1), (2, 321)]) rfl ?_
  refine wp_callv (pc' := 6) (as := [(2, 321), (0, a1), (0, a2)]) (rest := []) (ls1 := [(2, 321), (0, a1), (0, a2)]) rfl rfl rfl rfl rfl rfl ?_
  refine s_X10_areMixing hF hC ?_
  show wp xs _ mX10_mixes 6 [(2, 321), (0, a1), (0, a2), (0, a3)] [(0, (z_b ((0 ≤ a1 ∧ a1 < M 321 48) ∧ (0 ≤ a2 ∧ a2 < M 321 48) ∧ z_cm M a1 a2)))] z_LL M _
  refine wp_be rfl rfl rfl (fun (c1 : ¬ ((0 ≤ a1 ∧ a1 < M 321 48) ∧ (0 ≤ a2 ∧ a2 < M 321 48) ∧ z_cm M a1 a2)) => ?_) (fun (c1 : ((0 ≤ a1 ∧ a1 < M 321 48) ∧ (0 ≤ a2 ∧ a2 < M 321 48) ∧ z_cm M a1 a2)) => ?_)
  · refine wp_run 1 (pc' := 20) (ls' := [(2, 321), (0, a1), (0, a2), (0, a3)]) (st' := [(0, (-1))]) rfl ?_
    exact wp_ret rfl rfl (l1 c1)
  · refine wp_run 3 (pc' := 13) (ls' := [(2, 321), (0, a1), (0, a2), (0, a3)]) (st' := [(0, 60), (0, 0), (0, a3)]) rfl ?_
    refine wp_callv (pc' := 16) (as := [(0, a3), (0, 0), (0, 60)]) (rest := []) (ls1 := [(0, a3), (0, 0), (0, 60)]) rfl rfl rfl rfl rfl rfl ?_
    refine s_X10_isIn  ?_
    show wp xs _ mX10_mixes 16 [(2, 321), (0, a1), (0, a2), (0, a3)] [(0, (z_b (0 ≤ a3 ∧ a3 ≤ 60)))] z_LL M _
    refine wp_bn rfl rfl rfl (fun (c2 : (0 ≤ a3 ∧ a3 ≤ 60)) => ?_) (fun (c2 : ¬ (0 ≤ a3 ∧ a3 ≤ 60)) => ?_)
    · refine wp_run 3 (pc' := 24) (ls' := [(2, 321), (0, a1), (0, a2), (0, a3)]) (st' := [(2, 321), (0, a3), (2, 321)]) rfl ?_
      refine wp_gf (pc' := 27) (t := 0) (v := (M 321 52)) rfl rfl (by decide) rfl rfl rfl ?_
      refine wp_callv (pc' := 30) (as := [(2, 321), (0, a3), (0, (M 321 52))]) (rest := []) (ls1 := [(2, 321), (0, a3), (0, (M 321 52)), (3, 0)]) rfl rfl rfl rfl rfl rfl ?_
      exact l2 c1 c2
    · refine wp_run 1 (pc' := 20) (ls' := [(2, 321), (0, a1), (0, a2), (0, a3)]) (st' := [(0, (-1))]) rfl ?_
      exact wp_ret rfl rfl (l3 c1 c2)
set_option maxRecDepth 20000 in
theorem gX10_mixes_30 {xs : List Int} {d : Nat} {M : z_M} {P : Option z_V → z_L → z_M → Prop} {x1 : Int} {x2 : Int} {x3 : Int} (hF : z_fix M) 
    (b1 : 0 ≤ (z_w ((z_w (18 + (z_w (6 * x1)))) + x2)) ∧ (z_w ((z_w (18 + (z_w (6 * x1)))) + x2)) < 106)
    (l1 : P (some (0, (z_w ((M 343 (z_w ((z_w (18 + (z_w (6 * x1)))) + x2))) - (M 342 (z_w ((z_w (18 + (z_w (6 * x1)))) + x2))))))) z_LL M) :
    wp xs (d + 1) mX10_mixes 30 [(2, 321), (0, x1), (0, x2), (0, x3)] [] z_LL M P := by
  refine wp_run 3 (pc' := 33) (ls' := [(2, 321), (0, x1), (0, x2), (0, x3)]) (st' := [(0, x2), (0, x1), (2, 321)]) rfl ?_
  refine wp_callv (pc' := 36) (as := [(2, 321), (0, x1), (0, x2)]) (rest := []) (ls1 := [(2, 321), (0, x1), (0, x2)]) rfl rfl rfl rfl rfl rfl ?_
  refine wp_run 1 (pc' := 1) (ls' := [(2, 321), (0, x1), (0, x2)]) (st' := [(2, 321)]) rfl ?_
  refine wp_gf (pc' := 4) (t := 2) (v := 343) rfl rfl (by decide) rfl rfl (fx_321_61 hF) ?_
  refine wp_run 7 (pc' := 13) (ls' := [(2, 321), (0, x1), (0, x2)]) (st' := [(0, (z_w ((z_w (18 + (z_w (6 * x1)))) + x2))), (2, 343)]) rfl ?_
  refine wp_iald (pc' := 14) (v := (M 343 (z_w ((z_w (18 + (z_w (6 * x1)))) + x2)))) rfl rfl rfl (b1) rfl ?_
  refine wp_run 1 (pc' := 15) (ls' := [(2, 321), (0, x1), (0, x2)]) (st' := [(2, 321), (0, (M 343 (z_w ((z_w (18 + (z_w (6 * x1)))) + x2))))]) rfl ?_
  refine wp_gf (pc' := 18) (t := 2) (v := 342) rfl rfl (by decide) rfl rfl (fx_321_60 hF) ?_
  refine wp_run 7 (pc' := 27) (ls' := [(2, 321), (0, x1), (0, x2)]) (st' := [(0, (z_w ((z_w (18 + (z_w (6 * x1)))) + x2))), (2, 342), (0, (M 343 (z_w ((z_w (18 + (z_w (6 * x1)))) + x2))))]) rfl ?_
  refine wp_iald (pc' := 28) (v := (M 342 (z_w ((z_w (18 + (z_w (6 * x1)))) + x2)))) rfl rfl rfl (b1) rfl ?_
  refine wp_run 1 (pc' := 29) (ls' := [(2, 321), (0, x1), (0, x2)]) (st' := [(0, (z_w ((M 343 (z_w ((z_w (18 + (z_w (6 * x1)))) + x2))) - (M 342 (z_w ((z_w (18 + (z_w (6 * x1)))) + x2))))))]) rfl ?_
  refine wp_ret rfl rfl ?_
  show wp xs _ mX10_mixes 36 [(2, 321), (0, x1), (0, x2), (0, x3)] [(0, (z_w ((M 343 (z_w ((z_w (18 + (z_w (6 * x1)))) + x2))) - (M 342 (z_w ((z_w (18 + (z_w (6 * x1)))) + x2))))))] z_LL M _
  exact wp_ret rfl rfl (l1)
set_option maxRecDepth 20000 in
theorem gX9_bachelors_0 {xs : List Int} {d : Nat} {M : z_M} {P : Option z_V → z_L → z_M → Prop} {a1 : Int} (hF : z_fix M) (hh1 : z_her M (M 1 2))
    (l1 : (a1 < 0) → P (some (0, (-1))) z_LL M)
    (l2 : (¬ (a1 < 0)) → (60 < a1) → P (some (0, (-1))) z_LL M)
    (l3 : (¬ (a1 < 0)) → (¬ (60 < a1)) → wp xs d mX0_behind 0 [(2, 38), (2, (M 1 2)), (0, a1), (3, 0)] [] z_LL M (fun r L1 M1 => wp xs (d + 1) mX9_bachelors 19 [(2, 1), (0, a1)] (z_ol r ++ []) L1 M1 P)) :
    wp xs (d + 1) mX9_bachelors 0 [(2, 1), (0, a1)] [] z_LL M P := by
  refine wp_run 1 (pc' := 1) (ls' := [(2, 1), (0, a1)]) (st' := [(0, a1)]) rfl ?_
  refine wp_callv (pc' := 4) (as := [(0, a1)]) (rest := []) (ls1 := [(0, a1)]) rfl rfl rfl rfl rfl rfl ?_
  refine wp_run 1 (pc' := 1) (ls' := [(0, a1)]) (st' := [(0, a1)]) rfl ?_
  refine wp_if1 rfl rfl rfl (fun (c1 : a1 < 0) => ?_) (fun (c1 : ¬ (a1 < 0)) => ?_)
  · refine wp_run 1 (pc' := 15) (ls' := [(0, a1)]) (st' := [(0, 0)]) rfl ?_
    refine wp_ret rfl rfl ?_
    show wp xs _ mX9_bachelors 4 [(2, 1), (0, a1)] [(0, 0)] z_LL M _
    refine wp_run 2 (pc' := 33) (ls' := [(2, 1), (0, a1)]) (st' := [(0, (-1))]) rfl ?_
    exact wp_ret rfl rfl (l1 c1)
  · refine wp_run 2 (pc' := 7) (ls' := [(0, a1)]) (st' := [(0, 60), (0, a1)]) rfl ?_
    refine wp_if2 rfl rfl rfl (fun (c2 : 60 < a1) => ?_) (fun (c2 : ¬ (60 < a1)) => ?_)
    · refine wp_run 1 (pc' := 15) (ls' := [(0, a1)]) (st' := [(0, 0)]) rfl ?_
      refine wp_ret rfl rfl ?_
      show wp xs _ mX9_bachelors 4 [(2, 1), (0, a1)] [(0, 0)] z_LL M _
      refine wp_run 2 (pc' := 33) (ls' := [(2, 1), (0, a1)]) (st' := [(0, (-1))]) rfl ?_
      exact wp_ret rfl rfl (l2 c1 c2)
    · refine wp_run 2 (pc' := 15) (ls' := [(0, a1)]) (st' := [(0, 1)]) rfl ?_
      refine wp_ret rfl rfl ?_
      show wp xs _ mX9_bachelors 4 [(2, 1), (0, a1)] [(0, 1)] z_LL M _
      refine wp_run 2 (pc' := 8) (ls' := [(2, 1), (0, a1)]) (st' := [(2, 1)]) rfl ?_
      refine wp_gf (pc' := 11) (t := 2) (v := 38) rfl rfl (by decide) rfl rfl (fx_1_6 hF) ?_
      refine wp_run 1 (pc' := 12) (ls' := [(2, 1), (0, a1)]) (st' := [(2, 1), (2, 38)]) rfl ?_
      refine wp_gf (pc' := 15) (t := 2) (v := (M 1 2)) rfl rfl (by decide) rfl rfl rfl ?_
      refine wp_run 1 (pc' := 16) (ls' := [(2, 1), (0, a1)]) (st' := [(0, a1), (2, (M 1 2)), (2, 38)]) rfl ?_
      refine wp_callv (pc' := 19) (as := [(2, 38), (2, (M 1 2)), (0, a1)]) (rest := []) (ls1 := [(2, 38), (2, (M 1 2)), (0, a1), (3, 0)]) rfl rfl rfl rfl rfl rfl ?_
      exact l3 c1 c2
set_option maxRecDepth 20000 in
theorem gX9_bachelors_19 {xs : List Int} {d : Nat} {M : z_M} {P : Option z_V → z_L → z_M → Prop} {x1 : Int} {s0 : Int} (hs0 : z_her M s0) (hg2 : z_gor M (M 1 0))
    (b1 : (M (M 1 0) 12) ≤ 6)
    (l1 : P (some (0, (z_sgl M s0 (M (M 1 0) 12)))) z_LL M) :
    wp xs (d + 1) mX9_bachelors 19 [(2, 1), (0, x1)] [(2, s0)] z_LL M P := by
  refine wp_run 1 (pc' := 20) (ls' := [(2, 1), (0, x1)]) (st' := [(2, 1), (2, s0)]) rfl ?_
  refine wp_gf (pc' := 23) (t := 2) (v := (M 1 0)) rfl rfl (by decide) rfl rfl rfl ?_
  refine wp_gf (pc' := 26) (t := 0) (v := (M (M 1 0) 12)) rfl rfl (by decide) rfl (z_gl0 hg2) rfl ?_
  refine wp_callv (pc' := 29) (as := [(2, s0), (0, (M (M 1 0) 12))]) (rest := []) (ls1 := [(2, s0), (0, (M (M 1 0) 12)), (3, 0), (3, 0)]) rfl rfl rfl rfl (z_args_v rfl rfl rfl rfl (Nat.le_of_ble_eq_true rfl) rfl (by decide) (z_hl0 hs0)) rfl ?_
  refine s_X2_single hs0 (b1) ?_
  show wp xs _ mX9_bachelors 29 [(2, 1), (0, x1)] [(0, (z_sgl M s0 (M (M 1 0) 12)))] z_LL M _
  refine wp_run 1 (pc' := 33) (ls' := [(2, 1), (0, x1)]) (st' := [(0, (z_sgl M s0 (M (M 1 0) 12)))]) rfl ?_
  exact wp_ret rfl rfl (l1)
set_option maxRecDepth 20000 in
theorem gX10_bachelors_0 {xs : List Int} {d : Nat} {M : z_M} {P : Option z_V → z_L → z_M → Prop} {a1 : Int} 
    (l1 : ((0 ≤ a1 ∧ a1 ≤ 60)) → wp xs d mX10_goFar 0 [(2, 321), (0, a1), (0, (M 321 52)), (3, 0)] [] z_LL M (fun r L1 M1 => wp xs (d + 1) mX10_bachelors 21 [(2, 321), (0, a1), (3, 0), (3, 0)] (z_ol r ++ []) L1 M1 P))
    (l2 : (¬ (0 ≤ a1 ∧ a1 ≤ 60)) → P (some (0, (-1))) z_LL M) :
    wp xs (d + 1) mX10_bachelors 0 [(2, 321), (0, a1), (3, 0), (3, 0)] [] z_LL M P := by
  refine wp_run 3 (pc' := 4) (ls' := [(2, 321), (0, a1), (3, 0), (3, 0)]) (st' := [(0, 60), (0, 0), (0, a1)]) rfl ?_
  refine wp_callv (pc' := 7) (as := [(0, a1), (0, 0), (0, 60)]) (rest := []) (ls1 := [(0, a1), (0, 0), (0, 60)]) rfl rfl rfl rfl rfl rfl ?_
  refine s_X10_isIn  ?_
  show wp xs _ mX10_bachelors 7 [(2, 321), (0, a1), (3, 0), (3, 0)] [(0, (z_b (0 ≤ a1 ∧ a1 ≤ 60)))] z_LL M _
  refine wp_bn rfl rfl rfl (fun (c1 : (0 ≤ a1 ∧ a1 ≤ 60)) => ?_) (fun (c1 : ¬ (0 ≤ a1 ∧ a1 ≤ 60)) => ?_)
  · refine wp_run 3 (pc' := 15) (ls' := [(2, 321), (0, a1), (3, 0), (3, 0)]) (st' := [(2, 321), (0, a1), (2, 321)]) rfl ?_
    refine wp_gf (pc' := 18) (t := 0) (v := (M 321 52)) rfl rfl (by decide) rfl rfl rfl ?_
    refine wp_callv (pc' := 21) (as := [(2, 321), (0, a1), (0, (M 321 52))]) (rest := []) (ls1 := [(2, 321), (0, a1), (0, (M 321 52)), (3, 0)]) rfl rfl rfl rfl rfl rfl ?_
    exact l1 c1
  · refine wp_run 1 (pc' := 11) (ls' := [(2, 321), (0, a1), (3, 0), (3, 0)]) (st' := [(0, (-1))]) rfl ?_
    exact wp_ret rfl rfl (l2 c1)
set_option maxRecDepth 20000 in
theorem gX10_bachelors_21 {xs : List Int} {d : Nat} {M : z_M} {P : Option z_V → z_L → z_M → Prop} {x1 : Int} 
    (l1 : wp xs d mX10_bachelors 25 [(2, 321), (0, x1), (0, 0), (0, 0)] [] z_LL M P) :
    wp xs d mX10_bachelors 21 [(2, 321), (0, x1), (3, 0), (3, 0)] [] z_LL M P := by
  refine wp_run 4 (pc' := 25) (ls' := [(2, 321), (0, x1), (0, 0), (0, 0)]) (st' := []) rfl ?_
  exact l1
set_option maxRecDepth 20000 in
theorem gX10_bachelors_25 {xs : List Int} {d : Nat} {M : z_M} {P : Option z_V → z_L → z_M → Prop} {x1 : Int} {x2 : Int} {x3 : Int} (hF : z_fix M) 
    (l1 : ((M 321 48) ≤ x3) → P (some (0, x2)) z_LL M)
    (b1 : (¬ ((M 321 48) ≤ x3)) → 0 ≤ (z_w (12 + x3)) ∧ (z_w (12 + x3)) < 106)
    (l2 : (¬ ((M 321 48) ≤ x3)) → (0 ≤ (M 343 (z_w (12 + x3)))) → wp xs (d + 1) mX10_bachelors 25 [(2, 321), (0, x1), (0, (z_or x2 (z_shl 0 x3))), (0, (z_w (x3 + 1)))] [] z_LL M P)
    (l3 : (¬ ((M 321 48) ≤ x3)) → (¬ (0 ≤ (M 343 (z_w (12 + x3))))) → wp xs (d + 1) mX10_bachelors 25 [(2, 321), (0, x1), (0, (z_or x2 (z_shl 1 x3))), (0, (z_w (x3 + 1)))] [] z_LL M P) :
    wp xs (d + 1) mX10_bachelors 25 [(2, 321), (0, x1), (0, x2), (0, x3)] [] z_LL M P := by
  refine wp_run 2 (pc' := 27) (ls' := [(2, 321), (0, x1), (0, x2), (0, x3)]) (st' := [(2, 321), (0, x3)]) rfl ?_
  refine wp_gf (pc' := 30) (t := 0) (v := (M 321 48)) rfl rfl (by decide) rfl rfl rfl ?_
  refine wp_if2 rfl rfl rfl (fun (c1 : (M 321 48) ≤ x3) => ?_) (fun (c1 : ¬ ((M 321 48) ≤ x3)) => ?_)
  · refine wp_run 1 (pc' := 65) (ls' := [(2, 321), (0, x1), (0, x2), (0, x3)]) (st' := [(0, x2)]) rfl ?_
    exact wp_ret rfl rfl (l1 c1)
  · refine wp_run 2 (pc' := 35) (ls' := [(2, 321), (0, x1), (0, x2), (0, x3)]) (st' := [(2, 321), (0, x2)]) rfl ?_
    refine wp_gf (pc' := 38) (t := 2) (v := 343) rfl rfl (by decide) rfl rfl (fx_321_61 hF) ?_
    refine wp_run 3 (pc' := 42) (ls' := [(2, 321), (0, x1), (0, x2), (0, x3)]) (st' := [(0, (z_w (12 + x3))), (2, 343), (0, x2)]) rfl ?_
    refine wp_iald (pc' := 43) (v := (M 343 (z_w (12 + x3)))) rfl rfl rfl (b1 c1) rfl ?_
    refine wp_if1 rfl rfl rfl (fun (c2 : 0 ≤ (M 343 (z_w (12 + x3)))) => ?_) (fun (c2 : ¬ (0 ≤ (M 343 (z_w (12 + x3))))) => ?_)
    · refine wp_run 1 (pc' := 51) (ls' := [(2, 321), (0, x1), (0, x2), (0, x3)]) (st' := [(0, 0), (0, x2)]) rfl ?_
      refine wp_callv (pc' := 54) (as := [(0, 0)]) (rest := [(0, x2)]) (ls1 := [(0, 0)]) rfl rfl rfl rfl rfl rfl ?_
      refine s_X10_truth (by decide) ?_
      show wp xs _ mX10_bachelors 54 [(2, 321), (0, x1), (0, x2), (0, x3)] [(0, 0), (0, x2)] z_LL M _
      refine wp_run 6 (pc' := 25) (ls' := [(2, 321), (0, x1), (0, (z_or x2 (z_shl 0 x3))), (0, (z_w (x3 + 1)))]) (st' := []) rfl ?_
      exact l2 c1 c2
    · refine wp_run 2 (pc' := 51) (ls' := [(2, 321), (0, x1), (0, x2), (0, x3)]) (st' := [(0, 1), (0, x2)]) rfl ?_
      refine wp_callv (pc' := 54) (as := [(0, 1)]) (rest := [(0, x2)]) (ls1 := [(0, 1)]) rfl rfl rfl rfl rfl rfl ?_
      refine s_X10_truth (by decide) ?_
      show wp xs _ mX10_bachelors 54 [(2, 321), (0, x1), (0, x2), (0, x3)] [(0, 1), (0, x2)] z_LL M _
      refine wp_run 6 (pc' := 25) (ls' := [(2, 321), (0, x1), (0, (z_or x2 (z_shl 1 x3))), (0, (z_w (x3 + 1)))]) (st' := []) rfl ?_
      exact l3 c1 c2
section
variable {xs : List Int} {d : Nat} {M : z_M}
theorem c_pull {a1 a2 : Int} (hR : z_R M) : z_two xs (d + 200) mX9_pull mX10_pull [(2, 1), (0, a1), (0, a2)] [(2, 321), (0, a1), (0, a2)] M := by
  have hn := (z_R_C hR).2.2.1
  have hx := z_mc_cells (z_R_C hR)
  obtain ⟨n1, n2, n3, n4, n5⟩ := z_R_n hR
  have g := fun P => gX9_pull_0 (M := M) (xs := xs) (d := d + 198) (P := P) (a1 := a1) (a2 := a2) (z_R_F hR) (z_R_g hR).1 (z_R_H hR).1
  simp only [n1, n2, n3, n5] at g
  by_cases h : (0 ≤ a1 ∧ a1 < M 321 48) ∧ (0 ≤ a2 ∧ a2 < M 321 46 * M 321 47)
  · refine z_two_q (z_pul M (M 342) a1 a2) hR (fun P k => ?_) (fun M1 P f1 hR1 k => ?_)
    · apply g
      case l5 =>
        intros
        refine s_X8_count (z_R_F hR) (z_R_C hR) (z_R_G hR) (z_R_H hR) (fun f a b => by have := ((z_R_S hR).1 f a b).1; omega) (fun M1 hM1 hc => ?_)
        have f1 : z_sc M M1 := ⟨fun q hq => hM1 q (by unfold z_sq at hq; omega), fun j _ => by rw [hM1 34 (by decide)], fun j _ _ => ⟨by rw [hM1 38 (by decide)], by rw [hM1 289 (by decide)]⟩, fun j _ _ => by rw [hM1 39 (by decide)], fun k _ => by rw [hM1 343 (by decide)]⟩
        have hR1 := z_sc_R f1 hR
        have q1 : M1 1 = M 1 := f1.1 1 (by unfold z_sq; omega)
        refine gX9_pull_36 (z_R_F hR1) (z_R_H hR1).1 ?_
        have e321 := z_sc_c f1 321 (by unfold z_conf; omega)
        refine s_X8_worth (s := M 342) (z_R_F hR1) (z_R_C hR1) (z_R_P hR1) (z_R_G hR1) (by rw [← f1.1 342 (by unfold z_sq; omega)]; exact z_R_H hR1) hc (by rw [e321]; exact h.1) (by rw [e321]; exact h.2) (fun M2 hM2 => ?_)
        rw [z_pul_q (z_sc_c f1)]
        refine gX9_pull_49 (k M2 (z_sc_t f1 ⟨fun q hq => hM2 q (by unfold z_sq at hq; omega), fun j _ => by rw [hM2 34 (by decide)], fun j _ _ => ⟨by rw [hM2 38 (by decide)], by rw [hM2 289 (by decide)]⟩, fun j _ _ => by rw [hM2 39 (by decide)], fun k _ => by rw [hM2 343 (by decide)]⟩))
      all_goals (intros; omega)
    · have e321 := z_sc_c f1 321 (by unfold z_conf; omega)
      refine gX10_pull_0 (z_R_F hR1) (z_R_C hR1) (fun q => absurd (by rw [e321]; exact h.1) q) (fun _ _ => ?_) (fun _ q => absurd (by rw [e321]; exact h.2) q)
      refine s_ldR hR1 (fun M2 f2 e2 => ?_)
      have hR2 := z_sc_R f2 hR1
      have f3 := z_sc_t f1 f2
      have e321 := z_sc_c f3 321 (by unfold z_conf; omega)
      refine gX10_pull_24 ?_
      refine s_X10_pullOf (z_R_F hR2) (z_R_C hR2) (z_R_P hR2) (by rw [e321]; exact h.1) (by omega) (fun M3 hM3 => ?_)
      rw [z_pul_q (z_sc_c f3), e2, f1.1 342 (by unfold z_sq; omega)]
      refine gX10_pull_30 (k M3 (z_sc_t f2 (z_sc_343 (fun q hq _ => hM3 q (fun e => hq (by unfold z_scr; omega)) (fun e => hq (by unfold z_scr; omega))) (fun k _ => by rw [hM3 343 (by decide) (by decide)]))))
  · refine z_two_q (-1000000) hR (fun P k => ?_) (fun M1 P f1 hR1 k => ?_)
    · apply g
      all_goals first
        | (intros; exact k M z_sc_r)
        | (intros; omega)
    · have e321 := z_sc_c f1 321 (by unfold z_conf; omega)
      rw [← e321] at h
      apply gX10_pull_0 (z_R_F hR1) (z_R_C hR1)
      all_goals first
        | (intros; exact k M1 z_sc_r)
        | (intros; omega)
theorem z_sgl_s (hC : z_mc M) {h : Int} {s : Int → Int} {D : Int} (hH : z_hrd M h s) (hS : z_sn M D s) : z_sgl M h (M 321 48) = z_set (fun f => s (12 + f) < 0) (M 321 48).toNat := by
  have hn := hC.2.2.1
  unfold z_sgl
  refine z_set_c (fun f a b => ?_)
  have e := (hH.2.1 f a (by omega)).2
  have r := (hS.1 f a (by omega)).2.2
  show M (h + 2) f = -1 ↔ s (12 + f) < 0
  omega
theorem z_cnt_c {p q : Int → Prop} : ∀ {n : Nat}, (∀ c : Int, 0 ≤ c → c < n → (p c ↔ q c)) → z_cnt p n = z_cnt q n
  | 0, _ => rfl
  | n + 1, h => by
    show z_cnt p n + z_b (p n) = z_cnt q n + z_b (q n)
    rw [z_cnt_c (n := n) (fun c a b => h c a (by omega)), z_b_i (h n (by omega) (by omega))]
theorem z_cnt_neg {p : Int → Prop} : ∀ n : Nat, z_cnt (fun c => ¬ p c) n = n - z_cnt p n
  | 0 => rfl
  | n + 1 => by
    show z_cnt (fun c => ¬ p c) n + z_b (¬ p n) = ((n + 1 : Nat) : Int) - (z_cnt p n + z_b (p n))
    rw [z_cnt_neg n]
    by_cases e : p n
    · rw [z_b_t e, z_b_f (fun q => q e)]
      omega
    · rw [z_b_f e, z_b_t e]
      omega
/-- how many are matched, in a snapshot -/
noncomputable def z_mch (M : z_M) (s : Int → Int) : Int := z_cnt (fun f => ¬ s (12 + f) < 0) (M 321 48).toNat
theorem z_mch_b (hC : z_mc M) {s : Int → Int} : z_bc (z_set (fun f => s (12 + f) < 0) (M 321 48).toNat) = M 321 48 - z_mch M s := by
  have hn := hC.2.2.1
  unfold z_mch
  rw [z_bc_set (by omega), z_cnt_neg]
  omega
theorem z_mch_r (hC : z_mc M) {s : Int → Int} : 0 ≤ z_mch M s ∧ z_mch M s ≤ 6 := by
  have hn := hC.2.2.1
  have := z_cnt_b (fun f => ¬ s (12 + f) < 0) (M 321 48).toNat
  unfold z_mch
  omega
theorem c_matched (hR : z_R M) : z_two xs (d + 200) mX9_matched mX10_matched [(2, 1)] [(2, 321)] M := by
  have hn := (z_R_C hR).2.2.1
  refine z_two_q (z_mch M (M 342)) hR (fun P k => ?_) (fun M1 P f1 hR1 k => ?_)
  · have g := gX9_matched_0 (M := M) (xs := xs) (d := d + 199) (P := P) (z_R_g hR).1 (z_R_H hR).1
    simp only [(z_R_n hR).2.2.1, z_sgl_s (z_R_C hR) (z_R_H hR) (z_R_S hR), z_mch_b (z_R_C hR)] at g
    refine g (by omega) ?_
    have := z_mch_r (z_R_C hR) (s := M 342)
    rw [z_wid (by omega), show M 321 48 - (M 321 48 - z_mch M (M 342)) = z_mch M (M 342) by omega]
    exact k M z_sc_r
  · refine gX10_matched_0 ?_
    refine s_ldR hR1 (fun M2 f2 e2 => ?_)
    have hR2 := z_sc_R f2 hR1
    refine gX10_matched_4 (z_R_F hR2) (z_R_C hR2) ?_
    unfold z_amm
    rw [e2, f1.1 342 (by unfold z_sq; omega), z_sc_c (z_sc_t f1 f2) 321 (by unfold z_conf; omega)]
    exact k M2 f2
theorem c_will {a1 a2 : Int} (hR : z_R M) : z_two xs (d + 200) mX9_will mX10_will [(2, 1), (0, a1), (0, a2)] [(2, 321), (0, a1), (0, a2)] M := by
  have hn := (z_R_C hR).2.2.1
  obtain ⟨n1, n2, n3, n4, n5⟩ := z_R_n hR
  have g := fun P => gX9_will_0 (M := M) (xs := xs) (d := d + 199) (P := P) (a1 := a1) (a2 := a2) (z_R_F hR) (z_R_g hR).1 (z_R_H hR).1
  simp only [n3] at g
  by_cases h : (0 ≤ a1 ∧ a1 < M 321 48) ∧ (0 ≤ a2 ∧ a2 ≤ 60)
  · obtain ⟨m, rfl⟩ : ∃ m : Nat, a2 = m := ⟨a2.toNat, by omega⟩
    refine z_two_q (z_dys M (M 321 52) (M 342) m a1) hR (fun P k => ?_) (fun M1 P f1 hR1 k => ?_)
    · apply g
      case l5 =>
        intros
        refine s_X0_behind hR (by omega) (fun M1 f1 H1 => ?_)
        have e := (H1.2.1 a1 h.1.1 (by rw [z_sc_c f1 321 (by unfold z_conf; omega)]; exact h.1.2)).1
        refine gX9_will_32 (x1 := a1) H1.1 (by omega) ?_
        rw [e]
        exact k M1 f1
      all_goals (intros; omega)
    · have e321 := z_sc_c f1 321 (by unfold z_conf; omega)
      refine gX10_will_0 (z_R_F hR1) (z_R_C hR1) (fun q => absurd (by rw [e321]; exact h.1) q) (fun _ _ => ?_) (fun _ q => absurd h.2 q)
      refine s_X10_goFar hR1 (by omega) (fun M2 f2 e2 => ?_)
      refine gX10_will_29 (z_R_F (z_sc_R f2 hR1)) (by omega) ?_
      rw [e2, z_dys_q (z_sc_c f1), f1.1 342 (by unfold z_sq; omega), e321]
      exact k M2 f2
  · refine z_two_q (-1) hR (fun P k => ?_) (fun M1 P f1 hR1 k => ?_)
    · apply g
      all_goals first
        | (intros; exact k M z_sc_r)
        | (intros; omega)
    · have e321 := z_sc_c f1 321 (by unfold z_conf; omega)
      rw [← e321] at h
      apply gX10_will_0 (z_R_F hR1) (z_R_C hR1)
      all_goals first
        | (intros; exact k M1 z_sc_r)
        | (intros; omega)
/-- how often two have mixed, by the class's row, is so by the snapshot -/
theorem z_mxd (hC : z_mc M) {h : Int} {s : Int → Int} (hH : z_hrd M h s) {a b : Int} (a1 : 0 ≤ a) (a2 : a < M 321 48) (b1 : 0 ≤ b) (b2 : b < M 321 48) (hne : a ≠ b) : (b ≤ a → M (h + 5) (6 * b + a) = s (18 + 6 * a + b)) ∧ (¬ b ≤ a → M (h + 5) (6 * a + b) = s (18 + 6 * a + b)) :=
  ⟨fun h => (hH.2.2.2.1 b a b1 (by omega) a2).2, fun h => (hH.2.2.2.1 a b a1 (by omega) b2).1⟩
theorem c_mixes {a1 a2 a3 : Int} (hR : z_R M) : z_two xs (d + 200) mX9_mixes mX10_mixes [(2, 1), (0, a1), (0, a2), (0, a3)] [(2, 321), (0, a1), (0, a2), (0, a3)] M := by
  have hn := (z_R_C hR).2.2.1
  obtain ⟨n1, n2, n3, n4, n5⟩ := z_R_n hR
  have g := fun P => gX9_mixes_0 (M := M) (xs := xs) (d := d + 198) (P := P) (a1 := a1) (a2 := a2) (a3 := a3) (z_R_F hR) (z_R_g hR).1 (z_R_H hR).1
  simp only [n3] at g
  have cm := z_R_cm hR a1 a2
  by_cases h : z_cmg M (M 1 0) a1 a2 ∧ (0 ≤ a3 ∧ a3 ≤ 60)
  · obtain ⟨m, rfl⟩ : ∃ m : Nat, a3 = m := ⟨a3.toNat, by omega⟩
    have h2 := cm.mp h.1
    have hne : a1 ≠ a2 := fun e => h2.2.2.1 (by rw [e])
    refine z_two_q (z_w (z_dys M (M 321 52) (M 342) m (18 + 6 * a1 + a2) - M 342 (18 + 6 * a1 + a2))) hR (fun P k => ?_) (fun M1 P f1 hR1 k => ?_)
    · refine g _ (by omega) (fun q => absurd h.1 q) (fun _ _ => by omega) (fun _ _ _ => by omega) (fun _ _ _ => ?_)
      refine s_X0_behind hR (by omega) (fun M1 f1 H1 => ?_)
      have hR1 := z_sc_R f1 hR
      have q1 : M1 1 = M 1 := f1.1 1 (by unfold z_sq; omega)
      have e321 := z_sc_c f1 321 (by unfold z_conf; omega)
      have x1 := z_mxd (z_R_C hR1) H1 h2.1.1 (by rw [e321]; exact h2.1.2) h2.2.1.1 (by rw [e321]; exact h2.2.1.2) hne
      have x2 := z_mxd (z_R_C hR1) (z_R_H hR1) h2.1.1 (by rw [e321]; exact h2.1.2) h2.2.1.1 (by rw [e321]; exact h2.2.1.2) hne
      rw [f1.1 342 (by unfold z_sq; omega)] at x2
      have g := gX9_mixes_33 (M := M1) (xs := xs) (d := d + 198) (P := P) (x1 := a1) (x2 := a2) (x3 := (m : Int)) H1.1 (z_R_H hR1).1
      simp only [show a2 * 6 = 6 * a2 by omega, show a1 * 6 = 6 * a1 by omega, z_wid (x := 6 * a1) (by omega), z_wid (x := 6 * a2) (by omega), z_wid (x := 6 * a1 + a2) (by omega), z_wid (x := 6 * a2 + a1) (by omega)] at g
      refine g (fun _ => by omega) (fun c _ => ?_) (fun c c2 => absurd c c2) (fun c c2 => absurd c c2) (fun _ => by omega) (fun c c2 => absurd c2 c) (fun c c2 => absurd c2 c) (fun c _ => ?_)
      · rw [x1.1 c, x2.1 c]
        exact k M1 f1
      · rw [x1.2 c, x2.2 c]
        exact k M1 f1
    · have e321 := z_sc_c f1 321 (by unfold z_conf; omega)
      rw [← e321, ← z_cm_q (z_sc_c f1)] at h2
      refine gX10_mixes_0 (z_R_F hR1) (z_R_C hR1) (fun q => absurd h2 q) (fun _ _ => ?_) (fun _ q => absurd h.2 q)
      refine s_X10_goFar hR1 (by omega) (fun M2 f2 e2 => ?_)
      have hn1 := (z_R_C hR1).2.2.1
      have g := gX10_mixes_30 (M := M2) (xs := xs) (d := d + 199) (P := P) (x1 := a1) (x2 := a2) (x3 := (m : Int)) (z_R_F (z_sc_R f2 hR1))
      simp only [z_wid (x := 6 * a1) (by omega), z_wid (x := 18 + 6 * a1) (by omega), z_wid (x := 18 + 6 * a1 + a2) (by omega)] at g
      refine g (by omega) ?_
      rw [e2, z_dys_q (z_sc_c f1), (z_sc_t f1 f2).1 342 (by unfold z_sq; omega), f1.1 342 (by unfold z_sq; omega), e321]
      exact k M2 f2
  · have h2 : ¬ (((0 ≤ a1 ∧ a1 < M 321 48) ∧ (0 ≤ a2 ∧ a2 < M 321 48) ∧ z_cm M a1 a2) ∧ (0 ≤ a3 ∧ a3 ≤ 60)) := fun q => h ⟨cm.mpr q.1, q.2⟩
    refine z_two_q (-1) hR (fun P k => ?_) (fun M1 P f1 hR1 k => ?_)
    · refine g _ (by omega) (fun _ => k M z_sc_r) (fun _ _ => k M z_sc_r) (fun _ _ _ => k M z_sc_r) (fun q1 q2 q3 => absurd ⟨q1, by omega, by omega⟩ h)
    · rw [← z_sc_c f1 321 (by unfold z_conf; omega), ← z_cm_q (z_sc_c f1)] at h2
      exact gX10_mixes_0 (z_R_F hR1) (z_R_C hR1) (fun _ => k M1 z_sc_r) (fun q1 q2 => absurd ⟨q1, q2⟩ h2) (fun _ _ => k M1 z_sc_r)
theorem c_bachelors {a1 : Int} (hR : z_R M) : z_two xs (d + 200) mX9_bachelors mX10_bachelors [(2, 1), (0, a1)] [(2, 321), (0, a1), (3, 0), (3, 0)] M := by
  have hn := (z_R_C hR).2.2.1
  have g := fun P => gX9_bachelors_0 (M := M) (xs := xs) (d := d + 199) (P := P) (a1 := a1) (z_R_F hR) (z_R_H hR).1
  by_cases h : 0 ≤ a1 ∧ a1 ≤ 60
  · obtain ⟨m, rfl⟩ : ∃ m : Nat, a1 = m := ⟨a1.toNat, by omega⟩
    refine z_two_q (z_set (fun f => z_dys M (M 321 52) (M 342) m (12 + f) < 0) (M 321 48).toNat) hR (fun P k => ?_) (fun M1 P f1 hR1 k => ?_)
    · refine g _ (fun _ => by omega) (fun _ _ => by omega) (fun _ _ => ?_)
      refine s_X0_behind hR (by omega) (fun M1 f1 H1 => ?_)
      have hR1 := z_sc_R f1 hR
      have e321 := z_sc_c f1 321 (by unfold z_conf; omega)
      have g := gX9_bachelors_19 (M := M1) (xs := xs) (d := d + 199) (P := P) (x1 := (m : Int)) H1.1 (z_R_g hR1).1
      rw [(z_R_n hR1).2.2.1, z_sgl_s (z_R_C hR1) H1 (z_sn_x (z_cfe_c (z_sc_c f1)) (z_dys_sn (z_R_C hR) (z_R_S hR) m)), e321] at g
      exact g (by omega) (k M1 f1)
    · refine gX10_bachelors_0 (fun _ => ?_) (fun q => absurd h q)
      refine s_X10_goFar hR1 (by omega) (fun M2 f2 e2 => ?_)
      have hR2 := z_sc_R f2 hR1
      have e321 := z_sc_c (z_sc_t f1 f2) 321 (by unfold z_conf; omega)
      refine gX10_bachelors_21 ?_
      rw [z_dys_q (z_sc_c f1), f1.1 342 (by unfold z_sq; omega), z_sc_c f1 321 (by unfold z_conf; omega)] at e2
      generalize z_dys M (M 321 52) (M 342) m = S at *
      refine z_loop (W := fun i => wp xs (d + 200) mX10_bachelors 25 [(2, 321), (0, (m : Int)), (0, z_set (fun f => S (12 + f) < 0) i), (0, (i : Int))] [] z_LL M2 P) (M 321 48).toNat (fun i hi ih => ?_)
      have g := gX10_bachelors_25 (M := M2) (xs := xs) (d := d + 199) (P := P) (x1 := (m : Int)) (x2 := z_set (fun f => S (12 + f) < 0) i) (x3 := (i : Int)) (z_R_F hR2)
      simp only [e321, e2, z_in1 (i := i) (by omega), z_wid (x := 12 + (i : Int)) (by omega), z_or_sh0 (p := fun f => S (12 + f) < 0) (n := i) (k := i) (by omega)] at g
      refine g (fun c => ?_) (fun _ => by omega) (fun c e => ?_) (fun c e => ?_)
      · rw [show i = (M 321 48).toNat by omega]
        exact k M2 f2
      · have ih := ih (by omega)
        rw [z_set_n (p := fun f => S (12 + f) < 0) (by show ¬ S (12 + (i : Int)) < 0; omega)] at ih
        exact ih
      · have ih := ih (by omega)
        rw [z_set_y (p := fun f => S (12 + f) < 0) (by show S (12 + (i : Int)) < 0; omega)] at ih
        exact ih
  · refine z_two_q (-1) hR (fun P k => ?_) (fun M1 P f1 hR1 k => ?_)
    · exact g _ (fun _ => k M z_sc_r) (fun _ _ => k M z_sc_r) (fun _ _ => by omega)
    · exact gX10_bachelors_0 (fun q => absurd q h) (fun _ => k M1 z_sc_r)
end
