/-! pairs: the model -/
set_option maxRecDepth 20000 in
theorem gX10_layPairs_0 {xs : List Int} {d : Nat} {M : z_M} {P : Option z_V → z_L → z_M → Prop} {a1 : Int} 
    (l1 : wp xs d mX10_layPairs 9 [(2, 321), (0, a1), (0, a1), (0, (z_w ((M 321 48) - 1))), (3, 0)] [] z_LL M P) :
    wp xs d mX10_layPairs 0 [(2, 321), (0, a1), (3, 0), (3, 0), (3, 0)] [] z_LL M P := by
  refine wp_run 3 (pc' := 3) (ls' := [(2, 321), (0, a1), (0, a1), (3, 0), (3, 0)]) (st' := [(2, 321)]) rfl ?_
  refine wp_gf (pc' := 6) (t := 0) (v := (M 321 48)) rfl rfl (by decide) rfl rfl rfl ?_
  refine wp_run 3 (pc' := 9) (ls' := [(2, 321), (0, a1), (0, a1), (0, (z_w ((M 321 48) - 1))), (3, 0)]) (st' := []) rfl ?_
  exact l1
set_option maxRecDepth 20000 in
theorem gX10_layPairs_9 {xs : List Int} {d : Nat} {M : z_M} {P : Option z_V → z_L → z_M → Prop} {x1 : Int} {x2 : Int} {x3 : Int} (hF : z_fix M) 
    (l1 : (x3 < 0) → wp xs d mX10_layPairs 49 [(2, 321), (0, x1), (0, x2), (0, 1), (0, 0)] [] z_LL M P)
    (b1 : (¬ (x3 < 0)) → ¬ (z_w ((M 321 48) + 1)) = 0)
    (b2 : (¬ (x3 < 0)) → 0 ≤ x3 ∧ x3 < 6)
    (l2 : (¬ (x3 < 0)) → wp xs d mX10_layPairs 9 [(2, 321), (0, x1), (0, (z_div x2 (z_w ((M 321 48) + 1)))), (0, (z_w (x3 + (-1)))), (3, 0)] [] z_LL (z_up M 346 x3 (z_w ((z_rem x2 (z_w ((M 321 48) + 1))) - 1))) P) :
    wp xs d mX10_layPairs 9 [(2, 321), (0, x1), (0, x2), (0, x3), (3, 0)] [] z_LL M P := by
  refine wp_run 1 (pc' := 10) (ls' := [(2, 321), (0, x1), (0, x2), (0, x3), (3, 0)]) (st' := [(0, x3)]) rfl ?_
  refine wp_if1 rfl rfl rfl (fun (c1 : x3 < 0) => ?_) (fun (c1 : ¬ (x3 < 0)) => ?_)
  · refine wp_run 4 (pc' := 49) (ls' := [(2, 321), (0, x1), (0, x2), (0, 1), (0, 0)]) (st' := []) rfl ?_
    exact l1 c1
  · refine wp_run 1 (pc' := 14) (ls' := [(2, 321), (0, x1), (0, x2), (0, x3), (3, 0)]) (st' := [(2, 321)]) rfl ?_
    refine wp_gf (pc' := 17) (t := 2) (v := 346) rfl rfl (by decide) rfl rfl (fx_321_66 hF) ?_
    refine wp_run 3 (pc' := 20) (ls' := [(2, 321), (0, x1), (0, x2), (0, x3), (3, 0)]) (st' := [(2, 321), (0, x2), (0, x3), (2, 346)]) rfl ?_
    refine wp_gf (pc' := 23) (t := 0) (v := (M 321 48)) rfl rfl (by decide) rfl rfl rfl ?_
    refine wp_run 2 (pc' := 25) (ls' := [(2, 321), (0, x1), (0, x2), (0, x3), (3, 0)]) (st' := [(0, (z_w ((M 321 48) + 1))), (0, x2), (0, x3), (2, 346)]) rfl ?_
    refine wp_rem rfl rfl (b1 c1) ?_
    refine wp_run 2 (pc' := 28) (ls' := [(2, 321), (0, x1), (0, x2), (0, x3), (3, 0)]) (st' := [(0, (z_w ((z_rem x2 (z_w ((M 321 48) + 1))) - 1))), (0, x3), (2, 346)]) rfl ?_
    refine wp_iast (pc' := 29) rfl rfl rfl (b2 c1) ?_
    refine wp_run 2 (pc' := 31) (ls' := [(2, 321), (0, x1), (0, x2), (0, x3), (3, 0)]) (st' := [(2, 321), (0, x2)]) rfl ?_
    refine wp_gf (pc' := 34) (t := 0) (v := (M 321 48)) rfl rfl (by decide) rfl rfl (z_upq (by decide) rfl) ?_
    refine wp_run 2 (pc' := 36) (ls' := [(2, 321), (0, x1), (0, x2), (0, x3), (3, 0)]) (st' := [(0, (z_w ((M 321 48) + 1))), (0, x2)]) rfl ?_
    refine wp_div rfl rfl (b1 c1) ?_
    refine wp_run 3 (pc' := 9) (ls' := [(2, 321), (0, x1), (0, (z_div x2 (z_w ((M 321 48) + 1)))), (0, (z_w (x3 + (-1)))), (3, 0)]) (st' := []) rfl ?_
    exact l2 c1
set_option maxRecDepth 20000 in
theorem gX10_layPairs_49 {xs : List Int} {d : Nat} {M : z_M} {P : Option z_V → z_L → z_M → Prop} {x1 : Int} {x2 : Int} {x3 : Int} {x4 : Int} (hF : z_fix M) 
    (b1 : ((M 321 48) ≤ x4) → x3 = 0 ∨ x3 = 1)
    (l1 : ((M 321 48) ≤ x4) → P (some (0, x3)) z_LL M)
    (b2 : (¬ ((M 321 48) ≤ x4)) → (x3 = 0) → x3 = 0 ∨ x3 = 1)
    (l2 : (¬ ((M 321 48) ≤ x4)) → (x3 = 0) → P (some (0, x3)) z_LL M)
    (b3 : (¬ ((M 321 48) ≤ x4)) → (¬ (x3 = 0)) → 0 ≤ x4 ∧ x4 < 6)
    (l3 : (¬ ((M 321 48) ≤ x4)) → (¬ (x3 = 0)) → ((M 346 x4) < 0) → wp xs (d + 2) mX10_layPairs 49 [(2, 321), (0, x1), (0, x2), (0, 1), (0, (z_w (x4 + 1)))] [] z_LL M P)
    (b4 : (¬ ((M 321 48) ≤ x4)) → (¬ (x3 = 0)) → (¬ ((M 346 x4) < 0)) → 0 ≤ (M 346 x4) ∧ (M 346 x4) < 6)
    (l4 : (¬ ((M 321 48) ≤ x4)) → (¬ (x3 = 0)) → (¬ ((M 346 x4) < 0)) → ((M 346 (M 346 x4)) ≠ x4) → wp xs (d + 2) mX10_layPairs 49 [(2, 321), (0, x1), (0, x2), (0, 0), (0, (z_w (x4 + 1)))] [] z_LL M P)
    (b5 : (¬ ((M 321 48) ≤ x4)) → (¬ (x3 = 0)) → (¬ ((M 346 x4) < 0)) → (¬ ((M 346 (M 346 x4)) ≠ x4)) → (0 ≤ x4 ∧ x4 < 6 ∧ 0 ≤ (M 346 x4) ∧ (M 346 x4) < 6))
    (l5 : (¬ ((M 321 48) ≤ x4)) → (¬ (x3 = 0)) → (¬ ((M 346 x4) < 0)) → (¬ ((M 346 (M 346 x4)) ≠ x4)) → (¬ (z_cm M x4 (M 346 x4) ∧ 0 ≤ M 340 (6 * x4 + (M 346 x4)) ∧ 0 ≤ M 340 (6 * (M 346 x4) + x4))) → wp xs (d + 2) mX10_layPairs 49 [(2, 321), (0, x1), (0, x2), (0, 0), (0, (z_w (x4 + 1)))] [] z_LL M P)
    (l6 : (¬ ((M 321 48) ≤ x4)) → (¬ (x3 = 0)) → (¬ ((M 346 x4) < 0)) → (¬ ((M 346 (M 346 x4)) ≠ x4)) → ((z_cm M x4 (M 346 x4) ∧ 0 ≤ M 340 (6 * x4 + (M 346 x4)) ∧ 0 ≤ M 340 (6 * (M 346 x4) + x4))) → wp xs (d + 2) mX10_layPairs 49 [(2, 321), (0, x1), (0, x2), (0, 1), (0, (z_w (x4 + 1)))] [] z_LL M P) :
    wp xs (d + 2) mX10_layPairs 49 [(2, 321), (0, x1), (0, x2), (0, x3), (0, x4)] [] z_LL M P := by
  refine wp_run 2 (pc' := 52) (ls' := [(2, 321), (0, x1), (0, x2), (0, x3), (0, x4)]) (st' := [(2, 321), (0, x4)]) rfl ?_
  refine wp_gf (pc' := 55) (t := 0) (v := (M 321 48)) rfl rfl (by decide) rfl rfl rfl ?_
  refine wp_if2 rfl rfl rfl (fun (c1 : (M 321 48) ≤ x4) => ?_) (fun (c1 : ¬ ((M 321 48) ≤ x4)) => ?_)
  · refine wp_run 1 (pc' := 118) (ls' := [(2, 321), (0, x1), (0, x2), (0, x3), (0, x4)]) (st' := [(0, x3)]) rfl ?_
    exact wp_retz rfl rfl rfl (b1 c1) (l1 c1)
  · refine wp_run 1 (pc' := 59) (ls' := [(2, 321), (0, x1), (0, x2), (0, x3), (0, x4)]) (st' := [(0, x3)]) rfl ?_
    refine wp_if1 rfl rfl rfl (fun (c2 : x3 = 0) => ?_) (fun (c2 : ¬ (x3 = 0)) => ?_)
    · refine wp_run 1 (pc' := 118) (ls' := [(2, 321), (0, x1), (0, x2), (0, x3), (0, x4)]) (st' := [(0, x3)]) rfl ?_
      exact wp_retz rfl rfl rfl (b2 c1 c2) (l2 c1 c2)
    · refine wp_run 1 (pc' := 63) (ls' := [(2, 321), (0, x1), (0, x2), (0, x3), (0, x4)]) (st' := [(2, 321)]) rfl ?_
      refine wp_gf (pc' := 66) (t := 2) (v := 346) rfl rfl (by decide) rfl rfl (fx_321_66 hF) ?_
      refine wp_run 1 (pc' := 68) (ls' := [(2, 321), (0, x1), (0, x2), (0, x3), (0, x4)]) (st' := [(0, x4), (2, 346)]) rfl ?_
      refine wp_iald (pc' := 69) (v := (M 346 x4)) rfl rfl rfl (b3 c1 c2) rfl ?_
      refine wp_if1 rfl rfl rfl (fun (c3 : (M 346 x4) < 0) => ?_) (fun (c3 : ¬ ((M 346 x4) < 0)) => ?_)
      · refine wp_run 5 (pc' := 49) (ls' := [(2, 321), (0, x1), (0, x2), (0, 1), (0, (z_w (x4 + 1)))]) (st' := []) rfl ?_
        exact l3 c1 c2 c3
      · refine wp_run 1 (pc' := 73) (ls' := [(2, 321), (0, x1), (0, x2), (0, x3), (0, x4)]) (st' := [(2, 321)]) rfl ?_
        refine wp_gf (pc' := 76) (t := 2) (v := 346) rfl rfl (by decide) rfl rfl (fx_321_66 hF) ?_
        refine wp_run 1 (pc' := 77) (ls' := [(2, 321), (0, x1), (0, x2), (0, x3), (0, x4)]) (st' := [(2, 321), (2, 346)]) rfl ?_
        refine wp_gf (pc' := 80) (t := 2) (v := 346) rfl rfl (by decide) rfl rfl (fx_321_66 hF) ?_
        refine wp_run 1 (pc' := 82) (ls' := [(2, 321), (0, x1), (0, x2), (0, x3), (0, x4)]) (st' := [(0, x4), (2, 346), (2, 346)]) rfl ?_
        refine wp_iald (pc' := 83) (v := (M 346 x4)) rfl rfl rfl (b3 c1 c2) rfl ?_
        refine wp_iald (pc' := 84) (v := (M 346 (M 346 x4))) rfl rfl rfl (b4 c1 c2 c3) rfl ?_
        refine wp_run 1 (pc' := 86) (ls' := [(2, 321), (0, x1), (0, x2), (0, x3), (0, x4)]) (st' := [(0, x4), (0, (M 346 (M 346 x4)))]) rfl ?_
        refine wp_if2 rfl rfl rfl (fun (c4 : (M 346 (M 346 x4)) ≠ x4) => ?_) (fun (c4 : ¬ ((M 346 (M 346 x4)) ≠ x4)) => ?_)
        · refine wp_run 4 (pc' := 49) (ls' := [(2, 321), (0, x1), (0, x2), (0, 0), (0, (z_w (x4 + 1)))]) (st' := []) rfl ?_
          exact l4 c1 c2 c3 c4
        · refine wp_run 3 (pc' := 93) (ls' := [(2, 321), (0, x1), (0, x2), (0, x3), (0, x4)]) (st' := [(2, 321), (0, x4), (2, 321)]) rfl ?_
          refine wp_gf (pc' := 96) (t := 2) (v := 346) rfl rfl (by decide) rfl rfl (fx_321_66 hF) ?_
          refine wp_run 1 (pc' := 98) (ls' := [(2, 321), (0, x1), (0, x2), (0, x3), (0, x4)]) (st' := [(0, x4), (2, 346), (0, x4), (2, 321)]) rfl ?_
          refine wp_iald (pc' := 99) (v := (M 346 x4)) rfl rfl rfl (b3 c1 c2) rfl ?_
          refine wp_callv (pc' := 102) (as := [(2, 321), (0, x4), (0, (M 346 x4))]) (rest := []) (ls1 := [(2, 321), (0, x4), (0, (M 346 x4))]) rfl rfl rfl rfl rfl rfl ?_
          refine s_X10_couldBe hF (b5 c1 c2 c3 c4) ?_
          show wp xs _ mX10_layPairs 102 [(2, 321), (0, x1), (0, x2), (0, x3), (0, x4)] [(0, (z_b (z_cm M x4 (M 346 x4) ∧ 0 ≤ M 340 (6 * x4 + (M 346 x4)) ∧ 0 ≤ M 340 (6 * (M 346 x4) + x4))))] z_LL M _
          refine wp_be rfl rfl rfl (fun (c5 : ¬ (z_cm M x4 (M 346 x4) ∧ 0 ≤ M 340 (6 * x4 + (M 346 x4)) ∧ 0 ≤ M 340 (6 * (M 346 x4) + x4))) => ?_) (fun (c5 : (z_cm M x4 (M 346 x4) ∧ 0 ≤ M 340 (6 * x4 + (M 346 x4)) ∧ 0 ≤ M 340 (6 * (M 346 x4) + x4))) => ?_)
          · refine wp_run 4 (pc' := 49) (ls' := [(2, 321), (0, x1), (0, x2), (0, 0), (0, (z_w (x4 + 1)))]) (st' := []) rfl ?_
            exact l5 c1 c2 c3 c4 c5
          · refine wp_run 5 (pc' := 49) (ls' := [(2, 321), (0, x1), (0, x2), (0, 1), (0, (z_w (x4 + 1)))]) (st' := []) rfl ?_
            exact l6 c1 c2 c3 c4 c5
set_option maxRecDepth 20000 in
theorem gX10_isCalm_0 {xs : List Int} {d : Nat} {M : z_M} {P : Option z_V → z_L → z_M → Prop} 
    (l1 : wp xs d mX10_isCalm 4 [(2, 321), (0, 1), (0, 0), (3, 0)] [] z_LL M P) :
    wp xs d mX10_isCalm 0 [(2, 321), (3, 0), (3, 0), (3, 0)] [] z_LL M P := by
  refine wp_run 4 (pc' := 4) (ls' := [(2, 321), (0, 1), (0, 0), (3, 0)]) (st' := []) rfl ?_
  exact l1
set_option maxRecDepth 20000 in
theorem gX10_isCalm_4 {xs : List Int} {d : Nat} {M : z_M} {P : Option z_V → z_L → z_M → Prop} {x1 : Int} {x2 : Int} {w3 : z_V} 
    (b1 : ((M 321 48) ≤ x2) → x1 = 0 ∨ x1 = 1)
    (l1 : ((M 321 48) ≤ x2) → P (some (0, x1)) z_LL M)
    (l2 : (¬ ((M 321 48) ≤ x2)) → wp xs d mX10_isCalm 14 [(2, 321), (0, x1), (0, x2), (0, 0)] [] z_LL M P) :
    wp xs d mX10_isCalm 4 [(2, 321), (0, x1), (0, x2), w3] [] z_LL M P := by
  refine wp_run 2 (pc' := 6) (ls' := [(2, 321), (0, x1), (0, x2), w3]) (st' := [(2, 321), (0, x2)]) rfl ?_
  refine wp_gf (pc' := 9) (t := 0) (v := (M 321 48)) rfl rfl (by decide) rfl rfl rfl ?_
  refine wp_if2 rfl rfl rfl (fun (c1 : (M 321 48) ≤ x2) => ?_) (fun (c1 : ¬ ((M 321 48) ≤ x2)) => ?_)
  · refine wp_run 1 (pc' := 99) (ls' := [(2, 321), (0, x1), (0, x2), w3]) (st' := [(0, x1)]) rfl ?_
    exact wp_retz rfl rfl rfl (b1 c1) (l1 c1)
  · refine wp_run 2 (pc' := 14) (ls' := [(2, 321), (0, x1), (0, x2), (0, 0)]) (st' := []) rfl ?_
    exact l2 c1
set_option maxRecDepth 20000 in
theorem gX10_isCalm_14 {xs : List Int} {d : Nat} {M : z_M} {P : Option z_V → z_L → z_M → Prop} {x1 : Int} {x2 : Int} {x3 : Int} (hF : z_fix M) 
    (l1 : (x2 ≤ x3) → wp xs (d + 2) mX10_isCalm 4 [(2, 321), (0, x1), (0, (z_w (x2 + 1))), (0, x3)] [] z_LL M P)
    (l2 : (¬ (x2 ≤ x3)) → (x1 = 0) → wp xs (d + 2) mX10_isCalm 14 [(2, 321), (0, 0), (0, x2), (0, (z_w (x3 + 1)))] [] z_LL M P)
    (b1 : (¬ (x2 ≤ x3)) → (¬ (x1 = 0)) → (0 ≤ x2 ∧ x2 < 6 ∧ 0 ≤ x3 ∧ x3 < 6))
    (l3 : (¬ (x2 ≤ x3)) → (¬ (x1 = 0)) → (¬ (z_cm M x2 x3 ∧ 0 ≤ M 340 (6 * x2 + x3) ∧ 0 ≤ M 340 (6 * x3 + x2))) → wp xs (d + 2) mX10_isCalm 14 [(2, 321), (0, 1), (0, x2), (0, (z_w (x3 + 1)))] [] z_LL M P)
    (b2 : (¬ (x2 ≤ x3)) → (¬ (x1 = 0)) → ((z_cm M x2 x3 ∧ 0 ≤ M 340 (6 * x2 + x3) ∧ 0 ≤ M 340 (6 * x3 + x2))) → 0 ≤ x2 ∧ x2 < 6)
    (l4 : (¬ (x2 ≤ x3)) → (¬ (x1 = 0)) → ((z_cm M x2 x3 ∧ 0 ≤ M 340 (6 * x2 + x3) ∧ 0 ≤ M 340 (6 * x3 + x2))) → ((M 346 x2) = x3) → wp xs (d + 2) mX10_isCalm 14 [(2, 321), (0, 1), (0, x2), (0, (z_w (x3 + 1)))] [] z_LL M P)
    (b3 : (¬ (x2 ≤ x3)) → (¬ (x1 = 0)) → ((z_cm M x2 x3 ∧ 0 ≤ M 340 (6 * x2 + x3) ∧ 0 ≤ M 340 (6 * x3 + x2))) → (¬ ((M 346 x2) = x3)) → 0 ≤ (z_w ((z_w (6 * x2)) + x3)) ∧ (z_w ((z_w (6 * x2)) + x3)) < 36)
    (b4 : (¬ (x2 ≤ x3)) → (¬ (x1 = 0)) → ((z_cm M x2 x3 ∧ 0 ≤ M 340 (6 * x2 + x3) ∧ 0 ≤ M 340 (6 * x3 + x2))) → (¬ ((M 346 x2) = x3)) → (0 ≤ (M 346 x2)) → 0 ≤ (z_w ((z_w (6 * x2)) + (M 346 x2))) ∧ (z_w ((z_w (6 * x2)) + (M 346 x2))) < 36)
    (l5 : (¬ (x2 ≤ x3)) → (¬ (x1 = 0)) → ((z_cm M x2 x3 ∧ 0 ≤ M 340 (6 * x2 + x3) ∧ 0 ≤ M 340 (6 * x3 + x2))) → (¬ ((M 346 x2) = x3)) → (0 ≤ (M 346 x2)) → ((M 340 (z_w ((z_w (6 * x2)) + x3))) ≤ (M 340 (z_w ((z_w (6 * x2)) + (M 346 x2))))) → wp xs (d + 2) mX10_isCalm 14 [(2, 321), (0, 1), (0, x2), (0, (z_w (x3 + 1)))] [] z_LL M P)
    (b5 : (¬ (x2 ≤ x3)) → (¬ (x1 = 0)) → ((z_cm M x2 x3 ∧ 0 ≤ M 340 (6 * x2 + x3) ∧ 0 ≤ M 340 (6 * x3 + x2))) → (¬ ((M 346 x2) = x3)) → (0 ≤ (M 346 x2)) → (¬ ((M 340 (z_w ((z_w (6 * x2)) + x3))) ≤ (M 340 (z_w ((z_w (6 * x2)) + (M 346 x2)))))) → 0 ≤ (z_w ((z_w (6 * x3)) + x2)) ∧ (z_w ((z_w (6 * x3)) + x2)) < 36)
    (b6 : (¬ (x2 ≤ x3)) → (¬ (x1 = 0)) → ((z_cm M x2 x3 ∧ 0 ≤ M 340 (6 * x2 + x3) ∧ 0 ≤ M 340 (6 * x3 + x2))) → (¬ ((M 346 x2) = x3)) → (0 ≤ (M 346 x2)) → (¬ ((M 340 (z_w ((z_w (6 * x2)) + x3))) ≤ (M 340 (z_w ((z_w (6 * x2)) + (M 346 x2)))))) → 0 ≤ x3 ∧ x3 < 6)
    (b7 : (¬ (x2 ≤ x3)) → (¬ (x1 = 0)) → ((z_cm M x2 x3 ∧ 0 ≤ M 340 (6 * x2 + x3) ∧ 0 ≤ M 340 (6 * x3 + x2))) → (¬ ((M 346 x2) = x3)) → (0 ≤ (M 346 x2)) → (¬ ((M 340 (z_w ((z_w (6 * x2)) + x3))) ≤ (M 340 (z_w ((z_w (6 * x2)) + (M 346 x2)))))) → (0 ≤ (M 346 x3)) → 0 ≤ (z_w ((z_w (6 * x3)) + (M 346 x3))) ∧ (z_w ((z_w (6 * x3)) + (M 346 x3))) < 36)
    (l6 : (¬ (x2 ≤ x3)) → (¬ (x1 = 0)) → ((z_cm M x2 x3 ∧ 0 ≤ M 340 (6 * x2 + x3) ∧ 0 ≤ M 340 (6 * x3 + x2))) → (¬ ((M 346 x2) = x3)) → (0 ≤ (M 346 x2)) → (¬ ((M 340 (z_w ((z_w (6 * x2)) + x3))) ≤ (M 340 (z_w ((z_w (6 * x2)) + (M 346 x2)))))) → (0 ≤ (M 346 x3)) → ((M 340 (z_w ((z_w (6 * x3)) + (M 346 x3)))) < (M 340 (z_w ((z_w (6 * x3)) + x2)))) → wp xs (d + 2) mX10_isCalm 14 [(2, 321), (0, 0), (0, x2), (0, (z_w (x3 + 1)))] [] z_LL M P)
    (l7 : (¬ (x2 ≤ x3)) → (¬ (x1 = 0)) → ((z_cm M x2 x3 ∧ 0 ≤ M 340 (6 * x2 + x3) ∧ 0 ≤ M 340 (6 * x3 + x2))) → (¬ ((M 346 x2) = x3)) → (0 ≤ (M 346 x2)) → (¬ ((M 340 (z_w ((z_w (6 * x2)) + x3))) ≤ (M 340 (z_w ((z_w (6 * x2)) + (M 346 x2)))))) → (0 ≤ (M 346 x3)) → (¬ ((M 340 (z_w ((z_w (6 * x3)) + (M 346 x3)))) < (M 340 (z_w ((z_w (6 * x3)) + x2))))) → wp xs (d + 2) mX10_isCalm 14 [(2, 321), (0, 1), (0, x2), (0, (z_w (x3 + 1)))] [] z_LL M P)
    (l8 : (¬ (x2 ≤ x3)) → (¬ (x1 = 0)) → ((z_cm M x2 x3 ∧ 0 ≤ M 340 (6 * x2 + x3) ∧ 0 ≤ M 340 (6 * x3 + x2))) → (¬ ((M 346 x2) = x3)) → (0 ≤ (M 346 x2)) → (¬ ((M 340 (z_w ((z_w (6 * x2)) + x3))) ≤ (M 340 (z_w ((z_w (6 * x2)) + (M 346 x2)))))) → (¬ (0 ≤ (M 346 x3))) → (0 < (M 340 (z_w ((z_w (6 * x3)) + x2)))) → wp xs (d + 2) mX10_isCalm 14 [(2, 321), (0, 0), (0, x2), (0, (z_w (x3 + 1)))] [] z_LL M P)
    (l9 : (¬ (x2 ≤ x3)) → (¬ (x1 = 0)) → ((z_cm M x2 x3 ∧ 0 ≤ M 340 (6 * x2 + x3) ∧ 0 ≤ M 340 (6 * x3 + x2))) → (¬ ((M 346 x2) = x3)) → (0 ≤ (M 346 x2)) → (¬ ((M 340 (z_w ((z_w (6 * x2)) + x3))) ≤ (M 340 (z_w ((z_w (6 * x2)) + (M 346 x2)))))) → (¬ (0 ≤ (M 346 x3))) → (¬ (0 < (M 340 (z_w ((z_w (6 * x3)) + x2))))) → wp xs (d + 2) mX10_isCalm 14 [(2, 321), (0, 1), (0, x2), (0, (z_w (x3 + 1)))] [] z_LL M P)
    (l10 : (¬ (x2 ≤ x3)) → (¬ (x1 = 0)) → ((z_cm M x2 x3 ∧ 0 ≤ M 340 (6 * x2 + x3) ∧ 0 ≤ M 340 (6 * x3 + x2))) → (¬ ((M 346 x2) = x3)) → (¬ (0 ≤ (M 346 x2))) → ((M 340 (z_w ((z_w (6 * x2)) + x3))) ≤ 0) → wp xs (d + 2) mX10_isCalm 14 [(2, 321), (0, 1), (0, x2), (0, (z_w (x3 + 1)))] [] z_LL M P)
    (b8 : (¬ (x2 ≤ x3)) → (¬ (x1 = 0)) → ((z_cm M x2 x3 ∧ 0 ≤ M 340 (6 * x2 + x3) ∧ 0 ≤ M 340 (6 * x3 + x2))) → (¬ ((M 346 x2) = x3)) → (¬ (0 ≤ (M 346 x2))) → (¬ ((M 340 (z_w ((z_w (6 * x2)) + x3))) ≤ 0)) → 0 ≤ (z_w ((z_w (6 * x3)) + x2)) ∧ (z_w ((z_w (6 * x3)) + x2)) < 36)
    (b9 : (¬ (x2 ≤ x3)) → (¬ (x1 = 0)) → ((z_cm M x2 x3 ∧ 0 ≤ M 340 (6 * x2 + x3) ∧ 0 ≤ M 340 (6 * x3 + x2))) → (¬ ((M 346 x2) = x3)) → (¬ (0 ≤ (M 346 x2))) → (¬ ((M 340 (z_w ((z_w (6 * x2)) + x3))) ≤ 0)) → 0 ≤ x3 ∧ x3 < 6)
    (b10 : (¬ (x2 ≤ x3)) → (¬ (x1 = 0)) → ((z_cm M x2 x3 ∧ 0 ≤ M 340 (6 * x2 + x3) ∧ 0 ≤ M 340 (6 * x3 + x2))) → (¬ ((M 346 x2) = x3)) → (¬ (0 ≤ (M 346 x2))) → (¬ ((M 340 (z_w ((z_w (6 * x2)) + x3))) ≤ 0)) → (0 ≤ (M 346 x3)) → 0 ≤ (z_w ((z_w (6 * x3)) + (M 346 x3))) ∧ (z_w ((z_w (6 * x3)) + (M 346 x3))) < 36)
    (l11 : (¬ (x2 ≤ x3)) → (¬ (x1 = 0)) → ((z_cm M x2 x3 ∧ 0 ≤ M 340 (6 * x2 + x3) ∧ 0 ≤ M 340 (6 * x3 + x2))) → (¬ ((M 346 x2) = x3)) → (¬ (0 ≤ (M 346 x2))) → (¬ ((M 340 (z_w ((z_w (6 * x2)) + x3))) ≤ 0)) → (0 ≤ (M 346 x3)) → ((M 340 (z_w ((z_w (6 * x3)) + (M 346 x3)))) < (M 340 (z_w ((z_w (6 * x3)) + x2)))) → wp xs (d + 2) mX10_isCalm 14 [(2, 321), (0, 0), (0, x2), (0, (z_w (x3 + 1)))] [] z_LL M P)
    (l12 : (¬ (x2 ≤ x3)) → (¬ (x1 = 0)) → ((z_cm M x2 x3 ∧ 0 ≤ M 340 (6 * x2 + x3) ∧ 0 ≤ M 340 (6 * x3 + x2))) → (¬ ((M 346 x2) = x3)) → (¬ (0 ≤ (M 346 x2))) → (¬ ((M 340 (z_w ((z_w (6 * x2)) + x3))) ≤ 0)) → (0 ≤ (M 346 x3)) → (¬ ((M 340 (z_w ((z_w (6 * x3)) + (M 346 x3)))) < (M 340 (z_w ((z_w (6 * x3)) + x2))))) → wp xs (d + 2) mX10_isCalm 14 [(2, 321), (0, 1), (0, x2), (0, (z_w (x3 + 1)))] [] z_LL M P)
    (l13 : (¬ (x2 ≤ x3)) → (¬ (x1 = 0)) → ((z_cm M x2 x3 ∧ 0 ≤ M 340 (6 * x2 + x3) ∧ 0 ≤ M 340 (6 * x3 + x2))) → (¬ ((M 346 x2) = x3)) → (¬ (0 ≤ (M 346 x2))) → (¬ ((M 340 (z_w ((z_w (6 * x2)) + x3))) ≤ 0)) → (¬ (0 ≤ (M 346 x3))) → (0 < (M 340 (z_w ((z_w (6 * x3)) + x2)))) → wp xs (d + 2) mX10_isCalm 14 [(2, 321), (0, 0), (0, x2), (0, (z_w (x3 + 1)))] [] z_LL M P)
    (l14 : (¬ (x2 ≤ x3)) → (¬ (x1 = 0)) → ((z_cm M x2 x3 ∧ 0 ≤ M 340 (6 * x2 + x3) ∧ 0 ≤ M 340 (6 * x3 + x2))) → (¬ ((M 346 x2) = x3)) → (¬ (0 ≤ (M 346 x2))) → (¬ ((M 340 (z_w ((z_w (6 * x2)) + x3))) ≤ 0)) → (¬ (0 ≤ (M 346 x3))) → (¬ (0 < (M 340 (z_w ((z_w (6 * x3)) + x2))))) → wp xs (d + 2) mX10_isCalm 14 [(2, 321), (0, 1), (0, x2), (0, (z_w (x3 + 1)))] [] z_LL M P) :
    wp xs (d + 2) mX10_isCalm 14 [(2, 321), (0, x1), (0, x2), (0, x3)] [] z_LL M P := by
  refine wp_run 2 (pc' := 16) (ls' := [(2, 321), (0, x1), (0, x2), (0, x3)]) (st' := [(0, x2), (0, x3)]) rfl ?_
  refine wp_if2 rfl rfl rfl (fun (c1 : x2 ≤ x3) => ?_) (fun (c1 : ¬ (x2 ≤ x3)) => ?_)
  · refine wp_run 2 (pc' := 4) (ls' := [(2, 321), (0, x1), (0, (z_w (x2 + 1))), (0, x3)]) (st' := []) rfl ?_
    exact l1 c1
  · refine wp_run 1 (pc' := 20) (ls' := [(2, 321), (0, x1), (0, x2), (0, x3)]) (st' := [(0, x1)]) rfl ?_
    refine wp_if1 rfl rfl rfl (fun (c2 : x1 = 0) => ?_) (fun (c2 : ¬ (x1 = 0)) => ?_)
    · refine wp_run 4 (pc' := 14) (ls' := [(2, 321), (0, 0), (0, x2), (0, (z_w (x3 + 1)))]) (st' := []) rfl ?_
      exact l2 c1 c2
    · refine wp_run 3 (pc' := 26) (ls' := [(2, 321), (0, x1), (0, x2), (0, x3)]) (st' := [(0, x3), (0, x2), (2, 321)]) rfl ?_
      refine wp_callv (pc' := 29) (as := [(2, 321), (0, x2), (0, x3)]) (rest := []) (ls1 := [(2, 321), (0, x2), (0, x3)]) rfl rfl rfl rfl rfl rfl ?_
      refine s_X10_couldBe hF (b1 c1 c2) ?_
      show wp xs _ mX10_isCalm 29 [(2, 321), (0, x1), (0, x2), (0, x3)] [(0, (z_b (z_cm M x2 x3 ∧ 0 ≤ M 340 (6 * x2 + x3) ∧ 0 ≤ M 340 (6 * x3 + x2))))] z_LL M _
      refine wp_be rfl rfl rfl (fun (c3 : ¬ (z_cm M x2 x3 ∧ 0 ≤ M 340 (6 * x2 + x3) ∧ 0 ≤ M 340 (6 * x3 + x2))) => ?_) (fun (c3 : (z_cm M x2 x3 ∧ 0 ≤ M 340 (6 * x2 + x3) ∧ 0 ≤ M 340 (6 * x3 + x2))) => ?_)
      · refine wp_run 5 (pc' := 14) (ls' := [(2, 321), (0, 1), (0, x2), (0, (z_w (x3 + 1)))]) (st' := []) rfl ?_
        exact l3 c1 c2 c3
      · refine wp_run 1 (pc' := 33) (ls' := [(2, 321), (0, x1), (0, x2), (0, x3)]) (st' := [(2, 321)]) rfl ?_
        refine wp_gf (pc' := 36) (t := 2) (v := 346) rfl rfl (by decide) rfl rfl (fx_321_66 hF) ?_
        refine wp_run 1 (pc' := 37) (ls' := [(2, 321), (0, x1), (0, x2), (0, x3)]) (st' := [(0, x2), (2, 346)]) rfl ?_
        refine wp_iald (pc' := 38) (v := (M 346 x2)) rfl rfl rfl (b2 c1 c2 c3) rfl ?_
        refine wp_run 1 (pc' := 39) (ls' := [(2, 321), (0, x1), (0, x2), (0, x3)]) (st' := [(0, x3), (0, (M 346 x2))]) rfl ?_
        refine wp_if2 rfl rfl rfl (fun (c4 : (M 346 x2) = x3) => ?_) (fun (c4 : ¬ ((M 346 x2) = x3)) => ?_)
        · refine wp_run 5 (pc' := 14) (ls' := [(2, 321), (0, 1), (0, x2), (0, (z_w (x3 + 1)))]) (st' := []) rfl ?_
          exact l4 c1 c2 c3 c4
        · refine wp_run 1 (pc' := 43) (ls' := [(2, 321), (0, x1), (0, x2), (0, x3)]) (st' := [(2, 321)]) rfl ?_
          refine wp_gf (pc' := 46) (t := 2) (v := 340) rfl rfl (by decide) rfl rfl (fx_321_34 hF) ?_
          refine wp_run 5 (pc' := 52) (ls' := [(2, 321), (0, x1), (0, x2), (0, x3)]) (st' := [(0, (z_w ((z_w (6 * x2)) + x3))), (2, 340)]) rfl ?_
          refine wp_iald (pc' := 53) (v := (M 340 (z_w ((z_w (6 * x2)) + x3)))) rfl rfl rfl (b3 c1 c2 c3 c4) rfl ?_
          refine wp_run 2 (pc' := 55) (ls' := [(2, 321), (0, x1), (0, x2), (0, x3)]) (st' := [(0, x2), (2, 321), (0, (M 340 (z_w ((z_w (6 * x2)) + x3))))]) rfl ?_
          refine wp_callv (pc' := 58) (as := [(2, 321), (0, x2)]) (rest := [(0, (M 340 (z_w ((z_w (6 * x2)) + x3))))]) (ls1 := [(2, 321), (0, x2)]) rfl rfl rfl rfl rfl rfl ?_
          refine wp_run 1 (pc' := 1) (ls' := [(2, 321), (0, x2)]) (st' := [(2, 321)]) rfl ?_
          refine wp_gf (pc' := 4) (t := 2) (v := 346) rfl rfl (by decide) rfl rfl (fx_321_66 hF) ?_
          refine wp_run 1 (pc' := 5) (ls' := [(2, 321), (0, x2)]) (st' := [(0, x2), (2, 346)]) rfl ?_
          refine wp_iald (pc' := 6) (v := (M 346 x2)) rfl rfl rfl (b2 c1 c2 c3) rfl ?_
          refine wp_if1 rfl rfl rfl (fun (c5 : 0 ≤ (M 346 x2)) => ?_) (fun (c5 : ¬ (0 ≤ (M 346 x2))) => ?_)
          · refine wp_run 1 (pc' := 14) (ls' := [(2, 321), (0, x2)]) (st' := [(2, 321)]) rfl ?_
            refine wp_gf (pc' := 17) (t := 2) (v := 340) rfl rfl (by decide) rfl rfl (fx_321_34 hF) ?_
            refine wp_run 4 (pc' := 22) (ls' := [(2, 321), (0, x2)]) (st' := [(2, 321), (0, (z_w (6 * x2))), (2, 340)]) rfl ?_
            refine wp_gf (pc' := 25) (t := 2) (v := 346) rfl rfl (by decide) rfl rfl (fx_321_66 hF) ?_
            refine wp_run 1 (pc' := 26) (ls' := [(2, 321), (0, x2)]) (st' := [(0, x2), (2, 346), (0, (z_w (6 * x2))), (2, 340)]) rfl ?_
            refine wp_iald (pc' := 27) (v := (M 346 x2)) rfl rfl rfl (b2 c1 c2 c3) rfl ?_
            refine wp_run 1 (pc' := 28) (ls' := [(2, 321), (0, x2)]) (st' := [(0, (z_w ((z_w (6 * x2)) + (M 346 x2)))), (2, 340)]) rfl ?_
            refine wp_iald (pc' := 29) (v := (M 340 (z_w ((z_w (6 * x2)) + (M 346 x2))))) rfl rfl rfl (b4 c1 c2 c3 c4 c5) rfl ?_
            refine wp_ret rfl rfl ?_
            show wp xs _ mX10_isCalm 58 [(2, 321), (0, x1), (0, x2), (0, x3)] [(0, (M 340 (z_w ((z_w (6 * x2)) + (M 346 x2))))), (0, (M 340 (z_w ((z_w (6 * x2)) + x3))))] z_LL M _
            refine wp_if2 rfl rfl rfl (fun (c6 : (M 340 (z_w ((z_w (6 * x2)) + x3))) ≤ (M 340 (z_w ((z_w (6 * x2)) + (M 346 x2))))) => ?_) (fun (c6 : ¬ ((M 340 (z_w ((z_w (6 * x2)) + x3))) ≤ (M 340 (z_w ((z_w (6 * x2)) + (M 346 x2)))))) => ?_)
            · refine wp_run 5 (pc' := 14) (ls' := [(2, 321), (0, 1), (0, x2), (0, (z_w (x3 + 1)))]) (st' := []) rfl ?_
              exact l5 c1 c2 c3 c4 c5 c6
            · refine wp_run 1 (pc' := 62) (ls' := [(2, 321), (0, x1), (0, x2), (0, x3)]) (st' := [(2, 321)]) rfl ?_
              refine wp_gf (pc' := 65) (t := 2) (v := 340) rfl rfl (by decide) rfl rfl (fx_321_34 hF) ?_
              refine wp_run 5 (pc' := 71) (ls' := [(2, 321), (0, x1), (0, x2), (0, x3)]) (st' := [(0, (z_w ((z_w (6 * x3)) + x2))), (2, 340)]) rfl ?_
              refine wp_iald (pc' := 72) (v := (M 340 (z_w ((z_w (6 * x3)) + x2)))) rfl rfl rfl (b5 c1 c2 c3 c4 c5 c6) rfl ?_
              refine wp_run 2 (pc' := 74) (ls' := [(2, 321), (0, x1), (0, x2), (0, x3)]) (st' := [(0, x3), (2, 321), (0, (M 340 (z_w ((z_w (6 * x3)) + x2))))]) rfl ?_
              refine wp_callv (pc' := 77) (as := [(2, 321), (0, x3)]) (rest := [(0, (M 340 (z_w ((z_w (6 * x3)) + x2))))]) (ls1 := [(2, 321), (0, x3)]) rfl rfl rfl rfl rfl rfl ?_
              refine wp_run 1 (pc' := 1) (ls' := [(2, 321), (0, x3)]) (st' := [(2, 321)]) rfl ?_
              refine wp_gf (pc' := 4) (t := 2) (v := 346) rfl rfl (by decide) rfl rfl (fx_321_66 hF) ?_
              refine wp_run 1 (pc' := 5) (ls' := [(2, 321), (0, x3)]) (st' := [(0, x3), (2, 346)]) rfl ?_
              refine wp_iald (pc' := 6) (v := (M 346 x3)) rfl rfl rfl (b6 c1 c2 c3 c4 c5 c6) rfl ?_
              refine wp_if1 rfl rfl rfl (fun (c7 : 0 ≤ (M 346 x3)) => ?_) (fun (c7 : ¬ (0 ≤ (M 346 x3))) => ?_)
              · refine wp_run 1 (pc' := 14) (ls' := [(2, 321), (0, x3)]) (st' := [(2, 321)]) rfl ?_
                refine wp_gf (pc' := 17) (t := 2) (v := 340) rfl rfl (by decide) rfl rfl (fx_321_34 hF) ?_
                refine wp_run 4 (pc' := 22) (ls' := [(2, 321), (0, x3)]) (st' := [(2, 321), (0, (z_w (6 * x3))), (2, 340)]) rfl ?_
                refine wp_gf (pc' := 25) (t := 2) (v := 346) rfl rfl (by decide) rfl rfl (fx_321_66 hF) ?_
                refine wp_run 1 (pc' := 26) (ls' := [(2, 321), (0, x3)]) (st' := [(0, x3), (2, 346), (0, (z_w (6 * x3))), (2, 340)]) rfl ?_
                refine wp_iald (pc' := 27) (v := (M 346 x3)) rfl rfl rfl (b6 c1 c2 c3 c4 c5 c6) rfl ?_
                refine wp_run 1 (pc' := 28) (ls' := [(2, 321), (0, x3)]) (st' := [(0, (z_w ((z_w (6 * x3)) + (M 346 x3)))), (2, 340)]) rfl ?_
                refine wp_iald (pc' := 29) (v := (M 340 (z_w ((z_w (6 * x3)) + (M 346 x3))))) rfl rfl rfl (b7 c1 c2 c3 c4 c5 c6 c7) rfl ?_
                refine wp_ret rfl rfl ?_
                show wp xs _ mX10_isCalm 77 [(2, 321), (0, x1), (0, x2), (0, x3)] [(0, (M 340 (z_w ((z_w (6 * x3)) + (M 346 x3))))), (0, (M 340 (z_w ((z_w (6 * x3)) + x2))))] z_LL M _
                refine wp_if2 rfl rfl rfl (fun (c8 : (M 340 (z_w ((z_w (6 * x3)) + (M 346 x3)))) < (M 340 (z_w ((z_w (6 * x3)) + x2)))) => ?_) (fun (c8 : ¬ ((M 340 (z_w ((z_w (6 * x3)) + (M 346 x3)))) < (M 340 (z_w ((z_w (6 * x3)) + x2))))) => ?_)
                · refine wp_run 4 (pc' := 14) (ls' := [(2, 321), (0, 0), (0, x2), (0, (z_w (x3 + 1)))]) (st' := []) rfl ?_
                  exact l6 c1 c2 c3 c4 c5 c6 c7 c8
                · refine wp_run 5 (pc' := 14) (ls' := [(2, 321), (0, 1), (0, x2), (0, (z_w (x3 + 1)))]) (st' := []) rfl ?_
                  exact l7 c1 c2 c3 c4 c5 c6 c7 c8
              · refine wp_run 2 (pc' := 29) (ls' := [(2, 321), (0, x3)]) (st' := [(0, 0)]) rfl ?_
                refine wp_ret rfl rfl ?_
                show wp xs _ mX10_isCalm 77 [(2, 321), (0, x1), (0, x2), (0, x3)] [(0, 0), (0, (M 340 (z_w ((z_w (6 * x3)) + x2))))] z_LL M _
                refine wp_if2 rfl rfl rfl (fun (c9 : 0 < (M 340 (z_w ((z_w (6 * x3)) + x2)))) => ?_) (fun (c9 : ¬ (0 < (M 340 (z_w ((z_w (6 * x3)) + x2))))) => ?_)
                · refine wp_run 4 (pc' := 14) (ls' := [(2, 321), (0, 0), (0, x2), (0, (z_w (x3 + 1)))]) (st' := []) rfl ?_
                  exact l8 c1 c2 c3 c4 c5 c6 c7 c9
                · refine wp_run 5 (pc' := 14) (ls' := [(2, 321), (0, 1), (0, x2), (0, (z_w (x3 + 1)))]) (st' := []) rfl ?_
                  exact l9 c1 c2 c3 c4 c5 c6 c7 c9
          · refine wp_run 2 (pc' := 29) (ls' := [(2, 321), (0, x2)]) (st' := [(0, 0)]) rfl ?_
            refine wp_ret rfl rfl ?_
            show wp xs _ mX10_isCalm 58 [(2, 321), (0, x1), (0, x2), (0, x3)] [(0, 0), (0, (M 340 (z_w ((z_w (6 * x2)) + x3))))] z_LL M _
            refine wp_if2 rfl rfl rfl (fun (c10 : (M 340 (z_w ((z_w (6 * x2)) + x3))) ≤ 0) => ?_) (fun (c10 : ¬ ((M 340 (z_w ((z_w (6 * x2)) + x3))) ≤ 0)) => ?_)
            · refine wp_run 5 (pc' := 14) (ls' := [(2, 321), (0, 1), (0, x2), (0, (z_w (x3 + 1)))]) (st' := []) rfl ?_
              exact l10 c1 c2 c3 c4 c5 c10
            · refine wp_run 1 (pc' := 62) (ls' := [(2, 321), (0, x1), (0, x2), (0, x3)]) (st' := [(2, 321)]) rfl ?_
              refine wp_gf (pc' := 65) (t := 2) (v := 340) rfl rfl (by decide) rfl rfl (fx_321_34 hF) ?_
              refine wp_run 5 (pc' := 71) (ls' := [(2, 321), (0, x1), (0, x2), (0, x3)]) (st' := [(0, (z_w ((z_w (6 * x3)) + x2))), (2, 340)]) rfl ?_
              refine wp_iald (pc' := 72) (v := (M 340 (z_w ((z_w (6 * x3)) + x2)))) rfl rfl rfl (b8 c1 c2 c3 c4 c5 c10) rfl ?_
              refine wp_run 2 (pc' := 74) (ls' := [(2, 321), (0, x1), (0, x2), (0, x3)]) (st' := [(0, x3), (2, 321), (0, (M 340 (z_w ((z_w (6 * x3)) + x2))))]) rfl ?_
              refine wp_callv (pc' := 77) (as := [(2, 321), (0, x3)]) (rest := [(0, (M 340 (z_w ((z_w (6 * x3)) + x2))))]) (ls1 := [(2, 321), (0, x3)]) rfl rfl rfl rfl rfl rfl ?_
              refine wp_run 1 (pc' := 1) (ls' := [(2, 321), (0, x3)]) (st' := [(2, 321)]) rfl ?_
              refine wp_gf (pc' := 4) (t := 2) (v := 346) rfl rfl (by decide) rfl rfl (fx_321_66 hF) ?_
              refine wp_run 1 (pc' := 5) (ls' := [(2, 321), (0, x3)]) (st' := [(0, x3), (2, 346)]) rfl ?_
              refine wp_iald (pc' := 6) (v := (M 346 x3)) rfl rfl rfl (b9 c1 c2 c3 c4 c5 c10) rfl ?_
              refine wp_if1 rfl rfl rfl (fun (c11 : 0 ≤ (M 346 x3)) => ?_) (fun (c11 : ¬ (0 ≤ (M 346 x3))) => ?_)
              · refine wp_run 1 (pc' := 14) (ls' := [(2, 321), (0, x3)]) (st' := [(2, 321)]) rfl ?_
                refine wp_gf (pc' := 17) (t := 2) (v := 340) rfl rfl (by decide) rfl rfl (fx_321_34 hF) ?_
                refine wp_run 4 (pc' := 22) (ls' := [(2, 321), (0, x3)]) (st' := [(2, 321), (0, (z_w (6 * x3))), (2, 340)]) rfl ?_
                refine wp_gf (pc' := 25) (t := 2) (v := 346) rfl rfl (by decide) rfl rfl (fx_321_66 hF) ?_
                refine wp_run 1 (pc' := 26) (ls' := [(2, 321), (0, x3)]) (st' := [(0, x3), (2, 346), (0, (z_w (6 * x3))), (2, 340)]) rfl ?_
                refine wp_iald (pc' := 27) (v := (M 346 x3)) rfl rfl rfl (b9 c1 c2 c3 c4 c5 c10) rfl ?_
                refine wp_run 1 (pc' := 28) (ls' := [(2, 321), (0, x3)]) (st' := [(0, (z_w ((z_w (6 * x3)) + (M 346 x3)))), (2, 340)]) rfl ?_
                refine wp_iald (pc' := 29) (v := (M 340 (z_w ((z_w (6 * x3)) + (M 346 x3))))) rfl rfl rfl (b10 c1 c2 c3 c4 c5 c10 c11) rfl ?_
                refine wp_ret rfl rfl ?_
                show wp xs _ mX10_isCalm 77 [(2, 321), (0, x1), (0, x2), (0, x3)] [(0, (M 340 (z_w ((z_w (6 * x3)) + (M 346 x3))))), (0, (M 340 (z_w ((z_w (6 * x3)) + x2))))] z_LL M _
                refine wp_if2 rfl rfl rfl (fun (c12 : (M 340 (z_w ((z_w (6 * x3)) + (M 346 x3)))) < (M 340 (z_w ((z_w (6 * x3)) + x2)))) => ?_) (fun (c12 : ¬ ((M 340 (z_w ((z_w (6 * x3)) + (M 346 x3)))) < (M 340 (z_w ((z_w (6 * x3)) + x2))))) => ?_)
                · refine wp_run 4 (pc' := 14) (ls' := [(2, 321), (0, 0), (0, x2), (0, (z_w (x3 + 1)))]) (st' := []) rfl ?_
                  exact l11 c1 c2 c3 c4 c5 c10 c11 c12
                · refine wp_run 5 (pc' := 14) (ls' := [(2, 321), (0, 1), (0, x2), (0, (z_w (x3 + 1)))]) (st' := []) rfl ?_
                  exact l12 c1 c2 c3 c4 c5 c10 c11 c12
              · refine wp_run 2 (pc' := 29) (ls' := [(2, 321), (0, x3)]) (st' := [(0, 0)]) rfl ?_
                refine wp_ret rfl rfl ?_
                show wp xs _ mX10_isCalm 77 [(2, 321), (0, x1), (0, x2), (0, x3)] [(0, 0), (0, (M 340 (z_w ((z_w (6 * x3)) + x2))))] z_LL M _
                refine wp_if2 rfl rfl rfl (fun (c13 : 0 < (M 340 (z_w ((z_w (6 * x3)) + x2)))) => ?_) (fun (c13 : ¬ (0 < (M 340 (z_w ((z_w (6 * x3)) + x2))))) => ?_)
                · refine wp_run 4 (pc' := 14) (ls' := [(2, 321), (0, 0), (0, x2), (0, (z_w (x3 + 1)))]) (st' := []) rfl ?_
                  exact l13 c1 c2 c3 c4 c5 c10 c11 c13
                · refine wp_run 5 (pc' := 14) (ls' := [(2, 321), (0, 1), (0, x2), (0, (z_w (x3 + 1)))]) (st' := []) rfl ?_
                  exact l14 c1 c2 c3 c4 c5 c10 c11 c13
set_option maxRecDepth 20000 in
theorem gX10_allHave_0 {xs : List Int} {d : Nat} {M : z_M} {P : Option z_V → z_L → z_M → Prop} 
    (l1 : wp xs d mX10_allHave 4 [(2, 321), (0, 0), (0, 0)] [] z_LL M P) :
    wp xs d mX10_allHave 0 [(2, 321), (3, 0), (3, 0)] [] z_LL M P := by
  refine wp_run 4 (pc' := 4) (ls' := [(2, 321), (0, 0), (0, 0)]) (st' := []) rfl ?_
  exact l1
set_option maxRecDepth 20000 in
theorem gX10_allHave_4 {xs : List Int} {d : Nat} {M : z_M} {P : Option z_V → z_L → z_M → Prop} {x1 : Int} {x2 : Int} (hF : z_fix M) 
    (l1 : ((M 321 48) ≤ x2) → P (some (0, x1)) z_LL M)
    (b1 : (¬ ((M 321 48) ≤ x2)) → 0 ≤ x2 ∧ x2 < 6)
    (b2 : (¬ ((M 321 48) ≤ x2)) → (0 ≤ (M 346 x2)) → 0 ≤ (z_w ((z_w (6 * x2)) + (M 346 x2))) ∧ (z_w ((z_w (6 * x2)) + (M 346 x2))) < 36)
    (l2 : (¬ ((M 321 48) ≤ x2)) → (0 ≤ (M 346 x2)) → wp xs (d + 1) mX10_allHave 4 [(2, 321), (0, (z_w (x1 + (M 340 (z_w ((z_w (6 * x2)) + (M 346 x2))))))), (0, (z_w (x2 + 1)))] [] z_LL M P)
    (l3 : (¬ ((M 321 48) ≤ x2)) → (¬ (0 ≤ (M 346 x2))) → wp xs (d + 1) mX10_allHave 4 [(2, 321), (0, (z_w (x1 + 0))), (0, (z_w (x2 + 1)))] [] z_LL M P) :
    wp xs (d + 1) mX10_allHave 4 [(2, 321), (0, x1), (0, x2)] [] z_LL M P := by
  refine wp_run 2 (pc' := 6) (ls' := [(2, 321), (0, x1), (0, x2)]) (st' := [(2, 321), (0, x2)]) rfl ?_
  refine wp_gf (pc' := 9) (t := 0) (v := (M 321 48)) rfl rfl (by decide) rfl rfl rfl ?_
  refine wp_if2 rfl rfl rfl (fun (c1 : (M 321 48) ≤ x2) => ?_) (fun (c1 : ¬ ((M 321 48) ≤ x2)) => ?_)
  · refine wp_run 1 (pc' := 27) (ls' := [(2, 321), (0, x1), (0, x2)]) (st' := [(0, x1)]) rfl ?_
    exact wp_ret rfl rfl (l1 c1)
  · refine wp_run 3 (pc' := 15) (ls' := [(2, 321), (0, x1), (0, x2)]) (st' := [(0, x2), (2, 321), (0, x1)]) rfl ?_
    refine wp_callv (pc' := 18) (as := [(2, 321), (0, x2)]) (rest := [(0, x1)]) (ls1 := [(2, 321), (0, x2)]) rfl rfl rfl rfl rfl rfl ?_
    refine wp_run 1 (pc' := 1) (ls' := [(2, 321), (0, x2)]) (st' := [(2, 321)]) rfl ?_
    refine wp_gf (pc' := 4) (t := 2) (v := 346) rfl rfl (by decide) rfl rfl (fx_321_66 hF) ?_
    refine wp_run 1 (pc' := 5) (ls' := [(2, 321), (0, x2)]) (st' := [(0, x2), (2, 346)]) rfl ?_
    refine wp_iald (pc' := 6) (v := (M 346 x2)) rfl rfl rfl (b1 c1) rfl ?_
    refine wp_if1 rfl rfl rfl (fun (c2 : 0 ≤ (M 346 x2)) => ?_) (fun (c2 : ¬ (0 ≤ (M 346 x2))) => ?_)
    · refine wp_run 1 (pc' := 14) (ls' := [(2, 321), (0, x2)]) (st' := [(2, 321)]) rfl ?_
      refine wp_gf (pc' := 17) (t := 2) (v := 340) rfl rfl (by decide) rfl rfl (fx_321_34 hF) ?_
      refine wp_run 4 (pc' := 22) (ls' := [(2, 321), (0, x2)]) (st' := [(2, 321), (0, (z_w (6 * x2))), (2, 340)]) rfl ?_
      refine wp_gf (pc' := 25) (t := 2) (v := 346) rfl rfl (by decide) rfl rfl (fx_321_66 hF) ?_
      refine wp_run 1 (pc' := 26) (ls' := [(2, 321), (0, x2)]) (st' := [(0, x2), (2, 346), (0, (z_w (6 * x2))), (2, 340)]) rfl ?_
      refine wp_iald (pc' := 27) (v := (M 346 x2)) rfl rfl rfl (b1 c1) rfl ?_
      refine wp_run 1 (pc' := 28) (ls' := [(2, 321), (0, x2)]) (st' := [(0, (z_w ((z_w (6 * x2)) + (M 346 x2)))), (2, 340)]) rfl ?_
      refine wp_iald (pc' := 29) (v := (M 340 (z_w ((z_w (6 * x2)) + (M 346 x2))))) rfl rfl rfl (b2 c1 c2) rfl ?_
      refine wp_ret rfl rfl ?_
      show wp xs _ mX10_allHave 18 [(2, 321), (0, x1), (0, x2)] [(0, (M 340 (z_w ((z_w (6 * x2)) + (M 346 x2))))), (0, x1)] z_LL M _
      refine wp_run 4 (pc' := 4) (ls' := [(2, 321), (0, (z_w (x1 + (M 340 (z_w ((z_w (6 * x2)) + (M 346 x2))))))), (0, (z_w (x2 + 1)))]) (st' := []) rfl ?_
      exact l2 c1 c2
    · refine wp_run 2 (pc' := 29) (ls' := [(2, 321), (0, x2)]) (st' := [(0, 0)]) rfl ?_
      refine wp_ret rfl rfl ?_
      show wp xs _ mX10_allHave 18 [(2, 321), (0, x1), (0, x2)] [(0, 0), (0, x1)] z_LL M _
      refine wp_run 4 (pc' := 4) (ls' := [(2, 321), (0, (z_w (x1 + 0))), (0, (z_w (x2 + 1)))]) (st' := []) rfl ?_
      exact l3 c1 c2
set_option maxRecDepth 20000 in
theorem gX10_rowsOf_0 {xs : List Int} {d : Nat} {M : z_M} {P : Option z_V → z_L → z_M → Prop} 
    (l1 : wp xs d mX10_rowsOf 4 [(2, 321), (0, 1), (0, 0)] [] z_LL M P) :
    wp xs d mX10_rowsOf 0 [(2, 321), (3, 0), (3, 0)] [] z_LL M P := by
  refine wp_run 4 (pc' := 4) (ls' := [(2, 321), (0, 1), (0, 0)]) (st' := []) rfl ?_
  exact l1
set_option maxRecDepth 20000 in
theorem gX10_rowsOf_4 {xs : List Int} {d : Nat} {M : z_M} {P : Option z_V → z_L → z_M → Prop} {x1 : Int} {x2 : Int} 
    (l1 : ((M 321 48) ≤ x2) → P (some (0, x1)) z_LL M)
    (l2 : (¬ ((M 321 48) ≤ x2)) → wp xs d mX10_rowsOf 4 [(2, 321), (0, (z_w (x1 * (z_w ((M 321 48) + 1))))), (0, (z_w (x2 + 1)))] [] z_LL M P) :
    wp xs d mX10_rowsOf 4 [(2, 321), (0, x1), (0, x2)] [] z_LL M P := by
  refine wp_run 2 (pc' := 6) (ls' := [(2, 321), (0, x1), (0, x2)]) (st' := [(2, 321), (0, x2)]) rfl ?_
  refine wp_gf (pc' := 9) (t := 0) (v := (M 321 48)) rfl rfl (by decide) rfl rfl rfl ?_
  refine wp_if2 rfl rfl rfl (fun (c1 : (M 321 48) ≤ x2) => ?_) (fun (c1 : ¬ ((M 321 48) ≤ x2)) => ?_)
  · refine wp_run 1 (pc' := 28) (ls' := [(2, 321), (0, x1), (0, x2)]) (st' := [(0, x1)]) rfl ?_
    exact wp_ret rfl rfl (l1 c1)
  · refine wp_run 2 (pc' := 14) (ls' := [(2, 321), (0, x1), (0, x2)]) (st' := [(2, 321), (0, x1)]) rfl ?_
    refine wp_gf (pc' := 17) (t := 0) (v := (M 321 48)) rfl rfl (by decide) rfl rfl rfl ?_
    refine wp_run 6 (pc' := 4) (ls' := [(2, 321), (0, (z_w (x1 * (z_w ((M 321 48) + 1))))), (0, (z_w (x2 + 1)))]) (st' := []) rfl ?_
    exact l2 c1
section
variable {xs : List Int} {d : Nat} {M : z_M}
theorem s_X10_rowsOf {P : Option z_V → z_L → z_M → Prop} {n : Nat} (hn : M 321 48 = (n : Int)) (h6 : n ≤ 6) (k : P (some (0, (((n + 1) ^ n : Nat) : Int))) z_LL M) : wp xs d mX10_rowsOf 0 [(2, 321), (3, 0), (3, 0)] [] z_LL M P := by
  refine gX10_rowsOf_0 ?_
  refine z_loop (W := fun i => wp xs d mX10_rowsOf 4 [(2, 321), (0, (((n + 1) ^ i : Nat) : Int)), (0, (i : Int))] [] z_LL M P) n (fun i hi ih => ?_)
  have g := gX10_rowsOf_4 (M := M) (xs := xs) (d := d) (P := P) (x1 := (((n + 1) ^ i : Nat) : Int)) (x2 := (i : Int))
  rw [hn, z_in1 (i := n) (by omega), z_in1 (i := i) (by omega)] at g
  refine g (fun c => ?_) (fun c => ?_)
  · obtain rfl : i = n := by omega
    exact k
  · have hp := z_pow7 n (by omega)
    have hq : (n + 1) ^ i.succ ≤ (n + 1) ^ n := Nat.pow_le_pow_right (by omega) (by omega)
    rw [← Int.natCast_mul, ← Nat.pow_succ, z_wid (by omega)]
    exact ih (by omega)
theorem s_X10_layPairs {P : Option z_V → z_L → z_M → Prop} {n y : Nat} (hF : z_fix M) (hC : z_mc M) (hn : M 321 48 = (n : Int)) (hy : y < (n + 1) ^ n) (k : ∀ M' : z_M, (∀ q, q ≠ 346 → M' q = M q) → (∀ i : Int, 0 ≤ i → i < n → M' 346 i = z_dgr n n y (fun _ => -1) i ∧ -1 ≤ z_dgr n n y (fun _ => -1) i ∧ z_dgr n n y (fun _ => -1) i < n) → P (some (0, z_b (z_val n (z_cpr M) (z_dgr n n y (fun _ => -1))))) z_LL M') : wp xs (d + 2) mX10_layPairs 0 [(2, 321), (0, (y : Int)), (3, 0), (3, 0), (3, 0)] [] z_LL M P := by
  have h6 := hC.2.2.1
  have hp := z_pow7 n (by omega)
  generalize hW : z_dgr n n y (fun _ => -1) = W at k
  have Wv : ∀ i : Int, 0 ≤ i → i < n → W i = ((y / (n + 1) ^ ((n : Int) - 1 - i).toNat % (n + 1) : Nat) : Int) - 1 := fun i a b => by
    rw [← hW]
    unfold z_dgr
    rw [if_pos (by omega)]
  have Wr : ∀ i : Int, 0 ≤ i → i < n → -1 ≤ W i ∧ W i < n := fun i a b => by
    rw [Wv i a b]
    have := Nat.mod_lt (y / (n + 1) ^ ((n : Int) - 1 - i).toNat) (show 0 < n + 1 by omega)
    omega
  have key : ∀ M' : z_M, (∀ q, q ≠ 346 → M' q = M q) → (∀ j : Int, (n : Int) - ((0 : Nat) : Int) ≤ j → j < n → M' 346 j = W j) → wp xs (d + 2) mX10_layPairs 9 [(2, 321), (0, (y : Int)), (0, ((y / (n + 1) ^ 0 : Nat) : Int)), (0, (n : Int) - 1 - ((0 : Nat) : Int)), (3, 0)] [] z_LL M' P := by
    refine z_loop (W := fun i => ∀ M' : z_M, (∀ q, q ≠ 346 → M' q = M q) → (∀ j : Int, (n : Int) - (i : Int) ≤ j → j < n → M' 346 j = W j) → wp xs (d + 2) mX10_layPairs 9 [(2, 321), (0, (y : Int)), (0, ((y / (n + 1) ^ i : Nat) : Int)), (0, (n : Int) - 1 - (i : Int)), (3, 0)] [] z_LL M' P) n (fun i hi ih M' hM hv => ?_)
    have hF' : z_fix M' := z_fix_at hF hM (by unfold z_fobj; omega)
    have e48 : M' 321 48 = (n : Int) := by rw [hM 321 (by decide)]; exact hn
    have hq : y / (n + 1) ^ i ≤ y := Nat.div_le_self _ _
    have hQ2 : y / (n + 1) ^ i / (n + 1) = y / (n + 1) ^ (i + 1) := by rw [Nat.div_div_eq_div_mul, ← Nat.pow_succ]
    have hWi := fun a b => Wv ((n : Int) - 1 - i) a b
    rw [show ((n : Int) - 1 - ((n : Int) - 1 - i)).toNat = i by omega] at hWi
    rw [← hQ2] at ih
    generalize y / (n + 1) ^ i = Q at *
    have g := gX10_layPairs_9 (M := M') (xs := xs) (d := d + 2) (P := P) (x1 := (y : Int)) (x2 := (Q : Int)) (x3 := (n : Int) - 1 - (i : Int)) hF'
    rw [e48, z_in1 (i := n) (by omega), z_rem_pos (by omega) (by omega), z_div_pos (by omega) (by omega), ← Int.natCast_emod, ← Int.natCast_ediv] at g
    refine g (fun c => ?_) (fun _ => by omega) (fun c => by omega) (fun c => ?_)
    · obtain rfl : i = n := by omega
      clear g ih
      generalize hr : (Q : Int) = r
      have hv : ∀ j : Int, 0 ≤ j → j < i → M' 346 j = W j := fun j a b => hv j (by omega) b
      have cmq := z_cm_q (M := M) (M' := M') (fun q hq => hM q (by unfold z_conf at hq; omega))
      refine z_loop (W := fun m => ∀ x3 : Int, x3 = z_b (∀ f : Int, 0 ≤ f → f < m → W f < 0 ∨ (W (W f) = f ∧ z_cpr M f (W f))) → wp xs (d + 2) mX10_layPairs 49 [(2, 321), (0, (y : Int)), (0, r), (0, x3), (0, (m : Int))] [] z_LL M' P) i (fun m hm ih x3 hx => ?_) 1 (by rw [z_b_t]; exact fun f a b => by omega)
      have g := gX10_layPairs_49 (M := M') (xs := xs) (d := d) (P := P) (x1 := (y : Int)) (x2 := r) (x3 := x3) (x4 := (m : Int)) hF'
      simp only [e48, cmq, hM 340 (by decide), z_in1 (i := m) (by omega)] at g
      have h01 : x3 = 0 ∨ x3 = 1 := by rw [hx]; exact z_b_01
      by_cases hmn : m < i
      · have ih := ih hmn
        rw [hv m (by omega) (by omega)] at g
        have wr := Wr m (by omega) (by omega)
        by_cases hx0 : x3 = 0
        · refine g (fun q => by omega) (fun q => by omega) (fun _ _ => h01) (fun _ _ => ?_) (fun _ q => absurd hx0 q) (fun _ q => absurd hx0 q) (fun _ q => absurd hx0 q) (fun _ q => absurd hx0 q) (fun _ q => absurd hx0 q) (fun _ q => absurd hx0 q) (fun _ q => absurd hx0 q)
          rw [hx0, ← z_b_f (p := z_val i (z_cpr M) W) (fun w => by rw [z_b_t (fun f a b => w f a (by omega))] at hx; omega)]
          exact k M' hM (fun j a b => ⟨hv j a b, Wr j a b⟩)
        · have all : ∀ f : Int, 0 ≤ f → f < m → W f < 0 ∨ (W (W f) = f ∧ z_cpr M f (W f)) := Classical.byContradiction fun q => hx0 (by rw [hx, z_b_f q])
          have nx1 : (W m < 0 ∨ (W (W m) = m ∧ z_cpr M m (W m))) → wp xs (d + 2) mX10_layPairs 49 [(2, 321), (0, (y : Int)), (0, r), (0, 1), (0, ((m + 1 : Nat) : Int))] [] z_LL M' P := fun q => ih 1 (by
            rw [z_b_t]
            intro f a b
            by_cases e : f = m
            · rw [e]; exact q
            · exact all f a (by omega))
          have nx0 : ¬ (W m < 0 ∨ (W (W m) = m ∧ z_cpr M m (W m))) → wp xs (d + 2) mX10_layPairs 49 [(2, 321), (0, (y : Int)), (0, r), (0, 0), (0, ((m + 1 : Nat) : Int))] [] z_LL M' P := fun q => ih 0 (by
            rw [z_b_f]
            exact fun w => q (w m (by omega) (by omega)))
          have hww : ¬ W m < 0 → M' 346 (W m) = W (W m) := fun c => hv _ (by omega) (by omega)
          refine g (fun q => by omega) (fun q => by omega) (fun _ _ => h01) (fun _ q => absurd q hx0) (fun _ _ => by omega) (fun _ _ c => nx1 (Or.inl c)) (fun _ _ c => by omega) (fun _ _ c c2 => ?_) (fun _ _ c c2 => by omega) (fun _ _ c c2 c3 => ?_) (fun _ _ c c2 c3 => ?_)
          · rw [hww c] at c2
            exact nx0 (fun q => q.elim c (fun w => c2 w.1))
          · exact nx0 (fun q => q.elim c (fun w => c3 w.2.2))
          · rw [hww c] at c2
            exact nx1 (Or.inr ⟨Classical.byContradiction c2, ⟨⟨by omega, by omega⟩, c3⟩⟩)
      · obtain rfl : m = i := by omega
        refine g (fun _ => h01) (fun _ => ?_) (fun q => by omega) (fun q => by omega) (fun q => by omega) (fun q => by omega) (fun q => by omega) (fun q => by omega) (fun q => by omega) (fun q => by omega) (fun q => by omega)
        rw [hx]
        exact k M' hM (fun j a b => ⟨hv j a b, Wr j a b⟩)
    · have := Nat.mod_lt Q (show 0 < n + 1 by omega)
      rw [z_wid (x := (n : Int) - 1 - i + -1) (by omega), z_wid (x := ((Q % (n + 1) : Nat) : Int) - 1) (by omega), show (n : Int) - 1 - i + -1 = (n : Int) - 1 - ((i + 1 : Nat) : Int) by omega]
      refine ih (by omega) _ (fun q hq => by rw [z_upn hq, hM q hq]) (fun j a b => ?_)
      by_cases e : j = (n : Int) - 1 - i
      · rw [e, z_ups, hWi (by omega) (by omega)]
      · rw [z_upi e rfl]
        exact hv j (by omega) b
  have k0 := key M (fun _ _ => rfl) (fun j a b => by omega)
  rw [Nat.pow_zero, Nat.div_one, show (n : Int) - 1 - ((0 : Nat) : Int) = (n : Int) - 1 by omega] at k0
  refine gX10_layPairs_0 ?_
  rw [hn, z_wid (by omega)]
  exact k0
end
