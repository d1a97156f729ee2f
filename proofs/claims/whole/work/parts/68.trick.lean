/-! THE CALLS: trick -/
set_option maxRecDepth 20000 in
theorem gX0_leastSalt_0 {xs : List Int} {d : Nat} {M : z_M} {P : Option z_V → z_L → z_M → Prop} {a1 : Int} (ha1 : z_her M a1)
    (l1 : wp xs d mX0_mixEnough 0 [(2, 38), (2, a1), (0, 0), (0, 0), (3, 0), (3, 0), (3, 0)] [] z_LL M (fun r L1 M1 => wp xs (d + 1) mX0_leastSalt 7 [(2, 38), (2, a1), (3, 0)] (z_ol r ++ []) L1 M1 P)) :
    wp xs (d + 1) mX0_leastSalt 0 [(2, 38), (2, a1), (3, 0)] [] z_LL M P := by
  refine wp_run 4 (pc' := 4) (ls' := [(2, 38), (2, a1), (3, 0)]) (st' := [(0, 0), (0, 0), (2, a1), (2, 38)]) rfl ?_
  refine wp_callv (pc' := 7) (as := [(2, 38), (2, a1), (0, 0), (0, 0)]) (rest := []) (ls1 := [(2, 38), (2, a1), (0, 0), (0, 0), (3, 0), (3, 0), (3, 0)]) rfl rfl rfl rfl rfl rfl ?_
  exact l1
set_option maxRecDepth 20000 in
theorem gX0_leastSalt_7 {xs : List Int} {d : Nat} {M : z_M} {P : Option z_V → z_L → z_M → Prop} {x1 : Int} {s0 : Int} (hF : z_fix M) (hx1 : z_her M x1) (hg2 : z_gor M (M 34 3))
    (l1 : (s0 = 0) → wp xs d mX1_readsSalt 0 [(2, (M 34 3)), (3, 0)] [] z_LL M (fun r L1 M1 => wp xs (d + 1) mX0_leastSalt 22 [(2, 38), (2, x1), (3, 0)] (z_ol r ++ []) L1 M1 P))
    (l2 : (¬ (s0 = 0)) → P (some (0, 0)) z_LL M) :
    wp xs (d + 1) mX0_leastSalt 7 [(2, 38), (2, x1), (3, 0)] [(0, s0)] z_LL M P := by
  refine wp_if1 rfl rfl rfl (fun (c1 : s0 = 0) => ?_) (fun (c1 : ¬ (s0 = 0)) => ?_)
  · refine wp_run 1 (pc' := 13) (ls' := [(2, 38), (2, x1), (3, 0)]) (st' := [(2, 38)]) rfl ?_
    refine wp_gf (pc' := 16) (t := 2) (v := 34) rfl rfl (by decide) rfl rfl (fx_38_0 hF) ?_
    refine wp_gf (pc' := 19) (t := 2) (v := (M 34 3)) rfl rfl (by decide) rfl rfl rfl ?_
    refine wp_callv (pc' := 22) (as := [(2, (M 34 3))]) (rest := []) (ls1 := [(2, (M 34 3)), (3, 0)]) rfl rfl rfl rfl (z_args_v rfl rfl rfl rfl (Nat.le_of_ble_eq_true rfl) rfl (by decide) (z_gl0 hg2)) rfl ?_
    exact l1 c1
  · refine wp_run 1 (pc' := 11) (ls' := [(2, 38), (2, x1), (3, 0)]) (st' := [(0, 0)]) rfl ?_
    exact wp_ret rfl rfl (l2 c1)
set_option maxRecDepth 20000 in
theorem gX0_leastSalt_22 {xs : List Int} {d : Nat} {M : z_M} {P : Option z_V → z_L → z_M → Prop} {x1 : Int} {s0 : Int} (hF : z_fix M) (hx1 : z_her M x1)
    (l1 : (s0 ≠ 0) → wp xs d mX0_leastOne 0 [(2, 38), (2, x1), (0, (M 34 4)), (3, 0), (3, 0)] [] z_LL M (fun r L1 M1 => wp xs (d + 1) mX0_leastSalt 39 [(2, 38), (2, x1), (3, 0)] (z_ol r ++ []) L1 M1 P))
    (l2 : (¬ (s0 ≠ 0)) → P (some (0, (-1))) z_LL M) :
    wp xs (d + 1) mX0_leastSalt 22 [(2, 38), (2, x1), (3, 0)] [(0, s0)] z_LL M P := by
  refine wp_if1 rfl rfl rfl (fun (c1 : s0 ≠ 0) => ?_) (fun (c1 : ¬ (s0 ≠ 0)) => ?_)
  · refine wp_run 3 (pc' := 30) (ls' := [(2, 38), (2, x1), (3, 0)]) (st' := [(2, 38), (2, x1), (2, 38)]) rfl ?_
    refine wp_gf (pc' := 33) (t := 2) (v := 34) rfl rfl (by decide) rfl rfl (fx_38_0 hF) ?_
    refine wp_gf (pc' := 36) (t := 0) (v := (M 34 4)) rfl rfl (by decide) rfl rfl rfl ?_
    refine wp_callv (pc' := 39) (as := [(2, 38), (2, x1), (0, (M 34 4))]) (rest := []) (ls1 := [(2, 38), (2, x1), (0, (M 34 4)), (3, 0), (3, 0)]) rfl rfl rfl rfl rfl rfl ?_
    exact l1 c1
  · refine wp_run 1 (pc' := 26) (ls' := [(2, 38), (2, x1), (3, 0)]) (st' := [(0, (-1))]) rfl ?_
    exact wp_ret rfl rfl (l2 c1)
set_option maxRecDepth 20000 in
theorem gX0_leastSalt_39 {xs : List Int} {d : Nat} {M : z_M} {P : Option z_V → z_L → z_M → Prop} {x1 : Int} {s0 : Int} (hx1 : z_her M x1)
    (l1 : (s0 ≠ (-1)) → (s0 ≠ (-1)) → P (some (0, s0)) z_LL M)
    (l2 : (s0 ≠ (-1)) → (¬ (s0 ≠ (-1))) → wp xs d mX0_leastThree 0 [(2, 38), (2, x1), (3, 0), (3, 0), (3, 0), (3, 0)] [] z_LL M (fun r L1 M1 => wp xs (d + 1) mX0_leastSalt 61 [(2, 38), (2, x1), (0, s0)] (z_ol r ++ []) L1 M1 P))
    (l3 : (¬ (s0 ≠ (-1))) → wp xs d mX0_leastTwo 0 [(2, 38), (2, x1), (3, 0), (3, 0), (3, 0)] [] z_LL M (fun r L1 M1 => wp xs (d + 1) mX0_leastSalt 50 [(2, 38), (2, x1), (0, s0)] (z_ol r ++ []) L1 M1 P)) :
    wp xs (d + 1) mX0_leastSalt 39 [(2, 38), (2, x1), (3, 0)] [(0, s0)] z_LL M P := by
  refine wp_run 3 (pc' := 42) (ls' := [(2, 38), (2, x1), (0, s0)]) (st' := [(0, (-1)), (0, s0)]) rfl ?_
  refine wp_if2 rfl rfl rfl (fun (c1 : s0 ≠ (-1)) => ?_) (fun (c1 : ¬ (s0 ≠ (-1))) => ?_)
  · refine wp_run 2 (pc' := 53) (ls' := [(2, 38), (2, x1), (0, s0)]) (st' := [(0, (-1)), (0, s0)]) rfl ?_
    refine wp_if2 rfl rfl rfl (fun (c2 : s0 ≠ (-1)) => ?_) (fun (c2 : ¬ (s0 ≠ (-1))) => ?_)
    · refine wp_run 1 (pc' := 65) (ls' := [(2, 38), (2, x1), (0, s0)]) (st' := [(0, s0)]) rfl ?_
      exact wp_ret rfl rfl (l1 c1 c2)
    · refine wp_run 2 (pc' := 58) (ls' := [(2, 38), (2, x1), (0, s0)]) (st' := [(2, x1), (2, 38)]) rfl ?_
      refine wp_callv (pc' := 61) (as := [(2, 38), (2, x1)]) (rest := []) (ls1 := [(2, 38), (2, x1), (3, 0), (3, 0), (3, 0), (3, 0)]) rfl rfl rfl rfl rfl rfl ?_
      exact l2 c1 c2
  · refine wp_run 2 (pc' := 47) (ls' := [(2, 38), (2, x1), (0, s0)]) (st' := [(2, x1), (2, 38)]) rfl ?_
    refine wp_callv (pc' := 50) (as := [(2, 38), (2, x1)]) (rest := []) (ls1 := [(2, 38), (2, x1), (3, 0), (3, 0), (3, 0)]) rfl rfl rfl rfl rfl rfl ?_
    exact l3 c1
set_option maxRecDepth 20000 in
theorem gX0_leastSalt_50 {xs : List Int} {d : Nat} {M : z_M} {P : Option z_V → z_L → z_M → Prop} {x1 : Int} {x2 : Int} {s0 : Int} (hx1 : z_her M x1)
    (l1 : (s0 ≠ (-1)) → P (some (0, s0)) z_LL M)
    (l2 : (¬ (s0 ≠ (-1))) → wp xs d mX0_leastThree 0 [(2, 38), (2, x1), (3, 0), (3, 0), (3, 0), (3, 0)] [] z_LL M (fun r L1 M1 => wp xs (d + 1) mX0_leastSalt 61 [(2, 38), (2, x1), (0, s0)] (z_ol r ++ []) L1 M1 P)) :
    wp xs (d + 1) mX0_leastSalt 50 [(2, 38), (2, x1), (0, x2)] [(0, s0)] z_LL M P := by
  refine wp_run 3 (pc' := 53) (ls' := [(2, 38), (2, x1), (0, s0)]) (st' := [(0, (-1)), (0, s0)]) rfl ?_
  refine wp_if2 rfl rfl rfl (fun (c1 : s0 ≠ (-1)) => ?_) (fun (c1 : ¬ (s0 ≠ (-1))) => ?_)
  · refine wp_run 1 (pc' := 65) (ls' := [(2, 38), (2, x1), (0, s0)]) (st' := [(0, s0)]) rfl ?_
    exact wp_ret rfl rfl (l1 c1)
  · refine wp_run 2 (pc' := 58) (ls' := [(2, 38), (2, x1), (0, s0)]) (st' := [(2, x1), (2, 38)]) rfl ?_
    refine wp_callv (pc' := 61) (as := [(2, 38), (2, x1)]) (rest := []) (ls1 := [(2, 38), (2, x1), (3, 0), (3, 0), (3, 0), (3, 0)]) rfl rfl rfl rfl rfl rfl ?_
    exact l2 c1
set_option maxRecDepth 20000 in
theorem gX0_leastSalt_61 {xs : List Int} {d : Nat} {M : z_M} {P : Option z_V → z_L → z_M → Prop} {x1 : Int} {x2 : Int} {s0 : Int} (hx1 : z_her M x1)
    (l1 : P (some (0, s0)) z_LL M) :
    wp xs d mX0_leastSalt 61 [(2, 38), (2, x1), (0, x2)] [(0, s0)] z_LL M P := by
  refine wp_run 1 (pc' := 65) (ls' := [(2, 38), (2, x1), (0, x2)]) (st' := [(0, s0)]) rfl ?_
  exact wp_ret rfl rfl (l1)
set_option maxRecDepth 20000 in
theorem gX0_leastOne_0 {xs : List Int} {d : Nat} {M : z_M} {P : Option z_V → z_L → z_M → Prop} {a1 : Int} {a2 : Int} (ha1 : z_her M a1)
    (l1 : wp xs d mX0_leastOne 2 [(2, 38), (2, a1), (0, a2), (0, 0), (3, 0)] [] z_LL M P) :
    wp xs d mX0_leastOne 0 [(2, 38), (2, a1), (0, a2), (3, 0), (3, 0)] [] z_LL M P := by
  refine wp_run 2 (pc' := 2) (ls' := [(2, 38), (2, a1), (0, a2), (0, 0), (3, 0)]) (st' := []) rfl ?_
  exact l1
set_option maxRecDepth 20000 in
theorem gX0_leastOne_2 {xs : List Int} {d : Nat} {M : z_M} {P : Option z_V → z_L → z_M → Prop} {x1 : Int} {x2 : Int} {x3 : Int} {w4 : z_V} (hF : z_fix M) (hx1 : z_her M x1) (hg2 : z_gor M (M 34 3))
    (l1 : ((z_w ((M (M 34 3) 10) * (M (M 34 3) 11))) ≤ x3) → P (some (0, (-1))) z_LL M)
    (b1 : (¬ ((z_w ((M (M 34 3) 10) * (M (M 34 3) 11))) ≤ x3)) → 0 ≤ x3 ∧ x3 < 25)
    (b2 : (¬ ((z_w ((M (M 34 3) 10) * (M (M 34 3) 11))) ≤ x3)) → ((M (x1 + 4) x3) ≤ 0) → ((z_and (z_shr x2 x3) 1) = 0) → 0 ≤ (z_w ((z_w (x3 * 25)) + x3)) ∧ (z_w ((z_w (x3 * 25)) + x3)) < 625)
    (l2 : (¬ ((z_w ((M (M 34 3) 10) * (M (M 34 3) 11))) ≤ x3)) → ((M (x1 + 4) x3) ≤ 0) → ((z_and (z_shr x2 x3) 1) = 0) → wp xs (d + 1) mX0_leastOne 2 [(2, 38), (2, x1), (0, x2), (0, (z_w (x3 + 1))), (0, x2)] [] z_LL (z_up M 45 (z_w ((z_w (x3 * 25)) + x3)) x2) P)
    (l3 : (¬ ((z_w ((M (M 34 3) 10) * (M (M 34 3) 11))) ≤ x3)) → ((M (x1 + 4) x3) ≤ 0) → (¬ ((z_and (z_shr x2 x3) 1) = 0)) → wp xs d mX0_mixEnough 0 [(2, 38), (2, x1), (0, (z_shl 1 x3)), (0, 0), (3, 0), (3, 0), (3, 0)] [] z_LL M (fun r L1 M1 => wp xs (d + 1) mX0_leastOne 49 [(2, 38), (2, x1), (0, x2), (0, x3), (0, x2)] (z_ol r ++ []) L1 M1 P))
    (l4 : (¬ ((z_w ((M (M 34 3) 10) * (M (M 34 3) 11))) ≤ x3)) → (¬ ((M (x1 + 4) x3) ≤ 0)) → wp xs (d + 1) mX0_leastOne 2 [(2, 38), (2, x1), (0, x2), (0, (z_w (x3 + 1))), w4] [] z_LL M P) :
    wp xs (d + 1) mX0_leastOne 2 [(2, 38), (2, x1), (0, x2), (0, x3), w4] [] z_LL M P := by
  refine wp_run 2 (pc' := 4) (ls' := [(2, 38), (2, x1), (0, x2), (0, x3), w4]) (st' := [(2, 38), (0, x3)]) rfl ?_
  refine wp_gf (pc' := 7) (t := 2) (v := 34) rfl rfl (by decide) rfl rfl (fx_38_0 hF) ?_
  refine wp_gf (pc' := 10) (t := 2) (v := (M 34 3)) rfl rfl (by decide) rfl rfl rfl ?_
  refine wp_callv (pc' := 13) (as := [(2, (M 34 3))]) (rest := [(0, x3)]) (ls1 := [(2, (M 34 3))]) rfl rfl rfl rfl (z_args_v rfl rfl rfl rfl (Nat.le_of_ble_eq_true rfl) rfl (by decide) (z_gl0 hg2)) rfl ?_
  refine wp_run 1 (pc' := 1) (ls' := [(2, (M 34 3))]) (st' := [(2, (M 34 3))]) rfl ?_
  refine wp_gf (pc' := 4) (t := 0) (v := (M (M 34 3) 10)) rfl rfl (by decide) rfl (z_gl0 hg2) rfl ?_
  refine wp_run 1 (pc' := 5) (ls' := [(2, (M 34 3))]) (st' := [(2, (M 34 3)), (0, (M (M 34 3) 10))]) rfl ?_
  refine wp_gf (pc' := 8) (t := 0) (v := (M (M 34 3) 11)) rfl rfl (by decide) rfl (z_gl0 hg2) rfl ?_
  refine wp_run 1 (pc' := 9) (ls' := [(2, (M 34 3))]) (st' := [(0, (z_w ((M (M 34 3) 10) * (M (M 34 3) 11))))]) rfl ?_
  refine wp_ret rfl rfl ?_
  show wp xs _ mX0_leastOne 13 [(2, 38), (2, x1), (0, x2), (0, x3), w4] [(0, (z_w ((M (M 34 3) 10) * (M (M 34 3) 11)))), (0, x3)] z_LL M _
  refine wp_if2 rfl rfl rfl (fun (c1 : (z_w ((M (M 34 3) 10) * (M (M 34 3) 11))) ≤ x3) => ?_) (fun (c1 : ¬ ((z_w ((M (M 34 3) 10) * (M (M 34 3) 11))) ≤ x3)) => ?_)
  · refine wp_run 1 (pc' := 85) (ls' := [(2, 38), (2, x1), (0, x2), (0, x3), w4]) (st' := [(0, (-1))]) rfl ?_
    exact wp_ret rfl rfl (l1 c1)
  · refine wp_run 1 (pc' := 17) (ls' := [(2, 38), (2, x1), (0, x2), (0, x3), w4]) (st' := [(2, x1)]) rfl ?_
    refine wp_gf (pc' := 20) (t := 2) (v := (x1 + 4)) rfl rfl (by decide) rfl (z_hl0 hx1) (z_hf3 hx1) ?_
    refine wp_run 1 (pc' := 21) (ls' := [(2, 38), (2, x1), (0, x2), (0, x3), w4]) (st' := [(0, x3), (2, (x1 + 4))]) rfl ?_
    refine wp_iald (pc' := 22) (v := (M (x1 + 4) x3)) rfl rfl (z_hl4 hx1) (b1 c1) rfl ?_
    refine wp_if1 rfl rfl rfl (fun (c2 : (M (x1 + 4) x3) ≤ 0) => ?_) (fun (c2 : ¬ ((M (x1 + 4) x3) ≤ 0)) => ?_)
    · refine wp_run 7 (pc' := 37) (ls' := [(2, 38), (2, x1), (0, x2), (0, x3), (0, x2)]) (st' := [(0, (z_and (z_shr x2 x3) 1))]) rfl ?_
      refine wp_if1 rfl rfl rfl (fun (c3 : (z_and (z_shr x2 x3) 1) = 0) => ?_) (fun (c3 : ¬ ((z_and (z_shr x2 x3) 1) = 0)) => ?_)
      · refine wp_run 1 (pc' := 66) (ls' := [(2, 38), (2, x1), (0, x2), (0, x3), (0, x2)]) (st' := [(2, 38)]) rfl ?_
        refine wp_gf (pc' := 69) (t := 2) (v := 45) rfl rfl (by decide) rfl rfl (fx_38_2 hF) ?_
        refine wp_run 6 (pc' := 77) (ls' := [(2, 38), (2, x1), (0, x2), (0, x3), (0, x2)]) (st' := [(0, x2), (0, (z_w ((z_w (x3 * 25)) + x3))), (2, 45)]) rfl ?_
        refine wp_iast (pc' := 78) rfl rfl rfl (b2 c1 c2 c3) ?_
        refine wp_run 2 (pc' := 2) (ls' := [(2, 38), (2, x1), (0, x2), (0, (z_w (x3 + 1))), (0, x2)]) (st' := []) rfl ?_
        exact l2 c1 c2 c3
      · refine wp_run 6 (pc' := 46) (ls' := [(2, 38), (2, x1), (0, x2), (0, x3), (0, x2)]) (st' := [(0, 0), (0, (z_shl 1 x3)), (2, x1), (2, 38)]) rfl ?_
        refine wp_callv (pc' := 49) (as := [(2, 38), (2, x1), (0, (z_shl 1 x3)), (0, 0)]) (rest := []) (ls1 := [(2, 38), (2, x1), (0, (z_shl 1 x3)), (0, 0), (3, 0), (3, 0), (3, 0)]) rfl rfl rfl rfl rfl rfl ?_
        exact l3 c1 c2 c3
    · refine wp_run 3 (pc' := 2) (ls' := [(2, 38), (2, x1), (0, x2), (0, (z_w (x3 + 1))), w4]) (st' := []) rfl ?_
      exact l4 c1 c2
set_option maxRecDepth 20000 in
theorem gX0_leastOne_49 {xs : List Int} {d : Nat} {M : z_M} {P : Option z_V → z_L → z_M → Prop} {x1 : Int} {x2 : Int} {x3 : Int} {x4 : Int} {s0 : Int} (hF : z_fix M) (hx1 : z_her M x1)
    (b1 : (s0 = 0) → 0 ≤ (z_w ((z_w (x3 * 25)) + x3)) ∧ (z_w ((z_w (x3 * 25)) + x3)) < 625)
    (l1 : (s0 = 0) → wp xs d mX0_leastOne 2 [(2, 38), (2, x1), (0, x2), (0, (z_w (x3 + 1))), (0, (M 34 4))] [] z_LL (z_up M 45 (z_w ((z_w (x3 * 25)) + x3)) (M 34 4)) P)
    (l2 : (¬ (s0 = 0)) → P (some (0, (z_shl 1 x3))) z_LL M) :
    wp xs d mX0_leastOne 49 [(2, 38), (2, x1), (0, x2), (0, x3), (0, x4)] [(0, s0)] z_LL M P := by
  refine wp_if1 rfl rfl rfl (fun (c1 : s0 = 0) => ?_) (fun (c1 : ¬ (s0 = 0)) => ?_)
  · refine wp_run 1 (pc' := 57) (ls' := [(2, 38), (2, x1), (0, x2), (0, x3), (0, x4)]) (st' := [(2, 38)]) rfl ?_
    refine wp_gf (pc' := 60) (t := 2) (v := 34) rfl rfl (by decide) rfl rfl (fx_38_0 hF) ?_
    refine wp_gf (pc' := 63) (t := 0) (v := (M 34 4)) rfl rfl (by decide) rfl rfl rfl ?_
    refine wp_run 2 (pc' := 66) (ls' := [(2, 38), (2, x1), (0, x2), (0, x3), (0, (M 34 4))]) (st' := [(2, 38)]) rfl ?_
    refine wp_gf (pc' := 69) (t := 2) (v := 45) rfl rfl (by decide) rfl rfl (fx_38_2 hF) ?_
    refine wp_run 6 (pc' := 77) (ls' := [(2, 38), (2, x1), (0, x2), (0, x3), (0, (M 34 4))]) (st' := [(0, (M 34 4)), (0, (z_w ((z_w (x3 * 25)) + x3))), (2, 45)]) rfl ?_
    refine wp_iast (pc' := 78) rfl rfl rfl (b1 c1) ?_
    refine wp_run 2 (pc' := 2) (ls' := [(2, 38), (2, x1), (0, x2), (0, (z_w (x3 + 1))), (0, (M 34 4))]) (st' := []) rfl ?_
    exact l1 c1
  · refine wp_run 3 (pc' := 55) (ls' := [(2, 38), (2, x1), (0, x2), (0, x3), (0, x4)]) (st' := [(0, (z_shl 1 x3))]) rfl ?_
    exact wp_ret rfl rfl (l2 c1)
set_option maxRecDepth 20000 in
theorem gX0_leastTwo_0 {xs : List Int} {d : Nat} {M : z_M} {P : Option z_V → z_L → z_M → Prop} {a1 : Int} (ha1 : z_her M a1)
    (l1 : wp xs d mX0_leastTwo 2 [(2, 38), (2, a1), (0, 1), (3, 0), (3, 0)] [] z_LL M P) :
    wp xs d mX0_leastTwo 0 [(2, 38), (2, a1), (3, 0), (3, 0), (3, 0)] [] z_LL M P := by
  refine wp_run 2 (pc' := 2) (ls' := [(2, 38), (2, a1), (0, 1), (3, 0), (3, 0)]) (st' := []) rfl ?_
  exact l1
set_option maxRecDepth 20000 in
theorem gX0_leastTwo_2 {xs : List Int} {d : Nat} {M : z_M} {P : Option z_V → z_L → z_M → Prop} {x1 : Int} {x2 : Int} {w3 : z_V} {w4 : z_V} (hF : z_fix M) (hx1 : z_her M x1) (hg2 : z_gor M (M 34 3))
    (l1 : ((z_w ((M (M 34 3) 10) * (M (M 34 3) 11))) ≤ x2) → P (some (0, (-1))) z_LL M)
    (l2 : (¬ ((z_w ((M (M 34 3) 10) * (M (M 34 3) 11))) ≤ x2)) → wp xs (d + 1) mX0_leastTwo 18 [(2, 38), (2, x1), (0, x2), (0, 0), w4] [] z_LL M P) :
    wp xs (d + 1) mX0_leastTwo 2 [(2, 38), (2, x1), (0, x2), w3, w4] [] z_LL M P := by
  refine wp_run 2 (pc' := 4) (ls' := [(2, 38), (2, x1), (0, x2), w3, w4]) (st' := [(2, 38), (0, x2)]) rfl ?_
  refine wp_gf (pc' := 7) (t := 2) (v := 34) rfl rfl (by decide) rfl rfl (fx_38_0 hF) ?_
  refine wp_gf (pc' := 10) (t := 2) (v := (M 34 3)) rfl rfl (by decide) rfl rfl rfl ?_
  refine wp_callv (pc' := 13) (as := [(2, (M 34 3))]) (rest := [(0, x2)]) (ls1 := [(2, (M 34 3))]) rfl rfl rfl rfl (z_args_v rfl rfl rfl rfl (Nat.le_of_ble_eq_true rfl) rfl (by decide) (z_gl0 hg2)) rfl ?_
  refine wp_run 1 (pc' := 1) (ls' := [(2, (M 34 3))]) (st' := [(2, (M 34 3))]) rfl ?_
  refine wp_gf (pc' := 4) (t := 0) (v := (M (M 34 3) 10)) rfl rfl (by decide) rfl (z_gl0 hg2) rfl ?_
  refine wp_run 1 (pc' := 5) (ls' := [(2, (M 34 3))]) (st' := [(2, (M 34 3)), (0, (M (M 34 3) 10))]) rfl ?_
  refine wp_gf (pc' := 8) (t := 0) (v := (M (M 34 3) 11)) rfl rfl (by decide) rfl (z_gl0 hg2) rfl ?_
  refine wp_run 1 (pc' := 9) (ls' := [(2, (M 34 3))]) (st' := [(0, (z_w ((M (M 34 3) 10) * (M (M 34 3) 11))))]) rfl ?_
  refine wp_ret rfl rfl ?_
  show wp xs _ mX0_leastTwo 13 [(2, 38), (2, x1), (0, x2), w3, w4] [(0, (z_w ((M (M 34 3) 10) * (M (M 34 3) 11)))), (0, x2)] z_LL M _
  refine wp_if2 rfl rfl rfl (fun (c1 : (z_w ((M (M 34 3) 10) * (M (M 34 3) 11))) ≤ x2) => ?_) (fun (c1 : ¬ ((z_w ((M (M 34 3) 10) * (M (M 34 3) 11))) ≤ x2)) => ?_)
  · refine wp_run 1 (pc' := 147) (ls' := [(2, 38), (2, x1), (0, x2), w3, w4]) (st' := [(0, (-1))]) rfl ?_
    exact wp_ret rfl rfl (l1 c1)
  · refine wp_run 2 (pc' := 18) (ls' := [(2, 38), (2, x1), (0, x2), (0, 0), w4]) (st' := []) rfl ?_
    exact l2 c1
set_option maxRecDepth 20000 in
theorem gX0_leastTwo_18 {xs : List Int} {d : Nat} {M : z_M} {P : Option z_V → z_L → z_M → Prop} {x1 : Int} {x2 : Int} {x3 : Int} {w4 : z_V} (hF : z_fix M) (hx1 : z_her M x1)
    (l1 : (x2 ≤ x3) → wp xs (d + 1) mX0_leastTwo 2 [(2, 38), (2, x1), (0, (z_w (x2 + 1))), (0, x3), w4] [] z_LL M P)
    (b1 : (¬ (x2 ≤ x3)) → 0 ≤ x2 ∧ x2 < 25)
    (l2 : (¬ (x2 ≤ x3)) → (0 < (M (x1 + 4) x2)) → wp xs (d + 1) mX0_leastTwo 18 [(2, 38), (2, x1), (0, x2), (0, (z_w (x3 + 1))), w4] [] z_LL M P)
    (b2 : (¬ (x2 ≤ x3)) → (¬ (0 < (M (x1 + 4) x2))) → 0 ≤ x3 ∧ x3 < 25)
    (b3 : (¬ (x2 ≤ x3)) → (¬ (0 < (M (x1 + 4) x2))) → ((M (x1 + 4) x3) ≤ 0) → 0 ≤ (z_w ((z_w (x2 * 25)) + x2)) ∧ (z_w ((z_w (x2 * 25)) + x2)) < 625)
    (b4 : (¬ (x2 ≤ x3)) → (¬ (0 < (M (x1 + 4) x2))) → ((M (x1 + 4) x3) ≤ 0) → ((z_and (z_shr (M 45 (z_w ((z_w (x2 * 25)) + x2))) x3) 1) = 0) → 0 ≤ (z_w ((z_w (x2 * 25)) + x3)) ∧ (z_w ((z_w (x2 * 25)) + x3)) < 625)
    (l3 : (¬ (x2 ≤ x3)) → (¬ (0 < (M (x1 + 4) x2))) → ((M (x1 + 4) x3) ≤ 0) → ((z_and (z_shr (M 45 (z_w ((z_w (x2 * 25)) + x2))) x3) 1) = 0) → wp xs (d + 1) mX0_leastTwo 18 [(2, 38), (2, x1), (0, x2), (0, (z_w (x3 + 1))), (0, (M 45 (z_w ((z_w (x2 * 25)) + x2))))] [] z_LL (z_up M 45 (z_w ((z_w (x2 * 25)) + x3)) (M 45 (z_w ((z_w (x2 * 25)) + x2)))) P)
    (b5 : (¬ (x2 ≤ x3)) → (¬ (0 < (M (x1 + 4) x2))) → ((M (x1 + 4) x3) ≤ 0) → (¬ ((z_and (z_shr (M 45 (z_w ((z_w (x2 * 25)) + x2))) x3) 1) = 0)) → 0 ≤ (z_w ((z_w (x3 * 25)) + x3)) ∧ (z_w ((z_w (x3 * 25)) + x3)) < 625)
    (b6 : (¬ (x2 ≤ x3)) → (¬ (0 < (M (x1 + 4) x2))) → ((M (x1 + 4) x3) ≤ 0) → (¬ ((z_and (z_shr (M 45 (z_w ((z_w (x2 * 25)) + x2))) x3) 1) = 0)) → ((z_and (z_shr (M 45 (z_w ((z_w (x3 * 25)) + x3))) x2) 1) = 0) → 0 ≤ (z_w ((z_w (x2 * 25)) + x3)) ∧ (z_w ((z_w (x2 * 25)) + x3)) < 625)
    (l4 : (¬ (x2 ≤ x3)) → (¬ (0 < (M (x1 + 4) x2))) → ((M (x1 + 4) x3) ≤ 0) → (¬ ((z_and (z_shr (M 45 (z_w ((z_w (x2 * 25)) + x2))) x3) 1) = 0)) → ((z_and (z_shr (M 45 (z_w ((z_w (x3 * 25)) + x3))) x2) 1) = 0) → wp xs (d + 1) mX0_leastTwo 18 [(2, 38), (2, x1), (0, x2), (0, (z_w (x3 + 1))), (0, (M 45 (z_w ((z_w (x3 * 25)) + x3))))] [] z_LL (z_up M 45 (z_w ((z_w (x2 * 25)) + x3)) (M 45 (z_w ((z_w (x3 * 25)) + x3)))) P)
    (l5 : (¬ (x2 ≤ x3)) → (¬ (0 < (M (x1 + 4) x2))) → ((M (x1 + 4) x3) ≤ 0) → (¬ ((z_and (z_shr (M 45 (z_w ((z_w (x2 * 25)) + x2))) x3) 1) = 0)) → (¬ ((z_and (z_shr (M 45 (z_w ((z_w (x3 * 25)) + x3))) x2) 1) = 0)) → wp xs d mX0_mixEnough 0 [(2, 38), (2, x1), (0, (z_or (z_shl 1 x2) (z_shl 1 x3))), (0, 0), (3, 0), (3, 0), (3, 0)] [] z_LL M (fun r L1 M1 => wp xs (d + 1) mX0_leastTwo 101 [(2, 38), (2, x1), (0, x2), (0, x3), (0, (M 45 (z_w ((z_w (x3 * 25)) + x3))))] (z_ol r ++ []) L1 M1 P))
    (l6 : (¬ (x2 ≤ x3)) → (¬ (0 < (M (x1 + 4) x2))) → (¬ ((M (x1 + 4) x3) ≤ 0)) → wp xs (d + 1) mX0_leastTwo 18 [(2, 38), (2, x1), (0, x2), (0, (z_w (x3 + 1))), w4] [] z_LL M P) :
    wp xs (d + 1) mX0_leastTwo 18 [(2, 38), (2, x1), (0, x2), (0, x3), w4] [] z_LL M P := by
  refine wp_run 2 (pc' := 20) (ls' := [(2, 38), (2, x1), (0, x2), (0, x3), w4]) (st' := [(0, x2), (0, x3)]) rfl ?_
  refine wp_if2 rfl rfl rfl (fun (c1 : x2 ≤ x3) => ?_) (fun (c1 : ¬ (x2 ≤ x3)) => ?_)
  · refine wp_run 2 (pc' := 2) (ls' := [(2, 38), (2, x1), (0, (z_w (x2 + 1))), (0, x3), w4]) (st' := []) rfl ?_
    exact l1 c1
  · refine wp_run 1 (pc' := 24) (ls' := [(2, 38), (2, x1), (0, x2), (0, x3), w4]) (st' := [(2, x1)]) rfl ?_
    refine wp_gf (pc' := 27) (t := 2) (v := (x1 + 4)) rfl rfl (by decide) rfl (z_hl0 hx1) (z_hf3 hx1) ?_
    refine wp_run 1 (pc' := 28) (ls' := [(2, 38), (2, x1), (0, x2), (0, x3), w4]) (st' := [(0, x2), (2, (x1 + 4))]) rfl ?_
    refine wp_iald (pc' := 29) (v := (M (x1 + 4) x2)) rfl rfl (z_hl4 hx1) (b1 c1) rfl ?_
    refine wp_if1 rfl rfl rfl (fun (c2 : 0 < (M (x1 + 4) x2)) => ?_) (fun (c2 : ¬ (0 < (M (x1 + 4) x2))) => ?_)
    · refine wp_run 2 (pc' := 18) (ls' := [(2, 38), (2, x1), (0, x2), (0, (z_w (x3 + 1))), w4]) (st' := []) rfl ?_
      exact l2 c1 c2
    · refine wp_run 1 (pc' := 33) (ls' := [(2, 38), (2, x1), (0, x2), (0, x3), w4]) (st' := [(2, x1)]) rfl ?_
      refine wp_gf (pc' := 36) (t := 2) (v := (x1 + 4)) rfl rfl (by decide) rfl (z_hl0 hx1) (z_hf3 hx1) ?_
      refine wp_run 1 (pc' := 37) (ls' := [(2, 38), (2, x1), (0, x2), (0, x3), w4]) (st' := [(0, x3), (2, (x1 + 4))]) rfl ?_
      refine wp_iald (pc' := 38) (v := (M (x1 + 4) x3)) rfl rfl (z_hl4 hx1) (b2 c1 c2) rfl ?_
      refine wp_if1 rfl rfl rfl (fun (c3 : (M (x1 + 4) x3) ≤ 0) => ?_) (fun (c3 : ¬ ((M (x1 + 4) x3) ≤ 0)) => ?_)
      · refine wp_run 1 (pc' := 45) (ls' := [(2, 38), (2, x1), (0, x2), (0, x3), w4]) (st' := [(2, 38)]) rfl ?_
        refine wp_gf (pc' := 48) (t := 2) (v := 45) rfl rfl (by decide) rfl rfl (fx_38_2 hF) ?_
        refine wp_run 5 (pc' := 54) (ls' := [(2, 38), (2, x1), (0, x2), (0, x3), w4]) (st' := [(0, (z_w ((z_w (x2 * 25)) + x2))), (2, 45)]) rfl ?_
        refine wp_iald (pc' := 55) (v := (M 45 (z_w ((z_w (x2 * 25)) + x2)))) rfl rfl rfl (b3 c1 c2 c3) rfl ?_
        refine wp_run 6 (pc' := 63) (ls' := [(2, 38), (2, x1), (0, x2), (0, x3), (0, (M 45 (z_w ((z_w (x2 * 25)) + x2))))]) (st' := [(0, (z_and (z_shr (M 45 (z_w ((z_w (x2 * 25)) + x2))) x3) 1))]) rfl ?_
        refine wp_if1 rfl rfl rfl (fun (c4 : (z_and (z_shr (M 45 (z_w ((z_w (x2 * 25)) + x2))) x3) 1) = 0) => ?_) (fun (c4 : ¬ ((z_and (z_shr (M 45 (z_w ((z_w (x2 * 25)) + x2))) x3) 1) = 0)) => ?_)
        · refine wp_run 1 (pc' := 122) (ls' := [(2, 38), (2, x1), (0, x2), (0, x3), (0, (M 45 (z_w ((z_w (x2 * 25)) + x2))))]) (st' := [(2, 38)]) rfl ?_
          refine wp_gf (pc' := 125) (t := 2) (v := 45) rfl rfl (by decide) rfl rfl (fx_38_2 hF) ?_
          refine wp_run 6 (pc' := 133) (ls' := [(2, 38), (2, x1), (0, x2), (0, x3), (0, (M 45 (z_w ((z_w (x2 * 25)) + x2))))]) (st' := [(0, (M 45 (z_w ((z_w (x2 * 25)) + x2)))), (0, (z_w ((z_w (x2 * 25)) + x3))), (2, 45)]) rfl ?_
          refine wp_iast (pc' := 134) rfl rfl rfl (b4 c1 c2 c3 c4) ?_
          refine wp_run 2 (pc' := 18) (ls' := [(2, 38), (2, x1), (0, x2), (0, (z_w (x3 + 1))), (0, (M 45 (z_w ((z_w (x2 * 25)) + x2))))]) (st' := []) rfl ?_
          exact l3 c1 c2 c3 c4
        · refine wp_run 1 (pc' := 67) (ls' := [(2, 38), (2, x1), (0, x2), (0, x3), (0, (M 45 (z_w ((z_w (x2 * 25)) + x2))))]) (st' := [(2, 38)]) rfl ?_
          refine wp_gf (pc' := 70) (t := 2) (v := 45) rfl rfl (by decide) rfl rfl (fx_38_2 hF) ?_
          refine wp_run 5 (pc' := 76) (ls' := [(2, 38), (2, x1), (0, x2), (0, x3), (0, (M 45 (z_w ((z_w (x2 * 25)) + x2))))]) (st' := [(0, (z_w ((z_w (x3 * 25)) + x3))), (2, 45)]) rfl ?_
          refine wp_iald (pc' := 77) (v := (M 45 (z_w ((z_w (x3 * 25)) + x3)))) rfl rfl rfl (b5 c1 c2 c3 c4) rfl ?_
          refine wp_run 6 (pc' := 85) (ls' := [(2, 38), (2, x1), (0, x2), (0, x3), (0, (M 45 (z_w ((z_w (x3 * 25)) + x3))))]) (st' := [(0, (z_and (z_shr (M 45 (z_w ((z_w (x3 * 25)) + x3))) x2) 1))]) rfl ?_
          refine wp_if1 rfl rfl rfl (fun (c5 : (z_and (z_shr (M 45 (z_w ((z_w (x3 * 25)) + x3))) x2) 1) = 0) => ?_) (fun (c5 : ¬ ((z_and (z_shr (M 45 (z_w ((z_w (x3 * 25)) + x3))) x2) 1) = 0)) => ?_)
          · refine wp_run 1 (pc' := 122) (ls' := [(2, 38), (2, x1), (0, x2), (0, x3), (0, (M 45 (z_w ((z_w (x3 * 25)) + x3))))]) (st' := [(2, 38)]) rfl ?_
            refine wp_gf (pc' := 125) (t := 2) (v := 45) rfl rfl (by decide) rfl rfl (fx_38_2 hF) ?_
            refine wp_run 6 (pc' := 133) (ls' := [(2, 38), (2, x1), (0, x2), (0, x3), (0, (M 45 (z_w ((z_w (x3 * 25)) + x3))))]) (st' := [(0, (M 45 (z_w ((z_w (x3 * 25)) + x3)))), (0, (z_w ((z_w (x2 * 25)) + x3))), (2, 45)]) rfl ?_
            refine wp_iast (pc' := 134) rfl rfl rfl (b6 c1 c2 c3 c4 c5) ?_
            refine wp_run 2 (pc' := 18) (ls' := [(2, 38), (2, x1), (0, x2), (0, (z_w (x3 + 1))), (0, (M 45 (z_w ((z_w (x3 * 25)) + x3))))]) (st' := []) rfl ?_
            exact l4 c1 c2 c3 c4 c5
          · refine wp_run 10 (pc' := 98) (ls' := [(2, 38), (2, x1), (0, x2), (0, x3), (0, (M 45 (z_w ((z_w (x3 * 25)) + x3))))]) (st' := [(0, 0), (0, (z_or (z_shl 1 x2) (z_shl 1 x3))), (2, x1), (2, 38)]) rfl ?_
            refine wp_callv (pc' := 101) (as := [(2, 38), (2, x1), (0, (z_or (z_shl 1 x2) (z_shl 1 x3))), (0, 0)]) (rest := []) (ls1 := [(2, 38), (2, x1), (0, (z_or (z_shl 1 x2) (z_shl 1 x3))), (0, 0), (3, 0), (3, 0), (3, 0)]) rfl rfl rfl rfl rfl rfl ?_
            exact l5 c1 c2 c3 c4 c5
      · refine wp_run 3 (pc' := 18) (ls' := [(2, 38), (2, x1), (0, x2), (0, (z_w (x3 + 1))), w4]) (st' := []) rfl ?_
        exact l6 c1 c2 c3
set_option maxRecDepth 20000 in
theorem gX0_leastTwo_101 {xs : List Int} {d : Nat} {M : z_M} {P : Option z_V → z_L → z_M → Prop} {x1 : Int} {x2 : Int} {x3 : Int} {x4 : Int} {s0 : Int} (hF : z_fix M) (hx1 : z_her M x1)
    (b1 : (s0 = 0) → 0 ≤ (z_w ((z_w (x2 * 25)) + x3)) ∧ (z_w ((z_w (x2 * 25)) + x3)) < 625)
    (l1 : (s0 = 0) → wp xs d mX0_leastTwo 18 [(2, 38), (2, x1), (0, x2), (0, (z_w (x3 + 1))), (0, (M 34 4))] [] z_LL (z_up M 45 (z_w ((z_w (x2 * 25)) + x3)) (M 34 4)) P)
    (l2 : (¬ (s0 = 0)) → P (some (0, (z_or (z_shl 1 x2) (z_shl 1 x3)))) z_LL M) :
    wp xs d mX0_leastTwo 101 [(2, 38), (2, x1), (0, x2), (0, x3), (0, x4)] [(0, s0)] z_LL M P := by
  refine wp_if1 rfl rfl rfl (fun (c1 : s0 = 0) => ?_) (fun (c1 : ¬ (s0 = 0)) => ?_)
  · refine wp_run 1 (pc' := 113) (ls' := [(2, 38), (2, x1), (0, x2), (0, x3), (0, x4)]) (st' := [(2, 38)]) rfl ?_
    refine wp_gf (pc' := 116) (t := 2) (v := 34) rfl rfl (by decide) rfl rfl (fx_38_0 hF) ?_
    refine wp_gf (pc' := 119) (t := 0) (v := (M 34 4)) rfl rfl (by decide) rfl rfl rfl ?_
    refine wp_run 2 (pc' := 122) (ls' := [(2, 38), (2, x1), (0, x2), (0, x3), (0, (M 34 4))]) (st' := [(2, 38)]) rfl ?_
    refine wp_gf (pc' := 125) (t := 2) (v := 45) rfl rfl (by decide) rfl rfl (fx_38_2 hF) ?_
    refine wp_run 6 (pc' := 133) (ls' := [(2, 38), (2, x1), (0, x2), (0, x3), (0, (M 34 4))]) (st' := [(0, (M 34 4)), (0, (z_w ((z_w (x2 * 25)) + x3))), (2, 45)]) rfl ?_
    refine wp_iast (pc' := 134) rfl rfl rfl (b1 c1) ?_
    refine wp_run 2 (pc' := 18) (ls' := [(2, 38), (2, x1), (0, x2), (0, (z_w (x3 + 1))), (0, (M 34 4))]) (st' := []) rfl ?_
    exact l1 c1
  · refine wp_run 7 (pc' := 111) (ls' := [(2, 38), (2, x1), (0, x2), (0, x3), (0, x4)]) (st' := [(0, (z_or (z_shl 1 x2) (z_shl 1 x3)))]) rfl ?_
    exact wp_ret rfl rfl (l2 c1)
set_option maxRecDepth 20000 in
theorem gX0_leastThree_0 {xs : List Int} {d : Nat} {M : z_M} {P : Option z_V → z_L → z_M → Prop} {a1 : Int} (ha1 : z_her M a1)
    (l1 : wp xs d mX0_leastThree 2 [(2, 38), (2, a1), (0, 2), (3, 0), (3, 0), (3, 0)] [] z_LL M P) :
    wp xs d mX0_leastThree 0 [(2, 38), (2, a1), (3, 0), (3, 0), (3, 0), (3, 0)] [] z_LL M P := by
  refine wp_run 2 (pc' := 2) (ls' := [(2, 38), (2, a1), (0, 2), (3, 0), (3, 0), (3, 0)]) (st' := []) rfl ?_
  exact l1
set_option maxRecDepth 20000 in
theorem gX0_leastThree_2 {xs : List Int} {d : Nat} {M : z_M} {P : Option z_V → z_L → z_M → Prop} {x1 : Int} {x2 : Int} {w3 : z_V} {w4 : z_V} {w5 : z_V} (hF : z_fix M) (hx1 : z_her M x1) (hg2 : z_gor M (M 34 3))
    (l1 : ((z_w ((M (M 34 3) 10) * (M (M 34 3) 11))) ≤ x2) → P (some (0, (-1))) z_LL M)
    (l2 : (¬ ((z_w ((M (M 34 3) 10) * (M (M 34 3) 11))) ≤ x2)) → wp xs (d + 1) mX0_leastThree 18 [(2, 38), (2, x1), (0, x2), (0, 1), w4, w5] [] z_LL M P) :
    wp xs (d + 1) mX0_leastThree 2 [(2, 38), (2, x1), (0, x2), w3, w4, w5] [] z_LL M P := by
  refine wp_run 2 (pc' := 4) (ls' := [(2, 38), (2, x1), (0, x2), w3, w4, w5]) (st' := [(2, 38), (0, x2)]) rfl ?_
  refine wp_gf (pc' := 7) (t := 2) (v := 34) rfl rfl (by decide) rfl rfl (fx_38_0 hF) ?_
  refine wp_gf (pc' := 10) (t := 2) (v := (M 34 3)) rfl rfl (by decide) rfl rfl rfl ?_
  refine wp_callv (pc' := 13) (as := [(2, (M 34 3))]) (rest := [(0, x2)]) (ls1 := [(2, (M 34 3))]) rfl rfl rfl rfl (z_args_v rfl rfl rfl rfl (Nat.le_of_ble_eq_true rfl) rfl (by decide) (z_gl0 hg2)) rfl ?_
  refine wp_run 1 (pc' := 1) (ls' := [(2, (M 34 3))]) (st' := [(2, (M 34 3))]) rfl ?_
  refine wp_gf (pc' := 4) (t := 0) (v := (M (M 34 3) 10)) rfl rfl (by decide) rfl (z_gl0 hg2) rfl ?_
  refine wp_run 1 (pc' := 5) (ls' := [(2, (M 34 3))]) (st' := [(2, (M 34 3)), (0, (M (M 34 3) 10))]) rfl ?_
  refine wp_gf (pc' := 8) (t := 0) (v := (M (M 34 3) 11)) rfl rfl (by decide) rfl (z_gl0 hg2) rfl ?_
  refine wp_run 1 (pc' := 9) (ls' := [(2, (M 34 3))]) (st' := [(0, (z_w ((M (M 34 3) 10) * (M (M 34 3) 11))))]) rfl ?_
  refine wp_ret rfl rfl ?_
  show wp xs _ mX0_leastThree 13 [(2, 38), (2, x1), (0, x2), w3, w4, w5] [(0, (z_w ((M (M 34 3) 10) * (M (M 34 3) 11)))), (0, x2)] z_LL M _
  refine wp_if2 rfl rfl rfl (fun (c1 : (z_w ((M (M 34 3) 10) * (M (M 34 3) 11))) ≤ x2) => ?_) (fun (c1 : ¬ ((z_w ((M (M 34 3) 10) * (M (M 34 3) 11))) ≤ x2)) => ?_)
  · refine wp_run 1 (pc' := 121) (ls' := [(2, 38), (2, x1), (0, x2), w3, w4, w5]) (st' := [(0, (-1))]) rfl ?_
    exact wp_ret rfl rfl (l1 c1)
  · refine wp_run 2 (pc' := 18) (ls' := [(2, 38), (2, x1), (0, x2), (0, 1), w4, w5]) (st' := []) rfl ?_
    exact l2 c1
set_option maxRecDepth 20000 in
theorem gX0_leastThree_18 {xs : List Int} {d : Nat} {M : z_M} {P : Option z_V → z_L → z_M → Prop} {x1 : Int} {x2 : Int} {x3 : Int} {w4 : z_V} {w5 : z_V} (hx1 : z_her M x1)
    (l1 : (x2 ≤ x3) → wp xs d mX0_leastThree 2 [(2, 38), (2, x1), (0, (z_w (x2 + 1))), (0, x3), w4, w5] [] z_LL M P)
    (l2 : (¬ (x2 ≤ x3)) → wp xs d mX0_leastThree 26 [(2, 38), (2, x1), (0, x2), (0, x3), (0, 0), w5] [] z_LL M P) :
    wp xs d mX0_leastThree 18 [(2, 38), (2, x1), (0, x2), (0, x3), w4, w5] [] z_LL M P := by
  refine wp_run 2 (pc' := 20) (ls' := [(2, 38), (2, x1), (0, x2), (0, x3), w4, w5]) (st' := [(0, x2), (0, x3)]) rfl ?_
  refine wp_if2 rfl rfl rfl (fun (c1 : x2 ≤ x3) => ?_) (fun (c1 : ¬ (x2 ≤ x3)) => ?_)
  · refine wp_run 2 (pc' := 2) (ls' := [(2, 38), (2, x1), (0, (z_w (x2 + 1))), (0, x3), w4, w5]) (st' := []) rfl ?_
    exact l1 c1
  · refine wp_run 2 (pc' := 26) (ls' := [(2, 38), (2, x1), (0, x2), (0, x3), (0, 0), w5]) (st' := []) rfl ?_
    exact l2 c1
set_option maxRecDepth 20000 in
theorem gX0_leastThree_26 {xs : List Int} {d : Nat} {M : z_M} {P : Option z_V → z_L → z_M → Prop} {x1 : Int} {x2 : Int} {x3 : Int} {x4 : Int} {w5 : z_V} (hF : z_fix M) (hx1 : z_her M x1)
    (l1 : (x3 ≤ x4) → wp xs (d + 1) mX0_leastThree 18 [(2, 38), (2, x1), (0, x2), (0, (z_w (x3 + 1))), (0, x4), w5] [] z_LL M P)
    (b1 : (¬ (x3 ≤ x4)) → 0 ≤ x2 ∧ x2 < 25)
    (l2 : (¬ (x3 ≤ x4)) → (0 < (M (x1 + 4) x2)) → wp xs (d + 1) mX0_leastThree 26 [(2, 38), (2, x1), (0, x2), (0, x3), (0, (z_w (x4 + 1))), w5] [] z_LL M P)
    (b2 : (¬ (x3 ≤ x4)) → (¬ (0 < (M (x1 + 4) x2))) → 0 ≤ x3 ∧ x3 < 25)
    (l3 : (¬ (x3 ≤ x4)) → (¬ (0 < (M (x1 + 4) x2))) → (0 < (M (x1 + 4) x3)) → wp xs (d + 1) mX0_leastThree 26 [(2, 38), (2, x1), (0, x2), (0, x3), (0, (z_w (x4 + 1))), w5] [] z_LL M P)
    (b3 : (¬ (x3 ≤ x4)) → (¬ (0 < (M (x1 + 4) x2))) → (¬ (0 < (M (x1 + 4) x3))) → 0 ≤ x4 ∧ x4 < 25)
    (b4 : (¬ (x3 ≤ x4)) → (¬ (0 < (M (x1 + 4) x2))) → (¬ (0 < (M (x1 + 4) x3))) → ((M (x1 + 4) x4) ≤ 0) → 0 ≤ (z_w ((z_w (x2 * 25)) + x3)) ∧ (z_w ((z_w (x2 * 25)) + x3)) < 625)
    (l4 : (¬ (x3 ≤ x4)) → (¬ (0 < (M (x1 + 4) x2))) → (¬ (0 < (M (x1 + 4) x3))) → ((M (x1 + 4) x4) ≤ 0) → ((z_and (z_shr (M 45 (z_w ((z_w (x2 * 25)) + x3))) x4) 1) = 0) → wp xs (d + 1) mX0_leastThree 26 [(2, 38), (2, x1), (0, x2), (0, x3), (0, (z_w (x4 + 1))), (0, (z_or (z_or (z_shl 1 x2) (z_shl 1 x3)) (z_shl 1 x4)))] [] z_LL M P)
    (b5 : (¬ (x3 ≤ x4)) → (¬ (0 < (M (x1 + 4) x2))) → (¬ (0 < (M (x1 + 4) x3))) → ((M (x1 + 4) x4) ≤ 0) → (¬ ((z_and (z_shr (M 45 (z_w ((z_w (x2 * 25)) + x3))) x4) 1) = 0)) → 0 ≤ (z_w ((z_w (x2 * 25)) + x4)) ∧ (z_w ((z_w (x2 * 25)) + x4)) < 625)
    (l5 : (¬ (x3 ≤ x4)) → (¬ (0 < (M (x1 + 4) x2))) → (¬ (0 < (M (x1 + 4) x3))) → ((M (x1 + 4) x4) ≤ 0) → (¬ ((z_and (z_shr (M 45 (z_w ((z_w (x2 * 25)) + x3))) x4) 1) = 0)) → ((z_and (z_shr (M 45 (z_w ((z_w (x2 * 25)) + x4))) x3) 1) = 0) → wp xs (d + 1) mX0_leastThree 26 [(2, 38), (2, x1), (0, x2), (0, x3), (0, (z_w (x4 + 1))), (0, (z_or (z_or (z_shl 1 x2) (z_shl 1 x3)) (z_shl 1 x4)))] [] z_LL M P)
    (b6 : (¬ (x3 ≤ x4)) → (¬ (0 < (M (x1 + 4) x2))) → (¬ (0 < (M (x1 + 4) x3))) → ((M (x1 + 4) x4) ≤ 0) → (¬ ((z_and (z_shr (M 45 (z_w ((z_w (x2 * 25)) + x3))) x4) 1) = 0)) → (¬ ((z_and (z_shr (M 45 (z_w ((z_w (x2 * 25)) + x4))) x3) 1) = 0)) → 0 ≤ (z_w ((z_w (x3 * 25)) + x4)) ∧ (z_w ((z_w (x3 * 25)) + x4)) < 625)
    (l6 : (¬ (x3 ≤ x4)) → (¬ (0 < (M (x1 + 4) x2))) → (¬ (0 < (M (x1 + 4) x3))) → ((M (x1 + 4) x4) ≤ 0) → (¬ ((z_and (z_shr (M 45 (z_w ((z_w (x2 * 25)) + x3))) x4) 1) = 0)) → (¬ ((z_and (z_shr (M 45 (z_w ((z_w (x2 * 25)) + x4))) x3) 1) = 0)) → ((z_and (z_shr (M 45 (z_w ((z_w (x3 * 25)) + x4))) x2) 1) = 0) → wp xs (d + 1) mX0_leastThree 26 [(2, 38), (2, x1), (0, x2), (0, x3), (0, (z_w (x4 + 1))), (0, (z_or (z_or (z_shl 1 x2) (z_shl 1 x3)) (z_shl 1 x4)))] [] z_LL M P)
    (l7 : (¬ (x3 ≤ x4)) → (¬ (0 < (M (x1 + 4) x2))) → (¬ (0 < (M (x1 + 4) x3))) → ((M (x1 + 4) x4) ≤ 0) → (¬ ((z_and (z_shr (M 45 (z_w ((z_w (x2 * 25)) + x3))) x4) 1) = 0)) → (¬ ((z_and (z_shr (M 45 (z_w ((z_w (x2 * 25)) + x4))) x3) 1) = 0)) → (¬ ((z_and (z_shr (M 45 (z_w ((z_w (x3 * 25)) + x4))) x2) 1) = 0)) → wp xs d mX0_mixEnough 0 [(2, 38), (2, x1), (0, (z_or (z_or (z_shl 1 x2) (z_shl 1 x3)) (z_shl 1 x4))), (0, 0), (3, 0), (3, 0), (3, 0)] [] z_LL M (fun r L1 M1 => wp xs (d + 1) mX0_leastThree 96 [(2, 38), (2, x1), (0, x2), (0, x3), (0, x4), (0, (z_or (z_or (z_shl 1 x2) (z_shl 1 x3)) (z_shl 1 x4)))] (z_ol r ++ []) L1 M1 P))
    (l8 : (¬ (x3 ≤ x4)) → (¬ (0 < (M (x1 + 4) x2))) → (¬ (0 < (M (x1 + 4) x3))) → (¬ ((M (x1 + 4) x4) ≤ 0)) → wp xs (d + 1) mX0_leastThree 26 [(2, 38), (2, x1), (0, x2), (0, x3), (0, (z_w (x4 + 1))), w5] [] z_LL M P) :
    wp xs (d + 1) mX0_leastThree 26 [(2, 38), (2, x1), (0, x2), (0, x3), (0, x4), w5] [] z_LL M P := by
  refine wp_run 2 (pc' := 29) (ls' := [(2, 38), (2, x1), (0, x2), (0, x3), (0, x4), w5]) (st' := [(0, x3), (0, x4)]) rfl ?_
  refine wp_if2 rfl rfl rfl (fun (c1 : x3 ≤ x4) => ?_) (fun (c1 : ¬ (x3 ≤ x4)) => ?_)
  · refine wp_run 2 (pc' := 18) (ls' := [(2, 38), (2, x1), (0, x2), (0, (z_w (x3 + 1))), (0, x4), w5]) (st' := []) rfl ?_
    exact l1 c1
  · refine wp_run 1 (pc' := 33) (ls' := [(2, 38), (2, x1), (0, x2), (0, x3), (0, x4), w5]) (st' := [(2, x1)]) rfl ?_
    refine wp_gf (pc' := 36) (t := 2) (v := (x1 + 4)) rfl rfl (by decide) rfl (z_hl0 hx1) (z_hf3 hx1) ?_
    refine wp_run 1 (pc' := 37) (ls' := [(2, 38), (2, x1), (0, x2), (0, x3), (0, x4), w5]) (st' := [(0, x2), (2, (x1 + 4))]) rfl ?_
    refine wp_iald (pc' := 38) (v := (M (x1 + 4) x2)) rfl rfl (z_hl4 hx1) (b1 c1) rfl ?_
    refine wp_if1 rfl rfl rfl (fun (c2 : 0 < (M (x1 + 4) x2)) => ?_) (fun (c2 : ¬ (0 < (M (x1 + 4) x2))) => ?_)
    · refine wp_run 2 (pc' := 26) (ls' := [(2, 38), (2, x1), (0, x2), (0, x3), (0, (z_w (x4 + 1))), w5]) (st' := []) rfl ?_
      exact l2 c1 c2
    · refine wp_run 1 (pc' := 42) (ls' := [(2, 38), (2, x1), (0, x2), (0, x3), (0, x4), w5]) (st' := [(2, x1)]) rfl ?_
      refine wp_gf (pc' := 45) (t := 2) (v := (x1 + 4)) rfl rfl (by decide) rfl (z_hl0 hx1) (z_hf3 hx1) ?_
      refine wp_run 1 (pc' := 46) (ls' := [(2, 38), (2, x1), (0, x2), (0, x3), (0, x4), w5]) (st' := [(0, x3), (2, (x1 + 4))]) rfl ?_
      refine wp_iald (pc' := 47) (v := (M (x1 + 4) x3)) rfl rfl (z_hl4 hx1) (b2 c1 c2) rfl ?_
      refine wp_if1 rfl rfl rfl (fun (c3 : 0 < (M (x1 + 4) x3)) => ?_) (fun (c3 : ¬ (0 < (M (x1 + 4) x3))) => ?_)
      · refine wp_run 2 (pc' := 26) (ls' := [(2, 38), (2, x1), (0, x2), (0, x3), (0, (z_w (x4 + 1))), w5]) (st' := []) rfl ?_
        exact l3 c1 c2 c3
      · refine wp_run 1 (pc' := 51) (ls' := [(2, 38), (2, x1), (0, x2), (0, x3), (0, x4), w5]) (st' := [(2, x1)]) rfl ?_
        refine wp_gf (pc' := 54) (t := 2) (v := (x1 + 4)) rfl rfl (by decide) rfl (z_hl0 hx1) (z_hf3 hx1) ?_
        refine wp_run 1 (pc' := 56) (ls' := [(2, 38), (2, x1), (0, x2), (0, x3), (0, x4), w5]) (st' := [(0, x4), (2, (x1 + 4))]) rfl ?_
        refine wp_iald (pc' := 57) (v := (M (x1 + 4) x4)) rfl rfl (z_hl4 hx1) (b3 c1 c2 c3) rfl ?_
        refine wp_if1 rfl rfl rfl (fun (c4 : (M (x1 + 4) x4) ≤ 0) => ?_) (fun (c4 : ¬ ((M (x1 + 4) x4) ≤ 0)) => ?_)
        · refine wp_run 16 (pc' := 82) (ls' := [(2, 38), (2, x1), (0, x2), (0, x3), (0, x4), (0, (z_or (z_or (z_shl 1 x2) (z_shl 1 x3)) (z_shl 1 x4)))]) (st' := [(0, x4), (0, x3), (0, x2), (2, 38)]) rfl ?_
          refine wp_callv (pc' := 85) (as := [(2, 38), (0, x2), (0, x3), (0, x4)]) (rest := []) (ls1 := [(2, 38), (0, x2), (0, x3), (0, x4)]) rfl rfl rfl rfl rfl rfl ?_
          refine wp_run 1 (pc' := 1) (ls' := [(2, 38), (0, x2), (0, x3), (0, x4)]) (st' := [(2, 38)]) rfl ?_
          refine wp_gf (pc' := 4) (t := 2) (v := 45) rfl rfl (by decide) rfl rfl (fx_38_2 hF) ?_
          refine wp_run 5 (pc' := 10) (ls' := [(2, 38), (0, x2), (0, x3), (0, x4)]) (st' := [(0, (z_w ((z_w (x2 * 25)) + x3))), (2, 45)]) rfl ?_
          refine wp_iald (pc' := 11) (v := (M 45 (z_w ((z_w (x2 * 25)) + x3)))) rfl rfl rfl (b4 c1 c2 c3 c4) rfl ?_
          refine wp_run 4 (pc' := 15) (ls' := [(2, 38), (0, x2), (0, x3), (0, x4)]) (st' := [(0, (z_and (z_shr (M 45 (z_w ((z_w (x2 * 25)) + x3))) x4) 1))]) rfl ?_
          refine wp_if1 rfl rfl rfl (fun (c5 : (z_and (z_shr (M 45 (z_w ((z_w (x2 * 25)) + x3))) x4) 1) = 0) => ?_) (fun (c5 : ¬ ((z_and (z_shr (M 45 (z_w ((z_w (x2 * 25)) + x3))) x4) 1) = 0)) => ?_)
          · refine wp_run 1 (pc' := 59) (ls' := [(2, 38), (0, x2), (0, x3), (0, x4)]) (st' := [(0, 0)]) rfl ?_
            refine wp_ret rfl rfl ?_
            show wp xs _ mX0_leastThree 85 [(2, 38), (2, x1), (0, x2), (0, x3), (0, x4), (0, (z_or (z_or (z_shl 1 x2) (z_shl 1 x3)) (z_shl 1 x4)))] [(0, 0)] z_LL M _
            refine wp_run 3 (pc' := 26) (ls' := [(2, 38), (2, x1), (0, x2), (0, x3), (0, (z_w (x4 + 1))), (0, (z_or (z_or (z_shl 1 x2) (z_shl 1 x3)) (z_shl 1 x4)))]) (st' := []) rfl ?_
            exact l4 c1 c2 c3 c4 c5
          · refine wp_run 1 (pc' := 19) (ls' := [(2, 38), (0, x2), (0, x3), (0, x4)]) (st' := [(2, 38)]) rfl ?_
            refine wp_gf (pc' := 22) (t := 2) (v := 45) rfl rfl (by decide) rfl rfl (fx_38_2 hF) ?_
            refine wp_run 5 (pc' := 28) (ls' := [(2, 38), (0, x2), (0, x3), (0, x4)]) (st' := [(0, (z_w ((z_w (x2 * 25)) + x4))), (2, 45)]) rfl ?_
            refine wp_iald (pc' := 29) (v := (M 45 (z_w ((z_w (x2 * 25)) + x4)))) rfl rfl rfl (b5 c1 c2 c3 c4 c5) rfl ?_
            refine wp_run 4 (pc' := 33) (ls' := [(2, 38), (0, x2), (0, x3), (0, x4)]) (st' := [(0, (z_and (z_shr (M 45 (z_w ((z_w (x2 * 25)) + x4))) x3) 1))]) rfl ?_
            refine wp_if1 rfl rfl rfl (fun (c6 : (z_and (z_shr (M 45 (z_w ((z_w (x2 * 25)) + x4))) x3) 1) = 0) => ?_) (fun (c6 : ¬ ((z_and (z_shr (M 45 (z_w ((z_w (x2 * 25)) + x4))) x3) 1) = 0)) => ?_)
            · refine wp_run 1 (pc' := 59) (ls' := [(2, 38), (0, x2), (0, x3), (0, x4)]) (st' := [(0, 0)]) rfl ?_
              refine wp_ret rfl rfl ?_
              show wp xs _ mX0_leastThree 85 [(2, 38), (2, x1), (0, x2), (0, x3), (0, x4), (0, (z_or (z_or (z_shl 1 x2) (z_shl 1 x3)) (z_shl 1 x4)))] [(0, 0)] z_LL M _
              refine wp_run 3 (pc' := 26) (ls' := [(2, 38), (2, x1), (0, x2), (0, x3), (0, (z_w (x4 + 1))), (0, (z_or (z_or (z_shl 1 x2) (z_shl 1 x3)) (z_shl 1 x4)))]) (st' := []) rfl ?_
              exact l5 c1 c2 c3 c4 c5 c6
            · refine wp_run 1 (pc' := 37) (ls' := [(2, 38), (0, x2), (0, x3), (0, x4)]) (st' := [(2, 38)]) rfl ?_
              refine wp_gf (pc' := 40) (t := 2) (v := 45) rfl rfl (by decide) rfl rfl (fx_38_2 hF) ?_
              refine wp_run 5 (pc' := 46) (ls' := [(2, 38), (0, x2), (0, x3), (0, x4)]) (st' := [(0, (z_w ((z_w (x3 * 25)) + x4))), (2, 45)]) rfl ?_
              refine wp_iald (pc' := 47) (v := (M 45 (z_w ((z_w (x3 * 25)) + x4)))) rfl rfl rfl (b6 c1 c2 c3 c4 c5 c6) rfl ?_
              refine wp_run 4 (pc' := 51) (ls' := [(2, 38), (0, x2), (0, x3), (0, x4)]) (st' := [(0, (z_and (z_shr (M 45 (z_w ((z_w (x3 * 25)) + x4))) x2) 1))]) rfl ?_
              refine wp_if1 rfl rfl rfl (fun (c7 : (z_and (z_shr (M 45 (z_w ((z_w (x3 * 25)) + x4))) x2) 1) = 0) => ?_) (fun (c7 : ¬ ((z_and (z_shr (M 45 (z_w ((z_w (x3 * 25)) + x4))) x2) 1) = 0)) => ?_)
              · refine wp_run 1 (pc' := 59) (ls' := [(2, 38), (0, x2), (0, x3), (0, x4)]) (st' := [(0, 0)]) rfl ?_
                refine wp_ret rfl rfl ?_
                show wp xs _ mX0_leastThree 85 [(2, 38), (2, x1), (0, x2), (0, x3), (0, x4), (0, (z_or (z_or (z_shl 1 x2) (z_shl 1 x3)) (z_shl 1 x4)))] [(0, 0)] z_LL M _
                refine wp_run 3 (pc' := 26) (ls' := [(2, 38), (2, x1), (0, x2), (0, x3), (0, (z_w (x4 + 1))), (0, (z_or (z_or (z_shl 1 x2) (z_shl 1 x3)) (z_shl 1 x4)))]) (st' := []) rfl ?_
                exact l6 c1 c2 c3 c4 c5 c6 c7
              · refine wp_run 2 (pc' := 59) (ls' := [(2, 38), (0, x2), (0, x3), (0, x4)]) (st' := [(0, 1)]) rfl ?_
                refine wp_ret rfl rfl ?_
                show wp xs _ mX0_leastThree 85 [(2, 38), (2, x1), (0, x2), (0, x3), (0, x4), (0, (z_or (z_or (z_shl 1 x2) (z_shl 1 x3)) (z_shl 1 x4)))] [(0, 1)] z_LL M _
                refine wp_run 5 (pc' := 93) (ls' := [(2, 38), (2, x1), (0, x2), (0, x3), (0, x4), (0, (z_or (z_or (z_shl 1 x2) (z_shl 1 x3)) (z_shl 1 x4)))]) (st' := [(0, 0), (0, (z_or (z_or (z_shl 1 x2) (z_shl 1 x3)) (z_shl 1 x4))), (2, x1), (2, 38)]) rfl ?_
                refine wp_callv (pc' := 96) (as := [(2, 38), (2, x1), (0, (z_or (z_or (z_shl 1 x2) (z_shl 1 x3)) (z_shl 1 x4))), (0, 0)]) (rest := []) (ls1 := [(2, 38), (2, x1), (0, (z_or (z_or (z_shl 1 x2) (z_shl 1 x3)) (z_shl 1 x4))), (0, 0), (3, 0), (3, 0), (3, 0)]) rfl rfl rfl rfl rfl rfl ?_
                exact l7 c1 c2 c3 c4 c5 c6 c7
        · refine wp_run 3 (pc' := 26) (ls' := [(2, 38), (2, x1), (0, x2), (0, x3), (0, (z_w (x4 + 1))), w5]) (st' := []) rfl ?_
          exact l8 c1 c2 c3 c4
set_option maxRecDepth 20000 in
theorem gX0_leastThree_96 {xs : List Int} {d : Nat} {M : z_M} {P : Option z_V → z_L → z_M → Prop} {x1 : Int} {x2 : Int} {x3 : Int} {x4 : Int} {x5 : Int} {s0 : Int} (hx1 : z_her M x1)
    (l1 : (s0 = 0) → wp xs d mX0_leastThree 26 [(2, 38), (2, x1), (0, x2), (0, x3), (0, (z_w (x4 + 1))), (0, x5)] [] z_LL M P)
    (l2 : (¬ (s0 = 0)) → P (some (0, x5)) z_LL M) :
    wp xs d mX0_leastThree 96 [(2, 38), (2, x1), (0, x2), (0, x3), (0, x4), (0, x5)] [(0, s0)] z_LL M P := by
  refine wp_if1 rfl rfl rfl (fun (c1 : s0 = 0) => ?_) (fun (c1 : ¬ (s0 = 0)) => ?_)
  · refine wp_run 2 (pc' := 26) (ls' := [(2, 38), (2, x1), (0, x2), (0, x3), (0, (z_w (x4 + 1))), (0, x5)]) (st' := []) rfl ?_
    exact l1 c1
  · refine wp_run 1 (pc' := 101) (ls' := [(2, 38), (2, x1), (0, x2), (0, x3), (0, x4), (0, x5)]) (st' := [(0, x5)]) rfl ?_
    exact wp_ret rfl rfl (l2 c1)
set_option maxRecDepth 20000 in
theorem gX1_readsSalt_0 {xs : List Int} {d : Nat} {M : z_M} {P : Option z_V → z_L → z_M → Prop} {g : Int} (hg : z_gor M g)
    (l1 : wp xs d mX1_readsSalt 2 [(2, g), (0, 0)] [] z_LL M P) :
    wp xs d mX1_readsSalt 0 [(2, g), (3, 0)] [] z_LL M P := by
  refine wp_run 2 (pc' := 2) (ls' := [(2, g), (0, 0)]) (st' := []) rfl ?_
  exact l1
set_option maxRecDepth 20000 in
theorem gX1_readsSalt_2 {xs : List Int} {d : Nat} {M : z_M} {P : Option z_V → z_L → z_M → Prop} {x0 : Int} {x1 : Int} (hx0 : z_gor M x0)
    (l1 : ((M x0 15) ≤ x1) → ((M x0 15) ≠ 0) → P (some (0, 0)) z_LL M)
    (l2 : ((M x0 15) ≤ x1) → (¬ ((M x0 15) ≠ 0)) → P (some (0, 1)) z_LL M)
    (b1 : (¬ ((M x0 15) ≤ x1)) → 0 ≤ x1 ∧ x1 < 270)
    (l3 : (¬ ((M x0 15) ≤ x1)) → ((M (x0 + 8) x1) ≠ (-20)) → wp xs d mX1_readsSalt 2 [(2, x0), (0, (z_w (x1 + 1)))] [] z_LL M P)
    (l4 : (¬ ((M x0 15) ≤ x1)) → (¬ ((M (x0 + 8) x1) ≠ (-20))) → P (some (0, 1)) z_LL M) :
    wp xs d mX1_readsSalt 2 [(2, x0), (0, x1)] [] z_LL M P := by
  refine wp_run 2 (pc' := 4) (ls' := [(2, x0), (0, x1)]) (st' := [(2, x0), (0, x1)]) rfl ?_
  refine wp_gf (pc' := 7) (t := 0) (v := (M x0 15)) rfl rfl (by decide) rfl (z_gl0 hx0) rfl ?_
  refine wp_if2 rfl rfl rfl (fun (c1 : (M x0 15) ≤ x1) => ?_) (fun (c1 : ¬ ((M x0 15) ≤ x1)) => ?_)
  · refine wp_run 1 (pc' := 30) (ls' := [(2, x0), (0, x1)]) (st' := [(2, x0)]) rfl ?_
    refine wp_gf (pc' := 33) (t := 0) (v := (M x0 15)) rfl rfl (by decide) rfl (z_gl0 hx0) rfl ?_
    refine wp_if1 rfl rfl rfl (fun (c2 : (M x0 15) ≠ 0) => ?_) (fun (c2 : ¬ ((M x0 15) ≠ 0)) => ?_)
    · refine wp_run 1 (pc' := 41) (ls' := [(2, x0), (0, x1)]) (st' := [(0, 0)]) rfl ?_
      exact wp_ret rfl rfl (l1 c1 c2)
    · refine wp_run 2 (pc' := 41) (ls' := [(2, x0), (0, x1)]) (st' := [(0, 1)]) rfl ?_
      exact wp_ret rfl rfl (l2 c1 c2)
  · refine wp_run 1 (pc' := 11) (ls' := [(2, x0), (0, x1)]) (st' := [(2, x0)]) rfl ?_
    refine wp_gf (pc' := 14) (t := 2) (v := (x0 + 8)) rfl rfl (by decide) rfl (z_gl0 hx0) (z_gf7 hx0) ?_
    refine wp_run 1 (pc' := 15) (ls' := [(2, x0), (0, x1)]) (st' := [(0, x1), (2, (x0 + 8))]) rfl ?_
    refine wp_iald (pc' := 16) (v := (M (x0 + 8) x1)) rfl rfl (z_gl8 hx0) (b1 c1) rfl ?_
    refine wp_run 1 (pc' := 18) (ls' := [(2, x0), (0, x1)]) (st' := [(0, (-20)), (0, (M (x0 + 8) x1))]) rfl ?_
    refine wp_if2 rfl rfl rfl (fun (c3 : (M (x0 + 8) x1) ≠ (-20)) => ?_) (fun (c3 : ¬ ((M (x0 + 8) x1) ≠ (-20))) => ?_)
    · refine wp_run 2 (pc' := 2) (ls' := [(2, x0), (0, (z_w (x1 + 1)))]) (st' := []) rfl ?_
      exact l3 c1 c3
    · refine wp_run 1 (pc' := 22) (ls' := [(2, x0), (0, x1)]) (st' := [(0, 1)]) rfl ?_
      exact wp_ret rfl rfl (l4 c1 c3)
section
variable {xs : List Int} {d : Nat} {M : z_M}
theorem z_fr_no {F : Nat → Int} : ∀ {N : Nat}, (∀ i : Nat, i < N → F i = -1) → z_fr F N = -1
  | 0, _ => rfl
  | N + 1, h => by
    rw [z_fr_s (z_fr_no (fun i hi => h i (by omega)))]
    exact h N (by omega)
/-- what is asked for -/
def z_aq (M : z_M) (a b ev : Int) (days : Nat) : Prop := (M 38 4 = a ∧ M 38 5 = b ∧ M 38 6 = ev ∧ M 38 7 = days) ∧ (1 ≤ ev ∧ ev ≤ 9) ∧ days ≤ 20 ∧ (0 ≤ a ∧ a < M 321 48) ∧ (0 ≤ b ∧ b < M 321 48) ∧ a ≠ b
def z_tks (M : z_M) (a b ev : Int) (days : Nat) : Int → Int → Prop := z_tl M (18 + 6 * a + b) (M 342 (18 + 6 * a + b) + ev) days
def z_ttv (M : z_M) (a b ev : Int) (days : Nat) : Int → Prop := z_tv M (18 + 6 * a + b) (M 342 (18 + 6 * a + b) + ev) days
theorem z_trl2 {a b ev x y c : Int} {days : Nat} (hR : z_R M) (ha : 0 ≤ a ∧ a < M 321 48) (hb0 : 0 ≤ b ∧ b < M 321 48) (hb : ∀ i : Int, 0 ≤ i → i < 25 → (z_bt y i ↔ z_bt x i ∨ i = c)) (hl : ¬ z_tks M a b ev days x c) : z_tks M a b ev days y = z_tks M a b ev days x ∧ (z_ttv M a b ev days y ↔ z_ttv M a b ev days x) := by
  have hn := (z_R_C hR).2.2.1
  have := z_trl (k := 18 + 6 * a + b) (due := M 342 (18 + 6 * a + b) + ev) (days := days) (z_R_C hR) (z_R_S hR) (by omega) hb hl
  refine ⟨?_, this.2⟩
  funext i
  exact congrFun this.1 i
theorem s_trk {P : Option z_V → z_L → z_M → Prop} {M' : z_M} {a b ev x : Int} {days : Nat} (hR : z_R M) (f : z_sc M M') (e8 : M' 38 = M 38) (hq : z_aq M a b ev days) (kk : ∀ M2 : z_M, z_sc M M2 → M2 38 = M 38 → M2 45 = M' 45 → (∀ c : Int, 0 ≤ c → c < 25 → (z_bt (M2 34 4) c ↔ z_tks M a b ev days x c)) → P (some (0, z_b (z_ttv M a b ev days x))) z_LL M2) : wp xs (d + 5) mX0_mixEnough 0 [(2, 38), (2, M 1 2), (0, x), (0, 0), (3, 0), (3, 0), (3, 0)] [] z_LL M' P := by
  obtain ⟨⟨q4, q5, q6, q7⟩, qe, qd, qa, qb, qn⟩ := hq
  have hn := (z_R_C hR).2.2.1
  have hR' := z_sc_R f hR
  have e321 := z_sc_c f 321 (by unfold z_conf; omega)
  have e342 : M' 342 = M 342 := f.1 342 (by unfold z_sq; omega)
  have q1 : M' 1 = M 1 := f.1 1 (by unfold z_sq; omega)
  rw [← q1]
  refine s_X0_mixEnough (a := a) (b := b) (ev := ev) (days := days) (x := x) (y := 0) (t0 := M' 342) hR' qd qe (by rw [e8]; exact q4) (by rw [e8]; exact q5) (by rw [e8]; exact q6) (by rw [e8]; exact q7) (by rw [e321]; exact qa) (by rw [e321]; exact qb) qn (fun k _ => rfl) (z_R_S hR') (z_or0 (z_pens_oi (fun g h1 h2 => ((z_R_S hR').1 g h1 (by rw [e321] at h2 ⊢; omega)).2.1) (by rw [e321]; omega))) (fun M2 J f2 e38 e45 J1 J2 J3 l => ?_)
  simp only [e342, e321, z_dys_q (z_sc_c f), z_lkn_q e321] at J2 J3 l ⊢
  refine kk M2 (z_sc_t f f2) (by rw [e38, e8]) e45 (fun c c1 c2 => ?_)
  rw [l c c1 c2]
  constructor
  · rintro ⟨j, h1, h2⟩
    exact ⟨j, fun i hi => J3 i (by omega), h2⟩
  · rintro ⟨j, h1, h2⟩
    refine ⟨j, ?_, h2⟩
    by_cases w : j < J
    · exact w
    · exact absurd J2 (h1 J (by omega))
theorem z_sc_45 {i v : Int} : z_sc M (z_up M 45 i v) := ⟨fun q hq => z_upn (by unfold z_sq at hq; omega), fun j _ => by rw [z_upn (by decide)], fun j _ _ => ⟨by rw [z_upn (by decide)], by rw [z_upn (by decide)]⟩, fun j _ _ => by rw [z_upn (by decide)], fun k _ => by rw [z_upn (by decide)]⟩
theorem z_hsc {M' : z_M} (hR : z_R M) (f : z_sc M M') : z_her M' (M 1 2) := by
  have q1 : M' 1 = M 1 := f.1 1 (by unfold z_sq; omega)
  rw [← q1]
  exact (z_R_H (z_sc_R f hR)).1
theorem z_slt_at {M' : z_M} (hR : z_R M) (f : z_sc M M') {c : Int} (h : 0 ≤ c ∧ c < 25) : M' (M 1 2 + 4) c = M 342 (79 + c) := by
  have q1 : M' 1 = M 1 := f.1 1 (by unfold z_sq; omega)
  have e342 : M' 342 = M 342 := f.1 342 (by unfold z_sq; omega)
  have := ((z_R_H (z_sc_R f hR)).2.2.1 c h.1 h.2).2
  rw [q1, e342] at this
  exact this
theorem z_cls_at {M' : z_M} {N : Nat} (hR : z_R M) (f : z_sc M M') (hN : M 321 46 * M 321 47 = (N : Int)) : z_w (M' (M' 34 3) 10 * M' (M' 34 3) 11) = (N : Int) := by
  have hx := z_mc_cells (z_R_C hR)
  have G := (z_R_G (z_sc_R f hR)).2.1
  rw [G.1, G.2.1, z_sc_c f 321 (by unfold z_conf; omega), hN, z_wid (by omega)]
/-- what is looked at in the trials with one cell, with two -/
def z_i1 (M M' : z_M) (L : Int → Int → Prop) (N : Nat) : Prop := ∀ c : Nat, c < N → M 342 (79 + c) = 0 → ∀ k : Int, 0 ≤ k → k < 25 → (z_bt (M' 45 (25 * c + c)) k ↔ L (z_shl 1 c) k)
def z_i2 (M M' : z_M) (L : Int → Int → Prop) (h l : Nat) : Prop := ∀ h' l' : Nat, l' < h' → (h' < h ∨ (h' = h ∧ l' < l)) → M 342 (79 + h') = 0 → M 342 (79 + l') = 0 → ∀ k : Int, 0 ≤ k → k < 25 → (z_bt (M' 45 (25 * h' + l')) k ↔ L (z_or (z_shl 1 h') (z_shl 1 l')) k)
theorem s_X0_leastOne {P : Option z_V → z_L → z_M → Prop} {M1 : z_M} {a b ev x2 : Int} {days N : Nat} (hR : z_R M) (f1 : z_sc M M1) (e1 : M1 38 = M 38) (hq : z_aq M a b ev days) (hN : M 321 46 * M 321 47 = (N : Int)) (hl : ∀ c : Int, 0 ≤ c → c < 25 → (z_bt x2 c ↔ z_tks M a b ev days 0 c)) (h0 : ¬ z_ttv M a b ev days 0)
    (kk : ∀ M' : z_M, z_sc M M' → M' 38 = M 38 → (z_fr (z_tf1 M (z_ttv M a b ev days)) N = -1 → z_i1 M M' (z_tks M a b ev days) N) → P (some (0, z_fr (z_tf1 M (z_ttv M a b ev days)) N)) z_LL M') : wp xs (d + 6) mX0_leastOne 0 [(2, 38), (2, M 1 2), (0, x2), (3, 0), (3, 0)] [] z_LL M1 P := by
  have hx := z_mc_cells (z_R_C hR)
  have FL := fun c : Nat => z_trl2 (a := a) (b := b) (ev := ev) (days := days) (x := 0) (y := z_shl 1 c) (c := c) hR hq.2.2.2.1 hq.2.2.2.2.1
  have trk := fun (M' : z_M) (x : Int) (Q : Option z_V → z_L → z_M → Prop) => s_trk (xs := xs) (d := d) (P := Q) (M' := M') (x := x) hR (hq := hq)
  generalize z_tks M a b ev days = L at *
  generalize z_ttv M a b ev days = T at *
  refine gX0_leastOne_0 (z_hsc hR f1) ?_
  refine z_loop (W := fun i => ∀ (M' : z_M) (w4 : z_V), z_sc M M' → M' 38 = M 38 → z_fr (z_tf1 M T) i = -1 → z_i1 M M' L i → wp xs (d + 6) mX0_leastOne 2 [(2, 38), (2, M 1 2), (0, x2), (0, (i : Int)), w4] [] z_LL M' P) N (fun i hi ih M' w4 f e8 hF hI => ?_) M1 _ f1 e1 rfl (fun c hc => absurd hc (by omega))
  have g := gX0_leastOne_2 (M := M') (xs := xs) (d := d + 5) (P := P) (x1 := M 1 2) (x2 := x2) (x3 := (i : Int)) (w4 := w4) (z_R_F (z_sc_R f hR)) (z_hsc hR f) (z_R_G (z_sc_R f hR)).1
  rw [z_cls_at hR f hN, z_in1 (by omega), z_wid (x := (i : Int) * 25) (by omega), z_wid (x := (i : Int) * 25 + i) (by omega), show (i : Int) * 25 = 25 * i by omega] at g
  by_cases hlt : i < N
  · rw [z_slt_at hR f (by omega)] at g
    have sg := ((z_R_S hR).2.1 i (by omega) (by omega)).2.1.1
    have ih := ih hlt
    have ux : z_tf1 M T i = if M 342 (79 + i) = 0 then (@ite Int (T (z_shl 1 i)) (Classical.propDecidable _) (z_shl 1 i) (-1)) else -1 := by
      unfold z_tf1
      by_cases c : M 342 (79 + i) = 0
      · rw [if_pos c]
        by_cases c2 : T (z_shl 1 i)
        · rw [if_pos ⟨c, c2⟩, if_pos c2]
        · rw [if_neg (fun q => c2 q.2), if_neg c2]
      · rw [if_neg c, if_neg (fun q => c q.1)]
    have nxt : ∀ (M2 : z_M) (v : Int) (w4 : z_V), z_sc M M2 → M2 38 = M 38 → M2 45 = M' 45 → M 342 (79 + i) = 0 → ¬ T (z_shl 1 i) → (∀ k : Int, 0 ≤ k → k < 25 → (z_bt v k ↔ L (z_shl 1 i) k)) → wp xs (d + 6) mX0_leastOne 2 [(2, 38), (2, M 1 2), (0, x2), (0, ((i + 1 : Nat) : Int)), w4] [] z_LL (z_up M2 45 (25 * i + i) v) P := fun M2 v w4 f2 e82 e45 hf hT hb => by
      refine ih _ w4 (z_sc_t f2 z_sc_45) (by rw [z_upn (by decide)]; exact e82) ?_ (fun c hc hfc k k1 k2 => ?_)
      · rw [z_fr_s hF, ux, if_pos hf, if_neg hT]
      · by_cases e : c = i
        · rw [e, z_ups]
          exact hb k k1 k2
        · rw [z_upi (by omega) rfl, e45]
          exact hI c (by omega) hfc k k1 k2
    refine g (fun _ => by omega) (fun _ => by omega) (fun _ _ _ => by omega) (fun _ c c2 => ?_) (fun _ c c2 => ?_) (fun _ c => ?_)
    · have nb : ¬ z_bt x2 i := fun q => q c2
      have := FL i (fun k k1 k2 => by
        rw [z_x1 (by omega) ⟨k1, k2⟩]
        exact ⟨Or.inr, fun q => q.elim (fun w => absurd w (z_bt_0 (by omega))) id⟩) (fun q => nb ((hl i (by omega) (by omega)).mpr q))
      refine nxt M' x2 _ f e8 rfl (by omega) (fun q => h0 (this.2.mp q)) (fun k k1 k2 => ?_)
      rw [this.1]
      exact hl k k1 k2
    · refine trk M' _ _ f e8 (fun M2 f2 e82 e45 lb => ?_)
      have g2 := gX0_leastOne_49 (M := M2) (xs := xs) (d := d + 6) (P := P) (x1 := M 1 2) (x2 := x2) (x3 := (i : Int)) (x4 := x2) (s0 := z_b (T (z_shl 1 i))) (z_R_F (z_sc_R f2 hR)) (z_hsc hR f2)
      rw [z_in1 (by omega), z_wid (x := (i : Int) * 25) (by omega), z_wid (x := (i : Int) * 25 + i) (by omega), show (i : Int) * 25 = 25 * i by omega] at g2
      refine g2 (fun _ => by omega) (fun c3 => ?_) (fun c3 => ?_)
      · refine nxt M2 _ _ f2 e82 e45 (by omega) (fun q => by rw [z_b_t q] at c3; omega) lb
      · have hT : T (z_shl 1 i) := Classical.byContradiction fun q => c3 (z_b_f q)
        have v := z_x1v i (by omega)
        have ev : z_tf1 M T i = z_shl 1 i := by rw [ux, if_pos (by omega), if_pos hT]
        have e := z_fr_f (N := N) hF (by rw [ev]; omega) hlt
        rw [ev] at e
        have := kk M2 f2 e82 (fun q => by omega)
        rw [e] at this
        exact this
    · refine ih M' _ f e8 ?_ (fun c' hc hfc k k1 k2 => ?_)
      · rw [z_fr_s hF, ux, if_neg (by omega)]
      · exact hI c' (by
          have : c' ≠ i := fun e => by
            rw [e] at hfc
            omega
          omega) hfc k k1 k2
  · refine g (fun _ => ?_) (fun q => by omega) (fun q => by omega) (fun q => by omega) (fun q => by omega) (fun q => by omega)
    obtain rfl : i = N := by omega
    have := kk M' f e8 (fun _ => hI)
    rw [hF] at this
    exact this
end
