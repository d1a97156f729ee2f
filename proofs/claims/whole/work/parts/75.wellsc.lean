set_option maxRecDepth 20000 in
theorem gX9_wells_0 {xs : List Int} {d : Nat} {M : z_M} {P : Option z_V → z_L → z_M → Prop} 
    (l1 : wp xs d mX9_wells 2 [(2, 1), (0, 0), (3, 0)] [] z_LL M P) :
    wp xs d mX9_wells 0 [(2, 1), (3, 0), (3, 0)] [] z_LL M P := by
  refine wp_run 2 (pc' := 2) (ls' := [(2, 1), (0, 0), (3, 0)]) (st' := []) rfl ?_
  exact l1
set_option maxRecDepth 20000 in
theorem gX9_wells_2 {xs : List Int} {d : Nat} {M : z_M} {P : Option z_V → z_L → z_M → Prop} {x1 : Int} {w2 : z_V} (hg1 : z_gor M (M 1 0))
    (l1 : ((M (M 1 0) 12) ≤ x1) → wp xs d mX9_lostAtWells 0 [(2, 1), (3, 0), (3, 0), (3, 0), (3, 0), (3, 0)] [] z_LL (z_up M 1 13 (M (M 1 0) 12)) (fun r L1 M1 => wp xs (d + 1) mX9_wells 87 [(2, 1), (0, x1), w2] (z_ol r ++ []) L1 M1 P))
    (l2 : (¬ ((M (M 1 0) 12) ≤ x1)) → wp xs (d + 1) mX9_wells 15 [(2, 1), (0, x1), (0, x1)] [] z_LL M P) :
    wp xs (d + 1) mX9_wells 2 [(2, 1), (0, x1), w2] [] z_LL M P := by
  refine wp_run 2 (pc' := 4) (ls' := [(2, 1), (0, x1), w2]) (st' := [(2, 1), (0, x1)]) rfl ?_
  refine wp_gf (pc' := 7) (t := 2) (v := (M 1 0)) rfl rfl (by decide) rfl rfl rfl ?_
  refine wp_gf (pc' := 10) (t := 0) (v := (M (M 1 0) 12)) rfl rfl (by decide) rfl (z_gl0 hg1) rfl ?_
  refine wp_if2 rfl rfl rfl (fun (c1 : (M (M 1 0) 12) ≤ x1) => ?_) (fun (c1 : ¬ ((M (M 1 0) 12) ≤ x1)) => ?_)
  · refine wp_run 2 (pc' := 74) (ls' := [(2, 1), (0, x1), w2]) (st' := [(2, 1), (2, 1)]) rfl ?_
    refine wp_gf (pc' := 77) (t := 2) (v := (M 1 0)) rfl rfl (by decide) rfl rfl rfl ?_
    refine wp_gf (pc' := 80) (t := 0) (v := (M (M 1 0) 12)) rfl rfl (by decide) rfl (z_gl0 hg1) rfl ?_
    refine wp_pf (pc' := 83) rfl rfl rfl rfl (fun z => absurd z (by decide)) (fun z => absurd z (by decide)) ?_
    refine wp_run 1 (pc' := 84) (ls' := [(2, 1), (0, x1), w2]) (st' := [(2, 1)]) rfl ?_
    refine wp_callv (pc' := 87) (as := [(2, 1)]) (rest := []) (ls1 := [(2, 1), (3, 0), (3, 0), (3, 0), (3, 0), (3, 0)]) rfl rfl rfl rfl rfl rfl ?_
    exact l1 c1
  · refine wp_run 2 (pc' := 15) (ls' := [(2, 1), (0, x1), (0, x1)]) (st' := []) rfl ?_
    exact l2 c1
set_option maxRecDepth 20000 in
theorem gX9_wells_15 {xs : List Int} {d : Nat} {M : z_M} {P : Option z_V → z_L → z_M → Prop} {x1 : Int} {x2 : Int} (hF : z_fix M) (hh1 : z_her M (M 1 2)) (hg2 : z_gor M (M 1 0))
    (b1 : (x2 ≤ 0) → 0 ≤ x2 ∧ x2 < 6)
    (l1 : (x2 ≤ 0) → wp xs (d + 1) mX9_wells 2 [(2, 1), (0, (z_w (x1 + 1))), (0, x2)] [] z_LL (z_up M 302 x2 x1) P)
    (b2 : (¬ (x2 ≤ 0)) → 0 ≤ (z_w (x2 - 1)) ∧ (z_w (x2 - 1)) < 6)
    (b3 : (¬ (x2 ≤ 0)) → 0 ≤ (M 302 (z_w (x2 - 1))) ∧ (M 302 (z_w (x2 - 1))) < 6)
    (b4 : (¬ (x2 ≤ 0)) → ((M ((M 1 2) + 2) (M 302 (z_w (x2 - 1)))) ≠ (-1)) → 0 ≤ x1 ∧ x1 < 6)
    (b5 : (¬ (x2 ≤ 0)) → ((M ((M 1 2) + 2) (M 302 (z_w (x2 - 1)))) ≠ (-1)) → ((M ((M 1 2) + 2) x1) ≠ (-1)) → ((M ((M 1 0) + 3) (M 302 (z_w (x2 - 1)))) ≤ (M ((M 1 0) + 3) x1)) → 0 ≤ x2 ∧ x2 < 6)
    (l2 : (¬ (x2 ≤ 0)) → ((M ((M 1 2) + 2) (M 302 (z_w (x2 - 1)))) ≠ (-1)) → ((M ((M 1 2) + 2) x1) ≠ (-1)) → ((M ((M 1 0) + 3) (M 302 (z_w (x2 - 1)))) ≤ (M ((M 1 0) + 3) x1)) → wp xs (d + 1) mX9_wells 2 [(2, 1), (0, (z_w (x1 + 1))), (0, x2)] [] z_LL (z_up M 302 x2 x1) P)
    (b6 : (¬ (x2 ≤ 0)) → ((M ((M 1 2) + 2) (M 302 (z_w (x2 - 1)))) ≠ (-1)) → ((M ((M 1 2) + 2) x1) ≠ (-1)) → (¬ ((M ((M 1 0) + 3) (M 302 (z_w (x2 - 1)))) ≤ (M ((M 1 0) + 3) x1))) → 0 ≤ x2 ∧ x2 < 6)
    (l3 : (¬ (x2 ≤ 0)) → ((M ((M 1 2) + 2) (M 302 (z_w (x2 - 1)))) ≠ (-1)) → ((M ((M 1 2) + 2) x1) ≠ (-1)) → (¬ ((M ((M 1 0) + 3) (M 302 (z_w (x2 - 1)))) ≤ (M ((M 1 0) + 3) x1))) → wp xs (d + 1) mX9_wells 15 [(2, 1), (0, x1), (0, (z_w (x2 + (-1))))] [] z_LL (z_up M 302 x2 (M 302 (z_w (x2 - 1)))) P)
    (b7 : (¬ (x2 ≤ 0)) → ((M ((M 1 2) + 2) (M 302 (z_w (x2 - 1)))) ≠ (-1)) → (¬ ((M ((M 1 2) + 2) x1) ≠ (-1))) → ((M ((M 1 0) + 3) (M 302 (z_w (x2 - 1)))) ≤ 1) → 0 ≤ x2 ∧ x2 < 6)
    (l4 : (¬ (x2 ≤ 0)) → ((M ((M 1 2) + 2) (M 302 (z_w (x2 - 1)))) ≠ (-1)) → (¬ ((M ((M 1 2) + 2) x1) ≠ (-1))) → ((M ((M 1 0) + 3) (M 302 (z_w (x2 - 1)))) ≤ 1) → wp xs (d + 1) mX9_wells 2 [(2, 1), (0, (z_w (x1 + 1))), (0, x2)] [] z_LL (z_up M 302 x2 x1) P)
    (b8 : (¬ (x2 ≤ 0)) → ((M ((M 1 2) + 2) (M 302 (z_w (x2 - 1)))) ≠ (-1)) → (¬ ((M ((M 1 2) + 2) x1) ≠ (-1))) → (¬ ((M ((M 1 0) + 3) (M 302 (z_w (x2 - 1)))) ≤ 1)) → 0 ≤ x2 ∧ x2 < 6)
    (l5 : (¬ (x2 ≤ 0)) → ((M ((M 1 2) + 2) (M 302 (z_w (x2 - 1)))) ≠ (-1)) → (¬ ((M ((M 1 2) + 2) x1) ≠ (-1))) → (¬ ((M ((M 1 0) + 3) (M 302 (z_w (x2 - 1)))) ≤ 1)) → wp xs (d + 1) mX9_wells 15 [(2, 1), (0, x1), (0, (z_w (x2 + (-1))))] [] z_LL (z_up M 302 x2 (M 302 (z_w (x2 - 1)))) P)
    (b9 : (¬ (x2 ≤ 0)) → (¬ ((M ((M 1 2) + 2) (M 302 (z_w (x2 - 1)))) ≠ (-1))) → 0 ≤ x1 ∧ x1 < 6)
    (b10 : (¬ (x2 ≤ 0)) → (¬ ((M ((M 1 2) + 2) (M 302 (z_w (x2 - 1)))) ≠ (-1))) → ((M ((M 1 2) + 2) x1) ≠ (-1)) → (1 ≤ (M ((M 1 0) + 3) x1)) → 0 ≤ x2 ∧ x2 < 6)
    (l6 : (¬ (x2 ≤ 0)) → (¬ ((M ((M 1 2) + 2) (M 302 (z_w (x2 - 1)))) ≠ (-1))) → ((M ((M 1 2) + 2) x1) ≠ (-1)) → (1 ≤ (M ((M 1 0) + 3) x1)) → wp xs (d + 1) mX9_wells 2 [(2, 1), (0, (z_w (x1 + 1))), (0, x2)] [] z_LL (z_up M 302 x2 x1) P)
    (b11 : (¬ (x2 ≤ 0)) → (¬ ((M ((M 1 2) + 2) (M 302 (z_w (x2 - 1)))) ≠ (-1))) → ((M ((M 1 2) + 2) x1) ≠ (-1)) → (¬ (1 ≤ (M ((M 1 0) + 3) x1))) → 0 ≤ x2 ∧ x2 < 6)
    (l7 : (¬ (x2 ≤ 0)) → (¬ ((M ((M 1 2) + 2) (M 302 (z_w (x2 - 1)))) ≠ (-1))) → ((M ((M 1 2) + 2) x1) ≠ (-1)) → (¬ (1 ≤ (M ((M 1 0) + 3) x1))) → wp xs (d + 1) mX9_wells 15 [(2, 1), (0, x1), (0, (z_w (x2 + (-1))))] [] z_LL (z_up M 302 x2 (M 302 (z_w (x2 - 1)))) P)
    (b12 : (¬ (x2 ≤ 0)) → (¬ ((M ((M 1 2) + 2) (M 302 (z_w (x2 - 1)))) ≠ (-1))) → (¬ ((M ((M 1 2) + 2) x1) ≠ (-1))) → 0 ≤ x2 ∧ x2 < 6)
    (l8 : (¬ (x2 ≤ 0)) → (¬ ((M ((M 1 2) + 2) (M 302 (z_w (x2 - 1)))) ≠ (-1))) → (¬ ((M ((M 1 2) + 2) x1) ≠ (-1))) → wp xs (d + 1) mX9_wells 2 [(2, 1), (0, (z_w (x1 + 1))), (0, x2)] [] z_LL (z_up M 302 x2 x1) P) :
    wp xs (d + 1) mX9_wells 15 [(2, 1), (0, x1), (0, x2)] [] z_LL M P := by
  refine wp_run 1 (pc' := 16) (ls' := [(2, 1), (0, x1), (0, x2)]) (st' := [(0, x2)]) rfl ?_
  refine wp_if1 rfl rfl rfl (fun (c1 : x2 ≤ 0) => ?_) (fun (c1 : ¬ (x2 ≤ 0)) => ?_)
  · refine wp_run 1 (pc' := 60) (ls' := [(2, 1), (0, x1), (0, x2)]) (st' := [(2, 1)]) rfl ?_
    refine wp_gf (pc' := 63) (t := 2) (v := 302) rfl rfl (by decide) rfl rfl (fx_1_11 hF) ?_
    refine wp_run 2 (pc' := 65) (ls' := [(2, 1), (0, x1), (0, x2)]) (st' := [(0, x1), (0, x2), (2, 302)]) rfl ?_
    refine wp_iast (pc' := 66) rfl rfl rfl (b1 c1) ?_
    refine wp_run 2 (pc' := 2) (ls' := [(2, 1), (0, (z_w (x1 + 1))), (0, x2)]) (st' := []) rfl ?_
    exact l1 c1
  · refine wp_run 2 (pc' := 21) (ls' := [(2, 1), (0, x1), (0, x2)]) (st' := [(2, 1), (2, 1)]) rfl ?_
    refine wp_gf (pc' := 24) (t := 2) (v := 302) rfl rfl (by decide) rfl rfl (fx_1_11 hF) ?_
    refine wp_run 3 (pc' := 27) (ls' := [(2, 1), (0, x1), (0, x2)]) (st' := [(0, (z_w (x2 - 1))), (2, 302), (2, 1)]) rfl ?_
    refine wp_iald (pc' := 28) (v := (M 302 (z_w (x2 - 1)))) rfl rfl rfl (b2 c1) rfl ?_
    refine wp_callv (pc' := 31) (as := [(2, 1), (0, (M 302 (z_w (x2 - 1))))]) (rest := []) (ls1 := [(2, 1), (0, (M 302 (z_w (x2 - 1))))]) rfl rfl rfl rfl rfl rfl ?_
    refine wp_run 1 (pc' := 1) (ls' := [(2, 1), (0, (M 302 (z_w (x2 - 1))))]) (st' := [(2, 1)]) rfl ?_
    refine wp_gf (pc' := 4) (t := 2) (v := (M 1 2)) rfl rfl (by decide) rfl rfl rfl ?_
    refine wp_gf (pc' := 7) (t := 2) (v := ((M 1 2) + 2)) rfl rfl (by decide) rfl (z_hl0 hh1) (z_hf1 hh1) ?_
    refine wp_run 1 (pc' := 8) (ls' := [(2, 1), (0, (M 302 (z_w (x2 - 1))))]) (st' := [(0, (M 302 (z_w (x2 - 1)))), (2, ((M 1 2) + 2))]) rfl ?_
    refine wp_iald (pc' := 9) (v := (M ((M 1 2) + 2) (M 302 (z_w (x2 - 1))))) rfl rfl (z_hl2 hh1) (b3 c1) rfl ?_
    refine wp_run 1 (pc' := 10) (ls' := [(2, 1), (0, (M 302 (z_w (x2 - 1))))]) (st' := [(0, (-1)), (0, (M ((M 1 2) + 2) (M 302 (z_w (x2 - 1)))))]) rfl ?_
    refine wp_if2 rfl rfl rfl (fun (c2 : (M ((M 1 2) + 2) (M 302 (z_w (x2 - 1)))) ≠ (-1)) => ?_) (fun (c2 : ¬ ((M ((M 1 2) + 2) (M 302 (z_w (x2 - 1)))) ≠ (-1))) => ?_)
    · refine wp_run 1 (pc' := 18) (ls' := [(2, 1), (0, (M 302 (z_w (x2 - 1))))]) (st' := [(2, 1)]) rfl ?_
      refine wp_gf (pc' := 21) (t := 2) (v := (M 1 0)) rfl rfl (by decide) rfl rfl rfl ?_
      refine wp_gf (pc' := 24) (t := 2) (v := ((M 1 0) + 3)) rfl rfl (by decide) rfl (z_gl0 hg2) (z_gf2 hg2) ?_
      refine wp_run 1 (pc' := 25) (ls' := [(2, 1), (0, (M 302 (z_w (x2 - 1))))]) (st' := [(0, (M 302 (z_w (x2 - 1)))), (2, ((M 1 0) + 3))]) rfl ?_
      refine wp_iald (pc' := 26) (v := (M ((M 1 0) + 3) (M 302 (z_w (x2 - 1))))) rfl rfl (z_gl3 hg2) (b3 c1) rfl ?_
      refine wp_ret rfl rfl ?_
      show wp xs _ mX9_wells 31 [(2, 1), (0, x1), (0, x2)] [(0, (M ((M 1 0) + 3) (M 302 (z_w (x2 - 1)))))] z_LL M _
      refine wp_run 2 (pc' := 33) (ls' := [(2, 1), (0, x1), (0, x2)]) (st' := [(0, x1), (2, 1), (0, (M ((M 1 0) + 3) (M 302 (z_w (x2 - 1)))))]) rfl ?_
      refine wp_callv (pc' := 36) (as := [(2, 1), (0, x1)]) (rest := [(0, (M ((M 1 0) + 3) (M 302 (z_w (x2 - 1)))))]) (ls1 := [(2, 1), (0, x1)]) rfl rfl rfl rfl rfl rfl ?_
      refine wp_run 1 (pc' := 1) (ls' := [(2, 1), (0, x1)]) (st' := [(2, 1)]) rfl ?_
      refine wp_gf (pc' := 4) (t := 2) (v := (M 1 2)) rfl rfl (by decide) rfl rfl rfl ?_
      refine wp_gf (pc' := 7) (t := 2) (v := ((M 1 2) + 2)) rfl rfl (by decide) rfl (z_hl0 hh1) (z_hf1 hh1) ?_
      refine wp_run 1 (pc' := 8) (ls' := [(2, 1), (0, x1)]) (st' := [(0, x1), (2, ((M 1 2) + 2))]) rfl ?_
      refine wp_iald (pc' := 9) (v := (M ((M 1 2) + 2) x1)) rfl rfl (z_hl2 hh1) (b4 c1 c2) rfl ?_
      refine wp_run 1 (pc' := 10) (ls' := [(2, 1), (0, x1)]) (st' := [(0, (-1)), (0, (M ((M 1 2) + 2) x1))]) rfl ?_
      refine wp_if2 rfl rfl rfl (fun (c3 : (M ((M 1 2) + 2) x1) ≠ (-1)) => ?_) (fun (c3 : ¬ ((M ((M 1 2) + 2) x1) ≠ (-1))) => ?_)
      · refine wp_run 1 (pc' := 18) (ls' := [(2, 1), (0, x1)]) (st' := [(2, 1)]) rfl ?_
        refine wp_gf (pc' := 21) (t := 2) (v := (M 1 0)) rfl rfl (by decide) rfl rfl rfl ?_
        refine wp_gf (pc' := 24) (t := 2) (v := ((M 1 0) + 3)) rfl rfl (by decide) rfl (z_gl0 hg2) (z_gf2 hg2) ?_
        refine wp_run 1 (pc' := 25) (ls' := [(2, 1), (0, x1)]) (st' := [(0, x1), (2, ((M 1 0) + 3))]) rfl ?_
        refine wp_iald (pc' := 26) (v := (M ((M 1 0) + 3) x1)) rfl rfl (z_gl3 hg2) (b4 c1 c2) rfl ?_
        refine wp_ret rfl rfl ?_
        show wp xs _ mX9_wells 36 [(2, 1), (0, x1), (0, x2)] [(0, (M ((M 1 0) + 3) x1)), (0, (M ((M 1 0) + 3) (M 302 (z_w (x2 - 1)))))] z_LL M _
        refine wp_if2 rfl rfl rfl (fun (c4 : (M ((M 1 0) + 3) (M 302 (z_w (x2 - 1)))) ≤ (M ((M 1 0) + 3) x1)) => ?_) (fun (c4 : ¬ ((M ((M 1 0) + 3) (M 302 (z_w (x2 - 1)))) ≤ (M ((M 1 0) + 3) x1))) => ?_)
        · refine wp_run 1 (pc' := 60) (ls' := [(2, 1), (0, x1), (0, x2)]) (st' := [(2, 1)]) rfl ?_
          refine wp_gf (pc' := 63) (t := 2) (v := 302) rfl rfl (by decide) rfl rfl (fx_1_11 hF) ?_
          refine wp_run 2 (pc' := 65) (ls' := [(2, 1), (0, x1), (0, x2)]) (st' := [(0, x1), (0, x2), (2, 302)]) rfl ?_
          refine wp_iast (pc' := 66) rfl rfl rfl (b5 c1 c2 c3 c4) ?_
          refine wp_run 2 (pc' := 2) (ls' := [(2, 1), (0, (z_w (x1 + 1))), (0, x2)]) (st' := []) rfl ?_
          exact l2 c1 c2 c3 c4
        · refine wp_run 1 (pc' := 40) (ls' := [(2, 1), (0, x1), (0, x2)]) (st' := [(2, 1)]) rfl ?_
          refine wp_gf (pc' := 43) (t := 2) (v := 302) rfl rfl (by decide) rfl rfl (fx_1_11 hF) ?_
          refine wp_run 2 (pc' := 45) (ls' := [(2, 1), (0, x1), (0, x2)]) (st' := [(2, 1), (0, x2), (2, 302)]) rfl ?_
          refine wp_gf (pc' := 48) (t := 2) (v := 302) rfl rfl (by decide) rfl rfl (fx_1_11 hF) ?_
          refine wp_run 3 (pc' := 51) (ls' := [(2, 1), (0, x1), (0, x2)]) (st' := [(0, (z_w (x2 - 1))), (2, 302), (0, x2), (2, 302)]) rfl ?_
          refine wp_iald (pc' := 52) (v := (M 302 (z_w (x2 - 1)))) rfl rfl rfl (b2 c1) rfl ?_
          refine wp_iast (pc' := 53) rfl rfl rfl (b6 c1 c2 c3 c4) ?_
          refine wp_run 2 (pc' := 15) (ls' := [(2, 1), (0, x1), (0, (z_w (x2 + (-1))))]) (st' := []) rfl ?_
          exact l3 c1 c2 c3 c4
      · refine wp_run 2 (pc' := 26) (ls' := [(2, 1), (0, x1)]) (st' := [(0, 1)]) rfl ?_
        refine wp_ret rfl rfl ?_
        show wp xs _ mX9_wells 36 [(2, 1), (0, x1), (0, x2)] [(0, 1), (0, (M ((M 1 0) + 3) (M 302 (z_w (x2 - 1)))))] z_LL M _
        refine wp_if2 rfl rfl rfl (fun (c5 : (M ((M 1 0) + 3) (M 302 (z_w (x2 - 1)))) ≤ 1) => ?_) (fun (c5 : ¬ ((M ((M 1 0) + 3) (M 302 (z_w (x2 - 1)))) ≤ 1)) => ?_)
        · refine wp_run 1 (pc' := 60) (ls' := [(2, 1), (0, x1), (0, x2)]) (st' := [(2, 1)]) rfl ?_
          refine wp_gf (pc' := 63) (t := 2) (v := 302) rfl rfl (by decide) rfl rfl (fx_1_11 hF) ?_
          refine wp_run 2 (pc' := 65) (ls' := [(2, 1), (0, x1), (0, x2)]) (st' := [(0, x1), (0, x2), (2, 302)]) rfl ?_
          refine wp_iast (pc' := 66) rfl rfl rfl (b7 c1 c2 c3 c5) ?_
          refine wp_run 2 (pc' := 2) (ls' := [(2, 1), (0, (z_w (x1 + 1))), (0, x2)]) (st' := []) rfl ?_
          exact l4 c1 c2 c3 c5
        · refine wp_run 1 (pc' := 40) (ls' := [(2, 1), (0, x1), (0, x2)]) (st' := [(2, 1)]) rfl ?_
          refine wp_gf (pc' := 43) (t := 2) (v := 302) rfl rfl (by decide) rfl rfl (fx_1_11 hF) ?_
          refine wp_run 2 (pc' := 45) (ls' := [(2, 1), (0, x1), (0, x2)]) (st' := [(2, 1), (0, x2), (2, 302)]) rfl ?_
          refine wp_gf (pc' := 48) (t := 2) (v := 302) rfl rfl (by decide) rfl rfl (fx_1_11 hF) ?_
          refine wp_run 3 (pc' := 51) (ls' := [(2, 1), (0, x1), (0, x2)]) (st' := [(0, (z_w (x2 - 1))), (2, 302), (0, x2), (2, 302)]) rfl ?_
          refine wp_iald (pc' := 52) (v := (M 302 (z_w (x2 - 1)))) rfl rfl rfl (b2 c1) rfl ?_
          refine wp_iast (pc' := 53) rfl rfl rfl (b8 c1 c2 c3 c5) ?_
          refine wp_run 2 (pc' := 15) (ls' := [(2, 1), (0, x1), (0, (z_w (x2 + (-1))))]) (st' := []) rfl ?_
          exact l5 c1 c2 c3 c5
    · refine wp_run 2 (pc' := 26) (ls' := [(2, 1), (0, (M 302 (z_w (x2 - 1))))]) (st' := [(0, 1)]) rfl ?_
      refine wp_ret rfl rfl ?_
      show wp xs _ mX9_wells 31 [(2, 1), (0, x1), (0, x2)] [(0, 1)] z_LL M _
      refine wp_run 2 (pc' := 33) (ls' := [(2, 1), (0, x1), (0, x2)]) (st' := [(0, x1), (2, 1), (0, 1)]) rfl ?_
      refine wp_callv (pc' := 36) (as := [(2, 1), (0, x1)]) (rest := [(0, 1)]) (ls1 := [(2, 1), (0, x1)]) rfl rfl rfl rfl rfl rfl ?_
      refine wp_run 1 (pc' := 1) (ls' := [(2, 1), (0, x1)]) (st' := [(2, 1)]) rfl ?_
      refine wp_gf (pc' := 4) (t := 2) (v := (M 1 2)) rfl rfl (by decide) rfl rfl rfl ?_
      refine wp_gf (pc' := 7) (t := 2) (v := ((M 1 2) + 2)) rfl rfl (by decide) rfl (z_hl0 hh1) (z_hf1 hh1) ?_
      refine wp_run 1 (pc' := 8) (ls' := [(2, 1), (0, x1)]) (st' := [(0, x1), (2, ((M 1 2) + 2))]) rfl ?_
      refine wp_iald (pc' := 9) (v := (M ((M 1 2) + 2) x1)) rfl rfl (z_hl2 hh1) (b9 c1 c2) rfl ?_
      refine wp_run 1 (pc' := 10) (ls' := [(2, 1), (0, x1)]) (st' := [(0, (-1)), (0, (M ((M 1 2) + 2) x1))]) rfl ?_
      refine wp_if2 rfl rfl rfl (fun (c6 : (M ((M 1 2) + 2) x1) ≠ (-1)) => ?_) (fun (c6 : ¬ ((M ((M 1 2) + 2) x1) ≠ (-1))) => ?_)
      · refine wp_run 1 (pc' := 18) (ls' := [(2, 1), (0, x1)]) (st' := [(2, 1)]) rfl ?_
        refine wp_gf (pc' := 21) (t := 2) (v := (M 1 0)) rfl rfl (by decide) rfl rfl rfl ?_
        refine wp_gf (pc' := 24) (t := 2) (v := ((M 1 0) + 3)) rfl rfl (by decide) rfl (z_gl0 hg2) (z_gf2 hg2) ?_
        refine wp_run 1 (pc' := 25) (ls' := [(2, 1), (0, x1)]) (st' := [(0, x1), (2, ((M 1 0) + 3))]) rfl ?_
        refine wp_iald (pc' := 26) (v := (M ((M 1 0) + 3) x1)) rfl rfl (z_gl3 hg2) (b9 c1 c2) rfl ?_
        refine wp_ret rfl rfl ?_
        show wp xs _ mX9_wells 36 [(2, 1), (0, x1), (0, x2)] [(0, (M ((M 1 0) + 3) x1)), (0, 1)] z_LL M _
        refine wp_if2 rfl rfl rfl (fun (c7 : 1 ≤ (M ((M 1 0) + 3) x1)) => ?_) (fun (c7 : ¬ (1 ≤ (M ((M 1 0) + 3) x1))) => ?_)
        · refine wp_run 1 (pc' := 60) (ls' := [(2, 1), (0, x1), (0, x2)]) (st' := [(2, 1)]) rfl ?_
          refine wp_gf (pc' := 63) (t := 2) (v := 302) rfl rfl (by decide) rfl rfl (fx_1_11 hF) ?_
          refine wp_run 2 (pc' := 65) (ls' := [(2, 1), (0, x1), (0, x2)]) (st' := [(0, x1), (0, x2), (2, 302)]) rfl ?_
          refine wp_iast (pc' := 66) rfl rfl rfl (b10 c1 c2 c6 c7) ?_
          refine wp_run 2 (pc' := 2) (ls' := [(2, 1), (0, (z_w (x1 + 1))), (0, x2)]) (st' := []) rfl ?_
          exact l6 c1 c2 c6 c7
        · refine wp_run 1 (pc' := 40) (ls' := [(2, 1), (0, x1), (0, x2)]) (st' := [(2, 1)]) rfl ?_
          refine wp_gf (pc' := 43) (t := 2) (v := 302) rfl rfl (by decide) rfl rfl (fx_1_11 hF) ?_
          refine wp_run 2 (pc' := 45) (ls' := [(2, 1), (0, x1), (0, x2)]) (st' := [(2, 1), (0, x2), (2, 302)]) rfl ?_
          refine wp_gf (pc' := 48) (t := 2) (v := 302) rfl rfl (by decide) rfl rfl (fx_1_11 hF) ?_
          refine wp_run 3 (pc' := 51) (ls' := [(2, 1), (0, x1), (0, x2)]) (st' := [(0, (z_w (x2 - 1))), (2, 302), (0, x2), (2, 302)]) rfl ?_
          refine wp_iald (pc' := 52) (v := (M 302 (z_w (x2 - 1)))) rfl rfl rfl (b2 c1) rfl ?_
          refine wp_iast (pc' := 53) rfl rfl rfl (b11 c1 c2 c6 c7) ?_
          refine wp_run 2 (pc' := 15) (ls' := [(2, 1), (0, x1), (0, (z_w (x2 + (-1))))]) (st' := []) rfl ?_
          exact l7 c1 c2 c6 c7
      · refine wp_run 2 (pc' := 26) (ls' := [(2, 1), (0, x1)]) (st' := [(0, 1)]) rfl ?_
        refine wp_ret rfl rfl ?_
        show wp xs _ mX9_wells 36 [(2, 1), (0, x1), (0, x2)] [(0, 1), (0, 1)] z_LL M _
        refine wp_run 2 (pc' := 60) (ls' := [(2, 1), (0, x1), (0, x2)]) (st' := [(2, 1)]) rfl ?_
        refine wp_gf (pc' := 63) (t := 2) (v := 302) rfl rfl (by decide) rfl rfl (fx_1_11 hF) ?_
        refine wp_run 2 (pc' := 65) (ls' := [(2, 1), (0, x1), (0, x2)]) (st' := [(0, x1), (0, x2), (2, 302)]) rfl ?_
        refine wp_iast (pc' := 66) rfl rfl rfl (b12 c1 c2 c6) ?_
        refine wp_run 2 (pc' := 2) (ls' := [(2, 1), (0, (z_w (x1 + 1))), (0, x2)]) (st' := []) rfl ?_
        exact l8 c1 c2 c6
set_option maxRecDepth 20000 in
theorem gX9_wells_87 {xs : List Int} {d : Nat} {M : z_M} {P : Option z_V → z_L → z_M → Prop} {x1 : Int} {w2 : z_V} {s0 : Int} 
    (l1 : P (some (0, s0)) z_LL M) :
    wp xs d mX9_wells 87 [(2, 1), (0, x1), w2] [(0, s0)] z_LL M P := by
  exact wp_ret rfl rfl (l1)
set_option maxRecDepth 20000 in
theorem gX9_lostAtWells_0 {xs : List Int} {d : Nat} {M : z_M} {P : Option z_V → z_L → z_M → Prop} 
    (l1 : wp xs d mX9_lostAtWells 6 [(2, 1), (0, 0), (0, 0), (0, 0), (3, 0), (3, 0)] [] z_LL M P) :
    wp xs d mX9_lostAtWells 0 [(2, 1), (3, 0), (3, 0), (3, 0), (3, 0), (3, 0)] [] z_LL M P := by
  refine wp_run 6 (pc' := 6) (ls' := [(2, 1), (0, 0), (0, 0), (0, 0), (3, 0), (3, 0)]) (st' := []) rfl ?_
  exact l1
set_option maxRecDepth 20000 in
theorem gX9_lostAtWells_6 {xs : List Int} {d : Nat} {M : z_M} {P : Option z_V → z_L → z_M → Prop} {x1 : Int} {x2 : Int} {x3 : Int} {w4 : z_V} {w5 : z_V} (hF : z_fix M) (hg1 : z_gor M (M 1 0)) (hh2 : z_her M (M 1 2))
    (l1 : ((M 1 13) ≤ x3) → P (some (0, x2)) z_LL M)
    (b1 : (¬ ((M 1 13) ≤ x3)) → 0 ≤ x3 ∧ x3 < 6)
    (b2 : (¬ ((M 1 13) ≤ x3)) → 0 ≤ (M 302 x3) ∧ (M 302 x3) < 6)
    (l2 : (¬ ((M 1 13) ≤ x3)) → ((M ((M 1 2) + 2) (M 302 x3)) ≠ (-1)) → wp xs d mX9_lostAtWells 6 [(2, 1), (0, (z_w (x1 + (M ((M 1 0) + 3) (M 302 x3))))), (0, (z_w (x2 + (z_w (x1 * 1))))), (0, (z_w (x3 + 1))), (0, (M 302 x3)), (0, (M ((M 1 0) + 3) (M 302 x3)))] [] z_LL M P)
    (l3 : (¬ ((M 1 13) ≤ x3)) → (¬ ((M ((M 1 2) + 2) (M 302 x3)) ≠ (-1))) → wp xs d mX9_lostAtWells 6 [(2, 1), (0, (z_w (x1 + (M ((M 1 0) + 3) (M 302 x3))))), (0, (z_w (x2 + (z_w (x1 * (M ((M 1 0) + 3) (M 302 x3))))))), (0, (z_w (x3 + 1))), (0, (M 302 x3)), (0, (M ((M 1 0) + 3) (M 302 x3)))] [] z_LL M P) :
    wp xs d mX9_lostAtWells 6 [(2, 1), (0, x1), (0, x2), (0, x3), w4, w5] [] z_LL M P := by
  refine wp_run 2 (pc' := 8) (ls' := [(2, 1), (0, x1), (0, x2), (0, x3), w4, w5]) (st' := [(2, 1), (0, x3)]) rfl ?_
  refine wp_gf (pc' := 11) (t := 0) (v := (M 1 13)) rfl rfl (by decide) rfl rfl rfl ?_
  refine wp_if2 rfl rfl rfl (fun (c1 : (M 1 13) ≤ x3) => ?_) (fun (c1 : ¬ ((M 1 13) ≤ x3)) => ?_)
  · refine wp_run 1 (pc' := 71) (ls' := [(2, 1), (0, x1), (0, x2), (0, x3), w4, w5]) (st' := [(0, x2)]) rfl ?_
    exact wp_ret rfl rfl (l1 c1)
  · refine wp_run 1 (pc' := 15) (ls' := [(2, 1), (0, x1), (0, x2), (0, x3), w4, w5]) (st' := [(2, 1)]) rfl ?_
    refine wp_gf (pc' := 18) (t := 2) (v := 302) rfl rfl (by decide) rfl rfl (fx_1_11 hF) ?_
    refine wp_run 1 (pc' := 19) (ls' := [(2, 1), (0, x1), (0, x2), (0, x3), w4, w5]) (st' := [(0, x3), (2, 302)]) rfl ?_
    refine wp_iald (pc' := 20) (v := (M 302 x3)) rfl rfl rfl (b1 c1) rfl ?_
    refine wp_run 2 (pc' := 23) (ls' := [(2, 1), (0, x1), (0, x2), (0, x3), (0, (M 302 x3)), w5]) (st' := [(2, 1)]) rfl ?_
    refine wp_gf (pc' := 26) (t := 2) (v := (M 1 0)) rfl rfl (by decide) rfl rfl rfl ?_
    refine wp_gf (pc' := 29) (t := 2) (v := ((M 1 0) + 3)) rfl rfl (by decide) rfl (z_gl0 hg1) (z_gf2 hg1) ?_
    refine wp_run 1 (pc' := 31) (ls' := [(2, 1), (0, x1), (0, x2), (0, x3), (0, (M 302 x3)), w5]) (st' := [(0, (M 302 x3)), (2, ((M 1 0) + 3))]) rfl ?_
    refine wp_iald (pc' := 32) (v := (M ((M 1 0) + 3) (M 302 x3))) rfl rfl (z_gl3 hg1) (b2 c1) rfl ?_
    refine wp_run 4 (pc' := 37) (ls' := [(2, 1), (0, x1), (0, x2), (0, x3), (0, (M 302 x3)), (0, (M ((M 1 0) + 3) (M 302 x3)))]) (st' := [(2, 1), (0, x1), (0, x2)]) rfl ?_
    refine wp_gf (pc' := 40) (t := 2) (v := (M 1 2)) rfl rfl (by decide) rfl rfl rfl ?_
    refine wp_gf (pc' := 43) (t := 2) (v := ((M 1 2) + 2)) rfl rfl (by decide) rfl (z_hl0 hh2) (z_hf1 hh2) ?_
    refine wp_run 1 (pc' := 45) (ls' := [(2, 1), (0, x1), (0, x2), (0, x3), (0, (M 302 x3)), (0, (M ((M 1 0) + 3) (M 302 x3)))]) (st' := [(0, (M 302 x3)), (2, ((M 1 2) + 2)), (0, x1), (0, x2)]) rfl ?_
    refine wp_iald (pc' := 46) (v := (M ((M 1 2) + 2) (M 302 x3))) rfl rfl (z_hl2 hh2) (b2 c1) rfl ?_
    refine wp_run 1 (pc' := 47) (ls' := [(2, 1), (0, x1), (0, x2), (0, x3), (0, (M 302 x3)), (0, (M ((M 1 0) + 3) (M 302 x3)))]) (st' := [(0, (-1)), (0, (M ((M 1 2) + 2) (M 302 x3))), (0, x1), (0, x2)]) rfl ?_
    refine wp_if2 rfl rfl rfl (fun (c2 : (M ((M 1 2) + 2) (M 302 x3)) ≠ (-1)) => ?_) (fun (c2 : ¬ ((M ((M 1 2) + 2) (M 302 x3)) ≠ (-1))) => ?_)
    · refine wp_run 10 (pc' := 6) (ls' := [(2, 1), (0, (z_w (x1 + (M ((M 1 0) + 3) (M 302 x3))))), (0, (z_w (x2 + (z_w (x1 * 1))))), (0, (z_w (x3 + 1))), (0, (M 302 x3)), (0, (M ((M 1 0) + 3) (M 302 x3)))]) (st' := []) rfl ?_
      exact l2 c1 c2
    · refine wp_run 11 (pc' := 6) (ls' := [(2, 1), (0, (z_w (x1 + (M ((M 1 0) + 3) (M 302 x3))))), (0, (z_w (x2 + (z_w (x1 * (M ((M 1 0) + 3) (M 302 x3))))))), (0, (z_w (x3 + 1))), (0, (M 302 x3)), (0, (M ((M 1 0) + 3) (M 302 x3)))]) (st' := []) rfl ?_
      exact l3 c1 c2
section
variable {xs : List Int} {d : Nat} {M : z_M}
theorem s_X9_lostAtWells {P : Option z_V → z_L → z_M → Prop} {p : List Nat} {n : Nat} {s w : Nat → Int} (hF : z_fix M) (hg : z_gor M (M 1 0)) (hh : z_her M (M 1 2)) (h13 : M 1 13 = (n : Int)) (h6 : n ≤ 6) (hl : p.length = n) (hp : ∀ i : Nat, i < n → p.getD i 0 < n) (hr : z_rw (M 302) p) (hs : ∀ f : Nat, f < n → s f = M (M 1 0 + 3) f ∧ 1 ≤ s f ∧ s f ≤ 9) (hw : ∀ f : Nat, f < n → w f = if M (M 1 2 + 2) f ≠ -1 then 1 else M (M 1 0 + 3) f) (k : P (some (0, z_ct s w p)) z_LL M) : wp xs d mX9_lostAtWells 0 [(2, 1), (3, 0), (3, 0), (3, 0), (3, 0), (3, 0)] [] z_LL M P := by
  refine gX9_lostAtWells_0 ?_
  refine z_loop (W := fun i => ∀ (H T : Int) (w4 w5 : z_V), (0 ≤ H ∧ H ≤ 9 * i) → (0 ≤ T ∧ T ≤ 486 * i) → T + z_lo s w H (p.drop i) = z_ct s w p → wp xs d mX9_lostAtWells 6 [(2, 1), (0, H), (0, T), (0, (i : Int)), w4, w5] [] z_LL M P) n (fun i hi ih H T w4 w5 bH bT e => ?_) 0 0 _ _ (by omega) (by omega) (by rw [z_lo_c, List.drop_zero]; omega)
  have g := gX9_lostAtWells_6 (M := M) (xs := xs) (d := d) (P := P) (x1 := H) (x2 := T) (x3 := (i : Int)) (w4 := w4) (w5 := w5) hF hg hh
  rw [h13, z_in1 (by omega)] at g
  by_cases c : i < n
  · have pi := hp i c
    obtain ⟨s1, s2, s3⟩ := hs _ pi
    have w1 := hw _ pi
    have eg : p[i]'(by omega) = p.getD i 0 := by
      rw [List.getD_eq_getElem?_getD, List.getElem?_eq_getElem (by omega)]
      rfl
    rw [List.drop_eq_getElem_cons (by omega), z_lo, eg] at e
    rw [hr i (by omega), ← s1] at g
    generalize p.getD i 0 = f at *
    have W0 : 0 ≤ w f ∧ w f ≤ 9 := by
      rw [w1]
      split <;> omega
    have m1 : H * w f ≤ 54 * 9 := Int.mul_le_mul (by omega) W0.2 W0.1 (by omega)
    have m0 : 0 ≤ H * w f := Int.mul_nonneg bH.1 W0.1
    have nx := fun w4 w5 => ih c (H + s f) (T + H * w f) w4 w5 (by omega) (by omega) (by omega)
    rw [z_wid (x := H + s f) (by omega)] at g
    refine g (fun _ => by omega) (fun _ => by omega) (fun _ => by omega) (fun _ c2 => ?_) (fun _ c2 => ?_)
    · rw [if_pos c2] at w1
      rw [show H * (1 : Int) = H * w f from by rw [w1], z_wid (x := H * w f) (by omega), z_wid (by omega)]
      exact nx _ _
    · rw [if_neg c2, ← s1] at w1
      rw [← w1, z_wid (x := H * w f) (by omega), z_wid (by omega), w1]
      rw [w1] at nx
      exact nx _ _
  · obtain rfl : i = n := by omega
    refine g (fun _ => ?_) (fun q => by omega) (fun q => by omega) (fun q => by omega) (fun q => by omega)
    rw [List.drop_eq_nil_of_le (by omega), z_lo] at e
    rw [show T = z_ct s w p by omega]
    exact k
theorem z_nf302 : ¬ z_fobj 302 := by
  unfold z_fobj
  omega
theorem z_gdm {p : List Nat} {i : Nat} (h : i < p.length) : p.getD i 0 ∈ p := by
  have eg : p.getD i 0 = p[i]'h := by
    rw [List.getD_eq_getElem?_getD, List.getElem?_eq_getElem h]
    rfl
  rw [eg]
  exact List.getElem_mem _
/-- one put in behind the last that is no worse -/
theorem z_insq {h : Nat → Int} {r : List Nat} {i j : Nat} (hr : r.Perm (List.range i)) (hp : r.Pairwise (z_wr h)) (hj : j ≤ i) (h1 : ∀ k : Nat, j ≤ k → k < i → h i < h (r.getD k 0)) (h2 : j = 0 ∨ h (r.getD (j - 1) 0) ≤ h i) : (r.take j ++ i :: r.drop j).Perm (List.range (i + 1)) ∧ (r.take j ++ i :: r.drop j).Pairwise (z_wr h) := by
  have hl : r.length = i := by rw [hr.length_eq, List.length_range]
  constructor
  · refine List.perm_middle.trans ?_
    rw [List.take_append_drop, List.range_succ]
    exact (List.Perm.cons i hr).trans (List.perm_append_singleton i (List.range i)).symm
  · have hsplit : (r.take j ++ r.drop j).Pairwise (z_wr h) := by
      rw [List.take_append_drop]
      exact hp
    rw [List.pairwise_append] at hsplit ⊢
    have low : ∀ a, a ∈ r.take j → h a ≤ h i ∧ a < i := fun a ha => by
      have hai : a < i := List.mem_range.mp (hr.mem_iff.mp (List.mem_of_mem_take ha))
      refine ⟨?_, hai⟩
      obtain ⟨k, hk, e⟩ := List.mem_iff_getElem.mp ha
      rw [List.length_take] at hk
      rw [List.getElem_take] at e
      rcases h2 with h2 | h2
      · omega
      · have eg : r.getD (j - 1) 0 = r[j - 1]'(by omega) := by
          rw [List.getD_eq_getElem?_getD, List.getElem?_eq_getElem (by omega)]
          rfl
        rw [eg] at h2
        by_cases c : k = j - 1
        · subst c
          rw [← e]
          exact h2
        · have := List.pairwise_iff_getElem.mp hp k (j - 1) (by omega) (by omega) (by omega)
          unfold z_wr at this
          rw [← e]
          omega
    have high : ∀ b, b ∈ r.drop j → h i < h b := fun b hb => by
      obtain ⟨k, hk, e⟩ := List.mem_iff_getElem.mp hb
      rw [List.length_drop] at hk
      rw [List.getElem_drop] at e
      have := h1 (j + k) (by omega) (by omega)
      rw [List.getD_eq_getElem?_getD, List.getElem?_eq_getElem (by omega)] at this
      rw [← e]
      exact this
    refine ⟨hsplit.1, List.pairwise_cons.mpr ⟨fun b hb => Or.inl (high b hb), hsplit.2.1⟩, fun a ha b hb => ?_⟩
    have la := low a ha
    rw [List.mem_cons] at hb
    unfold z_wr
    rcases hb with rfl | hb
    · omega
    · have := high b hb
      omega
theorem s_X9_wells {P : Option z_V → z_L → z_M → Prop} {n : Nat} {s w h : Nat → Int} (hR : z_R M) (hn : M 321 48 = (n : Int)) (hs : ∀ f : Nat, f < n → s f = M 339 f) (hw : ∀ f : Nat, f < n → w f = if M 342 (12 + f) ≠ -1 then 1 else M 339 f) (hh : ∀ f : Nat, f < n → h f = if M 342 (12 + f) ≠ -1 then M 339 f else 1) (k : ∀ (r : List Nat) (M2 : z_M), r.Perm (List.range n) → r.Pairwise (z_wr h) → (∀ c, c ≠ 1 → c ≠ 302 → M2 c = M c) → (∀ j, j ≠ 13 → M2 1 j = M 1 j) → M2 1 13 = (n : Int) → z_rw (M2 302) r → P (some (0, z_ct s w r)) z_LL M2) : wp xs (d + 2) mX9_wells 0 [(2, 1), (3, 0), (3, 0)] [] z_LL M P := by
  have hn6 := (z_R_C hR).2.2.1
  have hk := z_R_k hR
  unfold z_hk at hk
  have hg := z_gsep (z_R_g hR).1
  obtain ⟨n1, n2, n3, n4, n5⟩ := z_R_n hR
  have sz : ∀ f : Nat, f < n → M (M 1 0 + 3) f = M 339 f ∧ M (M 1 2 + 2) f = M 342 (12 + f) ∧ 1 ≤ M 339 f ∧ M 339 f ≤ 9 := fun f hf => by
    have e := z_R_f hR (f := (f : Int)) (by omega) (by omega)
    have c := ((z_R_C hR).2.2.2.2.2.2 f (by omega) (by omega)).2.2.1
    exact ⟨e.2.2.1, e.1.2.1, c.1, c.2⟩
  have her : ∀ M2 : z_M, (∀ c, c ≠ 302 → M2 c = M c) → z_her M2 (M 1 2) := fun M2 hM => z_her_q (hM _ (by omega)) (z_R_H hR).1
  have gor : ∀ M2 : z_M, (∀ c, c ≠ 302 → M2 c = M c) → z_gor M2 (M 1 0) := fun M2 hM => z_gor_q (hM _ (by omega)) (z_R_g hR).1
  refine gX9_wells_0 ?_
  refine z_loop (W := fun i => ∀ (M2 : z_M) (w2 : z_V) (r : List Nat), (∀ c, c ≠ 302 → M2 c = M c) → r.Perm (List.range i) → r.Pairwise (z_wr h) → z_rw (M2 302) r → wp xs (d + 2) mX9_wells 2 [(2, 1), (0, (i : Int)), w2] [] z_LL M2 P) n (fun i hi ih M2 w2 r hM hr hp hv => ?_) M _ [] (fun _ _ => rfl) (by rw [List.range_zero]) List.Pairwise.nil (fun j q => absurd q (by simp))
  have hl : r.length = i := by rw [hr.length_eq, List.length_range]
  have g := gX9_wells_2 (M := M2) (xs := xs) (d := d + 1) (P := P) (x1 := (i : Int)) (w2 := w2) (by rw [hM 1 (by decide)]; exact gor M2 hM)
  rw [hM 1 (by decide), hM (M 1 0) (by omega), n3, hn] at g
  refine g (fun c => ?_) (fun c => ?_)
  · obtain rfl : i = n := by omega
    have o : ∀ q, q ≠ 1 → z_up M2 1 13 i q = M2 q := fun q hq => z_upn hq
    have o1 : ∀ j, j ≠ 13 → z_up M2 1 13 i 1 j = M 1 j := fun j hj => by rw [z_upi hj rfl, hM 1 (by decide)]
    have hF' : z_fix (z_up M2 1 13 i) := z_fix_gen (z_fix_at (z_R_F hR) hM z_nf302) (fun q j hq => by
      by_cases e : q = 1
      · rw [e] at hq ⊢
        exact z_upi (by unfold z_fin at hq; omega) rfl
      · rw [o q e])
    refine s_X9_lostAtWells (p := r) (n := i) (s := s) (w := w) hF' (by rw [o1 0 (by decide)]; exact z_gor_q (o _ (by omega)) (gor M2 hM)) (by rw [o1 2 (by decide)]; exact z_her_q (o _ (by omega)) (her M2 hM)) z_ups (by omega) hl (fun j hj => ?_) (by rw [o 302 (by decide)]; exact hv) (fun f hf => ?_) (fun f hf => ?_) ?_
    · exact List.mem_range.mp (hr.mem_iff.mp (z_gdm (by omega)))
    · rw [o1 0 (by decide), o _ (by omega), hM _ (by omega), (sz f hf).1, hs f hf]
      exact ⟨rfl, (sz f hf).2.2⟩
    · rw [o1 0 (by decide), o1 2 (by decide), o _ (by omega), hM _ (by omega), o _ (by omega), hM _ (by omega), (sz f hf).1, (sz f hf).2.1, hw f hf]
    · exact gX9_wells_87 (k r _ hr hp (fun c h1 h2 => by rw [o c h1, hM c h2]) o1 z_ups (by rw [o 302 (by decide)]; exact hv))
  · have hlt : i < n := by omega
    have ih := ih hlt
    obtain ⟨si1, si2, si3, si4⟩ := sz i hlt
    have hhi := hh i hlt
    have ins : ∀ (j : Nat), j ≤ i → ∀ M3 : z_M, (∀ c, c ≠ 302 → M3 c = M c) → (∀ k : Nat, k < j → M3 302 k = (r.getD k 0 : Nat)) → (∀ k : Nat, j ≤ k → k < i → M3 302 ((k + 1 : Nat) : Int) = (r.getD k 0 : Nat)) → (∀ k : Nat, j ≤ k → k < i → h i < h (r.getD k 0)) → wp xs (d + 2) mX9_wells 15 [(2, 1), (0, (i : Int)), (0, (j : Int))] [] z_LL M3 P := by
      intro j
      induction j with
      | zero =>
        intro hj M3 hM3 v1 v2 v3
        have put : wp xs (d + 2) mX9_wells 2 [(2, 1), (0, ((i + 1 : Nat) : Int)), (0, ((0 : Nat) : Int))] [] z_LL (z_up M3 302 ((0 : Nat) : Int) i) P := by
          obtain ⟨q1, q2⟩ := z_insq hr hp hj v3 (Or.inl rfl)
          refine ih _ _ _ (fun c hc => by rw [z_upn hc, hM3 c hc]) q1 q2 (fun k hk => ?_)
          rw [List.take_zero, List.drop_zero, List.nil_append] at hk ⊢
          rw [List.length_cons] at hk
          cases k with
          | zero =>
            rw [z_ups]
            rfl
          | succ k =>
            rw [z_upi (by omega) rfl, v2 k (by omega) (by omega)]
            rfl
        have g := gX9_wells_15 (M := M3) (xs := xs) (d := d + 1) (P := P) (x1 := (i : Int)) (x2 := ((0 : Nat) : Int)) (z_fix_at (z_R_F hR) hM3 z_nf302) (by rw [hM3 1 (by decide)]; exact her M3 hM3) (by rw [hM3 1 (by decide)]; exact gor M3 hM3)
        rw [z_in1 (by omega)] at g
        apply g
        case l1 => exact fun _ => put
        all_goals (intros; omega)
      | succ j ihj =>
        intro hj M3 hM3 v1 v2 v3
        have ihj := ihj (by omega)
        have vj := v1 j (by omega)
        have pj : r.getD j 0 < i := List.mem_range.mp (hr.mem_iff.mp (z_gdm (by omega)))
        obtain ⟨sj1, sj2, sj3, sj4⟩ := sz (r.getD j 0) (by omega)
        have hhj := hh (r.getD j 0) (by omega)
        have put : h (r.getD j 0) ≤ h i → wp xs (d + 2) mX9_wells 2 [(2, 1), (0, ((i + 1 : Nat) : Int)), (0, ((j + 1 : Nat) : Int))] [] z_LL (z_up M3 302 ((j + 1 : Nat) : Int) i) P := fun q => by
          obtain ⟨q1, q2⟩ := z_insq hr hp hj v3 (Or.inr q)
          refine ih _ _ _ (fun c hc => by rw [z_upn hc, hM3 c hc]) q1 q2 (fun k hk => ?_)
          rw [q1.length_eq, List.length_range] at hk
          rw [List.getD_eq_getElem?_getD, List.getElem?_append, List.length_take]
          by_cases e : k < j + 1
          · rw [if_pos (by omega), List.getElem?_take, if_pos e, z_upi (by omega) rfl, v1 k e, List.getD_eq_getElem?_getD]
          · rw [if_neg (by omega), show min (j + 1) r.length = j + 1 by omega]
            by_cases e2 : k = j + 1
            · rw [e2, z_ups, Nat.sub_self]
              rfl
            · obtain ⟨m, rfl⟩ : ∃ m : Nat, k = j + 1 + (m + 1) := ⟨k - (j + 2), by omega⟩
              rw [show j + 1 + (m + 1) - (j + 1) = m + 1 by omega, List.getElem?_cons_succ, List.getElem?_drop, z_upi (by omega) rfl, show j + 1 + (m + 1) = (j + 1 + m) + 1 by omega, v2 (j + 1 + m) (by omega) (by omega), List.getD_eq_getElem?_getD]
        have sh : h i < h (r.getD j 0) → wp xs (d + 2) mX9_wells 15 [(2, 1), (0, (i : Int)), (0, (j : Int))] [] z_LL (z_up M3 302 ((j + 1 : Nat) : Int) (r.getD j 0 : Nat)) P := fun q => by
          refine ihj _ (fun c hc => by rw [z_upn hc, hM3 c hc]) (fun k hk => ?_) (fun k k1 k2 => ?_) (fun k k1 k2 => ?_)
          · rw [z_upi (by omega) rfl, v1 k (by omega)]
          · by_cases e : k = j
            · rw [e, z_ups]
            · rw [z_upi (by omega) rfl, v2 k (by omega) k2]
          · by_cases e : k = j
            · rw [e]
              exact q
            · exact v3 k (by omega) k2
        have g := gX9_wells_15 (M := M3) (xs := xs) (d := d + 1) (P := P) (x1 := (i : Int)) (x2 := ((j + 1 : Nat) : Int)) (z_fix_at (z_R_F hR) hM3 z_nf302) (by rw [hM3 1 (by decide)]; exact her M3 hM3) (by rw [hM3 1 (by decide)]; exact gor M3 hM3)
        rw [z_in1 (by omega), z_wid (x := ((j + 1 : Nat) : Int) - 1) (by omega), z_wid (x := ((j + 1 : Nat) : Int) + -1) (by omega), show ((j + 1 : Nat) : Int) - 1 = (j : Int) by omega, show ((j + 1 : Nat) : Int) + -1 = (j : Int) by omega, vj, hM3 1 (by decide), hM3 (M 1 2 + 2) (by omega), hM3 (M 1 0 + 3) (by omega), si1, si2, sj1, sj2] at g
        apply g
        case l2 =>
          intro _ c1 c2 c3
          rw [if_pos c1] at hhj
          rw [if_pos c2] at hhi
          exact put (by omega)
        case l3 =>
          intro _ c1 c2 c3
          rw [if_pos c1] at hhj
          rw [if_pos c2] at hhi
          exact sh (by omega)
        case l4 =>
          intro _ c1 c2 c3
          rw [if_pos c1] at hhj
          rw [if_neg c2] at hhi
          exact put (by omega)
        case l5 =>
          intro _ c1 c2 c3
          rw [if_pos c1] at hhj
          rw [if_neg c2] at hhi
          exact sh (by omega)
        case l6 =>
          intro _ c1 c2 c3
          rw [if_neg c1] at hhj
          rw [if_pos c2] at hhi
          exact put (by omega)
        case l7 =>
          intro _ c1 c2 c3
          rw [if_neg c1] at hhj
          rw [if_pos c2] at hhi
          exact sh (by omega)
        case l8 =>
          intro _ c1 c2
          rw [if_neg c1] at hhj
          rw [if_neg c2] at hhi
          exact put (by omega)
        all_goals (clear v1 v2 v3 ih ihj sz hs hw hh; intros; omega)
    exact ins i (Nat.le_refl _) M2 hM (fun k hk => hv k (by omega)) (fun k a b => by omega) (fun k a b => by omega)
end
