/-! THE CLASS READS A LINE -/
set_option maxRecDepth 20000 in
theorem gX5_mayBegin_0 {xs : List Int} {d : Nat} {M : z_M} {P : Option z_V → z_L → z_M → Prop} {a1 : Int} (hg1 : z_gor M (M 33 3))
    (l1 : (a1 = 0) → ((M 33 4) ≠ 0) → P (some (0, 0)) z_LL M)
    (l2 : (a1 = 0) → (¬ ((M 33 4) ≠ 0)) → P (some (0, 1)) z_LL M)
    (l3 : (¬ a1 = 0) → (a1 = 1) → P (some (0, 0)) z_LL M)
    (l4 : (¬ a1 = 0) → (¬ a1 = 1) → (a1 = 2) → ((z_and (z_shr (M 33 4) a1) 1) ≠ 0) → P (some (0, 0)) z_LL M)
    (l5 : (¬ a1 = 0) → (¬ a1 = 1) → (a1 = 2) → (¬ ((z_and (z_shr (M 33 4) a1) 1) ≠ 0)) → P (some (0, 1)) z_LL M)
    (l6 : (¬ a1 = 0) → (¬ a1 = 1) → (¬ a1 = 2) → (a1 = 3) → (8 ≤ (M 33 5)) → P (some (0, 0)) z_LL M)
    (l7 : (¬ a1 = 0) → (¬ a1 = 1) → (¬ a1 = 2) → (a1 = 3) → (¬ (8 ≤ (M 33 5))) → P (some (0, 1)) z_LL M)
    (l8 : (¬ a1 = 0) → (¬ a1 = 1) → (¬ a1 = 2) → (¬ a1 = 3) → (a1 = 4) → (6 ≤ (M (M 33 3) 12)) → P (some (0, 0)) z_LL M)
    (l9 : (¬ a1 = 0) → (¬ a1 = 1) → (¬ a1 = 2) → (¬ a1 = 3) → (a1 = 4) → (¬ (6 ≤ (M (M 33 3) 12))) → P (some (0, 1)) z_LL M)
    (l10 : (¬ a1 = 0) → (¬ a1 = 1) → (¬ a1 = 2) → (¬ a1 = 3) → (¬ a1 = 4) → (a1 = 5) → P (some (0, 0)) z_LL M)
    (l11 : (¬ a1 = 0) → (¬ a1 = 1) → (¬ a1 = 2) → (¬ a1 = 3) → (¬ a1 = 4) → (¬ a1 = 5) → (a1 = 6) → P (some (0, 0)) z_LL M)
    (l12 : (¬ a1 = 0) → (¬ a1 = 1) → (¬ a1 = 2) → (¬ a1 = 3) → (¬ a1 = 4) → (¬ a1 = 5) → (¬ a1 = 6) → (a1 = 7) → P (some (0, 0)) z_LL M)
    (l13 : (¬ a1 = 0) → (¬ a1 = 1) → (¬ a1 = 2) → (¬ a1 = 3) → (¬ a1 = 4) → (¬ a1 = 5) → (¬ a1 = 6) → (¬ a1 = 7) → (a1 = 8) → P (some (0, 0)) z_LL M)
    (l14 : (¬ a1 = 0) → (¬ a1 = 1) → (¬ a1 = 2) → (¬ a1 = 3) → (¬ a1 = 4) → (¬ a1 = 5) → (¬ a1 = 6) → (¬ a1 = 7) → (¬ a1 = 8) → (a1 = 9) → P (some (0, 1)) z_LL M)
    (l15 : (¬ a1 = 0) → (¬ a1 = 1) → (¬ a1 = 2) → (¬ a1 = 3) → (¬ a1 = 4) → (¬ a1 = 5) → (¬ a1 = 6) → (¬ a1 = 7) → (¬ a1 = 8) → (¬ a1 = 9) → (a1 = 10) → (15 ≤ (M (M 33 3) 13)) → P (some (0, 0)) z_LL M)
    (l16 : (¬ a1 = 0) → (¬ a1 = 1) → (¬ a1 = 2) → (¬ a1 = 3) → (¬ a1 = 4) → (¬ a1 = 5) → (¬ a1 = 6) → (¬ a1 = 7) → (¬ a1 = 8) → (¬ a1 = 9) → (a1 = 10) → (¬ (15 ≤ (M (M 33 3) 13))) → P (some (0, 1)) z_LL M)
    (l17 : (¬ a1 = 0) → (¬ a1 = 1) → (¬ a1 = 2) → (¬ a1 = 3) → (¬ a1 = 4) → (¬ a1 = 5) → (¬ a1 = 6) → (¬ a1 = 7) → (¬ a1 = 8) → (¬ a1 = 9) → (¬ a1 = 10) → (a1 = 11) → ((z_and (z_shr (M 33 4) a1) 1) ≠ 0) → P (some (0, 0)) z_LL M)
    (l18 : (¬ a1 = 0) → (¬ a1 = 1) → (¬ a1 = 2) → (¬ a1 = 3) → (¬ a1 = 4) → (¬ a1 = 5) → (¬ a1 = 6) → (¬ a1 = 7) → (¬ a1 = 8) → (¬ a1 = 9) → (¬ a1 = 10) → (a1 = 11) → (¬ ((z_and (z_shr (M 33 4) a1) 1) ≠ 0)) → P (some (0, 1)) z_LL M)
    (l19 : (¬ a1 = 0) → (¬ a1 = 1) → (¬ a1 = 2) → (¬ a1 = 3) → (¬ a1 = 4) → (¬ a1 = 5) → (¬ a1 = 6) → (¬ a1 = 7) → (¬ a1 = 8) → (¬ a1 = 9) → (¬ a1 = 10) → (¬ a1 = 11) → (a1 = 12) → ((z_and (z_shr (M 33 4) a1) 1) ≠ 0) → P (some (0, 0)) z_LL M)
    (l20 : (¬ a1 = 0) → (¬ a1 = 1) → (¬ a1 = 2) → (¬ a1 = 3) → (¬ a1 = 4) → (¬ a1 = 5) → (¬ a1 = 6) → (¬ a1 = 7) → (¬ a1 = 8) → (¬ a1 = 9) → (¬ a1 = 10) → (¬ a1 = 11) → (a1 = 12) → (¬ ((z_and (z_shr (M 33 4) a1) 1) ≠ 0)) → P (some (0, 1)) z_LL M)
    (l21 : (¬ a1 = 0) → (¬ a1 = 1) → (¬ a1 = 2) → (¬ a1 = 3) → (¬ a1 = 4) → (¬ a1 = 5) → (¬ a1 = 6) → (¬ a1 = 7) → (¬ a1 = 8) → (¬ a1 = 9) → (¬ a1 = 10) → (¬ a1 = 11) → (¬ a1 = 12) → (a1 = 13) → P (some (0, 0)) z_LL M)
    (l22 : (¬ a1 = 0) → (¬ a1 = 1) → (¬ a1 = 2) → (¬ a1 = 3) → (¬ a1 = 4) → (¬ a1 = 5) → (¬ a1 = 6) → (¬ a1 = 7) → (¬ a1 = 8) → (¬ a1 = 9) → (¬ a1 = 10) → (¬ a1 = 11) → (¬ a1 = 12) → (¬ a1 = 13) → (a1 = 14) → ((z_and (z_shr (M 33 4) a1) 1) ≠ 0) → P (some (0, 0)) z_LL M)
    (l23 : (¬ a1 = 0) → (¬ a1 = 1) → (¬ a1 = 2) → (¬ a1 = 3) → (¬ a1 = 4) → (¬ a1 = 5) → (¬ a1 = 6) → (¬ a1 = 7) → (¬ a1 = 8) → (¬ a1 = 9) → (¬ a1 = 10) → (¬ a1 = 11) → (¬ a1 = 12) → (¬ a1 = 13) → (a1 = 14) → (¬ ((z_and (z_shr (M 33 4) a1) 1) ≠ 0)) → P (some (0, 1)) z_LL M)
    (l24 : (¬ a1 = 0) → (¬ a1 = 1) → (¬ a1 = 2) → (¬ a1 = 3) → (¬ a1 = 4) → (¬ a1 = 5) → (¬ a1 = 6) → (¬ a1 = 7) → (¬ a1 = 8) → (¬ a1 = 9) → (¬ a1 = 10) → (¬ a1 = 11) → (¬ a1 = 12) → (¬ a1 = 13) → (¬ a1 = 14) → (a1 = 15) → ((z_and (z_shr (M 33 4) a1) 1) ≠ 0) → P (some (0, 0)) z_LL M)
    (l25 : (¬ a1 = 0) → (¬ a1 = 1) → (¬ a1 = 2) → (¬ a1 = 3) → (¬ a1 = 4) → (¬ a1 = 5) → (¬ a1 = 6) → (¬ a1 = 7) → (¬ a1 = 8) → (¬ a1 = 9) → (¬ a1 = 10) → (¬ a1 = 11) → (¬ a1 = 12) → (¬ a1 = 13) → (¬ a1 = 14) → (a1 = 15) → (¬ ((z_and (z_shr (M 33 4) a1) 1) ≠ 0)) → P (some (0, 1)) z_LL M)
    (l26 : (¬ a1 = 0) → (¬ a1 = 1) → (¬ a1 = 2) → (¬ a1 = 3) → (¬ a1 = 4) → (¬ a1 = 5) → (¬ a1 = 6) → (¬ a1 = 7) → (¬ a1 = 8) → (¬ a1 = 9) → (¬ a1 = 10) → (¬ a1 = 11) → (¬ a1 = 12) → (¬ a1 = 13) → (¬ a1 = 14) → (¬ a1 = 15) → P (some (0, 0)) z_LL M) :
    wp xs d mX5_mayBegin 0 [(2, 33), (0, a1)] [] z_LL M P := by
  refine wp_run 1 (pc' := 1) (ls' := [(2, 33), (0, a1)]) (st' := [(0, a1)]) rfl ?_
  by_cases c1 : a1 = 0
  · refine wp_cast c1 ?_
    refine wp_run 2 (pc' := 81) (ls' := [(2, 33), (0, a1)]) (st' := [(2, 33)]) rfl ?_
    refine wp_gf (pc' := 84) (t := 0) (v := (M 33 4)) rfl rfl (by decide) rfl rfl rfl ?_
    refine wp_if1 rfl rfl rfl (fun (c2 : (M 33 4) ≠ 0) => ?_) (fun (c2 : ¬ ((M 33 4) ≠ 0)) => ?_)
    · refine wp_run 1 (pc' := 92) (ls' := [(2, 33), (0, a1)]) (st' := [(0, 0)]) rfl ?_
      exact wp_ret rfl rfl (l1 c1 c2)
    · refine wp_run 2 (pc' := 92) (ls' := [(2, 33), (0, a1)]) (st' := [(0, 1)]) rfl ?_
      exact wp_ret rfl rfl (l2 c1 c2)
  by_cases c3 : a1 = 1
  · refine wp_cast c3 ?_
    refine wp_run 2 (pc' := 164) (ls' := [(2, 33), (0, a1)]) (st' := [(0, 0)]) rfl ?_
    exact wp_ret rfl rfl (l3 c1 c3)
  by_cases c4 : a1 = 2
  · refine wp_cast c4 ?_
    refine wp_run 2 (pc' := 147) (ls' := [(2, 33), (0, a1)]) (st' := [(2, 33)]) rfl ?_
    refine wp_gf (pc' := 150) (t := 0) (v := (M 33 4)) rfl rfl (by decide) rfl rfl rfl ?_
    refine wp_run 4 (pc' := 154) (ls' := [(2, 33), (0, a1)]) (st' := [(0, (z_and (z_shr (M 33 4) a1) 1))]) rfl ?_
    refine wp_if1 rfl rfl rfl (fun (c5 : (z_and (z_shr (M 33 4) a1) 1) ≠ 0) => ?_) (fun (c5 : ¬ ((z_and (z_shr (M 33 4) a1) 1) ≠ 0)) => ?_)
    · refine wp_run 1 (pc' := 162) (ls' := [(2, 33), (0, a1)]) (st' := [(0, 0)]) rfl ?_
      exact wp_ret rfl rfl (l4 c1 c3 c4 c5)
    · refine wp_run 2 (pc' := 162) (ls' := [(2, 33), (0, a1)]) (st' := [(0, 1)]) rfl ?_
      exact wp_ret rfl rfl (l5 c1 c3 c4 c5)
  by_cases c6 : a1 = 3
  · refine wp_cast c6 ?_
    refine wp_run 2 (pc' := 94) (ls' := [(2, 33), (0, a1)]) (st' := [(2, 33)]) rfl ?_
    refine wp_gf (pc' := 97) (t := 0) (v := (M 33 5)) rfl rfl (by decide) rfl rfl rfl ?_
    refine wp_run 1 (pc' := 99) (ls' := [(2, 33), (0, a1)]) (st' := [(0, 8), (0, (M 33 5))]) rfl ?_
    refine wp_if2 rfl rfl rfl (fun (c7 : 8 ≤ (M 33 5)) => ?_) (fun (c7 : ¬ (8 ≤ (M 33 5))) => ?_)
    · refine wp_run 1 (pc' := 107) (ls' := [(2, 33), (0, a1)]) (st' := [(0, 0)]) rfl ?_
      exact wp_ret rfl rfl (l6 c1 c3 c4 c6 c7)
    · refine wp_run 2 (pc' := 107) (ls' := [(2, 33), (0, a1)]) (st' := [(0, 1)]) rfl ?_
      exact wp_ret rfl rfl (l7 c1 c3 c4 c6 c7)
  by_cases c8 : a1 = 4
  · refine wp_cast c8 ?_
    refine wp_run 2 (pc' := 109) (ls' := [(2, 33), (0, a1)]) (st' := [(2, 33)]) rfl ?_
    refine wp_gf (pc' := 112) (t := 2) (v := (M 33 3)) rfl rfl (by decide) rfl rfl rfl ?_
    refine wp_gf (pc' := 115) (t := 0) (v := (M (M 33 3) 12)) rfl rfl (by decide) rfl (z_gl0 hg1) rfl ?_
    refine wp_run 1 (pc' := 117) (ls' := [(2, 33), (0, a1)]) (st' := [(0, 6), (0, (M (M 33 3) 12))]) rfl ?_
    refine wp_if2 rfl rfl rfl (fun (c9 : 6 ≤ (M (M 33 3) 12)) => ?_) (fun (c9 : ¬ (6 ≤ (M (M 33 3) 12))) => ?_)
    · refine wp_run 1 (pc' := 125) (ls' := [(2, 33), (0, a1)]) (st' := [(0, 0)]) rfl ?_
      exact wp_ret rfl rfl (l8 c1 c3 c4 c6 c8 c9)
    · refine wp_run 2 (pc' := 125) (ls' := [(2, 33), (0, a1)]) (st' := [(0, 1)]) rfl ?_
      exact wp_ret rfl rfl (l9 c1 c3 c4 c6 c8 c9)
  by_cases c10 : a1 = 5
  · refine wp_cast c10 ?_
    refine wp_run 2 (pc' := 164) (ls' := [(2, 33), (0, a1)]) (st' := [(0, 0)]) rfl ?_
    exact wp_ret rfl rfl (l10 c1 c3 c4 c6 c8 c10)
  by_cases c11 : a1 = 6
  · refine wp_cast c11 ?_
    refine wp_run 2 (pc' := 164) (ls' := [(2, 33), (0, a1)]) (st' := [(0, 0)]) rfl ?_
    exact wp_ret rfl rfl (l11 c1 c3 c4 c6 c8 c10 c11)
  by_cases c12 : a1 = 7
  · refine wp_cast c12 ?_
    refine wp_run 2 (pc' := 164) (ls' := [(2, 33), (0, a1)]) (st' := [(0, 0)]) rfl ?_
    exact wp_ret rfl rfl (l12 c1 c3 c4 c6 c8 c10 c11 c12)
  by_cases c13 : a1 = 8
  · refine wp_cast c13 ?_
    refine wp_run 2 (pc' := 164) (ls' := [(2, 33), (0, a1)]) (st' := [(0, 0)]) rfl ?_
    exact wp_ret rfl rfl (l13 c1 c3 c4 c6 c8 c10 c11 c12 c13)
  by_cases c14 : a1 = 9
  · refine wp_cast c14 ?_
    refine wp_run 2 (pc' := 145) (ls' := [(2, 33), (0, a1)]) (st' := [(0, 1)]) rfl ?_
    exact wp_ret rfl rfl (l14 c1 c3 c4 c6 c8 c10 c11 c12 c13 c14)
  by_cases c15 : a1 = 10
  · refine wp_cast c15 ?_
    refine wp_run 2 (pc' := 127) (ls' := [(2, 33), (0, a1)]) (st' := [(2, 33)]) rfl ?_
    refine wp_gf (pc' := 130) (t := 2) (v := (M 33 3)) rfl rfl (by decide) rfl rfl rfl ?_
    refine wp_gf (pc' := 133) (t := 0) (v := (M (M 33 3) 13)) rfl rfl (by decide) rfl (z_gl0 hg1) rfl ?_
    refine wp_run 1 (pc' := 135) (ls' := [(2, 33), (0, a1)]) (st' := [(0, 15), (0, (M (M 33 3) 13))]) rfl ?_
    refine wp_if2 rfl rfl rfl (fun (c16 : 15 ≤ (M (M 33 3) 13)) => ?_) (fun (c16 : ¬ (15 ≤ (M (M 33 3) 13))) => ?_)
    · refine wp_run 1 (pc' := 143) (ls' := [(2, 33), (0, a1)]) (st' := [(0, 0)]) rfl ?_
      exact wp_ret rfl rfl (l15 c1 c3 c4 c6 c8 c10 c11 c12 c13 c14 c15 c16)
    · refine wp_run 2 (pc' := 143) (ls' := [(2, 33), (0, a1)]) (st' := [(0, 1)]) rfl ?_
      exact wp_ret rfl rfl (l16 c1 c3 c4 c6 c8 c10 c11 c12 c13 c14 c15 c16)
  by_cases c17 : a1 = 11
  · refine wp_cast c17 ?_
    refine wp_run 2 (pc' := 147) (ls' := [(2, 33), (0, a1)]) (st' := [(2, 33)]) rfl ?_
    refine wp_gf (pc' := 150) (t := 0) (v := (M 33 4)) rfl rfl (by decide) rfl rfl rfl ?_
    refine wp_run 4 (pc' := 154) (ls' := [(2, 33), (0, a1)]) (st' := [(0, (z_and (z_shr (M 33 4) a1) 1))]) rfl ?_
    refine wp_if1 rfl rfl rfl (fun (c18 : (z_and (z_shr (M 33 4) a1) 1) ≠ 0) => ?_) (fun (c18 : ¬ ((z_and (z_shr (M 33 4) a1) 1) ≠ 0)) => ?_)
    · refine wp_run 1 (pc' := 162) (ls' := [(2, 33), (0, a1)]) (st' := [(0, 0)]) rfl ?_
      exact wp_ret rfl rfl (l17 c1 c3 c4 c6 c8 c10 c11 c12 c13 c14 c15 c17 c18)
    · refine wp_run 2 (pc' := 162) (ls' := [(2, 33), (0, a1)]) (st' := [(0, 1)]) rfl ?_
      exact wp_ret rfl rfl (l18 c1 c3 c4 c6 c8 c10 c11 c12 c13 c14 c15 c17 c18)
  by_cases c19 : a1 = 12
  · refine wp_cast c19 ?_
    refine wp_run 2 (pc' := 147) (ls' := [(2, 33), (0, a1)]) (st' := [(2, 33)]) rfl ?_
    refine wp_gf (pc' := 150) (t := 0) (v := (M 33 4)) rfl rfl (by decide) rfl rfl rfl ?_
    refine wp_run 4 (pc' := 154) (ls' := [(2, 33), (0, a1)]) (st' := [(0, (z_and (z_shr (M 33 4) a1) 1))]) rfl ?_
    refine wp_if1 rfl rfl rfl (fun (c20 : (z_and (z_shr (M 33 4) a1) 1) ≠ 0) => ?_) (fun (c20 : ¬ ((z_and (z_shr (M 33 4) a1) 1) ≠ 0)) => ?_)
    · refine wp_run 1 (pc' := 162) (ls' := [(2, 33), (0, a1)]) (st' := [(0, 0)]) rfl ?_
      exact wp_ret rfl rfl (l19 c1 c3 c4 c6 c8 c10 c11 c12 c13 c14 c15 c17 c19 c20)
    · refine wp_run 2 (pc' := 162) (ls' := [(2, 33), (0, a1)]) (st' := [(0, 1)]) rfl ?_
      exact wp_ret rfl rfl (l20 c1 c3 c4 c6 c8 c10 c11 c12 c13 c14 c15 c17 c19 c20)
  by_cases c21 : a1 = 13
  · refine wp_cast c21 ?_
    refine wp_run 2 (pc' := 164) (ls' := [(2, 33), (0, a1)]) (st' := [(0, 0)]) rfl ?_
    exact wp_ret rfl rfl (l21 c1 c3 c4 c6 c8 c10 c11 c12 c13 c14 c15 c17 c19 c21)
  by_cases c22 : a1 = 14
  · refine wp_cast c22 ?_
    refine wp_run 2 (pc' := 147) (ls' := [(2, 33), (0, a1)]) (st' := [(2, 33)]) rfl ?_
    refine wp_gf (pc' := 150) (t := 0) (v := (M 33 4)) rfl rfl (by decide) rfl rfl rfl ?_
    refine wp_run 4 (pc' := 154) (ls' := [(2, 33), (0, a1)]) (st' := [(0, (z_and (z_shr (M 33 4) a1) 1))]) rfl ?_
    refine wp_if1 rfl rfl rfl (fun (c23 : (z_and (z_shr (M 33 4) a1) 1) ≠ 0) => ?_) (fun (c23 : ¬ ((z_and (z_shr (M 33 4) a1) 1) ≠ 0)) => ?_)
    · refine wp_run 1 (pc' := 162) (ls' := [(2, 33), (0, a1)]) (st' := [(0, 0)]) rfl ?_
      exact wp_ret rfl rfl (l22 c1 c3 c4 c6 c8 c10 c11 c12 c13 c14 c15 c17 c19 c21 c22 c23)
    · refine wp_run 2 (pc' := 162) (ls' := [(2, 33), (0, a1)]) (st' := [(0, 1)]) rfl ?_
      exact wp_ret rfl rfl (l23 c1 c3 c4 c6 c8 c10 c11 c12 c13 c14 c15 c17 c19 c21 c22 c23)
  by_cases c24 : a1 = 15
  · refine wp_cast c24 ?_
    refine wp_run 2 (pc' := 147) (ls' := [(2, 33), (0, a1)]) (st' := [(2, 33)]) rfl ?_
    refine wp_gf (pc' := 150) (t := 0) (v := (M 33 4)) rfl rfl (by decide) rfl rfl rfl ?_
    refine wp_run 4 (pc' := 154) (ls' := [(2, 33), (0, a1)]) (st' := [(0, (z_and (z_shr (M 33 4) a1) 1))]) rfl ?_
    refine wp_if1 rfl rfl rfl (fun (c25 : (z_and (z_shr (M 33 4) a1) 1) ≠ 0) => ?_) (fun (c25 : ¬ ((z_and (z_shr (M 33 4) a1) 1) ≠ 0)) => ?_)
    · refine wp_run 1 (pc' := 162) (ls' := [(2, 33), (0, a1)]) (st' := [(0, 0)]) rfl ?_
      exact wp_ret rfl rfl (l24 c1 c3 c4 c6 c8 c10 c11 c12 c13 c14 c15 c17 c19 c21 c22 c24 c25)
    · refine wp_run 2 (pc' := 162) (ls' := [(2, 33), (0, a1)]) (st' := [(0, 1)]) rfl ?_
      exact wp_ret rfl rfl (l25 c1 c3 c4 c6 c8 c10 c11 c12 c13 c14 c15 c17 c19 c21 c22 c24 c25)
  refine wp_swd rfl rfl (by omega) ?_
  refine wp_run 1 (pc' := 164) (ls' := [(2, 33), (0, a1)]) (st' := [(0, 0)]) rfl ?_
  exact wp_ret rfl rfl (l26 c1 c3 c4 c6 c8 c10 c11 c12 c13 c14 c15 c17 c19 c21 c22 c24)
set_option maxRecDepth 20000 in
theorem gX5_line_0 {xs : List Int} {d : Nat} {M : z_M} {P : Option z_V → z_L → z_M → Prop} (hF : z_fix M) 
    (l1 : wp xs d mX5_mayBegin 0 [(2, 33), (0, (M 30 3))] [] z_LL M (fun r L1 M1 => wp xs (d + 1) mX5_line 13 [(2, 33), (0, (M 30 3))] (z_ol r ++ []) L1 M1 P)) :
    wp xs (d + 1) mX5_line 0 [(2, 33), (3, 0)] [] z_LL M P := by
  refine wp_run 1 (pc' := 1) (ls' := [(2, 33), (3, 0)]) (st' := [(2, 33)]) rfl ?_
  refine wp_gf (pc' := 4) (t := 2) (v := 30) rfl rfl (by decide) rfl rfl (fx_33_0 hF) ?_
  refine wp_gf (pc' := 7) (t := 0) (v := (M 30 3)) rfl rfl (by decide) rfl rfl rfl ?_
  refine wp_run 3 (pc' := 10) (ls' := [(2, 33), (0, (M 30 3))]) (st' := [(0, (M 30 3)), (2, 33)]) rfl ?_
  refine wp_callv (pc' := 13) (as := [(2, 33), (0, (M 30 3))]) (rest := []) (ls1 := [(2, 33), (0, (M 30 3))]) rfl rfl rfl rfl rfl rfl ?_
  exact l1
set_option maxRecDepth 20000 in
theorem gX5_line_13 {xs : List Int} {d : Nat} {M : z_M} {P : Option z_V → z_L → z_M → Prop} {x1 : Int} {s0 : Int} (hF : z_fix M) 
    (l1 : (s0 ≠ 0) → wp xs (d + 1) mX7_step 0 [(2, 30)] [] z_LL (z_up M 33 4 (z_or (M 33 4) (z_shl 1 x1))) (fun r L1 M1 => wp xs (d + 2) mX5_line 41 [(2, 33), (0, x1)] (z_ol r ++ []) L1 M1 P))
    (l2 : (¬ (s0 ≠ 0)) → ((M 33 1) ≠ 0) → P none z_LL M)
    (l3 : (¬ (s0 ≠ 0)) → (¬ ((M 33 1) ≠ 0)) → ((M 30 3) ≠ 27) → P none z_LL (z_up (z_up M 33 1 2) 33 2 (M 30 4)))
    (l4 : (¬ (s0 ≠ 0)) → (¬ ((M 33 1) ≠ 0)) → (¬ ((M 30 3) ≠ 27)) → P none z_LL (z_up (z_up M 33 1 1) 33 2 (M 30 4))) :
    wp xs (d + 2) mX5_line 13 [(2, 33), (0, x1)] [(0, s0)] z_LL M P := by
  refine wp_if1 rfl rfl rfl (fun (c1 : s0 ≠ 0) => ?_) (fun (c1 : ¬ (s0 ≠ 0)) => ?_)
  · refine wp_run 2 (pc' := 24) (ls' := [(2, 33), (0, x1)]) (st' := [(2, 33), (2, 33)]) rfl ?_
    refine wp_gf (pc' := 27) (t := 0) (v := (M 33 4)) rfl rfl (by decide) rfl rfl rfl ?_
    refine wp_run 4 (pc' := 31) (ls' := [(2, 33), (0, x1)]) (st' := [(0, (z_or (M 33 4) (z_shl 1 x1))), (2, 33)]) rfl ?_
    refine wp_pf (pc' := 34) rfl rfl rfl rfl (fun z => absurd z (by decide)) (fun z => absurd z (by decide)) ?_
    refine wp_run 1 (pc' := 35) (ls' := [(2, 33), (0, x1)]) (st' := [(2, 33)]) rfl ?_
    refine wp_gf (pc' := 38) (t := 2) (v := 30) rfl rfl (by decide) rfl rfl (z_upi (by decide) (fx_33_0 hF)) ?_
    refine wp_callv (pc' := 41) (as := [(2, 30)]) (rest := []) (ls1 := [(2, 30)]) rfl rfl rfl rfl rfl rfl ?_
    exact l1 c1
  · refine wp_run 2 (pc' := 18) (ls' := [(2, 33), (0, x1)]) (st' := [(0, 2), (2, 33)]) rfl ?_
    refine wp_callv (pc' := 21) (as := [(2, 33), (0, 2)]) (rest := []) (ls1 := [(2, 33), (0, 2)]) rfl rfl rfl rfl rfl rfl ?_
    refine wp_run 1 (pc' := 1) (ls' := [(2, 33), (0, 2)]) (st' := [(2, 33)]) rfl ?_
    refine wp_callv (pc' := 4) (as := [(2, 33)]) (rest := []) (ls1 := [(2, 33)]) rfl rfl rfl rfl rfl rfl ?_
    refine wp_run 1 (pc' := 1) (ls' := [(2, 33)]) (st' := [(2, 33)]) rfl ?_
    refine wp_gf (pc' := 4) (t := 0) (v := (M 33 1)) rfl rfl (by decide) rfl rfl rfl ?_
    refine wp_if1 rfl rfl rfl (fun (c2 : (M 33 1) ≠ 0) => ?_) (fun (c2 : ¬ ((M 33 1) ≠ 0)) => ?_)
    · refine wp_run 1 (pc' := 12) (ls' := [(2, 33)]) (st' := [(0, 0)]) rfl ?_
      refine wp_ret rfl rfl ?_
      show wp xs _ mX5_fail 4 [(2, 33), (0, 2)] [(0, 0)] z_LL M _
      refine wp_run 1 (pc' := 39) (ls' := [(2, 33), (0, 2)]) (st' := []) rfl ?_
      refine wp_ret rfl rfl ?_
      show wp xs _ mX5_line 21 [(2, 33), (0, x1)] [] z_LL M _
      exact wp_ret rfl rfl (l2 c1 c2)
    · refine wp_run 2 (pc' := 12) (ls' := [(2, 33)]) (st' := [(0, 1)]) rfl ?_
      refine wp_ret rfl rfl ?_
      show wp xs _ mX5_fail 4 [(2, 33), (0, 2)] [(0, 1)] z_LL M _
      refine wp_run 3 (pc' := 9) (ls' := [(2, 33), (0, 2)]) (st' := [(2, 33), (2, 33)]) rfl ?_
      refine wp_gf (pc' := 12) (t := 2) (v := 30) rfl rfl (by decide) rfl rfl (fx_33_0 hF) ?_
      refine wp_gf (pc' := 15) (t := 0) (v := (M 30 3)) rfl rfl (by decide) rfl rfl rfl ?_
      refine wp_run 1 (pc' := 17) (ls' := [(2, 33), (0, 2)]) (st' := [(0, 27), (0, (M 30 3)), (2, 33)]) rfl ?_
      refine wp_if2 rfl rfl rfl (fun (c3 : (M 30 3) ≠ 27) => ?_) (fun (c3 : ¬ ((M 30 3) ≠ 27)) => ?_)
      · refine wp_run 1 (pc' := 25) (ls' := [(2, 33), (0, 2)]) (st' := [(0, 2), (2, 33)]) rfl ?_
        refine wp_pf (pc' := 28) rfl rfl rfl rfl (fun z => absurd z (by decide)) (fun z => absurd z (by decide)) ?_
        refine wp_run 2 (pc' := 30) (ls' := [(2, 33), (0, 2)]) (st' := [(2, 33), (2, 33)]) rfl ?_
        refine wp_gf (pc' := 33) (t := 2) (v := 30) rfl rfl (by decide) rfl rfl (z_upi (by decide) (fx_33_0 hF)) ?_
        refine wp_gf (pc' := 36) (t := 0) (v := (M 30 4)) rfl rfl (by decide) rfl rfl (z_upq (by decide) rfl) ?_
        refine wp_pf (pc' := 39) rfl rfl rfl rfl (fun z => absurd z (by decide)) (fun z => absurd z (by decide)) ?_
        refine wp_ret rfl rfl ?_
        show wp xs _ mX5_line 21 [(2, 33), (0, x1)] [] z_LL (z_up (z_up M 33 1 2) 33 2 (M 30 4)) _
        exact wp_ret rfl rfl (l3 c1 c2 c3)
      · refine wp_run 2 (pc' := 25) (ls' := [(2, 33), (0, 2)]) (st' := [(0, 1), (2, 33)]) rfl ?_
        refine wp_pf (pc' := 28) rfl rfl rfl rfl (fun z => absurd z (by decide)) (fun z => absurd z (by decide)) ?_
        refine wp_run 2 (pc' := 30) (ls' := [(2, 33), (0, 2)]) (st' := [(2, 33), (2, 33)]) rfl ?_
        refine wp_gf (pc' := 33) (t := 2) (v := 30) rfl rfl (by decide) rfl rfl (z_upi (by decide) (fx_33_0 hF)) ?_
        refine wp_gf (pc' := 36) (t := 0) (v := (M 30 4)) rfl rfl (by decide) rfl rfl (z_upq (by decide) rfl) ?_
        refine wp_pf (pc' := 39) rfl rfl rfl rfl (fun z => absurd z (by decide)) (fun z => absurd z (by decide)) ?_
        refine wp_ret rfl rfl ?_
        show wp xs _ mX5_line 21 [(2, 33), (0, x1)] [] z_LL (z_up (z_up M 33 1 1) 33 2 (M 30 4)) _
        exact wp_ret rfl rfl (l4 c1 c2 c3)
set_option maxRecDepth 20000 in
theorem gX5_line_41 {xs : List Int} {d : Nat} {M : z_M} {P : Option z_V → z_L → z_M → Prop} {x1 : Int} (hg1 : z_gor M (M 33 3))
    (l1 : (x1 = 0) → wp xs d mX5_gorgeBody 0 [(2, 33)] [] z_LL M (fun r L1 M1 => wp xs (d + 1) mX5_line 120 [(2, 33), (0, x1)] (z_ol r ++ []) L1 M1 P))
    (l2 : (¬ x1 = 0) → (x1 = 1) → wp xs d mX5_number 0 [(2, 33), (0, 0), (0, 999), (3, 0)] [] z_LL M (fun r L1 M1 => wp xs (d + 1) mX5_line 210 [(2, 33), (0, x1)] (z_ol r ++ [(2, (M 33 3))]) L1 M1 P))
    (l3 : (¬ x1 = 0) → (¬ x1 = 1) → (x1 = 2) → wp xs d mX5_number 0 [(2, 33), (0, 0), (0, 9), (3, 0)] [] z_LL M (fun r L1 M1 => wp xs (d + 1) mX5_line 131 [(2, 33), (0, x1)] (z_ol r ++ [(2, 33)]) L1 M1 P))
    (l4 : (¬ x1 = 0) → (¬ x1 = 1) → (¬ x1 = 2) → (x1 = 3) → wp xs d mX5_grassBody 0 [(2, 33), (3, 0), (3, 0), (3, 0)] [] z_LL M (fun r L1 M1 => wp xs (d + 1) mX5_line 141 [(2, 33), (0, x1)] (z_ol r ++ []) L1 M1 P))
    (l5 : (¬ x1 = 0) → (¬ x1 = 1) → (¬ x1 = 2) → (¬ x1 = 3) → (x1 = 4) → wp xs d mX5_flockBody 0 [(2, 33), (3, 0), (3, 0), (3, 0), (3, 0), (3, 0), (3, 0)] [] z_LL M (fun r L1 M1 => wp xs (d + 1) mX5_line 148 [(2, 33), (0, x1)] (z_ol r ++ []) L1 M1 P))
    (l6 : (¬ x1 = 0) → (¬ x1 = 1) → (¬ x1 = 2) → (¬ x1 = 3) → (¬ x1 = 4) → (x1 = 5) → wp xs d mX5_number 0 [(2, 33), (0, 0), (0, 999), (3, 0)] [] z_LL M (fun r L1 M1 => wp xs (d + 1) mX5_line 210 [(2, 33), (0, x1)] (z_ol r ++ [(2, (M 33 3))]) L1 M1 P))
    (l7 : (¬ x1 = 0) → (¬ x1 = 1) → (¬ x1 = 2) → (¬ x1 = 3) → (¬ x1 = 4) → (¬ x1 = 5) → (x1 = 6) → wp xs d mX5_number 0 [(2, 33), (0, 0), (0, 999), (3, 0)] [] z_LL M (fun r L1 M1 => wp xs (d + 1) mX5_line 210 [(2, 33), (0, x1)] (z_ol r ++ [(2, (M 33 3))]) L1 M1 P))
    (l8 : (¬ x1 = 0) → (¬ x1 = 1) → (¬ x1 = 2) → (¬ x1 = 3) → (¬ x1 = 4) → (¬ x1 = 5) → (¬ x1 = 6) → (x1 = 7) → wp xs d mX5_number 0 [(2, 33), (0, 0), (0, 999), (3, 0)] [] z_LL M (fun r L1 M1 => wp xs (d + 1) mX5_line 210 [(2, 33), (0, x1)] (z_ol r ++ [(2, (M 33 3))]) L1 M1 P))
    (l9 : (¬ x1 = 0) → (¬ x1 = 1) → (¬ x1 = 2) → (¬ x1 = 3) → (¬ x1 = 4) → (¬ x1 = 5) → (¬ x1 = 6) → (¬ x1 = 7) → (x1 = 8) → wp xs d mX5_number 0 [(2, 33), (0, 0), (0, 999), (3, 0)] [] z_LL M (fun r L1 M1 => wp xs (d + 1) mX5_line 210 [(2, 33), (0, x1)] (z_ol r ++ [(2, (M 33 3))]) L1 M1 P))
    (l10 : (¬ x1 = 0) → (¬ x1 = 1) → (¬ x1 = 2) → (¬ x1 = 3) → (¬ x1 = 4) → (¬ x1 = 5) → (¬ x1 = 6) → (¬ x1 = 7) → (¬ x1 = 8) → (x1 = 9) → wp xs d mX5_wantsBody 0 [(2, 33), (3, 0), (3, 0), (3, 0)] [] z_LL M (fun r L1 M1 => wp xs (d + 1) mX5_line 155 [(2, 33), (0, x1)] (z_ol r ++ []) L1 M1 P))
    (l11 : (¬ x1 = 0) → (¬ x1 = 1) → (¬ x1 = 2) → (¬ x1 = 3) → (¬ x1 = 4) → (¬ x1 = 5) → (¬ x1 = 6) → (¬ x1 = 7) → (¬ x1 = 8) → (¬ x1 = 9) → (x1 = 10) → wp xs d mX5_feudBody 0 [(2, 33), (3, 0), (3, 0)] [] z_LL M (fun r L1 M1 => wp xs (d + 1) mX5_line 162 [(2, 33), (0, x1)] (z_ol r ++ []) L1 M1 P))
    (l12 : (¬ x1 = 0) → (¬ x1 = 1) → (¬ x1 = 2) → (¬ x1 = 3) → (¬ x1 = 4) → (¬ x1 = 5) → (¬ x1 = 6) → (¬ x1 = 7) → (¬ x1 = 8) → (¬ x1 = 9) → (¬ x1 = 10) → (x1 = 11) → wp xs d mX5_formula 0 [(2, 33), (0, 0), (0, 0), (3, 0), (3, 0)] [] z_LL M (fun r L1 M1 => wp xs (d + 1) mX5_line 171 [(2, 33), (0, x1)] (z_ol r ++ []) L1 M1 P))
    (l13 : (¬ x1 = 0) → (¬ x1 = 1) → (¬ x1 = 2) → (¬ x1 = 3) → (¬ x1 = 4) → (¬ x1 = 5) → (¬ x1 = 6) → (¬ x1 = 7) → (¬ x1 = 8) → (¬ x1 = 9) → (¬ x1 = 10) → (¬ x1 = 11) → (x1 = 12) → wp xs d mX5_rainBody 0 [(2, 33)] [] z_LL M (fun r L1 M1 => wp xs (d + 1) mX5_line 178 [(2, 33), (0, x1)] (z_ol r ++ []) L1 M1 P))
    (l14 : (¬ x1 = 0) → (¬ x1 = 1) → (¬ x1 = 2) → (¬ x1 = 3) → (¬ x1 = 4) → (¬ x1 = 5) → (¬ x1 = 6) → (¬ x1 = 7) → (¬ x1 = 8) → (¬ x1 = 9) → (¬ x1 = 10) → (¬ x1 = 11) → (¬ x1 = 12) → (x1 = 13) → wp xs d mX5_number 0 [(2, 33), (0, 0), (0, 999), (3, 0)] [] z_LL M (fun r L1 M1 => wp xs (d + 1) mX5_line 210 [(2, 33), (0, x1)] (z_ol r ++ [(2, (M 33 3))]) L1 M1 P))
    (l15 : (¬ x1 = 0) → (¬ x1 = 1) → (¬ x1 = 2) → (¬ x1 = 3) → (¬ x1 = 4) → (¬ x1 = 5) → (¬ x1 = 6) → (¬ x1 = 7) → (¬ x1 = 8) → (¬ x1 = 9) → (¬ x1 = 10) → (¬ x1 = 11) → (¬ x1 = 12) → (¬ x1 = 13) → (x1 = 14) → wp xs d mX5_number 0 [(2, 33), (0, 1), (0, 20), (3, 0)] [] z_LL M (fun r L1 M1 => wp xs (d + 1) mX5_line 192 [(2, 33), (0, x1)] (z_ol r ++ [(2, (M 33 3))]) L1 M1 P))
    (l16 : (¬ x1 = 0) → (¬ x1 = 1) → (¬ x1 = 2) → (¬ x1 = 3) → (¬ x1 = 4) → (¬ x1 = 5) → (¬ x1 = 6) → (¬ x1 = 7) → (¬ x1 = 8) → (¬ x1 = 9) → (¬ x1 = 10) → (¬ x1 = 11) → (¬ x1 = 12) → (¬ x1 = 13) → (¬ x1 = 14) → wp xs d mX5_number 0 [(2, 33), (0, 0), (0, 999), (3, 0)] [] z_LL M (fun r L1 M1 => wp xs (d + 1) mX5_line 210 [(2, 33), (0, x1)] (z_ol r ++ [(2, (M 33 3))]) L1 M1 P)) :
    wp xs (d + 1) mX5_line 41 [(2, 33), (0, x1)] [] z_LL M P := by
  refine wp_run 1 (pc' := 42) (ls' := [(2, 33), (0, x1)]) (st' := [(0, x1)]) rfl ?_
  by_cases c1 : x1 = 0
  · refine wp_cast c1 ?_
    refine wp_run 2 (pc' := 117) (ls' := [(2, 33), (0, x1)]) (st' := [(2, 33)]) rfl ?_
    refine wp_callv (pc' := 120) (as := [(2, 33)]) (rest := []) (ls1 := [(2, 33)]) rfl rfl rfl rfl rfl rfl ?_
    exact l1 c1
  by_cases c2 : x1 = 1
  · refine wp_cast c2 ?_
    refine wp_run 2 (pc' := 199) (ls' := [(2, 33), (0, x1)]) (st' := [(2, 33)]) rfl ?_
    refine wp_gf (pc' := 202) (t := 2) (v := (M 33 3)) rfl rfl (by decide) rfl rfl rfl ?_
    refine wp_run 3 (pc' := 207) (ls' := [(2, 33), (0, x1)]) (st' := [(0, 999), (0, 0), (2, 33), (2, (M 33 3))]) rfl ?_
    refine wp_callv (pc' := 210) (as := [(2, 33), (0, 0), (0, 999)]) (rest := [(2, (M 33 3))]) (ls1 := [(2, 33), (0, 0), (0, 999), (3, 0)]) rfl rfl rfl rfl rfl rfl ?_
    exact l2 c1 c2
  by_cases c3 : x1 = 2
  · refine wp_cast c3 ?_
    refine wp_run 5 (pc' := 128) (ls' := [(2, 33), (0, x1)]) (st' := [(0, 9), (0, 0), (2, 33), (2, 33)]) rfl ?_
    refine wp_callv (pc' := 131) (as := [(2, 33), (0, 0), (0, 9)]) (rest := [(2, 33)]) (ls1 := [(2, 33), (0, 0), (0, 9), (3, 0)]) rfl rfl rfl rfl rfl rfl ?_
    exact l3 c1 c2 c3
  by_cases c4 : x1 = 3
  · refine wp_cast c4 ?_
    refine wp_run 2 (pc' := 138) (ls' := [(2, 33), (0, x1)]) (st' := [(2, 33)]) rfl ?_
    refine wp_callv (pc' := 141) (as := [(2, 33)]) (rest := []) (ls1 := [(2, 33), (3, 0), (3, 0), (3, 0)]) rfl rfl rfl rfl rfl rfl ?_
    exact l4 c1 c2 c3 c4
  by_cases c5 : x1 = 4
  · refine wp_cast c5 ?_
    refine wp_run 2 (pc' := 145) (ls' := [(2, 33), (0, x1)]) (st' := [(2, 33)]) rfl ?_
    refine wp_callv (pc' := 148) (as := [(2, 33)]) (rest := []) (ls1 := [(2, 33), (3, 0), (3, 0), (3, 0), (3, 0), (3, 0), (3, 0)]) rfl rfl rfl rfl rfl rfl ?_
    exact l5 c1 c2 c3 c4 c5
  by_cases c6 : x1 = 5
  · refine wp_cast c6 ?_
    refine wp_run 2 (pc' := 199) (ls' := [(2, 33), (0, x1)]) (st' := [(2, 33)]) rfl ?_
    refine wp_gf (pc' := 202) (t := 2) (v := (M 33 3)) rfl rfl (by decide) rfl rfl rfl ?_
    refine wp_run 3 (pc' := 207) (ls' := [(2, 33), (0, x1)]) (st' := [(0, 999), (0, 0), (2, 33), (2, (M 33 3))]) rfl ?_
    refine wp_callv (pc' := 210) (as := [(2, 33), (0, 0), (0, 999)]) (rest := [(2, (M 33 3))]) (ls1 := [(2, 33), (0, 0), (0, 999), (3, 0)]) rfl rfl rfl rfl rfl rfl ?_
    exact l6 c1 c2 c3 c4 c5 c6
  by_cases c7 : x1 = 6
  · refine wp_cast c7 ?_
    refine wp_run 2 (pc' := 199) (ls' := [(2, 33), (0, x1)]) (st' := [(2, 33)]) rfl ?_
    refine wp_gf (pc' := 202) (t := 2) (v := (M 33 3)) rfl rfl (by decide) rfl rfl rfl ?_
    refine wp_run 3 (pc' := 207) (ls' := [(2, 33), (0, x1)]) (st' := [(0, 999), (0, 0), (2, 33), (2, (M 33 3))]) rfl ?_
    refine wp_callv (pc' := 210) (as := [(2, 33), (0, 0), (0, 999)]) (rest := [(2, (M 33 3))]) (ls1 := [(2, 33), (0, 0), (0, 999), (3, 0)]) rfl rfl rfl rfl rfl rfl ?_
    exact l7 c1 c2 c3 c4 c5 c6 c7
  by_cases c8 : x1 = 7
  · refine wp_cast c8 ?_
    refine wp_run 2 (pc' := 199) (ls' := [(2, 33), (0, x1)]) (st' := [(2, 33)]) rfl ?_
    refine wp_gf (pc' := 202) (t := 2) (v := (M 33 3)) rfl rfl (by decide) rfl rfl rfl ?_
    refine wp_run 3 (pc' := 207) (ls' := [(2, 33), (0, x1)]) (st' := [(0, 999), (0, 0), (2, 33), (2, (M 33 3))]) rfl ?_
    refine wp_callv (pc' := 210) (as := [(2, 33), (0, 0), (0, 999)]) (rest := [(2, (M 33 3))]) (ls1 := [(2, 33), (0, 0), (0, 999), (3, 0)]) rfl rfl rfl rfl rfl rfl ?_
    exact l8 c1 c2 c3 c4 c5 c6 c7 c8
  by_cases c9 : x1 = 8
  · refine wp_cast c9 ?_
    refine wp_run 2 (pc' := 199) (ls' := [(2, 33), (0, x1)]) (st' := [(2, 33)]) rfl ?_
    refine wp_gf (pc' := 202) (t := 2) (v := (M 33 3)) rfl rfl (by decide) rfl rfl rfl ?_
    refine wp_run 3 (pc' := 207) (ls' := [(2, 33), (0, x1)]) (st' := [(0, 999), (0, 0), (2, 33), (2, (M 33 3))]) rfl ?_
    refine wp_callv (pc' := 210) (as := [(2, 33), (0, 0), (0, 999)]) (rest := [(2, (M 33 3))]) (ls1 := [(2, 33), (0, 0), (0, 999), (3, 0)]) rfl rfl rfl rfl rfl rfl ?_
    exact l9 c1 c2 c3 c4 c5 c6 c7 c8 c9
  by_cases c10 : x1 = 9
  · refine wp_cast c10 ?_
    refine wp_run 2 (pc' := 152) (ls' := [(2, 33), (0, x1)]) (st' := [(2, 33)]) rfl ?_
    refine wp_callv (pc' := 155) (as := [(2, 33)]) (rest := []) (ls1 := [(2, 33), (3, 0), (3, 0), (3, 0)]) rfl rfl rfl rfl rfl rfl ?_
    exact l10 c1 c2 c3 c4 c5 c6 c7 c8 c9 c10
  by_cases c11 : x1 = 10
  · refine wp_cast c11 ?_
    refine wp_run 2 (pc' := 159) (ls' := [(2, 33), (0, x1)]) (st' := [(2, 33)]) rfl ?_
    refine wp_callv (pc' := 162) (as := [(2, 33)]) (rest := []) (ls1 := [(2, 33), (3, 0), (3, 0)]) rfl rfl rfl rfl rfl rfl ?_
    exact l11 c1 c2 c3 c4 c5 c6 c7 c8 c9 c10 c11
  by_cases c12 : x1 = 11
  · refine wp_cast c12 ?_
    refine wp_run 4 (pc' := 168) (ls' := [(2, 33), (0, x1)]) (st' := [(0, 0), (0, 0), (2, 33)]) rfl ?_
    refine wp_callv (pc' := 171) (as := [(2, 33), (0, 0), (0, 0)]) (rest := []) (ls1 := [(2, 33), (0, 0), (0, 0), (3, 0), (3, 0)]) rfl rfl rfl rfl rfl rfl ?_
    exact l12 c1 c2 c3 c4 c5 c6 c7 c8 c9 c10 c11 c12
  by_cases c13 : x1 = 12
  · refine wp_cast c13 ?_
    refine wp_run 2 (pc' := 175) (ls' := [(2, 33), (0, x1)]) (st' := [(2, 33)]) rfl ?_
    refine wp_callv (pc' := 178) (as := [(2, 33)]) (rest := []) (ls1 := [(2, 33)]) rfl rfl rfl rfl rfl rfl ?_
    exact l13 c1 c2 c3 c4 c5 c6 c7 c8 c9 c10 c11 c12 c13
  by_cases c14 : x1 = 13
  · refine wp_cast c14 ?_
    refine wp_run 2 (pc' := 199) (ls' := [(2, 33), (0, x1)]) (st' := [(2, 33)]) rfl ?_
    refine wp_gf (pc' := 202) (t := 2) (v := (M 33 3)) rfl rfl (by decide) rfl rfl rfl ?_
    refine wp_run 3 (pc' := 207) (ls' := [(2, 33), (0, x1)]) (st' := [(0, 999), (0, 0), (2, 33), (2, (M 33 3))]) rfl ?_
    refine wp_callv (pc' := 210) (as := [(2, 33), (0, 0), (0, 999)]) (rest := [(2, (M 33 3))]) (ls1 := [(2, 33), (0, 0), (0, 999), (3, 0)]) rfl rfl rfl rfl rfl rfl ?_
    exact l14 c1 c2 c3 c4 c5 c6 c7 c8 c9 c10 c11 c12 c13 c14
  by_cases c15 : x1 = 14
  · refine wp_cast c15 ?_
    refine wp_run 2 (pc' := 182) (ls' := [(2, 33), (0, x1)]) (st' := [(2, 33)]) rfl ?_
    refine wp_gf (pc' := 185) (t := 2) (v := (M 33 3)) rfl rfl (by decide) rfl rfl rfl ?_
    refine wp_run 3 (pc' := 189) (ls' := [(2, 33), (0, x1)]) (st' := [(0, 20), (0, 1), (2, 33), (2, (M 33 3))]) rfl ?_
    refine wp_callv (pc' := 192) (as := [(2, 33), (0, 1), (0, 20)]) (rest := [(2, (M 33 3))]) (ls1 := [(2, 33), (0, 1), (0, 20), (3, 0)]) rfl rfl rfl rfl rfl rfl ?_
    exact l15 c1 c2 c3 c4 c5 c6 c7 c8 c9 c10 c11 c12 c13 c14 c15
  refine wp_swd rfl rfl (by omega) ?_
  refine wp_run 1 (pc' := 199) (ls' := [(2, 33), (0, x1)]) (st' := [(2, 33)]) rfl ?_
  refine wp_gf (pc' := 202) (t := 2) (v := (M 33 3)) rfl rfl (by decide) rfl rfl rfl ?_
  refine wp_run 3 (pc' := 207) (ls' := [(2, 33), (0, x1)]) (st' := [(0, 999), (0, 0), (2, 33), (2, (M 33 3))]) rfl ?_
  refine wp_callv (pc' := 210) (as := [(2, 33), (0, 0), (0, 999)]) (rest := [(2, (M 33 3))]) (ls1 := [(2, 33), (0, 0), (0, 999), (3, 0)]) rfl rfl rfl rfl rfl rfl ?_
  exact l16 c1 c2 c3 c4 c5 c6 c7 c8 c9 c10 c11 c12 c13 c14 c15
set_option maxRecDepth 20000 in
theorem gX5_line_120 {xs : List Int} {d : Nat} {M : z_M} {P : Option z_V → z_L → z_M → Prop} {x1 : Int} 
    (l1 : wp xs d mX5_line 213 [(2, 33), (0, x1)] [] z_LL M P) :
    wp xs d mX5_line 120 [(2, 33), (0, x1)] [] z_LL M P := by
  refine wp_run 1 (pc' := 213) (ls' := [(2, 33), (0, x1)]) (st' := []) rfl ?_
  exact l1
set_option maxRecDepth 20000 in
theorem gX5_line_131 {xs : List Int} {d : Nat} {M : z_M} {P : Option z_V → z_L → z_M → Prop} {x1 : Int} {s1 : Int} 
    (l1 : wp xs d mX5_line 213 [(2, 33), (0, x1)] [] z_LL (z_up M 33 6 s1) P) :
    wp xs d mX5_line 131 [(2, 33), (0, x1)] [(0, s1), (2, 33)] z_LL M P := by
  refine wp_pf (pc' := 134) rfl rfl rfl rfl (fun z => absurd z (by decide)) (fun z => absurd z (by decide)) ?_
  refine wp_run 1 (pc' := 213) (ls' := [(2, 33), (0, x1)]) (st' := []) rfl ?_
  exact l1
set_option maxRecDepth 20000 in
theorem gX5_line_141 {xs : List Int} {d : Nat} {M : z_M} {P : Option z_V → z_L → z_M → Prop} {x1 : Int} 
    (l1 : wp xs d mX5_line 213 [(2, 33), (0, x1)] [] z_LL M P) :
    wp xs d mX5_line 141 [(2, 33), (0, x1)] [] z_LL M P := by
  refine wp_run 1 (pc' := 213) (ls' := [(2, 33), (0, x1)]) (st' := []) rfl ?_
  exact l1
set_option maxRecDepth 20000 in
theorem gX5_line_148 {xs : List Int} {d : Nat} {M : z_M} {P : Option z_V → z_L → z_M → Prop} {x1 : Int} 
    (l1 : wp xs d mX5_line 213 [(2, 33), (0, x1)] [] z_LL M P) :
    wp xs d mX5_line 148 [(2, 33), (0, x1)] [] z_LL M P := by
  refine wp_run 1 (pc' := 213) (ls' := [(2, 33), (0, x1)]) (st' := []) rfl ?_
  exact l1
set_option maxRecDepth 20000 in
theorem gX5_line_155 {xs : List Int} {d : Nat} {M : z_M} {P : Option z_V → z_L → z_M → Prop} {x1 : Int} 
    (l1 : wp xs d mX5_line 213 [(2, 33), (0, x1)] [] z_LL M P) :
    wp xs d mX5_line 155 [(2, 33), (0, x1)] [] z_LL M P := by
  refine wp_run 1 (pc' := 213) (ls' := [(2, 33), (0, x1)]) (st' := []) rfl ?_
  exact l1
set_option maxRecDepth 20000 in
theorem gX5_line_162 {xs : List Int} {d : Nat} {M : z_M} {P : Option z_V → z_L → z_M → Prop} {x1 : Int} 
    (l1 : wp xs d mX5_line 213 [(2, 33), (0, x1)] [] z_LL M P) :
    wp xs d mX5_line 162 [(2, 33), (0, x1)] [] z_LL M P := by
  refine wp_run 1 (pc' := 213) (ls' := [(2, 33), (0, x1)]) (st' := []) rfl ?_
  exact l1
set_option maxRecDepth 20000 in
theorem gX5_line_171 {xs : List Int} {d : Nat} {M : z_M} {P : Option z_V → z_L → z_M → Prop} {x1 : Int} 
    (l1 : wp xs d mX5_line 213 [(2, 33), (0, x1)] [] z_LL M P) :
    wp xs d mX5_line 171 [(2, 33), (0, x1)] [] z_LL M P := by
  refine wp_run 1 (pc' := 213) (ls' := [(2, 33), (0, x1)]) (st' := []) rfl ?_
  exact l1
set_option maxRecDepth 20000 in
theorem gX5_line_178 {xs : List Int} {d : Nat} {M : z_M} {P : Option z_V → z_L → z_M → Prop} {x1 : Int} 
    (l1 : wp xs d mX5_line 213 [(2, 33), (0, x1)] [] z_LL M P) :
    wp xs d mX5_line 178 [(2, 33), (0, x1)] [] z_LL M P := by
  refine wp_run 1 (pc' := 213) (ls' := [(2, 33), (0, x1)]) (st' := []) rfl ?_
  exact l1
set_option maxRecDepth 20000 in
theorem gX5_line_192 {xs : List Int} {d : Nat} {M : z_M} {P : Option z_V → z_L → z_M → Prop} {x1 : Int} {s0 : Int} {s1 : Int} (hs0 : z_gor M s0)
    (l1 : wp xs d mX5_line 213 [(2, 33), (0, x1)] [] z_LL (z_up M s0 18 s1) P) :
    wp xs d mX5_line 192 [(2, 33), (0, x1)] [(0, s1), (2, s0)] z_LL M P := by
  refine wp_pf (pc' := 195) rfl rfl rfl (z_gl0 hs0) (fun z => absurd z (by decide)) (fun z => absurd z (by decide)) ?_
  refine wp_run 1 (pc' := 213) (ls' := [(2, 33), (0, x1)]) (st' := []) rfl ?_
  exact l1
set_option maxRecDepth 20000 in
theorem gX5_line_210 {xs : List Int} {d : Nat} {M : z_M} {P : Option z_V → z_L → z_M → Prop} {x1 : Int} {s0 : Int} {s1 : Int} (hs0 : z_gor M s0)
    (l1 : wp xs d mX5_line 213 [(2, 33), (0, x1)] [] z_LL (z_up M s0 19 s1) P) :
    wp xs d mX5_line 210 [(2, 33), (0, x1)] [(0, s1), (2, s0)] z_LL M P := by
  refine wp_pf (pc' := 213) rfl rfl rfl (z_gl0 hs0) (fun z => absurd z (by decide)) (fun z => absurd z (by decide)) ?_
  exact l1
set_option maxRecDepth 20000 in
theorem gX5_line_213 {xs : List Int} {d : Nat} {M : z_M} {P : Option z_V → z_L → z_M → Prop} {x1 : Int} 
    (l1 : wp xs d mX5_need 0 [(2, 33), (0, 59)] [] z_LL M (fun r L1 M1 => wp xs (d + 1) mX5_line 219 [(2, 33), (0, x1)] (z_ol r ++ []) L1 M1 P)) :
    wp xs (d + 1) mX5_line 213 [(2, 33), (0, x1)] [] z_LL M P := by
  refine wp_run 2 (pc' := 216) (ls' := [(2, 33), (0, x1)]) (st' := [(0, 59), (2, 33)]) rfl ?_
  refine wp_callv (pc' := 219) (as := [(2, 33), (0, 59)]) (rest := []) (ls1 := [(2, 33), (0, 59)]) rfl rfl rfl rfl rfl rfl ?_
  exact l1
set_option maxRecDepth 20000 in
theorem gX5_line_219 {xs : List Int} {d : Nat} {M : z_M} {P : Option z_V → z_L → z_M → Prop} {x1 : Int} 
    (l1 : P none z_LL M) :
    wp xs d mX5_line 219 [(2, 33), (0, x1)] [] z_LL M P := by
  exact wp_ret rfl rfl (l1)
def zl_fl (k : Int) : Int := if k = 2 then 54 else if k = 11 then 55 else if k = 12 then 56 else if k = 14 then 57 else if k = 15 then 58 else 53
def zl_on (k : Int) (G : z_M) : z_M := z_up (z_up G 321 53 1) 321 (zl_fl k) 1
def zl_may (G : z_M) (k : Int) : Prop := (k = 0 ∧ G 321 53 = 0) ∨ (k = 2 ∧ G 321 54 = 0) ∨ (k = 3 ∧ G 321 39 < 8) ∨ (k = 4 ∧ G 321 40 < 6) ∨ k = 9 ∨ (k = 10 ∧ G 321 41 < 15) ∨ (k = 11 ∧ G 321 55 = 0) ∨ (k = 12 ∧ G 321 56 = 0) ∨ (k = 14 ∧ G 321 57 = 0) ∨ (k = 15 ∧ G 321 58 = 0)
noncomputable def zl_body (b : Int → Int) (n k p : Int) (G : z_M) : zs_S × z_M :=
  if k = 0 then zb_gorge b n (.ok p) G
  else if k = 2 then (zs_nm b n 0 9 (.ok p), z_up G 321 38 (zs_v b n (.ok p)))
  else if k = 3 then zb_grass b n (.ok p) G
  else if k = 4 then zb_flock b n p G
  else if k = 9 then zb_wants b n (.ok p) G
  else if k = 10 then zb_feud b n (.ok p) G
  else if k = 11 then (zf b n 7).1 (.ok p, G)
  else if k = 12 then zb_rain b n (.ok p) G
  else if k = 14 then (zs_nm b n 1 20 (.ok p), z_up G 321 44 (zs_v b n (.ok p)))
  else (zs_nm b n 0 999 (.ok p), z_up G 321 45 (zs_v b n (.ok p)))
noncomputable def zl (b : Int → Int) (n p : Int) (G : z_M) : zs_S × z_M := @ite _ (zl_may G (zt_k b n p)) (Classical.propDecidable _) (zs_nd b n 59 (zl_body b n (zt_k b n p) (zt_x b n p) (zl_on (zt_k b n p) G)).1, (zl_body b n (zt_k b n p) (zt_x b n p) (zl_on (zt_k b n p) G)).2) (.error (zs_f b n p 2), G)
theorem zl_or {x y : Nat} (hx : x < 65536) (hy : y < 65536) : z_or x y = ((x ||| y : Nat) : Int) := by
  have h : x ||| y < 2 ^ 16 := Nat.or_lt_two_pow (n := 16) hx hy
  unfold z_or
  show (Int32.ofInt (x : Int) ||| Int32.ofInt (y : Int)).toBitVec.toInt = _
  have e : (Int32.ofInt (x : Int) ||| Int32.ofInt (y : Int)).toBitVec.toNat = x ||| y := by
    rw [Int32.toBitVec_or, Int32.toBitVec_ofInt, Int32.toBitVec_ofInt, BitVec.ofInt_natCast, BitVec.ofInt_natCast, BitVec.toNat_or, BitVec.toNat_ofNat, BitVec.toNat_ofNat, Nat.mod_eq_of_lt (by omega), Nat.mod_eq_of_lt (by omega)]
  rw [BitVec.toInt_eq_toNat_of_lt (by rw [e]; omega), e]
section
variable {xs : List Int} {d : Nat} {M G : z_M} {b : Int → Int} {n g p kk : Int}
theorem zl_on_r : (∀ q, q ≠ 321 → zl_on kk G q = G q) ∧ (∀ j, j ≠ 53 → j ≠ zl_fl kk → zl_on kk G 321 j = G 321 j) ∧ zl_on kk G 321 53 = 1 ∧ zl_on kk G 321 (zl_fl kk) = 1 := by
  unfold zl_on
  refine ⟨fun q h => by rw [z_upn h, z_upn h], fun j h1 h2 => by rw [z_upi h2 rfl, z_upi h1 rfl], ?_, z_ups⟩
  by_cases e : (53 : Int) = zl_fl kk
  · rw [← e, z_ups]
  · rw [z_upi e rfl, z_ups]
theorem zl_fl_r : 53 ≤ zl_fl kk ∧ zl_fl kk ≤ 58 := by
  unfold zl_fl
  repeat' split
  all_goals omega
theorem zgB_on (h : zgB M G) (hk : 0 ≤ kk ∧ kk ≤ 15) {M' : z_M} (e : M' 33 4 = z_or (M 33 4) (z_shl 1 kk)) : zgB M' (zl_on kk G) := by
  obtain ⟨h1, h2, h3, h4, h5, h6, h7⟩ := h
  obtain ⟨v, hv⟩ : ∃ v : Nat, M 33 4 = (v : Int) := ⟨(M 33 4).toNat, by omega⟩
  obtain ⟨k, rfl⟩ : ∃ k : Nat, kk = (k : Int) := ⟨kk.toNat, by omega⟩
  obtain ⟨r1, r2, r3, r4⟩ := zl_on_r (kk := (k : Int)) (G := G)
  have hp : 2 ^ k < 65536 := by
    have : (2 : Nat) ^ k ≤ 2 ^ 15 := Nat.pow_le_pow_right (by decide) (by omega)
    omega
  have e1 : M' 33 4 = ((v ||| 2 ^ k : Nat) : Int) := by
    rw [e, hv, z_shl1 k (by omega), zl_or (by omega) hp]
  have lt : v ||| 2 ^ k < 2 ^ 16 := Nat.or_lt_two_pow (n := 16) (by omega) hp
  have ge : 2 ^ k ≤ v ||| 2 ^ k := Nat.right_le_or
  have pos : 0 < 2 ^ k := Nat.pow_pos (by decide)
  have bit : ∀ c : Int, 0 ≤ c → c < 32 → (z_bt (M' 33 4) c ↔ z_bt (M 33 4) c ∨ (k : Int) = c) := fun c c1 c2 => by
    rw [e, z_bt_or ⟨c1, c2⟩, z_bt_shl ⟨by omega, by omega⟩ ⟨c1, c2⟩]
  have one : ∀ c fld : Int, 0 ≤ c → c < 32 → (z_bt (M 33 4) c ↔ G 321 fld ≠ 0) → zl_fl c = fld → fld ≠ 53 → (∀ c', zl_fl c' = fld → c' = c) → (z_bt (M' 33 4) c ↔ zl_on (k : Int) G 321 fld ≠ 0) := fun c fld c1 c2 hb hf h53 inj => by
    rw [bit c c1 c2]
    by_cases w : (k : Int) = c
    · rw [← hf, ← w, r4]
      exact ⟨fun _ => by decide, fun _ => Or.inr rfl⟩
    · rw [r2 fld h53 (fun z => w (inj _ z.symm)), ← hb]
      exact ⟨fun z => z.elim id (fun z => absurd z w), Or.inl⟩
  have inj : ∀ c fld : Int, zl_fl c = fld → fld ≠ 53 → ∀ c', zl_fl c' = fld → c' = c := fun c fld hc h5 c' hc' => by
    rw [← hc'] at hc h5
    unfold zl_fl at hc h5
    repeat' split at h5
    all_goals (repeat' split at hc)
    all_goals omega
  refine ⟨by rw [e1]; omega, ?_, one 2 54 (by decide) (by decide) h3 (by decide) (by decide) (inj 2 54 (by decide) (by decide)), one 11 55 (by decide) (by decide) h4 (by decide) (by decide) (inj 11 55 (by decide) (by decide)), one 12 56 (by decide) (by decide) h5 (by decide) (by decide) (inj 12 56 (by decide) (by decide)), one 14 57 (by decide) (by decide) h6 (by decide) (by decide) (inj 14 57 (by decide) (by decide)), one 15 58 (by decide) (by decide) h7 (by decide) (by decide) (inj 15 58 (by decide) (by decide))⟩
  rw [r3, e1]
  omega
theorem zg_on (h : zg_c M g G) (hz : zg_z G) (hk : 0 ≤ kk ∧ kk ≤ 15) : zg_c (z_up M 33 4 (z_or (M 33 4) (z_shl 1 kk))) g (zl_on kk G) ∧ zg_z (zl_on kk G) := by
  obtain ⟨r1, r2, r3, r4⟩ := zl_on_r (kk := kk) (G := G)
  have fl := zl_fl_r (kk := kk)
  have rr : ∀ j, j < 53 → zl_on kk G 321 j = G 321 j := fun j hj => r2 j (by omega) (by omega)
  obtain ⟨h1, h2, a, b, c, d, e, i, y, k, l⟩ := h
  have hg := z_gsep h2
  have o : ∀ q, q ≠ 33 → z_up M 33 4 (z_or (M 33 4) (z_shl 1 kk)) q = M q := fun q w => z_upn w
  have o3 : ∀ j, j ≠ 4 → z_up M 33 4 (z_or (M 33 4) (z_shl 1 kk)) 33 j = M 33 j := fun j w => z_upi w rfl
  refine ⟨⟨by rw [o3 3 (by decide)]; exact h1, z_gor_q (o _ (by omega)) h2, ?_, zgN_q (o _ (by omega)) (rr 40 (by decide)) (r1 323 (by decide)) b, zgF_q ⟨o _ (by omega), o _ (by omega), o _ (by omega)⟩ (rr 40 (by decide)) ⟨r1 332 (by decide), r1 333 (by decide), r1 334 (by decide)⟩ c, zgE_q (o _ (by omega)) (rr 40 (by decide)) (r1 336 (by decide)) d, zgW_q (o _ (by omega)) (rr 40 (by decide)) (r1 335 (by decide)) e, zgG_q (o _ (by omega)) (r1 331 (by decide)) i, zgT_q (o _ (by omega)) (rr 17 (by decide)) ⟨r1 324 (by decide), r1 325 (by decide)⟩ y, zgB_on k hk z_ups, ?_⟩, ?_⟩
  · unfold zgA at a ⊢
    rw [o g (by omega), rr 36 (by decide), rr 37 (by decide), rr 40 (by decide), rr 41 (by decide), rr 20 (by decide), rr 17 (by decide), rr 42 (by decide), rr 43 (by decide), rr 44 (by decide), rr 45 (by decide)]
    exact a
  · unfold zgL at l ⊢
    rw [o3 5 (by decide), o3 6 (by decide), rr 39 (by decide), rr 38 (by decide)]
    exact l
  · unfold zg_z at hz ⊢
    rw [rr 36 (by decide), rr 37 (by decide), rr 40 (by decide), rr 41 (by decide), rr 20 (by decide), rr 17 (by decide), rr 39 (by decide), r1 323 (by decide), r1 335 (by decide)]
    exact hz
/-- green is told -/
theorem zg_gr {v : Int} (h : zg_c M g G) (hz : zg_z G) : zg_c (z_up M 33 6 v) g (z_up G 321 38 v) ∧ zg_z (z_up G 321 38 v) := by
  have r2 : ∀ j, j ≠ 38 → z_up G 321 38 v 321 j = G 321 j := fun j w => z_upi w rfl
  have r1 : ∀ q, q ≠ 321 → z_up G 321 38 v q = G q := fun q w => z_upn w
  obtain ⟨h1, h2, a, b, c, d, e, i, y, k, l⟩ := h
  have hg := z_gsep h2
  have o : ∀ q, q ≠ 33 → z_up M 33 6 v q = M q := fun q w => z_upn w
  have o3 : ∀ j, j ≠ 6 → z_up M 33 6 v 33 j = M 33 j := fun j w => z_upi w rfl
  refine ⟨⟨by rw [o3 3 (by decide)]; exact h1, z_gor_q (o _ (by omega)) h2, ?_, zgN_q (o _ (by omega)) (r2 40 (by decide)) (r1 323 (by decide)) b, zgF_q ⟨o _ (by omega), o _ (by omega), o _ (by omega)⟩ (r2 40 (by decide)) ⟨r1 332 (by decide), r1 333 (by decide), r1 334 (by decide)⟩ c, zgE_q (o _ (by omega)) (r2 40 (by decide)) (r1 336 (by decide)) d, zgW_q (o _ (by omega)) (r2 40 (by decide)) (r1 335 (by decide)) e, zgG_q (o _ (by omega)) (r1 331 (by decide)) i, zgT_q (o _ (by omega)) (r2 17 (by decide)) ⟨r1 324 (by decide), r1 325 (by decide)⟩ y, zgB_q (o3 4 (by decide)) (fun q w1 w2 => r2 q (by omega)) k, ?_⟩, zg_z_u hz (fun w => by omega) (by omega)⟩
  · unfold zgA at a ⊢
    rw [o g (by omega), r2 36 (by decide), r2 37 (by decide), r2 40 (by decide), r2 41 (by decide), r2 20 (by decide), r2 17 (by decide), r2 42 (by decide), r2 43 (by decide), r2 44 (by decide), r2 45 (by decide)]
    exact a
  · unfold zgL at l ⊢
    rw [o3 5 (by decide), z_ups, r2 39 (by decide), z_ups]
    exact ⟨l.1, rfl⟩
theorem zl_may_0 : zl_may G 0 ↔ G 321 53 = 0 := by simp [zl_may]
theorem zl_may_2 : zl_may G 2 ↔ G 321 54 = 0 := by simp [zl_may]
theorem zl_may_3 : zl_may G 3 ↔ G 321 39 < 8 := by simp [zl_may]
theorem zl_may_4 : zl_may G 4 ↔ G 321 40 < 6 := by simp [zl_may]
theorem zl_may_10 : zl_may G 10 ↔ G 321 41 < 15 := by simp [zl_may]
theorem zl_may_11 : zl_may G 11 ↔ G 321 55 = 0 := by simp [zl_may]
theorem zl_may_12 : zl_may G 12 ↔ G 321 56 = 0 := by simp [zl_may]
theorem zl_may_14 : zl_may G 14 ↔ G 321 57 = 0 := by simp [zl_may]
theorem zl_may_15 : zl_may G 15 ↔ G 321 58 = 0 := by simp [zl_may]
theorem zl_may_9 : zl_may G 9 := by simp [zl_may]
theorem zl_may_k {x : Int} (w : zl_may G x) : 0 ≤ x ∧ x ≤ 15 := by
  unfold zl_may at w
  rcases w with w | w | w | w | w | w | w | w | w | w <;> omega
theorem zl_may_n {x : Int} (h : x ≠ 0 ∧ x ≠ 2 ∧ x ≠ 3 ∧ x ≠ 4 ∧ x ≠ 9 ∧ x ≠ 10 ∧ x ≠ 11 ∧ x ≠ 12 ∧ x ≠ 14 ∧ x ≠ 15) : ¬ zl_may G x := by
  intro w
  unfold zl_may at w
  rcases w with w | w | w | w | w | w | w | w | w | w <;> omega
theorem s_X5_mayBegin {P : Option z_V → z_L → z_M → Prop} {x : Int} (hg : zg_c M g G) (k : P (some (0, z_b (zl_may G x))) z_LL M) : wp xs d mX5_mayBegin 0 [(2, 33), (0, x)] [] z_LL M P := by
  have g0 := gX5_mayBegin_0 (M := M) (xs := xs) (d := d) (P := P) (a1 := x) (by rw [hg.1]; exact hg.2.1)
  have e12 : M g 12 = G 321 40 := hg.2.2.1.2.2.1
  have e13 : M g 13 = G 321 41 := hg.2.2.1.2.2.2.1
  have e5 : M 33 5 = G 321 39 := hg.2.2.2.2.2.2.2.2.2.2.1
  obtain ⟨h1, h2, h3, h4, h5, h6, h7⟩ := hg.2.2.2.2.2.2.2.2.2.1
  unfold z_bt at h3 h4 h5 h6 h7
  rw [hg.1, e12, e13, e5] at g0
  clear hg
  apply g0
  case l1 => intro e w; subst e; rw [z_b_f (fun c => w (h2.mpr (zl_may_0.mp c)))] at k; exact k
  case l2 => intro e w; subst e; rw [z_b_t (zl_may_0.mpr (h2.mp (Classical.byContradiction w)))] at k; exact k
  case l3 => intro _ e; subst e; rw [z_b_f (zl_may_n (by decide))] at k; exact k
  case l4 => intro _ _ e w; subst e; rw [z_b_f (fun c => h3.mp w (zl_may_2.mp c))] at k; exact k
  case l5 => intro _ _ e w; subst e; rw [z_b_t (zl_may_2.mpr (Classical.byContradiction (fun c => w (h3.mpr c))))] at k; exact k
  case l6 => intro _ _ _ e w; subst e; rw [z_b_f (fun c => absurd (zl_may_3.mp c) (by clear h2 h3 h4 h5 h6 h7; omega))] at k; exact k
  case l7 => intro _ _ _ e w; subst e; rw [z_b_t (zl_may_3.mpr (by clear h2 h3 h4 h5 h6 h7; omega))] at k; exact k
  case l8 => intro _ _ _ _ e w; subst e; rw [z_b_f (fun c => absurd (zl_may_4.mp c) (by clear h2 h3 h4 h5 h6 h7; omega))] at k; exact k
  case l9 => intro _ _ _ _ e w; subst e; rw [z_b_t (zl_may_4.mpr (by clear h2 h3 h4 h5 h6 h7; omega))] at k; exact k
  case l10 => intro _ _ _ _ _ e; subst e; rw [z_b_f (zl_may_n (by decide))] at k; exact k
  case l11 => intro _ _ _ _ _ _ e; subst e; rw [z_b_f (zl_may_n (by decide))] at k; exact k
  case l12 => intro _ _ _ _ _ _ _ e; subst e; rw [z_b_f (zl_may_n (by decide))] at k; exact k
  case l13 => intro _ _ _ _ _ _ _ _ e; subst e; rw [z_b_f (zl_may_n (by decide))] at k; exact k
  case l14 => intro _ _ _ _ _ _ _ _ _ e; subst e; rw [z_b_t zl_may_9] at k; exact k
  case l15 => intro _ _ _ _ _ _ _ _ _ _ e w; subst e; rw [z_b_f (fun c => absurd (zl_may_10.mp c) (by clear h2 h3 h4 h5 h6 h7; omega))] at k; exact k
  case l16 => intro _ _ _ _ _ _ _ _ _ _ e w; subst e; rw [z_b_t (zl_may_10.mpr (by clear h2 h3 h4 h5 h6 h7; omega))] at k; exact k
  case l17 => intro _ _ _ _ _ _ _ _ _ _ _ e w; subst e; rw [z_b_f (fun c => h4.mp w (zl_may_11.mp c))] at k; exact k
  case l18 => intro _ _ _ _ _ _ _ _ _ _ _ e w; subst e; rw [z_b_t (zl_may_11.mpr (Classical.byContradiction (fun c => w (h4.mpr c))))] at k; exact k
  case l19 => intro _ _ _ _ _ _ _ _ _ _ _ _ e w; subst e; rw [z_b_f (fun c => h5.mp w (zl_may_12.mp c))] at k; exact k
  case l20 => intro _ _ _ _ _ _ _ _ _ _ _ _ e w; subst e; rw [z_b_t (zl_may_12.mpr (Classical.byContradiction (fun c => w (h5.mpr c))))] at k; exact k
  case l21 => intro _ _ _ _ _ _ _ _ _ _ _ _ _ e; subst e; rw [z_b_f (zl_may_n (by decide))] at k; exact k
  case l22 => intro _ _ _ _ _ _ _ _ _ _ _ _ _ _ e w; subst e; rw [z_b_f (fun c => h6.mp w (zl_may_14.mp c))] at k; exact k
  case l23 => intro _ _ _ _ _ _ _ _ _ _ _ _ _ _ e w; subst e; rw [z_b_t (zl_may_14.mpr (Classical.byContradiction (fun c => w (h6.mpr c))))] at k; exact k
  case l24 => intro _ _ _ _ _ _ _ _ _ _ _ _ _ _ _ e w; subst e; rw [z_b_f (fun c => h7.mp w (zl_may_15.mp c))] at k; exact k
  case l25 => intro _ _ _ _ _ _ _ _ _ _ _ _ _ _ _ e w; subst e; rw [z_b_t (zl_may_15.mpr (Classical.byContradiction (fun c => w (h7.mpr c))))] at k; exact k
  case l26 => intro a0 a1 a2 a3 a4 a5 a6 a7 a8 a9 a10 a11 a12 a13 a14 a15; rw [z_b_f (zl_may_n ⟨a0, a2, a3, a4, a9, a10, a11, a12, a14, a15⟩)] at k; exact k
theorem k_line {P : Option z_V → z_L → z_M → Prop} (hF : z_fix M) (hc : zs_c M b n (.ok p)) (hg : zg_c M g G) (hz : zg_z G) (k : ∀ M' : z_M, zl_f g M M' → zk b n g M' (zl b n p G) → P none z_LL M') : wp xs (d + 80) mX5_line 0 [(2, 33), (3, 0)] [] z_LL M P := by
  have hs := z_gsep hg.2.1
  obtain ⟨n0, n3, np, -, -⟩ := zs_c_o hc
  refine gX5_line_0 (d := d + 79) hF ?_
  rw [n3]
  refine s_X5_mayBegin hg ?_
  have t0 := gX5_line_13 (M := M) (xs := xs) (d := d + 78) (P := P) (x1 := zt_k b n p) (s0 := z_b (zl_may G (zt_k b n p))) hF
  rw [n3] at t0
  by_cases hm : zl_may G (zt_k b n p)
  · have el : zl b n p G = (zs_nd b n 59 (zl_body b n (zt_k b n p) (zt_x b n p) (zl_on (zt_k b n p) G)).1, (zl_body b n (zt_k b n p) (zt_x b n p) (zl_on (zt_k b n p) G)).2) := by
      unfold zl
      exact if_pos hm
    rw [el] at k
    generalize hkk : zt_k b n p = kk at *
    have hk : 0 ≤ kk ∧ kk ≤ 15 := zl_may_k hm
    have h0 : z_b (zl_may G kk) ≠ 0 := by rw [z_b_t hm]; decide
    refine t0 (fun _ => ?_) (fun w => absurd h0 w) (fun w => absurd h0 w) (fun w => absurd h0 w)
    obtain ⟨hg1, hz1⟩ := zg_on hg hz hk
    have l1 : zl_f g M (z_up M 33 4 (z_or (M 33 4) (z_shl 1 kk))) := zl_f_v (by decide)
    refine s_X5_next (d := d + 74) (zl_f_F l1 hs hF) (zs_c_u (by decide) (by decide) hc) (fun M2 f2 c2 => ?_)
    have l2 := zl_f_t l1 (zl_f_g (g := g) f2)
    have F2 := zl_f_F l2 hs hF
    have hg2 := zg_c_g hg1 f2
    obtain ⟨r1, r2, r3, r4⟩ := zl_on_r (kk := kk) (G := G)
    have fl := zl_fl_r (kk := kk)
    have e40 : zl_on kk G 321 40 = G 321 40 := r2 40 (by omega) (by omega)
    have e39 : zl_on kk G 321 39 = G 321 39 := r2 39 (by omega) (by omega)
    have e41 : zl_on kk G 321 41 = G 321 41 := r2 41 (by omega) (by omega)
    generalize hG1 : zl_on kk G = G1 at *
    generalize hp1 : zt_x b n p = p1 at *
    have fin : ∀ (M3 : z_M) (r : zs_S × z_M), zl_f g M M3 → zk b n g M3 r → zl_body b n kk p1 G1 = r → wp xs (d + 80) mX5_line 213 [(2, 33), (0, kk)] [] z_LL M3 P := fun M3 r l3 k3 er => by
      rw [er] at k
      obtain ⟨c3, G3, hg3, hz3, he3⟩ := k3
      exact gX5_line_213 (d := d + 79) (s_X5_need (d := d + 73) (zl_f_F l3 hs hF) c3 (fun M4 f4 c4 => gX5_line_219 (k M4 (zl_f_t l3 (zl_f_g f4)) ⟨c4, G3, zg_c_g hg3 f4, hz3, fun q hq => by
        obtain ⟨q2, hq2⟩ := zs_nd_k hq
        exact he3 q2 hq2⟩)))
    have t1 := gX5_line_41 (M := M2) (xs := xs) (d := d + 79) (P := P) (x1 := kk) (by rw [hg2.1]; exact hg2.2.1)
    rw [hg2.1] at t1
    have nm : ∀ (lo hi j fld : Int) (pc : Nat), zg_p j fld → ¬ (fld = 36 ∨ fld = 37) → 42 ≤ fld → lo ≤ hi → zl_body b n kk p1 G1 = (zs_nm b n lo hi (.ok p1), z_up G1 321 fld (zs_v b n (.ok p1))) → (∀ (v : Int) (M3 : z_M), z_gor M3 g → wp xs (d + 80) mX5_line 213 [(2, 33), (0, kk)] [] z_LL (z_up M3 g j v) P → wp xs (d + 80) mX5_line pc [(2, 33), (0, kk)] [(0, v), (2, g)] z_LL M3 P) → wp xs (d + 79) mX5_number 0 [(2, 33), (0, lo), (0, hi), (3, 0)] [] z_LL M2 (fun r L1 M1 => wp xs (d + 80) mX5_line pc [(2, 33), (0, kk)] (z_ol r ++ [(2, g)]) L1 M1 P) := fun lo hi j fld pc hp hf hf2 hl er next => by
      refine s_X5_number (d := d + 73) F2 c2 hl (fun v M3 f3 c3 b3 e3 => ?_)
      have hg3 := zg_c_g hg2 f3
      have l3 := zl_f_t l2 (zl_f_g (g := g) f3)
      refine next v M3 hg3.2.1 (fin _ _ (zl_f_t l3 (zl_f_u hs (by omega))) ⟨zs_c_u (by omega) (by omega) c3, _, zg_u (v := v) hg3 hp, zg_z_u hz1 (fun w => absurd w hf) (by unfold zg_p at hp; omega), fun q hq => by rw [e3 q hq]⟩ er)
    refine t1 (fun w => ?_) (fun _ w => ?_) (fun _ _ w => ?_) (fun _ _ _ w => ?_) (fun _ _ _ _ w => ?_) (fun _ _ _ _ _ w => ?_) (fun _ _ _ _ _ _ w => ?_) (fun _ _ _ _ _ _ _ w => ?_) (fun _ _ _ _ _ _ _ _ w => ?_) (fun _ _ _ _ _ _ _ _ _ w => ?_) (fun _ _ _ _ _ _ _ _ _ _ w => ?_) (fun _ _ _ _ _ _ _ _ _ _ _ w => ?_) (fun _ _ _ _ _ _ _ _ _ _ _ _ w => ?_) (fun _ _ _ _ _ _ _ _ _ _ _ _ _ w => ?_) (fun _ _ _ _ _ _ _ _ _ _ _ _ _ _ w => ?_) (fun w0 _ w2 w3 w4 _ _ _ _ w9 w10 w11 w12 _ w14 => ?_)
    · refine k_gorgeBody (d := d + 72) F2 c2 hg2 hz1 (fun M3 f3 k3 => gX5_line_120 (fin M3 _ (zl_f_t l2 f3) k3 ?_))
      unfold zl_body
      rw [if_pos w]
    · exact absurd hm (zl_may_n (by omega))
    · refine s_X5_number (d := d + 73) F2 c2 (by decide) (fun v M3 f3 c3 b3 e3 => ?_)
      have hg3 := zg_c_g hg2 f3
      have l3 := zl_f_t l2 (zl_f_g (g := g) f3)
      have gr := zg_gr (v := v) hg3 hz1
      refine gX5_line_131 (fin _ (zs_nm b n 0 9 (.ok p1), z_up G1 321 38 (zs_v b n (.ok p1))) (zl_f_t l3 (zl_f_v (by decide))) ⟨zs_c_u (by decide) (by decide) c3, _, gr.1, gr.2, fun q hq => by rw [e3 q hq]⟩ ?_)
      unfold zl_body
      rw [if_neg (by omega), if_pos w]
    · refine k_grassBody (d := d + 71) F2 c2 hg2 hz1 (by rw [w] at hm; have := zl_may_3.mp hm; omega) (fun M3 f3 k3 => gX5_line_141 (fin M3 _ (zl_f_t l2 f3) k3 ?_))
      unfold zl_body
      rw [if_neg (by omega), if_neg (by omega), if_pos w]
    · refine k_flockBody (d := d + 71) F2 c2 hg2 hz1 (by rw [w] at hm; have := zl_may_4.mp hm; omega) (fun M3 f3 k3 => gX5_line_148 (fin M3 _ (zl_f_t l2 f3) k3 ?_))
      unfold zl_body
      rw [if_neg (by omega), if_neg (by omega), if_neg (by omega), if_pos w]
    · exact absurd hm (zl_may_n (by omega))
    · exact absurd hm (zl_may_n (by omega))
    · exact absurd hm (zl_may_n (by omega))
    · exact absurd hm (zl_may_n (by omega))
    · refine k_wantsBody (d := d + 71) F2 c2 hg2 hz1 (fun M3 f3 k3 => gX5_line_155 (fin M3 _ (zl_f_t l2 f3) k3 ?_))
      unfold zl_body
      rw [if_neg (by omega), if_neg (by omega), if_neg (by omega), if_neg (by omega), if_pos w]
    · refine k_feudBody (d := d + 71) F2 c2 hg2 hz1 (by rw [w] at hm; have := zl_may_10.mp hm; omega) (fun M3 f3 k3 => gX5_line_162 (fin M3 _ (zl_f_t l2 f3) k3 ?_))
      unfold zl_body
      rw [if_neg (by omega), if_neg (by omega), if_neg (by omega), if_neg (by omega), if_neg (by omega), if_pos w]
    · refine (kf_all xs b n g 7 (by decide)).1 (d + 79) M2 G1 p1 _ (by omega) F2 c2 hg2 hz1 (fun M3 f3 k3 => gX5_line_171 (fin M3 _ (zl_f_t l2 f3) k3 ?_))
      unfold zl_body
      rw [if_neg (by omega), if_neg (by omega), if_neg (by omega), if_neg (by omega), if_neg (by omega), if_neg (by omega), if_pos w]
    · refine k_rainBody (d := d + 72) F2 c2 hg2 hz1 (fun M3 f3 k3 => gX5_line_178 (fin M3 _ (zl_f_t l2 f3) k3 ?_))
      unfold zl_body
      rw [if_neg (by omega), if_neg (by omega), if_neg (by omega), if_neg (by omega), if_neg (by omega), if_neg (by omega), if_neg (by omega), if_pos w]
    · exact absurd hm (zl_may_n (by omega))
    · refine nm 1 20 18 44 192 (by unfold zg_p; omega) (by decide) (by decide) (by decide) ?_ (fun v M3 hg3 h => gX5_line_192 hg3 h)
      unfold zl_body
      rw [if_neg (by omega), if_neg (by omega), if_neg (by omega), if_neg (by omega), if_neg (by omega), if_neg (by omega), if_neg (by omega), if_neg (by omega), if_pos w]
    · refine nm 0 999 19 45 210 (by unfold zg_p; omega) (by decide) (by decide) (by decide) ?_ (fun v M3 hg3 h => gX5_line_210 hg3 h)
      unfold zl_body
      rw [if_neg w0, if_neg w2, if_neg w3, if_neg w4, if_neg w9, if_neg w10, if_neg w11, if_neg w12, if_neg w14]
  · have h0 : ¬ z_b (zl_may G (zt_k b n p)) ≠ 0 := fun w => w (z_b_f hm)
    have el : zl b n p G = (.error (zs_f b n p 2), G) := by
      unfold zl
      exact if_neg hm
    rw [el] at k
    refine t0 (fun w => absurd w h0) (fun _ w => absurd n0 w) (fun _ _ w => ?_) (fun _ _ w => ?_)
    · have w3 := zs_c_w (c := 2) (v := 2) hc (by decide) (by unfold zs_f; rw [if_neg (by omega)])
      exact k _ (zl_f_g w3.2) ⟨w3.1, G, zg_c_g hg w3.2, hz, fun p' hp => by cases hp⟩
    · have w3 := zs_c_w (c := 2) (v := 1) hc (by decide) (by unfold zs_f; rw [if_pos (by omega)])
      exact k _ (zl_f_g w3.2) ⟨w3.1, G, zg_c_g hg w3.2, hz, fun p' hp => by cases hp⟩
end
