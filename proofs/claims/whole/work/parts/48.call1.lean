/-! THE CALLS: what is only looked up -/
section
variable {xs : List Int} {d : Nat} {M : z_M}
theorem z_R_f (h : z_R M) {f : Int} (h1 : 0 ≤ f) (h2 : f < M 321 48) : (M (M 1 2 + 1) f = M 342 f ∧ M (M 1 2 + 2) f = M 342 (12 + f) ∧ z_and (z_shr (M (M 1 2) 5) f) 1 = M 342 (6 + f)) ∧ M (M 1 0 + 2) f = M 337 f ∧ M (M 1 0 + 3) f = M 339 f ∧ M (M 1 0 + 4) f = M 338 f := by
  have H := z_R_H h
  have g := (z_R_g h).2.2.1 f h1 h2
  have hn := (z_R_C h).2.2.1
  refine ⟨⟨(H.2.1 f h1 h2).1, (H.2.1 f h1 h2).2, ?_⟩, g.1, g.2.1, g.2.2.1⟩
  rw [H.2.2.2.2.1]
  exact z_pens_b (fun f a b => ((z_R_S h).1 f a (by omega)).2.1) (by omega) (by omega)
theorem z_R_n (h : z_R M) : M (M 1 0) 10 = M 321 46 ∧ M (M 1 0) 11 = M 321 47 ∧ M (M 1 0) 12 = M 321 48 ∧ M (M 1 0) 18 = M 321 52 ∧ z_w (M 321 46 * M 321 47) = M 321 46 * M 321 47 := by
  have g := (z_R_g h).2.1
  have := z_mc_cells (z_R_C h)
  exact ⟨g.1, g.2.1, g.2.2.1, g.2.2.2.2.2, z_wid (by omega)⟩
set_option maxRecDepth 20000 in
theorem gX9_fault_0 {xs : List Int} {d : Nat} {M : z_M} {P : Option z_V → z_L → z_M → Prop} {a1 : Int} (hF : z_fix M) 
    (l1 : (a1 ≠ 0) → (a1 ≠ 1) → P (some (0, (-1))) z_LL M)
    (l2 : (a1 ≠ 0) → (¬ (a1 ≠ 1)) → P (some (0, (M 33 2))) z_LL M)
    (l3 : (¬ (a1 ≠ 0)) → P (some (0, (M 33 1))) z_LL M) :
    wp xs d mX9_fault 0 [(2, 1), (0, a1)] [] z_LL M P := by
  refine wp_run 1 (pc' := 1) (ls' := [(2, 1), (0, a1)]) (st' := [(0, a1)]) rfl ?_
  refine wp_if1 rfl rfl rfl (fun (c1 : a1 ≠ 0) => ?_) (fun (c1 : ¬ (a1 ≠ 0)) => ?_)
  · refine wp_run 2 (pc' := 14) (ls' := [(2, 1), (0, a1)]) (st' := [(0, 1), (0, a1)]) rfl ?_
    refine wp_if2 rfl rfl rfl (fun (c2 : a1 ≠ 1) => ?_) (fun (c2 : ¬ (a1 ≠ 1)) => ?_)
    · refine wp_run 1 (pc' := 28) (ls' := [(2, 1), (0, a1)]) (st' := [(0, (-1))]) rfl ?_
      exact wp_ret rfl rfl (l1 c1 c2)
    · refine wp_run 1 (pc' := 18) (ls' := [(2, 1), (0, a1)]) (st' := [(2, 1)]) rfl ?_
      refine wp_gf (pc' := 21) (t := 2) (v := 33) rfl rfl (by decide) rfl rfl (fx_1_4 hF) ?_
      refine wp_gf (pc' := 24) (t := 0) (v := (M 33 2)) rfl rfl (by decide) rfl rfl rfl ?_
      refine wp_run 1 (pc' := 28) (ls' := [(2, 1), (0, a1)]) (st' := [(0, (M 33 2))]) rfl ?_
      exact wp_ret rfl rfl (l2 c1 c2)
  · refine wp_run 1 (pc' := 5) (ls' := [(2, 1), (0, a1)]) (st' := [(2, 1)]) rfl ?_
    refine wp_gf (pc' := 8) (t := 2) (v := 33) rfl rfl (by decide) rfl rfl (fx_1_4 hF) ?_
    refine wp_gf (pc' := 11) (t := 0) (v := (M 33 1)) rfl rfl (by decide) rfl rfl rfl ?_
    exact wp_ret rfl rfl (l3 c1)
set_option maxRecDepth 20000 in
theorem gX10_fault_0 {xs : List Int} {d : Nat} {M : z_M} {P : Option z_V → z_L → z_M → Prop} {a1 : Int} 
    (l1 : (a1 ≠ 0) → (a1 ≠ 1) → P (some (0, (-1))) z_LL M)
    (l2 : (a1 ≠ 0) → (¬ (a1 ≠ 1)) → P (some (0, (M 321 3))) z_LL M)
    (l3 : (¬ (a1 ≠ 0)) → P (some (0, (M 321 2))) z_LL M) :
    wp xs d mX10_fault 0 [(2, 321), (0, a1)] [] z_LL M P := by
  refine wp_run 1 (pc' := 1) (ls' := [(2, 321), (0, a1)]) (st' := [(0, a1)]) rfl ?_
  refine wp_if1 rfl rfl rfl (fun (c1 : a1 ≠ 0) => ?_) (fun (c1 : ¬ (a1 ≠ 0)) => ?_)
  · refine wp_run 2 (pc' := 13) (ls' := [(2, 321), (0, a1)]) (st' := [(0, 1), (0, a1)]) rfl ?_
    refine wp_if2 rfl rfl rfl (fun (c2 : a1 ≠ 1) => ?_) (fun (c2 : ¬ (a1 ≠ 1)) => ?_)
    · refine wp_run 1 (pc' := 24) (ls' := [(2, 321), (0, a1)]) (st' := [(0, (-1))]) rfl ?_
      exact wp_ret rfl rfl (l1 c1 c2)
    · refine wp_run 1 (pc' := 17) (ls' := [(2, 321), (0, a1)]) (st' := [(2, 321)]) rfl ?_
      refine wp_gf (pc' := 20) (t := 0) (v := (M 321 3)) rfl rfl (by decide) rfl rfl rfl ?_
      refine wp_run 1 (pc' := 24) (ls' := [(2, 321), (0, a1)]) (st' := [(0, (M 321 3))]) rfl ?_
      exact wp_ret rfl rfl (l2 c1 c2)
  · refine wp_run 1 (pc' := 5) (ls' := [(2, 321), (0, a1)]) (st' := [(2, 321)]) rfl ?_
    refine wp_gf (pc' := 8) (t := 0) (v := (M 321 2)) rfl rfl (by decide) rfl rfl rfl ?_
    refine wp_run 1 (pc' := 24) (ls' := [(2, 321), (0, a1)]) (st' := [(0, (M 321 2))]) rfl ?_
    exact wp_ret rfl rfl (l3 c1)
set_option maxRecDepth 20000 in
theorem gX9_flock_0 {xs : List Int} {d : Nat} {M : z_M} {P : Option z_V → z_L → z_M → Prop} {a1 : Int} {a2 : Int} (hg1 : z_gor M (M 1 0)) (hh2 : z_her M (M 1 2))
    (l1 : (a1 < 0) → P (some (0, (-2))) z_LL M)
    (l2 : (¬ (a1 < 0)) → ((M (M 1 0) 12) ≤ a1) → P (some (0, (-2))) z_LL M)
    (b1 : (¬ (a1 < 0)) → (¬ ((M (M 1 0) 12) ≤ a1)) → (a2 = 0) → 0 ≤ a1 ∧ a1 < 6)
    (l3 : (¬ (a1 < 0)) → (¬ ((M (M 1 0) 12) ≤ a1)) → (a2 = 0) → P (some (0, (M ((M 1 2) + 1) a1))) z_LL M)
    (b2 : (¬ (a1 < 0)) → (¬ ((M (M 1 0) 12) ≤ a1)) → (¬ a2 = 0) → (a2 = 1) → 0 ≤ a1 ∧ a1 < 6)
    (l4 : (¬ (a1 < 0)) → (¬ ((M (M 1 0) 12) ≤ a1)) → (¬ a2 = 0) → (a2 = 1) → P (some (0, (M ((M 1 0) + 2) a1))) z_LL M)
    (b3 : (¬ (a1 < 0)) → (¬ ((M (M 1 0) 12) ≤ a1)) → (¬ a2 = 0) → (¬ a2 = 1) → (a2 = 2) → 0 ≤ a1 ∧ a1 < 6)
    (l5 : (¬ (a1 < 0)) → (¬ ((M (M 1 0) 12) ≤ a1)) → (¬ a2 = 0) → (¬ a2 = 1) → (a2 = 2) → P (some (0, (M ((M 1 0) + 3) a1))) z_LL M)
    (l6 : (¬ (a1 < 0)) → (¬ ((M (M 1 0) 12) ≤ a1)) → (¬ a2 = 0) → (¬ a2 = 1) → (¬ a2 = 2) → (a2 = 3) → P (some (0, (z_and (z_shr (M (M 1 2) 5) a1) 1))) z_LL M)
    (b4 : (¬ (a1 < 0)) → (¬ ((M (M 1 0) 12) ≤ a1)) → (¬ a2 = 0) → (¬ a2 = 1) → (¬ a2 = 2) → (¬ a2 = 3) → (a2 = 4) → 0 ≤ a1 ∧ a1 < 6)
    (l7 : (¬ (a1 < 0)) → (¬ ((M (M 1 0) 12) ≤ a1)) → (¬ a2 = 0) → (¬ a2 = 1) → (¬ a2 = 2) → (¬ a2 = 3) → (a2 = 4) → P (some (0, (M ((M 1 2) + 2) a1))) z_LL M)
    (b5 : (¬ (a1 < 0)) → (¬ ((M (M 1 0) 12) ≤ a1)) → (¬ a2 = 0) → (¬ a2 = 1) → (¬ a2 = 2) → (¬ a2 = 3) → (¬ a2 = 4) → (a2 = 5) → 0 ≤ a1 ∧ a1 < 6)
    (l8 : (¬ (a1 < 0)) → (¬ ((M (M 1 0) 12) ≤ a1)) → (¬ a2 = 0) → (¬ a2 = 1) → (¬ a2 = 2) → (¬ a2 = 3) → (¬ a2 = 4) → (a2 = 5) → P (some (0, (M ((M 1 0) + 4) a1))) z_LL M)
    (l9 : (¬ (a1 < 0)) → (¬ ((M (M 1 0) 12) ≤ a1)) → (¬ a2 = 0) → (¬ a2 = 1) → (¬ a2 = 2) → (¬ a2 = 3) → (¬ a2 = 4) → (¬ a2 = 5) → P (some (0, (-2))) z_LL M) :
    wp xs (d + 1) mX9_flock 0 [(2, 1), (0, a1), (0, a2)] [] z_LL M P := by
  refine wp_run 1 (pc' := 1) (ls' := [(2, 1), (0, a1), (0, a2)]) (st' := [(2, 1)]) rfl ?_
  refine wp_gf (pc' := 4) (t := 2) (v := (M 1 0)) rfl rfl (by decide) rfl rfl rfl ?_
  refine wp_run 1 (pc' := 5) (ls' := [(2, 1), (0, a1), (0, a2)]) (st' := [(0, a1), (2, (M 1 0))]) rfl ?_
  refine wp_callv (pc' := 8) (as := [(2, (M 1 0)), (0, a1)]) (rest := []) (ls1 := [(2, (M 1 0)), (0, a1)]) rfl rfl rfl rfl (z_args_v rfl rfl rfl rfl (Nat.le_of_ble_eq_true rfl) rfl (by decide) (z_gl0 hg1)) rfl ?_
  refine wp_run 1 (pc' := 1) (ls' := [(2, (M 1 0)), (0, a1)]) (st' := [(0, a1)]) rfl ?_
  refine wp_if1 rfl rfl rfl (fun (c1 : a1 < 0) => ?_) (fun (c1 : ¬ (a1 < 0)) => ?_)
  · refine wp_run 1 (pc' := 17) (ls' := [(2, (M 1 0)), (0, a1)]) (st' := [(0, 0)]) rfl ?_
    refine wp_ret rfl rfl ?_
    show wp xs _ mX9_flock 8 [(2, 1), (0, a1), (0, a2)] [(0, 0)] z_LL M _
    refine wp_run 2 (pc' := 13) (ls' := [(2, 1), (0, a1), (0, a2)]) (st' := [(0, (-2))]) rfl ?_
    exact wp_ret rfl rfl (l1 c1)
  · refine wp_run 2 (pc' := 6) (ls' := [(2, (M 1 0)), (0, a1)]) (st' := [(2, (M 1 0)), (0, a1)]) rfl ?_
    refine wp_gf (pc' := 9) (t := 0) (v := (M (M 1 0) 12)) rfl rfl (by decide) rfl (z_gl0 hg1) rfl ?_
    refine wp_if2 rfl rfl rfl (fun (c2 : (M (M 1 0) 12) ≤ a1) => ?_) (fun (c2 : ¬ ((M (M 1 0) 12) ≤ a1)) => ?_)
    · refine wp_run 1 (pc' := 17) (ls' := [(2, (M 1 0)), (0, a1)]) (st' := [(0, 0)]) rfl ?_
      refine wp_ret rfl rfl ?_
      show wp xs _ mX9_flock 8 [(2, 1), (0, a1), (0, a2)] [(0, 0)] z_LL M _
      refine wp_run 2 (pc' := 13) (ls' := [(2, 1), (0, a1), (0, a2)]) (st' := [(0, (-2))]) rfl ?_
      exact wp_ret rfl rfl (l2 c1 c2)
    · refine wp_run 2 (pc' := 17) (ls' := [(2, (M 1 0)), (0, a1)]) (st' := [(0, 1)]) rfl ?_
      refine wp_ret rfl rfl ?_
      show wp xs _ mX9_flock 8 [(2, 1), (0, a1), (0, a2)] [(0, 1)] z_LL M _
      refine wp_run 2 (pc' := 15) (ls' := [(2, 1), (0, a1), (0, a2)]) (st' := [(0, a2)]) rfl ?_
      by_cases c3 : a2 = 0
      · refine wp_cast c3 ?_
        refine wp_run 2 (pc' := 53) (ls' := [(2, 1), (0, a1), (0, a2)]) (st' := [(2, 1)]) rfl ?_
        refine wp_gf (pc' := 56) (t := 2) (v := (M 1 2)) rfl rfl (by decide) rfl rfl rfl ?_
        refine wp_gf (pc' := 59) (t := 2) (v := ((M 1 2) + 1)) rfl rfl (by decide) rfl (z_hl0 hh2) (z_hf0 hh2) ?_
        refine wp_run 1 (pc' := 60) (ls' := [(2, 1), (0, a1), (0, a2)]) (st' := [(0, a1), (2, ((M 1 2) + 1))]) rfl ?_
        refine wp_iald (pc' := 61) (v := (M ((M 1 2) + 1) a1)) rfl rfl (z_hl1 hh2) (b1 c1 c2 c3) rfl ?_
        exact wp_ret rfl rfl (l3 c1 c2 c3)
      by_cases c4 : a2 = 1
      · refine wp_cast c4 ?_
        refine wp_run 2 (pc' := 63) (ls' := [(2, 1), (0, a1), (0, a2)]) (st' := [(2, 1)]) rfl ?_
        refine wp_gf (pc' := 66) (t := 2) (v := (M 1 0)) rfl rfl (by decide) rfl rfl rfl ?_
        refine wp_gf (pc' := 69) (t := 2) (v := ((M 1 0) + 2)) rfl rfl (by decide) rfl (z_gl0 hg1) (z_gf1 hg1) ?_
        refine wp_run 1 (pc' := 70) (ls' := [(2, 1), (0, a1), (0, a2)]) (st' := [(0, a1), (2, ((M 1 0) + 2))]) rfl ?_
        refine wp_iald (pc' := 71) (v := (M ((M 1 0) + 2) a1)) rfl rfl (z_gl2 hg1) (b2 c1 c2 c3 c4) rfl ?_
        exact wp_ret rfl rfl (l4 c1 c2 c3 c4)
      by_cases c5 : a2 = 2
      · refine wp_cast c5 ?_
        refine wp_run 2 (pc' := 73) (ls' := [(2, 1), (0, a1), (0, a2)]) (st' := [(2, 1)]) rfl ?_
        refine wp_gf (pc' := 76) (t := 2) (v := (M 1 0)) rfl rfl (by decide) rfl rfl rfl ?_
        refine wp_gf (pc' := 79) (t := 2) (v := ((M 1 0) + 3)) rfl rfl (by decide) rfl (z_gl0 hg1) (z_gf2 hg1) ?_
        refine wp_run 1 (pc' := 80) (ls' := [(2, 1), (0, a1), (0, a2)]) (st' := [(0, a1), (2, ((M 1 0) + 3))]) rfl ?_
        refine wp_iald (pc' := 81) (v := (M ((M 1 0) + 3) a1)) rfl rfl (z_gl3 hg1) (b3 c1 c2 c3 c4 c5) rfl ?_
        exact wp_ret rfl rfl (l5 c1 c2 c3 c4 c5)
      by_cases c6 : a2 = 3
      · refine wp_cast c6 ?_
        refine wp_run 2 (pc' := 83) (ls' := [(2, 1), (0, a1), (0, a2)]) (st' := [(2, 1)]) rfl ?_
        refine wp_gf (pc' := 86) (t := 2) (v := (M 1 2)) rfl rfl (by decide) rfl rfl rfl ?_
        refine wp_gf (pc' := 89) (t := 0) (v := (M (M 1 2) 5)) rfl rfl (by decide) rfl (z_hl0 hh2) rfl ?_
        refine wp_run 4 (pc' := 93) (ls' := [(2, 1), (0, a1), (0, a2)]) (st' := [(0, (z_and (z_shr (M (M 1 2) 5) a1) 1))]) rfl ?_
        exact wp_ret rfl rfl (l6 c1 c2 c3 c4 c5 c6)
      by_cases c7 : a2 = 4
      · refine wp_cast c7 ?_
        refine wp_run 2 (pc' := 95) (ls' := [(2, 1), (0, a1), (0, a2)]) (st' := [(2, 1)]) rfl ?_
        refine wp_gf (pc' := 98) (t := 2) (v := (M 1 2)) rfl rfl (by decide) rfl rfl rfl ?_
        refine wp_gf (pc' := 101) (t := 2) (v := ((M 1 2) + 2)) rfl rfl (by decide) rfl (z_hl0 hh2) (z_hf1 hh2) ?_
        refine wp_run 1 (pc' := 102) (ls' := [(2, 1), (0, a1), (0, a2)]) (st' := [(0, a1), (2, ((M 1 2) + 2))]) rfl ?_
        refine wp_iald (pc' := 103) (v := (M ((M 1 2) + 2) a1)) rfl rfl (z_hl2 hh2) (b4 c1 c2 c3 c4 c5 c6 c7) rfl ?_
        exact wp_ret rfl rfl (l7 c1 c2 c3 c4 c5 c6 c7)
      by_cases c8 : a2 = 5
      · refine wp_cast c8 ?_
        refine wp_run 2 (pc' := 105) (ls' := [(2, 1), (0, a1), (0, a2)]) (st' := [(2, 1)]) rfl ?_
        refine wp_gf (pc' := 108) (t := 2) (v := (M 1 0)) rfl rfl (by decide) rfl rfl rfl ?_
        refine wp_gf (pc' := 111) (t := 2) (v := ((M 1 0) + 4)) rfl rfl (by decide) rfl (z_gl0 hg1) (z_gf3 hg1) ?_
        refine wp_run 1 (pc' := 112) (ls' := [(2, 1), (0, a1), (0, a2)]) (st' := [(0, a1), (2, ((M 1 0) + 4))]) rfl ?_
        refine wp_iald (pc' := 113) (v := (M ((M 1 0) + 4) a1)) rfl rfl (z_gl4 hg1) (b5 c1 c2 c3 c4 c5 c6 c7 c8) rfl ?_
        exact wp_ret rfl rfl (l8 c1 c2 c3 c4 c5 c6 c7 c8)
      refine wp_swd rfl rfl (by omega) ?_
      refine wp_run 1 (pc' := 116) (ls' := [(2, 1), (0, a1), (0, a2)]) (st' := [(0, (-2))]) rfl ?_
      exact wp_ret rfl rfl (l9 c1 c2 c3 c4 c5 c6 c7 c8)
set_option maxRecDepth 20000 in
theorem gX10_flock_0 {xs : List Int} {d : Nat} {M : z_M} {P : Option z_V → z_L → z_M → Prop} {a1 : Int} {a2 : Int} (hF : z_fix M) (hC : z_mc M) 
    (b1 : ((0 ≤ a1 ∧ a1 < M 321 48)) → (a2 = 0) → 0 ≤ a1 ∧ a1 < 106)
    (l1 : ((0 ≤ a1 ∧ a1 < M 321 48)) → (a2 = 0) → P (some (0, (M 342 a1))) z_LL M)
    (b2 : ((0 ≤ a1 ∧ a1 < M 321 48)) → (¬ a2 = 0) → (a2 = 1) → 0 ≤ a1 ∧ a1 < 6)
    (l2 : ((0 ≤ a1 ∧ a1 < M 321 48)) → (¬ a2 = 0) → (a2 = 1) → P (some (0, (M 337 a1))) z_LL M)
    (b3 : ((0 ≤ a1 ∧ a1 < M 321 48)) → (¬ a2 = 0) → (¬ a2 = 1) → (a2 = 2) → 0 ≤ a1 ∧ a1 < 6)
    (l3 : ((0 ≤ a1 ∧ a1 < M 321 48)) → (¬ a2 = 0) → (¬ a2 = 1) → (a2 = 2) → P (some (0, (M 339 a1))) z_LL M)
    (b4 : ((0 ≤ a1 ∧ a1 < M 321 48)) → (¬ a2 = 0) → (¬ a2 = 1) → (¬ a2 = 2) → (a2 = 3) → 0 ≤ (z_w (6 + a1)) ∧ (z_w (6 + a1)) < 106)
    (l4 : ((0 ≤ a1 ∧ a1 < M 321 48)) → (¬ a2 = 0) → (¬ a2 = 1) → (¬ a2 = 2) → (a2 = 3) → P (some (0, (M 342 (z_w (6 + a1))))) z_LL M)
    (b5 : ((0 ≤ a1 ∧ a1 < M 321 48)) → (¬ a2 = 0) → (¬ a2 = 1) → (¬ a2 = 2) → (¬ a2 = 3) → (a2 = 4) → 0 ≤ (z_w (12 + a1)) ∧ (z_w (12 + a1)) < 106)
    (l5 : ((0 ≤ a1 ∧ a1 < M 321 48)) → (¬ a2 = 0) → (¬ a2 = 1) → (¬ a2 = 2) → (¬ a2 = 3) → (a2 = 4) → P (some (0, (M 342 (z_w (12 + a1))))) z_LL M)
    (b6 : ((0 ≤ a1 ∧ a1 < M 321 48)) → (¬ a2 = 0) → (¬ a2 = 1) → (¬ a2 = 2) → (¬ a2 = 3) → (¬ a2 = 4) → (a2 = 5) → 0 ≤ a1 ∧ a1 < 6)
    (l6 : ((0 ≤ a1 ∧ a1 < M 321 48)) → (¬ a2 = 0) → (¬ a2 = 1) → (¬ a2 = 2) → (¬ a2 = 3) → (¬ a2 = 4) → (a2 = 5) → P (some (0, (M 338 a1))) z_LL M)
    (l7 : ((0 ≤ a1 ∧ a1 < M 321 48)) → (¬ a2 = 0) → (¬ a2 = 1) → (¬ a2 = 2) → (¬ a2 = 3) → (¬ a2 = 4) → (¬ a2 = 5) → P (some (0, (-2))) z_LL M)
    (l8 : (¬ (0 ≤ a1 ∧ a1 < M 321 48)) → P (some (0, (-2))) z_LL M) :
    wp xs (d + 2) mX10_flock 0 [(2, 321), (0, a1), (0, a2)] [] z_LL M P := by
  refine wp_run 2 (pc' := 2) (ls' := [(2, 321), (0, a1), (0, a2)]) (st' := [(0, a1), (2, 321)]) rfl ?_
  refine wp_callv (pc' := 5) (as := [(2, 321), (0, a1)]) (rest := []) (ls1 := [(2, 321), (0, a1)]) rfl rfl rfl rfl rfl rfl ?_
  refine s_X10_isFlock hF hC ?_
  show wp xs _ mX10_flock 5 [(2, 321), (0, a1), (0, a2)] [(0, (z_b (0 ≤ a1 ∧ a1 < M 321 48)))] z_LL M _
  refine wp_bn rfl rfl rfl (fun (c1 : (0 ≤ a1 ∧ a1 < M 321 48)) => ?_) (fun (c1 : ¬ (0 ≤ a1 ∧ a1 < M 321 48)) => ?_)
  · refine wp_run 1 (pc' := 12) (ls' := [(2, 321), (0, a1), (0, a2)]) (st' := [(0, a2)]) rfl ?_
    by_cases c2 : a2 = 0
    · refine wp_cast c2 ?_
      refine wp_run 2 (pc' := 53) (ls' := [(2, 321), (0, a1), (0, a2)]) (st' := [(2, 321)]) rfl ?_
      refine wp_gf (pc' := 56) (t := 2) (v := 342) rfl rfl (by decide) rfl rfl (fx_321_60 hF) ?_
      refine wp_run 1 (pc' := 57) (ls' := [(2, 321), (0, a1), (0, a2)]) (st' := [(0, a1), (2, 342)]) rfl ?_
      refine wp_iald (pc' := 58) (v := (M 342 a1)) rfl rfl rfl (b1 c1 c2) rfl ?_
      exact wp_ret rfl rfl (l1 c1 c2)
    by_cases c3 : a2 = 1
    · refine wp_cast c3 ?_
      refine wp_run 2 (pc' := 60) (ls' := [(2, 321), (0, a1), (0, a2)]) (st' := [(2, 321)]) rfl ?_
      refine wp_gf (pc' := 63) (t := 2) (v := 337) rfl rfl (by decide) rfl rfl (fx_321_31 hF) ?_
      refine wp_run 1 (pc' := 64) (ls' := [(2, 321), (0, a1), (0, a2)]) (st' := [(0, a1), (2, 337)]) rfl ?_
      refine wp_iald (pc' := 65) (v := (M 337 a1)) rfl rfl rfl (b2 c1 c2 c3) rfl ?_
      exact wp_ret rfl rfl (l2 c1 c2 c3)
    by_cases c4 : a2 = 2
    · refine wp_cast c4 ?_
      refine wp_run 2 (pc' := 67) (ls' := [(2, 321), (0, a1), (0, a2)]) (st' := [(2, 321)]) rfl ?_
      refine wp_gf (pc' := 70) (t := 2) (v := 339) rfl rfl (by decide) rfl rfl (fx_321_33 hF) ?_
      refine wp_run 1 (pc' := 71) (ls' := [(2, 321), (0, a1), (0, a2)]) (st' := [(0, a1), (2, 339)]) rfl ?_
      refine wp_iald (pc' := 72) (v := (M 339 a1)) rfl rfl rfl (b3 c1 c2 c3 c4) rfl ?_
      exact wp_ret rfl rfl (l3 c1 c2 c3 c4)
    by_cases c5 : a2 = 3
    · refine wp_cast c5 ?_
      refine wp_run 2 (pc' := 74) (ls' := [(2, 321), (0, a1), (0, a2)]) (st' := [(2, 321)]) rfl ?_
      refine wp_gf (pc' := 77) (t := 2) (v := 342) rfl rfl (by decide) rfl rfl (fx_321_60 hF) ?_
      refine wp_run 3 (pc' := 81) (ls' := [(2, 321), (0, a1), (0, a2)]) (st' := [(0, (z_w (6 + a1))), (2, 342)]) rfl ?_
      refine wp_iald (pc' := 82) (v := (M 342 (z_w (6 + a1)))) rfl rfl rfl (b4 c1 c2 c3 c4 c5) rfl ?_
      exact wp_ret rfl rfl (l4 c1 c2 c3 c4 c5)
    by_cases c6 : a2 = 4
    · refine wp_cast c6 ?_
      refine wp_run 2 (pc' := 84) (ls' := [(2, 321), (0, a1), (0, a2)]) (st' := [(2, 321)]) rfl ?_
      refine wp_gf (pc' := 87) (t := 2) (v := 342) rfl rfl (by decide) rfl rfl (fx_321_60 hF) ?_
      refine wp_run 3 (pc' := 91) (ls' := [(2, 321), (0, a1), (0, a2)]) (st' := [(0, (z_w (12 + a1))), (2, 342)]) rfl ?_
      refine wp_iald (pc' := 92) (v := (M 342 (z_w (12 + a1)))) rfl rfl rfl (b5 c1 c2 c3 c4 c5 c6) rfl ?_
      exact wp_ret rfl rfl (l5 c1 c2 c3 c4 c5 c6)
    by_cases c7 : a2 = 5
    · refine wp_cast c7 ?_
      refine wp_run 2 (pc' := 94) (ls' := [(2, 321), (0, a1), (0, a2)]) (st' := [(2, 321)]) rfl ?_
      refine wp_gf (pc' := 97) (t := 2) (v := 338) rfl rfl (by decide) rfl rfl (fx_321_32 hF) ?_
      refine wp_run 1 (pc' := 98) (ls' := [(2, 321), (0, a1), (0, a2)]) (st' := [(0, a1), (2, 338)]) rfl ?_
      refine wp_iald (pc' := 99) (v := (M 338 a1)) rfl rfl rfl (b6 c1 c2 c3 c4 c5 c6 c7) rfl ?_
      exact wp_ret rfl rfl (l6 c1 c2 c3 c4 c5 c6 c7)
    refine wp_swd rfl rfl (by omega) ?_
    refine wp_run 1 (pc' := 102) (ls' := [(2, 321), (0, a1), (0, a2)]) (st' := [(0, (-2))]) rfl ?_
    exact wp_ret rfl rfl (l7 c1 c2 c3 c4 c5 c6 c7)
  · refine wp_run 1 (pc' := 10) (ls' := [(2, 321), (0, a1), (0, a2)]) (st' := [(0, (-2))]) rfl ?_
    exact wp_ret rfl rfl (l8 c1)
set_option maxRecDepth 20000 in
theorem gX9_ground_0 {xs : List Int} {d : Nat} {M : z_M} {P : Option z_V → z_L → z_M → Prop} {a1 : Int} {a2 : Int} (hg1 : z_gor M (M 1 0)) (hh2 : z_her M (M 1 2))
    (l1 : (a1 < 0) → P (some (0, (-1))) z_LL M)
    (l2 : (¬ (a1 < 0)) → ((z_w ((M (M 1 0) 10) * (M (M 1 0) 11))) ≤ a1) → P (some (0, (-1))) z_LL M)
    (b1 : (¬ (a1 < 0)) → (¬ ((z_w ((M (M 1 0) 10) * (M (M 1 0) 11))) ≤ a1)) → (a2 = 0) → 0 ≤ a1 ∧ a1 < 25)
    (l3 : (¬ (a1 < 0)) → (¬ ((z_w ((M (M 1 0) 10) * (M (M 1 0) 11))) ≤ a1)) → (a2 = 0) → P (some (0, (M ((M 1 2) + 3) a1))) z_LL M)
    (b2 : (¬ (a1 < 0)) → (¬ ((z_w ((M (M 1 0) 10) * (M (M 1 0) 11))) ≤ a1)) → (¬ a2 = 0) → (a2 = 1) → 0 ≤ a1 ∧ a1 < 25)
    (l4 : (¬ (a1 < 0)) → (¬ ((z_w ((M (M 1 0) 10) * (M (M 1 0) 11))) ≤ a1)) → (¬ a2 = 0) → (a2 = 1) → P (some (0, (M ((M 1 2) + 4) a1))) z_LL M)
    (b3 : (¬ (a1 < 0)) → (¬ ((z_w ((M (M 1 0) 10) * (M (M 1 0) 11))) ≤ a1)) → (¬ a2 = 0) → (¬ a2 = 1) → (a2 = 2) → (M (M 1 0) 12) ≤ 6)
    (l5 : (¬ (a1 < 0)) → (¬ ((z_w ((M (M 1 0) 10) * (M (M 1 0) 11))) ≤ a1)) → (¬ a2 = 0) → (¬ a2 = 1) → (a2 = 2) → P (some (0, (z_hin M (M 1 2) a1 (M (M 1 0) 12)))) z_LL M)
    (l6 : (¬ (a1 < 0)) → (¬ ((z_w ((M (M 1 0) 10) * (M (M 1 0) 11))) ≤ a1)) → (¬ a2 = 0) → (¬ a2 = 1) → (¬ a2 = 2) → P (some (0, (-1))) z_LL M) :
    wp xs (d + 2) mX9_ground 0 [(2, 1), (0, a1), (0, a2)] [] z_LL M P := by
  refine wp_run 1 (pc' := 1) (ls' := [(2, 1), (0, a1), (0, a2)]) (st' := [(2, 1)]) rfl ?_
  refine wp_gf (pc' := 4) (t := 2) (v := (M 1 0)) rfl rfl (by decide) rfl rfl rfl ?_
  refine wp_run 1 (pc' := 5) (ls' := [(2, 1), (0, a1), (0, a2)]) (st' := [(0, a1), (2, (M 1 0))]) rfl ?_
  refine wp_callv (pc' := 8) (as := [(2, (M 1 0)), (0, a1)]) (rest := []) (ls1 := [(2, (M 1 0)), (0, a1)]) rfl rfl rfl rfl (z_args_v rfl rfl rfl rfl (Nat.le_of_ble_eq_true rfl) rfl (by decide) (z_gl0 hg1)) rfl ?_
  refine wp_run 1 (pc' := 1) (ls' := [(2, (M 1 0)), (0, a1)]) (st' := [(0, a1)]) rfl ?_
  refine wp_if1 rfl rfl rfl (fun (c1 : a1 < 0) => ?_) (fun (c1 : ¬ (a1 < 0)) => ?_)
  · refine wp_run 1 (pc' := 17) (ls' := [(2, (M 1 0)), (0, a1)]) (st' := [(0, 0)]) rfl ?_
    refine wp_ret rfl rfl ?_
    show wp xs _ mX9_ground 8 [(2, 1), (0, a1), (0, a2)] [(0, 0)] z_LL M _
    refine wp_run 2 (pc' := 12) (ls' := [(2, 1), (0, a1), (0, a2)]) (st' := [(0, (-1))]) rfl ?_
    exact wp_ret rfl rfl (l1 c1)
  · refine wp_run 2 (pc' := 6) (ls' := [(2, (M 1 0)), (0, a1)]) (st' := [(2, (M 1 0)), (0, a1)]) rfl ?_
    refine wp_callv (pc' := 9) (as := [(2, (M 1 0))]) (rest := [(0, a1)]) (ls1 := [(2, (M 1 0))]) rfl rfl rfl rfl (z_args_v rfl rfl rfl rfl (Nat.le_of_ble_eq_true rfl) rfl (by decide) (z_gl0 hg1)) rfl ?_
    refine wp_run 1 (pc' := 1) (ls' := [(2, (M 1 0))]) (st' := [(2, (M 1 0))]) rfl ?_
    refine wp_gf (pc' := 4) (t := 0) (v := (M (M 1 0) 10)) rfl rfl (by decide) rfl (z_gl0 hg1) rfl ?_
    refine wp_run 1 (pc' := 5) (ls' := [(2, (M 1 0))]) (st' := [(2, (M 1 0)), (0, (M (M 1 0) 10))]) rfl ?_
    refine wp_gf (pc' := 8) (t := 0) (v := (M (M 1 0) 11)) rfl rfl (by decide) rfl (z_gl0 hg1) rfl ?_
    refine wp_run 1 (pc' := 9) (ls' := [(2, (M 1 0))]) (st' := [(0, (z_w ((M (M 1 0) 10) * (M (M 1 0) 11))))]) rfl ?_
    refine wp_ret rfl rfl ?_
    show wp xs _ mX1_hasCell 9 [(2, (M 1 0)), (0, a1)] [(0, (z_w ((M (M 1 0) 10) * (M (M 1 0) 11)))), (0, a1)] z_LL M _
    refine wp_if2 rfl rfl rfl (fun (c2 : (z_w ((M (M 1 0) 10) * (M (M 1 0) 11))) ≤ a1) => ?_) (fun (c2 : ¬ ((z_w ((M (M 1 0) 10) * (M (M 1 0) 11))) ≤ a1)) => ?_)
    · refine wp_run 1 (pc' := 17) (ls' := [(2, (M 1 0)), (0, a1)]) (st' := [(0, 0)]) rfl ?_
      refine wp_ret rfl rfl ?_
      show wp xs _ mX9_ground 8 [(2, 1), (0, a1), (0, a2)] [(0, 0)] z_LL M _
      refine wp_run 2 (pc' := 12) (ls' := [(2, 1), (0, a1), (0, a2)]) (st' := [(0, (-1))]) rfl ?_
      exact wp_ret rfl rfl (l2 c1 c2)
    · refine wp_run 2 (pc' := 17) (ls' := [(2, (M 1 0)), (0, a1)]) (st' := [(0, 1)]) rfl ?_
      refine wp_ret rfl rfl ?_
      show wp xs _ mX9_ground 8 [(2, 1), (0, a1), (0, a2)] [(0, 1)] z_LL M _
      refine wp_run 2 (pc' := 14) (ls' := [(2, 1), (0, a1), (0, a2)]) (st' := [(0, a2)]) rfl ?_
      by_cases c3 : a2 = 0
      · refine wp_cast c3 ?_
        refine wp_run 2 (pc' := 41) (ls' := [(2, 1), (0, a1), (0, a2)]) (st' := [(2, 1)]) rfl ?_
        refine wp_gf (pc' := 44) (t := 2) (v := (M 1 2)) rfl rfl (by decide) rfl rfl rfl ?_
        refine wp_gf (pc' := 47) (t := 2) (v := ((M 1 2) + 3)) rfl rfl (by decide) rfl (z_hl0 hh2) (z_hf2 hh2) ?_
        refine wp_run 1 (pc' := 48) (ls' := [(2, 1), (0, a1), (0, a2)]) (st' := [(0, a1), (2, ((M 1 2) + 3))]) rfl ?_
        refine wp_iald (pc' := 49) (v := (M ((M 1 2) + 3) a1)) rfl rfl (z_hl3 hh2) (b1 c1 c2 c3) rfl ?_
        exact wp_ret rfl rfl (l3 c1 c2 c3)
      by_cases c4 : a2 = 1
      · refine wp_cast c4 ?_
        refine wp_run 2 (pc' := 51) (ls' := [(2, 1), (0, a1), (0, a2)]) (st' := [(2, 1)]) rfl ?_
        refine wp_gf (pc' := 54) (t := 2) (v := (M 1 2)) rfl rfl (by decide) rfl rfl rfl ?_
        refine wp_gf (pc' := 57) (t := 2) (v := ((M 1 2) + 4)) rfl rfl (by decide) rfl (z_hl0 hh2) (z_hf3 hh2) ?_
        refine wp_run 1 (pc' := 58) (ls' := [(2, 1), (0, a1), (0, a2)]) (st' := [(0, a1), (2, ((M 1 2) + 4))]) rfl ?_
        refine wp_iald (pc' := 59) (v := (M ((M 1 2) + 4) a1)) rfl rfl (z_hl4 hh2) (b2 c1 c2 c3 c4) rfl ?_
        exact wp_ret rfl rfl (l4 c1 c2 c3 c4)
      by_cases c5 : a2 = 2
      · refine wp_cast c5 ?_
        refine wp_run 2 (pc' := 61) (ls' := [(2, 1), (0, a1), (0, a2)]) (st' := [(2, 1)]) rfl ?_
        refine wp_gf (pc' := 64) (t := 2) (v := (M 1 2)) rfl rfl (by decide) rfl rfl rfl ?_
        refine wp_run 2 (pc' := 66) (ls' := [(2, 1), (0, a1), (0, a2)]) (st' := [(2, 1), (0, a1), (2, (M 1 2))]) rfl ?_
        refine wp_gf (pc' := 69) (t := 2) (v := (M 1 0)) rfl rfl (by decide) rfl rfl rfl ?_
        refine wp_gf (pc' := 72) (t := 0) (v := (M (M 1 0) 12)) rfl rfl (by decide) rfl (z_gl0 hg1) rfl ?_
        refine wp_callv (pc' := 75) (as := [(2, (M 1 2)), (0, a1), (0, (M (M 1 0) 12))]) (rest := []) (ls1 := [(2, (M 1 2)), (0, a1), (0, (M (M 1 0) 12)), (3, 0), (3, 0)]) rfl rfl rfl rfl (z_args_v rfl rfl rfl rfl (Nat.le_of_ble_eq_true rfl) rfl (by decide) (z_hl0 hh2)) rfl ?_
        refine s_X2_herdsIn hh2 (b3 c1 c2 c3 c4 c5) ?_
        show wp xs _ mX9_ground 75 [(2, 1), (0, a1), (0, a2)] [(0, (z_hin M (M 1 2) a1 (M (M 1 0) 12)))] z_LL M _
        exact wp_ret rfl rfl (l5 c1 c2 c3 c4 c5)
      refine wp_swd rfl rfl (by omega) ?_
      refine wp_run 1 (pc' := 77) (ls' := [(2, 1), (0, a1), (0, a2)]) (st' := [(0, (-1))]) rfl ?_
      exact wp_ret rfl rfl (l6 c1 c2 c3 c4 c5)
set_option maxRecDepth 20000 in
theorem gX10_ground_0 {xs : List Int} {d : Nat} {M : z_M} {P : Option z_V → z_L → z_M → Prop} {a1 : Int} {a2 : Int} (hF : z_fix M) (hC : z_mc M) 
    (l1 : ((0 ≤ a1 ∧ a1 < M 321 46 * M 321 47)) → (a2 ≠ 0) → (a2 ≠ 1) → (a2 ≠ 2) → P (some (0, (-1))) z_LL M)
    (l2 : ((0 ≤ a1 ∧ a1 < M 321 46 * M 321 47)) → (a2 ≠ 0) → (a2 ≠ 1) → (¬ (a2 ≠ 2)) → P (some (0, (z_fli M a1))) z_LL M)
    (b1 : ((0 ≤ a1 ∧ a1 < M 321 46 * M 321 47)) → (a2 ≠ 0) → (¬ (a2 ≠ 1)) → 0 ≤ (z_w (79 + a1)) ∧ (z_w (79 + a1)) < 106)
    (l3 : ((0 ≤ a1 ∧ a1 < M 321 46 * M 321 47)) → (a2 ≠ 0) → (¬ (a2 ≠ 1)) → P (some (0, (M 342 (z_w (79 + a1))))) z_LL M)
    (b2 : ((0 ≤ a1 ∧ a1 < M 321 46 * M 321 47)) → (¬ (a2 ≠ 0)) → 0 ≤ (z_w (54 + a1)) ∧ (z_w (54 + a1)) < 106)
    (l4 : ((0 ≤ a1 ∧ a1 < M 321 46 * M 321 47)) → (¬ (a2 ≠ 0)) → P (some (0, (M 342 (z_w (54 + a1))))) z_LL M)
    (l5 : (¬ (0 ≤ a1 ∧ a1 < M 321 46 * M 321 47)) → P (some (0, (-1))) z_LL M) :
    wp xs (d + 2) mX10_ground 0 [(2, 321), (0, a1), (0, a2)] [] z_LL M P := by
  refine wp_run 2 (pc' := 2) (ls' := [(2, 321), (0, a1), (0, a2)]) (st' := [(0, a1), (2, 321)]) rfl ?_
  refine wp_callv (pc' := 5) (as := [(2, 321), (0, a1)]) (rest := []) (ls1 := [(2, 321), (0, a1)]) rfl rfl rfl rfl rfl rfl ?_
  refine s_X10_isCell hF hC ?_
  show wp xs _ mX10_ground 5 [(2, 321), (0, a1), (0, a2)] [(0, (z_b (0 ≤ a1 ∧ a1 < M 321 46 * M 321 47)))] z_LL M _
  refine wp_bn rfl rfl rfl (fun (c1 : (0 ≤ a1 ∧ a1 < M 321 46 * M 321 47)) => ?_) (fun (c1 : ¬ (0 ≤ a1 ∧ a1 < M 321 46 * M 321 47)) => ?_)
  · refine wp_run 1 (pc' := 13) (ls' := [(2, 321), (0, a1), (0, a2)]) (st' := [(0, a2)]) rfl ?_
    refine wp_if1 rfl rfl rfl (fun (c2 : a2 ≠ 0) => ?_) (fun (c2 : ¬ (a2 ≠ 0)) => ?_)
    · refine wp_run 2 (pc' := 30) (ls' := [(2, 321), (0, a1), (0, a2)]) (st' := [(0, 1), (0, a2)]) rfl ?_
      refine wp_if2 rfl rfl rfl (fun (c3 : a2 ≠ 1) => ?_) (fun (c3 : ¬ (a2 ≠ 1)) => ?_)
      · refine wp_run 2 (pc' := 47) (ls' := [(2, 321), (0, a1), (0, a2)]) (st' := [(0, 2), (0, a2)]) rfl ?_
        refine wp_if2 rfl rfl rfl (fun (c4 : a2 ≠ 2) => ?_) (fun (c4 : ¬ (a2 ≠ 2)) => ?_)
        · refine wp_run 1 (pc' := 59) (ls' := [(2, 321), (0, a1), (0, a2)]) (st' := [(0, (-1))]) rfl ?_
          exact wp_ret rfl rfl (l1 c1 c2 c3 c4)
        · refine wp_run 2 (pc' := 52) (ls' := [(2, 321), (0, a1), (0, a2)]) (st' := [(0, a1), (2, 321)]) rfl ?_
          refine wp_callv (pc' := 55) (as := [(2, 321), (0, a1)]) (rest := []) (ls1 := [(2, 321), (0, a1), (3, 0), (3, 0)]) rfl rfl rfl rfl rfl rfl ?_
          refine s_X10_flocksIn hF hC ?_
          show wp xs _ mX10_ground 55 [(2, 321), (0, a1), (0, a2)] [(0, (z_fli M a1))] z_LL M _
          refine wp_run 1 (pc' := 59) (ls' := [(2, 321), (0, a1), (0, a2)]) (st' := [(0, (z_fli M a1))]) rfl ?_
          exact wp_ret rfl rfl (l2 c1 c2 c3 c4)
      · refine wp_run 1 (pc' := 34) (ls' := [(2, 321), (0, a1), (0, a2)]) (st' := [(2, 321)]) rfl ?_
        refine wp_gf (pc' := 37) (t := 2) (v := 342) rfl rfl (by decide) rfl rfl (fx_321_60 hF) ?_
        refine wp_run 3 (pc' := 41) (ls' := [(2, 321), (0, a1), (0, a2)]) (st' := [(0, (z_w (79 + a1))), (2, 342)]) rfl ?_
        refine wp_iald (pc' := 42) (v := (M 342 (z_w (79 + a1)))) rfl rfl rfl (b1 c1 c2 c3) rfl ?_
        refine wp_run 1 (pc' := 59) (ls' := [(2, 321), (0, a1), (0, a2)]) (st' := [(0, (M 342 (z_w (79 + a1))))]) rfl ?_
        exact wp_ret rfl rfl (l3 c1 c2 c3)
    · refine wp_run 1 (pc' := 17) (ls' := [(2, 321), (0, a1), (0, a2)]) (st' := [(2, 321)]) rfl ?_
      refine wp_gf (pc' := 20) (t := 2) (v := 342) rfl rfl (by decide) rfl rfl (fx_321_60 hF) ?_
      refine wp_run 3 (pc' := 24) (ls' := [(2, 321), (0, a1), (0, a2)]) (st' := [(0, (z_w (54 + a1))), (2, 342)]) rfl ?_
      refine wp_iald (pc' := 25) (v := (M 342 (z_w (54 + a1)))) rfl rfl rfl (b2 c1 c2) rfl ?_
      refine wp_run 1 (pc' := 59) (ls' := [(2, 321), (0, a1), (0, a2)]) (st' := [(0, (M 342 (z_w (54 + a1))))]) rfl ?_
      exact wp_ret rfl rfl (l4 c1 c2)
  · refine wp_run 2 (pc' := 59) (ls' := [(2, 321), (0, a1), (0, a2)]) (st' := [(0, (-1))]) rfl ?_
    exact wp_ret rfl rfl (l5 c1)
theorem c_fault {a1 : Int} (hR : z_R M) : z_two xs (d + 200) mX9_fault mX10_fault [(2, 1), (0, a1)] [(2, 321), (0, a1)] M := by
  have t := hR.2.2.2.2.2.2.2.1
  have g := fun P => gX9_fault_0 (M := M) (xs := xs) (d := d + 200) (P := P) (a1 := a1) (z_R_F hR)
  simp only [t.2.1.1, t.2.1.2] at g
  unfold z_two
  apply g <;> intros <;> refine ⟨_, rfl, rfl, ?_⟩ <;> apply gX10_fault_0 <;> intros <;> first | exact ⟨rfl, rfl, hR⟩ | (exfalso; omega)
theorem c_flock {a1 a2 : Int} (hR : z_R M) : z_two xs (d + 200) mX9_flock mX10_flock [(2, 1), (0, a1), (0, a2)] [(2, 321), (0, a1), (0, a2)] M := by
  have hn := (z_R_C hR).2.2.1
  have g := fun P => gX9_flock_0 (M := M) (xs := xs) (d := d + 199) (P := P) (a1 := a1) (a2 := a2) (z_R_g hR).1 (z_R_H hR).1
  simp only [(z_R_n hR).2.2.1] at g
  unfold z_two
  by_cases h : 0 ≤ a1 ∧ a1 < M 321 48
  · have e := z_R_f hR h.1 h.2
    simp only [e.1.1, e.1.2.1, e.1.2.2, e.2.1, e.2.2.1, e.2.2.2] at g
    have g2 := fun P => gX10_flock_0 (M := M) (xs := xs) (d := d + 198) (P := P) (a1 := a1) (a2 := a2) (z_R_F hR) (z_R_C hR)
    simp only [z_wid (x := 6 + a1) (by omega), z_wid (x := 12 + a1) (by omega)] at g2
    apply g <;> intros <;> first | omega | (refine ⟨_, rfl, rfl, ?_⟩; apply g2 <;> intros <;> first | exact ⟨rfl, rfl, hR⟩ | omega)
  · apply g <;> intros <;> first | omega | (refine ⟨_, rfl, rfl, ?_⟩; apply gX10_flock_0 (z_R_F hR) (z_R_C hR) <;> intros <;> first | exact ⟨rfl, rfl, hR⟩ | omega)
theorem z_R_hin (hR : z_R M) {c : Int} : z_hin M (M 1 2) c (M 321 48) = z_fli M c := by
  have hn := (z_R_C hR).2.2.1
  unfold z_hin z_fli
  exact z_set_c (fun f a b => by rw [(z_R_f hR a (by omega)).1.1])
theorem c_ground {a1 a2 : Int} (hR : z_R M) : z_two xs (d + 200) mX9_ground mX10_ground [(2, 1), (0, a1), (0, a2)] [(2, 321), (0, a1), (0, a2)] M := by
  have hn := (z_R_C hR).2.2.1
  have hx := z_mc_cells (z_R_C hR)
  have g := fun P => gX9_ground_0 (M := M) (xs := xs) (d := d + 198) (P := P) (a1 := a1) (a2 := a2) (z_R_g hR).1 (z_R_H hR).1
  obtain ⟨n1, n2, n3, n4, n5⟩ := z_R_n hR
  simp only [n1, n2, n3, n5, z_R_hin hR] at g
  unfold z_two
  by_cases h : 0 ≤ a1 ∧ a1 < M 321 46 * M 321 47
  · have e := (z_R_H hR).2.2.1 a1 h.1 (by omega)
    simp only [e.1, e.2] at g
    have g2 := fun P => gX10_ground_0 (M := M) (xs := xs) (d := d + 198) (P := P) (a1 := a1) (a2 := a2) (z_R_F hR) (z_R_C hR)
    simp only [z_wid (x := 54 + a1) (by omega), z_wid (x := 79 + a1) (by omega)] at g2
    apply g <;> intros <;> first | omega | (refine ⟨_, rfl, rfl, ?_⟩; apply g2 <;> intros <;> first | exact ⟨rfl, rfl, hR⟩ | omega)
  · apply g <;> intros <;> first | omega | (refine ⟨_, rfl, rfl, ?_⟩; apply gX10_ground_0 (z_R_F hR) (z_R_C hR) <;> intros <;> first | exact ⟨rfl, rfl, hR⟩ | omega)
set_option maxRecDepth 20000 in
theorem gX9_mixed_0 {xs : List Int} {d : Nat} {M : z_M} {P : Option z_V → z_L → z_M → Prop} {a1 : Int} {a2 : Int} (hg1 : z_gor M (M 1 0)) (hh2 : z_her M (M 1 2))
    (b1 : M (M 1 0) 12 ≤ 6)
    (l1 : (¬ (z_cmg M (M 1 0) a1 a2)) → P (some (0, (-1))) z_LL M)
    (b2 : ((z_cmg M (M 1 0) a1 a2)) → (a2 ≤ a1) → 0 ≤ (z_w ((z_w (a2 * 6)) + a1)) ∧ (z_w ((z_w (a2 * 6)) + a1)) < 36)
    (l2 : ((z_cmg M (M 1 0) a1 a2)) → (a2 ≤ a1) → P (some (0, (M ((M 1 2) + 5) (z_w ((z_w (a2 * 6)) + a1))))) z_LL M)
    (b3 : ((z_cmg M (M 1 0) a1 a2)) → (¬ (a2 ≤ a1)) → 0 ≤ (z_w ((z_w (a1 * 6)) + a2)) ∧ (z_w ((z_w (a1 * 6)) + a2)) < 36)
    (l3 : ((z_cmg M (M 1 0) a1 a2)) → (¬ (a2 ≤ a1)) → P (some (0, (M ((M 1 2) + 5) (z_w ((z_w (a1 * 6)) + a2))))) z_LL M) :
    wp xs (d + 2) mX9_mixed 0 [(2, 1), (0, a1), (0, a2)] [] z_LL M P := by
  refine wp_run 1 (pc' := 1) (ls' := [(2, 1), (0, a1), (0, a2)]) (st' := [(2, 1)]) rfl ?_
  refine wp_gf (pc' := 4) (t := 2) (v := (M 1 0)) rfl rfl (by decide) rfl rfl rfl ?_
  refine wp_run 2 (pc' := 6) (ls' := [(2, 1), (0, a1), (0, a2)]) (st' := [(0, a2), (0, a1), (2, (M 1 0))]) rfl ?_
  refine wp_callv (pc' := 9) (as := [(2, (M 1 0)), (0, a1), (0, a2)]) (rest := []) (ls1 := [(2, (M 1 0)), (0, a1), (0, a2)]) rfl rfl rfl rfl (z_args_v rfl rfl rfl rfl (Nat.le_of_ble_eq_true rfl) rfl (by decide) (z_gl0 hg1)) rfl ?_
  refine s_X1_canMix hg1 (b1) ?_
  show wp xs _ mX9_mixed 9 [(2, 1), (0, a1), (0, a2)] [(0, (z_b (z_cmg M (M 1 0) a1 a2)))] z_LL M _
  refine wp_be rfl rfl rfl (fun (c1 : ¬ (z_cmg M (M 1 0) a1 a2)) => ?_) (fun (c1 : (z_cmg M (M 1 0) a1 a2)) => ?_)
  · refine wp_run 1 (pc' := 25) (ls' := [(2, 1), (0, a1), (0, a2)]) (st' := [(0, (-1))]) rfl ?_
    exact wp_ret rfl rfl (l1 c1)
  · refine wp_run 1 (pc' := 13) (ls' := [(2, 1), (0, a1), (0, a2)]) (st' := [(2, 1)]) rfl ?_
    refine wp_gf (pc' := 16) (t := 2) (v := (M 1 2)) rfl rfl (by decide) rfl rfl rfl ?_
    refine wp_run 2 (pc' := 18) (ls' := [(2, 1), (0, a1), (0, a2)]) (st' := [(0, a2), (0, a1), (2, (M 1 2))]) rfl ?_
    refine wp_callv (pc' := 21) (as := [(2, (M 1 2)), (0, a1), (0, a2)]) (rest := []) (ls1 := [(2, (M 1 2)), (0, a1), (0, a2)]) rfl rfl rfl rfl (z_args_v rfl rfl rfl rfl (Nat.le_of_ble_eq_true rfl) rfl (by decide) (z_hl0 hh2)) rfl ?_
    refine wp_run 1 (pc' := 1) (ls' := [(2, (M 1 2)), (0, a1), (0, a2)]) (st' := [(2, (M 1 2))]) rfl ?_
    refine wp_gf (pc' := 4) (t := 2) (v := ((M 1 2) + 5)) rfl rfl (by decide) rfl (z_hl0 hh2) (z_hf4 hh2) ?_
    refine wp_run 2 (pc' := 6) (ls' := [(2, (M 1 2)), (0, a1), (0, a2)]) (st' := [(0, a2), (0, a1), (2, ((M 1 2) + 5))]) rfl ?_
    refine wp_callv (pc' := 9) (as := [(0, a1), (0, a2)]) (rest := [(2, ((M 1 2) + 5))]) (ls1 := [(0, a1), (0, a2)]) rfl rfl rfl rfl rfl rfl ?_
    refine wp_run 2 (pc' := 2) (ls' := [(0, a1), (0, a2)]) (st' := [(0, a2), (0, a1)]) rfl ?_
    refine wp_if2 rfl rfl rfl (fun (c2 : a2 ≤ a1) => ?_) (fun (c2 : ¬ (a2 ≤ a1)) => ?_)
    · refine wp_run 5 (pc' := 20) (ls' := [(0, a1), (0, a2)]) (st' := [(0, (z_w ((z_w (a2 * 6)) + a1)))]) rfl ?_
      refine wp_ret rfl rfl ?_
      show wp xs _ mX2_mixedOf 9 [(2, (M 1 2)), (0, a1), (0, a2)] [(0, (z_w ((z_w (a2 * 6)) + a1))), (2, ((M 1 2) + 5))] z_LL M _
      refine wp_iald (pc' := 10) (v := (M ((M 1 2) + 5) (z_w ((z_w (a2 * 6)) + a1)))) rfl rfl (z_hl5 hh2) (b2 c1 c2) rfl ?_
      refine wp_ret rfl rfl ?_
      show wp xs _ mX9_mixed 21 [(2, 1), (0, a1), (0, a2)] [(0, (M ((M 1 2) + 5) (z_w ((z_w (a2 * 6)) + a1))))] z_LL M _
      refine wp_run 1 (pc' := 25) (ls' := [(2, 1), (0, a1), (0, a2)]) (st' := [(0, (M ((M 1 2) + 5) (z_w ((z_w (a2 * 6)) + a1))))]) rfl ?_
      exact wp_ret rfl rfl (l2 c1 c2)
    · refine wp_run 6 (pc' := 20) (ls' := [(0, a1), (0, a2)]) (st' := [(0, (z_w ((z_w (a1 * 6)) + a2)))]) rfl ?_
      refine wp_ret rfl rfl ?_
      show wp xs _ mX2_mixedOf 9 [(2, (M 1 2)), (0, a1), (0, a2)] [(0, (z_w ((z_w (a1 * 6)) + a2))), (2, ((M 1 2) + 5))] z_LL M _
      refine wp_iald (pc' := 10) (v := (M ((M 1 2) + 5) (z_w ((z_w (a1 * 6)) + a2)))) rfl rfl (z_hl5 hh2) (b3 c1 c2) rfl ?_
      refine wp_ret rfl rfl ?_
      show wp xs _ mX9_mixed 21 [(2, 1), (0, a1), (0, a2)] [(0, (M ((M 1 2) + 5) (z_w ((z_w (a1 * 6)) + a2))))] z_LL M _
      refine wp_run 1 (pc' := 25) (ls' := [(2, 1), (0, a1), (0, a2)]) (st' := [(0, (M ((M 1 2) + 5) (z_w ((z_w (a1 * 6)) + a2))))]) rfl ?_
      exact wp_ret rfl rfl (l3 c1 c2)
set_option maxRecDepth 20000 in
theorem gX10_mixed_0 {xs : List Int} {d : Nat} {M : z_M} {P : Option z_V → z_L → z_M → Prop} {a1 : Int} {a2 : Int} (hF : z_fix M) (hC : z_mc M) 
    (l1 : (¬ ((0 ≤ a1 ∧ a1 < M 321 48) ∧ (0 ≤ a2 ∧ a2 < M 321 48) ∧ z_cm M a1 a2)) → P (some (0, (-1))) z_LL M)
    (b1 : (((0 ≤ a1 ∧ a1 < M 321 48) ∧ (0 ≤ a2 ∧ a2 < M 321 48) ∧ z_cm M a1 a2)) → 0 ≤ (z_w ((z_w (18 + (z_w (6 * a1)))) + a2)) ∧ (z_w ((z_w (18 + (z_w (6 * a1)))) + a2)) < 106)
    (l2 : (((0 ≤ a1 ∧ a1 < M 321 48) ∧ (0 ≤ a2 ∧ a2 < M 321 48) ∧ z_cm M a1 a2)) → P (some (0, (M 342 (z_w ((z_w (18 + (z_w (6 * a1)))) + a2))))) z_LL M) :
    wp xs (d + 3) mX10_mixed 0 [(2, 321), (0, a1), (0, a2)] [] z_LL M P := by
  refine wp_run 3 (pc' := 3) (ls' := [(2, 321), (0, a1), (0, a2)]) (st' := [(0, a2), (0, a1), (2, 321)]) rfl ?_
  refine wp_callv (pc' := 6) (as := [(2, 321), (0, a1), (0, a2)]) (rest := []) (ls1 := [(2, 321), (0, a1), (0, a2)]) rfl rfl rfl rfl rfl rfl ?_
  refine s_X10_areMixing hF hC ?_
  show wp xs _ mX10_mixed 6 [(2, 321), (0, a1), (0, a2)] [(0, (z_b ((0 ≤ a1 ∧ a1 < M 321 48) ∧ (0 ≤ a2 ∧ a2 < M 321 48) ∧ z_cm M a1 a2)))] z_LL M _
  refine wp_be rfl rfl rfl (fun (c1 : ¬ ((0 ≤ a1 ∧ a1 < M 321 48) ∧ (0 ≤ a2 ∧ a2 < M 321 48) ∧ z_cm M a1 a2)) => ?_) (fun (c1 : ((0 ≤ a1 ∧ a1 < M 321 48) ∧ (0 ≤ a2 ∧ a2 < M 321 48) ∧ z_cm M a1 a2)) => ?_)
  · refine wp_run 1 (pc' := 27) (ls' := [(2, 321), (0, a1), (0, a2)]) (st' := [(0, (-1))]) rfl ?_
    exact wp_ret rfl rfl (l1 c1)
  · refine wp_run 1 (pc' := 10) (ls' := [(2, 321), (0, a1), (0, a2)]) (st' := [(2, 321)]) rfl ?_
    refine wp_gf (pc' := 13) (t := 2) (v := 342) rfl rfl (by decide) rfl rfl (fx_321_60 hF) ?_
    refine wp_run 7 (pc' := 22) (ls' := [(2, 321), (0, a1), (0, a2)]) (st' := [(0, (z_w ((z_w (18 + (z_w (6 * a1)))) + a2))), (2, 342)]) rfl ?_
    refine wp_iald (pc' := 23) (v := (M 342 (z_w ((z_w (18 + (z_w (6 * a1)))) + a2)))) rfl rfl rfl (b1 c1) rfl ?_
    refine wp_run 1 (pc' := 27) (ls' := [(2, 321), (0, a1), (0, a2)]) (st' := [(0, (M 342 (z_w ((z_w (18 + (z_w (6 * a1)))) + a2))))]) rfl ?_
    exact wp_ret rfl rfl (l2 c1)
set_option maxRecDepth 20000 in
theorem gX9_wants_0 {xs : List Int} {d : Nat} {M : z_M} {P : Option z_V → z_L → z_M → Prop} {a1 : Int} {a2 : Int} (hg1 : z_gor M (M 1 0))
    (l1 : (a1 < 0) → P (some (0, (-2))) z_LL M)
    (l2 : (¬ (a1 < 0)) → ((M (M 1 0) 12) ≤ a1) → P (some (0, (-2))) z_LL M)
    (l3 : (¬ (a1 < 0)) → (¬ ((M (M 1 0) 12) ≤ a1)) → (a2 < 0) → P (some (0, (-2))) z_LL M)
    (l4 : (¬ (a1 < 0)) → (¬ ((M (M 1 0) 12) ≤ a1)) → (¬ (a2 < 0)) → ((M (M 1 0) 12) ≤ a2) → P (some (0, (-2))) z_LL M)
    (b1 : (¬ (a1 < 0)) → (¬ ((M (M 1 0) 12) ≤ a1)) → (¬ (a2 < 0)) → (¬ ((M (M 1 0) 12) ≤ a2)) → 0 ≤ (z_w ((z_w (a1 * 6)) + a2)) ∧ (z_w ((z_w (a1 * 6)) + a2)) < 36)
    (l5 : (¬ (a1 < 0)) → (¬ ((M (M 1 0) 12) ≤ a1)) → (¬ (a2 < 0)) → (¬ ((M (M 1 0) 12) ≤ a2)) → P (some (0, (M ((M 1 0) + 6) (z_w ((z_w (a1 * 6)) + a2))))) z_LL M) :
    wp xs (d + 1) mX9_wants 0 [(2, 1), (0, a1), (0, a2)] [] z_LL M P := by
  refine wp_run 1 (pc' := 1) (ls' := [(2, 1), (0, a1), (0, a2)]) (st' := [(2, 1)]) rfl ?_
  refine wp_gf (pc' := 4) (t := 2) (v := (M 1 0)) rfl rfl (by decide) rfl rfl rfl ?_
  refine wp_run 1 (pc' := 5) (ls' := [(2, 1), (0, a1), (0, a2)]) (st' := [(0, a1), (2, (M 1 0))]) rfl ?_
  refine wp_callv (pc' := 8) (as := [(2, (M 1 0)), (0, a1)]) (rest := []) (ls1 := [(2, (M 1 0)), (0, a1)]) rfl rfl rfl rfl (z_args_v rfl rfl rfl rfl (Nat.le_of_ble_eq_true rfl) rfl (by decide) (z_gl0 hg1)) rfl ?_
  refine wp_run 1 (pc' := 1) (ls' := [(2, (M 1 0)), (0, a1)]) (st' := [(0, a1)]) rfl ?_
  refine wp_if1 rfl rfl rfl (fun (c1 : a1 < 0) => ?_) (fun (c1 : ¬ (a1 < 0)) => ?_)
  · refine wp_run 1 (pc' := 17) (ls' := [(2, (M 1 0)), (0, a1)]) (st' := [(0, 0)]) rfl ?_
    refine wp_ret rfl rfl ?_
    show wp xs _ mX9_wants 8 [(2, 1), (0, a1), (0, a2)] [(0, 0)] z_LL M _
    refine wp_run 2 (pc' := 24) (ls' := [(2, 1), (0, a1), (0, a2)]) (st' := [(0, (-2))]) rfl ?_
    exact wp_ret rfl rfl (l1 c1)
  · refine wp_run 2 (pc' := 6) (ls' := [(2, (M 1 0)), (0, a1)]) (st' := [(2, (M 1 0)), (0, a1)]) rfl ?_
    refine wp_gf (pc' := 9) (t := 0) (v := (M (M 1 0) 12)) rfl rfl (by decide) rfl (z_gl0 hg1) rfl ?_
    refine wp_if2 rfl rfl rfl (fun (c2 : (M (M 1 0) 12) ≤ a1) => ?_) (fun (c2 : ¬ ((M (M 1 0) 12) ≤ a1)) => ?_)
    · refine wp_run 1 (pc' := 17) (ls' := [(2, (M 1 0)), (0, a1)]) (st' := [(0, 0)]) rfl ?_
      refine wp_ret rfl rfl ?_
      show wp xs _ mX9_wants 8 [(2, 1), (0, a1), (0, a2)] [(0, 0)] z_LL M _
      refine wp_run 2 (pc' := 24) (ls' := [(2, 1), (0, a1), (0, a2)]) (st' := [(0, (-2))]) rfl ?_
      exact wp_ret rfl rfl (l2 c1 c2)
    · refine wp_run 2 (pc' := 17) (ls' := [(2, (M 1 0)), (0, a1)]) (st' := [(0, 1)]) rfl ?_
      refine wp_ret rfl rfl ?_
      show wp xs _ mX9_wants 8 [(2, 1), (0, a1), (0, a2)] [(0, 1)] z_LL M _
      refine wp_run 2 (pc' := 12) (ls' := [(2, 1), (0, a1), (0, a2)]) (st' := [(2, 1)]) rfl ?_
      refine wp_gf (pc' := 15) (t := 2) (v := (M 1 0)) rfl rfl (by decide) rfl rfl rfl ?_
      refine wp_run 1 (pc' := 16) (ls' := [(2, 1), (0, a1), (0, a2)]) (st' := [(0, a2), (2, (M 1 0))]) rfl ?_
      refine wp_callv (pc' := 19) (as := [(2, (M 1 0)), (0, a2)]) (rest := []) (ls1 := [(2, (M 1 0)), (0, a2)]) rfl rfl rfl rfl (z_args_v rfl rfl rfl rfl (Nat.le_of_ble_eq_true rfl) rfl (by decide) (z_gl0 hg1)) rfl ?_
      refine wp_run 1 (pc' := 1) (ls' := [(2, (M 1 0)), (0, a2)]) (st' := [(0, a2)]) rfl ?_
      refine wp_if1 rfl rfl rfl (fun (c3 : a2 < 0) => ?_) (fun (c3 : ¬ (a2 < 0)) => ?_)
      · refine wp_run 1 (pc' := 17) (ls' := [(2, (M 1 0)), (0, a2)]) (st' := [(0, 0)]) rfl ?_
        refine wp_ret rfl rfl ?_
        show wp xs _ mX9_wants 19 [(2, 1), (0, a1), (0, a2)] [(0, 0)] z_LL M _
        refine wp_run 2 (pc' := 24) (ls' := [(2, 1), (0, a1), (0, a2)]) (st' := [(0, (-2))]) rfl ?_
        exact wp_ret rfl rfl (l3 c1 c2 c3)
      · refine wp_run 2 (pc' := 6) (ls' := [(2, (M 1 0)), (0, a2)]) (st' := [(2, (M 1 0)), (0, a2)]) rfl ?_
        refine wp_gf (pc' := 9) (t := 0) (v := (M (M 1 0) 12)) rfl rfl (by decide) rfl (z_gl0 hg1) rfl ?_
        refine wp_if2 rfl rfl rfl (fun (c4 : (M (M 1 0) 12) ≤ a2) => ?_) (fun (c4 : ¬ ((M (M 1 0) 12) ≤ a2)) => ?_)
        · refine wp_run 1 (pc' := 17) (ls' := [(2, (M 1 0)), (0, a2)]) (st' := [(0, 0)]) rfl ?_
          refine wp_ret rfl rfl ?_
          show wp xs _ mX9_wants 19 [(2, 1), (0, a1), (0, a2)] [(0, 0)] z_LL M _
          refine wp_run 2 (pc' := 24) (ls' := [(2, 1), (0, a1), (0, a2)]) (st' := [(0, (-2))]) rfl ?_
          exact wp_ret rfl rfl (l4 c1 c2 c3 c4)
        · refine wp_run 2 (pc' := 17) (ls' := [(2, (M 1 0)), (0, a2)]) (st' := [(0, 1)]) rfl ?_
          refine wp_ret rfl rfl ?_
          show wp xs _ mX9_wants 19 [(2, 1), (0, a1), (0, a2)] [(0, 1)] z_LL M _
          refine wp_run 2 (pc' := 26) (ls' := [(2, 1), (0, a1), (0, a2)]) (st' := [(2, 1)]) rfl ?_
          refine wp_gf (pc' := 29) (t := 2) (v := (M 1 0)) rfl rfl (by decide) rfl rfl rfl ?_
          refine wp_run 2 (pc' := 31) (ls' := [(2, 1), (0, a1), (0, a2)]) (st' := [(0, a2), (0, a1), (2, (M 1 0))]) rfl ?_
          refine wp_callv (pc' := 34) (as := [(2, (M 1 0)), (0, a1), (0, a2)]) (rest := []) (ls1 := [(2, (M 1 0)), (0, a1), (0, a2)]) rfl rfl rfl rfl (z_args_v rfl rfl rfl rfl (Nat.le_of_ble_eq_true rfl) rfl (by decide) (z_gl0 hg1)) rfl ?_
          refine wp_run 1 (pc' := 1) (ls' := [(2, (M 1 0)), (0, a1), (0, a2)]) (st' := [(2, (M 1 0))]) rfl ?_
          refine wp_gf (pc' := 4) (t := 2) (v := ((M 1 0) + 6)) rfl rfl (by decide) rfl (z_gl0 hg1) (z_gf5 hg1) ?_
          refine wp_run 5 (pc' := 10) (ls' := [(2, (M 1 0)), (0, a1), (0, a2)]) (st' := [(0, (z_w ((z_w (a1 * 6)) + a2))), (2, ((M 1 0) + 6))]) rfl ?_
          refine wp_iald (pc' := 11) (v := (M ((M 1 0) + 6) (z_w ((z_w (a1 * 6)) + a2)))) rfl rfl (z_gl6 hg1) (b1 c1 c2 c3 c4) rfl ?_
          refine wp_ret rfl rfl ?_
          show wp xs _ mX9_wants 34 [(2, 1), (0, a1), (0, a2)] [(0, (M ((M 1 0) + 6) (z_w ((z_w (a1 * 6)) + a2))))] z_LL M _
          exact wp_ret rfl rfl (l5 c1 c2 c3 c4)
set_option maxRecDepth 20000 in
theorem gX10_wants_0 {xs : List Int} {d : Nat} {M : z_M} {P : Option z_V → z_L → z_M → Prop} {a1 : Int} {a2 : Int} (hF : z_fix M) (hC : z_mc M) 
    (l1 : (¬ (0 ≤ a1 ∧ a1 < M 321 48)) → P (some (0, (-2))) z_LL M)
    (l2 : ((0 ≤ a1 ∧ a1 < M 321 48)) → (¬ (0 ≤ a2 ∧ a2 < M 321 48)) → P (some (0, (-2))) z_LL M)
    (b1 : ((0 ≤ a1 ∧ a1 < M 321 48)) → ((0 ≤ a2 ∧ a2 < M 321 48)) → 0 ≤ (z_w ((z_w (6 * a1)) + a2)) ∧ (z_w ((z_w (6 * a1)) + a2)) < 36)
    (l3 : ((0 ≤ a1 ∧ a1 < M 321 48)) → ((0 ≤ a2 ∧ a2 < M 321 48)) → P (some (0, (M 340 (z_w ((z_w (6 * a1)) + a2))))) z_LL M) :
    wp xs (d + 2) mX10_wants 0 [(2, 321), (0, a1), (0, a2)] [] z_LL M P := by
  refine wp_run 2 (pc' := 2) (ls' := [(2, 321), (0, a1), (0, a2)]) (st' := [(0, a1), (2, 321)]) rfl ?_
  refine wp_callv (pc' := 5) (as := [(2, 321), (0, a1)]) (rest := []) (ls1 := [(2, 321), (0, a1)]) rfl rfl rfl rfl rfl rfl ?_
  refine s_X10_isFlock hF hC ?_
  show wp xs _ mX10_wants 5 [(2, 321), (0, a1), (0, a2)] [(0, (z_b (0 ≤ a1 ∧ a1 < M 321 48)))] z_LL M _
  refine wp_be rfl rfl rfl (fun (c1 : ¬ (0 ≤ a1 ∧ a1 < M 321 48)) => ?_) (fun (c1 : (0 ≤ a1 ∧ a1 < M 321 48)) => ?_)
  · refine wp_run 1 (pc' := 32) (ls' := [(2, 321), (0, a1), (0, a2)]) (st' := [(0, (-2))]) rfl ?_
    exact wp_ret rfl rfl (l1 c1)
  · refine wp_run 2 (pc' := 10) (ls' := [(2, 321), (0, a1), (0, a2)]) (st' := [(0, a2), (2, 321)]) rfl ?_
    refine wp_callv (pc' := 13) (as := [(2, 321), (0, a2)]) (rest := []) (ls1 := [(2, 321), (0, a2)]) rfl rfl rfl rfl rfl rfl ?_
    refine s_X10_isFlock hF hC ?_
    show wp xs _ mX10_wants 13 [(2, 321), (0, a1), (0, a2)] [(0, (z_b (0 ≤ a2 ∧ a2 < M 321 48)))] z_LL M _
    refine wp_be rfl rfl rfl (fun (c2 : ¬ (0 ≤ a2 ∧ a2 < M 321 48)) => ?_) (fun (c2 : (0 ≤ a2 ∧ a2 < M 321 48)) => ?_)
    · refine wp_run 1 (pc' := 32) (ls' := [(2, 321), (0, a1), (0, a2)]) (st' := [(0, (-2))]) rfl ?_
      exact wp_ret rfl rfl (l2 c1 c2)
    · refine wp_run 1 (pc' := 17) (ls' := [(2, 321), (0, a1), (0, a2)]) (st' := [(2, 321)]) rfl ?_
      refine wp_gf (pc' := 20) (t := 2) (v := 340) rfl rfl (by decide) rfl rfl (fx_321_34 hF) ?_
      refine wp_run 5 (pc' := 26) (ls' := [(2, 321), (0, a1), (0, a2)]) (st' := [(0, (z_w ((z_w (6 * a1)) + a2))), (2, 340)]) rfl ?_
      refine wp_iald (pc' := 27) (v := (M 340 (z_w ((z_w (6 * a1)) + a2)))) rfl rfl rfl (b1 c1 c2) rfl ?_
      refine wp_run 1 (pc' := 32) (ls' := [(2, 321), (0, a1), (0, a2)]) (st' := [(0, (M 340 (z_w ((z_w (6 * a1)) + a2))))]) rfl ?_
      exact wp_ret rfl rfl (l3 c1 c2)
set_option maxRecDepth 20000 in
theorem gX9_lies_0 {xs : List Int} {d : Nat} {M : z_M} {P : Option z_V → z_L → z_M → Prop} {a1 : Int} (hF : z_fix M) 
    (l1 : (a1 < 0) → P (some (0, (-2))) z_LL M)
    (l2 : (¬ (a1 < 0)) → ((M 1 13) ≤ a1) → P (some (0, (-2))) z_LL M)
    (b1 : (¬ (a1 < 0)) → (¬ ((M 1 13) ≤ a1)) → 0 ≤ a1 ∧ a1 < 6)
    (l3 : (¬ (a1 < 0)) → (¬ ((M 1 13) ≤ a1)) → P (some (0, (M 302 a1))) z_LL M) :
    wp xs d mX9_lies 0 [(2, 1), (0, a1)] [] z_LL M P := by
  refine wp_run 1 (pc' := 1) (ls' := [(2, 1), (0, a1)]) (st' := [(0, a1)]) rfl ?_
  refine wp_if1 rfl rfl rfl (fun (c1 : a1 < 0) => ?_) (fun (c1 : ¬ (a1 < 0)) => ?_)
  · refine wp_run 1 (pc' := 23) (ls' := [(2, 1), (0, a1)]) (st' := [(0, (-2))]) rfl ?_
    exact wp_ret rfl rfl (l1 c1)
  · refine wp_run 2 (pc' := 6) (ls' := [(2, 1), (0, a1)]) (st' := [(2, 1), (0, a1)]) rfl ?_
    refine wp_gf (pc' := 9) (t := 0) (v := (M 1 13)) rfl rfl (by decide) rfl rfl rfl ?_
    refine wp_if2 rfl rfl rfl (fun (c2 : (M 1 13) ≤ a1) => ?_) (fun (c2 : ¬ ((M 1 13) ≤ a1)) => ?_)
    · refine wp_run 1 (pc' := 23) (ls' := [(2, 1), (0, a1)]) (st' := [(0, (-2))]) rfl ?_
      exact wp_ret rfl rfl (l2 c1 c2)
    · refine wp_run 1 (pc' := 13) (ls' := [(2, 1), (0, a1)]) (st' := [(2, 1)]) rfl ?_
      refine wp_gf (pc' := 16) (t := 2) (v := 302) rfl rfl (by decide) rfl rfl (fx_1_11 hF) ?_
      refine wp_run 1 (pc' := 17) (ls' := [(2, 1), (0, a1)]) (st' := [(0, a1), (2, 302)]) rfl ?_
      refine wp_iald (pc' := 18) (v := (M 302 a1)) rfl rfl rfl (b1 c1 c2) rfl ?_
      refine wp_run 1 (pc' := 23) (ls' := [(2, 1), (0, a1)]) (st' := [(0, (M 302 a1))]) rfl ?_
      exact wp_ret rfl rfl (l3 c1 c2)
set_option maxRecDepth 20000 in
theorem gX10_lies_0 {xs : List Int} {d : Nat} {M : z_M} {P : Option z_V → z_L → z_M → Prop} {a1 : Int} (hF : z_fix M) 
    (l1 : (¬ (0 ≤ a1 ∧ a1 ≤ (z_w ((M 321 68) - 1)))) → P (some (0, (-2))) z_LL M)
    (b1 : ((0 ≤ a1 ∧ a1 ≤ (z_w ((M 321 68) - 1)))) → 0 ≤ a1 ∧ a1 < 6)
    (l2 : ((0 ≤ a1 ∧ a1 ≤ (z_w ((M 321 68) - 1)))) → P (some (0, (M 347 a1))) z_LL M) :
    wp xs (d + 1) mX10_lies 0 [(2, 321), (0, a1)] [] z_LL M P := by
  refine wp_run 3 (pc' := 3) (ls' := [(2, 321), (0, a1)]) (st' := [(2, 321), (0, 0), (0, a1)]) rfl ?_
  refine wp_gf (pc' := 6) (t := 0) (v := (M 321 68)) rfl rfl (by decide) rfl rfl rfl ?_
  refine wp_run 2 (pc' := 8) (ls' := [(2, 321), (0, a1)]) (st' := [(0, (z_w ((M 321 68) - 1))), (0, 0), (0, a1)]) rfl ?_
  refine wp_callv (pc' := 11) (as := [(0, a1), (0, 0), (0, (z_w ((M 321 68) - 1)))]) (rest := []) (ls1 := [(0, a1), (0, 0), (0, (z_w ((M 321 68) - 1)))]) rfl rfl rfl rfl rfl rfl ?_
  refine s_X10_isIn  ?_
  show wp xs _ mX10_lies 11 [(2, 321), (0, a1)] [(0, (z_b (0 ≤ a1 ∧ a1 ≤ (z_w ((M 321 68) - 1)))))] z_LL M _
  refine wp_be rfl rfl rfl (fun (c1 : ¬ (0 ≤ a1 ∧ a1 ≤ (z_w ((M 321 68) - 1)))) => ?_) (fun (c1 : (0 ≤ a1 ∧ a1 ≤ (z_w ((M 321 68) - 1)))) => ?_)
  · refine wp_run 1 (pc' := 25) (ls' := [(2, 321), (0, a1)]) (st' := [(0, (-2))]) rfl ?_
    exact wp_ret rfl rfl (l1 c1)
  · refine wp_run 1 (pc' := 15) (ls' := [(2, 321), (0, a1)]) (st' := [(2, 321)]) rfl ?_
    refine wp_gf (pc' := 18) (t := 2) (v := 347) rfl rfl (by decide) rfl rfl (fx_321_67 hF) ?_
    refine wp_run 1 (pc' := 19) (ls' := [(2, 321), (0, a1)]) (st' := [(0, a1), (2, 347)]) rfl ?_
    refine wp_iald (pc' := 20) (v := (M 347 a1)) rfl rfl rfl (b1 c1) rfl ?_
    refine wp_run 1 (pc' := 25) (ls' := [(2, 321), (0, a1)]) (st' := [(0, (M 347 a1))]) rfl ?_
    exact wp_ret rfl rfl (l2 c1)
set_option maxRecDepth 20000 in
theorem gX9_grass_0 {xs : List Int} {d : Nat} {M : z_M} {P : Option z_V → z_L → z_M → Prop} (hh1 : z_her M (M 1 2))
    (l1 : P (some (0, (z_agr M (M 1 2)))) z_LL M) :
    wp xs (d + 1) mX9_grass 0 [(2, 1)] [] z_LL M P := by
  refine wp_run 1 (pc' := 1) (ls' := [(2, 1)]) (st' := [(2, 1)]) rfl ?_
  refine wp_gf (pc' := 4) (t := 2) (v := (M 1 2)) rfl rfl (by decide) rfl rfl rfl ?_
  refine wp_callv (pc' := 7) (as := [(2, (M 1 2))]) (rest := []) (ls1 := [(2, (M 1 2)), (3, 0), (3, 0)]) rfl rfl rfl rfl (z_args_v rfl rfl rfl rfl (Nat.le_of_ble_eq_true rfl) rfl (by decide) (z_hl0 hh1)) rfl ?_
  refine s_X2_allGrass hh1 ?_
  show wp xs _ mX9_grass 7 [(2, 1)] [(0, (z_agr M (M 1 2)))] z_LL M _
  exact wp_ret rfl rfl (l1)
set_option maxRecDepth 20000 in
theorem gX10_grass_0 {xs : List Int} {d : Nat} {M : z_M} {P : Option z_V → z_L → z_M → Prop} 
    (l1 : wp xs d mX10_load 0 [(2, 321), (3, 0)] [] z_LL M (fun r L1 M1 => wp xs (d + 1) mX10_grass 4 [(2, 321)] (z_ol r ++ []) L1 M1 P)) :
    wp xs (d + 1) mX10_grass 0 [(2, 321)] [] z_LL M P := by
  refine wp_run 1 (pc' := 1) (ls' := [(2, 321)]) (st' := [(2, 321)]) rfl ?_
  refine wp_callv (pc' := 4) (as := [(2, 321)]) (rest := []) (ls1 := [(2, 321), (3, 0)]) rfl rfl rfl rfl rfl rfl ?_
  exact l1
set_option maxRecDepth 20000 in
theorem gX10_grass_4 {xs : List Int} {d : Nat} {M : z_M} {P : Option z_V → z_L → z_M → Prop} (hF : z_fix M) (hC : z_mc M) 
    (l1 : P (some (0, (z_agm M))) z_LL M) :
    wp xs (d + 2) mX10_grass 4 [(2, 321)] [] z_LL M P := by
  refine wp_run 1 (pc' := 5) (ls' := [(2, 321)]) (st' := [(2, 321)]) rfl ?_
  refine wp_callv (pc' := 8) (as := [(2, 321)]) (rest := []) (ls1 := [(2, 321), (3, 0), (3, 0)]) rfl rfl rfl rfl rfl rfl ?_
  refine s_X10_allGrass hF hC ?_
  show wp xs _ mX10_grass 8 [(2, 321)] [(0, (z_agm M))] z_LL M _
  exact wp_ret rfl rfl (l1)
theorem z_R_mx (hR : z_R M) {a b : Int} (a1 : 0 ≤ a) (a2 : a < M 321 48) (b1 : 0 ≤ b) (b2 : b < M 321 48) (hne : a ≠ b) : (b ≤ a → M (M 1 2 + 5) (6 * b + a) = M 342 (18 + 6 * a + b)) ∧ (¬ b ≤ a → M (M 1 2 + 5) (6 * a + b) = M 342 (18 + 6 * a + b)) :=
  ⟨fun h => ((z_R_H hR).2.2.2.1 b a b1 (by omega) a2).2, fun h => ((z_R_H hR).2.2.2.1 a b a1 (by omega) b2).1⟩
theorem z_R_cm (hR : z_R M) (a b : Int) : z_cmg M (M 1 0) a b ↔ (0 ≤ a ∧ a < M 321 48) ∧ (0 ≤ b ∧ b < M 321 48) ∧ z_cm M a b := by
  by_cases h : (0 ≤ a ∧ a < M 321 48) ∧ (0 ≤ b ∧ b < M 321 48)
  · rw [z_cmg_cm (z_R_g hR) h.1.1 h.1.2 h.2.1 h.2.2]
    exact ⟨fun q => ⟨h.1, h.2, q⟩, fun q => q.2.2⟩
  · refine ⟨fun q => ?_, fun q => absurd ⟨q.1, q.2.1⟩ h⟩
    have q1 := q.1
    have q2 := q.2.1
    rw [(z_R_n hR).2.2.1] at q1 q2
    exact absurd ⟨q1, q2⟩ h
theorem c_mixed {a1 a2 : Int} (hR : z_R M) : z_two xs (d + 200) mX9_mixed mX10_mixed [(2, 1), (0, a1), (0, a2)] [(2, 321), (0, a1), (0, a2)] M := by
  have hn := (z_R_C hR).2.2.1
  have g := fun P => gX9_mixed_0 (M := M) (xs := xs) (d := d + 198) (P := P) (a1 := a1) (a2 := a2) (z_R_g hR).1 (z_R_H hR).1
  simp only [(z_R_n hR).2.2.1] at g
  unfold z_two
  have cm := z_R_cm hR a1 a2
  by_cases h : z_cmg M (M 1 0) a1 a2
  · have h2 := cm.mp h
    have hne : a1 ≠ a2 := fun e => h2.2.2.1 (by rw [e])
    have e := z_R_mx hR h2.1.1 h2.1.2 h2.2.1.1 h2.2.1.2 hne
    have g2 := fun P => gX10_mixed_0 (M := M) (xs := xs) (d := d + 197) (P := P) (a1 := a1) (a2 := a2) (z_R_F hR) (z_R_C hR)
    simp only [z_wid (x := 6 * a1) (by omega), z_wid (x := 18 + 6 * a1) (by omega), z_wid (x := 18 + 6 * a1 + a2) (by omega)] at g2
    simp only [show a2 * 6 = 6 * a2 by omega, show a1 * 6 = 6 * a1 by omega, z_wid (x := 6 * a1) (by omega), z_wid (x := 6 * a2) (by omega), z_wid (x := 6 * a1 + a2) (by omega), z_wid (x := 6 * a2 + a1) (by omega)] at g
    apply g
    case b1 => omega
    case b2 => intros; omega
    case b3 => intros; omega
    case l1 => exact fun c => absurd h c
    case l2 =>
      intro _ c
      rw [e.1 c]
      exact ⟨_, rfl, rfl, g2 _ (fun q => absurd h2 q) (fun _ => by omega) (fun _ => ⟨rfl, rfl, hR⟩)⟩
    case l3 =>
      intro _ c
      rw [e.2 c]
      exact ⟨_, rfl, rfl, g2 _ (fun q => absurd h2 q) (fun _ => by omega) (fun _ => ⟨rfl, rfl, hR⟩)⟩
  · have h2 : ¬ ((0 ≤ a1 ∧ a1 < M 321 48) ∧ (0 ≤ a2 ∧ a2 < M 321 48) ∧ z_cm M a1 a2) := fun q => h (cm.mpr q)
    refine g _ (by omega) (fun _ => ⟨_, rfl, rfl, ?_⟩) (fun q => absurd q h) (fun q => absurd q h) (fun q => absurd q h) (fun q => absurd q h)
    exact gX10_mixed_0 (z_R_F hR) (z_R_C hR) (fun _ => ⟨rfl, rfl, hR⟩) (fun q => absurd q h2) (fun q => absurd q h2)
theorem c_wants {a1 a2 : Int} (hR : z_R M) : z_two xs (d + 200) mX9_wants mX10_wants [(2, 1), (0, a1), (0, a2)] [(2, 321), (0, a1), (0, a2)] M := by
  have hn := (z_R_C hR).2.2.1
  have g := fun P => gX9_wants_0 (M := M) (xs := xs) (d := d + 199) (P := P) (a1 := a1) (a2 := a2) (z_R_g hR).1
  simp only [(z_R_n hR).2.2.1] at g
  unfold z_two
  by_cases h : (0 ≤ a1 ∧ a1 < M 321 48) ∧ (0 ≤ a2 ∧ a2 < M 321 48)
  · have e := ((z_R_g hR).2.2.1 a1 h.1.1 h.1.2).2.2.2.2.1 a2 h.2.1 h.2.2
    have g2 := fun P => gX10_wants_0 (M := M) (xs := xs) (d := d + 198) (P := P) (a1 := a1) (a2 := a2) (z_R_F hR) (z_R_C hR)
    simp only [z_wid (x := 6 * a1) (by omega), z_wid (x := 6 * a1 + a2) (by omega)] at g2
    simp only [show a1 * 6 = 6 * a1 by omega, z_wid (x := 6 * a1) (by omega), z_wid (x := 6 * a1 + a2) (by omega), e] at g
    apply g <;> intros <;> first | omega | (refine ⟨_, rfl, rfl, ?_⟩; apply g2 <;> intros <;> first | exact ⟨rfl, rfl, hR⟩ | omega)
  · apply g <;> intros <;> first | omega | (refine ⟨_, rfl, rfl, ?_⟩; apply gX10_wants_0 (z_R_F hR) (z_R_C hR) <;> intros <;> first | exact ⟨rfl, rfl, hR⟩ | omega)
theorem c_lies {a1 : Int} (hR : z_R M) : z_two xs (d + 200) mX9_lies mX10_lies [(2, 1), (0, a1)] [(2, 321), (0, a1)] M := by
  obtain ⟨l1, l2, l3, l4⟩ := hR.2.2.2.2.2.2.1
  have g := fun P => gX9_lies_0 (M := M) (xs := xs) (d := d + 200) (P := P) (a1 := a1) (z_R_F hR)
  have g2 := fun P => gX10_lies_0 (M := M) (xs := xs) (d := d + 199) (P := P) (a1 := a1) (z_R_F hR)
  simp only [z_wid (x := M 321 68 - 1) (by omega)] at g2
  simp only [l1] at g
  unfold z_two
  by_cases h : 0 ≤ a1 ∧ a1 < M 321 68
  · simp only [l4 a1 h.1 h.2] at g
    apply g <;> intros <;> first | omega | (refine ⟨_, rfl, rfl, ?_⟩; apply g2 <;> intros <;> first | exact ⟨rfl, rfl, hR⟩ | omega)
  · apply g <;> intros <;> first | omega | (refine ⟨_, rfl, rfl, ?_⟩; apply g2 <;> intros <;> first | exact ⟨rfl, rfl, hR⟩ | omega)
theorem z_agr_s {M : z_M} {h : Int} {s : Int → Int} {D : Int} (hC : z_mc M) (hH : z_hrd M h s) (hS : z_sn M D s) : z_agr M h = z_wss (fun c => s (54 + c)) (M 321 46 * M 321 47).toNat := by
  have hx := z_mc_cells hC
  unfold z_agr
  rw [z_wss_c (g := fun c => s (54 + c)) (fun c a b => (hH.2.2.1 c a b).1)]
  exact z_wss_0 25 (by omega) (fun c a b => (hS.2.1 c (by omega) b).2.2 (by omega))
theorem c_grass (hR : z_R M) : z_two xs (d + 200) mX9_grass mX10_grass [(2, 1)] [(2, 321)] M := by
  unfold z_two
  refine gX9_grass_0 (z_R_H hR).1 ⟨_, rfl, rfl, ?_⟩
  refine gX10_grass_0 ?_
  refine s_ldR hR (fun M1 f1 e1 => ?_)
  have hR1 := z_sc_R f1 hR
  refine gX10_grass_4 (z_R_F hR1) (z_R_C hR1) ⟨?_, rfl, hR1⟩
  rw [z_agr_s (z_R_C hR) (z_R_H hR) (z_R_S hR)]
  unfold z_agm
  rw [e1, z_sc_c f1 321 (by unfold z_conf; omega)]
set_option maxRecDepth 20000 in
theorem gX9_aboutBooks_0 {xs : List Int} {d : Nat} {M : z_M} {P : Option z_V → z_L → z_M → Prop} {a1 : Int} (hF : z_fix M) (hg1 : z_gor M (M 1 0))
    (l1 : (a1 = 8) → P (some (0, (M 47 1))) z_LL M)
    (l2 : (¬ a1 = 8) → (a1 = 9) → P (some (0, (M 47 2))) z_LL M)
    (l3 : (¬ a1 = 8) → (¬ a1 = 9) → (a1 = 10) → P (some (0, (M 294 6))) z_LL M)
    (l4 : (¬ a1 = 8) → (¬ a1 = 9) → (¬ a1 = 10) → (a1 = 11) → P (some (0, (M 294 7))) z_LL M)
    (l5 : (¬ a1 = 8) → (¬ a1 = 9) → (¬ a1 = 10) → (¬ a1 = 11) → (a1 = 12) → P (some (0, (M 30 2))) z_LL M)
    (l6 : (¬ a1 = 8) → (¬ a1 = 9) → (¬ a1 = 10) → (¬ a1 = 11) → (¬ a1 = 12) → (a1 = 13) → P (some (0, (M (M 1 0) 14))) z_LL M)
    (l7 : (¬ a1 = 8) → (¬ a1 = 9) → (¬ a1 = 10) → (¬ a1 = 11) → (¬ a1 = 12) → (¬ a1 = 13) → (a1 = 14) → P (some (0, (M 1 13))) z_LL M)
    (l8 : (¬ a1 = 8) → (¬ a1 = 9) → (¬ a1 = 10) → (¬ a1 = 11) → (¬ a1 = 12) → (¬ a1 = 13) → (¬ a1 = 14) → P (some (0, (-1))) z_LL M) :
    wp xs d mX9_aboutBooks 0 [(2, 1), (0, a1)] [] z_LL M P := by
  refine wp_run 1 (pc' := 1) (ls' := [(2, 1), (0, a1)]) (st' := [(0, a1)]) rfl ?_
  by_cases c1 : a1 = 8
  · refine wp_cast c1 ?_
    refine wp_run 2 (pc' := 45) (ls' := [(2, 1), (0, a1)]) (st' := [(2, 1)]) rfl ?_
    refine wp_gf (pc' := 48) (t := 2) (v := 47) rfl rfl (by decide) rfl rfl (fx_1_7 hF) ?_
    refine wp_gf (pc' := 51) (t := 0) (v := (M 47 1)) rfl rfl (by decide) rfl rfl rfl ?_
    exact wp_ret rfl rfl (l1 c1)
  by_cases c2 : a1 = 9
  · refine wp_cast c2 ?_
    refine wp_run 2 (pc' := 53) (ls' := [(2, 1), (0, a1)]) (st' := [(2, 1)]) rfl ?_
    refine wp_gf (pc' := 56) (t := 2) (v := 47) rfl rfl (by decide) rfl rfl (fx_1_7 hF) ?_
    refine wp_gf (pc' := 59) (t := 0) (v := (M 47 2)) rfl rfl (by decide) rfl rfl rfl ?_
    exact wp_ret rfl rfl (l2 c1 c2)
  by_cases c3 : a1 = 10
  · refine wp_cast c3 ?_
    refine wp_run 2 (pc' := 61) (ls' := [(2, 1), (0, a1)]) (st' := [(2, 1)]) rfl ?_
    refine wp_gf (pc' := 64) (t := 2) (v := 294) rfl rfl (by decide) rfl rfl (fx_1_9 hF) ?_
    refine wp_gf (pc' := 67) (t := 0) (v := (M 294 6)) rfl rfl (by decide) rfl rfl rfl ?_
    exact wp_ret rfl rfl (l3 c1 c2 c3)
  by_cases c4 : a1 = 11
  · refine wp_cast c4 ?_
    refine wp_run 2 (pc' := 69) (ls' := [(2, 1), (0, a1)]) (st' := [(2, 1)]) rfl ?_
    refine wp_gf (pc' := 72) (t := 2) (v := 294) rfl rfl (by decide) rfl rfl (fx_1_9 hF) ?_
    refine wp_gf (pc' := 75) (t := 0) (v := (M 294 7)) rfl rfl (by decide) rfl rfl rfl ?_
    exact wp_ret rfl rfl (l4 c1 c2 c3 c4)
  by_cases c5 : a1 = 12
  · refine wp_cast c5 ?_
    refine wp_run 2 (pc' := 77) (ls' := [(2, 1), (0, a1)]) (st' := [(2, 1)]) rfl ?_
    refine wp_gf (pc' := 80) (t := 2) (v := 30) rfl rfl (by decide) rfl rfl (fx_1_3 hF) ?_
    refine wp_gf (pc' := 83) (t := 0) (v := (M 30 2)) rfl rfl (by decide) rfl rfl rfl ?_
    exact wp_ret rfl rfl (l5 c1 c2 c3 c4 c5)
  by_cases c6 : a1 = 13
  · refine wp_cast c6 ?_
    refine wp_run 2 (pc' := 85) (ls' := [(2, 1), (0, a1)]) (st' := [(2, 1)]) rfl ?_
    refine wp_gf (pc' := 88) (t := 2) (v := (M 1 0)) rfl rfl (by decide) rfl rfl rfl ?_
    refine wp_gf (pc' := 91) (t := 0) (v := (M (M 1 0) 14)) rfl rfl (by decide) rfl (z_gl0 hg1) rfl ?_
    exact wp_ret rfl rfl (l6 c1 c2 c3 c4 c5 c6)
  by_cases c7 : a1 = 14
  · refine wp_cast c7 ?_
    refine wp_run 2 (pc' := 93) (ls' := [(2, 1), (0, a1)]) (st' := [(2, 1)]) rfl ?_
    refine wp_gf (pc' := 96) (t := 0) (v := (M 1 13)) rfl rfl (by decide) rfl rfl rfl ?_
    exact wp_ret rfl rfl (l7 c1 c2 c3 c4 c5 c6 c7)
  refine wp_swd rfl rfl (by omega) ?_
  refine wp_run 1 (pc' := 98) (ls' := [(2, 1), (0, a1)]) (st' := [(0, (-1))]) rfl ?_
  exact wp_ret rfl rfl (l8 c1 c2 c3 c4 c5 c6 c7)
set_option maxRecDepth 20000 in
theorem gX9_about_0 {xs : List Int} {d : Nat} {M : z_M} {P : Option z_V → z_L → z_M → Prop} {a1 : Int} (hg1 : z_gor M (M 1 0)) (hh2 : z_her M (M 1 2))
    (l1 : (a1 = 0) → P (some (0, (M (M 1 0) 12))) z_LL M)
    (l2 : (¬ a1 = 0) → (a1 = 1) → P (some (0, (M (M 1 0) 10))) z_LL M)
    (l3 : (¬ a1 = 0) → (¬ a1 = 1) → (a1 = 2) → P (some (0, (M (M 1 0) 11))) z_LL M)
    (l4 : (¬ a1 = 0) → (¬ a1 = 1) → (¬ a1 = 2) → (a1 = 3) → P (some (0, (M (M 1 0) 13))) z_LL M)
    (l5 : (¬ a1 = 0) → (¬ a1 = 1) → (¬ a1 = 2) → (¬ a1 = 3) → (a1 = 4) → P (some (0, (M (M 1 0) 18))) z_LL M)
    (l6 : (¬ a1 = 0) → (¬ a1 = 1) → (¬ a1 = 2) → (¬ a1 = 3) → (¬ a1 = 4) → (a1 = 5) → P (some (0, (M (M 1 2) 6))) z_LL M)
    (l7 : (¬ a1 = 0) → (¬ a1 = 1) → (¬ a1 = 2) → (¬ a1 = 3) → (¬ a1 = 4) → (¬ a1 = 5) → (a1 = 6) → P (some (0, (M (M 1 2) 7))) z_LL M)
    (l8 : (¬ a1 = 0) → (¬ a1 = 1) → (¬ a1 = 2) → (¬ a1 = 3) → (¬ a1 = 4) → (¬ a1 = 5) → (¬ a1 = 6) → (a1 = 7) → P (some (0, (M (M 1 2) 5))) z_LL M)
    (l9 : (¬ a1 = 0) → (¬ a1 = 1) → (¬ a1 = 2) → (¬ a1 = 3) → (¬ a1 = 4) → (¬ a1 = 5) → (¬ a1 = 6) → (¬ a1 = 7) → wp xs d mX9_aboutBooks 0 [(2, 1), (0, a1)] [] z_LL M (fun r L1 M1 => wp xs (d + 1) mX9_about 117 [(2, 1), (0, a1)] (z_ol r ++ []) L1 M1 P)) :
    wp xs (d + 1) mX9_about 0 [(2, 1), (0, a1)] [] z_LL M P := by
  refine wp_run 1 (pc' := 1) (ls' := [(2, 1), (0, a1)]) (st' := [(0, a1)]) rfl ?_
  by_cases c1 : a1 = 0
  · refine wp_cast c1 ?_
    refine wp_run 2 (pc' := 49) (ls' := [(2, 1), (0, a1)]) (st' := [(2, 1)]) rfl ?_
    refine wp_gf (pc' := 52) (t := 2) (v := (M 1 0)) rfl rfl (by decide) rfl rfl rfl ?_
    refine wp_gf (pc' := 55) (t := 0) (v := (M (M 1 0) 12)) rfl rfl (by decide) rfl (z_gl0 hg1) rfl ?_
    exact wp_ret rfl rfl (l1 c1)
  by_cases c2 : a1 = 1
  · refine wp_cast c2 ?_
    refine wp_run 2 (pc' := 57) (ls' := [(2, 1), (0, a1)]) (st' := [(2, 1)]) rfl ?_
    refine wp_gf (pc' := 60) (t := 2) (v := (M 1 0)) rfl rfl (by decide) rfl rfl rfl ?_
    refine wp_gf (pc' := 63) (t := 0) (v := (M (M 1 0) 10)) rfl rfl (by decide) rfl (z_gl0 hg1) rfl ?_
    exact wp_ret rfl rfl (l2 c1 c2)
  by_cases c3 : a1 = 2
  · refine wp_cast c3 ?_
    refine wp_run 2 (pc' := 65) (ls' := [(2, 1), (0, a1)]) (st' := [(2, 1)]) rfl ?_
    refine wp_gf (pc' := 68) (t := 2) (v := (M 1 0)) rfl rfl (by decide) rfl rfl rfl ?_
    refine wp_gf (pc' := 71) (t := 0) (v := (M (M 1 0) 11)) rfl rfl (by decide) rfl (z_gl0 hg1) rfl ?_
    exact wp_ret rfl rfl (l3 c1 c2 c3)
  by_cases c4 : a1 = 3
  · refine wp_cast c4 ?_
    refine wp_run 2 (pc' := 73) (ls' := [(2, 1), (0, a1)]) (st' := [(2, 1)]) rfl ?_
    refine wp_gf (pc' := 76) (t := 2) (v := (M 1 0)) rfl rfl (by decide) rfl rfl rfl ?_
    refine wp_gf (pc' := 79) (t := 0) (v := (M (M 1 0) 13)) rfl rfl (by decide) rfl (z_gl0 hg1) rfl ?_
    exact wp_ret rfl rfl (l4 c1 c2 c3 c4)
  by_cases c5 : a1 = 4
  · refine wp_cast c5 ?_
    refine wp_run 2 (pc' := 81) (ls' := [(2, 1), (0, a1)]) (st' := [(2, 1)]) rfl ?_
    refine wp_gf (pc' := 84) (t := 2) (v := (M 1 0)) rfl rfl (by decide) rfl rfl rfl ?_
    refine wp_gf (pc' := 87) (t := 0) (v := (M (M 1 0) 18)) rfl rfl (by decide) rfl (z_gl0 hg1) rfl ?_
    exact wp_ret rfl rfl (l5 c1 c2 c3 c4 c5)
  by_cases c6 : a1 = 5
  · refine wp_cast c6 ?_
    refine wp_run 2 (pc' := 89) (ls' := [(2, 1), (0, a1)]) (st' := [(2, 1)]) rfl ?_
    refine wp_gf (pc' := 92) (t := 2) (v := (M 1 2)) rfl rfl (by decide) rfl rfl rfl ?_
    refine wp_gf (pc' := 95) (t := 0) (v := (M (M 1 2) 6)) rfl rfl (by decide) rfl (z_hl0 hh2) rfl ?_
    exact wp_ret rfl rfl (l6 c1 c2 c3 c4 c5 c6)
  by_cases c7 : a1 = 6
  · refine wp_cast c7 ?_
    refine wp_run 2 (pc' := 97) (ls' := [(2, 1), (0, a1)]) (st' := [(2, 1)]) rfl ?_
    refine wp_gf (pc' := 100) (t := 2) (v := (M 1 2)) rfl rfl (by decide) rfl rfl rfl ?_
    refine wp_gf (pc' := 103) (t := 0) (v := (M (M 1 2) 7)) rfl rfl (by decide) rfl (z_hl0 hh2) rfl ?_
    exact wp_ret rfl rfl (l7 c1 c2 c3 c4 c5 c6 c7)
  by_cases c8 : a1 = 7
  · refine wp_cast c8 ?_
    refine wp_run 2 (pc' := 105) (ls' := [(2, 1), (0, a1)]) (st' := [(2, 1)]) rfl ?_
    refine wp_gf (pc' := 108) (t := 2) (v := (M 1 2)) rfl rfl (by decide) rfl rfl rfl ?_
    refine wp_gf (pc' := 111) (t := 0) (v := (M (M 1 2) 5)) rfl rfl (by decide) rfl (z_hl0 hh2) rfl ?_
    exact wp_ret rfl rfl (l8 c1 c2 c3 c4 c5 c6 c7 c8)
  refine wp_swd rfl rfl (by omega) ?_
  refine wp_run 2 (pc' := 114) (ls' := [(2, 1), (0, a1)]) (st' := [(0, a1), (2, 1)]) rfl ?_
  refine wp_callv (pc' := 117) (as := [(2, 1), (0, a1)]) (rest := []) (ls1 := [(2, 1), (0, a1)]) rfl rfl rfl rfl rfl rfl ?_
  exact l9 c1 c2 c3 c4 c5 c6 c7 c8
set_option maxRecDepth 20000 in
theorem gX9_about_117 {xs : List Int} {d : Nat} {M : z_M} {P : Option z_V → z_L → z_M → Prop} {x1 : Int} {s0 : Int} 
    (l1 : P (some (0, s0)) z_LL M) :
    wp xs d mX9_about 117 [(2, 1), (0, x1)] [(0, s0)] z_LL M P := by
  exact wp_ret rfl rfl (l1)
set_option maxRecDepth 20000 in
theorem gX10_about_0 {xs : List Int} {d : Nat} {M : z_M} {P : Option z_V → z_L → z_M → Prop} {a1 : Int} (hF : z_fix M) (hC : z_mc M) 
    (l1 : (a1 = 0) → P (some (0, (M 321 48))) z_LL M)
    (l2 : (¬ a1 = 0) → (a1 = 1) → P (some (0, (M 321 46))) z_LL M)
    (l3 : (¬ a1 = 0) → (¬ a1 = 1) → (a1 = 2) → P (some (0, (M 321 47))) z_LL M)
    (l4 : (¬ a1 = 0) → (¬ a1 = 1) → (¬ a1 = 2) → (a1 = 3) → P (some (0, (M 321 49))) z_LL M)
    (l5 : (¬ a1 = 0) → (¬ a1 = 1) → (¬ a1 = 2) → (¬ a1 = 3) → (a1 = 4) → P (some (0, (M 321 52))) z_LL M)
    (l6 : (¬ a1 = 0) → (¬ a1 = 1) → (¬ a1 = 2) → (¬ a1 = 3) → (¬ a1 = 4) → (a1 = 5) → P (some (0, (M 342 104))) z_LL M)
    (l7 : (¬ a1 = 0) → (¬ a1 = 1) → (¬ a1 = 2) → (¬ a1 = 3) → (¬ a1 = 4) → (¬ a1 = 5) → (a1 = 6) → P (some (0, (M 342 105))) z_LL M)
    (l8 : (¬ a1 = 0) → (¬ a1 = 1) → (¬ a1 = 2) → (¬ a1 = 3) → (¬ a1 = 4) → (¬ a1 = 5) → (¬ a1 = 6) → (a1 = 7) → P (some (0, (z_pnm M))) z_LL M)
    (l9 : (¬ a1 = 0) → (¬ a1 = 1) → (¬ a1 = 2) → (¬ a1 = 3) → (¬ a1 = 4) → (¬ a1 = 5) → (¬ a1 = 6) → (¬ a1 = 7) → (a1 = 8) → P (some (0, (M 321 64))) z_LL M)
    (l10 : (¬ a1 = 0) → (¬ a1 = 1) → (¬ a1 = 2) → (¬ a1 = 3) → (¬ a1 = 4) → (¬ a1 = 5) → (¬ a1 = 6) → (¬ a1 = 7) → (¬ a1 = 8) → (a1 = 9) → P (some (0, (M 321 65))) z_LL M)
    (l11 : (¬ a1 = 0) → (¬ a1 = 1) → (¬ a1 = 2) → (¬ a1 = 3) → (¬ a1 = 4) → (¬ a1 = 5) → (¬ a1 = 6) → (¬ a1 = 7) → (¬ a1 = 8) → (¬ a1 = 9) → (a1 = 10) → P (some (0, (M 321 76))) z_LL M)
    (l12 : (¬ a1 = 0) → (¬ a1 = 1) → (¬ a1 = 2) → (¬ a1 = 3) → (¬ a1 = 4) → (¬ a1 = 5) → (¬ a1 = 6) → (¬ a1 = 7) → (¬ a1 = 8) → (¬ a1 = 9) → (¬ a1 = 10) → (a1 = 11) → P (some (0, (M 321 77))) z_LL M)
    (l13 : (¬ a1 = 0) → (¬ a1 = 1) → (¬ a1 = 2) → (¬ a1 = 3) → (¬ a1 = 4) → (¬ a1 = 5) → (¬ a1 = 6) → (¬ a1 = 7) → (¬ a1 = 8) → (¬ a1 = 9) → (¬ a1 = 10) → (¬ a1 = 11) → (a1 = 12) → P (some (0, (M 321 1))) z_LL M)
    (l14 : (¬ a1 = 0) → (¬ a1 = 1) → (¬ a1 = 2) → (¬ a1 = 3) → (¬ a1 = 4) → (¬ a1 = 5) → (¬ a1 = 6) → (¬ a1 = 7) → (¬ a1 = 8) → (¬ a1 = 9) → (¬ a1 = 10) → (¬ a1 = 11) → (¬ a1 = 12) → (a1 = 13) → P (some (0, (M 321 21))) z_LL M)
    (l15 : (¬ a1 = 0) → (¬ a1 = 1) → (¬ a1 = 2) → (¬ a1 = 3) → (¬ a1 = 4) → (¬ a1 = 5) → (¬ a1 = 6) → (¬ a1 = 7) → (¬ a1 = 8) → (¬ a1 = 9) → (¬ a1 = 10) → (¬ a1 = 11) → (¬ a1 = 12) → (¬ a1 = 13) → (a1 = 14) → P (some (0, (M 321 68))) z_LL M)
    (l16 : (¬ a1 = 0) → (¬ a1 = 1) → (¬ a1 = 2) → (¬ a1 = 3) → (¬ a1 = 4) → (¬ a1 = 5) → (¬ a1 = 6) → (¬ a1 = 7) → (¬ a1 = 8) → (¬ a1 = 9) → (¬ a1 = 10) → (¬ a1 = 11) → (¬ a1 = 12) → (¬ a1 = 13) → (¬ a1 = 14) → P (some (0, (-1))) z_LL M) :
    wp xs (d + 1) mX10_about 0 [(2, 321), (0, a1)] [] z_LL M P := by
  refine wp_run 1 (pc' := 1) (ls' := [(2, 321), (0, a1)]) (st' := [(0, a1)]) rfl ?_
  by_cases c1 : a1 = 0
  · refine wp_cast c1 ?_
    refine wp_run 2 (pc' := 77) (ls' := [(2, 321), (0, a1)]) (st' := [(2, 321)]) rfl ?_
    refine wp_gf (pc' := 80) (t := 0) (v := (M 321 48)) rfl rfl (by decide) rfl rfl rfl ?_
    exact wp_ret rfl rfl (l1 c1)
  by_cases c2 : a1 = 1
  · refine wp_cast c2 ?_
    refine wp_run 2 (pc' := 82) (ls' := [(2, 321), (0, a1)]) (st' := [(2, 321)]) rfl ?_
    refine wp_gf (pc' := 85) (t := 0) (v := (M 321 46)) rfl rfl (by decide) rfl rfl rfl ?_
    exact wp_ret rfl rfl (l2 c1 c2)
  by_cases c3 : a1 = 2
  · refine wp_cast c3 ?_
    refine wp_run 2 (pc' := 87) (ls' := [(2, 321), (0, a1)]) (st' := [(2, 321)]) rfl ?_
    refine wp_gf (pc' := 90) (t := 0) (v := (M 321 47)) rfl rfl (by decide) rfl rfl rfl ?_
    exact wp_ret rfl rfl (l3 c1 c2 c3)
  by_cases c4 : a1 = 3
  · refine wp_cast c4 ?_
    refine wp_run 2 (pc' := 92) (ls' := [(2, 321), (0, a1)]) (st' := [(2, 321)]) rfl ?_
    refine wp_gf (pc' := 95) (t := 0) (v := (M 321 49)) rfl rfl (by decide) rfl rfl rfl ?_
    exact wp_ret rfl rfl (l4 c1 c2 c3 c4)
  by_cases c5 : a1 = 4
  · refine wp_cast c5 ?_
    refine wp_run 2 (pc' := 97) (ls' := [(2, 321), (0, a1)]) (st' := [(2, 321)]) rfl ?_
    refine wp_gf (pc' := 100) (t := 0) (v := (M 321 52)) rfl rfl (by decide) rfl rfl rfl ?_
    exact wp_ret rfl rfl (l5 c1 c2 c3 c4 c5)
  by_cases c6 : a1 = 5
  · refine wp_cast c6 ?_
    refine wp_run 2 (pc' := 102) (ls' := [(2, 321), (0, a1)]) (st' := [(2, 321)]) rfl ?_
    refine wp_gf (pc' := 105) (t := 2) (v := 342) rfl rfl (by decide) rfl rfl (fx_321_60 hF) ?_
    refine wp_run 1 (pc' := 107) (ls' := [(2, 321), (0, a1)]) (st' := [(0, 104), (2, 342)]) rfl ?_
    refine wp_iald (pc' := 108) (v := (M 342 104)) rfl rfl rfl ⟨by decide, by decide⟩ rfl ?_
    exact wp_ret rfl rfl (l6 c1 c2 c3 c4 c5 c6)
  by_cases c7 : a1 = 6
  · refine wp_cast c7 ?_
    refine wp_run 2 (pc' := 110) (ls' := [(2, 321), (0, a1)]) (st' := [(2, 321)]) rfl ?_
    refine wp_gf (pc' := 113) (t := 2) (v := 342) rfl rfl (by decide) rfl rfl (fx_321_60 hF) ?_
    refine wp_run 1 (pc' := 115) (ls' := [(2, 321), (0, a1)]) (st' := [(0, 105), (2, 342)]) rfl ?_
    refine wp_iald (pc' := 116) (v := (M 342 105)) rfl rfl rfl ⟨by decide, by decide⟩ rfl ?_
    exact wp_ret rfl rfl (l7 c1 c2 c3 c4 c5 c6 c7)
  by_cases c8 : a1 = 7
  · refine wp_cast c8 ?_
    refine wp_run 2 (pc' := 118) (ls' := [(2, 321), (0, a1)]) (st' := [(2, 321)]) rfl ?_
    refine wp_callv (pc' := 121) (as := [(2, 321)]) (rest := []) (ls1 := [(2, 321), (3, 0), (3, 0)]) rfl rfl rfl rfl rfl rfl ?_
    refine s_X10_pens hF hC ?_
    show wp xs _ mX10_about 121 [(2, 321), (0, a1)] [(0, (z_pnm M))] z_LL M _
    exact wp_ret rfl rfl (l8 c1 c2 c3 c4 c5 c6 c7 c8)
  by_cases c9 : a1 = 8
  · refine wp_cast c9 ?_
    refine wp_run 2 (pc' := 123) (ls' := [(2, 321), (0, a1)]) (st' := [(2, 321)]) rfl ?_
    refine wp_gf (pc' := 126) (t := 0) (v := (M 321 64)) rfl rfl (by decide) rfl rfl rfl ?_
    exact wp_ret rfl rfl (l9 c1 c2 c3 c4 c5 c6 c7 c8 c9)
  by_cases c10 : a1 = 9
  · refine wp_cast c10 ?_
    refine wp_run 2 (pc' := 128) (ls' := [(2, 321), (0, a1)]) (st' := [(2, 321)]) rfl ?_
    refine wp_gf (pc' := 131) (t := 0) (v := (M 321 65)) rfl rfl (by decide) rfl rfl rfl ?_
    exact wp_ret rfl rfl (l10 c1 c2 c3 c4 c5 c6 c7 c8 c9 c10)
  by_cases c11 : a1 = 10
  · refine wp_cast c11 ?_
    refine wp_run 2 (pc' := 133) (ls' := [(2, 321), (0, a1)]) (st' := [(2, 321)]) rfl ?_
    refine wp_gf (pc' := 136) (t := 0) (v := (M 321 76)) rfl rfl (by decide) rfl rfl rfl ?_
    exact wp_ret rfl rfl (l11 c1 c2 c3 c4 c5 c6 c7 c8 c9 c10 c11)
  by_cases c12 : a1 = 11
  · refine wp_cast c12 ?_
    refine wp_run 2 (pc' := 138) (ls' := [(2, 321), (0, a1)]) (st' := [(2, 321)]) rfl ?_
    refine wp_gf (pc' := 141) (t := 0) (v := (M 321 77)) rfl rfl (by decide) rfl rfl rfl ?_
    exact wp_ret rfl rfl (l12 c1 c2 c3 c4 c5 c6 c7 c8 c9 c10 c11 c12)
  by_cases c13 : a1 = 12
  · refine wp_cast c13 ?_
    refine wp_run 2 (pc' := 143) (ls' := [(2, 321), (0, a1)]) (st' := [(2, 321)]) rfl ?_
    refine wp_gf (pc' := 146) (t := 0) (v := (M 321 1)) rfl rfl (by decide) rfl rfl rfl ?_
    exact wp_ret rfl rfl (l13 c1 c2 c3 c4 c5 c6 c7 c8 c9 c10 c11 c12 c13)
  by_cases c14 : a1 = 13
  · refine wp_cast c14 ?_
    refine wp_run 2 (pc' := 148) (ls' := [(2, 321), (0, a1)]) (st' := [(2, 321)]) rfl ?_
    refine wp_gf (pc' := 151) (t := 0) (v := (M 321 21)) rfl rfl (by decide) rfl rfl rfl ?_
    exact wp_ret rfl rfl (l14 c1 c2 c3 c4 c5 c6 c7 c8 c9 c10 c11 c12 c13 c14)
  by_cases c15 : a1 = 14
  · refine wp_cast c15 ?_
    refine wp_run 2 (pc' := 153) (ls' := [(2, 321), (0, a1)]) (st' := [(2, 321)]) rfl ?_
    refine wp_gf (pc' := 156) (t := 0) (v := (M 321 68)) rfl rfl (by decide) rfl rfl rfl ?_
    exact wp_ret rfl rfl (l15 c1 c2 c3 c4 c5 c6 c7 c8 c9 c10 c11 c12 c13 c14 c15)
  refine wp_swd rfl rfl (by omega) ?_
  refine wp_run 1 (pc' := 158) (ls' := [(2, 321), (0, a1)]) (st' := [(0, (-1))]) rfl ?_
  exact wp_ret rfl rfl (l16 c1 c2 c3 c4 c5 c6 c7 c8 c9 c10 c11 c12 c13 c14 c15)
theorem c_about {a1 : Int} (hR : z_R M) : z_two xs (d + 200) mX9_about mX10_about [(2, 1), (0, a1)] [(2, 321), (0, a1)] M := by
  obtain ⟨n1, n2, n3, n4, n5⟩ := z_R_n hR
  have hn := (z_R_C hR).2.2.1
  have H := (z_R_H hR).2.2.2.2
  have g := fun P => gX9_about_0 (M := M) (xs := xs) (d := d + 199) (P := P) (a1 := a1) (z_R_g hR).1 (z_R_H hR).1
  have gb := fun P => gX9_aboutBooks_0 (M := M) (xs := xs) (d := d + 199) (P := P) (a1 := a1) (z_R_F hR) (z_R_g hR).1
  have ep : z_pens (M 342) (M 321 48).toNat = z_pnm M := by
    unfold z_pnm
    rw [z_pnr_set (by omega) (fun f a b => ((z_R_S hR).1 f a (by omega)).2.1), z_pens_set (fun f a b => ((z_R_S hR).1 f a (by omega)).2.1) (by omega)]
  obtain ⟨-, -, -, -, g5, g6⟩ := hR.2.1
  obtain ⟨-, -, p3, -, -⟩ := hR.2.2.2.1
  obtain ⟨s1, s2, -⟩ := hR.2.2.2.2.2.1
  obtain ⟨l1, -⟩ := hR.2.2.2.2.2.2.1
  obtain ⟨t1, -⟩ := hR.2.2.2.2.2.2.2.1
  simp only [n1, n2, n3, n4, g5, H.2.1, H.2.2, H.1, ep] at g
  simp only [p3.1, p3.2, s1.1, s2.1, t1.1, g6, l1] at gb
  have g2 := fun P => gX10_about_0 (M := M) (xs := xs) (d := d + 199) (P := P) (a1 := a1) (z_R_F hR) (z_R_C hR)
  unfold z_two
  apply g
  case l9 =>
    intros
    apply gb <;> intros <;> refine gX9_about_117 ⟨_, rfl, rfl, ?_⟩ <;> apply g2 <;> intros <;> first | exact ⟨rfl, rfl, hR⟩ | (exfalso; omega)
  all_goals
    intros
    refine ⟨_, rfl, rfl, ?_⟩
    apply g2 <;> intros <;> first | exact ⟨rfl, rfl, hR⟩ | (exfalso; omega)
end
