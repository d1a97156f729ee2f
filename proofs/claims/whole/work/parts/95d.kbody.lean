/-! THE CLASS READS LINES: gorge, rain, wants, feud -/
set_option maxRecDepth 20000 in
theorem gX5_gorgeBody_0 {xs : List Int} {d : Nat} {M : z_M} {P : Option z_V → z_L → z_M → Prop} (hg1 : z_gor M (M 33 3))
    (l1 : wp xs d mX5_number 0 [(2, 33), (0, 2), (0, 5), (3, 0)] [] z_LL M (fun r L1 M1 => wp xs (d + 1) mX5_gorgeBody 10 [(2, 33)] (z_ol r ++ [(2, (M 33 3))]) L1 M1 P)) :
    wp xs (d + 1) mX5_gorgeBody 0 [(2, 33)] [] z_LL M P := by
  refine wp_run 1 (pc' := 1) (ls' := [(2, 33)]) (st' := [(2, 33)]) rfl ?_
  refine wp_gf (pc' := 4) (t := 2) (v := (M 33 3)) rfl rfl (by decide) rfl rfl rfl ?_
  refine wp_run 3 (pc' := 7) (ls' := [(2, 33)]) (st' := [(0, 5), (0, 2), (2, 33), (2, (M 33 3))]) rfl ?_
  refine wp_callv (pc' := 10) (as := [(2, 33), (0, 2), (0, 5)]) (rest := [(2, (M 33 3))]) (ls1 := [(2, 33), (0, 2), (0, 5), (3, 0)]) rfl rfl rfl rfl rfl rfl ?_
  exact l1
set_option maxRecDepth 20000 in
theorem gX5_gorgeBody_10 {xs : List Int} {d : Nat} {M : z_M} {P : Option z_V → z_L → z_M → Prop} {s0 : Int} {s1 : Int} (hs0 : z_gor M s0)
    (l1 : wp xs d mX5_need 0 [(2, 33), (0, 1)] [] z_LL (z_up M s0 10 s1) (fun r L1 M1 => wp xs (d + 1) mX5_gorgeBody 18 [(2, 33)] (z_ol r ++ []) L1 M1 P)) :
    wp xs (d + 1) mX5_gorgeBody 10 [(2, 33)] [(0, s1), (2, s0)] z_LL M P := by
  refine wp_pf (pc' := 13) rfl rfl rfl (z_gl0 hs0) (fun z => absurd z (by decide)) (fun z => absurd z (by decide)) ?_
  refine wp_run 2 (pc' := 15) (ls' := [(2, 33)]) (st' := [(0, 1), (2, 33)]) rfl ?_
  refine wp_callv (pc' := 18) (as := [(2, 33), (0, 1)]) (rest := []) (ls1 := [(2, 33), (0, 1)]) rfl rfl rfl rfl rfl rfl ?_
  exact l1
set_option maxRecDepth 20000 in
theorem gX5_gorgeBody_18 {xs : List Int} {d : Nat} {M : z_M} {P : Option z_V → z_L → z_M → Prop} (hg1 : z_gor M (M 33 3))
    (l1 : wp xs d mX5_number 0 [(2, 33), (0, 2), (0, 5), (3, 0)] [] z_LL M (fun r L1 M1 => wp xs (d + 1) mX5_gorgeBody 28 [(2, 33)] (z_ol r ++ [(2, (M 33 3))]) L1 M1 P)) :
    wp xs (d + 1) mX5_gorgeBody 18 [(2, 33)] [] z_LL M P := by
  refine wp_run 1 (pc' := 19) (ls' := [(2, 33)]) (st' := [(2, 33)]) rfl ?_
  refine wp_gf (pc' := 22) (t := 2) (v := (M 33 3)) rfl rfl (by decide) rfl rfl rfl ?_
  refine wp_run 3 (pc' := 25) (ls' := [(2, 33)]) (st' := [(0, 5), (0, 2), (2, 33), (2, (M 33 3))]) rfl ?_
  refine wp_callv (pc' := 28) (as := [(2, 33), (0, 2), (0, 5)]) (rest := [(2, (M 33 3))]) (ls1 := [(2, 33), (0, 2), (0, 5), (3, 0)]) rfl rfl rfl rfl rfl rfl ?_
  exact l1
set_option maxRecDepth 20000 in
theorem gX5_gorgeBody_28 {xs : List Int} {d : Nat} {M : z_M} {P : Option z_V → z_L → z_M → Prop} {s0 : Int} {s1 : Int} (hs0 : z_gor M s0)
    (l1 : P none z_LL (z_up M s0 11 s1)) :
    wp xs d mX5_gorgeBody 28 [(2, 33)] [(0, s1), (2, s0)] z_LL M P := by
  refine wp_pf (pc' := 31) rfl rfl rfl (z_gl0 hs0) (fun z => absurd z (by decide)) (fun z => absurd z (by decide)) ?_
  exact wp_ret rfl rfl (l1)
set_option maxRecDepth 20000 in
theorem gX5_rainBody_0 {xs : List Int} {d : Nat} {M : z_M} {P : Option z_V → z_L → z_M → Prop} (hg1 : z_gor M (M 33 3))
    (l1 : wp xs d mX5_number 0 [(2, 33), (0, 0), (0, 100), (3, 0)] [] z_LL M (fun r L1 M1 => wp xs (d + 1) mX5_rainBody 11 [(2, 33)] (z_ol r ++ [(2, (M 33 3))]) L1 M1 P)) :
    wp xs (d + 1) mX5_rainBody 0 [(2, 33)] [] z_LL M P := by
  refine wp_run 1 (pc' := 1) (ls' := [(2, 33)]) (st' := [(2, 33)]) rfl ?_
  refine wp_gf (pc' := 4) (t := 2) (v := (M 33 3)) rfl rfl (by decide) rfl rfl rfl ?_
  refine wp_run 3 (pc' := 8) (ls' := [(2, 33)]) (st' := [(0, 100), (0, 0), (2, 33), (2, (M 33 3))]) rfl ?_
  refine wp_callv (pc' := 11) (as := [(2, 33), (0, 0), (0, 100)]) (rest := [(2, (M 33 3))]) (ls1 := [(2, 33), (0, 0), (0, 100), (3, 0)]) rfl rfl rfl rfl rfl rfl ?_
  exact l1
set_option maxRecDepth 20000 in
theorem gX5_rainBody_11 {xs : List Int} {d : Nat} {M : z_M} {P : Option z_V → z_L → z_M → Prop} {s0 : Int} {s1 : Int} (hs0 : z_gor M s0)
    (l1 : wp xs d mX5_need 0 [(2, 33), (0, 13)] [] z_LL (z_up M s0 16 s1) (fun r L1 M1 => wp xs (d + 1) mX5_rainBody 20 [(2, 33)] (z_ol r ++ []) L1 M1 P)) :
    wp xs (d + 1) mX5_rainBody 11 [(2, 33)] [(0, s1), (2, s0)] z_LL M P := by
  refine wp_pf (pc' := 14) rfl rfl rfl (z_gl0 hs0) (fun z => absurd z (by decide)) (fun z => absurd z (by decide)) ?_
  refine wp_run 2 (pc' := 17) (ls' := [(2, 33)]) (st' := [(0, 13), (2, 33)]) rfl ?_
  refine wp_callv (pc' := 20) (as := [(2, 33), (0, 13)]) (rest := []) (ls1 := [(2, 33), (0, 13)]) rfl rfl rfl rfl rfl rfl ?_
  exact l1
set_option maxRecDepth 20000 in
theorem gX5_rainBody_20 {xs : List Int} {d : Nat} {M : z_M} {P : Option z_V → z_L → z_M → Prop} (hg1 : z_gor M (M 33 3))
    (l1 : wp xs d mX5_number 0 [(2, 33), (0, 1), (0, 9), (3, 0)] [] z_LL M (fun r L1 M1 => wp xs (d + 1) mX5_rainBody 31 [(2, 33)] (z_ol r ++ [(2, (M 33 3))]) L1 M1 P)) :
    wp xs (d + 1) mX5_rainBody 20 [(2, 33)] [] z_LL M P := by
  refine wp_run 1 (pc' := 21) (ls' := [(2, 33)]) (st' := [(2, 33)]) rfl ?_
  refine wp_gf (pc' := 24) (t := 2) (v := (M 33 3)) rfl rfl (by decide) rfl rfl rfl ?_
  refine wp_run 3 (pc' := 28) (ls' := [(2, 33)]) (st' := [(0, 9), (0, 1), (2, 33), (2, (M 33 3))]) rfl ?_
  refine wp_callv (pc' := 31) (as := [(2, 33), (0, 1), (0, 9)]) (rest := [(2, (M 33 3))]) (ls1 := [(2, 33), (0, 1), (0, 9), (3, 0)]) rfl rfl rfl rfl rfl rfl ?_
  exact l1
set_option maxRecDepth 20000 in
theorem gX5_rainBody_31 {xs : List Int} {d : Nat} {M : z_M} {P : Option z_V → z_L → z_M → Prop} {s0 : Int} {s1 : Int} (hs0 : z_gor M s0)
    (l1 : P none z_LL (z_up M s0 17 s1)) :
    wp xs d mX5_rainBody 31 [(2, 33)] [(0, s1), (2, s0)] z_LL M P := by
  refine wp_pf (pc' := 34) rfl rfl rfl (z_gl0 hs0) (fun z => absurd z (by decide)) (fun z => absurd z (by decide)) ?_
  exact wp_ret rfl rfl (l1)
set_option maxRecDepth 20000 in
theorem gX5_wantsBody_0 {xs : List Int} {d : Nat} {M : z_M} {P : Option z_V → z_L → z_M → Prop} 
    (l1 : wp xs d mX5_named 0 [(2, 33), (3, 0)] [] z_LL M (fun r L1 M1 => wp xs (d + 1) mX5_wantsBody 4 [(2, 33), (3, 0), (3, 0), (3, 0)] (z_ol r ++ []) L1 M1 P)) :
    wp xs (d + 1) mX5_wantsBody 0 [(2, 33), (3, 0), (3, 0), (3, 0)] [] z_LL M P := by
  refine wp_run 1 (pc' := 1) (ls' := [(2, 33), (3, 0), (3, 0), (3, 0)]) (st' := [(2, 33)]) rfl ?_
  refine wp_callv (pc' := 4) (as := [(2, 33)]) (rest := []) (ls1 := [(2, 33), (3, 0)]) rfl rfl rfl rfl rfl rfl ?_
  exact l1
set_option maxRecDepth 20000 in
theorem gX5_wantsBody_4 {xs : List Int} {d : Nat} {M : z_M} {P : Option z_V → z_L → z_M → Prop} {s0 : Int} 
    (l1 : wp xs d mX5_need 0 [(2, 33), (0, 24)] [] z_LL M (fun r L1 M1 => wp xs (d + 1) mX5_wantsBody 11 [(2, 33), (0, s0), (3, 0), (3, 0)] (z_ol r ++ []) L1 M1 P)) :
    wp xs (d + 1) mX5_wantsBody 4 [(2, 33), (3, 0), (3, 0), (3, 0)] [(0, s0)] z_LL M P := by
  refine wp_run 3 (pc' := 8) (ls' := [(2, 33), (0, s0), (3, 0), (3, 0)]) (st' := [(0, 24), (2, 33)]) rfl ?_
  refine wp_callv (pc' := 11) (as := [(2, 33), (0, 24)]) (rest := []) (ls1 := [(2, 33), (0, 24)]) rfl rfl rfl rfl rfl rfl ?_
  exact l1
set_option maxRecDepth 20000 in
theorem gX5_wantsBody_11 {xs : List Int} {d : Nat} {M : z_M} {P : Option z_V → z_L → z_M → Prop} {x1 : Int} 
    (l1 : wp xs d mX5_named 0 [(2, 33), (3, 0)] [] z_LL M (fun r L1 M1 => wp xs (d + 1) mX5_wantsBody 15 [(2, 33), (0, x1), (3, 0), (3, 0)] (z_ol r ++ []) L1 M1 P)) :
    wp xs (d + 1) mX5_wantsBody 11 [(2, 33), (0, x1), (3, 0), (3, 0)] [] z_LL M P := by
  refine wp_run 1 (pc' := 12) (ls' := [(2, 33), (0, x1), (3, 0), (3, 0)]) (st' := [(2, 33)]) rfl ?_
  refine wp_callv (pc' := 15) (as := [(2, 33)]) (rest := []) (ls1 := [(2, 33), (3, 0)]) rfl rfl rfl rfl rfl rfl ?_
  exact l1
set_option maxRecDepth 20000 in
theorem gX5_wantsBody_15 {xs : List Int} {d : Nat} {M : z_M} {P : Option z_V → z_L → z_M → Prop} {x1 : Int} {s0 : Int} (hF : z_fix M) (hg1 : z_gor M (M 33 3))
    (l1 : ((M 33 1) ≠ 0) → P none z_LL M)
    (b1 : (¬ ((M 33 1) ≠ 0)) → 0 ≤ x1 ∧ x1 < 6)
    (b2 : (¬ ((M 33 1) ≠ 0)) → 0 ≤ s0 ∧ s0 < 6)
    (l2 : (¬ ((M 33 1) ≠ 0)) → ((M ((M 33 3) + 2) x1) = (M ((M 33 3) + 2) s0)) → ((M 33 1) ≠ 0) → wp xs (d + 1) mX5_need 0 [(2, 33), (0, 24)] [] z_LL M (fun r L1 M1 => wp xs (d + 2) mX5_wantsBody 69 [(2, 33), (0, x1), (0, s0), (3, 0)] (z_ol r ++ []) L1 M1 P))
    (l3 : (¬ ((M 33 1) ≠ 0)) → ((M ((M 33 3) + 2) x1) = (M ((M 33 3) + 2) s0)) → (¬ ((M 33 1) ≠ 0)) → ((M 30 3) ≠ 27) → wp xs (d + 1) mX5_need 0 [(2, 33), (0, 24)] [] z_LL (z_up (z_up M 33 1 3) 33 2 (M 30 4)) (fun r L1 M1 => wp xs (d + 2) mX5_wantsBody 69 [(2, 33), (0, x1), (0, s0), (3, 0)] (z_ol r ++ []) L1 M1 P))
    (l4 : (¬ ((M 33 1) ≠ 0)) → ((M ((M 33 3) + 2) x1) = (M ((M 33 3) + 2) s0)) → (¬ ((M 33 1) ≠ 0)) → (¬ ((M 30 3) ≠ 27)) → wp xs (d + 1) mX5_need 0 [(2, 33), (0, 24)] [] z_LL (z_up (z_up M 33 1 1) 33 2 (M 30 4)) (fun r L1 M1 => wp xs (d + 2) mX5_wantsBody 69 [(2, 33), (0, x1), (0, s0), (3, 0)] (z_ol r ++ []) L1 M1 P))
    (b3 : (¬ ((M 33 1) ≠ 0)) → (¬ ((M ((M 33 3) + 2) x1) = (M ((M 33 3) + 2) s0))) → 0 ≤ (z_w ((z_w (x1 * 6)) + s0)) ∧ (z_w ((z_w (x1 * 6)) + s0)) < 36)
    (l5 : (¬ ((M 33 1) ≠ 0)) → (¬ ((M ((M 33 3) + 2) x1) = (M ((M 33 3) + 2) s0))) → ((M ((M 33 3) + 6) (z_w ((z_w (x1 * 6)) + s0))) = (-1)) → wp xs (d + 1) mX5_need 0 [(2, 33), (0, 24)] [] z_LL M (fun r L1 M1 => wp xs (d + 2) mX5_wantsBody 69 [(2, 33), (0, x1), (0, s0), (3, 0)] (z_ol r ++ []) L1 M1 P))
    (l6 : (¬ ((M 33 1) ≠ 0)) → (¬ ((M ((M 33 3) + 2) x1) = (M ((M 33 3) + 2) s0))) → (¬ ((M ((M 33 3) + 6) (z_w ((z_w (x1 * 6)) + s0))) = (-1))) → ((M 33 1) ≠ 0) → wp xs (d + 1) mX5_need 0 [(2, 33), (0, 24)] [] z_LL M (fun r L1 M1 => wp xs (d + 2) mX5_wantsBody 69 [(2, 33), (0, x1), (0, s0), (3, 0)] (z_ol r ++ []) L1 M1 P))
    (l7 : (¬ ((M 33 1) ≠ 0)) → (¬ ((M ((M 33 3) + 2) x1) = (M ((M 33 3) + 2) s0))) → (¬ ((M ((M 33 3) + 6) (z_w ((z_w (x1 * 6)) + s0))) = (-1))) → (¬ ((M 33 1) ≠ 0)) → ((M 30 3) ≠ 27) → wp xs (d + 1) mX5_need 0 [(2, 33), (0, 24)] [] z_LL (z_up (z_up M 33 1 3) 33 2 (M 30 4)) (fun r L1 M1 => wp xs (d + 2) mX5_wantsBody 69 [(2, 33), (0, x1), (0, s0), (3, 0)] (z_ol r ++ []) L1 M1 P))
    (l8 : (¬ ((M 33 1) ≠ 0)) → (¬ ((M ((M 33 3) + 2) x1) = (M ((M 33 3) + 2) s0))) → (¬ ((M ((M 33 3) + 6) (z_w ((z_w (x1 * 6)) + s0))) = (-1))) → (¬ ((M 33 1) ≠ 0)) → (¬ ((M 30 3) ≠ 27)) → wp xs (d + 1) mX5_need 0 [(2, 33), (0, 24)] [] z_LL (z_up (z_up M 33 1 1) 33 2 (M 30 4)) (fun r L1 M1 => wp xs (d + 2) mX5_wantsBody 69 [(2, 33), (0, x1), (0, s0), (3, 0)] (z_ol r ++ []) L1 M1 P)) :
    wp xs (d + 2) mX5_wantsBody 15 [(2, 33), (0, x1), (3, 0), (3, 0)] [(0, s0)] z_LL M P := by
  refine wp_run 2 (pc' := 17) (ls' := [(2, 33), (0, x1), (0, s0), (3, 0)]) (st' := [(2, 33)]) rfl ?_
  refine wp_callv (pc' := 20) (as := [(2, 33)]) (rest := []) (ls1 := [(2, 33)]) rfl rfl rfl rfl rfl rfl ?_
  refine wp_run 1 (pc' := 1) (ls' := [(2, 33)]) (st' := [(2, 33)]) rfl ?_
  refine wp_gf (pc' := 4) (t := 0) (v := (M 33 1)) rfl rfl (by decide) rfl rfl rfl ?_
  refine wp_if1 rfl rfl rfl (fun (c1 : (M 33 1) ≠ 0) => ?_) (fun (c1 : ¬ ((M 33 1) ≠ 0)) => ?_)
  · refine wp_run 1 (pc' := 12) (ls' := [(2, 33)]) (st' := [(0, 0)]) rfl ?_
    refine wp_ret rfl rfl ?_
    show wp xs _ mX5_wantsBody 20 [(2, 33), (0, x1), (0, s0), (3, 0)] [(0, 0)] z_LL M _
    refine wp_run 1 (pc' := 23) (ls' := [(2, 33), (0, x1), (0, s0), (3, 0)]) (st' := []) rfl ?_
    exact wp_ret rfl rfl (l1 c1)
  · refine wp_run 2 (pc' := 12) (ls' := [(2, 33)]) (st' := [(0, 1)]) rfl ?_
    refine wp_ret rfl rfl ?_
    show wp xs _ mX5_wantsBody 20 [(2, 33), (0, x1), (0, s0), (3, 0)] [(0, 1)] z_LL M _
    refine wp_run 2 (pc' := 25) (ls' := [(2, 33), (0, x1), (0, s0), (3, 0)]) (st' := [(2, 33)]) rfl ?_
    refine wp_gf (pc' := 28) (t := 2) (v := (M 33 3)) rfl rfl (by decide) rfl rfl rfl ?_
    refine wp_gf (pc' := 31) (t := 2) (v := ((M 33 3) + 2)) rfl rfl (by decide) rfl (z_gl0 hg1) (z_gf1 hg1) ?_
    refine wp_run 1 (pc' := 32) (ls' := [(2, 33), (0, x1), (0, s0), (3, 0)]) (st' := [(0, x1), (2, ((M 33 3) + 2))]) rfl ?_
    refine wp_iald (pc' := 33) (v := (M ((M 33 3) + 2) x1)) rfl rfl (z_gl2 hg1) (b1 c1) rfl ?_
    refine wp_run 1 (pc' := 34) (ls' := [(2, 33), (0, x1), (0, s0), (3, 0)]) (st' := [(2, 33), (0, (M ((M 33 3) + 2) x1))]) rfl ?_
    refine wp_gf (pc' := 37) (t := 2) (v := (M 33 3)) rfl rfl (by decide) rfl rfl rfl ?_
    refine wp_gf (pc' := 40) (t := 2) (v := ((M 33 3) + 2)) rfl rfl (by decide) rfl (z_gl0 hg1) (z_gf1 hg1) ?_
    refine wp_run 1 (pc' := 41) (ls' := [(2, 33), (0, x1), (0, s0), (3, 0)]) (st' := [(0, s0), (2, ((M 33 3) + 2)), (0, (M ((M 33 3) + 2) x1))]) rfl ?_
    refine wp_iald (pc' := 42) (v := (M ((M 33 3) + 2) s0)) rfl rfl (z_gl2 hg1) (b2 c1) rfl ?_
    refine wp_if2 rfl rfl rfl (fun (c2 : (M ((M 33 3) + 2) x1) = (M ((M 33 3) + 2) s0)) => ?_) (fun (c2 : ¬ ((M ((M 33 3) + 2) x1) = (M ((M 33 3) + 2) s0))) => ?_)
    · refine wp_run 2 (pc' := 60) (ls' := [(2, 33), (0, x1), (0, s0), (3, 0)]) (st' := [(0, 3), (2, 33)]) rfl ?_
      refine wp_callv (pc' := 63) (as := [(2, 33), (0, 3)]) (rest := []) (ls1 := [(2, 33), (0, 3)]) rfl rfl rfl rfl rfl rfl ?_
      refine wp_run 1 (pc' := 1) (ls' := [(2, 33), (0, 3)]) (st' := [(2, 33)]) rfl ?_
      refine wp_callv (pc' := 4) (as := [(2, 33)]) (rest := []) (ls1 := [(2, 33)]) rfl rfl rfl rfl rfl rfl ?_
      refine wp_run 1 (pc' := 1) (ls' := [(2, 33)]) (st' := [(2, 33)]) rfl ?_
      refine wp_gf (pc' := 4) (t := 0) (v := (M 33 1)) rfl rfl (by decide) rfl rfl rfl ?_
      refine wp_if1 rfl rfl rfl (fun (c3 : (M 33 1) ≠ 0) => ?_) (fun (c3 : ¬ ((M 33 1) ≠ 0)) => ?_)
      · refine wp_run 1 (pc' := 12) (ls' := [(2, 33)]) (st' := [(0, 0)]) rfl ?_
        refine wp_ret rfl rfl ?_
        show wp xs _ mX5_fail 4 [(2, 33), (0, 3)] [(0, 0)] z_LL M _
        refine wp_run 1 (pc' := 39) (ls' := [(2, 33), (0, 3)]) (st' := []) rfl ?_
        refine wp_ret rfl rfl ?_
        show wp xs _ mX5_wantsBody 63 [(2, 33), (0, x1), (0, s0), (3, 0)] [] z_LL M _
        refine wp_run 2 (pc' := 66) (ls' := [(2, 33), (0, x1), (0, s0), (3, 0)]) (st' := [(0, 24), (2, 33)]) rfl ?_
        refine wp_callv (pc' := 69) (as := [(2, 33), (0, 24)]) (rest := []) (ls1 := [(2, 33), (0, 24)]) rfl rfl rfl rfl rfl rfl ?_
        exact l2 c1 c2 c3
      · refine wp_run 2 (pc' := 12) (ls' := [(2, 33)]) (st' := [(0, 1)]) rfl ?_
        refine wp_ret rfl rfl ?_
        show wp xs _ mX5_fail 4 [(2, 33), (0, 3)] [(0, 1)] z_LL M _
        refine wp_run 3 (pc' := 9) (ls' := [(2, 33), (0, 3)]) (st' := [(2, 33), (2, 33)]) rfl ?_
        refine wp_gf (pc' := 12) (t := 2) (v := 30) rfl rfl (by decide) rfl rfl (fx_33_0 hF) ?_
        refine wp_gf (pc' := 15) (t := 0) (v := (M 30 3)) rfl rfl (by decide) rfl rfl rfl ?_
        refine wp_run 1 (pc' := 17) (ls' := [(2, 33), (0, 3)]) (st' := [(0, 27), (0, (M 30 3)), (2, 33)]) rfl ?_
        refine wp_if2 rfl rfl rfl (fun (c4 : (M 30 3) ≠ 27) => ?_) (fun (c4 : ¬ ((M 30 3) ≠ 27)) => ?_)
        · refine wp_run 1 (pc' := 25) (ls' := [(2, 33), (0, 3)]) (st' := [(0, 3), (2, 33)]) rfl ?_
          refine wp_pf (pc' := 28) rfl rfl rfl rfl (fun z => absurd z (by decide)) (fun z => absurd z (by decide)) ?_
          refine wp_run 2 (pc' := 30) (ls' := [(2, 33), (0, 3)]) (st' := [(2, 33), (2, 33)]) rfl ?_
          refine wp_gf (pc' := 33) (t := 2) (v := 30) rfl rfl (by decide) rfl rfl (z_upi (by decide) (fx_33_0 hF)) ?_
          refine wp_gf (pc' := 36) (t := 0) (v := (M 30 4)) rfl rfl (by decide) rfl rfl (z_upq (by decide) rfl) ?_
          refine wp_pf (pc' := 39) rfl rfl rfl rfl (fun z => absurd z (by decide)) (fun z => absurd z (by decide)) ?_
          refine wp_ret rfl rfl ?_
          show wp xs _ mX5_wantsBody 63 [(2, 33), (0, x1), (0, s0), (3, 0)] [] z_LL (z_up (z_up M 33 1 3) 33 2 (M 30 4)) _
          refine wp_run 2 (pc' := 66) (ls' := [(2, 33), (0, x1), (0, s0), (3, 0)]) (st' := [(0, 24), (2, 33)]) rfl ?_
          refine wp_callv (pc' := 69) (as := [(2, 33), (0, 24)]) (rest := []) (ls1 := [(2, 33), (0, 24)]) rfl rfl rfl rfl rfl rfl ?_
          exact l3 c1 c2 c3 c4
        · refine wp_run 2 (pc' := 25) (ls' := [(2, 33), (0, 3)]) (st' := [(0, 1), (2, 33)]) rfl ?_
          refine wp_pf (pc' := 28) rfl rfl rfl rfl (fun z => absurd z (by decide)) (fun z => absurd z (by decide)) ?_
          refine wp_run 2 (pc' := 30) (ls' := [(2, 33), (0, 3)]) (st' := [(2, 33), (2, 33)]) rfl ?_
          refine wp_gf (pc' := 33) (t := 2) (v := 30) rfl rfl (by decide) rfl rfl (z_upi (by decide) (fx_33_0 hF)) ?_
          refine wp_gf (pc' := 36) (t := 0) (v := (M 30 4)) rfl rfl (by decide) rfl rfl (z_upq (by decide) rfl) ?_
          refine wp_pf (pc' := 39) rfl rfl rfl rfl (fun z => absurd z (by decide)) (fun z => absurd z (by decide)) ?_
          refine wp_ret rfl rfl ?_
          show wp xs _ mX5_wantsBody 63 [(2, 33), (0, x1), (0, s0), (3, 0)] [] z_LL (z_up (z_up M 33 1 1) 33 2 (M 30 4)) _
          refine wp_run 2 (pc' := 66) (ls' := [(2, 33), (0, x1), (0, s0), (3, 0)]) (st' := [(0, 24), (2, 33)]) rfl ?_
          refine wp_callv (pc' := 69) (as := [(2, 33), (0, 24)]) (rest := []) (ls1 := [(2, 33), (0, 24)]) rfl rfl rfl rfl rfl rfl ?_
          exact l4 c1 c2 c3 c4
    · refine wp_run 1 (pc' := 46) (ls' := [(2, 33), (0, x1), (0, s0), (3, 0)]) (st' := [(2, 33)]) rfl ?_
      refine wp_gf (pc' := 49) (t := 2) (v := (M 33 3)) rfl rfl (by decide) rfl rfl rfl ?_
      refine wp_run 2 (pc' := 51) (ls' := [(2, 33), (0, x1), (0, s0), (3, 0)]) (st' := [(0, s0), (0, x1), (2, (M 33 3))]) rfl ?_
      refine wp_callv (pc' := 54) (as := [(2, (M 33 3)), (0, x1), (0, s0)]) (rest := []) (ls1 := [(2, (M 33 3)), (0, x1), (0, s0)]) rfl rfl rfl rfl (z_args_v rfl rfl rfl rfl (Nat.le_of_ble_eq_true rfl) rfl (by decide) (z_gl0 hg1)) rfl ?_
      refine wp_run 1 (pc' := 1) (ls' := [(2, (M 33 3)), (0, x1), (0, s0)]) (st' := [(2, (M 33 3))]) rfl ?_
      refine wp_gf (pc' := 4) (t := 2) (v := ((M 33 3) + 6)) rfl rfl (by decide) rfl (z_gl0 hg1) (z_gf5 hg1) ?_
      refine wp_run 5 (pc' := 10) (ls' := [(2, (M 33 3)), (0, x1), (0, s0)]) (st' := [(0, (z_w ((z_w (x1 * 6)) + s0))), (2, ((M 33 3) + 6))]) rfl ?_
      refine wp_iald (pc' := 11) (v := (M ((M 33 3) + 6) (z_w ((z_w (x1 * 6)) + s0)))) rfl rfl (z_gl6 hg1) (b3 c1 c2) rfl ?_
      refine wp_ret rfl rfl ?_
      show wp xs _ mX5_wantsBody 54 [(2, 33), (0, x1), (0, s0), (3, 0)] [(0, (M ((M 33 3) + 6) (z_w ((z_w (x1 * 6)) + s0))))] z_LL M _
      refine wp_run 1 (pc' := 55) (ls' := [(2, 33), (0, x1), (0, s0), (3, 0)]) (st' := [(0, (-1)), (0, (M ((M 33 3) + 6) (z_w ((z_w (x1 * 6)) + s0))))]) rfl ?_
      refine wp_if2 rfl rfl rfl (fun (c5 : (M ((M 33 3) + 6) (z_w ((z_w (x1 * 6)) + s0))) = (-1)) => ?_) (fun (c5 : ¬ ((M ((M 33 3) + 6) (z_w ((z_w (x1 * 6)) + s0))) = (-1))) => ?_)
      · refine wp_run 2 (pc' := 66) (ls' := [(2, 33), (0, x1), (0, s0), (3, 0)]) (st' := [(0, 24), (2, 33)]) rfl ?_
        refine wp_callv (pc' := 69) (as := [(2, 33), (0, 24)]) (rest := []) (ls1 := [(2, 33), (0, 24)]) rfl rfl rfl rfl rfl rfl ?_
        exact l5 c1 c2 c5
      · refine wp_run 2 (pc' := 60) (ls' := [(2, 33), (0, x1), (0, s0), (3, 0)]) (st' := [(0, 3), (2, 33)]) rfl ?_
        refine wp_callv (pc' := 63) (as := [(2, 33), (0, 3)]) (rest := []) (ls1 := [(2, 33), (0, 3)]) rfl rfl rfl rfl rfl rfl ?_
        refine wp_run 1 (pc' := 1) (ls' := [(2, 33), (0, 3)]) (st' := [(2, 33)]) rfl ?_
        refine wp_callv (pc' := 4) (as := [(2, 33)]) (rest := []) (ls1 := [(2, 33)]) rfl rfl rfl rfl rfl rfl ?_
        refine wp_run 1 (pc' := 1) (ls' := [(2, 33)]) (st' := [(2, 33)]) rfl ?_
        refine wp_gf (pc' := 4) (t := 0) (v := (M 33 1)) rfl rfl (by decide) rfl rfl rfl ?_
        refine wp_if1 rfl rfl rfl (fun (c6 : (M 33 1) ≠ 0) => ?_) (fun (c6 : ¬ ((M 33 1) ≠ 0)) => ?_)
        · refine wp_run 1 (pc' := 12) (ls' := [(2, 33)]) (st' := [(0, 0)]) rfl ?_
          refine wp_ret rfl rfl ?_
          show wp xs _ mX5_fail 4 [(2, 33), (0, 3)] [(0, 0)] z_LL M _
          refine wp_run 1 (pc' := 39) (ls' := [(2, 33), (0, 3)]) (st' := []) rfl ?_
          refine wp_ret rfl rfl ?_
          show wp xs _ mX5_wantsBody 63 [(2, 33), (0, x1), (0, s0), (3, 0)] [] z_LL M _
          refine wp_run 2 (pc' := 66) (ls' := [(2, 33), (0, x1), (0, s0), (3, 0)]) (st' := [(0, 24), (2, 33)]) rfl ?_
          refine wp_callv (pc' := 69) (as := [(2, 33), (0, 24)]) (rest := []) (ls1 := [(2, 33), (0, 24)]) rfl rfl rfl rfl rfl rfl ?_
          exact l6 c1 c2 c5 c6
        · refine wp_run 2 (pc' := 12) (ls' := [(2, 33)]) (st' := [(0, 1)]) rfl ?_
          refine wp_ret rfl rfl ?_
          show wp xs _ mX5_fail 4 [(2, 33), (0, 3)] [(0, 1)] z_LL M _
          refine wp_run 3 (pc' := 9) (ls' := [(2, 33), (0, 3)]) (st' := [(2, 33), (2, 33)]) rfl ?_
          refine wp_gf (pc' := 12) (t := 2) (v := 30) rfl rfl (by decide) rfl rfl (fx_33_0 hF) ?_
          refine wp_gf (pc' := 15) (t := 0) (v := (M 30 3)) rfl rfl (by decide) rfl rfl rfl ?_
          refine wp_run 1 (pc' := 17) (ls' := [(2, 33), (0, 3)]) (st' := [(0, 27), (0, (M 30 3)), (2, 33)]) rfl ?_
          refine wp_if2 rfl rfl rfl (fun (c7 : (M 30 3) ≠ 27) => ?_) (fun (c7 : ¬ ((M 30 3) ≠ 27)) => ?_)
          · refine wp_run 1 (pc' := 25) (ls' := [(2, 33), (0, 3)]) (st' := [(0, 3), (2, 33)]) rfl ?_
            refine wp_pf (pc' := 28) rfl rfl rfl rfl (fun z => absurd z (by decide)) (fun z => absurd z (by decide)) ?_
            refine wp_run 2 (pc' := 30) (ls' := [(2, 33), (0, 3)]) (st' := [(2, 33), (2, 33)]) rfl ?_
            refine wp_gf (pc' := 33) (t := 2) (v := 30) rfl rfl (by decide) rfl rfl (z_upi (by decide) (fx_33_0 hF)) ?_
            refine wp_gf (pc' := 36) (t := 0) (v := (M 30 4)) rfl rfl (by decide) rfl rfl (z_upq (by decide) rfl) ?_
            refine wp_pf (pc' := 39) rfl rfl rfl rfl (fun z => absurd z (by decide)) (fun z => absurd z (by decide)) ?_
            refine wp_ret rfl rfl ?_
            show wp xs _ mX5_wantsBody 63 [(2, 33), (0, x1), (0, s0), (3, 0)] [] z_LL (z_up (z_up M 33 1 3) 33 2 (M 30 4)) _
            refine wp_run 2 (pc' := 66) (ls' := [(2, 33), (0, x1), (0, s0), (3, 0)]) (st' := [(0, 24), (2, 33)]) rfl ?_
            refine wp_callv (pc' := 69) (as := [(2, 33), (0, 24)]) (rest := []) (ls1 := [(2, 33), (0, 24)]) rfl rfl rfl rfl rfl rfl ?_
            exact l7 c1 c2 c5 c6 c7
          · refine wp_run 2 (pc' := 25) (ls' := [(2, 33), (0, 3)]) (st' := [(0, 1), (2, 33)]) rfl ?_
            refine wp_pf (pc' := 28) rfl rfl rfl rfl (fun z => absurd z (by decide)) (fun z => absurd z (by decide)) ?_
            refine wp_run 2 (pc' := 30) (ls' := [(2, 33), (0, 3)]) (st' := [(2, 33), (2, 33)]) rfl ?_
            refine wp_gf (pc' := 33) (t := 2) (v := 30) rfl rfl (by decide) rfl rfl (z_upi (by decide) (fx_33_0 hF)) ?_
            refine wp_gf (pc' := 36) (t := 0) (v := (M 30 4)) rfl rfl (by decide) rfl rfl (z_upq (by decide) rfl) ?_
            refine wp_pf (pc' := 39) rfl rfl rfl rfl (fun z => absurd z (by decide)) (fun z => absurd z (by decide)) ?_
            refine wp_ret rfl rfl ?_
            show wp xs _ mX5_wantsBody 63 [(2, 33), (0, x1), (0, s0), (3, 0)] [] z_LL (z_up (z_up M 33 1 1) 33 2 (M 30 4)) _
            refine wp_run 2 (pc' := 66) (ls' := [(2, 33), (0, x1), (0, s0), (3, 0)]) (st' := [(0, 24), (2, 33)]) rfl ?_
            refine wp_callv (pc' := 69) (as := [(2, 33), (0, 24)]) (rest := []) (ls1 := [(2, 33), (0, 24)]) rfl rfl rfl rfl rfl rfl ?_
            exact l8 c1 c2 c5 c6 c7
set_option maxRecDepth 20000 in
theorem gX5_wantsBody_69 {xs : List Int} {d : Nat} {M : z_M} {P : Option z_V → z_L → z_M → Prop} {x1 : Int} {x2 : Int} 
    (l1 : wp xs d mX5_number 0 [(2, 33), (0, 0), (0, 99), (3, 0)] [] z_LL M (fun r L1 M1 => wp xs (d + 1) mX5_wantsBody 76 [(2, 33), (0, x1), (0, x2), (3, 0)] (z_ol r ++ []) L1 M1 P)) :
    wp xs (d + 1) mX5_wantsBody 69 [(2, 33), (0, x1), (0, x2), (3, 0)] [] z_LL M P := by
  refine wp_run 3 (pc' := 73) (ls' := [(2, 33), (0, x1), (0, x2), (3, 0)]) (st' := [(0, 99), (0, 0), (2, 33)]) rfl ?_
  refine wp_callv (pc' := 76) (as := [(2, 33), (0, 0), (0, 99)]) (rest := []) (ls1 := [(2, 33), (0, 0), (0, 99), (3, 0)]) rfl rfl rfl rfl rfl rfl ?_
  exact l1
set_option maxRecDepth 20000 in
theorem gX5_wantsBody_76 {xs : List Int} {d : Nat} {M : z_M} {P : Option z_V → z_L → z_M → Prop} {x1 : Int} {x2 : Int} {s0 : Int} (hg1 : z_gor M (M 33 3))
    (l1 : ((M 33 1) ≠ 0) → P none z_LL M)
    (b1 : (¬ ((M 33 1) ≠ 0)) → 0 ≤ (z_w ((z_w (x1 * 6)) + x2)) ∧ (z_w ((z_w (x1 * 6)) + x2)) < 36)
    (l2 : (¬ ((M 33 1) ≠ 0)) → P none z_LL (z_up M ((M 33 3) + 6) (z_w ((z_w (x1 * 6)) + x2)) s0)) :
    wp xs (d + 1) mX5_wantsBody 76 [(2, 33), (0, x1), (0, x2), (3, 0)] [(0, s0)] z_LL M P := by
  refine wp_run 2 (pc' := 78) (ls' := [(2, 33), (0, x1), (0, x2), (0, s0)]) (st' := [(2, 33)]) rfl ?_
  refine wp_callv (pc' := 81) (as := [(2, 33)]) (rest := []) (ls1 := [(2, 33)]) rfl rfl rfl rfl rfl rfl ?_
  refine wp_run 1 (pc' := 1) (ls' := [(2, 33)]) (st' := [(2, 33)]) rfl ?_
  refine wp_gf (pc' := 4) (t := 0) (v := (M 33 1)) rfl rfl (by decide) rfl rfl rfl ?_
  refine wp_if1 rfl rfl rfl (fun (c1 : (M 33 1) ≠ 0) => ?_) (fun (c1 : ¬ ((M 33 1) ≠ 0)) => ?_)
  · refine wp_run 1 (pc' := 12) (ls' := [(2, 33)]) (st' := [(0, 0)]) rfl ?_
    refine wp_ret rfl rfl ?_
    show wp xs _ mX5_wantsBody 81 [(2, 33), (0, x1), (0, x2), (0, s0)] [(0, 0)] z_LL M _
    refine wp_run 1 (pc' := 99) (ls' := [(2, 33), (0, x1), (0, x2), (0, s0)]) (st' := []) rfl ?_
    exact wp_ret rfl rfl (l1 c1)
  · refine wp_run 2 (pc' := 12) (ls' := [(2, 33)]) (st' := [(0, 1)]) rfl ?_
    refine wp_ret rfl rfl ?_
    show wp xs _ mX5_wantsBody 81 [(2, 33), (0, x1), (0, x2), (0, s0)] [(0, 1)] z_LL M _
    refine wp_run 2 (pc' := 85) (ls' := [(2, 33), (0, x1), (0, x2), (0, s0)]) (st' := [(2, 33)]) rfl ?_
    refine wp_gf (pc' := 88) (t := 2) (v := (M 33 3)) rfl rfl (by decide) rfl rfl rfl ?_
    refine wp_gf (pc' := 91) (t := 2) (v := ((M 33 3) + 6)) rfl rfl (by decide) rfl (z_gl0 hg1) (z_gf5 hg1) ?_
    refine wp_run 6 (pc' := 98) (ls' := [(2, 33), (0, x1), (0, x2), (0, s0)]) (st' := [(0, s0), (0, (z_w ((z_w (x1 * 6)) + x2))), (2, ((M 33 3) + 6))]) rfl ?_
    refine wp_iast (pc' := 99) rfl rfl (z_gl6 hg1) (b1 c1) ?_
    exact wp_ret rfl rfl (l2 c1)
set_option maxRecDepth 20000 in
theorem gX5_feudBody_0 {xs : List Int} {d : Nat} {M : z_M} {P : Option z_V → z_L → z_M → Prop} 
    (l1 : wp xs d mX5_named 0 [(2, 33), (3, 0)] [] z_LL M (fun r L1 M1 => wp xs (d + 1) mX5_feudBody 4 [(2, 33), (3, 0), (3, 0)] (z_ol r ++ []) L1 M1 P)) :
    wp xs (d + 1) mX5_feudBody 0 [(2, 33), (3, 0), (3, 0)] [] z_LL M P := by
  refine wp_run 1 (pc' := 1) (ls' := [(2, 33), (3, 0), (3, 0)]) (st' := [(2, 33)]) rfl ?_
  refine wp_callv (pc' := 4) (as := [(2, 33)]) (rest := []) (ls1 := [(2, 33), (3, 0)]) rfl rfl rfl rfl rfl rfl ?_
  exact l1
set_option maxRecDepth 20000 in
theorem gX5_feudBody_4 {xs : List Int} {d : Nat} {M : z_M} {P : Option z_V → z_L → z_M → Prop} {s0 : Int} 
    (l1 : wp xs d mX5_need 0 [(2, 33), (0, 24)] [] z_LL M (fun r L1 M1 => wp xs (d + 1) mX5_feudBody 11 [(2, 33), (0, s0), (3, 0)] (z_ol r ++ []) L1 M1 P)) :
    wp xs (d + 1) mX5_feudBody 4 [(2, 33), (3, 0), (3, 0)] [(0, s0)] z_LL M P := by
  refine wp_run 3 (pc' := 8) (ls' := [(2, 33), (0, s0), (3, 0)]) (st' := [(0, 24), (2, 33)]) rfl ?_
  refine wp_callv (pc' := 11) (as := [(2, 33), (0, 24)]) (rest := []) (ls1 := [(2, 33), (0, 24)]) rfl rfl rfl rfl rfl rfl ?_
  exact l1
set_option maxRecDepth 20000 in
theorem gX5_feudBody_11 {xs : List Int} {d : Nat} {M : z_M} {P : Option z_V → z_L → z_M → Prop} {x1 : Int} 
    (l1 : wp xs d mX5_named 0 [(2, 33), (3, 0)] [] z_LL M (fun r L1 M1 => wp xs (d + 1) mX5_feudBody 15 [(2, 33), (0, x1), (3, 0)] (z_ol r ++ []) L1 M1 P)) :
    wp xs (d + 1) mX5_feudBody 11 [(2, 33), (0, x1), (3, 0)] [] z_LL M P := by
  refine wp_run 1 (pc' := 12) (ls' := [(2, 33), (0, x1), (3, 0)]) (st' := [(2, 33)]) rfl ?_
  refine wp_callv (pc' := 15) (as := [(2, 33)]) (rest := []) (ls1 := [(2, 33), (3, 0)]) rfl rfl rfl rfl rfl rfl ?_
  exact l1
set_option maxRecDepth 20000 in
theorem gX5_feudBody_15 {xs : List Int} {d : Nat} {M : z_M} {P : Option z_V → z_L → z_M → Prop} {x1 : Int} {s0 : Int} (hF : z_fix M) (hg1 : z_gor M (M 33 3))
    (l1 : ((M 33 1) ≠ 0) → P none z_LL M)
    (l2 : (¬ ((M 33 1) ≠ 0)) → (x1 = s0) → ((M 33 1) ≠ 0) → P none z_LL M)
    (l3 : (¬ ((M 33 1) ≠ 0)) → (x1 = s0) → (¬ ((M 33 1) ≠ 0)) → ((M 30 3) ≠ 27) → P none z_LL (z_up (z_up M 33 1 3) 33 2 (M 30 4)))
    (l4 : (¬ ((M 33 1) ≠ 0)) → (x1 = s0) → (¬ ((M 33 1) ≠ 0)) → (¬ ((M 30 3) ≠ 27)) → P none z_LL (z_up (z_up M 33 1 1) 33 2 (M 30 4)))
    (b1 : (¬ ((M 33 1) ≠ 0)) → (¬ (x1 = s0)) → 0 ≤ x1 ∧ x1 < 6)
    (l5 : (¬ ((M 33 1) ≠ 0)) → (¬ (x1 = s0)) → ((z_and (z_shr (M ((M 33 3) + 5) x1) s0) 1) = 0) → wp xs (d + 1) mX5_need 0 [(2, 33), (0, 24)] [] z_LL M (fun r L1 M1 => wp xs (d + 2) mX5_feudBody 53 [(2, 33), (0, x1), (0, s0)] (z_ol r ++ []) L1 M1 P))
    (l6 : (¬ ((M 33 1) ≠ 0)) → (¬ (x1 = s0)) → (¬ ((z_and (z_shr (M ((M 33 3) + 5) x1) s0) 1) = 0)) → ((M 33 1) ≠ 0) → P none z_LL M)
    (l7 : (¬ ((M 33 1) ≠ 0)) → (¬ (x1 = s0)) → (¬ ((z_and (z_shr (M ((M 33 3) + 5) x1) s0) 1) = 0)) → (¬ ((M 33 1) ≠ 0)) → ((M 30 3) ≠ 27) → P none z_LL (z_up (z_up M 33 1 3) 33 2 (M 30 4)))
    (l8 : (¬ ((M 33 1) ≠ 0)) → (¬ (x1 = s0)) → (¬ ((z_and (z_shr (M ((M 33 3) + 5) x1) s0) 1) = 0)) → (¬ ((M 33 1) ≠ 0)) → (¬ ((M 30 3) ≠ 27)) → P none z_LL (z_up (z_up M 33 1 1) 33 2 (M 30 4))) :
    wp xs (d + 2) mX5_feudBody 15 [(2, 33), (0, x1), (3, 0)] [(0, s0)] z_LL M P := by
  refine wp_run 2 (pc' := 17) (ls' := [(2, 33), (0, x1), (0, s0)]) (st' := [(2, 33)]) rfl ?_
  refine wp_callv (pc' := 20) (as := [(2, 33)]) (rest := []) (ls1 := [(2, 33)]) rfl rfl rfl rfl rfl rfl ?_
  refine wp_run 1 (pc' := 1) (ls' := [(2, 33)]) (st' := [(2, 33)]) rfl ?_
  refine wp_gf (pc' := 4) (t := 0) (v := (M 33 1)) rfl rfl (by decide) rfl rfl rfl ?_
  refine wp_if1 rfl rfl rfl (fun (c1 : (M 33 1) ≠ 0) => ?_) (fun (c1 : ¬ ((M 33 1) ≠ 0)) => ?_)
  · refine wp_run 1 (pc' := 12) (ls' := [(2, 33)]) (st' := [(0, 0)]) rfl ?_
    refine wp_ret rfl rfl ?_
    show wp xs _ mX5_feudBody 20 [(2, 33), (0, x1), (0, s0)] [(0, 0)] z_LL M _
    refine wp_run 1 (pc' := 23) (ls' := [(2, 33), (0, x1), (0, s0)]) (st' := []) rfl ?_
    exact wp_ret rfl rfl (l1 c1)
  · refine wp_run 2 (pc' := 12) (ls' := [(2, 33)]) (st' := [(0, 1)]) rfl ?_
    refine wp_ret rfl rfl ?_
    show wp xs _ mX5_feudBody 20 [(2, 33), (0, x1), (0, s0)] [(0, 1)] z_LL M _
    refine wp_run 3 (pc' := 26) (ls' := [(2, 33), (0, x1), (0, s0)]) (st' := [(0, s0), (0, x1)]) rfl ?_
    refine wp_if2 rfl rfl rfl (fun (c2 : x1 = s0) => ?_) (fun (c2 : ¬ (x1 = s0)) => ?_)
    · refine wp_run 2 (pc' := 43) (ls' := [(2, 33), (0, x1), (0, s0)]) (st' := [(0, 3), (2, 33)]) rfl ?_
      refine wp_callv (pc' := 46) (as := [(2, 33), (0, 3)]) (rest := []) (ls1 := [(2, 33), (0, 3)]) rfl rfl rfl rfl rfl rfl ?_
      refine wp_run 1 (pc' := 1) (ls' := [(2, 33), (0, 3)]) (st' := [(2, 33)]) rfl ?_
      refine wp_callv (pc' := 4) (as := [(2, 33)]) (rest := []) (ls1 := [(2, 33)]) rfl rfl rfl rfl rfl rfl ?_
      refine wp_run 1 (pc' := 1) (ls' := [(2, 33)]) (st' := [(2, 33)]) rfl ?_
      refine wp_gf (pc' := 4) (t := 0) (v := (M 33 1)) rfl rfl (by decide) rfl rfl rfl ?_
      refine wp_if1 rfl rfl rfl (fun (c3 : (M 33 1) ≠ 0) => ?_) (fun (c3 : ¬ ((M 33 1) ≠ 0)) => ?_)
      · refine wp_run 1 (pc' := 12) (ls' := [(2, 33)]) (st' := [(0, 0)]) rfl ?_
        refine wp_ret rfl rfl ?_
        show wp xs _ mX5_fail 4 [(2, 33), (0, 3)] [(0, 0)] z_LL M _
        refine wp_run 1 (pc' := 39) (ls' := [(2, 33), (0, 3)]) (st' := []) rfl ?_
        refine wp_ret rfl rfl ?_
        show wp xs _ mX5_feudBody 46 [(2, 33), (0, x1), (0, s0)] [] z_LL M _
        exact wp_ret rfl rfl (l2 c1 c2 c3)
      · refine wp_run 2 (pc' := 12) (ls' := [(2, 33)]) (st' := [(0, 1)]) rfl ?_
        refine wp_ret rfl rfl ?_
        show wp xs _ mX5_fail 4 [(2, 33), (0, 3)] [(0, 1)] z_LL M _
        refine wp_run 3 (pc' := 9) (ls' := [(2, 33), (0, 3)]) (st' := [(2, 33), (2, 33)]) rfl ?_
        refine wp_gf (pc' := 12) (t := 2) (v := 30) rfl rfl (by decide) rfl rfl (fx_33_0 hF) ?_
        refine wp_gf (pc' := 15) (t := 0) (v := (M 30 3)) rfl rfl (by decide) rfl rfl rfl ?_
        refine wp_run 1 (pc' := 17) (ls' := [(2, 33), (0, 3)]) (st' := [(0, 27), (0, (M 30 3)), (2, 33)]) rfl ?_
        refine wp_if2 rfl rfl rfl (fun (c4 : (M 30 3) ≠ 27) => ?_) (fun (c4 : ¬ ((M 30 3) ≠ 27)) => ?_)
        · refine wp_run 1 (pc' := 25) (ls' := [(2, 33), (0, 3)]) (st' := [(0, 3), (2, 33)]) rfl ?_
          refine wp_pf (pc' := 28) rfl rfl rfl rfl (fun z => absurd z (by decide)) (fun z => absurd z (by decide)) ?_
          refine wp_run 2 (pc' := 30) (ls' := [(2, 33), (0, 3)]) (st' := [(2, 33), (2, 33)]) rfl ?_
          refine wp_gf (pc' := 33) (t := 2) (v := 30) rfl rfl (by decide) rfl rfl (z_upi (by decide) (fx_33_0 hF)) ?_
          refine wp_gf (pc' := 36) (t := 0) (v := (M 30 4)) rfl rfl (by decide) rfl rfl (z_upq (by decide) rfl) ?_
          refine wp_pf (pc' := 39) rfl rfl rfl rfl (fun z => absurd z (by decide)) (fun z => absurd z (by decide)) ?_
          refine wp_ret rfl rfl ?_
          show wp xs _ mX5_feudBody 46 [(2, 33), (0, x1), (0, s0)] [] z_LL (z_up (z_up M 33 1 3) 33 2 (M 30 4)) _
          exact wp_ret rfl rfl (l3 c1 c2 c3 c4)
        · refine wp_run 2 (pc' := 25) (ls' := [(2, 33), (0, 3)]) (st' := [(0, 1), (2, 33)]) rfl ?_
          refine wp_pf (pc' := 28) rfl rfl rfl rfl (fun z => absurd z (by decide)) (fun z => absurd z (by decide)) ?_
          refine wp_run 2 (pc' := 30) (ls' := [(2, 33), (0, 3)]) (st' := [(2, 33), (2, 33)]) rfl ?_
          refine wp_gf (pc' := 33) (t := 2) (v := 30) rfl rfl (by decide) rfl rfl (z_upi (by decide) (fx_33_0 hF)) ?_
          refine wp_gf (pc' := 36) (t := 0) (v := (M 30 4)) rfl rfl (by decide) rfl rfl (z_upq (by decide) rfl) ?_
          refine wp_pf (pc' := 39) rfl rfl rfl rfl (fun z => absurd z (by decide)) (fun z => absurd z (by decide)) ?_
          refine wp_ret rfl rfl ?_
          show wp xs _ mX5_feudBody 46 [(2, 33), (0, x1), (0, s0)] [] z_LL (z_up (z_up M 33 1 1) 33 2 (M 30 4)) _
          exact wp_ret rfl rfl (l4 c1 c2 c3 c4)
    · refine wp_run 1 (pc' := 30) (ls' := [(2, 33), (0, x1), (0, s0)]) (st' := [(2, 33)]) rfl ?_
      refine wp_gf (pc' := 33) (t := 2) (v := (M 33 3)) rfl rfl (by decide) rfl rfl rfl ?_
      refine wp_run 2 (pc' := 35) (ls' := [(2, 33), (0, x1), (0, s0)]) (st' := [(0, s0), (0, x1), (2, (M 33 3))]) rfl ?_
      refine wp_callv (pc' := 38) (as := [(2, (M 33 3)), (0, x1), (0, s0)]) (rest := []) (ls1 := [(2, (M 33 3)), (0, x1), (0, s0)]) rfl rfl rfl rfl (z_args_v rfl rfl rfl rfl (Nat.le_of_ble_eq_true rfl) rfl (by decide) (z_gl0 hg1)) rfl ?_
      refine wp_run 1 (pc' := 1) (ls' := [(2, (M 33 3)), (0, x1), (0, s0)]) (st' := [(2, (M 33 3))]) rfl ?_
      refine wp_gf (pc' := 4) (t := 2) (v := ((M 33 3) + 5)) rfl rfl (by decide) rfl (z_gl0 hg1) (z_gf4 hg1) ?_
      refine wp_run 1 (pc' := 5) (ls' := [(2, (M 33 3)), (0, x1), (0, s0)]) (st' := [(0, x1), (2, ((M 33 3) + 5))]) rfl ?_
      refine wp_iald (pc' := 6) (v := (M ((M 33 3) + 5) x1)) rfl rfl (z_gl5 hg1) (b1 c1 c2) rfl ?_
      refine wp_run 4 (pc' := 10) (ls' := [(2, (M 33 3)), (0, x1), (0, s0)]) (st' := [(0, (z_and (z_shr (M ((M 33 3) + 5) x1) s0) 1))]) rfl ?_
      refine wp_if1 rfl rfl rfl (fun (c5 : (z_and (z_shr (M ((M 33 3) + 5) x1) s0) 1) = 0) => ?_) (fun (c5 : ¬ ((z_and (z_shr (M ((M 33 3) + 5) x1) s0) 1) = 0)) => ?_)
      · refine wp_run 1 (pc' := 18) (ls' := [(2, (M 33 3)), (0, x1), (0, s0)]) (st' := [(0, 0)]) rfl ?_
        refine wp_ret rfl rfl ?_
        show wp xs _ mX5_feudBody 38 [(2, 33), (0, x1), (0, s0)] [(0, 0)] z_LL M _
        refine wp_run 3 (pc' := 50) (ls' := [(2, 33), (0, x1), (0, s0)]) (st' := [(0, 24), (2, 33)]) rfl ?_
        refine wp_callv (pc' := 53) (as := [(2, 33), (0, 24)]) (rest := []) (ls1 := [(2, 33), (0, 24)]) rfl rfl rfl rfl rfl rfl ?_
        exact l5 c1 c2 c5
      · refine wp_run 2 (pc' := 18) (ls' := [(2, (M 33 3)), (0, x1), (0, s0)]) (st' := [(0, 1)]) rfl ?_
        refine wp_ret rfl rfl ?_
        show wp xs _ mX5_feudBody 38 [(2, 33), (0, x1), (0, s0)] [(0, 1)] z_LL M _
        refine wp_run 3 (pc' := 43) (ls' := [(2, 33), (0, x1), (0, s0)]) (st' := [(0, 3), (2, 33)]) rfl ?_
        refine wp_callv (pc' := 46) (as := [(2, 33), (0, 3)]) (rest := []) (ls1 := [(2, 33), (0, 3)]) rfl rfl rfl rfl rfl rfl ?_
        refine wp_run 1 (pc' := 1) (ls' := [(2, 33), (0, 3)]) (st' := [(2, 33)]) rfl ?_
        refine wp_callv (pc' := 4) (as := [(2, 33)]) (rest := []) (ls1 := [(2, 33)]) rfl rfl rfl rfl rfl rfl ?_
        refine wp_run 1 (pc' := 1) (ls' := [(2, 33)]) (st' := [(2, 33)]) rfl ?_
        refine wp_gf (pc' := 4) (t := 0) (v := (M 33 1)) rfl rfl (by decide) rfl rfl rfl ?_
        refine wp_if1 rfl rfl rfl (fun (c6 : (M 33 1) ≠ 0) => ?_) (fun (c6 : ¬ ((M 33 1) ≠ 0)) => ?_)
        · refine wp_run 1 (pc' := 12) (ls' := [(2, 33)]) (st' := [(0, 0)]) rfl ?_
          refine wp_ret rfl rfl ?_
          show wp xs _ mX5_fail 4 [(2, 33), (0, 3)] [(0, 0)] z_LL M _
          refine wp_run 1 (pc' := 39) (ls' := [(2, 33), (0, 3)]) (st' := []) rfl ?_
          refine wp_ret rfl rfl ?_
          show wp xs _ mX5_feudBody 46 [(2, 33), (0, x1), (0, s0)] [] z_LL M _
          exact wp_ret rfl rfl (l6 c1 c2 c5 c6)
        · refine wp_run 2 (pc' := 12) (ls' := [(2, 33)]) (st' := [(0, 1)]) rfl ?_
          refine wp_ret rfl rfl ?_
          show wp xs _ mX5_fail 4 [(2, 33), (0, 3)] [(0, 1)] z_LL M _
          refine wp_run 3 (pc' := 9) (ls' := [(2, 33), (0, 3)]) (st' := [(2, 33), (2, 33)]) rfl ?_
          refine wp_gf (pc' := 12) (t := 2) (v := 30) rfl rfl (by decide) rfl rfl (fx_33_0 hF) ?_
          refine wp_gf (pc' := 15) (t := 0) (v := (M 30 3)) rfl rfl (by decide) rfl rfl rfl ?_
          refine wp_run 1 (pc' := 17) (ls' := [(2, 33), (0, 3)]) (st' := [(0, 27), (0, (M 30 3)), (2, 33)]) rfl ?_
          refine wp_if2 rfl rfl rfl (fun (c7 : (M 30 3) ≠ 27) => ?_) (fun (c7 : ¬ ((M 30 3) ≠ 27)) => ?_)
          · refine wp_run 1 (pc' := 25) (ls' := [(2, 33), (0, 3)]) (st' := [(0, 3), (2, 33)]) rfl ?_
            refine wp_pf (pc' := 28) rfl rfl rfl rfl (fun z => absurd z (by decide)) (fun z => absurd z (by decide)) ?_
            refine wp_run 2 (pc' := 30) (ls' := [(2, 33), (0, 3)]) (st' := [(2, 33), (2, 33)]) rfl ?_
            refine wp_gf (pc' := 33) (t := 2) (v := 30) rfl rfl (by decide) rfl rfl (z_upi (by decide) (fx_33_0 hF)) ?_
            refine wp_gf (pc' := 36) (t := 0) (v := (M 30 4)) rfl rfl (by decide) rfl rfl (z_upq (by decide) rfl) ?_
            refine wp_pf (pc' := 39) rfl rfl rfl rfl (fun z => absurd z (by decide)) (fun z => absurd z (by decide)) ?_
            refine wp_ret rfl rfl ?_
            show wp xs _ mX5_feudBody 46 [(2, 33), (0, x1), (0, s0)] [] z_LL (z_up (z_up M 33 1 3) 33 2 (M 30 4)) _
            exact wp_ret rfl rfl (l7 c1 c2 c5 c6 c7)
          · refine wp_run 2 (pc' := 25) (ls' := [(2, 33), (0, 3)]) (st' := [(0, 1), (2, 33)]) rfl ?_
            refine wp_pf (pc' := 28) rfl rfl rfl rfl (fun z => absurd z (by decide)) (fun z => absurd z (by decide)) ?_
            refine wp_run 2 (pc' := 30) (ls' := [(2, 33), (0, 3)]) (st' := [(2, 33), (2, 33)]) rfl ?_
            refine wp_gf (pc' := 33) (t := 2) (v := 30) rfl rfl (by decide) rfl rfl (z_upi (by decide) (fx_33_0 hF)) ?_
            refine wp_gf (pc' := 36) (t := 0) (v := (M 30 4)) rfl rfl (by decide) rfl rfl (z_upq (by decide) rfl) ?_
            refine wp_pf (pc' := 39) rfl rfl rfl rfl (fun z => absurd z (by decide)) (fun z => absurd z (by decide)) ?_
            refine wp_ret rfl rfl ?_
            show wp xs _ mX5_feudBody 46 [(2, 33), (0, x1), (0, s0)] [] z_LL (z_up (z_up M 33 1 1) 33 2 (M 30 4)) _
            exact wp_ret rfl rfl (l8 c1 c2 c5 c6 c7)
set_option maxRecDepth 20000 in
theorem gX5_feudBody_53 {xs : List Int} {d : Nat} {M : z_M} {P : Option z_V → z_L → z_M → Prop} {x1 : Int} {x2 : Int} (hg1 : z_gor M (M 33 3))
    (b1 : 0 ≤ x1 ∧ x1 < 6)
    (b2 : 0 ≤ x2 ∧ x2 < 6)
    (l1 : P none z_LL (z_up (z_up (z_up M ((M 33 3) + 5) x1 (z_or (M ((M 33 3) + 5) x1) (z_shl 1 x2))) ((M 33 3) + 5) x2 (z_or ((z_up M ((M 33 3) + 5) x1 (z_or (M ((M 33 3) + 5) x1) (z_shl 1 x2))) ((M 33 3) + 5) x2) (z_shl 1 x1))) (M 33 3) 13 (z_w ((M (M 33 3) 13) + 1)))) :
    wp xs d mX5_feudBody 53 [(2, 33), (0, x1), (0, x2)] [] z_LL M P := by
  refine wp_run 1 (pc' := 54) (ls' := [(2, 33), (0, x1), (0, x2)]) (st' := [(2, 33)]) rfl ?_
  refine wp_gf (pc' := 57) (t := 2) (v := (M 33 3)) rfl rfl (by decide) rfl rfl rfl ?_
  refine wp_gf (pc' := 60) (t := 2) (v := ((M 33 3) + 5)) rfl rfl (by decide) rfl (z_gl0 hg1) (z_gf4 hg1) ?_
  refine wp_run 2 (pc' := 62) (ls' := [(2, 33), (0, x1), (0, x2)]) (st' := [(0, x1), (2, ((M 33 3) + 5)), (0, x1), (2, ((M 33 3) + 5))]) rfl ?_
  refine wp_iald (pc' := 63) (v := (M ((M 33 3) + 5) x1)) rfl rfl (z_gl5 hg1) (b1) rfl ?_
  refine wp_run 4 (pc' := 67) (ls' := [(2, 33), (0, x1), (0, x2)]) (st' := [(0, (z_or (M ((M 33 3) + 5) x1) (z_shl 1 x2))), (0, x1), (2, ((M 33 3) + 5))]) rfl ?_
  refine wp_iast (pc' := 68) rfl rfl (z_gl5 hg1) (b1) ?_
  refine wp_run 1 (pc' := 69) (ls' := [(2, 33), (0, x1), (0, x2)]) (st' := [(2, 33)]) rfl ?_
  refine wp_gf (pc' := 72) (t := 2) (v := (M 33 3)) rfl rfl (by decide) rfl rfl (z_upq (by have := z_gr hg1; omega) rfl) ?_
  refine wp_gf (pc' := 75) (t := 2) (v := ((M 33 3) + 5)) rfl rfl (by decide) rfl (z_gl0 hg1) (z_upq (by have := z_gr hg1; have := z_gr hg1; omega) (z_gf4 hg1)) ?_
  refine wp_run 2 (pc' := 77) (ls' := [(2, 33), (0, x1), (0, x2)]) (st' := [(0, x2), (2, ((M 33 3) + 5)), (0, x2), (2, ((M 33 3) + 5))]) rfl ?_
  refine wp_iald (pc' := 78) (v := ((z_up M ((M 33 3) + 5) x1 (z_or (M ((M 33 3) + 5) x1) (z_shl 1 x2))) ((M 33 3) + 5) x2)) rfl rfl (z_gl5 hg1) (b2) rfl ?_
  refine wp_run 4 (pc' := 82) (ls' := [(2, 33), (0, x1), (0, x2)]) (st' := [(0, (z_or ((z_up M ((M 33 3) + 5) x1 (z_or (M ((M 33 3) + 5) x1) (z_shl 1 x2))) ((M 33 3) + 5) x2) (z_shl 1 x1))), (0, x2), (2, ((M 33 3) + 5))]) rfl ?_
  refine wp_iast (pc' := 83) rfl rfl (z_gl5 hg1) (b2) ?_
  refine wp_run 1 (pc' := 84) (ls' := [(2, 33), (0, x1), (0, x2)]) (st' := [(2, 33)]) rfl ?_
  refine wp_gf (pc' := 87) (t := 2) (v := (M 33 3)) rfl rfl (by decide) rfl rfl (z_upq (by have := z_gr hg1; omega) (z_upq (by have := z_gr hg1; omega) rfl)) ?_
  refine wp_run 1 (pc' := 88) (ls' := [(2, 33), (0, x1), (0, x2)]) (st' := [(2, (M 33 3)), (2, (M 33 3))]) rfl ?_
  refine wp_gf (pc' := 91) (t := 0) (v := (M (M 33 3) 13)) rfl rfl (by decide) rfl (z_gl0 hg1) (z_upq (by have := z_gr hg1; have := z_gr hg1; omega) (z_upq (by have := z_gr hg1; have := z_gr hg1; omega) rfl)) ?_
  refine wp_run 2 (pc' := 93) (ls' := [(2, 33), (0, x1), (0, x2)]) (st' := [(0, (z_w ((M (M 33 3) 13) + 1))), (2, (M 33 3))]) rfl ?_
  refine wp_pf (pc' := 96) rfl rfl rfl (z_gl0 hg1) (fun z => absurd z (by decide)) (fun z => absurd z (by decide)) ?_
  exact wp_ret rfl rfl (l1)
noncomputable def zs_ck (b : Int → Int) (n : Int) (C : Prop) (σ : zs_S) : zs_S := match σ with
  | .ok p => @ite _ C (Classical.propDecidable _) (.error (3, zt_s b n p)) (.ok p)
  | .error e => .error e
noncomputable def zb_gorge (b : Int → Int) (n : Int) (σ : zs_S) (G : z_M) : zs_S × z_M := (zs_nm b n 2 5 (zs_nd b n 1 (zs_nm b n 2 5 σ)), z_up (z_up G 321 36 (zs_v b n σ)) 321 37 (zs_v b n (zs_nd b n 1 (zs_nm b n 2 5 σ))))
noncomputable def zb_rain (b : Int → Int) (n : Int) (σ : zs_S) (G : z_M) : zs_S × z_M := (zs_nm b n 1 9 (zs_nd b n 13 (zs_nm b n 0 100 σ)), z_up (z_up G 321 42 (zs_v b n σ)) 321 43 (zs_v b n (zs_nd b n 13 (zs_nm b n 0 100 σ))))
/-- two flocks, by their names -/
noncomputable def zb_1 (b : Int → Int) (n : Int) (σ : zs_S) (G : z_M) : zs_S := zs_nd b n 24 (zs_od b n (G 323) (G 321 40).toNat σ)
noncomputable def zb_2 (b : Int → Int) (n : Int) (σ : zs_S) (G : z_M) : zs_S := zs_od b n (G 323) (G 321 40).toNat (zb_1 b n σ G)
def zb_a (b : Int → Int) (n : Int) (σ : zs_S) (G : z_M) : Int := zs_on b n (G 323) (G 321 40).toNat σ
noncomputable def zb_b (b : Int → Int) (n : Int) (σ : zs_S) (G : z_M) : Int := zs_on b n (G 323) (G 321 40).toNat (zb_1 b n σ G)
noncomputable def zb_w4 (b : Int → Int) (n : Int) (σ : zs_S) (G : z_M) : zs_S := zs_nd b n 24 (zs_ck b n (G 332 (zb_a b n σ G) = G 332 (zb_b b n σ G) ∨ G 335 (6 * zb_a b n σ G + zb_b b n σ G) ≠ -1) (zb_2 b n σ G))
noncomputable def zb_wants (b : Int → Int) (n : Int) (σ : zs_S) (G : z_M) : zs_S × z_M := (zs_nm b n 0 99 (zb_w4 b n σ G), z_up G 335 (6 * zb_a b n σ G + zb_b b n σ G) (zs_v b n (zb_w4 b n σ G)))
def zb_fo (G : z_M) (a c : Int) : z_M := z_up (z_up (z_up G 336 a (z_or (G 336 a) (z_shl 1 c))) 336 c (z_or (z_up G 336 a (z_or (G 336 a) (z_shl 1 c)) 336 c) (z_shl 1 a))) 321 41 (G 321 41 + 1)
noncomputable def zb_feud (b : Int → Int) (n : Int) (σ : zs_S) (G : z_M) : zs_S × z_M := (zs_nd b n 24 (zs_ck b n (zb_a b n σ G = zb_b b n σ G ∨ ¬ z_and (z_shr (G 336 (zb_a b n σ G)) (zb_b b n σ G)) 1 = 0) (zb_2 b n σ G)), zb_fo G (zb_a b n σ G) (zb_b b n σ G))
section
variable {xs : List Int} {d : Nat} {M G : z_M} {b : Int → Int} {n g : Int} {σ : zs_S}
theorem zs_ck_k {C : Prop} {p : Int} (h : zs_ck b n C σ = .ok p) : σ = .ok p ∧ ¬ C := by
  cases σ with
  | error e => cases h
  | ok q =>
    change (@ite _ C (Classical.propDecidable _) _ _) = Except.ok p at h
    split at h
    · cases h
    · rename_i c
      exact ⟨h, c⟩
theorem zs_at_ck {C : Prop} (h : zs_at n σ) : zs_at n (zs_ck b n C σ) := by
  cases σ with
  | error e => exact h
  | ok q =>
    show zs_at n (@ite _ C (Classical.propDecidable _) _ _)
    split
    · show (0 : Int) < 3
      omega
    · exact h
theorem k_gorgeBody {P : Option z_V → z_L → z_M → Prop} (hF : z_fix M) (hc : zs_c M b n σ) (hg : zg_c M g G) (hz : zg_z G) (k : ∀ M' : z_M, zl_f g M M' → zk b n g M' (zb_gorge b n σ G) → P none z_LL M') : wp xs (d + 7) mX5_gorgeBody 0 [(2, 33)] [] z_LL M P := by
  have hs := z_gsep hg.2.1
  refine gX5_gorgeBody_0 (d := d + 6) (by rw [hg.1]; exact hg.2.1) (s_X5_number (d := d) hF hc (by decide) (fun v1 M1 f1 c1 b1 e1 => ?_))
  have g1 := zg_c_g hg f1
  rw [hg.1]
  refine gX5_gorgeBody_10 (d := d + 6) (s0 := g) (s1 := v1) g1.2.1 ?_
  have l2 : zl_f g M (z_up M1 g 10 v1) := zl_f_t (zl_f_g f1) (zl_f_u hs (by omega))
  refine s_X5_need (d := d) (zl_f_F l2 hs hF) (zs_c_u (by omega) (by omega) c1) (fun M3 f3 c3 => ?_)
  have l3 := zl_f_t l2 (zl_f_g f3)
  have g3 := zg_c_g (zg_u (j := 10) (fld := 36) (v := v1) g1 (by unfold zg_p; omega)) f3
  refine gX5_gorgeBody_18 (d := d + 6) (by rw [g3.1]; exact g3.2.1) (s_X5_number (d := d) (zl_f_F l3 hs hF) c3 (by decide) (fun v2 M4 f4 c4 b4 e4 => ?_))
  rw [g3.1]
  have g4 := zg_c_g g3 f4
  refine gX5_gorgeBody_28 (d := d + 7) (s0 := g) (s1 := v2) g4.2.1 (k _ (zl_f_t (zl_f_t l3 (zl_f_g f4)) (zl_f_u hs (by omega))) ⟨zs_c_u (by omega) (by omega) c4, _, zg_u (j := 11) (fld := 37) (v := v2) g4 (by unfold zg_p; omega), zg_z_u (zg_z_u hz (fun _ => b1) (by omega)) (fun _ => b4) (by omega), fun p hp => ?_⟩)
  obtain ⟨q, hq⟩ := (zs_nm_k hp).1
  obtain ⟨q2, hq2⟩ := zs_nd_k hq
  rw [e4 p hp, e1 q2 hq2]
  rfl
theorem k_rainBody {P : Option z_V → z_L → z_M → Prop} (hF : z_fix M) (hc : zs_c M b n σ) (hg : zg_c M g G) (hz : zg_z G) (k : ∀ M' : z_M, zl_f g M M' → zk b n g M' (zb_rain b n σ G) → P none z_LL M') : wp xs (d + 7) mX5_rainBody 0 [(2, 33)] [] z_LL M P := by
  have hs := z_gsep hg.2.1
  refine gX5_rainBody_0 (d := d + 6) (by rw [hg.1]; exact hg.2.1) (s_X5_number (d := d) hF hc (by decide) (fun v1 M1 f1 c1 b1 e1 => ?_))
  have g1 := zg_c_g hg f1
  rw [hg.1]
  refine gX5_rainBody_11 (d := d + 6) (s0 := g) (s1 := v1) g1.2.1 ?_
  have l2 : zl_f g M (z_up M1 g 16 v1) := zl_f_t (zl_f_g f1) (zl_f_u hs (by omega))
  refine s_X5_need (d := d) (zl_f_F l2 hs hF) (zs_c_u (by omega) (by omega) c1) (fun M3 f3 c3 => ?_)
  have l3 := zl_f_t l2 (zl_f_g f3)
  have g3 := zg_c_g (zg_u (j := 16) (fld := 42) (v := v1) g1 (by unfold zg_p; omega)) f3
  refine gX5_rainBody_20 (d := d + 6) (by rw [g3.1]; exact g3.2.1) (s_X5_number (d := d) (zl_f_F l3 hs hF) c3 (by decide) (fun v2 M4 f4 c4 b4 e4 => ?_))
  rw [g3.1]
  have g4 := zg_c_g g3 f4
  refine gX5_rainBody_31 (d := d + 7) (s0 := g) (s1 := v2) g4.2.1 (k _ (zl_f_t (zl_f_t l3 (zl_f_g f4)) (zl_f_u hs (by omega))) ⟨zs_c_u (by omega) (by omega) c4, _, zg_u (j := 17) (fld := 43) (v := v2) g4 (by unfold zg_p; omega), zg_z_u (zg_z_u hz (fun w => by omega) (by omega)) (fun w => by omega) (by omega), fun p hp => ?_⟩)
  obtain ⟨q, hq⟩ := (zs_nm_k hp).1
  obtain ⟨q2, hq2⟩ := zs_nd_k hq
  rw [e4 p hp, e1 q2 hq2]
  rfl
/-- both names, one after the other -/
theorem zs_c_e {e : Int × Int} (h : zs_c M b n (.error e)) : M 33 1 ≠ 0 := by
  have h1 : M 33 1 = e.1 := h.2.1.1
  have h2 : 0 < e.1 := h.2.2.1
  omega
theorem zs_c_o {p : Int} (h : zs_c M b n (.ok p)) : M 33 1 = 0 ∧ M 30 3 = zt_k b n p ∧ (0 ≤ p ∧ p ≤ n) ∧ (zt_k b n p = 25 → M 30 5 = zt_v b n p) ∧ (zt_k b n p ≤ 24 → M 30 6 = z_c5 (zt_l b n p)) := by
  obtain ⟨_, h2, _, p', h4, h5, h6⟩ := h
  obtain rfl : p = p' := h6 p rfl
  exact ⟨h2.1, h5.1, h4, h5.2.2.2.1, h5.2.2.2.2⟩
theorem zg_40 (hz : zg_z G) : G 321 40 = (((G 321 40).toNat : Nat) : Int) := by
  have := hz.2.2.1
  omega
theorem zg_12 (hg : zg_c M g G) (hz : zg_z G) : 0 ≤ M g 12 ∧ M g 12 ≤ 6 := by
  rw [hg.2.2.1.2.2.1]
  exact hz.2.2.1
theorem zb_2_k {p : Int} (h : zb_2 b n σ G = .ok p) : (0 ≤ zb_a b n σ G ∧ zb_a b n σ G < (G 321 40).toNat) ∧ (0 ≤ zb_b b n σ G ∧ zb_b b n σ G < (G 321 40).toNat) ∧ (∃ q, zs_od b n (G 323) (G 321 40).toNat σ = .ok q) ∧ zt_k b n p = 24 := by
  have h1 := zs_od_k h
  obtain ⟨q, hq⟩ := zs_nd_k h1.1
  have h2 := zs_od_k hq
  refine ⟨h2.2, h1.2, ⟨q, hq⟩, ?_⟩
  unfold zb_2 at h
  rw [h1.1] at h
  change (if zt_k b n p = 24 then _ else _) = Except.ok p at h
  split at h
  · assumption
  · cases h
theorem k_wantsBody {P : Option z_V → z_L → z_M → Prop} (hF : z_fix M) (hc : zs_c M b n σ) (hg : zg_c M g G) (hz : zg_z G) (k : ∀ M' : z_M, zl_f g M M' → zk b n g M' (zb_wants b n σ G) → P none z_LL M') : wp xs (d + 8) mX5_wantsBody 0 [(2, 33), (3, 0), (3, 0), (3, 0)] [] z_LL M P := by
  have hs := z_gsep hg.2.1
  refine gX5_wantsBody_0 (d := d + 7) (s_X5_named (d := d + 5) hF hg.1 hg.2.1 (fun p _ => zg_n hg hz (zg_40 hz)) (zg_12 hg hz) hc (fun v1 M1 f1 c1 e1 => ?_))
  have g1 := zg_c_g hg f1
  have l1 := zl_f_g (g := g) f1
  refine gX5_wantsBody_4 (d := d + 7) (s_X5_need (d := d + 1) (zl_f_F l1 hs hF) c1 (fun M2 f2 c2 => ?_))
  have g2 := zg_c_g g1 f2
  have l2 := zl_f_t l1 (zl_f_g f2)
  refine gX5_wantsBody_11 (d := d + 7) (s_X5_named (d := d + 5) (zl_f_F l2 hs hF) g2.1 g2.2.1 (fun p _ => zg_n g2 hz (zg_40 hz)) (zg_12 g2 hz) c2 (fun v3 M3 f3 c3 e3 => ?_))
  have g3 := zg_c_g g2 f3
  have l3 := zl_f_t l2 (zl_f_g f3)
  have F3 := zl_f_F l3 hs hF
  have g0 := gX5_wantsBody_15 (M := M3) (xs := xs) (d := d + 6) (P := P) (x1 := v1) (s0 := v3) F3 (by rw [g3.1]; exact g3.2.1)
  rw [g3.1] at g0
  change zs_c M3 b n (zb_2 b n σ G) at c3
  change ∀ p', zb_2 b n σ G = .ok p' → v3 = zb_b b n σ G at e3
  cases h2 : zb_2 b n σ G with
  | error e =>
    rw [h2] at c3
    have n0 := zs_c_e c3
    have er : (zb_wants b n σ G).1 = .error e := by
      unfold zb_wants zb_w4
      rw [h2]
      rfl
    exact g0 (fun _ => k M3 l3 ⟨by rw [er]; exact c3, G, g3, hz, fun p hp => by rw [er] at hp; cases hp⟩) (fun w => absurd n0 w) (fun w => absurd n0 w) (fun w => absurd n0 w) (fun w => absurd n0 w) (fun w => absurd n0 w) (fun w => absurd n0 w) (fun w => absurd n0 w) (fun w => absurd n0 w) (fun w => absurd n0 w) (fun w => absurd n0 w)
  | ok p =>
    obtain ⟨ra, rb, ⟨q1, hq1⟩, k24⟩ := zb_2_k h2
    have va : v1 = zb_a b n σ G := e1 q1 hq1
    have vb := e3 p h2
    rw [h2] at c3
    obtain ⟨n0, n3, np, -, -⟩ := zs_c_o c3
    have c6 := hz.2.2.1
    rw [va, vb] at g0 ⊢
    generalize ha : zb_a b n σ G = a at *
    generalize hb : zb_b b n σ G = c at *
    have hside := g3.2.2.2.2.1
    have sa := (hside a (by omega) (by omega)).1
    have sc := (hside c (by omega) (by omega)).1
    have sw := g3.2.2.2.2.2.2.1 a c (by omega) (by omega) (by omega) (by omega)
    rw [if_pos (by omega)] at sw
    rw [show a * 6 = 6 * a by omega, z_wid (x := 6 * a) (by omega), z_wid (x := 6 * a + c) (by omega), sa, sc, sw] at g0
    -- what comes behind the check
    have fin : ∀ (M4 : z_M) (σ4 : zs_S), zs_g M3 M4 → zs_c M4 b n σ4 → zs_nd b n 24 σ4 = zb_w4 b n σ G → wp xs (d + 7) mX5_need 0 [(2, 33), (0, 24)] [] z_LL M4 (fun r L1 M1 => wp xs (d + 8) mX5_wantsBody 69 [(2, 33), (0, a), (0, c), (3, 0)] (z_ol r ++ []) L1 M1 P) := fun M4 σ4 f4 c4 e4 => by
      have l4 := zl_f_t l3 (zl_f_g f4)
      refine s_X5_need (d := d + 1) (zl_f_F l4 hs hF) c4 (fun M5 f5 c5 => ?_)
      have l5 := zl_f_t l4 (zl_f_g f5)
      have g5 := zg_c_g (zg_c_g g3 f4) f5
      rw [e4] at c5
      refine gX5_wantsBody_69 (d := d + 7) (s_X5_number (d := d + 1) (zl_f_F l5 hs hF) c5 (by decide) (fun v6 M6 f6 c6' b6 e6 => ?_))
      have l6 := zl_f_t l5 (zl_f_g f6)
      have g6 := zg_c_g g5 f6
      have g1 := gX5_wantsBody_76 (M := M6) (xs := xs) (d := d + 7) (P := P) (x1 := a) (x2 := c) (s0 := v6) (by rw [g6.1]; exact g6.2.1)
      rw [g6.1, show a * 6 = 6 * a by omega, z_wid (x := 6 * a) (by omega), z_wid (x := 6 * a + c) (by omega)] at g1
      cases h6 : zs_nm b n 0 99 (zb_w4 b n σ G) with
      | error e =>
        rw [h6] at c6'
        have er : (zb_wants b n σ G).1 = .error e := h6
        exact g1 (fun _ => k M6 l6 ⟨by rw [er]; exact c6', G, g6, hz, fun p hp => by rw [er] at hp; cases hp⟩) (fun w => absurd (zs_c_e c6') w) (fun w => absurd (zs_c_e c6') w)
      | ok p6 =>
        rw [h6] at c6'
        have n6 := (zs_c_o c6').1
        have er : (zb_wants b n σ G).1 = .ok p6 := h6
        refine g1 (fun w => absurd n6 w) (fun _ => by omega) (fun _ => ?_)
        have e6 := e6 p6 h6
        refine k _ (zl_f_t l6 (zl_f_u hs (by omega))) ⟨by rw [er]; exact zs_c_u (by omega) (by omega) c6', z_up G 335 (6 * a + c) v6, ?_, ?_, fun p hp => by rw [e6]; unfold zb_wants; rw [ha, hb]⟩
        · obtain ⟨h1, h2, a', b', c', d', e', i', j', k', l'⟩ := g6
          refine ⟨by rw [z_upn (by omega)]; exact h1, z_gor_q (z_upn (by omega)) h2, zgA_q (z_upn (by omega)) ?_, zgN_q (z_upn (by omega)) (by rw [z_upn (by decide)]) (z_upn (by decide)) b', zgF_q ⟨z_upn (by omega), z_upn (by omega), z_upn (by omega)⟩ (by rw [z_upn (by decide)]) ⟨z_upn (by decide), z_upn (by decide), z_upn (by decide)⟩ c', zgE_q (z_upn (by omega)) (by rw [z_upn (by decide)]) (z_upn (by decide)) d', ?_, zgG_q (z_upn (by omega)) (z_upn (by decide)) i', zgT_q (z_upn (by omega)) (by rw [z_upn (by decide)]) ⟨z_upn (by decide), z_upn (by decide)⟩ j', zgB_q (by rw [z_upn (by omega)]) (fun _ _ _ => by rw [z_upn (by decide)]) k', ?_⟩
          · unfold zgA at a' ⊢
            rw [z_upn (q := 321) (by decide)]
            exact a'
          · intro f o f1 f2 o1 o2
            rw [z_upn (q := 321) (by decide)]
            have w := e' f o f1 f2 o1 o2
            by_cases e7 : 6 * f + o = 6 * a + c
            · have : f = a ∧ o = c := by omega
              rw [this.1, this.2, z_ups, if_pos (by omega), z_ups]
            · rw [z_upi e7 rfl, w, z_upi e7 rfl]
          · unfold zgL at l' ⊢
            rw [z_upn (q := 33) (by omega), z_upn (q := 321) (by decide)]
            exact l'
        · obtain ⟨z1, z2, z3, z4, z5, z6, z7⟩ := hz
          unfold zg_z
          rw [z_upn (q := 321) (by decide), z_upn (q := 323) (by decide)]
          exact ⟨z1, z2, z3, z4, z5, z6, fun f o o1 o2 o3 o4 => by rw [z_upi (by omega) rfl]; exact z7 f o o1 o2 o3 o4⟩
    by_cases bad : G 332 a = G 332 c ∨ G 335 (6 * a + c) ≠ -1
    · have e4 : zs_nd b n 24 (.error (zs_f b n p 3)) = zb_w4 b n σ G := by
        unfold zb_w4
        rw [ha, hb, h2]
        show _ = zs_nd b n 24 (@ite _ _ (Classical.propDecidable _) _ _)
        rw [if_pos bad]
        unfold zs_f
        rw [if_neg (by omega)]
      have w3 := zs_c_w (c := 3) (v := 3) c3 (by decide) (by unfold zs_f; rw [if_neg (by omega)])
      have f3' := fin _ _ w3.2 w3.1 e4
      exact g0 (fun w => absurd n0 w) (fun _ => by omega) (fun _ => by omega) (fun _ _ w => absurd n0 w) (fun _ _ _ _ => f3') (fun _ _ _ w => absurd (by omega) w) (fun _ _ => by omega) (fun _ w w2 => absurd bad (fun z => z.elim w (fun z => z w2))) (fun _ _ _ w => absurd n0 w) (fun _ _ _ _ _ => f3') (fun _ _ _ _ w => absurd (by omega) w)
    · have e4 : zs_nd b n 24 (.ok p) = zb_w4 b n σ G := by
        unfold zb_w4
        rw [ha, hb, h2]
        show _ = zs_nd b n 24 (@ite _ _ (Classical.propDecidable _) _ _)
        rw [if_neg bad]
      have f3' := fin M3 _ zs_g_r c3 e4
      exact g0 (fun w => absurd n0 w) (fun _ => by omega) (fun _ => by omega) (fun _ _ w => absurd n0 w) (fun _ w => absurd (Or.inl w) bad) (fun _ w => absurd (Or.inl w) bad) (fun _ _ => by omega) (fun _ _ _ => f3') (fun _ _ w => absurd (Or.inr w) bad) (fun _ _ w => absurd (Or.inr w) bad) (fun _ _ w => absurd (Or.inr w) bad)
theorem k_feudBody {P : Option z_V → z_L → z_M → Prop} (hF : z_fix M) (hc : zs_c M b n σ) (hg : zg_c M g G) (hz : zg_z G) (h41 : G 321 41 < 15) (k : ∀ M' : z_M, zl_f g M M' → zk b n g M' (zb_feud b n σ G) → P none z_LL M') : wp xs (d + 8) mX5_feudBody 0 [(2, 33), (3, 0), (3, 0)] [] z_LL M P := by
  have hs := z_gsep hg.2.1
  have h41b := hz.2.2.2.2.1.2.1
  refine gX5_feudBody_0 (d := d + 7) (s_X5_named (d := d + 5) hF hg.1 hg.2.1 (fun p _ => zg_n hg hz (zg_40 hz)) (zg_12 hg hz) hc (fun v1 M1 f1 c1 e1 => ?_))
  have g1 := zg_c_g hg f1
  have l1 := zl_f_g (g := g) f1
  refine gX5_feudBody_4 (d := d + 7) (s_X5_need (d := d + 1) (zl_f_F l1 hs hF) c1 (fun M2 f2 c2 => ?_))
  have g2 := zg_c_g g1 f2
  have l2 := zl_f_t l1 (zl_f_g f2)
  refine gX5_feudBody_11 (d := d + 7) (s_X5_named (d := d + 5) (zl_f_F l2 hs hF) g2.1 g2.2.1 (fun p _ => zg_n g2 hz (zg_40 hz)) (zg_12 g2 hz) c2 (fun v3 M3 f3 c3 e3 => ?_))
  have g3 := zg_c_g g2 f3
  have l3 := zl_f_t l2 (zl_f_g f3)
  have F3 := zl_f_F l3 hs hF
  have g0 := gX5_feudBody_15 (M := M3) (xs := xs) (d := d + 6) (P := P) (x1 := v1) (s0 := v3) F3 (by rw [g3.1]; exact g3.2.1)
  rw [g3.1] at g0
  change zs_c M3 b n (zb_2 b n σ G) at c3
  change ∀ p', zb_2 b n σ G = .ok p' → v3 = zb_b b n σ G at e3
  cases h2 : zb_2 b n σ G with
  | error e =>
    rw [h2] at c3
    have n0 := zs_c_e c3
    have er : (zb_feud b n σ G).1 = .error e := by
      unfold zb_feud
      rw [h2]
      rfl
    exact g0 (fun _ => k M3 l3 ⟨by rw [er]; exact c3, G, g3, hz, fun p hp => by rw [er] at hp; cases hp⟩) (fun w => absurd n0 w) (fun w => absurd n0 w) (fun w => absurd n0 w) (fun w => absurd n0 w) (fun w => absurd n0 w) (fun w => absurd n0 w) (fun w => absurd n0 w) (fun w => absurd n0 w)
  | ok p =>
    obtain ⟨ra, rb, ⟨q1, hq1⟩, k24⟩ := zb_2_k h2
    have va : v1 = zb_a b n σ G := e1 q1 hq1
    have vb := e3 p h2
    rw [h2] at c3
    obtain ⟨n0, n3, np, -, -⟩ := zs_c_o c3
    have c6 := hz.2.2.1
    rw [va, vb] at g0 ⊢
    have sa := g3.2.2.2.2.2.1 (zb_a b n σ G) (by omega) (by omega)
    have sc := g3.2.2.2.2.2.1 (zb_b b n σ G) (by omega) (by omega)
    rw [if_pos (by omega)] at sa sc
    rw [sa] at g0
    have bad : (zb_a b n σ G = zb_b b n σ G ∨ ¬ z_and (z_shr (G 336 (zb_a b n σ G)) (zb_b b n σ G)) 1 = 0) → P none z_LL (z_up (z_up M3 33 1 3) 33 2 (M3 30 4)) := fun w => by
      have w3 := zs_c_w (c := 3) (v := 3) c3 (by decide) (by unfold zs_f; rw [if_neg (by omega)])
      have er : (zb_feud b n σ G).1 = .error (zs_f b n p 3) := by
        unfold zb_feud
        rw [h2]
        show zs_nd b n 24 (@ite _ _ (Classical.propDecidable _) _ _) = _
        rw [if_pos w]
        unfold zs_f
        rw [if_neg (by omega)]
        rfl
      exact k _ (zl_f_t l3 (zl_f_g w3.2)) ⟨by rw [er]; exact w3.1, G, zg_c_g g3 w3.2, hz, fun p hp => by rw [er] at hp; cases hp⟩
    refine g0 (fun w => absurd n0 w) (fun _ _ w => absurd n0 w) (fun _ w _ _ => bad (Or.inl w)) (fun _ _ _ w => absurd (by omega) w) (fun _ _ => by omega) (fun _ ne z0 => ?_) (fun _ _ _ w => absurd n0 w) (fun _ _ w _ _ => bad (Or.inr w)) (fun _ _ _ _ w => absurd (by omega) w)
    refine s_X5_need (d := d + 1) F3 c3 (fun M5 f5 c5 => ?_)
    have l5 := zl_f_t l3 (zl_f_g f5)
    have g5 := zg_c_g g3 f5
    have er : (zb_feud b n σ G).1 = zs_nd b n 24 (.ok p) := by
      unfold zb_feud
      rw [h2]
      show zs_nd b n 24 (@ite _ _ (Classical.propDecidable _) _ _) = _
      rw [if_neg (fun w => w.elim ne (fun w => w z0))]
    have sa5 := g5.2.2.2.2.2.1 (zb_a b n σ G) (by omega) (by omega)
    have sc5 := g5.2.2.2.2.2.1 (zb_b b n σ G) (by omega) (by omega)
    rw [if_pos (by omega)] at sa5 sc5
    have g1 := gX5_feudBody_53 (M := M5) (xs := xs) (d := d + 8) (P := P) (x1 := zb_a b n σ G) (x2 := zb_b b n σ G) (by rw [g5.1]; exact g5.2.1)
    rw [g5.1, g5.2.2.1.2.2.2.1, z_wid (by omega), z_upi (M := M5) (b := zb_b b n σ G) (fun w => ne w.symm) rfl, sa5, sc5] at g1
    have eG : (zb_feud b n σ G).2 = zb_fo G (zb_a b n σ G) (zb_b b n σ G) := rfl
    generalize ha : zb_a b n σ G = a at *
    generalize hb : zb_b b n σ G = c at *
    refine g1 (by omega) (by omega) (k _ (zl_f_t (zl_f_t (zl_f_t l5 (zl_f_u hs (by omega))) (zl_f_u hs (by omega))) (zl_f_u hs (by omega))) ⟨by rw [er]; exact zs_c_u (by omega) (by omega) (zs_c_u (by omega) (by omega) (zs_c_u (by omega) (by omega) c5)), zb_fo G a c, ?_, ?_, fun p hp => eG.symm⟩)
    · have eo : ∀ q, q ≠ 321 → q ≠ 336 → zb_fo G a c q = G q := fun q w1 w2 => by unfold zb_fo; rw [z_upn w1, z_upn w2, z_upn w2]
      have eo1 : ∀ j, j ≠ 41 → zb_fo G a c 321 j = G 321 j := fun j w => by unfold zb_fo; rw [z_upi w rfl, z_upn (by decide), z_upn (by decide)]
      have o : ∀ q v w v2, q ≠ g → q ≠ g + 5 → z_up (z_up (z_up M5 (g + 5) a v) (g + 5) c w) g 13 v2 q = M5 q := fun q v w v2 w1 w2 => by rw [z_upn w1, z_upn w2, z_upn w2]
      obtain ⟨h1, h2, a', b', c', d', e', i', j', k', l'⟩ := g5
      refine ⟨by rw [o _ _ _ _ (by omega) (by omega)]; exact h1, z_gor_n h2 (fun q w1 w2 => by rw [z_upi (by omega) rfl, z_upn (by omega), z_upn (by omega)]), ?_, zgN_q (o _ _ _ _ (by omega) (by omega)) (eo1 _ (by decide)) (eo _ (by decide) (by decide)) b', zgF_q ⟨o _ _ _ _ (by omega) (by omega), o _ _ _ _ (by omega) (by omega), o _ _ _ _ (by omega) (by omega)⟩ (eo1 _ (by decide)) ⟨eo _ (by decide) (by decide), eo _ (by decide) (by decide), eo _ (by decide) (by decide)⟩ c', ?_, zgW_q (o _ _ _ _ (by omega) (by omega)) (eo1 _ (by decide)) (eo _ (by decide) (by decide)) e', zgG_q (o _ _ _ _ (by omega) (by omega)) (eo _ (by decide) (by decide)) i', zgT_q (o _ _ _ _ (by omega) (by omega)) (eo1 _ (by decide)) ⟨eo _ (by decide) (by decide), eo _ (by decide) (by decide)⟩ j', zgB_q (by rw [o _ _ _ _ (by omega) (by omega)]) (fun q w1 w2 => eo1 _ (by omega)) k', ?_⟩
      · obtain ⟨a1, a2, a3, a4, a5, a6, a7, a8, a9, a10⟩ := a'
        have og : ∀ j v w v2, j ≠ 13 → z_up (z_up (z_up M5 (g + 5) a v) (g + 5) c w) g 13 v2 g j = M5 g j := fun j v w v2 w1 => by rw [z_upi w1 rfl, z_upn (by omega), z_upn (by omega)]
        refine ⟨?_, ?_, ?_, ?_, ?_, ?_, ?_, ?_, ?_, ?_⟩
        case refine_4 =>
          rw [z_ups]
          unfold zb_fo
          rw [z_ups]
        all_goals
          rw [og _ _ _ _ (by decide), eo1 _ (by decide)]
          assumption
      · intro q q1 q2
        rw [eo1 40 (by decide), z_upn (by omega)]
        have w := d' q q1 q2
        unfold zb_fo
        rw [z_upn (q := 336) (by decide), z_upi (M := G) (q := 336) (b := c) (fun w => ne w.symm) rfl]
        by_cases x1 : q = c
        · rw [x1, z_ups, if_pos (by omega), z_ups]
        · rw [z_upi x1 rfl, z_upi (q := 336) x1 rfl]
          by_cases x2 : q = a
          · rw [x2, z_ups, if_pos (by omega), z_ups]
          · rw [z_upi x2 rfl, z_upi (q := 336) x2 rfl]
            exact w
      · unfold zgL at l' ⊢
        rw [o _ _ _ _ (by omega) (by omega), eo1 39 (by decide), eo1 38 (by decide)]
        exact l'
    · have eo : ∀ q, q ≠ 321 → q ≠ 336 → zb_fo G a c q = G q := fun q w1 w2 => by unfold zb_fo; rw [z_upn w1, z_upn w2, z_upn w2]
      have eo1 : ∀ j, j ≠ 41 → zb_fo G a c 321 j = G 321 j := fun j w => by unfold zb_fo; rw [z_upi w rfl, z_upn (by decide), z_upn (by decide)]
      have e41 : zb_fo G a c 321 41 = G 321 41 + 1 := by unfold zb_fo; rw [z_ups]
      obtain ⟨z1, z2, z3, z4, ⟨z5, z6, z7⟩, z8⟩ := hz
      unfold zg_z
      rw [eo1 36 (by decide), eo1 37 (by decide), eo1 40 (by decide), eo1 17 (by decide), eo1 20 (by decide), eo1 39 (by decide), e41, eo 323 (by decide) (by decide), eo 335 (by decide) (by decide)]
      exact ⟨z1, z2, z3, z4, ⟨z5, ⟨by omega, by omega⟩, z7⟩, z8⟩
end
