/-! THE CLASS READS LINES: grass, flock -/
set_option maxRecDepth 20000 in
theorem gX5_grassBody_0 {xs : List Int} {d : Nat} {M : z_M} {P : Option z_V → z_L → z_M → Prop} (hg1 : z_gor M (M 33 3))
    (l1 : wp xs d mX5_number 0 [(2, 33), (0, 0), (0, (z_w ((M (M 33 3) 10) - 1))), (3, 0)] [] z_LL M (fun r L1 M1 => wp xs (d + 1) mX5_grassBody 14 [(2, 33), (3, 0), (3, 0), (3, 0)] (z_ol r ++ []) L1 M1 P)) :
    wp xs (d + 1) mX5_grassBody 0 [(2, 33), (3, 0), (3, 0), (3, 0)] [] z_LL M P := by
  refine wp_run 3 (pc' := 3) (ls' := [(2, 33), (3, 0), (3, 0), (3, 0)]) (st' := [(2, 33), (0, 0), (2, 33)]) rfl ?_
  refine wp_gf (pc' := 6) (t := 2) (v := (M 33 3)) rfl rfl (by decide) rfl rfl rfl ?_
  refine wp_gf (pc' := 9) (t := 0) (v := (M (M 33 3) 10)) rfl rfl (by decide) rfl (z_gl0 hg1) rfl ?_
  refine wp_run 2 (pc' := 11) (ls' := [(2, 33), (3, 0), (3, 0), (3, 0)]) (st' := [(0, (z_w ((M (M 33 3) 10) - 1))), (0, 0), (2, 33)]) rfl ?_
  refine wp_callv (pc' := 14) (as := [(2, 33), (0, 0), (0, (z_w ((M (M 33 3) 10) - 1)))]) (rest := []) (ls1 := [(2, 33), (0, 0), (0, (z_w ((M (M 33 3) 10) - 1))), (3, 0)]) rfl rfl rfl rfl rfl rfl ?_
  exact l1
set_option maxRecDepth 20000 in
theorem gX5_grassBody_14 {xs : List Int} {d : Nat} {M : z_M} {P : Option z_V → z_L → z_M → Prop} {s0 : Int} (hF : z_fix M) (hg1 : z_gor M (M 33 3))
    (l1 : ((M 30 3) ≠ 25) → wp xs d mX5_grassBody 78 [(2, 33), (0, s0), (3, 0), (3, 0)] [] z_LL M P)
    (l2 : (¬ ((M 30 3) ≠ 25)) → ((M (M 33 3) 11) ≤ (M 30 5)) → wp xs d mX5_grassBody 78 [(2, 33), (0, s0), (3, 0), (3, 0)] [] z_LL M P)
    (b1 : (¬ ((M 30 3) ≠ 25)) → (¬ ((M (M 33 3) 11) ≤ (M 30 5))) → 0 ≤ (z_w ((z_w ((M 30 5) * (M (M 33 3) 10))) + s0)) ∧ (z_w ((z_w ((M 30 5) * (M (M 33 3) 10))) + s0)) < 25)
    (l3 : (¬ ((M 30 3) ≠ 25)) → (¬ ((M (M 33 3) 11) ≤ (M 30 5))) → ((M ((M 33 3) + 7) (z_w ((z_w ((M 30 5) * (M (M 33 3) 10))) + s0))) = (-1)) → wp xs d mX5_grassBody 78 [(2, 33), (0, s0), (3, 0), (3, 0)] [] z_LL M P)
    (l4 : (¬ ((M 30 3) ≠ 25)) → (¬ ((M (M 33 3) 11) ≤ (M 30 5))) → (¬ ((M ((M 33 3) + 7) (z_w ((z_w ((M 30 5) * (M (M 33 3) 10))) + s0))) = (-1))) → wp xs d mX5_grassBody 73 [(2, 33), (0, s0), (3, 0), (3, 0)] [] z_LL M P) :
    wp xs d mX5_grassBody 14 [(2, 33), (3, 0), (3, 0), (3, 0)] [(0, s0)] z_LL M P := by
  refine wp_run 2 (pc' := 16) (ls' := [(2, 33), (0, s0), (3, 0), (3, 0)]) (st' := [(2, 33)]) rfl ?_
  refine wp_gf (pc' := 19) (t := 2) (v := 30) rfl rfl (by decide) rfl rfl (fx_33_0 hF) ?_
  refine wp_gf (pc' := 22) (t := 0) (v := (M 30 3)) rfl rfl (by decide) rfl rfl rfl ?_
  refine wp_run 1 (pc' := 24) (ls' := [(2, 33), (0, s0), (3, 0), (3, 0)]) (st' := [(0, 25), (0, (M 30 3))]) rfl ?_
  refine wp_if2 rfl rfl rfl (fun (c1 : (M 30 3) ≠ 25) => ?_) (fun (c1 : ¬ ((M 30 3) ≠ 25)) => ?_)
  · exact l1 c1
  · refine wp_run 1 (pc' := 28) (ls' := [(2, 33), (0, s0), (3, 0), (3, 0)]) (st' := [(2, 33)]) rfl ?_
    refine wp_gf (pc' := 31) (t := 2) (v := 30) rfl rfl (by decide) rfl rfl (fx_33_0 hF) ?_
    refine wp_gf (pc' := 34) (t := 0) (v := (M 30 5)) rfl rfl (by decide) rfl rfl rfl ?_
    refine wp_run 1 (pc' := 35) (ls' := [(2, 33), (0, s0), (3, 0), (3, 0)]) (st' := [(2, 33), (0, (M 30 5))]) rfl ?_
    refine wp_gf (pc' := 38) (t := 2) (v := (M 33 3)) rfl rfl (by decide) rfl rfl rfl ?_
    refine wp_gf (pc' := 41) (t := 0) (v := (M (M 33 3) 11)) rfl rfl (by decide) rfl (z_gl0 hg1) rfl ?_
    refine wp_if2 rfl rfl rfl (fun (c2 : (M (M 33 3) 11) ≤ (M 30 5)) => ?_) (fun (c2 : ¬ ((M (M 33 3) 11) ≤ (M 30 5))) => ?_)
    · exact l2 c1 c2
    · refine wp_run 1 (pc' := 45) (ls' := [(2, 33), (0, s0), (3, 0), (3, 0)]) (st' := [(2, 33)]) rfl ?_
      refine wp_gf (pc' := 48) (t := 2) (v := (M 33 3)) rfl rfl (by decide) rfl rfl rfl ?_
      refine wp_gf (pc' := 51) (t := 2) (v := ((M 33 3) + 7)) rfl rfl (by decide) rfl (z_gl0 hg1) (z_gf6 hg1) ?_
      refine wp_run 1 (pc' := 52) (ls' := [(2, 33), (0, s0), (3, 0), (3, 0)]) (st' := [(2, 33), (2, ((M 33 3) + 7))]) rfl ?_
      refine wp_gf (pc' := 55) (t := 2) (v := 30) rfl rfl (by decide) rfl rfl (fx_33_0 hF) ?_
      refine wp_gf (pc' := 58) (t := 0) (v := (M 30 5)) rfl rfl (by decide) rfl rfl rfl ?_
      refine wp_run 1 (pc' := 59) (ls' := [(2, 33), (0, s0), (3, 0), (3, 0)]) (st' := [(2, 33), (0, (M 30 5)), (2, ((M 33 3) + 7))]) rfl ?_
      refine wp_gf (pc' := 62) (t := 2) (v := (M 33 3)) rfl rfl (by decide) rfl rfl rfl ?_
      refine wp_gf (pc' := 65) (t := 0) (v := (M (M 33 3) 10)) rfl rfl (by decide) rfl (z_gl0 hg1) rfl ?_
      refine wp_run 3 (pc' := 68) (ls' := [(2, 33), (0, s0), (3, 0), (3, 0)]) (st' := [(0, (z_w ((z_w ((M 30 5) * (M (M 33 3) 10))) + s0))), (2, ((M 33 3) + 7))]) rfl ?_
      refine wp_iald (pc' := 69) (v := (M ((M 33 3) + 7) (z_w ((z_w ((M 30 5) * (M (M 33 3) 10))) + s0)))) rfl rfl (z_gl7 hg1) (b1 c1 c2) rfl ?_
      refine wp_run 1 (pc' := 70) (ls' := [(2, 33), (0, s0), (3, 0), (3, 0)]) (st' := [(0, (-1)), (0, (M ((M 33 3) + 7) (z_w ((z_w ((M 30 5) * (M (M 33 3) 10))) + s0))))]) rfl ?_
      refine wp_if2 rfl rfl rfl (fun (c3 : (M ((M 33 3) + 7) (z_w ((z_w ((M 30 5) * (M (M 33 3) 10))) + s0))) = (-1)) => ?_) (fun (c3 : ¬ ((M ((M 33 3) + 7) (z_w ((z_w ((M 30 5) * (M (M 33 3) 10))) + s0))) = (-1))) => ?_)
      · exact l3 c1 c2 c3
      · exact l4 c1 c2 c3
set_option maxRecDepth 20000 in
theorem gX5_grassBody_73 {xs : List Int} {d : Nat} {M : z_M} {P : Option z_V → z_L → z_M → Prop} {x1 : Int} (hF : z_fix M) 
    (l1 : ((M 33 1) ≠ 0) → wp xs (d + 2) mX5_grassBody 78 [(2, 33), (0, x1), (3, 0), (3, 0)] [] z_LL M P)
    (l2 : (¬ ((M 33 1) ≠ 0)) → ((M 30 3) ≠ 27) → wp xs (d + 2) mX5_grassBody 78 [(2, 33), (0, x1), (3, 0), (3, 0)] [] z_LL (z_up (z_up M 33 1 3) 33 2 (M 30 4)) P)
    (l3 : (¬ ((M 33 1) ≠ 0)) → (¬ ((M 30 3) ≠ 27)) → wp xs (d + 2) mX5_grassBody 78 [(2, 33), (0, x1), (3, 0), (3, 0)] [] z_LL (z_up (z_up M 33 1 1) 33 2 (M 30 4)) P) :
    wp xs (d + 2) mX5_grassBody 73 [(2, 33), (0, x1), (3, 0), (3, 0)] [] z_LL M P := by
  refine wp_run 2 (pc' := 75) (ls' := [(2, 33), (0, x1), (3, 0), (3, 0)]) (st' := [(0, 3), (2, 33)]) rfl ?_
  refine wp_callv (pc' := 78) (as := [(2, 33), (0, 3)]) (rest := []) (ls1 := [(2, 33), (0, 3)]) rfl rfl rfl rfl rfl rfl ?_
  refine wp_run 1 (pc' := 1) (ls' := [(2, 33), (0, 3)]) (st' := [(2, 33)]) rfl ?_
  refine wp_callv (pc' := 4) (as := [(2, 33)]) (rest := []) (ls1 := [(2, 33)]) rfl rfl rfl rfl rfl rfl ?_
  refine wp_run 1 (pc' := 1) (ls' := [(2, 33)]) (st' := [(2, 33)]) rfl ?_
  refine wp_gf (pc' := 4) (t := 0) (v := (M 33 1)) rfl rfl (by decide) rfl rfl rfl ?_
  refine wp_if1 rfl rfl rfl (fun (c1 : (M 33 1) ≠ 0) => ?_) (fun (c1 : ¬ ((M 33 1) ≠ 0)) => ?_)
  · refine wp_run 1 (pc' := 12) (ls' := [(2, 33)]) (st' := [(0, 0)]) rfl ?_
    refine wp_ret rfl rfl ?_
    show wp xs _ mX5_fail 4 [(2, 33), (0, 3)] [(0, 0)] z_LL M _
    refine wp_run 1 (pc' := 39) (ls' := [(2, 33), (0, 3)]) (st' := []) rfl ?_
    refine wp_ret rfl rfl ?_
    show wp xs _ mX5_grassBody 78 [(2, 33), (0, x1), (3, 0), (3, 0)] [] z_LL M _
    exact l1 c1
  · refine wp_run 2 (pc' := 12) (ls' := [(2, 33)]) (st' := [(0, 1)]) rfl ?_
    refine wp_ret rfl rfl ?_
    show wp xs _ mX5_fail 4 [(2, 33), (0, 3)] [(0, 1)] z_LL M _
    refine wp_run 3 (pc' := 9) (ls' := [(2, 33), (0, 3)]) (st' := [(2, 33), (2, 33)]) rfl ?_
    refine wp_gf (pc' := 12) (t := 2) (v := 30) rfl rfl (by decide) rfl rfl (fx_33_0 hF) ?_
    refine wp_gf (pc' := 15) (t := 0) (v := (M 30 3)) rfl rfl (by decide) rfl rfl rfl ?_
    refine wp_run 1 (pc' := 17) (ls' := [(2, 33), (0, 3)]) (st' := [(0, 27), (0, (M 30 3)), (2, 33)]) rfl ?_
    refine wp_if2 rfl rfl rfl (fun (c2 : (M 30 3) ≠ 27) => ?_) (fun (c2 : ¬ ((M 30 3) ≠ 27)) => ?_)
    · refine wp_run 1 (pc' := 25) (ls' := [(2, 33), (0, 3)]) (st' := [(0, 3), (2, 33)]) rfl ?_
      refine wp_pf (pc' := 28) rfl rfl rfl rfl (fun z => absurd z (by decide)) (fun z => absurd z (by decide)) ?_
      refine wp_run 2 (pc' := 30) (ls' := [(2, 33), (0, 3)]) (st' := [(2, 33), (2, 33)]) rfl ?_
      refine wp_gf (pc' := 33) (t := 2) (v := 30) rfl rfl (by decide) rfl rfl (z_upi (by decide) (fx_33_0 hF)) ?_
      refine wp_gf (pc' := 36) (t := 0) (v := (M 30 4)) rfl rfl (by decide) rfl rfl (z_upq (by decide) rfl) ?_
      refine wp_pf (pc' := 39) rfl rfl rfl rfl (fun z => absurd z (by decide)) (fun z => absurd z (by decide)) ?_
      refine wp_ret rfl rfl ?_
      show wp xs _ mX5_grassBody 78 [(2, 33), (0, x1), (3, 0), (3, 0)] [] z_LL (z_up (z_up M 33 1 3) 33 2 (M 30 4)) _
      exact l2 c1 c2
    · refine wp_run 2 (pc' := 25) (ls' := [(2, 33), (0, 3)]) (st' := [(0, 1), (2, 33)]) rfl ?_
      refine wp_pf (pc' := 28) rfl rfl rfl rfl (fun z => absurd z (by decide)) (fun z => absurd z (by decide)) ?_
      refine wp_run 2 (pc' := 30) (ls' := [(2, 33), (0, 3)]) (st' := [(2, 33), (2, 33)]) rfl ?_
      refine wp_gf (pc' := 33) (t := 2) (v := 30) rfl rfl (by decide) rfl rfl (z_upi (by decide) (fx_33_0 hF)) ?_
      refine wp_gf (pc' := 36) (t := 0) (v := (M 30 4)) rfl rfl (by decide) rfl rfl (z_upq (by decide) rfl) ?_
      refine wp_pf (pc' := 39) rfl rfl rfl rfl (fun z => absurd z (by decide)) (fun z => absurd z (by decide)) ?_
      refine wp_ret rfl rfl ?_
      show wp xs _ mX5_grassBody 78 [(2, 33), (0, x1), (3, 0), (3, 0)] [] z_LL (z_up (z_up M 33 1 1) 33 2 (M 30 4)) _
      exact l3 c1 c2
set_option maxRecDepth 20000 in
theorem gX5_grassBody_78 {xs : List Int} {d : Nat} {M : z_M} {P : Option z_V → z_L → z_M → Prop} {x1 : Int} (hg1 : z_gor M (M 33 3))
    (l1 : wp xs d mX5_number 0 [(2, 33), (0, 0), (0, (z_w ((M (M 33 3) 11) - 1))), (3, 0)] [] z_LL M (fun r L1 M1 => wp xs (d + 1) mX5_grassBody 92 [(2, 33), (0, x1), (3, 0), (3, 0)] (z_ol r ++ []) L1 M1 P)) :
    wp xs (d + 1) mX5_grassBody 78 [(2, 33), (0, x1), (3, 0), (3, 0)] [] z_LL M P := by
  refine wp_run 3 (pc' := 81) (ls' := [(2, 33), (0, x1), (3, 0), (3, 0)]) (st' := [(2, 33), (0, 0), (2, 33)]) rfl ?_
  refine wp_gf (pc' := 84) (t := 2) (v := (M 33 3)) rfl rfl (by decide) rfl rfl rfl ?_
  refine wp_gf (pc' := 87) (t := 0) (v := (M (M 33 3) 11)) rfl rfl (by decide) rfl (z_gl0 hg1) rfl ?_
  refine wp_run 2 (pc' := 89) (ls' := [(2, 33), (0, x1), (3, 0), (3, 0)]) (st' := [(0, (z_w ((M (M 33 3) 11) - 1))), (0, 0), (2, 33)]) rfl ?_
  refine wp_callv (pc' := 92) (as := [(2, 33), (0, 0), (0, (z_w ((M (M 33 3) 11) - 1)))]) (rest := []) (ls1 := [(2, 33), (0, 0), (0, (z_w ((M (M 33 3) 11) - 1))), (3, 0)]) rfl rfl rfl rfl rfl rfl ?_
  exact l1
set_option maxRecDepth 20000 in
theorem gX5_grassBody_92 {xs : List Int} {d : Nat} {M : z_M} {P : Option z_V → z_L → z_M → Prop} {x1 : Int} {s0 : Int} 
    (l1 : wp xs d mX5_number 0 [(2, 33), (0, 0), (0, 9), (3, 0)] [] z_LL M (fun r L1 M1 => wp xs (d + 1) mX5_grassBody 100 [(2, 33), (0, x1), (0, s0), (3, 0)] (z_ol r ++ []) L1 M1 P)) :
    wp xs (d + 1) mX5_grassBody 92 [(2, 33), (0, x1), (3, 0), (3, 0)] [(0, s0)] z_LL M P := by
  refine wp_run 4 (pc' := 97) (ls' := [(2, 33), (0, x1), (0, s0), (3, 0)]) (st' := [(0, 9), (0, 0), (2, 33)]) rfl ?_
  refine wp_callv (pc' := 100) (as := [(2, 33), (0, 0), (0, 9)]) (rest := []) (ls1 := [(2, 33), (0, 0), (0, 9), (3, 0)]) rfl rfl rfl rfl rfl rfl ?_
  exact l1
set_option maxRecDepth 20000 in
theorem gX5_grassBody_100 {xs : List Int} {d : Nat} {M : z_M} {P : Option z_V → z_L → z_M → Prop} {x1 : Int} {x2 : Int} {s0 : Int} (hg1 : z_gor M (M 33 3))
    (l1 : ((M 33 1) ≠ 0) → P none z_LL M)
    (b1 : (¬ ((M 33 1) ≠ 0)) → 0 ≤ (z_w ((z_w (x2 * (M (M 33 3) 10))) + x1)) ∧ (z_w ((z_w (x2 * (M (M 33 3) 10))) + x1)) < 25)
    (l2 : (¬ ((M 33 1) ≠ 0)) → P none z_LL (z_up (z_up M ((M 33 3) + 7) (z_w ((z_w (x2 * (M (M 33 3) 10))) + x1)) s0) 33 5 (z_w ((M 33 5) + 1)))) :
    wp xs (d + 1) mX5_grassBody 100 [(2, 33), (0, x1), (0, x2), (3, 0)] [(0, s0)] z_LL M P := by
  refine wp_run 2 (pc' := 102) (ls' := [(2, 33), (0, x1), (0, x2), (0, s0)]) (st' := [(2, 33)]) rfl ?_
  refine wp_callv (pc' := 105) (as := [(2, 33)]) (rest := []) (ls1 := [(2, 33)]) rfl rfl rfl rfl rfl rfl ?_
  refine wp_run 1 (pc' := 1) (ls' := [(2, 33)]) (st' := [(2, 33)]) rfl ?_
  refine wp_gf (pc' := 4) (t := 0) (v := (M 33 1)) rfl rfl (by decide) rfl rfl rfl ?_
  refine wp_if1 rfl rfl rfl (fun (c1 : (M 33 1) ≠ 0) => ?_) (fun (c1 : ¬ ((M 33 1) ≠ 0)) => ?_)
  · refine wp_run 1 (pc' := 12) (ls' := [(2, 33)]) (st' := [(0, 0)]) rfl ?_
    refine wp_ret rfl rfl ?_
    show wp xs _ mX5_grassBody 105 [(2, 33), (0, x1), (0, x2), (0, s0)] [(0, 0)] z_LL M _
    refine wp_run 1 (pc' := 138) (ls' := [(2, 33), (0, x1), (0, x2), (0, s0)]) (st' := []) rfl ?_
    exact wp_ret rfl rfl (l1 c1)
  · refine wp_run 2 (pc' := 12) (ls' := [(2, 33)]) (st' := [(0, 1)]) rfl ?_
    refine wp_ret rfl rfl ?_
    show wp xs _ mX5_grassBody 105 [(2, 33), (0, x1), (0, x2), (0, s0)] [(0, 1)] z_LL M _
    refine wp_run 2 (pc' := 109) (ls' := [(2, 33), (0, x1), (0, x2), (0, s0)]) (st' := [(2, 33)]) rfl ?_
    refine wp_gf (pc' := 112) (t := 2) (v := (M 33 3)) rfl rfl (by decide) rfl rfl rfl ?_
    refine wp_gf (pc' := 115) (t := 2) (v := ((M 33 3) + 7)) rfl rfl (by decide) rfl (z_gl0 hg1) (z_gf6 hg1) ?_
    refine wp_run 2 (pc' := 117) (ls' := [(2, 33), (0, x1), (0, x2), (0, s0)]) (st' := [(2, 33), (0, x2), (2, ((M 33 3) + 7))]) rfl ?_
    refine wp_gf (pc' := 120) (t := 2) (v := (M 33 3)) rfl rfl (by decide) rfl rfl rfl ?_
    refine wp_gf (pc' := 123) (t := 0) (v := (M (M 33 3) 10)) rfl rfl (by decide) rfl (z_gl0 hg1) rfl ?_
    refine wp_run 4 (pc' := 127) (ls' := [(2, 33), (0, x1), (0, x2), (0, s0)]) (st' := [(0, s0), (0, (z_w ((z_w (x2 * (M (M 33 3) 10))) + x1))), (2, ((M 33 3) + 7))]) rfl ?_
    refine wp_iast (pc' := 128) rfl rfl (z_gl7 hg1) (b1 c1) ?_
    refine wp_run 2 (pc' := 130) (ls' := [(2, 33), (0, x1), (0, x2), (0, s0)]) (st' := [(2, 33), (2, 33)]) rfl ?_
    refine wp_gf (pc' := 133) (t := 0) (v := (M 33 5)) rfl rfl (by decide) rfl rfl (z_upq (by have := z_gr hg1; omega) rfl) ?_
    refine wp_run 2 (pc' := 135) (ls' := [(2, 33), (0, x1), (0, x2), (0, s0)]) (st' := [(0, (z_w ((M 33 5) + 1))), (2, 33)]) rfl ?_
    refine wp_pf (pc' := 138) rfl rfl rfl rfl (fun z => absurd z (by decide)) (fun z => absurd z (by decide)) ?_
    exact wp_ret rfl rfl (l2 c1)
set_option maxRecDepth 20000 in
theorem gX5_flockBody_0 {xs : List Int} {d : Nat} {M : z_M} {P : Option z_V → z_L → z_M → Prop} (hF : z_fix M) (hg1 : z_gor M (M 33 3))
    (l1 : ((M 30 3) = 24) → wp xs (d + 1) mX1_flockNamed 0 [(2, (M 33 3)), (1, (M 30 6)), (3, 0), (3, 0)] [] z_LL M (fun r L1 M1 => wp xs (d + 2) mX5_flockBody 36 [(2, 33), (1, (M 30 6)), (3, 0), (3, 0), (3, 0), (3, 0), (3, 0)] (z_ol r ++ []) L1 M1 P))
    (l2 : (¬ ((M 30 3) = 24)) → ((M 33 1) ≠ 0) → wp xs (d + 2) mX5_flockBody 45 [(2, 33), (1, (M 30 6)), (3, 0), (3, 0), (3, 0), (3, 0), (3, 0)] [] z_LL M P)
    (l3 : (¬ ((M 30 3) = 24)) → (¬ ((M 33 1) ≠ 0)) → ((M 30 3) ≠ 27) → wp xs (d + 2) mX5_flockBody 45 [(2, 33), (1, (M 30 6)), (3, 0), (3, 0), (3, 0), (3, 0), (3, 0)] [] z_LL (z_up (z_up M 33 1 2) 33 2 (M 30 4)) P)
    (l4 : (¬ ((M 30 3) = 24)) → (¬ ((M 33 1) ≠ 0)) → (¬ ((M 30 3) ≠ 27)) → wp xs (d + 2) mX5_flockBody 45 [(2, 33), (1, (M 30 6)), (3, 0), (3, 0), (3, 0), (3, 0), (3, 0)] [] z_LL (z_up (z_up M 33 1 1) 33 2 (M 30 4)) P) :
    wp xs (d + 2) mX5_flockBody 0 [(2, 33), (3, 0), (3, 0), (3, 0), (3, 0), (3, 0), (3, 0)] [] z_LL M P := by
  refine wp_run 1 (pc' := 1) (ls' := [(2, 33), (3, 0), (3, 0), (3, 0), (3, 0), (3, 0), (3, 0)]) (st' := [(2, 33)]) rfl ?_
  refine wp_gf (pc' := 4) (t := 2) (v := 30) rfl rfl (by decide) rfl rfl (fx_33_0 hF) ?_
  refine wp_gf (pc' := 7) (t := 1) (v := (M 30 6)) rfl rfl (by decide) rfl rfl rfl ?_
  refine wp_run 2 (pc' := 9) (ls' := [(2, 33), (1, (M 30 6)), (3, 0), (3, 0), (3, 0), (3, 0), (3, 0)]) (st' := [(2, 33)]) rfl ?_
  refine wp_gf (pc' := 12) (t := 2) (v := 30) rfl rfl (by decide) rfl rfl (fx_33_0 hF) ?_
  refine wp_gf (pc' := 15) (t := 0) (v := (M 30 3)) rfl rfl (by decide) rfl rfl rfl ?_
  refine wp_run 1 (pc' := 17) (ls' := [(2, 33), (1, (M 30 6)), (3, 0), (3, 0), (3, 0), (3, 0), (3, 0)]) (st' := [(0, 24), (0, (M 30 3))]) rfl ?_
  refine wp_if2 rfl rfl rfl (fun (c1 : (M 30 3) = 24) => ?_) (fun (c1 : ¬ ((M 30 3) = 24)) => ?_)
  · refine wp_run 1 (pc' := 29) (ls' := [(2, 33), (1, (M 30 6)), (3, 0), (3, 0), (3, 0), (3, 0), (3, 0)]) (st' := [(2, 33)]) rfl ?_
    refine wp_gf (pc' := 32) (t := 2) (v := (M 33 3)) rfl rfl (by decide) rfl rfl rfl ?_
    refine wp_run 1 (pc' := 33) (ls' := [(2, 33), (1, (M 30 6)), (3, 0), (3, 0), (3, 0), (3, 0), (3, 0)]) (st' := [(1, (M 30 6)), (2, (M 33 3))]) rfl ?_
    refine wp_callv (pc' := 36) (as := [(2, (M 33 3)), (1, (M 30 6))]) (rest := []) (ls1 := [(2, (M 33 3)), (1, (M 30 6)), (3, 0), (3, 0)]) rfl rfl rfl rfl (z_args_v rfl rfl rfl rfl (Nat.le_of_ble_eq_true rfl) rfl (by decide) (z_gl0 hg1)) rfl ?_
    exact l1 c1
  · refine wp_run 2 (pc' := 22) (ls' := [(2, 33), (1, (M 30 6)), (3, 0), (3, 0), (3, 0), (3, 0), (3, 0)]) (st' := [(0, 2), (2, 33)]) rfl ?_
    refine wp_callv (pc' := 25) (as := [(2, 33), (0, 2)]) (rest := []) (ls1 := [(2, 33), (0, 2)]) rfl rfl rfl rfl rfl rfl ?_
    refine wp_run 1 (pc' := 1) (ls' := [(2, 33), (0, 2)]) (st' := [(2, 33)]) rfl ?_
    refine wp_callv (pc' := 4) (as := [(2, 33)]) (rest := []) (ls1 := [(2, 33)]) rfl rfl rfl rfl rfl rfl ?_
    refine wp_run 1 (pc' := 1) (ls' := [(2, 33)]) (st' := [(2, 33)]) rfl ?_
    refine wp_gf (pc' := 4) (t := 0) (v := (M 33 1)) rfl rfl (by decide) rfl rfl rfl ?_
    refine wp_if1 rfl rfl rfl (fun (c2 : (M 33 1) ≠ 0) => ?_) (fun (c2 : ¬ ((M 33 1) ≠ 0)) => ?_)
    · refine wp_run 1 (pc' := 12) (ls' := [(2, 33)]) (st' := [(0, 0)]) rfl ?_
      refine wp_ret rfl rfl ?_
      show wp xs _ mX5_fail 4 [(2, 33), (0, 2)] [(0, 0)] z_LL M _
      refine wp_run 1 (pc' := 39) (ls' := [(2, 33), (0, 2)]) (st' := []) rfl ?_
      refine wp_ret rfl rfl ?_
      show wp xs _ mX5_flockBody 25 [(2, 33), (1, (M 30 6)), (3, 0), (3, 0), (3, 0), (3, 0), (3, 0)] [] z_LL M _
      refine wp_run 1 (pc' := 45) (ls' := [(2, 33), (1, (M 30 6)), (3, 0), (3, 0), (3, 0), (3, 0), (3, 0)]) (st' := []) rfl ?_
      exact l2 c1 c2
    · refine wp_run 2 (pc' := 12) (ls' := [(2, 33)]) (st' := [(0, 1)]) rfl ?_
      refine wp_ret rfl rfl ?_
      show wp xs _ mX5_fail 4 [(2, 33), (0, 2)] [(0, 1)] z_LL M _
      refine wp_run 3 (pc' := 9) (ls' := [(2, 33), (0, 2)]) (st' := [(2, 33), (2, 33)]) rfl ?_
      refine wp_gf (pc' := 12) (t := 2) (v := 30) rfl rfl (by decide) rfl rfl (fx_33_0 hF) ?_
      refine wp_gf (pc' := 15) (t := 0) (v := (M 30 3)) rfl rfl (by decide) rfl rfl rfl ?_
      refine wp_run 1 (pc' := 17) (ls' := [(2, 33), (0, 2)]) (st' := [(0, 27), (0, (M 30 3)), (2, 33)]) rfl ?_
      refine wp_if2 rfl rfl rfl (fun (c3 : (M 30 3) ≠ 27) => ?_) (fun (c3 : ¬ ((M 30 3) ≠ 27)) => ?_)
      · refine wp_run 1 (pc' := 25) (ls' := [(2, 33), (0, 2)]) (st' := [(0, 2), (2, 33)]) rfl ?_
        refine wp_pf (pc' := 28) rfl rfl rfl rfl (fun z => absurd z (by decide)) (fun z => absurd z (by decide)) ?_
        refine wp_run 2 (pc' := 30) (ls' := [(2, 33), (0, 2)]) (st' := [(2, 33), (2, 33)]) rfl ?_
        refine wp_gf (pc' := 33) (t := 2) (v := 30) rfl rfl (by decide) rfl rfl (z_upi (by decide) (fx_33_0 hF)) ?_
        refine wp_gf (pc' := 36) (t := 0) (v := (M 30 4)) rfl rfl (by decide) rfl rfl (z_upq (by decide) rfl) ?_
        refine wp_pf (pc' := 39) rfl rfl rfl rfl (fun z => absurd z (by decide)) (fun z => absurd z (by decide)) ?_
        refine wp_ret rfl rfl ?_
        show wp xs _ mX5_flockBody 25 [(2, 33), (1, (M 30 6)), (3, 0), (3, 0), (3, 0), (3, 0), (3, 0)] [] z_LL (z_up (z_up M 33 1 2) 33 2 (M 30 4)) _
        refine wp_run 1 (pc' := 45) (ls' := [(2, 33), (1, (M 30 6)), (3, 0), (3, 0), (3, 0), (3, 0), (3, 0)]) (st' := []) rfl ?_
        exact l3 c1 c2 c3
      · refine wp_run 2 (pc' := 25) (ls' := [(2, 33), (0, 2)]) (st' := [(0, 1), (2, 33)]) rfl ?_
        refine wp_pf (pc' := 28) rfl rfl rfl rfl (fun z => absurd z (by decide)) (fun z => absurd z (by decide)) ?_
        refine wp_run 2 (pc' := 30) (ls' := [(2, 33), (0, 2)]) (st' := [(2, 33), (2, 33)]) rfl ?_
        refine wp_gf (pc' := 33) (t := 2) (v := 30) rfl rfl (by decide) rfl rfl (z_upi (by decide) (fx_33_0 hF)) ?_
        refine wp_gf (pc' := 36) (t := 0) (v := (M 30 4)) rfl rfl (by decide) rfl rfl (z_upq (by decide) rfl) ?_
        refine wp_pf (pc' := 39) rfl rfl rfl rfl (fun z => absurd z (by decide)) (fun z => absurd z (by decide)) ?_
        refine wp_ret rfl rfl ?_
        show wp xs _ mX5_flockBody 25 [(2, 33), (1, (M 30 6)), (3, 0), (3, 0), (3, 0), (3, 0), (3, 0)] [] z_LL (z_up (z_up M 33 1 1) 33 2 (M 30 4)) _
        refine wp_run 1 (pc' := 45) (ls' := [(2, 33), (1, (M 30 6)), (3, 0), (3, 0), (3, 0), (3, 0), (3, 0)]) (st' := []) rfl ?_
        exact l4 c1 c2 c3
set_option maxRecDepth 20000 in
theorem gX5_flockBody_36 {xs : List Int} {d : Nat} {M : z_M} {P : Option z_V → z_L → z_M → Prop} {x1 : Int} {s0 : Int} (hF : z_fix M) 
    (l1 : (s0 = (-1)) → wp xs (d + 2) mX5_flockBody 45 [(2, 33), (1, x1), (3, 0), (3, 0), (3, 0), (3, 0), (3, 0)] [] z_LL M P)
    (l2 : (¬ (s0 = (-1))) → ((M 33 1) ≠ 0) → wp xs (d + 2) mX5_flockBody 45 [(2, 33), (1, x1), (3, 0), (3, 0), (3, 0), (3, 0), (3, 0)] [] z_LL M P)
    (l3 : (¬ (s0 = (-1))) → (¬ ((M 33 1) ≠ 0)) → ((M 30 3) ≠ 27) → wp xs (d + 2) mX5_flockBody 45 [(2, 33), (1, x1), (3, 0), (3, 0), (3, 0), (3, 0), (3, 0)] [] z_LL (z_up (z_up M 33 1 3) 33 2 (M 30 4)) P)
    (l4 : (¬ (s0 = (-1))) → (¬ ((M 33 1) ≠ 0)) → (¬ ((M 30 3) ≠ 27)) → wp xs (d + 2) mX5_flockBody 45 [(2, 33), (1, x1), (3, 0), (3, 0), (3, 0), (3, 0), (3, 0)] [] z_LL (z_up (z_up M 33 1 1) 33 2 (M 30 4)) P) :
    wp xs (d + 2) mX5_flockBody 36 [(2, 33), (1, x1), (3, 0), (3, 0), (3, 0), (3, 0), (3, 0)] [(0, s0)] z_LL M P := by
  refine wp_run 1 (pc' := 37) (ls' := [(2, 33), (1, x1), (3, 0), (3, 0), (3, 0), (3, 0), (3, 0)]) (st' := [(0, (-1)), (0, s0)]) rfl ?_
  refine wp_if2 rfl rfl rfl (fun (c1 : s0 = (-1)) => ?_) (fun (c1 : ¬ (s0 = (-1))) => ?_)
  · exact l1 c1
  · refine wp_run 2 (pc' := 42) (ls' := [(2, 33), (1, x1), (3, 0), (3, 0), (3, 0), (3, 0), (3, 0)]) (st' := [(0, 3), (2, 33)]) rfl ?_
    refine wp_callv (pc' := 45) (as := [(2, 33), (0, 3)]) (rest := []) (ls1 := [(2, 33), (0, 3)]) rfl rfl rfl rfl rfl rfl ?_
    refine wp_run 1 (pc' := 1) (ls' := [(2, 33), (0, 3)]) (st' := [(2, 33)]) rfl ?_
    refine wp_callv (pc' := 4) (as := [(2, 33)]) (rest := []) (ls1 := [(2, 33)]) rfl rfl rfl rfl rfl rfl ?_
    refine wp_run 1 (pc' := 1) (ls' := [(2, 33)]) (st' := [(2, 33)]) rfl ?_
    refine wp_gf (pc' := 4) (t := 0) (v := (M 33 1)) rfl rfl (by decide) rfl rfl rfl ?_
    refine wp_if1 rfl rfl rfl (fun (c2 : (M 33 1) ≠ 0) => ?_) (fun (c2 : ¬ ((M 33 1) ≠ 0)) => ?_)
    · refine wp_run 1 (pc' := 12) (ls' := [(2, 33)]) (st' := [(0, 0)]) rfl ?_
      refine wp_ret rfl rfl ?_
      show wp xs _ mX5_fail 4 [(2, 33), (0, 3)] [(0, 0)] z_LL M _
      refine wp_run 1 (pc' := 39) (ls' := [(2, 33), (0, 3)]) (st' := []) rfl ?_
      refine wp_ret rfl rfl ?_
      show wp xs _ mX5_flockBody 45 [(2, 33), (1, x1), (3, 0), (3, 0), (3, 0), (3, 0), (3, 0)] [] z_LL M _
      exact l2 c1 c2
    · refine wp_run 2 (pc' := 12) (ls' := [(2, 33)]) (st' := [(0, 1)]) rfl ?_
      refine wp_ret rfl rfl ?_
      show wp xs _ mX5_fail 4 [(2, 33), (0, 3)] [(0, 1)] z_LL M _
      refine wp_run 3 (pc' := 9) (ls' := [(2, 33), (0, 3)]) (st' := [(2, 33), (2, 33)]) rfl ?_
      refine wp_gf (pc' := 12) (t := 2) (v := 30) rfl rfl (by decide) rfl rfl (fx_33_0 hF) ?_
      refine wp_gf (pc' := 15) (t := 0) (v := (M 30 3)) rfl rfl (by decide) rfl rfl rfl ?_
      refine wp_run 1 (pc' := 17) (ls' := [(2, 33), (0, 3)]) (st' := [(0, 27), (0, (M 30 3)), (2, 33)]) rfl ?_
      refine wp_if2 rfl rfl rfl (fun (c3 : (M 30 3) ≠ 27) => ?_) (fun (c3 : ¬ ((M 30 3) ≠ 27)) => ?_)
      · refine wp_run 1 (pc' := 25) (ls' := [(2, 33), (0, 3)]) (st' := [(0, 3), (2, 33)]) rfl ?_
        refine wp_pf (pc' := 28) rfl rfl rfl rfl (fun z => absurd z (by decide)) (fun z => absurd z (by decide)) ?_
        refine wp_run 2 (pc' := 30) (ls' := [(2, 33), (0, 3)]) (st' := [(2, 33), (2, 33)]) rfl ?_
        refine wp_gf (pc' := 33) (t := 2) (v := 30) rfl rfl (by decide) rfl rfl (z_upi (by decide) (fx_33_0 hF)) ?_
        refine wp_gf (pc' := 36) (t := 0) (v := (M 30 4)) rfl rfl (by decide) rfl rfl (z_upq (by decide) rfl) ?_
        refine wp_pf (pc' := 39) rfl rfl rfl rfl (fun z => absurd z (by decide)) (fun z => absurd z (by decide)) ?_
        refine wp_ret rfl rfl ?_
        show wp xs _ mX5_flockBody 45 [(2, 33), (1, x1), (3, 0), (3, 0), (3, 0), (3, 0), (3, 0)] [] z_LL (z_up (z_up M 33 1 3) 33 2 (M 30 4)) _
        exact l3 c1 c2 c3
      · refine wp_run 2 (pc' := 25) (ls' := [(2, 33), (0, 3)]) (st' := [(0, 1), (2, 33)]) rfl ?_
        refine wp_pf (pc' := 28) rfl rfl rfl rfl (fun z => absurd z (by decide)) (fun z => absurd z (by decide)) ?_
        refine wp_run 2 (pc' := 30) (ls' := [(2, 33), (0, 3)]) (st' := [(2, 33), (2, 33)]) rfl ?_
        refine wp_gf (pc' := 33) (t := 2) (v := 30) rfl rfl (by decide) rfl rfl (z_upi (by decide) (fx_33_0 hF)) ?_
        refine wp_gf (pc' := 36) (t := 0) (v := (M 30 4)) rfl rfl (by decide) rfl rfl (z_upq (by decide) rfl) ?_
        refine wp_pf (pc' := 39) rfl rfl rfl rfl (fun z => absurd z (by decide)) (fun z => absurd z (by decide)) ?_
        refine wp_ret rfl rfl ?_
        show wp xs _ mX5_flockBody 45 [(2, 33), (1, x1), (3, 0), (3, 0), (3, 0), (3, 0), (3, 0)] [] z_LL (z_up (z_up M 33 1 1) 33 2 (M 30 4)) _
        exact l4 c1 c2 c3
set_option maxRecDepth 20000 in
theorem gX5_flockBody_45 {xs : List Int} {d : Nat} {M : z_M} {P : Option z_V → z_L → z_M → Prop} {x1 : Int} 
    (l1 : wp xs d mX5_need 0 [(2, 33), (0, 24)] [] z_LL M (fun r L1 M1 => wp xs (d + 1) mX5_flockBody 51 [(2, 33), (1, x1), (3, 0), (3, 0), (3, 0), (3, 0), (3, 0)] (z_ol r ++ []) L1 M1 P)) :
    wp xs (d + 1) mX5_flockBody 45 [(2, 33), (1, x1), (3, 0), (3, 0), (3, 0), (3, 0), (3, 0)] [] z_LL M P := by
  refine wp_run 2 (pc' := 48) (ls' := [(2, 33), (1, x1), (3, 0), (3, 0), (3, 0), (3, 0), (3, 0)]) (st' := [(0, 24), (2, 33)]) rfl ?_
  refine wp_callv (pc' := 51) (as := [(2, 33), (0, 24)]) (rest := []) (ls1 := [(2, 33), (0, 24)]) rfl rfl rfl rfl rfl rfl ?_
  exact l1
set_option maxRecDepth 20000 in
theorem gX5_flockBody_51 {xs : List Int} {d : Nat} {M : z_M} {P : Option z_V → z_L → z_M → Prop} {x1 : Int} (hF : z_fix M) 
    (l1 : ((M 30 3) ≠ 6) → wp xs d mX5_need 0 [(2, 33), (0, 5)] [] z_LL M (fun r L1 M1 => wp xs (d + 1) mX5_flockBody 84 [(2, 33), (1, x1), (3, 0), (0, 0), (3, 0), (3, 0), (3, 0)] (z_ol r ++ []) L1 M1 P))
    (l2 : (¬ ((M 30 3) ≠ 6)) → wp xs d mX5_need 0 [(2, 33), (0, 6)] [] z_LL M (fun r L1 M1 => wp xs (d + 1) mX5_flockBody 84 [(2, 33), (1, x1), (3, 0), (0, 1), (3, 0), (3, 0), (3, 0)] (z_ol r ++ []) L1 M1 P)) :
    wp xs (d + 1) mX5_flockBody 51 [(2, 33), (1, x1), (3, 0), (3, 0), (3, 0), (3, 0), (3, 0)] [] z_LL M P := by
  refine wp_run 1 (pc' := 52) (ls' := [(2, 33), (1, x1), (3, 0), (3, 0), (3, 0), (3, 0), (3, 0)]) (st' := [(2, 33)]) rfl ?_
  refine wp_gf (pc' := 55) (t := 2) (v := 30) rfl rfl (by decide) rfl rfl (fx_33_0 hF) ?_
  refine wp_gf (pc' := 58) (t := 0) (v := (M 30 3)) rfl rfl (by decide) rfl rfl rfl ?_
  refine wp_run 1 (pc' := 60) (ls' := [(2, 33), (1, x1), (3, 0), (3, 0), (3, 0), (3, 0), (3, 0)]) (st' := [(0, 6), (0, (M 30 3))]) rfl ?_
  refine wp_if2 rfl rfl rfl (fun (c1 : (M 30 3) ≠ 6) => ?_) (fun (c1 : ¬ ((M 30 3) ≠ 6)) => ?_)
  · refine wp_run 7 (pc' := 81) (ls' := [(2, 33), (1, x1), (3, 0), (0, 0), (3, 0), (3, 0), (3, 0)]) (st' := [(0, 5), (2, 33)]) rfl ?_
    refine wp_callv (pc' := 84) (as := [(2, 33), (0, 5)]) (rest := []) (ls1 := [(2, 33), (0, 5)]) rfl rfl rfl rfl rfl rfl ?_
    exact l1 c1
  · refine wp_run 9 (pc' := 81) (ls' := [(2, 33), (1, x1), (3, 0), (0, 1), (3, 0), (3, 0), (3, 0)]) (st' := [(0, 6), (2, 33)]) rfl ?_
    refine wp_callv (pc' := 84) (as := [(2, 33), (0, 6)]) (rest := []) (ls1 := [(2, 33), (0, 6)]) rfl rfl rfl rfl rfl rfl ?_
    exact l2 c1
set_option maxRecDepth 20000 in
theorem gX5_flockBody_84 {xs : List Int} {d : Nat} {M : z_M} {P : Option z_V → z_L → z_M → Prop} {x1 : Int} {x3 : Int} 
    (l1 : wp xs d mX5_need 0 [(2, 33), (0, 7)] [] z_LL M (fun r L1 M1 => wp xs (d + 1) mX5_flockBody 90 [(2, 33), (1, x1), (3, 0), (0, x3), (3, 0), (3, 0), (3, 0)] (z_ol r ++ []) L1 M1 P)) :
    wp xs (d + 1) mX5_flockBody 84 [(2, 33), (1, x1), (3, 0), (0, x3), (3, 0), (3, 0), (3, 0)] [] z_LL M P := by
  refine wp_run 2 (pc' := 87) (ls' := [(2, 33), (1, x1), (3, 0), (0, x3), (3, 0), (3, 0), (3, 0)]) (st' := [(0, 7), (2, 33)]) rfl ?_
  refine wp_callv (pc' := 90) (as := [(2, 33), (0, 7)]) (rest := []) (ls1 := [(2, 33), (0, 7)]) rfl rfl rfl rfl rfl rfl ?_
  exact l1
set_option maxRecDepth 20000 in
theorem gX5_flockBody_90 {xs : List Int} {d : Nat} {M : z_M} {P : Option z_V → z_L → z_M → Prop} {x1 : Int} {x3 : Int} (hg1 : z_gor M (M 33 3))
    (l1 : wp xs d mX5_number 0 [(2, 33), (0, 0), (0, (z_w ((M (M 33 3) 10) - 1))), (3, 0)] [] z_LL M (fun r L1 M1 => wp xs (d + 1) mX5_flockBody 104 [(2, 33), (1, x1), (3, 0), (0, x3), (3, 0), (3, 0), (3, 0)] (z_ol r ++ []) L1 M1 P)) :
    wp xs (d + 1) mX5_flockBody 90 [(2, 33), (1, x1), (3, 0), (0, x3), (3, 0), (3, 0), (3, 0)] [] z_LL M P := by
  refine wp_run 3 (pc' := 93) (ls' := [(2, 33), (1, x1), (3, 0), (0, x3), (3, 0), (3, 0), (3, 0)]) (st' := [(2, 33), (0, 0), (2, 33)]) rfl ?_
  refine wp_gf (pc' := 96) (t := 2) (v := (M 33 3)) rfl rfl (by decide) rfl rfl rfl ?_
  refine wp_gf (pc' := 99) (t := 0) (v := (M (M 33 3) 10)) rfl rfl (by decide) rfl (z_gl0 hg1) rfl ?_
  refine wp_run 2 (pc' := 101) (ls' := [(2, 33), (1, x1), (3, 0), (0, x3), (3, 0), (3, 0), (3, 0)]) (st' := [(0, (z_w ((M (M 33 3) 10) - 1))), (0, 0), (2, 33)]) rfl ?_
  refine wp_callv (pc' := 104) (as := [(2, 33), (0, 0), (0, (z_w ((M (M 33 3) 10) - 1)))]) (rest := []) (ls1 := [(2, 33), (0, 0), (0, (z_w ((M (M 33 3) 10) - 1))), (3, 0)]) rfl rfl rfl rfl rfl rfl ?_
  exact l1
set_option maxRecDepth 20000 in
theorem gX5_flockBody_104 {xs : List Int} {d : Nat} {M : z_M} {P : Option z_V → z_L → z_M → Prop} {x1 : Int} {x3 : Int} {s0 : Int} (hg1 : z_gor M (M 33 3))
    (l1 : wp xs d mX5_number 0 [(2, 33), (0, 0), (0, (z_w ((M (M 33 3) 11) - 1))), (3, 0)] [] z_LL M (fun r L1 M1 => wp xs (d + 1) mX5_flockBody 120 [(2, 33), (1, x1), (3, 0), (0, x3), (0, s0), (3, 0), (3, 0)] (z_ol r ++ []) L1 M1 P)) :
    wp xs (d + 1) mX5_flockBody 104 [(2, 33), (1, x1), (3, 0), (0, x3), (3, 0), (3, 0), (3, 0)] [(0, s0)] z_LL M P := by
  refine wp_run 4 (pc' := 109) (ls' := [(2, 33), (1, x1), (3, 0), (0, x3), (0, s0), (3, 0), (3, 0)]) (st' := [(2, 33), (0, 0), (2, 33)]) rfl ?_
  refine wp_gf (pc' := 112) (t := 2) (v := (M 33 3)) rfl rfl (by decide) rfl rfl rfl ?_
  refine wp_gf (pc' := 115) (t := 0) (v := (M (M 33 3) 11)) rfl rfl (by decide) rfl (z_gl0 hg1) rfl ?_
  refine wp_run 2 (pc' := 117) (ls' := [(2, 33), (1, x1), (3, 0), (0, x3), (0, s0), (3, 0), (3, 0)]) (st' := [(0, (z_w ((M (M 33 3) 11) - 1))), (0, 0), (2, 33)]) rfl ?_
  refine wp_callv (pc' := 120) (as := [(2, 33), (0, 0), (0, (z_w ((M (M 33 3) 11) - 1)))]) (rest := []) (ls1 := [(2, 33), (0, 0), (0, (z_w ((M (M 33 3) 11) - 1))), (3, 0)]) rfl rfl rfl rfl rfl rfl ?_
  exact l1
set_option maxRecDepth 20000 in
theorem gX5_flockBody_120 {xs : List Int} {d : Nat} {M : z_M} {P : Option z_V → z_L → z_M → Prop} {x1 : Int} {x3 : Int} {x4 : Int} {s0 : Int} 
    (l1 : wp xs d mX5_need 0 [(2, 33), (0, 8)] [] z_LL M (fun r L1 M1 => wp xs (d + 1) mX5_flockBody 128 [(2, 33), (1, x1), (3, 0), (0, x3), (0, x4), (0, s0), (3, 0)] (z_ol r ++ []) L1 M1 P)) :
    wp xs (d + 1) mX5_flockBody 120 [(2, 33), (1, x1), (3, 0), (0, x3), (0, x4), (3, 0), (3, 0)] [(0, s0)] z_LL M P := by
  refine wp_run 3 (pc' := 125) (ls' := [(2, 33), (1, x1), (3, 0), (0, x3), (0, x4), (0, s0), (3, 0)]) (st' := [(0, 8), (2, 33)]) rfl ?_
  refine wp_callv (pc' := 128) (as := [(2, 33), (0, 8)]) (rest := []) (ls1 := [(2, 33), (0, 8)]) rfl rfl rfl rfl rfl rfl ?_
  exact l1
set_option maxRecDepth 20000 in
theorem gX5_flockBody_128 {xs : List Int} {d : Nat} {M : z_M} {P : Option z_V → z_L → z_M → Prop} {x1 : Int} {x3 : Int} {x4 : Int} {x5 : Int} 
    (l1 : wp xs d mX5_number 0 [(2, 33), (0, 1), (0, 9), (3, 0)] [] z_LL M (fun r L1 M1 => wp xs (d + 1) mX5_flockBody 135 [(2, 33), (1, x1), (3, 0), (0, x3), (0, x4), (0, x5), (3, 0)] (z_ol r ++ []) L1 M1 P)) :
    wp xs (d + 1) mX5_flockBody 128 [(2, 33), (1, x1), (3, 0), (0, x3), (0, x4), (0, x5), (3, 0)] [] z_LL M P := by
  refine wp_run 3 (pc' := 132) (ls' := [(2, 33), (1, x1), (3, 0), (0, x3), (0, x4), (0, x5), (3, 0)]) (st' := [(0, 9), (0, 1), (2, 33)]) rfl ?_
  refine wp_callv (pc' := 135) (as := [(2, 33), (0, 1), (0, 9)]) (rest := []) (ls1 := [(2, 33), (0, 1), (0, 9), (3, 0)]) rfl rfl rfl rfl rfl rfl ?_
  exact l1
set_option maxRecDepth 20000 in
theorem gX5_flockBody_135 {xs : List Int} {d : Nat} {M : z_M} {P : Option z_V → z_L → z_M → Prop} {x1 : Int} {x3 : Int} {x4 : Int} {x5 : Int} {s0 : Int} (hg1 : z_gor M (M 33 3))
    (l1 : ((M 33 1) ≠ 0) → P none z_LL M)
    (l2 : (¬ ((M 33 1) ≠ 0)) → (6 ≤ (M (M 33 3) 12)) → P none z_LL M)
    (b1 : (¬ ((M 33 1) ≠ 0)) → (¬ (6 ≤ (M (M 33 3) 12))) → 0 ≤ (M (M 33 3) 12) ∧ (M (M 33 3) 12) < 6)
    (l3 : (¬ ((M 33 1) ≠ 0)) → (¬ (6 ≤ (M (M 33 3) 12))) → P none z_LL (z_up (z_up (z_up (z_up (z_up M ((M 33 3) + 1) (M (M 33 3) 12) x1) ((M 33 3) + 2) (M (M 33 3) 12) x3) ((M 33 3) + 4) (M (M 33 3) 12) (z_w ((z_w (x5 * (M (M 33 3) 10))) + x4))) ((M 33 3) + 3) (M (M 33 3) 12) s0) (M 33 3) 12 (z_w ((M (M 33 3) 12) + 1)))) :
    wp xs (d + 1) mX5_flockBody 135 [(2, 33), (1, x1), (3, 0), (0, x3), (0, x4), (0, x5), (3, 0)] [(0, s0)] z_LL M P := by
  refine wp_run 2 (pc' := 138) (ls' := [(2, 33), (1, x1), (3, 0), (0, x3), (0, x4), (0, x5), (0, s0)]) (st' := [(2, 33)]) rfl ?_
  refine wp_callv (pc' := 141) (as := [(2, 33)]) (rest := []) (ls1 := [(2, 33)]) rfl rfl rfl rfl rfl rfl ?_
  refine wp_run 1 (pc' := 1) (ls' := [(2, 33)]) (st' := [(2, 33)]) rfl ?_
  refine wp_gf (pc' := 4) (t := 0) (v := (M 33 1)) rfl rfl (by decide) rfl rfl rfl ?_
  refine wp_if1 rfl rfl rfl (fun (c1 : (M 33 1) ≠ 0) => ?_) (fun (c1 : ¬ ((M 33 1) ≠ 0)) => ?_)
  · refine wp_run 1 (pc' := 12) (ls' := [(2, 33)]) (st' := [(0, 0)]) rfl ?_
    refine wp_ret rfl rfl ?_
    show wp xs _ mX5_flockBody 141 [(2, 33), (1, x1), (3, 0), (0, x3), (0, x4), (0, x5), (0, s0)] [(0, 0)] z_LL M _
    refine wp_run 1 (pc' := 168) (ls' := [(2, 33), (1, x1), (3, 0), (0, x3), (0, x4), (0, x5), (0, s0)]) (st' := []) rfl ?_
    exact wp_ret rfl rfl (l1 c1)
  · refine wp_run 2 (pc' := 12) (ls' := [(2, 33)]) (st' := [(0, 1)]) rfl ?_
    refine wp_ret rfl rfl ?_
    show wp xs _ mX5_flockBody 141 [(2, 33), (1, x1), (3, 0), (0, x3), (0, x4), (0, x5), (0, s0)] [(0, 1)] z_LL M _
    refine wp_run 2 (pc' := 145) (ls' := [(2, 33), (1, x1), (3, 0), (0, x3), (0, x4), (0, x5), (0, s0)]) (st' := [(2, 33)]) rfl ?_
    refine wp_gf (pc' := 148) (t := 2) (v := (M 33 3)) rfl rfl (by decide) rfl rfl rfl ?_
    refine wp_run 4 (pc' := 153) (ls' := [(2, 33), (1, x1), (3, 0), (0, x3), (0, x4), (0, x5), (0, s0)]) (st' := [(2, 33), (0, x5), (0, x3), (1, x1), (2, (M 33 3))]) rfl ?_
    refine wp_gf (pc' := 156) (t := 2) (v := (M 33 3)) rfl rfl (by decide) rfl rfl rfl ?_
    refine wp_gf (pc' := 159) (t := 0) (v := (M (M 33 3) 10)) rfl rfl (by decide) rfl (z_gl0 hg1) rfl ?_
    refine wp_run 4 (pc' := 165) (ls' := [(2, 33), (1, x1), (3, 0), (0, x3), (0, x4), (0, x5), (0, s0)]) (st' := [(0, s0), (0, (z_w ((z_w (x5 * (M (M 33 3) 10))) + x4))), (0, x3), (1, x1), (2, (M 33 3))]) rfl ?_
    refine wp_callv (pc' := 168) (as := [(2, (M 33 3)), (1, x1), (0, x3), (0, (z_w ((z_w (x5 * (M (M 33 3) 10))) + x4))), (0, s0)]) (rest := []) (ls1 := [(2, (M 33 3)), (1, x1), (3, 0), (0, x3), (0, (z_w ((z_w (x5 * (M (M 33 3) 10))) + x4))), (0, s0)]) rfl rfl rfl rfl (z_args_v rfl rfl rfl rfl (Nat.le_of_ble_eq_true rfl) rfl (by decide) (z_gl0 hg1)) rfl ?_
    refine wp_run 1 (pc' := 1) (ls' := [(2, (M 33 3)), (1, x1), (3, 0), (0, x3), (0, (z_w ((z_w (x5 * (M (M 33 3) 10))) + x4))), (0, s0)]) (st' := [(2, (M 33 3))]) rfl ?_
    refine wp_gf (pc' := 4) (t := 0) (v := (M (M 33 3) 12)) rfl rfl (by decide) rfl (z_gl0 hg1) rfl ?_
    refine wp_run 1 (pc' := 6) (ls' := [(2, (M 33 3)), (1, x1), (3, 0), (0, x3), (0, (z_w ((z_w (x5 * (M (M 33 3) 10))) + x4))), (0, s0)]) (st' := [(0, 6), (0, (M (M 33 3) 12))]) rfl ?_
    refine wp_if2 rfl rfl rfl (fun (c2 : 6 ≤ (M (M 33 3) 12)) => ?_) (fun (c2 : ¬ (6 ≤ (M (M 33 3) 12))) => ?_)
    · refine wp_ret rfl rfl ?_
      show wp xs _ mX5_flockBody 168 [(2, 33), (1, x1), (3, 0), (0, x3), (0, x4), (0, x5), (0, s0)] [] z_LL M _
      exact wp_ret rfl rfl (l2 c1 c2)
    · refine wp_run 1 (pc' := 10) (ls' := [(2, (M 33 3)), (1, x1), (3, 0), (0, x3), (0, (z_w ((z_w (x5 * (M (M 33 3) 10))) + x4))), (0, s0)]) (st' := [(2, (M 33 3))]) rfl ?_
      refine wp_gf (pc' := 13) (t := 2) (v := ((M 33 3) + 1)) rfl rfl (by decide) rfl (z_gl0 hg1) (z_gf0 hg1) ?_
      refine wp_run 1 (pc' := 14) (ls' := [(2, (M 33 3)), (1, x1), (3, 0), (0, x3), (0, (z_w ((z_w (x5 * (M (M 33 3) 10))) + x4))), (0, s0)]) (st' := [(2, (M 33 3)), (2, ((M 33 3) + 1))]) rfl ?_
      refine wp_gf (pc' := 17) (t := 0) (v := (M (M 33 3) 12)) rfl rfl (by decide) rfl (z_gl0 hg1) rfl ?_
      refine wp_run 1 (pc' := 18) (ls' := [(2, (M 33 3)), (1, x1), (3, 0), (0, x3), (0, (z_w ((z_w (x5 * (M (M 33 3) 10))) + x4))), (0, s0)]) (st' := [(1, x1), (0, (M (M 33 3) 12)), (2, ((M 33 3) + 1))]) rfl ?_
      refine wp_last (pc' := 19) rfl rfl (z_gl1 hg1) (b1 c1 c2) ?_
      refine wp_run 1 (pc' := 20) (ls' := [(2, (M 33 3)), (1, x1), (3, 0), (0, x3), (0, (z_w ((z_w (x5 * (M (M 33 3) 10))) + x4))), (0, s0)]) (st' := [(2, (M 33 3))]) rfl ?_
      refine wp_gf (pc' := 23) (t := 2) (v := ((M 33 3) + 2)) rfl rfl (by decide) rfl (z_gl0 hg1) (z_upq (by have := z_gr hg1; have := z_gr hg1; omega) (z_gf1 hg1)) ?_
      refine wp_run 1 (pc' := 24) (ls' := [(2, (M 33 3)), (1, x1), (3, 0), (0, x3), (0, (z_w ((z_w (x5 * (M (M 33 3) 10))) + x4))), (0, s0)]) (st' := [(2, (M 33 3)), (2, ((M 33 3) + 2))]) rfl ?_
      refine wp_gf (pc' := 27) (t := 0) (v := (M (M 33 3) 12)) rfl rfl (by decide) rfl (z_gl0 hg1) (z_upq (by have := z_gr hg1; have := z_gr hg1; omega) rfl) ?_
      refine wp_run 1 (pc' := 28) (ls' := [(2, (M 33 3)), (1, x1), (3, 0), (0, x3), (0, (z_w ((z_w (x5 * (M (M 33 3) 10))) + x4))), (0, s0)]) (st' := [(0, x3), (0, (M (M 33 3) 12)), (2, ((M 33 3) + 2))]) rfl ?_
      refine wp_iast (pc' := 29) rfl rfl (z_gl2 hg1) (b1 c1 c2) ?_
      refine wp_run 1 (pc' := 30) (ls' := [(2, (M 33 3)), (1, x1), (3, 0), (0, x3), (0, (z_w ((z_w (x5 * (M (M 33 3) 10))) + x4))), (0, s0)]) (st' := [(2, (M 33 3))]) rfl ?_
      refine wp_gf (pc' := 33) (t := 2) (v := ((M 33 3) + 4)) rfl rfl (by decide) rfl (z_gl0 hg1) (z_upq (by have := z_gr hg1; have := z_gr hg1; omega) (z_upq (by have := z_gr hg1; have := z_gr hg1; omega) (z_gf3 hg1))) ?_
      refine wp_run 1 (pc' := 34) (ls' := [(2, (M 33 3)), (1, x1), (3, 0), (0, x3), (0, (z_w ((z_w (x5 * (M (M 33 3) 10))) + x4))), (0, s0)]) (st' := [(2, (M 33 3)), (2, ((M 33 3) + 4))]) rfl ?_
      refine wp_gf (pc' := 37) (t := 0) (v := (M (M 33 3) 12)) rfl rfl (by decide) rfl (z_gl0 hg1) (z_upq (by have := z_gr hg1; have := z_gr hg1; omega) (z_upq (by have := z_gr hg1; have := z_gr hg1; omega) rfl)) ?_
      refine wp_run 1 (pc' := 39) (ls' := [(2, (M 33 3)), (1, x1), (3, 0), (0, x3), (0, (z_w ((z_w (x5 * (M (M 33 3) 10))) + x4))), (0, s0)]) (st' := [(0, (z_w ((z_w (x5 * (M (M 33 3) 10))) + x4))), (0, (M (M 33 3) 12)), (2, ((M 33 3) + 4))]) rfl ?_
      refine wp_iast (pc' := 40) rfl rfl (z_gl4 hg1) (b1 c1 c2) ?_
      refine wp_run 1 (pc' := 41) (ls' := [(2, (M 33 3)), (1, x1), (3, 0), (0, x3), (0, (z_w ((z_w (x5 * (M (M 33 3) 10))) + x4))), (0, s0)]) (st' := [(2, (M 33 3))]) rfl ?_
      refine wp_gf (pc' := 44) (t := 2) (v := ((M 33 3) + 3)) rfl rfl (by decide) rfl (z_gl0 hg1) (z_upq (by have := z_gr hg1; have := z_gr hg1; omega) (z_upq (by have := z_gr hg1; have := z_gr hg1; omega) (z_upq (by have := z_gr hg1; have := z_gr hg1; omega) (z_gf2 hg1)))) ?_
      refine wp_run 1 (pc' := 45) (ls' := [(2, (M 33 3)), (1, x1), (3, 0), (0, x3), (0, (z_w ((z_w (x5 * (M (M 33 3) 10))) + x4))), (0, s0)]) (st' := [(2, (M 33 3)), (2, ((M 33 3) + 3))]) rfl ?_
      refine wp_gf (pc' := 48) (t := 0) (v := (M (M 33 3) 12)) rfl rfl (by decide) rfl (z_gl0 hg1) (z_upq (by have := z_gr hg1; have := z_gr hg1; omega) (z_upq (by have := z_gr hg1; have := z_gr hg1; omega) (z_upq (by have := z_gr hg1; have := z_gr hg1; omega) rfl))) ?_
      refine wp_run 1 (pc' := 50) (ls' := [(2, (M 33 3)), (1, x1), (3, 0), (0, x3), (0, (z_w ((z_w (x5 * (M (M 33 3) 10))) + x4))), (0, s0)]) (st' := [(0, s0), (0, (M (M 33 3) 12)), (2, ((M 33 3) + 3))]) rfl ?_
      refine wp_iast (pc' := 51) rfl rfl (z_gl3 hg1) (b1 c1 c2) ?_
      refine wp_run 2 (pc' := 53) (ls' := [(2, (M 33 3)), (1, x1), (3, 0), (0, x3), (0, (z_w ((z_w (x5 * (M (M 33 3) 10))) + x4))), (0, s0)]) (st' := [(2, (M 33 3)), (2, (M 33 3))]) rfl ?_
      refine wp_gf (pc' := 56) (t := 0) (v := (M (M 33 3) 12)) rfl rfl (by decide) rfl (z_gl0 hg1) (z_upq (by have := z_gr hg1; have := z_gr hg1; omega) (z_upq (by have := z_gr hg1; have := z_gr hg1; omega) (z_upq (by have := z_gr hg1; have := z_gr hg1; omega) (z_upq (by have := z_gr hg1; have := z_gr hg1; omega) rfl)))) ?_
      refine wp_run 2 (pc' := 58) (ls' := [(2, (M 33 3)), (1, x1), (3, 0), (0, x3), (0, (z_w ((z_w (x5 * (M (M 33 3) 10))) + x4))), (0, s0)]) (st' := [(0, (z_w ((M (M 33 3) 12) + 1))), (2, (M 33 3))]) rfl ?_
      refine wp_pf (pc' := 61) rfl rfl rfl (z_gl0 hg1) (fun z => absurd z (by decide)) (fun z => absurd z (by decide)) ?_
      refine wp_ret rfl rfl ?_
      show wp xs _ mX5_flockBody 168 [(2, 33), (1, x1), (3, 0), (0, x3), (0, x4), (0, x5), (0, s0)] [] z_LL (z_up (z_up (z_up (z_up (z_up M ((M 33 3) + 1) (M (M 33 3) 12) x1) ((M 33 3) + 2) (M (M 33 3) 12) x3) ((M 33 3) + 4) (M (M 33 3) 12) (z_w ((z_w (x5 * (M (M 33 3) 10))) + x4))) ((M 33 3) + 3) (M (M 33 3) 12) s0) (M 33 3) 12 (z_w ((M (M 33 3) 12) + 1))) _
      exact wp_ret rfl rfl (l3 c1 c2)
noncomputable def zs_k (b : Int → Int) (n : Int) (σ : zs_S) : Int := match σ with
  | .ok p => zt_k b n p
  | .error _ => 26
def zb_gC (b : Int → Int) (n : Int) (σ : zs_S) (G : z_M) : Prop := zs_k b n (zs_nm b n 0 (G 321 36 - 1) σ) = 25 ∧ zs_v b n (zs_nm b n 0 (G 321 36 - 1) σ) < G 321 37 ∧ G 331 (zs_v b n (zs_nm b n 0 (G 321 36 - 1) σ) * G 321 36 + zs_v b n σ) ≠ -1
noncomputable def zb_g2 (b : Int → Int) (n : Int) (σ : zs_S) (G : z_M) : zs_S := zs_ck b n (zb_gC b n σ G) (zs_nm b n 0 (G 321 36 - 1) σ)
noncomputable def zb_g3 (b : Int → Int) (n : Int) (σ : zs_S) (G : z_M) : zs_S := zs_nm b n 0 (G 321 37 - 1) (zb_g2 b n σ G)
noncomputable def zb_grass (b : Int → Int) (n : Int) (σ : zs_S) (G : z_M) : zs_S × z_M := (zs_nm b n 0 9 (zb_g3 b n σ G), z_up (z_up G 331 (zs_v b n (zb_g2 b n σ G) * G 321 36 + zs_v b n σ) (zs_v b n (zb_g3 b n σ G))) 321 39 (G 321 39 + 1))
/-- a new name -/
noncomputable def zb_f1 (b : Int → Int) (n p : Int) (G : z_M) : zs_S := if zt_k b n p = 24 then (if zn_f (G 323) (z_c8 (zt_l b n p)) (G 321 40).toNat < 0 then .ok p else .error (3, zt_s b n p)) else .error (zs_f b n p 2)
noncomputable def zb_f2 (b : Int → Int) (n p : Int) (G : z_M) : zs_S := zs_nd b n 24 (zb_f1 b n p G)
noncomputable def zb_fs (b : Int → Int) (n p : Int) (G : z_M) : Int := if zs_k b n (zb_f2 b n p G) = 6 then 1 else 0
noncomputable def zb_f3 (b : Int → Int) (n p : Int) (G : z_M) : zs_S := zs_nd b n (if zs_k b n (zb_f2 b n p G) = 6 then 6 else 5) (zb_f2 b n p G)
noncomputable def zb_f4 (b : Int → Int) (n p : Int) (G : z_M) : zs_S := zs_nd b n 7 (zb_f3 b n p G)
noncomputable def zb_f5 (b : Int → Int) (n p : Int) (G : z_M) : zs_S := zs_nm b n 0 (G 321 36 - 1) (zb_f4 b n p G)
noncomputable def zb_f6 (b : Int → Int) (n p : Int) (G : z_M) : zs_S := zs_nm b n 0 (G 321 37 - 1) (zb_f5 b n p G)
noncomputable def zb_f7 (b : Int → Int) (n p : Int) (G : z_M) : zs_S := zs_nd b n 8 (zb_f6 b n p G)
/-- a flock more -/
def zb_fk (G : z_M) (w s h z : Int) : z_M := z_up (fun a i => if a = 335 ∧ 6 * G 321 40 ≤ i ∧ i < 6 * G 321 40 + 6 then -1 else z_up (z_up (z_up (z_up (z_up G 323 (G 321 40) w) 332 (G 321 40) s) 333 (G 321 40) h) 334 (G 321 40) z) 336 (G 321 40) 0 a i) 321 40 (G 321 40 + 1)
noncomputable def zb_flock (b : Int → Int) (n p : Int) (G : z_M) : zs_S × z_M := (zs_nm b n 1 9 (zb_f7 b n p G), zb_fk G (z_c8 (zt_l b n p)) (zb_fs b n p G) (zs_v b n (zb_f5 b n p G) * G 321 36 + zs_v b n (zb_f4 b n p G)) (zs_v b n (zb_f7 b n p G)))
theorem zb_ix {c r v u : Int} (hc : 2 ≤ c ∧ c ≤ 5) (hr : 2 ≤ r ∧ r ≤ 5) (hv : 0 ≤ v ∧ v ≤ r - 1) (hu : 0 ≤ u ∧ u ≤ c - 1) : (0 ≤ v * c ∧ v * c ≤ 20) ∧ 0 ≤ v * c + u ∧ v * c + u < 25 ∧ v * c + u < c * r := by
  have h : c = 2 ∨ c = 3 ∨ c = 4 ∨ c = 5 := by omega
  rcases h with rfl | rfl | rfl | rfl <;> omega
theorem zb_fk_r {G : z_M} {w s h z : Int} : (∀ q, q ≠ 321 → q ≠ 323 → q ≠ 332 → q ≠ 333 → q ≠ 334 → q ≠ 335 → q ≠ 336 → zb_fk G w s h z q = G q) ∧ (∀ j, j ≠ 40 → zb_fk G w s h z 321 j = G 321 j) ∧ zb_fk G w s h z 321 40 = G 321 40 + 1 ∧ (∀ k, k ≠ G 321 40 → zb_fk G w s h z 323 k = G 323 k ∧ zb_fk G w s h z 332 k = G 332 k ∧ zb_fk G w s h z 333 k = G 333 k ∧ zb_fk G w s h z 334 k = G 334 k ∧ zb_fk G w s h z 336 k = G 336 k) ∧ (zb_fk G w s h z 323 (G 321 40) = w ∧ zb_fk G w s h z 332 (G 321 40) = s ∧ zb_fk G w s h z 333 (G 321 40) = h ∧ zb_fk G w s h z 334 (G 321 40) = z ∧ zb_fk G w s h z 336 (G 321 40) = 0) ∧ ∀ i, zb_fk G w s h z 335 i = if 6 * G 321 40 ≤ i ∧ i < 6 * G 321 40 + 6 then -1 else G 335 i := by
  have e : ∀ q i, q ≠ 321 → q ≠ 335 → zb_fk G w s h z q i = z_up (z_up (z_up (z_up (z_up G 323 (G 321 40) w) 332 (G 321 40) s) 333 (G 321 40) h) 334 (G 321 40) z) 336 (G 321 40) 0 q i := fun q i h1 h2 => by
    unfold zb_fk
    rw [z_upn h1]
    exact if_neg (fun c => h2 c.1)
  refine ⟨fun q h1 h2 h3 h4 h5 h6 h7 => ?_, fun j hj => ?_, ?_, fun k hk => ?_, ?_, fun i => ?_⟩
  · funext i
    rw [e q i h1 h6, z_upn h7, z_upn h5, z_upn h4, z_upn h3, z_upn h2]
  · unfold zb_fk
    rw [z_upi hj rfl]
    show (if (321 : Int) = 335 ∧ _ then _ else _) = _
    rw [if_neg (fun c => absurd c.1 (by decide)), z_upn (by decide), z_upn (by decide), z_upn (by decide), z_upn (by decide), z_upn (by decide)]
  · unfold zb_fk
    rw [z_ups]
  · refine ⟨?_, ?_, ?_, ?_, ?_⟩
    · rw [e 323 k (by decide) (by decide), z_upn (by decide), z_upn (by decide), z_upn (by decide), z_upn (by decide), z_upi hk rfl]
    · rw [e 332 k (by decide) (by decide), z_upn (by decide), z_upn (by decide), z_upn (by decide), z_upi hk rfl, z_upn (by decide)]
    · rw [e 333 k (by decide) (by decide), z_upn (by decide), z_upn (by decide), z_upi hk rfl, z_upn (by decide), z_upn (by decide)]
    · rw [e 334 k (by decide) (by decide), z_upn (by decide), z_upi hk rfl, z_upn (by decide), z_upn (by decide), z_upn (by decide)]
    · rw [e 336 k (by decide) (by decide), z_upi hk rfl, z_upn (by decide), z_upn (by decide), z_upn (by decide), z_upn (by decide)]
  · refine ⟨?_, ?_, ?_, ?_, ?_⟩
    · rw [e 323 _ (by decide) (by decide), z_upn (by decide), z_upn (by decide), z_upn (by decide), z_upn (by decide), z_ups]
    · rw [e 332 _ (by decide) (by decide), z_upn (by decide), z_upn (by decide), z_upn (by decide), z_ups]
    · rw [e 333 _ (by decide) (by decide), z_upn (by decide), z_upn (by decide), z_ups]
    · rw [e 334 _ (by decide) (by decide), z_upn (by decide), z_ups]
    · rw [e 336 _ (by decide) (by decide), z_ups]
  · unfold zb_fk
    rw [z_upn (by decide)]
    by_cases c : 6 * G 321 40 ≤ i ∧ i < 6 * G 321 40 + 6
    · rw [if_pos c]
      exact if_pos ⟨rfl, c⟩
    · rw [if_neg c]
      refine (if_neg (fun w => c w.2)).trans ?_
      rw [z_upn (by decide), z_upn (by decide), z_upn (by decide), z_upn (by decide), z_upn (by decide)]
section
variable {xs : List Int} {d : Nat} {M G : z_M} {b : Int → Int} {n g p : Int} {σ : zs_S}
/-- the tape stands somewhere, whatever is wrong -/
theorem zs_c_k (h : zs_c M b n σ) : (M 30 3 = 25 → 0 ≤ M 30 5 ∧ M 30 5 ≤ 9999) ∧ ∀ q, σ = .ok q → M 30 3 = zs_k b n σ ∧ (zs_k b n σ = 25 → M 30 5 = zs_v b n σ) := by
  obtain ⟨h1, h2, h3, p', h4, h5, h6⟩ := h
  refine ⟨fun w => ?_, fun q hq => ?_⟩
  · have w2 : zt_k b n p' = 25 := by rw [← h5.1]; exact w
    rw [h5.2.2.2.1 w2]
    exact zt_k_n w2 h4
  · obtain rfl := h6 q hq
    subst hq
    exact ⟨h5.1, h5.2.2.2.1⟩
theorem k_grassBody {P : Option z_V → z_L → z_M → Prop} (hF : z_fix M) (hc : zs_c M b n σ) (hg : zg_c M g G) (hz : zg_z G) (h39 : G 321 39 < 8) (k : ∀ M' : z_M, zl_f g M M' → zk b n g M' (zb_grass b n σ G) → P none z_LL M') : wp xs (d + 8) mX5_grassBody 0 [(2, 33), (3, 0), (3, 0), (3, 0)] [] z_LL M P := by
  have hs := z_gsep hg.2.1
  obtain ⟨z1, z2, z3, z4, ⟨z5, z6, z7⟩, z8⟩ := id hz
  have g0 := gX5_grassBody_0 (M := M) (xs := xs) (d := d + 7) (P := P) (by rw [hg.1]; exact hg.2.1)
  rw [hg.1, hg.2.2.1.1, z_wid (x := G 321 36 - 1) (by omega)] at g0
  refine g0 (s_X5_number (d := d + 1) hF hc (by omega) (fun v1 M1 f1 c1 b1 e1 => ?_))
  have g1 := zg_c_g hg f1
  have l1 := zl_f_g (g := g) f1
  have F1 := zl_f_F l1 hs hF
  have tail : ∀ M2 : z_M, zs_g M1 M2 → zs_c M2 b n (zb_g2 b n σ G) → wp xs (d + 8) mX5_grassBody 78 [(2, 33), (0, v1), (3, 0), (3, 0)] [] z_LL M2 P := fun M2 f2 c2 => by
    have g2 := zg_c_g g1 f2
    have l2 := zl_f_t l1 (zl_f_g f2)
    have t0 := gX5_grassBody_78 (M := M2) (xs := xs) (d := d + 7) (P := P) (x1 := v1) (by rw [g2.1]; exact g2.2.1)
    rw [g2.1, g2.2.2.1.2.1, z_wid (x := G 321 37 - 1) (by omega)] at t0
    refine t0 (s_X5_number (d := d + 1) (zl_f_F l2 hs hF) c2 (by omega) (fun v3 M3 f3 c3 b3 e3 => ?_))
    have g3 := zg_c_g g2 f3
    have l3 := zl_f_t l2 (zl_f_g f3)
    refine gX5_grassBody_92 (d := d + 7) (s_X5_number (d := d + 1) (zl_f_F l3 hs hF) c3 (by decide) (fun v4 M4 f4 c4 b4 e4 => ?_))
    have g4 := zg_c_g g3 f4
    have l4 := zl_f_t l3 (zl_f_g f4)
    have ix := zb_ix z1 z2 b3 b1
    have t1 := gX5_grassBody_100 (M := M4) (xs := xs) (d := d + 7) (P := P) (x1 := v1) (x2 := v3) (s0 := v4) (by rw [g4.1]; exact g4.2.1)
    rw [g4.1, g4.2.2.1.1, z_wid (x := v3 * G 321 36) (by omega), z_wid (x := v3 * G 321 36 + v1) (by omega)] at t1
    change zs_c M4 b n (zb_grass b n σ G).1 at c4
    cases h : (zb_grass b n σ G).1 with
    | error e =>
      rw [h] at c4
      have n4 := zs_c_e c4
      exact t1 (fun _ => k M4 l4 ⟨by rw [h]; exact c4, G, g4, hz, fun p hp => by rw [h] at hp; cases hp⟩) (fun w => absurd n4 w) (fun w => absurd n4 w)
    | ok p4 =>
      obtain ⟨⟨p3, h3⟩, -⟩ := zs_nm_k h
      obtain ⟨⟨p2, h2⟩, -⟩ := zs_nm_k h3
      have h1 := (zs_ck_k h2).1
      have v1e := e1 _ h1
      have v3e := e3 p3 h3
      have v4e := e4 p4 h
      rw [h] at c4
      have n4 := (zs_c_o c4).1
      have e5 : M4 33 5 = G 321 39 := g4.2.2.2.2.2.2.2.2.2.2.1
      rw [e5, z_wid (x := G 321 39 + 1) (by omega)] at t1
      refine t1 (fun w => absurd n4 w) (fun _ => ix.2.1 |> fun a => ⟨a, ix.2.2.1⟩) (fun _ => k _ (zl_f_t l4 (zl_f_t (zl_f_u hs (by omega)) (zl_f_v (by decide)))) ⟨by rw [h]; exact zs_c_u (by decide) (by decide) (zs_c_u (by omega) (by omega) c4), z_up (z_up G 331 (v3 * G 321 36 + v1) v4) 321 39 (G 321 39 + 1), ?_, ?_, fun p hp => by rw [v1e, v3e, v4e]; rfl⟩)
      · have o : ∀ q, q ≠ 33 → q ≠ g + 7 → z_up (z_up M4 (g + 7) (v3 * G 321 36 + v1) v4) 33 5 (G 321 39 + 1) q = M4 q := fun q w1 w2 => by rw [z_upn w1, z_upn w2]
        have o3 : ∀ j, j ≠ 5 → z_up (z_up M4 (g + 7) (v3 * G 321 36 + v1) v4) 33 5 (G 321 39 + 1) 33 j = M4 33 j := fun j w1 => by rw [z_upi w1 rfl, z_upn (by omega)]
        have r1 : ∀ q, q ≠ 321 → q ≠ 331 → z_up (z_up G 331 (v3 * G 321 36 + v1) v4) 321 39 (G 321 39 + 1) q = G q := fun q w1 w2 => by rw [z_upn w1, z_upn w2]
        have r2 : ∀ j, j ≠ 39 → z_up (z_up G 331 (v3 * G 321 36 + v1) v4) 321 39 (G 321 39 + 1) 321 j = G 321 j := fun j w1 => by rw [z_upi w1 rfl, z_upn (by decide)]
        obtain ⟨h1, h2, a, b, c, d, e, i, y, kk, l⟩ := g4
        refine ⟨by rw [o3 3 (by decide)]; exact h1, z_gor_q (o _ (by omega) (by omega)) h2, ?_, zgN_q (o _ (by omega) (by omega)) (r2 40 (by decide)) (r1 323 (by decide) (by decide)) b, zgF_q ⟨o _ (by omega) (by omega), o _ (by omega) (by omega), o _ (by omega) (by omega)⟩ (r2 40 (by decide)) ⟨r1 332 (by decide) (by decide), r1 333 (by decide) (by decide), r1 334 (by decide) (by decide)⟩ c, zgE_q (o _ (by omega) (by omega)) (r2 40 (by decide)) (r1 336 (by decide) (by decide)) d, zgW_q (o _ (by omega) (by omega)) (r2 40 (by decide)) (r1 335 (by decide) (by decide)) e, ?_, zgT_q (o _ (by omega) (by omega)) (r2 17 (by decide)) ⟨r1 324 (by decide) (by decide), r1 325 (by decide) (by decide)⟩ y, zgB_q (o3 4 (by decide)) (fun q w1 w2 => r2 q (by omega)) kk, ?_⟩
        · unfold zgA at a ⊢
          rw [o g (by omega) (by omega), r2 36 (by decide), r2 37 (by decide), r2 40 (by decide), r2 41 (by decide), r2 20 (by decide), r2 17 (by decide), r2 42 (by decide), r2 43 (by decide), r2 44 (by decide), r2 45 (by decide)]
          exact a
        · intro x x1 x2
          rw [z_upn (q := g + 7) (by omega), z_upn (q := 331) (by decide)]
          by_cases w : x = v3 * G 321 36 + v1
          · rw [w, z_ups, z_ups]
          · rw [z_upi w rfl, z_upi w rfl]
            exact i x x1 x2
        · unfold zgL at l ⊢
          rw [z_ups, o3 6 (by decide), r2 38 (by decide), z_ups]
          exact ⟨rfl, l.2⟩
      · have r1 : ∀ q, q ≠ 321 → q ≠ 331 → z_up (z_up G 331 (v3 * G 321 36 + v1) v4) 321 39 (G 321 39 + 1) q = G q := fun q w1 w2 => by rw [z_upn w1, z_upn w2]
        have r2 : ∀ j, j ≠ 39 → z_up (z_up G 331 (v3 * G 321 36 + v1) v4) 321 39 (G 321 39 + 1) 321 j = G 321 j := fun j w1 => by rw [z_upi w1 rfl, z_upn (by decide)]
        unfold zg_z
        rw [r2 36 (by decide), r2 37 (by decide), r2 40 (by decide), r2 17 (by decide), r2 20 (by decide), r2 41 (by decide), r1 323 (by decide) (by decide), r1 335 (by decide) (by decide), z_ups]
        exact ⟨z1, z2, z3, z4, ⟨z5, z6, by omega⟩, z8⟩
  have ck := zs_c_k c1
  have t2 := gX5_grassBody_14 (M := M1) (xs := xs) (d := d + 8) (P := P) (s0 := v1) F1 (by rw [g1.1]; exact g1.2.1)
  rw [g1.1, g1.2.2.1.1, g1.2.2.1.2.1] at t2
  have er : ∀ e, zs_nm b n 0 (G 321 36 - 1) σ = .error e → zb_g2 b n σ G = .error e := fun e he => by
    unfold zb_g2
    rw [he]
    rfl
  have nC : ∀ q, zs_nm b n 0 (G 321 36 - 1) σ = .ok q → ¬ zb_gC b n σ G → zb_g2 b n σ G = .ok q := fun q hq hn => by
    unfold zb_g2
    rw [hq]
    exact if_neg hn
  have keep : (¬ zb_gC b n σ G) → wp xs (d + 8) mX5_grassBody 78 [(2, 33), (0, v1), (3, 0), (3, 0)] [] z_LL M1 P := fun hn => tail M1 zs_g_r (by
    cases h : zs_nm b n 0 (G 321 36 - 1) σ with
    | error e =>
      rw [h] at c1
      rw [er e h]
      exact c1
    | ok q =>
      rw [h] at c1
      rw [nC q h hn]
      exact c1)
  have keepE : ∀ e, zs_nm b n 0 (G 321 36 - 1) σ = .error e → ¬ zb_gC b n σ G := fun e he w => by
    have := w.1
    rw [he] at this
    exact absurd (show (26 : Int) = 25 from this) (by decide)
  have ix : M1 30 3 = 25 → ¬ G 321 37 ≤ M1 30 5 → z_w (z_w (M1 30 5 * G 321 36) + v1) = M1 30 5 * G 321 36 + v1 ∧ 0 ≤ M1 30 5 * G 321 36 + v1 ∧ M1 30 5 * G 321 36 + v1 < 25 := fun w1 w2 => by
    have w3 := ck.1 w1
    have := zb_ix (v := M1 30 5) (u := v1) z1 z2 (by omega) b1
    rw [z_wid (x := M1 30 5 * G 321 36) (by omega), z_wid (by omega)]
    exact ⟨rfl, this.2.1, this.2.2.1⟩
  have eqv : ∀ q, zs_nm b n 0 (G 321 36 - 1) σ = .ok q → (zb_gC b n σ G ↔ M1 30 3 = 25 ∧ M1 30 5 < G 321 37 ∧ G 331 (M1 30 5 * G 321 36 + v1) ≠ -1) := fun q hq => by
    have w := ck.2 q hq
    unfold zb_gC
    rw [← w.1, e1 q hq]
    constructor
    · intro h
      rw [w.2 (by rw [← w.1]; exact h.1)]
      exact h
    · intro h
      rw [w.2 (by rw [← w.1]; exact h.1)] at h
      exact h
  have not : ∀ C : Prop, (M1 30 3 = 25 ∧ M1 30 5 < G 321 37 ∧ G 331 (M1 30 5 * G 321 36 + v1) ≠ -1 → False) → ¬ zb_gC b n σ G := fun _ hn w => by
    cases h : zs_nm b n 0 (G 321 36 - 1) σ with
    | error e => exact keepE e h w
    | ok q => exact hn ((eqv q h).mp w)
  refine t2 (fun w => keep (not True (fun h => w h.1))) (fun _ w => keep (not True (fun h => by omega))) (fun w1 w2 => ?_) (fun w1 w2 w3 => ?_) (fun w1 w2 w3 => ?_)
  · have := ix (by omega) w2
    rw [this.1]
    exact this.2
  · have := ix (by omega) w2
    rw [this.1, g1.2.2.2.2.2.2.2.1 _ this.2.1 this.2.2] at w3
    exact keep (not True (fun h => h.2.2 w3))
  · have := ix (by omega) w2
    rw [this.1, g1.2.2.2.2.2.2.2.1 _ this.2.1 this.2.2] at w3
    refine gX5_grassBody_73 (d := d + 6) F1 (fun w => ?_) (fun w0 w => ?_) (fun w0 w => ?_)
    · cases h : zs_nm b n 0 (G 321 36 - 1) σ with
      | error e => exact keep (keepE e h)
      | ok q =>
        rw [h] at c1
        exact absurd (zs_c_o c1).1 w
    · cases h : zs_nm b n 0 (G 321 36 - 1) σ with
      | error e =>
        rw [h] at c1
        exact absurd (zs_c_e c1) w0
      | ok q =>
        have hC := (eqv q h).mpr ⟨by omega, by omega, w3⟩
        rw [h] at c1
        have wr := zs_c_w (c := 3) (v := 3) c1 (by decide) (by unfold zs_f; rw [if_neg (by rw [← (zs_c_o c1).2.1]; exact w)])
        refine tail _ wr.2 ?_
        have : zb_g2 b n σ G = .error (3, zt_s b n q) := by
          unfold zb_g2
          rw [h]
          exact if_pos hC
        rw [this]
        have e3 : zs_f b n q 3 = (3, zt_s b n q) := by
          unfold zs_f
          rw [if_neg (by rw [← (zs_c_o c1).2.1]; exact w)]
        rw [← e3]
        exact wr.1
    · omega
theorem zs_nd_error {kk : Int} {e : Int × Int} : zs_nd b n kk (.error e) = .error e := rfl
theorem k_flockBody {P : Option z_V → z_L → z_M → Prop} (hF : z_fix M) (hc : zs_c M b n (.ok p)) (hg : zg_c M g G) (hz : zg_z G) (h40 : G 321 40 < 6) (k : ∀ M' : z_M, zl_f g M M' → zk b n g M' (zb_flock b n p G) → P none z_LL M') : wp xs (d + 8) mX5_flockBody 0 [(2, 33), (3, 0), (3, 0), (3, 0), (3, 0), (3, 0), (3, 0)] [] z_LL M P := by
  have hs := z_gsep hg.2.1
  obtain ⟨z1, z2, z3, z4, z5, z6, z7⟩ := id hz
  obtain ⟨n0, n3, np, nv, nw⟩ := zs_c_o hc
  have c40 := zg_40 hz
  -- from the side on
  have tail2 : ∀ (x3 : Int) (M3 : z_M), zs_g M M3 → zs_c M3 b n (zb_f3 b n p G) → ((zb_f3 b n p G).isOk = true → x3 = zb_fs b n p G) → wp xs (d + 8) mX5_flockBody 84 [(2, 33), (1, M 30 6), (3, 0), (0, x3), (3, 0), (3, 0), (3, 0)] [] z_LL M3 P := fun x3 M3 f3 c3 e3 => by
    have g3 := zg_c_g hg f3
    have l3 := zl_f_g (g := g) f3
    refine gX5_flockBody_84 (d := d + 7) (s_X5_need (d := d + 1) (zl_f_F l3 hs hF) c3 (fun M4 f4 c4 => ?_))
    have g4 := zg_c_g g3 f4
    have l4 := zl_f_t l3 (zl_f_g f4)
    have t4 := gX5_flockBody_90 (M := M4) (xs := xs) (d := d + 7) (P := P) (x1 := M 30 6) (x3 := x3) (by rw [g4.1]; exact g4.2.1)
    rw [g4.1, g4.2.2.1.1, z_wid (x := G 321 36 - 1) (by omega)] at t4
    refine t4 (s_X5_number (d := d + 1) (zl_f_F l4 hs hF) c4 (by omega) (fun v5 M5 f5 c5 b5 e5 => ?_))
    have g5 := zg_c_g g4 f5
    have l5 := zl_f_t l4 (zl_f_g f5)
    have t5 := gX5_flockBody_104 (M := M5) (xs := xs) (d := d + 7) (P := P) (x1 := M 30 6) (x3 := x3) (s0 := v5) (by rw [g5.1]; exact g5.2.1)
    rw [g5.1, g5.2.2.1.2.1, z_wid (x := G 321 37 - 1) (by omega)] at t5
    refine t5 (s_X5_number (d := d + 1) (zl_f_F l5 hs hF) c5 (by omega) (fun v6 M6 f6 c6 b6 e6 => ?_))
    have g6 := zg_c_g g5 f6
    have l6 := zl_f_t l5 (zl_f_g f6)
    refine gX5_flockBody_120 (d := d + 7) (s_X5_need (d := d + 1) (zl_f_F l6 hs hF) c6 (fun M7 f7 c7 => ?_))
    have g7 := zg_c_g g6 f7
    have l7 := zl_f_t l6 (zl_f_g f7)
    refine gX5_flockBody_128 (d := d + 7) (s_X5_number (d := d + 1) (zl_f_F l7 hs hF) c7 (by decide) (fun v8 M8 f8 c8 b8 e8 => ?_))
    have g8 := zg_c_g g7 f8
    have l8 := zl_f_t l7 (zl_f_g f8)
    have ix := zb_ix z1 z2 b6 b5
    have e12 : M8 g 12 = G 321 40 := g8.2.2.1.2.2.1
    have t8 := gX5_flockBody_135 (M := M8) (xs := xs) (d := d + 7) (P := P) (x1 := M 30 6) (x3 := x3) (x4 := v5) (x5 := v6) (s0 := v8) (by rw [g8.1]; exact g8.2.1)
    rw [g8.1, g8.2.2.1.1, e12, z_wid (x := v6 * G 321 36) (by omega), z_wid (x := v6 * G 321 36 + v5) (by omega), z_wid (x := G 321 40 + 1) (by omega)] at t8
    change zs_c M8 b n (zb_flock b n p G).1 at c8
    cases h : (zb_flock b n p G).1 with
    | error e =>
      rw [h] at c8
      have n8 := zs_c_e c8
      exact t8 (fun _ => k M8 l8 ⟨by rw [h]; exact c8, G, g8, hz, fun p hp => by rw [h] at hp; cases hp⟩) (fun w => absurd n8 w) (fun w => absurd n8 w) (fun w => absurd n8 w)
    | ok p8 =>
      obtain ⟨⟨p7, h7⟩, -⟩ := zs_nm_k h
      obtain ⟨p6, h6⟩ := zs_nd_k h7
      obtain ⟨⟨p5, h5⟩, -⟩ := zs_nm_k h6
      obtain ⟨⟨p4, h4⟩, -⟩ := zs_nm_k h5
      obtain ⟨p3, h3⟩ := zs_nd_k h4
      obtain ⟨p2, h2⟩ := zs_nd_k h3
      obtain ⟨p1, h1⟩ := zs_nd_k h2
      have v5e : v5 = zs_v b n (zb_f4 b n p G) := e5 p5 h5
      have v6e : v6 = zs_v b n (zb_f5 b n p G) := e6 p6 h6
      have v8e : v8 = zs_v b n (zb_f7 b n p G) := e8 p8 h
      have x3e : x3 = zb_fs b n p G := e3 (by
        have h3' : zb_f3 b n p G = .ok p3 := h3
        rw [h3']
        rfl)
      have k24 : zt_k b n p = 24 := Classical.byContradiction (fun w => by
        have h1' : zb_f1 b n p G = .ok p1 := h1
        unfold zb_f1 at h1'
        rw [if_neg w] at h1'
        cases h1')
      have kw := zt_k_w (b := b) (n := n) (p := p) (by omega) np
      have new : zn_f (G 323) (z_c8 (zt_l b n p)) (G 321 40).toNat < 0 := Classical.byContradiction (fun w => by
        have h1' : zb_f1 b n p G = .ok p1 := h1
        unfold zb_f1 at h1'
        rw [if_pos k24, if_neg w] at h1'
        cases h1')
      rw [h] at c8
      have n8 := (zs_c_o c8).1
      rw [nw (by omega)] at t8 ⊢
      generalize hw : zt_l b n p = w at *
      generalize hh : v6 * G 321 36 + v5 = home at *
      obtain ⟨r1, r2, r3, r4, r5, r6⟩ := zb_fk_r (G := G) (w := z_c8 w) (s := x3) (h := home) (z := v8)
      have lend : zl_f g M8 (z_up (z_up (z_up (z_up (z_up M8 (g + 1) (G 321 40) (z_c5 w)) (g + 2) (G 321 40) x3) (g + 4) (G 321 40) home) (g + 3) (G 321 40) v8) g 12 (G 321 40 + 1)) := zl_f_t (zl_f_t (zl_f_t (zl_f_t (zl_f_u hs (by omega)) (zl_f_u hs (by omega))) (zl_f_u hs (by omega))) (zl_f_u hs (by omega))) (zl_f_u hs (by omega))
      refine t8 (fun w => absurd n8 w) (fun _ w => by omega) (fun _ _ => by omega) (fun _ _ => k _ (zl_f_t l8 lend) ⟨?_, zb_fk G (z_c8 w) x3 home v8, ?_, ?_, fun p hp => ?_⟩)
      · rw [h]
        exact zs_c_u (by omega) (by omega) (zs_c_u (by omega) (by omega) (zs_c_u (by omega) (by omega) (zs_c_u (by omega) (by omega) (zs_c_u (by omega) (by omega) c8))))
      · generalize hM : z_up (z_up (z_up (z_up (z_up M8 (g + 1) (G 321 40) (z_c5 w)) (g + 2) (G 321 40) x3) (g + 4) (G 321 40) home) (g + 3) (G 321 40) v8) g 12 (G 321 40 + 1) = M9
        have o : ∀ q, q ≠ g → q ≠ g + 1 → q ≠ g + 2 → q ≠ g + 3 → q ≠ g + 4 → M9 q = M8 q := fun q w0 w1 w2 w3 w4 => by rw [← hM, z_upn w0, z_upn w3, z_upn w4, z_upn w2, z_upn w1]
        have og : ∀ j, j ≠ 12 → M9 g j = M8 g j := fun j w0 => by rw [← hM, z_upi w0 rfl, z_upn (by omega), z_upn (by omega), z_upn (by omega), z_upn (by omega)]
        have og12 : M9 g 12 = G 321 40 + 1 := by rw [← hM, z_ups]
        have o1 : ∀ j, M9 (g + 1) j = if j = G 321 40 then z_c5 w else M8 (g + 1) j := fun j => by
          rw [← hM, z_upn (q := g + 1) (by omega), z_upn (q := g + 1) (by omega), z_upn (q := g + 1) (by omega), z_upn (q := g + 1) (by omega)]
          by_cases e : j = G 321 40
          · rw [if_pos e, e, z_ups]
          · rw [if_neg e, z_upi e rfl]
        have o2 : ∀ j, M9 (g + 2) j = if j = G 321 40 then x3 else M8 (g + 2) j := fun j => by
          rw [← hM, z_upn (q := g + 2) (by omega), z_upn (q := g + 2) (by omega), z_upn (q := g + 2) (by omega)]
          by_cases e : j = G 321 40
          · rw [if_pos e, e, z_ups]
          · rw [if_neg e, z_upi e rfl, z_upn (by omega)]
        have o4 : ∀ j, M9 (g + 4) j = if j = G 321 40 then home else M8 (g + 4) j := fun j => by
          rw [← hM, z_upn (q := g + 4) (by omega), z_upn (q := g + 4) (by omega)]
          by_cases e : j = G 321 40
          · rw [if_pos e, e, z_ups]
          · rw [if_neg e, z_upi e rfl, z_upn (by omega), z_upn (by omega)]
        have o3 : ∀ j, M9 (g + 3) j = if j = G 321 40 then v8 else M8 (g + 3) j := fun j => by
          rw [← hM, z_upn (q := g + 3) (by omega)]
          by_cases e : j = G 321 40
          · rw [if_pos e, e, z_ups]
          · rw [if_neg e, z_upi e rfl, z_upn (by omega), z_upn (by omega), z_upn (by omega)]
        clear hM t8 lend
        obtain ⟨h1, h2, a, b, c, d, e, i, y, kk, l⟩ := g8
        refine ⟨by rw [o 33 (by omega) (by omega) (by omega) (by omega) (by omega)]; exact h1, z_gor_n h2 (fun k _ _ => og k (by omega)), ?_, ?_, ?_, ?_, ?_, zgG_q (o _ (by omega) (by omega) (by omega) (by omega) (by omega)) (r1 331 (by decide) (by decide) (by decide) (by decide) (by decide) (by decide) (by decide)) i, zgT_q (o _ (by omega) (by omega) (by omega) (by omega) (by omega)) (r2 17 (by decide)) ⟨r1 324 (by decide) (by decide) (by decide) (by decide) (by decide) (by decide) (by decide), r1 325 (by decide) (by decide) (by decide) (by decide) (by decide) (by decide) (by decide)⟩ y, zgB_q (by rw [o 33 (by omega) (by omega) (by omega) (by omega) (by omega)]) (fun q w1 w2 => r2 q (by omega)) kk, ?_⟩
        · obtain ⟨a1, a2, a3, a4, a5, a6, a7, a8, a9, a10⟩ := a
          refine ⟨?_, ?_, ?_, ?_, ?_, ?_, ?_, ?_, ?_, ?_⟩
          case refine_3 => rw [og12, r3]
          all_goals
            rw [og _ (by decide), r2 _ (by decide)]
            assumption
        · intro kx hk
          rw [r3] at hk
          rw [o1]
          by_cases w0 : (kx : Int) = G 321 40
          · rw [if_pos w0, w0, r5.1]
            exact ⟨w, kw.1, rfl, rfl⟩
          · rw [if_neg w0, (r4 kx w0).1]
            exact b kx (by omega)
        · intro kx k1 k2
          rw [r3] at k2
          rw [o2, o3, o4]
          by_cases w0 : kx = G 321 40
          · rw [if_pos w0, if_pos w0, if_pos w0, w0, r5.2.1, r5.2.2.1, r5.2.2.2.1]
            exact ⟨rfl, rfl, rfl⟩
          · rw [if_neg w0, if_neg w0, if_neg w0, (r4 kx w0).2.1, (r4 kx w0).2.2.1, (r4 kx w0).2.2.2.1]
            exact c kx k1 (by omega)
        · intro kx k1 k2
          have d := d kx k1 k2
          rw [o (g + 5) (by omega) (by omega) (by omega) (by omega) (by omega), r3, d]
          by_cases w0 : kx = G 321 40
          · rw [if_neg (by omega), if_pos (by omega), w0, r5.2.2.2.2]
          · rw [(r4 kx w0).2.2.2.2]
            by_cases w1 : kx < G 321 40
            · rw [if_pos w1, if_pos (by omega)]
            · rw [if_neg w1, if_neg (by omega)]
        · intro f o' f1 f2 q1 q2
          have e := e f o' f1 f2 q1 q2
          rw [o (g + 6) (by omega) (by omega) (by omega) (by omega) (by omega), r3, r6, e]
          by_cases w0 : f < G 321 40 ∧ o' < G 321 40
          · rw [if_pos w0, if_pos (by omega), if_neg (by omega)]
          · rw [if_neg w0]
            by_cases w1 : f < G 321 40 + 1 ∧ o' < G 321 40 + 1
            · rw [if_pos w1]
              by_cases w2 : f = G 321 40
              · rw [if_pos (by omega)]
              · rw [if_neg (by omega)]
                exact (z7 f o' f1 (by omega) (by omega) q2).symm
            · rw [if_neg w1]
        · unfold zgL at l ⊢
          rw [o 33 (by omega) (by omega) (by omega) (by omega) (by omega), r2 39 (by decide), r2 38 (by decide)]
          exact l
      · unfold zg_z
        rw [r2 36 (by decide), r2 37 (by decide), r3, r2 17 (by decide), r2 20 (by decide), r2 41 (by decide), r2 39 (by decide)]
        refine ⟨z1, z2, by omega, z4, z5, fun j kx hj hk ej => ?_, fun f o' f1 f2 q1 q2 => ?_⟩
        · have nb := (zn_f_b (N := G 323) (x := z_c8 w) (G 321 40).toNat).2.2.2 new
          by_cases wj : (j : Int) = G 321 40
          · by_cases wk : (kx : Int) = G 321 40
            · omega
            · rw [wj, r5.1, (r4 kx wk).1] at ej
              exact absurd ej.symm (nb kx (by omega))
          · by_cases wk : (kx : Int) = G 321 40
            · rw [wk, r5.1, (r4 j wj).1] at ej
              exact absurd ej (nb j (by omega))
            · rw [(r4 j wj).1, (r4 kx wk).1] at ej
              exact z6 j kx (by omega) (by omega) ej
        · rw [r6]
          by_cases w0 : 6 * G 321 40 ≤ 6 * f + o' ∧ 6 * f + o' < 6 * G 321 40 + 6
          · rw [if_pos w0]
          · rw [if_neg w0]
            exact z7 f o' f1 (by omega) (by omega) q2
      · show _ = (zb_flock b n _ G).2
        unfold zb_flock
        dsimp only
        rw [hw, ← hh, ← v5e, ← v6e, ← v8e, ← x3e]
  have tail : ∀ M1 : z_M, zs_g M M1 → zs_c M1 b n (zb_f1 b n p G) → wp xs (d + 8) mX5_flockBody 45 [(2, 33), (1, M 30 6), (3, 0), (3, 0), (3, 0), (3, 0), (3, 0)] [] z_LL M1 P := fun M1 f1 c1 => by
    have l1 := zl_f_g (g := g) f1
    refine gX5_flockBody_45 (d := d + 7) (s_X5_need (d := d + 1) (zl_f_F l1 hs hF) c1 (fun M2 f2 c2 => ?_))
    have f12 := zs_g_t f1 f2
    have l2 := zl_f_g (g := g) f12
    have F2 := zl_f_F l2 hs hF
    have t2 := gX5_flockBody_51 (M := M2) (xs := xs) (d := d + 7) (P := P) (x1 := M 30 6) F2
    change zs_c M2 b n (zb_f2 b n p G) at c2
    cases h : zb_f2 b n p G with
    | error e =>
      rw [h] at c2
      have h3 : zb_f3 b n p G = .error e := by
        unfold zb_f3
        rw [h]
        rfl
      refine t2 (fun _ => s_X5_need (d := d + 1) F2 c2 (fun M3 f3 c3 => tail2 0 M3 (zs_g_t f12 f3) (by rw [h3]; exact c3) (fun w => by rw [h3] at w; cases w))) (fun _ => s_X5_need (d := d + 1) F2 c2 (fun M3 f3 c3 => tail2 1 M3 (zs_g_t f12 f3) (by rw [h3]; exact c3) (fun w => by rw [h3] at w; cases w)))
    | ok p2 =>
      have ck := (zs_c_k c2).2 p2 h
      refine t2 (fun w => s_X5_need (d := d + 1) F2 c2 (fun M3 f3 c3 => tail2 0 M3 (zs_g_t f12 f3) ?_ (fun _ => ?_))) (fun w => s_X5_need (d := d + 1) F2 c2 (fun M3 f3 c3 => tail2 1 M3 (zs_g_t f12 f3) ?_ (fun _ => ?_)))
      · unfold zb_f3
        rw [if_neg (by rw [← ck.1]; exact w)]
        exact c3
      · unfold zb_fs
        rw [if_neg (by rw [← ck.1]; exact w)]
      · unfold zb_f3
        rw [if_pos (by rw [← ck.1]; omega)]
        exact c3
      · unfold zb_fs
        rw [if_pos (by rw [← ck.1]; omega)]
  have t0 := gX5_flockBody_0 (M := M) (xs := xs) (d := d + 6) (P := P) hF (by rw [hg.1]; exact hg.2.1)
  rw [hg.1] at t0
  refine t0 (fun w => ?_) (fun _ w => absurd n0 w) (fun w1 _ w2 => ?_) (fun w1 _ w2 => ?_)
  · have k24 : zt_k b n p = 24 := by omega
    have kw := zt_k_w (b := b) (n := n) (p := p) (by omega) np
    have e6 := nw (by omega)
    have cc : wp xs (d + 7) mX1_flockNamed 0 [(2, g), (1, z_c5 (zt_l b n p)), (3, 0), (3, 0)] [] z_LL M (fun r L1 M1 => wp xs (d + 8) mX5_flockBody 36 [(2, 33), (1, M 30 6), (3, 0), (3, 0), (3, 0), (3, 0), (3, 0)] (z_ol r ++ []) L1 M1 P) := by
      refine s_X1_flockNamed hg.2.1 (zg_n hg hz c40) kw.1 ?_
      have nb := zn_f_b (N := G 323) (x := z_c8 (zt_l b n p)) (G 321 40).toNat
      refine gX5_flockBody_36 (d := d + 6) hF (fun w => tail M zs_g_r ?_) (fun _ w => absurd n0 w) (fun w1 _ w2 => ?_) (fun _ _ w2 => by omega)
      · unfold zb_f1
        rw [if_pos k24, if_pos (by omega)]
        exact hc
      · have wr := zs_c_w (c := 3) (v := 3) hc (by decide) (by unfold zs_f; rw [if_neg (by omega)])
        refine tail _ wr.2 ?_
        unfold zb_f1
        rw [if_pos k24, if_neg (by omega)]
        have e3 : zs_f b n p 3 = (3, zt_s b n p) := by
          unfold zs_f
          rw [if_neg (by omega)]
        rw [← e3]
        exact wr.1
    rw [← e6] at cc
    exact cc
  · have wr := zs_c_w (c := 2) (v := 2) hc (by decide) (by unfold zs_f; rw [if_neg (by omega)])
    refine tail _ wr.2 ?_
    unfold zb_f1
    rw [if_neg (by omega)]
    exact wr.1
  · have wr := zs_c_w (c := 2) (v := 1) hc (by decide) (by unfold zs_f; rw [if_pos (by omega)])
    refine tail _ wr.2 ?_
    unfold zb_f1
    rw [if_neg (by omega)]
    exact wr.1
end
