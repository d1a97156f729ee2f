/-! THE CALLS: feed, end; what reading leaves -/
set_option maxRecDepth 20000 in
theorem gX7_add_0 {xs : List Int} {d : Nat} {M : z_M} {P : Option z_V → z_L → z_M → Prop} {a1 : Int} 
    (l1 : wp xs d mX7_add 3 [(2, 30), (0, a1), (0, 24)] [] z_LL M P) :
    wp xs d mX7_add 0 [(2, 30), (0, a1), (3, 0)] [] z_LL M P := by
  refine wp_run 2 (pc' := 3) (ls' := [(2, 30), (0, a1), (0, 24)]) (st' := []) rfl ?_
  exact l1
set_option maxRecDepth 20000 in
theorem gX7_add_3 {xs : List Int} {d : Nat} {M : z_M} {P : Option z_V → z_L → z_M → Prop} {x1 : Int} {x2 : Int} (hF : z_fix M) 
    (l1 : (x2 < 0) → P none z_LL M)
    (l2 : (¬ (x2 < 0)) → (1600 ≤ (M 30 2)) → P none z_LL M)
    (b1 : (¬ (x2 < 0)) → (¬ (1600 ≤ (M 30 2))) → 0 ≤ (M 30 2) ∧ (M 30 2) < 1600)
    (l3 : (¬ (x2 < 0)) → (¬ (1600 ≤ (M 30 2))) → wp xs d mX7_add 3 [(2, 30), (0, x1), (0, (z_w (x2 + (-8))))] [] z_LL (z_up (z_up M 31 (M 30 2) (z_i2b (z_i2b (z_shr x1 x2)))) 30 2 (z_w ((M 30 2) + 1))) P) :
    wp xs d mX7_add 3 [(2, 30), (0, x1), (0, x2)] [] z_LL M P := by
  refine wp_run 1 (pc' := 4) (ls' := [(2, 30), (0, x1), (0, x2)]) (st' := [(0, x2)]) rfl ?_
  refine wp_if1 rfl rfl rfl (fun (c1 : x2 < 0) => ?_) (fun (c1 : ¬ (x2 < 0)) => ?_)
  · exact wp_ret rfl rfl (l1 c1)
  · refine wp_run 1 (pc' := 8) (ls' := [(2, 30), (0, x1), (0, x2)]) (st' := [(2, 30)]) rfl ?_
    refine wp_gf (pc' := 11) (t := 0) (v := (M 30 2)) rfl rfl (by decide) rfl rfl rfl ?_
    refine wp_run 1 (pc' := 12) (ls' := [(2, 30), (0, x1), (0, x2)]) (st' := [(2, 30), (0, (M 30 2))]) rfl ?_
    refine wp_gf (pc' := 15) (t := 2) (v := 31) rfl rfl (by decide) rfl rfl (fx_30_0 hF) ?_
    refine wp_len (pc' := 16) rfl rfl rfl (by decide) ?_
    refine wp_if2 rfl rfl rfl (fun (c2 : 1600 ≤ (M 30 2)) => ?_) (fun (c2 : ¬ (1600 ≤ (M 30 2))) => ?_)
    · exact wp_ret rfl rfl (l2 c1 c2)
    · refine wp_run 1 (pc' := 20) (ls' := [(2, 30), (0, x1), (0, x2)]) (st' := [(2, 30)]) rfl ?_
      refine wp_gf (pc' := 23) (t := 2) (v := 31) rfl rfl (by decide) rfl rfl (fx_30_0 hF) ?_
      refine wp_run 1 (pc' := 24) (ls' := [(2, 30), (0, x1), (0, x2)]) (st' := [(2, 30), (2, 31)]) rfl ?_
      refine wp_gf (pc' := 27) (t := 0) (v := (M 30 2)) rfl rfl (by decide) rfl rfl rfl ?_
      refine wp_run 4 (pc' := 31) (ls' := [(2, 30), (0, x1), (0, x2)]) (st' := [(0, (z_i2b (z_shr x1 x2))), (0, (M 30 2)), (2, 31)]) rfl ?_
      refine wp_bast (pc' := 32) rfl rfl rfl rfl (b1 c1 c2) ?_
      show wp xs _ mX7_add 32 [(2, 30), (0, x1), (0, x2)] [] z_LL (z_up M 31 (M 30 2) (z_i2b (z_i2b (z_shr x1 x2)))) _
      refine wp_run 2 (pc' := 34) (ls' := [(2, 30), (0, x1), (0, x2)]) (st' := [(2, 30), (2, 30)]) rfl ?_
      refine wp_gf (pc' := 37) (t := 0) (v := (M 30 2)) rfl rfl (by decide) rfl rfl (z_upq (by decide) rfl) ?_
      refine wp_run 2 (pc' := 39) (ls' := [(2, 30), (0, x1), (0, x2)]) (st' := [(0, (z_w ((M 30 2) + 1))), (2, 30)]) rfl ?_
      refine wp_pf (pc' := 42) rfl rfl rfl rfl (fun z => absurd z (by decide)) (fun z => absurd z (by decide)) ?_
      refine wp_run 2 (pc' := 3) (ls' := [(2, 30), (0, x1), (0, (z_w (x2 + (-8))))]) (st' := []) rfl ?_
      exact l3 c1 c2
set_option maxRecDepth 20000 in
theorem gX9_feed_0 {xs : List Int} {d : Nat} {M : z_M} {P : Option z_V → z_L → z_M → Prop} {a1 : Int} {a2 : Int} {a3 : Int} {a4 : Int} {a5 : Int} (hF : z_fix M) 
    (l1 : ((M 30 2) ≤ 1580) → wp xs d mX7_add 0 [(2, 30), (0, a1), (3, 0)] [] z_LL M (fun r L1 M1 => wp xs (d + 1) mX9_feed 23 [(2, 1), (0, a1), (0, a2), (0, a3), (0, a4), (0, a5)] (z_ol r ++ []) L1 M1 P))
    (l2 : (¬ ((M 30 2) ≤ 1580)) → P (some (0, (-1))) z_LL M) :
    wp xs (d + 1) mX9_feed 0 [(2, 1), (0, a1), (0, a2), (0, a3), (0, a4), (0, a5)] [] z_LL M P := by
  refine wp_run 1 (pc' := 1) (ls' := [(2, 1), (0, a1), (0, a2), (0, a3), (0, a4), (0, a5)]) (st' := [(2, 1)]) rfl ?_
  refine wp_gf (pc' := 4) (t := 2) (v := 30) rfl rfl (by decide) rfl rfl (fx_1_3 hF) ?_
  refine wp_gf (pc' := 7) (t := 0) (v := (M 30 2)) rfl rfl (by decide) rfl rfl rfl ?_
  refine wp_run 1 (pc' := 10) (ls' := [(2, 1), (0, a1), (0, a2), (0, a3), (0, a4), (0, a5)]) (st' := [(0, 1580), (0, (M 30 2))]) rfl ?_
  refine wp_if2 rfl rfl rfl (fun (c1 : (M 30 2) ≤ 1580) => ?_) (fun (c1 : ¬ ((M 30 2) ≤ 1580)) => ?_)
  · refine wp_run 1 (pc' := 16) (ls' := [(2, 1), (0, a1), (0, a2), (0, a3), (0, a4), (0, a5)]) (st' := [(2, 1)]) rfl ?_
    refine wp_gf (pc' := 19) (t := 2) (v := 30) rfl rfl (by decide) rfl rfl (fx_1_3 hF) ?_
    refine wp_run 1 (pc' := 20) (ls' := [(2, 1), (0, a1), (0, a2), (0, a3), (0, a4), (0, a5)]) (st' := [(0, a1), (2, 30)]) rfl ?_
    refine wp_callv (pc' := 23) (as := [(2, 30), (0, a1)]) (rest := []) (ls1 := [(2, 30), (0, a1), (3, 0)]) rfl rfl rfl rfl rfl rfl ?_
    exact l1 c1
  · refine wp_run 1 (pc' := 14) (ls' := [(2, 1), (0, a1), (0, a2), (0, a3), (0, a4), (0, a5)]) (st' := [(0, (-1))]) rfl ?_
    exact wp_ret rfl rfl (l2 c1)
set_option maxRecDepth 20000 in
theorem gX9_feed_23 {xs : List Int} {d : Nat} {M : z_M} {P : Option z_V → z_L → z_M → Prop} {x1 : Int} {x2 : Int} {x3 : Int} {x4 : Int} {x5 : Int} (hF : z_fix M) 
    (l1 : wp xs d mX7_add 0 [(2, 30), (0, x2), (3, 0)] [] z_LL M (fun r L1 M1 => wp xs (d + 1) mX9_feed 31 [(2, 1), (0, x1), (0, x2), (0, x3), (0, x4), (0, x5)] (z_ol r ++ []) L1 M1 P)) :
    wp xs (d + 1) mX9_feed 23 [(2, 1), (0, x1), (0, x2), (0, x3), (0, x4), (0, x5)] [] z_LL M P := by
  refine wp_run 1 (pc' := 24) (ls' := [(2, 1), (0, x1), (0, x2), (0, x3), (0, x4), (0, x5)]) (st' := [(2, 1)]) rfl ?_
  refine wp_gf (pc' := 27) (t := 2) (v := 30) rfl rfl (by decide) rfl rfl (fx_1_3 hF) ?_
  refine wp_run 1 (pc' := 28) (ls' := [(2, 1), (0, x1), (0, x2), (0, x3), (0, x4), (0, x5)]) (st' := [(0, x2), (2, 30)]) rfl ?_
  refine wp_callv (pc' := 31) (as := [(2, 30), (0, x2)]) (rest := []) (ls1 := [(2, 30), (0, x2), (3, 0)]) rfl rfl rfl rfl rfl rfl ?_
  exact l1
set_option maxRecDepth 20000 in
theorem gX9_feed_31 {xs : List Int} {d : Nat} {M : z_M} {P : Option z_V → z_L → z_M → Prop} {x1 : Int} {x2 : Int} {x3 : Int} {x4 : Int} {x5 : Int} (hF : z_fix M) 
    (l1 : wp xs d mX7_add 0 [(2, 30), (0, x3), (3, 0)] [] z_LL M (fun r L1 M1 => wp xs (d + 1) mX9_feed 39 [(2, 1), (0, x1), (0, x2), (0, x3), (0, x4), (0, x5)] (z_ol r ++ []) L1 M1 P)) :
    wp xs (d + 1) mX9_feed 31 [(2, 1), (0, x1), (0, x2), (0, x3), (0, x4), (0, x5)] [] z_LL M P := by
  refine wp_run 1 (pc' := 32) (ls' := [(2, 1), (0, x1), (0, x2), (0, x3), (0, x4), (0, x5)]) (st' := [(2, 1)]) rfl ?_
  refine wp_gf (pc' := 35) (t := 2) (v := 30) rfl rfl (by decide) rfl rfl (fx_1_3 hF) ?_
  refine wp_run 1 (pc' := 36) (ls' := [(2, 1), (0, x1), (0, x2), (0, x3), (0, x4), (0, x5)]) (st' := [(0, x3), (2, 30)]) rfl ?_
  refine wp_callv (pc' := 39) (as := [(2, 30), (0, x3)]) (rest := []) (ls1 := [(2, 30), (0, x3), (3, 0)]) rfl rfl rfl rfl rfl rfl ?_
  exact l1
set_option maxRecDepth 20000 in
theorem gX9_feed_39 {xs : List Int} {d : Nat} {M : z_M} {P : Option z_V → z_L → z_M → Prop} {x1 : Int} {x2 : Int} {x3 : Int} {x4 : Int} {x5 : Int} (hF : z_fix M) 
    (l1 : wp xs d mX7_add 0 [(2, 30), (0, x4), (3, 0)] [] z_LL M (fun r L1 M1 => wp xs (d + 1) mX9_feed 48 [(2, 1), (0, x1), (0, x2), (0, x3), (0, x4), (0, x5)] (z_ol r ++ []) L1 M1 P)) :
    wp xs (d + 1) mX9_feed 39 [(2, 1), (0, x1), (0, x2), (0, x3), (0, x4), (0, x5)] [] z_LL M P := by
  refine wp_run 1 (pc' := 40) (ls' := [(2, 1), (0, x1), (0, x2), (0, x3), (0, x4), (0, x5)]) (st' := [(2, 1)]) rfl ?_
  refine wp_gf (pc' := 43) (t := 2) (v := 30) rfl rfl (by decide) rfl rfl (fx_1_3 hF) ?_
  refine wp_run 1 (pc' := 45) (ls' := [(2, 1), (0, x1), (0, x2), (0, x3), (0, x4), (0, x5)]) (st' := [(0, x4), (2, 30)]) rfl ?_
  refine wp_callv (pc' := 48) (as := [(2, 30), (0, x4)]) (rest := []) (ls1 := [(2, 30), (0, x4), (3, 0)]) rfl rfl rfl rfl rfl rfl ?_
  exact l1
set_option maxRecDepth 20000 in
theorem gX9_feed_48 {xs : List Int} {d : Nat} {M : z_M} {P : Option z_V → z_L → z_M → Prop} {x1 : Int} {x2 : Int} {x3 : Int} {x4 : Int} {x5 : Int} (hF : z_fix M) 
    (l1 : wp xs d mX7_add 0 [(2, 30), (0, x5), (3, 0)] [] z_LL M (fun r L1 M1 => wp xs (d + 1) mX9_feed 57 [(2, 1), (0, x1), (0, x2), (0, x3), (0, x4), (0, x5)] (z_ol r ++ []) L1 M1 P)) :
    wp xs (d + 1) mX9_feed 48 [(2, 1), (0, x1), (0, x2), (0, x3), (0, x4), (0, x5)] [] z_LL M P := by
  refine wp_run 1 (pc' := 49) (ls' := [(2, 1), (0, x1), (0, x2), (0, x3), (0, x4), (0, x5)]) (st' := [(2, 1)]) rfl ?_
  refine wp_gf (pc' := 52) (t := 2) (v := 30) rfl rfl (by decide) rfl rfl (fx_1_3 hF) ?_
  refine wp_run 1 (pc' := 54) (ls' := [(2, 1), (0, x1), (0, x2), (0, x3), (0, x4), (0, x5)]) (st' := [(0, x5), (2, 30)]) rfl ?_
  refine wp_callv (pc' := 57) (as := [(2, 30), (0, x5)]) (rest := []) (ls1 := [(2, 30), (0, x5), (3, 0)]) rfl rfl rfl rfl rfl rfl ?_
  exact l1
set_option maxRecDepth 20000 in
theorem gX9_feed_57 {xs : List Int} {d : Nat} {M : z_M} {P : Option z_V → z_L → z_M → Prop} {x1 : Int} {x2 : Int} {x3 : Int} {x4 : Int} {x5 : Int} (hF : z_fix M) 
    (l1 : P (some (0, (M 30 2))) z_LL M) :
    wp xs d mX9_feed 57 [(2, 1), (0, x1), (0, x2), (0, x3), (0, x4), (0, x5)] [] z_LL M P := by
  refine wp_run 1 (pc' := 58) (ls' := [(2, 1), (0, x1), (0, x2), (0, x3), (0, x4), (0, x5)]) (st' := [(2, 1)]) rfl ?_
  refine wp_gf (pc' := 61) (t := 2) (v := 30) rfl rfl (by decide) rfl rfl (fx_1_3 hF) ?_
  refine wp_gf (pc' := 64) (t := 0) (v := (M 30 2)) rfl rfl (by decide) rfl rfl rfl ?_
  exact wp_ret rfl rfl (l1)
set_option maxRecDepth 20000 in
theorem gX9_end_0 {xs : List Int} {d : Nat} {M : z_M} {P : Option z_V → z_L → z_M → Prop} {a1 : Int} (hF : z_fix M) 
    (l1 : (a1 < 0) → P (some (0, (-1))) z_LL M)
    (l2 : (¬ (a1 < 0)) → (a1 ≤ (M 30 2)) → P (some (0, a1)) z_LL (z_up M 30 2 a1))
    (l3 : (¬ (a1 < 0)) → (¬ (a1 ≤ (M 30 2))) → P (some (0, (-1))) z_LL M) :
    wp xs d mX9_end 0 [(2, 1), (0, a1)] [] z_LL M P := by
  refine wp_run 1 (pc' := 1) (ls' := [(2, 1), (0, a1)]) (st' := [(0, a1)]) rfl ?_
  refine wp_if1 rfl rfl rfl (fun (c1 : a1 < 0) => ?_) (fun (c1 : ¬ (a1 < 0)) => ?_)
  · refine wp_run 1 (pc' := 16) (ls' := [(2, 1), (0, a1)]) (st' := [(0, (-1))]) rfl ?_
    exact wp_ret rfl rfl (l1 c1)
  · refine wp_run 2 (pc' := 6) (ls' := [(2, 1), (0, a1)]) (st' := [(2, 1), (0, a1)]) rfl ?_
    refine wp_gf (pc' := 9) (t := 2) (v := 30) rfl rfl (by decide) rfl rfl (fx_1_3 hF) ?_
    refine wp_gf (pc' := 12) (t := 0) (v := (M 30 2)) rfl rfl (by decide) rfl rfl rfl ?_
    refine wp_if2 rfl rfl rfl (fun (c2 : a1 ≤ (M 30 2)) => ?_) (fun (c2 : ¬ (a1 ≤ (M 30 2))) => ?_)
    · refine wp_run 1 (pc' := 18) (ls' := [(2, 1), (0, a1)]) (st' := [(2, 1)]) rfl ?_
      refine wp_gf (pc' := 21) (t := 2) (v := 30) rfl rfl (by decide) rfl rfl (fx_1_3 hF) ?_
      refine wp_run 1 (pc' := 22) (ls' := [(2, 1), (0, a1)]) (st' := [(0, a1), (2, 30)]) rfl ?_
      refine wp_pf (pc' := 25) rfl rfl rfl rfl (fun z => absurd z (by decide)) (fun z => absurd z (by decide)) ?_
      refine wp_run 1 (pc' := 26) (ls' := [(2, 1), (0, a1)]) (st' := [(0, a1)]) rfl ?_
      exact wp_ret rfl rfl (l2 c1 c2)
    · refine wp_run 1 (pc' := 16) (ls' := [(2, 1), (0, a1)]) (st' := [(0, (-1))]) rfl ?_
      exact wp_ret rfl rfl (l3 c1 c2)
set_option maxRecDepth 20000 in
theorem gX10_feed_0 {xs : List Int} {d : Nat} {M : z_M} {P : Option z_V → z_L → z_M → Prop} {a1 : Int} {a2 : Int} {a3 : Int} {a4 : Int} {a5 : Int} 
    (l1 : ((z_w ((M 321 1) + 20)) ≤ 1600) → wp xs d mX10_four 0 [(2, 321), (0, a1), (3, 0)] [] z_LL M (fun r L1 M1 => wp xs (d + 1) mX10_feed 20 [(2, 321), (0, a1), (0, a2), (0, a3), (0, a4), (0, a5)] (z_ol r ++ []) L1 M1 P))
    (l2 : (¬ ((z_w ((M 321 1) + 20)) ≤ 1600)) → P (some (0, (-1))) z_LL M) :
    wp xs (d + 1) mX10_feed 0 [(2, 321), (0, a1), (0, a2), (0, a3), (0, a4), (0, a5)] [] z_LL M P := by
  refine wp_run 1 (pc' := 1) (ls' := [(2, 321), (0, a1), (0, a2), (0, a3), (0, a4), (0, a5)]) (st' := [(2, 321)]) rfl ?_
  refine wp_gf (pc' := 4) (t := 0) (v := (M 321 1)) rfl rfl (by decide) rfl rfl rfl ?_
  refine wp_run 3 (pc' := 10) (ls' := [(2, 321), (0, a1), (0, a2), (0, a3), (0, a4), (0, a5)]) (st' := [(0, 1600), (0, (z_w ((M 321 1) + 20)))]) rfl ?_
  refine wp_if2 rfl rfl rfl (fun (c1 : (z_w ((M 321 1) + 20)) ≤ 1600) => ?_) (fun (c1 : ¬ ((z_w ((M 321 1) + 20)) ≤ 1600)) => ?_)
  · refine wp_run 2 (pc' := 17) (ls' := [(2, 321), (0, a1), (0, a2), (0, a3), (0, a4), (0, a5)]) (st' := [(0, a1), (2, 321)]) rfl ?_
    refine wp_callv (pc' := 20) (as := [(2, 321), (0, a1)]) (rest := []) (ls1 := [(2, 321), (0, a1), (3, 0)]) rfl rfl rfl rfl rfl rfl ?_
    exact l1 c1
  · refine wp_run 1 (pc' := 14) (ls' := [(2, 321), (0, a1), (0, a2), (0, a3), (0, a4), (0, a5)]) (st' := [(0, (-1))]) rfl ?_
    exact wp_ret rfl rfl (l2 c1)
set_option maxRecDepth 20000 in
theorem gX10_feed_20 {xs : List Int} {d : Nat} {M : z_M} {P : Option z_V → z_L → z_M → Prop} {x1 : Int} {x2 : Int} {x3 : Int} {x4 : Int} {x5 : Int} 
    (l1 : wp xs d mX10_four 0 [(2, 321), (0, x2), (3, 0)] [] z_LL M (fun r L1 M1 => wp xs (d + 1) mX10_feed 25 [(2, 321), (0, x1), (0, x2), (0, x3), (0, x4), (0, x5)] (z_ol r ++ []) L1 M1 P)) :
    wp xs (d + 1) mX10_feed 20 [(2, 321), (0, x1), (0, x2), (0, x3), (0, x4), (0, x5)] [] z_LL M P := by
  refine wp_run 2 (pc' := 22) (ls' := [(2, 321), (0, x1), (0, x2), (0, x3), (0, x4), (0, x5)]) (st' := [(0, x2), (2, 321)]) rfl ?_
  refine wp_callv (pc' := 25) (as := [(2, 321), (0, x2)]) (rest := []) (ls1 := [(2, 321), (0, x2), (3, 0)]) rfl rfl rfl rfl rfl rfl ?_
  exact l1
set_option maxRecDepth 20000 in
theorem gX10_feed_25 {xs : List Int} {d : Nat} {M : z_M} {P : Option z_V → z_L → z_M → Prop} {x1 : Int} {x2 : Int} {x3 : Int} {x4 : Int} {x5 : Int} 
    (l1 : wp xs d mX10_four 0 [(2, 321), (0, x3), (3, 0)] [] z_LL M (fun r L1 M1 => wp xs (d + 1) mX10_feed 30 [(2, 321), (0, x1), (0, x2), (0, x3), (0, x4), (0, x5)] (z_ol r ++ []) L1 M1 P)) :
    wp xs (d + 1) mX10_feed 25 [(2, 321), (0, x1), (0, x2), (0, x3), (0, x4), (0, x5)] [] z_LL M P := by
  refine wp_run 2 (pc' := 27) (ls' := [(2, 321), (0, x1), (0, x2), (0, x3), (0, x4), (0, x5)]) (st' := [(0, x3), (2, 321)]) rfl ?_
  refine wp_callv (pc' := 30) (as := [(2, 321), (0, x3)]) (rest := []) (ls1 := [(2, 321), (0, x3), (3, 0)]) rfl rfl rfl rfl rfl rfl ?_
  exact l1
set_option maxRecDepth 20000 in
theorem gX10_feed_30 {xs : List Int} {d : Nat} {M : z_M} {P : Option z_V → z_L → z_M → Prop} {x1 : Int} {x2 : Int} {x3 : Int} {x4 : Int} {x5 : Int} 
    (l1 : wp xs d mX10_four 0 [(2, 321), (0, x4), (3, 0)] [] z_LL M (fun r L1 M1 => wp xs (d + 1) mX10_feed 36 [(2, 321), (0, x1), (0, x2), (0, x3), (0, x4), (0, x5)] (z_ol r ++ []) L1 M1 P)) :
    wp xs (d + 1) mX10_feed 30 [(2, 321), (0, x1), (0, x2), (0, x3), (0, x4), (0, x5)] [] z_LL M P := by
  refine wp_run 2 (pc' := 33) (ls' := [(2, 321), (0, x1), (0, x2), (0, x3), (0, x4), (0, x5)]) (st' := [(0, x4), (2, 321)]) rfl ?_
  refine wp_callv (pc' := 36) (as := [(2, 321), (0, x4)]) (rest := []) (ls1 := [(2, 321), (0, x4), (3, 0)]) rfl rfl rfl rfl rfl rfl ?_
  exact l1
set_option maxRecDepth 20000 in
theorem gX10_feed_36 {xs : List Int} {d : Nat} {M : z_M} {P : Option z_V → z_L → z_M → Prop} {x1 : Int} {x2 : Int} {x3 : Int} {x4 : Int} {x5 : Int} 
    (l1 : wp xs d mX10_four 0 [(2, 321), (0, x5), (3, 0)] [] z_LL M (fun r L1 M1 => wp xs (d + 1) mX10_feed 42 [(2, 321), (0, x1), (0, x2), (0, x3), (0, x4), (0, x5)] (z_ol r ++ []) L1 M1 P)) :
    wp xs (d + 1) mX10_feed 36 [(2, 321), (0, x1), (0, x2), (0, x3), (0, x4), (0, x5)] [] z_LL M P := by
  refine wp_run 2 (pc' := 39) (ls' := [(2, 321), (0, x1), (0, x2), (0, x3), (0, x4), (0, x5)]) (st' := [(0, x5), (2, 321)]) rfl ?_
  refine wp_callv (pc' := 42) (as := [(2, 321), (0, x5)]) (rest := []) (ls1 := [(2, 321), (0, x5), (3, 0)]) rfl rfl rfl rfl rfl rfl ?_
  exact l1
set_option maxRecDepth 20000 in
theorem gX10_feed_42 {xs : List Int} {d : Nat} {M : z_M} {P : Option z_V → z_L → z_M → Prop} {x1 : Int} {x2 : Int} {x3 : Int} {x4 : Int} {x5 : Int} 
    (l1 : P (some (0, (M 321 1))) z_LL M) :
    wp xs d mX10_feed 42 [(2, 321), (0, x1), (0, x2), (0, x3), (0, x4), (0, x5)] [] z_LL M P := by
  refine wp_run 1 (pc' := 43) (ls' := [(2, 321), (0, x1), (0, x2), (0, x3), (0, x4), (0, x5)]) (st' := [(2, 321)]) rfl ?_
  refine wp_gf (pc' := 46) (t := 0) (v := (M 321 1)) rfl rfl (by decide) rfl rfl rfl ?_
  exact wp_ret rfl rfl (l1)
set_option maxRecDepth 20000 in
theorem gX10_end_0 {xs : List Int} {d : Nat} {M : z_M} {P : Option z_V → z_L → z_M → Prop} {a1 : Int} 
    (l1 : (a1 < 0) → P (some (0, (-1))) z_LL M)
    (l2 : (¬ (a1 < 0)) → (a1 ≤ (M 321 1)) → P (some (0, a1)) z_LL (z_up M 321 1 a1))
    (l3 : (¬ (a1 < 0)) → (¬ (a1 ≤ (M 321 1))) → P (some (0, (-1))) z_LL M) :
    wp xs d mX10_end 0 [(2, 321), (0, a1)] [] z_LL M P := by
  refine wp_run 1 (pc' := 1) (ls' := [(2, 321), (0, a1)]) (st' := [(0, a1)]) rfl ?_
  refine wp_if1 rfl rfl rfl (fun (c1 : a1 < 0) => ?_) (fun (c1 : ¬ (a1 < 0)) => ?_)
  · refine wp_run 1 (pc' := 13) (ls' := [(2, 321), (0, a1)]) (st' := [(0, (-1))]) rfl ?_
    exact wp_ret rfl rfl (l1 c1)
  · refine wp_run 2 (pc' := 6) (ls' := [(2, 321), (0, a1)]) (st' := [(2, 321), (0, a1)]) rfl ?_
    refine wp_gf (pc' := 9) (t := 0) (v := (M 321 1)) rfl rfl (by decide) rfl rfl rfl ?_
    refine wp_if2 rfl rfl rfl (fun (c2 : a1 ≤ (M 321 1)) => ?_) (fun (c2 : ¬ (a1 ≤ (M 321 1))) => ?_)
    · refine wp_run 2 (pc' := 16) (ls' := [(2, 321), (0, a1)]) (st' := [(0, a1), (2, 321)]) rfl ?_
      refine wp_pf (pc' := 19) rfl rfl rfl rfl (fun z => absurd z (by decide)) (fun z => absurd z (by decide)) ?_
      refine wp_run 1 (pc' := 20) (ls' := [(2, 321), (0, a1)]) (st' := [(0, a1)]) rfl ?_
      exact wp_ret rfl rfl (l2 c1 c2)
    · refine wp_run 1 (pc' := 13) (ls' := [(2, 321), (0, a1)]) (st' := [(0, (-1))]) rfl ?_
      exact wp_ret rfl rfl (l3 c1 c2)
set_option maxRecDepth 20000 in
theorem gX10_four_0 {xs : List Int} {d : Nat} {M : z_M} {P : Option z_V → z_L → z_M → Prop} {a1 : Int} 
    (l1 : wp xs d mX10_four 3 [(2, 321), (0, a1), (0, 24)] [] z_LL M P) :
    wp xs d mX10_four 0 [(2, 321), (0, a1), (3, 0)] [] z_LL M P := by
  refine wp_run 2 (pc' := 3) (ls' := [(2, 321), (0, a1), (0, 24)]) (st' := []) rfl ?_
  exact l1
set_option maxRecDepth 20000 in
theorem gX10_four_3 {xs : List Int} {d : Nat} {M : z_M} {P : Option z_V → z_L → z_M → Prop} {x1 : Int} {x2 : Int} (hF : z_fix M) 
    (l1 : (x2 < 0) → P none z_LL M)
    (b1 : (¬ (x2 < 0)) → 0 ≤ (M 321 1) ∧ (M 321 1) < 1600)
    (l2 : (¬ (x2 < 0)) → wp xs d mX10_four 3 [(2, 321), (0, x1), (0, (z_w (x2 + (-8))))] [] z_LL (z_up (z_up M 322 (M 321 1) (z_and (z_shr x1 x2) 255)) 321 1 (z_w ((M 321 1) + 1))) P) :
    wp xs d mX10_four 3 [(2, 321), (0, x1), (0, x2)] [] z_LL M P := by
  refine wp_run 1 (pc' := 4) (ls' := [(2, 321), (0, x1), (0, x2)]) (st' := [(0, x2)]) rfl ?_
  refine wp_if1 rfl rfl rfl (fun (c1 : x2 < 0) => ?_) (fun (c1 : ¬ (x2 < 0)) => ?_)
  · exact wp_ret rfl rfl (l1 c1)
  · refine wp_run 1 (pc' := 8) (ls' := [(2, 321), (0, x1), (0, x2)]) (st' := [(2, 321)]) rfl ?_
    refine wp_gf (pc' := 11) (t := 2) (v := 322) rfl rfl (by decide) rfl rfl (fx_321_0 hF) ?_
    refine wp_run 1 (pc' := 12) (ls' := [(2, 321), (0, x1), (0, x2)]) (st' := [(2, 321), (2, 322)]) rfl ?_
    refine wp_gf (pc' := 15) (t := 0) (v := (M 321 1)) rfl rfl (by decide) rfl rfl rfl ?_
    refine wp_run 5 (pc' := 22) (ls' := [(2, 321), (0, x1), (0, x2)]) (st' := [(0, (z_and (z_shr x1 x2) 255)), (0, (M 321 1)), (2, 322)]) rfl ?_
    refine wp_iast (pc' := 23) rfl rfl rfl (b1 c1) ?_
    refine wp_run 2 (pc' := 25) (ls' := [(2, 321), (0, x1), (0, x2)]) (st' := [(2, 321), (2, 321)]) rfl ?_
    refine wp_gf (pc' := 28) (t := 0) (v := (M 321 1)) rfl rfl (by decide) rfl rfl (z_upq (by decide) rfl) ?_
    refine wp_run 2 (pc' := 30) (ls' := [(2, 321), (0, x1), (0, x2)]) (st' := [(0, (z_w ((M 321 1) + 1))), (2, 321)]) rfl ?_
    refine wp_pf (pc' := 33) rfl rfl rfl rfl (fun z => absurd z (by decide)) (fun z => absurd z (by decide)) ?_
    refine wp_run 2 (pc' := 3) (ls' := [(2, 321), (0, x1), (0, (z_w (x2 + (-8))))]) (st' := []) rfl ?_
    exact l2 c1
section
variable {xs : List Int} {d : Nat} {M : z_M}
/-- what reading may change -/
def z_rdc (M : z_M) (q : Int) : Prop := q = 30 ∨ q = 31 ∨ q = 33 ∨ (M 1 1 ≤ q ∧ q ≤ M 1 1 + 10) ∨ q = 321 ∨ (322 ≤ q ∧ q ≤ 325) ∨ q = 328 ∨ (331 ≤ q ∧ q ≤ 336)
theorem z_R_t {M' : z_M} (hR : z_R M) (f : ∀ q, ¬ z_rdc M q → M' q = M q) (F : z_fix M') (f2 : ∀ j, (j = 18 ∨ j = 21 ∨ (46 ≤ j ∧ j ≤ 52) ∨ 59 ≤ j) → M' 321 j = M 321 j) (sp : z_gor M' (M 1 1)) (t : z_Rt M') : z_R M' := by
  obtain ⟨g1, g2, g3, g4, g5, g6⟩ := z_R_Rg hR
  have G0 := z_gsep g2.1
  have G1 := z_gsep g3
  have R0 := z_gr g2.1
  have R1 := z_gr g3
  have o : ∀ q, (q = 1 ∨ 24 ≤ q) → ¬ (30 ≤ q ∧ q ≤ 31) → q ≠ 33 → ¬ (321 ≤ q ∧ q ≤ 325) → q ≠ 328 → ¬ (331 ≤ q ∧ q ≤ 336) → M' q = M q := fun q a b c e e2 e3 => f q (by unfold z_rdc; omega)
  have c : z_cfe M M' := ⟨fun k hk => f2 k (by omega), o _ (by omega) (by omega) (by omega) (by omega) (by omega) (by omega), o _ (by omega) (by omega) (by omega) (by omega) (by omega) (by omega), o _ (by omega) (by omega) (by omega) (by omega) (by omega) (by omega), o _ (by omega) (by omega) (by omega) (by omega) (by omega) (by omega), o _ (by omega) (by omega) (by omega) (by omega) (by omega) (by omega), o _ (by omega) (by omega) (by omega) (by omega) (by omega) (by omega), o _ (by omega) (by omega) (by omega) (by omega) (by omega) (by omega)⟩
  have o1 := o 1 (by omega) (by omega) (by omega) (by omega) (by omega) (by omega)
  have hk := z_hk_b (z_R_k hR)
  have og : ∀ q, M 1 0 ≤ q → q ≤ M 1 0 + 10 → M' q = M q := fun q a b => f q (by unfold z_rdc; omega)
  refine z_R_mk c hR F ⟨?_, ?_, ?_, ?_, ?_, ?_⟩ (z_Rn_q (z_R_Rn hR) c (by rw [o1]) (o _ (by omega) (by omega) (by omega) (by omega) (by omega) (by omega)) (fun q a b => o q (by omega) (by omega) (by omega) (by omega) (by omega) (by omega))) (z_Rp_q (z_R_Rp hR) c F (by rw [o1]) (o _ (by omega) (by omega) (by omega) (by omega) (by omega) (by omega)) (o _ (by omega) (by omega) (by omega) (by omega) (by omega) (by omega)) ⟨f2 _ (by omega), f2 _ (by omega)⟩ (o _ (by omega) (by omega) (by omega) (by omega) (by omega) (by omega)) (fun q h hh _ a b => by have := z_hk_b hh; exact o q (by omega) (by omega) (by omega) (by omega) (by omega) (by omega))) (z_Rb_q (z_R_Rb hR) c (by rw [o1]) (o _ (by omega) (by omega) (by omega) (by omega) (by omega) (by omega)) (o _ (by omega) (by omega) (by omega) (by omega) (by omega) (by omega)) (fun q a b => o q (by omega) (by omega) (by omega) (by omega) (by omega) (by omega))) (z_Rs_q (z_R_Rs hR) c ⟨f2 _ (by omega), f2 _ (by omega)⟩ (fun q a => o q (by omega) (by omega) (by omega) (by omega) (by omega) (by omega))) (z_Rl_q (z_R_Rl hR) (by rw [o1]) (f2 _ (by omega)) (o _ (by omega) (by omega) (by omega) (by omega) (by omega) (by omega)) (o _ (by omega) (by omega) (by omega) (by omega) (by omega) (by omega))) t (z_Rz_q (z_R_Z hR) (o _ (by omega) (by omega) (by omega) (by omega) (by omega) (by omega)) (o _ (by omega) (by omega) (by omega) (by omega) (by omega) (by omega)))
  · rw [o 34 (by omega) (by omega) (by omega) (by omega) (by omega) (by omega), o1, g1]
  · rw [o1]
    exact z_gg_x c og g2
  · rw [o1]
    exact sp
  · rw [o1]
    exact g4
  · rw [o1, og _ (by omega) (by omega), f2 49 (by omega), g5]
  · rw [o1, og _ (by omega) (by omega), f2 21 (by omega), g6]
theorem z_gor_n {M' : z_M} {g : Int} (h : z_gor M g) (e : ∀ k, 0 ≤ k → k < 10 → M' g k = M g k) : z_gor M' g := ⟨h.1, fun k a b => by rw [e k a b]; exact h.2 k a b⟩
/-- only the tape's bytes and its length have changed -/
theorem z_R_tp {M' : z_M} (hR : z_R M) (f : ∀ q, q ≠ 30 → q ≠ 31 → q ≠ 321 → q ≠ 322 → M' q = M q) (f1 : ∀ j, j ≠ 2 → M' 30 j = M 30 j) (f2 : ∀ j, j ≠ 1 → M' 321 j = M 321 j) (t : z_Rt M') : z_R M' := by
  have g3 := (z_R_Rg hR).2.2.1
  have G1 := z_gsep g3
  refine z_R_t hR (fun q hq => ?_) (z_fix_gen (z_R_F hR) (fun q i hq => ?_)) (fun j hj => f2 j (by omega)) (z_gor_q (f _ (by omega) (by omega) (by omega) (by omega)) g3) t
  · unfold z_rdc at hq
    exact f q (by omega) (by omega) (by omega) (by omega)
  · by_cases w1 : q = 321
    · rw [w1] at hq ⊢
      exact f2 i (by unfold z_fin at hq; omega)
    · by_cases w2 : q = 30
      · rw [w2] at hq ⊢
        exact f1 i (by unfold z_fin at hq; omega)
      · rw [f q w2 (by unfold z_fin at hq; omega) w1 (by unfold z_fin at hq; omega)]
theorem z_and255 {y : Int} : z_and y 255 = y % 256 := by
  unfold z_and
  show (BitVec.ofInt 32 y &&& BitVec.ofInt 32 255).toInt = _
  have h : (BitVec.ofInt 32 y &&& BitVec.ofInt 32 255).toNat = (y % 4294967296).toNat % 256 := by
    rw [BitVec.toNat_and, BitVec.toNat_ofInt]
    show ((y % ((2 ^ 32 : Nat) : Int)).toNat &&& 2 ^ 8 - 1) = _
    rw [Nat.and_two_pow_sub_one_eq_mod]
    rfl
  rw [BitVec.toInt_eq_toNat_cond, h]
  split <;> omega
theorem z_i2b_e {y : Int} : z_i2b y = (y + 128) % 256 - 128 := by
  unfold z_i2b
  rw [Int8.toInt_toInt32, Int32.toInt_toInt8, Int32.toInt_ofInt]
  show (y.bmod 4294967296).bmod 256 = _
  unfold Int.bmod
  dsimp only
  split <;> split <;> omega
theorem z_by_e {y : Int} : (0 ≤ z_and y 255 ∧ z_and y 255 < 256) ∧ z_i2b (z_i2b y) = z_by (z_and y 255) := by
  rw [z_and255, z_i2b_e, z_i2b_e]
  unfold z_by
  split <;> omega
theorem s_X7_add {P : Option z_V → z_L → z_M → Prop} {a m : Int} (hF : z_fix M) (hm : M 30 2 = m) (h : 0 ≤ m ∧ m ≤ 1596) (k : ∀ M' : z_M, (∀ q, q ≠ 30 → q ≠ 31 → M' q = M q) → (∀ j, j ≠ 2 → M' 30 j = M 30 j) → M' 30 2 = m + 4 → (∀ i, M' 31 i = if m ≤ i ∧ i < m + 4 then z_i2b (z_i2b (z_shr a (24 - 8 * (i - m)))) else M 31 i) → P none z_LL M') : wp xs d mX7_add 0 [(2, 30), (0, a), (3, 0)] [] z_LL M P := by
  refine gX7_add_0 ?_
  refine z_loop (W := fun n => ∀ M' : z_M, (∀ q, q ≠ 30 → q ≠ 31 → M' q = M q) → (∀ j, j ≠ 2 → M' 30 j = M 30 j) → M' 30 2 = m + n → (∀ i, M' 31 i = if m ≤ i ∧ i < m + n then z_i2b (z_i2b (z_shr a (24 - 8 * (i - m)))) else M 31 i) → wp xs d mX7_add 3 [(2, 30), (0, a), (0, 24 - 8 * (n : Int))] [] z_LL M' P) 4 (fun n hn ih M' f f1 e v => ?_) M (fun _ _ _ => rfl) (fun _ _ => rfl) (by rw [hm]; omega) (fun i => by rw [if_neg (by omega)])
  have F' : z_fix M' := z_fix_gen hF (fun q i hq => by
    by_cases w : q = 30
    · rw [w] at hq ⊢
      exact f1 i (by unfold z_fin at hq; omega)
    · rw [f q w (by unfold z_fin at hq; omega)])
  have g := gX7_add_3 (M := M') (xs := xs) (d := d) (P := P) (x1 := a) (x2 := 24 - 8 * (n : Int)) F'
  rw [e, z_wid (x := 24 - 8 * (n : Int) + -8) (by omega), z_wid (x := m + n + 1) (by omega)] at g
  refine g (fun c => ?_) (fun _ c => by omega) (fun _ _ => by omega) (fun c _ => ?_)
  · obtain rfl : n = 4 := by omega
    exact k M' f f1 e v
  · rw [show 24 - 8 * (n : Int) + -8 = 24 - 8 * ((n + 1 : Nat) : Int) by omega]
    refine ih (by omega) _ (fun q a b => by rw [z_upn a, z_upn b]; exact f q a b) (fun j hj => by rw [z_upi hj rfl, z_upn (by decide)]; exact f1 j hj) (by rw [z_ups]; omega) (fun i => ?_)
    rw [z_upn (by decide)]
    by_cases c2 : i = m + n
    · rw [c2, z_ups, if_pos (by omega), show m + (n : Int) - m = n by omega]
    · rw [z_upi c2 rfl, v i]
      by_cases c3 : m ≤ i ∧ i < m + n
      · rw [if_pos c3, if_pos (by omega)]
      · rw [if_neg c3, if_neg (by omega)]
theorem s_X10_four {P : Option z_V → z_L → z_M → Prop} {a m : Int} (hF : z_fix M) (hm : M 321 1 = m) (h : 0 ≤ m ∧ m ≤ 1596) (k : ∀ M' : z_M, (∀ q, q ≠ 321 → q ≠ 322 → M' q = M q) → (∀ j, j ≠ 1 → M' 321 j = M 321 j) → M' 321 1 = m + 4 → (∀ i, M' 322 i = if m ≤ i ∧ i < m + 4 then z_and (z_shr a (24 - 8 * (i - m))) 255 else M 322 i) → P none z_LL M') : wp xs d mX10_four 0 [(2, 321), (0, a), (3, 0)] [] z_LL M P := by
  refine gX10_four_0 ?_
  refine z_loop (W := fun n => ∀ M' : z_M, (∀ q, q ≠ 321 → q ≠ 322 → M' q = M q) → (∀ j, j ≠ 1 → M' 321 j = M 321 j) → M' 321 1 = m + n → (∀ i, M' 322 i = if m ≤ i ∧ i < m + n then z_and (z_shr a (24 - 8 * (i - m))) 255 else M 322 i) → wp xs d mX10_four 3 [(2, 321), (0, a), (0, 24 - 8 * (n : Int))] [] z_LL M' P) 4 (fun n hn ih M' f f1 e v => ?_) M (fun _ _ _ => rfl) (fun _ _ => rfl) (by rw [hm]; omega) (fun i => by rw [if_neg (by omega)])
  have F' : z_fix M' := z_fix_gen hF (fun q i hq => by
    by_cases w : q = 321
    · rw [w] at hq ⊢
      exact f1 i (by unfold z_fin at hq; omega)
    · rw [f q w (by unfold z_fin at hq; omega)])
  have g := gX10_four_3 (M := M') (xs := xs) (d := d) (P := P) (x1 := a) (x2 := 24 - 8 * (n : Int)) F'
  rw [e, z_wid (x := 24 - 8 * (n : Int) + -8) (by omega), z_wid (x := m + n + 1) (by omega)] at g
  refine g (fun c => ?_) (fun _ => by omega) (fun c => ?_)
  · obtain rfl : n = 4 := by omega
    exact k M' f f1 e v
  · rw [show 24 - 8 * (n : Int) + -8 = 24 - 8 * ((n + 1 : Nat) : Int) by omega]
    refine ih (by omega) _ (fun q a b => by rw [z_upn a, z_upn b]; exact f q a b) (fun j hj => by rw [z_upi hj rfl, z_upn (by decide)]; exact f1 j hj) (by rw [z_ups]; omega) (fun i => ?_)
    rw [z_upn (by decide)]
    by_cases c2 : i = m + n
    · rw [c2, z_ups, if_pos (by omega), show m + (n : Int) - m = n by omega]
    · rw [z_upi c2 rfl, v i]
      by_cases c3 : m ≤ i ∧ i < m + n
      · rw [if_pos c3, if_pos (by omega)]
      · rw [if_neg c3, if_neg (by omega)]
/-- the k-th byte of a row of numbers -/
def z_fdb (A : Int → Int) (k : Int) : Int := z_shr (A (k / 4)) (24 - 8 * (k % 4))
def z_fqc (A : Int → Int) (m j : Int) (M N : z_M) : Prop := (∀ q, q ≠ 30 → q ≠ 31 → N q = M q) ∧ (∀ i, i ≠ 2 → N 30 i = M 30 i) ∧ N 30 2 = m + 4 * j ∧ ∀ i, N 31 i = if m ≤ i ∧ i < m + 4 * j then z_i2b (z_i2b (z_fdb A (i - m))) else M 31 i
def z_fqm (A : Int → Int) (m j : Int) (M N : z_M) : Prop := (∀ q, q ≠ 321 → q ≠ 322 → N q = M q) ∧ (∀ i, i ≠ 1 → N 321 i = M 321 i) ∧ N 321 1 = m + 4 * j ∧ ∀ i, N 322 i = if m ≤ i ∧ i < m + 4 * j then z_and (z_fdb A (i - m)) 255 else M 322 i
theorem s_add_q {P : Option z_V → z_L → z_M → Prop} {A : Int → Int} {m j : Int} {N : z_M} (a : Int) (ha : A j = a) (hF : z_fix M) (h : 0 ≤ m ∧ 0 ≤ j ∧ j ≤ 4 ∧ m ≤ 1580) (hq : z_fqc A m j M N) (k : ∀ N' : z_M, z_fqc A m (j + 1) M N' → P none z_LL N') : wp xs d mX7_add 0 [(2, 30), (0, a), (3, 0)] [] z_LL N P := by
  obtain ⟨q1, q2, q3, q4⟩ := hq
  refine s_X7_add (m := m + 4 * j) (z_fix_gen hF (fun q i hq => ?_)) q3 (by omega) (fun N' f f1 e v => k N' ⟨fun q a b => by rw [f q a b, q1 q a b], fun i hi => by rw [f1 i hi, q2 i hi], by rw [e]; omega, fun i => ?_⟩)
  · by_cases w : q = 30
    · rw [w] at hq ⊢
      exact q2 i (by unfold z_fin at hq; omega)
    · rw [q1 q w (by unfold z_fin at hq; omega)]
  · rw [v i]
    by_cases c : m + 4 * j ≤ i ∧ i < m + 4 * j + 4
    · rw [if_pos c, if_pos (by omega)]
      unfold z_fdb
      rw [show (i - m) / 4 = j by omega, ha, show (i - m) % 4 = i - (m + 4 * j) by omega]
    · rw [if_neg c, q4 i]
      by_cases c2 : m ≤ i ∧ i < m + 4 * j
      · rw [if_pos c2, if_pos (by omega)]
      · rw [if_neg c2, if_neg (by omega)]
theorem s_four_q {P : Option z_V → z_L → z_M → Prop} {A : Int → Int} {m j : Int} {N : z_M} (a : Int) (ha : A j = a) (hF : z_fix M) (h : 0 ≤ m ∧ 0 ≤ j ∧ j ≤ 4 ∧ m ≤ 1580) (hq : z_fqm A m j M N) (k : ∀ N' : z_M, z_fqm A m (j + 1) M N' → P none z_LL N') : wp xs d mX10_four 0 [(2, 321), (0, a), (3, 0)] [] z_LL N P := by
  obtain ⟨q1, q2, q3, q4⟩ := hq
  refine s_X10_four (m := m + 4 * j) (z_fix_gen hF (fun q i hq => ?_)) q3 (by omega) (fun N' f f1 e v => k N' ⟨fun q a b => by rw [f q a b, q1 q a b], fun i hi => by rw [f1 i hi, q2 i hi], by rw [e]; omega, fun i => ?_⟩)
  · by_cases w : q = 321
    · rw [w] at hq ⊢
      exact q2 i (by unfold z_fin at hq; omega)
    · rw [q1 q w (by unfold z_fin at hq; omega)]
  · rw [v i]
    by_cases c : m + 4 * j ≤ i ∧ i < m + 4 * j + 4
    · rw [if_pos c, if_pos (by omega)]
      unfold z_fdb
      rw [show (i - m) / 4 = j by omega, ha, show (i - m) % 4 = i - (m + 4 * j) by omega]
    · rw [if_neg c, q4 i]
      by_cases c2 : m ≤ i ∧ i < m + 4 * j
      · rw [if_pos c2, if_pos (by omega)]
      · rw [if_neg c2, if_neg (by omega)]
theorem z_fqc_F {A : Int → Int} {m j : Int} {N : z_M} (hF : z_fix M) (h : z_fqc A m j M N) : z_fix N := z_fix_gen hF (fun q i hq => by
  by_cases w : q = 30
  · rw [w] at hq ⊢
    exact h.2.1 i (by unfold z_fin at hq; omega)
  · rw [h.1 q w (by unfold z_fin at hq; omega)])
theorem c_feed {a1 a2 a3 a4 a5 : Int} (hR : z_R M) : z_two xs (d + 200) mX9_feed mX10_feed [(2, 1), (0, a1), (0, a2), (0, a3), (0, a4), (0, a5)] [(2, 321), (0, a1), (0, a2), (0, a3), (0, a4), (0, a5)] M := by
  have hF := z_R_F hR
  obtain ⟨t1, t2, t3, t4⟩ := z_R_Rt hR
  by_cases h : M 321 1 ≤ 1580
  · obtain ⟨m, hm⟩ : ∃ m, M 321 1 = m := ⟨_, rfl⟩
    obtain ⟨A, hA⟩ : ∃ A : Int → Int, A = fun j => if j = 0 then a1 else if j = 1 then a2 else if j = 2 then a3 else if j = 3 then a4 else a5 := ⟨_, rfl⟩
    have e0 : A 0 = a1 := by rw [hA]; rfl
    have e1 : A 1 = a2 := by rw [hA]; rfl
    have e2 : A 2 = a3 := by rw [hA]; rfl
    have e3 : A 3 = a4 := by rw [hA]; rfl
    have e4 : A 4 = a5 := by rw [hA]; rfl
    unfold z_two
    have g := fun P => gX9_feed_0 (M := M) (xs := xs) (d := d + 199) (P := P) (a1 := a1) (a2 := a2) (a3 := a3) (a4 := a4) (a5 := a5) hF
    rw [t1.1] at g
    refine g _ (fun _ => ?_) (fun q => absurd h q)
    have i0 : z_fqc A m 0 M M := ⟨fun _ _ _ => rfl, fun _ _ => rfl, by rw [t1.1, hm]; omega, fun i => by rw [if_neg (by omega)]⟩
    refine s_add_q (j := 0) a1 e0 hF (by omega) i0 (fun N1 i1 => gX9_feed_23 (d := d + 199) (z_fqc_F hF i1) ?_)
    refine s_add_q (j := 1) a2 e1 hF (by omega) i1 (fun N2 i2 => gX9_feed_31 (d := d + 199) (z_fqc_F hF i2) ?_)
    refine s_add_q (j := 2) a3 e2 hF (by omega) i2 (fun N3 i3 => gX9_feed_39 (d := d + 199) (z_fqc_F hF i3) ?_)
    refine s_add_q (j := 3) a4 e3 hF (by omega) i3 (fun N4 i4 => gX9_feed_48 (d := d + 199) (z_fqc_F hF i4) ?_)
    refine s_add_q (j := 4) a5 e4 hF (by omega) i4 (fun N5 i5 => gX9_feed_57 (d := d + 200) (z_fqc_F hF i5) ?_)
    obtain ⟨p1, p2, p3, p4⟩ := i5
    have F5 := z_fqc_F hF ⟨p1, p2, p3, p4⟩
    have x1 : N5 321 1 = m := by rw [p1 321 (by decide) (by decide), hm]
    refine ⟨m + 20, by rw [p3]; rfl, rfl, ?_⟩
    have g := fun P => gX10_feed_0 (M := N5) (xs := xs) (d := d + 199) (P := P) (a1 := a1) (a2 := a2) (a3 := a3) (a4 := a4) (a5 := a5)
    rw [x1, z_wid (by omega)] at g
    refine g _ (fun _ => ?_) (fun q => by omega)
    have k0 : z_fqm A m 0 N5 N5 := ⟨fun _ _ _ => rfl, fun _ _ => rfl, by rw [x1]; omega, fun i => by rw [if_neg (by omega)]⟩
    refine s_four_q (j := 0) a1 e0 F5 (by omega) k0 (fun L1 k1 => gX10_feed_20 (d := d + 199) ?_)
    refine s_four_q (j := 1) a2 e1 F5 (by omega) k1 (fun L2 k2 => gX10_feed_25 (d := d + 199) ?_)
    refine s_four_q (j := 2) a3 e2 F5 (by omega) k2 (fun L3 k3 => gX10_feed_30 (d := d + 199) ?_)
    refine s_four_q (j := 3) a4 e3 F5 (by omega) k3 (fun L4 k4 => gX10_feed_36 (d := d + 199) ?_)
    refine s_four_q (j := 4) a5 e4 F5 (by omega) k4 (fun L5 k5 => gX10_feed_42 (d := d + 200) ?_)
    obtain ⟨r1, r2, r3, r4⟩ := k5
    refine ⟨by rw [r3]; rfl, rfl, z_R_tp hR (fun q a b c e => by rw [r1 q c e, p1 q a b]) (fun j hj => by rw [r1 30 (by decide) (by decide), p2 j hj]) (fun j hj => by rw [r2 j hj, p1 321 (by decide) (by decide)]) ⟨?_, ?_, fun i a b => ?_, fun i hi => ?_⟩⟩
    · rw [r1 30 (by decide) (by decide), p3, r3]
      omega
    · rw [r1 33 (by decide) (by decide), p1 33 (by decide) (by decide), r2 2 (by decide), r2 3 (by decide), p1 321 (by decide) (by decide)]
      exact t2
    · rw [r1 31 (by decide) (by decide), r4 i, p4 i, p1 322 (by decide) (by decide)]
      by_cases c : m ≤ i ∧ i < m + 4 * (4 + 1)
      · rw [if_pos c, if_pos c]
        exact z_by_e
      · rw [if_neg c, if_neg c]
        exact t3 i a b
    · rw [r1 32 (by decide) (by decide), p1 32 (by decide) (by decide)]
      exact t4 i hi
  · refine z_two_n (-1) hR (fun P k => ?_) (fun P k => ?_)
    · have g := gX9_feed_0 (M := M) (xs := xs) (d := d + 199) (P := P) (a1 := a1) (a2 := a2) (a3 := a3) (a4 := a4) (a5 := a5) hF
      rw [t1.1] at g
      exact g (fun q => absurd q h) (fun _ => k)
    · have g := gX10_feed_0 (M := M) (xs := xs) (d := d + 199) (P := P) (a1 := a1) (a2 := a2) (a3 := a3) (a4 := a4) (a5 := a5)
      rw [z_wid (by omega)] at g
      exact g (fun q => by omega) (fun _ => k)
theorem c_end {a1 : Int} (hR : z_R M) : z_two xs (d + 200) mX9_end mX10_end [(2, 1), (0, a1)] [(2, 321), (0, a1)] M := by
  obtain ⟨t1, t2, t3, t4⟩ := z_R_Rt hR
  have g := fun P => gX9_end_0 (M := M) (xs := xs) (d := d + 200) (P := P) (a1 := a1) (z_R_F hR)
  rw [t1.1] at g
  by_cases h : 0 ≤ a1 ∧ a1 ≤ M 321 1
  · unfold z_two
    refine g _ (fun q => by omega) (fun _ _ => ⟨a1, rfl, rfl, ?_⟩) (fun _ q => absurd h.2 q)
    have e : z_up M 30 2 a1 321 = M 321 := z_upn (by decide)
    have g := fun P => gX10_end_0 (M := z_up M 30 2 a1) (xs := xs) (d := d + 200) (P := P) (a1 := a1)
    rw [e] at g
    refine g _ (fun q => by omega) (fun _ _ => ⟨rfl, rfl, ?_⟩) (fun _ q => absurd h.2 q)
    refine z_R_tp hR (fun q a _ c _ => by rw [z_upn c, z_upn a]) (fun j hj => by rw [z_upn (by decide), z_upi hj rfl]) (fun j hj => by rw [z_upi hj rfl, e]) ⟨?_, ?_, fun i a b => ?_, fun i hi => ?_⟩
    · rw [z_upn (q := 30) (by decide), z_ups, z_ups]
      omega
    · rw [z_upn (q := 33) (by decide), z_upn (q := 33) (by decide), z_upi (b := 2) (by decide) rfl, z_upi (i := 1) (b := 3) (by decide) rfl, e]
      exact t2
    · rw [z_upn (q := 31) (by decide), z_upn (q := 31) (by decide), z_upn (q := 322) (by decide), z_upn (q := 322) (by decide)]
      exact t3 i a b
    · rw [z_upn (q := 32) (by decide), z_upn (q := 32) (by decide)]
      exact t4 i hi
  · refine z_two_n (-1) hR (fun P k => g P (fun _ => k) (fun a b => absurd ⟨by omega, b⟩ h) (fun _ _ => k)) (fun P k => ?_)
    exact gX10_end_0 (d := d + 200) (fun _ => k) (fun a b => absurd ⟨by omega, b⟩ h) (fun _ _ => k)
end
