/-! THE MODEL TAKES OVER WHAT WAS TOLD; THE CLASS SETTLES -/
set_option maxRecDepth 20000 in
theorem gX10_gorge_0 {xs : List Int} {d : Nat} {M : z_M} {P : Option z_V → z_L → z_M → Prop} 
    (l1 : wp xs d mX10_readAll 0 [(2, 321), (3, 0)] [] z_LL M (fun r L1 M1 => wp xs (d + 1) mX10_gorge 4 [(2, 321), (3, 0)] (z_ol r ++ []) L1 M1 P)) :
    wp xs (d + 1) mX10_gorge 0 [(2, 321), (3, 0)] [] z_LL M P := by
  refine wp_run 1 (pc' := 1) (ls' := [(2, 321), (3, 0)]) (st' := [(2, 321)]) rfl ?_
  refine wp_callv (pc' := 4) (as := [(2, 321)]) (rest := []) (ls1 := [(2, 321), (3, 0)]) rfl rfl rfl rfl rfl rfl ?_
  exact l1
set_option maxRecDepth 20000 in
theorem gX10_gorge_4 {xs : List Int} {d : Nat} {M : z_M} {P : Option z_V → z_L → z_M → Prop} 
    (b1 : ((M 321 2) ≤ 0) → (M 321 55) = 0 ∨ (M 321 55) = 1)
    (l1 : ((M 321 2) ≤ 0) → ((M 321 55) = 0) → wp xs d mX10_gorge 106 [(2, 321), (0, 0)] [] z_LL (z_up (z_up (z_up (z_up (z_up (z_up (z_up (z_up (z_up (z_up M 321 46 (M 321 36)) 321 47 (M 321 37)) 321 48 (M 321 40)) 321 49 (M 321 41)) 321 50 (M 321 42)) 321 51 (M 321 43)) 321 52 (M 321 44)) 321 21 (M 321 20)) 321 59 (M 321 55)) 321 18 0) P)
    (l2 : ((M 321 2) ≤ 0) → (¬ ((M 321 55) = 0)) → wp xs d mX10_gorge 106 [(2, 321), (0, 0)] [] z_LL (z_up (z_up (z_up (z_up (z_up (z_up (z_up (z_up (z_up (z_up M 321 46 (M 321 36)) 321 47 (M 321 37)) 321 48 (M 321 40)) 321 49 (M 321 41)) 321 50 (M 321 42)) 321 51 (M 321 43)) 321 52 (M 321 44)) 321 21 (M 321 20)) 321 59 (M 321 55)) 321 18 (M 321 17)) P)
    (l3 : (¬ ((M 321 2) ≤ 0)) → P (some (0, (-1))) z_LL M) :
    wp xs d mX10_gorge 4 [(2, 321), (3, 0)] [] z_LL M P := by
  refine wp_run 1 (pc' := 5) (ls' := [(2, 321), (3, 0)]) (st' := [(2, 321)]) rfl ?_
  refine wp_gf (pc' := 8) (t := 0) (v := (M 321 2)) rfl rfl (by decide) rfl rfl rfl ?_
  refine wp_if1 rfl rfl rfl (fun (c1 : (M 321 2) ≤ 0) => ?_) (fun (c1 : ¬ ((M 321 2) ≤ 0)) => ?_)
  · refine wp_run 2 (pc' := 15) (ls' := [(2, 321), (3, 0)]) (st' := [(2, 321), (2, 321)]) rfl ?_
    refine wp_gf (pc' := 18) (t := 0) (v := (M 321 36)) rfl rfl (by decide) rfl rfl rfl ?_
    refine wp_pf (pc' := 21) rfl rfl rfl rfl (fun z => absurd z (by decide)) (fun z => absurd z (by decide)) ?_
    refine wp_run 2 (pc' := 23) (ls' := [(2, 321), (3, 0)]) (st' := [(2, 321), (2, 321)]) rfl ?_
    refine wp_gf (pc' := 26) (t := 0) (v := (M 321 37)) rfl rfl (by decide) rfl rfl (z_upi (by decide) rfl) ?_
    refine wp_pf (pc' := 29) rfl rfl rfl rfl (fun z => absurd z (by decide)) (fun z => absurd z (by decide)) ?_
    refine wp_run 2 (pc' := 31) (ls' := [(2, 321), (3, 0)]) (st' := [(2, 321), (2, 321)]) rfl ?_
    refine wp_gf (pc' := 34) (t := 0) (v := (M 321 40)) rfl rfl (by decide) rfl rfl (z_upi (by decide) (z_upi (by decide) rfl)) ?_
    refine wp_pf (pc' := 37) rfl rfl rfl rfl (fun z => absurd z (by decide)) (fun z => absurd z (by decide)) ?_
    refine wp_run 2 (pc' := 39) (ls' := [(2, 321), (3, 0)]) (st' := [(2, 321), (2, 321)]) rfl ?_
    refine wp_gf (pc' := 42) (t := 0) (v := (M 321 41)) rfl rfl (by decide) rfl rfl (z_upi (by decide) (z_upi (by decide) (z_upi (by decide) rfl))) ?_
    refine wp_pf (pc' := 45) rfl rfl rfl rfl (fun z => absurd z (by decide)) (fun z => absurd z (by decide)) ?_
    refine wp_run 2 (pc' := 47) (ls' := [(2, 321), (3, 0)]) (st' := [(2, 321), (2, 321)]) rfl ?_
    refine wp_gf (pc' := 50) (t := 0) (v := (M 321 42)) rfl rfl (by decide) rfl rfl (z_upi (by decide) (z_upi (by decide) (z_upi (by decide) (z_upi (by decide) rfl)))) ?_
    refine wp_pf (pc' := 53) rfl rfl rfl rfl (fun z => absurd z (by decide)) (fun z => absurd z (by decide)) ?_
    refine wp_run 2 (pc' := 55) (ls' := [(2, 321), (3, 0)]) (st' := [(2, 321), (2, 321)]) rfl ?_
    refine wp_gf (pc' := 58) (t := 0) (v := (M 321 43)) rfl rfl (by decide) rfl rfl (z_upi (by decide) (z_upi (by decide) (z_upi (by decide) (z_upi (by decide) (z_upi (by decide) rfl))))) ?_
    refine wp_pf (pc' := 61) rfl rfl rfl rfl (fun z => absurd z (by decide)) (fun z => absurd z (by decide)) ?_
    refine wp_run 2 (pc' := 63) (ls' := [(2, 321), (3, 0)]) (st' := [(2, 321), (2, 321)]) rfl ?_
    refine wp_gf (pc' := 66) (t := 0) (v := (M 321 44)) rfl rfl (by decide) rfl rfl (z_upi (by decide) (z_upi (by decide) (z_upi (by decide) (z_upi (by decide) (z_upi (by decide) (z_upi (by decide) rfl)))))) ?_
    refine wp_pf (pc' := 69) rfl rfl rfl rfl (fun z => absurd z (by decide)) (fun z => absurd z (by decide)) ?_
    refine wp_run 2 (pc' := 71) (ls' := [(2, 321), (3, 0)]) (st' := [(2, 321), (2, 321)]) rfl ?_
    refine wp_gf (pc' := 74) (t := 0) (v := (M 321 20)) rfl rfl (by decide) rfl rfl (z_upi (by decide) (z_upi (by decide) (z_upi (by decide) (z_upi (by decide) (z_upi (by decide) (z_upi (by decide) (z_upi (by decide) rfl))))))) ?_
    refine wp_pf (pc' := 77) rfl rfl rfl rfl (fun z => absurd z (by decide)) (fun z => absurd z (by decide)) ?_
    refine wp_run 2 (pc' := 79) (ls' := [(2, 321), (3, 0)]) (st' := [(2, 321), (2, 321)]) rfl ?_
    refine wp_gf (pc' := 82) (t := 0) (v := (M 321 55)) rfl rfl (by decide) rfl rfl (z_upi (by decide) (z_upi (by decide) (z_upi (by decide) (z_upi (by decide) (z_upi (by decide) (z_upi (by decide) (z_upi (by decide) (z_upi (by decide) rfl)))))))) ?_
    refine wp_pf (pc' := 85) rfl rfl rfl rfl (fun z => absurd z (by decide)) (fun _ => (b1 c1)) ?_
    refine wp_run 2 (pc' := 87) (ls' := [(2, 321), (3, 0)]) (st' := [(2, 321), (2, 321)]) rfl ?_
    refine wp_gf (pc' := 90) (t := 0) (v := (M 321 55)) rfl rfl (by decide) rfl rfl (z_upi (by decide) (z_upi (by decide) (z_upi (by decide) (z_upi (by decide) (z_upi (by decide) (z_upi (by decide) (z_upi (by decide) (z_upi (by decide) (z_upi (by decide) rfl))))))))) ?_
    refine wp_if1 rfl rfl rfl (fun (c2 : (M 321 55) = 0) => ?_) (fun (c2 : ¬ ((M 321 55) = 0)) => ?_)
    · refine wp_run 1 (pc' := 101) (ls' := [(2, 321), (3, 0)]) (st' := [(0, 0), (2, 321)]) rfl ?_
      refine wp_pf (pc' := 104) rfl rfl rfl rfl (fun z => absurd z (by decide)) (fun z => absurd z (by decide)) ?_
      refine wp_run 2 (pc' := 106) (ls' := [(2, 321), (0, 0)]) (st' := []) rfl ?_
      exact l1 c1 c2
    · refine wp_run 1 (pc' := 94) (ls' := [(2, 321), (3, 0)]) (st' := [(2, 321), (2, 321)]) rfl ?_
      refine wp_gf (pc' := 97) (t := 0) (v := (M 321 17)) rfl rfl (by decide) rfl rfl (z_upi (by decide) (z_upi (by decide) (z_upi (by decide) (z_upi (by decide) (z_upi (by decide) (z_upi (by decide) (z_upi (by decide) (z_upi (by decide) (z_upi (by decide) rfl))))))))) ?_
      refine wp_run 1 (pc' := 101) (ls' := [(2, 321), (3, 0)]) (st' := [(0, (M 321 17)), (2, 321)]) rfl ?_
      refine wp_pf (pc' := 104) rfl rfl rfl rfl (fun z => absurd z (by decide)) (fun z => absurd z (by decide)) ?_
      refine wp_run 2 (pc' := 106) (ls' := [(2, 321), (0, 0)]) (st' := []) rfl ?_
      exact l2 c1 c2
  · refine wp_run 1 (pc' := 12) (ls' := [(2, 321), (3, 0)]) (st' := [(0, (-1))]) rfl ?_
    exact wp_ret rfl rfl (l3 c1)
set_option maxRecDepth 20000 in
theorem gX10_gorge_106 {xs : List Int} {d : Nat} {M : z_M} {P : Option z_V → z_L → z_M → Prop} {x1 : Int} (hF : z_fix M) 
    (l1 : ((M 321 18) ≤ x1) → wp xs d mX10_gorge 146 [(2, 321), (0, 0)] [] z_LL M P)
    (b1 : (¬ ((M 321 18) ≤ x1)) → 0 ≤ x1 ∧ x1 < 320)
    (l2 : (¬ ((M 321 18) ≤ x1)) → wp xs d mX10_gorge 106 [(2, 321), (0, (z_w (x1 + 1)))] [] z_LL (z_up (z_up M 326 x1 (M 324 x1)) 327 x1 (M 325 x1)) P) :
    wp xs d mX10_gorge 106 [(2, 321), (0, x1)] [] z_LL M P := by
  refine wp_run 2 (pc' := 108) (ls' := [(2, 321), (0, x1)]) (st' := [(2, 321), (0, x1)]) rfl ?_
  refine wp_gf (pc' := 111) (t := 0) (v := (M 321 18)) rfl rfl (by decide) rfl rfl rfl ?_
  refine wp_if2 rfl rfl rfl (fun (c1 : (M 321 18) ≤ x1) => ?_) (fun (c1 : ¬ ((M 321 18) ≤ x1)) => ?_)
  · refine wp_run 2 (pc' := 146) (ls' := [(2, 321), (0, 0)]) (st' := []) rfl ?_
    exact l1 c1
  · refine wp_run 1 (pc' := 115) (ls' := [(2, 321), (0, x1)]) (st' := [(2, 321)]) rfl ?_
    refine wp_gf (pc' := 118) (t := 2) (v := 326) rfl rfl (by decide) rfl rfl (fx_321_13 hF) ?_
    refine wp_run 2 (pc' := 120) (ls' := [(2, 321), (0, x1)]) (st' := [(2, 321), (0, x1), (2, 326)]) rfl ?_
    refine wp_gf (pc' := 123) (t := 2) (v := 324) rfl rfl (by decide) rfl rfl (fx_321_11 hF) ?_
    refine wp_run 1 (pc' := 124) (ls' := [(2, 321), (0, x1)]) (st' := [(0, x1), (2, 324), (0, x1), (2, 326)]) rfl ?_
    refine wp_iald (pc' := 125) (v := (M 324 x1)) rfl rfl rfl (b1 c1) rfl ?_
    refine wp_iast (pc' := 126) rfl rfl rfl (b1 c1) ?_
    refine wp_run 1 (pc' := 127) (ls' := [(2, 321), (0, x1)]) (st' := [(2, 321)]) rfl ?_
    refine wp_gf (pc' := 130) (t := 2) (v := 327) rfl rfl (by decide) rfl rfl (z_upq (by decide) (fx_321_14 hF)) ?_
    refine wp_run 2 (pc' := 132) (ls' := [(2, 321), (0, x1)]) (st' := [(2, 321), (0, x1), (2, 327)]) rfl ?_
    refine wp_gf (pc' := 135) (t := 2) (v := 325) rfl rfl (by decide) rfl rfl (z_upq (by decide) (fx_321_12 hF)) ?_
    refine wp_run 1 (pc' := 136) (ls' := [(2, 321), (0, x1)]) (st' := [(0, x1), (2, 325), (0, x1), (2, 327)]) rfl ?_
    refine wp_iald (pc' := 137) (v := (M 325 x1)) rfl rfl rfl (b1 c1) (z_upq (by decide) rfl) ?_
    refine wp_iast (pc' := 138) rfl rfl rfl (b1 c1) ?_
    refine wp_run 2 (pc' := 106) (ls' := [(2, 321), (0, (z_w (x1 + 1)))]) (st' := []) rfl ?_
    exact l2 c1
set_option maxRecDepth 20000 in
theorem gX10_gorge_146 {xs : List Int} {d : Nat} {M : z_M} {P : Option z_V → z_L → z_M → Prop} {x1 : Int} (hF : z_fix M) 
    (l1 : (36 ≤ x1) → wp xs d mX10_gorge 172 [(2, 321), (0, 0)] [] z_LL M P)
    (b1 : (¬ (36 ≤ x1)) → 0 ≤ x1 ∧ x1 < 36)
    (l2 : (¬ (36 ≤ x1)) → wp xs d mX10_gorge 146 [(2, 321), (0, (z_w (x1 + 1)))] [] z_LL (z_up M 340 x1 (M 335 x1)) P) :
    wp xs d mX10_gorge 146 [(2, 321), (0, x1)] [] z_LL M P := by
  refine wp_run 2 (pc' := 149) (ls' := [(2, 321), (0, x1)]) (st' := [(0, 36), (0, x1)]) rfl ?_
  refine wp_if2 rfl rfl rfl (fun (c1 : 36 ≤ x1) => ?_) (fun (c1 : ¬ (36 ≤ x1)) => ?_)
  · refine wp_run 2 (pc' := 172) (ls' := [(2, 321), (0, 0)]) (st' := []) rfl ?_
    exact l1 c1
  · refine wp_run 1 (pc' := 153) (ls' := [(2, 321), (0, x1)]) (st' := [(2, 321)]) rfl ?_
    refine wp_gf (pc' := 156) (t := 2) (v := 340) rfl rfl (by decide) rfl rfl (fx_321_34 hF) ?_
    refine wp_run 2 (pc' := 158) (ls' := [(2, 321), (0, x1)]) (st' := [(2, 321), (0, x1), (2, 340)]) rfl ?_
    refine wp_gf (pc' := 161) (t := 2) (v := 335) rfl rfl (by decide) rfl rfl (fx_321_29 hF) ?_
    refine wp_run 1 (pc' := 162) (ls' := [(2, 321), (0, x1)]) (st' := [(0, x1), (2, 335), (0, x1), (2, 340)]) rfl ?_
    refine wp_iald (pc' := 163) (v := (M 335 x1)) rfl rfl rfl (b1 c1) rfl ?_
    refine wp_iast (pc' := 164) rfl rfl rfl (b1 c1) ?_
    refine wp_run 2 (pc' := 146) (ls' := [(2, 321), (0, (z_w (x1 + 1)))]) (st' := []) rfl ?_
    exact l2 c1
set_option maxRecDepth 20000 in
theorem gX10_gorge_172 {xs : List Int} {d : Nat} {M : z_M} {P : Option z_V → z_L → z_M → Prop} {x1 : Int} (hF : z_fix M) 
    (l1 : (106 ≤ x1) → wp xs d mX10_gorge 193 [(2, 321), (0, 0)] [] z_LL M P)
    (b1 : (¬ (106 ≤ x1)) → 0 ≤ x1 ∧ x1 < 106)
    (l2 : (¬ (106 ≤ x1)) → wp xs d mX10_gorge 172 [(2, 321), (0, (z_w (x1 + 1)))] [] z_LL (z_up M 342 x1 0) P) :
    wp xs d mX10_gorge 172 [(2, 321), (0, x1)] [] z_LL M P := by
  refine wp_run 2 (pc' := 175) (ls' := [(2, 321), (0, x1)]) (st' := [(0, 106), (0, x1)]) rfl ?_
  refine wp_if2 rfl rfl rfl (fun (c1 : 106 ≤ x1) => ?_) (fun (c1 : ¬ (106 ≤ x1)) => ?_)
  · refine wp_run 2 (pc' := 193) (ls' := [(2, 321), (0, 0)]) (st' := []) rfl ?_
    exact l1 c1
  · refine wp_run 1 (pc' := 179) (ls' := [(2, 321), (0, x1)]) (st' := [(2, 321)]) rfl ?_
    refine wp_gf (pc' := 182) (t := 2) (v := 342) rfl rfl (by decide) rfl rfl (fx_321_60 hF) ?_
    refine wp_run 2 (pc' := 184) (ls' := [(2, 321), (0, x1)]) (st' := [(0, 0), (0, x1), (2, 342)]) rfl ?_
    refine wp_iast (pc' := 185) rfl rfl rfl (b1 c1) ?_
    refine wp_run 2 (pc' := 172) (ls' := [(2, 321), (0, (z_w (x1 + 1)))]) (st' := []) rfl ?_
    exact l2 c1
set_option maxRecDepth 20000 in
theorem gX10_gorge_193 {xs : List Int} {d : Nat} {M : z_M} {P : Option z_V → z_L → z_M → Prop} {x1 : Int} (hF : z_fix M) 
    (l1 : (6 ≤ x1) → wp xs d mX10_gorge 289 [(2, 321), (0, 0)] [] z_LL M P)
    (b1 : (¬ (6 ≤ x1)) → 0 ≤ x1 ∧ x1 < 6)
    (b2 : (¬ (6 ≤ x1)) → ((M 321 48) ≤ x1) → 0 ≤ x1 ∧ x1 < 106)
    (b3 : (¬ (6 ≤ x1)) → ((M 321 48) ≤ x1) → 0 ≤ (z_w (12 + x1)) ∧ (z_w (12 + x1)) < 106)
    (l2 : (¬ (6 ≤ x1)) → ((M 321 48) ≤ x1) → wp xs d mX10_gorge 193 [(2, 321), (0, (z_w (x1 + 1)))] [] z_LL (z_up (z_up (z_up (z_up (z_up (z_up M 337 x1 (M 332 x1)) 338 x1 (M 333 x1)) 339 x1 (M 334 x1)) 341 x1 (M 336 x1)) 342 x1 0) 342 (z_w (12 + x1)) (-1)) P)
    (b4 : (¬ (6 ≤ x1)) → (¬ ((M 321 48) ≤ x1)) → 0 ≤ x1 ∧ x1 < 106)
    (b5 : (¬ (6 ≤ x1)) → (¬ ((M 321 48) ≤ x1)) → 0 ≤ (z_w (12 + x1)) ∧ (z_w (12 + x1)) < 106)
    (l3 : (¬ (6 ≤ x1)) → (¬ ((M 321 48) ≤ x1)) → wp xs d mX10_gorge 193 [(2, 321), (0, (z_w (x1 + 1)))] [] z_LL (z_up (z_up (z_up (z_up (z_up (z_up M 337 x1 (M 332 x1)) 338 x1 (M 333 x1)) 339 x1 (M 334 x1)) 341 x1 (M 336 x1)) 342 x1 (M 333 x1)) 342 (z_w (12 + x1)) (-1)) P) :
    wp xs d mX10_gorge 193 [(2, 321), (0, x1)] [] z_LL M P := by
  refine wp_run 2 (pc' := 196) (ls' := [(2, 321), (0, x1)]) (st' := [(0, 6), (0, x1)]) rfl ?_
  refine wp_if2 rfl rfl rfl (fun (c1 : 6 ≤ x1) => ?_) (fun (c1 : ¬ (6 ≤ x1)) => ?_)
  · refine wp_run 2 (pc' := 289) (ls' := [(2, 321), (0, 0)]) (st' := []) rfl ?_
    exact l1 c1
  · refine wp_run 1 (pc' := 200) (ls' := [(2, 321), (0, x1)]) (st' := [(2, 321)]) rfl ?_
    refine wp_gf (pc' := 203) (t := 2) (v := 337) rfl rfl (by decide) rfl rfl (fx_321_31 hF) ?_
    refine wp_run 2 (pc' := 205) (ls' := [(2, 321), (0, x1)]) (st' := [(2, 321), (0, x1), (2, 337)]) rfl ?_
    refine wp_gf (pc' := 208) (t := 2) (v := 332) rfl rfl (by decide) rfl rfl (fx_321_26 hF) ?_
    refine wp_run 1 (pc' := 209) (ls' := [(2, 321), (0, x1)]) (st' := [(0, x1), (2, 332), (0, x1), (2, 337)]) rfl ?_
    refine wp_iald (pc' := 210) (v := (M 332 x1)) rfl rfl rfl (b1 c1) rfl ?_
    refine wp_iast (pc' := 211) rfl rfl rfl (b1 c1) ?_
    refine wp_run 1 (pc' := 212) (ls' := [(2, 321), (0, x1)]) (st' := [(2, 321)]) rfl ?_
    refine wp_gf (pc' := 215) (t := 2) (v := 338) rfl rfl (by decide) rfl rfl (z_upq (by decide) (fx_321_32 hF)) ?_
    refine wp_run 2 (pc' := 217) (ls' := [(2, 321), (0, x1)]) (st' := [(2, 321), (0, x1), (2, 338)]) rfl ?_
    refine wp_gf (pc' := 220) (t := 2) (v := 333) rfl rfl (by decide) rfl rfl (z_upq (by decide) (fx_321_27 hF)) ?_
    refine wp_run 1 (pc' := 221) (ls' := [(2, 321), (0, x1)]) (st' := [(0, x1), (2, 333), (0, x1), (2, 338)]) rfl ?_
    refine wp_iald (pc' := 222) (v := (M 333 x1)) rfl rfl rfl (b1 c1) (z_upq (by decide) rfl) ?_
    refine wp_iast (pc' := 223) rfl rfl rfl (b1 c1) ?_
    refine wp_run 1 (pc' := 224) (ls' := [(2, 321), (0, x1)]) (st' := [(2, 321)]) rfl ?_
    refine wp_gf (pc' := 227) (t := 2) (v := 339) rfl rfl (by decide) rfl rfl (z_upq (by decide) (z_upq (by decide) (fx_321_33 hF))) ?_
    refine wp_run 2 (pc' := 229) (ls' := [(2, 321), (0, x1)]) (st' := [(2, 321), (0, x1), (2, 339)]) rfl ?_
    refine wp_gf (pc' := 232) (t := 2) (v := 334) rfl rfl (by decide) rfl rfl (z_upq (by decide) (z_upq (by decide) (fx_321_28 hF))) ?_
    refine wp_run 1 (pc' := 233) (ls' := [(2, 321), (0, x1)]) (st' := [(0, x1), (2, 334), (0, x1), (2, 339)]) rfl ?_
    refine wp_iald (pc' := 234) (v := (M 334 x1)) rfl rfl rfl (b1 c1) (z_upq (by decide) (z_upq (by decide) rfl)) ?_
    refine wp_iast (pc' := 235) rfl rfl rfl (b1 c1) ?_
    refine wp_run 1 (pc' := 236) (ls' := [(2, 321), (0, x1)]) (st' := [(2, 321)]) rfl ?_
    refine wp_gf (pc' := 239) (t := 2) (v := 341) rfl rfl (by decide) rfl rfl (z_upq (by decide) (z_upq (by decide) (z_upq (by decide) (fx_321_35 hF)))) ?_
    refine wp_run 2 (pc' := 241) (ls' := [(2, 321), (0, x1)]) (st' := [(2, 321), (0, x1), (2, 341)]) rfl ?_
    refine wp_gf (pc' := 244) (t := 2) (v := 336) rfl rfl (by decide) rfl rfl (z_upq (by decide) (z_upq (by decide) (z_upq (by decide) (fx_321_30 hF)))) ?_
    refine wp_run 1 (pc' := 245) (ls' := [(2, 321), (0, x1)]) (st' := [(0, x1), (2, 336), (0, x1), (2, 341)]) rfl ?_
    refine wp_iald (pc' := 246) (v := (M 336 x1)) rfl rfl rfl (b1 c1) (z_upq (by decide) (z_upq (by decide) (z_upq (by decide) rfl))) ?_
    refine wp_iast (pc' := 247) rfl rfl rfl (b1 c1) ?_
    refine wp_run 1 (pc' := 248) (ls' := [(2, 321), (0, x1)]) (st' := [(2, 321)]) rfl ?_
    refine wp_gf (pc' := 251) (t := 2) (v := 342) rfl rfl (by decide) rfl rfl (z_upq (by decide) (z_upq (by decide) (z_upq (by decide) (z_upq (by decide) (fx_321_60 hF))))) ?_
    refine wp_run 3 (pc' := 254) (ls' := [(2, 321), (0, x1)]) (st' := [(2, 321), (0, x1), (0, x1), (2, 342)]) rfl ?_
    refine wp_gf (pc' := 257) (t := 0) (v := (M 321 48)) rfl rfl (by decide) rfl rfl (z_upq (by decide) (z_upq (by decide) (z_upq (by decide) (z_upq (by decide) rfl)))) ?_
    refine wp_if2 rfl rfl rfl (fun (c2 : (M 321 48) ≤ x1) => ?_) (fun (c2 : ¬ ((M 321 48) ≤ x1)) => ?_)
    · refine wp_run 1 (pc' := 270) (ls' := [(2, 321), (0, x1)]) (st' := [(0, 0), (0, x1), (2, 342)]) rfl ?_
      refine wp_iast (pc' := 271) rfl rfl rfl (b2 c1 c2) ?_
      refine wp_run 1 (pc' := 272) (ls' := [(2, 321), (0, x1)]) (st' := [(2, 321)]) rfl ?_
      refine wp_gf (pc' := 275) (t := 2) (v := 342) rfl rfl (by decide) rfl rfl (z_upq (by decide) (z_upq (by decide) (z_upq (by decide) (z_upq (by decide) (z_upq (by decide) (fx_321_60 hF)))))) ?_
      refine wp_run 4 (pc' := 280) (ls' := [(2, 321), (0, x1)]) (st' := [(0, (-1)), (0, (z_w (12 + x1))), (2, 342)]) rfl ?_
      refine wp_iast (pc' := 281) rfl rfl rfl (b3 c1 c2) ?_
      refine wp_run 2 (pc' := 193) (ls' := [(2, 321), (0, (z_w (x1 + 1)))]) (st' := []) rfl ?_
      exact l2 c1 c2
    · refine wp_run 1 (pc' := 261) (ls' := [(2, 321), (0, x1)]) (st' := [(2, 321), (0, x1), (2, 342)]) rfl ?_
      refine wp_gf (pc' := 264) (t := 2) (v := 333) rfl rfl (by decide) rfl rfl (z_upq (by decide) (z_upq (by decide) (z_upq (by decide) (z_upq (by decide) (fx_321_27 hF))))) ?_
      refine wp_run 1 (pc' := 265) (ls' := [(2, 321), (0, x1)]) (st' := [(0, x1), (2, 333), (0, x1), (2, 342)]) rfl ?_
      refine wp_iald (pc' := 266) (v := (M 333 x1)) rfl rfl rfl (b1 c1) (z_upq (by decide) (z_upq (by decide) (z_upq (by decide) (z_upq (by decide) rfl)))) ?_
      refine wp_run 1 (pc' := 270) (ls' := [(2, 321), (0, x1)]) (st' := [(0, (M 333 x1)), (0, x1), (2, 342)]) rfl ?_
      refine wp_iast (pc' := 271) rfl rfl rfl (b4 c1 c2) ?_
      refine wp_run 1 (pc' := 272) (ls' := [(2, 321), (0, x1)]) (st' := [(2, 321)]) rfl ?_
      refine wp_gf (pc' := 275) (t := 2) (v := 342) rfl rfl (by decide) rfl rfl (z_upq (by decide) (z_upq (by decide) (z_upq (by decide) (z_upq (by decide) (z_upq (by decide) (fx_321_60 hF)))))) ?_
      refine wp_run 4 (pc' := 280) (ls' := [(2, 321), (0, x1)]) (st' := [(0, (-1)), (0, (z_w (12 + x1))), (2, 342)]) rfl ?_
      refine wp_iast (pc' := 281) rfl rfl rfl (b5 c1 c2) ?_
      refine wp_run 2 (pc' := 193) (ls' := [(2, 321), (0, (z_w (x1 + 1)))]) (st' := []) rfl ?_
      exact l3 c1 c2
set_option maxRecDepth 20000 in
theorem gX10_gorge_289 {xs : List Int} {d : Nat} {M : z_M} {P : Option z_V → z_L → z_M → Prop} {x1 : Int} (hF : z_fix M) (hC : z_mc M) 
    (l1 : ((M 321 46 * M 321 47) ≤ x1) → wp xs (d + 1) mX10_gorge 367 [(2, 321), (0, 0)] [] z_LL (z_up (z_up (z_up (z_up (z_up M 342 105 (M 321 45)) 321 64 0) 321 65 0) 321 76 0) 321 68 0) P)
    (b1 : (¬ ((M 321 46 * M 321 47) ≤ x1)) → 0 ≤ x1 ∧ x1 < 25)
    (b2 : (¬ ((M 321 46 * M 321 47) ≤ x1)) → (0 ≤ (M 331 x1)) → 0 ≤ (z_w (54 + x1)) ∧ (z_w (54 + x1)) < 106)
    (l2 : (¬ ((M 321 46 * M 321 47) ≤ x1)) → (0 ≤ (M 331 x1)) → wp xs (d + 1) mX10_gorge 289 [(2, 321), (0, (z_w (x1 + 1)))] [] z_LL (z_up M 342 (z_w (54 + x1)) (M 331 x1)) P)
    (b3 : (¬ ((M 321 46 * M 321 47) ≤ x1)) → (¬ (0 ≤ (M 331 x1))) → 0 ≤ (z_w (54 + x1)) ∧ (z_w (54 + x1)) < 106)
    (l3 : (¬ ((M 321 46 * M 321 47) ≤ x1)) → (¬ (0 ≤ (M 331 x1))) → wp xs (d + 1) mX10_gorge 289 [(2, 321), (0, (z_w (x1 + 1)))] [] z_LL (z_up M 342 (z_w (54 + x1)) (M 321 38)) P) :
    wp xs (d + 1) mX10_gorge 289 [(2, 321), (0, x1)] [] z_LL M P := by
  refine wp_run 2 (pc' := 291) (ls' := [(2, 321), (0, x1)]) (st' := [(2, 321), (0, x1)]) rfl ?_
  refine wp_callv (pc' := 294) (as := [(2, 321)]) (rest := [(0, x1)]) (ls1 := [(2, 321)]) rfl rfl rfl rfl rfl rfl ?_
  refine s_X10_all hF hC ?_
  show wp xs _ mX10_gorge 294 [(2, 321), (0, x1)] [(0, (M 321 46 * M 321 47)), (0, x1)] z_LL M _
  refine wp_if2 rfl rfl rfl (fun (c1 : (M 321 46 * M 321 47) ≤ x1) => ?_) (fun (c1 : ¬ ((M 321 46 * M 321 47) ≤ x1)) => ?_)
  · refine wp_run 1 (pc' := 335) (ls' := [(2, 321), (0, x1)]) (st' := [(2, 321)]) rfl ?_
    refine wp_gf (pc' := 338) (t := 2) (v := 342) rfl rfl (by decide) rfl rfl (fx_321_60 hF) ?_
    refine wp_run 2 (pc' := 341) (ls' := [(2, 321), (0, x1)]) (st' := [(2, 321), (0, 105), (2, 342)]) rfl ?_
    refine wp_gf (pc' := 344) (t := 0) (v := (M 321 45)) rfl rfl (by decide) rfl rfl rfl ?_
    refine wp_iast (pc' := 345) rfl rfl rfl ⟨by decide, by decide⟩ ?_
    refine wp_run 2 (pc' := 347) (ls' := [(2, 321), (0, x1)]) (st' := [(0, 0), (2, 321)]) rfl ?_
    refine wp_pf (pc' := 350) rfl rfl rfl rfl (fun z => absurd z (by decide)) (fun z => absurd z (by decide)) ?_
    refine wp_run 2 (pc' := 352) (ls' := [(2, 321), (0, x1)]) (st' := [(0, 0), (2, 321)]) rfl ?_
    refine wp_pf (pc' := 355) rfl rfl rfl rfl (fun z => absurd z (by decide)) (fun z => absurd z (by decide)) ?_
    refine wp_run 2 (pc' := 357) (ls' := [(2, 321), (0, x1)]) (st' := [(0, 0), (2, 321)]) rfl ?_
    refine wp_pf (pc' := 360) rfl rfl rfl rfl (fun z => absurd z (by decide)) (fun z => absurd z (by decide)) ?_
    refine wp_run 2 (pc' := 362) (ls' := [(2, 321), (0, x1)]) (st' := [(0, 0), (2, 321)]) rfl ?_
    refine wp_pf (pc' := 365) rfl rfl rfl rfl (fun z => absurd z (by decide)) (fun z => absurd z (by decide)) ?_
    refine wp_run 2 (pc' := 367) (ls' := [(2, 321), (0, 0)]) (st' := []) rfl ?_
    exact l1 c1
  · refine wp_run 1 (pc' := 298) (ls' := [(2, 321), (0, x1)]) (st' := [(2, 321)]) rfl ?_
    refine wp_gf (pc' := 301) (t := 2) (v := 342) rfl rfl (by decide) rfl rfl (fx_321_60 hF) ?_
    refine wp_run 4 (pc' := 306) (ls' := [(2, 321), (0, x1)]) (st' := [(2, 321), (0, (z_w (54 + x1))), (2, 342)]) rfl ?_
    refine wp_gf (pc' := 309) (t := 2) (v := 331) rfl rfl (by decide) rfl rfl (fx_321_25 hF) ?_
    refine wp_run 1 (pc' := 310) (ls' := [(2, 321), (0, x1)]) (st' := [(0, x1), (2, 331), (0, (z_w (54 + x1))), (2, 342)]) rfl ?_
    refine wp_iald (pc' := 311) (v := (M 331 x1)) rfl rfl rfl (b1 c1) rfl ?_
    refine wp_if1 rfl rfl rfl (fun (c2 : 0 ≤ (M 331 x1)) => ?_) (fun (c2 : ¬ (0 ≤ (M 331 x1))) => ?_)
    · refine wp_run 1 (pc' := 322) (ls' := [(2, 321), (0, x1)]) (st' := [(2, 321), (0, (z_w (54 + x1))), (2, 342)]) rfl ?_
      refine wp_gf (pc' := 325) (t := 2) (v := 331) rfl rfl (by decide) rfl rfl (fx_321_25 hF) ?_
      refine wp_run 1 (pc' := 326) (ls' := [(2, 321), (0, x1)]) (st' := [(0, x1), (2, 331), (0, (z_w (54 + x1))), (2, 342)]) rfl ?_
      refine wp_iald (pc' := 327) (v := (M 331 x1)) rfl rfl rfl (b1 c1) rfl ?_
      refine wp_iast (pc' := 328) rfl rfl rfl (b2 c1 c2) ?_
      refine wp_run 2 (pc' := 289) (ls' := [(2, 321), (0, (z_w (x1 + 1)))]) (st' := []) rfl ?_
      exact l2 c1 c2
    · refine wp_run 1 (pc' := 315) (ls' := [(2, 321), (0, x1)]) (st' := [(2, 321), (0, (z_w (54 + x1))), (2, 342)]) rfl ?_
      refine wp_gf (pc' := 318) (t := 0) (v := (M 321 38)) rfl rfl (by decide) rfl rfl rfl ?_
      refine wp_run 1 (pc' := 327) (ls' := [(2, 321), (0, x1)]) (st' := [(0, (M 321 38)), (0, (z_w (54 + x1))), (2, 342)]) rfl ?_
      refine wp_iast (pc' := 328) rfl rfl rfl (b3 c1 c2) ?_
      refine wp_run 2 (pc' := 289) (ls' := [(2, 321), (0, (z_w (x1 + 1)))]) (st' := []) rfl ?_
      exact l3 c1 c2
set_option maxRecDepth 20000 in
theorem gX10_gorge_367 {xs : List Int} {d : Nat} {M : z_M} {P : Option z_V → z_L → z_M → Prop} {x1 : Int} (hF : z_fix M) 
    (l1 : (3 ≤ x1) → P (some (0, (M 321 48))) z_LL M)
    (b1 : (¬ (3 ≤ x1)) → 0 ≤ x1 ∧ x1 < 3)
    (l2 : (¬ (3 ≤ x1)) → wp xs d mX10_gorge 367 [(2, 321), (0, (z_w (x1 + 1)))] [] z_LL (z_up M 356 x1 (z_and 0 1)) P) :
    wp xs d mX10_gorge 367 [(2, 321), (0, x1)] [] z_LL M P := by
  refine wp_run 2 (pc' := 369) (ls' := [(2, 321), (0, x1)]) (st' := [(0, 3), (0, x1)]) rfl ?_
  refine wp_if2 rfl rfl rfl (fun (c1 : 3 ≤ x1) => ?_) (fun (c1 : ¬ (3 ≤ x1)) => ?_)
  · refine wp_run 1 (pc' := 386) (ls' := [(2, 321), (0, x1)]) (st' := [(2, 321)]) rfl ?_
    refine wp_gf (pc' := 389) (t := 0) (v := (M 321 48)) rfl rfl (by decide) rfl rfl rfl ?_
    exact wp_ret rfl rfl (l1 c1)
  · refine wp_run 1 (pc' := 373) (ls' := [(2, 321), (0, x1)]) (st' := [(2, 321)]) rfl ?_
    refine wp_gf (pc' := 376) (t := 2) (v := 356) rfl rfl (by decide) rfl rfl (fx_321_79 hF) ?_
    refine wp_run 2 (pc' := 378) (ls' := [(2, 321), (0, x1)]) (st' := [(0, 0), (0, x1), (2, 356)]) rfl ?_
    refine wp_bast (pc' := 379) rfl rfl rfl rfl (b1 c1) ?_
    show wp xs _ mX10_gorge 379 [(2, 321), (0, x1)] [] z_LL (z_up M 356 x1 (z_and 0 1)) _
    refine wp_run 2 (pc' := 367) (ls' := [(2, 321), (0, (z_w (x1 + 1)))]) (st' := []) rfl ?_
    exact l2 c1
set_option maxRecDepth 20000 in
theorem gX2_begin_0 {xs : List Int} {d : Nat} {M : z_M} {P : Option z_V → z_L → z_M → Prop} {h : Int} {a1 : Int} (hh : z_her M h) (ha1 : z_gor M a1)
    (l1 : wp xs d mX2_begin 17 [(2, h), (2, a1), (0, 0)] [] z_LL (z_cpy M (a1 + 4) 0 (h + 1) 0 6) P) :
    wp xs d mX2_begin 0 [(2, h), (2, a1), (3, 0)] [] z_LL M P := by
  refine wp_run 1 (pc' := 1) (ls' := [(2, h), (2, a1), (3, 0)]) (st' := [(2, a1)]) rfl ?_
  refine wp_gf (pc' := 4) (t := 2) (v := (a1 + 4)) rfl rfl (by decide) rfl (z_gl0 ha1) (z_gf3 ha1) ?_
  refine wp_run 2 (pc' := 6) (ls' := [(2, h), (2, a1), (3, 0)]) (st' := [(2, h), (0, 0), (2, (a1 + 4))]) rfl ?_
  refine wp_gf (pc' := 9) (t := 2) (v := (h + 1)) rfl rfl (by decide) rfl (z_hl0 hh) (z_hf0 hh) ?_
  refine wp_run 2 (pc' := 12) (ls' := [(2, h), (2, a1), (3, 0)]) (st' := [(0, 6), (0, 0), (2, (h + 1)), (0, 0), (2, (a1 + 4))]) rfl ?_
  refine wp_acp (pc' := 15) rfl rfl (z_gl4 ha1) (z_hl1 hh) (by decide) ?_
  refine wp_run 2 (pc' := 17) (ls' := [(2, h), (2, a1), (0, 0)]) (st' := []) rfl ?_
  exact l1
set_option maxRecDepth 20000 in
theorem gX2_begin_17 {xs : List Int} {d : Nat} {M : z_M} {P : Option z_V → z_L → z_M → Prop} {x0 : Int} {x1 : Int} {x2 : Int} (hx0 : z_her M x0) (hx1 : z_gor M x1)
    (l1 : (25 ≤ x2) → wp xs (d + 1) mJ7_fill_53178 0 [(2, (x0 + 2)), (0, (-1)), (3, 0), (3, 0)] [] z_LL M (fun r L1 M1 => wp xs (d + 2) mX2_begin 61 [(2, x0), (2, x1), (0, x2)] (z_ol r ++ []) L1 M1 P))
    (b1 : (¬ (25 ≤ x2)) → (x2 < 0) → 0 ≤ x2 ∧ x2 < 25)
    (l2 : (¬ (25 ≤ x2)) → (x2 < 0) → wp xs (d + 2) mX2_begin 17 [(2, x0), (2, x1), (0, (z_w (x2 + 1)))] [] z_LL (z_up M (x0 + 3) x2 0) P)
    (b2 : (¬ (25 ≤ x2)) → (¬ (x2 < 0)) → ((z_w ((M x1 10) * (M x1 11))) ≤ x2) → 0 ≤ x2 ∧ x2 < 25)
    (l3 : (¬ (25 ≤ x2)) → (¬ (x2 < 0)) → ((z_w ((M x1 10) * (M x1 11))) ≤ x2) → wp xs (d + 2) mX2_begin 17 [(2, x0), (2, x1), (0, (z_w (x2 + 1)))] [] z_LL (z_up M (x0 + 3) x2 0) P)
    (b3 : (¬ (25 ≤ x2)) → (¬ (x2 < 0)) → (¬ ((z_w ((M x1 10) * (M x1 11))) ≤ x2)) → 0 ≤ x2 ∧ x2 < 25)
    (l4 : (¬ (25 ≤ x2)) → (¬ (x2 < 0)) → (¬ ((z_w ((M x1 10) * (M x1 11))) ≤ x2)) → wp xs (d + 2) mX2_begin 17 [(2, x0), (2, x1), (0, (z_w (x2 + 1)))] [] z_LL (z_up M (x0 + 3) x2 (M (x1 + 7) x2)) P) :
    wp xs (d + 2) mX2_begin 17 [(2, x0), (2, x1), (0, x2)] [] z_LL M P := by
  refine wp_run 2 (pc' := 20) (ls' := [(2, x0), (2, x1), (0, x2)]) (st' := [(0, 25), (0, x2)]) rfl ?_
  refine wp_if2 rfl rfl rfl (fun (c1 : 25 ≤ x2) => ?_) (fun (c1 : ¬ (25 ≤ x2)) => ?_)
  · refine wp_run 1 (pc' := 54) (ls' := [(2, x0), (2, x1), (0, x2)]) (st' := [(2, x0)]) rfl ?_
    refine wp_gf (pc' := 57) (t := 2) (v := (x0 + 2)) rfl rfl (by decide) rfl (z_hl0 hx0) (z_hf1 hx0) ?_
    refine wp_run 1 (pc' := 58) (ls' := [(2, x0), (2, x1), (0, x2)]) (st' := [(0, (-1)), (2, (x0 + 2))]) rfl ?_
    refine wp_callv (pc' := 61) (as := [(2, (x0 + 2)), (0, (-1))]) (rest := []) (ls1 := [(2, (x0 + 2)), (0, (-1)), (3, 0), (3, 0)]) rfl rfl rfl rfl rfl rfl ?_
    exact l1 c1
  · refine wp_run 1 (pc' := 24) (ls' := [(2, x0), (2, x1), (0, x2)]) (st' := [(2, x0)]) rfl ?_
    refine wp_gf (pc' := 27) (t := 2) (v := (x0 + 3)) rfl rfl (by decide) rfl (z_hl0 hx0) (z_hf2 hx0) ?_
    refine wp_run 3 (pc' := 30) (ls' := [(2, x0), (2, x1), (0, x2)]) (st' := [(0, x2), (2, x1), (0, x2), (2, (x0 + 3))]) rfl ?_
    refine wp_callv (pc' := 33) (as := [(2, x1), (0, x2)]) (rest := [(0, x2), (2, (x0 + 3))]) (ls1 := [(2, x1), (0, x2)]) rfl rfl rfl rfl (z_args_v rfl rfl rfl rfl (Nat.le_of_ble_eq_true rfl) rfl (by decide) (z_gl0 hx1)) rfl ?_
    refine wp_run 1 (pc' := 1) (ls' := [(2, x1), (0, x2)]) (st' := [(0, x2)]) rfl ?_
    refine wp_if1 rfl rfl rfl (fun (c2 : x2 < 0) => ?_) (fun (c2 : ¬ (x2 < 0)) => ?_)
    · refine wp_run 1 (pc' := 17) (ls' := [(2, x1), (0, x2)]) (st' := [(0, 0)]) rfl ?_
      refine wp_ret rfl rfl ?_
      show wp xs _ mX2_begin 33 [(2, x0), (2, x1), (0, x2)] [(0, 0), (0, x2), (2, (x0 + 3))] z_LL M _
      refine wp_run 2 (pc' := 46) (ls' := [(2, x0), (2, x1), (0, x2)]) (st' := [(0, 0), (0, x2), (2, (x0 + 3))]) rfl ?_
      refine wp_iast (pc' := 47) rfl rfl (z_hl3 hx0) (b1 c1 c2) ?_
      refine wp_run 2 (pc' := 17) (ls' := [(2, x0), (2, x1), (0, (z_w (x2 + 1)))]) (st' := []) rfl ?_
      exact l2 c1 c2
    · refine wp_run 2 (pc' := 6) (ls' := [(2, x1), (0, x2)]) (st' := [(2, x1), (0, x2)]) rfl ?_
      refine wp_callv (pc' := 9) (as := [(2, x1)]) (rest := [(0, x2)]) (ls1 := [(2, x1)]) rfl rfl rfl rfl (z_args_v rfl rfl rfl rfl (Nat.le_of_ble_eq_true rfl) rfl (by decide) (z_gl0 hx1)) rfl ?_
      refine wp_run 1 (pc' := 1) (ls' := [(2, x1)]) (st' := [(2, x1)]) rfl ?_
      refine wp_gf (pc' := 4) (t := 0) (v := (M x1 10)) rfl rfl (by decide) rfl (z_gl0 hx1) rfl ?_
      refine wp_run 1 (pc' := 5) (ls' := [(2, x1)]) (st' := [(2, x1), (0, (M x1 10))]) rfl ?_
      refine wp_gf (pc' := 8) (t := 0) (v := (M x1 11)) rfl rfl (by decide) rfl (z_gl0 hx1) rfl ?_
      refine wp_run 1 (pc' := 9) (ls' := [(2, x1)]) (st' := [(0, (z_w ((M x1 10) * (M x1 11))))]) rfl ?_
      refine wp_ret rfl rfl ?_
      show wp xs _ mX1_hasCell 9 [(2, x1), (0, x2)] [(0, (z_w ((M x1 10) * (M x1 11)))), (0, x2)] z_LL M _
      refine wp_if2 rfl rfl rfl (fun (c3 : (z_w ((M x1 10) * (M x1 11))) ≤ x2) => ?_) (fun (c3 : ¬ ((z_w ((M x1 10) * (M x1 11))) ≤ x2)) => ?_)
      · refine wp_run 1 (pc' := 17) (ls' := [(2, x1), (0, x2)]) (st' := [(0, 0)]) rfl ?_
        refine wp_ret rfl rfl ?_
        show wp xs _ mX2_begin 33 [(2, x0), (2, x1), (0, x2)] [(0, 0), (0, x2), (2, (x0 + 3))] z_LL M _
        refine wp_run 2 (pc' := 46) (ls' := [(2, x0), (2, x1), (0, x2)]) (st' := [(0, 0), (0, x2), (2, (x0 + 3))]) rfl ?_
        refine wp_iast (pc' := 47) rfl rfl (z_hl3 hx0) (b2 c1 c2 c3) ?_
        refine wp_run 2 (pc' := 17) (ls' := [(2, x0), (2, x1), (0, (z_w (x2 + 1)))]) (st' := []) rfl ?_
        exact l3 c1 c2 c3
      · refine wp_run 2 (pc' := 17) (ls' := [(2, x1), (0, x2)]) (st' := [(0, 1)]) rfl ?_
        refine wp_ret rfl rfl ?_
        show wp xs _ mX2_begin 33 [(2, x0), (2, x1), (0, x2)] [(0, 1), (0, x2), (2, (x0 + 3))] z_LL M _
        refine wp_run 2 (pc' := 37) (ls' := [(2, x0), (2, x1), (0, x2)]) (st' := [(2, x1), (0, x2), (2, (x0 + 3))]) rfl ?_
        refine wp_gf (pc' := 40) (t := 2) (v := (x1 + 7)) rfl rfl (by decide) rfl (z_gl0 hx1) (z_gf6 hx1) ?_
        refine wp_run 1 (pc' := 41) (ls' := [(2, x0), (2, x1), (0, x2)]) (st' := [(0, x2), (2, (x1 + 7)), (0, x2), (2, (x0 + 3))]) rfl ?_
        refine wp_iald (pc' := 42) (v := (M (x1 + 7) x2)) rfl rfl (z_gl7 hx1) (b3 c1 c2 c3) rfl ?_
        refine wp_run 1 (pc' := 46) (ls' := [(2, x0), (2, x1), (0, x2)]) (st' := [(0, (M (x1 + 7) x2)), (0, x2), (2, (x0 + 3))]) rfl ?_
        refine wp_iast (pc' := 47) rfl rfl (z_hl3 hx0) (b3 c1 c2 c3) ?_
        refine wp_run 2 (pc' := 17) (ls' := [(2, x0), (2, x1), (0, (z_w (x2 + 1)))]) (st' := []) rfl ?_
        exact l4 c1 c2 c3
set_option maxRecDepth 20000 in
theorem gX2_begin_61 {xs : List Int} {d : Nat} {M : z_M} {P : Option z_V → z_L → z_M → Prop} {x0 : Int} {x1 : Int} {x2 : Int} (hx0 : z_her M x0) (hx1 : z_gor M x1)
    (l1 : wp xs d mJ7_fill_53178 0 [(2, (x0 + 4)), (0, 0), (3, 0), (3, 0)] [] z_LL M (fun r L1 M1 => wp xs (d + 1) mX2_begin 69 [(2, x0), (2, x1), (0, x2)] (z_ol r ++ []) L1 M1 P)) :
    wp xs (d + 1) mX2_begin 61 [(2, x0), (2, x1), (0, x2)] [] z_LL M P := by
  refine wp_run 1 (pc' := 62) (ls' := [(2, x0), (2, x1), (0, x2)]) (st' := [(2, x0)]) rfl ?_
  refine wp_gf (pc' := 65) (t := 2) (v := (x0 + 4)) rfl rfl (by decide) rfl (z_hl0 hx0) (z_hf3 hx0) ?_
  refine wp_run 1 (pc' := 66) (ls' := [(2, x0), (2, x1), (0, x2)]) (st' := [(0, 0), (2, (x0 + 4))]) rfl ?_
  refine wp_callv (pc' := 69) (as := [(2, (x0 + 4)), (0, 0)]) (rest := []) (ls1 := [(2, (x0 + 4)), (0, 0), (3, 0), (3, 0)]) rfl rfl rfl rfl rfl rfl ?_
  exact l1
set_option maxRecDepth 20000 in
theorem gX2_begin_69 {xs : List Int} {d : Nat} {M : z_M} {P : Option z_V → z_L → z_M → Prop} {x0 : Int} {x1 : Int} {x2 : Int} (hx0 : z_her M x0) (hx1 : z_gor M x1)
    (l1 : wp xs d mJ7_fill_53178 0 [(2, (x0 + 5)), (0, 0), (3, 0), (3, 0)] [] z_LL M (fun r L1 M1 => wp xs (d + 1) mX2_begin 77 [(2, x0), (2, x1), (0, x2)] (z_ol r ++ []) L1 M1 P)) :
    wp xs (d + 1) mX2_begin 69 [(2, x0), (2, x1), (0, x2)] [] z_LL M P := by
  refine wp_run 1 (pc' := 70) (ls' := [(2, x0), (2, x1), (0, x2)]) (st' := [(2, x0)]) rfl ?_
  refine wp_gf (pc' := 73) (t := 2) (v := (x0 + 5)) rfl rfl (by decide) rfl (z_hl0 hx0) (z_hf4 hx0) ?_
  refine wp_run 1 (pc' := 74) (ls' := [(2, x0), (2, x1), (0, x2)]) (st' := [(0, 0), (2, (x0 + 5))]) rfl ?_
  refine wp_callv (pc' := 77) (as := [(2, (x0 + 5)), (0, 0)]) (rest := []) (ls1 := [(2, (x0 + 5)), (0, 0), (3, 0), (3, 0)]) rfl rfl rfl rfl rfl rfl ?_
  exact l1
set_option maxRecDepth 20000 in
theorem gX2_begin_77 {xs : List Int} {d : Nat} {M : z_M} {P : Option z_V → z_L → z_M → Prop} {x0 : Int} {x1 : Int} {x2 : Int} (hx0 : z_her M x0) (hx1 : z_gor M x1)
    (l1 : P none z_LL (z_up (z_up (z_up M x0 5 0) x0 6 0) x0 7 (M x1 19))) :
    wp xs d mX2_begin 77 [(2, x0), (2, x1), (0, x2)] [] z_LL M P := by
  refine wp_run 2 (pc' := 79) (ls' := [(2, x0), (2, x1), (0, x2)]) (st' := [(0, 0), (2, x0)]) rfl ?_
  refine wp_pf (pc' := 82) rfl rfl rfl (z_hl0 hx0) (fun z => absurd z (by decide)) (fun z => absurd z (by decide)) ?_
  refine wp_run 2 (pc' := 84) (ls' := [(2, x0), (2, x1), (0, x2)]) (st' := [(0, 0), (2, x0)]) rfl ?_
  refine wp_pf (pc' := 87) rfl rfl rfl (z_hl0 hx0) (fun z => absurd z (by decide)) (fun z => absurd z (by decide)) ?_
  refine wp_run 2 (pc' := 89) (ls' := [(2, x0), (2, x1), (0, x2)]) (st' := [(2, x1), (2, x0)]) rfl ?_
  refine wp_gf (pc' := 92) (t := 0) (v := (M x1 19)) rfl rfl (by decide) rfl (z_gl0 hx1) (z_upq (by have := z_hr hx0; have := z_gr hx1; omega) (z_upq (by have := z_hr hx0; have := z_gr hx1; omega) rfl)) ?_
  refine wp_pf (pc' := 95) rfl rfl rfl (z_hl0 hx0) (fun z => absurd z (by decide)) (fun z => absurd z (by decide)) ?_
  exact wp_ret rfl rfl (l1)
set_option maxRecDepth 20000 in
theorem gX4_forget_0 {xs : List Int} {d : Nat} {M : z_M} {P : Option z_V → z_L → z_M → Prop} 
    (l1 : P none z_LL (z_up (z_up M 47 1 0) 47 2 0)) :
    wp xs d mX4_forget 0 [(2, 47)] [] z_LL M P := by
  refine wp_run 2 (pc' := 2) (ls' := [(2, 47)]) (st' := [(0, 0), (2, 47)]) rfl ?_
  refine wp_pf (pc' := 5) rfl rfl rfl rfl (fun z => absurd z (by decide)) (fun z => absurd z (by decide)) ?_
  refine wp_run 2 (pc' := 7) (ls' := [(2, 47)]) (st' := [(0, 0), (2, 47)]) rfl ?_
  refine wp_pf (pc' := 10) rfl rfl rfl rfl (fun z => absurd z (by decide)) (fun z => absurd z (by decide)) ?_
  exact wp_ret rfl rfl (l1)
set_option maxRecDepth 20000 in
theorem gX9_settle_0 {xs : List Int} {d : Nat} {M : z_M} {P : Option z_V → z_L → z_M → Prop} (hF : z_fix M) (hg1 : z_gor M (M 1 0)) (hh2 : z_her M (M 1 2))
    (l1 : wp xs d mX2_begin 0 [(2, (M 1 2)), (2, (M 1 0)), (3, 0)] [] z_LL (z_up M 34 3 (M 1 0)) (fun r L1 M1 => wp xs (d + 1) mX9_settle 22 [(2, 1)] (z_ol r ++ []) L1 M1 P)) :
    wp xs (d + 1) mX9_settle 0 [(2, 1)] [] z_LL M P := by
  refine wp_run 1 (pc' := 1) (ls' := [(2, 1)]) (st' := [(2, 1)]) rfl ?_
  refine wp_gf (pc' := 4) (t := 2) (v := 34) rfl rfl (by decide) rfl rfl (fx_1_5 hF) ?_
  refine wp_run 1 (pc' := 5) (ls' := [(2, 1)]) (st' := [(2, 1), (2, 34)]) rfl ?_
  refine wp_gf (pc' := 8) (t := 2) (v := (M 1 0)) rfl rfl (by decide) rfl rfl rfl ?_
  refine wp_pf (pc' := 11) rfl rfl rfl rfl (fun _ => by have := z_gr hg1; omega) (fun z => absurd z (by decide)) ?_
  refine wp_run 1 (pc' := 12) (ls' := [(2, 1)]) (st' := [(2, 1)]) rfl ?_
  refine wp_gf (pc' := 15) (t := 2) (v := (M 1 2)) rfl rfl (by decide) rfl rfl (z_upq (by decide) rfl) ?_
  refine wp_run 1 (pc' := 16) (ls' := [(2, 1)]) (st' := [(2, 1), (2, (M 1 2))]) rfl ?_
  refine wp_gf (pc' := 19) (t := 2) (v := (M 1 0)) rfl rfl (by decide) rfl rfl (z_upq (by decide) rfl) ?_
  refine wp_callv (pc' := 22) (as := [(2, (M 1 2)), (2, (M 1 0))]) (rest := []) (ls1 := [(2, (M 1 2)), (2, (M 1 0)), (3, 0)]) rfl rfl rfl rfl (z_args_v rfl rfl rfl rfl (Nat.le_of_ble_eq_true rfl) rfl (by decide) (z_hl0 hh2)) rfl ?_
  exact l1
set_option maxRecDepth 20000 in
theorem gX9_settle_22 {xs : List Int} {d : Nat} {M : z_M} {P : Option z_V → z_L → z_M → Prop} (hF : z_fix M) 
    (l1 : P none z_LL (z_up (z_up (z_up (z_up (z_up M 47 1 0) 47 2 0) 294 6 0) 1 12 0) 1 13 0)) :
    wp xs (d + 1) mX9_settle 22 [(2, 1)] [] z_LL M P := by
  refine wp_run 1 (pc' := 23) (ls' := [(2, 1)]) (st' := [(2, 1)]) rfl ?_
  refine wp_gf (pc' := 26) (t := 2) (v := 47) rfl rfl (by decide) rfl rfl (fx_1_7 hF) ?_
  refine wp_callv (pc' := 29) (as := [(2, 47)]) (rest := []) (ls1 := [(2, 47)]) rfl rfl rfl rfl rfl rfl ?_
  refine wp_run 2 (pc' := 2) (ls' := [(2, 47)]) (st' := [(0, 0), (2, 47)]) rfl ?_
  refine wp_pf (pc' := 5) rfl rfl rfl rfl (fun z => absurd z (by decide)) (fun z => absurd z (by decide)) ?_
  refine wp_run 2 (pc' := 7) (ls' := [(2, 47)]) (st' := [(0, 0), (2, 47)]) rfl ?_
  refine wp_pf (pc' := 10) rfl rfl rfl rfl (fun z => absurd z (by decide)) (fun z => absurd z (by decide)) ?_
  refine wp_ret rfl rfl ?_
  show wp xs _ mX9_settle 29 [(2, 1)] [] z_LL (z_up (z_up M 47 1 0) 47 2 0) _
  refine wp_run 1 (pc' := 30) (ls' := [(2, 1)]) (st' := [(2, 1)]) rfl ?_
  refine wp_gf (pc' := 33) (t := 2) (v := 294) rfl rfl (by decide) rfl rfl (z_upq (by decide) (z_upq (by decide) (fx_1_9 hF))) ?_
  refine wp_run 1 (pc' := 34) (ls' := [(2, 1)]) (st' := [(0, 0), (2, 294)]) rfl ?_
  refine wp_pf (pc' := 37) rfl rfl rfl rfl (fun z => absurd z (by decide)) (fun z => absurd z (by decide)) ?_
  refine wp_run 2 (pc' := 39) (ls' := [(2, 1)]) (st' := [(0, 0), (2, 1)]) rfl ?_
  refine wp_pf (pc' := 42) rfl rfl rfl rfl (fun z => absurd z (by decide)) (fun z => absurd z (by decide)) ?_
  refine wp_run 2 (pc' := 44) (ls' := [(2, 1)]) (st' := [(0, 0), (2, 1)]) rfl ?_
  refine wp_pf (pc' := 47) rfl rfl rfl rfl (fun z => absurd z (by decide)) (fun z => absurd z (by decide)) ?_
  exact wp_ret rfl rfl (l1)
section
variable {xs : List Int} {d : Nat} {M G : z_M} {P : Option z_V → z_L → z_M → Prop}
theorem zx_F {M' : z_M} (f : ∀ q, q ≠ 321 → q ≠ 326 → q ≠ 327 → ¬ (337 ≤ q ∧ q ≤ 342) → q ≠ 356 → M' q = M q) (f2 : ∀ j, ¬ (j = 18 ∨ j = 21 ∨ (46 ≤ j ∧ j ≤ 52) ∨ j = 59 ∨ j = 64 ∨ j = 65 ∨ j = 68 ∨ j = 76) → M' 321 j = M 321 j) (hF : z_fix M) : z_fix M' := z_fix_gen hF (fun q i hq => by
  by_cases e : q = 321
  · rw [e] at hq ⊢
    exact f2 i (by unfold z_fin at hq; omega)
  · rw [f q e (by unfold z_fin at hq; omega) (by unfold z_fin at hq; omega) (by unfold z_fin at hq; omega) (by unfold z_fin at hq; omega)])
theorem zx_Fr {M' : z_M} {r : Int} (hr : r = 326 ∨ r = 327 ∨ (337 ≤ r ∧ r ≤ 342) ∨ r = 356) (f : ∀ q, q ≠ r → M' q = M q) (hF : z_fix M) : z_fix M' := zx_F (fun q h1 h2 h3 h4 h5 => f q (by omega)) (fun j _ => by rw [f 321 (by omega)]) hF
theorem m_367 {c : Int} (hF : z_fix M) (h48 : M 321 48 = c) (k : ∀ M' : z_M, (∀ q, q ≠ 356 → M' q = M q) → (∀ b : Int, 0 ≤ b → b < 3 → M' 356 b = 0) → P (some (0, c)) z_LL M') : wp xs d mX10_gorge 367 [(2, 321), (0, 0)] [] z_LL M P := by
  refine z_loop (W := fun i => ∀ M' : z_M, (∀ q, q ≠ 356 → M' q = M q) → (∀ b : Int, 0 ≤ b → b < i → M' 356 b = 0) → wp xs d mX10_gorge 367 [(2, 321), (0, (i : Int))] [] z_LL M' P) 3 (fun i hi ih M' f v => ?_) M (fun _ _ => rfl) (fun b a c => by omega)
  have t := gX10_gorge_367 (M := M') (xs := xs) (d := d) (P := P) (x1 := (i : Int)) (zx_Fr (by omega) f hF)
  rw [show z_w ((i : Int) + 1) = ((i + 1 : Nat) : Int) by rw [z_wid (by omega)]; omega, f 321 (by decide), h48, show z_and 0 1 = 0 by decide] at t
  refine t (fun w => k M' f (fun b a e => v b a (by omega))) (fun w => by omega) (fun w => ih (by omega) _ (fun q a => by rw [z_upn a, f q a]) (fun b a e => ?_))
  by_cases z : b = i
  · rw [z, z_ups]
  · rw [z_upi z rfl]
    exact v b a (by omega)
theorem m_106 (hF : z_fix M) (h18 : 0 ≤ M 321 18 ∧ M 321 18 ≤ 270) (k : ∀ M' : z_M, (∀ q, q ≠ 326 → q ≠ 327 → M' q = M q) → (∀ i : Int, 0 ≤ i → i < M 321 18 → M' 326 i = M 324 i ∧ M' 327 i = M 325 i) → wp xs d mX10_gorge 146 [(2, 321), (0, 0)] [] z_LL M' P) : wp xs d mX10_gorge 106 [(2, 321), (0, 0)] [] z_LL M P := by
  obtain ⟨N, hN⟩ : ∃ N : Nat, M 321 18 = (N : Int) := ⟨(M 321 18).toNat, by omega⟩
  refine z_loop (W := fun i => ∀ M' : z_M, (∀ q, q ≠ 326 → q ≠ 327 → M' q = M q) → (∀ j : Int, 0 ≤ j → j < i → M' 326 j = M 324 j ∧ M' 327 j = M 325 j) → wp xs d mX10_gorge 106 [(2, 321), (0, (i : Int))] [] z_LL M' P) N (fun i hi ih M' f v => ?_) M (fun _ _ _ => rfl) (fun b a c => by omega)
  have F' : z_fix M' := zx_F (fun q h1 h2 h3 h4 h5 => f q h2 h3) (fun j _ => by rw [f 321 (by decide) (by decide)]) hF
  have t := gX10_gorge_106 (M := M') (xs := xs) (d := d) (P := P) (x1 := (i : Int)) F'
  rw [show z_w ((i : Int) + 1) = ((i + 1 : Nat) : Int) by rw [z_wid (by omega)]; omega, f 321 (by decide) (by decide), hN, f 324 (by decide) (by decide), f 325 (by decide) (by decide)] at t
  refine t (fun w => k M' f (fun j a e => v j a (by omega))) (fun w => by omega) (fun w => ih (by omega) _ (fun q a e => by rw [z_upn e, z_upn a, f q a e]) (fun j a e => ?_))
  by_cases z : j = i
  · rw [z, z_upn (by decide), z_ups, z_ups]
    exact ⟨rfl, rfl⟩
  · rw [z_upn (by decide), z_upi z rfl, z_upi z rfl, z_upn (by decide)]
    exact v j a (by omega)
theorem m_146 (hF : z_fix M) (k : ∀ M' : z_M, (∀ q, q ≠ 340 → M' q = M q) → (∀ i : Int, 0 ≤ i → i < 36 → M' 340 i = M 335 i) → wp xs d mX10_gorge 172 [(2, 321), (0, 0)] [] z_LL M' P) : wp xs d mX10_gorge 146 [(2, 321), (0, 0)] [] z_LL M P := by
  refine z_loop (W := fun i => ∀ M' : z_M, (∀ q, q ≠ 340 → M' q = M q) → (∀ j : Int, 0 ≤ j → j < i → M' 340 j = M 335 j) → wp xs d mX10_gorge 146 [(2, 321), (0, (i : Int))] [] z_LL M' P) 36 (fun i hi ih M' f v => ?_) M (fun _ _ => rfl) (fun b a c => by omega)
  have t := gX10_gorge_146 (M := M') (xs := xs) (d := d) (P := P) (x1 := (i : Int)) (zx_Fr (by omega) f hF)
  rw [show z_w ((i : Int) + 1) = ((i + 1 : Nat) : Int) by rw [z_wid (by omega)]; omega, f 335 (by decide)] at t
  refine t (fun w => k M' f (fun j a e => v j a (by omega))) (fun w => by omega) (fun w => ih (by omega) _ (fun q a => by rw [z_upn a, f q a]) (fun j a e => ?_))
  by_cases z : j = i
  · rw [z, z_ups]
  · rw [z_upi z rfl]
    exact v j a (by omega)
theorem m_172 (hF : z_fix M) (k : ∀ M' : z_M, (∀ q, q ≠ 342 → M' q = M q) → (∀ i : Int, M' 342 i = if 0 ≤ i ∧ i < 106 then 0 else M 342 i) → wp xs d mX10_gorge 193 [(2, 321), (0, 0)] [] z_LL M' P) : wp xs d mX10_gorge 172 [(2, 321), (0, 0)] [] z_LL M P := by
  refine z_loop (W := fun i => ∀ M' : z_M, (∀ q, q ≠ 342 → M' q = M q) → (∀ j : Int, M' 342 j = if 0 ≤ j ∧ j < i then 0 else M 342 j) → wp xs d mX10_gorge 172 [(2, 321), (0, (i : Int))] [] z_LL M' P) 106 (fun i hi ih M' f v => ?_) M (fun _ _ => rfl) (fun j => (if_neg (by omega)).symm)
  have t := gX10_gorge_172 (M := M') (xs := xs) (d := d) (P := P) (x1 := (i : Int)) (zx_Fr (by omega) f hF)
  rw [show z_w ((i : Int) + 1) = ((i + 1 : Nat) : Int) by rw [z_wid (by omega)]; omega] at t
  refine t (fun w => k M' f (fun j => by rw [v j, show (i : Int) = 106 by omega])) (fun w => by omega) (fun w => ih (by omega) _ (fun q a => by rw [z_upn a, f q a]) (fun j => ?_))
  by_cases z : j = i
  · rw [z, z_ups, if_pos (by omega)]
  · rw [z_upi z rfl, v j]
    by_cases w2 : 0 ≤ j ∧ j < i
    · rw [if_pos w2, if_pos (by omega)]
    · rw [if_neg w2, if_neg (by omega)]
theorem m_193 {c : Int} (hF : z_fix M) (h48 : M 321 48 = c) (k : ∀ M' : z_M, (∀ q, ¬ (337 ≤ q ∧ q ≤ 339) → q ≠ 341 → q ≠ 342 → M' q = M q) → (∀ f : Int, 0 ≤ f → f < 6 → M' 337 f = M 332 f ∧ M' 338 f = M 333 f ∧ M' 339 f = M 334 f ∧ M' 341 f = M 336 f) → (∀ i : Int, M' 342 i = if 0 ≤ i ∧ i < 6 then (if i < c then M 333 i else 0) else if 12 ≤ i ∧ i < 18 then -1 else M 342 i) → wp xs d mX10_gorge 289 [(2, 321), (0, 0)] [] z_LL M' P) : wp xs d mX10_gorge 193 [(2, 321), (0, 0)] [] z_LL M P := by
  refine z_loop (W := fun i => ∀ M' : z_M, (∀ q, ¬ (337 ≤ q ∧ q ≤ 339) → q ≠ 341 → q ≠ 342 → M' q = M q) → (∀ f : Int, 0 ≤ f → f < i → M' 337 f = M 332 f ∧ M' 338 f = M 333 f ∧ M' 339 f = M 334 f ∧ M' 341 f = M 336 f) → (∀ j : Int, M' 342 j = if 0 ≤ j ∧ j < i then (if j < c then M 333 j else 0) else if 12 ≤ j ∧ j < 12 + i then -1 else M 342 j) → wp xs d mX10_gorge 193 [(2, 321), (0, (i : Int))] [] z_LL M' P) 6 (fun i hi ih M' f v u => ?_) M (fun _ _ _ _ => rfl) (fun b a c => by omega) (fun j => by rw [if_neg (by omega), if_neg (by omega)])
  have F' : z_fix M' := zx_F (fun q h1 h2 h3 h4 h5 => f q (by omega) (by omega) (by omega)) (fun j _ => by rw [f 321 (by omega) (by decide) (by decide)]) hF
  have t := gX10_gorge_193 (M := M') (xs := xs) (d := d) (P := P) (x1 := (i : Int)) F'
  rw [show z_w ((i : Int) + 1) = ((i + 1 : Nat) : Int) by rw [z_wid (by omega)]; omega, f 321 (by omega) (by decide) (by decide), h48, f 332 (by omega) (by decide) (by decide), f 333 (by omega) (by decide) (by decide), f 334 (by omega) (by decide) (by decide), f 336 (by omega) (by decide) (by decide), z_wid (x := 12 + (i : Int)) (by omega)] at t
  have step : i < 6 → ∀ v0 : Int, v0 = (if (i : Int) < c then M 333 i else 0) → wp xs d mX10_gorge 193 [(2, 321), (0, ((i + 1 : Nat) : Int))] [] z_LL (z_up (z_up (z_up (z_up (z_up (z_up M' 337 i (M 332 i)) 338 i (M 333 i)) 339 i (M 334 i)) 341 i (M 336 i)) 342 i v0) 342 (12 + i) (-1)) P := fun hi6 v0 e0 => by
    refine ih hi6 _ (fun q a e g => by rw [z_upn g, z_upn g, z_upn e, z_upn (by omega), z_upn (by omega), z_upn (by omega), f q a e g]) (fun x a e => ?_) (fun j => ?_)
    · rw [z_upn (q := 337) (by decide), z_upn (q := 337) (by decide), z_upn (q := 337) (by decide), z_upn (q := 337) (by decide), z_upn (q := 337) (by decide), z_upn (q := 338) (by decide), z_upn (q := 338) (by decide), z_upn (q := 338) (by decide), z_upn (q := 338) (by decide), z_upn (q := 339) (by decide), z_upn (q := 339) (by decide), z_upn (q := 339) (by decide), z_upn (q := 341) (by decide), z_upn (q := 341) (by decide)]
      by_cases z : x = i
      · rw [z, z_ups, z_ups, z_ups, z_ups]
        exact ⟨rfl, rfl, rfl, rfl⟩
      · rw [z_upi z rfl, z_upi z rfl, z_upn (q := 338) (by decide), z_upi z rfl, z_upn (q := 339) (by decide), z_upn (q := 339) (by decide), z_upi z rfl, z_upn (q := 341) (by decide), z_upn (q := 341) (by decide), z_upn (q := 341) (by decide)]
        exact v x a (by omega)
    · by_cases z : j = 12 + i
      · rw [z, z_ups, if_neg (by omega), if_pos (by omega)]
      · rw [z_upi z rfl]
        by_cases z2 : j = i
        · rw [z2, z_ups, if_pos (by omega), e0]
        · rw [z_upi z2 rfl, z_upn (by decide), z_upn (by decide), z_upn (by decide), z_upn (by decide), u j]
          by_cases w1 : 0 ≤ j ∧ j < i
          · rw [if_pos w1, if_pos (show 0 ≤ j ∧ j < ((i + 1 : Nat) : Int) by omega)]
          · rw [if_neg w1, if_neg (show ¬ (0 ≤ j ∧ j < ((i + 1 : Nat) : Int)) by omega)]
            by_cases w3 : 12 ≤ j ∧ j < 12 + i
            · rw [if_pos w3, if_pos (by omega)]
            · rw [if_neg w3, if_neg (by omega)]
  refine t (fun w => k M' f (fun j a e => v j a (by omega)) (fun j => by rw [u j, show (i : Int) = 6 by omega, show (12 : Int) + 6 = 18 by decide])) (fun w => by omega) (fun w _ => by omega) (fun w _ => by omega) (fun w w2 => step (by omega) 0 (if_neg (by omega)).symm) (fun w _ => by omega) (fun w _ => by omega) (fun w w2 => step (by omega) _ (if_pos (by omega)).symm)
theorem m_289 {n : Int} (hF : z_fix M) (hC : z_mc M) (hn : M 321 46 * M 321 47 = n) (k : ∀ M' : z_M, (∀ q, q ≠ 321 → q ≠ 342 → M' q = M q) → (∀ j, j ≠ 64 → j ≠ 65 → j ≠ 76 → j ≠ 68 → M' 321 j = M 321 j) → (M' 321 64 = 0 ∧ M' 321 65 = 0 ∧ M' 321 76 = 0 ∧ M' 321 68 = 0) → (∀ i : Int, M' 342 i = if i = 105 then M 321 45 else if 54 ≤ i ∧ i < 54 + n then (if 0 ≤ M 331 (i - 54) then M 331 (i - 54) else M 321 38) else M 342 i) → wp xs (d + 1) mX10_gorge 367 [(2, 321), (0, 0)] [] z_LL M' P) : wp xs (d + 1) mX10_gorge 289 [(2, 321), (0, 0)] [] z_LL M P := by
  have hc := z_mc_cells hC
  rw [hn] at hc
  obtain ⟨N, rfl⟩ : ∃ N : Nat, n = (N : Int) := ⟨n.toNat, by omega⟩
  refine z_loop (W := fun i => ∀ M' : z_M, (∀ q, q ≠ 342 → M' q = M q) → (∀ j : Int, M' 342 j = if 54 ≤ j ∧ j < 54 + i then (if 0 ≤ M 331 (j - 54) then M 331 (j - 54) else M 321 38) else M 342 j) → wp xs (d + 1) mX10_gorge 289 [(2, 321), (0, (i : Int))] [] z_LL M' P) N (fun i hi ih M' f v => ?_) M (fun _ _ => rfl) (fun j => (if_neg (by omega)).symm)
  have C' : z_mc M' := by
    unfold z_mc at hC ⊢
    rw [f 321 (by decide), f 337 (by decide), f 338 (by decide), f 339 (by decide), f 340 (by decide), f 341 (by decide)]
    exact hC
  have t := gX10_gorge_289 (M := M') (xs := xs) (d := d) (P := P) (x1 := (i : Int)) (zx_Fr (by omega) f hF) C'
  rw [show z_w ((i : Int) + 1) = ((i + 1 : Nat) : Int) by rw [z_wid (by omega)]; omega, f 321 (by decide), hn, f 331 (by decide), z_wid (x := 54 + (i : Int)) (by omega)] at t
  have step : i < N → ∀ v0 : Int, v0 = (if 0 ≤ M 331 i then M 331 i else M 321 38) → wp xs (d + 1) mX10_gorge 289 [(2, 321), (0, ((i + 1 : Nat) : Int))] [] z_LL (z_up M' 342 (54 + i) v0) P := fun hi6 v0 e0 => by
    refine ih hi6 _ (fun q a => by rw [z_upn a, f q a]) (fun j => ?_)
    by_cases z : j = 54 + i
    · rw [z, z_ups, if_pos (by omega), show 54 + (i : Int) - 54 = i by omega, e0]
    · rw [z_upi z rfl, v j]
      by_cases w1 : 54 ≤ j ∧ j < 54 + i
      · rw [if_pos w1, if_pos (show 54 ≤ j ∧ j < 54 + ((i + 1 : Nat) : Int) by omega)]
      · rw [if_neg w1, if_neg (show ¬ (54 ≤ j ∧ j < 54 + ((i + 1 : Nat) : Int)) by omega)]
  refine t (fun w => ?_) (fun w => by omega) (fun w _ => by omega) (fun w w2 => step (by omega) _ (if_pos w2).symm) (fun w _ => by omega) (fun w w2 => step (by omega) _ (if_neg w2).symm)
  have e : z_up M' 342 105 (M 321 45) 321 = M 321 := by rw [z_upn (by decide), f 321 (by decide)]
  refine k _ (fun q a c => by rw [z_upn a, z_upn a, z_upn a, z_upn a, z_upn c, f q c]) (fun j a c x y => by rw [z_upi y rfl, z_upi x rfl, z_upi c rfl, z_upi a rfl, e]) ⟨by rw [z_upi (by decide) rfl, z_upi (by decide) rfl, z_upi (by decide) rfl, z_ups], by rw [z_upi (by decide) rfl, z_upi (by decide) rfl, z_ups], by rw [z_upi (by decide) rfl, z_ups], z_ups⟩ (fun j => ?_)
  rw [z_upn (by decide), z_upn (by decide), z_upn (by decide), z_upn (by decide)]
  by_cases z : j = 105
  · rw [if_pos z, z, z_ups]
  · rw [if_neg z, z_upi z rfl, v j, show (i : Int) = N by omega]
theorem s_X2_begin {h g : Int} (hh : z_her M h) (hg : z_gor M g) (h10 : 2 ≤ M g 10 ∧ M g 10 ≤ 5) (h11 : 2 ≤ M g 11 ∧ M g 11 ≤ 5) (k : ∀ M' : z_M, (∀ q, ¬ (h ≤ q ∧ q ≤ h + 5) → M' q = M q) → (∀ j, j ≠ 5 → j ≠ 6 → j ≠ 7 → M' h j = M h j) → (M' h 5 = 0 ∧ M' h 6 = 0 ∧ M' h 7 = M g 19) → (∀ f : Int, 0 ≤ f → f < 6 → M' (h + 1) f = M (g + 4) f ∧ M' (h + 2) f = -1) → (∀ c : Int, 0 ≤ c → c < 25 → M' (h + 3) c = (if c < M g 10 * M g 11 then M (g + 7) c else 0) ∧ M' (h + 4) c = 0) → (∀ i : Int, 0 ≤ i → i < 36 → M' (h + 5) i = 0) → P none z_LL M') : wp xs (d + 2) mX2_begin 0 [(2, h), (2, g), (3, 0)] [] z_LL M P := by
  have hs := z_gsep hg
  have hr := z_hr hh
  have cr := zm_cr h10 h11
  refine gX2_begin_0 hh hg ?_
  generalize hM1 : z_cpy M (g + 4) 0 (h + 1) 0 6 = M1
  have o1 : ∀ q, q ≠ h + 1 → M1 q = M q := fun q a => by
    rw [← hM1]
    funext b
    exact z_cpq a rfl
  have v1 : ∀ f : Int, 0 ≤ f → f < 6 → M1 (h + 1) f = M (g + 4) f := fun f a c => by
    rw [← hM1]
    unfold z_cpy
    rw [if_pos ⟨rfl, a, by omega⟩, show 0 + (f - 0) = f by omega]
  clear hM1
  refine z_loop (W := fun i => ∀ M2 : z_M, (∀ q, q ≠ h + 3 → M2 q = M1 q) → (∀ c : Int, 0 ≤ c → c < i → M2 (h + 3) c = if c < M g 10 * M g 11 then M (g + 7) c else 0) → wp xs (d + 2) mX2_begin 17 [(2, h), (2, g), (0, (i : Int))] [] z_LL M2 P) 25 (fun i hi ih M2 o2 v2 => ?_) M1 (fun _ _ => rfl) (fun c a e => by omega)
  have eg : M2 g = M g := by rw [o2 g (by omega), o1 g (by omega)]
  have e7 : M2 (g + 7) = M (g + 7) := by rw [o2 _ (by omega), o1 _ (by omega)]
  have eh : M2 h = M h := by rw [o2 h (by omega), o1 h (by omega)]
  have hg2 : z_gor M2 g := z_gor_q eg hg
  have hh2 : z_her M2 h := by
    unfold z_her at hh ⊢
    rw [eh]
    exact hh
  have t := gX2_begin_17 (M := M2) (xs := xs) (d := d) (P := P) (x2 := (i : Int)) hh2 hg2
  rw [show z_w ((i : Int) + 1) = ((i + 1 : Nat) : Int) by rw [z_wid (by omega)]; omega, eg, z_wid (x := M g 10 * M g 11) (by omega), e7] at t
  have step : i < 25 → ∀ v0 : Int, v0 = (if (i : Int) < M g 10 * M g 11 then M (g + 7) i else 0) → wp xs (d + 2) mX2_begin 17 [(2, h), (2, g), (0, ((i + 1 : Nat) : Int))] [] z_LL (z_up M2 (h + 3) i v0) P := fun hi6 v0 e0 => by
    refine ih hi6 _ (fun q a => by rw [z_upn a, o2 q a]) (fun c a e => ?_)
    by_cases z : c = i
    · rw [z, z_ups, e0]
    · rw [z_upi z rfl]
      exact v2 c a (by omega)
  refine t (fun w => ?_) (fun w w2 => by omega) (fun w w2 => by omega) (fun w w2 w3 => by omega) (fun w w2 w3 => step (by omega) 0 (if_neg (by omega)).symm) (fun w w2 w3 => by omega) (fun w w2 w3 => step (by omega) _ (if_pos (by omega)).symm)
  refine s_fill (n := 6) (z_hl2 hh2) (by decide) (fun M3 f3 v3 => ?_)
  have hh3 : z_her M3 h := by
    unfold z_her at hh2 ⊢
    rw [f3 h (by omega)]
    exact hh2
  have hg3 : z_gor M3 g := z_gor_q (f3 g (by omega)) hg2
  refine gX2_begin_61 hh3 hg3 (s_fill (n := 25) (z_hl4 hh3) (by decide) (fun M4 f4 v4 => ?_))
  have hh4 : z_her M4 h := by
    unfold z_her at hh3 ⊢
    rw [f4 h (by omega)]
    exact hh3
  have hg4 : z_gor M4 g := z_gor_q (f4 g (by omega)) hg3
  refine gX2_begin_69 hh4 hg4 (s_fill (n := 36) (z_hl5 hh4) (by decide) (fun M5 f5 v5 => ?_))
  have hh5 : z_her M5 h := by
    unfold z_her at hh4 ⊢
    rw [f5 h (by omega)]
    exact hh4
  have hg5 : z_gor M5 g := z_gor_q (f5 g (by omega)) hg4
  have eg5 : M5 g = M g := by rw [f5 g (by omega), f4 g (by omega), f3 g (by omega), eg]
  have t5 := gX2_begin_77 (M := M5) (xs := xs) (d := d + 2) (P := P) (x2 := (i : Int)) hh5 hg5
  rw [eg5] at t5
  refine t5 (k _ (fun q hq => ?_) (fun j a c e => ?_) ⟨?_, ?_, ?_⟩ (fun f a c => ⟨?_, ?_⟩) (fun c a e => ⟨?_, ?_⟩) (fun x a e => ?_))
  · rw [z_upn (by omega), z_upn (by omega), z_upn (by omega), f5 q (by omega), f4 q (by omega), f3 q (by omega), o2 q (by omega), o1 q (by omega)]
  · rw [z_upi e rfl, z_upi c rfl, z_upi a rfl, f5 h (by omega), f4 h (by omega), f3 h (by omega), eh]
  · rw [z_upi (by decide) rfl, z_upi (by decide) rfl, z_ups]
  · rw [z_upi (by decide) rfl, z_ups]
  · rw [z_ups]
  · rw [z_upn (by omega), z_upn (by omega), z_upn (by omega), f5 _ (by omega), f4 _ (by omega), f3 _ (by omega), o2 _ (by omega)]
    exact v1 f a c
  · rw [z_upn (by omega), z_upn (by omega), z_upn (by omega), f5 _ (by omega), f4 _ (by omega)]
    exact v3 f a c
  · rw [z_upn (by omega), z_upn (by omega), z_upn (by omega), f5 _ (by omega), f4 _ (by omega), f3 _ (by omega)]
    exact v2 c a (by omega)
  · rw [z_upn (by omega), z_upn (by omega), z_upn (by omega), f5 _ (by omega)]
    exact v4 c a e
  · rw [z_upn (by omega), z_upn (by omega), z_upn (by omega)]
    exact v5 x a e
end
