set_option maxRecDepth 20000 in
theorem gX7_readSign_0 {xs : List Int} {d : Nat} {M : z_M} {P : Option z_V → z_L → z_M → Prop} (hF : z_fix M) 
    (b1 : 0 ≤ (M 30 7) ∧ (M 30 7) < 1600)
    (l1 : wp xs d mJ0_indexOf_0f7a4 0 [(2, (-3)), (0, (z_i2c (z_and (M 31 (M 30 7)) 255)))] [] z_LL M (fun r L1 M1 => wp xs (d + 1) mX7_readSign 22 [(2, 30), (0, (z_and (M 31 (M 30 7)) 255))] (z_ol r ++ [(2, 30)]) L1 M1 P)) :
    wp xs (d + 1) mX7_readSign 0 [(2, 30), (3, 0)] [] z_LL M P := by
  refine wp_run 1 (pc' := 1) (ls' := [(2, 30), (3, 0)]) (st' := [(2, 30)]) rfl ?_
  refine wp_gf (pc' := 4) (t := 2) (v := 31) rfl rfl (by decide) rfl rfl (fx_30_0 hF) ?_
  refine wp_run 1 (pc' := 5) (ls' := [(2, 30), (3, 0)]) (st' := [(2, 30), (2, 31)]) rfl ?_
  refine wp_gf (pc' := 8) (t := 0) (v := (M 30 7)) rfl rfl (by decide) rfl rfl rfl ?_
  refine wp_bald (pc' := 9) (v := (M 31 (M 30 7))) rfl rfl rfl rfl (b1) rfl ?_
  refine wp_run 7 (pc' := 19) (ls' := [(2, 30), (0, (z_and (M 31 (M 30 7)) 255))]) (st' := [(0, (z_i2c (z_and (M 31 (M 30 7)) 255))), (2, (-3)), (2, 30)]) rfl ?_
  refine wp_callv (pc' := 22) (as := [(2, (-3)), (0, (z_i2c (z_and (M 31 (M 30 7)) 255)))]) (rest := [(2, 30)]) (ls1 := [(2, (-3)), (0, (z_i2c (z_and (M 31 (M 30 7)) 255)))]) rfl rfl rfl rfl rfl rfl ?_
  exact l1
set_option maxRecDepth 20000 in
theorem gX7_readSign_22 {xs : List Int} {d : Nat} {M : z_M} {P : Option z_V → z_L → z_M → Prop} {x1 : Int} {s1 : Int} 
    (l1 : (s1 < 0) → P none z_LL (z_up (z_up M 30 3 27) 30 7 (z_w ((M 30 7) + 1))))
    (l2 : (¬ (s1 < 0)) → P none z_LL (z_up (z_up M 30 3 x1) 30 7 (z_w ((M 30 7) + 1)))) :
    wp xs d mX7_readSign 22 [(2, 30), (0, x1)] [(0, s1), (2, 30)] z_LL M P := by
  refine wp_if1 rfl rfl rfl (fun (c1 : s1 < 0) => ?_) (fun (c1 : ¬ (s1 < 0)) => ?_)
  · refine wp_run 1 (pc' := 31) (ls' := [(2, 30), (0, x1)]) (st' := [(0, 27), (2, 30)]) rfl ?_
    refine wp_pf (pc' := 34) rfl rfl rfl rfl (fun z => absurd z (by decide)) (fun z => absurd z (by decide)) ?_
    refine wp_run 2 (pc' := 36) (ls' := [(2, 30), (0, x1)]) (st' := [(2, 30), (2, 30)]) rfl ?_
    refine wp_gf (pc' := 39) (t := 0) (v := (M 30 7)) rfl rfl (by decide) rfl rfl (z_upi (by decide) rfl) ?_
    refine wp_run 2 (pc' := 41) (ls' := [(2, 30), (0, x1)]) (st' := [(0, (z_w ((M 30 7) + 1))), (2, 30)]) rfl ?_
    refine wp_pf (pc' := 44) rfl rfl rfl rfl (fun z => absurd z (by decide)) (fun z => absurd z (by decide)) ?_
    exact wp_ret rfl rfl (l1 c1)
  · refine wp_run 2 (pc' := 31) (ls' := [(2, 30), (0, x1)]) (st' := [(0, x1), (2, 30)]) rfl ?_
    refine wp_pf (pc' := 34) rfl rfl rfl rfl (fun z => absurd z (by decide)) (fun z => absurd z (by decide)) ?_
    refine wp_run 2 (pc' := 36) (ls' := [(2, 30), (0, x1)]) (st' := [(2, 30), (2, 30)]) rfl ?_
    refine wp_gf (pc' := 39) (t := 0) (v := (M 30 7)) rfl rfl (by decide) rfl rfl (z_upi (by decide) rfl) ?_
    refine wp_run 2 (pc' := 41) (ls' := [(2, 30), (0, x1)]) (st' := [(0, (z_w ((M 30 7) + 1))), (2, 30)]) rfl ?_
    refine wp_pf (pc' := 44) rfl rfl rfl rfl (fun z => absurd z (by decide)) (fun z => absurd z (by decide)) ?_
    exact wp_ret rfl rfl (l2 c1)
set_option maxRecDepth 20000 in
theorem gX7_readNumber_0 {xs : List Int} {d : Nat} {M : z_M} {P : Option z_V → z_L → z_M → Prop} 
    (l1 : wp xs d mX7_readNumber 5 [(2, 30), (3, 0)] [] z_LL (z_up M 30 5 0) P) :
    wp xs d mX7_readNumber 0 [(2, 30), (3, 0)] [] z_LL M P := by
  refine wp_run 2 (pc' := 2) (ls' := [(2, 30), (3, 0)]) (st' := [(0, 0), (2, 30)]) rfl ?_
  refine wp_pf (pc' := 5) rfl rfl rfl rfl (fun z => absurd z (by decide)) (fun z => absurd z (by decide)) ?_
  exact l1
set_option maxRecDepth 20000 in
theorem gX7_readNumber_5 {xs : List Int} {d : Nat} {M : z_M} {P : Option z_V → z_L → z_M → Prop} (hF : z_fix M) 
    (l1 : ((M 30 2) ≤ (M 30 7)) → ((M 30 2) ≤ (M 30 7)) → (4 < (z_w ((M 30 7) - (M 30 4)))) → P none z_LL (z_up M 30 3 27))
    (l2 : ((M 30 2) ≤ (M 30 7)) → ((M 30 2) ≤ (M 30 7)) → (¬ (4 < (z_w ((M 30 7) - (M 30 4))))) → P none z_LL (z_up M 30 3 25))
    (b1 : ((M 30 2) ≤ (M 30 7)) → (¬ ((M 30 2) ≤ (M 30 7))) → 0 ≤ (M 30 7) ∧ (M 30 7) < 1600)
    (l3 : ((M 30 2) ≤ (M 30 7)) → (¬ ((M 30 2) ≤ (M 30 7))) → (¬ (97 ≤ (M 31 (M 30 7)) ∧ (M 31 (M 30 7)) ≤ 122)) → (4 < (z_w ((M 30 7) - (M 30 4)))) → P none z_LL (z_up M 30 3 27))
    (l4 : ((M 30 2) ≤ (M 30 7)) → (¬ ((M 30 2) ≤ (M 30 7))) → (¬ (97 ≤ (M 31 (M 30 7)) ∧ (M 31 (M 30 7)) ≤ 122)) → (¬ (4 < (z_w ((M 30 7) - (M 30 4))))) → P none z_LL (z_up M 30 3 25))
    (l5 : ((M 30 2) ≤ (M 30 7)) → (¬ ((M 30 2) ≤ (M 30 7))) → ((97 ≤ (M 31 (M 30 7)) ∧ (M 31 (M 30 7)) ≤ 122)) → (4 < (z_w ((M 30 7) - (M 30 4)))) → P none z_LL (z_up M 30 3 27))
    (l6 : ((M 30 2) ≤ (M 30 7)) → (¬ ((M 30 2) ≤ (M 30 7))) → ((97 ≤ (M 31 (M 30 7)) ∧ (M 31 (M 30 7)) ≤ 122)) → (¬ (4 < (z_w ((M 30 7) - (M 30 4))))) → P none z_LL (z_up M 30 3 27))
    (b2 : (¬ ((M 30 2) ≤ (M 30 7))) → 0 ≤ (M 30 7) ∧ (M 30 7) < 1600)
    (l7 : (¬ ((M 30 2) ≤ (M 30 7))) → (¬ (48 ≤ (M 31 (M 30 7)) ∧ (M 31 (M 30 7)) ≤ 57)) → ((M 30 2) ≤ (M 30 7)) → (4 < (z_w ((M 30 7) - (M 30 4)))) → P none z_LL (z_up M 30 3 27))
    (l8 : (¬ ((M 30 2) ≤ (M 30 7))) → (¬ (48 ≤ (M 31 (M 30 7)) ∧ (M 31 (M 30 7)) ≤ 57)) → ((M 30 2) ≤ (M 30 7)) → (¬ (4 < (z_w ((M 30 7) - (M 30 4))))) → P none z_LL (z_up M 30 3 25))
    (l9 : (¬ ((M 30 2) ≤ (M 30 7))) → (¬ (48 ≤ (M 31 (M 30 7)) ∧ (M 31 (M 30 7)) ≤ 57)) → (¬ ((M 30 2) ≤ (M 30 7))) → (¬ (97 ≤ (M 31 (M 30 7)) ∧ (M 31 (M 30 7)) ≤ 122)) → (4 < (z_w ((M 30 7) - (M 30 4)))) → P none z_LL (z_up M 30 3 27))
    (l10 : (¬ ((M 30 2) ≤ (M 30 7))) → (¬ (48 ≤ (M 31 (M 30 7)) ∧ (M 31 (M 30 7)) ≤ 57)) → (¬ ((M 30 2) ≤ (M 30 7))) → (¬ (97 ≤ (M 31 (M 30 7)) ∧ (M 31 (M 30 7)) ≤ 122)) → (¬ (4 < (z_w ((M 30 7) - (M 30 4))))) → P none z_LL (z_up M 30 3 25))
    (l11 : (¬ ((M 30 2) ≤ (M 30 7))) → (¬ (48 ≤ (M 31 (M 30 7)) ∧ (M 31 (M 30 7)) ≤ 57)) → (¬ ((M 30 2) ≤ (M 30 7))) → ((97 ≤ (M 31 (M 30 7)) ∧ (M 31 (M 30 7)) ≤ 122)) → (4 < (z_w ((M 30 7) - (M 30 4)))) → P none z_LL (z_up M 30 3 27))
    (l12 : (¬ ((M 30 2) ≤ (M 30 7))) → (¬ (48 ≤ (M 31 (M 30 7)) ∧ (M 31 (M 30 7)) ≤ 57)) → (¬ ((M 30 2) ≤ (M 30 7))) → ((97 ≤ (M 31 (M 30 7)) ∧ (M 31 (M 30 7)) ≤ 122)) → (¬ (4 < (z_w ((M 30 7) - (M 30 4))))) → P none z_LL (z_up M 30 3 27))
    (l13 : (¬ ((M 30 2) ≤ (M 30 7))) → ((48 ≤ (M 31 (M 30 7)) ∧ (M 31 (M 30 7)) ≤ 57)) → wp xs (d + 1) mX7_readNumber 5 [(2, 30), (3, 0)] [] z_LL (z_up (z_up M 30 5 (z_w ((z_w ((z_w ((M 30 5) * 10)) + (M 31 (M 30 7)))) - 48))) 30 7 (z_w ((M 30 7) + 1))) P) :
    wp xs (d + 1) mX7_readNumber 5 [(2, 30), (3, 0)] [] z_LL M P := by
  refine wp_run 1 (pc' := 6) (ls' := [(2, 30), (3, 0)]) (st' := [(2, 30)]) rfl ?_
  refine wp_gf (pc' := 9) (t := 0) (v := (M 30 7)) rfl rfl (by decide) rfl rfl rfl ?_
  refine wp_run 1 (pc' := 10) (ls' := [(2, 30), (3, 0)]) (st' := [(2, 30), (0, (M 30 7))]) rfl ?_
  refine wp_gf (pc' := 13) (t := 0) (v := (M 30 2)) rfl rfl (by decide) rfl rfl rfl ?_
  refine wp_if2 rfl rfl rfl (fun (c1 : (M 30 2) ≤ (M 30 7)) => ?_) (fun (c1 : ¬ ((M 30 2) ≤ (M 30 7))) => ?_)
  · refine wp_run 1 (pc' := 69) (ls' := [(2, 30), (3, 0)]) (st' := [(2, 30)]) rfl ?_
    refine wp_gf (pc' := 72) (t := 0) (v := (M 30 7)) rfl rfl (by decide) rfl rfl rfl ?_
    refine wp_run 1 (pc' := 73) (ls' := [(2, 30), (3, 0)]) (st' := [(2, 30), (0, (M 30 7))]) rfl ?_
    refine wp_gf (pc' := 76) (t := 0) (v := (M 30 2)) rfl rfl (by decide) rfl rfl rfl ?_
    refine wp_if2 rfl rfl rfl (fun (c2 : (M 30 2) ≤ (M 30 7)) => ?_) (fun (c2 : ¬ ((M 30 2) ≤ (M 30 7))) => ?_)
    · refine wp_run 4 (pc' := 102) (ls' := [(2, 30), (0, 0)]) (st' := [(2, 30), (2, 30)]) rfl ?_
      refine wp_gf (pc' := 105) (t := 0) (v := (M 30 7)) rfl rfl (by decide) rfl rfl rfl ?_
      refine wp_run 1 (pc' := 106) (ls' := [(2, 30), (0, 0)]) (st' := [(2, 30), (0, (M 30 7)), (2, 30)]) rfl ?_
      refine wp_gf (pc' := 109) (t := 0) (v := (M 30 4)) rfl rfl (by decide) rfl rfl rfl ?_
      refine wp_run 2 (pc' := 111) (ls' := [(2, 30), (0, 0)]) (st' := [(0, 4), (0, (z_w ((M 30 7) - (M 30 4)))), (2, 30)]) rfl ?_
      refine wp_if2 rfl rfl rfl (fun (c3 : 4 < (z_w ((M 30 7) - (M 30 4)))) => ?_) (fun (c3 : ¬ (4 < (z_w ((M 30 7) - (M 30 4))))) => ?_)
      · refine wp_run 2 (pc' := 125) (ls' := [(2, 30), (0, 0)]) (st' := [(0, 27), (2, 30)]) rfl ?_
        refine wp_pf (pc' := 128) rfl rfl rfl rfl (fun z => absurd z (by decide)) (fun z => absurd z (by decide)) ?_
        exact wp_ret rfl rfl (l1 c1 c2 c3)
      · refine wp_run 3 (pc' := 125) (ls' := [(2, 30), (0, 0)]) (st' := [(0, 25), (2, 30)]) rfl ?_
        refine wp_pf (pc' := 128) rfl rfl rfl rfl (fun z => absurd z (by decide)) (fun z => absurd z (by decide)) ?_
        exact wp_ret rfl rfl (l2 c1 c2 c3)
    · refine wp_run 1 (pc' := 80) (ls' := [(2, 30), (3, 0)]) (st' := [(2, 30)]) rfl ?_
      refine wp_gf (pc' := 83) (t := 2) (v := 31) rfl rfl (by decide) rfl rfl (fx_30_0 hF) ?_
      refine wp_run 1 (pc' := 84) (ls' := [(2, 30), (3, 0)]) (st' := [(2, 30), (2, 31)]) rfl ?_
      refine wp_gf (pc' := 87) (t := 0) (v := (M 30 7)) rfl rfl (by decide) rfl rfl rfl ?_
      refine wp_bald (pc' := 88) (v := (M 31 (M 30 7))) rfl rfl rfl rfl (b1 c1 c2) rfl ?_
      refine wp_callv (pc' := 91) (as := [(0, (M 31 (M 30 7)))]) (rest := []) (ls1 := [(0, (M 31 (M 30 7)))]) rfl rfl rfl rfl rfl rfl ?_
      refine s_X7_isLetter  ?_
      show wp xs _ mX7_readNumber 91 [(2, 30), (3, 0)] [(0, (z_b (97 ≤ (M 31 (M 30 7)) ∧ (M 31 (M 30 7)) ≤ 122)))] z_LL M _
      refine wp_be rfl rfl rfl (fun (c4 : ¬ (97 ≤ (M 31 (M 30 7)) ∧ (M 31 (M 30 7)) ≤ 122)) => ?_) (fun (c4 : (97 ≤ (M 31 (M 30 7)) ∧ (M 31 (M 30 7)) ≤ 122)) => ?_)
      · refine wp_run 4 (pc' := 102) (ls' := [(2, 30), (0, 0)]) (st' := [(2, 30), (2, 30)]) rfl ?_
        refine wp_gf (pc' := 105) (t := 0) (v := (M 30 7)) rfl rfl (by decide) rfl rfl rfl ?_
        refine wp_run 1 (pc' := 106) (ls' := [(2, 30), (0, 0)]) (st' := [(2, 30), (0, (M 30 7)), (2, 30)]) rfl ?_
        refine wp_gf (pc' := 109) (t := 0) (v := (M 30 4)) rfl rfl (by decide) rfl rfl rfl ?_
        refine wp_run 2 (pc' := 111) (ls' := [(2, 30), (0, 0)]) (st' := [(0, 4), (0, (z_w ((M 30 7) - (M 30 4)))), (2, 30)]) rfl ?_
        refine wp_if2 rfl rfl rfl (fun (c5 : 4 < (z_w ((M 30 7) - (M 30 4)))) => ?_) (fun (c5 : ¬ (4 < (z_w ((M 30 7) - (M 30 4))))) => ?_)
        · refine wp_run 2 (pc' := 125) (ls' := [(2, 30), (0, 0)]) (st' := [(0, 27), (2, 30)]) rfl ?_
          refine wp_pf (pc' := 128) rfl rfl rfl rfl (fun z => absurd z (by decide)) (fun z => absurd z (by decide)) ?_
          exact wp_ret rfl rfl (l3 c1 c2 c4 c5)
        · refine wp_run 3 (pc' := 125) (ls' := [(2, 30), (0, 0)]) (st' := [(0, 25), (2, 30)]) rfl ?_
          refine wp_pf (pc' := 128) rfl rfl rfl rfl (fun z => absurd z (by decide)) (fun z => absurd z (by decide)) ?_
          exact wp_ret rfl rfl (l4 c1 c2 c4 c5)
      · refine wp_run 5 (pc' := 102) (ls' := [(2, 30), (0, 1)]) (st' := [(2, 30), (2, 30)]) rfl ?_
        refine wp_gf (pc' := 105) (t := 0) (v := (M 30 7)) rfl rfl (by decide) rfl rfl rfl ?_
        refine wp_run 1 (pc' := 106) (ls' := [(2, 30), (0, 1)]) (st' := [(2, 30), (0, (M 30 7)), (2, 30)]) rfl ?_
        refine wp_gf (pc' := 109) (t := 0) (v := (M 30 4)) rfl rfl (by decide) rfl rfl rfl ?_
        refine wp_run 2 (pc' := 111) (ls' := [(2, 30), (0, 1)]) (st' := [(0, 4), (0, (z_w ((M 30 7) - (M 30 4)))), (2, 30)]) rfl ?_
        refine wp_if2 rfl rfl rfl (fun (c6 : 4 < (z_w ((M 30 7) - (M 30 4)))) => ?_) (fun (c6 : ¬ (4 < (z_w ((M 30 7) - (M 30 4))))) => ?_)
        · refine wp_run 2 (pc' := 125) (ls' := [(2, 30), (0, 1)]) (st' := [(0, 27), (2, 30)]) rfl ?_
          refine wp_pf (pc' := 128) rfl rfl rfl rfl (fun z => absurd z (by decide)) (fun z => absurd z (by decide)) ?_
          exact wp_ret rfl rfl (l5 c1 c2 c4 c6)
        · refine wp_run 4 (pc' := 125) (ls' := [(2, 30), (0, 1)]) (st' := [(0, 27), (2, 30)]) rfl ?_
          refine wp_pf (pc' := 128) rfl rfl rfl rfl (fun z => absurd z (by decide)) (fun z => absurd z (by decide)) ?_
          exact wp_ret rfl rfl (l6 c1 c2 c4 c6)
  · refine wp_run 1 (pc' := 17) (ls' := [(2, 30), (3, 0)]) (st' := [(2, 30)]) rfl ?_
    refine wp_gf (pc' := 20) (t := 2) (v := 31) rfl rfl (by decide) rfl rfl (fx_30_0 hF) ?_
    refine wp_run 1 (pc' := 21) (ls' := [(2, 30), (3, 0)]) (st' := [(2, 30), (2, 31)]) rfl ?_
    refine wp_gf (pc' := 24) (t := 0) (v := (M 30 7)) rfl rfl (by decide) rfl rfl rfl ?_
    refine wp_bald (pc' := 25) (v := (M 31 (M 30 7))) rfl rfl rfl rfl (b2 c1) rfl ?_
    refine wp_callv (pc' := 28) (as := [(0, (M 31 (M 30 7)))]) (rest := []) (ls1 := [(0, (M 31 (M 30 7)))]) rfl rfl rfl rfl rfl rfl ?_
    refine s_X7_isDigit  ?_
    show wp xs _ mX7_readNumber 28 [(2, 30), (3, 0)] [(0, (z_b (48 ≤ (M 31 (M 30 7)) ∧ (M 31 (M 30 7)) ≤ 57)))] z_LL M _
    refine wp_be rfl rfl rfl (fun (c7 : ¬ (48 ≤ (M 31 (M 30 7)) ∧ (M 31 (M 30 7)) ≤ 57)) => ?_) (fun (c7 : (48 ≤ (M 31 (M 30 7)) ∧ (M 31 (M 30 7)) ≤ 57)) => ?_)
    · refine wp_run 1 (pc' := 69) (ls' := [(2, 30), (3, 0)]) (st' := [(2, 30)]) rfl ?_
      refine wp_gf (pc' := 72) (t := 0) (v := (M 30 7)) rfl rfl (by decide) rfl rfl rfl ?_
      refine wp_run 1 (pc' := 73) (ls' := [(2, 30), (3, 0)]) (st' := [(2, 30), (0, (M 30 7))]) rfl ?_
      refine wp_gf (pc' := 76) (t := 0) (v := (M 30 2)) rfl rfl (by decide) rfl rfl rfl ?_
      refine wp_if2 rfl rfl rfl (fun (c8 : (M 30 2) ≤ (M 30 7)) => ?_) (fun (c8 : ¬ ((M 30 2) ≤ (M 30 7))) => ?_)
      · refine wp_run 4 (pc' := 102) (ls' := [(2, 30), (0, 0)]) (st' := [(2, 30), (2, 30)]) rfl ?_
        refine wp_gf (pc' := 105) (t := 0) (v := (M 30 7)) rfl rfl (by decide) rfl rfl rfl ?_
        refine wp_run 1 (pc' := 106) (ls' := [(2, 30), (0, 0)]) (st' := [(2, 30), (0, (M 30 7)), (2, 30)]) rfl ?_
        refine wp_gf (pc' := 109) (t := 0) (v := (M 30 4)) rfl rfl (by decide) rfl rfl rfl ?_
        refine wp_run 2 (pc' := 111) (ls' := [(2, 30), (0, 0)]) (st' := [(0, 4), (0, (z_w ((M 30 7) - (M 30 4)))), (2, 30)]) rfl ?_
        refine wp_if2 rfl rfl rfl (fun (c9 : 4 < (z_w ((M 30 7) - (M 30 4)))) => ?_) (fun (c9 : ¬ (4 < (z_w ((M 30 7) - (M 30 4))))) => ?_)
        · refine wp_run 2 (pc' := 125) (ls' := [(2, 30), (0, 0)]) (st' := [(0, 27), (2, 30)]) rfl ?_
          refine wp_pf (pc' := 128) rfl rfl rfl rfl (fun z => absurd z (by decide)) (fun z => absurd z (by decide)) ?_
          exact wp_ret rfl rfl (l7 c1 c7 c8 c9)
        · refine wp_run 3 (pc' := 125) (ls' := [(2, 30), (0, 0)]) (st' := [(0, 25), (2, 30)]) rfl ?_
          refine wp_pf (pc' := 128) rfl rfl rfl rfl (fun z => absurd z (by decide)) (fun z => absurd z (by decide)) ?_
          exact wp_ret rfl rfl (l8 c1 c7 c8 c9)
      · refine wp_run 1 (pc' := 80) (ls' := [(2, 30), (3, 0)]) (st' := [(2, 30)]) rfl ?_
        refine wp_gf (pc' := 83) (t := 2) (v := 31) rfl rfl (by decide) rfl rfl (fx_30_0 hF) ?_
        refine wp_run 1 (pc' := 84) (ls' := [(2, 30), (3, 0)]) (st' := [(2, 30), (2, 31)]) rfl ?_
        refine wp_gf (pc' := 87) (t := 0) (v := (M 30 7)) rfl rfl (by decide) rfl rfl rfl ?_
        refine wp_bald (pc' := 88) (v := (M 31 (M 30 7))) rfl rfl rfl rfl (b2 c1) rfl ?_
        refine wp_callv (pc' := 91) (as := [(0, (M 31 (M 30 7)))]) (rest := []) (ls1 := [(0, (M 31 (M 30 7)))]) rfl rfl rfl rfl rfl rfl ?_
        refine s_X7_isLetter  ?_
        show wp xs _ mX7_readNumber 91 [(2, 30), (3, 0)] [(0, (z_b (97 ≤ (M 31 (M 30 7)) ∧ (M 31 (M 30 7)) ≤ 122)))] z_LL M _
        refine wp_be rfl rfl rfl (fun (c10 : ¬ (97 ≤ (M 31 (M 30 7)) ∧ (M 31 (M 30 7)) ≤ 122)) => ?_) (fun (c10 : (97 ≤ (M 31 (M 30 7)) ∧ (M 31 (M 30 7)) ≤ 122)) => ?_)
        · refine wp_run 4 (pc' := 102) (ls' := [(2, 30), (0, 0)]) (st' := [(2, 30), (2, 30)]) rfl ?_
          refine wp_gf (pc' := 105) (t := 0) (v := (M 30 7)) rfl rfl (by decide) rfl rfl rfl ?_
          refine wp_run 1 (pc' := 106) (ls' := [(2, 30), (0, 0)]) (st' := [(2, 30), (0, (M 30 7)), (2, 30)]) rfl ?_
          refine wp_gf (pc' := 109) (t := 0) (v := (M 30 4)) rfl rfl (by decide) rfl rfl rfl ?_
          refine wp_run 2 (pc' := 111) (ls' := [(2, 30), (0, 0)]) (st' := [(0, 4), (0, (z_w ((M 30 7) - (M 30 4)))), (2, 30)]) rfl ?_
          refine wp_if2 rfl rfl rfl (fun (c11 : 4 < (z_w ((M 30 7) - (M 30 4)))) => ?_) (fun (c11 : ¬ (4 < (z_w ((M 30 7) - (M 30 4))))) => ?_)
          · refine wp_run 2 (pc' := 125) (ls' := [(2, 30), (0, 0)]) (st' := [(0, 27), (2, 30)]) rfl ?_
            refine wp_pf (pc' := 128) rfl rfl rfl rfl (fun z => absurd z (by decide)) (fun z => absurd z (by decide)) ?_
            exact wp_ret rfl rfl (l9 c1 c7 c8 c10 c11)
          · refine wp_run 3 (pc' := 125) (ls' := [(2, 30), (0, 0)]) (st' := [(0, 25), (2, 30)]) rfl ?_
            refine wp_pf (pc' := 128) rfl rfl rfl rfl (fun z => absurd z (by decide)) (fun z => absurd z (by decide)) ?_
            exact wp_ret rfl rfl (l10 c1 c7 c8 c10 c11)
        · refine wp_run 5 (pc' := 102) (ls' := [(2, 30), (0, 1)]) (st' := [(2, 30), (2, 30)]) rfl ?_
          refine wp_gf (pc' := 105) (t := 0) (v := (M 30 7)) rfl rfl (by decide) rfl rfl rfl ?_
          refine wp_run 1 (pc' := 106) (ls' := [(2, 30), (0, 1)]) (st' := [(2, 30), (0, (M 30 7)), (2, 30)]) rfl ?_
          refine wp_gf (pc' := 109) (t := 0) (v := (M 30 4)) rfl rfl (by decide) rfl rfl rfl ?_
          refine wp_run 2 (pc' := 111) (ls' := [(2, 30), (0, 1)]) (st' := [(0, 4), (0, (z_w ((M 30 7) - (M 30 4)))), (2, 30)]) rfl ?_
          refine wp_if2 rfl rfl rfl (fun (c12 : 4 < (z_w ((M 30 7) - (M 30 4)))) => ?_) (fun (c12 : ¬ (4 < (z_w ((M 30 7) - (M 30 4))))) => ?_)
          · refine wp_run 2 (pc' := 125) (ls' := [(2, 30), (0, 1)]) (st' := [(0, 27), (2, 30)]) rfl ?_
            refine wp_pf (pc' := 128) rfl rfl rfl rfl (fun z => absurd z (by decide)) (fun z => absurd z (by decide)) ?_
            exact wp_ret rfl rfl (l11 c1 c7 c8 c10 c12)
          · refine wp_run 4 (pc' := 125) (ls' := [(2, 30), (0, 1)]) (st' := [(0, 27), (2, 30)]) rfl ?_
            refine wp_pf (pc' := 128) rfl rfl rfl rfl (fun z => absurd z (by decide)) (fun z => absurd z (by decide)) ?_
            exact wp_ret rfl rfl (l12 c1 c7 c8 c10 c12)
    · refine wp_run 2 (pc' := 33) (ls' := [(2, 30), (3, 0)]) (st' := [(2, 30), (2, 30)]) rfl ?_
      refine wp_gf (pc' := 36) (t := 0) (v := (M 30 5)) rfl rfl (by decide) rfl rfl rfl ?_
      refine wp_run 3 (pc' := 40) (ls' := [(2, 30), (3, 0)]) (st' := [(2, 30), (0, (z_w ((M 30 5) * 10))), (2, 30)]) rfl ?_
      refine wp_gf (pc' := 43) (t := 2) (v := 31) rfl rfl (by decide) rfl rfl (fx_30_0 hF) ?_
      refine wp_run 1 (pc' := 44) (ls' := [(2, 30), (3, 0)]) (st' := [(2, 30), (2, 31), (0, (z_w ((M 30 5) * 10))), (2, 30)]) rfl ?_
      refine wp_gf (pc' := 47) (t := 0) (v := (M 30 7)) rfl rfl (by decide) rfl rfl rfl ?_
      refine wp_bald (pc' := 48) (v := (M 31 (M 30 7))) rfl rfl rfl rfl (b2 c1) rfl ?_
      refine wp_run 3 (pc' := 52) (ls' := [(2, 30), (3, 0)]) (st' := [(0, (z_w ((z_w ((z_w ((M 30 5) * 10)) + (M 31 (M 30 7)))) - 48))), (2, 30)]) rfl ?_
      refine wp_pf (pc' := 55) rfl rfl rfl rfl (fun z => absurd z (by decide)) (fun z => absurd z (by decide)) ?_
      refine wp_run 2 (pc' := 57) (ls' := [(2, 30), (3, 0)]) (st' := [(2, 30), (2, 30)]) rfl ?_
      refine wp_gf (pc' := 60) (t := 0) (v := (M 30 7)) rfl rfl (by decide) rfl rfl (z_upi (by decide) rfl) ?_
      refine wp_run 2 (pc' := 62) (ls' := [(2, 30), (3, 0)]) (st' := [(0, (z_w ((M 30 7) + 1))), (2, 30)]) rfl ?_
      refine wp_pf (pc' := 65) rfl rfl rfl rfl (fun z => absurd z (by decide)) (fun z => absurd z (by decide)) ?_
      refine wp_run 1 (pc' := 5) (ls' := [(2, 30), (3, 0)]) (st' := []) rfl ?_
      exact l13 c1 c7
set_option maxRecDepth 20000 in
theorem gX7_readWord_0 {xs : List Int} {d : Nat} {M : z_M} {P : Option z_V → z_L → z_M → Prop} 
    (l1 : wp xs d mX7_readWord 5 [(2, 30), (3, 0)] [] z_LL (z_up M 30 6 0) P) :
    wp xs d mX7_readWord 0 [(2, 30), (3, 0)] [] z_LL M P := by
  refine wp_run 2 (pc' := 2) (ls' := [(2, 30), (3, 0)]) (st' := [(1, 0), (2, 30)]) rfl ?_
  refine wp_pf (pc' := 5) rfl rfl rfl rfl (fun z => absurd z (by decide)) (fun z => absurd z (by decide)) ?_
  exact l1
set_option maxRecDepth 20000 in
theorem gX7_readWord_5 {xs : List Int} {d : Nat} {M : z_M} {P : Option z_V → z_L → z_M → Prop} (hF : z_fix M) 
    (l1 : ((M 30 2) ≤ (M 30 7)) → ((z_w ((M 30 7) - (M 30 4))) ≤ 8) → wp xs (d + 1) mX7_readWord 91 [(2, 30), (0, 0)] [] z_LL (z_up M 30 3 24) P)
    (l2 : ((M 30 2) ≤ (M 30 7)) → (¬ ((z_w ((M 30 7) - (M 30 4))) ≤ 8)) → wp xs (d + 1) mX7_readWord 91 [(2, 30), (0, 0)] [] z_LL (z_up M 30 3 27) P)
    (b1 : (¬ ((M 30 2) ≤ (M 30 7))) → 0 ≤ (M 30 7) ∧ (M 30 7) < 1600)
    (l3 : (¬ ((M 30 2) ≤ (M 30 7))) → (¬ (97 ≤ (M 31 (M 30 7)) ∧ (M 31 (M 30 7)) ≤ 122)) → ((z_w ((M 30 7) - (M 30 4))) ≤ 8) → wp xs (d + 1) mX7_readWord 91 [(2, 30), (0, 0)] [] z_LL (z_up M 30 3 24) P)
    (l4 : (¬ ((M 30 2) ≤ (M 30 7))) → (¬ (97 ≤ (M 31 (M 30 7)) ∧ (M 31 (M 30 7)) ≤ 122)) → (¬ ((z_w ((M 30 7) - (M 30 4))) ≤ 8)) → wp xs (d + 1) mX7_readWord 91 [(2, 30), (0, 0)] [] z_LL (z_up M 30 3 27) P)
    (l5 : (¬ ((M 30 2) ≤ (M 30 7))) → ((97 ≤ (M 31 (M 30 7)) ∧ (M 31 (M 30 7)) ≤ 122)) → wp xs (d + 1) mX7_readWord 5 [(2, 30), (3, 0)] [] z_LL (z_up (z_up M 30 6 (z_wl ((z_wl ((z_wl ((z_wl ((M 30 6) * 32)) + (M 31 (M 30 7)))) - 97)) + 1))) 30 7 (z_w ((M 30 7) + 1))) P) :
    wp xs (d + 1) mX7_readWord 5 [(2, 30), (3, 0)] [] z_LL M P := by
  refine wp_run 1 (pc' := 6) (ls' := [(2, 30), (3, 0)]) (st' := [(2, 30)]) rfl ?_
  refine wp_gf (pc' := 9) (t := 0) (v := (M 30 7)) rfl rfl (by decide) rfl rfl rfl ?_
  refine wp_run 1 (pc' := 10) (ls' := [(2, 30), (3, 0)]) (st' := [(2, 30), (0, (M 30 7))]) rfl ?_
  refine wp_gf (pc' := 13) (t := 0) (v := (M 30 2)) rfl rfl (by decide) rfl rfl rfl ?_
  refine wp_if2 rfl rfl rfl (fun (c1 : (M 30 2) ≤ (M 30 7)) => ?_) (fun (c1 : ¬ ((M 30 2) ≤ (M 30 7))) => ?_)
  · refine wp_run 2 (pc' := 66) (ls' := [(2, 30), (3, 0)]) (st' := [(2, 30), (2, 30)]) rfl ?_
    refine wp_gf (pc' := 69) (t := 0) (v := (M 30 7)) rfl rfl (by decide) rfl rfl rfl ?_
    refine wp_run 1 (pc' := 70) (ls' := [(2, 30), (3, 0)]) (st' := [(2, 30), (0, (M 30 7)), (2, 30)]) rfl ?_
    refine wp_gf (pc' := 73) (t := 0) (v := (M 30 4)) rfl rfl (by decide) rfl rfl rfl ?_
    refine wp_run 2 (pc' := 76) (ls' := [(2, 30), (3, 0)]) (st' := [(0, 8), (0, (z_w ((M 30 7) - (M 30 4)))), (2, 30)]) rfl ?_
    refine wp_if2 rfl rfl rfl (fun (c2 : (z_w ((M 30 7) - (M 30 4))) ≤ 8) => ?_) (fun (c2 : ¬ ((z_w ((M 30 7) - (M 30 4))) ≤ 8)) => ?_)
    · refine wp_run 1 (pc' := 86) (ls' := [(2, 30), (3, 0)]) (st' := [(0, 24), (2, 30)]) rfl ?_
      refine wp_pf (pc' := 89) rfl rfl rfl rfl (fun z => absurd z (by decide)) (fun z => absurd z (by decide)) ?_
      refine wp_run 2 (pc' := 91) (ls' := [(2, 30), (0, 0)]) (st' := []) rfl ?_
      exact l1 c1 c2
    · refine wp_run 2 (pc' := 86) (ls' := [(2, 30), (3, 0)]) (st' := [(0, 27), (2, 30)]) rfl ?_
      refine wp_pf (pc' := 89) rfl rfl rfl rfl (fun z => absurd z (by decide)) (fun z => absurd z (by decide)) ?_
      refine wp_run 2 (pc' := 91) (ls' := [(2, 30), (0, 0)]) (st' := []) rfl ?_
      exact l2 c1 c2
  · refine wp_run 1 (pc' := 17) (ls' := [(2, 30), (3, 0)]) (st' := [(2, 30)]) rfl ?_
    refine wp_gf (pc' := 20) (t := 2) (v := 31) rfl rfl (by decide) rfl rfl (fx_30_0 hF) ?_
    refine wp_run 1 (pc' := 21) (ls' := [(2, 30), (3, 0)]) (st' := [(2, 30), (2, 31)]) rfl ?_
    refine wp_gf (pc' := 24) (t := 0) (v := (M 30 7)) rfl rfl (by decide) rfl rfl rfl ?_
    refine wp_bald (pc' := 25) (v := (M 31 (M 30 7))) rfl rfl rfl rfl (b1 c1) rfl ?_
    refine wp_callv (pc' := 28) (as := [(0, (M 31 (M 30 7)))]) (rest := []) (ls1 := [(0, (M 31 (M 30 7)))]) rfl rfl rfl rfl rfl rfl ?_
    refine s_X7_isLetter  ?_
    show wp xs _ mX7_readWord 28 [(2, 30), (3, 0)] [(0, (z_b (97 ≤ (M 31 (M 30 7)) ∧ (M 31 (M 30 7)) ≤ 122)))] z_LL M _
    refine wp_be rfl rfl rfl (fun (c3 : ¬ (97 ≤ (M 31 (M 30 7)) ∧ (M 31 (M 30 7)) ≤ 122)) => ?_) (fun (c3 : (97 ≤ (M 31 (M 30 7)) ∧ (M 31 (M 30 7)) ≤ 122)) => ?_)
    · refine wp_run 2 (pc' := 66) (ls' := [(2, 30), (3, 0)]) (st' := [(2, 30), (2, 30)]) rfl ?_
      refine wp_gf (pc' := 69) (t := 0) (v := (M 30 7)) rfl rfl (by decide) rfl rfl rfl ?_
      refine wp_run 1 (pc' := 70) (ls' := [(2, 30), (3, 0)]) (st' := [(2, 30), (0, (M 30 7)), (2, 30)]) rfl ?_
      refine wp_gf (pc' := 73) (t := 0) (v := (M 30 4)) rfl rfl (by decide) rfl rfl rfl ?_
      refine wp_run 2 (pc' := 76) (ls' := [(2, 30), (3, 0)]) (st' := [(0, 8), (0, (z_w ((M 30 7) - (M 30 4)))), (2, 30)]) rfl ?_
      refine wp_if2 rfl rfl rfl (fun (c4 : (z_w ((M 30 7) - (M 30 4))) ≤ 8) => ?_) (fun (c4 : ¬ ((z_w ((M 30 7) - (M 30 4))) ≤ 8)) => ?_)
      · refine wp_run 1 (pc' := 86) (ls' := [(2, 30), (3, 0)]) (st' := [(0, 24), (2, 30)]) rfl ?_
        refine wp_pf (pc' := 89) rfl rfl rfl rfl (fun z => absurd z (by decide)) (fun z => absurd z (by decide)) ?_
        refine wp_run 2 (pc' := 91) (ls' := [(2, 30), (0, 0)]) (st' := []) rfl ?_
        exact l3 c1 c3 c4
      · refine wp_run 2 (pc' := 86) (ls' := [(2, 30), (3, 0)]) (st' := [(0, 27), (2, 30)]) rfl ?_
        refine wp_pf (pc' := 89) rfl rfl rfl rfl (fun z => absurd z (by decide)) (fun z => absurd z (by decide)) ?_
        refine wp_run 2 (pc' := 91) (ls' := [(2, 30), (0, 0)]) (st' := []) rfl ?_
        exact l4 c1 c3 c4
    · refine wp_run 2 (pc' := 33) (ls' := [(2, 30), (3, 0)]) (st' := [(2, 30), (2, 30)]) rfl ?_
      refine wp_gf (pc' := 36) (t := 1) (v := (M 30 6)) rfl rfl (by decide) rfl rfl rfl ?_
      refine wp_run 1 (pc' := 37) (ls' := [(2, 30), (3, 0)]) (st' := [(2, 30), (1, (M 30 6)), (2, 30)]) rfl ?_
      refine wp_gf (pc' := 40) (t := 2) (v := 31) rfl rfl (by decide) rfl rfl (fx_30_0 hF) ?_
      refine wp_run 1 (pc' := 41) (ls' := [(2, 30), (3, 0)]) (st' := [(2, 30), (2, 31), (1, (M 30 6)), (2, 30)]) rfl ?_
      refine wp_gf (pc' := 44) (t := 0) (v := (M 30 7)) rfl rfl (by decide) rfl rfl rfl ?_
      refine wp_bald (pc' := 45) (v := (M 31 (M 30 7))) rfl rfl rfl rfl (b1 c1) rfl ?_
      refine wp_callv (pc' := 48) (as := [(1, (M 30 6)), (0, (M 31 (M 30 7)))]) (rest := [(2, 30)]) (ls1 := [(1, (M 30 6)), (3, 0), (0, (M 31 (M 30 7)))]) rfl rfl rfl rfl rfl rfl ?_
      refine wp_run 10 (pc' := 14) (ls' := [(1, (M 30 6)), (3, 0), (0, (M 31 (M 30 7)))]) (st' := [(1, (z_wl ((z_wl ((z_wl ((z_wl ((M 30 6) * 32)) + (M 31 (M 30 7)))) - 97)) + 1)))]) rfl ?_
      refine wp_ret rfl rfl ?_
      show wp xs _ mX7_readWord 48 [(2, 30), (3, 0)] [(1, (z_wl ((z_wl ((z_wl ((z_wl ((M 30 6) * 32)) + (M 31 (M 30 7)))) - 97)) + 1))), (2, 30)] z_LL M _
      refine wp_pf (pc' := 51) rfl rfl rfl rfl (fun z => absurd z (by decide)) (fun z => absurd z (by decide)) ?_
      refine wp_run 2 (pc' := 53) (ls' := [(2, 30), (3, 0)]) (st' := [(2, 30), (2, 30)]) rfl ?_
      refine wp_gf (pc' := 56) (t := 0) (v := (M 30 7)) rfl rfl (by decide) rfl rfl (z_upi (by decide) rfl) ?_
      refine wp_run 2 (pc' := 58) (ls' := [(2, 30), (3, 0)]) (st' := [(0, (z_w ((M 30 7) + 1))), (2, 30)]) rfl ?_
      refine wp_pf (pc' := 61) rfl rfl rfl rfl (fun z => absurd z (by decide)) (fun z => absurd z (by decide)) ?_
      refine wp_run 1 (pc' := 5) (ls' := [(2, 30), (3, 0)]) (st' := []) rfl ?_
      exact l5 c1 c3
set_option maxRecDepth 20000 in
theorem gX7_readWord_91 {xs : List Int} {d : Nat} {M : z_M} {P : Option z_V → z_L → z_M → Prop} {x1 : Int} (hF : z_fix M) 
    (l1 : (24 ≤ x1) → P none z_LL M)
    (l2 : (¬ (24 ≤ x1)) → ((M 30 3) ≠ 24) → P none z_LL M)
    (b1 : (¬ (24 ≤ x1)) → (¬ ((M 30 3) ≠ 24)) → 0 ≤ x1 ∧ x1 < 24)
    (l3 : (¬ (24 ≤ x1)) → (¬ ((M 30 3) ≠ 24)) → ((z_lcmp (M 32 x1) (M 30 6)) ≠ 0) → wp xs d mX7_readWord 91 [(2, 30), (0, (z_w (x1 + 1)))] [] z_LL M P)
    (l4 : (¬ (24 ≤ x1)) → (¬ ((M 30 3) ≠ 24)) → (¬ ((z_lcmp (M 32 x1) (M 30 6)) ≠ 0)) → wp xs d mX7_readWord 91 [(2, 30), (0, (z_w (x1 + 1)))] [] z_LL (z_up M 30 3 x1) P) :
    wp xs d mX7_readWord 91 [(2, 30), (0, x1)] [] z_LL M P := by
  refine wp_run 2 (pc' := 94) (ls' := [(2, 30), (0, x1)]) (st' := [(0, 24), (0, x1)]) rfl ?_
  refine wp_if2 rfl rfl rfl (fun (c1 : 24 ≤ x1) => ?_) (fun (c1 : ¬ (24 ≤ x1)) => ?_)
  · exact wp_ret rfl rfl (l1 c1)
  · refine wp_run 1 (pc' := 98) (ls' := [(2, 30), (0, x1)]) (st' := [(2, 30)]) rfl ?_
    refine wp_gf (pc' := 101) (t := 0) (v := (M 30 3)) rfl rfl (by decide) rfl rfl rfl ?_
    refine wp_run 1 (pc' := 103) (ls' := [(2, 30), (0, x1)]) (st' := [(0, 24), (0, (M 30 3))]) rfl ?_
    refine wp_if2 rfl rfl rfl (fun (c2 : (M 30 3) ≠ 24) => ?_) (fun (c2 : ¬ ((M 30 3) ≠ 24)) => ?_)
    · exact wp_ret rfl rfl (l2 c1 c2)
    · refine wp_run 1 (pc' := 107) (ls' := [(2, 30), (0, x1)]) (st' := [(2, 30)]) rfl ?_
      refine wp_gf (pc' := 110) (t := 2) (v := 32) rfl rfl (by decide) rfl rfl (fx_30_1 hF) ?_
      refine wp_run 1 (pc' := 111) (ls' := [(2, 30), (0, x1)]) (st' := [(0, x1), (2, 32)]) rfl ?_
      refine wp_lald (pc' := 112) (v := (M 32 x1)) rfl rfl rfl (b1 c1 c2) rfl ?_
      refine wp_run 1 (pc' := 113) (ls' := [(2, 30), (0, x1)]) (st' := [(2, 30), (1, (M 32 x1))]) rfl ?_
      refine wp_gf (pc' := 116) (t := 1) (v := (M 30 6)) rfl rfl (by decide) rfl rfl rfl ?_
      refine wp_run 1 (pc' := 117) (ls' := [(2, 30), (0, x1)]) (st' := [(0, (z_lcmp (M 32 x1) (M 30 6)))]) rfl ?_
      refine wp_if1 rfl rfl rfl (fun (c3 : (z_lcmp (M 32 x1) (M 30 6)) ≠ 0) => ?_) (fun (c3 : ¬ ((z_lcmp (M 32 x1) (M 30 6)) ≠ 0)) => ?_)
      · refine wp_run 2 (pc' := 91) (ls' := [(2, 30), (0, (z_w (x1 + 1)))]) (st' := []) rfl ?_
        exact l3 c1 c2 c3
      · refine wp_run 2 (pc' := 122) (ls' := [(2, 30), (0, x1)]) (st' := [(0, x1), (2, 30)]) rfl ?_
        refine wp_pf (pc' := 125) rfl rfl rfl rfl (fun z => absurd z (by decide)) (fun z => absurd z (by decide)) ?_
        refine wp_run 2 (pc' := 91) (ls' := [(2, 30), (0, (z_w (x1 + 1)))]) (st' := []) rfl ?_
        exact l4 c1 c2 c3
set_option maxRecDepth 20000 in
theorem gX7_step_0 {xs : List Int} {d : Nat} {M : z_M} {P : Option z_V → z_L → z_M → Prop} (hF : z_fix M) 
    (b1 : ((M 30 2) ≤ (M 30 7)) → ((M 30 7) < (M 30 2)) → 0 ≤ (M 30 7) ∧ (M 30 7) < 1600)
    (l1 : ((M 30 2) ≤ (M 30 7)) → ((M 30 7) < (M 30 2)) → (¬ (97 ≤ (M 31 (M 30 7)) ∧ (M 31 (M 30 7)) ≤ 122)) → (¬ (48 ≤ (M 31 (M 30 7)) ∧ (M 31 (M 30 7)) ≤ 57)) → wp xs d mX7_readSign 0 [(2, 30), (3, 0)] [] z_LL (z_up M 30 4 (M 30 7)) (fun r L1 M1 => wp xs (d + 1) mX7_step 115 [(2, 30)] (z_ol r ++ []) L1 M1 P))
    (l2 : ((M 30 2) ≤ (M 30 7)) → ((M 30 7) < (M 30 2)) → (¬ (97 ≤ (M 31 (M 30 7)) ∧ (M 31 (M 30 7)) ≤ 122)) → ((48 ≤ (M 31 (M 30 7)) ∧ (M 31 (M 30 7)) ≤ 57)) → wp xs d mX7_readNumber 0 [(2, 30), (3, 0)] [] z_LL (z_up M 30 4 (M 30 7)) (fun r L1 M1 => wp xs (d + 1) mX7_step 108 [(2, 30)] (z_ol r ++ []) L1 M1 P))
    (l3 : ((M 30 2) ≤ (M 30 7)) → ((M 30 7) < (M 30 2)) → ((97 ≤ (M 31 (M 30 7)) ∧ (M 31 (M 30 7)) ≤ 122)) → wp xs d mX7_readWord 0 [(2, 30), (3, 0)] [] z_LL (z_up M 30 4 (M 30 7)) (fun r L1 M1 => wp xs (d + 1) mX7_step 86 [(2, 30)] (z_ol r ++ []) L1 M1 P))
    (l4 : ((M 30 2) ≤ (M 30 7)) → (¬ ((M 30 7) < (M 30 2))) → P none z_LL (z_up (z_up M 30 4 (M 30 7)) 30 3 26))
    (b2 : (¬ ((M 30 2) ≤ (M 30 7))) → 0 ≤ (M 30 7) ∧ (M 30 7) < 1600)
    (l5 : (¬ ((M 30 2) ≤ (M 30 7))) → (¬ ((M 31 (M 30 7)) = 32 ∨ (M 31 (M 30 7)) = 10)) → ((M 30 7) < (M 30 2)) → (¬ (97 ≤ (M 31 (M 30 7)) ∧ (M 31 (M 30 7)) ≤ 122)) → (¬ (48 ≤ (M 31 (M 30 7)) ∧ (M 31 (M 30 7)) ≤ 57)) → wp xs d mX7_readSign 0 [(2, 30), (3, 0)] [] z_LL (z_up M 30 4 (M 30 7)) (fun r L1 M1 => wp xs (d + 1) mX7_step 115 [(2, 30)] (z_ol r ++ []) L1 M1 P))
    (l6 : (¬ ((M 30 2) ≤ (M 30 7))) → (¬ ((M 31 (M 30 7)) = 32 ∨ (M 31 (M 30 7)) = 10)) → ((M 30 7) < (M 30 2)) → (¬ (97 ≤ (M 31 (M 30 7)) ∧ (M 31 (M 30 7)) ≤ 122)) → ((48 ≤ (M 31 (M 30 7)) ∧ (M 31 (M 30 7)) ≤ 57)) → wp xs d mX7_readNumber 0 [(2, 30), (3, 0)] [] z_LL (z_up M 30 4 (M 30 7)) (fun r L1 M1 => wp xs (d + 1) mX7_step 108 [(2, 30)] (z_ol r ++ []) L1 M1 P))
    (l7 : (¬ ((M 30 2) ≤ (M 30 7))) → (¬ ((M 31 (M 30 7)) = 32 ∨ (M 31 (M 30 7)) = 10)) → ((M 30 7) < (M 30 2)) → ((97 ≤ (M 31 (M 30 7)) ∧ (M 31 (M 30 7)) ≤ 122)) → wp xs d mX7_readWord 0 [(2, 30), (3, 0)] [] z_LL (z_up M 30 4 (M 30 7)) (fun r L1 M1 => wp xs (d + 1) mX7_step 86 [(2, 30)] (z_ol r ++ []) L1 M1 P))
    (l8 : (¬ ((M 30 2) ≤ (M 30 7))) → (¬ ((M 31 (M 30 7)) = 32 ∨ (M 31 (M 30 7)) = 10)) → (¬ ((M 30 7) < (M 30 2))) → P none z_LL (z_up (z_up M 30 4 (M 30 7)) 30 3 26))
    (l9 : (¬ ((M 30 2) ≤ (M 30 7))) → (((M 31 (M 30 7)) = 32 ∨ (M 31 (M 30 7)) = 10)) → wp xs (d + 1) mX7_step 0 [(2, 30)] [] z_LL (z_up M 30 7 (z_w ((M 30 7) + 1))) P) :
    wp xs (d + 1) mX7_step 0 [(2, 30)] [] z_LL M P := by
  refine wp_run 1 (pc' := 1) (ls' := [(2, 30)]) (st' := [(2, 30)]) rfl ?_
  refine wp_gf (pc' := 4) (t := 0) (v := (M 30 7)) rfl rfl (by decide) rfl rfl rfl ?_
  refine wp_run 1 (pc' := 5) (ls' := [(2, 30)]) (st' := [(2, 30), (0, (M 30 7))]) rfl ?_
  refine wp_gf (pc' := 8) (t := 0) (v := (M 30 2)) rfl rfl (by decide) rfl rfl rfl ?_
  refine wp_if2 rfl rfl rfl (fun (c1 : (M 30 2) ≤ (M 30 7)) => ?_) (fun (c1 : ¬ ((M 30 2) ≤ (M 30 7))) => ?_)
  · refine wp_run 2 (pc' := 41) (ls' := [(2, 30)]) (st' := [(2, 30), (2, 30)]) rfl ?_
    refine wp_gf (pc' := 44) (t := 0) (v := (M 30 7)) rfl rfl (by decide) rfl rfl rfl ?_
    refine wp_pf (pc' := 47) rfl rfl rfl rfl (fun z => absurd z (by decide)) (fun z => absurd z (by decide)) ?_
    refine wp_run 1 (pc' := 48) (ls' := [(2, 30)]) (st' := [(2, 30)]) rfl ?_
    refine wp_gf (pc' := 51) (t := 0) (v := (M 30 7)) rfl rfl (by decide) rfl rfl (z_upi (by decide) rfl) ?_
    refine wp_run 1 (pc' := 52) (ls' := [(2, 30)]) (st' := [(2, 30), (0, (M 30 7))]) rfl ?_
    refine wp_gf (pc' := 55) (t := 0) (v := (M 30 2)) rfl rfl (by decide) rfl rfl (z_upi (by decide) rfl) ?_
    refine wp_if2 rfl rfl rfl (fun (c2 : (M 30 7) < (M 30 2)) => ?_) (fun (c2 : ¬ ((M 30 7) < (M 30 2))) => ?_)
    · refine wp_run 1 (pc' := 68) (ls' := [(2, 30)]) (st' := [(2, 30)]) rfl ?_
      refine wp_gf (pc' := 71) (t := 2) (v := 31) rfl rfl (by decide) rfl rfl (z_upi (by decide) (fx_30_0 hF)) ?_
      refine wp_run 1 (pc' := 72) (ls' := [(2, 30)]) (st' := [(2, 30), (2, 31)]) rfl ?_
      refine wp_gf (pc' := 75) (t := 0) (v := (M 30 7)) rfl rfl (by decide) rfl rfl (z_upi (by decide) rfl) ?_
      refine wp_bald (pc' := 76) (v := (M 31 (M 30 7))) rfl rfl rfl rfl (b1 c1 c2) (z_upq (by decide) rfl) ?_
      refine wp_callv (pc' := 79) (as := [(0, (M 31 (M 30 7)))]) (rest := []) (ls1 := [(0, (M 31 (M 30 7)))]) rfl rfl rfl rfl rfl rfl ?_
      refine s_X7_isLetter  ?_
      show wp xs _ mX7_step 79 [(2, 30)] [(0, (z_b (97 ≤ (M 31 (M 30 7)) ∧ (M 31 (M 30 7)) ≤ 122)))] z_LL (z_up M 30 4 (M 30 7)) _
      refine wp_be rfl rfl rfl (fun (c3 : ¬ (97 ≤ (M 31 (M 30 7)) ∧ (M 31 (M 30 7)) ≤ 122)) => ?_) (fun (c3 : (97 ≤ (M 31 (M 30 7)) ∧ (M 31 (M 30 7)) ≤ 122)) => ?_)
      · refine wp_run 1 (pc' := 90) (ls' := [(2, 30)]) (st' := [(2, 30)]) rfl ?_
        refine wp_gf (pc' := 93) (t := 2) (v := 31) rfl rfl (by decide) rfl rfl (z_upi (by decide) (fx_30_0 hF)) ?_
        refine wp_run 1 (pc' := 94) (ls' := [(2, 30)]) (st' := [(2, 30), (2, 31)]) rfl ?_
        refine wp_gf (pc' := 97) (t := 0) (v := (M 30 7)) rfl rfl (by decide) rfl rfl (z_upi (by decide) rfl) ?_
        refine wp_bald (pc' := 98) (v := (M 31 (M 30 7))) rfl rfl rfl rfl (b1 c1 c2) (z_upq (by decide) rfl) ?_
        refine wp_callv (pc' := 101) (as := [(0, (M 31 (M 30 7)))]) (rest := []) (ls1 := [(0, (M 31 (M 30 7)))]) rfl rfl rfl rfl rfl rfl ?_
        refine s_X7_isDigit  ?_
        show wp xs _ mX7_step 101 [(2, 30)] [(0, (z_b (48 ≤ (M 31 (M 30 7)) ∧ (M 31 (M 30 7)) ≤ 57)))] z_LL (z_up M 30 4 (M 30 7)) _
        refine wp_be rfl rfl rfl (fun (c4 : ¬ (48 ≤ (M 31 (M 30 7)) ∧ (M 31 (M 30 7)) ≤ 57)) => ?_) (fun (c4 : (48 ≤ (M 31 (M 30 7)) ∧ (M 31 (M 30 7)) ≤ 57)) => ?_)
        · refine wp_run 1 (pc' := 112) (ls' := [(2, 30)]) (st' := [(2, 30)]) rfl ?_
          refine wp_callv (pc' := 115) (as := [(2, 30)]) (rest := []) (ls1 := [(2, 30), (3, 0)]) rfl rfl rfl rfl rfl rfl ?_
          exact l1 c1 c2 c3 c4
        · refine wp_run 1 (pc' := 105) (ls' := [(2, 30)]) (st' := [(2, 30)]) rfl ?_
          refine wp_callv (pc' := 108) (as := [(2, 30)]) (rest := []) (ls1 := [(2, 30), (3, 0)]) rfl rfl rfl rfl rfl rfl ?_
          exact l2 c1 c2 c3 c4
      · refine wp_run 1 (pc' := 83) (ls' := [(2, 30)]) (st' := [(2, 30)]) rfl ?_
        refine wp_callv (pc' := 86) (as := [(2, 30)]) (rest := []) (ls1 := [(2, 30), (3, 0)]) rfl rfl rfl rfl rfl rfl ?_
        exact l3 c1 c2 c3
    · refine wp_run 2 (pc' := 61) (ls' := [(2, 30)]) (st' := [(0, 26), (2, 30)]) rfl ?_
      refine wp_pf (pc' := 64) rfl rfl rfl rfl (fun z => absurd z (by decide)) (fun z => absurd z (by decide)) ?_
      refine wp_run 1 (pc' := 115) (ls' := [(2, 30)]) (st' := []) rfl ?_
      exact wp_ret rfl rfl (l4 c1 c2)
  · refine wp_run 1 (pc' := 12) (ls' := [(2, 30)]) (st' := [(2, 30)]) rfl ?_
    refine wp_gf (pc' := 15) (t := 2) (v := 31) rfl rfl (by decide) rfl rfl (fx_30_0 hF) ?_
    refine wp_run 1 (pc' := 16) (ls' := [(2, 30)]) (st' := [(2, 30), (2, 31)]) rfl ?_
    refine wp_gf (pc' := 19) (t := 0) (v := (M 30 7)) rfl rfl (by decide) rfl rfl rfl ?_
    refine wp_bald (pc' := 20) (v := (M 31 (M 30 7))) rfl rfl rfl rfl (b2 c1) rfl ?_
    refine wp_callv (pc' := 23) (as := [(0, (M 31 (M 30 7)))]) (rest := []) (ls1 := [(0, (M 31 (M 30 7)))]) rfl rfl rfl rfl rfl rfl ?_
    refine s_X7_isBlank  ?_
    show wp xs _ mX7_step 23 [(2, 30)] [(0, (z_b ((M 31 (M 30 7)) = 32 ∨ (M 31 (M 30 7)) = 10)))] z_LL M _
    refine wp_be rfl rfl rfl (fun (c5 : ¬ ((M 31 (M 30 7)) = 32 ∨ (M 31 (M 30 7)) = 10)) => ?_) (fun (c5 : ((M 31 (M 30 7)) = 32 ∨ (M 31 (M 30 7)) = 10)) => ?_)
    · refine wp_run 2 (pc' := 41) (ls' := [(2, 30)]) (st' := [(2, 30), (2, 30)]) rfl ?_
      refine wp_gf (pc' := 44) (t := 0) (v := (M 30 7)) rfl rfl (by decide) rfl rfl rfl ?_
      refine wp_pf (pc' := 47) rfl rfl rfl rfl (fun z => absurd z (by decide)) (fun z => absurd z (by decide)) ?_
      refine wp_run 1 (pc' := 48) (ls' := [(2, 30)]) (st' := [(2, 30)]) rfl ?_
      refine wp_gf (pc' := 51) (t := 0) (v := (M 30 7)) rfl rfl (by decide) rfl rfl (z_upi (by decide) rfl) ?_
      refine wp_run 1 (pc' := 52) (ls' := [(2, 30)]) (st' := [(2, 30), (0, (M 30 7))]) rfl ?_
      refine wp_gf (pc' := 55) (t := 0) (v := (M 30 2)) rfl rfl (by decide) rfl rfl (z_upi (by decide) rfl) ?_
      refine wp_if2 rfl rfl rfl (fun (c6 : (M 30 7) < (M 30 2)) => ?_) (fun (c6 : ¬ ((M 30 7) < (M 30 2))) => ?_)
      · refine wp_run 1 (pc' := 68) (ls' := [(2, 30)]) (st' := [(2, 30)]) rfl ?_
        refine wp_gf (pc' := 71) (t := 2) (v := 31) rfl rfl (by decide) rfl rfl (z_upi (by decide) (fx_30_0 hF)) ?_
        refine wp_run 1 (pc' := 72) (ls' := [(2, 30)]) (st' := [(2, 30), (2, 31)]) rfl ?_
        refine wp_gf (pc' := 75) (t := 0) (v := (M 30 7)) rfl rfl (by decide) rfl rfl (z_upi (by decide) rfl) ?_
        refine wp_bald (pc' := 76) (v := (M 31 (M 30 7))) rfl rfl rfl rfl (b2 c1) (z_upq (by decide) rfl) ?_
        refine wp_callv (pc' := 79) (as := [(0, (M 31 (M 30 7)))]) (rest := []) (ls1 := [(0, (M 31 (M 30 7)))]) rfl rfl rfl rfl rfl rfl ?_
        refine s_X7_isLetter  ?_
        show wp xs _ mX7_step 79 [(2, 30)] [(0, (z_b (97 ≤ (M 31 (M 30 7)) ∧ (M 31 (M 30 7)) ≤ 122)))] z_LL (z_up M 30 4 (M 30 7)) _
        refine wp_be rfl rfl rfl (fun (c7 : ¬ (97 ≤ (M 31 (M 30 7)) ∧ (M 31 (M 30 7)) ≤ 122)) => ?_) (fun (c7 : (97 ≤ (M 31 (M 30 7)) ∧ (M 31 (M 30 7)) ≤ 122)) => ?_)
        · refine wp_run 1 (pc' := 90) (ls' := [(2, 30)]) (st' := [(2, 30)]) rfl ?_
          refine wp_gf (pc' := 93) (t := 2) (v := 31) rfl rfl (by decide) rfl rfl (z_upi (by decide) (fx_30_0 hF)) ?_
          refine wp_run 1 (pc' := 94) (ls' := [(2, 30)]) (st' := [(2, 30), (2, 31)]) rfl ?_
          refine wp_gf (pc' := 97) (t := 0) (v := (M 30 7)) rfl rfl (by decide) rfl rfl (z_upi (by decide) rfl) ?_
          refine wp_bald (pc' := 98) (v := (M 31 (M 30 7))) rfl rfl rfl rfl (b2 c1) (z_upq (by decide) rfl) ?_
          refine wp_callv (pc' := 101) (as := [(0, (M 31 (M 30 7)))]) (rest := []) (ls1 := [(0, (M 31 (M 30 7)))]) rfl rfl rfl rfl rfl rfl ?_
          refine s_X7_isDigit  ?_
          show wp xs _ mX7_step 101 [(2, 30)] [(0, (z_b (48 ≤ (M 31 (M 30 7)) ∧ (M 31 (M 30 7)) ≤ 57)))] z_LL (z_up M 30 4 (M 30 7)) _
          refine wp_be rfl rfl rfl (fun (c8 : ¬ (48 ≤ (M 31 (M 30 7)) ∧ (M 31 (M 30 7)) ≤ 57)) => ?_) (fun (c8 : (48 ≤ (M 31 (M 30 7)) ∧ (M 31 (M 30 7)) ≤ 57)) => ?_)
          · refine wp_run 1 (pc' := 112) (ls' := [(2, 30)]) (st' := [(2, 30)]) rfl ?_
            refine wp_callv (pc' := 115) (as := [(2, 30)]) (rest := []) (ls1 := [(2, 30), (3, 0)]) rfl rfl rfl rfl rfl rfl ?_
            exact l5 c1 c5 c6 c7 c8
          · refine wp_run 1 (pc' := 105) (ls' := [(2, 30)]) (st' := [(2, 30)]) rfl ?_
            refine wp_callv (pc' := 108) (as := [(2, 30)]) (rest := []) (ls1 := [(2, 30), (3, 0)]) rfl rfl rfl rfl rfl rfl ?_
            exact l6 c1 c5 c6 c7 c8
        · refine wp_run 1 (pc' := 83) (ls' := [(2, 30)]) (st' := [(2, 30)]) rfl ?_
          refine wp_callv (pc' := 86) (as := [(2, 30)]) (rest := []) (ls1 := [(2, 30), (3, 0)]) rfl rfl rfl rfl rfl rfl ?_
          exact l7 c1 c5 c6 c7
      · refine wp_run 2 (pc' := 61) (ls' := [(2, 30)]) (st' := [(0, 26), (2, 30)]) rfl ?_
        refine wp_pf (pc' := 64) rfl rfl rfl rfl (fun z => absurd z (by decide)) (fun z => absurd z (by decide)) ?_
        refine wp_run 1 (pc' := 115) (ls' := [(2, 30)]) (st' := []) rfl ?_
        exact wp_ret rfl rfl (l8 c1 c5 c6)
    · refine wp_run 2 (pc' := 28) (ls' := [(2, 30)]) (st' := [(2, 30), (2, 30)]) rfl ?_
      refine wp_gf (pc' := 31) (t := 0) (v := (M 30 7)) rfl rfl (by decide) rfl rfl rfl ?_
      refine wp_run 2 (pc' := 33) (ls' := [(2, 30)]) (st' := [(0, (z_w ((M 30 7) + 1))), (2, 30)]) rfl ?_
      refine wp_pf (pc' := 36) rfl rfl rfl rfl (fun z => absurd z (by decide)) (fun z => absurd z (by decide)) ?_
      refine wp_run 1 (pc' := 0) (ls' := [(2, 30)]) (st' := []) rfl ?_
      exact l9 c1 c5
set_option maxRecDepth 20000 in
theorem gX7_step_86 {xs : List Int} {d : Nat} {M : z_M} {P : Option z_V → z_L → z_M → Prop} 
    (l1 : P none z_LL M) :
    wp xs d mX7_step 86 [(2, 30)] [] z_LL M P := by
  refine wp_run 1 (pc' := 115) (ls' := [(2, 30)]) (st' := []) rfl ?_
  exact wp_ret rfl rfl (l1)
set_option maxRecDepth 20000 in
theorem gX7_step_108 {xs : List Int} {d : Nat} {M : z_M} {P : Option z_V → z_L → z_M → Prop} 
    (l1 : P none z_LL M) :
    wp xs d mX7_step 108 [(2, 30)] [] z_LL M P := by
  refine wp_run 1 (pc' := 115) (ls' := [(2, 30)]) (st' := []) rfl ?_
  exact wp_ret rfl rfl (l1)
set_option maxRecDepth 20000 in
theorem gX7_step_115 {xs : List Int} {d : Nat} {M : z_M} {P : Option z_V → z_L → z_M → Prop} 
    (l1 : P none z_LL M) :
    wp xs d mX7_step 115 [(2, 30)] [] z_LL M P := by
  exact wp_ret rfl rfl (l1)
section
variable {xs : List Int} {d : Nat} {M : z_M} {b : Int → Int} {n p : Int}
/-- the class's text -/
def zt_t (M : z_M) (b : Int → Int) (n : Int) : Prop := M 30 2 = n ∧ (0 ≤ n ∧ n ≤ 1600) ∧ (∀ i : Int, 0 ≤ i → i < 1600 → (0 ≤ b i ∧ b i < 256) ∧ M 31 i = z_by (b i)) ∧ ∀ i : Nat, i < 24 → M 32 i = z_rsv.getD i 0
/-- the class looks at the token at p -/
def zt_c (M : z_M) (b : Int → Int) (n p : Int) : Prop := M 30 3 = zt_k b n p ∧ M 30 4 = zt_s b n p ∧ M 30 7 = zt_x b n p ∧ (zt_k b n p = 25 → M 30 5 = zt_v b n p) ∧ (zt_k b n p ≤ 24 → M 30 6 = z_c5 (zt_l b n p))
/-- only what is said of a token has changed -/
def zt_f (M M' : z_M) : Prop := (∀ q, q ≠ 30 → M' q = M q) ∧ ∀ j, ¬ (3 ≤ j ∧ j ≤ 7) → M' 30 j = M 30 j
theorem zt_f_r : zt_f M M := ⟨fun _ _ => rfl, fun _ _ => rfl⟩
theorem zt_f_u {M' : z_M} {j v : Int} (f : zt_f M M') (h : 3 ≤ j ∧ j ≤ 7) : zt_f M (z_up M' 30 j v) := ⟨fun q a => by rw [z_upn a, f.1 q a], fun i a => by rw [z_upi (by omega) rfl, f.2 i a]⟩
theorem zt_f_F {M' : z_M} (f : zt_f M M') (hF : z_fix M) : z_fix M' := z_fix_gen hF (fun q i hq => by
  by_cases e : q = 30
  · rw [e] at hq ⊢
    exact f.2 i (by unfold z_fin at hq; omega)
  · rw [f.1 q e])
theorem zt_f_t {M' : z_M} (f : zt_f M M') (h : zt_t M b n) : zt_t M' b n := by
  unfold zt_t at h ⊢
  rw [f.2 2 (by omega), f.1 31 (by decide), f.1 32 (by decide)]
  exact h
noncomputable def zt_g (x : Int) : Int := @ite Int (z_isg x) (Classical.propDecidable _) x 27
theorem s_X7_readSign {P : Option z_V → z_L → z_M → Prop} {q : Int} (hF : z_fix M) (hT : zt_t M b n) (h7 : M 30 7 = q) (hq : 0 ≤ q ∧ q < n) (k : P none z_LL (z_up (z_up M 30 3 (zt_g (b q))) 30 7 (q + 1))) : wp xs (d + 4) mX7_readSign 0 [(2, 30), (3, 0)] [] z_LL M P := by
  obtain ⟨t1, t2, t3, t4⟩ := hT
  obtain ⟨b1, b2⟩ := t3 q hq.1 (by omega)
  have e1 : z_and (z_by (b q)) 255 = b q := by
    rw [z_and255]
    unfold z_by
    split <;> omega
  have e2 : z_i2c (b q) = b q := by
    have := z_i2c_n (b q).toNat (by omega)
    rw [show (((b q).toNat : Nat) : Int) = b q by omega] at this
    exact this
  have g := gX7_readSign_0 (M := M) (xs := xs) (d := d + 3) (P := P) hF
  rw [h7, b2, e1, e2] at g
  refine g (by omega) (s_idx (d := d) b1 (fun r hr => ?_))
  unfold zt_g at k
  have g := gX7_readSign_22 (M := M) (xs := xs) (d := d + 4) (P := P) (x1 := b q) (s1 := r)
  rw [h7, z_wid (by omega)] at g
  refine g (fun c => ?_) (fun c => ?_)
  · rwa [if_neg (hr.mp c)] at k
  · rwa [if_pos (Classical.byContradiction fun w => c (hr.mpr w))] at k
theorem s_X7_readNumber {P : Option z_V → z_L → z_M → Prop} {q : Int} (hF : z_fix M) (hT : zt_t M b n) (h7 : M 30 7 = q) (h4 : M 30 4 = q) (hq : 0 ≤ q ∧ q ≤ n) (k : ∀ M' : z_M, zt_f M M' → M' 30 4 = q → M' 30 3 = (if 4 < z_nd z_isd b n q - q ∨ (z_nd z_isd b n q < n ∧ z_isl (b (z_nd z_isd b n q)) = true) then 27 else 25) → M' 30 7 = z_nd z_isd b n q → (z_nd z_isd b n q - q ≤ 4 → M' 30 5 = z_vl b q (z_nd z_isd b n q - q).toNat) → P none z_LL M') : wp xs (d + 1) mX7_readNumber 0 [(2, 30), (3, 0)] [] z_LL M P := by
  have eb := z_nd_b (ok := z_isd) (b := b) (n := n) (p := q)
  have en := eb.2.1 hq.2
  have hi := fun r => z_nd_i (ok := z_isd) (b := b) (n := n) (p := q) (q := r)
  have n16 := hT.2.1
  refine gX7_readNumber_0 ?_
  refine z_loop (W := fun i => ∀ M' : z_M, zt_f M M' → M' 30 4 = q → M' 30 7 = q + i → q + i ≤ z_nd z_isd b n q → (i ≤ 4 → M' 30 5 = z_vl b q i) → wp xs (d + 1) mX7_readNumber 5 [(2, 30), (3, 0)] [] z_LL M' P) (z_nd z_isd b n q - q).toNat (fun i hm ih M' f m4 m7 hle m5 => ?_) _ (zt_f_u zt_f_r (by omega)) (by rw [z_upi (by decide) rfl]; exact h4) (by rw [z_upi (by decide) rfl, h7]; omega) (by omega) (fun _ => by rw [z_ups]; rfl)
  have hT' := zt_f_t f hT
  have hi := hi (q + i) (by omega) hle
  have g := gX7_readNumber_5 (M := M') (xs := xs) (d := d) (P := P) (zt_f_F f hF)
  rw [hT'.1, m7, m4, z_wid (x := q + (i : Int) - q) (by omega), show q + (i : Int) - q = i by omega, z_wid (x := q + (i : Int) + 1) (by omega)] at g
  by_cases c0 : q + i < n
  · obtain ⟨b1, b2⟩ := hT'.2.2.1 (q + i) (by omega) (by omega)
    rw [b2, propext (z_by_r b1 (lo := 48) (hi := 57) (by decide) (by decide)), propext (z_by_r b1 (lo := 97) (hi := 122) (by decide) (by decide))] at g
    by_cases cd : 48 ≤ b (q + i) ∧ b (q + i) ≤ 57
    · have nx := hi.1 ⟨c0, z_isd_t.mpr cd⟩
      have ih := ih (by omega)
      apply g
      case l13 =>
        intro _ _
        refine ih _ (zt_f_u (zt_f_u f (by omega)) (by omega)) (by rw [z_upi (by decide) rfl, z_upi (by decide) rfl]; exact m4) (by rw [z_ups]; omega) (by omega) (fun h4' => ?_)
        rw [z_upi (by decide) rfl, z_ups, m5 (by omega), z_vl]
        have vb := z_vl_b (b := b) (q := q) i (fun j a c => (eb.2.2 j a (by omega)).2)
        have hb : z_by (b (q + i)) = b (q + i) := by
          unfold z_by
          rw [if_pos (by omega)]
        have : (i = 0 ∨ i = 1 ∨ i = 2 ∨ i = 3) := by omega
        have vb2 : z_vl b q i < 1000 := by
          rcases this with rfl | rfl | rfl | rfl <;> omega
        rw [hb, z_wid (x := z_vl b q i * 10) (by omega), z_wid (x := z_vl b q i * 10 + b (q + i)) (by omega), z_wid (by omega)]
      all_goals (clear ih m5 k; intros; first | omega | (exfalso; omega))
    · have e := hi.2 (fun w => cd (z_isd_t.mp w.2))
      rw [e] at k
      have ei : (q + (i : Int) - q).toNat = i := by omega
      rw [ei] at k
      have fin : ∀ v : Int, v = (if 4 < q + (i : Int) - q ∨ (q + (i : Int) < n ∧ z_isl (b (q + i)) = true) then 27 else 25) → P none z_LL (z_up M' 30 3 v) := fun v hv => by
        refine k _ (zt_f_u f (by omega)) (by rw [z_upi (by decide) rfl]; exact m4) (by rw [z_ups]; exact hv) (by rw [z_upi (by decide) rfl]; exact m7) (fun w => ?_)
        rw [z_upi (by decide) rfl]
        exact m5 (by omega)
      by_cases cl : 97 ≤ b (q + i) ∧ b (q + i) ≤ 122
      · have l := z_isl_t.mpr cl
        have f27 := fin 27 (by rw [if_pos (Or.inr ⟨c0, l⟩)])
        apply g
        all_goals (clear ih k fin; intros; first | exact f27 | omega | (exfalso; omega))
      · by_cases c4 : 4 < (i : Int)
        · have f27 := fin 27 (by rw [if_pos (Or.inl (by omega))])
          apply g
          all_goals (clear ih k fin; intros; first | exact f27 | omega | (exfalso; omega))
        · have f25 := fin 25 (by rw [if_neg (fun w => w.elim (fun w => by omega) (fun w => cl (z_isl_t.mp w.2)))])
          apply g
          all_goals (clear ih k fin; intros; first | exact f25 | omega | (exfalso; omega))
  · have e := hi.2 (fun w => c0 w.1)
    rw [e] at k
    have ei : (q + (i : Int) - q).toNat = i := by omega
    rw [ei] at k
    have fin : ∀ v : Int, v = (if 4 < q + (i : Int) - q ∨ (q + (i : Int) < n ∧ z_isl (b (q + i)) = true) then 27 else 25) → P none z_LL (z_up M' 30 3 v) := fun v hv => by
      refine k _ (zt_f_u f (by omega)) (by rw [z_upi (by decide) rfl]; exact m4) (by rw [z_ups]; exact hv) (by rw [z_upi (by decide) rfl]; exact m7) (fun w => ?_)
      rw [z_upi (by decide) rfl]
      exact m5 (by omega)
    by_cases c4 : 4 < (i : Int)
    · have f27 := fin 27 (by rw [if_pos (Or.inl (by omega))])
      apply g
      all_goals (clear ih k fin; intros; first | exact f27 | omega | (exfalso; omega))
    · have f25 := fin 25 (by rw [if_neg (fun w => w.elim (fun w => by omega) (fun w => c0 w.1))])
      apply g
      all_goals (clear ih k fin; intros; first | exact f25 | omega | (exfalso; omega))
theorem z_c5_40 {l : List Int} (h : z_glt l) (hl : l.length ≤ 8) : 0 ≤ z_c5 l ∧ z_c5 l < 1099511627776 := by
  have b := z_c5_b l h
  generalize l.length = m at *
  have : m = 0 ∨ m = 1 ∨ m = 2 ∨ m = 3 ∨ m = 4 ∨ m = 5 ∨ m = 6 ∨ m = 7 ∨ m = 8 := by omega
  rcases this with rfl | rfl | rfl | rfl | rfl | rfl | rfl | rfl | rfl <;> omega
theorem s_X7_readWord {P : Option z_V → z_L → z_M → Prop} {q : Int} (hF : z_fix M) (hT : zt_t M b n) (h7 : M 30 7 = q) (h4 : M 30 4 = q) (hq : 0 ≤ q ∧ q ≤ n) (k : ∀ M' : z_M, zt_f M M' → M' 30 4 = q → M' 30 3 = (if 8 < z_nd z_isl b n q - q then 27 else z_kwd (z_ltr b q (z_nd z_isl b n q - q).toNat)) → M' 30 7 = z_nd z_isl b n q → (z_nd z_isl b n q - q ≤ 8 → M' 30 6 = z_c5 (z_ltr b q (z_nd z_isl b n q - q).toNat)) → P none z_LL M') : wp xs (d + 1) mX7_readWord 0 [(2, 30), (3, 0)] [] z_LL M P := by
  have eb := z_nd_b (ok := z_isl) (b := b) (n := n) (p := q)
  have en := eb.2.1 hq.2
  have hi := fun r => z_nd_i (ok := z_isl) (b := b) (n := n) (p := q) (q := r)
  have n16 := hT.2.1
  refine gX7_readWord_0 ?_
  refine z_loop (W := fun i => ∀ M' : z_M, zt_f M M' → M' 30 4 = q → M' 30 7 = q + i → q + i ≤ z_nd z_isl b n q → (i ≤ 8 → M' 30 6 = z_c5 (z_ltr b q i)) → wp xs (d + 1) mX7_readWord 5 [(2, 30), (3, 0)] [] z_LL M' P) (z_nd z_isl b n q - q).toNat (fun i hm ih M' f m4 m7 hle m6 => ?_) _ (zt_f_u zt_f_r (by omega)) (by rw [z_upi (by decide) rfl]; exact h4) (by rw [z_upi (by decide) rfl, h7]; omega) (by omega) (fun _ => by rw [z_ups]; rfl)
  have hT' := zt_f_t f hT
  have hi := hi (q + i) (by omega) hle
  have gl : z_glt (z_ltr b q i) := z_ltr_g i (fun j a c => (eb.2.2 j a (by omega)).2)
  have g := gX7_readWord_5 (M := M') (xs := xs) (d := d) (P := P) (zt_f_F f hF)
  rw [hT'.1, m7, m4, z_wid (x := q + (i : Int) - q) (by omega), show q + (i : Int) - q = i by omega, z_wid (x := q + (i : Int) + 1) (by omega)] at g
  -- the end of the word
  have fin : z_nd z_isl b n q = q + i → (¬ (i : Int) ≤ 8 → wp xs (d + 1) mX7_readWord 91 [(2, 30), (0, 0)] [] z_LL (z_up M' 30 3 27) P) ∧ ((i : Int) ≤ 8 → wp xs (d + 1) mX7_readWord 91 [(2, 30), (0, 0)] [] z_LL (z_up M' 30 3 24) P) := fun e => by
    rw [e, show (q + (i : Int) - q).toNat = i by omega] at k
    refine ⟨fun c => ?_, fun c => ?_⟩
    · have f2 := zt_f_u (j := 3) (v := 27) f (by omega)
      have g := gX7_readWord_91 (M := z_up M' 30 3 27) (xs := xs) (d := d + 1) (P := P) (x1 := 0) (zt_f_F f2 hF)
      rw [z_ups] at g
      have kk := k _ f2 (by rw [z_upi (by decide) rfl]; exact m4) (by rw [z_ups, if_pos (by omega)]) (by rw [z_upi (by decide) rfl]; exact m7) (fun w => by omega)
      exact g (fun _ => kk) (fun _ _ => kk) (fun _ w => absurd (by decide) w) (fun _ w => absurd (by decide) w) (fun _ w => absurd (by decide) w)
    · have f2 := zt_f_u (j := 3) (v := 24) f (by omega)
      have m6 := m6 (by omega)
      refine z_loop (W := fun r => (∀ j : Nat, j < r → z_kwd (z_ltr b q i) ≠ j) → wp xs (d + 1) mX7_readWord 91 [(2, 30), (0, (r : Int))] [] z_LL (z_up M' 30 3 24) P) 24 (fun r hr ih hv => ?_) (fun j w => absurd w (by omega))
      have g := gX7_readWord_91 (M := z_up M' 30 3 24) (xs := xs) (d := d + 1) (P := P) (x1 := (r : Int)) (zt_f_F f2 hF)
      rw [z_ups, z_upi (b := 6) (by decide) rfl, m6, z_upn (q := 32) (by decide), z_in1 (i := r) (by omega)] at g
      refine g (fun c2 => ?_) (fun _ w => absurd rfl w) (fun c2 _ => by omega) (fun c2 _ c3 => ?_) (fun c2 _ c3 => ?_)
      · refine k _ f2 (by rw [z_upi (by decide) rfl]; exact m4) ?_ (by rw [z_upi (by decide) rfl]; exact m7) (fun _ => by rw [z_upi (by decide) rfl]; exact m6)
        rw [z_ups, if_neg (by omega)]
        rcases z_kwd_r (z_ltr b q i) with ⟨j, j1, _, j2⟩ | ⟨_, j2⟩
        · exact absurd j2 (hv j (by omega))
        · exact j2.symm
      · refine ih (by omega) (fun j hj w => ?_)
        by_cases e2 : j = r
        · rw [e2] at w
          have := (z_kwd_5 gl (i := r) (by omega)).mpr w
          rw [hT'.2.2.2 r (by omega)] at c3
          exact c3 (z_lc0.mpr this)
        · exact hv j (by omega) w
      · rw [hT'.2.2.2 r (by omega)] at c3
        have hk := (z_kwd_5 gl (i := r) (by omega)).mp (z_lc0.mp (Classical.byContradiction c3))
        have f3 := zt_f_u (j := 3) (v := (r : Int)) f2 (by omega)
        have kk := k _ f3 (by rw [z_upi (by decide) rfl, z_upi (by decide) rfl]; exact m4) (by rw [z_ups, if_neg (by omega), hk]) (by rw [z_upi (by decide) rfl, z_upi (by decide) rfl]; exact m7) (fun _ => by rw [z_upi (by decide) rfl, z_upi (by decide) rfl]; exact m6)
        have g := gX7_readWord_91 (M := z_up (z_up M' 30 3 24) 30 3 (r : Int)) (xs := xs) (d := d + 1) (P := P) (x1 := ((r + 1 : Nat) : Int)) (zt_f_F f3 hF)
        rw [z_ups] at g
        exact g (fun _ => kk) (fun _ _ => kk) (fun _ w => absurd (by omega) w) (fun _ w => absurd (by omega) w) (fun _ w => absurd (by omega) w)
  by_cases c0 : q + i < n
  · obtain ⟨b1, b2⟩ := hT'.2.2.1 (q + i) (by omega) (by omega)
    rw [b2, propext (z_by_r b1 (lo := 97) (hi := 122) (by decide) (by decide))] at g
    by_cases cl : 97 ≤ b (q + i) ∧ b (q + i) ≤ 122
    · have nx := hi.1 ⟨c0, z_isl_t.mpr cl⟩
      have ih := ih (by omega)
      refine g (fun w => by omega) (fun w => by omega) (fun _ => by omega) (fun _ w => absurd cl w) (fun _ w => absurd cl w) (fun _ _ => ?_)
      refine ih _ (zt_f_u (zt_f_u f (by omega)) (by omega)) (by rw [z_upi (by decide) rfl, z_upi (by decide) rfl]; exact m4) (by rw [z_ups]; omega) (by omega) (fun h8 => ?_)
      have cb := z_c5_40 gl (by rw [z_ltr_l]; omega)
      have hb : z_by (b (q + i)) = b (q + i) := by
        unfold z_by
        rw [if_pos (by omega)]
      rw [z_upi (by decide) rfl, z_ups, m6 (by omega), z_ltr, z_c5, hb]
      unfold z_wl
      omega
    · have e := fin (hi.2 (fun w => cl (z_isl_t.mp w.2)))
      exact g (fun w => by omega) (fun w => by omega) (fun _ => by omega) (fun _ _ c => e.2 c) (fun _ _ c => e.1 c) (fun _ w => absurd w cl)
  · have e := fin (hi.2 (fun w => c0 w.1))
    exact g (fun _ c => e.2 c) (fun _ c => e.1 c) (fun w => by omega) (fun w => by omega) (fun w => by omega) (fun w => by omega)
theorem zt_e1 {q : Int} (h : zt_s b n p = q) (c : n ≤ q) : zt_k b n p = 26 ∧ zt_x b n p = q := by
  unfold zt_k zt_x
  rw [h]
  exact ⟨if_pos c, if_pos c⟩
theorem zt_e2 {q : Int} (h : zt_s b n p = q) (c : ¬ n ≤ q) (l : z_isl (b q) = true) : zt_k b n p = (if 8 < z_nd z_isl b n q - q then 27 else z_kwd (z_ltr b q (z_nd z_isl b n q - q).toNat)) ∧ zt_x b n p = z_nd z_isl b n q := by
  unfold zt_k zt_x
  rw [h]
  constructor
  · rw [if_neg c, if_pos l]
  · rw [if_neg c, if_pos l]
theorem zt_e3 {q : Int} (h : zt_s b n p = q) (c : ¬ n ≤ q) (l : ¬ z_isl (b q) = true) (e : z_isd (b q) = true) : zt_k b n p = (if 4 < z_nd z_isd b n q - q ∨ (z_nd z_isd b n q < n ∧ z_isl (b (z_nd z_isd b n q)) = true) then 27 else 25) ∧ zt_x b n p = z_nd z_isd b n q := by
  unfold zt_k zt_x
  rw [h]
  constructor
  · rw [if_neg c, if_neg l, if_pos e]
  · rw [if_neg c, if_neg l, if_pos e]
theorem zt_e4 {q : Int} (h : zt_s b n p = q) (c : ¬ n ≤ q) (l : ¬ z_isl (b q) = true) (e : ¬ z_isd (b q) = true) : zt_k b n p = zt_g (b q) ∧ zt_x b n p = q + 1 := by
  unfold zt_k zt_x
  rw [h]
  constructor
  · rw [if_neg c, if_neg l, if_neg e]
    rfl
  · rw [if_neg c, if_neg l, if_neg e]
theorem zt_g_k {x : Int} : zt_g x = 27 ∨ z_isg (zt_g x) := by
  unfold zt_g
  split
  · rename_i h
    exact Or.inr h
  · exact Or.inl rfl
theorem s_X7_step {P : Option z_V → z_L → z_M → Prop} (hF : z_fix M) (hT : zt_t M b n) (h7 : M 30 7 = p) (hp : 0 ≤ p ∧ p ≤ n) (k : ∀ M' : z_M, zt_f M M' → zt_c M' b n p → P none z_LL M') : wp xs (d + 5) mX7_step 0 [(2, 30)] [] z_LL M P := by
  have eb := z_nd_b (ok := z_isb) (b := b) (n := n) (p := p)
  have en := eb.2.1 hp.2
  have n16 := hT.2.1
  have hi := fun r => z_nd_i (ok := z_isb) (b := b) (n := n) (p := p) (q := r)
  unfold zt_c at k
  refine z_loop (W := fun i => ∀ M' : z_M, zt_f M M' → M' 30 7 = p + i → p + i ≤ z_nd z_isb b n p → wp xs (d + 5) mX7_step 0 [(2, 30)] [] z_LL M' P) (z_nd z_isb b n p - p).toNat (fun i hm ih M' f m7 hle => ?_) M zt_f_r (by rw [h7]; omega) (by omega)
  have hT' := zt_f_t f hT
  have F' := zt_f_F f hF
  have hi := hi (p + i) (by omega) hle
  have g := gX7_step_0 (M := M') (xs := xs) (d := d + 4) (P := P) F'
  rw [hT'.1, m7, z_wid (x := p + (i : Int) + 1) (by omega)] at g
  by_cases c0 : p + i < n
  · obtain ⟨b1, b2⟩ := hT'.2.2.1 (p + i) (by omega) (by omega)
    rw [b2, propext (z_by_r b1 (lo := 97) (hi := 122) (by decide) (by decide)), propext (z_by_r b1 (lo := 48) (hi := 57) (by decide) (by decide)), propext (z_by_i b1 (c := 32) (by decide)), propext (z_by_i b1 (c := 10) (by decide))] at g
    by_cases cb : b (p + i) = 32 ∨ b (p + i) = 10
    · have nx := hi.1 ⟨c0, z_isb_t.mpr cb⟩
      have ih := ih (by omega)
      refine g (fun w => by omega) (fun w => by omega) (fun w => by omega) (fun w => by omega) (fun w => by omega) (fun _ => by omega) (fun _ w => absurd cb w) (fun _ w => absurd cb w) (fun _ w => absurd cb w) (fun _ w => absurd cb w) (fun _ _ => ?_)
      exact ih _ (zt_f_u f (by omega)) (by rw [z_ups]; omega) (by omega)
    · have e := hi.2 (fun w => cb (z_isb_t.mp w.2))
      have es : zt_s b n p = p + i := e
      have m4 : z_up M' 30 4 (p + i) 30 4 = p + i := z_ups
      have m7' : z_up M' 30 4 (p + i) 30 7 = p + i := by rw [z_upi (by decide) rfl]; exact m7
      have f4 : zt_f M (z_up M' 30 4 (p + i)) := zt_f_u f (by omega)
      have F4 := zt_f_F f4 hF
      have T4 := zt_f_t f4 hT
      generalize z_up M' 30 4 (p + (i : Int)) = M4 at *
      have ft : ∀ M5, zt_f M4 M5 → zt_f M M5 := fun M5 h => ⟨fun q a => by rw [h.1 q a, f4.1 q a], fun j a => by rw [h.2 j a, f4.2 j a]⟩
      generalize hq : p + (i : Int) = q at *
      refine g (fun w => by omega) (fun w => by omega) (fun w => by omega) (fun w => by omega) (fun w => by omega) (fun _ => by omega) (fun _ _ _ cl cd => ?_) (fun _ _ _ cl cd => ?_) (fun _ _ _ cl => ?_) (fun _ _ w => absurd c0 w) (fun _ w => absurd w cb)
      · have e1 := zt_e4 es (by omega) (fun w => cl (z_isl_t.mp w)) (fun w => cd (z_isd_t.mp w))
        have kr := zt_g_k (x := b q)
        refine s_X7_readSign (d := d) F4 T4 m7' (by omega) (gX7_step_115 ?_)
        refine k _ (ft _ (zt_f_u (zt_f_u zt_f_r (by omega)) (by omega))) ⟨by rw [z_upi (by decide) rfl, z_ups, e1.1], by rw [z_upi (by decide) rfl, z_upi (by decide) rfl, es]; exact m4, by rw [z_ups, e1.2], fun w => ?_, fun w => ?_⟩
        · exfalso
          rw [e1.1] at w
          unfold z_isg at kr
          omega
        · exfalso
          rw [e1.1] at w
          unfold z_isg at kr
          omega
      · have e1 := zt_e3 es (by omega) (fun w => cl (z_isl_t.mp w)) (z_isd_t.mpr cd)
        refine s_X7_readNumber (d := d + 3) F4 T4 m7' m4 (by omega) (fun M5 f5 a4 a3 a7 a5 => gX7_step_108 (k M5 (ft _ f5) ⟨by rw [a3, e1.1], by rw [a4, es], by rw [a7, e1.2], fun w => ?_, fun w => ?_⟩))
        · rw [e1.1] at w
          unfold zt_v
          rw [es]
          exact a5 (Classical.byContradiction fun w2 => by
            rw [if_pos (Or.inl (by omega))] at w
            omega)
        · rw [e1.1] at w
          split at w <;> omega
      · have e1 := zt_e2 es (by omega) (z_isl_t.mpr cl)
        refine s_X7_readWord (d := d + 3) F4 T4 m7' m4 (by omega) (fun M5 f5 a4 a3 a7 a6 => gX7_step_86 (k M5 (ft _ f5) ⟨by rw [a3, e1.1], by rw [a4, es], by rw [a7, e1.2], fun w => ?_, fun w => ?_⟩))
        · rw [e1.1] at w
          have := z_kwd_b (z_ltr b q (z_nd z_isl b n q - q).toNat)
          split at w <;> omega
        · rw [e1.1] at w
          unfold zt_l
          rw [es]
          exact a6 (Classical.byContradiction fun w2 => by
            rw [if_pos (by omega)] at w
            omega)
  · have e := hi.2 (fun w => c0 w.1)
    have es : zt_s b n p = p + i := e
    have e1 := zt_e1 es (by omega)
    have fin : P none z_LL (z_up (z_up M' 30 4 (p + i)) 30 3 26) := k _ (zt_f_u (zt_f_u f (by omega)) (by omega)) ⟨by rw [z_ups, e1.1], by rw [z_upi (by decide) rfl, z_ups, es], by rw [z_upi (by decide) rfl, z_upi (by decide) rfl, e1.2]; exact m7, fun w => by omega, fun w => by omega⟩
    exact g (fun _ w => absurd w c0) (fun _ w => absurd w c0) (fun _ w => absurd w c0) (fun _ w => absurd w c0) (fun _ _ => fin) (fun w => by omega) (fun w => by omega) (fun w => by omega) (fun w => by omega) (fun w => by omega) (fun w => by omega)
end
