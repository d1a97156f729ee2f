set_option maxRecDepth 20000 in
theorem gX9_trick_0 {xs : List Int} {d : Nat} {M : z_M} {P : Option z_V → z_L → z_M → Prop} {a1 : Int} {a2 : Int} {a3 : Int} {a4 : Int} {a5 : Int} (hF : z_fix M) (hg1 : z_gor M (M 1 0)) (hh2 : z_her M (M 1 2))
    (b1 : M (M 1 0) 12 ≤ 6)
    (l1 : (¬ (z_cmg M (M 1 0) a1 a2)) → P (some (0, (-1))) z_LL M)
    (l2 : ((z_cmg M (M 1 0) a1 a2)) → (a4 < 1) → P (some (0, (-1))) z_LL M)
    (l3 : ((z_cmg M (M 1 0) a1 a2)) → (¬ (a4 < 1)) → (20 < a4) → P (some (0, (-1))) z_LL M)
    (l4 : ((z_cmg M (M 1 0) a1 a2)) → (¬ (a4 < 1)) → (¬ (20 < a4)) → (a5 < 0) → P (some (0, (-1))) z_LL M)
    (l5 : ((z_cmg M (M 1 0) a1 a2)) → (¬ (a4 < 1)) → (¬ (20 < a4)) → (¬ (a5 < 0)) → (1 < a5) → P (some (0, (-1))) z_LL M)
    (l6 : ((z_cmg M (M 1 0) a1 a2)) → (¬ (a4 < 1)) → (¬ (20 < a4)) → (¬ (a5 < 0)) → (¬ (1 < a5)) → (a3 < 1) → P (some (0, (-1))) z_LL M)
    (l7 : ((z_cmg M (M 1 0) a1 a2)) → (¬ (a4 < 1)) → (¬ (20 < a4)) → (¬ (a5 < 0)) → (¬ (1 < a5)) → (¬ (a3 < 1)) → (a3 ≤ 9) → wp xs (d + 1) mX0_leastSalt 0 [(2, 38), (2, (M 1 2)), (3, 0)] [] z_LL (z_up (z_up (z_up (z_up M 38 4 a1) 38 5 a2) 38 6 a3) 38 7 a4) (fun r L1 M1 => wp xs (d + 2) mX9_trick 60 [(2, 1), (0, a1), (0, a2), (0, a3), (0, a4), (0, a5)] (z_ol r ++ []) L1 M1 P))
    (l8 : ((z_cmg M (M 1 0) a1 a2)) → (¬ (a4 < 1)) → (¬ (20 < a4)) → (¬ (a5 < 0)) → (¬ (1 < a5)) → (¬ (a3 < 1)) → (¬ (a3 ≤ 9)) → P (some (0, (-1))) z_LL M) :
    wp xs (d + 2) mX9_trick 0 [(2, 1), (0, a1), (0, a2), (0, a3), (0, a4), (0, a5)] [] z_LL M P := by
  refine wp_run 1 (pc' := 1) (ls' := [(2, 1), (0, a1), (0, a2), (0, a3), (0, a4), (0, a5)]) (st' := [(2, 1)]) rfl ?_
  refine wp_gf (pc' := 4) (t := 2) (v := (M 1 0)) rfl rfl (by decide) rfl rfl rfl ?_
  refine wp_run 2 (pc' := 6) (ls' := [(2, 1), (0, a1), (0, a2), (0, a3), (0, a4), (0, a5)]) (st' := [(0, a2), (0, a1), (2, (M 1 0))]) rfl ?_
  refine wp_callv (pc' := 9) (as := [(2, (M 1 0)), (0, a1), (0, a2)]) (rest := []) (ls1 := [(2, (M 1 0)), (0, a1), (0, a2)]) rfl rfl rfl rfl (z_args_v rfl rfl rfl rfl (Nat.le_of_ble_eq_true rfl) rfl (by decide) (z_gl0 hg1)) rfl ?_
  refine s_X1_canMix hg1 (b1) ?_
  show wp xs _ mX9_trick 9 [(2, 1), (0, a1), (0, a2), (0, a3), (0, a4), (0, a5)] [(0, (z_b (z_cmg M (M 1 0) a1 a2)))] z_LL M _
  refine wp_be rfl rfl rfl (fun (c1 : ¬ (z_cmg M (M 1 0) a1 a2)) => ?_) (fun (c1 : (z_cmg M (M 1 0) a1 a2)) => ?_)
  · refine wp_run 1 (pc' := 23) (ls' := [(2, 1), (0, a1), (0, a2), (0, a3), (0, a4), (0, a5)]) (st' := [(0, (-1))]) rfl ?_
    exact wp_ret rfl rfl (l1 c1)
  · refine wp_run 2 (pc' := 16) (ls' := [(2, 1), (0, a1), (0, a2), (0, a3), (0, a4), (0, a5)]) (st' := [(0, a5), (0, a4)]) rfl ?_
    refine wp_callv (pc' := 19) (as := [(0, a4), (0, a5)]) (rest := []) (ls1 := [(0, a4), (0, a5)]) rfl rfl rfl rfl rfl rfl ?_
    refine wp_run 2 (pc' := 2) (ls' := [(0, a4), (0, a5)]) (st' := [(0, 1), (0, a4)]) rfl ?_
    refine wp_if2 rfl rfl rfl (fun (c2 : a4 < 1) => ?_) (fun (c2 : ¬ (a4 < 1)) => ?_)
    · refine wp_run 1 (pc' := 25) (ls' := [(0, a4), (0, a5)]) (st' := [(0, 0)]) rfl ?_
      refine wp_ret rfl rfl ?_
      show wp xs _ mX9_trick 19 [(2, 1), (0, a1), (0, a2), (0, a3), (0, a4), (0, a5)] [(0, 0)] z_LL M _
      refine wp_run 2 (pc' := 23) (ls' := [(2, 1), (0, a1), (0, a2), (0, a3), (0, a4), (0, a5)]) (st' := [(0, (-1))]) rfl ?_
      exact wp_ret rfl rfl (l2 c1 c2)
    · refine wp_run 2 (pc' := 8) (ls' := [(0, a4), (0, a5)]) (st' := [(0, 20), (0, a4)]) rfl ?_
      refine wp_if2 rfl rfl rfl (fun (c3 : 20 < a4) => ?_) (fun (c3 : ¬ (20 < a4)) => ?_)
      · refine wp_run 1 (pc' := 25) (ls' := [(0, a4), (0, a5)]) (st' := [(0, 0)]) rfl ?_
        refine wp_ret rfl rfl ?_
        show wp xs _ mX9_trick 19 [(2, 1), (0, a1), (0, a2), (0, a3), (0, a4), (0, a5)] [(0, 0)] z_LL M _
        refine wp_run 2 (pc' := 23) (ls' := [(2, 1), (0, a1), (0, a2), (0, a3), (0, a4), (0, a5)]) (st' := [(0, (-1))]) rfl ?_
        exact wp_ret rfl rfl (l3 c1 c2 c3)
      · refine wp_run 1 (pc' := 12) (ls' := [(0, a4), (0, a5)]) (st' := [(0, a5)]) rfl ?_
        refine wp_if1 rfl rfl rfl (fun (c4 : a5 < 0) => ?_) (fun (c4 : ¬ (a5 < 0)) => ?_)
        · refine wp_run 1 (pc' := 25) (ls' := [(0, a4), (0, a5)]) (st' := [(0, 0)]) rfl ?_
          refine wp_ret rfl rfl ?_
          show wp xs _ mX9_trick 19 [(2, 1), (0, a1), (0, a2), (0, a3), (0, a4), (0, a5)] [(0, 0)] z_LL M _
          refine wp_run 2 (pc' := 23) (ls' := [(2, 1), (0, a1), (0, a2), (0, a3), (0, a4), (0, a5)]) (st' := [(0, (-1))]) rfl ?_
          exact wp_ret rfl rfl (l4 c1 c2 c3 c4)
        · refine wp_run 2 (pc' := 17) (ls' := [(0, a4), (0, a5)]) (st' := [(0, 1), (0, a5)]) rfl ?_
          refine wp_if2 rfl rfl rfl (fun (c5 : 1 < a5) => ?_) (fun (c5 : ¬ (1 < a5)) => ?_)
          · refine wp_run 1 (pc' := 25) (ls' := [(0, a4), (0, a5)]) (st' := [(0, 0)]) rfl ?_
            refine wp_ret rfl rfl ?_
            show wp xs _ mX9_trick 19 [(2, 1), (0, a1), (0, a2), (0, a3), (0, a4), (0, a5)] [(0, 0)] z_LL M _
            refine wp_run 2 (pc' := 23) (ls' := [(2, 1), (0, a1), (0, a2), (0, a3), (0, a4), (0, a5)]) (st' := [(0, (-1))]) rfl ?_
            exact wp_ret rfl rfl (l5 c1 c2 c3 c4 c5)
          · refine wp_run 2 (pc' := 25) (ls' := [(0, a4), (0, a5)]) (st' := [(0, 1)]) rfl ?_
            refine wp_ret rfl rfl ?_
            show wp xs _ mX9_trick 19 [(2, 1), (0, a1), (0, a2), (0, a3), (0, a4), (0, a5)] [(0, 1)] z_LL M _
            refine wp_run 3 (pc' := 26) (ls' := [(2, 1), (0, a1), (0, a2), (0, a3), (0, a4), (0, a5)]) (st' := [(0, 1), (0, a3)]) rfl ?_
            refine wp_if2 rfl rfl rfl (fun (c6 : a3 < 1) => ?_) (fun (c6 : ¬ (a3 < 1)) => ?_)
            · refine wp_run 1 (pc' := 36) (ls' := [(2, 1), (0, a1), (0, a2), (0, a3), (0, a4), (0, a5)]) (st' := [(0, (-1))]) rfl ?_
              exact wp_ret rfl rfl (l6 c1 c2 c3 c4 c5 c6)
            · refine wp_run 2 (pc' := 32) (ls' := [(2, 1), (0, a1), (0, a2), (0, a3), (0, a4), (0, a5)]) (st' := [(0, 9), (0, a3)]) rfl ?_
              refine wp_if2 rfl rfl rfl (fun (c7 : a3 ≤ 9) => ?_) (fun (c7 : ¬ (a3 ≤ 9)) => ?_)
              · refine wp_run 1 (pc' := 38) (ls' := [(2, 1), (0, a1), (0, a2), (0, a3), (0, a4), (0, a5)]) (st' := [(2, 1)]) rfl ?_
                refine wp_gf (pc' := 41) (t := 2) (v := 38) rfl rfl (by decide) rfl rfl (fx_1_6 hF) ?_
                refine wp_run 4 (pc' := 46) (ls' := [(2, 1), (0, a1), (0, a2), (0, a3), (0, a4), (0, a5)]) (st' := [(0, a4), (0, a3), (0, a2), (0, a1), (2, 38)]) rfl ?_
                refine wp_callv (pc' := 49) (as := [(2, 38), (0, a1), (0, a2), (0, a3), (0, a4)]) (rest := []) (ls1 := [(2, 38), (0, a1), (0, a2), (0, a3), (0, a4)]) rfl rfl rfl rfl rfl rfl ?_
                refine wp_run 2 (pc' := 2) (ls' := [(2, 38), (0, a1), (0, a2), (0, a3), (0, a4)]) (st' := [(0, a1), (2, 38)]) rfl ?_
                refine wp_pf (pc' := 5) rfl rfl rfl rfl (fun z => absurd z (by decide)) (fun z => absurd z (by decide)) ?_
                refine wp_run 2 (pc' := 7) (ls' := [(2, 38), (0, a1), (0, a2), (0, a3), (0, a4)]) (st' := [(0, a2), (2, 38)]) rfl ?_
                refine wp_pf (pc' := 10) rfl rfl rfl rfl (fun z => absurd z (by decide)) (fun z => absurd z (by decide)) ?_
                refine wp_run 2 (pc' := 12) (ls' := [(2, 38), (0, a1), (0, a2), (0, a3), (0, a4)]) (st' := [(0, a3), (2, 38)]) rfl ?_
                refine wp_pf (pc' := 15) rfl rfl rfl rfl (fun z => absurd z (by decide)) (fun z => absurd z (by decide)) ?_
                refine wp_run 2 (pc' := 18) (ls' := [(2, 38), (0, a1), (0, a2), (0, a3), (0, a4)]) (st' := [(0, a4), (2, 38)]) rfl ?_
                refine wp_pf (pc' := 21) rfl rfl rfl rfl (fun z => absurd z (by decide)) (fun z => absurd z (by decide)) ?_
                refine wp_ret rfl rfl ?_
                show wp xs _ mX9_trick 49 [(2, 1), (0, a1), (0, a2), (0, a3), (0, a4), (0, a5)] [] z_LL (z_up (z_up (z_up (z_up M 38 4 a1) 38 5 a2) 38 6 a3) 38 7 a4) _
                refine wp_run 1 (pc' := 50) (ls' := [(2, 1), (0, a1), (0, a2), (0, a3), (0, a4), (0, a5)]) (st' := [(2, 1)]) rfl ?_
                refine wp_gf (pc' := 53) (t := 2) (v := 38) rfl rfl (by decide) rfl rfl (z_upq (by decide) (z_upq (by decide) (z_upq (by decide) (z_upq (by decide) (fx_1_6 hF))))) ?_
                refine wp_run 1 (pc' := 54) (ls' := [(2, 1), (0, a1), (0, a2), (0, a3), (0, a4), (0, a5)]) (st' := [(2, 1), (2, 38)]) rfl ?_
                refine wp_gf (pc' := 57) (t := 2) (v := (M 1 2)) rfl rfl (by decide) rfl rfl (z_upq (by decide) (z_upq (by decide) (z_upq (by decide) (z_upq (by decide) rfl)))) ?_
                refine wp_callv (pc' := 60) (as := [(2, 38), (2, (M 1 2))]) (rest := []) (ls1 := [(2, 38), (2, (M 1 2)), (3, 0)]) rfl rfl rfl rfl rfl rfl ?_
                exact l7 c1 c2 c3 c4 c5 c6 c7
              · refine wp_run 1 (pc' := 36) (ls' := [(2, 1), (0, a1), (0, a2), (0, a3), (0, a4), (0, a5)]) (st' := [(0, (-1))]) rfl ?_
                exact wp_ret rfl rfl (l8 c1 c2 c3 c4 c5 c6 c7)
set_option maxRecDepth 20000 in
theorem gX9_trick_60 {xs : List Int} {d : Nat} {M : z_M} {P : Option z_V → z_L → z_M → Prop} {x1 : Int} {x2 : Int} {x3 : Int} {x4 : Int} {x5 : Int} {s0 : Int} 
    (l1 : (s0 ≠ (-1)) → (x5 ≠ 0) → P (some (0, s0)) z_LL M)
    (l2 : (s0 ≠ (-1)) → (¬ (x5 ≠ 0)) → P (some (0, (z_bc s0))) z_LL M)
    (l3 : (¬ (s0 ≠ (-1))) → P (some (0, (-1))) z_LL M) :
    wp xs (d + 2) mX9_trick 60 [(2, 1), (0, x1), (0, x2), (0, x3), (0, x4), (0, x5)] [(0, s0)] z_LL M P := by
  refine wp_run 1 (pc' := 62) (ls' := [(2, 1), (0, x1), (0, x2), (0, x3), (0, x4), (0, x5)]) (st' := [(0, x5), (0, s0)]) rfl ?_
  refine wp_callv (pc' := 65) (as := [(0, s0), (0, x5)]) (rest := []) (ls1 := [(0, s0), (0, x5)]) rfl rfl rfl rfl rfl rfl ?_
  refine wp_run 2 (pc' := 2) (ls' := [(0, s0), (0, x5)]) (st' := [(0, (-1)), (0, s0)]) rfl ?_
  refine wp_if2 rfl rfl rfl (fun (c1 : s0 ≠ (-1)) => ?_) (fun (c1 : ¬ (s0 ≠ (-1))) => ?_)
  · refine wp_run 1 (pc' := 8) (ls' := [(0, s0), (0, x5)]) (st' := [(0, x5)]) rfl ?_
    refine wp_if1 rfl rfl rfl (fun (c2 : x5 ≠ 0) => ?_) (fun (c2 : ¬ (x5 ≠ 0)) => ?_)
    · refine wp_run 1 (pc' := 19) (ls' := [(0, s0), (0, x5)]) (st' := [(0, s0)]) rfl ?_
      refine wp_ret rfl rfl ?_
      show wp xs _ mX9_trick 65 [(2, 1), (0, x1), (0, x2), (0, x3), (0, x4), (0, x5)] [(0, s0)] z_LL M _
      exact wp_ret rfl rfl (l1 c1 c2)
    · refine wp_run 1 (pc' := 12) (ls' := [(0, s0), (0, x5)]) (st' := [(0, s0)]) rfl ?_
      refine wp_callv (pc' := 15) (as := [(0, s0)]) (rest := []) (ls1 := [(0, s0)]) rfl rfl rfl rfl rfl rfl ?_
      refine s_J6_bitCount_0f7a4  ?_
      show wp xs _ mX9_countOrSet 15 [(0, s0), (0, x5)] [(0, (z_bc s0))] z_LL M _
      refine wp_run 1 (pc' := 19) (ls' := [(0, s0), (0, x5)]) (st' := [(0, (z_bc s0))]) rfl ?_
      refine wp_ret rfl rfl ?_
      show wp xs _ mX9_trick 65 [(2, 1), (0, x1), (0, x2), (0, x3), (0, x4), (0, x5)] [(0, (z_bc s0))] z_LL M _
      exact wp_ret rfl rfl (l2 c1 c2)
  · refine wp_run 1 (pc' := 6) (ls' := [(0, s0), (0, x5)]) (st' := [(0, (-1))]) rfl ?_
    refine wp_ret rfl rfl ?_
    show wp xs _ mX9_trick 65 [(2, 1), (0, x1), (0, x2), (0, x3), (0, x4), (0, x5)] [(0, (-1))] z_LL M _
    exact wp_ret rfl rfl (l3 c1)
set_option maxRecDepth 20000 in
theorem gX10_trick_0 {xs : List Int} {d : Nat} {M : z_M} {P : Option z_V → z_L → z_M → Prop} {a1 : Int} {a2 : Int} {a3 : Int} {a4 : Int} {a5 : Int} (hF : z_fix M) (hC : z_mc M) 
    (l1 : (¬ ((0 ≤ a1 ∧ a1 < M 321 48) ∧ (0 ≤ a2 ∧ a2 < M 321 48) ∧ z_cm M a1 a2)) → P (some (0, (-1))) z_LL M)
    (l2 : (((0 ≤ a1 ∧ a1 < M 321 48) ∧ (0 ≤ a2 ∧ a2 < M 321 48) ∧ z_cm M a1 a2)) → (¬ (1 ≤ a3 ∧ a3 ≤ 9)) → P (some (0, (-1))) z_LL M)
    (l3 : (((0 ≤ a1 ∧ a1 < M 321 48) ∧ (0 ≤ a2 ∧ a2 < M 321 48) ∧ z_cm M a1 a2)) → ((1 ≤ a3 ∧ a3 ≤ 9)) → (¬ (1 ≤ a4 ∧ a4 ≤ 20)) → P (some (0, (-1))) z_LL M)
    (l4 : (((0 ≤ a1 ∧ a1 < M 321 48) ∧ (0 ≤ a2 ∧ a2 < M 321 48) ∧ z_cm M a1 a2)) → ((1 ≤ a3 ∧ a3 ≤ 9)) → ((1 ≤ a4 ∧ a4 ≤ 20)) → ((0 ≤ a5 ∧ a5 ≤ 1)) → wp xs (d + 3) mX10_trick 45 [(2, 321), (0, a1), (0, a2), (0, a3), (0, a4), (0, a5), (0, 0), (3, 0)] [] z_LL M P)
    (l5 : (((0 ≤ a1 ∧ a1 < M 321 48) ∧ (0 ≤ a2 ∧ a2 < M 321 48) ∧ z_cm M a1 a2)) → ((1 ≤ a3 ∧ a3 ≤ 9)) → ((1 ≤ a4 ∧ a4 ≤ 20)) → (¬ (0 ≤ a5 ∧ a5 ≤ 1)) → P (some (0, (-1))) z_LL M) :
    wp xs (d + 3) mX10_trick 0 [(2, 321), (0, a1), (0, a2), (0, a3), (0, a4), (0, a5), (3, 0), (3, 0)] [] z_LL M P := by
  refine wp_run 3 (pc' := 3) (ls' := [(2, 321), (0, a1), (0, a2), (0, a3), (0, a4), (0, a5), (3, 0), (3, 0)]) (st' := [(0, a2), (0, a1), (2, 321)]) rfl ?_
  refine wp_callv (pc' := 6) (as := [(2, 321), (0, a1), (0, a2)]) (rest := []) (ls1 := [(2, 321), (0, a1), (0, a2)]) rfl rfl rfl rfl rfl rfl ?_
  refine s_X10_areMixing hF hC ?_
  show wp xs _ mX10_trick 6 [(2, 321), (0, a1), (0, a2), (0, a3), (0, a4), (0, a5), (3, 0), (3, 0)] [(0, (z_b ((0 ≤ a1 ∧ a1 < M 321 48) ∧ (0 ≤ a2 ∧ a2 < M 321 48) ∧ z_cm M a1 a2)))] z_LL M _
  refine wp_be rfl rfl rfl (fun (c1 : ¬ ((0 ≤ a1 ∧ a1 < M 321 48) ∧ (0 ≤ a2 ∧ a2 < M 321 48) ∧ z_cm M a1 a2)) => ?_) (fun (c1 : ((0 ≤ a1 ∧ a1 < M 321 48) ∧ (0 ≤ a2 ∧ a2 < M 321 48) ∧ z_cm M a1 a2)) => ?_)
  · refine wp_run 1 (pc' := 41) (ls' := [(2, 321), (0, a1), (0, a2), (0, a3), (0, a4), (0, a5), (3, 0), (3, 0)]) (st' := [(0, (-1))]) rfl ?_
    exact wp_ret rfl rfl (l1 c1)
  · refine wp_run 3 (pc' := 13) (ls' := [(2, 321), (0, a1), (0, a2), (0, a3), (0, a4), (0, a5), (3, 0), (3, 0)]) (st' := [(0, 9), (0, 1), (0, a3)]) rfl ?_
    refine wp_callv (pc' := 16) (as := [(0, a3), (0, 1), (0, 9)]) (rest := []) (ls1 := [(0, a3), (0, 1), (0, 9)]) rfl rfl rfl rfl rfl rfl ?_
    refine s_X10_isIn  ?_
    show wp xs _ mX10_trick 16 [(2, 321), (0, a1), (0, a2), (0, a3), (0, a4), (0, a5), (3, 0), (3, 0)] [(0, (z_b (1 ≤ a3 ∧ a3 ≤ 9)))] z_LL M _
    refine wp_be rfl rfl rfl (fun (c2 : ¬ (1 ≤ a3 ∧ a3 ≤ 9)) => ?_) (fun (c2 : (1 ≤ a3 ∧ a3 ≤ 9)) => ?_)
    · refine wp_run 1 (pc' := 41) (ls' := [(2, 321), (0, a1), (0, a2), (0, a3), (0, a4), (0, a5), (3, 0), (3, 0)]) (st' := [(0, (-1))]) rfl ?_
      exact wp_ret rfl rfl (l2 c1 c2)
    · refine wp_run 3 (pc' := 24) (ls' := [(2, 321), (0, a1), (0, a2), (0, a3), (0, a4), (0, a5), (3, 0), (3, 0)]) (st' := [(0, 20), (0, 1), (0, a4)]) rfl ?_
      refine wp_callv (pc' := 27) (as := [(0, a4), (0, 1), (0, 20)]) (rest := []) (ls1 := [(0, a4), (0, 1), (0, 20)]) rfl rfl rfl rfl rfl rfl ?_
      refine s_X10_isIn  ?_
      show wp xs _ mX10_trick 27 [(2, 321), (0, a1), (0, a2), (0, a3), (0, a4), (0, a5), (3, 0), (3, 0)] [(0, (z_b (1 ≤ a4 ∧ a4 ≤ 20)))] z_LL M _
      refine wp_be rfl rfl rfl (fun (c3 : ¬ (1 ≤ a4 ∧ a4 ≤ 20)) => ?_) (fun (c3 : (1 ≤ a4 ∧ a4 ≤ 20)) => ?_)
      · refine wp_run 1 (pc' := 41) (ls' := [(2, 321), (0, a1), (0, a2), (0, a3), (0, a4), (0, a5), (3, 0), (3, 0)]) (st' := [(0, (-1))]) rfl ?_
        exact wp_ret rfl rfl (l3 c1 c2 c3)
      · refine wp_run 3 (pc' := 34) (ls' := [(2, 321), (0, a1), (0, a2), (0, a3), (0, a4), (0, a5), (3, 0), (3, 0)]) (st' := [(0, 1), (0, 0), (0, a5)]) rfl ?_
        refine wp_callv (pc' := 37) (as := [(0, a5), (0, 0), (0, 1)]) (rest := []) (ls1 := [(0, a5), (0, 0), (0, 1)]) rfl rfl rfl rfl rfl rfl ?_
        refine s_X10_isIn  ?_
        show wp xs _ mX10_trick 37 [(2, 321), (0, a1), (0, a2), (0, a3), (0, a4), (0, a5), (3, 0), (3, 0)] [(0, (z_b (0 ≤ a5 ∧ a5 ≤ 1)))] z_LL M _
        refine wp_bn rfl rfl rfl (fun (c4 : (0 ≤ a5 ∧ a5 ≤ 1)) => ?_) (fun (c4 : ¬ (0 ≤ a5 ∧ a5 ≤ 1)) => ?_)
        · refine wp_run 2 (pc' := 45) (ls' := [(2, 321), (0, a1), (0, a2), (0, a3), (0, a4), (0, a5), (0, 0), (3, 0)]) (st' := []) rfl ?_
          exact l4 c1 c2 c3 c4
        · refine wp_run 1 (pc' := 41) (ls' := [(2, 321), (0, a1), (0, a2), (0, a3), (0, a4), (0, a5), (3, 0), (3, 0)]) (st' := [(0, (-1))]) rfl ?_
          exact wp_ret rfl rfl (l5 c1 c2 c3 c4)
set_option maxRecDepth 20000 in
theorem gX10_trick_45 {xs : List Int} {d : Nat} {M : z_M} {P : Option z_V → z_L → z_M → Prop} {x1 : Int} {x2 : Int} {x3 : Int} {x4 : Int} {x5 : Int} {x6 : Int} {w7 : z_V} 
    (l1 : (3 < x6) → P (some (0, (-1))) z_LL M)
    (l2 : (¬ (3 < x6)) → wp xs d mX10_trickOf 0 [(2, 321), (0, x1), (0, x2), (0, x3), (0, x4), (0, x6), (3, 0), (3, 0), (3, 0)] [] z_LL M (fun r L1 M1 => wp xs (d + 1) mX10_trick 62 [(2, 321), (0, x1), (0, x2), (0, x3), (0, x4), (0, x5), (0, x6), w7] (z_ol r ++ []) L1 M1 P)) :
    wp xs (d + 1) mX10_trick 45 [(2, 321), (0, x1), (0, x2), (0, x3), (0, x4), (0, x5), (0, x6), w7] [] z_LL M P := by
  refine wp_run 2 (pc' := 48) (ls' := [(2, 321), (0, x1), (0, x2), (0, x3), (0, x4), (0, x5), (0, x6), w7]) (st' := [(0, 3), (0, x6)]) rfl ?_
  refine wp_if2 rfl rfl rfl (fun (c1 : 3 < x6) => ?_) (fun (c1 : ¬ (3 < x6)) => ?_)
  · refine wp_run 1 (pc' := 89) (ls' := [(2, 321), (0, x1), (0, x2), (0, x3), (0, x4), (0, x5), (0, x6), w7]) (st' := [(0, (-1))]) rfl ?_
    exact wp_ret rfl rfl (l1 c1)
  · refine wp_run 6 (pc' := 59) (ls' := [(2, 321), (0, x1), (0, x2), (0, x3), (0, x4), (0, x5), (0, x6), w7]) (st' := [(0, x6), (0, x4), (0, x3), (0, x2), (0, x1), (2, 321)]) rfl ?_
    refine wp_callv (pc' := 62) (as := [(2, 321), (0, x1), (0, x2), (0, x3), (0, x4), (0, x6)]) (rest := []) (ls1 := [(2, 321), (0, x1), (0, x2), (0, x3), (0, x4), (0, x6), (3, 0), (3, 0), (3, 0)]) rfl rfl rfl rfl rfl rfl ?_
    exact l2 c1
set_option maxRecDepth 20000 in
theorem gX10_trick_62 {xs : List Int} {d : Nat} {M : z_M} {P : Option z_V → z_L → z_M → Prop} {x1 : Int} {x2 : Int} {x3 : Int} {x4 : Int} {x5 : Int} {x6 : Int} {w7 : z_V} {s0 : Int} 
    (l1 : (s0 < 0) → wp xs d mX10_trick 45 [(2, 321), (0, x1), (0, x2), (0, x3), (0, x4), (0, x5), (0, (z_w (x6 + 1))), (0, s0)] [] z_LL M P)
    (l2 : (¬ (s0 < 0)) → (x5 ≠ 0) → P (some (0, s0)) z_LL M)
    (l3 : (¬ (s0 < 0)) → (¬ (x5 ≠ 0)) → P (some (0, x6)) z_LL M) :
    wp xs d mX10_trick 62 [(2, 321), (0, x1), (0, x2), (0, x3), (0, x4), (0, x5), (0, x6), w7] [(0, s0)] z_LL M P := by
  refine wp_run 2 (pc' := 66) (ls' := [(2, 321), (0, x1), (0, x2), (0, x3), (0, x4), (0, x5), (0, x6), (0, s0)]) (st' := [(0, s0)]) rfl ?_
  refine wp_if1 rfl rfl rfl (fun (c1 : s0 < 0) => ?_) (fun (c1 : ¬ (s0 < 0)) => ?_)
  · refine wp_run 2 (pc' := 45) (ls' := [(2, 321), (0, x1), (0, x2), (0, x3), (0, x4), (0, x5), (0, (z_w (x6 + 1))), (0, s0)]) (st' := []) rfl ?_
    exact l1 c1
  · refine wp_run 1 (pc' := 71) (ls' := [(2, 321), (0, x1), (0, x2), (0, x3), (0, x4), (0, x5), (0, x6), (0, s0)]) (st' := [(0, x5)]) rfl ?_
    refine wp_if1 rfl rfl rfl (fun (c2 : x5 ≠ 0) => ?_) (fun (c2 : ¬ (x5 ≠ 0)) => ?_)
    · refine wp_run 1 (pc' := 81) (ls' := [(2, 321), (0, x1), (0, x2), (0, x3), (0, x4), (0, x5), (0, x6), (0, s0)]) (st' := [(0, s0)]) rfl ?_
      exact wp_ret rfl rfl (l2 c1 c2)
    · refine wp_run 2 (pc' := 81) (ls' := [(2, 321), (0, x1), (0, x2), (0, x3), (0, x4), (0, x5), (0, x6), (0, s0)]) (st' := [(0, x6)]) rfl ?_
      exact wp_ret rfl rfl (l3 c1 c2)
set_option maxRecDepth 20000 in
theorem gX10_trickOf_0 {xs : List Int} {d : Nat} {M : z_M} {P : Option z_V → z_L → z_M → Prop} {a1 : Int} {a2 : Int} {a3 : Int} {a4 : Int} {a5 : Int} 
    (l1 : (a5 ≠ 0) → wp xs (d + 1) mX10_trickOf 29 [(2, 321), (0, a1), (0, a2), (0, a3), (0, a4), (0, a5), (0, 0), (3, 0), (3, 0)] [] z_LL M P)
    (l2 : (¬ (a5 ≠ 0)) → wp xs d mX10_isTrick 0 [(2, 321), (0, a1), (0, a2), (0, a3), (0, a4), (0, (-1)), (0, (-1)), (0, (-1)), (3, 0)] [] z_LL M (fun r L1 M1 => wp xs (d + 1) mX10_trickOf 17 [(2, 321), (0, a1), (0, a2), (0, a3), (0, a4), (0, a5), (3, 0), (3, 0), (3, 0)] (z_ol r ++ []) L1 M1 P)) :
    wp xs (d + 1) mX10_trickOf 0 [(2, 321), (0, a1), (0, a2), (0, a3), (0, a4), (0, a5), (3, 0), (3, 0), (3, 0)] [] z_LL M P := by
  refine wp_run 1 (pc' := 2) (ls' := [(2, 321), (0, a1), (0, a2), (0, a3), (0, a4), (0, a5), (3, 0), (3, 0), (3, 0)]) (st' := [(0, a5)]) rfl ?_
  refine wp_if1 rfl rfl rfl (fun (c1 : a5 ≠ 0) => ?_) (fun (c1 : ¬ (a5 ≠ 0)) => ?_)
  · refine wp_run 2 (pc' := 29) (ls' := [(2, 321), (0, a1), (0, a2), (0, a3), (0, a4), (0, a5), (0, 0), (3, 0), (3, 0)]) (st' := []) rfl ?_
    exact l1 c1
  · refine wp_run 8 (pc' := 14) (ls' := [(2, 321), (0, a1), (0, a2), (0, a3), (0, a4), (0, a5), (3, 0), (3, 0), (3, 0)]) (st' := [(0, (-1)), (0, (-1)), (0, (-1)), (0, a4), (0, a3), (0, a2), (0, a1), (2, 321)]) rfl ?_
    refine wp_callv (pc' := 17) (as := [(2, 321), (0, a1), (0, a2), (0, a3), (0, a4), (0, (-1)), (0, (-1)), (0, (-1))]) (rest := []) (ls1 := [(2, 321), (0, a1), (0, a2), (0, a3), (0, a4), (0, (-1)), (0, (-1)), (0, (-1)), (3, 0)]) rfl rfl rfl rfl rfl rfl ?_
    exact l2 c1
set_option maxRecDepth 20000 in
theorem gX10_trickOf_17 {xs : List Int} {d : Nat} {M : z_M} {P : Option z_V → z_L → z_M → Prop} {x1 : Int} {x2 : Int} {x3 : Int} {x4 : Int} {x5 : Int} {s0 : Int} 
    (l1 : (s0 = 0) → P (some (0, (-1))) z_LL M)
    (l2 : (¬ (s0 = 0)) → P (some (0, 0)) z_LL M) :
    wp xs d mX10_trickOf 17 [(2, 321), (0, x1), (0, x2), (0, x3), (0, x4), (0, x5), (3, 0), (3, 0), (3, 0)] [(0, s0)] z_LL M P := by
  refine wp_if1 rfl rfl rfl (fun (c1 : s0 = 0) => ?_) (fun (c1 : ¬ (s0 = 0)) => ?_)
  · refine wp_run 1 (pc' := 25) (ls' := [(2, 321), (0, x1), (0, x2), (0, x3), (0, x4), (0, x5), (3, 0), (3, 0), (3, 0)]) (st' := [(0, (-1))]) rfl ?_
    exact wp_ret rfl rfl (l1 c1)
  · refine wp_run 2 (pc' := 25) (ls' := [(2, 321), (0, x1), (0, x2), (0, x3), (0, x4), (0, x5), (3, 0), (3, 0), (3, 0)]) (st' := [(0, 0)]) rfl ?_
    exact wp_ret rfl rfl (l2 c1)
set_option maxRecDepth 20000 in
theorem gX10_trickOf_29 {xs : List Int} {d : Nat} {M : z_M} {P : Option z_V → z_L → z_M → Prop} {x1 : Int} {x2 : Int} {x3 : Int} {x4 : Int} {x5 : Int} {x6 : Int} {w7 : z_V} {w8 : z_V} (hF : z_fix M) (hC : z_mc M) 
    (l1 : ((M 321 46 * M 321 47) ≤ x6) → P (some (0, (-1))) z_LL M)
    (b1 : (¬ ((M 321 46 * M 321 47) ≤ x6)) → (0 ≤ x6 ∧ x6 < 25))
    (l2 : (¬ ((M 321 46 * M 321 47) ≤ x6)) → ((M 342 (79 + x6) = 0)) → (x5 ≠ 1) → wp xs (d + 1) mX10_trickOf 80 [(2, 321), (0, x1), (0, x2), (0, x3), (0, x4), (0, x5), (0, x6), (0, 0), w8] [] z_LL M P)
    (l3 : (¬ ((M 321 46 * M 321 47) ≤ x6)) → ((M 342 (79 + x6) = 0)) → (¬ (x5 ≠ 1)) → wp xs d mX10_isTrick 0 [(2, 321), (0, x1), (0, x2), (0, x3), (0, x4), (0, x6), (0, (-1)), (0, (-1)), (3, 0)] [] z_LL M (fun r L1 M1 => wp xs (d + 1) mX10_trickOf 69 [(2, 321), (0, x1), (0, x2), (0, x3), (0, x4), (0, x5), (0, x6), w7, w8] (z_ol r ++ []) L1 M1 P))
    (l4 : (¬ ((M 321 46 * M 321 47) ≤ x6)) → (¬ (M 342 (79 + x6) = 0)) → wp xs (d + 1) mX10_trickOf 29 [(2, 321), (0, x1), (0, x2), (0, x3), (0, x4), (0, x5), (0, (z_w (x6 + 1))), w7, w8] [] z_LL M P) :
    wp xs (d + 1) mX10_trickOf 29 [(2, 321), (0, x1), (0, x2), (0, x3), (0, x4), (0, x5), (0, x6), w7, w8] [] z_LL M P := by
  refine wp_run 2 (pc' := 32) (ls' := [(2, 321), (0, x1), (0, x2), (0, x3), (0, x4), (0, x5), (0, x6), w7, w8]) (st' := [(2, 321), (0, x6)]) rfl ?_
  refine wp_callv (pc' := 35) (as := [(2, 321)]) (rest := [(0, x6)]) (ls1 := [(2, 321)]) rfl rfl rfl rfl rfl rfl ?_
  refine s_X10_all hF hC ?_
  show wp xs _ mX10_trickOf 35 [(2, 321), (0, x1), (0, x2), (0, x3), (0, x4), (0, x5), (0, x6), w7, w8] [(0, (M 321 46 * M 321 47)), (0, x6)] z_LL M _
  refine wp_if2 rfl rfl rfl (fun (c1 : (M 321 46 * M 321 47) ≤ x6) => ?_) (fun (c1 : ¬ ((M 321 46 * M 321 47) ≤ x6)) => ?_)
  · refine wp_run 1 (pc' := 215) (ls' := [(2, 321), (0, x1), (0, x2), (0, x3), (0, x4), (0, x5), (0, x6), w7, w8]) (st' := [(0, (-1))]) rfl ?_
    exact wp_ret rfl rfl (l1 c1)
  · refine wp_run 2 (pc' := 41) (ls' := [(2, 321), (0, x1), (0, x2), (0, x3), (0, x4), (0, x5), (0, x6), w7, w8]) (st' := [(0, x6), (2, 321)]) rfl ?_
    refine wp_callv (pc' := 44) (as := [(2, 321), (0, x6)]) (rest := []) (ls1 := [(2, 321), (0, x6)]) rfl rfl rfl rfl rfl rfl ?_
    refine s_X10_isFree hF (b1 c1) ?_
    show wp xs _ mX10_trickOf 44 [(2, 321), (0, x1), (0, x2), (0, x3), (0, x4), (0, x5), (0, x6), w7, w8] [(0, (z_b (M 342 (79 + x6) = 0)))] z_LL M _
    refine wp_bn rfl rfl rfl (fun (c2 : (M 342 (79 + x6) = 0)) => ?_) (fun (c2 : ¬ (M 342 (79 + x6) = 0)) => ?_)
    · refine wp_run 2 (pc' := 53) (ls' := [(2, 321), (0, x1), (0, x2), (0, x3), (0, x4), (0, x5), (0, x6), w7, w8]) (st' := [(0, 1), (0, x5)]) rfl ?_
      refine wp_if2 rfl rfl rfl (fun (c3 : x5 ≠ 1) => ?_) (fun (c3 : ¬ (x5 ≠ 1)) => ?_)
      · refine wp_run 2 (pc' := 80) (ls' := [(2, 321), (0, x1), (0, x2), (0, x3), (0, x4), (0, x5), (0, x6), (0, 0), w8]) (st' := []) rfl ?_
        exact l2 c1 c2 c3
      · refine wp_run 8 (pc' := 66) (ls' := [(2, 321), (0, x1), (0, x2), (0, x3), (0, x4), (0, x5), (0, x6), w7, w8]) (st' := [(0, (-1)), (0, (-1)), (0, x6), (0, x4), (0, x3), (0, x2), (0, x1), (2, 321)]) rfl ?_
        refine wp_callv (pc' := 69) (as := [(2, 321), (0, x1), (0, x2), (0, x3), (0, x4), (0, x6), (0, (-1)), (0, (-1))]) (rest := []) (ls1 := [(2, 321), (0, x1), (0, x2), (0, x3), (0, x4), (0, x6), (0, (-1)), (0, (-1)), (3, 0)]) rfl rfl rfl rfl rfl rfl ?_
        exact l3 c1 c2 c3
    · refine wp_run 3 (pc' := 29) (ls' := [(2, 321), (0, x1), (0, x2), (0, x3), (0, x4), (0, x5), (0, (z_w (x6 + 1))), w7, w8]) (st' := []) rfl ?_
      exact l4 c1 c2
set_option maxRecDepth 20000 in
theorem gX10_trickOf_69 {xs : List Int} {d : Nat} {M : z_M} {P : Option z_V → z_L → z_M → Prop} {x1 : Int} {x2 : Int} {x3 : Int} {x4 : Int} {x5 : Int} {x6 : Int} {w7 : z_V} {w8 : z_V} {s0 : Int} 
    (l1 : (s0 = 0) → wp xs d mX10_trickOf 80 [(2, 321), (0, x1), (0, x2), (0, x3), (0, x4), (0, x5), (0, x6), (0, 0), w8] [] z_LL M P)
    (l2 : (¬ (s0 = 0)) → P (some (0, (z_shl 1 x6))) z_LL M) :
    wp xs d mX10_trickOf 69 [(2, 321), (0, x1), (0, x2), (0, x3), (0, x4), (0, x5), (0, x6), w7, w8] [(0, s0)] z_LL M P := by
  refine wp_if1 rfl rfl rfl (fun (c1 : s0 = 0) => ?_) (fun (c1 : ¬ (s0 = 0)) => ?_)
  · refine wp_run 2 (pc' := 80) (ls' := [(2, 321), (0, x1), (0, x2), (0, x3), (0, x4), (0, x5), (0, x6), (0, 0), w8]) (st' := []) rfl ?_
    exact l1 c1
  · refine wp_run 3 (pc' := 76) (ls' := [(2, 321), (0, x1), (0, x2), (0, x3), (0, x4), (0, x5), (0, x6), w7, w8]) (st' := [(0, (z_shl 1 x6))]) rfl ?_
    exact wp_ret rfl rfl (l2 c1)
set_option maxRecDepth 20000 in
theorem gX10_trickOf_80 {xs : List Int} {d : Nat} {M : z_M} {P : Option z_V → z_L → z_M → Prop} {x1 : Int} {x2 : Int} {x3 : Int} {x4 : Int} {x5 : Int} {x6 : Int} {x7 : Int} {w8 : z_V} (hF : z_fix M) 
    (l1 : (x6 ≤ x7) → wp xs (d + 1) mX10_trickOf 29 [(2, 321), (0, x1), (0, x2), (0, x3), (0, x4), (0, x5), (0, (z_w (x6 + 1))), (0, x7), w8] [] z_LL M P)
    (l2 : (¬ (x6 ≤ x7)) → (x5 ≤ 1) → wp xs (d + 1) mX10_trickOf 29 [(2, 321), (0, x1), (0, x2), (0, x3), (0, x4), (0, x5), (0, (z_w (x6 + 1))), (0, x7), w8] [] z_LL M P)
    (b1 : (¬ (x6 ≤ x7)) → (¬ (x5 ≤ 1)) → (0 ≤ x7 ∧ x7 < 25))
    (l3 : (¬ (x6 ≤ x7)) → (¬ (x5 ≤ 1)) → ((M 342 (79 + x7) = 0)) → (x5 ≠ 2) → wp xs (d + 1) mX10_trickOf 141 [(2, 321), (0, x1), (0, x2), (0, x3), (0, x4), (0, x5), (0, x6), (0, x7), (0, 0)] [] z_LL M P)
    (l4 : (¬ (x6 ≤ x7)) → (¬ (x5 ≤ 1)) → ((M 342 (79 + x7) = 0)) → (¬ (x5 ≠ 2)) → wp xs d mX10_isTrick 0 [(2, 321), (0, x1), (0, x2), (0, x3), (0, x4), (0, x6), (0, x7), (0, (-1)), (3, 0)] [] z_LL M (fun r L1 M1 => wp xs (d + 1) mX10_trickOf 125 [(2, 321), (0, x1), (0, x2), (0, x3), (0, x4), (0, x5), (0, x6), (0, x7), w8] (z_ol r ++ []) L1 M1 P))
    (l5 : (¬ (x6 ≤ x7)) → (¬ (x5 ≤ 1)) → (¬ (M 342 (79 + x7) = 0)) → wp xs (d + 1) mX10_trickOf 80 [(2, 321), (0, x1), (0, x2), (0, x3), (0, x4), (0, x5), (0, x6), (0, (z_w (x7 + 1))), w8] [] z_LL M P) :
    wp xs (d + 1) mX10_trickOf 80 [(2, 321), (0, x1), (0, x2), (0, x3), (0, x4), (0, x5), (0, x6), (0, x7), w8] [] z_LL M P := by
  refine wp_run 2 (pc' := 84) (ls' := [(2, 321), (0, x1), (0, x2), (0, x3), (0, x4), (0, x5), (0, x6), (0, x7), w8]) (st' := [(0, x6), (0, x7)]) rfl ?_
  refine wp_if2 rfl rfl rfl (fun (c1 : x6 ≤ x7) => ?_) (fun (c1 : ¬ (x6 ≤ x7)) => ?_)
  · refine wp_run 2 (pc' := 29) (ls' := [(2, 321), (0, x1), (0, x2), (0, x3), (0, x4), (0, x5), (0, (z_w (x6 + 1))), (0, x7), w8]) (st' := []) rfl ?_
    exact l1 c1
  · refine wp_run 2 (pc' := 90) (ls' := [(2, 321), (0, x1), (0, x2), (0, x3), (0, x4), (0, x5), (0, x6), (0, x7), w8]) (st' := [(0, 1), (0, x5)]) rfl ?_
    refine wp_if2 rfl rfl rfl (fun (c2 : x5 ≤ 1) => ?_) (fun (c2 : ¬ (x5 ≤ 1)) => ?_)
    · refine wp_run 2 (pc' := 29) (ls' := [(2, 321), (0, x1), (0, x2), (0, x3), (0, x4), (0, x5), (0, (z_w (x6 + 1))), (0, x7), w8]) (st' := []) rfl ?_
      exact l2 c1 c2
    · refine wp_run 2 (pc' := 96) (ls' := [(2, 321), (0, x1), (0, x2), (0, x3), (0, x4), (0, x5), (0, x6), (0, x7), w8]) (st' := [(0, x7), (2, 321)]) rfl ?_
      refine wp_callv (pc' := 99) (as := [(2, 321), (0, x7)]) (rest := []) (ls1 := [(2, 321), (0, x7)]) rfl rfl rfl rfl rfl rfl ?_
      refine s_X10_isFree hF (b1 c1 c2) ?_
      show wp xs _ mX10_trickOf 99 [(2, 321), (0, x1), (0, x2), (0, x3), (0, x4), (0, x5), (0, x6), (0, x7), w8] [(0, (z_b (M 342 (79 + x7) = 0)))] z_LL M _
      refine wp_bn rfl rfl rfl (fun (c3 : (M 342 (79 + x7) = 0)) => ?_) (fun (c3 : ¬ (M 342 (79 + x7) = 0)) => ?_)
      · refine wp_run 2 (pc' := 108) (ls' := [(2, 321), (0, x1), (0, x2), (0, x3), (0, x4), (0, x5), (0, x6), (0, x7), w8]) (st' := [(0, 2), (0, x5)]) rfl ?_
        refine wp_if2 rfl rfl rfl (fun (c4 : x5 ≠ 2) => ?_) (fun (c4 : ¬ (x5 ≠ 2)) => ?_)
        · refine wp_run 2 (pc' := 141) (ls' := [(2, 321), (0, x1), (0, x2), (0, x3), (0, x4), (0, x5), (0, x6), (0, x7), (0, 0)]) (st' := []) rfl ?_
          exact l3 c1 c2 c3 c4
        · refine wp_run 8 (pc' := 122) (ls' := [(2, 321), (0, x1), (0, x2), (0, x3), (0, x4), (0, x5), (0, x6), (0, x7), w8]) (st' := [(0, (-1)), (0, x7), (0, x6), (0, x4), (0, x3), (0, x2), (0, x1), (2, 321)]) rfl ?_
          refine wp_callv (pc' := 125) (as := [(2, 321), (0, x1), (0, x2), (0, x3), (0, x4), (0, x6), (0, x7), (0, (-1))]) (rest := []) (ls1 := [(2, 321), (0, x1), (0, x2), (0, x3), (0, x4), (0, x6), (0, x7), (0, (-1)), (3, 0)]) rfl rfl rfl rfl rfl rfl ?_
          exact l4 c1 c2 c3 c4
      · refine wp_run 3 (pc' := 80) (ls' := [(2, 321), (0, x1), (0, x2), (0, x3), (0, x4), (0, x5), (0, x6), (0, (z_w (x7 + 1))), w8]) (st' := []) rfl ?_
        exact l5 c1 c2 c3
set_option maxRecDepth 20000 in
theorem gX10_trickOf_125 {xs : List Int} {d : Nat} {M : z_M} {P : Option z_V → z_L → z_M → Prop} {x1 : Int} {x2 : Int} {x3 : Int} {x4 : Int} {x5 : Int} {x6 : Int} {x7 : Int} {w8 : z_V} {s0 : Int} 
    (l1 : (s0 = 0) → wp xs d mX10_trickOf 141 [(2, 321), (0, x1), (0, x2), (0, x3), (0, x4), (0, x5), (0, x6), (0, x7), (0, 0)] [] z_LL M P)
    (l2 : (¬ (s0 = 0)) → P (some (0, (z_or (z_shl 1 x6) (z_shl 1 x7)))) z_LL M) :
    wp xs d mX10_trickOf 125 [(2, 321), (0, x1), (0, x2), (0, x3), (0, x4), (0, x5), (0, x6), (0, x7), w8] [(0, s0)] z_LL M P := by
  refine wp_if1 rfl rfl rfl (fun (c1 : s0 = 0) => ?_) (fun (c1 : ¬ (s0 = 0)) => ?_)
  · refine wp_run 2 (pc' := 141) (ls' := [(2, 321), (0, x1), (0, x2), (0, x3), (0, x4), (0, x5), (0, x6), (0, x7), (0, 0)]) (st' := []) rfl ?_
    exact l1 c1
  · refine wp_run 7 (pc' := 137) (ls' := [(2, 321), (0, x1), (0, x2), (0, x3), (0, x4), (0, x5), (0, x6), (0, x7), w8]) (st' := [(0, (z_or (z_shl 1 x6) (z_shl 1 x7)))]) rfl ?_
    exact wp_ret rfl rfl (l2 c1)
set_option maxRecDepth 20000 in
theorem gX10_trickOf_141 {xs : List Int} {d : Nat} {M : z_M} {P : Option z_V → z_L → z_M → Prop} {x1 : Int} {x2 : Int} {x3 : Int} {x4 : Int} {x5 : Int} {x6 : Int} {x7 : Int} {x8 : Int} (hF : z_fix M) 
    (l1 : (x7 ≤ x8) → wp xs (d + 1) mX10_trickOf 80 [(2, 321), (0, x1), (0, x2), (0, x3), (0, x4), (0, x5), (0, x6), (0, (z_w (x7 + 1))), (0, x8)] [] z_LL M P)
    (l2 : (¬ (x7 ≤ x8)) → (x5 ≤ 2) → wp xs (d + 1) mX10_trickOf 80 [(2, 321), (0, x1), (0, x2), (0, x3), (0, x4), (0, x5), (0, x6), (0, (z_w (x7 + 1))), (0, x8)] [] z_LL M P)
    (b1 : (¬ (x7 ≤ x8)) → (¬ (x5 ≤ 2)) → (0 ≤ x8 ∧ x8 < 25))
    (l3 : (¬ (x7 ≤ x8)) → (¬ (x5 ≤ 2)) → (¬ (M 342 (79 + x8) = 0)) → wp xs (d + 1) mX10_trickOf 141 [(2, 321), (0, x1), (0, x2), (0, x3), (0, x4), (0, x5), (0, x6), (0, x7), (0, (z_w (x8 + 1)))] [] z_LL M P)
    (l4 : (¬ (x7 ≤ x8)) → (¬ (x5 ≤ 2)) → ((M 342 (79 + x8) = 0)) → wp xs d mX10_isTrick 0 [(2, 321), (0, x1), (0, x2), (0, x3), (0, x4), (0, x6), (0, x7), (0, x8), (3, 0)] [] z_LL M (fun r L1 M1 => wp xs (d + 1) mX10_trickOf 178 [(2, 321), (0, x1), (0, x2), (0, x3), (0, x4), (0, x5), (0, x6), (0, x7), (0, x8)] (z_ol r ++ []) L1 M1 P)) :
    wp xs (d + 1) mX10_trickOf 141 [(2, 321), (0, x1), (0, x2), (0, x3), (0, x4), (0, x5), (0, x6), (0, x7), (0, x8)] [] z_LL M P := by
  refine wp_run 2 (pc' := 145) (ls' := [(2, 321), (0, x1), (0, x2), (0, x3), (0, x4), (0, x5), (0, x6), (0, x7), (0, x8)]) (st' := [(0, x7), (0, x8)]) rfl ?_
  refine wp_if2 rfl rfl rfl (fun (c1 : x7 ≤ x8) => ?_) (fun (c1 : ¬ (x7 ≤ x8)) => ?_)
  · refine wp_run 2 (pc' := 80) (ls' := [(2, 321), (0, x1), (0, x2), (0, x3), (0, x4), (0, x5), (0, x6), (0, (z_w (x7 + 1))), (0, x8)]) (st' := []) rfl ?_
    exact l1 c1
  · refine wp_run 2 (pc' := 151) (ls' := [(2, 321), (0, x1), (0, x2), (0, x3), (0, x4), (0, x5), (0, x6), (0, x7), (0, x8)]) (st' := [(0, 2), (0, x5)]) rfl ?_
    refine wp_if2 rfl rfl rfl (fun (c2 : x5 ≤ 2) => ?_) (fun (c2 : ¬ (x5 ≤ 2)) => ?_)
    · refine wp_run 2 (pc' := 80) (ls' := [(2, 321), (0, x1), (0, x2), (0, x3), (0, x4), (0, x5), (0, x6), (0, (z_w (x7 + 1))), (0, x8)]) (st' := []) rfl ?_
      exact l2 c1 c2
    · refine wp_run 2 (pc' := 157) (ls' := [(2, 321), (0, x1), (0, x2), (0, x3), (0, x4), (0, x5), (0, x6), (0, x7), (0, x8)]) (st' := [(0, x8), (2, 321)]) rfl ?_
      refine wp_callv (pc' := 160) (as := [(2, 321), (0, x8)]) (rest := []) (ls1 := [(2, 321), (0, x8)]) rfl rfl rfl rfl rfl rfl ?_
      refine s_X10_isFree hF (b1 c1 c2) ?_
      show wp xs _ mX10_trickOf 160 [(2, 321), (0, x1), (0, x2), (0, x3), (0, x4), (0, x5), (0, x6), (0, x7), (0, x8)] [(0, (z_b (M 342 (79 + x8) = 0)))] z_LL M _
      refine wp_be rfl rfl rfl (fun (c3 : ¬ (M 342 (79 + x8) = 0)) => ?_) (fun (c3 : (M 342 (79 + x8) = 0)) => ?_)
      · refine wp_run 2 (pc' := 141) (ls' := [(2, 321), (0, x1), (0, x2), (0, x3), (0, x4), (0, x5), (0, x6), (0, x7), (0, (z_w (x8 + 1)))]) (st' := []) rfl ?_
        exact l3 c1 c2 c3
      · refine wp_run 8 (pc' := 175) (ls' := [(2, 321), (0, x1), (0, x2), (0, x3), (0, x4), (0, x5), (0, x6), (0, x7), (0, x8)]) (st' := [(0, x8), (0, x7), (0, x6), (0, x4), (0, x3), (0, x2), (0, x1), (2, 321)]) rfl ?_
        refine wp_callv (pc' := 178) (as := [(2, 321), (0, x1), (0, x2), (0, x3), (0, x4), (0, x6), (0, x7), (0, x8)]) (rest := []) (ls1 := [(2, 321), (0, x1), (0, x2), (0, x3), (0, x4), (0, x6), (0, x7), (0, x8), (3, 0)]) rfl rfl rfl rfl rfl rfl ?_
        exact l4 c1 c2 c3
set_option maxRecDepth 20000 in
theorem gX10_trickOf_178 {xs : List Int} {d : Nat} {M : z_M} {P : Option z_V → z_L → z_M → Prop} {x1 : Int} {x2 : Int} {x3 : Int} {x4 : Int} {x5 : Int} {x6 : Int} {x7 : Int} {x8 : Int} {s0 : Int} 
    (l1 : (s0 = 0) → wp xs d mX10_trickOf 141 [(2, 321), (0, x1), (0, x2), (0, x3), (0, x4), (0, x5), (0, x6), (0, x7), (0, (z_w (x8 + 1)))] [] z_LL M P)
    (l2 : (¬ (s0 = 0)) → P (some (0, (z_or (z_or (z_shl 1 x6) (z_shl 1 x7)) (z_shl 1 x8)))) z_LL M) :
    wp xs d mX10_trickOf 178 [(2, 321), (0, x1), (0, x2), (0, x3), (0, x4), (0, x5), (0, x6), (0, x7), (0, x8)] [(0, s0)] z_LL M P := by
  refine wp_if1 rfl rfl rfl (fun (c1 : s0 = 0) => ?_) (fun (c1 : ¬ (s0 = 0)) => ?_)
  · refine wp_run 2 (pc' := 141) (ls' := [(2, 321), (0, x1), (0, x2), (0, x3), (0, x4), (0, x5), (0, x6), (0, x7), (0, (z_w (x8 + 1)))]) (st' := []) rfl ?_
    exact l1 c1
  · refine wp_run 11 (pc' := 195) (ls' := [(2, 321), (0, x1), (0, x2), (0, x3), (0, x4), (0, x5), (0, x6), (0, x7), (0, x8)]) (st' := [(0, (z_or (z_or (z_shl 1 x6) (z_shl 1 x7)) (z_shl 1 x8)))]) rfl ?_
    exact wp_ret rfl rfl (l2 c1)
set_option maxRecDepth 20000 in
theorem gX10_isTrick_0 {xs : List Int} {d : Nat} {M : z_M} {P : Option z_V → z_L → z_M → Prop} {a1 : Int} {a2 : Int} {a3 : Int} {a4 : Int} {a5 : Int} {a6 : Int} {a7 : Int} 
    (l1 : wp xs d mX10_load 0 [(2, 321), (3, 0)] [] z_LL M (fun r L1 M1 => wp xs (d + 1) mX10_isTrick 4 [(2, 321), (0, a1), (0, a2), (0, a3), (0, a4), (0, a5), (0, a6), (0, a7), (3, 0)] (z_ol r ++ []) L1 M1 P)) :
    wp xs (d + 1) mX10_isTrick 0 [(2, 321), (0, a1), (0, a2), (0, a3), (0, a4), (0, a5), (0, a6), (0, a7), (3, 0)] [] z_LL M P := by
  refine wp_run 1 (pc' := 1) (ls' := [(2, 321), (0, a1), (0, a2), (0, a3), (0, a4), (0, a5), (0, a6), (0, a7), (3, 0)]) (st' := [(2, 321)]) rfl ?_
  refine wp_callv (pc' := 4) (as := [(2, 321)]) (rest := []) (ls1 := [(2, 321), (3, 0)]) rfl rfl rfl rfl rfl rfl ?_
  exact l1
set_option maxRecDepth 20000 in
theorem gX10_isTrick_4 {xs : List Int} {d : Nat} {M : z_M} {P : Option z_V → z_L → z_M → Prop} {x1 : Int} {x2 : Int} {x3 : Int} {x4 : Int} {x5 : Int} {x6 : Int} {x7 : Int} (hF : z_fix M) 
    (l1 : (x5 < 0) → (x6 < 0) → (x7 < 0) → wp xs d mX10_isTrick 58 [(2, 321), (0, x1), (0, x2), (0, x3), (0, x4), (0, x5), (0, x6), (0, x7), (0, 0)] [] z_LL M P)
    (b1 : (x5 < 0) → (x6 < 0) → (¬ (x7 < 0)) → 0 ≤ (z_w (79 + x7)) ∧ (z_w (79 + x7)) < 106)
    (l2 : (x5 < 0) → (x6 < 0) → (¬ (x7 < 0)) → wp xs d mX10_isTrick 58 [(2, 321), (0, x1), (0, x2), (0, x3), (0, x4), (0, x5), (0, x6), (0, x7), (0, 0)] [] z_LL (z_up M 343 (z_w (79 + x7)) 9) P)
    (b2 : (x5 < 0) → (¬ (x6 < 0)) → 0 ≤ (z_w (79 + x6)) ∧ (z_w (79 + x6)) < 106)
    (l3 : (x5 < 0) → (¬ (x6 < 0)) → (x7 < 0) → wp xs d mX10_isTrick 58 [(2, 321), (0, x1), (0, x2), (0, x3), (0, x4), (0, x5), (0, x6), (0, x7), (0, 0)] [] z_LL (z_up M 343 (z_w (79 + x6)) 9) P)
    (b3 : (x5 < 0) → (¬ (x6 < 0)) → (¬ (x7 < 0)) → 0 ≤ (z_w (79 + x7)) ∧ (z_w (79 + x7)) < 106)
    (l4 : (x5 < 0) → (¬ (x6 < 0)) → (¬ (x7 < 0)) → wp xs d mX10_isTrick 58 [(2, 321), (0, x1), (0, x2), (0, x3), (0, x4), (0, x5), (0, x6), (0, x7), (0, 0)] [] z_LL (z_up (z_up M 343 (z_w (79 + x6)) 9) 343 (z_w (79 + x7)) 9) P)
    (b4 : (¬ (x5 < 0)) → 0 ≤ (z_w (79 + x5)) ∧ (z_w (79 + x5)) < 106)
    (l5 : (¬ (x5 < 0)) → (x6 < 0) → (x7 < 0) → wp xs d mX10_isTrick 58 [(2, 321), (0, x1), (0, x2), (0, x3), (0, x4), (0, x5), (0, x6), (0, x7), (0, 0)] [] z_LL (z_up M 343 (z_w (79 + x5)) 9) P)
    (b5 : (¬ (x5 < 0)) → (x6 < 0) → (¬ (x7 < 0)) → 0 ≤ (z_w (79 + x7)) ∧ (z_w (79 + x7)) < 106)
    (l6 : (¬ (x5 < 0)) → (x6 < 0) → (¬ (x7 < 0)) → wp xs d mX10_isTrick 58 [(2, 321), (0, x1), (0, x2), (0, x3), (0, x4), (0, x5), (0, x6), (0, x7), (0, 0)] [] z_LL (z_up (z_up M 343 (z_w (79 + x5)) 9) 343 (z_w (79 + x7)) 9) P)
    (b6 : (¬ (x5 < 0)) → (¬ (x6 < 0)) → 0 ≤ (z_w (79 + x6)) ∧ (z_w (79 + x6)) < 106)
    (l7 : (¬ (x5 < 0)) → (¬ (x6 < 0)) → (x7 < 0) → wp xs d mX10_isTrick 58 [(2, 321), (0, x1), (0, x2), (0, x3), (0, x4), (0, x5), (0, x6), (0, x7), (0, 0)] [] z_LL (z_up (z_up M 343 (z_w (79 + x5)) 9) 343 (z_w (79 + x6)) 9) P)
    (b7 : (¬ (x5 < 0)) → (¬ (x6 < 0)) → (¬ (x7 < 0)) → 0 ≤ (z_w (79 + x7)) ∧ (z_w (79 + x7)) < 106)
    (l8 : (¬ (x5 < 0)) → (¬ (x6 < 0)) → (¬ (x7 < 0)) → wp xs d mX10_isTrick 58 [(2, 321), (0, x1), (0, x2), (0, x3), (0, x4), (0, x5), (0, x6), (0, x7), (0, 0)] [] z_LL (z_up (z_up (z_up M 343 (z_w (79 + x5)) 9) 343 (z_w (79 + x6)) 9) 343 (z_w (79 + x7)) 9) P) :
    wp xs d mX10_isTrick 4 [(2, 321), (0, x1), (0, x2), (0, x3), (0, x4), (0, x5), (0, x6), (0, x7), (3, 0)] [] z_LL M P := by
  refine wp_run 1 (pc' := 6) (ls' := [(2, 321), (0, x1), (0, x2), (0, x3), (0, x4), (0, x5), (0, x6), (0, x7), (3, 0)]) (st' := [(0, x5)]) rfl ?_
  refine wp_if1 rfl rfl rfl (fun (c1 : x5 < 0) => ?_) (fun (c1 : ¬ (x5 < 0)) => ?_)
  · refine wp_run 1 (pc' := 23) (ls' := [(2, 321), (0, x1), (0, x2), (0, x3), (0, x4), (0, x5), (0, x6), (0, x7), (3, 0)]) (st' := [(0, x6)]) rfl ?_
    refine wp_if1 rfl rfl rfl (fun (c2 : x6 < 0) => ?_) (fun (c2 : ¬ (x6 < 0)) => ?_)
    · refine wp_run 1 (pc' := 40) (ls' := [(2, 321), (0, x1), (0, x2), (0, x3), (0, x4), (0, x5), (0, x6), (0, x7), (3, 0)]) (st' := [(0, x7)]) rfl ?_
      refine wp_if1 rfl rfl rfl (fun (c3 : x7 < 0) => ?_) (fun (c3 : ¬ (x7 < 0)) => ?_)
      · refine wp_run 2 (pc' := 58) (ls' := [(2, 321), (0, x1), (0, x2), (0, x3), (0, x4), (0, x5), (0, x6), (0, x7), (0, 0)]) (st' := []) rfl ?_
        exact l1 c1 c2 c3
      · refine wp_run 1 (pc' := 44) (ls' := [(2, 321), (0, x1), (0, x2), (0, x3), (0, x4), (0, x5), (0, x6), (0, x7), (3, 0)]) (st' := [(2, 321)]) rfl ?_
        refine wp_gf (pc' := 47) (t := 2) (v := 343) rfl rfl (by decide) rfl rfl (fx_321_61 hF) ?_
        refine wp_run 4 (pc' := 54) (ls' := [(2, 321), (0, x1), (0, x2), (0, x3), (0, x4), (0, x5), (0, x6), (0, x7), (3, 0)]) (st' := [(0, 9), (0, (z_w (79 + x7))), (2, 343)]) rfl ?_
        refine wp_iast (pc' := 55) rfl rfl rfl (b1 c1 c2 c3) ?_
        refine wp_run 2 (pc' := 58) (ls' := [(2, 321), (0, x1), (0, x2), (0, x3), (0, x4), (0, x5), (0, x6), (0, x7), (0, 0)]) (st' := []) rfl ?_
        exact l2 c1 c2 c3
    · refine wp_run 1 (pc' := 27) (ls' := [(2, 321), (0, x1), (0, x2), (0, x3), (0, x4), (0, x5), (0, x6), (0, x7), (3, 0)]) (st' := [(2, 321)]) rfl ?_
      refine wp_gf (pc' := 30) (t := 2) (v := 343) rfl rfl (by decide) rfl rfl (fx_321_61 hF) ?_
      refine wp_run 4 (pc' := 37) (ls' := [(2, 321), (0, x1), (0, x2), (0, x3), (0, x4), (0, x5), (0, x6), (0, x7), (3, 0)]) (st' := [(0, 9), (0, (z_w (79 + x6))), (2, 343)]) rfl ?_
      refine wp_iast (pc' := 38) rfl rfl rfl (b2 c1 c2) ?_
      refine wp_run 1 (pc' := 40) (ls' := [(2, 321), (0, x1), (0, x2), (0, x3), (0, x4), (0, x5), (0, x6), (0, x7), (3, 0)]) (st' := [(0, x7)]) rfl ?_
      refine wp_if1 rfl rfl rfl (fun (c4 : x7 < 0) => ?_) (fun (c4 : ¬ (x7 < 0)) => ?_)
      · refine wp_run 2 (pc' := 58) (ls' := [(2, 321), (0, x1), (0, x2), (0, x3), (0, x4), (0, x5), (0, x6), (0, x7), (0, 0)]) (st' := []) rfl ?_
        exact l3 c1 c2 c4
      · refine wp_run 1 (pc' := 44) (ls' := [(2, 321), (0, x1), (0, x2), (0, x3), (0, x4), (0, x5), (0, x6), (0, x7), (3, 0)]) (st' := [(2, 321)]) rfl ?_
        refine wp_gf (pc' := 47) (t := 2) (v := 343) rfl rfl (by decide) rfl rfl (z_upq (by decide) (fx_321_61 hF)) ?_
        refine wp_run 4 (pc' := 54) (ls' := [(2, 321), (0, x1), (0, x2), (0, x3), (0, x4), (0, x5), (0, x6), (0, x7), (3, 0)]) (st' := [(0, 9), (0, (z_w (79 + x7))), (2, 343)]) rfl ?_
        refine wp_iast (pc' := 55) rfl rfl rfl (b3 c1 c2 c4) ?_
        refine wp_run 2 (pc' := 58) (ls' := [(2, 321), (0, x1), (0, x2), (0, x3), (0, x4), (0, x5), (0, x6), (0, x7), (0, 0)]) (st' := []) rfl ?_
        exact l4 c1 c2 c4
  · refine wp_run 1 (pc' := 10) (ls' := [(2, 321), (0, x1), (0, x2), (0, x3), (0, x4), (0, x5), (0, x6), (0, x7), (3, 0)]) (st' := [(2, 321)]) rfl ?_
    refine wp_gf (pc' := 13) (t := 2) (v := 343) rfl rfl (by decide) rfl rfl (fx_321_61 hF) ?_
    refine wp_run 4 (pc' := 20) (ls' := [(2, 321), (0, x1), (0, x2), (0, x3), (0, x4), (0, x5), (0, x6), (0, x7), (3, 0)]) (st' := [(0, 9), (0, (z_w (79 + x5))), (2, 343)]) rfl ?_
    refine wp_iast (pc' := 21) rfl rfl rfl (b4 c1) ?_
    refine wp_run 1 (pc' := 23) (ls' := [(2, 321), (0, x1), (0, x2), (0, x3), (0, x4), (0, x5), (0, x6), (0, x7), (3, 0)]) (st' := [(0, x6)]) rfl ?_
    refine wp_if1 rfl rfl rfl (fun (c5 : x6 < 0) => ?_) (fun (c5 : ¬ (x6 < 0)) => ?_)
    · refine wp_run 1 (pc' := 40) (ls' := [(2, 321), (0, x1), (0, x2), (0, x3), (0, x4), (0, x5), (0, x6), (0, x7), (3, 0)]) (st' := [(0, x7)]) rfl ?_
      refine wp_if1 rfl rfl rfl (fun (c6 : x7 < 0) => ?_) (fun (c6 : ¬ (x7 < 0)) => ?_)
      · refine wp_run 2 (pc' := 58) (ls' := [(2, 321), (0, x1), (0, x2), (0, x3), (0, x4), (0, x5), (0, x6), (0, x7), (0, 0)]) (st' := []) rfl ?_
        exact l5 c1 c5 c6
      · refine wp_run 1 (pc' := 44) (ls' := [(2, 321), (0, x1), (0, x2), (0, x3), (0, x4), (0, x5), (0, x6), (0, x7), (3, 0)]) (st' := [(2, 321)]) rfl ?_
        refine wp_gf (pc' := 47) (t := 2) (v := 343) rfl rfl (by decide) rfl rfl (z_upq (by decide) (fx_321_61 hF)) ?_
        refine wp_run 4 (pc' := 54) (ls' := [(2, 321), (0, x1), (0, x2), (0, x3), (0, x4), (0, x5), (0, x6), (0, x7), (3, 0)]) (st' := [(0, 9), (0, (z_w (79 + x7))), (2, 343)]) rfl ?_
        refine wp_iast (pc' := 55) rfl rfl rfl (b5 c1 c5 c6) ?_
        refine wp_run 2 (pc' := 58) (ls' := [(2, 321), (0, x1), (0, x2), (0, x3), (0, x4), (0, x5), (0, x6), (0, x7), (0, 0)]) (st' := []) rfl ?_
        exact l6 c1 c5 c6
    · refine wp_run 1 (pc' := 27) (ls' := [(2, 321), (0, x1), (0, x2), (0, x3), (0, x4), (0, x5), (0, x6), (0, x7), (3, 0)]) (st' := [(2, 321)]) rfl ?_
      refine wp_gf (pc' := 30) (t := 2) (v := 343) rfl rfl (by decide) rfl rfl (z_upq (by decide) (fx_321_61 hF)) ?_
      refine wp_run 4 (pc' := 37) (ls' := [(2, 321), (0, x1), (0, x2), (0, x3), (0, x4), (0, x5), (0, x6), (0, x7), (3, 0)]) (st' := [(0, 9), (0, (z_w (79 + x6))), (2, 343)]) rfl ?_
      refine wp_iast (pc' := 38) rfl rfl rfl (b6 c1 c5) ?_
      refine wp_run 1 (pc' := 40) (ls' := [(2, 321), (0, x1), (0, x2), (0, x3), (0, x4), (0, x5), (0, x6), (0, x7), (3, 0)]) (st' := [(0, x7)]) rfl ?_
      refine wp_if1 rfl rfl rfl (fun (c7 : x7 < 0) => ?_) (fun (c7 : ¬ (x7 < 0)) => ?_)
      · refine wp_run 2 (pc' := 58) (ls' := [(2, 321), (0, x1), (0, x2), (0, x3), (0, x4), (0, x5), (0, x6), (0, x7), (0, 0)]) (st' := []) rfl ?_
        exact l7 c1 c5 c7
      · refine wp_run 1 (pc' := 44) (ls' := [(2, 321), (0, x1), (0, x2), (0, x3), (0, x4), (0, x5), (0, x6), (0, x7), (3, 0)]) (st' := [(2, 321)]) rfl ?_
        refine wp_gf (pc' := 47) (t := 2) (v := 343) rfl rfl (by decide) rfl rfl (z_upq (by decide) (z_upq (by decide) (fx_321_61 hF))) ?_
        refine wp_run 4 (pc' := 54) (ls' := [(2, 321), (0, x1), (0, x2), (0, x3), (0, x4), (0, x5), (0, x6), (0, x7), (3, 0)]) (st' := [(0, 9), (0, (z_w (79 + x7))), (2, 343)]) rfl ?_
        refine wp_iast (pc' := 55) rfl rfl rfl (b7 c1 c5 c7) ?_
        refine wp_run 2 (pc' := 58) (ls' := [(2, 321), (0, x1), (0, x2), (0, x3), (0, x4), (0, x5), (0, x6), (0, x7), (0, 0)]) (st' := []) rfl ?_
        exact l8 c1 c5 c7
set_option maxRecDepth 20000 in
theorem gX10_isTrick_58 {xs : List Int} {d : Nat} {M : z_M} {P : Option z_V → z_L → z_M → Prop} {x1 : Int} {x2 : Int} {x3 : Int} {x4 : Int} {x5 : Int} {x6 : Int} {x7 : Int} {x8 : Int} (hF : z_fix M) 
    (b1 : (x4 ≤ x8) → 0 ≤ (z_w ((z_w (18 + (z_w (6 * x1)))) + x2)) ∧ (z_w ((z_w (18 + (z_w (6 * x1)))) + x2)) < 106)
    (l1 : (x4 ≤ x8) → ((z_w ((M 343 (z_w ((z_w (18 + (z_w (6 * x1)))) + x2))) - (M 342 (z_w ((z_w (18 + (z_w (6 * x1)))) + x2))))) < x3) → P (some (0, 0)) z_LL M)
    (l2 : (x4 ≤ x8) → (¬ ((z_w ((M 343 (z_w ((z_w (18 + (z_w (6 * x1)))) + x2))) - (M 342 (z_w ((z_w (18 + (z_w (6 * x1)))) + x2))))) < x3)) → P (some (0, 1)) z_LL M)
    (l3 : (¬ (x4 ≤ x8)) → wp xs d mX10_goDay 0 [(2, 321), (0, (M 321 52)), (3, 0), (3, 0)] [] z_LL M (fun r L1 M1 => wp xs (d + 1) mX10_isTrick 73 [(2, 321), (0, x1), (0, x2), (0, x3), (0, x4), (0, x5), (0, x6), (0, x7), (0, x8)] (z_ol r ++ []) L1 M1 P)) :
    wp xs (d + 1) mX10_isTrick 58 [(2, 321), (0, x1), (0, x2), (0, x3), (0, x4), (0, x5), (0, x6), (0, x7), (0, x8)] [] z_LL M P := by
  refine wp_run 2 (pc' := 62) (ls' := [(2, 321), (0, x1), (0, x2), (0, x3), (0, x4), (0, x5), (0, x6), (0, x7), (0, x8)]) (st' := [(0, x4), (0, x8)]) rfl ?_
  refine wp_if2 rfl rfl rfl (fun (c1 : x4 ≤ x8) => ?_) (fun (c1 : ¬ (x4 ≤ x8)) => ?_)
  · refine wp_run 3 (pc' := 83) (ls' := [(2, 321), (0, x1), (0, x2), (0, x3), (0, x4), (0, x5), (0, x6), (0, x7), (0, x8)]) (st' := [(0, x2), (0, x1), (2, 321)]) rfl ?_
    refine wp_callv (pc' := 86) (as := [(2, 321), (0, x1), (0, x2)]) (rest := []) (ls1 := [(2, 321), (0, x1), (0, x2)]) rfl rfl rfl rfl rfl rfl ?_
    refine wp_run 1 (pc' := 1) (ls' := [(2, 321), (0, x1), (0, x2)]) (st' := [(2, 321)]) rfl ?_
    refine wp_gf (pc' := 4) (t := 2) (v := 343) rfl rfl (by decide) rfl rfl (fx_321_61 hF) ?_
    refine wp_run 7 (pc' := 13) (ls' := [(2, 321), (0, x1), (0, x2)]) (st' := [(0, (z_w ((z_w (18 + (z_w (6 * x1)))) + x2))), (2, 343)]) rfl ?_
    refine wp_iald (pc' := 14) (v := (M 343 (z_w ((z_w (18 + (z_w (6 * x1)))) + x2)))) rfl rfl rfl (b1 c1) rfl ?_
    refine wp_run 1 (pc' := 15) (ls' := [(2, 321), (0, x1), (0, x2)]) (st' := [(2, 321), (0, (M 343 (z_w ((z_w (18 + (z_w (6 * x1)))) + x2))))]) rfl ?_
    refine wp_gf (pc' := 18) (t := 2) (v := 342) rfl rfl (by decide) rfl rfl (fx_321_60 hF) ?_
    refine wp_run 7 (pc' := 27) (ls' := [(2, 321), (0, x1), (0, x2)]) (st' := [(0, (z_w ((z_w (18 + (z_w (6 * x1)))) + x2))), (2, 342), (0, (M 343 (z_w ((z_w (18 + (z_w (6 * x1)))) + x2))))]) rfl ?_
    refine wp_iald (pc' := 28) (v := (M 342 (z_w ((z_w (18 + (z_w (6 * x1)))) + x2)))) rfl rfl rfl (b1 c1) rfl ?_
    refine wp_run 1 (pc' := 29) (ls' := [(2, 321), (0, x1), (0, x2)]) (st' := [(0, (z_w ((M 343 (z_w ((z_w (18 + (z_w (6 * x1)))) + x2))) - (M 342 (z_w ((z_w (18 + (z_w (6 * x1)))) + x2))))))]) rfl ?_
    refine wp_ret rfl rfl ?_
    show wp xs _ mX10_isTrick 86 [(2, 321), (0, x1), (0, x2), (0, x3), (0, x4), (0, x5), (0, x6), (0, x7), (0, x8)] [(0, (z_w ((M 343 (z_w ((z_w (18 + (z_w (6 * x1)))) + x2))) - (M 342 (z_w ((z_w (18 + (z_w (6 * x1)))) + x2))))))] z_LL M _
    refine wp_run 1 (pc' := 87) (ls' := [(2, 321), (0, x1), (0, x2), (0, x3), (0, x4), (0, x5), (0, x6), (0, x7), (0, x8)]) (st' := [(0, x3), (0, (z_w ((M 343 (z_w ((z_w (18 + (z_w (6 * x1)))) + x2))) - (M 342 (z_w ((z_w (18 + (z_w (6 * x1)))) + x2))))))]) rfl ?_
    refine wp_if2 rfl rfl rfl (fun (c2 : (z_w ((M 343 (z_w ((z_w (18 + (z_w (6 * x1)))) + x2))) - (M 342 (z_w ((z_w (18 + (z_w (6 * x1)))) + x2))))) < x3) => ?_) (fun (c2 : ¬ ((z_w ((M 343 (z_w ((z_w (18 + (z_w (6 * x1)))) + x2))) - (M 342 (z_w ((z_w (18 + (z_w (6 * x1)))) + x2))))) < x3)) => ?_)
    · refine wp_run 1 (pc' := 95) (ls' := [(2, 321), (0, x1), (0, x2), (0, x3), (0, x4), (0, x5), (0, x6), (0, x7), (0, x8)]) (st' := [(0, 0)]) rfl ?_
      exact wp_ret rfl rfl (l1 c1 c2)
    · refine wp_run 2 (pc' := 95) (ls' := [(2, 321), (0, x1), (0, x2), (0, x3), (0, x4), (0, x5), (0, x6), (0, x7), (0, x8)]) (st' := [(0, 1)]) rfl ?_
      exact wp_ret rfl rfl (l2 c1 c2)
  · refine wp_run 2 (pc' := 67) (ls' := [(2, 321), (0, x1), (0, x2), (0, x3), (0, x4), (0, x5), (0, x6), (0, x7), (0, x8)]) (st' := [(2, 321), (2, 321)]) rfl ?_
    refine wp_gf (pc' := 70) (t := 0) (v := (M 321 52)) rfl rfl (by decide) rfl rfl rfl ?_
    refine wp_callv (pc' := 73) (as := [(2, 321), (0, (M 321 52))]) (rest := []) (ls1 := [(2, 321), (0, (M 321 52)), (3, 0), (3, 0)]) rfl rfl rfl rfl rfl rfl ?_
    exact l3 c1
set_option maxRecDepth 20000 in
theorem gX10_isTrick_73 {xs : List Int} {d : Nat} {M : z_M} {P : Option z_V → z_L → z_M → Prop} {x1 : Int} {x2 : Int} {x3 : Int} {x4 : Int} {x5 : Int} {x6 : Int} {x7 : Int} {x8 : Int} {s0 : Int} 
    (l1 : wp xs d mX10_isTrick 58 [(2, 321), (0, x1), (0, x2), (0, x3), (0, x4), (0, x5), (0, x6), (0, x7), (0, (z_w (x8 + 1)))] [] z_LL M P) :
    wp xs d mX10_isTrick 73 [(2, 321), (0, x1), (0, x2), (0, x3), (0, x4), (0, x5), (0, x6), (0, x7), (0, x8)] [(0, s0)] z_LL M P := by
  refine wp_run 3 (pc' := 58) (ls' := [(2, 321), (0, x1), (0, x2), (0, x3), (0, x4), (0, x5), (0, x6), (0, x7), (0, (z_w (x8 + 1)))]) (st' := []) rfl ?_
  exact l1
section
variable {xs : List Int} {d : Nat} {M : z_M}
theorem z_sc_343p {c v : Int} (h : 0 ≤ c ∧ c < 25) : z_sc M (z_up M 343 (79 + c) v) := ⟨fun q hq => z_upn (by unfold z_sq at hq; omega), fun j _ => by rw [z_upn (by decide)], fun j _ _ => ⟨by rw [z_upn (by decide)], by rw [z_upn (by decide)]⟩, fun j _ _ => by rw [z_upn (by decide)], fun k _ => by rw [z_upi (by omega) rfl]⟩
/-- who mixes how often is fit to be asked -/
def z_ask4 (M : z_M) (a b ev : Int) (days : Nat) : Prop := (1 ≤ ev ∧ ev ≤ 9) ∧ days ≤ 20 ∧ (0 ≤ a ∧ a < M 321 48) ∧ (0 ≤ b ∧ b < M 321 48)
theorem s_isT58 {P : Option z_V → z_L → z_M → Prop} {M' : z_M} {a b ev x x5 x6 x7 : Int} {days : Nat} (hR : z_R M) (f : z_sc M M') (e3 : M' 343 = z_sls (M 342) x 25) (hq : z_ask4 M a b ev days) (kk : ∀ M2 : z_M, z_sc M M2 → P (some (0, z_b (z_ttv M a b ev days x))) z_LL M2) : wp xs (d + 6) mX10_isTrick 58 [(2, 321), (0, a), (0, b), (0, ev), (0, (days : Int)), (0, x5), (0, x6), (0, x7), (0, 0)] [] z_LL M' P := by
  have hn := (z_R_C hR).2.2.1
  obtain ⟨qe, qd, qa, qb⟩ := hq
  have hS : z_sn M 999 (z_sls (M 342) x 25) := z_sn_sls (x := x) (z_R_C hR) (z_R_S hR) 25 (by omega)
  refine z_loop (W := fun j => ∀ M2 : z_M, z_sc M M2 → M2 343 = z_tdy M x j → wp xs (d + 6) mX10_isTrick 58 [(2, 321), (0, a), (0, b), (0, ev), (0, (days : Int)), (0, x5), (0, x6), (0, x7), (0, (j : Int))] [] z_LL M2 P) days (fun j hj ih M2 f2 e2 => ?_) M' f e3
  have hR2 := z_sc_R f2 hR
  have mm := z_dys_mm (ev := M 321 52) (z_R_C hR) hS (k := 18 + 6 * a + b) (by omega) 0 j
  have m0 : z_dys M (M 321 52) (z_sls (M 342) x 25) 0 (18 + 6 * a + b) = M 342 (18 + 6 * a + b) := z_sls_o (by omega)
  rw [m0, Nat.zero_add] at mm
  have r0 := (z_R_S hR).2.2.1 (18 + 6 * a + b) (by omega) (by omega)
  have r1 := (z_R_S hR).2.2.2.1
  have g := gX10_isTrick_58 (M := M2) (xs := xs) (d := d + 5) (P := P) (x1 := a) (x2 := b) (x3 := ev) (x4 := (days : Int)) (x5 := x5) (x6 := x6) (x7 := x7) (x8 := (j : Int)) (z_R_F hR2)
  have ed : z_tdy M x j (18 + 6 * a + b) = z_dys M (M 321 52) (z_sls (M 342) x 25) j (18 + 6 * a + b) := rfl
  simp only [e2, z_sc_c f2 321 (by unfold z_conf; omega), f2.1 342 (by unfold z_sq; omega), z_wid (x := 6 * a) (by omega), z_wid (x := 18 + 6 * a) (by omega), z_wid (x := 18 + 6 * a + b) (by omega), z_wid (x := z_tdy M x j (18 + 6 * a + b) - M 342 (18 + 6 * a + b)) (by omega)] at g
  refine g (fun _ => by omega) (fun c c2 => ?_) (fun c c2 => ?_) (fun c => ?_)
  · obtain rfl : j = days := by omega
    have := kk M2 f2
    rw [z_b_f (by unfold z_ttv z_tv; omega)] at this
    exact this
  · obtain rfl : j = days := by omega
    have := kk M2 f2
    rw [z_b_t (by unfold z_ttv z_tv; omega)] at this
    exact this
  · have hs := z_sn_x (z_cfe_c (z_sc_c f2)) (z_tdy_sn (z_R_C hR) (z_R_S hR) x j)
    rw [← e2] at hs
    refine s_air hR2 hs (by omega) (fun M3 f3 e33 => ?_)
    refine gX10_isTrick_73 ?_
    rw [z_in1 (by omega)]
    refine ih (by omega) M3 (z_sc_t f2 f3) ?_
    rw [e33, z_day_q (z_sc_c f2), e2]
    rfl
/-- the cells of a try, and their set -/
def z_isx (x5 x6 x7 x : Int) : Prop := (x5 = -1 ∧ x6 = -1 ∧ x7 = -1 ∧ x = 0) ∨ ((0 ≤ x5 ∧ x5 < 25) ∧ x6 = -1 ∧ x7 = -1 ∧ x = z_shl 1 x5) ∨ ((0 ≤ x5 ∧ x5 < 25) ∧ (0 ≤ x6 ∧ x6 < 25) ∧ x7 = -1 ∧ x = z_or (z_shl 1 x5) (z_shl 1 x6)) ∨ ((0 ≤ x5 ∧ x5 < 25) ∧ (0 ≤ x6 ∧ x6 < 25) ∧ (0 ≤ x7 ∧ x7 < 25) ∧ x = z_or (z_or (z_shl 1 x5) (z_shl 1 x6)) (z_shl 1 x7))
theorem s_X10_isTrick {P : Option z_V → z_L → z_M → Prop} {M' : z_M} {a b ev x x5 x6 x7 : Int} {days : Nat} (hR : z_R M) (f : z_sc M M') (hq : z_ask4 M a b ev days) (hx : z_isx x5 x6 x7 x) (kk : ∀ M2 : z_M, z_sc M M2 → P (some (0, z_b (z_ttv M a b ev days x))) z_LL M2) : wp xs (d + 6) mX10_isTrick 0 [(2, 321), (0, a), (0, b), (0, ev), (0, (days : Int)), (0, x5), (0, x6), (0, x7), (3, 0)] [] z_LL M' P := by
  refine gX10_isTrick_0 ?_
  refine s_ldR (z_sc_R f hR) (fun M1 f1 e1 => ?_)
  rw [f.1 342 (by unfold z_sq; omega)] at e1
  have f1 := z_sc_t f f1
  have g := gX10_isTrick_4 (M := M1) (xs := xs) (d := d + 6) (P := P) (x1 := a) (x2 := b) (x3 := ev) (x4 := (days : Int)) (x5 := x5) (x6 := x6) (x7 := x7) (z_R_F (z_sc_R f1 hR))
  have one : ∀ c : Int, 0 ≤ c ∧ c < 25 → z_sls (M 342) (z_shl 1 c) 25 = z_pt (M 342) (79 + c) 9 := fun c hc => by
    rw [z_sls_or (x := 0) hc (fun i i1 i2 => by
      rw [z_x1 hc ⟨i1, i2⟩]
      exact ⟨Or.inr, fun q => q.elim (fun w => absurd w (z_bt_0 (by omega))) id⟩), z_sls_z (fun c a b => z_bt_0 (by omega))]
  have two : ∀ c e : Int, 0 ≤ c ∧ c < 25 → 0 ≤ e ∧ e < 25 → z_sls (M 342) (z_or (z_shl 1 c) (z_shl 1 e)) 25 = z_pt (z_pt (M 342) (79 + c) 9) (79 + e) 9 := fun c e hc he => by
    rw [z_sls_or (x := z_shl 1 c) he (fun i i1 i2 => by rw [z_x1 hc ⟨i1, i2⟩, z_x2 hc he ⟨i1, i2⟩]), one c hc]
  have thr : ∀ c e h : Int, 0 ≤ c ∧ c < 25 → 0 ≤ e ∧ e < 25 → 0 ≤ h ∧ h < 25 → z_sls (M 342) (z_or (z_or (z_shl 1 c) (z_shl 1 e)) (z_shl 1 h)) 25 = z_pt (z_pt (z_pt (M 342) (79 + c) 9) (79 + e) 9) (79 + h) 9 := fun c e h hc he hh => by
    rw [z_sls_or (x := z_or (z_shl 1 c) (z_shl 1 e)) hh (fun i i1 i2 => by rw [z_x2 hc he ⟨i1, i2⟩, z_x3 hc he hh ⟨i1, i2⟩]), two c e hc he]
  rcases hx with ⟨rfl, rfl, rfl, rfl⟩ | ⟨h5, rfl, rfl, rfl⟩ | ⟨h5, h6, rfl, rfl⟩ | ⟨h5, h6, h7, rfl⟩
  · apply g
    case l1 => exact fun _ _ _ => s_isT58 hR f1 (by rw [e1, z_sls_z (fun c a b => z_bt_0 (by omega))]) hq kk
    all_goals (intros; omega)
  · rw [z_wid (x := 79 + x5) (by omega)] at g
    apply g
    case l5 => exact fun _ _ _ => s_isT58 hR (z_sc_t f1 (z_sc_343p h5)) (by rw [z_upw, e1, one _ h5]) hq kk
    all_goals (intros; omega)
  · rw [z_wid (x := 79 + x5) (by omega), z_wid (x := 79 + x6) (by omega)] at g
    apply g
    case l7 => exact fun _ _ _ => s_isT58 hR (z_sc_t f1 (z_sc_t (z_sc_343p h5) (z_sc_343p h6))) (by rw [z_upw, z_upw, e1, two _ _ h5 h6]) hq kk
    all_goals (intros; omega)
  · rw [z_wid (x := 79 + x5) (by omega), z_wid (x := 79 + x6) (by omega), z_wid (x := 79 + x7) (by omega)] at g
    apply g
    case l8 => exact fun _ _ _ => s_isT58 hR (z_sc_t f1 (z_sc_t (z_sc_343p h5) (z_sc_t (z_sc_343p h6) (z_sc_343p h7)))) (by rw [z_upw, z_upw, z_upw, e1, thr _ _ _ h5 h6 h7]) hq kk
    all_goals (intros; omega)
theorem s_tof0 {P : Option z_V → z_L → z_M → Prop} {M' : z_M} {a b ev : Int} {days : Nat} (hR : z_R M) (f : z_sc M M') (hq : z_ask4 M a b ev days) (kk : ∀ M2 : z_M, z_sc M M2 → P (some (0, @ite Int (z_ttv M a b ev days 0) (Classical.propDecidable _) 0 (-1))) z_LL M2) : wp xs (d + 7) mX10_trickOf 0 [(2, 321), (0, a), (0, b), (0, ev), (0, (days : Int)), (0, 0), (3, 0), (3, 0), (3, 0)] [] z_LL M' P := by
  refine gX10_trickOf_0 (fun q => absurd rfl q) (fun _ => ?_)
  refine s_X10_isTrick hR f hq (Or.inl ⟨rfl, rfl, rfl, rfl⟩) (fun M2 f2 => ?_)
  have kk := kk M2 f2
  refine gX10_trickOf_17 (fun c => ?_) (fun c => ?_)
  · rw [if_neg (fun q => by rw [z_b_t q] at c; omega)] at kk
    exact kk
  · rw [if_pos (Classical.byContradiction fun q => c (z_b_f q))] at kk
    exact kk
theorem s_tof1 {P : Option z_V → z_L → z_M → Prop} {M1 : z_M} {a b ev : Int} {days N : Nat} (hR : z_R M) (f1 : z_sc M M1) (hq : z_ask4 M a b ev days) (hN : M 321 46 * M 321 47 = (N : Int)) (kk : ∀ M2 : z_M, z_sc M M2 → P (some (0, z_fr (z_tf1 M (z_ttv M a b ev days)) N)) z_LL M2) : wp xs (d + 7) mX10_trickOf 0 [(2, 321), (0, a), (0, b), (0, ev), (0, (days : Int)), (0, 1), (3, 0), (3, 0), (3, 0)] [] z_LL M1 P := by
  have hx := z_mc_cells (z_R_C hR)
  have trk := fun (M' : z_M) (x x5 x6 x7 : Int) (Q : Option z_V → z_L → z_M → Prop) => s_X10_isTrick (xs := xs) (d := d) (P := Q) (M' := M') (x := x) (x5 := x5) (x6 := x6) (x7 := x7) hR (hq := hq)
  generalize z_ttv M a b ev days = T at *
  refine gX10_trickOf_0 (fun _ => ?_) (fun q => by omega)
  refine z_loop (W := fun i => ∀ (M' : z_M) (w7 w8 : z_V), z_sc M M' → z_fr (z_tf1 M T) i = -1 → wp xs (d + 7) mX10_trickOf 29 [(2, 321), (0, a), (0, b), (0, ev), (0, (days : Int)), (0, 1), (0, (i : Int)), w7, w8] [] z_LL M' P) N (fun i hi ih M' w7 w8 f hF => ?_) M1 _ _ f1 rfl
  have hR' := z_sc_R f hR
  have g := gX10_trickOf_29 (M := M') (xs := xs) (d := d + 6) (P := P) (x1 := a) (x2 := b) (x3 := ev) (x4 := (days : Int)) (x5 := 1) (x6 := (i : Int)) (w7 := w7) (w8 := w8) (z_R_F hR') (z_R_C hR')
  rw [z_sc_c f 321 (by unfold z_conf; omega), f.1 342 (by unfold z_sq; omega), hN, z_in1 (by omega)] at g
  have non : ¬ (M 342 (79 + i) = 0 ∧ T (z_shl 1 i)) → z_fr (z_tf1 M T) (i + 1) = -1 := fun q => by
    rw [z_fr_s hF]
    unfold z_tf1
    rw [if_neg q]
  refine g (fun c => ?_) (fun _ => by omega) (fun _ _ q => by omega) (fun c c2 _ => ?_) (fun c c2 => ?_)
  · obtain rfl : i = N := by omega
    have := kk M' f
    rw [hF] at this
    exact this
  · refine trk M' _ _ _ _ _ f (Or.inr (Or.inl ⟨by omega, rfl, rfl, rfl⟩)) (fun M2 f2 => ?_)
    refine gX10_trickOf_69 (fun c3 => ?_) (fun c3 => ?_)
    · have g2 := gX10_trickOf_80 (M := M2) (xs := xs) (d := d + 6) (P := P) (x1 := a) (x2 := b) (x3 := ev) (x4 := (days : Int)) (x5 := 1) (x6 := (i : Int)) (x7 := 0) (w8 := w8) (z_R_F (z_sc_R f2 hR))
      rw [z_in1 (by omega)] at g2
      have nx := ih (by omega) M2 (0, 0) w8 f2 (non (fun q => by rw [z_b_t q.2] at c3; omega))
      exact g2 (fun _ => nx) (fun _ _ => nx) (fun _ q => by omega) (fun _ q => by omega) (fun _ q => by omega) (fun _ q => by omega)
    · have hT : T (z_shl 1 i) := Classical.byContradiction fun q => c3 (z_b_f q)
      have v := z_x1v i (by omega)
      have ev : z_tf1 M T i = z_shl 1 i := by
        unfold z_tf1
        rw [if_pos ⟨c2, hT⟩]
      have e := z_fr_f (N := N) hF (by rw [ev]; omega) (by omega)
      have := kk M2 f2
      rw [e, ev] at this
      exact this
  · exact ih (by omega) M' _ _ f (non (fun q => c2 q.1))
theorem s_tof2 {P : Option z_V → z_L → z_M → Prop} {M1 : z_M} {a b ev : Int} {days N : Nat} (hR : z_R M) (f1 : z_sc M M1) (hq : z_ask4 M a b ev days) (hN : M 321 46 * M 321 47 = (N : Int)) (kk : ∀ M2 : z_M, z_sc M M2 → P (some (0, z_fr (z_tg2 M (z_ttv M a b ev days)) N)) z_LL M2) : wp xs (d + 7) mX10_trickOf 0 [(2, 321), (0, a), (0, b), (0, ev), (0, (days : Int)), (0, 2), (3, 0), (3, 0), (3, 0)] [] z_LL M1 P := by
  have hx := z_mc_cells (z_R_C hR)
  have trk := fun (M' : z_M) (x x5 x6 x7 : Int) (Q : Option z_V → z_L → z_M → Prop) => s_X10_isTrick (xs := xs) (d := d) (P := Q) (M' := M') (x := x) (x5 := x5) (x6 := x6) (x7 := x7) hR (hq := hq)
  generalize z_ttv M a b ev days = T at *
  refine gX10_trickOf_0 (fun _ => ?_) (fun q => by omega)
  refine z_loop (W := fun i => ∀ (M' : z_M) (w7 w8 : z_V), z_sc M M' → z_fr (z_tg2 M T) i = -1 → wp xs (d + 7) mX10_trickOf 29 [(2, 321), (0, a), (0, b), (0, ev), (0, (days : Int)), (0, 2), (0, (i : Int)), w7, w8] [] z_LL M' P) N (fun i hi ih M' w7 w8 f hF => ?_) M1 _ _ f1 rfl
  have hR' := z_sc_R f hR
  have g := gX10_trickOf_29 (M := M') (xs := xs) (d := d + 6) (P := P) (x1 := a) (x2 := b) (x3 := ev) (x4 := (days : Int)) (x5 := 2) (x6 := (i : Int)) (w7 := w7) (w8 := w8) (z_R_F hR') (z_R_C hR')
  rw [z_sc_c f 321 (by unfold z_conf; omega), f.1 342 (by unfold z_sq; omega), hN, z_in1 (by omega)] at g
  refine g (fun c => ?_) (fun _ => by omega) (fun c c2 _ => ?_) (fun _ _ q => by omega) (fun c c2 => ?_)
  · obtain rfl : i = N := by omega
    have := kk M' f
    rw [hF] at this
    exact this
  · refine z_loop (W := fun j => ∀ (M' : z_M) (w8 : z_V), z_sc M M' → z_fr (z_tf2 M T i) j = -1 → wp xs (d + 7) mX10_trickOf 80 [(2, 321), (0, a), (0, b), (0, ev), (0, (days : Int)), (0, 2), (0, (i : Int)), (0, (j : Int)), w8] [] z_LL M' P) i (fun j hj ih2 M' w8 f hG => ?_) M' _ f rfl
    have hR' := z_sc_R f hR
    have g := gX10_trickOf_80 (M := M') (xs := xs) (d := d + 6) (P := P) (x1 := a) (x2 := b) (x3 := ev) (x4 := (days : Int)) (x5 := 2) (x6 := (i : Int)) (x7 := (j : Int)) (w8 := w8) (z_R_F hR')
    rw [f.1 342 (by unfold z_sq; omega), z_in1 (by omega), z_in1 (by omega)] at g
    have non : ¬ ((M 342 (79 + i) = 0 ∧ M 342 (79 + j) = 0) ∧ T (z_or (z_shl 1 i) (z_shl 1 j))) → z_fr (z_tf2 M T i) (j + 1) = -1 := fun q => by
      rw [z_fr_s hG]
      unfold z_tf2
      rw [if_neg q]
    refine g (fun c3 => ?_) (fun _ q => by omega) (fun _ _ => by omega) (fun _ _ _ q => by omega) (fun c3 _ c4 _ => ?_) (fun c3 _ c4 => ?_)
    · obtain rfl : j = i := by omega
      refine ih (by omega) M' _ _ f ?_
      rw [z_fr_s hF]
      exact hG
    · refine trk M' _ _ _ _ _ f (Or.inr (Or.inr (Or.inl ⟨by omega, by omega, rfl, rfl⟩))) (fun M2 f2 => ?_)
      refine gX10_trickOf_125 (fun c5 => ?_) (fun c5 => ?_)
      · have g2 := gX10_trickOf_141 (M := M2) (xs := xs) (d := d + 6) (P := P) (x1 := a) (x2 := b) (x3 := ev) (x4 := (days : Int)) (x5 := 2) (x6 := (i : Int)) (x7 := (j : Int)) (x8 := 0) (z_R_F (z_sc_R f2 hR))
        rw [z_in1 (by omega)] at g2
        have nx := ih2 (by omega) M2 (0, 0) f2 (non (fun q => by rw [z_b_t q.2] at c5; omega))
        exact g2 (fun _ => nx) (fun _ _ => nx) (fun _ q => by omega) (fun _ q => by omega) (fun _ q => by omega)
      · have hT : T (z_or (z_shl 1 i) (z_shl 1 j)) := Classical.byContradiction fun q => c5 (z_b_f q)
        have v := z_x2v i (by omega) j (by omega)
        have ev : z_tf2 M T i j = z_or (z_shl 1 i) (z_shl 1 j) := by
          unfold z_tf2
          rw [if_pos ⟨⟨c2, c4⟩, hT⟩]
        have e := z_fr_f (N := i) hG (by rw [ev]; omega) (by omega)
        rw [ev] at e
        have e2 := z_fr_f (F := z_tg2 M T) (N := N) hF (by unfold z_tg2; rw [e]; omega) (by omega)
        unfold z_tg2 at e2
        rw [e] at e2
        have := kk M2 f2
        unfold z_tg2 at this
        rw [e2] at this
        exact this
    · exact ih2 (by omega) M' _ f (non (fun q => c4 q.1.2))
  · refine ih (by omega) M' _ _ f ?_
    rw [z_fr_s hF]
    refine z_fr_no (fun j _ => ?_)
    unfold z_tf2
    rw [if_neg (fun q => c2 q.1.1)]
theorem s_tof3 {P : Option z_V → z_L → z_M → Prop} {M1 : z_M} {a b ev : Int} {days N : Nat} (hR : z_R M) (f1 : z_sc M M1) (hq : z_ask4 M a b ev days) (hN : M 321 46 * M 321 47 = (N : Int)) (kk : ∀ M2 : z_M, z_sc M M2 → P (some (0, z_fr (z_th3 M (z_ttv M a b ev days)) N)) z_LL M2) : wp xs (d + 7) mX10_trickOf 0 [(2, 321), (0, a), (0, b), (0, ev), (0, (days : Int)), (0, 3), (3, 0), (3, 0), (3, 0)] [] z_LL M1 P := by
  have hx := z_mc_cells (z_R_C hR)
  have trk := fun (M' : z_M) (x x5 x6 x7 : Int) (Q : Option z_V → z_L → z_M → Prop) => s_X10_isTrick (xs := xs) (d := d) (P := Q) (M' := M') (x := x) (x5 := x5) (x6 := x6) (x7 := x7) hR (hq := hq)
  generalize z_ttv M a b ev days = T at *
  refine gX10_trickOf_0 (fun _ => ?_) (fun q => by omega)
  refine z_loop (W := fun i => ∀ (M' : z_M) (w7 w8 : z_V), z_sc M M' → z_fr (z_th3 M T) i = -1 → wp xs (d + 7) mX10_trickOf 29 [(2, 321), (0, a), (0, b), (0, ev), (0, (days : Int)), (0, 3), (0, (i : Int)), w7, w8] [] z_LL M' P) N (fun i hi ih M' w7 w8 f hF => ?_) M1 _ _ f1 rfl
  have hR' := z_sc_R f hR
  have g := gX10_trickOf_29 (M := M') (xs := xs) (d := d + 6) (P := P) (x1 := a) (x2 := b) (x3 := ev) (x4 := (days : Int)) (x5 := 3) (x6 := (i : Int)) (w7 := w7) (w8 := w8) (z_R_F hR') (z_R_C hR')
  rw [z_sc_c f 321 (by unfold z_conf; omega), f.1 342 (by unfold z_sq; omega), hN, z_in1 (by omega)] at g
  refine g (fun c => ?_) (fun _ => by omega) (fun c c2 _ => ?_) (fun _ _ q => by omega) (fun c c2 => ?_)
  · obtain rfl : i = N := by omega
    have := kk M' f
    rw [hF] at this
    exact this
  · refine z_loop (W := fun j => ∀ (M' : z_M) (w8 : z_V), z_sc M M' → z_fr (z_tg3 M T i) j = -1 → wp xs (d + 7) mX10_trickOf 80 [(2, 321), (0, a), (0, b), (0, ev), (0, (days : Int)), (0, 3), (0, (i : Int)), (0, (j : Int)), w8] [] z_LL M' P) i (fun j hj ih2 M' w8 f hG => ?_) M' _ f rfl
    have hR' := z_sc_R f hR
    have g := gX10_trickOf_80 (M := M') (xs := xs) (d := d + 6) (P := P) (x1 := a) (x2 := b) (x3 := ev) (x4 := (days : Int)) (x5 := 3) (x6 := (i : Int)) (x7 := (j : Int)) (w8 := w8) (z_R_F hR')
    rw [f.1 342 (by unfold z_sq; omega), z_in1 (by omega), z_in1 (by omega)] at g
    refine g (fun c3 => ?_) (fun _ q => by omega) (fun _ _ => by omega) (fun c3 _ c4 _ => ?_) (fun _ _ _ q => by omega) (fun c3 _ c4 => ?_)
    · obtain rfl : j = i := by omega
      refine ih (by omega) M' _ _ f ?_
      rw [z_fr_s hF]
      exact hG
    · refine z_loop (W := fun l => ∀ M' : z_M, z_sc M M' → z_fr (z_tf3 M T i j) l = -1 → wp xs (d + 7) mX10_trickOf 141 [(2, 321), (0, a), (0, b), (0, ev), (0, (days : Int)), (0, 3), (0, (i : Int)), (0, (j : Int)), (0, (l : Int))] [] z_LL M' P) j (fun l hl ih3 M' f hH => ?_) M' f rfl
      have hR' := z_sc_R f hR
      have g := gX10_trickOf_141 (M := M') (xs := xs) (d := d + 6) (P := P) (x1 := a) (x2 := b) (x3 := ev) (x4 := (days : Int)) (x5 := 3) (x6 := (i : Int)) (x7 := (j : Int)) (x8 := (l : Int)) (z_R_F hR')
      rw [f.1 342 (by unfold z_sq; omega), z_in1 (by omega), z_in1 (by omega)] at g
      have non : ¬ ((M 342 (79 + i) = 0 ∧ M 342 (79 + j) = 0 ∧ M 342 (79 + l) = 0) ∧ T (z_or (z_or (z_shl 1 i) (z_shl 1 j)) (z_shl 1 l))) → z_fr (z_tf3 M T i j) (l + 1) = -1 := fun q => by
        rw [z_fr_s hH]
        unfold z_tf3
        rw [if_neg q]
      refine g (fun c5 => ?_) (fun _ q => by omega) (fun _ _ => by omega) (fun c5 _ c6 => ?_) (fun c5 _ c6 => ?_)
      · obtain rfl : l = j := by omega
        refine ih2 (by omega) M' _ f ?_
        rw [z_fr_s hG]
        exact hH
      · exact ih3 (by omega) M' f (non (fun q => c6 q.1.2.2))
      · refine trk M' _ _ _ _ _ f (Or.inr (Or.inr (Or.inr ⟨by omega, by omega, by omega, rfl⟩))) (fun M2 f2 => ?_)
        refine gX10_trickOf_178 (fun c7 => ?_) (fun c7 => ?_)
        · rw [z_in1 (by omega)]
          exact ih3 (by omega) M2 f2 (non (fun q => by rw [z_b_t q.2] at c7; omega))
        · have hT : T (z_or (z_or (z_shl 1 i) (z_shl 1 j)) (z_shl 1 l)) := Classical.byContradiction fun q => c7 (z_b_f q)
          have v := z_x3v i (by omega) j (by omega) l (by omega)
          have ev : z_tf3 M T i j l = z_or (z_or (z_shl 1 i) (z_shl 1 j)) (z_shl 1 l) := by
            unfold z_tf3
            rw [if_pos ⟨⟨c2, c4, c6⟩, hT⟩]
          have e := z_fr_f (N := j) hH (by rw [ev]; omega) (by omega)
          rw [ev] at e
          have e2 := z_fr_f (F := z_tg3 M T i) (N := i) hG (by unfold z_tg3; rw [e]; omega) (by omega)
          unfold z_tg3 at e2
          rw [e] at e2
          have e3 := z_fr_f (F := z_th3 M T) (N := N) hF (by unfold z_th3 z_tg3; rw [e2]; omega) (by omega)
          have := kk M2 f2
          rw [e3] at this
          unfold z_th3 z_tg3 at this
          rw [e2] at this
          exact this
    · refine ih2 (by omega) M' _ f ?_
      rw [z_fr_s hG]
      refine z_fr_no (fun l _ => ?_)
      unfold z_tf3
      rw [if_neg (fun q => c4 q.1.2.1)]
  · refine ih (by omega) M' _ _ f ?_
    rw [z_fr_s hF]
    refine z_fr_no (fun j _ => z_fr_no (fun l _ => ?_))
    unfold z_tf3
    rw [if_neg (fun q => c2 q.1.1)]
theorem c_trick {a1 a2 a3 a4 a5 : Int} (hR : z_R M) : z_two xs (d + 200) mX9_trick mX10_trick [(2, 1), (0, a1), (0, a2), (0, a3), (0, a4), (0, a5)] [(2, 321), (0, a1), (0, a2), (0, a3), (0, a4), (0, a5), (3, 0), (3, 0)] M := by
  have hn := (z_R_C hR).2.2.1
  have hx := z_mc_cells (z_R_C hR)
  obtain ⟨N, hN⟩ : ∃ N : Nat, M 321 46 * M 321 47 = (N : Int) := ⟨(M 321 46 * M 321 47).toNat, by omega⟩
  obtain ⟨n1, n2, n3, n4, n5⟩ := z_R_n hR
  have g := fun P => gX9_trick_0 (M := M) (xs := xs) (d := d + 198) (P := P) (a1 := a1) (a2 := a2) (a3 := a3) (a4 := a4) (a5 := a5) (z_R_F hR) (z_R_g hR).1 (z_R_H hR).1
  simp only [n3] at g
  have cm := z_R_cm hR a1 a2
  have g2 : ∀ (M2 : z_M) P, z_R M2 → z_sc M M2 → _ := fun M2 P hR2 f => by
    have g := gX10_trick_0 (M := M2) (xs := xs) (d := d + 197) (P := P) (a1 := a1) (a2 := a2) (a3 := a3) (a4 := a4) (a5 := a5) (z_R_F hR2) (z_R_C hR2)
    simp only [z_sc_c f 321 (by unfold z_conf; omega), z_cm_q (z_sc_c f)] at g
    exact g
  by_cases h : z_cmg M (M 1 0) a1 a2 ∧ (1 ≤ a3 ∧ a3 ≤ 9) ∧ (1 ≤ a4 ∧ a4 ≤ 20) ∧ (0 ≤ a5 ∧ a5 ≤ 1)
  · obtain ⟨m, rfl⟩ : ∃ m : Nat, a4 = m := ⟨a4.toNat, by omega⟩
    have h2 := cm.mp h.1
    have hne : a1 ≠ a2 := fun e => h2.2.2.1 (by rw [e])
    have q4 : z_ask4 M a1 a2 a3 m := ⟨h.2.1, by omega, h2.1, h2.2.1⟩
    have w1 := z_tf1_v (M := M) (T := z_ttv M a1 a2 a3 m) (N := N) (by omega)
    have w2 := z_tf2_v (M := M) (T := z_ttv M a1 a2 a3 m) (N := N) (by omega)
    have w3 := z_tf3_v (M := M) (T := z_ttv M a1 a2 a3 m) (N := N) (by omega)
    refine z_two_q (@ite Int (z_ttv M a1 a2 a3 m 0) (Classical.propDecidable _) 0 (if z_fr (z_tf1 M (z_ttv M a1 a2 a3 m)) N ≠ -1 then (if a5 = 0 then 1 else z_fr (z_tf1 M (z_ttv M a1 a2 a3 m)) N) else if z_fr (z_tg2 M (z_ttv M a1 a2 a3 m)) N ≠ -1 then (if a5 = 0 then 2 else z_fr (z_tg2 M (z_ttv M a1 a2 a3 m)) N) else if z_fr (z_th3 M (z_ttv M a1 a2 a3 m)) N ≠ -1 then (if a5 = 0 then 3 else z_fr (z_th3 M (z_ttv M a1 a2 a3 m)) N) else -1)) hR (fun P k => ?_) (fun M1 P f1 hR1 k => ?_)
    · refine g _ (by omega) (fun q => absurd h.1 q) (fun _ _ => by omega) (fun _ _ _ => by omega) (fun _ _ _ _ => by omega) (fun _ _ _ _ _ => by omega) (fun _ _ _ _ _ _ => by omega) (fun _ _ _ _ _ _ _ => ?_) (fun _ _ _ _ _ _ _ => by omega)
      have f1 := z_R_ask (a := a1) (b := a2) (e := a3) (m := m) hR
      have v := z_ask_v (M := M) (a := a1) (b := a2) (e := a3) (m := m)
      have hR1 := z_sc_R f1 hR
      generalize z_up (z_up (z_up (z_up M 38 4 a1) 38 5 a2) 38 6 a3) 38 7 m = M1 at *
      have q1 : M1 1 = M 1 := f1.1 1 (by unfold z_sq; omega)
      have e321 := z_sc_c f1 321 (by unfold z_conf; omega)
      rw [← q1]
      refine s_X0_leastSalt (N := N) hR1 ⟨v, h.2.1, by omega, by rw [e321]; exact h2.1, by rw [e321]; exact h2.2.1, hne⟩ (by rw [e321]; exact hN) (fun M2 f2 => ?_)
      have eT : z_ttv M1 a1 a2 a3 m = z_ttv M a1 a2 a3 m := by
        funext x
        unfold z_ttv z_tv z_tdy
        rw [z_dys_q (z_sc_c f1), f1.1 342 (by unfold z_sq; omega), e321]
      have e342 : M1 342 = M 342 := f1.1 342 (by unfold z_sq; omega)
      have e1 : z_tf1 M1 = z_tf1 M := by
        funext T c
        unfold z_tf1
        rw [e342]
      have e2 : z_tg2 M1 = z_tg2 M := by
        funext T c
        unfold z_tg2 z_tf2
        rw [e342]
      have e3 : z_th3 M1 = z_th3 M := by
        funext T c
        unfold z_th3 z_tg3 z_tf3
        rw [e342]
      unfold z_rv
      rw [eT, e1, e2, e3]
      have kk := k M2 (z_sc_t f1 f2)
      generalize z_ttv M a1 a2 a3 m = T at *
      by_cases t0 : T 0
      · rw [if_pos t0] at kk ⊢
        refine gX9_trick_60 (fun _ _ => kk) (fun _ _ => by rw [z_bc0]; exact kk) (fun q => by omega)
      rw [if_neg t0] at kk ⊢
      by_cases t1 : z_fr (z_tf1 M T) N ≠ -1
      · rw [if_pos t1] at kk ⊢
        refine gX9_trick_60 (fun _ q => ?_) (fun _ q => ?_) (fun q => absurd t1 q)
        · rw [if_neg q] at kk
          exact kk
        · rw [if_pos (by omega)] at kk
          rw [(w1 t1).2]
          exact kk
      rw [if_neg t1] at kk ⊢
      by_cases t2 : z_fr (z_tg2 M T) N ≠ -1
      · rw [if_pos t2] at kk ⊢
        refine gX9_trick_60 (fun _ q => ?_) (fun _ q => ?_) (fun q => absurd t2 q)
        · rw [if_neg q] at kk
          exact kk
        · rw [if_pos (by omega)] at kk
          rw [(w2 t2).2]
          exact kk
      rw [if_neg t2] at kk ⊢
      by_cases t3 : z_fr (z_th3 M T) N ≠ -1
      · rw [if_pos t3] at kk
        refine gX9_trick_60 (fun _ q => ?_) (fun _ q => ?_) (fun q => absurd t3 q)
        · rw [if_neg q] at kk
          exact kk
        · rw [if_pos (by omega)] at kk
          rw [(w3 t3).2]
          exact kk
      · rw [if_neg t3] at kk
        exact gX9_trick_60 (fun q => absurd q t3) (fun q => absurd q t3) (fun _ => kk)
    · refine g2 M1 P hR1 f1 (fun q => absurd h2 q) (fun _ q => absurd h.2.1 q) (fun _ _ q => absurd h.2.2.1 q) (fun _ _ _ _ => ?_) (fun _ _ _ q => absurd h.2.2.2 q)
      have t0 := fun (M' : z_M) (Q : Option z_V → z_L → z_M → Prop) (f : z_sc M M') => s_tof0 (xs := xs) (d := d + 192) (P := Q) hR f q4
      have t1 := fun (M' : z_M) (Q : Option z_V → z_L → z_M → Prop) (f : z_sc M M') => s_tof1 (xs := xs) (d := d + 192) (P := Q) hR f q4 hN
      have t2 := fun (M' : z_M) (Q : Option z_V → z_L → z_M → Prop) (f : z_sc M M') => s_tof2 (xs := xs) (d := d + 192) (P := Q) hR f q4 hN
      have t3 := fun (M' : z_M) (Q : Option z_V → z_L → z_M → Prop) (f : z_sc M M') => s_tof3 (xs := xs) (d := d + 192) (P := Q) hR f q4 hN
      have k : ∀ M' : z_M, z_sc M M' → _ := fun M' f => k M' ⟨fun q hq => by rw [f.1 q hq, f1.1 q hq], fun j hj => by rw [f.2.1 j hj, f1.2.1 j hj], fun j h0 hj => ⟨by rw [(f.2.2.1 j h0 hj).1, (f1.2.2.1 j h0 hj).1], by rw [(f.2.2.1 j h0 hj).2, (f1.2.2.1 j h0 hj).2]⟩, fun j h0 hj => by rw [f.2.2.2.1 j h0 hj, f1.2.2.2.1 j h0 hj], fun k hk => by rw [f.2.2.2.2 k hk, f1.2.2.2.2 k hk]⟩
      generalize z_ttv M a1 a2 a3 m = T at *
      refine gX10_trick_45 (fun q => by omega) (fun _ => ?_)
      refine t0 M1 _ f1 (fun M2 f2 => ?_)
      by_cases c0 : T 0
      · rw [if_pos c0]
        have kk := k M2 f2
        rw [if_pos c0] at kk
        exact gX10_trick_62 (fun q => by omega) (fun _ _ => kk) (fun _ _ => kk)
      rw [if_neg c0] at k ⊢
      refine gX10_trick_62 (fun _ => ?_) (fun q => by omega) (fun q => by omega)
      rw [show z_w ((0 : Int) + 1) = 1 from z_wid (by omega)]
      refine gX10_trick_45 (fun q => by omega) (fun _ => ?_)
      refine t1 M2 _ f2 (fun M3 f3 => ?_)
      by_cases c1 : z_fr (z_tf1 M T) N ≠ -1
      · have kk := k M3 f3
        rw [if_pos c1] at kk
        have := w1 c1
        refine gX10_trick_62 (fun q => by omega) (fun _ q => ?_) (fun _ q => ?_)
        · rw [if_neg q] at kk
          exact kk
        · rw [if_pos (by omega)] at kk
          exact kk
      rw [if_neg c1] at k
      refine gX10_trick_62 (fun _ => ?_) (fun q => by omega) (fun q => by omega)
      rw [show z_w ((1 : Int) + 1) = 2 from z_wid (by omega)]
      refine gX10_trick_45 (fun q => by omega) (fun _ => ?_)
      refine t2 M3 _ f3 (fun M4 f4 => ?_)
      by_cases c2 : z_fr (z_tg2 M T) N ≠ -1
      · have kk := k M4 f4
        rw [if_pos c2] at kk
        have := w2 c2
        refine gX10_trick_62 (fun q => by omega) (fun _ q => ?_) (fun _ q => ?_)
        · rw [if_neg q] at kk
          exact kk
        · rw [if_pos (by omega)] at kk
          exact kk
      rw [if_neg c2] at k
      refine gX10_trick_62 (fun _ => ?_) (fun q => by omega) (fun q => by omega)
      rw [show z_w ((2 : Int) + 1) = 3 from z_wid (by omega)]
      refine gX10_trick_45 (fun q => by omega) (fun _ => ?_)
      refine t3 M4 _ f4 (fun M5 f5 => ?_)
      by_cases c3 : z_fr (z_th3 M T) N ≠ -1
      · have kk := k M5 f5
        rw [if_pos c3] at kk
        have := w3 c3
        refine gX10_trick_62 (fun q => by omega) (fun _ q => ?_) (fun _ q => ?_)
        · rw [if_neg q] at kk
          exact kk
        · rw [if_pos (by omega)] at kk
          exact kk
      rw [if_neg c3] at k
      refine gX10_trick_62 (fun _ => ?_) (fun q => by omega) (fun q => by omega)
      rw [show z_w ((3 : Int) + 1) = 4 from z_wid (by omega)]
      exact gX10_trick_45 (fun _ => k M5 f5) (fun q => by omega)
  · have h2 : ¬ (((0 ≤ a1 ∧ a1 < M 321 48) ∧ (0 ≤ a2 ∧ a2 < M 321 48) ∧ z_cm M a1 a2) ∧ (1 ≤ a3 ∧ a3 ≤ 9) ∧ (1 ≤ a4 ∧ a4 ≤ 20) ∧ (0 ≤ a5 ∧ a5 ≤ 1)) := fun q => h ⟨cm.mpr q.1, q.2⟩
    refine z_two_q (-1) hR (fun P k => ?_) (fun M1 P f1 hR1 k => ?_)
    · exact g _ (by omega) (fun _ => k M z_sc_r) (fun _ _ => k M z_sc_r) (fun _ _ _ => k M z_sc_r) (fun _ _ _ _ => k M z_sc_r) (fun _ _ _ _ _ => k M z_sc_r) (fun _ _ _ _ _ _ => k M z_sc_r) (fun c c1 c2 c3 c4 c5 c6 => absurd ⟨c, ⟨by omega, by omega⟩, ⟨by omega, by omega⟩, by omega, by omega⟩ h) (fun _ _ _ _ _ _ _ => k M z_sc_r)
    · exact g2 M1 P hR1 f1 (fun _ => k M1 z_sc_r) (fun _ _ => k M1 z_sc_r) (fun _ _ _ => k M1 z_sc_r) (fun c1 c2 c3 c4 => absurd ⟨c1, c2, c3, c4⟩ h2) (fun _ _ _ _ => k M1 z_sc_r)
end
