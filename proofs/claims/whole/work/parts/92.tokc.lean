/-! THE CLASS READS TOKENS -/
set_option maxRecDepth 20000 in
theorem gX7_isBlank_0 {xs : List Int} {d : Nat} {M : z_M} {P : Option z_V → z_L → z_M → Prop} {a1 : Int} 
    (l1 : (a1 = 32) → P (some (0, 1)) z_LL M)
    (l2 : (¬ (a1 = 32)) → (a1 ≠ 10) → P (some (0, 0)) z_LL M)
    (l3 : (¬ (a1 = 32)) → (¬ (a1 ≠ 10)) → P (some (0, 1)) z_LL M) :
    wp xs d mX7_isBlank 0 [(0, a1)] [] z_LL M P := by
  refine wp_run 2 (pc' := 3) (ls' := [(0, a1)]) (st' := [(0, 32), (0, a1)]) rfl ?_
  refine wp_if2 rfl rfl rfl (fun (c1 : a1 = 32) => ?_) (fun (c1 : ¬ (a1 = 32)) => ?_)
  · refine wp_run 2 (pc' := 17) (ls' := [(0, a1)]) (st' := [(0, 1)]) rfl ?_
    exact wp_ret rfl rfl (l1 c1)
  · refine wp_run 2 (pc' := 9) (ls' := [(0, a1)]) (st' := [(0, 10), (0, a1)]) rfl ?_
    refine wp_if2 rfl rfl rfl (fun (c2 : a1 ≠ 10) => ?_) (fun (c2 : ¬ (a1 ≠ 10)) => ?_)
    · refine wp_run 1 (pc' := 17) (ls' := [(0, a1)]) (st' := [(0, 0)]) rfl ?_
      exact wp_ret rfl rfl (l2 c1 c2)
    · refine wp_run 2 (pc' := 17) (ls' := [(0, a1)]) (st' := [(0, 1)]) rfl ?_
      exact wp_ret rfl rfl (l3 c1 c2)
set_option maxRecDepth 20000 in
theorem gX7_isLetter_0 {xs : List Int} {d : Nat} {M : z_M} {P : Option z_V → z_L → z_M → Prop} {a1 : Int} 
    (l1 : (a1 < 97) → P (some (0, 0)) z_LL M)
    (l2 : (¬ (a1 < 97)) → (122 < a1) → P (some (0, 0)) z_LL M)
    (l3 : (¬ (a1 < 97)) → (¬ (122 < a1)) → P (some (0, 1)) z_LL M) :
    wp xs d mX7_isLetter 0 [(0, a1)] [] z_LL M P := by
  refine wp_run 2 (pc' := 3) (ls' := [(0, a1)]) (st' := [(0, 97), (0, a1)]) rfl ?_
  refine wp_if2 rfl rfl rfl (fun (c1 : a1 < 97) => ?_) (fun (c1 : ¬ (a1 < 97)) => ?_)
  · refine wp_run 1 (pc' := 17) (ls' := [(0, a1)]) (st' := [(0, 0)]) rfl ?_
    exact wp_ret rfl rfl (l1 c1)
  · refine wp_run 2 (pc' := 9) (ls' := [(0, a1)]) (st' := [(0, 122), (0, a1)]) rfl ?_
    refine wp_if2 rfl rfl rfl (fun (c2 : 122 < a1) => ?_) (fun (c2 : ¬ (122 < a1)) => ?_)
    · refine wp_run 1 (pc' := 17) (ls' := [(0, a1)]) (st' := [(0, 0)]) rfl ?_
      exact wp_ret rfl rfl (l2 c1 c2)
    · refine wp_run 2 (pc' := 17) (ls' := [(0, a1)]) (st' := [(0, 1)]) rfl ?_
      exact wp_ret rfl rfl (l3 c1 c2)
set_option maxRecDepth 20000 in
theorem gX7_isDigit_0 {xs : List Int} {d : Nat} {M : z_M} {P : Option z_V → z_L → z_M → Prop} {a1 : Int} 
    (l1 : (a1 < 48) → P (some (0, 0)) z_LL M)
    (l2 : (¬ (a1 < 48)) → (57 < a1) → P (some (0, 0)) z_LL M)
    (l3 : (¬ (a1 < 48)) → (¬ (57 < a1)) → P (some (0, 1)) z_LL M) :
    wp xs d mX7_isDigit 0 [(0, a1)] [] z_LL M P := by
  refine wp_run 2 (pc' := 3) (ls' := [(0, a1)]) (st' := [(0, 48), (0, a1)]) rfl ?_
  refine wp_if2 rfl rfl rfl (fun (c1 : a1 < 48) => ?_) (fun (c1 : ¬ (a1 < 48)) => ?_)
  · refine wp_run 1 (pc' := 17) (ls' := [(0, a1)]) (st' := [(0, 0)]) rfl ?_
    exact wp_ret rfl rfl (l1 c1)
  · refine wp_run 2 (pc' := 9) (ls' := [(0, a1)]) (st' := [(0, 57), (0, a1)]) rfl ?_
    refine wp_if2 rfl rfl rfl (fun (c2 : 57 < a1) => ?_) (fun (c2 : ¬ (57 < a1)) => ?_)
    · refine wp_run 1 (pc' := 17) (ls' := [(0, a1)]) (st' := [(0, 0)]) rfl ?_
      exact wp_ret rfl rfl (l2 c1 c2)
    · refine wp_run 2 (pc' := 17) (ls' := [(0, a1)]) (st' := [(0, 1)]) rfl ?_
      exact wp_ret rfl rfl (l3 c1 c2)
set_option maxRecDepth 20000 in
theorem gX10_isLetter_0 {xs : List Int} {d : Nat} {M : z_M} {P : Option z_V → z_L → z_M → Prop} {a1 : Int} 
    (l1 : (a1 < 97) → P (some (0, 0)) z_LL M)
    (l2 : (¬ (a1 < 97)) → (122 < a1) → P (some (0, 0)) z_LL M)
    (l3 : (¬ (a1 < 97)) → (¬ (122 < a1)) → P (some (0, 1)) z_LL M) :
    wp xs d mX10_isLetter 0 [(0, a1)] [] z_LL M P := by
  refine wp_run 2 (pc' := 3) (ls' := [(0, a1)]) (st' := [(0, 97), (0, a1)]) rfl ?_
  refine wp_if2 rfl rfl rfl (fun (c1 : a1 < 97) => ?_) (fun (c1 : ¬ (a1 < 97)) => ?_)
  · refine wp_run 1 (pc' := 17) (ls' := [(0, a1)]) (st' := [(0, 0)]) rfl ?_
    exact wp_ret rfl rfl (l1 c1)
  · refine wp_run 2 (pc' := 9) (ls' := [(0, a1)]) (st' := [(0, 122), (0, a1)]) rfl ?_
    refine wp_if2 rfl rfl rfl (fun (c2 : 122 < a1) => ?_) (fun (c2 : ¬ (122 < a1)) => ?_)
    · refine wp_run 1 (pc' := 17) (ls' := [(0, a1)]) (st' := [(0, 0)]) rfl ?_
      exact wp_ret rfl rfl (l2 c1 c2)
    · refine wp_run 2 (pc' := 17) (ls' := [(0, a1)]) (st' := [(0, 1)]) rfl ?_
      exact wp_ret rfl rfl (l3 c1 c2)
set_option maxRecDepth 20000 in
theorem gX10_isDigit_0 {xs : List Int} {d : Nat} {M : z_M} {P : Option z_V → z_L → z_M → Prop} {a1 : Int} 
    (l1 : (a1 < 48) → P (some (0, 0)) z_LL M)
    (l2 : (¬ (a1 < 48)) → (57 < a1) → P (some (0, 0)) z_LL M)
    (l3 : (¬ (a1 < 48)) → (¬ (57 < a1)) → P (some (0, 1)) z_LL M) :
    wp xs d mX10_isDigit 0 [(0, a1)] [] z_LL M P := by
  refine wp_run 2 (pc' := 3) (ls' := [(0, a1)]) (st' := [(0, 48), (0, a1)]) rfl ?_
  refine wp_if2 rfl rfl rfl (fun (c1 : a1 < 48) => ?_) (fun (c1 : ¬ (a1 < 48)) => ?_)
  · refine wp_run 1 (pc' := 17) (ls' := [(0, a1)]) (st' := [(0, 0)]) rfl ?_
    exact wp_ret rfl rfl (l1 c1)
  · refine wp_run 2 (pc' := 9) (ls' := [(0, a1)]) (st' := [(0, 57), (0, a1)]) rfl ?_
    refine wp_if2 rfl rfl rfl (fun (c2 : 57 < a1) => ?_) (fun (c2 : ¬ (57 < a1)) => ?_)
    · refine wp_run 1 (pc' := 17) (ls' := [(0, a1)]) (st' := [(0, 0)]) rfl ?_
      exact wp_ret rfl rfl (l2 c1 c2)
    · refine wp_run 2 (pc' := 17) (ls' := [(0, a1)]) (st' := [(0, 1)]) rfl ?_
      exact wp_ret rfl rfl (l3 c1 c2)
set_option maxRecDepth 20000 in
theorem gX10_isSign_0 {xs : List Int} {d : Nat} {M : z_M} {P : Option z_V → z_L → z_M → Prop} {a1 : Int} 
    (l1 : (a1 = 59) → P (some (0, 1)) z_LL M)
    (l2 : (¬ (a1 = 59)) → (a1 = 40) → P (some (0, 1)) z_LL M)
    (l3 : (¬ (a1 = 59)) → (¬ (a1 = 40)) → (a1 = 41) → P (some (0, 1)) z_LL M)
    (l4 : (¬ (a1 = 59)) → (¬ (a1 = 40)) → (¬ (a1 = 41)) → (a1 = 60) → P (some (0, 1)) z_LL M)
    (l5 : (¬ (a1 = 59)) → (¬ (a1 = 40)) → (¬ (a1 = 41)) → (¬ (a1 = 60)) → (a1 = 62) → P (some (0, 1)) z_LL M)
    (l6 : (¬ (a1 = 59)) → (¬ (a1 = 40)) → (¬ (a1 = 41)) → (¬ (a1 = 60)) → (¬ (a1 = 62)) → (a1 = 61) → P (some (0, 1)) z_LL M)
    (l7 : (¬ (a1 = 59)) → (¬ (a1 = 40)) → (¬ (a1 = 41)) → (¬ (a1 = 60)) → (¬ (a1 = 62)) → (¬ (a1 = 61)) → (a1 = 43) → P (some (0, 1)) z_LL M)
    (l8 : (¬ (a1 = 59)) → (¬ (a1 = 40)) → (¬ (a1 = 41)) → (¬ (a1 = 60)) → (¬ (a1 = 62)) → (¬ (a1 = 61)) → (¬ (a1 = 43)) → (a1 = 45) → P (some (0, 1)) z_LL M)
    (l9 : (¬ (a1 = 59)) → (¬ (a1 = 40)) → (¬ (a1 = 41)) → (¬ (a1 = 60)) → (¬ (a1 = 62)) → (¬ (a1 = 61)) → (¬ (a1 = 43)) → (¬ (a1 = 45)) → (a1 = 42) → P (some (0, 1)) z_LL M)
    (l10 : (¬ (a1 = 59)) → (¬ (a1 = 40)) → (¬ (a1 = 41)) → (¬ (a1 = 60)) → (¬ (a1 = 62)) → (¬ (a1 = 61)) → (¬ (a1 = 43)) → (¬ (a1 = 45)) → (¬ (a1 = 42)) → (a1 = 47) → P (some (0, 1)) z_LL M)
    (l11 : (¬ (a1 = 59)) → (¬ (a1 = 40)) → (¬ (a1 = 41)) → (¬ (a1 = 60)) → (¬ (a1 = 62)) → (¬ (a1 = 61)) → (¬ (a1 = 43)) → (¬ (a1 = 45)) → (¬ (a1 = 42)) → (¬ (a1 = 47)) → (a1 ≠ 37) → P (some (0, 0)) z_LL M)
    (l12 : (¬ (a1 = 59)) → (¬ (a1 = 40)) → (¬ (a1 = 41)) → (¬ (a1 = 60)) → (¬ (a1 = 62)) → (¬ (a1 = 61)) → (¬ (a1 = 43)) → (¬ (a1 = 45)) → (¬ (a1 = 42)) → (¬ (a1 = 47)) → (¬ (a1 ≠ 37)) → P (some (0, 1)) z_LL M) :
    wp xs d mX10_isSign 0 [(0, a1)] [] z_LL M P := by
  refine wp_run 2 (pc' := 3) (ls' := [(0, a1)]) (st' := [(0, 59), (0, a1)]) rfl ?_
  refine wp_if2 rfl rfl rfl (fun (c1 : a1 = 59) => ?_) (fun (c1 : ¬ (a1 = 59)) => ?_)
  · refine wp_run 2 (pc' := 71) (ls' := [(0, a1)]) (st' := [(0, 1)]) rfl ?_
    exact wp_ret rfl rfl (l1 c1)
  · refine wp_run 2 (pc' := 9) (ls' := [(0, a1)]) (st' := [(0, 40), (0, a1)]) rfl ?_
    refine wp_if2 rfl rfl rfl (fun (c2 : a1 = 40) => ?_) (fun (c2 : ¬ (a1 = 40)) => ?_)
    · refine wp_run 2 (pc' := 71) (ls' := [(0, a1)]) (st' := [(0, 1)]) rfl ?_
      exact wp_ret rfl rfl (l2 c1 c2)
    · refine wp_run 2 (pc' := 15) (ls' := [(0, a1)]) (st' := [(0, 41), (0, a1)]) rfl ?_
      refine wp_if2 rfl rfl rfl (fun (c3 : a1 = 41) => ?_) (fun (c3 : ¬ (a1 = 41)) => ?_)
      · refine wp_run 2 (pc' := 71) (ls' := [(0, a1)]) (st' := [(0, 1)]) rfl ?_
        exact wp_ret rfl rfl (l3 c1 c2 c3)
      · refine wp_run 2 (pc' := 21) (ls' := [(0, a1)]) (st' := [(0, 60), (0, a1)]) rfl ?_
        refine wp_if2 rfl rfl rfl (fun (c4 : a1 = 60) => ?_) (fun (c4 : ¬ (a1 = 60)) => ?_)
        · refine wp_run 2 (pc' := 71) (ls' := [(0, a1)]) (st' := [(0, 1)]) rfl ?_
          exact wp_ret rfl rfl (l4 c1 c2 c3 c4)
        · refine wp_run 2 (pc' := 27) (ls' := [(0, a1)]) (st' := [(0, 62), (0, a1)]) rfl ?_
          refine wp_if2 rfl rfl rfl (fun (c5 : a1 = 62) => ?_) (fun (c5 : ¬ (a1 = 62)) => ?_)
          · refine wp_run 2 (pc' := 71) (ls' := [(0, a1)]) (st' := [(0, 1)]) rfl ?_
            exact wp_ret rfl rfl (l5 c1 c2 c3 c4 c5)
          · refine wp_run 2 (pc' := 33) (ls' := [(0, a1)]) (st' := [(0, 61), (0, a1)]) rfl ?_
            refine wp_if2 rfl rfl rfl (fun (c6 : a1 = 61) => ?_) (fun (c6 : ¬ (a1 = 61)) => ?_)
            · refine wp_run 2 (pc' := 71) (ls' := [(0, a1)]) (st' := [(0, 1)]) rfl ?_
              exact wp_ret rfl rfl (l6 c1 c2 c3 c4 c5 c6)
            · refine wp_run 2 (pc' := 39) (ls' := [(0, a1)]) (st' := [(0, 43), (0, a1)]) rfl ?_
              refine wp_if2 rfl rfl rfl (fun (c7 : a1 = 43) => ?_) (fun (c7 : ¬ (a1 = 43)) => ?_)
              · refine wp_run 2 (pc' := 71) (ls' := [(0, a1)]) (st' := [(0, 1)]) rfl ?_
                exact wp_ret rfl rfl (l7 c1 c2 c3 c4 c5 c6 c7)
              · refine wp_run 2 (pc' := 45) (ls' := [(0, a1)]) (st' := [(0, 45), (0, a1)]) rfl ?_
                refine wp_if2 rfl rfl rfl (fun (c8 : a1 = 45) => ?_) (fun (c8 : ¬ (a1 = 45)) => ?_)
                · refine wp_run 2 (pc' := 71) (ls' := [(0, a1)]) (st' := [(0, 1)]) rfl ?_
                  exact wp_ret rfl rfl (l8 c1 c2 c3 c4 c5 c6 c7 c8)
                · refine wp_run 2 (pc' := 51) (ls' := [(0, a1)]) (st' := [(0, 42), (0, a1)]) rfl ?_
                  refine wp_if2 rfl rfl rfl (fun (c9 : a1 = 42) => ?_) (fun (c9 : ¬ (a1 = 42)) => ?_)
                  · refine wp_run 2 (pc' := 71) (ls' := [(0, a1)]) (st' := [(0, 1)]) rfl ?_
                    exact wp_ret rfl rfl (l9 c1 c2 c3 c4 c5 c6 c7 c8 c9)
                  · refine wp_run 2 (pc' := 57) (ls' := [(0, a1)]) (st' := [(0, 47), (0, a1)]) rfl ?_
                    refine wp_if2 rfl rfl rfl (fun (c10 : a1 = 47) => ?_) (fun (c10 : ¬ (a1 = 47)) => ?_)
                    · refine wp_run 2 (pc' := 71) (ls' := [(0, a1)]) (st' := [(0, 1)]) rfl ?_
                      exact wp_ret rfl rfl (l10 c1 c2 c3 c4 c5 c6 c7 c8 c9 c10)
                    · refine wp_run 2 (pc' := 63) (ls' := [(0, a1)]) (st' := [(0, 37), (0, a1)]) rfl ?_
                      refine wp_if2 rfl rfl rfl (fun (c11 : a1 ≠ 37) => ?_) (fun (c11 : ¬ (a1 ≠ 37)) => ?_)
                      · refine wp_run 1 (pc' := 71) (ls' := [(0, a1)]) (st' := [(0, 0)]) rfl ?_
                        exact wp_ret rfl rfl (l11 c1 c2 c3 c4 c5 c6 c7 c8 c9 c10 c11)
                      · refine wp_run 2 (pc' := 71) (ls' := [(0, a1)]) (st' := [(0, 1)]) rfl ?_
                        exact wp_ret rfl rfl (l12 c1 c2 c3 c4 c5 c6 c7 c8 c9 c10 c11)
set_option maxRecDepth 20000 in
theorem gX10_here_0 {xs : List Int} {d : Nat} {M : z_M} {P : Option z_V → z_L → z_M → Prop} {a1 : Int} (hF : z_fix M) 
    (l1 : ((M 321 5) ≤ (z_w ((M 321 4) + a1))) → P (some (0, (-1))) z_LL M)
    (b1 : (¬ ((M 321 5) ≤ (z_w ((M 321 4) + a1)))) → 0 ≤ (z_w ((M 321 4) + a1)) ∧ (z_w ((M 321 4) + a1)) < 1600)
    (l2 : (¬ ((M 321 5) ≤ (z_w ((M 321 4) + a1)))) → P (some (0, (M 322 (z_w ((M 321 4) + a1))))) z_LL M) :
    wp xs d mX10_here 0 [(2, 321), (0, a1)] [] z_LL M P := by
  refine wp_run 1 (pc' := 1) (ls' := [(2, 321), (0, a1)]) (st' := [(2, 321)]) rfl ?_
  refine wp_gf (pc' := 4) (t := 0) (v := (M 321 4)) rfl rfl (by decide) rfl rfl rfl ?_
  refine wp_run 3 (pc' := 7) (ls' := [(2, 321), (0, a1)]) (st' := [(2, 321), (0, (z_w ((M 321 4) + a1)))]) rfl ?_
  refine wp_gf (pc' := 10) (t := 0) (v := (M 321 5)) rfl rfl (by decide) rfl rfl rfl ?_
  refine wp_if2 rfl rfl rfl (fun (c1 : (M 321 5) ≤ (z_w ((M 321 4) + a1))) => ?_) (fun (c1 : ¬ ((M 321 5) ≤ (z_w ((M 321 4) + a1)))) => ?_)
  · refine wp_run 1 (pc' := 28) (ls' := [(2, 321), (0, a1)]) (st' := [(0, (-1))]) rfl ?_
    exact wp_ret rfl rfl (l1 c1)
  · refine wp_run 1 (pc' := 14) (ls' := [(2, 321), (0, a1)]) (st' := [(2, 321)]) rfl ?_
    refine wp_gf (pc' := 17) (t := 2) (v := 322) rfl rfl (by decide) rfl rfl (fx_321_0 hF) ?_
    refine wp_run 1 (pc' := 18) (ls' := [(2, 321), (0, a1)]) (st' := [(2, 321), (2, 322)]) rfl ?_
    refine wp_gf (pc' := 21) (t := 0) (v := (M 321 4)) rfl rfl (by decide) rfl rfl rfl ?_
    refine wp_run 2 (pc' := 23) (ls' := [(2, 321), (0, a1)]) (st' := [(0, (z_w ((M 321 4) + a1))), (2, 322)]) rfl ?_
    refine wp_iald (pc' := 24) (v := (M 322 (z_w ((M 321 4) + a1)))) rfl rfl rfl (b1 c1) rfl ?_
    refine wp_run 1 (pc' := 28) (ls' := [(2, 321), (0, a1)]) (st' := [(0, (M 322 (z_w ((M 321 4) + a1))))]) rfl ?_
    exact wp_ret rfl rfl (l2 c1)
set_option maxRecDepth 20000 in
theorem gX10_isWord_0 {xs : List Int} {d : Nat} {M : z_M} {P : Option z_V → z_L → z_M → Prop} {a1 : Int} 
    (l1 : ((M 321 6) ≠ 1) → P (some (0, 0)) z_LL M)
    (l2 : (¬ ((M 321 6) ≠ 1)) → ((z_lcmp (M 321 9) a1) ≠ 0) → P (some (0, 0)) z_LL M)
    (l3 : (¬ ((M 321 6) ≠ 1)) → (¬ ((z_lcmp (M 321 9) a1) ≠ 0)) → P (some (0, 1)) z_LL M) :
    wp xs d mX10_isWord 0 [(2, 321), (1, a1), (3, 0)] [] z_LL M P := by
  refine wp_run 1 (pc' := 1) (ls' := [(2, 321), (1, a1), (3, 0)]) (st' := [(2, 321)]) rfl ?_
  refine wp_gf (pc' := 4) (t := 0) (v := (M 321 6)) rfl rfl (by decide) rfl rfl rfl ?_
  refine wp_run 1 (pc' := 5) (ls' := [(2, 321), (1, a1), (3, 0)]) (st' := [(0, 1), (0, (M 321 6))]) rfl ?_
  refine wp_if2 rfl rfl rfl (fun (c1 : (M 321 6) ≠ 1) => ?_) (fun (c1 : ¬ ((M 321 6) ≠ 1)) => ?_)
  · refine wp_run 1 (pc' := 22) (ls' := [(2, 321), (1, a1), (3, 0)]) (st' := [(0, 0)]) rfl ?_
    exact wp_ret rfl rfl (l1 c1)
  · refine wp_run 1 (pc' := 9) (ls' := [(2, 321), (1, a1), (3, 0)]) (st' := [(2, 321)]) rfl ?_
    refine wp_gf (pc' := 12) (t := 1) (v := (M 321 9)) rfl rfl (by decide) rfl rfl rfl ?_
    refine wp_run 2 (pc' := 14) (ls' := [(2, 321), (1, a1), (3, 0)]) (st' := [(0, (z_lcmp (M 321 9) a1))]) rfl ?_
    refine wp_if1 rfl rfl rfl (fun (c2 : (z_lcmp (M 321 9) a1) ≠ 0) => ?_) (fun (c2 : ¬ ((z_lcmp (M 321 9) a1) ≠ 0)) => ?_)
    · refine wp_run 1 (pc' := 22) (ls' := [(2, 321), (1, a1), (3, 0)]) (st' := [(0, 0)]) rfl ?_
      exact wp_ret rfl rfl (l2 c1 c2)
    · refine wp_run 2 (pc' := 22) (ls' := [(2, 321), (1, a1), (3, 0)]) (st' := [(0, 1)]) rfl ?_
      exact wp_ret rfl rfl (l3 c1 c2)
set_option maxRecDepth 20000 in
theorem gX10_isOwn_0 {xs : List Int} {d : Nat} {M : z_M} {P : Option z_V → z_L → z_M → Prop} 
    (l1 : ((z_lcmp (M 321 9) 444251400037) = 0) → P (some (0, 1)) z_LL M)
    (l2 : (¬ ((z_lcmp (M 321 9) 444251400037) = 0)) → ((z_lcmp (M 321 9) 25209) = 0) → P (some (0, 1)) z_LL M)
    (l3 : (¬ ((z_lcmp (M 321 9) 444251400037) = 0)) → (¬ ((z_lcmp (M 321 9) 25209) = 0)) → ((z_lcmp (M 321 9) 444300879214) = 0) → P (some (0, 1)) z_LL M)
    (l4 : (¬ ((z_lcmp (M 321 9) 444251400037) = 0)) → (¬ ((z_lcmp (M 321 9) 25209) = 0)) → (¬ ((z_lcmp (M 321 9) 444300879214) = 0)) → ((z_lcmp (M 321 9) 444300620659) = 0) → P (some (0, 1)) z_LL M)
    (l5 : (¬ ((z_lcmp (M 321 9) 444251400037) = 0)) → (¬ ((z_lcmp (M 321 9) 25209) = 0)) → (¬ ((z_lcmp (M 321 9) 444300879214) = 0)) → (¬ ((z_lcmp (M 321 9) 444300620659) = 0)) → ((z_lcmp (M 321 9) 439905903467) = 0) → P (some (0, 1)) z_LL M)
    (l6 : (¬ ((z_lcmp (M 321 9) 444251400037) = 0)) → (¬ ((z_lcmp (M 321 9) 25209) = 0)) → (¬ ((z_lcmp (M 321 9) 444300879214) = 0)) → (¬ ((z_lcmp (M 321 9) 444300620659) = 0)) → (¬ ((z_lcmp (M 321 9) 439905903467) = 0)) → ((z_lcmp (M 321 9) 422826304613) = 0) → P (some (0, 1)) z_LL M)
    (l7 : (¬ ((z_lcmp (M 321 9) 444251400037) = 0)) → (¬ ((z_lcmp (M 321 9) 25209) = 0)) → (¬ ((z_lcmp (M 321 9) 444300879214) = 0)) → (¬ ((z_lcmp (M 321 9) 444300620659) = 0)) → (¬ ((z_lcmp (M 321 9) 439905903467) = 0)) → (¬ ((z_lcmp (M 321 9) 422826304613) = 0)) → ((z_lcmp (M 321 9) 444301537133) = 0) → P (some (0, 1)) z_LL M)
    (l8 : (¬ ((z_lcmp (M 321 9) 444251400037) = 0)) → (¬ ((z_lcmp (M 321 9) 25209) = 0)) → (¬ ((z_lcmp (M 321 9) 444300879214) = 0)) → (¬ ((z_lcmp (M 321 9) 444300620659) = 0)) → (¬ ((z_lcmp (M 321 9) 439905903467) = 0)) → (¬ ((z_lcmp (M 321 9) 422826304613) = 0)) → (¬ ((z_lcmp (M 321 9) 444301537133) = 0)) → ((z_lcmp (M 321 9) 24948) = 0) → P (some (0, 1)) z_LL M)
    (l9 : (¬ ((z_lcmp (M 321 9) 444251400037) = 0)) → (¬ ((z_lcmp (M 321 9) 25209) = 0)) → (¬ ((z_lcmp (M 321 9) 444300879214) = 0)) → (¬ ((z_lcmp (M 321 9) 444300620659) = 0)) → (¬ ((z_lcmp (M 321 9) 439905903467) = 0)) → (¬ ((z_lcmp (M 321 9) 422826304613) = 0)) → (¬ ((z_lcmp (M 321 9) 444301537133) = 0)) → (¬ ((z_lcmp (M 321 9) 24948) = 0)) → ((z_lcmp (M 321 9) 1936292453) = 0) → P (some (0, 1)) z_LL M)
    (l10 : (¬ ((z_lcmp (M 321 9) 444251400037) = 0)) → (¬ ((z_lcmp (M 321 9) 25209) = 0)) → (¬ ((z_lcmp (M 321 9) 444300879214) = 0)) → (¬ ((z_lcmp (M 321 9) 444300620659) = 0)) → (¬ ((z_lcmp (M 321 9) 439905903467) = 0)) → (¬ ((z_lcmp (M 321 9) 422826304613) = 0)) → (¬ ((z_lcmp (M 321 9) 444301537133) = 0)) → (¬ ((z_lcmp (M 321 9) 24948) = 0)) → (¬ ((z_lcmp (M 321 9) 1936292453) = 0)) → ((z_lcmp (M 321 9) 512735736947) = 0) → P (some (0, 1)) z_LL M)
    (l11 : (¬ ((z_lcmp (M 321 9) 444251400037) = 0)) → (¬ ((z_lcmp (M 321 9) 25209) = 0)) → (¬ ((z_lcmp (M 321 9) 444300879214) = 0)) → (¬ ((z_lcmp (M 321 9) 444300620659) = 0)) → (¬ ((z_lcmp (M 321 9) 439905903467) = 0)) → (¬ ((z_lcmp (M 321 9) 422826304613) = 0)) → (¬ ((z_lcmp (M 321 9) 444301537133) = 0)) → (¬ ((z_lcmp (M 321 9) 24948) = 0)) → (¬ ((z_lcmp (M 321 9) 1936292453) = 0)) → (¬ ((z_lcmp (M 321 9) 512735736947) = 0)) → ((z_lcmp (M 321 9) 1717925220) = 0) → P (some (0, 1)) z_LL M)
    (l12 : (¬ ((z_lcmp (M 321 9) 444251400037) = 0)) → (¬ ((z_lcmp (M 321 9) 25209) = 0)) → (¬ ((z_lcmp (M 321 9) 444300879214) = 0)) → (¬ ((z_lcmp (M 321 9) 444300620659) = 0)) → (¬ ((z_lcmp (M 321 9) 439905903467) = 0)) → (¬ ((z_lcmp (M 321 9) 422826304613) = 0)) → (¬ ((z_lcmp (M 321 9) 444301537133) = 0)) → (¬ ((z_lcmp (M 321 9) 24948) = 0)) → (¬ ((z_lcmp (M 321 9) 1936292453) = 0)) → (¬ ((z_lcmp (M 321 9) 512735736947) = 0)) → (¬ ((z_lcmp (M 321 9) 1717925220) = 0)) → ((z_lcmp (M 321 9) 1886743660) = 0) → P (some (0, 1)) z_LL M)
    (l13 : (¬ ((z_lcmp (M 321 9) 444251400037) = 0)) → (¬ ((z_lcmp (M 321 9) 25209) = 0)) → (¬ ((z_lcmp (M 321 9) 444300879214) = 0)) → (¬ ((z_lcmp (M 321 9) 444300620659) = 0)) → (¬ ((z_lcmp (M 321 9) 439905903467) = 0)) → (¬ ((z_lcmp (M 321 9) 422826304613) = 0)) → (¬ ((z_lcmp (M 321 9) 444301537133) = 0)) → (¬ ((z_lcmp (M 321 9) 24948) = 0)) → (¬ ((z_lcmp (M 321 9) 1936292453) = 0)) → (¬ ((z_lcmp (M 321 9) 512735736947) = 0)) → (¬ ((z_lcmp (M 321 9) 1717925220) = 0)) → (¬ ((z_lcmp (M 321 9) 1886743660) = 0)) → ((z_lcmp (M 321 9) 1918986606) = 0) → P (some (0, 1)) z_LL M)
    (l14 : (¬ ((z_lcmp (M 321 9) 444251400037) = 0)) → (¬ ((z_lcmp (M 321 9) 25209) = 0)) → (¬ ((z_lcmp (M 321 9) 444300879214) = 0)) → (¬ ((z_lcmp (M 321 9) 444300620659) = 0)) → (¬ ((z_lcmp (M 321 9) 439905903467) = 0)) → (¬ ((z_lcmp (M 321 9) 422826304613) = 0)) → (¬ ((z_lcmp (M 321 9) 444301537133) = 0)) → (¬ ((z_lcmp (M 321 9) 24948) = 0)) → (¬ ((z_lcmp (M 321 9) 1936292453) = 0)) → (¬ ((z_lcmp (M 321 9) 512735736947) = 0)) → (¬ ((z_lcmp (M 321 9) 1717925220) = 0)) → (¬ ((z_lcmp (M 321 9) 1886743660) = 0)) → (¬ ((z_lcmp (M 321 9) 1918986606) = 0)) → ((z_lcmp (M 321 9) 28518) = 0) → P (some (0, 1)) z_LL M)
    (l15 : (¬ ((z_lcmp (M 321 9) 444251400037) = 0)) → (¬ ((z_lcmp (M 321 9) 25209) = 0)) → (¬ ((z_lcmp (M 321 9) 444300879214) = 0)) → (¬ ((z_lcmp (M 321 9) 444300620659) = 0)) → (¬ ((z_lcmp (M 321 9) 439905903467) = 0)) → (¬ ((z_lcmp (M 321 9) 422826304613) = 0)) → (¬ ((z_lcmp (M 321 9) 444301537133) = 0)) → (¬ ((z_lcmp (M 321 9) 24948) = 0)) → (¬ ((z_lcmp (M 321 9) 1936292453) = 0)) → (¬ ((z_lcmp (M 321 9) 512735736947) = 0)) → (¬ ((z_lcmp (M 321 9) 1717925220) = 0)) → (¬ ((z_lcmp (M 321 9) 1886743660) = 0)) → (¬ ((z_lcmp (M 321 9) 1918986606) = 0)) → (¬ ((z_lcmp (M 321 9) 28518) = 0)) → ((z_lcmp (M 321 9) 7311142569972230003) = 0) → P (some (0, 1)) z_LL M)
    (l16 : (¬ ((z_lcmp (M 321 9) 444251400037) = 0)) → (¬ ((z_lcmp (M 321 9) 25209) = 0)) → (¬ ((z_lcmp (M 321 9) 444300879214) = 0)) → (¬ ((z_lcmp (M 321 9) 444300620659) = 0)) → (¬ ((z_lcmp (M 321 9) 439905903467) = 0)) → (¬ ((z_lcmp (M 321 9) 422826304613) = 0)) → (¬ ((z_lcmp (M 321 9) 444301537133) = 0)) → (¬ ((z_lcmp (M 321 9) 24948) = 0)) → (¬ ((z_lcmp (M 321 9) 1936292453) = 0)) → (¬ ((z_lcmp (M 321 9) 512735736947) = 0)) → (¬ ((z_lcmp (M 321 9) 1717925220) = 0)) → (¬ ((z_lcmp (M 321 9) 1886743660) = 0)) → (¬ ((z_lcmp (M 321 9) 1918986606) = 0)) → (¬ ((z_lcmp (M 321 9) 28518) = 0)) → (¬ ((z_lcmp (M 321 9) 7311142569972230003) = 0)) → ((z_lcmp (M 321 9) 1685217655) = 0) → P (some (0, 1)) z_LL M)
    (l17 : (¬ ((z_lcmp (M 321 9) 444251400037) = 0)) → (¬ ((z_lcmp (M 321 9) 25209) = 0)) → (¬ ((z_lcmp (M 321 9) 444300879214) = 0)) → (¬ ((z_lcmp (M 321 9) 444300620659) = 0)) → (¬ ((z_lcmp (M 321 9) 439905903467) = 0)) → (¬ ((z_lcmp (M 321 9) 422826304613) = 0)) → (¬ ((z_lcmp (M 321 9) 444301537133) = 0)) → (¬ ((z_lcmp (M 321 9) 24948) = 0)) → (¬ ((z_lcmp (M 321 9) 1936292453) = 0)) → (¬ ((z_lcmp (M 321 9) 512735736947) = 0)) → (¬ ((z_lcmp (M 321 9) 1717925220) = 0)) → (¬ ((z_lcmp (M 321 9) 1886743660) = 0)) → (¬ ((z_lcmp (M 321 9) 1918986606) = 0)) → (¬ ((z_lcmp (M 321 9) 28518) = 0)) → (¬ ((z_lcmp (M 321 9) 7311142569972230003) = 0)) → (¬ ((z_lcmp (M 321 9) 1685217655) = 0)) → ((z_lcmp (M 321 9) 1935764596) = 0) → P (some (0, 1)) z_LL M)
    (l18 : (¬ ((z_lcmp (M 321 9) 444251400037) = 0)) → (¬ ((z_lcmp (M 321 9) 25209) = 0)) → (¬ ((z_lcmp (M 321 9) 444300879214) = 0)) → (¬ ((z_lcmp (M 321 9) 444300620659) = 0)) → (¬ ((z_lcmp (M 321 9) 439905903467) = 0)) → (¬ ((z_lcmp (M 321 9) 422826304613) = 0)) → (¬ ((z_lcmp (M 321 9) 444301537133) = 0)) → (¬ ((z_lcmp (M 321 9) 24948) = 0)) → (¬ ((z_lcmp (M 321 9) 1936292453) = 0)) → (¬ ((z_lcmp (M 321 9) 512735736947) = 0)) → (¬ ((z_lcmp (M 321 9) 1717925220) = 0)) → (¬ ((z_lcmp (M 321 9) 1886743660) = 0)) → (¬ ((z_lcmp (M 321 9) 1918986606) = 0)) → (¬ ((z_lcmp (M 321 9) 28518) = 0)) → (¬ ((z_lcmp (M 321 9) 7311142569972230003) = 0)) → (¬ ((z_lcmp (M 321 9) 1685217655) = 0)) → (¬ ((z_lcmp (M 321 9) 1935764596) = 0)) → ((z_lcmp (M 321 9) 122545758368371) = 0) → P (some (0, 1)) z_LL M)
    (l19 : (¬ ((z_lcmp (M 321 9) 444251400037) = 0)) → (¬ ((z_lcmp (M 321 9) 25209) = 0)) → (¬ ((z_lcmp (M 321 9) 444300879214) = 0)) → (¬ ((z_lcmp (M 321 9) 444300620659) = 0)) → (¬ ((z_lcmp (M 321 9) 439905903467) = 0)) → (¬ ((z_lcmp (M 321 9) 422826304613) = 0)) → (¬ ((z_lcmp (M 321 9) 444301537133) = 0)) → (¬ ((z_lcmp (M 321 9) 24948) = 0)) → (¬ ((z_lcmp (M 321 9) 1936292453) = 0)) → (¬ ((z_lcmp (M 321 9) 512735736947) = 0)) → (¬ ((z_lcmp (M 321 9) 1717925220) = 0)) → (¬ ((z_lcmp (M 321 9) 1886743660) = 0)) → (¬ ((z_lcmp (M 321 9) 1918986606) = 0)) → (¬ ((z_lcmp (M 321 9) 28518) = 0)) → (¬ ((z_lcmp (M 321 9) 7311142569972230003) = 0)) → (¬ ((z_lcmp (M 321 9) 1685217655) = 0)) → (¬ ((z_lcmp (M 321 9) 1935764596) = 0)) → (¬ ((z_lcmp (M 321 9) 122545758368371) = 0)) → ((z_lcmp (M 321 9) 1752132965) = 0) → P (some (0, 1)) z_LL M)
    (l20 : (¬ ((z_lcmp (M 321 9) 444251400037) = 0)) → (¬ ((z_lcmp (M 321 9) 25209) = 0)) → (¬ ((z_lcmp (M 321 9) 444300879214) = 0)) → (¬ ((z_lcmp (M 321 9) 444300620659) = 0)) → (¬ ((z_lcmp (M 321 9) 439905903467) = 0)) → (¬ ((z_lcmp (M 321 9) 422826304613) = 0)) → (¬ ((z_lcmp (M 321 9) 444301537133) = 0)) → (¬ ((z_lcmp (M 321 9) 24948) = 0)) → (¬ ((z_lcmp (M 321 9) 1936292453) = 0)) → (¬ ((z_lcmp (M 321 9) 512735736947) = 0)) → (¬ ((z_lcmp (M 321 9) 1717925220) = 0)) → (¬ ((z_lcmp (M 321 9) 1886743660) = 0)) → (¬ ((z_lcmp (M 321 9) 1918986606) = 0)) → (¬ ((z_lcmp (M 321 9) 28518) = 0)) → (¬ ((z_lcmp (M 321 9) 7311142569972230003) = 0)) → (¬ ((z_lcmp (M 321 9) 1685217655) = 0)) → (¬ ((z_lcmp (M 321 9) 1935764596) = 0)) → (¬ ((z_lcmp (M 321 9) 122545758368371) = 0)) → (¬ ((z_lcmp (M 321 9) 1752132965) = 0)) → ((z_lcmp (M 321 9) 1751478885) = 0) → P (some (0, 1)) z_LL M)
    (l21 : (¬ ((z_lcmp (M 321 9) 444251400037) = 0)) → (¬ ((z_lcmp (M 321 9) 25209) = 0)) → (¬ ((z_lcmp (M 321 9) 444300879214) = 0)) → (¬ ((z_lcmp (M 321 9) 444300620659) = 0)) → (¬ ((z_lcmp (M 321 9) 439905903467) = 0)) → (¬ ((z_lcmp (M 321 9) 422826304613) = 0)) → (¬ ((z_lcmp (M 321 9) 444301537133) = 0)) → (¬ ((z_lcmp (M 321 9) 24948) = 0)) → (¬ ((z_lcmp (M 321 9) 1936292453) = 0)) → (¬ ((z_lcmp (M 321 9) 512735736947) = 0)) → (¬ ((z_lcmp (M 321 9) 1717925220) = 0)) → (¬ ((z_lcmp (M 321 9) 1886743660) = 0)) → (¬ ((z_lcmp (M 321 9) 1918986606) = 0)) → (¬ ((z_lcmp (M 321 9) 28518) = 0)) → (¬ ((z_lcmp (M 321 9) 7311142569972230003) = 0)) → (¬ ((z_lcmp (M 321 9) 1685217655) = 0)) → (¬ ((z_lcmp (M 321 9) 1935764596) = 0)) → (¬ ((z_lcmp (M 321 9) 122545758368371) = 0)) → (¬ ((z_lcmp (M 321 9) 1752132965) = 0)) → (¬ ((z_lcmp (M 321 9) 1751478885) = 0)) → ((z_lcmp (M 321 9) 6578553) = 0) → P (some (0, 1)) z_LL M)
    (l22 : (¬ ((z_lcmp (M 321 9) 444251400037) = 0)) → (¬ ((z_lcmp (M 321 9) 25209) = 0)) → (¬ ((z_lcmp (M 321 9) 444300879214) = 0)) → (¬ ((z_lcmp (M 321 9) 444300620659) = 0)) → (¬ ((z_lcmp (M 321 9) 439905903467) = 0)) → (¬ ((z_lcmp (M 321 9) 422826304613) = 0)) → (¬ ((z_lcmp (M 321 9) 444301537133) = 0)) → (¬ ((z_lcmp (M 321 9) 24948) = 0)) → (¬ ((z_lcmp (M 321 9) 1936292453) = 0)) → (¬ ((z_lcmp (M 321 9) 512735736947) = 0)) → (¬ ((z_lcmp (M 321 9) 1717925220) = 0)) → (¬ ((z_lcmp (M 321 9) 1886743660) = 0)) → (¬ ((z_lcmp (M 321 9) 1918986606) = 0)) → (¬ ((z_lcmp (M 321 9) 28518) = 0)) → (¬ ((z_lcmp (M 321 9) 7311142569972230003) = 0)) → (¬ ((z_lcmp (M 321 9) 1685217655) = 0)) → (¬ ((z_lcmp (M 321 9) 1935764596) = 0)) → (¬ ((z_lcmp (M 321 9) 122545758368371) = 0)) → (¬ ((z_lcmp (M 321 9) 1752132965) = 0)) → (¬ ((z_lcmp (M 321 9) 1751478885) = 0)) → (¬ ((z_lcmp (M 321 9) 6578553) = 0)) → ((z_lcmp (M 321 9) 6385252) = 0) → P (some (0, 1)) z_LL M)
    (l23 : (¬ ((z_lcmp (M 321 9) 444251400037) = 0)) → (¬ ((z_lcmp (M 321 9) 25209) = 0)) → (¬ ((z_lcmp (M 321 9) 444300879214) = 0)) → (¬ ((z_lcmp (M 321 9) 444300620659) = 0)) → (¬ ((z_lcmp (M 321 9) 439905903467) = 0)) → (¬ ((z_lcmp (M 321 9) 422826304613) = 0)) → (¬ ((z_lcmp (M 321 9) 444301537133) = 0)) → (¬ ((z_lcmp (M 321 9) 24948) = 0)) → (¬ ((z_lcmp (M 321 9) 1936292453) = 0)) → (¬ ((z_lcmp (M 321 9) 512735736947) = 0)) → (¬ ((z_lcmp (M 321 9) 1717925220) = 0)) → (¬ ((z_lcmp (M 321 9) 1886743660) = 0)) → (¬ ((z_lcmp (M 321 9) 1918986606) = 0)) → (¬ ((z_lcmp (M 321 9) 28518) = 0)) → (¬ ((z_lcmp (M 321 9) 7311142569972230003) = 0)) → (¬ ((z_lcmp (M 321 9) 1685217655) = 0)) → (¬ ((z_lcmp (M 321 9) 1935764596) = 0)) → (¬ ((z_lcmp (M 321 9) 122545758368371) = 0)) → (¬ ((z_lcmp (M 321 9) 1752132965) = 0)) → (¬ ((z_lcmp (M 321 9) 1751478885) = 0)) → (¬ ((z_lcmp (M 321 9) 6578553) = 0)) → (¬ ((z_lcmp (M 321 9) 6385252) = 0)) → ((z_lcmp (M 321 9) 28530) = 0) → P (some (0, 1)) z_LL M)
    (l24 : (¬ ((z_lcmp (M 321 9) 444251400037) = 0)) → (¬ ((z_lcmp (M 321 9) 25209) = 0)) → (¬ ((z_lcmp (M 321 9) 444300879214) = 0)) → (¬ ((z_lcmp (M 321 9) 444300620659) = 0)) → (¬ ((z_lcmp (M 321 9) 439905903467) = 0)) → (¬ ((z_lcmp (M 321 9) 422826304613) = 0)) → (¬ ((z_lcmp (M 321 9) 444301537133) = 0)) → (¬ ((z_lcmp (M 321 9) 24948) = 0)) → (¬ ((z_lcmp (M 321 9) 1936292453) = 0)) → (¬ ((z_lcmp (M 321 9) 512735736947) = 0)) → (¬ ((z_lcmp (M 321 9) 1717925220) = 0)) → (¬ ((z_lcmp (M 321 9) 1886743660) = 0)) → (¬ ((z_lcmp (M 321 9) 1918986606) = 0)) → (¬ ((z_lcmp (M 321 9) 28518) = 0)) → (¬ ((z_lcmp (M 321 9) 7311142569972230003) = 0)) → (¬ ((z_lcmp (M 321 9) 1685217655) = 0)) → (¬ ((z_lcmp (M 321 9) 1935764596) = 0)) → (¬ ((z_lcmp (M 321 9) 122545758368371) = 0)) → (¬ ((z_lcmp (M 321 9) 1752132965) = 0)) → (¬ ((z_lcmp (M 321 9) 1751478885) = 0)) → (¬ ((z_lcmp (M 321 9) 6578553) = 0)) → (¬ ((z_lcmp (M 321 9) 6385252) = 0)) → (¬ ((z_lcmp (M 321 9) 28530) = 0)) → ((z_lcmp (M 321 9) 7237492) ≠ 0) → P (some (0, 0)) z_LL M)
    (l25 : (¬ ((z_lcmp (M 321 9) 444251400037) = 0)) → (¬ ((z_lcmp (M 321 9) 25209) = 0)) → (¬ ((z_lcmp (M 321 9) 444300879214) = 0)) → (¬ ((z_lcmp (M 321 9) 444300620659) = 0)) → (¬ ((z_lcmp (M 321 9) 439905903467) = 0)) → (¬ ((z_lcmp (M 321 9) 422826304613) = 0)) → (¬ ((z_lcmp (M 321 9) 444301537133) = 0)) → (¬ ((z_lcmp (M 321 9) 24948) = 0)) → (¬ ((z_lcmp (M 321 9) 1936292453) = 0)) → (¬ ((z_lcmp (M 321 9) 512735736947) = 0)) → (¬ ((z_lcmp (M 321 9) 1717925220) = 0)) → (¬ ((z_lcmp (M 321 9) 1886743660) = 0)) → (¬ ((z_lcmp (M 321 9) 1918986606) = 0)) → (¬ ((z_lcmp (M 321 9) 28518) = 0)) → (¬ ((z_lcmp (M 321 9) 7311142569972230003) = 0)) → (¬ ((z_lcmp (M 321 9) 1685217655) = 0)) → (¬ ((z_lcmp (M 321 9) 1935764596) = 0)) → (¬ ((z_lcmp (M 321 9) 122545758368371) = 0)) → (¬ ((z_lcmp (M 321 9) 1752132965) = 0)) → (¬ ((z_lcmp (M 321 9) 1751478885) = 0)) → (¬ ((z_lcmp (M 321 9) 6578553) = 0)) → (¬ ((z_lcmp (M 321 9) 6385252) = 0)) → (¬ ((z_lcmp (M 321 9) 28530) = 0)) → (¬ ((z_lcmp (M 321 9) 7237492) ≠ 0)) → P (some (0, 1)) z_LL M) :
    wp xs d mX10_isOwn 0 [(2, 321)] [] z_LL M P := by
  refine wp_run 1 (pc' := 1) (ls' := [(2, 321)]) (st' := [(2, 321)]) rfl ?_
  refine wp_gf (pc' := 4) (t := 1) (v := (M 321 9)) rfl rfl (by decide) rfl rfl rfl ?_
  refine wp_run 2 (pc' := 8) (ls' := [(2, 321)]) (st' := [(0, (z_lcmp (M 321 9) 444251400037))]) rfl ?_
  refine wp_if1 rfl rfl rfl (fun (c1 : (z_lcmp (M 321 9) 444251400037) = 0) => ?_) (fun (c1 : ¬ ((z_lcmp (M 321 9) 444251400037) = 0)) => ?_)
  · refine wp_run 2 (pc' := 269) (ls' := [(2, 321)]) (st' := [(0, 1)]) rfl ?_
    exact wp_ret rfl rfl (l1 c1)
  · refine wp_run 1 (pc' := 12) (ls' := [(2, 321)]) (st' := [(2, 321)]) rfl ?_
    refine wp_gf (pc' := 15) (t := 1) (v := (M 321 9)) rfl rfl (by decide) rfl rfl rfl ?_
    refine wp_run 2 (pc' := 19) (ls' := [(2, 321)]) (st' := [(0, (z_lcmp (M 321 9) 25209))]) rfl ?_
    refine wp_if1 rfl rfl rfl (fun (c2 : (z_lcmp (M 321 9) 25209) = 0) => ?_) (fun (c2 : ¬ ((z_lcmp (M 321 9) 25209) = 0)) => ?_)
    · refine wp_run 2 (pc' := 269) (ls' := [(2, 321)]) (st' := [(0, 1)]) rfl ?_
      exact wp_ret rfl rfl (l2 c1 c2)
    · refine wp_run 1 (pc' := 23) (ls' := [(2, 321)]) (st' := [(2, 321)]) rfl ?_
      refine wp_gf (pc' := 26) (t := 1) (v := (M 321 9)) rfl rfl (by decide) rfl rfl rfl ?_
      refine wp_run 2 (pc' := 30) (ls' := [(2, 321)]) (st' := [(0, (z_lcmp (M 321 9) 444300879214))]) rfl ?_
      refine wp_if1 rfl rfl rfl (fun (c3 : (z_lcmp (M 321 9) 444300879214) = 0) => ?_) (fun (c3 : ¬ ((z_lcmp (M 321 9) 444300879214) = 0)) => ?_)
      · refine wp_run 2 (pc' := 269) (ls' := [(2, 321)]) (st' := [(0, 1)]) rfl ?_
        exact wp_ret rfl rfl (l3 c1 c2 c3)
      · refine wp_run 1 (pc' := 34) (ls' := [(2, 321)]) (st' := [(2, 321)]) rfl ?_
        refine wp_gf (pc' := 37) (t := 1) (v := (M 321 9)) rfl rfl (by decide) rfl rfl rfl ?_
        refine wp_run 2 (pc' := 41) (ls' := [(2, 321)]) (st' := [(0, (z_lcmp (M 321 9) 444300620659))]) rfl ?_
        refine wp_if1 rfl rfl rfl (fun (c4 : (z_lcmp (M 321 9) 444300620659) = 0) => ?_) (fun (c4 : ¬ ((z_lcmp (M 321 9) 444300620659) = 0)) => ?_)
        · refine wp_run 2 (pc' := 269) (ls' := [(2, 321)]) (st' := [(0, 1)]) rfl ?_
          exact wp_ret rfl rfl (l4 c1 c2 c3 c4)
        · refine wp_run 1 (pc' := 45) (ls' := [(2, 321)]) (st' := [(2, 321)]) rfl ?_
          refine wp_gf (pc' := 48) (t := 1) (v := (M 321 9)) rfl rfl (by decide) rfl rfl rfl ?_
          refine wp_run 2 (pc' := 52) (ls' := [(2, 321)]) (st' := [(0, (z_lcmp (M 321 9) 439905903467))]) rfl ?_
          refine wp_if1 rfl rfl rfl (fun (c5 : (z_lcmp (M 321 9) 439905903467) = 0) => ?_) (fun (c5 : ¬ ((z_lcmp (M 321 9) 439905903467) = 0)) => ?_)
          · refine wp_run 2 (pc' := 269) (ls' := [(2, 321)]) (st' := [(0, 1)]) rfl ?_
            exact wp_ret rfl rfl (l5 c1 c2 c3 c4 c5)
          · refine wp_run 1 (pc' := 56) (ls' := [(2, 321)]) (st' := [(2, 321)]) rfl ?_
            refine wp_gf (pc' := 59) (t := 1) (v := (M 321 9)) rfl rfl (by decide) rfl rfl rfl ?_
            refine wp_run 2 (pc' := 63) (ls' := [(2, 321)]) (st' := [(0, (z_lcmp (M 321 9) 422826304613))]) rfl ?_
            refine wp_if1 rfl rfl rfl (fun (c6 : (z_lcmp (M 321 9) 422826304613) = 0) => ?_) (fun (c6 : ¬ ((z_lcmp (M 321 9) 422826304613) = 0)) => ?_)
            · refine wp_run 2 (pc' := 269) (ls' := [(2, 321)]) (st' := [(0, 1)]) rfl ?_
              exact wp_ret rfl rfl (l6 c1 c2 c3 c4 c5 c6)
            · refine wp_run 1 (pc' := 67) (ls' := [(2, 321)]) (st' := [(2, 321)]) rfl ?_
              refine wp_gf (pc' := 70) (t := 1) (v := (M 321 9)) rfl rfl (by decide) rfl rfl rfl ?_
              refine wp_run 2 (pc' := 74) (ls' := [(2, 321)]) (st' := [(0, (z_lcmp (M 321 9) 444301537133))]) rfl ?_
              refine wp_if1 rfl rfl rfl (fun (c7 : (z_lcmp (M 321 9) 444301537133) = 0) => ?_) (fun (c7 : ¬ ((z_lcmp (M 321 9) 444301537133) = 0)) => ?_)
              · refine wp_run 2 (pc' := 269) (ls' := [(2, 321)]) (st' := [(0, 1)]) rfl ?_
                exact wp_ret rfl rfl (l7 c1 c2 c3 c4 c5 c6 c7)
              · refine wp_run 1 (pc' := 78) (ls' := [(2, 321)]) (st' := [(2, 321)]) rfl ?_
                refine wp_gf (pc' := 81) (t := 1) (v := (M 321 9)) rfl rfl (by decide) rfl rfl rfl ?_
                refine wp_run 2 (pc' := 85) (ls' := [(2, 321)]) (st' := [(0, (z_lcmp (M 321 9) 24948))]) rfl ?_
                refine wp_if1 rfl rfl rfl (fun (c8 : (z_lcmp (M 321 9) 24948) = 0) => ?_) (fun (c8 : ¬ ((z_lcmp (M 321 9) 24948) = 0)) => ?_)
                · refine wp_run 2 (pc' := 269) (ls' := [(2, 321)]) (st' := [(0, 1)]) rfl ?_
                  exact wp_ret rfl rfl (l8 c1 c2 c3 c4 c5 c6 c7 c8)
                · refine wp_run 1 (pc' := 89) (ls' := [(2, 321)]) (st' := [(2, 321)]) rfl ?_
                  refine wp_gf (pc' := 92) (t := 1) (v := (M 321 9)) rfl rfl (by decide) rfl rfl rfl ?_
                  refine wp_run 2 (pc' := 96) (ls' := [(2, 321)]) (st' := [(0, (z_lcmp (M 321 9) 1936292453))]) rfl ?_
                  refine wp_if1 rfl rfl rfl (fun (c9 : (z_lcmp (M 321 9) 1936292453) = 0) => ?_) (fun (c9 : ¬ ((z_lcmp (M 321 9) 1936292453) = 0)) => ?_)
                  · refine wp_run 2 (pc' := 269) (ls' := [(2, 321)]) (st' := [(0, 1)]) rfl ?_
                    exact wp_ret rfl rfl (l9 c1 c2 c3 c4 c5 c6 c7 c8 c9)
                  · refine wp_run 1 (pc' := 100) (ls' := [(2, 321)]) (st' := [(2, 321)]) rfl ?_
                    refine wp_gf (pc' := 103) (t := 1) (v := (M 321 9)) rfl rfl (by decide) rfl rfl rfl ?_
                    refine wp_run 2 (pc' := 107) (ls' := [(2, 321)]) (st' := [(0, (z_lcmp (M 321 9) 512735736947))]) rfl ?_
                    refine wp_if1 rfl rfl rfl (fun (c10 : (z_lcmp (M 321 9) 512735736947) = 0) => ?_) (fun (c10 : ¬ ((z_lcmp (M 321 9) 512735736947) = 0)) => ?_)
                    · refine wp_run 2 (pc' := 269) (ls' := [(2, 321)]) (st' := [(0, 1)]) rfl ?_
                      exact wp_ret rfl rfl (l10 c1 c2 c3 c4 c5 c6 c7 c8 c9 c10)
                    · refine wp_run 1 (pc' := 111) (ls' := [(2, 321)]) (st' := [(2, 321)]) rfl ?_
                      refine wp_gf (pc' := 114) (t := 1) (v := (M 321 9)) rfl rfl (by decide) rfl rfl rfl ?_
                      refine wp_run 2 (pc' := 118) (ls' := [(2, 321)]) (st' := [(0, (z_lcmp (M 321 9) 1717925220))]) rfl ?_
                      refine wp_if1 rfl rfl rfl (fun (c11 : (z_lcmp (M 321 9) 1717925220) = 0) => ?_) (fun (c11 : ¬ ((z_lcmp (M 321 9) 1717925220) = 0)) => ?_)
                      · refine wp_run 2 (pc' := 269) (ls' := [(2, 321)]) (st' := [(0, 1)]) rfl ?_
                        exact wp_ret rfl rfl (l11 c1 c2 c3 c4 c5 c6 c7 c8 c9 c10 c11)
                      · refine wp_run 1 (pc' := 122) (ls' := [(2, 321)]) (st' := [(2, 321)]) rfl ?_
                        refine wp_gf (pc' := 125) (t := 1) (v := (M 321 9)) rfl rfl (by decide) rfl rfl rfl ?_
                        refine wp_run 2 (pc' := 129) (ls' := [(2, 321)]) (st' := [(0, (z_lcmp (M 321 9) 1886743660))]) rfl ?_
                        refine wp_if1 rfl rfl rfl (fun (c12 : (z_lcmp (M 321 9) 1886743660) = 0) => ?_) (fun (c12 : ¬ ((z_lcmp (M 321 9) 1886743660) = 0)) => ?_)
                        · refine wp_run 2 (pc' := 269) (ls' := [(2, 321)]) (st' := [(0, 1)]) rfl ?_
                          exact wp_ret rfl rfl (l12 c1 c2 c3 c4 c5 c6 c7 c8 c9 c10 c11 c12)
                        · refine wp_run 1 (pc' := 133) (ls' := [(2, 321)]) (st' := [(2, 321)]) rfl ?_
                          refine wp_gf (pc' := 136) (t := 1) (v := (M 321 9)) rfl rfl (by decide) rfl rfl rfl ?_
                          refine wp_run 2 (pc' := 140) (ls' := [(2, 321)]) (st' := [(0, (z_lcmp (M 321 9) 1918986606))]) rfl ?_
                          refine wp_if1 rfl rfl rfl (fun (c13 : (z_lcmp (M 321 9) 1918986606) = 0) => ?_) (fun (c13 : ¬ ((z_lcmp (M 321 9) 1918986606) = 0)) => ?_)
                          · refine wp_run 2 (pc' := 269) (ls' := [(2, 321)]) (st' := [(0, 1)]) rfl ?_
                            exact wp_ret rfl rfl (l13 c1 c2 c3 c4 c5 c6 c7 c8 c9 c10 c11 c12 c13)
                          · refine wp_run 1 (pc' := 144) (ls' := [(2, 321)]) (st' := [(2, 321)]) rfl ?_
                            refine wp_gf (pc' := 147) (t := 1) (v := (M 321 9)) rfl rfl (by decide) rfl rfl rfl ?_
                            refine wp_run 2 (pc' := 151) (ls' := [(2, 321)]) (st' := [(0, (z_lcmp (M 321 9) 28518))]) rfl ?_
                            refine wp_if1 rfl rfl rfl (fun (c14 : (z_lcmp (M 321 9) 28518) = 0) => ?_) (fun (c14 : ¬ ((z_lcmp (M 321 9) 28518) = 0)) => ?_)
                            · refine wp_run 2 (pc' := 269) (ls' := [(2, 321)]) (st' := [(0, 1)]) rfl ?_
                              exact wp_ret rfl rfl (l14 c1 c2 c3 c4 c5 c6 c7 c8 c9 c10 c11 c12 c13 c14)
                            · refine wp_run 1 (pc' := 155) (ls' := [(2, 321)]) (st' := [(2, 321)]) rfl ?_
                              refine wp_gf (pc' := 158) (t := 1) (v := (M 321 9)) rfl rfl (by decide) rfl rfl rfl ?_
                              refine wp_run 2 (pc' := 162) (ls' := [(2, 321)]) (st' := [(0, (z_lcmp (M 321 9) 7311142569972230003))]) rfl ?_
                              refine wp_if1 rfl rfl rfl (fun (c15 : (z_lcmp (M 321 9) 7311142569972230003) = 0) => ?_) (fun (c15 : ¬ ((z_lcmp (M 321 9) 7311142569972230003) = 0)) => ?_)
                              · refine wp_run 2 (pc' := 269) (ls' := [(2, 321)]) (st' := [(0, 1)]) rfl ?_
                                exact wp_ret rfl rfl (l15 c1 c2 c3 c4 c5 c6 c7 c8 c9 c10 c11 c12 c13 c14 c15)
                              · refine wp_run 1 (pc' := 166) (ls' := [(2, 321)]) (st' := [(2, 321)]) rfl ?_
                                refine wp_gf (pc' := 169) (t := 1) (v := (M 321 9)) rfl rfl (by decide) rfl rfl rfl ?_
                                refine wp_run 2 (pc' := 173) (ls' := [(2, 321)]) (st' := [(0, (z_lcmp (M 321 9) 1685217655))]) rfl ?_
                                refine wp_if1 rfl rfl rfl (fun (c16 : (z_lcmp (M 321 9) 1685217655) = 0) => ?_) (fun (c16 : ¬ ((z_lcmp (M 321 9) 1685217655) = 0)) => ?_)
                                · refine wp_run 2 (pc' := 269) (ls' := [(2, 321)]) (st' := [(0, 1)]) rfl ?_
                                  exact wp_ret rfl rfl (l16 c1 c2 c3 c4 c5 c6 c7 c8 c9 c10 c11 c12 c13 c14 c15 c16)
                                · refine wp_run 1 (pc' := 177) (ls' := [(2, 321)]) (st' := [(2, 321)]) rfl ?_
                                  refine wp_gf (pc' := 180) (t := 1) (v := (M 321 9)) rfl rfl (by decide) rfl rfl rfl ?_
                                  refine wp_run 2 (pc' := 184) (ls' := [(2, 321)]) (st' := [(0, (z_lcmp (M 321 9) 1935764596))]) rfl ?_
                                  refine wp_if1 rfl rfl rfl (fun (c17 : (z_lcmp (M 321 9) 1935764596) = 0) => ?_) (fun (c17 : ¬ ((z_lcmp (M 321 9) 1935764596) = 0)) => ?_)
                                  · refine wp_run 2 (pc' := 269) (ls' := [(2, 321)]) (st' := [(0, 1)]) rfl ?_
                                    exact wp_ret rfl rfl (l17 c1 c2 c3 c4 c5 c6 c7 c8 c9 c10 c11 c12 c13 c14 c15 c16 c17)
                                  · refine wp_run 1 (pc' := 188) (ls' := [(2, 321)]) (st' := [(2, 321)]) rfl ?_
                                    refine wp_gf (pc' := 191) (t := 1) (v := (M 321 9)) rfl rfl (by decide) rfl rfl rfl ?_
                                    refine wp_run 2 (pc' := 195) (ls' := [(2, 321)]) (st' := [(0, (z_lcmp (M 321 9) 122545758368371))]) rfl ?_
                                    refine wp_if1 rfl rfl rfl (fun (c18 : (z_lcmp (M 321 9) 122545758368371) = 0) => ?_) (fun (c18 : ¬ ((z_lcmp (M 321 9) 122545758368371) = 0)) => ?_)
                                    · refine wp_run 2 (pc' := 269) (ls' := [(2, 321)]) (st' := [(0, 1)]) rfl ?_
                                      exact wp_ret rfl rfl (l18 c1 c2 c3 c4 c5 c6 c7 c8 c9 c10 c11 c12 c13 c14 c15 c16 c17 c18)
                                    · refine wp_run 1 (pc' := 199) (ls' := [(2, 321)]) (st' := [(2, 321)]) rfl ?_
                                      refine wp_gf (pc' := 202) (t := 1) (v := (M 321 9)) rfl rfl (by decide) rfl rfl rfl ?_
                                      refine wp_run 2 (pc' := 206) (ls' := [(2, 321)]) (st' := [(0, (z_lcmp (M 321 9) 1752132965))]) rfl ?_
                                      refine wp_if1 rfl rfl rfl (fun (c19 : (z_lcmp (M 321 9) 1752132965) = 0) => ?_) (fun (c19 : ¬ ((z_lcmp (M 321 9) 1752132965) = 0)) => ?_)
                                      · refine wp_run 2 (pc' := 269) (ls' := [(2, 321)]) (st' := [(0, 1)]) rfl ?_
                                        exact wp_ret rfl rfl (l19 c1 c2 c3 c4 c5 c6 c7 c8 c9 c10 c11 c12 c13 c14 c15 c16 c17 c18 c19)
                                      · refine wp_run 1 (pc' := 210) (ls' := [(2, 321)]) (st' := [(2, 321)]) rfl ?_
                                        refine wp_gf (pc' := 213) (t := 1) (v := (M 321 9)) rfl rfl (by decide) rfl rfl rfl ?_
                                        refine wp_run 2 (pc' := 217) (ls' := [(2, 321)]) (st' := [(0, (z_lcmp (M 321 9) 1751478885))]) rfl ?_
                                        refine wp_if1 rfl rfl rfl (fun (c20 : (z_lcmp (M 321 9) 1751478885) = 0) => ?_) (fun (c20 : ¬ ((z_lcmp (M 321 9) 1751478885) = 0)) => ?_)
                                        · refine wp_run 2 (pc' := 269) (ls' := [(2, 321)]) (st' := [(0, 1)]) rfl ?_
                                          exact wp_ret rfl rfl (l20 c1 c2 c3 c4 c5 c6 c7 c8 c9 c10 c11 c12 c13 c14 c15 c16 c17 c18 c19 c20)
                                        · refine wp_run 1 (pc' := 221) (ls' := [(2, 321)]) (st' := [(2, 321)]) rfl ?_
                                          refine wp_gf (pc' := 224) (t := 1) (v := (M 321 9)) rfl rfl (by decide) rfl rfl rfl ?_
                                          refine wp_run 2 (pc' := 228) (ls' := [(2, 321)]) (st' := [(0, (z_lcmp (M 321 9) 6578553))]) rfl ?_
                                          refine wp_if1 rfl rfl rfl (fun (c21 : (z_lcmp (M 321 9) 6578553) = 0) => ?_) (fun (c21 : ¬ ((z_lcmp (M 321 9) 6578553) = 0)) => ?_)
                                          · refine wp_run 2 (pc' := 269) (ls' := [(2, 321)]) (st' := [(0, 1)]) rfl ?_
                                            exact wp_ret rfl rfl (l21 c1 c2 c3 c4 c5 c6 c7 c8 c9 c10 c11 c12 c13 c14 c15 c16 c17 c18 c19 c20 c21)
                                          · refine wp_run 1 (pc' := 232) (ls' := [(2, 321)]) (st' := [(2, 321)]) rfl ?_
                                            refine wp_gf (pc' := 235) (t := 1) (v := (M 321 9)) rfl rfl (by decide) rfl rfl rfl ?_
                                            refine wp_run 2 (pc' := 239) (ls' := [(2, 321)]) (st' := [(0, (z_lcmp (M 321 9) 6385252))]) rfl ?_
                                            refine wp_if1 rfl rfl rfl (fun (c22 : (z_lcmp (M 321 9) 6385252) = 0) => ?_) (fun (c22 : ¬ ((z_lcmp (M 321 9) 6385252) = 0)) => ?_)
                                            · refine wp_run 2 (pc' := 269) (ls' := [(2, 321)]) (st' := [(0, 1)]) rfl ?_
                                              exact wp_ret rfl rfl (l22 c1 c2 c3 c4 c5 c6 c7 c8 c9 c10 c11 c12 c13 c14 c15 c16 c17 c18 c19 c20 c21 c22)
                                            · refine wp_run 1 (pc' := 243) (ls' := [(2, 321)]) (st' := [(2, 321)]) rfl ?_
                                              refine wp_gf (pc' := 246) (t := 1) (v := (M 321 9)) rfl rfl (by decide) rfl rfl rfl ?_
                                              refine wp_run 2 (pc' := 250) (ls' := [(2, 321)]) (st' := [(0, (z_lcmp (M 321 9) 28530))]) rfl ?_
                                              refine wp_if1 rfl rfl rfl (fun (c23 : (z_lcmp (M 321 9) 28530) = 0) => ?_) (fun (c23 : ¬ ((z_lcmp (M 321 9) 28530) = 0)) => ?_)
                                              · refine wp_run 2 (pc' := 269) (ls' := [(2, 321)]) (st' := [(0, 1)]) rfl ?_
                                                exact wp_ret rfl rfl (l23 c1 c2 c3 c4 c5 c6 c7 c8 c9 c10 c11 c12 c13 c14 c15 c16 c17 c18 c19 c20 c21 c22 c23)
                                              · refine wp_run 1 (pc' := 254) (ls' := [(2, 321)]) (st' := [(2, 321)]) rfl ?_
                                                refine wp_gf (pc' := 257) (t := 1) (v := (M 321 9)) rfl rfl (by decide) rfl rfl rfl ?_
                                                refine wp_run 2 (pc' := 261) (ls' := [(2, 321)]) (st' := [(0, (z_lcmp (M 321 9) 7237492))]) rfl ?_
                                                refine wp_if1 rfl rfl rfl (fun (c24 : (z_lcmp (M 321 9) 7237492) ≠ 0) => ?_) (fun (c24 : ¬ ((z_lcmp (M 321 9) 7237492) ≠ 0)) => ?_)
                                                · refine wp_run 1 (pc' := 269) (ls' := [(2, 321)]) (st' := [(0, 0)]) rfl ?_
                                                  exact wp_ret rfl rfl (l24 c1 c2 c3 c4 c5 c6 c7 c8 c9 c10 c11 c12 c13 c14 c15 c16 c17 c18 c19 c20 c21 c22 c23 c24)
                                                · refine wp_run 2 (pc' := 269) (ls' := [(2, 321)]) (st' := [(0, 1)]) rfl ?_
                                                  exact wp_ret rfl rfl (l25 c1 c2 c3 c4 c5 c6 c7 c8 c9 c10 c11 c12 c13 c14 c15 c16 c17 c18 c19 c20 c21 c22 c23 c24)
theorem s_X7_isBlank {xs : List Int} {d : Nat} {M : z_M} {P : Option z_V → z_L → z_M → Prop} {x : Int} (k : P (some (0, z_b (x = 32 ∨ x = 10))) z_LL M) : wp xs d mX7_isBlank 0 [(0, x)] [] z_LL M P := by
  refine gX7_isBlank_0 (fun c => ?_) (fun c c2 => ?_) (fun c c2 => ?_)
  · rwa [z_b_t (by omega)] at k
  · rwa [z_b_f (by omega)] at k
  · rwa [z_b_t (by omega)] at k
theorem s_X7_isLetter {xs : List Int} {d : Nat} {M : z_M} {P : Option z_V → z_L → z_M → Prop} {x : Int} (k : P (some (0, z_b (97 ≤ x ∧ x ≤ 122))) z_LL M) : wp xs d mX7_isLetter 0 [(0, x)] [] z_LL M P := by
  refine gX7_isLetter_0 (fun c => ?_) (fun c c2 => ?_) (fun c c2 => ?_)
  · rwa [z_b_f (by omega)] at k
  · rwa [z_b_f (by omega)] at k
  · rwa [z_b_t (by omega)] at k
theorem s_X7_isDigit {xs : List Int} {d : Nat} {M : z_M} {P : Option z_V → z_L → z_M → Prop} {x : Int} (k : P (some (0, z_b (48 ≤ x ∧ x ≤ 57))) z_LL M) : wp xs d mX7_isDigit 0 [(0, x)] [] z_LL M P := by
  refine gX7_isDigit_0 (fun c => ?_) (fun c c2 => ?_) (fun c c2 => ?_)
  · rwa [z_b_f (by omega)] at k
  · rwa [z_b_f (by omega)] at k
  · rwa [z_b_t (by omega)] at k
theorem s_X10_isLetter {xs : List Int} {d : Nat} {M : z_M} {P : Option z_V → z_L → z_M → Prop} {x : Int} (k : P (some (0, z_b (97 ≤ x ∧ x ≤ 122))) z_LL M) : wp xs d mX10_isLetter 0 [(0, x)] [] z_LL M P := by
  refine gX10_isLetter_0 (fun c => ?_) (fun c c2 => ?_) (fun c c2 => ?_)
  · rwa [z_b_f (by omega)] at k
  · rwa [z_b_f (by omega)] at k
  · rwa [z_b_t (by omega)] at k
theorem s_X10_isDigit {xs : List Int} {d : Nat} {M : z_M} {P : Option z_V → z_L → z_M → Prop} {x : Int} (k : P (some (0, z_b (48 ≤ x ∧ x ≤ 57))) z_LL M) : wp xs d mX10_isDigit 0 [(0, x)] [] z_LL M P := by
  refine gX10_isDigit_0 (fun c => ?_) (fun c c2 => ?_) (fun c c2 => ?_)
  · rwa [z_b_f (by omega)] at k
  · rwa [z_b_f (by omega)] at k
  · rwa [z_b_t (by omega)] at k
theorem s_X10_isSign {xs : List Int} {d : Nat} {M : z_M} {P : Option z_V → z_L → z_M → Prop} {x : Int} (k : P (some (0, z_b (z_isg x))) z_LL M) : wp xs d mX10_isSign 0 [(0, x)] [] z_LL M P := by
  have t : z_isg x → P (some (0, 1)) z_LL M := fun q => by rwa [z_b_t q] at k
  have f : ¬ z_isg x → P (some (0, 0)) z_LL M := fun q => by rwa [z_b_f q] at k
  clear k
  unfold z_isg at t f
  apply gX10_isSign_0
  all_goals intros
  all_goals first | (refine t ?_; omega) | (refine f ?_; omega)
def zt_h (M : z_M) (k : Int) : Int := if M 321 4 + k < M 321 5 then M 322 (M 321 4 + k) else -1
theorem s_X10_here {xs : List Int} {d : Nat} {M : z_M} {P : Option z_V → z_L → z_M → Prop} {x : Int} (hF : z_fix M) (h : (0 ≤ M 321 4 ∧ M 321 4 ≤ 1600) ∧ (0 ≤ x ∧ x ≤ 1600) ∧ M 321 5 ≤ 1600) (k : P (some (0, zt_h M x)) z_LL M) : wp xs d mX10_here 0 [(2, 321), (0, x)] [] z_LL M P := by
  unfold zt_h at k
  have e := z_wid (x := M 321 4 + x) (by omega)
  refine gX10_here_0 hF (fun c => ?_) (fun c => ?_) (fun c => ?_)
  · rw [e] at c
    rwa [if_neg (by omega)] at k
  · rw [e] at c ⊢
    omega
  · rw [e] at c ⊢
    rwa [if_pos (by omega)] at k
theorem z_lc0 {x y : Int} : z_lcmp x y = 0 ↔ x = y := by
  unfold z_lcmp
  split
  · omega
  · split <;> omega
theorem s_X10_isWord {xs : List Int} {d : Nat} {M : z_M} {P : Option z_V → z_L → z_M → Prop} {w : Int} (k : P (some (0, z_b (M 321 6 = 1 ∧ M 321 9 = w))) z_LL M) : wp xs d mX10_isWord 0 [(2, 321), (1, w), (3, 0)] [] z_LL M P := by
  refine gX10_isWord_0 (fun c => ?_) (fun c c2 => ?_) (fun c c2 => ?_)
  · rwa [z_b_f (fun q => c q.1)] at k
  · rwa [z_b_f (fun q => c2 (z_lc0.mpr q.2))] at k
  · rwa [z_b_t ⟨Classical.byContradiction c, z_lc0.mp (Classical.byContradiction c2)⟩] at k
theorem s_X10_isOwn {xs : List Int} {d : Nat} {M : z_M} {P : Option z_V → z_L → z_M → Prop} (k : P (some (0, z_b (z_own (M 321 9)))) z_LL M) : wp xs d mX10_isOwn 0 [(2, 321)] [] z_LL M P := by
  have t : z_own (M 321 9) → P (some (0, 1)) z_LL M := fun q => by rwa [z_b_t q] at k
  have f : ¬ z_own (M 321 9) → P (some (0, 0)) z_LL M := fun q => by rwa [z_b_f q] at k
  have m : ∀ c, c ∈ z_own8 → z_lcmp (M 321 9) c = 0 → z_own (M 321 9) := fun c hc h => by
    unfold z_own
    rw [z_lc0.mp h]
    exact hc
  clear k
  apply gX10_isOwn_0
  all_goals intros
  all_goals rename_i h
  all_goals first
    | exact t (m _ (by decide) h)
    | exact t (m _ (by decide) (Classical.byContradiction h))
    | refine f (fun q => ?_)
  simp only [z_own, z_own8, List.mem_cons, List.not_mem_nil, or_false] at q
  rcases q with q | q | q | q | q | q | q | q | q | q | q | q | q | q | q | q | q | q | q | q | q | q | q | q
  all_goals
    have q := z_lc0.mpr q
    contradiction
set_option maxRecDepth 20000 in
theorem gX10_isName_0 {xs : List Int} {d : Nat} {M : z_M} {P : Option z_V → z_L → z_M → Prop} 
    (l1 : ((M 321 6) ≠ 1) → P (some (0, 0)) z_LL M)
    (l2 : (¬ ((M 321 6) ≠ 1)) → ((z_own (M 321 9))) → P (some (0, 0)) z_LL M)
    (l3 : (¬ ((M 321 6) ≠ 1)) → (¬ (z_own (M 321 9))) → P (some (0, 1)) z_LL M) :
    wp xs (d + 1) mX10_isName 0 [(2, 321)] [] z_LL M P := by
  refine wp_run 1 (pc' := 1) (ls' := [(2, 321)]) (st' := [(2, 321)]) rfl ?_
  refine wp_gf (pc' := 4) (t := 0) (v := (M 321 6)) rfl rfl (by decide) rfl rfl rfl ?_
  refine wp_run 1 (pc' := 5) (ls' := [(2, 321)]) (st' := [(0, 1), (0, (M 321 6))]) rfl ?_
  refine wp_if2 rfl rfl rfl (fun (c1 : (M 321 6) ≠ 1) => ?_) (fun (c1 : ¬ ((M 321 6) ≠ 1)) => ?_)
  · refine wp_run 1 (pc' := 20) (ls' := [(2, 321)]) (st' := [(0, 0)]) rfl ?_
    exact wp_ret rfl rfl (l1 c1)
  · refine wp_run 1 (pc' := 9) (ls' := [(2, 321)]) (st' := [(2, 321)]) rfl ?_
    refine wp_callv (pc' := 12) (as := [(2, 321)]) (rest := []) (ls1 := [(2, 321)]) rfl rfl rfl rfl rfl rfl ?_
    refine s_X10_isOwn  ?_
    show wp xs _ mX10_isName 12 [(2, 321)] [(0, (z_b (z_own (M 321 9))))] z_LL M _
    refine wp_bn rfl rfl rfl (fun (c2 : (z_own (M 321 9))) => ?_) (fun (c2 : ¬ (z_own (M 321 9))) => ?_)
    · refine wp_run 1 (pc' := 20) (ls' := [(2, 321)]) (st' := [(0, 0)]) rfl ?_
      exact wp_ret rfl rfl (l2 c1 c2)
    · refine wp_run 2 (pc' := 20) (ls' := [(2, 321)]) (st' := [(0, 1)]) rfl ?_
      exact wp_ret rfl rfl (l3 c1 c2)
theorem s_X10_isName {xs : List Int} {d : Nat} {M : z_M} {P : Option z_V → z_L → z_M → Prop} (k : P (some (0, z_b (M 321 6 = 1 ∧ ¬ z_own (M 321 9)))) z_LL M) : wp xs (d + 1) mX10_isName 0 [(2, 321)] [] z_LL M P := by
  refine gX10_isName_0 (fun c => ?_) (fun c c2 => ?_) (fun c c2 => ?_)
  · rwa [z_b_f (fun q => c q.1)] at k
  · rwa [z_b_f (fun q => q.2 c2)] at k
  · rwa [z_b_t ⟨Classical.byContradiction c, c2⟩] at k
theorem z_by_r {x lo hi : Int} (h : 0 ≤ x ∧ x < 256) (h1 : 0 ≤ lo) (h2 : hi < 128) : (lo ≤ z_by x ∧ z_by x ≤ hi) ↔ (lo ≤ x ∧ x ≤ hi) := by
  unfold z_by
  split <;> omega
theorem z_by_i {x c : Int} (h : 0 ≤ x ∧ x < 256) (h1 : 0 ≤ c ∧ c < 128) : z_by x = c ↔ x = c := by
  unfold z_by
  split <;> omega
theorem z_i2c_n : ∀ k : Nat, k < 256 → z_i2c k = k := by decide +kernel
/-- the place of a sign among the signs -/
theorem s_idx {xs : List Int} {d : Nat} {M : z_M} {P : Option z_V → z_L → z_M → Prop} {x : Int} (hx : 0 ≤ x ∧ x < 256) (k : ∀ r : Int, (r < 0 ↔ ¬ z_isg x) → P (some (0, r)) z_LL M) : wp xs (d + 3) mJ0_indexOf_0f7a4 0 [(2, -3), (0, x)] [] z_LL M P := by
  refine wp_run (pc' := 3) (ls' := [(2, -3), (0, x)]) (st' := [(0, 0), (0, x), (2, -3)]) 3 rfl ?_
  refine wp_callv (pc' := 6) (as := [(2, -3), (0, x), (0, 0)]) (rest := []) (ls1 := [(2, -3), (0, x), (0, 0)]) rfl rfl rfl rfl rfl rfl ?_
  show wp xs _ mJ0_indexOf_7cf53 0 [(2, -3), (0, x), (0, 0)] [] z_LL M _
  refine wp_run (pc' := 1) (ls' := [(2, -3), (0, x), (0, 0)]) (st' := [(2, -3)]) 1 rfl ?_
  refine wp_callv (pc' := 4) (as := [(2, -3)]) (rest := []) (ls1 := [(2, -3)]) rfl rfl rfl rfl rfl rfl ?_
  refine ⟨20, some (0, 1), z_LL, M, rfl, ?_⟩
  show wp xs _ mJ0_indexOf_7cf53 4 [(2, -3), (0, x), (0, 0)] [(0, 1)] z_LL M _
  refine wp_run (pc' := 14) (ls' := [(2, -3), (0, x), (0, 0)]) (st' := [(2, -3), (0, 0), (0, x), (2, -5)]) 6 rfl ?_
  refine wp_callv (pc' := 17) (as := [(2, -3)]) (rest := [(0, 0), (0, x), (2, -5)]) (ls1 := [(2, -3)]) rfl rfl rfl rfl rfl rfl ?_
  refine ⟨40, some (0, 11), z_LL, M, rfl, ?_⟩
  show wp xs _ mJ0_indexOf_7cf53 17 [(2, -3), (0, x), (0, 0)] [(0, 11), (0, 0), (0, x), (2, -5)] z_LL M _
  refine wp_callv (pc' := 20) (as := [(2, -5), (0, x), (0, 0), (0, 11)]) (rest := []) (ls1 := [(2, -5), (0, x), (0, 0), (0, 11)]) rfl rfl rfl rfl rfl rfl ?_
  show wp xs _ mJ1_indexOf_4cfef 0 [(2, -5), (0, x), (0, 0), (0, 11)] [] z_LL M _
  refine wp_run (pc' := 1) (ls' := [(2, -5), (0, x), (0, 0), (0, 11)]) (st' := [(0, x)]) 1 rfl ?_
  refine wp_callv (pc' := 4) (as := [(0, x)]) (rest := []) (ls1 := [(0, x)]) rfl rfl rfl rfl rfl rfl ?_
  show wp xs _ mJ1_canEncode_9a6ad 0 [(0, x)] [] z_LL M _
  refine wp_run (pc' := 1) (ls' := [(0, x)]) (st' := [(0, x)]) 1 rfl ?_
  refine wp_if1 (pc' := 4) (pt := 15) rfl rfl rfl (fun c => ?_) (fun _ => ?_)
  · have c : x < 0 := c
    omega
  refine wp_run (pc' := 8) (ls' := [(0, x)]) (st' := [(0, 255), (0, x)]) 2 rfl ?_
  refine wp_if2 (pc' := 11) (pt := 15) rfl rfl rfl (fun c => ?_) (fun _ => ?_)
  · have c : 255 < x := c
    omega
  refine wp_run (pc' := 16) (ls' := [(0, x)]) (st' := [(0, 1)]) 2 rfl ?_
  refine wp_retz rfl rfl rfl (Or.inr rfl) ?_
  show wp xs _ mJ1_indexOf_4cfef 4 [(2, -5), (0, x), (0, 0), (0, 11)] [(0, 1)] z_LL M _
  refine wp_run (pc' := 33) (ls' := [(2, -5), (0, x), (0, 0), (0, 11)]) (st' := [(0, 11), (0, 0), (0, x), (2, -5)]) 17 rfl ?_
  refine wp_callv (pc' := 36) (as := [(2, -5), (0, x), (0, 0), (0, 11)]) (rest := []) (ls1 := [(2, -5), (0, x), (0, 0), (0, 11), (3, 0), (3, 0)]) rfl rfl rfl rfl rfl rfl ?_
  show wp xs _ mJ1_indexOfChar_4cfef 0 [(2, -5), (0, x), (0, 0), (0, 11), (3, 0), (3, 0)] [] z_LL M _
  refine wp_run (pc' := 7) (ls' := [(2, -5), (0, x), (0, 0), (0, 11), (0, z_i2b x), (0, 0)]) (st' := []) 5 rfl ?_
  have fin : ∀ r : Int, (r < 0 ↔ ¬ z_isg x) → wp xs (d + 1) mJ1_indexOf_4cfef 36 [(2, -5), (0, x), (0, 0), (0, 11)] [(0, r)] z_LL M (fun r1 L1 M1 => wp xs (d + 2) mJ0_indexOf_7cf53 20 [(2, -3), (0, x), (0, 0)] (z_ol r1 ++ []) L1 M1 (fun r1 L1 M1 => wp xs (d + 3) mJ0_indexOf_0f7a4 6 [(2, -3), (0, x)] (z_ol r1 ++ []) L1 M1 P)) := fun r hr => by
    refine wp_ret rfl rfl ?_
    show wp xs _ mJ0_indexOf_7cf53 20 [(2, -3), (0, x), (0, 0)] [(0, r)] z_LL M _
    refine wp_run (pc' := 36) (ls' := [(2, -3), (0, x), (0, 0)]) (st' := [(0, r)]) 1 rfl ?_
    refine wp_ret rfl rfl ?_
    show wp xs _ mJ0_indexOf_0f7a4 6 [(2, -3), (0, x)] [(0, r)] z_LL M _
    exact wp_ret rfl rfl (k r hr)
  have ib := z_i2b_e (y := x)
  refine z_loop (W := fun i => (∀ j : Nat, j < i → x ≠ z_tx5.getD j 0) → wp xs d mJ1_indexOfChar_4cfef 7 [(2, -5), (0, x), (0, 0), (0, 11), (0, z_i2b x), (0, (i : Int))] [] z_LL M (fun r1 L1 M1 => wp xs (d + 1) mJ1_indexOf_4cfef 36 [(2, -5), (0, x), (0, 0), (0, 11)] (z_ol r1 ++ []) L1 M1 (fun r1 L1 M1 => wp xs (d + 2) mJ0_indexOf_7cf53 20 [(2, -3), (0, x), (0, 0)] (z_ol r1 ++ []) L1 M1 (fun r1 L1 M1 => wp xs (d + 3) mJ0_indexOf_0f7a4 6 [(2, -3), (0, x)] (z_ol r1 ++ []) L1 M1 P)))) 11 (fun i hi ih hv => ?_) (fun j q => absurd q (by omega))
  refine wp_run (pc' := 10) (ls' := [(2, -5), (0, x), (0, 0), (0, 11), (0, z_i2b x), (0, (i : Int))]) (st' := [(0, 11), (0, (i : Int))]) 2 rfl ?_
  refine wp_if2 (pc' := 13) (pt := 31) rfl rfl rfl (fun c => ?_) (fun c => ?_)
  · have c : (11 : Int) ≤ i := c
    obtain rfl : i = 11 := by omega
    refine wp_run (pc' := 32) (ls' := [(2, -5), (0, x), (0, 0), (0, 11), (0, z_i2b x), (0, ((11 : Nat) : Int))]) (st' := [(0, -1)]) 1 rfl ?_
    refine wp_ret rfl rfl (fin (-1) ⟨fun _ q => ?_, fun _ => by omega⟩)
    have h0 : x ≠ 59 := hv 0 (by omega)
    have h1 : x ≠ 40 := hv 1 (by omega)
    have h2 : x ≠ 41 := hv 2 (by omega)
    have h3 : x ≠ 60 := hv 3 (by omega)
    have h4 : x ≠ 62 := hv 4 (by omega)
    have h5 : x ≠ 61 := hv 5 (by omega)
    have h6 : x ≠ 43 := hv 6 (by omega)
    have h7 : x ≠ 45 := hv 7 (by omega)
    have h8 : x ≠ 42 := hv 8 (by omega)
    have h9 : x ≠ 47 := hv 9 (by omega)
    have h10 : x ≠ 37 := hv 10 (by omega)
    unfold z_isg at q
    omega
  · have c : ¬ (11 : Int) ≤ i := c
    have ih := ih (by omega)
    have stp : ∀ s : Int, z_isg s → z_tx5.getD i 0 = s → wp xs d mJ1_indexOfChar_4cfef 19 [(2, -5), (0, x), (0, 0), (0, 11), (0, z_i2b x), (0, (i : Int))] [(0, z_i2b x), (0, s)] z_LL M (fun r1 L1 M1 => wp xs (d + 1) mJ1_indexOf_4cfef 36 [(2, -5), (0, x), (0, 0), (0, 11)] (z_ol r1 ++ []) L1 M1 (fun r1 L1 M1 => wp xs (d + 2) mJ0_indexOf_7cf53 20 [(2, -3), (0, x), (0, 0)] (z_ol r1 ++ []) L1 M1 (fun r1 L1 M1 => wp xs (d + 3) mJ0_indexOf_0f7a4 6 [(2, -3), (0, x)] (z_ol r1 ++ []) L1 M1 P))) := fun s hs es => by
      refine wp_if2 (pc' := 22) (pt := 25) rfl rfl rfl (fun c2 => ?_) (fun c2 => ?_)
      · have c2 : s ≠ z_i2b x := c2
        refine wp_run (pc' := 7) (ls' := [(2, -5), (0, x), (0, 0), (0, 11), (0, z_i2b x), (0, z_w ((i : Int) + 1))]) (st' := []) 2 rfl ?_
        rw [z_in1 (by omega)]
        refine ih (fun j hj => ?_)
        by_cases e : j = i
        · rw [e, es]
          unfold z_isg at hs
          omega
        · exact hv j (by omega)
      · have c2 : s = z_i2b x := Classical.byContradiction fun q => c2 q
        refine wp_run (pc' := 24) (ls' := [(2, -5), (0, x), (0, 0), (0, 11), (0, z_i2b x), (0, (i : Int))]) (st' := [(0, (i : Int))]) 1 rfl ?_
        refine wp_ret rfl rfl (fin (i : Int) ⟨fun _ => by omega, fun q => absurd ?_ q⟩)
        unfold z_isg at hs ⊢
        omega
    have hi : i = 0 ∨ i = 1 ∨ i = 2 ∨ i = 3 ∨ i = 4 ∨ i = 5 ∨ i = 6 ∨ i = 7 ∨ i = 8 ∨ i = 9 ∨ i = 10 := by omega
    rcases hi with rfl | rfl | rfl | rfl | rfl | rfl | rfl | rfl | rfl | rfl | rfl
    all_goals exact wp_run (pc' := 19) 4 rfl (stp _ (by unfold z_isg; decide) rfl)
