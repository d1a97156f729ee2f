/-! THE CALLS: ledges -/
def z_kno (M : z_M) (i k : Int) : Prop := ¬ k < M 299 i ∧ (M 300 i = -1 ∨ ¬ M 300 i ≤ k)
def z_knm (M : z_M) (i k : Int) : Prop := ¬ k < M 352 i ∧ (M 353 i < 0 ∨ ¬ M 353 i ≤ k)
/-- all that is known at k of day n agrees with a snapshot -/
def z_ags (M : z_M) (s : Int → Int) (n k : Int) : Prop := ∀ i : Int, 0 ≤ i → i < M 321 76 → M 349 i = n → z_knm M i k → (s (M 350 i) = M 351 i ↔ M 354 i = 1)
set_option maxRecDepth 20000 in
theorem gX6_isKnown_0 {xs : List Int} {d : Nat} {M : z_M} {P : Option z_V → z_L → z_M → Prop} {a1 : Int} {a2 : Int} (hF : z_fix M) 
    (b1 : 0 ≤ a1 ∧ a1 < 30)
    (l1 : (a2 < (M 299 a1)) → P (some (0, 0)) z_LL M)
    (l2 : (¬ (a2 < (M 299 a1))) → ((M 300 a1) = (-1)) → P (some (0, 1)) z_LL M)
    (l3 : (¬ (a2 < (M 299 a1))) → (¬ ((M 300 a1) = (-1))) → ((M 300 a1) ≤ a2) → P (some (0, 0)) z_LL M)
    (l4 : (¬ (a2 < (M 299 a1))) → (¬ ((M 300 a1) = (-1))) → (¬ ((M 300 a1) ≤ a2)) → P (some (0, 1)) z_LL M) :
    wp xs d mX6_isKnown 0 [(2, 294), (0, a1), (0, a2)] [] z_LL M P := by
  refine wp_run 1 (pc' := 1) (ls' := [(2, 294), (0, a1), (0, a2)]) (st' := [(2, 294)]) rfl ?_
  refine wp_gf (pc' := 4) (t := 2) (v := 299) rfl rfl (by decide) rfl rfl (fx_294_4 hF) ?_
  refine wp_run 1 (pc' := 5) (ls' := [(2, 294), (0, a1), (0, a2)]) (st' := [(0, a1), (2, 299)]) rfl ?_
  refine wp_iald (pc' := 6) (v := (M 299 a1)) rfl rfl rfl (b1) rfl ?_
  refine wp_run 1 (pc' := 7) (ls' := [(2, 294), (0, a1), (0, a2)]) (st' := [(0, a2), (0, (M 299 a1))]) rfl ?_
  refine wp_if2 rfl rfl rfl (fun (c1 : a2 < (M 299 a1)) => ?_) (fun (c1 : ¬ (a2 < (M 299 a1))) => ?_)
  · refine wp_run 1 (pc' := 35) (ls' := [(2, 294), (0, a1), (0, a2)]) (st' := [(0, 0)]) rfl ?_
    exact wp_ret rfl rfl (l1 c1)
  · refine wp_run 1 (pc' := 11) (ls' := [(2, 294), (0, a1), (0, a2)]) (st' := [(2, 294)]) rfl ?_
    refine wp_gf (pc' := 14) (t := 2) (v := 300) rfl rfl (by decide) rfl rfl (fx_294_5 hF) ?_
    refine wp_run 1 (pc' := 15) (ls' := [(2, 294), (0, a1), (0, a2)]) (st' := [(0, a1), (2, 300)]) rfl ?_
    refine wp_iald (pc' := 16) (v := (M 300 a1)) rfl rfl rfl (b1) rfl ?_
    refine wp_run 1 (pc' := 17) (ls' := [(2, 294), (0, a1), (0, a2)]) (st' := [(0, (-1)), (0, (M 300 a1))]) rfl ?_
    refine wp_if2 rfl rfl rfl (fun (c2 : (M 300 a1) = (-1)) => ?_) (fun (c2 : ¬ ((M 300 a1) = (-1))) => ?_)
    · refine wp_run 2 (pc' := 35) (ls' := [(2, 294), (0, a1), (0, a2)]) (st' := [(0, 1)]) rfl ?_
      exact wp_ret rfl rfl (l2 c1 c2)
    · refine wp_run 1 (pc' := 21) (ls' := [(2, 294), (0, a1), (0, a2)]) (st' := [(2, 294)]) rfl ?_
      refine wp_gf (pc' := 24) (t := 2) (v := 300) rfl rfl (by decide) rfl rfl (fx_294_5 hF) ?_
      refine wp_run 1 (pc' := 25) (ls' := [(2, 294), (0, a1), (0, a2)]) (st' := [(0, a1), (2, 300)]) rfl ?_
      refine wp_iald (pc' := 26) (v := (M 300 a1)) rfl rfl rfl (b1) rfl ?_
      refine wp_run 1 (pc' := 27) (ls' := [(2, 294), (0, a1), (0, a2)]) (st' := [(0, a2), (0, (M 300 a1))]) rfl ?_
      refine wp_if2 rfl rfl rfl (fun (c3 : (M 300 a1) ≤ a2) => ?_) (fun (c3 : ¬ ((M 300 a1) ≤ a2)) => ?_)
      · refine wp_run 1 (pc' := 35) (ls' := [(2, 294), (0, a1), (0, a2)]) (st' := [(0, 0)]) rfl ?_
        exact wp_ret rfl rfl (l3 c1 c2 c3)
      · refine wp_run 2 (pc' := 35) (ls' := [(2, 294), (0, a1), (0, a2)]) (st' := [(0, 1)]) rfl ?_
        exact wp_ret rfl rfl (l4 c1 c2 c3)
theorem s_X6_isKnown {xs : List Int} {d : Nat} {M : z_M} {P : Option z_V → z_L → z_M → Prop} {i k : Int} (hF : z_fix M) (hi : 0 ≤ i ∧ i < 30) (kk : P (some (0, z_b (z_kno M i k))) z_LL M) : wp xs d mX6_isKnown 0 [(2, 294), (0, i), (0, k)] [] z_LL M P := by
  unfold z_kno at kk
  refine gX6_isKnown_0 hF hi (fun a => ?_) (fun a b => ?_) (fun a b c => ?_) (fun a b c => ?_)
  · rw [z_b_f (by omega)] at kk
    exact kk
  · rw [z_b_t (by omega)] at kk
    exact kk
  · rw [z_b_f (by omega)] at kk
    exact kk
  · rw [z_b_t (by omega)] at kk
    exact kk
set_option maxRecDepth 20000 in
theorem gX6_agree_0 {xs : List Int} {d : Nat} {M : z_M} {P : Option z_V → z_L → z_M → Prop} {a1 : Int} {a2 : Int} {a3 : Int} (ha1 : z_her M a1)
    (l1 : wp xs d mX6_agree 3 [(2, 294), (2, a1), (0, a2), (0, a3), (0, 0), (3, 0)] [] z_LL M P) :
    wp xs d mX6_agree 0 [(2, 294), (2, a1), (0, a2), (0, a3), (3, 0), (3, 0)] [] z_LL M P := by
  refine wp_run 2 (pc' := 3) (ls' := [(2, 294), (2, a1), (0, a2), (0, a3), (0, 0), (3, 0)]) (st' := []) rfl ?_
  exact l1
set_option maxRecDepth 20000 in
theorem gX6_agree_3 {xs : List Int} {d : Nat} {M : z_M} {P : Option z_V → z_L → z_M → Prop} {x1 : Int} {x2 : Int} {x3 : Int} {x4 : Int} {w5 : z_V} (hF : z_fix M) (hx1 : z_her M x1)
    (l1 : ((M 294 6) ≤ x4) → P (some (0, 1)) z_LL M)
    (b1 : (¬ ((M 294 6) ≤ x4)) → 0 ≤ x4 ∧ x4 < 30)
    (b2 : (¬ ((M 294 6) ≤ x4)) → 0 ≤ (M 296 x4) ∧ (M 296 x4) < 6)
    (l2 : (¬ ((M 294 6) ≤ x4)) → ((M (x1 + 1) (M 296 x4)) ≠ (M 297 x4)) → (0 ≠ (M 298 x4)) → ((M 295 x4) ≠ x2) → wp xs (d + 1) mX6_agree 3 [(2, 294), (2, x1), (0, x2), (0, x3), (0, (z_w (x4 + 1))), (0, 0)] [] z_LL M P)
    (b3 : (¬ ((M 294 6) ≤ x4)) → ((M (x1 + 1) (M 296 x4)) ≠ (M 297 x4)) → (0 ≠ (M 298 x4)) → (¬ ((M 295 x4) ≠ x2)) → (0 ≤ x4 ∧ x4 < 30))
    (l3 : (¬ ((M 294 6) ≤ x4)) → ((M (x1 + 1) (M 296 x4)) ≠ (M 297 x4)) → (0 ≠ (M 298 x4)) → (¬ ((M 295 x4) ≠ x2)) → (¬ (z_kno M x4 x3)) → wp xs (d + 1) mX6_agree 3 [(2, 294), (2, x1), (0, x2), (0, x3), (0, (z_w (x4 + 1))), (0, 0)] [] z_LL M P)
    (l4 : (¬ ((M 294 6) ≤ x4)) → ((M (x1 + 1) (M 296 x4)) ≠ (M 297 x4)) → (0 ≠ (M 298 x4)) → (¬ ((M 295 x4) ≠ x2)) → ((z_kno M x4 x3)) → P (some (0, 0)) z_LL M)
    (l5 : (¬ ((M 294 6) ≤ x4)) → ((M (x1 + 1) (M 296 x4)) ≠ (M 297 x4)) → (¬ (0 ≠ (M 298 x4))) → ((M 295 x4) ≠ x2) → wp xs (d + 1) mX6_agree 3 [(2, 294), (2, x1), (0, x2), (0, x3), (0, (z_w (x4 + 1))), (0, 1)] [] z_LL M P)
    (b4 : (¬ ((M 294 6) ≤ x4)) → ((M (x1 + 1) (M 296 x4)) ≠ (M 297 x4)) → (¬ (0 ≠ (M 298 x4))) → (¬ ((M 295 x4) ≠ x2)) → (0 ≤ x4 ∧ x4 < 30))
    (l6 : (¬ ((M 294 6) ≤ x4)) → ((M (x1 + 1) (M 296 x4)) ≠ (M 297 x4)) → (¬ (0 ≠ (M 298 x4))) → (¬ ((M 295 x4) ≠ x2)) → (¬ (z_kno M x4 x3)) → wp xs (d + 1) mX6_agree 3 [(2, 294), (2, x1), (0, x2), (0, x3), (0, (z_w (x4 + 1))), (0, 1)] [] z_LL M P)
    (l7 : (¬ ((M 294 6) ≤ x4)) → ((M (x1 + 1) (M 296 x4)) ≠ (M 297 x4)) → (¬ (0 ≠ (M 298 x4))) → (¬ ((M 295 x4) ≠ x2)) → ((z_kno M x4 x3)) → wp xs (d + 1) mX6_agree 3 [(2, 294), (2, x1), (0, x2), (0, x3), (0, (z_w (x4 + 1))), (0, 1)] [] z_LL M P)
    (l8 : (¬ ((M 294 6) ≤ x4)) → (¬ ((M (x1 + 1) (M 296 x4)) ≠ (M 297 x4))) → (1 ≠ (M 298 x4)) → ((M 295 x4) ≠ x2) → wp xs (d + 1) mX6_agree 3 [(2, 294), (2, x1), (0, x2), (0, x3), (0, (z_w (x4 + 1))), (0, 0)] [] z_LL M P)
    (b5 : (¬ ((M 294 6) ≤ x4)) → (¬ ((M (x1 + 1) (M 296 x4)) ≠ (M 297 x4))) → (1 ≠ (M 298 x4)) → (¬ ((M 295 x4) ≠ x2)) → (0 ≤ x4 ∧ x4 < 30))
    (l9 : (¬ ((M 294 6) ≤ x4)) → (¬ ((M (x1 + 1) (M 296 x4)) ≠ (M 297 x4))) → (1 ≠ (M 298 x4)) → (¬ ((M 295 x4) ≠ x2)) → (¬ (z_kno M x4 x3)) → wp xs (d + 1) mX6_agree 3 [(2, 294), (2, x1), (0, x2), (0, x3), (0, (z_w (x4 + 1))), (0, 0)] [] z_LL M P)
    (l10 : (¬ ((M 294 6) ≤ x4)) → (¬ ((M (x1 + 1) (M 296 x4)) ≠ (M 297 x4))) → (1 ≠ (M 298 x4)) → (¬ ((M 295 x4) ≠ x2)) → ((z_kno M x4 x3)) → P (some (0, 0)) z_LL M)
    (l11 : (¬ ((M 294 6) ≤ x4)) → (¬ ((M (x1 + 1) (M 296 x4)) ≠ (M 297 x4))) → (¬ (1 ≠ (M 298 x4))) → ((M 295 x4) ≠ x2) → wp xs (d + 1) mX6_agree 3 [(2, 294), (2, x1), (0, x2), (0, x3), (0, (z_w (x4 + 1))), (0, 1)] [] z_LL M P)
    (b6 : (¬ ((M 294 6) ≤ x4)) → (¬ ((M (x1 + 1) (M 296 x4)) ≠ (M 297 x4))) → (¬ (1 ≠ (M 298 x4))) → (¬ ((M 295 x4) ≠ x2)) → (0 ≤ x4 ∧ x4 < 30))
    (l12 : (¬ ((M 294 6) ≤ x4)) → (¬ ((M (x1 + 1) (M 296 x4)) ≠ (M 297 x4))) → (¬ (1 ≠ (M 298 x4))) → (¬ ((M 295 x4) ≠ x2)) → (¬ (z_kno M x4 x3)) → wp xs (d + 1) mX6_agree 3 [(2, 294), (2, x1), (0, x2), (0, x3), (0, (z_w (x4 + 1))), (0, 1)] [] z_LL M P)
    (l13 : (¬ ((M 294 6) ≤ x4)) → (¬ ((M (x1 + 1) (M 296 x4)) ≠ (M 297 x4))) → (¬ (1 ≠ (M 298 x4))) → (¬ ((M 295 x4) ≠ x2)) → ((z_kno M x4 x3)) → wp xs (d + 1) mX6_agree 3 [(2, 294), (2, x1), (0, x2), (0, x3), (0, (z_w (x4 + 1))), (0, 1)] [] z_LL M P) :
    wp xs (d + 1) mX6_agree 3 [(2, 294), (2, x1), (0, x2), (0, x3), (0, x4), w5] [] z_LL M P := by
  refine wp_run 2 (pc' := 6) (ls' := [(2, 294), (2, x1), (0, x2), (0, x3), (0, x4), w5]) (st' := [(2, 294), (0, x4)]) rfl ?_
  refine wp_gf (pc' := 9) (t := 0) (v := (M 294 6)) rfl rfl (by decide) rfl rfl rfl ?_
  refine wp_if2 rfl rfl rfl (fun (c1 : (M 294 6) ≤ x4) => ?_) (fun (c1 : ¬ ((M 294 6) ≤ x4)) => ?_)
  · refine wp_run 1 (pc' := 91) (ls' := [(2, 294), (2, x1), (0, x2), (0, x3), (0, x4), w5]) (st' := [(0, 1)]) rfl ?_
    exact wp_ret rfl rfl (l1 c1)
  · refine wp_run 1 (pc' := 13) (ls' := [(2, 294), (2, x1), (0, x2), (0, x3), (0, x4), w5]) (st' := [(2, x1)]) rfl ?_
    refine wp_gf (pc' := 16) (t := 2) (v := (x1 + 1)) rfl rfl (by decide) rfl (z_hl0 hx1) (z_hf0 hx1) ?_
    refine wp_run 1 (pc' := 17) (ls' := [(2, 294), (2, x1), (0, x2), (0, x3), (0, x4), w5]) (st' := [(2, 294), (2, (x1 + 1))]) rfl ?_
    refine wp_gf (pc' := 20) (t := 2) (v := 296) rfl rfl (by decide) rfl rfl (fx_294_1 hF) ?_
    refine wp_run 1 (pc' := 22) (ls' := [(2, 294), (2, x1), (0, x2), (0, x3), (0, x4), w5]) (st' := [(0, x4), (2, 296), (2, (x1 + 1))]) rfl ?_
    refine wp_iald (pc' := 23) (v := (M 296 x4)) rfl rfl rfl (b1 c1) rfl ?_
    refine wp_iald (pc' := 24) (v := (M (x1 + 1) (M 296 x4))) rfl rfl (z_hl1 hx1) (b2 c1) rfl ?_
    refine wp_run 1 (pc' := 25) (ls' := [(2, 294), (2, x1), (0, x2), (0, x3), (0, x4), w5]) (st' := [(2, 294), (0, (M (x1 + 1) (M 296 x4)))]) rfl ?_
    refine wp_gf (pc' := 28) (t := 2) (v := 297) rfl rfl (by decide) rfl rfl (fx_294_2 hF) ?_
    refine wp_run 1 (pc' := 30) (ls' := [(2, 294), (2, x1), (0, x2), (0, x3), (0, x4), w5]) (st' := [(0, x4), (2, 297), (0, (M (x1 + 1) (M 296 x4)))]) rfl ?_
    refine wp_iald (pc' := 31) (v := (M 297 x4)) rfl rfl rfl (b1 c1) rfl ?_
    refine wp_if2 rfl rfl rfl (fun (c2 : (M (x1 + 1) (M 296 x4)) ≠ (M 297 x4)) => ?_) (fun (c2 : ¬ ((M (x1 + 1) (M 296 x4)) ≠ (M 297 x4))) => ?_)
    · refine wp_run 2 (pc' := 40) (ls' := [(2, 294), (2, x1), (0, x2), (0, x3), (0, x4), w5]) (st' := [(2, 294), (0, 0)]) rfl ?_
      refine wp_gf (pc' := 43) (t := 2) (v := 298) rfl rfl (by decide) rfl rfl (fx_294_3 hF) ?_
      refine wp_run 1 (pc' := 45) (ls' := [(2, 294), (2, x1), (0, x2), (0, x3), (0, x4), w5]) (st' := [(0, x4), (2, 298), (0, 0)]) rfl ?_
      refine wp_bald (pc' := 46) (v := (M 298 x4)) rfl rfl rfl rfl (b1 c1) rfl ?_
      refine wp_if2 rfl rfl rfl (fun (c3 : 0 ≠ (M 298 x4)) => ?_) (fun (c3 : ¬ (0 ≠ (M 298 x4))) => ?_)
      · refine wp_run 3 (pc' := 57) (ls' := [(2, 294), (2, x1), (0, x2), (0, x3), (0, x4), (0, 0)]) (st' := [(2, 294)]) rfl ?_
        refine wp_gf (pc' := 60) (t := 2) (v := 295) rfl rfl (by decide) rfl rfl (fx_294_0 hF) ?_
        refine wp_run 1 (pc' := 62) (ls' := [(2, 294), (2, x1), (0, x2), (0, x3), (0, x4), (0, 0)]) (st' := [(0, x4), (2, 295)]) rfl ?_
        refine wp_iald (pc' := 63) (v := (M 295 x4)) rfl rfl rfl (b1 c1) rfl ?_
        refine wp_run 1 (pc' := 64) (ls' := [(2, 294), (2, x1), (0, x2), (0, x3), (0, x4), (0, 0)]) (st' := [(0, x2), (0, (M 295 x4))]) rfl ?_
        refine wp_if2 rfl rfl rfl (fun (c4 : (M 295 x4) ≠ x2) => ?_) (fun (c4 : ¬ ((M 295 x4) ≠ x2)) => ?_)
        · refine wp_run 2 (pc' := 3) (ls' := [(2, 294), (2, x1), (0, x2), (0, x3), (0, (z_w (x4 + 1))), (0, 0)]) (st' := []) rfl ?_
          exact l2 c1 c2 c3 c4
        · refine wp_run 3 (pc' := 71) (ls' := [(2, 294), (2, x1), (0, x2), (0, x3), (0, x4), (0, 0)]) (st' := [(0, x3), (0, x4), (2, 294)]) rfl ?_
          refine wp_callv (pc' := 74) (as := [(2, 294), (0, x4), (0, x3)]) (rest := []) (ls1 := [(2, 294), (0, x4), (0, x3)]) rfl rfl rfl rfl rfl rfl ?_
          refine s_X6_isKnown hF (b3 c1 c2 c3 c4) ?_
          show wp xs _ mX6_agree 74 [(2, 294), (2, x1), (0, x2), (0, x3), (0, x4), (0, 0)] [(0, (z_b (z_kno M x4 x3)))] z_LL M _
          refine wp_be rfl rfl rfl (fun (c5 : ¬ (z_kno M x4 x3)) => ?_) (fun (c5 : (z_kno M x4 x3)) => ?_)
          · refine wp_run 2 (pc' := 3) (ls' := [(2, 294), (2, x1), (0, x2), (0, x3), (0, (z_w (x4 + 1))), (0, 0)]) (st' := []) rfl ?_
            exact l3 c1 c2 c3 c4 c5
          · refine wp_run 3 (pc' := 83) (ls' := [(2, 294), (2, x1), (0, x2), (0, x3), (0, x4), (0, 0)]) (st' := [(0, 0)]) rfl ?_
            exact wp_ret rfl rfl (l4 c1 c2 c3 c4 c5)
      · refine wp_run 4 (pc' := 57) (ls' := [(2, 294), (2, x1), (0, x2), (0, x3), (0, x4), (0, 1)]) (st' := [(2, 294)]) rfl ?_
        refine wp_gf (pc' := 60) (t := 2) (v := 295) rfl rfl (by decide) rfl rfl (fx_294_0 hF) ?_
        refine wp_run 1 (pc' := 62) (ls' := [(2, 294), (2, x1), (0, x2), (0, x3), (0, x4), (0, 1)]) (st' := [(0, x4), (2, 295)]) rfl ?_
        refine wp_iald (pc' := 63) (v := (M 295 x4)) rfl rfl rfl (b1 c1) rfl ?_
        refine wp_run 1 (pc' := 64) (ls' := [(2, 294), (2, x1), (0, x2), (0, x3), (0, x4), (0, 1)]) (st' := [(0, x2), (0, (M 295 x4))]) rfl ?_
        refine wp_if2 rfl rfl rfl (fun (c6 : (M 295 x4) ≠ x2) => ?_) (fun (c6 : ¬ ((M 295 x4) ≠ x2)) => ?_)
        · refine wp_run 2 (pc' := 3) (ls' := [(2, 294), (2, x1), (0, x2), (0, x3), (0, (z_w (x4 + 1))), (0, 1)]) (st' := []) rfl ?_
          exact l5 c1 c2 c3 c6
        · refine wp_run 3 (pc' := 71) (ls' := [(2, 294), (2, x1), (0, x2), (0, x3), (0, x4), (0, 1)]) (st' := [(0, x3), (0, x4), (2, 294)]) rfl ?_
          refine wp_callv (pc' := 74) (as := [(2, 294), (0, x4), (0, x3)]) (rest := []) (ls1 := [(2, 294), (0, x4), (0, x3)]) rfl rfl rfl rfl rfl rfl ?_
          refine s_X6_isKnown hF (b4 c1 c2 c3 c6) ?_
          show wp xs _ mX6_agree 74 [(2, 294), (2, x1), (0, x2), (0, x3), (0, x4), (0, 1)] [(0, (z_b (z_kno M x4 x3)))] z_LL M _
          refine wp_be rfl rfl rfl (fun (c7 : ¬ (z_kno M x4 x3)) => ?_) (fun (c7 : (z_kno M x4 x3)) => ?_)
          · refine wp_run 2 (pc' := 3) (ls' := [(2, 294), (2, x1), (0, x2), (0, x3), (0, (z_w (x4 + 1))), (0, 1)]) (st' := []) rfl ?_
            exact l6 c1 c2 c3 c6 c7
          · refine wp_run 4 (pc' := 3) (ls' := [(2, 294), (2, x1), (0, x2), (0, x3), (0, (z_w (x4 + 1))), (0, 1)]) (st' := []) rfl ?_
            exact l7 c1 c2 c3 c6 c7
    · refine wp_run 3 (pc' := 40) (ls' := [(2, 294), (2, x1), (0, x2), (0, x3), (0, x4), w5]) (st' := [(2, 294), (0, 1)]) rfl ?_
      refine wp_gf (pc' := 43) (t := 2) (v := 298) rfl rfl (by decide) rfl rfl (fx_294_3 hF) ?_
      refine wp_run 1 (pc' := 45) (ls' := [(2, 294), (2, x1), (0, x2), (0, x3), (0, x4), w5]) (st' := [(0, x4), (2, 298), (0, 1)]) rfl ?_
      refine wp_bald (pc' := 46) (v := (M 298 x4)) rfl rfl rfl rfl (b1 c1) rfl ?_
      refine wp_if2 rfl rfl rfl (fun (c8 : 1 ≠ (M 298 x4)) => ?_) (fun (c8 : ¬ (1 ≠ (M 298 x4))) => ?_)
      · refine wp_run 3 (pc' := 57) (ls' := [(2, 294), (2, x1), (0, x2), (0, x3), (0, x4), (0, 0)]) (st' := [(2, 294)]) rfl ?_
        refine wp_gf (pc' := 60) (t := 2) (v := 295) rfl rfl (by decide) rfl rfl (fx_294_0 hF) ?_
        refine wp_run 1 (pc' := 62) (ls' := [(2, 294), (2, x1), (0, x2), (0, x3), (0, x4), (0, 0)]) (st' := [(0, x4), (2, 295)]) rfl ?_
        refine wp_iald (pc' := 63) (v := (M 295 x4)) rfl rfl rfl (b1 c1) rfl ?_
        refine wp_run 1 (pc' := 64) (ls' := [(2, 294), (2, x1), (0, x2), (0, x3), (0, x4), (0, 0)]) (st' := [(0, x2), (0, (M 295 x4))]) rfl ?_
        refine wp_if2 rfl rfl rfl (fun (c9 : (M 295 x4) ≠ x2) => ?_) (fun (c9 : ¬ ((M 295 x4) ≠ x2)) => ?_)
        · refine wp_run 2 (pc' := 3) (ls' := [(2, 294), (2, x1), (0, x2), (0, x3), (0, (z_w (x4 + 1))), (0, 0)]) (st' := []) rfl ?_
          exact l8 c1 c2 c8 c9
        · refine wp_run 3 (pc' := 71) (ls' := [(2, 294), (2, x1), (0, x2), (0, x3), (0, x4), (0, 0)]) (st' := [(0, x3), (0, x4), (2, 294)]) rfl ?_
          refine wp_callv (pc' := 74) (as := [(2, 294), (0, x4), (0, x3)]) (rest := []) (ls1 := [(2, 294), (0, x4), (0, x3)]) rfl rfl rfl rfl rfl rfl ?_
          refine s_X6_isKnown hF (b5 c1 c2 c8 c9) ?_
          show wp xs _ mX6_agree 74 [(2, 294), (2, x1), (0, x2), (0, x3), (0, x4), (0, 0)] [(0, (z_b (z_kno M x4 x3)))] z_LL M _
          refine wp_be rfl rfl rfl (fun (c10 : ¬ (z_kno M x4 x3)) => ?_) (fun (c10 : (z_kno M x4 x3)) => ?_)
          · refine wp_run 2 (pc' := 3) (ls' := [(2, 294), (2, x1), (0, x2), (0, x3), (0, (z_w (x4 + 1))), (0, 0)]) (st' := []) rfl ?_
            exact l9 c1 c2 c8 c9 c10
          · refine wp_run 3 (pc' := 83) (ls' := [(2, 294), (2, x1), (0, x2), (0, x3), (0, x4), (0, 0)]) (st' := [(0, 0)]) rfl ?_
            exact wp_ret rfl rfl (l10 c1 c2 c8 c9 c10)
      · refine wp_run 4 (pc' := 57) (ls' := [(2, 294), (2, x1), (0, x2), (0, x3), (0, x4), (0, 1)]) (st' := [(2, 294)]) rfl ?_
        refine wp_gf (pc' := 60) (t := 2) (v := 295) rfl rfl (by decide) rfl rfl (fx_294_0 hF) ?_
        refine wp_run 1 (pc' := 62) (ls' := [(2, 294), (2, x1), (0, x2), (0, x3), (0, x4), (0, 1)]) (st' := [(0, x4), (2, 295)]) rfl ?_
        refine wp_iald (pc' := 63) (v := (M 295 x4)) rfl rfl rfl (b1 c1) rfl ?_
        refine wp_run 1 (pc' := 64) (ls' := [(2, 294), (2, x1), (0, x2), (0, x3), (0, x4), (0, 1)]) (st' := [(0, x2), (0, (M 295 x4))]) rfl ?_
        refine wp_if2 rfl rfl rfl (fun (c11 : (M 295 x4) ≠ x2) => ?_) (fun (c11 : ¬ ((M 295 x4) ≠ x2)) => ?_)
        · refine wp_run 2 (pc' := 3) (ls' := [(2, 294), (2, x1), (0, x2), (0, x3), (0, (z_w (x4 + 1))), (0, 1)]) (st' := []) rfl ?_
          exact l11 c1 c2 c8 c11
        · refine wp_run 3 (pc' := 71) (ls' := [(2, 294), (2, x1), (0, x2), (0, x3), (0, x4), (0, 1)]) (st' := [(0, x3), (0, x4), (2, 294)]) rfl ?_
          refine wp_callv (pc' := 74) (as := [(2, 294), (0, x4), (0, x3)]) (rest := []) (ls1 := [(2, 294), (0, x4), (0, x3)]) rfl rfl rfl rfl rfl rfl ?_
          refine s_X6_isKnown hF (b6 c1 c2 c8 c11) ?_
          show wp xs _ mX6_agree 74 [(2, 294), (2, x1), (0, x2), (0, x3), (0, x4), (0, 1)] [(0, (z_b (z_kno M x4 x3)))] z_LL M _
          refine wp_be rfl rfl rfl (fun (c12 : ¬ (z_kno M x4 x3)) => ?_) (fun (c12 : (z_kno M x4 x3)) => ?_)
          · refine wp_run 2 (pc' := 3) (ls' := [(2, 294), (2, x1), (0, x2), (0, x3), (0, (z_w (x4 + 1))), (0, 1)]) (st' := []) rfl ?_
            exact l12 c1 c2 c8 c11 c12
          · refine wp_run 4 (pc' := 3) (ls' := [(2, 294), (2, x1), (0, x2), (0, x3), (0, (z_w (x4 + 1))), (0, 1)]) (st' := []) rfl ?_
            exact l13 c1 c2 c8 c11 c12
set_option maxRecDepth 20000 in
theorem gX6_lastDay_0 {xs : List Int} {d : Nat} {M : z_M} {P : Option z_V → z_L → z_M → Prop} {a1 : Int} 
    (l1 : wp xs d mX6_lastDay 4 [(2, 294), (0, a1), (0, (-1)), (0, 0)] [] z_LL M P) :
    wp xs d mX6_lastDay 0 [(2, 294), (0, a1), (3, 0), (3, 0)] [] z_LL M P := by
  refine wp_run 4 (pc' := 4) (ls' := [(2, 294), (0, a1), (0, (-1)), (0, 0)]) (st' := []) rfl ?_
  exact l1
set_option maxRecDepth 20000 in
theorem gX6_lastDay_4 {xs : List Int} {d : Nat} {M : z_M} {P : Option z_V → z_L → z_M → Prop} {x1 : Int} {x2 : Int} {x3 : Int} (hF : z_fix M) 
    (l1 : ((M 294 6) ≤ x3) → P (some (0, x2)) z_LL M)
    (b1 : (¬ ((M 294 6) ≤ x3)) → (0 ≤ x3 ∧ x3 < 30))
    (l2 : (¬ ((M 294 6) ≤ x3)) → (¬ (z_kno M x3 x1)) → wp xs (d + 1) mX6_lastDay 4 [(2, 294), (0, x1), (0, x2), (0, (z_w (x3 + 1)))] [] z_LL M P)
    (b2 : (¬ ((M 294 6) ≤ x3)) → ((z_kno M x3 x1)) → 0 ≤ x3 ∧ x3 < 30)
    (l3 : (¬ ((M 294 6) ≤ x3)) → ((z_kno M x3 x1)) → wp xs (d + 1) mX6_lastDay 4 [(2, 294), (0, x1), (0, (z_max x2 (M 295 x3))), (0, (z_w (x3 + 1)))] [] z_LL M P) :
    wp xs (d + 1) mX6_lastDay 4 [(2, 294), (0, x1), (0, x2), (0, x3)] [] z_LL M P := by
  refine wp_run 2 (pc' := 6) (ls' := [(2, 294), (0, x1), (0, x2), (0, x3)]) (st' := [(2, 294), (0, x3)]) rfl ?_
  refine wp_gf (pc' := 9) (t := 0) (v := (M 294 6)) rfl rfl (by decide) rfl rfl rfl ?_
  refine wp_if2 rfl rfl rfl (fun (c1 : (M 294 6) ≤ x3) => ?_) (fun (c1 : ¬ ((M 294 6) ≤ x3)) => ?_)
  · refine wp_run 1 (pc' := 39) (ls' := [(2, 294), (0, x1), (0, x2), (0, x3)]) (st' := [(0, x2)]) rfl ?_
    exact wp_ret rfl rfl (l1 c1)
  · refine wp_run 3 (pc' := 15) (ls' := [(2, 294), (0, x1), (0, x2), (0, x3)]) (st' := [(0, x1), (0, x3), (2, 294)]) rfl ?_
    refine wp_callv (pc' := 18) (as := [(2, 294), (0, x3), (0, x1)]) (rest := []) (ls1 := [(2, 294), (0, x3), (0, x1)]) rfl rfl rfl rfl rfl rfl ?_
    refine s_X6_isKnown hF (b1 c1) ?_
    show wp xs _ mX6_lastDay 18 [(2, 294), (0, x1), (0, x2), (0, x3)] [(0, (z_b (z_kno M x3 x1)))] z_LL M _
    refine wp_be rfl rfl rfl (fun (c2 : ¬ (z_kno M x3 x1)) => ?_) (fun (c2 : (z_kno M x3 x1)) => ?_)
    · refine wp_run 2 (pc' := 4) (ls' := [(2, 294), (0, x1), (0, x2), (0, (z_w (x3 + 1)))]) (st' := []) rfl ?_
      exact l2 c1 c2
    · refine wp_run 2 (pc' := 23) (ls' := [(2, 294), (0, x1), (0, x2), (0, x3)]) (st' := [(2, 294), (0, x2)]) rfl ?_
      refine wp_gf (pc' := 26) (t := 2) (v := 295) rfl rfl (by decide) rfl rfl (fx_294_0 hF) ?_
      refine wp_run 1 (pc' := 27) (ls' := [(2, 294), (0, x1), (0, x2), (0, x3)]) (st' := [(0, x3), (2, 295), (0, x2)]) rfl ?_
      refine wp_iald (pc' := 28) (v := (M 295 x3)) rfl rfl rfl (b2 c1 c2) rfl ?_
      refine wp_max (pc' := 31) rfl rfl (Nat.le_of_ble_eq_true rfl) ?_
      refine wp_run 3 (pc' := 4) (ls' := [(2, 294), (0, x1), (0, (z_max x2 (M 295 x3))), (0, (z_w (x3 + 1)))]) (st' := []) rfl ?_
      exact l3 c1 c2
set_option maxRecDepth 20000 in
theorem gX10_isSeenSo_0 {xs : List Int} {d : Nat} {M : z_M} {P : Option z_V → z_L → z_M → Prop} {a1 : Int} {a2 : Int} 
    (l1 : wp xs d mX10_isSeenSo 5 [(2, 321), (0, a1), (0, a2), (0, 1), (0, 0)] [] z_LL M P) :
    wp xs d mX10_isSeenSo 0 [(2, 321), (0, a1), (0, a2), (3, 0), (3, 0)] [] z_LL M P := by
  refine wp_run 4 (pc' := 5) (ls' := [(2, 321), (0, a1), (0, a2), (0, 1), (0, 0)]) (st' := []) rfl ?_
  exact l1
set_option maxRecDepth 20000 in
theorem gX10_isSeenSo_5 {xs : List Int} {d : Nat} {M : z_M} {P : Option z_V → z_L → z_M → Prop} {x1 : Int} {x2 : Int} {x3 : Int} {x4 : Int} (hF : z_fix M) 
    (b1 : ((M 321 76) ≤ x4) → x3 = 0 ∨ x3 = 1)
    (l1 : ((M 321 76) ≤ x4) → P (some (0, x3)) z_LL M)
    (b2 : (¬ ((M 321 76) ≤ x4)) → (x3 = 0) → x3 = 0 ∨ x3 = 1)
    (l2 : (¬ ((M 321 76) ≤ x4)) → (x3 = 0) → P (some (0, x3)) z_LL M)
    (b3 : (¬ ((M 321 76) ≤ x4)) → (¬ (x3 = 0)) → 0 ≤ x4 ∧ x4 < 30)
    (l3 : (¬ ((M 321 76) ≤ x4)) → (¬ (x3 = 0)) → ((M 349 x4) ≠ x1) → wp xs d mX10_isSeenSo 5 [(2, 321), (0, x1), (0, x2), (0, x3), (0, (z_w (x4 + 1)))] [] z_LL M P)
    (l4 : (¬ ((M 321 76) ≤ x4)) → (¬ (x3 = 0)) → (¬ ((M 349 x4) ≠ x1)) → (x2 < (M 352 x4)) → wp xs d mX10_isSeenSo 5 [(2, 321), (0, x1), (0, x2), (0, x3), (0, (z_w (x4 + 1)))] [] z_LL M P)
    (b4 : (¬ ((M 321 76) ≤ x4)) → (¬ (x3 = 0)) → (¬ ((M 349 x4) ≠ x1)) → (¬ (x2 < (M 352 x4))) → ((M 353 x4) < 0) → 0 ≤ (M 350 x4) ∧ (M 350 x4) < 106)
    (l5 : (¬ ((M 321 76) ≤ x4)) → (¬ (x3 = 0)) → (¬ ((M 349 x4) ≠ x1)) → (¬ (x2 < (M 352 x4))) → ((M 353 x4) < 0) → ((M 343 (M 350 x4)) ≠ (M 351 x4)) → (0 ≠ (M 354 x4)) → wp xs d mX10_isSeenSo 5 [(2, 321), (0, x1), (0, x2), (0, 0), (0, (z_w (x4 + 1)))] [] z_LL M P)
    (l6 : (¬ ((M 321 76) ≤ x4)) → (¬ (x3 = 0)) → (¬ ((M 349 x4) ≠ x1)) → (¬ (x2 < (M 352 x4))) → ((M 353 x4) < 0) → ((M 343 (M 350 x4)) ≠ (M 351 x4)) → (¬ (0 ≠ (M 354 x4))) → wp xs d mX10_isSeenSo 5 [(2, 321), (0, x1), (0, x2), (0, 1), (0, (z_w (x4 + 1)))] [] z_LL M P)
    (l7 : (¬ ((M 321 76) ≤ x4)) → (¬ (x3 = 0)) → (¬ ((M 349 x4) ≠ x1)) → (¬ (x2 < (M 352 x4))) → ((M 353 x4) < 0) → (¬ ((M 343 (M 350 x4)) ≠ (M 351 x4))) → (1 ≠ (M 354 x4)) → wp xs d mX10_isSeenSo 5 [(2, 321), (0, x1), (0, x2), (0, 0), (0, (z_w (x4 + 1)))] [] z_LL M P)
    (l8 : (¬ ((M 321 76) ≤ x4)) → (¬ (x3 = 0)) → (¬ ((M 349 x4) ≠ x1)) → (¬ (x2 < (M 352 x4))) → ((M 353 x4) < 0) → (¬ ((M 343 (M 350 x4)) ≠ (M 351 x4))) → (¬ (1 ≠ (M 354 x4))) → wp xs d mX10_isSeenSo 5 [(2, 321), (0, x1), (0, x2), (0, 1), (0, (z_w (x4 + 1)))] [] z_LL M P)
    (l9 : (¬ ((M 321 76) ≤ x4)) → (¬ (x3 = 0)) → (¬ ((M 349 x4) ≠ x1)) → (¬ (x2 < (M 352 x4))) → (¬ ((M 353 x4) < 0)) → ((M 353 x4) ≤ x2) → wp xs d mX10_isSeenSo 5 [(2, 321), (0, x1), (0, x2), (0, x3), (0, (z_w (x4 + 1)))] [] z_LL M P)
    (b5 : (¬ ((M 321 76) ≤ x4)) → (¬ (x3 = 0)) → (¬ ((M 349 x4) ≠ x1)) → (¬ (x2 < (M 352 x4))) → (¬ ((M 353 x4) < 0)) → (¬ ((M 353 x4) ≤ x2)) → 0 ≤ (M 350 x4) ∧ (M 350 x4) < 106)
    (l10 : (¬ ((M 321 76) ≤ x4)) → (¬ (x3 = 0)) → (¬ ((M 349 x4) ≠ x1)) → (¬ (x2 < (M 352 x4))) → (¬ ((M 353 x4) < 0)) → (¬ ((M 353 x4) ≤ x2)) → ((M 343 (M 350 x4)) ≠ (M 351 x4)) → (0 ≠ (M 354 x4)) → wp xs d mX10_isSeenSo 5 [(2, 321), (0, x1), (0, x2), (0, 0), (0, (z_w (x4 + 1)))] [] z_LL M P)
    (l11 : (¬ ((M 321 76) ≤ x4)) → (¬ (x3 = 0)) → (¬ ((M 349 x4) ≠ x1)) → (¬ (x2 < (M 352 x4))) → (¬ ((M 353 x4) < 0)) → (¬ ((M 353 x4) ≤ x2)) → ((M 343 (M 350 x4)) ≠ (M 351 x4)) → (¬ (0 ≠ (M 354 x4))) → wp xs d mX10_isSeenSo 5 [(2, 321), (0, x1), (0, x2), (0, 1), (0, (z_w (x4 + 1)))] [] z_LL M P)
    (l12 : (¬ ((M 321 76) ≤ x4)) → (¬ (x3 = 0)) → (¬ ((M 349 x4) ≠ x1)) → (¬ (x2 < (M 352 x4))) → (¬ ((M 353 x4) < 0)) → (¬ ((M 353 x4) ≤ x2)) → (¬ ((M 343 (M 350 x4)) ≠ (M 351 x4))) → (1 ≠ (M 354 x4)) → wp xs d mX10_isSeenSo 5 [(2, 321), (0, x1), (0, x2), (0, 0), (0, (z_w (x4 + 1)))] [] z_LL M P)
    (l13 : (¬ ((M 321 76) ≤ x4)) → (¬ (x3 = 0)) → (¬ ((M 349 x4) ≠ x1)) → (¬ (x2 < (M 352 x4))) → (¬ ((M 353 x4) < 0)) → (¬ ((M 353 x4) ≤ x2)) → (¬ ((M 343 (M 350 x4)) ≠ (M 351 x4))) → (¬ (1 ≠ (M 354 x4))) → wp xs d mX10_isSeenSo 5 [(2, 321), (0, x1), (0, x2), (0, 1), (0, (z_w (x4 + 1)))] [] z_LL M P) :
    wp xs d mX10_isSeenSo 5 [(2, 321), (0, x1), (0, x2), (0, x3), (0, x4)] [] z_LL M P := by
  refine wp_run 2 (pc' := 8) (ls' := [(2, 321), (0, x1), (0, x2), (0, x3), (0, x4)]) (st' := [(2, 321), (0, x4)]) rfl ?_
  refine wp_gf (pc' := 11) (t := 0) (v := (M 321 76)) rfl rfl (by decide) rfl rfl rfl ?_
  refine wp_if2 rfl rfl rfl (fun (c1 : (M 321 76) ≤ x4) => ?_) (fun (c1 : ¬ ((M 321 76) ≤ x4)) => ?_)
  · refine wp_run 1 (pc' := 111) (ls' := [(2, 321), (0, x1), (0, x2), (0, x3), (0, x4)]) (st' := [(0, x3)]) rfl ?_
    exact wp_retz rfl rfl rfl (b1 c1) (l1 c1)
  · refine wp_run 1 (pc' := 15) (ls' := [(2, 321), (0, x1), (0, x2), (0, x3), (0, x4)]) (st' := [(0, x3)]) rfl ?_
    refine wp_if1 rfl rfl rfl (fun (c2 : x3 = 0) => ?_) (fun (c2 : ¬ (x3 = 0)) => ?_)
    · refine wp_run 1 (pc' := 111) (ls' := [(2, 321), (0, x1), (0, x2), (0, x3), (0, x4)]) (st' := [(0, x3)]) rfl ?_
      exact wp_retz rfl rfl rfl (b2 c1 c2) (l2 c1 c2)
    · refine wp_run 1 (pc' := 19) (ls' := [(2, 321), (0, x1), (0, x2), (0, x3), (0, x4)]) (st' := [(2, 321)]) rfl ?_
      refine wp_gf (pc' := 22) (t := 2) (v := 349) rfl rfl (by decide) rfl rfl (fx_321_70 hF) ?_
      refine wp_run 1 (pc' := 24) (ls' := [(2, 321), (0, x1), (0, x2), (0, x3), (0, x4)]) (st' := [(0, x4), (2, 349)]) rfl ?_
      refine wp_iald (pc' := 25) (v := (M 349 x4)) rfl rfl rfl (b3 c1 c2) rfl ?_
      refine wp_run 1 (pc' := 26) (ls' := [(2, 321), (0, x1), (0, x2), (0, x3), (0, x4)]) (st' := [(0, x1), (0, (M 349 x4))]) rfl ?_
      refine wp_if2 rfl rfl rfl (fun (c3 : (M 349 x4) ≠ x1) => ?_) (fun (c3 : ¬ ((M 349 x4) ≠ x1)) => ?_)
      · refine wp_run 2 (pc' := 5) (ls' := [(2, 321), (0, x1), (0, x2), (0, x3), (0, (z_w (x4 + 1)))]) (st' := []) rfl ?_
        exact l3 c1 c2 c3
      · refine wp_run 1 (pc' := 30) (ls' := [(2, 321), (0, x1), (0, x2), (0, x3), (0, x4)]) (st' := [(2, 321)]) rfl ?_
        refine wp_gf (pc' := 33) (t := 2) (v := 352) rfl rfl (by decide) rfl rfl (fx_321_73 hF) ?_
        refine wp_run 1 (pc' := 35) (ls' := [(2, 321), (0, x1), (0, x2), (0, x3), (0, x4)]) (st' := [(0, x4), (2, 352)]) rfl ?_
        refine wp_iald (pc' := 36) (v := (M 352 x4)) rfl rfl rfl (b3 c1 c2) rfl ?_
        refine wp_run 1 (pc' := 37) (ls' := [(2, 321), (0, x1), (0, x2), (0, x3), (0, x4)]) (st' := [(0, x2), (0, (M 352 x4))]) rfl ?_
        refine wp_if2 rfl rfl rfl (fun (c4 : x2 < (M 352 x4)) => ?_) (fun (c4 : ¬ (x2 < (M 352 x4))) => ?_)
        · refine wp_run 2 (pc' := 5) (ls' := [(2, 321), (0, x1), (0, x2), (0, x3), (0, (z_w (x4 + 1)))]) (st' := []) rfl ?_
          exact l4 c1 c2 c3 c4
        · refine wp_run 1 (pc' := 41) (ls' := [(2, 321), (0, x1), (0, x2), (0, x3), (0, x4)]) (st' := [(2, 321)]) rfl ?_
          refine wp_gf (pc' := 44) (t := 2) (v := 353) rfl rfl (by decide) rfl rfl (fx_321_74 hF) ?_
          refine wp_run 1 (pc' := 46) (ls' := [(2, 321), (0, x1), (0, x2), (0, x3), (0, x4)]) (st' := [(0, x4), (2, 353)]) rfl ?_
          refine wp_iald (pc' := 47) (v := (M 353 x4)) rfl rfl rfl (b3 c1 c2) rfl ?_
          refine wp_if1 rfl rfl rfl (fun (c5 : (M 353 x4) < 0) => ?_) (fun (c5 : ¬ ((M 353 x4) < 0)) => ?_)
          · refine wp_run 1 (pc' := 62) (ls' := [(2, 321), (0, x1), (0, x2), (0, x3), (0, x4)]) (st' := [(2, 321)]) rfl ?_
            refine wp_gf (pc' := 65) (t := 2) (v := 343) rfl rfl (by decide) rfl rfl (fx_321_61 hF) ?_
            refine wp_run 1 (pc' := 66) (ls' := [(2, 321), (0, x1), (0, x2), (0, x3), (0, x4)]) (st' := [(2, 321), (2, 343)]) rfl ?_
            refine wp_gf (pc' := 69) (t := 2) (v := 350) rfl rfl (by decide) rfl rfl (fx_321_71 hF) ?_
            refine wp_run 1 (pc' := 71) (ls' := [(2, 321), (0, x1), (0, x2), (0, x3), (0, x4)]) (st' := [(0, x4), (2, 350), (2, 343)]) rfl ?_
            refine wp_iald (pc' := 72) (v := (M 350 x4)) rfl rfl rfl (b3 c1 c2) rfl ?_
            refine wp_iald (pc' := 73) (v := (M 343 (M 350 x4))) rfl rfl rfl (b4 c1 c2 c3 c4 c5) rfl ?_
            refine wp_run 1 (pc' := 74) (ls' := [(2, 321), (0, x1), (0, x2), (0, x3), (0, x4)]) (st' := [(2, 321), (0, (M 343 (M 350 x4)))]) rfl ?_
            refine wp_gf (pc' := 77) (t := 2) (v := 351) rfl rfl (by decide) rfl rfl (fx_321_72 hF) ?_
            refine wp_run 1 (pc' := 79) (ls' := [(2, 321), (0, x1), (0, x2), (0, x3), (0, x4)]) (st' := [(0, x4), (2, 351), (0, (M 343 (M 350 x4)))]) rfl ?_
            refine wp_iald (pc' := 80) (v := (M 351 x4)) rfl rfl rfl (b3 c1 c2) rfl ?_
            refine wp_if2 rfl rfl rfl (fun (c6 : (M 343 (M 350 x4)) ≠ (M 351 x4)) => ?_) (fun (c6 : ¬ ((M 343 (M 350 x4)) ≠ (M 351 x4))) => ?_)
            · refine wp_run 2 (pc' := 89) (ls' := [(2, 321), (0, x1), (0, x2), (0, x3), (0, x4)]) (st' := [(2, 321), (0, 0)]) rfl ?_
              refine wp_gf (pc' := 92) (t := 2) (v := 354) rfl rfl (by decide) rfl rfl (fx_321_75 hF) ?_
              refine wp_run 1 (pc' := 94) (ls' := [(2, 321), (0, x1), (0, x2), (0, x3), (0, x4)]) (st' := [(0, x4), (2, 354), (0, 0)]) rfl ?_
              refine wp_bald (pc' := 95) (v := (M 354 x4)) rfl rfl rfl rfl (b3 c1 c2) rfl ?_
              refine wp_if2 rfl rfl rfl (fun (c7 : 0 ≠ (M 354 x4)) => ?_) (fun (c7 : ¬ (0 ≠ (M 354 x4))) => ?_)
              · refine wp_run 4 (pc' := 5) (ls' := [(2, 321), (0, x1), (0, x2), (0, 0), (0, (z_w (x4 + 1)))]) (st' := []) rfl ?_
                exact l5 c1 c2 c3 c4 c5 c6 c7
              · refine wp_run 5 (pc' := 5) (ls' := [(2, 321), (0, x1), (0, x2), (0, 1), (0, (z_w (x4 + 1)))]) (st' := []) rfl ?_
                exact l6 c1 c2 c3 c4 c5 c6 c7
            · refine wp_run 3 (pc' := 89) (ls' := [(2, 321), (0, x1), (0, x2), (0, x3), (0, x4)]) (st' := [(2, 321), (0, 1)]) rfl ?_
              refine wp_gf (pc' := 92) (t := 2) (v := 354) rfl rfl (by decide) rfl rfl (fx_321_75 hF) ?_
              refine wp_run 1 (pc' := 94) (ls' := [(2, 321), (0, x1), (0, x2), (0, x3), (0, x4)]) (st' := [(0, x4), (2, 354), (0, 1)]) rfl ?_
              refine wp_bald (pc' := 95) (v := (M 354 x4)) rfl rfl rfl rfl (b3 c1 c2) rfl ?_
              refine wp_if2 rfl rfl rfl (fun (c8 : 1 ≠ (M 354 x4)) => ?_) (fun (c8 : ¬ (1 ≠ (M 354 x4))) => ?_)
              · refine wp_run 4 (pc' := 5) (ls' := [(2, 321), (0, x1), (0, x2), (0, 0), (0, (z_w (x4 + 1)))]) (st' := []) rfl ?_
                exact l7 c1 c2 c3 c4 c5 c6 c8
              · refine wp_run 5 (pc' := 5) (ls' := [(2, 321), (0, x1), (0, x2), (0, 1), (0, (z_w (x4 + 1)))]) (st' := []) rfl ?_
                exact l8 c1 c2 c3 c4 c5 c6 c8
          · refine wp_run 1 (pc' := 51) (ls' := [(2, 321), (0, x1), (0, x2), (0, x3), (0, x4)]) (st' := [(2, 321)]) rfl ?_
            refine wp_gf (pc' := 54) (t := 2) (v := 353) rfl rfl (by decide) rfl rfl (fx_321_74 hF) ?_
            refine wp_run 1 (pc' := 56) (ls' := [(2, 321), (0, x1), (0, x2), (0, x3), (0, x4)]) (st' := [(0, x4), (2, 353)]) rfl ?_
            refine wp_iald (pc' := 57) (v := (M 353 x4)) rfl rfl rfl (b3 c1 c2) rfl ?_
            refine wp_run 1 (pc' := 58) (ls' := [(2, 321), (0, x1), (0, x2), (0, x3), (0, x4)]) (st' := [(0, x2), (0, (M 353 x4))]) rfl ?_
            refine wp_if2 rfl rfl rfl (fun (c9 : (M 353 x4) ≤ x2) => ?_) (fun (c9 : ¬ ((M 353 x4) ≤ x2)) => ?_)
            · refine wp_run 2 (pc' := 5) (ls' := [(2, 321), (0, x1), (0, x2), (0, x3), (0, (z_w (x4 + 1)))]) (st' := []) rfl ?_
              exact l9 c1 c2 c3 c4 c5 c9
            · refine wp_run 1 (pc' := 62) (ls' := [(2, 321), (0, x1), (0, x2), (0, x3), (0, x4)]) (st' := [(2, 321)]) rfl ?_
              refine wp_gf (pc' := 65) (t := 2) (v := 343) rfl rfl (by decide) rfl rfl (fx_321_61 hF) ?_
              refine wp_run 1 (pc' := 66) (ls' := [(2, 321), (0, x1), (0, x2), (0, x3), (0, x4)]) (st' := [(2, 321), (2, 343)]) rfl ?_
              refine wp_gf (pc' := 69) (t := 2) (v := 350) rfl rfl (by decide) rfl rfl (fx_321_71 hF) ?_
              refine wp_run 1 (pc' := 71) (ls' := [(2, 321), (0, x1), (0, x2), (0, x3), (0, x4)]) (st' := [(0, x4), (2, 350), (2, 343)]) rfl ?_
              refine wp_iald (pc' := 72) (v := (M 350 x4)) rfl rfl rfl (b3 c1 c2) rfl ?_
              refine wp_iald (pc' := 73) (v := (M 343 (M 350 x4))) rfl rfl rfl (b5 c1 c2 c3 c4 c5 c9) rfl ?_
              refine wp_run 1 (pc' := 74) (ls' := [(2, 321), (0, x1), (0, x2), (0, x3), (0, x4)]) (st' := [(2, 321), (0, (M 343 (M 350 x4)))]) rfl ?_
              refine wp_gf (pc' := 77) (t := 2) (v := 351) rfl rfl (by decide) rfl rfl (fx_321_72 hF) ?_
              refine wp_run 1 (pc' := 79) (ls' := [(2, 321), (0, x1), (0, x2), (0, x3), (0, x4)]) (st' := [(0, x4), (2, 351), (0, (M 343 (M 350 x4)))]) rfl ?_
              refine wp_iald (pc' := 80) (v := (M 351 x4)) rfl rfl rfl (b3 c1 c2) rfl ?_
              refine wp_if2 rfl rfl rfl (fun (c10 : (M 343 (M 350 x4)) ≠ (M 351 x4)) => ?_) (fun (c10 : ¬ ((M 343 (M 350 x4)) ≠ (M 351 x4))) => ?_)
              · refine wp_run 2 (pc' := 89) (ls' := [(2, 321), (0, x1), (0, x2), (0, x3), (0, x4)]) (st' := [(2, 321), (0, 0)]) rfl ?_
                refine wp_gf (pc' := 92) (t := 2) (v := 354) rfl rfl (by decide) rfl rfl (fx_321_75 hF) ?_
                refine wp_run 1 (pc' := 94) (ls' := [(2, 321), (0, x1), (0, x2), (0, x3), (0, x4)]) (st' := [(0, x4), (2, 354), (0, 0)]) rfl ?_
                refine wp_bald (pc' := 95) (v := (M 354 x4)) rfl rfl rfl rfl (b3 c1 c2) rfl ?_
                refine wp_if2 rfl rfl rfl (fun (c11 : 0 ≠ (M 354 x4)) => ?_) (fun (c11 : ¬ (0 ≠ (M 354 x4))) => ?_)
                · refine wp_run 4 (pc' := 5) (ls' := [(2, 321), (0, x1), (0, x2), (0, 0), (0, (z_w (x4 + 1)))]) (st' := []) rfl ?_
                  exact l10 c1 c2 c3 c4 c5 c9 c10 c11
                · refine wp_run 5 (pc' := 5) (ls' := [(2, 321), (0, x1), (0, x2), (0, 1), (0, (z_w (x4 + 1)))]) (st' := []) rfl ?_
                  exact l11 c1 c2 c3 c4 c5 c9 c10 c11
              · refine wp_run 3 (pc' := 89) (ls' := [(2, 321), (0, x1), (0, x2), (0, x3), (0, x4)]) (st' := [(2, 321), (0, 1)]) rfl ?_
                refine wp_gf (pc' := 92) (t := 2) (v := 354) rfl rfl (by decide) rfl rfl (fx_321_75 hF) ?_
                refine wp_run 1 (pc' := 94) (ls' := [(2, 321), (0, x1), (0, x2), (0, x3), (0, x4)]) (st' := [(0, x4), (2, 354), (0, 1)]) rfl ?_
                refine wp_bald (pc' := 95) (v := (M 354 x4)) rfl rfl rfl rfl (b3 c1 c2) rfl ?_
                refine wp_if2 rfl rfl rfl (fun (c12 : 1 ≠ (M 354 x4)) => ?_) (fun (c12 : ¬ (1 ≠ (M 354 x4))) => ?_)
                · refine wp_run 4 (pc' := 5) (ls' := [(2, 321), (0, x1), (0, x2), (0, 0), (0, (z_w (x4 + 1)))]) (st' := []) rfl ?_
                  exact l12 c1 c2 c3 c4 c5 c9 c10 c12
                · refine wp_run 5 (pc' := 5) (ls' := [(2, 321), (0, x1), (0, x2), (0, 1), (0, (z_w (x4 + 1)))]) (st' := []) rfl ?_
                  exact l13 c1 c2 c3 c4 c5 c9 c10 c12
set_option maxRecDepth 20000 in
theorem gX0_explains_0 {xs : List Int} {d : Nat} {M : z_M} {P : Option z_V → z_L → z_M → Prop} {a1 : Int} {a2 : Int} {a4 : Int} {a5 : Int} (hF : z_fix M) (ha1 : z_her M a1) (hn1 : a1 ≠ 39)
    (b1 : 0 ≤ a2 ∧ a2 < 25)
    (l1 : wp xs (d + 1) mX0_explains 22 [(2, 38), (2, a1), (0, a2), (2, 294), (0, a4), (0, a5), (0, 0)] [] z_LL (z_up (z_up (z_up (z_up (z_cpy (z_cpy (z_cpy (z_cpy (z_cpy M (a1 + 1) 0 40 0 6) (a1 + 2) 0 41 0 6) (a1 + 3) 0 42 0 25) (a1 + 4) 0 43 0 25) (a1 + 5) 0 44 0 36) 39 5 (M a1 5)) 39 6 (M a1 6)) 39 7 (M a1 7)) 43 a2 9) P) :
    wp xs (d + 1) mX0_explains 0 [(2, 38), (2, a1), (0, a2), (2, 294), (0, a4), (0, a5), (3, 0)] [] z_LL M P := by
  refine wp_run 1 (pc' := 1) (ls' := [(2, 38), (2, a1), (0, a2), (2, 294), (0, a4), (0, a5), (3, 0)]) (st' := [(2, 38)]) rfl ?_
  refine wp_gf (pc' := 4) (t := 2) (v := 39) rfl rfl (by decide) rfl rfl (fx_38_1 hF) ?_
  refine wp_run 1 (pc' := 5) (ls' := [(2, 38), (2, a1), (0, a2), (2, 294), (0, a4), (0, a5), (3, 0)]) (st' := [(2, a1), (2, 39)]) rfl ?_
  refine wp_callv (pc' := 8) (as := [(2, 39), (2, a1)]) (rest := []) (ls1 := [(2, 39), (2, a1)]) rfl rfl rfl rfl rfl rfl ?_
  refine wp_run 1 (pc' := 1) (ls' := [(2, 39), (2, a1)]) (st' := [(2, a1)]) rfl ?_
  refine wp_gf (pc' := 4) (t := 2) (v := (a1 + 1)) rfl rfl (by decide) rfl (z_hl0 ha1) (z_hf0 ha1) ?_
  refine wp_run 2 (pc' := 6) (ls' := [(2, 39), (2, a1)]) (st' := [(2, 39), (0, 0), (2, (a1 + 1))]) rfl ?_
  refine wp_gf (pc' := 9) (t := 2) (v := 40) rfl rfl (by decide) rfl rfl (fx_39_0 hF) ?_
  refine wp_run 2 (pc' := 12) (ls' := [(2, 39), (2, a1)]) (st' := [(0, 6), (0, 0), (2, 40), (0, 0), (2, (a1 + 1))]) rfl ?_
  refine wp_acp (pc' := 15) rfl rfl (z_hl1 ha1) rfl (by decide) ?_
  refine wp_run 1 (pc' := 16) (ls' := [(2, 39), (2, a1)]) (st' := [(2, a1)]) rfl ?_
  refine wp_gf (pc' := 19) (t := 2) (v := (a1 + 2)) rfl rfl (by decide) rfl (z_hl0 ha1) (z_cpq (by have := z_hr ha1; omega) (z_hf1 ha1)) ?_
  refine wp_run 2 (pc' := 21) (ls' := [(2, 39), (2, a1)]) (st' := [(2, 39), (0, 0), (2, (a1 + 2))]) rfl ?_
  refine wp_gf (pc' := 24) (t := 2) (v := 41) rfl rfl (by decide) rfl rfl (z_cpq (by decide) (fx_39_1 hF)) ?_
  refine wp_run 2 (pc' := 27) (ls' := [(2, 39), (2, a1)]) (st' := [(0, 6), (0, 0), (2, 41), (0, 0), (2, (a1 + 2))]) rfl ?_
  refine wp_acp (pc' := 30) rfl rfl (z_hl2 ha1) rfl (by decide) ?_
  refine wp_run 1 (pc' := 31) (ls' := [(2, 39), (2, a1)]) (st' := [(2, a1)]) rfl ?_
  refine wp_gf (pc' := 34) (t := 2) (v := (a1 + 3)) rfl rfl (by decide) rfl (z_hl0 ha1) (z_cpq (by have := z_hr ha1; omega) (z_cpq (by have := z_hr ha1; omega) (z_hf2 ha1))) ?_
  refine wp_run 2 (pc' := 36) (ls' := [(2, 39), (2, a1)]) (st' := [(2, 39), (0, 0), (2, (a1 + 3))]) rfl ?_
  refine wp_gf (pc' := 39) (t := 2) (v := 42) rfl rfl (by decide) rfl rfl (z_cpq (by decide) (z_cpq (by decide) (fx_39_2 hF))) ?_
  refine wp_run 2 (pc' := 42) (ls' := [(2, 39), (2, a1)]) (st' := [(0, 25), (0, 0), (2, 42), (0, 0), (2, (a1 + 3))]) rfl ?_
  refine wp_acp (pc' := 45) rfl rfl (z_hl3 ha1) rfl (by decide) ?_
  refine wp_run 1 (pc' := 46) (ls' := [(2, 39), (2, a1)]) (st' := [(2, a1)]) rfl ?_
  refine wp_gf (pc' := 49) (t := 2) (v := (a1 + 4)) rfl rfl (by decide) rfl (z_hl0 ha1) (z_cpq (by have := z_hr ha1; omega) (z_cpq (by have := z_hr ha1; omega) (z_cpq (by have := z_hr ha1; omega) (z_hf3 ha1)))) ?_
  refine wp_run 2 (pc' := 51) (ls' := [(2, 39), (2, a1)]) (st' := [(2, 39), (0, 0), (2, (a1 + 4))]) rfl ?_
  refine wp_gf (pc' := 54) (t := 2) (v := 43) rfl rfl (by decide) rfl rfl (z_cpq (by decide) (z_cpq (by decide) (z_cpq (by decide) (fx_39_3 hF)))) ?_
  refine wp_run 2 (pc' := 57) (ls' := [(2, 39), (2, a1)]) (st' := [(0, 25), (0, 0), (2, 43), (0, 0), (2, (a1 + 4))]) rfl ?_
  refine wp_acp (pc' := 60) rfl rfl (z_hl4 ha1) rfl (by decide) ?_
  refine wp_run 1 (pc' := 61) (ls' := [(2, 39), (2, a1)]) (st' := [(2, a1)]) rfl ?_
  refine wp_gf (pc' := 64) (t := 2) (v := (a1 + 5)) rfl rfl (by decide) rfl (z_hl0 ha1) (z_cpq (by have := z_hr ha1; omega) (z_cpq (by have := z_hr ha1; omega) (z_cpq (by have := z_hr ha1; omega) (z_cpq (by have := z_hr ha1; omega) (z_hf4 ha1))))) ?_
  refine wp_run 2 (pc' := 66) (ls' := [(2, 39), (2, a1)]) (st' := [(2, 39), (0, 0), (2, (a1 + 5))]) rfl ?_
  refine wp_gf (pc' := 69) (t := 2) (v := 44) rfl rfl (by decide) rfl rfl (z_cpq (by decide) (z_cpq (by decide) (z_cpq (by decide) (z_cpq (by decide) (fx_39_4 hF))))) ?_
  refine wp_run 2 (pc' := 71) (ls' := [(2, 39), (2, a1)]) (st' := [(2, 39), (0, 0), (2, 44), (0, 0), (2, (a1 + 5))]) rfl ?_
  refine wp_gf (pc' := 74) (t := 2) (v := 44) rfl rfl (by decide) rfl rfl (z_cpq (by decide) (z_cpq (by decide) (z_cpq (by decide) (z_cpq (by decide) (fx_39_4 hF))))) ?_
  refine wp_len (pc' := 75) rfl rfl rfl (by decide) ?_
  refine wp_acp (pc' := 78) rfl rfl (z_hl5 ha1) rfl (by decide) ?_
  refine wp_run 2 (pc' := 80) (ls' := [(2, 39), (2, a1)]) (st' := [(2, a1), (2, 39)]) rfl ?_
  refine wp_gf (pc' := 83) (t := 0) (v := (M a1 5)) rfl rfl (by decide) rfl (z_hl0 ha1) (z_cpq (by have := z_hr ha1; omega) (z_cpq (by have := z_hr ha1; omega) (z_cpq (by have := z_hr ha1; omega) (z_cpq (by have := z_hr ha1; omega) (z_cpq (by have := z_hr ha1; omega) rfl))))) ?_
  refine wp_pf (pc' := 86) rfl rfl rfl rfl (fun z => absurd z (by decide)) (fun z => absurd z (by decide)) ?_
  refine wp_run 2 (pc' := 88) (ls' := [(2, 39), (2, a1)]) (st' := [(2, a1), (2, 39)]) rfl ?_
  refine wp_gf (pc' := 91) (t := 0) (v := (M a1 6)) rfl rfl (by decide) rfl (z_hl0 ha1) (z_upq (by have := z_hr ha1; omega) (z_cpq (by have := z_hr ha1; omega) (z_cpq (by have := z_hr ha1; omega) (z_cpq (by have := z_hr ha1; omega) (z_cpq (by have := z_hr ha1; omega) (z_cpq (by have := z_hr ha1; omega) rfl)))))) ?_
  refine wp_pf (pc' := 94) rfl rfl rfl rfl (fun z => absurd z (by decide)) (fun z => absurd z (by decide)) ?_
  refine wp_run 2 (pc' := 96) (ls' := [(2, 39), (2, a1)]) (st' := [(2, a1), (2, 39)]) rfl ?_
  refine wp_gf (pc' := 99) (t := 0) (v := (M a1 7)) rfl rfl (by decide) rfl (z_hl0 ha1) (z_upq (by have := z_hr ha1; omega) (z_upq (by have := z_hr ha1; omega) (z_cpq (by have := z_hr ha1; omega) (z_cpq (by have := z_hr ha1; omega) (z_cpq (by have := z_hr ha1; omega) (z_cpq (by have := z_hr ha1; omega) (z_cpq (by have := z_hr ha1; omega) rfl))))))) ?_
  refine wp_pf (pc' := 102) rfl rfl rfl rfl (fun z => absurd z (by decide)) (fun z => absurd z (by decide)) ?_
  refine wp_ret rfl rfl ?_
  show wp xs _ mX0_explains 8 [(2, 38), (2, a1), (0, a2), (2, 294), (0, a4), (0, a5), (3, 0)] [] z_LL (z_up (z_up (z_up (z_cpy (z_cpy (z_cpy (z_cpy (z_cpy M (a1 + 1) 0 40 0 6) (a1 + 2) 0 41 0 6) (a1 + 3) 0 42 0 25) (a1 + 4) 0 43 0 25) (a1 + 5) 0 44 0 36) 39 5 (M a1 5)) 39 6 (M a1 6)) 39 7 (M a1 7)) _
  refine wp_run 1 (pc' := 9) (ls' := [(2, 38), (2, a1), (0, a2), (2, 294), (0, a4), (0, a5), (3, 0)]) (st' := [(2, 38)]) rfl ?_
  refine wp_gf (pc' := 12) (t := 2) (v := 39) rfl rfl (by decide) rfl rfl (z_upq (by decide) (z_upq (by decide) (z_upq (by decide) (z_cpq (by decide) (z_cpq (by decide) (z_cpq (by decide) (z_cpq (by decide) (z_cpq (by decide) (fx_38_1 hF))))))))) ?_
  refine wp_gf (pc' := 15) (t := 2) (v := 43) rfl rfl (by decide) rfl rfl (z_upi (by decide) (z_upi (by decide) (z_upi (by decide) (z_cpq (by decide) (z_cpq (by decide) (z_cpq (by decide) (z_cpq (by decide) (z_cpq (by decide) (fx_39_3 hF))))))))) ?_
  refine wp_run 2 (pc' := 18) (ls' := [(2, 38), (2, a1), (0, a2), (2, 294), (0, a4), (0, a5), (3, 0)]) (st' := [(0, 9), (0, a2), (2, 43)]) rfl ?_
  refine wp_iast (pc' := 19) rfl rfl rfl (b1) ?_
  refine wp_run 2 (pc' := 22) (ls' := [(2, 38), (2, a1), (0, a2), (2, 294), (0, a4), (0, a5), (0, 0)]) (st' := []) rfl ?_
  exact l1
set_option maxRecDepth 20000 in
theorem gX0_explains_22 {xs : List Int} {d : Nat} {M : z_M} {P : Option z_V → z_L → z_M → Prop} {x1 : Int} {x2 : Int} {x4 : Int} {x5 : Int} {x6 : Int} (hF : z_fix M) (hx1 : z_her M x1)
    (l1 : (x5 < x6) → P (some (0, 1)) z_LL M)
    (l2 : (¬ (x5 < x6)) → wp xs d mX6_agree 0 [(2, 294), (2, 39), (0, x6), (0, x4), (3, 0), (3, 0)] [] z_LL M (fun r L1 M1 => wp xs (d + 1) mX0_explains 41 [(2, 38), (2, x1), (0, x2), (2, 294), (0, x4), (0, x5), (0, x6)] (z_ol r ++ []) L1 M1 P)) :
    wp xs (d + 1) mX0_explains 22 [(2, 38), (2, x1), (0, x2), (2, 294), (0, x4), (0, x5), (0, x6)] [] z_LL M P := by
  refine wp_run 2 (pc' := 26) (ls' := [(2, 38), (2, x1), (0, x2), (2, 294), (0, x4), (0, x5), (0, x6)]) (st' := [(0, x5), (0, x6)]) rfl ?_
  refine wp_if2 rfl rfl rfl (fun (c1 : x5 < x6) => ?_) (fun (c1 : ¬ (x5 < x6)) => ?_)
  · refine wp_run 1 (pc' := 82) (ls' := [(2, 38), (2, x1), (0, x2), (2, 294), (0, x4), (0, x5), (0, x6)]) (st' := [(0, 1)]) rfl ?_
    exact wp_ret rfl rfl (l1 c1)
  · refine wp_run 2 (pc' := 31) (ls' := [(2, 38), (2, x1), (0, x2), (2, 294), (0, x4), (0, x5), (0, x6)]) (st' := [(2, 38), (2, 294)]) rfl ?_
    refine wp_gf (pc' := 34) (t := 2) (v := 39) rfl rfl (by decide) rfl rfl (fx_38_1 hF) ?_
    refine wp_run 2 (pc' := 38) (ls' := [(2, 38), (2, x1), (0, x2), (2, 294), (0, x4), (0, x5), (0, x6)]) (st' := [(0, x4), (0, x6), (2, 39), (2, 294)]) rfl ?_
    refine wp_callv (pc' := 41) (as := [(2, 294), (2, 39), (0, x6), (0, x4)]) (rest := []) (ls1 := [(2, 294), (2, 39), (0, x6), (0, x4), (3, 0), (3, 0)]) rfl rfl rfl rfl rfl rfl ?_
    exact l2 c1
set_option maxRecDepth 20000 in
theorem gX0_explains_41 {xs : List Int} {d : Nat} {M : z_M} {P : Option z_V → z_L → z_M → Prop} {x1 : Int} {x2 : Int} {x4 : Int} {x5 : Int} {x6 : Int} {s0 : Int} (hF : z_fix M) (hx1 : z_her M x1) (hg2 : z_gor M (M 34 3))
    (l1 : (s0 ≠ 0) → (x5 ≤ x6) → wp xs (d + 1) mX0_explains 22 [(2, 38), (2, x1), (0, x2), (2, 294), (0, x4), (0, x5), (0, (z_w (x6 + 1)))] [] z_LL M P)
    (l2 : (s0 ≠ 0) → (¬ (x5 ≤ x6)) → wp xs d mX8_pass 0 [(2, 34), (2, 39), (0, (M (M 34 3) 18)), (3, 0)] [] z_LL M (fun r L1 M1 => wp xs (d + 1) mX0_explains 74 [(2, 38), (2, x1), (0, x2), (2, 294), (0, x4), (0, x5), (0, x6)] (z_ol r ++ []) L1 M1 P))
    (l3 : (¬ (s0 ≠ 0)) → P (some (0, 0)) z_LL M) :
    wp xs (d + 1) mX0_explains 41 [(2, 38), (2, x1), (0, x2), (2, 294), (0, x4), (0, x5), (0, x6)] [(0, s0)] z_LL M P := by
  refine wp_if1 rfl rfl rfl (fun (c1 : s0 ≠ 0) => ?_) (fun (c1 : ¬ (s0 ≠ 0)) => ?_)
  · refine wp_run 2 (pc' := 50) (ls' := [(2, 38), (2, x1), (0, x2), (2, 294), (0, x4), (0, x5), (0, x6)]) (st' := [(0, x5), (0, x6)]) rfl ?_
    refine wp_if2 rfl rfl rfl (fun (c2 : x5 ≤ x6) => ?_) (fun (c2 : ¬ (x5 ≤ x6)) => ?_)
    · refine wp_run 2 (pc' := 22) (ls' := [(2, 38), (2, x1), (0, x2), (2, 294), (0, x4), (0, x5), (0, (z_w (x6 + 1)))]) (st' := []) rfl ?_
      exact l1 c1 c2
    · refine wp_run 1 (pc' := 54) (ls' := [(2, 38), (2, x1), (0, x2), (2, 294), (0, x4), (0, x5), (0, x6)]) (st' := [(2, 38)]) rfl ?_
      refine wp_gf (pc' := 57) (t := 2) (v := 34) rfl rfl (by decide) rfl rfl (fx_38_0 hF) ?_
      refine wp_run 1 (pc' := 58) (ls' := [(2, 38), (2, x1), (0, x2), (2, 294), (0, x4), (0, x5), (0, x6)]) (st' := [(2, 38), (2, 34)]) rfl ?_
      refine wp_gf (pc' := 61) (t := 2) (v := 39) rfl rfl (by decide) rfl rfl (fx_38_1 hF) ?_
      refine wp_run 1 (pc' := 62) (ls' := [(2, 38), (2, x1), (0, x2), (2, 294), (0, x4), (0, x5), (0, x6)]) (st' := [(2, 38), (2, 39), (2, 34)]) rfl ?_
      refine wp_gf (pc' := 65) (t := 2) (v := 34) rfl rfl (by decide) rfl rfl (fx_38_0 hF) ?_
      refine wp_gf (pc' := 68) (t := 2) (v := (M 34 3)) rfl rfl (by decide) rfl rfl rfl ?_
      refine wp_gf (pc' := 71) (t := 0) (v := (M (M 34 3) 18)) rfl rfl (by decide) rfl (z_gl0 hg2) rfl ?_
      refine wp_callv (pc' := 74) (as := [(2, 34), (2, 39), (0, (M (M 34 3) 18))]) (rest := []) (ls1 := [(2, 34), (2, 39), (0, (M (M 34 3) 18)), (3, 0)]) rfl rfl rfl rfl rfl rfl ?_
      exact l2 c1 c2
  · refine wp_run 1 (pc' := 45) (ls' := [(2, 38), (2, x1), (0, x2), (2, 294), (0, x4), (0, x5), (0, x6)]) (st' := [(0, 0)]) rfl ?_
    exact wp_ret rfl rfl (l3 c1)
set_option maxRecDepth 20000 in
theorem gX0_explains_74 {xs : List Int} {d : Nat} {M : z_M} {P : Option z_V → z_L → z_M → Prop} {x1 : Int} {x2 : Int} {x4 : Int} {x5 : Int} {x6 : Int} {s0 : Int} (hx1 : z_her M x1)
    (l1 : wp xs d mX0_explains 22 [(2, 38), (2, x1), (0, x2), (2, 294), (0, x4), (0, x5), (0, (z_w (x6 + 1)))] [] z_LL M P) :
    wp xs d mX0_explains 74 [(2, 38), (2, x1), (0, x2), (2, 294), (0, x4), (0, x5), (0, x6)] [(0, s0)] z_LL M P := by
  refine wp_run 3 (pc' := 22) (ls' := [(2, 38), (2, x1), (0, x2), (2, 294), (0, x4), (0, x5), (0, (z_w (x6 + 1)))]) (st' := []) rfl ?_
  exact l1
set_option maxRecDepth 20000 in
theorem gX0_saltedAtNight_0 {xs : List Int} {d : Nat} {M : z_M} {P : Option z_V → z_L → z_M → Prop} {a1 : Int} {a3 : Int} (ha1 : z_her M a1)
    (l1 : wp xs d mX6_lastDay 0 [(2, 294), (0, a3), (3, 0), (3, 0)] [] z_LL M (fun r L1 M1 => wp xs (d + 1) mX0_saltedAtNight 8 [(2, 38), (2, a1), (2, 294), (0, a3), (0, 0), (3, 0), (3, 0)] (z_ol r ++ []) L1 M1 P)) :
    wp xs (d + 1) mX0_saltedAtNight 0 [(2, 38), (2, a1), (2, 294), (0, a3), (3, 0), (3, 0), (3, 0)] [] z_LL M P := by
  refine wp_run 4 (pc' := 5) (ls' := [(2, 38), (2, a1), (2, 294), (0, a3), (0, 0), (3, 0), (3, 0)]) (st' := [(0, a3), (2, 294)]) rfl ?_
  refine wp_callv (pc' := 8) (as := [(2, 294), (0, a3)]) (rest := []) (ls1 := [(2, 294), (0, a3), (3, 0), (3, 0)]) rfl rfl rfl rfl rfl rfl ?_
  exact l1
set_option maxRecDepth 20000 in
theorem gX0_saltedAtNight_8 {xs : List Int} {d : Nat} {M : z_M} {P : Option z_V → z_L → z_M → Prop} {x1 : Int} {x3 : Int} {x4 : Int} {s0 : Int} (hx1 : z_her M x1)
    (l1 : wp xs d mX0_saltedAtNight 13 [(2, 38), (2, x1), (2, 294), (0, x3), (0, x4), (0, s0), (0, 0)] [] z_LL M P) :
    wp xs d mX0_saltedAtNight 8 [(2, 38), (2, x1), (2, 294), (0, x3), (0, x4), (3, 0), (3, 0)] [(0, s0)] z_LL M P := by
  refine wp_run 3 (pc' := 13) (ls' := [(2, 38), (2, x1), (2, 294), (0, x3), (0, x4), (0, s0), (0, 0)]) (st' := []) rfl ?_
  exact l1
set_option maxRecDepth 20000 in
theorem gX0_saltedAtNight_13 {xs : List Int} {d : Nat} {M : z_M} {P : Option z_V → z_L → z_M → Prop} {x1 : Int} {x3 : Int} {x4 : Int} {x5 : Int} {x6 : Int} (hF : z_fix M) (hx1 : z_her M x1) (hg2 : z_gor M (M 34 3))
    (l1 : ((z_w ((M (M 34 3) 10) * (M (M 34 3) 11))) ≤ x6) → P (some (0, x4)) z_LL M)
    (b1 : (¬ ((z_w ((M (M 34 3) 10) * (M (M 34 3) 11))) ≤ x6)) → 0 ≤ x6 ∧ x6 < 25)
    (l2 : (¬ ((z_w ((M (M 34 3) 10) * (M (M 34 3) 11))) ≤ x6)) → ((M (x1 + 4) x6) ≠ 0) → wp xs (d + 1) mX0_saltedAtNight 13 [(2, 38), (2, x1), (2, 294), (0, x3), (0, x4), (0, x5), (0, (z_w (x6 + 1)))] [] z_LL M P)
    (l3 : (¬ ((z_w ((M (M 34 3) 10) * (M (M 34 3) 11))) ≤ x6)) → (¬ ((M (x1 + 4) x6) ≠ 0)) → wp xs d mX0_explains 0 [(2, 38), (2, x1), (0, x6), (2, 294), (0, x3), (0, x5), (3, 0)] [] z_LL M (fun r L1 M1 => wp xs (d + 1) mX0_saltedAtNight 49 [(2, 38), (2, x1), (2, 294), (0, x3), (0, x4), (0, x5), (0, x6)] (z_ol r ++ []) L1 M1 P)) :
    wp xs (d + 1) mX0_saltedAtNight 13 [(2, 38), (2, x1), (2, 294), (0, x3), (0, x4), (0, x5), (0, x6)] [] z_LL M P := by
  refine wp_run 2 (pc' := 16) (ls' := [(2, 38), (2, x1), (2, 294), (0, x3), (0, x4), (0, x5), (0, x6)]) (st' := [(2, 38), (0, x6)]) rfl ?_
  refine wp_gf (pc' := 19) (t := 2) (v := 34) rfl rfl (by decide) rfl rfl (fx_38_0 hF) ?_
  refine wp_gf (pc' := 22) (t := 2) (v := (M 34 3)) rfl rfl (by decide) rfl rfl rfl ?_
  refine wp_callv (pc' := 25) (as := [(2, (M 34 3))]) (rest := [(0, x6)]) (ls1 := [(2, (M 34 3))]) rfl rfl rfl rfl (z_args_v rfl rfl rfl rfl (Nat.le_of_ble_eq_true rfl) rfl (by decide) (z_gl0 hg2)) rfl ?_
  refine wp_run 1 (pc' := 1) (ls' := [(2, (M 34 3))]) (st' := [(2, (M 34 3))]) rfl ?_
  refine wp_gf (pc' := 4) (t := 0) (v := (M (M 34 3) 10)) rfl rfl (by decide) rfl (z_gl0 hg2) rfl ?_
  refine wp_run 1 (pc' := 5) (ls' := [(2, (M 34 3))]) (st' := [(2, (M 34 3)), (0, (M (M 34 3) 10))]) rfl ?_
  refine wp_gf (pc' := 8) (t := 0) (v := (M (M 34 3) 11)) rfl rfl (by decide) rfl (z_gl0 hg2) rfl ?_
  refine wp_run 1 (pc' := 9) (ls' := [(2, (M 34 3))]) (st' := [(0, (z_w ((M (M 34 3) 10) * (M (M 34 3) 11))))]) rfl ?_
  refine wp_ret rfl rfl ?_
  show wp xs _ mX0_saltedAtNight 25 [(2, 38), (2, x1), (2, 294), (0, x3), (0, x4), (0, x5), (0, x6)] [(0, (z_w ((M (M 34 3) 10) * (M (M 34 3) 11)))), (0, x6)] z_LL M _
  refine wp_if2 rfl rfl rfl (fun (c1 : (z_w ((M (M 34 3) 10) * (M (M 34 3) 11))) ≤ x6) => ?_) (fun (c1 : ¬ ((z_w ((M (M 34 3) 10) * (M (M 34 3) 11))) ≤ x6)) => ?_)
  · refine wp_run 1 (pc' := 69) (ls' := [(2, 38), (2, x1), (2, 294), (0, x3), (0, x4), (0, x5), (0, x6)]) (st' := [(0, x4)]) rfl ?_
    exact wp_ret rfl rfl (l1 c1)
  · refine wp_run 1 (pc' := 29) (ls' := [(2, 38), (2, x1), (2, 294), (0, x3), (0, x4), (0, x5), (0, x6)]) (st' := [(2, x1)]) rfl ?_
    refine wp_gf (pc' := 32) (t := 2) (v := (x1 + 4)) rfl rfl (by decide) rfl (z_hl0 hx1) (z_hf3 hx1) ?_
    refine wp_run 1 (pc' := 34) (ls' := [(2, 38), (2, x1), (2, 294), (0, x3), (0, x4), (0, x5), (0, x6)]) (st' := [(0, x6), (2, (x1 + 4))]) rfl ?_
    refine wp_iald (pc' := 35) (v := (M (x1 + 4) x6)) rfl rfl (z_hl4 hx1) (b1 c1) rfl ?_
    refine wp_if1 rfl rfl rfl (fun (c2 : (M (x1 + 4) x6) ≠ 0) => ?_) (fun (c2 : ¬ ((M (x1 + 4) x6) ≠ 0)) => ?_)
    · refine wp_run 2 (pc' := 13) (ls' := [(2, 38), (2, x1), (2, 294), (0, x3), (0, x4), (0, x5), (0, (z_w (x6 + 1)))]) (st' := []) rfl ?_
      exact l2 c1 c2
    · refine wp_run 6 (pc' := 46) (ls' := [(2, 38), (2, x1), (2, 294), (0, x3), (0, x4), (0, x5), (0, x6)]) (st' := [(0, x5), (0, x3), (2, 294), (0, x6), (2, x1), (2, 38)]) rfl ?_
      refine wp_callv (pc' := 49) (as := [(2, 38), (2, x1), (0, x6), (2, 294), (0, x3), (0, x5)]) (rest := []) (ls1 := [(2, 38), (2, x1), (0, x6), (2, 294), (0, x3), (0, x5), (3, 0)]) rfl rfl rfl rfl rfl rfl ?_
      exact l3 c1 c2
set_option maxRecDepth 20000 in
theorem gX0_saltedAtNight_49 {xs : List Int} {d : Nat} {M : z_M} {P : Option z_V → z_L → z_M → Prop} {x1 : Int} {x3 : Int} {x4 : Int} {x5 : Int} {x6 : Int} {s0 : Int} (hx1 : z_her M x1)
    (l1 : (s0 = 0) → wp xs d mX0_saltedAtNight 13 [(2, 38), (2, x1), (2, 294), (0, x3), (0, x4), (0, x5), (0, (z_w (x6 + 1)))] [] z_LL M P)
    (l2 : (¬ (s0 = 0)) → wp xs d mX0_saltedAtNight 13 [(2, 38), (2, x1), (2, 294), (0, x3), (0, (z_or x4 (z_shl 1 x6))), (0, x5), (0, (z_w (x6 + 1)))] [] z_LL M P) :
    wp xs d mX0_saltedAtNight 49 [(2, 38), (2, x1), (2, 294), (0, x3), (0, x4), (0, x5), (0, x6)] [(0, s0)] z_LL M P := by
  refine wp_if1 rfl rfl rfl (fun (c1 : s0 = 0) => ?_) (fun (c1 : ¬ (s0 = 0)) => ?_)
  · refine wp_run 2 (pc' := 13) (ls' := [(2, 38), (2, x1), (2, 294), (0, x3), (0, x4), (0, x5), (0, (z_w (x6 + 1)))]) (st' := []) rfl ?_
    exact l1 c1
  · refine wp_run 8 (pc' := 13) (ls' := [(2, 38), (2, x1), (2, 294), (0, x3), (0, (z_or x4 (z_shl 1 x6))), (0, x5), (0, (z_w (x6 + 1)))]) (st' := []) rfl ?_
    exact l2 c1
set_option maxRecDepth 20000 in
theorem gX9_ledges_0 {xs : List Int} {d : Nat} {M : z_M} {P : Option z_V → z_L → z_M → Prop} {a1 : Int} (hF : z_fix M) (hh1 : z_her M (M 1 2))
    (l1 : wp xs d mX0_saltedAtNight 0 [(2, 38), (2, (M 1 2)), (2, 294), (0, a1), (3, 0), (3, 0), (3, 0)] [] z_LL M (fun r L1 M1 => wp xs (d + 1) mX9_ledges 16 [(2, 1), (0, a1)] (z_ol r ++ []) L1 M1 P)) :
    wp xs (d + 1) mX9_ledges 0 [(2, 1), (0, a1)] [] z_LL M P := by
  refine wp_run 1 (pc' := 1) (ls' := [(2, 1), (0, a1)]) (st' := [(2, 1)]) rfl ?_
  refine wp_gf (pc' := 4) (t := 2) (v := 38) rfl rfl (by decide) rfl rfl (fx_1_6 hF) ?_
  refine wp_run 1 (pc' := 5) (ls' := [(2, 1), (0, a1)]) (st' := [(2, 1), (2, 38)]) rfl ?_
  refine wp_gf (pc' := 8) (t := 2) (v := (M 1 2)) rfl rfl (by decide) rfl rfl rfl ?_
  refine wp_run 1 (pc' := 9) (ls' := [(2, 1), (0, a1)]) (st' := [(2, 1), (2, (M 1 2)), (2, 38)]) rfl ?_
  refine wp_gf (pc' := 12) (t := 2) (v := 294) rfl rfl (by decide) rfl rfl (fx_1_9 hF) ?_
  refine wp_run 1 (pc' := 13) (ls' := [(2, 1), (0, a1)]) (st' := [(0, a1), (2, 294), (2, (M 1 2)), (2, 38)]) rfl ?_
  refine wp_callv (pc' := 16) (as := [(2, 38), (2, (M 1 2)), (2, 294), (0, a1)]) (rest := []) (ls1 := [(2, 38), (2, (M 1 2)), (2, 294), (0, a1), (3, 0), (3, 0), (3, 0)]) rfl rfl rfl rfl rfl rfl ?_
  exact l1
set_option maxRecDepth 20000 in
theorem gX9_ledges_16 {xs : List Int} {d : Nat} {M : z_M} {P : Option z_V → z_L → z_M → Prop} {x1 : Int} {s0 : Int} 
    (l1 : P (some (0, s0)) z_LL M) :
    wp xs d mX9_ledges 16 [(2, 1), (0, x1)] [(0, s0)] z_LL M P := by
  exact wp_ret rfl rfl (l1)
set_option maxRecDepth 20000 in
theorem gX10_isLedge_0 {xs : List Int} {d : Nat} {M : z_M} {P : Option z_V → z_L → z_M → Prop} {a1 : Int} {a2 : Int} (hF : z_fix M) 
    (b1 : (0 ≤ a1 ∧ a1 < 25))
    (l1 : ((M 342 (79 + a1) = 0)) → wp xs d mX10_load 0 [(2, 321), (3, 0)] [] z_LL M (fun r L1 M1 => wp xs (d + 1) mX10_isLedge 14 [(2, 321), (0, a1), (0, a2), (3, 0), (3, 0)] (z_ol r ++ []) L1 M1 P))
    (l2 : (¬ (M 342 (79 + a1) = 0)) → P (some (0, 0)) z_LL M) :
    wp xs (d + 1) mX10_isLedge 0 [(2, 321), (0, a1), (0, a2), (3, 0), (3, 0)] [] z_LL M P := by
  refine wp_run 2 (pc' := 2) (ls' := [(2, 321), (0, a1), (0, a2), (3, 0), (3, 0)]) (st' := [(0, a1), (2, 321)]) rfl ?_
  refine wp_callv (pc' := 5) (as := [(2, 321), (0, a1)]) (rest := []) (ls1 := [(2, 321), (0, a1)]) rfl rfl rfl rfl rfl rfl ?_
  refine s_X10_isFree hF (b1) ?_
  show wp xs _ mX10_isLedge 5 [(2, 321), (0, a1), (0, a2), (3, 0), (3, 0)] [(0, (z_b (M 342 (79 + a1) = 0)))] z_LL M _
  refine wp_bn rfl rfl rfl (fun (c1 : (M 342 (79 + a1) = 0)) => ?_) (fun (c1 : ¬ (M 342 (79 + a1) = 0)) => ?_)
  · refine wp_run 1 (pc' := 11) (ls' := [(2, 321), (0, a1), (0, a2), (3, 0), (3, 0)]) (st' := [(2, 321)]) rfl ?_
    refine wp_callv (pc' := 14) (as := [(2, 321)]) (rest := []) (ls1 := [(2, 321), (3, 0)]) rfl rfl rfl rfl rfl rfl ?_
    exact l1 c1
  · refine wp_run 1 (pc' := 9) (ls' := [(2, 321), (0, a1), (0, a2), (3, 0), (3, 0)]) (st' := [(0, 0)]) rfl ?_
    exact wp_ret rfl rfl (l2 c1)
set_option maxRecDepth 20000 in
theorem gX10_isLedge_14 {xs : List Int} {d : Nat} {M : z_M} {P : Option z_V → z_L → z_M → Prop} {x1 : Int} {x2 : Int} (hF : z_fix M) 
    (b1 : 0 ≤ (z_w (79 + x1)) ∧ (z_w (79 + x1)) < 106)
    (l1 : wp xs d mX10_isSeenSo 0 [(2, 321), (0, 0), (0, x2), (3, 0), (3, 0)] [] z_LL (z_up M 343 (z_w (79 + x1)) 9) (fun r L1 M1 => wp xs (d + 1) mX10_isLedge 31 [(2, 321), (0, x1), (0, x2), (3, 0), (3, 0)] (z_ol r ++ []) L1 M1 P)) :
    wp xs (d + 1) mX10_isLedge 14 [(2, 321), (0, x1), (0, x2), (3, 0), (3, 0)] [] z_LL M P := by
  refine wp_run 1 (pc' := 15) (ls' := [(2, 321), (0, x1), (0, x2), (3, 0), (3, 0)]) (st' := [(2, 321)]) rfl ?_
  refine wp_gf (pc' := 18) (t := 2) (v := 343) rfl rfl (by decide) rfl rfl (fx_321_61 hF) ?_
  refine wp_run 4 (pc' := 24) (ls' := [(2, 321), (0, x1), (0, x2), (3, 0), (3, 0)]) (st' := [(0, 9), (0, (z_w (79 + x1))), (2, 343)]) rfl ?_
  refine wp_iast (pc' := 25) rfl rfl rfl (b1) ?_
  refine wp_run 3 (pc' := 28) (ls' := [(2, 321), (0, x1), (0, x2), (3, 0), (3, 0)]) (st' := [(0, x2), (0, 0), (2, 321)]) rfl ?_
  refine wp_callv (pc' := 31) (as := [(2, 321), (0, 0), (0, x2)]) (rest := []) (ls1 := [(2, 321), (0, 0), (0, x2), (3, 0), (3, 0)]) rfl rfl rfl rfl rfl rfl ?_
  exact l1
set_option maxRecDepth 20000 in
theorem gX10_isLedge_31 {xs : List Int} {d : Nat} {M : z_M} {P : Option z_V → z_L → z_M → Prop} {x1 : Int} {x2 : Int} {s0 : Int} 
    (l1 : wp xs d mX10_isLedge 35 [(2, 321), (0, x1), (0, x2), (0, s0), (0, 1)] [] z_LL M P) :
    wp xs d mX10_isLedge 31 [(2, 321), (0, x1), (0, x2), (3, 0), (3, 0)] [(0, s0)] z_LL M P := by
  refine wp_run 3 (pc' := 35) (ls' := [(2, 321), (0, x1), (0, x2), (0, s0), (0, 1)]) (st' := []) rfl ?_
  exact l1
set_option maxRecDepth 20000 in
theorem gX10_isLedge_35 {xs : List Int} {d : Nat} {M : z_M} {P : Option z_V → z_L → z_M → Prop} {x1 : Int} {x2 : Int} {x3 : Int} {x4 : Int} 
    (b1 : (9 < x4) → x3 = 0 ∨ x3 = 1)
    (l1 : (9 < x4) → P (some (0, x3)) z_LL M)
    (b2 : (¬ (9 < x4)) → (x3 = 0) → x3 = 0 ∨ x3 = 1)
    (l2 : (¬ (9 < x4)) → (x3 = 0) → P (some (0, x3)) z_LL M)
    (l3 : (¬ (9 < x4)) → (¬ (x3 = 0)) → wp xs d mX10_goDay 0 [(2, 321), (0, (M 321 52)), (3, 0), (3, 0)] [] z_LL M (fun r L1 M1 => wp xs (d + 1) mX10_isLedge 54 [(2, 321), (0, x1), (0, x2), (0, x3), (0, x4)] (z_ol r ++ []) L1 M1 P)) :
    wp xs (d + 1) mX10_isLedge 35 [(2, 321), (0, x1), (0, x2), (0, x3), (0, x4)] [] z_LL M P := by
  refine wp_run 2 (pc' := 39) (ls' := [(2, 321), (0, x1), (0, x2), (0, x3), (0, x4)]) (st' := [(0, 9), (0, x4)]) rfl ?_
  refine wp_if2 rfl rfl rfl (fun (c1 : 9 < x4) => ?_) (fun (c1 : ¬ (9 < x4)) => ?_)
  · refine wp_run 1 (pc' := 70) (ls' := [(2, 321), (0, x1), (0, x2), (0, x3), (0, x4)]) (st' := [(0, x3)]) rfl ?_
    exact wp_retz rfl rfl rfl (b1 c1) (l1 c1)
  · refine wp_run 1 (pc' := 43) (ls' := [(2, 321), (0, x1), (0, x2), (0, x3), (0, x4)]) (st' := [(0, x3)]) rfl ?_
    refine wp_if1 rfl rfl rfl (fun (c2 : x3 = 0) => ?_) (fun (c2 : ¬ (x3 = 0)) => ?_)
    · refine wp_run 1 (pc' := 70) (ls' := [(2, 321), (0, x1), (0, x2), (0, x3), (0, x4)]) (st' := [(0, x3)]) rfl ?_
      exact wp_retz rfl rfl rfl (b2 c1 c2) (l2 c1 c2)
    · refine wp_run 2 (pc' := 48) (ls' := [(2, 321), (0, x1), (0, x2), (0, x3), (0, x4)]) (st' := [(2, 321), (2, 321)]) rfl ?_
      refine wp_gf (pc' := 51) (t := 0) (v := (M 321 52)) rfl rfl (by decide) rfl rfl rfl ?_
      refine wp_callv (pc' := 54) (as := [(2, 321), (0, (M 321 52))]) (rest := []) (ls1 := [(2, 321), (0, (M 321 52)), (3, 0), (3, 0)]) rfl rfl rfl rfl rfl rfl ?_
      exact l3 c1 c2
set_option maxRecDepth 20000 in
theorem gX10_isLedge_54 {xs : List Int} {d : Nat} {M : z_M} {P : Option z_V → z_L → z_M → Prop} {x1 : Int} {x2 : Int} {x3 : Int} {x4 : Int} {s0 : Int} 
    (l1 : wp xs d mX10_isSeenSo 0 [(2, 321), (0, x4), (0, x2), (3, 0), (3, 0)] [] z_LL M (fun r L1 M1 => wp xs (d + 1) mX10_isLedge 62 [(2, 321), (0, x1), (0, x2), (0, x3), (0, x4)] (z_ol r ++ []) L1 M1 P)) :
    wp xs (d + 1) mX10_isLedge 54 [(2, 321), (0, x1), (0, x2), (0, x3), (0, x4)] [(0, s0)] z_LL M P := by
  refine wp_run 4 (pc' := 59) (ls' := [(2, 321), (0, x1), (0, x2), (0, x3), (0, x4)]) (st' := [(0, x2), (0, x4), (2, 321)]) rfl ?_
  refine wp_callv (pc' := 62) (as := [(2, 321), (0, x4), (0, x2)]) (rest := []) (ls1 := [(2, 321), (0, x4), (0, x2), (3, 0), (3, 0)]) rfl rfl rfl rfl rfl rfl ?_
  exact l1
set_option maxRecDepth 20000 in
theorem gX10_isLedge_62 {xs : List Int} {d : Nat} {M : z_M} {P : Option z_V → z_L → z_M → Prop} {x1 : Int} {x2 : Int} {x3 : Int} {x4 : Int} {s0 : Int} 
    (l1 : wp xs d mX10_isLedge 35 [(2, 321), (0, x1), (0, x2), (0, s0), (0, (z_w (x4 + 1)))] [] z_LL M P) :
    wp xs d mX10_isLedge 62 [(2, 321), (0, x1), (0, x2), (0, x3), (0, x4)] [(0, s0)] z_LL M P := by
  refine wp_run 3 (pc' := 35) (ls' := [(2, 321), (0, x1), (0, x2), (0, s0), (0, (z_w (x4 + 1)))]) (st' := []) rfl ?_
  exact l1
set_option maxRecDepth 20000 in
theorem gX10_ledges_0 {xs : List Int} {d : Nat} {M : z_M} {P : Option z_V → z_L → z_M → Prop} {a1 : Int} 
    (l1 : wp xs d mX10_ledges 4 [(2, 321), (0, a1), (0, 0), (0, 0)] [] z_LL M P) :
    wp xs d mX10_ledges 0 [(2, 321), (0, a1), (3, 0), (3, 0)] [] z_LL M P := by
  refine wp_run 4 (pc' := 4) (ls' := [(2, 321), (0, a1), (0, 0), (0, 0)]) (st' := []) rfl ?_
  exact l1
set_option maxRecDepth 20000 in
theorem gX10_ledges_4 {xs : List Int} {d : Nat} {M : z_M} {P : Option z_V → z_L → z_M → Prop} {x1 : Int} {x2 : Int} {x3 : Int} (hF : z_fix M) (hC : z_mc M) 
    (l1 : ((M 321 46 * M 321 47) ≤ x3) → P (some (0, x2)) z_LL M)
    (l2 : (¬ ((M 321 46 * M 321 47) ≤ x3)) → wp xs d mX10_isLedge 0 [(2, 321), (0, x3), (0, x1), (3, 0), (3, 0)] [] z_LL M (fun r L1 M1 => wp xs (d + 1) mX10_ledges 19 [(2, 321), (0, x1), (0, x2), (0, x3)] (z_ol r ++ [(0, x2)]) L1 M1 P)) :
    wp xs (d + 1) mX10_ledges 4 [(2, 321), (0, x1), (0, x2), (0, x3)] [] z_LL M P := by
  refine wp_run 2 (pc' := 6) (ls' := [(2, 321), (0, x1), (0, x2), (0, x3)]) (st' := [(2, 321), (0, x3)]) rfl ?_
  refine wp_callv (pc' := 9) (as := [(2, 321)]) (rest := [(0, x3)]) (ls1 := [(2, 321)]) rfl rfl rfl rfl rfl rfl ?_
  refine s_X10_all hF hC ?_
  show wp xs _ mX10_ledges 9 [(2, 321), (0, x1), (0, x2), (0, x3)] [(0, (M 321 46 * M 321 47)), (0, x3)] z_LL M _
  refine wp_if2 rfl rfl rfl (fun (c1 : (M 321 46 * M 321 47) ≤ x3) => ?_) (fun (c1 : ¬ ((M 321 46 * M 321 47) ≤ x3)) => ?_)
  · refine wp_run 1 (pc' := 33) (ls' := [(2, 321), (0, x1), (0, x2), (0, x3)]) (st' := [(0, x2)]) rfl ?_
    exact wp_ret rfl rfl (l1 c1)
  · refine wp_run 4 (pc' := 16) (ls' := [(2, 321), (0, x1), (0, x2), (0, x3)]) (st' := [(0, x1), (0, x3), (2, 321), (0, x2)]) rfl ?_
    refine wp_callv (pc' := 19) (as := [(2, 321), (0, x3), (0, x1)]) (rest := [(0, x2)]) (ls1 := [(2, 321), (0, x3), (0, x1), (3, 0), (3, 0)]) rfl rfl rfl rfl rfl rfl ?_
    exact l2 c1
set_option maxRecDepth 20000 in
theorem gX10_ledges_19 {xs : List Int} {d : Nat} {M : z_M} {P : Option z_V → z_L → z_M → Prop} {x1 : Int} {x2 : Int} {x3 : Int} {s0 : Int} {s1 : Int} 
    (b1 : (s1 = 0 ∨ s1 = 1))
    (l1 : wp xs (d + 1) mX10_ledges 4 [(2, 321), (0, x1), (0, (z_or s0 (z_shl s1 x3))), (0, (z_w (x3 + 1)))] [] z_LL M P) :
    wp xs (d + 1) mX10_ledges 19 [(2, 321), (0, x1), (0, x2), (0, x3)] [(0, s1), (0, s0)] z_LL M P := by
  refine wp_callv (pc' := 22) (as := [(0, s1)]) (rest := [(0, s0)]) (ls1 := [(0, s1)]) rfl rfl rfl rfl rfl rfl ?_
  refine s_X10_truth (b1) ?_
  show wp xs _ mX10_ledges 22 [(2, 321), (0, x1), (0, x2), (0, x3)] [(0, s1), (0, s0)] z_LL M _
  refine wp_run 6 (pc' := 4) (ls' := [(2, 321), (0, x1), (0, (z_or s0 (z_shl s1 x3))), (0, (z_w (x3 + 1)))]) (st' := []) rfl ?_
  exact l1
section
variable {xs : List Int} {d : Nat} {M : z_M}
theorem z_ags_q {M' : z_M} (h : ∀ q, q = 321 ∨ (349 ≤ q ∧ q ≤ 354) → M' q = M q) : z_ags M' = z_ags M := by
  funext s n k
  unfold z_ags z_knm
  rw [h 321 (by omega), h 349 (by omega), h 350 (by omega), h 351 (by omega), h 352 (by omega), h 353 (by omega), h 354 (by omega)]
theorem z_kn_e (hR : z_R M) {i k : Int} (h0 : 0 ≤ i) (h1 : i < M 321 76) : z_kno M i k ↔ z_knm M i k := by
  obtain ⟨s1, s2, s3⟩ := z_R_Rs hR
  obtain ⟨t1, t2, t3, t4, t5, t6⟩ := s3 i h0 h1
  unfold z_kno z_knm
  rw [t1.2.2.2.2.1, t1.2.2.2.2.2]
  omega
theorem s_X6_agree {P : Option z_V → z_L → z_M → Prop} {h n k : Int} {s : Int → Int} (hR : z_R M) (hH : z_hrd M h s) (kk : P (some (0, z_b (z_ags M s n k))) z_LL M) : wp xs (d + 1) mX6_agree 0 [(2, 294), (2, h), (0, n), (0, k), (3, 0), (3, 0)] [] z_LL M P := by
  obtain ⟨s1, s2, s3⟩ := z_R_Rs hR
  have hn := (z_R_C hR).2.2.1
  refine gX6_agree_0 hH.1 ?_
  refine z_loop (W := fun i => ∀ w5 : z_V, (∀ j : Int, 0 ≤ j → j < i → M 349 j = n → z_knm M j k → (s (M 350 j) = M 351 j ↔ M 354 j = 1)) → wp xs (d + 1) mX6_agree 3 [(2, 294), (2, h), (0, n), (0, k), (0, (i : Int)), w5] [] z_LL M P) (M 321 76).toNat (fun i hi ih w5 hv => ?_) _ (fun j a b => by omega)
  have g := gX6_agree_3 (M := M) (xs := xs) (d := d) (P := P) (x1 := h) (x2 := n) (x3 := k) (x4 := (i : Int)) (w5 := w5) (z_R_F hR) hH.1
  rw [s1.1, z_in1 (i := i) (by omega)] at g
  by_cases hlt : (i : Int) < M 321 76
  · obtain ⟨t1, t2, t3, t4, t5, t6⟩ := s3 i (by omega) hlt
    have ke := z_kn_e (k := k) hR (i := (i : Int)) (by omega) hlt
    rw [t1.1, t1.2.1, t1.2.2.1, t1.2.2.2.1, (hH.2.1 _ t3.1 t3.2).1, ke] at g
    have hgo : (M 349 i = n → z_knm M i k → (s (M 350 i) = M 351 i ↔ M 354 i = 1)) → ∀ w, wp xs (d + 1) mX6_agree 3 [(2, 294), (2, h), (0, n), (0, k), (0, ((i + 1 : Nat) : Int)), w] [] z_LL M P := fun q w => ih (by omega) w (fun j a b => by
      by_cases e : j = i
      · rw [e]
        exact q
      · exact hv j a (by omega))
    have hno : M 349 i = n → z_knm M i k → ¬ (s (M 350 i) = M 351 i ↔ M 354 i = 1) → P (some (0, 0)) z_LL M := fun q1 q2 q3 => by
      rw [z_b_f (fun w => q3 (w i (by omega) hlt q1 q2))] at kk
      exact kk
    apply g
    case b1 => intros; omega
    case b2 => intros; omega
    case b3 => intros; omega
    case b4 => intros; omega
    case b5 => intros; omega
    case b6 => intros; omega
    case l1 => intros; omega
    case l2 => exact fun _ _ _ c => hgo (fun e => absurd e c) _
    case l3 => exact fun _ _ _ _ c => hgo (fun _ e => absurd e c) _
    case l4 => exact fun _ c1 c2 c3 c4 => hno (Classical.byContradiction c3) c4 (fun w => c1 (w.mpr (by omega)))
    case l5 => exact fun _ _ _ c => hgo (fun e => absurd e c) _
    case l6 => exact fun _ _ _ _ c => hgo (fun _ e => absurd e c) _
    case l7 => exact fun _ c1 c2 _ _ => hgo (fun _ _ => ⟨fun w => absurd w c1, fun w => by omega⟩) _
    case l8 => exact fun _ _ _ c => hgo (fun e => absurd e c) _
    case l9 => exact fun _ _ _ _ c => hgo (fun _ e => absurd e c) _
    case l10 => exact fun _ c1 c2 c3 c4 => hno (Classical.byContradiction c3) c4 (fun w => c2 (w.mp (Classical.byContradiction c1)).symm)
    case l11 => exact fun _ _ _ c => hgo (fun e => absurd e c) _
    case l12 => exact fun _ _ _ _ c => hgo (fun _ e => absurd e c) _
    case l13 => exact fun _ c1 c2 _ _ => hgo (fun _ _ => ⟨fun _ => by omega, fun _ => Classical.byContradiction c1⟩) _
  · have hall : z_ags M s n k := fun j a b => hv j a (by omega)
    rw [z_b_t hall] at kk
    apply g
    case l1 => exact fun _ => kk
    all_goals (intros; omega)
theorem s_X6_lastDay {P : Option z_V → z_L → z_M → Prop} {k : Int} (hR : z_R M) (kk : ∀ L : Int, -1 ≤ L → L ≤ 9 → (∀ i : Int, 0 ≤ i → i < M 321 76 → z_knm M i k → M 349 i ≤ L) → P (some (0, L)) z_LL M) : wp xs (d + 1) mX6_lastDay 0 [(2, 294), (0, k), (3, 0), (3, 0)] [] z_LL M P := by
  obtain ⟨s1, s2, s3⟩ := z_R_Rs hR
  refine gX6_lastDay_0 ?_
  refine z_loop (W := fun i => ∀ L : Int, -1 ≤ L → L ≤ 9 → (∀ j : Int, 0 ≤ j → j < i → z_knm M j k → M 349 j ≤ L) → wp xs (d + 1) mX6_lastDay 4 [(2, 294), (0, k), (0, L), (0, (i : Int))] [] z_LL M P) (M 321 76).toNat (fun i hi ih L l1 l2 hv => ?_) (-1) (by decide) (by decide) (fun j a b => by omega)
  have g := gX6_lastDay_4 (M := M) (xs := xs) (d := d) (P := P) (x1 := k) (x2 := L) (x3 := (i : Int)) (z_R_F hR)
  rw [s1.1, z_in1 (i := i) (by omega)] at g
  by_cases hlt : (i : Int) < M 321 76
  · obtain ⟨t1, t2, t3, t4, t5, t6⟩ := s3 i (by omega) hlt
    rw [z_kn_e (k := k) hR (i := (i : Int)) (by omega) hlt, t1.1, z_max_eq] at g
    refine g (fun c => by omega) (fun _ => by omega) (fun _ c => ?_) (fun _ _ => by omega) (fun _ c => ?_)
    · refine ih (by omega) L l1 l2 (fun j a b w => ?_)
      by_cases e : j = i
      · exact absurd (e ▸ w) c
      · exact hv j a (by omega) w
    · refine ih (by omega) _ (by omega) (by omega) (fun j a b w => ?_)
      by_cases e : j = i
      · rw [e]
        omega
      · have := hv j a (by omega) w
        omega
  · refine g (fun _ => kk L l1 l2 (fun j a b => hv j a (by omega))) (fun c => by omega) (fun c => by omega) (fun c => by omega) (fun c => by omega)
theorem s_X10_isSeenSo {P : Option z_V → z_L → z_M → Prop} {n k : Int} (hR : z_R M) (kk : P (some (0, z_b (z_ags M (M 343) n k))) z_LL M) : wp xs d mX10_isSeenSo 0 [(2, 321), (0, n), (0, k), (3, 0), (3, 0)] [] z_LL M P := by
  obtain ⟨s1, s2, s3⟩ := z_R_Rs hR
  have hn := (z_R_C hR).2.2.1
  refine gX10_isSeenSo_0 ?_
  refine z_loop (W := fun i => ∀ x3 : Int, (x3 = 1 ∧ ∀ j : Int, 0 ≤ j → j < i → M 349 j = n → z_knm M j k → (M 343 (M 350 j) = M 351 j ↔ M 354 j = 1)) ∨ (x3 = 0 ∧ ¬ z_ags M (M 343) n k) → wp xs d mX10_isSeenSo 5 [(2, 321), (0, n), (0, k), (0, x3), (0, (i : Int))] [] z_LL M P) (M 321 76).toNat (fun i hi ih x3 hv => ?_) 1 (Or.inl ⟨rfl, fun j a b => by omega⟩)
  have g := gX10_isSeenSo_5 (M := M) (xs := xs) (d := d) (P := P) (x1 := n) (x2 := k) (x3 := x3) (x4 := (i : Int)) (z_R_F hR)
  rw [z_in1 (i := i) (by omega)] at g
  rcases hv with ⟨rfl, hv⟩ | ⟨rfl, hv⟩
  · by_cases hlt : (i : Int) < M 321 76
    · obtain ⟨t1, t2, t3, t4, t5, t6⟩ := s3 i (by omega) hlt
      have hgo : (M 349 i = n → z_knm M i k → (M 343 (M 350 i) = M 351 i ↔ M 354 i = 1)) → wp xs d mX10_isSeenSo 5 [(2, 321), (0, n), (0, k), (0, 1), (0, ((i + 1 : Nat) : Int))] [] z_LL M P := fun q => ih (by omega) 1 (Or.inl ⟨rfl, fun j a b => by
        by_cases e : j = i
        · rw [e]
          exact q
        · exact hv j a (by omega)⟩)
      have hno : M 349 i = n → z_knm M i k → ¬ (M 343 (M 350 i) = M 351 i ↔ M 354 i = 1) → wp xs d mX10_isSeenSo 5 [(2, 321), (0, n), (0, k), (0, 0), (0, ((i + 1 : Nat) : Int))] [] z_LL M P := fun q1 q2 q3 => ih (by omega) 0 (Or.inr ⟨rfl, fun w => q3 (w i (by omega) hlt q1 q2)⟩)
      unfold z_knm at hgo hno
      apply g
      case b1 => intros; omega
      case b2 => intros; omega
      case b3 => intros; omega
      case b4 => intros; omega
      case b5 => intros; omega
      case l1 => intros; omega
      case l2 => intros; omega
      case l3 => exact fun _ _ c => hgo (fun e => absurd e c)
      case l4 => exact fun _ _ _ c => hgo (fun _ e => absurd c e.1)
      case l5 => exact fun _ _ c1 c2 c3 c4 c5 => hno (Classical.byContradiction c1) ⟨c2, Or.inl c3⟩ (fun w => c4 (w.mpr (by omega)))
      case l6 => exact fun _ _ c1 c2 c3 c4 c5 => hgo (fun _ _ => ⟨fun w => absurd w c4, fun w => by omega⟩)
      case l7 => exact fun _ _ c1 c2 c3 c4 c5 => hno (Classical.byContradiction c1) ⟨c2, Or.inl c3⟩ (fun w => c5 (w.mp (Classical.byContradiction c4)).symm)
      case l8 => exact fun _ _ c1 c2 c3 c4 c5 => hgo (fun _ _ => ⟨fun _ => by omega, fun _ => Classical.byContradiction c4⟩)
      case l9 => exact fun _ _ c1 c2 c3 c4 => hgo (fun _ e => absurd e.2 (by omega))
      case l10 => exact fun _ _ c1 c2 c3 c4 c5 c6 => hno (Classical.byContradiction c1) ⟨c2, Or.inr c4⟩ (fun w => c5 (w.mpr (by omega)))
      case l11 => exact fun _ _ c1 c2 c3 c4 c5 c6 => hgo (fun _ _ => ⟨fun w => absurd w c5, fun w => by omega⟩)
      case l12 => exact fun _ _ c1 c2 c3 c4 c5 c6 => hno (Classical.byContradiction c1) ⟨c2, Or.inr c4⟩ (fun w => c6 (w.mp (Classical.byContradiction c5)).symm)
      case l13 => exact fun _ _ c1 c2 c3 c4 c5 c6 => hgo (fun _ _ => ⟨fun _ => by omega, fun _ => Classical.byContradiction c5⟩)
    · have hall : z_ags M (M 343) n k := fun j a b => hv j a (by omega)
      rw [z_b_t hall] at kk
      apply g
      case l1 => exact fun _ => kk
      all_goals (intros; omega)
  · rw [z_b_f hv] at kk
    apply g
    case l1 => exact fun _ => kk
    case l2 => exact fun _ _ => kk
    all_goals (intros; omega)
/-- a snapshot with salt on one cell more -/
def z_slc (s : Int → Int) (c : Int) : Int → Int := z_pt s (79 + c) 9
theorem z_R_t1 (hR : z_R M) {c : Int} (hc : 0 ≤ c ∧ c < 25) : z_sc M (z_up (z_cph M (M 1 2) 39) 43 c 9) ∧ z_hrd (z_up (z_cph M (M 1 2) 39) 43 c 9) 39 (z_slc (M 342) c) := by
  refine ⟨z_sc_t z_cph_sc ⟨fun q hq => z_upn (by unfold z_sq at hq; omega), fun j _ => by rw [z_upn (by decide)], fun j _ _ => ⟨by rw [z_upn (by decide)], by rw [z_upn (by decide)]⟩, fun j _ _ => by rw [z_upn (by decide)], fun k _ => by rw [z_upn (by decide)]⟩, ?_⟩
  have e321 := z_sc_c (z_cph_sc (M := M) (a := M 1 2)) 321 (by unfold z_conf; omega)
  exact z_hrd_salt (by rw [e321]; exact (z_R_C hR).2.2.1.2) (z_R_t0 hR) hc
theorem z_sn_slc (hR : z_R M) {c : Int} (hc : 0 ≤ c ∧ c < 25) : z_sn M 999 (z_slc (M 342) c) := z_sn_salt (z_R_C hR) (z_R_S hR) hc (by omega)
/-- salt on a cell would explain all that is known -/
noncomputable def z_ldg (M : z_M) (k c : Int) : Prop := M 342 (79 + c) = 0 ∧ ∀ n : Nat, n ≤ 9 → z_ags M (z_dys M (M 321 52) (z_slc (M 342) c) n) n k
theorem s_X0_explains {P : Option z_V → z_L → z_M → Prop} {c k L : Int} (hR : z_R M) (hc : 0 ≤ c ∧ c < 25) (hL : -1 ≤ L ∧ L ≤ 9) (kk : ∀ M' : z_M, z_sc M M' → P (some (0, z_b (∀ n : Nat, (n : Int) ≤ L → z_ags M (z_dys M (M 321 52) (z_slc (M 342) c) n) n k))) z_LL M') : wp xs (d + 4) mX0_explains 0 [(2, 38), (2, M 1 2), (0, c), (2, 294), (0, k), (0, L), (3, 0)] [] z_LL M P := by
  have he := (z_R_C hR).2.2.2.1
  obtain ⟨f0, H0⟩ := z_R_t1 hR hc
  have hsn := fun j : Nat => z_dys_sn (ev := M 321 52) (z_R_C hR) (z_sn_slc hR hc) j
  refine gX0_explains_0 (z_R_F hR) (z_R_H hR).1 (z_hk_ish (z_R_k hR)).2 hc ?_
  generalize hdy : z_dys M (M 321 52) (z_slc (M 342) c) = dy at *
  refine z_loop (W := fun i => ∀ M' : z_M, z_sc M M' → ((i : Int) ≤ L ∨ i = 0 → z_hrd M' 39 (dy i)) → (∀ j : Nat, j < i → z_ags M (dy j) j k) → wp xs (d + 4) mX0_explains 22 [(2, 38), (2, M 1 2), (0, c), (2, 294), (0, k), (0, L), (0, (i : Int))] [] z_LL M' P) (L + 1).toNat (fun i hi ih M' f H hv => ?_) _ f0 (fun _ => by rw [← hdy]; exact H0) (fun j hj => by omega)
  have hR' := z_sc_R f hR
  have q1 : M' 1 = M 1 := f.1 1 (by unfold z_sq; omega)
  have e321 := z_sc_c f 321 (by unfold z_conf; omega)
  have hh : z_her M' (M 1 2) := by rw [← q1]; exact (z_R_H hR').1
  have ea := z_ags_q (M := M) (M' := M') (fun q hq => f.1 q (by unfold z_sq; omega))
  refine gX0_explains_22 (z_R_F hR') hh (fun c1 => ?_) (fun c1 => ?_)
  · rw [z_b_t (fun n hn => hv n (by omega))] at kk
    exact kk M' f
  · have H := H (Or.inl (by omega))
    refine s_X6_agree hR' H ?_
    rw [ea]
    have g := fun P => gX0_explains_41 (M := M') (xs := xs) (d := d + 3) (P := P) (x1 := M 1 2) (x2 := c) (x4 := k) (x5 := L) (x6 := (i : Int)) (s0 := z_b (z_ags M (dy i) i k)) (z_R_F hR') hh (z_R_G hR').1
    rw [(z_R_G hR').2.1.2.2.2.2.2, e321, z_in1 (by omega)] at g
    by_cases w : z_ags M (dy i) i k
    · rw [z_b_t w] at g
      have hv' : ∀ j : Nat, j < i + 1 → z_ags M (dy j) j k := fun j hj => by
        by_cases e : j = i
        · rw [e]
          exact w
        · exact hv j (by omega)
      have st : z_dys M (M 321 52) (z_slc (M 342) c) (i + 1) = z_day M (M 321 52) (z_dys M (M 321 52) (z_slc (M 342) c) i) := rfl
      rw [z_b_t w]
      refine g _ (fun _ c2 => ?_) (fun _ c2 => ?_) (fun q => absurd (by decide) q)
      · exact ih (by omega) M' f (fun q => by omega) hv'
      · refine s_trial hR' H (z_sn_x (z_cfe_c (z_sc_c f)) (hsn i)) (by omega) (by omega) (fun M2 f2 _ _ H2 => ?_)
        refine gX0_explains_74 (M := M2) (x1 := M 1 2) (by rw [← q1, ← show M2 1 = M' 1 from f2.1 1 (by unfold z_sq; omega)]; exact (z_R_H (z_sc_R f2 hR')).1) ?_
        rw [z_in1 (by omega)]
        refine ih (by omega) M2 (z_sc_t f f2) (fun _ => ?_) hv'
        rw [z_day_q (z_sc_c f), ← hdy, ← st, hdy] at H2
        exact H2
    · rw [z_b_f w] at g ⊢
      rw [z_b_f (fun q => w (q i (by omega)))] at kk
      exact g _ (fun q => absurd rfl q) (fun q => absurd rfl q) (fun _ => kk M' f)
theorem z_ldg_q {M' : z_M} (f : z_sc M M') : z_ldg M' = z_ldg M := by
  funext k c
  unfold z_ldg
  rw [z_ags_q (M := M) (M' := M') (fun q hq => f.1 q (by unfold z_sq; omega)), f.1 342 (by unfold z_sq; omega), z_sc_c f 321 (by unfold z_conf; omega)]
  congr 1
  refine propext ⟨fun h n hn => ?_, fun h n hn => ?_⟩
  · rw [← z_dys_q (z_sc_c f)]
    exact h n hn
  · rw [z_dys_q (z_sc_c f)]
    exact h n hn
theorem s_X0_salted {P : Option z_V → z_L → z_M → Prop} {k : Int} (hR : z_R M) (kk : ∀ M' : z_M, z_sc M M' → P (some (0, z_set (z_ldg M k) (M 321 46 * M 321 47).toNat)) z_LL M') : wp xs (d + 5) mX0_saltedAtNight 0 [(2, 38), (2, M 1 2), (2, 294), (0, k), (3, 0), (3, 0), (3, 0)] [] z_LL M P := by
  have hx := z_mc_cells (z_R_C hR)
  refine gX0_saltedAtNight_0 (z_R_H hR).1 ?_
  refine s_X6_lastDay hR (fun L l1 l2 hL => ?_)
  refine gX0_saltedAtNight_8 (x1 := M 1 2) (z_R_H hR).1 ?_
  refine z_loop (W := fun i => ∀ M' : z_M, z_sc M M' → wp xs (d + 5) mX0_saltedAtNight 13 [(2, 38), (2, M 1 2), (2, 294), (0, k), (0, z_set (z_ldg M k) i), (0, L), (0, (i : Int))] [] z_LL M' P) (M 321 46 * M 321 47).toNat (fun i hi ih M' f => ?_) M z_sc_r
  have hR' := z_sc_R f hR
  have q1 : M' 1 = M 1 := f.1 1 (by unfold z_sq; omega)
  have e321 := z_sc_c f 321 (by unfold z_conf; omega)
  have e342 : M' 342 = M 342 := f.1 342 (by unfold z_sq; omega)
  have hh : z_her M' (M 1 2) := by rw [← q1]; exact (z_R_H hR').1
  have g := gX0_saltedAtNight_13 (M := M') (xs := xs) (d := d + 4) (P := P) (x1 := M 1 2) (x3 := k) (x4 := z_set (z_ldg M k) i) (x5 := L) (x6 := (i : Int)) (z_R_F hR') hh (z_R_G hR').1
  rw [(z_R_G hR').2.1.1, (z_R_G hR').2.1.2.1, (z_R_n hR').2.2.2.2, e321, z_in1 (by omega)] at g
  have es : (i : Int) < 25 → M' (M 1 2 + 4) i = M 342 (79 + i) := fun h25 => by
    have e := ((z_R_H hR').2.2.1 i (by omega) h25).2
    rw [q1, e342] at e
    exact e
  refine g (fun c => ?_) (fun _ => by omega) (fun c c2 => ?_) (fun c c2 => ?_)
  · rw [show (M 321 46 * M 321 47).toNat = i by omega] at kk
    exact kk M' f
  · have ih := ih (by omega)
    rw [z_set_n (fun q => c2 (by rw [es (by omega)]; exact q.1))] at ih
    exact ih M' f
  · rw [← q1]
    refine s_X0_explains hR' (by omega) ⟨l1, l2⟩ (fun M2 f2 => ?_)
    have f3 := z_sc_t f f2
    have q2 : M2 1 = M' 1 := f2.1 1 (by unfold z_sq; omega)
    have ep : z_b (∀ n : Nat, (n : Int) ≤ L → z_ags M' (z_dys M' (M' 321 52) (z_slc (M' 342) i) n) n k) = z_b (z_ldg M k i) := by
      refine z_b_i ⟨fun h => ?_, fun h n hn => ?_⟩
      · rw [← z_ldg_q f]
        refine ⟨by rw [e342, ← es (by omega)]; exact Classical.byContradiction c2, fun n hn => ?_⟩
        by_cases l : (n : Int) ≤ L
        · exact h n l
        · intro j a b e w
          rw [e321] at b
          have ea := f.1
          unfold z_knm at w
          rw [ea 352 (by unfold z_sq; omega), ea 353 (by unfold z_sq; omega)] at w
          rw [ea 349 (by unfold z_sq; omega)] at e
          have := hL j a b w
          omega
      · rw [← z_ldg_q f] at h
        exact h.2 n (by omega)
    rw [ep]
    refine gX0_saltedAtNight_49 (M := M2) (x1 := M' 1 2) (by rw [← q2]; exact (z_R_H (z_sc_R f2 hR')).1) (fun c3 => ?_) (fun c3 => ?_)
    all_goals
      rw [z_in1 (by omega), q1]
      have ih := ih (by omega)
    · rw [z_set_n (fun q => by rw [z_b_t q] at c3; omega)] at ih
      exact ih M2 f3
    · rw [z_set_y (p := z_ldg M k) (Classical.byContradiction fun q => c3 (z_b_f q))] at ih
      exact ih M2 f3
theorem s_X10_isLedge {P : Option z_V → z_L → z_M → Prop} {c k : Int} (hR : z_R M) (hc : 0 ≤ c ∧ c < 25) (kk : ∀ M' : z_M, z_sc M M' → P (some (0, z_b (z_ldg M k c))) z_LL M') : wp xs (d + 6) mX10_isLedge 0 [(2, 321), (0, c), (0, k), (3, 0), (3, 0)] [] z_LL M P := by
  have hsn := fun j : Nat => z_dys_sn (ev := M 321 52) (z_R_C hR) (z_sn_slc hR hc) j
  refine gX10_isLedge_0 (z_R_F hR) hc (fun hz => ?_) (fun hz => ?_)
  · refine s_ldR hR (fun M1 f1 e1 => ?_)
    have hR1 := z_sc_R f1 hR
    have g := gX10_isLedge_14 (M := M1) (xs := xs) (d := d + 5) (P := P) (x1 := c) (x2 := k) (z_R_F hR1)
    rw [z_wid (x := 79 + c) (by omega)] at g
    refine g (by omega) ?_
    have f2 : z_sc M (z_up M1 343 (79 + c) 9) := z_sc_t f1 ⟨fun q hq => z_upn (by unfold z_sq at hq; omega), fun j _ => by rw [z_upn (by decide)], fun j _ _ => ⟨by rw [z_upn (by decide)], by rw [z_upn (by decide)]⟩, fun j _ _ => by rw [z_upn (by decide)], fun k hk => z_upi (by omega) rfl⟩
    have e2 : z_up M1 343 (79 + c) 9 343 = z_slc (M 342) c := by
      rw [z_upw, e1]
      rfl
    have hR2 := z_sc_R f2 hR
    generalize z_up M1 343 (79 + c) 9 = M2 at *
    have ea := fun (M' : z_M) (f : z_sc M M') => z_ags_q (M := M) (M' := M') (fun q hq => f.1 q (by unfold z_sq; omega))
    refine s_X10_isSeenSo hR2 ?_
    refine gX10_isLedge_31 ?_
    rw [ea M2 f2, e2]
    have st : ∀ i, z_dys M (M 321 52) (z_slc (M 342) c) (i + 1) = z_day M (M 321 52) (z_dys M (M 321 52) (z_slc (M 342) c) i) := fun i => rfl
    have s0 : z_dys M (M 321 52) (z_slc (M 342) c) 0 = z_slc (M 342) c := rfl
    rw [← s0] at e2 ⊢
    have kk' : ∀ M' : z_M, z_sc M M' → P (some (0, z_b (∀ n : Nat, n ≤ 9 → z_ags M (z_dys M (M 321 52) (z_slc (M 342) c) n) n k))) z_LL M' := fun M' f => by
      have := kk M' f
      rw [z_b_i (q := ∀ n : Nat, n ≤ 9 → z_ags M (z_dys M (M 321 52) (z_slc (M 342) c) n) n k) ⟨fun q => q.2, fun q => ⟨hz, q⟩⟩] at this
      exact this
    clear kk
    generalize z_dys M (M 321 52) (z_slc (M 342) c) = dy at *
    refine z_loop (W := fun i => ∀ (M' : z_M) (x3 : Int), z_sc M M' → M' 343 = dy i → ((x3 = 1 ∧ ∀ j : Nat, j ≤ i → z_ags M (dy j) j k) ∨ (x3 = 0 ∧ ¬ ∀ j : Nat, j ≤ 9 → z_ags M (dy j) j k)) → wp xs (d + 6) mX10_isLedge 35 [(2, 321), (0, c), (0, k), (0, x3), (0, ((i + 1 : Nat) : Int))] [] z_LL M' P) 9 (fun i hi ih M' x3 f e hv => ?_) M2 _ f2 e2 ?_
    · have hR' := z_sc_R f hR
      have e321 := z_sc_c f 321 (by unfold z_conf; omega)
      rcases hv with ⟨rfl, hv⟩ | ⟨rfl, hv⟩
      · refine gX10_isLedge_35 (fun _ => Or.inr rfl) (fun c1 => ?_) (fun _ q => absurd q (by decide)) (fun _ q => absurd q (by decide)) (fun c1 _ => ?_)
        · have := kk' M' f
          rw [z_b_t (fun n hn => hv n (by omega))] at this
          exact this
        · have hs := z_sn_x (z_cfe_c (z_sc_c f)) (hsn i)
          rw [← e] at hs
          rw [e321]
          refine s_air hR' hs (by omega) (fun M3 f3 e3 => ?_)
          have f13 := z_sc_t f f3
          have hR3 := z_sc_R f3 hR'
          rw [z_day_q (z_sc_c f), e, ← st] at e3
          refine gX10_isLedge_54 ?_
          refine s_X10_isSeenSo hR3 ?_
          refine gX10_isLedge_62 ?_
          rw [ea M3 f13, e3, z_in1 (by omega)]
          refine ih (by omega) M3 _ f13 e3 ?_
          by_cases w : z_ags M (dy (i + 1)) ((i + 1 : Nat) : Int) k
          · refine Or.inl ⟨z_b_t w, fun j hj => ?_⟩
            by_cases e5 : j = i + 1
            · rw [e5]
              exact w
            · exact hv j (by omega)
          · exact Or.inr ⟨z_b_f w, fun q => w (q (i + 1) (by omega))⟩
      · have := kk' M' f
        rw [z_b_f hv] at this
        exact gX10_isLedge_35 (fun _ => Or.inl rfl) (fun _ => this) (fun _ _ => Or.inl rfl) (fun _ _ => this) (fun _ q => absurd rfl q)
    · by_cases w : z_ags M (dy 0) 0 k
      · exact Or.inl ⟨z_b_t w, fun j hj => by
          obtain rfl : j = 0 := by omega
          exact w⟩
      · exact Or.inr ⟨z_b_f w, fun q => w (q 0 (by omega))⟩
  · have := kk M z_sc_r
    rw [z_b_f (fun q => hz q.1)] at this
    exact this
theorem s_X10_ledges {P : Option z_V → z_L → z_M → Prop} {k : Int} (hR : z_R M) (kk : ∀ M' : z_M, z_sc M M' → P (some (0, z_set (z_ldg M k) (M 321 46 * M 321 47).toNat)) z_LL M') : wp xs (d + 7) mX10_ledges 0 [(2, 321), (0, k), (3, 0), (3, 0)] [] z_LL M P := by
  have hx := z_mc_cells (z_R_C hR)
  refine gX10_ledges_0 ?_
  refine z_loop (W := fun i => ∀ M' : z_M, z_sc M M' → wp xs (d + 7) mX10_ledges 4 [(2, 321), (0, k), (0, z_set (z_ldg M k) i), (0, (i : Int))] [] z_LL M' P) (M 321 46 * M 321 47).toNat (fun i hi ih M' f => ?_) M z_sc_r
  have hR' := z_sc_R f hR
  have e321 := z_sc_c f 321 (by unfold z_conf; omega)
  have g := gX10_ledges_4 (M := M') (xs := xs) (d := d + 6) (P := P) (x1 := k) (x2 := z_set (z_ldg M k) i) (x3 := (i : Int)) (z_R_F hR') (z_R_C hR')
  rw [e321] at g
  refine g (fun c => ?_) (fun c => ?_)
  · rw [show (M 321 46 * M 321 47).toNat = i by omega] at kk
    exact kk M' f
  · refine s_X10_isLedge hR' (by omega) (fun M2 f2 => ?_)
    rw [z_ldg_q f]
    refine gX10_ledges_19 z_b_01 ?_
    rw [z_in1 (by omega)]
    have ih := ih (by omega)
    by_cases w : z_ldg M k i
    · rw [z_b_t w]
      rw [z_set_y w] at ih
      exact ih M2 (z_sc_t f f2)
    · rw [z_b_f w, z_or_sh0 (by omega)]
      rw [z_set_n w] at ih
      exact ih M2 (z_sc_t f f2)
theorem c_ledges {a1 : Int} (hR : z_R M) : z_two xs (d + 200) mX9_ledges mX10_ledges [(2, 1), (0, a1)] [(2, 321), (0, a1), (3, 0), (3, 0)] M := by
  refine z_two_q (z_set (z_ldg M a1) (M 321 46 * M 321 47).toNat) hR (fun P k => ?_) (fun M1 P f1 hR1 k => ?_)
  · refine gX9_ledges_0 (z_R_F hR) (z_R_H hR).1 ?_
    exact s_X0_salted hR (fun M1 f1 => gX9_ledges_16 (k M1 f1))
  · refine s_X10_ledges hR1 (fun M2 f2 => ?_)
    rw [z_ldg_q f1, z_sc_c f1 321 (by unfold z_conf; omega)]
    exact k M2 f2
end
