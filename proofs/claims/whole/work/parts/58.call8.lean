/-! THE CALLS: image, back -/
section
variable {xs : List Int} {d : Nat} {M : z_M}
theorem z_301 (hF : z_fix M) {b : Int} (hb : 0 ≤ b ∧ b < 3) : M 301 b = 303 + 6 * b := by
  have : b = 0 ∨ b = 1 ∨ b = 2 := by omega
  rcases this with rfl | rfl | rfl
  · exact fx_301_0 hF
  · exact fx_301_1 hF
  · exact fx_301_2 hF
theorem z_box_ish {b : Int} (hb : 0 ≤ b ∧ b < 3) : z_ish (303 + 6 * b) := by
  unfold z_ish
  omega
set_option maxRecDepth 20000 in
theorem gX9_image_0 {xs : List Int} {d : Nat} {M : z_M} {P : Option z_V → z_L → z_M → Prop} {a1 : Int} 
    (l1 : (a1 < 0) → P (some (0, (-1))) z_LL M)
    (l2 : (¬ (a1 < 0)) → (a1 < 3) → wp xs d mX9_image 11 [(2, 1), (0, a1)] [] z_LL M P)
    (l3 : (¬ (a1 < 0)) → (¬ (a1 < 3)) → P (some (0, (-1))) z_LL M) :
    wp xs d mX9_image 0 [(2, 1), (0, a1)] [] z_LL M P := by
  refine wp_run 1 (pc' := 1) (ls' := [(2, 1), (0, a1)]) (st' := [(0, a1)]) rfl ?_
  refine wp_if1 rfl rfl rfl (fun (c1 : a1 < 0) => ?_) (fun (c1 : ¬ (a1 < 0)) => ?_)
  · refine wp_run 1 (pc' := 10) (ls' := [(2, 1), (0, a1)]) (st' := [(0, (-1))]) rfl ?_
    exact wp_ret rfl rfl (l1 c1)
  · refine wp_run 2 (pc' := 6) (ls' := [(2, 1), (0, a1)]) (st' := [(0, 3), (0, a1)]) rfl ?_
    refine wp_if2 rfl rfl rfl (fun (c2 : a1 < 3) => ?_) (fun (c2 : ¬ (a1 < 3)) => ?_)
    · exact l2 c1 c2
    · refine wp_run 1 (pc' := 10) (ls' := [(2, 1), (0, a1)]) (st' := [(0, (-1))]) rfl ?_
      exact wp_ret rfl rfl (l3 c1 c2)
set_option maxRecDepth 20000 in
theorem gX9_image_11 {xs : List Int} {d : Nat} {M : z_M} {P : Option z_V → z_L → z_M → Prop} {x1 : Int} (hF : z_fix M) (hh1 : z_her M (M 301 x1)) (hh2 : z_her M (M 1 2)) (hn1 : (M 1 2) ≠ (M 301 x1))
    (b1 : 0 ≤ x1 ∧ x1 < 3)
    (l1 : P (some (0, (M (M 1 2) 6))) z_LL (z_up (z_up (z_up (z_up (z_cpy (z_cpy (z_cpy (z_cpy (z_cpy M ((M 1 2) + 1) 0 ((M 301 x1) + 1) 0 6) ((M 1 2) + 2) 0 ((M 301 x1) + 2) 0 6) ((M 1 2) + 3) 0 ((M 301 x1) + 3) 0 25) ((M 1 2) + 4) 0 ((M 301 x1) + 4) 0 25) ((M 1 2) + 5) 0 ((M 301 x1) + 5) 0 36) (M 301 x1) 5 (M (M 1 2) 5)) (M 301 x1) 6 (M (M 1 2) 6)) (M 301 x1) 7 (M (M 1 2) 7)) 1 12 (z_or (M 1 12) (z_shl 1 x1)))) :
    wp xs (d + 1) mX9_image 11 [(2, 1), (0, x1)] [] z_LL M P := by
  refine wp_run 1 (pc' := 12) (ls' := [(2, 1), (0, x1)]) (st' := [(2, 1)]) rfl ?_
  refine wp_gf (pc' := 15) (t := 2) (v := 301) rfl rfl (by decide) rfl rfl (fx_1_10 hF) ?_
  refine wp_run 1 (pc' := 16) (ls' := [(2, 1), (0, x1)]) (st' := [(0, x1), (2, 301)]) rfl ?_
  refine wp_aald (pc' := 17) (v := (M 301 x1)) rfl rfl rfl (b1) rfl ?_
  refine wp_run 1 (pc' := 18) (ls' := [(2, 1), (0, x1)]) (st' := [(2, 1), (2, (M 301 x1))]) rfl ?_
  refine wp_gf (pc' := 21) (t := 2) (v := (M 1 2)) rfl rfl (by decide) rfl rfl rfl ?_
  refine wp_callv (pc' := 24) (as := [(2, (M 301 x1)), (2, (M 1 2))]) (rest := []) (ls1 := [(2, (M 301 x1)), (2, (M 1 2))]) rfl rfl rfl rfl (z_args_v rfl rfl rfl rfl (Nat.le_of_ble_eq_true rfl) rfl (by decide) (z_hl0 hh1)) rfl ?_
  refine wp_run 1 (pc' := 1) (ls' := [(2, (M 301 x1)), (2, (M 1 2))]) (st' := [(2, (M 1 2))]) rfl ?_
  refine wp_gf (pc' := 4) (t := 2) (v := ((M 1 2) + 1)) rfl rfl (by decide) rfl (z_hl0 hh2) (z_hf0 hh2) ?_
  refine wp_run 2 (pc' := 6) (ls' := [(2, (M 301 x1)), (2, (M 1 2))]) (st' := [(2, (M 301 x1)), (0, 0), (2, ((M 1 2) + 1))]) rfl ?_
  refine wp_gf (pc' := 9) (t := 2) (v := ((M 301 x1) + 1)) rfl rfl (by decide) rfl (z_hl0 hh1) (z_hf0 hh1) ?_
  refine wp_run 2 (pc' := 12) (ls' := [(2, (M 301 x1)), (2, (M 1 2))]) (st' := [(0, 6), (0, 0), (2, ((M 301 x1) + 1)), (0, 0), (2, ((M 1 2) + 1))]) rfl ?_
  refine wp_acp (pc' := 15) rfl rfl (z_hl1 hh2) (z_hl1 hh1) (by decide) ?_
  refine wp_run 1 (pc' := 16) (ls' := [(2, (M 301 x1)), (2, (M 1 2))]) (st' := [(2, (M 1 2))]) rfl ?_
  refine wp_gf (pc' := 19) (t := 2) (v := ((M 1 2) + 2)) rfl rfl (by decide) rfl (z_hl0 hh2) (z_cpq (by have := z_hr hh1; have := z_hr hh2; omega) (z_hf1 hh2)) ?_
  refine wp_run 2 (pc' := 21) (ls' := [(2, (M 301 x1)), (2, (M 1 2))]) (st' := [(2, (M 301 x1)), (0, 0), (2, ((M 1 2) + 2))]) rfl ?_
  refine wp_gf (pc' := 24) (t := 2) (v := ((M 301 x1) + 2)) rfl rfl (by decide) rfl (z_hl0 hh1) (z_cpq (by have := z_hr hh1; have := z_hr hh1; omega) (z_hf1 hh1)) ?_
  refine wp_run 2 (pc' := 27) (ls' := [(2, (M 301 x1)), (2, (M 1 2))]) (st' := [(0, 6), (0, 0), (2, ((M 301 x1) + 2)), (0, 0), (2, ((M 1 2) + 2))]) rfl ?_
  refine wp_acp (pc' := 30) rfl rfl (z_hl2 hh2) (z_hl2 hh1) (by decide) ?_
  refine wp_run 1 (pc' := 31) (ls' := [(2, (M 301 x1)), (2, (M 1 2))]) (st' := [(2, (M 1 2))]) rfl ?_
  refine wp_gf (pc' := 34) (t := 2) (v := ((M 1 2) + 3)) rfl rfl (by decide) rfl (z_hl0 hh2) (z_cpq (by have := z_hr hh1; have := z_hr hh2; omega) (z_cpq (by have := z_hr hh1; have := z_hr hh2; omega) (z_hf2 hh2))) ?_
  refine wp_run 2 (pc' := 36) (ls' := [(2, (M 301 x1)), (2, (M 1 2))]) (st' := [(2, (M 301 x1)), (0, 0), (2, ((M 1 2) + 3))]) rfl ?_
  refine wp_gf (pc' := 39) (t := 2) (v := ((M 301 x1) + 3)) rfl rfl (by decide) rfl (z_hl0 hh1) (z_cpq (by have := z_hr hh1; have := z_hr hh1; omega) (z_cpq (by have := z_hr hh1; have := z_hr hh1; omega) (z_hf2 hh1))) ?_
  refine wp_run 2 (pc' := 42) (ls' := [(2, (M 301 x1)), (2, (M 1 2))]) (st' := [(0, 25), (0, 0), (2, ((M 301 x1) + 3)), (0, 0), (2, ((M 1 2) + 3))]) rfl ?_
  refine wp_acp (pc' := 45) rfl rfl (z_hl3 hh2) (z_hl3 hh1) (by decide) ?_
  refine wp_run 1 (pc' := 46) (ls' := [(2, (M 301 x1)), (2, (M 1 2))]) (st' := [(2, (M 1 2))]) rfl ?_
  refine wp_gf (pc' := 49) (t := 2) (v := ((M 1 2) + 4)) rfl rfl (by decide) rfl (z_hl0 hh2) (z_cpq (by have := z_hr hh1; have := z_hr hh2; omega) (z_cpq (by have := z_hr hh1; have := z_hr hh2; omega) (z_cpq (by have := z_hr hh1; have := z_hr hh2; omega) (z_hf3 hh2)))) ?_
  refine wp_run 2 (pc' := 51) (ls' := [(2, (M 301 x1)), (2, (M 1 2))]) (st' := [(2, (M 301 x1)), (0, 0), (2, ((M 1 2) + 4))]) rfl ?_
  refine wp_gf (pc' := 54) (t := 2) (v := ((M 301 x1) + 4)) rfl rfl (by decide) rfl (z_hl0 hh1) (z_cpq (by have := z_hr hh1; have := z_hr hh1; omega) (z_cpq (by have := z_hr hh1; have := z_hr hh1; omega) (z_cpq (by have := z_hr hh1; have := z_hr hh1; omega) (z_hf3 hh1)))) ?_
  refine wp_run 2 (pc' := 57) (ls' := [(2, (M 301 x1)), (2, (M 1 2))]) (st' := [(0, 25), (0, 0), (2, ((M 301 x1) + 4)), (0, 0), (2, ((M 1 2) + 4))]) rfl ?_
  refine wp_acp (pc' := 60) rfl rfl (z_hl4 hh2) (z_hl4 hh1) (by decide) ?_
  refine wp_run 1 (pc' := 61) (ls' := [(2, (M 301 x1)), (2, (M 1 2))]) (st' := [(2, (M 1 2))]) rfl ?_
  refine wp_gf (pc' := 64) (t := 2) (v := ((M 1 2) + 5)) rfl rfl (by decide) rfl (z_hl0 hh2) (z_cpq (by have := z_hr hh1; have := z_hr hh2; omega) (z_cpq (by have := z_hr hh1; have := z_hr hh2; omega) (z_cpq (by have := z_hr hh1; have := z_hr hh2; omega) (z_cpq (by have := z_hr hh1; have := z_hr hh2; omega) (z_hf4 hh2))))) ?_
  refine wp_run 2 (pc' := 66) (ls' := [(2, (M 301 x1)), (2, (M 1 2))]) (st' := [(2, (M 301 x1)), (0, 0), (2, ((M 1 2) + 5))]) rfl ?_
  refine wp_gf (pc' := 69) (t := 2) (v := ((M 301 x1) + 5)) rfl rfl (by decide) rfl (z_hl0 hh1) (z_cpq (by have := z_hr hh1; have := z_hr hh1; omega) (z_cpq (by have := z_hr hh1; have := z_hr hh1; omega) (z_cpq (by have := z_hr hh1; have := z_hr hh1; omega) (z_cpq (by have := z_hr hh1; have := z_hr hh1; omega) (z_hf4 hh1))))) ?_
  refine wp_run 2 (pc' := 71) (ls' := [(2, (M 301 x1)), (2, (M 1 2))]) (st' := [(2, (M 301 x1)), (0, 0), (2, ((M 301 x1) + 5)), (0, 0), (2, ((M 1 2) + 5))]) rfl ?_
  refine wp_gf (pc' := 74) (t := 2) (v := ((M 301 x1) + 5)) rfl rfl (by decide) rfl (z_hl0 hh1) (z_cpq (by have := z_hr hh1; have := z_hr hh1; omega) (z_cpq (by have := z_hr hh1; have := z_hr hh1; omega) (z_cpq (by have := z_hr hh1; have := z_hr hh1; omega) (z_cpq (by have := z_hr hh1; have := z_hr hh1; omega) (z_hf4 hh1))))) ?_
  refine wp_len (pc' := 75) rfl rfl (z_hl5 hh1) (by decide) ?_
  refine wp_acp (pc' := 78) rfl rfl (z_hl5 hh2) (z_hl5 hh1) (by decide) ?_
  refine wp_run 2 (pc' := 80) (ls' := [(2, (M 301 x1)), (2, (M 1 2))]) (st' := [(2, (M 1 2)), (2, (M 301 x1))]) rfl ?_
  refine wp_gf (pc' := 83) (t := 0) (v := (M (M 1 2) 5)) rfl rfl (by decide) rfl (z_hl0 hh2) (z_cpq (by have := z_hr hh1; have := z_hr hh2; omega) (z_cpq (by have := z_hr hh1; have := z_hr hh2; omega) (z_cpq (by have := z_hr hh1; have := z_hr hh2; omega) (z_cpq (by have := z_hr hh1; have := z_hr hh2; omega) (z_cpq (by have := z_hr hh1; have := z_hr hh2; omega) rfl))))) ?_
  refine wp_pf (pc' := 86) rfl rfl rfl (z_hl0 hh1) (fun z => absurd z (by decide)) (fun z => absurd z (by decide)) ?_
  refine wp_run 2 (pc' := 88) (ls' := [(2, (M 301 x1)), (2, (M 1 2))]) (st' := [(2, (M 1 2)), (2, (M 301 x1))]) rfl ?_
  refine wp_gf (pc' := 91) (t := 0) (v := (M (M 1 2) 6)) rfl rfl (by decide) rfl (z_hl0 hh2) (z_upq (by have := z_hr hh1; have := z_hr hh2; omega) (z_cpq (by have := z_hr hh1; have := z_hr hh2; omega) (z_cpq (by have := z_hr hh1; have := z_hr hh2; omega) (z_cpq (by have := z_hr hh1; have := z_hr hh2; omega) (z_cpq (by have := z_hr hh1; have := z_hr hh2; omega) (z_cpq (by have := z_hr hh1; have := z_hr hh2; omega) rfl)))))) ?_
  refine wp_pf (pc' := 94) rfl rfl rfl (z_hl0 hh1) (fun z => absurd z (by decide)) (fun z => absurd z (by decide)) ?_
  refine wp_run 2 (pc' := 96) (ls' := [(2, (M 301 x1)), (2, (M 1 2))]) (st' := [(2, (M 1 2)), (2, (M 301 x1))]) rfl ?_
  refine wp_gf (pc' := 99) (t := 0) (v := (M (M 1 2) 7)) rfl rfl (by decide) rfl (z_hl0 hh2) (z_upq (by have := z_hr hh1; have := z_hr hh2; omega) (z_upq (by have := z_hr hh1; have := z_hr hh2; omega) (z_cpq (by have := z_hr hh1; have := z_hr hh2; omega) (z_cpq (by have := z_hr hh1; have := z_hr hh2; omega) (z_cpq (by have := z_hr hh1; have := z_hr hh2; omega) (z_cpq (by have := z_hr hh1; have := z_hr hh2; omega) (z_cpq (by have := z_hr hh1; have := z_hr hh2; omega) rfl))))))) ?_
  refine wp_pf (pc' := 102) rfl rfl rfl (z_hl0 hh1) (fun z => absurd z (by decide)) (fun z => absurd z (by decide)) ?_
  refine wp_ret rfl rfl ?_
  show wp xs _ mX9_image 24 [(2, 1), (0, x1)] [] z_LL (z_up (z_up (z_up (z_cpy (z_cpy (z_cpy (z_cpy (z_cpy M ((M 1 2) + 1) 0 ((M 301 x1) + 1) 0 6) ((M 1 2) + 2) 0 ((M 301 x1) + 2) 0 6) ((M 1 2) + 3) 0 ((M 301 x1) + 3) 0 25) ((M 1 2) + 4) 0 ((M 301 x1) + 4) 0 25) ((M 1 2) + 5) 0 ((M 301 x1) + 5) 0 36) (M 301 x1) 5 (M (M 1 2) 5)) (M 301 x1) 6 (M (M 1 2) 6)) (M 301 x1) 7 (M (M 1 2) 7)) _
  refine wp_run 2 (pc' := 26) (ls' := [(2, 1), (0, x1)]) (st' := [(2, 1), (2, 1)]) rfl ?_
  refine wp_gf (pc' := 29) (t := 0) (v := (M 1 12)) rfl rfl (by decide) rfl rfl (z_upq (by have := z_hr hh1; omega) (z_upq (by have := z_hr hh1; omega) (z_upq (by have := z_hr hh1; omega) (z_cpq (by have := z_hr hh1; omega) (z_cpq (by have := z_hr hh1; omega) (z_cpq (by have := z_hr hh1; omega) (z_cpq (by have := z_hr hh1; omega) (z_cpq (by have := z_hr hh1; omega) rfl)))))))) ?_
  refine wp_run 4 (pc' := 33) (ls' := [(2, 1), (0, x1)]) (st' := [(0, (z_or (M 1 12) (z_shl 1 x1))), (2, 1)]) rfl ?_
  refine wp_pf (pc' := 36) rfl rfl rfl rfl (fun z => absurd z (by decide)) (fun z => absurd z (by decide)) ?_
  refine wp_run 1 (pc' := 37) (ls' := [(2, 1), (0, x1)]) (st' := [(2, 1)]) rfl ?_
  refine wp_gf (pc' := 40) (t := 2) (v := (M 1 2)) rfl rfl (by decide) rfl rfl (z_upi (by decide) (z_upq (by have := z_hr hh1; omega) (z_upq (by have := z_hr hh1; omega) (z_upq (by have := z_hr hh1; omega) (z_cpq (by have := z_hr hh1; omega) (z_cpq (by have := z_hr hh1; omega) (z_cpq (by have := z_hr hh1; omega) (z_cpq (by have := z_hr hh1; omega) (z_cpq (by have := z_hr hh1; omega) rfl))))))))) ?_
  refine wp_gf (pc' := 43) (t := 0) (v := (M (M 1 2) 6)) rfl rfl (by decide) rfl (z_hl0 hh2) (z_upq (by have := z_hr hh2; omega) (z_upq (by have := z_hr hh1; have := z_hr hh2; omega) (z_upq (by have := z_hr hh1; have := z_hr hh2; omega) (z_upq (by have := z_hr hh1; have := z_hr hh2; omega) (z_cpq (by have := z_hr hh1; have := z_hr hh2; omega) (z_cpq (by have := z_hr hh1; have := z_hr hh2; omega) (z_cpq (by have := z_hr hh1; have := z_hr hh2; omega) (z_cpq (by have := z_hr hh1; have := z_hr hh2; omega) (z_cpq (by have := z_hr hh1; have := z_hr hh2; omega) rfl))))))))) ?_
  exact wp_ret rfl rfl (l1)
set_option maxRecDepth 20000 in
theorem gX10_image_0 {xs : List Int} {d : Nat} {M : z_M} {P : Option z_V → z_L → z_M → Prop} {a1 : Int} (hF : z_fix M) 
    (b1 : ((0 ≤ a1 ∧ a1 < 3)) → 0 ≤ a1 ∧ a1 < 3)
    (l1 : ((0 ≤ a1 ∧ a1 < 3)) → wp xs (d + 1) mX10_image 18 [(2, 321), (0, a1), (0, 0)] [] z_LL (z_up M 356 a1 (z_and 1 1)) P)
    (l2 : (¬ (0 ≤ a1 ∧ a1 < 3)) → P (some (0, (-1))) z_LL M) :
    wp xs (d + 1) mX10_image 0 [(2, 321), (0, a1), (3, 0)] [] z_LL M P := by
  refine wp_run 1 (pc' := 1) (ls' := [(2, 321), (0, a1), (3, 0)]) (st' := [(0, a1)]) rfl ?_
  refine wp_callv (pc' := 4) (as := [(0, a1)]) (rest := []) (ls1 := [(0, a1)]) rfl rfl rfl rfl rfl rfl ?_
  refine s_X10_isBox  ?_
  show wp xs _ mX10_image 4 [(2, 321), (0, a1), (3, 0)] [(0, (z_b (0 ≤ a1 ∧ a1 < 3)))] z_LL M _
  refine wp_bn rfl rfl rfl (fun (c1 : (0 ≤ a1 ∧ a1 < 3)) => ?_) (fun (c1 : ¬ (0 ≤ a1 ∧ a1 < 3)) => ?_)
  · refine wp_run 1 (pc' := 10) (ls' := [(2, 321), (0, a1), (3, 0)]) (st' := [(2, 321)]) rfl ?_
    refine wp_gf (pc' := 13) (t := 2) (v := 356) rfl rfl (by decide) rfl rfl (fx_321_79 hF) ?_
    refine wp_run 2 (pc' := 15) (ls' := [(2, 321), (0, a1), (3, 0)]) (st' := [(0, 1), (0, a1), (2, 356)]) rfl ?_
    refine wp_bast (pc' := 16) rfl rfl rfl rfl (b1 c1) ?_
    show wp xs _ mX10_image 16 [(2, 321), (0, a1), (3, 0)] [] z_LL (z_up M 356 a1 (z_and 1 1)) _
    refine wp_run 2 (pc' := 18) (ls' := [(2, 321), (0, a1), (0, 0)]) (st' := []) rfl ?_
    exact l1 c1
  · refine wp_run 1 (pc' := 8) (ls' := [(2, 321), (0, a1), (3, 0)]) (st' := [(0, (-1))]) rfl ?_
    exact wp_ret rfl rfl (l2 c1)
set_option maxRecDepth 20000 in
theorem gX10_image_18 {xs : List Int} {d : Nat} {M : z_M} {P : Option z_V → z_L → z_M → Prop} {x1 : Int} {x2 : Int} (hF : z_fix M) 
    (l1 : (106 ≤ x2) → P (some (0, (M 342 104))) z_LL M)
    (b1 : (¬ (106 ≤ x2)) → 0 ≤ x2 ∧ x2 < 106)
    (b2 : (¬ (106 ≤ x2)) → 0 ≤ (z_w ((z_w (106 * x1)) + x2)) ∧ (z_w ((z_w (106 * x1)) + x2)) < 318)
    (l2 : (¬ (106 ≤ x2)) → wp xs d mX10_image 18 [(2, 321), (0, x1), (0, (z_w (x2 + 1)))] [] z_LL (z_up M 357 (z_w ((z_w (106 * x1)) + x2)) (M 342 x2)) P) :
    wp xs d mX10_image 18 [(2, 321), (0, x1), (0, x2)] [] z_LL M P := by
  refine wp_run 2 (pc' := 21) (ls' := [(2, 321), (0, x1), (0, x2)]) (st' := [(0, 106), (0, x2)]) rfl ?_
  refine wp_if2 rfl rfl rfl (fun (c1 : 106 ≤ x2) => ?_) (fun (c1 : ¬ (106 ≤ x2)) => ?_)
  · refine wp_run 1 (pc' := 48) (ls' := [(2, 321), (0, x1), (0, x2)]) (st' := [(2, 321)]) rfl ?_
    refine wp_gf (pc' := 51) (t := 2) (v := 342) rfl rfl (by decide) rfl rfl (fx_321_60 hF) ?_
    refine wp_run 1 (pc' := 53) (ls' := [(2, 321), (0, x1), (0, x2)]) (st' := [(0, 104), (2, 342)]) rfl ?_
    refine wp_iald (pc' := 54) (v := (M 342 104)) rfl rfl rfl ⟨by decide, by decide⟩ rfl ?_
    exact wp_ret rfl rfl (l1 c1)
  · refine wp_run 1 (pc' := 25) (ls' := [(2, 321), (0, x1), (0, x2)]) (st' := [(2, 321)]) rfl ?_
    refine wp_gf (pc' := 28) (t := 2) (v := 357) rfl rfl (by decide) rfl rfl (fx_321_80 hF) ?_
    refine wp_run 6 (pc' := 35) (ls' := [(2, 321), (0, x1), (0, x2)]) (st' := [(2, 321), (0, (z_w ((z_w (106 * x1)) + x2))), (2, 357)]) rfl ?_
    refine wp_gf (pc' := 38) (t := 2) (v := 342) rfl rfl (by decide) rfl rfl (fx_321_60 hF) ?_
    refine wp_run 1 (pc' := 39) (ls' := [(2, 321), (0, x1), (0, x2)]) (st' := [(0, x2), (2, 342), (0, (z_w ((z_w (106 * x1)) + x2))), (2, 357)]) rfl ?_
    refine wp_iald (pc' := 40) (v := (M 342 x2)) rfl rfl rfl (b1 c1) rfl ?_
    refine wp_iast (pc' := 41) rfl rfl rfl (b2 c1) ?_
    refine wp_run 2 (pc' := 18) (ls' := [(2, 321), (0, x1), (0, (z_w (x2 + 1)))]) (st' := []) rfl ?_
    exact l2 c1
set_option maxRecDepth 20000 in
theorem gX9_back_0 {xs : List Int} {d : Nat} {M : z_M} {P : Option z_V → z_L → z_M → Prop} {a1 : Int} 
    (l1 : (a1 < 0) → P (some (0, (-1))) z_LL M)
    (l2 : (¬ (a1 < 0)) → (3 ≤ a1) → P (some (0, (-1))) z_LL M)
    (l3 : (¬ (a1 < 0)) → (¬ (3 ≤ a1)) → ((z_and (z_shr (M 1 12) a1) 1) ≠ 0) → wp xs d mX9_back 22 [(2, 1), (0, a1)] [] z_LL M P)
    (l4 : (¬ (a1 < 0)) → (¬ (3 ≤ a1)) → (¬ ((z_and (z_shr (M 1 12) a1) 1) ≠ 0)) → P (some (0, (-1))) z_LL M) :
    wp xs d mX9_back 0 [(2, 1), (0, a1)] [] z_LL M P := by
  refine wp_run 1 (pc' := 1) (ls' := [(2, 1), (0, a1)]) (st' := [(0, a1)]) rfl ?_
  refine wp_if1 rfl rfl rfl (fun (c1 : a1 < 0) => ?_) (fun (c1 : ¬ (a1 < 0)) => ?_)
  · refine wp_run 1 (pc' := 21) (ls' := [(2, 1), (0, a1)]) (st' := [(0, (-1))]) rfl ?_
    exact wp_ret rfl rfl (l1 c1)
  · refine wp_run 2 (pc' := 6) (ls' := [(2, 1), (0, a1)]) (st' := [(0, 3), (0, a1)]) rfl ?_
    refine wp_if2 rfl rfl rfl (fun (c2 : 3 ≤ a1) => ?_) (fun (c2 : ¬ (3 ≤ a1)) => ?_)
    · refine wp_run 1 (pc' := 21) (ls' := [(2, 1), (0, a1)]) (st' := [(0, (-1))]) rfl ?_
      exact wp_ret rfl rfl (l2 c1 c2)
    · refine wp_run 1 (pc' := 10) (ls' := [(2, 1), (0, a1)]) (st' := [(2, 1)]) rfl ?_
      refine wp_gf (pc' := 13) (t := 0) (v := (M 1 12)) rfl rfl (by decide) rfl rfl rfl ?_
      refine wp_run 4 (pc' := 17) (ls' := [(2, 1), (0, a1)]) (st' := [(0, (z_and (z_shr (M 1 12) a1) 1))]) rfl ?_
      refine wp_if1 rfl rfl rfl (fun (c3 : (z_and (z_shr (M 1 12) a1) 1) ≠ 0) => ?_) (fun (c3 : ¬ ((z_and (z_shr (M 1 12) a1) 1) ≠ 0)) => ?_)
      · exact l3 c1 c2 c3
      · refine wp_run 1 (pc' := 21) (ls' := [(2, 1), (0, a1)]) (st' := [(0, (-1))]) rfl ?_
        exact wp_ret rfl rfl (l4 c1 c2 c3)
set_option maxRecDepth 20000 in
theorem gX9_back_22 {xs : List Int} {d : Nat} {M : z_M} {P : Option z_V → z_L → z_M → Prop} {x1 : Int} (hF : z_fix M) (hh1 : z_her M (M 1 2)) (hh2 : z_her M (M 301 x1)) (hn1 : (M 1 2) ≠ (M 301 x1))
    (b1 : 0 ≤ x1 ∧ x1 < 3)
    (l1 : P (some (0, (M (M 301 x1) 6))) z_LL (z_up (z_up (z_up (z_up (z_up (z_cpy (z_cpy (z_cpy (z_cpy (z_cpy M ((M 301 x1) + 1) 0 ((M 1 2) + 1) 0 6) ((M 301 x1) + 2) 0 ((M 1 2) + 2) 0 6) ((M 301 x1) + 3) 0 ((M 1 2) + 3) 0 25) ((M 301 x1) + 4) 0 ((M 1 2) + 4) 0 25) ((M 301 x1) + 5) 0 ((M 1 2) + 5) 0 36) (M 1 2) 5 (M (M 301 x1) 5)) (M 1 2) 6 (M (M 301 x1) 6)) (M 1 2) 7 (M (M 301 x1) 7)) 47 1 0) 47 2 0)) :
    wp xs (d + 1) mX9_back 22 [(2, 1), (0, x1)] [] z_LL M P := by
  refine wp_run 1 (pc' := 23) (ls' := [(2, 1), (0, x1)]) (st' := [(2, 1)]) rfl ?_
  refine wp_gf (pc' := 26) (t := 2) (v := (M 1 2)) rfl rfl (by decide) rfl rfl rfl ?_
  refine wp_run 1 (pc' := 27) (ls' := [(2, 1), (0, x1)]) (st' := [(2, 1), (2, (M 1 2))]) rfl ?_
  refine wp_gf (pc' := 30) (t := 2) (v := 301) rfl rfl (by decide) rfl rfl (fx_1_10 hF) ?_
  refine wp_run 1 (pc' := 31) (ls' := [(2, 1), (0, x1)]) (st' := [(0, x1), (2, 301), (2, (M 1 2))]) rfl ?_
  refine wp_aald (pc' := 32) (v := (M 301 x1)) rfl rfl rfl (b1) rfl ?_
  refine wp_callv (pc' := 35) (as := [(2, (M 1 2)), (2, (M 301 x1))]) (rest := []) (ls1 := [(2, (M 1 2)), (2, (M 301 x1))]) rfl rfl rfl rfl (z_args_v rfl rfl rfl rfl (Nat.le_of_ble_eq_true rfl) rfl (by decide) (z_hl0 hh1)) rfl ?_
  refine wp_run 1 (pc' := 1) (ls' := [(2, (M 1 2)), (2, (M 301 x1))]) (st' := [(2, (M 301 x1))]) rfl ?_
  refine wp_gf (pc' := 4) (t := 2) (v := ((M 301 x1) + 1)) rfl rfl (by decide) rfl (z_hl0 hh2) (z_hf0 hh2) ?_
  refine wp_run 2 (pc' := 6) (ls' := [(2, (M 1 2)), (2, (M 301 x1))]) (st' := [(2, (M 1 2)), (0, 0), (2, ((M 301 x1) + 1))]) rfl ?_
  refine wp_gf (pc' := 9) (t := 2) (v := ((M 1 2) + 1)) rfl rfl (by decide) rfl (z_hl0 hh1) (z_hf0 hh1) ?_
  refine wp_run 2 (pc' := 12) (ls' := [(2, (M 1 2)), (2, (M 301 x1))]) (st' := [(0, 6), (0, 0), (2, ((M 1 2) + 1)), (0, 0), (2, ((M 301 x1) + 1))]) rfl ?_
  refine wp_acp (pc' := 15) rfl rfl (z_hl1 hh2) (z_hl1 hh1) (by decide) ?_
  refine wp_run 1 (pc' := 16) (ls' := [(2, (M 1 2)), (2, (M 301 x1))]) (st' := [(2, (M 301 x1))]) rfl ?_
  refine wp_gf (pc' := 19) (t := 2) (v := ((M 301 x1) + 2)) rfl rfl (by decide) rfl (z_hl0 hh2) (z_cpq (by have := z_hr hh1; have := z_hr hh2; omega) (z_hf1 hh2)) ?_
  refine wp_run 2 (pc' := 21) (ls' := [(2, (M 1 2)), (2, (M 301 x1))]) (st' := [(2, (M 1 2)), (0, 0), (2, ((M 301 x1) + 2))]) rfl ?_
  refine wp_gf (pc' := 24) (t := 2) (v := ((M 1 2) + 2)) rfl rfl (by decide) rfl (z_hl0 hh1) (z_cpq (by have := z_hr hh1; have := z_hr hh1; omega) (z_hf1 hh1)) ?_
  refine wp_run 2 (pc' := 27) (ls' := [(2, (M 1 2)), (2, (M 301 x1))]) (st' := [(0, 6), (0, 0), (2, ((M 1 2) + 2)), (0, 0), (2, ((M 301 x1) + 2))]) rfl ?_
  refine wp_acp (pc' := 30) rfl rfl (z_hl2 hh2) (z_hl2 hh1) (by decide) ?_
  refine wp_run 1 (pc' := 31) (ls' := [(2, (M 1 2)), (2, (M 301 x1))]) (st' := [(2, (M 301 x1))]) rfl ?_
  refine wp_gf (pc' := 34) (t := 2) (v := ((M 301 x1) + 3)) rfl rfl (by decide) rfl (z_hl0 hh2) (z_cpq (by have := z_hr hh1; have := z_hr hh2; omega) (z_cpq (by have := z_hr hh1; have := z_hr hh2; omega) (z_hf2 hh2))) ?_
  refine wp_run 2 (pc' := 36) (ls' := [(2, (M 1 2)), (2, (M 301 x1))]) (st' := [(2, (M 1 2)), (0, 0), (2, ((M 301 x1) + 3))]) rfl ?_
  refine wp_gf (pc' := 39) (t := 2) (v := ((M 1 2) + 3)) rfl rfl (by decide) rfl (z_hl0 hh1) (z_cpq (by have := z_hr hh1; have := z_hr hh1; omega) (z_cpq (by have := z_hr hh1; have := z_hr hh1; omega) (z_hf2 hh1))) ?_
  refine wp_run 2 (pc' := 42) (ls' := [(2, (M 1 2)), (2, (M 301 x1))]) (st' := [(0, 25), (0, 0), (2, ((M 1 2) + 3)), (0, 0), (2, ((M 301 x1) + 3))]) rfl ?_
  refine wp_acp (pc' := 45) rfl rfl (z_hl3 hh2) (z_hl3 hh1) (by decide) ?_
  refine wp_run 1 (pc' := 46) (ls' := [(2, (M 1 2)), (2, (M 301 x1))]) (st' := [(2, (M 301 x1))]) rfl ?_
  refine wp_gf (pc' := 49) (t := 2) (v := ((M 301 x1) + 4)) rfl rfl (by decide) rfl (z_hl0 hh2) (z_cpq (by have := z_hr hh1; have := z_hr hh2; omega) (z_cpq (by have := z_hr hh1; have := z_hr hh2; omega) (z_cpq (by have := z_hr hh1; have := z_hr hh2; omega) (z_hf3 hh2)))) ?_
  refine wp_run 2 (pc' := 51) (ls' := [(2, (M 1 2)), (2, (M 301 x1))]) (st' := [(2, (M 1 2)), (0, 0), (2, ((M 301 x1) + 4))]) rfl ?_
  refine wp_gf (pc' := 54) (t := 2) (v := ((M 1 2) + 4)) rfl rfl (by decide) rfl (z_hl0 hh1) (z_cpq (by have := z_hr hh1; have := z_hr hh1; omega) (z_cpq (by have := z_hr hh1; have := z_hr hh1; omega) (z_cpq (by have := z_hr hh1; have := z_hr hh1; omega) (z_hf3 hh1)))) ?_
  refine wp_run 2 (pc' := 57) (ls' := [(2, (M 1 2)), (2, (M 301 x1))]) (st' := [(0, 25), (0, 0), (2, ((M 1 2) + 4)), (0, 0), (2, ((M 301 x1) + 4))]) rfl ?_
  refine wp_acp (pc' := 60) rfl rfl (z_hl4 hh2) (z_hl4 hh1) (by decide) ?_
  refine wp_run 1 (pc' := 61) (ls' := [(2, (M 1 2)), (2, (M 301 x1))]) (st' := [(2, (M 301 x1))]) rfl ?_
  refine wp_gf (pc' := 64) (t := 2) (v := ((M 301 x1) + 5)) rfl rfl (by decide) rfl (z_hl0 hh2) (z_cpq (by have := z_hr hh1; have := z_hr hh2; omega) (z_cpq (by have := z_hr hh1; have := z_hr hh2; omega) (z_cpq (by have := z_hr hh1; have := z_hr hh2; omega) (z_cpq (by have := z_hr hh1; have := z_hr hh2; omega) (z_hf4 hh2))))) ?_
  refine wp_run 2 (pc' := 66) (ls' := [(2, (M 1 2)), (2, (M 301 x1))]) (st' := [(2, (M 1 2)), (0, 0), (2, ((M 301 x1) + 5))]) rfl ?_
  refine wp_gf (pc' := 69) (t := 2) (v := ((M 1 2) + 5)) rfl rfl (by decide) rfl (z_hl0 hh1) (z_cpq (by have := z_hr hh1; have := z_hr hh1; omega) (z_cpq (by have := z_hr hh1; have := z_hr hh1; omega) (z_cpq (by have := z_hr hh1; have := z_hr hh1; omega) (z_cpq (by have := z_hr hh1; have := z_hr hh1; omega) (z_hf4 hh1))))) ?_
  refine wp_run 2 (pc' := 71) (ls' := [(2, (M 1 2)), (2, (M 301 x1))]) (st' := [(2, (M 1 2)), (0, 0), (2, ((M 1 2) + 5)), (0, 0), (2, ((M 301 x1) + 5))]) rfl ?_
  refine wp_gf (pc' := 74) (t := 2) (v := ((M 1 2) + 5)) rfl rfl (by decide) rfl (z_hl0 hh1) (z_cpq (by have := z_hr hh1; have := z_hr hh1; omega) (z_cpq (by have := z_hr hh1; have := z_hr hh1; omega) (z_cpq (by have := z_hr hh1; have := z_hr hh1; omega) (z_cpq (by have := z_hr hh1; have := z_hr hh1; omega) (z_hf4 hh1))))) ?_
  refine wp_len (pc' := 75) rfl rfl (z_hl5 hh1) (by decide) ?_
  refine wp_acp (pc' := 78) rfl rfl (z_hl5 hh2) (z_hl5 hh1) (by decide) ?_
  refine wp_run 2 (pc' := 80) (ls' := [(2, (M 1 2)), (2, (M 301 x1))]) (st' := [(2, (M 301 x1)), (2, (M 1 2))]) rfl ?_
  refine wp_gf (pc' := 83) (t := 0) (v := (M (M 301 x1) 5)) rfl rfl (by decide) rfl (z_hl0 hh2) (z_cpq (by have := z_hr hh1; have := z_hr hh2; omega) (z_cpq (by have := z_hr hh1; have := z_hr hh2; omega) (z_cpq (by have := z_hr hh1; have := z_hr hh2; omega) (z_cpq (by have := z_hr hh1; have := z_hr hh2; omega) (z_cpq (by have := z_hr hh1; have := z_hr hh2; omega) rfl))))) ?_
  refine wp_pf (pc' := 86) rfl rfl rfl (z_hl0 hh1) (fun z => absurd z (by decide)) (fun z => absurd z (by decide)) ?_
  refine wp_run 2 (pc' := 88) (ls' := [(2, (M 1 2)), (2, (M 301 x1))]) (st' := [(2, (M 301 x1)), (2, (M 1 2))]) rfl ?_
  refine wp_gf (pc' := 91) (t := 0) (v := (M (M 301 x1) 6)) rfl rfl (by decide) rfl (z_hl0 hh2) (z_upq (by have := z_hr hh1; have := z_hr hh2; omega) (z_cpq (by have := z_hr hh1; have := z_hr hh2; omega) (z_cpq (by have := z_hr hh1; have := z_hr hh2; omega) (z_cpq (by have := z_hr hh1; have := z_hr hh2; omega) (z_cpq (by have := z_hr hh1; have := z_hr hh2; omega) (z_cpq (by have := z_hr hh1; have := z_hr hh2; omega) rfl)))))) ?_
  refine wp_pf (pc' := 94) rfl rfl rfl (z_hl0 hh1) (fun z => absurd z (by decide)) (fun z => absurd z (by decide)) ?_
  refine wp_run 2 (pc' := 96) (ls' := [(2, (M 1 2)), (2, (M 301 x1))]) (st' := [(2, (M 301 x1)), (2, (M 1 2))]) rfl ?_
  refine wp_gf (pc' := 99) (t := 0) (v := (M (M 301 x1) 7)) rfl rfl (by decide) rfl (z_hl0 hh2) (z_upq (by have := z_hr hh1; have := z_hr hh2; omega) (z_upq (by have := z_hr hh1; have := z_hr hh2; omega) (z_cpq (by have := z_hr hh1; have := z_hr hh2; omega) (z_cpq (by have := z_hr hh1; have := z_hr hh2; omega) (z_cpq (by have := z_hr hh1; have := z_hr hh2; omega) (z_cpq (by have := z_hr hh1; have := z_hr hh2; omega) (z_cpq (by have := z_hr hh1; have := z_hr hh2; omega) rfl))))))) ?_
  refine wp_pf (pc' := 102) rfl rfl rfl (z_hl0 hh1) (fun z => absurd z (by decide)) (fun z => absurd z (by decide)) ?_
  refine wp_ret rfl rfl ?_
  show wp xs _ mX9_back 35 [(2, 1), (0, x1)] [] z_LL (z_up (z_up (z_up (z_cpy (z_cpy (z_cpy (z_cpy (z_cpy M ((M 301 x1) + 1) 0 ((M 1 2) + 1) 0 6) ((M 301 x1) + 2) 0 ((M 1 2) + 2) 0 6) ((M 301 x1) + 3) 0 ((M 1 2) + 3) 0 25) ((M 301 x1) + 4) 0 ((M 1 2) + 4) 0 25) ((M 301 x1) + 5) 0 ((M 1 2) + 5) 0 36) (M 1 2) 5 (M (M 301 x1) 5)) (M 1 2) 6 (M (M 301 x1) 6)) (M 1 2) 7 (M (M 301 x1) 7)) _
  refine wp_run 1 (pc' := 36) (ls' := [(2, 1), (0, x1)]) (st' := [(2, 1)]) rfl ?_
  refine wp_gf (pc' := 39) (t := 2) (v := 47) rfl rfl (by decide) rfl rfl (z_upq (by have := z_hr hh1; omega) (z_upq (by have := z_hr hh1; omega) (z_upq (by have := z_hr hh1; omega) (z_cpq (by have := z_hr hh1; omega) (z_cpq (by have := z_hr hh1; omega) (z_cpq (by have := z_hr hh1; omega) (z_cpq (by have := z_hr hh1; omega) (z_cpq (by have := z_hr hh1; omega) (fx_1_7 hF))))))))) ?_
  refine wp_callv (pc' := 42) (as := [(2, 47)]) (rest := []) (ls1 := [(2, 47)]) rfl rfl rfl rfl rfl rfl ?_
  refine wp_run 2 (pc' := 2) (ls' := [(2, 47)]) (st' := [(0, 0), (2, 47)]) rfl ?_
  refine wp_pf (pc' := 5) rfl rfl rfl rfl (fun z => absurd z (by decide)) (fun z => absurd z (by decide)) ?_
  refine wp_run 2 (pc' := 7) (ls' := [(2, 47)]) (st' := [(0, 0), (2, 47)]) rfl ?_
  refine wp_pf (pc' := 10) rfl rfl rfl rfl (fun z => absurd z (by decide)) (fun z => absurd z (by decide)) ?_
  refine wp_ret rfl rfl ?_
  show wp xs _ mX9_back 42 [(2, 1), (0, x1)] [] z_LL (z_up (z_up (z_up (z_up (z_up (z_cpy (z_cpy (z_cpy (z_cpy (z_cpy M ((M 301 x1) + 1) 0 ((M 1 2) + 1) 0 6) ((M 301 x1) + 2) 0 ((M 1 2) + 2) 0 6) ((M 301 x1) + 3) 0 ((M 1 2) + 3) 0 25) ((M 301 x1) + 4) 0 ((M 1 2) + 4) 0 25) ((M 301 x1) + 5) 0 ((M 1 2) + 5) 0 36) (M 1 2) 5 (M (M 301 x1) 5)) (M 1 2) 6 (M (M 301 x1) 6)) (M 1 2) 7 (M (M 301 x1) 7)) 47 1 0) 47 2 0) _
  refine wp_run 1 (pc' := 43) (ls' := [(2, 1), (0, x1)]) (st' := [(2, 1)]) rfl ?_
  refine wp_gf (pc' := 46) (t := 2) (v := (M 1 2)) rfl rfl (by decide) rfl rfl (z_upq (by decide) (z_upq (by decide) (z_upq (by have := z_hr hh1; omega) (z_upq (by have := z_hr hh1; omega) (z_upq (by have := z_hr hh1; omega) (z_cpq (by have := z_hr hh1; omega) (z_cpq (by have := z_hr hh1; omega) (z_cpq (by have := z_hr hh1; omega) (z_cpq (by have := z_hr hh1; omega) (z_cpq (by have := z_hr hh1; omega) rfl)))))))))) ?_
  refine wp_gf (pc' := 49) (t := 0) (v := (M (M 301 x1) 6)) rfl rfl (by decide) rfl (z_hl0 hh1) (z_upq (by have := z_hr hh1; omega) (z_upq (by have := z_hr hh1; omega) (z_upi (by decide) z_ups))) ?_
  exact wp_ret rfl rfl (l1)
set_option maxRecDepth 20000 in
theorem gX10_back_0 {xs : List Int} {d : Nat} {M : z_M} {P : Option z_V → z_L → z_M → Prop} {a1 : Int} (hF : z_fix M) 
    (l1 : (¬ (0 ≤ a1 ∧ a1 < 3)) → P (some (0, (-1))) z_LL M)
    (b1 : ((0 ≤ a1 ∧ a1 < 3)) → 0 ≤ a1 ∧ a1 < 3)
    (l2 : ((0 ≤ a1 ∧ a1 < 3)) → ((M 356 a1) ≠ 0) → wp xs (d + 1) mX10_back 20 [(2, 321), (0, a1), (0, 0)] [] z_LL M P)
    (l3 : ((0 ≤ a1 ∧ a1 < 3)) → (¬ ((M 356 a1) ≠ 0)) → P (some (0, (-1))) z_LL M) :
    wp xs (d + 1) mX10_back 0 [(2, 321), (0, a1), (3, 0)] [] z_LL M P := by
  refine wp_run 1 (pc' := 1) (ls' := [(2, 321), (0, a1), (3, 0)]) (st' := [(0, a1)]) rfl ?_
  refine wp_callv (pc' := 4) (as := [(0, a1)]) (rest := []) (ls1 := [(0, a1)]) rfl rfl rfl rfl rfl rfl ?_
  refine s_X10_isBox  ?_
  show wp xs _ mX10_back 4 [(2, 321), (0, a1), (3, 0)] [(0, (z_b (0 ≤ a1 ∧ a1 < 3)))] z_LL M _
  refine wp_be rfl rfl rfl (fun (c1 : ¬ (0 ≤ a1 ∧ a1 < 3)) => ?_) (fun (c1 : (0 ≤ a1 ∧ a1 < 3)) => ?_)
  · refine wp_run 1 (pc' := 17) (ls' := [(2, 321), (0, a1), (3, 0)]) (st' := [(0, (-1))]) rfl ?_
    exact wp_ret rfl rfl (l1 c1)
  · refine wp_run 1 (pc' := 8) (ls' := [(2, 321), (0, a1), (3, 0)]) (st' := [(2, 321)]) rfl ?_
    refine wp_gf (pc' := 11) (t := 2) (v := 356) rfl rfl (by decide) rfl rfl (fx_321_79 hF) ?_
    refine wp_run 1 (pc' := 12) (ls' := [(2, 321), (0, a1), (3, 0)]) (st' := [(0, a1), (2, 356)]) rfl ?_
    refine wp_bald (pc' := 13) (v := (M 356 a1)) rfl rfl rfl rfl (b1 c1) rfl ?_
    refine wp_if1 rfl rfl rfl (fun (c2 : (M 356 a1) ≠ 0) => ?_) (fun (c2 : ¬ ((M 356 a1) ≠ 0)) => ?_)
    · refine wp_run 2 (pc' := 20) (ls' := [(2, 321), (0, a1), (0, 0)]) (st' := []) rfl ?_
      exact l2 c1 c2
    · refine wp_run 1 (pc' := 17) (ls' := [(2, 321), (0, a1), (3, 0)]) (st' := [(0, (-1))]) rfl ?_
      exact wp_ret rfl rfl (l3 c1 c2)
set_option maxRecDepth 20000 in
theorem gX10_back_20 {xs : List Int} {d : Nat} {M : z_M} {P : Option z_V → z_L → z_M → Prop} {x1 : Int} {x2 : Int} (hF : z_fix M) 
    (l1 : (106 ≤ x2) → P (some (0, (M 342 104))) z_LL (z_up (z_up M 321 64 0) 321 65 0))
    (b1 : (¬ (106 ≤ x2)) → 0 ≤ (z_w ((z_w (106 * x1)) + x2)) ∧ (z_w ((z_w (106 * x1)) + x2)) < 318)
    (b2 : (¬ (106 ≤ x2)) → 0 ≤ x2 ∧ x2 < 106)
    (l2 : (¬ (106 ≤ x2)) → wp xs d mX10_back 20 [(2, 321), (0, x1), (0, (z_w (x2 + 1)))] [] z_LL (z_up M 342 x2 (M 357 (z_w ((z_w (106 * x1)) + x2)))) P) :
    wp xs d mX10_back 20 [(2, 321), (0, x1), (0, x2)] [] z_LL M P := by
  refine wp_run 2 (pc' := 23) (ls' := [(2, 321), (0, x1), (0, x2)]) (st' := [(0, 106), (0, x2)]) rfl ?_
  refine wp_if2 rfl rfl rfl (fun (c1 : 106 ≤ x2) => ?_) (fun (c1 : ¬ (106 ≤ x2)) => ?_)
  · refine wp_run 2 (pc' := 51) (ls' := [(2, 321), (0, x1), (0, x2)]) (st' := [(0, 0), (2, 321)]) rfl ?_
    refine wp_pf (pc' := 54) rfl rfl rfl rfl (fun z => absurd z (by decide)) (fun z => absurd z (by decide)) ?_
    refine wp_run 2 (pc' := 56) (ls' := [(2, 321), (0, x1), (0, x2)]) (st' := [(0, 0), (2, 321)]) rfl ?_
    refine wp_pf (pc' := 59) rfl rfl rfl rfl (fun z => absurd z (by decide)) (fun z => absurd z (by decide)) ?_
    refine wp_run 1 (pc' := 60) (ls' := [(2, 321), (0, x1), (0, x2)]) (st' := [(2, 321)]) rfl ?_
    refine wp_gf (pc' := 63) (t := 2) (v := 342) rfl rfl (by decide) rfl rfl (z_upi (by decide) (z_upi (by decide) (fx_321_60 hF))) ?_
    refine wp_run 1 (pc' := 65) (ls' := [(2, 321), (0, x1), (0, x2)]) (st' := [(0, 104), (2, 342)]) rfl ?_
    refine wp_iald (pc' := 66) (v := (M 342 104)) rfl rfl rfl ⟨by decide, by decide⟩ (z_upq (by decide) (z_upq (by decide) rfl)) ?_
    exact wp_ret rfl rfl (l1 c1)
  · refine wp_run 1 (pc' := 27) (ls' := [(2, 321), (0, x1), (0, x2)]) (st' := [(2, 321)]) rfl ?_
    refine wp_gf (pc' := 30) (t := 2) (v := 342) rfl rfl (by decide) rfl rfl (fx_321_60 hF) ?_
    refine wp_run 2 (pc' := 32) (ls' := [(2, 321), (0, x1), (0, x2)]) (st' := [(2, 321), (0, x2), (2, 342)]) rfl ?_
    refine wp_gf (pc' := 35) (t := 2) (v := 357) rfl rfl (by decide) rfl rfl (fx_321_80 hF) ?_
    refine wp_run 5 (pc' := 41) (ls' := [(2, 321), (0, x1), (0, x2)]) (st' := [(0, (z_w ((z_w (106 * x1)) + x2))), (2, 357), (0, x2), (2, 342)]) rfl ?_
    refine wp_iald (pc' := 42) (v := (M 357 (z_w ((z_w (106 * x1)) + x2)))) rfl rfl rfl (b1 c1) rfl ?_
    refine wp_iast (pc' := 43) rfl rfl rfl (b2 c1) ?_
    refine wp_run 2 (pc' := 20) (ls' := [(2, 321), (0, x1), (0, (z_w (x2 + 1)))]) (st' := []) rfl ?_
    exact l2 c1
theorem c_image {a1 : Int} (hR : z_R M) : z_two xs (d + 200) mX9_image mX10_image [(2, 1), (0, a1)] [(2, 321), (0, a1), (3, 0)] M := by
  have hn := (z_R_C hR).2.2.1
  by_cases h : 0 ≤ a1 ∧ a1 < 3
  · have hF := z_R_F hR
    have e301 := z_301 hF h
    have ib := z_box_ish h
    have hk := z_hk_b (z_R_k hR)
    have hb := z_fix_her hF ib
    have g := fun P => gX9_image_11 (M := M) (xs := xs) (d := d + 199) (P := P) (x1 := a1) hF (by rw [e301]; exact hb) (z_R_H hR).1 (by rw [e301]; omega)
    rw [e301] at g
    have e6 := (z_R_H hR).2.2.2.2.2.1
    unfold z_two
    refine gX9_image_0 (fun _ => by omega) (fun _ _ => ?_) (fun _ _ => by omega)
    refine g _ h ⟨M (M 1 2) 6, rfl, rfl, ?_⟩
    have H1 : z_hrd (z_cph M (M 1 2) (303 + 6 * a1)) (303 + 6 * a1) (M 342) := z_cph_h (z_R_H hR).1 hb (by omega) hn.2 (z_R_H hR)
    have o1 : ∀ q, ¬ (303 + 6 * a1 ≤ q ∧ q ≤ 303 + 6 * a1 + 5) → z_cph M (M 1 2) (303 + 6 * a1) q = M q := fun q hq => z_cph_o hq
    have o2 : ∀ j, 0 ≤ j → j < 5 → z_cph M (M 1 2) (303 + 6 * a1) (303 + 6 * a1) j = M (303 + 6 * a1) j := fun j a b => z_cph_0 (by omega)
    refine gX10_image_0 (M := z_up (z_cph M (M 1 2) (303 + 6 * a1)) 1 12 (z_or (M 1 12) (z_shl 1 a1))) ?_ (fun _ => h) (fun _ => ?_) (fun q => absurd h q)
    · refine z_fix_gen hF (fun q i hq => ?_)
      by_cases w1 : q = 1
      · rw [w1] at hq ⊢
        rw [z_upi (by unfold z_fin at hq; omega) rfl, o1 1 (by omega)]
      · rw [z_upn w1]
        by_cases w2 : q = 303 + 6 * a1
        · rw [w2] at hq ⊢
          exact o2 i (by unfold z_fin at hq; omega) (by unfold z_fin at hq; omega)
        · rw [o1 q (by unfold z_fin at hq; omega)]
    generalize z_cph M (M 1 2) (303 + 6 * a1) = M0 at *
    rw [show z_and 1 1 = 1 by decide]
    -- the class's memory, then the model's flag
    generalize hM1 : z_up (z_up M0 1 12 (z_or (M 1 12) (z_shl 1 a1))) 356 a1 1 = M1
    have f1 : ∀ q, q ≠ 1 → q ≠ 356 → ¬ (303 + 6 * a1 ≤ q ∧ q ≤ 303 + 6 * a1 + 5) → M1 q = M q := fun q a b e => by rw [← hM1, z_upn b, z_upn a, o1 q e]
    have x1 : ∀ k, k ≠ 12 → M1 1 k = M 1 k := fun k hk => by rw [← hM1, z_upn (by decide), z_upi hk rfl, o1 1 (by omega)]
    have x2 : M1 1 12 = z_or (M 1 12) (z_shl 1 a1) := by rw [← hM1, z_upn (by decide), z_ups]
    have x3 : ∀ i, i ≠ a1 → M1 356 i = M 356 i := fun i hi => by rw [← hM1, z_upi hi rfl, z_upn (by decide), o1 356 (by omega)]
    have x4 : M1 356 a1 = 1 := by rw [← hM1, z_ups]
    have x5 : ∀ j, 0 ≤ j → j < 5 → M1 (303 + 6 * a1) j = M (303 + 6 * a1) j := fun j a b => by rw [← hM1, z_upn (by omega), z_upn (by omega), o2 j a b]
    have H2 : z_hrd M1 (303 + 6 * a1) (M 342) := z_hrd_q (fun q hq => by rw [← hM1, z_upn (by omega), z_upn (by omega)]) H1
    clear hM1 H1 o1 o2
    have F1 : z_fix M1 := z_fix_gen hF (fun q i hq => by
      by_cases w1 : q = 1
      · rw [w1] at hq ⊢
        exact x1 i (by unfold z_fin at hq; omega)
      · by_cases w2 : q = 303 + 6 * a1
        · rw [w2] at hq ⊢
          exact x5 i (by unfold z_fin at hq; omega) (by unfold z_fin at hq; omega)
        · rw [f1 q w1 (by unfold z_fin at hq; omega) (by unfold z_fin at hq; omega)])
    refine z_loop (W := fun i => ∀ M' : z_M, (∀ q, q ≠ 357 → M' q = M1 q) → (∀ j : Int, 0 ≤ j → j < i → M' 357 (106 * a1 + j) = M 342 j) → (∀ j : Int, ¬ (106 * a1 ≤ j ∧ j < 106 * a1 + 106) → M' 357 j = M 357 j) → wp xs (d + 200) mX10_image 18 [(2, 321), (0, a1), (0, (i : Int))] [] z_LL M' _) 106 (fun i hi ih M' h1 h2 h3 => ?_) M1 (fun _ _ => rfl) (fun j a b => by omega) (fun j hj => by rw [f1 357 (by omega) (by omega) (by omega)])
    have g := fun P => gX10_image_18 (M := M') (xs := xs) (d := d + 200) (P := P) (x1 := a1) (x2 := (i : Int)) (z_fix_at F1 h1 (by unfold z_fobj; omega))
    simp only [h1 342 (by decide), f1 342 (by omega) (by omega) (by omega), z_in1 (i := i) (by omega), z_wid (x := 106 * a1) (by omega), z_wid (x := 106 * a1 + (i : Int)) (by omega)] at g
    refine g _ (fun c => ⟨by rw [e6], rfl, ?_⟩) (fun _ => by omega) (fun _ => by omega) (fun c => ?_)
    · obtain rfl : i = 106 := by omega
      have F' : z_fix M' := z_fix_at F1 h1 (by unfold z_fobj; omega)
      have o : ∀ q, q ≠ 1 → q ≠ 356 → q ≠ 357 → ¬ (303 + 6 * a1 ≤ q ∧ q ≤ 303 + 6 * a1 + 5) → M' q = M q := fun q a b c e => by rw [h1 q c, f1 q a b e]
      have o1 : ∀ k, k ≠ 12 → M' 1 k = M 1 k := fun k hk => by rw [h1 1 (by decide), x1 k hk]
      have c : z_cfe M M' := z_cfe_c (fun q hq => by unfold z_conf at hq; exact o q (by omega) (by omega) (by omega) (by omega))
      have C' := z_mc_x c (z_R_C hR)
      have e12 : M' 1 12 = z_or (M 1 12) (z_shl 1 a1) := by rw [h1 1 (by decide), x2]
      have e356 : ∀ i, M' 356 i = M1 356 i := fun i => by rw [h1 356 (by decide)]
      have o321 := o 321 (by omega) (by omega) (by omega) (by omega)
      refine z_R_mk c hR F' (z_Rg_q (z_R_Rg hR) c ⟨o1 0 (by decide), o1 1 (by decide)⟩ (by rw [o 34 (by omega) (by omega) (by omega) (by omega)]) (by rw [o321]) (fun q a b => o q (by omega) (by omega) (by omega) (by omega))) (z_Rn_q (z_R_Rn hR) c (o1 2 (by decide)) (o _ (by omega) (by omega) (by omega) (by omega)) (fun q a b => o q (by omega) (by omega) (by omega) (by omega))) (z_Rp_q (z_R_Rp hR) c F' (o1 2 (by decide)) (o _ (by omega) (by omega) (by omega) (by omega)) (o _ (by omega) (by omega) (by omega) (by omega)) (by rw [o321]; exact ⟨rfl, rfl⟩) (o _ (by omega) (by omega) (by omega) (by omega)) (fun q h hh _ a b => by have := z_hk_b hh; exact o q (by omega) (by omega) (by omega) (by omega))) (fun b b0 b3 => ?_) (z_Rs_q (z_R_Rs hR) c (by rw [o321]; exact ⟨rfl, rfl⟩) (fun q a => o q (by omega) (by omega) (by omega) (by omega))) (z_Rl_q (z_R_Rl hR) (o1 13 (by decide)) (by rw [o321]) (o _ (by omega) (by omega) (by omega) (by omega)) (o _ (by omega) (by omega) (by omega) (by omega))) (z_Rt_q (z_R_Rt hR) (by rw [o 30 (by omega) (by omega) (by omega) (by omega)]) (by rw [o 33 (by omega) (by omega) (by omega) (by omega)]; exact ⟨rfl, rfl⟩) (by rw [o321]; exact ⟨rfl, rfl, rfl⟩) (o _ (by omega) (by omega) (by omega) (by omega)) (o _ (by omega) (by omega) (by omega) (by omega)) (o _ (by omega) (by omega) (by omega) (by omega))) (z_Rz_q (z_R_Z hR) (o _ (by omega) (by omega) (by omega) (by omega)) (o _ (by omega) (by omega) (by omega) (by omega)))
      rw [e12, z_bt_or ⟨b0, by omega⟩, z_bt_shl (by omega) ⟨b0, by omega⟩, e356]
      by_cases e : b = a1
      · rw [e, x4]
        have ex : ∀ k : Int, 0 ≤ k → k < 106 → (fun k => M' 357 (106 * a1 + k)) k = M 342 k := fun k a b => h2 k a b
        refine ⟨Or.inr rfl, ⟨fun _ => Or.inr rfl, fun _ => rfl⟩, fun _ => ⟨z_hrd_e ex C' (z_hrd_q (fun q hq => h1 q (by omega)) H2), z_sn_e ex C' (z_sn_x c (z_R_S hR))⟩⟩
      · rw [x3 b e]
        obtain ⟨y1, y2, y3⟩ := z_R_Rb hR b b0 b3
        have ex : ∀ k : Int, 0 ≤ k → k < 106 → (fun k => M' 357 (106 * b + k)) k = (fun k => M 357 (106 * b + k)) k := fun k a b => h3 _ (by omega)
        refine ⟨y1, ⟨fun w => Or.inl (y2.mp w), fun w => y2.mpr (w.resolve_right (fun w => e w.symm))⟩, fun w => ⟨z_hrd_e ex C' (z_hrd_x c (fun q a b => o q (by omega) (by omega) (by omega) (by omega)) (y3 w).1), z_sn_e ex C' (z_sn_x c (y3 w).2)⟩⟩
    · refine ih (by omega) _ (fun q hq => by rw [z_upn hq, h1 q hq]) (fun j a b => ?_) (fun j hj => ?_)
      · by_cases e : j = i
        · rw [e, z_ups]
        · rw [z_upi (by omega) rfl, h2 j a (by omega)]
      · rw [z_upi (by omega) rfl, h3 j hj]
  · refine z_two_n (-1) hR (fun P k => gX9_image_0 (fun _ => k) (fun _ _ => by omega) (fun _ _ => k)) (fun P k => gX10_image_0 (z_R_F hR) (fun q => q) (fun q => absurd q h) (fun _ => k))
theorem c_back {a1 : Int} (hR : z_R M) : z_two xs (d + 200) mX9_back mX10_back [(2, 1), (0, a1)] [(2, 321), (0, a1), (3, 0)] M := by
  have hn := (z_R_C hR).2.2.1
  by_cases h : 0 ≤ a1 ∧ a1 < 3
  · have hF := z_R_F hR
    have e301 := z_301 hF h
    have ib := z_box_ish h
    have hk := z_hk_b (z_R_k hR)
    have hb := z_fix_her hF ib
    obtain ⟨y1, y2, y3⟩ := z_R_Rb hR a1 h.1 h.2
    unfold z_two
    unfold z_bt at y2
    by_cases hx : M 356 a1 = 1
    · obtain ⟨HB, SB⟩ := y3 hx
      have g := fun P => gX9_back_22 (M := M) (xs := xs) (d := d + 199) (P := P) (x1 := a1) hF (z_R_H hR).1 (by rw [e301]; exact hb) (by rw [e301]; omega)
      rw [e301] at g
      have e6 : M (303 + 6 * a1) 6 = M 357 (106 * a1 + 104) := HB.2.2.2.2.2.1
      refine gX9_back_0 (fun _ => by omega) (fun _ _ => by omega) (fun _ _ _ => ?_) (fun _ _ q => absurd (y2.mp hx) q)
      refine g _ h ⟨M (303 + 6 * a1) 6, rfl, rfl, ?_⟩
      have H1 : z_hrd (z_cph M (303 + 6 * a1) (M 1 2)) (M 1 2) (fun k => M 357 (106 * a1 + k)) := z_cph_h hb (z_R_H hR).1 (by omega) hn.2 HB
      have o1 : ∀ q, ¬ (M 1 2 ≤ q ∧ q ≤ M 1 2 + 5) → z_cph M (303 + 6 * a1) (M 1 2) q = M q := fun q hq => z_cph_o hq
      have o2 : ∀ j, 0 ≤ j → j < 5 → z_cph M (303 + 6 * a1) (M 1 2) (M 1 2) j = M (M 1 2) j := fun j a b => z_cph_0 (by omega)
      generalize hM1 : z_up (z_up (z_cph M (303 + 6 * a1) (M 1 2)) 47 1 0) 47 2 0 = M1
      have f1 : ∀ q, q ≠ 47 → ¬ (M 1 2 ≤ q ∧ q ≤ M 1 2 + 5) → M1 q = M q := fun q a e => by rw [← hM1, z_upn a, z_upn a, o1 q e]
      have x1 : M1 47 0 = M 47 0 ∧ M1 47 1 = 0 ∧ M1 47 2 = 0 := by
        refine ⟨?_, ?_, ?_⟩
        · rw [← hM1, z_upi (by decide) rfl, z_upi (by decide) rfl, o1 47 (by omega)]
        · rw [← hM1, z_upi (by decide) rfl, z_ups]
        · rw [← hM1, z_ups]
      have x5 : ∀ j, 0 ≤ j → j < 5 → M1 (M 1 2) j = M (M 1 2) j := fun j a b => by rw [← hM1, z_upn (by omega), z_upn (by omega), o2 j a b]
      have H2 : z_hrd M1 (M 1 2) (fun k => M 357 (106 * a1 + k)) := z_hrd_q (fun q hq => by rw [← hM1, z_upn (by omega), z_upn (by omega)]) H1
      have hM1' : z_up (z_up (z_up (z_up (z_up (z_cpy (z_cpy (z_cpy (z_cpy (z_cpy M (303 + 6 * a1 + 1) 0 (M 1 2 + 1) 0 6) (303 + 6 * a1 + 2) 0 (M 1 2 + 2) 0 6) (303 + 6 * a1 + 3) 0 (M 1 2 + 3) 0 25) (303 + 6 * a1 + 4) 0 (M 1 2 + 4) 0 25) (303 + 6 * a1 + 5) 0 (M 1 2 + 5) 0 36) (M 1 2) 5 (M (303 + 6 * a1) 5)) (M 1 2) 6 (M (303 + 6 * a1) 6)) (M 1 2) 7 (M (303 + 6 * a1) 7)) 47 1 0) 47 2 0 = M1 := hM1
      rw [hM1']
      clear hM1 hM1' H1 o1 o2
      have F1 : z_fix M1 := z_fix_gen hF (fun q i hq => by
        by_cases w1 : q = 47
        · rw [w1] at hq ⊢
          rw [show i = 0 by unfold z_fin at hq; omega, x1.1]
        · by_cases w2 : q = M 1 2
          · rw [w2] at hq ⊢
            exact x5 i (by unfold z_fin at hq; omega) (by unfold z_fin at hq; omega)
          · have hq3 : z_ish q ∨ (q ≤ 23 ∨ (30 ≤ q ∧ q ≤ 38) ∨ (45 ≤ q ∧ q ≤ 48) ∨ 289 ≤ q) := by
              unfold z_fin at hq
              unfold z_ish
              omega
            have na : ¬ (M 1 2 ≤ q ∧ q ≤ M 1 2 + 5) := by
              rcases hq3 with w | w
              · have d2 := z_hdis (z_hk_ish (z_R_k hR)).1 w (fun e => w2 e.symm)
                omega
              · omega
            rw [f1 q w1 na])
      refine gX10_back_0 F1 (fun q => absurd h q) (fun _ => h) (fun _ _ => ?_) (fun _ q => absurd (by rw [f1 356 (by omega) (by omega)]; omega) q)
      have W : ∀ (Q : Option z_V → z_L → z_M → Prop), (∀ M' : z_M, (∀ q, q ≠ 342 → M' q = M1 q) → (∀ j : Int, 0 ≤ j → j < 106 → M' 342 j = M 357 (106 * a1 + j)) → (∀ j : Int, ¬ (0 ≤ j ∧ j < 106) → M' 342 j = 0) → Q (some (0, M 357 (106 * a1 + 104))) z_LL (z_up (z_up M' 321 64 0) 321 65 0)) → wp xs (d + 200) mX10_back 20 [(2, 321), (0, a1), (0, ((0 : Nat) : Int))] [] z_LL M1 Q := fun Q k => by
        refine z_loop (W := fun i => ∀ M' : z_M, (∀ q, q ≠ 342 → M' q = M1 q) → (∀ j : Int, 0 ≤ j → j < i → M' 342 j = M 357 (106 * a1 + j)) → (∀ j : Int, ¬ (0 ≤ j ∧ j < 106) → M' 342 j = 0) → wp xs (d + 200) mX10_back 20 [(2, 321), (0, a1), (0, (i : Int))] [] z_LL M' Q) 106 (fun i hi ih M' h1 h2 h3 => ?_) M1 (fun _ _ => rfl) (fun j a b => by omega) (fun j hj => by rw [f1 342 (by omega) (by omega)]; exact (z_R_Z hR j hj).1)
        have g := gX10_back_20 (M := M') (xs := xs) (d := d + 200) (P := Q) (x1 := a1) (x2 := (i : Int)) (z_fix_at F1 h1 (by unfold z_fobj; omega))
        simp only [h1 357 (by decide), f1 357 (by omega) (by omega), z_in1 (i := i) (by omega), z_wid (x := 106 * a1) (by omega), z_wid (x := 106 * a1 + (i : Int)) (by omega)] at g
        refine g (fun c => ?_) (fun _ => by omega) (fun _ => by omega) (fun c => ?_)
        · obtain rfl : i = 106 := by omega
          rw [h2 104 (by decide) (by decide)]
          exact k M' h1 h2 h3
        · refine ih (by omega) _ (fun q hq => by rw [z_upn hq, h1 q hq]) (fun j a b => ?_) (fun j hj => ?_)
          · by_cases e : j = i
            · rw [e, z_ups]
            · rw [z_upi e rfl, h2 j a (by omega)]
          · rw [z_upi (by omega) rfl, h3 j hj]
      refine W _ (fun M2 h1 h2 h3 => ⟨by rw [e6], rfl, ?_⟩)
      generalize hM' : z_up (z_up M2 321 64 0) 321 65 0 = M'
      have o : ∀ q, q ≠ 47 → q ≠ 342 → q ≠ 321 → ¬ (M 1 2 ≤ q ∧ q ≤ M 1 2 + 5) → M' q = M q := fun q a b c e => by rw [← hM', z_upn c, z_upn c, h1 q b, f1 q a e]
      have ob : ∀ q, M 1 2 ≤ q → q ≤ M 1 2 + 5 → M' q = M1 q := fun q a b => by rw [← hM', z_upn (by omega), z_upn (by omega), h1 q (by omega)]
      have o321 : ∀ k, k ≠ 64 → k ≠ 65 → M' 321 k = M 321 k := fun k a b => by rw [← hM', z_upi b rfl, z_upi a rfl, h1 321 (by decide), f1 321 (by omega) (by omega)]
      have o64 : M' 321 64 = 0 ∧ M' 321 65 = 0 := ⟨by rw [← hM', z_upi (by decide) rfl, z_ups], by rw [← hM', z_ups]⟩
      have e47 : M' 47 = M1 47 := by rw [← hM', z_upn (by decide), z_upn (by decide), h1 47 (by decide)]
      have e342 : M' 342 = M2 342 := by rw [← hM', z_upn (by decide), z_upn (by decide)]
      clear hM'
      have c : z_cfe M M' := ⟨fun k hk => o321 k (by omega) (by omega), o _ (by omega) (by omega) (by omega) (by omega), o _ (by omega) (by omega) (by omega) (by omega), o _ (by omega) (by omega) (by omega) (by omega), o _ (by omega) (by omega) (by omega) (by omega), o _ (by omega) (by omega) (by omega) (by omega), o _ (by omega) (by omega) (by omega) (by omega), o _ (by omega) (by omega) (by omega) (by omega)⟩
      have C' := z_mc_x c (z_R_C hR)
      have o1 := o 1 (by omega) (by omega) (by omega) (by omega)
      have F' : z_fix M' := z_fix_gen F1 (fun q i hq => by
        by_cases w3 : q = 321
        · rw [w3] at hq ⊢
          rw [o321 i (by unfold z_fin at hq; omega) (by unfold z_fin at hq; omega), f1 321 (by omega) (by omega)]
        · by_cases w1 : q = 47
          · rw [w1, e47]
          · by_cases w2 : M 1 2 ≤ q ∧ q ≤ M 1 2 + 5
            · rw [ob q w2.1 w2.2]
            · rw [o q w1 (by unfold z_fin at hq; omega) w3 w2, f1 q w1 w2])
      obtain ⟨p1, p2, p3, p4, p5⟩ := z_R_Rp hR
      have ex : ∀ k : Int, 0 ≤ k → k < 106 → M' 342 k = (fun k => M 357 (106 * a1 + k)) k := fun k a b => by rw [e342, h2 k a b]
      have H2c : z_cfe M1 M' := by
        have : z_cfe M M1 := z_cfe_c (fun q hq => by unfold z_conf at hq; exact f1 q (by omega) (by omega))
        exact ⟨fun k hk => by rw [c.1 k hk, this.1 k hk], by rw [c.2.1, this.2.1], by rw [c.2.2.1, this.2.2.1], by rw [c.2.2.2.1, this.2.2.2.1], by rw [c.2.2.2.2.1, this.2.2.2.2.1], by rw [c.2.2.2.2.2.1, this.2.2.2.2.2.1], by rw [c.2.2.2.2.2.2.1, this.2.2.2.2.2.2.1], by rw [c.2.2.2.2.2.2.2, this.2.2.2.2.2.2.2]⟩
      refine z_R_mk c hR F' (z_Rg_q (z_R_Rg hR) c ⟨by rw [o1], by rw [o1]⟩ (by rw [o 34 (by omega) (by omega) (by omega) (by omega)]) (o321 49 (by omega) (by omega)) (fun q a b => o q (by omega) (by omega) (by omega) (by omega))) ⟨by rw [o1]; exact z_R_k hR, by rw [o1]; exact z_hrd_e ex C' (z_hrd_x H2c ob H2), z_sn_e ex C' (z_sn_x c SB)⟩ ⟨fun i a b => ?_, by rw [o 48 (by omega) (by omega) (by omega) (by omega)]; exact p2, by rw [e47, x1.2.1, x1.2.2, o64.1, o64.2]; exact ⟨rfl, rfl⟩, by omega, fun i a b => by omega⟩ (z_Rb_q (z_R_Rb hR) c (by rw [o1]) (o _ (by omega) (by omega) (by omega) (by omega)) (o _ (by omega) (by omega) (by omega) (by omega)) (fun q a b => o q (by omega) (by omega) (by omega) (by omega))) (z_Rs_q (z_R_Rs hR) c ⟨o321 _ (by omega) (by omega), o321 _ (by omega) (by omega)⟩ (fun q a => o q (by omega) (by omega) (by omega) (by omega))) (z_Rl_q (z_R_Rl hR) (by rw [o1]) (o321 _ (by omega) (by omega)) (o _ (by omega) (by omega) (by omega) (by omega)) (o _ (by omega) (by omega) (by omega) (by omega))) (z_Rt_q (z_R_Rt hR) (by rw [o 30 (by omega) (by omega) (by omega) (by omega)]) (by rw [o 33 (by omega) (by omega) (by omega) (by omega)]; exact ⟨rfl, rfl⟩) ⟨o321 _ (by omega) (by omega), o321 _ (by omega) (by omega), o321 _ (by omega) (by omega)⟩ (o _ (by omega) (by omega) (by omega) (by omega)) (o _ (by omega) (by omega) (by omega) (by omega)) (o _ (by omega) (by omega) (by omega) (by omega))) (fun k hk => ⟨by rw [e342]; exact h3 k hk, by rw [o 343 (by omega) (by omega) (by omega) (by omega)]; exact (z_R_Z hR k hk).2⟩)
      rw [o 48 (by omega) (by omega) (by omega) (by omega), o1]
      have pi := p1 i a b
      exact ⟨pi.1, z_fix_her F' (z_hk_ish pi.1).1, pi.2.2⟩
    · refine gX9_back_0 (fun _ => by omega) (fun _ _ => by omega) (fun _ _ q => absurd (y2.mpr q) hx) (fun _ _ _ => ⟨-1, rfl, rfl, ?_⟩)
      exact gX10_back_0 hF (fun q => absurd h q) (fun _ => h) (fun _ q => absurd (by omega) q) (fun _ _ => ⟨rfl, rfl, hR⟩)
  · refine z_two_n (-1) hR (fun P k => gX9_back_0 (fun _ => k) (fun _ _ => k) (fun _ _ _ => by omega) (fun _ _ _ => k)) (fun P k => gX10_back_0 (z_R_F hR) (fun _ => k) (fun q => q) (fun q _ => absurd q h) (fun _ _ => k))
end
