/-! the class: small helpers -/
noncomputable def z_opc (s x y : Int) : Int :=
  if s = 43 then z_w (x + y) else if s = 45 then z_w (x - y) else if s = 42 then z_w (x * y)
  else if s = 47 then (if y = 0 then 0 else z_div x y) else if s = 37 then (if y = 0 then 0 else z_rem x y)
  else if s = 60 then z_b (x < y) else if s = 62 then z_b (x > y) else if s = 61 then z_b (x = y)
  else if s = 17 then z_b (x ≠ 0 ∧ y ≠ 0) else z_b (x ≠ 0 ∨ y ≠ 0)
/-- the class's kind of a sign is the model's sign -/
def z_sgn (kk a : Int) : Prop := (kk = a ∧ (a = 43 ∨ a = 45 ∨ a = 42 ∨ a = 47 ∨ a = 37 ∨ a = 60 ∨ a = 62 ∨ a = 61)) ∨ (kk = 17 ∧ a = 38) ∨ (kk = 16 ∧ a = 124)
theorem z_opc_op {kk a x y : Int} (h : z_sgn kk a) : z_opc kk x y = z_op a x y := by
  unfold z_sgn at h
  rcases h with ⟨rfl, rfl | rfl | rfl | rfl | rfl | rfl | rfl | rfl⟩ | ⟨rfl, rfl⟩ | ⟨rfl, rfl⟩ <;> simp [z_opc, z_op]
set_option maxRecDepth 20000 in
theorem gX8_joined_0 {xs : List Int} {d : Nat} {M : z_M} {P : Option z_V → z_L → z_M → Prop} {a1 : Int} {a2 : Int} {a3 : Int} 
    (l1 : (a1 = 17) → (a2 = 0) → P (some (0, 0)) z_LL M)
    (l2 : (a1 = 17) → (¬ (a2 = 0)) → (a3 = 0) → P (some (0, 0)) z_LL M)
    (l3 : (a1 = 17) → (¬ (a2 = 0)) → (¬ (a3 = 0)) → P (some (0, 1)) z_LL M)
    (b1 : (¬ a1 = 17) → (a1 = 37) → (a3 ≠ 0) → ¬ a3 = 0)
    (l4 : (¬ a1 = 17) → (a1 = 37) → (a3 ≠ 0) → P (some (0, (z_rem a2 a3))) z_LL M)
    (l5 : (¬ a1 = 17) → (a1 = 37) → (¬ (a3 ≠ 0)) → P (some (0, 0)) z_LL M)
    (l6 : (¬ a1 = 17) → (¬ a1 = 37) → (a1 = 42) → P (some (0, (z_w (a2 * a3)))) z_LL M)
    (l7 : (¬ a1 = 17) → (¬ a1 = 37) → (¬ a1 = 42) → (a1 = 43) → P (some (0, (z_w (a2 + a3)))) z_LL M)
    (l8 : (¬ a1 = 17) → (¬ a1 = 37) → (¬ a1 = 42) → (¬ a1 = 43) → (a1 = 45) → P (some (0, (z_w (a2 - a3)))) z_LL M)
    (b2 : (¬ a1 = 17) → (¬ a1 = 37) → (¬ a1 = 42) → (¬ a1 = 43) → (¬ a1 = 45) → (a1 = 47) → (a3 ≠ 0) → ¬ a3 = 0)
    (l9 : (¬ a1 = 17) → (¬ a1 = 37) → (¬ a1 = 42) → (¬ a1 = 43) → (¬ a1 = 45) → (a1 = 47) → (a3 ≠ 0) → P (some (0, (z_div a2 a3))) z_LL M)
    (l10 : (¬ a1 = 17) → (¬ a1 = 37) → (¬ a1 = 42) → (¬ a1 = 43) → (¬ a1 = 45) → (a1 = 47) → (¬ (a3 ≠ 0)) → P (some (0, 0)) z_LL M)
    (l11 : (¬ a1 = 17) → (¬ a1 = 37) → (¬ a1 = 42) → (¬ a1 = 43) → (¬ a1 = 45) → (¬ a1 = 47) → (a1 = 60) → (a3 ≤ a2) → P (some (0, 0)) z_LL M)
    (l12 : (¬ a1 = 17) → (¬ a1 = 37) → (¬ a1 = 42) → (¬ a1 = 43) → (¬ a1 = 45) → (¬ a1 = 47) → (a1 = 60) → (¬ (a3 ≤ a2)) → P (some (0, 1)) z_LL M)
    (l13 : (¬ a1 = 17) → (¬ a1 = 37) → (¬ a1 = 42) → (¬ a1 = 43) → (¬ a1 = 45) → (¬ a1 = 47) → (¬ a1 = 60) → (a1 = 61) → (a2 ≠ a3) → P (some (0, 0)) z_LL M)
    (l14 : (¬ a1 = 17) → (¬ a1 = 37) → (¬ a1 = 42) → (¬ a1 = 43) → (¬ a1 = 45) → (¬ a1 = 47) → (¬ a1 = 60) → (a1 = 61) → (¬ (a2 ≠ a3)) → P (some (0, 1)) z_LL M)
    (l15 : (¬ a1 = 17) → (¬ a1 = 37) → (¬ a1 = 42) → (¬ a1 = 43) → (¬ a1 = 45) → (¬ a1 = 47) → (¬ a1 = 60) → (¬ a1 = 61) → (a1 = 62) → (a2 ≤ a3) → P (some (0, 0)) z_LL M)
    (l16 : (¬ a1 = 17) → (¬ a1 = 37) → (¬ a1 = 42) → (¬ a1 = 43) → (¬ a1 = 45) → (¬ a1 = 47) → (¬ a1 = 60) → (¬ a1 = 61) → (a1 = 62) → (¬ (a2 ≤ a3)) → P (some (0, 1)) z_LL M)
    (l17 : (¬ a1 = 17) → (¬ a1 = 37) → (¬ a1 = 42) → (¬ a1 = 43) → (¬ a1 = 45) → (¬ a1 = 47) → (¬ a1 = 60) → (¬ a1 = 61) → (¬ a1 = 62) → (a2 ≠ 0) → P (some (0, 1)) z_LL M)
    (l18 : (¬ a1 = 17) → (¬ a1 = 37) → (¬ a1 = 42) → (¬ a1 = 43) → (¬ a1 = 45) → (¬ a1 = 47) → (¬ a1 = 60) → (¬ a1 = 61) → (¬ a1 = 62) → (¬ (a2 ≠ 0)) → (a3 = 0) → P (some (0, 0)) z_LL M)
    (l19 : (¬ a1 = 17) → (¬ a1 = 37) → (¬ a1 = 42) → (¬ a1 = 43) → (¬ a1 = 45) → (¬ a1 = 47) → (¬ a1 = 60) → (¬ a1 = 61) → (¬ a1 = 62) → (¬ (a2 ≠ 0)) → (¬ (a3 = 0)) → P (some (0, 1)) z_LL M) :
    wp xs d mX8_joined 0 [(0, a1), (0, a2), (0, a3)] [] z_LL M P := by
  refine wp_run 1 (pc' := 1) (ls' := [(0, a1), (0, a2), (0, a3)]) (st' := [(0, a1)]) rfl ?_
  by_cases c1 : a1 = 17
  · refine wp_cast c1 ?_
    refine wp_run 2 (pc' := 154) (ls' := [(0, a1), (0, a2), (0, a3)]) (st' := [(0, a2)]) rfl ?_
    refine wp_if1 rfl rfl rfl (fun (c2 : a2 = 0) => ?_) (fun (c2 : ¬ (a2 = 0)) => ?_)
    · refine wp_run 1 (pc' := 166) (ls' := [(0, a1), (0, a2), (0, a3)]) (st' := [(0, 0)]) rfl ?_
      exact wp_ret rfl rfl (l1 c1 c2)
    · refine wp_run 1 (pc' := 158) (ls' := [(0, a1), (0, a2), (0, a3)]) (st' := [(0, a3)]) rfl ?_
      refine wp_if1 rfl rfl rfl (fun (c3 : a3 = 0) => ?_) (fun (c3 : ¬ (a3 = 0)) => ?_)
      · refine wp_run 1 (pc' := 166) (ls' := [(0, a1), (0, a2), (0, a3)]) (st' := [(0, 0)]) rfl ?_
        exact wp_ret rfl rfl (l2 c1 c2 c3)
      · refine wp_run 2 (pc' := 166) (ls' := [(0, a1), (0, a2), (0, a3)]) (st' := [(0, 1)]) rfl ?_
        exact wp_ret rfl rfl (l3 c1 c2 c3)
  by_cases c4 : a1 = 37
  · refine wp_cast c4 ?_
    refine wp_run 2 (pc' := 109) (ls' := [(0, a1), (0, a2), (0, a3)]) (st' := [(0, a3)]) rfl ?_
    refine wp_if1 rfl rfl rfl (fun (c5 : a3 ≠ 0) => ?_) (fun (c5 : ¬ (a3 ≠ 0)) => ?_)
    · refine wp_run 2 (pc' := 118) (ls' := [(0, a1), (0, a2), (0, a3)]) (st' := [(0, a3), (0, a2)]) rfl ?_
      refine wp_rem rfl rfl (b1 c1 c4 c5) ?_
      exact wp_ret rfl rfl (l4 c1 c4 c5)
    · refine wp_run 2 (pc' := 119) (ls' := [(0, a1), (0, a2), (0, a3)]) (st' := [(0, 0)]) rfl ?_
      exact wp_ret rfl rfl (l5 c1 c4 c5)
  by_cases c6 : a1 = 42
  · refine wp_cast c6 ?_
    refine wp_run 4 (pc' := 95) (ls' := [(0, a1), (0, a2), (0, a3)]) (st' := [(0, (z_w (a2 * a3)))]) rfl ?_
    exact wp_ret rfl rfl (l6 c1 c4 c6)
  by_cases c7 : a1 = 43
  · refine wp_cast c7 ?_
    refine wp_run 4 (pc' := 87) (ls' := [(0, a1), (0, a2), (0, a3)]) (st' := [(0, (z_w (a2 + a3)))]) rfl ?_
    exact wp_ret rfl rfl (l7 c1 c4 c6 c7)
  by_cases c8 : a1 = 45
  · refine wp_cast c8 ?_
    refine wp_run 4 (pc' := 91) (ls' := [(0, a1), (0, a2), (0, a3)]) (st' := [(0, (z_w (a2 - a3)))]) rfl ?_
    exact wp_ret rfl rfl (l8 c1 c4 c6 c7 c8)
  by_cases c9 : a1 = 47
  · refine wp_cast c9 ?_
    refine wp_run 2 (pc' := 97) (ls' := [(0, a1), (0, a2), (0, a3)]) (st' := [(0, a3)]) rfl ?_
    refine wp_if1 rfl rfl rfl (fun (c10 : a3 ≠ 0) => ?_) (fun (c10 : ¬ (a3 ≠ 0)) => ?_)
    · refine wp_run 2 (pc' := 106) (ls' := [(0, a1), (0, a2), (0, a3)]) (st' := [(0, a3), (0, a2)]) rfl ?_
      refine wp_div rfl rfl (b2 c1 c4 c6 c7 c8 c9 c10) ?_
      exact wp_ret rfl rfl (l9 c1 c4 c6 c7 c8 c9 c10)
    · refine wp_run 2 (pc' := 107) (ls' := [(0, a1), (0, a2), (0, a3)]) (st' := [(0, 0)]) rfl ?_
      exact wp_ret rfl rfl (l10 c1 c4 c6 c7 c8 c9 c10)
  by_cases c11 : a1 = 60
  · refine wp_cast c11 ?_
    refine wp_run 3 (pc' := 122) (ls' := [(0, a1), (0, a2), (0, a3)]) (st' := [(0, a3), (0, a2)]) rfl ?_
    refine wp_if2 rfl rfl rfl (fun (c12 : a3 ≤ a2) => ?_) (fun (c12 : ¬ (a3 ≤ a2)) => ?_)
    · refine wp_run 1 (pc' := 130) (ls' := [(0, a1), (0, a2), (0, a3)]) (st' := [(0, 0)]) rfl ?_
      exact wp_ret rfl rfl (l11 c1 c4 c6 c7 c8 c9 c11 c12)
    · refine wp_run 2 (pc' := 130) (ls' := [(0, a1), (0, a2), (0, a3)]) (st' := [(0, 1)]) rfl ?_
      exact wp_ret rfl rfl (l12 c1 c4 c6 c7 c8 c9 c11 c12)
  by_cases c13 : a1 = 61
  · refine wp_cast c13 ?_
    refine wp_run 3 (pc' := 144) (ls' := [(0, a1), (0, a2), (0, a3)]) (st' := [(0, a3), (0, a2)]) rfl ?_
    refine wp_if2 rfl rfl rfl (fun (c14 : a2 ≠ a3) => ?_) (fun (c14 : ¬ (a2 ≠ a3)) => ?_)
    · refine wp_run 1 (pc' := 152) (ls' := [(0, a1), (0, a2), (0, a3)]) (st' := [(0, 0)]) rfl ?_
      exact wp_ret rfl rfl (l13 c1 c4 c6 c7 c8 c9 c11 c13 c14)
    · refine wp_run 2 (pc' := 152) (ls' := [(0, a1), (0, a2), (0, a3)]) (st' := [(0, 1)]) rfl ?_
      exact wp_ret rfl rfl (l14 c1 c4 c6 c7 c8 c9 c11 c13 c14)
  by_cases c15 : a1 = 62
  · refine wp_cast c15 ?_
    refine wp_run 3 (pc' := 133) (ls' := [(0, a1), (0, a2), (0, a3)]) (st' := [(0, a3), (0, a2)]) rfl ?_
    refine wp_if2 rfl rfl rfl (fun (c16 : a2 ≤ a3) => ?_) (fun (c16 : ¬ (a2 ≤ a3)) => ?_)
    · refine wp_run 1 (pc' := 141) (ls' := [(0, a1), (0, a2), (0, a3)]) (st' := [(0, 0)]) rfl ?_
      exact wp_ret rfl rfl (l15 c1 c4 c6 c7 c8 c9 c11 c13 c15 c16)
    · refine wp_run 2 (pc' := 141) (ls' := [(0, a1), (0, a2), (0, a3)]) (st' := [(0, 1)]) rfl ?_
      exact wp_ret rfl rfl (l16 c1 c4 c6 c7 c8 c9 c11 c13 c15 c16)
  refine wp_lsd rfl rfl (by simp [z_lsw, c1, c4, c6, c7, c8, c9, c11, c13, c15]) ?_
  refine wp_run 1 (pc' := 168) (ls' := [(0, a1), (0, a2), (0, a3)]) (st' := [(0, a2)]) rfl ?_
  refine wp_if1 rfl rfl rfl (fun (c17 : a2 ≠ 0) => ?_) (fun (c17 : ¬ (a2 ≠ 0)) => ?_)
  · refine wp_run 2 (pc' := 180) (ls' := [(0, a1), (0, a2), (0, a3)]) (st' := [(0, 1)]) rfl ?_
    exact wp_ret rfl rfl (l17 c1 c4 c6 c7 c8 c9 c11 c13 c15 c17)
  · refine wp_run 1 (pc' := 172) (ls' := [(0, a1), (0, a2), (0, a3)]) (st' := [(0, a3)]) rfl ?_
    refine wp_if1 rfl rfl rfl (fun (c18 : a3 = 0) => ?_) (fun (c18 : ¬ (a3 = 0)) => ?_)
    · refine wp_run 1 (pc' := 180) (ls' := [(0, a1), (0, a2), (0, a3)]) (st' := [(0, 0)]) rfl ?_
      exact wp_ret rfl rfl (l18 c1 c4 c6 c7 c8 c9 c11 c13 c15 c17 c18)
    · refine wp_run 2 (pc' := 180) (ls' := [(0, a1), (0, a2), (0, a3)]) (st' := [(0, 1)]) rfl ?_
      exact wp_ret rfl rfl (l19 c1 c4 c6 c7 c8 c9 c11 c13 c15 c17 c18)
set_option maxRecDepth 20000 in
theorem gX5_isUnitWord_0 {xs : List Int} {d : Nat} {M : z_M} {P : Option z_V → z_L → z_M → Prop} {a1 : Int} 
    (l1 : (a1 = 3) → P (some (0, 1)) z_LL M)
    (l2 : (¬ (a1 = 3)) → (a1 < 19) → P (some (0, 0)) z_LL M)
    (l3 : (¬ (a1 = 3)) → (¬ (a1 < 19)) → (23 < a1) → P (some (0, 0)) z_LL M)
    (l4 : (¬ (a1 = 3)) → (¬ (a1 < 19)) → (¬ (23 < a1)) → P (some (0, 1)) z_LL M) :
    wp xs d mX5_isUnitWord 0 [(0, a1)] [] z_LL M P := by
  refine wp_run 2 (pc' := 2) (ls' := [(0, a1)]) (st' := [(0, 3), (0, a1)]) rfl ?_
  refine wp_if2 rfl rfl rfl (fun (c1 : a1 = 3) => ?_) (fun (c1 : ¬ (a1 = 3)) => ?_)
  · refine wp_run 2 (pc' := 22) (ls' := [(0, a1)]) (st' := [(0, 1)]) rfl ?_
    exact wp_ret rfl rfl (l1 c1)
  · refine wp_run 2 (pc' := 8) (ls' := [(0, a1)]) (st' := [(0, 19), (0, a1)]) rfl ?_
    refine wp_if2 rfl rfl rfl (fun (c2 : a1 < 19) => ?_) (fun (c2 : ¬ (a1 < 19)) => ?_)
    · refine wp_run 1 (pc' := 22) (ls' := [(0, a1)]) (st' := [(0, 0)]) rfl ?_
      exact wp_ret rfl rfl (l2 c1 c2)
    · refine wp_run 2 (pc' := 14) (ls' := [(0, a1)]) (st' := [(0, 23), (0, a1)]) rfl ?_
      refine wp_if2 rfl rfl rfl (fun (c3 : 23 < a1) => ?_) (fun (c3 : ¬ (23 < a1)) => ?_)
      · refine wp_run 1 (pc' := 22) (ls' := [(0, a1)]) (st' := [(0, 0)]) rfl ?_
        exact wp_ret rfl rfl (l3 c1 c2 c3)
      · refine wp_run 2 (pc' := 22) (ls' := [(0, a1)]) (st' := [(0, 1)]) rfl ?_
        exact wp_ret rfl rfl (l4 c1 c2 c3)
set_option maxRecDepth 20000 in
theorem gX1_canMix_0 {xs : List Int} {d : Nat} {M : z_M} {P : Option z_V → z_L → z_M → Prop} {g : Int} {a1 : Int} {a2 : Int} (hg : z_gor M g)
    (l1 : (a1 < 0) → P (some (0, 0)) z_LL M)
    (l2 : (¬ (a1 < 0)) → ((M g 12) ≤ a1) → P (some (0, 0)) z_LL M)
    (l3 : (¬ (a1 < 0)) → (¬ ((M g 12) ≤ a1)) → (a2 < 0) → P (some (0, 0)) z_LL M)
    (l4 : (¬ (a1 < 0)) → (¬ ((M g 12) ≤ a1)) → (¬ (a2 < 0)) → ((M g 12) ≤ a2) → P (some (0, 0)) z_LL M)
    (b1 : (¬ (a1 < 0)) → (¬ ((M g 12) ≤ a1)) → (¬ (a2 < 0)) → (¬ ((M g 12) ≤ a2)) → 0 ≤ a1 ∧ a1 < 6)
    (b2 : (¬ (a1 < 0)) → (¬ ((M g 12) ≤ a1)) → (¬ (a2 < 0)) → (¬ ((M g 12) ≤ a2)) → 0 ≤ a2 ∧ a2 < 6)
    (l5 : (¬ (a1 < 0)) → (¬ ((M g 12) ≤ a1)) → (¬ (a2 < 0)) → (¬ ((M g 12) ≤ a2)) → ((M (g + 2) a1) = (M (g + 2) a2)) → P (some (0, 0)) z_LL M)
    (l6 : (¬ (a1 < 0)) → (¬ ((M g 12) ≤ a1)) → (¬ (a2 < 0)) → (¬ ((M g 12) ≤ a2)) → (¬ ((M (g + 2) a1) = (M (g + 2) a2))) → ((z_and (z_shr (M (g + 5) a1) a2) 1) = 0) → P (some (0, 1)) z_LL M)
    (l7 : (¬ (a1 < 0)) → (¬ ((M g 12) ≤ a1)) → (¬ (a2 < 0)) → (¬ ((M g 12) ≤ a2)) → (¬ ((M (g + 2) a1) = (M (g + 2) a2))) → (¬ ((z_and (z_shr (M (g + 5) a1) a2) 1) = 0)) → P (some (0, 0)) z_LL M) :
    wp xs (d + 1) mX1_canMix 0 [(2, g), (0, a1), (0, a2)] [] z_LL M P := by
  refine wp_run 2 (pc' := 2) (ls' := [(2, g), (0, a1), (0, a2)]) (st' := [(0, a1), (2, g)]) rfl ?_
  refine wp_callv (pc' := 5) (as := [(2, g), (0, a1)]) (rest := []) (ls1 := [(2, g), (0, a1)]) rfl rfl rfl rfl (z_args_v rfl rfl rfl rfl (Nat.le_of_ble_eq_true rfl) rfl (by decide) (z_gl0 hg)) rfl ?_
  refine wp_run 1 (pc' := 1) (ls' := [(2, g), (0, a1)]) (st' := [(0, a1)]) rfl ?_
  refine wp_if1 rfl rfl rfl (fun (c1 : a1 < 0) => ?_) (fun (c1 : ¬ (a1 < 0)) => ?_)
  · refine wp_run 1 (pc' := 17) (ls' := [(2, g), (0, a1)]) (st' := [(0, 0)]) rfl ?_
    refine wp_ret rfl rfl ?_
    show wp xs _ mX1_canMix 5 [(2, g), (0, a1), (0, a2)] [(0, 0)] z_LL M _
    refine wp_run 2 (pc' := 45) (ls' := [(2, g), (0, a1), (0, a2)]) (st' := [(0, 0)]) rfl ?_
    exact wp_ret rfl rfl (l1 c1)
  · refine wp_run 2 (pc' := 6) (ls' := [(2, g), (0, a1)]) (st' := [(2, g), (0, a1)]) rfl ?_
    refine wp_gf (pc' := 9) (t := 0) (v := (M g 12)) rfl rfl (by decide) rfl (z_gl0 hg) rfl ?_
    refine wp_if2 rfl rfl rfl (fun (c2 : (M g 12) ≤ a1) => ?_) (fun (c2 : ¬ ((M g 12) ≤ a1)) => ?_)
    · refine wp_run 1 (pc' := 17) (ls' := [(2, g), (0, a1)]) (st' := [(0, 0)]) rfl ?_
      refine wp_ret rfl rfl ?_
      show wp xs _ mX1_canMix 5 [(2, g), (0, a1), (0, a2)] [(0, 0)] z_LL M _
      refine wp_run 2 (pc' := 45) (ls' := [(2, g), (0, a1), (0, a2)]) (st' := [(0, 0)]) rfl ?_
      exact wp_ret rfl rfl (l2 c1 c2)
    · refine wp_run 2 (pc' := 17) (ls' := [(2, g), (0, a1)]) (st' := [(0, 1)]) rfl ?_
      refine wp_ret rfl rfl ?_
      show wp xs _ mX1_canMix 5 [(2, g), (0, a1), (0, a2)] [(0, 1)] z_LL M _
      refine wp_run 3 (pc' := 10) (ls' := [(2, g), (0, a1), (0, a2)]) (st' := [(0, a2), (2, g)]) rfl ?_
      refine wp_callv (pc' := 13) (as := [(2, g), (0, a2)]) (rest := []) (ls1 := [(2, g), (0, a2)]) rfl rfl rfl rfl (z_args_v rfl rfl rfl rfl (Nat.le_of_ble_eq_true rfl) rfl (by decide) (z_gl0 hg)) rfl ?_
      refine wp_run 1 (pc' := 1) (ls' := [(2, g), (0, a2)]) (st' := [(0, a2)]) rfl ?_
      refine wp_if1 rfl rfl rfl (fun (c3 : a2 < 0) => ?_) (fun (c3 : ¬ (a2 < 0)) => ?_)
      · refine wp_run 1 (pc' := 17) (ls' := [(2, g), (0, a2)]) (st' := [(0, 0)]) rfl ?_
        refine wp_ret rfl rfl ?_
        show wp xs _ mX1_canMix 13 [(2, g), (0, a1), (0, a2)] [(0, 0)] z_LL M _
        refine wp_run 2 (pc' := 45) (ls' := [(2, g), (0, a1), (0, a2)]) (st' := [(0, 0)]) rfl ?_
        exact wp_ret rfl rfl (l3 c1 c2 c3)
      · refine wp_run 2 (pc' := 6) (ls' := [(2, g), (0, a2)]) (st' := [(2, g), (0, a2)]) rfl ?_
        refine wp_gf (pc' := 9) (t := 0) (v := (M g 12)) rfl rfl (by decide) rfl (z_gl0 hg) rfl ?_
        refine wp_if2 rfl rfl rfl (fun (c4 : (M g 12) ≤ a2) => ?_) (fun (c4 : ¬ ((M g 12) ≤ a2)) => ?_)
        · refine wp_run 1 (pc' := 17) (ls' := [(2, g), (0, a2)]) (st' := [(0, 0)]) rfl ?_
          refine wp_ret rfl rfl ?_
          show wp xs _ mX1_canMix 13 [(2, g), (0, a1), (0, a2)] [(0, 0)] z_LL M _
          refine wp_run 2 (pc' := 45) (ls' := [(2, g), (0, a1), (0, a2)]) (st' := [(0, 0)]) rfl ?_
          exact wp_ret rfl rfl (l4 c1 c2 c3 c4)
        · refine wp_run 2 (pc' := 17) (ls' := [(2, g), (0, a2)]) (st' := [(0, 1)]) rfl ?_
          refine wp_ret rfl rfl ?_
          show wp xs _ mX1_canMix 13 [(2, g), (0, a1), (0, a2)] [(0, 1)] z_LL M _
          refine wp_run 2 (pc' := 17) (ls' := [(2, g), (0, a1), (0, a2)]) (st' := [(2, g)]) rfl ?_
          refine wp_gf (pc' := 20) (t := 2) (v := (g + 2)) rfl rfl (by decide) rfl (z_gl0 hg) (z_gf1 hg) ?_
          refine wp_run 1 (pc' := 21) (ls' := [(2, g), (0, a1), (0, a2)]) (st' := [(0, a1), (2, (g + 2))]) rfl ?_
          refine wp_iald (pc' := 22) (v := (M (g + 2) a1)) rfl rfl (z_gl2 hg) (b1 c1 c2 c3 c4) rfl ?_
          refine wp_run 1 (pc' := 23) (ls' := [(2, g), (0, a1), (0, a2)]) (st' := [(2, g), (0, (M (g + 2) a1))]) rfl ?_
          refine wp_gf (pc' := 26) (t := 2) (v := (g + 2)) rfl rfl (by decide) rfl (z_gl0 hg) (z_gf1 hg) ?_
          refine wp_run 1 (pc' := 27) (ls' := [(2, g), (0, a1), (0, a2)]) (st' := [(0, a2), (2, (g + 2)), (0, (M (g + 2) a1))]) rfl ?_
          refine wp_iald (pc' := 28) (v := (M (g + 2) a2)) rfl rfl (z_gl2 hg) (b2 c1 c2 c3 c4) rfl ?_
          refine wp_if2 rfl rfl rfl (fun (c5 : (M (g + 2) a1) = (M (g + 2) a2)) => ?_) (fun (c5 : ¬ ((M (g + 2) a1) = (M (g + 2) a2))) => ?_)
          · refine wp_run 1 (pc' := 45) (ls' := [(2, g), (0, a1), (0, a2)]) (st' := [(0, 0)]) rfl ?_
            exact wp_ret rfl rfl (l5 c1 c2 c3 c4 c5)
          · refine wp_run 3 (pc' := 34) (ls' := [(2, g), (0, a1), (0, a2)]) (st' := [(0, a2), (0, a1), (2, g)]) rfl ?_
            refine wp_callv (pc' := 37) (as := [(2, g), (0, a1), (0, a2)]) (rest := []) (ls1 := [(2, g), (0, a1), (0, a2)]) rfl rfl rfl rfl (z_args_v rfl rfl rfl rfl (Nat.le_of_ble_eq_true rfl) rfl (by decide) (z_gl0 hg)) rfl ?_
            refine wp_run 1 (pc' := 1) (ls' := [(2, g), (0, a1), (0, a2)]) (st' := [(2, g)]) rfl ?_
            refine wp_gf (pc' := 4) (t := 2) (v := (g + 5)) rfl rfl (by decide) rfl (z_gl0 hg) (z_gf4 hg) ?_
            refine wp_run 1 (pc' := 5) (ls' := [(2, g), (0, a1), (0, a2)]) (st' := [(0, a1), (2, (g + 5))]) rfl ?_
            refine wp_iald (pc' := 6) (v := (M (g + 5) a1)) rfl rfl (z_gl5 hg) (b1 c1 c2 c3 c4) rfl ?_
            refine wp_run 4 (pc' := 10) (ls' := [(2, g), (0, a1), (0, a2)]) (st' := [(0, (z_and (z_shr (M (g + 5) a1) a2) 1))]) rfl ?_
            refine wp_if1 rfl rfl rfl (fun (c6 : (z_and (z_shr (M (g + 5) a1) a2) 1) = 0) => ?_) (fun (c6 : ¬ ((z_and (z_shr (M (g + 5) a1) a2) 1) = 0)) => ?_)
            · refine wp_run 1 (pc' := 18) (ls' := [(2, g), (0, a1), (0, a2)]) (st' := [(0, 0)]) rfl ?_
              refine wp_ret rfl rfl ?_
              show wp xs _ mX1_canMix 37 [(2, g), (0, a1), (0, a2)] [(0, 0)] z_LL M _
              refine wp_run 3 (pc' := 45) (ls' := [(2, g), (0, a1), (0, a2)]) (st' := [(0, 1)]) rfl ?_
              exact wp_ret rfl rfl (l6 c1 c2 c3 c4 c5 c6)
            · refine wp_run 2 (pc' := 18) (ls' := [(2, g), (0, a1), (0, a2)]) (st' := [(0, 1)]) rfl ?_
              refine wp_ret rfl rfl ?_
              show wp xs _ mX1_canMix 37 [(2, g), (0, a1), (0, a2)] [(0, 1)] z_LL M _
              refine wp_run 2 (pc' := 45) (ls' := [(2, g), (0, a1), (0, a2)]) (st' := [(0, 0)]) rfl ?_
              exact wp_ret rfl rfl (l7 c1 c2 c3 c4 c5 c6)
set_option maxRecDepth 20000 in
theorem s_X8_joined {xs : List Int} {d : Nat} {M : z_M} {P : Option z_V → z_L → z_M → Prop} {s x y : Int} (k : P (some (0, z_opc s x y)) z_LL M) : wp xs d mX8_joined 0 [(0, s), (0, x), (0, y)] [] z_LL M P := by
  unfold z_opc at k
  apply gX8_joined_0
  all_goals first
    | (intros; assumption)
    | (intros; clear k; contradiction)
    | (intros; simp_all [z_b_true, z_b_false]; done)
    | (intros; subst_vars; simp_all [z_b_true, z_b_false]; done)
    | (intros; subst_vars; simp [*] at k; rw [z_b_t (by omega)] at k; exact k)
    | (intros; subst_vars; simp [*] at k; rw [z_b_f (by omega)] at k; exact k)
theorem s_X5_isUnitWord {xs : List Int} {d : Nat} {M : z_M} {P : Option z_V → z_L → z_M → Prop} {x : Int} (k : P (some (0, z_b (x = 3 ∨ (19 ≤ x ∧ x ≤ 23)))) z_LL M) : wp xs d mX5_isUnitWord 0 [(0, x)] [] z_LL M P := by
  refine gX5_isUnitWord_0 (fun a => ?_) (fun a b => ?_) (fun a b c => ?_) (fun a b c => ?_)
  · rw [z_b_t (by omega)] at k
    exact k
  · rw [z_b_f (by omega)] at k
    exact k
  · rw [z_b_f (by omega)] at k
    exact k
  · rw [z_b_t (by omega)] at k
    exact k
/-- two flocks of a gorge can mix -/
def z_cmg (M : z_M) (g a b : Int) : Prop := (0 ≤ a ∧ a < M g 12) ∧ (0 ≤ b ∧ b < M g 12) ∧ M (g + 2) a ≠ M (g + 2) b ∧ z_and (z_shr (M (g + 5) a) b) 1 = 0
theorem s_X1_canMix {xs : List Int} {d : Nat} {M : z_M} {P : Option z_V → z_L → z_M → Prop} {g a b : Int} (hg : z_gor M g) (hn : M g 12 ≤ 6) (k : P (some (0, z_b (z_cmg M g a b))) z_LL M) : wp xs (d + 1) mX1_canMix 0 [(2, g), (0, a), (0, b)] [] z_LL M P := by
  unfold z_cmg at k
  apply gX1_canMix_0 hg
  case b1 => intros; omega
  case b2 => intros; omega
  case l6 =>
    intros
    rw [z_b_t ⟨by omega, by omega, by assumption, by assumption⟩] at k
    exact k
  case l5 =>
    intro _ _ _ _ c
    rw [z_b_f (fun q => q.2.2.1 c)] at k
    exact k
  case l7 =>
    intro _ _ _ _ _ c
    rw [z_b_f (fun q => c q.2.2.2)] at k
    exact k
  all_goals
    intros
    rw [z_b_f (fun q => by omega)] at k
    exact k
