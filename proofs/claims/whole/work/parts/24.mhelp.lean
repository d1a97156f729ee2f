/-! the model's small helpers -/
theorem z_div_pos {a c : Int} (h : 0 ≤ a ∧ a < 2147483648) (hc : 0 < c ∧ c < 2147483648) : z_div a c = a / c := by
  unfold z_div
  rw [Int32.toInt_div, z_ofto (by unfold z_oi; omega), z_ofto (by unfold z_oi; omega), Int.tdiv_eq_ediv_of_nonneg h.1]
  have h1 : 0 ≤ a / c := Int.ediv_nonneg h.1 (by omega)
  have h2 : a / c ≤ a := Int.ediv_le_self c h.1
  simp only [Int.bmod_def]
  omega
theorem z_rem_pos {a c : Int} (h : 0 ≤ a ∧ a < 2147483648) (hc : 0 < c ∧ c < 2147483648) : z_rem a c = a % c := by
  have e1 : z_rem a c = z_w (a - z_w (z_div a c * c)) := by
    unfold z_rem
    have e2 : Int32.ofInt a - Int32.ofInt a / Int32.ofInt c * Int32.ofInt c = Int32.ofInt (z_w (a - z_w (z_div a c * c))) := by
      rw [z_w_32, Int32.ofInt_sub, z_w_32, Int32.ofInt_mul]
      unfold z_div
      rw [Int32.ofInt_toInt]
    rw [e2, z_ofto (z_w_oi _)]
  rw [e1, z_div_pos h hc]
  have h1 := Int.emod_nonneg a (show c ≠ 0 by omega)
  have h2 := Int.emod_lt_of_pos a hc.1
  have h3 := Int.mul_ediv_add_emod a c
  have h4 : 0 ≤ a / c := Int.ediv_nonneg h.1 (by omega)
  have h5 : 0 ≤ a / c * c := Int.mul_nonneg h4 (by omega)
  rw [Int.mul_comm] at h3
  rw [z_wid (x := a / c * c) (by omega), z_wid (by omega)]
  omega
def z_dis (a b : Int) : Int := if a < b then b - a else a - b
def z_far (c a b : Int) : Int := z_dis (a % c) (b % c) + z_dis (a / c) (b / c)
def z_cm (M : z_M) (a b : Int) : Prop := M 337 a ≠ M 337 b ∧ z_and (z_shr (M 341 a) b) 1 = 0
set_option maxRecDepth 20000 in
theorem gX10_truth_0 {xs : List Int} {d : Nat} {M : z_M} {P : Option z_V → z_L → z_M → Prop} {a1 : Int} 
    (l1 : (a1 = 0) → P (some (0, 0)) z_LL M)
    (l2 : (¬ (a1 = 0)) → P (some (0, 1)) z_LL M) :
    wp xs d mX10_truth 0 [(0, a1)] [] z_LL M P := by
  refine wp_run 1 (pc' := 1) (ls' := [(0, a1)]) (st' := [(0, a1)]) rfl ?_
  refine wp_if1 rfl rfl rfl (fun (c1 : a1 = 0) => ?_) (fun (c1 : ¬ (a1 = 0)) => ?_)
  · refine wp_run 1 (pc' := 9) (ls' := [(0, a1)]) (st' := [(0, 0)]) rfl ?_
    exact wp_ret rfl rfl (l1 c1)
  · refine wp_run 2 (pc' := 9) (ls' := [(0, a1)]) (st' := [(0, 1)]) rfl ?_
    exact wp_ret rfl rfl (l2 c1)
set_option maxRecDepth 20000 in
theorem gX10_isIn_0 {xs : List Int} {d : Nat} {M : z_M} {P : Option z_V → z_L → z_M → Prop} {a1 : Int} {a2 : Int} {a3 : Int} 
    (l1 : (a1 < a2) → P (some (0, 0)) z_LL M)
    (l2 : (¬ (a1 < a2)) → (a3 < a1) → P (some (0, 0)) z_LL M)
    (l3 : (¬ (a1 < a2)) → (¬ (a3 < a1)) → P (some (0, 1)) z_LL M) :
    wp xs d mX10_isIn 0 [(0, a1), (0, a2), (0, a3)] [] z_LL M P := by
  refine wp_run 2 (pc' := 2) (ls' := [(0, a1), (0, a2), (0, a3)]) (st' := [(0, a2), (0, a1)]) rfl ?_
  refine wp_if2 rfl rfl rfl (fun (c1 : a1 < a2) => ?_) (fun (c1 : ¬ (a1 < a2)) => ?_)
  · refine wp_run 1 (pc' := 15) (ls' := [(0, a1), (0, a2), (0, a3)]) (st' := [(0, 0)]) rfl ?_
    exact wp_ret rfl rfl (l1 c1)
  · refine wp_run 2 (pc' := 7) (ls' := [(0, a1), (0, a2), (0, a3)]) (st' := [(0, a3), (0, a1)]) rfl ?_
    refine wp_if2 rfl rfl rfl (fun (c2 : a3 < a1) => ?_) (fun (c2 : ¬ (a3 < a1)) => ?_)
    · refine wp_run 1 (pc' := 15) (ls' := [(0, a1), (0, a2), (0, a3)]) (st' := [(0, 0)]) rfl ?_
      exact wp_ret rfl rfl (l2 c1 c2)
    · refine wp_run 2 (pc' := 15) (ls' := [(0, a1), (0, a2), (0, a3)]) (st' := [(0, 1)]) rfl ?_
      exact wp_ret rfl rfl (l3 c1 c2)
set_option maxRecDepth 20000 in
theorem gX10_all_0 {xs : List Int} {d : Nat} {M : z_M} {P : Option z_V → z_L → z_M → Prop} 
    (l1 : P (some (0, (z_w ((M 321 46) * (M 321 47))))) z_LL M) :
    wp xs d mX10_all 0 [(2, 321)] [] z_LL M P := by
  refine wp_run 1 (pc' := 1) (ls' := [(2, 321)]) (st' := [(2, 321)]) rfl ?_
  refine wp_gf (pc' := 4) (t := 0) (v := (M 321 46)) rfl rfl (by decide) rfl rfl rfl ?_
  refine wp_run 1 (pc' := 5) (ls' := [(2, 321)]) (st' := [(2, 321), (0, (M 321 46))]) rfl ?_
  refine wp_gf (pc' := 8) (t := 0) (v := (M 321 47)) rfl rfl (by decide) rfl rfl rfl ?_
  refine wp_run 1 (pc' := 9) (ls' := [(2, 321)]) (st' := [(0, (z_w ((M 321 46) * (M 321 47))))]) rfl ?_
  exact wp_ret rfl rfl (l1)
set_option maxRecDepth 20000 in
theorem gX10_isBox_0 {xs : List Int} {d : Nat} {M : z_M} {P : Option z_V → z_L → z_M → Prop} {a1 : Int} 
    (l1 : (a1 < 0) → P (some (0, 0)) z_LL M)
    (l2 : (¬ (a1 < 0)) → (3 ≤ a1) → P (some (0, 0)) z_LL M)
    (l3 : (¬ (a1 < 0)) → (¬ (3 ≤ a1)) → P (some (0, 1)) z_LL M) :
    wp xs d mX10_isBox 0 [(0, a1)] [] z_LL M P := by
  refine wp_run 1 (pc' := 1) (ls' := [(0, a1)]) (st' := [(0, a1)]) rfl ?_
  refine wp_if1 rfl rfl rfl (fun (c1 : a1 < 0) => ?_) (fun (c1 : ¬ (a1 < 0)) => ?_)
  · refine wp_run 1 (pc' := 14) (ls' := [(0, a1)]) (st' := [(0, 0)]) rfl ?_
    exact wp_ret rfl rfl (l1 c1)
  · refine wp_run 2 (pc' := 6) (ls' := [(0, a1)]) (st' := [(0, 3), (0, a1)]) rfl ?_
    refine wp_if2 rfl rfl rfl (fun (c2 : 3 ≤ a1) => ?_) (fun (c2 : ¬ (3 ≤ a1)) => ?_)
    · refine wp_run 1 (pc' := 14) (ls' := [(0, a1)]) (st' := [(0, 0)]) rfl ?_
      exact wp_ret rfl rfl (l2 c1 c2)
    · refine wp_run 2 (pc' := 14) (ls' := [(0, a1)]) (st' := [(0, 1)]) rfl ?_
      exact wp_ret rfl rfl (l3 c1 c2)
theorem s_X10_truth {xs : List Int} {d : Nat} {M : z_M} {P : Option z_V → z_L → z_M → Prop} {x : Int} (hx : x = 0 ∨ x = 1) (k : P (some (0, x)) z_LL M) : wp xs d mX10_truth 0 [(0, x)] [] z_LL M P := by
  refine gX10_truth_0 (fun h => ?_) (fun h => ?_)
  · rw [h] at k
    exact k
  · rw [hx.resolve_left h] at k
    exact k
theorem s_X10_isIn {xs : List Int} {d : Nat} {M : z_M} {P : Option z_V → z_L → z_M → Prop} {v a b : Int} (k : P (some (0, z_b (a ≤ v ∧ v ≤ b))) z_LL M) : wp xs d mX10_isIn 0 [(0, v), (0, a), (0, b)] [] z_LL M P := by
  refine gX10_isIn_0 (fun h => ?_) (fun h h2 => ?_) (fun h h2 => ?_)
  · rwa [z_b_f (by omega)] at k
  · rwa [z_b_f (by omega)] at k
  · rwa [z_b_t (by omega)] at k
theorem s_X10_all {xs : List Int} {d : Nat} {M : z_M} {P : Option z_V → z_L → z_M → Prop} (hF : z_fix M) (hC : z_mc M) (k : P (some (0, M 321 46 * M 321 47)) z_LL M) : wp xs d mX10_all 0 [(2, 321)] [] z_LL M P := by
  refine gX10_all_0 ?_
  have := z_mc_cells hC
  rwa [z_wid (by omega)]
theorem s_X10_isBox {xs : List Int} {d : Nat} {M : z_M} {P : Option z_V → z_L → z_M → Prop} {a : Int} (k : P (some (0, z_b (0 ≤ a ∧ a < 3))) z_LL M) : wp xs d mX10_isBox 0 [(0, a)] [] z_LL M P := by
  refine gX10_isBox_0 (fun h => ?_) (fun h h2 => ?_) (fun h h2 => ?_)
  · rwa [z_b_f (by omega)] at k
  · rwa [z_b_f (by omega)] at k
  · rwa [z_b_t (by omega)] at k
set_option maxRecDepth 20000 in
theorem gX10_isFlock_0 {xs : List Int} {d : Nat} {M : z_M} {P : Option z_V → z_L → z_M → Prop} {a1 : Int} 
    (l1 : P (some (0, (z_b (0 ≤ a1 ∧ a1 ≤ (z_w ((M 321 48) - 1)))))) z_LL M) :
    wp xs (d + 1) mX10_isFlock 0 [(2, 321), (0, a1)] [] z_LL M P := by
  refine wp_run 3 (pc' := 3) (ls' := [(2, 321), (0, a1)]) (st' := [(2, 321), (0, 0), (0, a1)]) rfl ?_
  refine wp_gf (pc' := 6) (t := 0) (v := (M 321 48)) rfl rfl (by decide) rfl rfl rfl ?_
  refine wp_run 2 (pc' := 8) (ls' := [(2, 321), (0, a1)]) (st' := [(0, (z_w ((M 321 48) - 1))), (0, 0), (0, a1)]) rfl ?_
  refine wp_callv (pc' := 11) (as := [(0, a1), (0, 0), (0, (z_w ((M 321 48) - 1)))]) (rest := []) (ls1 := [(0, a1), (0, 0), (0, (z_w ((M 321 48) - 1)))]) rfl rfl rfl rfl rfl rfl ?_
  refine s_X10_isIn  ?_
  show wp xs _ mX10_isFlock 11 [(2, 321), (0, a1)] [(0, (z_b (0 ≤ a1 ∧ a1 ≤ (z_w ((M 321 48) - 1)))))] z_LL M _
  exact wp_retz rfl rfl rfl z_b_01 (l1)
set_option maxRecDepth 20000 in
theorem gX10_isCell_0 {xs : List Int} {d : Nat} {M : z_M} {P : Option z_V → z_L → z_M → Prop} {a1 : Int} (hF : z_fix M) (hC : z_mc M) 
    (l1 : P (some (0, (z_b (0 ≤ a1 ∧ a1 ≤ (z_w ((M 321 46 * M 321 47) - 1)))))) z_LL M) :
    wp xs (d + 1) mX10_isCell 0 [(2, 321), (0, a1)] [] z_LL M P := by
  refine wp_run 3 (pc' := 3) (ls' := [(2, 321), (0, a1)]) (st' := [(2, 321), (0, 0), (0, a1)]) rfl ?_
  refine wp_callv (pc' := 6) (as := [(2, 321)]) (rest := [(0, 0), (0, a1)]) (ls1 := [(2, 321)]) rfl rfl rfl rfl rfl rfl ?_
  refine s_X10_all hF hC ?_
  show wp xs _ mX10_isCell 6 [(2, 321), (0, a1)] [(0, (M 321 46 * M 321 47)), (0, 0), (0, a1)] z_LL M _
  refine wp_run 2 (pc' := 8) (ls' := [(2, 321), (0, a1)]) (st' := [(0, (z_w ((M 321 46 * M 321 47) - 1))), (0, 0), (0, a1)]) rfl ?_
  refine wp_callv (pc' := 11) (as := [(0, a1), (0, 0), (0, (z_w ((M 321 46 * M 321 47) - 1)))]) (rest := []) (ls1 := [(0, a1), (0, 0), (0, (z_w ((M 321 46 * M 321 47) - 1)))]) rfl rfl rfl rfl rfl rfl ?_
  refine s_X10_isIn  ?_
  show wp xs _ mX10_isCell 11 [(2, 321), (0, a1)] [(0, (z_b (0 ≤ a1 ∧ a1 ≤ (z_w ((M 321 46 * M 321 47) - 1)))))] z_LL M _
  exact wp_retz rfl rfl rfl z_b_01 (l1)
set_option maxRecDepth 20000 in
theorem gX10_apart_0 {xs : List Int} {d : Nat} {M : z_M} {P : Option z_V → z_L → z_M → Prop} {a1 : Int} {a2 : Int} 
    (l1 : (a2 ≤ a1) → P (some (0, (z_w (a1 - a2)))) z_LL M)
    (l2 : (¬ (a2 ≤ a1)) → P (some (0, (z_w (a2 - a1)))) z_LL M) :
    wp xs d mX10_apart 0 [(0, a1), (0, a2)] [] z_LL M P := by
  refine wp_run 2 (pc' := 2) (ls' := [(0, a1), (0, a2)]) (st' := [(0, a2), (0, a1)]) rfl ?_
  refine wp_if2 rfl rfl rfl (fun (c1 : a2 ≤ a1) => ?_) (fun (c1 : ¬ (a2 ≤ a1)) => ?_)
  · refine wp_run 3 (pc' := 14) (ls' := [(0, a1), (0, a2)]) (st' := [(0, (z_w (a1 - a2)))]) rfl ?_
    exact wp_ret rfl rfl (l1 c1)
  · refine wp_run 4 (pc' := 14) (ls' := [(0, a1), (0, a2)]) (st' := [(0, (z_w (a2 - a1)))]) rfl ?_
    exact wp_ret rfl rfl (l2 c1)
theorem s_X10_isFlock {xs : List Int} {d : Nat} {M : z_M} {P : Option z_V → z_L → z_M → Prop} {a : Int} (hF : z_fix M) (hC : z_mc M) (k : P (some (0, z_b (0 ≤ a ∧ a < M 321 48))) z_LL M) : wp xs (d + 1) mX10_isFlock 0 [(2, 321), (0, a)] [] z_LL M P := by
  refine gX10_isFlock_0 ?_
  have := hC.2.2.1
  rw [z_wid (by omega), z_b_i (q := 0 ≤ a ∧ a < M 321 48) (by omega)]
  exact k
theorem s_X10_isCell {xs : List Int} {d : Nat} {M : z_M} {P : Option z_V → z_L → z_M → Prop} {a : Int} (hF : z_fix M) (hC : z_mc M) (k : P (some (0, z_b (0 ≤ a ∧ a < M 321 46 * M 321 47))) z_LL M) : wp xs (d + 1) mX10_isCell 0 [(2, 321), (0, a)] [] z_LL M P := by
  refine gX10_isCell_0 hF hC ?_
  have := z_mc_cells hC
  rw [z_wid (by omega), z_b_i (q := 0 ≤ a ∧ a < M 321 46 * M 321 47) (by omega)]
  exact k
theorem s_X10_apart {xs : List Int} {d : Nat} {M : z_M} {P : Option z_V → z_L → z_M → Prop} {a b : Int} (h : 0 ≤ a ∧ a < 100 ∧ 0 ≤ b ∧ b < 100) (k : P (some (0, z_dis a b)) z_LL M) : wp xs d mX10_apart 0 [(0, a), (0, b)] [] z_LL M P := by
  unfold z_dis at k
  refine gX10_apart_0 (fun c => ?_) (fun c => ?_)
  · rw [if_neg (by omega)] at k
    rwa [z_wid (by omega)]
  · rw [if_pos (by omega)] at k
    rwa [z_wid (by omega)]
set_option maxRecDepth 20000 in
theorem gX10_farOf_0 {xs : List Int} {d : Nat} {M : z_M} {P : Option z_V → z_L → z_M → Prop} {a1 : Int} {a2 : Int} 
    (b1 : ¬ (M 321 46) = 0)
    (b2 : (0 ≤ (z_rem a1 (M 321 46)) ∧ (z_rem a1 (M 321 46)) < 100 ∧ 0 ≤ (z_rem a2 (M 321 46)) ∧ (z_rem a2 (M 321 46)) < 100))
    (b3 : (0 ≤ (z_div a1 (M 321 46)) ∧ (z_div a1 (M 321 46)) < 100 ∧ 0 ≤ (z_div a2 (M 321 46)) ∧ (z_div a2 (M 321 46)) < 100))
    (l1 : P (some (0, (z_w ((z_dis (z_rem a1 (M 321 46)) (z_rem a2 (M 321 46))) + (z_dis (z_div a1 (M 321 46)) (z_div a2 (M 321 46))))))) z_LL M) :
    wp xs (d + 1) mX10_farOf 0 [(2, 321), (0, a1), (0, a2)] [] z_LL M P := by
  refine wp_run 2 (pc' := 2) (ls' := [(2, 321), (0, a1), (0, a2)]) (st' := [(2, 321), (0, a1)]) rfl ?_
  refine wp_gf (pc' := 5) (t := 0) (v := (M 321 46)) rfl rfl (by decide) rfl rfl rfl ?_
  refine wp_rem rfl rfl (b1) ?_
  refine wp_run 2 (pc' := 8) (ls' := [(2, 321), (0, a1), (0, a2)]) (st' := [(2, 321), (0, a2), (0, (z_rem a1 (M 321 46)))]) rfl ?_
  refine wp_gf (pc' := 11) (t := 0) (v := (M 321 46)) rfl rfl (by decide) rfl rfl rfl ?_
  refine wp_rem rfl rfl (b1) ?_
  refine wp_callv (pc' := 15) (as := [(0, (z_rem a1 (M 321 46))), (0, (z_rem a2 (M 321 46)))]) (rest := []) (ls1 := [(0, (z_rem a1 (M 321 46))), (0, (z_rem a2 (M 321 46)))]) rfl rfl rfl rfl rfl rfl ?_
  refine s_X10_apart (b2) ?_
  show wp xs _ mX10_farOf 15 [(2, 321), (0, a1), (0, a2)] [(0, (z_dis (z_rem a1 (M 321 46)) (z_rem a2 (M 321 46))))] z_LL M _
  refine wp_run 2 (pc' := 17) (ls' := [(2, 321), (0, a1), (0, a2)]) (st' := [(2, 321), (0, a1), (0, (z_dis (z_rem a1 (M 321 46)) (z_rem a2 (M 321 46))))]) rfl ?_
  refine wp_gf (pc' := 20) (t := 0) (v := (M 321 46)) rfl rfl (by decide) rfl rfl rfl ?_
  refine wp_div rfl rfl (b1) ?_
  refine wp_run 2 (pc' := 23) (ls' := [(2, 321), (0, a1), (0, a2)]) (st' := [(2, 321), (0, a2), (0, (z_div a1 (M 321 46))), (0, (z_dis (z_rem a1 (M 321 46)) (z_rem a2 (M 321 46))))]) rfl ?_
  refine wp_gf (pc' := 26) (t := 0) (v := (M 321 46)) rfl rfl (by decide) rfl rfl rfl ?_
  refine wp_div rfl rfl (b1) ?_
  refine wp_callv (pc' := 30) (as := [(0, (z_div a1 (M 321 46))), (0, (z_div a2 (M 321 46)))]) (rest := [(0, (z_dis (z_rem a1 (M 321 46)) (z_rem a2 (M 321 46))))]) (ls1 := [(0, (z_div a1 (M 321 46))), (0, (z_div a2 (M 321 46)))]) rfl rfl rfl rfl rfl rfl ?_
  refine s_X10_apart (b3) ?_
  show wp xs _ mX10_farOf 30 [(2, 321), (0, a1), (0, a2)] [(0, (z_dis (z_div a1 (M 321 46)) (z_div a2 (M 321 46)))), (0, (z_dis (z_rem a1 (M 321 46)) (z_rem a2 (M 321 46))))] z_LL M _
  refine wp_run 1 (pc' := 31) (ls' := [(2, 321), (0, a1), (0, a2)]) (st' := [(0, (z_w ((z_dis (z_rem a1 (M 321 46)) (z_rem a2 (M 321 46))) + (z_dis (z_div a1 (M 321 46)) (z_div a2 (M 321 46))))))]) rfl ?_
  exact wp_ret rfl rfl (l1)
set_option maxRecDepth 20000 in
theorem gX10_canMix_0 {xs : List Int} {d : Nat} {M : z_M} {P : Option z_V → z_L → z_M → Prop} {a1 : Int} {a2 : Int} (hF : z_fix M) 
    (b1 : 0 ≤ a1 ∧ a1 < 6)
    (b2 : 0 ≤ a2 ∧ a2 < 6)
    (l1 : ((M 337 a1) = (M 337 a2)) → P (some (0, 0)) z_LL M)
    (l2 : (¬ ((M 337 a1) = (M 337 a2))) → ((z_and (z_shr (M 341 a1) a2) 1) ≠ 0) → P (some (0, 0)) z_LL M)
    (l3 : (¬ ((M 337 a1) = (M 337 a2))) → (¬ ((z_and (z_shr (M 341 a1) a2) 1) ≠ 0)) → P (some (0, 1)) z_LL M) :
    wp xs d mX10_canMix 0 [(2, 321), (0, a1), (0, a2)] [] z_LL M P := by
  refine wp_run 1 (pc' := 1) (ls' := [(2, 321), (0, a1), (0, a2)]) (st' := [(2, 321)]) rfl ?_
  refine wp_gf (pc' := 4) (t := 2) (v := 337) rfl rfl (by decide) rfl rfl (fx_321_31 hF) ?_
  refine wp_run 1 (pc' := 5) (ls' := [(2, 321), (0, a1), (0, a2)]) (st' := [(0, a1), (2, 337)]) rfl ?_
  refine wp_iald (pc' := 6) (v := (M 337 a1)) rfl rfl rfl (b1) rfl ?_
  refine wp_run 1 (pc' := 7) (ls' := [(2, 321), (0, a1), (0, a2)]) (st' := [(2, 321), (0, (M 337 a1))]) rfl ?_
  refine wp_gf (pc' := 10) (t := 2) (v := 337) rfl rfl (by decide) rfl rfl (fx_321_31 hF) ?_
  refine wp_run 1 (pc' := 11) (ls' := [(2, 321), (0, a1), (0, a2)]) (st' := [(0, a2), (2, 337), (0, (M 337 a1))]) rfl ?_
  refine wp_iald (pc' := 12) (v := (M 337 a2)) rfl rfl rfl (b2) rfl ?_
  refine wp_if2 rfl rfl rfl (fun (c1 : (M 337 a1) = (M 337 a2)) => ?_) (fun (c1 : ¬ ((M 337 a1) = (M 337 a2))) => ?_)
  · refine wp_run 1 (pc' := 33) (ls' := [(2, 321), (0, a1), (0, a2)]) (st' := [(0, 0)]) rfl ?_
    exact wp_ret rfl rfl (l1 c1)
  · refine wp_run 1 (pc' := 16) (ls' := [(2, 321), (0, a1), (0, a2)]) (st' := [(2, 321)]) rfl ?_
    refine wp_gf (pc' := 19) (t := 2) (v := 341) rfl rfl (by decide) rfl rfl (fx_321_35 hF) ?_
    refine wp_run 1 (pc' := 20) (ls' := [(2, 321), (0, a1), (0, a2)]) (st' := [(0, a1), (2, 341)]) rfl ?_
    refine wp_iald (pc' := 21) (v := (M 341 a1)) rfl rfl rfl (b1) rfl ?_
    refine wp_run 4 (pc' := 25) (ls' := [(2, 321), (0, a1), (0, a2)]) (st' := [(0, (z_and (z_shr (M 341 a1) a2) 1))]) rfl ?_
    refine wp_if1 rfl rfl rfl (fun (c2 : (z_and (z_shr (M 341 a1) a2) 1) ≠ 0) => ?_) (fun (c2 : ¬ ((z_and (z_shr (M 341 a1) a2) 1) ≠ 0)) => ?_)
    · refine wp_run 1 (pc' := 33) (ls' := [(2, 321), (0, a1), (0, a2)]) (st' := [(0, 0)]) rfl ?_
      exact wp_ret rfl rfl (l2 c1 c2)
    · refine wp_run 2 (pc' := 33) (ls' := [(2, 321), (0, a1), (0, a2)]) (st' := [(0, 1)]) rfl ?_
      exact wp_ret rfl rfl (l3 c1 c2)
theorem z_rc {c a : Int} (hc : 2 ≤ c ∧ c ≤ 5) (h : 0 ≤ a ∧ a < 25) : (0 ≤ a % c ∧ a % c < 5) ∧ (0 ≤ a / c ∧ a / c < 25) := by
  have : c = 2 ∨ c = 3 ∨ c = 4 ∨ c = 5 := by omega
  rcases this with rfl | rfl | rfl | rfl <;> omega
theorem z_dis_b {a b n : Int} (h : 0 ≤ a ∧ a < n) (h2 : 0 ≤ b ∧ b < n) : 0 ≤ z_dis a b ∧ z_dis a b < n := by
  unfold z_dis
  split <;> omega
theorem s_X10_farOf {xs : List Int} {d : Nat} {M : z_M} {P : Option z_V → z_L → z_M → Prop} {a b : Int} (hF : z_fix M) (hC : z_mc M) (h : 0 ≤ a ∧ a < 25 ∧ 0 ≤ b ∧ b < 25) (k : P (some (0, z_far (M 321 46) a b)) z_LL M) : wp xs (d + 1) mX10_farOf 0 [(2, 321), (0, a), (0, b)] [] z_LL M P := by
  have hc := hC.1
  have ra := z_rc hc (a := a) (by omega)
  have rb := z_rc hc (a := b) (by omega)
  have e1 := z_rem_pos (a := a) (c := M 321 46) (by omega) (by omega)
  have e2 := z_rem_pos (a := b) (c := M 321 46) (by omega) (by omega)
  have e3 := z_div_pos (a := a) (c := M 321 46) (by omega) (by omega)
  have e4 := z_div_pos (a := b) (c := M 321 46) (by omega) (by omega)
  have b1 := z_dis_b ra.1 rb.1
  have b2 := z_dis_b ra.2 rb.2
  refine gX10_farOf_0 (by omega) (by rw [e1, e2]; omega) (by rw [e3, e4]; omega) ?_
  rw [e1, e2, e3, e4, z_wid (by omega)]
  exact k
theorem s_X10_canMix {xs : List Int} {d : Nat} {M : z_M} {P : Option z_V → z_L → z_M → Prop} {a b : Int} (hF : z_fix M) (h : 0 ≤ a ∧ a < 6 ∧ 0 ≤ b ∧ b < 6) (k : P (some (0, z_b (z_cm M a b))) z_LL M) : wp xs d mX10_canMix 0 [(2, 321), (0, a), (0, b)] [] z_LL M P := by
  refine gX10_canMix_0 hF (by omega) (by omega) (fun c => ?_) (fun c c2 => ?_) (fun c c2 => ?_)
  · rwa [z_b_f (fun q => q.1 c)] at k
  · rwa [z_b_f (fun q => c2 q.2)] at k
  · rwa [z_b_t ⟨c, Classical.byContradiction fun q => c2 q⟩] at k
set_option maxRecDepth 20000 in
theorem gX10_areMixing_0 {xs : List Int} {d : Nat} {M : z_M} {P : Option z_V → z_L → z_M → Prop} {a1 : Int} {a2 : Int} (hF : z_fix M) (hC : z_mc M) 
    (l1 : (¬ (0 ≤ a1 ∧ a1 < M 321 48)) → P (some (0, 0)) z_LL M)
    (l2 : ((0 ≤ a1 ∧ a1 < M 321 48)) → (¬ (0 ≤ a2 ∧ a2 < M 321 48)) → P (some (0, 0)) z_LL M)
    (b1 : ((0 ≤ a1 ∧ a1 < M 321 48)) → ((0 ≤ a2 ∧ a2 < M 321 48)) → (0 ≤ a1 ∧ a1 < 6 ∧ 0 ≤ a2 ∧ a2 < 6))
    (l3 : ((0 ≤ a1 ∧ a1 < M 321 48)) → ((0 ≤ a2 ∧ a2 < M 321 48)) → (¬ (z_cm M a1 a2)) → P (some (0, 0)) z_LL M)
    (l4 : ((0 ≤ a1 ∧ a1 < M 321 48)) → ((0 ≤ a2 ∧ a2 < M 321 48)) → ((z_cm M a1 a2)) → P (some (0, 1)) z_LL M) :
    wp xs (d + 2) mX10_areMixing 0 [(2, 321), (0, a1), (0, a2)] [] z_LL M P := by
  refine wp_run 2 (pc' := 2) (ls' := [(2, 321), (0, a1), (0, a2)]) (st' := [(0, a1), (2, 321)]) rfl ?_
  refine wp_callv (pc' := 5) (as := [(2, 321), (0, a1)]) (rest := []) (ls1 := [(2, 321), (0, a1)]) rfl rfl rfl rfl rfl rfl ?_
  refine s_X10_isFlock hF hC ?_
  show wp xs _ mX10_areMixing 5 [(2, 321), (0, a1), (0, a2)] [(0, (z_b (0 ≤ a1 ∧ a1 < M 321 48)))] z_LL M _
  refine wp_be rfl rfl rfl (fun (c1 : ¬ (0 ≤ a1 ∧ a1 < M 321 48)) => ?_) (fun (c1 : (0 ≤ a1 ∧ a1 < M 321 48)) => ?_)
  · refine wp_run 1 (pc' := 30) (ls' := [(2, 321), (0, a1), (0, a2)]) (st' := [(0, 0)]) rfl ?_
    exact wp_ret rfl rfl (l1 c1)
  · refine wp_run 2 (pc' := 10) (ls' := [(2, 321), (0, a1), (0, a2)]) (st' := [(0, a2), (2, 321)]) rfl ?_
    refine wp_callv (pc' := 13) (as := [(2, 321), (0, a2)]) (rest := []) (ls1 := [(2, 321), (0, a2)]) rfl rfl rfl rfl rfl rfl ?_
    refine s_X10_isFlock hF hC ?_
    show wp xs _ mX10_areMixing 13 [(2, 321), (0, a1), (0, a2)] [(0, (z_b (0 ≤ a2 ∧ a2 < M 321 48)))] z_LL M _
    refine wp_be rfl rfl rfl (fun (c2 : ¬ (0 ≤ a2 ∧ a2 < M 321 48)) => ?_) (fun (c2 : (0 ≤ a2 ∧ a2 < M 321 48)) => ?_)
    · refine wp_run 1 (pc' := 30) (ls' := [(2, 321), (0, a1), (0, a2)]) (st' := [(0, 0)]) rfl ?_
      exact wp_ret rfl rfl (l2 c1 c2)
    · refine wp_run 3 (pc' := 19) (ls' := [(2, 321), (0, a1), (0, a2)]) (st' := [(0, a2), (0, a1), (2, 321)]) rfl ?_
      refine wp_callv (pc' := 22) (as := [(2, 321), (0, a1), (0, a2)]) (rest := []) (ls1 := [(2, 321), (0, a1), (0, a2)]) rfl rfl rfl rfl rfl rfl ?_
      refine s_X10_canMix hF (b1 c1 c2) ?_
      show wp xs _ mX10_areMixing 22 [(2, 321), (0, a1), (0, a2)] [(0, (z_b (z_cm M a1 a2)))] z_LL M _
      refine wp_be rfl rfl rfl (fun (c3 : ¬ (z_cm M a1 a2)) => ?_) (fun (c3 : (z_cm M a1 a2)) => ?_)
      · refine wp_run 1 (pc' := 30) (ls' := [(2, 321), (0, a1), (0, a2)]) (st' := [(0, 0)]) rfl ?_
        exact wp_ret rfl rfl (l3 c1 c2 c3)
      · refine wp_run 2 (pc' := 30) (ls' := [(2, 321), (0, a1), (0, a2)]) (st' := [(0, 1)]) rfl ?_
        exact wp_ret rfl rfl (l4 c1 c2 c3)
set_option maxRecDepth 20000 in
theorem gX10_isFree_0 {xs : List Int} {d : Nat} {M : z_M} {P : Option z_V → z_L → z_M → Prop} {a1 : Int} (hF : z_fix M) 
    (b1 : 0 ≤ (z_w (79 + a1)) ∧ (z_w (79 + a1)) < 106)
    (l1 : ((M 342 (z_w (79 + a1))) ≠ 0) → P (some (0, 0)) z_LL M)
    (l2 : (¬ ((M 342 (z_w (79 + a1))) ≠ 0)) → P (some (0, 1)) z_LL M) :
    wp xs d mX10_isFree 0 [(2, 321), (0, a1)] [] z_LL M P := by
  refine wp_run 1 (pc' := 1) (ls' := [(2, 321), (0, a1)]) (st' := [(2, 321)]) rfl ?_
  refine wp_gf (pc' := 4) (t := 2) (v := 342) rfl rfl (by decide) rfl rfl (fx_321_60 hF) ?_
  refine wp_run 3 (pc' := 8) (ls' := [(2, 321), (0, a1)]) (st' := [(0, (z_w (79 + a1))), (2, 342)]) rfl ?_
  refine wp_iald (pc' := 9) (v := (M 342 (z_w (79 + a1)))) rfl rfl rfl (b1) rfl ?_
  refine wp_if1 rfl rfl rfl (fun (c1 : (M 342 (z_w (79 + a1))) ≠ 0) => ?_) (fun (c1 : ¬ ((M 342 (z_w (79 + a1))) ≠ 0)) => ?_)
  · refine wp_run 1 (pc' := 17) (ls' := [(2, 321), (0, a1)]) (st' := [(0, 0)]) rfl ?_
    exact wp_ret rfl rfl (l1 c1)
  · refine wp_run 2 (pc' := 17) (ls' := [(2, 321), (0, a1)]) (st' := [(0, 1)]) rfl ?_
    exact wp_ret rfl rfl (l2 c1)
set_option maxRecDepth 20000 in
theorem gX10_couldBe_0 {xs : List Int} {d : Nat} {M : z_M} {P : Option z_V → z_L → z_M → Prop} {a1 : Int} {a2 : Int} (hF : z_fix M) 
    (b1 : (0 ≤ a1 ∧ a1 < 6 ∧ 0 ≤ a2 ∧ a2 < 6))
    (l1 : (¬ (z_cm M a1 a2)) → P (some (0, 0)) z_LL M)
    (b2 : ((z_cm M a1 a2)) → 0 ≤ (z_w ((z_w (6 * a1)) + a2)) ∧ (z_w ((z_w (6 * a1)) + a2)) < 36)
    (l2 : ((z_cm M a1 a2)) → ((M 340 (z_w ((z_w (6 * a1)) + a2))) < 0) → P (some (0, 0)) z_LL M)
    (b3 : ((z_cm M a1 a2)) → (¬ ((M 340 (z_w ((z_w (6 * a1)) + a2))) < 0)) → 0 ≤ (z_w ((z_w (6 * a2)) + a1)) ∧ (z_w ((z_w (6 * a2)) + a1)) < 36)
    (l3 : ((z_cm M a1 a2)) → (¬ ((M 340 (z_w ((z_w (6 * a1)) + a2))) < 0)) → ((M 340 (z_w ((z_w (6 * a2)) + a1))) < 0) → P (some (0, 0)) z_LL M)
    (l4 : ((z_cm M a1 a2)) → (¬ ((M 340 (z_w ((z_w (6 * a1)) + a2))) < 0)) → (¬ ((M 340 (z_w ((z_w (6 * a2)) + a1))) < 0)) → P (some (0, 1)) z_LL M) :
    wp xs (d + 1) mX10_couldBe 0 [(2, 321), (0, a1), (0, a2)] [] z_LL M P := by
  refine wp_run 3 (pc' := 3) (ls' := [(2, 321), (0, a1), (0, a2)]) (st' := [(0, a2), (0, a1), (2, 321)]) rfl ?_
  refine wp_callv (pc' := 6) (as := [(2, 321), (0, a1), (0, a2)]) (rest := []) (ls1 := [(2, 321), (0, a1), (0, a2)]) rfl rfl rfl rfl rfl rfl ?_
  refine s_X10_canMix hF (b1) ?_
  show wp xs _ mX10_couldBe 6 [(2, 321), (0, a1), (0, a2)] [(0, (z_b (z_cm M a1 a2)))] z_LL M _
  refine wp_be rfl rfl rfl (fun (c1 : ¬ (z_cm M a1 a2)) => ?_) (fun (c1 : (z_cm M a1 a2)) => ?_)
  · refine wp_run 1 (pc' := 42) (ls' := [(2, 321), (0, a1), (0, a2)]) (st' := [(0, 0)]) rfl ?_
    exact wp_ret rfl rfl (l1 c1)
  · refine wp_run 1 (pc' := 10) (ls' := [(2, 321), (0, a1), (0, a2)]) (st' := [(2, 321)]) rfl ?_
    refine wp_gf (pc' := 13) (t := 2) (v := 340) rfl rfl (by decide) rfl rfl (fx_321_34 hF) ?_
    refine wp_run 5 (pc' := 19) (ls' := [(2, 321), (0, a1), (0, a2)]) (st' := [(0, (z_w ((z_w (6 * a1)) + a2))), (2, 340)]) rfl ?_
    refine wp_iald (pc' := 20) (v := (M 340 (z_w ((z_w (6 * a1)) + a2)))) rfl rfl rfl (b2 c1) rfl ?_
    refine wp_if1 rfl rfl rfl (fun (c2 : (M 340 (z_w ((z_w (6 * a1)) + a2))) < 0) => ?_) (fun (c2 : ¬ ((M 340 (z_w ((z_w (6 * a1)) + a2))) < 0)) => ?_)
    · refine wp_run 1 (pc' := 42) (ls' := [(2, 321), (0, a1), (0, a2)]) (st' := [(0, 0)]) rfl ?_
      exact wp_ret rfl rfl (l2 c1 c2)
    · refine wp_run 1 (pc' := 24) (ls' := [(2, 321), (0, a1), (0, a2)]) (st' := [(2, 321)]) rfl ?_
      refine wp_gf (pc' := 27) (t := 2) (v := 340) rfl rfl (by decide) rfl rfl (fx_321_34 hF) ?_
      refine wp_run 5 (pc' := 33) (ls' := [(2, 321), (0, a1), (0, a2)]) (st' := [(0, (z_w ((z_w (6 * a2)) + a1))), (2, 340)]) rfl ?_
      refine wp_iald (pc' := 34) (v := (M 340 (z_w ((z_w (6 * a2)) + a1)))) rfl rfl rfl (b3 c1 c2) rfl ?_
      refine wp_if1 rfl rfl rfl (fun (c3 : (M 340 (z_w ((z_w (6 * a2)) + a1))) < 0) => ?_) (fun (c3 : ¬ ((M 340 (z_w ((z_w (6 * a2)) + a1))) < 0)) => ?_)
      · refine wp_run 1 (pc' := 42) (ls' := [(2, 321), (0, a1), (0, a2)]) (st' := [(0, 0)]) rfl ?_
        exact wp_ret rfl rfl (l3 c1 c2 c3)
      · refine wp_run 2 (pc' := 42) (ls' := [(2, 321), (0, a1), (0, a2)]) (st' := [(0, 1)]) rfl ?_
        exact wp_ret rfl rfl (l4 c1 c2 c3)
theorem s_X10_areMixing {xs : List Int} {d : Nat} {M : z_M} {P : Option z_V → z_L → z_M → Prop} {a b : Int} (hF : z_fix M) (hC : z_mc M) (k : P (some (0, z_b ((0 ≤ a ∧ a < M 321 48) ∧ (0 ≤ b ∧ b < M 321 48) ∧ z_cm M a b))) z_LL M) : wp xs (d + 2) mX10_areMixing 0 [(2, 321), (0, a), (0, b)] [] z_LL M P := by
  have := hC.2.2.1
  refine gX10_areMixing_0 hF hC (fun c => ?_) (fun c c2 => ?_) (fun c c2 => by omega) (fun c c2 c3 => ?_) (fun c c2 c3 => ?_)
  · rwa [z_b_f (fun q => c q.1)] at k
  · rwa [z_b_f (fun q => c2 q.2.1)] at k
  · rwa [z_b_f (fun q => c3 q.2.2)] at k
  · rwa [z_b_t ⟨c, c2, c3⟩] at k
theorem s_X10_isFree {xs : List Int} {d : Nat} {M : z_M} {P : Option z_V → z_L → z_M → Prop} {a : Int} (hF : z_fix M) (h : 0 ≤ a ∧ a < 25) (k : P (some (0, z_b (M 342 (79 + a) = 0))) z_LL M) : wp xs d mX10_isFree 0 [(2, 321), (0, a)] [] z_LL M P := by
  have e := z_wid (x := 79 + a) (by omega)
  refine gX10_isFree_0 hF (by omega) (fun c => ?_) (fun c => ?_)
  · rw [e] at c
    rwa [z_b_f c] at k
  · rw [e] at c
    rwa [z_b_t (Classical.byContradiction c)] at k
theorem s_X10_couldBe {xs : List Int} {d : Nat} {M : z_M} {P : Option z_V → z_L → z_M → Prop} {a b : Int} (hF : z_fix M) (h : 0 ≤ a ∧ a < 6 ∧ 0 ≤ b ∧ b < 6) (k : P (some (0, z_b (z_cm M a b ∧ 0 ≤ M 340 (6 * a + b) ∧ 0 ≤ M 340 (6 * b + a)))) z_LL M) : wp xs (d + 1) mX10_couldBe 0 [(2, 321), (0, a), (0, b)] [] z_LL M P := by
  have e1 : z_w (z_w (6 * a) + b) = 6 * a + b := by rw [z_wid (x := 6 * a) (by omega), z_wid (by omega)]
  have e2 : z_w (z_w (6 * b) + a) = 6 * b + a := by rw [z_wid (x := 6 * b) (by omega), z_wid (by omega)]
  refine gX10_couldBe_0 hF (by omega) (fun c => ?_) (fun c => by omega) (fun c c2 => ?_) (fun c c2 => by omega) (fun c c2 c3 => ?_) (fun c c2 c3 => ?_)
  · rwa [z_b_f (fun q => c q.1)] at k
  · rw [e1] at c2
    rwa [z_b_f (by omega)] at k
  · rw [e2] at c3
    rwa [z_b_f (by omega)] at k
  · rw [e1] at c2
    rw [e2] at c3
    rwa [z_b_t ⟨c, by omega, by omega⟩] at k
