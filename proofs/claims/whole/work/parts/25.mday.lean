/-! the model's day -/
/-- how many of the first k numbers are so -/
noncomputable def z_cnt (p : Int → Prop) : Nat → Int
  | 0 => 0
  | k + 1 => z_cnt p k + z_b (p k)
theorem z_b_r {p : Prop} : 0 ≤ z_b p ∧ z_b p ≤ 1 := by
  rcases @z_b_01 p with h | h <;> rw [h] <;> omega
theorem z_cnt_b (p : Int → Prop) : ∀ k : Nat, 0 ≤ z_cnt p k ∧ z_cnt p k ≤ k
  | 0 => by unfold z_cnt; omega
  | k + 1 => by
    have := z_cnt_b p k
    have := @z_b_r (p k)
    unfold z_cnt
    omega
theorem z_cnt_0 {p : Int → Prop} {k : Nat} (h : ¬ p k) : z_cnt p (k + 1) = z_cnt p k := by
  show z_cnt p k + z_b (p k) = _
  rw [z_b_f h]
  omega
theorem z_cnt_1 {p : Int → Prop} {k : Nat} (h : p k) : z_cnt p (k + 1) = z_cnt p k + 1 := by
  show z_cnt p k + z_b (p k) = _
  rw [z_b_t h]
theorem z_down {W : Nat → Prop} (n : Nat) (hn : W n) (hs : ∀ i, i < n → W (i + 1) → W i) : ∀ i, i ≤ n → W i := by
  intro i hi
  obtain ⟨j, rfl⟩ : ∃ j, n = i + j := ⟨n - i, by omega⟩
  clear hi
  induction j generalizing i with
  | zero => exact hn
  | succ j ih => exact hs i (by omega) (ih (i + 1) (by rw [show i + 1 + j = i + (j + 1) by omega]; exact hn) (fun a ha => hs a (by omega)))
set_option maxRecDepth 20000 in
theorem gX10_othersIn_0 {xs : List Int} {d : Nat} {M : z_M} {P : Option z_V → z_L → z_M → Prop} {a1 : Int} {a2 : Int} 
    (l1 : wp xs d mX10_othersIn 5 [(2, 321), (0, a1), (0, a2), (0, 0), (0, 0)] [] z_LL M P) :
    wp xs d mX10_othersIn 0 [(2, 321), (0, a1), (0, a2), (3, 0), (3, 0)] [] z_LL M P := by
  refine wp_run 4 (pc' := 5) (ls' := [(2, 321), (0, a1), (0, a2), (0, 0), (0, 0)]) (st' := []) rfl ?_
  exact l1
set_option maxRecDepth 20000 in
theorem gX10_othersIn_5 {xs : List Int} {d : Nat} {M : z_M} {P : Option z_V → z_L → z_M → Prop} {x1 : Int} {x2 : Int} {x3 : Int} {x4 : Int} (hF : z_fix M) 
    (l1 : ((M 321 48) ≤ x4) → P (some (0, x3)) z_LL M)
    (l2 : (¬ ((M 321 48) ≤ x4)) → (x4 = x1) → wp xs (d + 1) mX10_othersIn 5 [(2, 321), (0, x1), (0, x2), (0, (z_w (x3 + 0))), (0, (z_w (x4 + 1)))] [] z_LL M P)
    (b1 : (¬ ((M 321 48) ≤ x4)) → (¬ (x4 = x1)) → 0 ≤ x4 ∧ x4 < 106)
    (l3 : (¬ ((M 321 48) ≤ x4)) → (¬ (x4 = x1)) → ((M 343 x4) ≠ x2) → wp xs (d + 1) mX10_othersIn 5 [(2, 321), (0, x1), (0, x2), (0, (z_w (x3 + 0))), (0, (z_w (x4 + 1)))] [] z_LL M P)
    (l4 : (¬ ((M 321 48) ≤ x4)) → (¬ (x4 = x1)) → (¬ ((M 343 x4) ≠ x2)) → wp xs (d + 1) mX10_othersIn 5 [(2, 321), (0, x1), (0, x2), (0, (z_w (x3 + 1))), (0, (z_w (x4 + 1)))] [] z_LL M P) :
    wp xs (d + 1) mX10_othersIn 5 [(2, 321), (0, x1), (0, x2), (0, x3), (0, x4)] [] z_LL M P := by
  refine wp_run 2 (pc' := 8) (ls' := [(2, 321), (0, x1), (0, x2), (0, x3), (0, x4)]) (st' := [(2, 321), (0, x4)]) rfl ?_
  refine wp_gf (pc' := 11) (t := 0) (v := (M 321 48)) rfl rfl (by decide) rfl rfl rfl ?_
  refine wp_if2 rfl rfl rfl (fun (c1 : (M 321 48) ≤ x4) => ?_) (fun (c1 : ¬ ((M 321 48) ≤ x4)) => ?_)
  · refine wp_run 1 (pc' := 49) (ls' := [(2, 321), (0, x1), (0, x2), (0, x3), (0, x4)]) (st' := [(0, x3)]) rfl ?_
    exact wp_ret rfl rfl (l1 c1)
  · refine wp_run 3 (pc' := 18) (ls' := [(2, 321), (0, x1), (0, x2), (0, x3), (0, x4)]) (st' := [(0, x1), (0, x4), (0, x3)]) rfl ?_
    refine wp_if2 rfl rfl rfl (fun (c2 : x4 = x1) => ?_) (fun (c2 : ¬ (x4 = x1)) => ?_)
    · refine wp_run 1 (pc' := 37) (ls' := [(2, 321), (0, x1), (0, x2), (0, x3), (0, x4)]) (st' := [(0, 0), (0, x3)]) rfl ?_
      refine wp_callv (pc' := 40) (as := [(0, 0)]) (rest := [(0, x3)]) (ls1 := [(0, 0)]) rfl rfl rfl rfl rfl rfl ?_
      refine s_X10_truth (by decide) ?_
      show wp xs _ mX10_othersIn 40 [(2, 321), (0, x1), (0, x2), (0, x3), (0, x4)] [(0, 0), (0, x3)] z_LL M _
      refine wp_run 4 (pc' := 5) (ls' := [(2, 321), (0, x1), (0, x2), (0, (z_w (x3 + 0))), (0, (z_w (x4 + 1)))]) (st' := []) rfl ?_
      exact l2 c1 c2
    · refine wp_run 1 (pc' := 22) (ls' := [(2, 321), (0, x1), (0, x2), (0, x3), (0, x4)]) (st' := [(2, 321), (0, x3)]) rfl ?_
      refine wp_gf (pc' := 25) (t := 2) (v := 343) rfl rfl (by decide) rfl rfl (fx_321_61 hF) ?_
      refine wp_run 1 (pc' := 27) (ls' := [(2, 321), (0, x1), (0, x2), (0, x3), (0, x4)]) (st' := [(0, x4), (2, 343), (0, x3)]) rfl ?_
      refine wp_iald (pc' := 28) (v := (M 343 x4)) rfl rfl rfl (b1 c1 c2) rfl ?_
      refine wp_run 1 (pc' := 29) (ls' := [(2, 321), (0, x1), (0, x2), (0, x3), (0, x4)]) (st' := [(0, x2), (0, (M 343 x4)), (0, x3)]) rfl ?_
      refine wp_if2 rfl rfl rfl (fun (c3 : (M 343 x4) ≠ x2) => ?_) (fun (c3 : ¬ ((M 343 x4) ≠ x2)) => ?_)
      · refine wp_run 1 (pc' := 37) (ls' := [(2, 321), (0, x1), (0, x2), (0, x3), (0, x4)]) (st' := [(0, 0), (0, x3)]) rfl ?_
        refine wp_callv (pc' := 40) (as := [(0, 0)]) (rest := [(0, x3)]) (ls1 := [(0, 0)]) rfl rfl rfl rfl rfl rfl ?_
        refine s_X10_truth (by decide) ?_
        show wp xs _ mX10_othersIn 40 [(2, 321), (0, x1), (0, x2), (0, x3), (0, x4)] [(0, 0), (0, x3)] z_LL M _
        refine wp_run 4 (pc' := 5) (ls' := [(2, 321), (0, x1), (0, x2), (0, (z_w (x3 + 0))), (0, (z_w (x4 + 1)))]) (st' := []) rfl ?_
        exact l3 c1 c2 c3
      · refine wp_run 2 (pc' := 37) (ls' := [(2, 321), (0, x1), (0, x2), (0, x3), (0, x4)]) (st' := [(0, 1), (0, x3)]) rfl ?_
        refine wp_callv (pc' := 40) (as := [(0, 1)]) (rest := [(0, x3)]) (ls1 := [(0, 1)]) rfl rfl rfl rfl rfl rfl ?_
        refine s_X10_truth (by decide) ?_
        show wp xs _ mX10_othersIn 40 [(2, 321), (0, x1), (0, x2), (0, x3), (0, x4)] [(0, 1), (0, x3)] z_LL M _
        refine wp_run 4 (pc' := 5) (ls' := [(2, 321), (0, x1), (0, x2), (0, (z_w (x3 + 1))), (0, (z_w (x4 + 1)))]) (st' := []) rfl ?_
        exact l4 c1 c2 c3
noncomputable def z_oth (M : z_M) (f c : Int) : Int := z_cnt (fun g => g ≠ f ∧ M 343 g = c) (M 321 48).toNat
theorem s_X10_othersIn {xs : List Int} {d : Nat} {M : z_M} {P : Option z_V → z_L → z_M → Prop} {f c : Int} (hF : z_fix M) (hC : z_mc M) (k : P (some (0, z_oth M f c)) z_LL M) : wp xs (d + 1) mX10_othersIn 0 [(2, 321), (0, f), (0, c), (3, 0), (3, 0)] [] z_LL M P := by
  have hn := hC.2.2.1
  refine gX10_othersIn_0 ?_
  obtain ⟨n, hne⟩ : ∃ n : Nat, M 321 48 = (n : Int) := ⟨(M 321 48).toNat, by omega⟩
  have key := z_down (W := fun i => ∀ x3 : Int, x3 = z_cnt (fun g => g ≠ f ∧ M 343 g = c) i → wp xs (d + 1) mX10_othersIn 5 [(2, 321), (0, f), (0, c), (0, x3), (0, (i : Int))] [] z_LL M P) n ?_ ?_ 0 (Nat.zero_le _)
  · exact key 0 rfl
  · intro x3 h3
    refine gX10_othersIn_5 (x1 := f) (x2 := c) (x3 := x3) (x4 := (n : Int)) hF (fun _ => ?_) (fun h => by omega) (fun h => by omega) (fun h => by omega) (fun h => by omega)
    rw [h3]
    unfold z_oth at k
    rw [hne] at k
    exact k
  · intro i hi ih x3 h3
    have hb := z_cnt_b (fun g => g ≠ f ∧ M 343 g = c) i
    have e1 : z_w ((i : Int) + 1) = ((i + 1 : Nat) : Int) := by rw [z_wid (by omega)]; omega
    refine gX10_othersIn_5 (x1 := f) (x2 := c) (x3 := x3) (x4 := (i : Int)) hF (fun h => by omega) (fun _ h => ?_) (fun _ _ => by omega) (fun _ h2 h => ?_) (fun _ h2 h => ?_)
    · rw [e1, z_wid (x := x3 + 0) (by omega)]
      refine ih _ ?_
      rw [h3, z_cnt_0 (fun q => q.1 h)]
      omega
    · rw [e1, z_wid (x := x3 + 0) (by omega)]
      refine ih _ ?_
      rw [h3, z_cnt_0 (fun q => h q.2)]
      omega
    · rw [e1, z_wid (x := x3 + 1) (by omega)]
      refine ih _ ?_
      rw [h3, z_cnt_1 ⟨h2, Classical.byContradiction h⟩]
/-! the formula's signs -/
theorem z_b_true : z_b True = 1 := z_b_t trivial
theorem z_b_false : z_b False = 0 := z_b_f not_false
/-- what a sign makes out of two numbers -/
noncomputable def z_op (s x y : Int) : Int :=
  if s = 43 then z_w (x + y) else if s = 45 then z_w (x - y) else if s = 42 then z_w (x * y)
  else if s = 47 then (if y = 0 then 0 else z_div x y) else if s = 37 then (if y = 0 then 0 else z_rem x y)
  else if s = 60 then z_b (x < y) else if s = 62 then z_b (x > y) else if s = 61 then z_b (x = y)
  else if s = 38 then z_b (x ≠ 0 ∧ y ≠ 0) else z_b (x ≠ 0 ∨ y ≠ 0)
set_option maxRecDepth 20000 in
theorem gX10_done_0 {xs : List Int} {d : Nat} {M : z_M} {P : Option z_V → z_L → z_M → Prop} {a1 : Int} {a2 : Int} {a3 : Int} 
    (b1 : (a1 = 37) → (a3 ≠ 0) → ¬ a3 = 0)
    (l1 : (a1 = 37) → (a3 ≠ 0) → P (some (0, (z_rem a2 a3))) z_LL M)
    (l2 : (a1 = 37) → (¬ (a3 ≠ 0)) → P (some (0, 0)) z_LL M)
    (l3 : (¬ a1 = 37) → (a1 = 38) → (a2 = 0) → P (some (0, 0)) z_LL M)
    (l4 : (¬ a1 = 37) → (a1 = 38) → (¬ (a2 = 0)) → (a3 = 0) → P (some (0, 0)) z_LL M)
    (l5 : (¬ a1 = 37) → (a1 = 38) → (¬ (a2 = 0)) → (¬ (a3 = 0)) → P (some (0, 1)) z_LL M)
    (l6 : (¬ a1 = 37) → (¬ a1 = 38) → (a1 = 39) → (a2 ≠ 0) → P (some (0, 1)) z_LL M)
    (l7 : (¬ a1 = 37) → (¬ a1 = 38) → (a1 = 39) → (¬ (a2 ≠ 0)) → (a3 = 0) → P (some (0, 0)) z_LL M)
    (l8 : (¬ a1 = 37) → (¬ a1 = 38) → (a1 = 39) → (¬ (a2 ≠ 0)) → (¬ (a3 = 0)) → P (some (0, 1)) z_LL M)
    (l9 : (¬ a1 = 37) → (¬ a1 = 38) → (¬ a1 = 39) → (a1 = 40) → (a2 ≠ 0) → P (some (0, 1)) z_LL M)
    (l10 : (¬ a1 = 37) → (¬ a1 = 38) → (¬ a1 = 39) → (a1 = 40) → (¬ (a2 ≠ 0)) → (a3 = 0) → P (some (0, 0)) z_LL M)
    (l11 : (¬ a1 = 37) → (¬ a1 = 38) → (¬ a1 = 39) → (a1 = 40) → (¬ (a2 ≠ 0)) → (¬ (a3 = 0)) → P (some (0, 1)) z_LL M)
    (l12 : (¬ a1 = 37) → (¬ a1 = 38) → (¬ a1 = 39) → (¬ a1 = 40) → (a1 = 41) → (a2 ≠ 0) → P (some (0, 1)) z_LL M)
    (l13 : (¬ a1 = 37) → (¬ a1 = 38) → (¬ a1 = 39) → (¬ a1 = 40) → (a1 = 41) → (¬ (a2 ≠ 0)) → (a3 = 0) → P (some (0, 0)) z_LL M)
    (l14 : (¬ a1 = 37) → (¬ a1 = 38) → (¬ a1 = 39) → (¬ a1 = 40) → (a1 = 41) → (¬ (a2 ≠ 0)) → (¬ (a3 = 0)) → P (some (0, 1)) z_LL M)
    (l15 : (¬ a1 = 37) → (¬ a1 = 38) → (¬ a1 = 39) → (¬ a1 = 40) → (¬ a1 = 41) → (a1 = 42) → P (some (0, (z_w (a2 * a3)))) z_LL M)
    (l16 : (¬ a1 = 37) → (¬ a1 = 38) → (¬ a1 = 39) → (¬ a1 = 40) → (¬ a1 = 41) → (¬ a1 = 42) → (a1 = 43) → P (some (0, (z_w (a2 + a3)))) z_LL M)
    (l17 : (¬ a1 = 37) → (¬ a1 = 38) → (¬ a1 = 39) → (¬ a1 = 40) → (¬ a1 = 41) → (¬ a1 = 42) → (¬ a1 = 43) → (a1 = 44) → (a2 ≠ 0) → P (some (0, 1)) z_LL M)
    (l18 : (¬ a1 = 37) → (¬ a1 = 38) → (¬ a1 = 39) → (¬ a1 = 40) → (¬ a1 = 41) → (¬ a1 = 42) → (¬ a1 = 43) → (a1 = 44) → (¬ (a2 ≠ 0)) → (a3 = 0) → P (some (0, 0)) z_LL M)
    (l19 : (¬ a1 = 37) → (¬ a1 = 38) → (¬ a1 = 39) → (¬ a1 = 40) → (¬ a1 = 41) → (¬ a1 = 42) → (¬ a1 = 43) → (a1 = 44) → (¬ (a2 ≠ 0)) → (¬ (a3 = 0)) → P (some (0, 1)) z_LL M)
    (l20 : (¬ a1 = 37) → (¬ a1 = 38) → (¬ a1 = 39) → (¬ a1 = 40) → (¬ a1 = 41) → (¬ a1 = 42) → (¬ a1 = 43) → (¬ a1 = 44) → (a1 = 45) → P (some (0, (z_w (a2 - a3)))) z_LL M)
    (l21 : (¬ a1 = 37) → (¬ a1 = 38) → (¬ a1 = 39) → (¬ a1 = 40) → (¬ a1 = 41) → (¬ a1 = 42) → (¬ a1 = 43) → (¬ a1 = 44) → (¬ a1 = 45) → (a1 = 46) → (a2 ≠ 0) → P (some (0, 1)) z_LL M)
    (l22 : (¬ a1 = 37) → (¬ a1 = 38) → (¬ a1 = 39) → (¬ a1 = 40) → (¬ a1 = 41) → (¬ a1 = 42) → (¬ a1 = 43) → (¬ a1 = 44) → (¬ a1 = 45) → (a1 = 46) → (¬ (a2 ≠ 0)) → (a3 = 0) → P (some (0, 0)) z_LL M)
    (l23 : (¬ a1 = 37) → (¬ a1 = 38) → (¬ a1 = 39) → (¬ a1 = 40) → (¬ a1 = 41) → (¬ a1 = 42) → (¬ a1 = 43) → (¬ a1 = 44) → (¬ a1 = 45) → (a1 = 46) → (¬ (a2 ≠ 0)) → (¬ (a3 = 0)) → P (some (0, 1)) z_LL M)
    (b2 : (¬ a1 = 37) → (¬ a1 = 38) → (¬ a1 = 39) → (¬ a1 = 40) → (¬ a1 = 41) → (¬ a1 = 42) → (¬ a1 = 43) → (¬ a1 = 44) → (¬ a1 = 45) → (¬ a1 = 46) → (a1 = 47) → (a3 ≠ 0) → ¬ a3 = 0)
    (l24 : (¬ a1 = 37) → (¬ a1 = 38) → (¬ a1 = 39) → (¬ a1 = 40) → (¬ a1 = 41) → (¬ a1 = 42) → (¬ a1 = 43) → (¬ a1 = 44) → (¬ a1 = 45) → (¬ a1 = 46) → (a1 = 47) → (a3 ≠ 0) → P (some (0, (z_div a2 a3))) z_LL M)
    (l25 : (¬ a1 = 37) → (¬ a1 = 38) → (¬ a1 = 39) → (¬ a1 = 40) → (¬ a1 = 41) → (¬ a1 = 42) → (¬ a1 = 43) → (¬ a1 = 44) → (¬ a1 = 45) → (¬ a1 = 46) → (a1 = 47) → (¬ (a3 ≠ 0)) → P (some (0, 0)) z_LL M)
    (l26 : (¬ a1 = 37) → (¬ a1 = 38) → (¬ a1 = 39) → (¬ a1 = 40) → (¬ a1 = 41) → (¬ a1 = 42) → (¬ a1 = 43) → (¬ a1 = 44) → (¬ a1 = 45) → (¬ a1 = 46) → (¬ a1 = 47) → (a1 = 48) → (a2 ≠ 0) → P (some (0, 1)) z_LL M)
    (l27 : (¬ a1 = 37) → (¬ a1 = 38) → (¬ a1 = 39) → (¬ a1 = 40) → (¬ a1 = 41) → (¬ a1 = 42) → (¬ a1 = 43) → (¬ a1 = 44) → (¬ a1 = 45) → (¬ a1 = 46) → (¬ a1 = 47) → (a1 = 48) → (¬ (a2 ≠ 0)) → (a3 = 0) → P (some (0, 0)) z_LL M)
    (l28 : (¬ a1 = 37) → (¬ a1 = 38) → (¬ a1 = 39) → (¬ a1 = 40) → (¬ a1 = 41) → (¬ a1 = 42) → (¬ a1 = 43) → (¬ a1 = 44) → (¬ a1 = 45) → (¬ a1 = 46) → (¬ a1 = 47) → (a1 = 48) → (¬ (a2 ≠ 0)) → (¬ (a3 = 0)) → P (some (0, 1)) z_LL M)
    (l29 : (¬ a1 = 37) → (¬ a1 = 38) → (¬ a1 = 39) → (¬ a1 = 40) → (¬ a1 = 41) → (¬ a1 = 42) → (¬ a1 = 43) → (¬ a1 = 44) → (¬ a1 = 45) → (¬ a1 = 46) → (¬ a1 = 47) → (¬ a1 = 48) → (a1 = 49) → (a2 ≠ 0) → P (some (0, 1)) z_LL M)
    (l30 : (¬ a1 = 37) → (¬ a1 = 38) → (¬ a1 = 39) → (¬ a1 = 40) → (¬ a1 = 41) → (¬ a1 = 42) → (¬ a1 = 43) → (¬ a1 = 44) → (¬ a1 = 45) → (¬ a1 = 46) → (¬ a1 = 47) → (¬ a1 = 48) → (a1 = 49) → (¬ (a2 ≠ 0)) → (a3 = 0) → P (some (0, 0)) z_LL M)
    (l31 : (¬ a1 = 37) → (¬ a1 = 38) → (¬ a1 = 39) → (¬ a1 = 40) → (¬ a1 = 41) → (¬ a1 = 42) → (¬ a1 = 43) → (¬ a1 = 44) → (¬ a1 = 45) → (¬ a1 = 46) → (¬ a1 = 47) → (¬ a1 = 48) → (a1 = 49) → (¬ (a2 ≠ 0)) → (¬ (a3 = 0)) → P (some (0, 1)) z_LL M)
    (l32 : (¬ a1 = 37) → (¬ a1 = 38) → (¬ a1 = 39) → (¬ a1 = 40) → (¬ a1 = 41) → (¬ a1 = 42) → (¬ a1 = 43) → (¬ a1 = 44) → (¬ a1 = 45) → (¬ a1 = 46) → (¬ a1 = 47) → (¬ a1 = 48) → (¬ a1 = 49) → (a1 = 50) → (a2 ≠ 0) → P (some (0, 1)) z_LL M)
    (l33 : (¬ a1 = 37) → (¬ a1 = 38) → (¬ a1 = 39) → (¬ a1 = 40) → (¬ a1 = 41) → (¬ a1 = 42) → (¬ a1 = 43) → (¬ a1 = 44) → (¬ a1 = 45) → (¬ a1 = 46) → (¬ a1 = 47) → (¬ a1 = 48) → (¬ a1 = 49) → (a1 = 50) → (¬ (a2 ≠ 0)) → (a3 = 0) → P (some (0, 0)) z_LL M)
    (l34 : (¬ a1 = 37) → (¬ a1 = 38) → (¬ a1 = 39) → (¬ a1 = 40) → (¬ a1 = 41) → (¬ a1 = 42) → (¬ a1 = 43) → (¬ a1 = 44) → (¬ a1 = 45) → (¬ a1 = 46) → (¬ a1 = 47) → (¬ a1 = 48) → (¬ a1 = 49) → (a1 = 50) → (¬ (a2 ≠ 0)) → (¬ (a3 = 0)) → P (some (0, 1)) z_LL M)
    (l35 : (¬ a1 = 37) → (¬ a1 = 38) → (¬ a1 = 39) → (¬ a1 = 40) → (¬ a1 = 41) → (¬ a1 = 42) → (¬ a1 = 43) → (¬ a1 = 44) → (¬ a1 = 45) → (¬ a1 = 46) → (¬ a1 = 47) → (¬ a1 = 48) → (¬ a1 = 49) → (¬ a1 = 50) → (a1 = 51) → (a2 ≠ 0) → P (some (0, 1)) z_LL M)
    (l36 : (¬ a1 = 37) → (¬ a1 = 38) → (¬ a1 = 39) → (¬ a1 = 40) → (¬ a1 = 41) → (¬ a1 = 42) → (¬ a1 = 43) → (¬ a1 = 44) → (¬ a1 = 45) → (¬ a1 = 46) → (¬ a1 = 47) → (¬ a1 = 48) → (¬ a1 = 49) → (¬ a1 = 50) → (a1 = 51) → (¬ (a2 ≠ 0)) → (a3 = 0) → P (some (0, 0)) z_LL M)
    (l37 : (¬ a1 = 37) → (¬ a1 = 38) → (¬ a1 = 39) → (¬ a1 = 40) → (¬ a1 = 41) → (¬ a1 = 42) → (¬ a1 = 43) → (¬ a1 = 44) → (¬ a1 = 45) → (¬ a1 = 46) → (¬ a1 = 47) → (¬ a1 = 48) → (¬ a1 = 49) → (¬ a1 = 50) → (a1 = 51) → (¬ (a2 ≠ 0)) → (¬ (a3 = 0)) → P (some (0, 1)) z_LL M)
    (l38 : (¬ a1 = 37) → (¬ a1 = 38) → (¬ a1 = 39) → (¬ a1 = 40) → (¬ a1 = 41) → (¬ a1 = 42) → (¬ a1 = 43) → (¬ a1 = 44) → (¬ a1 = 45) → (¬ a1 = 46) → (¬ a1 = 47) → (¬ a1 = 48) → (¬ a1 = 49) → (¬ a1 = 50) → (¬ a1 = 51) → (a1 = 52) → (a2 ≠ 0) → P (some (0, 1)) z_LL M)
    (l39 : (¬ a1 = 37) → (¬ a1 = 38) → (¬ a1 = 39) → (¬ a1 = 40) → (¬ a1 = 41) → (¬ a1 = 42) → (¬ a1 = 43) → (¬ a1 = 44) → (¬ a1 = 45) → (¬ a1 = 46) → (¬ a1 = 47) → (¬ a1 = 48) → (¬ a1 = 49) → (¬ a1 = 50) → (¬ a1 = 51) → (a1 = 52) → (¬ (a2 ≠ 0)) → (a3 = 0) → P (some (0, 0)) z_LL M)
    (l40 : (¬ a1 = 37) → (¬ a1 = 38) → (¬ a1 = 39) → (¬ a1 = 40) → (¬ a1 = 41) → (¬ a1 = 42) → (¬ a1 = 43) → (¬ a1 = 44) → (¬ a1 = 45) → (¬ a1 = 46) → (¬ a1 = 47) → (¬ a1 = 48) → (¬ a1 = 49) → (¬ a1 = 50) → (¬ a1 = 51) → (a1 = 52) → (¬ (a2 ≠ 0)) → (¬ (a3 = 0)) → P (some (0, 1)) z_LL M)
    (l41 : (¬ a1 = 37) → (¬ a1 = 38) → (¬ a1 = 39) → (¬ a1 = 40) → (¬ a1 = 41) → (¬ a1 = 42) → (¬ a1 = 43) → (¬ a1 = 44) → (¬ a1 = 45) → (¬ a1 = 46) → (¬ a1 = 47) → (¬ a1 = 48) → (¬ a1 = 49) → (¬ a1 = 50) → (¬ a1 = 51) → (¬ a1 = 52) → (a1 = 53) → (a2 ≠ 0) → P (some (0, 1)) z_LL M)
    (l42 : (¬ a1 = 37) → (¬ a1 = 38) → (¬ a1 = 39) → (¬ a1 = 40) → (¬ a1 = 41) → (¬ a1 = 42) → (¬ a1 = 43) → (¬ a1 = 44) → (¬ a1 = 45) → (¬ a1 = 46) → (¬ a1 = 47) → (¬ a1 = 48) → (¬ a1 = 49) → (¬ a1 = 50) → (¬ a1 = 51) → (¬ a1 = 52) → (a1 = 53) → (¬ (a2 ≠ 0)) → (a3 = 0) → P (some (0, 0)) z_LL M)
    (l43 : (¬ a1 = 37) → (¬ a1 = 38) → (¬ a1 = 39) → (¬ a1 = 40) → (¬ a1 = 41) → (¬ a1 = 42) → (¬ a1 = 43) → (¬ a1 = 44) → (¬ a1 = 45) → (¬ a1 = 46) → (¬ a1 = 47) → (¬ a1 = 48) → (¬ a1 = 49) → (¬ a1 = 50) → (¬ a1 = 51) → (¬ a1 = 52) → (a1 = 53) → (¬ (a2 ≠ 0)) → (¬ (a3 = 0)) → P (some (0, 1)) z_LL M)
    (l44 : (¬ a1 = 37) → (¬ a1 = 38) → (¬ a1 = 39) → (¬ a1 = 40) → (¬ a1 = 41) → (¬ a1 = 42) → (¬ a1 = 43) → (¬ a1 = 44) → (¬ a1 = 45) → (¬ a1 = 46) → (¬ a1 = 47) → (¬ a1 = 48) → (¬ a1 = 49) → (¬ a1 = 50) → (¬ a1 = 51) → (¬ a1 = 52) → (¬ a1 = 53) → (a1 = 54) → (a2 ≠ 0) → P (some (0, 1)) z_LL M)
    (l45 : (¬ a1 = 37) → (¬ a1 = 38) → (¬ a1 = 39) → (¬ a1 = 40) → (¬ a1 = 41) → (¬ a1 = 42) → (¬ a1 = 43) → (¬ a1 = 44) → (¬ a1 = 45) → (¬ a1 = 46) → (¬ a1 = 47) → (¬ a1 = 48) → (¬ a1 = 49) → (¬ a1 = 50) → (¬ a1 = 51) → (¬ a1 = 52) → (¬ a1 = 53) → (a1 = 54) → (¬ (a2 ≠ 0)) → (a3 = 0) → P (some (0, 0)) z_LL M)
    (l46 : (¬ a1 = 37) → (¬ a1 = 38) → (¬ a1 = 39) → (¬ a1 = 40) → (¬ a1 = 41) → (¬ a1 = 42) → (¬ a1 = 43) → (¬ a1 = 44) → (¬ a1 = 45) → (¬ a1 = 46) → (¬ a1 = 47) → (¬ a1 = 48) → (¬ a1 = 49) → (¬ a1 = 50) → (¬ a1 = 51) → (¬ a1 = 52) → (¬ a1 = 53) → (a1 = 54) → (¬ (a2 ≠ 0)) → (¬ (a3 = 0)) → P (some (0, 1)) z_LL M)
    (l47 : (¬ a1 = 37) → (¬ a1 = 38) → (¬ a1 = 39) → (¬ a1 = 40) → (¬ a1 = 41) → (¬ a1 = 42) → (¬ a1 = 43) → (¬ a1 = 44) → (¬ a1 = 45) → (¬ a1 = 46) → (¬ a1 = 47) → (¬ a1 = 48) → (¬ a1 = 49) → (¬ a1 = 50) → (¬ a1 = 51) → (¬ a1 = 52) → (¬ a1 = 53) → (¬ a1 = 54) → (a1 = 55) → (a2 ≠ 0) → P (some (0, 1)) z_LL M)
    (l48 : (¬ a1 = 37) → (¬ a1 = 38) → (¬ a1 = 39) → (¬ a1 = 40) → (¬ a1 = 41) → (¬ a1 = 42) → (¬ a1 = 43) → (¬ a1 = 44) → (¬ a1 = 45) → (¬ a1 = 46) → (¬ a1 = 47) → (¬ a1 = 48) → (¬ a1 = 49) → (¬ a1 = 50) → (¬ a1 = 51) → (¬ a1 = 52) → (¬ a1 = 53) → (¬ a1 = 54) → (a1 = 55) → (¬ (a2 ≠ 0)) → (a3 = 0) → P (some (0, 0)) z_LL M)
    (l49 : (¬ a1 = 37) → (¬ a1 = 38) → (¬ a1 = 39) → (¬ a1 = 40) → (¬ a1 = 41) → (¬ a1 = 42) → (¬ a1 = 43) → (¬ a1 = 44) → (¬ a1 = 45) → (¬ a1 = 46) → (¬ a1 = 47) → (¬ a1 = 48) → (¬ a1 = 49) → (¬ a1 = 50) → (¬ a1 = 51) → (¬ a1 = 52) → (¬ a1 = 53) → (¬ a1 = 54) → (a1 = 55) → (¬ (a2 ≠ 0)) → (¬ (a3 = 0)) → P (some (0, 1)) z_LL M)
    (l50 : (¬ a1 = 37) → (¬ a1 = 38) → (¬ a1 = 39) → (¬ a1 = 40) → (¬ a1 = 41) → (¬ a1 = 42) → (¬ a1 = 43) → (¬ a1 = 44) → (¬ a1 = 45) → (¬ a1 = 46) → (¬ a1 = 47) → (¬ a1 = 48) → (¬ a1 = 49) → (¬ a1 = 50) → (¬ a1 = 51) → (¬ a1 = 52) → (¬ a1 = 53) → (¬ a1 = 54) → (¬ a1 = 55) → (a1 = 56) → (a2 ≠ 0) → P (some (0, 1)) z_LL M)
    (l51 : (¬ a1 = 37) → (¬ a1 = 38) → (¬ a1 = 39) → (¬ a1 = 40) → (¬ a1 = 41) → (¬ a1 = 42) → (¬ a1 = 43) → (¬ a1 = 44) → (¬ a1 = 45) → (¬ a1 = 46) → (¬ a1 = 47) → (¬ a1 = 48) → (¬ a1 = 49) → (¬ a1 = 50) → (¬ a1 = 51) → (¬ a1 = 52) → (¬ a1 = 53) → (¬ a1 = 54) → (¬ a1 = 55) → (a1 = 56) → (¬ (a2 ≠ 0)) → (a3 = 0) → P (some (0, 0)) z_LL M)
    (l52 : (¬ a1 = 37) → (¬ a1 = 38) → (¬ a1 = 39) → (¬ a1 = 40) → (¬ a1 = 41) → (¬ a1 = 42) → (¬ a1 = 43) → (¬ a1 = 44) → (¬ a1 = 45) → (¬ a1 = 46) → (¬ a1 = 47) → (¬ a1 = 48) → (¬ a1 = 49) → (¬ a1 = 50) → (¬ a1 = 51) → (¬ a1 = 52) → (¬ a1 = 53) → (¬ a1 = 54) → (¬ a1 = 55) → (a1 = 56) → (¬ (a2 ≠ 0)) → (¬ (a3 = 0)) → P (some (0, 1)) z_LL M)
    (l53 : (¬ a1 = 37) → (¬ a1 = 38) → (¬ a1 = 39) → (¬ a1 = 40) → (¬ a1 = 41) → (¬ a1 = 42) → (¬ a1 = 43) → (¬ a1 = 44) → (¬ a1 = 45) → (¬ a1 = 46) → (¬ a1 = 47) → (¬ a1 = 48) → (¬ a1 = 49) → (¬ a1 = 50) → (¬ a1 = 51) → (¬ a1 = 52) → (¬ a1 = 53) → (¬ a1 = 54) → (¬ a1 = 55) → (¬ a1 = 56) → (a1 = 57) → (a2 ≠ 0) → P (some (0, 1)) z_LL M)
    (l54 : (¬ a1 = 37) → (¬ a1 = 38) → (¬ a1 = 39) → (¬ a1 = 40) → (¬ a1 = 41) → (¬ a1 = 42) → (¬ a1 = 43) → (¬ a1 = 44) → (¬ a1 = 45) → (¬ a1 = 46) → (¬ a1 = 47) → (¬ a1 = 48) → (¬ a1 = 49) → (¬ a1 = 50) → (¬ a1 = 51) → (¬ a1 = 52) → (¬ a1 = 53) → (¬ a1 = 54) → (¬ a1 = 55) → (¬ a1 = 56) → (a1 = 57) → (¬ (a2 ≠ 0)) → (a3 = 0) → P (some (0, 0)) z_LL M)
    (l55 : (¬ a1 = 37) → (¬ a1 = 38) → (¬ a1 = 39) → (¬ a1 = 40) → (¬ a1 = 41) → (¬ a1 = 42) → (¬ a1 = 43) → (¬ a1 = 44) → (¬ a1 = 45) → (¬ a1 = 46) → (¬ a1 = 47) → (¬ a1 = 48) → (¬ a1 = 49) → (¬ a1 = 50) → (¬ a1 = 51) → (¬ a1 = 52) → (¬ a1 = 53) → (¬ a1 = 54) → (¬ a1 = 55) → (¬ a1 = 56) → (a1 = 57) → (¬ (a2 ≠ 0)) → (¬ (a3 = 0)) → P (some (0, 1)) z_LL M)
    (l56 : (¬ a1 = 37) → (¬ a1 = 38) → (¬ a1 = 39) → (¬ a1 = 40) → (¬ a1 = 41) → (¬ a1 = 42) → (¬ a1 = 43) → (¬ a1 = 44) → (¬ a1 = 45) → (¬ a1 = 46) → (¬ a1 = 47) → (¬ a1 = 48) → (¬ a1 = 49) → (¬ a1 = 50) → (¬ a1 = 51) → (¬ a1 = 52) → (¬ a1 = 53) → (¬ a1 = 54) → (¬ a1 = 55) → (¬ a1 = 56) → (¬ a1 = 57) → (a1 = 58) → (a2 ≠ 0) → P (some (0, 1)) z_LL M)
    (l57 : (¬ a1 = 37) → (¬ a1 = 38) → (¬ a1 = 39) → (¬ a1 = 40) → (¬ a1 = 41) → (¬ a1 = 42) → (¬ a1 = 43) → (¬ a1 = 44) → (¬ a1 = 45) → (¬ a1 = 46) → (¬ a1 = 47) → (¬ a1 = 48) → (¬ a1 = 49) → (¬ a1 = 50) → (¬ a1 = 51) → (¬ a1 = 52) → (¬ a1 = 53) → (¬ a1 = 54) → (¬ a1 = 55) → (¬ a1 = 56) → (¬ a1 = 57) → (a1 = 58) → (¬ (a2 ≠ 0)) → (a3 = 0) → P (some (0, 0)) z_LL M)
    (l58 : (¬ a1 = 37) → (¬ a1 = 38) → (¬ a1 = 39) → (¬ a1 = 40) → (¬ a1 = 41) → (¬ a1 = 42) → (¬ a1 = 43) → (¬ a1 = 44) → (¬ a1 = 45) → (¬ a1 = 46) → (¬ a1 = 47) → (¬ a1 = 48) → (¬ a1 = 49) → (¬ a1 = 50) → (¬ a1 = 51) → (¬ a1 = 52) → (¬ a1 = 53) → (¬ a1 = 54) → (¬ a1 = 55) → (¬ a1 = 56) → (¬ a1 = 57) → (a1 = 58) → (¬ (a2 ≠ 0)) → (¬ (a3 = 0)) → P (some (0, 1)) z_LL M)
    (l59 : (¬ a1 = 37) → (¬ a1 = 38) → (¬ a1 = 39) → (¬ a1 = 40) → (¬ a1 = 41) → (¬ a1 = 42) → (¬ a1 = 43) → (¬ a1 = 44) → (¬ a1 = 45) → (¬ a1 = 46) → (¬ a1 = 47) → (¬ a1 = 48) → (¬ a1 = 49) → (¬ a1 = 50) → (¬ a1 = 51) → (¬ a1 = 52) → (¬ a1 = 53) → (¬ a1 = 54) → (¬ a1 = 55) → (¬ a1 = 56) → (¬ a1 = 57) → (¬ a1 = 58) → (a1 = 59) → (a2 ≠ 0) → P (some (0, 1)) z_LL M)
    (l60 : (¬ a1 = 37) → (¬ a1 = 38) → (¬ a1 = 39) → (¬ a1 = 40) → (¬ a1 = 41) → (¬ a1 = 42) → (¬ a1 = 43) → (¬ a1 = 44) → (¬ a1 = 45) → (¬ a1 = 46) → (¬ a1 = 47) → (¬ a1 = 48) → (¬ a1 = 49) → (¬ a1 = 50) → (¬ a1 = 51) → (¬ a1 = 52) → (¬ a1 = 53) → (¬ a1 = 54) → (¬ a1 = 55) → (¬ a1 = 56) → (¬ a1 = 57) → (¬ a1 = 58) → (a1 = 59) → (¬ (a2 ≠ 0)) → (a3 = 0) → P (some (0, 0)) z_LL M)
    (l61 : (¬ a1 = 37) → (¬ a1 = 38) → (¬ a1 = 39) → (¬ a1 = 40) → (¬ a1 = 41) → (¬ a1 = 42) → (¬ a1 = 43) → (¬ a1 = 44) → (¬ a1 = 45) → (¬ a1 = 46) → (¬ a1 = 47) → (¬ a1 = 48) → (¬ a1 = 49) → (¬ a1 = 50) → (¬ a1 = 51) → (¬ a1 = 52) → (¬ a1 = 53) → (¬ a1 = 54) → (¬ a1 = 55) → (¬ a1 = 56) → (¬ a1 = 57) → (¬ a1 = 58) → (a1 = 59) → (¬ (a2 ≠ 0)) → (¬ (a3 = 0)) → P (some (0, 1)) z_LL M)
    (l62 : (¬ a1 = 37) → (¬ a1 = 38) → (¬ a1 = 39) → (¬ a1 = 40) → (¬ a1 = 41) → (¬ a1 = 42) → (¬ a1 = 43) → (¬ a1 = 44) → (¬ a1 = 45) → (¬ a1 = 46) → (¬ a1 = 47) → (¬ a1 = 48) → (¬ a1 = 49) → (¬ a1 = 50) → (¬ a1 = 51) → (¬ a1 = 52) → (¬ a1 = 53) → (¬ a1 = 54) → (¬ a1 = 55) → (¬ a1 = 56) → (¬ a1 = 57) → (¬ a1 = 58) → (¬ a1 = 59) → (a1 = 60) → (a3 ≤ a2) → P (some (0, 0)) z_LL M)
    (l63 : (¬ a1 = 37) → (¬ a1 = 38) → (¬ a1 = 39) → (¬ a1 = 40) → (¬ a1 = 41) → (¬ a1 = 42) → (¬ a1 = 43) → (¬ a1 = 44) → (¬ a1 = 45) → (¬ a1 = 46) → (¬ a1 = 47) → (¬ a1 = 48) → (¬ a1 = 49) → (¬ a1 = 50) → (¬ a1 = 51) → (¬ a1 = 52) → (¬ a1 = 53) → (¬ a1 = 54) → (¬ a1 = 55) → (¬ a1 = 56) → (¬ a1 = 57) → (¬ a1 = 58) → (¬ a1 = 59) → (a1 = 60) → (¬ (a3 ≤ a2)) → P (some (0, 1)) z_LL M)
    (l64 : (¬ a1 = 37) → (¬ a1 = 38) → (¬ a1 = 39) → (¬ a1 = 40) → (¬ a1 = 41) → (¬ a1 = 42) → (¬ a1 = 43) → (¬ a1 = 44) → (¬ a1 = 45) → (¬ a1 = 46) → (¬ a1 = 47) → (¬ a1 = 48) → (¬ a1 = 49) → (¬ a1 = 50) → (¬ a1 = 51) → (¬ a1 = 52) → (¬ a1 = 53) → (¬ a1 = 54) → (¬ a1 = 55) → (¬ a1 = 56) → (¬ a1 = 57) → (¬ a1 = 58) → (¬ a1 = 59) → (¬ a1 = 60) → (a1 = 61) → (a2 ≠ a3) → P (some (0, 0)) z_LL M)
    (l65 : (¬ a1 = 37) → (¬ a1 = 38) → (¬ a1 = 39) → (¬ a1 = 40) → (¬ a1 = 41) → (¬ a1 = 42) → (¬ a1 = 43) → (¬ a1 = 44) → (¬ a1 = 45) → (¬ a1 = 46) → (¬ a1 = 47) → (¬ a1 = 48) → (¬ a1 = 49) → (¬ a1 = 50) → (¬ a1 = 51) → (¬ a1 = 52) → (¬ a1 = 53) → (¬ a1 = 54) → (¬ a1 = 55) → (¬ a1 = 56) → (¬ a1 = 57) → (¬ a1 = 58) → (¬ a1 = 59) → (¬ a1 = 60) → (a1 = 61) → (¬ (a2 ≠ a3)) → P (some (0, 1)) z_LL M)
    (l66 : (¬ a1 = 37) → (¬ a1 = 38) → (¬ a1 = 39) → (¬ a1 = 40) → (¬ a1 = 41) → (¬ a1 = 42) → (¬ a1 = 43) → (¬ a1 = 44) → (¬ a1 = 45) → (¬ a1 = 46) → (¬ a1 = 47) → (¬ a1 = 48) → (¬ a1 = 49) → (¬ a1 = 50) → (¬ a1 = 51) → (¬ a1 = 52) → (¬ a1 = 53) → (¬ a1 = 54) → (¬ a1 = 55) → (¬ a1 = 56) → (¬ a1 = 57) → (¬ a1 = 58) → (¬ a1 = 59) → (¬ a1 = 60) → (¬ a1 = 61) → (a1 = 62) → (a2 ≤ a3) → P (some (0, 0)) z_LL M)
    (l67 : (¬ a1 = 37) → (¬ a1 = 38) → (¬ a1 = 39) → (¬ a1 = 40) → (¬ a1 = 41) → (¬ a1 = 42) → (¬ a1 = 43) → (¬ a1 = 44) → (¬ a1 = 45) → (¬ a1 = 46) → (¬ a1 = 47) → (¬ a1 = 48) → (¬ a1 = 49) → (¬ a1 = 50) → (¬ a1 = 51) → (¬ a1 = 52) → (¬ a1 = 53) → (¬ a1 = 54) → (¬ a1 = 55) → (¬ a1 = 56) → (¬ a1 = 57) → (¬ a1 = 58) → (¬ a1 = 59) → (¬ a1 = 60) → (¬ a1 = 61) → (a1 = 62) → (¬ (a2 ≤ a3)) → P (some (0, 1)) z_LL M)
    (l68 : (¬ a1 = 37) → (¬ a1 = 38) → (¬ a1 = 39) → (¬ a1 = 40) → (¬ a1 = 41) → (¬ a1 = 42) → (¬ a1 = 43) → (¬ a1 = 44) → (¬ a1 = 45) → (¬ a1 = 46) → (¬ a1 = 47) → (¬ a1 = 48) → (¬ a1 = 49) → (¬ a1 = 50) → (¬ a1 = 51) → (¬ a1 = 52) → (¬ a1 = 53) → (¬ a1 = 54) → (¬ a1 = 55) → (¬ a1 = 56) → (¬ a1 = 57) → (¬ a1 = 58) → (¬ a1 = 59) → (¬ a1 = 60) → (¬ a1 = 61) → (¬ a1 = 62) → (a2 ≠ 0) → P (some (0, 1)) z_LL M)
    (l69 : (¬ a1 = 37) → (¬ a1 = 38) → (¬ a1 = 39) → (¬ a1 = 40) → (¬ a1 = 41) → (¬ a1 = 42) → (¬ a1 = 43) → (¬ a1 = 44) → (¬ a1 = 45) → (¬ a1 = 46) → (¬ a1 = 47) → (¬ a1 = 48) → (¬ a1 = 49) → (¬ a1 = 50) → (¬ a1 = 51) → (¬ a1 = 52) → (¬ a1 = 53) → (¬ a1 = 54) → (¬ a1 = 55) → (¬ a1 = 56) → (¬ a1 = 57) → (¬ a1 = 58) → (¬ a1 = 59) → (¬ a1 = 60) → (¬ a1 = 61) → (¬ a1 = 62) → (¬ (a2 ≠ 0)) → (a3 = 0) → P (some (0, 0)) z_LL M)
    (l70 : (¬ a1 = 37) → (¬ a1 = 38) → (¬ a1 = 39) → (¬ a1 = 40) → (¬ a1 = 41) → (¬ a1 = 42) → (¬ a1 = 43) → (¬ a1 = 44) → (¬ a1 = 45) → (¬ a1 = 46) → (¬ a1 = 47) → (¬ a1 = 48) → (¬ a1 = 49) → (¬ a1 = 50) → (¬ a1 = 51) → (¬ a1 = 52) → (¬ a1 = 53) → (¬ a1 = 54) → (¬ a1 = 55) → (¬ a1 = 56) → (¬ a1 = 57) → (¬ a1 = 58) → (¬ a1 = 59) → (¬ a1 = 60) → (¬ a1 = 61) → (¬ a1 = 62) → (¬ (a2 ≠ 0)) → (¬ (a3 = 0)) → P (some (0, 1)) z_LL M) :
    wp xs (d + 1) mX10_done 0 [(0, a1), (0, a2), (0, a3)] [] z_LL M P := by
  refine wp_run 1 (pc' := 1) (ls' := [(0, a1), (0, a2), (0, a3)]) (st' := [(0, a1)]) rfl ?_
  by_cases c1 : a1 = 37
  · refine wp_cast c1 ?_
    refine wp_run 2 (pc' := 145) (ls' := [(0, a1), (0, a2), (0, a3)]) (st' := [(0, a3)]) rfl ?_
    refine wp_if1 rfl rfl rfl (fun (c2 : a3 ≠ 0) => ?_) (fun (c2 : ¬ (a3 ≠ 0)) => ?_)
    · refine wp_run 2 (pc' := 154) (ls' := [(0, a1), (0, a2), (0, a3)]) (st' := [(0, a3), (0, a2)]) rfl ?_
      refine wp_rem rfl rfl (b1 c1 c2) ?_
      exact wp_ret rfl rfl (l1 c1 c2)
    · refine wp_run 2 (pc' := 155) (ls' := [(0, a1), (0, a2), (0, a3)]) (st' := [(0, 0)]) rfl ?_
      exact wp_ret rfl rfl (l2 c1 c2)
  by_cases c3 : a1 = 38
  · refine wp_cast c3 ?_
    refine wp_run 2 (pc' := 199) (ls' := [(0, a1), (0, a2), (0, a3)]) (st' := [(0, a2)]) rfl ?_
    refine wp_if1 rfl rfl rfl (fun (c4 : a2 = 0) => ?_) (fun (c4 : ¬ (a2 = 0)) => ?_)
    · refine wp_run 1 (pc' := 211) (ls' := [(0, a1), (0, a2), (0, a3)]) (st' := [(0, 0)]) rfl ?_
      refine wp_callv (pc' := 214) (as := [(0, 0)]) (rest := []) (ls1 := [(0, 0)]) rfl rfl rfl rfl rfl rfl ?_
      refine s_X10_truth (by decide) ?_
      show wp xs _ mX10_done 214 [(0, a1), (0, a2), (0, a3)] [(0, 0)] z_LL M _
      exact wp_ret rfl rfl (l3 c1 c3 c4)
    · refine wp_run 1 (pc' := 203) (ls' := [(0, a1), (0, a2), (0, a3)]) (st' := [(0, a3)]) rfl ?_
      refine wp_if1 rfl rfl rfl (fun (c5 : a3 = 0) => ?_) (fun (c5 : ¬ (a3 = 0)) => ?_)
      · refine wp_run 1 (pc' := 211) (ls' := [(0, a1), (0, a2), (0, a3)]) (st' := [(0, 0)]) rfl ?_
        refine wp_callv (pc' := 214) (as := [(0, 0)]) (rest := []) (ls1 := [(0, 0)]) rfl rfl rfl rfl rfl rfl ?_
        refine s_X10_truth (by decide) ?_
        show wp xs _ mX10_done 214 [(0, a1), (0, a2), (0, a3)] [(0, 0)] z_LL M _
        exact wp_ret rfl rfl (l4 c1 c3 c4 c5)
      · refine wp_run 2 (pc' := 211) (ls' := [(0, a1), (0, a2), (0, a3)]) (st' := [(0, 1)]) rfl ?_
        refine wp_callv (pc' := 214) (as := [(0, 1)]) (rest := []) (ls1 := [(0, 1)]) rfl rfl rfl rfl rfl rfl ?_
        refine s_X10_truth (by decide) ?_
        show wp xs _ mX10_done 214 [(0, a1), (0, a2), (0, a3)] [(0, 1)] z_LL M _
        exact wp_ret rfl rfl (l5 c1 c3 c4 c5)
  by_cases c6 : a1 = 39
  · refine wp_cast c6 ?_
    refine wp_run 2 (pc' := 216) (ls' := [(0, a1), (0, a2), (0, a3)]) (st' := [(0, a2)]) rfl ?_
    refine wp_if1 rfl rfl rfl (fun (c7 : a2 ≠ 0) => ?_) (fun (c7 : ¬ (a2 ≠ 0)) => ?_)
    · refine wp_run 2 (pc' := 228) (ls' := [(0, a1), (0, a2), (0, a3)]) (st' := [(0, 1)]) rfl ?_
      refine wp_callv (pc' := 231) (as := [(0, 1)]) (rest := []) (ls1 := [(0, 1)]) rfl rfl rfl rfl rfl rfl ?_
      refine s_X10_truth (by decide) ?_
      show wp xs _ mX10_done 231 [(0, a1), (0, a2), (0, a3)] [(0, 1)] z_LL M _
      exact wp_ret rfl rfl (l6 c1 c3 c6 c7)
    · refine wp_run 1 (pc' := 220) (ls' := [(0, a1), (0, a2), (0, a3)]) (st' := [(0, a3)]) rfl ?_
      refine wp_if1 rfl rfl rfl (fun (c8 : a3 = 0) => ?_) (fun (c8 : ¬ (a3 = 0)) => ?_)
      · refine wp_run 1 (pc' := 228) (ls' := [(0, a1), (0, a2), (0, a3)]) (st' := [(0, 0)]) rfl ?_
        refine wp_callv (pc' := 231) (as := [(0, 0)]) (rest := []) (ls1 := [(0, 0)]) rfl rfl rfl rfl rfl rfl ?_
        refine s_X10_truth (by decide) ?_
        show wp xs _ mX10_done 231 [(0, a1), (0, a2), (0, a3)] [(0, 0)] z_LL M _
        exact wp_ret rfl rfl (l7 c1 c3 c6 c7 c8)
      · refine wp_run 2 (pc' := 228) (ls' := [(0, a1), (0, a2), (0, a3)]) (st' := [(0, 1)]) rfl ?_
        refine wp_callv (pc' := 231) (as := [(0, 1)]) (rest := []) (ls1 := [(0, 1)]) rfl rfl rfl rfl rfl rfl ?_
        refine s_X10_truth (by decide) ?_
        show wp xs _ mX10_done 231 [(0, a1), (0, a2), (0, a3)] [(0, 1)] z_LL M _
        exact wp_ret rfl rfl (l8 c1 c3 c6 c7 c8)
  by_cases c9 : a1 = 40
  · refine wp_cast c9 ?_
    refine wp_run 2 (pc' := 216) (ls' := [(0, a1), (0, a2), (0, a3)]) (st' := [(0, a2)]) rfl ?_
    refine wp_if1 rfl rfl rfl (fun (c10 : a2 ≠ 0) => ?_) (fun (c10 : ¬ (a2 ≠ 0)) => ?_)
    · refine wp_run 2 (pc' := 228) (ls' := [(0, a1), (0, a2), (0, a3)]) (st' := [(0, 1)]) rfl ?_
      refine wp_callv (pc' := 231) (as := [(0, 1)]) (rest := []) (ls1 := [(0, 1)]) rfl rfl rfl rfl rfl rfl ?_
      refine s_X10_truth (by decide) ?_
      show wp xs _ mX10_done 231 [(0, a1), (0, a2), (0, a3)] [(0, 1)] z_LL M _
      exact wp_ret rfl rfl (l9 c1 c3 c6 c9 c10)
    · refine wp_run 1 (pc' := 220) (ls' := [(0, a1), (0, a2), (0, a3)]) (st' := [(0, a3)]) rfl ?_
      refine wp_if1 rfl rfl rfl (fun (c11 : a3 = 0) => ?_) (fun (c11 : ¬ (a3 = 0)) => ?_)
      · refine wp_run 1 (pc' := 228) (ls' := [(0, a1), (0, a2), (0, a3)]) (st' := [(0, 0)]) rfl ?_
        refine wp_callv (pc' := 231) (as := [(0, 0)]) (rest := []) (ls1 := [(0, 0)]) rfl rfl rfl rfl rfl rfl ?_
        refine s_X10_truth (by decide) ?_
        show wp xs _ mX10_done 231 [(0, a1), (0, a2), (0, a3)] [(0, 0)] z_LL M _
        exact wp_ret rfl rfl (l10 c1 c3 c6 c9 c10 c11)
      · refine wp_run 2 (pc' := 228) (ls' := [(0, a1), (0, a2), (0, a3)]) (st' := [(0, 1)]) rfl ?_
        refine wp_callv (pc' := 231) (as := [(0, 1)]) (rest := []) (ls1 := [(0, 1)]) rfl rfl rfl rfl rfl rfl ?_
        refine s_X10_truth (by decide) ?_
        show wp xs _ mX10_done 231 [(0, a1), (0, a2), (0, a3)] [(0, 1)] z_LL M _
        exact wp_ret rfl rfl (l11 c1 c3 c6 c9 c10 c11)
  by_cases c12 : a1 = 41
  · refine wp_cast c12 ?_
    refine wp_run 2 (pc' := 216) (ls' := [(0, a1), (0, a2), (0, a3)]) (st' := [(0, a2)]) rfl ?_
    refine wp_if1 rfl rfl rfl (fun (c13 : a2 ≠ 0) => ?_) (fun (c13 : ¬ (a2 ≠ 0)) => ?_)
    · refine wp_run 2 (pc' := 228) (ls' := [(0, a1), (0, a2), (0, a3)]) (st' := [(0, 1)]) rfl ?_
      refine wp_callv (pc' := 231) (as := [(0, 1)]) (rest := []) (ls1 := [(0, 1)]) rfl rfl rfl rfl rfl rfl ?_
      refine s_X10_truth (by decide) ?_
      show wp xs _ mX10_done 231 [(0, a1), (0, a2), (0, a3)] [(0, 1)] z_LL M _
      exact wp_ret rfl rfl (l12 c1 c3 c6 c9 c12 c13)
    · refine wp_run 1 (pc' := 220) (ls' := [(0, a1), (0, a2), (0, a3)]) (st' := [(0, a3)]) rfl ?_
      refine wp_if1 rfl rfl rfl (fun (c14 : a3 = 0) => ?_) (fun (c14 : ¬ (a3 = 0)) => ?_)
      · refine wp_run 1 (pc' := 228) (ls' := [(0, a1), (0, a2), (0, a3)]) (st' := [(0, 0)]) rfl ?_
        refine wp_callv (pc' := 231) (as := [(0, 0)]) (rest := []) (ls1 := [(0, 0)]) rfl rfl rfl rfl rfl rfl ?_
        refine s_X10_truth (by decide) ?_
        show wp xs _ mX10_done 231 [(0, a1), (0, a2), (0, a3)] [(0, 0)] z_LL M _
        exact wp_ret rfl rfl (l13 c1 c3 c6 c9 c12 c13 c14)
      · refine wp_run 2 (pc' := 228) (ls' := [(0, a1), (0, a2), (0, a3)]) (st' := [(0, 1)]) rfl ?_
        refine wp_callv (pc' := 231) (as := [(0, 1)]) (rest := []) (ls1 := [(0, 1)]) rfl rfl rfl rfl rfl rfl ?_
        refine s_X10_truth (by decide) ?_
        show wp xs _ mX10_done 231 [(0, a1), (0, a2), (0, a3)] [(0, 1)] z_LL M _
        exact wp_ret rfl rfl (l14 c1 c3 c6 c9 c12 c13 c14)
  by_cases c15 : a1 = 42
  · refine wp_cast c15 ?_
    refine wp_run 4 (pc' := 131) (ls' := [(0, a1), (0, a2), (0, a3)]) (st' := [(0, (z_w (a2 * a3)))]) rfl ?_
    exact wp_ret rfl rfl (l15 c1 c3 c6 c9 c12 c15)
  by_cases c16 : a1 = 43
  · refine wp_cast c16 ?_
    refine wp_run 4 (pc' := 123) (ls' := [(0, a1), (0, a2), (0, a3)]) (st' := [(0, (z_w (a2 + a3)))]) rfl ?_
    exact wp_ret rfl rfl (l16 c1 c3 c6 c9 c12 c15 c16)
  by_cases c17 : a1 = 44
  · refine wp_cast c17 ?_
    refine wp_run 2 (pc' := 216) (ls' := [(0, a1), (0, a2), (0, a3)]) (st' := [(0, a2)]) rfl ?_
    refine wp_if1 rfl rfl rfl (fun (c18 : a2 ≠ 0) => ?_) (fun (c18 : ¬ (a2 ≠ 0)) => ?_)
    · refine wp_run 2 (pc' := 228) (ls' := [(0, a1), (0, a2), (0, a3)]) (st' := [(0, 1)]) rfl ?_
      refine wp_callv (pc' := 231) (as := [(0, 1)]) (rest := []) (ls1 := [(0, 1)]) rfl rfl rfl rfl rfl rfl ?_
      refine s_X10_truth (by decide) ?_
      show wp xs _ mX10_done 231 [(0, a1), (0, a2), (0, a3)] [(0, 1)] z_LL M _
      exact wp_ret rfl rfl (l17 c1 c3 c6 c9 c12 c15 c16 c17 c18)
    · refine wp_run 1 (pc' := 220) (ls' := [(0, a1), (0, a2), (0, a3)]) (st' := [(0, a3)]) rfl ?_
      refine wp_if1 rfl rfl rfl (fun (c19 : a3 = 0) => ?_) (fun (c19 : ¬ (a3 = 0)) => ?_)
      · refine wp_run 1 (pc' := 228) (ls' := [(0, a1), (0, a2), (0, a3)]) (st' := [(0, 0)]) rfl ?_
        refine wp_callv (pc' := 231) (as := [(0, 0)]) (rest := []) (ls1 := [(0, 0)]) rfl rfl rfl rfl rfl rfl ?_
        refine s_X10_truth (by decide) ?_
        show wp xs _ mX10_done 231 [(0, a1), (0, a2), (0, a3)] [(0, 0)] z_LL M _
        exact wp_ret rfl rfl (l18 c1 c3 c6 c9 c12 c15 c16 c17 c18 c19)
      · refine wp_run 2 (pc' := 228) (ls' := [(0, a1), (0, a2), (0, a3)]) (st' := [(0, 1)]) rfl ?_
        refine wp_callv (pc' := 231) (as := [(0, 1)]) (rest := []) (ls1 := [(0, 1)]) rfl rfl rfl rfl rfl rfl ?_
        refine s_X10_truth (by decide) ?_
        show wp xs _ mX10_done 231 [(0, a1), (0, a2), (0, a3)] [(0, 1)] z_LL M _
        exact wp_ret rfl rfl (l19 c1 c3 c6 c9 c12 c15 c16 c17 c18 c19)
  by_cases c20 : a1 = 45
  · refine wp_cast c20 ?_
    refine wp_run 4 (pc' := 127) (ls' := [(0, a1), (0, a2), (0, a3)]) (st' := [(0, (z_w (a2 - a3)))]) rfl ?_
    exact wp_ret rfl rfl (l20 c1 c3 c6 c9 c12 c15 c16 c17 c20)
  by_cases c21 : a1 = 46
  · refine wp_cast c21 ?_
    refine wp_run 2 (pc' := 216) (ls' := [(0, a1), (0, a2), (0, a3)]) (st' := [(0, a2)]) rfl ?_
    refine wp_if1 rfl rfl rfl (fun (c22 : a2 ≠ 0) => ?_) (fun (c22 : ¬ (a2 ≠ 0)) => ?_)
    · refine wp_run 2 (pc' := 228) (ls' := [(0, a1), (0, a2), (0, a3)]) (st' := [(0, 1)]) rfl ?_
      refine wp_callv (pc' := 231) (as := [(0, 1)]) (rest := []) (ls1 := [(0, 1)]) rfl rfl rfl rfl rfl rfl ?_
      refine s_X10_truth (by decide) ?_
      show wp xs _ mX10_done 231 [(0, a1), (0, a2), (0, a3)] [(0, 1)] z_LL M _
      exact wp_ret rfl rfl (l21 c1 c3 c6 c9 c12 c15 c16 c17 c20 c21 c22)
    · refine wp_run 1 (pc' := 220) (ls' := [(0, a1), (0, a2), (0, a3)]) (st' := [(0, a3)]) rfl ?_
      refine wp_if1 rfl rfl rfl (fun (c23 : a3 = 0) => ?_) (fun (c23 : ¬ (a3 = 0)) => ?_)
      · refine wp_run 1 (pc' := 228) (ls' := [(0, a1), (0, a2), (0, a3)]) (st' := [(0, 0)]) rfl ?_
        refine wp_callv (pc' := 231) (as := [(0, 0)]) (rest := []) (ls1 := [(0, 0)]) rfl rfl rfl rfl rfl rfl ?_
        refine s_X10_truth (by decide) ?_
        show wp xs _ mX10_done 231 [(0, a1), (0, a2), (0, a3)] [(0, 0)] z_LL M _
        exact wp_ret rfl rfl (l22 c1 c3 c6 c9 c12 c15 c16 c17 c20 c21 c22 c23)
      · refine wp_run 2 (pc' := 228) (ls' := [(0, a1), (0, a2), (0, a3)]) (st' := [(0, 1)]) rfl ?_
        refine wp_callv (pc' := 231) (as := [(0, 1)]) (rest := []) (ls1 := [(0, 1)]) rfl rfl rfl rfl rfl rfl ?_
        refine s_X10_truth (by decide) ?_
        show wp xs _ mX10_done 231 [(0, a1), (0, a2), (0, a3)] [(0, 1)] z_LL M _
        exact wp_ret rfl rfl (l23 c1 c3 c6 c9 c12 c15 c16 c17 c20 c21 c22 c23)
  by_cases c24 : a1 = 47
  · refine wp_cast c24 ?_
    refine wp_run 2 (pc' := 133) (ls' := [(0, a1), (0, a2), (0, a3)]) (st' := [(0, a3)]) rfl ?_
    refine wp_if1 rfl rfl rfl (fun (c25 : a3 ≠ 0) => ?_) (fun (c25 : ¬ (a3 ≠ 0)) => ?_)
    · refine wp_run 2 (pc' := 142) (ls' := [(0, a1), (0, a2), (0, a3)]) (st' := [(0, a3), (0, a2)]) rfl ?_
      refine wp_div rfl rfl (b2 c1 c3 c6 c9 c12 c15 c16 c17 c20 c21 c24 c25) ?_
      exact wp_ret rfl rfl (l24 c1 c3 c6 c9 c12 c15 c16 c17 c20 c21 c24 c25)
    · refine wp_run 2 (pc' := 143) (ls' := [(0, a1), (0, a2), (0, a3)]) (st' := [(0, 0)]) rfl ?_
      exact wp_ret rfl rfl (l25 c1 c3 c6 c9 c12 c15 c16 c17 c20 c21 c24 c25)
  by_cases c26 : a1 = 48
  · refine wp_cast c26 ?_
    refine wp_run 2 (pc' := 216) (ls' := [(0, a1), (0, a2), (0, a3)]) (st' := [(0, a2)]) rfl ?_
    refine wp_if1 rfl rfl rfl (fun (c27 : a2 ≠ 0) => ?_) (fun (c27 : ¬ (a2 ≠ 0)) => ?_)
    · refine wp_run 2 (pc' := 228) (ls' := [(0, a1), (0, a2), (0, a3)]) (st' := [(0, 1)]) rfl ?_
      refine wp_callv (pc' := 231) (as := [(0, 1)]) (rest := []) (ls1 := [(0, 1)]) rfl rfl rfl rfl rfl rfl ?_
      refine s_X10_truth (by decide) ?_
      show wp xs _ mX10_done 231 [(0, a1), (0, a2), (0, a3)] [(0, 1)] z_LL M _
      exact wp_ret rfl rfl (l26 c1 c3 c6 c9 c12 c15 c16 c17 c20 c21 c24 c26 c27)
    · refine wp_run 1 (pc' := 220) (ls' := [(0, a1), (0, a2), (0, a3)]) (st' := [(0, a3)]) rfl ?_
      refine wp_if1 rfl rfl rfl (fun (c28 : a3 = 0) => ?_) (fun (c28 : ¬ (a3 = 0)) => ?_)
      · refine wp_run 1 (pc' := 228) (ls' := [(0, a1), (0, a2), (0, a3)]) (st' := [(0, 0)]) rfl ?_
        refine wp_callv (pc' := 231) (as := [(0, 0)]) (rest := []) (ls1 := [(0, 0)]) rfl rfl rfl rfl rfl rfl ?_
        refine s_X10_truth (by decide) ?_
        show wp xs _ mX10_done 231 [(0, a1), (0, a2), (0, a3)] [(0, 0)] z_LL M _
        exact wp_ret rfl rfl (l27 c1 c3 c6 c9 c12 c15 c16 c17 c20 c21 c24 c26 c27 c28)
      · refine wp_run 2 (pc' := 228) (ls' := [(0, a1), (0, a2), (0, a3)]) (st' := [(0, 1)]) rfl ?_
        refine wp_callv (pc' := 231) (as := [(0, 1)]) (rest := []) (ls1 := [(0, 1)]) rfl rfl rfl rfl rfl rfl ?_
        refine s_X10_truth (by decide) ?_
        show wp xs _ mX10_done 231 [(0, a1), (0, a2), (0, a3)] [(0, 1)] z_LL M _
        exact wp_ret rfl rfl (l28 c1 c3 c6 c9 c12 c15 c16 c17 c20 c21 c24 c26 c27 c28)
  by_cases c29 : a1 = 49
  · refine wp_cast c29 ?_
    refine wp_run 2 (pc' := 216) (ls' := [(0, a1), (0, a2), (0, a3)]) (st' := [(0, a2)]) rfl ?_
    refine wp_if1 rfl rfl rfl (fun (c30 : a2 ≠ 0) => ?_) (fun (c30 : ¬ (a2 ≠ 0)) => ?_)
    · refine wp_run 2 (pc' := 228) (ls' := [(0, a1), (0, a2), (0, a3)]) (st' := [(0, 1)]) rfl ?_
      refine wp_callv (pc' := 231) (as := [(0, 1)]) (rest := []) (ls1 := [(0, 1)]) rfl rfl rfl rfl rfl rfl ?_
      refine s_X10_truth (by decide) ?_
      show wp xs _ mX10_done 231 [(0, a1), (0, a2), (0, a3)] [(0, 1)] z_LL M _
      exact wp_ret rfl rfl (l29 c1 c3 c6 c9 c12 c15 c16 c17 c20 c21 c24 c26 c29 c30)
    · refine wp_run 1 (pc' := 220) (ls' := [(0, a1), (0, a2), (0, a3)]) (st' := [(0, a3)]) rfl ?_
      refine wp_if1 rfl rfl rfl (fun (c31 : a3 = 0) => ?_) (fun (c31 : ¬ (a3 = 0)) => ?_)
      · refine wp_run 1 (pc' := 228) (ls' := [(0, a1), (0, a2), (0, a3)]) (st' := [(0, 0)]) rfl ?_
        refine wp_callv (pc' := 231) (as := [(0, 0)]) (rest := []) (ls1 := [(0, 0)]) rfl rfl rfl rfl rfl rfl ?_
        refine s_X10_truth (by decide) ?_
        show wp xs _ mX10_done 231 [(0, a1), (0, a2), (0, a3)] [(0, 0)] z_LL M _
        exact wp_ret rfl rfl (l30 c1 c3 c6 c9 c12 c15 c16 c17 c20 c21 c24 c26 c29 c30 c31)
      · refine wp_run 2 (pc' := 228) (ls' := [(0, a1), (0, a2), (0, a3)]) (st' := [(0, 1)]) rfl ?_
        refine wp_callv (pc' := 231) (as := [(0, 1)]) (rest := []) (ls1 := [(0, 1)]) rfl rfl rfl rfl rfl rfl ?_
        refine s_X10_truth (by decide) ?_
        show wp xs _ mX10_done 231 [(0, a1), (0, a2), (0, a3)] [(0, 1)] z_LL M _
        exact wp_ret rfl rfl (l31 c1 c3 c6 c9 c12 c15 c16 c17 c20 c21 c24 c26 c29 c30 c31)
  by_cases c32 : a1 = 50
  · refine wp_cast c32 ?_
    refine wp_run 2 (pc' := 216) (ls' := [(0, a1), (0, a2), (0, a3)]) (st' := [(0, a2)]) rfl ?_
    refine wp_if1 rfl rfl rfl (fun (c33 : a2 ≠ 0) => ?_) (fun (c33 : ¬ (a2 ≠ 0)) => ?_)
    · refine wp_run 2 (pc' := 228) (ls' := [(0, a1), (0, a2), (0, a3)]) (st' := [(0, 1)]) rfl ?_
      refine wp_callv (pc' := 231) (as := [(0, 1)]) (rest := []) (ls1 := [(0, 1)]) rfl rfl rfl rfl rfl rfl ?_
      refine s_X10_truth (by decide) ?_
      show wp xs _ mX10_done 231 [(0, a1), (0, a2), (0, a3)] [(0, 1)] z_LL M _
      exact wp_ret rfl rfl (l32 c1 c3 c6 c9 c12 c15 c16 c17 c20 c21 c24 c26 c29 c32 c33)
    · refine wp_run 1 (pc' := 220) (ls' := [(0, a1), (0, a2), (0, a3)]) (st' := [(0, a3)]) rfl ?_
      refine wp_if1 rfl rfl rfl (fun (c34 : a3 = 0) => ?_) (fun (c34 : ¬ (a3 = 0)) => ?_)
      · refine wp_run 1 (pc' := 228) (ls' := [(0, a1), (0, a2), (0, a3)]) (st' := [(0, 0)]) rfl ?_
        refine wp_callv (pc' := 231) (as := [(0, 0)]) (rest := []) (ls1 := [(0, 0)]) rfl rfl rfl rfl rfl rfl ?_
        refine s_X10_truth (by decide) ?_
        show wp xs _ mX10_done 231 [(0, a1), (0, a2), (0, a3)] [(0, 0)] z_LL M _
        exact wp_ret rfl rfl (l33 c1 c3 c6 c9 c12 c15 c16 c17 c20 c21 c24 c26 c29 c32 c33 c34)
      · refine wp_run 2 (pc' := 228) (ls' := [(0, a1), (0, a2), (0, a3)]) (st' := [(0, 1)]) rfl ?_
        refine wp_callv (pc' := 231) (as := [(0, 1)]) (rest := []) (ls1 := [(0, 1)]) rfl rfl rfl rfl rfl rfl ?_
        refine s_X10_truth (by decide) ?_
        show wp xs _ mX10_done 231 [(0, a1), (0, a2), (0, a3)] [(0, 1)] z_LL M _
        exact wp_ret rfl rfl (l34 c1 c3 c6 c9 c12 c15 c16 c17 c20 c21 c24 c26 c29 c32 c33 c34)
  by_cases c35 : a1 = 51
  · refine wp_cast c35 ?_
    refine wp_run 2 (pc' := 216) (ls' := [(0, a1), (0, a2), (0, a3)]) (st' := [(0, a2)]) rfl ?_
    refine wp_if1 rfl rfl rfl (fun (c36 : a2 ≠ 0) => ?_) (fun (c36 : ¬ (a2 ≠ 0)) => ?_)
    · refine wp_run 2 (pc' := 228) (ls' := [(0, a1), (0, a2), (0, a3)]) (st' := [(0, 1)]) rfl ?_
      refine wp_callv (pc' := 231) (as := [(0, 1)]) (rest := []) (ls1 := [(0, 1)]) rfl rfl rfl rfl rfl rfl ?_
      refine s_X10_truth (by decide) ?_
      show wp xs _ mX10_done 231 [(0, a1), (0, a2), (0, a3)] [(0, 1)] z_LL M _
      exact wp_ret rfl rfl (l35 c1 c3 c6 c9 c12 c15 c16 c17 c20 c21 c24 c26 c29 c32 c35 c36)
    · refine wp_run 1 (pc' := 220) (ls' := [(0, a1), (0, a2), (0, a3)]) (st' := [(0, a3)]) rfl ?_
      refine wp_if1 rfl rfl rfl (fun (c37 : a3 = 0) => ?_) (fun (c37 : ¬ (a3 = 0)) => ?_)
      · refine wp_run 1 (pc' := 228) (ls' := [(0, a1), (0, a2), (0, a3)]) (st' := [(0, 0)]) rfl ?_
        refine wp_callv (pc' := 231) (as := [(0, 0)]) (rest := []) (ls1 := [(0, 0)]) rfl rfl rfl rfl rfl rfl ?_
        refine s_X10_truth (by decide) ?_
        show wp xs _ mX10_done 231 [(0, a1), (0, a2), (0, a3)] [(0, 0)] z_LL M _
        exact wp_ret rfl rfl (l36 c1 c3 c6 c9 c12 c15 c16 c17 c20 c21 c24 c26 c29 c32 c35 c36 c37)
      · refine wp_run 2 (pc' := 228) (ls' := [(0, a1), (0, a2), (0, a3)]) (st' := [(0, 1)]) rfl ?_
        refine wp_callv (pc' := 231) (as := [(0, 1)]) (rest := []) (ls1 := [(0, 1)]) rfl rfl rfl rfl rfl rfl ?_
        refine s_X10_truth (by decide) ?_
        show wp xs _ mX10_done 231 [(0, a1), (0, a2), (0, a3)] [(0, 1)] z_LL M _
        exact wp_ret rfl rfl (l37 c1 c3 c6 c9 c12 c15 c16 c17 c20 c21 c24 c26 c29 c32 c35 c36 c37)
  by_cases c38 : a1 = 52
  · refine wp_cast c38 ?_
    refine wp_run 2 (pc' := 216) (ls' := [(0, a1), (0, a2), (0, a3)]) (st' := [(0, a2)]) rfl ?_
    refine wp_if1 rfl rfl rfl (fun (c39 : a2 ≠ 0) => ?_) (fun (c39 : ¬ (a2 ≠ 0)) => ?_)
    · refine wp_run 2 (pc' := 228) (ls' := [(0, a1), (0, a2), (0, a3)]) (st' := [(0, 1)]) rfl ?_
      refine wp_callv (pc' := 231) (as := [(0, 1)]) (rest := []) (ls1 := [(0, 1)]) rfl rfl rfl rfl rfl rfl ?_
      refine s_X10_truth (by decide) ?_
      show wp xs _ mX10_done 231 [(0, a1), (0, a2), (0, a3)] [(0, 1)] z_LL M _
      exact wp_ret rfl rfl (l38 c1 c3 c6 c9 c12 c15 c16 c17 c20 c21 c24 c26 c29 c32 c35 c38 c39)
    · refine wp_run 1 (pc' := 220) (ls' := [(0, a1), (0, a2), (0, a3)]) (st' := [(0, a3)]) rfl ?_
      refine wp_if1 rfl rfl rfl (fun (c40 : a3 = 0) => ?_) (fun (c40 : ¬ (a3 = 0)) => ?_)
      · refine wp_run 1 (pc' := 228) (ls' := [(0, a1), (0, a2), (0, a3)]) (st' := [(0, 0)]) rfl ?_
        refine wp_callv (pc' := 231) (as := [(0, 0)]) (rest := []) (ls1 := [(0, 0)]) rfl rfl rfl rfl rfl rfl ?_
        refine s_X10_truth (by decide) ?_
        show wp xs _ mX10_done 231 [(0, a1), (0, a2), (0, a3)] [(0, 0)] z_LL M _
        exact wp_ret rfl rfl (l39 c1 c3 c6 c9 c12 c15 c16 c17 c20 c21 c24 c26 c29 c32 c35 c38 c39 c40)
      · refine wp_run 2 (pc' := 228) (ls' := [(0, a1), (0, a2), (0, a3)]) (st' := [(0, 1)]) rfl ?_
        refine wp_callv (pc' := 231) (as := [(0, 1)]) (rest := []) (ls1 := [(0, 1)]) rfl rfl rfl rfl rfl rfl ?_
        refine s_X10_truth (by decide) ?_
        show wp xs _ mX10_done 231 [(0, a1), (0, a2), (0, a3)] [(0, 1)] z_LL M _
        exact wp_ret rfl rfl (l40 c1 c3 c6 c9 c12 c15 c16 c17 c20 c21 c24 c26 c29 c32 c35 c38 c39 c40)
  by_cases c41 : a1 = 53
  · refine wp_cast c41 ?_
    refine wp_run 2 (pc' := 216) (ls' := [(0, a1), (0, a2), (0, a3)]) (st' := [(0, a2)]) rfl ?_
    refine wp_if1 rfl rfl rfl (fun (c42 : a2 ≠ 0) => ?_) (fun (c42 : ¬ (a2 ≠ 0)) => ?_)
    · refine wp_run 2 (pc' := 228) (ls' := [(0, a1), (0, a2), (0, a3)]) (st' := [(0, 1)]) rfl ?_
      refine wp_callv (pc' := 231) (as := [(0, 1)]) (rest := []) (ls1 := [(0, 1)]) rfl rfl rfl rfl rfl rfl ?_
      refine s_X10_truth (by decide) ?_
      show wp xs _ mX10_done 231 [(0, a1), (0, a2), (0, a3)] [(0, 1)] z_LL M _
      exact wp_ret rfl rfl (l41 c1 c3 c6 c9 c12 c15 c16 c17 c20 c21 c24 c26 c29 c32 c35 c38 c41 c42)
    · refine wp_run 1 (pc' := 220) (ls' := [(0, a1), (0, a2), (0, a3)]) (st' := [(0, a3)]) rfl ?_
      refine wp_if1 rfl rfl rfl (fun (c43 : a3 = 0) => ?_) (fun (c43 : ¬ (a3 = 0)) => ?_)
      · refine wp_run 1 (pc' := 228) (ls' := [(0, a1), (0, a2), (0, a3)]) (st' := [(0, 0)]) rfl ?_
        refine wp_callv (pc' := 231) (as := [(0, 0)]) (rest := []) (ls1 := [(0, 0)]) rfl rfl rfl rfl rfl rfl ?_
        refine s_X10_truth (by decide) ?_
        show wp xs _ mX10_done 231 [(0, a1), (0, a2), (0, a3)] [(0, 0)] z_LL M _
        exact wp_ret rfl rfl (l42 c1 c3 c6 c9 c12 c15 c16 c17 c20 c21 c24 c26 c29 c32 c35 c38 c41 c42 c43)
      · refine wp_run 2 (pc' := 228) (ls' := [(0, a1), (0, a2), (0, a3)]) (st' := [(0, 1)]) rfl ?_
        refine wp_callv (pc' := 231) (as := [(0, 1)]) (rest := []) (ls1 := [(0, 1)]) rfl rfl rfl rfl rfl rfl ?_
        refine s_X10_truth (by decide) ?_
        show wp xs _ mX10_done 231 [(0, a1), (0, a2), (0, a3)] [(0, 1)] z_LL M _
        exact wp_ret rfl rfl (l43 c1 c3 c6 c9 c12 c15 c16 c17 c20 c21 c24 c26 c29 c32 c35 c38 c41 c42 c43)
  by_cases c44 : a1 = 54
  · refine wp_cast c44 ?_
    refine wp_run 2 (pc' := 216) (ls' := [(0, a1), (0, a2), (0, a3)]) (st' := [(0, a2)]) rfl ?_
    refine wp_if1 rfl rfl rfl (fun (c45 : a2 ≠ 0) => ?_) (fun (c45 : ¬ (a2 ≠ 0)) => ?_)
    · refine wp_run 2 (pc' := 228) (ls' := [(0, a1), (0, a2), (0, a3)]) (st' := [(0, 1)]) rfl ?_
      refine wp_callv (pc' := 231) (as := [(0, 1)]) (rest := []) (ls1 := [(0, 1)]) rfl rfl rfl rfl rfl rfl ?_
      refine s_X10_truth (by decide) ?_
      show wp xs _ mX10_done 231 [(0, a1), (0, a2), (0, a3)] [(0, 1)] z_LL M _
      exact wp_ret rfl rfl (l44 c1 c3 c6 c9 c12 c15 c16 c17 c20 c21 c24 c26 c29 c32 c35 c38 c41 c44 c45)
    · refine wp_run 1 (pc' := 220) (ls' := [(0, a1), (0, a2), (0, a3)]) (st' := [(0, a3)]) rfl ?_
      refine wp_if1 rfl rfl rfl (fun (c46 : a3 = 0) => ?_) (fun (c46 : ¬ (a3 = 0)) => ?_)
      · refine wp_run 1 (pc' := 228) (ls' := [(0, a1), (0, a2), (0, a3)]) (st' := [(0, 0)]) rfl ?_
        refine wp_callv (pc' := 231) (as := [(0, 0)]) (rest := []) (ls1 := [(0, 0)]) rfl rfl rfl rfl rfl rfl ?_
        refine s_X10_truth (by decide) ?_
        show wp xs _ mX10_done 231 [(0, a1), (0, a2), (0, a3)] [(0, 0)] z_LL M _
        exact wp_ret rfl rfl (l45 c1 c3 c6 c9 c12 c15 c16 c17 c20 c21 c24 c26 c29 c32 c35 c38 c41 c44 c45 c46)
      · refine wp_run 2 (pc' := 228) (ls' := [(0, a1), (0, a2), (0, a3)]) (st' := [(0, 1)]) rfl ?_
        refine wp_callv (pc' := 231) (as := [(0, 1)]) (rest := []) (ls1 := [(0, 1)]) rfl rfl rfl rfl rfl rfl ?_
        refine s_X10_truth (by decide) ?_
        show wp xs _ mX10_done 231 [(0, a1), (0, a2), (0, a3)] [(0, 1)] z_LL M _
        exact wp_ret rfl rfl (l46 c1 c3 c6 c9 c12 c15 c16 c17 c20 c21 c24 c26 c29 c32 c35 c38 c41 c44 c45 c46)
  by_cases c47 : a1 = 55
  · refine wp_cast c47 ?_
    refine wp_run 2 (pc' := 216) (ls' := [(0, a1), (0, a2), (0, a3)]) (st' := [(0, a2)]) rfl ?_
    refine wp_if1 rfl rfl rfl (fun (c48 : a2 ≠ 0) => ?_) (fun (c48 : ¬ (a2 ≠ 0)) => ?_)
    · refine wp_run 2 (pc' := 228) (ls' := [(0, a1), (0, a2), (0, a3)]) (st' := [(0, 1)]) rfl ?_
      refine wp_callv (pc' := 231) (as := [(0, 1)]) (rest := []) (ls1 := [(0, 1)]) rfl rfl rfl rfl rfl rfl ?_
      refine s_X10_truth (by decide) ?_
      show wp xs _ mX10_done 231 [(0, a1), (0, a2), (0, a3)] [(0, 1)] z_LL M _
      exact wp_ret rfl rfl (l47 c1 c3 c6 c9 c12 c15 c16 c17 c20 c21 c24 c26 c29 c32 c35 c38 c41 c44 c47 c48)
    · refine wp_run 1 (pc' := 220) (ls' := [(0, a1), (0, a2), (0, a3)]) (st' := [(0, a3)]) rfl ?_
      refine wp_if1 rfl rfl rfl (fun (c49 : a3 = 0) => ?_) (fun (c49 : ¬ (a3 = 0)) => ?_)
      · refine wp_run 1 (pc' := 228) (ls' := [(0, a1), (0, a2), (0, a3)]) (st' := [(0, 0)]) rfl ?_
        refine wp_callv (pc' := 231) (as := [(0, 0)]) (rest := []) (ls1 := [(0, 0)]) rfl rfl rfl rfl rfl rfl ?_
        refine s_X10_truth (by decide) ?_
        show wp xs _ mX10_done 231 [(0, a1), (0, a2), (0, a3)] [(0, 0)] z_LL M _
        exact wp_ret rfl rfl (l48 c1 c3 c6 c9 c12 c15 c16 c17 c20 c21 c24 c26 c29 c32 c35 c38 c41 c44 c47 c48 c49)
      · refine wp_run 2 (pc' := 228) (ls' := [(0, a1), (0, a2), (0, a3)]) (st' := [(0, 1)]) rfl ?_
        refine wp_callv (pc' := 231) (as := [(0, 1)]) (rest := []) (ls1 := [(0, 1)]) rfl rfl rfl rfl rfl rfl ?_
        refine s_X10_truth (by decide) ?_
        show wp xs _ mX10_done 231 [(0, a1), (0, a2), (0, a3)] [(0, 1)] z_LL M _
        exact wp_ret rfl rfl (l49 c1 c3 c6 c9 c12 c15 c16 c17 c20 c21 c24 c26 c29 c32 c35 c38 c41 c44 c47 c48 c49)
  by_cases c50 : a1 = 56
  · refine wp_cast c50 ?_
    refine wp_run 2 (pc' := 216) (ls' := [(0, a1), (0, a2), (0, a3)]) (st' := [(0, a2)]) rfl ?_
    refine wp_if1 rfl rfl rfl (fun (c51 : a2 ≠ 0) => ?_) (fun (c51 : ¬ (a2 ≠ 0)) => ?_)
    · refine wp_run 2 (pc' := 228) (ls' := [(0, a1), (0, a2), (0, a3)]) (st' := [(0, 1)]) rfl ?_
      refine wp_callv (pc' := 231) (as := [(0, 1)]) (rest := []) (ls1 := [(0, 1)]) rfl rfl rfl rfl rfl rfl ?_
      refine s_X10_truth (by decide) ?_
      show wp xs _ mX10_done 231 [(0, a1), (0, a2), (0, a3)] [(0, 1)] z_LL M _
      exact wp_ret rfl rfl (l50 c1 c3 c6 c9 c12 c15 c16 c17 c20 c21 c24 c26 c29 c32 c35 c38 c41 c44 c47 c50 c51)
    · refine wp_run 1 (pc' := 220) (ls' := [(0, a1), (0, a2), (0, a3)]) (st' := [(0, a3)]) rfl ?_
      refine wp_if1 rfl rfl rfl (fun (c52 : a3 = 0) => ?_) (fun (c52 : ¬ (a3 = 0)) => ?_)
      · refine wp_run 1 (pc' := 228) (ls' := [(0, a1), (0, a2), (0, a3)]) (st' := [(0, 0)]) rfl ?_
        refine wp_callv (pc' := 231) (as := [(0, 0)]) (rest := []) (ls1 := [(0, 0)]) rfl rfl rfl rfl rfl rfl ?_
        refine s_X10_truth (by decide) ?_
        show wp xs _ mX10_done 231 [(0, a1), (0, a2), (0, a3)] [(0, 0)] z_LL M _
        exact wp_ret rfl rfl (l51 c1 c3 c6 c9 c12 c15 c16 c17 c20 c21 c24 c26 c29 c32 c35 c38 c41 c44 c47 c50 c51 c52)
      · refine wp_run 2 (pc' := 228) (ls' := [(0, a1), (0, a2), (0, a3)]) (st' := [(0, 1)]) rfl ?_
        refine wp_callv (pc' := 231) (as := [(0, 1)]) (rest := []) (ls1 := [(0, 1)]) rfl rfl rfl rfl rfl rfl ?_
        refine s_X10_truth (by decide) ?_
        show wp xs _ mX10_done 231 [(0, a1), (0, a2), (0, a3)] [(0, 1)] z_LL M _
        exact wp_ret rfl rfl (l52 c1 c3 c6 c9 c12 c15 c16 c17 c20 c21 c24 c26 c29 c32 c35 c38 c41 c44 c47 c50 c51 c52)
  by_cases c53 : a1 = 57
  · refine wp_cast c53 ?_
    refine wp_run 2 (pc' := 216) (ls' := [(0, a1), (0, a2), (0, a3)]) (st' := [(0, a2)]) rfl ?_
    refine wp_if1 rfl rfl rfl (fun (c54 : a2 ≠ 0) => ?_) (fun (c54 : ¬ (a2 ≠ 0)) => ?_)
    · refine wp_run 2 (pc' := 228) (ls' := [(0, a1), (0, a2), (0, a3)]) (st' := [(0, 1)]) rfl ?_
      refine wp_callv (pc' := 231) (as := [(0, 1)]) (rest := []) (ls1 := [(0, 1)]) rfl rfl rfl rfl rfl rfl ?_
      refine s_X10_truth (by decide) ?_
      show wp xs _ mX10_done 231 [(0, a1), (0, a2), (0, a3)] [(0, 1)] z_LL M _
      exact wp_ret rfl rfl (l53 c1 c3 c6 c9 c12 c15 c16 c17 c20 c21 c24 c26 c29 c32 c35 c38 c41 c44 c47 c50 c53 c54)
    · refine wp_run 1 (pc' := 220) (ls' := [(0, a1), (0, a2), (0, a3)]) (st' := [(0, a3)]) rfl ?_
      refine wp_if1 rfl rfl rfl (fun (c55 : a3 = 0) => ?_) (fun (c55 : ¬ (a3 = 0)) => ?_)
      · refine wp_run 1 (pc' := 228) (ls' := [(0, a1), (0, a2), (0, a3)]) (st' := [(0, 0)]) rfl ?_
        refine wp_callv (pc' := 231) (as := [(0, 0)]) (rest := []) (ls1 := [(0, 0)]) rfl rfl rfl rfl rfl rfl ?_
        refine s_X10_truth (by decide) ?_
        show wp xs _ mX10_done 231 [(0, a1), (0, a2), (0, a3)] [(0, 0)] z_LL M _
        exact wp_ret rfl rfl (l54 c1 c3 c6 c9 c12 c15 c16 c17 c20 c21 c24 c26 c29 c32 c35 c38 c41 c44 c47 c50 c53 c54 c55)
      · refine wp_run 2 (pc' := 228) (ls' := [(0, a1), (0, a2), (0, a3)]) (st' := [(0, 1)]) rfl ?_
        refine wp_callv (pc' := 231) (as := [(0, 1)]) (rest := []) (ls1 := [(0, 1)]) rfl rfl rfl rfl rfl rfl ?_
        refine s_X10_truth (by decide) ?_
        show wp xs _ mX10_done 231 [(0, a1), (0, a2), (0, a3)] [(0, 1)] z_LL M _
        exact wp_ret rfl rfl (l55 c1 c3 c6 c9 c12 c15 c16 c17 c20 c21 c24 c26 c29 c32 c35 c38 c41 c44 c47 c50 c53 c54 c55)
  by_cases c56 : a1 = 58
  · refine wp_cast c56 ?_
    refine wp_run 2 (pc' := 216) (ls' := [(0, a1), (0, a2), (0, a3)]) (st' := [(0, a2)]) rfl ?_
    refine wp_if1 rfl rfl rfl (fun (c57 : a2 ≠ 0) => ?_) (fun (c57 : ¬ (a2 ≠ 0)) => ?_)
    · refine wp_run 2 (pc' := 228) (ls' := [(0, a1), (0, a2), (0, a3)]) (st' := [(0, 1)]) rfl ?_
      refine wp_callv (pc' := 231) (as := [(0, 1)]) (rest := []) (ls1 := [(0, 1)]) rfl rfl rfl rfl rfl rfl ?_
      refine s_X10_truth (by decide) ?_
      show wp xs _ mX10_done 231 [(0, a1), (0, a2), (0, a3)] [(0, 1)] z_LL M _
      exact wp_ret rfl rfl (l56 c1 c3 c6 c9 c12 c15 c16 c17 c20 c21 c24 c26 c29 c32 c35 c38 c41 c44 c47 c50 c53 c56 c57)
    · refine wp_run 1 (pc' := 220) (ls' := [(0, a1), (0, a2), (0, a3)]) (st' := [(0, a3)]) rfl ?_
      refine wp_if1 rfl rfl rfl (fun (c58 : a3 = 0) => ?_) (fun (c58 : ¬ (a3 = 0)) => ?_)
      · refine wp_run 1 (pc' := 228) (ls' := [(0, a1), (0, a2), (0, a3)]) (st' := [(0, 0)]) rfl ?_
        refine wp_callv (pc' := 231) (as := [(0, 0)]) (rest := []) (ls1 := [(0, 0)]) rfl rfl rfl rfl rfl rfl ?_
        refine s_X10_truth (by decide) ?_
        show wp xs _ mX10_done 231 [(0, a1), (0, a2), (0, a3)] [(0, 0)] z_LL M _
        exact wp_ret rfl rfl (l57 c1 c3 c6 c9 c12 c15 c16 c17 c20 c21 c24 c26 c29 c32 c35 c38 c41 c44 c47 c50 c53 c56 c57 c58)
      · refine wp_run 2 (pc' := 228) (ls' := [(0, a1), (0, a2), (0, a3)]) (st' := [(0, 1)]) rfl ?_
        refine wp_callv (pc' := 231) (as := [(0, 1)]) (rest := []) (ls1 := [(0, 1)]) rfl rfl rfl rfl rfl rfl ?_
        refine s_X10_truth (by decide) ?_
        show wp xs _ mX10_done 231 [(0, a1), (0, a2), (0, a3)] [(0, 1)] z_LL M _
        exact wp_ret rfl rfl (l58 c1 c3 c6 c9 c12 c15 c16 c17 c20 c21 c24 c26 c29 c32 c35 c38 c41 c44 c47 c50 c53 c56 c57 c58)
  by_cases c59 : a1 = 59
  · refine wp_cast c59 ?_
    refine wp_run 2 (pc' := 216) (ls' := [(0, a1), (0, a2), (0, a3)]) (st' := [(0, a2)]) rfl ?_
    refine wp_if1 rfl rfl rfl (fun (c60 : a2 ≠ 0) => ?_) (fun (c60 : ¬ (a2 ≠ 0)) => ?_)
    · refine wp_run 2 (pc' := 228) (ls' := [(0, a1), (0, a2), (0, a3)]) (st' := [(0, 1)]) rfl ?_
      refine wp_callv (pc' := 231) (as := [(0, 1)]) (rest := []) (ls1 := [(0, 1)]) rfl rfl rfl rfl rfl rfl ?_
      refine s_X10_truth (by decide) ?_
      show wp xs _ mX10_done 231 [(0, a1), (0, a2), (0, a3)] [(0, 1)] z_LL M _
      exact wp_ret rfl rfl (l59 c1 c3 c6 c9 c12 c15 c16 c17 c20 c21 c24 c26 c29 c32 c35 c38 c41 c44 c47 c50 c53 c56 c59 c60)
    · refine wp_run 1 (pc' := 220) (ls' := [(0, a1), (0, a2), (0, a3)]) (st' := [(0, a3)]) rfl ?_
      refine wp_if1 rfl rfl rfl (fun (c61 : a3 = 0) => ?_) (fun (c61 : ¬ (a3 = 0)) => ?_)
      · refine wp_run 1 (pc' := 228) (ls' := [(0, a1), (0, a2), (0, a3)]) (st' := [(0, 0)]) rfl ?_
        refine wp_callv (pc' := 231) (as := [(0, 0)]) (rest := []) (ls1 := [(0, 0)]) rfl rfl rfl rfl rfl rfl ?_
        refine s_X10_truth (by decide) ?_
        show wp xs _ mX10_done 231 [(0, a1), (0, a2), (0, a3)] [(0, 0)] z_LL M _
        exact wp_ret rfl rfl (l60 c1 c3 c6 c9 c12 c15 c16 c17 c20 c21 c24 c26 c29 c32 c35 c38 c41 c44 c47 c50 c53 c56 c59 c60 c61)
      · refine wp_run 2 (pc' := 228) (ls' := [(0, a1), (0, a2), (0, a3)]) (st' := [(0, 1)]) rfl ?_
        refine wp_callv (pc' := 231) (as := [(0, 1)]) (rest := []) (ls1 := [(0, 1)]) rfl rfl rfl rfl rfl rfl ?_
        refine s_X10_truth (by decide) ?_
        show wp xs _ mX10_done 231 [(0, a1), (0, a2), (0, a3)] [(0, 1)] z_LL M _
        exact wp_ret rfl rfl (l61 c1 c3 c6 c9 c12 c15 c16 c17 c20 c21 c24 c26 c29 c32 c35 c38 c41 c44 c47 c50 c53 c56 c59 c60 c61)
  by_cases c62 : a1 = 60
  · refine wp_cast c62 ?_
    refine wp_run 3 (pc' := 158) (ls' := [(0, a1), (0, a2), (0, a3)]) (st' := [(0, a3), (0, a2)]) rfl ?_
    refine wp_if2 rfl rfl rfl (fun (c63 : a3 ≤ a2) => ?_) (fun (c63 : ¬ (a3 ≤ a2)) => ?_)
    · refine wp_run 1 (pc' := 166) (ls' := [(0, a1), (0, a2), (0, a3)]) (st' := [(0, 0)]) rfl ?_
      refine wp_callv (pc' := 169) (as := [(0, 0)]) (rest := []) (ls1 := [(0, 0)]) rfl rfl rfl rfl rfl rfl ?_
      refine s_X10_truth (by decide) ?_
      show wp xs _ mX10_done 169 [(0, a1), (0, a2), (0, a3)] [(0, 0)] z_LL M _
      exact wp_ret rfl rfl (l62 c1 c3 c6 c9 c12 c15 c16 c17 c20 c21 c24 c26 c29 c32 c35 c38 c41 c44 c47 c50 c53 c56 c59 c62 c63)
    · refine wp_run 2 (pc' := 166) (ls' := [(0, a1), (0, a2), (0, a3)]) (st' := [(0, 1)]) rfl ?_
      refine wp_callv (pc' := 169) (as := [(0, 1)]) (rest := []) (ls1 := [(0, 1)]) rfl rfl rfl rfl rfl rfl ?_
      refine s_X10_truth (by decide) ?_
      show wp xs _ mX10_done 169 [(0, a1), (0, a2), (0, a3)] [(0, 1)] z_LL M _
      exact wp_ret rfl rfl (l63 c1 c3 c6 c9 c12 c15 c16 c17 c20 c21 c24 c26 c29 c32 c35 c38 c41 c44 c47 c50 c53 c56 c59 c62 c63)
  by_cases c64 : a1 = 61
  · refine wp_cast c64 ?_
    refine wp_run 3 (pc' := 186) (ls' := [(0, a1), (0, a2), (0, a3)]) (st' := [(0, a3), (0, a2)]) rfl ?_
    refine wp_if2 rfl rfl rfl (fun (c65 : a2 ≠ a3) => ?_) (fun (c65 : ¬ (a2 ≠ a3)) => ?_)
    · refine wp_run 1 (pc' := 194) (ls' := [(0, a1), (0, a2), (0, a3)]) (st' := [(0, 0)]) rfl ?_
      refine wp_callv (pc' := 197) (as := [(0, 0)]) (rest := []) (ls1 := [(0, 0)]) rfl rfl rfl rfl rfl rfl ?_
      refine s_X10_truth (by decide) ?_
      show wp xs _ mX10_done 197 [(0, a1), (0, a2), (0, a3)] [(0, 0)] z_LL M _
      exact wp_ret rfl rfl (l64 c1 c3 c6 c9 c12 c15 c16 c17 c20 c21 c24 c26 c29 c32 c35 c38 c41 c44 c47 c50 c53 c56 c59 c62 c64 c65)
    · refine wp_run 2 (pc' := 194) (ls' := [(0, a1), (0, a2), (0, a3)]) (st' := [(0, 1)]) rfl ?_
      refine wp_callv (pc' := 197) (as := [(0, 1)]) (rest := []) (ls1 := [(0, 1)]) rfl rfl rfl rfl rfl rfl ?_
      refine s_X10_truth (by decide) ?_
      show wp xs _ mX10_done 197 [(0, a1), (0, a2), (0, a3)] [(0, 1)] z_LL M _
      exact wp_ret rfl rfl (l65 c1 c3 c6 c9 c12 c15 c16 c17 c20 c21 c24 c26 c29 c32 c35 c38 c41 c44 c47 c50 c53 c56 c59 c62 c64 c65)
  by_cases c66 : a1 = 62
  · refine wp_cast c66 ?_
    refine wp_run 3 (pc' := 172) (ls' := [(0, a1), (0, a2), (0, a3)]) (st' := [(0, a3), (0, a2)]) rfl ?_
    refine wp_if2 rfl rfl rfl (fun (c67 : a2 ≤ a3) => ?_) (fun (c67 : ¬ (a2 ≤ a3)) => ?_)
    · refine wp_run 1 (pc' := 180) (ls' := [(0, a1), (0, a2), (0, a3)]) (st' := [(0, 0)]) rfl ?_
      refine wp_callv (pc' := 183) (as := [(0, 0)]) (rest := []) (ls1 := [(0, 0)]) rfl rfl rfl rfl rfl rfl ?_
      refine s_X10_truth (by decide) ?_
      show wp xs _ mX10_done 183 [(0, a1), (0, a2), (0, a3)] [(0, 0)] z_LL M _
      exact wp_ret rfl rfl (l66 c1 c3 c6 c9 c12 c15 c16 c17 c20 c21 c24 c26 c29 c32 c35 c38 c41 c44 c47 c50 c53 c56 c59 c62 c64 c66 c67)
    · refine wp_run 2 (pc' := 180) (ls' := [(0, a1), (0, a2), (0, a3)]) (st' := [(0, 1)]) rfl ?_
      refine wp_callv (pc' := 183) (as := [(0, 1)]) (rest := []) (ls1 := [(0, 1)]) rfl rfl rfl rfl rfl rfl ?_
      refine s_X10_truth (by decide) ?_
      show wp xs _ mX10_done 183 [(0, a1), (0, a2), (0, a3)] [(0, 1)] z_LL M _
      exact wp_ret rfl rfl (l67 c1 c3 c6 c9 c12 c15 c16 c17 c20 c21 c24 c26 c29 c32 c35 c38 c41 c44 c47 c50 c53 c56 c59 c62 c64 c66 c67)
  refine wp_swd rfl rfl (by omega) ?_
  refine wp_run 1 (pc' := 216) (ls' := [(0, a1), (0, a2), (0, a3)]) (st' := [(0, a2)]) rfl ?_
  refine wp_if1 rfl rfl rfl (fun (c68 : a2 ≠ 0) => ?_) (fun (c68 : ¬ (a2 ≠ 0)) => ?_)
  · refine wp_run 2 (pc' := 228) (ls' := [(0, a1), (0, a2), (0, a3)]) (st' := [(0, 1)]) rfl ?_
    refine wp_callv (pc' := 231) (as := [(0, 1)]) (rest := []) (ls1 := [(0, 1)]) rfl rfl rfl rfl rfl rfl ?_
    refine s_X10_truth (by decide) ?_
    show wp xs _ mX10_done 231 [(0, a1), (0, a2), (0, a3)] [(0, 1)] z_LL M _
    exact wp_ret rfl rfl (l68 c1 c3 c6 c9 c12 c15 c16 c17 c20 c21 c24 c26 c29 c32 c35 c38 c41 c44 c47 c50 c53 c56 c59 c62 c64 c66 c68)
  · refine wp_run 1 (pc' := 220) (ls' := [(0, a1), (0, a2), (0, a3)]) (st' := [(0, a3)]) rfl ?_
    refine wp_if1 rfl rfl rfl (fun (c69 : a3 = 0) => ?_) (fun (c69 : ¬ (a3 = 0)) => ?_)
    · refine wp_run 1 (pc' := 228) (ls' := [(0, a1), (0, a2), (0, a3)]) (st' := [(0, 0)]) rfl ?_
      refine wp_callv (pc' := 231) (as := [(0, 0)]) (rest := []) (ls1 := [(0, 0)]) rfl rfl rfl rfl rfl rfl ?_
      refine s_X10_truth (by decide) ?_
      show wp xs _ mX10_done 231 [(0, a1), (0, a2), (0, a3)] [(0, 0)] z_LL M _
      exact wp_ret rfl rfl (l69 c1 c3 c6 c9 c12 c15 c16 c17 c20 c21 c24 c26 c29 c32 c35 c38 c41 c44 c47 c50 c53 c56 c59 c62 c64 c66 c68 c69)
    · refine wp_run 2 (pc' := 228) (ls' := [(0, a1), (0, a2), (0, a3)]) (st' := [(0, 1)]) rfl ?_
      refine wp_callv (pc' := 231) (as := [(0, 1)]) (rest := []) (ls1 := [(0, 1)]) rfl rfl rfl rfl rfl rfl ?_
      refine s_X10_truth (by decide) ?_
      show wp xs _ mX10_done 231 [(0, a1), (0, a2), (0, a3)] [(0, 1)] z_LL M _
      exact wp_ret rfl rfl (l70 c1 c3 c6 c9 c12 c15 c16 c17 c20 c21 c24 c26 c29 c32 c35 c38 c41 c44 c47 c50 c53 c56 c59 c62 c64 c66 c68 c69)
set_option maxRecDepth 20000 in
theorem s_X10_done {xs : List Int} {d : Nat} {M : z_M} {P : Option z_V → z_L → z_M → Prop} {s x y : Int} (k : P (some (0, z_op s x y)) z_LL M) : wp xs (d + 1) mX10_done 0 [(0, s), (0, x), (0, y)] [] z_LL M P := by
  unfold z_op at k
  apply gX10_done_0
  all_goals first
    | (intros; assumption)
    | (intros; clear k; contradiction)
    | (intros; simp_all [z_b_true, z_b_false]; done)
    | (intros; subst_vars; simp_all [z_b_true, z_b_false]; done)
    | (intros; subst_vars; simp [*] at k; rw [z_b_t (by omega)] at k; exact k)
    | (intros; subst_vars; simp [*] at k; rw [z_b_f (by omega)] at k; exact k)
