/-! the model's day -/
/-- how many of the first k numbers are so -/
noncomputable def z_cnt (p : Int → Prop) : Nat → Int
  | 0 => 0
  | k + 1 => z_cnt p k + z_b (p k)
theorem z_b_r {p : Prop} : 0 ≤ z_b p ∧ z_b p ≤ 1 := by
  rcases @z_b_01 p with h | h <;> rw [h] <;> omega
theorem z_cnt_b (p : Int → Prop) : ∀ k : Nat, 0 ≤ z_cnt p k ∧ z_cnt p k ≤ k
  | 0 => by unfold z_cnt; omega
  | k + 1 => by
    have := z_cnt_b p k
    have := @z_b_r (p k)
    unfold z_cnt
    omega
theorem z_cnt_0 {p : Int → Prop} {k : Nat} (h : ¬ p k) : z_cnt p (k + 1) = z_cnt p k := by
  show z_cnt p k + z_b (p k) = _
  rw [z_b_f h]
  omega
theorem z_cnt_1 {p : Int → Prop} {k : Nat} (h : p k) : z_cnt p (k + 1) = z_cnt p k + 1 := by
  show z_cnt p k + z_b (p k) = _
  rw [z_b_t h]
theorem z_down {W : Nat → Prop} (n : Nat) (hn : W n) (hs : ∀ i, i < n → W (i + 1) → W i) : ∀ i, i ≤ n → W i := by
  intro i hi
  obtain ⟨j, rfl⟩ : ∃ j, n = i + j := ⟨n - i, by omega⟩
  clear hi
  induction j generalizing i with
  | zero => exact hn
  | succ j ih => exact hs i (by omega) (ih (i + 1) (by rw [show i + 1 + j = i + (j + 1) by omega]; exact hn) (fun a ha => hs a (by omega)))
set_option maxRecDepth 20000 in
theorem gX10_othersIn_0 {xs : List Int} {d : Nat} {M : z_M} {P : Option z_V → z_L → z_M → Prop} {a1 : Int} {a2 : Int} 
    (l1 : wp xs d mX10_othersIn 5 [(2, 321), (0, a1), (0, a2), (0, 0), (0, 0)] [] z_LL M P) :
    wp xs d mX10_othersIn 0 [(2, 321), (0, a1), (0, a2), (3, 0), (3, 0)] [] z_LL M P := by
  refine wp_run 4 (pc' := 5) (ls' := [(2, 321), (0, a1), (0, a2), (0, 0), (0, 0)]) (st' := []) rfl ?_
  exact l1
set_option maxRecDepth 20000 in
theorem gX10_othersIn_5 {xs : List Int} {d : Nat} {M : z_M} {P : Option z_V → z_L → z_M → Prop} {x1 : Int} {x2 : Int} {x3 : Int} {x4 : Int} (hF : z_fix M) 
    (l1 : ((M 321 48) ≤ x4) → P (some (0, x3)) z_LL M)
    (l2 : (¬ ((M 321 48) ≤ x4)) → (x4 = x1) → wp xs (d + 1) mX10_othersIn 5 [(2, 321), (0, x1), (0, x2), (0, (z_w (x3 + 0))), (0, (z_w (x4 + 1)))] [] z_LL M P)
    (b1 : (¬ ((M 321 48) ≤ x4)) → (¬ (x4 = x1)) → 0 ≤ x4 ∧ x4 < 106)
    (l3 : (¬ ((M 321 48) ≤ x4)) → (¬ (x4 = x1)) → ((M 343 x4) ≠ x2) → wp xs (d + 1) mX10_othersIn 5 [(2, 321), (0, x1), (0, x2), (0, (z_w (x3 + 0))), (0, (z_w (x4 + 1)))] [] z_LL M P)
    (l4 : (¬ ((M 321 48) ≤ x4)) → (¬ (x4 = x1)) → (¬ ((M 343 x4) ≠ x2)) → wp xs (d + 1) mX10_othersIn 5 [(2, 321), (0, x1), (0, x2), (0, (z_w (x3 + 1))), (0, (z_w (x4 + 1)))] [] z_LL M P) :
    wp xs (d + 1) mX10_othersIn 5 [(2, 321), (0, x1), (0, x2), (0, x3), (0, x4)] [] z_LL M P := by
  refine wp_run 2 (pc' := 8) (ls' := [(2, 321), (0, x1), (0, x2), (0, x3), (0, x4)]) (st' := [(2, 321), (0, x4)]) rfl ?_
  refine wp_gf (pc' := 11) (t := 0) (v := (M 321 48)) rfl rfl (by decide) rfl rfl rfl ?_
  refine wp_if2 rfl rfl rfl (fun (c1 : (M 321 48) ≤ x4) => ?_) (fun (c1 : ¬ ((M 321 48) ≤ x4)) => ?_)
  · refine wp_run 1 (pc' := 49) (ls' := [(2, 321), (0, x1), (0, x2), (0, x3), (0, x4)]) (st' := [(0, x3)]) rfl ?_
    exact wp_ret rfl rfl (l1 c1)
  · refine wp_run 3 (pc' := 18) (ls' := [(2, 321), (0, x1), (0, x2), (0, x3), (0, x4)]) (st' := [(0, x1), (0, x4), (0, x3)]) rfl ?_
    refine wp_if2 rfl rfl rfl (fun (c2 : x4 = x1) => ?_) (fun (c2 : ¬ (x4 = x1)) => ?_)
    · refine wp_run 1 (pc' := 37) (ls' := [(2, 321), (0, x1), (0, x2), (0, x3), (0, x4)]) (st' := [(0, 0), (0, x3)]) rfl ?_
      refine wp_callv (pc' := 40) (as := [(0, 0)]) (rest := [(0, x3)]) (ls1 := [(0, 0)]) rfl rfl rfl rfl rfl rfl ?_
      refine s_X10_truth (by decide) ?_
      show wp xs _ mX10_othersIn 40 [(2, 321), (0, x1), (0, x2), (0, x3), (0, x4)] [(0, 0), (0, x3)] z_LL M _
      refine wp_run 4 (pc' := 5) (ls' := [(2, 321), (0, x1), (0, x2), (0, (z_w (x3 + 0))), (0, (z_w (x4 + 1)))]) (st' := []) rfl ?_
      exact l2 c1 c2
    · refine wp_run 1 (pc' := 22) (ls' := [(2, 321), (0, x1), (0, x2), (0, x3), (0, x4)]) (st' := [(2, 321), (0, x3)]) rfl ?_
      refine wp_gf (pc' := 25) (t := 2) (v := 343) rfl rfl (by decide) rfl rfl (fx_321_61 hF) ?_
      refine wp_run 1 (pc' := 27) (ls' := [(2, 321), (0, x1), (0, x2), (0, x3), (0, x4)]) (st' := [(0, x4), (2, 343), (0, x3)]) rfl ?_
      refine wp_iald (pc' := 28) (v := (M 343 x4)) rfl rfl rfl (b1 c1 c2) rfl ?_
      refine wp_run 1 (pc' := 29) (ls' := [(2, 321), (0, x1), (0, x2), (0, x3), (0, x4)]) (st' := [(0, x2), (0, (M 343 x4)), (0, x3)]) rfl ?_
      refine wp_if2 rfl rfl rfl (fun (c3 : (M 343 x4) ≠ x2) => ?_) (fun (c3 : ¬ ((M 343 x4) ≠ x2)) => ?_)
      · refine wp_run 1 (pc' := 37) (ls' := [(2, 321), (0, x1), (0, x2), (0, x3), (0, x4)]) (st' := [(0, 0), (0, x3)]) rfl ?_
        refine wp_callv (pc' := 40) (as := [(0, 0)]) (rest := [(0, x3)]) (ls1 := [(0, 0)]) rfl rfl rfl rfl rfl rfl ?_
        refine s_X10_truth (by decide) ?_
        show wp xs _ mX10_othersIn 40 [(2, 321), (0, x1), (0, x2), (0, x3), (0, x4)] [(0, 0), (0, x3)] z_LL M _
        refine wp_run 4 (pc' := 5) (ls' := [(2, 321), (0, x1), (0, x2), (0, (z_w (x3 + 0))), (0, (z_w (x4 + 1)))]) (st' := []) rfl ?_
        exact l3 c1 c2 c3
      · refine wp_run 2 (pc' := 37) (ls' := [(2, 321), (0, x1), (0, x2), (0, x3), (0, x4)]) (st' := [(0, 1), (0, x3)]) rfl ?_
        refine wp_callv (pc' := 40) (as := [(0, 1)]) (rest := [(0, x3)]) (ls1 := [(0, 1)]) rfl rfl rfl rfl rfl rfl ?_
        refine s_X10_truth (by decide) ?_
        show wp xs _ mX10_othersIn 40 [(2, 321), (0, x1), (0, x2), (0, x3), (0, x4)] [(0, 1), (0, x3)] z_LL M _
        refine wp_run 4 (pc' := 5) (ls' := [(2, 321), (0, x1), (0, x2), (0, (z_w (x3 + 1))), (0, (z_w (x4 + 1)))]) (st' := []) rfl ?_
        exact l4 c1 c2 c3
noncomputable def z_oth (M : z_M) (f c : Int) : Int := z_cnt (fun g => g ≠ f ∧ M 343 g = c) (M 321 48).toNat
theorem s_X10_othersIn {xs : List Int} {d : Nat} {M : z_M} {P : Option z_V → z_L → z_M → Prop} {f c : Int} (hF : z_fix M) (hC : z_mc M) (k : P (some (0, z_oth M f c)) z_LL M) : wp xs (d + 1) mX10_othersIn 0 [(2, 321), (0, f), (0, c), (3, 0), (3, 0)] [] z_LL M P := by
  have hn := hC.2.2.1
  refine gX10_othersIn_0 ?_
  obtain ⟨n, hne⟩ : ∃ n : Nat, M 321 48 = (n : Int) := ⟨(M 321 48).toNat, by omega⟩
  have key := z_down (W := fun i => ∀ x3 : Int, x3 = z_cnt (fun g => g ≠ f ∧ M 343 g = c) i → wp xs (d + 1) mX10_othersIn 5 [(2, 321), (0, f), (0, c), (0, x3), (0, (i : Int))] [] z_LL M P) n ?_ ?_ 0 (Nat.zero_le _)
  · exact key 0 rfl
  · intro x3 h3
    refine gX10_othersIn_5 (x1 := f) (x2 := c) (x3 := x3) (x4 := (n : Int)) hF (fun _ => ?_) (fun h => by omega) (fun h => by omega) (fun h => by omega) (fun h => by omega)
    rw [h3]
    unfold z_oth at k
    rw [hne] at k
    exact k
  · intro i hi ih x3 h3
    have hb := z_cnt_b (fun g => g ≠ f ∧ M 343 g = c) i
    have e1 : z_w ((i : Int) + 1) = ((i + 1 : Nat) : Int) := by rw [z_wid (by omega)]; omega
    refine gX10_othersIn_5 (x1 := f) (x2 := c) (x3 := x3) (x4 := (i : Int)) hF (fun h => by omega) (fun _ h => ?_) (fun _ _ => by omega) (fun _ h2 h => ?_) (fun _ h2 h => ?_)
    · rw [e1, z_wid (x := x3 + 0) (by omega)]
      refine ih _ ?_
      rw [h3, z_cnt_0 (fun q => q.1 h)]
      omega
    · rw [e1, z_wid (x := x3 + 0) (by omega)]
      refine ih _ ?_
      rw [h3, z_cnt_0 (fun q => h q.2)]
      omega
    · rw [e1, z_wid (x := x3 + 1) (by omega)]
      refine ih _ ?_
      rw [h3, z_cnt_1 ⟨h2, Classical.byContradiction h⟩]
