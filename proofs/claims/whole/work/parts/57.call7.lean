/-! THE CALLS: undo, redo, image, back -/
section
variable {xs : List Int} {d : Nat} {M : z_M}
theorem z_swap_R {M' : z_M} {j : Int} (hR : z_R M) (hj : 0 ≤ j ∧ j < M 321 64 + M 321 65) (f : ∀ q, q ≠ 1 → q ≠ 47 → q ≠ 48 → q ≠ 321 → q ≠ 342 → q ≠ 345 → M' q = M q) (f1 : ∀ k, k ≠ 2 → M' 1 k = M 1 k) (e12 : M' 1 2 = M 48 j) (f48 : ∀ i, i ≠ j → M' 48 i = M 48 i) (e48 : M' 48 j = M 1 2) (f47 : M' 47 0 = M 47 0) (f321 : ∀ k, k ≠ 64 → k ≠ 65 → M' 321 k = M 321 k) (e47 : M' 47 1 = M' 321 64 ∧ M' 47 2 = M' 321 65) (hA : 0 ≤ M' 321 64 ∧ 0 ≤ M' 321 65 ∧ M' 321 64 + M' 321 65 = M 321 64 + M 321 65) (v1 : ∀ k : Int, 0 ≤ k → k < 106 → M' 342 k = M 345 (106 * j + k)) (v2 : ∀ k : Int, ¬ (0 ≤ k ∧ k < 106) → M' 342 k = M 342 k) (v3 : ∀ k : Int, 0 ≤ k → k < 106 → M' 345 (106 * j + k) = M 342 k) (v4 : ∀ k : Int, ¬ (106 * j ≤ k ∧ k < 106 * j + 106) → M' 345 k = M 345 k) : z_R M' := by
  have c : z_cfe M M' := ⟨fun k hk => f321 k (by omega) (by omega), f _ (by omega) (by omega) (by omega) (by omega) (by omega) (by omega), f _ (by omega) (by omega) (by omega) (by omega) (by omega) (by omega), f _ (by omega) (by omega) (by omega) (by omega) (by omega) (by omega), f _ (by omega) (by omega) (by omega) (by omega) (by omega) (by omega), f _ (by omega) (by omega) (by omega) (by omega) (by omega) (by omega), f _ (by omega) (by omega) (by omega) (by omega) (by omega) (by omega), f _ (by omega) (by omega) (by omega) (by omega) (by omega) (by omega)⟩
  have C' := z_mc_x c (z_R_C hR)
  have F : z_fix M' := z_fix_gen (z_R_F hR) (fun q i hq => by
    by_cases w1 : q = 1
    · rw [w1] at hq ⊢
      exact f1 i (by unfold z_fin at hq; omega)
    · by_cases w2 : q = 47
      · rw [w2] at hq ⊢
        rw [show i = 0 by unfold z_fin at hq; omega, f47]
      · by_cases w3 : q = 321
        · rw [w3] at hq ⊢
          exact f321 i (by unfold z_fin at hq; omega) (by unfold z_fin at hq; omega)
        · rw [f q w1 w2 (by unfold z_fin at hq; omega) w3 (by unfold z_fin at hq; omega) (by unfold z_fin at hq; omega)])
  obtain ⟨p1, p2, p3, p4, p5⟩ := z_R_Rp hR
  have fh : ∀ h, z_hk h → ∀ q, h ≤ q → q ≤ h + 5 → M' q = M q := fun h hh q a b => by
    have := z_hk_b hh
    exact f q (by omega) (by omega) (by omega) (by omega) (by omega) (by omega)
  have pj := p1 j hj.1 (by omega)
  refine z_R_mk c hR F (z_Rg_q (z_R_Rg hR) c ⟨f1 0 (by decide), f1 1 (by decide)⟩ (by rw [f 34 (by omega) (by omega) (by omega) (by omega) (by omega) (by omega)]) (f321 49 (by omega) (by omega)) (fun q a b => f q (by omega) (by omega) (by omega) (by omega) (by omega) (by omega))) ⟨?_, ?_, ?_⟩ ⟨?_, ?_, ?_, ?_, ?_⟩ (z_Rb_q (z_R_Rb hR) c (f1 12 (by decide)) (f _ (by omega) (by omega) (by omega) (by omega) (by omega) (by omega)) (f _ (by omega) (by omega) (by omega) (by omega) (by omega) (by omega)) (fun q a b => f q (by omega) (by omega) (by omega) (by omega) (by omega) (by omega))) (z_Rs_q (z_R_Rs hR) c ⟨f321 _ (by omega) (by omega), f321 _ (by omega) (by omega)⟩ (fun q a => f q (by omega) (by omega) (by omega) (by omega) (by omega) (by omega))) (z_Rl_q (z_R_Rl hR) (f1 13 (by decide)) (f321 _ (by omega) (by omega)) (f _ (by omega) (by omega) (by omega) (by omega) (by omega) (by omega)) (f _ (by omega) (by omega) (by omega) (by omega) (by omega) (by omega))) (z_Rt_q (z_R_Rt hR) (by rw [f 30 (by omega) (by omega) (by omega) (by omega) (by omega) (by omega)]) (by rw [f 33 (by omega) (by omega) (by omega) (by omega) (by omega) (by omega)]; exact ⟨rfl, rfl⟩) ⟨f321 _ (by omega) (by omega), f321 _ (by omega) (by omega), f321 _ (by omega) (by omega)⟩ (f _ (by omega) (by omega) (by omega) (by omega) (by omega) (by omega)) (f _ (by omega) (by omega) (by omega) (by omega) (by omega) (by omega)) (f _ (by omega) (by omega) (by omega) (by omega) (by omega) (by omega))) (fun k hk => ⟨?_, ?_⟩)
  · rw [e12]
    exact pj.1
  · rw [e12]
    exact z_hrd_e v1 C' (z_hrd_x c (fh _ pj.1) (p5 j hj.1 hj.2).1)
  · exact z_sn_e v1 C' (z_sn_x c (p5 j hj.1 hj.2).2)
  · intro i a b
    rw [e12]
    by_cases e : i = j
    · rw [e, e48]
      exact ⟨z_R_k hR, z_fix_her F (z_hk_ish (z_R_k hR)).1, fun w => pj.2.2 w.symm⟩
    · rw [f48 i e]
      have pi := p1 i a b
      refine ⟨pi.1, z_fix_her F (z_hk_ish pi.1).1, fun w => ?_⟩
      by_cases l : i < j
      · exact p2 i j a l (by omega) w
      · exact p2 j i hj.1 (by omega) b w.symm
  · intro i i2 a b b2
    by_cases e : i = j
    · rw [e, e48, f48 i2 (by omega)]
      exact fun w => (p1 i2 (by omega) b2).2.2 w.symm
    · by_cases e2 : i2 = j
      · rw [e2, e48, f48 i e]
        exact (p1 i a (by omega)).2.2
      · rw [f48 i e, f48 i2 e2]
        exact p2 i i2 a b b2
  · exact e47
  · omega
  · intro i a b
    by_cases e : i = j
    · rw [e, e48]
      exact ⟨z_hrd_e v3 C' (z_hrd_x c (fh _ (z_R_k hR)) (z_R_H hR)), z_sn_e v3 C' (z_sn_x c (z_R_S hR))⟩
    · rw [f48 i e]
      have pi := p1 i a (by omega)
      have ex : ∀ k : Int, 0 ≤ k → k < 106 → (fun k => M' 345 (106 * i + k)) k = (fun k => M 345 (106 * i + k)) k := fun k a1 b1 => v4 _ (by omega)
      obtain ⟨x, y⟩ := p5 i a (by omega)
      exact ⟨z_hrd_e ex C' (z_hrd_x c (fh _ pi.1) x), z_sn_e ex C' (z_sn_x c y)⟩
  · rw [v2 k hk]
    exact (z_R_Z hR k hk).1
  · rw [f 343 (by omega) (by omega) (by omega) (by omega) (by omega) (by omega)]
    exact (z_R_Z hR k hk).2
set_option maxRecDepth 20000 in
theorem gX10_exchange_0 {xs : List Int} {d : Nat} {M : z_M} {P : Option z_V → z_L → z_M → Prop} {a1 : Int} 
    (l1 : wp xs d mX10_exchange 2 [(2, 321), (0, a1), (0, 0), (3, 0)] [] z_LL M P) :
    wp xs d mX10_exchange 0 [(2, 321), (0, a1), (3, 0), (3, 0)] [] z_LL M P := by
  refine wp_run 2 (pc' := 2) (ls' := [(2, 321), (0, a1), (0, 0), (3, 0)]) (st' := []) rfl ?_
  exact l1
set_option maxRecDepth 20000 in
theorem gX10_exchange_2 {xs : List Int} {d : Nat} {M : z_M} {P : Option z_V → z_L → z_M → Prop} {x1 : Int} {x2 : Int} {w3 : z_V} (hF : z_fix M) 
    (l1 : (106 ≤ x2) → P none z_LL M)
    (b1 : (¬ (106 ≤ x2)) → 0 ≤ (z_w (x1 + x2)) ∧ (z_w (x1 + x2)) < 4240)
    (b2 : (¬ (106 ≤ x2)) → 0 ≤ x2 ∧ x2 < 106)
    (l2 : (¬ (106 ≤ x2)) → wp xs d mX10_exchange 2 [(2, 321), (0, x1), (0, (z_w (x2 + 1))), (0, (M 345 (z_w (x1 + x2))))] [] z_LL (z_up (z_up M 345 (z_w (x1 + x2)) (M 342 x2)) 342 x2 (M 345 (z_w (x1 + x2)))) P) :
    wp xs d mX10_exchange 2 [(2, 321), (0, x1), (0, x2), w3] [] z_LL M P := by
  refine wp_run 2 (pc' := 5) (ls' := [(2, 321), (0, x1), (0, x2), w3]) (st' := [(0, 106), (0, x2)]) rfl ?_
  refine wp_if2 rfl rfl rfl (fun (c1 : 106 ≤ x2) => ?_) (fun (c1 : ¬ (106 ≤ x2)) => ?_)
  · exact wp_ret rfl rfl (l1 c1)
  · refine wp_run 1 (pc' := 9) (ls' := [(2, 321), (0, x1), (0, x2), w3]) (st' := [(2, 321)]) rfl ?_
    refine wp_gf (pc' := 12) (t := 2) (v := 345) rfl rfl (by decide) rfl rfl (fx_321_63 hF) ?_
    refine wp_run 3 (pc' := 15) (ls' := [(2, 321), (0, x1), (0, x2), w3]) (st' := [(0, (z_w (x1 + x2))), (2, 345)]) rfl ?_
    refine wp_iald (pc' := 16) (v := (M 345 (z_w (x1 + x2)))) rfl rfl rfl (b1 c1) rfl ?_
    refine wp_run 2 (pc' := 18) (ls' := [(2, 321), (0, x1), (0, x2), (0, (M 345 (z_w (x1 + x2))))]) (st' := [(2, 321)]) rfl ?_
    refine wp_gf (pc' := 21) (t := 2) (v := 345) rfl rfl (by decide) rfl rfl (fx_321_63 hF) ?_
    refine wp_run 4 (pc' := 25) (ls' := [(2, 321), (0, x1), (0, x2), (0, (M 345 (z_w (x1 + x2))))]) (st' := [(2, 321), (0, (z_w (x1 + x2))), (2, 345)]) rfl ?_
    refine wp_gf (pc' := 28) (t := 2) (v := 342) rfl rfl (by decide) rfl rfl (fx_321_60 hF) ?_
    refine wp_run 1 (pc' := 29) (ls' := [(2, 321), (0, x1), (0, x2), (0, (M 345 (z_w (x1 + x2))))]) (st' := [(0, x2), (2, 342), (0, (z_w (x1 + x2))), (2, 345)]) rfl ?_
    refine wp_iald (pc' := 30) (v := (M 342 x2)) rfl rfl rfl (b2 c1) rfl ?_
    refine wp_iast (pc' := 31) rfl rfl rfl (b1 c1) ?_
    refine wp_run 1 (pc' := 32) (ls' := [(2, 321), (0, x1), (0, x2), (0, (M 345 (z_w (x1 + x2))))]) (st' := [(2, 321)]) rfl ?_
    refine wp_gf (pc' := 35) (t := 2) (v := 342) rfl rfl (by decide) rfl rfl (z_upq (by decide) (fx_321_60 hF)) ?_
    refine wp_run 2 (pc' := 37) (ls' := [(2, 321), (0, x1), (0, x2), (0, (M 345 (z_w (x1 + x2))))]) (st' := [(0, (M 345 (z_w (x1 + x2)))), (0, x2), (2, 342)]) rfl ?_
    refine wp_iast (pc' := 38) rfl rfl rfl (b2 c1) ?_
    refine wp_run 2 (pc' := 2) (ls' := [(2, 321), (0, x1), (0, (z_w (x2 + 1))), (0, (M 345 (z_w (x1 + x2))))]) (st' := []) rfl ?_
    exact l2 c1
set_option maxRecDepth 20000 in
theorem gX9_undo_0 {xs : List Int} {d : Nat} {M : z_M} {P : Option z_V → z_L → z_M → Prop} (hF : z_fix M) 
    (l1 : ((M 47 1) ≠ 0) → wp xs d mX9_undo 12 [(2, 1)] [] z_LL M P)
    (l2 : (¬ ((M 47 1) ≠ 0)) → P (some (0, 0)) z_LL M) :
    wp xs d mX9_undo 0 [(2, 1)] [] z_LL M P := by
  refine wp_run 1 (pc' := 1) (ls' := [(2, 1)]) (st' := [(2, 1)]) rfl ?_
  refine wp_gf (pc' := 4) (t := 2) (v := 47) rfl rfl (by decide) rfl rfl (fx_1_7 hF) ?_
  refine wp_gf (pc' := 7) (t := 0) (v := (M 47 1)) rfl rfl (by decide) rfl rfl rfl ?_
  refine wp_if1 rfl rfl rfl (fun (c1 : (M 47 1) ≠ 0) => ?_) (fun (c1 : ¬ ((M 47 1) ≠ 0)) => ?_)
  · exact l1 c1
  · refine wp_run 1 (pc' := 11) (ls' := [(2, 1)]) (st' := [(0, 0)]) rfl ?_
    exact wp_ret rfl rfl (l2 c1)
set_option maxRecDepth 20000 in
theorem gX9_undo_12 {xs : List Int} {d : Nat} {M : z_M} {P : Option z_V → z_L → z_M → Prop} (hF : z_fix M) (hh1 : z_her M (M 1 2)) (hh2 : z_her M (M 48 (z_w ((M 47 1) - 1))))
    (b1 : ((M 47 1) ≠ 0) → 0 ≤ (z_w ((M 47 1) - 1)) ∧ (z_w ((M 47 1) - 1)) < 40)
    (l1 : ((M 47 1) ≠ 0) → P (some (0, 1)) z_LL (z_up (z_up (z_up (z_up M 47 1 (z_w ((M 47 1) - 1))) 47 2 (z_w ((M 47 2) + 1))) 48 (z_w ((M 47 1) - 1)) (M 1 2)) 1 2 (M 48 (z_w ((M 47 1) - 1)))))
    (l2 : (¬ ((M 47 1) ≠ 0)) → P (some (0, 1)) z_LL (z_up M 1 2 (M 1 2))) :
    wp xs (d + 2) mX9_undo 12 [(2, 1)] [] z_LL M P := by
  refine wp_run 2 (pc' := 14) (ls' := [(2, 1)]) (st' := [(2, 1), (2, 1)]) rfl ?_
  refine wp_gf (pc' := 17) (t := 2) (v := 47) rfl rfl (by decide) rfl rfl (fx_1_7 hF) ?_
  refine wp_run 1 (pc' := 18) (ls' := [(2, 1)]) (st' := [(2, 1), (2, 47), (2, 1)]) rfl ?_
  refine wp_gf (pc' := 21) (t := 2) (v := (M 1 2)) rfl rfl (by decide) rfl rfl rfl ?_
  refine wp_callv (pc' := 24) (as := [(2, 47), (2, (M 1 2))]) (rest := [(2, 1)]) (ls1 := [(2, 47), (2, (M 1 2))]) rfl rfl rfl rfl rfl rfl ?_
  refine wp_run 1 (pc' := 1) (ls' := [(2, 47), (2, (M 1 2))]) (st' := [(2, 47)]) rfl ?_
  refine wp_gf (pc' := 4) (t := 0) (v := (M 47 1)) rfl rfl (by decide) rfl rfl rfl ?_
  refine wp_if1 rfl rfl rfl (fun (c1 : (M 47 1) ≠ 0) => ?_) (fun (c1 : ¬ ((M 47 1) ≠ 0)) => ?_)
  · refine wp_run 2 (pc' := 11) (ls' := [(2, 47), (2, (M 1 2))]) (st' := [(2, 47), (2, 47)]) rfl ?_
    refine wp_gf (pc' := 14) (t := 0) (v := (M 47 1)) rfl rfl (by decide) rfl rfl rfl ?_
    refine wp_run 2 (pc' := 16) (ls' := [(2, 47), (2, (M 1 2))]) (st' := [(0, (z_w ((M 47 1) - 1))), (2, 47)]) rfl ?_
    refine wp_pf (pc' := 19) rfl rfl rfl rfl (fun z => absurd z (by decide)) (fun z => absurd z (by decide)) ?_
    refine wp_run 2 (pc' := 21) (ls' := [(2, 47), (2, (M 1 2))]) (st' := [(2, 47), (2, 47)]) rfl ?_
    refine wp_gf (pc' := 24) (t := 0) (v := (M 47 2)) rfl rfl (by decide) rfl rfl (z_upi (by decide) rfl) ?_
    refine wp_run 2 (pc' := 26) (ls' := [(2, 47), (2, (M 1 2))]) (st' := [(0, (z_w ((M 47 2) + 1))), (2, 47)]) rfl ?_
    refine wp_pf (pc' := 29) rfl rfl rfl rfl (fun z => absurd z (by decide)) (fun z => absurd z (by decide)) ?_
    refine wp_run 2 (pc' := 31) (ls' := [(2, 47), (2, (M 1 2))]) (st' := [(2, 47), (2, 47)]) rfl ?_
    refine wp_gf (pc' := 34) (t := 0) (v := (z_w ((M 47 1) - 1))) rfl rfl (by decide) rfl rfl (z_upi (by decide) z_ups) ?_
    refine wp_run 1 (pc' := 35) (ls' := [(2, 47), (2, (M 1 2))]) (st' := [(2, (M 1 2)), (0, (z_w ((M 47 1) - 1))), (2, 47)]) rfl ?_
    refine wp_callv (pc' := 38) (as := [(2, 47), (0, (z_w ((M 47 1) - 1))), (2, (M 1 2))]) (rest := []) (ls1 := [(2, 47), (0, (z_w ((M 47 1) - 1))), (2, (M 1 2)), (3, 0)]) rfl rfl rfl rfl rfl rfl ?_
    refine wp_run 1 (pc' := 1) (ls' := [(2, 47), (0, (z_w ((M 47 1) - 1))), (2, (M 1 2)), (3, 0)]) (st' := [(2, 47)]) rfl ?_
    refine wp_gf (pc' := 4) (t := 2) (v := 48) rfl rfl (by decide) rfl rfl (z_upi (by decide) (z_upi (by decide) (fx_47_0 hF))) ?_
    refine wp_run 1 (pc' := 5) (ls' := [(2, 47), (0, (z_w ((M 47 1) - 1))), (2, (M 1 2)), (3, 0)]) (st' := [(0, (z_w ((M 47 1) - 1))), (2, 48)]) rfl ?_
    refine wp_aald (pc' := 6) (v := (M 48 (z_w ((M 47 1) - 1)))) rfl rfl rfl (b1 c1) (z_upq (by decide) (z_upq (by decide) rfl)) ?_
    refine wp_run 2 (pc' := 8) (ls' := [(2, 47), (0, (z_w ((M 47 1) - 1))), (2, (M 1 2)), (2, (M 48 (z_w ((M 47 1) - 1))))]) (st' := [(2, 47)]) rfl ?_
    refine wp_gf (pc' := 11) (t := 2) (v := 48) rfl rfl (by decide) rfl rfl (z_upi (by decide) (z_upi (by decide) (fx_47_0 hF))) ?_
    refine wp_run 2 (pc' := 13) (ls' := [(2, 47), (0, (z_w ((M 47 1) - 1))), (2, (M 1 2)), (2, (M 48 (z_w ((M 47 1) - 1))))]) (st' := [(2, (M 1 2)), (0, (z_w ((M 47 1) - 1))), (2, 48)]) rfl ?_
    refine wp_aast (pc' := 14) rfl rfl rfl (z_hl0 hh1) (b1 c1) ?_
    refine wp_run 1 (pc' := 15) (ls' := [(2, 47), (0, (z_w ((M 47 1) - 1))), (2, (M 1 2)), (2, (M 48 (z_w ((M 47 1) - 1))))]) (st' := [(2, (M 48 (z_w ((M 47 1) - 1))))]) rfl ?_
    refine wp_reta rfl ⟨rfl, rfl⟩ (by have := z_hr hh2; omega) ?_
    show wp xs _ mX4_takeBack 38 [(2, 47), (2, (M 1 2))] [(2, (M 48 (z_w ((M 47 1) - 1))))] z_LL (z_up (z_up (z_up M 47 1 (z_w ((M 47 1) - 1))) 47 2 (z_w ((M 47 2) + 1))) 48 (z_w ((M 47 1) - 1)) (M 1 2)) _
    refine wp_reta rfl ⟨rfl, rfl⟩ (by have := z_hr hh2; omega) ?_
    show wp xs _ mX9_undo 24 [(2, 1)] [(2, (M 48 (z_w ((M 47 1) - 1)))), (2, 1)] z_LL (z_up (z_up (z_up M 47 1 (z_w ((M 47 1) - 1))) 47 2 (z_w ((M 47 2) + 1))) 48 (z_w ((M 47 1) - 1)) (M 1 2)) _
    refine wp_pf (pc' := 27) rfl rfl rfl rfl (fun _ => by have := z_hr hh2; omega) (fun z => absurd z (by decide)) ?_
    refine wp_run 1 (pc' := 28) (ls' := [(2, 1)]) (st' := [(0, 1)]) rfl ?_
    exact wp_ret rfl rfl (l1 c1)
  · refine wp_run 1 (pc' := 8) (ls' := [(2, 47), (2, (M 1 2))]) (st' := [(2, (M 1 2))]) rfl ?_
    refine wp_reta rfl ⟨rfl, rfl⟩ (by have := z_hr hh1; omega) ?_
    show wp xs _ mX9_undo 24 [(2, 1)] [(2, (M 1 2)), (2, 1)] z_LL M _
    refine wp_pf (pc' := 27) rfl rfl rfl rfl (fun _ => by have := z_hr hh1; omega) (fun z => absurd z (by decide)) ?_
    refine wp_run 1 (pc' := 28) (ls' := [(2, 1)]) (st' := [(0, 1)]) rfl ?_
    exact wp_ret rfl rfl (l2 c1)
set_option maxRecDepth 20000 in
theorem gX10_undo_0 {xs : List Int} {d : Nat} {M : z_M} {P : Option z_V → z_L → z_M → Prop} 
    (l1 : ((M 321 64) ≠ 0) → wp xs d mX10_exchange 0 [(2, 321), (0, (z_w (106 * (z_w ((M 321 64) - 1))))), (3, 0), (3, 0)] [] z_LL (z_up (z_up M 321 64 (z_w ((M 321 64) - 1))) 321 65 (z_w ((M 321 65) + 1))) (fun r L1 M1 => wp xs (d + 1) mX10_undo 40 [(2, 321)] (z_ol r ++ []) L1 M1 P))
    (l2 : (¬ ((M 321 64) ≠ 0)) → P (some (0, 0)) z_LL M) :
    wp xs (d + 1) mX10_undo 0 [(2, 321)] [] z_LL M P := by
  refine wp_run 1 (pc' := 1) (ls' := [(2, 321)]) (st' := [(2, 321)]) rfl ?_
  refine wp_gf (pc' := 4) (t := 0) (v := (M 321 64)) rfl rfl (by decide) rfl rfl rfl ?_
  refine wp_if1 rfl rfl rfl (fun (c1 : (M 321 64) ≠ 0) => ?_) (fun (c1 : ¬ ((M 321 64) ≠ 0)) => ?_)
  · refine wp_run 2 (pc' := 11) (ls' := [(2, 321)]) (st' := [(2, 321), (2, 321)]) rfl ?_
    refine wp_gf (pc' := 14) (t := 0) (v := (M 321 64)) rfl rfl (by decide) rfl rfl rfl ?_
    refine wp_run 2 (pc' := 16) (ls' := [(2, 321)]) (st' := [(0, (z_w ((M 321 64) - 1))), (2, 321)]) rfl ?_
    refine wp_pf (pc' := 19) rfl rfl rfl rfl (fun z => absurd z (by decide)) (fun z => absurd z (by decide)) ?_
    refine wp_run 2 (pc' := 21) (ls' := [(2, 321)]) (st' := [(2, 321), (2, 321)]) rfl ?_
    refine wp_gf (pc' := 24) (t := 0) (v := (M 321 65)) rfl rfl (by decide) rfl rfl (z_upi (by decide) rfl) ?_
    refine wp_run 2 (pc' := 26) (ls' := [(2, 321)]) (st' := [(0, (z_w ((M 321 65) + 1))), (2, 321)]) rfl ?_
    refine wp_pf (pc' := 29) rfl rfl rfl rfl (fun z => absurd z (by decide)) (fun z => absurd z (by decide)) ?_
    refine wp_run 3 (pc' := 33) (ls' := [(2, 321)]) (st' := [(2, 321), (0, 106), (2, 321)]) rfl ?_
    refine wp_gf (pc' := 36) (t := 0) (v := (z_w ((M 321 64) - 1))) rfl rfl (by decide) rfl rfl (z_upi (by decide) z_ups) ?_
    refine wp_run 1 (pc' := 37) (ls' := [(2, 321)]) (st' := [(0, (z_w (106 * (z_w ((M 321 64) - 1))))), (2, 321)]) rfl ?_
    refine wp_callv (pc' := 40) (as := [(2, 321), (0, (z_w (106 * (z_w ((M 321 64) - 1)))))]) (rest := []) (ls1 := [(2, 321), (0, (z_w (106 * (z_w ((M 321 64) - 1))))), (3, 0), (3, 0)]) rfl rfl rfl rfl rfl rfl ?_
    exact l1 c1
  · refine wp_run 1 (pc' := 8) (ls' := [(2, 321)]) (st' := [(0, 0)]) rfl ?_
    exact wp_ret rfl rfl (l2 c1)
set_option maxRecDepth 20000 in
theorem gX10_undo_40 {xs : List Int} {d : Nat} {M : z_M} {P : Option z_V → z_L → z_M → Prop} 
    (l1 : P (some (0, 1)) z_LL M) :
    wp xs d mX10_undo 40 [(2, 321)] [] z_LL M P := by
  refine wp_run 1 (pc' := 41) (ls' := [(2, 321)]) (st' := [(0, 1)]) rfl ?_
  exact wp_ret rfl rfl (l1)
set_option maxRecDepth 20000 in
theorem gX9_redo_0 {xs : List Int} {d : Nat} {M : z_M} {P : Option z_V → z_L → z_M → Prop} (hF : z_fix M) 
    (l1 : ((M 47 2) ≠ 0) → wp xs d mX9_redo 12 [(2, 1)] [] z_LL M P)
    (l2 : (¬ ((M 47 2) ≠ 0)) → P (some (0, 0)) z_LL M) :
    wp xs d mX9_redo 0 [(2, 1)] [] z_LL M P := by
  refine wp_run 1 (pc' := 1) (ls' := [(2, 1)]) (st' := [(2, 1)]) rfl ?_
  refine wp_gf (pc' := 4) (t := 2) (v := 47) rfl rfl (by decide) rfl rfl (fx_1_7 hF) ?_
  refine wp_gf (pc' := 7) (t := 0) (v := (M 47 2)) rfl rfl (by decide) rfl rfl rfl ?_
  refine wp_if1 rfl rfl rfl (fun (c1 : (M 47 2) ≠ 0) => ?_) (fun (c1 : ¬ ((M 47 2) ≠ 0)) => ?_)
  · exact l1 c1
  · refine wp_run 1 (pc' := 11) (ls' := [(2, 1)]) (st' := [(0, 0)]) rfl ?_
    exact wp_ret rfl rfl (l2 c1)
set_option maxRecDepth 20000 in
theorem gX9_redo_12 {xs : List Int} {d : Nat} {M : z_M} {P : Option z_V → z_L → z_M → Prop} (hF : z_fix M) (hh1 : z_her M (M 1 2)) (hh2 : z_her M (M 48 (M 47 1)))
    (b1 : ((M 47 2) ≠ 0) → 0 ≤ (M 47 1) ∧ (M 47 1) < 40)
    (l1 : ((M 47 2) ≠ 0) → P (some (0, 1)) z_LL (z_up (z_up (z_up (z_up M 48 (M 47 1) (M 1 2)) 47 1 (z_w ((M 47 1) + 1))) 47 2 (z_w ((M 47 2) - 1))) 1 2 (M 48 (M 47 1))))
    (l2 : (¬ ((M 47 2) ≠ 0)) → P (some (0, 1)) z_LL (z_up M 1 2 (M 1 2))) :
    wp xs (d + 2) mX9_redo 12 [(2, 1)] [] z_LL M P := by
  refine wp_run 2 (pc' := 14) (ls' := [(2, 1)]) (st' := [(2, 1), (2, 1)]) rfl ?_
  refine wp_gf (pc' := 17) (t := 2) (v := 47) rfl rfl (by decide) rfl rfl (fx_1_7 hF) ?_
  refine wp_run 1 (pc' := 18) (ls' := [(2, 1)]) (st' := [(2, 1), (2, 47), (2, 1)]) rfl ?_
  refine wp_gf (pc' := 21) (t := 2) (v := (M 1 2)) rfl rfl (by decide) rfl rfl rfl ?_
  refine wp_callv (pc' := 24) (as := [(2, 47), (2, (M 1 2))]) (rest := [(2, 1)]) (ls1 := [(2, 47), (2, (M 1 2)), (3, 0)]) rfl rfl rfl rfl rfl rfl ?_
  refine wp_run 1 (pc' := 1) (ls' := [(2, 47), (2, (M 1 2)), (3, 0)]) (st' := [(2, 47)]) rfl ?_
  refine wp_gf (pc' := 4) (t := 0) (v := (M 47 2)) rfl rfl (by decide) rfl rfl rfl ?_
  refine wp_if1 rfl rfl rfl (fun (c1 : (M 47 2) ≠ 0) => ?_) (fun (c1 : ¬ ((M 47 2) ≠ 0)) => ?_)
  · refine wp_run 2 (pc' := 11) (ls' := [(2, 47), (2, (M 1 2)), (3, 0)]) (st' := [(2, 47), (2, 47)]) rfl ?_
    refine wp_gf (pc' := 14) (t := 0) (v := (M 47 1)) rfl rfl (by decide) rfl rfl rfl ?_
    refine wp_run 1 (pc' := 15) (ls' := [(2, 47), (2, (M 1 2)), (3, 0)]) (st' := [(2, (M 1 2)), (0, (M 47 1)), (2, 47)]) rfl ?_
    refine wp_callv (pc' := 18) (as := [(2, 47), (0, (M 47 1)), (2, (M 1 2))]) (rest := []) (ls1 := [(2, 47), (0, (M 47 1)), (2, (M 1 2)), (3, 0)]) rfl rfl rfl rfl rfl rfl ?_
    refine wp_run 1 (pc' := 1) (ls' := [(2, 47), (0, (M 47 1)), (2, (M 1 2)), (3, 0)]) (st' := [(2, 47)]) rfl ?_
    refine wp_gf (pc' := 4) (t := 2) (v := 48) rfl rfl (by decide) rfl rfl (fx_47_0 hF) ?_
    refine wp_run 1 (pc' := 5) (ls' := [(2, 47), (0, (M 47 1)), (2, (M 1 2)), (3, 0)]) (st' := [(0, (M 47 1)), (2, 48)]) rfl ?_
    refine wp_aald (pc' := 6) (v := (M 48 (M 47 1))) rfl rfl rfl (b1 c1) rfl ?_
    refine wp_run 2 (pc' := 8) (ls' := [(2, 47), (0, (M 47 1)), (2, (M 1 2)), (2, (M 48 (M 47 1)))]) (st' := [(2, 47)]) rfl ?_
    refine wp_gf (pc' := 11) (t := 2) (v := 48) rfl rfl (by decide) rfl rfl (fx_47_0 hF) ?_
    refine wp_run 2 (pc' := 13) (ls' := [(2, 47), (0, (M 47 1)), (2, (M 1 2)), (2, (M 48 (M 47 1)))]) (st' := [(2, (M 1 2)), (0, (M 47 1)), (2, 48)]) rfl ?_
    refine wp_aast (pc' := 14) rfl rfl rfl (z_hl0 hh1) (b1 c1) ?_
    refine wp_run 1 (pc' := 15) (ls' := [(2, 47), (0, (M 47 1)), (2, (M 1 2)), (2, (M 48 (M 47 1)))]) (st' := [(2, (M 48 (M 47 1)))]) rfl ?_
    refine wp_reta rfl ⟨rfl, rfl⟩ (by have := z_hr hh2; omega) ?_
    show wp xs _ mX4_doAgain 18 [(2, 47), (2, (M 1 2)), (3, 0)] [(2, (M 48 (M 47 1)))] z_LL (z_up M 48 (M 47 1) (M 1 2)) _
    refine wp_run 3 (pc' := 21) (ls' := [(2, 47), (2, (M 1 2)), (2, (M 48 (M 47 1)))]) (st' := [(2, 47), (2, 47)]) rfl ?_
    refine wp_gf (pc' := 24) (t := 0) (v := (M 47 1)) rfl rfl (by decide) rfl rfl (z_upq (by decide) rfl) ?_
    refine wp_run 2 (pc' := 26) (ls' := [(2, 47), (2, (M 1 2)), (2, (M 48 (M 47 1)))]) (st' := [(0, (z_w ((M 47 1) + 1))), (2, 47)]) rfl ?_
    refine wp_pf (pc' := 29) rfl rfl rfl rfl (fun z => absurd z (by decide)) (fun z => absurd z (by decide)) ?_
    refine wp_run 2 (pc' := 31) (ls' := [(2, 47), (2, (M 1 2)), (2, (M 48 (M 47 1)))]) (st' := [(2, 47), (2, 47)]) rfl ?_
    refine wp_gf (pc' := 34) (t := 0) (v := (M 47 2)) rfl rfl (by decide) rfl rfl (z_upi (by decide) (z_upq (by decide) rfl)) ?_
    refine wp_run 2 (pc' := 36) (ls' := [(2, 47), (2, (M 1 2)), (2, (M 48 (M 47 1)))]) (st' := [(0, (z_w ((M 47 2) - 1))), (2, 47)]) rfl ?_
    refine wp_pf (pc' := 39) rfl rfl rfl rfl (fun z => absurd z (by decide)) (fun z => absurd z (by decide)) ?_
    refine wp_run 1 (pc' := 40) (ls' := [(2, 47), (2, (M 1 2)), (2, (M 48 (M 47 1)))]) (st' := [(2, (M 48 (M 47 1)))]) rfl ?_
    refine wp_reta rfl ⟨rfl, rfl⟩ (by have := z_hr hh2; omega) ?_
    show wp xs _ mX9_redo 24 [(2, 1)] [(2, (M 48 (M 47 1))), (2, 1)] z_LL (z_up (z_up (z_up M 48 (M 47 1) (M 1 2)) 47 1 (z_w ((M 47 1) + 1))) 47 2 (z_w ((M 47 2) - 1))) _
    refine wp_pf (pc' := 27) rfl rfl rfl rfl (fun _ => by have := z_hr hh2; omega) (fun z => absurd z (by decide)) ?_
    refine wp_run 1 (pc' := 28) (ls' := [(2, 1)]) (st' := [(0, 1)]) rfl ?_
    exact wp_ret rfl rfl (l1 c1)
  · refine wp_run 1 (pc' := 8) (ls' := [(2, 47), (2, (M 1 2)), (3, 0)]) (st' := [(2, (M 1 2))]) rfl ?_
    refine wp_reta rfl ⟨rfl, rfl⟩ (by have := z_hr hh1; omega) ?_
    show wp xs _ mX9_redo 24 [(2, 1)] [(2, (M 1 2)), (2, 1)] z_LL M _
    refine wp_pf (pc' := 27) rfl rfl rfl rfl (fun _ => by have := z_hr hh1; omega) (fun z => absurd z (by decide)) ?_
    refine wp_run 1 (pc' := 28) (ls' := [(2, 1)]) (st' := [(0, 1)]) rfl ?_
    exact wp_ret rfl rfl (l2 c1)
set_option maxRecDepth 20000 in
theorem gX10_redo_0 {xs : List Int} {d : Nat} {M : z_M} {P : Option z_V → z_L → z_M → Prop} 
    (l1 : ((M 321 65) ≠ 0) → wp xs d mX10_exchange 0 [(2, 321), (0, (z_w (106 * (M 321 64)))), (3, 0), (3, 0)] [] z_LL M (fun r L1 M1 => wp xs (d + 1) mX10_redo 20 [(2, 321)] (z_ol r ++ []) L1 M1 P))
    (l2 : (¬ ((M 321 65) ≠ 0)) → P (some (0, 0)) z_LL M) :
    wp xs (d + 1) mX10_redo 0 [(2, 321)] [] z_LL M P := by
  refine wp_run 1 (pc' := 1) (ls' := [(2, 321)]) (st' := [(2, 321)]) rfl ?_
  refine wp_gf (pc' := 4) (t := 0) (v := (M 321 65)) rfl rfl (by decide) rfl rfl rfl ?_
  refine wp_if1 rfl rfl rfl (fun (c1 : (M 321 65) ≠ 0) => ?_) (fun (c1 : ¬ ((M 321 65) ≠ 0)) => ?_)
  · refine wp_run 3 (pc' := 13) (ls' := [(2, 321)]) (st' := [(2, 321), (0, 106), (2, 321)]) rfl ?_
    refine wp_gf (pc' := 16) (t := 0) (v := (M 321 64)) rfl rfl (by decide) rfl rfl rfl ?_
    refine wp_run 1 (pc' := 17) (ls' := [(2, 321)]) (st' := [(0, (z_w (106 * (M 321 64)))), (2, 321)]) rfl ?_
    refine wp_callv (pc' := 20) (as := [(2, 321), (0, (z_w (106 * (M 321 64))))]) (rest := []) (ls1 := [(2, 321), (0, (z_w (106 * (M 321 64)))), (3, 0), (3, 0)]) rfl rfl rfl rfl rfl rfl ?_
    exact l1 c1
  · refine wp_run 1 (pc' := 8) (ls' := [(2, 321)]) (st' := [(0, 0)]) rfl ?_
    exact wp_ret rfl rfl (l2 c1)
set_option maxRecDepth 20000 in
theorem gX10_redo_20 {xs : List Int} {d : Nat} {M : z_M} {P : Option z_V → z_L → z_M → Prop} 
    (l1 : P (some (0, 1)) z_LL (z_up (z_up M 321 64 (z_w ((M 321 64) + 1))) 321 65 (z_w ((M 321 65) - 1)))) :
    wp xs d mX10_redo 20 [(2, 321)] [] z_LL M P := by
  refine wp_run 2 (pc' := 22) (ls' := [(2, 321)]) (st' := [(2, 321), (2, 321)]) rfl ?_
  refine wp_gf (pc' := 25) (t := 0) (v := (M 321 64)) rfl rfl (by decide) rfl rfl rfl ?_
  refine wp_run 2 (pc' := 27) (ls' := [(2, 321)]) (st' := [(0, (z_w ((M 321 64) + 1))), (2, 321)]) rfl ?_
  refine wp_pf (pc' := 30) rfl rfl rfl rfl (fun z => absurd z (by decide)) (fun z => absurd z (by decide)) ?_
  refine wp_run 2 (pc' := 32) (ls' := [(2, 321)]) (st' := [(2, 321), (2, 321)]) rfl ?_
  refine wp_gf (pc' := 35) (t := 0) (v := (M 321 65)) rfl rfl (by decide) rfl rfl (z_upi (by decide) rfl) ?_
  refine wp_run 2 (pc' := 37) (ls' := [(2, 321)]) (st' := [(0, (z_w ((M 321 65) - 1))), (2, 321)]) rfl ?_
  refine wp_pf (pc' := 40) rfl rfl rfl rfl (fun z => absurd z (by decide)) (fun z => absurd z (by decide)) ?_
  refine wp_run 1 (pc' := 41) (ls' := [(2, 321)]) (st' := [(0, 1)]) rfl ?_
  exact wp_ret rfl rfl (l1)
theorem s_X10_exchange {P : Option z_V → z_L → z_M → Prop} {a : Int} (hF : z_fix M) (ha : 0 ≤ a ∧ a + 106 ≤ 4240) (k : ∀ M' : z_M, (∀ q, q ≠ 342 → q ≠ 345 → M' q = M q) → (∀ j : Int, 0 ≤ j → j < 106 → M' 342 j = M 345 (a + j)) → (∀ j : Int, ¬ (0 ≤ j ∧ j < 106) → M' 342 j = M 342 j) → (∀ j : Int, 0 ≤ j → j < 106 → M' 345 (a + j) = M 342 j) → (∀ j : Int, ¬ (a ≤ j ∧ j < a + 106) → M' 345 j = M 345 j) → P none z_LL M') : wp xs d mX10_exchange 0 [(2, 321), (0, a), (3, 0), (3, 0)] [] z_LL M P := by
  refine gX10_exchange_0 ?_
  refine z_loop (W := fun i => ∀ (M' : z_M) (w : z_V), (∀ q, q ≠ 342 → q ≠ 345 → M' q = M q) → (∀ j : Int, 0 ≤ j → j < i → M' 342 j = M 345 (a + j)) → (∀ j : Int, ¬ (0 ≤ j ∧ j < i) → M' 342 j = M 342 j) → (∀ j : Int, 0 ≤ j → j < i → M' 345 (a + j) = M 342 j) → (∀ j : Int, ¬ (a ≤ j ∧ j < a + i) → M' 345 j = M 345 j) → wp xs d mX10_exchange 2 [(2, 321), (0, a), (0, (i : Int)), w] [] z_LL M' P) 106 (fun i hi ih M' w f h1 h2 h3 h4 => ?_) M _ (fun _ _ _ => rfl) (fun j a b => by omega) (fun _ _ => rfl) (fun j a b => by omega) (fun _ _ => rfl)
  have hF' : z_fix M' := z_fix_gen hF (fun q i hq => by rw [f q (by unfold z_fin at hq; omega) (by unfold z_fin at hq; omega)])
  have g := gX10_exchange_2 (M := M') (xs := xs) (d := d) (P := P) (x1 := a) (x2 := (i : Int)) (w3 := w) hF'
  simp only [z_in1 (i := i) (by omega), z_wid (x := a + (i : Int)) (by omega)] at g
  refine g (fun c => ?_) (fun _ => by omega) (fun _ => by omega) (fun c => ?_)
  · obtain rfl : i = 106 := by omega
    exact k M' f h1 h2 h3 h4
  · refine ih (by omega) _ _ (fun q a b => by rw [z_upn a, z_upn b, f q a b]) (fun j a1 b1 => ?_) (fun j hj => ?_) (fun j a1 b1 => ?_) (fun j hj => ?_)
    · by_cases e : j = i
      · rw [e, z_ups, h4 _ (by omega)]
      · rw [z_upi e rfl, z_upn (by decide), h1 j a1 (by omega)]
    · rw [z_upi (by omega) rfl, z_upn (by decide), h2 j (by omega)]
    · rw [z_upn (by decide)]
      by_cases e : j = i
      · rw [e, z_ups, h2 _ (by omega)]
      · rw [z_upi (by omega) rfl, h3 j a1 (by omega)]
    · rw [z_upn (by decide), z_upi (by omega) rfl, h4 j (by omega)]
theorem c_undo (hR : z_R M) : z_two xs (d + 200) mX9_undo mX10_undo [(2, 1)] [(2, 321)] M := by
  obtain ⟨p1, p2, p3, p4, p5⟩ := z_R_Rp hR
  unfold z_two
  refine gX9_undo_0 (z_R_F hR) (fun c => ?_) (fun c => ?_)
  · have g := fun P => gX9_undo_12 (M := M) (xs := xs) (d := d + 198) (P := P) (z_R_F hR) (z_R_H hR).1 (by rw [z_wid (by omega)]; exact (p1 _ (by omega) (by omega)).2.1)
    rw [p3.1] at c
    rw [p3.1, p3.2, z_wid (x := M 321 64 - 1) (by omega), z_wid (x := M 321 65 + 1) (by omega)] at g
    refine g _ (fun _ => by omega) (fun _ => ⟨1, rfl, rfl, ?_⟩) (fun q => absurd c q)
    generalize hM1 : z_up (z_up (z_up (z_up M 47 1 (M 321 64 - 1)) 47 2 (M 321 65 + 1)) 48 (M 321 64 - 1) (M 1 2)) 1 2 (M 48 (M 321 64 - 1)) = M1
    have f1 : ∀ q, q ≠ 1 → q ≠ 47 → q ≠ 48 → M1 q = M q := fun q a b e => by rw [← hM1, z_upn a, z_upn e, z_upn b, z_upn b]
    have x1 : ∀ k, k ≠ 2 → M1 1 k = M 1 k := fun k hk => by rw [← hM1, z_upi hk rfl, z_upn (by decide), z_upn (by decide), z_upn (by decide)]
    have x2 : M1 1 2 = M 48 (M 321 64 - 1) := by rw [← hM1, z_ups]
    have x3 : ∀ i, i ≠ M 321 64 - 1 → M1 48 i = M 48 i := fun i hi => by rw [← hM1, z_upn (by decide), z_upi hi rfl, z_upn (by decide), z_upn (by decide)]
    have x4 : M1 48 (M 321 64 - 1) = M 1 2 := by rw [← hM1, z_upn (by decide), z_ups]
    have x5 : M1 47 0 = M 47 0 ∧ M1 47 1 = M 321 64 - 1 ∧ M1 47 2 = M 321 65 + 1 := by
      refine ⟨?_, ?_, ?_⟩
      · rw [← hM1, z_upn (by decide), z_upn (by decide), z_upi (by decide) rfl, z_upi (by decide) rfl]
      · rw [← hM1, z_upn (by decide), z_upn (by decide), z_upi (by decide) rfl, z_ups]
      · rw [← hM1, z_upn (by decide), z_upn (by decide), z_ups]
    clear hM1
    have q321 : M1 321 = M 321 := f1 321 (by decide) (by decide) (by decide)
    refine gX10_undo_0 (fun _ => ?_) (fun q => absurd (by rw [q321]; exact c) q)
    rw [q321, z_wid (x := M 321 64 - 1) (by omega), z_wid (x := 106 * (M 321 64 - 1)) (by omega), z_wid (x := M 321 65 + 1) (by omega)]
    refine s_X10_exchange (z_fix_gen (z_R_F hR) (fun q i hq => ?_)) (by omega) (fun M2 f2 v1 v2 v3 v4 => ?_)
    · by_cases w3 : q = 321
      · rw [w3] at hq ⊢
        rw [z_upi (by unfold z_fin at hq; omega) rfl, z_upi (by unfold z_fin at hq; omega) rfl, q321]
      · rw [z_upn w3, z_upn w3]
        by_cases w1 : q = 1
        · rw [w1] at hq ⊢
          exact x1 i (by unfold z_fin at hq; omega)
        · by_cases w2 : q = 47
          · rw [w2] at hq ⊢
            rw [show i = 0 by unfold z_fin at hq; omega, x5.1]
          · rw [f1 q w1 w2 (by unfold z_fin at hq; omega)]
    · refine gX10_undo_40 ⟨rfl, rfl, z_swap_R hR (j := M 321 64 - 1) (by omega) (fun q a1 a2 a3 a4 a5 a6 => by rw [f2 q a5 a6, z_upn a4, z_upn a4, f1 q a1 a2 a3]) (fun k hk => by rw [f2 1 (by decide) (by decide), z_upn (by decide), z_upn (by decide), x1 k hk]) (by rw [f2 1 (by decide) (by decide), z_upn (by decide), z_upn (by decide), x2]) (fun i hi => by rw [f2 48 (by decide) (by decide), z_upn (by decide), z_upn (by decide), x3 i hi]) (by rw [f2 48 (by decide) (by decide), z_upn (by decide), z_upn (by decide), x4]) (by rw [f2 47 (by decide) (by decide), z_upn (by decide), z_upn (by decide), x5.1]) (fun k a b => by rw [f2 321 (by decide) (by decide), z_upi b rfl, z_upi a rfl, q321]) ?_ ?_ (fun k a b => ?_) (fun k hk => ?_) (fun k a b => ?_) (fun k hk => ?_)⟩
      · rw [f2 47 (by decide) (by decide), z_upn (by decide), z_upn (by decide), x5.2.1, x5.2.2, f2 321 (by decide) (by decide), z_upi (by decide) rfl, z_ups, z_ups]
        exact ⟨rfl, rfl⟩
      · rw [f2 321 (by decide) (by decide), z_upi (by decide) rfl, z_ups, z_ups]
        omega
      · rw [v1 k a b, z_upn (by decide), z_upn (by decide), f1 345 (by decide) (by decide) (by decide)]
      · rw [v2 k hk, z_upn (by decide), z_upn (by decide), f1 342 (by decide) (by decide) (by decide)]
      · rw [v3 k a b, z_upn (by decide), z_upn (by decide), f1 342 (by decide) (by decide) (by decide)]
      · rw [v4 k hk, z_upn (by decide), z_upn (by decide), f1 345 (by decide) (by decide) (by decide)]
  · refine ⟨0, rfl, rfl, gX10_undo_0 (fun q => absurd (by omega) q) (fun _ => ⟨rfl, rfl, hR⟩)⟩
theorem c_redo (hR : z_R M) : z_two xs (d + 200) mX9_redo mX10_redo [(2, 1)] [(2, 321)] M := by
  obtain ⟨p1, p2, p3, p4, p5⟩ := z_R_Rp hR
  unfold z_two
  refine gX9_redo_0 (z_R_F hR) (fun c => ?_) (fun c => ?_)
  · rw [p3.2] at c
    have g := fun P => gX9_redo_12 (M := M) (xs := xs) (d := d + 198) (P := P) (z_R_F hR) (z_R_H hR).1 (p1 _ (by omega) (by omega)).2.1
    rw [p3.1, p3.2, z_wid (x := M 321 64 + 1) (by omega), z_wid (x := M 321 65 - 1) (by omega)] at g
    refine g _ (fun _ => by omega) (fun _ => ⟨1, rfl, rfl, ?_⟩) (fun q => absurd c q)
    generalize hM1 : z_up (z_up (z_up (z_up M 48 (M 321 64) (M 1 2)) 47 1 (M 321 64 + 1)) 47 2 (M 321 65 - 1)) 1 2 (M 48 (M 321 64)) = M1
    have f1 : ∀ q, q ≠ 1 → q ≠ 47 → q ≠ 48 → M1 q = M q := fun q a b e => by rw [← hM1, z_upn a, z_upn b, z_upn b, z_upn e]
    have x1 : ∀ k, k ≠ 2 → M1 1 k = M 1 k := fun k hk => by rw [← hM1, z_upi hk rfl, z_upn (by decide), z_upn (by decide), z_upn (by decide)]
    have x2 : M1 1 2 = M 48 (M 321 64) := by rw [← hM1, z_ups]
    have x3 : ∀ i, i ≠ M 321 64 → M1 48 i = M 48 i := fun i hi => by rw [← hM1, z_upn (by decide), z_upn (by decide), z_upn (by decide), z_upi hi rfl]
    have x4 : M1 48 (M 321 64) = M 1 2 := by rw [← hM1, z_upn (by decide), z_upn (by decide), z_upn (by decide), z_ups]
    have x5 : M1 47 0 = M 47 0 ∧ M1 47 1 = M 321 64 + 1 ∧ M1 47 2 = M 321 65 - 1 := by
      refine ⟨?_, ?_, ?_⟩
      · rw [← hM1, z_upn (by decide), z_upi (by decide) rfl, z_upi (by decide) rfl, z_upn (by decide)]
      · rw [← hM1, z_upn (by decide), z_upi (by decide) rfl, z_ups]
      · rw [← hM1, z_upn (by decide), z_ups]
    clear hM1
    have q321 : M1 321 = M 321 := f1 321 (by decide) (by decide) (by decide)
    refine gX10_redo_0 (fun _ => ?_) (fun q => absurd (by rw [q321]; exact c) q)
    rw [q321, z_wid (x := 106 * M 321 64) (by omega)]
    refine s_X10_exchange (z_fix_gen (z_R_F hR) (fun q i hq => ?_)) (by omega) (fun M2 f2 v1 v2 v3 v4 => ?_)
    · by_cases w1 : q = 1
      · rw [w1] at hq ⊢
        exact x1 i (by unfold z_fin at hq; omega)
      · by_cases w2 : q = 47
        · rw [w2] at hq ⊢
          rw [show i = 0 by unfold z_fin at hq; omega, x5.1]
        · rw [f1 q w1 w2 (by unfold z_fin at hq; omega)]
    · have q2 : M2 321 = M 321 := by rw [f2 321 (by decide) (by decide), q321]
      refine gX10_redo_20 ?_
      rw [q2, z_wid (x := M 321 64 + 1) (by omega), z_wid (x := M 321 65 - 1) (by omega)]
      refine ⟨rfl, rfl, z_swap_R hR (j := M 321 64) (by omega) (fun q a1 a2 a3 a4 a5 a6 => by rw [z_upn a4, z_upn a4, f2 q a5 a6, f1 q a1 a2 a3]) (fun k hk => by rw [z_upn (by decide), z_upn (by decide), f2 1 (by decide) (by decide), x1 k hk]) (by rw [z_upn (by decide), z_upn (by decide), f2 1 (by decide) (by decide), x2]) (fun i hi => by rw [z_upn (by decide), z_upn (by decide), f2 48 (by decide) (by decide), x3 i hi]) (by rw [z_upn (by decide), z_upn (by decide), f2 48 (by decide) (by decide), x4]) (by rw [z_upn (by decide), z_upn (by decide), f2 47 (by decide) (by decide), x5.1]) (fun k a b => by rw [z_upi b rfl, z_upi a rfl, q2]) ?_ ?_ (fun k a b => ?_) (fun k hk => ?_) (fun k a b => ?_) (fun k hk => ?_)⟩
      · rw [z_upn (q := 47) (by decide), z_upn (q := 47) (by decide), f2 47 (by decide) (by decide), x5.2.1, x5.2.2, z_upi (by decide) rfl, z_ups, z_ups]
        exact ⟨rfl, rfl⟩
      · rw [z_upi (by decide) rfl, z_ups, z_ups]
        omega
      · rw [z_upn (by decide), z_upn (by decide), v1 k a b, f1 345 (by decide) (by decide) (by decide)]
      · rw [z_upn (by decide), z_upn (by decide), v2 k hk, f1 342 (by decide) (by decide) (by decide)]
      · rw [z_upn (by decide), z_upn (by decide), v3 k a b, f1 342 (by decide) (by decide) (by decide)]
      · rw [z_upn (by decide), z_upn (by decide), v4 k hk, f1 345 (by decide) (by decide) (by decide)]
  · refine ⟨0, rfl, rfl, gX10_redo_0 (fun q => absurd (by omega) q) (fun _ => ⟨rfl, rfl, hR⟩)⟩
end
