/-! THE CALLS: seen, untell, later -/
section
variable {xs : List Int} {d : Nat} {M : z_M}
theorem z_R_s {M' : z_M} (hR : z_R M) (f : ∀ q, ¬ (294 ≤ q ∧ q ≤ 300) → ¬ (349 ≤ q ∧ q ≤ 354) → q ≠ 321 → M' q = M q) (f1 : ∀ j, j < 6 → M' 294 j = M 294 j) (f2 : ∀ j, j ≠ 76 → j ≠ 77 → M' 321 j = M 321 j) (s : z_Rs M') : z_R M' := by
  have c : z_cfe M M' := ⟨fun k hk => f2 k (by omega) (by omega), f _ (by omega) (by omega) (by omega), f _ (by omega) (by omega) (by omega), f _ (by omega) (by omega) (by omega), f _ (by omega) (by omega) (by omega), f _ (by omega) (by omega) (by omega), f _ (by omega) (by omega) (by omega), f _ (by omega) (by omega) (by omega)⟩
  have o1 := f 1 (by omega) (by omega) (by omega)
  have F : z_fix M' := z_fix_gen (z_R_F hR) (fun q i hq => by
    by_cases w1 : q = 321
    · rw [w1] at hq ⊢
      exact f2 i (by unfold z_fin at hq; omega) (by unfold z_fin at hq; omega)
    · by_cases w2 : q = 294
      · rw [w2] at hq ⊢
        exact f1 i (by unfold z_fin at hq; omega)
      · rw [f q (by unfold z_fin at hq; omega) (by unfold z_fin at hq; omega) w1])
  have hk := z_hk_b (z_R_k hR)
  refine z_R_mk c hR F (z_Rg_q (z_R_Rg hR) c ⟨by rw [o1], by rw [o1]⟩ (by rw [f 34 (by omega) (by omega) (by omega)]) (f2 49 (by omega) (by omega)) (fun q a b => f q (by omega) (by omega) (by omega))) (z_Rn_q (z_R_Rn hR) c (by rw [o1]) (f _ (by omega) (by omega) (by omega)) (fun q a b => f q (by omega) (by omega) (by omega))) (z_Rp_q (z_R_Rp hR) c F (by rw [o1]) (f _ (by omega) (by omega) (by omega)) (f _ (by omega) (by omega) (by omega)) ⟨f2 _ (by omega) (by omega), f2 _ (by omega) (by omega)⟩ (f _ (by omega) (by omega) (by omega)) (fun q h hh _ a b => by have := z_hk_b hh; exact f q (by omega) (by omega) (by omega))) (z_Rb_q (z_R_Rb hR) c (by rw [o1]) (f _ (by omega) (by omega) (by omega)) (f _ (by omega) (by omega) (by omega)) (fun q a b => f q (by omega) (by omega) (by omega))) s (z_Rl_q (z_R_Rl hR) (by rw [o1]) (f2 _ (by omega) (by omega)) (f _ (by omega) (by omega) (by omega)) (f _ (by omega) (by omega) (by omega))) (z_Rt_q (z_R_Rt hR) (by rw [f 30 (by omega) (by omega) (by omega)]) (by rw [f 33 (by omega) (by omega) (by omega)]; exact ⟨rfl, rfl⟩) ⟨f2 _ (by omega) (by omega), f2 _ (by omega) (by omega), f2 _ (by omega) (by omega)⟩ (f _ (by omega) (by omega) (by omega)) (f _ (by omega) (by omega) (by omega)) (f _ (by omega) (by omega) (by omega))) (z_Rz_q (z_R_Z hR) (f _ (by omega) (by omega) (by omega)) (f _ (by omega) (by omega) (by omega)))
set_option maxRecDepth 20000 in
theorem gX9_later_0 {xs : List Int} {d : Nat} {M : z_M} {P : Option z_V → z_L → z_M → Prop} {a1 : Int} (hF : z_fix M) 
    (l1 : (a1 < 0) → P (some (0, (-1))) z_LL M)
    (l2 : (¬ (a1 < 0)) → (1000 < a1) → P (some (0, (-1))) z_LL M)
    (l3 : (¬ (a1 < 0)) → (¬ (1000 < a1)) → ((z_w ((M 294 7) + a1)) ≤ 100000) → P (some (0, (z_w ((M 294 7) + a1)))) z_LL (z_up M 294 7 (z_w ((M 294 7) + a1))))
    (l4 : (¬ (a1 < 0)) → (¬ (1000 < a1)) → (¬ ((z_w ((M 294 7) + a1)) ≤ 100000)) → P (some (0, (-1))) z_LL M) :
    wp xs d mX9_later 0 [(2, 1), (0, a1)] [] z_LL M P := by
  refine wp_run 1 (pc' := 1) (ls' := [(2, 1), (0, a1)]) (st' := [(0, a1)]) rfl ?_
  refine wp_if1 rfl rfl rfl (fun (c1 : a1 < 0) => ?_) (fun (c1 : ¬ (a1 < 0)) => ?_)
  · refine wp_run 1 (pc' := 27) (ls' := [(2, 1), (0, a1)]) (st' := [(0, (-1))]) rfl ?_
    exact wp_ret rfl rfl (l1 c1)
  · refine wp_run 2 (pc' := 8) (ls' := [(2, 1), (0, a1)]) (st' := [(0, 1000), (0, a1)]) rfl ?_
    refine wp_if2 rfl rfl rfl (fun (c2 : 1000 < a1) => ?_) (fun (c2 : ¬ (1000 < a1)) => ?_)
    · refine wp_run 1 (pc' := 27) (ls' := [(2, 1), (0, a1)]) (st' := [(0, (-1))]) rfl ?_
      exact wp_ret rfl rfl (l2 c1 c2)
    · refine wp_run 1 (pc' := 12) (ls' := [(2, 1), (0, a1)]) (st' := [(2, 1)]) rfl ?_
      refine wp_gf (pc' := 15) (t := 2) (v := 294) rfl rfl (by decide) rfl rfl (fx_1_9 hF) ?_
      refine wp_gf (pc' := 18) (t := 0) (v := (M 294 7)) rfl rfl (by decide) rfl rfl rfl ?_
      refine wp_run 3 (pc' := 23) (ls' := [(2, 1), (0, a1)]) (st' := [(0, 100000), (0, (z_w ((M 294 7) + a1)))]) rfl ?_
      refine wp_if2 rfl rfl rfl (fun (c3 : (z_w ((M 294 7) + a1)) ≤ 100000) => ?_) (fun (c3 : ¬ ((z_w ((M 294 7) + a1)) ≤ 100000)) => ?_)
      · refine wp_run 1 (pc' := 29) (ls' := [(2, 1), (0, a1)]) (st' := [(2, 1)]) rfl ?_
        refine wp_gf (pc' := 32) (t := 2) (v := 294) rfl rfl (by decide) rfl rfl (fx_1_9 hF) ?_
        refine wp_run 1 (pc' := 33) (ls' := [(2, 1), (0, a1)]) (st' := [(2, 294), (2, 294)]) rfl ?_
        refine wp_gf (pc' := 36) (t := 0) (v := (M 294 7)) rfl rfl (by decide) rfl rfl rfl ?_
        refine wp_run 2 (pc' := 38) (ls' := [(2, 1), (0, a1)]) (st' := [(0, (z_w ((M 294 7) + a1))), (2, 294)]) rfl ?_
        refine wp_pf (pc' := 41) rfl rfl rfl rfl (fun z => absurd z (by decide)) (fun z => absurd z (by decide)) ?_
        refine wp_run 1 (pc' := 42) (ls' := [(2, 1), (0, a1)]) (st' := [(2, 1)]) rfl ?_
        refine wp_gf (pc' := 45) (t := 2) (v := 294) rfl rfl (by decide) rfl rfl (z_upq (by decide) (fx_1_9 hF)) ?_
        refine wp_gf (pc' := 48) (t := 0) (v := (z_w ((M 294 7) + a1))) rfl rfl (by decide) rfl rfl z_ups ?_
        exact wp_ret rfl rfl (l3 c1 c2 c3)
      · refine wp_run 1 (pc' := 27) (ls' := [(2, 1), (0, a1)]) (st' := [(0, (-1))]) rfl ?_
        exact wp_ret rfl rfl (l4 c1 c2 c3)
set_option maxRecDepth 20000 in
theorem gX10_later_0 {xs : List Int} {d : Nat} {M : z_M} {P : Option z_V → z_L → z_M → Prop} {a1 : Int} 
    (l1 : (a1 < 0) → P (some (0, (-1))) z_LL M)
    (l2 : (¬ (a1 < 0)) → (1000 < a1) → P (some (0, (-1))) z_LL M)
    (l3 : (¬ (a1 < 0)) → (¬ (1000 < a1)) → ((z_w ((M 321 77) + a1)) ≤ 100000) → P (some (0, (z_w ((M 321 77) + a1)))) z_LL (z_up M 321 77 (z_w ((M 321 77) + a1))))
    (l4 : (¬ (a1 < 0)) → (¬ (1000 < a1)) → (¬ ((z_w ((M 321 77) + a1)) ≤ 100000)) → P (some (0, (-1))) z_LL M) :
    wp xs d mX10_later 0 [(2, 321), (0, a1)] [] z_LL M P := by
  refine wp_run 1 (pc' := 1) (ls' := [(2, 321), (0, a1)]) (st' := [(0, a1)]) rfl ?_
  refine wp_if1 rfl rfl rfl (fun (c1 : a1 < 0) => ?_) (fun (c1 : ¬ (a1 < 0)) => ?_)
  · refine wp_run 1 (pc' := 24) (ls' := [(2, 321), (0, a1)]) (st' := [(0, (-1))]) rfl ?_
    exact wp_ret rfl rfl (l1 c1)
  · refine wp_run 2 (pc' := 8) (ls' := [(2, 321), (0, a1)]) (st' := [(0, 1000), (0, a1)]) rfl ?_
    refine wp_if2 rfl rfl rfl (fun (c2 : 1000 < a1) => ?_) (fun (c2 : ¬ (1000 < a1)) => ?_)
    · refine wp_run 1 (pc' := 24) (ls' := [(2, 321), (0, a1)]) (st' := [(0, (-1))]) rfl ?_
      exact wp_ret rfl rfl (l2 c1 c2)
    · refine wp_run 1 (pc' := 12) (ls' := [(2, 321), (0, a1)]) (st' := [(2, 321)]) rfl ?_
      refine wp_gf (pc' := 15) (t := 0) (v := (M 321 77)) rfl rfl (by decide) rfl rfl rfl ?_
      refine wp_run 3 (pc' := 20) (ls' := [(2, 321), (0, a1)]) (st' := [(0, 100000), (0, (z_w ((M 321 77) + a1)))]) rfl ?_
      refine wp_if2 rfl rfl rfl (fun (c3 : (z_w ((M 321 77) + a1)) ≤ 100000) => ?_) (fun (c3 : ¬ ((z_w ((M 321 77) + a1)) ≤ 100000)) => ?_)
      · refine wp_run 2 (pc' := 27) (ls' := [(2, 321), (0, a1)]) (st' := [(2, 321), (2, 321)]) rfl ?_
        refine wp_gf (pc' := 30) (t := 0) (v := (M 321 77)) rfl rfl (by decide) rfl rfl rfl ?_
        refine wp_run 2 (pc' := 32) (ls' := [(2, 321), (0, a1)]) (st' := [(0, (z_w ((M 321 77) + a1))), (2, 321)]) rfl ?_
        refine wp_pf (pc' := 35) rfl rfl rfl rfl (fun z => absurd z (by decide)) (fun z => absurd z (by decide)) ?_
        refine wp_run 1 (pc' := 36) (ls' := [(2, 321), (0, a1)]) (st' := [(2, 321)]) rfl ?_
        refine wp_gf (pc' := 39) (t := 0) (v := (z_w ((M 321 77) + a1))) rfl rfl (by decide) rfl rfl z_ups ?_
        exact wp_ret rfl rfl (l3 c1 c2 c3)
      · refine wp_run 1 (pc' := 24) (ls' := [(2, 321), (0, a1)]) (st' := [(0, (-1))]) rfl ?_
        exact wp_ret rfl rfl (l4 c1 c2 c3)
set_option maxRecDepth 20000 in
theorem gX9_untell_0 {xs : List Int} {d : Nat} {M : z_M} {P : Option z_V → z_L → z_M → Prop} {a1 : Int} (hF : z_fix M) 
    (l1 : (a1 < 0) → P (some (0, 0)) z_LL M)
    (l2 : (¬ (a1 < 0)) → ((M 294 6) ≤ a1) → P (some (0, 0)) z_LL M)
    (b1 : (¬ (a1 < 0)) → (¬ ((M 294 6) ≤ a1)) → 0 ≤ a1 ∧ a1 < 30)
    (l3 : (¬ (a1 < 0)) → (¬ ((M 294 6) ≤ a1)) → ((M 300 a1) = (-1)) → P (some (0, 1)) z_LL (z_up M 300 a1 (M 294 7)))
    (l4 : (¬ (a1 < 0)) → (¬ ((M 294 6) ≤ a1)) → (¬ ((M 300 a1) = (-1))) → P (some (0, 0)) z_LL M) :
    wp xs (d + 1) mX9_untell 0 [(2, 1), (0, a1)] [] z_LL M P := by
  refine wp_run 1 (pc' := 1) (ls' := [(2, 1), (0, a1)]) (st' := [(2, 1)]) rfl ?_
  refine wp_gf (pc' := 4) (t := 2) (v := 294) rfl rfl (by decide) rfl rfl (fx_1_9 hF) ?_
  refine wp_run 1 (pc' := 5) (ls' := [(2, 1), (0, a1)]) (st' := [(0, a1), (2, 294)]) rfl ?_
  refine wp_callv (pc' := 8) (as := [(2, 294), (0, a1)]) (rest := []) (ls1 := [(2, 294), (0, a1)]) rfl rfl rfl rfl rfl rfl ?_
  refine wp_run 1 (pc' := 1) (ls' := [(2, 294), (0, a1)]) (st' := [(0, a1)]) rfl ?_
  refine wp_if1 rfl rfl rfl (fun (c1 : a1 < 0) => ?_) (fun (c1 : ¬ (a1 < 0)) => ?_)
  · refine wp_run 1 (pc' := 23) (ls' := [(2, 294), (0, a1)]) (st' := [(0, 0)]) rfl ?_
    refine wp_ret rfl rfl ?_
    show wp xs _ mX9_untell 8 [(2, 1), (0, a1)] [(0, 0)] z_LL M _
    exact wp_ret rfl rfl (l1 c1)
  · refine wp_run 2 (pc' := 6) (ls' := [(2, 294), (0, a1)]) (st' := [(2, 294), (0, a1)]) rfl ?_
    refine wp_gf (pc' := 9) (t := 0) (v := (M 294 6)) rfl rfl (by decide) rfl rfl rfl ?_
    refine wp_if2 rfl rfl rfl (fun (c2 : (M 294 6) ≤ a1) => ?_) (fun (c2 : ¬ ((M 294 6) ≤ a1)) => ?_)
    · refine wp_run 1 (pc' := 23) (ls' := [(2, 294), (0, a1)]) (st' := [(0, 0)]) rfl ?_
      refine wp_ret rfl rfl ?_
      show wp xs _ mX9_untell 8 [(2, 1), (0, a1)] [(0, 0)] z_LL M _
      exact wp_ret rfl rfl (l2 c1 c2)
    · refine wp_run 1 (pc' := 13) (ls' := [(2, 294), (0, a1)]) (st' := [(2, 294)]) rfl ?_
      refine wp_gf (pc' := 16) (t := 2) (v := 300) rfl rfl (by decide) rfl rfl (fx_294_5 hF) ?_
      refine wp_run 1 (pc' := 17) (ls' := [(2, 294), (0, a1)]) (st' := [(0, a1), (2, 300)]) rfl ?_
      refine wp_iald (pc' := 18) (v := (M 300 a1)) rfl rfl rfl (b1 c1 c2) rfl ?_
      refine wp_run 1 (pc' := 19) (ls' := [(2, 294), (0, a1)]) (st' := [(0, (-1)), (0, (M 300 a1))]) rfl ?_
      refine wp_if2 rfl rfl rfl (fun (c3 : (M 300 a1) = (-1)) => ?_) (fun (c3 : ¬ ((M 300 a1) = (-1))) => ?_)
      · refine wp_run 1 (pc' := 25) (ls' := [(2, 294), (0, a1)]) (st' := [(2, 294)]) rfl ?_
        refine wp_gf (pc' := 28) (t := 2) (v := 300) rfl rfl (by decide) rfl rfl (fx_294_5 hF) ?_
        refine wp_run 2 (pc' := 30) (ls' := [(2, 294), (0, a1)]) (st' := [(2, 294), (0, a1), (2, 300)]) rfl ?_
        refine wp_gf (pc' := 33) (t := 0) (v := (M 294 7)) rfl rfl (by decide) rfl rfl rfl ?_
        refine wp_iast (pc' := 34) rfl rfl rfl (b1 c1 c2) ?_
        refine wp_run 1 (pc' := 35) (ls' := [(2, 294), (0, a1)]) (st' := [(0, 1)]) rfl ?_
        refine wp_ret rfl rfl ?_
        show wp xs _ mX9_untell 8 [(2, 1), (0, a1)] [(0, 1)] z_LL (z_up M 300 a1 (M 294 7)) _
        exact wp_ret rfl rfl (l3 c1 c2 c3)
      · refine wp_run 1 (pc' := 23) (ls' := [(2, 294), (0, a1)]) (st' := [(0, 0)]) rfl ?_
        refine wp_ret rfl rfl ?_
        show wp xs _ mX9_untell 8 [(2, 1), (0, a1)] [(0, 0)] z_LL M _
        exact wp_ret rfl rfl (l4 c1 c2 c3)
set_option maxRecDepth 20000 in
theorem gX10_untell_0 {xs : List Int} {d : Nat} {M : z_M} {P : Option z_V → z_L → z_M → Prop} {a1 : Int} (hF : z_fix M) 
    (l1 : (¬ (0 ≤ a1 ∧ a1 ≤ (z_w ((M 321 76) - 1)))) → P (some (0, 0)) z_LL M)
    (b1 : ((0 ≤ a1 ∧ a1 ≤ (z_w ((M 321 76) - 1)))) → 0 ≤ a1 ∧ a1 < 30)
    (l2 : ((0 ≤ a1 ∧ a1 ≤ (z_w ((M 321 76) - 1)))) → ((M 353 a1) < 0) → P (some (0, 1)) z_LL (z_up M 353 a1 (M 321 77)))
    (l3 : ((0 ≤ a1 ∧ a1 ≤ (z_w ((M 321 76) - 1)))) → (¬ ((M 353 a1) < 0)) → P (some (0, 0)) z_LL M) :
    wp xs (d + 1) mX10_untell 0 [(2, 321), (0, a1)] [] z_LL M P := by
  refine wp_run 3 (pc' := 3) (ls' := [(2, 321), (0, a1)]) (st' := [(2, 321), (0, 0), (0, a1)]) rfl ?_
  refine wp_gf (pc' := 6) (t := 0) (v := (M 321 76)) rfl rfl (by decide) rfl rfl rfl ?_
  refine wp_run 2 (pc' := 8) (ls' := [(2, 321), (0, a1)]) (st' := [(0, (z_w ((M 321 76) - 1))), (0, 0), (0, a1)]) rfl ?_
  refine wp_callv (pc' := 11) (as := [(0, a1), (0, 0), (0, (z_w ((M 321 76) - 1)))]) (rest := []) (ls1 := [(0, a1), (0, 0), (0, (z_w ((M 321 76) - 1)))]) rfl rfl rfl rfl rfl rfl ?_
  refine s_X10_isIn  ?_
  show wp xs _ mX10_untell 11 [(2, 321), (0, a1)] [(0, (z_b (0 ≤ a1 ∧ a1 ≤ (z_w ((M 321 76) - 1)))))] z_LL M _
  refine wp_be rfl rfl rfl (fun (c1 : ¬ (0 ≤ a1 ∧ a1 ≤ (z_w ((M 321 76) - 1)))) => ?_) (fun (c1 : (0 ≤ a1 ∧ a1 ≤ (z_w ((M 321 76) - 1)))) => ?_)
  · refine wp_run 1 (pc' := 24) (ls' := [(2, 321), (0, a1)]) (st' := [(0, 0)]) rfl ?_
    exact wp_ret rfl rfl (l1 c1)
  · refine wp_run 1 (pc' := 15) (ls' := [(2, 321), (0, a1)]) (st' := [(2, 321)]) rfl ?_
    refine wp_gf (pc' := 18) (t := 2) (v := 353) rfl rfl (by decide) rfl rfl (fx_321_74 hF) ?_
    refine wp_run 1 (pc' := 19) (ls' := [(2, 321), (0, a1)]) (st' := [(0, a1), (2, 353)]) rfl ?_
    refine wp_iald (pc' := 20) (v := (M 353 a1)) rfl rfl rfl (b1 c1) rfl ?_
    refine wp_if1 rfl rfl rfl (fun (c2 : (M 353 a1) < 0) => ?_) (fun (c2 : ¬ ((M 353 a1) < 0)) => ?_)
    · refine wp_run 1 (pc' := 26) (ls' := [(2, 321), (0, a1)]) (st' := [(2, 321)]) rfl ?_
      refine wp_gf (pc' := 29) (t := 2) (v := 353) rfl rfl (by decide) rfl rfl (fx_321_74 hF) ?_
      refine wp_run 2 (pc' := 31) (ls' := [(2, 321), (0, a1)]) (st' := [(2, 321), (0, a1), (2, 353)]) rfl ?_
      refine wp_gf (pc' := 34) (t := 0) (v := (M 321 77)) rfl rfl (by decide) rfl rfl rfl ?_
      refine wp_iast (pc' := 35) rfl rfl rfl (b1 c1) ?_
      refine wp_run 1 (pc' := 36) (ls' := [(2, 321), (0, a1)]) (st' := [(0, 1)]) rfl ?_
      exact wp_ret rfl rfl (l2 c1 c2)
    · refine wp_run 1 (pc' := 24) (ls' := [(2, 321), (0, a1)]) (st' := [(0, 0)]) rfl ?_
      exact wp_ret rfl rfl (l3 c1 c2)
set_option maxRecDepth 20000 in
theorem gX9_seen_0 {xs : List Int} {d : Nat} {M : z_M} {P : Option z_V → z_L → z_M → Prop} {a1 : Int} {a2 : Int} {a3 : Int} {a4 : Int} (hF : z_fix M) (hg1 : z_gor M (M 1 0))
    (l1 : (a1 < 0) → P (some (0, (-1))) z_LL M)
    (l2 : (¬ (a1 < 0)) → (9 < a1) → P (some (0, (-1))) z_LL M)
    (l3 : (¬ (a1 < 0)) → (¬ (9 < a1)) → (a2 < 0) → P (some (0, (-1))) z_LL M)
    (l4 : (¬ (a1 < 0)) → (¬ (9 < a1)) → (¬ (a2 < 0)) → ((M (M 1 0) 12) ≤ a2) → P (some (0, (-1))) z_LL M)
    (l5 : (¬ (a1 < 0)) → (¬ (9 < a1)) → (¬ (a2 < 0)) → (¬ ((M (M 1 0) 12) ≤ a2)) → (a3 < 0) → P (some (0, (-1))) z_LL M)
    (l6 : (¬ (a1 < 0)) → (¬ (9 < a1)) → (¬ (a2 < 0)) → (¬ ((M (M 1 0) 12) ≤ a2)) → (¬ (a3 < 0)) → ((z_w ((M (M 1 0) 10) * (M (M 1 0) 11))) ≤ a3) → P (some (0, (-1))) z_LL M)
    (b1 : (¬ (a1 < 0)) → (¬ (9 < a1)) → (¬ (a2 < 0)) → (¬ ((M (M 1 0) 12) ≤ a2)) → (¬ (a3 < 0)) → (¬ ((z_w ((M (M 1 0) 10) * (M (M 1 0) 11))) ≤ a3)) → ((M 294 6) < 30) → 0 ≤ (M 294 6) ∧ (M 294 6) < 30)
    (l7 : (¬ (a1 < 0)) → (¬ (9 < a1)) → (¬ (a2 < 0)) → (¬ ((M (M 1 0) 12) ≤ a2)) → (¬ (a3 < 0)) → (¬ ((z_w ((M (M 1 0) 10) * (M (M 1 0) 11))) ≤ a3)) → ((M 294 6) < 30) → P (some (0, (z_w ((z_w ((M 294 6) + 1)) - 1)))) z_LL (z_up (z_up (z_up (z_up (z_up (z_up (z_up M 295 (M 294 6) a1) 296 (M 294 6) a2) 297 (M 294 6) a3) 298 (M 294 6) (z_and a4 1)) 299 (M 294 6) (M 294 7)) 300 (M 294 6) (-1)) 294 6 (z_w ((M 294 6) + 1))))
    (l8 : (¬ (a1 < 0)) → (¬ (9 < a1)) → (¬ (a2 < 0)) → (¬ ((M (M 1 0) 12) ≤ a2)) → (¬ (a3 < 0)) → (¬ ((z_w ((M (M 1 0) 10) * (M (M 1 0) 11))) ≤ a3)) → (¬ ((M 294 6) < 30)) → P (some (0, (-1))) z_LL M) :
    wp xs (d + 2) mX9_seen 0 [(2, 1), (0, a1), (0, a2), (0, a3), (0, a4)] [] z_LL M P := by
  refine wp_run 1 (pc' := 1) (ls' := [(2, 1), (0, a1), (0, a2), (0, a3), (0, a4)]) (st' := [(0, a1)]) rfl ?_
  refine wp_if1 rfl rfl rfl (fun (c1 : a1 < 0) => ?_) (fun (c1 : ¬ (a1 < 0)) => ?_)
  · refine wp_run 1 (pc' := 33) (ls' := [(2, 1), (0, a1), (0, a2), (0, a3), (0, a4)]) (st' := [(0, (-1))]) rfl ?_
    exact wp_ret rfl rfl (l1 c1)
  · refine wp_run 2 (pc' := 7) (ls' := [(2, 1), (0, a1), (0, a2), (0, a3), (0, a4)]) (st' := [(0, 9), (0, a1)]) rfl ?_
    refine wp_if2 rfl rfl rfl (fun (c2 : 9 < a1) => ?_) (fun (c2 : ¬ (9 < a1)) => ?_)
    · refine wp_run 1 (pc' := 33) (ls' := [(2, 1), (0, a1), (0, a2), (0, a3), (0, a4)]) (st' := [(0, (-1))]) rfl ?_
      exact wp_ret rfl rfl (l2 c1 c2)
    · refine wp_run 1 (pc' := 11) (ls' := [(2, 1), (0, a1), (0, a2), (0, a3), (0, a4)]) (st' := [(2, 1)]) rfl ?_
      refine wp_gf (pc' := 14) (t := 2) (v := (M 1 0)) rfl rfl (by decide) rfl rfl rfl ?_
      refine wp_run 1 (pc' := 15) (ls' := [(2, 1), (0, a1), (0, a2), (0, a3), (0, a4)]) (st' := [(0, a2), (2, (M 1 0))]) rfl ?_
      refine wp_callv (pc' := 18) (as := [(2, (M 1 0)), (0, a2)]) (rest := []) (ls1 := [(2, (M 1 0)), (0, a2)]) rfl rfl rfl rfl (z_args_v rfl rfl rfl rfl (Nat.le_of_ble_eq_true rfl) rfl (by decide) (z_gl0 hg1)) rfl ?_
      refine wp_run 1 (pc' := 1) (ls' := [(2, (M 1 0)), (0, a2)]) (st' := [(0, a2)]) rfl ?_
      refine wp_if1 rfl rfl rfl (fun (c3 : a2 < 0) => ?_) (fun (c3 : ¬ (a2 < 0)) => ?_)
      · refine wp_run 1 (pc' := 17) (ls' := [(2, (M 1 0)), (0, a2)]) (st' := [(0, 0)]) rfl ?_
        refine wp_ret rfl rfl ?_
        show wp xs _ mX9_seen 18 [(2, 1), (0, a1), (0, a2), (0, a3), (0, a4)] [(0, 0)] z_LL M _
        refine wp_run 2 (pc' := 33) (ls' := [(2, 1), (0, a1), (0, a2), (0, a3), (0, a4)]) (st' := [(0, (-1))]) rfl ?_
        exact wp_ret rfl rfl (l3 c1 c2 c3)
      · refine wp_run 2 (pc' := 6) (ls' := [(2, (M 1 0)), (0, a2)]) (st' := [(2, (M 1 0)), (0, a2)]) rfl ?_
        refine wp_gf (pc' := 9) (t := 0) (v := (M (M 1 0) 12)) rfl rfl (by decide) rfl (z_gl0 hg1) rfl ?_
        refine wp_if2 rfl rfl rfl (fun (c4 : (M (M 1 0) 12) ≤ a2) => ?_) (fun (c4 : ¬ ((M (M 1 0) 12) ≤ a2)) => ?_)
        · refine wp_run 1 (pc' := 17) (ls' := [(2, (M 1 0)), (0, a2)]) (st' := [(0, 0)]) rfl ?_
          refine wp_ret rfl rfl ?_
          show wp xs _ mX9_seen 18 [(2, 1), (0, a1), (0, a2), (0, a3), (0, a4)] [(0, 0)] z_LL M _
          refine wp_run 2 (pc' := 33) (ls' := [(2, 1), (0, a1), (0, a2), (0, a3), (0, a4)]) (st' := [(0, (-1))]) rfl ?_
          exact wp_ret rfl rfl (l4 c1 c2 c3 c4)
        · refine wp_run 2 (pc' := 17) (ls' := [(2, (M 1 0)), (0, a2)]) (st' := [(0, 1)]) rfl ?_
          refine wp_ret rfl rfl ?_
          show wp xs _ mX9_seen 18 [(2, 1), (0, a1), (0, a2), (0, a3), (0, a4)] [(0, 1)] z_LL M _
          refine wp_run 2 (pc' := 22) (ls' := [(2, 1), (0, a1), (0, a2), (0, a3), (0, a4)]) (st' := [(2, 1)]) rfl ?_
          refine wp_gf (pc' := 25) (t := 2) (v := (M 1 0)) rfl rfl (by decide) rfl rfl rfl ?_
          refine wp_run 1 (pc' := 26) (ls' := [(2, 1), (0, a1), (0, a2), (0, a3), (0, a4)]) (st' := [(0, a3), (2, (M 1 0))]) rfl ?_
          refine wp_callv (pc' := 29) (as := [(2, (M 1 0)), (0, a3)]) (rest := []) (ls1 := [(2, (M 1 0)), (0, a3)]) rfl rfl rfl rfl (z_args_v rfl rfl rfl rfl (Nat.le_of_ble_eq_true rfl) rfl (by decide) (z_gl0 hg1)) rfl ?_
          refine wp_run 1 (pc' := 1) (ls' := [(2, (M 1 0)), (0, a3)]) (st' := [(0, a3)]) rfl ?_
          refine wp_if1 rfl rfl rfl (fun (c5 : a3 < 0) => ?_) (fun (c5 : ¬ (a3 < 0)) => ?_)
          · refine wp_run 1 (pc' := 17) (ls' := [(2, (M 1 0)), (0, a3)]) (st' := [(0, 0)]) rfl ?_
            refine wp_ret rfl rfl ?_
            show wp xs _ mX9_seen 29 [(2, 1), (0, a1), (0, a2), (0, a3), (0, a4)] [(0, 0)] z_LL M _
            refine wp_run 2 (pc' := 33) (ls' := [(2, 1), (0, a1), (0, a2), (0, a3), (0, a4)]) (st' := [(0, (-1))]) rfl ?_
            exact wp_ret rfl rfl (l5 c1 c2 c3 c4 c5)
          · refine wp_run 2 (pc' := 6) (ls' := [(2, (M 1 0)), (0, a3)]) (st' := [(2, (M 1 0)), (0, a3)]) rfl ?_
            refine wp_callv (pc' := 9) (as := [(2, (M 1 0))]) (rest := [(0, a3)]) (ls1 := [(2, (M 1 0))]) rfl rfl rfl rfl (z_args_v rfl rfl rfl rfl (Nat.le_of_ble_eq_true rfl) rfl (by decide) (z_gl0 hg1)) rfl ?_
            refine wp_run 1 (pc' := 1) (ls' := [(2, (M 1 0))]) (st' := [(2, (M 1 0))]) rfl ?_
            refine wp_gf (pc' := 4) (t := 0) (v := (M (M 1 0) 10)) rfl rfl (by decide) rfl (z_gl0 hg1) rfl ?_
            refine wp_run 1 (pc' := 5) (ls' := [(2, (M 1 0))]) (st' := [(2, (M 1 0)), (0, (M (M 1 0) 10))]) rfl ?_
            refine wp_gf (pc' := 8) (t := 0) (v := (M (M 1 0) 11)) rfl rfl (by decide) rfl (z_gl0 hg1) rfl ?_
            refine wp_run 1 (pc' := 9) (ls' := [(2, (M 1 0))]) (st' := [(0, (z_w ((M (M 1 0) 10) * (M (M 1 0) 11))))]) rfl ?_
            refine wp_ret rfl rfl ?_
            show wp xs _ mX1_hasCell 9 [(2, (M 1 0)), (0, a3)] [(0, (z_w ((M (M 1 0) 10) * (M (M 1 0) 11)))), (0, a3)] z_LL M _
            refine wp_if2 rfl rfl rfl (fun (c6 : (z_w ((M (M 1 0) 10) * (M (M 1 0) 11))) ≤ a3) => ?_) (fun (c6 : ¬ ((z_w ((M (M 1 0) 10) * (M (M 1 0) 11))) ≤ a3)) => ?_)
            · refine wp_run 1 (pc' := 17) (ls' := [(2, (M 1 0)), (0, a3)]) (st' := [(0, 0)]) rfl ?_
              refine wp_ret rfl rfl ?_
              show wp xs _ mX9_seen 29 [(2, 1), (0, a1), (0, a2), (0, a3), (0, a4)] [(0, 0)] z_LL M _
              refine wp_run 2 (pc' := 33) (ls' := [(2, 1), (0, a1), (0, a2), (0, a3), (0, a4)]) (st' := [(0, (-1))]) rfl ?_
              exact wp_ret rfl rfl (l6 c1 c2 c3 c4 c5 c6)
            · refine wp_run 2 (pc' := 17) (ls' := [(2, (M 1 0)), (0, a3)]) (st' := [(0, 1)]) rfl ?_
              refine wp_ret rfl rfl ?_
              show wp xs _ mX9_seen 29 [(2, 1), (0, a1), (0, a2), (0, a3), (0, a4)] [(0, 1)] z_LL M _
              refine wp_run 2 (pc' := 35) (ls' := [(2, 1), (0, a1), (0, a2), (0, a3), (0, a4)]) (st' := [(2, 1)]) rfl ?_
              refine wp_gf (pc' := 38) (t := 2) (v := 294) rfl rfl (by decide) rfl rfl (fx_1_9 hF) ?_
              refine wp_run 4 (pc' := 43) (ls' := [(2, 1), (0, a1), (0, a2), (0, a3), (0, a4)]) (st' := [(0, a4), (0, a3), (0, a2), (0, a1), (2, 294)]) rfl ?_
              refine wp_callv (pc' := 46) (as := [(2, 294), (0, a1), (0, a2), (0, a3), (0, a4)]) (rest := []) (ls1 := [(2, 294), (0, a1), (0, a2), (0, a3), (0, a4)]) rfl rfl rfl rfl rfl rfl ?_
              refine wp_run 1 (pc' := 1) (ls' := [(2, 294), (0, a1), (0, a2), (0, a3), (0, a4)]) (st' := [(2, 294)]) rfl ?_
              refine wp_gf (pc' := 4) (t := 0) (v := (M 294 6)) rfl rfl (by decide) rfl rfl rfl ?_
              refine wp_run 1 (pc' := 6) (ls' := [(2, 294), (0, a1), (0, a2), (0, a3), (0, a4)]) (st' := [(0, 30), (0, (M 294 6))]) rfl ?_
              refine wp_if2 rfl rfl rfl (fun (c7 : (M 294 6) < 30) => ?_) (fun (c7 : ¬ ((M 294 6) < 30)) => ?_)
              · refine wp_run 1 (pc' := 12) (ls' := [(2, 294), (0, a1), (0, a2), (0, a3), (0, a4)]) (st' := [(2, 294)]) rfl ?_
                refine wp_gf (pc' := 15) (t := 2) (v := 295) rfl rfl (by decide) rfl rfl (fx_294_0 hF) ?_
                refine wp_run 1 (pc' := 16) (ls' := [(2, 294), (0, a1), (0, a2), (0, a3), (0, a4)]) (st' := [(2, 294), (2, 295)]) rfl ?_
                refine wp_gf (pc' := 19) (t := 0) (v := (M 294 6)) rfl rfl (by decide) rfl rfl rfl ?_
                refine wp_run 1 (pc' := 20) (ls' := [(2, 294), (0, a1), (0, a2), (0, a3), (0, a4)]) (st' := [(0, a1), (0, (M 294 6)), (2, 295)]) rfl ?_
                refine wp_iast (pc' := 21) rfl rfl rfl (b1 c1 c2 c3 c4 c5 c6 c7) ?_
                refine wp_run 1 (pc' := 22) (ls' := [(2, 294), (0, a1), (0, a2), (0, a3), (0, a4)]) (st' := [(2, 294)]) rfl ?_
                refine wp_gf (pc' := 25) (t := 2) (v := 296) rfl rfl (by decide) rfl rfl (z_upq (by decide) (fx_294_1 hF)) ?_
                refine wp_run 1 (pc' := 26) (ls' := [(2, 294), (0, a1), (0, a2), (0, a3), (0, a4)]) (st' := [(2, 294), (2, 296)]) rfl ?_
                refine wp_gf (pc' := 29) (t := 0) (v := (M 294 6)) rfl rfl (by decide) rfl rfl (z_upq (by decide) rfl) ?_
                refine wp_run 1 (pc' := 30) (ls' := [(2, 294), (0, a1), (0, a2), (0, a3), (0, a4)]) (st' := [(0, a2), (0, (M 294 6)), (2, 296)]) rfl ?_
                refine wp_iast (pc' := 31) rfl rfl rfl (b1 c1 c2 c3 c4 c5 c6 c7) ?_
                refine wp_run 1 (pc' := 32) (ls' := [(2, 294), (0, a1), (0, a2), (0, a3), (0, a4)]) (st' := [(2, 294)]) rfl ?_
                refine wp_gf (pc' := 35) (t := 2) (v := 297) rfl rfl (by decide) rfl rfl (z_upq (by decide) (z_upq (by decide) (fx_294_2 hF))) ?_
                refine wp_run 1 (pc' := 36) (ls' := [(2, 294), (0, a1), (0, a2), (0, a3), (0, a4)]) (st' := [(2, 294), (2, 297)]) rfl ?_
                refine wp_gf (pc' := 39) (t := 0) (v := (M 294 6)) rfl rfl (by decide) rfl rfl (z_upq (by decide) (z_upq (by decide) rfl)) ?_
                refine wp_run 1 (pc' := 40) (ls' := [(2, 294), (0, a1), (0, a2), (0, a3), (0, a4)]) (st' := [(0, a3), (0, (M 294 6)), (2, 297)]) rfl ?_
                refine wp_iast (pc' := 41) rfl rfl rfl (b1 c1 c2 c3 c4 c5 c6 c7) ?_
                refine wp_run 1 (pc' := 42) (ls' := [(2, 294), (0, a1), (0, a2), (0, a3), (0, a4)]) (st' := [(2, 294)]) rfl ?_
                refine wp_gf (pc' := 45) (t := 2) (v := 298) rfl rfl (by decide) rfl rfl (z_upq (by decide) (z_upq (by decide) (z_upq (by decide) (fx_294_3 hF)))) ?_
                refine wp_run 1 (pc' := 46) (ls' := [(2, 294), (0, a1), (0, a2), (0, a3), (0, a4)]) (st' := [(2, 294), (2, 298)]) rfl ?_
                refine wp_gf (pc' := 49) (t := 0) (v := (M 294 6)) rfl rfl (by decide) rfl rfl (z_upq (by decide) (z_upq (by decide) (z_upq (by decide) rfl))) ?_
                refine wp_run 1 (pc' := 51) (ls' := [(2, 294), (0, a1), (0, a2), (0, a3), (0, a4)]) (st' := [(0, a4), (0, (M 294 6)), (2, 298)]) rfl ?_
                refine wp_bast (pc' := 52) rfl rfl rfl rfl (b1 c1 c2 c3 c4 c5 c6 c7) ?_
                show wp xs _ mX6_tell 52 [(2, 294), (0, a1), (0, a2), (0, a3), (0, a4)] [] z_LL (z_up (z_up (z_up (z_up M 295 (M 294 6) a1) 296 (M 294 6) a2) 297 (M 294 6) a3) 298 (M 294 6) (z_and a4 1)) _
                refine wp_run 1 (pc' := 53) (ls' := [(2, 294), (0, a1), (0, a2), (0, a3), (0, a4)]) (st' := [(2, 294)]) rfl ?_
                refine wp_gf (pc' := 56) (t := 2) (v := 299) rfl rfl (by decide) rfl rfl (z_upq (by decide) (z_upq (by decide) (z_upq (by decide) (z_upq (by decide) (fx_294_4 hF))))) ?_
                refine wp_run 1 (pc' := 57) (ls' := [(2, 294), (0, a1), (0, a2), (0, a3), (0, a4)]) (st' := [(2, 294), (2, 299)]) rfl ?_
                refine wp_gf (pc' := 60) (t := 0) (v := (M 294 6)) rfl rfl (by decide) rfl rfl (z_upq (by decide) (z_upq (by decide) (z_upq (by decide) (z_upq (by decide) rfl)))) ?_
                refine wp_run 1 (pc' := 61) (ls' := [(2, 294), (0, a1), (0, a2), (0, a3), (0, a4)]) (st' := [(2, 294), (0, (M 294 6)), (2, 299)]) rfl ?_
                refine wp_gf (pc' := 64) (t := 0) (v := (M 294 7)) rfl rfl (by decide) rfl rfl (z_upq (by decide) (z_upq (by decide) (z_upq (by decide) (z_upq (by decide) rfl)))) ?_
                refine wp_iast (pc' := 65) rfl rfl rfl (b1 c1 c2 c3 c4 c5 c6 c7) ?_
                refine wp_run 1 (pc' := 66) (ls' := [(2, 294), (0, a1), (0, a2), (0, a3), (0, a4)]) (st' := [(2, 294)]) rfl ?_
                refine wp_gf (pc' := 69) (t := 2) (v := 300) rfl rfl (by decide) rfl rfl (z_upq (by decide) (z_upq (by decide) (z_upq (by decide) (z_upq (by decide) (z_upq (by decide) (fx_294_5 hF)))))) ?_
                refine wp_run 1 (pc' := 70) (ls' := [(2, 294), (0, a1), (0, a2), (0, a3), (0, a4)]) (st' := [(2, 294), (2, 300)]) rfl ?_
                refine wp_gf (pc' := 73) (t := 0) (v := (M 294 6)) rfl rfl (by decide) rfl rfl (z_upq (by decide) (z_upq (by decide) (z_upq (by decide) (z_upq (by decide) (z_upq (by decide) rfl))))) ?_
                refine wp_run 1 (pc' := 74) (ls' := [(2, 294), (0, a1), (0, a2), (0, a3), (0, a4)]) (st' := [(0, (-1)), (0, (M 294 6)), (2, 300)]) rfl ?_
                refine wp_iast (pc' := 75) rfl rfl rfl (b1 c1 c2 c3 c4 c5 c6 c7) ?_
                refine wp_run 2 (pc' := 77) (ls' := [(2, 294), (0, a1), (0, a2), (0, a3), (0, a4)]) (st' := [(2, 294), (2, 294)]) rfl ?_
                refine wp_gf (pc' := 80) (t := 0) (v := (M 294 6)) rfl rfl (by decide) rfl rfl (z_upq (by decide) (z_upq (by decide) (z_upq (by decide) (z_upq (by decide) (z_upq (by decide) (z_upq (by decide) rfl)))))) ?_
                refine wp_run 2 (pc' := 82) (ls' := [(2, 294), (0, a1), (0, a2), (0, a3), (0, a4)]) (st' := [(0, (z_w ((M 294 6) + 1))), (2, 294)]) rfl ?_
                refine wp_pf (pc' := 85) rfl rfl rfl rfl (fun z => absurd z (by decide)) (fun z => absurd z (by decide)) ?_
                refine wp_run 1 (pc' := 86) (ls' := [(2, 294), (0, a1), (0, a2), (0, a3), (0, a4)]) (st' := [(2, 294)]) rfl ?_
                refine wp_gf (pc' := 89) (t := 0) (v := (z_w ((M 294 6) + 1))) rfl rfl (by decide) rfl rfl z_ups ?_
                refine wp_run 2 (pc' := 91) (ls' := [(2, 294), (0, a1), (0, a2), (0, a3), (0, a4)]) (st' := [(0, (z_w ((z_w ((M 294 6) + 1)) - 1)))]) rfl ?_
                refine wp_ret rfl rfl ?_
                show wp xs _ mX9_seen 46 [(2, 1), (0, a1), (0, a2), (0, a3), (0, a4)] [(0, (z_w ((z_w ((M 294 6) + 1)) - 1)))] z_LL (z_up (z_up (z_up (z_up (z_up (z_up (z_up M 295 (M 294 6) a1) 296 (M 294 6) a2) 297 (M 294 6) a3) 298 (M 294 6) (z_and a4 1)) 299 (M 294 6) (M 294 7)) 300 (M 294 6) (-1)) 294 6 (z_w ((M 294 6) + 1))) _
                exact wp_ret rfl rfl (l7 c1 c2 c3 c4 c5 c6 c7)
              · refine wp_run 1 (pc' := 10) (ls' := [(2, 294), (0, a1), (0, a2), (0, a3), (0, a4)]) (st' := [(0, (-1))]) rfl ?_
                refine wp_ret rfl rfl ?_
                show wp xs _ mX9_seen 46 [(2, 1), (0, a1), (0, a2), (0, a3), (0, a4)] [(0, (-1))] z_LL M _
                exact wp_ret rfl rfl (l8 c1 c2 c3 c4 c5 c6 c7)
set_option maxRecDepth 20000 in
theorem gX10_seen_0 {xs : List Int} {d : Nat} {M : z_M} {P : Option z_V → z_L → z_M → Prop} {a1 : Int} {a2 : Int} {a3 : Int} {a4 : Int} (hF : z_fix M) (hC : z_mc M) 
    (l1 : (¬ (0 ≤ a1 ∧ a1 ≤ 9)) → P (some (0, (-1))) z_LL M)
    (l2 : ((0 ≤ a1 ∧ a1 ≤ 9)) → (¬ (0 ≤ a2 ∧ a2 < M 321 48)) → P (some (0, (-1))) z_LL M)
    (l3 : ((0 ≤ a1 ∧ a1 ≤ 9)) → ((0 ≤ a2 ∧ a2 < M 321 48)) → (¬ (0 ≤ a3 ∧ a3 < M 321 46 * M 321 47)) → P (some (0, (-1))) z_LL M)
    (b1 : ((0 ≤ a1 ∧ a1 ≤ 9)) → ((0 ≤ a2 ∧ a2 < M 321 48)) → ((0 ≤ a3 ∧ a3 < M 321 46 * M 321 47)) → ((M 321 76) ≠ 30) → 0 ≤ (M 321 76) ∧ (M 321 76) < 30)
    (l4 : ((0 ≤ a1 ∧ a1 ≤ 9)) → ((0 ≤ a2 ∧ a2 < M 321 48)) → ((0 ≤ a3 ∧ a3 < M 321 46 * M 321 47)) → ((M 321 76) ≠ 30) → P (some (0, (z_w ((z_w ((M 321 76) + 1)) - 1)))) z_LL (z_up (z_up (z_up (z_up (z_up (z_up (z_up M 349 (M 321 76) a1) 350 (M 321 76) a2) 351 (M 321 76) a3) 354 (M 321 76) (z_and a4 1)) 352 (M 321 76) (M 321 77)) 353 (M 321 76) (-1)) 321 76 (z_w ((M 321 76) + 1))))
    (l5 : ((0 ≤ a1 ∧ a1 ≤ 9)) → ((0 ≤ a2 ∧ a2 < M 321 48)) → ((0 ≤ a3 ∧ a3 < M 321 46 * M 321 47)) → (¬ ((M 321 76) ≠ 30)) → P (some (0, (-1))) z_LL M) :
    wp xs (d + 2) mX10_seen 0 [(2, 321), (0, a1), (0, a2), (0, a3), (0, a4)] [] z_LL M P := by
  refine wp_run 3 (pc' := 4) (ls' := [(2, 321), (0, a1), (0, a2), (0, a3), (0, a4)]) (st' := [(0, 9), (0, 0), (0, a1)]) rfl ?_
  refine wp_callv (pc' := 7) (as := [(0, a1), (0, 0), (0, 9)]) (rest := []) (ls1 := [(0, a1), (0, 0), (0, 9)]) rfl rfl rfl rfl rfl rfl ?_
  refine s_X10_isIn  ?_
  show wp xs _ mX10_seen 7 [(2, 321), (0, a1), (0, a2), (0, a3), (0, a4)] [(0, (z_b (0 ≤ a1 ∧ a1 ≤ 9)))] z_LL M _
  refine wp_be rfl rfl rfl (fun (c1 : ¬ (0 ≤ a1 ∧ a1 ≤ 9)) => ?_) (fun (c1 : (0 ≤ a1 ∧ a1 ≤ 9)) => ?_)
  · refine wp_run 1 (pc' := 36) (ls' := [(2, 321), (0, a1), (0, a2), (0, a3), (0, a4)]) (st' := [(0, (-1))]) rfl ?_
    exact wp_ret rfl rfl (l1 c1)
  · refine wp_run 2 (pc' := 12) (ls' := [(2, 321), (0, a1), (0, a2), (0, a3), (0, a4)]) (st' := [(0, a2), (2, 321)]) rfl ?_
    refine wp_callv (pc' := 15) (as := [(2, 321), (0, a2)]) (rest := []) (ls1 := [(2, 321), (0, a2)]) rfl rfl rfl rfl rfl rfl ?_
    refine s_X10_isFlock hF hC ?_
    show wp xs _ mX10_seen 15 [(2, 321), (0, a1), (0, a2), (0, a3), (0, a4)] [(0, (z_b (0 ≤ a2 ∧ a2 < M 321 48)))] z_LL M _
    refine wp_be rfl rfl rfl (fun (c2 : ¬ (0 ≤ a2 ∧ a2 < M 321 48)) => ?_) (fun (c2 : (0 ≤ a2 ∧ a2 < M 321 48)) => ?_)
    · refine wp_run 1 (pc' := 36) (ls' := [(2, 321), (0, a1), (0, a2), (0, a3), (0, a4)]) (st' := [(0, (-1))]) rfl ?_
      exact wp_ret rfl rfl (l2 c1 c2)
    · refine wp_run 2 (pc' := 20) (ls' := [(2, 321), (0, a1), (0, a2), (0, a3), (0, a4)]) (st' := [(0, a3), (2, 321)]) rfl ?_
      refine wp_callv (pc' := 23) (as := [(2, 321), (0, a3)]) (rest := []) (ls1 := [(2, 321), (0, a3)]) rfl rfl rfl rfl rfl rfl ?_
      refine s_X10_isCell hF hC ?_
      show wp xs _ mX10_seen 23 [(2, 321), (0, a1), (0, a2), (0, a3), (0, a4)] [(0, (z_b (0 ≤ a3 ∧ a3 < M 321 46 * M 321 47)))] z_LL M _
      refine wp_be rfl rfl rfl (fun (c3 : ¬ (0 ≤ a3 ∧ a3 < M 321 46 * M 321 47)) => ?_) (fun (c3 : (0 ≤ a3 ∧ a3 < M 321 46 * M 321 47)) => ?_)
      · refine wp_run 1 (pc' := 36) (ls' := [(2, 321), (0, a1), (0, a2), (0, a3), (0, a4)]) (st' := [(0, (-1))]) rfl ?_
        exact wp_ret rfl rfl (l3 c1 c2 c3)
      · refine wp_run 1 (pc' := 27) (ls' := [(2, 321), (0, a1), (0, a2), (0, a3), (0, a4)]) (st' := [(2, 321)]) rfl ?_
        refine wp_gf (pc' := 30) (t := 0) (v := (M 321 76)) rfl rfl (by decide) rfl rfl rfl ?_
        refine wp_run 1 (pc' := 32) (ls' := [(2, 321), (0, a1), (0, a2), (0, a3), (0, a4)]) (st' := [(0, 30), (0, (M 321 76))]) rfl ?_
        refine wp_if2 rfl rfl rfl (fun (c4 : (M 321 76) ≠ 30) => ?_) (fun (c4 : ¬ ((M 321 76) ≠ 30)) => ?_)
        · refine wp_run 1 (pc' := 38) (ls' := [(2, 321), (0, a1), (0, a2), (0, a3), (0, a4)]) (st' := [(2, 321)]) rfl ?_
          refine wp_gf (pc' := 41) (t := 2) (v := 349) rfl rfl (by decide) rfl rfl (fx_321_70 hF) ?_
          refine wp_run 1 (pc' := 42) (ls' := [(2, 321), (0, a1), (0, a2), (0, a3), (0, a4)]) (st' := [(2, 321), (2, 349)]) rfl ?_
          refine wp_gf (pc' := 45) (t := 0) (v := (M 321 76)) rfl rfl (by decide) rfl rfl rfl ?_
          refine wp_run 1 (pc' := 46) (ls' := [(2, 321), (0, a1), (0, a2), (0, a3), (0, a4)]) (st' := [(0, a1), (0, (M 321 76)), (2, 349)]) rfl ?_
          refine wp_iast (pc' := 47) rfl rfl rfl (b1 c1 c2 c3 c4) ?_
          refine wp_run 1 (pc' := 48) (ls' := [(2, 321), (0, a1), (0, a2), (0, a3), (0, a4)]) (st' := [(2, 321)]) rfl ?_
          refine wp_gf (pc' := 51) (t := 2) (v := 350) rfl rfl (by decide) rfl rfl (z_upq (by decide) (fx_321_71 hF)) ?_
          refine wp_run 1 (pc' := 52) (ls' := [(2, 321), (0, a1), (0, a2), (0, a3), (0, a4)]) (st' := [(2, 321), (2, 350)]) rfl ?_
          refine wp_gf (pc' := 55) (t := 0) (v := (M 321 76)) rfl rfl (by decide) rfl rfl (z_upq (by decide) rfl) ?_
          refine wp_run 1 (pc' := 56) (ls' := [(2, 321), (0, a1), (0, a2), (0, a3), (0, a4)]) (st' := [(0, a2), (0, (M 321 76)), (2, 350)]) rfl ?_
          refine wp_iast (pc' := 57) rfl rfl rfl (b1 c1 c2 c3 c4) ?_
          refine wp_run 1 (pc' := 58) (ls' := [(2, 321), (0, a1), (0, a2), (0, a3), (0, a4)]) (st' := [(2, 321)]) rfl ?_
          refine wp_gf (pc' := 61) (t := 2) (v := 351) rfl rfl (by decide) rfl rfl (z_upq (by decide) (z_upq (by decide) (fx_321_72 hF))) ?_
          refine wp_run 1 (pc' := 62) (ls' := [(2, 321), (0, a1), (0, a2), (0, a3), (0, a4)]) (st' := [(2, 321), (2, 351)]) rfl ?_
          refine wp_gf (pc' := 65) (t := 0) (v := (M 321 76)) rfl rfl (by decide) rfl rfl (z_upq (by decide) (z_upq (by decide) rfl)) ?_
          refine wp_run 1 (pc' := 66) (ls' := [(2, 321), (0, a1), (0, a2), (0, a3), (0, a4)]) (st' := [(0, a3), (0, (M 321 76)), (2, 351)]) rfl ?_
          refine wp_iast (pc' := 67) rfl rfl rfl (b1 c1 c2 c3 c4) ?_
          refine wp_run 1 (pc' := 68) (ls' := [(2, 321), (0, a1), (0, a2), (0, a3), (0, a4)]) (st' := [(2, 321)]) rfl ?_
          refine wp_gf (pc' := 71) (t := 2) (v := 354) rfl rfl (by decide) rfl rfl (z_upq (by decide) (z_upq (by decide) (z_upq (by decide) (fx_321_75 hF)))) ?_
          refine wp_run 1 (pc' := 72) (ls' := [(2, 321), (0, a1), (0, a2), (0, a3), (0, a4)]) (st' := [(2, 321), (2, 354)]) rfl ?_
          refine wp_gf (pc' := 75) (t := 0) (v := (M 321 76)) rfl rfl (by decide) rfl rfl (z_upq (by decide) (z_upq (by decide) (z_upq (by decide) rfl))) ?_
          refine wp_run 1 (pc' := 77) (ls' := [(2, 321), (0, a1), (0, a2), (0, a3), (0, a4)]) (st' := [(0, a4), (0, (M 321 76)), (2, 354)]) rfl ?_
          refine wp_bast (pc' := 78) rfl rfl rfl rfl (b1 c1 c2 c3 c4) ?_
          show wp xs _ mX10_seen 78 [(2, 321), (0, a1), (0, a2), (0, a3), (0, a4)] [] z_LL (z_up (z_up (z_up (z_up M 349 (M 321 76) a1) 350 (M 321 76) a2) 351 (M 321 76) a3) 354 (M 321 76) (z_and a4 1)) _
          refine wp_run 1 (pc' := 79) (ls' := [(2, 321), (0, a1), (0, a2), (0, a3), (0, a4)]) (st' := [(2, 321)]) rfl ?_
          refine wp_gf (pc' := 82) (t := 2) (v := 352) rfl rfl (by decide) rfl rfl (z_upq (by decide) (z_upq (by decide) (z_upq (by decide) (z_upq (by decide) (fx_321_73 hF))))) ?_
          refine wp_run 1 (pc' := 83) (ls' := [(2, 321), (0, a1), (0, a2), (0, a3), (0, a4)]) (st' := [(2, 321), (2, 352)]) rfl ?_
          refine wp_gf (pc' := 86) (t := 0) (v := (M 321 76)) rfl rfl (by decide) rfl rfl (z_upq (by decide) (z_upq (by decide) (z_upq (by decide) (z_upq (by decide) rfl)))) ?_
          refine wp_run 1 (pc' := 87) (ls' := [(2, 321), (0, a1), (0, a2), (0, a3), (0, a4)]) (st' := [(2, 321), (0, (M 321 76)), (2, 352)]) rfl ?_
          refine wp_gf (pc' := 90) (t := 0) (v := (M 321 77)) rfl rfl (by decide) rfl rfl (z_upq (by decide) (z_upq (by decide) (z_upq (by decide) (z_upq (by decide) rfl)))) ?_
          refine wp_iast (pc' := 91) rfl rfl rfl (b1 c1 c2 c3 c4) ?_
          refine wp_run 1 (pc' := 92) (ls' := [(2, 321), (0, a1), (0, a2), (0, a3), (0, a4)]) (st' := [(2, 321)]) rfl ?_
          refine wp_gf (pc' := 95) (t := 2) (v := 353) rfl rfl (by decide) rfl rfl (z_upq (by decide) (z_upq (by decide) (z_upq (by decide) (z_upq (by decide) (z_upq (by decide) (fx_321_74 hF)))))) ?_
          refine wp_run 1 (pc' := 96) (ls' := [(2, 321), (0, a1), (0, a2), (0, a3), (0, a4)]) (st' := [(2, 321), (2, 353)]) rfl ?_
          refine wp_gf (pc' := 99) (t := 0) (v := (M 321 76)) rfl rfl (by decide) rfl rfl (z_upq (by decide) (z_upq (by decide) (z_upq (by decide) (z_upq (by decide) (z_upq (by decide) rfl))))) ?_
          refine wp_run 1 (pc' := 100) (ls' := [(2, 321), (0, a1), (0, a2), (0, a3), (0, a4)]) (st' := [(0, (-1)), (0, (M 321 76)), (2, 353)]) rfl ?_
          refine wp_iast (pc' := 101) rfl rfl rfl (b1 c1 c2 c3 c4) ?_
          refine wp_run 2 (pc' := 103) (ls' := [(2, 321), (0, a1), (0, a2), (0, a3), (0, a4)]) (st' := [(2, 321), (2, 321)]) rfl ?_
          refine wp_gf (pc' := 106) (t := 0) (v := (M 321 76)) rfl rfl (by decide) rfl rfl (z_upq (by decide) (z_upq (by decide) (z_upq (by decide) (z_upq (by decide) (z_upq (by decide) (z_upq (by decide) rfl)))))) ?_
          refine wp_run 2 (pc' := 108) (ls' := [(2, 321), (0, a1), (0, a2), (0, a3), (0, a4)]) (st' := [(0, (z_w ((M 321 76) + 1))), (2, 321)]) rfl ?_
          refine wp_pf (pc' := 111) rfl rfl rfl rfl (fun z => absurd z (by decide)) (fun z => absurd z (by decide)) ?_
          refine wp_run 1 (pc' := 112) (ls' := [(2, 321), (0, a1), (0, a2), (0, a3), (0, a4)]) (st' := [(2, 321)]) rfl ?_
          refine wp_gf (pc' := 115) (t := 0) (v := (z_w ((M 321 76) + 1))) rfl rfl (by decide) rfl rfl z_ups ?_
          refine wp_run 2 (pc' := 117) (ls' := [(2, 321), (0, a1), (0, a2), (0, a3), (0, a4)]) (st' := [(0, (z_w ((z_w ((M 321 76) + 1)) - 1)))]) rfl ?_
          exact wp_ret rfl rfl (l4 c1 c2 c3 c4)
        · refine wp_run 1 (pc' := 36) (ls' := [(2, 321), (0, a1), (0, a2), (0, a3), (0, a4)]) (st' := [(0, (-1))]) rfl ?_
          exact wp_ret rfl rfl (l5 c1 c2 c3 c4)
theorem c_later {a1 : Int} (hR : z_R M) : z_two xs (d + 200) mX9_later mX10_later [(2, 1), (0, a1)] [(2, 321), (0, a1)] M := by
  obtain ⟨s1, s2, s3⟩ := z_R_Rs hR
  have g := fun P => gX9_later_0 (M := M) (xs := xs) (d := d + 200) (P := P) (a1 := a1) (z_R_F hR)
  rw [s2.1] at g
  unfold z_two
  by_cases h : 0 ≤ a1 ∧ a1 ≤ 1000
  · rw [z_wid (x := M 321 77 + a1) (by omega)] at g
    by_cases h2 : M 321 77 + a1 ≤ 100000
    · refine g _ (fun _ => by omega) (fun _ _ => by omega) (fun _ _ _ => ⟨_, rfl, rfl, ?_⟩) (fun _ _ q => absurd h2 q)
      have e : z_up M 294 7 (M 321 77 + a1) 321 = M 321 := z_upn (by decide)
      have g := fun P => gX10_later_0 (M := z_up M 294 7 (M 321 77 + a1)) (xs := xs) (d := d + 200) (P := P) (a1 := a1)
      rw [e, z_wid (x := M 321 77 + a1) (by omega)] at g
      refine g _ (fun _ => by omega) (fun _ _ => by omega) (fun _ _ _ => ⟨rfl, rfl, ?_⟩) (fun _ _ q => absurd h2 q)
      refine z_R_s hR (fun q a b c => by rw [z_upn c, z_upn (by omega)]) (fun j hj => by rw [z_upn (by decide), z_upi (by omega) rfl]) (fun j a b => by rw [z_upi b rfl, e]) ?_
      refine ⟨?_, ?_, fun i a b => ?_⟩
      · rw [z_upn (q := 294) (by decide), z_upi (by decide) rfl, z_upi (by decide) rfl, e]
        exact s1
      · rw [z_upn (q := 294) (by decide), z_ups, z_ups]
        omega
      · have w : ∀ q, q ≠ 294 → q ≠ 321 → z_up (z_up M 294 7 (M 321 77 + a1)) 321 77 (M 321 77 + a1) q = M q := fun q x y => by rw [z_upn y, z_upn x]
        rw [w 295 (by decide) (by decide), w 296 (by decide) (by decide), w 297 (by decide) (by decide), w 298 (by decide) (by decide), w 299 (by decide) (by decide), w 300 (by decide) (by decide), w 349 (by decide) (by decide), w 350 (by decide) (by decide), w 351 (by decide) (by decide), w 352 (by decide) (by decide), w 353 (by decide) (by decide), w 354 (by decide) (by decide), z_upi (i := 77) (b := 46) (by decide) rfl, z_upi (i := 77) (b := 47) (by decide) rfl, z_upi (i := 77) (b := 48) (by decide) rfl, e]
        rw [z_upi (i := 77) (b := 76) (by decide) rfl, e] at b
        exact s3 i a b
    · refine g _ (fun _ => by omega) (fun _ _ => by omega) (fun _ _ q => absurd q h2) (fun _ _ _ => ⟨_, rfl, rfl, ?_⟩)
      have g := fun P => gX10_later_0 (M := M) (xs := xs) (d := d + 200) (P := P) (a1 := a1)
      rw [z_wid (x := M 321 77 + a1) (by omega)] at g
      exact g _ (fun _ => by omega) (fun _ _ => by omega) (fun _ _ q => absurd q h2) (fun _ _ _ => ⟨rfl, rfl, hR⟩)
  · refine g _ (fun _ => ⟨_, rfl, rfl, ?_⟩) (fun _ _ => ⟨_, rfl, rfl, ?_⟩) (fun _ _ _ => by omega) (fun _ _ _ => by omega)
    · exact gX10_later_0 (fun _ => ⟨rfl, rfl, hR⟩) (fun _ _ => ⟨rfl, rfl, hR⟩) (fun _ _ _ => by omega) (fun _ _ _ => by omega)
    · exact gX10_later_0 (fun _ => ⟨rfl, rfl, hR⟩) (fun _ _ => ⟨rfl, rfl, hR⟩) (fun _ _ _ => by omega) (fun _ _ _ => by omega)
theorem c_untell {a1 : Int} (hR : z_R M) : z_two xs (d + 200) mX9_untell mX10_untell [(2, 1), (0, a1)] [(2, 321), (0, a1)] M := by
  obtain ⟨s1, s2, s3⟩ := z_R_Rs hR
  have g := fun P => gX9_untell_0 (M := M) (xs := xs) (d := d + 199) (P := P) (a1 := a1) (z_R_F hR)
  rw [s2.1, s1.1] at g
  unfold z_two
  by_cases h : 0 ≤ a1 ∧ a1 < M 321 76
  · obtain ⟨t1, t2, t3, t4, t5, t6⟩ := s3 a1 h.1 h.2
    rw [t1.2.2.2.2.2] at g
    by_cases h2 : M 353 a1 = -1
    · refine g _ (fun _ => by omega) (fun _ _ => by omega) (fun _ _ => by omega) (fun _ _ _ => ⟨_, rfl, rfl, ?_⟩) (fun _ _ q => absurd h2 q)
      have e : ∀ q, q ≠ 300 → z_up M 300 a1 (M 321 77) q = M q := fun q hq => z_upn hq
      have g := fun P => gX10_untell_0 (M := z_up M 300 a1 (M 321 77)) (xs := xs) (d := d + 199) (P := P) (a1 := a1) (z_fix_at (z_R_F hR) e (by unfold z_fobj; omega))
      rw [e 321 (by decide), e 353 (by decide), z_wid (by omega)] at g
      refine g _ (fun q => absurd (by omega) q) (fun _ => by omega) (fun _ _ => ⟨rfl, rfl, ?_⟩) (fun _ q => absurd (by omega) q)
      have w : ∀ q, q ≠ 300 → q ≠ 353 → z_up (z_up M 300 a1 (M 321 77)) 353 a1 (M 321 77) q = M q := fun q x y => by rw [z_upn y, z_upn x]
      refine z_R_s hR (fun q a b c => w q (by omega) (by omega)) (fun j hj => by rw [w 294 (by decide) (by decide)]) (fun j a b => by rw [w 321 (by decide) (by decide)]) ?_
      unfold z_Rs
      rw [w 294 (by decide) (by decide), w 321 (by decide) (by decide), w 295 (by decide) (by decide), w 296 (by decide) (by decide), w 297 (by decide) (by decide), w 298 (by decide) (by decide), w 299 (by decide) (by decide), w 349 (by decide) (by decide), w 350 (by decide) (by decide), w 351 (by decide) (by decide), w 352 (by decide) (by decide), w 354 (by decide) (by decide), z_upn (q := 300) (c := 353) (by decide)]
      refine ⟨s1, s2, fun i a b => ?_⟩
      obtain ⟨u1, u2, u3, u4, u5, u6⟩ := s3 i a b
      by_cases e2 : i = a1
      · rw [e2, z_ups, z_ups]
        rw [e2] at u1 u2 u3 u4 u5
        exact ⟨⟨u1.1, u1.2.1, u1.2.2.1, u1.2.2.2.1, u1.2.2.2.2.1, rfl⟩, u2, u3, u4, u5, by omega⟩
      · rw [z_upi e2 rfl, z_upi e2 rfl, e 353 (by decide)]
        exact ⟨u1, u2, u3, u4, u5, u6⟩
    · refine g _ (fun _ => by omega) (fun _ _ => by omega) (fun _ _ => by omega) (fun _ _ q => absurd q h2) (fun _ _ _ => ⟨_, rfl, rfl, ?_⟩)
      have g := fun P => gX10_untell_0 (M := M) (xs := xs) (d := d + 199) (P := P) (a1 := a1) (z_R_F hR)
      rw [z_wid (by omega)] at g
      exact g _ (fun q => absurd (by omega) q) (fun _ => by omega) (fun _ q => by omega) (fun _ _ => ⟨rfl, rfl, hR⟩)
  · have g2 := fun P => gX10_untell_0 (M := M) (xs := xs) (d := d + 199) (P := P) (a1 := a1) (z_R_F hR)
    rw [z_wid (by omega)] at g2
    refine g _ (fun _ => ⟨_, rfl, rfl, ?_⟩) (fun _ _ => ⟨_, rfl, rfl, ?_⟩) (fun _ _ => by omega) (fun _ _ _ => by omega) (fun _ _ _ => by omega)
    · exact g2 _ (fun _ => ⟨rfl, rfl, hR⟩) (fun _ => by omega) (fun _ _ => by omega) (fun _ _ => by omega)
    · exact g2 _ (fun _ => ⟨rfl, rfl, hR⟩) (fun _ => by omega) (fun _ _ => by omega) (fun _ _ => by omega)
theorem c_seen {a1 a2 a3 a4 : Int} (hR : z_R M) (h4 : a4 = 0 ∨ a4 = 1) : z_two xs (d + 200) mX9_seen mX10_seen [(2, 1), (0, a1), (0, a2), (0, a3), (0, a4)] [(2, 321), (0, a1), (0, a2), (0, a3), (0, a4)] M := by
  have hn := (z_R_C hR).2.2.1
  obtain ⟨n1, n2, n3, n4, n5⟩ := z_R_n hR
  obtain ⟨s1, s2, s3⟩ := z_R_Rs hR
  have g := fun P => gX9_seen_0 (M := M) (xs := xs) (d := d + 198) (P := P) (a1 := a1) (a2 := a2) (a3 := a3) (a4 := a4) (z_R_F hR) (z_R_g hR).1
  have e4 : z_and a4 1 = a4 := by rcases h4 with rfl | rfl <;> decide
  simp only [n1, n2, n3, n5, s1.1, s2.1, e4, z_wid (x := M 321 76 + 1) (by omega), z_wid (x := M 321 76 + 1 - 1) (by omega)] at g
  unfold z_two
  by_cases h : (0 ≤ a1 ∧ a1 ≤ 9) ∧ (0 ≤ a2 ∧ a2 < M 321 48) ∧ (0 ≤ a3 ∧ a3 < M 321 46 * M 321 47) ∧ M 321 76 < 30
  · refine g _ (fun _ => by omega) (fun _ _ => by omega) (fun _ _ _ => by omega) (fun _ _ _ _ => by omega) (fun _ _ _ _ _ => by omega) (fun _ _ _ _ _ _ => by omega) (fun _ _ _ _ _ _ _ => by omega) (fun _ _ _ _ _ _ _ => ⟨_, rfl, rfl, ?_⟩) (fun _ _ _ _ _ _ q => by omega)
    generalize hM1 : z_up (z_up (z_up (z_up (z_up (z_up (z_up M 295 (M 321 76) a1) 296 (M 321 76) a2) 297 (M 321 76) a3) 298 (M 321 76) a4) 299 (M 321 76) (M 321 77)) 300 (M 321 76) (-1)) 294 6 (M 321 76 + 1) = M1
    have o1 : ∀ q, ¬ (294 ≤ q ∧ q ≤ 300) → M1 q = M q := fun q hq => by rw [← hM1, z_upn (by omega), z_upn (by omega), z_upn (by omega), z_upn (by omega), z_upn (by omega), z_upn (by omega), z_upn (by omega)]
    have o2 : ∀ q i, 295 ≤ q → q ≤ 300 → i ≠ M 321 76 → M1 q i = M q i := fun q i a b c => by
      rw [← hM1, z_upn (by omega)]
      unfold z_up
      simp only [c, and_false, if_false]
    have o3 : ∀ j, j ≠ 6 → M1 294 j = M 294 j := fun j hj => by rw [← hM1, z_upi hj rfl, z_upn (by decide), z_upn (by decide), z_upn (by decide), z_upn (by decide), z_upn (by decide), z_upn (by decide)]
    have v0 : M1 294 6 = M 321 76 + 1 := by rw [← hM1, z_ups]
    have v1 : M1 295 (M 321 76) = a1 := by rw [← hM1, z_upn (by decide), z_upn (by decide), z_upn (by decide), z_upn (by decide), z_upn (by decide), z_upn (by decide), z_ups]
    have v2 : M1 296 (M 321 76) = a2 := by rw [← hM1, z_upn (by decide), z_upn (by decide), z_upn (by decide), z_upn (by decide), z_upn (by decide), z_ups]
    have v3 : M1 297 (M 321 76) = a3 := by rw [← hM1, z_upn (by decide), z_upn (by decide), z_upn (by decide), z_upn (by decide), z_ups]
    have v4 : M1 298 (M 321 76) = a4 := by rw [← hM1, z_upn (by decide), z_upn (by decide), z_upn (by decide), z_ups]
    have v5 : M1 299 (M 321 76) = M 321 77 := by rw [← hM1, z_upn (by decide), z_upn (by decide), z_ups]
    have v6 : M1 300 (M 321 76) = -1 := by rw [← hM1, z_upn (by decide), z_ups]
    clear hM1
    have F1 : z_fix M1 := z_fix_gen (z_R_F hR) (fun q i hq => by
      by_cases w2 : q = 294
      · rw [w2] at hq ⊢
        exact o3 i (by unfold z_fin at hq; omega)
      · rw [o1 q (by unfold z_fin at hq; omega)])
    have e321 := o1 321 (by omega)
    have g := fun P => gX10_seen_0 (M := M1) (xs := xs) (d := d + 198) (P := P) (a1 := a1) (a2 := a2) (a3 := a3) (a4 := a4) F1 (z_mc_x (z_cfe_c (fun q hq => o1 q (by unfold z_conf at hq; omega))) (z_R_C hR))
    simp only [e321, e4, z_wid (x := M 321 76 + 1) (by omega), z_wid (x := M 321 76 + 1 - 1) (by omega)] at g
    refine g _ (fun q => absurd h.1 q) (fun _ q => absurd h.2.1 q) (fun _ _ q => absurd h.2.2.1 q) (fun _ _ _ _ => by omega) (fun _ _ _ _ => ⟨rfl, rfl, ?_⟩) (fun _ _ _ q => absurd (by omega) q)
    generalize hM2 : z_up (z_up (z_up (z_up (z_up (z_up (z_up M1 349 (M 321 76) a1) 350 (M 321 76) a2) 351 (M 321 76) a3) 354 (M 321 76) a4) 352 (M 321 76) (M 321 77)) 353 (M 321 76) (-1)) 321 76 (M 321 76 + 1) = M2
    have p1 : ∀ q, ¬ (349 ≤ q ∧ q ≤ 354) → q ≠ 321 → M2 q = M1 q := fun q hq h3 => by rw [← hM2, z_upn h3, z_upn (by omega), z_upn (by omega), z_upn (by omega), z_upn (by omega), z_upn (by omega), z_upn (by omega)]
    have p2 : ∀ q i, 349 ≤ q → q ≤ 354 → i ≠ M 321 76 → M2 q i = M1 q i := fun q i a b c => by
      rw [← hM2, z_upn (by omega)]
      unfold z_up
      simp only [c, and_false, if_false]
    have p3 : ∀ j, j ≠ 76 → M2 321 j = M 321 j := fun j hj => by rw [← hM2, z_upi hj rfl, z_upn (by decide), z_upn (by decide), z_upn (by decide), z_upn (by decide), z_upn (by decide), z_upn (by decide), e321]
    have w0 : M2 321 76 = M 321 76 + 1 := by rw [← hM2, z_ups]
    have w1 : M2 349 (M 321 76) = a1 := by rw [← hM2, z_upn (by decide), z_upn (by decide), z_upn (by decide), z_upn (by decide), z_upn (by decide), z_upn (by decide), z_ups]
    have w2 : M2 350 (M 321 76) = a2 := by rw [← hM2, z_upn (by decide), z_upn (by decide), z_upn (by decide), z_upn (by decide), z_upn (by decide), z_ups]
    have w3 : M2 351 (M 321 76) = a3 := by rw [← hM2, z_upn (by decide), z_upn (by decide), z_upn (by decide), z_upn (by decide), z_ups]
    have w4 : M2 354 (M 321 76) = a4 := by rw [← hM2, z_upn (by decide), z_upn (by decide), z_upn (by decide), z_ups]
    have w5 : M2 352 (M 321 76) = M 321 77 := by rw [← hM2, z_upn (by decide), z_upn (by decide), z_ups]
    have w6 : M2 353 (M 321 76) = -1 := by rw [← hM2, z_upn (by decide), z_ups]
    clear hM2
    refine z_R_s hR (fun q a b c => by rw [p1 q b c, o1 q a]) (fun j hj => by rw [p1 294 (by decide) (by decide), o3 j (by omega)]) (fun j a b => p3 j a) ⟨?_, ?_, fun i a b => ?_⟩
    · rw [p1 294 (by decide) (by decide), v0, w0]
      omega
    · rw [p1 294 (by decide) (by decide), o3 7 (by decide), p3 77 (by decide)]
      exact s2
    · rw [w0] at b
      rw [p3 46 (by decide), p3 47 (by decide), p3 48 (by decide), p1 295 (by decide) (by decide), p1 296 (by decide) (by decide), p1 297 (by decide) (by decide), p1 298 (by decide) (by decide), p1 299 (by decide) (by decide), p1 300 (by decide) (by decide)]
      by_cases e : i = M 321 76
      · rw [e, v1, v2, v3, v4, v5, v6, w1, w2, w3, w4, w5, w6]
        exact ⟨⟨rfl, rfl, rfl, rfl, rfl, rfl⟩, h.1, h.2.1, h.2.2.1, h4, Int.le_refl _⟩
      · rw [o2 295 i (by decide) (by decide) e, o2 296 i (by decide) (by decide) e, o2 297 i (by decide) (by decide) e, o2 298 i (by decide) (by decide) e, o2 299 i (by decide) (by decide) e, o2 300 i (by decide) (by decide) e, p2 349 i (by decide) (by decide) e, p2 350 i (by decide) (by decide) e, p2 351 i (by decide) (by decide) e, p2 352 i (by decide) (by decide) e, p2 353 i (by decide) (by decide) e, p2 354 i (by decide) (by decide) e, o1 349 (by decide), o1 350 (by decide), o1 351 (by decide), o1 352 (by decide), o1 353 (by decide), o1 354 (by decide)]
        exact s3 i a (by omega)
  · have g2 := fun P => gX10_seen_0 (M := M) (xs := xs) (d := d + 198) (P := P) (a1 := a1) (a2 := a2) (a3 := a3) (a4 := a4) (z_R_F hR) (z_R_C hR)
    apply g
    all_goals first
      | (intros; refine ⟨_, rfl, rfl, ?_⟩; apply g2 <;> intros <;> first | exact ⟨rfl, rfl, hR⟩ | omega)
      | (intros; omega)
end
