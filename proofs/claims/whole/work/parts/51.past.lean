/-! ACTS: what is kept -/
def z_herb (n : Nat) : Bool := !(decide (n = 24) || decide (n = 39) || (decide (49 ≤ n) && decide (n ≤ 283) && decide ((n - 49) % 6 = 0)) || (decide (303 ≤ n) && decide (n ≤ 315) && decide ((n - 303) % 6 = 0))) || (List.range 5).all fun k => z_fixl.contains ((n : Int), (k : Int), (n : Int) + ((k : Int) + 1))
theorem z_herb_all : (List.range 316).all z_herb = true := by decide +kernel
theorem z_fix_her {M : z_M} {h : Int} (hF : z_fix M) (q : z_ish h) : z_her M h := by
  refine ⟨q, fun k h1 h2 => ?_⟩
  obtain ⟨n, n1, rfl, n2⟩ := z_ish_l q
  have h3 := List.all_eq_true.mp z_herb_all n (List.mem_range.mpr n1)
  unfold z_herb at h3
  simp only [Bool.or_eq_true, Bool.not_eq_true', Bool.and_eq_true, decide_eq_true_eq, Bool.or_eq_false_iff, Bool.and_eq_false_iff, decide_eq_false_iff_not] at h3
  rcases h3 with h3 | h3
  · exfalso
    omega
  · obtain ⟨j, rfl⟩ : ∃ j : Nat, k = j := ⟨k.toNat, by omega⟩
    have h4 := List.all_eq_true.mp h3 j (List.mem_range.mpr (by omega))
    exact hF _ (List.contains_iff_mem.mp h4)
/-- the kept herds and now's are all unlike -/
def z_prm (M : z_M) (h : Int) : Prop := z_hk h ∧ (∀ i : Int, 0 ≤ i → i < 40 → z_hk (M 48 i) ∧ M 48 i ≠ h) ∧ ∀ i j : Int, 0 ≤ i → i < j → j < 40 → M 48 i ≠ M 48 j
theorem z_prm_q {M M' : z_M} {h : Int} (e : M' 48 = M 48) (p : z_prm M h) : z_prm M' h := by
  unfold z_prm at p ⊢
  rw [e]
  exact p
/-- what keeping has done: r is the herds that now hold a copy of now's, A how many are kept ahead of it, sh 1 if the oldest went -/
def z_kpt (M M' : z_M) (h r A sh : Int) : Prop := (z_hk r ∧ r ≠ h) ∧ (∀ q, q ≠ 47 → q ≠ 48 → ¬ (r ≤ q ∧ q ≤ r + 5) → M' q = M q) ∧ M' 47 0 = M 47 0 ∧ (M' 47 1 = A + 1 ∧ M' 47 2 = 0) ∧ (∀ j, 0 ≤ j → j < 5 → M' r j = M r j) ∧ z_prm M' h ∧ M' 48 A = r ∧ (0 ≤ A ∧ A < 40 ∧ (sh = 0 ∨ sh = 1) ∧ A + sh = M 47 1 ∧ (sh = 1 → A = 39)) ∧ ∀ i : Int, 0 ≤ i → i < A → M' 48 i = M 48 (i + sh) ∧ M 48 (i + sh) ≠ r
set_option maxRecDepth 20000 in
theorem gX4_dropOldest_0 {xs : List Int} {d : Nat} {M : z_M} {P : Option z_V → z_L → z_M → Prop} (hF : z_fix M) (hh1 : z_her M (M 48 0))
    (l1 : wp xs d mX4_dropOldest 9 [(2, 47), (2, (M 48 0)), (0, 1)] [] z_LL M P) :
    wp xs d mX4_dropOldest 0 [(2, 47), (3, 0), (3, 0)] [] z_LL M P := by
  refine wp_run 1 (pc' := 1) (ls' := [(2, 47), (3, 0), (3, 0)]) (st' := [(2, 47)]) rfl ?_
  refine wp_gf (pc' := 4) (t := 2) (v := 48) rfl rfl (by decide) rfl rfl (fx_47_0 hF) ?_
  refine wp_run 1 (pc' := 5) (ls' := [(2, 47), (3, 0), (3, 0)]) (st' := [(0, 0), (2, 48)]) rfl ?_
  refine wp_aald (pc' := 6) (v := (M 48 0)) rfl rfl rfl ⟨by decide, by decide⟩ rfl ?_
  refine wp_run 3 (pc' := 9) (ls' := [(2, 47), (2, (M 48 0)), (0, 1)]) (st' := []) rfl ?_
  exact l1
set_option maxRecDepth 20000 in
theorem gX4_dropOldest_9 {xs : List Int} {d : Nat} {M : z_M} {P : Option z_V → z_L → z_M → Prop} {x1 : Int} {x2 : Int} (hF : z_fix M) (hx1 : z_her M x1)
    (l1 : (40 ≤ x2) → P none z_LL (z_up (z_up M 48 39 x1) 47 1 39))
    (l2 : (¬ (40 ≤ x2)) → wp xs d mX4_dropOldest 15 [(2, 47), (2, x1), (0, x2)] [] z_LL M P) :
    wp xs d mX4_dropOldest 9 [(2, 47), (2, x1), (0, x2)] [] z_LL M P := by
  refine wp_run 2 (pc' := 12) (ls' := [(2, 47), (2, x1), (0, x2)]) (st' := [(0, 40), (0, x2)]) rfl ?_
  refine wp_if2 rfl rfl rfl (fun (c1 : 40 ≤ x2) => ?_) (fun (c1 : ¬ (40 ≤ x2)) => ?_)
  · refine wp_run 1 (pc' := 36) (ls' := [(2, 47), (2, x1), (0, x2)]) (st' := [(2, 47)]) rfl ?_
    refine wp_gf (pc' := 39) (t := 2) (v := 48) rfl rfl (by decide) rfl rfl (fx_47_0 hF) ?_
    refine wp_run 2 (pc' := 42) (ls' := [(2, 47), (2, x1), (0, x2)]) (st' := [(2, x1), (0, 39), (2, 48)]) rfl ?_
    refine wp_aast (pc' := 43) rfl rfl rfl (z_hl0 hx1) ⟨by decide, by decide⟩ ?_
    refine wp_run 2 (pc' := 46) (ls' := [(2, 47), (2, x1), (0, x2)]) (st' := [(0, 39), (2, 47)]) rfl ?_
    refine wp_pf (pc' := 49) rfl rfl rfl rfl (fun z => absurd z (by decide)) (fun z => absurd z (by decide)) ?_
    exact wp_ret rfl rfl (l1 c1)
  · exact l2 c1
set_option maxRecDepth 20000 in
theorem gX4_dropOldest_15 {xs : List Int} {d : Nat} {M : z_M} {P : Option z_V → z_L → z_M → Prop} {x1 : Int} {x2 : Int} (hF : z_fix M) (hx1 : z_her M x1) (hh2 : z_her M (M 48 x2))
    (b1 : 0 ≤ x2 ∧ x2 < 40)
    (b2 : 0 ≤ (z_w (x2 - 1)) ∧ (z_w (x2 - 1)) < 40)
    (l1 : wp xs d mX4_dropOldest 9 [(2, 47), (2, x1), (0, (z_w (x2 + 1)))] [] z_LL (z_up M 48 (z_w (x2 - 1)) (M 48 x2)) P) :
    wp xs d mX4_dropOldest 15 [(2, 47), (2, x1), (0, x2)] [] z_LL M P := by
  refine wp_run 1 (pc' := 16) (ls' := [(2, 47), (2, x1), (0, x2)]) (st' := [(2, 47)]) rfl ?_
  refine wp_gf (pc' := 19) (t := 2) (v := 48) rfl rfl (by decide) rfl rfl (fx_47_0 hF) ?_
  refine wp_run 4 (pc' := 23) (ls' := [(2, 47), (2, x1), (0, x2)]) (st' := [(2, 47), (0, (z_w (x2 - 1))), (2, 48)]) rfl ?_
  refine wp_gf (pc' := 26) (t := 2) (v := 48) rfl rfl (by decide) rfl rfl (fx_47_0 hF) ?_
  refine wp_run 1 (pc' := 27) (ls' := [(2, 47), (2, x1), (0, x2)]) (st' := [(0, x2), (2, 48), (0, (z_w (x2 - 1))), (2, 48)]) rfl ?_
  refine wp_aald (pc' := 28) (v := (M 48 x2)) rfl rfl rfl (b1) rfl ?_
  refine wp_aast (pc' := 29) rfl rfl rfl (z_hl0 hh2) (b2) ?_
  refine wp_run 2 (pc' := 9) (ls' := [(2, 47), (2, x1), (0, (z_w (x2 + 1)))]) (st' := []) rfl ?_
  exact l1
set_option maxRecDepth 20000 in
theorem gX4_keep_0 {xs : List Int} {d : Nat} {M : z_M} {P : Option z_V → z_L → z_M → Prop} {a1 : Int} (ha1 : z_her M a1)
    (l1 : ((M 47 1) < 40) → wp xs (d + 1) mX4_keep 13 [(2, 47), (2, a1)] [] z_LL M P)
    (l2 : (¬ ((M 47 1) < 40)) → wp xs d mX4_dropOldest 0 [(2, 47), (3, 0), (3, 0)] [] z_LL M (fun r L1 M1 => wp xs (d + 1) mX4_keep 13 [(2, 47), (2, a1)] (z_ol r ++ []) L1 M1 P)) :
    wp xs (d + 1) mX4_keep 0 [(2, 47), (2, a1)] [] z_LL M P := by
  refine wp_run 1 (pc' := 1) (ls' := [(2, 47), (2, a1)]) (st' := [(2, 47)]) rfl ?_
  refine wp_gf (pc' := 4) (t := 0) (v := (M 47 1)) rfl rfl (by decide) rfl rfl rfl ?_
  refine wp_run 1 (pc' := 6) (ls' := [(2, 47), (2, a1)]) (st' := [(0, 40), (0, (M 47 1))]) rfl ?_
  refine wp_if2 rfl rfl rfl (fun (c1 : (M 47 1) < 40) => ?_) (fun (c1 : ¬ ((M 47 1) < 40)) => ?_)
  · exact l1 c1
  · refine wp_run 1 (pc' := 10) (ls' := [(2, 47), (2, a1)]) (st' := [(2, 47)]) rfl ?_
    refine wp_callv (pc' := 13) (as := [(2, 47)]) (rest := []) (ls1 := [(2, 47), (3, 0), (3, 0)]) rfl rfl rfl rfl rfl rfl ?_
    exact l2 c1
set_option maxRecDepth 20000 in
theorem gX4_keep_13 {xs : List Int} {d : Nat} {M : z_M} {P : Option z_V → z_L → z_M → Prop} {x1 : Int} (hF : z_fix M) (hx1 : z_her M x1) (hh2 : z_her M (M 48 (M 47 1))) (hn1 : (M 48 (M 47 1)) ≠ x1)
    (b1 : 0 ≤ (M 47 1) ∧ (M 47 1) < 40)
    (l1 : P none z_LL (z_up (z_up (z_up (z_up (z_up (z_cpy (z_cpy (z_cpy (z_cpy (z_cpy M (x1 + 1) 0 ((M 48 (M 47 1)) + 1) 0 6) (x1 + 2) 0 ((M 48 (M 47 1)) + 2) 0 6) (x1 + 3) 0 ((M 48 (M 47 1)) + 3) 0 25) (x1 + 4) 0 ((M 48 (M 47 1)) + 4) 0 25) (x1 + 5) 0 ((M 48 (M 47 1)) + 5) 0 36) (M 48 (M 47 1)) 5 (M x1 5)) (M 48 (M 47 1)) 6 (M x1 6)) (M 48 (M 47 1)) 7 (M x1 7)) 47 1 (z_w ((M 47 1) + 1))) 47 2 0)) :
    wp xs (d + 1) mX4_keep 13 [(2, 47), (2, x1)] [] z_LL M P := by
  refine wp_run 1 (pc' := 14) (ls' := [(2, 47), (2, x1)]) (st' := [(2, 47)]) rfl ?_
  refine wp_gf (pc' := 17) (t := 2) (v := 48) rfl rfl (by decide) rfl rfl (fx_47_0 hF) ?_
  refine wp_run 1 (pc' := 18) (ls' := [(2, 47), (2, x1)]) (st' := [(2, 47), (2, 48)]) rfl ?_
  refine wp_gf (pc' := 21) (t := 0) (v := (M 47 1)) rfl rfl (by decide) rfl rfl rfl ?_
  refine wp_aald (pc' := 22) (v := (M 48 (M 47 1))) rfl rfl rfl (b1) rfl ?_
  refine wp_run 1 (pc' := 23) (ls' := [(2, 47), (2, x1)]) (st' := [(2, x1), (2, (M 48 (M 47 1)))]) rfl ?_
  refine wp_callv (pc' := 26) (as := [(2, (M 48 (M 47 1))), (2, x1)]) (rest := []) (ls1 := [(2, (M 48 (M 47 1))), (2, x1)]) rfl rfl rfl rfl (z_args_v rfl rfl rfl rfl (Nat.le_of_ble_eq_true rfl) rfl (by decide) (z_hl0 hh2)) rfl ?_
  refine wp_run 1 (pc' := 1) (ls' := [(2, (M 48 (M 47 1))), (2, x1)]) (st' := [(2, x1)]) rfl ?_
  refine wp_gf (pc' := 4) (t := 2) (v := (x1 + 1)) rfl rfl (by decide) rfl (z_hl0 hx1) (z_hf0 hx1) ?_
  refine wp_run 2 (pc' := 6) (ls' := [(2, (M 48 (M 47 1))), (2, x1)]) (st' := [(2, (M 48 (M 47 1))), (0, 0), (2, (x1 + 1))]) rfl ?_
  refine wp_gf (pc' := 9) (t := 2) (v := ((M 48 (M 47 1)) + 1)) rfl rfl (by decide) rfl (z_hl0 hh2) (z_hf0 hh2) ?_
  refine wp_run 2 (pc' := 12) (ls' := [(2, (M 48 (M 47 1))), (2, x1)]) (st' := [(0, 6), (0, 0), (2, ((M 48 (M 47 1)) + 1)), (0, 0), (2, (x1 + 1))]) rfl ?_
  refine wp_acp (pc' := 15) rfl rfl (z_hl1 hx1) (z_hl1 hh2) (by decide) ?_
  refine wp_run 1 (pc' := 16) (ls' := [(2, (M 48 (M 47 1))), (2, x1)]) (st' := [(2, x1)]) rfl ?_
  refine wp_gf (pc' := 19) (t := 2) (v := (x1 + 2)) rfl rfl (by decide) rfl (z_hl0 hx1) (z_cpq (by have := z_hr hh2; have := z_hr hx1; omega) (z_hf1 hx1)) ?_
  refine wp_run 2 (pc' := 21) (ls' := [(2, (M 48 (M 47 1))), (2, x1)]) (st' := [(2, (M 48 (M 47 1))), (0, 0), (2, (x1 + 2))]) rfl ?_
  refine wp_gf (pc' := 24) (t := 2) (v := ((M 48 (M 47 1)) + 2)) rfl rfl (by decide) rfl (z_hl0 hh2) (z_cpq (by have := z_hr hh2; have := z_hr hh2; omega) (z_hf1 hh2)) ?_
  refine wp_run 2 (pc' := 27) (ls' := [(2, (M 48 (M 47 1))), (2, x1)]) (st' := [(0, 6), (0, 0), (2, ((M 48 (M 47 1)) + 2)), (0, 0), (2, (x1 + 2))]) rfl ?_
  refine wp_acp (pc' := 30) rfl rfl (z_hl2 hx1) (z_hl2 hh2) (by decide) ?_
  refine wp_run 1 (pc' := 31) (ls' := [(2, (M 48 (M 47 1))), (2, x1)]) (st' := [(2, x1)]) rfl ?_
  refine wp_gf (pc' := 34) (t := 2) (v := (x1 + 3)) rfl rfl (by decide) rfl (z_hl0 hx1) (z_cpq (by have := z_hr hh2; have := z_hr hx1; omega) (z_cpq (by have := z_hr hh2; have := z_hr hx1; omega) (z_hf2 hx1))) ?_
  refine wp_run 2 (pc' := 36) (ls' := [(2, (M 48 (M 47 1))), (2, x1)]) (st' := [(2, (M 48 (M 47 1))), (0, 0), (2, (x1 + 3))]) rfl ?_
  refine wp_gf (pc' := 39) (t := 2) (v := ((M 48 (M 47 1)) + 3)) rfl rfl (by decide) rfl (z_hl0 hh2) (z_cpq (by have := z_hr hh2; have := z_hr hh2; omega) (z_cpq (by have := z_hr hh2; have := z_hr hh2; omega) (z_hf2 hh2))) ?_
  refine wp_run 2 (pc' := 42) (ls' := [(2, (M 48 (M 47 1))), (2, x1)]) (st' := [(0, 25), (0, 0), (2, ((M 48 (M 47 1)) + 3)), (0, 0), (2, (x1 + 3))]) rfl ?_
  refine wp_acp (pc' := 45) rfl rfl (z_hl3 hx1) (z_hl3 hh2) (by decide) ?_
  refine wp_run 1 (pc' := 46) (ls' := [(2, (M 48 (M 47 1))), (2, x1)]) (st' := [(2, x1)]) rfl ?_
  refine wp_gf (pc' := 49) (t := 2) (v := (x1 + 4)) rfl rfl (by decide) rfl (z_hl0 hx1) (z_cpq (by have := z_hr hh2; have := z_hr hx1; omega) (z_cpq (by have := z_hr hh2; have := z_hr hx1; omega) (z_cpq (by have := z_hr hh2; have := z_hr hx1; omega) (z_hf3 hx1)))) ?_
  refine wp_run 2 (pc' := 51) (ls' := [(2, (M 48 (M 47 1))), (2, x1)]) (st' := [(2, (M 48 (M 47 1))), (0, 0), (2, (x1 + 4))]) rfl ?_
  refine wp_gf (pc' := 54) (t := 2) (v := ((M 48 (M 47 1)) + 4)) rfl rfl (by decide) rfl (z_hl0 hh2) (z_cpq (by have := z_hr hh2; have := z_hr hh2; omega) (z_cpq (by have := z_hr hh2; have := z_hr hh2; omega) (z_cpq (by have := z_hr hh2; have := z_hr hh2; omega) (z_hf3 hh2)))) ?_
  refine wp_run 2 (pc' := 57) (ls' := [(2, (M 48 (M 47 1))), (2, x1)]) (st' := [(0, 25), (0, 0), (2, ((M 48 (M 47 1)) + 4)), (0, 0), (2, (x1 + 4))]) rfl ?_
  refine wp_acp (pc' := 60) rfl rfl (z_hl4 hx1) (z_hl4 hh2) (by decide) ?_
  refine wp_run 1 (pc' := 61) (ls' := [(2, (M 48 (M 47 1))), (2, x1)]) (st' := [(2, x1)]) rfl ?_
  refine wp_gf (pc' := 64) (t := 2) (v := (x1 + 5)) rfl rfl (by decide) rfl (z_hl0 hx1) (z_cpq (by have := z_hr hh2; have := z_hr hx1; omega) (z_cpq (by have := z_hr hh2; have := z_hr hx1; omega) (z_cpq (by have := z_hr hh2; have := z_hr hx1; omega) (z_cpq (by have := z_hr hh2; have := z_hr hx1; omega) (z_hf4 hx1))))) ?_
  refine wp_run 2 (pc' := 66) (ls' := [(2, (M 48 (M 47 1))), (2, x1)]) (st' := [(2, (M 48 (M 47 1))), (0, 0), (2, (x1 + 5))]) rfl ?_
  refine wp_gf (pc' := 69) (t := 2) (v := ((M 48 (M 47 1)) + 5)) rfl rfl (by decide) rfl (z_hl0 hh2) (z_cpq (by have := z_hr hh2; have := z_hr hh2; omega) (z_cpq (by have := z_hr hh2; have := z_hr hh2; omega) (z_cpq (by have := z_hr hh2; have := z_hr hh2; omega) (z_cpq (by have := z_hr hh2; have := z_hr hh2; omega) (z_hf4 hh2))))) ?_
  refine wp_run 2 (pc' := 71) (ls' := [(2, (M 48 (M 47 1))), (2, x1)]) (st' := [(2, (M 48 (M 47 1))), (0, 0), (2, ((M 48 (M 47 1)) + 5)), (0, 0), (2, (x1 + 5))]) rfl ?_
  refine wp_gf (pc' := 74) (t := 2) (v := ((M 48 (M 47 1)) + 5)) rfl rfl (by decide) rfl (z_hl0 hh2) (z_cpq (by have := z_hr hh2; have := z_hr hh2; omega) (z_cpq (by have := z_hr hh2; have := z_hr hh2; omega) (z_cpq (by have := z_hr hh2; have := z_hr hh2; omega) (z_cpq (by have := z_hr hh2; have := z_hr hh2; omega) (z_hf4 hh2))))) ?_
  refine wp_len (pc' := 75) rfl rfl (z_hl5 hh2) (by decide) ?_
  refine wp_acp (pc' := 78) rfl rfl (z_hl5 hx1) (z_hl5 hh2) (by decide) ?_
  refine wp_run 2 (pc' := 80) (ls' := [(2, (M 48 (M 47 1))), (2, x1)]) (st' := [(2, x1), (2, (M 48 (M 47 1)))]) rfl ?_
  refine wp_gf (pc' := 83) (t := 0) (v := (M x1 5)) rfl rfl (by decide) rfl (z_hl0 hx1) (z_cpq (by have := z_hr hh2; have := z_hr hx1; omega) (z_cpq (by have := z_hr hh2; have := z_hr hx1; omega) (z_cpq (by have := z_hr hh2; have := z_hr hx1; omega) (z_cpq (by have := z_hr hh2; have := z_hr hx1; omega) (z_cpq (by have := z_hr hh2; have := z_hr hx1; omega) rfl))))) ?_
  refine wp_pf (pc' := 86) rfl rfl rfl (z_hl0 hh2) (fun z => absurd z (by decide)) (fun z => absurd z (by decide)) ?_
  refine wp_run 2 (pc' := 88) (ls' := [(2, (M 48 (M 47 1))), (2, x1)]) (st' := [(2, x1), (2, (M 48 (M 47 1)))]) rfl ?_
  refine wp_gf (pc' := 91) (t := 0) (v := (M x1 6)) rfl rfl (by decide) rfl (z_hl0 hx1) (z_upq (by have := z_hr hh2; have := z_hr hx1; omega) (z_cpq (by have := z_hr hh2; have := z_hr hx1; omega) (z_cpq (by have := z_hr hh2; have := z_hr hx1; omega) (z_cpq (by have := z_hr hh2; have := z_hr hx1; omega) (z_cpq (by have := z_hr hh2; have := z_hr hx1; omega) (z_cpq (by have := z_hr hh2; have := z_hr hx1; omega) rfl)))))) ?_
  refine wp_pf (pc' := 94) rfl rfl rfl (z_hl0 hh2) (fun z => absurd z (by decide)) (fun z => absurd z (by decide)) ?_
  refine wp_run 2 (pc' := 96) (ls' := [(2, (M 48 (M 47 1))), (2, x1)]) (st' := [(2, x1), (2, (M 48 (M 47 1)))]) rfl ?_
  refine wp_gf (pc' := 99) (t := 0) (v := (M x1 7)) rfl rfl (by decide) rfl (z_hl0 hx1) (z_upq (by have := z_hr hh2; have := z_hr hx1; omega) (z_upq (by have := z_hr hh2; have := z_hr hx1; omega) (z_cpq (by have := z_hr hh2; have := z_hr hx1; omega) (z_cpq (by have := z_hr hh2; have := z_hr hx1; omega) (z_cpq (by have := z_hr hh2; have := z_hr hx1; omega) (z_cpq (by have := z_hr hh2; have := z_hr hx1; omega) (z_cpq (by have := z_hr hh2; have := z_hr hx1; omega) rfl))))))) ?_
  refine wp_pf (pc' := 102) rfl rfl rfl (z_hl0 hh2) (fun z => absurd z (by decide)) (fun z => absurd z (by decide)) ?_
  refine wp_ret rfl rfl ?_
  show wp xs _ mX4_keep 26 [(2, 47), (2, x1)] [] z_LL (z_up (z_up (z_up (z_cpy (z_cpy (z_cpy (z_cpy (z_cpy M (x1 + 1) 0 ((M 48 (M 47 1)) + 1) 0 6) (x1 + 2) 0 ((M 48 (M 47 1)) + 2) 0 6) (x1 + 3) 0 ((M 48 (M 47 1)) + 3) 0 25) (x1 + 4) 0 ((M 48 (M 47 1)) + 4) 0 25) (x1 + 5) 0 ((M 48 (M 47 1)) + 5) 0 36) (M 48 (M 47 1)) 5 (M x1 5)) (M 48 (M 47 1)) 6 (M x1 6)) (M 48 (M 47 1)) 7 (M x1 7)) _
  refine wp_run 2 (pc' := 28) (ls' := [(2, 47), (2, x1)]) (st' := [(2, 47), (2, 47)]) rfl ?_
  refine wp_gf (pc' := 31) (t := 0) (v := (M 47 1)) rfl rfl (by decide) rfl rfl (z_upq (by have := z_hr hh2; omega) (z_upq (by have := z_hr hh2; omega) (z_upq (by have := z_hr hh2; omega) (z_cpq (by have := z_hr hh2; omega) (z_cpq (by have := z_hr hh2; omega) (z_cpq (by have := z_hr hh2; omega) (z_cpq (by have := z_hr hh2; omega) (z_cpq (by have := z_hr hh2; omega) rfl)))))))) ?_
  refine wp_run 2 (pc' := 33) (ls' := [(2, 47), (2, x1)]) (st' := [(0, (z_w ((M 47 1) + 1))), (2, 47)]) rfl ?_
  refine wp_pf (pc' := 36) rfl rfl rfl rfl (fun z => absurd z (by decide)) (fun z => absurd z (by decide)) ?_
  refine wp_run 2 (pc' := 38) (ls' := [(2, 47), (2, x1)]) (st' := [(0, 0), (2, 47)]) rfl ?_
  refine wp_pf (pc' := 41) rfl rfl rfl rfl (fun z => absurd z (by decide)) (fun z => absurd z (by decide)) ?_
  exact wp_ret rfl rfl (l1)
set_option maxRecDepth 20000 in
theorem gX10_act_0 {xs : List Int} {d : Nat} {M : z_M} {P : Option z_V → z_L → z_M → Prop} 
    (l1 : ((M 321 64) ≠ 40) → wp xs d mX10_act 51 [(2, 321), (0, 0)] [] z_LL M P)
    (l2 : (¬ ((M 321 64) ≠ 40)) → wp xs d mX10_act 11 [(2, 321), (0, 0)] [] z_LL M P) :
    wp xs d mX10_act 0 [(2, 321), (3, 0)] [] z_LL M P := by
  refine wp_run 1 (pc' := 1) (ls' := [(2, 321), (3, 0)]) (st' := [(2, 321)]) rfl ?_
  refine wp_gf (pc' := 4) (t := 0) (v := (M 321 64)) rfl rfl (by decide) rfl rfl rfl ?_
  refine wp_run 1 (pc' := 6) (ls' := [(2, 321), (3, 0)]) (st' := [(0, 40), (0, (M 321 64))]) rfl ?_
  refine wp_if2 rfl rfl rfl (fun (c1 : (M 321 64) ≠ 40) => ?_) (fun (c1 : ¬ ((M 321 64) ≠ 40)) => ?_)
  · refine wp_run 2 (pc' := 51) (ls' := [(2, 321), (0, 0)]) (st' := []) rfl ?_
    exact l1 c1
  · refine wp_run 2 (pc' := 11) (ls' := [(2, 321), (0, 0)]) (st' := []) rfl ?_
    exact l2 c1
set_option maxRecDepth 20000 in
theorem gX10_act_11 {xs : List Int} {d : Nat} {M : z_M} {P : Option z_V → z_L → z_M → Prop} {x1 : Int} (hF : z_fix M) 
    (l1 : (4134 ≤ x1) → wp xs d mX10_act 51 [(2, 321), (0, 0)] [] z_LL (z_up M 321 64 (z_w ((M 321 64) - 1))) P)
    (b1 : (¬ (4134 ≤ x1)) → 0 ≤ (z_w (106 + x1)) ∧ (z_w (106 + x1)) < 4240)
    (b2 : (¬ (4134 ≤ x1)) → 0 ≤ x1 ∧ x1 < 4240)
    (l2 : (¬ (4134 ≤ x1)) → wp xs d mX10_act 11 [(2, 321), (0, (z_w (x1 + 1)))] [] z_LL (z_up M 345 x1 (M 345 (z_w (106 + x1)))) P) :
    wp xs d mX10_act 11 [(2, 321), (0, x1)] [] z_LL M P := by
  refine wp_run 2 (pc' := 15) (ls' := [(2, 321), (0, x1)]) (st' := [(0, 4134), (0, x1)]) rfl ?_
  refine wp_if2 rfl rfl rfl (fun (c1 : 4134 ≤ x1) => ?_) (fun (c1 : ¬ (4134 ≤ x1)) => ?_)
  · refine wp_run 2 (pc' := 41) (ls' := [(2, 321), (0, x1)]) (st' := [(2, 321), (2, 321)]) rfl ?_
    refine wp_gf (pc' := 44) (t := 0) (v := (M 321 64)) rfl rfl (by decide) rfl rfl rfl ?_
    refine wp_run 2 (pc' := 46) (ls' := [(2, 321), (0, x1)]) (st' := [(0, (z_w ((M 321 64) - 1))), (2, 321)]) rfl ?_
    refine wp_pf (pc' := 49) rfl rfl rfl rfl (fun z => absurd z (by decide)) (fun z => absurd z (by decide)) ?_
    refine wp_run 2 (pc' := 51) (ls' := [(2, 321), (0, 0)]) (st' := []) rfl ?_
    exact l1 c1
  · refine wp_run 1 (pc' := 19) (ls' := [(2, 321), (0, x1)]) (st' := [(2, 321)]) rfl ?_
    refine wp_gf (pc' := 22) (t := 2) (v := 345) rfl rfl (by decide) rfl rfl (fx_321_63 hF) ?_
    refine wp_run 2 (pc' := 24) (ls' := [(2, 321), (0, x1)]) (st' := [(2, 321), (0, x1), (2, 345)]) rfl ?_
    refine wp_gf (pc' := 27) (t := 2) (v := 345) rfl rfl (by decide) rfl rfl (fx_321_63 hF) ?_
    refine wp_run 3 (pc' := 31) (ls' := [(2, 321), (0, x1)]) (st' := [(0, (z_w (106 + x1))), (2, 345), (0, x1), (2, 345)]) rfl ?_
    refine wp_iald (pc' := 32) (v := (M 345 (z_w (106 + x1)))) rfl rfl rfl (b1 c1) rfl ?_
    refine wp_iast (pc' := 33) rfl rfl rfl (b2 c1) ?_
    refine wp_run 2 (pc' := 11) (ls' := [(2, 321), (0, (z_w (x1 + 1)))]) (st' := []) rfl ?_
    exact l2 c1
set_option maxRecDepth 20000 in
theorem gX10_act_51 {xs : List Int} {d : Nat} {M : z_M} {P : Option z_V → z_L → z_M → Prop} {x1 : Int} (hF : z_fix M) 
    (l1 : (106 ≤ x1) → P none z_LL (z_up (z_up M 321 64 (z_w ((M 321 64) + 1))) 321 65 0))
    (b1 : (¬ (106 ≤ x1)) → 0 ≤ x1 ∧ x1 < 106)
    (b2 : (¬ (106 ≤ x1)) → 0 ≤ (z_w ((z_w (106 * (M 321 64))) + x1)) ∧ (z_w ((z_w (106 * (M 321 64))) + x1)) < 4240)
    (l2 : (¬ (106 ≤ x1)) → wp xs d mX10_act 51 [(2, 321), (0, (z_w (x1 + 1)))] [] z_LL (z_up M 345 (z_w ((z_w (106 * (M 321 64))) + x1)) (M 342 x1)) P) :
    wp xs d mX10_act 51 [(2, 321), (0, x1)] [] z_LL M P := by
  refine wp_run 2 (pc' := 54) (ls' := [(2, 321), (0, x1)]) (st' := [(0, 106), (0, x1)]) rfl ?_
  refine wp_if2 rfl rfl rfl (fun (c1 : 106 ≤ x1) => ?_) (fun (c1 : ¬ (106 ≤ x1)) => ?_)
  · refine wp_run 2 (pc' := 85) (ls' := [(2, 321), (0, x1)]) (st' := [(2, 321), (2, 321)]) rfl ?_
    refine wp_gf (pc' := 88) (t := 0) (v := (M 321 64)) rfl rfl (by decide) rfl rfl rfl ?_
    refine wp_run 2 (pc' := 90) (ls' := [(2, 321), (0, x1)]) (st' := [(0, (z_w ((M 321 64) + 1))), (2, 321)]) rfl ?_
    refine wp_pf (pc' := 93) rfl rfl rfl rfl (fun z => absurd z (by decide)) (fun z => absurd z (by decide)) ?_
    refine wp_run 2 (pc' := 95) (ls' := [(2, 321), (0, x1)]) (st' := [(0, 0), (2, 321)]) rfl ?_
    refine wp_pf (pc' := 98) rfl rfl rfl rfl (fun z => absurd z (by decide)) (fun z => absurd z (by decide)) ?_
    exact wp_ret rfl rfl (l1 c1)
  · refine wp_run 1 (pc' := 58) (ls' := [(2, 321), (0, x1)]) (st' := [(2, 321)]) rfl ?_
    refine wp_gf (pc' := 61) (t := 2) (v := 345) rfl rfl (by decide) rfl rfl (fx_321_63 hF) ?_
    refine wp_run 2 (pc' := 64) (ls' := [(2, 321), (0, x1)]) (st' := [(2, 321), (0, 106), (2, 345)]) rfl ?_
    refine wp_gf (pc' := 67) (t := 0) (v := (M 321 64)) rfl rfl (by decide) rfl rfl rfl ?_
    refine wp_run 4 (pc' := 71) (ls' := [(2, 321), (0, x1)]) (st' := [(2, 321), (0, (z_w ((z_w (106 * (M 321 64))) + x1))), (2, 345)]) rfl ?_
    refine wp_gf (pc' := 74) (t := 2) (v := 342) rfl rfl (by decide) rfl rfl (fx_321_60 hF) ?_
    refine wp_run 1 (pc' := 75) (ls' := [(2, 321), (0, x1)]) (st' := [(0, x1), (2, 342), (0, (z_w ((z_w (106 * (M 321 64))) + x1))), (2, 345)]) rfl ?_
    refine wp_iald (pc' := 76) (v := (M 342 x1)) rfl rfl rfl (b1 c1) rfl ?_
    refine wp_iast (pc' := 77) rfl rfl rfl (b2 c1) ?_
    refine wp_run 2 (pc' := 51) (ls' := [(2, 321), (0, (z_w (x1 + 1)))]) (st' := []) rfl ?_
    exact l2 c1
theorem s_X4_dropOldest {xs : List Int} {d : Nat} {M : z_M} {P : Option z_V → z_L → z_M → Prop} {h : Int} (hF : z_fix M) (hp : z_prm M h) (k : ∀ M' : z_M, (∀ q, q ≠ 47 → q ≠ 48 → M' q = M q) → M' 47 0 = M 47 0 → M' 47 1 = 39 → (∀ i : Int, 0 ≤ i → i < 39 → M' 48 i = M 48 (i + 1)) → M' 48 39 = M 48 0 → P none z_LL M') : wp xs d mX4_dropOldest 0 [(2, 47), (3, 0), (3, 0)] [] z_LL M P := by
  have her := fun (i : Int) (a : 0 ≤ i) (b : i < 40) => z_fix_her hF (z_hk_ish (hp.2.1 i a b).1).1
  have hk0 := (hp.2.1 0 (by decide) (by decide)).1
  refine gX4_dropOldest_0 hF (her 0 (by decide) (by decide)) ?_
  have nf : ¬ z_fobj 48 := by unfold z_fobj; omega
  refine z_loop (W := fun i => ∀ M' : z_M, (∀ q, q ≠ 48 → M' q = M q) → (∀ j : Int, 0 ≤ j → j < i → M' 48 j = M 48 (j + 1)) → (∀ j : Int, i ≤ j → M' 48 j = M 48 j) → wp xs d mX4_dropOldest 9 [(2, 47), (2, M 48 0), (0, ((i + 1 : Nat) : Int))] [] z_LL M' P) 39 (fun i hi ih M' hM h1 h2 => ?_) M (fun _ _ => rfl) (fun j a b => by omega) (fun _ _ => rfl)
  have hF' := z_fix_at hF hM nf
  refine gX4_dropOldest_9 (x1 := M 48 0) (x2 := ((i + 1 : Nat) : Int)) hF' (z_fix_her hF' (z_hk_ish hk0).1) (fun c => ?_) (fun c => ?_)
  · obtain rfl : i = 39 := by omega
    refine k _ (fun q a b => by rw [z_upn a, z_upn b, hM q b]) (by rw [z_upi (by decide) rfl, z_upn (by decide), hM 47 (by decide)]) z_ups (fun j a b => ?_) ?_
    · rw [z_upn (by decide), z_upi (by omega) rfl]
      exact h1 j a (by omega)
    · rw [z_upn (by decide), z_ups]
  · have e := h2 ((i + 1 : Nat) : Int) (by omega)
    refine gX4_dropOldest_15 (x1 := M 48 0) (x2 := ((i + 1 : Nat) : Int)) hF' (z_fix_her hF' (z_hk_ish hk0).1) (by rw [e]; exact z_fix_her hF' (z_hk_ish (hp.2.1 _ (by omega) (by omega)).1).1) (by omega) (by rw [z_wid (by omega)]; omega) ?_
    rw [e, z_in1 (by omega), z_wid (by omega)]
    refine ih (by omega) _ (fun q hq => by rw [z_upn hq, hM q hq]) (fun j a b => ?_) (fun j a => ?_)
    · by_cases c2 : j = i
      · rw [show (((i + 1 : Nat) : Int) - 1) = j by omega, z_ups, show ((i + 1 : Nat) : Int) = j + 1 by omega]
      · rw [z_upi (by omega) rfl]
        exact h1 j a (by omega)
    · rw [z_upi (by omega) rfl]
      exact h2 j (by omega)
theorem s_X4_keep {xs : List Int} {d : Nat} {M : z_M} {P : Option z_V → z_L → z_M → Prop} {h : Int} {s : Int → Int} (hF : z_fix M) (hn : M 321 48 ≤ 6) (hp : z_prm M h) (hA : 0 ≤ M 47 1 ∧ M 47 1 ≤ 40) (H : z_hrd M h s) (k : ∀ (M' : z_M) (r A sh : Int), z_kpt M M' h r A sh → z_hrd M' r s → P none z_LL M') : wp xs (d + 1) mX4_keep 0 [(2, 47), (2, h)] [] z_LL M P := by
  have hk := z_hk_ish hp.1
  refine gX4_keep_0 H.1 (fun c => ?_) (fun c => ?_)
  · obtain ⟨r1, r2⟩ := hp.2.1 (M 47 1) hA.1 c
    have hr := z_hk_ish r1
    have rh := z_fix_her hF hr.1
    have rr := z_hsep rh
    refine gX4_keep_13 hF H.1 rh r2 ⟨hA.1, c⟩ ?_
    rw [z_wid (by omega)]
    have C : z_hrd (z_cph M h (M 48 (M 47 1))) (M 48 (M 47 1)) s := z_cph_h H.1 rh (fun e => r2 e.symm) hn H
    refine k _ (M 48 (M 47 1)) (M 47 1) 0 ⟨⟨r1, r2⟩, fun q a b c => ?_, ?_, ⟨?_, ?_⟩, fun j a b => ?_, z_prm_q ?_ hp, ?_, ⟨hA.1, c, Or.inl rfl, by omega, fun w => by omega⟩, fun i a b => ⟨?_, ?_⟩⟩ ?_
    · rw [z_upn a, z_upn a]
      exact z_cph_o c
    · rw [z_upi (by decide) rfl, z_upi (by decide) rfl]
      exact congrFun (z_cph_o (by omega)) 0
    · rw [z_upi (by decide) rfl, z_ups]
    · rw [z_ups]
    · rw [z_upn (by omega), z_upn (by omega)]
      exact z_cph_0 (by omega)
    · rw [z_upn (by decide), z_upn (by decide)]
      exact z_cph_o (by omega)
    · rw [z_upn (by decide), z_upn (by decide)]
      exact congrFun (z_cph_o (by omega)) _
    · rw [z_upn (by decide), z_upn (by decide), Int.add_zero]
      exact congrFun (z_cph_o (by omega)) _
    · rw [Int.add_zero]
      exact hp.2.2 i _ a b c
    · refine z_hrd_q (fun q hq => ?_) C
      rw [z_upn (by omega), z_upn (by omega)]
      rfl
  · have r1 := (hp.2.1 0 (by decide) (by decide)).1
    have r2 := (hp.2.1 0 (by decide) (by decide)).2
    have hr := z_hk_ish r1
    refine s_X4_dropOldest hF hp (fun M1 f1 e0 e1 e2 e3 => ?_)
    have hs := z_hsep H.1
    have rs := z_hsep (z_fix_her hF hr.1)
    have H1 : z_hrd M1 h s := z_hrd_q (fun q hq => f1 q (by omega) (by omega)) H
    have hF1 : z_fix M1 := z_fix_gen hF (fun q i hq => by
      by_cases e : q = 47
      · rw [e] at hq ⊢
        rw [show i = 0 by unfold z_fin at hq; omega]
        exact e0
      · rw [f1 q e (by unfold z_fin at hq; omega)])
    have rh := z_fix_her hF1 hr.1
    have er : M1 48 (M1 47 1) = M 48 0 := by rw [e1, e3]
    have g := gX4_keep_13 (M := M1) (xs := xs) (d := d) (P := P) (x1 := h) hF1 H1.1 (by rw [er]; exact rh) (by rw [er]; exact r2) (by rw [e1]; omega)
    rw [er, e1, z_wid (by omega)] at g
    refine g ?_
    have C : z_hrd (z_cph M1 h (M 48 0)) (M 48 0) s := z_cph_h H1.1 rh (fun e => r2 e.symm) (by rw [f1 321 (by decide) (by decide)]; exact hn) H1
    have P1 : z_prm M1 h := by
      refine ⟨hp.1, fun i a b => ?_, fun i j a b c => ?_⟩
      · by_cases e : i = 39
        · rw [e, e3]
          exact hp.2.1 0 (by decide) (by decide)
        · rw [e2 i a (by omega)]
          exact hp.2.1 (i + 1) (by omega) (by omega)
      · by_cases e : j = 39
        · rw [e, e3, e2 i a (by omega)]
          exact fun w => hp.2.2 0 (i + 1) (by omega) (by omega) (by omega) w.symm
        · rw [e2 i a (by omega), e2 j (by omega) (by omega)]
          exact hp.2.2 _ _ (by omega) (by omega) (by omega)
    refine k _ (M 48 0) 39 1 ⟨⟨r1, r2⟩, fun q a b c => ?_, ?_, ⟨?_, ?_⟩, fun j a b => ?_, z_prm_q ?_ P1, ?_, ⟨by decide, by decide, Or.inr rfl, by omega, fun _ => rfl⟩, fun i a b => ⟨?_, ?_⟩⟩ ?_
    · rw [z_upn a, z_upn a, ← f1 q a b]
      exact z_cph_o c
    · rw [z_upi (by decide) rfl, z_upi (by decide) rfl, ← e0]
      exact congrFun (z_cph_o (by omega)) 0
    · rw [z_upi (by decide) rfl, z_ups]
    · rw [z_ups]
    · rw [z_upn (by omega), z_upn (by omega), ← f1 (M 48 0) (by omega) (by omega)]
      exact z_cph_0 (by omega)
    · rw [z_upn (by decide), z_upn (by decide)]
      exact z_cph_o (by omega)
    · rw [z_upn (by decide), z_upn (by decide), ← e3]
      exact congrFun (z_cph_o (by omega)) _
    · rw [z_upn (by decide), z_upn (by decide), ← e2 i a (by omega)]
      exact congrFun (z_cph_o (by omega)) _
    · exact fun w => hp.2.2 0 (i + 1) (by omega) (by omega) (by omega) w.symm
    · refine z_hrd_q (fun q hq => ?_) C
      rw [z_upn (by omega), z_upn (by omega)]
      rfl
/-- the model's act -/
theorem s_X10_act {xs : List Int} {d : Nat} {M : z_M} {P : Option z_V → z_L → z_M → Prop} (hF : z_fix M) (hA : 0 ≤ M 321 64 ∧ M 321 64 ≤ 40) (k : ∀ (M' : z_M) (A sh : Int), (∀ q, q ≠ 321 → q ≠ 345 → M' q = M q) → (∀ j, j ≠ 64 → j ≠ 65 → M' 321 j = M 321 j) → (M' 321 64 = A + 1 ∧ M' 321 65 = 0) → (0 ≤ A ∧ A < 40 ∧ (sh = 0 ∨ sh = 1) ∧ A + sh = M 321 64 ∧ (sh = 1 → A = 39)) → (∀ i j : Int, 0 ≤ i → i < A → 0 ≤ j → j < 106 → M' 345 (106 * i + j) = M 345 (106 * (i + sh) + j)) → (∀ j : Int, 0 ≤ j → j < 106 → M' 345 (106 * A + j) = M 342 j) → P none z_LL M') : wp xs d mX10_act 0 [(2, 321), (3, 0)] [] z_LL M P := by
  have tail : ∀ (M1 : z_M) (A sh : Int), (∀ q, q ≠ 321 → q ≠ 345 → M1 q = M q) → (∀ j, j ≠ 64 → M1 321 j = M 321 j) → M1 321 64 = A → (0 ≤ A ∧ A < 40 ∧ (sh = 0 ∨ sh = 1) ∧ A + sh = M 321 64 ∧ (sh = 1 → A = 39)) → (∀ i j : Int, 0 ≤ i → i < A → 0 ≤ j → j < 106 → M1 345 (106 * i + j) = M 345 (106 * (i + sh) + j)) → wp xs d mX10_act 51 [(2, 321), (0, 0)] [] z_LL M1 P := by
    intro M1 A sh f1 f2 e1 hA2 v1
    have hF1 : z_fix M1 := z_fix_gen hF (fun q i hq => by
      by_cases e : q = 321
      · rw [e] at hq ⊢
        exact f2 i (by unfold z_fin at hq; omega)
      · rw [f1 q e (by unfold z_fin at hq; omega)])
    refine z_loop (W := fun i => ∀ M' : z_M, (∀ q, q ≠ 345 → M' q = M1 q) → (∀ j : Int, ¬ (106 * A ≤ j ∧ j < 106 * A + i) → M' 345 j = M1 345 j) → (∀ j : Int, 0 ≤ j → j < i → M' 345 (106 * A + j) = M 342 j) → wp xs d mX10_act 51 [(2, 321), (0, (i : Int))] [] z_LL M' P) 106 (fun i hi ih M' h1 h2 h3 => ?_) M1 (fun _ _ => rfl) (fun _ _ => rfl) (fun j a b => by omega)
    have g := gX10_act_51 (M := M') (xs := xs) (d := d) (P := P) (x1 := (i : Int)) (z_fix_at hF1 h1 (by unfold z_fobj; omega))
    simp only [h1 321 (by decide), h1 342 (by decide), f1 342 (by decide) (by decide), e1, z_in1 (i := i) (by omega), z_wid (x := 106 * A) (by omega), z_wid (x := 106 * A + i) (by omega), z_wid (x := A + 1) (by omega)] at g
    apply g
    case b1 => intros; omega
    case b2 => intros; omega
    case l1 =>
      intro c
      obtain rfl : i = 106 := by omega
      refine k _ A sh (fun q a b => by rw [z_upn a, z_upn a, h1 q b, f1 q a b]) (fun j a b => by rw [z_upi b rfl, z_upi a rfl, h1 321 (by decide), f2 j a]) ⟨by rw [z_upi (by decide) rfl, z_ups], z_ups⟩ hA2 (fun i j a b c d => ?_) (fun j a b => ?_)
      · rw [z_upn (by decide), z_upn (by decide), h2 _ (by omega), v1 i j a b c d]
      · rw [z_upn (by decide), z_upn (by decide), h3 j a (by omega)]
    case l2 =>
      intro c
      refine ih (by omega) _ (fun q hq => by rw [z_upn hq, h1 q hq]) (fun j hj => by rw [z_upi (by omega) rfl, h2 j (by omega)]) (fun j a b => ?_)
      by_cases e : j = i
      · rw [e, z_ups]
      · rw [z_upi (by omega) rfl, h3 j a (by omega)]
  refine gX10_act_0 (fun c => ?_) (fun c => ?_)
  · exact tail M (M 321 64) 0 (fun _ _ _ => rfl) (fun _ _ => rfl) rfl ⟨hA.1, by omega, Or.inl rfl, by omega, fun w => by omega⟩ (fun i j _ _ _ _ => by rw [Int.add_zero])
  · have c := Classical.byContradiction c
    refine z_loop (W := fun i => ∀ M' : z_M, (∀ q, q ≠ 345 → M' q = M q) → (∀ j : Int, 0 ≤ j → j < i → M' 345 j = M 345 (106 + j)) → (∀ j : Int, i ≤ j → M' 345 j = M 345 j) → wp xs d mX10_act 11 [(2, 321), (0, (i : Int))] [] z_LL M' P) 4134 (fun i hi ih M' h1 h2 h3 => ?_) M (fun _ _ => rfl) (fun j a b => by omega) (fun _ _ => rfl)
    have g := gX10_act_11 (M := M') (xs := xs) (d := d) (P := P) (x1 := (i : Int)) (z_fix_at hF h1 (by unfold z_fobj; omega))
    simp only [h1 321 (by decide), c, z_in1 (i := i) (by omega), z_wid (x := 106 + (i : Int)) (by omega)] at g
    apply g
    case b1 => intros; omega
    case b2 => intros; omega
    case l1 =>
      intro c2
      obtain rfl : i = 4134 := by omega
      refine tail _ 39 1 (fun q a b => by rw [z_upn a, h1 q b]) (fun j hj => by rw [z_upi hj rfl, h1 321 (by decide)]) (by rw [z_ups]; rfl) ⟨by decide, by decide, Or.inr rfl, by omega, fun _ => rfl⟩ (fun i j a b c d => ?_)
      rw [z_upn (by decide), h2 _ (by omega) (by omega), show 106 + (106 * i + j) = 106 * (i + 1) + j by omega]
    case l2 =>
      intro c2
      refine ih (by omega) _ (fun q hq => by rw [z_upn hq, h1 q hq]) (fun j a b => ?_) (fun j a => ?_)
      · by_cases e : j = i
        · rw [e, z_ups, h3 _ (by omega)]
        · rw [z_upi e rfl, h2 j a (by omega)]
      · rw [z_upi (by omega) rfl, h3 j (by omega)]
