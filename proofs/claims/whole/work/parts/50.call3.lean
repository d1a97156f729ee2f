/-! THE CALLS: weds, bare, law -/
theorem z_first (p : Nat → Prop) (B : Nat) : ∃ (N : Nat) (v : Int), N ≤ B ∧ (∀ j : Nat, j < N → ¬ p j) ∧ ((p N ∧ v = N) ∨ (¬ p N ∧ N = B ∧ v = -1)) := by
  have key : ∀ k : Nat, (∀ j : Nat, j < k → ¬ p j) ∨ ∃ N : Nat, N < k ∧ p N ∧ ∀ j : Nat, j < N → ¬ p j := by
    intro k
    induction k with
    | zero => exact Or.inl (fun j h => absurd h (by omega))
    | succ k ih =>
      rcases ih with h | ⟨N, h1, h2, h3⟩
      · by_cases e : p k
        · exact Or.inr ⟨k, by omega, e, h⟩
        · refine Or.inl (fun j hj => ?_)
          by_cases w : j = k
          · exact w ▸ e
          · exact h j (by omega)
      · exact Or.inr ⟨N, by omega, h2, h3⟩
  rcases key (B + 1) with h | ⟨N, h1, h2, h3⟩
  · exact ⟨B, -1, Nat.le_refl _, fun j hj => h j (by omega), Or.inr ⟨h B (by omega), rfl, rfl⟩⟩
  · exact ⟨N, N, by omega, h3, Or.inl ⟨h2, rfl⟩⟩
theorem z_dys_d {M : z_M} {D ev : Int} {s : Int → Int} (hC : z_mc M) (h : z_sn M D s) : ∀ n : Nat, z_dys M ev s n 104 = s 104 + n
  | 0 => by
    show s 104 = s 104 + ((0 : Nat) : Int)
    omega
  | n + 1 => by
    rw [z_dys, z_day_d hC (z_dys_sn hC h n), z_dys_d hC h n]
    omega
set_option maxRecDepth 20000 in
theorem gX0_daysToMatch_0 {xs : List Int} {d : Nat} {M : z_M} {P : Option z_V → z_L → z_M → Prop} {a1 : Int} {a2 : Int} (hF : z_fix M) (ha1 : z_her M a1) (hn1 : a1 ≠ 39)
    (l1 : wp xs (d + 1) mX0_daysToMatch 10 [(2, 38), (2, a1), (0, a2), (0, 0)] [] z_LL (z_up (z_up (z_up (z_cpy (z_cpy (z_cpy (z_cpy (z_cpy M (a1 + 1) 0 40 0 6) (a1 + 2) 0 41 0 6) (a1 + 3) 0 42 0 25) (a1 + 4) 0 43 0 25) (a1 + 5) 0 44 0 36) 39 5 (M a1 5)) 39 6 (M a1 6)) 39 7 (M a1 7)) P) :
    wp xs (d + 1) mX0_daysToMatch 0 [(2, 38), (2, a1), (0, a2), (3, 0)] [] z_LL M P := by
  refine wp_run 1 (pc' := 1) (ls' := [(2, 38), (2, a1), (0, a2), (3, 0)]) (st' := [(2, 38)]) rfl ?_
  refine wp_gf (pc' := 4) (t := 2) (v := 39) rfl rfl (by decide) rfl rfl (fx_38_1 hF) ?_
  refine wp_run 1 (pc' := 5) (ls' := [(2, 38), (2, a1), (0, a2), (3, 0)]) (st' := [(2, a1), (2, 39)]) rfl ?_
  refine wp_callv (pc' := 8) (as := [(2, 39), (2, a1)]) (rest := []) (ls1 := [(2, 39), (2, a1)]) rfl rfl rfl rfl rfl rfl ?_
  refine wp_run 1 (pc' := 1) (ls' := [(2, 39), (2, a1)]) (st' := [(2, a1)]) rfl ?_
  refine wp_gf (pc' := 4) (t := 2) (v := (a1 + 1)) rfl rfl (by decide) rfl (z_hl0 ha1) (z_hf0 ha1) ?_
  refine wp_run 2 (pc' := 6) (ls' := [(2, 39), (2, a1)]) (st' := [(2, 39), (0, 0), (2, (a1 + 1))]) rfl ?_
  refine wp_gf (pc' := 9) (t := 2) (v := 40) rfl rfl (by decide) rfl rfl (fx_39_0 hF) ?_
  refine wp_run 2 (pc' := 12) (ls' := [(2, 39), (2, a1)]) (st' := [(0, 6), (0, 0), (2, 40), (0, 0), (2, (a1 + 1))]) rfl ?_
  refine wp_acp (pc' := 15) rfl rfl (z_hl1 ha1) rfl (by decide) ?_
  refine wp_run 1 (pc' := 16) (ls' := [(2, 39), (2, a1)]) (st' := [(2, a1)]) rfl ?_
  refine wp_gf (pc' := 19) (t := 2) (v := (a1 + 2)) rfl rfl (by decide) rfl (z_hl0 ha1) (z_cpq (by have := z_hr ha1; omega) (z_hf1 ha1)) ?_
  refine wp_run 2 (pc' := 21) (ls' := [(2, 39), (2, a1)]) (st' := [(2, 39), (0, 0), (2, (a1 + 2))]) rfl ?_
  refine wp_gf (pc' := 24) (t := 2) (v := 41) rfl rfl (by decide) rfl rfl (z_cpq (by decide) (fx_39_1 hF)) ?_
  refine wp_run 2 (pc' := 27) (ls' := [(2, 39), (2, a1)]) (st' := [(0, 6), (0, 0), (2, 41), (0, 0), (2, (a1 + 2))]) rfl ?_
  refine wp_acp (pc' := 30) rfl rfl (z_hl2 ha1) rfl (by decide) ?_
  refine wp_run 1 (pc' := 31) (ls' := [(2, 39), (2, a1)]) (st' := [(2, a1)]) rfl ?_
  refine wp_gf (pc' := 34) (t := 2) (v := (a1 + 3)) rfl rfl (by decide) rfl (z_hl0 ha1) (z_cpq (by have := z_hr ha1; omega) (z_cpq (by have := z_hr ha1; omega) (z_hf2 ha1))) ?_
  refine wp_run 2 (pc' := 36) (ls' := [(2, 39), (2, a1)]) (st' := [(2, 39), (0, 0), (2, (a1 + 3))]) rfl ?_
  refine wp_gf (pc' := 39) (t := 2) (v := 42) rfl rfl (by decide) rfl rfl (z_cpq (by decide) (z_cpq (by decide) (fx_39_2 hF))) ?_
  refine wp_run 2 (pc' := 42) (ls' := [(2, 39), (2, a1)]) (st' := [(0, 25), (0, 0), (2, 42), (0, 0), (2, (a1 + 3))]) rfl ?_
  refine wp_acp (pc' := 45) rfl rfl (z_hl3 ha1) rfl (by decide) ?_
  refine wp_run 1 (pc' := 46) (ls' := [(2, 39), (2, a1)]) (st' := [(2, a1)]) rfl ?_
  refine wp_gf (pc' := 49) (t := 2) (v := (a1 + 4)) rfl rfl (by decide) rfl (z_hl0 ha1) (z_cpq (by have := z_hr ha1; omega) (z_cpq (by have := z_hr ha1; omega) (z_cpq (by have := z_hr ha1; omega) (z_hf3 ha1)))) ?_
  refine wp_run 2 (pc' := 51) (ls' := [(2, 39), (2, a1)]) (st' := [(2, 39), (0, 0), (2, (a1 + 4))]) rfl ?_
  refine wp_gf (pc' := 54) (t := 2) (v := 43) rfl rfl (by decide) rfl rfl (z_cpq (by decide) (z_cpq (by decide) (z_cpq (by decide) (fx_39_3 hF)))) ?_
  refine wp_run 2 (pc' := 57) (ls' := [(2, 39), (2, a1)]) (st' := [(0, 25), (0, 0), (2, 43), (0, 0), (2, (a1 + 4))]) rfl ?_
  refine wp_acp (pc' := 60) rfl rfl (z_hl4 ha1) rfl (by decide) ?_
  refine wp_run 1 (pc' := 61) (ls' := [(2, 39), (2, a1)]) (st' := [(2, a1)]) rfl ?_
  refine wp_gf (pc' := 64) (t := 2) (v := (a1 + 5)) rfl rfl (by decide) rfl (z_hl0 ha1) (z_cpq (by have := z_hr ha1; omega) (z_cpq (by have := z_hr ha1; omega) (z_cpq (by have := z_hr ha1; omega) (z_cpq (by have := z_hr ha1; omega) (z_hf4 ha1))))) ?_
  refine wp_run 2 (pc' := 66) (ls' := [(2, 39), (2, a1)]) (st' := [(2, 39), (0, 0), (2, (a1 + 5))]) rfl ?_
  refine wp_gf (pc' := 69) (t := 2) (v := 44) rfl rfl (by decide) rfl rfl (z_cpq (by decide) (z_cpq (by decide) (z_cpq (by decide) (z_cpq (by decide) (fx_39_4 hF))))) ?_
  refine wp_run 2 (pc' := 71) (ls' := [(2, 39), (2, a1)]) (st' := [(2, 39), (0, 0), (2, 44), (0, 0), (2, (a1 + 5))]) rfl ?_
  refine wp_gf (pc' := 74) (t := 2) (v := 44) rfl rfl (by decide) rfl rfl (z_cpq (by decide) (z_cpq (by decide) (z_cpq (by decide) (z_cpq (by decide) (fx_39_4 hF))))) ?_
  refine wp_len (pc' := 75) rfl rfl rfl (by decide) ?_
  refine wp_acp (pc' := 78) rfl rfl (z_hl5 ha1) rfl (by decide) ?_
  refine wp_run 2 (pc' := 80) (ls' := [(2, 39), (2, a1)]) (st' := [(2, a1), (2, 39)]) rfl ?_
  refine wp_gf (pc' := 83) (t := 0) (v := (M a1 5)) rfl rfl (by decide) rfl (z_hl0 ha1) (z_cpq (by have := z_hr ha1; omega) (z_cpq (by have := z_hr ha1; omega) (z_cpq (by have := z_hr ha1; omega) (z_cpq (by have := z_hr ha1; omega) (z_cpq (by have := z_hr ha1; omega) rfl))))) ?_
  refine wp_pf (pc' := 86) rfl rfl rfl rfl (fun z => absurd z (by decide)) (fun z => absurd z (by decide)) ?_
  refine wp_run 2 (pc' := 88) (ls' := [(2, 39), (2, a1)]) (st' := [(2, a1), (2, 39)]) rfl ?_
  refine wp_gf (pc' := 91) (t := 0) (v := (M a1 6)) rfl rfl (by decide) rfl (z_hl0 ha1) (z_upq (by have := z_hr ha1; omega) (z_cpq (by have := z_hr ha1; omega) (z_cpq (by have := z_hr ha1; omega) (z_cpq (by have := z_hr ha1; omega) (z_cpq (by have := z_hr ha1; omega) (z_cpq (by have := z_hr ha1; omega) rfl)))))) ?_
  refine wp_pf (pc' := 94) rfl rfl rfl rfl (fun z => absurd z (by decide)) (fun z => absurd z (by decide)) ?_
  refine wp_run 2 (pc' := 96) (ls' := [(2, 39), (2, a1)]) (st' := [(2, a1), (2, 39)]) rfl ?_
  refine wp_gf (pc' := 99) (t := 0) (v := (M a1 7)) rfl rfl (by decide) rfl (z_hl0 ha1) (z_upq (by have := z_hr ha1; omega) (z_upq (by have := z_hr ha1; omega) (z_cpq (by have := z_hr ha1; omega) (z_cpq (by have := z_hr ha1; omega) (z_cpq (by have := z_hr ha1; omega) (z_cpq (by have := z_hr ha1; omega) (z_cpq (by have := z_hr ha1; omega) rfl))))))) ?_
  refine wp_pf (pc' := 102) rfl rfl rfl rfl (fun z => absurd z (by decide)) (fun z => absurd z (by decide)) ?_
  refine wp_ret rfl rfl ?_
  show wp xs _ mX0_daysToMatch 8 [(2, 38), (2, a1), (0, a2), (3, 0)] [] z_LL (z_up (z_up (z_up (z_cpy (z_cpy (z_cpy (z_cpy (z_cpy M (a1 + 1) 0 40 0 6) (a1 + 2) 0 41 0 6) (a1 + 3) 0 42 0 25) (a1 + 4) 0 43 0 25) (a1 + 5) 0 44 0 36) 39 5 (M a1 5)) 39 6 (M a1 6)) 39 7 (M a1 7)) _
  refine wp_run 2 (pc' := 10) (ls' := [(2, 38), (2, a1), (0, a2), (0, 0)]) (st' := []) rfl ?_
  exact l1
set_option maxRecDepth 20000 in
theorem gX0_daysToMatch_10 {xs : List Int} {d : Nat} {M : z_M} {P : Option z_V → z_L → z_M → Prop} {x1 : Int} {x2 : Int} {x3 : Int} (hF : z_fix M) (hx1 : z_her M x1) (hg2 : z_gor M (M 34 3))
    (b1 : (60 ≤ x3) → 0 ≤ x2 ∧ x2 < 6)
    (l1 : (60 ≤ x3) → ((M 41 x2) ≠ (-1)) → P (some (0, (z_w ((M 39 6) - (M x1 6))))) z_LL M)
    (l2 : (60 ≤ x3) → (¬ ((M 41 x2) ≠ (-1))) → P (some (0, (-1))) z_LL M)
    (b2 : (¬ (60 ≤ x3)) → 0 ≤ x2 ∧ x2 < 6)
    (l3 : (¬ (60 ≤ x3)) → ((M 41 x2) ≠ (-1)) → ((M 41 x2) ≠ (-1)) → P (some (0, (z_w ((M 39 6) - (M x1 6))))) z_LL M)
    (l4 : (¬ (60 ≤ x3)) → ((M 41 x2) ≠ (-1)) → (¬ ((M 41 x2) ≠ (-1))) → P (some (0, (-1))) z_LL M)
    (l5 : (¬ (60 ≤ x3)) → (¬ ((M 41 x2) ≠ (-1))) → wp xs d mX8_pass 0 [(2, 34), (2, 39), (0, (M (M 34 3) 18)), (3, 0)] [] z_LL M (fun r L1 M1 => wp xs (d + 1) mX0_daysToMatch 50 [(2, 38), (2, x1), (0, x2), (0, x3)] (z_ol r ++ []) L1 M1 P)) :
    wp xs (d + 1) mX0_daysToMatch 10 [(2, 38), (2, x1), (0, x2), (0, x3)] [] z_LL M P := by
  refine wp_run 2 (pc' := 13) (ls' := [(2, 38), (2, x1), (0, x2), (0, x3)]) (st' := [(0, 60), (0, x3)]) rfl ?_
  refine wp_if2 rfl rfl rfl (fun (c1 : 60 ≤ x3) => ?_) (fun (c1 : ¬ (60 ≤ x3)) => ?_)
  · refine wp_run 1 (pc' := 58) (ls' := [(2, 38), (2, x1), (0, x2), (0, x3)]) (st' := [(2, 38)]) rfl ?_
    refine wp_gf (pc' := 61) (t := 2) (v := 39) rfl rfl (by decide) rfl rfl (fx_38_1 hF) ?_
    refine wp_gf (pc' := 64) (t := 2) (v := 41) rfl rfl (by decide) rfl rfl (fx_39_1 hF) ?_
    refine wp_run 1 (pc' := 65) (ls' := [(2, 38), (2, x1), (0, x2), (0, x3)]) (st' := [(0, x2), (2, 41)]) rfl ?_
    refine wp_iald (pc' := 66) (v := (M 41 x2)) rfl rfl rfl (b1 c1) rfl ?_
    refine wp_run 1 (pc' := 67) (ls' := [(2, 38), (2, x1), (0, x2), (0, x3)]) (st' := [(0, (-1)), (0, (M 41 x2))]) rfl ?_
    refine wp_if2 rfl rfl rfl (fun (c2 : (M 41 x2) ≠ (-1)) => ?_) (fun (c2 : ¬ ((M 41 x2) ≠ (-1))) => ?_)
    · refine wp_run 1 (pc' := 75) (ls' := [(2, 38), (2, x1), (0, x2), (0, x3)]) (st' := [(2, 38)]) rfl ?_
      refine wp_gf (pc' := 78) (t := 2) (v := 39) rfl rfl (by decide) rfl rfl (fx_38_1 hF) ?_
      refine wp_gf (pc' := 81) (t := 0) (v := (M 39 6)) rfl rfl (by decide) rfl rfl rfl ?_
      refine wp_run 1 (pc' := 82) (ls' := [(2, 38), (2, x1), (0, x2), (0, x3)]) (st' := [(2, x1), (0, (M 39 6))]) rfl ?_
      refine wp_gf (pc' := 85) (t := 0) (v := (M x1 6)) rfl rfl (by decide) rfl (z_hl0 hx1) rfl ?_
      refine wp_run 1 (pc' := 86) (ls' := [(2, 38), (2, x1), (0, x2), (0, x3)]) (st' := [(0, (z_w ((M 39 6) - (M x1 6))))]) rfl ?_
      exact wp_ret rfl rfl (l1 c1 c2)
    · refine wp_run 2 (pc' := 86) (ls' := [(2, 38), (2, x1), (0, x2), (0, x3)]) (st' := [(0, (-1))]) rfl ?_
      exact wp_ret rfl rfl (l2 c1 c2)
  · refine wp_run 1 (pc' := 17) (ls' := [(2, 38), (2, x1), (0, x2), (0, x3)]) (st' := [(2, 38)]) rfl ?_
    refine wp_gf (pc' := 20) (t := 2) (v := 39) rfl rfl (by decide) rfl rfl (fx_38_1 hF) ?_
    refine wp_gf (pc' := 23) (t := 2) (v := 41) rfl rfl (by decide) rfl rfl (fx_39_1 hF) ?_
    refine wp_run 1 (pc' := 24) (ls' := [(2, 38), (2, x1), (0, x2), (0, x3)]) (st' := [(0, x2), (2, 41)]) rfl ?_
    refine wp_iald (pc' := 25) (v := (M 41 x2)) rfl rfl rfl (b2 c1) rfl ?_
    refine wp_run 1 (pc' := 26) (ls' := [(2, 38), (2, x1), (0, x2), (0, x3)]) (st' := [(0, (-1)), (0, (M 41 x2))]) rfl ?_
    refine wp_if2 rfl rfl rfl (fun (c3 : (M 41 x2) ≠ (-1)) => ?_) (fun (c3 : ¬ ((M 41 x2) ≠ (-1))) => ?_)
    · refine wp_run 1 (pc' := 58) (ls' := [(2, 38), (2, x1), (0, x2), (0, x3)]) (st' := [(2, 38)]) rfl ?_
      refine wp_gf (pc' := 61) (t := 2) (v := 39) rfl rfl (by decide) rfl rfl (fx_38_1 hF) ?_
      refine wp_gf (pc' := 64) (t := 2) (v := 41) rfl rfl (by decide) rfl rfl (fx_39_1 hF) ?_
      refine wp_run 1 (pc' := 65) (ls' := [(2, 38), (2, x1), (0, x2), (0, x3)]) (st' := [(0, x2), (2, 41)]) rfl ?_
      refine wp_iald (pc' := 66) (v := (M 41 x2)) rfl rfl rfl (b2 c1) rfl ?_
      refine wp_run 1 (pc' := 67) (ls' := [(2, 38), (2, x1), (0, x2), (0, x3)]) (st' := [(0, (-1)), (0, (M 41 x2))]) rfl ?_
      refine wp_if2 rfl rfl rfl (fun (c4 : (M 41 x2) ≠ (-1)) => ?_) (fun (c4 : ¬ ((M 41 x2) ≠ (-1))) => ?_)
      · refine wp_run 1 (pc' := 75) (ls' := [(2, 38), (2, x1), (0, x2), (0, x3)]) (st' := [(2, 38)]) rfl ?_
        refine wp_gf (pc' := 78) (t := 2) (v := 39) rfl rfl (by decide) rfl rfl (fx_38_1 hF) ?_
        refine wp_gf (pc' := 81) (t := 0) (v := (M 39 6)) rfl rfl (by decide) rfl rfl rfl ?_
        refine wp_run 1 (pc' := 82) (ls' := [(2, 38), (2, x1), (0, x2), (0, x3)]) (st' := [(2, x1), (0, (M 39 6))]) rfl ?_
        refine wp_gf (pc' := 85) (t := 0) (v := (M x1 6)) rfl rfl (by decide) rfl (z_hl0 hx1) rfl ?_
        refine wp_run 1 (pc' := 86) (ls' := [(2, 38), (2, x1), (0, x2), (0, x3)]) (st' := [(0, (z_w ((M 39 6) - (M x1 6))))]) rfl ?_
        exact wp_ret rfl rfl (l3 c1 c3 c4)
      · refine wp_run 2 (pc' := 86) (ls' := [(2, 38), (2, x1), (0, x2), (0, x3)]) (st' := [(0, (-1))]) rfl ?_
        exact wp_ret rfl rfl (l4 c1 c3 c4)
    · refine wp_run 1 (pc' := 30) (ls' := [(2, 38), (2, x1), (0, x2), (0, x3)]) (st' := [(2, 38)]) rfl ?_
      refine wp_gf (pc' := 33) (t := 2) (v := 34) rfl rfl (by decide) rfl rfl (fx_38_0 hF) ?_
      refine wp_run 1 (pc' := 34) (ls' := [(2, 38), (2, x1), (0, x2), (0, x3)]) (st' := [(2, 38), (2, 34)]) rfl ?_
      refine wp_gf (pc' := 37) (t := 2) (v := 39) rfl rfl (by decide) rfl rfl (fx_38_1 hF) ?_
      refine wp_run 1 (pc' := 38) (ls' := [(2, 38), (2, x1), (0, x2), (0, x3)]) (st' := [(2, 38), (2, 39), (2, 34)]) rfl ?_
      refine wp_gf (pc' := 41) (t := 2) (v := 34) rfl rfl (by decide) rfl rfl (fx_38_0 hF) ?_
      refine wp_gf (pc' := 44) (t := 2) (v := (M 34 3)) rfl rfl (by decide) rfl rfl rfl ?_
      refine wp_gf (pc' := 47) (t := 0) (v := (M (M 34 3) 18)) rfl rfl (by decide) rfl (z_gl0 hg2) rfl ?_
      refine wp_callv (pc' := 50) (as := [(2, 34), (2, 39), (0, (M (M 34 3) 18))]) (rest := []) (ls1 := [(2, 34), (2, 39), (0, (M (M 34 3) 18)), (3, 0)]) rfl rfl rfl rfl rfl rfl ?_
      exact l5 c1 c3
set_option maxRecDepth 20000 in
theorem gX0_daysToMatch_50 {xs : List Int} {d : Nat} {M : z_M} {P : Option z_V → z_L → z_M → Prop} {x1 : Int} {x2 : Int} {x3 : Int} {s0 : Int} (hx1 : z_her M x1)
    (l1 : wp xs d mX0_daysToMatch 10 [(2, 38), (2, x1), (0, x2), (0, (z_w (x3 + 1)))] [] z_LL M P) :
    wp xs d mX0_daysToMatch 50 [(2, 38), (2, x1), (0, x2), (0, x3)] [(0, s0)] z_LL M P := by
  refine wp_run 3 (pc' := 10) (ls' := [(2, 38), (2, x1), (0, x2), (0, (z_w (x3 + 1)))]) (st' := []) rfl ?_
  exact l1
set_option maxRecDepth 20000 in
theorem gX0_daysToBare_0 {xs : List Int} {d : Nat} {M : z_M} {P : Option z_V → z_L → z_M → Prop} {a1 : Int} (hF : z_fix M) (ha1 : z_her M a1) (hn1 : a1 ≠ 39)
    (l1 : wp xs (d + 1) mX0_daysToBare 10 [(2, 38), (2, a1), (0, 0)] [] z_LL (z_up (z_up (z_up (z_cpy (z_cpy (z_cpy (z_cpy (z_cpy M (a1 + 1) 0 40 0 6) (a1 + 2) 0 41 0 6) (a1 + 3) 0 42 0 25) (a1 + 4) 0 43 0 25) (a1 + 5) 0 44 0 36) 39 5 (M a1 5)) 39 6 (M a1 6)) 39 7 (M a1 7)) P) :
    wp xs (d + 1) mX0_daysToBare 0 [(2, 38), (2, a1), (3, 0)] [] z_LL M P := by
  refine wp_run 1 (pc' := 1) (ls' := [(2, 38), (2, a1), (3, 0)]) (st' := [(2, 38)]) rfl ?_
  refine wp_gf (pc' := 4) (t := 2) (v := 39) rfl rfl (by decide) rfl rfl (fx_38_1 hF) ?_
  refine wp_run 1 (pc' := 5) (ls' := [(2, 38), (2, a1), (3, 0)]) (st' := [(2, a1), (2, 39)]) rfl ?_
  refine wp_callv (pc' := 8) (as := [(2, 39), (2, a1)]) (rest := []) (ls1 := [(2, 39), (2, a1)]) rfl rfl rfl rfl rfl rfl ?_
  refine wp_run 1 (pc' := 1) (ls' := [(2, 39), (2, a1)]) (st' := [(2, a1)]) rfl ?_
  refine wp_gf (pc' := 4) (t := 2) (v := (a1 + 1)) rfl rfl (by decide) rfl (z_hl0 ha1) (z_hf0 ha1) ?_
  refine wp_run 2 (pc' := 6) (ls' := [(2, 39), (2, a1)]) (st' := [(2, 39), (0, 0), (2, (a1 + 1))]) rfl ?_
  refine wp_gf (pc' := 9) (t := 2) (v := 40) rfl rfl (by decide) rfl rfl (fx_39_0 hF) ?_
  refine wp_run 2 (pc' := 12) (ls' := [(2, 39), (2, a1)]) (st' := [(0, 6), (0, 0), (2, 40), (0, 0), (2, (a1 + 1))]) rfl ?_
  refine wp_acp (pc' := 15) rfl rfl (z_hl1 ha1) rfl (by decide) ?_
  refine wp_run 1 (pc' := 16) (ls' := [(2, 39), (2, a1)]) (st' := [(2, a1)]) rfl ?_
  refine wp_gf (pc' := 19) (t := 2) (v := (a1 + 2)) rfl rfl (by decide) rfl (z_hl0 ha1) (z_cpq (by have := z_hr ha1; omega) (z_hf1 ha1)) ?_
  refine wp_run 2 (pc' := 21) (ls' := [(2, 39), (2, a1)]) (st' := [(2, 39), (0, 0), (2, (a1 + 2))]) rfl ?_
  refine wp_gf (pc' := 24) (t := 2) (v := 41) rfl rfl (by decide) rfl rfl (z_cpq (by decide) (fx_39_1 hF)) ?_
  refine wp_run 2 (pc' := 27) (ls' := [(2, 39), (2, a1)]) (st' := [(0, 6), (0, 0), (2, 41), (0, 0), (2, (a1 + 2))]) rfl ?_
  refine wp_acp (pc' := 30) rfl rfl (z_hl2 ha1) rfl (by decide) ?_
  refine wp_run 1 (pc' := 31) (ls' := [(2, 39), (2, a1)]) (st' := [(2, a1)]) rfl ?_
  refine wp_gf (pc' := 34) (t := 2) (v := (a1 + 3)) rfl rfl (by decide) rfl (z_hl0 ha1) (z_cpq (by have := z_hr ha1; omega) (z_cpq (by have := z_hr ha1; omega) (z_hf2 ha1))) ?_
  refine wp_run 2 (pc' := 36) (ls' := [(2, 39), (2, a1)]) (st' := [(2, 39), (0, 0), (2, (a1 + 3))]) rfl ?_
  refine wp_gf (pc' := 39) (t := 2) (v := 42) rfl rfl (by decide) rfl rfl (z_cpq (by decide) (z_cpq (by decide) (fx_39_2 hF))) ?_
  refine wp_run 2 (pc' := 42) (ls' := [(2, 39), (2, a1)]) (st' := [(0, 25), (0, 0), (2, 42), (0, 0), (2, (a1 + 3))]) rfl ?_
  refine wp_acp (pc' := 45) rfl rfl (z_hl3 ha1) rfl (by decide) ?_
  refine wp_run 1 (pc' := 46) (ls' := [(2, 39), (2, a1)]) (st' := [(2, a1)]) rfl ?_
  refine wp_gf (pc' := 49) (t := 2) (v := (a1 + 4)) rfl rfl (by decide) rfl (z_hl0 ha1) (z_cpq (by have := z_hr ha1; omega) (z_cpq (by have := z_hr ha1; omega) (z_cpq (by have := z_hr ha1; omega) (z_hf3 ha1)))) ?_
  refine wp_run 2 (pc' := 51) (ls' := [(2, 39), (2, a1)]) (st' := [(2, 39), (0, 0), (2, (a1 + 4))]) rfl ?_
  refine wp_gf (pc' := 54) (t := 2) (v := 43) rfl rfl (by decide) rfl rfl (z_cpq (by decide) (z_cpq (by decide) (z_cpq (by decide) (fx_39_3 hF)))) ?_
  refine wp_run 2 (pc' := 57) (ls' := [(2, 39), (2, a1)]) (st' := [(0, 25), (0, 0), (2, 43), (0, 0), (2, (a1 + 4))]) rfl ?_
  refine wp_acp (pc' := 60) rfl rfl (z_hl4 ha1) rfl (by decide) ?_
  refine wp_run 1 (pc' := 61) (ls' := [(2, 39), (2, a1)]) (st' := [(2, a1)]) rfl ?_
  refine wp_gf (pc' := 64) (t := 2) (v := (a1 + 5)) rfl rfl (by decide) rfl (z_hl0 ha1) (z_cpq (by have := z_hr ha1; omega) (z_cpq (by have := z_hr ha1; omega) (z_cpq (by have := z_hr ha1; omega) (z_cpq (by have := z_hr ha1; omega) (z_hf4 ha1))))) ?_
  refine wp_run 2 (pc' := 66) (ls' := [(2, 39), (2, a1)]) (st' := [(2, 39), (0, 0), (2, (a1 + 5))]) rfl ?_
  refine wp_gf (pc' := 69) (t := 2) (v := 44) rfl rfl (by decide) rfl rfl (z_cpq (by decide) (z_cpq (by decide) (z_cpq (by decide) (z_cpq (by decide) (fx_39_4 hF))))) ?_
  refine wp_run 2 (pc' := 71) (ls' := [(2, 39), (2, a1)]) (st' := [(2, 39), (0, 0), (2, 44), (0, 0), (2, (a1 + 5))]) rfl ?_
  refine wp_gf (pc' := 74) (t := 2) (v := 44) rfl rfl (by decide) rfl rfl (z_cpq (by decide) (z_cpq (by decide) (z_cpq (by decide) (z_cpq (by decide) (fx_39_4 hF))))) ?_
  refine wp_len (pc' := 75) rfl rfl rfl (by decide) ?_
  refine wp_acp (pc' := 78) rfl rfl (z_hl5 ha1) rfl (by decide) ?_
  refine wp_run 2 (pc' := 80) (ls' := [(2, 39), (2, a1)]) (st' := [(2, a1), (2, 39)]) rfl ?_
  refine wp_gf (pc' := 83) (t := 0) (v := (M a1 5)) rfl rfl (by decide) rfl (z_hl0 ha1) (z_cpq (by have := z_hr ha1; omega) (z_cpq (by have := z_hr ha1; omega) (z_cpq (by have := z_hr ha1; omega) (z_cpq (by have := z_hr ha1; omega) (z_cpq (by have := z_hr ha1; omega) rfl))))) ?_
  refine wp_pf (pc' := 86) rfl rfl rfl rfl (fun z => absurd z (by decide)) (fun z => absurd z (by decide)) ?_
  refine wp_run 2 (pc' := 88) (ls' := [(2, 39), (2, a1)]) (st' := [(2, a1), (2, 39)]) rfl ?_
  refine wp_gf (pc' := 91) (t := 0) (v := (M a1 6)) rfl rfl (by decide) rfl (z_hl0 ha1) (z_upq (by have := z_hr ha1; omega) (z_cpq (by have := z_hr ha1; omega) (z_cpq (by have := z_hr ha1; omega) (z_cpq (by have := z_hr ha1; omega) (z_cpq (by have := z_hr ha1; omega) (z_cpq (by have := z_hr ha1; omega) rfl)))))) ?_
  refine wp_pf (pc' := 94) rfl rfl rfl rfl (fun z => absurd z (by decide)) (fun z => absurd z (by decide)) ?_
  refine wp_run 2 (pc' := 96) (ls' := [(2, 39), (2, a1)]) (st' := [(2, a1), (2, 39)]) rfl ?_
  refine wp_gf (pc' := 99) (t := 0) (v := (M a1 7)) rfl rfl (by decide) rfl (z_hl0 ha1) (z_upq (by have := z_hr ha1; omega) (z_upq (by have := z_hr ha1; omega) (z_cpq (by have := z_hr ha1; omega) (z_cpq (by have := z_hr ha1; omega) (z_cpq (by have := z_hr ha1; omega) (z_cpq (by have := z_hr ha1; omega) (z_cpq (by have := z_hr ha1; omega) rfl))))))) ?_
  refine wp_pf (pc' := 102) rfl rfl rfl rfl (fun z => absurd z (by decide)) (fun z => absurd z (by decide)) ?_
  refine wp_ret rfl rfl ?_
  show wp xs _ mX0_daysToBare 8 [(2, 38), (2, a1), (3, 0)] [] z_LL (z_up (z_up (z_up (z_cpy (z_cpy (z_cpy (z_cpy (z_cpy M (a1 + 1) 0 40 0 6) (a1 + 2) 0 41 0 6) (a1 + 3) 0 42 0 25) (a1 + 4) 0 43 0 25) (a1 + 5) 0 44 0 36) 39 5 (M a1 5)) 39 6 (M a1 6)) 39 7 (M a1 7)) _
  refine wp_run 2 (pc' := 10) (ls' := [(2, 38), (2, a1), (0, 0)]) (st' := []) rfl ?_
  exact l1
set_option maxRecDepth 20000 in
theorem gX0_daysToBare_10 {xs : List Int} {d : Nat} {M : z_M} {P : Option z_V → z_L → z_M → Prop} {x1 : Int} {x2 : Int} (hF : z_fix M) (hx1 : z_her M x1) (hh2 : z_her M 39) (hg3 : z_gor M (M 34 3))
    (l1 : (60 ≤ x2) → ((z_agr M 39) ≤ 0) → P (some (0, (z_w ((M 39 6) - (M x1 6))))) z_LL M)
    (l2 : (60 ≤ x2) → (¬ ((z_agr M 39) ≤ 0)) → P (some (0, (-1))) z_LL M)
    (l3 : (¬ (60 ≤ x2)) → ((z_agr M 39) ≤ 0) → ((z_agr M 39) ≤ 0) → P (some (0, (z_w ((M 39 6) - (M x1 6))))) z_LL M)
    (l4 : (¬ (60 ≤ x2)) → ((z_agr M 39) ≤ 0) → (¬ ((z_agr M 39) ≤ 0)) → P (some (0, (-1))) z_LL M)
    (l5 : (¬ (60 ≤ x2)) → (¬ ((z_agr M 39) ≤ 0)) → wp xs d mX8_pass 0 [(2, 34), (2, 39), (0, (M (M 34 3) 18)), (3, 0)] [] z_LL M (fun r L1 M1 => wp xs (d + 1) mX0_daysToBare 47 [(2, 38), (2, x1), (0, x2)] (z_ol r ++ []) L1 M1 P)) :
    wp xs (d + 1) mX0_daysToBare 10 [(2, 38), (2, x1), (0, x2)] [] z_LL M P := by
  refine wp_run 2 (pc' := 13) (ls' := [(2, 38), (2, x1), (0, x2)]) (st' := [(0, 60), (0, x2)]) rfl ?_
  refine wp_if2 rfl rfl rfl (fun (c1 : 60 ≤ x2) => ?_) (fun (c1 : ¬ (60 ≤ x2)) => ?_)
  · refine wp_run 1 (pc' := 55) (ls' := [(2, 38), (2, x1), (0, x2)]) (st' := [(2, 38)]) rfl ?_
    refine wp_gf (pc' := 58) (t := 2) (v := 39) rfl rfl (by decide) rfl rfl (fx_38_1 hF) ?_
    refine wp_callv (pc' := 61) (as := [(2, 39)]) (rest := []) (ls1 := [(2, 39), (3, 0), (3, 0)]) rfl rfl rfl rfl rfl rfl ?_
    refine s_X2_allGrass hh2 ?_
    show wp xs _ mX0_daysToBare 61 [(2, 38), (2, x1), (0, x2)] [(0, (z_agr M 39))] z_LL M _
    refine wp_if1 rfl rfl rfl (fun (c2 : (z_agr M 39) ≤ 0) => ?_) (fun (c2 : ¬ ((z_agr M 39) ≤ 0)) => ?_)
    · refine wp_run 1 (pc' := 69) (ls' := [(2, 38), (2, x1), (0, x2)]) (st' := [(2, 38)]) rfl ?_
      refine wp_gf (pc' := 72) (t := 2) (v := 39) rfl rfl (by decide) rfl rfl (fx_38_1 hF) ?_
      refine wp_gf (pc' := 75) (t := 0) (v := (M 39 6)) rfl rfl (by decide) rfl rfl rfl ?_
      refine wp_run 1 (pc' := 76) (ls' := [(2, 38), (2, x1), (0, x2)]) (st' := [(2, x1), (0, (M 39 6))]) rfl ?_
      refine wp_gf (pc' := 79) (t := 0) (v := (M x1 6)) rfl rfl (by decide) rfl (z_hl0 hx1) rfl ?_
      refine wp_run 1 (pc' := 80) (ls' := [(2, 38), (2, x1), (0, x2)]) (st' := [(0, (z_w ((M 39 6) - (M x1 6))))]) rfl ?_
      exact wp_ret rfl rfl (l1 c1 c2)
    · refine wp_run 2 (pc' := 80) (ls' := [(2, 38), (2, x1), (0, x2)]) (st' := [(0, (-1))]) rfl ?_
      exact wp_ret rfl rfl (l2 c1 c2)
  · refine wp_run 1 (pc' := 17) (ls' := [(2, 38), (2, x1), (0, x2)]) (st' := [(2, 38)]) rfl ?_
    refine wp_gf (pc' := 20) (t := 2) (v := 39) rfl rfl (by decide) rfl rfl (fx_38_1 hF) ?_
    refine wp_callv (pc' := 23) (as := [(2, 39)]) (rest := []) (ls1 := [(2, 39), (3, 0), (3, 0)]) rfl rfl rfl rfl rfl rfl ?_
    refine s_X2_allGrass hh2 ?_
    show wp xs _ mX0_daysToBare 23 [(2, 38), (2, x1), (0, x2)] [(0, (z_agr M 39))] z_LL M _
    refine wp_if1 rfl rfl rfl (fun (c3 : (z_agr M 39) ≤ 0) => ?_) (fun (c3 : ¬ ((z_agr M 39) ≤ 0)) => ?_)
    · refine wp_run 1 (pc' := 55) (ls' := [(2, 38), (2, x1), (0, x2)]) (st' := [(2, 38)]) rfl ?_
      refine wp_gf (pc' := 58) (t := 2) (v := 39) rfl rfl (by decide) rfl rfl (fx_38_1 hF) ?_
      refine wp_callv (pc' := 61) (as := [(2, 39)]) (rest := []) (ls1 := [(2, 39), (3, 0), (3, 0)]) rfl rfl rfl rfl rfl rfl ?_
      refine s_X2_allGrass hh2 ?_
      show wp xs _ mX0_daysToBare 61 [(2, 38), (2, x1), (0, x2)] [(0, (z_agr M 39))] z_LL M _
      refine wp_if1 rfl rfl rfl (fun (c4 : (z_agr M 39) ≤ 0) => ?_) (fun (c4 : ¬ ((z_agr M 39) ≤ 0)) => ?_)
      · refine wp_run 1 (pc' := 69) (ls' := [(2, 38), (2, x1), (0, x2)]) (st' := [(2, 38)]) rfl ?_
        refine wp_gf (pc' := 72) (t := 2) (v := 39) rfl rfl (by decide) rfl rfl (fx_38_1 hF) ?_
        refine wp_gf (pc' := 75) (t := 0) (v := (M 39 6)) rfl rfl (by decide) rfl rfl rfl ?_
        refine wp_run 1 (pc' := 76) (ls' := [(2, 38), (2, x1), (0, x2)]) (st' := [(2, x1), (0, (M 39 6))]) rfl ?_
        refine wp_gf (pc' := 79) (t := 0) (v := (M x1 6)) rfl rfl (by decide) rfl (z_hl0 hx1) rfl ?_
        refine wp_run 1 (pc' := 80) (ls' := [(2, 38), (2, x1), (0, x2)]) (st' := [(0, (z_w ((M 39 6) - (M x1 6))))]) rfl ?_
        exact wp_ret rfl rfl (l3 c1 c3 c4)
      · refine wp_run 2 (pc' := 80) (ls' := [(2, 38), (2, x1), (0, x2)]) (st' := [(0, (-1))]) rfl ?_
        exact wp_ret rfl rfl (l4 c1 c3 c4)
    · refine wp_run 1 (pc' := 27) (ls' := [(2, 38), (2, x1), (0, x2)]) (st' := [(2, 38)]) rfl ?_
      refine wp_gf (pc' := 30) (t := 2) (v := 34) rfl rfl (by decide) rfl rfl (fx_38_0 hF) ?_
      refine wp_run 1 (pc' := 31) (ls' := [(2, 38), (2, x1), (0, x2)]) (st' := [(2, 38), (2, 34)]) rfl ?_
      refine wp_gf (pc' := 34) (t := 2) (v := 39) rfl rfl (by decide) rfl rfl (fx_38_1 hF) ?_
      refine wp_run 1 (pc' := 35) (ls' := [(2, 38), (2, x1), (0, x2)]) (st' := [(2, 38), (2, 39), (2, 34)]) rfl ?_
      refine wp_gf (pc' := 38) (t := 2) (v := 34) rfl rfl (by decide) rfl rfl (fx_38_0 hF) ?_
      refine wp_gf (pc' := 41) (t := 2) (v := (M 34 3)) rfl rfl (by decide) rfl rfl rfl ?_
      refine wp_gf (pc' := 44) (t := 0) (v := (M (M 34 3) 18)) rfl rfl (by decide) rfl (z_gl0 hg3) rfl ?_
      refine wp_callv (pc' := 47) (as := [(2, 34), (2, 39), (0, (M (M 34 3) 18))]) (rest := []) (ls1 := [(2, 34), (2, 39), (0, (M (M 34 3) 18)), (3, 0)]) rfl rfl rfl rfl rfl rfl ?_
      exact l5 c1 c3
set_option maxRecDepth 20000 in
theorem gX0_daysToBare_47 {xs : List Int} {d : Nat} {M : z_M} {P : Option z_V → z_L → z_M → Prop} {x1 : Int} {x2 : Int} {s0 : Int} (hx1 : z_her M x1)
    (l1 : wp xs d mX0_daysToBare 10 [(2, 38), (2, x1), (0, (z_w (x2 + 1)))] [] z_LL M P) :
    wp xs d mX0_daysToBare 47 [(2, 38), (2, x1), (0, x2)] [(0, s0)] z_LL M P := by
  refine wp_run 3 (pc' := 10) (ls' := [(2, 38), (2, x1), (0, (z_w (x2 + 1)))]) (st' := []) rfl ?_
  exact l1
set_option maxRecDepth 20000 in
theorem gX0_singleAtLast_0 {xs : List Int} {d : Nat} {M : z_M} {P : Option z_V → z_L → z_M → Prop} {a1 : Int} {a2 : Int} (hF : z_fix M) (ha1 : z_her M a1) (hn1 : a1 ≠ 39)
    (l1 : wp xs (d + 1) mX0_singleAtLast 10 [(2, 38), (2, a1), (0, a2), (0, 0)] [] z_LL (z_up (z_up (z_up (z_cpy (z_cpy (z_cpy (z_cpy (z_cpy M (a1 + 1) 0 40 0 6) (a1 + 2) 0 41 0 6) (a1 + 3) 0 42 0 25) (a1 + 4) 0 43 0 25) (a1 + 5) 0 44 0 36) 39 5 (M a1 5)) 39 6 (M a1 6)) 39 7 (M a1 7)) P) :
    wp xs (d + 1) mX0_singleAtLast 0 [(2, 38), (2, a1), (0, a2), (3, 0)] [] z_LL M P := by
  refine wp_run 1 (pc' := 1) (ls' := [(2, 38), (2, a1), (0, a2), (3, 0)]) (st' := [(2, 38)]) rfl ?_
  refine wp_gf (pc' := 4) (t := 2) (v := 39) rfl rfl (by decide) rfl rfl (fx_38_1 hF) ?_
  refine wp_run 1 (pc' := 5) (ls' := [(2, 38), (2, a1), (0, a2), (3, 0)]) (st' := [(2, a1), (2, 39)]) rfl ?_
  refine wp_callv (pc' := 8) (as := [(2, 39), (2, a1)]) (rest := []) (ls1 := [(2, 39), (2, a1)]) rfl rfl rfl rfl rfl rfl ?_
  refine wp_run 1 (pc' := 1) (ls' := [(2, 39), (2, a1)]) (st' := [(2, a1)]) rfl ?_
  refine wp_gf (pc' := 4) (t := 2) (v := (a1 + 1)) rfl rfl (by decide) rfl (z_hl0 ha1) (z_hf0 ha1) ?_
  refine wp_run 2 (pc' := 6) (ls' := [(2, 39), (2, a1)]) (st' := [(2, 39), (0, 0), (2, (a1 + 1))]) rfl ?_
  refine wp_gf (pc' := 9) (t := 2) (v := 40) rfl rfl (by decide) rfl rfl (fx_39_0 hF) ?_
  refine wp_run 2 (pc' := 12) (ls' := [(2, 39), (2, a1)]) (st' := [(0, 6), (0, 0), (2, 40), (0, 0), (2, (a1 + 1))]) rfl ?_
  refine wp_acp (pc' := 15) rfl rfl (z_hl1 ha1) rfl (by decide) ?_
  refine wp_run 1 (pc' := 16) (ls' := [(2, 39), (2, a1)]) (st' := [(2, a1)]) rfl ?_
  refine wp_gf (pc' := 19) (t := 2) (v := (a1 + 2)) rfl rfl (by decide) rfl (z_hl0 ha1) (z_cpq (by have := z_hr ha1; omega) (z_hf1 ha1)) ?_
  refine wp_run 2 (pc' := 21) (ls' := [(2, 39), (2, a1)]) (st' := [(2, 39), (0, 0), (2, (a1 + 2))]) rfl ?_
  refine wp_gf (pc' := 24) (t := 2) (v := 41) rfl rfl (by decide) rfl rfl (z_cpq (by decide) (fx_39_1 hF)) ?_
  refine wp_run 2 (pc' := 27) (ls' := [(2, 39), (2, a1)]) (st' := [(0, 6), (0, 0), (2, 41), (0, 0), (2, (a1 + 2))]) rfl ?_
  refine wp_acp (pc' := 30) rfl rfl (z_hl2 ha1) rfl (by decide) ?_
  refine wp_run 1 (pc' := 31) (ls' := [(2, 39), (2, a1)]) (st' := [(2, a1)]) rfl ?_
  refine wp_gf (pc' := 34) (t := 2) (v := (a1 + 3)) rfl rfl (by decide) rfl (z_hl0 ha1) (z_cpq (by have := z_hr ha1; omega) (z_cpq (by have := z_hr ha1; omega) (z_hf2 ha1))) ?_
  refine wp_run 2 (pc' := 36) (ls' := [(2, 39), (2, a1)]) (st' := [(2, 39), (0, 0), (2, (a1 + 3))]) rfl ?_
  refine wp_gf (pc' := 39) (t := 2) (v := 42) rfl rfl (by decide) rfl rfl (z_cpq (by decide) (z_cpq (by decide) (fx_39_2 hF))) ?_
  refine wp_run 2 (pc' := 42) (ls' := [(2, 39), (2, a1)]) (st' := [(0, 25), (0, 0), (2, 42), (0, 0), (2, (a1 + 3))]) rfl ?_
  refine wp_acp (pc' := 45) rfl rfl (z_hl3 ha1) rfl (by decide) ?_
  refine wp_run 1 (pc' := 46) (ls' := [(2, 39), (2, a1)]) (st' := [(2, a1)]) rfl ?_
  refine wp_gf (pc' := 49) (t := 2) (v := (a1 + 4)) rfl rfl (by decide) rfl (z_hl0 ha1) (z_cpq (by have := z_hr ha1; omega) (z_cpq (by have := z_hr ha1; omega) (z_cpq (by have := z_hr ha1; omega) (z_hf3 ha1)))) ?_
  refine wp_run 2 (pc' := 51) (ls' := [(2, 39), (2, a1)]) (st' := [(2, 39), (0, 0), (2, (a1 + 4))]) rfl ?_
  refine wp_gf (pc' := 54) (t := 2) (v := 43) rfl rfl (by decide) rfl rfl (z_cpq (by decide) (z_cpq (by decide) (z_cpq (by decide) (fx_39_3 hF)))) ?_
  refine wp_run 2 (pc' := 57) (ls' := [(2, 39), (2, a1)]) (st' := [(0, 25), (0, 0), (2, 43), (0, 0), (2, (a1 + 4))]) rfl ?_
  refine wp_acp (pc' := 60) rfl rfl (z_hl4 ha1) rfl (by decide) ?_
  refine wp_run 1 (pc' := 61) (ls' := [(2, 39), (2, a1)]) (st' := [(2, a1)]) rfl ?_
  refine wp_gf (pc' := 64) (t := 2) (v := (a1 + 5)) rfl rfl (by decide) rfl (z_hl0 ha1) (z_cpq (by have := z_hr ha1; omega) (z_cpq (by have := z_hr ha1; omega) (z_cpq (by have := z_hr ha1; omega) (z_cpq (by have := z_hr ha1; omega) (z_hf4 ha1))))) ?_
  refine wp_run 2 (pc' := 66) (ls' := [(2, 39), (2, a1)]) (st' := [(2, 39), (0, 0), (2, (a1 + 5))]) rfl ?_
  refine wp_gf (pc' := 69) (t := 2) (v := 44) rfl rfl (by decide) rfl rfl (z_cpq (by decide) (z_cpq (by decide) (z_cpq (by decide) (z_cpq (by decide) (fx_39_4 hF))))) ?_
  refine wp_run 2 (pc' := 71) (ls' := [(2, 39), (2, a1)]) (st' := [(2, 39), (0, 0), (2, 44), (0, 0), (2, (a1 + 5))]) rfl ?_
  refine wp_gf (pc' := 74) (t := 2) (v := 44) rfl rfl (by decide) rfl rfl (z_cpq (by decide) (z_cpq (by decide) (z_cpq (by decide) (z_cpq (by decide) (fx_39_4 hF))))) ?_
  refine wp_len (pc' := 75) rfl rfl rfl (by decide) ?_
  refine wp_acp (pc' := 78) rfl rfl (z_hl5 ha1) rfl (by decide) ?_
  refine wp_run 2 (pc' := 80) (ls' := [(2, 39), (2, a1)]) (st' := [(2, a1), (2, 39)]) rfl ?_
  refine wp_gf (pc' := 83) (t := 0) (v := (M a1 5)) rfl rfl (by decide) rfl (z_hl0 ha1) (z_cpq (by have := z_hr ha1; omega) (z_cpq (by have := z_hr ha1; omega) (z_cpq (by have := z_hr ha1; omega) (z_cpq (by have := z_hr ha1; omega) (z_cpq (by have := z_hr ha1; omega) rfl))))) ?_
  refine wp_pf (pc' := 86) rfl rfl rfl rfl (fun z => absurd z (by decide)) (fun z => absurd z (by decide)) ?_
  refine wp_run 2 (pc' := 88) (ls' := [(2, 39), (2, a1)]) (st' := [(2, a1), (2, 39)]) rfl ?_
  refine wp_gf (pc' := 91) (t := 0) (v := (M a1 6)) rfl rfl (by decide) rfl (z_hl0 ha1) (z_upq (by have := z_hr ha1; omega) (z_cpq (by have := z_hr ha1; omega) (z_cpq (by have := z_hr ha1; omega) (z_cpq (by have := z_hr ha1; omega) (z_cpq (by have := z_hr ha1; omega) (z_cpq (by have := z_hr ha1; omega) rfl)))))) ?_
  refine wp_pf (pc' := 94) rfl rfl rfl rfl (fun z => absurd z (by decide)) (fun z => absurd z (by decide)) ?_
  refine wp_run 2 (pc' := 96) (ls' := [(2, 39), (2, a1)]) (st' := [(2, a1), (2, 39)]) rfl ?_
  refine wp_gf (pc' := 99) (t := 0) (v := (M a1 7)) rfl rfl (by decide) rfl (z_hl0 ha1) (z_upq (by have := z_hr ha1; omega) (z_upq (by have := z_hr ha1; omega) (z_cpq (by have := z_hr ha1; omega) (z_cpq (by have := z_hr ha1; omega) (z_cpq (by have := z_hr ha1; omega) (z_cpq (by have := z_hr ha1; omega) (z_cpq (by have := z_hr ha1; omega) rfl))))))) ?_
  refine wp_pf (pc' := 102) rfl rfl rfl rfl (fun z => absurd z (by decide)) (fun z => absurd z (by decide)) ?_
  refine wp_ret rfl rfl ?_
  show wp xs _ mX0_singleAtLast 8 [(2, 38), (2, a1), (0, a2), (3, 0)] [] z_LL (z_up (z_up (z_up (z_cpy (z_cpy (z_cpy (z_cpy (z_cpy M (a1 + 1) 0 40 0 6) (a1 + 2) 0 41 0 6) (a1 + 3) 0 42 0 25) (a1 + 4) 0 43 0 25) (a1 + 5) 0 44 0 36) 39 5 (M a1 5)) 39 6 (M a1 6)) 39 7 (M a1 7)) _
  refine wp_run 2 (pc' := 10) (ls' := [(2, 38), (2, a1), (0, a2), (0, 0)]) (st' := []) rfl ?_
  exact l1
set_option maxRecDepth 20000 in
theorem gX0_singleAtLast_10 {xs : List Int} {d : Nat} {M : z_M} {P : Option z_V → z_L → z_M → Prop} {x1 : Int} {x2 : Int} {x3 : Int} (hF : z_fix M) (hx1 : z_her M x1) (hg2 : z_gor M (M 34 3)) (hh3 : z_her M 39)
    (b1 : (60 ≤ x3) → (M (M 34 3) 12) ≤ 6)
    (l1 : (60 ≤ x3) → P (some (0, (z_bc (z_sgl M 39 (M (M 34 3) 12))))) z_LL M)
    (l2 : (¬ (60 ≤ x3)) → wp xs d mX8_pass 0 [(2, 34), (2, 39), (0, x2), (3, 0)] [] z_LL M (fun r L1 M1 => wp xs (d + 1) mX0_singleAtLast 28 [(2, 38), (2, x1), (0, x2), (0, x3)] (z_ol r ++ []) L1 M1 P)) :
    wp xs (d + 1) mX0_singleAtLast 10 [(2, 38), (2, x1), (0, x2), (0, x3)] [] z_LL M P := by
  refine wp_run 2 (pc' := 13) (ls' := [(2, 38), (2, x1), (0, x2), (0, x3)]) (st' := [(0, 60), (0, x3)]) rfl ?_
  refine wp_if2 rfl rfl rfl (fun (c1 : 60 ≤ x3) => ?_) (fun (c1 : ¬ (60 ≤ x3)) => ?_)
  · refine wp_run 1 (pc' := 36) (ls' := [(2, 38), (2, x1), (0, x2), (0, x3)]) (st' := [(2, 38)]) rfl ?_
    refine wp_gf (pc' := 39) (t := 2) (v := 39) rfl rfl (by decide) rfl rfl (fx_38_1 hF) ?_
    refine wp_run 1 (pc' := 40) (ls' := [(2, 38), (2, x1), (0, x2), (0, x3)]) (st' := [(2, 38), (2, 39)]) rfl ?_
    refine wp_gf (pc' := 43) (t := 2) (v := 34) rfl rfl (by decide) rfl rfl (fx_38_0 hF) ?_
    refine wp_gf (pc' := 46) (t := 2) (v := (M 34 3)) rfl rfl (by decide) rfl rfl rfl ?_
    refine wp_gf (pc' := 49) (t := 0) (v := (M (M 34 3) 12)) rfl rfl (by decide) rfl (z_gl0 hg2) rfl ?_
    refine wp_callv (pc' := 52) (as := [(2, 39), (0, (M (M 34 3) 12))]) (rest := []) (ls1 := [(2, 39), (0, (M (M 34 3) 12)), (3, 0), (3, 0)]) rfl rfl rfl rfl rfl rfl ?_
    refine s_X2_single hh3 (b1 c1) ?_
    show wp xs _ mX0_singleAtLast 52 [(2, 38), (2, x1), (0, x2), (0, x3)] [(0, (z_sgl M 39 (M (M 34 3) 12)))] z_LL M _
    refine wp_callv (pc' := 55) (as := [(0, (z_sgl M 39 (M (M 34 3) 12)))]) (rest := []) (ls1 := [(0, (z_sgl M 39 (M (M 34 3) 12)))]) rfl rfl rfl rfl rfl rfl ?_
    refine s_J6_bitCount_0f7a4  ?_
    show wp xs _ mX0_singleAtLast 55 [(2, 38), (2, x1), (0, x2), (0, x3)] [(0, (z_bc (z_sgl M 39 (M (M 34 3) 12))))] z_LL M _
    exact wp_ret rfl rfl (l1 c1)
  · refine wp_run 1 (pc' := 17) (ls' := [(2, 38), (2, x1), (0, x2), (0, x3)]) (st' := [(2, 38)]) rfl ?_
    refine wp_gf (pc' := 20) (t := 2) (v := 34) rfl rfl (by decide) rfl rfl (fx_38_0 hF) ?_
    refine wp_run 1 (pc' := 21) (ls' := [(2, 38), (2, x1), (0, x2), (0, x3)]) (st' := [(2, 38), (2, 34)]) rfl ?_
    refine wp_gf (pc' := 24) (t := 2) (v := 39) rfl rfl (by decide) rfl rfl (fx_38_1 hF) ?_
    refine wp_run 1 (pc' := 25) (ls' := [(2, 38), (2, x1), (0, x2), (0, x3)]) (st' := [(0, x2), (2, 39), (2, 34)]) rfl ?_
    refine wp_callv (pc' := 28) (as := [(2, 34), (2, 39), (0, x2)]) (rest := []) (ls1 := [(2, 34), (2, 39), (0, x2), (3, 0)]) rfl rfl rfl rfl rfl rfl ?_
    exact l2 c1
set_option maxRecDepth 20000 in
theorem gX0_singleAtLast_28 {xs : List Int} {d : Nat} {M : z_M} {P : Option z_V → z_L → z_M → Prop} {x1 : Int} {x2 : Int} {x3 : Int} {s0 : Int} (hx1 : z_her M x1)
    (l1 : wp xs d mX0_singleAtLast 10 [(2, 38), (2, x1), (0, x2), (0, (z_w (x3 + 1)))] [] z_LL M P) :
    wp xs d mX0_singleAtLast 28 [(2, 38), (2, x1), (0, x2), (0, x3)] [(0, s0)] z_LL M P := by
  refine wp_run 3 (pc' := 10) (ls' := [(2, 38), (2, x1), (0, x2), (0, (z_w (x3 + 1)))]) (st' := []) rfl ?_
  exact l1
set_option maxRecDepth 20000 in
theorem gX9_weds_0 {xs : List Int} {d : Nat} {M : z_M} {P : Option z_V → z_L → z_M → Prop} {a1 : Int} (hF : z_fix M) (hg1 : z_gor M (M 1 0)) (hh2 : z_her M (M 1 2))
    (l1 : (a1 < 0) → P (some (0, (-1))) z_LL M)
    (l2 : (¬ (a1 < 0)) → ((M (M 1 0) 12) ≤ a1) → P (some (0, (-1))) z_LL M)
    (l3 : (¬ (a1 < 0)) → (¬ ((M (M 1 0) 12) ≤ a1)) → wp xs d mX0_daysToMatch 0 [(2, 38), (2, (M 1 2)), (0, a1), (3, 0)] [] z_LL M (fun r L1 M1 => wp xs (d + 1) mX9_weds 23 [(2, 1), (0, a1)] (z_ol r ++ []) L1 M1 P)) :
    wp xs (d + 1) mX9_weds 0 [(2, 1), (0, a1)] [] z_LL M P := by
  refine wp_run 1 (pc' := 1) (ls' := [(2, 1), (0, a1)]) (st' := [(2, 1)]) rfl ?_
  refine wp_gf (pc' := 4) (t := 2) (v := (M 1 0)) rfl rfl (by decide) rfl rfl rfl ?_
  refine wp_run 1 (pc' := 5) (ls' := [(2, 1), (0, a1)]) (st' := [(0, a1), (2, (M 1 0))]) rfl ?_
  refine wp_callv (pc' := 8) (as := [(2, (M 1 0)), (0, a1)]) (rest := []) (ls1 := [(2, (M 1 0)), (0, a1)]) rfl rfl rfl rfl (z_args_v rfl rfl rfl rfl (Nat.le_of_ble_eq_true rfl) rfl (by decide) (z_gl0 hg1)) rfl ?_
  refine wp_run 1 (pc' := 1) (ls' := [(2, (M 1 0)), (0, a1)]) (st' := [(0, a1)]) rfl ?_
  refine wp_if1 rfl rfl rfl (fun (c1 : a1 < 0) => ?_) (fun (c1 : ¬ (a1 < 0)) => ?_)
  · refine wp_run 1 (pc' := 17) (ls' := [(2, (M 1 0)), (0, a1)]) (st' := [(0, 0)]) rfl ?_
    refine wp_ret rfl rfl ?_
    show wp xs _ mX9_weds 8 [(2, 1), (0, a1)] [(0, 0)] z_LL M _
    refine wp_run 2 (pc' := 27) (ls' := [(2, 1), (0, a1)]) (st' := [(0, (-1))]) rfl ?_
    exact wp_ret rfl rfl (l1 c1)
  · refine wp_run 2 (pc' := 6) (ls' := [(2, (M 1 0)), (0, a1)]) (st' := [(2, (M 1 0)), (0, a1)]) rfl ?_
    refine wp_gf (pc' := 9) (t := 0) (v := (M (M 1 0) 12)) rfl rfl (by decide) rfl (z_gl0 hg1) rfl ?_
    refine wp_if2 rfl rfl rfl (fun (c2 : (M (M 1 0) 12) ≤ a1) => ?_) (fun (c2 : ¬ ((M (M 1 0) 12) ≤ a1)) => ?_)
    · refine wp_run 1 (pc' := 17) (ls' := [(2, (M 1 0)), (0, a1)]) (st' := [(0, 0)]) rfl ?_
      refine wp_ret rfl rfl ?_
      show wp xs _ mX9_weds 8 [(2, 1), (0, a1)] [(0, 0)] z_LL M _
      refine wp_run 2 (pc' := 27) (ls' := [(2, 1), (0, a1)]) (st' := [(0, (-1))]) rfl ?_
      exact wp_ret rfl rfl (l2 c1 c2)
    · refine wp_run 2 (pc' := 17) (ls' := [(2, (M 1 0)), (0, a1)]) (st' := [(0, 1)]) rfl ?_
      refine wp_ret rfl rfl ?_
      show wp xs _ mX9_weds 8 [(2, 1), (0, a1)] [(0, 1)] z_LL M _
      refine wp_run 2 (pc' := 12) (ls' := [(2, 1), (0, a1)]) (st' := [(2, 1)]) rfl ?_
      refine wp_gf (pc' := 15) (t := 2) (v := 38) rfl rfl (by decide) rfl rfl (fx_1_6 hF) ?_
      refine wp_run 1 (pc' := 16) (ls' := [(2, 1), (0, a1)]) (st' := [(2, 1), (2, 38)]) rfl ?_
      refine wp_gf (pc' := 19) (t := 2) (v := (M 1 2)) rfl rfl (by decide) rfl rfl rfl ?_
      refine wp_run 1 (pc' := 20) (ls' := [(2, 1), (0, a1)]) (st' := [(0, a1), (2, (M 1 2)), (2, 38)]) rfl ?_
      refine wp_callv (pc' := 23) (as := [(2, 38), (2, (M 1 2)), (0, a1)]) (rest := []) (ls1 := [(2, 38), (2, (M 1 2)), (0, a1), (3, 0)]) rfl rfl rfl rfl rfl rfl ?_
      exact l3 c1 c2
set_option maxRecDepth 20000 in
theorem gX9_weds_23 {xs : List Int} {d : Nat} {M : z_M} {P : Option z_V → z_L → z_M → Prop} {x1 : Int} {s0 : Int} 
    (l1 : P (some (0, s0)) z_LL M) :
    wp xs d mX9_weds 23 [(2, 1), (0, x1)] [(0, s0)] z_LL M P := by
  refine wp_run 1 (pc' := 27) (ls' := [(2, 1), (0, x1)]) (st' := [(0, s0)]) rfl ?_
  exact wp_ret rfl rfl (l1)
set_option maxRecDepth 20000 in
theorem gX10_weds_0 {xs : List Int} {d : Nat} {M : z_M} {P : Option z_V → z_L → z_M → Prop} {a1 : Int} (hF : z_fix M) (hC : z_mc M) 
    (l1 : ((0 ≤ a1 ∧ a1 < M 321 48)) → wp xs (d + 1) mX10_load 0 [(2, 321), (3, 0)] [] z_LL M (fun r L1 M1 => wp xs (d + 2) mX10_weds 14 [(2, 321), (0, a1), (3, 0)] (z_ol r ++ []) L1 M1 P))
    (l2 : (¬ (0 ≤ a1 ∧ a1 < M 321 48)) → P (some (0, (-1))) z_LL M) :
    wp xs (d + 2) mX10_weds 0 [(2, 321), (0, a1), (3, 0)] [] z_LL M P := by
  refine wp_run 2 (pc' := 2) (ls' := [(2, 321), (0, a1), (3, 0)]) (st' := [(0, a1), (2, 321)]) rfl ?_
  refine wp_callv (pc' := 5) (as := [(2, 321), (0, a1)]) (rest := []) (ls1 := [(2, 321), (0, a1)]) rfl rfl rfl rfl rfl rfl ?_
  refine s_X10_isFlock hF hC ?_
  show wp xs _ mX10_weds 5 [(2, 321), (0, a1), (3, 0)] [(0, (z_b (0 ≤ a1 ∧ a1 < M 321 48)))] z_LL M _
  refine wp_bn rfl rfl rfl (fun (c1 : (0 ≤ a1 ∧ a1 < M 321 48)) => ?_) (fun (c1 : ¬ (0 ≤ a1 ∧ a1 < M 321 48)) => ?_)
  · refine wp_run 1 (pc' := 11) (ls' := [(2, 321), (0, a1), (3, 0)]) (st' := [(2, 321)]) rfl ?_
    refine wp_callv (pc' := 14) (as := [(2, 321)]) (rest := []) (ls1 := [(2, 321), (3, 0)]) rfl rfl rfl rfl rfl rfl ?_
    exact l1 c1
  · refine wp_run 1 (pc' := 9) (ls' := [(2, 321), (0, a1), (3, 0)]) (st' := [(0, (-1))]) rfl ?_
    exact wp_ret rfl rfl (l2 c1)
set_option maxRecDepth 20000 in
theorem gX10_weds_14 {xs : List Int} {d : Nat} {M : z_M} {P : Option z_V → z_L → z_M → Prop} {x1 : Int} 
    (l1 : wp xs d mX10_weds 16 [(2, 321), (0, x1), (0, 0)] [] z_LL M P) :
    wp xs d mX10_weds 14 [(2, 321), (0, x1), (3, 0)] [] z_LL M P := by
  refine wp_run 2 (pc' := 16) (ls' := [(2, 321), (0, x1), (0, 0)]) (st' := []) rfl ?_
  exact l1
set_option maxRecDepth 20000 in
theorem gX10_weds_16 {xs : List Int} {d : Nat} {M : z_M} {P : Option z_V → z_L → z_M → Prop} {x1 : Int} {x2 : Int} (hF : z_fix M) 
    (l1 : (60 < x2) → P (some (0, (-1))) z_LL M)
    (b1 : (¬ (60 < x2)) → 0 ≤ (z_w (12 + x1)) ∧ (z_w (12 + x1)) < 106)
    (l2 : (¬ (60 < x2)) → ((M 343 (z_w (12 + x1))) < 0) → wp xs d mX10_goDay 0 [(2, 321), (0, (M 321 52)), (3, 0), (3, 0)] [] z_LL M (fun r L1 M1 => wp xs (d + 1) mX10_weds 44 [(2, 321), (0, x1), (0, x2)] (z_ol r ++ []) L1 M1 P))
    (l3 : (¬ (60 < x2)) → (¬ ((M 343 (z_w (12 + x1))) < 0)) → P (some (0, x2)) z_LL M) :
    wp xs (d + 1) mX10_weds 16 [(2, 321), (0, x1), (0, x2)] [] z_LL M P := by
  refine wp_run 2 (pc' := 19) (ls' := [(2, 321), (0, x1), (0, x2)]) (st' := [(0, 60), (0, x2)]) rfl ?_
  refine wp_if2 rfl rfl rfl (fun (c1 : 60 < x2) => ?_) (fun (c1 : ¬ (60 < x2)) => ?_)
  · refine wp_run 1 (pc' := 52) (ls' := [(2, 321), (0, x1), (0, x2)]) (st' := [(0, (-1))]) rfl ?_
    exact wp_ret rfl rfl (l1 c1)
  · refine wp_run 1 (pc' := 23) (ls' := [(2, 321), (0, x1), (0, x2)]) (st' := [(2, 321)]) rfl ?_
    refine wp_gf (pc' := 26) (t := 2) (v := 343) rfl rfl (by decide) rfl rfl (fx_321_61 hF) ?_
    refine wp_run 3 (pc' := 30) (ls' := [(2, 321), (0, x1), (0, x2)]) (st' := [(0, (z_w (12 + x1))), (2, 343)]) rfl ?_
    refine wp_iald (pc' := 31) (v := (M 343 (z_w (12 + x1)))) rfl rfl rfl (b1 c1) rfl ?_
    refine wp_if1 rfl rfl rfl (fun (c2 : (M 343 (z_w (12 + x1))) < 0) => ?_) (fun (c2 : ¬ ((M 343 (z_w (12 + x1))) < 0)) => ?_)
    · refine wp_run 2 (pc' := 38) (ls' := [(2, 321), (0, x1), (0, x2)]) (st' := [(2, 321), (2, 321)]) rfl ?_
      refine wp_gf (pc' := 41) (t := 0) (v := (M 321 52)) rfl rfl (by decide) rfl rfl rfl ?_
      refine wp_callv (pc' := 44) (as := [(2, 321), (0, (M 321 52))]) (rest := []) (ls1 := [(2, 321), (0, (M 321 52)), (3, 0), (3, 0)]) rfl rfl rfl rfl rfl rfl ?_
      exact l2 c1 c2
    · refine wp_run 1 (pc' := 35) (ls' := [(2, 321), (0, x1), (0, x2)]) (st' := [(0, x2)]) rfl ?_
      exact wp_ret rfl rfl (l3 c1 c2)
set_option maxRecDepth 20000 in
theorem gX10_weds_44 {xs : List Int} {d : Nat} {M : z_M} {P : Option z_V → z_L → z_M → Prop} {x1 : Int} {x2 : Int} {s0 : Int} 
    (l1 : wp xs d mX10_weds 16 [(2, 321), (0, x1), (0, (z_w (x2 + 1)))] [] z_LL M P) :
    wp xs d mX10_weds 44 [(2, 321), (0, x1), (0, x2)] [(0, s0)] z_LL M P := by
  refine wp_run 3 (pc' := 16) (ls' := [(2, 321), (0, x1), (0, (z_w (x2 + 1)))]) (st' := []) rfl ?_
  exact l1
set_option maxRecDepth 20000 in
theorem gX9_bare_0 {xs : List Int} {d : Nat} {M : z_M} {P : Option z_V → z_L → z_M → Prop} (hF : z_fix M) (hh1 : z_her M (M 1 2))
    (l1 : wp xs d mX0_daysToBare 0 [(2, 38), (2, (M 1 2)), (3, 0)] [] z_LL M (fun r L1 M1 => wp xs (d + 1) mX9_bare 11 [(2, 1)] (z_ol r ++ []) L1 M1 P)) :
    wp xs (d + 1) mX9_bare 0 [(2, 1)] [] z_LL M P := by
  refine wp_run 1 (pc' := 1) (ls' := [(2, 1)]) (st' := [(2, 1)]) rfl ?_
  refine wp_gf (pc' := 4) (t := 2) (v := 38) rfl rfl (by decide) rfl rfl (fx_1_6 hF) ?_
  refine wp_run 1 (pc' := 5) (ls' := [(2, 1)]) (st' := [(2, 1), (2, 38)]) rfl ?_
  refine wp_gf (pc' := 8) (t := 2) (v := (M 1 2)) rfl rfl (by decide) rfl rfl rfl ?_
  refine wp_callv (pc' := 11) (as := [(2, 38), (2, (M 1 2))]) (rest := []) (ls1 := [(2, 38), (2, (M 1 2)), (3, 0)]) rfl rfl rfl rfl rfl rfl ?_
  exact l1
set_option maxRecDepth 20000 in
theorem gX9_bare_11 {xs : List Int} {d : Nat} {M : z_M} {P : Option z_V → z_L → z_M → Prop} {s0 : Int} 
    (l1 : P (some (0, s0)) z_LL M) :
    wp xs d mX9_bare 11 [(2, 1)] [(0, s0)] z_LL M P := by
  exact wp_ret rfl rfl (l1)
set_option maxRecDepth 20000 in
theorem gX10_bare_0 {xs : List Int} {d : Nat} {M : z_M} {P : Option z_V → z_L → z_M → Prop} 
    (l1 : wp xs d mX10_load 0 [(2, 321), (3, 0)] [] z_LL M (fun r L1 M1 => wp xs (d + 1) mX10_bare 4 [(2, 321), (3, 0)] (z_ol r ++ []) L1 M1 P)) :
    wp xs (d + 1) mX10_bare 0 [(2, 321), (3, 0)] [] z_LL M P := by
  refine wp_run 1 (pc' := 1) (ls' := [(2, 321), (3, 0)]) (st' := [(2, 321)]) rfl ?_
  refine wp_callv (pc' := 4) (as := [(2, 321)]) (rest := []) (ls1 := [(2, 321), (3, 0)]) rfl rfl rfl rfl rfl rfl ?_
  exact l1
set_option maxRecDepth 20000 in
theorem gX10_bare_4 {xs : List Int} {d : Nat} {M : z_M} {P : Option z_V → z_L → z_M → Prop} 
    (l1 : wp xs d mX10_bare 6 [(2, 321), (0, 0)] [] z_LL M P) :
    wp xs d mX10_bare 4 [(2, 321), (3, 0)] [] z_LL M P := by
  refine wp_run 2 (pc' := 6) (ls' := [(2, 321), (0, 0)]) (st' := []) rfl ?_
  exact l1
set_option maxRecDepth 20000 in
theorem gX10_bare_6 {xs : List Int} {d : Nat} {M : z_M} {P : Option z_V → z_L → z_M → Prop} {x1 : Int} (hF : z_fix M) (hC : z_mc M) 
    (l1 : (60 < x1) → P (some (0, (-1))) z_LL M)
    (l2 : (¬ (60 < x1)) → ((z_agm M) ≠ 0) → wp xs (d + 1) mX10_goDay 0 [(2, 321), (0, (M 321 52)), (3, 0), (3, 0)] [] z_LL M (fun r L1 M1 => wp xs (d + 2) mX10_bare 29 [(2, 321), (0, x1)] (z_ol r ++ []) L1 M1 P))
    (l3 : (¬ (60 < x1)) → (¬ ((z_agm M) ≠ 0)) → P (some (0, x1)) z_LL M) :
    wp xs (d + 2) mX10_bare 6 [(2, 321), (0, x1)] [] z_LL M P := by
  refine wp_run 2 (pc' := 9) (ls' := [(2, 321), (0, x1)]) (st' := [(0, 60), (0, x1)]) rfl ?_
  refine wp_if2 rfl rfl rfl (fun (c1 : 60 < x1) => ?_) (fun (c1 : ¬ (60 < x1)) => ?_)
  · refine wp_run 1 (pc' := 37) (ls' := [(2, 321), (0, x1)]) (st' := [(0, (-1))]) rfl ?_
    exact wp_ret rfl rfl (l1 c1)
  · refine wp_run 1 (pc' := 13) (ls' := [(2, 321), (0, x1)]) (st' := [(2, 321)]) rfl ?_
    refine wp_callv (pc' := 16) (as := [(2, 321)]) (rest := []) (ls1 := [(2, 321), (3, 0), (3, 0)]) rfl rfl rfl rfl rfl rfl ?_
    refine s_X10_allGrass hF hC ?_
    show wp xs _ mX10_bare 16 [(2, 321), (0, x1)] [(0, (z_agm M))] z_LL M _
    refine wp_if1 rfl rfl rfl (fun (c2 : (z_agm M) ≠ 0) => ?_) (fun (c2 : ¬ ((z_agm M) ≠ 0)) => ?_)
    · refine wp_run 2 (pc' := 23) (ls' := [(2, 321), (0, x1)]) (st' := [(2, 321), (2, 321)]) rfl ?_
      refine wp_gf (pc' := 26) (t := 0) (v := (M 321 52)) rfl rfl (by decide) rfl rfl rfl ?_
      refine wp_callv (pc' := 29) (as := [(2, 321), (0, (M 321 52))]) (rest := []) (ls1 := [(2, 321), (0, (M 321 52)), (3, 0), (3, 0)]) rfl rfl rfl rfl rfl rfl ?_
      exact l2 c1 c2
    · refine wp_run 1 (pc' := 20) (ls' := [(2, 321), (0, x1)]) (st' := [(0, x1)]) rfl ?_
      exact wp_ret rfl rfl (l3 c1 c2)
set_option maxRecDepth 20000 in
theorem gX10_bare_29 {xs : List Int} {d : Nat} {M : z_M} {P : Option z_V → z_L → z_M → Prop} {x1 : Int} {s0 : Int} 
    (l1 : wp xs d mX10_bare 6 [(2, 321), (0, (z_w (x1 + 1)))] [] z_LL M P) :
    wp xs d mX10_bare 29 [(2, 321), (0, x1)] [(0, s0)] z_LL M P := by
  refine wp_run 3 (pc' := 6) (ls' := [(2, 321), (0, (z_w (x1 + 1)))]) (st' := []) rfl ?_
  exact l1
set_option maxRecDepth 20000 in
theorem gX9_law_0 {xs : List Int} {d : Nat} {M : z_M} {P : Option z_V → z_L → z_M → Prop} {a1 : Int} (hF : z_fix M) (hh1 : z_her M (M 1 2)) (hg2 : z_gor M (M 1 0))
    (l1 : (a1 < 1) → P (some (0, (-100))) z_LL M)
    (l2 : (¬ (a1 < 1)) → (a1 ≤ 20) → wp xs d mX0_singleAtLast 0 [(2, 38), (2, (M 1 2)), (0, (M (M 1 0) 18)), (3, 0)] [] z_LL M (fun r L1 M1 => wp xs (d + 1) mX9_law 32 [(2, 1), (0, a1)] (z_ol r ++ []) L1 M1 P))
    (l3 : (¬ (a1 < 1)) → (¬ (a1 ≤ 20)) → P (some (0, (-100))) z_LL M) :
    wp xs (d + 1) mX9_law 0 [(2, 1), (0, a1)] [] z_LL M P := by
  refine wp_run 2 (pc' := 2) (ls' := [(2, 1), (0, a1)]) (st' := [(0, 1), (0, a1)]) rfl ?_
  refine wp_if2 rfl rfl rfl (fun (c1 : a1 < 1) => ?_) (fun (c1 : ¬ (a1 < 1)) => ?_)
  · refine wp_run 1 (pc' := 13) (ls' := [(2, 1), (0, a1)]) (st' := [(0, (-100))]) rfl ?_
    exact wp_ret rfl rfl (l1 c1)
  · refine wp_run 2 (pc' := 8) (ls' := [(2, 1), (0, a1)]) (st' := [(0, 20), (0, a1)]) rfl ?_
    refine wp_if2 rfl rfl rfl (fun (c2 : a1 ≤ 20) => ?_) (fun (c2 : ¬ (a1 ≤ 20)) => ?_)
    · refine wp_run 1 (pc' := 15) (ls' := [(2, 1), (0, a1)]) (st' := [(2, 1)]) rfl ?_
      refine wp_gf (pc' := 18) (t := 2) (v := 38) rfl rfl (by decide) rfl rfl (fx_1_6 hF) ?_
      refine wp_run 1 (pc' := 19) (ls' := [(2, 1), (0, a1)]) (st' := [(2, 1), (2, 38)]) rfl ?_
      refine wp_gf (pc' := 22) (t := 2) (v := (M 1 2)) rfl rfl (by decide) rfl rfl rfl ?_
      refine wp_run 1 (pc' := 23) (ls' := [(2, 1), (0, a1)]) (st' := [(2, 1), (2, (M 1 2)), (2, 38)]) rfl ?_
      refine wp_gf (pc' := 26) (t := 2) (v := (M 1 0)) rfl rfl (by decide) rfl rfl rfl ?_
      refine wp_gf (pc' := 29) (t := 0) (v := (M (M 1 0) 18)) rfl rfl (by decide) rfl (z_gl0 hg2) rfl ?_
      refine wp_callv (pc' := 32) (as := [(2, 38), (2, (M 1 2)), (0, (M (M 1 0) 18))]) (rest := []) (ls1 := [(2, 38), (2, (M 1 2)), (0, (M (M 1 0) 18)), (3, 0)]) rfl rfl rfl rfl rfl rfl ?_
      exact l2 c1 c2
    · refine wp_run 1 (pc' := 13) (ls' := [(2, 1), (0, a1)]) (st' := [(0, (-100))]) rfl ?_
      exact wp_ret rfl rfl (l3 c1 c2)
set_option maxRecDepth 20000 in
theorem gX9_law_32 {xs : List Int} {d : Nat} {M : z_M} {P : Option z_V → z_L → z_M → Prop} {x1 : Int} {s0 : Int} (hF : z_fix M) (hh1 : z_her M (M 1 2))
    (l1 : wp xs d mX0_singleAtLast 0 [(2, 38), (2, (M 1 2)), (0, x1), (3, 0)] [] z_LL M (fun r L1 M1 => wp xs (d + 1) mX9_law 44 [(2, 1), (0, x1)] (z_ol r ++ [(0, s0)]) L1 M1 P)) :
    wp xs (d + 1) mX9_law 32 [(2, 1), (0, x1)] [(0, s0)] z_LL M P := by
  refine wp_run 1 (pc' := 33) (ls' := [(2, 1), (0, x1)]) (st' := [(2, 1), (0, s0)]) rfl ?_
  refine wp_gf (pc' := 36) (t := 2) (v := 38) rfl rfl (by decide) rfl rfl (fx_1_6 hF) ?_
  refine wp_run 1 (pc' := 37) (ls' := [(2, 1), (0, x1)]) (st' := [(2, 1), (2, 38), (0, s0)]) rfl ?_
  refine wp_gf (pc' := 40) (t := 2) (v := (M 1 2)) rfl rfl (by decide) rfl rfl rfl ?_
  refine wp_run 1 (pc' := 41) (ls' := [(2, 1), (0, x1)]) (st' := [(0, x1), (2, (M 1 2)), (2, 38), (0, s0)]) rfl ?_
  refine wp_callv (pc' := 44) (as := [(2, 38), (2, (M 1 2)), (0, x1)]) (rest := [(0, s0)]) (ls1 := [(2, 38), (2, (M 1 2)), (0, x1), (3, 0)]) rfl rfl rfl rfl rfl rfl ?_
  exact l1
set_option maxRecDepth 20000 in
theorem gX9_law_44 {xs : List Int} {d : Nat} {M : z_M} {P : Option z_V → z_L → z_M → Prop} {x1 : Int} {s0 : Int} {s1 : Int} 
    (l1 : P (some (0, (z_w (s0 - s1)))) z_LL M) :
    wp xs d mX9_law 44 [(2, 1), (0, x1)] [(0, s1), (0, s0)] z_LL M P := by
  refine wp_run 1 (pc' := 45) (ls' := [(2, 1), (0, x1)]) (st' := [(0, (z_w (s0 - s1)))]) rfl ?_
  exact wp_ret rfl rfl (l1)
set_option maxRecDepth 20000 in
theorem gX10_law_0 {xs : List Int} {d : Nat} {M : z_M} {P : Option z_V → z_L → z_M → Prop} {a1 : Int} 
    (l1 : ((1 ≤ a1 ∧ a1 ≤ 20)) → wp xs d mX10_goFar 0 [(2, 321), (0, 60), (0, (M 321 52)), (3, 0)] [] z_LL M (fun r L1 M1 => wp xs (d + 1) mX10_law 23 [(2, 321), (0, a1), (3, 0)] (z_ol r ++ []) L1 M1 P))
    (l2 : (¬ (1 ≤ a1 ∧ a1 ≤ 20)) → P (some (0, (-100))) z_LL M) :
    wp xs (d + 1) mX10_law 0 [(2, 321), (0, a1), (3, 0)] [] z_LL M P := by
  refine wp_run 3 (pc' := 4) (ls' := [(2, 321), (0, a1), (3, 0)]) (st' := [(0, 20), (0, 1), (0, a1)]) rfl ?_
  refine wp_callv (pc' := 7) (as := [(0, a1), (0, 1), (0, 20)]) (rest := []) (ls1 := [(0, a1), (0, 1), (0, 20)]) rfl rfl rfl rfl rfl rfl ?_
  refine s_X10_isIn  ?_
  show wp xs _ mX10_law 7 [(2, 321), (0, a1), (3, 0)] [(0, (z_b (1 ≤ a1 ∧ a1 ≤ 20)))] z_LL M _
  refine wp_bn rfl rfl rfl (fun (c1 : (1 ≤ a1 ∧ a1 ≤ 20)) => ?_) (fun (c1 : ¬ (1 ≤ a1 ∧ a1 ≤ 20)) => ?_)
  · refine wp_run 3 (pc' := 17) (ls' := [(2, 321), (0, a1), (3, 0)]) (st' := [(2, 321), (0, 60), (2, 321)]) rfl ?_
    refine wp_gf (pc' := 20) (t := 0) (v := (M 321 52)) rfl rfl (by decide) rfl rfl rfl ?_
    refine wp_callv (pc' := 23) (as := [(2, 321), (0, 60), (0, (M 321 52))]) (rest := []) (ls1 := [(2, 321), (0, 60), (0, (M 321 52)), (3, 0)]) rfl rfl rfl rfl rfl rfl ?_
    exact l1 c1
  · refine wp_run 1 (pc' := 12) (ls' := [(2, 321), (0, a1), (3, 0)]) (st' := [(0, (-100))]) rfl ?_
    exact wp_ret rfl rfl (l2 c1)
set_option maxRecDepth 20000 in
theorem gX10_law_23 {xs : List Int} {d : Nat} {M : z_M} {P : Option z_V → z_L → z_M → Prop} {x1 : Int} (hF : z_fix M) (hC : z_mc M) 
    (l1 : wp xs (d + 1) mX10_goFar 0 [(2, 321), (0, 60), (0, x1), (3, 0)] [] z_LL M (fun r L1 M1 => wp xs (d + 2) mX10_law 35 [(2, 321), (0, x1), (0, (z_amm M))] (z_ol r ++ []) L1 M1 P)) :
    wp xs (d + 2) mX10_law 23 [(2, 321), (0, x1), (3, 0)] [] z_LL M P := by
  refine wp_run 1 (pc' := 24) (ls' := [(2, 321), (0, x1), (3, 0)]) (st' := [(2, 321)]) rfl ?_
  refine wp_callv (pc' := 27) (as := [(2, 321)]) (rest := []) (ls1 := [(2, 321), (3, 0), (3, 0)]) rfl rfl rfl rfl rfl rfl ?_
  refine s_X10_allMatched hF hC ?_
  show wp xs _ mX10_law 27 [(2, 321), (0, x1), (3, 0)] [(0, (z_amm M))] z_LL M _
  refine wp_run 4 (pc' := 32) (ls' := [(2, 321), (0, x1), (0, (z_amm M))]) (st' := [(0, x1), (0, 60), (2, 321)]) rfl ?_
  refine wp_callv (pc' := 35) (as := [(2, 321), (0, 60), (0, x1)]) (rest := []) (ls1 := [(2, 321), (0, 60), (0, x1), (3, 0)]) rfl rfl rfl rfl rfl rfl ?_
  exact l1
set_option maxRecDepth 20000 in
theorem gX10_law_35 {xs : List Int} {d : Nat} {M : z_M} {P : Option z_V → z_L → z_M → Prop} {x1 : Int} {x2 : Int} (hF : z_fix M) (hC : z_mc M) 
    (l1 : P (some (0, (z_w ((z_amm M) - x2)))) z_LL M) :
    wp xs (d + 2) mX10_law 35 [(2, 321), (0, x1), (0, x2)] [] z_LL M P := by
  refine wp_run 1 (pc' := 36) (ls' := [(2, 321), (0, x1), (0, x2)]) (st' := [(2, 321)]) rfl ?_
  refine wp_callv (pc' := 39) (as := [(2, 321)]) (rest := []) (ls1 := [(2, 321), (3, 0), (3, 0)]) rfl rfl rfl rfl rfl rfl ?_
  refine s_X10_allMatched hF hC ?_
  show wp xs _ mX10_law 39 [(2, 321), (0, x1), (0, x2)] [(0, (z_amm M))] z_LL M _
  refine wp_run 2 (pc' := 41) (ls' := [(2, 321), (0, x1), (0, x2)]) (st' := [(0, (z_w ((z_amm M) - x2)))]) rfl ?_
  exact wp_ret rfl rfl (l1)
section
variable {xs : List Int} {d : Nat} {M : z_M}
theorem z_R_39 (hF : z_fix M) : z_her M 39 := ⟨by unfold z_ish; omega, (fun k h1 h2 => by
    have : k = 0 ∨ k = 1 ∨ k = 2 ∨ k = 3 ∨ k = 4 := by omega
    rcases this with rfl | rfl | rfl | rfl | rfl
    · exact fx_39_0 hF
    · exact fx_39_1 hF
    · exact fx_39_2 hF
    · exact fx_39_3 hF
    · exact fx_39_4 hF)⟩
theorem z_R_t0 (hR : z_R M) : z_hrd (z_cph M (M 1 2) 39) 39 (M 342) := z_cph_h (z_R_H hR).1 (z_R_39 (z_R_F hR)) (z_hk_ish (z_R_k hR)).2 (z_R_C hR).2.2.1.2 (z_R_H hR)
/-- the day's herds stay apart from what is reckoned with -/
theorem z_sc_n {M' : z_M} (hR : z_R M) (f : z_sc M M') : M' (M 1 2) = M (M 1 2) := by
  have := z_R_k hR
  unfold z_hk at this
  exact f.1 _ (by unfold z_sq; omega)
theorem c_weds {a1 : Int} (hR : z_R M) : z_two xs (d + 200) mX9_weds mX10_weds [(2, 1), (0, a1)] [(2, 321), (0, a1), (3, 0)] M := by
  have hn := (z_R_C hR).2.2.1
  have he := (z_R_C hR).2.2.2.1
  obtain ⟨n1, n2, n3, n4, n5⟩ := z_R_n hR
  have g := fun P => gX9_weds_0 (M := M) (xs := xs) (d := d + 199) (P := P) (a1 := a1) (z_R_F hR) (z_R_g hR).1 (z_R_H hR).1
  simp only [n3] at g
  by_cases h : 0 ≤ a1 ∧ a1 < M 321 48
  · obtain ⟨N, v, hN, h1, h2⟩ := z_first (fun j => ¬ z_dys M (M 321 52) (M 342) j (12 + a1) < 0) 60
    have hsn := fun j : Nat => z_dys_sn (ev := M 321 52) (z_R_C hR) (z_R_S hR) j
    have hdd := fun j : Nat => z_dys_d (ev := M 321 52) (z_R_C hR) (z_R_S hR) j
    have hrg := fun j : Nat => ((hsn j).1 a1 h.1 h.2).2.2
    refine z_two_q v hR (fun P k => ?_) (fun M1 P f1 hR1 k => ?_)
    · refine g _ (fun _ => by omega) (fun _ _ => by omega) (fun _ _ => ?_)
      refine gX0_daysToMatch_0 (z_R_F hR) (z_R_H hR).1 (z_hk_ish (z_R_k hR)).2 ?_
      refine z_loop (W := fun i => ∀ M' : z_M, z_sc M M' → z_hrd M' 39 (z_dys M (M 321 52) (M 342) i) → wp xs (d + 199) mX0_daysToMatch 10 [(2, 38), (2, M 1 2), (0, a1), (0, (i : Int))] [] z_LL M' _) N (fun i hi ih M' f H => ?_) (z_cph M (M 1 2) 39) z_cph_sc (z_R_t0 hR)
      have hR' := z_sc_R f hR
      have q1 : M' 1 = M 1 := f.1 1 (by unfold z_sq; omega)
      have e321 := z_sc_c f 321 (by unfold z_conf; omega)
      have em : M' 41 a1 = z_dys M (M 321 52) (M 342) i (12 + a1) := (H.2.1 a1 h.1 (by rw [e321]; exact h.2)).2
      have ed : M' 39 6 = M 342 104 + i := by rw [H.2.2.2.2.2.1, hdd]
      have ed2 : M' (M 1 2) 6 = M 342 104 := by rw [z_sc_n hR f, (z_R_H hR).2.2.2.2.2.1]
      have hs4 := (z_R_S hR).2.2.2.1
      have r := hrg i
      have g := fun P => gX0_daysToMatch_10 (M := M') (xs := xs) (d := d + 198) (P := P) (x1 := M 1 2) (x2 := a1) (x3 := (i : Int)) (z_R_F hR') (by rw [← q1]; exact (z_R_H hR').1) (z_R_G hR').1
      simp only [em, ed, ed2, (z_R_G hR').2.1.2.2.2.2.2, e321] at g
      have h1i : i < N → ¬ ¬ z_dys M (M 321 52) (M 342) i (12 + a1) < 0 := h1 i
      have fin : z_w (M 342 104 + i - M 342 104) = i := by rw [z_wid (by omega)]; omega
      rw [fin] at g
      have hend : ¬ i < N → (¬ z_dys M (M 321 52) (M 342) i (12 + a1) < 0 ∧ v = i) ∨ (z_dys M (M 321 52) (M 342) i (12 + a1) < 0 ∧ i = 60 ∧ v = -1) := fun q => by
        have : i = N := by omega
        rw [this]
        rcases h2 with ⟨w1, w2⟩ | ⟨w1, w2, w3⟩
        · exact Or.inl ⟨w1, w2⟩
        · exact Or.inr ⟨Classical.byContradiction w1, w2, w3⟩
      apply g
      case b1 => intros; omega
      case b2 => intros; omega
      case l1 =>
        intro c1 c2
        refine gX9_weds_23 ?_
        have : v = i := by
          rcases hend (by omega) with w | w <;> omega
        rw [← this]
        exact k M' f
      case l2 =>
        intro c1 c2
        refine gX9_weds_23 ?_
        have : v = -1 := by
          rcases hend (by omega) with w | w <;> omega
        rw [← this]
        exact k M' f
      case l3 =>
        intro c1 c2 _
        refine gX9_weds_23 ?_
        have : v = i := by
          by_cases w : i < N
          · exact absurd (Classical.byContradiction (h1i w)) (by omega)
          · rcases hend w with w | w <;> omega
        rw [← this]
        exact k M' f
      case l4 => exact fun _ c2 c3 => absurd c2 c3
      case l5 =>
        intro c1 c2
        have hlt : i < N := by
          by_cases w : i < N
          · exact w
          · rcases hend w with w | w <;> omega
        refine s_trial hR' H (z_sn_x (z_cfe_c (z_sc_c f)) (hsn i)) (by omega) (by omega) (fun M2 f2 _ _ H2 => ?_)
        refine gX0_daysToMatch_50 (M := M2) (x1 := M 1 2) (by rw [← q1, ← show M2 1 = M' 1 from f2.1 1 (by unfold z_sq; omega)]; exact (z_R_H (z_sc_R f2 hR')).1) ?_
        rw [z_in1 (by omega)]
        refine ih hlt M2 (z_sc_t f f2) ?_
        rw [z_day_q (z_sc_c f)] at H2
        exact H2
    · have e321 := z_sc_c f1 321 (by unfold z_conf; omega)
      refine gX10_weds_0 (z_R_F hR1) (z_R_C hR1) (fun _ => ?_) (fun q => absurd (by rw [e321]; exact h) q)
      refine s_ldR hR1 (fun M2 f2 e2 => ?_)
      refine gX10_weds_14 ?_
      refine z_loop (W := fun i => ∀ M' : z_M, z_sc M1 M' → M' 343 = z_dys M (M 321 52) (M 342) i → wp xs (d + 200) mX10_weds 16 [(2, 321), (0, a1), (0, (i : Int))] [] z_LL M' P) N (fun i hi ih M' f e => ?_) M2 f2 (by rw [e2, f1.1 342 (by unfold z_sq; omega)]; rfl)
      have hR' := z_sc_R f hR1
      have f' := z_sc_t f1 f
      have e321 := z_sc_c f' 321 (by unfold z_conf; omega)
      have g := gX10_weds_16 (M := M') (xs := xs) (d := d + 199) (P := P) (x1 := a1) (x2 := (i : Int)) (z_R_F hR')
      simp only [e, e321, z_wid (x := 12 + a1) (by omega)] at g
      have h1i : i < N → ¬ ¬ z_dys M (M 321 52) (M 342) i (12 + a1) < 0 := h1 i
      have hend : ¬ i < N → (¬ z_dys M (M 321 52) (M 342) i (12 + a1) < 0 ∧ v = i) ∨ (z_dys M (M 321 52) (M 342) i (12 + a1) < 0 ∧ i = 60 ∧ v = -1) := fun q => by
        have : i = N := by omega
        rw [this]
        rcases h2 with ⟨w1, w2⟩ | ⟨w1, w2, w3⟩
        · exact Or.inl ⟨w1, w2⟩
        · exact Or.inr ⟨Classical.byContradiction w1, w2, w3⟩
      have hs := z_sn_x (z_cfe_c (z_sc_c f')) (hsn i)
      rw [← e] at hs
      have go : z_dys M (M 321 52) (M 342) i (12 + a1) < 0 → (i + 1 : Nat) ≤ N ∨ (i = 60 ∧ v = -1) := fun q => by
        by_cases w : i < N
        · exact Or.inl w
        · rcases hend w with w | w
          · exact absurd q w.1
          · exact Or.inr w.2
      refine g (fun c => by omega) (fun _ => by omega) (fun c1 c2 => ?_) (fun c1 c2 => ?_)
      · refine s_air hR' hs (by omega) (fun M3 f3 e3 => ?_)
        refine gX10_weds_44 ?_
        rw [z_in1 (by omega)]
        rcases go c2 with w | ⟨w1, w2⟩
        · refine ih w M3 (z_sc_t f f3) ?_
          rw [e3, z_day_q (z_sc_c f'), e]
          rfl
        · refine gX10_weds_16 (z_R_F (z_sc_R f3 hR')) (fun _ => ?_) (fun c => by omega) (fun c => by omega) (fun c => by omega)
          rw [← w2]
          exact k M3 (z_sc_t f f3)
      · have : v = i := by
          by_cases w : i < N
          · exact absurd (Classical.byContradiction (h1i w)) c2
          · rcases hend w with w | w
            · exact w.2
            · exact absurd w.1 c2
        rw [← this]
        exact k M' f
  · refine z_two_q (-1) hR (fun P k => ?_) (fun M1 P f1 hR1 k => ?_)
    · exact g _ (fun _ => k M z_sc_r) (fun _ _ => k M z_sc_r) (fun _ _ => by omega)
    · rw [← z_sc_c f1 321 (by unfold z_conf; omega)] at h
      exact gX10_weds_0 (z_R_F hR1) (z_R_C hR1) (fun q => absurd q h) (fun _ => k M1 z_sc_r)
theorem c_bare (hR : z_R M) : z_two xs (d + 200) mX9_bare mX10_bare [(2, 1)] [(2, 321), (3, 0)] M := by
  have hn := (z_R_C hR).2.2.1
  have hx := z_mc_cells (z_R_C hR)
  have he := (z_R_C hR).2.2.2.1
  obtain ⟨N, v, hN, h1, h2⟩ := z_first (fun j => z_wss (fun c => z_dys M (M 321 52) (M 342) j (54 + c)) (M 321 46 * M 321 47).toNat = 0) 60
  have hsn := fun j : Nat => z_dys_sn (ev := M 321 52) (z_R_C hR) (z_R_S hR) j
  have hdd := fun j : Nat => z_dys_d (ev := M 321 52) (z_R_C hR) (z_R_S hR) j
  have hrg := fun j : Nat => z_wss_r (f := fun c => z_dys M (M 321 52) (M 342) j (54 + c)) (n := (M 321 46 * M 321 47).toNat) (by omega) (fun c a b => ((hsn j).2.1 c a (by omega)).1)
  have hend : ∀ i : Nat, i ≤ N → ¬ i < N → (z_wss (fun c => z_dys M (M 321 52) (M 342) i (54 + c)) (M 321 46 * M 321 47).toNat = 0 ∧ v = i) ∨ (¬ z_wss (fun c => z_dys M (M 321 52) (M 342) i (54 + c)) (M 321 46 * M 321 47).toNat = 0 ∧ i = 60 ∧ v = -1) := fun i hi q => by
    have : i = N := by omega
    rw [this]
    exact h2
  refine z_two_q v hR (fun P k => ?_) (fun M1 P f1 hR1 k => ?_)
  · refine gX9_bare_0 (z_R_F hR) (z_R_H hR).1 ?_
    refine gX0_daysToBare_0 (z_R_F hR) (z_R_H hR).1 (z_hk_ish (z_R_k hR)).2 ?_
    refine z_loop (W := fun i => ∀ M' : z_M, z_sc M M' → z_hrd M' 39 (z_dys M (M 321 52) (M 342) i) → wp xs (d + 199) mX0_daysToBare 10 [(2, 38), (2, M 1 2), (0, (i : Int))] [] z_LL M' _) N (fun i hi ih M' f H => ?_) (z_cph M (M 1 2) 39) z_cph_sc (z_R_t0 hR)
    have hR' := z_sc_R f hR
    have q1 : M' 1 = M 1 := f.1 1 (by unfold z_sq; omega)
    have e321 := z_sc_c f 321 (by unfold z_conf; omega)
    have eg : z_agr M' 39 = z_wss (fun c => z_dys M (M 321 52) (M 342) i (54 + c)) (M 321 46 * M 321 47).toNat := by
      rw [z_agr_s (z_R_C hR') H (z_sn_x (z_cfe_c (z_sc_c f)) (hsn i)), e321]
    have ed : M' 39 6 = M 342 104 + i := by rw [H.2.2.2.2.2.1, hdd]
    have ed2 : M' (M 1 2) 6 = M 342 104 := by rw [z_sc_n hR f, (z_R_H hR).2.2.2.2.2.1]
    have hs4 := (z_R_S hR).2.2.2.1
    have hh : z_her M' (M 1 2) := by rw [← q1]; exact (z_R_H hR').1
    have r := hrg i
    have h1i := h1 i
    have hei := hend i hi
    have fin : z_w (M 342 104 + i - M 342 104) = i := by rw [z_wid (by omega)]; omega
    have g := fun P => gX0_daysToBare_10 (M := M') (xs := xs) (d := d + 198) (P := P) (x1 := M 1 2) (x2 := (i : Int)) (z_R_F hR') hh (z_R_39 (z_R_F hR')) (z_R_G hR').1
    simp only [eg, ed, ed2, fin, (z_R_G hR').2.1.2.2.2.2.2, e321] at g
    refine g _ (fun c c2 => gX9_bare_11 ?_) (fun c c2 => gX9_bare_11 ?_) (fun c c2 _ => gX9_bare_11 ?_) (fun _ c2 c3 => absurd c2 c3) (fun c c2 => ?_)
    · have : v = i := by
        rcases hei (by omega) with q | q <;> omega
      rw [← this]
      exact k M' f
    · have : v = -1 := by
        rcases hei (by omega) with q | q <;> omega
      rw [← this]
      exact k M' f
    · have : v = i := by
        by_cases w : i < N
        · exact absurd (by omega) (h1i w)
        · rcases hei w with q | q <;> omega
      rw [← this]
      exact k M' f
    · have hlt : i < N := by
        by_cases w : i < N
        · exact w
        · rcases hei w with q | q <;> omega
      refine s_trial hR' H (z_sn_x (z_cfe_c (z_sc_c f)) (hsn i)) (by omega) (by omega) (fun M2 f2 _ _ H2 => ?_)
      refine gX0_daysToBare_47 (M := M2) (x1 := M 1 2) (by rw [← q1, ← show M2 1 = M' 1 from f2.1 1 (by unfold z_sq; omega)]; exact (z_R_H (z_sc_R f2 hR')).1) ?_
      rw [z_in1 (by omega)]
      refine ih hlt M2 (z_sc_t f f2) ?_
      rw [z_day_q (z_sc_c f)] at H2
      exact H2
  · refine gX10_bare_0 ?_
    refine s_ldR hR1 (fun M2 f2 e2 => ?_)
    refine gX10_bare_4 ?_
    refine z_loop (W := fun i => ∀ M' : z_M, z_sc M1 M' → M' 343 = z_dys M (M 321 52) (M 342) i → wp xs (d + 200) mX10_bare 6 [(2, 321), (0, (i : Int))] [] z_LL M' P) N (fun i hi ih M' f e => ?_) M2 f2 (by rw [e2, f1.1 342 (by unfold z_sq; omega)]; rfl)
    have hR' := z_sc_R f hR1
    have f' := z_sc_t f1 f
    have e321 := z_sc_c f' 321 (by unfold z_conf; omega)
    have h1i := h1 i
    have hei := hend i hi
    have hs := z_sn_x (z_cfe_c (z_sc_c f')) (hsn i)
    rw [← e] at hs
    have eg : z_agm M' = z_wss (fun c => z_dys M (M 321 52) (M 342) i (54 + c)) (M 321 46 * M 321 47).toNat := by
      unfold z_agm
      rw [e, e321]
    have g := gX10_bare_6 (M := M') (xs := xs) (d := d + 198) (P := P) (x1 := (i : Int)) (z_R_F hR') (z_R_C hR')
    simp only [eg, e321] at g
    refine g (fun c => by omega) (fun _ c => ?_) (fun _ c => ?_)
    · refine s_air hR' hs (by omega) (fun M3 f3 e3 => ?_)
      refine gX10_bare_29 ?_
      rw [z_in1 (by omega)]
      by_cases w : i < N
      · refine ih w M3 (z_sc_t f f3) ?_
        rw [e3, z_day_q (z_sc_c f'), e]
        rfl
      · rcases hei w with q | q
        · exact absurd q.1 c
        · refine gX10_bare_6 (z_R_F (z_sc_R f3 hR')) (z_R_C (z_sc_R f3 hR')) (fun _ => ?_) (fun c => by omega) (fun c => by omega)
          rw [← q.2.2]
          exact k M3 (z_sc_t f f3)
    · have : v = i := by
        have c := Classical.byContradiction c
        by_cases w : i < N
        · exact absurd c (h1i w)
        · rcases hei w with q | q
          · exact q.2
          · exact absurd c q.1
      rw [← this]
      exact k M' f
theorem s_X0_singleAtLast {P : Option z_V → z_L → z_M → Prop} {ev : Int} (hR : z_R M) (hev : 1 ≤ ev) (k : ∀ M' : z_M, z_sc M M' → P (some (0, M 321 48 - z_mch M (z_dys M ev (M 342) 60))) z_LL M') : wp xs (d + 4) mX0_singleAtLast 0 [(2, 38), (2, M 1 2), (0, ev), (3, 0)] [] z_LL M P := by
  have hn := (z_R_C hR).2.2.1
  refine gX0_singleAtLast_0 (z_R_F hR) (z_R_H hR).1 (z_hk_ish (z_R_k hR)).2 ?_
  refine z_loop (W := fun i => ∀ M' : z_M, z_sc M M' → z_hrd M' 39 (z_dys M ev (M 342) i) → wp xs (d + 4) mX0_singleAtLast 10 [(2, 38), (2, M 1 2), (0, ev), (0, (i : Int))] [] z_LL M' P) 60 (fun i hi ih M' f H => ?_) (z_cph M (M 1 2) 39) z_cph_sc (z_R_t0 hR)
  have hR' := z_sc_R f hR
  have q1 : M' 1 = M 1 := f.1 1 (by unfold z_sq; omega)
  have e321 := z_sc_c f 321 (by unfold z_conf; omega)
  have hh : z_her M' (M 1 2) := by rw [← q1]; exact (z_R_H hR').1
  have hs := z_sn_x (z_cfe_c (z_sc_c f)) (z_dys_sn (ev := ev) (z_R_C hR) (z_R_S hR) i)
  have g := gX0_singleAtLast_10 (M := M') (xs := xs) (d := d + 3) (P := P) (x1 := M 1 2) (x2 := ev) (x3 := (i : Int)) (z_R_F hR') hh (z_R_G hR').1 (z_R_39 (z_R_F hR'))
  rw [(z_R_G hR').2.1.2.2.1, z_sgl_s (z_R_C hR') H hs, z_mch_b (z_R_C hR')] at g
  refine g (fun _ => by rw [e321]; omega) (fun c => ?_) (fun c => ?_)
  · obtain rfl : i = 60 := by omega
    unfold z_mch
    rw [e321]
    exact k M' f
  · refine s_trial hR' H hs (by omega) hev (fun M2 f2 _ _ H2 => ?_)
    refine gX0_singleAtLast_28 (M := M2) (x1 := M 1 2) (by rw [← q1, ← show M2 1 = M' 1 from f2.1 1 (by unfold z_sq; omega)]; exact (z_R_H (z_sc_R f2 hR')).1) ?_
    rw [z_in1 (by omega)]
    refine ih (by omega) M2 (z_sc_t f f2) ?_
    rw [z_day_q (z_sc_c f)] at H2
    exact H2
theorem c_law {a1 : Int} (hR : z_R M) : z_two xs (d + 200) mX9_law mX10_law [(2, 1), (0, a1)] [(2, 321), (0, a1), (3, 0)] M := by
  have he := (z_R_C hR).2.2.2.1
  have hn := (z_R_C hR).2.2.1
  have mr := fun s => z_mch_r (z_R_C hR) (s := s)
  by_cases h : 1 ≤ a1 ∧ a1 ≤ 20
  · refine z_two_q (z_mch M (z_dys M a1 (M 342) 60) - z_mch M (z_dys M (M 321 52) (M 342) 60)) hR (fun P k => ?_) (fun M1 P f1 hR1 k => ?_)
    · refine gX9_law_0 (z_R_F hR) (z_R_H hR).1 (z_R_g hR).1 (fun _ => by omega) (fun _ _ => ?_) (fun _ _ => by omega)
      rw [(z_R_n hR).2.2.2.1]
      refine s_X0_singleAtLast hR (by omega) (fun M1 f1 => ?_)
      have hR1 := z_sc_R f1 hR
      have e321 := z_sc_c f1 321 (by unfold z_conf; omega)
      refine gX9_law_32 (x1 := a1) (z_R_F hR1) (z_R_H hR1).1 ?_
      refine s_X0_singleAtLast hR1 (by omega) (fun M2 f2 => ?_)
      refine gX9_law_44 (x1 := a1) ?_
      rw [z_dys_q (z_sc_c f1), f1.1 342 (by unfold z_sq; omega), e321, show z_mch M1 (z_dys M a1 (M 342) 60) = z_mch M (z_dys M a1 (M 342) 60) by unfold z_mch; rw [e321]]
      have m1 := mr (z_dys M a1 (M 342) 60)
      have m2 := mr (z_dys M (M 321 52) (M 342) 60)
      rw [z_wid (by omega), show M 321 48 - z_mch M (z_dys M (M 321 52) (M 342) 60) - (M 321 48 - z_mch M (z_dys M a1 (M 342) 60)) = z_mch M (z_dys M a1 (M 342) 60) - z_mch M (z_dys M (M 321 52) (M 342) 60) by omega]
      exact k M2 (z_sc_t f1 f2)
    · refine gX10_law_0 (fun _ => ?_) (fun q => absurd h q)
      refine s_X10_goFar (n := 60) hR1 (by omega) (fun M2 f2 e2 => ?_)
      have hR2 := z_sc_R f2 hR1
      have f12 := z_sc_t f1 f2
      have em : z_amm M2 = z_mch M (z_dys M (M 321 52) (M 342) 60) := by
        unfold z_amm z_mch
        rw [e2, z_dys_q (z_sc_c f1), f1.1 342 (by unfold z_sq; omega), z_sc_c f12 321 (by unfold z_conf; omega), z_sc_c f1 321 (by unfold z_conf; omega)]
      refine gX10_law_23 (z_R_F hR2) (z_R_C hR2) ?_
      rw [em]
      refine s_X10_goFar (n := 60) hR2 (by omega) (fun M3 f3 e3 => ?_)
      have hR3 := z_sc_R f3 hR2
      have f13 := z_sc_t f12 f3
      have em3 : z_amm M3 = z_mch M (z_dys M a1 (M 342) 60) := by
        unfold z_amm z_mch
        rw [e3, z_dys_q (z_sc_c f12), f12.1 342 (by unfold z_sq; omega), z_sc_c f13 321 (by unfold z_conf; omega)]
      refine gX10_law_35 (z_R_F hR3) (z_R_C hR3) ?_
      rw [em3]
      have m1 := mr (z_dys M a1 (M 342) 60)
      have m2 := mr (z_dys M (M 321 52) (M 342) 60)
      rw [z_wid (by omega)]
      exact k M3 (z_sc_t f2 f3)
  · refine z_two_q (-100) hR (fun P k => ?_) (fun M1 P f1 hR1 k => ?_)
    · exact gX9_law_0 (z_R_F hR) (z_R_H hR).1 (z_R_g hR).1 (fun _ => k M z_sc_r) (fun _ _ => by omega) (fun _ _ => k M z_sc_r)
    · exact gX10_law_0 (fun q => absurd q h) (fun _ => k M1 z_sc_r)
end
