/-! whether two mix often enough -/
section
variable {M : z_M}
/-- salt on the first i cells of a set -/
noncomputable def z_sls (t : Int → Int) (x : Int) (i : Int) : Int → Int := fun k => @ite Int (79 ≤ k ∧ k < 79 + i ∧ z_bt x (k - 79)) (Classical.propDecidable _) 9 (t k)
theorem z_sls_0 {t : Int → Int} {x : Int} : z_sls t x 0 = t := by
  funext k
  unfold z_sls
  rw [if_neg (by omega)]
theorem z_sls_o {t : Int → Int} {x i k : Int} (h : ¬ (79 ≤ k ∧ k < 79 + i)) : z_sls t x i k = t k := by
  unfold z_sls
  rw [if_neg (fun q => h ⟨q.1, q.2.1⟩)]
theorem z_sls_y {t : Int → Int} {x : Int} {i : Nat} (h : z_bt x i) : z_sls t x ((i + 1 : Nat) : Int) = z_pt (z_sls t x i) (79 + i) 9 := by
  funext k
  by_cases c : k = 79 + i
  · rw [c, z_pt_s]
    unfold z_sls
    rw [if_pos ⟨by omega, by omega, by rw [show 79 + (i : Int) - 79 = i by omega]; exact h⟩]
  · rw [z_pt_n c]
    unfold z_sls
    by_cases e : 79 ≤ k ∧ k < 79 + i ∧ z_bt x (k - 79)
    · rw [if_pos e, if_pos ⟨e.1, by omega, e.2.2⟩]
    · rw [if_neg e, if_neg (fun q => e ⟨q.1, by omega, q.2.2⟩)]
theorem z_sls_n {t : Int → Int} {x : Int} {i : Nat} (h : ¬ z_bt x i) : z_sls t x ((i + 1 : Nat) : Int) = z_sls t x i := by
  funext k
  unfold z_sls
  by_cases e : 79 ≤ k ∧ k < 79 + i ∧ z_bt x (k - 79)
  · rw [if_pos e, if_pos ⟨e.1, by omega, e.2.2⟩]
  · rw [if_neg e, if_neg (fun q => e ⟨q.1, Classical.byContradiction fun w => h (by rw [show (i : Int) = k - 79 by omega]; exact q.2.2), q.2.2⟩)]
theorem z_sls_z {t : Int → Int} {x : Int} (h : ∀ c : Int, 0 ≤ c → c < 25 → ¬ z_bt x c) : z_sls t x 25 = t := by
  funext k
  unfold z_sls
  rw [if_neg (fun q => h (k - 79) (by omega) (by omega) q.2.2)]
theorem z_sn_sls (hC : z_mc M) {t : Int → Int} {x : Int} (hS : z_sn M 999 t) : ∀ i : Nat, i ≤ 25 → z_sn M 999 (z_sls t x i)
  | 0, _ => by
    rw [show ((0 : Nat) : Int) = 0 from rfl, z_sls_0]
    exact hS
  | i + 1, h => by
    have ih := z_sn_sls (x := x) hC hS i (by omega)
    by_cases c : z_bt x i
    · rw [z_sls_y c]
      exact z_sn_salt hC ih (by omega) (by omega)
    · rw [z_sls_n c]
      exact ih
/-- the trying ends here -/
def z_exi (due : Int) (days : Nat) (m : Nat → Int) (j : Nat) : Prop := due - m j ≤ 0 ∨ (days : Int) - j < due - m j
theorem z_exi_e (due : Int) (days : Nat) (m : Nat → Int) : ∃ J : Nat, J ≤ days ∧ z_exi due days m J ∧ ∀ j : Nat, j < J → ¬ z_exi due days m j := by
  obtain ⟨N, v, h1, h2, h3⟩ := z_first (z_exi due days m) days
  rcases h3 with h3 | h3
  · exact ⟨N, h1, h3.1, h2⟩
  · refine absurd ?_ h3.1
    rw [h3.2.1]
    unfold z_exi
    omega
end
set_option maxRecDepth 20000 in
theorem gX0_mixEnough_0 {xs : List Int} {d : Nat} {M : z_M} {P : Option z_V → z_L → z_M → Prop} {a1 : Int} {a2 : Int} {a3 : Int} (hF : z_fix M) (ha1 : z_her M a1) (hn1 : a1 ≠ 39)
    (l1 : wp xs (d + 1) mX0_mixEnough 24 [(2, 38), (2, a1), (0, a2), (0, a3), (0, 0), (3, 0), (3, 0)] [] z_LL (z_up (z_up (z_up (z_up (z_cpy (z_cpy (z_cpy (z_cpy (z_cpy M (a1 + 1) 0 40 0 6) (a1 + 2) 0 41 0 6) (a1 + 3) 0 42 0 25) (a1 + 4) 0 43 0 25) (a1 + 5) 0 44 0 36) 39 5 (M a1 5)) 39 6 (M a1 6)) 39 7 (M a1 7)) 39 5 (z_or (M a1 5) a3)) P) :
    wp xs (d + 1) mX0_mixEnough 0 [(2, 38), (2, a1), (0, a2), (0, a3), (3, 0), (3, 0), (3, 0)] [] z_LL M P := by
  refine wp_run 1 (pc' := 1) (ls' := [(2, 38), (2, a1), (0, a2), (0, a3), (3, 0), (3, 0), (3, 0)]) (st' := [(2, 38)]) rfl ?_
  refine wp_gf (pc' := 4) (t := 2) (v := 39) rfl rfl (by decide) rfl rfl (fx_38_1 hF) ?_
  refine wp_run 1 (pc' := 5) (ls' := [(2, 38), (2, a1), (0, a2), (0, a3), (3, 0), (3, 0), (3, 0)]) (st' := [(2, a1), (2, 39)]) rfl ?_
  refine wp_callv (pc' := 8) (as := [(2, 39), (2, a1)]) (rest := []) (ls1 := [(2, 39), (2, a1)]) rfl rfl rfl rfl rfl rfl ?_
  refine wp_run 1 (pc' := 1) (ls' := [(2, 39), (2, a1)]) (st' := [(2, a1)]) rfl ?_
  refine wp_gf (pc' := 4) (t := 2) (v := (a1 + 1)) rfl rfl (by decide) rfl (z_hl0 ha1) (z_hf0 ha1) ?_
  refine wp_run 2 (pc' := 6) (ls' := [(2, 39), (2, a1)]) (st' := [(2, 39), (0, 0), (2, (a1 + 1))]) rfl ?_
  refine wp_gf (pc' := 9) (t := 2) (v := 40) rfl rfl (by decide) rfl rfl (fx_39_0 hF) ?_
  refine wp_run 2 (pc' := 12) (ls' := [(2, 39), (2, a1)]) (st' := [(0, 6), (0, 0), (2, 40), (0, 0), (2, (a1 + 1))]) rfl ?_
  refine wp_acp (pc' := 15) rfl rfl (z_hl1 ha1) rfl (by decide) ?_
  refine wp_run 1 (pc' := 16) (ls' := [(2, 39), (2, a1)]) (st' := [(2, a1)]) rfl ?_
  refine wp_gf (pc' := 19) (t := 2) (v := (a1 + 2)) rfl rfl (by decide) rfl (z_hl0 ha1) (z_cpq (by have := z_hr ha1; omega) (z_hf1 ha1)) ?_
  refine wp_run 2 (pc' := 21) (ls' := [(2, 39), (2, a1)]) (st' := [(2, 39), (0, 0), (2, (a1 + 2))]) rfl ?_
  refine wp_gf (pc' := 24) (t := 2) (v := 41) rfl rfl (by decide) rfl rfl (z_cpq (by decide) (fx_39_1 hF)) ?_
  refine wp_run 2 (pc' := 27) (ls' := [(2, 39), (2, a1)]) (st' := [(0, 6), (0, 0), (2, 41), (0, 0), (2, (a1 + 2))]) rfl ?_
  refine wp_acp (pc' := 30) rfl rfl (z_hl2 ha1) rfl (by decide) ?_
  refine wp_run 1 (pc' := 31) (ls' := [(2, 39), (2, a1)]) (st' := [(2, a1)]) rfl ?_
  refine wp_gf (pc' := 34) (t := 2) (v := (a1 + 3)) rfl rfl (by decide) rfl (z_hl0 ha1) (z_cpq (by have := z_hr ha1; omega) (z_cpq (by have := z_hr ha1; omega) (z_hf2 ha1))) ?_
  refine wp_run 2 (pc' := 36) (ls' := [(2, 39), (2, a1)]) (st' := [(2, 39), (0, 0), (2, (a1 + 3))]) rfl ?_
  refine wp_gf (pc' := 39) (t := 2) (v := 42) rfl rfl (by decide) rfl rfl (z_cpq (by decide) (z_cpq (by decide) (fx_39_2 hF))) ?_
  refine wp_run 2 (pc' := 42) (ls' := [(2, 39), (2, a1)]) (st' := [(0, 25), (0, 0), (2, 42), (0, 0), (2, (a1 + 3))]) rfl ?_
  refine wp_acp (pc' := 45) rfl rfl (z_hl3 ha1) rfl (by decide) ?_
  refine wp_run 1 (pc' := 46) (ls' := [(2, 39), (2, a1)]) (st' := [(2, a1)]) rfl ?_
  refine wp_gf (pc' := 49) (t := 2) (v := (a1 + 4)) rfl rfl (by decide) rfl (z_hl0 ha1) (z_cpq (by have := z_hr ha1; omega) (z_cpq (by have := z_hr ha1; omega) (z_cpq (by have := z_hr ha1; omega) (z_hf3 ha1)))) ?_
  refine wp_run 2 (pc' := 51) (ls' := [(2, 39), (2, a1)]) (st' := [(2, 39), (0, 0), (2, (a1 + 4))]) rfl ?_
  refine wp_gf (pc' := 54) (t := 2) (v := 43) rfl rfl (by decide) rfl rfl (z_cpq (by decide) (z_cpq (by decide) (z_cpq (by decide) (fx_39_3 hF)))) ?_
  refine wp_run 2 (pc' := 57) (ls' := [(2, 39), (2, a1)]) (st' := [(0, 25), (0, 0), (2, 43), (0, 0), (2, (a1 + 4))]) rfl ?_
  refine wp_acp (pc' := 60) rfl rfl (z_hl4 ha1) rfl (by decide) ?_
  refine wp_run 1 (pc' := 61) (ls' := [(2, 39), (2, a1)]) (st' := [(2, a1)]) rfl ?_
  refine wp_gf (pc' := 64) (t := 2) (v := (a1 + 5)) rfl rfl (by decide) rfl (z_hl0 ha1) (z_cpq (by have := z_hr ha1; omega) (z_cpq (by have := z_hr ha1; omega) (z_cpq (by have := z_hr ha1; omega) (z_cpq (by have := z_hr ha1; omega) (z_hf4 ha1))))) ?_
  refine wp_run 2 (pc' := 66) (ls' := [(2, 39), (2, a1)]) (st' := [(2, 39), (0, 0), (2, (a1 + 5))]) rfl ?_
  refine wp_gf (pc' := 69) (t := 2) (v := 44) rfl rfl (by decide) rfl rfl (z_cpq (by decide) (z_cpq (by decide) (z_cpq (by decide) (z_cpq (by decide) (fx_39_4 hF))))) ?_
  refine wp_run 2 (pc' := 71) (ls' := [(2, 39), (2, a1)]) (st' := [(2, 39), (0, 0), (2, 44), (0, 0), (2, (a1 + 5))]) rfl ?_
  refine wp_gf (pc' := 74) (t := 2) (v := 44) rfl rfl (by decide) rfl rfl (z_cpq (by decide) (z_cpq (by decide) (z_cpq (by decide) (z_cpq (by decide) (fx_39_4 hF))))) ?_
  refine wp_len (pc' := 75) rfl rfl rfl (by decide) ?_
  refine wp_acp (pc' := 78) rfl rfl (z_hl5 ha1) rfl (by decide) ?_
  refine wp_run 2 (pc' := 80) (ls' := [(2, 39), (2, a1)]) (st' := [(2, a1), (2, 39)]) rfl ?_
  refine wp_gf (pc' := 83) (t := 0) (v := (M a1 5)) rfl rfl (by decide) rfl (z_hl0 ha1) (z_cpq (by have := z_hr ha1; omega) (z_cpq (by have := z_hr ha1; omega) (z_cpq (by have := z_hr ha1; omega) (z_cpq (by have := z_hr ha1; omega) (z_cpq (by have := z_hr ha1; omega) rfl))))) ?_
  refine wp_pf (pc' := 86) rfl rfl rfl rfl (fun z => absurd z (by decide)) (fun z => absurd z (by decide)) ?_
  refine wp_run 2 (pc' := 88) (ls' := [(2, 39), (2, a1)]) (st' := [(2, a1), (2, 39)]) rfl ?_
  refine wp_gf (pc' := 91) (t := 0) (v := (M a1 6)) rfl rfl (by decide) rfl (z_hl0 ha1) (z_upq (by have := z_hr ha1; omega) (z_cpq (by have := z_hr ha1; omega) (z_cpq (by have := z_hr ha1; omega) (z_cpq (by have := z_hr ha1; omega) (z_cpq (by have := z_hr ha1; omega) (z_cpq (by have := z_hr ha1; omega) rfl)))))) ?_
  refine wp_pf (pc' := 94) rfl rfl rfl rfl (fun z => absurd z (by decide)) (fun z => absurd z (by decide)) ?_
  refine wp_run 2 (pc' := 96) (ls' := [(2, 39), (2, a1)]) (st' := [(2, a1), (2, 39)]) rfl ?_
  refine wp_gf (pc' := 99) (t := 0) (v := (M a1 7)) rfl rfl (by decide) rfl (z_hl0 ha1) (z_upq (by have := z_hr ha1; omega) (z_upq (by have := z_hr ha1; omega) (z_cpq (by have := z_hr ha1; omega) (z_cpq (by have := z_hr ha1; omega) (z_cpq (by have := z_hr ha1; omega) (z_cpq (by have := z_hr ha1; omega) (z_cpq (by have := z_hr ha1; omega) rfl))))))) ?_
  refine wp_pf (pc' := 102) rfl rfl rfl rfl (fun z => absurd z (by decide)) (fun z => absurd z (by decide)) ?_
  refine wp_ret rfl rfl ?_
  show wp xs _ mX0_mixEnough 8 [(2, 38), (2, a1), (0, a2), (0, a3), (3, 0), (3, 0), (3, 0)] [] z_LL (z_up (z_up (z_up (z_cpy (z_cpy (z_cpy (z_cpy (z_cpy M (a1 + 1) 0 40 0 6) (a1 + 2) 0 41 0 6) (a1 + 3) 0 42 0 25) (a1 + 4) 0 43 0 25) (a1 + 5) 0 44 0 36) 39 5 (M a1 5)) 39 6 (M a1 6)) 39 7 (M a1 7)) _
  refine wp_run 1 (pc' := 9) (ls' := [(2, 38), (2, a1), (0, a2), (0, a3), (3, 0), (3, 0), (3, 0)]) (st' := [(2, 38)]) rfl ?_
  refine wp_gf (pc' := 12) (t := 2) (v := 39) rfl rfl (by decide) rfl rfl (z_upq (by decide) (z_upq (by decide) (z_upq (by decide) (z_cpq (by decide) (z_cpq (by decide) (z_cpq (by decide) (z_cpq (by decide) (z_cpq (by decide) (fx_38_1 hF))))))))) ?_
  refine wp_run 1 (pc' := 13) (ls' := [(2, 38), (2, a1), (0, a2), (0, a3), (3, 0), (3, 0), (3, 0)]) (st' := [(2, 39), (2, 39)]) rfl ?_
  refine wp_gf (pc' := 16) (t := 0) (v := (M a1 5)) rfl rfl (by decide) rfl rfl (z_upi (by decide) (z_upi (by decide) z_ups)) ?_
  refine wp_run 2 (pc' := 18) (ls' := [(2, 38), (2, a1), (0, a2), (0, a3), (3, 0), (3, 0), (3, 0)]) (st' := [(0, (z_or (M a1 5) a3)), (2, 39)]) rfl ?_
  refine wp_pf (pc' := 21) rfl rfl rfl rfl (fun z => absurd z (by decide)) (fun z => absurd z (by decide)) ?_
  refine wp_run 2 (pc' := 24) (ls' := [(2, 38), (2, a1), (0, a2), (0, a3), (0, 0), (3, 0), (3, 0)]) (st' := []) rfl ?_
  exact l1
set_option maxRecDepth 20000 in
theorem gX0_mixEnough_24 {xs : List Int} {d : Nat} {M : z_M} {P : Option z_V → z_L → z_M → Prop} {x1 : Int} {x2 : Int} {x3 : Int} {x4 : Int} (hF : z_fix M) (hx1 : z_her M x1)
    (b1 : (25 ≤ x4) → ((M 38 5) ≤ (M 38 4)) → 0 ≤ (z_w ((z_w ((M 38 5) * 6)) + (M 38 4))) ∧ (z_w ((z_w ((M 38 5) * 6)) + (M 38 4))) < 36)
    (l1 : (25 ≤ x4) → ((M 38 5) ≤ (M 38 4)) → wp xs (d + 2) mX0_mixEnough 91 [(2, 38), (2, x1), (0, x2), (0, x3), (0, (z_w ((M (x1 + 5) (z_w ((z_w ((M 38 5) * 6)) + (M 38 4)))) + (M 38 6)))), (0, (M 38 7)), (3, 0)] [] z_LL (z_up M 34 4 0) P)
    (b2 : (25 ≤ x4) → (¬ ((M 38 5) ≤ (M 38 4))) → 0 ≤ (z_w ((z_w ((M 38 4) * 6)) + (M 38 5))) ∧ (z_w ((z_w ((M 38 4) * 6)) + (M 38 5))) < 36)
    (l2 : (25 ≤ x4) → (¬ ((M 38 5) ≤ (M 38 4))) → wp xs (d + 2) mX0_mixEnough 91 [(2, 38), (2, x1), (0, x2), (0, x3), (0, (z_w ((M (x1 + 5) (z_w ((z_w ((M 38 4) * 6)) + (M 38 5)))) + (M 38 6)))), (0, (M 38 7)), (3, 0)] [] z_LL (z_up M 34 4 0) P)
    (l3 : (¬ (25 ≤ x4)) → ((z_and (z_shr x2 x4) 1) = 0) → wp xs (d + 2) mX0_mixEnough 24 [(2, 38), (2, x1), (0, x2), (0, x3), (0, (z_w (x4 + 1))), (3, 0), (3, 0)] [] z_LL M P)
    (b3 : (¬ (25 ≤ x4)) → (¬ ((z_and (z_shr x2 x4) 1) = 0)) → 0 ≤ x4 ∧ x4 < 25)
    (l4 : (¬ (25 ≤ x4)) → (¬ ((z_and (z_shr x2 x4) 1) = 0)) → wp xs (d + 2) mX0_mixEnough 24 [(2, 38), (2, x1), (0, x2), (0, x3), (0, (z_w (x4 + 1))), (3, 0), (3, 0)] [] z_LL (z_up M 43 x4 9) P) :
    wp xs (d + 2) mX0_mixEnough 24 [(2, 38), (2, x1), (0, x2), (0, x3), (0, x4), (3, 0), (3, 0)] [] z_LL M P := by
  refine wp_run 2 (pc' := 28) (ls' := [(2, 38), (2, x1), (0, x2), (0, x3), (0, x4), (3, 0), (3, 0)]) (st' := [(0, 25), (0, x4)]) rfl ?_
  refine wp_if2 rfl rfl rfl (fun (c1 : 25 ≤ x4) => ?_) (fun (c1 : ¬ (25 ≤ x4)) => ?_)
  · refine wp_run 1 (pc' := 59) (ls' := [(2, 38), (2, x1), (0, x2), (0, x3), (0, x4), (3, 0), (3, 0)]) (st' := [(2, 38)]) rfl ?_
    refine wp_gf (pc' := 62) (t := 2) (v := 34) rfl rfl (by decide) rfl rfl (fx_38_0 hF) ?_
    refine wp_run 1 (pc' := 63) (ls' := [(2, 38), (2, x1), (0, x2), (0, x3), (0, x4), (3, 0), (3, 0)]) (st' := [(0, 0), (2, 34)]) rfl ?_
    refine wp_pf (pc' := 66) rfl rfl rfl rfl (fun z => absurd z (by decide)) (fun z => absurd z (by decide)) ?_
    refine wp_run 2 (pc' := 68) (ls' := [(2, 38), (2, x1), (0, x2), (0, x3), (0, x4), (3, 0), (3, 0)]) (st' := [(2, 38), (2, x1)]) rfl ?_
    refine wp_gf (pc' := 71) (t := 0) (v := (M 38 4)) rfl rfl (by decide) rfl rfl (z_upq (by decide) rfl) ?_
    refine wp_run 1 (pc' := 72) (ls' := [(2, 38), (2, x1), (0, x2), (0, x3), (0, x4), (3, 0), (3, 0)]) (st' := [(2, 38), (0, (M 38 4)), (2, x1)]) rfl ?_
    refine wp_gf (pc' := 75) (t := 0) (v := (M 38 5)) rfl rfl (by decide) rfl rfl (z_upq (by decide) rfl) ?_
    refine wp_callv (pc' := 78) (as := [(2, x1), (0, (M 38 4)), (0, (M 38 5))]) (rest := []) (ls1 := [(2, x1), (0, (M 38 4)), (0, (M 38 5))]) rfl rfl rfl rfl (z_args_v rfl rfl rfl rfl (Nat.le_of_ble_eq_true rfl) rfl (by decide) (z_hl0 hx1)) rfl ?_
    refine wp_run 1 (pc' := 1) (ls' := [(2, x1), (0, (M 38 4)), (0, (M 38 5))]) (st' := [(2, x1)]) rfl ?_
    refine wp_gf (pc' := 4) (t := 2) (v := (x1 + 5)) rfl rfl (by decide) rfl (z_hl0 hx1) (z_upq (by have := z_hr hx1; omega) (z_hf4 hx1)) ?_
    refine wp_run 2 (pc' := 6) (ls' := [(2, x1), (0, (M 38 4)), (0, (M 38 5))]) (st' := [(0, (M 38 5)), (0, (M 38 4)), (2, (x1 + 5))]) rfl ?_
    refine wp_callv (pc' := 9) (as := [(0, (M 38 4)), (0, (M 38 5))]) (rest := [(2, (x1 + 5))]) (ls1 := [(0, (M 38 4)), (0, (M 38 5))]) rfl rfl rfl rfl rfl rfl ?_
    refine wp_run 2 (pc' := 2) (ls' := [(0, (M 38 4)), (0, (M 38 5))]) (st' := [(0, (M 38 5)), (0, (M 38 4))]) rfl ?_
    refine wp_if2 rfl rfl rfl (fun (c2 : (M 38 5) ≤ (M 38 4)) => ?_) (fun (c2 : ¬ ((M 38 5) ≤ (M 38 4))) => ?_)
    · refine wp_run 5 (pc' := 20) (ls' := [(0, (M 38 4)), (0, (M 38 5))]) (st' := [(0, (z_w ((z_w ((M 38 5) * 6)) + (M 38 4))))]) rfl ?_
      refine wp_ret rfl rfl ?_
      show wp xs _ mX2_mixedOf 9 [(2, x1), (0, (M 38 4)), (0, (M 38 5))] [(0, (z_w ((z_w ((M 38 5) * 6)) + (M 38 4)))), (2, (x1 + 5))] z_LL (z_up M 34 4 0) _
      refine wp_iald (pc' := 10) (v := (M (x1 + 5) (z_w ((z_w ((M 38 5) * 6)) + (M 38 4))))) rfl rfl (z_hl5 hx1) (b1 c1 c2) (z_upq (by have := z_hr hx1; omega) rfl) ?_
      refine wp_ret rfl rfl ?_
      show wp xs _ mX0_mixEnough 78 [(2, 38), (2, x1), (0, x2), (0, x3), (0, x4), (3, 0), (3, 0)] [(0, (M (x1 + 5) (z_w ((z_w ((M 38 5) * 6)) + (M 38 4)))))] z_LL (z_up M 34 4 0) _
      refine wp_run 1 (pc' := 79) (ls' := [(2, 38), (2, x1), (0, x2), (0, x3), (0, x4), (3, 0), (3, 0)]) (st' := [(2, 38), (0, (M (x1 + 5) (z_w ((z_w ((M 38 5) * 6)) + (M 38 4)))))]) rfl ?_
      refine wp_gf (pc' := 82) (t := 0) (v := (M 38 6)) rfl rfl (by decide) rfl rfl (z_upq (by decide) rfl) ?_
      refine wp_run 3 (pc' := 86) (ls' := [(2, 38), (2, x1), (0, x2), (0, x3), (0, (z_w ((M (x1 + 5) (z_w ((z_w ((M 38 5) * 6)) + (M 38 4)))) + (M 38 6)))), (3, 0), (3, 0)]) (st' := [(2, 38)]) rfl ?_
      refine wp_gf (pc' := 89) (t := 0) (v := (M 38 7)) rfl rfl (by decide) rfl rfl (z_upq (by decide) rfl) ?_
      refine wp_run 1 (pc' := 91) (ls' := [(2, 38), (2, x1), (0, x2), (0, x3), (0, (z_w ((M (x1 + 5) (z_w ((z_w ((M 38 5) * 6)) + (M 38 4)))) + (M 38 6)))), (0, (M 38 7)), (3, 0)]) (st' := []) rfl ?_
      exact l1 c1 c2
    · refine wp_run 6 (pc' := 20) (ls' := [(0, (M 38 4)), (0, (M 38 5))]) (st' := [(0, (z_w ((z_w ((M 38 4) * 6)) + (M 38 5))))]) rfl ?_
      refine wp_ret rfl rfl ?_
      show wp xs _ mX2_mixedOf 9 [(2, x1), (0, (M 38 4)), (0, (M 38 5))] [(0, (z_w ((z_w ((M 38 4) * 6)) + (M 38 5)))), (2, (x1 + 5))] z_LL (z_up M 34 4 0) _
      refine wp_iald (pc' := 10) (v := (M (x1 + 5) (z_w ((z_w ((M 38 4) * 6)) + (M 38 5))))) rfl rfl (z_hl5 hx1) (b2 c1 c2) (z_upq (by have := z_hr hx1; omega) rfl) ?_
      refine wp_ret rfl rfl ?_
      show wp xs _ mX0_mixEnough 78 [(2, 38), (2, x1), (0, x2), (0, x3), (0, x4), (3, 0), (3, 0)] [(0, (M (x1 + 5) (z_w ((z_w ((M 38 4) * 6)) + (M 38 5)))))] z_LL (z_up M 34 4 0) _
      refine wp_run 1 (pc' := 79) (ls' := [(2, 38), (2, x1), (0, x2), (0, x3), (0, x4), (3, 0), (3, 0)]) (st' := [(2, 38), (0, (M (x1 + 5) (z_w ((z_w ((M 38 4) * 6)) + (M 38 5)))))]) rfl ?_
      refine wp_gf (pc' := 82) (t := 0) (v := (M 38 6)) rfl rfl (by decide) rfl rfl (z_upq (by decide) rfl) ?_
      refine wp_run 3 (pc' := 86) (ls' := [(2, 38), (2, x1), (0, x2), (0, x3), (0, (z_w ((M (x1 + 5) (z_w ((z_w ((M 38 4) * 6)) + (M 38 5)))) + (M 38 6)))), (3, 0), (3, 0)]) (st' := [(2, 38)]) rfl ?_
      refine wp_gf (pc' := 89) (t := 0) (v := (M 38 7)) rfl rfl (by decide) rfl rfl (z_upq (by decide) rfl) ?_
      refine wp_run 1 (pc' := 91) (ls' := [(2, 38), (2, x1), (0, x2), (0, x3), (0, (z_w ((M (x1 + 5) (z_w ((z_w ((M 38 4) * 6)) + (M 38 5)))) + (M 38 6)))), (0, (M 38 7)), (3, 0)]) (st' := []) rfl ?_
      exact l2 c1 c2
  · refine wp_run 5 (pc' := 37) (ls' := [(2, 38), (2, x1), (0, x2), (0, x3), (0, x4), (3, 0), (3, 0)]) (st' := [(0, (z_and (z_shr x2 x4) 1))]) rfl ?_
    refine wp_if1 rfl rfl rfl (fun (c3 : (z_and (z_shr x2 x4) 1) = 0) => ?_) (fun (c3 : ¬ ((z_and (z_shr x2 x4) 1) = 0)) => ?_)
    · refine wp_run 2 (pc' := 24) (ls' := [(2, 38), (2, x1), (0, x2), (0, x3), (0, (z_w (x4 + 1))), (3, 0), (3, 0)]) (st' := []) rfl ?_
      exact l3 c1 c3
    · refine wp_run 1 (pc' := 41) (ls' := [(2, 38), (2, x1), (0, x2), (0, x3), (0, x4), (3, 0), (3, 0)]) (st' := [(2, 38)]) rfl ?_
      refine wp_gf (pc' := 44) (t := 2) (v := 39) rfl rfl (by decide) rfl rfl (fx_38_1 hF) ?_
      refine wp_gf (pc' := 47) (t := 2) (v := 43) rfl rfl (by decide) rfl rfl (fx_39_3 hF) ?_
      refine wp_run 2 (pc' := 51) (ls' := [(2, 38), (2, x1), (0, x2), (0, x3), (0, x4), (3, 0), (3, 0)]) (st' := [(0, 9), (0, x4), (2, 43)]) rfl ?_
      refine wp_iast (pc' := 52) rfl rfl rfl (b3 c1 c3) ?_
      refine wp_run 2 (pc' := 24) (ls' := [(2, 38), (2, x1), (0, x2), (0, x3), (0, (z_w (x4 + 1))), (3, 0), (3, 0)]) (st' := []) rfl ?_
      exact l4 c1 c3
set_option maxRecDepth 20000 in
theorem gX0_mixEnough_91 {xs : List Int} {d : Nat} {M : z_M} {P : Option z_V → z_L → z_M → Prop} {x1 : Int} {x2 : Int} {x3 : Int} {x4 : Int} {x5 : Int} {w6 : z_V} (hF : z_fix M) (hx1 : z_her M x1) (hg2 : z_gor M (M 34 3))
    (l1 : (x5 < 0) → P (some (0, 0)) z_LL M)
    (b1 : (¬ (x5 < 0)) → ((M 38 5) ≤ (M 38 4)) → 0 ≤ (z_w ((z_w ((M 38 5) * 6)) + (M 38 4))) ∧ (z_w ((z_w ((M 38 5) * 6)) + (M 38 4))) < 36)
    (l2 : (¬ (x5 < 0)) → ((M 38 5) ≤ (M 38 4)) → ((z_w (x4 - (M 44 (z_w ((z_w ((M 38 5) * 6)) + (M 38 4)))))) ≤ 0) → (0 < (z_w (x4 - (M 44 (z_w ((z_w ((M 38 5) * 6)) + (M 38 4))))))) → P (some (0, 0)) z_LL M)
    (l3 : (¬ (x5 < 0)) → ((M 38 5) ≤ (M 38 4)) → ((z_w (x4 - (M 44 (z_w ((z_w ((M 38 5) * 6)) + (M 38 4)))))) ≤ 0) → (¬ (0 < (z_w (x4 - (M 44 (z_w ((z_w ((M 38 5) * 6)) + (M 38 4)))))))) → P (some (0, 1)) z_LL M)
    (l4 : (¬ (x5 < 0)) → ((M 38 5) ≤ (M 38 4)) → (¬ ((z_w (x4 - (M 44 (z_w ((z_w ((M 38 5) * 6)) + (M 38 4)))))) ≤ 0)) → ((z_w (x4 - (M 44 (z_w ((z_w ((M 38 5) * 6)) + (M 38 4)))))) ≤ x5) → wp xs (d + 1) mX8_pass 0 [(2, 34), (2, 39), (0, (M (M 34 3) 18)), (3, 0)] [] z_LL M (fun r L1 M1 => wp xs (d + 2) mX0_mixEnough 160 [(2, 38), (2, x1), (0, x2), (0, x3), (0, x4), (0, x5), (0, (z_w (x4 - (M 44 (z_w ((z_w ((M 38 5) * 6)) + (M 38 4)))))))] (z_ol r ++ []) L1 M1 P))
    (l5 : (¬ (x5 < 0)) → ((M 38 5) ≤ (M 38 4)) → (¬ ((z_w (x4 - (M 44 (z_w ((z_w ((M 38 5) * 6)) + (M 38 4)))))) ≤ 0)) → (¬ ((z_w (x4 - (M 44 (z_w ((z_w ((M 38 5) * 6)) + (M 38 4)))))) ≤ x5)) → (0 < (z_w (x4 - (M 44 (z_w ((z_w ((M 38 5) * 6)) + (M 38 4))))))) → P (some (0, 0)) z_LL M)
    (l6 : (¬ (x5 < 0)) → ((M 38 5) ≤ (M 38 4)) → (¬ ((z_w (x4 - (M 44 (z_w ((z_w ((M 38 5) * 6)) + (M 38 4)))))) ≤ 0)) → (¬ ((z_w (x4 - (M 44 (z_w ((z_w ((M 38 5) * 6)) + (M 38 4)))))) ≤ x5)) → (¬ (0 < (z_w (x4 - (M 44 (z_w ((z_w ((M 38 5) * 6)) + (M 38 4)))))))) → P (some (0, 1)) z_LL M)
    (b2 : (¬ (x5 < 0)) → (¬ ((M 38 5) ≤ (M 38 4))) → 0 ≤ (z_w ((z_w ((M 38 4) * 6)) + (M 38 5))) ∧ (z_w ((z_w ((M 38 4) * 6)) + (M 38 5))) < 36)
    (l7 : (¬ (x5 < 0)) → (¬ ((M 38 5) ≤ (M 38 4))) → ((z_w (x4 - (M 44 (z_w ((z_w ((M 38 4) * 6)) + (M 38 5)))))) ≤ 0) → (0 < (z_w (x4 - (M 44 (z_w ((z_w ((M 38 4) * 6)) + (M 38 5))))))) → P (some (0, 0)) z_LL M)
    (l8 : (¬ (x5 < 0)) → (¬ ((M 38 5) ≤ (M 38 4))) → ((z_w (x4 - (M 44 (z_w ((z_w ((M 38 4) * 6)) + (M 38 5)))))) ≤ 0) → (¬ (0 < (z_w (x4 - (M 44 (z_w ((z_w ((M 38 4) * 6)) + (M 38 5)))))))) → P (some (0, 1)) z_LL M)
    (l9 : (¬ (x5 < 0)) → (¬ ((M 38 5) ≤ (M 38 4))) → (¬ ((z_w (x4 - (M 44 (z_w ((z_w ((M 38 4) * 6)) + (M 38 5)))))) ≤ 0)) → ((z_w (x4 - (M 44 (z_w ((z_w ((M 38 4) * 6)) + (M 38 5)))))) ≤ x5) → wp xs (d + 1) mX8_pass 0 [(2, 34), (2, 39), (0, (M (M 34 3) 18)), (3, 0)] [] z_LL M (fun r L1 M1 => wp xs (d + 2) mX0_mixEnough 160 [(2, 38), (2, x1), (0, x2), (0, x3), (0, x4), (0, x5), (0, (z_w (x4 - (M 44 (z_w ((z_w ((M 38 4) * 6)) + (M 38 5)))))))] (z_ol r ++ []) L1 M1 P))
    (l10 : (¬ (x5 < 0)) → (¬ ((M 38 5) ≤ (M 38 4))) → (¬ ((z_w (x4 - (M 44 (z_w ((z_w ((M 38 4) * 6)) + (M 38 5)))))) ≤ 0)) → (¬ ((z_w (x4 - (M 44 (z_w ((z_w ((M 38 4) * 6)) + (M 38 5)))))) ≤ x5)) → (0 < (z_w (x4 - (M 44 (z_w ((z_w ((M 38 4) * 6)) + (M 38 5))))))) → P (some (0, 0)) z_LL M)
    (l11 : (¬ (x5 < 0)) → (¬ ((M 38 5) ≤ (M 38 4))) → (¬ ((z_w (x4 - (M 44 (z_w ((z_w ((M 38 4) * 6)) + (M 38 5)))))) ≤ 0)) → (¬ ((z_w (x4 - (M 44 (z_w ((z_w ((M 38 4) * 6)) + (M 38 5)))))) ≤ x5)) → (¬ (0 < (z_w (x4 - (M 44 (z_w ((z_w ((M 38 4) * 6)) + (M 38 5)))))))) → P (some (0, 1)) z_LL M) :
    wp xs (d + 2) mX0_mixEnough 91 [(2, 38), (2, x1), (0, x2), (0, x3), (0, x4), (0, x5), w6] [] z_LL M P := by
  refine wp_run 1 (pc' := 93) (ls' := [(2, 38), (2, x1), (0, x2), (0, x3), (0, x4), (0, x5), w6]) (st' := [(0, x5)]) rfl ?_
  refine wp_if1 rfl rfl rfl (fun (c1 : x5 < 0) => ?_) (fun (c1 : ¬ (x5 < 0)) => ?_)
  · refine wp_run 1 (pc' := 168) (ls' := [(2, 38), (2, x1), (0, x2), (0, x3), (0, x4), (0, x5), w6]) (st' := [(0, 0)]) rfl ?_
    exact wp_ret rfl rfl (l1 c1)
  · refine wp_run 2 (pc' := 99) (ls' := [(2, 38), (2, x1), (0, x2), (0, x3), (0, x4), (0, x5), w6]) (st' := [(2, 38), (0, x4)]) rfl ?_
    refine wp_gf (pc' := 102) (t := 2) (v := 39) rfl rfl (by decide) rfl rfl (fx_38_1 hF) ?_
    refine wp_run 1 (pc' := 103) (ls' := [(2, 38), (2, x1), (0, x2), (0, x3), (0, x4), (0, x5), w6]) (st' := [(2, 38), (2, 39), (0, x4)]) rfl ?_
    refine wp_gf (pc' := 106) (t := 0) (v := (M 38 4)) rfl rfl (by decide) rfl rfl rfl ?_
    refine wp_run 1 (pc' := 107) (ls' := [(2, 38), (2, x1), (0, x2), (0, x3), (0, x4), (0, x5), w6]) (st' := [(2, 38), (0, (M 38 4)), (2, 39), (0, x4)]) rfl ?_
    refine wp_gf (pc' := 110) (t := 0) (v := (M 38 5)) rfl rfl (by decide) rfl rfl rfl ?_
    refine wp_callv (pc' := 113) (as := [(2, 39), (0, (M 38 4)), (0, (M 38 5))]) (rest := [(0, x4)]) (ls1 := [(2, 39), (0, (M 38 4)), (0, (M 38 5))]) rfl rfl rfl rfl rfl rfl ?_
    refine wp_run 1 (pc' := 1) (ls' := [(2, 39), (0, (M 38 4)), (0, (M 38 5))]) (st' := [(2, 39)]) rfl ?_
    refine wp_gf (pc' := 4) (t := 2) (v := 44) rfl rfl (by decide) rfl rfl (fx_39_4 hF) ?_
    refine wp_run 2 (pc' := 6) (ls' := [(2, 39), (0, (M 38 4)), (0, (M 38 5))]) (st' := [(0, (M 38 5)), (0, (M 38 4)), (2, 44)]) rfl ?_
    refine wp_callv (pc' := 9) (as := [(0, (M 38 4)), (0, (M 38 5))]) (rest := [(2, 44)]) (ls1 := [(0, (M 38 4)), (0, (M 38 5))]) rfl rfl rfl rfl rfl rfl ?_
    refine wp_run 2 (pc' := 2) (ls' := [(0, (M 38 4)), (0, (M 38 5))]) (st' := [(0, (M 38 5)), (0, (M 38 4))]) rfl ?_
    refine wp_if2 rfl rfl rfl (fun (c2 : (M 38 5) ≤ (M 38 4)) => ?_) (fun (c2 : ¬ ((M 38 5) ≤ (M 38 4))) => ?_)
    · refine wp_run 5 (pc' := 20) (ls' := [(0, (M 38 4)), (0, (M 38 5))]) (st' := [(0, (z_w ((z_w ((M 38 5) * 6)) + (M 38 4))))]) rfl ?_
      refine wp_ret rfl rfl ?_
      show wp xs _ mX2_mixedOf 9 [(2, 39), (0, (M 38 4)), (0, (M 38 5))] [(0, (z_w ((z_w ((M 38 5) * 6)) + (M 38 4)))), (2, 44)] z_LL M _
      refine wp_iald (pc' := 10) (v := (M 44 (z_w ((z_w ((M 38 5) * 6)) + (M 38 4))))) rfl rfl rfl (b1 c1 c2) rfl ?_
      refine wp_ret rfl rfl ?_
      show wp xs _ mX0_mixEnough 113 [(2, 38), (2, x1), (0, x2), (0, x3), (0, x4), (0, x5), w6] [(0, (M 44 (z_w ((z_w ((M 38 5) * 6)) + (M 38 4))))), (0, x4)] z_LL M _
      refine wp_run 3 (pc' := 118) (ls' := [(2, 38), (2, x1), (0, x2), (0, x3), (0, x4), (0, x5), (0, (z_w (x4 - (M 44 (z_w ((z_w ((M 38 5) * 6)) + (M 38 4)))))))]) (st' := [(0, (z_w (x4 - (M 44 (z_w ((z_w ((M 38 5) * 6)) + (M 38 4)))))))]) rfl ?_
      refine wp_if1 rfl rfl rfl (fun (c3 : (z_w (x4 - (M 44 (z_w ((z_w ((M 38 5) * 6)) + (M 38 4)))))) ≤ 0) => ?_) (fun (c3 : ¬ ((z_w (x4 - (M 44 (z_w ((z_w ((M 38 5) * 6)) + (M 38 4)))))) ≤ 0)) => ?_)
      · refine wp_run 1 (pc' := 130) (ls' := [(2, 38), (2, x1), (0, x2), (0, x3), (0, x4), (0, x5), (0, (z_w (x4 - (M 44 (z_w ((z_w ((M 38 5) * 6)) + (M 38 4)))))))]) (st' := [(0, (z_w (x4 - (M 44 (z_w ((z_w ((M 38 5) * 6)) + (M 38 4)))))))]) rfl ?_
        refine wp_if1 rfl rfl rfl (fun (c4 : 0 < (z_w (x4 - (M 44 (z_w ((z_w ((M 38 5) * 6)) + (M 38 4))))))) => ?_) (fun (c4 : ¬ (0 < (z_w (x4 - (M 44 (z_w ((z_w ((M 38 5) * 6)) + (M 38 4)))))))) => ?_)
        · refine wp_run 1 (pc' := 138) (ls' := [(2, 38), (2, x1), (0, x2), (0, x3), (0, x4), (0, x5), (0, (z_w (x4 - (M 44 (z_w ((z_w ((M 38 5) * 6)) + (M 38 4)))))))]) (st' := [(0, 0)]) rfl ?_
          exact wp_ret rfl rfl (l2 c1 c2 c3 c4)
        · refine wp_run 2 (pc' := 138) (ls' := [(2, 38), (2, x1), (0, x2), (0, x3), (0, x4), (0, x5), (0, (z_w (x4 - (M 44 (z_w ((z_w ((M 38 5) * 6)) + (M 38 4)))))))]) (st' := [(0, 1)]) rfl ?_
          exact wp_ret rfl rfl (l3 c1 c2 c3 c4)
      · refine wp_run 2 (pc' := 125) (ls' := [(2, 38), (2, x1), (0, x2), (0, x3), (0, x4), (0, x5), (0, (z_w (x4 - (M 44 (z_w ((z_w ((M 38 5) * 6)) + (M 38 4)))))))]) (st' := [(0, x5), (0, (z_w (x4 - (M 44 (z_w ((z_w ((M 38 5) * 6)) + (M 38 4)))))))]) rfl ?_
        refine wp_if2 rfl rfl rfl (fun (c5 : (z_w (x4 - (M 44 (z_w ((z_w ((M 38 5) * 6)) + (M 38 4)))))) ≤ x5) => ?_) (fun (c5 : ¬ ((z_w (x4 - (M 44 (z_w ((z_w ((M 38 5) * 6)) + (M 38 4)))))) ≤ x5)) => ?_)
        · refine wp_run 1 (pc' := 140) (ls' := [(2, 38), (2, x1), (0, x2), (0, x3), (0, x4), (0, x5), (0, (z_w (x4 - (M 44 (z_w ((z_w ((M 38 5) * 6)) + (M 38 4)))))))]) (st' := [(2, 38)]) rfl ?_
          refine wp_gf (pc' := 143) (t := 2) (v := 34) rfl rfl (by decide) rfl rfl (fx_38_0 hF) ?_
          refine wp_run 1 (pc' := 144) (ls' := [(2, 38), (2, x1), (0, x2), (0, x3), (0, x4), (0, x5), (0, (z_w (x4 - (M 44 (z_w ((z_w ((M 38 5) * 6)) + (M 38 4)))))))]) (st' := [(2, 38), (2, 34)]) rfl ?_
          refine wp_gf (pc' := 147) (t := 2) (v := 39) rfl rfl (by decide) rfl rfl (fx_38_1 hF) ?_
          refine wp_run 1 (pc' := 148) (ls' := [(2, 38), (2, x1), (0, x2), (0, x3), (0, x4), (0, x5), (0, (z_w (x4 - (M 44 (z_w ((z_w ((M 38 5) * 6)) + (M 38 4)))))))]) (st' := [(2, 38), (2, 39), (2, 34)]) rfl ?_
          refine wp_gf (pc' := 151) (t := 2) (v := 34) rfl rfl (by decide) rfl rfl (fx_38_0 hF) ?_
          refine wp_gf (pc' := 154) (t := 2) (v := (M 34 3)) rfl rfl (by decide) rfl rfl rfl ?_
          refine wp_gf (pc' := 157) (t := 0) (v := (M (M 34 3) 18)) rfl rfl (by decide) rfl (z_gl0 hg2) rfl ?_
          refine wp_callv (pc' := 160) (as := [(2, 34), (2, 39), (0, (M (M 34 3) 18))]) (rest := []) (ls1 := [(2, 34), (2, 39), (0, (M (M 34 3) 18)), (3, 0)]) rfl rfl rfl rfl rfl rfl ?_
          exact l4 c1 c2 c3 c5
        · refine wp_run 1 (pc' := 130) (ls' := [(2, 38), (2, x1), (0, x2), (0, x3), (0, x4), (0, x5), (0, (z_w (x4 - (M 44 (z_w ((z_w ((M 38 5) * 6)) + (M 38 4)))))))]) (st' := [(0, (z_w (x4 - (M 44 (z_w ((z_w ((M 38 5) * 6)) + (M 38 4)))))))]) rfl ?_
          refine wp_if1 rfl rfl rfl (fun (c6 : 0 < (z_w (x4 - (M 44 (z_w ((z_w ((M 38 5) * 6)) + (M 38 4))))))) => ?_) (fun (c6 : ¬ (0 < (z_w (x4 - (M 44 (z_w ((z_w ((M 38 5) * 6)) + (M 38 4)))))))) => ?_)
          · refine wp_run 1 (pc' := 138) (ls' := [(2, 38), (2, x1), (0, x2), (0, x3), (0, x4), (0, x5), (0, (z_w (x4 - (M 44 (z_w ((z_w ((M 38 5) * 6)) + (M 38 4)))))))]) (st' := [(0, 0)]) rfl ?_
            exact wp_ret rfl rfl (l5 c1 c2 c3 c5 c6)
          · refine wp_run 2 (pc' := 138) (ls' := [(2, 38), (2, x1), (0, x2), (0, x3), (0, x4), (0, x5), (0, (z_w (x4 - (M 44 (z_w ((z_w ((M 38 5) * 6)) + (M 38 4)))))))]) (st' := [(0, 1)]) rfl ?_
            exact wp_ret rfl rfl (l6 c1 c2 c3 c5 c6)
    · refine wp_run 6 (pc' := 20) (ls' := [(0, (M 38 4)), (0, (M 38 5))]) (st' := [(0, (z_w ((z_w ((M 38 4) * 6)) + (M 38 5))))]) rfl ?_
      refine wp_ret rfl rfl ?_
      show wp xs _ mX2_mixedOf 9 [(2, 39), (0, (M 38 4)), (0, (M 38 5))] [(0, (z_w ((z_w ((M 38 4) * 6)) + (M 38 5)))), (2, 44)] z_LL M _
      refine wp_iald (pc' := 10) (v := (M 44 (z_w ((z_w ((M 38 4) * 6)) + (M 38 5))))) rfl rfl rfl (b2 c1 c2) rfl ?_
      refine wp_ret rfl rfl ?_
      show wp xs _ mX0_mixEnough 113 [(2, 38), (2, x1), (0, x2), (0, x3), (0, x4), (0, x5), w6] [(0, (M 44 (z_w ((z_w ((M 38 4) * 6)) + (M 38 5))))), (0, x4)] z_LL M _
      refine wp_run 3 (pc' := 118) (ls' := [(2, 38), (2, x1), (0, x2), (0, x3), (0, x4), (0, x5), (0, (z_w (x4 - (M 44 (z_w ((z_w ((M 38 4) * 6)) + (M 38 5)))))))]) (st' := [(0, (z_w (x4 - (M 44 (z_w ((z_w ((M 38 4) * 6)) + (M 38 5)))))))]) rfl ?_
      refine wp_if1 rfl rfl rfl (fun (c7 : (z_w (x4 - (M 44 (z_w ((z_w ((M 38 4) * 6)) + (M 38 5)))))) ≤ 0) => ?_) (fun (c7 : ¬ ((z_w (x4 - (M 44 (z_w ((z_w ((M 38 4) * 6)) + (M 38 5)))))) ≤ 0)) => ?_)
      · refine wp_run 1 (pc' := 130) (ls' := [(2, 38), (2, x1), (0, x2), (0, x3), (0, x4), (0, x5), (0, (z_w (x4 - (M 44 (z_w ((z_w ((M 38 4) * 6)) + (M 38 5)))))))]) (st' := [(0, (z_w (x4 - (M 44 (z_w ((z_w ((M 38 4) * 6)) + (M 38 5)))))))]) rfl ?_
        refine wp_if1 rfl rfl rfl (fun (c8 : 0 < (z_w (x4 - (M 44 (z_w ((z_w ((M 38 4) * 6)) + (M 38 5))))))) => ?_) (fun (c8 : ¬ (0 < (z_w (x4 - (M 44 (z_w ((z_w ((M 38 4) * 6)) + (M 38 5)))))))) => ?_)
        · refine wp_run 1 (pc' := 138) (ls' := [(2, 38), (2, x1), (0, x2), (0, x3), (0, x4), (0, x5), (0, (z_w (x4 - (M 44 (z_w ((z_w ((M 38 4) * 6)) + (M 38 5)))))))]) (st' := [(0, 0)]) rfl ?_
          exact wp_ret rfl rfl (l7 c1 c2 c7 c8)
        · refine wp_run 2 (pc' := 138) (ls' := [(2, 38), (2, x1), (0, x2), (0, x3), (0, x4), (0, x5), (0, (z_w (x4 - (M 44 (z_w ((z_w ((M 38 4) * 6)) + (M 38 5)))))))]) (st' := [(0, 1)]) rfl ?_
          exact wp_ret rfl rfl (l8 c1 c2 c7 c8)
      · refine wp_run 2 (pc' := 125) (ls' := [(2, 38), (2, x1), (0, x2), (0, x3), (0, x4), (0, x5), (0, (z_w (x4 - (M 44 (z_w ((z_w ((M 38 4) * 6)) + (M 38 5)))))))]) (st' := [(0, x5), (0, (z_w (x4 - (M 44 (z_w ((z_w ((M 38 4) * 6)) + (M 38 5)))))))]) rfl ?_
        refine wp_if2 rfl rfl rfl (fun (c9 : (z_w (x4 - (M 44 (z_w ((z_w ((M 38 4) * 6)) + (M 38 5)))))) ≤ x5) => ?_) (fun (c9 : ¬ ((z_w (x4 - (M 44 (z_w ((z_w ((M 38 4) * 6)) + (M 38 5)))))) ≤ x5)) => ?_)
        · refine wp_run 1 (pc' := 140) (ls' := [(2, 38), (2, x1), (0, x2), (0, x3), (0, x4), (0, x5), (0, (z_w (x4 - (M 44 (z_w ((z_w ((M 38 4) * 6)) + (M 38 5)))))))]) (st' := [(2, 38)]) rfl ?_
          refine wp_gf (pc' := 143) (t := 2) (v := 34) rfl rfl (by decide) rfl rfl (fx_38_0 hF) ?_
          refine wp_run 1 (pc' := 144) (ls' := [(2, 38), (2, x1), (0, x2), (0, x3), (0, x4), (0, x5), (0, (z_w (x4 - (M 44 (z_w ((z_w ((M 38 4) * 6)) + (M 38 5)))))))]) (st' := [(2, 38), (2, 34)]) rfl ?_
          refine wp_gf (pc' := 147) (t := 2) (v := 39) rfl rfl (by decide) rfl rfl (fx_38_1 hF) ?_
          refine wp_run 1 (pc' := 148) (ls' := [(2, 38), (2, x1), (0, x2), (0, x3), (0, x4), (0, x5), (0, (z_w (x4 - (M 44 (z_w ((z_w ((M 38 4) * 6)) + (M 38 5)))))))]) (st' := [(2, 38), (2, 39), (2, 34)]) rfl ?_
          refine wp_gf (pc' := 151) (t := 2) (v := 34) rfl rfl (by decide) rfl rfl (fx_38_0 hF) ?_
          refine wp_gf (pc' := 154) (t := 2) (v := (M 34 3)) rfl rfl (by decide) rfl rfl rfl ?_
          refine wp_gf (pc' := 157) (t := 0) (v := (M (M 34 3) 18)) rfl rfl (by decide) rfl (z_gl0 hg2) rfl ?_
          refine wp_callv (pc' := 160) (as := [(2, 34), (2, 39), (0, (M (M 34 3) 18))]) (rest := []) (ls1 := [(2, 34), (2, 39), (0, (M (M 34 3) 18)), (3, 0)]) rfl rfl rfl rfl rfl rfl ?_
          exact l9 c1 c2 c7 c9
        · refine wp_run 1 (pc' := 130) (ls' := [(2, 38), (2, x1), (0, x2), (0, x3), (0, x4), (0, x5), (0, (z_w (x4 - (M 44 (z_w ((z_w ((M 38 4) * 6)) + (M 38 5)))))))]) (st' := [(0, (z_w (x4 - (M 44 (z_w ((z_w ((M 38 4) * 6)) + (M 38 5)))))))]) rfl ?_
          refine wp_if1 rfl rfl rfl (fun (c10 : 0 < (z_w (x4 - (M 44 (z_w ((z_w ((M 38 4) * 6)) + (M 38 5))))))) => ?_) (fun (c10 : ¬ (0 < (z_w (x4 - (M 44 (z_w ((z_w ((M 38 4) * 6)) + (M 38 5)))))))) => ?_)
          · refine wp_run 1 (pc' := 138) (ls' := [(2, 38), (2, x1), (0, x2), (0, x3), (0, x4), (0, x5), (0, (z_w (x4 - (M 44 (z_w ((z_w ((M 38 4) * 6)) + (M 38 5)))))))]) (st' := [(0, 0)]) rfl ?_
            exact wp_ret rfl rfl (l10 c1 c2 c7 c9 c10)
          · refine wp_run 2 (pc' := 138) (ls' := [(2, 38), (2, x1), (0, x2), (0, x3), (0, x4), (0, x5), (0, (z_w (x4 - (M 44 (z_w ((z_w ((M 38 4) * 6)) + (M 38 5)))))))]) (st' := [(0, 1)]) rfl ?_
            exact wp_ret rfl rfl (l11 c1 c2 c7 c9 c10)
set_option maxRecDepth 20000 in
theorem gX0_mixEnough_160 {xs : List Int} {d : Nat} {M : z_M} {P : Option z_V → z_L → z_M → Prop} {x1 : Int} {x2 : Int} {x3 : Int} {x4 : Int} {x5 : Int} {x6 : Int} {s0 : Int} (hx1 : z_her M x1)
    (l1 : wp xs d mX0_mixEnough 91 [(2, 38), (2, x1), (0, x2), (0, x3), (0, x4), (0, (z_w (x5 + (-1)))), (0, x6)] [] z_LL M P) :
    wp xs d mX0_mixEnough 160 [(2, 38), (2, x1), (0, x2), (0, x3), (0, x4), (0, x5), (0, x6)] [(0, s0)] z_LL M P := by
  refine wp_run 3 (pc' := 91) (ls' := [(2, 38), (2, x1), (0, x2), (0, x3), (0, x4), (0, (z_w (x5 + (-1)))), (0, x6)]) (st' := []) rfl ?_
  exact l1
section
variable {xs : List Int} {d : Nat} {M : z_M}
theorem z_lkn_q {M' : z_M} (e : M' 321 = M 321) : z_lkn M' = z_lkn M := by
  funext s n c
  unfold z_lkn z_lkf
  rw [e]
theorem s_X0_mixEnough {P : Option z_V → z_L → z_M → Prop} {a b ev x y : Int} {days : Nat} {t0 : Int → Int} (hR : z_R M) (hd : days ≤ 20) (hev : 1 ≤ ev ∧ ev ≤ 9) (e4 : M 38 4 = a) (e5 : M 38 5 = b) (e6 : M 38 6 = ev) (e7 : M 38 7 = days) (ha : 0 ≤ a ∧ a < M 321 48) (hb : 0 ≤ b ∧ b < M 321 48) (hne : a ≠ b) (ht : ∀ k, ¬ (6 ≤ k ∧ k < 12) → t0 k = M 342 k) (hS : z_sn M 999 t0) (hy : z_or (z_pens (M 342) (M 321 48).toNat) y = z_pens t0 (M 321 48).toNat)
    (kk : ∀ (M' : z_M) (J : Nat), z_sc M M' → M' 38 = M 38 → M' 45 = M 45 → J ≤ days → z_exi (M 342 (18 + 6 * a + b) + ev) days (fun j => z_dys M (M 321 52) (z_sls t0 x 25) j (18 + 6 * a + b)) J → (∀ j : Nat, j < J → ¬ z_exi (M 342 (18 + 6 * a + b) + ev) days (fun j => z_dys M (M 321 52) (z_sls t0 x 25) j (18 + 6 * a + b)) j) → (∀ c : Int, 0 ≤ c → c < 25 → (z_bt (M' 34 4) c ↔ ∃ j : Nat, j < J ∧ z_lkn M (z_dys M (M 321 52) (z_sls t0 x 25) j) (M 321 48).toNat c)) → P (some (0, z_b (M 342 (18 + 6 * a + b) + ev ≤ z_dys M (M 321 52) (z_sls t0 x 25) days (18 + 6 * a + b)))) z_LL M') : wp xs (d + 5) mX0_mixEnough 0 [(2, 38), (2, M 1 2), (0, x), (0, y), (3, 0), (3, 0), (3, 0)] [] z_LL M P := by
  have he := (z_R_C hR).2.2.2.1
  have hn := (z_R_C hR).2.2.1
  have h0 := (z_R_S hR).2.2.1 (18 + 6 * a + b) (by omega) (by omega)
  have h04 := (z_R_S hR).2.2.2.1
  have hS25 : z_sn M 999 (z_sls t0 x 25) := z_sn_sls (x := x) (z_R_C hR) hS 25 (by omega)
  have hsn := fun j : Nat => z_dys_sn (ev := M 321 52) (z_R_C hR) hS25 j
  have hmm := fun (n m : Nat) => z_dys_mm (ev := M 321 52) (z_R_C hR) hS25 (k := 18 + 6 * a + b) (by omega) n m
  have hd0 : z_dys M (M 321 52) (z_sls t0 x 25) 0 (18 + 6 * a + b) = M 342 (18 + 6 * a + b) := by
    show z_sls t0 x 25 (18 + 6 * a + b) = _
    rw [z_sls_o (by omega), ht _ (by omega)]
  obtain ⟨J, J1, J2, J3⟩ := z_exi_e (M 342 (18 + 6 * a + b) + ev) days (fun j => z_dys M (M 321 52) (z_sls t0 x 25) j (18 + 6 * a + b))
  have kk := fun M' s e1 e2 l => kk M' J s e1 e2 J1 J2 J3 l
  unfold z_exi at J2 J3
  -- what it comes to
  have fin : ∀ M' : z_M, z_sc M M' → M' 38 = M 38 → M' 45 = M 45 → (∀ c : Int, 0 ≤ c → c < 25 → (z_bt (M' 34 4) c ↔ ∃ j : Nat, j < J ∧ z_lkn M (z_dys M (M 321 52) (z_sls t0 x 25) j) (M 321 48).toNat c)) → P (some (0, z_b (M 342 (18 + 6 * a + b) + ev - z_dys M (M 321 52) (z_sls t0 x 25) J (18 + 6 * a + b) ≤ 0))) z_LL M' := fun M' f1 f2 f3 f4 => by
    have := kk M' f1 f2 f3 f4
    rw [z_b_i (q := M 342 (18 + 6 * a + b) + ev - z_dys M (M 321 52) (z_sls t0 x 25) J (18 + 6 * a + b) ≤ 0)] at this
    · exact this
    · have := hmm J (days - J)
      rw [show J + (days - J) = days by omega] at this
      dsimp only at J2
      omega
  clear kk
  refine gX0_mixEnough_0 (z_R_F hR) (z_R_H hR).1 (z_hk_ish (z_R_k hR)).2 ?_
  have f0 : z_sc M (z_up (z_cph M (M 1 2) 39) 39 5 (z_or (M (M 1 2) 5) y)) := z_sc_t z_cph_sc ⟨fun q hq => z_upn (by unfold z_sq at hq; omega), fun j _ => by rw [z_upn (by decide)], fun j _ _ => ⟨by rw [z_upn (by decide)], by rw [z_upn (by decide)]⟩, fun j _ hj => z_upi (by omega) rfl, fun k _ => by rw [z_upn (by decide)]⟩
  have H0 : z_hrd (z_up (z_cph M (M 1 2) 39) 39 5 (z_or (M (M 1 2) 5) y)) 39 (z_sls t0 x ((0 : Nat) : Int)) := by
    rw [show ((0 : Nat) : Int) = 0 from rfl, z_sls_0]
    have H := z_R_t0 hR
    have e321 : z_cph M (M 1 2) 39 321 = M 321 := z_cph_o (by omega)
    obtain ⟨a1, a2, a3, a4, a5, a6, a7⟩ := H
    unfold z_hrd
    rw [z_upn (q := 321) (by decide), z_upn (q := 39 + 1) (by decide), z_upn (q := 39 + 2) (by decide), z_upn (q := 39 + 3) (by decide), z_upn (q := 39 + 4) (by decide), z_upn (q := 39 + 5) (by decide), e321]
    rw [e321] at a2 a4 a5
    refine ⟨⟨a1.1, fun k h1 h2 => by rw [z_upi (by omega) rfl]; exact a1.2 k h1 h2⟩, fun f h1 h2 => ?_, fun c h1 h2 => ?_, fun u v h1 h2 h3 => ?_, ?_, ?_, ?_⟩
    · rw [ht _ (by omega), ht _ (by omega)]
      exact a2 f h1 h2
    · rw [ht _ (by omega), ht _ (by omega)]
      exact a3 c h1 h2
    · rw [ht _ (by omega), ht _ (by omega)]
      exact a4 u v h1 h2 h3
    · rw [z_ups, (z_R_H hR).2.2.2.2.1]
      exact hy
    · rw [z_upi (by decide) rfl, ht _ (by omega)]
      exact a6
    · rw [z_upi (by decide) rfl, ht _ (by omega)]
      exact a7
  have g38 : z_up (z_cph M (M 1 2) 39) 39 5 (z_or (M (M 1 2) 5) y) 38 = M 38 ∧ z_up (z_cph M (M 1 2) 39) 39 5 (z_or (M (M 1 2) 5) y) 45 = M 45 := ⟨by rw [z_upn (by decide), z_cph_o (by omega)], by rw [z_upn (by decide), z_cph_o (by omega)]⟩
  refine z_loop (W := fun i => ∀ M' : z_M, z_sc M M' → (M' 38 = M 38 ∧ M' 45 = M 45) → z_hrd M' 39 (z_sls t0 x i) → wp xs (d + 5) mX0_mixEnough 24 [(2, 38), (2, M 1 2), (0, x), (0, y), (0, (i : Int)), (3, 0), (3, 0)] [] z_LL M' P) 25 (fun i hi ih M' f e8 H => ?_) _ f0 g38 H0
  have hR' := z_sc_R f hR
  have q1 : M' 1 = M 1 := f.1 1 (by unfold z_sq; omega)
  have e321 := z_sc_c f 321 (by unfold z_conf; omega)
  have hh : z_her M' (M 1 2) := by rw [← q1]; exact (z_R_H hR').1
  have x2 := z_mxd (z_R_C hR') (z_R_H hR') ha.1 (by rw [e321]; exact ha.2) hb.1 (by rw [e321]; exact hb.2) hne
  rw [f.1 342 (by unfold z_sq; omega), q1] at x2
  have g := gX0_mixEnough_24 (M := M') (xs := xs) (d := d + 3) (P := P) (x1 := M 1 2) (x2 := x) (x3 := y) (x4 := (i : Int)) (z_R_F hR') hh
  simp only [e8.1, e4, e5, e6, e7, show b * 6 = 6 * b by omega, show a * 6 = 6 * a by omega, z_wid (x := 6 * a) (by omega), z_wid (x := 6 * b) (by omega), z_wid (x := 6 * a + b) (by omega), z_wid (x := 6 * b + a) (by omega), z_in1 (i := i) (by omega)] at g
  have body : i = 25 → wp xs (d + 5) mX0_mixEnough 91 [(2, 38), (2, M 1 2), (0, x), (0, y), (0, M 342 (18 + 6 * a + b) + ev), (0, (days : Int)), (3, 0)] [] z_LL (z_up M' 34 4 0) P := by
    rintro rfl
    have f2 : z_sc M (z_up M' 34 4 0) := z_sc_t f ⟨fun q hq => z_upn (by unfold z_sq at hq; omega), fun j hj => z_upi hj rfl, fun j _ _ => ⟨by rw [z_upn (by decide)], by rw [z_upn (by decide)]⟩, fun j _ _ => by rw [z_upn (by decide)], fun k _ => by rw [z_upn (by decide)]⟩
    refine z_loop (W := fun j => ∀ (M2 : z_M) (w6 : z_V), z_sc M M2 → (M2 38 = M 38 ∧ M2 45 = M 45) → z_hrd M2 39 (z_dys M (M 321 52) (z_sls t0 x 25) j) → (∀ c : Int, 0 ≤ c → c < 25 → (z_bt (M2 34 4) c ↔ ∃ i : Nat, i < j ∧ z_lkn M (z_dys M (M 321 52) (z_sls t0 x 25) i) (M 321 48).toNat c)) → wp xs (d + 5) mX0_mixEnough 91 [(2, 38), (2, M 1 2), (0, x), (0, y), (0, M 342 (18 + 6 * a + b) + ev), (0, (days : Int) - j), w6] [] z_LL M2 P) J (fun j hj ihj M2 w6 f3 e9 H3 l3 => ?_) (z_up M' 34 4 0) _ f2 ⟨by rw [z_upn (by decide)]; exact e8.1, by rw [z_upn (by decide)]; exact e8.2⟩ (z_hrd_q (fun q hq => z_upn (by omega)) H) (fun c h1 h2 => ?_)
    · have hR2 := z_sc_R f3 hR
      have q2 : M2 1 = M 1 := f3.1 1 (by unfold z_sq; omega)
      have e321 := z_sc_c f3 321 (by unfold z_conf; omega)
      have x1 := z_mxd (z_R_C hR2) H3 ha.1 (by rw [e321]; exact ha.2) hb.1 (by rw [e321]; exact hb.2) hne
      have x1a : b ≤ a → M2 44 (6 * b + a) = z_dys M (M 321 52) (z_sls t0 x 25) j (18 + 6 * a + b) := x1.1
      have x1b : ¬ b ≤ a → M2 44 (6 * a + b) = z_dys M (M 321 52) (z_sls t0 x 25) j (18 + 6 * a + b) := x1.2
      have mj := hmm 0 j
      rw [Nat.zero_add, hd0] at mj
      have g := gX0_mixEnough_91 (M := M2) (xs := xs) (d := d + 3) (P := P) (x1 := M 1 2) (x2 := x) (x3 := y) (x4 := M 342 (18 + 6 * a + b) + ev) (x5 := (days : Int) - j) (w6 := w6) (z_R_F hR2) (by rw [← q2]; exact (z_R_H hR2).1) (z_R_G hR2).1
      simp only [e9.1, e4, e5, (z_R_G hR2).2.1.2.2.2.2.2, e321, show b * 6 = 6 * b by omega, show a * 6 = 6 * a by omega, z_wid (x := 6 * a) (by omega), z_wid (x := 6 * b) (by omega), z_wid (x := 6 * a + b) (by omega), z_wid (x := 6 * b + a) (by omega)] at g
      have Jj := J3 j
      have J2j : ¬ j < J → j = J := fun q => by omega
      have st : z_dys M (M 321 52) (z_sls t0 x 25) (j + 1) = z_day M (M 321 52) (z_dys M (M 321 52) (z_sls t0 x 25) j) := rfl
      have fn : j = J → P (some (0, z_b (M 342 (18 + 6 * a + b) + ev - z_dys M (M 321 52) (z_sls t0 x 25) j (18 + 6 * a + b) ≤ 0))) z_LL M2 := fun q => by
        have := fin M2 f3 e9.1 e9.2 (fun c a b => by rw [← q]; exact l3 c a b)
        rw [q]
        exact this
      have pas : 0 < M 342 (18 + 6 * a + b) + ev - z_dys M (M 321 52) (z_sls t0 x 25) j (18 + 6 * a + b) → M 342 (18 + 6 * a + b) + ev - z_dys M (M 321 52) (z_sls t0 x 25) j (18 + 6 * a + b) ≤ (days : Int) - j → ∀ x6 : Int, wp xs (d + 4) mX8_pass 0 [(2, 34), (2, 39), (0, M 321 52), (3, 0)] [] z_LL M2 (fun r L1 M1 => wp xs (d + 5) mX0_mixEnough 160 [(2, 38), (2, M 1 2), (0, x), (0, y), (0, M 342 (18 + 6 * a + b) + ev), (0, (days : Int) - j), (0, x6)] (z_ol r ++ []) L1 M1 P) := fun w1 w2 x6 => by
        have hlt : j < J := by
          by_cases q : j < J
          · exact q
          · have q2 := J2j q
            rw [← q2] at J2
            dsimp only at J2
            omega
        refine s_trial hR2 H3 (z_sn_x (z_cfe_c (z_sc_c f3)) (hsn j)) (by omega) (by omega) (fun M3 f4 l4 fp H4 => ?_)
        refine gX0_mixEnough_160 (M := M3) (x1 := M 1 2) (by rw [← q2, ← show M3 1 = M2 1 from f4.1 1 (by unfold z_sq; omega)]; exact (z_R_H (z_sc_R f4 hR2)).1) ?_
        rw [z_wid (by omega), show (days : Int) - j + -1 = (days : Int) - ((j + 1 : Nat) : Int) by omega]
        refine ihj hlt M3 _ (z_sc_t f3 f4) ⟨by rw [fp.1 38 (by decide) (by decide) (by decide) (by decide) (by decide)]; exact e9.1, by rw [fp.1 45 (by decide) (by decide) (by decide) (by decide) (by decide)]; exact e9.2⟩ ?_ (fun c h1 h2 => ?_)
        · rw [z_day_q (z_sc_c f3)] at H4
          exact H4
        · rw [l4 c h1 h2, l3 c h1 h2, z_ex_s, z_lkn_q e321, e321]
      by_cases o : b ≤ a
      · rw [x1a o, z_wid (x := M 342 (18 + 6 * a + b) + ev - z_dys M (M 321 52) (z_sls t0 x 25) j (18 + 6 * a + b)) (by omega)] at g
        dsimp only at Jj
        apply g
        case l3 =>
          intro _ _ c1 _
          have q : j = J := J2j (fun q => Jj q (Or.inl c1))
          have := fn q
          rw [z_b_t c1] at this
          exact this
        case l4 => exact fun _ _ c1 c2 => pas (by omega) c2 _
        case l5 =>
          intro _ _ c1 c2 _
          have q : j = J := J2j (fun q => Jj q (Or.inr (by omega)))
          have := fn q
          rw [z_b_f c1] at this
          exact this
        all_goals (intros; omega)
      · rw [x1b o, z_wid (x := M 342 (18 + 6 * a + b) + ev - z_dys M (M 321 52) (z_sls t0 x 25) j (18 + 6 * a + b)) (by omega)] at g
        dsimp only at Jj
        apply g
        case l8 =>
          intro _ _ c1 _
          have q : j = J := J2j (fun q => Jj q (Or.inl c1))
          have := fn q
          rw [z_b_t c1] at this
          exact this
        case l9 => exact fun _ _ c1 c2 => pas (by omega) c2 _
        case l10 =>
          intro _ _ c1 c2 _
          have q : j = J := J2j (fun q => Jj q (Or.inr (by omega)))
          have := fn q
          rw [z_b_f c1] at this
          exact this
        all_goals (intros; omega)
    · rw [z_ups]
      exact ⟨fun q => absurd q (z_bt_0 (by omega)), fun ⟨j, q, _⟩ => absurd q (by omega)⟩
  refine g (fun _ _ => by omega) (fun c c2 => ?_) (fun _ _ => by omega) (fun c c2 => ?_) (fun c c2 => ?_) (fun _ _ => by omega) (fun c c2 => ?_)
  · rw [x2.1 c2, z_wid (by omega)]
    exact body (by omega)
  · rw [x2.2 c2, z_wid (by omega)]
    exact body (by omega)
  · have ih := ih (by omega) M' f e8
    rw [z_sls_n (fun q => q c2)] at ih
    exact ih H
  · have ih := ih (by omega) (z_up M' 43 i 9) (z_sc_t f ⟨fun q hq => z_upn (by unfold z_sq at hq; omega), fun j _ => by rw [z_upn (by decide)], fun j _ _ => ⟨by rw [z_upn (by decide)], by rw [z_upn (by decide)]⟩, fun j _ _ => by rw [z_upn (by decide)], fun k _ => by rw [z_upn (by decide)]⟩) ⟨by rw [z_upn (by decide)]; exact e8.1, by rw [z_upn (by decide)]; exact e8.2⟩
    rw [z_sls_y c2] at ih
    exact ih (z_hrd_salt (by rw [e321]; omega) H (by omega))
end
