/-! the rain -/
noncomputable def z_rap (M : z_M) (s : Int → Int) (m : Int) : Int → Int := fun k => if 54 ≤ k ∧ k < m then min 9 (s k + M 321 51) else s k
theorem z_rap_o {M : z_M} {s : Int → Int} {m k : Int} (h : ¬ (54 ≤ k ∧ k < m)) : z_rap M s m k = s k := by
  unfold z_rap
  rw [if_neg h]
theorem z_rap_y {M : z_M} {s : Int → Int} {m : Int} (h : 54 ≤ m) : z_rap M s (m + 1) = z_pt (z_rap M s m) m (min 9 (s m + M 321 51)) := by
  funext k
  by_cases c : k = m
  · rw [c, z_pt_s]
    unfold z_rap
    rw [if_pos ⟨h, by omega⟩]
  · rw [z_pt_n c]
    unfold z_rap
    by_cases e : 54 ≤ k ∧ k < m
    · rw [if_pos e, if_pos ⟨e.1, by omega⟩]
    · rw [if_neg e, if_neg (fun q => e ⟨q.1, by omega⟩)]
def z_sd (x : Int) : Int := (x * 137 + 71) % 1000
noncomputable def z_rai (M : z_M) (s : Int → Int) : Int → Int :=
  if z_sd (s 105) % 100 < M 321 50 then z_rap M (z_pt s 105 (z_sd (s 105))) (54 + M 321 46 * M 321 47) else z_pt s 105 (z_sd (s 105))
set_option maxRecDepth 20000 in
theorem gX10_rains_0 {xs : List Int} {d : Nat} {M : z_M} {P : Option z_V → z_L → z_M → Prop} (hF : z_fix M) 
    (l1 : ((z_rem (z_rem (z_w ((z_w ((M 343 105) * 137)) + 71)) 1000) 100) < (M 321 50)) → wp xs d mX10_rains 45 [(2, 321), (0, 0)] [] z_LL (z_up M 343 105 (z_rem (z_w ((z_w ((M 343 105) * 137)) + 71)) 1000)) P)
    (l2 : (¬ ((z_rem (z_rem (z_w ((z_w ((M 343 105) * 137)) + 71)) 1000) 100) < (M 321 50))) → P none z_LL (z_up M 343 105 (z_rem (z_w ((z_w ((M 343 105) * 137)) + 71)) 1000))) :
    wp xs d mX10_rains 0 [(2, 321), (3, 0)] [] z_LL M P := by
  refine wp_run 1 (pc' := 1) (ls' := [(2, 321), (3, 0)]) (st' := [(2, 321)]) rfl ?_
  refine wp_gf (pc' := 4) (t := 2) (v := 343) rfl rfl (by decide) rfl rfl (fx_321_61 hF) ?_
  refine wp_run 2 (pc' := 7) (ls' := [(2, 321), (3, 0)]) (st' := [(2, 321), (0, 105), (2, 343)]) rfl ?_
  refine wp_gf (pc' := 10) (t := 2) (v := 343) rfl rfl (by decide) rfl rfl (fx_321_61 hF) ?_
  refine wp_run 1 (pc' := 12) (ls' := [(2, 321), (3, 0)]) (st' := [(0, 105), (2, 343), (0, 105), (2, 343)]) rfl ?_
  refine wp_iald (pc' := 13) (v := (M 343 105)) rfl rfl rfl ⟨by decide, by decide⟩ rfl ?_
  refine wp_run 6 (pc' := 24) (ls' := [(2, 321), (3, 0)]) (st' := [(0, (z_rem (z_w ((z_w ((M 343 105) * 137)) + 71)) 1000)), (0, 105), (2, 343)]) rfl ?_
  refine wp_iast (pc' := 25) rfl rfl rfl ⟨by decide, by decide⟩ ?_
  refine wp_run 1 (pc' := 26) (ls' := [(2, 321), (3, 0)]) (st' := [(2, 321)]) rfl ?_
  refine wp_gf (pc' := 29) (t := 2) (v := 343) rfl rfl (by decide) rfl rfl (z_upq (by decide) (fx_321_61 hF)) ?_
  refine wp_run 1 (pc' := 31) (ls' := [(2, 321), (3, 0)]) (st' := [(0, 105), (2, 343)]) rfl ?_
  refine wp_iald (pc' := 32) (v := (z_rem (z_w ((z_w ((M 343 105) * 137)) + 71)) 1000)) rfl rfl rfl ⟨by decide, by decide⟩ z_ups ?_
  refine wp_run 3 (pc' := 36) (ls' := [(2, 321), (3, 0)]) (st' := [(2, 321), (0, (z_rem (z_rem (z_w ((z_w ((M 343 105) * 137)) + 71)) 1000) 100))]) rfl ?_
  refine wp_gf (pc' := 39) (t := 0) (v := (M 321 50)) rfl rfl (by decide) rfl rfl (z_upq (by decide) rfl) ?_
  refine wp_if2 rfl rfl rfl (fun (c1 : (z_rem (z_rem (z_w ((z_w ((M 343 105) * 137)) + 71)) 1000) 100) < (M 321 50)) => ?_) (fun (c1 : ¬ ((z_rem (z_rem (z_w ((z_w ((M 343 105) * 137)) + 71)) 1000) 100) < (M 321 50))) => ?_)
  · refine wp_run 2 (pc' := 45) (ls' := [(2, 321), (0, 0)]) (st' := []) rfl ?_
    exact l1 c1
  · exact wp_ret rfl rfl (l2 c1)
set_option maxRecDepth 20000 in
theorem gX10_rains_45 {xs : List Int} {d : Nat} {M : z_M} {P : Option z_V → z_L → z_M → Prop} {x1 : Int} (hF : z_fix M) (hC : z_mc M) 
    (l1 : ((M 321 46 * M 321 47) ≤ x1) → P none z_LL M)
    (b1 : (¬ ((M 321 46 * M 321 47) ≤ x1)) → 0 ≤ (z_w (54 + x1)) ∧ (z_w (54 + x1)) < 106)
    (l2 : (¬ ((M 321 46 * M 321 47) ≤ x1)) → ((z_w ((M 343 (z_w (54 + x1))) + (M 321 51))) ≤ 9) → wp xs (d + 1) mX10_rains 45 [(2, 321), (0, (z_w (x1 + 1)))] [] z_LL (z_up M 343 (z_w (54 + x1)) (z_w ((M 343 (z_w (54 + x1))) + (M 321 51)))) P)
    (l3 : (¬ ((M 321 46 * M 321 47) ≤ x1)) → (¬ ((z_w ((M 343 (z_w (54 + x1))) + (M 321 51))) ≤ 9)) → wp xs (d + 1) mX10_rains 45 [(2, 321), (0, (z_w (x1 + 1)))] [] z_LL (z_up M 343 (z_w (54 + x1)) 9) P) :
    wp xs (d + 1) mX10_rains 45 [(2, 321), (0, x1)] [] z_LL M P := by
  refine wp_run 2 (pc' := 47) (ls' := [(2, 321), (0, x1)]) (st' := [(2, 321), (0, x1)]) rfl ?_
  refine wp_callv (pc' := 50) (as := [(2, 321)]) (rest := [(0, x1)]) (ls1 := [(2, 321)]) rfl rfl rfl rfl rfl rfl ?_
  refine s_X10_all hF hC ?_
  show wp xs _ mX10_rains 50 [(2, 321), (0, x1)] [(0, (M 321 46 * M 321 47)), (0, x1)] z_LL M _
  refine wp_if2 rfl rfl rfl (fun (c1 : (M 321 46 * M 321 47) ≤ x1) => ?_) (fun (c1 : ¬ ((M 321 46 * M 321 47) ≤ x1)) => ?_)
  · exact wp_ret rfl rfl (l1 c1)
  · refine wp_run 1 (pc' := 54) (ls' := [(2, 321), (0, x1)]) (st' := [(2, 321)]) rfl ?_
    refine wp_gf (pc' := 57) (t := 2) (v := 343) rfl rfl (by decide) rfl rfl (fx_321_61 hF) ?_
    refine wp_run 4 (pc' := 62) (ls' := [(2, 321), (0, x1)]) (st' := [(2, 321), (0, (z_w (54 + x1))), (2, 343)]) rfl ?_
    refine wp_gf (pc' := 65) (t := 2) (v := 343) rfl rfl (by decide) rfl rfl (fx_321_61 hF) ?_
    refine wp_run 3 (pc' := 69) (ls' := [(2, 321), (0, x1)]) (st' := [(0, (z_w (54 + x1))), (2, 343), (0, (z_w (54 + x1))), (2, 343)]) rfl ?_
    refine wp_iald (pc' := 70) (v := (M 343 (z_w (54 + x1)))) rfl rfl rfl (b1 c1) rfl ?_
    refine wp_run 1 (pc' := 71) (ls' := [(2, 321), (0, x1)]) (st' := [(2, 321), (0, (M 343 (z_w (54 + x1)))), (0, (z_w (54 + x1))), (2, 343)]) rfl ?_
    refine wp_gf (pc' := 74) (t := 0) (v := (M 321 51)) rfl rfl (by decide) rfl rfl rfl ?_
    refine wp_run 2 (pc' := 77) (ls' := [(2, 321), (0, x1)]) (st' := [(0, 9), (0, (z_w ((M 343 (z_w (54 + x1))) + (M 321 51)))), (0, (z_w (54 + x1))), (2, 343)]) rfl ?_
    refine wp_if2 rfl rfl rfl (fun (c2 : (z_w ((M 343 (z_w (54 + x1))) + (M 321 51))) ≤ 9) => ?_) (fun (c2 : ¬ ((z_w ((M 343 (z_w (54 + x1))) + (M 321 51))) ≤ 9)) => ?_)
    · refine wp_run 1 (pc' := 86) (ls' := [(2, 321), (0, x1)]) (st' := [(2, 321), (0, (z_w (54 + x1))), (2, 343)]) rfl ?_
      refine wp_gf (pc' := 89) (t := 2) (v := 343) rfl rfl (by decide) rfl rfl (fx_321_61 hF) ?_
      refine wp_run 3 (pc' := 93) (ls' := [(2, 321), (0, x1)]) (st' := [(0, (z_w (54 + x1))), (2, 343), (0, (z_w (54 + x1))), (2, 343)]) rfl ?_
      refine wp_iald (pc' := 94) (v := (M 343 (z_w (54 + x1)))) rfl rfl rfl (b1 c1) rfl ?_
      refine wp_run 1 (pc' := 95) (ls' := [(2, 321), (0, x1)]) (st' := [(2, 321), (0, (M 343 (z_w (54 + x1)))), (0, (z_w (54 + x1))), (2, 343)]) rfl ?_
      refine wp_gf (pc' := 98) (t := 0) (v := (M 321 51)) rfl rfl (by decide) rfl rfl rfl ?_
      refine wp_run 1 (pc' := 99) (ls' := [(2, 321), (0, x1)]) (st' := [(0, (z_w ((M 343 (z_w (54 + x1))) + (M 321 51)))), (0, (z_w (54 + x1))), (2, 343)]) rfl ?_
      refine wp_iast (pc' := 100) rfl rfl rfl (b1 c1) ?_
      refine wp_run 2 (pc' := 45) (ls' := [(2, 321), (0, (z_w (x1 + 1)))]) (st' := []) rfl ?_
      exact l2 c1 c2
    · refine wp_run 2 (pc' := 99) (ls' := [(2, 321), (0, x1)]) (st' := [(0, 9), (0, (z_w (54 + x1))), (2, 343)]) rfl ?_
      refine wp_iast (pc' := 100) rfl rfl rfl (b1 c1) ?_
      refine wp_run 2 (pc' := 45) (ls' := [(2, 321), (0, (z_w (x1 + 1)))]) (st' := []) rfl ?_
      exact l3 c1 c2
theorem s_X10_rains {xs : List Int} {d : Nat} {M : z_M} {P : Option z_V → z_L → z_M → Prop} (hF : z_fix M) (hC : z_mc M) (hR : 0 ≤ M 343 105 ∧ M 343 105 < 1000) (hG : ∀ c : Int, 0 ≤ c → c < 25 → 0 ≤ M 343 (54 + c) ∧ M 343 (54 + c) ≤ 9) (k : ∀ M' : z_M, (∀ q, q ≠ 343 → M' q = M q) → M' 343 = z_rai M (M 343) → P none z_LL M') : wp xs (d + 1) mX10_rains 0 [(2, 321), (3, 0)] [] z_LL M P := by
  have hx := z_mc_cells hC
  have ho := hC.2.2.2.2.2.1
  obtain ⟨n, hne⟩ : ∃ n : Nat, M 321 46 * M 321 47 = (n : Int) := ⟨(M 321 46 * M 321 47).toNat, by omega⟩
  have es : z_rem (z_w (z_w (M 343 105 * 137) + 71)) 1000 = z_sd (M 343 105) := by
    rw [z_wid (x := M 343 105 * 137) (by omega), z_wid (by omega), z_rem_pos (by omega) (by omega)]
    rfl
  have hs : 0 ≤ z_sd (M 343 105) ∧ z_sd (M 343 105) < 1000 := by
    unfold z_sd
    omega
  have g := gX10_rains_0 (M := M) (xs := xs) (d := d + 1) (P := P) hF
  simp only [es, z_rem_pos (a := z_sd (M 343 105)) (c := 100) (by omega) (by omega)] at g
  refine g (fun c => ?_) (fun c => ?_)
  · unfold z_rai at k
    rw [if_pos c, hne] at k
    generalize hS : z_pt (M 343) 105 (z_sd (M 343 105)) = S at k
    have eS : ∀ j : Int, j ≠ 105 → S j = M 343 j := fun j hj => by rw [← hS, z_pt_n hj]
    have key := z_down (W := fun i => ∀ (M' : z_M), (∀ q, q ≠ 343 → M' q = M q) → M' 343 = z_rap M S (54 + i) → wp xs (d + 1) mX10_rains 45 [(2, 321), (0, (i : Int))] [] z_LL M' P) n ?_ ?_ 0 (Nat.zero_le _)
    · refine key _ (fun q hq => z_upn hq) ?_
      rw [z_upw, hS]
      funext j
      rw [z_rap_o (by omega)]
    · intro M' hM hv
      have g := gX10_rains_45 (M := M') (xs := xs) (d := d) (P := P) (x1 := (n : Int)) (z_fix_at hF hM z_nf343) (z_mc_e (z_c343 hM) hC)
      simp only [hM 321 (by decide), hne] at g
      apply g
      · exact fun _ => k M' hM hv
      all_goals intros; exfalso; omega
    · intro i hi ih M' hM hv
      have e2 : z_w ((i : Int) + 1) = ((i + 1 : Nat) : Int) := by rw [z_wid (by omega)]; omega
      have e4 : M' 343 (54 + i) = M 343 (54 + i) := by rw [hv, z_rap_o (by omega), eS _ (by omega)]
      have r := hG i (by omega) (by omega)
      have g := gX10_rains_45 (M := M') (xs := xs) (d := d) (P := P) (x1 := (i : Int)) (z_fix_at hF hM z_nf343) (z_mc_e (z_c343 hM) hC)
      simp only [hM 321 (by decide), hne, e2, z_wid (x := 54 + (i : Int)) (by omega), e4, z_wid (x := M 343 (54 + (i : Int)) + M 321 51) (by omega)] at g
      have fin : ∀ y : Int, y = min 9 (M 343 (54 + i) + M 321 51) → wp xs (d + 1) mX10_rains 45 [(2, 321), (0, ((i + 1 : Nat) : Int))] [] z_LL (z_up M' 343 (54 + i) y) P := by
        intro y hy
        refine ih _ (fun q hq => by rw [z_upn hq, hM q hq]) ?_
        rw [z_upw, hv, hy, show (54 + ((i + 1 : Nat) : Int)) = 54 + i + 1 by omega, z_rap_y (by omega), eS _ (by omega)]
      apply g
      case l2 => exact fun _ c => fin _ (by omega)
      case l3 => exact fun _ c => fin _ (by omega)
      all_goals intros; omega
  · unfold z_rai at k
    rw [if_neg c] at k
    exact k _ (fun q hq => z_upn hq) z_upw
