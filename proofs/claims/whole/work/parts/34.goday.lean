/-! the model's goDay -/
def z_scr (q : Int) : Prop := q = 329 ∨ q = 330 ∨ q = 344
theorem z_nfs {q : Int} (h : z_scr q ∨ q = 343) : ¬ z_fobj q := by
  unfold z_scr at h
  unfold z_fobj
  omega
theorem z_fixd {M M' : z_M} (h : z_fix M) (hM : ∀ q, ¬ z_scr q → q ≠ 343 → M' q = M q) : z_fix M' := z_fix_eq h (fun q hq => hM q (fun e => z_nfs (Or.inl e) hq) (fun e => z_nfs (Or.inr e) hq))
theorem z_cfd {M M' : z_M} (hM : ∀ q, ¬ z_scr q → q ≠ 343 → M' q = M q) : ∀ q, z_conf q → M' q = M q := fun q hq => hM q (by unfold z_conf at hq; unfold z_scr; omega) (by unfold z_conf at hq; omega)
theorem z_ns {q : Int} (h : q ≠ 329 ∧ q ≠ 330 ∧ q ≠ 344) : ¬ z_scr q := by
  unfold z_scr
  omega
theorem z_evc_q {M M' : z_M} (hM : ∀ q, z_conf q → M' q = M q) (s : Int → Int) (k : Int) : z_evc M' s k = z_evc M s k := by
  unfold z_evc
  rw [z_cm_q hM, hM 321 (by unfold z_conf; omega)]
theorem z_evn_q {M M' : z_M} (hM : ∀ q, z_conf q → M' q = M q) (s : Int → Int) (m : Int) : z_evn M' s m = z_evn M s m := by
  funext k
  unfold z_evn
  rw [z_evc_q hM]
theorem z_mt1_q {M M' : z_M} (hM : ∀ q, z_conf q → M' q = M q) (ev : Int) (t : (Int → Int) × Int) (a b : Int) : z_mt1 M' ev t a b = z_mt1 M ev t a b := by
  unfold z_mt1
  rw [z_cm_q hM]
theorem z_mti_q {M M' : z_M} (hM : ∀ q, z_conf q → M' q = M q) (ev : Int) (t : (Int → Int) × Int) (a : Int) : ∀ j : Nat, z_mti M' ev t a j = z_mti M ev t a j
  | 0 => rfl
  | j + 1 => by
    rw [z_mti, z_mti, z_mti_q hM ev t a j, z_mt1_q hM]
theorem z_mto_q {M M' : z_M} (hM : ∀ q, z_conf q → M' q = M q) (ev : Int) (t : (Int → Int) × Int) (n : Nat) : ∀ a : Nat, z_mto M' ev t n a = z_mto M ev t n a
  | 0 => rfl
  | a + 1 => by
    rw [z_mto, z_mto, z_mto_q hM ev t n a, z_mti_q hM]
theorem z_rai_q {M M' : z_M} (hM : ∀ q, z_conf q → M' q = M q) (s : Int → Int) : z_rai M' s = z_rai M s := by
  unfold z_rai z_rap
  rw [hM 321 (by unfold z_conf; omega)]
theorem z_gl_q {M M' : z_M} (hM : ∀ q, z_conf q → M' q = M q) (s : Int → Int) (f : Int) : z_gl M' s f = z_gl M s f := by
  have e : ∀ c : Nat, z_bst M' s f c = z_bst M s f c := by
    intro c
    induction c with
    | zero => rw [z_bst, z_bst, z_pul_q hM]
    | succ c ih => rw [z_bst, z_bst, ih, z_pul_q hM, hM 321 (by unfold z_conf; omega)]
  unfold z_gl
  rw [e, hM 321 (by unfold z_conf; omega)]
set_option maxRecDepth 20000 in
theorem gX10_goDay_0 {xs : List Int} {d : Nat} {M : z_M} {P : Option z_V → z_L → z_M → Prop} {a1 : Int} 
    (l1 : wp xs d mX10_goDay 2 [(2, 321), (0, a1), (0, 0), (3, 0)] [] z_LL M P) :
    wp xs d mX10_goDay 0 [(2, 321), (0, a1), (3, 0), (3, 0)] [] z_LL M P := by
  refine wp_run 2 (pc' := 2) (ls' := [(2, 321), (0, a1), (0, 0), (3, 0)]) (st' := []) rfl ?_
  exact l1
set_option maxRecDepth 20000 in
theorem gX10_goDay_2 {xs : List Int} {d : Nat} {M : z_M} {P : Option z_V → z_L → z_M → Prop} {x1 : Int} {x2 : Int} 
    (l1 : ((M 321 48) ≤ x2) → wp xs (d + 1) mX10_goDay 23 [(2, 321), (0, x1), (0, 0), (3, 0)] [] z_LL M P)
    (l2 : (¬ ((M 321 48) ≤ x2)) → wp xs d mX10_decide 0 [(2, 321), (0, x2), (3, 0), (3, 0), (3, 0)] [] z_LL M (fun r L1 M1 => wp xs (d + 1) mX10_goDay 15 [(2, 321), (0, x1), (0, x2), (3, 0)] (z_ol r ++ []) L1 M1 P)) :
    wp xs (d + 1) mX10_goDay 2 [(2, 321), (0, x1), (0, x2), (3, 0)] [] z_LL M P := by
  refine wp_run 2 (pc' := 4) (ls' := [(2, 321), (0, x1), (0, x2), (3, 0)]) (st' := [(2, 321), (0, x2)]) rfl ?_
  refine wp_gf (pc' := 7) (t := 0) (v := (M 321 48)) rfl rfl (by decide) rfl rfl rfl ?_
  refine wp_if2 rfl rfl rfl (fun (c1 : (M 321 48) ≤ x2) => ?_) (fun (c1 : ¬ ((M 321 48) ≤ x2)) => ?_)
  · refine wp_run 2 (pc' := 23) (ls' := [(2, 321), (0, x1), (0, 0), (3, 0)]) (st' := []) rfl ?_
    exact l1 c1
  · refine wp_run 2 (pc' := 12) (ls' := [(2, 321), (0, x1), (0, x2), (3, 0)]) (st' := [(0, x2), (2, 321)]) rfl ?_
    refine wp_callv (pc' := 15) (as := [(2, 321), (0, x2)]) (rest := []) (ls1 := [(2, 321), (0, x2), (3, 0), (3, 0), (3, 0)]) rfl rfl rfl rfl rfl rfl ?_
    exact l2 c1
set_option maxRecDepth 20000 in
theorem gX10_goDay_15 {xs : List Int} {d : Nat} {M : z_M} {P : Option z_V → z_L → z_M → Prop} {x1 : Int} {x2 : Int} 
    (l1 : wp xs d mX10_goDay 2 [(2, 321), (0, x1), (0, (z_w (x2 + 1))), (3, 0)] [] z_LL M P) :
    wp xs d mX10_goDay 15 [(2, 321), (0, x1), (0, x2), (3, 0)] [] z_LL M P := by
  refine wp_run 2 (pc' := 2) (ls' := [(2, 321), (0, x1), (0, (z_w (x2 + 1))), (3, 0)]) (st' := []) rfl ?_
  exact l1
set_option maxRecDepth 20000 in
theorem gX10_goDay_23 {xs : List Int} {d : Nat} {M : z_M} {P : Option z_V → z_L → z_M → Prop} {x1 : Int} {x2 : Int} (hF : z_fix M) 
    (l1 : ((M 321 48) ≤ x2) → wp xs d mX10_goDay 51 [(2, 321), (0, x1), (0, 0), (3, 0)] [] z_LL M P)
    (b1 : (¬ ((M 321 48) ≤ x2)) → 0 ≤ x2 ∧ x2 < 6)
    (b2 : (¬ ((M 321 48) ≤ x2)) → 0 ≤ x2 ∧ x2 < 106)
    (l2 : (¬ ((M 321 48) ≤ x2)) → wp xs d mX10_goDay 23 [(2, 321), (0, x1), (0, (z_w (x2 + 1))), (3, 0)] [] z_LL (z_up M 343 x2 (M 344 x2)) P) :
    wp xs d mX10_goDay 23 [(2, 321), (0, x1), (0, x2), (3, 0)] [] z_LL M P := by
  refine wp_run 2 (pc' := 25) (ls' := [(2, 321), (0, x1), (0, x2), (3, 0)]) (st' := [(2, 321), (0, x2)]) rfl ?_
  refine wp_gf (pc' := 28) (t := 0) (v := (M 321 48)) rfl rfl (by decide) rfl rfl rfl ?_
  refine wp_if2 rfl rfl rfl (fun (c1 : (M 321 48) ≤ x2) => ?_) (fun (c1 : ¬ ((M 321 48) ≤ x2)) => ?_)
  · refine wp_run 2 (pc' := 51) (ls' := [(2, 321), (0, x1), (0, 0), (3, 0)]) (st' := []) rfl ?_
    exact l1 c1
  · refine wp_run 1 (pc' := 32) (ls' := [(2, 321), (0, x1), (0, x2), (3, 0)]) (st' := [(2, 321)]) rfl ?_
    refine wp_gf (pc' := 35) (t := 2) (v := 343) rfl rfl (by decide) rfl rfl (fx_321_61 hF) ?_
    refine wp_run 2 (pc' := 37) (ls' := [(2, 321), (0, x1), (0, x2), (3, 0)]) (st' := [(2, 321), (0, x2), (2, 343)]) rfl ?_
    refine wp_gf (pc' := 40) (t := 2) (v := 344) rfl rfl (by decide) rfl rfl (fx_321_62 hF) ?_
    refine wp_run 1 (pc' := 41) (ls' := [(2, 321), (0, x1), (0, x2), (3, 0)]) (st' := [(0, x2), (2, 344), (0, x2), (2, 343)]) rfl ?_
    refine wp_iald (pc' := 42) (v := (M 344 x2)) rfl rfl rfl (b1 c1) rfl ?_
    refine wp_iast (pc' := 43) rfl rfl rfl (b2 c1) ?_
    refine wp_run 2 (pc' := 23) (ls' := [(2, 321), (0, x1), (0, (z_w (x2 + 1))), (3, 0)]) (st' := []) rfl ?_
    exact l2 c1
set_option maxRecDepth 20000 in
theorem gX10_goDay_51 {xs : List Int} {d : Nat} {M : z_M} {P : Option z_V → z_L → z_M → Prop} {x1 : Int} {x2 : Int} {w3 : z_V} (hF : z_fix M) 
    (l1 : ((M 321 48) ≤ x2) → wp xs d mX10_goDay 116 [(2, 321), (0, x1), (0, 0), w3] [] z_LL M P)
    (b1 : (¬ ((M 321 48) ≤ x2)) → 0 ≤ x2 ∧ x2 < 106)
    (b2 : (¬ ((M 321 48) ≤ x2)) → 0 ≤ (z_w (54 + (M 343 x2))) ∧ (z_w (54 + (M 343 x2))) < 106)
    (b3 : (¬ ((M 321 48) ≤ x2)) → 0 ≤ x2 ∧ x2 < 6)
    (l2 : (¬ ((M 321 48) ≤ x2)) → ((M 339 x2) ≤ (M 343 (z_w (54 + (M 343 x2))))) → wp xs d mX10_goDay 51 [(2, 321), (0, x1), (0, (z_w (x2 + 1))), (0, (z_w (54 + (M 343 x2))))] [] z_LL (z_up M 343 (z_w (54 + (M 343 x2))) (z_w ((M 343 (z_w (54 + (M 343 x2)))) - (M 339 x2)))) P)
    (l3 : (¬ ((M 321 48) ≤ x2)) → (¬ ((M 339 x2) ≤ (M 343 (z_w (54 + (M 343 x2)))))) → wp xs d mX10_goDay 51 [(2, 321), (0, x1), (0, (z_w (x2 + 1))), (0, (z_w (54 + (M 343 x2))))] [] z_LL (z_up M 343 (z_w (54 + (M 343 x2))) (z_w ((M 343 (z_w (54 + (M 343 x2)))) - (M 343 (z_w (54 + (M 343 x2))))))) P) :
    wp xs d mX10_goDay 51 [(2, 321), (0, x1), (0, x2), w3] [] z_LL M P := by
  refine wp_run 2 (pc' := 53) (ls' := [(2, 321), (0, x1), (0, x2), w3]) (st' := [(2, 321), (0, x2)]) rfl ?_
  refine wp_gf (pc' := 56) (t := 0) (v := (M 321 48)) rfl rfl (by decide) rfl rfl rfl ?_
  refine wp_if2 rfl rfl rfl (fun (c1 : (M 321 48) ≤ x2) => ?_) (fun (c1 : ¬ ((M 321 48) ≤ x2)) => ?_)
  · refine wp_run 2 (pc' := 116) (ls' := [(2, 321), (0, x1), (0, 0), w3]) (st' := []) rfl ?_
    exact l1 c1
  · refine wp_run 2 (pc' := 62) (ls' := [(2, 321), (0, x1), (0, x2), w3]) (st' := [(2, 321), (0, 54)]) rfl ?_
    refine wp_gf (pc' := 65) (t := 2) (v := 343) rfl rfl (by decide) rfl rfl (fx_321_61 hF) ?_
    refine wp_run 1 (pc' := 66) (ls' := [(2, 321), (0, x1), (0, x2), w3]) (st' := [(0, x2), (2, 343), (0, 54)]) rfl ?_
    refine wp_iald (pc' := 67) (v := (M 343 x2)) rfl rfl rfl (b1 c1) rfl ?_
    refine wp_run 3 (pc' := 70) (ls' := [(2, 321), (0, x1), (0, x2), (0, (z_w (54 + (M 343 x2))))]) (st' := [(2, 321)]) rfl ?_
    refine wp_gf (pc' := 73) (t := 2) (v := 343) rfl rfl (by decide) rfl rfl (fx_321_61 hF) ?_
    refine wp_run 2 (pc' := 75) (ls' := [(2, 321), (0, x1), (0, x2), (0, (z_w (54 + (M 343 x2))))]) (st' := [(0, (z_w (54 + (M 343 x2)))), (2, 343), (0, (z_w (54 + (M 343 x2)))), (2, 343)]) rfl ?_
    refine wp_iald (pc' := 76) (v := (M 343 (z_w (54 + (M 343 x2))))) rfl rfl rfl (b2 c1) rfl ?_
    refine wp_run 1 (pc' := 77) (ls' := [(2, 321), (0, x1), (0, x2), (0, (z_w (54 + (M 343 x2))))]) (st' := [(2, 321), (0, (M 343 (z_w (54 + (M 343 x2))))), (0, (z_w (54 + (M 343 x2)))), (2, 343)]) rfl ?_
    refine wp_gf (pc' := 80) (t := 2) (v := 343) rfl rfl (by decide) rfl rfl (fx_321_61 hF) ?_
    refine wp_run 1 (pc' := 81) (ls' := [(2, 321), (0, x1), (0, x2), (0, (z_w (54 + (M 343 x2))))]) (st' := [(0, (z_w (54 + (M 343 x2)))), (2, 343), (0, (M 343 (z_w (54 + (M 343 x2))))), (0, (z_w (54 + (M 343 x2)))), (2, 343)]) rfl ?_
    refine wp_iald (pc' := 82) (v := (M 343 (z_w (54 + (M 343 x2))))) rfl rfl rfl (b2 c1) rfl ?_
    refine wp_run 1 (pc' := 83) (ls' := [(2, 321), (0, x1), (0, x2), (0, (z_w (54 + (M 343 x2))))]) (st' := [(2, 321), (0, (M 343 (z_w (54 + (M 343 x2))))), (0, (M 343 (z_w (54 + (M 343 x2))))), (0, (z_w (54 + (M 343 x2)))), (2, 343)]) rfl ?_
    refine wp_gf (pc' := 86) (t := 2) (v := 339) rfl rfl (by decide) rfl rfl (fx_321_33 hF) ?_
    refine wp_run 1 (pc' := 87) (ls' := [(2, 321), (0, x1), (0, x2), (0, (z_w (54 + (M 343 x2))))]) (st' := [(0, x2), (2, 339), (0, (M 343 (z_w (54 + (M 343 x2))))), (0, (M 343 (z_w (54 + (M 343 x2))))), (0, (z_w (54 + (M 343 x2)))), (2, 343)]) rfl ?_
    refine wp_iald (pc' := 88) (v := (M 339 x2)) rfl rfl rfl (b3 c1) rfl ?_
    refine wp_if2 rfl rfl rfl (fun (c2 : (M 339 x2) ≤ (M 343 (z_w (54 + (M 343 x2))))) => ?_) (fun (c2 : ¬ ((M 339 x2) ≤ (M 343 (z_w (54 + (M 343 x2)))))) => ?_)
    · refine wp_run 1 (pc' := 101) (ls' := [(2, 321), (0, x1), (0, x2), (0, (z_w (54 + (M 343 x2))))]) (st' := [(2, 321), (0, (M 343 (z_w (54 + (M 343 x2))))), (0, (z_w (54 + (M 343 x2)))), (2, 343)]) rfl ?_
      refine wp_gf (pc' := 104) (t := 2) (v := 339) rfl rfl (by decide) rfl rfl (fx_321_33 hF) ?_
      refine wp_run 1 (pc' := 105) (ls' := [(2, 321), (0, x1), (0, x2), (0, (z_w (54 + (M 343 x2))))]) (st' := [(0, x2), (2, 339), (0, (M 343 (z_w (54 + (M 343 x2))))), (0, (z_w (54 + (M 343 x2)))), (2, 343)]) rfl ?_
      refine wp_iald (pc' := 106) (v := (M 339 x2)) rfl rfl rfl (b3 c1) rfl ?_
      refine wp_run 1 (pc' := 107) (ls' := [(2, 321), (0, x1), (0, x2), (0, (z_w (54 + (M 343 x2))))]) (st' := [(0, (z_w ((M 343 (z_w (54 + (M 343 x2)))) - (M 339 x2)))), (0, (z_w (54 + (M 343 x2)))), (2, 343)]) rfl ?_
      refine wp_iast (pc' := 108) rfl rfl rfl (b2 c1) ?_
      refine wp_run 2 (pc' := 51) (ls' := [(2, 321), (0, x1), (0, (z_w (x2 + 1))), (0, (z_w (54 + (M 343 x2))))]) (st' := []) rfl ?_
      exact l2 c1 c2
    · refine wp_run 1 (pc' := 92) (ls' := [(2, 321), (0, x1), (0, x2), (0, (z_w (54 + (M 343 x2))))]) (st' := [(2, 321), (0, (M 343 (z_w (54 + (M 343 x2))))), (0, (z_w (54 + (M 343 x2)))), (2, 343)]) rfl ?_
      refine wp_gf (pc' := 95) (t := 2) (v := 343) rfl rfl (by decide) rfl rfl (fx_321_61 hF) ?_
      refine wp_run 1 (pc' := 96) (ls' := [(2, 321), (0, x1), (0, x2), (0, (z_w (54 + (M 343 x2))))]) (st' := [(0, (z_w (54 + (M 343 x2)))), (2, 343), (0, (M 343 (z_w (54 + (M 343 x2))))), (0, (z_w (54 + (M 343 x2)))), (2, 343)]) rfl ?_
      refine wp_iald (pc' := 97) (v := (M 343 (z_w (54 + (M 343 x2))))) rfl rfl rfl (b2 c1) rfl ?_
      refine wp_run 2 (pc' := 107) (ls' := [(2, 321), (0, x1), (0, x2), (0, (z_w (54 + (M 343 x2))))]) (st' := [(0, (z_w ((M 343 (z_w (54 + (M 343 x2)))) - (M 343 (z_w (54 + (M 343 x2))))))), (0, (z_w (54 + (M 343 x2)))), (2, 343)]) rfl ?_
      refine wp_iast (pc' := 108) rfl rfl rfl (b2 c1) ?_
      refine wp_run 2 (pc' := 51) (ls' := [(2, 321), (0, x1), (0, (z_w (x2 + 1))), (0, (z_w (54 + (M 343 x2))))]) (st' := []) rfl ?_
      exact l3 c1 c2
set_option maxRecDepth 20000 in
theorem gX10_goDay_116 {xs : List Int} {d : Nat} {M : z_M} {P : Option z_V → z_L → z_M → Prop} {x1 : Int} {x2 : Int} {w3 : z_V} (hF : z_fix M) 
    (l1 : (25 ≤ x2) → wp xs d mX10_evening 0 [(2, 321), (3, 0), (3, 0)] [] z_LL M (fun r L1 M1 => wp xs (d + 1) mX10_goDay 164 [(2, 321), (0, x1), (0, x2), w3] (z_ol r ++ []) L1 M1 P))
    (b1 : (¬ (25 ≤ x2)) → 0 ≤ (z_w (79 + x2)) ∧ (z_w (79 + x2)) < 106)
    (l2 : (¬ (25 ≤ x2)) → ((M 343 (z_w (79 + x2))) ≤ 0) → wp xs (d + 1) mX10_goDay 116 [(2, 321), (0, x1), (0, (z_w (x2 + 1))), w3] [] z_LL (z_up M 343 (z_w (79 + x2)) (z_w ((M 343 (z_w (79 + x2))) - 0))) P)
    (l3 : (¬ (25 ≤ x2)) → (¬ ((M 343 (z_w (79 + x2))) ≤ 0)) → wp xs (d + 1) mX10_goDay 116 [(2, 321), (0, x1), (0, (z_w (x2 + 1))), w3] [] z_LL (z_up M 343 (z_w (79 + x2)) (z_w ((M 343 (z_w (79 + x2))) - 1))) P) :
    wp xs (d + 1) mX10_goDay 116 [(2, 321), (0, x1), (0, x2), w3] [] z_LL M P := by
  refine wp_run 2 (pc' := 119) (ls' := [(2, 321), (0, x1), (0, x2), w3]) (st' := [(0, 25), (0, x2)]) rfl ?_
  refine wp_if2 rfl rfl rfl (fun (c1 : 25 ≤ x2) => ?_) (fun (c1 : ¬ (25 ≤ x2)) => ?_)
  · refine wp_run 1 (pc' := 161) (ls' := [(2, 321), (0, x1), (0, x2), w3]) (st' := [(2, 321)]) rfl ?_
    refine wp_callv (pc' := 164) (as := [(2, 321)]) (rest := []) (ls1 := [(2, 321), (3, 0), (3, 0)]) rfl rfl rfl rfl rfl rfl ?_
    exact l1 c1
  · refine wp_run 1 (pc' := 123) (ls' := [(2, 321), (0, x1), (0, x2), w3]) (st' := [(2, 321)]) rfl ?_
    refine wp_gf (pc' := 126) (t := 2) (v := 343) rfl rfl (by decide) rfl rfl (fx_321_61 hF) ?_
    refine wp_run 4 (pc' := 131) (ls' := [(2, 321), (0, x1), (0, x2), w3]) (st' := [(0, (z_w (79 + x2))), (2, 343), (0, (z_w (79 + x2))), (2, 343)]) rfl ?_
    refine wp_iald (pc' := 132) (v := (M 343 (z_w (79 + x2)))) rfl rfl rfl (b1 c1) rfl ?_
    refine wp_run 1 (pc' := 133) (ls' := [(2, 321), (0, x1), (0, x2), w3]) (st' := [(2, 321), (0, (M 343 (z_w (79 + x2)))), (0, (z_w (79 + x2))), (2, 343)]) rfl ?_
    refine wp_gf (pc' := 136) (t := 2) (v := 343) rfl rfl (by decide) rfl rfl (fx_321_61 hF) ?_
    refine wp_run 3 (pc' := 140) (ls' := [(2, 321), (0, x1), (0, x2), w3]) (st' := [(0, (z_w (79 + x2))), (2, 343), (0, (M 343 (z_w (79 + x2)))), (0, (z_w (79 + x2))), (2, 343)]) rfl ?_
    refine wp_iald (pc' := 141) (v := (M 343 (z_w (79 + x2)))) rfl rfl rfl (b1 c1) rfl ?_
    refine wp_if1 rfl rfl rfl (fun (c2 : (M 343 (z_w (79 + x2))) ≤ 0) => ?_) (fun (c2 : ¬ ((M 343 (z_w (79 + x2))) ≤ 0)) => ?_)
    · refine wp_run 1 (pc' := 149) (ls' := [(2, 321), (0, x1), (0, x2), w3]) (st' := [(0, 0), (0, (M 343 (z_w (79 + x2)))), (0, (z_w (79 + x2))), (2, 343)]) rfl ?_
      refine wp_callv (pc' := 152) (as := [(0, 0)]) (rest := [(0, (M 343 (z_w (79 + x2)))), (0, (z_w (79 + x2))), (2, 343)]) (ls1 := [(0, 0)]) rfl rfl rfl rfl rfl rfl ?_
      refine s_X10_truth (by decide) ?_
      show wp xs _ mX10_goDay 152 [(2, 321), (0, x1), (0, x2), w3] [(0, 0), (0, (M 343 (z_w (79 + x2)))), (0, (z_w (79 + x2))), (2, 343)] z_LL M _
      refine wp_run 1 (pc' := 153) (ls' := [(2, 321), (0, x1), (0, x2), w3]) (st' := [(0, (z_w ((M 343 (z_w (79 + x2))) - 0))), (0, (z_w (79 + x2))), (2, 343)]) rfl ?_
      refine wp_iast (pc' := 154) rfl rfl rfl (b1 c1) ?_
      refine wp_run 2 (pc' := 116) (ls' := [(2, 321), (0, x1), (0, (z_w (x2 + 1))), w3]) (st' := []) rfl ?_
      exact l2 c1 c2
    · refine wp_run 2 (pc' := 149) (ls' := [(2, 321), (0, x1), (0, x2), w3]) (st' := [(0, 1), (0, (M 343 (z_w (79 + x2)))), (0, (z_w (79 + x2))), (2, 343)]) rfl ?_
      refine wp_callv (pc' := 152) (as := [(0, 1)]) (rest := [(0, (M 343 (z_w (79 + x2)))), (0, (z_w (79 + x2))), (2, 343)]) (ls1 := [(0, 1)]) rfl rfl rfl rfl rfl rfl ?_
      refine s_X10_truth (by decide) ?_
      show wp xs _ mX10_goDay 152 [(2, 321), (0, x1), (0, x2), w3] [(0, 1), (0, (M 343 (z_w (79 + x2)))), (0, (z_w (79 + x2))), (2, 343)] z_LL M _
      refine wp_run 1 (pc' := 153) (ls' := [(2, 321), (0, x1), (0, x2), w3]) (st' := [(0, (z_w ((M 343 (z_w (79 + x2))) - 1))), (0, (z_w (79 + x2))), (2, 343)]) rfl ?_
      refine wp_iast (pc' := 154) rfl rfl rfl (b1 c1) ?_
      refine wp_run 2 (pc' := 116) (ls' := [(2, 321), (0, x1), (0, (z_w (x2 + 1))), w3]) (st' := []) rfl ?_
      exact l3 c1 c2
set_option maxRecDepth 20000 in
theorem gX10_goDay_164 {xs : List Int} {d : Nat} {M : z_M} {P : Option z_V → z_L → z_M → Prop} {x1 : Int} {x2 : Int} {x3 : z_V} 
    (l1 : wp xs d mX10_match 0 [(2, 321), (0, x1), (3, 0), (3, 0), (3, 0)] [] z_LL M (fun r L1 M1 => wp xs (d + 1) mX10_goDay 169 [(2, 321), (0, x1), (0, x2), x3] (z_ol r ++ []) L1 M1 P)) :
    wp xs (d + 1) mX10_goDay 164 [(2, 321), (0, x1), (0, x2), x3] [] z_LL M P := by
  refine wp_run 2 (pc' := 166) (ls' := [(2, 321), (0, x1), (0, x2), x3]) (st' := [(0, x1), (2, 321)]) rfl ?_
  refine wp_callv (pc' := 169) (as := [(2, 321), (0, x1)]) (rest := []) (ls1 := [(2, 321), (0, x1), (3, 0), (3, 0), (3, 0)]) rfl rfl rfl rfl rfl rfl ?_
  exact l1
set_option maxRecDepth 20000 in
theorem gX10_goDay_169 {xs : List Int} {d : Nat} {M : z_M} {P : Option z_V → z_L → z_M → Prop} {x1 : Int} {x2 : Int} {x3 : z_V} {s0 : Int} 
    (l1 : wp xs d mX10_rains 0 [(2, 321), (3, 0)] [] z_LL M (fun r L1 M1 => wp xs (d + 1) mX10_goDay 174 [(2, 321), (0, x1), (0, s0), x3] (z_ol r ++ []) L1 M1 P)) :
    wp xs (d + 1) mX10_goDay 169 [(2, 321), (0, x1), (0, x2), x3] [(0, s0)] z_LL M P := by
  refine wp_run 2 (pc' := 171) (ls' := [(2, 321), (0, x1), (0, s0), x3]) (st' := [(2, 321)]) rfl ?_
  refine wp_callv (pc' := 174) (as := [(2, 321)]) (rest := []) (ls1 := [(2, 321), (3, 0)]) rfl rfl rfl rfl rfl rfl ?_
  exact l1
set_option maxRecDepth 20000 in
theorem gX10_goDay_174 {xs : List Int} {d : Nat} {M : z_M} {P : Option z_V → z_L → z_M → Prop} {x1 : Int} {x2 : Int} {x3 : z_V} (hF : z_fix M) 
    (l1 : P (some (0, x2)) z_LL (z_up M 343 104 (z_w ((M 343 104) + 1)))) :
    wp xs d mX10_goDay 174 [(2, 321), (0, x1), (0, x2), x3] [] z_LL M P := by
  refine wp_run 1 (pc' := 175) (ls' := [(2, 321), (0, x1), (0, x2), x3]) (st' := [(2, 321)]) rfl ?_
  refine wp_gf (pc' := 178) (t := 2) (v := 343) rfl rfl (by decide) rfl rfl (fx_321_61 hF) ?_
  refine wp_run 2 (pc' := 181) (ls' := [(2, 321), (0, x1), (0, x2), x3]) (st' := [(0, 104), (2, 343), (0, 104), (2, 343)]) rfl ?_
  refine wp_iald (pc' := 182) (v := (M 343 104)) rfl rfl rfl ⟨by decide, by decide⟩ rfl ?_
  refine wp_run 2 (pc' := 184) (ls' := [(2, 321), (0, x1), (0, x2), x3]) (st' := [(0, (z_w ((M 343 104) + 1))), (0, 104), (2, 343)]) rfl ?_
  refine wp_iast (pc' := 185) rfl rfl rfl ⟨by decide, by decide⟩ ?_
  refine wp_run 1 (pc' := 186) (ls' := [(2, 321), (0, x1), (0, x2), x3]) (st' := [(0, x2)]) rfl ?_
  exact wp_ret rfl rfl (l1)
theorem s_X10_goDay {xs : List Int} {d : Nat} {M : z_M} {P : Option z_V → z_L → z_M → Prop} {D ev : Int} (hF : z_fix M) (hC : z_mc M) (hP : z_fp M) (hS : z_sn M D (M 343)) (hD : D ≤ 100000) (k : ∀ M' : z_M, (∀ q, ¬ z_scr q → q ≠ 343 → M' q = M q) → M' 343 = z_day M ev (M 343) → P (some (0, (z_d5 M ev (M 343)).2)) z_LL M') : wp xs (d + 5) mX10_goDay 0 [(2, 321), (0, ev), (3, 0), (3, 0)] [] z_LL M P := by
  have hn := hC.2.2.1
  have hx := z_mc_cells hC
  obtain ⟨n, hne⟩ : ∃ n : Nat, M 321 48 = (n : Int) := ⟨(M 321 48).toNat, by omega⟩
  generalize hs : M 343 = s at hS k
  have w1 : ∀ i : Nat, i < 100 → z_w ((i : Int) + 1) = ((i + 1 : Nat) : Int) := fun i hi => by rw [z_wid (by omega)]; omega
  -- behind the rain
  have g6 : ∀ (M' : z_M) (x : Int) (w : z_V), (∀ q, ¬ z_scr q → q ≠ 343 → M' q = M q) → M' 343 = (z_d5 M ev s).1 → x = (z_d5 M ev s).2 → wp xs (d + 4) mX10_rains 0 [(2, 321), (3, 0)] [] z_LL M' (fun r L1 M1 => wp xs (d + 5) mX10_goDay 174 [(2, 321), (0, ev), (0, x), w] (z_ol r ++ []) L1 M1 P) := by
    intro M' x w hM hv hx2
    refine s_X10_rains (z_fixd hF hM) (z_mc_e (z_cfd hM) hC) ?_ ?_ (fun M1 hM1 hv1 => ?_)
    · rw [hv, z_d5_o hC (by omega), z_d4_o (by omega), z_d3_o (by omega), z_d2_o hC hS (by omega), z_d1_o (by omega)]
      exact hS.2.2.2.2.1
    · intro c h1 h2
      rw [hv, z_d5_o hC (by omega), z_d4_o (by omega), z_d3_o (by omega)]
      exact z_d2_g hC hS h1 h2
    · rw [hv, z_rai_q (z_cfd hM)] at hv1
      have hM1' : ∀ q, ¬ z_scr q → q ≠ 343 → M1 q = M q := fun q a b => by rw [hM1 q b, hM q a b]
      refine gX10_goDay_174 (x1 := ev) (x2 := x) (x3 := w) (z_fixd hF hM1') ?_
      rw [hx2]
      refine k _ (fun q a b => by rw [z_upn b, hM1' q a b]) ?_
      have hday := hS.2.2.2.1
      have e104 : z_rai M (z_d5 M ev s).1 104 = s 104 := by
        rw [z_rai_o (by omega) (by omega), z_d5_o hC (by omega), z_d4_o (by omega), z_d3_o (by omega), z_d2_o hC hS (by omega), z_d1_o (by omega)]
      rw [z_upw, hv1, e104, z_wid (by omega)]
      unfold z_day z_d6
      rw [e104]
  -- behind the salt
  have g4 : ∀ (M' : z_M) (x : Int) (w : z_V), (∀ q, ¬ z_scr q → q ≠ 343 → M' q = M q) → M' 343 = z_d3 M s → wp xs (d + 4) mX10_evening 0 [(2, 321), (3, 0), (3, 0)] [] z_LL M' (fun r L1 M1 => wp xs (d + 5) mX10_goDay 164 [(2, 321), (0, ev), (0, x), w] (z_ol r ++ []) L1 M1 P) := by
    intro M' x w hM hv
    refine s_X10_evening (z_fixd hF hM) (z_mc_e (z_cfd hM) hC) ?_ (fun M1 hM1 hv1 => ?_)
    · intro j h1 h2
      rw [hv, z_d3_mx hC hS (by omega)]
      have := hS.2.2.1 j h1 h2
      have := hS.2.2.2.1
      omega
    · rw [hv, z_evn_q (z_cfd hM)] at hv1
      have hM1' : ∀ q, ¬ z_scr q → q ≠ 343 → M1 q = M q := fun q a b => by rw [hM1 q b, hM q a b]
      refine gX10_goDay_164 (x1 := ev) (x2 := x) (x3 := w) ?_
      refine s_X10_match (z_fixd hF hM1') (z_mc_e (z_cfd hM1') hC) (fun M2 hM2 hv2 => ?_)
      rw [hv1, z_mto_q (z_cfd hM1'), hM1' 321 (z_ns (by omega)) (by omega)] at hv2
      rw [hv1, z_mto_q (z_cfd hM1'), hM1' 321 (z_ns (by omega)) (by omega)]
      refine gX10_goDay_169 (x1 := ev) (x2 := x) (x3 := w) ?_
      exact g6 M2 _ w (fun q a b => by rw [hM2 q b, hM1' q a b]) hv2 rfl
  -- the salt
  have g3 : ∀ i : Nat, i ≤ 25 → ∀ (M' : z_M) (w : z_V), (∀ q, ¬ z_scr q → q ≠ 343 → M' q = M q) → M' 343 = z_slt (z_d2 M s) i → wp xs (d + 5) mX10_goDay 116 [(2, 321), (0, ev), (0, (i : Int)), w] [] z_LL M' P := by
    refine z_down (W := fun i => ∀ (M' : z_M) (w : z_V), (∀ q, ¬ z_scr q → q ≠ 343 → M' q = M q) → M' 343 = z_slt (z_d2 M s) i → wp xs (d + 5) mX10_goDay 116 [(2, 321), (0, ev), (0, (i : Int)), w] [] z_LL M' P) 25 ?_ ?_
    · intro M' w hM hv
      have g := gX10_goDay_116 (M := M') (xs := xs) (d := d + 4) (P := P) (x1 := ev) (x2 := ((25 : Nat) : Int)) (w3 := w) (z_fixd hF hM)
      refine g (fun _ => g4 M' _ w hM hv) ?_ ?_ ?_
      all_goals intros; exfalso; omega
    · intro i hi ih M' w hM hv
      have e4 : M' 343 (79 + i) = s (79 + i) := by rw [hv, z_slt_o (by omega), z_d2_o hC hS (by omega), z_d1_o (by omega)]
      have r := (hS.2.1 i (by omega) (by omega)).2.1
      have e5 : z_d2 M s (79 + i) = s (79 + i) := by rw [z_d2_o hC hS (by omega), z_d1_o (by omega)]
      have fin : ∀ y : Int, y = max 0 (s (79 + i) - 1) → wp xs (d + 5) mX10_goDay 116 [(2, 321), (0, ev), (0, ((i + 1 : Nat) : Int)), w] [] z_LL (z_up M' 343 (79 + i) y) P := by
        intro y hy
        refine ih _ w (fun q a b => by rw [z_upn b, hM q a b]) ?_
        rw [z_upw, hv, hy, show ((i + 1 : Nat) : Int) = (i : Int) + 1 by omega, z_slt_s (by omega), e5]
      have g := gX10_goDay_116 (M := M') (xs := xs) (d := d + 4) (P := P) (x1 := ev) (x2 := (i : Int)) (w3 := w) (z_fixd hF hM)
      simp only [w1 i (by omega), z_wid (x := 79 + (i : Int)) (by omega), e4] at g
      apply g
      case l2 => exact fun _ c => fin _ (by rw [z_wid (by omega)]; omega)
      case l3 => exact fun _ c => fin _ (by rw [z_wid (by omega)]; omega)
      all_goals intros; omega
  -- the grass
  have e321 : ∀ (M' : z_M), (∀ q, ¬ z_scr q → q ≠ 343 → M' q = M q) → M' 321 = M 321 := fun M' hM => hM 321 (z_ns (by omega)) (by omega)
  have g2 : ∀ i, i ≤ n → ∀ (M' : z_M) (w : z_V), (∀ q, ¬ z_scr q → q ≠ 343 → M' q = M q) → M' 343 = z_eat M (z_d1 M s) i → wp xs (d + 5) mX10_goDay 51 [(2, 321), (0, ev), (0, (i : Int)), w] [] z_LL M' P := by
    refine z_down (W := fun i => ∀ (M' : z_M) (w : z_V), (∀ q, ¬ z_scr q → q ≠ 343 → M' q = M q) → M' 343 = z_eat M (z_d1 M s) i → wp xs (d + 5) mX10_goDay 51 [(2, 321), (0, ev), (0, (i : Int)), w] [] z_LL M' P) n ?_ ?_
    · intro M' w hM hv
      have g := gX10_goDay_51 (M := M') (xs := xs) (d := d + 5) (P := P) (x1 := ev) (x2 := (n : Int)) (w3 := w) (z_fixd hF hM)
      simp only [e321 M' hM, hne] at g
      apply g
      · intro _
        refine g3 0 (by omega) M' w hM ?_
        rw [hv]
        unfold z_d2
        rw [hne, Int.toNat_natCast]
        funext j
        rw [z_slt_o (by omega)]
      all_goals intros; exfalso; omega
    · intro i hi ih M' w hM hv
      have hat : ∀ f : Int, 0 ≤ f → f < n → 54 ≤ 54 + z_d1 M s f ∧ 54 + z_d1 M s f < 79 := fun f h1 h2 => by
        have := z_d1_at (xs := []) (d := 0) (P := fun _ _ _ => True) hS h1 (by omega)
        omega
      have ai := hat i (by omega) (by omega)
      have e4 : M' 343 i = z_d1 M s i := by rw [hv, z_eat_o hat (by omega) i (by omega)]
      have hsz := hC.2.2.2.2.2.2 i (by omega) (by omega)
      have e339 : M' 339 = M 339 := hM 339 (z_ns (by omega)) (by omega)
      have r := z_eat_r (M := M) (s := z_d1 M s) (n := n) (k := 54 + z_d1 M s i) (fun f h1 h2 => (hC.2.2.2.2.2.2 f h1 (by omega)).2.2.1.1) (by
        rw [z_d1_o (by omega)]
        exact (hS.2.1 (z_d1 M s i) (by omega) (by omega)).1) i (by omega)
      have g := gX10_goDay_51 (M := M') (xs := xs) (d := d + 5) (P := P) (x1 := ev) (x2 := (i : Int)) (w3 := w) (z_fixd hF hM)
      simp only [e321 M' hM, hne, e4, w1 i (by omega), z_wid (x := 54 + z_d1 M s i) (by omega), e339] at g
      have fin : ∀ y : Int, y = max 0 (M' 343 (54 + z_d1 M s i) - M 339 i) → wp xs (d + 5) mX10_goDay 51 [(2, 321), (0, ev), (0, ((i + 1 : Nat) : Int)), (0, 54 + z_d1 M s i)] [] z_LL (z_up M' 343 (54 + z_d1 M s i) y) P := by
        intro y hy
        refine ih _ _ (fun q a b => by rw [z_upn b, hM q a b]) ?_
        rw [z_upw, z_eat, hy, hv]
      rw [← hv] at r
      apply g
      case l2 => exact fun _ c => fin _ (by rw [z_wid (by omega)]; omega)
      case l3 => exact fun _ c => fin _ (by rw [z_wid (by omega)]; omega)
      all_goals intros; omega
  -- all move
  have g1 : ∀ i, i ≤ n → ∀ (M' : z_M), (∀ q, ¬ z_scr q → q ≠ 343 → M' q = M q) → (∀ f : Int, 0 ≤ f → f < n → M' 344 f = z_gl M s f) → M' 343 = z_mv i (z_gl M s) s → wp xs (d + 5) mX10_goDay 23 [(2, 321), (0, ev), (0, (i : Int)), (3, 0)] [] z_LL M' P := by
    refine z_down (W := fun i => ∀ (M' : z_M), (∀ q, ¬ z_scr q → q ≠ 343 → M' q = M q) → (∀ f : Int, 0 ≤ f → f < n → M' 344 f = z_gl M s f) → M' 343 = z_mv i (z_gl M s) s → wp xs (d + 5) mX10_goDay 23 [(2, 321), (0, ev), (0, (i : Int)), (3, 0)] [] z_LL M' P) n ?_ ?_
    · intro M' hM hg hv
      have g := gX10_goDay_23 (M := M') (xs := xs) (d := d + 5) (P := P) (x1 := ev) (x2 := (n : Int)) (z_fixd hF hM)
      simp only [e321 M' hM, hne] at g
      apply g
      · intro _
        refine g2 0 (by omega) M' _ hM ?_
        rw [hv]
        unfold z_eat z_d1
        rw [hne]
      all_goals intros; exfalso; omega
    · intro i hi ih M' hM hg hv
      have g := gX10_goDay_23 (M := M') (xs := xs) (d := d + 5) (P := P) (x1 := ev) (x2 := (i : Int)) (z_fixd hF hM)
      simp only [e321 M' hM, hne, w1 i (by omega), hg i (by omega) (by omega)] at g
      refine g (fun _ => by omega) (fun _ => by omega) (fun _ => by omega) (fun _ => ?_)
      refine ih _ (fun q a b => by rw [z_upn b, hM q a b]) (fun f h1 h2 => by rw [z_upn (by decide)]; exact hg f h1 h2) ?_
      rw [z_upw, hv, show ((i + 1 : Nat) : Int) = (i : Int) + 1 by omega, z_mv_s (by omega)]
  -- all decide
  have g0 : ∀ i, i ≤ n → ∀ (M' : z_M), (∀ q, ¬ z_scr q → M' q = M q) → (∀ f : Int, 0 ≤ f → f < i → M' 344 f = z_gl M s f) → wp xs (d + 5) mX10_goDay 2 [(2, 321), (0, ev), (0, (i : Int)), (3, 0)] [] z_LL M' P := by
    refine z_down (W := fun i => ∀ (M' : z_M), (∀ q, ¬ z_scr q → M' q = M q) → (∀ f : Int, 0 ≤ f → f < i → M' 344 f = z_gl M s f) → wp xs (d + 5) mX10_goDay 2 [(2, 321), (0, ev), (0, (i : Int)), (3, 0)] [] z_LL M' P) n ?_ ?_
    · intro M' hM hg
      have g := gX10_goDay_2 (M := M') (xs := xs) (d := d + 4) (P := P) (x1 := ev) (x2 := (n : Int))
      simp only [hM 321 (z_ns (by omega)), hne] at g
      apply g
      · intro _
        refine g1 0 (by omega) M' (fun q a _ => hM q a) hg ?_
        rw [hM 343 (z_ns (by omega)), hs]
        funext j
        rw [z_mv_o (by omega)]
      all_goals intros; exfalso; omega
    · intro i hi ih M' hM hg
      have hM2 : ∀ q, ¬ z_scr q → q ≠ 343 → M' q = M q := fun q a _ => hM q a
      have e343 : M' 343 = s := by rw [hM 343 (z_ns (by omega)), hs]
      have e321 : M' 321 = M 321 := hM 321 (z_ns (by omega))
      have g := gX10_goDay_2 (M := M') (xs := xs) (d := d + 4) (P := P) (x1 := ev) (x2 := (i : Int))
      simp only [e321, hne] at g
      refine g (fun _ => by omega) (fun _ => ?_)
      refine s_X10_decide (z_fixd hF hM2) (z_mc_e (z_cfd hM2) hC) (z_fp_q (z_cfd hM2) hP) (by rw [e321]; omega) (by rw [e321, e343]; exact (hS.1 i (by omega) (by omega)).1) (fun M1 hM1 hv1 hj1 => ?_)
      refine gX10_goDay_15 (x1 := ev) (x2 := (i : Int)) ?_
      rw [w1 i (by omega)]
      refine ih M1 (fun q a => ?_) (fun f h1 h2 => ?_)
      · unfold z_scr at a
        rw [hM1 q (by omega) (by omega) (by omega), hM q (by unfold z_scr; omega)]
      · by_cases e : f = i
        · rw [e, hv1, e343, z_gl_q (z_cfd hM2)]
        · rw [hj1 f e]
          exact hg f h1 (by omega)
  refine gX10_goDay_0 (a1 := ev) ?_
  exact g0 0 (by omega) M (fun _ _ => rfl) (fun f h1 h2 => by omega)
