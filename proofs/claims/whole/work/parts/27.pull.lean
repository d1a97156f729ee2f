/-! what draws a flock -/
/-- the model's own rows and numbers that a day reads -/
def z_conf (q : Int) : Prop := q = 321 ∨ q = 326 ∨ q = 327 ∨ q = 337 ∨ q = 338 ∨ q = 339 ∨ q = 340 ∨ q = 341
theorem z_nf330 : ¬ z_fobj 330 := by
  unfold z_fobj
  omega
theorem z_nf344 : ¬ z_fobj 344 := by
  unfold z_fobj
  omega
theorem z_nf343 : ¬ z_fobj 343 := by
  unfold z_fobj
  omega
theorem z_fst_c {kd ar A A' : Int → Int} (hA : ∀ j : Int, 0 ≤ j → j < 6 → A j = A' j) : ∀ k : Nat, (∀ i : Nat, i < k → z_fw kd ar i) → z_fst kd ar A k = z_fst kd ar A' k
  | 0, _ => rfl
  | k + 1, h => by
    have ih := z_fst_c hA k (fun i hi => h i (by omega))
    obtain ⟨_, _, w⟩ := h k (by omega)
    unfold z_fst
    rw [ih]
    rcases w with ⟨c, a1⟩ | ⟨c, a1, a2⟩ | ⟨c, a1⟩ | ⟨c, a1⟩
    · rw [if_pos c, if_pos c]
    · rw [if_neg (by omega), if_pos c, if_neg (by omega), if_pos c, hA _ a1 a2]
    · rw [if_neg (by omega), if_neg (by omega), if_pos c, if_neg (by omega), if_neg (by omega)]
    · rw [if_neg (by omega), if_neg (by omega), if_neg (by omega), if_neg (by omega), if_neg (by omega)]
theorem z_frm_c {M : z_M} {A A' : Int → Int} (hP : z_fp M) (hA : ∀ j : Int, 0 ≤ j → j < 6 → A j = A' j) : z_frm M A = z_frm M A' := by
  unfold z_frm
  by_cases h : M 321 59 ≠ 0
  · rw [if_pos h, if_pos h]
    obtain ⟨h1, h2, h3, hw⟩ := hP h
    rw [z_fst_c hA _ (fun i hi => hw i (by omega))]
  · rw [if_neg h, if_neg h, hA 0 (by decide) (by decide), hA 1 (by decide) (by decide)]
theorem z_frm_q {M M' : z_M} (hM : ∀ q, z_conf q → M' q = M q) (A : Int → Int) : z_frm M' A = z_frm M A := by
  unfold z_frm
  rw [hM 321 (by unfold z_conf; omega), hM 326 (by unfold z_conf; omega), hM 327 (by unfold z_conf; omega)]
theorem z_fp_q {M M' : z_M} (hM : ∀ q, z_conf q → M' q = M q) (h : z_fp M) : z_fp M' := by
  unfold z_fp at h ⊢
  rw [hM 321 (by unfold z_conf; omega), hM 326 (by unfold z_conf; omega), hM 327 (by unfold z_conf; omega)]
  exact h
theorem z_mc_e {M M' : z_M} (hM : ∀ q, z_conf q → M' q = M q) (h : z_mc M) : z_mc M' := by
  unfold z_mc at h ⊢
  rw [hM 321 (by unfold z_conf; omega), hM 337 (by unfold z_conf; omega), hM 338 (by unfold z_conf; omega), hM 339 (by unfold z_conf; omega), hM 340 (by unfold z_conf; omega), hM 341 (by unfold z_conf; omega)]
  exact h
/-- others of a snapshot in a cell -/
noncomputable def z_ots (M : z_M) (s : Int → Int) (f c : Int) : Int := z_cnt (fun g => g ≠ f ∧ s g = c) (M 321 48).toNat
theorem z_oth_s {M : z_M} {f c : Int} : z_oth M f c = z_ots M (M 343) f c := rfl
noncomputable def z_ask (M : z_M) (s : Int → Int) (f c : Int) : Int → Int := fun k =>
  if k = 0 then s (54 + c) else if k = 1 then s (79 + c) else if k = 2 then z_ots M s f c else if k = 3 then z_far (M 321 46) (M 338 f) c else if k = 4 then z_b (s f = c) else s 104
noncomputable def z_pul (M : z_M) (s : Int → Int) (f c : Int) : Int := z_frm M (z_ask M s f c)
theorem z_pul_q {M M' : z_M} (hM : ∀ q, z_conf q → M' q = M q) (s : Int → Int) (f c : Int) : z_pul M' s f c = z_pul M s f c := by
  unfold z_pul z_ask z_ots
  rw [z_frm_q hM, hM 321 (by unfold z_conf; omega), hM 338 (by unfold z_conf; omega)]
set_option maxRecDepth 20000 in
theorem gX10_pullOf_0 {xs : List Int} {d : Nat} {M : z_M} {P : Option z_V → z_L → z_M → Prop} {a1 : Int} {a2 : Int} (hF : z_fix M) (hC : z_mc M) 
    (b1 : 0 ≤ (z_w (54 + a2)) ∧ (z_w (54 + a2)) < 106)
    (b2 : 0 ≤ (z_w (79 + a2)) ∧ (z_w (79 + a2)) < 106)
    (b3 : 0 ≤ a1 ∧ a1 < 6)
    (b4 : (0 ≤ (M 338 a1) ∧ (M 338 a1) < 25 ∧ 0 ≤ a2 ∧ a2 < 25))
    (b5 : 0 ≤ a1 ∧ a1 < 106)
    (l1 : ((M 343 a1) ≠ a2) → wp xs (d + 1) mX10_worked 0 [(2, 321), (3, 0), (3, 0)] [] z_LL (z_up (z_up (z_up (z_up (z_up (z_up M 330 0 (M 343 (z_w (54 + a2)))) 330 1 (M 343 (z_w (79 + a2)))) 330 2 (z_oth M a1 a2)) 330 3 (z_far (M 321 46) (M 338 a1) a2)) 330 4 0) 330 5 (M 343 104)) (fun r L1 M1 => wp xs (d + 2) mX10_pullOf 100 [(2, 321), (0, a1), (0, a2)] (z_ol r ++ []) L1 M1 P))
    (l2 : (¬ ((M 343 a1) ≠ a2)) → wp xs (d + 1) mX10_worked 0 [(2, 321), (3, 0), (3, 0)] [] z_LL (z_up (z_up (z_up (z_up (z_up (z_up M 330 0 (M 343 (z_w (54 + a2)))) 330 1 (M 343 (z_w (79 + a2)))) 330 2 (z_oth M a1 a2)) 330 3 (z_far (M 321 46) (M 338 a1) a2)) 330 4 1) 330 5 (M 343 104)) (fun r L1 M1 => wp xs (d + 2) mX10_pullOf 100 [(2, 321), (0, a1), (0, a2)] (z_ol r ++ []) L1 M1 P)) :
    wp xs (d + 2) mX10_pullOf 0 [(2, 321), (0, a1), (0, a2)] [] z_LL M P := by
  refine wp_run 1 (pc' := 1) (ls' := [(2, 321), (0, a1), (0, a2)]) (st' := [(2, 321)]) rfl ?_
  refine wp_gf (pc' := 4) (t := 2) (v := 330) rfl rfl (by decide) rfl rfl (fx_321_24 hF) ?_
  refine wp_run 2 (pc' := 6) (ls' := [(2, 321), (0, a1), (0, a2)]) (st' := [(2, 321), (0, 0), (2, 330)]) rfl ?_
  refine wp_gf (pc' := 9) (t := 2) (v := 343) rfl rfl (by decide) rfl rfl (fx_321_61 hF) ?_
  refine wp_run 3 (pc' := 13) (ls' := [(2, 321), (0, a1), (0, a2)]) (st' := [(0, (z_w (54 + a2))), (2, 343), (0, 0), (2, 330)]) rfl ?_
  refine wp_iald (pc' := 14) (v := (M 343 (z_w (54 + a2)))) rfl rfl rfl (b1) rfl ?_
  refine wp_iast (pc' := 15) rfl rfl rfl ⟨by decide, by decide⟩ ?_
  refine wp_run 1 (pc' := 16) (ls' := [(2, 321), (0, a1), (0, a2)]) (st' := [(2, 321)]) rfl ?_
  refine wp_gf (pc' := 19) (t := 2) (v := 330) rfl rfl (by decide) rfl rfl (z_upq (by decide) (fx_321_24 hF)) ?_
  refine wp_run 2 (pc' := 21) (ls' := [(2, 321), (0, a1), (0, a2)]) (st' := [(2, 321), (0, 1), (2, 330)]) rfl ?_
  refine wp_gf (pc' := 24) (t := 2) (v := 343) rfl rfl (by decide) rfl rfl (z_upq (by decide) (fx_321_61 hF)) ?_
  refine wp_run 3 (pc' := 28) (ls' := [(2, 321), (0, a1), (0, a2)]) (st' := [(0, (z_w (79 + a2))), (2, 343), (0, 1), (2, 330)]) rfl ?_
  refine wp_iald (pc' := 29) (v := (M 343 (z_w (79 + a2)))) rfl rfl rfl (b2) (z_upq (by decide) rfl) ?_
  refine wp_iast (pc' := 30) rfl rfl rfl ⟨by decide, by decide⟩ ?_
  refine wp_run 1 (pc' := 31) (ls' := [(2, 321), (0, a1), (0, a2)]) (st' := [(2, 321)]) rfl ?_
  refine wp_gf (pc' := 34) (t := 2) (v := 330) rfl rfl (by decide) rfl rfl (z_upq (by decide) (z_upq (by decide) (fx_321_24 hF))) ?_
  refine wp_run 4 (pc' := 38) (ls' := [(2, 321), (0, a1), (0, a2)]) (st' := [(0, a2), (0, a1), (2, 321), (0, 2), (2, 330)]) rfl ?_
  refine wp_callv (pc' := 41) (as := [(2, 321), (0, a1), (0, a2)]) (rest := [(0, 2), (2, 330)]) (ls1 := [(2, 321), (0, a1), (0, a2), (3, 0), (3, 0)]) rfl rfl rfl rfl rfl rfl ?_
  refine s_X10_othersIn (z_fix_i (by decide) (z_fix_i (by decide) hF)) (z_mc_q (by decide) (z_mc_q (by decide) hC)) ?_
  show wp xs _ mX10_pullOf 41 [(2, 321), (0, a1), (0, a2)] [(0, (z_oth M a1 a2)), (0, 2), (2, 330)] z_LL (z_up (z_up M 330 0 (M 343 (z_w (54 + a2)))) 330 1 (M 343 (z_w (79 + a2)))) _
  refine wp_iast (pc' := 42) rfl rfl rfl ⟨by decide, by decide⟩ ?_
  refine wp_run 1 (pc' := 43) (ls' := [(2, 321), (0, a1), (0, a2)]) (st' := [(2, 321)]) rfl ?_
  refine wp_gf (pc' := 46) (t := 2) (v := 330) rfl rfl (by decide) rfl rfl (z_upq (by decide) (z_upq (by decide) (z_upq (by decide) (fx_321_24 hF)))) ?_
  refine wp_run 3 (pc' := 49) (ls' := [(2, 321), (0, a1), (0, a2)]) (st' := [(2, 321), (2, 321), (0, 3), (2, 330)]) rfl ?_
  refine wp_gf (pc' := 52) (t := 2) (v := 338) rfl rfl (by decide) rfl rfl (z_upq (by decide) (z_upq (by decide) (z_upq (by decide) (fx_321_32 hF)))) ?_
  refine wp_run 1 (pc' := 53) (ls' := [(2, 321), (0, a1), (0, a2)]) (st' := [(0, a1), (2, 338), (2, 321), (0, 3), (2, 330)]) rfl ?_
  refine wp_iald (pc' := 54) (v := (M 338 a1)) rfl rfl rfl (b3) (z_upq (by decide) (z_upq (by decide) (z_upq (by decide) rfl))) ?_
  refine wp_run 1 (pc' := 55) (ls' := [(2, 321), (0, a1), (0, a2)]) (st' := [(0, a2), (0, (M 338 a1)), (2, 321), (0, 3), (2, 330)]) rfl ?_
  refine wp_callv (pc' := 58) (as := [(2, 321), (0, (M 338 a1)), (0, a2)]) (rest := [(0, 3), (2, 330)]) (ls1 := [(2, 321), (0, (M 338 a1)), (0, a2)]) rfl rfl rfl rfl rfl rfl ?_
  refine s_X10_farOf (z_fix_i (by decide) (z_fix_i (by decide) (z_fix_i (by decide) hF))) (z_mc_q (by decide) (z_mc_q (by decide) (z_mc_q (by decide) hC))) (b4) ?_
  show wp xs _ mX10_pullOf 58 [(2, 321), (0, a1), (0, a2)] [(0, (z_far (M 321 46) (M 338 a1) a2)), (0, 3), (2, 330)] z_LL (z_up (z_up (z_up M 330 0 (M 343 (z_w (54 + a2)))) 330 1 (M 343 (z_w (79 + a2)))) 330 2 (z_oth M a1 a2)) _
  refine wp_iast (pc' := 59) rfl rfl rfl ⟨by decide, by decide⟩ ?_
  refine wp_run 1 (pc' := 60) (ls' := [(2, 321), (0, a1), (0, a2)]) (st' := [(2, 321)]) rfl ?_
  refine wp_gf (pc' := 63) (t := 2) (v := 330) rfl rfl (by decide) rfl rfl (z_upq (by decide) (z_upq (by decide) (z_upq (by decide) (z_upq (by decide) (fx_321_24 hF))))) ?_
  refine wp_run 2 (pc' := 65) (ls' := [(2, 321), (0, a1), (0, a2)]) (st' := [(2, 321), (0, 4), (2, 330)]) rfl ?_
  refine wp_gf (pc' := 68) (t := 2) (v := 343) rfl rfl (by decide) rfl rfl (z_upq (by decide) (z_upq (by decide) (z_upq (by decide) (z_upq (by decide) (fx_321_61 hF))))) ?_
  refine wp_run 1 (pc' := 69) (ls' := [(2, 321), (0, a1), (0, a2)]) (st' := [(0, a1), (2, 343), (0, 4), (2, 330)]) rfl ?_
  refine wp_iald (pc' := 70) (v := (M 343 a1)) rfl rfl rfl (b5) (z_upq (by decide) (z_upq (by decide) (z_upq (by decide) (z_upq (by decide) rfl)))) ?_
  refine wp_run 1 (pc' := 71) (ls' := [(2, 321), (0, a1), (0, a2)]) (st' := [(0, a2), (0, (M 343 a1)), (0, 4), (2, 330)]) rfl ?_
  refine wp_if2 rfl rfl rfl (fun (c1 : (M 343 a1) ≠ a2) => ?_) (fun (c1 : ¬ ((M 343 a1) ≠ a2)) => ?_)
  · refine wp_run 1 (pc' := 79) (ls' := [(2, 321), (0, a1), (0, a2)]) (st' := [(0, 0), (0, 4), (2, 330)]) rfl ?_
    refine wp_callv (pc' := 82) (as := [(0, 0)]) (rest := [(0, 4), (2, 330)]) (ls1 := [(0, 0)]) rfl rfl rfl rfl rfl rfl ?_
    refine s_X10_truth (by decide) ?_
    show wp xs _ mX10_pullOf 82 [(2, 321), (0, a1), (0, a2)] [(0, 0), (0, 4), (2, 330)] z_LL (z_up (z_up (z_up (z_up M 330 0 (M 343 (z_w (54 + a2)))) 330 1 (M 343 (z_w (79 + a2)))) 330 2 (z_oth M a1 a2)) 330 3 (z_far (M 321 46) (M 338 a1) a2)) _
    refine wp_iast (pc' := 83) rfl rfl rfl ⟨by decide, by decide⟩ ?_
    refine wp_run 1 (pc' := 84) (ls' := [(2, 321), (0, a1), (0, a2)]) (st' := [(2, 321)]) rfl ?_
    refine wp_gf (pc' := 87) (t := 2) (v := 330) rfl rfl (by decide) rfl rfl (z_upq (by decide) (z_upq (by decide) (z_upq (by decide) (z_upq (by decide) (z_upq (by decide) (fx_321_24 hF)))))) ?_
    refine wp_run 2 (pc' := 89) (ls' := [(2, 321), (0, a1), (0, a2)]) (st' := [(2, 321), (0, 5), (2, 330)]) rfl ?_
    refine wp_gf (pc' := 92) (t := 2) (v := 343) rfl rfl (by decide) rfl rfl (z_upq (by decide) (z_upq (by decide) (z_upq (by decide) (z_upq (by decide) (z_upq (by decide) (fx_321_61 hF)))))) ?_
    refine wp_run 1 (pc' := 94) (ls' := [(2, 321), (0, a1), (0, a2)]) (st' := [(0, 104), (2, 343), (0, 5), (2, 330)]) rfl ?_
    refine wp_iald (pc' := 95) (v := (M 343 104)) rfl rfl rfl ⟨by decide, by decide⟩ (z_upq (by decide) (z_upq (by decide) (z_upq (by decide) (z_upq (by decide) (z_upq (by decide) rfl))))) ?_
    refine wp_iast (pc' := 96) rfl rfl rfl ⟨by decide, by decide⟩ ?_
    refine wp_run 1 (pc' := 97) (ls' := [(2, 321), (0, a1), (0, a2)]) (st' := [(2, 321)]) rfl ?_
    refine wp_callv (pc' := 100) (as := [(2, 321)]) (rest := []) (ls1 := [(2, 321), (3, 0), (3, 0)]) rfl rfl rfl rfl rfl rfl ?_
    exact l1 c1
  · refine wp_run 2 (pc' := 79) (ls' := [(2, 321), (0, a1), (0, a2)]) (st' := [(0, 1), (0, 4), (2, 330)]) rfl ?_
    refine wp_callv (pc' := 82) (as := [(0, 1)]) (rest := [(0, 4), (2, 330)]) (ls1 := [(0, 1)]) rfl rfl rfl rfl rfl rfl ?_
    refine s_X10_truth (by decide) ?_
    show wp xs _ mX10_pullOf 82 [(2, 321), (0, a1), (0, a2)] [(0, 1), (0, 4), (2, 330)] z_LL (z_up (z_up (z_up (z_up M 330 0 (M 343 (z_w (54 + a2)))) 330 1 (M 343 (z_w (79 + a2)))) 330 2 (z_oth M a1 a2)) 330 3 (z_far (M 321 46) (M 338 a1) a2)) _
    refine wp_iast (pc' := 83) rfl rfl rfl ⟨by decide, by decide⟩ ?_
    refine wp_run 1 (pc' := 84) (ls' := [(2, 321), (0, a1), (0, a2)]) (st' := [(2, 321)]) rfl ?_
    refine wp_gf (pc' := 87) (t := 2) (v := 330) rfl rfl (by decide) rfl rfl (z_upq (by decide) (z_upq (by decide) (z_upq (by decide) (z_upq (by decide) (z_upq (by decide) (fx_321_24 hF)))))) ?_
    refine wp_run 2 (pc' := 89) (ls' := [(2, 321), (0, a1), (0, a2)]) (st' := [(2, 321), (0, 5), (2, 330)]) rfl ?_
    refine wp_gf (pc' := 92) (t := 2) (v := 343) rfl rfl (by decide) rfl rfl (z_upq (by decide) (z_upq (by decide) (z_upq (by decide) (z_upq (by decide) (z_upq (by decide) (fx_321_61 hF)))))) ?_
    refine wp_run 1 (pc' := 94) (ls' := [(2, 321), (0, a1), (0, a2)]) (st' := [(0, 104), (2, 343), (0, 5), (2, 330)]) rfl ?_
    refine wp_iald (pc' := 95) (v := (M 343 104)) rfl rfl rfl ⟨by decide, by decide⟩ (z_upq (by decide) (z_upq (by decide) (z_upq (by decide) (z_upq (by decide) (z_upq (by decide) rfl))))) ?_
    refine wp_iast (pc' := 96) rfl rfl rfl ⟨by decide, by decide⟩ ?_
    refine wp_run 1 (pc' := 97) (ls' := [(2, 321), (0, a1), (0, a2)]) (st' := [(2, 321)]) rfl ?_
    refine wp_callv (pc' := 100) (as := [(2, 321)]) (rest := []) (ls1 := [(2, 321), (3, 0), (3, 0)]) rfl rfl rfl rfl rfl rfl ?_
    exact l2 c1
set_option maxRecDepth 20000 in
theorem gX10_pullOf_100 {xs : List Int} {d : Nat} {M : z_M} {P : Option z_V → z_L → z_M → Prop} {x1 : Int} {x2 : Int} {s0 : Int} 
    (l1 : P (some (0, s0)) z_LL M) :
    wp xs d mX10_pullOf 100 [(2, 321), (0, x1), (0, x2)] [(0, s0)] z_LL M P := by
  exact wp_ret rfl rfl (l1)
theorem s_X10_pullOf {xs : List Int} {d : Nat} {M : z_M} {P : Option z_V → z_L → z_M → Prop} {f c : Int} (hF : z_fix M) (hC : z_mc M) (hP : z_fp M) (hf : 0 ≤ f ∧ f < M 321 48) (hc : 0 ≤ c ∧ c < 25) (k : ∀ M' : z_M, (∀ q, q ≠ 329 → q ≠ 330 → M' q = M q) → P (some (0, z_pul M (M 343) f c)) z_LL M') : wp xs (d + 3) mX10_pullOf 0 [(2, 321), (0, f), (0, c)] [] z_LL M P := by
  have hn := hC.2.2.1
  have hh := (hC.2.2.2.2.2.2 f hf.1 hf.2).2.1
  have hx := z_mc_cells hC
  have main : ∀ y : Int, y = z_b (M 343 f = c) → wp xs (d + 2) mX10_worked 0 [(2, 321), (3, 0), (3, 0)] [] z_LL (z_up (z_up (z_up (z_up (z_up (z_up M 330 0 (M 343 (54 + c))) 330 1 (M 343 (79 + c))) 330 2 (z_oth M f c)) 330 3 (z_far (M 321 46) (M 338 f) c)) 330 4 y) 330 5 (M 343 104)) (fun r L1 M1 => wp xs (d + 3) mX10_pullOf 100 [(2, 321), (0, f), (0, c)] (z_ol r ++ []) L1 M1 P) := by
    intro y hy
    generalize hM2 : (z_up (z_up (z_up (z_up (z_up (z_up M 330 0 (M 343 (54 + c))) 330 1 (M 343 (79 + c))) 330 2 (z_oth M f c)) 330 3 (z_far (M 321 46) (M 338 f) c)) 330 4 y) 330 5 (M 343 104)) = M2
    have q2 : ∀ q, q ≠ 330 → M2 q = M q := by
      intro q hq
      rw [← hM2, z_upn hq, z_upn hq, z_upn hq, z_upn hq, z_upn hq, z_upn hq]
    have qc : ∀ q, z_conf q → M2 q = M q := fun q hq => q2 q (by unfold z_conf at hq; omega)
    have eA : ∀ j : Int, 0 ≤ j → j < 6 → M2 330 j = z_ask M (M 343) f c j := by
      intro j h0 h1
      have hj : j = 0 ∨ j = 1 ∨ j = 2 ∨ j = 3 ∨ j = 4 ∨ j = 5 := by omega
      rw [← hM2]
      rcases hj with rfl | rfl | rfl | rfl | rfl | rfl
      · exact z_upi (by decide) (z_upi (by decide) (z_upi (by decide) (z_upi (by decide) (z_upi (by decide) z_ups))))
      · exact z_upi (by decide) (z_upi (by decide) (z_upi (by decide) (z_upi (by decide) z_ups)))
      · exact z_upi (by decide) (z_upi (by decide) (z_upi (by decide) z_ups))
      · exact z_upi (by decide) (z_upi (by decide) z_ups)
      · exact z_upi (by decide) (z_ups.trans hy)
      · exact z_ups
    refine s_X10_worked (z_fix_at hF q2 z_nf330) (z_fp_q qc hP) (fun M' hM' => ?_)
    refine gX10_pullOf_100 ?_
    rw [z_frm_q qc, z_frm_c hP eA]
    exact k M' (fun q a b => by rw [hM' q a, q2 q b])
  have g := gX10_pullOf_0 (xs := xs) (d := d + 1) (P := P) (a1 := f) (a2 := c) hF hC
  simp only [z_wid (x := 54 + c) (by omega), z_wid (x := 79 + c) (by omega)] at g
  refine g (by omega) (by omega) (by omega) (by omega) (by omega) (fun h => ?_) (fun h => ?_)
  · exact main 0 (z_b_f h).symm
  · exact main 1 (z_b_t (by omega)).symm
