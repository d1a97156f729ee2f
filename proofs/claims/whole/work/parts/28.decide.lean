/-! where a flock goes -/
noncomputable def z_bst (M : z_M) (s : Int → Int) (f : Int) : Nat → Int × Int
  | 0 => (z_pul M s f (s f), s f)
  | c + 1 => @ite (Int × Int) (z_far (M 321 46) (s f) c = 1 ∧ (z_bst M s f c).1 < z_pul M s f c) (Classical.propDecidable _) (z_pul M s f c, (c : Int)) (z_bst M s f c)
theorem z_bst_y {M : z_M} {s : Int → Int} {f : Int} {c : Nat} (h1 : z_far (M 321 46) (s f) c = 1) (h2 : (z_bst M s f c).1 < z_pul M s f c) : z_bst M s f (c + 1) = (z_pul M s f c, (c : Int)) := by
  rw [z_bst, if_pos ⟨h1, h2⟩]
theorem z_bst_n {M : z_M} {s : Int → Int} {f : Int} {c : Nat} (h : ¬ (z_far (M 321 46) (s f) c = 1 ∧ (z_bst M s f c).1 < z_pul M s f c)) : z_bst M s f (c + 1) = z_bst M s f c := by
  rw [z_bst, if_neg h]
noncomputable def z_gl (M : z_M) (s : Int → Int) (f : Int) : Int := if s (6 + f) = 1 then s f else (z_bst M s f (M 321 46 * M 321 47).toNat).2
theorem z_cf {M M' : z_M} (hM : ∀ q, q ≠ 329 → q ≠ 330 → q ≠ 344 → M' q = M q) : ∀ q, z_conf q → M' q = M q := fun q hq => hM q (by unfold z_conf at hq; omega) (by unfold z_conf at hq; omega) (by unfold z_conf at hq; omega)
theorem z_fx3 {M M' : z_M} (h : z_fix M) (hM : ∀ q, q ≠ 329 → q ≠ 330 → q ≠ 344 → M' q = M q) : z_fix M' := z_fix_eq h (fun q hq => hM q (fun e => z_nf329 (e ▸ hq)) (fun e => z_nf330 (e ▸ hq)) (fun e => z_nf344 (e ▸ hq)))
set_option maxRecDepth 20000 in
theorem gX10_decide_0 {xs : List Int} {d : Nat} {M : z_M} {P : Option z_V → z_L → z_M → Prop} {a1 : Int} (hF : z_fix M) 
    (b1 : 0 ≤ a1 ∧ a1 < 106)
    (b2 : 0 ≤ a1 ∧ a1 < 6)
    (b3 : 0 ≤ (z_w (6 + a1)) ∧ (z_w (6 + a1)) < 106)
    (l1 : ((M 343 (z_w (6 + a1))) ≠ 1) → wp xs d mX10_pullOf 0 [(2, 321), (0, a1), (0, (M 343 a1))] [] z_LL (z_up M 344 a1 (M 343 a1)) (fun r L1 M1 => wp xs (d + 1) mX10_decide 37 [(2, 321), (0, a1), (3, 0), (3, 0), (3, 0)] (z_ol r ++ []) L1 M1 P))
    (l2 : (¬ ((M 343 (z_w (6 + a1))) ≠ 1)) → P none z_LL (z_up M 344 a1 (M 343 a1))) :
    wp xs (d + 1) mX10_decide 0 [(2, 321), (0, a1), (3, 0), (3, 0), (3, 0)] [] z_LL M P := by
  refine wp_run 1 (pc' := 1) (ls' := [(2, 321), (0, a1), (3, 0), (3, 0), (3, 0)]) (st' := [(2, 321)]) rfl ?_
  refine wp_gf (pc' := 4) (t := 2) (v := 344) rfl rfl (by decide) rfl rfl (fx_321_62 hF) ?_
  refine wp_run 2 (pc' := 6) (ls' := [(2, 321), (0, a1), (3, 0), (3, 0), (3, 0)]) (st' := [(2, 321), (0, a1), (2, 344)]) rfl ?_
  refine wp_gf (pc' := 9) (t := 2) (v := 343) rfl rfl (by decide) rfl rfl (fx_321_61 hF) ?_
  refine wp_run 1 (pc' := 10) (ls' := [(2, 321), (0, a1), (3, 0), (3, 0), (3, 0)]) (st' := [(0, a1), (2, 343), (0, a1), (2, 344)]) rfl ?_
  refine wp_iald (pc' := 11) (v := (M 343 a1)) rfl rfl rfl (b1) rfl ?_
  refine wp_iast (pc' := 12) rfl rfl rfl (b2) ?_
  refine wp_run 1 (pc' := 13) (ls' := [(2, 321), (0, a1), (3, 0), (3, 0), (3, 0)]) (st' := [(2, 321)]) rfl ?_
  refine wp_gf (pc' := 16) (t := 2) (v := 343) rfl rfl (by decide) rfl rfl (z_upq (by decide) (fx_321_61 hF)) ?_
  refine wp_run 3 (pc' := 20) (ls' := [(2, 321), (0, a1), (3, 0), (3, 0), (3, 0)]) (st' := [(0, (z_w (6 + a1))), (2, 343)]) rfl ?_
  refine wp_iald (pc' := 21) (v := (M 343 (z_w (6 + a1)))) rfl rfl rfl (b3) (z_upq (by decide) rfl) ?_
  refine wp_run 1 (pc' := 22) (ls' := [(2, 321), (0, a1), (3, 0), (3, 0), (3, 0)]) (st' := [(0, 1), (0, (M 343 (z_w (6 + a1))))]) rfl ?_
  refine wp_if2 rfl rfl rfl (fun (c1 : (M 343 (z_w (6 + a1))) ≠ 1) => ?_) (fun (c1 : ¬ ((M 343 (z_w (6 + a1))) ≠ 1)) => ?_)
  · refine wp_run 3 (pc' := 29) (ls' := [(2, 321), (0, a1), (3, 0), (3, 0), (3, 0)]) (st' := [(2, 321), (0, a1), (2, 321)]) rfl ?_
    refine wp_gf (pc' := 32) (t := 2) (v := 343) rfl rfl (by decide) rfl rfl (z_upq (by decide) (fx_321_61 hF)) ?_
    refine wp_run 1 (pc' := 33) (ls' := [(2, 321), (0, a1), (3, 0), (3, 0), (3, 0)]) (st' := [(0, a1), (2, 343), (0, a1), (2, 321)]) rfl ?_
    refine wp_iald (pc' := 34) (v := (M 343 a1)) rfl rfl rfl (b1) (z_upq (by decide) rfl) ?_
    refine wp_callv (pc' := 37) (as := [(2, 321), (0, a1), (0, (M 343 a1))]) (rest := []) (ls1 := [(2, 321), (0, a1), (0, (M 343 a1))]) rfl rfl rfl rfl rfl rfl ?_
    exact l1 c1
  · exact wp_ret rfl rfl (l2 c1)
set_option maxRecDepth 20000 in
theorem gX10_decide_37 {xs : List Int} {d : Nat} {M : z_M} {P : Option z_V → z_L → z_M → Prop} {x1 : Int} {s0 : Int} 
    (l1 : wp xs d mX10_decide 40 [(2, 321), (0, x1), (0, s0), (0, 0), (3, 0)] [] z_LL M P) :
    wp xs d mX10_decide 37 [(2, 321), (0, x1), (3, 0), (3, 0), (3, 0)] [(0, s0)] z_LL M P := by
  refine wp_run 3 (pc' := 40) (ls' := [(2, 321), (0, x1), (0, s0), (0, 0), (3, 0)]) (st' := []) rfl ?_
  exact l1
set_option maxRecDepth 20000 in
theorem gX10_decide_40 {xs : List Int} {d : Nat} {M : z_M} {P : Option z_V → z_L → z_M → Prop} {x1 : Int} {x2 : Int} {x3 : Int} {w4 : z_V} (hF : z_fix M) (hC : z_mc M) 
    (l1 : ((M 321 46 * M 321 47) ≤ x3) → P none z_LL M)
    (b1 : (¬ ((M 321 46 * M 321 47) ≤ x3)) → 0 ≤ x1 ∧ x1 < 106)
    (b2 : (¬ ((M 321 46 * M 321 47) ≤ x3)) → (0 ≤ (M 343 x1) ∧ (M 343 x1) < 25 ∧ 0 ≤ x3 ∧ x3 < 25))
    (l2 : (¬ ((M 321 46 * M 321 47) ≤ x3)) → ((z_far (M 321 46) (M 343 x1) x3) = 1) → wp xs (d + 1) mX10_pullOf 0 [(2, 321), (0, x1), (0, x3)] [] z_LL M (fun r L1 M1 => wp xs (d + 2) mX10_decide 72 [(2, 321), (0, x1), (0, x2), (0, x3), w4] (z_ol r ++ []) L1 M1 P))
    (l3 : (¬ ((M 321 46 * M 321 47) ≤ x3)) → (¬ ((z_far (M 321 46) (M 343 x1) x3) = 1)) → wp xs (d + 2) mX10_decide 40 [(2, 321), (0, x1), (0, x2), (0, (z_w (x3 + 1))), w4] [] z_LL M P) :
    wp xs (d + 2) mX10_decide 40 [(2, 321), (0, x1), (0, x2), (0, x3), w4] [] z_LL M P := by
  refine wp_run 2 (pc' := 42) (ls' := [(2, 321), (0, x1), (0, x2), (0, x3), w4]) (st' := [(2, 321), (0, x3)]) rfl ?_
  refine wp_callv (pc' := 45) (as := [(2, 321)]) (rest := [(0, x3)]) (ls1 := [(2, 321)]) rfl rfl rfl rfl rfl rfl ?_
  refine s_X10_all hF hC ?_
  show wp xs _ mX10_decide 45 [(2, 321), (0, x1), (0, x2), (0, x3), w4] [(0, (M 321 46 * M 321 47)), (0, x3)] z_LL M _
  refine wp_if2 rfl rfl rfl (fun (c1 : (M 321 46 * M 321 47) ≤ x3) => ?_) (fun (c1 : ¬ ((M 321 46 * M 321 47) ≤ x3)) => ?_)
  · exact wp_ret rfl rfl (l1 c1)
  · refine wp_run 2 (pc' := 50) (ls' := [(2, 321), (0, x1), (0, x2), (0, x3), w4]) (st' := [(2, 321), (2, 321)]) rfl ?_
    refine wp_gf (pc' := 53) (t := 2) (v := 343) rfl rfl (by decide) rfl rfl (fx_321_61 hF) ?_
    refine wp_run 1 (pc' := 54) (ls' := [(2, 321), (0, x1), (0, x2), (0, x3), w4]) (st' := [(0, x1), (2, 343), (2, 321)]) rfl ?_
    refine wp_iald (pc' := 55) (v := (M 343 x1)) rfl rfl rfl (b1 c1) rfl ?_
    refine wp_run 1 (pc' := 56) (ls' := [(2, 321), (0, x1), (0, x2), (0, x3), w4]) (st' := [(0, x3), (0, (M 343 x1)), (2, 321)]) rfl ?_
    refine wp_callv (pc' := 59) (as := [(2, 321), (0, (M 343 x1)), (0, x3)]) (rest := []) (ls1 := [(2, 321), (0, (M 343 x1)), (0, x3)]) rfl rfl rfl rfl rfl rfl ?_
    refine s_X10_farOf hF hC (b2 c1) ?_
    show wp xs _ mX10_decide 59 [(2, 321), (0, x1), (0, x2), (0, x3), w4] [(0, (z_far (M 321 46) (M 343 x1) x3))] z_LL M _
    refine wp_run 1 (pc' := 60) (ls' := [(2, 321), (0, x1), (0, x2), (0, x3), w4]) (st' := [(0, 1), (0, (z_far (M 321 46) (M 343 x1) x3))]) rfl ?_
    refine wp_if2 rfl rfl rfl (fun (c2 : (z_far (M 321 46) (M 343 x1) x3) = 1) => ?_) (fun (c2 : ¬ ((z_far (M 321 46) (M 343 x1) x3) = 1)) => ?_)
    · refine wp_run 3 (pc' := 69) (ls' := [(2, 321), (0, x1), (0, x2), (0, x3), w4]) (st' := [(0, x3), (0, x1), (2, 321)]) rfl ?_
      refine wp_callv (pc' := 72) (as := [(2, 321), (0, x1), (0, x3)]) (rest := []) (ls1 := [(2, 321), (0, x1), (0, x3)]) rfl rfl rfl rfl rfl rfl ?_
      exact l2 c1 c2
    · refine wp_run 3 (pc' := 40) (ls' := [(2, 321), (0, x1), (0, x2), (0, (z_w (x3 + 1))), w4]) (st' := []) rfl ?_
      exact l3 c1 c2
set_option maxRecDepth 20000 in
theorem gX10_decide_72 {xs : List Int} {d : Nat} {M : z_M} {P : Option z_V → z_L → z_M → Prop} {x1 : Int} {x2 : Int} {x3 : Int} {w4 : z_V} {s0 : Int} (hF : z_fix M) 
    (b1 : (x2 < s0) → 0 ≤ x1 ∧ x1 < 6)
    (l1 : (x2 < s0) → wp xs d mX10_decide 40 [(2, 321), (0, x1), (0, s0), (0, (z_w (x3 + 1))), (0, s0)] [] z_LL (z_up M 344 x1 x3) P)
    (l2 : (¬ (x2 < s0)) → wp xs d mX10_decide 40 [(2, 321), (0, x1), (0, x2), (0, (z_w (x3 + 1))), (0, s0)] [] z_LL M P) :
    wp xs d mX10_decide 72 [(2, 321), (0, x1), (0, x2), (0, x3), w4] [(0, s0)] z_LL M P := by
  refine wp_run 3 (pc' := 77) (ls' := [(2, 321), (0, x1), (0, x2), (0, x3), (0, s0)]) (st' := [(0, x2), (0, s0)]) rfl ?_
  refine wp_if2 rfl rfl rfl (fun (c1 : x2 < s0) => ?_) (fun (c1 : ¬ (x2 < s0)) => ?_)
  · refine wp_run 3 (pc' := 87) (ls' := [(2, 321), (0, x1), (0, s0), (0, x3), (0, s0)]) (st' := [(2, 321)]) rfl ?_
    refine wp_gf (pc' := 90) (t := 2) (v := 344) rfl rfl (by decide) rfl rfl (fx_321_62 hF) ?_
    refine wp_run 2 (pc' := 92) (ls' := [(2, 321), (0, x1), (0, s0), (0, x3), (0, s0)]) (st' := [(0, x3), (0, x1), (2, 344)]) rfl ?_
    refine wp_iast (pc' := 93) rfl rfl rfl (b1 c1) ?_
    refine wp_run 2 (pc' := 40) (ls' := [(2, 321), (0, x1), (0, s0), (0, (z_w (x3 + 1))), (0, s0)]) (st' := []) rfl ?_
    exact l1 c1
  · refine wp_run 3 (pc' := 40) (ls' := [(2, 321), (0, x1), (0, x2), (0, (z_w (x3 + 1))), (0, s0)]) (st' := []) rfl ?_
    exact l2 c1
theorem s_X10_decide {xs : List Int} {d : Nat} {M : z_M} {P : Option z_V → z_L → z_M → Prop} {f : Int} (hF : z_fix M) (hC : z_mc M) (hP : z_fp M) (hf : 0 ≤ f ∧ f < M 321 48) (hA : 0 ≤ M 343 f ∧ M 343 f < M 321 46 * M 321 47) (k : ∀ M' : z_M, (∀ q, q ≠ 329 → q ≠ 330 → q ≠ 344 → M' q = M q) → M' 344 f = z_gl M (M 343) f → (∀ j, j ≠ f → M' 344 j = M 344 j) → P none z_LL M') : wp xs (d + 4) mX10_decide 0 [(2, 321), (0, f), (3, 0), (3, 0), (3, 0)] [] z_LL M P := by
  have hn := hC.2.2.1
  have hx := z_mc_cells hC
  obtain ⟨n, hne⟩ : ∃ n : Nat, M 321 46 * M 321 47 = (n : Int) := ⟨(M 321 46 * M 321 47).toNat, by omega⟩
  have g := gX10_decide_0 (xs := xs) (d := d + 3) (P := P) (a1 := f) hF
  simp only [z_wid (x := 6 + f) (by omega)] at g
  refine g (by omega) (by omega) (by omega) (fun h => ?_) (fun h => ?_)
  · have e1 : ∀ q, q ≠ 329 → q ≠ 330 → q ≠ 344 → (z_up M 344 f (M 343 f)) q = M q := fun q _ _ c => z_upn c
    refine s_X10_pullOf (z_fx3 hF e1) (z_mc_e (z_cf e1) hC) (z_fp_q (z_cf e1) hP) (by rw [e1 321 (by decide) (by decide) (by decide)]; exact hf) (by omega) (fun M1 hM1 => ?_)
    rw [z_pul_q (z_cf e1), e1 343 (by decide) (by decide) (by decide)]
    have key := z_down (W := fun c => ∀ (M' : z_M) (w : z_V), (∀ q, q ≠ 329 → q ≠ 330 → q ≠ 344 → M' q = M q) → M' 344 f = (z_bst M (M 343) f c).2 → (∀ j, j ≠ f → M' 344 j = M 344 j) → wp xs (d + 4) mX10_decide 40 [(2, 321), (0, f), (0, (z_bst M (M 343) f c).1), (0, (c : Int)), w] [] z_LL M' P) n ?_ ?_ 0 (Nat.zero_le _)
    · refine gX10_decide_37 ?_
      refine key M1 (3, 0) (fun q a b c => by rw [hM1 q a b, e1 q a b c]) ?_ (fun j hj => ?_)
      · rw [hM1 344 (by decide) (by decide), z_ups]
        rfl
      · rw [hM1 344 (by decide) (by decide), z_upi hj rfl]
    · intro M' w hM hv hj
      have g := gX10_decide_40 (xs := xs) (d := d + 2) (P := P) (x1 := f) (x2 := (z_bst M (M 343) f n).1) (x3 := (n : Int)) (w4 := w) (z_fx3 hF hM) (z_mc_e (z_cf hM) hC)
      simp only [hM 321 (by decide) (by decide) (by decide), hM 343 (by decide) (by decide) (by decide), hne] at g
      refine g (fun _ => k M' hM ?_ hj) (fun _ => by omega) (fun _ => by omega) (fun _ _ => by omega) (fun _ _ => by omega)
      rw [hv]
      unfold z_gl
      rw [if_neg h, hne, Int.toNat_natCast]
    · intro c hc ih M' w hM hv hj
      have g := gX10_decide_40 (xs := xs) (d := d + 2) (P := P) (x1 := f) (x2 := (z_bst M (M 343) f c).1) (x3 := (c : Int)) (w4 := w) (z_fx3 hF hM) (z_mc_e (z_cf hM) hC)
      have e2 : z_w ((c : Int) + 1) = ((c + 1 : Nat) : Int) := by rw [z_wid (by omega)]; omega
      simp only [hM 321 (by decide) (by decide) (by decide), hM 343 (by decide) (by decide) (by decide), hne, e2] at g
      refine g (fun _ => by omega) (fun _ => by omega) (fun _ => by omega) (fun _ hfar => ?_) (fun _ hfar => ?_)
      · refine s_X10_pullOf (z_fx3 hF hM) (z_mc_e (z_cf hM) hC) (z_fp_q (z_cf hM) hP) (by rw [hM 321 (by decide) (by decide) (by decide)]; exact hf) (by omega) (fun M2 hM2 => ?_)
        rw [z_pul_q (z_cf hM), hM 343 (by decide) (by decide) (by decide)]
        have hM2' : ∀ q, q ≠ 329 → q ≠ 330 → q ≠ 344 → M2 q = M q := fun q a b c => by rw [hM2 q a b, hM q a b c]
        have g := gX10_decide_72 (M := M2) (xs := xs) (d := d + 4) (P := P) (x1 := f) (x2 := (z_bst M (M 343) f c).1) (x3 := (c : Int)) (w4 := w) (s0 := z_pul M (M 343) f c) (z_fx3 hF hM2')
        simp only [e2] at g
        refine g (fun _ => by omega) (fun hb => ?_) (fun hb => ?_)
        · have ih' := ih (z_up M2 344 f c) (0, z_pul M (M 343) f c) (fun q a b c => by rw [z_upn c, hM2' q a b c])
          rw [z_bst_y hfar hb] at ih'
          refine ih' z_ups (fun j hj2 => ?_)
          rw [z_upi hj2 rfl, hM2 344 (by decide) (by decide), hj j hj2]
        · have ih' := ih M2 (0, z_pul M (M 343) f c) hM2'
          rw [z_bst_n (fun q => hb q.2), hM2 344 (by decide) (by decide)] at ih'
          exact ih' hv hj
      · have ih' := ih M' w hM
        rw [z_bst_n (fun q => hfar q.1)] at ih'
        exact ih' hv hj
  · refine k _ (fun q _ _ c => z_upn c) ?_ (fun j hj => z_upi hj rfl)
    rw [z_ups]
    unfold z_gl
    rw [if_pos (by omega)]
