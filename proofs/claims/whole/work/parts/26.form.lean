/-! the formula, worked out -/
theorem z_upn {M : z_M} {c i v q : Int} (h : q ≠ c) : z_up M c i v q = M q := by
  funext b
  exact z_upq h rfl
theorem z_fix_at {M M' : z_M} {c : Int} (h : z_fix M) (hM : ∀ q, q ≠ c → M' q = M q) (hc : ¬ z_fobj c) : z_fix M' := z_fix_eq h (fun q hq => hM q (fun e => hc (e ▸ hq)))
def z_pt (f : Int → Int) (i x : Int) : Int → Int := fun j => if j = i then x else f j
theorem z_pt_s {f : Int → Int} {i x : Int} : z_pt f i x i = x := by
  unfold z_pt
  rw [if_pos rfl]
theorem z_pt_n {f : Int → Int} {i x j : Int} (h : j ≠ i) : z_pt f i x j = f j := by
  unfold z_pt
  rw [if_neg h]
/-- how many numbers lie on the stack ahead of a step -/
def z_ht (kd : Int → Int) : Nat → Int
  | 0 => 0
  | k + 1 => z_ht kd k + (if kd k = 0 ∨ kd k = 1 then 1 else if kd k = 2 then 0 else -1)
/-- what lies there -/
noncomputable def z_fst (kd ar A : Int → Int) : Nat → Int → Int
  | 0 => fun _ => 0
  | k + 1 =>
    if kd k = 0 then z_pt (z_fst kd ar A k) (z_ht kd k) (ar k)
    else if kd k = 1 then z_pt (z_fst kd ar A k) (z_ht kd k) (A (ar k))
    else if kd k = 2 then z_pt (z_fst kd ar A k) (z_ht kd k - 1) (z_b (z_fst kd ar A k (z_ht kd k - 1) = 0))
    else z_pt (z_fst kd ar A k) (z_ht kd k - 2) (z_op (ar k) (z_fst kd ar A k (z_ht kd k - 2)) (z_fst kd ar A k (z_ht kd k - 1)))
/-- a step is sound -/
def z_fw (kd ar : Int → Int) (k : Nat) : Prop := 0 ≤ z_ht kd k ∧ z_ht kd k ≤ 31 ∧ ((kd k = 0 ∧ 0 ≤ ar k) ∨ (kd k = 1 ∧ 0 ≤ ar k ∧ ar k < 6) ∨ (kd k = 2 ∧ 1 ≤ z_ht kd k) ∨ (kd k = 3 ∧ 2 ≤ z_ht kd k))
def z_fp (M : z_M) : Prop := M 321 59 ≠ 0 → 1 ≤ M 321 18 ∧ M 321 18 ≤ 320 ∧ 1 ≤ z_ht (M 326) (M 321 18).toNat ∧ ∀ k : Nat, (k : Int) < M 321 18 → z_fw (M 326) (M 327) k
noncomputable def z_frm (M : z_M) (A : Int → Int) : Int := @ite Int (M 321 59 ≠ 0) (Classical.propDecidable _) (z_fst (M 326) (M 327) A (M 321 18).toNat 0) (z_w (A 0 + z_w (3 * A 1)))
theorem z_nf329 : ¬ z_fobj 329 := by
  unfold z_fobj
  omega
set_option maxRecDepth 20000 in
theorem gX10_worked_0 {xs : List Int} {d : Nat} {M : z_M} {P : Option z_V → z_L → z_M → Prop} (hF : z_fix M) 
    (l1 : ((M 321 59) ≠ 0) → wp xs d mX10_worked 27 [(2, 321), (0, 0), (0, 0)] [] z_LL M P)
    (l2 : (¬ ((M 321 59) ≠ 0)) → P (some (0, (z_w ((M 330 0) + (z_w (3 * (M 330 1))))))) z_LL M) :
    wp xs d mX10_worked 0 [(2, 321), (3, 0), (3, 0)] [] z_LL M P := by
  refine wp_run 1 (pc' := 1) (ls' := [(2, 321), (3, 0), (3, 0)]) (st' := [(2, 321)]) rfl ?_
  refine wp_gf (pc' := 4) (t := 0) (v := (M 321 59)) rfl rfl (by decide) rfl rfl rfl ?_
  refine wp_if1 rfl rfl rfl (fun (c1 : (M 321 59) ≠ 0) => ?_) (fun (c1 : ¬ ((M 321 59) ≠ 0)) => ?_)
  · refine wp_run 4 (pc' := 27) (ls' := [(2, 321), (0, 0), (0, 0)]) (st' := []) rfl ?_
    exact l1 c1
  · refine wp_run 1 (pc' := 8) (ls' := [(2, 321), (3, 0), (3, 0)]) (st' := [(2, 321)]) rfl ?_
    refine wp_gf (pc' := 11) (t := 2) (v := 330) rfl rfl (by decide) rfl rfl (fx_321_24 hF) ?_
    refine wp_run 1 (pc' := 12) (ls' := [(2, 321), (3, 0), (3, 0)]) (st' := [(0, 0), (2, 330)]) rfl ?_
    refine wp_iald (pc' := 13) (v := (M 330 0)) rfl rfl rfl ⟨by decide, by decide⟩ rfl ?_
    refine wp_run 2 (pc' := 15) (ls' := [(2, 321), (3, 0), (3, 0)]) (st' := [(2, 321), (0, 3), (0, (M 330 0))]) rfl ?_
    refine wp_gf (pc' := 18) (t := 2) (v := 330) rfl rfl (by decide) rfl rfl (fx_321_24 hF) ?_
    refine wp_run 1 (pc' := 19) (ls' := [(2, 321), (3, 0), (3, 0)]) (st' := [(0, 1), (2, 330), (0, 3), (0, (M 330 0))]) rfl ?_
    refine wp_iald (pc' := 20) (v := (M 330 1)) rfl rfl rfl ⟨by decide, by decide⟩ rfl ?_
    refine wp_run 2 (pc' := 22) (ls' := [(2, 321), (3, 0), (3, 0)]) (st' := [(0, (z_w ((M 330 0) + (z_w (3 * (M 330 1))))))]) rfl ?_
    exact wp_ret rfl rfl (l2 c1)
set_option maxRecDepth 20000 in
theorem gX10_worked_27 {xs : List Int} {d : Nat} {M : z_M} {P : Option z_V → z_L → z_M → Prop} {x1 : Int} {x2 : Int} (hF : z_fix M) 
    (l1 : ((M 321 18) ≤ x2) → P (some (0, (M 329 0))) z_LL M)
    (b1 : (¬ ((M 321 18) ≤ x2)) → 0 ≤ x2 ∧ x2 < 320)
    (b2 : (¬ ((M 321 18) ≤ x2)) → ((M 326 x2) = 0) → ((M 326 x2) ≠ 0) → 0 ≤ (M 327 x2) ∧ (M 327 x2) < 6)
    (b3 : (¬ ((M 321 18) ≤ x2)) → ((M 326 x2) = 0) → ((M 326 x2) ≠ 0) → 0 ≤ x1 ∧ x1 < 64)
    (l2 : (¬ ((M 321 18) ≤ x2)) → ((M 326 x2) = 0) → ((M 326 x2) ≠ 0) → wp xs (d + 2) mX10_worked 27 [(2, 321), (0, (z_w (x1 + 1))), (0, (z_w (x2 + 1)))] [] z_LL (z_up M 329 x1 (M 330 (M 327 x2))) P)
    (b4 : (¬ ((M 321 18) ≤ x2)) → ((M 326 x2) = 0) → (¬ ((M 326 x2) ≠ 0)) → 0 ≤ x1 ∧ x1 < 64)
    (l3 : (¬ ((M 321 18) ≤ x2)) → ((M 326 x2) = 0) → (¬ ((M 326 x2) ≠ 0)) → wp xs (d + 2) mX10_worked 27 [(2, 321), (0, (z_w (x1 + 1))), (0, (z_w (x2 + 1)))] [] z_LL (z_up M 329 x1 (M 327 x2)) P)
    (b5 : (¬ ((M 321 18) ≤ x2)) → (¬ ((M 326 x2) = 0)) → ((M 326 x2) ≠ 1) → ((M 326 x2) ≠ 2) → 0 ≤ (z_w ((z_w (x1 + (-1))) - 1)) ∧ (z_w ((z_w (x1 + (-1))) - 1)) < 64)
    (b6 : (¬ ((M 321 18) ≤ x2)) → (¬ ((M 326 x2) = 0)) → ((M 326 x2) ≠ 1) → ((M 326 x2) ≠ 2) → 0 ≤ (z_w (x1 + (-1))) ∧ (z_w (x1 + (-1))) < 64)
    (l4 : (¬ ((M 321 18) ≤ x2)) → (¬ ((M 326 x2) = 0)) → ((M 326 x2) ≠ 1) → ((M 326 x2) ≠ 2) → wp xs (d + 2) mX10_worked 27 [(2, 321), (0, (z_w (x1 + (-1)))), (0, (z_w (x2 + 1)))] [] z_LL (z_up M 329 (z_w ((z_w (x1 + (-1))) - 1)) (z_op (M 327 x2) (M 329 (z_w ((z_w (x1 + (-1))) - 1))) (M 329 (z_w (x1 + (-1)))))) P)
    (b7 : (¬ ((M 321 18) ≤ x2)) → (¬ ((M 326 x2) = 0)) → ((M 326 x2) ≠ 1) → (¬ ((M 326 x2) ≠ 2)) → 0 ≤ (z_w (x1 - 1)) ∧ (z_w (x1 - 1)) < 64)
    (l5 : (¬ ((M 321 18) ≤ x2)) → (¬ ((M 326 x2) = 0)) → ((M 326 x2) ≠ 1) → (¬ ((M 326 x2) ≠ 2)) → ((M 329 (z_w (x1 - 1))) ≠ 0) → wp xs (d + 2) mX10_worked 27 [(2, 321), (0, x1), (0, (z_w (x2 + 1)))] [] z_LL (z_up M 329 (z_w (x1 - 1)) 0) P)
    (l6 : (¬ ((M 321 18) ≤ x2)) → (¬ ((M 326 x2) = 0)) → ((M 326 x2) ≠ 1) → (¬ ((M 326 x2) ≠ 2)) → (¬ ((M 329 (z_w (x1 - 1))) ≠ 0)) → wp xs (d + 2) mX10_worked 27 [(2, 321), (0, x1), (0, (z_w (x2 + 1)))] [] z_LL (z_up M 329 (z_w (x1 - 1)) 1) P)
    (b8 : (¬ ((M 321 18) ≤ x2)) → (¬ ((M 326 x2) = 0)) → (¬ ((M 326 x2) ≠ 1)) → ((M 326 x2) ≠ 0) → 0 ≤ (M 327 x2) ∧ (M 327 x2) < 6)
    (b9 : (¬ ((M 321 18) ≤ x2)) → (¬ ((M 326 x2) = 0)) → (¬ ((M 326 x2) ≠ 1)) → ((M 326 x2) ≠ 0) → 0 ≤ x1 ∧ x1 < 64)
    (l7 : (¬ ((M 321 18) ≤ x2)) → (¬ ((M 326 x2) = 0)) → (¬ ((M 326 x2) ≠ 1)) → ((M 326 x2) ≠ 0) → wp xs (d + 2) mX10_worked 27 [(2, 321), (0, (z_w (x1 + 1))), (0, (z_w (x2 + 1)))] [] z_LL (z_up M 329 x1 (M 330 (M 327 x2))) P)
    (b10 : (¬ ((M 321 18) ≤ x2)) → (¬ ((M 326 x2) = 0)) → (¬ ((M 326 x2) ≠ 1)) → (¬ ((M 326 x2) ≠ 0)) → 0 ≤ x1 ∧ x1 < 64)
    (l8 : (¬ ((M 321 18) ≤ x2)) → (¬ ((M 326 x2) = 0)) → (¬ ((M 326 x2) ≠ 1)) → (¬ ((M 326 x2) ≠ 0)) → wp xs (d + 2) mX10_worked 27 [(2, 321), (0, (z_w (x1 + 1))), (0, (z_w (x2 + 1)))] [] z_LL (z_up M 329 x1 (M 327 x2)) P) :
    wp xs (d + 2) mX10_worked 27 [(2, 321), (0, x1), (0, x2)] [] z_LL M P := by
  refine wp_run 2 (pc' := 29) (ls' := [(2, 321), (0, x1), (0, x2)]) (st' := [(2, 321), (0, x2)]) rfl ?_
  refine wp_gf (pc' := 32) (t := 0) (v := (M 321 18)) rfl rfl (by decide) rfl rfl rfl ?_
  refine wp_if2 rfl rfl rfl (fun (c1 : (M 321 18) ≤ x2) => ?_) (fun (c1 : ¬ ((M 321 18) ≤ x2)) => ?_)
  · refine wp_run 1 (pc' := 176) (ls' := [(2, 321), (0, x1), (0, x2)]) (st' := [(2, 321)]) rfl ?_
    refine wp_gf (pc' := 179) (t := 2) (v := 329) rfl rfl (by decide) rfl rfl (fx_321_16 hF) ?_
    refine wp_run 1 (pc' := 180) (ls' := [(2, 321), (0, x1), (0, x2)]) (st' := [(0, 0), (2, 329)]) rfl ?_
    refine wp_iald (pc' := 181) (v := (M 329 0)) rfl rfl rfl ⟨by decide, by decide⟩ rfl ?_
    exact wp_ret rfl rfl (l1 c1)
  · refine wp_run 1 (pc' := 36) (ls' := [(2, 321), (0, x1), (0, x2)]) (st' := [(2, 321)]) rfl ?_
    refine wp_gf (pc' := 39) (t := 2) (v := 326) rfl rfl (by decide) rfl rfl (fx_321_13 hF) ?_
    refine wp_run 1 (pc' := 40) (ls' := [(2, 321), (0, x1), (0, x2)]) (st' := [(0, x2), (2, 326)]) rfl ?_
    refine wp_iald (pc' := 41) (v := (M 326 x2)) rfl rfl rfl (b1 c1) rfl ?_
    refine wp_if1 rfl rfl rfl (fun (c2 : (M 326 x2) = 0) => ?_) (fun (c2 : ¬ ((M 326 x2) = 0)) => ?_)
    · refine wp_run 1 (pc' := 55) (ls' := [(2, 321), (0, x1), (0, x2)]) (st' := [(2, 321)]) rfl ?_
      refine wp_gf (pc' := 58) (t := 2) (v := 329) rfl rfl (by decide) rfl rfl (fx_321_16 hF) ?_
      refine wp_run 2 (pc' := 60) (ls' := [(2, 321), (0, x1), (0, x2)]) (st' := [(2, 321), (0, x1), (2, 329)]) rfl ?_
      refine wp_gf (pc' := 63) (t := 2) (v := 326) rfl rfl (by decide) rfl rfl (fx_321_13 hF) ?_
      refine wp_run 1 (pc' := 64) (ls' := [(2, 321), (0, x1), (0, x2)]) (st' := [(0, x2), (2, 326), (0, x1), (2, 329)]) rfl ?_
      refine wp_iald (pc' := 65) (v := (M 326 x2)) rfl rfl rfl (b1 c1) rfl ?_
      refine wp_if1 rfl rfl rfl (fun (c3 : (M 326 x2) ≠ 0) => ?_) (fun (c3 : ¬ ((M 326 x2) ≠ 0)) => ?_)
      · refine wp_run 1 (pc' := 78) (ls' := [(2, 321), (0, x1), (0, x2)]) (st' := [(2, 321), (0, x1), (2, 329)]) rfl ?_
        refine wp_gf (pc' := 81) (t := 2) (v := 330) rfl rfl (by decide) rfl rfl (fx_321_24 hF) ?_
        refine wp_run 1 (pc' := 82) (ls' := [(2, 321), (0, x1), (0, x2)]) (st' := [(2, 321), (2, 330), (0, x1), (2, 329)]) rfl ?_
        refine wp_gf (pc' := 85) (t := 2) (v := 327) rfl rfl (by decide) rfl rfl (fx_321_14 hF) ?_
        refine wp_run 1 (pc' := 86) (ls' := [(2, 321), (0, x1), (0, x2)]) (st' := [(0, x2), (2, 327), (2, 330), (0, x1), (2, 329)]) rfl ?_
        refine wp_iald (pc' := 87) (v := (M 327 x2)) rfl rfl rfl (b1 c1) rfl ?_
        refine wp_iald (pc' := 88) (v := (M 330 (M 327 x2))) rfl rfl rfl (b2 c1 c2 c3) rfl ?_
        refine wp_iast (pc' := 89) rfl rfl rfl (b3 c1 c2 c3) ?_
        refine wp_run 4 (pc' := 27) (ls' := [(2, 321), (0, (z_w (x1 + 1))), (0, (z_w (x2 + 1)))]) (st' := []) rfl ?_
        exact l2 c1 c2 c3
      · refine wp_run 1 (pc' := 69) (ls' := [(2, 321), (0, x1), (0, x2)]) (st' := [(2, 321), (0, x1), (2, 329)]) rfl ?_
        refine wp_gf (pc' := 72) (t := 2) (v := 327) rfl rfl (by decide) rfl rfl (fx_321_14 hF) ?_
        refine wp_run 1 (pc' := 73) (ls' := [(2, 321), (0, x1), (0, x2)]) (st' := [(0, x2), (2, 327), (0, x1), (2, 329)]) rfl ?_
        refine wp_iald (pc' := 74) (v := (M 327 x2)) rfl rfl rfl (b1 c1) rfl ?_
        refine wp_run 1 (pc' := 88) (ls' := [(2, 321), (0, x1), (0, x2)]) (st' := [(0, (M 327 x2)), (0, x1), (2, 329)]) rfl ?_
        refine wp_iast (pc' := 89) rfl rfl rfl (b4 c1 c2 c3) ?_
        refine wp_run 4 (pc' := 27) (ls' := [(2, 321), (0, (z_w (x1 + 1))), (0, (z_w (x2 + 1)))]) (st' := []) rfl ?_
        exact l3 c1 c2 c3
    · refine wp_run 1 (pc' := 45) (ls' := [(2, 321), (0, x1), (0, x2)]) (st' := [(2, 321)]) rfl ?_
      refine wp_gf (pc' := 48) (t := 2) (v := 326) rfl rfl (by decide) rfl rfl (fx_321_13 hF) ?_
      refine wp_run 1 (pc' := 49) (ls' := [(2, 321), (0, x1), (0, x2)]) (st' := [(0, x2), (2, 326)]) rfl ?_
      refine wp_iald (pc' := 50) (v := (M 326 x2)) rfl rfl rfl (b1 c1) rfl ?_
      refine wp_run 1 (pc' := 51) (ls' := [(2, 321), (0, x1), (0, x2)]) (st' := [(0, 1), (0, (M 326 x2))]) rfl ?_
      refine wp_if2 rfl rfl rfl (fun (c4 : (M 326 x2) ≠ 1) => ?_) (fun (c4 : ¬ ((M 326 x2) ≠ 1)) => ?_)
      · refine wp_run 1 (pc' := 96) (ls' := [(2, 321), (0, x1), (0, x2)]) (st' := [(2, 321)]) rfl ?_
        refine wp_gf (pc' := 99) (t := 2) (v := 326) rfl rfl (by decide) rfl rfl (fx_321_13 hF) ?_
        refine wp_run 1 (pc' := 100) (ls' := [(2, 321), (0, x1), (0, x2)]) (st' := [(0, x2), (2, 326)]) rfl ?_
        refine wp_iald (pc' := 101) (v := (M 326 x2)) rfl rfl rfl (b1 c1) rfl ?_
        refine wp_run 1 (pc' := 102) (ls' := [(2, 321), (0, x1), (0, x2)]) (st' := [(0, 2), (0, (M 326 x2))]) rfl ?_
        refine wp_if2 rfl rfl rfl (fun (c5 : (M 326 x2) ≠ 2) => ?_) (fun (c5 : ¬ ((M 326 x2) ≠ 2)) => ?_)
        · refine wp_run 2 (pc' := 139) (ls' := [(2, 321), (0, (z_w (x1 + (-1)))), (0, x2)]) (st' := [(2, 321)]) rfl ?_
          refine wp_gf (pc' := 142) (t := 2) (v := 329) rfl rfl (by decide) rfl rfl (fx_321_16 hF) ?_
          refine wp_run 4 (pc' := 146) (ls' := [(2, 321), (0, (z_w (x1 + (-1)))), (0, x2)]) (st' := [(2, 321), (0, (z_w ((z_w (x1 + (-1))) - 1))), (2, 329)]) rfl ?_
          refine wp_gf (pc' := 149) (t := 2) (v := 327) rfl rfl (by decide) rfl rfl (fx_321_14 hF) ?_
          refine wp_run 1 (pc' := 150) (ls' := [(2, 321), (0, (z_w (x1 + (-1)))), (0, x2)]) (st' := [(0, x2), (2, 327), (0, (z_w ((z_w (x1 + (-1))) - 1))), (2, 329)]) rfl ?_
          refine wp_iald (pc' := 151) (v := (M 327 x2)) rfl rfl rfl (b1 c1) rfl ?_
          refine wp_run 1 (pc' := 152) (ls' := [(2, 321), (0, (z_w (x1 + (-1)))), (0, x2)]) (st' := [(2, 321), (0, (M 327 x2)), (0, (z_w ((z_w (x1 + (-1))) - 1))), (2, 329)]) rfl ?_
          refine wp_gf (pc' := 155) (t := 2) (v := 329) rfl rfl (by decide) rfl rfl (fx_321_16 hF) ?_
          refine wp_run 3 (pc' := 158) (ls' := [(2, 321), (0, (z_w (x1 + (-1)))), (0, x2)]) (st' := [(0, (z_w ((z_w (x1 + (-1))) - 1))), (2, 329), (0, (M 327 x2)), (0, (z_w ((z_w (x1 + (-1))) - 1))), (2, 329)]) rfl ?_
          refine wp_iald (pc' := 159) (v := (M 329 (z_w ((z_w (x1 + (-1))) - 1)))) rfl rfl rfl (b5 c1 c2 c4 c5) rfl ?_
          refine wp_run 1 (pc' := 160) (ls' := [(2, 321), (0, (z_w (x1 + (-1)))), (0, x2)]) (st' := [(2, 321), (0, (M 329 (z_w ((z_w (x1 + (-1))) - 1)))), (0, (M 327 x2)), (0, (z_w ((z_w (x1 + (-1))) - 1))), (2, 329)]) rfl ?_
          refine wp_gf (pc' := 163) (t := 2) (v := 329) rfl rfl (by decide) rfl rfl (fx_321_16 hF) ?_
          refine wp_run 1 (pc' := 164) (ls' := [(2, 321), (0, (z_w (x1 + (-1)))), (0, x2)]) (st' := [(0, (z_w (x1 + (-1)))), (2, 329), (0, (M 329 (z_w ((z_w (x1 + (-1))) - 1)))), (0, (M 327 x2)), (0, (z_w ((z_w (x1 + (-1))) - 1))), (2, 329)]) rfl ?_
          refine wp_iald (pc' := 165) (v := (M 329 (z_w (x1 + (-1))))) rfl rfl rfl (b6 c1 c2 c4 c5) rfl ?_
          refine wp_callv (pc' := 168) (as := [(0, (M 327 x2)), (0, (M 329 (z_w ((z_w (x1 + (-1))) - 1)))), (0, (M 329 (z_w (x1 + (-1)))))]) (rest := [(0, (z_w ((z_w (x1 + (-1))) - 1))), (2, 329)]) (ls1 := [(0, (M 327 x2)), (0, (M 329 (z_w ((z_w (x1 + (-1))) - 1)))), (0, (M 329 (z_w (x1 + (-1)))))]) rfl rfl rfl rfl rfl rfl ?_
          refine s_X10_done  ?_
          show wp xs _ mX10_worked 168 [(2, 321), (0, (z_w (x1 + (-1)))), (0, x2)] [(0, (z_op (M 327 x2) (M 329 (z_w ((z_w (x1 + (-1))) - 1))) (M 329 (z_w (x1 + (-1)))))), (0, (z_w ((z_w (x1 + (-1))) - 1))), (2, 329)] z_LL M _
          refine wp_iast (pc' := 169) rfl rfl rfl (b5 c1 c2 c4 c5) ?_
          refine wp_run 2 (pc' := 27) (ls' := [(2, 321), (0, (z_w (x1 + (-1)))), (0, (z_w (x2 + 1)))]) (st' := []) rfl ?_
          exact l4 c1 c2 c4 c5
        · refine wp_run 1 (pc' := 106) (ls' := [(2, 321), (0, x1), (0, x2)]) (st' := [(2, 321)]) rfl ?_
          refine wp_gf (pc' := 109) (t := 2) (v := 329) rfl rfl (by decide) rfl rfl (fx_321_16 hF) ?_
          refine wp_run 4 (pc' := 113) (ls' := [(2, 321), (0, x1), (0, x2)]) (st' := [(2, 321), (0, (z_w (x1 - 1))), (2, 329)]) rfl ?_
          refine wp_gf (pc' := 116) (t := 2) (v := 329) rfl rfl (by decide) rfl rfl (fx_321_16 hF) ?_
          refine wp_run 3 (pc' := 119) (ls' := [(2, 321), (0, x1), (0, x2)]) (st' := [(0, (z_w (x1 - 1))), (2, 329), (0, (z_w (x1 - 1))), (2, 329)]) rfl ?_
          refine wp_iald (pc' := 120) (v := (M 329 (z_w (x1 - 1)))) rfl rfl rfl (b7 c1 c2 c4 c5) rfl ?_
          refine wp_if1 rfl rfl rfl (fun (c6 : (M 329 (z_w (x1 - 1))) ≠ 0) => ?_) (fun (c6 : ¬ ((M 329 (z_w (x1 - 1))) ≠ 0)) => ?_)
          · refine wp_run 1 (pc' := 128) (ls' := [(2, 321), (0, x1), (0, x2)]) (st' := [(0, 0), (0, (z_w (x1 - 1))), (2, 329)]) rfl ?_
            refine wp_callv (pc' := 131) (as := [(0, 0)]) (rest := [(0, (z_w (x1 - 1))), (2, 329)]) (ls1 := [(0, 0)]) rfl rfl rfl rfl rfl rfl ?_
            refine s_X10_truth (by decide) ?_
            show wp xs _ mX10_worked 131 [(2, 321), (0, x1), (0, x2)] [(0, 0), (0, (z_w (x1 - 1))), (2, 329)] z_LL M _
            refine wp_iast (pc' := 132) rfl rfl rfl (b7 c1 c2 c4 c5) ?_
            refine wp_run 3 (pc' := 27) (ls' := [(2, 321), (0, x1), (0, (z_w (x2 + 1)))]) (st' := []) rfl ?_
            exact l5 c1 c2 c4 c5 c6
          · refine wp_run 2 (pc' := 128) (ls' := [(2, 321), (0, x1), (0, x2)]) (st' := [(0, 1), (0, (z_w (x1 - 1))), (2, 329)]) rfl ?_
            refine wp_callv (pc' := 131) (as := [(0, 1)]) (rest := [(0, (z_w (x1 - 1))), (2, 329)]) (ls1 := [(0, 1)]) rfl rfl rfl rfl rfl rfl ?_
            refine s_X10_truth (by decide) ?_
            show wp xs _ mX10_worked 131 [(2, 321), (0, x1), (0, x2)] [(0, 1), (0, (z_w (x1 - 1))), (2, 329)] z_LL M _
            refine wp_iast (pc' := 132) rfl rfl rfl (b7 c1 c2 c4 c5) ?_
            refine wp_run 3 (pc' := 27) (ls' := [(2, 321), (0, x1), (0, (z_w (x2 + 1)))]) (st' := []) rfl ?_
            exact l6 c1 c2 c4 c5 c6
      · refine wp_run 1 (pc' := 55) (ls' := [(2, 321), (0, x1), (0, x2)]) (st' := [(2, 321)]) rfl ?_
        refine wp_gf (pc' := 58) (t := 2) (v := 329) rfl rfl (by decide) rfl rfl (fx_321_16 hF) ?_
        refine wp_run 2 (pc' := 60) (ls' := [(2, 321), (0, x1), (0, x2)]) (st' := [(2, 321), (0, x1), (2, 329)]) rfl ?_
        refine wp_gf (pc' := 63) (t := 2) (v := 326) rfl rfl (by decide) rfl rfl (fx_321_13 hF) ?_
        refine wp_run 1 (pc' := 64) (ls' := [(2, 321), (0, x1), (0, x2)]) (st' := [(0, x2), (2, 326), (0, x1), (2, 329)]) rfl ?_
        refine wp_iald (pc' := 65) (v := (M 326 x2)) rfl rfl rfl (b1 c1) rfl ?_
        refine wp_if1 rfl rfl rfl (fun (c7 : (M 326 x2) ≠ 0) => ?_) (fun (c7 : ¬ ((M 326 x2) ≠ 0)) => ?_)
        · refine wp_run 1 (pc' := 78) (ls' := [(2, 321), (0, x1), (0, x2)]) (st' := [(2, 321), (0, x1), (2, 329)]) rfl ?_
          refine wp_gf (pc' := 81) (t := 2) (v := 330) rfl rfl (by decide) rfl rfl (fx_321_24 hF) ?_
          refine wp_run 1 (pc' := 82) (ls' := [(2, 321), (0, x1), (0, x2)]) (st' := [(2, 321), (2, 330), (0, x1), (2, 329)]) rfl ?_
          refine wp_gf (pc' := 85) (t := 2) (v := 327) rfl rfl (by decide) rfl rfl (fx_321_14 hF) ?_
          refine wp_run 1 (pc' := 86) (ls' := [(2, 321), (0, x1), (0, x2)]) (st' := [(0, x2), (2, 327), (2, 330), (0, x1), (2, 329)]) rfl ?_
          refine wp_iald (pc' := 87) (v := (M 327 x2)) rfl rfl rfl (b1 c1) rfl ?_
          refine wp_iald (pc' := 88) (v := (M 330 (M 327 x2))) rfl rfl rfl (b8 c1 c2 c4 c7) rfl ?_
          refine wp_iast (pc' := 89) rfl rfl rfl (b9 c1 c2 c4 c7) ?_
          refine wp_run 4 (pc' := 27) (ls' := [(2, 321), (0, (z_w (x1 + 1))), (0, (z_w (x2 + 1)))]) (st' := []) rfl ?_
          exact l7 c1 c2 c4 c7
        · refine wp_run 1 (pc' := 69) (ls' := [(2, 321), (0, x1), (0, x2)]) (st' := [(2, 321), (0, x1), (2, 329)]) rfl ?_
          refine wp_gf (pc' := 72) (t := 2) (v := 327) rfl rfl (by decide) rfl rfl (fx_321_14 hF) ?_
          refine wp_run 1 (pc' := 73) (ls' := [(2, 321), (0, x1), (0, x2)]) (st' := [(0, x2), (2, 327), (0, x1), (2, 329)]) rfl ?_
          refine wp_iald (pc' := 74) (v := (M 327 x2)) rfl rfl rfl (b1 c1) rfl ?_
          refine wp_run 1 (pc' := 88) (ls' := [(2, 321), (0, x1), (0, x2)]) (st' := [(0, (M 327 x2)), (0, x1), (2, 329)]) rfl ?_
          refine wp_iast (pc' := 89) rfl rfl rfl (b10 c1 c2 c4 c7) ?_
          refine wp_run 4 (pc' := 27) (ls' := [(2, 321), (0, (z_w (x1 + 1))), (0, (z_w (x2 + 1)))]) (st' := []) rfl ?_
          exact l8 c1 c2 c4 c7
theorem s_X10_worked {xs : List Int} {d : Nat} {M : z_M} {P : Option z_V → z_L → z_M → Prop} (hF : z_fix M) (hP : z_fp M) (k : ∀ M' : z_M, (∀ q, q ≠ 329 → M' q = M q) → P (some (0, z_frm M (M 330))) z_LL M') : wp xs (d + 2) mX10_worked 0 [(2, 321), (3, 0), (3, 0)] [] z_LL M P := by
  refine gX10_worked_0 hF (fun h => ?_) (fun h => ?_)
  · obtain ⟨h1, h2, h3, hw⟩ := hP h
    unfold z_frm at k
    rw [if_pos h] at k
    obtain ⟨n, hn⟩ : ∃ n : Nat, M 321 18 = (n : Int) := ⟨(M 321 18).toNat, by omega⟩
    rw [hn] at h1 h2 h3 hw k
    rw [Int.toNat_natCast] at h3 k
    have key := z_down (W := fun i => ∀ M' : z_M, (∀ q, q ≠ 329 → M' q = M q) → (∀ j : Int, 0 ≤ j → j < z_ht (M 326) i → M' 329 j = z_fst (M 326) (M 327) (M 330) i j) → wp xs (d + 2) mX10_worked 27 [(2, 321), (0, z_ht (M 326) i), (0, (i : Int))] [] z_LL M' P) n ?_ ?_ 0 (Nat.zero_le _)
    · refine key M (fun _ _ => rfl) (fun j a b => ?_)
      unfold z_ht at b
      omega
    · intro M' hM hv
      have e18 : M' 321 18 = (n : Int) := by rw [hM 321 (by decide), hn]
      have g := gX10_worked_27 (xs := xs) (d := d) (P := P) (x1 := z_ht (M 326) n) (x2 := (n : Int)) (z_fix_at hF hM z_nf329)
      simp only [e18] at g
      apply g
      · intro _
        rw [hv 0 (by omega) (by omega)]
        exact k M' hM
      all_goals intros; exfalso; omega
    · intro i hi ih M' hM hv
      obtain ⟨w1, w2, w3⟩ := hw i (by omega)
      have e18 : M' 321 18 = (n : Int) := by rw [hM 321 (by decide), hn]
      have e326 : M' 326 = M 326 := hM 326 (by decide)
      have e327 : M' 327 = M 327 := hM 327 (by decide)
      have e330 : M' 330 = M 330 := hM 330 (by decide)
      have e2 : z_w ((i : Int) + 1) = ((i + 1 : Nat) : Int) := by rw [z_wid (by omega)]; omega
      have g := gX10_worked_27 (xs := xs) (d := d) (P := P) (x1 := z_ht (M 326) i) (x2 := (i : Int)) (z_fix_at hF hM z_nf329)
      simp only [e18, e326, e327, e330, e2] at g
      have up : ∀ y v : Int, (∀ q, q ≠ 329 → z_up M' 329 y v q = M q) := fun y v q hq => by rw [z_upn hq, hM q hq]
      rcases w3 with ⟨c, a1⟩ | ⟨c, a1, a2⟩ | ⟨c, a1⟩ | ⟨c, a1⟩
      · have eh : z_ht (M 326) (i + 1) = z_ht (M 326) i + 1 := by rw [z_ht, if_pos (Or.inl c)]
        have ef : z_fst (M 326) (M 327) (M 330) (i + 1) = z_pt (z_fst (M 326) (M 327) (M 330) i) (z_ht (M 326) i) (M 327 i) := by rw [z_fst, if_pos c]
        apply g
        all_goals (intros; first | omega | (exfalso; omega) | skip)
        rw [z_wid (x := z_ht (M 326) i + 1) (by omega), ← eh]
        refine ih _ (up _ _) (fun j b1 b2 => ?_)
        rw [ef]
        by_cases hj : j = z_ht (M 326) i
        · rw [hj, z_ups, z_pt_s]
        · rw [z_upi hj rfl, z_pt_n hj, hv j b1 (by omega)]
      · have eh : z_ht (M 326) (i + 1) = z_ht (M 326) i + 1 := by rw [z_ht, if_pos (Or.inr c)]
        have ef : z_fst (M 326) (M 327) (M 330) (i + 1) = z_pt (z_fst (M 326) (M 327) (M 330) i) (z_ht (M 326) i) (M 330 (M 327 i)) := by rw [z_fst, if_neg (by omega), if_pos c]
        apply g
        all_goals (intros; first | omega | (exfalso; omega) | skip)
        rw [z_wid (x := z_ht (M 326) i + 1) (by omega), ← eh]
        refine ih _ (up _ _) (fun j b1 b2 => ?_)
        rw [ef]
        by_cases hj : j = z_ht (M 326) i
        · rw [hj, z_ups, z_pt_s]
        · rw [z_upi hj rfl, z_pt_n hj, hv j b1 (by omega)]
      · have eh : z_ht (M 326) (i + 1) = z_ht (M 326) i := by rw [z_ht, if_neg (by omega), if_pos c, Int.add_zero]
        have ef : z_fst (M 326) (M 327) (M 330) (i + 1) = z_pt (z_fst (M 326) (M 327) (M 330) i) (z_ht (M 326) i - 1) (z_b (z_fst (M 326) (M 327) (M 330) i (z_ht (M 326) i - 1) = 0)) := by rw [z_fst, if_neg (by omega), if_neg (by omega), if_pos c]
        have ev := hv (z_ht (M 326) i - 1) (by omega) (by omega)
        simp only [z_wid (x := z_ht (M 326) i - 1) (by omega), ev] at g
        have fin : ∀ y : Int, y = z_b (z_fst (M 326) (M 327) (M 330) i (z_ht (M 326) i - 1) = 0) → wp xs (d + 2) mX10_worked 27 [(2, 321), (0, z_ht (M 326) i), (0, ((i + 1 : Nat) : Int))] [] z_LL (z_up M' 329 (z_ht (M 326) i - 1) y) P := by
          intro y hy
          have ih' := ih (z_up M' 329 (z_ht (M 326) i - 1) y) (up _ _)
          rw [eh] at ih'
          refine ih' (fun j b1 b2 => ?_)
          rw [ef]
          by_cases hj : j = z_ht (M 326) i - 1
          · rw [hj, z_ups, z_pt_s, hy]
          · rw [z_upi hj rfl, z_pt_n hj, hv j b1 (by omega)]
        apply g
        all_goals (intros; first | omega | (exfalso; omega) | skip)
        · exact fin 0 (z_b_f (by assumption)).symm
        · exact fin 1 (z_b_t (by omega)).symm
      · have eh : z_ht (M 326) (i + 1) = z_ht (M 326) i - 1 := by rw [z_ht, if_neg (by omega), if_neg (by omega)]; rfl
        have ef : z_fst (M 326) (M 327) (M 330) (i + 1) = z_pt (z_fst (M 326) (M 327) (M 330) i) (z_ht (M 326) i - 2) (z_op (M 327 i) (z_fst (M 326) (M 327) (M 330) i (z_ht (M 326) i - 2)) (z_fst (M 326) (M 327) (M 330) i (z_ht (M 326) i - 1))) := by rw [z_fst, if_neg (by omega), if_neg (by omega), if_neg (by omega)]
        have ev1 := hv (z_ht (M 326) i - 1) (by omega) (by omega)
        have ev2 := hv (z_ht (M 326) i - 2) (by omega) (by omega)
        have t1 : z_w (z_ht (M 326) i + -1) = z_ht (M 326) i - 1 := by rw [z_wid (by omega)]; omega
        have t2 : z_w (z_ht (M 326) i - 1 - 1) = z_ht (M 326) i - 2 := by rw [z_wid (by omega)]; omega
        simp only [t1, t2, ev1, ev2] at g
        apply g
        all_goals (intros; first | omega | (exfalso; omega) | skip)
        have ih' := fun y => ih (z_up M' 329 (z_ht (M 326) i - 2) y) (up _ _)
        rw [eh] at ih'
        refine ih' _ (fun j b1 b2 => ?_)
        rw [ef]
        by_cases hj : j = z_ht (M 326) i - 2
        · rw [hj, z_ups, z_pt_s]
        · rw [z_upi hj rfl, z_pt_n hj, hv j b1 (by omega)]
  · unfold z_frm at k
    rw [if_neg h] at k
    exact k M (fun _ _ => rfl)
