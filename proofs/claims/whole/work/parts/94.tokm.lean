/-! THE MODEL READS TOKENS -/
theorem z_lsl8 {w c : Int} (h : 0 ≤ w ∧ w < 36028797018963968) (hc : 0 ≤ c ∧ c < 256) : z_lor (z_lshl w 8) c = w * 256 + c := by
  unfold z_lor z_lshl
  rw [Int64.ofInt_toInt]
  show ((Int64.ofInt w <<< ((Int32.ofInt 8).toInt64 &&& 63) ||| Int64.ofInt c).toBitVec).toInt = _
  rw [Int64.toBitVec_or, Int64.toBitVec_shiftLeft]
  have e : ((Int32.ofInt 8).toInt64 &&& 63).toBitVec.smod 64 = 8#64 := by decide
  rw [e]
  have h1 : ((Int64.ofInt w).toBitVec <<< 8#64 ||| (Int64.ofInt c).toBitVec).toNat = w.toNat * 256 + c.toNat := by
    rw [BitVec.toNat_or]
    show ((BitVec.ofInt 64 w <<< (8 : Nat)).toNat ||| (BitVec.ofInt 64 c).toNat) = _
    rw [BitVec.toNat_shiftLeft, BitVec.toNat_ofInt, BitVec.toNat_ofInt]
    have e1 : (w % ((2 ^ 64 : Nat) : Int)).toNat = w.toNat := by omega
    have e2 : (c % ((2 ^ 64 : Nat) : Int)).toNat = c.toNat := by omega
    rw [e1, e2]
    have e3 : w.toNat <<< 8 % 2 ^ 64 = w.toNat <<< 8 := by
      rw [Nat.shiftLeft_eq]
      omega
    rw [e3, ← Nat.shiftLeft_add_eq_or_of_lt (by omega), Nat.shiftLeft_eq]
  rw [BitVec.toInt_eq_toNat_cond, h1]
  split <;> omega
theorem z_c8_h : ∀ l : List Int, z_glt l → z_c8 l * 2 + 1 ≤ 256 ^ l.length
  | [], _ => by decide
  | x :: l, h => by
    have ih := z_c8_h l (fun y hy => h y (List.mem_cons_of_mem _ hy))
    have := h x List.mem_cons_self
    rw [z_c8, List.length_cons, Int.pow_succ]
    omega
set_option maxRecDepth 20000 in
theorem gX10_token_0 {xs : List Int} {d : Nat} {M : z_M} {P : Option z_V → z_L → z_M → Prop} (hF : z_fix M) 
    (b1 : ((0 ≤ M 321 4 ∧ M 321 4 ≤ 1600) ∧ ((0:Int) ≤ 0 ∧ 0 ≤ (1600:Int)) ∧ M 321 5 ≤ 1600))
    (l1 : ((zt_h M 0) = 32) → wp xs (d + 1) mX10_token 0 [(2, 321), (3, 0), (3, 0)] [] z_LL (z_up M 321 4 (z_w ((M 321 4) + 1))) P)
    (l2 : (¬ ((zt_h M 0) = 32)) → ((zt_h M 0) ≠ 10) → (0 ≤ (zt_h M 0)) → (¬ (97 ≤ (zt_h M 0) ∧ (zt_h M 0) ≤ 122)) → (¬ (48 ≤ (zt_h M 0) ∧ (zt_h M 0) ≤ 57)) → (¬ (z_isg (zt_h M 0))) → P none z_LL (z_up (z_up (z_up (z_up M 321 7 (M 321 4)) 321 9 0) 321 8 0) 321 6 3))
    (l3 : (¬ ((zt_h M 0) = 32)) → ((zt_h M 0) ≠ 10) → (0 ≤ (zt_h M 0)) → (¬ (97 ≤ (zt_h M 0) ∧ (zt_h M 0) ≤ 122)) → (¬ (48 ≤ (zt_h M 0) ∧ (zt_h M 0) ≤ 57)) → ((z_isg (zt_h M 0))) → ((zt_h M 0) = 3) → P none z_LL (z_up (z_up (z_up (z_up M 321 7 (M 321 4)) 321 9 0) 321 8 0) 321 6 (zt_h M 0)))
    (l4 : (¬ ((zt_h M 0) = 32)) → ((zt_h M 0) ≠ 10) → (0 ≤ (zt_h M 0)) → (¬ (97 ≤ (zt_h M 0) ∧ (zt_h M 0) ≤ 122)) → (¬ (48 ≤ (zt_h M 0) ∧ (zt_h M 0) ≤ 57)) → ((z_isg (zt_h M 0))) → (¬ ((zt_h M 0) = 3)) → P none z_LL (z_up (z_up (z_up (z_up (z_up M 321 7 (M 321 4)) 321 9 0) 321 8 0) 321 6 (zt_h M 0)) 321 4 (z_w ((M 321 4) + 1))))
    (l5 : (¬ ((zt_h M 0) = 32)) → ((zt_h M 0) ≠ 10) → (0 ≤ (zt_h M 0)) → (¬ (97 ≤ (zt_h M 0) ∧ (zt_h M 0) ≤ 122)) → ((48 ≤ (zt_h M 0) ∧ (zt_h M 0) ≤ 57)) → wp xs (d + 1) mX10_token 144 [(2, 321), (0, (zt_h M 0)), (0, 0)] [] z_LL (z_up (z_up (z_up M 321 7 (M 321 4)) 321 9 0) 321 8 0) P)
    (l6 : (¬ ((zt_h M 0) = 32)) → ((zt_h M 0) ≠ 10) → (0 ≤ (zt_h M 0)) → ((97 ≤ (zt_h M 0) ∧ (zt_h M 0) ≤ 122)) → wp xs (d + 1) mX10_token 78 [(2, 321), (0, (zt_h M 0)), (0, 0)] [] z_LL (z_up (z_up (z_up M 321 7 (M 321 4)) 321 9 0) 321 8 0) P)
    (l7 : (¬ ((zt_h M 0) = 32)) → ((zt_h M 0) ≠ 10) → (¬ (0 ≤ (zt_h M 0))) → P none z_LL (z_up (z_up (z_up (z_up (z_up M 321 7 (M 321 4)) 321 9 0) 321 8 0) 321 6 0) 321 4 (z_w ((M 321 4) + 0))))
    (l8 : (¬ ((zt_h M 0) = 32)) → (¬ ((zt_h M 0) ≠ 10)) → wp xs (d + 1) mX10_token 0 [(2, 321), (3, 0), (3, 0)] [] z_LL (z_up M 321 4 (z_w ((M 321 4) + 1))) P) :
    wp xs (d + 1) mX10_token 0 [(2, 321), (3, 0), (3, 0)] [] z_LL M P := by
  refine wp_run 2 (pc' := 2) (ls' := [(2, 321), (3, 0), (3, 0)]) (st' := [(0, 0), (2, 321)]) rfl ?_
  refine wp_callv (pc' := 5) (as := [(2, 321), (0, 0)]) (rest := []) (ls1 := [(2, 321), (0, 0)]) rfl rfl rfl rfl rfl rfl ?_
  refine s_X10_here hF (b1) ?_
  show wp xs _ mX10_token 5 [(2, 321), (3, 0), (3, 0)] [(0, (zt_h M 0))] z_LL M _
  refine wp_run 1 (pc' := 7) (ls' := [(2, 321), (3, 0), (3, 0)]) (st' := [(0, 32), (0, (zt_h M 0))]) rfl ?_
  refine wp_if2 rfl rfl rfl (fun (c1 : (zt_h M 0) = 32) => ?_) (fun (c1 : ¬ ((zt_h M 0) = 32)) => ?_)
  · refine wp_run 2 (pc' := 22) (ls' := [(2, 321), (3, 0), (3, 0)]) (st' := [(2, 321), (2, 321)]) rfl ?_
    refine wp_gf (pc' := 25) (t := 0) (v := (M 321 4)) rfl rfl (by decide) rfl rfl rfl ?_
    refine wp_run 2 (pc' := 27) (ls' := [(2, 321), (3, 0), (3, 0)]) (st' := [(0, (z_w ((M 321 4) + 1))), (2, 321)]) rfl ?_
    refine wp_pf (pc' := 30) rfl rfl rfl rfl (fun z => absurd z (by decide)) (fun z => absurd z (by decide)) ?_
    refine wp_run 1 (pc' := 0) (ls' := [(2, 321), (3, 0), (3, 0)]) (st' := []) rfl ?_
    exact l1 c1
  · refine wp_run 2 (pc' := 12) (ls' := [(2, 321), (3, 0), (3, 0)]) (st' := [(0, 0), (2, 321)]) rfl ?_
    refine wp_callv (pc' := 15) (as := [(2, 321), (0, 0)]) (rest := []) (ls1 := [(2, 321), (0, 0)]) rfl rfl rfl rfl rfl rfl ?_
    refine s_X10_here hF (b1) ?_
    show wp xs _ mX10_token 15 [(2, 321), (3, 0), (3, 0)] [(0, (zt_h M 0))] z_LL M _
    refine wp_run 1 (pc' := 17) (ls' := [(2, 321), (3, 0), (3, 0)]) (st' := [(0, 10), (0, (zt_h M 0))]) rfl ?_
    refine wp_if2 rfl rfl rfl (fun (c2 : (zt_h M 0) ≠ 10) => ?_) (fun (c2 : ¬ ((zt_h M 0) ≠ 10)) => ?_)
    · refine wp_run 2 (pc' := 35) (ls' := [(2, 321), (3, 0), (3, 0)]) (st' := [(2, 321), (2, 321)]) rfl ?_
      refine wp_gf (pc' := 38) (t := 0) (v := (M 321 4)) rfl rfl (by decide) rfl rfl rfl ?_
      refine wp_pf (pc' := 41) rfl rfl rfl rfl (fun z => absurd z (by decide)) (fun z => absurd z (by decide)) ?_
      refine wp_run 2 (pc' := 43) (ls' := [(2, 321), (3, 0), (3, 0)]) (st' := [(0, 0), (2, 321)]) rfl ?_
      refine wp_callv (pc' := 46) (as := [(2, 321), (0, 0)]) (rest := []) (ls1 := [(2, 321), (0, 0)]) rfl rfl rfl rfl rfl rfl ?_
      refine s_X10_here (z_fix_i (by decide) hF) (b1) ?_
      show wp xs _ mX10_token 46 [(2, 321), (3, 0), (3, 0)] [(0, (zt_h M 0))] z_LL (z_up M 321 7 (M 321 4)) _
      refine wp_run 5 (pc' := 51) (ls' := [(2, 321), (0, (zt_h M 0)), (0, 0)]) (st' := [(1, 0), (2, 321)]) rfl ?_
      refine wp_pf (pc' := 54) rfl rfl rfl rfl (fun z => absurd z (by decide)) (fun z => absurd z (by decide)) ?_
      refine wp_run 2 (pc' := 56) (ls' := [(2, 321), (0, (zt_h M 0)), (0, 0)]) (st' := [(0, 0), (2, 321)]) rfl ?_
      refine wp_pf (pc' := 59) rfl rfl rfl rfl (fun z => absurd z (by decide)) (fun z => absurd z (by decide)) ?_
      refine wp_run 1 (pc' := 60) (ls' := [(2, 321), (0, (zt_h M 0)), (0, 0)]) (st' := [(0, (zt_h M 0))]) rfl ?_
      refine wp_if1 rfl rfl rfl (fun (c3 : 0 ≤ (zt_h M 0)) => ?_) (fun (c3 : ¬ (0 ≤ (zt_h M 0))) => ?_)
      · refine wp_run 1 (pc' := 72) (ls' := [(2, 321), (0, (zt_h M 0)), (0, 0)]) (st' := [(0, (zt_h M 0))]) rfl ?_
        refine wp_callv (pc' := 75) (as := [(0, (zt_h M 0))]) (rest := []) (ls1 := [(0, (zt_h M 0))]) rfl rfl rfl rfl rfl rfl ?_
        refine s_X10_isLetter  ?_
        show wp xs _ mX10_token 75 [(2, 321), (0, (zt_h M 0)), (0, 0)] [(0, (z_b (97 ≤ (zt_h M 0) ∧ (zt_h M 0) ≤ 122)))] z_LL (z_up (z_up (z_up M 321 7 (M 321 4)) 321 9 0) 321 8 0) _
        refine wp_be rfl rfl rfl (fun (c4 : ¬ (97 ≤ (zt_h M 0) ∧ (zt_h M 0) ≤ 122)) => ?_) (fun (c4 : (97 ≤ (zt_h M 0) ∧ (zt_h M 0) ≤ 122)) => ?_)
        · refine wp_run 1 (pc' := 138) (ls' := [(2, 321), (0, (zt_h M 0)), (0, 0)]) (st' := [(0, (zt_h M 0))]) rfl ?_
          refine wp_callv (pc' := 141) (as := [(0, (zt_h M 0))]) (rest := []) (ls1 := [(0, (zt_h M 0))]) rfl rfl rfl rfl rfl rfl ?_
          refine s_X10_isDigit  ?_
          show wp xs _ mX10_token 141 [(2, 321), (0, (zt_h M 0)), (0, 0)] [(0, (z_b (48 ≤ (zt_h M 0) ∧ (zt_h M 0) ≤ 57)))] z_LL (z_up (z_up (z_up M 321 7 (M 321 4)) 321 9 0) 321 8 0) _
          refine wp_be rfl rfl rfl (fun (c5 : ¬ (48 ≤ (zt_h M 0) ∧ (zt_h M 0) ≤ 57)) => ?_) (fun (c5 : (48 ≤ (zt_h M 0) ∧ (zt_h M 0) ≤ 57)) => ?_)
          · refine wp_run 4 (pc' := 218) (ls' := [(2, 321), (0, (zt_h M 0)), (0, 1)]) (st' := [(0, (zt_h M 0)), (2, 321)]) rfl ?_
            refine wp_callv (pc' := 221) (as := [(0, (zt_h M 0))]) (rest := [(2, 321)]) (ls1 := [(0, (zt_h M 0))]) rfl rfl rfl rfl rfl rfl ?_
            refine s_X10_isSign  ?_
            show wp xs _ mX10_token 221 [(2, 321), (0, (zt_h M 0)), (0, 1)] [(0, (z_b (z_isg (zt_h M 0)))), (2, 321)] z_LL (z_up (z_up (z_up M 321 7 (M 321 4)) 321 9 0) 321 8 0) _
            refine wp_be rfl rfl rfl (fun (c6 : ¬ (z_isg (zt_h M 0))) => ?_) (fun (c6 : (z_isg (zt_h M 0))) => ?_)
            · refine wp_run 1 (pc' := 229) (ls' := [(2, 321), (0, (zt_h M 0)), (0, 1)]) (st' := [(0, 3), (2, 321)]) rfl ?_
              refine wp_pf (pc' := 232) rfl rfl rfl rfl (fun z => absurd z (by decide)) (fun z => absurd z (by decide)) ?_
              refine wp_run 1 (pc' := 233) (ls' := [(2, 321), (0, (zt_h M 0)), (0, 1)]) (st' := [(2, 321)]) rfl ?_
              refine wp_gf (pc' := 236) (t := 0) (v := 3) rfl rfl (by decide) rfl rfl z_ups ?_
              refine wp_run 2 (pc' := 250) (ls' := [(2, 321), (0, (zt_h M 0)), (0, 1)]) (st' := []) rfl ?_
              exact wp_ret rfl rfl (l2 c1 c2 c3 c4 c5 c6)
            · refine wp_run 2 (pc' := 229) (ls' := [(2, 321), (0, (zt_h M 0)), (0, 1)]) (st' := [(0, (zt_h M 0)), (2, 321)]) rfl ?_
              refine wp_pf (pc' := 232) rfl rfl rfl rfl (fun z => absurd z (by decide)) (fun z => absurd z (by decide)) ?_
              refine wp_run 1 (pc' := 233) (ls' := [(2, 321), (0, (zt_h M 0)), (0, 1)]) (st' := [(2, 321)]) rfl ?_
              refine wp_gf (pc' := 236) (t := 0) (v := (zt_h M 0)) rfl rfl (by decide) rfl rfl z_ups ?_
              refine wp_run 1 (pc' := 237) (ls' := [(2, 321), (0, (zt_h M 0)), (0, 1)]) (st' := [(0, 3), (0, (zt_h M 0))]) rfl ?_
              refine wp_if2 rfl rfl rfl (fun (c7 : (zt_h M 0) = 3) => ?_) (fun (c7 : ¬ ((zt_h M 0) = 3)) => ?_)
              · exact wp_ret rfl rfl (l3 c1 c2 c3 c4 c5 c6 c7)
              · refine wp_run 2 (pc' := 242) (ls' := [(2, 321), (0, (zt_h M 0)), (0, 1)]) (st' := [(2, 321), (2, 321)]) rfl ?_
                refine wp_gf (pc' := 245) (t := 0) (v := (M 321 4)) rfl rfl (by decide) rfl rfl (z_upi (by decide) (z_upi (by decide) (z_upi (by decide) (z_upi (by decide) rfl)))) ?_
                refine wp_run 2 (pc' := 247) (ls' := [(2, 321), (0, (zt_h M 0)), (0, 1)]) (st' := [(0, (z_w ((M 321 4) + 1))), (2, 321)]) rfl ?_
                refine wp_pf (pc' := 250) rfl rfl rfl rfl (fun z => absurd z (by decide)) (fun z => absurd z (by decide)) ?_
                exact wp_ret rfl rfl (l4 c1 c2 c3 c4 c5 c6 c7)
          · exact l5 c1 c2 c3 c4 c5
        · exact l6 c1 c2 c3 c4
      · refine wp_run 2 (pc' := 65) (ls' := [(2, 321), (0, (zt_h M 0)), (0, 0)]) (st' := [(0, 0), (2, 321)]) rfl ?_
        refine wp_pf (pc' := 68) rfl rfl rfl rfl (fun z => absurd z (by decide)) (fun z => absurd z (by decide)) ?_
        refine wp_run 2 (pc' := 233) (ls' := [(2, 321), (0, (zt_h M 0)), (0, 0)]) (st' := [(2, 321)]) rfl ?_
        refine wp_gf (pc' := 236) (t := 0) (v := 0) rfl rfl (by decide) rfl rfl z_ups ?_
        refine wp_run 4 (pc' := 242) (ls' := [(2, 321), (0, (zt_h M 0)), (0, 0)]) (st' := [(2, 321), (2, 321)]) rfl ?_
        refine wp_gf (pc' := 245) (t := 0) (v := (M 321 4)) rfl rfl (by decide) rfl rfl (z_upi (by decide) (z_upi (by decide) (z_upi (by decide) (z_upi (by decide) rfl)))) ?_
        refine wp_run 2 (pc' := 247) (ls' := [(2, 321), (0, (zt_h M 0)), (0, 0)]) (st' := [(0, (z_w ((M 321 4) + 0))), (2, 321)]) rfl ?_
        refine wp_pf (pc' := 250) rfl rfl rfl rfl (fun z => absurd z (by decide)) (fun z => absurd z (by decide)) ?_
        exact wp_ret rfl rfl (l7 c1 c2 c3)
    · refine wp_run 2 (pc' := 22) (ls' := [(2, 321), (3, 0), (3, 0)]) (st' := [(2, 321), (2, 321)]) rfl ?_
      refine wp_gf (pc' := 25) (t := 0) (v := (M 321 4)) rfl rfl (by decide) rfl rfl rfl ?_
      refine wp_run 2 (pc' := 27) (ls' := [(2, 321), (3, 0), (3, 0)]) (st' := [(0, (z_w ((M 321 4) + 1))), (2, 321)]) rfl ?_
      refine wp_pf (pc' := 30) rfl rfl rfl rfl (fun z => absurd z (by decide)) (fun z => absurd z (by decide)) ?_
      refine wp_run 1 (pc' := 0) (ls' := [(2, 321), (3, 0), (3, 0)]) (st' := []) rfl ?_
      exact l8 c1 c2
set_option maxRecDepth 20000 in
theorem gX10_token_78 {xs : List Int} {d : Nat} {M : z_M} {P : Option z_V → z_L → z_M → Prop} {x1 : Int} {x2 : Int} (hF : z_fix M) 
    (b1 : ((0 ≤ M 321 4 ∧ M 321 4 ≤ 1600) ∧ ((0:Int) ≤ x2 ∧ x2 ≤ (1600:Int)) ∧ M 321 5 ≤ 1600))
    (l1 : (¬ (97 ≤ (zt_h M x2) ∧ (zt_h M x2) ≤ 122)) → (x2 ≤ 8) → P none z_LL (z_up (z_up M 321 6 1) 321 4 (z_w ((M 321 4) + x2))))
    (l2 : (¬ (97 ≤ (zt_h M x2) ∧ (zt_h M x2) ≤ 122)) → (¬ (x2 ≤ 8)) → P none z_LL (z_up M 321 6 3))
    (l3 : ((97 ≤ (zt_h M x2) ∧ (zt_h M x2) ≤ 122)) → (8 ≤ x2) → wp xs (d + 1) mX10_token 78 [(2, 321), (0, x1), (0, (z_w (x2 + 1)))] [] z_LL M P)
    (l4 : ((97 ≤ (zt_h M x2) ∧ (zt_h M x2) ≤ 122)) → (¬ (8 ≤ x2)) → wp xs (d + 1) mX10_token 78 [(2, 321), (0, x1), (0, (z_w (x2 + 1)))] [] z_LL (z_up M 321 9 (z_lor (z_lshl (M 321 9) 8) (zt_h M x2))) P) :
    wp xs (d + 1) mX10_token 78 [(2, 321), (0, x1), (0, x2)] [] z_LL M P := by
  refine wp_run 2 (pc' := 80) (ls' := [(2, 321), (0, x1), (0, x2)]) (st' := [(0, x2), (2, 321)]) rfl ?_
  refine wp_callv (pc' := 83) (as := [(2, 321), (0, x2)]) (rest := []) (ls1 := [(2, 321), (0, x2)]) rfl rfl rfl rfl rfl rfl ?_
  refine s_X10_here hF (b1) ?_
  show wp xs _ mX10_token 83 [(2, 321), (0, x1), (0, x2)] [(0, (zt_h M x2))] z_LL M _
  refine wp_callv (pc' := 86) (as := [(0, (zt_h M x2))]) (rest := []) (ls1 := [(0, (zt_h M x2))]) rfl rfl rfl rfl rfl rfl ?_
  refine s_X10_isLetter  ?_
  show wp xs _ mX10_token 86 [(2, 321), (0, x1), (0, x2)] [(0, (z_b (97 ≤ (zt_h M x2) ∧ (zt_h M x2) ≤ 122)))] z_LL M _
  refine wp_be rfl rfl rfl (fun (c1 : ¬ (97 ≤ (zt_h M x2) ∧ (zt_h M x2) ≤ 122)) => ?_) (fun (c1 : (97 ≤ (zt_h M x2) ∧ (zt_h M x2) ≤ 122)) => ?_)
  · refine wp_run 3 (pc' := 123) (ls' := [(2, 321), (0, x1), (0, x2)]) (st' := [(0, 8), (0, x2), (2, 321)]) rfl ?_
    refine wp_if2 rfl rfl rfl (fun (c2 : x2 ≤ 8) => ?_) (fun (c2 : ¬ (x2 ≤ 8)) => ?_)
    · refine wp_run 1 (pc' := 131) (ls' := [(2, 321), (0, x1), (0, x2)]) (st' := [(0, 1), (2, 321)]) rfl ?_
      refine wp_pf (pc' := 134) rfl rfl rfl rfl (fun z => absurd z (by decide)) (fun z => absurd z (by decide)) ?_
      refine wp_run 2 (pc' := 233) (ls' := [(2, 321), (0, x1), (0, x2)]) (st' := [(2, 321)]) rfl ?_
      refine wp_gf (pc' := 236) (t := 0) (v := 1) rfl rfl (by decide) rfl rfl z_ups ?_
      refine wp_run 4 (pc' := 242) (ls' := [(2, 321), (0, x1), (0, x2)]) (st' := [(2, 321), (2, 321)]) rfl ?_
      refine wp_gf (pc' := 245) (t := 0) (v := (M 321 4)) rfl rfl (by decide) rfl rfl (z_upi (by decide) rfl) ?_
      refine wp_run 2 (pc' := 247) (ls' := [(2, 321), (0, x1), (0, x2)]) (st' := [(0, (z_w ((M 321 4) + x2))), (2, 321)]) rfl ?_
      refine wp_pf (pc' := 250) rfl rfl rfl rfl (fun z => absurd z (by decide)) (fun z => absurd z (by decide)) ?_
      exact wp_ret rfl rfl (l1 c1 c2)
    · refine wp_run 2 (pc' := 131) (ls' := [(2, 321), (0, x1), (0, x2)]) (st' := [(0, 3), (2, 321)]) rfl ?_
      refine wp_pf (pc' := 134) rfl rfl rfl rfl (fun z => absurd z (by decide)) (fun z => absurd z (by decide)) ?_
      refine wp_run 2 (pc' := 233) (ls' := [(2, 321), (0, x1), (0, x2)]) (st' := [(2, 321)]) rfl ?_
      refine wp_gf (pc' := 236) (t := 0) (v := 3) rfl rfl (by decide) rfl rfl z_ups ?_
      refine wp_run 2 (pc' := 250) (ls' := [(2, 321), (0, x1), (0, x2)]) (st' := []) rfl ?_
      exact wp_ret rfl rfl (l2 c1 c2)
  · refine wp_run 2 (pc' := 92) (ls' := [(2, 321), (0, x1), (0, x2)]) (st' := [(0, 8), (0, x2)]) rfl ?_
    refine wp_if2 rfl rfl rfl (fun (c3 : 8 ≤ x2) => ?_) (fun (c3 : ¬ (8 ≤ x2)) => ?_)
    · refine wp_run 2 (pc' := 78) (ls' := [(2, 321), (0, x1), (0, (z_w (x2 + 1)))]) (st' := []) rfl ?_
      exact l3 c1 c3
    · refine wp_run 2 (pc' := 97) (ls' := [(2, 321), (0, x1), (0, x2)]) (st' := [(2, 321), (2, 321)]) rfl ?_
      refine wp_gf (pc' := 100) (t := 1) (v := (M 321 9)) rfl rfl (by decide) rfl rfl rfl ?_
      refine wp_run 4 (pc' := 105) (ls' := [(2, 321), (0, x1), (0, x2)]) (st' := [(0, x2), (2, 321), (1, (z_lshl (M 321 9) 8)), (2, 321)]) rfl ?_
      refine wp_callv (pc' := 108) (as := [(2, 321), (0, x2)]) (rest := [(1, (z_lshl (M 321 9) 8)), (2, 321)]) (ls1 := [(2, 321), (0, x2)]) rfl rfl rfl rfl rfl rfl ?_
      refine s_X10_here hF (b1) ?_
      show wp xs _ mX10_token 108 [(2, 321), (0, x1), (0, x2)] [(0, (zt_h M x2)), (1, (z_lshl (M 321 9) 8)), (2, 321)] z_LL M _
      refine wp_run 2 (pc' := 110) (ls' := [(2, 321), (0, x1), (0, x2)]) (st' := [(1, (z_lor (z_lshl (M 321 9) 8) (zt_h M x2))), (2, 321)]) rfl ?_
      refine wp_pf (pc' := 113) rfl rfl rfl rfl (fun z => absurd z (by decide)) (fun z => absurd z (by decide)) ?_
      refine wp_run 2 (pc' := 78) (ls' := [(2, 321), (0, x1), (0, (z_w (x2 + 1)))]) (st' := []) rfl ?_
      exact l4 c1 c3
set_option maxRecDepth 20000 in
theorem gX10_token_144 {xs : List Int} {d : Nat} {M : z_M} {P : Option z_V → z_L → z_M → Prop} {x1 : Int} {x2 : Int} (hF : z_fix M) 
    (b1 : ((0 ≤ M 321 4 ∧ M 321 4 ≤ 1600) ∧ ((0:Int) ≤ x2 ∧ x2 ≤ (1600:Int)) ∧ M 321 5 ≤ 1600))
    (l1 : (¬ (48 ≤ (zt_h M x2) ∧ (zt_h M x2) ≤ 57)) → (4 < x2) → P none z_LL (z_up M 321 6 3))
    (l2 : (¬ (48 ≤ (zt_h M x2) ∧ (zt_h M x2) ≤ 57)) → (¬ (4 < x2)) → (¬ (97 ≤ (zt_h M x2) ∧ (zt_h M x2) ≤ 122)) → P none z_LL (z_up (z_up M 321 6 2) 321 4 (z_w ((M 321 4) + x2))))
    (l3 : (¬ (48 ≤ (zt_h M x2) ∧ (zt_h M x2) ≤ 57)) → (¬ (4 < x2)) → ((97 ≤ (zt_h M x2) ∧ (zt_h M x2) ≤ 122)) → P none z_LL (z_up M 321 6 3))
    (l4 : ((48 ≤ (zt_h M x2) ∧ (zt_h M x2) ≤ 57)) → (4 ≤ x2) → wp xs (d + 1) mX10_token 144 [(2, 321), (0, x1), (0, (z_w (x2 + 1)))] [] z_LL M P)
    (l5 : ((48 ≤ (zt_h M x2) ∧ (zt_h M x2) ≤ 57)) → (¬ (4 ≤ x2)) → wp xs (d + 1) mX10_token 144 [(2, 321), (0, x1), (0, (z_w (x2 + 1)))] [] z_LL (z_up M 321 8 (z_w ((z_w ((z_w (10 * (M 321 8))) + (zt_h M x2))) - 48))) P) :
    wp xs (d + 1) mX10_token 144 [(2, 321), (0, x1), (0, x2)] [] z_LL M P := by
  refine wp_run 2 (pc' := 146) (ls' := [(2, 321), (0, x1), (0, x2)]) (st' := [(0, x2), (2, 321)]) rfl ?_
  refine wp_callv (pc' := 149) (as := [(2, 321), (0, x2)]) (rest := []) (ls1 := [(2, 321), (0, x2)]) rfl rfl rfl rfl rfl rfl ?_
  refine s_X10_here hF (b1) ?_
  show wp xs _ mX10_token 149 [(2, 321), (0, x1), (0, x2)] [(0, (zt_h M x2))] z_LL M _
  refine wp_callv (pc' := 152) (as := [(0, (zt_h M x2))]) (rest := []) (ls1 := [(0, (zt_h M x2))]) rfl rfl rfl rfl rfl rfl ?_
  refine s_X10_isDigit  ?_
  show wp xs _ mX10_token 152 [(2, 321), (0, x1), (0, x2)] [(0, (z_b (48 ≤ (zt_h M x2) ∧ (zt_h M x2) ≤ 57)))] z_LL M _
  refine wp_be rfl rfl rfl (fun (c1 : ¬ (48 ≤ (zt_h M x2) ∧ (zt_h M x2) ≤ 57)) => ?_) (fun (c1 : (48 ≤ (zt_h M x2) ∧ (zt_h M x2) ≤ 57)) => ?_)
  · refine wp_run 3 (pc' := 189) (ls' := [(2, 321), (0, x1), (0, x2)]) (st' := [(0, 4), (0, x2), (2, 321)]) rfl ?_
    refine wp_if2 rfl rfl rfl (fun (c2 : 4 < x2) => ?_) (fun (c2 : ¬ (4 < x2)) => ?_)
    · refine wp_run 2 (pc' := 208) (ls' := [(2, 321), (0, x1), (0, x2)]) (st' := [(0, 3), (2, 321)]) rfl ?_
      refine wp_pf (pc' := 211) rfl rfl rfl rfl (fun z => absurd z (by decide)) (fun z => absurd z (by decide)) ?_
      refine wp_run 2 (pc' := 233) (ls' := [(2, 321), (0, x1), (0, x2)]) (st' := [(2, 321)]) rfl ?_
      refine wp_gf (pc' := 236) (t := 0) (v := 3) rfl rfl (by decide) rfl rfl z_ups ?_
      refine wp_run 2 (pc' := 250) (ls' := [(2, 321), (0, x1), (0, x2)]) (st' := []) rfl ?_
      exact wp_ret rfl rfl (l1 c1 c2)
    · refine wp_run 2 (pc' := 194) (ls' := [(2, 321), (0, x1), (0, x2)]) (st' := [(0, x2), (2, 321), (2, 321)]) rfl ?_
      refine wp_callv (pc' := 197) (as := [(2, 321), (0, x2)]) (rest := [(2, 321)]) (ls1 := [(2, 321), (0, x2)]) rfl rfl rfl rfl rfl rfl ?_
      refine s_X10_here hF (b1) ?_
      show wp xs _ mX10_token 197 [(2, 321), (0, x1), (0, x2)] [(0, (zt_h M x2)), (2, 321)] z_LL M _
      refine wp_callv (pc' := 200) (as := [(0, (zt_h M x2))]) (rest := [(2, 321)]) (ls1 := [(0, (zt_h M x2))]) rfl rfl rfl rfl rfl rfl ?_
      refine s_X10_isLetter  ?_
      show wp xs _ mX10_token 200 [(2, 321), (0, x1), (0, x2)] [(0, (z_b (97 ≤ (zt_h M x2) ∧ (zt_h M x2) ≤ 122))), (2, 321)] z_LL M _
      refine wp_be rfl rfl rfl (fun (c3 : ¬ (97 ≤ (zt_h M x2) ∧ (zt_h M x2) ≤ 122)) => ?_) (fun (c3 : (97 ≤ (zt_h M x2) ∧ (zt_h M x2) ≤ 122)) => ?_)
      · refine wp_run 1 (pc' := 208) (ls' := [(2, 321), (0, x1), (0, x2)]) (st' := [(0, 2), (2, 321)]) rfl ?_
        refine wp_pf (pc' := 211) rfl rfl rfl rfl (fun z => absurd z (by decide)) (fun z => absurd z (by decide)) ?_
        refine wp_run 2 (pc' := 233) (ls' := [(2, 321), (0, x1), (0, x2)]) (st' := [(2, 321)]) rfl ?_
        refine wp_gf (pc' := 236) (t := 0) (v := 2) rfl rfl (by decide) rfl rfl z_ups ?_
        refine wp_run 4 (pc' := 242) (ls' := [(2, 321), (0, x1), (0, x2)]) (st' := [(2, 321), (2, 321)]) rfl ?_
        refine wp_gf (pc' := 245) (t := 0) (v := (M 321 4)) rfl rfl (by decide) rfl rfl (z_upi (by decide) rfl) ?_
        refine wp_run 2 (pc' := 247) (ls' := [(2, 321), (0, x1), (0, x2)]) (st' := [(0, (z_w ((M 321 4) + x2))), (2, 321)]) rfl ?_
        refine wp_pf (pc' := 250) rfl rfl rfl rfl (fun z => absurd z (by decide)) (fun z => absurd z (by decide)) ?_
        exact wp_ret rfl rfl (l2 c1 c2 c3)
      · refine wp_run 2 (pc' := 208) (ls' := [(2, 321), (0, x1), (0, x2)]) (st' := [(0, 3), (2, 321)]) rfl ?_
        refine wp_pf (pc' := 211) rfl rfl rfl rfl (fun z => absurd z (by decide)) (fun z => absurd z (by decide)) ?_
        refine wp_run 2 (pc' := 233) (ls' := [(2, 321), (0, x1), (0, x2)]) (st' := [(2, 321)]) rfl ?_
        refine wp_gf (pc' := 236) (t := 0) (v := 3) rfl rfl (by decide) rfl rfl z_ups ?_
        refine wp_run 2 (pc' := 250) (ls' := [(2, 321), (0, x1), (0, x2)]) (st' := []) rfl ?_
        exact wp_ret rfl rfl (l3 c1 c2 c3)
  · refine wp_run 2 (pc' := 157) (ls' := [(2, 321), (0, x1), (0, x2)]) (st' := [(0, 4), (0, x2)]) rfl ?_
    refine wp_if2 rfl rfl rfl (fun (c4 : 4 ≤ x2) => ?_) (fun (c4 : ¬ (4 ≤ x2)) => ?_)
    · refine wp_run 2 (pc' := 144) (ls' := [(2, 321), (0, x1), (0, (z_w (x2 + 1)))]) (st' := []) rfl ?_
      exact l4 c1 c4
    · refine wp_run 3 (pc' := 164) (ls' := [(2, 321), (0, x1), (0, x2)]) (st' := [(2, 321), (0, 10), (2, 321)]) rfl ?_
      refine wp_gf (pc' := 167) (t := 0) (v := (M 321 8)) rfl rfl (by decide) rfl rfl rfl ?_
      refine wp_run 3 (pc' := 170) (ls' := [(2, 321), (0, x1), (0, x2)]) (st' := [(0, x2), (2, 321), (0, (z_w (10 * (M 321 8)))), (2, 321)]) rfl ?_
      refine wp_callv (pc' := 173) (as := [(2, 321), (0, x2)]) (rest := [(0, (z_w (10 * (M 321 8)))), (2, 321)]) (ls1 := [(2, 321), (0, x2)]) rfl rfl rfl rfl rfl rfl ?_
      refine s_X10_here hF (b1) ?_
      show wp xs _ mX10_token 173 [(2, 321), (0, x1), (0, x2)] [(0, (zt_h M x2)), (0, (z_w (10 * (M 321 8)))), (2, 321)] z_LL M _
      refine wp_run 3 (pc' := 177) (ls' := [(2, 321), (0, x1), (0, x2)]) (st' := [(0, (z_w ((z_w ((z_w (10 * (M 321 8))) + (zt_h M x2))) - 48))), (2, 321)]) rfl ?_
      refine wp_pf (pc' := 180) rfl rfl rfl rfl (fun z => absurd z (by decide)) (fun z => absurd z (by decide)) ?_
      refine wp_run 2 (pc' := 144) (ls' := [(2, 321), (0, x1), (0, (z_w (x2 + 1)))]) (st' := []) rfl ?_
      exact l5 c1 c4
section
variable {xs : List Int} {d : Nat} {M : z_M} {b : Int → Int} {n p : Int}
/-- the model's text -/
def zt_u (M : z_M) (b : Int → Int) (n : Int) : Prop := M 322 = b ∧ M 321 5 = n ∧ (0 ≤ n ∧ n ≤ 1600) ∧ ∀ i : Int, 0 ≤ i → i < 1600 → 0 ≤ b i ∧ b i < 256
def zt_r (k : Int) : Int := if k ≤ 24 then 1 else if k = 25 then 2 else if k = 26 then 0 else if k = 27 then 3 else k
/-- the model looks at the token at p -/
def zt_m (M : z_M) (b : Int → Int) (n p : Int) : Prop := M 321 6 = zt_r (zt_k b n p) ∧ M 321 7 = zt_s b n p ∧ M 321 4 = (if zt_k b n p = 27 then zt_s b n p else zt_x b n p) ∧ (zt_k b n p = 25 → M 321 8 = zt_v b n p) ∧ (zt_k b n p ≤ 24 → M 321 9 = z_c8 (zt_l b n p))
def zt_j (j : Int) : Prop := j = 4 ∨ (6 ≤ j ∧ j ≤ 9)
def zt_a (M M' : z_M) : Prop := (∀ q, q ≠ 321 → M' q = M q) ∧ ∀ j, ¬ zt_j j → M' 321 j = M 321 j
theorem zt_a_r : zt_a M M := ⟨fun _ _ => rfl, fun _ _ => rfl⟩
theorem zt_a_u {M' : z_M} {j v : Int} (f : zt_a M M') (h : zt_j j) : zt_a M (z_up M' 321 j v) := ⟨fun q a => by rw [z_upn a, f.1 q a], fun i a => by rw [z_upi (fun e => a (by rw [e]; exact h)) rfl, f.2 i a]⟩
theorem zt_a_F {M' : z_M} (f : zt_a M M') (hF : z_fix M) : z_fix M' := z_fix_gen hF (fun q i hq => by
  by_cases e : q = 321
  · rw [e] at hq ⊢
    exact f.2 i (by unfold z_fin at hq; unfold zt_j; omega)
  · rw [f.1 q e])
theorem zt_a_t {M' : z_M} (f : zt_a M M') (h : zt_u M b n) : zt_u M' b n := by
  unfold zt_u at h ⊢
  rw [f.2 5 (by unfold zt_j; omega), f.1 322 (by decide)]
  exact h
/-- the byte that is so far on -/
theorem zt_hb {q i : Int} (h : zt_u M b n) (h4 : M 321 4 = q) (hq : 0 ≤ q) (hi : 0 ≤ i) : zt_h M i = (if q + i < n then b (q + i) else -1) := by
  unfold zt_h
  rw [h4, h.2.1, h.1]
theorem zt_hl {q i : Int} (h : zt_u M b n) (h4 : M 321 4 = q) (hq : 0 ≤ q) (hi : 0 ≤ i) : (97 ≤ zt_h M i ∧ zt_h M i ≤ 122) ↔ (q + i < n ∧ z_isl (b (q + i)) = true) := by
  rw [zt_hb h h4 hq hi, z_isl_t]
  split <;> omega
theorem zt_hd {q i : Int} (h : zt_u M b n) (h4 : M 321 4 = q) (hq : 0 ≤ q) (hi : 0 ≤ i) : (48 ≤ zt_h M i ∧ zt_h M i ≤ 57) ↔ (q + i < n ∧ z_isd (b (q + i)) = true) := by
  rw [zt_hb h h4 hq hi, z_isd_t]
  split <;> omega
theorem s_token_w {P : Option z_V → z_L → z_M → Prop} {q c : Int} (hF : z_fix M) (hT : zt_u M b n) (h4 : M 321 4 = q) (h9 : M 321 9 = 0) (hq : 0 ≤ q ∧ q ≤ n) (k : ∀ M' : z_M, zt_a M M' → M' 321 7 = M 321 7 → M' 321 8 = M 321 8 → (8 < z_nd z_isl b n q - q → M' 321 6 = 3 ∧ M' 321 4 = q) → (z_nd z_isl b n q - q ≤ 8 → M' 321 6 = 1 ∧ M' 321 4 = z_nd z_isl b n q ∧ M' 321 9 = z_c8 (z_ltr b q (z_nd z_isl b n q - q).toNat)) → P none z_LL M') : wp xs (d + 1) mX10_token 78 [(2, 321), (0, c), (0, 0)] [] z_LL M P := by
  have eb := z_nd_b (ok := z_isl) (b := b) (n := n) (p := q)
  have en := eb.2.1 hq.2
  have hi := fun r => z_nd_i (ok := z_isl) (b := b) (n := n) (p := q) (q := r)
  have n16 := hT.2.2.1
  refine z_loop (W := fun i => ∀ M' : z_M, zt_a M M' → M' 321 4 = q → M' 321 7 = M 321 7 → M' 321 8 = M 321 8 → q + i ≤ z_nd z_isl b n q → (i ≤ 8 → M' 321 9 = z_c8 (z_ltr b q i)) → wp xs (d + 1) mX10_token 78 [(2, 321), (0, c), (0, (i : Int))] [] z_LL M' P) (z_nd z_isl b n q - q).toNat (fun i hm ih M' f m4 m7 m8 hle m9 => ?_) M zt_a_r h4 rfl rfl (by omega) (fun _ => h9)
  have T' := zt_a_t f hT
  have hi := hi (q + i) (by omega) hle
  have gl : z_glt (z_ltr b q i) := z_ltr_g i (fun j a c => (eb.2.2 j a (by omega)).2)
  have g := gX10_token_78 (M := M') (xs := xs) (d := d) (P := P) (x1 := c) (x2 := (i : Int)) (zt_a_F f hF)
  rw [propext (zt_hl T' m4 hq.1 (i := (i : Int)) (by omega)), z_in1 (i := i) (by omega), m4, z_wid (x := q + (i : Int)) (by omega)] at g
  refine g ⟨by omega, by omega, by rw [T'.2.1]; omega⟩ (fun cl c8 => ?_) (fun cl c8 => ?_) (fun cl c8 => ?_) (fun cl c8 => ?_)
  · have e := hi.2 cl
    rw [e, show (q + (i : Int) - q).toNat = i by omega] at k
    refine k _ (zt_a_u (zt_a_u f (by unfold zt_j; omega)) (by unfold zt_j; omega)) (by rw [z_upi (by decide) rfl, z_upi (by decide) rfl]; exact m7) (by rw [z_upi (by decide) rfl, z_upi (by decide) rfl]; exact m8) (fun w => by omega) (fun _ => ⟨by rw [z_upi (by decide) rfl, z_ups], by rw [z_ups], by rw [z_upi (by decide) rfl, z_upi (by decide) rfl]; exact m9 (by omega)⟩)
  · have e := hi.2 cl
    rw [e, show (q + (i : Int) - q).toNat = i by omega] at k
    exact k _ (zt_a_u f (by unfold zt_j; omega)) (by rw [z_upi (by decide) rfl]; exact m7) (by rw [z_upi (by decide) rfl]; exact m8) (fun _ => ⟨by rw [z_ups], by rw [z_upi (by decide) rfl]; exact m4⟩) (fun w => by omega)
  · have nx := hi.1 cl
    exact ih (by omega) M' f m4 m7 m8 (by omega) (fun w => by omega)
  · have nx := hi.1 cl
    have lt := z_isl_t.mp cl.2
    refine ih (by omega) _ (zt_a_u f (by unfold zt_j; omega)) (by rw [z_upi (by decide) rfl]; exact m4) (by rw [z_upi (by decide) rfl]; exact m7) (by rw [z_upi (by decide) rfl]; exact m8) (by omega) (fun _ => ?_)
    have cb := z_c8_b (z_ltr b q i) gl
    have ch := z_c8_h (z_ltr b q i) gl
    rw [z_ltr_l] at cb ch
    rw [z_ups, m9 (by omega), z_ltr, z_c8, zt_hb T' m4 hq.1 (by omega), if_pos cl.1, z_lsl8 _ (by omega)]
    refine ⟨cb.1, ?_⟩
    have : i = 0 ∨ i = 1 ∨ i = 2 ∨ i = 3 ∨ i = 4 ∨ i = 5 ∨ i = 6 ∨ i = 7 := by omega
    generalize z_c8 (z_ltr b q i) = C at *
    clear hi g ih m9 k gl eb
    rcases this with rfl | rfl | rfl | rfl | rfl | rfl | rfl | rfl <;> omega
theorem s_token_n {P : Option z_V → z_L → z_M → Prop} {q c : Int} (hF : z_fix M) (hT : zt_u M b n) (h4 : M 321 4 = q) (h8 : M 321 8 = 0) (hq : 0 ≤ q ∧ q ≤ n) (k : ∀ M' : z_M, zt_a M M' → M' 321 7 = M 321 7 → (4 < z_nd z_isd b n q - q ∨ (z_nd z_isd b n q < n ∧ z_isl (b (z_nd z_isd b n q)) = true) → M' 321 6 = 3 ∧ M' 321 4 = q) → (¬ (4 < z_nd z_isd b n q - q ∨ (z_nd z_isd b n q < n ∧ z_isl (b (z_nd z_isd b n q)) = true)) → M' 321 6 = 2 ∧ M' 321 4 = z_nd z_isd b n q ∧ M' 321 8 = z_vl b q (z_nd z_isd b n q - q).toNat) → P none z_LL M') : wp xs (d + 1) mX10_token 144 [(2, 321), (0, c), (0, 0)] [] z_LL M P := by
  have eb := z_nd_b (ok := z_isd) (b := b) (n := n) (p := q)
  have en := eb.2.1 hq.2
  have hi := fun r => z_nd_i (ok := z_isd) (b := b) (n := n) (p := q) (q := r)
  have n16 := hT.2.2.1
  refine z_loop (W := fun i => ∀ M' : z_M, zt_a M M' → M' 321 4 = q → M' 321 7 = M 321 7 → q + i ≤ z_nd z_isd b n q → (i ≤ 4 → M' 321 8 = z_vl b q i) → wp xs (d + 1) mX10_token 144 [(2, 321), (0, c), (0, (i : Int))] [] z_LL M' P) (z_nd z_isd b n q - q).toNat (fun i hm ih M' f m4 m7 hle m8 => ?_) M zt_a_r h4 rfl (by omega) (fun _ => h8)
  have T' := zt_a_t f hT
  have hi := hi (q + i) (by omega) hle
  have g := gX10_token_144 (M := M') (xs := xs) (d := d) (P := P) (x1 := c) (x2 := (i : Int)) (zt_a_F f hF)
  rw [propext (zt_hd T' m4 hq.1 (i := (i : Int)) (by omega)), propext (zt_hl T' m4 hq.1 (i := (i : Int)) (by omega)), z_in1 (i := i) (by omega), m4, z_wid (x := q + (i : Int)) (by omega)] at g
  refine g ⟨by omega, by omega, by rw [T'.2.1]; omega⟩ (fun cd c4 => ?_) (fun cd c4 cl => ?_) (fun cd c4 cl => ?_) (fun cd c4 => ?_) (fun cd c4 => ?_)
  · have e := hi.2 cd
    rw [e, show (q + (i : Int) - q).toNat = i by omega] at k
    exact k _ (zt_a_u f (by unfold zt_j; omega)) (by rw [z_upi (by decide) rfl]; exact m7) (fun _ => ⟨by rw [z_ups], by rw [z_upi (by decide) rfl]; exact m4⟩) (fun w => absurd (Or.inl (by omega)) w)
  · have e := hi.2 cd
    rw [e, show (q + (i : Int) - q).toNat = i by omega] at k
    exact k _ (zt_a_u (zt_a_u f (by unfold zt_j; omega)) (by unfold zt_j; omega)) (by rw [z_upi (by decide) rfl, z_upi (by decide) rfl]; exact m7) (fun w => absurd w (fun w => w.elim (fun w => by omega) cl)) (fun _ => ⟨by rw [z_upi (by decide) rfl, z_ups], by rw [z_ups], by rw [z_upi (by decide) rfl, z_upi (by decide) rfl]; exact m8 (by omega)⟩)
  · have e := hi.2 cd
    rw [e, show (q + (i : Int) - q).toNat = i by omega] at k
    exact k _ (zt_a_u f (by unfold zt_j; omega)) (by rw [z_upi (by decide) rfl]; exact m7) (fun _ => ⟨by rw [z_ups], by rw [z_upi (by decide) rfl]; exact m4⟩) (fun w => absurd (Or.inr cl) w)
  · have nx := hi.1 cd
    exact ih (by omega) M' f m4 m7 (by omega) (fun w => by omega)
  · have nx := hi.1 cd
    have dd := z_isd_t.mp cd.2
    refine ih (by omega) _ (zt_a_u f (by unfold zt_j; omega)) (by rw [z_upi (by decide) rfl]; exact m4) (by rw [z_upi (by decide) rfl]; exact m7) (by omega) (fun _ => ?_)
    have vb := z_vl_b (b := b) (q := q) i (fun j a c => (eb.2.2 j a (by omega)).2)
    have : (i = 0 ∨ i = 1 ∨ i = 2 ∨ i = 3) := by omega
    have vb2 : z_vl b q i < 1000 := by
      rcases this with rfl | rfl | rfl | rfl <;> omega
    rw [z_ups, m8 (by omega), z_vl, zt_hb T' m4 hq.1 (by omega), if_pos cd.1, z_wid (x := 10 * z_vl b q i) (by omega), z_wid (x := 10 * z_vl b q i + b (q + i)) (by omega), z_wid (by omega)]
    omega
theorem s_X10_token {P : Option z_V → z_L → z_M → Prop} (hF : z_fix M) (hT : zt_u M b n) (h4 : M 321 4 = p) (hp : 0 ≤ p ∧ p ≤ n) (k : ∀ M' : z_M, zt_a M M' → zt_m M' b n p → P none z_LL M') : wp xs (d + 1) mX10_token 0 [(2, 321), (3, 0), (3, 0)] [] z_LL M P := by
  have eb := z_nd_b (ok := z_isb) (b := b) (n := n) (p := p)
  have en := eb.2.1 hp.2
  have n16 := hT.2.2.1
  have hi := fun r => z_nd_i (ok := z_isb) (b := b) (n := n) (p := p) (q := r)
  unfold zt_m at k
  refine z_loop (W := fun i => ∀ M' : z_M, zt_a M M' → M' 321 4 = p + i → p + i ≤ z_nd z_isb b n p → wp xs (d + 1) mX10_token 0 [(2, 321), (3, 0), (3, 0)] [] z_LL M' P) (z_nd z_isb b n p - p).toNat (fun i hm ih M' f m4 hle => ?_) M zt_a_r (by rw [h4]; omega) (by omega)
  have T' := zt_a_t f hT
  have F' := zt_a_F f hF
  have hi := hi (p + i) (by omega) hle
  have g := gX10_token_0 (M := M') (xs := xs) (d := d) (P := P) F'
  rw [zt_hb T' m4 (by omega) (i := 0) (by omega), m4, Int.add_zero, z_wid (x := p + (i : Int) + 1) (by omega), z_wid (x := p + (i : Int)) (by omega)] at g
  generalize hq : p + (i : Int) = q at *
  have J4 : zt_j 4 := by unfold zt_j; omega
  have J6 : zt_j 6 := by unfold zt_j; omega
  have J7 : zt_j 7 := by unfold zt_j; omega
  have J8 : zt_j 8 := by unfold zt_j; omega
  have J9 : zt_j 9 := by unfold zt_j; omega
  have bnd : ((0 : Int) ≤ q ∧ q ≤ 1600) ∧ ((0 : Int) ≤ 0 ∧ (0 : Int) ≤ 1600) ∧ M' 321 5 ≤ 1600 := ⟨by omega, by omega, by rw [T'.2.1]; omega⟩
  have nxt : (q < n ∧ (b q = 32 ∨ b q = 10)) → wp xs (d + 1) mX10_token 0 [(2, 321), (3, 0), (3, 0)] [] z_LL (z_up M' 321 4 (q + 1)) P := fun w => by
    have nx := hi.1 ⟨w.1, z_isb_t.mpr w.2⟩
    exact ih (by omega) _ (zt_a_u f J4) (by rw [z_ups]; omega) (by omega)
  have f3 : zt_a M (z_up (z_up (z_up M' 321 7 q) 321 9 0) 321 8 0) := zt_a_u (zt_a_u (zt_a_u f J7) J9) J8
  by_cases c0 : q < n
  · rw [if_pos c0] at g
    have bb := T'.2.2.2 q (by omega) (by omega)
    by_cases cb : b q = 32 ∨ b q = 10
    · have nx := nxt ⟨c0, cb⟩
      refine g bnd (fun _ => nx) ?_ ?_ ?_ ?_ ?_ ?_ (fun _ _ => nx)
      all_goals (clear nx nxt ih k hi; intros; exfalso; omega)
    · have es : zt_s b n p = q := hi.2 (fun w => cb (z_isb_t.mp w.2))
      have a4 : z_up (z_up (z_up M' 321 7 q) 321 9 0) 321 8 0 321 4 = q := by rw [z_upi (by decide) rfl, z_upi (by decide) rfl, z_upi (by decide) rfl]; exact m4
      have a7 : z_up (z_up (z_up M' 321 7 q) 321 9 0) 321 8 0 321 7 = q := by rw [z_upi (by decide) rfl, z_upi (by decide) rfl, z_ups]
      have a8 : z_up (z_up (z_up M' 321 7 q) 321 9 0) 321 8 0 321 8 = 0 := z_ups
      have a9 : z_up (z_up (z_up M' 321 7 q) 321 9 0) 321 8 0 321 9 = 0 := by rw [z_upi (by decide) rfl, z_ups]
      have F3 := zt_a_F f3 hF
      have T3 := zt_a_t f3 hT
      generalize z_up (z_up (z_up M' 321 7 q) 321 9 0) 321 8 0 = M3 at *
      have ft : ∀ M5, zt_a M3 M5 → zt_a M M5 := fun M5 h => ⟨fun r a => by rw [h.1 r a, f3.1 r a], fun j a => by rw [h.2 j a, f3.2 j a]⟩
      refine g bnd (fun w => absurd (Or.inl w) cb) (fun _ _ _ cl cd cg => ?_) (fun _ _ _ cl cd cg w => ?_) (fun _ _ _ cl cd cg w => ?_) (fun _ _ _ cl cd => ?_) (fun _ _ _ cl => ?_) (fun _ _ w => absurd bb.1 w) (fun _ w => absurd (Or.inr (Classical.byContradiction w)) cb)
      · have e1 := zt_e4 es (by omega) (fun w => cl (z_isl_t.mp w)) (fun w => cd (z_isd_t.mp w))
        have eg : zt_g (b q) = 27 := if_neg cg
        rw [eg] at e1
        refine k _ (ft _ (zt_a_u zt_a_r J6)) ⟨by rw [z_ups, e1.1]; rfl, by rw [z_upi (by decide) rfl, es]; exact a7, by rw [z_upi (by decide) rfl, if_pos e1.1, es]; exact a4, fun w => by omega, fun w => by omega⟩
      · exfalso
        unfold z_isg at cg
        omega
      · have e1 := zt_e4 es (by omega) (fun w => cl (z_isl_t.mp w)) (fun w => cd (z_isd_t.mp w))
        have eg : zt_g (b q) = b q := if_pos cg
        rw [eg] at e1
        unfold z_isg at cg
        refine k _ (ft _ (zt_a_u (zt_a_u zt_a_r J6) J4)) ⟨?_, by rw [z_upi (by decide) rfl, z_upi (by decide) rfl, es]; exact a7, by rw [z_ups, if_neg (by omega), e1.2], fun w => by omega, fun w => by omega⟩
        rw [z_upi (by decide) rfl, z_ups, e1.1]
        unfold zt_r
        rw [if_neg (by omega), if_neg (by omega), if_neg (by omega), if_neg (by omega)]
      · have e1 := zt_e3 es (by omega) (fun w => cl (z_isl_t.mp w)) (z_isd_t.mpr cd)
        refine s_token_n F3 T3 a4 a8 (by omega) (fun M5 f5 m7 y1 y2 => k M5 (ft _ f5) ?_)
        by_cases w : 4 < z_nd z_isd b n q - q ∨ (z_nd z_isd b n q < n ∧ z_isl (b (z_nd z_isd b n q)) = true)
        · rw [if_pos w] at e1
          exact ⟨by rw [(y1 w).1, e1.1]; rfl, by rw [m7, a7, es], by rw [if_pos e1.1, es, (y1 w).2], fun w => by omega, fun w => by omega⟩
        · rw [if_neg w] at e1
          refine ⟨by rw [(y2 w).1, e1.1]; rfl, by rw [m7, a7, es], by rw [if_neg (by omega), e1.2, (y2 w).2.1], fun _ => ?_, fun w => by omega⟩
          unfold zt_v
          rw [es, (y2 w).2.2]
      · have e1 := zt_e2 es (by omega) (z_isl_t.mpr cl)
        refine s_token_w F3 T3 a4 a9 (by omega) (fun M5 f5 m7 m8 y1 y2 => k M5 (ft _ f5) ?_)
        by_cases w : 8 < z_nd z_isl b n q - q
        · rw [if_pos w] at e1
          exact ⟨by rw [(y1 w).1, e1.1]; rfl, by rw [m7, a7, es], by rw [if_pos e1.1, es, (y1 w).2], fun w => by omega, fun w => by omega⟩
        · rw [if_neg w] at e1
          have kb := z_kwd_b (z_ltr b q (z_nd z_isl b n q - q).toNat)
          have y2 := y2 (by omega)
          refine ⟨?_, by rw [m7, a7, es], by rw [if_neg (by omega), e1.2, y2.2.1], fun w => by omega, fun _ => ?_⟩
          · rw [y2.1, e1.1]
            unfold zt_r
            rw [if_pos kb.2]
          · unfold zt_l
            rw [es, y2.2.2]
  · rw [if_neg c0] at g
    have es : zt_s b n p = q := hi.2 (fun w => c0 w.1)
    have e1 := zt_e1 es (by omega)
    refine g bnd (fun w => absurd w (by decide)) (fun _ _ w => absurd w (by decide)) (fun _ _ w => absurd w (by decide)) (fun _ _ w => absurd w (by decide)) (fun _ _ w => absurd w (by decide)) (fun _ _ w => absurd w (by decide)) (fun _ _ _ => ?_) (fun _ w => absurd (by decide) w)
    refine k _ (zt_a_u (zt_a_u f3 J6) J4) ⟨by rw [z_upi (by decide) rfl, z_ups, e1.1]; rfl, ?_, by rw [z_ups, if_neg (by omega), e1.2], fun w => by omega, fun w => by omega⟩
    rw [z_upi (by decide) rfl, z_upi (by decide) rfl, z_upi (by decide) rfl, z_upi (by decide) rfl, z_ups, es]
end
