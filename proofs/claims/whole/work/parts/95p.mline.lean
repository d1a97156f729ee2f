/-! THE MODEL READS A LINE, A TEXT -/
set_option maxRecDepth 20000 in
theorem gX10_readLine_0 {xs : List Int} {d : Nat} {M : z_M} {P : Option z_V → z_L → z_M → Prop} 
    (l1 : (¬ (M 321 6 = 1 ∧ M 321 9 = 444251400037)) → wp xs (d + 1) mX10_readLine 24 [(2, 321)] [] z_LL M P)
    (l2 : ((M 321 6 = 1 ∧ M 321 9 = 444251400037)) → ((M 321 53) ≠ 0) → wp xs (d + 1) mX10_readLine 24 [(2, 321)] [] z_LL M P)
    (l3 : ((M 321 6 = 1 ∧ M 321 9 = 444251400037)) → (¬ ((M 321 53) ≠ 0)) → wp xs d mX10_readGorge 0 [(2, 321)] [] z_LL M (fun r L1 M1 => wp xs (d + 1) mX10_readLine 21 [(2, 321)] (z_ol r ++ []) L1 M1 P)) :
    wp xs (d + 1) mX10_readLine 0 [(2, 321)] [] z_LL M P := by
  refine wp_run 2 (pc' := 4) (ls' := [(2, 321)]) (st' := [(1, 444251400037), (2, 321)]) rfl ?_
  refine wp_callv (pc' := 7) (as := [(2, 321), (1, 444251400037)]) (rest := []) (ls1 := [(2, 321), (1, 444251400037), (3, 0)]) rfl rfl rfl rfl rfl rfl ?_
  refine s_X10_isWord  ?_
  show wp xs _ mX10_readLine 7 [(2, 321)] [(0, (z_b (M 321 6 = 1 ∧ M 321 9 = 444251400037)))] z_LL M _
  refine wp_be rfl rfl rfl (fun (c1 : ¬ (M 321 6 = 1 ∧ M 321 9 = 444251400037)) => ?_) (fun (c1 : (M 321 6 = 1 ∧ M 321 9 = 444251400037)) => ?_)
  · exact l1 c1
  · refine wp_run 1 (pc' := 11) (ls' := [(2, 321)]) (st' := [(2, 321)]) rfl ?_
    refine wp_gf (pc' := 14) (t := 0) (v := (M 321 53)) rfl rfl (by decide) rfl rfl rfl ?_
    refine wp_if1 rfl rfl rfl (fun (c2 : (M 321 53) ≠ 0) => ?_) (fun (c2 : ¬ ((M 321 53) ≠ 0)) => ?_)
    · exact l2 c1 c2
    · refine wp_run 1 (pc' := 18) (ls' := [(2, 321)]) (st' := [(2, 321)]) rfl ?_
      refine wp_callv (pc' := 21) (as := [(2, 321)]) (rest := []) (ls1 := [(2, 321)]) rfl rfl rfl rfl rfl rfl ?_
      exact l3 c1 c2
set_option maxRecDepth 20000 in
theorem gX10_readLine_21 {xs : List Int} {d : Nat} {M : z_M} {P : Option z_V → z_L → z_M → Prop} 
    (l1 : wp xs d mX10_readLine 324 [(2, 321)] [] z_LL M P) :
    wp xs d mX10_readLine 21 [(2, 321)] [] z_LL M P := by
  refine wp_run 1 (pc' := 324) (ls' := [(2, 321)]) (st' := []) rfl ?_
  exact l1
set_option maxRecDepth 20000 in
theorem gX10_readLine_24 {xs : List Int} {d : Nat} {M : z_M} {P : Option z_V → z_L → z_M → Prop} 
    (l1 : (¬ (M 321 6 = 1 ∧ M 321 9 = 444300879214)) → wp xs (d + 1) mX10_readLine 63 [(2, 321)] [] z_LL M P)
    (l2 : ((M 321 6 = 1 ∧ M 321 9 = 444300879214)) → ((M 321 54) ≠ 0) → wp xs (d + 1) mX10_readLine 63 [(2, 321)] [] z_LL M P)
    (l3 : ((M 321 6 = 1 ∧ M 321 9 = 444300879214)) → (¬ ((M 321 54) ≠ 0)) → wp xs d mX10_told 0 [(2, 321), (1, 444300879214), (3, 0), (0, 0), (0, 9)] [] z_LL (z_up M 321 54 1) (fun r L1 M1 => wp xs (d + 1) mX10_readLine 57 [(2, 321)] (z_ol r ++ [(2, 321)]) L1 M1 P)) :
    wp xs (d + 1) mX10_readLine 24 [(2, 321)] [] z_LL M P := by
  refine wp_run 2 (pc' := 28) (ls' := [(2, 321)]) (st' := [(1, 444300879214), (2, 321)]) rfl ?_
  refine wp_callv (pc' := 31) (as := [(2, 321), (1, 444300879214)]) (rest := []) (ls1 := [(2, 321), (1, 444300879214), (3, 0)]) rfl rfl rfl rfl rfl rfl ?_
  refine s_X10_isWord  ?_
  show wp xs _ mX10_readLine 31 [(2, 321)] [(0, (z_b (M 321 6 = 1 ∧ M 321 9 = 444300879214)))] z_LL M _
  refine wp_be rfl rfl rfl (fun (c1 : ¬ (M 321 6 = 1 ∧ M 321 9 = 444300879214)) => ?_) (fun (c1 : (M 321 6 = 1 ∧ M 321 9 = 444300879214)) => ?_)
  · exact l1 c1
  · refine wp_run 1 (pc' := 35) (ls' := [(2, 321)]) (st' := [(2, 321)]) rfl ?_
    refine wp_gf (pc' := 38) (t := 0) (v := (M 321 54)) rfl rfl (by decide) rfl rfl rfl ?_
    refine wp_if1 rfl rfl rfl (fun (c2 : (M 321 54) ≠ 0) => ?_) (fun (c2 : ¬ ((M 321 54) ≠ 0)) => ?_)
    · exact l2 c1 c2
    · refine wp_run 2 (pc' := 43) (ls' := [(2, 321)]) (st' := [(0, 1), (2, 321)]) rfl ?_
      refine wp_pf (pc' := 46) rfl rfl rfl rfl (fun z => absurd z (by decide)) (by decide) ?_
      refine wp_run 5 (pc' := 54) (ls' := [(2, 321)]) (st' := [(0, 9), (0, 0), (1, 444300879214), (2, 321), (2, 321)]) rfl ?_
      refine wp_callv (pc' := 57) (as := [(2, 321), (1, 444300879214), (0, 0), (0, 9)]) (rest := [(2, 321)]) (ls1 := [(2, 321), (1, 444300879214), (3, 0), (0, 0), (0, 9)]) rfl rfl rfl rfl rfl rfl ?_
      exact l3 c1 c2
set_option maxRecDepth 20000 in
theorem gX10_readLine_57 {xs : List Int} {d : Nat} {M : z_M} {P : Option z_V → z_L → z_M → Prop} {s1 : Int} 
    (l1 : wp xs d mX10_readLine 324 [(2, 321)] [] z_LL (z_up M 321 38 s1) P) :
    wp xs d mX10_readLine 57 [(2, 321)] [(0, s1), (2, 321)] z_LL M P := by
  refine wp_pf (pc' := 60) rfl rfl rfl rfl (fun z => absurd z (by decide)) (fun z => absurd z (by decide)) ?_
  refine wp_run 1 (pc' := 324) (ls' := [(2, 321)]) (st' := []) rfl ?_
  exact l1
set_option maxRecDepth 20000 in
theorem gX10_readLine_63 {xs : List Int} {d : Nat} {M : z_M} {P : Option z_V → z_L → z_M → Prop} 
    (l1 : (¬ (M 321 6 = 1 ∧ M 321 9 = 444300620659)) → wp xs (d + 1) mX10_readLine 89 [(2, 321)] [] z_LL M P)
    (l2 : ((M 321 6 = 1 ∧ M 321 9 = 444300620659)) → (8 ≤ (M 321 39)) → wp xs (d + 1) mX10_readLine 89 [(2, 321)] [] z_LL M P)
    (l3 : ((M 321 6 = 1 ∧ M 321 9 = 444300620659)) → (¬ (8 ≤ (M 321 39))) → wp xs d mX10_readGrass 0 [(2, 321), (3, 0), (3, 0), (3, 0)] [] z_LL M (fun r L1 M1 => wp xs (d + 1) mX10_readLine 86 [(2, 321)] (z_ol r ++ []) L1 M1 P)) :
    wp xs (d + 1) mX10_readLine 63 [(2, 321)] [] z_LL M P := by
  refine wp_run 2 (pc' := 67) (ls' := [(2, 321)]) (st' := [(1, 444300620659), (2, 321)]) rfl ?_
  refine wp_callv (pc' := 70) (as := [(2, 321), (1, 444300620659)]) (rest := []) (ls1 := [(2, 321), (1, 444300620659), (3, 0)]) rfl rfl rfl rfl rfl rfl ?_
  refine s_X10_isWord  ?_
  show wp xs _ mX10_readLine 70 [(2, 321)] [(0, (z_b (M 321 6 = 1 ∧ M 321 9 = 444300620659)))] z_LL M _
  refine wp_be rfl rfl rfl (fun (c1 : ¬ (M 321 6 = 1 ∧ M 321 9 = 444300620659)) => ?_) (fun (c1 : (M 321 6 = 1 ∧ M 321 9 = 444300620659)) => ?_)
  · exact l1 c1
  · refine wp_run 1 (pc' := 74) (ls' := [(2, 321)]) (st' := [(2, 321)]) rfl ?_
    refine wp_gf (pc' := 77) (t := 0) (v := (M 321 39)) rfl rfl (by decide) rfl rfl rfl ?_
    refine wp_run 1 (pc' := 79) (ls' := [(2, 321)]) (st' := [(0, 8), (0, (M 321 39))]) rfl ?_
    refine wp_if2 rfl rfl rfl (fun (c2 : 8 ≤ (M 321 39)) => ?_) (fun (c2 : ¬ (8 ≤ (M 321 39))) => ?_)
    · exact l2 c1 c2
    · refine wp_run 1 (pc' := 83) (ls' := [(2, 321)]) (st' := [(2, 321)]) rfl ?_
      refine wp_callv (pc' := 86) (as := [(2, 321)]) (rest := []) (ls1 := [(2, 321), (3, 0), (3, 0), (3, 0)]) rfl rfl rfl rfl rfl rfl ?_
      exact l3 c1 c2
set_option maxRecDepth 20000 in
theorem gX10_readLine_86 {xs : List Int} {d : Nat} {M : z_M} {P : Option z_V → z_L → z_M → Prop} 
    (l1 : wp xs d mX10_readLine 324 [(2, 321)] [] z_LL M P) :
    wp xs d mX10_readLine 86 [(2, 321)] [] z_LL M P := by
  refine wp_run 1 (pc' := 324) (ls' := [(2, 321)]) (st' := []) rfl ?_
  exact l1
set_option maxRecDepth 20000 in
theorem gX10_readLine_89 {xs : List Int} {d : Nat} {M : z_M} {P : Option z_V → z_L → z_M → Prop} 
    (l1 : (¬ (M 321 6 = 1 ∧ M 321 9 = 439905903467)) → wp xs (d + 1) mX10_readLine 115 [(2, 321)] [] z_LL M P)
    (l2 : ((M 321 6 = 1 ∧ M 321 9 = 439905903467)) → (6 ≤ (M 321 40)) → wp xs (d + 1) mX10_readLine 115 [(2, 321)] [] z_LL M P)
    (l3 : ((M 321 6 = 1 ∧ M 321 9 = 439905903467)) → (¬ (6 ≤ (M 321 40))) → wp xs d mX10_readFlock 0 [(2, 321), (3, 0), (3, 0), (3, 0)] [] z_LL M (fun r L1 M1 => wp xs (d + 1) mX10_readLine 112 [(2, 321)] (z_ol r ++ []) L1 M1 P)) :
    wp xs (d + 1) mX10_readLine 89 [(2, 321)] [] z_LL M P := by
  refine wp_run 2 (pc' := 93) (ls' := [(2, 321)]) (st' := [(1, 439905903467), (2, 321)]) rfl ?_
  refine wp_callv (pc' := 96) (as := [(2, 321), (1, 439905903467)]) (rest := []) (ls1 := [(2, 321), (1, 439905903467), (3, 0)]) rfl rfl rfl rfl rfl rfl ?_
  refine s_X10_isWord  ?_
  show wp xs _ mX10_readLine 96 [(2, 321)] [(0, (z_b (M 321 6 = 1 ∧ M 321 9 = 439905903467)))] z_LL M _
  refine wp_be rfl rfl rfl (fun (c1 : ¬ (M 321 6 = 1 ∧ M 321 9 = 439905903467)) => ?_) (fun (c1 : (M 321 6 = 1 ∧ M 321 9 = 439905903467)) => ?_)
  · exact l1 c1
  · refine wp_run 1 (pc' := 100) (ls' := [(2, 321)]) (st' := [(2, 321)]) rfl ?_
    refine wp_gf (pc' := 103) (t := 0) (v := (M 321 40)) rfl rfl (by decide) rfl rfl rfl ?_
    refine wp_run 1 (pc' := 105) (ls' := [(2, 321)]) (st' := [(0, 6), (0, (M 321 40))]) rfl ?_
    refine wp_if2 rfl rfl rfl (fun (c2 : 6 ≤ (M 321 40)) => ?_) (fun (c2 : ¬ (6 ≤ (M 321 40))) => ?_)
    · exact l2 c1 c2
    · refine wp_run 1 (pc' := 109) (ls' := [(2, 321)]) (st' := [(2, 321)]) rfl ?_
      refine wp_callv (pc' := 112) (as := [(2, 321)]) (rest := []) (ls1 := [(2, 321), (3, 0), (3, 0), (3, 0)]) rfl rfl rfl rfl rfl rfl ?_
      exact l3 c1 c2
set_option maxRecDepth 20000 in
theorem gX10_readLine_112 {xs : List Int} {d : Nat} {M : z_M} {P : Option z_V → z_L → z_M → Prop} 
    (l1 : wp xs d mX10_readLine 324 [(2, 321)] [] z_LL M P) :
    wp xs d mX10_readLine 112 [(2, 321)] [] z_LL M P := by
  refine wp_run 1 (pc' := 324) (ls' := [(2, 321)]) (st' := []) rfl ?_
  exact l1
set_option maxRecDepth 20000 in
theorem gX10_readLine_115 {xs : List Int} {d : Nat} {M : z_M} {P : Option z_V → z_L → z_M → Prop} 
    (l1 : (¬ (M 321 6 = 1 ∧ M 321 9 = 512735736947)) → wp xs (d + 1) mX10_readLine 132 [(2, 321)] [] z_LL M P)
    (l2 : ((M 321 6 = 1 ∧ M 321 9 = 512735736947)) → wp xs d mX10_readWants 0 [(2, 321), (3, 0), (3, 0), (3, 0)] [] z_LL M (fun r L1 M1 => wp xs (d + 1) mX10_readLine 129 [(2, 321)] (z_ol r ++ []) L1 M1 P)) :
    wp xs (d + 1) mX10_readLine 115 [(2, 321)] [] z_LL M P := by
  refine wp_run 2 (pc' := 119) (ls' := [(2, 321)]) (st' := [(1, 512735736947), (2, 321)]) rfl ?_
  refine wp_callv (pc' := 122) (as := [(2, 321), (1, 512735736947)]) (rest := []) (ls1 := [(2, 321), (1, 512735736947), (3, 0)]) rfl rfl rfl rfl rfl rfl ?_
  refine s_X10_isWord  ?_
  show wp xs _ mX10_readLine 122 [(2, 321)] [(0, (z_b (M 321 6 = 1 ∧ M 321 9 = 512735736947)))] z_LL M _
  refine wp_be rfl rfl rfl (fun (c1 : ¬ (M 321 6 = 1 ∧ M 321 9 = 512735736947)) => ?_) (fun (c1 : (M 321 6 = 1 ∧ M 321 9 = 512735736947)) => ?_)
  · exact l1 c1
  · refine wp_run 1 (pc' := 126) (ls' := [(2, 321)]) (st' := [(2, 321)]) rfl ?_
    refine wp_callv (pc' := 129) (as := [(2, 321)]) (rest := []) (ls1 := [(2, 321), (3, 0), (3, 0), (3, 0)]) rfl rfl rfl rfl rfl rfl ?_
    exact l2 c1
set_option maxRecDepth 20000 in
theorem gX10_readLine_129 {xs : List Int} {d : Nat} {M : z_M} {P : Option z_V → z_L → z_M → Prop} 
    (l1 : wp xs d mX10_readLine 324 [(2, 321)] [] z_LL M P) :
    wp xs d mX10_readLine 129 [(2, 321)] [] z_LL M P := by
  refine wp_run 1 (pc' := 324) (ls' := [(2, 321)]) (st' := []) rfl ?_
  exact l1
set_option maxRecDepth 20000 in
theorem gX10_readLine_132 {xs : List Int} {d : Nat} {M : z_M} {P : Option z_V → z_L → z_M → Prop} 
    (l1 : (¬ (M 321 6 = 1 ∧ M 321 9 = 1717925220)) → wp xs (d + 1) mX10_readLine 158 [(2, 321)] [] z_LL M P)
    (l2 : ((M 321 6 = 1 ∧ M 321 9 = 1717925220)) → (15 ≤ (M 321 41)) → wp xs (d + 1) mX10_readLine 158 [(2, 321)] [] z_LL M P)
    (l3 : ((M 321 6 = 1 ∧ M 321 9 = 1717925220)) → (¬ (15 ≤ (M 321 41))) → wp xs d mX10_readFeud 0 [(2, 321), (3, 0), (3, 0)] [] z_LL M (fun r L1 M1 => wp xs (d + 1) mX10_readLine 155 [(2, 321)] (z_ol r ++ []) L1 M1 P)) :
    wp xs (d + 1) mX10_readLine 132 [(2, 321)] [] z_LL M P := by
  refine wp_run 2 (pc' := 136) (ls' := [(2, 321)]) (st' := [(1, 1717925220), (2, 321)]) rfl ?_
  refine wp_callv (pc' := 139) (as := [(2, 321), (1, 1717925220)]) (rest := []) (ls1 := [(2, 321), (1, 1717925220), (3, 0)]) rfl rfl rfl rfl rfl rfl ?_
  refine s_X10_isWord  ?_
  show wp xs _ mX10_readLine 139 [(2, 321)] [(0, (z_b (M 321 6 = 1 ∧ M 321 9 = 1717925220)))] z_LL M _
  refine wp_be rfl rfl rfl (fun (c1 : ¬ (M 321 6 = 1 ∧ M 321 9 = 1717925220)) => ?_) (fun (c1 : (M 321 6 = 1 ∧ M 321 9 = 1717925220)) => ?_)
  · exact l1 c1
  · refine wp_run 1 (pc' := 143) (ls' := [(2, 321)]) (st' := [(2, 321)]) rfl ?_
    refine wp_gf (pc' := 146) (t := 0) (v := (M 321 41)) rfl rfl (by decide) rfl rfl rfl ?_
    refine wp_run 1 (pc' := 148) (ls' := [(2, 321)]) (st' := [(0, 15), (0, (M 321 41))]) rfl ?_
    refine wp_if2 rfl rfl rfl (fun (c2 : 15 ≤ (M 321 41)) => ?_) (fun (c2 : ¬ (15 ≤ (M 321 41))) => ?_)
    · exact l2 c1 c2
    · refine wp_run 1 (pc' := 152) (ls' := [(2, 321)]) (st' := [(2, 321)]) rfl ?_
      refine wp_callv (pc' := 155) (as := [(2, 321)]) (rest := []) (ls1 := [(2, 321), (3, 0), (3, 0)]) rfl rfl rfl rfl rfl rfl ?_
      exact l3 c1 c2
set_option maxRecDepth 20000 in
theorem gX10_readLine_155 {xs : List Int} {d : Nat} {M : z_M} {P : Option z_V → z_L → z_M → Prop} 
    (l1 : wp xs d mX10_readLine 324 [(2, 321)] [] z_LL M P) :
    wp xs d mX10_readLine 155 [(2, 321)] [] z_LL M P := by
  refine wp_run 1 (pc' := 324) (ls' := [(2, 321)]) (st' := []) rfl ?_
  exact l1
set_option maxRecDepth 20000 in
theorem gX10_readLine_158 {xs : List Int} {d : Nat} {M : z_M} {P : Option z_V → z_L → z_M → Prop} 
    (l1 : (¬ (M 321 6 = 1 ∧ M 321 9 = 1886743660)) → wp xs (d + 1) mX10_readLine 187 [(2, 321)] [] z_LL M P)
    (l2 : ((M 321 6 = 1 ∧ M 321 9 = 1886743660)) → ((M 321 55) ≠ 0) → wp xs (d + 1) mX10_readLine 187 [(2, 321)] [] z_LL M P)
    (l3 : ((M 321 6 = 1 ∧ M 321 9 = 1886743660)) → (¬ ((M 321 55) ≠ 0)) → wp xs d mX10_readPull 0 [(2, 321), (3, 0), (3, 0)] [] z_LL (z_up M 321 55 1) (fun r L1 M1 => wp xs (d + 1) mX10_readLine 184 [(2, 321)] (z_ol r ++ []) L1 M1 P)) :
    wp xs (d + 1) mX10_readLine 158 [(2, 321)] [] z_LL M P := by
  refine wp_run 2 (pc' := 162) (ls' := [(2, 321)]) (st' := [(1, 1886743660), (2, 321)]) rfl ?_
  refine wp_callv (pc' := 165) (as := [(2, 321), (1, 1886743660)]) (rest := []) (ls1 := [(2, 321), (1, 1886743660), (3, 0)]) rfl rfl rfl rfl rfl rfl ?_
  refine s_X10_isWord  ?_
  show wp xs _ mX10_readLine 165 [(2, 321)] [(0, (z_b (M 321 6 = 1 ∧ M 321 9 = 1886743660)))] z_LL M _
  refine wp_be rfl rfl rfl (fun (c1 : ¬ (M 321 6 = 1 ∧ M 321 9 = 1886743660)) => ?_) (fun (c1 : (M 321 6 = 1 ∧ M 321 9 = 1886743660)) => ?_)
  · exact l1 c1
  · refine wp_run 1 (pc' := 169) (ls' := [(2, 321)]) (st' := [(2, 321)]) rfl ?_
    refine wp_gf (pc' := 172) (t := 0) (v := (M 321 55)) rfl rfl (by decide) rfl rfl rfl ?_
    refine wp_if1 rfl rfl rfl (fun (c2 : (M 321 55) ≠ 0) => ?_) (fun (c2 : ¬ ((M 321 55) ≠ 0)) => ?_)
    · exact l2 c1 c2
    · refine wp_run 2 (pc' := 177) (ls' := [(2, 321)]) (st' := [(0, 1), (2, 321)]) rfl ?_
      refine wp_pf (pc' := 180) rfl rfl rfl rfl (fun z => absurd z (by decide)) (by decide) ?_
      refine wp_run 1 (pc' := 181) (ls' := [(2, 321)]) (st' := [(2, 321)]) rfl ?_
      refine wp_callv (pc' := 184) (as := [(2, 321)]) (rest := []) (ls1 := [(2, 321), (3, 0), (3, 0)]) rfl rfl rfl rfl rfl rfl ?_
      exact l3 c1 c2
set_option maxRecDepth 20000 in
theorem gX10_readLine_184 {xs : List Int} {d : Nat} {M : z_M} {P : Option z_V → z_L → z_M → Prop} 
    (l1 : wp xs d mX10_readLine 324 [(2, 321)] [] z_LL M P) :
    wp xs d mX10_readLine 184 [(2, 321)] [] z_LL M P := by
  refine wp_run 1 (pc' := 324) (ls' := [(2, 321)]) (st' := []) rfl ?_
  exact l1
set_option maxRecDepth 20000 in
theorem gX10_readLine_187 {xs : List Int} {d : Nat} {M : z_M} {P : Option z_V → z_L → z_M → Prop} 
    (l1 : (¬ (M 321 6 = 1 ∧ M 321 9 = 1918986606)) → wp xs (d + 1) mX10_readLine 240 [(2, 321)] [] z_LL M P)
    (l2 : ((M 321 6 = 1 ∧ M 321 9 = 1918986606)) → ((M 321 56) ≠ 0) → wp xs (d + 1) mX10_readLine 240 [(2, 321)] [] z_LL M P)
    (l3 : ((M 321 6 = 1 ∧ M 321 9 = 1918986606)) → (¬ ((M 321 56) ≠ 0)) → wp xs d mX10_told 0 [(2, 321), (1, 1918986606), (3, 0), (0, 0), (0, 100)] [] z_LL (z_up M 321 56 1) (fun r L1 M1 => wp xs (d + 1) mX10_readLine 220 [(2, 321)] (z_ol r ++ [(2, 321)]) L1 M1 P)) :
    wp xs (d + 1) mX10_readLine 187 [(2, 321)] [] z_LL M P := by
  refine wp_run 2 (pc' := 191) (ls' := [(2, 321)]) (st' := [(1, 1918986606), (2, 321)]) rfl ?_
  refine wp_callv (pc' := 194) (as := [(2, 321), (1, 1918986606)]) (rest := []) (ls1 := [(2, 321), (1, 1918986606), (3, 0)]) rfl rfl rfl rfl rfl rfl ?_
  refine s_X10_isWord  ?_
  show wp xs _ mX10_readLine 194 [(2, 321)] [(0, (z_b (M 321 6 = 1 ∧ M 321 9 = 1918986606)))] z_LL M _
  refine wp_be rfl rfl rfl (fun (c1 : ¬ (M 321 6 = 1 ∧ M 321 9 = 1918986606)) => ?_) (fun (c1 : (M 321 6 = 1 ∧ M 321 9 = 1918986606)) => ?_)
  · exact l1 c1
  · refine wp_run 1 (pc' := 198) (ls' := [(2, 321)]) (st' := [(2, 321)]) rfl ?_
    refine wp_gf (pc' := 201) (t := 0) (v := (M 321 56)) rfl rfl (by decide) rfl rfl rfl ?_
    refine wp_if1 rfl rfl rfl (fun (c2 : (M 321 56) ≠ 0) => ?_) (fun (c2 : ¬ ((M 321 56) ≠ 0)) => ?_)
    · exact l2 c1 c2
    · refine wp_run 2 (pc' := 206) (ls' := [(2, 321)]) (st' := [(0, 1), (2, 321)]) rfl ?_
      refine wp_pf (pc' := 209) rfl rfl rfl rfl (fun z => absurd z (by decide)) (by decide) ?_
      refine wp_run 5 (pc' := 217) (ls' := [(2, 321)]) (st' := [(0, 100), (0, 0), (1, 1918986606), (2, 321), (2, 321)]) rfl ?_
      refine wp_callv (pc' := 220) (as := [(2, 321), (1, 1918986606), (0, 0), (0, 100)]) (rest := [(2, 321)]) (ls1 := [(2, 321), (1, 1918986606), (3, 0), (0, 0), (0, 100)]) rfl rfl rfl rfl rfl rfl ?_
      exact l3 c1 c2
set_option maxRecDepth 20000 in
theorem gX10_readLine_220 {xs : List Int} {d : Nat} {M : z_M} {P : Option z_V → z_L → z_M → Prop} {s1 : Int} 
    (l1 : wp xs d mX10_told 0 [(2, 321), (1, 28518), (3, 0), (0, 1), (0, 9)] [] z_LL (z_up M 321 42 s1) (fun r L1 M1 => wp xs (d + 1) mX10_readLine 234 [(2, 321)] (z_ol r ++ [(2, 321)]) L1 M1 P)) :
    wp xs (d + 1) mX10_readLine 220 [(2, 321)] [(0, s1), (2, 321)] z_LL M P := by
  refine wp_pf (pc' := 223) rfl rfl rfl rfl (fun z => absurd z (by decide)) (fun z => absurd z (by decide)) ?_
  refine wp_run 5 (pc' := 231) (ls' := [(2, 321)]) (st' := [(0, 9), (0, 1), (1, 28518), (2, 321), (2, 321)]) rfl ?_
  refine wp_callv (pc' := 234) (as := [(2, 321), (1, 28518), (0, 1), (0, 9)]) (rest := [(2, 321)]) (ls1 := [(2, 321), (1, 28518), (3, 0), (0, 1), (0, 9)]) rfl rfl rfl rfl rfl rfl ?_
  exact l1
set_option maxRecDepth 20000 in
theorem gX10_readLine_234 {xs : List Int} {d : Nat} {M : z_M} {P : Option z_V → z_L → z_M → Prop} {s1 : Int} 
    (l1 : wp xs d mX10_readLine 324 [(2, 321)] [] z_LL (z_up M 321 43 s1) P) :
    wp xs d mX10_readLine 234 [(2, 321)] [(0, s1), (2, 321)] z_LL M P := by
  refine wp_pf (pc' := 237) rfl rfl rfl rfl (fun z => absurd z (by decide)) (fun z => absurd z (by decide)) ?_
  refine wp_run 1 (pc' := 324) (ls' := [(2, 321)]) (st' := []) rfl ?_
  exact l1
set_option maxRecDepth 20000 in
theorem gX10_readLine_240 {xs : List Int} {d : Nat} {M : z_M} {P : Option z_V → z_L → z_M → Prop} 
    (l1 : (¬ (M 321 6 = 1 ∧ M 321 9 = 7311142569972230003)) → wp xs (d + 1) mX10_readLine 279 [(2, 321)] [] z_LL M P)
    (l2 : ((M 321 6 = 1 ∧ M 321 9 = 7311142569972230003)) → ((M 321 57) ≠ 0) → wp xs (d + 1) mX10_readLine 279 [(2, 321)] [] z_LL M P)
    (l3 : ((M 321 6 = 1 ∧ M 321 9 = 7311142569972230003)) → (¬ ((M 321 57) ≠ 0)) → wp xs d mX10_told 0 [(2, 321), (1, 7311142569972230003), (3, 0), (0, 1), (0, 20)] [] z_LL (z_up M 321 57 1) (fun r L1 M1 => wp xs (d + 1) mX10_readLine 273 [(2, 321)] (z_ol r ++ [(2, 321)]) L1 M1 P)) :
    wp xs (d + 1) mX10_readLine 240 [(2, 321)] [] z_LL M P := by
  refine wp_run 2 (pc' := 244) (ls' := [(2, 321)]) (st' := [(1, 7311142569972230003), (2, 321)]) rfl ?_
  refine wp_callv (pc' := 247) (as := [(2, 321), (1, 7311142569972230003)]) (rest := []) (ls1 := [(2, 321), (1, 7311142569972230003), (3, 0)]) rfl rfl rfl rfl rfl rfl ?_
  refine s_X10_isWord  ?_
  show wp xs _ mX10_readLine 247 [(2, 321)] [(0, (z_b (M 321 6 = 1 ∧ M 321 9 = 7311142569972230003)))] z_LL M _
  refine wp_be rfl rfl rfl (fun (c1 : ¬ (M 321 6 = 1 ∧ M 321 9 = 7311142569972230003)) => ?_) (fun (c1 : (M 321 6 = 1 ∧ M 321 9 = 7311142569972230003)) => ?_)
  · exact l1 c1
  · refine wp_run 1 (pc' := 251) (ls' := [(2, 321)]) (st' := [(2, 321)]) rfl ?_
    refine wp_gf (pc' := 254) (t := 0) (v := (M 321 57)) rfl rfl (by decide) rfl rfl rfl ?_
    refine wp_if1 rfl rfl rfl (fun (c2 : (M 321 57) ≠ 0) => ?_) (fun (c2 : ¬ ((M 321 57) ≠ 0)) => ?_)
    · exact l2 c1 c2
    · refine wp_run 2 (pc' := 259) (ls' := [(2, 321)]) (st' := [(0, 1), (2, 321)]) rfl ?_
      refine wp_pf (pc' := 262) rfl rfl rfl rfl (fun z => absurd z (by decide)) (by decide) ?_
      refine wp_run 5 (pc' := 270) (ls' := [(2, 321)]) (st' := [(0, 20), (0, 1), (1, 7311142569972230003), (2, 321), (2, 321)]) rfl ?_
      refine wp_callv (pc' := 273) (as := [(2, 321), (1, 7311142569972230003), (0, 1), (0, 20)]) (rest := [(2, 321)]) (ls1 := [(2, 321), (1, 7311142569972230003), (3, 0), (0, 1), (0, 20)]) rfl rfl rfl rfl rfl rfl ?_
      exact l3 c1 c2
set_option maxRecDepth 20000 in
theorem gX10_readLine_273 {xs : List Int} {d : Nat} {M : z_M} {P : Option z_V → z_L → z_M → Prop} {s1 : Int} 
    (l1 : wp xs d mX10_readLine 324 [(2, 321)] [] z_LL (z_up M 321 44 s1) P) :
    wp xs d mX10_readLine 273 [(2, 321)] [(0, s1), (2, 321)] z_LL M P := by
  refine wp_pf (pc' := 276) rfl rfl rfl rfl (fun z => absurd z (by decide)) (fun z => absurd z (by decide)) ?_
  refine wp_run 1 (pc' := 324) (ls' := [(2, 321)]) (st' := []) rfl ?_
  exact l1
set_option maxRecDepth 20000 in
theorem gX10_readLine_279 {xs : List Int} {d : Nat} {M : z_M} {P : Option z_V → z_L → z_M → Prop} 
    (l1 : (¬ (M 321 6 = 1 ∧ M 321 9 = 1685217655)) → wp xs (d + 1) mX10_readLine 319 [(2, 321)] [] z_LL M P)
    (l2 : ((M 321 6 = 1 ∧ M 321 9 = 1685217655)) → ((M 321 58) ≠ 0) → wp xs (d + 1) mX10_readLine 319 [(2, 321)] [] z_LL M P)
    (l3 : ((M 321 6 = 1 ∧ M 321 9 = 1685217655)) → (¬ ((M 321 58) ≠ 0)) → wp xs d mX10_told 0 [(2, 321), (1, 1685217655), (3, 0), (0, 0), (0, 999)] [] z_LL (z_up M 321 58 1) (fun r L1 M1 => wp xs (d + 1) mX10_readLine 313 [(2, 321)] (z_ol r ++ [(2, 321)]) L1 M1 P)) :
    wp xs (d + 1) mX10_readLine 279 [(2, 321)] [] z_LL M P := by
  refine wp_run 2 (pc' := 283) (ls' := [(2, 321)]) (st' := [(1, 1685217655), (2, 321)]) rfl ?_
  refine wp_callv (pc' := 286) (as := [(2, 321), (1, 1685217655)]) (rest := []) (ls1 := [(2, 321), (1, 1685217655), (3, 0)]) rfl rfl rfl rfl rfl rfl ?_
  refine s_X10_isWord  ?_
  show wp xs _ mX10_readLine 286 [(2, 321)] [(0, (z_b (M 321 6 = 1 ∧ M 321 9 = 1685217655)))] z_LL M _
  refine wp_be rfl rfl rfl (fun (c1 : ¬ (M 321 6 = 1 ∧ M 321 9 = 1685217655)) => ?_) (fun (c1 : (M 321 6 = 1 ∧ M 321 9 = 1685217655)) => ?_)
  · exact l1 c1
  · refine wp_run 1 (pc' := 290) (ls' := [(2, 321)]) (st' := [(2, 321)]) rfl ?_
    refine wp_gf (pc' := 293) (t := 0) (v := (M 321 58)) rfl rfl (by decide) rfl rfl rfl ?_
    refine wp_if1 rfl rfl rfl (fun (c2 : (M 321 58) ≠ 0) => ?_) (fun (c2 : ¬ ((M 321 58) ≠ 0)) => ?_)
    · exact l2 c1 c2
    · refine wp_run 2 (pc' := 298) (ls' := [(2, 321)]) (st' := [(0, 1), (2, 321)]) rfl ?_
      refine wp_pf (pc' := 301) rfl rfl rfl rfl (fun z => absurd z (by decide)) (by decide) ?_
      refine wp_run 5 (pc' := 310) (ls' := [(2, 321)]) (st' := [(0, 999), (0, 0), (1, 1685217655), (2, 321), (2, 321)]) rfl ?_
      refine wp_callv (pc' := 313) (as := [(2, 321), (1, 1685217655), (0, 0), (0, 999)]) (rest := [(2, 321)]) (ls1 := [(2, 321), (1, 1685217655), (3, 0), (0, 0), (0, 999)]) rfl rfl rfl rfl rfl rfl ?_
      exact l3 c1 c2
set_option maxRecDepth 20000 in
theorem gX10_readLine_313 {xs : List Int} {d : Nat} {M : z_M} {P : Option z_V → z_L → z_M → Prop} {s1 : Int} 
    (l1 : wp xs d mX10_readLine 324 [(2, 321)] [] z_LL (z_up M 321 45 s1) P) :
    wp xs d mX10_readLine 313 [(2, 321)] [(0, s1), (2, 321)] z_LL M P := by
  refine wp_pf (pc' := 316) rfl rfl rfl rfl (fun z => absurd z (by decide)) (fun z => absurd z (by decide)) ?_
  refine wp_run 1 (pc' := 324) (ls' := [(2, 321)]) (st' := []) rfl ?_
  exact l1
set_option maxRecDepth 20000 in
theorem gX10_readLine_319 {xs : List Int} {d : Nat} {M : z_M} {P : Option z_V → z_L → z_M → Prop} 
    (l1 : wp xs d mX10_wrong 0 [(2, 321), (0, 2)] [] z_LL M (fun r L1 M1 => wp xs (d + 1) mX10_readLine 324 [(2, 321)] (z_ol r ++ []) L1 M1 P)) :
    wp xs (d + 1) mX10_readLine 319 [(2, 321)] [] z_LL M P := by
  refine wp_run 2 (pc' := 321) (ls' := [(2, 321)]) (st' := [(0, 2), (2, 321)]) rfl ?_
  refine wp_callv (pc' := 324) (as := [(2, 321), (0, 2)]) (rest := []) (ls1 := [(2, 321), (0, 2)]) rfl rfl rfl rfl rfl rfl ?_
  exact l1
set_option maxRecDepth 20000 in
theorem gX10_readLine_324 {xs : List Int} {d : Nat} {M : z_M} {P : Option z_V → z_L → z_M → Prop} 
    (l1 : ((M 321 2) ≠ 0) → wp xs (d + 1) mX10_readLine 350 [(2, 321)] [] z_LL (z_up M 321 53 1) P)
    (l2 : (¬ ((M 321 2) ≠ 0)) → ((M 321 6) = 59) → wp xs (d + 1) mX10_readLine 350 [(2, 321)] [] z_LL (z_up M 321 53 1) P)
    (l3 : (¬ ((M 321 2) ≠ 0)) → (¬ ((M 321 6) = 59)) → wp xs d mX10_wrong 0 [(2, 321), (0, 2)] [] z_LL (z_up M 321 53 1) (fun r L1 M1 => wp xs (d + 1) mX10_readLine 350 [(2, 321)] (z_ol r ++ []) L1 M1 P)) :
    wp xs (d + 1) mX10_readLine 324 [(2, 321)] [] z_LL M P := by
  refine wp_run 2 (pc' := 326) (ls' := [(2, 321)]) (st' := [(0, 1), (2, 321)]) rfl ?_
  refine wp_pf (pc' := 329) rfl rfl rfl rfl (fun z => absurd z (by decide)) (by decide) ?_
  refine wp_run 1 (pc' := 330) (ls' := [(2, 321)]) (st' := [(2, 321)]) rfl ?_
  refine wp_gf (pc' := 333) (t := 0) (v := (M 321 2)) rfl rfl (by decide) rfl rfl (z_upi (by decide) rfl) ?_
  refine wp_if1 rfl rfl rfl (fun (c1 : (M 321 2) ≠ 0) => ?_) (fun (c1 : ¬ ((M 321 2) ≠ 0)) => ?_)
  · exact l1 c1
  · refine wp_run 1 (pc' := 337) (ls' := [(2, 321)]) (st' := [(2, 321)]) rfl ?_
    refine wp_gf (pc' := 340) (t := 0) (v := (M 321 6)) rfl rfl (by decide) rfl rfl (z_upi (by decide) rfl) ?_
    refine wp_run 1 (pc' := 342) (ls' := [(2, 321)]) (st' := [(0, 59), (0, (M 321 6))]) rfl ?_
    refine wp_if2 rfl rfl rfl (fun (c2 : (M 321 6) = 59) => ?_) (fun (c2 : ¬ ((M 321 6) = 59)) => ?_)
    · exact l2 c1 c2
    · refine wp_run 2 (pc' := 347) (ls' := [(2, 321)]) (st' := [(0, 2), (2, 321)]) rfl ?_
      refine wp_callv (pc' := 350) (as := [(2, 321), (0, 2)]) (rest := []) (ls1 := [(2, 321), (0, 2)]) rfl rfl rfl rfl rfl rfl ?_
      exact l3 c1 c2
set_option maxRecDepth 20000 in
theorem gX10_readLine_350 {xs : List Int} {d : Nat} {M : z_M} {P : Option z_V → z_L → z_M → Prop} 
    (l1 : ((M 321 2) ≠ 0) → P none z_LL M)
    (l2 : (¬ ((M 321 2) ≠ 0)) → wp xs d mX10_token 0 [(2, 321), (3, 0), (3, 0)] [] z_LL M (fun r L1 M1 => wp xs (d + 1) mX10_readLine 361 [(2, 321)] (z_ol r ++ []) L1 M1 P)) :
    wp xs (d + 1) mX10_readLine 350 [(2, 321)] [] z_LL M P := by
  refine wp_run 1 (pc' := 351) (ls' := [(2, 321)]) (st' := [(2, 321)]) rfl ?_
  refine wp_gf (pc' := 354) (t := 0) (v := (M 321 2)) rfl rfl (by decide) rfl rfl rfl ?_
  refine wp_if1 rfl rfl rfl (fun (c1 : (M 321 2) ≠ 0) => ?_) (fun (c1 : ¬ ((M 321 2) ≠ 0)) => ?_)
  · exact wp_ret rfl rfl (l1 c1)
  · refine wp_run 1 (pc' := 358) (ls' := [(2, 321)]) (st' := [(2, 321)]) rfl ?_
    refine wp_callv (pc' := 361) (as := [(2, 321)]) (rest := []) (ls1 := [(2, 321), (3, 0), (3, 0)]) rfl rfl rfl rfl rfl rfl ?_
    exact l2 c1
set_option maxRecDepth 20000 in
theorem gX10_readLine_361 {xs : List Int} {d : Nat} {M : z_M} {P : Option z_V → z_L → z_M → Prop} 
    (l1 : P none z_LL M) :
    wp xs d mX10_readLine 361 [(2, 321)] [] z_LL M P := by
  exact wp_ret rfl rfl (l1)
set_option maxRecDepth 20000 in
theorem gX10_readAll_0 {xs : List Int} {d : Nat} {M : z_M} {P : Option z_V → z_L → z_M → Prop} 
    (l1 : wp xs d mX10_readAll 45 [(2, 321), (0, 0)] [] z_LL (z_up (z_up (z_up (z_up (z_up (z_up (z_up (z_up M 321 5 (M 321 1)) 321 1 0) 321 4 0) 321 2 0) 321 3 (-1)) 321 36 4) 321 37 4) 321 38 5) P) :
    wp xs d mX10_readAll 0 [(2, 321), (3, 0)] [] z_LL M P := by
  refine wp_run 2 (pc' := 2) (ls' := [(2, 321), (3, 0)]) (st' := [(2, 321), (2, 321)]) rfl ?_
  refine wp_gf (pc' := 5) (t := 0) (v := (M 321 1)) rfl rfl (by decide) rfl rfl rfl ?_
  refine wp_pf (pc' := 8) rfl rfl rfl rfl (fun z => absurd z (by decide)) (fun z => absurd z (by decide)) ?_
  refine wp_run 2 (pc' := 10) (ls' := [(2, 321), (3, 0)]) (st' := [(0, 0), (2, 321)]) rfl ?_
  refine wp_pf (pc' := 13) rfl rfl rfl rfl (fun z => absurd z (by decide)) (fun z => absurd z (by decide)) ?_
  refine wp_run 2 (pc' := 15) (ls' := [(2, 321), (3, 0)]) (st' := [(0, 0), (2, 321)]) rfl ?_
  refine wp_pf (pc' := 18) rfl rfl rfl rfl (fun z => absurd z (by decide)) (fun z => absurd z (by decide)) ?_
  refine wp_run 2 (pc' := 20) (ls' := [(2, 321), (3, 0)]) (st' := [(0, 0), (2, 321)]) rfl ?_
  refine wp_pf (pc' := 23) rfl rfl rfl rfl (fun z => absurd z (by decide)) (fun z => absurd z (by decide)) ?_
  refine wp_run 2 (pc' := 25) (ls' := [(2, 321), (3, 0)]) (st' := [(0, (-1)), (2, 321)]) rfl ?_
  refine wp_pf (pc' := 28) rfl rfl rfl rfl (fun z => absurd z (by decide)) (fun z => absurd z (by decide)) ?_
  refine wp_run 2 (pc' := 30) (ls' := [(2, 321), (3, 0)]) (st' := [(0, 4), (2, 321)]) rfl ?_
  refine wp_pf (pc' := 33) rfl rfl rfl rfl (fun z => absurd z (by decide)) (fun z => absurd z (by decide)) ?_
  refine wp_run 2 (pc' := 35) (ls' := [(2, 321), (3, 0)]) (st' := [(0, 4), (2, 321)]) rfl ?_
  refine wp_pf (pc' := 38) rfl rfl rfl rfl (fun z => absurd z (by decide)) (fun z => absurd z (by decide)) ?_
  refine wp_run 2 (pc' := 40) (ls' := [(2, 321), (3, 0)]) (st' := [(0, 5), (2, 321)]) rfl ?_
  refine wp_pf (pc' := 43) rfl rfl rfl rfl (fun z => absurd z (by decide)) (fun z => absurd z (by decide)) ?_
  refine wp_run 2 (pc' := 45) (ls' := [(2, 321), (0, 0)]) (st' := []) rfl ?_
  exact l1
set_option maxRecDepth 20000 in
theorem gX10_readAll_45 {xs : List Int} {d : Nat} {M : z_M} {P : Option z_V → z_L → z_M → Prop} {x1 : Int} (hF : z_fix M) 
    (l1 : (25 ≤ x1) → wp xs d mX10_token 0 [(2, 321), (3, 0), (3, 0)] [] z_LL (z_up (z_up (z_up (z_up (z_up (z_up (z_up (z_up (z_up (z_up (z_up (z_up (z_up (z_up (z_up M 321 39 0) 321 40 0) 321 41 0) 321 42 0) 321 43 1) 321 44 9) 321 45 0) 321 53 0) 321 54 0) 321 55 0) 321 56 0) 321 57 0) 321 58 0) 321 20 0) 321 17 0) (fun r L1 M1 => wp xs (d + 1) mX10_readAll 144 [(2, 321), (0, x1)] (z_ol r ++ []) L1 M1 P))
    (b1 : (¬ (25 ≤ x1)) → 0 ≤ x1 ∧ x1 < 25)
    (l2 : (¬ (25 ≤ x1)) → wp xs (d + 1) mX10_readAll 45 [(2, 321), (0, (z_w (x1 + 1)))] [] z_LL (z_up M 331 x1 (-1)) P) :
    wp xs (d + 1) mX10_readAll 45 [(2, 321), (0, x1)] [] z_LL M P := by
  refine wp_run 2 (pc' := 48) (ls' := [(2, 321), (0, x1)]) (st' := [(0, 25), (0, x1)]) rfl ?_
  refine wp_if2 rfl rfl rfl (fun (c1 : 25 ≤ x1) => ?_) (fun (c1 : ¬ (25 ≤ x1)) => ?_)
  · refine wp_run 2 (pc' := 66) (ls' := [(2, 321), (0, x1)]) (st' := [(0, 0), (2, 321)]) rfl ?_
    refine wp_pf (pc' := 69) rfl rfl rfl rfl (fun z => absurd z (by decide)) (fun z => absurd z (by decide)) ?_
    refine wp_run 2 (pc' := 71) (ls' := [(2, 321), (0, x1)]) (st' := [(0, 0), (2, 321)]) rfl ?_
    refine wp_pf (pc' := 74) rfl rfl rfl rfl (fun z => absurd z (by decide)) (fun z => absurd z (by decide)) ?_
    refine wp_run 2 (pc' := 76) (ls' := [(2, 321), (0, x1)]) (st' := [(0, 0), (2, 321)]) rfl ?_
    refine wp_pf (pc' := 79) rfl rfl rfl rfl (fun z => absurd z (by decide)) (fun z => absurd z (by decide)) ?_
    refine wp_run 2 (pc' := 81) (ls' := [(2, 321), (0, x1)]) (st' := [(0, 0), (2, 321)]) rfl ?_
    refine wp_pf (pc' := 84) rfl rfl rfl rfl (fun z => absurd z (by decide)) (fun z => absurd z (by decide)) ?_
    refine wp_run 2 (pc' := 86) (ls' := [(2, 321), (0, x1)]) (st' := [(0, 1), (2, 321)]) rfl ?_
    refine wp_pf (pc' := 89) rfl rfl rfl rfl (fun z => absurd z (by decide)) (fun z => absurd z (by decide)) ?_
    refine wp_run 2 (pc' := 92) (ls' := [(2, 321), (0, x1)]) (st' := [(0, 9), (2, 321)]) rfl ?_
    refine wp_pf (pc' := 95) rfl rfl rfl rfl (fun z => absurd z (by decide)) (fun z => absurd z (by decide)) ?_
    refine wp_run 2 (pc' := 97) (ls' := [(2, 321), (0, x1)]) (st' := [(0, 0), (2, 321)]) rfl ?_
    refine wp_pf (pc' := 100) rfl rfl rfl rfl (fun z => absurd z (by decide)) (fun z => absurd z (by decide)) ?_
    refine wp_run 2 (pc' := 102) (ls' := [(2, 321), (0, x1)]) (st' := [(0, 0), (2, 321)]) rfl ?_
    refine wp_pf (pc' := 105) rfl rfl rfl rfl (fun z => absurd z (by decide)) (by decide) ?_
    refine wp_run 2 (pc' := 107) (ls' := [(2, 321), (0, x1)]) (st' := [(0, 0), (2, 321)]) rfl ?_
    refine wp_pf (pc' := 110) rfl rfl rfl rfl (fun z => absurd z (by decide)) (by decide) ?_
    refine wp_run 2 (pc' := 112) (ls' := [(2, 321), (0, x1)]) (st' := [(0, 0), (2, 321)]) rfl ?_
    refine wp_pf (pc' := 115) rfl rfl rfl rfl (fun z => absurd z (by decide)) (by decide) ?_
    refine wp_run 2 (pc' := 117) (ls' := [(2, 321), (0, x1)]) (st' := [(0, 0), (2, 321)]) rfl ?_
    refine wp_pf (pc' := 120) rfl rfl rfl rfl (fun z => absurd z (by decide)) (by decide) ?_
    refine wp_run 2 (pc' := 122) (ls' := [(2, 321), (0, x1)]) (st' := [(0, 0), (2, 321)]) rfl ?_
    refine wp_pf (pc' := 125) rfl rfl rfl rfl (fun z => absurd z (by decide)) (by decide) ?_
    refine wp_run 2 (pc' := 127) (ls' := [(2, 321), (0, x1)]) (st' := [(0, 0), (2, 321)]) rfl ?_
    refine wp_pf (pc' := 130) rfl rfl rfl rfl (fun z => absurd z (by decide)) (by decide) ?_
    refine wp_run 2 (pc' := 132) (ls' := [(2, 321), (0, x1)]) (st' := [(0, 0), (2, 321)]) rfl ?_
    refine wp_pf (pc' := 135) rfl rfl rfl rfl (fun z => absurd z (by decide)) (fun z => absurd z (by decide)) ?_
    refine wp_run 2 (pc' := 137) (ls' := [(2, 321), (0, x1)]) (st' := [(0, 0), (2, 321)]) rfl ?_
    refine wp_pf (pc' := 140) rfl rfl rfl rfl (fun z => absurd z (by decide)) (fun z => absurd z (by decide)) ?_
    refine wp_run 1 (pc' := 141) (ls' := [(2, 321), (0, x1)]) (st' := [(2, 321)]) rfl ?_
    refine wp_callv (pc' := 144) (as := [(2, 321)]) (rest := []) (ls1 := [(2, 321), (3, 0), (3, 0)]) rfl rfl rfl rfl rfl rfl ?_
    exact l1 c1
  · refine wp_run 1 (pc' := 52) (ls' := [(2, 321), (0, x1)]) (st' := [(2, 321)]) rfl ?_
    refine wp_gf (pc' := 55) (t := 2) (v := 331) rfl rfl (by decide) rfl rfl (fx_321_25 hF) ?_
    refine wp_run 2 (pc' := 57) (ls' := [(2, 321), (0, x1)]) (st' := [(0, (-1)), (0, x1), (2, 331)]) rfl ?_
    refine wp_iast (pc' := 58) rfl rfl rfl (b1 c1) ?_
    refine wp_run 2 (pc' := 45) (ls' := [(2, 321), (0, (z_w (x1 + 1)))]) (st' := []) rfl ?_
    exact l2 c1
set_option maxRecDepth 20000 in
theorem gX10_readAll_144 {xs : List Int} {d : Nat} {M : z_M} {P : Option z_V → z_L → z_M → Prop} {x1 : Int} 
    (l1 : ((M 321 2) ≠ 0) → P none z_LL M)
    (l2 : (¬ ((M 321 2) ≠ 0)) → ((M 321 6) = 0) → P none z_LL M)
    (l3 : (¬ ((M 321 2) ≠ 0)) → (¬ ((M 321 6) = 0)) → wp xs d mX10_readLine 0 [(2, 321)] [] z_LL M (fun r L1 M1 => wp xs (d + 1) mX10_readAll 162 [(2, 321), (0, x1)] (z_ol r ++ []) L1 M1 P)) :
    wp xs (d + 1) mX10_readAll 144 [(2, 321), (0, x1)] [] z_LL M P := by
  refine wp_run 1 (pc' := 145) (ls' := [(2, 321), (0, x1)]) (st' := [(2, 321)]) rfl ?_
  refine wp_gf (pc' := 148) (t := 0) (v := (M 321 2)) rfl rfl (by decide) rfl rfl rfl ?_
  refine wp_if1 rfl rfl rfl (fun (c1 : (M 321 2) ≠ 0) => ?_) (fun (c1 : ¬ ((M 321 2) ≠ 0)) => ?_)
  · exact wp_ret rfl rfl (l1 c1)
  · refine wp_run 1 (pc' := 152) (ls' := [(2, 321), (0, x1)]) (st' := [(2, 321)]) rfl ?_
    refine wp_gf (pc' := 155) (t := 0) (v := (M 321 6)) rfl rfl (by decide) rfl rfl rfl ?_
    refine wp_if1 rfl rfl rfl (fun (c2 : (M 321 6) = 0) => ?_) (fun (c2 : ¬ ((M 321 6) = 0)) => ?_)
    · exact wp_ret rfl rfl (l2 c1 c2)
    · refine wp_run 1 (pc' := 159) (ls' := [(2, 321), (0, x1)]) (st' := [(2, 321)]) rfl ?_
      refine wp_callv (pc' := 162) (as := [(2, 321)]) (rest := []) (ls1 := [(2, 321)]) rfl rfl rfl rfl rfl rfl ?_
      exact l3 c1 c2
set_option maxRecDepth 20000 in
theorem gX10_readAll_162 {xs : List Int} {d : Nat} {M : z_M} {P : Option z_V → z_L → z_M → Prop} {x1 : Int} 
    (l1 : wp xs d mX10_readAll 144 [(2, 321), (0, x1)] [] z_LL M P) :
    wp xs d mX10_readAll 162 [(2, 321), (0, x1)] [] z_LL M P := by
  refine wp_run 1 (pc' := 144) (ls' := [(2, 321), (0, x1)]) (st' := []) rfl ?_
  exact l1
def zm_w (M M' : z_M) : Prop := (∀ q, ¬ zm_q q → M' q = M q) ∧ ∀ j, ¬ zm_j j → ¬ (53 ≤ j ∧ j ≤ 58) → M' 321 j = M 321 j
section
variable {xs : List Int} {d : Nat} {M M' G : z_M} {b : Int → Int} {n p : Int} {σ : zs_S} {P : Option z_V → z_L → z_M → Prop}
theorem zm_w_r : zm_w M M := ⟨fun _ _ => rfl, fun _ _ _ => rfl⟩
theorem zm_w_t {M2 : z_M} (f : zm_w M M') (g : zm_w M' M2) : zm_w M M2 := ⟨fun q a => by rw [g.1 q a, f.1 q a], fun j a c => by rw [g.2 j a c, f.2 j a c]⟩
theorem zm_w_b (f : zm_b M M') : zm_w M M' := ⟨f.1, fun j a _ => f.2 j a⟩
theorem zm_w_u {j v : Int} (hj : 53 ≤ j ∧ j ≤ 58) : zm_w M (z_up M 321 j v) := ⟨fun a ha => z_upn (fun e => ha (Or.inl e)), fun i _ hi => z_upi (by omega) rfl⟩
theorem zm_w_F (f : zm_w M M') (hF : z_fix M) : z_fix M' := z_fix_gen hF (fun q i hq => by
  by_cases e : q = 321
  · rw [e] at hq ⊢
    exact f.2 i (by unfold z_fin at hq; unfold zm_j; omega) (by unfold z_fin at hq; omega)
  · rw [f.1 q (by unfold z_fin at hq; unfold zm_q; omega)])
/-- G may differ where M tells nothing -/
theorem zm_c_g {v : Int} (h : zm_c M G) : zm_c M (z_up G 321 53 v) := by
  have o : ∀ a, a ≠ 321 → z_up G 321 53 v a = G a := fun a w => z_upn w
  have o2 : ∀ i, i ≠ 53 → z_up G 321 53 v 321 i = G 321 i := fun i w => z_upi w rfl
  obtain ⟨h1, h2, h3, h4⟩ := h
  refine ⟨fun j hj => by rw [o2 j (by unfold zm_d at hj; omega)]; exact h1 j hj, ?_, ?_, ?_⟩
  · rw [o2 17 (by decide), o 324 (by decide), o 325 (by decide)]
    exact h2
  · rw [o 331 (by decide)]
    exact h3
  · rw [o 323 (by decide), o 332 (by decide), o 333 (by decide), o 334 (by decide), o 335 (by decide), o 336 (by decide)]
    exact h4
theorem m_line (hF : z_fix M) (h : zs_m M b n (.ok p)) (h26 : zt_k b n p ≠ 26) (hy : zy G) (hm : zm_c M G) (h53 : M 321 53 = G 321 53) (k : ∀ M' : z_M, zm_w M M' → zs_m M' b n (zl b n p G).1 → (∀ q, (zl b n p G).1 = .ok q → zm_c M' (zl b n p G).2 ∧ M' 321 53 = (zl b n p G).2 321 53) → P none z_LL M') : wp xs (d + 10) mX10_readLine 0 [(2, 321)] [] z_LL M P := by
  obtain ⟨n0, np, s6, s8, s9⟩ := zs_m_o h
  obtain ⟨y0, y1, y2⟩ := hy
  have hz := y0.1
  have word : ∀ {i : Nat} {w : Int}, i < 24 → z_own8.getD i 0 = w → ((M 321 6 = 1 ∧ M 321 9 = w) ↔ zt_k b n p = i) := fun {i w} hi hw => by
    have := zt_m_w (h.2.2.2 p rfl) np hi
    rw [hw] at this
    exact this
  have fin : ∀ (M3 : z_M) (r : zs_S × z_M), zm_w M M3 → zs_m M3 b n r.1 → (∀ q, r.1 = .ok q → zm_c M3 r.2 ∧ r.2 321 53 = 1) → zl b n p G = (zs_nd b n 59 r.1, r.2) → wp xs (d + 10) mX10_readLine 324 [(2, 321)] [] z_LL M3 P := fun M3 r f3 c3 m3 er => by
    rw [er] at k
    obtain ⟨σ3, G3⟩ := r
    have f4 : zm_w M (z_up M3 321 53 1) := zm_w_t f3 (zm_w_u (by decide))
    have c4 : zs_m (z_up M3 321 53 1) b n σ3 := zs_m_u (by decide) (by omega) c3
    have e2 : z_up M3 321 53 1 321 2 = M3 321 2 := z_upi (by decide) rfl
    cases σ3 with
    | error e =>
      have n3 := (zs_m_e c3).1
      exact gX10_readLine_324 (d := d + 9) (fun _ => gX10_readLine_350 (d := d + 9) (fun _ => k _ f4 c4 (fun q hq => by cases hq)) (fun w => absurd (by rw [e2]; exact n3) w)) (fun w => absurd n3 w) (fun w => absurd n3 w)
    | ok q =>
      obtain ⟨n3, nq, q6, -, -⟩ := zs_m_o c3
      have ri := (zt_r_i (b := b) (n := n) (p := q)).2.2.2.2 59 (by decide)
      obtain ⟨mc, m53⟩ := m3 q rfl
      have n4 : z_up M3 321 53 1 321 2 = 0 := by rw [e2]; exact n3
      refine gX10_readLine_324 (d := d + 9) (fun w => absurd n3 w) (fun _ w => ?_) (fun _ w => ?_)
      · have k59 : zt_k b n q = 59 := by rw [q6] at w; exact ri.mp w
        refine gX10_readLine_350 (d := d + 9) (fun w => absurd n4 w) (fun _ => ?_)
        refine s_X10_next (d := d + 8) (zm_w_F f4 hF) c4 (by omega) (fun M5 f5 c5 => gX10_readLine_361 (k M5 (zm_w_t f4 (zm_w_b (zm_b_h f5))) ?_ (fun q' _ => ⟨zm_c_h (zm_c_o (Or.inr ⟨rfl, by unfold zm_d; omega⟩) mc) f5, ?_⟩)))
        · show zs_m M5 b n (if zt_k b n q = 59 then _ else _)
          rw [if_pos k59]
          exact c5
        · show M5 321 53 = G3 321 53
          rw [f5.2 53 (by unfold zs_j; omega), z_ups]
          exact m53.symm
      · have k59 : zt_k b n q ≠ 59 := fun c => w (by rw [q6]; exact ri.mpr c)
        refine s_X10_wrong c4 (by decide) (fun M5 f5 c5 => ?_)
        have n5 := (zs_m_e (e := zs_f b n q 2) c5).1
        refine gX10_readLine_350 (d := d + 9) (fun _ => k M5 (zm_w_t f4 (zm_w_b (zm_b_h f5))) ?_ (fun q' hq => ?_)) (fun w => absurd n5 w)
        · show zs_m M5 b n (if zt_k b n q = 59 then _ else _)
          rw [if_neg k59]
          exact c5
        · change (if zt_k b n q = 59 then _ else _) = _ at hq
          rw [if_neg k59] at hq
          cases hq
  have no : ¬ zl_may G (zt_k b n p) → wp xs (d + 10) mX10_readLine 319 [(2, 321)] [] z_LL M P := fun hn => by
    have el : zl b n p G = (.error (zs_f b n p 2), G) := by
      unfold zl
      exact if_neg hn
    rw [el] at k
    refine gX10_readLine_319 (d := d + 9) (s_X10_wrong h (by decide) (fun M1 f1 c1 => ?_))
    have n1 := (zs_m_e (e := zs_f b n p 2) c1).1
    have n4 : z_up M1 321 53 1 321 2 ≠ 0 := by rw [z_upi (by decide) rfl]; exact n1
    exact gX10_readLine_324 (d := d + 9) (fun _ => gX10_readLine_350 (d := d + 9) (fun _ => k _ (zm_w_t (zm_w_b (zm_b_h f1)) (zm_w_u (by decide))) (zs_m_u (by decide) (by omega) c1) (fun q hq => by cases hq)) (fun w => absurd n4 w)) (fun w => absurd n1 w) (fun w => absurd n1 w)
  -- a line that may stand here
  have yes : zl_may G (zt_k b n p) → zl b n p G = (zs_nd b n 59 (zl_body b n (zt_k b n p) (zt_x b n p) (zl_on (zt_k b n p) G)).1, (zl_body b n (zt_k b n p) (zt_x b n p) (zl_on (zt_k b n p) G)).2) := fun hm => by
    unfold zl
    exact if_pos hm
  obtain ⟨r1, r2, r3, r4⟩ := zl_on_r (kk := zt_k b n p) (G := G)
  have fl := zl_fl_r (kk := zt_k b n p)
  have keep53 : ∀ (kk : Int), kk ≠ 11 → kk = zt_k b n p → (zl_body b n kk (zt_x b n p) (zl_on (zt_k b n p) G)).2 321 53 = 1 := fun kk hk _ => by rw [(y_keep hk).1 53 (by decide), r3]
  have z0 : zy_0 (zl_on (zt_k b n p) G) := zy_0_u (zy_0_u y0 (by omega)) (by omega)
  have rr : ∀ j, j < 53 → zl_on (zt_k b n p) G 321 j = G 321 j := fun j hj => r2 j (by omega) (by omega)
  -- told words
  have mcN : zl_fl (zt_k b n p) = 53 → zm_c M (zl_on (zt_k b n p) G) := fun e => by
    unfold zl_on
    rw [e]
    exact zm_c_g (zm_c_g hm)
  have mcF : ∀ fld : Int, zl_fl (zt_k b n p) = fld → fld ≠ 53 → zm_c (z_up M 321 fld 1) (zl_on (zt_k b n p) G) := fun fld e e2 => by
    unfold zl_on
    rw [e]
    exact zm_c_u (by omega) (zm_c_g hm)
  have S319 : (zl_may G (zt_k b n p) → False) → wp xs (d + 10) mX10_readLine 319 [(2, 321)] [] z_LL M P := no
  have told : ∀ (i : Nat) (lo hi : Int) (w fld2 : Int) (pc : Nat), i < 24 → z_own8.getD i 0 = w → zt_k b n p = i → zl_may G (zt_k b n p) → zl_fl (zt_k b n p) ≠ 53 → zt_k b n p ≠ 11 → (fld2 = 38 ∨ fld2 = 44 ∨ fld2 = 45) → zl_body b n (zt_k b n p) (zt_x b n p) (zl_on (zt_k b n p) G) = (zs_nm b n lo hi (.ok (zt_x b n p)), z_up (zl_on (zt_k b n p) G) 321 fld2 (zs_v b n (.ok (zt_x b n p)))) → (∀ (v : Int) (M3 : z_M), wp xs (d + 10) mX10_readLine 324 [(2, 321)] [] z_LL (z_up M3 321 fld2 v) P → wp xs (d + 10) mX10_readLine pc [(2, 321)] [(0, v), (2, 321)] z_LL M3 P) → wp xs (d + 9) mX10_told 0 [(2, 321), (1, w), (3, 0), (0, lo), (0, hi)] [] z_LL (z_up M 321 (zl_fl (zt_k b n p)) 1) (fun r L1 M1 => wp xs (d + 10) mX10_readLine pc [(2, 321)] (z_ol r ++ [(2, 321)]) L1 M1 P) := fun i lo hi w fld2 pc hi24 hw hk hmay h53' k11 hf2 eb next => by
    have f1 : zm_w M (z_up M 321 (zl_fl (zt_k b n p)) 1) := zm_w_u (by omega)
    refine s_X10_told (d := d + 6) (i := i) (zm_w_F f1 hF) hi24 hw (zs_m_u (by decide) (by omega) h) (fun v M3 f3 c3 e3 => ?_)
    have nd : zs_nd b n i (.ok p) = .ok (zt_x b n p) := by
      show (if zt_k b n p = i then _ else _) = _
      rw [if_pos hk]
    rw [nd] at c3 e3
    have e53 := keep53 (zt_k b n p) k11 rfl
    refine next v M3 (fin _ (zl_body b n (zt_k b n p) (zt_x b n p) (zl_on (zt_k b n p) G)) (zm_w_t f1 (zm_w_t (zm_w_b (zm_b_h f3)) (zm_w_b (zm_b_u (by unfold zm_q; omega) (fun _ => by unfold zm_j; omega))))) (by rw [eb]; exact zs_m_u (by decide) (by omega) c3) (fun q hq => ⟨?_, e53⟩) (yes hmay))
    rw [eb] at hq ⊢
    dsimp only
    rw [← e3 q hq]
    exact zm_c_u (by omega) (zm_c_h (mcF _ rfl h53') f3)
  have bod : ∀ (pc : Nat) (r : zs_S × z_M), zl_may G (zt_k b n p) → zt_k b n p ≠ 11 → zl_body b n (zt_k b n p) (zt_x b n p) (zl_on (zt_k b n p) G) = r → (∀ M3 : z_M, wp xs (d + 10) mX10_readLine 324 [(2, 321)] [] z_LL M3 P → wp xs (d + 10) mX10_readLine pc [(2, 321)] [] z_LL M3 P) → ∀ M3 : z_M, zm_b M M3 → zj b n M3 r → wp xs (d + 10) mX10_readLine pc [(2, 321)] [] z_LL M3 P := fun pc r hmay k11 eb next M3 f3 z3 => by
    have e53 := keep53 (zt_k b n p) k11 rfl
    rw [eb] at e53
    exact next M3 (fin M3 r (zm_w_b f3) z3.1 (fun q hq => ⟨z3.2 q hq, e53⟩) (by rw [yes hmay, eb]))
  have g54 : M 321 54 = G 321 54 := hm.1 54 (by unfold zm_d; omega)
  have g55 : M 321 55 = G 321 55 := hm.1 55 (by unfold zm_d; omega)
  have g56 : M 321 56 = G 321 56 := hm.1 56 (by unfold zm_d; omega)
  have g57 : M 321 57 = G 321 57 := hm.1 57 (by unfold zm_d; omega)
  have g58 : M 321 58 = G 321 58 := hm.1 58 (by unfold zm_d; omega)
  have g39 : M 321 39 = G 321 39 := hm.1 39 (by unfold zm_d; omega)
  have g40 : M 321 40 = G 321 40 := hm.1 40 (by unfold zm_d; omega)
  have g41 : M 321 41 = G 321 41 := hm.1 41 (by unfold zm_d; omega)
  have S279 : (zl_may G (zt_k b n p) → zt_k b n p = 15) → wp xs (d + 10) mX10_readLine 279 [(2, 321)] [] z_LL M P := fun hyp => by
    have w := word (i := 15) (w := 1685217655) (by decide) (by decide)
    refine gX10_readLine_279 (d := d + 9) (fun c => S319 (fun m => c (w.mpr (hyp m)))) (fun c c2 => S319 (fun m => ?_)) (fun c c2 => ?_)
    · rw [hyp m] at m
      exact c2 (by rw [g58]; exact zl_may_15.mp m)
    · have hk : zt_k b n p = 15 := w.mp c
      have hmay : zl_may G (zt_k b n p) := by rw [hk]; exact zl_may_15.mpr (by omega)
      have t := told 15 0 999 1685217655 45 313 (by decide) (by decide) hk hmay (by rw [hk]; decide) (by omega) (by omega) (by rw [hk]; rfl) (fun v M3 h => gX10_readLine_313 h)
      rw [hk, show zl_fl 15 = 58 by decide] at t
      exact t
  have S240 : (zl_may G (zt_k b n p) → zt_k b n p = 14 ∨ zt_k b n p = 15) → wp xs (d + 10) mX10_readLine 240 [(2, 321)] [] z_LL M P := fun hyp => by
    have w := word (i := 14) (w := 7311142569972230003) (by decide) (by decide)
    refine gX10_readLine_240 (d := d + 9) (fun c => S279 (fun m => (hyp m).elim (fun e => absurd (w.mpr e) c) id)) (fun c c2 => S279 (fun m => ?_)) (fun c c2 => ?_)
    · have hk : zt_k b n p = 14 := w.mp c
      rw [hk] at m
      exact absurd (show M 321 57 = 0 by rw [g57]; exact zl_may_14.mp m) c2
    · have hk : zt_k b n p = 14 := w.mp c
      have hmay : zl_may G (zt_k b n p) := by rw [hk]; exact zl_may_14.mpr (by omega)
      have t := told 14 1 20 7311142569972230003 44 273 (by decide) (by decide) hk hmay (by rw [hk]; decide) (by omega) (by omega) (by rw [hk]; rfl) (fun v M3 h => gX10_readLine_273 h)
      rw [hk, show zl_fl 14 = 57 by decide] at t
      exact t
  have S187 : (zl_may G (zt_k b n p) → zt_k b n p = 12 ∨ zt_k b n p = 14 ∨ zt_k b n p = 15) → wp xs (d + 10) mX10_readLine 187 [(2, 321)] [] z_LL M P := fun hyp => by
    have w := word (i := 12) (w := 1918986606) (by decide) (by decide)
    refine gX10_readLine_187 (d := d + 9) (fun c => S240 (fun m => (hyp m).elim (fun e => absurd (w.mpr e) c) id)) (fun c c2 => S240 (fun m => ?_)) (fun c c2 => ?_)
    · have hk : zt_k b n p = 12 := w.mp c
      rw [hk] at m
      exact absurd (show M 321 56 = 0 by rw [g56]; exact zl_may_12.mp m) c2
    · have hk : zt_k b n p = 12 := w.mp c
      have hmay : zl_may G (zt_k b n p) := by rw [hk]; exact zl_may_12.mpr (by omega)
      have eb : zl_body b n (zt_k b n p) (zt_x b n p) (zl_on (zt_k b n p) G) = zb_rain b n (.ok (zt_x b n p)) (zl_on (zt_k b n p) G) := by rw [hk]; rfl
      have e53 := keep53 (zt_k b n p) (by omega) rfl
      have m1 := mcF 56 (by rw [hk]; decide) (by decide)
      have f1 : zm_w M (z_up M 321 56 1) := zm_w_u (by decide)
      refine s_X10_told (d := d + 6) (i := 12) (zm_w_F f1 hF) (by decide) (by decide) (zs_m_u (by decide) (by omega) h) (fun v M3 f3 c3 e3 => ?_)
      have nd : zs_nd b n ((12 : Nat) : Int) (.ok p) = .ok (zt_x b n p) := by
        show (if zt_k b n p = ((12 : Nat) : Int) then _ else _) = _
        exact if_pos hk
      rw [nd] at c3 e3
      have f4 : zm_w M (z_up M3 321 42 v) := zm_w_t f1 (zm_w_t (zm_w_b (zm_b_h f3)) (zm_w_b (zm_b_u (by unfold zm_q; omega) (fun _ => by unfold zm_j; omega))))
      refine gX10_readLine_220 (d := d + 9) ?_
      refine s_X10_told (d := d + 6) (i := 13) (zm_w_F f4 hF) (by decide) (by decide) (zs_m_u (by decide) (by omega) c3) (fun v5 M5 f5 c5 e5 => ?_)
      refine gX10_readLine_234 (fin _ (zl_body b n (zt_k b n p) (zt_x b n p) (zl_on (zt_k b n p) G)) (zm_w_t f4 (zm_w_t (zm_w_b (zm_b_h f5)) (zm_w_b (zm_b_u (by unfold zm_q; omega) (fun _ => by unfold zm_j; omega))))) (by rw [eb]; exact zs_m_u (by decide) (by omega) c5) (fun q hq => ⟨?_, e53⟩) (yes hmay))
      rw [eb] at hq ⊢
      obtain ⟨q1, hq1⟩ := (zs_nm_k hq).1
      obtain ⟨q2, hq2⟩ := zs_nd_k hq1
      have er : (zb_rain b n (.ok (zt_x b n p)) (zl_on (zt_k b n p) G)).2 = z_up (z_up (zl_on (zt_k b n p) G) 321 42 v) 321 43 v5 := by
        rw [e5 q hq, e3 q2 hq2]
        rfl
      rw [er]
      exact zm_c_u (by omega) (zm_c_h (zm_c_u (by omega) (zm_c_h m1 f3)) f5)
  have S158 : (zl_may G (zt_k b n p) → zt_k b n p = 11 ∨ zt_k b n p = 12 ∨ zt_k b n p = 14 ∨ zt_k b n p = 15) → wp xs (d + 10) mX10_readLine 158 [(2, 321)] [] z_LL M P := fun hyp => by
    have w := word (i := 11) (w := 1886743660) (by decide) (by decide)
    refine gX10_readLine_158 (d := d + 9) (fun c => S187 (fun m => (hyp m).elim (fun e => absurd (w.mpr e) c) id)) (fun c c2 => S187 (fun m => ?_)) (fun c c2 => ?_)
    · have hk : zt_k b n p = 11 := w.mp c
      rw [hk] at m
      exact absurd (show M 321 55 = 0 by rw [g55]; exact zl_may_11.mp m) c2
    · have hk : zt_k b n p = 11 := w.mp c
      have h55 : G 321 55 = 0 := by omega
      have hmay : zl_may G (zt_k b n p) := by rw [hk]; exact zl_may_11.mpr h55
      have m1 := mcF 55 (by rw [hk]; decide) (by decide)
      have f1 : zm_w M (z_up M 321 55 1) := zm_w_u (by decide)
      obtain ⟨w17, w20⟩ := y2.2.1 h55
      have e17 : zl_on (zt_k b n p) G 321 17 = 0 := by rw [rr 17 (by decide)]; exact w17
      have e20 : zl_on (zt_k b n p) G 321 20 = 0 := by rw [rr 20 (by decide)]; exact w20
      have eb : zl_body b n (zt_k b n p) (zt_x b n p) (zl_on (zt_k b n p) G) = (zf b n 7).1 (.ok (zt_x b n p), zl_on (zt_k b n p) G) := by rw [hk]; rfl
      refine m_pull (d := d) (zm_w_F f1 hF) (zs_m_u (by decide) (by omega) h) (by omega) h26 m1 e17 e20 (fun M3 f3 z3 => ?_)
      refine gX10_readLine_184 (fin M3 _ (zm_w_t f1 (zm_w_b f3)) z3.1 (fun q hq => ⟨z3.2 q hq, ?_⟩) (by rw [yes hmay, eb]))
      have hn := zf_nxt (b := b) (n := n) (p := p) np h26
      have hyf : zf_y n (zt_x b n p) (zl_on (zt_k b n p) G) := ⟨by omega, by omega, by rw [e17]; show (0 : Int) ≤ 0; decide, by rw [e17, e20]; show (0 : Int) ≤ 0; decide⟩
      have hx := (zf_all b n 7 (by decide)).1 _ _ hyf q hq
      rw [hx.2.2.1 53 (by decide) (by decide), r3]
  have S132 : (zl_may G (zt_k b n p) → zt_k b n p = 10 ∨ zt_k b n p = 11 ∨ zt_k b n p = 12 ∨ zt_k b n p = 14 ∨ zt_k b n p = 15) → wp xs (d + 10) mX10_readLine 132 [(2, 321)] [] z_LL M P := fun hyp => by
    have w := word (i := 10) (w := 1717925220) (by decide) (by decide)
    refine gX10_readLine_132 (d := d + 9) (fun c => S158 (fun m => (hyp m).elim (fun e => absurd (w.mpr e) c) id)) (fun c c2 => S158 (fun m => ?_)) (fun c c2 => ?_)
    · have hk : zt_k b n p = 10 := w.mp c
      rw [hk] at m
      have := zl_may_10.mp m
      omega
    · have hk : zt_k b n p = 10 := w.mp c
      have hmay : zl_may G (zt_k b n p) := by rw [hk]; exact zl_may_10.mpr (by omega)
      exact m_feud (d := d + 3) hF h (by omega) z0.1 (mcN (by rw [hk]; decide)) (bod 155 _ hmay (by omega) (by rw [hk]; rfl) (fun M3 h => gX10_readLine_155 h))
  have S115 : (zl_may G (zt_k b n p) → zt_k b n p = 9 ∨ zt_k b n p = 10 ∨ zt_k b n p = 11 ∨ zt_k b n p = 12 ∨ zt_k b n p = 14 ∨ zt_k b n p = 15) → wp xs (d + 10) mX10_readLine 115 [(2, 321)] [] z_LL M P := fun hyp => by
    have w := word (i := 9) (w := 512735736947) (by decide) (by decide)
    refine gX10_readLine_115 (d := d + 9) (fun c => S132 (fun m => (hyp m).elim (fun e => absurd (w.mpr e) c) id)) (fun c => ?_)
    have hk : zt_k b n p = 9 := w.mp c
    have hmay : zl_may G (zt_k b n p) := by rw [hk]; exact zl_may_9
    exact m_wants (d := d + 3) hF h (by omega) z0.1 (fun f o f1 f2 o1 o2 => ((z0.2.1 f f1 f2).2.2.2.2 o o1 o2).1) (mcN (by rw [hk]; decide)) (bod 129 _ hmay (by omega) (by rw [hk]; rfl) (fun M3 h => gX10_readLine_129 h))
  have S89 : (zl_may G (zt_k b n p) → zt_k b n p = 4 ∨ zt_k b n p = 9 ∨ zt_k b n p = 10 ∨ zt_k b n p = 11 ∨ zt_k b n p = 12 ∨ zt_k b n p = 14 ∨ zt_k b n p = 15) → wp xs (d + 10) mX10_readLine 89 [(2, 321)] [] z_LL M P := fun hyp => by
    have w := word (i := 4) (w := 439905903467) (by decide) (by decide)
    refine gX10_readLine_89 (d := d + 9) (fun c => S115 (fun m => (hyp m).elim (fun e => absurd (w.mpr e) c) id)) (fun c c2 => S115 (fun m => ?_)) (fun c c2 => ?_)
    · have hk : zt_k b n p = 4 := w.mp c
      rw [hk] at m
      have := zl_may_4.mp m
      omega
    · have hk : zt_k b n p = 4 := w.mp c
      have hmay : zl_may G (zt_k b n p) := by rw [hk]; exact zl_may_4.mpr (by omega)
      have e40 := rr 40 (by decide)
      exact m_flock (d := d + 3) hF h (by omega) z0.1 (by omega) (mcN (by rw [hk]; decide)) (bod 112 _ hmay (by omega) (by rw [hk]; rfl) (fun M3 h => gX10_readLine_112 h))
  have S63 : (zl_may G (zt_k b n p) → zt_k b n p = 3 ∨ zt_k b n p = 4 ∨ zt_k b n p = 9 ∨ zt_k b n p = 10 ∨ zt_k b n p = 11 ∨ zt_k b n p = 12 ∨ zt_k b n p = 14 ∨ zt_k b n p = 15) → wp xs (d + 10) mX10_readLine 63 [(2, 321)] [] z_LL M P := fun hyp => by
    have w := word (i := 3) (w := 444300620659) (by decide) (by decide)
    refine gX10_readLine_63 (d := d + 9) (fun c => S89 (fun m => (hyp m).elim (fun e => absurd (w.mpr e) c) id)) (fun c c2 => S89 (fun m => ?_)) (fun c c2 => ?_)
    · have hk : zt_k b n p = 3 := w.mp c
      rw [hk] at m
      have := zl_may_3.mp m
      omega
    · have hk : zt_k b n p = 3 := w.mp c
      have hmay : zl_may G (zt_k b n p) := by rw [hk]; exact zl_may_3.mpr (by omega)
      have e39 := rr 39 (by decide)
      exact m_grass (d := d + 3) hF h (by omega) z0.1 (by omega) (fun x x1 x2 => (z0.2.2.1 x x1 x2).1) (mcN (by rw [hk]; decide)) (bod 86 _ hmay (by omega) (by rw [hk]; rfl) (fun M3 h => gX10_readLine_86 h))
  have S24 : (zl_may G (zt_k b n p) → zt_k b n p = 2 ∨ zt_k b n p = 3 ∨ zt_k b n p = 4 ∨ zt_k b n p = 9 ∨ zt_k b n p = 10 ∨ zt_k b n p = 11 ∨ zt_k b n p = 12 ∨ zt_k b n p = 14 ∨ zt_k b n p = 15) → wp xs (d + 10) mX10_readLine 24 [(2, 321)] [] z_LL M P := fun hyp => by
    have w := word (i := 2) (w := 444300879214) (by decide) (by decide)
    refine gX10_readLine_24 (d := d + 9) (fun c => S63 (fun m => (hyp m).elim (fun e => absurd (w.mpr e) c) id)) (fun c c2 => S63 (fun m => ?_)) (fun c c2 => ?_)
    · have hk : zt_k b n p = 2 := w.mp c
      rw [hk] at m
      have := zl_may_2.mp m
      omega
    · have hk : zt_k b n p = 2 := w.mp c
      have hmay : zl_may G (zt_k b n p) := by rw [hk]; exact zl_may_2.mpr (by omega)
      have t := told 2 0 9 444300879214 38 57 (by decide) (by decide) hk hmay (by rw [hk]; decide) (by omega) (by omega) (by rw [hk]; rfl) (fun v M3 h => gX10_readLine_57 h)
      rw [hk, show zl_fl 2 = 54 by decide] at t
      exact t
  have all : zl_may G (zt_k b n p) → zt_k b n p = 0 ∨ zt_k b n p = 2 ∨ zt_k b n p = 3 ∨ zt_k b n p = 4 ∨ zt_k b n p = 9 ∨ zt_k b n p = 10 ∨ zt_k b n p = 11 ∨ zt_k b n p = 12 ∨ zt_k b n p = 14 ∨ zt_k b n p = 15 := fun m => Classical.byContradiction (fun c => zl_may_n (by omega) m)
  have w := word (i := 0) (w := 444251400037) (by decide) (by decide)
  refine gX10_readLine_0 (d := d + 9) (fun c => S24 (fun m => (all m).elim (fun e => absurd (w.mpr e) c) id)) (fun c c2 => S24 (fun m => ?_)) (fun c c2 => ?_)
  · have hk : zt_k b n p = 0 := w.mp c
    rw [hk] at m
    have := zl_may_0.mp m
    omega
  · have hk : zt_k b n p = 0 := w.mp c
    have hmay : zl_may G (zt_k b n p) := by rw [hk]; exact zl_may_0.mpr (by omega)
    exact m_gorge (d := d + 3) hF h (by omega) (mcN (by rw [hk]; decide)) (bod 21 _ hmay (by omega) (by rw [hk]; rfl) (fun M3 h => gX10_readLine_21 h))
theorem zr_er {e : Int × Int} : ∀ i : Nat, zr b n i (.error e, G) = (.error e, G)
  | 0 => rfl
  | _ + 1 => rfl
theorem m_lines {x1 : Int} : ∀ (i : Nat) (M : z_M) (p : Int) (G : z_M), z_fix M → zs_m M b n (.ok p) → zy G → zm_c M G → M 321 53 = G 321 53 → n ≤ p + i → (∀ M' : z_M, zm_w M M' → zs_m M' b n (zr b n i (.ok p, G)).1 → (∀ q, (zr b n i (.ok p, G)).1 = .ok q → zm_c M' (zr b n i (.ok p, G)).2 ∧ zy (zr b n i (.ok p, G)).2) → P none z_LL M') → wp xs (d + 11) mX10_readAll 144 [(2, 321), (0, x1)] [] z_LL M P
  | 0, M, p, G, hF, h, hy, hm, h53, hi, k => by
    obtain ⟨n0, np, s6, -, -⟩ := zs_m_o h
    have k26 : zt_k b n p = 26 := by
      have := z_nd_b (ok := z_isb) (b := b) (n := n) (p := p)
      unfold zt_k zt_s
      rw [if_pos (by omega)]
    have e6 : M 321 6 = 0 := by rw [s6]; exact zt_r_i.2.2.1.mpr k26
    exact gX10_readAll_144 (d := d + 10) (fun w => absurd n0 w) (fun _ _ => k M zm_w_r h (fun _ _ => ⟨hm, hy⟩)) (fun _ w => absurd e6 w)
  | i + 1, M, p, G, hF, h, hy, hm, h53, hi, k => by
    obtain ⟨n0, np, s6, -, -⟩ := zs_m_o h
    have e6 : M 321 6 = 0 ↔ zt_k b n p = 26 := by rw [s6]; exact zt_r_i.2.2.1
    rw [zr_o] at k
    by_cases k26 : zt_k b n p = 26
    · rw [if_pos k26] at k
      exact gX10_readAll_144 (d := d + 10) (fun w => absurd n0 w) (fun _ _ => k M zm_w_r h (fun _ _ => ⟨hm, hy⟩)) (fun _ w => absurd (e6.mpr k26) w)
    · rw [if_neg k26] at k
      refine gX10_readAll_144 (d := d + 10) (fun w => absurd n0 w) (fun _ w => absurd (e6.mp w) k26) (fun _ _ => ?_)
      refine m_line (d := d) hF h k26 hy hm h53 (fun M1 f1 c1 m1 => gX10_readAll_162 ?_)
      have yl := fun q (hq : (zl b n p G).1 = .ok q) => y_line (q := q) np k26 hy hq
      generalize zl b n p G = r at *
      obtain ⟨σ, G1⟩ := r
      cases σ with
      | error e =>
        rw [zr_er i] at k
        exact gX10_readAll_144 (d := d + 10) (fun _ => k M1 f1 c1 (fun q hq => by cases hq)) (fun w => absurd (zs_m_e c1).1 w) (fun w => absurd (zs_m_e c1).1 w)
      | ok q =>
        obtain ⟨yy, y1, y2⟩ := yl q rfl
        obtain ⟨a1, a2⟩ := m1 q rfl
        exact m_lines i M1 q G1 (zm_w_F f1 hF) c1 yy a1 a2 (by omega) (fun M2 f2 => k M2 (zm_w_t f1 f2))
theorem zy_zr0 (Q : z_M) : zy (zr_0 Q) := by
  refine ⟨⟨⟨by show (2 : Int) ≤ 4 ∧ (4 : Int) ≤ 5; decide, by show (2 : Int) ≤ 4 ∧ (4 : Int) ≤ 5; decide, by show (0 : Int) ≤ 0 ∧ (0 : Int) ≤ 6; decide, by show (0 : Int) ≤ 0 ∧ (0 : Int) ≤ 270; decide, ⟨by show (0 : Int) ≤ 0 ∧ (0 : Int) ≤ 30; decide, by show (0 : Int) ≤ 0 ∧ (0 : Int) ≤ 15; decide, by show (0 : Int) ≤ 0 ∧ (0 : Int) ≤ 8; decide⟩, fun j k hj => absurd (show (j : Int) < 0 from hj) (by omega), fun f o f1 f2 => absurd (show f < 0 from f2) (by omega)⟩, fun f f1 f2 => absurd (show f < 0 from f2) (by omega), fun x _ _ => by show (-1 : Int) ≤ -1 ∧ (-1 : Int) ≤ 9; decide, ⟨by show (0 : Int) ≤ 5 ∧ (5 : Int) ≤ 9; decide, by show (0 : Int) ≤ 0 ∧ (0 : Int) ≤ 100; decide, by show (1 : Int) ≤ 1 ∧ (1 : Int) ≤ 9; decide, by show (1 : Int) ≤ 9 ∧ (9 : Int) ≤ 20; decide, by show (0 : Int) ≤ 0 ∧ (0 : Int) ≤ 999; decide⟩, fun f c f1 f2 => absurd (show f < 0 from f2) (by omega), fun f c f1 f2 => absurd (show f < 0 from f2) (by omega)⟩, fun _ => rfl, Or.inl rfl, fun _ => ⟨rfl, rfl⟩, fun w => absurd rfl w⟩
theorem m_all {Q : z_M} (hF : z_fix M) (hb : M 322 = b) (hn : M 321 1 = n) (hn2 : 0 ≤ n ∧ n ≤ 1600) (hbb : ∀ i : Int, 0 ≤ i → i < 1600 → 0 ≤ b i ∧ b i < 256) (hQ : ∀ q, 323 ≤ q → q ≤ 336 → M q = Q q) (k : ∀ M' : z_M, zm_w M (z_up (z_up M' 321 5 (M 321 5)) 321 1 (M 321 1)) → M' 321 1 = 0 → zs_m M' b n (zr b n 1600 (.ok 0, zr_0 Q)).1 → (∀ q, (zr b n 1600 (.ok 0, zr_0 Q)).1 = .ok q → zm_c M' (zr b n 1600 (.ok 0, zr_0 Q)).2 ∧ zy (zr b n 1600 (.ok 0, zr_0 Q)).2) → P none z_LL M') : wp xs (d + 11) mX10_readAll 0 [(2, 321), (3, 0)] [] z_LL M P := by
  refine gX10_readAll_0 (d := d + 11) ?_
  rw [hn]
  generalize hM1 : z_up (z_up (z_up (z_up (z_up (z_up (z_up (z_up M 321 5 n) 321 1 0) 321 4 0) 321 2 0) 321 3 (-1)) 321 36 4) 321 37 4) 321 38 5 = M1
  have o1 : ∀ q, q ≠ 321 → M1 q = M q := fun q a => by rw [← hM1, z_upn a, z_upn a, z_upn a, z_upn a, z_upn a, z_upn a, z_upn a, z_upn a]
  have v1 : M1 321 5 = n ∧ M1 321 1 = 0 ∧ M1 321 4 = 0 ∧ M1 321 2 = 0 ∧ M1 321 3 = -1 ∧ M1 321 36 = 4 ∧ M1 321 37 = 4 ∧ M1 321 38 = 5 := by
    rw [← hM1]
    refine ⟨?_, ?_, ?_, ?_, ?_, ?_, ?_, ?_⟩ <;> simp [z_up]
  have u1 : ∀ j, ¬ (1 ≤ j ∧ j ≤ 5) → ¬ (36 ≤ j ∧ j ≤ 38) → M1 321 j = M 321 j := fun j a c => by rw [← hM1, z_upi (by omega) rfl, z_upi (by omega) rfl, z_upi (by omega) rfl, z_upi (by omega) rfl, z_upi (by omega) rfl, z_upi (by omega) rfl, z_upi (by omega) rfl, z_upi (by omega) rfl]
  clear hM1
  refine z_loop (W := fun i => ∀ M2 : z_M, (∀ q, q ≠ 331 → M2 q = M1 q) → (∀ x : Int, 0 ≤ x → x < i → M2 331 x = -1) → wp xs (d + 11) mX10_readAll 45 [(2, 321), (0, (i : Int))] [] z_LL M2 P) 25 (fun i hi ih M2 o2 v2 => ?_) M1 (fun _ _ => rfl) (fun x a c => by omega)
  have F2 : z_fix M2 := z_fix_gen hF (fun q j hq => by
    have h331 : q ≠ 331 := fun e => by unfold z_fin at hq; omega
    rw [o2 q h331]
    by_cases e : q = 321
    · rw [e] at hq ⊢
      exact u1 j (by unfold z_fin at hq; omega) (by unfold z_fin at hq; omega)
    · rw [o1 q e])
  have t := gX10_readAll_45 (M := M2) (xs := xs) (d := d + 10) (P := P) (x1 := (i : Int)) F2
  rw [show z_w ((i : Int) + 1) = ((i + 1 : Nat) : Int) by rw [z_wid (by omega)]; omega] at t
  refine t (fun w => ?_) (fun w => by omega) (fun w => ih (by omega) _ (fun q a => by rw [z_upn a, o2 q a]) (fun x a c => ?_))
  · generalize hM3 : z_up (z_up (z_up (z_up (z_up (z_up (z_up (z_up (z_up (z_up (z_up (z_up (z_up (z_up (z_up M2 321 39 0) 321 40 0) 321 41 0) 321 42 0) 321 43 1) 321 44 9) 321 45 0) 321 53 0) 321 54 0) 321 55 0) 321 56 0) 321 57 0) 321 58 0) 321 20 0) 321 17 0 = M3
    have o3 : ∀ q, q ≠ 321 → M3 q = M2 q := fun q a => by rw [← hM3, z_upn a, z_upn a, z_upn a, z_upn a, z_upn a, z_upn a, z_upn a, z_upn a, z_upn a, z_upn a, z_upn a, z_upn a, z_upn a, z_upn a, z_upn a]
    have v3 : (M3 321 39 = 0 ∧ M3 321 40 = 0 ∧ M3 321 41 = 0 ∧ M3 321 42 = 0 ∧ M3 321 43 = 1 ∧ M3 321 44 = 9 ∧ M3 321 45 = 0) ∧ M3 321 53 = 0 ∧ M3 321 54 = 0 ∧ M3 321 55 = 0 ∧ M3 321 56 = 0 ∧ M3 321 57 = 0 ∧ M3 321 58 = 0 ∧ M3 321 20 = 0 ∧ M3 321 17 = 0 := by
      rw [← hM3]
      refine ⟨⟨?_, ?_, ?_, ?_, ?_, ?_, ?_⟩, ?_, ?_, ?_, ?_, ?_, ?_, ?_, ?_⟩ <;> simp [z_up]
    have u3 : ∀ j, ¬ (39 ≤ j ∧ j ≤ 45) → ¬ (53 ≤ j ∧ j ≤ 58) → j ≠ 20 → j ≠ 17 → M3 321 j = M2 321 j := fun j a c e f => by rw [← hM3, z_upi f rfl, z_upi e rfl, z_upi (by omega) rfl, z_upi (by omega) rfl, z_upi (by omega) rfl, z_upi (by omega) rfl, z_upi (by omega) rfl, z_upi (by omega) rfl, z_upi (by omega) rfl, z_upi (by omega) rfl, z_upi (by omega) rfl, z_upi (by omega) rfl, z_upi (by omega) rfl, z_upi (by omega) rfl, z_upi (by omega) rfl]
    clear hM3
    have e321 : M2 321 = M1 321 := o2 321 (by decide)
    have F3 : z_fix M3 := z_fix_gen F2 (fun q j hq => by
      by_cases e : q = 321
      · rw [e] at hq ⊢
        exact u3 j (by unfold z_fin at hq; omega) (by unfold z_fin at hq; omega) (by unfold z_fin at hq; omega) (by unfold z_fin at hq; omega)
      · rw [o3 q e])
    have T3 : zt_u M3 b n := ⟨by rw [o3 322 (by decide), o2 322 (by decide), o1 322 (by decide)]; exact hb, by rw [u3 5 (by decide) (by decide) (by decide) (by decide), e321]; exact v1.1, hn2, hbb⟩
    refine s_X10_token (d := d + 9) (p := 0) F3 T3 (by rw [u3 4 (by decide) (by decide) (by decide) (by decide), e321]; exact v1.2.2.1) ⟨Int.le_refl _, hn2.1⟩ (fun M4 f4 c4 => ?_)
    have g4 : ∀ j, ¬ zt_j j → M4 321 j = M3 321 j := f4.2
    have C4 : zs_m M4 b n (.ok 0) := by
      refine ⟨zt_a_t f4 T3, ⟨?_, ?_⟩, ⟨Int.le_refl _, hn2.1⟩, fun q hq => ?_⟩
      · rw [g4 2 (by unfold zt_j; omega), u3 2 (by decide) (by decide) (by decide) (by decide), e321]
        exact v1.2.2.2.1
      · rw [g4 3 (by unfold zt_j; omega), u3 3 (by decide) (by decide) (by decide) (by decide), e321]
        exact v1.2.2.2.2.1
      · have : (0 : Int) = q := by injection hq
        rw [← this]
        exact c4
    have row : ∀ q, 323 ≤ q → q ≤ 336 → q ≠ 331 → M4 q = zr_0 Q q := fun q a c e => by
      rw [f4.1 q (by omega), o3 q (by omega), o2 q e, o1 q (by omega), hQ q a c]
      funext j
      show Q q j = if q = 321 then _ else if q = 331 then -1 else Q q j
      rw [if_neg (by omega), if_neg e]
    have m4 : zm_c M4 (zr_0 Q) := by
      refine ⟨fun j hj => ?_, fun k k1 k2 => absurd (show k < 0 from k2) (by omega), fun x x1 x2 => ?_, row 323 (by decide) (by decide) (by decide), row 332 (by decide) (by decide) (by decide), row 333 (by decide) (by decide) (by decide), row 334 (by decide) (by decide) (by decide), row 335 (by decide) (by decide) (by decide), row 336 (by decide) (by decide) (by decide)⟩
      · rw [g4 j (by unfold zm_d at hj; unfold zt_j; omega)]
        have cs : j = 17 ∨ j = 20 ∨ j = 36 ∨ j = 37 ∨ j = 38 ∨ j = 39 ∨ j = 40 ∨ j = 41 ∨ j = 42 ∨ j = 43 ∨ j = 44 ∨ j = 45 ∨ j = 54 ∨ j = 55 ∨ j = 56 ∨ j = 57 ∨ j = 58 := by unfold zm_d at hj; omega
        obtain ⟨⟨a1, a2, a3, a4, a5, a6, a7⟩, b0, b1, b2, b3, b4, b5, b6, b7⟩ := v3
        have e36 : M3 321 36 = 4 := by rw [u3 36 (by decide) (by decide) (by decide) (by decide), e321]; exact v1.2.2.2.2.2.1
        have e37 : M3 321 37 = 4 := by rw [u3 37 (by decide) (by decide) (by decide) (by decide), e321]; exact v1.2.2.2.2.2.2.1
        have e38 : M3 321 38 = 5 := by rw [u3 38 (by decide) (by decide) (by decide) (by decide), e321]; exact v1.2.2.2.2.2.2.2
        rcases cs with rfl | rfl | rfl | rfl | rfl | rfl | rfl | rfl | rfl | rfl | rfl | rfl | rfl | rfl | rfl | rfl | rfl <;> assumption
      · rw [f4.1 331 (by decide), o3 331 (by decide), v2 x x1 (by omega)]
        rfl
    have f53 : M4 321 53 = zr_0 Q 321 53 := by rw [g4 53 (by unfold zt_j; omega)]; exact v3.2.1
    have a4 : zs_h M3 M4 := zs_h_a f4
    refine m_lines (d := d) 1600 M4 0 (zr_0 Q) (zs_h_F a4 F3) C4 (zy_zr0 Q) m4 f53 (by omega) (fun M5 f5 c5 m5 => k M5 ?_ ?_ c5 m5)
    · refine ⟨fun q hq => ?_, fun j hj h5 => ?_⟩
      · have q1 : q ≠ 321 := fun e => hq (Or.inl e)
        rw [z_upn q1, z_upn q1, f5.1 q hq, f4.1 q q1, o3 q q1, o2 q (fun e => hq (by unfold zm_q; omega)), o1 q q1]
      · by_cases e1 : j = 1
        · rw [e1, z_ups]
        · rw [z_upi e1 rfl]
          by_cases e5 : j = 5
          · rw [e5, z_ups]
          · unfold zm_j at hj
            rw [z_upi e5 rfl, f5.2 j (by unfold zm_j; exact hj) h5, g4 j (by unfold zt_j; omega), u3 j (by omega) h5 (by omega) (by omega), e321, u1 j (by omega) (by omega)]
    · rw [f5.2 1 (by unfold zm_j; omega) (by decide), g4 1 (by unfold zt_j; omega), u3 1 (by decide) (by decide) (by decide) (by decide), e321]
      exact v1.2.1
  · by_cases e : x = i
    · rw [e, z_ups]
    · rw [z_upi e rfl]
      exact v2 x a (by omega)
end
