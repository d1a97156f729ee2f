/-! the matches of an evening -/
noncomputable def z_mt1 (M : z_M) (ev : Int) (t : (Int → Int) × Int) (a b : Int) : (Int → Int) × Int :=
  @ite ((Int → Int) × Int) (z_cm M a b ∧ ¬ t.1 (18 + 6 * a + b) < ev ∧ t.1 (12 + a) < 0 ∧ t.1 (12 + b) < 0) (Classical.propDecidable _) (z_pt (z_pt t.1 (12 + a) b) (12 + b) a, z_w (t.2 + 2)) t
noncomputable def z_mti (M : z_M) (ev : Int) (t : (Int → Int) × Int) (a : Int) : Nat → (Int → Int) × Int
  | 0 => t
  | j + 1 => z_mt1 M ev (z_mti M ev t a j) a (a + 1 + j)
noncomputable def z_mto (M : z_M) (ev : Int) (t : (Int → Int) × Int) (n : Nat) : Nat → (Int → Int) × Int
  | 0 => t
  | a + 1 => z_mti M ev (z_mto M ev t n a) a (n - 1 - a)
theorem z_mt1_y {M : z_M} {ev : Int} {t : (Int → Int) × Int} {a b : Int} (h : z_cm M a b) (h2 : ¬ t.1 (18 + 6 * a + b) < ev) (h3 : t.1 (12 + a) < 0) (h4 : t.1 (12 + b) < 0) : z_mt1 M ev t a b = (z_pt (z_pt t.1 (12 + a) b) (12 + b) a, z_w (t.2 + 2)) := by
  unfold z_mt1
  rw [if_pos ⟨h, h2, h3, h4⟩]
theorem z_mt1_n {M : z_M} {ev : Int} {t : (Int → Int) × Int} {a b : Int} (h : ¬ (z_cm M a b ∧ ¬ t.1 (18 + 6 * a + b) < ev ∧ t.1 (12 + a) < 0 ∧ t.1 (12 + b) < 0)) : z_mt1 M ev t a b = t := by
  unfold z_mt1
  rw [if_neg h]
set_option maxRecDepth 20000 in
theorem gX10_match_0 {xs : List Int} {d : Nat} {M : z_M} {P : Option z_V → z_L → z_M → Prop} {a1 : Int} 
    (l1 : wp xs d mX10_match 4 [(2, 321), (0, a1), (0, 0), (0, 0), (3, 0)] [] z_LL M P) :
    wp xs d mX10_match 0 [(2, 321), (0, a1), (3, 0), (3, 0), (3, 0)] [] z_LL M P := by
  refine wp_run 4 (pc' := 4) (ls' := [(2, 321), (0, a1), (0, 0), (0, 0), (3, 0)]) (st' := []) rfl ?_
  exact l1
set_option maxRecDepth 20000 in
theorem gX10_match_4 {xs : List Int} {d : Nat} {M : z_M} {P : Option z_V → z_L → z_M → Prop} {x1 : Int} {x2 : Int} {x3 : Int} {w4 : z_V} 
    (l1 : ((M 321 48) ≤ x3) → P (some (0, x2)) z_LL M)
    (l2 : (¬ ((M 321 48) ≤ x3)) → wp xs d mX10_match 17 [(2, 321), (0, x1), (0, x2), (0, x3), (0, (z_w (x3 + 1)))] [] z_LL M P) :
    wp xs d mX10_match 4 [(2, 321), (0, x1), (0, x2), (0, x3), w4] [] z_LL M P := by
  refine wp_run 2 (pc' := 6) (ls' := [(2, 321), (0, x1), (0, x2), (0, x3), w4]) (st' := [(2, 321), (0, x3)]) rfl ?_
  refine wp_gf (pc' := 9) (t := 0) (v := (M 321 48)) rfl rfl (by decide) rfl rfl rfl ?_
  refine wp_if2 rfl rfl rfl (fun (c1 : (M 321 48) ≤ x3) => ?_) (fun (c1 : ¬ ((M 321 48) ≤ x3)) => ?_)
  · refine wp_run 1 (pc' := 121) (ls' := [(2, 321), (0, x1), (0, x2), (0, x3), w4]) (st' := [(0, x2)]) rfl ?_
    exact wp_ret rfl rfl (l1 c1)
  · refine wp_run 4 (pc' := 17) (ls' := [(2, 321), (0, x1), (0, x2), (0, x3), (0, (z_w (x3 + 1)))]) (st' := []) rfl ?_
    exact l2 c1
set_option maxRecDepth 20000 in
theorem gX10_match_17 {xs : List Int} {d : Nat} {M : z_M} {P : Option z_V → z_L → z_M → Prop} {x1 : Int} {x2 : Int} {x3 : Int} {x4 : Int} (hF : z_fix M) 
    (l1 : ((M 321 48) ≤ x4) → wp xs (d + 1) mX10_match 4 [(2, 321), (0, x1), (0, x2), (0, (z_w (x3 + 1))), (0, x4)] [] z_LL M P)
    (b1 : (¬ ((M 321 48) ≤ x4)) → (0 ≤ x3 ∧ x3 < 6 ∧ 0 ≤ x4 ∧ x4 < 6))
    (l2 : (¬ ((M 321 48) ≤ x4)) → (¬ (z_cm M x3 x4)) → wp xs (d + 1) mX10_match 17 [(2, 321), (0, x1), (0, x2), (0, x3), (0, (z_w (x4 + 1)))] [] z_LL M P)
    (b2 : (¬ ((M 321 48) ≤ x4)) → ((z_cm M x3 x4)) → 0 ≤ (z_w ((z_w (18 + (z_w (6 * x3)))) + x4)) ∧ (z_w ((z_w (18 + (z_w (6 * x3)))) + x4)) < 106)
    (l3 : (¬ ((M 321 48) ≤ x4)) → ((z_cm M x3 x4)) → ((M 343 (z_w ((z_w (18 + (z_w (6 * x3)))) + x4))) < x1) → wp xs (d + 1) mX10_match 17 [(2, 321), (0, x1), (0, x2), (0, x3), (0, (z_w (x4 + 1)))] [] z_LL M P)
    (b3 : (¬ ((M 321 48) ≤ x4)) → ((z_cm M x3 x4)) → (¬ ((M 343 (z_w ((z_w (18 + (z_w (6 * x3)))) + x4))) < x1)) → 0 ≤ (z_w (12 + x3)) ∧ (z_w (12 + x3)) < 106)
    (l4 : (¬ ((M 321 48) ≤ x4)) → ((z_cm M x3 x4)) → (¬ ((M 343 (z_w ((z_w (18 + (z_w (6 * x3)))) + x4))) < x1)) → (0 ≤ (M 343 (z_w (12 + x3)))) → wp xs (d + 1) mX10_match 17 [(2, 321), (0, x1), (0, x2), (0, x3), (0, (z_w (x4 + 1)))] [] z_LL M P)
    (b4 : (¬ ((M 321 48) ≤ x4)) → ((z_cm M x3 x4)) → (¬ ((M 343 (z_w ((z_w (18 + (z_w (6 * x3)))) + x4))) < x1)) → (¬ (0 ≤ (M 343 (z_w (12 + x3))))) → 0 ≤ (z_w (12 + x4)) ∧ (z_w (12 + x4)) < 106)
    (l5 : (¬ ((M 321 48) ≤ x4)) → ((z_cm M x3 x4)) → (¬ ((M 343 (z_w ((z_w (18 + (z_w (6 * x3)))) + x4))) < x1)) → (¬ (0 ≤ (M 343 (z_w (12 + x3))))) → ((M 343 (z_w (12 + x4))) < 0) → wp xs (d + 1) mX10_match 17 [(2, 321), (0, x1), (0, (z_w (x2 + 2))), (0, x3), (0, (z_w (x4 + 1)))] [] z_LL (z_up (z_up M 343 (z_w (12 + x3)) x4) 343 (z_w (12 + x4)) x3) P)
    (l6 : (¬ ((M 321 48) ≤ x4)) → ((z_cm M x3 x4)) → (¬ ((M 343 (z_w ((z_w (18 + (z_w (6 * x3)))) + x4))) < x1)) → (¬ (0 ≤ (M 343 (z_w (12 + x3))))) → (¬ ((M 343 (z_w (12 + x4))) < 0)) → wp xs (d + 1) mX10_match 17 [(2, 321), (0, x1), (0, x2), (0, x3), (0, (z_w (x4 + 1)))] [] z_LL M P) :
    wp xs (d + 1) mX10_match 17 [(2, 321), (0, x1), (0, x2), (0, x3), (0, x4)] [] z_LL M P := by
  refine wp_run 2 (pc' := 20) (ls' := [(2, 321), (0, x1), (0, x2), (0, x3), (0, x4)]) (st' := [(2, 321), (0, x4)]) rfl ?_
  refine wp_gf (pc' := 23) (t := 0) (v := (M 321 48)) rfl rfl (by decide) rfl rfl rfl ?_
  refine wp_if2 rfl rfl rfl (fun (c1 : (M 321 48) ≤ x4) => ?_) (fun (c1 : ¬ ((M 321 48) ≤ x4)) => ?_)
  · refine wp_run 2 (pc' := 4) (ls' := [(2, 321), (0, x1), (0, x2), (0, (z_w (x3 + 1))), (0, x4)]) (st' := []) rfl ?_
    exact l1 c1
  · refine wp_run 3 (pc' := 30) (ls' := [(2, 321), (0, x1), (0, x2), (0, x3), (0, x4)]) (st' := [(0, x4), (0, x3), (2, 321)]) rfl ?_
    refine wp_callv (pc' := 33) (as := [(2, 321), (0, x3), (0, x4)]) (rest := []) (ls1 := [(2, 321), (0, x3), (0, x4)]) rfl rfl rfl rfl rfl rfl ?_
    refine s_X10_canMix hF (b1 c1) ?_
    show wp xs _ mX10_match 33 [(2, 321), (0, x1), (0, x2), (0, x3), (0, x4)] [(0, (z_b (z_cm M x3 x4)))] z_LL M _
    refine wp_be rfl rfl rfl (fun (c2 : ¬ (z_cm M x3 x4)) => ?_) (fun (c2 : (z_cm M x3 x4)) => ?_)
    · refine wp_run 2 (pc' := 17) (ls' := [(2, 321), (0, x1), (0, x2), (0, x3), (0, (z_w (x4 + 1)))]) (st' := []) rfl ?_
      exact l2 c1 c2
    · refine wp_run 1 (pc' := 37) (ls' := [(2, 321), (0, x1), (0, x2), (0, x3), (0, x4)]) (st' := [(2, 321)]) rfl ?_
      refine wp_gf (pc' := 40) (t := 2) (v := 343) rfl rfl (by decide) rfl rfl (fx_321_61 hF) ?_
      refine wp_run 7 (pc' := 50) (ls' := [(2, 321), (0, x1), (0, x2), (0, x3), (0, x4)]) (st' := [(0, (z_w ((z_w (18 + (z_w (6 * x3)))) + x4))), (2, 343)]) rfl ?_
      refine wp_iald (pc' := 51) (v := (M 343 (z_w ((z_w (18 + (z_w (6 * x3)))) + x4)))) rfl rfl rfl (b2 c1 c2) rfl ?_
      refine wp_run 1 (pc' := 52) (ls' := [(2, 321), (0, x1), (0, x2), (0, x3), (0, x4)]) (st' := [(0, x1), (0, (M 343 (z_w ((z_w (18 + (z_w (6 * x3)))) + x4))))]) rfl ?_
      refine wp_if2 rfl rfl rfl (fun (c3 : (M 343 (z_w ((z_w (18 + (z_w (6 * x3)))) + x4))) < x1) => ?_) (fun (c3 : ¬ ((M 343 (z_w ((z_w (18 + (z_w (6 * x3)))) + x4))) < x1)) => ?_)
      · refine wp_run 2 (pc' := 17) (ls' := [(2, 321), (0, x1), (0, x2), (0, x3), (0, (z_w (x4 + 1)))]) (st' := []) rfl ?_
        exact l3 c1 c2 c3
      · refine wp_run 1 (pc' := 56) (ls' := [(2, 321), (0, x1), (0, x2), (0, x3), (0, x4)]) (st' := [(2, 321)]) rfl ?_
        refine wp_gf (pc' := 59) (t := 2) (v := 343) rfl rfl (by decide) rfl rfl (fx_321_61 hF) ?_
        refine wp_run 3 (pc' := 63) (ls' := [(2, 321), (0, x1), (0, x2), (0, x3), (0, x4)]) (st' := [(0, (z_w (12 + x3))), (2, 343)]) rfl ?_
        refine wp_iald (pc' := 64) (v := (M 343 (z_w (12 + x3)))) rfl rfl rfl (b3 c1 c2 c3) rfl ?_
        refine wp_if1 rfl rfl rfl (fun (c4 : 0 ≤ (M 343 (z_w (12 + x3)))) => ?_) (fun (c4 : ¬ (0 ≤ (M 343 (z_w (12 + x3))))) => ?_)
        · refine wp_run 2 (pc' := 17) (ls' := [(2, 321), (0, x1), (0, x2), (0, x3), (0, (z_w (x4 + 1)))]) (st' := []) rfl ?_
          exact l4 c1 c2 c3 c4
        · refine wp_run 1 (pc' := 68) (ls' := [(2, 321), (0, x1), (0, x2), (0, x3), (0, x4)]) (st' := [(2, 321)]) rfl ?_
          refine wp_gf (pc' := 71) (t := 2) (v := 343) rfl rfl (by decide) rfl rfl (fx_321_61 hF) ?_
          refine wp_run 3 (pc' := 76) (ls' := [(2, 321), (0, x1), (0, x2), (0, x3), (0, x4)]) (st' := [(0, (z_w (12 + x4))), (2, 343)]) rfl ?_
          refine wp_iald (pc' := 77) (v := (M 343 (z_w (12 + x4)))) rfl rfl rfl (b4 c1 c2 c3 c4) rfl ?_
          refine wp_if1 rfl rfl rfl (fun (c5 : (M 343 (z_w (12 + x4))) < 0) => ?_) (fun (c5 : ¬ ((M 343 (z_w (12 + x4))) < 0)) => ?_)
          · refine wp_run 1 (pc' := 84) (ls' := [(2, 321), (0, x1), (0, x2), (0, x3), (0, x4)]) (st' := [(2, 321)]) rfl ?_
            refine wp_gf (pc' := 87) (t := 2) (v := 343) rfl rfl (by decide) rfl rfl (fx_321_61 hF) ?_
            refine wp_run 4 (pc' := 93) (ls' := [(2, 321), (0, x1), (0, x2), (0, x3), (0, x4)]) (st' := [(0, x4), (0, (z_w (12 + x3))), (2, 343)]) rfl ?_
            refine wp_iast (pc' := 94) rfl rfl rfl (b3 c1 c2 c3) ?_
            refine wp_run 1 (pc' := 95) (ls' := [(2, 321), (0, x1), (0, x2), (0, x3), (0, x4)]) (st' := [(2, 321)]) rfl ?_
            refine wp_gf (pc' := 98) (t := 2) (v := 343) rfl rfl (by decide) rfl rfl (z_upq (by decide) (fx_321_61 hF)) ?_
            refine wp_run 4 (pc' := 104) (ls' := [(2, 321), (0, x1), (0, x2), (0, x3), (0, x4)]) (st' := [(0, x3), (0, (z_w (12 + x4))), (2, 343)]) rfl ?_
            refine wp_iast (pc' := 105) rfl rfl rfl (b4 c1 c2 c3 c4) ?_
            refine wp_run 3 (pc' := 17) (ls' := [(2, 321), (0, x1), (0, (z_w (x2 + 2))), (0, x3), (0, (z_w (x4 + 1)))]) (st' := []) rfl ?_
            exact l5 c1 c2 c3 c4 c5
          · refine wp_run 3 (pc' := 17) (ls' := [(2, 321), (0, x1), (0, x2), (0, x3), (0, (z_w (x4 + 1)))]) (st' := []) rfl ?_
            exact l6 c1 c2 c3 c4 c5
theorem s_X10_match {xs : List Int} {d : Nat} {M : z_M} {P : Option z_V → z_L → z_M → Prop} {ev : Int} (hF : z_fix M) (hC : z_mc M) (k : ∀ M' : z_M, (∀ q, q ≠ 343 → M' q = M q) → M' 343 = (z_mto M ev (M 343, 0) (M 321 48).toNat (M 321 48).toNat).1 → P (some (0, (z_mto M ev (M 343, 0) (M 321 48).toNat (M 321 48).toNat).2)) z_LL M') : wp xs (d + 1) mX10_match 0 [(2, 321), (0, ev), (3, 0), (3, 0), (3, 0)] [] z_LL M P := by
  have hn := hC.2.2.1
  obtain ⟨n, hne⟩ : ∃ n : Nat, M 321 48 = (n : Int) := ⟨(M 321 48).toNat, by omega⟩
  rw [hne] at k
  rw [Int.toNat_natCast] at k
  refine gX10_match_0 ?_
  have key := z_down (W := fun a => ∀ (M' : z_M) (w : z_V), (∀ q, q ≠ 343 → M' q = M q) → M' 343 = (z_mto M ev (M 343, 0) n a).1 → wp xs (d + 1) mX10_match 4 [(2, 321), (0, ev), (0, (z_mto M ev (M 343, 0) n a).2), (0, (a : Int)), w] [] z_LL M' P) n ?_ ?_ 0 (Nat.zero_le _)
  · exact key M (3, 0) (fun _ _ => rfl) rfl
  · intro M' w hM hv
    refine gX10_match_4 (x1 := ev) (x2 := (z_mto M ev (M 343, 0) n n).2) (x3 := (n : Int)) (w4 := w) (fun _ => k M' hM hv) (fun c => ?_)
    rw [hM 321 (by decide), hne] at c
    omega
  · intro a ha ih M' w hM hv
    have e1 : z_w ((a : Int) + 1) = ((a + 1 : Nat) : Int) := by rw [z_wid (by omega)]; omega
    refine gX10_match_4 (x1 := ev) (x2 := (z_mto M ev (M 343, 0) n a).2) (x3 := (a : Int)) (w4 := w) (fun c => ?_) (fun _ => ?_)
    · rw [hM 321 (by decide), hne] at c
      omega
    rw [e1]
    generalize hT : z_mto M ev (M 343, 0) n a = T at hv ⊢
    have key2 := z_down (W := fun j => ∀ (M' : z_M), (∀ q, q ≠ 343 → M' q = M q) → M' 343 = (z_mti M ev T a j).1 → wp xs (d + 1) mX10_match 17 [(2, 321), (0, ev), (0, (z_mti M ev T a j).2), (0, (a : Int)), (0, ((a + 1 + j : Nat) : Int))] [] z_LL M' P) (n - 1 - a) ?_ ?_ 0 (Nat.zero_le _)
    · exact key2 M' hM hv
    · intro M1 hM1 hv1
      have g := gX10_match_17 (M := M1) (xs := xs) (d := d) (P := P) (x1 := ev) (x2 := (z_mti M ev T a (n - 1 - a)).2) (x3 := (a : Int)) (x4 := ((a + 1 + (n - 1 - a) : Nat) : Int)) (z_fix_at hF hM1 z_nf343)
      simp only [hM1 321 (by decide), hne, e1] at g
      apply g
      · intro _
        have ih' := ih M1 (0, ((a + 1 + (n - 1 - a) : Nat) : Int)) hM1
        rw [show z_mto M ev (M 343, 0) n (a + 1) = z_mti M ev T a (n - 1 - a) by rw [z_mto, hT]] at ih'
        exact ih' hv1
      all_goals intros; exfalso; omega
    · intro j hj ih2 M1 hM1 hv1
      have e2 : z_w (((a + 1 + j : Nat) : Int) + 1) = ((a + 1 + (j + 1) : Nat) : Int) := by rw [z_wid (by omega)]; omega
      have hs : z_mti M ev T a (j + 1) = z_mt1 M ev (z_mti M ev T a j) a ((a + 1 + j : Nat) : Int) := by
        rw [z_mti]
        congr 1
      generalize hb : a + 1 + j = b at *
      generalize hS : z_mti M ev T a j = S at *
      have e3 : z_w (z_w (18 + z_w (6 * (a : Int))) + (b : Int)) = 18 + 6 * a + b := by rw [z_wid (x := 6 * (a : Int)) (by omega), z_wid (x := 18 + 6 * (a : Int)) (by omega), z_wid (by omega)]
      have g := gX10_match_17 (M := M1) (xs := xs) (d := d) (P := P) (x1 := ev) (x2 := S.2) (x3 := (a : Int)) (x4 := (b : Int)) (z_fix_at hF hM1 z_nf343)
      simp only [hM1 321 (by decide), hne, e2, e3, hv1, z_cm_q (z_c343 hM1), z_wid (x := 12 + (a : Int)) (by omega), z_wid (x := 12 + (b : Int)) (by omega)] at g
      have hno : ¬ (z_cm M a b ∧ ¬ S.1 (18 + 6 * a + b) < ev ∧ S.1 (12 + a) < 0 ∧ S.1 (12 + b) < 0) → wp xs (d + 1) mX10_match 17 [(2, 321), (0, ev), (0, S.2), (0, (a : Int)), (0, ((a + 1 + (j + 1) : Nat) : Int))] [] z_LL M1 P := by
        intro c
        have ih' := ih2 M1 hM1
        rw [hs, z_mt1_n c] at ih'
        exact ih' hv1
      apply g
      case l2 => exact fun _ c => hno (fun q => c q.1)
      case l3 => exact fun _ _ c => hno (fun q => q.2.1 c)
      case l4 => exact fun _ _ _ c => hno (fun q => by have := q.2.2.1; omega)
      case l6 => exact fun _ _ _ _ c => hno (fun q => c q.2.2.2)
      case l5 =>
        intro _ c1 c2 c3 c4
        have ih' := ih2 (z_up (z_up M1 343 (12 + (a : Int)) b) 343 (12 + (b : Int)) a) (fun q hq => by rw [z_upn hq, z_upn hq, hM1 q hq])
        rw [hs, z_mt1_y c1 c2 (by omega) c4] at ih'
        refine ih' ?_
        rw [z_upw, z_upw, hv1]
      all_goals intros; omega
