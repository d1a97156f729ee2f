/-! the evening, the matches, the rain -/
theorem z_upw {M : z_M} {q i v : Int} : z_up M q i v q = z_pt (M q) i v := by
  funext j
  unfold z_pt
  by_cases h : j = i
  · rw [h, z_ups, if_pos rfl]
  · rw [z_upi h rfl, if_neg h]
theorem z_c343 {M M' : z_M} (hM : ∀ q, q ≠ 343 → M' q = M q) : ∀ q, z_conf q → M' q = M q := fun q hq => hM q (by unfold z_conf at hq; omega)
theorem z_cm_q {M M' : z_M} (hM : ∀ q, z_conf q → M' q = M q) (a b : Int) : z_cm M' a b = z_cm M a b := by
  unfold z_cm
  rw [hM 337 (by unfold z_conf; omega), hM 341 (by unfold z_conf; omega)]
/-- the pair of a place among the mixed mixes tonight -/
def z_evc (M : z_M) (s : Int → Int) (k : Int) : Prop := (k - 18) / 6 < M 321 48 ∧ (k - 18) % 6 < M 321 48 ∧ z_cm M ((k - 18) / 6) ((k - 18) % 6) ∧ s ((k - 18) / 6) = s ((k - 18) % 6)
noncomputable def z_evn (M : z_M) (s : Int → Int) (m : Int) : Int → Int := fun k => @ite Int (18 ≤ k ∧ k < m ∧ z_evc M s k) (Classical.propDecidable _) (s k + 1) (s k)
theorem z_evn_o {M : z_M} {s : Int → Int} {m k : Int} (h : ¬ (18 ≤ k ∧ k < m)) : z_evn M s m k = s k := by
  unfold z_evn
  rw [if_neg (fun c => h ⟨c.1, c.2.1⟩)]
theorem z_evn_s {M : z_M} {s : Int → Int} {m m' : Int} (h : ∀ k, m ≤ k → k < m' → 18 ≤ k → ¬ z_evc M s k) (hm : m ≤ m') : z_evn M s m' = z_evn M s m := by
  funext k
  unfold z_evn
  by_cases c : 18 ≤ k ∧ k < m ∧ z_evc M s k
  · rw [if_pos c, if_pos ⟨c.1, by omega, c.2.2⟩]
  · rw [if_neg c, if_neg (fun q => c ⟨q.1, Classical.byContradiction fun w => h k (by omega) q.2.1 q.1 q.2.2, q.2.2⟩)]
theorem z_evn_y {M : z_M} {s : Int → Int} {m : Int} (h18 : 18 ≤ m) (h : z_evc M s m) : z_evn M s (m + 1) = z_pt (z_evn M s m) m (s m + 1) := by
  funext k
  by_cases c : k = m
  · rw [c, z_pt_s]
    unfold z_evn
    rw [if_pos ⟨h18, by omega, h⟩]
  · rw [z_pt_n c]
    unfold z_evn
    by_cases e : 18 ≤ k ∧ k < m ∧ z_evc M s k
    · rw [if_pos e, if_pos ⟨e.1, by omega, e.2.2⟩]
    · rw [if_neg e, if_neg (fun q => e ⟨q.1, by omega, q.2.2⟩)]
set_option maxRecDepth 20000 in
theorem gX10_evening_0 {xs : List Int} {d : Nat} {M : z_M} {P : Option z_V → z_L → z_M → Prop} 
    (l1 : wp xs d mX10_evening 2 [(2, 321), (0, 0), (3, 0)] [] z_LL M P) :
    wp xs d mX10_evening 0 [(2, 321), (3, 0), (3, 0)] [] z_LL M P := by
  refine wp_run 2 (pc' := 2) (ls' := [(2, 321), (0, 0), (3, 0)]) (st' := []) rfl ?_
  exact l1
set_option maxRecDepth 20000 in
theorem gX10_evening_2 {xs : List Int} {d : Nat} {M : z_M} {P : Option z_V → z_L → z_M → Prop} {x1 : Int} {w2 : z_V} 
    (l1 : ((M 321 48) ≤ x1) → P none z_LL M)
    (l2 : (¬ ((M 321 48) ≤ x1)) → wp xs d mX10_evening 12 [(2, 321), (0, x1), (0, 0)] [] z_LL M P) :
    wp xs d mX10_evening 2 [(2, 321), (0, x1), w2] [] z_LL M P := by
  refine wp_run 2 (pc' := 4) (ls' := [(2, 321), (0, x1), w2]) (st' := [(2, 321), (0, x1)]) rfl ?_
  refine wp_gf (pc' := 7) (t := 0) (v := (M 321 48)) rfl rfl (by decide) rfl rfl rfl ?_
  refine wp_if2 rfl rfl rfl (fun (c1 : (M 321 48) ≤ x1) => ?_) (fun (c1 : ¬ ((M 321 48) ≤ x1)) => ?_)
  · exact wp_ret rfl rfl (l1 c1)
  · refine wp_run 2 (pc' := 12) (ls' := [(2, 321), (0, x1), (0, 0)]) (st' := []) rfl ?_
    exact l2 c1
set_option maxRecDepth 20000 in
theorem gX10_evening_12 {xs : List Int} {d : Nat} {M : z_M} {P : Option z_V → z_L → z_M → Prop} {x1 : Int} {x2 : Int} (hF : z_fix M) 
    (l1 : ((M 321 48) ≤ x2) → wp xs (d + 1) mX10_evening 2 [(2, 321), (0, (z_w (x1 + 1))), (0, x2)] [] z_LL M P)
    (b1 : (¬ ((M 321 48) ≤ x2)) → (0 ≤ x1 ∧ x1 < 6 ∧ 0 ≤ x2 ∧ x2 < 6))
    (l2 : (¬ ((M 321 48) ≤ x2)) → (¬ (z_cm M x1 x2)) → wp xs (d + 1) mX10_evening 12 [(2, 321), (0, x1), (0, (z_w (x2 + 1)))] [] z_LL M P)
    (b2 : (¬ ((M 321 48) ≤ x2)) → ((z_cm M x1 x2)) → 0 ≤ x1 ∧ x1 < 106)
    (b3 : (¬ ((M 321 48) ≤ x2)) → ((z_cm M x1 x2)) → 0 ≤ x2 ∧ x2 < 106)
    (l3 : (¬ ((M 321 48) ≤ x2)) → ((z_cm M x1 x2)) → ((M 343 x1) ≠ (M 343 x2)) → wp xs (d + 1) mX10_evening 12 [(2, 321), (0, x1), (0, (z_w (x2 + 1)))] [] z_LL M P)
    (b4 : (¬ ((M 321 48) ≤ x2)) → ((z_cm M x1 x2)) → (¬ ((M 343 x1) ≠ (M 343 x2))) → 0 ≤ (z_w ((z_w (18 + (z_w (6 * x1)))) + x2)) ∧ (z_w ((z_w (18 + (z_w (6 * x1)))) + x2)) < 106)
    (l4 : (¬ ((M 321 48) ≤ x2)) → ((z_cm M x1 x2)) → (¬ ((M 343 x1) ≠ (M 343 x2))) → wp xs (d + 1) mX10_evening 12 [(2, 321), (0, x1), (0, (z_w (x2 + 1)))] [] z_LL (z_up M 343 (z_w ((z_w (18 + (z_w (6 * x1)))) + x2)) (z_w ((M 343 (z_w ((z_w (18 + (z_w (6 * x1)))) + x2))) + 1))) P) :
    wp xs (d + 1) mX10_evening 12 [(2, 321), (0, x1), (0, x2)] [] z_LL M P := by
  refine wp_run 2 (pc' := 14) (ls' := [(2, 321), (0, x1), (0, x2)]) (st' := [(2, 321), (0, x2)]) rfl ?_
  refine wp_gf (pc' := 17) (t := 0) (v := (M 321 48)) rfl rfl (by decide) rfl rfl rfl ?_
  refine wp_if2 rfl rfl rfl (fun (c1 : (M 321 48) ≤ x2) => ?_) (fun (c1 : ¬ ((M 321 48) ≤ x2)) => ?_)
  · refine wp_run 2 (pc' := 2) (ls' := [(2, 321), (0, (z_w (x1 + 1))), (0, x2)]) (st' := []) rfl ?_
    exact l1 c1
  · refine wp_run 3 (pc' := 23) (ls' := [(2, 321), (0, x1), (0, x2)]) (st' := [(0, x2), (0, x1), (2, 321)]) rfl ?_
    refine wp_callv (pc' := 26) (as := [(2, 321), (0, x1), (0, x2)]) (rest := []) (ls1 := [(2, 321), (0, x1), (0, x2)]) rfl rfl rfl rfl rfl rfl ?_
    refine s_X10_canMix hF (b1 c1) ?_
    show wp xs _ mX10_evening 26 [(2, 321), (0, x1), (0, x2)] [(0, (z_b (z_cm M x1 x2)))] z_LL M _
    refine wp_be rfl rfl rfl (fun (c2 : ¬ (z_cm M x1 x2)) => ?_) (fun (c2 : (z_cm M x1 x2)) => ?_)
    · refine wp_run 2 (pc' := 12) (ls' := [(2, 321), (0, x1), (0, (z_w (x2 + 1)))]) (st' := []) rfl ?_
      exact l2 c1 c2
    · refine wp_run 1 (pc' := 30) (ls' := [(2, 321), (0, x1), (0, x2)]) (st' := [(2, 321)]) rfl ?_
      refine wp_gf (pc' := 33) (t := 2) (v := 343) rfl rfl (by decide) rfl rfl (fx_321_61 hF) ?_
      refine wp_run 1 (pc' := 34) (ls' := [(2, 321), (0, x1), (0, x2)]) (st' := [(0, x1), (2, 343)]) rfl ?_
      refine wp_iald (pc' := 35) (v := (M 343 x1)) rfl rfl rfl (b2 c1 c2) rfl ?_
      refine wp_run 1 (pc' := 36) (ls' := [(2, 321), (0, x1), (0, x2)]) (st' := [(2, 321), (0, (M 343 x1))]) rfl ?_
      refine wp_gf (pc' := 39) (t := 2) (v := 343) rfl rfl (by decide) rfl rfl (fx_321_61 hF) ?_
      refine wp_run 1 (pc' := 40) (ls' := [(2, 321), (0, x1), (0, x2)]) (st' := [(0, x2), (2, 343), (0, (M 343 x1))]) rfl ?_
      refine wp_iald (pc' := 41) (v := (M 343 x2)) rfl rfl rfl (b3 c1 c2) rfl ?_
      refine wp_if2 rfl rfl rfl (fun (c3 : (M 343 x1) ≠ (M 343 x2)) => ?_) (fun (c3 : ¬ ((M 343 x1) ≠ (M 343 x2))) => ?_)
      · refine wp_run 2 (pc' := 12) (ls' := [(2, 321), (0, x1), (0, (z_w (x2 + 1)))]) (st' := []) rfl ?_
        exact l3 c1 c2 c3
      · refine wp_run 1 (pc' := 45) (ls' := [(2, 321), (0, x1), (0, x2)]) (st' := [(2, 321)]) rfl ?_
        refine wp_gf (pc' := 48) (t := 2) (v := 343) rfl rfl (by decide) rfl rfl (fx_321_61 hF) ?_
        refine wp_run 8 (pc' := 58) (ls' := [(2, 321), (0, x1), (0, x2)]) (st' := [(0, (z_w ((z_w (18 + (z_w (6 * x1)))) + x2))), (2, 343), (0, (z_w ((z_w (18 + (z_w (6 * x1)))) + x2))), (2, 343)]) rfl ?_
        refine wp_iald (pc' := 59) (v := (M 343 (z_w ((z_w (18 + (z_w (6 * x1)))) + x2)))) rfl rfl rfl (b4 c1 c2 c3) rfl ?_
        refine wp_run 2 (pc' := 61) (ls' := [(2, 321), (0, x1), (0, x2)]) (st' := [(0, (z_w ((M 343 (z_w ((z_w (18 + (z_w (6 * x1)))) + x2))) + 1))), (0, (z_w ((z_w (18 + (z_w (6 * x1)))) + x2))), (2, 343)]) rfl ?_
        refine wp_iast (pc' := 62) rfl rfl rfl (b4 c1 c2 c3) ?_
        refine wp_run 2 (pc' := 12) (ls' := [(2, 321), (0, x1), (0, (z_w (x2 + 1)))]) (st' := []) rfl ?_
        exact l4 c1 c2 c3
theorem s_X10_evening {xs : List Int} {d : Nat} {M : z_M} {P : Option z_V → z_L → z_M → Prop} (hF : z_fix M) (hC : z_mc M) (hR : ∀ k : Int, 18 ≤ k → k < 54 → -1000000 ≤ M 343 k ∧ M 343 k ≤ 1000000) (k : ∀ M' : z_M, (∀ q, q ≠ 343 → M' q = M q) → M' 343 = z_evn M (M 343) 54 → P none z_LL M') : wp xs (d + 1) mX10_evening 0 [(2, 321), (3, 0), (3, 0)] [] z_LL M P := by
  have hn := hC.2.2.1
  obtain ⟨n, hne⟩ : ∃ n : Nat, M 321 48 = (n : Int) := ⟨(M 321 48).toNat, by omega⟩
  refine gX10_evening_0 ?_
  have key := z_down (W := fun a => ∀ (M' : z_M) (w : z_V), (∀ q, q ≠ 343 → M' q = M q) → M' 343 = z_evn M (M 343) (18 + 6 * a) → wp xs (d + 1) mX10_evening 2 [(2, 321), (0, (a : Int)), w] [] z_LL M' P) n ?_ ?_ 0 (Nat.zero_le _)
  · refine key M (3, 0) (fun _ _ => rfl) ?_
    funext j
    rw [z_evn_o (by omega)]
  · intro M' w hM hv
    refine gX10_evening_2 (x1 := (n : Int)) (w2 := w) (fun _ => k M' hM ?_) (fun c => ?_)
    · rw [hv]
      symm
      refine z_evn_s (fun j a b c e => ?_) (by omega)
      unfold z_evc at e
      omega
    · rw [hM 321 (by decide), hne] at c
      omega
  · intro a ha ih M' w hM hv
    refine gX10_evening_2 (x1 := (a : Int)) (w2 := w) (fun c => ?_) (fun _ => ?_)
    · rw [hM 321 (by decide), hne] at c
      omega
    have key2 := z_down (W := fun b => ∀ (M' : z_M), (∀ q, q ≠ 343 → M' q = M q) → M' 343 = z_evn M (M 343) (18 + 6 * a + b) → wp xs (d + 1) mX10_evening 12 [(2, 321), (0, (a : Int)), (0, (b : Int))] [] z_LL M' P) n ?_ ?_ 0 (Nat.zero_le _)
    · exact key2 M' hM (by rw [hv]; rfl)
    · intro M1 hM1 hv1
      have e2 : z_w ((a : Int) + 1) = ((a + 1 : Nat) : Int) := by rw [z_wid (by omega)]; omega
      have g := gX10_evening_12 (xs := xs) (d := d) (P := P) (x1 := (a : Int)) (x2 := (n : Int)) (z_fix_at hF hM1 z_nf343)
      simp only [hM1 321 (by decide), hne, e2] at g
      apply g
      · intro _
        refine ih M1 _ hM1 ?_
        rw [hv1]
        symm
        refine z_evn_s (fun j a b c e => ?_) (by omega)
        unfold z_evc at e
        omega
      all_goals intros; exfalso; omega
    · intro b hb ih2 M1 hM1 hv1
      have e2 : z_w ((b : Int) + 1) = ((b + 1 : Nat) : Int) := by rw [z_wid (by omega)]; omega
      have e3 : z_w (z_w (18 + z_w (6 * (a : Int))) + (b : Int)) = 18 + 6 * a + b := by rw [z_wid (x := 6 * (a : Int)) (by omega), z_wid (x := 18 + 6 * (a : Int)) (by omega), z_wid (by omega)]
      have e4 : M1 343 (18 + 6 * a + b) = M 343 (18 + 6 * a + b) := by rw [hv1, z_evn_o (by omega)]
      have e5 : M1 343 a = M 343 a := by rw [hv1, z_evn_o (by omega)]
      have e6 : M1 343 b = M 343 b := by rw [hv1, z_evn_o (by omega)]
      have r := hR (18 + 6 * a + b) (by omega) (by omega)
      have d1 : (18 + 6 * (a : Int) + b - 18) / 6 = a := by omega
      have d2 : (18 + 6 * (a : Int) + b - 18) % 6 = b := by omega
      have hno : ¬ z_evc M (M 343) (18 + 6 * a + b) → wp xs (d + 1) mX10_evening 12 [(2, 321), (0, (a : Int)), (0, ((b + 1 : Nat) : Int))] [] z_LL M1 P := by
        intro c
        refine ih2 M1 hM1 ?_
        rw [hv1]
        symm
        refine z_evn_s (fun j p q r => ?_) (by omega)
        have : j = 18 + 6 * a + b := by omega
        rw [this]
        exact c
      have g := gX10_evening_12 (M := M1) (xs := xs) (d := d) (P := P) (x1 := (a : Int)) (x2 := (b : Int)) (z_fix_at hF hM1 z_nf343)
      simp only [hM1 321 (by decide), hne, e2, e3, e4, e5, e6, z_cm_q (z_c343 hM1), z_wid (x := M 343 (18 + 6 * a + b) + 1) (by omega)] at g
      apply g
      case l2 =>
        intro _ c
        refine hno (fun e => c ?_)
        have := e.2.2.1
        rw [d1, d2] at this
        exact this
      case l3 =>
        intro _ _ c
        refine hno (fun e => c ?_)
        have := e.2.2.2
        rw [d1, d2] at this
        exact this
      case l4 =>
        intro _ c1 c2
        refine ih2 _ (fun q hq => by rw [z_upn hq, hM1 q hq]) ?_
        rw [z_upw, hv1]
        symm
        rw [show (18 + 6 * (a : Int) + ((b + 1 : Nat) : Int)) = 18 + 6 * a + b + 1 by omega]
        refine z_evn_y (by omega) ?_
        unfold z_evc
        rw [d1, d2]
        exact ⟨by omega, by omega, c1, Classical.byContradiction c2⟩
      all_goals intros; omega
