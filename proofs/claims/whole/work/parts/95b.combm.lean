/-! STEPS OF READING: the model -/
section
variable {b : Int → Int} {n p : Int} {M M' : z_M} {σ : zs_S}
theorem zt_r_i : (zt_r (zt_k b n p) = 1 ↔ zt_k b n p ≤ 24) ∧ (zt_r (zt_k b n p) = 2 ↔ zt_k b n p = 25) ∧ (zt_r (zt_k b n p) = 0 ↔ zt_k b n p = 26) ∧ (zt_r (zt_k b n p) = 3 ↔ zt_k b n p = 27) ∧ ∀ s, 37 ≤ s → (zt_r (zt_k b n p) = s ↔ zt_k b n p = s) := by
  have h := zt_k_k (b := b) (n := n) (p := p)
  unfold z_isg at h
  generalize zt_k b n p = k at *
  unfold zt_r
  split
  · refine ⟨by omega, by omega, by omega, by omega, fun s hs => by omega⟩
  · split
    · refine ⟨by omega, by omega, by omega, by omega, fun s hs => by omega⟩
    · split
      · refine ⟨by omega, by omega, by omega, by omega, fun s hs => by omega⟩
      · split
        · refine ⟨by omega, by omega, by omega, by omega, fun s hs => by omega⟩
        · refine ⟨by omega, by omega, by omega, by omega, fun s hs => by omega⟩
/-- a word that stands for itself -/
theorem zt_m_w (h : zt_m M b n p) (hp : 0 ≤ p ∧ p ≤ n) {i : Nat} (hi : i < 24) : (M 321 6 = 1 ∧ M 321 9 = z_own8.getD i 0) ↔ zt_k b n p = i := by
  rw [h.1, zt_r_i.1]
  constructor
  · rintro ⟨h1, h2⟩
    obtain ⟨w1, _, _, w4, _⟩ := zt_k_w h1 hp
    rw [h.2.2.2.2 h1] at h2
    rw [w4]
    exact (z_kwd_8 w1 hi).mp h2
  · intro e
    have h1 : zt_k b n p ≤ 24 := by omega
    obtain ⟨w1, _, _, w4, _⟩ := zt_k_w h1 hp
    refine ⟨h1, ?_⟩
    rw [h.2.2.2.2 h1]
    exact (z_kwd_8 w1 hi).mpr (by rw [← w4]; exact e)
theorem zt_m_n (h : zt_m M b n p) (hp : 0 ≤ p ∧ p ≤ n) : (M 321 6 = 1 ∧ ¬ z_own (M 321 9)) ↔ zt_k b n p = 24 := by
  rw [h.1, zt_r_i.1]
  constructor
  · rintro ⟨h1, h2⟩
    obtain ⟨w1, _, _, w4, _⟩ := zt_k_w h1 hp
    rw [h.2.2.2.2 h1, z_own_k w1] at h2
    rw [w4]
    exact Classical.byContradiction h2
  · intro e
    have h1 : zt_k b n p ≤ 24 := by omega
    obtain ⟨w1, _, _, w4, _⟩ := zt_k_w h1 hp
    refine ⟨h1, ?_⟩
    rw [h.2.2.2.2 h1, z_own_k w1]
    omega
theorem zs_m_w {c v : Int} (h : zs_m M b n (.ok p)) (hc : 0 < c) (hv : v = (zs_f b n p c).1) : zs_m (z_up (z_up M 321 2 v) 321 3 (M 321 7)) b n (.error (zs_f b n p c)) ∧ zs_h M (z_up (z_up M 321 2 v) 321 3 (M 321 7)) := by
  obtain ⟨h1, h2, h3, h4⟩ := h
  have h4 := h4 p rfl
  refine ⟨⟨?_, ⟨by rw [z_upi (by decide) rfl, z_ups]; exact hv, by rw [z_ups]; exact h4.2.1⟩, zs_f_p hc, fun q w => by cases w⟩, fun q a => by rw [z_upn a, z_upn a], fun j a => ?_⟩
  · unfold zt_u at h1 ⊢
    rw [z_upn (by decide), z_upn (by decide), z_upi (by decide) rfl, z_upi (by decide) rfl]
    exact h1
  · unfold zs_j at a
    rw [z_upi (by omega) rfl, z_upi (by omega) rfl]
end
set_option maxRecDepth 20000 in
theorem gX10_wrong_0 {xs : List Int} {d : Nat} {M : z_M} {P : Option z_V → z_L → z_M → Prop} {a1 : Int} 
    (l1 : ((M 321 2) ≤ 0) → ((M 321 6) ≠ 3) → P none z_LL (z_up (z_up M 321 2 a1) 321 3 (M 321 7)))
    (l2 : ((M 321 2) ≤ 0) → (¬ ((M 321 6) ≠ 3)) → P none z_LL (z_up (z_up M 321 2 1) 321 3 (M 321 7)))
    (l3 : (¬ ((M 321 2) ≤ 0)) → P none z_LL M) :
    wp xs d mX10_wrong 0 [(2, 321), (0, a1)] [] z_LL M P := by
  refine wp_run 1 (pc' := 1) (ls' := [(2, 321), (0, a1)]) (st' := [(2, 321)]) rfl ?_
  refine wp_gf (pc' := 4) (t := 0) (v := (M 321 2)) rfl rfl (by decide) rfl rfl rfl ?_
  refine wp_if1 rfl rfl rfl (fun (c1 : (M 321 2) ≤ 0) => ?_) (fun (c1 : ¬ ((M 321 2) ≤ 0)) => ?_)
  · refine wp_run 2 (pc' := 10) (ls' := [(2, 321), (0, a1)]) (st' := [(2, 321), (2, 321)]) rfl ?_
    refine wp_gf (pc' := 13) (t := 0) (v := (M 321 6)) rfl rfl (by decide) rfl rfl rfl ?_
    refine wp_run 1 (pc' := 14) (ls' := [(2, 321), (0, a1)]) (st' := [(0, 3), (0, (M 321 6)), (2, 321)]) rfl ?_
    refine wp_if2 rfl rfl rfl (fun (c2 : (M 321 6) ≠ 3) => ?_) (fun (c2 : ¬ ((M 321 6) ≠ 3)) => ?_)
    · refine wp_run 1 (pc' := 22) (ls' := [(2, 321), (0, a1)]) (st' := [(0, a1), (2, 321)]) rfl ?_
      refine wp_pf (pc' := 25) rfl rfl rfl rfl (fun z => absurd z (by decide)) (fun z => absurd z (by decide)) ?_
      refine wp_run 2 (pc' := 27) (ls' := [(2, 321), (0, a1)]) (st' := [(2, 321), (2, 321)]) rfl ?_
      refine wp_gf (pc' := 30) (t := 0) (v := (M 321 7)) rfl rfl (by decide) rfl rfl (z_upi (by decide) rfl) ?_
      refine wp_pf (pc' := 33) rfl rfl rfl rfl (fun z => absurd z (by decide)) (fun z => absurd z (by decide)) ?_
      exact wp_ret rfl rfl (l1 c1 c2)
    · refine wp_run 2 (pc' := 22) (ls' := [(2, 321), (0, a1)]) (st' := [(0, 1), (2, 321)]) rfl ?_
      refine wp_pf (pc' := 25) rfl rfl rfl rfl (fun z => absurd z (by decide)) (fun z => absurd z (by decide)) ?_
      refine wp_run 2 (pc' := 27) (ls' := [(2, 321), (0, a1)]) (st' := [(2, 321), (2, 321)]) rfl ?_
      refine wp_gf (pc' := 30) (t := 0) (v := (M 321 7)) rfl rfl (by decide) rfl rfl (z_upi (by decide) rfl) ?_
      refine wp_pf (pc' := 33) rfl rfl rfl rfl (fun z => absurd z (by decide)) (fun z => absurd z (by decide)) ?_
      exact wp_ret rfl rfl (l2 c1 c2)
  · exact wp_ret rfl rfl (l3 c1)
set_option maxRecDepth 20000 in
theorem gX10_want_0 {xs : List Int} {d : Nat} {M : z_M} {P : Option z_V → z_L → z_M → Prop} {a1 : Int} 
    (l1 : ((M 321 2) ≤ 0) → ((M 321 6 = 1 ∧ M 321 9 = a1)) → wp xs d mX10_token 0 [(2, 321), (3, 0), (3, 0)] [] z_LL M (fun r L1 M1 => wp xs (d + 1) mX10_want 28 [(2, 321), (1, a1), (3, 0)] (z_ol r ++ []) L1 M1 P))
    (l2 : ((M 321 2) ≤ 0) → (¬ (M 321 6 = 1 ∧ M 321 9 = a1)) → wp xs d mX10_wrong 0 [(2, 321), (0, 2)] [] z_LL M (fun r L1 M1 => wp xs (d + 1) mX10_want 21 [(2, 321), (1, a1), (3, 0)] (z_ol r ++ []) L1 M1 P))
    (l3 : (¬ ((M 321 2) ≤ 0)) → P none z_LL M) :
    wp xs (d + 1) mX10_want 0 [(2, 321), (1, a1), (3, 0)] [] z_LL M P := by
  refine wp_run 1 (pc' := 1) (ls' := [(2, 321), (1, a1), (3, 0)]) (st' := [(2, 321)]) rfl ?_
  refine wp_gf (pc' := 4) (t := 0) (v := (M 321 2)) rfl rfl (by decide) rfl rfl rfl ?_
  refine wp_if1 rfl rfl rfl (fun (c1 : (M 321 2) ≤ 0) => ?_) (fun (c1 : ¬ ((M 321 2) ≤ 0)) => ?_)
  · refine wp_run 2 (pc' := 10) (ls' := [(2, 321), (1, a1), (3, 0)]) (st' := [(1, a1), (2, 321)]) rfl ?_
    refine wp_callv (pc' := 13) (as := [(2, 321), (1, a1)]) (rest := []) (ls1 := [(2, 321), (1, a1), (3, 0)]) rfl rfl rfl rfl rfl rfl ?_
    refine s_X10_isWord  ?_
    show wp xs _ mX10_want 13 [(2, 321), (1, a1), (3, 0)] [(0, (z_b (M 321 6 = 1 ∧ M 321 9 = a1)))] z_LL M _
    refine wp_bn rfl rfl rfl (fun (c2 : (M 321 6 = 1 ∧ M 321 9 = a1)) => ?_) (fun (c2 : ¬ (M 321 6 = 1 ∧ M 321 9 = a1)) => ?_)
    · refine wp_run 1 (pc' := 25) (ls' := [(2, 321), (1, a1), (3, 0)]) (st' := [(2, 321)]) rfl ?_
      refine wp_callv (pc' := 28) (as := [(2, 321)]) (rest := []) (ls1 := [(2, 321), (3, 0), (3, 0)]) rfl rfl rfl rfl rfl rfl ?_
      exact l1 c1 c2
    · refine wp_run 2 (pc' := 18) (ls' := [(2, 321), (1, a1), (3, 0)]) (st' := [(0, 2), (2, 321)]) rfl ?_
      refine wp_callv (pc' := 21) (as := [(2, 321), (0, 2)]) (rest := []) (ls1 := [(2, 321), (0, 2)]) rfl rfl rfl rfl rfl rfl ?_
      exact l2 c1 c2
  · exact wp_ret rfl rfl (l3 c1)
set_option maxRecDepth 20000 in
theorem gX10_want_21 {xs : List Int} {d : Nat} {M : z_M} {P : Option z_V → z_L → z_M → Prop} {x1 : Int} 
    (l1 : P none z_LL M) :
    wp xs d mX10_want 21 [(2, 321), (1, x1), (3, 0)] [] z_LL M P := by
  refine wp_run 1 (pc' := 28) (ls' := [(2, 321), (1, x1), (3, 0)]) (st' := []) rfl ?_
  exact wp_ret rfl rfl (l1)
set_option maxRecDepth 20000 in
theorem gX10_want_28 {xs : List Int} {d : Nat} {M : z_M} {P : Option z_V → z_L → z_M → Prop} {x1 : Int} 
    (l1 : P none z_LL M) :
    wp xs d mX10_want 28 [(2, 321), (1, x1), (3, 0)] [] z_LL M P := by
  exact wp_ret rfl rfl (l1)
set_option maxRecDepth 20000 in
theorem gX10_toldNumber_0 {xs : List Int} {d : Nat} {M : z_M} {P : Option z_V → z_L → z_M → Prop} {a1 : Int} {a2 : Int} 
    (l1 : ((M 321 2) ≤ 0) → ((M 321 6) = 2) → ((M 321 8) < a1) → wp xs d mX10_wrong 0 [(2, 321), (0, 4)] [] z_LL M (fun r L1 M1 => wp xs (d + 1) mX10_toldNumber 46 [(2, 321), (0, a1), (0, a2), (3, 0)] (z_ol r ++ []) L1 M1 P))
    (l2 : ((M 321 2) ≤ 0) → ((M 321 6) = 2) → (¬ ((M 321 8) < a1)) → ((M 321 8) ≤ a2) → ((M 321 2) ≠ 0) → P (some (0, (M 321 8))) z_LL M)
    (l3 : ((M 321 2) ≤ 0) → ((M 321 6) = 2) → (¬ ((M 321 8) < a1)) → ((M 321 8) ≤ a2) → (¬ ((M 321 2) ≠ 0)) → wp xs d mX10_token 0 [(2, 321), (3, 0), (3, 0)] [] z_LL M (fun r L1 M1 => wp xs (d + 1) mX10_toldNumber 62 [(2, 321), (0, a1), (0, a2), (0, (M 321 8))] (z_ol r ++ []) L1 M1 P))
    (l4 : ((M 321 2) ≤ 0) → ((M 321 6) = 2) → (¬ ((M 321 8) < a1)) → (¬ ((M 321 8) ≤ a2)) → wp xs d mX10_wrong 0 [(2, 321), (0, 4)] [] z_LL M (fun r L1 M1 => wp xs (d + 1) mX10_toldNumber 46 [(2, 321), (0, a1), (0, a2), (3, 0)] (z_ol r ++ []) L1 M1 P))
    (l5 : ((M 321 2) ≤ 0) → (¬ ((M 321 6) = 2)) → wp xs d mX10_wrong 0 [(2, 321), (0, 2)] [] z_LL M (fun r L1 M1 => wp xs (d + 1) mX10_toldNumber 22 [(2, 321), (0, a1), (0, a2), (3, 0)] (z_ol r ++ []) L1 M1 P))
    (l6 : (¬ ((M 321 2) ≤ 0)) → P (some (0, 0)) z_LL M) :
    wp xs (d + 1) mX10_toldNumber 0 [(2, 321), (0, a1), (0, a2), (3, 0)] [] z_LL M P := by
  refine wp_run 1 (pc' := 1) (ls' := [(2, 321), (0, a1), (0, a2), (3, 0)]) (st' := [(2, 321)]) rfl ?_
  refine wp_gf (pc' := 4) (t := 0) (v := (M 321 2)) rfl rfl (by decide) rfl rfl rfl ?_
  refine wp_if1 rfl rfl rfl (fun (c1 : (M 321 2) ≤ 0) => ?_) (fun (c1 : ¬ ((M 321 2) ≤ 0)) => ?_)
  · refine wp_run 1 (pc' := 10) (ls' := [(2, 321), (0, a1), (0, a2), (3, 0)]) (st' := [(2, 321)]) rfl ?_
    refine wp_gf (pc' := 13) (t := 0) (v := (M 321 6)) rfl rfl (by decide) rfl rfl rfl ?_
    refine wp_run 1 (pc' := 14) (ls' := [(2, 321), (0, a1), (0, a2), (3, 0)]) (st' := [(0, 2), (0, (M 321 6))]) rfl ?_
    refine wp_if2 rfl rfl rfl (fun (c2 : (M 321 6) = 2) => ?_) (fun (c2 : ¬ ((M 321 6) = 2)) => ?_)
    · refine wp_run 1 (pc' := 26) (ls' := [(2, 321), (0, a1), (0, a2), (3, 0)]) (st' := [(2, 321)]) rfl ?_
      refine wp_gf (pc' := 29) (t := 0) (v := (M 321 8)) rfl rfl (by decide) rfl rfl rfl ?_
      refine wp_run 1 (pc' := 30) (ls' := [(2, 321), (0, a1), (0, a2), (3, 0)]) (st' := [(0, a1), (0, (M 321 8))]) rfl ?_
      refine wp_if2 rfl rfl rfl (fun (c3 : (M 321 8) < a1) => ?_) (fun (c3 : ¬ ((M 321 8) < a1)) => ?_)
      · refine wp_run 2 (pc' := 43) (ls' := [(2, 321), (0, a1), (0, a2), (3, 0)]) (st' := [(0, 4), (2, 321)]) rfl ?_
        refine wp_callv (pc' := 46) (as := [(2, 321), (0, 4)]) (rest := []) (ls1 := [(2, 321), (0, 4)]) rfl rfl rfl rfl rfl rfl ?_
        exact l1 c1 c2 c3
      · refine wp_run 1 (pc' := 34) (ls' := [(2, 321), (0, a1), (0, a2), (3, 0)]) (st' := [(2, 321)]) rfl ?_
        refine wp_gf (pc' := 37) (t := 0) (v := (M 321 8)) rfl rfl (by decide) rfl rfl rfl ?_
        refine wp_run 1 (pc' := 38) (ls' := [(2, 321), (0, a1), (0, a2), (3, 0)]) (st' := [(0, a2), (0, (M 321 8))]) rfl ?_
        refine wp_if2 rfl rfl rfl (fun (c4 : (M 321 8) ≤ a2) => ?_) (fun (c4 : ¬ ((M 321 8) ≤ a2)) => ?_)
        · refine wp_run 1 (pc' := 47) (ls' := [(2, 321), (0, a1), (0, a2), (3, 0)]) (st' := [(2, 321)]) rfl ?_
          refine wp_gf (pc' := 50) (t := 0) (v := (M 321 8)) rfl rfl (by decide) rfl rfl rfl ?_
          refine wp_run 2 (pc' := 52) (ls' := [(2, 321), (0, a1), (0, a2), (0, (M 321 8))]) (st' := [(2, 321)]) rfl ?_
          refine wp_gf (pc' := 55) (t := 0) (v := (M 321 2)) rfl rfl (by decide) rfl rfl rfl ?_
          refine wp_if1 rfl rfl rfl (fun (c5 : (M 321 2) ≠ 0) => ?_) (fun (c5 : ¬ ((M 321 2) ≠ 0)) => ?_)
          · refine wp_run 1 (pc' := 63) (ls' := [(2, 321), (0, a1), (0, a2), (0, (M 321 8))]) (st' := [(0, (M 321 8))]) rfl ?_
            exact wp_ret rfl rfl (l2 c1 c2 c3 c4 c5)
          · refine wp_run 1 (pc' := 59) (ls' := [(2, 321), (0, a1), (0, a2), (0, (M 321 8))]) (st' := [(2, 321)]) rfl ?_
            refine wp_callv (pc' := 62) (as := [(2, 321)]) (rest := []) (ls1 := [(2, 321), (3, 0), (3, 0)]) rfl rfl rfl rfl rfl rfl ?_
            exact l3 c1 c2 c3 c4 c5
        · refine wp_run 2 (pc' := 43) (ls' := [(2, 321), (0, a1), (0, a2), (3, 0)]) (st' := [(0, 4), (2, 321)]) rfl ?_
          refine wp_callv (pc' := 46) (as := [(2, 321), (0, 4)]) (rest := []) (ls1 := [(2, 321), (0, 4)]) rfl rfl rfl rfl rfl rfl ?_
          exact l4 c1 c2 c3 c4
    · refine wp_run 2 (pc' := 19) (ls' := [(2, 321), (0, a1), (0, a2), (3, 0)]) (st' := [(0, 2), (2, 321)]) rfl ?_
      refine wp_callv (pc' := 22) (as := [(2, 321), (0, 2)]) (rest := []) (ls1 := [(2, 321), (0, 2)]) rfl rfl rfl rfl rfl rfl ?_
      exact l5 c1 c2
  · refine wp_run 1 (pc' := 8) (ls' := [(2, 321), (0, a1), (0, a2), (3, 0)]) (st' := [(0, 0)]) rfl ?_
    exact wp_ret rfl rfl (l6 c1)
set_option maxRecDepth 20000 in
theorem gX10_toldNumber_22 {xs : List Int} {d : Nat} {M : z_M} {P : Option z_V → z_L → z_M → Prop} {x1 : Int} {x2 : Int} 
    (l1 : ((M 321 2) ≠ 0) → P (some (0, (M 321 8))) z_LL M)
    (l2 : (¬ ((M 321 2) ≠ 0)) → wp xs d mX10_token 0 [(2, 321), (3, 0), (3, 0)] [] z_LL M (fun r L1 M1 => wp xs (d + 1) mX10_toldNumber 62 [(2, 321), (0, x1), (0, x2), (0, (M 321 8))] (z_ol r ++ []) L1 M1 P)) :
    wp xs (d + 1) mX10_toldNumber 22 [(2, 321), (0, x1), (0, x2), (3, 0)] [] z_LL M P := by
  refine wp_run 2 (pc' := 47) (ls' := [(2, 321), (0, x1), (0, x2), (3, 0)]) (st' := [(2, 321)]) rfl ?_
  refine wp_gf (pc' := 50) (t := 0) (v := (M 321 8)) rfl rfl (by decide) rfl rfl rfl ?_
  refine wp_run 2 (pc' := 52) (ls' := [(2, 321), (0, x1), (0, x2), (0, (M 321 8))]) (st' := [(2, 321)]) rfl ?_
  refine wp_gf (pc' := 55) (t := 0) (v := (M 321 2)) rfl rfl (by decide) rfl rfl rfl ?_
  refine wp_if1 rfl rfl rfl (fun (c1 : (M 321 2) ≠ 0) => ?_) (fun (c1 : ¬ ((M 321 2) ≠ 0)) => ?_)
  · refine wp_run 1 (pc' := 63) (ls' := [(2, 321), (0, x1), (0, x2), (0, (M 321 8))]) (st' := [(0, (M 321 8))]) rfl ?_
    exact wp_ret rfl rfl (l1 c1)
  · refine wp_run 1 (pc' := 59) (ls' := [(2, 321), (0, x1), (0, x2), (0, (M 321 8))]) (st' := [(2, 321)]) rfl ?_
    refine wp_callv (pc' := 62) (as := [(2, 321)]) (rest := []) (ls1 := [(2, 321), (3, 0), (3, 0)]) rfl rfl rfl rfl rfl rfl ?_
    exact l2 c1
set_option maxRecDepth 20000 in
theorem gX10_toldNumber_46 {xs : List Int} {d : Nat} {M : z_M} {P : Option z_V → z_L → z_M → Prop} {x1 : Int} {x2 : Int} 
    (l1 : ((M 321 2) ≠ 0) → P (some (0, (M 321 8))) z_LL M)
    (l2 : (¬ ((M 321 2) ≠ 0)) → wp xs d mX10_token 0 [(2, 321), (3, 0), (3, 0)] [] z_LL M (fun r L1 M1 => wp xs (d + 1) mX10_toldNumber 62 [(2, 321), (0, x1), (0, x2), (0, (M 321 8))] (z_ol r ++ []) L1 M1 P)) :
    wp xs (d + 1) mX10_toldNumber 46 [(2, 321), (0, x1), (0, x2), (3, 0)] [] z_LL M P := by
  refine wp_run 1 (pc' := 47) (ls' := [(2, 321), (0, x1), (0, x2), (3, 0)]) (st' := [(2, 321)]) rfl ?_
  refine wp_gf (pc' := 50) (t := 0) (v := (M 321 8)) rfl rfl (by decide) rfl rfl rfl ?_
  refine wp_run 2 (pc' := 52) (ls' := [(2, 321), (0, x1), (0, x2), (0, (M 321 8))]) (st' := [(2, 321)]) rfl ?_
  refine wp_gf (pc' := 55) (t := 0) (v := (M 321 2)) rfl rfl (by decide) rfl rfl rfl ?_
  refine wp_if1 rfl rfl rfl (fun (c1 : (M 321 2) ≠ 0) => ?_) (fun (c1 : ¬ ((M 321 2) ≠ 0)) => ?_)
  · refine wp_run 1 (pc' := 63) (ls' := [(2, 321), (0, x1), (0, x2), (0, (M 321 8))]) (st' := [(0, (M 321 8))]) rfl ?_
    exact wp_ret rfl rfl (l1 c1)
  · refine wp_run 1 (pc' := 59) (ls' := [(2, 321), (0, x1), (0, x2), (0, (M 321 8))]) (st' := [(2, 321)]) rfl ?_
    refine wp_callv (pc' := 62) (as := [(2, 321)]) (rest := []) (ls1 := [(2, 321), (3, 0), (3, 0)]) rfl rfl rfl rfl rfl rfl ?_
    exact l2 c1
set_option maxRecDepth 20000 in
theorem gX10_toldNumber_62 {xs : List Int} {d : Nat} {M : z_M} {P : Option z_V → z_L → z_M → Prop} {x1 : Int} {x2 : Int} {x3 : Int} 
    (l1 : P (some (0, x3)) z_LL M) :
    wp xs d mX10_toldNumber 62 [(2, 321), (0, x1), (0, x2), (0, x3)] [] z_LL M P := by
  refine wp_run 1 (pc' := 63) (ls' := [(2, 321), (0, x1), (0, x2), (0, x3)]) (st' := [(0, x3)]) rfl ?_
  exact wp_ret rfl rfl (l1)
set_option maxRecDepth 20000 in
theorem gX10_told_0 {xs : List Int} {d : Nat} {M : z_M} {P : Option z_V → z_L → z_M → Prop} {a1 : Int} {a2 : Int} {a3 : Int} 
    (l1 : wp xs d mX10_want 0 [(2, 321), (1, a1), (3, 0)] [] z_LL M (fun r L1 M1 => wp xs (d + 1) mX10_told 5 [(2, 321), (1, a1), (3, 0), (0, a2), (0, a3)] (z_ol r ++ []) L1 M1 P)) :
    wp xs (d + 1) mX10_told 0 [(2, 321), (1, a1), (3, 0), (0, a2), (0, a3)] [] z_LL M P := by
  refine wp_run 2 (pc' := 2) (ls' := [(2, 321), (1, a1), (3, 0), (0, a2), (0, a3)]) (st' := [(1, a1), (2, 321)]) rfl ?_
  refine wp_callv (pc' := 5) (as := [(2, 321), (1, a1)]) (rest := []) (ls1 := [(2, 321), (1, a1), (3, 0)]) rfl rfl rfl rfl rfl rfl ?_
  exact l1
set_option maxRecDepth 20000 in
theorem gX10_told_5 {xs : List Int} {d : Nat} {M : z_M} {P : Option z_V → z_L → z_M → Prop} {x1 : Int} {x3 : Int} {x4 : Int} 
    (l1 : wp xs d mX10_toldNumber 0 [(2, 321), (0, x3), (0, x4), (3, 0)] [] z_LL M (fun r L1 M1 => wp xs (d + 1) mX10_told 12 [(2, 321), (1, x1), (3, 0), (0, x3), (0, x4)] (z_ol r ++ []) L1 M1 P)) :
    wp xs (d + 1) mX10_told 5 [(2, 321), (1, x1), (3, 0), (0, x3), (0, x4)] [] z_LL M P := by
  refine wp_run 3 (pc' := 9) (ls' := [(2, 321), (1, x1), (3, 0), (0, x3), (0, x4)]) (st' := [(0, x4), (0, x3), (2, 321)]) rfl ?_
  refine wp_callv (pc' := 12) (as := [(2, 321), (0, x3), (0, x4)]) (rest := []) (ls1 := [(2, 321), (0, x3), (0, x4), (3, 0)]) rfl rfl rfl rfl rfl rfl ?_
  exact l1
set_option maxRecDepth 20000 in
theorem gX10_told_12 {xs : List Int} {d : Nat} {M : z_M} {P : Option z_V → z_L → z_M → Prop} {x1 : Int} {x3 : Int} {x4 : Int} {s0 : Int} 
    (l1 : P (some (0, s0)) z_LL M) :
    wp xs d mX10_told 12 [(2, 321), (1, x1), (3, 0), (0, x3), (0, x4)] [(0, s0)] z_LL M P := by
  exact wp_ret rfl rfl (l1)
set_option maxRecDepth 20000 in
theorem gX10_find_0 {xs : List Int} {d : Nat} {M : z_M} {P : Option z_V → z_L → z_M → Prop} 
    (l1 : wp xs d mX10_find 4 [(2, 321), (0, (-1)), (0, 0)] [] z_LL M P) :
    wp xs d mX10_find 0 [(2, 321), (3, 0), (3, 0)] [] z_LL M P := by
  refine wp_run 4 (pc' := 4) (ls' := [(2, 321), (0, (-1)), (0, 0)]) (st' := []) rfl ?_
  exact l1
set_option maxRecDepth 20000 in
theorem gX10_find_4 {xs : List Int} {d : Nat} {M : z_M} {P : Option z_V → z_L → z_M → Prop} {x1 : Int} {x2 : Int} (hF : z_fix M) 
    (l1 : ((M 321 40) ≤ x2) → P (some (0, x1)) z_LL M)
    (b1 : (¬ ((M 321 40) ≤ x2)) → 0 ≤ x2 ∧ x2 < 6)
    (l2 : (¬ ((M 321 40) ≤ x2)) → ((z_lcmp (M 323 x2) (M 321 9)) ≠ 0) → wp xs d mX10_find 4 [(2, 321), (0, x1), (0, (z_w (x2 + 1)))] [] z_LL M P)
    (l3 : (¬ ((M 321 40) ≤ x2)) → (¬ ((z_lcmp (M 323 x2) (M 321 9)) ≠ 0)) → wp xs d mX10_find 4 [(2, 321), (0, x2), (0, (z_w (x2 + 1)))] [] z_LL M P) :
    wp xs d mX10_find 4 [(2, 321), (0, x1), (0, x2)] [] z_LL M P := by
  refine wp_run 2 (pc' := 6) (ls' := [(2, 321), (0, x1), (0, x2)]) (st' := [(2, 321), (0, x2)]) rfl ?_
  refine wp_gf (pc' := 9) (t := 0) (v := (M 321 40)) rfl rfl (by decide) rfl rfl rfl ?_
  refine wp_if2 rfl rfl rfl (fun (c1 : (M 321 40) ≤ x2) => ?_) (fun (c1 : ¬ ((M 321 40) ≤ x2)) => ?_)
  · refine wp_run 1 (pc' := 39) (ls' := [(2, 321), (0, x1), (0, x2)]) (st' := [(0, x1)]) rfl ?_
    exact wp_ret rfl rfl (l1 c1)
  · refine wp_run 1 (pc' := 13) (ls' := [(2, 321), (0, x1), (0, x2)]) (st' := [(2, 321)]) rfl ?_
    refine wp_gf (pc' := 16) (t := 2) (v := 323) rfl rfl (by decide) rfl rfl (fx_321_10 hF) ?_
    refine wp_run 1 (pc' := 17) (ls' := [(2, 321), (0, x1), (0, x2)]) (st' := [(0, x2), (2, 323)]) rfl ?_
    refine wp_lald (pc' := 18) (v := (M 323 x2)) rfl rfl rfl (b1 c1) rfl ?_
    refine wp_run 1 (pc' := 19) (ls' := [(2, 321), (0, x1), (0, x2)]) (st' := [(2, 321), (1, (M 323 x2))]) rfl ?_
    refine wp_gf (pc' := 22) (t := 1) (v := (M 321 9)) rfl rfl (by decide) rfl rfl rfl ?_
    refine wp_run 1 (pc' := 23) (ls' := [(2, 321), (0, x1), (0, x2)]) (st' := [(0, (z_lcmp (M 323 x2) (M 321 9)))]) rfl ?_
    refine wp_if1 rfl rfl rfl (fun (c2 : (z_lcmp (M 323 x2) (M 321 9)) ≠ 0) => ?_) (fun (c2 : ¬ ((z_lcmp (M 323 x2) (M 321 9)) ≠ 0)) => ?_)
    · refine wp_run 4 (pc' := 4) (ls' := [(2, 321), (0, x1), (0, (z_w (x2 + 1)))]) (st' := []) rfl ?_
      exact l2 c1 c2
    · refine wp_run 5 (pc' := 4) (ls' := [(2, 321), (0, x2), (0, (z_w (x2 + 1)))]) (st' := []) rfl ?_
      exact l3 c1 c2
set_option maxRecDepth 20000 in
theorem gX10_oldFlock_0 {xs : List Int} {d : Nat} {M : z_M} {P : Option z_V → z_L → z_M → Prop} 
    (l1 : ((M 321 2) ≤ 0) → ((M 321 6 = 1 ∧ ¬ z_own (M 321 9))) → wp xs (d + 1) mX10_find 0 [(2, 321), (3, 0), (3, 0)] [] z_LL M (fun r L1 M1 => wp xs (d + 2) mX10_oldFlock 28 [(2, 321)] (z_ol r ++ []) L1 M1 P))
    (l2 : ((M 321 2) ≤ 0) → (¬ (M 321 6 = 1 ∧ ¬ z_own (M 321 9))) → wp xs (d + 1) mX10_wrong 0 [(2, 321), (0, 2)] [] z_LL M (fun r L1 M1 => wp xs (d + 2) mX10_oldFlock 21 [(2, 321)] (z_ol r ++ []) L1 M1 P))
    (l3 : (¬ ((M 321 2) ≤ 0)) → P (some (0, 0)) z_LL M) :
    wp xs (d + 2) mX10_oldFlock 0 [(2, 321)] [] z_LL M P := by
  refine wp_run 1 (pc' := 1) (ls' := [(2, 321)]) (st' := [(2, 321)]) rfl ?_
  refine wp_gf (pc' := 4) (t := 0) (v := (M 321 2)) rfl rfl (by decide) rfl rfl rfl ?_
  refine wp_if1 rfl rfl rfl (fun (c1 : (M 321 2) ≤ 0) => ?_) (fun (c1 : ¬ ((M 321 2) ≤ 0)) => ?_)
  · refine wp_run 1 (pc' := 10) (ls' := [(2, 321)]) (st' := [(2, 321)]) rfl ?_
    refine wp_callv (pc' := 13) (as := [(2, 321)]) (rest := []) (ls1 := [(2, 321)]) rfl rfl rfl rfl rfl rfl ?_
    refine s_X10_isName  ?_
    show wp xs _ mX10_oldFlock 13 [(2, 321)] [(0, (z_b (M 321 6 = 1 ∧ ¬ z_own (M 321 9))))] z_LL M _
    refine wp_bn rfl rfl rfl (fun (c2 : (M 321 6 = 1 ∧ ¬ z_own (M 321 9))) => ?_) (fun (c2 : ¬ (M 321 6 = 1 ∧ ¬ z_own (M 321 9))) => ?_)
    · refine wp_run 1 (pc' := 25) (ls' := [(2, 321)]) (st' := [(2, 321)]) rfl ?_
      refine wp_callv (pc' := 28) (as := [(2, 321)]) (rest := []) (ls1 := [(2, 321), (3, 0), (3, 0)]) rfl rfl rfl rfl rfl rfl ?_
      exact l1 c1 c2
    · refine wp_run 2 (pc' := 18) (ls' := [(2, 321)]) (st' := [(0, 2), (2, 321)]) rfl ?_
      refine wp_callv (pc' := 21) (as := [(2, 321), (0, 2)]) (rest := []) (ls1 := [(2, 321), (0, 2)]) rfl rfl rfl rfl rfl rfl ?_
      exact l2 c1 c2
  · refine wp_run 1 (pc' := 8) (ls' := [(2, 321)]) (st' := [(0, 0)]) rfl ?_
    exact wp_ret rfl rfl (l3 c1)
set_option maxRecDepth 20000 in
theorem gX10_oldFlock_21 {xs : List Int} {d : Nat} {M : z_M} {P : Option z_V → z_L → z_M → Prop} 
    (l1 : ((M 321 2) ≤ 0) → wp xs d mX10_find 0 [(2, 321), (3, 0), (3, 0)] [] z_LL M (fun r L1 M1 => wp xs (d + 1) mX10_oldFlock 51 [(2, 321)] (z_ol r ++ []) L1 M1 P))
    (l2 : (¬ ((M 321 2) ≤ 0)) → P (some (0, 0)) z_LL M) :
    wp xs (d + 1) mX10_oldFlock 21 [(2, 321)] [] z_LL M P := by
  refine wp_run 2 (pc' := 37) (ls' := [(2, 321)]) (st' := [(2, 321)]) rfl ?_
  refine wp_gf (pc' := 40) (t := 0) (v := (M 321 2)) rfl rfl (by decide) rfl rfl rfl ?_
  refine wp_if1 rfl rfl rfl (fun (c1 : (M 321 2) ≤ 0) => ?_) (fun (c1 : ¬ ((M 321 2) ≤ 0)) => ?_)
  · refine wp_run 1 (pc' := 48) (ls' := [(2, 321)]) (st' := [(2, 321)]) rfl ?_
    refine wp_callv (pc' := 51) (as := [(2, 321)]) (rest := []) (ls1 := [(2, 321), (3, 0), (3, 0)]) rfl rfl rfl rfl rfl rfl ?_
    exact l1 c1
  · refine wp_run 2 (pc' := 51) (ls' := [(2, 321)]) (st' := [(0, 0)]) rfl ?_
    exact wp_ret rfl rfl (l2 c1)
set_option maxRecDepth 20000 in
theorem gX10_oldFlock_28 {xs : List Int} {d : Nat} {M : z_M} {P : Option z_V → z_L → z_M → Prop} {s0 : Int} 
    (l1 : (0 ≤ s0) → ((M 321 2) ≤ 0) → wp xs d mX10_find 0 [(2, 321), (3, 0), (3, 0)] [] z_LL M (fun r L1 M1 => wp xs (d + 1) mX10_oldFlock 51 [(2, 321)] (z_ol r ++ []) L1 M1 P))
    (l2 : (0 ≤ s0) → (¬ ((M 321 2) ≤ 0)) → P (some (0, 0)) z_LL M)
    (l3 : (¬ (0 ≤ s0)) → wp xs d mX10_wrong 0 [(2, 321), (0, 5)] [] z_LL M (fun r L1 M1 => wp xs (d + 1) mX10_oldFlock 36 [(2, 321)] (z_ol r ++ []) L1 M1 P)) :
    wp xs (d + 1) mX10_oldFlock 28 [(2, 321)] [(0, s0)] z_LL M P := by
  refine wp_if1 rfl rfl rfl (fun (c1 : 0 ≤ s0) => ?_) (fun (c1 : ¬ (0 ≤ s0)) => ?_)
  · refine wp_run 1 (pc' := 37) (ls' := [(2, 321)]) (st' := [(2, 321)]) rfl ?_
    refine wp_gf (pc' := 40) (t := 0) (v := (M 321 2)) rfl rfl (by decide) rfl rfl rfl ?_
    refine wp_if1 rfl rfl rfl (fun (c2 : (M 321 2) ≤ 0) => ?_) (fun (c2 : ¬ ((M 321 2) ≤ 0)) => ?_)
    · refine wp_run 1 (pc' := 48) (ls' := [(2, 321)]) (st' := [(2, 321)]) rfl ?_
      refine wp_callv (pc' := 51) (as := [(2, 321)]) (rest := []) (ls1 := [(2, 321), (3, 0), (3, 0)]) rfl rfl rfl rfl rfl rfl ?_
      exact l1 c1 c2
    · refine wp_run 2 (pc' := 51) (ls' := [(2, 321)]) (st' := [(0, 0)]) rfl ?_
      exact wp_ret rfl rfl (l2 c1 c2)
  · refine wp_run 2 (pc' := 33) (ls' := [(2, 321)]) (st' := [(0, 5), (2, 321)]) rfl ?_
    refine wp_callv (pc' := 36) (as := [(2, 321), (0, 5)]) (rest := []) (ls1 := [(2, 321), (0, 5)]) rfl rfl rfl rfl rfl rfl ?_
    exact l3 c1
set_option maxRecDepth 20000 in
theorem gX10_oldFlock_36 {xs : List Int} {d : Nat} {M : z_M} {P : Option z_V → z_L → z_M → Prop} 
    (l1 : ((M 321 2) ≤ 0) → wp xs d mX10_find 0 [(2, 321), (3, 0), (3, 0)] [] z_LL M (fun r L1 M1 => wp xs (d + 1) mX10_oldFlock 51 [(2, 321)] (z_ol r ++ []) L1 M1 P))
    (l2 : (¬ ((M 321 2) ≤ 0)) → P (some (0, 0)) z_LL M) :
    wp xs (d + 1) mX10_oldFlock 36 [(2, 321)] [] z_LL M P := by
  refine wp_run 1 (pc' := 37) (ls' := [(2, 321)]) (st' := [(2, 321)]) rfl ?_
  refine wp_gf (pc' := 40) (t := 0) (v := (M 321 2)) rfl rfl (by decide) rfl rfl rfl ?_
  refine wp_if1 rfl rfl rfl (fun (c1 : (M 321 2) ≤ 0) => ?_) (fun (c1 : ¬ ((M 321 2) ≤ 0)) => ?_)
  · refine wp_run 1 (pc' := 48) (ls' := [(2, 321)]) (st' := [(2, 321)]) rfl ?_
    refine wp_callv (pc' := 51) (as := [(2, 321)]) (rest := []) (ls1 := [(2, 321), (3, 0), (3, 0)]) rfl rfl rfl rfl rfl rfl ?_
    exact l1 c1
  · refine wp_run 2 (pc' := 51) (ls' := [(2, 321)]) (st' := [(0, 0)]) rfl ?_
    exact wp_ret rfl rfl (l2 c1)
set_option maxRecDepth 20000 in
theorem gX10_oldFlock_51 {xs : List Int} {d : Nat} {M : z_M} {P : Option z_V → z_L → z_M → Prop} {s0 : Int} 
    (l1 : P (some (0, s0)) z_LL M) :
    wp xs d mX10_oldFlock 51 [(2, 321)] [(0, s0)] z_LL M P := by
  exact wp_ret rfl rfl (l1)
section
variable {xs : List Int} {d : Nat} {b : Int → Int} {n : Int} {M : z_M} {σ : zs_S}
theorem s_X10_wrong {P : Option z_V → z_L → z_M → Prop} {c : Int} (h : zs_m M b n σ) (hc : 0 < c) (k : ∀ M' : z_M, zs_h M M' → zs_m M' b n (zs_w b n c σ) → P none z_LL M') : wp xs d mX10_wrong 0 [(2, 321), (0, c)] [] z_LL M P := by
  cases σ with
  | error e =>
    have h2 : M 321 2 = e.1 := h.2.1.1
    have he : 0 < e.1 := h.2.2.1
    exact gX10_wrong_0 (fun w => by omega) (fun w => by omega) (fun _ => k M zs_h_r h)
  | ok p =>
    have h2 : M 321 2 = 0 := h.2.1.1
    have h6 := (h.2.2.2 p rfl).1
    have r := (zt_r_i (b := b) (n := n) (p := p)).2.2.2.1
    refine gX10_wrong_0 (fun _ w => ?_) (fun _ w => ?_) (fun w => by omega)
    · have := zs_m_w (v := c) h hc (by unfold zs_f; rw [if_neg (by omega)])
      exact k _ this.2 this.1
    · have := zs_m_w (v := 1) h hc (by unfold zs_f; rw [if_pos (by omega)])
      exact k _ this.2 this.1
theorem s_X10_next {P : Option z_V → z_L → z_M → Prop} {p : Int} (hF : z_fix M) (h : zs_m M b n (.ok p)) (h27 : zt_k b n p ≠ 27) (k : ∀ M' : z_M, zs_h M M' → zs_m M' b n (.ok (zt_x b n p)) → P none z_LL M') : wp xs (d + 1) mX10_token 0 [(2, 321), (3, 0), (3, 0)] [] z_LL M P := by
  obtain ⟨h1, h2, h3, h4⟩ := h
  have h3 : 0 ≤ p ∧ p ≤ n := h3
  have h4 := h4 p rfl
  have xb := zt_x_b (b := b) h3
  have sb := zt_s_b (b := b) h3
  have e4 := h4.2.2.1
  rw [if_neg h27] at e4
  refine s_X10_token (d := d) hF h1 e4 (by omega) (fun M' f t => k M' (zs_h_a f) ⟨zt_a_t f h1, by rw [f.2 2 (by unfold zt_j; omega), f.2 3 (by unfold zt_j; omega)]; exact h2, by show 0 ≤ zt_x b n p ∧ zt_x b n p ≤ n; omega, fun q w => by cases w; exact t⟩)
theorem s_X10_want {P : Option z_V → z_L → z_M → Prop} {i : Nat} {w : Int} (hF : z_fix M) (hi : i < 24) (hw : z_own8.getD i 0 = w) (h : zs_m M b n σ) (k : ∀ M' : z_M, zs_h M M' → zs_m M' b n (zs_nd b n i σ) → P none z_LL M') : wp xs (d + 2) mX10_want 0 [(2, 321), (1, w), (3, 0)] [] z_LL M P := by
  cases σ with
  | error e =>
    have h2 : M 321 2 = e.1 := h.2.1.1
    have he : 0 < e.1 := h.2.2.1
    exact gX10_want_0 (d := d + 1) (fun w => by omega) (fun w => by omega) (fun _ => k M zs_h_r h)
  | ok p =>
    have h2 : M 321 2 = 0 := h.2.1.1
    have hp : 0 ≤ p ∧ p ≤ n := h.2.2.1
    have ww := zt_m_w (h.2.2.2 p rfl) hp hi
    rw [hw] at ww
    refine gX10_want_0 (d := d + 1) (fun _ c => ?_) (fun _ c => ?_) (fun w => by omega)
    · have c := ww.mp c
      refine s_X10_next (d := d) hF h (by omega) (fun M' f t => gX10_want_28 (k M' f ?_))
      show zs_m M' b n (if zt_k b n p = i then _ else _)
      rw [if_pos c]
      exact t
    · refine s_X10_wrong h (by decide) (fun M' f t => gX10_want_21 (k M' f ?_))
      show zs_m M' b n (if zt_k b n p = i then _ else _)
      rw [if_neg (fun q => c (ww.mpr q))]
      exact t
theorem s_X10_toldNumber {P : Option z_V → z_L → z_M → Prop} {lo hi : Int} (hF : z_fix M) (h : zs_m M b n σ) (k : ∀ (v : Int) (M' : z_M), zs_h M M' → zs_m M' b n (zs_nm b n lo hi σ) → (∀ p', zs_nm b n lo hi σ = .ok p' → v = zs_v b n σ) → P (some (0, v)) z_LL M') : wp xs (d + 2) mX10_toldNumber 0 [(2, 321), (0, lo), (0, hi), (3, 0)] [] z_LL M P := by
  cases σ with
  | error e =>
    have h2 : M 321 2 = e.1 := h.2.1.1
    have he : 0 < e.1 := h.2.2.1
    have kk := k 0 M zs_h_r h (fun p' w => by cases w)
    exact gX10_toldNumber_0 (d := d + 1) (fun w => by omega) (fun w => by omega) (fun w => by omega) (fun w => by omega) (fun w => by omega) (fun _ => kk)
  | ok p =>
    have h2 : M 321 2 = 0 := h.2.1.1
    have hp : 0 ≤ p ∧ p ≤ n := h.2.2.1
    have hm := h.2.2.2 p rfl
    have r := (zt_r_i (b := b) (n := n) (p := p)).2.1
    rw [← hm.1] at r
    by_cases c : zt_k b n p = 25
    · have h8 := hm.2.2.2.1 c
      have bad : ¬ (lo ≤ zt_v b n p ∧ zt_v b n p ≤ hi) → wp xs (d + 1) mX10_wrong 0 [(2, 321), (0, 4)] [] z_LL M (fun r L1 M1 => wp xs (d + 1 + 1) mX10_toldNumber 46 [(2, 321), (0, lo), (0, hi), (3, 0)] (z_ol r ++ []) L1 M1 P) := fun w => by
        refine s_X10_wrong h (by decide) (fun M' f t => ?_)
        have e : zs_nm b n lo hi (.ok p) = .error (zs_f b n p 4) := by
          show (if zt_k b n p = 25 then _ else _) = _
          rw [if_pos c, if_neg w]
          unfold zs_f
          rw [if_neg (by omega)]
        have t2 : M' 321 2 = (zs_f b n p 4).1 := t.2.1.1
        have t3 := zs_f_p (b := b) (n := n) (p := p) (c := 4) (by decide)
        rw [e] at k
        exact gX10_toldNumber_46 (d := d + 1) (fun _ => k _ M' f t (fun p' w => by cases w)) (fun w => absurd (by omega) w)
      refine gX10_toldNumber_0 (d := d + 1) (fun _ _ w => bad (by omega)) (fun _ _ _ _ w => absurd h2 w) (fun _ _ c2 c3 _ => ?_) (fun _ _ c2 c3 => bad (by omega)) (fun _ w => absurd (r.mpr c) w) (fun w => by omega)
      refine s_X10_next (d := d) hF h (by omega) (fun M' f t => gX10_toldNumber_62 ?_)
      have e : zs_nm b n lo hi (.ok p) = .ok (zt_x b n p) := by
        show (if zt_k b n p = 25 then _ else _) = _
        rw [if_pos c, if_pos (by omega)]
      rw [e] at k
      exact k _ M' f t (fun p' _ => h8)
    · have hn : ¬ M 321 6 = 2 := fun w => c (r.mp w)
      refine gX10_toldNumber_0 (d := d + 1) (fun _ w => absurd w hn) (fun _ w => absurd w hn) (fun _ w => absurd w hn) (fun _ w => absurd w hn) (fun _ _ => ?_) (fun w => by omega)
      refine s_X10_wrong h (by decide) (fun M' f t => ?_)
      have e : zs_nm b n lo hi (.ok p) = .error (zs_f b n p 2) := by
        show (if zt_k b n p = 25 then _ else _) = _
        rw [if_neg c]
      have t2 : M' 321 2 = (zs_f b n p 2).1 := t.2.1.1
      have t3 := zs_f_p (b := b) (n := n) (p := p) (c := 2) (by decide)
      rw [e] at k
      exact gX10_toldNumber_22 (d := d + 1) (fun _ => k _ M' f t (fun p' w => by cases w)) (fun w => absurd (by omega) w)
theorem s_X10_told {P : Option z_V → z_L → z_M → Prop} {i : Nat} {w lo hi : Int} (hF : z_fix M) (hi' : i < 24) (hw : z_own8.getD i 0 = w) (h : zs_m M b n σ) (k : ∀ (v : Int) (M' : z_M), zs_h M M' → zs_m M' b n (zs_nm b n lo hi (zs_nd b n i σ)) → (∀ p', zs_nm b n lo hi (zs_nd b n i σ) = .ok p' → v = zs_v b n (zs_nd b n i σ)) → P (some (0, v)) z_LL M') : wp xs (d + 3) mX10_told 0 [(2, 321), (1, w), (3, 0), (0, lo), (0, hi)] [] z_LL M P := by
  refine gX10_told_0 (d := d + 2) (s_X10_want (d := d) hF hi' hw h (fun M1 f1 t1 => ?_))
  refine gX10_told_5 (d := d + 2) (s_X10_toldNumber (d := d) (zs_h_F f1 hF) t1 (fun v M2 f2 t2 e2 => gX10_told_12 ?_))
  exact k v M2 (zs_h_t f1 f2) t2 e2
theorem s_X10_find {P : Option z_V → z_L → z_M → Prop} {c : Nat} (hF : z_fix M) (h : M 321 40 = (c : Int)) (h6 : c ≤ 6) (k : P (some (0, zn_f (M 323) (M 321 9) c)) z_LL M) : wp xs d mX10_find 0 [(2, 321), (3, 0), (3, 0)] [] z_LL M P := by
  refine gX10_find_0 ?_
  refine z_loop (W := fun i => wp xs d mX10_find 4 [(2, 321), (0, zn_f (M 323) (M 321 9) i), (0, (i : Int))] [] z_LL M P) c (fun i hi ih => ?_)
  have g := gX10_find_4 (M := M) (xs := xs) (d := d) (P := P) (x1 := zn_f (M 323) (M 321 9) i) (x2 := (i : Int)) hF
  rw [h, z_in1 (i := i) (by omega)] at g
  refine g (fun w => ?_) (fun _ => by omega) (fun w c2 => ?_) (fun w c2 => ?_)
  · obtain rfl : i = c := by omega
    exact k
  · have ih := ih (by omega)
    rw [zn_f, if_neg (fun q => c2 (z_lc0.mpr q))] at ih
    exact ih
  · have ih := ih (by omega)
    rw [zn_f, if_pos (z_lc0.mp (Classical.byContradiction c2))] at ih
    exact ih
theorem s_X10_oldFlock {P : Option z_V → z_L → z_M → Prop} {c : Nat} (hF : z_fix M) (hc : M 321 40 = (c : Int)) (h6 : c ≤ 6) (h : zs_m M b n σ) (k : ∀ (v : Int) (M' : z_M), zs_h M M' → zs_m M' b n (zs_od b n (M 323) c σ) → (∀ p', zs_od b n (M 323) c σ = .ok p' → v = zs_on b n (M 323) c σ) → (∀ e, zs_od b n (M 323) c σ = .error e → v = 0) → P (some (0, v)) z_LL M') : wp xs (d + 2) mX10_oldFlock 0 [(2, 321)] [] z_LL M P := by
  cases σ with
  | error e =>
    have h2 : M 321 2 = e.1 := h.2.1.1
    have he : 0 < e.1 := h.2.2.1
    have kk := k 0 M zs_h_r h (fun p' w => by cases w) (fun _ _ => rfl)
    exact gX10_oldFlock_0 (d := d) (fun w => by omega) (fun w => by omega) (fun _ => kk)
  | ok p =>
    have h2 : M 321 2 = 0 := h.2.1.1
    have hp : 0 ≤ p ∧ p ≤ n := h.2.2.1
    have hm := h.2.2.2 p rfl
    have ww := zt_m_n hm hp
    refine gX10_oldFlock_0 (d := d) (fun _ w => ?_) (fun _ w => ?_) (fun w => by omega)
    · have c24 := ww.mp w
      have e9 := hm.2.2.2.2 (by omega)
      have zb := zn_f_b (N := M 323) (x := z_c8 (zt_l b n p)) c
      refine s_X10_find (d := d + 1) hF hc h6 ?_
      rw [e9]
      refine gX10_oldFlock_28 (d := d + 1) (fun w2 _ => ?_) (fun _ w => by omega) (fun w2 => ?_)
      · refine s_X10_find (d := d + 1) hF hc h6 ?_
        rw [e9]
        have e : zs_od b n (M 323) c (.ok p) = .ok p := by
          show (if zt_k b n p = 24 then _ else _) = _
          rw [if_pos c24, if_neg (by omega)]
        rw [e] at k
        exact gX10_oldFlock_51 (k _ M zs_h_r h (fun p' _ => rfl) (fun e w => by cases w))
      · refine s_X10_wrong h (by decide) (fun M' f t => ?_)
        have e : zs_od b n (M 323) c (.ok p) = .error (zs_f b n p 5) := by
          show (if zt_k b n p = 24 then _ else _) = _
          rw [if_pos c24, if_pos (by omega)]
          unfold zs_f
          rw [if_neg (by omega)]
        have t2 : M' 321 2 = (zs_f b n p 5).1 := t.2.1.1
        have t3 := zs_f_p (b := b) (n := n) (p := p) (c := 5) (by decide)
        rw [e] at k
        exact gX10_oldFlock_36 (d := d + 1) (fun w => by omega) (fun _ => k _ M' f t (fun p' w => by cases w) (fun _ _ => rfl))
    · refine s_X10_wrong h (by decide) (fun M' f t => ?_)
      have e : zs_od b n (M 323) c (.ok p) = .error (zs_f b n p 2) := by
        show (if zt_k b n p = 24 then _ else _) = _
        rw [if_neg (fun q => w (ww.mpr q))]
      have t2 : M' 321 2 = (zs_f b n p 2).1 := t.2.1.1
      have t3 := zs_f_p (b := b) (n := n) (p := p) (c := 2) (by decide)
      rw [e] at k
      exact gX10_oldFlock_21 (d := d + 1) (fun w => by omega) (fun _ => k _ M' f t (fun p' w => by cases w) (fun _ _ => rfl))
end
