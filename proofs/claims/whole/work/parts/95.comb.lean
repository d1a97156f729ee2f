/-! STEPS OF READING: what both do alike -/
abbrev zs_S : Type := Except (Int × Int) Int
def zs_e (σ : zs_S) : Int := match σ with
  | .ok _ => 0
  | .error e => e.1
def zs_l (σ : zs_S) : Int := match σ with
  | .ok _ => -1
  | .error e => e.2
noncomputable def zs_f (b : Int → Int) (n p c : Int) : Int × Int := (if zt_k b n p = 27 then 1 else c, zt_s b n p)
/-- a fault here -/
noncomputable def zs_w (b : Int → Int) (n c : Int) (σ : zs_S) : zs_S := match σ with
  | .ok p => .error (zs_f b n p c)
  | .error e => .error e
/-- such a token -/
noncomputable def zs_nd (b : Int → Int) (n k : Int) (σ : zs_S) : zs_S := match σ with
  | .ok p => if zt_k b n p = k then .ok (zt_x b n p) else .error (zs_f b n p 2)
  | .error e => .error e
/-- a number -/
noncomputable def zs_nm (b : Int → Int) (n lo hi : Int) (σ : zs_S) : zs_S := match σ with
  | .ok p => if zt_k b n p = 25 then (if lo ≤ zt_v b n p ∧ zt_v b n p ≤ hi then .ok (zt_x b n p) else .error (4, zt_s b n p)) else .error (zs_f b n p 2)
  | .error e => .error e
def zs_v (b : Int → Int) (n : Int) (σ : zs_S) : Int := match σ with
  | .ok p => zt_v b n p
  | .error _ => 0
def zn_f (N : Int → Int) (x : Int) : Nat → Int
  | 0 => -1
  | k + 1 => if N k = x then (k : Int) else zn_f N x k
/-- a name that is told already -/
noncomputable def zs_od (b : Int → Int) (n : Int) (N : Int → Int) (c : Nat) (σ : zs_S) : zs_S := match σ with
  | .ok p => if zt_k b n p = 24 then (if zn_f N (z_c8 (zt_l b n p)) c < 0 then .error (5, zt_s b n p) else .ok p) else .error (zs_f b n p 2)
  | .error e => .error e
def zs_on (b : Int → Int) (n : Int) (N : Int → Int) (c : Nat) (σ : zs_S) : Int := match σ with
  | .ok p => zn_f N (z_c8 (zt_l b n p)) c
  | .error _ => -1
/-- where it stands -/
def zs_at (n : Int) (σ : zs_S) : Prop := match σ with
  | .ok p => 0 ≤ p ∧ p ≤ n
  | .error e => 0 < e.1
/-- the class's reader -/
def zs_c (M : z_M) (b : Int → Int) (n : Int) (σ : zs_S) : Prop := zt_t M b n ∧ (M 33 1 = zs_e σ ∧ M 33 2 = zs_l σ) ∧ zs_at n σ ∧ ∃ p, (0 ≤ p ∧ p ≤ n) ∧ zt_c M b n p ∧ ∀ q, σ = .ok q → q = p
def zs_g (M M' : z_M) : Prop := (∀ q, q ≠ 30 → q ≠ 33 → M' q = M q) ∧ (∀ j, ¬ (3 ≤ j ∧ j ≤ 7) → M' 30 j = M 30 j) ∧ ∀ j, j ≠ 1 → j ≠ 2 → M' 33 j = M 33 j
/-- the model's -/
def zs_m (M : z_M) (b : Int → Int) (n : Int) (σ : zs_S) : Prop := zt_u M b n ∧ (M 321 2 = zs_e σ ∧ M 321 3 = zs_l σ) ∧ zs_at n σ ∧ ∀ p, σ = .ok p → zt_m M b n p
def zs_j (j : Int) : Prop := (2 ≤ j ∧ j ≤ 4) ∨ (6 ≤ j ∧ j ≤ 9)
def zs_h (M M' : z_M) : Prop := (∀ q, q ≠ 321 → M' q = M q) ∧ ∀ j, ¬ zs_j j → M' 321 j = M 321 j
section
variable {b : Int → Int} {n : Int} {M M' : z_M} {σ : zs_S}
theorem zs_g_r : zs_g M M := ⟨fun _ _ _ => rfl, fun _ _ => rfl, fun _ _ _ => rfl⟩
theorem zs_g_t {M1 M2 : z_M} (f : zs_g M M1) (g : zs_g M1 M2) : zs_g M M2 := ⟨fun q a c => by rw [g.1 q a c, f.1 q a c], fun j a => by rw [g.2.1 j a, f.2.1 j a], fun j a c => by rw [g.2.2 j a c, f.2.2 j a c]⟩
theorem zs_g_F (f : zs_g M M') (hF : z_fix M) : z_fix M' := z_fix_gen hF (fun q i hq => by
  by_cases e : q = 30
  · rw [e] at hq ⊢
    exact f.2.1 i (by unfold z_fin at hq; omega)
  · by_cases e2 : q = 33
    · rw [e2] at hq ⊢
      exact f.2.2 i (by unfold z_fin at hq; omega) (by unfold z_fin at hq; omega)
    · rw [f.1 q e e2])
theorem zs_h_r : zs_h M M := ⟨fun _ _ => rfl, fun _ _ => rfl⟩
theorem zs_h_t {M1 M2 : z_M} (f : zs_h M M1) (g : zs_h M1 M2) : zs_h M M2 := ⟨fun q a => by rw [g.1 q a, f.1 q a], fun j a => by rw [g.2 j a, f.2 j a]⟩
theorem zs_h_F (f : zs_h M M') (hF : z_fix M) : z_fix M' := z_fix_gen hF (fun q i hq => by
  by_cases e : q = 321
  · rw [e] at hq ⊢
    exact f.2 i (by unfold z_fin at hq; unfold zs_j; omega)
  · rw [f.1 q e])
theorem zs_h_a (f : zt_a M M') : zs_h M M' := ⟨f.1, fun j a => f.2 j (fun w => a (by unfold zt_j at w; unfold zs_j; omega))⟩
theorem zs_f_p {p c : Int} (hc : 0 < c) : 0 < (zs_f b n p c).1 := by
  unfold zs_f
  dsimp only
  split <;> omega
theorem zs_at_w {c : Int} (hc : 0 < c) (h : zs_at n σ) : zs_at n (zs_w b n c σ) := by
  cases σ with
  | ok p => exact zs_f_p hc
  | error e => exact h
theorem zs_at_nd {k : Int} (hk : k ≠ 26) (h : zs_at n σ) : zs_at n (zs_nd b n k σ) := by
  cases σ with
  | ok p =>
    show zs_at n (if zt_k b n p = k then _ else _)
    split
    · have h : 0 ≤ p ∧ p ≤ n := h
      have := zt_x_b (b := b) h
      have := zt_s_b (b := b) h
      show 0 ≤ zt_x b n p ∧ zt_x b n p ≤ n
      omega
    · exact zs_f_p (by omega)
  | error e => exact h
theorem zs_at_nm {lo hi : Int} (h : zs_at n σ) : zs_at n (zs_nm b n lo hi σ) := by
  cases σ with
  | ok p =>
    show zs_at n (if zt_k b n p = 25 then _ else _)
    split
    · split
      · have h : 0 ≤ p ∧ p ≤ n := h
        have := zt_x_b (b := b) h
        have := zt_s_b (b := b) h
        show 0 ≤ zt_x b n p ∧ zt_x b n p ≤ n
        omega
      · show (0 : Int) < 4
        omega
    · exact zs_f_p (by omega)
  | error e => exact h
theorem zs_at_od {N : Int → Int} {c : Nat} (h : zs_at n σ) : zs_at n (zs_od b n N c σ) := by
  cases σ with
  | ok p =>
    show zs_at n (if zt_k b n p = 24 then _ else _)
    split
    · split
      · show (0 : Int) < 5
        omega
      · exact h
    · exact zs_f_p (by omega)
  | error e => exact h
theorem zn_f_b {N : Int → Int} {x : Int} : ∀ c : Nat, -1 ≤ zn_f N x c ∧ zn_f N x c < c ∧ (0 ≤ zn_f N x c → N (zn_f N x c) = x) ∧ (zn_f N x c < 0 → ∀ k : Nat, k < c → N k ≠ x)
  | 0 => by
    unfold zn_f
    exact ⟨by decide, by decide, fun h => absurd h (by decide), fun _ k h => absurd h (by omega)⟩
  | c + 1 => by
    have ih := zn_f_b (N := N) (x := x) c
    unfold zn_f
    by_cases h : N c = x
    · rw [if_pos h]
      exact ⟨by omega, by omega, fun _ => h, fun w => by omega⟩
    · rw [if_neg h]
      refine ⟨ih.1, by omega, ih.2.2.1, fun w k hk => ?_⟩
      by_cases e : k = c
      · rw [e]
        exact h
      · exact ih.2.2.2 w k (by omega)
/-- the class's fault -/
theorem zs_c_w {p c v : Int} (h : zs_c M b n (.ok p)) (hc : 0 < c) (hv : v = (zs_f b n p c).1) : zs_c (z_up (z_up M 33 1 v) 33 2 (M 30 4)) b n (.error (zs_f b n p c)) ∧ zs_g M (z_up (z_up M 33 1 v) 33 2 (M 30 4)) := by
  obtain ⟨h1, h2, h3, p', h4, h5, h6⟩ := h
  obtain rfl : p = p' := h6 p rfl
  have o : ∀ q, q ≠ 33 → z_up (z_up M 33 1 v) 33 2 (M 30 4) q = M q := fun q a => by rw [z_upn a, z_upn a]
  refine ⟨⟨?_, ⟨by rw [z_upi (by decide) rfl, z_ups]; exact hv, by rw [z_ups]; exact h5.2.1⟩, zs_f_p hc, p, h4, ?_, fun q w => by cases w⟩, fun q a c => o q c, fun j a => by rw [o 30 (by decide)], fun j a c => by rw [z_upi c rfl, z_upi a rfl]⟩
  · unfold zt_t at h1 ⊢
    rw [o 30 (by decide), o 31 (by decide), o 32 (by decide)]
    exact h1
  · unfold zt_c at h5 ⊢
    rw [o 30 (by decide)]
    exact h5
end
set_option maxRecDepth 20000 in
theorem gX5_fail_0 {xs : List Int} {d : Nat} {M : z_M} {P : Option z_V → z_L → z_M → Prop} {a1 : Int} (hF : z_fix M) 
    (l1 : ((M 33 1) ≠ 0) → P none z_LL M)
    (l2 : (¬ ((M 33 1) ≠ 0)) → ((M 30 3) ≠ 27) → P none z_LL (z_up (z_up M 33 1 a1) 33 2 (M 30 4)))
    (l3 : (¬ ((M 33 1) ≠ 0)) → (¬ ((M 30 3) ≠ 27)) → P none z_LL (z_up (z_up M 33 1 1) 33 2 (M 30 4))) :
    wp xs (d + 1) mX5_fail 0 [(2, 33), (0, a1)] [] z_LL M P := by
  refine wp_run 1 (pc' := 1) (ls' := [(2, 33), (0, a1)]) (st' := [(2, 33)]) rfl ?_
  refine wp_callv (pc' := 4) (as := [(2, 33)]) (rest := []) (ls1 := [(2, 33)]) rfl rfl rfl rfl rfl rfl ?_
  refine wp_run 1 (pc' := 1) (ls' := [(2, 33)]) (st' := [(2, 33)]) rfl ?_
  refine wp_gf (pc' := 4) (t := 0) (v := (M 33 1)) rfl rfl (by decide) rfl rfl rfl ?_
  refine wp_if1 rfl rfl rfl (fun (c1 : (M 33 1) ≠ 0) => ?_) (fun (c1 : ¬ ((M 33 1) ≠ 0)) => ?_)
  · refine wp_run 1 (pc' := 12) (ls' := [(2, 33)]) (st' := [(0, 0)]) rfl ?_
    refine wp_ret rfl rfl ?_
    show wp xs _ mX5_fail 4 [(2, 33), (0, a1)] [(0, 0)] z_LL M _
    refine wp_run 1 (pc' := 39) (ls' := [(2, 33), (0, a1)]) (st' := []) rfl ?_
    exact wp_ret rfl rfl (l1 c1)
  · refine wp_run 2 (pc' := 12) (ls' := [(2, 33)]) (st' := [(0, 1)]) rfl ?_
    refine wp_ret rfl rfl ?_
    show wp xs _ mX5_fail 4 [(2, 33), (0, a1)] [(0, 1)] z_LL M _
    refine wp_run 3 (pc' := 9) (ls' := [(2, 33), (0, a1)]) (st' := [(2, 33), (2, 33)]) rfl ?_
    refine wp_gf (pc' := 12) (t := 2) (v := 30) rfl rfl (by decide) rfl rfl (fx_33_0 hF) ?_
    refine wp_gf (pc' := 15) (t := 0) (v := (M 30 3)) rfl rfl (by decide) rfl rfl rfl ?_
    refine wp_run 1 (pc' := 17) (ls' := [(2, 33), (0, a1)]) (st' := [(0, 27), (0, (M 30 3)), (2, 33)]) rfl ?_
    refine wp_if2 rfl rfl rfl (fun (c2 : (M 30 3) ≠ 27) => ?_) (fun (c2 : ¬ ((M 30 3) ≠ 27)) => ?_)
    · refine wp_run 1 (pc' := 25) (ls' := [(2, 33), (0, a1)]) (st' := [(0, a1), (2, 33)]) rfl ?_
      refine wp_pf (pc' := 28) rfl rfl rfl rfl (fun z => absurd z (by decide)) (fun z => absurd z (by decide)) ?_
      refine wp_run 2 (pc' := 30) (ls' := [(2, 33), (0, a1)]) (st' := [(2, 33), (2, 33)]) rfl ?_
      refine wp_gf (pc' := 33) (t := 2) (v := 30) rfl rfl (by decide) rfl rfl (z_upi (by decide) (fx_33_0 hF)) ?_
      refine wp_gf (pc' := 36) (t := 0) (v := (M 30 4)) rfl rfl (by decide) rfl rfl (z_upq (by decide) rfl) ?_
      refine wp_pf (pc' := 39) rfl rfl rfl rfl (fun z => absurd z (by decide)) (fun z => absurd z (by decide)) ?_
      exact wp_ret rfl rfl (l2 c1 c2)
    · refine wp_run 2 (pc' := 25) (ls' := [(2, 33), (0, a1)]) (st' := [(0, 1), (2, 33)]) rfl ?_
      refine wp_pf (pc' := 28) rfl rfl rfl rfl (fun z => absurd z (by decide)) (fun z => absurd z (by decide)) ?_
      refine wp_run 2 (pc' := 30) (ls' := [(2, 33), (0, a1)]) (st' := [(2, 33), (2, 33)]) rfl ?_
      refine wp_gf (pc' := 33) (t := 2) (v := 30) rfl rfl (by decide) rfl rfl (z_upi (by decide) (fx_33_0 hF)) ?_
      refine wp_gf (pc' := 36) (t := 0) (v := (M 30 4)) rfl rfl (by decide) rfl rfl (z_upq (by decide) rfl) ?_
      refine wp_pf (pc' := 39) rfl rfl rfl rfl (fun z => absurd z (by decide)) (fun z => absurd z (by decide)) ?_
      exact wp_ret rfl rfl (l3 c1 c2)
set_option maxRecDepth 20000 in
theorem gX5_need_0 {xs : List Int} {d : Nat} {M : z_M} {P : Option z_V → z_L → z_M → Prop} {a1 : Int} (hF : z_fix M) 
    (l1 : ((M 30 3) = a1) → ((M 33 1) ≠ 0) → P none z_LL M)
    (l2 : ((M 30 3) = a1) → (¬ ((M 33 1) ≠ 0)) → wp xs (d + 1) mX7_step 0 [(2, 30)] [] z_LL M (fun r L1 M1 => wp xs (d + 2) mX5_need 30 [(2, 33), (0, a1)] (z_ol r ++ []) L1 M1 P))
    (l3 : (¬ ((M 30 3) = a1)) → ((M 33 1) ≠ 0) → ((M 33 1) ≠ 0) → P none z_LL M)
    (l4 : (¬ ((M 30 3) = a1)) → ((M 33 1) ≠ 0) → (¬ ((M 33 1) ≠ 0)) → wp xs (d + 1) mX7_step 0 [(2, 30)] [] z_LL M (fun r L1 M1 => wp xs (d + 2) mX5_need 30 [(2, 33), (0, a1)] (z_ol r ++ []) L1 M1 P))
    (l5 : (¬ ((M 30 3) = a1)) → (¬ ((M 33 1) ≠ 0)) → ((M 30 3) ≠ 27) → P none z_LL (z_up (z_up M 33 1 2) 33 2 (M 30 4)))
    (l6 : (¬ ((M 30 3) = a1)) → (¬ ((M 33 1) ≠ 0)) → (¬ ((M 30 3) ≠ 27)) → P none z_LL (z_up (z_up M 33 1 1) 33 2 (M 30 4))) :
    wp xs (d + 2) mX5_need 0 [(2, 33), (0, a1)] [] z_LL M P := by
  refine wp_run 1 (pc' := 1) (ls' := [(2, 33), (0, a1)]) (st' := [(2, 33)]) rfl ?_
  refine wp_gf (pc' := 4) (t := 2) (v := 30) rfl rfl (by decide) rfl rfl (fx_33_0 hF) ?_
  refine wp_gf (pc' := 7) (t := 0) (v := (M 30 3)) rfl rfl (by decide) rfl rfl rfl ?_
  refine wp_run 1 (pc' := 8) (ls' := [(2, 33), (0, a1)]) (st' := [(0, a1), (0, (M 30 3))]) rfl ?_
  refine wp_if2 rfl rfl rfl (fun (c1 : (M 30 3) = a1) => ?_) (fun (c1 : ¬ ((M 30 3) = a1)) => ?_)
  · refine wp_run 1 (pc' := 17) (ls' := [(2, 33), (0, a1)]) (st' := [(2, 33)]) rfl ?_
    refine wp_callv (pc' := 20) (as := [(2, 33)]) (rest := []) (ls1 := [(2, 33)]) rfl rfl rfl rfl rfl rfl ?_
    refine wp_run 1 (pc' := 1) (ls' := [(2, 33)]) (st' := [(2, 33)]) rfl ?_
    refine wp_gf (pc' := 4) (t := 0) (v := (M 33 1)) rfl rfl (by decide) rfl rfl rfl ?_
    refine wp_if1 rfl rfl rfl (fun (c2 : (M 33 1) ≠ 0) => ?_) (fun (c2 : ¬ ((M 33 1) ≠ 0)) => ?_)
    · refine wp_run 1 (pc' := 12) (ls' := [(2, 33)]) (st' := [(0, 0)]) rfl ?_
      refine wp_ret rfl rfl ?_
      show wp xs _ mX5_need 20 [(2, 33), (0, a1)] [(0, 0)] z_LL M _
      refine wp_run 1 (pc' := 30) (ls' := [(2, 33), (0, a1)]) (st' := []) rfl ?_
      exact wp_ret rfl rfl (l1 c1 c2)
    · refine wp_run 2 (pc' := 12) (ls' := [(2, 33)]) (st' := [(0, 1)]) rfl ?_
      refine wp_ret rfl rfl ?_
      show wp xs _ mX5_need 20 [(2, 33), (0, a1)] [(0, 1)] z_LL M _
      refine wp_run 2 (pc' := 24) (ls' := [(2, 33), (0, a1)]) (st' := [(2, 33)]) rfl ?_
      refine wp_gf (pc' := 27) (t := 2) (v := 30) rfl rfl (by decide) rfl rfl (fx_33_0 hF) ?_
      refine wp_callv (pc' := 30) (as := [(2, 30)]) (rest := []) (ls1 := [(2, 30)]) rfl rfl rfl rfl rfl rfl ?_
      exact l2 c1 c2
  · refine wp_run 2 (pc' := 13) (ls' := [(2, 33), (0, a1)]) (st' := [(0, 2), (2, 33)]) rfl ?_
    refine wp_callv (pc' := 16) (as := [(2, 33), (0, 2)]) (rest := []) (ls1 := [(2, 33), (0, 2)]) rfl rfl rfl rfl rfl rfl ?_
    refine wp_run 1 (pc' := 1) (ls' := [(2, 33), (0, 2)]) (st' := [(2, 33)]) rfl ?_
    refine wp_callv (pc' := 4) (as := [(2, 33)]) (rest := []) (ls1 := [(2, 33)]) rfl rfl rfl rfl rfl rfl ?_
    refine wp_run 1 (pc' := 1) (ls' := [(2, 33)]) (st' := [(2, 33)]) rfl ?_
    refine wp_gf (pc' := 4) (t := 0) (v := (M 33 1)) rfl rfl (by decide) rfl rfl rfl ?_
    refine wp_if1 rfl rfl rfl (fun (c3 : (M 33 1) ≠ 0) => ?_) (fun (c3 : ¬ ((M 33 1) ≠ 0)) => ?_)
    · refine wp_run 1 (pc' := 12) (ls' := [(2, 33)]) (st' := [(0, 0)]) rfl ?_
      refine wp_ret rfl rfl ?_
      show wp xs _ mX5_fail 4 [(2, 33), (0, 2)] [(0, 0)] z_LL M _
      refine wp_run 1 (pc' := 39) (ls' := [(2, 33), (0, 2)]) (st' := []) rfl ?_
      refine wp_ret rfl rfl ?_
      show wp xs _ mX5_need 16 [(2, 33), (0, a1)] [] z_LL M _
      refine wp_run 1 (pc' := 17) (ls' := [(2, 33), (0, a1)]) (st' := [(2, 33)]) rfl ?_
      refine wp_callv (pc' := 20) (as := [(2, 33)]) (rest := []) (ls1 := [(2, 33)]) rfl rfl rfl rfl rfl rfl ?_
      refine wp_run 1 (pc' := 1) (ls' := [(2, 33)]) (st' := [(2, 33)]) rfl ?_
      refine wp_gf (pc' := 4) (t := 0) (v := (M 33 1)) rfl rfl (by decide) rfl rfl rfl ?_
      refine wp_if1 rfl rfl rfl (fun (c4 : (M 33 1) ≠ 0) => ?_) (fun (c4 : ¬ ((M 33 1) ≠ 0)) => ?_)
      · refine wp_run 1 (pc' := 12) (ls' := [(2, 33)]) (st' := [(0, 0)]) rfl ?_
        refine wp_ret rfl rfl ?_
        show wp xs _ mX5_need 20 [(2, 33), (0, a1)] [(0, 0)] z_LL M _
        refine wp_run 1 (pc' := 30) (ls' := [(2, 33), (0, a1)]) (st' := []) rfl ?_
        exact wp_ret rfl rfl (l3 c1 c3 c4)
      · refine wp_run 2 (pc' := 12) (ls' := [(2, 33)]) (st' := [(0, 1)]) rfl ?_
        refine wp_ret rfl rfl ?_
        show wp xs _ mX5_need 20 [(2, 33), (0, a1)] [(0, 1)] z_LL M _
        refine wp_run 2 (pc' := 24) (ls' := [(2, 33), (0, a1)]) (st' := [(2, 33)]) rfl ?_
        refine wp_gf (pc' := 27) (t := 2) (v := 30) rfl rfl (by decide) rfl rfl (fx_33_0 hF) ?_
        refine wp_callv (pc' := 30) (as := [(2, 30)]) (rest := []) (ls1 := [(2, 30)]) rfl rfl rfl rfl rfl rfl ?_
        exact l4 c1 c3 c4
    · refine wp_run 2 (pc' := 12) (ls' := [(2, 33)]) (st' := [(0, 1)]) rfl ?_
      refine wp_ret rfl rfl ?_
      show wp xs _ mX5_fail 4 [(2, 33), (0, 2)] [(0, 1)] z_LL M _
      refine wp_run 3 (pc' := 9) (ls' := [(2, 33), (0, 2)]) (st' := [(2, 33), (2, 33)]) rfl ?_
      refine wp_gf (pc' := 12) (t := 2) (v := 30) rfl rfl (by decide) rfl rfl (fx_33_0 hF) ?_
      refine wp_gf (pc' := 15) (t := 0) (v := (M 30 3)) rfl rfl (by decide) rfl rfl rfl ?_
      refine wp_run 1 (pc' := 17) (ls' := [(2, 33), (0, 2)]) (st' := [(0, 27), (0, (M 30 3)), (2, 33)]) rfl ?_
      refine wp_if2 rfl rfl rfl (fun (c5 : (M 30 3) ≠ 27) => ?_) (fun (c5 : ¬ ((M 30 3) ≠ 27)) => ?_)
      · refine wp_run 1 (pc' := 25) (ls' := [(2, 33), (0, 2)]) (st' := [(0, 2), (2, 33)]) rfl ?_
        refine wp_pf (pc' := 28) rfl rfl rfl rfl (fun z => absurd z (by decide)) (fun z => absurd z (by decide)) ?_
        refine wp_run 2 (pc' := 30) (ls' := [(2, 33), (0, 2)]) (st' := [(2, 33), (2, 33)]) rfl ?_
        refine wp_gf (pc' := 33) (t := 2) (v := 30) rfl rfl (by decide) rfl rfl (z_upi (by decide) (fx_33_0 hF)) ?_
        refine wp_gf (pc' := 36) (t := 0) (v := (M 30 4)) rfl rfl (by decide) rfl rfl (z_upq (by decide) rfl) ?_
        refine wp_pf (pc' := 39) rfl rfl rfl rfl (fun z => absurd z (by decide)) (fun z => absurd z (by decide)) ?_
        refine wp_ret rfl rfl ?_
        show wp xs _ mX5_need 16 [(2, 33), (0, a1)] [] z_LL (z_up (z_up M 33 1 2) 33 2 (M 30 4)) _
        refine wp_run 1 (pc' := 17) (ls' := [(2, 33), (0, a1)]) (st' := [(2, 33)]) rfl ?_
        refine wp_callv (pc' := 20) (as := [(2, 33)]) (rest := []) (ls1 := [(2, 33)]) rfl rfl rfl rfl rfl rfl ?_
        refine wp_run 1 (pc' := 1) (ls' := [(2, 33)]) (st' := [(2, 33)]) rfl ?_
        refine wp_gf (pc' := 4) (t := 0) (v := 2) rfl rfl (by decide) rfl rfl (z_upi (by decide) z_ups) ?_
        refine wp_run 2 (pc' := 12) (ls' := [(2, 33)]) (st' := [(0, 0)]) rfl ?_
        refine wp_ret rfl rfl ?_
        show wp xs _ mX5_need 20 [(2, 33), (0, a1)] [(0, 0)] z_LL (z_up (z_up M 33 1 2) 33 2 (M 30 4)) _
        refine wp_run 1 (pc' := 30) (ls' := [(2, 33), (0, a1)]) (st' := []) rfl ?_
        exact wp_ret rfl rfl (l5 c1 c3 c5)
      · refine wp_run 2 (pc' := 25) (ls' := [(2, 33), (0, 2)]) (st' := [(0, 1), (2, 33)]) rfl ?_
        refine wp_pf (pc' := 28) rfl rfl rfl rfl (fun z => absurd z (by decide)) (fun z => absurd z (by decide)) ?_
        refine wp_run 2 (pc' := 30) (ls' := [(2, 33), (0, 2)]) (st' := [(2, 33), (2, 33)]) rfl ?_
        refine wp_gf (pc' := 33) (t := 2) (v := 30) rfl rfl (by decide) rfl rfl (z_upi (by decide) (fx_33_0 hF)) ?_
        refine wp_gf (pc' := 36) (t := 0) (v := (M 30 4)) rfl rfl (by decide) rfl rfl (z_upq (by decide) rfl) ?_
        refine wp_pf (pc' := 39) rfl rfl rfl rfl (fun z => absurd z (by decide)) (fun z => absurd z (by decide)) ?_
        refine wp_ret rfl rfl ?_
        show wp xs _ mX5_need 16 [(2, 33), (0, a1)] [] z_LL (z_up (z_up M 33 1 1) 33 2 (M 30 4)) _
        refine wp_run 1 (pc' := 17) (ls' := [(2, 33), (0, a1)]) (st' := [(2, 33)]) rfl ?_
        refine wp_callv (pc' := 20) (as := [(2, 33)]) (rest := []) (ls1 := [(2, 33)]) rfl rfl rfl rfl rfl rfl ?_
        refine wp_run 1 (pc' := 1) (ls' := [(2, 33)]) (st' := [(2, 33)]) rfl ?_
        refine wp_gf (pc' := 4) (t := 0) (v := 1) rfl rfl (by decide) rfl rfl (z_upi (by decide) z_ups) ?_
        refine wp_run 2 (pc' := 12) (ls' := [(2, 33)]) (st' := [(0, 0)]) rfl ?_
        refine wp_ret rfl rfl ?_
        show wp xs _ mX5_need 20 [(2, 33), (0, a1)] [(0, 0)] z_LL (z_up (z_up M 33 1 1) 33 2 (M 30 4)) _
        refine wp_run 1 (pc' := 30) (ls' := [(2, 33), (0, a1)]) (st' := []) rfl ?_
        exact wp_ret rfl rfl (l6 c1 c3 c5)
set_option maxRecDepth 20000 in
theorem gX5_need_30 {xs : List Int} {d : Nat} {M : z_M} {P : Option z_V → z_L → z_M → Prop} {x1 : Int} 
    (l1 : P none z_LL M) :
    wp xs d mX5_need 30 [(2, 33), (0, x1)] [] z_LL M P := by
  exact wp_ret rfl rfl (l1)
set_option maxRecDepth 20000 in
theorem gX5_number_0 {xs : List Int} {d : Nat} {M : z_M} {P : Option z_V → z_L → z_M → Prop} {a1 : Int} {a2 : Int} (hF : z_fix M) 
    (l1 : ((M 30 3) = 25) → ((M 30 5) < a1) → ((M 33 1) ≠ 0) → ((M 33 1) ≠ 0) → P (some (0, a1)) z_LL M)
    (l2 : ((M 30 3) = 25) → ((M 30 5) < a1) → ((M 33 1) ≠ 0) → (¬ ((M 33 1) ≠ 0)) → wp xs (d + 1) mX7_step 0 [(2, 30)] [] z_LL M (fun r L1 M1 => wp xs (d + 2) mX5_number 71 [(2, 33), (0, a1), (0, a2), (0, (M 30 5))] (z_ol r ++ []) L1 M1 P))
    (l3 : ((M 30 3) = 25) → ((M 30 5) < a1) → (¬ ((M 33 1) ≠ 0)) → ((M 30 3) ≠ 27) → P (some (0, a1)) z_LL (z_up (z_up M 33 1 4) 33 2 (M 30 4)))
    (l4 : ((M 30 3) = 25) → ((M 30 5) < a1) → (¬ ((M 33 1) ≠ 0)) → (¬ ((M 30 3) ≠ 27)) → P (some (0, a1)) z_LL (z_up (z_up M 33 1 1) 33 2 (M 30 4)))
    (l5 : ((M 30 3) = 25) → (¬ ((M 30 5) < a1)) → ((M 30 5) ≤ a2) → ((M 33 1) ≠ 0) → P (some (0, a1)) z_LL M)
    (l6 : ((M 30 3) = 25) → (¬ ((M 30 5) < a1)) → ((M 30 5) ≤ a2) → (¬ ((M 33 1) ≠ 0)) → wp xs (d + 1) mX7_step 0 [(2, 30)] [] z_LL M (fun r L1 M1 => wp xs (d + 2) mX5_number 71 [(2, 33), (0, a1), (0, a2), (0, (M 30 5))] (z_ol r ++ []) L1 M1 P))
    (l7 : ((M 30 3) = 25) → (¬ ((M 30 5) < a1)) → (¬ ((M 30 5) ≤ a2)) → ((M 33 1) ≠ 0) → ((M 33 1) ≠ 0) → P (some (0, a1)) z_LL M)
    (l8 : ((M 30 3) = 25) → (¬ ((M 30 5) < a1)) → (¬ ((M 30 5) ≤ a2)) → ((M 33 1) ≠ 0) → (¬ ((M 33 1) ≠ 0)) → wp xs (d + 1) mX7_step 0 [(2, 30)] [] z_LL M (fun r L1 M1 => wp xs (d + 2) mX5_number 71 [(2, 33), (0, a1), (0, a2), (0, (M 30 5))] (z_ol r ++ []) L1 M1 P))
    (l9 : ((M 30 3) = 25) → (¬ ((M 30 5) < a1)) → (¬ ((M 30 5) ≤ a2)) → (¬ ((M 33 1) ≠ 0)) → ((M 30 3) ≠ 27) → P (some (0, a1)) z_LL (z_up (z_up M 33 1 4) 33 2 (M 30 4)))
    (l10 : ((M 30 3) = 25) → (¬ ((M 30 5) < a1)) → (¬ ((M 30 5) ≤ a2)) → (¬ ((M 33 1) ≠ 0)) → (¬ ((M 30 3) ≠ 27)) → P (some (0, a1)) z_LL (z_up (z_up M 33 1 1) 33 2 (M 30 4)))
    (l11 : (¬ ((M 30 3) = 25)) → ((M 33 1) ≠ 0) → ((M 33 1) ≠ 0) → P (some (0, a1)) z_LL M)
    (l12 : (¬ ((M 30 3) = 25)) → ((M 33 1) ≠ 0) → (¬ ((M 33 1) ≠ 0)) → wp xs (d + 1) mX7_step 0 [(2, 30)] [] z_LL M (fun r L1 M1 => wp xs (d + 2) mX5_number 71 [(2, 33), (0, a1), (0, a2), (0, (M 30 5))] (z_ol r ++ []) L1 M1 P))
    (l13 : (¬ ((M 30 3) = 25)) → (¬ ((M 33 1) ≠ 0)) → ((M 30 3) ≠ 27) → P (some (0, a1)) z_LL (z_up (z_up M 33 1 2) 33 2 (M 30 4)))
    (l14 : (¬ ((M 30 3) = 25)) → (¬ ((M 33 1) ≠ 0)) → (¬ ((M 30 3) ≠ 27)) → P (some (0, a1)) z_LL (z_up (z_up M 33 1 1) 33 2 (M 30 4))) :
    wp xs (d + 2) mX5_number 0 [(2, 33), (0, a1), (0, a2), (3, 0)] [] z_LL M P := by
  refine wp_run 1 (pc' := 1) (ls' := [(2, 33), (0, a1), (0, a2), (3, 0)]) (st' := [(2, 33)]) rfl ?_
  refine wp_gf (pc' := 4) (t := 2) (v := 30) rfl rfl (by decide) rfl rfl (fx_33_0 hF) ?_
  refine wp_gf (pc' := 7) (t := 0) (v := (M 30 3)) rfl rfl (by decide) rfl rfl rfl ?_
  refine wp_run 1 (pc' := 9) (ls' := [(2, 33), (0, a1), (0, a2), (3, 0)]) (st' := [(0, 25), (0, (M 30 3))]) rfl ?_
  refine wp_if2 rfl rfl rfl (fun (c1 : (M 30 3) = 25) => ?_) (fun (c1 : ¬ ((M 30 3) = 25)) => ?_)
  · refine wp_run 1 (pc' := 21) (ls' := [(2, 33), (0, a1), (0, a2), (3, 0)]) (st' := [(2, 33)]) rfl ?_
    refine wp_gf (pc' := 24) (t := 2) (v := 30) rfl rfl (by decide) rfl rfl (fx_33_0 hF) ?_
    refine wp_gf (pc' := 27) (t := 0) (v := (M 30 5)) rfl rfl (by decide) rfl rfl rfl ?_
    refine wp_run 1 (pc' := 28) (ls' := [(2, 33), (0, a1), (0, a2), (3, 0)]) (st' := [(0, a1), (0, (M 30 5))]) rfl ?_
    refine wp_if2 rfl rfl rfl (fun (c2 : (M 30 5) < a1) => ?_) (fun (c2 : ¬ ((M 30 5) < a1)) => ?_)
    · refine wp_run 2 (pc' := 44) (ls' := [(2, 33), (0, a1), (0, a2), (3, 0)]) (st' := [(0, 4), (2, 33)]) rfl ?_
      refine wp_callv (pc' := 47) (as := [(2, 33), (0, 4)]) (rest := []) (ls1 := [(2, 33), (0, 4)]) rfl rfl rfl rfl rfl rfl ?_
      refine wp_run 1 (pc' := 1) (ls' := [(2, 33), (0, 4)]) (st' := [(2, 33)]) rfl ?_
      refine wp_callv (pc' := 4) (as := [(2, 33)]) (rest := []) (ls1 := [(2, 33)]) rfl rfl rfl rfl rfl rfl ?_
      refine wp_run 1 (pc' := 1) (ls' := [(2, 33)]) (st' := [(2, 33)]) rfl ?_
      refine wp_gf (pc' := 4) (t := 0) (v := (M 33 1)) rfl rfl (by decide) rfl rfl rfl ?_
      refine wp_if1 rfl rfl rfl (fun (c3 : (M 33 1) ≠ 0) => ?_) (fun (c3 : ¬ ((M 33 1) ≠ 0)) => ?_)
      · refine wp_run 1 (pc' := 12) (ls' := [(2, 33)]) (st' := [(0, 0)]) rfl ?_
        refine wp_ret rfl rfl ?_
        show wp xs _ mX5_fail 4 [(2, 33), (0, 4)] [(0, 0)] z_LL M _
        refine wp_run 1 (pc' := 39) (ls' := [(2, 33), (0, 4)]) (st' := []) rfl ?_
        refine wp_ret rfl rfl ?_
        show wp xs _ mX5_number 47 [(2, 33), (0, a1), (0, a2), (3, 0)] [] z_LL M _
        refine wp_run 1 (pc' := 48) (ls' := [(2, 33), (0, a1), (0, a2), (3, 0)]) (st' := [(2, 33)]) rfl ?_
        refine wp_callv (pc' := 51) (as := [(2, 33)]) (rest := []) (ls1 := [(2, 33)]) rfl rfl rfl rfl rfl rfl ?_
        refine wp_run 1 (pc' := 1) (ls' := [(2, 33)]) (st' := [(2, 33)]) rfl ?_
        refine wp_gf (pc' := 4) (t := 0) (v := (M 33 1)) rfl rfl (by decide) rfl rfl rfl ?_
        refine wp_if1 rfl rfl rfl (fun (c4 : (M 33 1) ≠ 0) => ?_) (fun (c4 : ¬ ((M 33 1) ≠ 0)) => ?_)
        · refine wp_run 1 (pc' := 12) (ls' := [(2, 33)]) (st' := [(0, 0)]) rfl ?_
          refine wp_ret rfl rfl ?_
          show wp xs _ mX5_number 51 [(2, 33), (0, a1), (0, a2), (3, 0)] [(0, 0)] z_LL M _
          refine wp_run 2 (pc' := 55) (ls' := [(2, 33), (0, a1), (0, a2), (3, 0)]) (st' := [(0, a1)]) rfl ?_
          exact wp_ret rfl rfl (l1 c1 c2 c3 c4)
        · refine wp_run 2 (pc' := 12) (ls' := [(2, 33)]) (st' := [(0, 1)]) rfl ?_
          refine wp_ret rfl rfl ?_
          show wp xs _ mX5_number 51 [(2, 33), (0, a1), (0, a2), (3, 0)] [(0, 1)] z_LL M _
          refine wp_run 2 (pc' := 57) (ls' := [(2, 33), (0, a1), (0, a2), (3, 0)]) (st' := [(2, 33)]) rfl ?_
          refine wp_gf (pc' := 60) (t := 2) (v := 30) rfl rfl (by decide) rfl rfl (fx_33_0 hF) ?_
          refine wp_gf (pc' := 63) (t := 0) (v := (M 30 5)) rfl rfl (by decide) rfl rfl rfl ?_
          refine wp_run 2 (pc' := 65) (ls' := [(2, 33), (0, a1), (0, a2), (0, (M 30 5))]) (st' := [(2, 33)]) rfl ?_
          refine wp_gf (pc' := 68) (t := 2) (v := 30) rfl rfl (by decide) rfl rfl (fx_33_0 hF) ?_
          refine wp_callv (pc' := 71) (as := [(2, 30)]) (rest := []) (ls1 := [(2, 30)]) rfl rfl rfl rfl rfl rfl ?_
          exact l2 c1 c2 c3 c4
      · refine wp_run 2 (pc' := 12) (ls' := [(2, 33)]) (st' := [(0, 1)]) rfl ?_
        refine wp_ret rfl rfl ?_
        show wp xs _ mX5_fail 4 [(2, 33), (0, 4)] [(0, 1)] z_LL M _
        refine wp_run 3 (pc' := 9) (ls' := [(2, 33), (0, 4)]) (st' := [(2, 33), (2, 33)]) rfl ?_
        refine wp_gf (pc' := 12) (t := 2) (v := 30) rfl rfl (by decide) rfl rfl (fx_33_0 hF) ?_
        refine wp_gf (pc' := 15) (t := 0) (v := (M 30 3)) rfl rfl (by decide) rfl rfl rfl ?_
        refine wp_run 1 (pc' := 17) (ls' := [(2, 33), (0, 4)]) (st' := [(0, 27), (0, (M 30 3)), (2, 33)]) rfl ?_
        refine wp_if2 rfl rfl rfl (fun (c5 : (M 30 3) ≠ 27) => ?_) (fun (c5 : ¬ ((M 30 3) ≠ 27)) => ?_)
        · refine wp_run 1 (pc' := 25) (ls' := [(2, 33), (0, 4)]) (st' := [(0, 4), (2, 33)]) rfl ?_
          refine wp_pf (pc' := 28) rfl rfl rfl rfl (fun z => absurd z (by decide)) (fun z => absurd z (by decide)) ?_
          refine wp_run 2 (pc' := 30) (ls' := [(2, 33), (0, 4)]) (st' := [(2, 33), (2, 33)]) rfl ?_
          refine wp_gf (pc' := 33) (t := 2) (v := 30) rfl rfl (by decide) rfl rfl (z_upi (by decide) (fx_33_0 hF)) ?_
          refine wp_gf (pc' := 36) (t := 0) (v := (M 30 4)) rfl rfl (by decide) rfl rfl (z_upq (by decide) rfl) ?_
          refine wp_pf (pc' := 39) rfl rfl rfl rfl (fun z => absurd z (by decide)) (fun z => absurd z (by decide)) ?_
          refine wp_ret rfl rfl ?_
          show wp xs _ mX5_number 47 [(2, 33), (0, a1), (0, a2), (3, 0)] [] z_LL (z_up (z_up M 33 1 4) 33 2 (M 30 4)) _
          refine wp_run 1 (pc' := 48) (ls' := [(2, 33), (0, a1), (0, a2), (3, 0)]) (st' := [(2, 33)]) rfl ?_
          refine wp_callv (pc' := 51) (as := [(2, 33)]) (rest := []) (ls1 := [(2, 33)]) rfl rfl rfl rfl rfl rfl ?_
          refine wp_run 1 (pc' := 1) (ls' := [(2, 33)]) (st' := [(2, 33)]) rfl ?_
          refine wp_gf (pc' := 4) (t := 0) (v := 4) rfl rfl (by decide) rfl rfl (z_upi (by decide) z_ups) ?_
          refine wp_run 2 (pc' := 12) (ls' := [(2, 33)]) (st' := [(0, 0)]) rfl ?_
          refine wp_ret rfl rfl ?_
          show wp xs _ mX5_number 51 [(2, 33), (0, a1), (0, a2), (3, 0)] [(0, 0)] z_LL (z_up (z_up M 33 1 4) 33 2 (M 30 4)) _
          refine wp_run 2 (pc' := 55) (ls' := [(2, 33), (0, a1), (0, a2), (3, 0)]) (st' := [(0, a1)]) rfl ?_
          exact wp_ret rfl rfl (l3 c1 c2 c3 c5)
        · refine wp_run 2 (pc' := 25) (ls' := [(2, 33), (0, 4)]) (st' := [(0, 1), (2, 33)]) rfl ?_
          refine wp_pf (pc' := 28) rfl rfl rfl rfl (fun z => absurd z (by decide)) (fun z => absurd z (by decide)) ?_
          refine wp_run 2 (pc' := 30) (ls' := [(2, 33), (0, 4)]) (st' := [(2, 33), (2, 33)]) rfl ?_
          refine wp_gf (pc' := 33) (t := 2) (v := 30) rfl rfl (by decide) rfl rfl (z_upi (by decide) (fx_33_0 hF)) ?_
          refine wp_gf (pc' := 36) (t := 0) (v := (M 30 4)) rfl rfl (by decide) rfl rfl (z_upq (by decide) rfl) ?_
          refine wp_pf (pc' := 39) rfl rfl rfl rfl (fun z => absurd z (by decide)) (fun z => absurd z (by decide)) ?_
          refine wp_ret rfl rfl ?_
          show wp xs _ mX5_number 47 [(2, 33), (0, a1), (0, a2), (3, 0)] [] z_LL (z_up (z_up M 33 1 1) 33 2 (M 30 4)) _
          refine wp_run 1 (pc' := 48) (ls' := [(2, 33), (0, a1), (0, a2), (3, 0)]) (st' := [(2, 33)]) rfl ?_
          refine wp_callv (pc' := 51) (as := [(2, 33)]) (rest := []) (ls1 := [(2, 33)]) rfl rfl rfl rfl rfl rfl ?_
          refine wp_run 1 (pc' := 1) (ls' := [(2, 33)]) (st' := [(2, 33)]) rfl ?_
          refine wp_gf (pc' := 4) (t := 0) (v := 1) rfl rfl (by decide) rfl rfl (z_upi (by decide) z_ups) ?_
          refine wp_run 2 (pc' := 12) (ls' := [(2, 33)]) (st' := [(0, 0)]) rfl ?_
          refine wp_ret rfl rfl ?_
          show wp xs _ mX5_number 51 [(2, 33), (0, a1), (0, a2), (3, 0)] [(0, 0)] z_LL (z_up (z_up M 33 1 1) 33 2 (M 30 4)) _
          refine wp_run 2 (pc' := 55) (ls' := [(2, 33), (0, a1), (0, a2), (3, 0)]) (st' := [(0, a1)]) rfl ?_
          exact wp_ret rfl rfl (l4 c1 c2 c3 c5)
    · refine wp_run 1 (pc' := 32) (ls' := [(2, 33), (0, a1), (0, a2), (3, 0)]) (st' := [(2, 33)]) rfl ?_
      refine wp_gf (pc' := 35) (t := 2) (v := 30) rfl rfl (by decide) rfl rfl (fx_33_0 hF) ?_
      refine wp_gf (pc' := 38) (t := 0) (v := (M 30 5)) rfl rfl (by decide) rfl rfl rfl ?_
      refine wp_run 1 (pc' := 39) (ls' := [(2, 33), (0, a1), (0, a2), (3, 0)]) (st' := [(0, a2), (0, (M 30 5))]) rfl ?_
      refine wp_if2 rfl rfl rfl (fun (c6 : (M 30 5) ≤ a2) => ?_) (fun (c6 : ¬ ((M 30 5) ≤ a2)) => ?_)
      · refine wp_run 1 (pc' := 48) (ls' := [(2, 33), (0, a1), (0, a2), (3, 0)]) (st' := [(2, 33)]) rfl ?_
        refine wp_callv (pc' := 51) (as := [(2, 33)]) (rest := []) (ls1 := [(2, 33)]) rfl rfl rfl rfl rfl rfl ?_
        refine wp_run 1 (pc' := 1) (ls' := [(2, 33)]) (st' := [(2, 33)]) rfl ?_
        refine wp_gf (pc' := 4) (t := 0) (v := (M 33 1)) rfl rfl (by decide) rfl rfl rfl ?_
        refine wp_if1 rfl rfl rfl (fun (c7 : (M 33 1) ≠ 0) => ?_) (fun (c7 : ¬ ((M 33 1) ≠ 0)) => ?_)
        · refine wp_run 1 (pc' := 12) (ls' := [(2, 33)]) (st' := [(0, 0)]) rfl ?_
          refine wp_ret rfl rfl ?_
          show wp xs _ mX5_number 51 [(2, 33), (0, a1), (0, a2), (3, 0)] [(0, 0)] z_LL M _
          refine wp_run 2 (pc' := 55) (ls' := [(2, 33), (0, a1), (0, a2), (3, 0)]) (st' := [(0, a1)]) rfl ?_
          exact wp_ret rfl rfl (l5 c1 c2 c6 c7)
        · refine wp_run 2 (pc' := 12) (ls' := [(2, 33)]) (st' := [(0, 1)]) rfl ?_
          refine wp_ret rfl rfl ?_
          show wp xs _ mX5_number 51 [(2, 33), (0, a1), (0, a2), (3, 0)] [(0, 1)] z_LL M _
          refine wp_run 2 (pc' := 57) (ls' := [(2, 33), (0, a1), (0, a2), (3, 0)]) (st' := [(2, 33)]) rfl ?_
          refine wp_gf (pc' := 60) (t := 2) (v := 30) rfl rfl (by decide) rfl rfl (fx_33_0 hF) ?_
          refine wp_gf (pc' := 63) (t := 0) (v := (M 30 5)) rfl rfl (by decide) rfl rfl rfl ?_
          refine wp_run 2 (pc' := 65) (ls' := [(2, 33), (0, a1), (0, a2), (0, (M 30 5))]) (st' := [(2, 33)]) rfl ?_
          refine wp_gf (pc' := 68) (t := 2) (v := 30) rfl rfl (by decide) rfl rfl (fx_33_0 hF) ?_
          refine wp_callv (pc' := 71) (as := [(2, 30)]) (rest := []) (ls1 := [(2, 30)]) rfl rfl rfl rfl rfl rfl ?_
          exact l6 c1 c2 c6 c7
      · refine wp_run 2 (pc' := 44) (ls' := [(2, 33), (0, a1), (0, a2), (3, 0)]) (st' := [(0, 4), (2, 33)]) rfl ?_
        refine wp_callv (pc' := 47) (as := [(2, 33), (0, 4)]) (rest := []) (ls1 := [(2, 33), (0, 4)]) rfl rfl rfl rfl rfl rfl ?_
        refine wp_run 1 (pc' := 1) (ls' := [(2, 33), (0, 4)]) (st' := [(2, 33)]) rfl ?_
        refine wp_callv (pc' := 4) (as := [(2, 33)]) (rest := []) (ls1 := [(2, 33)]) rfl rfl rfl rfl rfl rfl ?_
        refine wp_run 1 (pc' := 1) (ls' := [(2, 33)]) (st' := [(2, 33)]) rfl ?_
        refine wp_gf (pc' := 4) (t := 0) (v := (M 33 1)) rfl rfl (by decide) rfl rfl rfl ?_
        refine wp_if1 rfl rfl rfl (fun (c8 : (M 33 1) ≠ 0) => ?_) (fun (c8 : ¬ ((M 33 1) ≠ 0)) => ?_)
        · refine wp_run 1 (pc' := 12) (ls' := [(2, 33)]) (st' := [(0, 0)]) rfl ?_
          refine wp_ret rfl rfl ?_
          show wp xs _ mX5_fail 4 [(2, 33), (0, 4)] [(0, 0)] z_LL M _
          refine wp_run 1 (pc' := 39) (ls' := [(2, 33), (0, 4)]) (st' := []) rfl ?_
          refine wp_ret rfl rfl ?_
          show wp xs _ mX5_number 47 [(2, 33), (0, a1), (0, a2), (3, 0)] [] z_LL M _
          refine wp_run 1 (pc' := 48) (ls' := [(2, 33), (0, a1), (0, a2), (3, 0)]) (st' := [(2, 33)]) rfl ?_
          refine wp_callv (pc' := 51) (as := [(2, 33)]) (rest := []) (ls1 := [(2, 33)]) rfl rfl rfl rfl rfl rfl ?_
          refine wp_run 1 (pc' := 1) (ls' := [(2, 33)]) (st' := [(2, 33)]) rfl ?_
          refine wp_gf (pc' := 4) (t := 0) (v := (M 33 1)) rfl rfl (by decide) rfl rfl rfl ?_
          refine wp_if1 rfl rfl rfl (fun (c9 : (M 33 1) ≠ 0) => ?_) (fun (c9 : ¬ ((M 33 1) ≠ 0)) => ?_)
          · refine wp_run 1 (pc' := 12) (ls' := [(2, 33)]) (st' := [(0, 0)]) rfl ?_
            refine wp_ret rfl rfl ?_
            show wp xs _ mX5_number 51 [(2, 33), (0, a1), (0, a2), (3, 0)] [(0, 0)] z_LL M _
            refine wp_run 2 (pc' := 55) (ls' := [(2, 33), (0, a1), (0, a2), (3, 0)]) (st' := [(0, a1)]) rfl ?_
            exact wp_ret rfl rfl (l7 c1 c2 c6 c8 c9)
          · refine wp_run 2 (pc' := 12) (ls' := [(2, 33)]) (st' := [(0, 1)]) rfl ?_
            refine wp_ret rfl rfl ?_
            show wp xs _ mX5_number 51 [(2, 33), (0, a1), (0, a2), (3, 0)] [(0, 1)] z_LL M _
            refine wp_run 2 (pc' := 57) (ls' := [(2, 33), (0, a1), (0, a2), (3, 0)]) (st' := [(2, 33)]) rfl ?_
            refine wp_gf (pc' := 60) (t := 2) (v := 30) rfl rfl (by decide) rfl rfl (fx_33_0 hF) ?_
            refine wp_gf (pc' := 63) (t := 0) (v := (M 30 5)) rfl rfl (by decide) rfl rfl rfl ?_
            refine wp_run 2 (pc' := 65) (ls' := [(2, 33), (0, a1), (0, a2), (0, (M 30 5))]) (st' := [(2, 33)]) rfl ?_
            refine wp_gf (pc' := 68) (t := 2) (v := 30) rfl rfl (by decide) rfl rfl (fx_33_0 hF) ?_
            refine wp_callv (pc' := 71) (as := [(2, 30)]) (rest := []) (ls1 := [(2, 30)]) rfl rfl rfl rfl rfl rfl ?_
            exact l8 c1 c2 c6 c8 c9
        · refine wp_run 2 (pc' := 12) (ls' := [(2, 33)]) (st' := [(0, 1)]) rfl ?_
          refine wp_ret rfl rfl ?_
          show wp xs _ mX5_fail 4 [(2, 33), (0, 4)] [(0, 1)] z_LL M _
          refine wp_run 3 (pc' := 9) (ls' := [(2, 33), (0, 4)]) (st' := [(2, 33), (2, 33)]) rfl ?_
          refine wp_gf (pc' := 12) (t := 2) (v := 30) rfl rfl (by decide) rfl rfl (fx_33_0 hF) ?_
          refine wp_gf (pc' := 15) (t := 0) (v := (M 30 3)) rfl rfl (by decide) rfl rfl rfl ?_
          refine wp_run 1 (pc' := 17) (ls' := [(2, 33), (0, 4)]) (st' := [(0, 27), (0, (M 30 3)), (2, 33)]) rfl ?_
          refine wp_if2 rfl rfl rfl (fun (c10 : (M 30 3) ≠ 27) => ?_) (fun (c10 : ¬ ((M 30 3) ≠ 27)) => ?_)
          · refine wp_run 1 (pc' := 25) (ls' := [(2, 33), (0, 4)]) (st' := [(0, 4), (2, 33)]) rfl ?_
            refine wp_pf (pc' := 28) rfl rfl rfl rfl (fun z => absurd z (by decide)) (fun z => absurd z (by decide)) ?_
            refine wp_run 2 (pc' := 30) (ls' := [(2, 33), (0, 4)]) (st' := [(2, 33), (2, 33)]) rfl ?_
            refine wp_gf (pc' := 33) (t := 2) (v := 30) rfl rfl (by decide) rfl rfl (z_upi (by decide) (fx_33_0 hF)) ?_
            refine wp_gf (pc' := 36) (t := 0) (v := (M 30 4)) rfl rfl (by decide) rfl rfl (z_upq (by decide) rfl) ?_
            refine wp_pf (pc' := 39) rfl rfl rfl rfl (fun z => absurd z (by decide)) (fun z => absurd z (by decide)) ?_
            refine wp_ret rfl rfl ?_
            show wp xs _ mX5_number 47 [(2, 33), (0, a1), (0, a2), (3, 0)] [] z_LL (z_up (z_up M 33 1 4) 33 2 (M 30 4)) _
            refine wp_run 1 (pc' := 48) (ls' := [(2, 33), (0, a1), (0, a2), (3, 0)]) (st' := [(2, 33)]) rfl ?_
            refine wp_callv (pc' := 51) (as := [(2, 33)]) (rest := []) (ls1 := [(2, 33)]) rfl rfl rfl rfl rfl rfl ?_
            refine wp_run 1 (pc' := 1) (ls' := [(2, 33)]) (st' := [(2, 33)]) rfl ?_
            refine wp_gf (pc' := 4) (t := 0) (v := 4) rfl rfl (by decide) rfl rfl (z_upi (by decide) z_ups) ?_
            refine wp_run 2 (pc' := 12) (ls' := [(2, 33)]) (st' := [(0, 0)]) rfl ?_
            refine wp_ret rfl rfl ?_
            show wp xs _ mX5_number 51 [(2, 33), (0, a1), (0, a2), (3, 0)] [(0, 0)] z_LL (z_up (z_up M 33 1 4) 33 2 (M 30 4)) _
            refine wp_run 2 (pc' := 55) (ls' := [(2, 33), (0, a1), (0, a2), (3, 0)]) (st' := [(0, a1)]) rfl ?_
            exact wp_ret rfl rfl (l9 c1 c2 c6 c8 c10)
          · refine wp_run 2 (pc' := 25) (ls' := [(2, 33), (0, 4)]) (st' := [(0, 1), (2, 33)]) rfl ?_
            refine wp_pf (pc' := 28) rfl rfl rfl rfl (fun z => absurd z (by decide)) (fun z => absurd z (by decide)) ?_
            refine wp_run 2 (pc' := 30) (ls' := [(2, 33), (0, 4)]) (st' := [(2, 33), (2, 33)]) rfl ?_
            refine wp_gf (pc' := 33) (t := 2) (v := 30) rfl rfl (by decide) rfl rfl (z_upi (by decide) (fx_33_0 hF)) ?_
            refine wp_gf (pc' := 36) (t := 0) (v := (M 30 4)) rfl rfl (by decide) rfl rfl (z_upq (by decide) rfl) ?_
            refine wp_pf (pc' := 39) rfl rfl rfl rfl (fun z => absurd z (by decide)) (fun z => absurd z (by decide)) ?_
            refine wp_ret rfl rfl ?_
            show wp xs _ mX5_number 47 [(2, 33), (0, a1), (0, a2), (3, 0)] [] z_LL (z_up (z_up M 33 1 1) 33 2 (M 30 4)) _
            refine wp_run 1 (pc' := 48) (ls' := [(2, 33), (0, a1), (0, a2), (3, 0)]) (st' := [(2, 33)]) rfl ?_
            refine wp_callv (pc' := 51) (as := [(2, 33)]) (rest := []) (ls1 := [(2, 33)]) rfl rfl rfl rfl rfl rfl ?_
            refine wp_run 1 (pc' := 1) (ls' := [(2, 33)]) (st' := [(2, 33)]) rfl ?_
            refine wp_gf (pc' := 4) (t := 0) (v := 1) rfl rfl (by decide) rfl rfl (z_upi (by decide) z_ups) ?_
            refine wp_run 2 (pc' := 12) (ls' := [(2, 33)]) (st' := [(0, 0)]) rfl ?_
            refine wp_ret rfl rfl ?_
            show wp xs _ mX5_number 51 [(2, 33), (0, a1), (0, a2), (3, 0)] [(0, 0)] z_LL (z_up (z_up M 33 1 1) 33 2 (M 30 4)) _
            refine wp_run 2 (pc' := 55) (ls' := [(2, 33), (0, a1), (0, a2), (3, 0)]) (st' := [(0, a1)]) rfl ?_
            exact wp_ret rfl rfl (l10 c1 c2 c6 c8 c10)
  · refine wp_run 2 (pc' := 14) (ls' := [(2, 33), (0, a1), (0, a2), (3, 0)]) (st' := [(0, 2), (2, 33)]) rfl ?_
    refine wp_callv (pc' := 17) (as := [(2, 33), (0, 2)]) (rest := []) (ls1 := [(2, 33), (0, 2)]) rfl rfl rfl rfl rfl rfl ?_
    refine wp_run 1 (pc' := 1) (ls' := [(2, 33), (0, 2)]) (st' := [(2, 33)]) rfl ?_
    refine wp_callv (pc' := 4) (as := [(2, 33)]) (rest := []) (ls1 := [(2, 33)]) rfl rfl rfl rfl rfl rfl ?_
    refine wp_run 1 (pc' := 1) (ls' := [(2, 33)]) (st' := [(2, 33)]) rfl ?_
    refine wp_gf (pc' := 4) (t := 0) (v := (M 33 1)) rfl rfl (by decide) rfl rfl rfl ?_
    refine wp_if1 rfl rfl rfl (fun (c11 : (M 33 1) ≠ 0) => ?_) (fun (c11 : ¬ ((M 33 1) ≠ 0)) => ?_)
    · refine wp_run 1 (pc' := 12) (ls' := [(2, 33)]) (st' := [(0, 0)]) rfl ?_
      refine wp_ret rfl rfl ?_
      show wp xs _ mX5_fail 4 [(2, 33), (0, 2)] [(0, 0)] z_LL M _
      refine wp_run 1 (pc' := 39) (ls' := [(2, 33), (0, 2)]) (st' := []) rfl ?_
      refine wp_ret rfl rfl ?_
      show wp xs _ mX5_number 17 [(2, 33), (0, a1), (0, a2), (3, 0)] [] z_LL M _
      refine wp_run 2 (pc' := 48) (ls' := [(2, 33), (0, a1), (0, a2), (3, 0)]) (st' := [(2, 33)]) rfl ?_
      refine wp_callv (pc' := 51) (as := [(2, 33)]) (rest := []) (ls1 := [(2, 33)]) rfl rfl rfl rfl rfl rfl ?_
      refine wp_run 1 (pc' := 1) (ls' := [(2, 33)]) (st' := [(2, 33)]) rfl ?_
      refine wp_gf (pc' := 4) (t := 0) (v := (M 33 1)) rfl rfl (by decide) rfl rfl rfl ?_
      refine wp_if1 rfl rfl rfl (fun (c12 : (M 33 1) ≠ 0) => ?_) (fun (c12 : ¬ ((M 33 1) ≠ 0)) => ?_)
      · refine wp_run 1 (pc' := 12) (ls' := [(2, 33)]) (st' := [(0, 0)]) rfl ?_
        refine wp_ret rfl rfl ?_
        show wp xs _ mX5_number 51 [(2, 33), (0, a1), (0, a2), (3, 0)] [(0, 0)] z_LL M _
        refine wp_run 2 (pc' := 55) (ls' := [(2, 33), (0, a1), (0, a2), (3, 0)]) (st' := [(0, a1)]) rfl ?_
        exact wp_ret rfl rfl (l11 c1 c11 c12)
      · refine wp_run 2 (pc' := 12) (ls' := [(2, 33)]) (st' := [(0, 1)]) rfl ?_
        refine wp_ret rfl rfl ?_
        show wp xs _ mX5_number 51 [(2, 33), (0, a1), (0, a2), (3, 0)] [(0, 1)] z_LL M _
        refine wp_run 2 (pc' := 57) (ls' := [(2, 33), (0, a1), (0, a2), (3, 0)]) (st' := [(2, 33)]) rfl ?_
        refine wp_gf (pc' := 60) (t := 2) (v := 30) rfl rfl (by decide) rfl rfl (fx_33_0 hF) ?_
        refine wp_gf (pc' := 63) (t := 0) (v := (M 30 5)) rfl rfl (by decide) rfl rfl rfl ?_
        refine wp_run 2 (pc' := 65) (ls' := [(2, 33), (0, a1), (0, a2), (0, (M 30 5))]) (st' := [(2, 33)]) rfl ?_
        refine wp_gf (pc' := 68) (t := 2) (v := 30) rfl rfl (by decide) rfl rfl (fx_33_0 hF) ?_
        refine wp_callv (pc' := 71) (as := [(2, 30)]) (rest := []) (ls1 := [(2, 30)]) rfl rfl rfl rfl rfl rfl ?_
        exact l12 c1 c11 c12
    · refine wp_run 2 (pc' := 12) (ls' := [(2, 33)]) (st' := [(0, 1)]) rfl ?_
      refine wp_ret rfl rfl ?_
      show wp xs _ mX5_fail 4 [(2, 33), (0, 2)] [(0, 1)] z_LL M _
      refine wp_run 3 (pc' := 9) (ls' := [(2, 33), (0, 2)]) (st' := [(2, 33), (2, 33)]) rfl ?_
      refine wp_gf (pc' := 12) (t := 2) (v := 30) rfl rfl (by decide) rfl rfl (fx_33_0 hF) ?_
      refine wp_gf (pc' := 15) (t := 0) (v := (M 30 3)) rfl rfl (by decide) rfl rfl rfl ?_
      refine wp_run 1 (pc' := 17) (ls' := [(2, 33), (0, 2)]) (st' := [(0, 27), (0, (M 30 3)), (2, 33)]) rfl ?_
      refine wp_if2 rfl rfl rfl (fun (c13 : (M 30 3) ≠ 27) => ?_) (fun (c13 : ¬ ((M 30 3) ≠ 27)) => ?_)
      · refine wp_run 1 (pc' := 25) (ls' := [(2, 33), (0, 2)]) (st' := [(0, 2), (2, 33)]) rfl ?_
        refine wp_pf (pc' := 28) rfl rfl rfl rfl (fun z => absurd z (by decide)) (fun z => absurd z (by decide)) ?_
        refine wp_run 2 (pc' := 30) (ls' := [(2, 33), (0, 2)]) (st' := [(2, 33), (2, 33)]) rfl ?_
        refine wp_gf (pc' := 33) (t := 2) (v := 30) rfl rfl (by decide) rfl rfl (z_upi (by decide) (fx_33_0 hF)) ?_
        refine wp_gf (pc' := 36) (t := 0) (v := (M 30 4)) rfl rfl (by decide) rfl rfl (z_upq (by decide) rfl) ?_
        refine wp_pf (pc' := 39) rfl rfl rfl rfl (fun z => absurd z (by decide)) (fun z => absurd z (by decide)) ?_
        refine wp_ret rfl rfl ?_
        show wp xs _ mX5_number 17 [(2, 33), (0, a1), (0, a2), (3, 0)] [] z_LL (z_up (z_up M 33 1 2) 33 2 (M 30 4)) _
        refine wp_run 2 (pc' := 48) (ls' := [(2, 33), (0, a1), (0, a2), (3, 0)]) (st' := [(2, 33)]) rfl ?_
        refine wp_callv (pc' := 51) (as := [(2, 33)]) (rest := []) (ls1 := [(2, 33)]) rfl rfl rfl rfl rfl rfl ?_
        refine wp_run 1 (pc' := 1) (ls' := [(2, 33)]) (st' := [(2, 33)]) rfl ?_
        refine wp_gf (pc' := 4) (t := 0) (v := 2) rfl rfl (by decide) rfl rfl (z_upi (by decide) z_ups) ?_
        refine wp_run 2 (pc' := 12) (ls' := [(2, 33)]) (st' := [(0, 0)]) rfl ?_
        refine wp_ret rfl rfl ?_
        show wp xs _ mX5_number 51 [(2, 33), (0, a1), (0, a2), (3, 0)] [(0, 0)] z_LL (z_up (z_up M 33 1 2) 33 2 (M 30 4)) _
        refine wp_run 2 (pc' := 55) (ls' := [(2, 33), (0, a1), (0, a2), (3, 0)]) (st' := [(0, a1)]) rfl ?_
        exact wp_ret rfl rfl (l13 c1 c11 c13)
      · refine wp_run 2 (pc' := 25) (ls' := [(2, 33), (0, 2)]) (st' := [(0, 1), (2, 33)]) rfl ?_
        refine wp_pf (pc' := 28) rfl rfl rfl rfl (fun z => absurd z (by decide)) (fun z => absurd z (by decide)) ?_
        refine wp_run 2 (pc' := 30) (ls' := [(2, 33), (0, 2)]) (st' := [(2, 33), (2, 33)]) rfl ?_
        refine wp_gf (pc' := 33) (t := 2) (v := 30) rfl rfl (by decide) rfl rfl (z_upi (by decide) (fx_33_0 hF)) ?_
        refine wp_gf (pc' := 36) (t := 0) (v := (M 30 4)) rfl rfl (by decide) rfl rfl (z_upq (by decide) rfl) ?_
        refine wp_pf (pc' := 39) rfl rfl rfl rfl (fun z => absurd z (by decide)) (fun z => absurd z (by decide)) ?_
        refine wp_ret rfl rfl ?_
        show wp xs _ mX5_number 17 [(2, 33), (0, a1), (0, a2), (3, 0)] [] z_LL (z_up (z_up M 33 1 1) 33 2 (M 30 4)) _
        refine wp_run 2 (pc' := 48) (ls' := [(2, 33), (0, a1), (0, a2), (3, 0)]) (st' := [(2, 33)]) rfl ?_
        refine wp_callv (pc' := 51) (as := [(2, 33)]) (rest := []) (ls1 := [(2, 33)]) rfl rfl rfl rfl rfl rfl ?_
        refine wp_run 1 (pc' := 1) (ls' := [(2, 33)]) (st' := [(2, 33)]) rfl ?_
        refine wp_gf (pc' := 4) (t := 0) (v := 1) rfl rfl (by decide) rfl rfl (z_upi (by decide) z_ups) ?_
        refine wp_run 2 (pc' := 12) (ls' := [(2, 33)]) (st' := [(0, 0)]) rfl ?_
        refine wp_ret rfl rfl ?_
        show wp xs _ mX5_number 51 [(2, 33), (0, a1), (0, a2), (3, 0)] [(0, 0)] z_LL (z_up (z_up M 33 1 1) 33 2 (M 30 4)) _
        refine wp_run 2 (pc' := 55) (ls' := [(2, 33), (0, a1), (0, a2), (3, 0)]) (st' := [(0, a1)]) rfl ?_
        exact wp_ret rfl rfl (l14 c1 c11 c13)
set_option maxRecDepth 20000 in
theorem gX5_number_71 {xs : List Int} {d : Nat} {M : z_M} {P : Option z_V → z_L → z_M → Prop} {x1 : Int} {x2 : Int} {x3 : Int} 
    (l1 : P (some (0, x3)) z_LL M) :
    wp xs d mX5_number 71 [(2, 33), (0, x1), (0, x2), (0, x3)] [] z_LL M P := by
  refine wp_run 1 (pc' := 72) (ls' := [(2, 33), (0, x1), (0, x2), (0, x3)]) (st' := [(0, x3)]) rfl ?_
  exact wp_ret rfl rfl (l1)
set_option maxRecDepth 20000 in
theorem gX1_flockNamed_0 {xs : List Int} {d : Nat} {M : z_M} {P : Option z_V → z_L → z_M → Prop} {g : Int} {a1 : Int} (hg : z_gor M g)
    (l1 : wp xs d mX1_flockNamed 2 [(2, g), (1, a1), (3, 0), (0, 0)] [] z_LL M P) :
    wp xs d mX1_flockNamed 0 [(2, g), (1, a1), (3, 0), (3, 0)] [] z_LL M P := by
  refine wp_run 2 (pc' := 2) (ls' := [(2, g), (1, a1), (3, 0), (0, 0)]) (st' := []) rfl ?_
  exact l1
set_option maxRecDepth 20000 in
theorem gX1_flockNamed_2 {xs : List Int} {d : Nat} {M : z_M} {P : Option z_V → z_L → z_M → Prop} {x0 : Int} {x1 : Int} {x3 : Int} (hx0 : z_gor M x0)
    (l1 : ((M x0 12) ≤ x3) → P (some (0, (-1))) z_LL M)
    (b1 : (¬ ((M x0 12) ≤ x3)) → 0 ≤ x3 ∧ x3 < 6)
    (l2 : (¬ ((M x0 12) ≤ x3)) → ((z_lcmp (M (x0 + 1) x3) x1) ≠ 0) → wp xs d mX1_flockNamed 2 [(2, x0), (1, x1), (3, 0), (0, (z_w (x3 + 1)))] [] z_LL M P)
    (l3 : (¬ ((M x0 12) ≤ x3)) → (¬ ((z_lcmp (M (x0 + 1) x3) x1) ≠ 0)) → P (some (0, x3)) z_LL M) :
    wp xs d mX1_flockNamed 2 [(2, x0), (1, x1), (3, 0), (0, x3)] [] z_LL M P := by
  refine wp_run 2 (pc' := 4) (ls' := [(2, x0), (1, x1), (3, 0), (0, x3)]) (st' := [(2, x0), (0, x3)]) rfl ?_
  refine wp_gf (pc' := 7) (t := 0) (v := (M x0 12)) rfl rfl (by decide) rfl (z_gl0 hx0) rfl ?_
  refine wp_if2 rfl rfl rfl (fun (c1 : (M x0 12) ≤ x3) => ?_) (fun (c1 : ¬ ((M x0 12) ≤ x3)) => ?_)
  · refine wp_run 1 (pc' := 30) (ls' := [(2, x0), (1, x1), (3, 0), (0, x3)]) (st' := [(0, (-1))]) rfl ?_
    exact wp_ret rfl rfl (l1 c1)
  · refine wp_run 1 (pc' := 11) (ls' := [(2, x0), (1, x1), (3, 0), (0, x3)]) (st' := [(2, x0)]) rfl ?_
    refine wp_gf (pc' := 14) (t := 2) (v := (x0 + 1)) rfl rfl (by decide) rfl (z_gl0 hx0) (z_gf0 hx0) ?_
    refine wp_run 1 (pc' := 15) (ls' := [(2, x0), (1, x1), (3, 0), (0, x3)]) (st' := [(0, x3), (2, (x0 + 1))]) rfl ?_
    refine wp_lald (pc' := 16) (v := (M (x0 + 1) x3)) rfl rfl (z_gl1 hx0) (b1 c1) rfl ?_
    refine wp_run 2 (pc' := 18) (ls' := [(2, x0), (1, x1), (3, 0), (0, x3)]) (st' := [(0, (z_lcmp (M (x0 + 1) x3) x1))]) rfl ?_
    refine wp_if1 rfl rfl rfl (fun (c2 : (z_lcmp (M (x0 + 1) x3) x1) ≠ 0) => ?_) (fun (c2 : ¬ ((z_lcmp (M (x0 + 1) x3) x1) ≠ 0)) => ?_)
    · refine wp_run 2 (pc' := 2) (ls' := [(2, x0), (1, x1), (3, 0), (0, (z_w (x3 + 1)))]) (st' := []) rfl ?_
      exact l2 c1 c2
    · refine wp_run 1 (pc' := 22) (ls' := [(2, x0), (1, x1), (3, 0), (0, x3)]) (st' := [(0, x3)]) rfl ?_
      exact wp_ret rfl rfl (l3 c1 c2)
set_option maxRecDepth 20000 in
theorem gX5_named_0 {xs : List Int} {d : Nat} {M : z_M} {P : Option z_V → z_L → z_M → Prop} (hF : z_fix M) (hg1 : z_gor M (M 33 3))
    (l1 : ((M 30 3) = 24) → wp xs (d + 1) mX1_flockNamed 0 [(2, (M 33 3)), (1, (M 30 6)), (3, 0), (3, 0)] [] z_LL M (fun r L1 M1 => wp xs (d + 2) mX5_named 33 [(2, 33), (3, 0)] (z_ol r ++ []) L1 M1 P))
    (l2 : (¬ ((M 30 3) = 24)) → ((M 33 1) ≠ 0) → P (some (0, (-1))) z_LL M)
    (l3 : (¬ ((M 30 3) = 24)) → (¬ ((M 33 1) ≠ 0)) → ((M 30 3) ≠ 27) → P (some (0, (-1))) z_LL (z_up (z_up M 33 1 2) 33 2 (M 30 4)))
    (l4 : (¬ ((M 30 3) = 24)) → (¬ ((M 33 1) ≠ 0)) → (¬ ((M 30 3) ≠ 27)) → P (some (0, (-1))) z_LL (z_up (z_up M 33 1 1) 33 2 (M 30 4))) :
    wp xs (d + 2) mX5_named 0 [(2, 33), (3, 0)] [] z_LL M P := by
  refine wp_run 1 (pc' := 1) (ls' := [(2, 33), (3, 0)]) (st' := [(2, 33)]) rfl ?_
  refine wp_gf (pc' := 4) (t := 2) (v := 30) rfl rfl (by decide) rfl rfl (fx_33_0 hF) ?_
  refine wp_gf (pc' := 7) (t := 0) (v := (M 30 3)) rfl rfl (by decide) rfl rfl rfl ?_
  refine wp_run 1 (pc' := 9) (ls' := [(2, 33), (3, 0)]) (st' := [(0, 24), (0, (M 30 3))]) rfl ?_
  refine wp_if2 rfl rfl rfl (fun (c1 : (M 30 3) = 24) => ?_) (fun (c1 : ¬ ((M 30 3) = 24)) => ?_)
  · refine wp_run 1 (pc' := 20) (ls' := [(2, 33), (3, 0)]) (st' := [(2, 33)]) rfl ?_
    refine wp_gf (pc' := 23) (t := 2) (v := (M 33 3)) rfl rfl (by decide) rfl rfl rfl ?_
    refine wp_run 1 (pc' := 24) (ls' := [(2, 33), (3, 0)]) (st' := [(2, 33), (2, (M 33 3))]) rfl ?_
    refine wp_gf (pc' := 27) (t := 2) (v := 30) rfl rfl (by decide) rfl rfl (fx_33_0 hF) ?_
    refine wp_gf (pc' := 30) (t := 1) (v := (M 30 6)) rfl rfl (by decide) rfl rfl rfl ?_
    refine wp_callv (pc' := 33) (as := [(2, (M 33 3)), (1, (M 30 6))]) (rest := []) (ls1 := [(2, (M 33 3)), (1, (M 30 6)), (3, 0), (3, 0)]) rfl rfl rfl rfl (z_args_v rfl rfl rfl rfl (Nat.le_of_ble_eq_true rfl) rfl (by decide) (z_gl0 hg1)) rfl ?_
    exact l1 c1
  · refine wp_run 2 (pc' := 14) (ls' := [(2, 33), (3, 0)]) (st' := [(0, 2), (2, 33)]) rfl ?_
    refine wp_callv (pc' := 17) (as := [(2, 33), (0, 2)]) (rest := []) (ls1 := [(2, 33), (0, 2)]) rfl rfl rfl rfl rfl rfl ?_
    refine wp_run 1 (pc' := 1) (ls' := [(2, 33), (0, 2)]) (st' := [(2, 33)]) rfl ?_
    refine wp_callv (pc' := 4) (as := [(2, 33)]) (rest := []) (ls1 := [(2, 33)]) rfl rfl rfl rfl rfl rfl ?_
    refine wp_run 1 (pc' := 1) (ls' := [(2, 33)]) (st' := [(2, 33)]) rfl ?_
    refine wp_gf (pc' := 4) (t := 0) (v := (M 33 1)) rfl rfl (by decide) rfl rfl rfl ?_
    refine wp_if1 rfl rfl rfl (fun (c2 : (M 33 1) ≠ 0) => ?_) (fun (c2 : ¬ ((M 33 1) ≠ 0)) => ?_)
    · refine wp_run 1 (pc' := 12) (ls' := [(2, 33)]) (st' := [(0, 0)]) rfl ?_
      refine wp_ret rfl rfl ?_
      show wp xs _ mX5_fail 4 [(2, 33), (0, 2)] [(0, 0)] z_LL M _
      refine wp_run 1 (pc' := 39) (ls' := [(2, 33), (0, 2)]) (st' := []) rfl ?_
      refine wp_ret rfl rfl ?_
      show wp xs _ mX5_named 17 [(2, 33), (3, 0)] [] z_LL M _
      refine wp_run 1 (pc' := 18) (ls' := [(2, 33), (3, 0)]) (st' := [(0, (-1))]) rfl ?_
      exact wp_ret rfl rfl (l2 c1 c2)
    · refine wp_run 2 (pc' := 12) (ls' := [(2, 33)]) (st' := [(0, 1)]) rfl ?_
      refine wp_ret rfl rfl ?_
      show wp xs _ mX5_fail 4 [(2, 33), (0, 2)] [(0, 1)] z_LL M _
      refine wp_run 3 (pc' := 9) (ls' := [(2, 33), (0, 2)]) (st' := [(2, 33), (2, 33)]) rfl ?_
      refine wp_gf (pc' := 12) (t := 2) (v := 30) rfl rfl (by decide) rfl rfl (fx_33_0 hF) ?_
      refine wp_gf (pc' := 15) (t := 0) (v := (M 30 3)) rfl rfl (by decide) rfl rfl rfl ?_
      refine wp_run 1 (pc' := 17) (ls' := [(2, 33), (0, 2)]) (st' := [(0, 27), (0, (M 30 3)), (2, 33)]) rfl ?_
      refine wp_if2 rfl rfl rfl (fun (c3 : (M 30 3) ≠ 27) => ?_) (fun (c3 : ¬ ((M 30 3) ≠ 27)) => ?_)
      · refine wp_run 1 (pc' := 25) (ls' := [(2, 33), (0, 2)]) (st' := [(0, 2), (2, 33)]) rfl ?_
        refine wp_pf (pc' := 28) rfl rfl rfl rfl (fun z => absurd z (by decide)) (fun z => absurd z (by decide)) ?_
        refine wp_run 2 (pc' := 30) (ls' := [(2, 33), (0, 2)]) (st' := [(2, 33), (2, 33)]) rfl ?_
        refine wp_gf (pc' := 33) (t := 2) (v := 30) rfl rfl (by decide) rfl rfl (z_upi (by decide) (fx_33_0 hF)) ?_
        refine wp_gf (pc' := 36) (t := 0) (v := (M 30 4)) rfl rfl (by decide) rfl rfl (z_upq (by decide) rfl) ?_
        refine wp_pf (pc' := 39) rfl rfl rfl rfl (fun z => absurd z (by decide)) (fun z => absurd z (by decide)) ?_
        refine wp_ret rfl rfl ?_
        show wp xs _ mX5_named 17 [(2, 33), (3, 0)] [] z_LL (z_up (z_up M 33 1 2) 33 2 (M 30 4)) _
        refine wp_run 1 (pc' := 18) (ls' := [(2, 33), (3, 0)]) (st' := [(0, (-1))]) rfl ?_
        exact wp_ret rfl rfl (l3 c1 c2 c3)
      · refine wp_run 2 (pc' := 25) (ls' := [(2, 33), (0, 2)]) (st' := [(0, 1), (2, 33)]) rfl ?_
        refine wp_pf (pc' := 28) rfl rfl rfl rfl (fun z => absurd z (by decide)) (fun z => absurd z (by decide)) ?_
        refine wp_run 2 (pc' := 30) (ls' := [(2, 33), (0, 2)]) (st' := [(2, 33), (2, 33)]) rfl ?_
        refine wp_gf (pc' := 33) (t := 2) (v := 30) rfl rfl (by decide) rfl rfl (z_upi (by decide) (fx_33_0 hF)) ?_
        refine wp_gf (pc' := 36) (t := 0) (v := (M 30 4)) rfl rfl (by decide) rfl rfl (z_upq (by decide) rfl) ?_
        refine wp_pf (pc' := 39) rfl rfl rfl rfl (fun z => absurd z (by decide)) (fun z => absurd z (by decide)) ?_
        refine wp_ret rfl rfl ?_
        show wp xs _ mX5_named 17 [(2, 33), (3, 0)] [] z_LL (z_up (z_up M 33 1 1) 33 2 (M 30 4)) _
        refine wp_run 1 (pc' := 18) (ls' := [(2, 33), (3, 0)]) (st' := [(0, (-1))]) rfl ?_
        exact wp_ret rfl rfl (l4 c1 c2 c3)
set_option maxRecDepth 20000 in
theorem gX5_named_33 {xs : List Int} {d : Nat} {M : z_M} {P : Option z_V → z_L → z_M → Prop} {s0 : Int} (hF : z_fix M) 
    (l1 : (s0 ≠ (-1)) → P (some (0, s0)) z_LL M)
    (l2 : (¬ (s0 ≠ (-1))) → ((M 33 1) ≠ 0) → P (some (0, s0)) z_LL M)
    (l3 : (¬ (s0 ≠ (-1))) → (¬ ((M 33 1) ≠ 0)) → ((M 30 3) ≠ 27) → P (some (0, s0)) z_LL (z_up (z_up M 33 1 5) 33 2 (M 30 4)))
    (l4 : (¬ (s0 ≠ (-1))) → (¬ ((M 33 1) ≠ 0)) → (¬ ((M 30 3) ≠ 27)) → P (some (0, s0)) z_LL (z_up (z_up M 33 1 1) 33 2 (M 30 4))) :
    wp xs (d + 2) mX5_named 33 [(2, 33), (3, 0)] [(0, s0)] z_LL M P := by
  refine wp_run 3 (pc' := 36) (ls' := [(2, 33), (0, s0)]) (st' := [(0, (-1)), (0, s0)]) rfl ?_
  refine wp_if2 rfl rfl rfl (fun (c1 : s0 ≠ (-1)) => ?_) (fun (c1 : ¬ (s0 ≠ (-1))) => ?_)
  · refine wp_run 1 (pc' := 45) (ls' := [(2, 33), (0, s0)]) (st' := [(0, s0)]) rfl ?_
    exact wp_ret rfl rfl (l1 c1)
  · refine wp_run 2 (pc' := 41) (ls' := [(2, 33), (0, s0)]) (st' := [(0, 5), (2, 33)]) rfl ?_
    refine wp_callv (pc' := 44) (as := [(2, 33), (0, 5)]) (rest := []) (ls1 := [(2, 33), (0, 5)]) rfl rfl rfl rfl rfl rfl ?_
    refine wp_run 1 (pc' := 1) (ls' := [(2, 33), (0, 5)]) (st' := [(2, 33)]) rfl ?_
    refine wp_callv (pc' := 4) (as := [(2, 33)]) (rest := []) (ls1 := [(2, 33)]) rfl rfl rfl rfl rfl rfl ?_
    refine wp_run 1 (pc' := 1) (ls' := [(2, 33)]) (st' := [(2, 33)]) rfl ?_
    refine wp_gf (pc' := 4) (t := 0) (v := (M 33 1)) rfl rfl (by decide) rfl rfl rfl ?_
    refine wp_if1 rfl rfl rfl (fun (c2 : (M 33 1) ≠ 0) => ?_) (fun (c2 : ¬ ((M 33 1) ≠ 0)) => ?_)
    · refine wp_run 1 (pc' := 12) (ls' := [(2, 33)]) (st' := [(0, 0)]) rfl ?_
      refine wp_ret rfl rfl ?_
      show wp xs _ mX5_fail 4 [(2, 33), (0, 5)] [(0, 0)] z_LL M _
      refine wp_run 1 (pc' := 39) (ls' := [(2, 33), (0, 5)]) (st' := []) rfl ?_
      refine wp_ret rfl rfl ?_
      show wp xs _ mX5_named 44 [(2, 33), (0, s0)] [] z_LL M _
      refine wp_run 1 (pc' := 45) (ls' := [(2, 33), (0, s0)]) (st' := [(0, s0)]) rfl ?_
      exact wp_ret rfl rfl (l2 c1 c2)
    · refine wp_run 2 (pc' := 12) (ls' := [(2, 33)]) (st' := [(0, 1)]) rfl ?_
      refine wp_ret rfl rfl ?_
      show wp xs _ mX5_fail 4 [(2, 33), (0, 5)] [(0, 1)] z_LL M _
      refine wp_run 3 (pc' := 9) (ls' := [(2, 33), (0, 5)]) (st' := [(2, 33), (2, 33)]) rfl ?_
      refine wp_gf (pc' := 12) (t := 2) (v := 30) rfl rfl (by decide) rfl rfl (fx_33_0 hF) ?_
      refine wp_gf (pc' := 15) (t := 0) (v := (M 30 3)) rfl rfl (by decide) rfl rfl rfl ?_
      refine wp_run 1 (pc' := 17) (ls' := [(2, 33), (0, 5)]) (st' := [(0, 27), (0, (M 30 3)), (2, 33)]) rfl ?_
      refine wp_if2 rfl rfl rfl (fun (c3 : (M 30 3) ≠ 27) => ?_) (fun (c3 : ¬ ((M 30 3) ≠ 27)) => ?_)
      · refine wp_run 1 (pc' := 25) (ls' := [(2, 33), (0, 5)]) (st' := [(0, 5), (2, 33)]) rfl ?_
        refine wp_pf (pc' := 28) rfl rfl rfl rfl (fun z => absurd z (by decide)) (fun z => absurd z (by decide)) ?_
        refine wp_run 2 (pc' := 30) (ls' := [(2, 33), (0, 5)]) (st' := [(2, 33), (2, 33)]) rfl ?_
        refine wp_gf (pc' := 33) (t := 2) (v := 30) rfl rfl (by decide) rfl rfl (z_upi (by decide) (fx_33_0 hF)) ?_
        refine wp_gf (pc' := 36) (t := 0) (v := (M 30 4)) rfl rfl (by decide) rfl rfl (z_upq (by decide) rfl) ?_
        refine wp_pf (pc' := 39) rfl rfl rfl rfl (fun z => absurd z (by decide)) (fun z => absurd z (by decide)) ?_
        refine wp_ret rfl rfl ?_
        show wp xs _ mX5_named 44 [(2, 33), (0, s0)] [] z_LL (z_up (z_up M 33 1 5) 33 2 (M 30 4)) _
        refine wp_run 1 (pc' := 45) (ls' := [(2, 33), (0, s0)]) (st' := [(0, s0)]) rfl ?_
        exact wp_ret rfl rfl (l3 c1 c2 c3)
      · refine wp_run 2 (pc' := 25) (ls' := [(2, 33), (0, 5)]) (st' := [(0, 1), (2, 33)]) rfl ?_
        refine wp_pf (pc' := 28) rfl rfl rfl rfl (fun z => absurd z (by decide)) (fun z => absurd z (by decide)) ?_
        refine wp_run 2 (pc' := 30) (ls' := [(2, 33), (0, 5)]) (st' := [(2, 33), (2, 33)]) rfl ?_
        refine wp_gf (pc' := 33) (t := 2) (v := 30) rfl rfl (by decide) rfl rfl (z_upi (by decide) (fx_33_0 hF)) ?_
        refine wp_gf (pc' := 36) (t := 0) (v := (M 30 4)) rfl rfl (by decide) rfl rfl (z_upq (by decide) rfl) ?_
        refine wp_pf (pc' := 39) rfl rfl rfl rfl (fun z => absurd z (by decide)) (fun z => absurd z (by decide)) ?_
        refine wp_ret rfl rfl ?_
        show wp xs _ mX5_named 44 [(2, 33), (0, s0)] [] z_LL (z_up (z_up M 33 1 1) 33 2 (M 30 4)) _
        refine wp_run 1 (pc' := 45) (ls' := [(2, 33), (0, s0)]) (st' := [(0, s0)]) rfl ?_
        exact wp_ret rfl rfl (l4 c1 c2 c3)
section
variable {xs : List Int} {d : Nat} {b : Int → Int} {n : Int} {M : z_M} {σ : zs_S}
theorem s_X5_fail {P : Option z_V → z_L → z_M → Prop} {c : Int} (hF : z_fix M) (h : zs_c M b n σ) (hc : 0 < c) (k : ∀ M' : z_M, zs_g M M' → zs_c M' b n (zs_w b n c σ) → P none z_LL M') : wp xs (d + 1) mX5_fail 0 [(2, 33), (0, c)] [] z_LL M P := by
  cases σ with
  | error e =>
    have h33 : M 33 1 = e.1 := h.2.1.1
    have he : 0 < e.1 := h.2.2.1
    exact gX5_fail_0 hF (fun _ => k M zs_g_r h) (fun w => by omega) (fun w => by omega)
  | ok p =>
    have h33 : M 33 1 = 0 := h.2.1.1
    have h30 : M 30 3 = zt_k b n p := by
      obtain ⟨_, _, _, p', _, h5, h6⟩ := h
      rw [h5.1, h6 p rfl]
    refine gX5_fail_0 hF (fun w => absurd h33 w) (fun _ w => ?_) (fun _ w => ?_)
    · have := zs_c_w (v := c) h hc (by unfold zs_f; rw [if_neg (by omega)])
      exact k _ this.2 this.1
    · have := zs_c_w (v := 1) h hc (by unfold zs_f; rw [if_pos (by omega)])
      exact k _ this.2 this.1
/-- the class goes on to the next token -/
theorem s_X5_next {P : Option z_V → z_L → z_M → Prop} {p : Int} (hF : z_fix M) (h : zs_c M b n (.ok p)) (k : ∀ M' : z_M, zs_g M M' → zs_c M' b n (.ok (zt_x b n p)) → P none z_LL M') : wp xs (d + 5) mX7_step 0 [(2, 30)] [] z_LL M P := by
  obtain ⟨h1, h2, h3, p', h4, h5, h6⟩ := h
  obtain rfl : p = p' := h6 p rfl
  have xb := zt_x_b (b := b) h4
  have sb := zt_s_b (b := b) h4
  refine s_X7_step (d := d) hF h1 h5.2.2.1 (by omega) (fun M' f t => k M' ⟨fun q a _ => f.1 q a, f.2, fun j _ _ => by rw [f.1 33 (by decide)]⟩ ⟨zt_f_t f h1, by rw [f.1 33 (by decide)]; exact h2, by show 0 ≤ zt_x b n p ∧ zt_x b n p ≤ n; omega, _, by omega, t, fun q w => by cases w; rfl⟩)
theorem s_X5_need {P : Option z_V → z_L → z_M → Prop} {c : Int} (hF : z_fix M) (h : zs_c M b n σ) (k : ∀ M' : z_M, zs_g M M' → zs_c M' b n (zs_nd b n c σ) → P none z_LL M') : wp xs (d + 6) mX5_need 0 [(2, 33), (0, c)] [] z_LL M P := by
  cases σ with
  | error e =>
    have h33 : M 33 1 = e.1 := h.2.1.1
    have he : 0 < e.1 := h.2.2.1
    have kk := k M zs_g_r h
    exact gX5_need_0 (d := d + 4) hF (fun _ _ => kk) (fun _ w => by omega) (fun _ _ _ => kk) (fun _ _ w => by omega) (fun _ w => by omega) (fun _ w => by omega)
  | ok p =>
    have h33 : M 33 1 = 0 := h.2.1.1
    have h30 : M 30 3 = zt_k b n p := by
      obtain ⟨_, _, _, p', _, h5, h6⟩ := h
      rw [h5.1, h6 p rfl]
    refine gX5_need_0 (d := d + 4) hF (fun _ w => absurd h33 w) (fun e _ => ?_) (fun _ w => absurd h33 w) (fun _ w => absurd h33 w) (fun e _ w => ?_) (fun e _ w => ?_)
    · refine s_X5_next (d := d) hF h (fun M' f t => gX5_need_30 (k M' f ?_))
      show zs_c M' b n (if zt_k b n p = c then _ else _)
      rw [if_pos (by omega)]
      exact t
    · have := zs_c_w (c := 2) (v := 2) h (by decide) (by unfold zs_f; rw [if_neg (by omega)])
      refine k _ this.2 ?_
      show zs_c _ b n (if zt_k b n p = c then _ else _)
      rw [if_neg (by omega)]
      exact this.1
    · have := zs_c_w (c := 2) (v := 1) h (by decide) (by unfold zs_f; rw [if_pos (by omega)])
      refine k _ this.2 ?_
      show zs_c _ b n (if zt_k b n p = c then _ else _)
      rw [if_neg (by omega)]
      exact this.1
theorem s_X5_number {P : Option z_V → z_L → z_M → Prop} {lo hi : Int} (hF : z_fix M) (h : zs_c M b n σ) (hl : lo ≤ hi) (k : ∀ (v : Int) (M' : z_M), zs_g M M' → zs_c M' b n (zs_nm b n lo hi σ) → lo ≤ v ∧ v ≤ hi → (∀ p', zs_nm b n lo hi σ = .ok p' → v = zs_v b n σ) → P (some (0, v)) z_LL M') : wp xs (d + 6) mX5_number 0 [(2, 33), (0, lo), (0, hi), (3, 0)] [] z_LL M P := by
  cases σ with
  | error e =>
    have h33 : M 33 1 = e.1 := h.2.1.1
    have he : 0 < e.1 := h.2.2.1
    have kk := k lo M zs_g_r h (by omega) (fun p' w => by cases w)
    apply gX5_number_0 (d := d + 4) hF
    all_goals (intros; first | exact kk | omega)
  | ok p =>
    have h33 : M 33 1 = 0 := h.2.1.1
    obtain ⟨h30, h5⟩ : M 30 3 = zt_k b n p ∧ (zt_k b n p = 25 → M 30 5 = zt_v b n p) := by
      obtain ⟨_, _, _, p', _, h5, h6⟩ := h
      rw [h6 p rfl]
      exact ⟨h5.1, h5.2.2.2.1⟩
    by_cases c : zt_k b n p = 25
    · have h5 := h5 c
      have bad : ¬ (lo ≤ zt_v b n p ∧ zt_v b n p ≤ hi) → P (some (0, lo)) z_LL (z_up (z_up M 33 1 4) 33 2 (M 30 4)) := fun w => by
        have := zs_c_w (c := 4) (v := 4) h (by decide) (by unfold zs_f; rw [if_neg (by omega)])
        have e : zs_nm b n lo hi (.ok p) = .error (zs_f b n p 4) := by
          show (if zt_k b n p = 25 then _ else _) = _
          rw [if_pos c, if_neg w]
          unfold zs_f
          rw [if_neg (by omega)]
        rw [e] at k
        exact k lo _ this.2 this.1 (by omega) (fun p' w => by cases w)
      apply gX5_number_0 (d := d + 4) hF
      case l6 =>
        intro _ c2 c3 _
        refine s_X5_next (d := d) hF h (fun M' f t => gX5_number_71 ?_)
        have e : zs_nm b n lo hi (.ok p) = .ok (zt_x b n p) := by
          show (if zt_k b n p = 25 then _ else _) = _
          rw [if_pos c, if_pos (by omega)]
        rw [e] at k
        exact k _ M' f t (by omega) (fun p' _ => h5)
      case l3 => exact fun _ c2 _ _ => bad (by omega)
      case l9 => exact fun _ c2 c3 _ _ => bad (by omega)
      all_goals (clear bad k; intros; omega)
    · have bad : ∀ v, v = (zs_f b n p 2).1 → P (some (0, lo)) z_LL (z_up (z_up M 33 1 v) 33 2 (M 30 4)) := fun v hv => by
        have := zs_c_w (c := 2) (v := v) h (by decide) hv
        have e : zs_nm b n lo hi (.ok p) = .error (zs_f b n p 2) := by
          show (if zt_k b n p = 25 then _ else _) = _
          rw [if_neg c]
        rw [e] at k
        exact k lo _ this.2 this.1 (by omega) (fun p' w => by cases w)
      apply gX5_number_0 (d := d + 4) hF
      case l13 => exact fun _ _ w => bad 2 (by unfold zs_f; rw [if_neg (by omega)])
      case l14 => exact fun _ _ w => bad 1 (by unfold zs_f; rw [if_pos (by omega)])
      all_goals (clear bad k; intros; omega)
/-- the class's names are the row's -/
def zn_c (M : z_M) (g : Int) (N : Int → Int) (c : Nat) : Prop := (M g 12 = (c : Int) ∧ c ≤ 6) ∧ (∀ k : Nat, k < c → ∃ l, z_glt l ∧ M (g + 1) k = z_c5 l ∧ N k = z_c8 l) ∧ ∀ j k : Nat, j < c → k < c → N j = N k → j = k
theorem s_X1_flockNamed {P : Option z_V → z_L → z_M → Prop} {g : Int} {N : Int → Int} {c : Nat} {l : List Int} (hG : z_gor M g) (hN : zn_c M g N c) (hl : z_glt l) (k : P (some (0, zn_f N (z_c8 l) c)) z_LL M) : wp xs d mX1_flockNamed 0 [(2, g), (1, z_c5 l), (3, 0), (3, 0)] [] z_LL M P := by
  obtain ⟨⟨h12, h6⟩, hn, hd⟩ := hN
  have zb := zn_f_b (N := N) (x := z_c8 l) c
  refine gX1_flockNamed_0 hG ?_
  refine z_loop (W := fun i => (∀ j : Nat, j < i → N j ≠ z_c8 l) → wp xs d mX1_flockNamed 2 [(2, g), (1, z_c5 l), (3, 0), (0, (i : Int))] [] z_LL M P) c (fun i hi ih hv => ?_) (fun j w => absurd w (by omega))
  have g0 := gX1_flockNamed_2 (M := M) (xs := xs) (d := d) (P := P) (x0 := g) (x1 := z_c5 l) (x3 := (i : Int)) hG
  rw [h12, z_in1 (i := i) (by omega)] at g0
  have eq : i < c → (M (g + 1) i = z_c5 l ↔ N i = z_c8 l) := fun w => by
    obtain ⟨m, m1, m2, m3⟩ := hn i w
    rw [m2, m3]
    exact ⟨fun e => by rw [z_c5_i m l m1 hl e], fun e => by rw [z_c8_i m l m1 hl e]⟩
  refine g0 (fun w => ?_) (fun _ => by omega) (fun w c2 => ?_) (fun w c2 => ?_)
  · obtain rfl : i = c := by omega
    by_cases e : zn_f N (z_c8 l) i < 0
    · rw [show zn_f N (z_c8 l) i = -1 by omega] at k
      exact k
    · have := zb.2.2.1 (by omega)
      have h := hv (zn_f N (z_c8 l) i).toNat (by omega)
      rw [show (((zn_f N (z_c8 l) i).toNat : Nat) : Int) = zn_f N (z_c8 l) i by omega] at h
      exact absurd this h
  · refine ih (by omega) (fun j hj => ?_)
    by_cases e : j = i
    · rw [e]
      exact fun q => c2 (z_lc0.mpr ((eq (by omega)).mpr q))
    · exact hv j (by omega)
  · have hi' := (eq (by omega)).mp (z_lc0.mp (Classical.byContradiction c2))
    have nn : ¬ zn_f N (z_c8 l) c < 0 := fun q => zb.2.2.2 q i (by omega) hi'
    have := zb.2.2.1 (by omega)
    have e := hd i (zn_f N (z_c8 l) c).toNat (by omega) (by omega) (by rw [show (((zn_f N (z_c8 l) c).toNat : Nat) : Int) = zn_f N (z_c8 l) c by omega, this, hi'])
    rw [show zn_f N (z_c8 l) c = (i : Int) by omega] at k
    exact k
theorem s_X5_named {P : Option z_V → z_L → z_M → Prop} {g : Int} {N : Int → Int} {c : Nat} (hF : z_fix M) (h3 : M 33 3 = g) (hG : z_gor M g) (hN : ∀ p, σ = .ok p → zn_c M g N c) (hN6 : 0 ≤ M g 12 ∧ M g 12 ≤ 6) (h : zs_c M b n σ) (k : ∀ (v : Int) (M' : z_M), zs_g M M' → zs_c M' b n (zs_od b n N c σ) → (∀ p', zs_od b n N c σ = .ok p' → v = zs_on b n N c σ) → P (some (0, v)) z_LL M') : wp xs (d + 2) mX5_named 0 [(2, 33), (3, 0)] [] z_LL M P := by
  cases σ with
  | error e =>
    have h33 : M 33 1 = e.1 := h.2.1.1
    have he : 0 < e.1 := h.2.2.1
    have kk := fun v => k v M zs_g_r h (fun p' w => by cases w)
    have g0 := gX5_named_0 (M := M) (xs := xs) (d := d) (P := P) hF (by rw [h3]; exact hG)
    rw [h3] at g0
    refine g0 (fun _ => ?_) (fun _ _ => kk _) (fun _ w => by omega) (fun _ w => by omega)
    refine gX1_flockNamed_0 hG ?_
    refine z_loop (W := fun i => wp xs (d + 1) mX1_flockNamed 2 [(2, g), (1, M 30 6), (3, 0), (0, (i : Int))] [] z_LL M _) (M g 12).toNat (fun i hi ih => ?_)
    have fin : ∀ v : Int, wp xs (d + 2) mX5_named 33 [(2, 33), (3, 0)] (z_ol (some (0, v)) ++ []) z_LL M P := fun v => gX5_named_33 (d := d) hF (fun _ => kk v) (fun _ _ => kk v) (fun _ w => by omega) (fun _ w => by omega)
    have g1 := fun P => gX1_flockNamed_2 (M := M) (xs := xs) (d := d + 1) (P := P) (x0 := g) (x1 := M 30 6) (x3 := (i : Int)) hG
    rw [z_in1 (i := i) (by omega)] at g1
    exact g1 _ (fun _ => fin _) (fun _ => by omega) (fun w _ => ih (by omega)) (fun _ _ => fin _)
  | ok p =>
    have h33 : M 33 1 = 0 := h.2.1.1
    obtain ⟨hp, h30, h6⟩ : (0 ≤ p ∧ p ≤ n) ∧ M 30 3 = zt_k b n p ∧ (zt_k b n p ≤ 24 → M 30 6 = z_c5 (zt_l b n p)) := by
      obtain ⟨_, _, _, p', h4, h5, h6⟩ := h
      rw [h6 p rfl]
      exact ⟨h4, h5.1, h5.2.2.2.2⟩
    have g0 := gX5_named_0 (M := M) (xs := xs) (d := d) (P := P) hF (by rw [h3]; exact hG)
    rw [h3] at g0
    by_cases c24 : zt_k b n p = 24
    · refine g0 (fun _ => ?_) (fun w => by omega) (fun w => by omega) (fun w => by omega)
      rw [h6 (by omega)]
      have zb := zn_f_b (N := N) (x := z_c8 (zt_l b n p)) c
      refine s_X1_flockNamed (d := d + 1) hG (hN p rfl) (zt_k_w (by omega) hp).1 ?_
      have bad : zn_f N (z_c8 (zt_l b n p)) c < 0 → P (some (0, zn_f N (z_c8 (zt_l b n p)) c)) z_LL (z_up (z_up M 33 1 5) 33 2 (M 30 4)) := fun w => by
        have := zs_c_w (c := 5) (v := 5) h (by decide) (by unfold zs_f; rw [if_neg (by omega)])
        have e : zs_od b n N c (.ok p) = .error (zs_f b n p 5) := by
          show (if zt_k b n p = 24 then _ else _) = _
          rw [if_pos c24, if_pos w]
          unfold zs_f
          rw [if_neg (by omega)]
        rw [e] at k
        exact k _ _ this.2 this.1 (fun p' w => by cases w)
      refine gX5_named_33 (d := d) hF (fun w => ?_) (fun _ w => by omega) (fun w _ _ => bad (by omega)) (fun _ _ w => by omega)
      have e : zs_od b n N c (.ok p) = .ok p := by
        show (if zt_k b n p = 24 then _ else _) = _
        rw [if_pos c24, if_neg (by omega)]
      rw [e] at k
      exact k _ M zs_g_r h (fun p' _ => rfl)
    · have bad : ∀ v, v = (zs_f b n p 2).1 → P (some (0, -1)) z_LL (z_up (z_up M 33 1 v) 33 2 (M 30 4)) := fun v hv => by
        have := zs_c_w (c := 2) (v := v) h (by decide) hv
        have e : zs_od b n N c (.ok p) = .error (zs_f b n p 2) := by
          show (if zt_k b n p = 24 then _ else _) = _
          rw [if_neg c24]
        rw [e] at k
        exact k _ _ this.2 this.1 (fun p' w => by cases w)
      exact g0 (fun w => by omega) (fun _ w => by omega) (fun _ _ w => bad 2 (by unfold zs_f; rw [if_neg (by omega)])) (fun _ _ w => bad 1 (by unfold zs_f; rw [if_pos (by omega)]))
end
