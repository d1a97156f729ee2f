/-! THE CALLS: dear, calm, reach -/
set_option maxRecDepth 20000 in
theorem gX9_calm_0 {xs : List Int} {d : Nat} {M : z_M} {P : Option z_V → z_L → z_M → Prop} (hF : z_fix M) (hg1 : z_gor M (M 1 0))
    (l1 : wp xs d mX3_search 0 [(2, 289), (2, (M 1 0))] [] z_LL M (fun r L1 M1 => wp xs (d + 1) mX9_calm 11 [(2, 1)] (z_ol r ++ []) L1 M1 P)) :
    wp xs (d + 1) mX9_calm 0 [(2, 1)] [] z_LL M P := by
  refine wp_run 1 (pc' := 1) (ls' := [(2, 1)]) (st' := [(2, 1)]) rfl ?_
  refine wp_gf (pc' := 4) (t := 2) (v := 289) rfl rfl (by decide) rfl rfl (fx_1_8 hF) ?_
  refine wp_run 1 (pc' := 5) (ls' := [(2, 1)]) (st' := [(2, 1), (2, 289)]) rfl ?_
  refine wp_gf (pc' := 8) (t := 2) (v := (M 1 0)) rfl rfl (by decide) rfl rfl rfl ?_
  refine wp_callv (pc' := 11) (as := [(2, 289), (2, (M 1 0))]) (rest := []) (ls1 := [(2, 289), (2, (M 1 0))]) rfl rfl rfl rfl rfl rfl ?_
  exact l1
set_option maxRecDepth 20000 in
theorem gX9_calm_11 {xs : List Int} {d : Nat} {M : z_M} {P : Option z_V → z_L → z_M → Prop} (hF : z_fix M) (hg1 : z_gor M (M 1 0))
    (b1 : (0 ≤ (M (M 1 0) 12) ∧ (0:Int) ≤ 0 ∧ (0:Int) ≤ 0) ∧ 0 + (M (M 1 0) 12) ≤ 6 ∧ 0 + (M (M 1 0) 12) ≤ 6)
    (l1 : P (some (0, (M 289 4))) z_LL (z_cpy (z_up M 1 13 (M (M 1 0) 12)) 291 0 302 0 (M (M 1 0) 12))) :
    wp xs (d + 1) mX9_calm 11 [(2, 1)] [] z_LL M P := by
  refine wp_run 2 (pc' := 13) (ls' := [(2, 1)]) (st' := [(2, 1), (2, 1)]) rfl ?_
  refine wp_gf (pc' := 16) (t := 2) (v := 289) rfl rfl (by decide) rfl rfl (fx_1_8 hF) ?_
  refine wp_gf (pc' := 19) (t := 2) (v := 291) rfl rfl (by decide) rfl rfl (fx_289_1 hF) ?_
  refine wp_callv (pc' := 22) (as := [(2, 1), (2, 291)]) (rest := []) (ls1 := [(2, 1), (2, 291)]) rfl rfl rfl rfl rfl rfl ?_
  refine wp_run 2 (pc' := 2) (ls' := [(2, 1), (2, 291)]) (st' := [(2, 1), (2, 1)]) rfl ?_
  refine wp_gf (pc' := 5) (t := 2) (v := (M 1 0)) rfl rfl (by decide) rfl rfl rfl ?_
  refine wp_gf (pc' := 8) (t := 0) (v := (M (M 1 0) 12)) rfl rfl (by decide) rfl (z_gl0 hg1) rfl ?_
  refine wp_pf (pc' := 11) rfl rfl rfl rfl (fun z => absurd z (by decide)) (fun z => absurd z (by decide)) ?_
  refine wp_run 3 (pc' := 14) (ls' := [(2, 1), (2, 291)]) (st' := [(2, 1), (0, 0), (2, 291)]) rfl ?_
  refine wp_gf (pc' := 17) (t := 2) (v := 302) rfl rfl (by decide) rfl rfl (z_upi (by decide) (fx_1_11 hF)) ?_
  refine wp_run 2 (pc' := 19) (ls' := [(2, 1), (2, 291)]) (st' := [(2, 1), (0, 0), (2, 302), (0, 0), (2, 291)]) rfl ?_
  refine wp_gf (pc' := 22) (t := 0) (v := (M (M 1 0) 12)) rfl rfl (by decide) rfl rfl z_ups ?_
  refine wp_acp (pc' := 25) rfl rfl rfl rfl (b1) ?_
  refine wp_ret rfl rfl ?_
  show wp xs _ mX9_calm 22 [(2, 1)] [] z_LL (z_cpy (z_up M 1 13 (M (M 1 0) 12)) 291 0 302 0 (M (M 1 0) 12)) _
  refine wp_run 1 (pc' := 23) (ls' := [(2, 1)]) (st' := [(2, 1)]) rfl ?_
  refine wp_gf (pc' := 26) (t := 2) (v := 289) rfl rfl (by decide) rfl rfl (z_cpq (by decide) (z_upi (by decide) (fx_1_8 hF))) ?_
  refine wp_gf (pc' := 29) (t := 0) (v := (M 289 4)) rfl rfl (by decide) rfl rfl (z_cpq (by decide) (z_upq (by decide) rfl)) ?_
  exact wp_ret rfl rfl (l1)
set_option maxRecDepth 20000 in
theorem gX9_dear_0 {xs : List Int} {d : Nat} {M : z_M} {P : Option z_V → z_L → z_M → Prop} (hF : z_fix M) (hg1 : z_gor M (M 1 0))
    (l1 : wp xs d mX3_search 0 [(2, 289), (2, (M 1 0))] [] z_LL M (fun r L1 M1 => wp xs (d + 1) mX9_dear 11 [(2, 1)] (z_ol r ++ []) L1 M1 P)) :
    wp xs (d + 1) mX9_dear 0 [(2, 1)] [] z_LL M P := by
  refine wp_run 1 (pc' := 1) (ls' := [(2, 1)]) (st' := [(2, 1)]) rfl ?_
  refine wp_gf (pc' := 4) (t := 2) (v := 289) rfl rfl (by decide) rfl rfl (fx_1_8 hF) ?_
  refine wp_run 1 (pc' := 5) (ls' := [(2, 1)]) (st' := [(2, 1), (2, 289)]) rfl ?_
  refine wp_gf (pc' := 8) (t := 2) (v := (M 1 0)) rfl rfl (by decide) rfl rfl rfl ?_
  refine wp_callv (pc' := 11) (as := [(2, 289), (2, (M 1 0))]) (rest := []) (ls1 := [(2, 289), (2, (M 1 0))]) rfl rfl rfl rfl rfl rfl ?_
  exact l1
set_option maxRecDepth 20000 in
theorem gX9_dear_11 {xs : List Int} {d : Nat} {M : z_M} {P : Option z_V → z_L → z_M → Prop} (hF : z_fix M) (hg1 : z_gor M (M 1 0))
    (b1 : (0 ≤ (M (M 1 0) 12) ∧ (0:Int) ≤ 0 ∧ (0:Int) ≤ 0) ∧ 0 + (M (M 1 0) 12) ≤ 6 ∧ 0 + (M (M 1 0) 12) ≤ 6)
    (l1 : P (some (0, (M 289 5))) z_LL (z_cpy (z_up M 1 13 (M (M 1 0) 12)) 292 0 302 0 (M (M 1 0) 12))) :
    wp xs (d + 1) mX9_dear 11 [(2, 1)] [] z_LL M P := by
  refine wp_run 2 (pc' := 13) (ls' := [(2, 1)]) (st' := [(2, 1), (2, 1)]) rfl ?_
  refine wp_gf (pc' := 16) (t := 2) (v := 289) rfl rfl (by decide) rfl rfl (fx_1_8 hF) ?_
  refine wp_gf (pc' := 19) (t := 2) (v := 292) rfl rfl (by decide) rfl rfl (fx_289_2 hF) ?_
  refine wp_callv (pc' := 22) (as := [(2, 1), (2, 292)]) (rest := []) (ls1 := [(2, 1), (2, 292)]) rfl rfl rfl rfl rfl rfl ?_
  refine wp_run 2 (pc' := 2) (ls' := [(2, 1), (2, 292)]) (st' := [(2, 1), (2, 1)]) rfl ?_
  refine wp_gf (pc' := 5) (t := 2) (v := (M 1 0)) rfl rfl (by decide) rfl rfl rfl ?_
  refine wp_gf (pc' := 8) (t := 0) (v := (M (M 1 0) 12)) rfl rfl (by decide) rfl (z_gl0 hg1) rfl ?_
  refine wp_pf (pc' := 11) rfl rfl rfl rfl (fun z => absurd z (by decide)) (fun z => absurd z (by decide)) ?_
  refine wp_run 3 (pc' := 14) (ls' := [(2, 1), (2, 292)]) (st' := [(2, 1), (0, 0), (2, 292)]) rfl ?_
  refine wp_gf (pc' := 17) (t := 2) (v := 302) rfl rfl (by decide) rfl rfl (z_upi (by decide) (fx_1_11 hF)) ?_
  refine wp_run 2 (pc' := 19) (ls' := [(2, 1), (2, 292)]) (st' := [(2, 1), (0, 0), (2, 302), (0, 0), (2, 292)]) rfl ?_
  refine wp_gf (pc' := 22) (t := 0) (v := (M (M 1 0) 12)) rfl rfl (by decide) rfl rfl z_ups ?_
  refine wp_acp (pc' := 25) rfl rfl rfl rfl (b1) ?_
  refine wp_ret rfl rfl ?_
  show wp xs _ mX9_dear 22 [(2, 1)] [] z_LL (z_cpy (z_up M 1 13 (M (M 1 0) 12)) 292 0 302 0 (M (M 1 0) 12)) _
  refine wp_run 1 (pc' := 23) (ls' := [(2, 1)]) (st' := [(2, 1)]) rfl ?_
  refine wp_gf (pc' := 26) (t := 2) (v := 289) rfl rfl (by decide) rfl rfl (z_cpq (by decide) (z_upi (by decide) (fx_1_8 hF))) ?_
  refine wp_gf (pc' := 29) (t := 0) (v := (M 289 5)) rfl rfl (by decide) rfl rfl (z_cpq (by decide) (z_upq (by decide) rfl)) ?_
  exact wp_ret rfl rfl (l1)
set_option maxRecDepth 20000 in
theorem gX9_reach_0 {xs : List Int} {d : Nat} {M : z_M} {P : Option z_V → z_L → z_M → Prop} {a1 : Int} (hF : z_fix M) (hg1 : z_gor M (M 1 0))
    (l1 : (a1 < 0) → P (some (0, (-1))) z_LL M)
    (l2 : (¬ (a1 < 0)) → ((M (M 1 0) 12) ≤ a1) → P (some (0, (-1))) z_LL M)
    (l3 : (¬ (a1 < 0)) → (¬ ((M (M 1 0) 12) ≤ a1)) → wp xs d mX3_search 0 [(2, 289), (2, (M 1 0))] [] z_LL M (fun r L1 M1 => wp xs (d + 1) mX9_reach 24 [(2, 1), (0, a1)] (z_ol r ++ []) L1 M1 P)) :
    wp xs (d + 1) mX9_reach 0 [(2, 1), (0, a1)] [] z_LL M P := by
  refine wp_run 1 (pc' := 1) (ls' := [(2, 1), (0, a1)]) (st' := [(2, 1)]) rfl ?_
  refine wp_gf (pc' := 4) (t := 2) (v := (M 1 0)) rfl rfl (by decide) rfl rfl rfl ?_
  refine wp_run 1 (pc' := 5) (ls' := [(2, 1), (0, a1)]) (st' := [(0, a1), (2, (M 1 0))]) rfl ?_
  refine wp_callv (pc' := 8) (as := [(2, (M 1 0)), (0, a1)]) (rest := []) (ls1 := [(2, (M 1 0)), (0, a1)]) rfl rfl rfl rfl (z_args_v rfl rfl rfl rfl (Nat.le_of_ble_eq_true rfl) rfl (by decide) (z_gl0 hg1)) rfl ?_
  refine wp_run 1 (pc' := 1) (ls' := [(2, (M 1 0)), (0, a1)]) (st' := [(0, a1)]) rfl ?_
  refine wp_if1 rfl rfl rfl (fun (c1 : a1 < 0) => ?_) (fun (c1 : ¬ (a1 < 0)) => ?_)
  · refine wp_run 1 (pc' := 17) (ls' := [(2, (M 1 0)), (0, a1)]) (st' := [(0, 0)]) rfl ?_
    refine wp_ret rfl rfl ?_
    show wp xs _ mX9_reach 8 [(2, 1), (0, a1)] [(0, 0)] z_LL M _
    refine wp_run 2 (pc' := 12) (ls' := [(2, 1), (0, a1)]) (st' := [(0, (-1))]) rfl ?_
    exact wp_ret rfl rfl (l1 c1)
  · refine wp_run 2 (pc' := 6) (ls' := [(2, (M 1 0)), (0, a1)]) (st' := [(2, (M 1 0)), (0, a1)]) rfl ?_
    refine wp_gf (pc' := 9) (t := 0) (v := (M (M 1 0) 12)) rfl rfl (by decide) rfl (z_gl0 hg1) rfl ?_
    refine wp_if2 rfl rfl rfl (fun (c2 : (M (M 1 0) 12) ≤ a1) => ?_) (fun (c2 : ¬ ((M (M 1 0) 12) ≤ a1)) => ?_)
    · refine wp_run 1 (pc' := 17) (ls' := [(2, (M 1 0)), (0, a1)]) (st' := [(0, 0)]) rfl ?_
      refine wp_ret rfl rfl ?_
      show wp xs _ mX9_reach 8 [(2, 1), (0, a1)] [(0, 0)] z_LL M _
      refine wp_run 2 (pc' := 12) (ls' := [(2, 1), (0, a1)]) (st' := [(0, (-1))]) rfl ?_
      exact wp_ret rfl rfl (l2 c1 c2)
    · refine wp_run 2 (pc' := 17) (ls' := [(2, (M 1 0)), (0, a1)]) (st' := [(0, 1)]) rfl ?_
      refine wp_ret rfl rfl ?_
      show wp xs _ mX9_reach 8 [(2, 1), (0, a1)] [(0, 1)] z_LL M _
      refine wp_run 2 (pc' := 14) (ls' := [(2, 1), (0, a1)]) (st' := [(2, 1)]) rfl ?_
      refine wp_gf (pc' := 17) (t := 2) (v := 289) rfl rfl (by decide) rfl rfl (fx_1_8 hF) ?_
      refine wp_run 1 (pc' := 18) (ls' := [(2, 1), (0, a1)]) (st' := [(2, 1), (2, 289)]) rfl ?_
      refine wp_gf (pc' := 21) (t := 2) (v := (M 1 0)) rfl rfl (by decide) rfl rfl rfl ?_
      refine wp_callv (pc' := 24) (as := [(2, 289), (2, (M 1 0))]) (rest := []) (ls1 := [(2, 289), (2, (M 1 0))]) rfl rfl rfl rfl rfl rfl ?_
      exact l3 c1 c2
set_option maxRecDepth 20000 in
theorem gX9_reach_24 {xs : List Int} {d : Nat} {M : z_M} {P : Option z_V → z_L → z_M → Prop} {x1 : Int} (hF : z_fix M) 
    (b1 : 0 ≤ x1 ∧ x1 < 6)
    (l1 : P (some (0, (M 293 x1))) z_LL M) :
    wp xs d mX9_reach 24 [(2, 1), (0, x1)] [] z_LL M P := by
  refine wp_run 1 (pc' := 25) (ls' := [(2, 1), (0, x1)]) (st' := [(2, 1)]) rfl ?_
  refine wp_gf (pc' := 28) (t := 2) (v := 289) rfl rfl (by decide) rfl rfl (fx_1_8 hF) ?_
  refine wp_gf (pc' := 31) (t := 2) (v := 293) rfl rfl (by decide) rfl rfl (fx_289_3 hF) ?_
  refine wp_run 1 (pc' := 32) (ls' := [(2, 1), (0, x1)]) (st' := [(0, x1), (2, 293)]) rfl ?_
  refine wp_iald (pc' := 33) (v := (M 293 x1)) rfl rfl rfl (b1) rfl ?_
  exact wp_ret rfl rfl (l1)
section
variable {xs : List Int} {d : Nat} {M : z_M}
theorem z_rws_mem {n : Nat} : ∀ (k : Nat) (V R : Int → Int), k ≤ n → (∀ i : Int, ¬ ((n : Int) - k ≤ i ∧ i < n) → R i = V i) → (∀ i : Int, (n : Int) - k ≤ i → i < n → -1 ≤ R i ∧ R i < n) → R ∈ z_rws n k V
  | 0, V, R, _, h, _ => by
    rw [z_rws, List.mem_singleton]
    funext i
    exact h i (by omega)
  | k + 1, V, R, hk, h, h2 => by
    have r := h2 ((n : Int) - k - 1) (by omega) (by omega)
    rw [z_rws, List.mem_flatMap]
    refine ⟨(R ((n : Int) - k - 1) + 1).toNat, List.mem_range.mpr (by omega), z_rws_mem k _ R (by omega) (fun i hi => ?_) (fun i a b => h2 i (by omega) b)⟩
    by_cases e : i = (n : Int) - k - 1
    · rw [e, z_pt_s]
      omega
    · rw [z_pt_n e]
      exact h i (by omega)
theorem z_nta_m {n : Nat} : ∀ (L : List (Int → Int)) (t : z_NT), t.2.1 ≤ (L.foldl (z_nta n M) t).2.1
  | [], t => Int.le_refl _
  | W :: L, t => by
    have ih := z_nta_m (n := n) L (z_nta n M t W)
    have : t.2.1 ≤ (z_nta n M t W).2.1 := by
      unfold z_nta
      split
      · show t.2.1 ≤ max _ _
        omega
      · exact Int.le_refl _
    rw [List.foldl_cons]
    omega
theorem z_smi_0 {g : Int → Int} : ∀ k : Nat, (∀ i : Int, 0 ≤ i → i < k → 0 ≤ g i) → 0 ≤ z_smi g k
  | 0, _ => Int.le_refl _
  | k + 1, h => by
    have := z_smi_0 k (fun i a b => h i a (by omega))
    have := h k (by omega) (by omega)
    rw [z_smi]
    omega
theorem z_tfin_tup (hR : z_R M) {n : Nat} (hn : M 321 48 = (n : Int)) : z_tfin n M = z_tup n M (0, -1, M 291, M 292, fun _ => -1) ((n + 1) ^ n) := by
  unfold z_tfin z_tup
  rw [z_pfr_all hR hn]
  rfl
theorem z_tfin_p (hR : z_R M) {n : Nat} (hn : M 321 48 = (n : Int)) : 1 ≤ (z_tfin n M).1 ∧ 0 ≤ (z_tfin n M).2.1 := by
  have hC := z_R_C hR
  have h6 := hC.2.2.1
  obtain ⟨W, w1, w2⟩ := z_calm_ex (n := n) (C := z_cpr M) (w := z_wnt M) (S := M 337) (fun a b h => z_cpr_s (z_R_Y hR) h) (fun a b h => ⟨by have := h.2.1; unfold z_cm at this; exact this.1, h.2.2.1⟩) (fun a a1 a2 => (hC.2.2.2.2.2.2 a a1 (by omega)).1) (fun a b a1 a2 b1 b2 => ((hC.2.2.2.2.2.2 a a1 (by omega)).2.2.2.2 b b1 (by omega)).2)
  have hm : W ∈ z_pfr n (z_cpr M) n (fun _ => -1) := by
    rw [z_pf_rws (fun a b h => z_cpr_s (z_R_Y hR) h) (fun a h => z_cpr_i h) n _ (Nat.le_refl _) z_prt0, List.mem_filter]
    refine ⟨z_rws_mem n _ W (Nat.le_refl _) (fun i hi => w1.1 i (by omega)) (fun i a b => ?_), z_vlb_t.mpr (fun f a b => ?_)⟩
    · have := w1.2 i (by omega) b
      omega
    · rcases w1.2 f a b with q | ⟨_, q2, q3, _⟩
      · exact Or.inl (by omega)
      · exact Or.inr ⟨q2, q3⟩
  have hc : z_clm n M W := fun a b _ => w2 a b
  obtain ⟨A, B, e⟩ := List.append_of_mem hm
  have s0 : 0 ≤ z_smi (z_hsv (z_wnt M) W) n := z_smi_0 n (fun i a b => by
    unfold z_hsv
    split
    · omega
    · rcases w1.2 i a b with q | ⟨_, _, q3, _⟩
      · omega
      · exact q3.2.2.1)
  unfold z_tfin
  rw [e, List.foldl_append, List.foldl_cons]
  have a1 := z_nta_n (n := n) (M := M) A (0, -1, M 291, M 292, fun _ => -1)
  generalize A.foldl (z_nta n M) (0, -1, M 291, M 292, fun _ => -1) = t at *
  have b1 := z_nta_n (n := n) (M := M) B (z_nta n M t W)
  have b2 := z_nta_m (n := n) (M := M) B (z_nta n M t W)
  have e1 : z_nta n M t W = z_nt1 n (z_wnt M) t W := by
    unfold z_nta
    exact if_pos hc
  rw [e1] at b1 b2 ⊢
  have c1 : (z_nt1 n (z_wnt M) t W).1 = t.1 + 1 := rfl
  have c2 : (z_nt1 n (z_wnt M) t W).2.1 = max t.2.1 (z_smi (z_hsv (z_wnt M) W) n) := rfl
  have a0 : (0 : Int) ≤ t.1 := a1.1
  omega
theorem z_R_lay {M' : z_M} (hR : z_R M) (o : ∀ q, q ≠ 1 → q ≠ 302 → q ≠ 321 → q ≠ 346 → q ≠ 347 → M' q = M q) (o1 : ∀ j, j ≠ 13 → M' 1 j = M 1 j) (o321 : ∀ j, j ≠ 68 → M' 321 j = M 321 j) (l : z_Rl M') : z_R M' := by
  obtain ⟨M1, e1, e2⟩ : ∃ M1 : z_M, M1 346 = M' 346 ∧ ∀ q, q ≠ 346 → M1 q = M q := ⟨fun q i => if q = 346 then M' 346 i else M q i, by funext i; exact if_pos rfl, fun q hq => by funext i; exact if_neg hq⟩
  have s1 : z_sc M M1 := ⟨fun q hq => e2 q (fun e => hq (by unfold z_sq; omega)), fun j _ => by rw [e2 34 (by decide)], fun j _ _ => ⟨by rw [e2 38 (by decide)], by rw [e2 289 (by decide)]⟩, fun j _ _ => by rw [e2 39 (by decide)], fun j _ => by rw [e2 343 (by decide)]⟩
  refine z_R_lie (z_sc_R s1 hR) (fun q a b c d e => ?_) (fun j hj => by rw [e2 1 (by decide)]; exact o1 j hj) (fun j hj => by rw [e2 321 (by decide)]; exact o321 j hj) l
  by_cases e3 : q = 346
  · rw [e3, e1]
  · rw [e2 q e3]
    exact o q a b c e3 d
/-- the class's answer lies there -/
theorem z_lay_w {n : Nat} {q : Int} (hR : z_R M) (hn : M 321 48 = (n : Int)) (hq : 291 ≤ q ∧ q ≤ 292) : (M (M 1 0) 12 = (n : Int) ∧ n ≤ 6) ∧ ∀ N : z_M, N = z_cpy (z_up M 1 13 (M (M 1 0) 12)) q 0 302 0 (M (M 1 0) 12) → (∀ p, p ≠ 1 → p ≠ 302 → N p = M p) ∧ (∀ j, j ≠ 13 → N 1 j = M 1 j) ∧ N 1 13 = (n : Int) ∧ (∀ j : Int, 0 ≤ j → j < n → N 302 j = M q j) ∧ z_fix N ∧ z_mc N ∧ z_fsy N ∧ z_cfe M N := by
  have h6 := (z_R_C hR).2.2.1
  have e12 := (z_R_n hR).2.2.1
  rw [hn] at e12
  refine ⟨⟨e12, by omega⟩, fun N hN => ?_⟩
  rw [e12] at hN
  have o : ∀ p, p ≠ 1 → p ≠ 302 → N p = M p := fun p a b => by rw [hN, z_cpn b, z_upn a]
  have o1 : ∀ j, j ≠ 13 → N 1 j = M 1 j := fun j a => by rw [hN, z_cpn (by decide), z_upi a rfl]
  have c : z_cfe M N := z_cfe_c (fun p hp => o p (by unfold z_conf at hp; omega) (by unfold z_conf at hp; omega))
  refine ⟨o, o1, ?_, fun j a b => ?_, z_fix_gen (z_R_F hR) (fun p j hp => ?_), z_mc_x c (z_R_C hR), z_fsy_x c (z_R_Y hR), c⟩
  · rw [hN, z_cpn (by decide), z_ups]
  · rw [hN, z_cpi (by omega), z_upn (by omega), show (0 : Int) + (j - 0) = j by omega]
  · by_cases e : p = 1
    · rw [e] at hp ⊢
      exact o1 j (by unfold z_fin at hp; omega)
    · rw [o p e (by unfold z_fin at hp; omega)]
theorem c_calm (hR : z_R M) : z_two xs (d + 200) mX9_calm mX10_calm [(2, 1)] [(2, 321), (3, 0), (3, 0), (3, 0), (3, 0)] M := by
  have h6 := (z_R_C hR).2.2.1
  obtain ⟨n, hn⟩ : ∃ n : Nat, M 321 48 = (n : Int) := ⟨(M 321 48).toNat, by omega⟩
  have tp := z_tfin_p hR hn
  have tt := z_tfin_tup hR hn
  unfold z_two
  refine gX9_calm_0 (d := d + 199) (z_R_F hR) (z_R_g hR).1 ?_
  refine s_X3_search (d := d + 179) hR hn (fun M1 f1 hT => ?_)
  have R1 := z_sc_R f1 hR
  have c1 := z_cfe_c (z_sc_c f1)
  have n1 : M1 321 48 = (n : Int) := by rw [z_e48 c1]; exact hn
  obtain ⟨⟨l1, l2⟩, l3⟩ := z_lay_w (q := 291) R1 n1 (by decide)
  refine gX9_calm_11 (d := d + 199) (z_R_F R1) (z_R_g R1).1 (by rw [l1]; omega) ?_
  obtain ⟨o, o1, o13, ov, F2, C2, Y2, c2⟩ := l3 _ rfl
  generalize z_cpy (z_up M1 1 13 (M1 (M1 1 0) 12)) 291 0 302 0 (M1 (M1 1 0) 12) = M2 at *
  have n2 : M2 321 48 = (n : Int) := by rw [z_e48 c2]; exact n1
  have u := z_cfe_u (n := n) (z_cfe_t c1 c2)
  refine ⟨(z_tfin n M).1, by rw [hT.1], rfl, ?_⟩
  refine s_X10_calm (d := d + 197) (0, -1, M 291, M 292, fun _ => -1) rfl F2 C2 Y2 n2 (fun M' m h68 hv => ?_)
  rw [u.1, ← tt] at h68 hv ⊢
  rw [if_pos (by omega)] at h68
  have hv := hv (by omega)
  refine ⟨rfl, rfl, z_R_lay R1 (fun q a b c d' e => ?_) (fun j hj => ?_) (fun j hj => ?_) ⟨?_, ?_, ?_, fun i a b => ?_⟩⟩
  · rw [m.1 q c d' e, o q a b]
  · rw [m.1 1 (by decide) (by decide) (by decide), o1 j hj]
  · rw [m.2 j hj, o 321 (by decide) (by decide)]
  · rw [m.1 1 (by decide) (by decide) (by decide), o13, h68]
  · omega
  · omega
  · rw [h68] at b
    rw [m.1 302 (by decide) (by decide) (by decide), ov i a b, hv i a b]
    exact (hT.2.2 i a b).1
theorem c_dear (hR : z_R M) : z_two xs (d + 200) mX9_dear mX10_dear [(2, 1)] [(2, 321), (3, 0), (3, 0), (3, 0), (3, 0)] M := by
  have h6 := (z_R_C hR).2.2.1
  obtain ⟨n, hn⟩ : ∃ n : Nat, M 321 48 = (n : Int) := ⟨(M 321 48).toNat, by omega⟩
  have tp := z_tfin_p hR hn
  have tt := z_tfin_tup hR hn
  unfold z_two
  refine gX9_dear_0 (d := d + 199) (z_R_F hR) (z_R_g hR).1 ?_
  refine s_X3_search (d := d + 179) hR hn (fun M1 f1 hT => ?_)
  have R1 := z_sc_R f1 hR
  have c1 := z_cfe_c (z_sc_c f1)
  have n1 : M1 321 48 = (n : Int) := by rw [z_e48 c1]; exact hn
  obtain ⟨⟨l1, l2⟩, l3⟩ := z_lay_w (q := 292) R1 n1 (by decide)
  refine gX9_dear_11 (d := d + 199) (z_R_F R1) (z_R_g R1).1 (by rw [l1]; omega) ?_
  obtain ⟨o, o1, o13, ov, F2, C2, Y2, c2⟩ := l3 _ rfl
  generalize z_cpy (z_up M1 1 13 (M1 (M1 1 0) 12)) 292 0 302 0 (M1 (M1 1 0) 12) = M2 at *
  have n2 : M2 321 48 = (n : Int) := by rw [z_e48 c2]; exact n1
  have u := z_cfe_u (n := n) (z_cfe_t c1 c2)
  refine ⟨(z_tfin n M).2.1, by rw [hT.2.1], rfl, ?_⟩
  refine s_X10_dear (d := d + 197) (0, -1, M 291, M 292, fun _ => -1) rfl F2 C2 Y2 n2 (fun M' m h68 hv => ?_)
  rw [u.1, ← tt] at h68 hv ⊢
  rw [if_pos (by omega)] at h68
  have hv := hv (by omega)
  refine ⟨rfl, rfl, z_R_lay R1 (fun q a b c d' e => ?_) (fun j hj => ?_) (fun j hj => ?_) ⟨?_, ?_, ?_, fun i a b => ?_⟩⟩
  · rw [m.1 q c d' e, o q a b]
  · rw [m.1 1 (by decide) (by decide) (by decide), o1 j hj]
  · rw [m.2 j hj, o 321 (by decide) (by decide)]
  · rw [m.1 1 (by decide) (by decide) (by decide), o13, h68]
  · omega
  · omega
  · rw [h68] at b
    rw [m.1 302 (by decide) (by decide) (by decide), ov i a b, hv i a b]
    exact (hT.2.2 i a b).2.1
theorem c_reach {f : Int} (hR : z_R M) : z_two xs (d + 200) mX9_reach mX10_reach [(2, 1), (0, f)] [(2, 321), (0, f), (3, 0), (3, 0), (3, 0)] M := by
  have h6 := (z_R_C hR).2.2.1
  obtain ⟨n, hn⟩ : ∃ n : Nat, M 321 48 = (n : Int) := ⟨(M 321 48).toNat, by omega⟩
  have tt := z_tfin_tup hR hn
  have e12 := (z_R_n hR).2.2.1
  rw [hn] at e12
  have no : ¬ (0 ≤ f ∧ f < n) → z_two xs (d + 200) mX9_reach mX10_reach [(2, 1), (0, f)] [(2, 321), (0, f), (3, 0), (3, 0), (3, 0)] M := fun hf => by
    refine z_two_n (-1) hR (fun P k => ?_) (fun P k => ?_)
    · have g := gX9_reach_0 (M := M) (xs := xs) (d := d + 199) (P := P) (a1 := f) (z_R_F hR) (z_R_g hR).1
      rw [e12] at g
      exact g (fun _ => k) (fun _ _ => k) (fun a b => absurd ⟨by omega, by omega⟩ hf)
    · exact s_X10_reach (d := d + 197) (n := n) (0, -1, M 291, M 292, fun _ => -1) rfl (z_R_F hR) (z_R_C hR) (z_R_Y hR) hn (fun q => absurd q hf) (fun _ => k)
  by_cases hf : 0 ≤ f ∧ f < n
  · refine z_two_q ((z_tfin n M).2.2.2.2 f) hR (fun P k => ?_) (fun M1 P f1 R1 k => ?_)
    · have g := gX9_reach_0 (M := M) (xs := xs) (d := d + 199) (P := P) (a1 := f) (z_R_F hR) (z_R_g hR).1
      rw [e12] at g
      refine g (fun _ => by omega) (fun _ _ => by omega) (fun _ _ => ?_)
      refine s_X3_search (d := d + 179) hR hn (fun M1 f1 hT => ?_)
      refine gX9_reach_24 (z_R_F (z_sc_R f1 hR)) (by omega) ?_
      rw [(hT.2.2 f hf.1 hf.2).2.2]
      exact k M1 f1
    · have c1 := z_cfe_c (z_sc_c f1)
      refine s_X10_reach (d := d + 197) (n := n) (0, -1, M 291, M 292, fun _ => -1) rfl (z_R_F R1) (z_R_C R1) (z_R_Y R1) (by rw [z_e48 c1]; exact hn) (fun _ M' m => ?_) (fun q => absurd hf q)
      rw [(z_cfe_u (n := n) c1).1, ← tt]
      exact k M' ⟨fun q hq => m q (fun e => hq (by unfold z_sq; omega)), fun j _ => by rw [m 34 (by decide)], fun j _ _ => ⟨by rw [m 38 (by decide)], by rw [m 289 (by decide)]⟩, fun j _ _ => by rw [m 39 (by decide)], fun j _ => by rw [m 343 (by decide)]⟩
  · exact no hf
end
