section
variable {xs : List Int} {d : Nat} {M : z_M}
/-- what has been noted at the end -/
noncomputable def z_tfin (n : Nat) (M : z_M) : Int × Int × (Int → Int) × (Int → Int) × (Int → Int) := (z_pfr n (z_cpr M) n (fun _ => -1)).foldl (z_nta n M) (0, -1, M 291, M 292, fun _ => -1)
theorem z_prt0 {n : Nat} {C : Int → Int → Prop} {f : Int} : z_prt n C f (fun _ => -1) := ⟨fun _ _ => rfl, fun _ _ _ => Or.inl rfl⟩
theorem z_pow7 : ∀ n : Nat, n < 7 → (n + 1) ^ n ≤ 117649 := by decide
theorem z_pfr_all (hR : z_R M) {n : Nat} (hn : M 321 48 = (n : Int)) : z_pfr n (z_cpr M) n (fun _ => -1) = ((List.range ((n + 1) ^ n)).map (fun y => z_dgr n n y (fun _ => -1))).filter (z_vlb n (z_cpr M)) := by
  rw [z_pf_rws (fun a b h => z_cpr_s (z_R_Y hR) h) (fun a h => z_cpr_i h) n _ (Nat.le_refl _) z_prt0, z_rws_d n _ (Nat.le_refl _)]
theorem s_X3_search {P : Option z_V → z_L → z_M → Prop} {n : Nat} (hR : z_R M) (hn : M 321 48 = (n : Int)) (k : ∀ M' : z_M, z_sc M M' → z_nts n M' (z_tfin n M) → P none z_LL M') : wp xs (d + 20) mX3_search 0 [(2, 289), (2, M 1 0)] [] z_LL M P := by
  have h6 := (z_R_C hR).2.2.1
  have hG := z_R_g hR
  have hg := z_gsep hG.1
  refine gX3_search_0 (d := d + 19) (z_R_F hR) hG.1 ?_
  generalize hM0 : z_up (z_up (z_up M 289 6 (M 1 0)) 289 4 0) 289 5 (-1) = M0
  have o0 : ∀ q, q ≠ 289 → M0 q = M q := fun q hq => by rw [← hM0, z_upn hq, z_upn hq, z_upn hq]
  have o9 : ∀ j, j ≠ 4 → j ≠ 5 → j ≠ 6 → M0 289 j = M 289 j := fun j a b c => by rw [← hM0, z_upi b rfl, z_upi a rfl, z_upi c rfl]
  have v6 : M0 289 6 = M 1 0 := by rw [← hM0, z_upi (by decide) rfl, z_upi (by decide) rfl, z_ups]
  have v4 : M0 289 4 = 0 := by rw [← hM0, z_upi (by decide) rfl, z_ups]
  have v5 : M0 289 5 = -1 := by rw [← hM0, z_ups]
  have fx : ∀ N : z_M, (∀ q, ¬ (289 ≤ q ∧ q ≤ 293) → N q = M q) → N 289 = M0 289 → z_fix N := fun N h1 h2 => z_fix_gen (z_R_F hR) (fun q j hq => by
    by_cases e : q = 289
    · rw [e] at hq ⊢
      rw [h2]
      exact o9 j (by unfold z_fin at hq; omega) (by unfold z_fin at hq; omega) (by unfold z_fin at hq; omega)
    · rw [h1 q (by unfold z_fin at hq; omega)])
  refine s_fill (q := 290) (n := 6) rfl (by omega) (fun M1 f1 r1 => ?_)
  have f1' : ∀ q, ¬ (289 ≤ q ∧ q ≤ 293) → M1 q = M q := fun q hq => by rw [f1 q (by omega), o0 q (by omega)]
  have e1 : M1 289 = M0 289 := f1 289 (by decide)
  refine gX3_search_23 (d := d + 19) (fx M1 f1' e1) (z_gor_q (f1' _ (by omega)) hG.1) ?_
  refine s_fill (q := 293) (n := 6) rfl (by omega) (fun M2 f2 r2 => ?_)
  have f2' : ∀ q, ¬ (289 ≤ q ∧ q ≤ 293) → M2 q = M q := fun q hq => by rw [f2 q (by omega), f1' q hq]
  have e2 : M2 289 = M0 289 := by rw [f2 289 (by decide), e1]
  have c2 : ∀ q, z_conf q → M2 q = M q := fun q hq => f2' q (by unfold z_conf at hq; omega)
  have G2 : z_gg M2 (M2 289 6) := by
    rw [e2, v6]
    exact z_gg_x (z_cfe_c c2) (fun q a b => f2' q (by omega)) hG
  have qq : z_cpr M2 = z_cpr M ∧ z_wnt M2 = z_wnt M := by
    constructor
    · funext a b
      unfold z_cpr
      rw [c2 321 (by unfold z_conf; omega), c2 340 (by unfold z_conf; omega), z_cm_q c2]
    · funext a b
      unfold z_wnt
      rw [c2 340 (by unfold z_conf; omega)]
  refine gX3_search_31 (d := d + 19) (z_gor_q (f2' _ (by omega)) hG.1) ?_
  have hl : (z_pfr n (z_cpr M) n (fun _ => -1)).length ≤ 117649 := by
    rw [z_pfr_all hR hn]
    refine Nat.le_trans (List.length_filter_le _ _) ?_
    rw [List.length_map, List.length_range]
    exact z_pow7 n (by omega)
  have p := s_X3_pairFrom (xs := xs) (M := M2) (n := n) (fx M2 f2' e2) (z_mc_e c2 (z_R_C hR)) (by rw [c2 321 (by unfold z_conf; omega)]; exact hn) G2 n (d + 15 - n)
  rw [qq.1, show d + 15 - n + 4 + n = d + 19 by omega] at p
  have en : z_nta n M2 = z_nta n M := by
    funext t W
    unfold z_nta z_clm
    rw [qq.1, qq.2]
  rw [en] at p
  have p := fun (P : Option z_V → z_L → z_M → Prop) => p P (fun _ => -1) (0, -1, M 291, M 292, fun _ => -1) M2 (Nat.le_refl _) z_pfm_r
  rw [show (n : Int) - n = 0 by omega] at p
  refine p _ (fun i a b => ⟨by rw [f2 290 (by decide)]; exact r1 i a (by omega), by show (-1 : Int) ≤ -1; omega, by show (-1 : Int) < n; omega⟩) ⟨by rw [e2, v4], by rw [e2, v5], fun i a b => ⟨by rw [f2 291 (by decide), f1 291 (by decide), o0 291 (by decide)], by rw [f2 292 (by decide), f1 292 (by decide), o0 292 (by decide)], r2 i a (by omega)⟩⟩ (Int.le_refl _) (by
    show (0 : Int) + _ ≤ _
    omega) (fun M3 f3 _ hT => ?_)
  refine gX3_search_36 (z_gor_q (by rw [f3.1 _ (by omega), f2' _ (by omega)]) hG.1) ?_
  refine k M3 ⟨fun q hq => ?_, fun j _ => ?_, fun j h0 hj => ⟨?_, ?_⟩, fun j _ _ => ?_, fun j _ => ?_⟩ hT
  · have : ¬ (289 ≤ q ∧ q ≤ 293) := fun w => hq (by unfold z_sq; omega)
    rw [f3.1 q this, f2' q this]
  · rw [f3.1 34 (by omega), f2' 34 (by omega)]
  · rw [f3.1 38 (by omega), f2' 38 (by omega)]
  · rw [f3.2 j (by omega) (by omega), e2, o9 j (by omega) (by omega) (by omega)]
  · rw [f3.1 39 (by omega), f2' 39 (by omega)]
  · rw [f3.1 343 (by omega), f2' 343 (by omega)]
end
