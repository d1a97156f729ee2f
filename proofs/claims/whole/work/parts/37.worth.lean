/-! the class's worth of a cell -/
theorem z_gg_q {M M' : z_M} {g : Int} (hM : ∀ q, z_conf q ∨ (g ≤ q ∧ q ≤ g + 10) → M' q = M q) (h : z_gg M g) : z_gg M' g := by
  unfold z_gg z_gor at h ⊢
  simp only [hM g (Or.inr (by omega)), hM (g + 2) (Or.inr (by omega)), hM (g + 3) (Or.inr (by omega)), hM (g + 4) (Or.inr (by omega)), hM (g + 5) (Or.inr (by omega)), hM (g + 6) (Or.inr (by omega)), hM (g + 8) (Or.inr (by omega)), hM (g + 9) (Or.inr (by omega)), hM (g + 10) (Or.inr (by omega)), hM 321 (Or.inl (by unfold z_conf; omega)), hM 326 (Or.inl (by unfold z_conf; omega)), hM 327 (Or.inl (by unfold z_conf; omega)), hM 337 (Or.inl (by unfold z_conf; omega)), hM 338 (Or.inl (by unfold z_conf; omega)), hM 339 (Or.inl (by unfold z_conf; omega)), hM 340 (Or.inl (by unfold z_conf; omega)), hM 341 (Or.inl (by unfold z_conf; omega))]
  exact h
theorem z_hrd_q {M M' : z_M} {h : Int} {s : Int → Int} (hM : ∀ q, q = 321 ∨ (h ≤ q ∧ q ≤ h + 5) → M' q = M q) (k : z_hrd M h s) : z_hrd M' h s := by
  unfold z_hrd z_her at k ⊢
  simp only [hM h (Or.inr (by omega)), hM (h + 1) (Or.inr (by omega)), hM (h + 2) (Or.inr (by omega)), hM (h + 3) (Or.inr (by omega)), hM (h + 4) (Or.inr (by omega)), hM (h + 5) (Or.inr (by omega)), hM 321 (Or.inl rfl)]
  exact k
theorem z_crd_q {M M' : z_M} {s : Int → Int} (hM : ∀ q, q = 321 ∨ q = 37 → M' q = M q) (k : z_crd M s) : z_crd M' s := by
  unfold z_crd at k ⊢
  rw [hM 321 (Or.inl rfl), hM 37 (Or.inr rfl)]
  exact k
theorem z_xor_u {a kk : Int} (h : z_unk a kk) : z_xor (-1 - kk) (-1) = kk := by
  unfold z_unk at h
  rcases h with ⟨-, rfl⟩ | ⟨-, rfl⟩ | ⟨-, rfl⟩ | ⟨-, rfl⟩ | ⟨-, rfl⟩ | ⟨-, rfl⟩ <;> decide
theorem z_xor_s {a kk : Int} (h : z_sgn kk a) : z_xor (-1 - kk) (-1) = kk ∧ kk ≠ 18 ∧ ¬ (kk = 3 ∨ (19 ≤ kk ∧ kk ≤ 23)) ∧ 0 ≤ kk := by
  unfold z_sgn at h
  rcases h with ⟨rfl, rfl | rfl | rfl | rfl | rfl | rfl | rfl | rfl⟩ | ⟨rfl, -⟩ | ⟨rfl, -⟩ <;> decide
theorem z_nf35 : ¬ z_fobj 35 := by
  unfold z_fobj
  omega
theorem z_loop {W : Nat → Prop} (n : Nat) (hs : ∀ i, i ≤ n → (i < n → W (i + 1)) → W i) : W 0 :=
  z_down (W := W) n (hs n (Nat.le_refl _) (fun h => absurd h (by omega))) (fun i hi ih => hs i (by omega) (fun _ => ih)) 0 (Nat.zero_le _)
theorem z_in1 {i : Nat} (h : i < 2147483647) : z_w ((i : Int) + 1) = ((i + 1 : Nat) : Int) := by
  rw [z_wid (by omega)]
  omega
theorem z_hsep {M : z_M} {h : Int} (q : z_her M h) : 24 ≤ h ∧ h ≤ 315 ∧ (h + 5 < 30 ∨ 38 < h) ∧ (h + 5 < 45 ∨ 48 < h) ∧ (h + 5 < 289 ∨ 302 < h) := by
  have := z_hr q
  omega
theorem z_gsep {M : z_M} {g : Int} (q : z_gor M g) : 2 ≤ g ∧ g ≤ 13 := by
  have := z_gr q
  omega
set_option maxRecDepth 20000 in
theorem gX8_worth_0 {xs : List Int} {d : Nat} {M : z_M} {P : Option z_V → z_L → z_M → Prop} {a1 : Int} {a2 : Int} {a3 : Int} (ha1 : z_her M a1) (hg2 : z_gor M (M 34 3))
    (l1 : ((M (M 34 3) 15) ≠ 0) → wp xs d mX8_worth 32 [(2, 34), (2, a1), (0, a2), (0, a3), (0, 0), (0, 0), (3, 0), (3, 0)] [] z_LL M P)
    (b1 : (¬ ((M (M 34 3) 15) ≠ 0)) → 0 ≤ a3 ∧ a3 < 25)
    (l2 : (¬ ((M (M 34 3) 15) ≠ 0)) → P (some (0, (z_w ((M (a1 + 3) a3) + (z_w (3 * (M (a1 + 4) a3))))))) z_LL M) :
    wp xs d mX8_worth 0 [(2, 34), (2, a1), (0, a2), (0, a3), (3, 0), (3, 0), (3, 0), (3, 0)] [] z_LL M P := by
  refine wp_run 1 (pc' := 1) (ls' := [(2, 34), (2, a1), (0, a2), (0, a3), (3, 0), (3, 0), (3, 0), (3, 0)]) (st' := [(2, 34)]) rfl ?_
  refine wp_gf (pc' := 4) (t := 2) (v := (M 34 3)) rfl rfl (by decide) rfl rfl rfl ?_
  refine wp_gf (pc' := 7) (t := 0) (v := (M (M 34 3) 15)) rfl rfl (by decide) rfl (z_gl0 hg2) rfl ?_
  refine wp_if1 rfl rfl rfl (fun (c1 : (M (M 34 3) 15) ≠ 0) => ?_) (fun (c1 : ¬ ((M (M 34 3) 15) ≠ 0)) => ?_)
  · refine wp_run 4 (pc' := 32) (ls' := [(2, 34), (2, a1), (0, a2), (0, a3), (0, 0), (0, 0), (3, 0), (3, 0)]) (st' := []) rfl ?_
    exact l1 c1
  · refine wp_run 1 (pc' := 11) (ls' := [(2, 34), (2, a1), (0, a2), (0, a3), (3, 0), (3, 0), (3, 0), (3, 0)]) (st' := [(2, a1)]) rfl ?_
    refine wp_gf (pc' := 14) (t := 2) (v := (a1 + 3)) rfl rfl (by decide) rfl (z_hl0 ha1) (z_hf2 ha1) ?_
    refine wp_run 1 (pc' := 15) (ls' := [(2, 34), (2, a1), (0, a2), (0, a3), (3, 0), (3, 0), (3, 0), (3, 0)]) (st' := [(0, a3), (2, (a1 + 3))]) rfl ?_
    refine wp_iald (pc' := 16) (v := (M (a1 + 3) a3)) rfl rfl (z_hl3 ha1) (b1 c1) rfl ?_
    refine wp_run 2 (pc' := 18) (ls' := [(2, 34), (2, a1), (0, a2), (0, a3), (3, 0), (3, 0), (3, 0), (3, 0)]) (st' := [(2, a1), (0, 3), (0, (M (a1 + 3) a3))]) rfl ?_
    refine wp_gf (pc' := 21) (t := 2) (v := (a1 + 4)) rfl rfl (by decide) rfl (z_hl0 ha1) (z_hf3 ha1) ?_
    refine wp_run 1 (pc' := 22) (ls' := [(2, 34), (2, a1), (0, a2), (0, a3), (3, 0), (3, 0), (3, 0), (3, 0)]) (st' := [(0, a3), (2, (a1 + 4)), (0, 3), (0, (M (a1 + 3) a3))]) rfl ?_
    refine wp_iald (pc' := 23) (v := (M (a1 + 4) a3)) rfl rfl (z_hl4 ha1) (b1 c1) rfl ?_
    refine wp_run 2 (pc' := 25) (ls' := [(2, 34), (2, a1), (0, a2), (0, a3), (3, 0), (3, 0), (3, 0), (3, 0)]) (st' := [(0, (z_w ((M (a1 + 3) a3) + (z_w (3 * (M (a1 + 4) a3))))))]) rfl ?_
    exact wp_ret rfl rfl (l2 c1)
set_option maxRecDepth 20000 in
theorem gX8_worth_32 {xs : List Int} {d : Nat} {M : z_M} {P : Option z_V → z_L → z_M → Prop} {x1 : Int} {x2 : Int} {x3 : Int} {x4 : Int} {x5 : Int} {w6 : z_V} {w7 : z_V} (hF : z_fix M) (hx1 : z_her M x1) (hg2 : z_gor M (M 34 3))
    (l1 : ((M (M 34 3) 15) ≤ x5) → P (some (0, (M 35 0))) z_LL M)
    (b1 : (¬ ((M (M 34 3) 15) ≤ x5)) → 0 ≤ x5 ∧ x5 < 270)
    (l2 : (¬ ((M (M 34 3) 15) ≤ x5)) → (0 ≤ (M ((M 34 3) + 8) x5)) → (x4 < 32) → ((M ((M 34 3) + 8) x5) < 0) → wp xs d mX8_unitWorth 0 [(2, 34), (0, (z_xor (M ((M 34 3) + 8) x5) (-1))), (2, x1), (0, x2), (0, x3)] [] z_LL M (fun r L1 M1 => wp xs (d + 1) mX8_worth 109 [(2, 34), (2, x1), (0, x2), (0, x3), (0, x4), (0, x5), (0, (M ((M 34 3) + 8) x5)), (0, (z_xor (M ((M 34 3) + 8) x5) (-1)))] (z_ol r ++ [(0, x4), (2, 35)]) L1 M1 P))
    (b2 : (¬ ((M (M 34 3) 15) ≤ x5)) → (0 ≤ (M ((M 34 3) + 8) x5)) → (x4 < 32) → (¬ ((M ((M 34 3) + 8) x5) < 0)) → 0 ≤ x4 ∧ x4 < 32)
    (l3 : (¬ ((M (M 34 3) 15) ≤ x5)) → (0 ≤ (M ((M 34 3) + 8) x5)) → (x4 < 32) → (¬ ((M ((M 34 3) + 8) x5) < 0)) → wp xs (d + 1) mX8_worth 32 [(2, 34), (2, x1), (0, x2), (0, x3), (0, (z_w (x4 + 1))), (0, (z_w (x5 + 1))), (0, (M ((M 34 3) + 8) x5)), (0, (z_xor (M ((M 34 3) + 8) x5) (-1)))] [] z_LL (z_up M 35 x4 (M ((M 34 3) + 8) x5)) P)
    (l4 : (¬ ((M (M 34 3) 15) ≤ x5)) → (0 ≤ (M ((M 34 3) + 8) x5)) → (¬ (x4 < 32)) → P (some (0, 0)) z_LL M)
    (l5 : (¬ ((M (M 34 3) 15) ≤ x5)) → (¬ (0 ≤ (M ((M 34 3) + 8) x5))) → (¬ ((z_xor (M ((M 34 3) + 8) x5) (-1)) = 3 ∨ (19 ≤ (z_xor (M ((M 34 3) + 8) x5) (-1)) ∧ (z_xor (M ((M 34 3) + 8) x5) (-1)) ≤ 23))) → ((z_xor (M ((M 34 3) + 8) x5) (-1)) ≠ 18) → (x4 < 2) → wp xs (d + 1) mX8_worth 32 [(2, 34), (2, x1), (0, x2), (0, x3), (0, x4), (0, (z_w (x5 + 1))), (0, (M ((M 34 3) + 8) x5)), (0, (z_xor (M ((M 34 3) + 8) x5) (-1)))] [] z_LL M P)
    (b3 : (¬ ((M (M 34 3) 15) ≤ x5)) → (¬ (0 ≤ (M ((M 34 3) + 8) x5))) → (¬ ((z_xor (M ((M 34 3) + 8) x5) (-1)) = 3 ∨ (19 ≤ (z_xor (M ((M 34 3) + 8) x5) (-1)) ∧ (z_xor (M ((M 34 3) + 8) x5) (-1)) ≤ 23))) → ((z_xor (M ((M 34 3) + 8) x5) (-1)) ≠ 18) → (¬ (x4 < 2)) → 0 ≤ (z_w ((z_w (x4 + (-1))) - 1)) ∧ (z_w ((z_w (x4 + (-1))) - 1)) < 32)
    (b4 : (¬ ((M (M 34 3) 15) ≤ x5)) → (¬ (0 ≤ (M ((M 34 3) + 8) x5))) → (¬ ((z_xor (M ((M 34 3) + 8) x5) (-1)) = 3 ∨ (19 ≤ (z_xor (M ((M 34 3) + 8) x5) (-1)) ∧ (z_xor (M ((M 34 3) + 8) x5) (-1)) ≤ 23))) → ((z_xor (M ((M 34 3) + 8) x5) (-1)) ≠ 18) → (¬ (x4 < 2)) → 0 ≤ (z_w (x4 + (-1))) ∧ (z_w (x4 + (-1))) < 32)
    (l6 : (¬ ((M (M 34 3) 15) ≤ x5)) → (¬ (0 ≤ (M ((M 34 3) + 8) x5))) → (¬ ((z_xor (M ((M 34 3) + 8) x5) (-1)) = 3 ∨ (19 ≤ (z_xor (M ((M 34 3) + 8) x5) (-1)) ∧ (z_xor (M ((M 34 3) + 8) x5) (-1)) ≤ 23))) → ((z_xor (M ((M 34 3) + 8) x5) (-1)) ≠ 18) → (¬ (x4 < 2)) → wp xs (d + 1) mX8_worth 32 [(2, 34), (2, x1), (0, x2), (0, x3), (0, (z_w (x4 + (-1)))), (0, (z_w (x5 + 1))), (0, (M ((M 34 3) + 8) x5)), (0, (z_xor (M ((M 34 3) + 8) x5) (-1)))] [] z_LL (z_up M 35 (z_w ((z_w (x4 + (-1))) - 1)) (z_opc (z_xor (M ((M 34 3) + 8) x5) (-1)) (M 35 (z_w ((z_w (x4 + (-1))) - 1))) (M 35 (z_w (x4 + (-1)))))) P)
    (l7 : (¬ ((M (M 34 3) 15) ≤ x5)) → (¬ (0 ≤ (M ((M 34 3) + 8) x5))) → (¬ ((z_xor (M ((M 34 3) + 8) x5) (-1)) = 3 ∨ (19 ≤ (z_xor (M ((M 34 3) + 8) x5) (-1)) ∧ (z_xor (M ((M 34 3) + 8) x5) (-1)) ≤ 23))) → (¬ ((z_xor (M ((M 34 3) + 8) x5) (-1)) ≠ 18)) → (x4 < 1) → (x4 < 2) → wp xs (d + 1) mX8_worth 32 [(2, 34), (2, x1), (0, x2), (0, x3), (0, x4), (0, (z_w (x5 + 1))), (0, (M ((M 34 3) + 8) x5)), (0, (z_xor (M ((M 34 3) + 8) x5) (-1)))] [] z_LL M P)
    (b5 : (¬ ((M (M 34 3) 15) ≤ x5)) → (¬ (0 ≤ (M ((M 34 3) + 8) x5))) → (¬ ((z_xor (M ((M 34 3) + 8) x5) (-1)) = 3 ∨ (19 ≤ (z_xor (M ((M 34 3) + 8) x5) (-1)) ∧ (z_xor (M ((M 34 3) + 8) x5) (-1)) ≤ 23))) → (¬ ((z_xor (M ((M 34 3) + 8) x5) (-1)) ≠ 18)) → (x4 < 1) → (¬ (x4 < 2)) → 0 ≤ (z_w ((z_w (x4 + (-1))) - 1)) ∧ (z_w ((z_w (x4 + (-1))) - 1)) < 32)
    (b6 : (¬ ((M (M 34 3) 15) ≤ x5)) → (¬ (0 ≤ (M ((M 34 3) + 8) x5))) → (¬ ((z_xor (M ((M 34 3) + 8) x5) (-1)) = 3 ∨ (19 ≤ (z_xor (M ((M 34 3) + 8) x5) (-1)) ∧ (z_xor (M ((M 34 3) + 8) x5) (-1)) ≤ 23))) → (¬ ((z_xor (M ((M 34 3) + 8) x5) (-1)) ≠ 18)) → (x4 < 1) → (¬ (x4 < 2)) → 0 ≤ (z_w (x4 + (-1))) ∧ (z_w (x4 + (-1))) < 32)
    (l8 : (¬ ((M (M 34 3) 15) ≤ x5)) → (¬ (0 ≤ (M ((M 34 3) + 8) x5))) → (¬ ((z_xor (M ((M 34 3) + 8) x5) (-1)) = 3 ∨ (19 ≤ (z_xor (M ((M 34 3) + 8) x5) (-1)) ∧ (z_xor (M ((M 34 3) + 8) x5) (-1)) ≤ 23))) → (¬ ((z_xor (M ((M 34 3) + 8) x5) (-1)) ≠ 18)) → (x4 < 1) → (¬ (x4 < 2)) → wp xs (d + 1) mX8_worth 32 [(2, 34), (2, x1), (0, x2), (0, x3), (0, (z_w (x4 + (-1)))), (0, (z_w (x5 + 1))), (0, (M ((M 34 3) + 8) x5)), (0, (z_xor (M ((M 34 3) + 8) x5) (-1)))] [] z_LL (z_up M 35 (z_w ((z_w (x4 + (-1))) - 1)) (z_opc (z_xor (M ((M 34 3) + 8) x5) (-1)) (M 35 (z_w ((z_w (x4 + (-1))) - 1))) (M 35 (z_w (x4 + (-1)))))) P)
    (b7 : (¬ ((M (M 34 3) 15) ≤ x5)) → (¬ (0 ≤ (M ((M 34 3) + 8) x5))) → (¬ ((z_xor (M ((M 34 3) + 8) x5) (-1)) = 3 ∨ (19 ≤ (z_xor (M ((M 34 3) + 8) x5) (-1)) ∧ (z_xor (M ((M 34 3) + 8) x5) (-1)) ≤ 23))) → (¬ ((z_xor (M ((M 34 3) + 8) x5) (-1)) ≠ 18)) → (¬ (x4 < 1)) → 0 ≤ (z_w (x4 - 1)) ∧ (z_w (x4 - 1)) < 32)
    (l9 : (¬ ((M (M 34 3) 15) ≤ x5)) → (¬ (0 ≤ (M ((M 34 3) + 8) x5))) → (¬ ((z_xor (M ((M 34 3) + 8) x5) (-1)) = 3 ∨ (19 ≤ (z_xor (M ((M 34 3) + 8) x5) (-1)) ∧ (z_xor (M ((M 34 3) + 8) x5) (-1)) ≤ 23))) → (¬ ((z_xor (M ((M 34 3) + 8) x5) (-1)) ≠ 18)) → (¬ (x4 < 1)) → ((M 35 (z_w (x4 - 1))) ≠ 0) → wp xs (d + 1) mX8_worth 32 [(2, 34), (2, x1), (0, x2), (0, x3), (0, x4), (0, (z_w (x5 + 1))), (0, (M ((M 34 3) + 8) x5)), (0, (z_xor (M ((M 34 3) + 8) x5) (-1)))] [] z_LL (z_up M 35 (z_w (x4 - 1)) 0) P)
    (l10 : (¬ ((M (M 34 3) 15) ≤ x5)) → (¬ (0 ≤ (M ((M 34 3) + 8) x5))) → (¬ ((z_xor (M ((M 34 3) + 8) x5) (-1)) = 3 ∨ (19 ≤ (z_xor (M ((M 34 3) + 8) x5) (-1)) ∧ (z_xor (M ((M 34 3) + 8) x5) (-1)) ≤ 23))) → (¬ ((z_xor (M ((M 34 3) + 8) x5) (-1)) ≠ 18)) → (¬ (x4 < 1)) → (¬ ((M 35 (z_w (x4 - 1))) ≠ 0)) → wp xs (d + 1) mX8_worth 32 [(2, 34), (2, x1), (0, x2), (0, x3), (0, x4), (0, (z_w (x5 + 1))), (0, (M ((M 34 3) + 8) x5)), (0, (z_xor (M ((M 34 3) + 8) x5) (-1)))] [] z_LL (z_up M 35 (z_w (x4 - 1)) 1) P)
    (l11 : (¬ ((M (M 34 3) 15) ≤ x5)) → (¬ (0 ≤ (M ((M 34 3) + 8) x5))) → (((z_xor (M ((M 34 3) + 8) x5) (-1)) = 3 ∨ (19 ≤ (z_xor (M ((M 34 3) + 8) x5) (-1)) ∧ (z_xor (M ((M 34 3) + 8) x5) (-1)) ≤ 23))) → (x4 < 32) → ((M ((M 34 3) + 8) x5) < 0) → wp xs d mX8_unitWorth 0 [(2, 34), (0, (z_xor (M ((M 34 3) + 8) x5) (-1))), (2, x1), (0, x2), (0, x3)] [] z_LL M (fun r L1 M1 => wp xs (d + 1) mX8_worth 109 [(2, 34), (2, x1), (0, x2), (0, x3), (0, x4), (0, x5), (0, (M ((M 34 3) + 8) x5)), (0, (z_xor (M ((M 34 3) + 8) x5) (-1)))] (z_ol r ++ [(0, x4), (2, 35)]) L1 M1 P))
    (b8 : (¬ ((M (M 34 3) 15) ≤ x5)) → (¬ (0 ≤ (M ((M 34 3) + 8) x5))) → (((z_xor (M ((M 34 3) + 8) x5) (-1)) = 3 ∨ (19 ≤ (z_xor (M ((M 34 3) + 8) x5) (-1)) ∧ (z_xor (M ((M 34 3) + 8) x5) (-1)) ≤ 23))) → (x4 < 32) → (¬ ((M ((M 34 3) + 8) x5) < 0)) → 0 ≤ x4 ∧ x4 < 32)
    (l12 : (¬ ((M (M 34 3) 15) ≤ x5)) → (¬ (0 ≤ (M ((M 34 3) + 8) x5))) → (((z_xor (M ((M 34 3) + 8) x5) (-1)) = 3 ∨ (19 ≤ (z_xor (M ((M 34 3) + 8) x5) (-1)) ∧ (z_xor (M ((M 34 3) + 8) x5) (-1)) ≤ 23))) → (x4 < 32) → (¬ ((M ((M 34 3) + 8) x5) < 0)) → wp xs (d + 1) mX8_worth 32 [(2, 34), (2, x1), (0, x2), (0, x3), (0, (z_w (x4 + 1))), (0, (z_w (x5 + 1))), (0, (M ((M 34 3) + 8) x5)), (0, (z_xor (M ((M 34 3) + 8) x5) (-1)))] [] z_LL (z_up M 35 x4 (M ((M 34 3) + 8) x5)) P)
    (l13 : (¬ ((M (M 34 3) 15) ≤ x5)) → (¬ (0 ≤ (M ((M 34 3) + 8) x5))) → (((z_xor (M ((M 34 3) + 8) x5) (-1)) = 3 ∨ (19 ≤ (z_xor (M ((M 34 3) + 8) x5) (-1)) ∧ (z_xor (M ((M 34 3) + 8) x5) (-1)) ≤ 23))) → (¬ (x4 < 32)) → P (some (0, 0)) z_LL M) :
    wp xs (d + 1) mX8_worth 32 [(2, 34), (2, x1), (0, x2), (0, x3), (0, x4), (0, x5), w6, w7] [] z_LL M P := by
  refine wp_run 2 (pc' := 35) (ls' := [(2, 34), (2, x1), (0, x2), (0, x3), (0, x4), (0, x5), w6, w7]) (st' := [(2, 34), (0, x5)]) rfl ?_
  refine wp_gf (pc' := 38) (t := 2) (v := (M 34 3)) rfl rfl (by decide) rfl rfl rfl ?_
  refine wp_gf (pc' := 41) (t := 0) (v := (M (M 34 3) 15)) rfl rfl (by decide) rfl (z_gl0 hg2) rfl ?_
  refine wp_if2 rfl rfl rfl (fun (c1 : (M (M 34 3) 15) ≤ x5) => ?_) (fun (c1 : ¬ ((M (M 34 3) 15) ≤ x5)) => ?_)
  · refine wp_run 1 (pc' := 204) (ls' := [(2, 34), (2, x1), (0, x2), (0, x3), (0, x4), (0, x5), w6, w7]) (st' := [(2, 34)]) rfl ?_
    refine wp_gf (pc' := 207) (t := 2) (v := 35) rfl rfl (by decide) rfl rfl (fx_34_0 hF) ?_
    refine wp_run 1 (pc' := 208) (ls' := [(2, 34), (2, x1), (0, x2), (0, x3), (0, x4), (0, x5), w6, w7]) (st' := [(0, 0), (2, 35)]) rfl ?_
    refine wp_iald (pc' := 209) (v := (M 35 0)) rfl rfl rfl ⟨by decide, by decide⟩ rfl ?_
    exact wp_ret rfl rfl (l1 c1)
  · refine wp_run 1 (pc' := 45) (ls' := [(2, 34), (2, x1), (0, x2), (0, x3), (0, x4), (0, x5), w6, w7]) (st' := [(2, 34)]) rfl ?_
    refine wp_gf (pc' := 48) (t := 2) (v := (M 34 3)) rfl rfl (by decide) rfl rfl rfl ?_
    refine wp_gf (pc' := 51) (t := 2) (v := ((M 34 3) + 8)) rfl rfl (by decide) rfl (z_gl0 hg2) (z_gf7 hg2) ?_
    refine wp_run 1 (pc' := 53) (ls' := [(2, 34), (2, x1), (0, x2), (0, x3), (0, x4), (0, x5), w6, w7]) (st' := [(0, x5), (2, ((M 34 3) + 8))]) rfl ?_
    refine wp_iald (pc' := 54) (v := (M ((M 34 3) + 8) x5)) rfl rfl (z_gl8 hg2) (b1 c1) rfl ?_
    refine wp_run 6 (pc' := 64) (ls' := [(2, 34), (2, x1), (0, x2), (0, x3), (0, x4), (0, x5), (0, (M ((M 34 3) + 8) x5)), (0, (z_xor (M ((M 34 3) + 8) x5) (-1)))]) (st' := [(0, (M ((M 34 3) + 8) x5))]) rfl ?_
    refine wp_if1 rfl rfl rfl (fun (c2 : 0 ≤ (M ((M 34 3) + 8) x5)) => ?_) (fun (c2 : ¬ (0 ≤ (M ((M 34 3) + 8) x5))) => ?_)
    · refine wp_run 2 (pc' := 79) (ls' := [(2, 34), (2, x1), (0, x2), (0, x3), (0, x4), (0, x5), (0, (M ((M 34 3) + 8) x5)), (0, (z_xor (M ((M 34 3) + 8) x5) (-1)))]) (st' := [(0, 32), (0, x4)]) rfl ?_
      refine wp_if2 rfl rfl rfl (fun (c3 : x4 < 32) => ?_) (fun (c3 : ¬ (x4 < 32)) => ?_)
      · refine wp_run 1 (pc' := 85) (ls' := [(2, 34), (2, x1), (0, x2), (0, x3), (0, x4), (0, x5), (0, (M ((M 34 3) + 8) x5)), (0, (z_xor (M ((M 34 3) + 8) x5) (-1)))]) (st' := [(2, 34)]) rfl ?_
        refine wp_gf (pc' := 88) (t := 2) (v := 35) rfl rfl (by decide) rfl rfl (fx_34_0 hF) ?_
        refine wp_run 2 (pc' := 92) (ls' := [(2, 34), (2, x1), (0, x2), (0, x3), (0, x4), (0, x5), (0, (M ((M 34 3) + 8) x5)), (0, (z_xor (M ((M 34 3) + 8) x5) (-1)))]) (st' := [(0, (M ((M 34 3) + 8) x5)), (0, x4), (2, 35)]) rfl ?_
        refine wp_if1 rfl rfl rfl (fun (c4 : (M ((M 34 3) + 8) x5) < 0) => ?_) (fun (c4 : ¬ ((M ((M 34 3) + 8) x5) < 0)) => ?_)
        · refine wp_run 5 (pc' := 106) (ls' := [(2, 34), (2, x1), (0, x2), (0, x3), (0, x4), (0, x5), (0, (M ((M 34 3) + 8) x5)), (0, (z_xor (M ((M 34 3) + 8) x5) (-1)))]) (st' := [(0, x3), (0, x2), (2, x1), (0, (z_xor (M ((M 34 3) + 8) x5) (-1))), (2, 34), (0, x4), (2, 35)]) rfl ?_
          refine wp_callv (pc' := 109) (as := [(2, 34), (0, (z_xor (M ((M 34 3) + 8) x5) (-1))), (2, x1), (0, x2), (0, x3)]) (rest := [(0, x4), (2, 35)]) (ls1 := [(2, 34), (0, (z_xor (M ((M 34 3) + 8) x5) (-1))), (2, x1), (0, x2), (0, x3)]) rfl rfl rfl rfl rfl rfl ?_
          exact l2 c1 c2 c3 c4
        · refine wp_run 2 (pc' := 109) (ls' := [(2, 34), (2, x1), (0, x2), (0, x3), (0, x4), (0, x5), (0, (M ((M 34 3) + 8) x5)), (0, (z_xor (M ((M 34 3) + 8) x5) (-1)))]) (st' := [(0, (M ((M 34 3) + 8) x5)), (0, x4), (2, 35)]) rfl ?_
          refine wp_iast (pc' := 110) rfl rfl rfl (b2 c1 c2 c3 c4) ?_
          refine wp_run 4 (pc' := 32) (ls' := [(2, 34), (2, x1), (0, x2), (0, x3), (0, (z_w (x4 + 1))), (0, (z_w (x5 + 1))), (0, (M ((M 34 3) + 8) x5)), (0, (z_xor (M ((M 34 3) + 8) x5) (-1)))]) (st' := []) rfl ?_
          exact l3 c1 c2 c3 c4
      · refine wp_run 1 (pc' := 83) (ls' := [(2, 34), (2, x1), (0, x2), (0, x3), (0, x4), (0, x5), (0, (M ((M 34 3) + 8) x5)), (0, (z_xor (M ((M 34 3) + 8) x5) (-1)))]) (st' := [(0, 0)]) rfl ?_
        exact wp_ret rfl rfl (l4 c1 c2 c3)
    · refine wp_run 1 (pc' := 69) (ls' := [(2, 34), (2, x1), (0, x2), (0, x3), (0, x4), (0, x5), (0, (M ((M 34 3) + 8) x5)), (0, (z_xor (M ((M 34 3) + 8) x5) (-1)))]) (st' := [(0, (z_xor (M ((M 34 3) + 8) x5) (-1)))]) rfl ?_
      refine wp_callv (pc' := 72) (as := [(0, (z_xor (M ((M 34 3) + 8) x5) (-1)))]) (rest := []) (ls1 := [(0, (z_xor (M ((M 34 3) + 8) x5) (-1)))]) rfl rfl rfl rfl rfl rfl ?_
      refine s_X5_isUnitWord  ?_
      show wp xs _ mX8_worth 72 [(2, 34), (2, x1), (0, x2), (0, x3), (0, x4), (0, x5), (0, (M ((M 34 3) + 8) x5)), (0, (z_xor (M ((M 34 3) + 8) x5) (-1)))] [(0, (z_b ((z_xor (M ((M 34 3) + 8) x5) (-1)) = 3 ∨ (19 ≤ (z_xor (M ((M 34 3) + 8) x5) (-1)) ∧ (z_xor (M ((M 34 3) + 8) x5) (-1)) ≤ 23))))] z_LL M _
      refine wp_be rfl rfl rfl (fun (c5 : ¬ ((z_xor (M ((M 34 3) + 8) x5) (-1)) = 3 ∨ (19 ≤ (z_xor (M ((M 34 3) + 8) x5) (-1)) ∧ (z_xor (M ((M 34 3) + 8) x5) (-1)) ≤ 23))) => ?_) (fun (c5 : ((z_xor (M ((M 34 3) + 8) x5) (-1)) = 3 ∨ (19 ≤ (z_xor (M ((M 34 3) + 8) x5) (-1)) ∧ (z_xor (M ((M 34 3) + 8) x5) (-1)) ≤ 23))) => ?_)
      · refine wp_run 2 (pc' := 120) (ls' := [(2, 34), (2, x1), (0, x2), (0, x3), (0, x4), (0, x5), (0, (M ((M 34 3) + 8) x5)), (0, (z_xor (M ((M 34 3) + 8) x5) (-1)))]) (st' := [(0, 18), (0, (z_xor (M ((M 34 3) + 8) x5) (-1)))]) rfl ?_
        refine wp_if2 rfl rfl rfl (fun (c6 : (z_xor (M ((M 34 3) + 8) x5) (-1)) ≠ 18) => ?_) (fun (c6 : ¬ ((z_xor (M ((M 34 3) + 8) x5) (-1)) ≠ 18)) => ?_)
        · refine wp_run 2 (pc' := 161) (ls' := [(2, 34), (2, x1), (0, x2), (0, x3), (0, x4), (0, x5), (0, (M ((M 34 3) + 8) x5)), (0, (z_xor (M ((M 34 3) + 8) x5) (-1)))]) (st' := [(0, 2), (0, x4)]) rfl ?_
          refine wp_if2 rfl rfl rfl (fun (c7 : x4 < 2) => ?_) (fun (c7 : ¬ (x4 < 2)) => ?_)
          · refine wp_run 2 (pc' := 32) (ls' := [(2, 34), (2, x1), (0, x2), (0, x3), (0, x4), (0, (z_w (x5 + 1))), (0, (M ((M 34 3) + 8) x5)), (0, (z_xor (M ((M 34 3) + 8) x5) (-1)))]) (st' := []) rfl ?_
            exact l5 c1 c2 c5 c6 c7
          · refine wp_run 2 (pc' := 168) (ls' := [(2, 34), (2, x1), (0, x2), (0, x3), (0, (z_w (x4 + (-1)))), (0, x5), (0, (M ((M 34 3) + 8) x5)), (0, (z_xor (M ((M 34 3) + 8) x5) (-1)))]) (st' := [(2, 34)]) rfl ?_
            refine wp_gf (pc' := 171) (t := 2) (v := 35) rfl rfl (by decide) rfl rfl (fx_34_0 hF) ?_
            refine wp_run 5 (pc' := 178) (ls' := [(2, 34), (2, x1), (0, x2), (0, x3), (0, (z_w (x4 + (-1)))), (0, x5), (0, (M ((M 34 3) + 8) x5)), (0, (z_xor (M ((M 34 3) + 8) x5) (-1)))]) (st' := [(2, 34), (0, (z_xor (M ((M 34 3) + 8) x5) (-1))), (0, (z_w ((z_w (x4 + (-1))) - 1))), (2, 35)]) rfl ?_
            refine wp_gf (pc' := 181) (t := 2) (v := 35) rfl rfl (by decide) rfl rfl (fx_34_0 hF) ?_
            refine wp_run 3 (pc' := 185) (ls' := [(2, 34), (2, x1), (0, x2), (0, x3), (0, (z_w (x4 + (-1)))), (0, x5), (0, (M ((M 34 3) + 8) x5)), (0, (z_xor (M ((M 34 3) + 8) x5) (-1)))]) (st' := [(0, (z_w ((z_w (x4 + (-1))) - 1))), (2, 35), (0, (z_xor (M ((M 34 3) + 8) x5) (-1))), (0, (z_w ((z_w (x4 + (-1))) - 1))), (2, 35)]) rfl ?_
            refine wp_iald (pc' := 186) (v := (M 35 (z_w ((z_w (x4 + (-1))) - 1)))) rfl rfl rfl (b3 c1 c2 c5 c6 c7) rfl ?_
            refine wp_run 1 (pc' := 187) (ls' := [(2, 34), (2, x1), (0, x2), (0, x3), (0, (z_w (x4 + (-1)))), (0, x5), (0, (M ((M 34 3) + 8) x5)), (0, (z_xor (M ((M 34 3) + 8) x5) (-1)))]) (st' := [(2, 34), (0, (M 35 (z_w ((z_w (x4 + (-1))) - 1)))), (0, (z_xor (M ((M 34 3) + 8) x5) (-1))), (0, (z_w ((z_w (x4 + (-1))) - 1))), (2, 35)]) rfl ?_
            refine wp_gf (pc' := 190) (t := 2) (v := 35) rfl rfl (by decide) rfl rfl (fx_34_0 hF) ?_
            refine wp_run 1 (pc' := 192) (ls' := [(2, 34), (2, x1), (0, x2), (0, x3), (0, (z_w (x4 + (-1)))), (0, x5), (0, (M ((M 34 3) + 8) x5)), (0, (z_xor (M ((M 34 3) + 8) x5) (-1)))]) (st' := [(0, (z_w (x4 + (-1)))), (2, 35), (0, (M 35 (z_w ((z_w (x4 + (-1))) - 1)))), (0, (z_xor (M ((M 34 3) + 8) x5) (-1))), (0, (z_w ((z_w (x4 + (-1))) - 1))), (2, 35)]) rfl ?_
            refine wp_iald (pc' := 193) (v := (M 35 (z_w (x4 + (-1))))) rfl rfl rfl (b4 c1 c2 c5 c6 c7) rfl ?_
            refine wp_callv (pc' := 196) (as := [(0, (z_xor (M ((M 34 3) + 8) x5) (-1))), (0, (M 35 (z_w ((z_w (x4 + (-1))) - 1)))), (0, (M 35 (z_w (x4 + (-1)))))]) (rest := [(0, (z_w ((z_w (x4 + (-1))) - 1))), (2, 35)]) (ls1 := [(0, (z_xor (M ((M 34 3) + 8) x5) (-1))), (0, (M 35 (z_w ((z_w (x4 + (-1))) - 1)))), (0, (M 35 (z_w (x4 + (-1)))))]) rfl rfl rfl rfl rfl rfl ?_
            refine s_X8_joined  ?_
            show wp xs _ mX8_worth 196 [(2, 34), (2, x1), (0, x2), (0, x3), (0, (z_w (x4 + (-1)))), (0, x5), (0, (M ((M 34 3) + 8) x5)), (0, (z_xor (M ((M 34 3) + 8) x5) (-1)))] [(0, (z_opc (z_xor (M ((M 34 3) + 8) x5) (-1)) (M 35 (z_w ((z_w (x4 + (-1))) - 1))) (M 35 (z_w (x4 + (-1)))))), (0, (z_w ((z_w (x4 + (-1))) - 1))), (2, 35)] z_LL M _
            refine wp_iast (pc' := 197) rfl rfl rfl (b3 c1 c2 c5 c6 c7) ?_
            refine wp_run 2 (pc' := 32) (ls' := [(2, 34), (2, x1), (0, x2), (0, x3), (0, (z_w (x4 + (-1)))), (0, (z_w (x5 + 1))), (0, (M ((M 34 3) + 8) x5)), (0, (z_xor (M ((M 34 3) + 8) x5) (-1)))]) (st' := []) rfl ?_
            exact l6 c1 c2 c5 c6 c7
        · refine wp_run 2 (pc' := 126) (ls' := [(2, 34), (2, x1), (0, x2), (0, x3), (0, x4), (0, x5), (0, (M ((M 34 3) + 8) x5)), (0, (z_xor (M ((M 34 3) + 8) x5) (-1)))]) (st' := [(0, 1), (0, x4)]) rfl ?_
          refine wp_if2 rfl rfl rfl (fun (c8 : x4 < 1) => ?_) (fun (c8 : ¬ (x4 < 1)) => ?_)
          · refine wp_run 2 (pc' := 161) (ls' := [(2, 34), (2, x1), (0, x2), (0, x3), (0, x4), (0, x5), (0, (M ((M 34 3) + 8) x5)), (0, (z_xor (M ((M 34 3) + 8) x5) (-1)))]) (st' := [(0, 2), (0, x4)]) rfl ?_
            refine wp_if2 rfl rfl rfl (fun (c9 : x4 < 2) => ?_) (fun (c9 : ¬ (x4 < 2)) => ?_)
            · refine wp_run 2 (pc' := 32) (ls' := [(2, 34), (2, x1), (0, x2), (0, x3), (0, x4), (0, (z_w (x5 + 1))), (0, (M ((M 34 3) + 8) x5)), (0, (z_xor (M ((M 34 3) + 8) x5) (-1)))]) (st' := []) rfl ?_
              exact l7 c1 c2 c5 c6 c8 c9
            · refine wp_run 2 (pc' := 168) (ls' := [(2, 34), (2, x1), (0, x2), (0, x3), (0, (z_w (x4 + (-1)))), (0, x5), (0, (M ((M 34 3) + 8) x5)), (0, (z_xor (M ((M 34 3) + 8) x5) (-1)))]) (st' := [(2, 34)]) rfl ?_
              refine wp_gf (pc' := 171) (t := 2) (v := 35) rfl rfl (by decide) rfl rfl (fx_34_0 hF) ?_
              refine wp_run 5 (pc' := 178) (ls' := [(2, 34), (2, x1), (0, x2), (0, x3), (0, (z_w (x4 + (-1)))), (0, x5), (0, (M ((M 34 3) + 8) x5)), (0, (z_xor (M ((M 34 3) + 8) x5) (-1)))]) (st' := [(2, 34), (0, (z_xor (M ((M 34 3) + 8) x5) (-1))), (0, (z_w ((z_w (x4 + (-1))) - 1))), (2, 35)]) rfl ?_
              refine wp_gf (pc' := 181) (t := 2) (v := 35) rfl rfl (by decide) rfl rfl (fx_34_0 hF) ?_
              refine wp_run 3 (pc' := 185) (ls' := [(2, 34), (2, x1), (0, x2), (0, x3), (0, (z_w (x4 + (-1)))), (0, x5), (0, (M ((M 34 3) + 8) x5)), (0, (z_xor (M ((M 34 3) + 8) x5) (-1)))]) (st' := [(0, (z_w ((z_w (x4 + (-1))) - 1))), (2, 35), (0, (z_xor (M ((M 34 3) + 8) x5) (-1))), (0, (z_w ((z_w (x4 + (-1))) - 1))), (2, 35)]) rfl ?_
              refine wp_iald (pc' := 186) (v := (M 35 (z_w ((z_w (x4 + (-1))) - 1)))) rfl rfl rfl (b5 c1 c2 c5 c6 c8 c9) rfl ?_
              refine wp_run 1 (pc' := 187) (ls' := [(2, 34), (2, x1), (0, x2), (0, x3), (0, (z_w (x4 + (-1)))), (0, x5), (0, (M ((M 34 3) + 8) x5)), (0, (z_xor (M ((M 34 3) + 8) x5) (-1)))]) (st' := [(2, 34), (0, (M 35 (z_w ((z_w (x4 + (-1))) - 1)))), (0, (z_xor (M ((M 34 3) + 8) x5) (-1))), (0, (z_w ((z_w (x4 + (-1))) - 1))), (2, 35)]) rfl ?_
              refine wp_gf (pc' := 190) (t := 2) (v := 35) rfl rfl (by decide) rfl rfl (fx_34_0 hF) ?_
              refine wp_run 1 (pc' := 192) (ls' := [(2, 34), (2, x1), (0, x2), (0, x3), (0, (z_w (x4 + (-1)))), (0, x5), (0, (M ((M 34 3) + 8) x5)), (0, (z_xor (M ((M 34 3) + 8) x5) (-1)))]) (st' := [(0, (z_w (x4 + (-1)))), (2, 35), (0, (M 35 (z_w ((z_w (x4 + (-1))) - 1)))), (0, (z_xor (M ((M 34 3) + 8) x5) (-1))), (0, (z_w ((z_w (x4 + (-1))) - 1))), (2, 35)]) rfl ?_
              refine wp_iald (pc' := 193) (v := (M 35 (z_w (x4 + (-1))))) rfl rfl rfl (b6 c1 c2 c5 c6 c8 c9) rfl ?_
              refine wp_callv (pc' := 196) (as := [(0, (z_xor (M ((M 34 3) + 8) x5) (-1))), (0, (M 35 (z_w ((z_w (x4 + (-1))) - 1)))), (0, (M 35 (z_w (x4 + (-1)))))]) (rest := [(0, (z_w ((z_w (x4 + (-1))) - 1))), (2, 35)]) (ls1 := [(0, (z_xor (M ((M 34 3) + 8) x5) (-1))), (0, (M 35 (z_w ((z_w (x4 + (-1))) - 1)))), (0, (M 35 (z_w (x4 + (-1)))))]) rfl rfl rfl rfl rfl rfl ?_
              refine s_X8_joined  ?_
              show wp xs _ mX8_worth 196 [(2, 34), (2, x1), (0, x2), (0, x3), (0, (z_w (x4 + (-1)))), (0, x5), (0, (M ((M 34 3) + 8) x5)), (0, (z_xor (M ((M 34 3) + 8) x5) (-1)))] [(0, (z_opc (z_xor (M ((M 34 3) + 8) x5) (-1)) (M 35 (z_w ((z_w (x4 + (-1))) - 1))) (M 35 (z_w (x4 + (-1)))))), (0, (z_w ((z_w (x4 + (-1))) - 1))), (2, 35)] z_LL M _
              refine wp_iast (pc' := 197) rfl rfl rfl (b5 c1 c2 c5 c6 c8 c9) ?_
              refine wp_run 2 (pc' := 32) (ls' := [(2, 34), (2, x1), (0, x2), (0, x3), (0, (z_w (x4 + (-1)))), (0, (z_w (x5 + 1))), (0, (M ((M 34 3) + 8) x5)), (0, (z_xor (M ((M 34 3) + 8) x5) (-1)))]) (st' := []) rfl ?_
              exact l8 c1 c2 c5 c6 c8 c9
          · refine wp_run 1 (pc' := 130) (ls' := [(2, 34), (2, x1), (0, x2), (0, x3), (0, x4), (0, x5), (0, (M ((M 34 3) + 8) x5)), (0, (z_xor (M ((M 34 3) + 8) x5) (-1)))]) (st' := [(2, 34)]) rfl ?_
            refine wp_gf (pc' := 133) (t := 2) (v := 35) rfl rfl (by decide) rfl rfl (fx_34_0 hF) ?_
            refine wp_run 4 (pc' := 138) (ls' := [(2, 34), (2, x1), (0, x2), (0, x3), (0, x4), (0, x5), (0, (M ((M 34 3) + 8) x5)), (0, (z_xor (M ((M 34 3) + 8) x5) (-1)))]) (st' := [(2, 34), (0, (z_w (x4 - 1))), (2, 35)]) rfl ?_
            refine wp_gf (pc' := 141) (t := 2) (v := 35) rfl rfl (by decide) rfl rfl (fx_34_0 hF) ?_
            refine wp_run 3 (pc' := 145) (ls' := [(2, 34), (2, x1), (0, x2), (0, x3), (0, x4), (0, x5), (0, (M ((M 34 3) + 8) x5)), (0, (z_xor (M ((M 34 3) + 8) x5) (-1)))]) (st' := [(0, (z_w (x4 - 1))), (2, 35), (0, (z_w (x4 - 1))), (2, 35)]) rfl ?_
            refine wp_iald (pc' := 146) (v := (M 35 (z_w (x4 - 1)))) rfl rfl rfl (b7 c1 c2 c5 c6 c8) rfl ?_
            refine wp_if1 rfl rfl rfl (fun (c10 : (M 35 (z_w (x4 - 1))) ≠ 0) => ?_) (fun (c10 : ¬ ((M 35 (z_w (x4 - 1))) ≠ 0)) => ?_)
            · refine wp_run 1 (pc' := 154) (ls' := [(2, 34), (2, x1), (0, x2), (0, x3), (0, x4), (0, x5), (0, (M ((M 34 3) + 8) x5)), (0, (z_xor (M ((M 34 3) + 8) x5) (-1)))]) (st' := [(0, 0), (0, (z_w (x4 - 1))), (2, 35)]) rfl ?_
              refine wp_iast (pc' := 155) rfl rfl rfl (b7 c1 c2 c5 c6 c8) ?_
              refine wp_run 3 (pc' := 32) (ls' := [(2, 34), (2, x1), (0, x2), (0, x3), (0, x4), (0, (z_w (x5 + 1))), (0, (M ((M 34 3) + 8) x5)), (0, (z_xor (M ((M 34 3) + 8) x5) (-1)))]) (st' := []) rfl ?_
              exact l9 c1 c2 c5 c6 c8 c10
            · refine wp_run 2 (pc' := 154) (ls' := [(2, 34), (2, x1), (0, x2), (0, x3), (0, x4), (0, x5), (0, (M ((M 34 3) + 8) x5)), (0, (z_xor (M ((M 34 3) + 8) x5) (-1)))]) (st' := [(0, 1), (0, (z_w (x4 - 1))), (2, 35)]) rfl ?_
              refine wp_iast (pc' := 155) rfl rfl rfl (b7 c1 c2 c5 c6 c8) ?_
              refine wp_run 3 (pc' := 32) (ls' := [(2, 34), (2, x1), (0, x2), (0, x3), (0, x4), (0, (z_w (x5 + 1))), (0, (M ((M 34 3) + 8) x5)), (0, (z_xor (M ((M 34 3) + 8) x5) (-1)))]) (st' := []) rfl ?_
              exact l10 c1 c2 c5 c6 c8 c10
      · refine wp_run 2 (pc' := 79) (ls' := [(2, 34), (2, x1), (0, x2), (0, x3), (0, x4), (0, x5), (0, (M ((M 34 3) + 8) x5)), (0, (z_xor (M ((M 34 3) + 8) x5) (-1)))]) (st' := [(0, 32), (0, x4)]) rfl ?_
        refine wp_if2 rfl rfl rfl (fun (c11 : x4 < 32) => ?_) (fun (c11 : ¬ (x4 < 32)) => ?_)
        · refine wp_run 1 (pc' := 85) (ls' := [(2, 34), (2, x1), (0, x2), (0, x3), (0, x4), (0, x5), (0, (M ((M 34 3) + 8) x5)), (0, (z_xor (M ((M 34 3) + 8) x5) (-1)))]) (st' := [(2, 34)]) rfl ?_
          refine wp_gf (pc' := 88) (t := 2) (v := 35) rfl rfl (by decide) rfl rfl (fx_34_0 hF) ?_
          refine wp_run 2 (pc' := 92) (ls' := [(2, 34), (2, x1), (0, x2), (0, x3), (0, x4), (0, x5), (0, (M ((M 34 3) + 8) x5)), (0, (z_xor (M ((M 34 3) + 8) x5) (-1)))]) (st' := [(0, (M ((M 34 3) + 8) x5)), (0, x4), (2, 35)]) rfl ?_
          refine wp_if1 rfl rfl rfl (fun (c12 : (M ((M 34 3) + 8) x5) < 0) => ?_) (fun (c12 : ¬ ((M ((M 34 3) + 8) x5) < 0)) => ?_)
          · refine wp_run 5 (pc' := 106) (ls' := [(2, 34), (2, x1), (0, x2), (0, x3), (0, x4), (0, x5), (0, (M ((M 34 3) + 8) x5)), (0, (z_xor (M ((M 34 3) + 8) x5) (-1)))]) (st' := [(0, x3), (0, x2), (2, x1), (0, (z_xor (M ((M 34 3) + 8) x5) (-1))), (2, 34), (0, x4), (2, 35)]) rfl ?_
            refine wp_callv (pc' := 109) (as := [(2, 34), (0, (z_xor (M ((M 34 3) + 8) x5) (-1))), (2, x1), (0, x2), (0, x3)]) (rest := [(0, x4), (2, 35)]) (ls1 := [(2, 34), (0, (z_xor (M ((M 34 3) + 8) x5) (-1))), (2, x1), (0, x2), (0, x3)]) rfl rfl rfl rfl rfl rfl ?_
            exact l11 c1 c2 c5 c11 c12
          · refine wp_run 2 (pc' := 109) (ls' := [(2, 34), (2, x1), (0, x2), (0, x3), (0, x4), (0, x5), (0, (M ((M 34 3) + 8) x5)), (0, (z_xor (M ((M 34 3) + 8) x5) (-1)))]) (st' := [(0, (M ((M 34 3) + 8) x5)), (0, x4), (2, 35)]) rfl ?_
            refine wp_iast (pc' := 110) rfl rfl rfl (b8 c1 c2 c5 c11 c12) ?_
            refine wp_run 4 (pc' := 32) (ls' := [(2, 34), (2, x1), (0, x2), (0, x3), (0, (z_w (x4 + 1))), (0, (z_w (x5 + 1))), (0, (M ((M 34 3) + 8) x5)), (0, (z_xor (M ((M 34 3) + 8) x5) (-1)))]) (st' := []) rfl ?_
            exact l12 c1 c2 c5 c11 c12
        · refine wp_run 1 (pc' := 83) (ls' := [(2, 34), (2, x1), (0, x2), (0, x3), (0, x4), (0, x5), (0, (M ((M 34 3) + 8) x5)), (0, (z_xor (M ((M 34 3) + 8) x5) (-1)))]) (st' := [(0, 0)]) rfl ?_
          exact wp_ret rfl rfl (l13 c1 c2 c5 c11)
set_option maxRecDepth 20000 in
theorem gX8_worth_109 {xs : List Int} {d : Nat} {M : z_M} {P : Option z_V → z_L → z_M → Prop} {x1 : Int} {x2 : Int} {x3 : Int} {x4 : Int} {x5 : Int} {x6 : Int} {x7 : Int} {s1 : Int} {s2 : Int} (hx1 : z_her M x1)
    (b1 : 0 ≤ s1 ∧ s1 < 32)
    (l1 : wp xs d mX8_worth 32 [(2, 34), (2, x1), (0, x2), (0, x3), (0, (z_w (x4 + 1))), (0, (z_w (x5 + 1))), (0, x6), (0, x7)] [] z_LL (z_up M 35 s1 s2) P) :
    wp xs d mX8_worth 109 [(2, 34), (2, x1), (0, x2), (0, x3), (0, x4), (0, x5), (0, x6), (0, x7)] [(0, s2), (0, s1), (2, 35)] z_LL M P := by
  refine wp_iast (pc' := 110) rfl rfl rfl (b1) ?_
  refine wp_run 4 (pc' := 32) (ls' := [(2, 34), (2, x1), (0, x2), (0, x3), (0, (z_w (x4 + 1))), (0, (z_w (x5 + 1))), (0, x6), (0, x7)]) (st' := []) rfl ?_
  exact l1
section
variable {xs : List Int} {d : Nat} {M : z_M} {P : Option z_V → z_L → z_M → Prop} {x1 x2 x3 x4 x5 st kk : Int} {w6 w7 : z_V}
theorem z_wk0 (hF : z_fix M) (hH : z_her M x1) (hG : z_gor M (M 34 3)) (e15 : x5 < M (M 34 3) 15) (e5 : 0 ≤ x5 ∧ x5 < 270) (e8 : M (M 34 3 + 8) x5 = st) (e4 : 0 ≤ x4 ∧ x4 < 32) (hs : 0 ≤ st) (k : ∀ w6 w7, wp xs (d + 1) mX8_worth 32 [(2, 34), (2, x1), (0, x2), (0, x3), (0, x4 + 1), (0, x5 + 1), w6, w7] [] z_LL (z_up M 35 x4 st) P) : wp xs (d + 1) mX8_worth 32 [(2, 34), (2, x1), (0, x2), (0, x3), (0, x4), (0, x5), w6, w7] [] z_LL M P := by
  have g := gX8_worth_32 (M := M) (xs := xs) (d := d) (P := P) (x1 := x1) (x2 := x2) (x3 := x3) (x4 := x4) (x5 := x5) (w6 := w6) (w7 := w7) hF hH hG
  simp only [e8, z_wid (x := x4 + 1) (by omega), z_wid (x := x5 + 1) (by omega)] at g
  apply g
  case l3 => exact fun _ _ _ _ => k _ _
  all_goals (clear g; intros; omega)
theorem z_wk1 (hF : z_fix M) (hH : z_her M x1) (hG : z_gor M (M 34 3)) (e15 : x5 < M (M 34 3) 15) (e5 : 0 ≤ x5 ∧ x5 < 270) (e8 : M (M 34 3 + 8) x5 = st) (e4 : 0 ≤ x4 ∧ x4 < 32) (hs : st < 0) (hx : z_xor st (-1) = kk) (hk : kk = 3 ∨ (19 ≤ kk ∧ kk ≤ 23)) (k : ∀ w6 w7 : Int, wp xs d mX8_unitWorth 0 [(2, 34), (0, kk), (2, x1), (0, x2), (0, x3)] [] z_LL M (fun r L1 M1 => wp xs (d + 1) mX8_worth 109 [(2, 34), (2, x1), (0, x2), (0, x3), (0, x4), (0, x5), (0, w6), (0, w7)] (z_ol r ++ [(0, x4), (2, 35)]) L1 M1 P)) : wp xs (d + 1) mX8_worth 32 [(2, 34), (2, x1), (0, x2), (0, x3), (0, x4), (0, x5), w6, w7] [] z_LL M P := by
  have g := gX8_worth_32 (M := M) (xs := xs) (d := d) (P := P) (x1 := x1) (x2 := x2) (x3 := x3) (x4 := x4) (x5 := x5) (w6 := w6) (w7 := w7) hF hH hG
  simp only [e8, hx] at g
  apply g
  case l11 => exact fun _ _ _ _ _ => k _ _
  all_goals (clear g; intros; omega)
theorem z_wk2 (hF : z_fix M) (hH : z_her M x1) (hG : z_gor M (M 34 3)) (e15 : x5 < M (M 34 3) 15) (e5 : 0 ≤ x5 ∧ x5 < 270) (e8 : M (M 34 3 + 8) x5 = -19) (e4 : 1 ≤ x4 ∧ x4 < 33) (k : ∀ w6 w7, wp xs (d + 1) mX8_worth 32 [(2, 34), (2, x1), (0, x2), (0, x3), (0, x4), (0, x5 + 1), w6, w7] [] z_LL (z_up M 35 (x4 - 1) (z_b (M 35 (x4 - 1) = 0))) P) : wp xs (d + 1) mX8_worth 32 [(2, 34), (2, x1), (0, x2), (0, x3), (0, x4), (0, x5), w6, w7] [] z_LL M P := by
  have g := gX8_worth_32 (M := M) (xs := xs) (d := d) (P := P) (x1 := x1) (x2 := x2) (x3 := x3) (x4 := x4) (x5 := x5) (w6 := w6) (w7 := w7) hF hH hG
  have hx : z_xor (-19) (-1) = 18 := by decide
  simp only [e8, hx, z_wid (x := x4 - 1) (by omega), z_wid (x := x5 + 1) (by omega)] at g
  apply g
  case l9 =>
    intro _ _ _ _ _ c
    rw [z_b_f c] at k
    exact k _ _
  case l10 =>
    intro _ _ _ _ _ c
    rw [z_b_t (Classical.byContradiction c)] at k
    exact k _ _
  all_goals (clear g; intros; omega)
theorem z_wk3 (hF : z_fix M) (hH : z_her M x1) (hG : z_gor M (M 34 3)) (e15 : x5 < M (M 34 3) 15) (e5 : 0 ≤ x5 ∧ x5 < 270) (e8 : M (M 34 3 + 8) x5 = st) (e4 : 2 ≤ x4 ∧ x4 < 33) (hs : st < 0) (hx : z_xor st (-1) = kk) (hk : ¬ (kk = 3 ∨ (19 ≤ kk ∧ kk ≤ 23))) (hk2 : kk ≠ 18) (k : ∀ w6 w7, wp xs (d + 1) mX8_worth 32 [(2, 34), (2, x1), (0, x2), (0, x3), (0, x4 - 1), (0, x5 + 1), w6, w7] [] z_LL (z_up M 35 (x4 - 2) (z_opc kk (M 35 (x4 - 2)) (M 35 (x4 - 1)))) P) : wp xs (d + 1) mX8_worth 32 [(2, 34), (2, x1), (0, x2), (0, x3), (0, x4), (0, x5), w6, w7] [] z_LL M P := by
  have t1 : z_w (x4 + -1) = x4 - 1 := by rw [z_wid (by omega)]; omega
  have t2 : z_w (x4 - 1 - 1) = x4 - 2 := by rw [z_wid (by omega)]; omega
  have g := gX8_worth_32 (M := M) (xs := xs) (d := d) (P := P) (x1 := x1) (x2 := x2) (x3 := x3) (x4 := x4) (x5 := x5) (w6 := w6) (w7 := w7) hF hH hG
  simp only [e8, hx, t1, t2, z_wid (x := x5 + 1) (by omega)] at g
  apply g
  case l6 => exact fun _ _ _ _ _ => k _ _
  all_goals (clear g; intros; omega)
end
