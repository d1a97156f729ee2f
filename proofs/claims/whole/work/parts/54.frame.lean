/-! what holds, part by part, when little has changed -/
section
variable {M M' : z_M}
theorem z_Rg_q (h : z_Rg M) (c : z_cfe M M') (e1 : M' 1 0 = M 1 0 ∧ M' 1 1 = M 1 1) (e34 : M' 34 3 = M 34 3) (e49 : M' 321 49 = M 321 49) (hM : ∀ q, 2 ≤ q → q ≤ 23 → M' q = M q) : z_Rg M' := by
  obtain ⟨g1, g2, g3, g4, g5, g6⟩ := h
  have G0 := z_gsep g2.1
  have G1 := z_gsep g3
  have R0 := z_gr g2.1
  have R1 := z_gr g3
  unfold z_Rg
  rw [e1.1, e1.2, e34, e49, c.1 21 (by omega), hM (M 1 0) (by omega) (by omega)]
  exact ⟨g1, z_gg_x c (fun q a b => hM q (by omega) (by omega)) g2, z_gor_q (hM _ (by omega) (by omega)) g3, g4, g5, g6⟩
theorem z_Rn_q (h : z_Rn M) (c : z_cfe M M') (e1 : M' 1 2 = M 1 2) (e342 : M' 342 = M 342) (hM : ∀ q, M 1 2 ≤ q → q ≤ M 1 2 + 5 → M' q = M q) : z_Rn M' := by
  obtain ⟨a, b, e⟩ := h
  unfold z_Rn
  rw [e1, e342]
  exact ⟨a, z_hrd_x c hM b, z_sn_x c e⟩
theorem z_Rp_q (h : z_Rp M) (c : z_cfe M M') (F : z_fix M') (e1 : M' 1 2 = M 1 2) (e48 : M' 48 = M 48) (e47 : M' 47 = M 47) (e64 : M' 321 64 = M 321 64 ∧ M' 321 65 = M 321 65) (e345 : M' 345 = M 345) (hM : ∀ q h, z_hk h → h ≠ M 1 2 → h ≤ q → q ≤ h + 5 → M' q = M q) : z_Rp M' := by
  obtain ⟨p1, p2, p3, p4, p5⟩ := h
  unfold z_Rp
  rw [e1, e48, e47, e64.1, e64.2, e345]
  exact ⟨fun i a b => ⟨(p1 i a b).1, z_fix_her F (z_hk_ish (p1 i a b).1).1, (p1 i a b).2.2⟩, p2, p3, p4, fun i a b => ⟨z_hrd_x c (fun q w1 w2 => hM q _ (p1 i a (by omega)).1 (p1 i a (by omega)).2.2 w1 w2) (p5 i a b).1, z_sn_x c (p5 i a b).2⟩⟩
theorem z_Rb_q (h : z_Rb M) (c : z_cfe M M') (e1 : M' 1 12 = M 1 12) (e356 : M' 356 = M 356) (e357 : M' 357 = M 357) (hM : ∀ q, 303 ≤ q → q ≤ 320 → M' q = M q) : z_Rb M' := by
  unfold z_Rb at h ⊢
  rw [e1, e356, e357]
  intro i a b
  obtain ⟨x, y, z⟩ := h i a b
  exact ⟨x, y, fun w => ⟨z_hrd_x c (fun q w1 w2 => hM q (by omega) (by omega)) (z w).1, z_sn_x c (z w).2⟩⟩
theorem z_Rs_q (h : z_Rs M) (c : z_cfe M M') (e : M' 321 76 = M 321 76 ∧ M' 321 77 = M 321 77) (hM : ∀ q, (294 ≤ q ∧ q ≤ 300) ∨ (349 ≤ q ∧ q ≤ 354) → M' q = M q) : z_Rs M' := by
  unfold z_Rs at h ⊢
  rw [e.1, e.2, z_e46 c, z_e47 c, z_e48 c, hM 294 (by omega), hM 295 (by omega), hM 296 (by omega), hM 297 (by omega), hM 298 (by omega), hM 299 (by omega), hM 300 (by omega), hM 349 (by omega), hM 350 (by omega), hM 351 (by omega), hM 352 (by omega), hM 353 (by omega), hM 354 (by omega)]
  exact h
theorem z_Rl_q (h : z_Rl M) (e1 : M' 1 13 = M 1 13) (e : M' 321 68 = M 321 68) (e302 : M' 302 = M 302) (e347 : M' 347 = M 347) : z_Rl M' := by
  unfold z_Rl at h ⊢
  rw [e1, e, e302, e347]
  exact h
theorem z_Rt_q (h : z_Rt M) (e30 : M' 30 2 = M 30 2) (e33 : M' 33 1 = M 33 1 ∧ M' 33 2 = M 33 2) (e : M' 321 1 = M 321 1 ∧ M' 321 2 = M 321 2 ∧ M' 321 3 = M 321 3) (e31 : M' 31 = M 31) (e32 : M' 32 = M 32) (e322 : M' 322 = M 322) : z_Rt M' := by
  unfold z_Rt at h ⊢
  rw [e30, e33.1, e33.2, e.1, e.2.1, e.2.2, e31, e32, e322]
  exact h
theorem z_Rz_q (h : z_Rz M) (e342 : M' 342 = M 342) (e343 : M' 343 = M 343) : z_Rz M' := by
  unfold z_Rz at h ⊢
  rw [e342, e343]
  exact h
/-- the parts by their names -/
theorem z_R_Rg (h : z_R M) : z_Rg M := h.2.1
theorem z_R_Rn (h : z_R M) : z_Rn M := h.2.2.1
theorem z_R_Rp (h : z_R M) : z_Rp M := h.2.2.2.1
theorem z_R_Rb (h : z_R M) : z_Rb M := h.2.2.2.2.1
theorem z_R_Rs (h : z_R M) : z_Rs M := h.2.2.2.2.2.1
theorem z_R_Rl (h : z_R M) : z_Rl M := h.2.2.2.2.2.2.1
theorem z_R_Rt (h : z_R M) : z_Rt M := h.2.2.2.2.2.2.2.1
theorem z_R_mk (c : z_cfe M M') (hR : z_R M) (F : z_fix M') (g : z_Rg M') (n : z_Rn M') (p : z_Rp M') (b : z_Rb M') (s : z_Rs M') (l : z_Rl M') (t : z_Rt M') (z : z_Rz M') : z_R M' := ⟨⟨F, z_mc_x c (z_R_C hR), z_fp_x c (z_R_P hR), z_fsy_x c (z_R_Y hR)⟩, g, n, p, b, s, l, t, z⟩
/-- keeping leaves alone -/
theorem z_kpt_o {r A sh : Int} (hR : z_R M) (K : z_kpt M M' (M 1 2) r A sh) : (∀ q, q < 24 ∨ (30 ≤ q ∧ q ≤ 46) ∨ 289 ≤ q ∨ (M 1 2 ≤ q ∧ q ≤ M 1 2 + 5) → M' q = M q) ∧ z_fix M' := by
  obtain ⟨⟨k1, k2⟩, k3, k4, k5, k6, k7, k8, k9, k10⟩ := K
  have hk := z_hk_ish (z_R_k hR)
  have hkr := z_hk_ish k1
  have dis := z_hdis hk.1 hkr.1 (fun e => k2 e.symm)
  have bh := z_hk_b (z_R_k hR)
  have br := z_hk_b k1
  refine ⟨fun q hq => k3 q (by omega) (by omega) (by omega), z_fix_gen (z_R_F hR) (fun q i hq => ?_)⟩
  by_cases e2 : q = 47
  · rw [e2] at hq ⊢
    rw [show i = 0 by unfold z_fin at hq; omega, k4]
  · by_cases e4 : q = r
    · rw [e4] at hq ⊢
      exact k6 i (by unfold z_fin at hq; omega) (by unfold z_fin at hq; omega)
    · have hq3 : z_ish q ∨ (q ≤ 23 ∨ (30 ≤ q ∧ q ≤ 38) ∨ (45 ≤ q ∧ q ≤ 48) ∨ 289 ≤ q) := by
        unfold z_fin at hq
        unfold z_ish
        omega
      have hq4 : q ≠ 48 := by
        unfold z_fin at hq
        omega
      clear hq
      have na : ¬ (r ≤ q ∧ q ≤ r + 5) := by
        rcases hq3 with w | w
        · have d2 := z_hdis hkr.1 w (fun e => e4 e.symm)
          omega
        · omega
      rw [k3 q e2 hq4 na]
end
