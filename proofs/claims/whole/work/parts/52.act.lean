/-! ACTS: all holds again -/
theorem z_R_prm {M : z_M} (hR : z_R M) : z_prm M (M 1 2) := ⟨z_R_k hR, fun i a b => ⟨(hR.2.2.2.1.1 i a b).1, (hR.2.2.2.1.1 i a b).2.2⟩, hR.2.2.2.1.2.1⟩
theorem z_hk_b {h : Int} (q : z_hk h) : 24 ≤ h ∧ h ≤ 283 ∧ (h + 5 < 30 ∨ 48 < h) ∧ h % 6 = (if h = 24 then 0 else 1) := by
  unfold z_hk at q
  split <;> omega
theorem z_act_R {M M1 M2 M3 M4 : z_M} {r A sh A' sh' : Int} {t : Int → Int} (hR : z_R M) (K : z_kpt M M1 (M 1 2) r A sh) (Hr : z_hrd M1 r (M 342)) (F2 : z_psf M1 M2 (M 1 2)) (H2 : z_hrd M2 (M 1 2) t)
    (m1 : ∀ q, q ≠ 321 → q ≠ 345 → M3 q = M2 q) (m2 : ∀ j, j ≠ 64 → j ≠ 65 → M3 321 j = M2 321 j) (m3 : M3 321 64 = A' + 1 ∧ M3 321 65 = 0) (m4 : 0 ≤ A' ∧ A' < 40 ∧ (sh' = 0 ∨ sh' = 1) ∧ A' + sh' = M2 321 64 ∧ (sh' = 1 → A' = 39)) (m5 : ∀ i j : Int, 0 ≤ i → i < A' → 0 ≤ j → j < 106 → M3 345 (106 * i + j) = M2 345 (106 * (i + sh') + j)) (m6 : ∀ j : Int, 0 ≤ j → j < 106 → M3 345 (106 * A' + j) = M2 342 j)
    (F4 : ∀ q, ¬ z_scr q → q ≠ 343 → q ≠ 342 → M4 q = M3 q) (Z : ∀ k : Int, ¬ (0 ≤ k ∧ k < 106) → M4 342 k = 0 ∧ M4 343 k = 0) (T : ∀ k : Int, 0 ≤ k → k < 106 → M4 342 k = t k) (S : z_sn M 999 t) : z_R M4 := by
  obtain ⟨⟨F, C, Pp, Y⟩, ⟨g1, g2, g3, g4, g5, g6⟩, ⟨n1, n2, n3⟩, ⟨p1, p2, p3, p4, p5⟩, b, sg, l, tp, z⟩ := hR
  obtain ⟨⟨k1, k2⟩, k3, k4, k5, k6, k7, k8, k9, k10⟩ := K
  have hh := z_hk_ish n1
  have hr := z_hk_ish k1
  have bh := z_hk_b n1
  have br := z_hk_b k1
  have dis := z_hdis hh.1 hr.1 (fun e => k2 e.symm)
  have G0 := z_gsep g2.1
  have G1 := z_gsep g3
  -- what has not changed at all
  have fr : ∀ q, ¬ z_scr q → q ≠ 343 → q ≠ 342 → q ≠ 321 → q ≠ 345 → q ≠ 34 → q ≠ 35 → q ≠ 36 → q ≠ 37 → ¬ (M 1 2 ≤ q ∧ q ≤ M 1 2 + 5) → q ≠ 47 → q ≠ 48 → ¬ (r ≤ q ∧ q ≤ r + 5) → M4 q = M q := fun q a1 a2 a3 a4 a5 a6 a7 a8 a9 a10 a11 a12 a13 => by
    rw [F4 q a1 a2 a3, m1 q a4 a5, F2.1 q a6 a7 a8 a9 a10, k3 q a11 a12 a13]
  have f321 : ∀ j, j ≠ 64 → j ≠ 65 → M4 321 j = M 321 j := fun j a c => by
    rw [F4 321 (z_ns (by omega)) (by omega) (by omega), m2 j a c, F2.1 321 (by omega) (by omega) (by omega) (by omega) (by omega), k3 321 (by omega) (by omega) (by omega)]
  have q1 : M4 1 = M 1 := fr 1 (z_ns (by omega)) (by omega) (by omega) (by omega) (by omega) (by omega) (by omega) (by omega) (by omega) (by omega) (by omega) (by omega) (by omega)
  have cf : ∀ q, 322 ≤ q → q ≤ 357 → ¬ z_scr q → q ≠ 343 → q ≠ 342 → q ≠ 345 → M4 q = M q := fun q a c e1 e2 e3 e4 => fr q e1 e2 e3 (by omega) e4 (by omega) (by omega) (by omega) (by omega) (by omega) (by omega) (by omega) (by omega)
  have cfe : z_cfe M M4 := ⟨fun k hk => f321 k (by omega) (by omega), cf _ (by omega) (by omega) (z_ns (by omega)) (by omega) (by omega) (by omega), cf _ (by omega) (by omega) (z_ns (by omega)) (by omega) (by omega) (by omega), cf _ (by omega) (by omega) (z_ns (by omega)) (by omega) (by omega) (by omega), cf _ (by omega) (by omega) (z_ns (by omega)) (by omega) (by omega) (by omega), cf _ (by omega) (by omega) (z_ns (by omega)) (by omega) (by omega) (by omega), cf _ (by omega) (by omega) (z_ns (by omega)) (by omega) (by omega) (by omega), cf _ (by omega) (by omega) (z_ns (by omega)) (by omega) (by omega) (by omega)⟩
  have o34 : ∀ q, 24 ≤ q → q ≤ 288 → M4 q = M2 q := fun q a c => by
    rw [F4 q (z_ns (by omega)) (by omega) (by omega), m1 q (by omega) (by omega)]
  have e47 : M4 47 = M1 47 := by rw [o34 47 (by omega) (by omega), F2.1 47 (by omega) (by omega) (by omega) (by omega) (by omega)]
  have e48 : M4 48 = M1 48 := by rw [o34 48 (by omega) (by omega), F2.1 48 (by omega) (by omega) (by omega) (by omega) (by omega)]
  have eh : ∀ j, 0 ≤ j → j < 5 → M4 (M 1 2) j = M (M 1 2) j := fun j a c => by
    rw [o34 _ (by omega) (by omega), F2.2.2 j a c, k3 _ (by omega) (by omega) (by omega)]
  have er : ∀ q, r ≤ q → q ≤ r + 5 → M4 q = M1 q := fun q a c => by
    rw [o34 q (by omega) (by omega), F2.1 q (by omega) (by omega) (by omega) (by omega) (by omega)]
  have F' : z_fix M4 := z_fix_gen F (fun q i hq => by
    by_cases e1 : q = 321
    · rw [e1] at hq ⊢
      exact f321 i (by unfold z_fin at hq; omega) (by unfold z_fin at hq; omega)
    · by_cases e2 : q = 47
      · rw [e2] at hq ⊢
        rw [show i = 0 by unfold z_fin at hq; omega, e47, k4]
      · by_cases e3 : q = M 1 2
        · rw [e3] at hq ⊢
          exact eh i (by unfold z_fin at hq; omega) (by unfold z_fin at hq; omega)
        · by_cases e4 : q = r
          · rw [e4] at hq ⊢
            rw [er r (by omega) (by omega), k6 i (by unfold z_fin at hq; omega) (by unfold z_fin at hq; omega)]
          · by_cases e5 : q = 34
            · rw [e5] at hq ⊢
              rw [o34 34 (by omega) (by omega), F2.2.1 i (by unfold z_fin at hq; omega), k3 34 (by omega) (by omega) (by omega)]
            · have hq3 : z_ish q ∨ (q ≤ 23 ∨ (30 ≤ q ∧ q ≤ 38) ∨ (45 ≤ q ∧ q ≤ 48) ∨ 289 ≤ q) := by
                unfold z_fin at hq
                unfold z_ish
                omega
              have hq4 : ¬ (q = 35 ∨ q = 36 ∨ q = 37 ∨ q = 48 ∨ q = 329 ∨ q = 330 ∨ q = 344 ∨ q = 342 ∨ q = 343 ∨ q = 345) := by
                unfold z_fin at hq
                omega
              clear hq
              have na : ¬ (M 1 2 ≤ q ∧ q ≤ M 1 2 + 5) ∧ ¬ (r ≤ q ∧ q ≤ r + 5) := by
                rcases hq3 with w | w
                · have d1 := z_hdis hh.1 w (fun e => e3 e.symm)
                  have d2 := z_hdis hr.1 w (fun e => e4 e.symm)
                  omega
                · omega
              rw [fr q (z_ns (by omega)) (by omega) (by omega) e1 (by omega) e5 (by omega) (by omega) (by omega) na.1 e2 (by omega) na.2])
  have C' := z_mc_x cfe C
  -- what is kept
  have eAA : A' = A ∧ sh' = sh := by
    have w1 := k9.2.2.2
    have w2 := m4.2.2.2
    have w3 : M2 321 64 = M 321 64 := by rw [F2.1 321 (by omega) (by omega) (by omega) (by omega) (by omega), k3 321 (by omega) (by omega) (by omega)]
    have w4 := p3.1
    omega
  obtain ⟨rfl, rfl⟩ := eAA
  have e345 : M2 345 = M 345 := by rw [F2.1 345 (by omega) (by omega) (by omega) (by omega) (by omega), k3 345 (by omega) (by omega) (by omega)]
  have e342 : M2 342 = M 342 := by rw [F2.1 342 (by omega) (by omega) (by omega) (by omega) (by omega), k3 342 (by omega) (by omega) (by omega)]
  have f345 : M4 345 = M3 345 := F4 345 (z_ns (by omega)) (by omega) (by omega)
  have f64 : M4 321 64 = A' + 1 ∧ M4 321 65 = 0 := by
    rw [F4 321 (z_ns (by omega)) (by omega) (by omega)]
    exact m3
  have hb : ∀ q, M 1 2 ≤ q → q ≤ M 1 2 + 5 → M4 q = M2 q := fun q a c => o34 q (by omega) (by omega)
  have H2c : z_cfe M2 M4 := by
    have : z_cfe M M2 := by
      refine z_cfe_c (fun q hq => ?_)
      unfold z_conf at hq
      rw [F2.1 q (by omega) (by omega) (by omega) (by omega) (by omega), k3 q (by omega) (by omega) (by omega)]
    exact ⟨fun k hk => by rw [cfe.1 k hk, this.1 k hk], by rw [cfe.2.1, this.2.1], by rw [cfe.2.2.1, this.2.2.1], by rw [cfe.2.2.2.1, this.2.2.2.1], by rw [cfe.2.2.2.2.1, this.2.2.2.2.1], by rw [cfe.2.2.2.2.2.1, this.2.2.2.2.2.1], by rw [cfe.2.2.2.2.2.2.1, this.2.2.2.2.2.2.1], by rw [cfe.2.2.2.2.2.2.2, this.2.2.2.2.2.2.2]⟩
  have H1c : z_cfe M1 M4 := by
    have : z_cfe M M1 := by
      refine z_cfe_c (fun q hq => ?_)
      unfold z_conf at hq
      exact k3 q (by omega) (by omega) (by omega)
    exact ⟨fun k hk => by rw [cfe.1 k hk, this.1 k hk], by rw [cfe.2.1, this.2.1], by rw [cfe.2.2.1, this.2.2.1], by rw [cfe.2.2.2.1, this.2.2.2.1], by rw [cfe.2.2.2.2.1, this.2.2.2.2.1], by rw [cfe.2.2.2.2.2.1, this.2.2.2.2.2.1], by rw [cfe.2.2.2.2.2.2.1, this.2.2.2.2.2.2.1], by rw [cfe.2.2.2.2.2.2.2, this.2.2.2.2.2.2.2]⟩
  refine ⟨⟨F', C', z_fp_x cfe Pp, z_fsy_x cfe Y⟩, ⟨?_, ?_, ?_, ?_, ?_, ?_⟩, ⟨?_, ?_, ?_⟩, ⟨?_, ?_, ?_, ?_, ?_⟩, ?_, ?_, ?_, ?_, Z⟩
  · rw [o34 34 (by omega) (by omega), F2.2.1 3 (by omega), k3 34 (by omega) (by omega) (by omega), q1, g1]
  · rw [q1]
    exact z_gg_x cfe (fun c a e => fr c (z_ns (by omega)) (by omega) (by omega) (by omega) (by omega) (by omega) (by omega) (by omega) (by omega) (by omega) (by omega) (by omega) (by omega)) g2
  · rw [q1]
    exact z_gor_q (fr _ (z_ns (by omega)) (by omega) (by omega) (by omega) (by omega) (by omega) (by omega) (by omega) (by omega) (by omega) (by omega) (by omega) (by omega)) g3
  · rw [q1]
    exact g4
  · rw [q1, fr (M 1 0) (z_ns (by omega)) (by omega) (by omega) (by omega) (by omega) (by omega) (by omega) (by omega) (by omega) (by omega) (by omega) (by omega) (by omega), f321 49 (by omega) (by omega), g5]
  · rw [q1, fr (M 1 0) (z_ns (by omega)) (by omega) (by omega) (by omega) (by omega) (by omega) (by omega) (by omega) (by omega) (by omega) (by omega) (by omega) (by omega), f321 21 (by omega) (by omega), g6]
  · rw [q1]
    exact n1
  · rw [q1]
    exact z_hrd_e T C' (z_hrd_x H2c hb H2)
  · exact z_sn_e T C' (z_sn_x cfe S)
  · rw [q1, e48]
    intro i a c
    obtain ⟨x, y⟩ := k7.2.1 i a c
    exact ⟨x, z_fix_her F' (z_hk_ish x).1, y⟩
  · rw [e48]
    exact k7.2.2
  · rw [e47, f64.1, f64.2]
    exact k5
  · rw [f64.1, f64.2]
    omega
  · rw [f64.1, f64.2, e48, f345]
    intro i a c
    by_cases e : i = A'
    · rw [e, k8]
      have ex : ∀ k : Int, 0 ≤ k → k < 106 → (fun k => M3 345 (106 * A' + k)) k = M 342 k := fun k a c => by
        show M3 345 (106 * A' + k) = M 342 k
        rw [m6 k a c, e342]
      exact ⟨z_hrd_e ex C' (z_hrd_x H1c (fun c a e => er c a e) Hr), z_sn_e ex C' (z_sn_x cfe n3)⟩
    · obtain ⟨x, y⟩ := k10 i a (by omega)
      obtain ⟨w1, w2⟩ := p5 (i + sh') (by omega) (by omega)
      have w3 := p1 (i + sh') (by omega) (by omega)
      rw [x]
      have ex : ∀ k : Int, 0 ≤ k → k < 106 → (fun k => M3 345 (106 * i + k)) k = (fun k => M 345 (106 * (i + sh') + k)) k := fun k a' c' => by
        show M3 345 (106 * i + k) = M 345 (106 * (i + sh') + k)
        rw [m5 i k a (by omega) a' c', e345]
      have d1 := z_hdis hh.1 (z_hk_ish w3.1).1 (fun e => w3.2.2 e.symm)
      have d2 := z_hdis hr.1 (z_hk_ish w3.1).1 (fun e => y e.symm)
      have b3 := z_hk_b w3.1
      refine ⟨z_hrd_e ex C' (z_hrd_x cfe (fun c a' e' => fr c (z_ns (by omega)) (by omega) (by omega) (by omega) (by omega) (by omega) (by omega) (by omega) (by omega) (by omega) (by omega) (by omega) (by omega)) w1), z_sn_e ex C' (z_sn_x cfe w2)⟩
  · unfold z_Rb at b ⊢
    rw [cf 356 (by omega) (by omega) (z_ns (by omega)) (by omega) (by omega) (by omega), cf 357 (by omega) (by omega) (z_ns (by omega)) (by omega) (by omega) (by omega), q1]
    intro i a b'
    obtain ⟨x, y, z⟩ := b i a b'
    exact ⟨x, y, fun w => ⟨z_hrd_x cfe (fun c a' b' => fr c (z_ns (by omega)) (by omega) (by omega) (by omega) (by omega) (by omega) (by omega) (by omega) (by omega) (by omega) (by omega) (by omega) (by omega)) (z w).1, z_sn_x cfe (z w).2⟩⟩
  · have f9 : ∀ q, 294 ≤ q → q ≤ 300 → M4 q = M q := fun q a c => fr q (z_ns (by omega)) (by omega) (by omega) (by omega) (by omega) (by omega) (by omega) (by omega) (by omega) (by omega) (by omega) (by omega) (by omega)
    have f10 : ∀ q, 349 ≤ q → q ≤ 354 → M4 q = M q := fun q a c => cf q (by omega) (by omega) (z_ns (by omega)) (by omega) (by omega) (by omega)
    unfold z_Rs at sg ⊢
    rw [f9 294 (by omega) (by omega), f9 295 (by omega) (by omega), f9 296 (by omega) (by omega), f9 297 (by omega) (by omega), f9 298 (by omega) (by omega), f9 299 (by omega) (by omega), f9 300 (by omega) (by omega), f10 349 (by omega) (by omega), f10 350 (by omega) (by omega), f10 351 (by omega) (by omega), f10 352 (by omega) (by omega), f10 353 (by omega) (by omega), f10 354 (by omega) (by omega), f321 76 (by omega) (by omega), f321 77 (by omega) (by omega), f321 46 (by omega) (by omega), f321 47 (by omega) (by omega), f321 48 (by omega) (by omega)]
    exact sg
  · unfold z_Rl at l ⊢
    rw [q1, f321 68 (by omega) (by omega), cf 347 (by omega) (by omega) (z_ns (by omega)) (by omega) (by omega) (by omega), fr 302 (z_ns (by omega)) (by omega) (by omega) (by omega) (by omega) (by omega) (by omega) (by omega) (by omega) (by omega) (by omega) (by omega) (by omega)]
    exact l
  · have f9 : ∀ q, 30 ≤ q → q ≤ 33 → M4 q = M q := fun q a c => fr q (z_ns (by omega)) (by omega) (by omega) (by omega) (by omega) (by omega) (by omega) (by omega) (by omega) (by omega) (by omega) (by omega) (by omega)
    unfold z_Rt at tp ⊢
    rw [f9 30 (by omega) (by omega), f9 31 (by omega) (by omega), f9 32 (by omega) (by omega), f9 33 (by omega) (by omega), f321 1 (by omega) (by omega), f321 2 (by omega) (by omega), f321 3 (by omega) (by omega), cf 322 (by omega) (by omega) (z_ns (by omega)) (by omega) (by omega) (by omega)]
    exact tp
