/-! the class's worth, whole -/
theorem z_her_q {M M' : z_M} {h : Int} (e : M' h = M h) (q : z_her M h) : z_her M' h := by
  unfold z_her at q ⊢
  rw [e]
  exact q
theorem z_gor_q {M M' : z_M} {g : Int} (e : M' g = M g) (q : z_gor M g) : z_gor M' g := by
  unfold z_gor at q ⊢
  rw [e]
  exact q
theorem s_X8_worth {xs : List Int} {d : Nat} {M : z_M} {P : Option z_V → z_L → z_M → Prop} {h f c : Int} {s : Int → Int} (hF : z_fix M) (hC : z_mc M) (hP : z_fp M) (hG : z_gg M (M 34 3)) (hH : z_hrd M h s) (hR : z_crd M s) (hf : 0 ≤ f ∧ f < M 321 48) (hc : 0 ≤ c ∧ c < M 321 46 * M 321 47) (k : ∀ M' : z_M, (∀ q, q ≠ 35 → M' q = M q) → P (some (0, z_pul M s f c)) z_LL M') : wp xs (d + 1) mX8_worth 0 [(2, 34), (2, h), (0, f), (0, c), (3, 0), (3, 0), (3, 0), (3, 0)] [] z_LL M P := by
  have hx := z_mc_cells hC
  have ec := hH.2.2.1 c hc.1 (by omega)
  have hg := z_gsep hG.1
  have hh := z_hsep hH.1
  unfold z_pul z_frm at k
  by_cases hp : M 321 59 ≠ 0
  · rw [if_pos hp] at k
    obtain ⟨h1, h2, h3, hw⟩ := hP hp
    obtain ⟨e15, h270, hst⟩ := hG.2.2.2.2.2 hp
    obtain ⟨n, hn⟩ : ∃ n : Nat, M 321 18 = (n : Int) := ⟨(M 321 18).toNat, by omega⟩
    rw [hn] at h1 h2 h3 hw k hst e15 h270
    rw [Int.toNat_natCast] at h3 k
    generalize hA : z_ask M s f c = A at k
    refine gX8_worth_0 hH.1 hG.1 (fun _ => ?_) (fun w => by omega) (fun w => by omega)
    refine z_loop (W := fun i => ∀ (M' : z_M) (w6 w7 : z_V), (∀ q, q ≠ 35 → M' q = M q) → (∀ j : Int, 0 ≤ j → j < z_ht (M 326) i → M' 35 j = z_fst (M 326) (M 327) A i j) → wp xs (d + 1) mX8_worth 32 [(2, 34), (2, h), (0, f), (0, c), (0, z_ht (M 326) i), (0, (i : Int)), w6, w7] [] z_LL M' P) n (fun i hi ih M' w6 w7 hM hv => ?_) M _ _ (fun _ _ => rfl) (fun j a b => by unfold z_ht at b; omega)
    have q34 : M' 34 = M 34 := hM 34 (by decide)
    have hG' : z_gg M' (M' 34 3) := by
      rw [q34]
      exact z_gg_q (fun q hq => hM q (by unfold z_conf at hq; omega)) hG
    have hH' : z_hrd M' h s := z_hrd_q (fun q hq => hM q (by omega)) hH
    have hF' := z_fix_at hF hM z_nf35
    have e15' : M' (M' 34 3) 15 = (n : Int) := by rw [q34, hM _ (by omega), e15]
    have e8 : M' (M' 34 3 + 8) i = M (M 34 3 + 8) i := by rw [q34, hM _ (by omega)]
    clear hg hh
    by_cases hin : i = n
    · subst hin
      have g := gX8_worth_32 (M := M') (xs := xs) (d := d) (P := P) (x1 := h) (x2 := f) (x3 := c) (x4 := z_ht (M 326) i) (x5 := (i : Int)) (w6 := w6) (w7 := w7) hF' hH'.1 hG'.1
      simp only [e15'] at g
      apply g
      case l1 =>
        intro _
        rw [hv 0 (by omega) (by omega)]
        exact k M' hM
      all_goals (clear g; intros; omega)
    · have ih := ih (by omega)
      obtain ⟨w1, w2, w3⟩ := hw i (by omega)
      have hs := hst i (by omega)
      have up : ∀ y v : Int, (∀ q, q ≠ 35 → z_up M' 35 y v q = M q) := fun y v q hq => by rw [z_upn hq, hM q hq]
      have b5 : (i : Int) < M' (M' 34 3) 15 := by rw [e15']; omega
      rcases w3 with ⟨c1, a1⟩ | ⟨c1, a1, a2⟩ | ⟨c1, a1⟩ | ⟨c1, a1⟩
      · have es : M (M 34 3 + 8) i = M 327 i := by
          rcases hs with w | w | w | w
          · exact w.2
          all_goals (have := w.1; omega)
        have eh : z_ht (M 326) (i + 1) = z_ht (M 326) i + 1 := by rw [z_ht, if_pos (Or.inl c1)]
        have ef : z_fst (M 326) (M 327) A (i + 1) = z_pt (z_fst (M 326) (M 327) A i) (z_ht (M 326) i) (M 327 i) := by rw [z_fst, if_pos c1]
        refine z_wk0 (st := M 327 i) hF' hH'.1 hG'.1 b5 (by omega) (by rw [e8, es]) (by omega) a1 (fun w6 w7 => ?_)
        have ih' := ih (z_up M' 35 (z_ht (M 326) i) (M 327 i)) w6 w7 (up _ _)
        rw [eh] at ih'
        refine ih' (fun j b1 b2 => ?_)
        rw [ef]
        by_cases hj : j = z_ht (M 326) i
        · rw [hj, z_ups, z_pt_s]
        · rw [z_upi hj rfl, z_pt_n hj, hv j b1 (by omega)]
      · obtain ⟨kk, e8k, hk⟩ : ∃ kk, M (M 34 3 + 8) i = -1 - kk ∧ z_unk (M 327 i) kk := by
          rcases hs with w | w | w | w
          · exfalso
            have := w.1
            omega
          · exact w.2
          · exfalso
            have := w.1
            omega
          · exfalso
            have := w.1
            omega
        have hk2 : 3 ≤ kk ∧ (kk = 3 ∨ (19 ≤ kk ∧ kk ≤ 23)) := by unfold z_unk at hk; omega
        have eh : z_ht (M 326) (i + 1) = z_ht (M 326) i + 1 := by rw [z_ht, if_pos (Or.inr c1)]
        have ef : z_fst (M 326) (M 327) A (i + 1) = z_pt (z_fst (M 326) (M 327) A i) (z_ht (M 326) i) (A (M 327 i)) := by rw [z_fst, if_neg (by omega), if_pos c1]
        refine z_wk1 (st := -1 - kk) (kk := kk) hF' hH'.1 hG'.1 b5 (by omega) (by rw [e8, e8k]) (by omega) (by omega) (z_xor_u hk) hk2.2 (fun w6 w7 => ?_)
        refine s_X8_unitWorth hF' (z_mc_e (fun q hq => hM q (by unfold z_conf at hq; omega)) hC) hG' hH' (z_crd_q (fun q hq => hM q (by omega)) hR) (by rw [hM 321 (by decide)]; exact hf) (by rw [hM 321 (by decide)]; exact hc) hk ?_
        refine gX8_worth_109 (x1 := h) hH'.1 (by omega) ?_
        have ea : z_ask M' s f c = A := by
          rw [← hA]
          unfold z_ask z_ots
          rw [hM 321 (by decide), hM 338 (by decide)]
        rw [z_wid (x := z_ht (M 326) i + 1) (by omega), z_wid (x := (i : Int) + 1) (by omega), ea]
        have ih' := ih (z_up M' 35 (z_ht (M 326) i) (A (M 327 i))) (0, w6) (0, w7) (up _ _)
        rw [eh] at ih'
        refine ih' (fun j b1 b2 => ?_)
        rw [ef]
        by_cases hj : j = z_ht (M 326) i
        · rw [hj, z_ups, z_pt_s]
        · rw [z_upi hj rfl, z_pt_n hj, hv j b1 (by omega)]
      · have e19 : M (M 34 3 + 8) i = -19 := by
          rcases hs with w | w | w | w
          · exfalso
            have := w.1
            omega
          · exfalso
            have := w.1
            omega
          · exact w.2
          · exfalso
            have := w.1
            omega
        have eh : z_ht (M 326) (i + 1) = z_ht (M 326) i := by rw [z_ht, if_neg (by omega), if_pos c1, Int.add_zero]
        have ef : z_fst (M 326) (M 327) A (i + 1) = z_pt (z_fst (M 326) (M 327) A i) (z_ht (M 326) i - 1) (z_b (z_fst (M 326) (M 327) A i (z_ht (M 326) i - 1) = 0)) := by rw [z_fst, if_neg (by omega), if_neg (by omega), if_pos c1]
        have ev := hv (z_ht (M 326) i - 1) (by omega) (by omega)
        refine z_wk2 hF' hH'.1 hG'.1 b5 (by omega) (by rw [e8, e19]) (by omega) (fun w6 w7 => ?_)
        have ih' := fun y => ih (z_up M' 35 (z_ht (M 326) i - 1) y) w6 w7 (up _ _)
        rw [eh] at ih'
        refine ih' _ (fun j b1 b2 => ?_)
        rw [ef]
        by_cases hj : j = z_ht (M 326) i - 1
        · rw [hj, z_ups, z_pt_s, ev]
        · rw [z_upi hj rfl, z_pt_n hj, hv j b1 (by omega)]
      · obtain ⟨kk, e8k, hk⟩ : ∃ kk, M (M 34 3 + 8) i = -1 - kk ∧ z_sgn kk (M 327 i) := by
          rcases hs with w | w | w | w
          · exfalso
            have := w.1
            omega
          · exfalso
            have := w.1
            omega
          · exfalso
            have := w.1
            omega
          · exact w.2
        obtain ⟨x1, x2, x3, x4⟩ := z_xor_s hk
        have eh : z_ht (M 326) (i + 1) = z_ht (M 326) i - 1 := by rw [z_ht, if_neg (by omega), if_neg (by omega)]; rfl
        have ef : z_fst (M 326) (M 327) A (i + 1) = z_pt (z_fst (M 326) (M 327) A i) (z_ht (M 326) i - 2) (z_op (M 327 i) (z_fst (M 326) (M 327) A i (z_ht (M 326) i - 2)) (z_fst (M 326) (M 327) A i (z_ht (M 326) i - 1))) := by rw [z_fst, if_neg (by omega), if_neg (by omega), if_neg (by omega)]
        have ev1 := hv (z_ht (M 326) i - 1) (by omega) (by omega)
        have ev2 := hv (z_ht (M 326) i - 2) (by omega) (by omega)
        refine z_wk3 (st := -1 - kk) (kk := kk) hF' hH'.1 hG'.1 b5 (by omega) (by rw [e8, e8k]) (by omega) (by omega) x1 x3 x2 (fun w6 w7 => ?_)
        have ih' := fun y => ih (z_up M' 35 (z_ht (M 326) i - 2) y) w6 w7 (up _ _)
        rw [eh] at ih'
        refine ih' _ (fun j b1 b2 => ?_)
        rw [ef]
        by_cases hj : j = z_ht (M 326) i - 2
        · rw [hj, z_ups, z_pt_s, ev1, ev2, z_opc_op hk]
        · rw [z_upi hj rfl, z_pt_n hj, hv j b1 (by omega)]
  · rw [if_neg hp] at k
    have e0 := hG.2.2.2.2.1 (by omega)
    refine gX8_worth_0 hH.1 hG.1 (fun w => by omega) (fun _ => by omega) (fun _ => ?_)
    rw [ec.1, ec.2]
    exact k M (fun _ _ => rfl)
