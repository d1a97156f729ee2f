/-! the class's day, second half -/
theorem z_mt1_f {M : z_M} {ev : Int} {s : Int → Int} {n : Nat} (hn : n ≤ 6) (t : (Int → Int) × Int) (a b : Int) (h1 : 0 ≤ a) (h2 : a < b) (h3 : b < n) (h : (∀ k, ¬ (12 ≤ k ∧ k < 18) → t.1 k = s k) ∧ ∀ f : Int, 0 ≤ f → f < n → -1 ≤ t.1 (12 + f)) : (∀ k, ¬ (12 ≤ k ∧ k < 18) → (z_mt1 M ev t a b).1 k = s k) ∧ ∀ f : Int, 0 ≤ f → f < n → -1 ≤ (z_mt1 M ev t a b).1 (12 + f) := by
  by_cases c : z_cm M a b ∧ ¬ t.1 (18 + 6 * a + b) < ev ∧ t.1 (12 + a) < 0 ∧ t.1 (12 + b) < 0
  · rw [z_mt1_y c.1 c.2.1 c.2.2.1 c.2.2.2]
    refine ⟨fun k hk => ?_, fun f f1 f2 => ?_⟩
    · show z_pt (z_pt t.1 (12 + a) b) (12 + b) a k = _
      rw [z_pt_n (by omega), z_pt_n (by omega)]
      exact h.1 k hk
    · show -1 ≤ z_pt (z_pt t.1 (12 + a) b) (12 + b) a (12 + f)
      by_cases e : f = b
      · rw [e, z_pt_s]
        omega
      · rw [z_pt_n (by omega)]
        by_cases e : f = a
        · rw [e, z_pt_s]
          omega
        · rw [z_pt_n (by omega)]
          exact h.2 f f1 f2
  · rw [z_mt1_n c]
    exact h
theorem s_X8_match {xs : List Int} {d : Nat} {M : z_M} {P : Option z_V → z_L → z_M → Prop} {h ev : Int} {s : Int → Int} (hC : z_mc M) (hG : z_gg M (M 34 3)) (hH : z_hrd M h s) (hev : 1 ≤ ev) (hN : ∀ a b : Int, 0 ≤ a → a < M 321 48 → 0 ≤ b → b < M 321 48 → ¬ z_cm M a b → s (18 + 6 * a + b) = 0) (hm : ∀ f : Int, 0 ≤ f → f < M 321 48 → -1 ≤ s (12 + f)) (k : ∀ M' : z_M, (∀ q, q ≠ h + 2 → M' q = M q) → z_hrd M' h (z_mto M ev (s, 0) (M 321 48).toNat (M 321 48).toNat).1 → P (some (0, (z_mto M ev (s, 0) (M 321 48).toNat (M 321 48).toNat).2)) z_LL M') : wp xs (d + 2) mX8_match 0 [(2, 34), (2, h), (0, ev), (3, 0), (3, 0), (3, 0), (3, 0)] [] z_LL M P := by
  have hn := hC.2.2.1
  obtain ⟨n, hne⟩ : ∃ n : Nat, M 321 48 = (n : Int) := ⟨(M 321 48).toNat, by omega⟩
  rw [hne, Int.toNat_natCast] at k
  have base : ∀ M' : z_M, (∀ q, q ≠ h + 2 → M' q = M q) → M' 34 = M 34 ∧ z_her M' h ∧ z_gor M' (M 34 3) ∧ M' (M 34 3) 12 = (n : Int) ∧ M' (h + 5) = M (h + 5) := fun M' hM => by
    have hg := z_gsep hG.1
    have hh := z_hsep hH.1
    exact ⟨hM 34 (by omega), z_her_q (hM h (by omega)) hH.1, z_gor_q (hM _ (by omega)) hG.1, by rw [hM _ (by omega), hG.2.1.2.2.1, hne], hM _ (by omega)⟩
  have fo : ∀ a : Nat, a ≤ n → (∀ k, ¬ (12 ≤ k ∧ k < 18) → (z_mto M ev (s, 0) n a).1 k = s k) ∧ ∀ f : Int, 0 ≤ f → f < n → -1 ≤ (z_mto M ev (s, 0) n a).1 (12 + f) := fun a ha =>
    z_mto_ind (Q := fun u => (∀ k, ¬ (12 ≤ k ∧ k < 18) → u.1 k = s k) ∧ ∀ f : Int, 0 ≤ f → f < n → -1 ≤ u.1 (12 + f)) (z_mt1_f (by omega)) ⟨fun _ _ => rfl, fun f h1 h2 => hm f h1 (by omega)⟩ a ha
  refine gX8_match_0 hH.1 ?_
  refine z_loop (W := fun a => ∀ (M' : z_M) (w5 w6 : z_V), (∀ q, q ≠ h + 2 → M' q = M q) → (∀ f : Int, 0 ≤ f → f < n → M' (h + 2) f = (z_mto M ev (s, 0) n a).1 (12 + f)) → wp xs (d + 2) mX8_match 5 [(2, 34), (2, h), (0, ev), (0, (z_mto M ev (s, 0) n a).2), (0, (a : Int)), w5, w6] [] z_LL M' P) n (fun a ha ih M' w5 w6 hM hv => ?_) M _ _ (fun _ _ => rfl) (fun f h1 h2 => (hH.2.1 f h1 (by omega)).2)
  obtain ⟨q34, hH', hG', e12, e5⟩ := base M' hM
  have g := gX8_match_5 (M := M') (xs := xs) (d := d + 2) (P := P) (x1 := h) (x2 := ev) (x3 := (z_mto M ev (s, 0) n a).2) (x4 := (a : Int)) (w5 := w5) (w6 := w6) hH' (by rw [q34]; exact hG')
  simp only [q34, e12, z_in1 (i := a) (by omega)] at g
  apply g
  case l1 =>
    intro c
    obtain rfl : a = n := by omega
    exact k M' hM (z_hrd_r2 hH (fun q hq => hM q (by have := z_hsep hH.1; omega)) (by omega) (fun f h1 h2 => hv f h1 (by omega)) (fo a (Nat.le_refl _)).1)
  case l2 =>
    intro c
    have foa := fo a ha
    have hS : z_mto M ev (s, 0) n (a + 1) = z_mti M ev (z_mto M ev (s, 0) n a) a (n - 1 - a) := rfl
    rw [hS] at ih
    clear hS
    generalize z_mto M ev (s, 0) n a = T at *
    have fi : ∀ j : Nat, a + 1 + j ≤ n → (∀ k, ¬ (12 ≤ k ∧ k < 18) → (z_mti M ev T a j).1 k = s k) ∧ ∀ f : Int, 0 ≤ f → f < n → -1 ≤ (z_mti M ev T a j).1 (12 + f) := fun j hj =>
      z_mti_ind (Q := fun u => (∀ k, ¬ (12 ≤ k ∧ k < 18) → u.1 k = s k) ∧ ∀ f : Int, 0 ≤ f → f < n → -1 ≤ u.1 (12 + f)) (z_mt1_f (by omega)) foa j hj
    refine z_loop (W := fun j => ∀ (M2 : z_M) (w6 : z_V), (∀ q, q ≠ h + 2 → M2 q = M q) → (∀ f : Int, 0 ≤ f → f < n → M2 (h + 2) f = (z_mti M ev T a j).1 (12 + f)) → wp xs (d + 2) mX8_match 23 [(2, 34), (2, h), (0, ev), (0, (z_mti M ev T a j).2), (0, (a : Int)), (0, ((a + 1 + j : Nat) : Int)), w6] [] z_LL M2 P) (n - 1 - a) (fun j hj ih2 M2 w6 hM2 hv2 => ?_) M' w6 hM hv
    have fij := fi j (by omega)
    have hs : z_mti M ev T a (j + 1) = z_mt1 M ev (z_mti M ev T a j) a ((a + 1 + j : Nat) : Int) := by
      rw [z_mti]
      congr 1
    have hend : ¬ j < n - 1 - a → z_mti M ev T a (n - 1 - a) = z_mti M ev T a j := fun q => by rw [show n - 1 - a = j by omega]
    generalize hb : a + 1 + j = b at *
    generalize hT2 : z_mti M ev T a j = S at *
    have ei : z_w ((b : Int) + 1) = ((a + 1 + (j + 1) : Nat) : Int) := by rw [z_wid (by omega)]; omega
    obtain ⟨q34, hH2, hG2, e12, e5⟩ := base M2 hM2
    have g := gX8_match_23 (M := M2) (xs := xs) (d := d) (P := P) (x1 := h) (x2 := ev) (x3 := S.2) (x4 := (a : Int)) (x5 := (b : Int)) (w6 := w6) hH2 (by rw [q34]; exact hG2)
    simp only [q34, e12, e5, ei, z_in1 (i := a) (by omega), z_wid (x := (a : Int) * 6) (by omega)] at g
    have hno : b < n → ¬ (z_cm M a b ∧ ¬ S.1 (18 + 6 * a + b) < ev ∧ S.1 (12 + a) < 0 ∧ S.1 (12 + b) < 0) → ∀ w, wp xs (d + 2) mX8_match 23 [(2, 34), (2, h), (0, ev), (0, S.2), (0, (a : Int)), (0, ((a + 1 + (j + 1) : Nat) : Int)), w] [] z_LL M2 P := by
      intro hbn c w
      have ih' := ih2 (by omega) M2 w hM2
      rw [hs, z_mt1_n c] at ih'
      exact ih' hv2
    apply g
    case b1 => intros; omega
    case b2 => intros; omega
    case b3 => intros; omega
    case l4 => intros; omega
    case l5 => intros; omega
    case b4 =>
      intros
      rw [z_wid (by omega)]
      omega
    case l1 =>
      intro c2
      have ih' := ih (by omega) M2 (0, (b : Int)) w6 hM2
      rw [hend (by omega)] at ih'
      exact ih' hv2
    case l2 =>
      intro c2 c3
      rw [hv2 a (by omega) (by omega)] at c3
      refine hno (by omega) (fun q => ?_) _
      have := fij.2 a (by omega) (by omega)
      omega
    case l3 =>
      intro c2 c3 c4
      rw [hv2 b (by omega) (by omega)] at c4
      refine hno (by omega) (fun q => ?_) _
      have := fij.2 b (by omega) (by omega)
      omega
    case l6 =>
      intro c2 c3 c4 c5 c6
      have e0 := (hH.2.2.2.1 a b (by omega) (by omega) (by omega)).1
      rw [z_wid (by omega), show (a : Int) * 6 + b = 6 * a + b by omega, e0] at c6
      refine hno (by omega) (fun q => ?_) _
      have := q.2.1
      rw [fij.1 _ (by omega)] at this
      omega
    case l7 =>
      intro c2 c3 c4 c5 c6
      have e0 := (hH.2.2.2.1 a b (by omega) (by omega) (by omega)).1
      rw [z_wid (by omega), show (a : Int) * 6 + b = 6 * a + b by omega, e0] at c6
      rw [hv2 a (by omega) (by omega)] at c3
      rw [hv2 b (by omega) (by omega)] at c4
      have hcm : z_cm M a b := Classical.byContradiction fun q => by
        have := hN a b (by omega) (by omega) (by omega) (by omega) q
        omega
      have ih' := ih2 (by omega) (z_up (z_up M2 (h + 2) a b) (h + 2) b a) (0, 1) (fun q hq => by rw [z_upn hq, z_upn hq, hM2 q hq])
      rw [hs, z_mt1_y hcm (by rw [fij.1 _ (by omega)]; omega) (by omega) (by omega)] at ih'
      refine ih' (fun f h1 h2 => ?_)
      show _ = z_pt (z_pt S.1 (12 + a) b) (12 + b) a (12 + f)
      by_cases e : f = b
      · rw [e, z_ups, z_pt_s]
      · rw [z_upi e rfl, z_pt_n (by omega)]
        by_cases e : f = a
        · rw [e, z_ups, z_pt_s]
        · rw [z_upi e rfl, z_pt_n (by omega)]
          exact hv2 f h1 h2
theorem s_X8_rain {xs : List Int} {d : Nat} {M : z_M} {P : Option z_V → z_L → z_M → Prop} {h : Int} {s : Int → Int} (hC : z_mc M) (hG : z_gg M (M 34 3)) (hH : z_hrd M h s) (hR : 0 ≤ s 105 ∧ s 105 < 1000) (hgr : ∀ c : Int, 0 ≤ c → c < 25 → 0 ≤ s (54 + c) ∧ s (54 + c) ≤ 9) (k : ∀ M' : z_M, (∀ q, q ≠ h → q ≠ h + 3 → M' q = M q) → z_hrd M' h (z_rai M s) → P none z_LL M') : wp xs (d + 1) mX8_rain 0 [(2, 34), (2, h), (3, 0)] [] z_LL M P := by
  have hn := hC.2.2.1
  have hx := z_mc_cells hC
  have ho := hC.2.2.2.2.2.1
  have hg := z_gsep hG.1
  have hh := z_hsep hH.1
  obtain ⟨N, hN⟩ : ∃ N : Nat, M 321 46 * M 321 47 = (N : Int) := ⟨(M 321 46 * M 321 47).toNat, by omega⟩
  have es : z_rem (z_w (z_w (s 105 * 137) + 71)) 1000 = z_sd (s 105) := by
    rw [z_wid (x := s 105 * 137) (by omega), z_wid (by omega), z_rem_pos (by omega) (by omega)]
    rfl
  have hs : 0 ≤ z_sd (s 105) ∧ z_sd (s 105) < 1000 := by
    unfold z_sd
    omega
  have g := gX8_rain_0 (M := M) (xs := xs) (d := d + 1) (P := P) (a1 := h) hH.1 hG.1
  simp only [hH.2.2.2.2.2.2, es, z_rem_pos (a := z_sd (s 105)) (c := 100) (by omega) (by omega), hG.2.1.2.2.2.1] at g
  have h1 : z_hrd (z_up M h 7 (z_sd (s 105))) h (z_pt s 105 (z_sd (s 105))) := z_hrd_r0 hH (fun q hq => z_upn (by omega)) (fun j hj => z_upi (by omega) rfl) (by rw [z_upi (by decide) rfl, hH.2.2.2.2.2.1, z_pt_n (by decide)]) (by rw [z_ups, z_pt_s]) (by omega) (fun k hk => z_pt_n (by omega))
  have f1 : ∀ q, q ≠ h → z_up M h 7 (z_sd (s 105)) q = M q := fun q hq => z_upn hq
  generalize z_up M h 7 (z_sd (s 105)) = M1 at *
  refine g (fun c => ?_) (fun c => ?_)
  · unfold z_rai at k
    rw [if_pos c, hN] at k
    generalize hS : z_pt s 105 (z_sd (s 105)) = S at *
    have eS : ∀ j : Int, j ≠ 105 → S j = s j := fun j hj => by rw [← hS, z_pt_n hj]
    refine z_loop (W := fun i => ∀ (M' : z_M), (∀ q, q ≠ h + 3 → M' q = M1 q) → (∀ c : Int, 0 ≤ c → c < 25 → M' (h + 3) c = z_rap M S (54 + i) (54 + c)) → wp xs (d + 1) mX8_rain 39 [(2, 34), (2, h), (0, (i : Int))] [] z_LL M' P) N (fun i hi ih M' hM hv => ?_) M1 (fun _ _ => rfl) (fun c a b => by rw [(h1.2.2.1 c a b).1, z_rap_o (by omega)])
    have q34 : M' 34 = M 34 := by rw [hM 34 (by omega), f1 34 (by omega)]
    have qg : M' (M 34 3) = M (M 34 3) := by rw [hM _ (by omega), f1 _ (by omega)]
    have q321 : M1 321 = M 321 := f1 321 (by omega)
    have g := gX8_rain_39 (M := M') (xs := xs) (d := d) (P := P) (x1 := h) (x2 := (i : Int)) (z_her_q (hM h (by omega)) h1.1) (by rw [q34]; exact z_gor_q qg hG.1)
    have fin : z_hrd M' h (z_rap M S (54 + i)) := z_hrd_r3 h1 (fun q hq => hM q (by omega)) (by rw [q321]; omega) hv (fun j hj => z_rap_o (by omega))
    simp only [q34, qg, hG.2.1.1, hG.2.1.2.1, hG.2.1.2.2.2.2.1, hN, z_wid (x := (N : Int)) (by omega), z_in1 (i := i) (by omega), z_min_eq] at g
    apply g
    case l1 =>
      intro c
      obtain rfl : i = N := by omega
      exact k M' (fun q a b => by rw [hM q b, f1 q a]) fin
    case b1 => intros; omega
    case l2 =>
      intro c
      have r := hgr i (by omega) (by omega)
      rw [hv i (by omega) (by omega), z_rap_o (by omega), eS _ (by omega), z_wid (by omega)]
      refine ih (by omega) _ (fun q hq => by rw [z_upn hq, hM q hq]) (fun c a b => ?_)
      rw [show (54 + ((i + 1 : Nat) : Int)) = 54 + i + 1 by omega, z_rap_y (by omega), eS _ (by omega)]
      by_cases e : c = i
      · rw [e, z_ups, z_pt_s]
      · rw [z_upi e rfl, z_pt_n (by omega)]
        exact hv c a b
  · unfold z_rai at k
    rw [if_neg c] at k
    exact k _ (fun q a _ => f1 q a) h1
