section
variable {xs : List Int} {d : Nat} {M : z_M}
theorem z_tup_m {n i : Nat} {t0 : z_NT} {B : Int} (hs : ∀ y : Nat, y < i → z_smi (z_hsv (z_wnt M) (z_way n y)) n ≤ B) (h0 : t0.2.1 ≤ B) : (z_tup n M t0 i).2.1 ≤ B ∧ t0.2.1 ≤ (z_tup n M t0 i).2.1 := by
  induction i with
  | zero => exact ⟨h0, Int.le_refl _⟩
  | succ i ih =>
    have ih := ih (fun y hy => hs y (by omega))
    have := hs i (by omega)
    rw [z_tup_s]
    split
    · unfold z_nta
      split
      · show max _ _ ≤ B ∧ t0.2.1 ≤ max _ _
        omega
      · exact ih
    · exact ih
theorem z_way_r {n y : Nat} {i : Int} (a : 0 ≤ i) (b : i < n) : -1 ≤ z_way n y i ∧ z_way n y i < n := by
  unfold z_way z_dgr
  rw [if_pos (by omega)]
  have := Nat.mod_lt (y / (n + 1) ^ ((n : Int) - 1 - i).toNat) (show 0 < n + 1 by omega)
  omega
theorem z_way_s {n y : Nat} (hC : z_mc M) (hn : M 321 48 = (n : Int)) : -(n : Int) ≤ z_smi (z_hsv (z_wnt M) (z_way n y)) n ∧ z_smi (z_hsv (z_wnt M) (z_way n y)) n ≤ 99 * n := z_smi_r n (fun f h1 h2 => by
  have := z_way_r (n := n) (y := y) h1 h2
  unfold z_hsv z_wnt
  split
  · omega
  · exact (hC.2.2.2.2.2.2 f h1 (by omega)).2.2.2.2 (z_way n y f) (by omega) (by omega))
theorem s_X10_dear {P : Option z_V → z_L → z_M → Prop} {n : Nat} (t0 : z_NT) (h0 : t0.2.1 = -1) (hF : z_fix M) (hC : z_mc M) (hY : z_fsy M) (hn : M 321 48 = (n : Int)) (k : ∀ M' : z_M, z_mi M M' → M' 321 68 = (if 0 ≤ (z_tup n M t0 ((n + 1) ^ n)).2.1 then (n : Int) else 0) → (0 ≤ (z_tup n M t0 ((n + 1) ^ n)).2.1 → ∀ j : Int, 0 ≤ j → j < n → M' 347 j = (z_tup n M t0 ((n + 1) ^ n)).2.2.2.1 j) → P (some (0, (z_tup n M t0 ((n + 1) ^ n)).2.1)) z_LL M') : wp xs (d + 3) mX10_dear 0 [(2, 321), (3, 0), (3, 0), (3, 0), (3, 0)] [] z_LL M P := by
  have h6 := hC.2.2.1
  have hp := z_pow7 n (by omega)
  have m0 : z_mi M (z_up M 321 68 0) := ⟨fun q a _ _ => z_upn a, fun j a => z_upi a rfl⟩
  refine gX10_dear_0 (d := d + 2) ?_
  refine s_X10_rowsOf (n := n) (by rw [m0.2 48 (by decide)]; exact hn) (by omega) ?_
  refine gX10_dear_11 ?_
  generalize hN : (n + 1) ^ n = N at *
  have key := z_loop (W := fun i => ∀ (M' : z_M) (w4 : z_V), z_mi M M' → (0 ≤ (z_tup n M t0 i).2.1 → ∀ j : Int, 0 ≤ j → j < n → M' 347 j = (z_tup n M t0 i).2.2.2.1 j) → wp xs (d + 3) mX10_dear 14 [(2, 321), (0, (z_tup n M t0 i).2.1), (0, (N : Int)), (0, (i : Int)), w4] [] z_LL M' P) N (fun i hi ih M' w4 f hv => ?_)
  · rw [show (z_tup n M t0 0).2.1 = -1 from h0] at key
    exact key _ _ m0 (fun q => absurd q (by decide))
  · have F' := z_mi_F f hF
    have C' := z_mc_x (z_mi_e f) hC
    have n' : M' 321 48 = (n : Int) := by rw [f.2 48 (by decide)]; exact hn
    have bt := z_tup_m (M := M) (n := n) (i := i) (t0 := t0) (B := 99 * n) (fun y _ => (z_way_s hC hn).2) (by omega)
    have g := gX10_dear_14 (M := M') (xs := xs) (d := d + 2) (P := P) (x1 := (z_tup n M t0 i).2.1) (x2 := (N : Int)) (x3 := (i : Int)) (w4 := w4)
    rw [n'] at g
    refine g (fun c c2 => ?_) (fun c c2 => ?_) (fun c => ?_)
    · obtain rfl : i = N := by omega
      refine k _ ⟨fun q a b e => by rw [z_upn a]; exact f.1 q a b e, fun j a => by rw [z_upi a rfl]; exact f.2 j a⟩ (by rw [z_ups, if_pos c2]) (fun _ j a b => ?_)
      rw [z_upn (by decide)]
      exact hv c2 j a b
    · obtain rfl : i = N := by omega
      exact k _ ⟨fun q a b e => by rw [z_upn a]; exact f.1 q a b e, fun j a => by rw [z_upi a rfl]; exact f.2 j a⟩ (by rw [z_ups, if_neg c2]) (fun q => absurd q c2)
    · have ih := ih (by omega)
      refine s_X10_layPairs (d := d) (y := i) F' C' n' (by omega) (fun M2 f2 v2 => ?_)
      have m2 : z_mi M M2 := ⟨fun q a b e => by rw [f2 q b, f.1 q a b e], fun j a => by rw [f2 321 (by decide), f.2 j a]⟩
      have hv2 : 0 ≤ (z_tup n M t0 i).2.1 → ∀ j : Int, 0 ≤ j → j < n → M2 347 j = (z_tup n M t0 i).2.2.2.1 j := fun q j a b => by
        rw [f2 347 (by decide)]
        exact hv q j a b
      rw [(z_cfe_w (z_mi_e f)).1]
      have nx : ∀ (M3 : z_M) (w4 : z_V), (z_tup n M t0 (i + 1)).2.1 = (z_tup n M t0 i).2.1 → (z_tup n M t0 (i + 1)).2.2.2.1 = (z_tup n M t0 i).2.2.2.1 → z_mi M M3 → (0 ≤ (z_tup n M t0 i).2.1 → ∀ j : Int, 0 ≤ j → j < n → M3 347 j = (z_tup n M t0 i).2.2.2.1 j) → wp xs (d + 3) mX10_dear 14 [(2, 321), (0, (z_tup n M t0 i).2.1), (0, (N : Int)), (0, z_w ((i : Int) + 1)), w4] [] z_LL M3 P := fun M3 w4 e e2 m h => by
        rw [z_in1 (by omega)]
        rw [e, e2] at ih
        exact ih M3 w4 m h
      refine gX10_dear_24 (d := d + 2) (fun c1 => ?_) (fun c1 => ?_)
      · have e := z_tup_n (M := M) (n := n) (i := i) (t0 := t0) (fun q => by
          rw [z_b_t (p := z_val n (z_cpr M) (z_dgr n n i fun _ => -1)) q] at c1
          omega)
        exact nx M2 w4 (by rw [e]) (by rw [e]) m2 hv2
      · have va : z_val n (z_cpr M) (z_way n i) := Classical.byContradiction fun q => c1 (z_b_f q)
        have F2 := z_mi_F m2 hF
        have C2 := z_mc_x (z_mi_e m2) hC
        have n2 : M2 321 48 = (n : Int) := by rw [m2.2 48 (by decide)]; exact hn
        have w2 := (z_cfe_w (z_mi_e m2)).2
        refine s_X10_isCalm (d := d) (W := z_way n i) F2 C2 (z_fsy_x (z_mi_e m2) hY) n2 v2 ?_
        rw [(z_cfe_u (z_mi_e m2)).2]
        refine gX10_dear_31 (d := d + 2) (fun c2 => ?_) (fun c2 => ?_)
        · have e := z_tup_u (M := M) (n := n) (i := i) (t0 := t0) (fun q => by
            rw [z_b_t q] at c2
            omega)
          exact nx M2 w4 (by rw [e]) (by rw [e]) m2 hv2
        · have e := z_tup_y (t0 := t0) va (Classical.byContradiction fun w => c2 (z_b_f w))
          have sb := z_way_s (M := M) (n := n) (y := i) hC hn
          refine s_X10_allHave (d := d + 1) (W := z_way n i) F2 C2 n2 v2 ?_
          rw [w2]
          have e1 : (z_tup n M t0 (i + 1)).2.1 = max (z_tup n M t0 i).2.1 (z_smi (z_hsv (z_wnt M) (z_way n i)) n) := by rw [e]; rfl
          have e2 : (z_tup n M t0 (i + 1)).2.2.2.1 = if (z_tup n M t0 i).2.1 < z_smi (z_hsv (z_wnt M) (z_way n i)) n then z_way n i else (z_tup n M t0 i).2.2.2.1 := by rw [e]; rfl
          refine gX10_dear_38 (d := d + 2) (fun c3 => ?_) (fun c3 => nx M2 w4 (by rw [e1]; omega) (by rw [e2, if_neg c3]) m2 hv2)
          refine s_X10_allHave (d := d + 1) (W := z_way n i) F2 C2 n2 v2 ?_
          rw [w2]
          refine gX10_dear_49 (d := d + 3) ?_
          rw [if_pos c3] at e2
          rw [e1, e2, show max (z_tup n M t0 i).2.1 (z_smi (z_hsv (z_wnt M) (z_way n i)) n) = z_smi (z_hsv (z_wnt M) (z_way n i)) n by omega] at ih
          generalize z_smi (z_hsv (z_wnt M) (z_way n i)) n = S at *
          refine z_loop (W := fun m => ∀ M3 : z_M, z_mi M M3 → M3 346 = M2 346 → (∀ j : Int, 0 ≤ j → j < m → M3 347 j = z_way n i j) → wp xs (d + 3) mX10_dear 53 [(2, 321), (0, S), (0, (N : Int)), (0, (i : Int)), (0, (m : Int))] [] z_LL M3 P) n (fun m hm ih2 M3 m3 e346 hv3 => ?_) M2 m2 rfl (fun j a b => by omega)
          have g := gX10_dear_53 (M := M3) (xs := xs) (d := d + 3) (P := P) (x1 := S) (x2 := (N : Int)) (x3 := (i : Int)) (x4 := (m : Int)) (z_mi_F m3 hF)
          rw [m3.2 48 (by decide), hn, z_in1 (i := m) (by omega), z_in1 (i := i) (by omega), e346] at g
          refine g (fun c4 => ?_) (fun _ => by omega) (fun c4 => ?_)
          · obtain rfl : m = n := by omega
            exact ih M3 _ m3 (fun _ j a b => hv3 j a b)
          · refine ih2 (by omega) _ ⟨fun q a b c => by rw [z_upn c]; exact m3.1 q a b c, fun j a => by rw [z_upn (by decide)]; exact m3.2 j a⟩ (by rw [z_upn (by decide), e346]) (fun j a b => ?_)
            by_cases ej : j = m
            · rw [ej, z_ups]
              exact (v2 m (by omega) (by omega)).1
            · rw [z_upi ej rfl]
              exact hv3 j a (by omega)
theorem s_X10_reach {P : Option z_V → z_L → z_M → Prop} {n : Nat} {f : Int} (t0 : z_NT) (h0 : t0.2.2.2.2 = fun _ => -1) (hF : z_fix M) (hC : z_mc M) (hY : z_fsy M) (hn : M 321 48 = (n : Int)) (k1 : 0 ≤ f ∧ f < n → ∀ M' : z_M, (∀ q, q ≠ 346 → M' q = M q) → P (some (0, (z_tup n M t0 ((n + 1) ^ n)).2.2.2.2 f)) z_LL M') (k2 : ¬ (0 ≤ f ∧ f < n) → P (some (0, -1)) z_LL M) : wp xs (d + 3) mX10_reach 0 [(2, 321), (0, f), (3, 0), (3, 0), (3, 0)] [] z_LL M P := by
  have h6 := hC.2.2.1
  have hp := z_pow7 n (by omega)
  have g := gX10_reach_0 (M := M) (xs := xs) (d := d + 1) (P := P) (a1 := f) hF hC
  rw [hn] at g
  refine g (fun hf => ?_) (fun hf => k2 hf)
  have k1 := k1 hf
  refine s_X10_rowsOf (n := n) hn (by omega) ?_
  refine gX10_reach_16 ?_
  generalize hN : (n + 1) ^ n = N at *
  have key := z_loop (W := fun i => ∀ M' : z_M, (∀ q, q ≠ 346 → M' q = M q) → wp xs (d + 3) mX10_reach 20 [(2, 321), (0, f), (0, (z_tup n M t0 i).2.2.2.2 f), (0, (N : Int)), (0, (i : Int))] [] z_LL M' P) N (fun i hi ih M' f1 => ?_)
  · rw [show (z_tup n M t0 0).2.2.2.2 f = -1 by rw [show (z_tup n M t0 0).2.2.2.2 = _ from h0]] at key
    exact key M (fun _ _ => rfl)
  · have m1 : z_mi M M' := ⟨fun q _ b _ => f1 q b, fun j _ => by rw [f1 321 (by decide)]⟩
    have F' := z_mi_F m1 hF
    have C' := z_mc_x (z_mi_e m1) hC
    have n' : M' 321 48 = (n : Int) := by rw [m1.2 48 (by decide)]; exact hn
    refine gX10_reach_20 (d := d + 2) (fun c => ?_) (fun c => ?_)
    · obtain rfl : i = N := by omega
      exact k1 M' f1
    · have ih := ih (by omega)
      refine s_X10_layPairs (d := d) (y := i) F' C' n' (by omega) (fun M2 f2 v2 => ?_)
      have g2 : ∀ q, q ≠ 346 → M2 q = M q := fun q a => by rw [f2 q a, f1 q a]
      have m2 : z_mi M M2 := ⟨fun q _ b _ => g2 q b, fun j _ => by rw [g2 321 (by decide)]⟩
      rw [(z_cfe_w (z_mi_e m1)).1]
      have nx : (z_tup n M t0 (i + 1)).2.2.2.2 f = (z_tup n M t0 i).2.2.2.2 f → wp xs (d + 3) mX10_reach 20 [(2, 321), (0, f), (0, (z_tup n M t0 i).2.2.2.2 f), (0, (N : Int)), (0, z_w ((i : Int) + 1))] [] z_LL M2 P := fun e => by
        rw [z_in1 (by omega)]
        rw [e] at ih
        exact ih M2 g2
      refine gX10_reach_32 (d := d + 2) (fun c1 => ?_) (fun c1 => ?_)
      · have e := z_tup_n (M := M) (n := n) (i := i) (t0 := t0) (fun q => by
          rw [z_b_t (p := z_val n (z_cpr M) (z_dgr n n i fun _ => -1)) q] at c1
          omega)
        exact nx (by rw [e])
      · have va : z_val n (z_cpr M) (z_way n i) := Classical.byContradiction fun q => c1 (z_b_f q)
        have F2 := z_mi_F m2 hF
        have C2 := z_mc_x (z_mi_e m2) hC
        have n2 : M2 321 48 = (n : Int) := by rw [m2.2 48 (by decide)]; exact hn
        refine s_X10_isCalm (d := d) (W := z_way n i) F2 C2 (z_fsy_x (z_mi_e m2) hY) n2 v2 ?_
        rw [(z_cfe_u (z_mi_e m2)).2]
        have vf := v2 f hf.1 hf.2
        have hsf : z_hsv (z_wnt M) (z_way n i) f = if z_way n i f < 0 then 0 else M 340 (6 * f + z_way n i f) := rfl
        have g := gX10_reach_39 (M := M2) (xs := xs) (d := d + 2) (P := P) (x1 := f) (x2 := (z_tup n M t0 i).2.2.2.2 f) (x3 := (N : Int)) (x4 := (i : Int)) (s0 := z_b (z_clm n M (z_way n i))) F2
        rw [vf.1, g2 340 (by decide), z_wid (x := 6 * f) (by omega), z_wid (x := 6 * f + z_dgr n n i (fun _ => -1) f) (by omega)] at g
        change _ → _ at g
        by_cases hc : z_clm n M (z_way n i)
        · have e := z_tup_y (t0 := t0) va hc
          have e1 : (z_tup n M t0 (i + 1)).2.2.2.2 f = max ((z_tup n M t0 i).2.2.2.2 f) (z_hsv (z_wnt M) (z_way n i) f) := by rw [e]; rfl
          rw [e1] at ih
          rw [z_b_t hc] at g ⊢
          have stp : ∀ v, v = max ((z_tup n M t0 i).2.2.2.2 f) (z_hsv (z_wnt M) (z_way n i) f) → wp xs (d + 3) mX10_reach 20 [(2, 321), (0, f), (0, v), (0, (N : Int)), (0, z_w ((i : Int) + 1))] [] z_LL M2 P := fun v hv => by
            rw [hv, z_in1 (by omega)]
            exact ih M2 g2
          have vr : -1 ≤ z_way n i f ∧ z_way n i f < n := vf.2
          change z_hsv (z_wnt M) (z_way n i) f = if z_dgr n n i (fun _ => -1) f < 0 then 0 else M 340 (6 * f + z_dgr n n i (fun _ => -1) f) at hsf
          generalize z_dgr n n i (fun _ => -1) f = w at *
          generalize z_hsv (z_wnt M) (z_way n i) f = hv at *
          refine g (fun q => absurd q (by decide)) (fun _ => by omega) (fun _ _ => by omega) (fun _ c2 c3 => ?_) (fun _ c2 c3 _ => ?_) (fun _ c2 c3 c4 => absurd c2 c4) (fun _ c2 c3 => ?_) (fun _ c2 c3 c4 => absurd c4 c2) (fun _ c2 c3 c4 => absurd c4 c2) (fun _ c2 c3 c4 => ?_)
          · rw [if_neg (by omega)] at hsf
            exact stp _ (by omega)
          · rw [if_neg (by omega)] at hsf
            exact stp _ (by omega)
          · rw [if_pos (by omega)] at hsf
            exact stp _ (by omega)
          · rw [if_pos (by omega)] at hsf
            exact stp _ (by omega)
        · have e := z_tup_u (M := M) (n := n) (i := i) (t0 := t0) hc
          rw [z_b_f hc] at g ⊢
          exact g (fun _ => nx (by rw [e])) (fun q => absurd rfl q) (fun q => absurd rfl q) (fun q => absurd rfl q) (fun q => absurd rfl q) (fun q => absurd rfl q) (fun q => absurd rfl q) (fun q => absurd rfl q) (fun q => absurd rfl q) (fun q => absurd rfl q)
end
