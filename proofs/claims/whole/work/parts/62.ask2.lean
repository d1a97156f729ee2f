/-! THE CALLS: ask, the model's side -/
section
variable {xs : List Int} {d : Nat} {M : z_M}
theorem s_air5 {P : Option z_V → z_L → z_M → Prop} {ev D : Int} (hR : z_R M) (hS : z_sn M D (M 343)) (hD : D ≤ 100000) (k : ∀ M' : z_M, z_sc M M' → M' 355 = M 355 → M' 343 = z_day M ev (M 343) → P (some (0, (z_d5 M ev (M 343)).2)) z_LL M') : wp xs (d + 5) mX10_goDay 0 [(2, 321), (0, ev), (3, 0), (3, 0)] [] z_LL M P :=
  s_X10_goDay (z_R_F hR) (z_R_C hR) (z_R_P hR) hS hD (fun M' f e => k M' (z_sc_343 f (fun k hk => by rw [e, z_day_out (z_R_C hR) hS hk])) (f 355 (z_ns (by omega)) (by omega)) e)
theorem s_ld5 {P : Option z_V → z_L → z_M → Prop} (hR : z_R M) (k : ∀ M' : z_M, z_sc M M' → M' 355 = M 355 → M' 343 = M 342 → P none z_LL M') : wp xs d mX10_load 0 [(2, 321), (3, 0)] [] z_LL M P :=
  s_X10_load (z_R_F hR) (z_R_Z hR) (fun M' f e => k M' (z_sc_343 (fun q _ hq => f q hq) (fun k hk => by rw [e, (z_R_Z hR k hk).1, (z_R_Z hR k hk).2])) (f 355 (by omega)) e)
theorem z_sc_355 {M' : z_M} (h : ∀ q, q ≠ 355 → M' q = M q) : z_sc M M' := ⟨fun q hq => h q (by unfold z_sq at hq; omega), fun j _ => by rw [h 34 (by decide)], fun j _ _ => ⟨by rw [h 38 (by decide)], by rw [h 289 (by decide)]⟩, fun j _ _ => by rw [h 39 (by decide)], fun k _ => by rw [h 343 (by decide)]⟩
theorem s_X10_layTally {P : Option z_V → z_L → z_M → Prop} {p : Int → Prop} {n : Nat} (hR : z_R M) (hn9 : n ≤ 9) (kk : ∀ M' : z_M, z_sc M M' → (∀ f x : Int, 0 ≤ f → f < M 321 48 → 0 ≤ x → x < 25 → M' 355 (25 * f + x) = z_tal M p n (M 321 46 * M 321 47).toNat f x) → P none z_LL M') : wp xs (d + 6) mX10_layTally 0 [(2, 321), (0, z_set p (M 321 46 * M 321 47).toNat), (0, (n : Int)), (3, 0), (3, 0)] [] z_LL M P := by
  have hx := z_mc_cells (z_R_C hR)
  have hn := (z_R_C hR).2.2.1
  refine gX10_layTally_0 ?_
  refine z_loop (W := fun i => ∀ M' : z_M, (∀ q, q ≠ 355 → M' q = M q) → (∀ j : Int, 0 ≤ j → j < i → M' 355 j = 0) → wp xs (d + 6) mX10_layTally 2 [(2, 321), (0, z_set p (M 321 46 * M 321 47).toNat), (0, (n : Int)), (0, (i : Int)), (3, 0)] [] z_LL M' P) 150 (fun i hi ih M' h1 h2 => ?_) M (fun _ _ => rfl) (fun j a b => by omega)
  have g := gX10_layTally_2 (M := M') (xs := xs) (d := d + 6) (P := P) (x1 := z_set p (M 321 46 * M 321 47).toNat) (x2 := (n : Int)) (x3 := (i : Int)) (z_R_F (z_sc_R (z_sc_355 h1) hR))
  rw [z_in1 (by omega)] at g
  refine g (fun c => ?_) (fun _ => by omega) (fun c => ?_)
  · obtain rfl : i = 150 := by omega
    refine z_loop (W := fun i => ∀ (M2 : z_M) (w4 : z_V), z_sc M M2 → (∀ f x : Int, 0 ≤ f → f < M 321 48 → 0 ≤ x → x < 25 → M2 355 (25 * f + x) = z_tal M p n i f x) → wp xs (d + 6) mX10_layTally 24 [(2, 321), (0, z_set p (M 321 46 * M 321 47).toNat), (0, (n : Int)), (0, (i : Int)), w4] [] z_LL M2 P) (M 321 46 * M 321 47).toNat (fun i hi ih M2 w4 f v => ?_) M' _ (z_sc_355 h1) (fun f x a b a2 b2 => h2 _ (by omega) (by omega))
    have hR2 := z_sc_R f hR
    have e321 := z_sc_c f 321 (by unfold z_conf; omega)
    have g := gX10_layTally_24 (M := M2) (xs := xs) (d := d + 5) (P := P) (x1 := z_set p (M 321 46 * M 321 47).toNat) (x2 := (n : Int)) (x3 := (i : Int)) (w4 := w4) (z_R_F hR2) (z_R_C hR2)
    rw [e321, z_in1 (by omega)] at g
    have bit : (i : Int) < M 321 46 * M 321 47 → (z_and (z_shr (z_set p (M 321 46 * M 321 47).toNat) i) 1 ≠ 0 ↔ p i) := fun hlt => by
      have := z_set_b (p := p) (c := (i : Int)) (by omega) (n := (M 321 46 * M 321 47).toNat) (by omega)
      unfold z_bt at this
      rw [this]
      exact ⟨fun q => q.2, fun q => ⟨by omega, q⟩⟩
    refine g (fun c => ?_) (fun c c2 => ?_) (fun c c2 => ?_)
    · rw [show (M 321 46 * M 321 47).toNat = i by omega] at kk
      exact kk M2 f v
    · have yp : p i := (bit (by omega)).mp c2
      have hci : (0 : Int) ≤ i ∧ (i : Int) < 25 := by omega
      have hsn := fun j : Nat => z_dys_sn (ev := M 321 52) (z_R_C hR) (z_sn_slc hR hci) j
      have wr := fun f a b => z_whr_r (n := n) hR hci (f := f) a b
      refine s_ld5 hR2 (fun M3 f3 e5 e3 => ?_)
      have hR3 := z_sc_R f3 hR2
      have g := gX10_layTally_47 (M := M3) (xs := xs) (d := d + 6) (P := P) (x1 := z_set p (M 321 46 * M 321 47).toNat) (x2 := (n : Int)) (x3 := (i : Int)) (w4 := w4) (z_R_F hR3)
      rw [z_wid (x := 79 + (i : Int)) (by omega)] at g
      refine g (by omega) ?_
      have f4 : z_sc M (z_up M3 343 (79 + i) 9) := z_sc_t (z_sc_t f f3) ⟨fun q hq => z_upn (by unfold z_sq at hq; omega), fun j _ => by rw [z_upn (by decide)], fun j _ _ => ⟨by rw [z_upn (by decide)], by rw [z_upn (by decide)]⟩, fun j _ _ => by rw [z_upn (by decide)], fun k hk => z_upi (by omega) rfl⟩
      have s4 : z_up M3 343 (79 + (i : Int)) 9 343 = z_dys M (M 321 52) (z_slc (M 342) i) 0 := by
        rw [z_upw, e3, f.1 342 (by unfold z_sq; omega)]
        rfl
      have t4 : z_up M3 343 (79 + (i : Int)) 9 355 = M2 355 := by rw [z_upn (by decide), e5]
      refine z_loop (W := fun m => ∀ M5 : z_M, z_sc M M5 → M5 355 = M2 355 → M5 343 = z_dys M (M 321 52) (z_slc (M 342) i) m → wp xs (d + 6) mX10_layTally 61 [(2, 321), (0, z_set p (M 321 46 * M 321 47).toNat), (0, (n : Int)), (0, (i : Int)), (0, (m : Int))] [] z_LL M5 P) n (fun m hm ihm M5 f5 e55 e53 => ?_) _ f4 t4 s4
      have hR5 := z_sc_R f5 hR
      have e5321 := z_sc_c f5 321 (by unfold z_conf; omega)
      refine gX10_layTally_61 (x1 := z_set p (M 321 46 * M 321 47).toNat) (x2 := (n : Int)) (x3 := (i : Int)) (x4 := (m : Int)) (fun c5 => ?_) (fun c5 => ?_)
      · obtain rfl : m = n := by omega
        have ew : ∀ f, M5 343 f = z_whr M m i f := fun f => by rw [e53]; rfl
        refine z_loop (W := fun j => ∀ M6 : z_M, (∀ q, q ≠ 355 → M6 q = M5 q) → (∀ f x : Int, 0 ≤ f → f < M 321 48 → 0 ≤ x → x < 25 → M6 355 (25 * f + x) = M2 355 (25 * f + x) + (if f < j then z_b (z_whr M m i f = x) else 0)) → wp xs (d + 6) mX10_layTally 85 [(2, 321), (0, z_set p (M 321 46 * M 321 47).toNat), (0, (m : Int)), (0, (i : Int)), (0, (j : Int))] [] z_LL M6 P) (M 321 48).toNat (fun j hj ihj M6 u1 u2 => ?_) M5 (fun _ _ => rfl) (fun f x a b a2 b2 => by rw [e55, if_neg (by omega)]; omega)
        have f6 : z_sc M M6 := z_sc_t f5 (z_sc_355 u1)
        have g := gX10_layTally_85 (M := M6) (xs := xs) (d := d + 6) (P := P) (x1 := z_set p (M 321 46 * M 321 47).toNat) (x2 := (m : Int)) (x3 := (i : Int)) (x4 := (j : Int)) (z_R_F (z_sc_R f6 hR))
        rw [z_sc_c f6 321 (by unfold z_conf; omega), u1 343 (by decide), ew, z_in1 (i := j) (by omega), z_in1 (i := i) (by omega)] at g
        by_cases hlt : (j : Int) < M 321 48
        · have w := wr j (by omega) hlt
          have tb := z_tal_b (M := M) (p := p) (n := m) (i := i) (f := (j : Int)) (c := z_whr M m i j)
          have ev := u2 j (z_whr M m i j) (by omega) hlt w.1 w.2
          rw [if_neg (by omega), v j _ (by omega) hlt w.1 w.2] at ev
          rw [z_wid (x := 25 * (j : Int)) (by omega), z_wid (x := 25 * (j : Int) + z_whr M m i j) (by omega), z_wid (x := M6 355 (25 * j + z_whr M m i j) + 1) (by omega)] at g
          refine g (fun q => by omega) (fun _ => by omega) (fun _ => by omega) (fun _ => ?_)
          refine ihj (by omega) _ (fun q hq => by rw [z_upn hq, u1 q hq]) (fun f x a b a2 b2 => ?_)
          by_cases e : f = j
          · rw [e, if_pos (by omega)]
            by_cases e2 : x = z_whr M m i j
            · rw [e2, z_ups, z_b_t rfl, ev, v j _ (by omega) hlt w.1 w.2]
              omega
            · rw [z_upi (by omega) rfl, z_b_f (fun q => e2 q.symm), u2 _ _ (by omega) hlt a2 b2, if_neg (by omega)]
          · rw [z_upi (by omega) rfl, u2 f x a b a2 b2]
            by_cases e3 : f < j
            · rw [if_pos e3, if_pos (by omega)]
            · rw [if_neg e3, if_neg (by omega)]
        · refine g (fun _ => ?_) (fun q => by omega) (fun q => by omega) (fun q => by omega)
          refine ih (by omega) M6 _ f6 (fun f x a b a2 b2 => ?_)
          rw [u2 f x a b a2 b2, if_pos (by omega), v f x a b a2 b2, z_tal_y yp]
      · have hs := z_sn_x (z_cfe_c (z_sc_c f5)) (hsn m)
        rw [← e53] at hs
        rw [e5321]
        refine s_air5 hR5 hs (by omega) (fun M6 f6 e65 e63 => ?_)
        refine gX10_layTally_75 ?_
        rw [z_in1 (by omega)]
        refine ihm (by omega) M6 (z_sc_t f5 f6) (by rw [e65, e55]) ?_
        rw [e63, z_day_q (z_sc_c f5), e53]
        rfl
    · have np : ¬ p i := fun q => c2 ((bit (by omega)).mpr q)
      refine ih (by omega) M2 _ f (fun f x a b a2 b2 => ?_)
      rw [z_tal_n np]
      exact v f x a b a2 b2
  · refine ih (by omega) _ (fun q hq => by rw [z_upn hq, h1 q hq]) (fun j a b => ?_)
    by_cases e : j = i
    · rw [e, z_ups]
    · rw [z_upi e rfl]
      exact h2 j a (by omega)
theorem s_X10_mostOf {P : Option z_V → z_L → z_M → Prop} {f : Int} (hR : z_R M) (hf : 0 ≤ f ∧ f < 6) (kk : P (some (0, z_mxo (fun c => M 355 (25 * f + c)) 25)) z_LL M) : wp xs d mX10_mostOf 0 [(2, 321), (0, f), (3, 0), (3, 0)] [] z_LL M P := by
  refine gX10_mostOf_0 ?_
  refine z_loop (W := fun i => wp xs d mX10_mostOf 4 [(2, 321), (0, f), (0, z_mxo (fun c => M 355 (25 * f + c)) i), (0, (i : Int))] [] z_LL M P) 25 (fun i hi ih => ?_)
  have g := gX10_mostOf_4 (M := M) (xs := xs) (d := d) (P := P) (x1 := f) (x2 := z_mxo (fun c => M 355 (25 * f + c)) i) (x3 := (i : Int)) (z_R_F hR)
  rw [z_wid (x := 25 * f) (by omega), z_in1 (by omega)] at g
  have hs : z_mxo (fun c => M 355 (25 * f + c)) (i + 1) = max (z_mxo (fun c => M 355 (25 * f + c)) i) (M 355 (25 * f + i)) := rfl
  by_cases h : i < 25
  · rw [z_wid (x := 25 * f + (i : Int)) (by omega)] at g
    have ih := ih h
    rw [hs] at ih
    refine g (fun c => by omega) (fun _ => by omega) (fun _ c => ?_) (fun _ c => ?_)
    · rw [show max (z_mxo (fun c => M 355 (25 * f + c)) i) (M 355 (25 * f + i)) = z_mxo (fun c => M 355 (25 * f + c)) i by omega] at ih
      exact ih
    · rw [show max (z_mxo (fun c => M 355 (25 * f + c)) i) (M 355 (25 * f + i)) = M 355 (25 * f + i) by omega] at ih
      exact ih
  · obtain rfl : i = 25 := by omega
    exact g (fun _ => kk) (fun q => by omega) (fun q => by omega) (fun q => by omega)
theorem z_set_ne0 {p : Int → Prop} {n : Nat} (hn : n ≤ 31) : z_set p n = 0 ↔ ∀ c : Int, 0 ≤ c → c < n → ¬ p c := by
  constructor
  · intro h c a b q
    have := (z_set_b (p := p) (c := c) (by omega) (n := n) (by omega)).mpr ⟨b, q⟩
    rw [h] at this
    exact z_bt_0 (by omega) this
  · exact fun h => z_set_0 h
theorem c_ask {a1 a2 a3 : Int} (hR : z_R M) : z_two xs (d + 200) mX9_ask mX10_ask [(2, 1), (0, a1), (0, a2), (0, a3), (3, 0), (3, 0)] [(2, 321), (0, a1), (0, a2), (0, a3), (3, 0), (3, 0), (3, 0)] M := by
  have hn := (z_R_C hR).2.2.1
  obtain ⟨n1, n2, n3, n4, n5⟩ := z_R_n hR
  have g := fun P => gX9_ask_0 (M := M) (xs := xs) (d := d + 199) (P := P) (a1 := a1) (a2 := a2) (a3 := a3) (z_R_F hR) (z_R_g hR).1 (z_R_H hR).1
  simp only [n3] at g
  by_cases h : (0 ≤ a1 ∧ a1 ≤ 9) ∧ (0 ≤ a2 ∧ a2 ≤ 1)
  · obtain ⟨n, rfl⟩ : ∃ n : Nat, a1 = n := ⟨a1.toNat, by omega⟩
    by_cases h0 : M 321 48 = 0
    · refine z_two_q (-1) hR (fun P k => ?_) (fun M1 P f1 hR1 k => ?_)
      · exact g _ (fun _ => k M z_sc_r) (fun _ _ => k M z_sc_r) (fun _ _ _ => k M z_sc_r) (fun _ _ _ _ => k M z_sc_r) (fun _ _ _ _ q => absurd h0 q) (fun _ _ _ _ _ => k M z_sc_r)
      · refine gX10_ask_0 (fun q => absurd h.1 q) (fun _ _ => ?_) (fun _ q => absurd h.2 q)
        refine s_X10_ledges hR1 (fun M2 f2 => ?_)
        have e321 := z_sc_c (z_sc_t f1 f2) 321 (by unfold z_conf; omega)
        exact gX10_ask_26 (fun _ => k M2 f2) (fun _ q => absurd (by rw [e321]; exact h0) q) (fun _ _ => k M2 f2)
    · by_cases hz : z_set (z_ldg M a3) (M 321 46 * M 321 47).toNat = 0
      · refine z_two_q (-1) hR (fun P k => ?_) (fun M1 P f1 hR1 k => ?_)
        · refine g _ (fun _ => k M z_sc_r) (fun _ _ => k M z_sc_r) (fun _ _ _ => k M z_sc_r) (fun _ _ _ _ => k M z_sc_r) (fun _ _ _ _ _ => ?_) (fun _ _ _ _ q => absurd h0 q)
          refine s_X0_salted hR (fun M1 f1 => ?_)
          have hR1 := z_sc_R f1 hR
          rw [hz]
          exact gX9_ask_47 (x1 := (n : Int)) (x2 := a2) (x3 := a3) (z_R_F hR1) (z_R_H hR1).1 (fun q => absurd rfl q) (fun _ => k M1 f1)
        · refine gX10_ask_0 (fun q => absurd h.1 q) (fun _ _ => ?_) (fun _ q => absurd h.2 q)
          refine s_X10_ledges hR1 (fun M2 f2 => ?_)
          rw [z_ldg_q f1, z_sc_c f1 321 (by unfold z_conf; omega), hz]
          exact gX10_ask_26 (fun _ => k M2 f2) (fun q => absurd rfl q) (fun q => absurd rfl q)
      · refine z_two_q (if a2 = 0 then (z_bsf (z_lft M a3 n) ((M 321 48).toNat - 1)).1 else (z_bsf (z_lft M a3 n) ((M 321 48).toNat - 1)).2) hR (fun P k => ?_) (fun M1 P f1 hR1 k => ?_)
        · refine g _ (fun _ => by omega) (fun _ _ => by omega) (fun _ _ _ => by omega) (fun _ _ _ _ => by omega) (fun _ _ _ _ _ => ?_) (fun _ _ _ _ q => absurd h0 q)
          refine s_X0_salted hR (fun M1 f1 => ?_)
          have hR1 := z_sc_R f1 hR
          have q1 : M1 1 = M 1 := f1.1 1 (by unfold z_sq; omega)
          have e321 := z_sc_c f1 321 (by unfold z_conf; omega)
          refine gX9_ask_47 (x1 := (n : Int)) (x2 := a2) (x3 := a3) (z_R_F hR1) (z_R_H hR1).1 (fun _ => ?_) (fun q => absurd hz q)
          rw [← z_ldg_q f1, ← e321]
          refine s_X0_nextToWatch hR1 (by omega) (by rw [e321]; omega) (fun M2 f2 e8 => ?_)
          rw [z_lft_q f1, e321] at e8 ⊢
          refine gX9_ask_70 (x1 := (n : Int)) (x2 := a2) (x3 := a3) (x4 := z_set (z_ldg M1 a3) (M 321 46 * M 321 47).toNat) (s0 := (z_bsf (z_lft M a3 n) ((M 321 48).toNat - 1)).1) (z_R_F (z_sc_R f2 hR1)) (fun c => ?_) (fun c => ?_)
          · have := k M2 (z_sc_t f1 f2)
            rw [if_neg c] at this
            rw [e8]
            exact this
          · have := k M2 (z_sc_t f1 f2)
            rw [if_pos (by omega)] at this
            exact this
        · refine gX10_ask_0 (fun q => absurd h.1 q) (fun _ _ => ?_) (fun _ q => absurd h.2 q)
          refine s_X10_ledges hR1 (fun M2 f2 => ?_)
          have hR2 := z_sc_R f2 hR1
          have f12 := z_sc_t f1 f2
          have e321 := z_sc_c f12 321 (by unfold z_conf; omega)
          rw [z_ldg_q f1, z_sc_c f1 321 (by unfold z_conf; omega)]
          refine gX10_ask_26 (x1 := (n : Int)) (x2 := a2) (x3 := a3) (fun q => absurd q hz) (fun _ _ => ?_) (fun _ q => absurd (by rw [e321]; exact h0) q)
          rw [← e321]
          refine s_X10_layTally hR2 (by omega) (fun M3 f3 v => ?_)
          have f13 := z_sc_t f12 f3
          have hR3 := z_sc_R f13 hR
          have e3 := z_sc_c f13 321 (by unfold z_conf; omega)
          rw [e321] at v ⊢
          have mo : ∀ f : Int, 0 ≤ f → f < M 321 48 → z_mxo (fun c => M3 355 (25 * f + c)) 25 = z_lft M a3 n f := fun f a b => by
            unfold z_lft
            refine z_mxo_c (fun c a2 b2 => ?_)
            rw [v f c a b a2 b2]
            unfold z_tal
            rw [z_whr_q f12]
          refine gX10_ask_49 ?_
          have nf : ∃ m : Nat, M 321 48 = ((m + 1 : Nat) : Int) := ⟨(M 321 48).toNat - 1, by omega⟩
          obtain ⟨m, hm⟩ := nf
          rw [show (M 321 48).toNat - 1 = m by omega] at k
          refine z_loop (W := fun i => wp xs (d + 200) mX10_ask 55 [(2, 321), (0, (n : Int)), (0, a2), (0, a3), (0, z_set (z_ldg M a3) (M 321 46 * M 321 47).toNat), (0, (z_bsf (z_lft M a3 n) i).1), (0, ((i + 1 : Nat) : Int))] [] z_LL M3 P) m (fun i hi ih => ?_)
          have bv := z_bsf_v (g := z_lft M a3 n) i
          have g := gX10_ask_55 (M := M3) (xs := xs) (d := d + 199) (P := P) (x1 := (n : Int)) (x2 := a2) (x3 := a3) (x4 := z_set (z_ldg M a3) (M 321 46 * M 321 47).toNat) (x5 := (z_bsf (z_lft M a3 n) i).1) (x6 := ((i + 1 : Nat) : Int))
          rw [e3] at g
          refine g (fun c c2 => ?_) (fun c c2 => ?_) (fun c => ?_)
          · obtain rfl : i = m := by omega
            refine s_X10_mostOf hR3 (by omega) ?_
            rw [mo _ bv.2.1 (by omega), bv.1]
            refine gX10_ask_109 ?_
            have := k M3 (z_sc_t f2 f3)
            rw [if_neg c2] at this
            exact this
          · obtain rfl : i = m := by omega
            have := k M3 (z_sc_t f2 f3)
            rw [if_pos (Classical.byContradiction c2)] at this
            exact this
          · refine s_X10_mostOf hR3 (by omega) ?_
            rw [mo _ (by omega) (by omega)]
            refine gX10_ask_70 ?_
            refine s_X10_mostOf hR3 (by omega) ?_
            rw [mo _ bv.2.1 (by omega), bv.1]
            have ih := ih (by omega)
            refine gX10_ask_76 (fun c3 => ?_) (fun c3 => ?_)
            · rw [z_in1 (by omega)]
              rw [z_bsf, if_neg (by omega)] at ih
              exact ih
            · rw [z_in1 (by omega)]
              rw [z_bsf, if_pos (by omega)] at ih
              exact ih
  · refine z_two_q (-1) hR (fun P k => ?_) (fun M1 P f1 hR1 k => ?_)
    · exact g _ (fun _ => k M z_sc_r) (fun _ _ => k M z_sc_r) (fun _ _ _ => k M z_sc_r) (fun _ _ _ _ => k M z_sc_r) (fun _ _ _ _ _ => by omega) (fun _ _ _ _ _ => by omega)
    · exact gX10_ask_0 (fun _ => k M1 z_sc_r) (fun q1 q2 => absurd ⟨q1, q2⟩ h) (fun _ _ => k M1 z_sc_r)
end
