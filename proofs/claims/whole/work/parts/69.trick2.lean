section
variable {xs : List Int} {d : Nat} {M : z_M}
theorem s_X0_leastTwo {P : Option z_V → z_L → z_M → Prop} {M1 : z_M} {a b ev : Int} {days N : Nat} (hR : z_R M) (f1 : z_sc M M1) (e1 : M1 38 = M 38) (hq : z_aq M a b ev days) (hN : M 321 46 * M 321 47 = (N : Int)) (h1 : z_fr (z_tf1 M (z_ttv M a b ev days)) N = -1) (hI1 : z_i1 M M1 (z_tks M a b ev days) N)
    (kk : ∀ M' : z_M, z_sc M M' → M' 38 = M 38 → (z_fr (z_tg2 M (z_ttv M a b ev days)) N = -1 → z_i2 M M' (z_tks M a b ev days) N 0) → P (some (0, z_fr (z_tg2 M (z_ttv M a b ev days)) N)) z_LL M') : wp xs (d + 6) mX0_leastTwo 0 [(2, 38), (2, M 1 2), (3, 0), (3, 0), (3, 0)] [] z_LL M1 P := by
  have hx := z_mc_cells (z_R_C hR)
  have FL := fun x y c : Int => z_trl2 (a := a) (b := b) (ev := ev) (days := days) (x := x) (y := y) (c := c) hR hq.2.2.2.1 hq.2.2.2.2.1
  have trk := fun (M' : z_M) (x : Int) (Q : Option z_V → z_L → z_M → Prop) => s_trk (xs := xs) (d := d) (P := Q) (M' := M') (x := x) hR (hq := hq)
  generalize z_tks M a b ev days = L at *
  generalize z_ttv M a b ev days = T at *
  have hT1 : ∀ c : Nat, c < N → M 342 (79 + c) = 0 → ¬ T (z_shl 1 c) := fun c hc => z_tf1_n (by omega) (z_fr_a h1 c hc)
  refine gX0_leastTwo_0 (z_hsc hR f1) ?_
  refine z_loop (W := fun i => ∀ (M' : z_M) (w3 w4 : z_V), z_sc M M' → M' 38 = M 38 → z_fr (z_tg2 M T) (i + 1) = -1 → z_i1 M M' L N → z_i2 M M' L (i + 1) 0 → wp xs (d + 6) mX0_leastTwo 2 [(2, 38), (2, M 1 2), (0, ((i + 1 : Nat) : Int)), w3, w4] [] z_LL M' P) (N - 1) (fun i hi ih M' w3 w4 f e8 hF hA hB => ?_) M1 _ _ f1 e1 rfl hI1 (fun h' l' q1 q2 => by omega)
  have hh : i + 1 ≤ N := by omega
  generalize hdef : i + 1 = h at *
  refine gX0_leastTwo_2 (x2 := (h : Int)) (z_R_F (z_sc_R f hR)) (z_hsc hR f) (z_R_G (z_sc_R f hR)).1 (fun c => ?_) (fun c => ?_)
  · rw [z_cls_at hR f hN] at c
    obtain rfl : h = N := by omega
    have := kk M' f e8 (fun _ => hB)
    rw [hF] at this
    exact this
  rw [z_cls_at hR f hN] at c
  have hlt : h < N := by omega
  have ih := ih (by omega)
  refine z_loop (W := fun l => ∀ (M2 : z_M) (w4 : z_V), z_sc M M2 → M2 38 = M 38 → z_fr (z_tf2 M T h) l = -1 → z_i1 M M2 L N → z_i2 M M2 L h l → wp xs (d + 6) mX0_leastTwo 18 [(2, 38), (2, M 1 2), (0, (h : Int)), (0, (l : Int)), w4] [] z_LL M2 P) h (fun l hl ih2 M2 w4 f2 e82 hF2 hA2 hB2 => ?_) M' _ f e8 rfl hA hB
  have g := gX0_leastTwo_18 (M := M2) (xs := xs) (d := d + 5) (P := P) (x1 := M 1 2) (x2 := (h : Int)) (x3 := (l : Int)) (w4 := w4) (z_R_F (z_sc_R f2 hR)) (z_hsc hR f2)
  rw [z_in1 (by omega), z_in1 (by omega), z_slt_at hR f2 (by omega)] at g
  by_cases hlh : l < h
  · rw [z_slt_at hR f2 (by omega), z_wid (x := (h : Int) * 25) (by omega), z_wid (x := (l : Int) * 25) (by omega), z_wid (x := (h : Int) * 25 + l) (by omega), z_wid (x := (h : Int) * 25 + h) (by omega), z_wid (x := (l : Int) * 25 + l) (by omega), show (h : Int) * 25 = 25 * h by omega, show (l : Int) * 25 = 25 * l by omega] at g
    have sg := ((z_R_S hR).2.1 h (by omega) (by omega)).2.1.1
    have sl := ((z_R_S hR).2.1 l (by omega) (by omega)).2.1.1
    have ih2 := ih2 hlh
    have non : ¬ ((M 342 (79 + h) = 0 ∧ M 342 (79 + l) = 0) ∧ T (z_or (z_shl 1 h) (z_shl 1 l))) → z_fr (z_tf2 M T h) (l + 1) = -1 := fun q => by
      rw [z_fr_s hF2]
      unfold z_tf2
      rw [if_neg q]
    have skip : ¬ (M 342 (79 + h) = 0 ∧ M 342 (79 + l) = 0) → ∀ w4 : z_V, wp xs (d + 6) mX0_leastTwo 18 [(2, 38), (2, M 1 2), (0, (h : Int)), (0, ((l + 1 : Nat) : Int)), w4] [] z_LL M2 P := fun q w4 => by
      refine ih2 M2 w4 f2 e82 (non (fun w => q w.1)) hA2 (fun h' l' q1 q2 q3 q4 => hB2 h' l' q1 ?_ q3 q4)
      rcases q2 with q2 | q2
      · exact Or.inl q2
      · refine Or.inr ⟨q2.1, ?_⟩
        by_cases e : l' = l
        · rw [q2.1] at q3
          rw [e] at q4
          exact absurd ⟨q3, q4⟩ q
        · omega
    have nxt : ∀ (M3 : z_M) (v : Int) (w4 : z_V), z_sc M M3 → M3 38 = M 38 → M3 45 = M2 45 → ¬ T (z_or (z_shl 1 h) (z_shl 1 l)) → (∀ k : Int, 0 ≤ k → k < 25 → (z_bt v k ↔ L (z_or (z_shl 1 h) (z_shl 1 l)) k)) → wp xs (d + 6) mX0_leastTwo 18 [(2, 38), (2, M 1 2), (0, (h : Int)), (0, ((l + 1 : Nat) : Int)), w4] [] z_LL (z_up M3 45 (25 * h + l) v) P := fun M3 v w4 f3 e83 e45 hT hb => by
      refine ih2 _ w4 (z_sc_t f3 z_sc_45) (by rw [z_upn (by decide)]; exact e83) (non (fun w => hT w.2)) (fun c' hc hfc k k1 k2 => ?_) (fun h' l' q1 q2 q3 q4 k k1 k2 => ?_)
      · rw [z_upi (by omega) rfl, e45]
        exact hA2 c' hc hfc k k1 k2
      · by_cases e : h' = h ∧ l' = l
        · rw [e.1, e.2, z_ups]
          exact hb k k1 k2
        · rw [z_upi (by omega) rfl, e45]
          exact hB2 h' l' q1 (by omega) q3 q4 k k1 k2
    refine g (fun _ => by omega) (fun _ => by omega) (fun _ q => skip (by omega) _) (fun _ _ => by omega) (fun _ _ _ => by omega) (fun _ _ _ _ => by omega) (fun _ c1 c2 c3 => ?_) (fun _ _ _ _ => by omega) (fun _ _ _ _ _ => by omega) (fun _ c1 c2 c3 c4 => ?_) (fun _ c1 c2 c3 c4 => ?_) (fun _ _ q => skip (by omega) _)
    · have nb : ¬ L (z_shl 1 h) l := fun q => ((hA2 h hlt (by omega) l (by omega) (by omega)).mpr q) c3
      have := FL (z_shl 1 h) (z_or (z_shl 1 h) (z_shl 1 l)) l (fun k k1 k2 => by rw [z_x1 (by omega) ⟨k1, k2⟩, z_x2 (by omega) (by omega) ⟨k1, k2⟩]) nb
      refine nxt M2 _ _ f2 e82 rfl (fun q => hT1 h hlt (by omega) (this.2.mp q)) (fun k k1 k2 => ?_)
      rw [this.1]
      exact hA2 h hlt (by omega) k k1 k2
    · have nb : ¬ L (z_shl 1 l) h := fun q => ((hA2 l (by omega) (by omega) h (by omega) (by omega)).mpr q) c4
      have := FL (z_shl 1 l) (z_or (z_shl 1 h) (z_shl 1 l)) h (fun k k1 k2 => by
        rw [z_x1 (by omega) ⟨k1, k2⟩, z_x2 (by omega) (by omega) ⟨k1, k2⟩]
        exact Or.comm) nb
      refine nxt M2 _ _ f2 e82 rfl (fun q => hT1 l (by omega) (by omega) (this.2.mp q)) (fun k k1 k2 => ?_)
      rw [this.1]
      exact hA2 l (by omega) (by omega) k k1 k2
    · refine trk M2 _ _ f2 e82 (fun M3 f3 e83 e45 lb => ?_)
      have g2 := gX0_leastTwo_101 (M := M3) (xs := xs) (d := d + 6) (P := P) (x1 := M 1 2) (x2 := (h : Int)) (x3 := (l : Int)) (x4 := M2 45 (25 * l + l)) (s0 := z_b (T (z_or (z_shl 1 h) (z_shl 1 l)))) (z_R_F (z_sc_R f3 hR)) (z_hsc hR f3)
      rw [z_in1 (by omega), z_wid (x := (h : Int) * 25) (by omega), z_wid (x := (h : Int) * 25 + l) (by omega), show (h : Int) * 25 = 25 * h by omega] at g2
      refine g2 (fun _ => by omega) (fun c5 => ?_) (fun c5 => ?_)
      · exact nxt M3 _ _ f3 e83 e45 (fun q => by rw [z_b_t q] at c5; omega) lb
      · have hT : T (z_or (z_shl 1 h) (z_shl 1 l)) := Classical.byContradiction fun q => c5 (z_b_f q)
        have v := z_x2v h (by omega) l hlh
        have ev : z_tf2 M T h l = z_or (z_shl 1 h) (z_shl 1 l) := by
          unfold z_tf2
          rw [if_pos ⟨⟨by omega, by omega⟩, hT⟩]
        have e := z_fr_f (N := h) hF2 (by rw [ev]; omega) hlh
        rw [ev] at e
        have e2 := z_fr_f (F := z_tg2 M T) (N := N) hF (by unfold z_tg2; rw [e]; omega) hlt
        have := kk M3 f3 e83 (fun q => by
          rw [e2] at q
          unfold z_tg2 at q
          omega)
        rw [e2] at this
        unfold z_tg2 at this
        rw [e] at this
        exact this
  · obtain rfl : l = h := by omega
    refine g (fun _ => ?_) (fun q => by omega) (fun q => by omega) (fun q => by omega) (fun q => by omega) (fun q => by omega) (fun q => by omega) (fun q => by omega) (fun q => by omega) (fun q => by omega) (fun q => by omega) (fun q => by omega)
    refine ih M2 _ _ f2 e82 ?_ hA2 (fun h' l' q1 q2 => hB2 h' l' q1 (by omega))
    rw [z_fr_s hF]
    exact hF2
end
