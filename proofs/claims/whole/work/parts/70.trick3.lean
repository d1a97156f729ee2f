section
variable {xs : List Int} {d : Nat} {M : z_M}
theorem s_X0_leastThree {P : Option z_V → z_L → z_M → Prop} {M1 : z_M} {a b ev : Int} {days N : Nat} (hR : z_R M) (f1 : z_sc M M1) (e1 : M1 38 = M 38) (hq : z_aq M a b ev days) (hN : M 321 46 * M 321 47 = (N : Int)) (h2 : z_fr (z_tg2 M (z_ttv M a b ev days)) N = -1) (hI : z_i2 M M1 (z_tks M a b ev days) N 0)
    (kk : ∀ M' : z_M, z_sc M M' → P (some (0, z_fr (z_th3 M (z_ttv M a b ev days)) N)) z_LL M') : wp xs (d + 6) mX0_leastThree 0 [(2, 38), (2, M 1 2), (3, 0), (3, 0), (3, 0), (3, 0)] [] z_LL M1 P := by
  have hx := z_mc_cells (z_R_C hR)
  have FL := fun x y c : Int => z_trl2 (a := a) (b := b) (ev := ev) (days := days) (x := x) (y := y) (c := c) hR hq.2.2.2.1 hq.2.2.2.2.1
  have trk := fun (M' : z_M) (x : Int) (Q : Option z_V → z_L → z_M → Prop) => s_trk (xs := xs) (d := d) (P := Q) (M' := M') (x := x) hR (hq := hq)
  generalize z_tks M a b ev days = L at *
  generalize z_ttv M a b ev days = T at *
  have hT2 : ∀ h l : Nat, h < N → l < h → M 342 (79 + h) = 0 → M 342 (79 + l) = 0 → ¬ T (z_or (z_shl 1 h) (z_shl 1 l)) := fun h l hh hl q1 q2 => z_tf2_n (by omega) hl (z_fr_a (z_fr_a h2 h hh) l hl) ⟨q1, q2⟩
  refine gX0_leastThree_0 (z_hsc hR f1) ?_
  refine z_loop (W := fun i => ∀ (M' : z_M) (w3 w4 w5 : z_V), z_sc M M' → M' 38 = M 38 → z_fr (z_th3 M T) (i + 2) = -1 → z_i2 M M' L N 0 → wp xs (d + 6) mX0_leastThree 2 [(2, 38), (2, M 1 2), (0, ((i + 2 : Nat) : Int)), w3, w4, w5] [] z_LL M' P) (N - 2) (fun i hi ih M' w3 w4 w5 f e8 hF hA => ?_) M1 _ _ _ f1 e1 rfl hI
  have hh : i + 2 ≤ N := by omega
  have hh2 : 2 ≤ i + 2 := by omega
  rw [show i + 1 + 2 = i + 2 + 1 by omega] at ih
  generalize hdef : i + 2 = h at *
  refine gX0_leastThree_2 (x2 := (h : Int)) (z_R_F (z_sc_R f hR)) (z_hsc hR f) (z_R_G (z_sc_R f hR)).1 (fun c => ?_) (fun c => ?_)
  · rw [z_cls_at hR f hN] at c
    obtain rfl : h = N := by omega
    have := kk M' f
    rw [hF] at this
    exact this
  rw [z_cls_at hR f hN] at c
  have hlt : h < N := by omega
  have ih := ih (by omega)
  refine z_loop (W := fun j => ∀ (M' : z_M) (w4 w5 : z_V), z_sc M M' → M' 38 = M 38 → z_fr (z_tg3 M T h) (j + 1) = -1 → z_i2 M M' L N 0 → wp xs (d + 6) mX0_leastThree 18 [(2, 38), (2, M 1 2), (0, (h : Int)), (0, ((j + 1 : Nat) : Int)), w4, w5] [] z_LL M' P) (h - 1) (fun j hj ihm M' w4 w5 f e8 hG hA => ?_) M' _ _ f e8 rfl hA
  have hm1 : j + 1 ≤ h := by omega
  generalize hdm : j + 1 = m at *
  refine gX0_leastThree_18 (x2 := (h : Int)) (x3 := (m : Int)) (z_hsc hR f) (fun c => ?_) (fun c => ?_)
  · obtain rfl : m = h := by omega
    rw [z_in1 (by omega)]
    refine ih M' _ _ _ f e8 ?_ hA
    rw [z_fr_s hF]
    exact hG
  have hmh : m < h := by omega
  have ihm := ihm (by omega)
  refine z_loop (W := fun l => ∀ (M2 : z_M) (w5 : z_V), z_sc M M2 → M2 38 = M 38 → z_fr (z_tf3 M T h m) l = -1 → z_i2 M M2 L N 0 → wp xs (d + 6) mX0_leastThree 26 [(2, 38), (2, M 1 2), (0, (h : Int)), (0, (m : Int)), (0, (l : Int)), w5] [] z_LL M2 P) m (fun l hl ih2 M2 w5 f2 e82 hF2 hB2 => ?_) M' _ f e8 rfl hA
  have g := gX0_leastThree_26 (M := M2) (xs := xs) (d := d + 5) (P := P) (x1 := M 1 2) (x2 := (h : Int)) (x3 := (m : Int)) (x4 := (l : Int)) (w5 := w5) (z_R_F (z_sc_R f2 hR)) (z_hsc hR f2)
  rw [z_in1 (by omega), z_in1 (by omega), z_slt_at hR f2 (by omega), z_slt_at hR f2 (by omega)] at g
  by_cases hlm : l < m
  · rw [z_slt_at hR f2 (by omega), z_wid (x := (h : Int) * 25) (by omega), z_wid (x := (m : Int) * 25) (by omega), z_wid (x := (h : Int) * 25 + l) (by omega), z_wid (x := (h : Int) * 25 + m) (by omega), z_wid (x := (m : Int) * 25 + l) (by omega), show (h : Int) * 25 = 25 * h by omega, show (m : Int) * 25 = 25 * m by omega] at g
    have sg := ((z_R_S hR).2.1 h (by omega) (by omega)).2.1.1
    have sm := ((z_R_S hR).2.1 m (by omega) (by omega)).2.1.1
    have sl := ((z_R_S hR).2.1 l (by omega) (by omega)).2.1.1
    have ih2 := ih2 hlm
    have nxt : ¬ ((M 342 (79 + h) = 0 ∧ M 342 (79 + m) = 0 ∧ M 342 (79 + l) = 0) ∧ T (z_or (z_or (z_shl 1 h) (z_shl 1 m)) (z_shl 1 l))) → ∀ (M3 : z_M) (w5 : z_V), z_sc M M3 → M3 38 = M 38 → M3 45 = M2 45 → wp xs (d + 6) mX0_leastThree 26 [(2, 38), (2, M 1 2), (0, (h : Int)), (0, (m : Int)), (0, ((l + 1 : Nat) : Int)), w5] [] z_LL M3 P := fun q M3 w5 f3 e83 e45 => by
      refine ih2 M3 w5 f3 e83 ?_ (fun h' l' q1 q2 q3 q4 k k1 k2 => by
        rw [e45]
        exact hB2 h' l' q1 q2 q3 q4 k k1 k2)
      rw [z_fr_s hF2]
      unfold z_tf3
      rw [if_neg q]
    refine g (fun _ => by omega) (fun _ => by omega) (fun _ q => nxt (fun w => by omega) M2 _ f2 e82 rfl) (fun _ _ => by omega) (fun _ _ q => nxt (fun w => by omega) M2 _ f2 e82 rfl) (fun _ _ _ => by omega) (fun _ _ _ _ => by omega) (fun _ c1 c2 c3 c4 => ?_) (fun _ _ _ _ _ => by omega) (fun _ c1 c2 c3 _ c4 => ?_) (fun _ _ _ _ _ _ => by omega) (fun _ c1 c2 c3 _ _ c4 => ?_) (fun _ c1 c2 c3 c4 c5 c6 => ?_) (fun _ _ _ q => nxt (fun w => by omega) M2 _ f2 e82 rfl)
    · have nb : ¬ L (z_or (z_shl 1 h) (z_shl 1 m)) l := fun q => ((hB2 h m hmh (Or.inl hlt) (by omega) (by omega) l (by omega) (by omega)).mpr q) c4
      have := FL (z_or (z_shl 1 h) (z_shl 1 m)) (z_or (z_or (z_shl 1 h) (z_shl 1 m)) (z_shl 1 l)) l (fun k k1 k2 => by rw [z_x2 (by omega) (by omega) ⟨k1, k2⟩, z_x3 (by omega) (by omega) (by omega) ⟨k1, k2⟩]) nb
      exact nxt (fun w => hT2 h m hlt hmh w.1.1 w.1.2.1 (this.2.mp w.2)) M2 _ f2 e82 rfl
    · have nb : ¬ L (z_or (z_shl 1 h) (z_shl 1 l)) m := fun q => ((hB2 h l (by omega) (Or.inl hlt) (by omega) (by omega) m (by omega) (by omega)).mpr q) c4
      have := FL (z_or (z_shl 1 h) (z_shl 1 l)) (z_or (z_or (z_shl 1 h) (z_shl 1 m)) (z_shl 1 l)) m (fun k k1 k2 => by
        rw [z_x2 (by omega) (by omega) ⟨k1, k2⟩, z_x3 (by omega) (by omega) (by omega) ⟨k1, k2⟩]
        exact or_right_comm) nb
      exact nxt (fun w => hT2 h l hlt (by omega) w.1.1 w.1.2.2 (this.2.mp w.2)) M2 _ f2 e82 rfl
    · have nb : ¬ L (z_or (z_shl 1 m) (z_shl 1 l)) h := fun q => ((hB2 m l hlm (Or.inl (by omega)) (by omega) (by omega) h (by omega) (by omega)).mpr q) c4
      have := FL (z_or (z_shl 1 m) (z_shl 1 l)) (z_or (z_or (z_shl 1 h) (z_shl 1 m)) (z_shl 1 l)) h (fun k k1 k2 => by
        rw [z_x2 (by omega) (by omega) ⟨k1, k2⟩, z_x3 (by omega) (by omega) (by omega) ⟨k1, k2⟩]
        omega) nb
      exact nxt (fun w => hT2 m l (by omega) hlm w.1.2.1 w.1.2.2 (this.2.mp w.2)) M2 _ f2 e82 rfl
    · refine trk M2 _ _ f2 e82 (fun M3 f3 e83 e45 lb => ?_)
      refine gX0_leastThree_96 (M := M3) (x1 := M 1 2) (x2 := (h : Int)) (x3 := (m : Int)) (x4 := (l : Int)) (s0 := z_b (T (z_or (z_or (z_shl 1 h) (z_shl 1 m)) (z_shl 1 l)))) (z_hsc hR f3) (fun c7 => ?_) (fun c7 => ?_)
      · rw [z_in1 (by omega)]
        exact nxt (fun q => by
          rw [z_b_t q.2] at c7
          omega) M3 _ f3 e83 e45
      · have hT : T (z_or (z_or (z_shl 1 h) (z_shl 1 m)) (z_shl 1 l)) := Classical.byContradiction fun q => c7 (z_b_f q)
        have v := z_x3v h (by omega) m hmh l hlm
        have ev : z_tf3 M T h m l = z_or (z_or (z_shl 1 h) (z_shl 1 m)) (z_shl 1 l) := by
          unfold z_tf3
          rw [if_pos ⟨⟨by omega, by omega, by omega⟩, hT⟩]
        have e := z_fr_f (N := m) hF2 (by rw [ev]; omega) hlm
        rw [ev] at e
        have e2 := z_fr_f (F := z_tg3 M T h) (N := h) hG (by unfold z_tg3; rw [e]; omega) hmh
        unfold z_tg3 at e2
        rw [e] at e2
        have e3 := z_fr_f (F := z_th3 M T) (N := N) hF (by unfold z_th3 z_tg3; rw [e2]; omega) hlt
        have := kk M3 f3
        rw [e3] at this
        unfold z_th3 z_tg3 at this
        rw [e2] at this
        exact this
  · obtain rfl : l = m := by omega
    refine g (fun _ => ?_) (fun q => by omega) (fun q => by omega) (fun q => by omega) (fun q => by omega) (fun q => by omega) (fun q => by omega) (fun q => by omega) (fun q => by omega) (fun q => by omega) (fun q => by omega) (fun q => by omega) (fun q => by omega) (fun q => by omega)
    refine ihm M2 _ _ f2 e82 ?_ hB2
    rw [z_fr_s hG]
    exact hF2
theorem s_X1_readsSalt {P : Option z_V → z_L → z_M → Prop} (hR : z_R M) (kk : ∀ v : Int, (v = 0 → z_nos M) → P (some (0, v)) z_LL M) : wp xs d mX1_readsSalt 0 [(2, M 34 3), (3, 0)] [] z_LL M P := by
  have hG := z_R_G hR
  have hlen : M (M 34 3) 15 ≤ 270 := by
    by_cases c : M 321 59 = 0
    · rw [hG.2.2.2.2.1 c]
      decide
    · obtain ⟨q1, q2, _⟩ := hG.2.2.2.2.2 c
      omega
  refine gX1_readsSalt_0 hG.1 ?_
  refine z_loop (W := fun i => (∀ j : Nat, j < i → M (M 34 3 + 8) j ≠ -20) → wp xs d mX1_readsSalt 2 [(2, M 34 3), (0, (i : Int))] [] z_LL M P) (M (M 34 3) 15).toNat (fun i hi ih hI => ?_) (fun j hj => absurd hj (by omega))
  refine gX1_readsSalt_2 (x1 := (i : Int)) hG.1 (fun c c2 => ?_) (fun c c2 => ?_) (fun c => by omega) (fun c c2 => ?_) (fun c c2 => ?_)
  · exact kk 0 (fun _ => z_nos_of (z_R_P hR) hG (fun j hj => hI j (by omega)) c2)
  · exact kk 1 (fun q => by omega)
  · rw [z_in1 (by omega)]
    refine ih (by omega) (fun j hj => ?_)
    by_cases e : j = i
    · rw [e]
      exact c2
    · exact hI j (by omega)
  · exact kk 1 (fun q => by omega)
/-- what it comes to: the least set -/
noncomputable def z_rv (M : z_M) (T : Int → Prop) (N : Nat) : Int := @ite Int (T 0) (Classical.propDecidable _) 0 (if z_fr (z_tf1 M T) N ≠ -1 then z_fr (z_tf1 M T) N else if z_fr (z_tg2 M T) N ≠ -1 then z_fr (z_tg2 M T) N else z_fr (z_th3 M T) N)
theorem z_nos_q {M' : z_M} (h : z_cfe M M') (hN : z_nos M') : z_nos M := fun A A' hA => by
  have := hN A A' hA
  rw [z_frm_x h] at this
  exact this
theorem s_X0_leastSalt {P : Option z_V → z_L → z_M → Prop} {a b ev : Int} {days N : Nat} (hR : z_R M) (hq : z_aq M a b ev days) (hN : M 321 46 * M 321 47 = (N : Int)) (kk : ∀ M' : z_M, z_sc M M' → P (some (0, z_rv M (z_ttv M a b ev days) N)) z_LL M') : wp xs (d + 7) mX0_leastSalt 0 [(2, 38), (2, M 1 2), (3, 0)] [] z_LL M P := by
  have hn := (z_R_C hR).2.2.1
  refine gX0_leastSalt_0 (z_R_H hR).1 ?_
  refine s_trk (d := d + 1) hR z_sc_r rfl hq (fun M1 f1 e1 e45 l1 => ?_)
  refine gX0_leastSalt_7 (z_R_F (z_sc_R f1 hR)) (z_hsc hR f1) (z_R_G (z_sc_R f1 hR)).1 (fun c => ?_) (fun c => ?_)
  · have h0 : ¬ z_ttv M a b ev days 0 := fun q => by
      rw [z_b_t q] at c
      omega
    unfold z_rv at kk
    rw [if_neg h0] at kk
    refine s_X1_readsSalt (z_sc_R f1 hR) (fun v hv => ?_)
    refine gX0_leastSalt_22 (z_R_F (z_sc_R f1 hR)) (z_hsc hR f1) (fun c2 => ?_) (fun c2 => ?_)
    · refine s_X0_leastOne hR f1 e1 hq hN l1 h0 (fun M2 f2 e2 hI1 => ?_)
      by_cases r1 : z_fr (z_tf1 M (z_ttv M a b ev days)) N = -1
      · refine gX0_leastSalt_39 (z_hsc hR f2) (fun q => absurd r1 q) (fun q => absurd r1 q) (fun _ => ?_)
        rw [if_neg (fun q => q r1)] at kk
        refine s_X0_leastTwo hR f2 e2 hq hN r1 (hI1 r1) (fun M3 f3 e3 hI2 => ?_)
        by_cases r2 : z_fr (z_tg2 M (z_ttv M a b ev days)) N = -1
        · refine gX0_leastSalt_50 (z_hsc hR f3) (fun q => absurd r2 q) (fun _ => ?_)
          rw [if_neg (fun q => q r2)] at kk
          refine s_X0_leastThree hR f3 e3 hq hN r2 (hI2 r2) (fun M4 f4 => ?_)
          exact gX0_leastSalt_61 (z_hsc hR f4) (kk M4 f4)
        · rw [if_pos r2] at kk
          exact gX0_leastSalt_50 (z_hsc hR f3) (fun _ => kk M3 f3) (fun q => absurd r2 q)
      · rw [if_pos r1] at kk
        exact gX0_leastSalt_39 (z_hsc hR f2) (fun _ _ => kk M2 f2) (fun _ q => absurd r1 q) (fun q => absurd r1 q)
    · have hns := z_nos_q (z_cfe_c (z_sc_c f1)) (hv (Classical.byContradiction fun q => c2 q))
      have all : ∀ x : Int, ¬ z_ttv M a b ev days x := fun x q => h0 ((z_trn (z_R_C hR) (z_R_S hR) hns (by have := hq.2.2.2; omega)).mp q)
      rw [z_fr_no (N := N) (F := z_tf1 M (z_ttv M a b ev days)) (fun i _ => by
        unfold z_tf1
        rw [if_neg (fun w => all _ w.2)]), z_fr_no (N := N) (F := z_tg2 M (z_ttv M a b ev days)) (fun i _ => z_fr_no (fun j _ => by
        unfold z_tf2
        rw [if_neg (fun w => all _ w.2)])), z_fr_no (N := N) (F := z_th3 M (z_ttv M a b ev days)) (fun i _ => z_fr_no (fun j _ => z_fr_no (fun k _ => by
        unfold z_tf3
        rw [if_neg (fun w => all _ w.2)])))] at kk
      exact kk M1 f1
  · unfold z_rv at kk
    rw [if_pos (Classical.byContradiction fun q => c (z_b_f q))] at kk
    exact kk M1 f1
end
