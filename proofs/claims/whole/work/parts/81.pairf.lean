section
variable {xs : List Int} {d : Nat} {M : z_M}
/-- a way is calm: as the class looks at it -/
def z_clm (n : Nat) (M : z_M) (W : Int → Int) : Prop := ∀ a b : Int, a < b → ¬ z_blk n (z_cpr M) (z_wnt M) W a b
noncomputable def z_nta (n : Nat) (M : z_M) (t : Int × Int × (Int → Int) × (Int → Int) × (Int → Int)) (W : Int → Int) : Int × Int × (Int → Int) × (Int → Int) × (Int → Int) := @ite _ (z_clm n M W) (Classical.propDecidable _) (z_nt1 n (z_wnt M) t W) t
theorem z_nta_n {n : Nat} : ∀ (L : List (Int → Int)) (t : Int × Int × (Int → Int) × (Int → Int) × (Int → Int)), t.1 ≤ (L.foldl (z_nta n M) t).1 ∧ (L.foldl (z_nta n M) t).1 ≤ t.1 + L.length
  | [], t => by simp
  | W :: L, t => by
    have ih := z_nta_n (n := n) L (z_nta n M t W)
    have : t.1 ≤ (z_nta n M t W).1 ∧ (z_nta n M t W).1 ≤ t.1 + 1 := by
      unfold z_nta
      split
      · show t.1 ≤ t.1 + 1 ∧ t.1 + 1 ≤ t.1 + 1
        omega
      · omega
    rw [List.foldl_cons, List.length_cons]
    omega
theorem z_pfm_q {M' : z_M} (f : z_pfm M M') : z_cpr M' = z_cpr M ∧ z_wnt M' = z_wnt M := by
  constructor
  · funext a b
    unfold z_cpr
    rw [z_pfm_c f 321 (by unfold z_conf; omega), z_pfm_c f 340 (by unfold z_conf; omega), z_cm_q (z_pfm_c f)]
  · funext a b
    unfold z_wnt
    rw [z_pfm_c f 340 (by unfold z_conf; omega)]
theorem s_X3_pairFrom {n : Nat} (hF : z_fix M) (hC : z_mc M) (hn : M 321 48 = (n : Int)) (hG : z_gg M (M 289 6)) : ∀ (k : Nat) (d : Nat) (P : Option z_V → z_L → z_M → Prop) (W : Int → Int) (t : Int × Int × (Int → Int) × (Int → Int) × (Int → Int)) (M1 : z_M), k ≤ n → z_pfm M M1 → z_rwp n (M1 290) W → z_nts n M1 t → 0 ≤ t.1 → t.1 + (z_pfr n (z_cpr M) k W).length ≤ 1000000 → (∀ M' : z_M, z_pfm M M' → z_rwp n (M' 290) W → z_nts n M' ((z_pfr n (z_cpr M) k W).foldl (z_nta n M) t) → P none z_LL M') → wp xs (d + 4 + k) mX3_pairFrom 0 [(2, 289), (0, (n : Int) - k), (3, 0)] [] z_LL M1 P
  | 0, d, P, W, t, M1, hk, f, hW, hT, t0, hlen, kk => by
    have h6 := hC.2.2.1
    have hG1 := z_pfm_G f hG
    have C1 := z_mc_e (z_pfm_c f) hC
    have n1 : M1 321 48 = (n : Int) := by rw [z_pfm_c f 321 (by unfold z_conf; omega)]; exact hn
    refine gX3_pairFrom_0 (d := d + 3) hG1.1 (fun c => ?_) (fun c => ?_)
    · rw [hG1.2.1.2.2.1, n1] at c
      omega
    rw [z_pfr] at kk hlen
    rw [List.foldl_cons, List.foldl_nil] at kk
    have kk : ∀ M' : z_M, _ := kk
    refine s_X3_isCalm (d := d) (z_pfm_F f hF) C1 n1 hG1 hW ?_
    rw [(z_pfm_q f).1, (z_pfm_q f).2]
    unfold z_nta at kk
    refine gX3_pairFrom_15 (d := d + 3) (fun c => ?_) (fun c => ?_)
    · rw [if_neg (fun (q : z_clm n M W) => by rw [z_b_t (p := ∀ a b : Int, a < b → ¬ z_blk n (z_cpr M) (z_wnt M) W a b) q] at c; omega)] at kk
      exact kk M1 f hW hT
    · rw [if_pos (Classical.byContradiction fun (q : ¬ z_clm n M W) => c (z_b_f q))] at kk
      rw [List.length_singleton] at hlen
      refine s_X3_note (d := d + 1) (z_pfm_F f hF) C1 n1 hG1 hW hT (by omega) (fun M2 f2 e2 hT2 => ?_)
      rw [(z_pfm_q f).2] at hT2
      exact gX3_pairFrom_22 (kk M2 (z_pfm_t f f2) (by rw [e2]; exact hW) hT2)
  | k + 1, d, P, W, t, M1, hk, f, hW, hT, t0, hlen, kk => by
    have h6 := hC.2.2.1
    have hG1 := z_pfm_G f hG
    have n1 : M1 321 48 = (n : Int) := by rw [z_pfm_c f 321 (by unfold z_conf; omega)]; exact hn
    rw [show d + 4 + (k + 1) = d + 4 + k + 1 by omega]
    rw [z_pfr] at kk hlen
    rw [List.foldl_append] at kk
    rw [List.length_append] at hlen
    have hr := s_X3_pairFrom hF hC hn hG k d
    refine gX3_pairFrom_0 (d := d + 4 + k) hG1.1 (fun c => ?_) (fun c => ?_)
    rotate_left
    · rw [hG1.2.1.2.2.1, n1] at c
      omega
    rw [z_wid (by omega), show (n : Int) - ((k + 1 : Nat) : Int) + 1 = (n : Int) - k by omega]
    have l1 := z_nta_n (n := n) (M := M) (z_pfr n (z_cpr M) k W) t
    refine hr _ W t M1 (by omega) f hW hT t0 (by omega) (fun M2 f2 hW2 hT2 => ?_)
    obtain ⟨f0, hf0⟩ : ∃ f0 : Nat, f0 = n - k - 1 := ⟨_, rfl⟩
    rw [show (n : Int) - ((k + 1 : Nat) : Int) = (f0 : Int) by omega]
    rw [show (n : Int) - k - 1 = (f0 : Int) by omega] at kk hlen
    have w0 := hW2 f0 (by omega) (by omega)
    generalize (z_pfr n (z_cpr M) k W).foldl (z_nta n M) t = t2 at *
    refine gX3_pairFrom_30 (x1 := (f0 : Int)) (z_pfm_F f2 hF) (by omega) (fun c => ?_) (fun c => ?_)
    rotate_left
    · rw [w0.1] at c
      rw [if_pos c, List.foldl_nil] at kk
      exact kk M2 f2 hW2 hT2
    rw [w0.1] at c
    rw [if_neg (by omega)] at kk hlen
    rw [z_in1 (by omega)]
    -- the others, one after the other
    obtain ⟨F, hF2⟩ : ∃ F : Nat → List (Int → Int), F = fun (o : Nat) => @ite _ ((f0 : Int) < o ∧ W o = -1 ∧ z_cpr M f0 o) (Classical.propDecidable _) (z_pfr n (z_cpr M) k (z_pt (z_pt W f0 o) o f0)) [] := ⟨_, rfl⟩
    rw [← hF2] at kk hlen
    have pre : ∀ m : Nat, m ≤ f0 + 1 → (List.range m).flatMap F = [] := fun m hm => by
      rw [List.flatMap_eq_nil_iff]
      intro o ho
      have := List.mem_range.mp ho
      rw [hF2]
      exact if_neg (fun q => by omega)
    have suc : ∀ m : Nat, (List.range (m + 1)).flatMap F = (List.range m).flatMap F ++ F m := fun m => by
      rw [List.range_succ, List.flatMap_append, List.flatMap_cons, List.flatMap_nil, List.append_nil]
    have mono : ∀ m m' : Nat, m ≤ m' → ((List.range m).flatMap F).length ≤ ((List.range m').flatMap F).length := fun m m' h => by
      obtain ⟨j, rfl⟩ : ∃ j : Nat, m' = m + j := ⟨m' - m, by omega⟩
      clear h
      induction j with
      | zero => exact Nat.le_refl _
      | succ j ih =>
        rw [show m + (j + 1) = m + j + 1 by omega, suc, List.length_append]
        omega
    refine z_loop (W := fun j => ∀ M3 : z_M, z_pfm M M3 → z_rwp n (M3 290) W → z_nts n M3 (((List.range (f0 + 1 + j)).flatMap F).foldl (z_nta n M) t2) → wp xs (d + 4 + k + 1) mX3_pairFrom 45 [(2, 289), (0, (f0 : Int)), (0, ((f0 + 1 + j : Nat) : Int))] [] z_LL M3 P) (n - f0 - 1) (fun j hj ih M3 f3 hW3 hT3 => ?_) M2 f2 hW2 (by rw [pre _ (by omega)]; exact hT2)
    rw [show f0 + 1 + (j + 1) = f0 + 1 + j + 1 by omega] at ih
    have hon : f0 + 1 + j ≤ n := by omega
    have hfo : f0 < f0 + 1 + j := by omega
    generalize ho : f0 + 1 + j = o at *
    have hG3 := z_pfm_G f3 hG
    have n3 : M3 321 48 = (n : Int) := by rw [z_pfm_c f3 321 (by unfold z_conf; omega)]; exact hn
    have g := gX3_pairFrom_45 (M := M3) (xs := xs) (d := d + 4 + k) (P := P) (x1 := (f0 : Int)) (x2 := (o : Int)) (z_pfm_F f3 hF) hG3.1
    rw [hG3.2.1.2.2.1, n3, z_in1 (by omega)] at g
    by_cases hlt : o < n
    · have ih := ih (by omega)
      have wo := hW3 o (by omega) (by omega)
      have wf := hW3 f0 (by omega) (by omega)
      have skip : ¬ ((f0 : Int) < o ∧ W o = -1 ∧ z_cpr M f0 o) → ∀ M3 : z_M, z_pfm M M3 → z_rwp n (M3 290) W → z_nts n M3 (((List.range o).flatMap F).foldl (z_nta n M) t2) → wp xs (d + 4 + k + 1) mX3_pairFrom 45 [(2, 289), (0, (f0 : Int)), (0, ((o + 1 : Nat) : Int))] [] z_LL M3 P := fun q M3 f3 hW3 hT3 => by
        refine ih M3 f3 hW3 ?_
        rw [suc, show F o = [] by rw [hF2]; exact if_neg q, List.append_nil]
        exact hT3
      rw [wo.1] at g
      refine g (fun q => by omega) (fun _ => by omega) (fun _ c2 => ?_) (fun _ c2 => ?_)
      · exact skip (fun q => c2 q.2.1) M3 f3 hW3 hT3
      · have c2 := Classical.byContradiction c2
        have hd : ∃ e : Nat, d + 4 + k = e + 2 := ⟨d + 2 + k, by omega⟩
        obtain ⟨e, he⟩ := hd
        rw [he]
        refine s_X1_couldPair (d := e) (z_mc_e (z_pfm_c f3) hC) hG3 (by omega) (by omega) ?_
        rw [(z_pfm_q f3).1, ← he]
        refine gX3_pairFrom_75 (d := d + 4 + k) (x1 := (f0 : Int)) (x2 := (o : Int)) (z_pfm_F f3 hF) (fun c3 => ?_) (fun _ => by omega) (fun _ => by omega) (fun c3 => ?_)
        · rw [z_in1 (by omega)]
          exact skip (fun q => by rw [z_b_t q.2.2] at c3; omega) M3 f3 hW3 hT3
        · have cp : z_cpr M f0 o := Classical.byContradiction fun q => c3 (z_b_f q)
          have eF : F o = z_pfr n (z_cpr M) k (z_pt (z_pt W f0 o) o f0) := by
            rw [hF2]
            exact if_pos ⟨by omega, c2, cp⟩
          have so := suc o
          have mo := mono (o + 1) n (by omega)
          rw [so, List.length_append, eF] at mo
          have l3 := z_nta_n (n := n) (M := M) ((List.range o).flatMap F) t2
          rw [z_wid (by omega), show (f0 : Int) + 1 = (n : Int) - k by omega]
          refine hr _ (z_pt (z_pt W f0 o) o f0) (((List.range o).flatMap F).foldl (z_nta n M) t2) _ (by omega) (z_pfm_t f3 ⟨fun q hq => by rw [z_upn (by omega), z_upn (by omega)], fun j _ _ => by rw [z_upn (by decide), z_upn (by decide)]⟩) (fun i i1 i2 => ?_) ?_ (by omega) (by omega) (fun M4 f4 hW4 hT4 => ?_)
          · rw [z_upw, z_upw]
            have := hW3 i i1 i2
            by_cases e1 : i = o
            · rw [e1, z_pt_s, z_pt_s]
              omega
            · rw [z_pt_n e1, z_pt_n e1]
              by_cases e2 : i = f0
              · rw [e2, z_pt_s, z_pt_s]
                omega
              · rw [z_pt_n e2, z_pt_n e2]
                exact this
          · unfold z_nts at hT3 ⊢
            rw [z_upn (q := 289) (by decide), z_upn (q := 289) (by decide), z_upn (q := 291) (by decide), z_upn (q := 291) (by decide), z_upn (q := 292) (by decide), z_upn (q := 292) (by decide), z_upn (q := 293) (by decide), z_upn (q := 293) (by decide)]
            exact hT3
          · refine gX3_pairFrom_99 (d := d + 4 + k + 1) (x1 := (f0 : Int)) (x2 := (o : Int)) (z_pfm_F f4 hF) (by omega) (by omega) ?_
            rw [z_in1 (by omega)]
            refine ih _ (z_pfm_t f4 ⟨fun q hq => by rw [z_upn (by omega), z_upn (by omega)], fun j _ _ => by rw [z_upn (by decide), z_upn (by decide)]⟩) (fun i i1 i2 => ?_) ?_
            · rw [z_upw, z_upw]
              have h4 := hW4 i i1 i2
              have h3 := hW3 i i1 i2
              by_cases e1 : i = o
              · rw [e1, z_pt_s, c2]
                omega
              · rw [z_pt_n e1] at h4 ⊢
                by_cases e2 : i = f0
                · rw [e2, z_pt_s, c]
                  omega
                · rw [z_pt_n e2] at h4 ⊢
                  exact h4
            · rw [so, List.foldl_append, eF]
              unfold z_nts at hT4 ⊢
              rw [z_upn (q := 289) (by decide), z_upn (q := 289) (by decide), z_upn (q := 291) (by decide), z_upn (q := 291) (by decide), z_upn (q := 292) (by decide), z_upn (q := 292) (by decide), z_upn (q := 293) (by decide), z_upn (q := 293) (by decide)]
              exact hT4
    · obtain rfl : o = n := by omega
      exact g (fun _ => kk M3 f3 hW3 hT3) (fun q => by omega) (fun q => by omega) (fun q => by omega)
end
