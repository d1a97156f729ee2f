/-! THE CALL gorge -/
set_option maxRecDepth 20000 in
theorem gX9_gorge_0 {xs : List Int} {d : Nat} {M : z_M} {P : Option z_V → z_L → z_M → Prop} (hF : z_fix M) (hg1 : z_gor M (M 1 1))
    (l1 : wp xs d mX5_reads 0 [(2, 33), (2, (M 1 1)), (3, 0)] [] z_LL M (fun r L1 M1 => wp xs (d + 1) mX9_gorge 11 [(2, 1), (3, 0), (3, 0)] (z_ol r ++ []) L1 M1 P)) :
    wp xs (d + 1) mX9_gorge 0 [(2, 1), (3, 0), (3, 0)] [] z_LL M P := by
  refine wp_run 1 (pc' := 1) (ls' := [(2, 1), (3, 0), (3, 0)]) (st' := [(2, 1)]) rfl ?_
  refine wp_gf (pc' := 4) (t := 2) (v := 33) rfl rfl (by decide) rfl rfl (fx_1_4 hF) ?_
  refine wp_run 1 (pc' := 5) (ls' := [(2, 1), (3, 0), (3, 0)]) (st' := [(2, 1), (2, 33)]) rfl ?_
  refine wp_gf (pc' := 8) (t := 2) (v := (M 1 1)) rfl rfl (by decide) rfl rfl rfl ?_
  refine wp_callv (pc' := 11) (as := [(2, 33), (2, (M 1 1))]) (rest := []) (ls1 := [(2, 33), (2, (M 1 1)), (3, 0)]) rfl rfl rfl rfl rfl rfl ?_
  exact l1
set_option maxRecDepth 20000 in
theorem gX9_gorge_11 {xs : List Int} {d : Nat} {M : z_M} {P : Option z_V → z_L → z_M → Prop} {s0 : Int} (hF : z_fix M) (hg1 : z_gor M (M 1 0)) (hg2 : z_gor M (M 1 1))
    (l1 : (s0 ≠ 0) → wp xs d mX9_settle 0 [(2, 1)] [] z_LL (z_up (z_up (z_up M 30 2 0) 1 0 (M 1 1)) 1 1 (M 1 0)) (fun r L1 M1 => wp xs (d + 1) mX9_gorge 48 [(2, 1), (0, s0), (2, (M 1 0))] (z_ol r ++ []) L1 M1 P))
    (l2 : (¬ (s0 ≠ 0)) → P (some (0, (-1))) z_LL (z_up M 30 2 0)) :
    wp xs (d + 1) mX9_gorge 11 [(2, 1), (3, 0), (3, 0)] [(0, s0)] z_LL M P := by
  refine wp_run 2 (pc' := 13) (ls' := [(2, 1), (0, s0), (3, 0)]) (st' := [(2, 1)]) rfl ?_
  refine wp_gf (pc' := 16) (t := 2) (v := 30) rfl rfl (by decide) rfl rfl (fx_1_3 hF) ?_
  refine wp_run 1 (pc' := 17) (ls' := [(2, 1), (0, s0), (3, 0)]) (st' := [(0, 0), (2, 30)]) rfl ?_
  refine wp_pf (pc' := 20) rfl rfl rfl rfl (fun z => absurd z (by decide)) (fun z => absurd z (by decide)) ?_
  refine wp_run 1 (pc' := 21) (ls' := [(2, 1), (0, s0), (3, 0)]) (st' := [(0, s0)]) rfl ?_
  refine wp_if1 rfl rfl rfl (fun (c1 : s0 ≠ 0) => ?_) (fun (c1 : ¬ (s0 ≠ 0)) => ?_)
  · refine wp_run 1 (pc' := 27) (ls' := [(2, 1), (0, s0), (3, 0)]) (st' := [(2, 1)]) rfl ?_
    refine wp_gf (pc' := 30) (t := 2) (v := (M 1 0)) rfl rfl (by decide) rfl rfl (z_upq (by decide) rfl) ?_
    refine wp_run 3 (pc' := 33) (ls' := [(2, 1), (0, s0), (2, (M 1 0))]) (st' := [(2, 1), (2, 1)]) rfl ?_
    refine wp_gf (pc' := 36) (t := 2) (v := (M 1 1)) rfl rfl (by decide) rfl rfl (z_upq (by decide) rfl) ?_
    refine wp_pf (pc' := 39) rfl rfl rfl rfl (fun _ => by have := z_gr hg2; omega) (fun z => absurd z (by decide)) ?_
    refine wp_run 2 (pc' := 41) (ls' := [(2, 1), (0, s0), (2, (M 1 0))]) (st' := [(2, (M 1 0)), (2, 1)]) rfl ?_
    refine wp_pf (pc' := 44) rfl rfl rfl rfl (fun _ => by have := z_gr hg1; omega) (fun z => absurd z (by decide)) ?_
    refine wp_run 1 (pc' := 45) (ls' := [(2, 1), (0, s0), (2, (M 1 0))]) (st' := [(2, 1)]) rfl ?_
    refine wp_callv (pc' := 48) (as := [(2, 1)]) (rest := []) (ls1 := [(2, 1)]) rfl rfl rfl rfl rfl rfl ?_
    exact l1 c1
  · refine wp_run 1 (pc' := 25) (ls' := [(2, 1), (0, s0), (3, 0)]) (st' := [(0, (-1))]) rfl ?_
    exact wp_ret rfl rfl (l2 c1)
set_option maxRecDepth 20000 in
theorem gX9_gorge_48 {xs : List Int} {d : Nat} {M : z_M} {P : Option z_V → z_L → z_M → Prop} {x1 : Int} {x2 : Int} (hx2 : z_gor M x2) (hg2 : z_gor M (M 1 0))
    (l1 : P (some (0, (M (M 1 0) 12))) z_LL M) :
    wp xs d mX9_gorge 48 [(2, 1), (0, x1), (2, x2)] [] z_LL M P := by
  refine wp_run 1 (pc' := 49) (ls' := [(2, 1), (0, x1), (2, x2)]) (st' := [(2, 1)]) rfl ?_
  refine wp_gf (pc' := 52) (t := 2) (v := (M 1 0)) rfl rfl (by decide) rfl rfl rfl ?_
  refine wp_gf (pc' := 55) (t := 0) (v := (M (M 1 0) 12)) rfl rfl (by decide) rfl (z_gl0 hg2) rfl ?_
  exact wp_ret rfl rfl (l1)
section
variable {xs : List Int} {d : Nat} {M G : z_M} {P : Option z_V → z_L → z_M → Prop}
/-- what the model has taken over -/
def zx_v (M M' G : z_M) : Prop := (M' 321 46 = G 321 36 ∧ M' 321 47 = G 321 37 ∧ M' 321 48 = G 321 40 ∧ M' 321 49 = G 321 41 ∧ M' 321 50 = G 321 42 ∧ M' 321 51 = G 321 43 ∧ M' 321 52 = G 321 44 ∧ M' 321 21 = G 321 20 ∧ M' 321 59 = G 321 55 ∧ M' 321 18 = G 321 17) ∧
  (∀ k : Int, 0 ≤ k → k < G 321 17 → M' 326 k = G 324 k ∧ M' 327 k = G 325 k) ∧ (∀ k : Int, 0 ≤ k → k < 36 → M' 340 k = G 335 k) ∧
  (∀ f : Int, 0 ≤ f → f < 6 → M' 337 f = G 332 f ∧ M' 338 f = G 333 f ∧ M' 339 f = G 334 f ∧ M' 341 f = G 336 f)
def zx_n (M M' G : z_M) : Prop := (M' 321 64 = 0 ∧ M' 321 65 = 0 ∧ M' 321 76 = 0 ∧ M' 321 68 = 0) ∧
  (∀ i : Int, M' 342 i = if i = 105 then G 321 45 else if 54 ≤ i ∧ i < 54 + G 321 36 * G 321 37 then (if 0 ≤ G 331 (i - 54) then G 331 (i - 54) else G 321 38) else if 0 ≤ i ∧ i < 6 then (if i < G 321 40 then G 333 i else 0) else if 12 ≤ i ∧ i < 18 then -1 else if 0 ≤ i ∧ i < 106 then 0 else M 342 i) ∧ ∀ b : Int, 0 ≤ b → b < 3 → M' 356 b = 0
theorem zx_mc {M' : z_M} (hy : zy G) (v : zx_v M M' G) : z_mc M' := by
  obtain ⟨⟨z, y2, y3, y4, y5, y6⟩, y7, y8⟩ := hy
  obtain ⟨⟨v1, v2, v3, v4, v5, v6, v7, v8, v9, v10⟩, vs, vw, vf⟩ := v
  unfold z_mc
  rw [v1, v2, v3, v7, v5, v6]
  have z3 := z.2.2.1
  refine ⟨z.1, z.2.1, z.2.2.1, y4.2.2.2.1, y4.2.1, y4.2.2.1, fun f f1 f2 => ?_⟩
  obtain ⟨a1, a2, a3, a4⟩ := vf f f1 (by omega)
  rw [a1, a2, a3, a4]
  obtain ⟨w1, w2, w3, w4, w5⟩ := y2 f f1 f2
  refine ⟨w1, w2, w3, w4, fun o o1 o2 => ?_⟩
  rw [vw (6 * f + o) (by omega) (by omega)]
  exact w5 o o1 o2
theorem m_take (hF : z_fix M) (hm : zm_c M G) (hy : zy G) (h2 : M 321 2 = 0) (k : ∀ M' : z_M, (∀ q, q ≠ 321 → q ≠ 326 → q ≠ 327 → ¬ (337 ≤ q ∧ q ≤ 342) → q ≠ 356 → M' q = M q) → (∀ j, ¬ (j = 18 ∨ j = 21 ∨ (46 ≤ j ∧ j ≤ 52) ∨ j = 59 ∨ j = 64 ∨ j = 65 ∨ j = 68 ∨ j = 76) → M' 321 j = M 321 j) → zx_v M M' G → zx_n M M' G → P (some (0, G 321 40)) z_LL M') : wp xs (d + 1) mX10_gorge 4 [(2, 321), (3, 0)] [] z_LL M P := by
  obtain ⟨⟨z, y2, y3, y4, y5, y6⟩, y7, y8⟩ := id hy
  obtain ⟨h1, h24, h31, h23, h32, h33, h34, h35, h36⟩ := id hm
  have e : ∀ j, zm_d j → M 321 j = G 321 j := h1
  have t := gX10_gorge_4 (M := M) (xs := xs) (d := d + 1) (P := P)
  rw [e 36 (by unfold zm_d; omega), e 37 (by unfold zm_d; omega), e 40 (by unfold zm_d; omega), e 41 (by unfold zm_d; omega), e 42 (by unfold zm_d; omega), e 43 (by unfold zm_d; omega), e 44 (by unfold zm_d; omega), e 20 (by unfold zm_d; omega), e 55 (by unfold zm_d; omega), e 17 (by unfold zm_d; omega)] at t
  have main : wp xs (d + 1) mX10_gorge 106 [(2, 321), (0, 0)] [] z_LL (z_up (z_up (z_up (z_up (z_up (z_up (z_up (z_up (z_up (z_up M 321 46 (G 321 36)) 321 47 (G 321 37)) 321 48 (G 321 40)) 321 49 (G 321 41)) 321 50 (G 321 42)) 321 51 (G 321 43)) 321 52 (G 321 44)) 321 21 (G 321 20)) 321 59 (G 321 55)) 321 18 (G 321 17)) P := by
    generalize hM1 : z_up (z_up (z_up (z_up (z_up (z_up (z_up (z_up (z_up (z_up M 321 46 (G 321 36)) 321 47 (G 321 37)) 321 48 (G 321 40)) 321 49 (G 321 41)) 321 50 (G 321 42)) 321 51 (G 321 43)) 321 52 (G 321 44)) 321 21 (G 321 20)) 321 59 (G 321 55)) 321 18 (G 321 17) = M1
    have o1 : ∀ q, q ≠ 321 → M1 q = M q := fun q a => by rw [← hM1, z_upn a, z_upn a, z_upn a, z_upn a, z_upn a, z_upn a, z_upn a, z_upn a, z_upn a, z_upn a]
    have u1 : ∀ j, ¬ (j = 18 ∨ j = 21 ∨ (46 ≤ j ∧ j ≤ 52) ∨ j = 59) → M1 321 j = M 321 j := fun j a => by rw [← hM1, z_upi (by omega) rfl, z_upi (by omega) rfl, z_upi (by omega) rfl, z_upi (by omega) rfl, z_upi (by omega) rfl, z_upi (by omega) rfl, z_upi (by omega) rfl, z_upi (by omega) rfl, z_upi (by omega) rfl, z_upi (by omega) rfl]
    have v1 : M1 321 46 = G 321 36 ∧ M1 321 47 = G 321 37 ∧ M1 321 48 = G 321 40 ∧ M1 321 49 = G 321 41 ∧ M1 321 50 = G 321 42 ∧ M1 321 51 = G 321 43 ∧ M1 321 52 = G 321 44 ∧ M1 321 21 = G 321 20 ∧ M1 321 59 = G 321 55 ∧ M1 321 18 = G 321 17 := by
      rw [← hM1]
      refine ⟨?_, ?_, ?_, ?_, ?_, ?_, ?_, ?_, ?_, ?_⟩ <;> simp [z_up]
    clear hM1
    have F1 : z_fix M1 := zx_F (fun q a _ _ _ _ => o1 q a) (fun j hj => u1 j (by omega)) hF
    refine m_106 F1 (by rw [v1.2.2.2.2.2.2.2.2.2]; exact z.2.2.2.1) (fun M2 f2 v2 => ?_)
    have F2 : z_fix M2 := zx_F (fun q _ a c _ _ => f2 q a c) (fun j _ => by rw [f2 321 (by decide) (by decide)]) F1
    refine m_146 F2 (fun M3 f3 v3 => ?_)
    have F3 := zx_Fr (r := 340) (by omega) f3 F2
    refine m_172 F3 (fun M4 f4 v4 => ?_)
    have F4 := zx_Fr (r := 342) (by omega) f4 F3
    have r4 : ∀ q, q ≠ 326 → q ≠ 327 → q ≠ 340 → q ≠ 342 → M4 q = M1 q := fun q a c x y => by rw [f4 q y, f3 q x, f2 q a c]
    have e48 : M4 321 48 = G 321 40 := by rw [r4 321 (by decide) (by decide) (by decide) (by decide)]; exact v1.2.2.1
    refine m_193 F4 e48 (fun M5 f5 v5 w5 => ?_)
    have F5 : z_fix M5 := zx_F (fun q _ _ _ a _ => f5 q (by omega) (by omega) (by omega)) (fun j _ => by rw [f5 321 (by decide) (by decide) (by decide)]) F4
    have e321 : M5 321 = M1 321 := by rw [f5 321 (by decide) (by decide) (by decide), r4 321 (by decide) (by decide) (by decide) (by decide)]
    have v : zx_v M M5 G := by
      refine ⟨by rw [e321]; exact v1, fun k k1 k2 => ?_, fun k k1 k2 => ?_, fun f a c => ?_⟩
      · have := v2 k k1 (by rw [v1.2.2.2.2.2.2.2.2.2]; exact k2)
        rw [f5 326 (by decide) (by decide) (by decide), f5 327 (by decide) (by decide) (by decide), f4 326 (by decide), f4 327 (by decide), f3 326 (by decide), f3 327 (by decide), this.1, this.2, o1 324 (by decide), o1 325 (by decide)]
        exact h24 k k1 k2
      · rw [f5 340 (by decide) (by decide) (by decide), f4 340 (by decide), v3 k k1 k2, f2 335 (by decide) (by decide), o1 335 (by decide), h35]
      · have := v5 f a c
        rw [r4 332 (by decide) (by decide) (by decide) (by decide), r4 333 (by decide) (by decide) (by decide) (by decide), r4 334 (by decide) (by decide) (by decide) (by decide), r4 336 (by decide) (by decide) (by decide) (by decide), o1 332 (by decide), o1 333 (by decide), o1 334 (by decide), o1 336 (by decide), h32, h33, h34, h36] at this
        exact this
    have C5 := zx_mc hy v
    have en : M5 321 46 * M5 321 47 = G 321 36 * G 321 37 := by rw [v.1.1, v.1.2.1]
    refine m_289 (d := d) F5 C5 en (fun M6 f6 u6 n6 w6 => ?_)
    have F6 : z_fix M6 := zx_F (fun q a _ _ c _ => f6 q a (by omega)) (fun j hj => u6 j (by omega) (by omega) (by omega) (by omega)) F5
    refine m_367 (c := G 321 40) F6 (by rw [u6 48 (by decide) (by decide) (by decide) (by decide)]; exact v.1.2.2.1) (fun M7 f7 v7 => ?_)
    have e7 : M7 321 = M6 321 := f7 321 (by decide)
    have r5 : ∀ q, q ≠ 321 → q ≠ 342 → q ≠ 356 → M7 q = M5 q := fun q a c x => by rw [f7 q x, f6 q a c]
    refine k M7 (fun q a c x y w => ?_) (fun j hj => ?_) ?_ ⟨?_, fun i => ?_, v7⟩
    · rw [r5 q a (by omega) w, f5 q (by omega) (by omega) (by omega), r4 q c x (by omega) (by omega), o1 q a]
    · rw [e7, u6 j (by omega) (by omega) (by omega) (by omega), e321, u1 j (by omega)]
    · obtain ⟨a1, a2, a3, a4⟩ := v
      refine ⟨?_, ?_, ?_, ?_⟩
      · rw [e7, u6 46 (by decide) (by decide) (by decide) (by decide), u6 47 (by decide) (by decide) (by decide) (by decide), u6 48 (by decide) (by decide) (by decide) (by decide), u6 49 (by decide) (by decide) (by decide) (by decide), u6 50 (by decide) (by decide) (by decide) (by decide), u6 51 (by decide) (by decide) (by decide) (by decide), u6 52 (by decide) (by decide) (by decide) (by decide), u6 21 (by decide) (by decide) (by decide) (by decide), u6 59 (by decide) (by decide) (by decide) (by decide), u6 18 (by decide) (by decide) (by decide) (by decide)]
        exact a1
      · rw [r5 326 (by decide) (by decide) (by decide), r5 327 (by decide) (by decide) (by decide)]
        exact a2
      · rw [r5 340 (by decide) (by decide) (by decide)]
        exact a3
      · rw [r5 337 (by decide) (by decide) (by decide), r5 338 (by decide) (by decide) (by decide), r5 339 (by decide) (by decide) (by decide), r5 341 (by decide) (by decide) (by decide)]
        exact a4
    · rw [e7]
      exact n6
    · have e331 : M5 331 = M 331 := by rw [f5 331 (by decide) (by decide) (by decide), r4 331 (by decide) (by decide) (by decide) (by decide), o1 331 (by decide)]
      have e333 : M4 333 = G 333 := by rw [r4 333 (by decide) (by decide) (by decide) (by decide), o1 333 (by decide), h33]
      have e342 : M3 342 = M 342 := by rw [f3 342 (by decide), f2 342 (by decide) (by decide), o1 342 (by decide)]
      have cells : 4 ≤ G 321 36 * G 321 37 ∧ G 321 36 * G 321 37 ≤ 25 := zm_cr z.1 z.2.1
      rw [f7 342 (by decide), w6 i, e331, e321, u1 45 (by decide), u1 38 (by decide), e 45 (by unfold zm_d; omega), e 38 (by unfold zm_d; omega), w5 i, e333, v4 i, e342]
      by_cases c1 : i = 105
      · rw [if_pos c1, if_pos c1]
      · rw [if_neg c1, if_neg c1]
        by_cases c2 : 54 ≤ i ∧ i < 54 + G 321 36 * G 321 37
        · rw [if_pos c2, if_pos c2, h31 (i - 54) (by omega) (by omega)]
        · rw [if_neg c2, if_neg c2]
  refine t (fun _ => y8.1) (fun _ w => ?_) (fun _ w => main) (fun w => absurd (by omega) w)
  have e17 := (y8.2.1 w).1
  rw [e17] at main
  exact main
theorem zf_ht0 {f g : Int → Int} : ∀ k : Nat, (∀ j : Nat, j < k → f j = g j) → z_ht f k = z_ht g k
  | 0, _ => rfl
  | k + 1, h => by
    unfold z_ht
    rw [zf_ht0 k (fun j hj => h j (by omega)), h k (by omega)]
theorem zf_fw0 {f g a c : Int → Int} {k : Nat} (h : ∀ j : Nat, j ≤ k → f j = g j ∧ a j = c j) (w : z_fw f a k) : z_fw g c k := by
  unfold z_fw at w ⊢
  rw [← zf_ht0 k (fun j hj => (h j (by omega)).1), ← (h k (by omega)).1, ← (h k (by omega)).2]
  exact w
theorem z_pens_0 {s : Int → Int} : ∀ n : Nat, (∀ f : Int, 0 ≤ f → f < n → s (6 + f) = 0) → z_pens s n = 0
  | 0, _ => rfl
  | n + 1, h => by
    unfold z_pens
    rw [z_pens_0 n (fun f a c => h f a (by omega)), h n (by omega) (by omega)]
    simp
theorem zx_hk {h : Int} (hh : z_hk h) : h = 24 ∨ (49 ≤ h ∧ h ≤ 283 ∧ (h - 49) % 6 = 0) := hh
theorem c_gorge (hR : z_R M) : z_two xs (d + 200) mX9_gorge mX10_gorge [(2, 1), (3, 0), (3, 0)] [(2, 321), (3, 0)] M := by
  obtain ⟨t1, t2, t3, t4⟩ := z_R_Rt hR
  obtain ⟨g1, g2, g3, g4, g5, g6⟩ := z_R_Rg hR
  have hF := z_R_F hR
  have G0 := z_gsep g2.1
  have G1 := z_gsep g3
  have R0 := z_gr g2.1
  have R1 := z_gr g3
  have T : zt_t M (M 322) (M 321 1) := ⟨t1.1, t1.2, t3, t4⟩
  have hk := z_hk_b (z_R_k hR)
  unfold z_two
  refine gX9_gorge_0 (d := d + 199) hF g3 (s_X5_reads (d := d + 118) (Q := M) hF g3 T (fun M1 f1 at1 tt e1 e2 hg1 ok1 => ?_))
  have o1 : ∀ q, q ≠ 30 → q ≠ 33 → ¬ (M 1 1 ≤ q ∧ q ≤ M 1 1 + 10) → M1 q = M q := f1.1
  have e11 : M1 1 = M 1 := o1 1 (by decide) (by decide) (by omega)
  have F1 := zr_f_F f1 G1 hF
  have hg0 : z_gor M1 (M 1 0) := z_gor_q (o1 _ (by omega) (by omega) (by omega)) g2.1
  have tg := fun P => gX9_gorge_11 (M := M1) (xs := xs) (d := d + 199) (P := P) (s0 := z_b (zs_e (zr (M 322) (M 321 1) 1600 (.ok 0, zr_0 M)).1 = 0)) F1 (by rw [e11]; exact hg0) (by rw [e11]; exact hg1)
  -- the model's reading
  have model : ∀ (M2 : z_M) (Q : Option z_V → z_L → z_M → Prop), z_fix M2 → (∀ q, 321 ≤ q → M2 q = M q) → (∀ M3 : z_M, (∀ q, ¬ zm_q q → M3 q = M2 q) → (∀ j, ¬ zm_j j → ¬ (53 ≤ j ∧ j ≤ 58) → j ≠ 1 → j ≠ 5 → M3 321 j = M 321 j) → M3 321 1 = 0 → z_fix M3 → zs_m M3 (M 322) (M 321 1) (zr (M 322) (M 321 1) 1600 (.ok 0, zr_0 M)).1 → (∀ q, (zr (M 322) (M 321 1) 1600 (.ok 0, zr_0 M)).1 = .ok q → zm_c M3 (zr (M 322) (M 321 1) 1600 (.ok 0, zr_0 M)).2 ∧ zy (zr (M 322) (M 321 1) 1600 (.ok 0, zr_0 M)).2) → wp xs (d + 200) mX10_gorge 4 [(2, 321), (3, 0)] [] z_LL M3 Q) → wp xs (d + 200) mX10_gorge 0 [(2, 321), (3, 0)] [] z_LL M2 Q := fun M2 Q F2 em k => by
    refine gX10_gorge_0 (d := d + 199) (m_all (d := d + 188) (b := M 322) (n := M 321 1) (Q := M) F2 (em 322 (by decide)) (by rw [em 321 (by decide)]) t1.2 (fun i a c => (t3 i a c).1) (fun q a _ => em q (by omega)) (fun M3 f3 v1 c3 m3 => ?_))
    have r3 : ∀ q, ¬ zm_q q → M3 q = M2 q := fun q hq => by
      have q1 : q ≠ 321 := fun e => hq (Or.inl e)
      have := f3.1 q hq
      rw [z_upn q1, z_upn q1] at this
      exact this
    have u3 : ∀ j, ¬ zm_j j → ¬ (53 ≤ j ∧ j ≤ 58) → j ≠ 1 → j ≠ 5 → M3 321 j = M 321 j := fun j a c x y => by
      have := f3.2 j a c
      rw [z_upi x rfl, z_upi y rfl] at this
      rw [this, em 321 (by decide)]
    have F3 : z_fix M3 := z_fix_gen F2 (fun q i hq => by
      by_cases e : q = 321
      · rw [e] at hq ⊢
        rw [u3 i (by unfold z_fin at hq; unfold zm_j; omega) (by unfold z_fin at hq; omega) (by unfold z_fin at hq; omega) (by unfold z_fin at hq; omega), em 321 (by decide)]
      · rw [r3 q (by unfold z_fin at hq; unfold zm_q; omega)])
    exact k M3 r3 u3 v1 F3 c3 m3
  generalize hs : zr (M 322) (M 321 1) 1600 (.ok 0, zr_0 M) = s at *
  obtain ⟨σ, G⟩ := s
  dsimp only at *
  cases σ with
  | error e =>
    have pe : 0 < e.1 := at1
    refine tg _ (fun w => absurd (z_b_f (show ¬ zs_e (.error e) = 0 from fun c => by have : e.1 = 0 := c; omega)) w) (fun _ => ⟨-1, rfl, rfl, ?_⟩)
    have F2 : z_fix (z_up M1 30 2 0) := z_fix_i (by decide +kernel) F1
    refine model _ _ F2 (fun q a => by rw [z_upn (by omega), o1 q (by omega) (by omega) (by omega)]) (fun M3 r3 u3 v1 F3 c3 m3 => ?_)
    have n3 := (zs_m_e c3).2
    have q3 : ∀ q, q ≠ 30 → q ≠ 33 → ¬ (M 1 1 ≤ q ∧ q ≤ M 1 1 + 10) → ¬ zm_q q → M3 q = M q := fun q a c x y => by rw [r3 q y, z_upn a, o1 q a c x]
    have p3 : ∀ q, q ≠ 30 → ¬ zm_q q → M3 q = M1 q := fun q a y => by rw [r3 q y, z_upn a]
    refine gX10_gorge_4 (d := d + 200) (fun w => by omega) (fun w => by omega) (fun w => by omega) (fun _ => ⟨rfl, rfl, ?_⟩)
    refine z_R_t hR (fun q hq => ?_) F3 (fun j hj => u3 j (by unfold zm_j; omega) (by omega) (by omega) (by omega)) (z_gor_q (p3 _ (by omega) (by unfold zm_q; omega)) hg1) ⟨?_, ?_, fun i a c => ?_, fun i hi => ?_⟩
    · unfold z_rdc at hq
      exact q3 q (by omega) (by omega) (by omega) (by unfold zm_q; omega)
    · rw [r3 30 (by unfold zm_q; omega), z_ups, v1]
      exact ⟨rfl, by omega, by omega⟩
    · rw [p3 33 (by decide) (by unfold zm_q; omega), e1, e2, c3.2.1.1, c3.2.1.2]
      exact ⟨rfl, rfl⟩
    · rw [q3 31 (by decide) (by decide) (by omega) (by unfold zm_q; omega), r3 322 (by unfold zm_q; omega), z_upn (by decide), o1 322 (by decide) (by decide) (by omega)]
      exact t3 i a c
    · rw [q3 32 (by decide) (by decide) (by omega) (by unfold zm_q; omega)]
      exact t4 i hi
  | ok p =>
    have H := ok1 p rfl
    obtain ⟨zh1, zh2, zhA, zhF, zhE, zhW, zhG, zhT, zhM⟩ := id H
    have b1 : z_b (zs_e (.ok p : zs_S) = 0) ≠ 0 := by
      rw [z_b_t (show zs_e (.ok p : zs_S) = 0 from rfl)]
      decide
    refine tg _ (fun _ => ?_) (fun w => absurd b1 w)
    rw [e11]
    generalize hg : M 1 1 = g at *
    generalize hh : M 1 2 = h at *
    have hh0 : z_her M h := by
      have := (z_R_Rn hR).2.1.1
      rw [hh] at this
      exact this
    -- the class settles
    have eh1 : M1 h = M h := o1 h (by omega) (by omega) (by omega)
    generalize hMa : z_up (z_up (z_up M1 30 2 0) 1 0 g) 1 1 (M 1 0) = Ma
    have oa : ∀ q, q ≠ 30 → q ≠ 1 → Ma q = M1 q := fun q a c => by rw [← hMa, z_upn c, z_upn c, z_upn a]
    have a1 : ∀ j, j ≠ 0 → j ≠ 1 → Ma 1 j = M 1 j := fun j a c => by rw [← hMa, z_upi c rfl, z_upi a rfl, z_upn (by decide), e11]
    have a10 : Ma 1 0 = g ∧ Ma 1 1 = M 1 0 := by
      rw [← hMa]
      exact ⟨by rw [z_upi (by decide) rfl, z_ups], z_ups⟩
    have a30 : ∀ j, j ≠ 2 → Ma 30 j = M1 30 j := fun j a => by rw [← hMa, z_upn (by decide), z_upn (by decide), z_upi a rfl]
    have a302 : Ma 30 2 = 0 := by rw [← hMa, z_upn (by decide), z_upn (by decide), z_ups]
    clear hMa
    have Fa : z_fix Ma := z_fix_gen F1 (fun q i hq => by
      by_cases c1 : q = 30
      · rw [c1] at hq ⊢
        exact a30 i (by unfold z_fin at hq; omega)
      · by_cases c2 : q = 1
        · rw [c2] at hq ⊢
          rw [a1 i (by unfold z_fin at hq; omega) (by unfold z_fin at hq; omega), e11]
        · rw [oa q c1 c2])
    have hgA : z_gor Ma g := z_gor_q (oa g (by omega) (by omega)) hg1
    have hhA : z_her Ma h := by
      unfold z_her at hh0 ⊢
      rw [oa h (by omega) (by omega), eh1]
      exact hh0
    have ts := gX9_settle_0 (M := Ma) (xs := xs) (d := d + 198) (P := fun r L1 M1 => wp xs (d + 199 + 1) mX9_gorge 48 [(2, 1), (0, z_b (zs_e (.ok p : zs_S) = 0)), (2, M 1 0)] (z_ol r ++ []) L1 M1 (fun r L1 M1 => ∃ v, r = some (0, v) ∧ L1 = z_LL ∧ wp xs (d + 200) mX10_gorge 0 [(2, 321), (3, 0)] [] z_LL M1 (fun r2 L2 M2 => r2 = some (0, v) ∧ L2 = z_LL ∧ z_R M2))) Fa (by rw [a10.1]; exact hgA) (by rw [a1 2 (by decide) (by decide), hh]; exact hhA)
    rw [a10.1, a1 2 (by decide) (by decide), hh] at ts
    have og : Ma g = M1 g := oa g (by omega) (by omega)
    have hgB : z_gor (z_up Ma 34 3 g) g := z_gor_q (z_upn (by omega)) hgA
    have hhB : z_her (z_up Ma 34 3 g) h := by
      unfold z_her at hhA ⊢
      rw [z_upn (by omega)]
      exact hhA
    have eA : z_up Ma 34 3 g g = M1 g := by rw [z_upn (by omega), og]
    refine ts (s_X2_begin (d := d + 196) hhB hgB (by rw [eA, zhA.1]; exact zh2.1) (by rw [eA, zhA.2.1]; exact zh2.2.1) (fun Mb fb fb0 vb vb1 vb3 vb5 => ?_))
    rw [eA, zhA.1, zhA.2.1] at vb3
    rw [eA, zhA.2.2.2.2.2.2.2.2.2] at vb
    have e4 : z_up Ma 34 3 g (g + 4) = M1 (g + 4) := by rw [z_upn (by omega), oa _ (by omega) (by omega)]
    have e7 : z_up Ma 34 3 g (g + 7) = M1 (g + 7) := by rw [z_upn (by omega), oa _ (by omega) (by omega)]
    rw [e4] at vb1
    rw [e7] at vb3
    have Fb : z_fix Mb := z_fix_gen Fa (fun q i hq => by
      by_cases c1 : q = h
      · rw [c1] at hq ⊢
        rw [fb0 i (by unfold z_fin at hq; omega) (by unfold z_fin at hq; omega) (by unfold z_fin at hq; omega), z_upn (by omega)]
      · by_cases c2 : q = 34
        · rw [c2] at hq ⊢
          rw [fb 34 (by omega), z_upi (by unfold z_fin at hq; omega) rfl]
        · have hzk := zx_hk (z_R_k hR)
          rw [hh] at hzk
          rw [fb q (by unfold z_fin at hq; omega), z_upn c2])
    refine gX9_settle_22 (d := d + 198) Fb ?_
    generalize hM2 : z_up (z_up (z_up (z_up (z_up Mb 47 1 0) 47 2 0) 294 6 0) 1 12 0) 1 13 0 = M2
    have o2 : ∀ q, q ≠ 47 → q ≠ 294 → q ≠ 1 → M2 q = Mb q := fun q a c x => by rw [← hM2, z_upn x, z_upn x, z_upn c, z_upn a, z_upn a]
    have b1' : ∀ j, j ≠ 12 → j ≠ 13 → M2 1 j = Mb 1 j := fun j a c => by rw [← hM2, z_upi c rfl, z_upi a rfl, z_upn (by decide), z_upn (by decide), z_upn (by decide)]
    have b12 : M2 1 12 = 0 ∧ M2 1 13 = 0 := by
      rw [← hM2]
      exact ⟨by rw [z_upi (by decide) rfl, z_ups], z_ups⟩
    have b47 : (∀ j, j ≠ 1 → j ≠ 2 → M2 47 j = Mb 47 j) ∧ M2 47 1 = 0 ∧ M2 47 2 = 0 := by
      rw [← hM2]
      exact ⟨fun j a c => by rw [z_upn (by decide), z_upn (by decide), z_upn (by decide), z_upi c rfl, z_upi a rfl], by rw [z_upn (by decide), z_upn (by decide), z_upn (by decide), z_upi (by decide) rfl, z_ups], by rw [z_upn (by decide), z_upn (by decide), z_upn (by decide), z_ups]⟩
    have b294 : (∀ j, j ≠ 6 → M2 294 j = Mb 294 j) ∧ M2 294 6 = 0 := by
      rw [← hM2]
      exact ⟨fun j a => by rw [z_upn (by decide), z_upn (by decide), z_upi a rfl, z_upn (by decide), z_upn (by decide)], by rw [z_upn (by decide), z_upn (by decide), z_ups]⟩
    clear hM2
    -- what M2 is
    have all : ∀ q, q ≠ 1 → q ≠ 30 → q ≠ 33 → q ≠ 34 → q ≠ 47 → q ≠ 294 → ¬ (g ≤ q ∧ q ≤ g + 10) → ¬ (h ≤ q ∧ q ≤ h + 5) → M2 q = M q := fun q x1 x2 x3 x4 x5 x6 x7 x8 => by rw [o2 q x5 x6 x1, fb q x8, z_upn x4, oa q x2 x1, o1 q x2 x3 x7]
    have m1 : ∀ q, q ≠ 1 → q ≠ 30 → q ≠ 34 → q ≠ 47 → q ≠ 294 → ¬ (h ≤ q ∧ q ≤ h + 5) → M2 q = M1 q := fun q x1 x2 x4 x5 x6 x8 => by rw [o2 q x5 x6 x1, fb q x8, z_upn x4, oa q x2 x1]
    have c1 : ∀ j, j ≠ 0 → j ≠ 1 → j ≠ 12 → j ≠ 13 → M2 1 j = M 1 j := fun j a c x y => by rw [b1' j x y, fb 1 (by omega), z_upn (by decide), a1 j a c]
    have c10 : M2 1 0 = g ∧ M2 1 1 = M 1 0 := by
      rw [b1' 0 (by decide) (by decide), b1' 1 (by decide) (by decide), fb 1 (by omega), z_upn (by decide)]
      exact a10
    have c34 : ∀ j, j ≠ 3 → M2 34 j = M 34 j := fun j a => by rw [o2 34 (by decide) (by decide) (by decide), fb 34 (by omega), z_upi a rfl, oa 34 (by decide) (by decide), o1 34 (by decide) (by decide) (by omega)]
    have c343 : M2 34 3 = g := by rw [o2 34 (by decide) (by decide) (by decide), fb 34 (by omega), z_ups]
    have c30 : M2 30 2 = 0 := by rw [o2 30 (by decide) (by decide) (by decide), fb 30 (by omega), z_upn (by decide), a302]
    have c47 : ∀ j, j ≠ 1 → j ≠ 2 → M2 47 j = M 47 j := fun j a c => by rw [b47.1 j a c, fb 47 (by omega), z_upn (by decide), oa 47 (by decide) (by decide), o1 47 (by decide) (by decide) (by omega)]
    have c294 : ∀ j, j ≠ 6 → M2 294 j = M 294 j := fun j a => by rw [b294.1 j a, fb 294 (by omega), z_upn (by decide), oa 294 (by decide) (by decide), o1 294 (by decide) (by decide) (by omega)]
    have F2 : z_fix M2 := z_fix_gen Fb (fun q i hq => by
      by_cases x1 : q = 1
      · rw [x1] at hq ⊢
        exact b1' i (by unfold z_fin at hq; omega) (by unfold z_fin at hq; omega)
      · by_cases x2 : q = 47
        · rw [x2] at hq ⊢
          exact b47.1 i (by unfold z_fin at hq; omega) (by unfold z_fin at hq; omega)
        · by_cases x3 : q = 294
          · rw [x3] at hq ⊢
            exact b294.1 i (by unfold z_fin at hq; omega)
          · rw [o2 q x2 x3 x1])
    have hg2 : z_gor M2 g := z_gor_q (m1 g (by omega) (by omega) (by omega) (by omega) (by omega) (by omega)) hg1
    have h12 : M2 g 12 = G 321 40 := by
      rw [m1 g (by omega) (by omega) (by omega) (by omega) (by omega) (by omega)]
      exact zhA.2.2.1
    have h02 : z_gor M2 (M 1 0) := z_gor_q (all _ (by omega) (by omega) (by omega) (by omega) (by omega) (by omega) (by omega) (by omega)) g2.1
    refine gX9_gorge_48 (d := d + 200) h02 (by rw [c10.1]; exact hg2) ⟨G 321 40, by rw [c10.1, h12], rfl, ?_⟩
    refine model M2 _ F2 (fun q a => all q (by omega) (by omega) (by omega) (by omega) (by omega) (by omega) (by omega) (by omega)) (fun M3 r3 u3 v1 F3 c3 m3 => ?_)
    obtain ⟨mc, yy⟩ := m3 p rfl
    refine m_take (d := d + 199) F3 mc yy (zs_m_o c3).1 (fun M4 f4 u4 v4 n4 => ⟨rfl, rfl, ?_⟩)
    have F4 : z_fix M4 := zx_F f4 u4 F3
    have low : ∀ q, q < 321 → M4 q = M2 q := fun q a => by rw [f4 q (by omega) (by omega) (by omega) (by omega) (by omega), r3 q (by unfold zm_q; omega)]
    have hi4 : ∀ q, (q = 322 ∨ q = 329 ∨ q = 330 ∨ (343 ≤ q ∧ q ≠ 356)) → M4 q = M q := fun q a => by rw [f4 q (by omega) (by omega) (by omega) (by omega) (by omega), r3 q (by unfold zm_q; omega), all q (by omega) (by omega) (by omega) (by omega) (by omega) (by omega) (by omega) (by omega)]
    obtain ⟨⟨zz, y2, y3, y4, y5, y6⟩, y7, y8⟩ := id yy
    have C4 := zx_mc yy v4
    obtain ⟨⟨w46, w47, w48, w49, w50, w51, w52, w21, w59, w18⟩, vs, vw, vf⟩ := id v4
    obtain ⟨⟨n64, n65, n76, n68⟩, n342, n356⟩ := n4
    have cells : 4 ≤ G 321 36 * G 321 37 ∧ G 321 36 * G 321 37 ≤ 25 := zm_cr zz.1 zz.2.1
    have z3 := zz.2.2.1
    have rg : ∀ q, g ≤ q → q ≤ g + 10 → M4 q = M1 q := fun q a c => by rw [low q (by omega), m1 q (by omega) (by omega) (by omega) (by omega) (by omega) (by omega)]
    have l1 : M4 1 = M2 1 := low 1 (by decide)
    have l0 : M4 (M 1 0) = M (M 1 0) := by rw [low _ (by omega), all _ (by omega) (by omega) (by omega) (by omega) (by omega) (by omega) (by omega) (by omega)]
    have n0 : ∀ i : Int, (6 ≤ i ∧ i < 12) ∨ (18 ≤ i ∧ i < 54) ∨ (79 ≤ i ∧ i < 105) → M4 342 i = 0 := fun i hi => by rw [n342 i, if_neg (by omega), if_neg (by omega), if_neg (by omega), if_neg (by omega), if_pos (by omega)]
    have nf : ∀ f : Int, 0 ≤ f → f < G 321 40 → M4 342 f = G 333 f := fun f a c => by rw [n342 f, if_neg (by omega), if_neg (by omega), if_pos (by omega), if_pos c]
    have nm : ∀ f : Int, 0 ≤ f → f < 6 → M4 342 (12 + f) = -1 := fun f a c => by rw [n342 (12 + f), if_neg (by omega), if_neg (by omega), if_neg (by omega), if_pos (by omega)]
    have ng : ∀ c : Int, 0 ≤ c → c < 25 → M4 342 (54 + c) = if c < G 321 36 * G 321 37 then (if 0 ≤ G 331 c then G 331 c else G 321 38) else 0 := fun c a e => by
      rw [n342 (54 + c), if_neg (by omega)]
      by_cases w : c < G 321 36 * G 321 37
      · rw [if_pos (show 54 ≤ 54 + c ∧ 54 + c < 54 + G 321 36 * G 321 37 by omega), if_pos w, show 54 + c - 54 = c by omega]
      · rw [if_neg (show ¬ (54 ≤ 54 + c ∧ 54 + c < 54 + G 321 36 * G 321 37) by omega), if_neg w, if_neg (by omega), if_neg (by omega), if_pos (by omega)]
    refine ⟨⟨F4, C4, ?_, ?_⟩, ⟨?_, ?_, ?_, ?_, ?_, ?_⟩, ⟨?_, ?_, ?_⟩, ⟨?_, ?_, ?_, ?_, ?_⟩, ?_, ⟨?_, ?_, ?_⟩, ⟨?_, ?_, ?_, ?_⟩, ⟨?_, ?_, ?_, ?_⟩, ?_⟩
    · -- the formula
      unfold z_fp
      rw [w59, w18]
      intro w
      obtain ⟨q1, q2, q3, q4⟩ := y8.2.2 w
      have eq : ∀ j : Nat, (j : Int) < G 321 17 → M4 326 j = G 324 j ∧ M4 327 j = G 325 j := fun j hj => vs j (by omega) hj
      refine ⟨q1, by omega, ?_, fun k k1 => zf_fw0 (fun j hj => ⟨((eq j (by omega)).1).symm, ((eq j (by omega)).2).symm⟩) (q4 k k1)⟩
      rw [zf_ht0 _ (fun j hj => (eq j (by omega)).1)]
      exact q3
    · intro a c a1 a2 c1 c2
      rw [w48] at a2 c2
      rw [(vf a a1 (by omega)).2.2.2, (vf c c1 (by omega)).2.2.2]
      have := y5 a c a1 a2 c1 c2
      unfold z_bt at this
      omega
    · rw [low 34 (by decide), c343, l1, c10.1]
    · rw [l1, c10.1]
      have Eg : M4 g = M1 g := rg g (by omega) (by omega)
      refine ⟨z_gor_q Eg hg1, ⟨by rw [Eg, w46]; exact zhA.1, by rw [Eg, w47]; exact zhA.2.1, by rw [Eg, w48]; exact zhA.2.2.1, by rw [Eg, w50]; exact zhA.2.2.2.2.2.2.1, by rw [Eg, w51]; exact zhA.2.2.2.2.2.2.2.1, by rw [Eg, w52]; exact zhA.2.2.2.2.2.2.2.2.1⟩, fun f f1 f2 => ?_, fun c x1 x2 => ?_, fun w => ?_, fun w => ?_⟩
      · rw [w48] at f2
        obtain ⟨a1, a2, a3, a4⟩ := vf f f1 (by omega)
        obtain ⟨q1, q2, q3⟩ := zhF f f1 f2
        have qe := zhE f f1 (by omega)
        rw [if_pos f2] at qe
        refine ⟨by rw [rg _ (by omega) (by omega), q1, a1], by rw [rg _ (by omega) (by omega), q2, a3], by rw [rg _ (by omega) (by omega), q3, a2], by rw [rg _ (by omega) (by omega), qe, a4], fun o x1 x2 => ?_, fun c x1 x2 => ?_⟩
        · rw [w48] at x2
          have qw := zhW f o f1 (by omega) x1 (by omega)
          rw [if_pos ⟨f2, x2⟩] at qw
          rw [rg _ (by omega) (by omega), qw, vw (6 * f + o) (by omega) (by omega)]
        · rw [w46, w47] at x2
          have hm := (y2 f f1 f2).2.1
          have qm := (zhM c x1 x2).2 f f1 (by rw [zhA.2.2.1]; exact f2) (by rw [q3]; omega) (by rw [q3]; omega)
          rw [rg _ (by omega) (by omega), w46, a2, qm, zhA.1, q3]
      · rw [w46, w47] at x2
        have qm := (zhM c x1 x2).1
        rw [zhA.1, zhA.2.1] at qm
        rw [rg (g + 9) (by omega) (by omega), w46, w47]
        exact qm
      · rw [w59] at w
        rw [Eg, zhA.2.2.2.2.2.1]
        exact (y8.2.1 w).1
      · rw [w59] at w
        obtain ⟨q1, q2, q3, q4⟩ := y8.2.2 w
        refine ⟨by rw [Eg, w18]; exact zhA.2.2.2.2.2.1, by rw [w18]; exact q2, fun k k1 => ?_⟩
        rw [w18] at k1
        have ev := vs k (by omega) k1
        rw [rg (g + 8) (by omega) (by omega), ev.1, ev.2]
        exact zhT k k1
    · rw [l1, c10.2]
      exact z_gor_q l0 g2.1
    · rw [l1, c10.1, c10.2]
      exact fun w => g4 w.symm
    · rw [l1, c10.1, rg g (by omega) (by omega), w49]
      exact zhA.2.2.2.1
    · rw [l1, c10.1, rg g (by omega) (by omega), w21]
      exact zhA.2.2.2.2.1
    · rw [l1, c1 2 (by decide) (by decide) (by decide) (by decide)]
      exact z_R_k hR
    · -- the herds
      rw [l1, c1 2 (by decide) (by decide) (by decide) (by decide), hh]
      have rh : ∀ q, h + 1 ≤ q → q ≤ h + 5 → M4 q = Mb q := fun q a c => by rw [low q (by omega), o2 q (by omega) (by omega) (by omega)]
      have Eh : M4 h = Mb h := by rw [low h (by omega), o2 h (by omega) (by omega) (by omega)]
      refine ⟨?_, fun f f1 f2 => ?_, fun c x1 x2 => ?_, fun a c a1 a2 a3 => ?_, ?_, ?_, ?_⟩
      · refine ⟨hh0.1, fun k k1 k2 => ?_⟩
        rw [Eh, fb0 k (by omega) (by omega) (by omega), z_upn (by omega), oa h (by omega) (by omega), eh1]
        exact hh0.2 k k1 k2
      · rw [w48] at f2
        have vb1' := vb1 f f1 (by omega)
        rw [rh (h + 1) (by omega) (by omega), rh (h + 2) (by omega) (by omega), vb1'.1, vb1'.2, (zhF f f1 f2).2.2, nf f f1 f2, nm f f1 (by omega)]
        exact ⟨rfl, rfl⟩
      · have vb3' := vb3 c x1 x2
        rw [rh (h + 3) (by omega) (by omega), rh (h + 4) (by omega) (by omega), vb3'.1, vb3'.2, ng c x1 x2, n0 (79 + c) (by omega)]
        refine ⟨?_, rfl⟩
        by_cases w : c < G 321 36 * G 321 37
        · have gb := y3 c x1 x2
          rw [if_pos w, if_pos w, zhG c x1 x2]
          by_cases w2 : G 331 c = -1
          · rw [if_pos w2, if_neg (by omega)]
          · rw [if_neg w2, if_pos (by omega)]
        · rw [if_neg w, if_neg w]
      · rw [w48] at a3
        rw [rh (h + 5) (by omega) (by omega), vb5 (6 * a + c) (by omega) (by omega), n0 (18 + 6 * a + c) (by omega), n0 (18 + 6 * c + a) (by omega)]
        exact ⟨rfl, rfl⟩
      · rw [Eh, vb.1, w48]
        exact (z_pens_0 _ (fun f a c => n0 (6 + f) (by omega))).symm
      · rw [Eh, vb.2.1, n0 104 (by omega)]
      · rw [Eh, vb.2.2, n342 105, if_pos rfl]
    · -- a sound day
      refine ⟨fun f f1 f2 => ?_, fun c x1 x2 => ?_, fun k k1 k2 => ?_, ?_, ?_, fun a c a1 a2 a3 a4 _ => n0 _ (by rw [w48] at a2 a4; omega)⟩
      · rw [w48] at f2 ⊢
        rw [nf f f1 f2, nm f f1 (by omega), n0 (6 + f) (by omega), w46, w47]
        exact ⟨(y2 f f1 f2).2.1, Or.inl rfl, by omega, by omega⟩
      · rw [ng c x1 x2, n0 (79 + c) (by omega), w46, w47]
        have gb := y3 c x1 x2
        have g38 := y4.1
        refine ⟨?_, ⟨by decide, by decide⟩, fun w => if_neg (by omega)⟩
        split
        · split <;> omega
        · omega
      · rw [n0 k (by omega), n0 104 (by omega)]
        exact ⟨Int.le_refl _, Int.le_refl _⟩
      · rw [n0 104 (by omega)]
        decide
      · rw [n342 105, if_pos rfl]
        have := y4.2.2.2.2
        omega
    · -- kept herds
      obtain ⟨p1, p2, p3, p4, p5⟩ := z_R_Rp hR
      have e48 : M4 48 = M 48 := by rw [low 48 (by decide), all 48 (by decide) (by decide) (by decide) (by decide) (by decide) (by decide) (by omega) (by omega)]
      have hzk := zx_hk (z_R_k hR)
      rw [hh] at hzk
      intro i i1 i2
      rw [e48, l1, c1 2 (by decide) (by decide) (by decide) (by decide), hh]
      obtain ⟨x, y, z⟩ := p1 i i1 i2
      rw [hh] at z
      refine ⟨x, ?_, z⟩
      have xk := zx_hk x
      refine z_her_q ?_ y
      rw [low _ (by omega), all _ (by omega) (by omega) (by omega) (by omega) (by omega) (by omega) (by omega) (by omega)]
    · obtain ⟨p1, p2, p3, p4, p5⟩ := z_R_Rp hR
      have e48 : M4 48 = M 48 := by rw [low 48 (by decide), all 48 (by decide) (by decide) (by decide) (by decide) (by decide) (by decide) (by omega) (by omega)]
      rw [e48]
      exact p2
    · rw [low 47 (by decide), b47.2.1, b47.2.2, n64, n65]
      exact ⟨rfl, rfl⟩
    · rw [n64, n65]
      decide
    · rw [n64, n65]
      intro i i1 i2
      omega
    · intro b b0 b3
      rw [n356 b b0 b3, l1, b12.1]
      exact ⟨Or.inl rfl, ⟨fun w => absurd w (by decide), fun w => absurd w (z_bt_0 ⟨b0, by omega⟩)⟩, fun w => absurd w (by decide)⟩
    · rw [low 294 (by decide), b294.2, n76]
      decide
    · have := (z_R_Rs hR).2.1
      rw [low 294 (by decide), c294 7 (by decide), u4 77 (by omega), u3 77 (by unfold zm_j; omega) (by decide) (by decide) (by decide)]
      exact this
    · rw [n76]
      intro i i1 i2
      omega
    · rw [l1, b12.2, n68]
    · rw [n68]
      decide
    · rw [n68]
      decide
    · rw [n68]
      intro i i1 i2
      omega
    · rw [low 30 (by decide), c30, u4 1 (by omega), v1]
      decide
    · rw [low 33 (by decide), m1 33 (by decide) (by decide) (by decide) (by decide) (by decide) (by omega), e1, e2, u4 2 (by omega), u4 3 (by omega), c3.2.1.1, c3.2.1.2]
      exact ⟨rfl, rfl⟩
    · intro i i1 i2
      rw [hi4 322 (by omega), low 31 (by decide), all 31 (by decide) (by decide) (by decide) (by decide) (by decide) (by decide) (by omega) (by omega)]
      exact t3 i i1 i2
    · intro i i1
      rw [low 32 (by decide), all 32 (by decide) (by decide) (by decide) (by decide) (by decide) (by decide) (by omega) (by omega)]
      exact t4 i i1
    · intro k k1
      have := hR.2.2.2.2.2.2.2.2 k k1
      have e342 : M3 342 = M 342 := by rw [r3 342 (by unfold zm_q; omega), all 342 (by decide) (by decide) (by decide) (by decide) (by decide) (by decide) (by omega) (by omega)]
      rw [hi4 343 (by omega), n342 k, if_neg (by omega), if_neg (by omega), if_neg (by omega), if_neg (by omega), if_neg (by omega), e342]
      exact this
end
