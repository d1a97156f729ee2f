/-! THE MODEL READS LINES: flock, wants, feud -/
section
variable {xs : List Int} {d : Nat} {M M' G : z_M} {b : Int → Int} {n p : Int} {σ : zs_S}
/-- on behind a token, where all is sound -/
theorem m_tok {P : Option z_V → z_L → z_M → Prop} {i : Int} (hF : z_fix M) (h : zs_m M b n σ) (hi : ∀ q, σ = .ok q → zt_k b n q = i) (hi2 : i ≠ 27) (h0 : M 321 2 = 0) (k : ∀ M' : z_M, zs_h M M' → zs_m M' b n (zs_nd b n i σ) → P none z_LL M') : wp xs (d + 1) mX10_token 0 [(2, 321), (3, 0), (3, 0)] [] z_LL M P := by
  cases σ with
  | error e => exact absurd h0 (zs_m_e h).1
  | ok q =>
    have hk := hi q rfl
    refine s_X10_next hF h (by omega) (fun M1 f1 c1 => k M1 f1 ?_)
    show zs_m M1 b n (if zt_k b n q = i then _ else _)
    rw [if_pos hk]
    exact c1
theorem zs_od_24 {N : Int → Int} {c : Nat} {q : Int} (h : zs_od b n N c σ = .ok q) : zt_k b n q = 24 := by
  cases σ with
  | error e => cases h
  | ok r =>
    have h2 := (zs_od_k h).1
    obtain rfl : r = q := by injection h2
    change (if zt_k b n r = 24 then _ else _) = Except.ok r at h
    split at h
    · assumption
    · cases h
theorem zs_nd_e {i : Int} {e : Int × Int} (h : σ = .error e) : zs_nd b n i σ = σ := by
  rw [h]
  rfl
/-- two flocks told by their names -/
theorem m_two {P : Option z_V → z_L → z_M → Prop} {μ : z_D} {p20 p24 : Nat} {ls20 : Int → List z_V} {ls : List z_V} (hF : z_fix M) (h : zs_m M b n (.ok p)) (hz : zg_z G) (hm : zm_c M G) (hp : ∀ (v : Int) (M2 : z_M), (M2 321 2 ≠ 0 → wp xs (d + 6) μ p20 (ls20 v) [] z_LL M2 P) → (M2 321 2 = 0 → wp xs (d + 5) mX10_token 0 [(2, 321), (3, 0), (3, 0)] [] z_LL M2 (fun r L1 M1 => wp xs (d + 6) μ p20 (ls20 v) (z_ol r ++ []) L1 M1 P)) → wp xs (d + 6) μ p24 ls [(0, v)] z_LL M2 P) (k : ∀ (v : Int) (M3 : z_M), zs_h M M3 → zs_m M3 b n (zb_1 b n (.ok p) G) → (∀ q, zs_od b n (G 323) (G 321 40).toNat (.ok p) = .ok q → v = zb_a b n (.ok p) G) → wp xs (d + 6) μ p20 (ls20 v) [] z_LL M3 P) : wp xs (d + 5) mX10_oldFlock 0 [(2, 321)] [] z_LL M (fun r L1 M1 => wp xs (d + 6) μ p24 ls (z_ol r ++ []) L1 M1 P) := by
  have h40 := zg_40 hz
  have z3 := hz.2.2.1
  refine s_X10_oldFlock (d := d + 3) (c := (G 321 40).toNat) hF (by rw [hm.1 40 (by unfold zm_d; omega)]; exact h40) (by omega) h (fun v M2 f2 c2 e2 _ => ?_)
  rw [hm.2.2.2.1] at c2 e2
  have b2 := zm_b_h f2
  refine hp v M2 (fun w => ?_) (fun w => ?_)
  · cases hr : zs_od b n (G 323) (G 321 40).toNat (.ok p) with
    | error e =>
      refine k v M2 f2 ?_ (fun q hq => by rw [hr] at hq; cases hq)
      unfold zb_1
      rw [zs_nd_e hr]
      exact c2
    | ok q =>
      rw [hr] at c2
      exact absurd (zs_m_o c2).1 w
  · refine m_tok (d := d + 4) (i := 24) (zm_b_F b2 hF) c2 (fun q hq => zs_od_24 hq) (by decide) w (fun M3 f3 c3 => k v M3 (zs_h_t f2 f3) c3 (fun q hq => e2 q hq))
theorem m_wants {P : Option z_V → z_L → z_M → Prop} (hF : z_fix M) (h : zs_m M b n (.ok p)) (hk : zt_k b n p ≠ 27) (hz : zg_z G) (hw : ∀ f o : Int, 0 ≤ f → f < G 321 40 → 0 ≤ o → o < G 321 40 → -1 ≤ G 335 (6 * f + o)) (hm : zm_c M G) (k : ∀ M' : z_M, zm_b M M' → zj b n M' (zb_wants b n (.ok (zt_x b n p)) G) → P none z_LL M') : wp xs (d + 6) mX10_readWants 0 [(2, 321), (3, 0), (3, 0), (3, 0)] [] z_LL M P := by
  have h40 := zg_40 hz
  have z3 := hz.2.2.1
  refine gX10_readWants_0 (d := d + 5) (s_X10_next (d := d + 4) hF h hk (fun M1 f1 c1 => ?_))
  generalize hp1 : zt_x b n p = p1 at *
  have m1 := zm_c_h hm f1
  have F1 := zm_b_F (zm_b_h f1) hF
  refine gX10_readWants_4 (d := d + 5) (m_two (ls20 := fun v => [(2, 321), (0, v), (3, 0), (3, 0)]) F1 c1 hz m1 (fun v M2 ha hb => gX10_readWants_8 (d := d + 5) ha (fun w => hb (Classical.byContradiction w))) (fun v1 M3 f3 c3 e1 => ?_))
  have m3 := zm_c_h m1 f3
  have f13 := zs_h_t f1 f3
  have F3 := zm_b_F (zm_b_h f13) hF
  refine gX10_readWants_20 (d := d + 5) ?_
  refine s_X10_oldFlock (d := d + 3) (c := (G 321 40).toNat) F3 (by rw [m3.1 40 (by unfold zm_d; omega)]; exact h40) (by omega) c3 (fun v3 M4 f4 c4 e4 _ => ?_)
  rw [m3.2.2.2.1] at c4 e4
  have m4 := zm_c_h m3 f4
  have f14 := zs_h_t f13 f4
  have F4 := zm_b_F (zm_b_h f14) hF
  change zs_m M4 b n (zb_2 b n (.ok p1) G) at c4
  change ∀ p', zb_2 b n (.ok p1) G = .ok p' → v3 = zb_b b n (.ok p1) G at e4
  have j77 : ∀ M7 : z_M, zs_h M4 M7 → zs_m M7 b n (zb_w4 b n (.ok p1) G) → wp xs (d + 6) mX10_readWants 77 [(2, 321), (0, v1), (0, v3), (3, 0)] [] z_LL M7 P := fun M7 f7 c7 => by
    have m7 := zm_c_h m4 f7
    have b7 := zm_b_h (zs_h_t f14 f7)
    refine gX10_readWants_77 (d := d + 5) (s_X10_toldNumber (d := d + 3) (zm_b_F b7 hF) c7 (fun v8 M8 f8 c8 e8 => ?_))
    have m8 := zm_c_h m7 f8
    have b8 := zm_b_t b7 (zm_b_h f8)
    have t := gX10_readWants_84 (M := M8) (xs := xs) (d := d + 6) (P := P) (x1 := v1) (x2 := v3) (s0 := v8) (zm_b_F b8 hF)
    change zs_m M8 b n (zb_wants b n (.ok p1) G).1 at c8
    cases hr : (zb_wants b n (.ok p1) G).1 with
    | error e =>
      rw [hr] at c8
      have n8 := zs_m_e c8
      exact t (fun _ => k M8 b8 ⟨by rw [hr]; exact c8, fun q hq => by rw [hr] at hq; cases hq⟩) (fun w => absurd n8.1 w) (fun w => absurd n8.1 w)
    | ok q8 =>
      obtain ⟨⟨q7, h7⟩, -⟩ := zs_nm_k hr
      obtain ⟨q6, h6⟩ := zs_nd_k h7
      have h5 := (zs_ck_k h6).1
      obtain ⟨ra, rb, ⟨q1, hq1⟩, -⟩ := zb_2_k h5
      have va := e1 q1 hq1
      have vb := e4 _ h5
      have v8e := e8 q8 hr
      rw [hr] at c8
      have n8 := (zs_m_o c8).1
      rw [← va] at ra
      rw [← vb] at rb
      rw [z_wid (x := 6 * v1) (by omega), z_wid (x := 6 * v1 + v3) (by omega)] at t
      refine t (fun w => absurd n8 w) (fun _ => by omega) (fun _ => k _ (zm_b_t b8 (zm_b_u (by unfold zm_q; omega) (by omega))) ⟨by rw [hr]; exact zs_m_u (by decide) (by omega) c8, fun q hq => ?_⟩)
      have er : (zb_wants b n (.ok p1) G).2 = z_up G 335 (6 * v1 + v3) v8 := by
        rw [va, vb, v8e]
        rfl
      rw [er]
      exact zm_c_u (by omega) m8
  have j66 : ∀ M5 : z_M, zs_h M4 M5 → zs_m M5 b n (zs_ck b n (G 332 (zb_a b n (.ok p1) G) = G 332 (zb_b b n (.ok p1) G) ∨ G 335 (6 * zb_a b n (.ok p1) G + zb_b b n (.ok p1) G) ≠ -1) (zb_2 b n (.ok p1) G)) → wp xs (d + 6) mX10_readWants 66 [(2, 321), (0, v1), (0, v3), (3, 0)] [] z_LL M5 P := fun M5 f5 c5 => by
    have b5 := zm_b_h (zs_h_t f14 f5)
    refine gX10_readWants_66 (d := d + 5) (fun w => ?_) (fun w => ?_)
    · refine j77 M5 f5 ?_
      unfold zb_w4
      cases hr : zs_ck b n (G 332 (zb_a b n (.ok p1) G) = G 332 (zb_b b n (.ok p1) G) ∨ G 335 (6 * zb_a b n (.ok p1) G + zb_b b n (.ok p1) G) ≠ -1) (zb_2 b n (.ok p1) G) with
      | error e =>
        rw [hr] at c5
        exact c5
      | ok q =>
        rw [hr] at c5
        exact absurd (zs_m_o c5).1 w
    · refine m_tok (d := d + 4) (i := 24) (zm_b_F b5 hF) c5 (fun q hq => ?_) (by decide) (Classical.byContradiction w) (fun M6 f6 c6 => j77 M6 (zs_h_t f5 f6) c6)
      exact (zb_2_k (zs_ck_k hq).1).2.2.2
  have t := gX10_readWants_24 (M := M4) (xs := xs) (d := d + 6) (P := P) (x1 := v1) (s0 := v3) F4
  rw [m4.2.2.2.2.1, m4.2.2.2.2.2.2.2.1] at t
  cases hr : zb_2 b n (.ok p1) G with
  | error e =>
    rw [hr] at c4 j66
    have n4 := (zs_m_e c4).1
    exact t (fun _ => j66 M4 zs_h_r c4) (fun w => absurd n4 w) (fun w => absurd n4 w) (fun w => absurd n4 w) (fun w => absurd n4 w) (fun w => absurd n4 w) (fun w => absurd n4 w)
  | ok q =>
    obtain ⟨ra, rb, ⟨q1, hq1⟩, k24⟩ := zb_2_k hr
    have va := e1 q1 hq1
    have vb := e4 q hr
    rw [hr] at c4 j66
    have n4 := (zs_m_o c4).1
    rw [← va, ← vb] at j66
    rw [← va] at ra
    rw [← vb] at rb
    have lo := hw v1 v3 (by omega) (by omega) (by omega) (by omega)
    rw [z_wid (x := 6 * v1) (by omega), z_wid (x := 6 * v1 + v3) (by omega)] at t
    have bad : (G 332 v1 = G 332 v3 ∨ G 335 (6 * v1 + v3) ≠ -1) → wp xs (d + 6) mX10_readWants 61 [(2, 321), (0, v1), (0, v3), (3, 0)] [] z_LL M4 P := fun w => by
      refine gX10_readWants_61 (d := d + 5) (s_X10_wrong c4 (by decide) (fun M5 f5 c5 => j66 M5 f5 ?_))
      have e4 : zs_w b n 3 (.ok q) = .error (3, zt_s b n q) := by
        show Except.error (zs_f b n q 3) = _
        unfold zs_f
        rw [if_neg (by omega)]
      rw [e4] at c5
      show zs_m M5 b n (@ite _ _ (Classical.propDecidable _) _ _)
      rw [if_pos w]
      exact c5
    refine t (fun w => absurd n4 w) (fun _ => by omega) (fun _ => by omega) (fun _ w => bad (Or.inl w)) (fun _ _ => by omega) (fun _ w1 w2 => j66 M4 zs_h_r ?_) (fun _ _ w => bad (Or.inr (by omega)))
    show zs_m M4 b n (@ite _ _ (Classical.propDecidable _) _ _)
    rw [if_neg (fun c => c.elim w1 (fun c => c (by omega)))]
    exact c4
theorem m_feud {P : Option z_V → z_L → z_M → Prop} (hF : z_fix M) (h : zs_m M b n (.ok p)) (hk : zt_k b n p ≠ 27) (hz : zg_z G) (hm : zm_c M G) (k : ∀ M' : z_M, zm_b M M' → zj b n M' (zb_feud b n (.ok (zt_x b n p)) G) → P none z_LL M') : wp xs (d + 6) mX10_readFeud 0 [(2, 321), (3, 0), (3, 0)] [] z_LL M P := by
  have h40 := zg_40 hz
  have z3 := hz.2.2.1
  have z41 := hz.2.2.2.2.1.2.1
  refine gX10_readFeud_0 (d := d + 5) (s_X10_next (d := d + 4) hF h hk (fun M1 f1 c1 => ?_))
  generalize hp1 : zt_x b n p = p1 at *
  have m1 := zm_c_h hm f1
  have F1 := zm_b_F (zm_b_h f1) hF
  refine gX10_readFeud_4 (d := d + 5) (m_two (ls20 := fun v => [(2, 321), (0, v), (3, 0)]) F1 c1 hz m1 (fun v M2 ha hb => gX10_readFeud_8 (d := d + 5) ha (fun w => hb (Classical.byContradiction w))) (fun v1 M3 f3 c3 e1 => ?_))
  have m3 := zm_c_h m1 f3
  have f13 := zs_h_t f1 f3
  have F3 := zm_b_F (zm_b_h f13) hF
  refine gX10_readFeud_20 (d := d + 5) ?_
  refine s_X10_oldFlock (d := d + 3) (c := (G 321 40).toNat) F3 (by rw [m3.1 40 (by unfold zm_d; omega)]; exact h40) (by omega) c3 (fun v3 M4 f4 c4 e4 _ => ?_)
  rw [m3.2.2.2.1] at c4 e4
  have m4 := zm_c_h m3 f4
  have f14 := zs_h_t f13 f4
  have F4 := zm_b_F (zm_b_h f14) hF
  change zs_m M4 b n (zb_2 b n (.ok p1) G) at c4
  change ∀ p', zb_2 b n (.ok p1) G = .ok p' → v3 = zb_b b n (.ok p1) G at e4
  have j56 : ∀ M5 : z_M, zs_h M4 M5 → zs_m M5 b n (zs_ck b n (zb_a b n (.ok p1) G = zb_b b n (.ok p1) G ∨ ¬ z_and (z_shr (G 336 (zb_a b n (.ok p1) G)) (zb_b b n (.ok p1) G)) 1 = 0) (zb_2 b n (.ok p1) G)) → wp xs (d + 6) mX10_readFeud 56 [(2, 321), (0, v1), (0, v3)] [] z_LL M5 P := fun M5 f5 c5 => by
    have m5 := zm_c_h m4 f5
    have b5 := zm_b_h (zs_h_t f14 f5)
    have F5 := zm_b_F b5 hF
    have t := gX10_readFeud_56 (M := M5) (xs := xs) (d := d + 5) (P := P) (x1 := v1) (x2 := v3) F5
    cases hr : zs_ck b n (zb_a b n (.ok p1) G = zb_b b n (.ok p1) G ∨ ¬ z_and (z_shr (G 336 (zb_a b n (.ok p1) G)) (zb_b b n (.ok p1) G)) 1 = 0) (zb_2 b n (.ok p1) G) with
    | error e =>
      rw [hr] at c5
      have n5 := zs_m_e c5
      have er : (zb_feud b n (.ok p1) G).1 = .error e := by
        unfold zb_feud
        dsimp only
        rw [hr]
        rfl
      exact t (fun w => by omega) (fun w => by omega) (fun w => by omega) (fun _ => k M5 b5 ⟨by rw [er]; exact c5, fun q hq => by rw [er] at hq; cases hq⟩)
    | ok q =>
      have h5 := (zs_ck_k hr).1
      obtain ⟨ra, rb, ⟨q1, hq1⟩, k24⟩ := zb_2_k h5
      have va := e1 q1 hq1
      have vb := e4 _ h5
      rw [hr] at c5
      have n5 := (zs_m_o c5).1
      have er : (zb_feud b n (.ok p1) G).1 = .ok (zt_x b n q) := by
        unfold zb_feud
        dsimp only
        rw [hr]
        show (if zt_k b n q = 24 then _ else _) = _
        rw [if_pos k24]
      have e41 := m5.1 41 (by unfold zm_d; omega)
      have e336 := m5.2.2.2.2.2.2.2.2
      rw [e41, z_wid (x := G 321 41 + 1) (by omega)] at t
      have eG : (zb_feud b n (.ok p1) G).2 = zb_fo G v1 v3 := by
        rw [va, vb]
        rfl
      rw [← va] at ra
      rw [← vb] at rb
      have e1' : M5 336 v1 = G 336 v1 := by rw [e336]
      have mm : zm_c (z_up (z_up (z_up M5 336 v1 (z_or (M5 336 v1) (z_shl 1 v3))) 336 v3 (z_or ((z_up M5 336 v1 (z_or (M5 336 v1) (z_shl 1 v3))) 336 v3) (z_shl 1 v1))) 321 41 (G 321 41 + 1)) (zb_fo G v1 v3) := by
        have e2' : z_up M5 336 v1 (z_or (G 336 v1) (z_shl 1 v3)) 336 v3 = z_up G 336 v1 (z_or (G 336 v1) (z_shl 1 v3)) 336 v3 := zup_p (by rw [e336])
        rw [e1', e2']
        exact zm_c_u (by omega) (zm_c_u (by omega) (zm_c_u (by omega) m5))
      have bb : zm_b M5 (z_up (z_up (z_up M5 336 v1 (z_or (M5 336 v1) (z_shl 1 v3))) 336 v3 (z_or ((z_up M5 336 v1 (z_or (M5 336 v1) (z_shl 1 v3))) 336 v3) (z_shl 1 v1))) 321 41 (G 321 41 + 1)) := zm_b_t (zm_b_t (zm_b_u (by unfold zm_q; omega) (by omega)) (zm_b_u (by unfold zm_q; omega) (by omega))) (zm_b_u (by unfold zm_q; omega) (fun _ => by unfold zm_j; omega))
      refine t (fun _ => by omega) (fun _ => by omega) (fun _ => ?_) (fun w => by omega)
      refine s_X10_next (d := d + 4) (zm_b_F bb F5) (zs_m_u (by decide) (by omega) (zs_m_u (by decide) (by omega) (zs_m_u (by decide) (by omega) c5))) (by omega) (fun M6 f6 c6 => ?_)
      refine gX10_readFeud_102 (k M6 (zm_b_t (zm_b_t b5 bb) (zm_b_h f6)) ⟨by rw [er]; exact c6, fun q' hq => ?_⟩)
      rw [eG]
      exact zm_c_h mm f6
  have t := gX10_readFeud_24 (M := M4) (xs := xs) (d := d + 6) (P := P) (x1 := v1) (s0 := v3) F4
  rw [m4.2.2.2.2.2.2.2.2] at t
  cases hr : zb_2 b n (.ok p1) G with
  | error e =>
    rw [hr] at c4 j56
    have n4 := (zs_m_e c4).1
    exact t (fun _ => j56 M4 zs_h_r c4) (fun w => absurd n4 w) (fun w => absurd n4 w) (fun w => absurd n4 w) (fun w => absurd n4 w)
  | ok q =>
    obtain ⟨ra, rb, ⟨q1, hq1⟩, k24⟩ := zb_2_k hr
    have va := e1 q1 hq1
    have vb := e4 q hr
    rw [hr] at c4 j56
    have n4 := (zs_m_o c4).1
    rw [← va, ← vb] at j56
    rw [← va] at ra
    rw [← vb] at rb
    have b01 : z_and (z_shr (G 336 v1) v3) 1 = 0 ∨ z_and (z_shr (G 336 v1) v3) 1 = 1 := by
      rw [z_bt_01 ⟨by omega, by omega⟩]
      exact z_b_01
    have bad : (v1 = v3 ∨ ¬ z_and (z_shr (G 336 v1) v3) 1 = 0) → wp xs (d + 6) mX10_readFeud 51 [(2, 321), (0, v1), (0, v3)] [] z_LL M4 P := fun w => by
      refine gX10_readFeud_51 (d := d + 5) (s_X10_wrong c4 (by decide) (fun M5 f5 c5 => j56 M5 f5 ?_))
      have e4 : zs_w b n 3 (.ok q) = .error (3, zt_s b n q) := by
        show Except.error (zs_f b n q 3) = _
        unfold zs_f
        rw [if_neg (by omega)]
      rw [e4] at c5
      show zs_m M5 b n (@ite _ _ (Classical.propDecidable _) _ _)
      rw [if_pos w]
      exact c5
    refine t (fun w => absurd n4 w) (fun _ w => bad (Or.inl w)) (fun _ _ => by omega) (fun _ w1 w2 => j56 M4 zs_h_r ?_) (fun _ _ w => bad (Or.inr (by omega)))
    show zs_m M4 b n (@ite _ _ (Classical.propDecidable _) _ _)
    rw [if_neg (fun c => c.elim w1 (fun c => c (by omega)))]
    exact c4
theorem m_flock {P : Option z_V → z_L → z_M → Prop} (hF : z_fix M) (h : zs_m M b n (.ok p)) (hk : zt_k b n p ≠ 27) (hz : zg_z G) (h6 : G 321 40 < 6) (hm : zm_c M G) (k : ∀ M' : z_M, zm_b M M' → zj b n M' (zb_flock b n (zt_x b n p) G) → P none z_LL M') : wp xs (d + 6) mX10_readFlock 0 [(2, 321), (3, 0), (3, 0), (3, 0)] [] z_LL M P := by
  have h40 := zg_40 hz
  obtain ⟨z1, z2, z3, z4, z5, z6, z7⟩ := id hz
  refine gX10_readFlock_0 (d := d + 5) (s_X10_next (d := d + 4) hF h hk (fun M1 f1 c1 => ?_))
  generalize hp1 : zt_x b n p = p1 at *
  have m1 := zm_c_h hm f1
  have b1 := zm_b_h f1
  have F1 := zm_b_F b1 hF
  have e40 : M1 321 40 = G 321 40 := m1.1 40 (by unfold zm_d; omega)
  obtain ⟨n1, np1, s16, -, s19⟩ := zs_m_o c1
  have kw : zt_k b n p1 = 24 → z_glt (zt_l b n p1) := fun w => (zt_k_w (b := b) (n := n) (p := p1) (by omega) np1).1
  generalize hc : G 321 40 = c at *
  generalize hw : z_c8 (zt_l b n p1) = w0 at *
  -- from the place on
  have tail2 : ∀ M5 : z_M, zm_b M M5 → zs_m M5 b n (zb_f3 b n p1 G) → (M5 321 36 = G 321 36 ∧ M5 321 37 = G 321 37 ∧ M5 321 40 = c) → (∀ q, zb_f3 b n p1 G = .ok q → zm_c M5 (z_up (z_up G 323 c w0) 332 c (zb_fs b n p1 G))) → wp xs (d + 6) mX10_readFlock 110 [(2, 321), (0, c), (3, 0), (3, 0)] [] z_LL M5 P := fun M5 b5 c5 x5 m5 => by
    have t5 := gX10_readFlock_110 (M := M5) (xs := xs) (d := d + 5) (P := P) (x1 := c)
    rw [x5.1, z_wid (x := G 321 36 - 1) (by omega)] at t5
    refine t5 (s_X10_told (d := d + 2) (i := 7) (zm_b_F b5 hF) (by decide) (by decide) c5 (fun v6 M6 f6 c6 e6 => ?_))
    have x6 : M6 321 36 = G 321 36 ∧ M6 321 37 = G 321 37 ∧ M6 321 40 = c := ⟨by rw [f6.2 36 (by unfold zs_j; omega)]; exact x5.1, by rw [f6.2 37 (by unfold zs_j; omega)]; exact x5.2.1, by rw [f6.2 40 (by unfold zs_j; omega)]; exact x5.2.2⟩
    have b6 := zm_b_t b5 (zm_b_h f6)
    have t6 := gX10_readFlock_124 (M := M6) (xs := xs) (d := d + 5) (P := P) (x1 := c) (s0 := v6) (zm_b_F b6 hF)
    rw [x6.1, x6.2.1, z_wid (x := G 321 37 - 1) (by omega)] at t6
    refine t6 (s_X10_toldNumber (d := d + 3) (zm_b_F b6 hF) c6 (fun v7 M7 f7 c7 e7 => ?_))
    have x7 : M7 321 40 = c := by rw [f7.2 40 (by unfold zs_j; omega)]; exact x6.2.2
    have b7 := zm_b_t b6 (zm_b_h f7)
    refine gX10_readFlock_145 (d := d + 5) (zm_b_F b7 hF) (by omega) ?_
    generalize hh : z_w (z_w (G 321 36 * v7) + v6) = home
    have b7' := zm_b_t b7 (zm_b_u (q := 333) (j := c) (v := home) (by unfold zm_q; omega) (by omega))
    refine s_X10_told (d := d + 2) (i := 8) (zm_b_F b7' hF) (by decide) (by decide) (zs_m_u (by decide) (by omega) c7) (fun v8 M8 f8 c8 e8 => ?_)
    have x8 : M8 321 40 = c := by rw [f8.2 40 (by unfold zs_j; omega), z_upn (by decide)]; exact x7
    have b8 := zm_b_t b7' (zm_b_h f8)
    refine gX10_readFlock_164 (d := d + 6) (zm_b_F b8 hF) (by omega) (by omega) ?_
    have b9 := zm_b_t b8 (zm_b_t (zm_b_u (q := 334) (j := c) (v := v8) (by unfold zm_q; omega) (by omega)) (zm_b_u (q := 336) (j := c) (v := 0) (by unfold zm_q; omega) (by omega)))
    have x9 : z_up (z_up M8 334 c v8) 336 c 0 321 40 = c := by rw [z_upn (by decide), z_upn (by decide)]; exact x8
    have c9 : zs_m (z_up (z_up M8 334 c v8) 336 c 0) b n (zb_flock b n p1 G).1 := zs_m_u (by decide) (by omega) (zs_m_u (by decide) (by omega) c8)
    have m9 : ∀ q, (zb_flock b n p1 G).1 = .ok q → zm_c (z_up (z_up M8 334 c v8) 336 c 0) (z_up (z_up (z_up (z_up (z_up G 323 c w0) 332 c (zb_fs b n p1 G)) 333 c (zs_v b n (zb_f5 b n p1 G) * G 321 36 + zs_v b n (zb_f4 b n p1 G))) 334 c (zs_v b n (zb_f7 b n p1 G))) 336 c 0) := fun q hr => by
      obtain ⟨⟨q7, h7⟩, -⟩ := zs_nm_k hr
      obtain ⟨q6, h6⟩ := zs_nd_k h7
      obtain ⟨⟨q5, h5⟩, r6⟩ := zs_nm_k h6
      obtain ⟨⟨q4, h4⟩, r5⟩ := zs_nm_k h5
      obtain ⟨q3, h3⟩ := zs_nd_k h4
      have v6e : v6 = zs_v b n (zb_f4 b n p1 G) := e6 q5 h5
      have v7e : v7 = zs_v b n (zb_f5 b n p1 G) := e7 q6 h6
      have v8e : v8 = zs_v b n (zb_f7 b n p1 G) := e8 q hr
      change 0 ≤ zs_v b n (zb_f4 b n p1 G) ∧ zs_v b n (zb_f4 b n p1 G) ≤ G 321 36 - 1 at r5
      change 0 ≤ zs_v b n (zb_f5 b n p1 G) ∧ zs_v b n (zb_f5 b n p1 G) ≤ G 321 37 - 1 at r6
      rw [← v6e] at r5
      rw [← v7e] at r6
      have ix := zb_ix z1 z2 r6 r5
      have he : home = v7 * G 321 36 + v6 := by
        rw [← hh, Int.mul_comm, z_wid (x := v7 * G 321 36) (by omega), z_wid (by omega)]
      rw [← v6e, ← v7e, ← v8e, ← he]
      exact zm_c_u (by omega) (zm_c_u (by omega) (zm_c_h (zm_c_u (by omega) (zm_c_h (zm_c_h (m5 q3 h3) f6) f7)) f8))
    generalize hM9 : z_up (z_up M8 334 c v8) 336 c 0 = M9 at *
    generalize hG9 : z_up (z_up (z_up (z_up (z_up G 323 c w0) 332 c (zb_fs b n p1 G)) 333 c (zs_v b n (zb_f5 b n p1 G) * G 321 36 + zs_v b n (zb_f4 b n p1 G))) 334 c (zs_v b n (zb_f7 b n p1 G))) 336 c 0 = G9 at *
    refine z_loop (W := fun i => ∀ M10 : z_M, (∀ q, q ≠ 335 → M10 q = M9 q) → (∀ i' : Int, M10 335 i' = if 6 * c ≤ i' ∧ i' < 6 * c + i then -1 else M9 335 i') → wp xs (d + 6) mX10_readFlock 174 [(2, 321), (0, c), (0, v6), (0, (i : Int))] [] z_LL M10 P) 6 (fun i hi ih M10 f10 v10 => ?_) M9 (fun _ _ => rfl) (fun i' => (if_neg (by omega)).symm)
    have b10 : zm_b M M10 := zm_b_t b9 ⟨fun q hq => f10 q (fun w => hq (by unfold zm_q; omega)), fun j _ => by rw [f10 321 (by decide)]⟩
    have t := gX10_readFlock_174 (M := M10) (xs := xs) (d := d + 6) (P := P) (x1 := c) (x2 := v6) (x3 := (i : Int)) (zm_b_F b10 hF)
    rw [z_wid (x := 6 * c) (by omega), z_wid (x := 6 * c + i) (by omega), z_wid (x := (i : Int) + 1) (by omega), f10 321 (by decide), x9, z_wid (x := c + 1) (by omega)] at t
    have c10 : zs_m M10 b n (zb_flock b n p1 G).1 := by
      unfold zs_m zt_u zt_m at c9 ⊢
      rw [f10 321 (by decide), f10 322 (by decide)]
      exact c9
    refine t (fun w w2 => ?_) (fun w w2 => ?_) (fun w => by omega) (fun w => ih (by omega) _ (fun q hq => by rw [z_upn hq, f10 q hq]) (fun i' => ?_))
    · cases hr : (zb_flock b n p1 G).1 with
      | error e => exact k M10 b10 ⟨c10, fun q hq => by rw [hr] at hq; cases hq⟩
      | ok q =>
        rw [hr] at c9
        exact absurd (zs_m_o c9).1 w2
    · refine k _ (zm_b_t b10 (zm_b_u (by unfold zm_q; omega) (fun _ => by unfold zm_j; omega))) ⟨zs_m_u (by decide) (by omega) c10, fun q hr => ?_⟩
      have m9 := m9 q hr
      have er : (zb_flock b n p1 G).2 = z_up (fun a i => if a = 335 ∧ 6 * c ≤ i ∧ i < 6 * c + 6 then -1 else G9 a i) 321 40 (c + 1) := by
        show zb_fk G (z_c8 (zt_l b n p1)) _ _ _ = _
        unfold zb_fk
        rw [hw, hc, hG9]
      rw [er]
      refine zm_c_u (by omega) ?_
      obtain ⟨h1, h2, h3, h4, h5, h6, h7, h8, h9⟩ := m9
      have o : ∀ a, a ≠ 335 → (fun i => if a = 335 ∧ 6 * c ≤ i ∧ i < 6 * c + 6 then (-1 : Int) else G9 a i) = G9 a := fun a ha => by
        funext i
        exact if_neg (fun w => ha w.1)
      refine ⟨fun j hj => ?_, ?_, ?_, ?_, ?_, ?_, ?_, ?_, ?_⟩
      · show M10 321 j = (fun i => if (321 : Int) = 335 ∧ 6 * c ≤ i ∧ i < 6 * c + 6 then (-1 : Int) else G9 321 i) j
        rw [o 321 (by decide), f10 321 (by decide)]
        exact h1 j hj
      · show ∀ k, 0 ≤ k → k < (fun i => if (321 : Int) = 335 ∧ 6 * c ≤ i ∧ i < 6 * c + 6 then (-1 : Int) else G9 321 i) 17 → M10 324 k = (fun i => if (324 : Int) = 335 ∧ 6 * c ≤ i ∧ i < 6 * c + 6 then (-1 : Int) else G9 324 i) k ∧ M10 325 k = (fun i => if (325 : Int) = 335 ∧ 6 * c ≤ i ∧ i < 6 * c + 6 then (-1 : Int) else G9 325 i) k
        rw [o 321 (by decide), o 324 (by decide), o 325 (by decide), f10 324 (by decide), f10 325 (by decide)]
        exact h2
      · show ∀ x, 0 ≤ x → x < 25 → M10 331 x = (fun i => if (331 : Int) = 335 ∧ 6 * c ≤ i ∧ i < 6 * c + 6 then (-1 : Int) else G9 331 i) x
        rw [o 331 (by decide), f10 331 (by decide)]
        exact h3
      · rw [f10 323 (by decide), h4]
        exact (o 323 (by decide)).symm
      · rw [f10 332 (by decide), h5]
        exact (o 332 (by decide)).symm
      · rw [f10 333 (by decide), h6]
        exact (o 333 (by decide)).symm
      · rw [f10 334 (by decide), h7]
        exact (o 334 (by decide)).symm
      · funext i'
        rw [v10 i', h8]
        show (if 6 * c ≤ i' ∧ i' < 6 * c + (i : Int) then (-1 : Int) else G9 335 i') = if (335 : Int) = 335 ∧ 6 * c ≤ i' ∧ i' < 6 * c + 6 then (-1 : Int) else G9 335 i'
        have ei : (i : Int) = 6 := by omega
        rw [ei]
        by_cases w3 : 6 * c ≤ i' ∧ i' < 6 * c + 6
        · rw [if_pos w3, if_pos ⟨rfl, w3⟩]
        · rw [if_neg w3, if_neg (fun z => w3 z.2)]
      · rw [f10 336 (by decide), h9]
        exact (o 336 (by decide)).symm
    · by_cases e : i' = 6 * c + i
      · rw [e, z_ups, if_pos (by omega)]
      · rw [z_upi e rfl, v10 i']
        by_cases w3 : 6 * c ≤ i' ∧ i' < 6 * c + i
        · rw [if_pos w3, if_pos (by omega)]
        · rw [if_neg w3, if_neg (by omega)]
  -- from the side on
  have tail : ∀ M2 : z_M, zs_h M1 M2 → zs_m M2 b n (zb_f1 b n p1 G) → wp xs (d + 6) mX10_readFlock 31 [(2, 321), (3, 0), (3, 0), (3, 0)] [] z_LL M2 P := fun M2 f2 c2 => by
    have m2 := zm_c_h m1 f2
    have b2 := zm_b_t b1 (zm_b_h f2)
    have F2 := zm_b_F b2 hF
    have t2 := gX10_readFlock_31 (M := M2) (xs := xs) (d := d + 5) (P := P) F2
    have e40' : M2 321 40 = c := by rw [f2.2 40 (by unfold zs_j; omega)]; exact e40
    rw [e40'] at t2
    cases hr : zb_f1 b n p1 G with
    | error e =>
      rw [hr] at c2
      have n2 := zs_m_e c2
      have er : (zb_flock b n p1 G).1 = .error e := by
        unfold zb_flock zb_f7 zb_f6 zb_f5 zb_f4 zb_f3 zb_f2
        rw [hr]
        rfl
      exact t2 (fun w => by omega) (fun w => by omega) (fun _ => k M2 b2 ⟨by rw [er]; exact c2, fun q hq => by rw [er] at hq; cases hq⟩)
    | ok q1 =>
      have k24 : zt_k b n p1 = 24 := Classical.byContradiction (fun w => by
        unfold zb_f1 at hr
        rw [if_neg w] at hr
        cases hr)
      obtain rfl : p1 = q1 := by
        unfold zb_f1 at hr
        rw [if_pos k24] at hr
        split at hr
        · injection hr
        · cases hr
      rw [hr] at c2
      obtain ⟨n2, -, -, -, s29⟩ := zs_m_o c2
      have ew := s29 (by omega)
      rw [hw] at ew
      rw [ew] at t2
      refine t2 (fun _ => by omega) (fun _ => ?_) (fun w => by omega)
      have b3 := zm_b_t b2 (zm_b_u (q := 323) (j := c) (v := w0) (by unfold zm_q; omega) (by omega))
      refine s_X10_next (d := d + 4) (zm_b_F b3 hF) (zs_m_u (by decide) (by omega) c2) (by omega) (fun M4 f4 c4 => ?_)
      have b4 := zm_b_t b3 (zm_b_h f4)
      have F4 := zm_b_F b4 hF
      have m4 : zm_c M4 (z_up G 323 c w0) := zm_c_h (zm_c_u (by omega) m2) f4
      have hf2 : zb_f2 b n p1 G = .ok (zt_x b n p1) := by
        unfold zb_f2
        rw [hr]
        show (if zt_k b n p1 = 24 then _ else _) = _
        rw [if_pos k24]
      have x4 : M4 321 36 = G 321 36 ∧ M4 321 37 = G 321 37 ∧ M4 321 40 = c := ⟨by rw [m4.1 36 (by unfold zm_d; omega), z_upn (by decide)], by rw [m4.1 37 (by unfold zm_d; omega), z_upn (by decide)], by rw [m4.1 40 (by unfold zm_d; omega), z_upn (by decide)]; exact hc⟩
      generalize hp2 : zt_x b n p1 = p2 at *
      have np2 := (zs_m_o c4).2.1
      have w5 := zt_m_w (c4.2.2.2 p2 rfl) np2 (i := 5) (by decide)
      have w6 := zt_m_w (c4.2.2.2 p2 rfl) np2 (i := 6) (by decide)
      rw [show z_own8.getD 5 0 = 422826304613 by decide] at w5
      rw [show z_own8.getD 6 0 = 444301537133 by decide] at w6
      have efs : zb_fs b n p1 G = if zt_k b n p2 = 6 then 1 else 0 := by
        unfold zb_fs
        rw [hf2]
        rfl
      have ef3 : zb_f3 b n p1 G = zs_nd b n (if zt_k b n p2 = 6 then 6 else 5) (.ok p2) := by
        unfold zb_f3
        rw [hf2]
        rfl
      have good : (zt_k b n p2 = 5 ∨ zt_k b n p2 = 6) → wp xs (d + 6) mX10_readFlock 83 [(2, 321), (0, c), (3, 0), (3, 0)] [] z_LL M4 P := fun w => by
        have side : z_b (M4 321 6 = 1 ∧ M4 321 9 = 444301537133) = zb_fs b n p1 G := by
          rw [efs]
          by_cases w1 : zt_k b n p2 = 6
          · rw [z_b_t (w6.mpr (by omega)), if_pos w1]
          · rw [z_b_f (fun c => w1 (by have := w6.mp c; omega)), if_neg w1]
        refine gX10_readFlock_83 (d := d + 5) F4 z_b_01 (by omega) (fun w => absurd (zs_m_o c4).1 w) (fun _ => ?_)
        rw [side]
        have b5 := zm_b_t b4 (zm_b_u (q := 332) (j := c) (v := zb_fs b n p1 G) (by unfold zm_q; omega) (by omega))
        refine s_X10_next (d := d + 4) (zm_b_F b5 hF) (zs_m_u (by decide) (by omega) c4) (by omega) (fun M6 f6 c6 => tail2 M6 (zm_b_t b5 (zm_b_h f6)) ?_ ?_ (fun q hq => zm_c_h (zm_c_u (by omega) m4) f6))
        · rw [ef3]
          show zs_m M6 b n (if zt_k b n p2 = _ then _ else _)
          rw [if_pos (by split <;> omega)]
          exact c6
        · exact ⟨by rw [f6.2 36 (by unfold zs_j; omega), z_upn (by decide)]; exact x4.1, by rw [f6.2 37 (by unfold zs_j; omega), z_upn (by decide)]; exact x4.2.1, by rw [f6.2 40 (by unfold zs_j; omega), z_upn (by decide)]; exact x4.2.2⟩
      refine gX10_readFlock_58 (d := d + 5) (fun w => good (Or.inl (by have := w5.mp w; omega))) (fun _ w => good (Or.inr (by have := w6.mp w; omega))) (fun u5 u6 => ?_)
      have k5 : zt_k b n p2 ≠ 5 := fun w => u5 (w5.mpr (by omega))
      have k6 : zt_k b n p2 ≠ 6 := fun w => u6 (w6.mpr (by omega))
      refine s_X10_wrong c4 (by decide) (fun M5 f5 c5 => ?_)
      have b5 := zm_b_t b4 (zm_b_h f5)
      have n5 := (zs_m_e (e := zs_f b n p2 2) c5).1
      refine gX10_readFlock_83 (d := d + 5) (zm_b_F b5 hF) z_b_01 (by omega) (fun _ => ?_) (fun w => absurd n5 w)
      refine tail2 _ (zm_b_t b5 (zm_b_u (by unfold zm_q; omega) (by omega))) ?_ ?_ (fun q hq => ?_)
      · rw [ef3, if_neg k6]
        show zs_m _ b n (if zt_k b n p2 = 5 then _ else _)
        rw [if_neg k5]
        exact zs_m_u (by decide) (by omega) c5
      · exact ⟨by rw [z_upn (by decide), f5.2 36 (by unfold zs_j; omega)]; exact x4.1, by rw [z_upn (by decide), f5.2 37 (by unfold zs_j; omega)]; exact x4.2.1, by rw [z_upn (by decide), f5.2 40 (by unfold zs_j; omega)]; exact x4.2.2⟩
      · rw [ef3, if_neg k6] at hq
        change (if zt_k b n p2 = 5 then _ else _) = _ at hq
        rw [if_neg k5] at hq
        cases hq
  have nm := zt_m_n (c1.2.2.2 p1 rfl) np1
  refine gX10_readFlock_4 (d := d + 4) (fun w => ?_) (fun w => ?_)
  · have k24 := nm.mp w
    refine s_X10_find (c := c.toNat) F1 (by rw [e40]; omega) (by omega) ?_
    rw [m1.2.2.2.1, s19 (by omega)]
    have ef : zb_f1 b n p1 G = if zn_f (G 323) w0 c.toNat < 0 then .ok p1 else .error (3, zt_s b n p1) := by
      unfold zb_f1
      rw [if_pos k24, hw, hc]
    refine gX10_readFlock_23 (d := d + 5) (fun w => tail M1 zs_h_r ?_) (fun w => s_X10_wrong c1 (by decide) (fun M2 f2 c2 => tail M2 f2 ?_))
    · rw [ef, if_pos w]
      exact c1
    · rw [ef, if_neg w]
      have e4 : zs_w b n 3 (.ok p1) = .error (3, zt_s b n p1) := by
        show Except.error (zs_f b n p1 3) = _
        unfold zs_f
        rw [if_neg (by omega)]
      rw [← e4]
      exact c2
  · refine s_X10_wrong c1 (by decide) (fun M2 f2 c2 => gX10_readFlock_16 (tail M2 f2 ?_))
    unfold zb_f1
    rw [if_neg (fun c => w (nm.mpr c))]
    exact c2
end
