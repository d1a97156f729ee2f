/-! THE MODEL READS THE FORMULA: units, nots, all -/
section
variable {xs : List Int} {d : Nat} {M M' G : z_M} {b : Int → Int} {n p o dep tk t lv a : Int} {j : Nat} {P : Option z_V → z_L → z_M → Prop} {f : zf_S → zf_S}
theorem zU_e {e : Int × Int} (h : zs_m M b n (.error e)) (k : P none z_LL M) : zU xs d P M := by
  have n0 := zs_m_e h
  exact gX10_unit_2 (d := d + 7) (fun w => absurd w (by decide)) (fun w => absurd w (by decide)) (fun _ _ w => by omega) (fun _ _ _ => ⟨rfl, rfl, zLp_e h k⟩) (fun _ w => absurd n0.1 w) (fun _ w => absurd n0.1 w) (fun _ w => absurd n0.1 w)
theorem q_open_e {e : Int × Int} {x : Int} {pc : Nat} (hF : z_fix M) (h : zs_m M b n (.error e)) (h19 : 0 ≤ M 321 19 ∧ M 321 19 ≤ 100) (next : ∀ M' : z_M, zU xs d P M' → wp xs (d + 8) mX10_unit pc [(2, 321), (0, 1), (3, 0)] [] z_LL M' (fun r L1 M1 => r = none ∧ L1 = z_LL ∧ zLp xs d P M1)) (k : ∀ M' : z_M, zq_f M M' → zs_m M' b n (.error e) → P none z_LL M') : wp xs (d + 7) mX10_openUp 0 [(2, 321), (0, x)] [] z_LL M (fun r L1 M1 => wp xs (d + 8) mX10_unit pc [(2, 321), (0, 1), (3, 0)] (z_ol r ++ []) L1 M1 (fun r L1 M1 => r = none ∧ L1 = z_LL ∧ zLp xs d P M1)) := by
  have n0 := zs_m_e h
  refine gX10_openUp_0 (d := d + 6) hF (by omega) (fun _ => ?_) (fun w => absurd n0.1 w)
  have c : zs_m (z_up (z_up (z_up M 328 (M 321 19) x) 321 19 (z_w (M 321 19 + 1))) 321 23 (z_w (M 321 23 + 1))) b n (.error e) := zs_m_u (by decide) (by omega) (zs_m_u (by decide) (by omega) (zs_m_u (by decide) (by omega) h))
  exact next _ (zU_e c (k _ (zq_f_t (zq_f_t (zq_f_u (by omega)) (zq_f_u (by omega))) (zq_f_u (by omega))) c))
/-- a bracket or a not opens -/
theorem q_open {x : Int} {pc : Nat} (hF : z_fix M) (h : zs_m M b n (.ok p)) (hk : zt_k b n p ≠ 27) (hl : zq_l M G o dep tk 0) (ho : 0 ≤ o ∧ o ≤ 90) (hd : 0 ≤ dep ∧ dep ≤ 7) (next : ∀ M' : z_M, zU xs d P M' → wp xs (d + 8) mX10_unit pc [(2, 321), (0, 1), (3, 0)] [] z_LL M' (fun r L1 M1 => r = none ∧ L1 = z_LL ∧ zLp xs d P M1)) (k : ∀ M2 : z_M, zq_f M M2 → (∀ i, i < o → M2 328 i = M 328 i) → M2 328 o = x → zs_m M2 b n (.ok (zt_x b n p)) → (∀ tk, zq_l M2 G (o + 1) (dep + 1) tk 0) → zU xs d P M2) : wp xs (d + 7) mX10_openUp 0 [(2, 321), (0, x)] [] z_LL M (fun r L1 M1 => wp xs (d + 8) mX10_unit pc [(2, 321), (0, 1), (3, 0)] (z_ol r ++ []) L1 M1 (fun r L1 M1 => r = none ∧ L1 = z_LL ∧ zLp xs d P M1)) := by
  obtain ⟨l1, l2, l3, l4, l5, l6, l7⟩ := hl
  have n0 := (zs_m_o h).1
  have e23 : M 321 23 = dep := by rw [l2]; unfold zq_n; omega
  have e19 : M 321 19 = o := by omega
  have t := gX10_openUp_0 (M := M) (xs := xs) (d := d + 6) (P := fun r L1 M1 => wp xs (d + 8) mX10_unit pc [(2, 321), (0, 1), (3, 0)] (z_ol r ++ []) L1 M1 (fun r L1 M1 => r = none ∧ L1 = z_LL ∧ zLp xs d P M1)) (a1 := x) hF
  rw [e19, e23, z_wid (x := o + 1) (by omega), z_wid (x := dep + 1) (by omega)] at t
  refine t (by omega) (fun w => absurd n0 w) (fun _ => ?_)
  have f1 : zq_f M (z_up (z_up (z_up M 328 o x) 321 19 (o + 1)) 321 23 (dep + 1)) := zq_f_t (zq_f_t (zq_f_u (by omega)) (zq_f_u (by omega))) (zq_f_u (by omega))
  refine s_X10_next (d := d + 5) (zq_f_F f1 hF) (zs_m_u (by decide) (by omega) (zs_m_u (by decide) (by omega) (zs_m_u (by decide) (by omega) h))) hk (fun M2 f2 c2 => ?_)
  refine gX10_openUp_41 (next M2 ?_)
  have g : ∀ i, ¬ zs_j i → i ≠ 19 → i ≠ 23 → M2 321 i = M 321 i := fun i a1 a2 a3 => by rw [f2.2 i a1, z_upi a3 rfl, z_upi a2 rfl, z_upn (by decide)]
  have r : ∀ q, q ≠ 321 → q ≠ 328 → M2 q = M q := fun q a1 a2 => by rw [f2.1 q a1, z_upn a1, z_upn a1, z_upn a2]
  have g28 : ∀ i, M2 328 i = if i = o then x else M 328 i := fun i => by
    rw [f2.1 328 (by decide), z_upn (by decide), z_upn (by decide)]
    by_cases e : i = o
    · rw [if_pos e, e, z_ups]
    · rw [if_neg e, z_upi e rfl]
  refine k M2 (zq_f_t f1 (zq_f_h f2)) (fun i hi => by rw [g28, if_neg (by omega)]) (by rw [g28, if_pos rfl]) c2 (fun tk => ⟨?_, ?_, ⟨?_, ?_⟩, ⟨?_, ?_⟩, fun k' k1 k2 => ?_, fun i i1 i2 => by omega, fun i i1 i2 => by omega⟩)
  · rw [f2.2 19 (by unfold zs_j; omega), z_upi (by decide) rfl, z_ups]
    omega
  · rw [f2.2 23 (by unfold zs_j; omega), z_ups]
    unfold zq_n
    omega
  · rw [g 20 (by unfold zs_j; omega) (by decide) (by decide)]
    exact l3.1
  · rw [g 22 (by unfold zs_j; omega) (by decide) (by decide)]
    exact l3.2
  · rw [g 17 (by unfold zs_j; omega) (by decide) (by decide)]
    exact l4.1
  · rw [g 17 (by unfold zs_j; omega) (by decide) (by decide)]
    exact l4.2
  · rw [g 17 (by unfold zs_j; omega) (by decide) (by decide)] at k2
    rw [r 324 (by decide) (by decide), r 325 (by decide) (by decide)]
    exact l5 k' k1 k2
/-- a bracket closes -/
theorem q_close {q : Int} (hF : z_fix M) (h : zs_m M b n (.ok q)) (hk : zt_k b n q = 41) (hl : zq_l M G (o + 1) (dep + 1) t j) (h0 : M 328 o = 20) (ho : 0 ≤ o ∧ o + 1 + j ≤ 90) (hG : G 321 17 ≤ 270) (hd : 0 ≤ dep ∧ dep ≤ 7) (ht : 0 ≤ t) (k : ∀ M2 : z_M, zq_f M M2 → (∀ i, M2 328 i = M 328 i) → zs_m M2 b n (.ok (zt_x b n q)) → (∀ tk, zq_l M2 G o dep tk 0) → zLp xs d P M2) : zLp xs d P M := by
  intro w
  obtain ⟨l1, l2, l3, l4, l5, l6, l7⟩ := id hl
  obtain ⟨n0, np, s6, -, -⟩ := zs_m_o h
  have bn := zq_n_b (M := M) (o := o + 1) j
  have ri := (zt_r_i (b := b) (n := n) (p := q)).2.2.2.2
  have h41 : M 321 6 = 41 := by
    rw [s6]
    exact (ri 41 (by decide)).mpr hk
  refine gX10_readPull_30 (d := d + 8) (fun c => absurd c (by decide)) (fun c => absurd c (by decide)) (fun c => absurd c (by decide)) (fun _ c => absurd n0 c) (fun _ c => absurd n0 c) (fun _ c => absurd n0 c) (fun _ _ => ?_)
  refine s_X10_sign (d := d + 7) h ?_
  refine gX10_readPull_45 (d := d + 8) (fun c _ => absurd h41 c) (fun c => absurd h41 c) (fun _ => s_X10_hasBracket hF (by omega) ?_)
  rw [z_b_t (show zq_B M from ⟨o, by omega, h0⟩)]
  refine gX10_readPull_59 (d := d + 8) (fun c => absurd c (by decide)) (fun c => absurd c (by decide)) (fun _ => ?_)
  refine s_X10_close (d := d + 7) (o := o + 1) (m := M 321 17) j M hF l1 (by omega) (fun i i1 i2 => ⟨(l7 i i1 i2).1, by have := (l7 i i1 i2).2; omega⟩) (Or.inr (Or.inl (by rw [show o + 1 - 1 = o by omega]; exact h0))) rfl (by omega) (by omega) (fun M1 f1 w19 w17 wi wk w23 => ?_)
  have F1 := zm_b_F (zq_e_b f1) hF
  have e28 : M1 328 = M 328 := f1.1 328 (by decide) (by decide) (by decide)
  have t1 := gX10_readPull_67 (M := M1) (xs := xs) (d := d + 8) (P := P) (x1 := 1) (x2 := zq_g (zt_k b n q))
  have e23 : M1 321 23 = dep + 1 := by omega
  rw [w19, e23, show z_w (o + 1 - 1) = o by rw [z_wid (by omega)]; omega, show z_w (dep + 1 - 1) = dep by rw [z_wid (by omega)]; omega] at t1
  refine t1 ?_
  have f2 : zq_f M (z_up (z_up M1 321 19 o) 321 23 dep) := zq_f_t (zq_f_e f1) (zq_f_t (zq_f_u (by omega)) (zq_f_u (by omega)))
  have c1 : zs_m M1 b n (.ok q) := by
    unfold zs_m zt_u zt_m at h ⊢
    rw [f1.1 322 (by decide) (by decide) (by decide), f1.2 5 (by decide) (by decide) (by decide), f1.2 2 (by decide) (by decide) (by decide), f1.2 3 (by decide) (by decide) (by decide), f1.2 6 (by decide) (by decide) (by decide), f1.2 7 (by decide) (by decide) (by decide), f1.2 4 (by decide) (by decide) (by decide), f1.2 8 (by decide) (by decide) (by decide), f1.2 9 (by decide) (by decide) (by decide)]
    exact h
  refine s_X10_next (d := d + 7) (zq_f_F f2 hF) (zs_m_u (by decide) (by omega) (zs_m_u (by decide) (by omega) c1)) (by omega) (fun M3 f3 c3 => ?_)
  refine gX10_readPull_91 (k M3 (zq_f_t f2 (zq_f_h f3)) (fun i => by rw [f3.1 328 (by decide), z_upn (by decide), z_upn (by decide), e28]) c3 (fun tk => ?_) _)
  have gu : ∀ i, ¬ zs_j i → i ≠ 19 → i ≠ 23 → M3 321 i = M1 321 i := fun i a1 a2 a3 => by rw [f3.2 i a1, z_upi a3 rfl, z_upi a2 rfl]
  have gr : ∀ x, x ≠ 321 → M3 x = M1 x := fun x a1 => by rw [f3.1 x a1, z_upn a1, z_upn a1]
  refine ⟨?_, ?_, ⟨?_, ?_⟩, ⟨?_, ?_⟩, fun k' k1 k2 => ?_, fun i i1 i2 => by omega, fun i i1 i2 => by omega⟩
  · rw [f3.2 19 (by unfold zs_j; omega), z_upi (by decide) rfl, z_ups]
    omega
  · rw [f3.2 23 (by unfold zs_j; omega), z_ups]
    unfold zq_n
    omega
  · rw [gu 20 (by unfold zs_j; omega) (by decide) (by decide), f1.2 20 (by decide) (by decide) (by decide)]
    exact l3.1
  · rw [gu 22 (by unfold zs_j; omega) (by decide) (by decide), f1.2 22 (by decide) (by decide) (by decide)]
    exact l3.2
  · rw [gu 17 (by unfold zs_j; omega) (by decide) (by decide), w17]
    omega
  · rw [gu 17 (by unfold zs_j; omega) (by decide) (by decide), w17]
    omega
  · rw [gu 17 (by unfold zs_j; omega) (by decide) (by decide), w17] at k2
    rw [gr 324 (by decide), gr 325 (by decide)]
    by_cases e : k' < M 321 17
    · rw [(wk k' e).1, (wk k' e).2]
      exact l5 k' k1 e
    · have wi' := wi (k' - M 321 17) (by omega) (by omega)
      have l6' := l6 (k' - M 321 17) (by omega) (by omega)
      rw [show M 321 17 + (k' - M 321 17) = k' by omega] at wi' l6'
      rw [wi'.1, wi'.2, l6'.1, l6'.2]
      exact ⟨rfl, rfl⟩
theorem zq_l_w {t2 : Int} (h : zq_l M G o dep t j) (ht : t2 ≤ t) : zq_l M G o dep t2 j := by
  obtain ⟨l1, l2, l3, l4, l5, l6, l7⟩ := h
  exact ⟨l1, l2, l3, l4, l5, l6, fun i i1 i2 => ⟨(l7 i i1 i2).1, by have := (l7 i i1 i2).2; omega⟩⟩
theorem mf_uni {F : Option (zf_S → zf_S)} (hd : 0 ≤ dep ∧ dep ≤ 7) (h7 : F = none ↔ 7 ≤ dep) (hF' : ∀ f, F = some f → mf xs b n 0 1 1 (dep + 1) f ∧ zf_ex 7 n f) : mf xs b n 5 7 7 dep (zf_uni b n F) := by
  intro d P M G p o hF h hy h30 hl ho hb hnot kE kO
  obtain ⟨n0, np, s6, s8, s9⟩ := zs_m_o h
  obtain ⟨l1, l2, l3, l4, l5, l6, l7⟩ := id hl
  have e23 : M 321 23 = dep := by rw [l2]; unfold zq_n; omega
  have e17 : M 321 17 = G 321 17 := by omega
  have e19 : M 321 19 = o := by omega
  have ri := zt_r_i (b := b) (n := n) (p := p)
  have w18 := zt_m_w (h.2.2.2 p rfl) np (i := 18) (by decide)
  rw [show z_own8.getD 18 0 = 7237492 by decide] at w18
  have s40 : M 321 6 = 40 ↔ zt_k b n p = 40 := by
    rw [s6]
    exact ri.2.2.2.2 40 (by decide)
  have s2 : M 321 6 = 2 ↔ zt_k b n p = 25 := by
    rw [s6]
    exact ri.2.1
  have hy2 := hy.2.1
  have full : z_b (M 321 20 = 60 ∨ M 321 22 = 30) = z_b (30 ≤ G 321 20) := z_b_i (by omega)
  obtain ⟨u1, u2, u3⟩ := zf_un_r (G := G)
  have u17 : zf_un G 321 17 = G 321 17 := u2 17 (by decide)
  have u24 : zf_un G 324 = G 324 := u1 324 (by decide)
  have u25 : zf_un G 325 = G 325 := u1 325 (by decide)
  unfold zU
  by_cases k40 : zt_k b n p = 40
  · have nn : ¬ (M 321 6 = 1 ∧ M 321 9 = 7237492) := fun c => by have := w18.mp c; omega
    refine gX10_unit_2 (d := d + 7) (fun w => absurd w (by decide)) (fun w => absurd w (by decide)) (fun _ w => absurd n0 w) (fun _ w => absurd n0 w) (fun _ _ _ w => absurd (s40.mpr k40) w) (fun _ _ _ _ => ?_) (fun _ _ w => absurd w nn)
    refine s_X10_isFull ?_
    rw [full]
    have bad : zf_uni b n F (.ok p, G) = (.error (zs_f b n p 2), G) → wp xs (d + 7) mX10_wrong 0 [(2, 321), (0, 2)] [] z_LL M (fun r L1 M1 => wp xs (d + 8) mX10_unit 83 [(2, 321), (0, 1), (3, 0)] (z_ol r ++ []) L1 M1 (fun r L1 M1 => r = none ∧ L1 = z_LL ∧ zLp xs d P M1)) := fun er => by
      refine s_X10_wrong h (by decide) (fun M1 f1 c1 => gX10_unit_83 (d := d + 7) ?_)
      have f2 : zq_f M (z_up (z_up M1 321 20 (z_w (M1 321 20 + 1))) 321 22 (z_w (M1 321 22 + 1))) := zq_f_t (zq_f_h f1) (zq_f_t (zq_f_u (by omega)) (zq_f_u (by omega)))
      refine q_open_e (e := zs_f b n p 2) (zq_f_F f2 hF) (zs_m_u (by decide) (by omega) (zs_m_u (by decide) (by omega) c1)) ?_ (fun M' k => gX10_unit_93 k) (fun M' f c => kE M' _ (zq_f_t f2 f) (by rw [er]) c)
      rw [z_upi (by decide) rfl, z_upi (by decide) rfl, f1.2 19 (by unfold zs_j; omega)]
      omega
    have t := gX10_unit_66 (M := M) (xs := xs) (d := d + 7) (P := fun r L1 M1 => r = none ∧ L1 = z_LL ∧ zLp xs d P M1) (x1 := 1) (s0 := z_b (30 ≤ G 321 20))
    rw [e23] at t
    refine t (fun w => bad ?_) (fun w w2 => ?_) (fun w w2 => bad ?_)
    · rw [zf_uni_o, if_pos (Classical.byContradiction (fun c => w (z_b_f c)))]
    · have hu : ¬ 30 ≤ G 321 20 := fun c => w (by rw [z_b_t c]; decide)
      cases F with
      | none => exact absurd (h7.mp rfl) (by omega)
      | some F =>
        obtain ⟨hf, hex⟩ := hF' F rfl
        have hn := zf_nxt (b := b) (n := n) (p := p) np (by omega)
        rw [l3.1, l3.2, z_wid (x := G 321 20 + 1) (by omega)]
        have f1 : zq_f M (z_up (z_up M 321 20 (G 321 20 + 1)) 321 22 (G 321 20 + 1)) := zq_f_t (zq_f_u (by omega)) (zq_f_u (by omega))
        have hl1 : zq_l (z_up (z_up M 321 20 (G 321 20 + 1)) 321 22 (G 321 20 + 1)) (zf_un G) o dep 7 0 := by
          have g : ∀ i, i ≠ 20 → i ≠ 22 → z_up (z_up M 321 20 (G 321 20 + 1)) 321 22 (G 321 20 + 1) 321 i = M 321 i := fun i a1 a2 => by rw [z_upi a2 rfl, z_upi a1 rfl]
          refine ⟨by rw [g 19 (by decide) (by decide)]; exact l1, by rw [g 23 (by decide) (by decide), e23]; unfold zq_n; omega, ⟨by rw [z_upi (by decide) rfl, z_ups, u3], by rw [z_ups, u3]⟩, ⟨by rw [g 17 (by decide) (by decide)]; exact l4.1, by rw [g 17 (by decide) (by decide), u17]; exact l4.2⟩, fun k k1 k2 => ?_, fun i i1 i2 => by omega, fun i i1 i2 => by omega⟩
          rw [g 17 (by decide) (by decide)] at k2
          rw [z_upn (by decide), z_upn (by decide), z_upn (by decide), z_upn (by decide), u24, u25]
          exact l5 k k1 k2
        have hyU : zf_y n (zt_x b n p) (zf_un G) := ⟨by omega, by rw [u17, u3]; omega, by rw [u17, u24]; exact hy.2.2.1, by rw [u17, u24, u3]; have := hy.2.2.2; omega⟩
        refine q_open (zq_f_F f1 hF) (zs_m_u (by decide) (by omega) (zs_m_u (by decide) (by omega) h)) (by omega) hl1 (by omega) hd (fun M' k => gX10_unit_93 k) (fun M2 f2 r2 e2 c2 l2' => ?_)
        have f02 := zq_f_t f1 f2
        have r02 : ∀ i, i < o → M2 328 i = M 328 i := fun i hi => by rw [r2 i hi, z_upn (by decide), z_upn (by decide)]
        have eu : zf_uni b n (some F) (.ok p, G) = zf_cl b n (F (.ok (zt_x b n p), zf_un G)) := by
          rw [zf_uni_o, if_neg hu, if_pos k40]
          rfl
        rw [eu] at kE kO
        refine hf d P M2 (zf_un G) (zt_x b n p) (o + 1) (zq_f_F f02 hF) c2 hyU (by rw [u3]; omega) (l2' _) (by omega) (Or.inr (Or.inl (by rw [show o + 1 - 1 = o by omega]; exact e2))) (fun w => absurd w (by decide)) (fun M3 e f3 e3 c3 => ?_) (fun M3 q j f3 r3 e3 c3 l3' hj s3 => ?_)
        · refine kE M3 e (zq_f_t f02 f3) ?_ c3
          have : F (.ok (zt_x b n p), zf_un G) = (.error e, (F (.ok (zt_x b n p), zf_un G)).2) := Prod.ext e3 rfl
          rw [this]
          rfl
        · have hx := hex _ _ hyU q e3
          have e3' : F (.ok (zt_x b n p), zf_un G) = (.ok q, (F (.ok (zt_x b n p), zf_un G)).2) := Prod.ext e3 rfl
          generalize (F (.ok (zt_x b n p), zf_un G)).2 = G3 at *
          rw [e3', zf_cl_o] at kE kO
          have F3 := zq_f_F f3 (zq_f_F f02 hF)
          have eo : M3 328 o = 20 := by rw [r3 o (by omega), e2]
          have b3 := l3'.1
          by_cases c41 : zt_k b n q = 41
          · rw [if_pos c41] at kE kO
            refine q_close F3 c3 c41 l3' eo (by omega) (by omega) hd (by decide) (fun M4 f4 r4 c4 l4' => ?_)
            exact kO M4 _ 0 (zq_f_t f02 (zq_f_t f3 f4)) (fun i hi => by rw [r4 i, r3 i (by omega), r02 i hi]) rfl c4 (l4' _) (by omega) ⟨fun w => absurd w (by decide), fun w => absurd w (by decide), fun w => absurd w (by decide), fun w => absurd w (by decide), fun w => absurd w (by decide)⟩
          · rw [if_neg c41] at kE kO
            have yB : zq_B M3 := ⟨o, by omega, eo⟩
            exact q_stop F3 c3 (by omega) s3 (fun c => absurd c c41) (fun _ M4 f4 c4 => kE M4 _ (zq_f_t f02 (zq_f_t f3 (zq_f_h f4))) rfl c4) (fun c => absurd yB c)
    · rw [zf_uni_o]
      by_cases hu : 30 ≤ G 321 20
      · rw [if_pos hu]
      · rw [if_neg hu, if_pos k40, h7.mpr (by omega)]
        rfl
  · -- a unit alone, or none
    have bad : ∀ x2 : Int, zf_uni b n F (.ok p, G) = (.error (zs_f b n p 2), G) → wp xs (d + 7) mX10_wrong 0 [(2, 321), (0, 2)] [] z_LL M (fun r L1 M1 => wp xs (d + 8) mX10_unit 138 [(2, 321), (0, 0), (0, x2)] (z_ol r ++ []) L1 M1 (fun r L1 M1 => r = none ∧ L1 = z_LL ∧ zLp xs d P M1)) := fun x2 er => by
      refine s_X10_wrong h (by decide) (fun M1 f1 c1 => ?_)
      have n1 := zs_m_e (e := zs_f b n p 2) c1
      refine gX10_unit_138 (d := d + 7) (zq_f_F (zq_f_h f1) hF) (fun w => by omega) (fun w => by omega) (fun w => by omega) (fun w => by omega) (fun w => by omega) (fun w => by omega) (fun w => by omega) (fun w => by omega) (fun _ => ⟨rfl, rfl, zLp_e (e := zs_f b n p 2) c1 (kE M1 _ (zq_f_h f1) (by rw [er]) c1)⟩)
    have leaf : ∀ so ar x2 : Int, ¬ 30 ≤ G 321 20 → zf_uni b n F (.ok p, G) = (.ok (zt_x b n p), zf_add so ar (zf_un G)) → zt_k b n p ≠ 27 → wp xs (d + 7) mX10_token 0 [(2, 321), (3, 0), (3, 0)] [] z_LL (z_up (z_up (z_up (z_up (z_up M 321 20 (G 321 20 + 1)) 321 22 (G 321 20 + 1)) 324 (G 321 17) so) 325 (G 321 17) ar) 321 17 (G 321 17 + 1)) (fun r L1 M1 => wp xs (d + 8) mX10_unit 179 [(2, 321), (0, 0), (0, x2)] (z_ol r ++ []) L1 M1 (fun r L1 M1 => r = none ∧ L1 = z_LL ∧ zLp xs d P M1)) := fun so ar x2 hu er h27 => by
      generalize hM1 : z_up (z_up (z_up (z_up (z_up M 321 20 (G 321 20 + 1)) 321 22 (G 321 20 + 1)) 324 (G 321 17) so) 325 (G 321 17) ar) 321 17 (G 321 17 + 1) = M1
      have f1 : zq_f M M1 := by
        rw [← hM1]
        exact zq_f_t (zq_f_t (zq_f_t (zq_f_t (zq_f_u (by omega)) (zq_f_u (by omega))) (zq_f_u (by omega))) (zq_f_u (by omega))) (zq_f_u (by omega))
      have c1 : zs_m M1 b n (.ok p) := by
        rw [← hM1]
        exact zs_m_u (by decide) (by omega) (zs_m_u (by decide) (by omega) (zs_m_u (by decide) (by omega) (zs_m_u (by decide) (by omega) (zs_m_u (by decide) (by omega) h))))
      have g : ∀ i, i ≠ 17 → i ≠ 20 → i ≠ 22 → M1 321 i = M 321 i := fun i a1 a2 a3 => by rw [← hM1, z_upi a1 rfl, z_upn (by decide), z_upn (by decide), z_upi a3 rfl, z_upi a2 rfl]
      have v17 : M1 321 17 = G 321 17 + 1 := by rw [← hM1, z_ups]
      have v20 : M1 321 20 = G 321 20 + 1 := by rw [← hM1, z_upi (by decide) rfl, z_upn (by decide), z_upn (by decide), z_upi (by decide) rfl, z_ups]
      have v22 : M1 321 22 = G 321 20 + 1 := by rw [← hM1, z_upi (by decide) rfl, z_upn (by decide), z_upn (by decide), z_ups]
      have v24 : ∀ i, M1 324 i = if i = G 321 17 then so else M 324 i := fun i => by
        rw [← hM1, z_upn (by decide), z_upn (by decide)]
        by_cases e : i = G 321 17
        · rw [if_pos e, e, z_ups]
        · rw [if_neg e, z_upi e rfl, z_upn (by decide), z_upn (by decide)]
      have v25 : ∀ i, M1 325 i = if i = G 321 17 then ar else M 325 i := fun i => by
        rw [← hM1, z_upn (by decide)]
        by_cases e : i = G 321 17
        · rw [if_pos e, e, z_ups]
        · rw [if_neg e, z_upi e rfl, z_upn (by decide), z_upn (by decide), z_upn (by decide)]
      have v28 : M1 328 = M 328 := by rw [← hM1, z_upn (by decide), z_upn (by decide), z_upn (by decide), z_upn (by decide), z_upn (by decide)]
      clear hM1
      refine s_X10_next (d := d + 6) (zq_f_F f1 hF) c1 h27 (fun M2 f2 c2 => ?_)
      rw [er] at kO
      obtain ⟨r1, r2, r3, r4, r5, r6⟩ := zf_add_r (G := zf_un G) (so := so) (ar := ar) (by omega)
      have m : ∀ i, ¬ zs_j i → M2 321 i = M1 321 i := fun i hi => f2.2 i hi
      refine gX10_unit_179 ⟨rfl, rfl, kO M2 _ 0 (zq_f_t f1 (zq_f_h f2)) (fun i _ => by rw [f2.1 328 (by decide), v28]) rfl c2 ⟨?_, ?_, ⟨?_, ?_⟩, ⟨?_, ?_⟩, fun k k1 k2 => ?_, fun i i1 i2 => by omega, fun i i1 i2 => by omega⟩ (by omega) ⟨fun w => absurd w (by decide), fun w => absurd w (by decide), fun w => absurd w (by decide), fun w => absurd w (by decide), fun w => absurd w (by decide)⟩⟩
      · rw [m 19 (by unfold zs_j; omega), g 19 (by decide) (by decide) (by decide)]
        exact l1
      · rw [m 23 (by unfold zs_j; omega), g 23 (by decide) (by decide) (by decide), e23]
        unfold zq_n
        omega
      · show M2 321 20 = zf_add so ar (zf_un G) 321 20
        rw [m 20 (by unfold zs_j; omega), v20, r2 20 (by decide), u3]
      · show M2 321 22 = zf_add so ar (zf_un G) 321 20
        rw [m 22 (by unfold zs_j; omega), v22, r2 20 (by decide), u3]
      · rw [m 17 (by unfold zs_j; omega), v17]
        omega
      · show M2 321 17 + ((0 : Nat) : Int) = zf_add so ar (zf_un G) 321 17
        rw [m 17 (by unfold zs_j; omega), v17, r3, u17]
        omega
      · rw [m 17 (by unfold zs_j; omega), v17] at k2
        show M2 324 k = zf_add so ar (zf_un G) 324 k ∧ M2 325 k = zf_add so ar (zf_un G) 325 k
        rw [f2.1 324 (by decide), f2.1 325 (by decide), v24, v25]
        by_cases e : k = G 321 17
        · rw [if_pos e, if_pos e, e]
          rw [u17] at r5 r6
          exact ⟨r5.symm, r6.symm⟩
        · rw [if_neg e, if_neg e, (r4 k (by rw [u17]; exact e)).1, (r4 k (by rw [u17]; exact e)).2, u24, u25]
          exact l5 k k1 (by omega)
    have ask : wp xs (d + 8) mX10_unit 2 [(2, 321), (0, 0), (3, 0)] [] z_LL M (fun r L1 M1 => r = none ∧ L1 = z_LL ∧ zLp xs d P M1) := by
      refine gX10_unit_2 (d := d + 7) (fun _ _ => ?_) (fun _ w => absurd (by omega) w) (fun w => absurd rfl w) (fun w => absurd rfl w) (fun w => absurd rfl w) (fun w => absurd rfl w) (fun w => absurd rfl w)
      refine s_X10_asked h ?_
      have two : (zt_k b n p = 25 ∨ (zt_k b n p = 3 ∨ (19 ≤ zt_k b n p ∧ zt_k b n p ≤ 23))) → wp xs (d + 7) mX10_isFull 0 [(2, 321)] [] z_LL M (fun r L1 M1 => wp xs (d + 8) mX10_unit 130 [(2, 321), (0, 0), (0, zq_a (zt_k b n p))] (z_ol r ++ []) L1 M1 (fun r L1 M1 => r = none ∧ L1 = z_LL ∧ zLp xs d P M1)) := fun hu => by
        refine s_X10_isFull ?_
        rw [full]
        have t := gX10_unit_130 (M := M) (xs := xs) (d := d + 7) (P := fun r L1 M1 => r = none ∧ L1 = z_LL ∧ zLp xs d P M1) (x1 := 0) (x2 := zq_a (zt_k b n p)) (s0 := z_b (30 ≤ G 321 20)) hF
        rw [e17, l3.1, l3.2, z_wid (x := G 321 20 + 1) (by omega), z_wid (x := G 321 17 + 1) (by omega)] at t
        have bd : 0 ≤ G 321 17 ∧ G 321 17 < 320 := by omega
        refine t (fun _ _ _ _ => bd) (fun w _ w3 _ => ?_) (fun _ _ _ _ => bd) (fun _ _ w w2 => absurd w w2) (fun _ _ _ _ => bd) (fun _ _ w w2 => absurd w2 w) (fun _ _ _ _ => bd) (fun w _ w3 _ => ?_) (fun _ w => absurd (by omega) w) (fun w => bad _ ?_)
        · have hu2 := zf_b0.mp w
          have ku : zt_k b n p = 3 ∨ (19 ≤ zt_k b n p ∧ zt_k b n p ≤ 23) := Classical.byContradiction (fun c => by
            unfold zq_a at w3
            rw [if_neg c] at w3
            omega)
          have ea : zq_a (zt_k b n p) = zf_ak (zt_k b n p) := by
            unfold zq_a
            rw [if_pos ku]
          rw [ea]
          refine leaf 1 (zf_ak (zt_k b n p)) _ hu2 ?_ (by omega)
          rw [zf_uni_o, if_neg hu2, if_neg k40, if_neg (by omega), if_pos ku]
        · have hu2 := zf_b0.mp w
          have k25 : zt_k b n p = 25 := hu.elim id (fun c => by
            unfold zq_a at w3
            rw [if_pos c] at w3
            unfold zf_ak at w3
            split at w3 <;> omega)
          rw [s8 k25]
          refine leaf 0 (zt_v b n p) _ hu2 ?_ (by omega)
          rw [zf_uni_o, if_neg hu2, if_neg k40, if_pos k25]
        · rw [zf_uni_o, if_pos (Classical.byContradiction (fun c => w (z_b_f c)))]
      refine gX10_unit_113 (d := d + 7) (fun w => two (Or.inl (s2.mp w))) (fun w w2 => bad _ ?_) (fun w w2 => two (Or.inr (Classical.byContradiction (fun c => w2 (by unfold zq_a; rw [if_neg c]; decide)))))
      rw [zf_uni_o]
      by_cases hu : 30 ≤ G 321 20
      · rw [if_pos hu]
      · have k25 : zt_k b n p ≠ 25 := fun c => w (s2.mpr c)
        have ku : ¬ (zt_k b n p = 3 ∨ (19 ≤ zt_k b n p ∧ zt_k b n p ≤ 23)) := fun c => by
          unfold zq_a at w2
          rw [if_pos c] at w2
          unfold zf_ak at w2
          split at w2 <;> omega
        rw [if_neg hu, if_neg k40, if_neg k25, if_neg ku]
    refine gX10_unit_2 (d := d + 7) (fun w => absurd w (by decide)) (fun w => absurd w (by decide)) (fun _ w => absurd n0 w) (fun _ w => absurd n0 w) (fun _ _ _ _ => ask) (fun _ _ _ w => absurd (fun c => k40 (s40.mp c)) w) (fun _ _ w => ?_)
    have k18 : zt_k b n p = 18 := w18.mp w
    have nb := hnot (by decide) k18
    refine s_X10_mayNot (d := d + 6) hF (by omega) ?_
    rw [e19, z_b_f (show ¬ (o = 0 ∨ M 328 (o - 1) = 20 ∨ zq_t (M 328 (o - 1)) < 4) from nb)]
    exact gX10_unit_27 (d := d + 7) (fun _ _ => ask) (fun _ c => absurd (fun c => k40 (s40.mp c)) c) (fun c => absurd rfl c) (fun c => absurd rfl c)
theorem mf_one {N : Option (zf_S → zf_S)} (hd : 0 ≤ dep ∧ dep ≤ 7) (h7 : N = none ↔ 7 ≤ dep) (hN : ∀ g, N = some g → mf xs b n 2 4 3 (dep + 1) g ∧ zf_ex 6 n g) (hf : mf xs b n 3 5 5 dep f) (hex : zf_ex 0 n f) : mf xs b n 2 4 3 dep (zf_one b n N f) := by
  intro d P M G p o hF h hy h30 hl ho hb hnot kE kO
  obtain ⟨n0, np, s6, s8, s9⟩ := zs_m_o h
  obtain ⟨l1, l2, l3, l4, l5, l6, l7⟩ := id hl
  have e23 : M 321 23 = dep := by rw [l2]; unfold zq_n; omega
  have e19 : M 321 19 = o := by omega
  have w18 := zt_m_w (h.2.2.2 p rfl) np (i := 18) (by decide)
  rw [show z_own8.getD 18 0 = 7237492 by decide] at w18
  have hy2 := hy.2.1
  rw [zf_one_o] at kE kO
  by_cases k18 : zt_k b n p = 18
  · rw [if_pos k18] at kE kO
    unfold zU
    refine gX10_unit_2 (d := d + 7) (fun w => absurd w (by decide)) (fun w => absurd w (by decide)) (fun _ w => absurd n0 w) (fun _ w => absurd n0 w) (fun _ _ w => absurd (w18.mpr k18) w) (fun _ _ w => absurd (w18.mpr k18) w) (fun _ _ _ => ?_)
    refine s_X10_mayNot (d := d + 6) hF (by omega) ?_
    rw [e19, z_b_t (show (o = 0 ∨ M 328 (o - 1) = 20 ∨ zq_t (M 328 (o - 1)) < 4) from hb)]
    have t := gX10_unit_27 (M := M) (xs := xs) (d := d + 7) (P := fun r L1 M1 => r = none ∧ L1 = z_LL ∧ zLp xs d P M1) (x1 := 1) (s0 := 1)
    rw [e23] at t
    refine t (fun w => absurd w (by decide)) (fun w => absurd w (by decide)) (fun _ w => ?_) (fun _ w => ?_)
    · cases N with
      | none => exact absurd (h7.mp rfl) (by omega)
      | some g =>
        obtain ⟨hg, hgx⟩ := hN g rfl
        have hn := zf_nxt (b := b) (n := n) (p := p) np (by omega)
        have hy1 : zf_y n (zt_x b n p) G := ⟨by omega, hy.2⟩
        refine q_open hF h (by omega) hl (by omega) hd (fun M' k => gX10_unit_50 k) (fun M2 f2 r2 e2 c2 l2' => ?_)
        change ∀ (M' : z_M) (e : Int × Int), zq_f M M' → (zf_ad 2 0 (g (.ok (zt_x b n p), G))).1 = .error e → _ at kE
        refine hg d P M2 G (zt_x b n p) (o + 1) (zq_f_F f2 hF) c2 hy1 h30 (l2' _) (by omega) ?_ (fun w => absurd w (by decide)) (fun M3 e f3 e3 c3 => kE M3 e (zq_f_t f2 f3) e3 c3) (fun M3 q j f3 r3 e3 c3 l3' hj s3 => ?_)
        · unfold zq_b
          rw [show o + 1 - 1 = o by omega, e2]
          exact Or.inr (Or.inr (by decide))
        · have hx := hgx _ _ hy1 q e3
          have eo : M3 328 o = 21 := by rw [r3 o (by omega), e2]
          have cc := q_comb (tk := 3) (dep := dep) l3' eo (by decide) (by decide) (by decide) (by rw [if_pos rfl]) (by omega)
          exact kO M3 q (j + 1) (zq_f_t f2 f3) (fun i hi => by rw [r3 i (by omega), r2 i hi]) e3 c3 cc (by omega) s3
    · cases N with
      | some g => exact absurd (h7.mpr (by omega)) (by simp)
      | none =>
        refine s_X10_wrong h (by decide) (fun M1 f1 c1 => gX10_unit_44 (d := d + 7) ?_)
        refine q_open_e (e := zs_f b n p 2) (zq_f_F (zq_f_h f1) hF) c1 (by rw [f1.2 19 (by unfold zs_j; omega)]; omega) (fun M' k => gX10_unit_50 k) (fun M' f c => kE M' _ (zq_f_t (zq_f_h f1) f) rfl c)
  · rw [if_neg k18] at kE kO
    have hl2 : ∀ tk, zq_l M G o dep tk 0 := fun tk => ⟨l1, l2, l3, l4, l5, l6, fun i i1 i2 => by omega⟩
    have b4 := hb
    unfold zq_b at b4
    refine hf d P M G p o hF h hy h30 (hl2 _) (by omega) (by unfold zq_b; omega) (fun _ w => absurd w k18) (fun M1 e f1 e1 c1 => ?_) (fun M1 q j f1 r1 e1 c1 l1' hj s1 => ?_)
    · refine kE M1 e f1 ?_ c1
      have : f (.ok p, G) = (.error e, (f (.ok p, G)).2) := Prod.ext e1 rfl
      rw [this]
      rfl
    · have e1' : f (.ok p, G) = (.ok q, (f (.ok p, G)).2) := Prod.ext e1 rfl
      have hx := hex p G hy
      have hxq := hx q e1
      generalize hG1 : (f (.ok p, G)).2 = G1 at *
      rw [e1', zf_r1_o] at kE kO
      rw [e1'] at hx
      have F1 := zq_f_F f1 hF
      have b1 : zq_b M1 o 4 := by
        unfold zq_b
        by_cases w0 : o = 0
        · exact Or.inl w0
        · rw [r1 (o - 1) (by omega)]
          exact b4
      by_cases c : zf_lv (zt_k b n q) = 2
      · rw [if_pos c] at kE kO
        have hn1 := zf_nxt (b := b) (n := n) (p := q) ⟨by have := hy.1; omega, hxq.1.2⟩ (zf_lv_26 c (by decide))
        have hy1 := zf_x_y (s := (.ok q, G1)) (p2 := zt_x b n q) (by decide) hy hx rfl ⟨by omega, hn1.2⟩
        dsimp only at hy1
        have hy18 := hy1.2.1
        obtain ⟨v1, v2, v3, v4, v5, v6⟩ := zq_v_k (k := zt_k b n q) (by rw [c]; decide)
        rw [c] at v1
        have v1 : zq_t (zf_sg (zt_k b n q)) = 4 := v1
        have nH : ¬ zq_H M1 := by
          rintro ⟨i, hi, h1, h2, h3⟩
          obtain ⟨k1, _, _, _, _, _, k7⟩ := l1'
          by_cases w : o ≤ i
          · have := (k7 i w (by omega)).2
            omega
          · unfold zq_b at b1
            by_cases w1 : i = o - 1
            · rw [w1] at h1 h2
              rcases b1 with z | z | z
              · omega
              · exact h1 z
              · omega
            · have := h3 (o - 1) (by omega) (by omega)
              rcases b1 with z | z | z
              · omega
              · exact this.1 z
              · omega
        refine q_sign (lv := 2) F1 c1 l1' (by omega) (by omega) hd c (by decide) (by decide) b1 (fun _ => nH) (fun M2 f2 r2 e2 c2 l2' => ?_)
        have f02 := zq_f_t f1 f2
        refine hf d P M2 G1 (zt_x b n q) (o + 1) (zq_f_F f2 F1) c2 hy1 (by omega) (l2' _) (by omega) ?_ (fun w _ => ?_) (fun M3 e f3 e3 c3 => ?_) (fun M3 q3 j3 f3 r3 e3 c3 l3' hj3 s3 => ?_)
        · unfold zq_b
          rw [show o + 1 - 1 = o by omega, e2, v1]
          exact Or.inr (Or.inr (by decide))
        · unfold zq_b
          rw [show o + 1 - 1 = o by omega, e2, v1]
          omega
        · refine kE M3 e (zq_f_t f02 f3) e3 c3
        · have hx3 := hex _ _ hy1 q3 e3
          have eo : M3 328 o = zf_sg (zt_k b n q) := by rw [r3 o (by omega), e2]
          have cc := q_comb (tk := 3) (dep := dep) l3' eo v2 (by omega) (by decide) (by rw [if_neg v3]; omega) (by omega)
          rw [show zq_c (zf_sg (zt_k b n q)) = (3, zf_sg (zt_k b n q)) by unfold zq_c; rw [if_neg v3]] at cc
          refine kO M3 q3 (j3 + 1) (zq_f_t f02 f3) (fun i hi => by rw [r3 i (by omega), r2 i hi, r1 i hi]) e3 c3 cc (by omega) ⟨fun _ => s3.1 (by decide), fun _ => s3.2.1 (by decide), fun _ _ => ?_, fun w => absurd w (by decide), fun w => absurd w (by decide)⟩
          obtain ⟨k1, _, _, _, _, _, k7⟩ := l3'
          refine ⟨o, by omega, by rw [eo]; exact v2, by rw [eo]; exact v1, fun i' i1 i2 => ?_⟩
          have := k7 i' (by omega) (by omega)
          exact ⟨this.1, by omega⟩
      · rw [if_neg c] at kE kO
        exact kO M1 q j f1 r1 rfl c1 (zq_l_w l1' (by decide)) (by omega) ⟨fun _ => s1.1 (by decide), fun _ => s1.2.1 (by decide), fun _ w => absurd w c, fun w => absurd w (by decide), fun w => absurd w (by decide)⟩
end
theorem mf_build {xs : List Int} {b : Int → Int} {n dep a : Int} {F N : Option (zf_S → zf_S)} (hn : n ≤ 1600) (hd : 0 ≤ dep ∧ dep ≤ 7) (ha : 0 ≤ a ∧ a ≤ 7) (h7 : F = none ↔ 7 ≤ dep) (h8 : N = none ↔ 7 ≤ dep) (hF : ∀ f, F = some f → mf xs b n 0 1 1 (dep + 1) f ∧ zf_ex 7 n f) (hN : ∀ f, N = some f → mf xs b n 2 4 3 (dep + 1) f ∧ zf_ex 6 n f) (ho : zf_ex a n (zf_o b n F N)) : mf xs b n 0 1 1 dep (zf_f b n F N) ∧ mf xs b n 2 4 3 dep (zf_o b n F N) := by
  have x0 := zf_uni_x (b := b) (n := n) (F := F) (fun f hf => (hF f hf).2)
  have t4 : mf xs b n 4 6 6 dep (zf_bin b n 4 (zf_uni b n F)) := mf_bin (lv := 4) (a := 0) (by omega) hn hd (by omega) (by decide) (by decide) (mf_uni hd h7 hF) x0
  have x4 : zf_ex 0 n (zf_bin b n 4 (zf_uni b n F)) := zf_bin_x (by omega) (by decide) x0
  have t3 : mf xs b n 3 5 5 dep (zf_tm b n F) := mf_bin (lv := 3) (a := 0) (by omega) hn hd (by omega) (by decide) (by decide) t4 x4
  have x3 : zf_ex 0 n (zf_tm b n F) := zf_bin_x (by omega) (by decide) x4
  have t2 : mf xs b n 2 4 3 dep (zf_o b n F N) := mf_one hd h8 hN t3 x3
  have t1 : mf xs b n 1 2 2 dep (zf_bin b n 1 (zf_o b n F N)) := mf_bin (lv := 1) (by omega) hn hd ha (by decide) (by decide) t2 ho
  exact ⟨mf_bin (lv := 0) (by omega) hn hd ha (by decide) (by decide) t1 (zf_bin_x ha (by decide) ho), t2⟩
theorem mf_all (xs : List Int) (b : Int → Int) (n : Int) (hn : n ≤ 1600) : ∀ r : Nat, r ≤ 7 → mf xs b n 0 1 1 (7 - r) (zf b n r).1 ∧ mf xs b n 2 4 3 (7 - r) (zf b n r).2
  | 0, h => mf_build (a := 0) hn (by omega) (by omega) ⟨fun _ => by omega, fun _ => rfl⟩ ⟨fun _ => by omega, fun _ => rfl⟩ (fun f w => by cases w) (fun f w => by cases w) (zf_all b n 0 h).2
  | r + 1, h => by
    obtain ⟨i1, i2⟩ := mf_all xs b n hn r (by omega)
    obtain ⟨e1, e2⟩ := zf_all b n r (by omega)
    have e : (7 : Int) - ((r + 1 : Nat) : Int) + 1 = 7 - r := by omega
    exact mf_build (a := ((r + 1 : Nat) : Int)) hn (by omega) (by omega) ⟨fun w => absurd w (by simp), fun w => by omega⟩ ⟨fun w => absurd w (by simp), fun w => by omega⟩ (fun f w => by injection w with w; rw [← w, e]; exact ⟨i1, zf_ex_le e1 (by omega)⟩) (fun f w => by injection w with w; rw [← w, e]; exact ⟨i2, zf_ex_le e2 (by omega)⟩) (zf_all b n (r + 1) h).2
theorem m_pull {xs : List Int} {d : Nat} {M G : z_M} {b : Int → Int} {n p : Int} {P : Option z_V → z_L → z_M → Prop} (hF : z_fix M) (h : zs_m M b n (.ok p)) (hk : zt_k b n p ≠ 27) (hk2 : zt_k b n p ≠ 26) (hm : zm_c M G) (h17 : G 321 17 = 0) (h20 : G 321 20 = 0) (k : ∀ M' : z_M, zm_b M M' → zj b n M' ((zf b n 7).1 (.ok (zt_x b n p), G)) → P none z_LL M') : wp xs (d + 9) mX10_readPull 0 [(2, 321), (3, 0), (3, 0)] [] z_LL M P := by
  have np := (zs_m_o h).2.1
  have hn := zf_nxt (b := b) (n := n) (p := p) np hk2
  have n1600 : n ≤ 1600 := h.1.2.2.1.2
  refine gX10_readPull_0 (d := d + 8) (s_X10_next (d := d + 7) hF h hk (fun M1 f1 c1 => ?_))
  have m1 := zm_c_h hm f1
  refine gX10_readPull_4 (d := d + 8) (gX10_unit_0 ?_)
  generalize hM2 : z_up (z_up (z_up (z_up M1 321 17 0) 321 19 0) 321 23 0) 321 22 0 = M2
  have f2 : zq_f M1 M2 := by
    rw [← hM2]
    exact zq_f_t (zq_f_t (zq_f_t (zq_f_u (by omega)) (zq_f_u (by omega))) (zq_f_u (by omega))) (zq_f_u (by omega))
  have c2 : zs_m M2 b n (.ok (zt_x b n p)) := by
    rw [← hM2]
    exact zs_m_u (by decide) (by omega) (zs_m_u (by decide) (by omega) (zs_m_u (by decide) (by omega) (zs_m_u (by decide) (by omega) c1)))
  have v17 : M2 321 17 = 0 := by rw [← hM2, z_upi (by decide) rfl, z_upi (by decide) rfl, z_upi (by decide) rfl, z_ups]
  have v19 : M2 321 19 = 0 := by rw [← hM2, z_upi (by decide) rfl, z_upi (by decide) rfl, z_ups]
  have v23 : M2 321 23 = 0 := by rw [← hM2, z_upi (by decide) rfl, z_ups]
  have v22 : M2 321 22 = 0 := by rw [← hM2, z_ups]
  have v20 : M2 321 20 = 0 := by rw [← hM2, z_upi (by decide) rfl, z_upi (by decide) rfl, z_upi (by decide) rfl, z_upi (by decide) rfl, m1.1 20 (by unfold zm_d; omega)]; exact h20
  clear hM2
  have b02 := zm_b_t (zm_b_h f1) (zq_f_b f2)
  have hy : zf_y n (zt_x b n p) G := ⟨by omega, by omega, by rw [h17]; show (0 : Int) ≤ 0; decide, by rw [h17, h20]; show (0 : Int) ≤ 0; decide⟩
  have key := (mf_all xs b n n1600 7 (by decide)).1 d P M2 G (zt_x b n p) 0 (zm_b_F b02 hF) c2 hy (by omega) ?_ (by omega) (Or.inl rfl) (fun w => absurd w (by decide)) (fun M' e f e1 c => k M' (zm_b_t b02 (zq_f_b f)) ⟨by rw [e1]; exact c, fun q hq => by rw [e1] at hq; cases hq⟩) (fun M' q j f r e1 c l hj s => ?_)
  · exact wp.mono key (fun r L' M' hr => by
      obtain ⟨e1, e2, e3⟩ := hr
      subst e1
      subst e2
      exact gX10_readPull_28 (e3 _))
  · refine ⟨by rw [v19]; rfl, by rw [v23]; unfold zq_n; omega, ⟨by rw [v20, h20], by rw [v22, h20]⟩, ⟨by rw [v17]; decide, by rw [v17, h17]; rfl⟩, fun k k1 k2 => by omega, fun i i1 i2 => by omega, fun i i1 i2 => by omega⟩
  · have hx := (zf_all b n 7 (by decide)).1 _ _ hy q e1
    obtain ⟨x1, x2, x3, x4, x5, x6, x7, x8⟩ := hx
    obtain ⟨l1, l2, l3, l4, l5, l6, l7⟩ := id l
    have nB : ¬ zq_B M' := fun ⟨i, i1, i2⟩ => (l7 i (by omega) (by omega)).1 i2
    have bn := zq_n_b (M := M') (o := 0) j
    have F' := zq_f_F f (zm_b_F b02 hF)
    refine q_stop F' c (by omega) s (fun _ => nB) (fun w => absurd w nB) (fun _ => ?_)
    refine s_X10_close (d := d + 7) (o := 0) (m := M' 321 17) j M' F' l1 (by omega) (fun i i1 i2 => ⟨(l7 i i1 i2).1, by have := (l7 i i1 i2).2; omega⟩) (Or.inl rfl) rfl (by omega) (by omega) (fun M3 f3 w19 w17 wi wk w23 => ⟨rfl, rfl, ?_⟩)
    refine k M3 (zm_b_t b02 (zm_b_t (zq_f_b f) (zq_e_b f3))) ⟨?_, fun q' hq' => ?_⟩
    · rw [e1]
      unfold zs_m zt_u zt_m at c ⊢
      rw [f3.1 322 (by decide) (by decide) (by decide), f3.2 5 (by decide) (by decide) (by decide), f3.2 2 (by decide) (by decide) (by decide), f3.2 3 (by decide) (by decide) (by decide), f3.2 6 (by decide) (by decide) (by decide), f3.2 7 (by decide) (by decide) (by decide), f3.2 4 (by decide) (by decide) (by decide), f3.2 8 (by decide) (by decide) (by decide), f3.2 9 (by decide) (by decide) (by decide)]
      exact c
    · have rows : ∀ x, x ≠ 321 → x ≠ 324 → x ≠ 325 → x ≠ 328 → M3 x = M1 x := fun x a1 a2 a3 a4 => by rw [f3.1 x a1 a2 a3, f.1 x a1 a2 a3 a4, f2.1 x a1 a2 a3 a4]
      have row : ∀ x, x ≠ 321 → x ≠ 324 → x ≠ 325 → x ≠ 328 → M1 x = G x → M3 x = ((zf b n 7).1 (.ok (zt_x b n p), G)).2 x := fun x a1 a2 a3 a4 e => by rw [rows x a1 a2 a3 a4, e, x2 x a1 a2 a3]
      obtain ⟨y1, y2, y3, y4, y5, y6, y7, y8, y9⟩ := m1
      refine ⟨fun i hi => ?_, fun k' k1 k2 => ?_, fun x a1 a2 => ?_, row _ (by decide) (by decide) (by decide) (by decide) y4, row _ (by decide) (by decide) (by decide) (by decide) y5, row _ (by decide) (by decide) (by decide) (by decide) y6, row _ (by decide) (by decide) (by decide) (by decide) y7, row _ (by decide) (by decide) (by decide) (by decide) y8, row _ (by decide) (by decide) (by decide) (by decide) y9⟩
      · by_cases w1 : i = 17
        · rw [w1, w17]
          omega
        · by_cases w2 : i = 20
          · rw [w2, f3.2 20 (by decide) (by decide) (by decide)]
            exact l3.1
          · unfold zm_d at hi
            rw [f3.2 i w1 (by omega) (by omega), f.2 i (by omega), f2.2 i (by omega), y1 i (by unfold zm_d; omega), x3 i w1 w2]
      · by_cases e : k' < M' 321 17
        · rw [(wk k' e).1, (wk k' e).2]
          exact l5 k' k1 e
        · have wi' := wi (k' - M' 321 17) (by omega) (by omega)
          have l6' := l6 (k' - M' 321 17) (by omega) (by omega)
          rw [show M' 321 17 + (k' - M' 321 17) = k' by omega] at wi' l6'
          rw [wi'.1, wi'.2, l6'.1, l6'.2]
          exact ⟨rfl, rfl⟩
      · rw [rows 331 (by decide) (by decide) (by decide) (by decide), y3 x a1 a2, x2 331 (by decide) (by decide) (by decide)]
