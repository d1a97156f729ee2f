/-! the class's day, whole -/
def z_psf (M M' : z_M) (h : Int) : Prop := (∀ q, q ≠ 34 → q ≠ 35 → q ≠ 36 → q ≠ 37 → ¬ (h ≤ q ∧ q ≤ h + 5) → M' q = M q) ∧ (∀ j, j ≠ 4 → M' 34 j = M 34 j) ∧ ∀ j, 0 ≤ j → j < 5 → M' h j = M h j
theorem z_psf_r {M : z_M} {h : Int} : z_psf M M h := ⟨fun _ _ _ _ _ _ => rfl, fun _ _ => rfl, fun _ _ _ => rfl⟩
theorem z_psf_t {M M1 M2 : z_M} {h : Int} (a : z_psf M M1 h) (b : z_psf M1 M2 h) : z_psf M M2 h := ⟨fun q p1 p2 p3 p4 p5 => by rw [b.1 q p1 p2 p3 p4 p5, a.1 q p1 p2 p3 p4 p5], fun j hj => by rw [b.2.1 j hj, a.2.1 j hj], fun j h0 hj => by rw [b.2.2 j h0 hj, a.2.2 j h0 hj]⟩
theorem z_psf_1 {M M' : z_M} {h r : Int} (hh : z_her M h) (hr : h < r ∧ r ≤ h + 5) (hM : ∀ q, q ≠ r → M' q = M q) : z_psf M M' h := by
  have := z_hsep hh
  exact ⟨fun q _ _ _ _ e => hM q (by omega), fun j _ => by rw [hM 34 (by omega)], fun j _ _ => by rw [hM h (by omega)]⟩
theorem z_psf_h {M M' : z_M} {h : Int} (f : z_psf M M' h) (hh : z_her M h) : z_her M' h := ⟨hh.1, fun k h1 h2 => by rw [f.2.2 k h1 (by omega)]; exact hh.2 k h1 h2⟩
theorem z_psf_fix {M M' : z_M} {h : Int} (f : z_psf M M' h) (hh : z_her M h) (hF : z_fix M) : z_fix M' := z_fix_gen hF (fun q i hq => by
  have := z_hsep hh
  by_cases e : q = 34
  · rw [e]
    exact f.2.1 i (by unfold z_fin at hq; omega)
  · by_cases e2 : q = h
    · rw [e2] at hq ⊢
      exact f.2.2 i (by unfold z_fin at hq; omega) (by unfold z_fin at hq; omega)
    · have hq2 := hq
      have hi := hh.1
      unfold z_ish at hi
      rw [f.1 q e (by unfold z_fin at hq; omega) (by unfold z_fin at hq; omega) (by unfold z_fin at hq; omega) (by unfold z_fin at hq; omega)])
theorem z_psf_c {M M' : z_M} {h : Int} (f : z_psf M M' h) (hh : z_her M h) : ∀ q, z_conf q → M' q = M q := fun q hq => by
  have := z_hsep hh
  unfold z_conf at hq
  exact f.1 q (by omega) (by omega) (by omega) (by omega) (by omega)
theorem z_psf_gg {M M' : z_M} {h : Int} (f : z_psf M M' h) (hh : z_her M h) (hG : z_gg M (M 34 3)) : z_gg M' (M' 34 3) := by
  have := z_gsep hG.1
  have := z_hsep hh
  rw [f.2.1 3 (by decide)]
  refine z_gg_q (fun q hq => ?_) hG
  rcases hq with hq | hq
  · exact z_psf_c f hh q hq
  · exact f.1 q (by omega) (by omega) (by omega) (by omega) (by omega)
theorem z_eat_q {M M' : z_M} (hM : M' 339 = M 339) (s : Int → Int) : ∀ n : Nat, z_eat M' s n = z_eat M s n
  | 0 => rfl
  | n + 1 => by
    rw [z_eat, z_eat, z_eat_q hM s n, hM]
theorem s_X8_pass {xs : List Int} {d : Nat} {M : z_M} {P : Option z_V → z_L → z_M → Prop} {h ev D : Int} {s : Int → Int} (hF : z_fix M) (hC : z_mc M) (hP : z_fp M) (hY : z_fsy M) (hG : z_gg M (M 34 3)) (hH : z_hrd M h s) (hS : z_sn M D s) (hD : D ≤ 100000) (hev : 1 ≤ ev) (k : ∀ M' : z_M, z_psf M M' h → (∀ c : Int, 0 ≤ c → c < 25 → (z_bt (M' 34 4) c ↔ z_bt (M 34 4) c ∨ z_lkn M s (M 321 48).toNat c)) → z_hrd M' h (z_day M ev s) → P (some (0, (z_d5 M ev s).2)) z_LL M') : wp xs (d + 3) mX8_pass 0 [(2, 34), (2, h), (0, ev), (3, 0)] [] z_LL M P := by
  have hn := hC.2.2.1
  have hx := z_mc_cells hC
  have hh := z_hsep hH.1
  refine gX8_pass_0 hH.1 ?_
  refine s_X8_go hF hC hP hG hH hS (fun M1 f1a f1b lk1 at1 => ?_)
  have f1 : z_psf M M1 h := ⟨fun q a b c e g => f1a q a b c e (by omega), f1b, fun j _ _ => by rw [f1a h (by omega) (by omega) (by omega) (by omega) (by omega)]⟩
  have H1 : z_hrd M1 h (z_d1 M s) := z_hrd_r1 hH (fun q hq => f1a q (by omega) (by omega) (by omega) (by omega) (by omega)) (fun f a b => by rw [at1 f a b]; unfold z_d1; rw [z_mv_y ⟨a, b⟩]) (fun k hk => z_d1_o (by omega))
  have C1 := z_psf_c f1 hH.1
  refine gX8_pass_5 H1.1 ?_
  refine s_X8_eat (z_mc_e C1 hC) (z_psf_gg f1 hH.1 hG) H1 (fun f a b => ?_) (fun c a b => ?_) (fun M2 f2 H2 => ?_)
  · rw [C1 321 (by unfold z_conf; omega)] at b
    have := z_d1_at (M := M) (xs := []) (d := 0) (P := fun _ _ _ => True) hS a b
    omega
  · rw [z_d1_o (by omega)]
    exact (hS.2.1 c a b).1
  rw [C1 321 (by unfold z_conf; omega), z_eat_q (C1 339 (by unfold z_conf; omega))] at H2
  have H2 : z_hrd M2 h (z_d2 M s) := H2
  have f2 : z_psf M M2 h := z_psf_t f1 (z_psf_1 H1.1 (by omega) f2)
  have lk2 : M2 34 4 = M1 34 4 := by
    rename_i f2' _
    rw [f2' 34 (by omega)]
  refine gX8_pass_10 H2.1 ?_
  refine z_loop (W := fun i => ∀ (M' : z_M), (∀ q, q ≠ h + 4 → M' q = M2 q) → (∀ c : Int, 0 ≤ c → c < 25 → M' (h + 4) c = z_slt (z_d2 M s) i (79 + c)) → wp xs (d + 3) mX8_pass 12 [(2, 34), (2, h), (0, ev), (0, (i : Int))] [] z_LL M' P) 25 (fun i hi ih M' hM hv => ?_) M2 (fun _ _ => rfl) (fun c a b => by rw [(H2.2.2.1 c a b).2, z_slt_o (by omega)])
  have g := gX8_pass_12 (M := M') (xs := xs) (d := d + 2) (P := P) (x1 := h) (x2 := ev) (x3 := (i : Int)) (z_her_q (hM h (by omega)) H2.1)
  simp only [z_in1 (i := i) (by omega), z_max_eq] at g
  apply g
  case b1 => intros; omega
  case l2 =>
    intro c
    have r := (hS.2.1 i (by omega) (by omega)).2.1
    have e2 : z_d2 M s (79 + i) = s (79 + i) := by rw [z_d2_o hC hS (by omega), z_d1_o (by omega)]
    rw [hv i (by omega) (by omega), z_slt_o (by omega), e2, z_wid (by omega)]
    refine ih (by omega) _ (fun q hq => by rw [z_upn hq, hM q hq]) (fun c a b => ?_)
    rw [show ((i + 1 : Nat) : Int) = (i : Int) + 1 by omega, z_slt_s (by omega), e2]
    by_cases e : c = i
    · rw [e, z_ups, z_pt_s]
    · rw [z_upi e rfl, z_pt_n (by omega)]
      exact hv c a b
  case l1 =>
    intro c
    obtain rfl : i = 25 := by omega
    have q321 : M2 321 = M 321 := z_psf_c f2 hH.1 321 (by unfold z_conf; omega)
    have H3 : z_hrd M' h (z_d3 M s) := z_hrd_r4 H2 (fun q hq => hM q (by omega)) (by rw [q321]; omega) hv (fun j hj => z_slt_o (by omega))
    have f3 : z_psf M M' h := z_psf_t f2 (z_psf_1 H2.1 (by omega) hM)
    have lk3 : M' 34 4 = M1 34 4 := by rw [hM 34 (by omega), lk2]
    have C3 := z_psf_c f3 hH.1
    refine s_X8_mingle (z_mc_e C3 hC) (z_fsy_q C3 hY) (z_psf_gg f3 hH.1 hG) H3 (fun j a b => ?_) (fun M4 f4' H4 => ?_)
    · rw [z_d3_mx hC hS (by omega)]
      have := hS.2.2.1 j a b
      have := hS.2.2.2.1
      omega
    rw [z_evn_q C3] at H4
    have H4 : z_hrd M4 h (z_d4 M s) := H4
    have f4 : z_psf M M4 h := z_psf_t f3 (z_psf_1 H3.1 (by omega) f4')
    have C4 := z_psf_c f4 hH.1
    have q4 : M4 321 = M 321 := C4 321 (by unfold z_conf; omega)
    refine gX8_pass_47 H4.1 ?_
    refine s_X8_match (z_mc_e C4 hC) (z_psf_gg f4 hH.1 hG) H4 hev (fun a b a1 a2 b1 b2 c => ?_) (fun f a b => ?_) (fun M5 f5' H5 => ?_)
    · rw [q4] at a2 b2
      rw [z_cm_q C4] at c
      have := (z_sn_day (ev := ev) hC hS).2.2.2.2.2 a b a1 a2 b1 b2 c
      rw [z_day_mx (D := D) hC (by omega)] at this
      exact this
    · rw [q4] at b
      rw [z_d4_o (by omega), z_d3_mx hC hS (by omega)]
      exact (hS.1 f a b).2.2.1
    rw [q4, z_mto_q C4] at H5 ⊢
    have H5 : z_hrd M5 h (z_d5 M ev s).1 := H5
    have f5 : z_psf M M5 h := z_psf_t f4 (z_psf_1 H4.1 (by omega) f5')
    have C5 := z_psf_c f5 hH.1
    refine gX8_pass_53 (x1 := h) (s0 := (z_d5 M ev s).2) H5.1 ?_
    refine s_X8_rain (z_mc_e C5 hC) (z_psf_gg f5 hH.1 hG) H5 ?_ (fun c a b => ?_) (fun M6 f6' H6 => ?_)
    · rw [z_d5_o hC (by omega), z_d4_o (by omega), z_d3_o (by omega), z_d2_o hC hS (by omega), z_d1_o (by omega)]
      exact hS.2.2.2.2.1
    · rw [z_d5_o hC (by omega), z_d4_o (by omega), z_d3_o (by omega)]
      exact z_d2_g hC hS a b
    rw [z_rai_q C5] at H6
    have H6 : z_hrd M6 h (z_d6 M ev s) := H6
    have f6 : z_psf M M6 h := z_psf_t f5 ⟨fun q _ _ _ _ e => f6' q (by omega) (by omega), fun j _ => by rw [f6' 34 (by omega) (by omega)], fun j h0 hj => by rw [H6.1.2 j h0 hj, H5.1.2 j h0 hj]⟩
    have lk6 : M6 34 4 = M1 34 4 := by rw [f6' 34 (by omega) (by omega), f5' 34 (by omega), f4' 34 (by omega), lk3]
    refine gX8_pass_59 (x3 := (z_d5 M ev s).2) H6.1 ?_
    have e104 : M6 h 6 = s 104 := by
      rw [H6.2.2.2.2.2.1, z_d6_o (by omega) (by omega), z_d5_o hC (by omega), z_d4_o (by omega), z_d3_o (by omega), z_d2_o hC hS (by omega), z_d1_o (by omega)]
    have hs4 := hS.2.2.2.1
    have q6 : M6 321 = M 321 := z_psf_c f6 hH.1 321 (by unfold z_conf; omega)
    rw [e104, z_wid (by omega)]
    refine k _ (z_psf_t f6 ⟨fun q _ _ _ _ e => z_upn (by omega), fun j _ => by rw [z_upn (by omega)], fun j _ hj => z_upi (by omega) rfl⟩) (fun c a b => ?_) (z_hrd_r0 H6 (fun q hq => z_upn (by omega)) (fun j hj => z_upi (by omega) rfl) ?_ ?_ (by rw [q6]; omega) (fun k hk => z_pt_n (by omega)))
    · rw [z_upn (by omega), lk6]
      exact lk1 c a b
    · rw [z_ups]
      unfold z_day
      rw [z_pt_s, ← H6.2.2.2.2.2.1, e104]
    · rw [z_upi (by decide) rfl, H6.2.2.2.2.2.2]
      unfold z_day
      rw [z_pt_n (by decide)]
