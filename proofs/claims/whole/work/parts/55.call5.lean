/-! THE CALLS: acts, on -/
section
variable {xs : List Int} {d : Nat} {M : z_M}
theorem z_pens_pt {s : Int → Int} {f v : Int} : ∀ n : Nat, (0 ≤ f ∧ f < n) → z_pens (z_pt s (6 + f) v) n = z_pens s n + (v - s (6 + f)) * 2 ^ f.toNat
  | 0, h => by omega
  | n + 1, h => by
    rw [z_pens, z_pens]
    by_cases e : f = n
    · rw [e, z_pt_s, z_pens_c (n := n) (t := s) (fun g a b => z_pt_n (by omega)), Int.toNat_natCast, Int.sub_mul]
      omega
    · rw [z_pens_pt n (by omega), z_pt_n (by omega)]
      omega
theorem z_xor_t : ∀ k : Nat, k < 6 → ∀ x : Nat, x < 64 → z_xor x (z_shl 1 k) = (x : Int) + (1 - 2 * z_and (z_shr x k) 1) * 2 ^ k := by decide +kernel
theorem z_pens_x {s : Int → Int} {n : Nat} (hs : ∀ f : Int, 0 ≤ f → f < n → s (6 + f) = 0 ∨ s (6 + f) = 1) (hn : n ≤ 6) {f : Int} (hf : 0 ≤ f ∧ f < n) : z_xor (z_pens s n) (z_shl 1 f) = z_pens (z_pt s (6 + f) (1 - s (6 + f))) n := by
  have hr := z_pens_r hs hn
  have hb := z_pens_b hs hn hf
  rw [z_pens_pt n hf]
  obtain ⟨k, rfl⟩ : ∃ k : Nat, f = k := ⟨f.toNat, by omega⟩
  obtain ⟨x, hx⟩ : ∃ x : Nat, z_pens s n = (x : Int) := ⟨(z_pens s n).toNat, by omega⟩
  rw [hx] at hb hr ⊢
  rw [z_xor_t k (by omega) x (by omega), hb, Int.toNat_natCast]
  congr 2
  omega
theorem z_hrd_pen {h : Int} {s : Int → Int} {f : Int} (hC : z_mc M) (hH : z_hrd M h s) (hS : z_sn M 999 s) (hf : 0 ≤ f ∧ f < M 321 48) : z_hrd (z_up M h 5 (z_xor (M h 5) (z_shl 1 f))) h (z_pt s (6 + f) (1 - s (6 + f))) := by
  have hn := hC.2.2.1
  have hs := z_hsep hH.1
  obtain ⟨a1, a2, a3, a4, a5, a6, a7⟩ := hH
  unfold z_hrd
  rw [z_upn (q := 321) (by omega), z_upn (q := h + 1) (by omega), z_upn (q := h + 2) (by omega), z_upn (q := h + 3) (by omega), z_upn (q := h + 4) (by omega), z_upn (q := h + 5) (by omega)]
  refine ⟨⟨a1.1, fun k h1 h2 => by rw [z_upi (by omega) rfl]; exact a1.2 k h1 h2⟩, fun g h1 h2 => ?_, fun c h1 h2 => ?_, fun x y h1 h2 h3 => ?_, ?_, ?_, ?_⟩
  · rw [z_pt_n (by omega), z_pt_n (by omega)]
    exact a2 g h1 h2
  · rw [z_pt_n (by omega), z_pt_n (by omega)]
    exact a3 c h1 h2
  · rw [z_pt_n (by omega), z_pt_n (by omega)]
    exact a4 x y h1 h2 h3
  · rw [z_ups, a5]
    exact z_pens_x (fun f a b => (hS.1 f a (by omega)).2.1) (by omega) (by omega)
  · rw [z_upi (by decide) rfl, z_pt_n (by omega)]
    exact a6
  · rw [z_upi (by decide) rfl, z_pt_n (by omega)]
    exact a7
theorem z_sn_pen {s : Int → Int} {f : Int} (hC : z_mc M) (hS : z_sn M 999 s) (hf : 0 ≤ f ∧ f < M 321 48) : z_sn M 999 (z_pt s (6 + f) (1 - s (6 + f))) := by
  have hn := hC.2.2.1
  obtain ⟨a1, a2, a3, a4, a5, a6⟩ := hS
  refine ⟨fun g h1 h2 => ?_, fun x h1 h2 => ?_, fun k h1 h2 => ?_, ?_, ?_, fun x y h1 h2 h3 h4 h5 => ?_⟩
  · rw [z_pt_n (j := g) (by omega), z_pt_n (j := 12 + g) (by omega)]
    refine ⟨(a1 g h1 h2).1, ?_, (a1 g h1 h2).2.2⟩
    by_cases e : g = f
    · rw [e, z_pt_s]
      have := (a1 f hf.1 hf.2).2.1
      omega
    · rw [z_pt_n (by omega)]
      exact (a1 g h1 h2).2.1
  · rw [z_pt_n (by omega), z_pt_n (by omega)]
    exact a2 x h1 h2
  · rw [z_pt_n (by omega), z_pt_n (by omega)]
    exact a3 k h1 h2
  · rw [z_pt_n (by omega)]
    exact a4
  · rw [z_pt_n (by omega)]
    exact a5
  · rw [z_pt_n (by omega)]
    exact a6 x y h1 h2 h3 h4 h5
theorem c_pen {a1 : Int} (hR : z_R M) : z_two xs (d + 200) mX9_pen mX10_pen [(2, 1), (0, a1)] [(2, 321), (0, a1)] M := by
  have hn := (z_R_C hR).2.2.1
  obtain ⟨n1, n2, n3, n4, n5⟩ := z_R_n hR
  have g := fun P => gX9_pen_0 (M := M) (xs := xs) (d := d + 199) (P := P) (a1 := a1) (z_R_F hR) (z_R_g hR).1 (z_R_H hR).1
  simp only [n3] at g
  by_cases h : 0 ≤ a1 ∧ a1 < M 321 48
  · have r01 := ((z_R_S hR).1 a1 h.1 h.2).2.1
    refine z_act (v := 1 - M 342 (6 + a1)) (t := z_pt (M 342) (6 + a1) (1 - M 342 (6 + a1))) hR (fun P k => ?_) (fun M2 P e hF k => ?_) (z_sn_pen (z_R_C hR) (z_R_S hR) h)
    · refine g _ (fun _ => by omega) (fun _ _ => by omega) (fun _ _ => ?_)
      refine s_keep hR (fun M1 r A sh K Hr H1 q1 q321 hh => ?_)
      refine gX9_pen_24 (M := M1) (x1 := a1) hh ?_
      have ko := z_kpt_o hR K
      have c1 := z_cfe_c (M := M) (M' := M1) (fun q hq => ko.1 q (by unfold z_conf at hq; omega))
      have H2 := z_hrd_pen (z_mc_x c1 (z_R_C hR)) H1 (z_sn_x c1 (z_R_S hR)) (by rw [q321]; exact h)
      have hs := z_hsep H1.1
      rw [q1]
      have e5 : z_and (z_shr (z_xor (M1 (M 1 2) 5) (z_shl 1 a1)) a1) 1 = 1 - M 342 (6 + a1) := by
        have e := H2.2.2.2.2.1
        rw [z_ups, z_upn (by omega), q321] at e
        rw [e, z_pens_b (fun f a b => ((z_sn_pen (z_R_C hR) (z_R_S hR) h).1 f a (by omega)).2.1) (by omega) (by omega), z_pt_s]
      rw [e5]
      exact k M1 _ r A sh K Hr ⟨fun q _ _ _ _ e => z_upn (by omega), fun j _ => by rw [z_upn (by omega)], fun j _ hj => z_upi (by omega) rfl⟩ H2
    · have e321 := e 321 (by omega)
      refine gX10_pen_0 hF (z_mc_x (z_cfe_c (fun q hq => e q (by unfold z_conf at hq; omega))) (z_R_C hR)) (fun _ => ?_) (fun q => absurd (by rw [e321]; exact h) q)
      refine s_act hR e hF (fun M3 A sh m1 m2 m3 m4 m5 m6 hF3 e342 => ?_)
      have g := gX10_pen_14 (M := M3) (xs := xs) (d := d + 200) (P := P) (x1 := a1) hF3
      simp only [z_wid (x := 6 + a1) (by omega), e342, z_wid (x := 1 - M 342 (6 + a1)) (by omega)] at g
      refine g (by omega) (k M3 _ A sh m1 m2 m3 m4 m5 m6 (fun q a b c => z_upn c) (fun k hk => ⟨?_, ?_⟩) (fun k a b => ?_))
      · rw [z_upi (by omega) rfl, e342]
        exact (z_R_Z hR k hk).1
      · rw [z_upn (by decide), m1 343 (by omega) (by omega), e 343 (by omega)]
        exact (z_R_Z hR k hk).2
      · rw [z_upw, e342]
  · refine z_two_n (-1) hR (fun P k => g _ (fun _ => k) (fun _ _ => k) (fun _ _ => by omega)) (fun P k => gX10_pen_0 (z_R_F hR) (z_R_C hR) (fun q => absurd q h) (fun _ => k))
theorem z_abs_dis {a b : Int} (ha : 0 ≤ a ∧ a < 1000) (hb : 0 ≤ b ∧ b < 1000) : z_abs (z_w (a - b)) = z_dis a b := by
  rw [z_wid (by omega)]
  unfold z_abs z_dis
  by_cases c : a - b < 0
  · rw [if_pos c, if_pos (by omega), z_wid (by omega)]
    omega
  · rw [if_neg c, if_neg (by omega)]
theorem s_X1_apart {P : Option z_V → z_L → z_M → Prop} {g a b : Int} (hg : z_gor M g) (hc : 2 ≤ M g 10 ∧ M g 10 ≤ 5) (ha : 0 ≤ a ∧ a < 25) (hb : 0 ≤ b ∧ b < 25) (k : P (some (0, z_far (M g 10) a b)) z_LL M) : wp xs (d + 1) mX1_apart 0 [(2, g), (0, a), (0, b)] [] z_LL M P := by
  have r1 := z_rc hc ha
  have r2 := z_rc hc hb
  have d1 := z_dis_b r1.1 r2.1
  have d2 := z_dis_b r1.2 r2.2
  have gg := gX1_apart_0 (M := M) (xs := xs) (d := d) (P := P) (g := g) (a1 := a) (a2 := b) hg
  simp only [z_div_pos (a := a) (c := M g 10) (by omega) (by omega), z_div_pos (a := b) (c := M g 10) (by omega) (by omega), z_rem_pos (a := a) (c := M g 10) (by omega) (by omega), z_rem_pos (a := b) (c := M g 10) (by omega) (by omega), z_abs_dis (a := a / M g 10) (b := b / M g 10) (by omega) (by omega), z_abs_dis (a := a % M g 10) (b := b % M g 10) (by omega) (by omega), z_wid (x := z_dis (a / M g 10) (b / M g 10) + z_dis (a % M g 10) (b % M g 10)) (by omega)] at gg
  unfold z_far at k
  rw [Int.add_comm] at k
  apply gg
  case l1 => exact fun _ _ _ _ => k
  all_goals (intros; omega)
theorem z_sn_at {s : Int → Int} {f c : Int} (hC : z_mc M) (hS : z_sn M 999 s) (hf : 0 ≤ f ∧ f < M 321 48) (hc : 0 ≤ c ∧ c < M 321 46 * M 321 47) : z_sn M 999 (z_pt s f c) := by
  have hn := hC.2.2.1
  obtain ⟨a1, a2, a3, a4, a5, a6⟩ := hS
  refine ⟨fun g h1 h2 => ?_, fun x h1 h2 => ?_, fun k h1 h2 => ?_, ?_, ?_, fun x y h1 h2 h3 h4 h5 => ?_⟩
  · rw [z_pt_n (j := 6 + g) (by omega), z_pt_n (j := 12 + g) (by omega)]
    refine ⟨?_, (a1 g h1 h2).2⟩
    by_cases e : g = f
    · rw [e, z_pt_s]
      exact hc
    · rw [z_pt_n (by omega)]
      exact (a1 g h1 h2).1
  · rw [z_pt_n (by omega), z_pt_n (by omega)]
    exact a2 x h1 h2
  · rw [z_pt_n (by omega), z_pt_n (by omega)]
    exact a3 k h1 h2
  · rw [z_pt_n (by omega)]
    exact a4
  · rw [z_pt_n (by omega)]
    exact a5
  · rw [z_pt_n (by omega)]
    exact a6 x y h1 h2 h3 h4 h5
theorem c_drive {a1 a2 : Int} (hR : z_R M) : z_two xs (d + 200) mX9_drive mX10_drive [(2, 1), (0, a1), (0, a2), (3, 0)] [(2, 321), (0, a1), (0, a2), (3, 0)] M := by
  have hn := (z_R_C hR).2.2.1
  have hx := z_mc_cells (z_R_C hR)
  obtain ⟨n1, n2, n3, n4, n5⟩ := z_R_n hR
  have g := fun P => gX9_drive_0 (M := M) (xs := xs) (d := d + 198) (P := P) (a1 := a1) (a2 := a2) (z_R_g hR).1 (z_R_H hR).1
  simp only [n1, n2, n3, n5] at g
  by_cases h : (0 ≤ a1 ∧ a1 < M 321 48) ∧ (0 ≤ a2 ∧ a2 < M 321 46 * M 321 47)
  · have e := z_R_f hR h.1.1 h.1.2
    simp only [e.1.1, e.1.2.2] at g
    have rg := (z_R_S hR).1 a1 h.1.1 h.1.2
    have ap : ∀ P : Option z_V → z_L → z_M → Prop, P (some (0, z_far (M 321 46) (M 342 a1) a2)) z_LL M → wp xs (d + 199) mX1_apart 0 [(2, M 1 0), (0, M 342 a1), (0, a2)] [] z_LL M P := fun P k => s_X1_apart (z_R_g hR).1 (by rw [n1]; exact (z_R_C hR).1) (by omega) (by omega) (by rw [n1]; exact k)
    have g2 : ∀ (M2 : z_M) P, z_fix M2 → z_mc M2 → M2 321 = M 321 → M2 342 = M 342 → _ := fun M2 P hF hC e1 e2 => by
      have g := gX10_drive_0 (M := M2) (xs := xs) (d := d + 198) (P := P) (a1 := a1) (a2 := a2) hF hC
      simp only [e1, e2, z_wid (x := 6 + a1) (by omega)] at g
      exact g
    by_cases hp : M 342 (6 + a1) = 1
    · refine z_two_n (-1) hR (fun P k => g _ (fun _ => by omega) (fun _ _ => by omega) (fun _ _ _ => by omega) (fun _ _ _ _ => by omega) (fun _ _ _ _ _ => by omega) (fun _ _ _ _ q => by omega) (fun _ _ _ _ _ => k)) (fun P k => g2 M P (z_R_F hR) (z_R_C hR) rfl rfl (fun q => absurd h.1 q) (fun _ q => absurd h.2 q) (fun _ _ => by omega) (fun _ _ _ => k) (fun _ _ q => absurd hp q) (fun _ _ q => absurd hp q) (fun _ _ q => absurd hp q) (fun _ _ q => absurd hp q))
    · by_cases hf : z_far (M 321 46) (M 342 a1) a2 = 1
      · refine z_act (v := M 342 a1) (t := z_pt (M 342) a1 a2) hR (fun P k => ?_) (fun M2 P e hF k => ?_) (z_sn_at (z_R_C hR) (z_R_S hR) h.1 h.2)
        · refine g _ (fun _ => by omega) (fun _ _ => by omega) (fun _ _ _ => by omega) (fun _ _ _ _ => by omega) (fun _ _ _ _ _ => by omega) (fun _ _ _ _ _ => ?_) (fun _ _ _ _ q => absurd (by omega) q)
          refine ap _ ?_
          refine gX9_drive_54 (x1 := a1) (x2 := a2) (x3 := M 342 a1) (s0 := z_far (M 321 46) (M 342 a1) a2) (z_R_F hR) (z_R_H hR).1 (fun _ => ?_) (fun q => absurd hf q)
          refine s_keep hR (fun M1 r A sh K Hr H1 q1 q321 hh => ?_)
          refine gX9_drive_71 (M := M1) (x1 := a1) (x2 := a2) (x3 := M 342 a1) hh (by omega) ?_
          rw [q1]
          have hs := z_hsep H1.1
          refine k M1 _ r A sh K Hr (z_psf_1 H1.1 (by omega) (fun q hq => z_upn hq)) (z_hrd_r1 H1 (fun q hq => z_upn (by omega)) (fun f a b => ?_) (fun k hk => z_pt_n (by omega)))
          by_cases e : f = a1
          · rw [e, z_ups, z_pt_s]
          · rw [z_upi e rfl, z_pt_n e]
            exact (H1.2.1 f a b).1
        · have e321 := e 321 (by omega)
          refine g2 M2 P hF (z_mc_x (z_cfe_c (fun q hq => e q (by unfold z_conf at hq; omega))) (z_R_C hR)) e321 (e 342 (by omega)) (fun q => absurd h.1 q) (fun _ q => absurd h.2 q) (fun _ _ => by omega) (fun _ _ q => absurd q hp) (fun _ _ _ => by omega) (fun _ _ _ => by omega) (fun _ _ _ _ => ?_) (fun _ _ _ q => absurd hf q)
          refine s_act hR e hF (fun M3 A sh m1 m2 m3 m4 m5 m6 hF3 e342 => ?_)
          have g := gX10_drive_50 (M := M3) (xs := xs) (d := d + 200) (P := P) (x1 := a1) (x2 := a2) hF3
          rw [e342] at g
          refine g (by omega) (k M3 _ A sh m1 m2 m3 m4 m5 m6 (fun q a b c => z_upn c) (fun k hk => ⟨?_, ?_⟩) (fun k a b => ?_))
          · rw [z_upi (by omega) rfl, e342]
            exact (z_R_Z hR k hk).1
          · rw [z_upn (by decide), m1 343 (by omega) (by omega), e 343 (by omega)]
            exact (z_R_Z hR k hk).2
          · rw [z_upw, e342]
      · refine z_two_n (-1) hR (fun P k => g _ (fun _ => by omega) (fun _ _ => by omega) (fun _ _ _ => by omega) (fun _ _ _ _ => by omega) (fun _ _ _ _ _ => by omega) (fun _ _ _ _ q => ap _ (gX9_drive_54 (x1 := a1) (x2 := a2) (x3 := M 342 a1) (s0 := z_far (M 321 46) (M 342 a1) a2) (z_R_F hR) (z_R_H hR).1 (fun q => absurd q hf) (fun _ => k))) (fun _ _ _ _ _ => k)) (fun P k => g2 M P (z_R_F hR) (z_R_C hR) rfl rfl (fun q => absurd h.1 q) (fun _ q => absurd h.2 q) (fun _ _ => by omega) (fun _ _ _ => k) (fun _ _ _ => by omega) (fun _ _ _ => by omega) (fun _ _ _ q => absurd q hf) (fun _ _ _ _ => k))
  · refine z_two_n (-1) hR (fun P k => ?_) (fun P k => ?_)
    · apply g
      all_goals first
        | (intros; exact k)
        | (intros; omega)
    · apply gX10_drive_0 (z_R_F hR) (z_R_C hR)
      all_goals first
        | (intros; exact k)
        | (intros; omega)
end
