/-! THE CALLS: breaks, day -/
section
variable {M M' : z_M}
theorem z_frm_x (h : z_cfe M M') : z_frm M' = z_frm M := by
  funext A
  unfold z_frm
  rw [z_e59 h, z_e18 h, h.2.1, h.2.2.1]
theorem z_pul_x (h : z_cfe M M') : z_pul M' = z_pul M := by
  funext s f c
  unfold z_pul z_ask z_ots
  rw [z_frm_x h, z_e48 h, z_e46 h, h.2.2.2.2.1]
theorem z_bst_x (h : z_cfe M M') (s : Int → Int) (f : Int) : ∀ n : Nat, z_bst M' s f n = z_bst M s f n
  | 0 => by rw [z_bst, z_bst, z_pul_x h]
  | n + 1 => by rw [z_bst, z_bst, z_bst_x h s f n, z_pul_x h, z_e46 h]
theorem z_gl_x (h : z_cfe M M') (s : Int → Int) : z_gl M' s = z_gl M s := by
  funext f
  unfold z_gl
  rw [z_bst_x h, z_e46 h, z_e47 h]
theorem z_evn_x (h : z_cfe M M') : z_evn M' = z_evn M := by
  funext s m k
  unfold z_evn z_evc
  rw [z_cm_x h, z_e48 h]
theorem z_mt1_x (h : z_cfe M M') : z_mt1 M' = z_mt1 M := by
  funext ev t a b
  unfold z_mt1
  rw [z_cm_x h]
theorem z_mti_x (h : z_cfe M M') (ev : Int) (t : (Int → Int) × Int) (a : Int) : ∀ j : Nat, z_mti M' ev t a j = z_mti M ev t a j
  | 0 => rfl
  | j + 1 => by rw [z_mti, z_mti, z_mti_x h ev t a j, z_mt1_x h]
theorem z_mto_x (h : z_cfe M M') (ev : Int) (t : (Int → Int) × Int) (n : Nat) : ∀ a : Nat, z_mto M' ev t n a = z_mto M ev t n a
  | 0 => rfl
  | a + 1 => by rw [z_mto, z_mto, z_mto_x h ev t n a, z_mti_x h]
theorem z_rai_x (h : z_cfe M M') : z_rai M' = z_rai M := by
  funext s
  unfold z_rai z_rap
  rw [z_e50 h, z_e51 h, z_e46 h, z_e47 h]
theorem z_d5_x (h : z_cfe M M') (ev : Int) (s : Int → Int) : z_d5 M' ev s = z_d5 M ev s := by
  have e1 : z_d1 M' s = z_d1 M s := by
    unfold z_d1
    rw [z_e48 h, z_gl_x h]
  have e2 : z_d2 M' s = z_d2 M s := by
    unfold z_d2
    rw [e1, z_e48 h, z_eat_q h.2.2.2.2.2.1]
  have e3 : z_d3 M' s = z_d3 M s := by
    unfold z_d3
    rw [e2]
  have e4 : z_d4 M' s = z_d4 M s := by
    unfold z_d4
    rw [e3, z_evn_x h]
  unfold z_d5
  rw [e4, z_e48 h, z_mto_x h]
theorem z_day_x (h : z_cfe M M') (ev : Int) (s : Int → Int) : z_day M' ev s = z_day M ev s := by
  have e6 : z_d6 M' ev s = z_d6 M ev s := by
    unfold z_d6
    rw [z_d5_x h, z_rai_x h]
  unfold z_day
  rw [e6]
end
section
variable {xs : List Int} {d : Nat} {M : z_M}
/-- a match of f with w is broken -/
def z_brk (s : Int → Int) (f w : Int) : Int → Int := z_pt (z_pt (z_pt (z_pt s (18 + 6 * f + w) 0) (18 + 6 * w + f) 0) (12 + f) (-1)) (12 + w) (-1)
theorem z_brk_m {s : Int → Int} {f w k : Int} (h : k = 12 + f ∨ k = 12 + w) : z_brk s f w k = -1 := by
  unfold z_brk z_pt
  by_cases e1 : k = 12 + w
  · rw [if_pos e1]
  · rw [if_neg e1, if_pos (show k = 12 + f by omega)]
theorem z_brk_x {s : Int → Int} {f w k : Int} (hf : 0 ≤ f ∧ f < 6) (hw : 0 ≤ w ∧ w < 6) (h : k = 18 + 6 * f + w ∨ k = 18 + 6 * w + f) : z_brk s f w k = 0 := by
  unfold z_brk z_pt
  rw [if_neg (show ¬ k = 12 + w by omega), if_neg (show ¬ k = 12 + f by omega)]
  by_cases e1 : k = 18 + 6 * w + f
  · rw [if_pos e1]
  · rw [if_neg e1, if_pos (show k = 18 + 6 * f + w by omega)]
theorem z_brk_o {s : Int → Int} {f w k : Int} (h : ¬ (k = 12 + f ∨ k = 12 + w)) (h2 : ¬ (k = 18 + 6 * f + w ∨ k = 18 + 6 * w + f)) : z_brk s f w k = s k := by
  unfold z_brk z_pt
  rw [if_neg (show ¬ k = 12 + w by omega), if_neg (show ¬ k = 12 + f by omega), if_neg (show ¬ k = 18 + 6 * w + f by omega), if_neg (show ¬ k = 18 + 6 * f + w by omega)]
theorem z_sn_brk {s : Int → Int} {f w : Int} (hC : z_mc M) (hS : z_sn M 999 s) (hf : 0 ≤ f ∧ f < M 321 48) (hw : 0 ≤ w ∧ w < M 321 48) : z_sn M 999 (z_brk s f w) := by
  have hn := hC.2.2.1
  obtain ⟨a1, a2, a3, a4, a5, a6⟩ := hS
  refine ⟨fun g h1 h2 => ?_, fun x h1 h2 => ?_, fun k h1 h2 => ?_, ?_, ?_, fun x y h1 h2 h3 h4 h5 => ?_⟩
  · rw [z_brk_o (k := g) (by omega) (by omega), z_brk_o (k := 6 + g) (by omega) (by omega)]
    refine ⟨(a1 g h1 h2).1, (a1 g h1 h2).2.1, ?_⟩
    by_cases e : g = f ∨ g = w
    · rw [z_brk_m (by omega)]
      omega
    · rw [z_brk_o (by omega) (by omega)]
      exact (a1 g h1 h2).2.2
  · rw [z_brk_o (k := 54 + x) (by omega) (by omega), z_brk_o (k := 79 + x) (by omega) (by omega)]
    exact a2 x h1 h2
  · rw [z_brk_o (k := 104) (by omega) (by omega)]
    by_cases e : k = 18 + 6 * f + w ∨ k = 18 + 6 * w + f
    · rw [z_brk_x (by omega) (by omega) e]
      omega
    · rw [z_brk_o (by omega) e]
      exact a3 k h1 h2
  · rw [z_brk_o (by omega) (by omega)]
    exact a4
  · rw [z_brk_o (by omega) (by omega)]
    exact a5
  · by_cases e : 18 + 6 * x + y = 18 + 6 * f + w ∨ 18 + 6 * x + y = 18 + 6 * w + f
    · exact z_brk_x (by omega) (by omega) e
    · rw [z_brk_o (by omega) e]
      exact a6 x y h1 h2 h3 h4 h5
theorem z_hrd_brk {h : Int} {s : Int → Int} {f w i : Int} (hC : z_mc M) (hH : z_hrd M h s) (hf : 0 ≤ f ∧ f < M 321 48) (hw : 0 ≤ w ∧ w < M 321 48) (hi : (w ≤ f ∧ i = w * 6 + f) ∨ (¬ w ≤ f ∧ i = f * 6 + w)) : z_hrd (z_up (z_up (z_up M (h + 5) i 0) (h + 2) f (-1)) (h + 2) w (-1)) h (z_brk s f w) := by
  have hn := hC.2.2.1
  have hs := z_hsep hH.1
  unfold z_hrd
  obtain ⟨a1, a2, a3, a4, a5, a6, a7⟩ := hH
  have o : ∀ q, q ≠ h + 5 → q ≠ h + 2 → z_up (z_up (z_up M (h + 5) i 0) (h + 2) f (-1)) (h + 2) w (-1) q = M q := fun q e1 e2 => by rw [z_upn e2, z_upn e2, z_upn e1]
  rw [o 321 (by omega) (by omega), o (h + 1) (by omega) (by omega), o (h + 3) (by omega) (by omega), o (h + 4) (by omega) (by omega), o h (by omega) (by omega), z_upn (q := h + 5) (by omega), z_upn (q := h + 5) (by omega)]
  refine ⟨z_her_q (o h (by omega) (by omega)) a1, fun g h1 h2 => ⟨?_, ?_⟩, fun c h1 h2 => ?_, fun x y h1 h2 h3 => ?_, ?_, ?_, ?_⟩
  · rw [z_brk_o (by omega) (by omega)]
    exact (a2 g h1 h2).1
  · by_cases e : g = w
    · rw [e, z_ups, z_brk_m (Or.inr rfl)]
    · rw [z_upi e rfl]
      by_cases e2 : g = f
      · rw [e2, z_ups, z_brk_m (Or.inl rfl)]
      · rw [z_upi e2 rfl, z_upn (by omega), z_brk_o (by omega) (by omega)]
        exact (a2 g h1 h2).2
  · rw [z_brk_o (by omega) (by omega), z_brk_o (by omega) (by omega)]
    exact a3 c h1 h2
  · have := a4 x y h1 h2 h3
    by_cases e : (x = f ∧ y = w) ∨ (x = w ∧ y = f)
    · rw [show i = 6 * x + y by omega, z_ups, z_brk_x (by omega) (by omega) (by omega), z_brk_x (by omega) (by omega) (by omega)]
      exact ⟨rfl, rfl⟩
    · rw [z_upi (by omega) rfl, z_brk_o (by omega) (by omega), z_brk_o (by omega) (by omega)]
      exact this
  · rw [a5]
    exact z_pens_c (fun g a b => by rw [z_brk_o (by omega) (by omega)])
  · rw [z_brk_o (by omega) (by omega)]
    exact a6
  · rw [z_brk_o (by omega) (by omega)]
    exact a7
theorem c_breaks {a1 : Int} (hR : z_R M) : z_two xs (d + 200) mX9_breaks mX10_breaks [(2, 1), (0, a1)] [(2, 321), (0, a1), (3, 0)] M := by
  have hn := (z_R_C hR).2.2.1
  obtain ⟨n1, n2, n3, n4, n5⟩ := z_R_n hR
  have g := fun P => gX9_breaks_0 (M := M) (xs := xs) (d := d + 199) (P := P) (a1 := a1) (z_R_F hR) (z_R_g hR).1 (z_R_H hR).1
  simp only [n3] at g
  have g2 : ∀ (M2 : z_M) P, z_fix M2 → z_mc M2 → M2 321 = M 321 → M2 342 = M 342 → 0 ≤ a1 ∧ a1 < M 321 48 → _ := fun M2 P hF hC e1 e2 h => by
    have g := gX10_breaks_0 (M := M2) (xs := xs) (d := d + 198) (P := P) (a1 := a1) hF hC
    simp only [e1, e2, z_wid (x := 12 + a1) (by omega)] at g
    exact g
  by_cases h : 0 ≤ a1 ∧ a1 < M 321 48
  · have e := z_R_f hR h.1 h.2
    simp only [e.1.2.1] at g
    have rg := ((z_R_S hR).1 a1 h.1 h.2).2.2
    by_cases hp : M 342 (12 + a1) = -1
    · refine z_two_n (-1) hR (fun P k => g _ (fun _ => by omega) (fun _ _ => by omega) (fun _ _ => by omega) (fun _ _ q => absurd hp q) (fun _ _ _ => k)) (fun P k => g2 M P (z_R_F hR) (z_R_C hR) rfl rfl h (fun q => absurd h q) (fun _ => by omega) (fun _ q => by omega) (fun _ _ => k))
    · generalize hw : M 342 (12 + a1) = w at *
      refine z_act (v := w) (t := z_brk (M 342) a1 w) hR (fun P k => ?_) (fun M2 P e hF k => ?_) (z_sn_brk (z_R_C hR) (z_R_S hR) h (by omega))
      · refine g _ (fun _ => by omega) (fun _ _ => by omega) (fun _ _ => by omega) (fun _ _ _ => ?_) (fun _ _ q => absurd q (fun q => hp (by omega)))
        refine s_keep hR (fun M1 r A sh K Hr H1 q1 q321 hh => ?_)
        have ko := z_kpt_o hR K
        have C1 : z_mc M1 := z_mc_x (z_cfe_c (fun q hq => ko.1 q (by unfold z_conf at hq; omega))) (z_R_C hR)
        have em : M1 (M 1 2 + 2) a1 = w := by rw [(H1.2.1 a1 h.1 (by rw [q321]; exact h.2)).2, hw]
        have g := gX9_breaks_37 (M := M1) (xs := xs) (d := d + 198) (P := P) (x1 := a1) hh
        simp only [q1, em, z_wid (x := w * 6) (by omega), z_wid (x := a1 * 6) (by omega), z_wid (x := w * 6 + a1) (by omega), z_wid (x := a1 * 6 + w) (by omega)] at g
        have hs := z_hsep H1.1
        have fr : ∀ i, z_psf M1 (z_up (z_up (z_up M1 (M 1 2 + 5) i 0) (M 1 2 + 2) a1 (-1)) (M 1 2 + 2) w (-1)) (M 1 2) := fun i => ⟨fun q _ _ _ _ e => by rw [z_upn (by omega), z_upn (by omega), z_upn (by omega)], fun j _ => by rw [z_upn (by omega), z_upn (by omega), z_upn (by omega)], fun j _ hj => by rw [z_upn (by omega), z_upn (by omega), z_upn (by omega)]⟩
        refine g (by omega) (fun q => absurd q hp) (fun _ _ => by omega) (fun _ _ => by omega) (fun _ c => ?_) (fun _ _ => by omega) (fun _ _ => by omega) (fun _ c => ?_)
        · exact k M1 _ r A sh K Hr (fr _) (z_hrd_brk C1 H1 (by rw [q321]; exact h) (by rw [q321]; omega) (Or.inl ⟨c, rfl⟩))
        · exact k M1 _ r A sh K Hr (fr _) (z_hrd_brk C1 H1 (by rw [q321]; exact h) (by rw [q321]; omega) (Or.inr ⟨c, rfl⟩))
      · have e321 := e 321 (by omega)
        have g2' := g2 M2 P hF (z_mc_x (z_cfe_c (fun q hq => e q (by unfold z_conf at hq; omega))) (z_R_C hR)) e321 (e 342 (by omega)) h
        refine g2' (fun q => absurd h q) (fun _ => by omega) (fun _ _ => ?_) (fun _ q => absurd (by omega) q)
        refine s_act hR e hF (fun M3 A sh m1 m2 m3 m4 m5 m6 hF3 e342 => ?_)
        have g := gX10_breaks_26 (M := M3) (xs := xs) (d := d + 200) (P := P) (x1 := a1) hF3
        simp only [z_wid (x := 12 + a1) (by omega), e342, hw, z_wid (x := 12 + w) (by omega), z_wid (x := 6 * a1) (by omega), z_wid (x := 18 + 6 * a1) (by omega), z_wid (x := 18 + 6 * a1 + w) (by omega), z_wid (x := 6 * w) (by omega), z_wid (x := 18 + 6 * w) (by omega), z_wid (x := 18 + 6 * w + a1) (by omega)] at g
        refine g (by omega) (by omega) (by omega) (by omega) (k M3 _ A sh m1 m2 m3 m4 m5 m6 (fun q a b c => by rw [z_upn c, z_upn c, z_upn c, z_upn c]) (fun k hk => ⟨?_, ?_⟩) (fun k a b => ?_))
        · rw [z_upi (by omega) rfl, z_upi (by omega) rfl, z_upi (by omega) rfl, z_upi (by omega) rfl, e342]
          exact (z_R_Z hR k hk).1
        · rw [z_upn (by decide), z_upn (by decide), z_upn (by decide), z_upn (by decide), m1 343 (by omega) (by omega), e 343 (by omega)]
          exact (z_R_Z hR k hk).2
        · rw [z_upw, z_upw, z_upw, z_upw, e342]
          unfold z_pt
          by_cases e3 : k = 18 + 6 * w + a1
          · rw [if_pos e3, z_brk_x (by omega) (by omega) (by omega)]
          · rw [if_neg e3]
            by_cases e4 : k = 18 + 6 * a1 + w
            · rw [if_pos e4, z_brk_x (by omega) (by omega) (by omega)]
            · rw [if_neg e4]
              by_cases e1 : k = 12 + w
              · rw [if_pos e1, z_brk_m (Or.inr e1)]
              · rw [if_neg e1]
                by_cases e2 : k = 12 + a1
                · rw [if_pos e2, z_brk_m (Or.inl e2)]
                · rw [if_neg e2, z_brk_o (by omega) (by omega)]
  · refine z_two_n (-1) hR (fun P k => ?_) (fun P k => ?_)
    · apply g
      all_goals first
        | (intros; exact k)
        | (intros; omega)
    · apply gX10_breaks_0 (z_R_F hR) (z_R_C hR)
      all_goals first
        | (intros; exact k)
        | (intros; omega)
theorem c_day (hR : z_R M) : z_two xs (d + 200) mX9_day mX10_day [(2, 1)] [(2, 321), (3, 0), (3, 0)] M := by
  have hn := (z_R_C hR).2.2.1
  have he := (z_R_C hR).2.2.2.1
  have hS := z_R_S hR
  have ed : M (M 1 2) 6 = M 342 104 := (z_R_H hR).2.2.2.2.2.1
  have g := fun P => gX9_day_0 (M := M) (xs := xs) (d := d + 199) (P := P) (z_R_F hR) (z_R_H hR).1
  simp only [ed] at g
  by_cases h : M 342 104 < 999
  · have hS2 : z_sn M 998 (M 342) := ⟨hS.1, hS.2.1, hS.2.2.1, ⟨hS.2.2.2.1.1, by omega⟩, hS.2.2.2.2.1, hS.2.2.2.2.2⟩
    refine z_act (v := (z_d5 M (M 321 52) (M 342)).2) (t := z_day M (M 321 52) (M 342)) hR (fun P k => ?_) (fun M2 P e hF k => ?_) (z_sn_day (z_R_C hR) hS2)
    · refine g _ (fun _ => ?_) (fun q => absurd h q)
      refine s_keep hR (fun M1 r A sh K Hr H1 q1 q321 hh => ?_)
      have ko := z_kpt_o hR K
      have c1 : ∀ q, z_conf q → M1 q = M q := fun q hq => ko.1 q (by unfold z_conf at hq; omega)
      have G0 := z_gsep (z_R_g hR).1
      have G1 : z_gg M1 (M1 34 3) := by
        rw [ko.1 34 (by omega), hR.2.1.1]
        exact z_gg_x (z_cfe_c c1) (fun q a b => ko.1 q (by omega)) (z_R_g hR)
      have gg0 : z_gor M1 (M1 1 0) := by
        rw [q1]
        exact z_gor_q (ko.1 _ (by omega)) (z_R_g hR).1
      refine gX9_day_26 ko.2 hh gg0 ?_
      rw [q1, ko.1 (M 1 0) (by omega), (z_R_n hR).2.2.2.1]
      refine s_X8_pass ko.2 (z_mc_e c1 (z_R_C hR)) (z_fp_q c1 (z_R_P hR)) (z_fsy_q c1 (z_R_Y hR)) G1 H1 (z_sn_x (z_cfe_c c1) hS2) (by omega) (by omega) (fun M2 f2 _ H2 => ?_)
      rw [z_d5_x (z_cfe_c c1)]
      rw [z_day_q c1] at H2
      exact gX9_day_44 (k M1 M2 r A sh K Hr f2 H2)
    · have e342 := e 342 (by omega)
      have c2 : ∀ q, z_conf q → M2 q = M q := fun q hq => e q (by unfold z_conf at hq; omega)
      refine gX10_day_0 hF (fun _ => ?_) (fun q => absurd (by rw [e342]; omega) q)
      refine s_act hR e hF (fun M3 A sh m1 m2 m3 m4 m5 m6 hF3 e342 => ?_)
      refine gX10_day_19 ?_
      have z3 : z_Rz M3 := fun k hk => by
        rw [e342, m1 343 (by omega) (by omega), e 343 (by omega)]
        exact z_R_Z hR k hk
      refine s_X10_load hF3 z3 (fun M4 f4 e4 => ?_)
      refine gX10_day_23 ?_
      have c4 : z_cfe M M4 := by
        have h1 := z_cfe_c c2
        have h2 : z_cfe M2 M3 := ⟨fun k hk => m2 k (by omega) (by omega), m1 _ (by omega) (by omega), m1 _ (by omega) (by omega), m1 _ (by omega) (by omega), m1 _ (by omega) (by omega), m1 _ (by omega) (by omega), m1 _ (by omega) (by omega), m1 _ (by omega) (by omega)⟩
        have h3 : z_cfe M3 M4 := z_cfe_c (fun q hq => f4 q (by unfold z_conf at hq; omega))
        exact z_cfe_t (z_cfe_t h1 h2) h3
      have hF4 : z_fix M4 := z_fix_at hF3 f4 z_nf343
      have s4 : M4 343 = M 342 := by rw [e4, e342]
      have S4 : z_sn M4 998 (M4 343) := by
        rw [s4]
        exact z_sn_x c4 hS2
      rw [z_e52 c4]
      refine s_X10_goDay hF4 (z_mc_x c4 (z_R_C hR)) (z_fp_x c4 (z_R_P hR)) S4 (by omega) (fun M5 f5 e5 => ?_)
      rw [z_d5_x c4, s4]
      have e5' : M5 343 = z_day M (M 321 52) (M 342) := by rw [e5, z_day_x c4, s4]
      have q342 : M5 342 = M 342 := by rw [f5 342 (z_ns (by omega)) (by omega), f4 342 (by omega), e342]
      have hF5 : z_fix M5 := z_fixd hF4 f5
      refine gX10_day_31 ?_
      have hout : ∀ k : Int, ¬ (0 ≤ k ∧ k < 106) → M5 343 k = 0 := fun k hk => by
        rw [e5', z_day_out (z_R_C hR) hS hk]
        exact (z_R_Z hR k hk).1
      refine z_loop (W := fun i => ∀ M' : z_M, (∀ q, q ≠ 342 → M' q = M5 q) → (∀ j : Int, 0 ≤ j → j < i → M' 342 j = M5 343 j) → (∀ j : Int, ¬ (0 ≤ j ∧ j < 106) → M' 342 j = 0) → wp xs (d + 200) mX10_day 34 [(2, 321), (0, (z_d5 M (M 321 52) (M 342)).2), (0, (i : Int))] [] z_LL M' P) 106 (fun i hi ih M' h1 h2 h3 => ?_) M5 (fun _ _ => rfl) (fun j a b => by omega) (fun j hj => by rw [q342]; exact (z_R_Z hR j hj).1)
      have g := gX10_day_34 (M := M') (xs := xs) (d := d + 200) (P := P) (x1 := (z_d5 M (M 321 52) (M 342)).2) (x2 := (i : Int)) (z_fix_at hF5 h1 (by unfold z_fobj; omega))
      simp only [h1 343 (by decide), z_in1 (i := i) (by omega)] at g
      refine g (fun c => ?_) (fun _ => by omega) (fun c => ?_)
      · obtain rfl : i = 106 := by omega
        refine k M3 M' A sh m1 m2 m3 m4 m5 m6 (fun q a b c => by rw [h1 q c, f5 q a b, f4 q b]) (fun k hk => ⟨h3 k hk, by rw [h1 343 (by decide)]; exact hout k hk⟩) (fun k a b => by rw [h2 k a b, e5'])
      · refine ih (by omega) _ (fun q hq => by rw [z_upn hq, h1 q hq]) (fun j a b => ?_) (fun j hj => ?_)
        · by_cases e : j = i
          · rw [e, z_ups]
          · rw [z_upi e rfl, h2 j a (by omega)]
        · rw [z_upi (by omega) rfl, h3 j hj]
  · have h9 := hS.2.2.2.1
    refine z_two_n (-1) hR (fun P k => g _ (fun q => absurd q h) (fun _ => k)) (fun P k => gX10_day_0 (z_R_F hR) (fun q => absurd (by omega) q) (fun _ => k))
end
