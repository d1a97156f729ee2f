/-! days ahead, on both sides -/
noncomputable def z_dys (M : z_M) (ev : Int) (s : Int → Int) : Nat → Int → Int
  | 0 => s
  | n + 1 => z_day M ev (z_dys M ev s n)
theorem z_dys_sn {M : z_M} {D ev : Int} {s : Int → Int} (hC : z_mc M) (h : z_sn M D s) : ∀ n : Nat, z_sn M (D + n) (z_dys M ev s n)
  | 0 => by
    rw [show D + ((0 : Nat) : Int) = D by omega]
    exact h
  | n + 1 => by
    rw [show D + ((n + 1 : Nat) : Int) = D + n + 1 by omega]
    exact z_sn_day hC (z_dys_sn hC h n)
theorem z_sn_D {M : z_M} {D D' : Int} {s : Int → Int} (hD : D ≤ D') (h : z_sn M D s) : z_sn M D' s := ⟨h.1, h.2.1, h.2.2.1, ⟨h.2.2.2.1.1, by have := h.2.2.2.1.2; omega⟩, h.2.2.2.2.1, h.2.2.2.2.2⟩
theorem z_bst_q {M M' : z_M} (hM : ∀ q, z_conf q → M' q = M q) (s : Int → Int) (f : Int) : ∀ c : Nat, z_bst M' s f c = z_bst M s f c
  | 0 => by rw [z_bst, z_bst, z_pul_q hM]
  | c + 1 => by
    rw [z_bst, z_bst, z_bst_q hM s f c, z_pul_q hM, hM 321 (by unfold z_conf; omega)]
theorem z_day_q {M M' : z_M} (hM : ∀ q, z_conf q → M' q = M q) (ev : Int) (s : Int → Int) : z_day M' ev s = z_day M ev s := by
  have e321 := hM 321 (by unfold z_conf; omega)
  have e1 : z_d1 M' s = z_d1 M s := by
    unfold z_d1
    rw [e321, show z_gl M' s = z_gl M s from funext fun f => z_gl_q hM s f]
  have e2 : z_d2 M' s = z_d2 M s := by
    unfold z_d2
    rw [e1, e321, z_eat_q (hM 339 (by unfold z_conf; omega))]
  have e3 : z_d3 M' s = z_d3 M s := by
    unfold z_d3
    rw [e2]
  have e4 : z_d4 M' s = z_d4 M s := by
    unfold z_d4
    rw [e3, z_evn_q hM]
  have e5 : z_d5 M' ev s = z_d5 M ev s := by
    unfold z_d5
    rw [e4, e321, z_mto_q hM]
  have e6 : z_d6 M' ev s = z_d6 M ev s := by
    unfold z_d6
    rw [e5, z_rai_q hM]
  unfold z_day
  rw [e6]
theorem z_dys_q {M M' : z_M} (hM : ∀ q, z_conf q → M' q = M q) (ev : Int) (s : Int → Int) : ∀ n : Nat, z_dys M' ev s n = z_dys M ev s n
  | 0 => rfl
  | n + 1 => by
    rw [z_dys, z_dys, z_dys_q hM ev s n, z_day_q hM]
/-- a day leaves alone what lies behind the row's end -/
theorem z_day_out {M : z_M} {D ev : Int} {s : Int → Int} (hC : z_mc M) (h : z_sn M D s) {k : Int} (hk : ¬ (0 ≤ k ∧ k < 106)) : z_day M ev s k = s k := by
  have hn := hC.2.2.1
  have hx := z_mc_cells hC
  rw [z_day_o (by omega), z_d6_o (by omega) (by omega), z_d5_o hC (by omega), z_d4_o (by omega), z_d3_o (by omega), z_d2_o hC h (by omega), z_d1_o (by omega)]
theorem z_dys_out {M : z_M} {D ev : Int} {s : Int → Int} (hC : z_mc M) (h : z_sn M D s) {k : Int} (hk : ¬ (0 ≤ k ∧ k < 106)) : ∀ n : Nat, z_dys M ev s n k = s k
  | 0 => rfl
  | n + 1 => by
    rw [z_dys, z_day_out hC (z_dys_sn hC h n) hk, z_dys_out hC h hk n]
/-! parts of what holds -/
section
variable {M : z_M}
theorem z_R_F (h : z_R M) : z_fix M := h.1.1
theorem z_R_C (h : z_R M) : z_mc M := h.1.2.1
theorem z_R_P (h : z_R M) : z_fp M := h.1.2.2.1
theorem z_R_Y (h : z_R M) : z_fsy M := h.1.2.2.2
theorem z_R_g (h : z_R M) : z_gg M (M 1 0) := h.2.1.2.1
theorem z_R_G (h : z_R M) : z_gg M (M 34 3) := by
  rw [h.2.1.1]
  exact z_R_g h
theorem z_R_k (h : z_R M) : z_hk (M 1 2) := h.2.2.1.1
theorem z_R_H (h : z_R M) : z_hrd M (M 1 2) (M 342) := h.2.2.1.2.1
theorem z_R_S (h : z_R M) : z_sn M 999 (M 342) := h.2.2.1.2.2
theorem z_R_Z (h : z_R M) : z_Rz M := h.2.2.2.2.2.2.2.2
end
theorem z_hdis {a b : Int} (ha : z_ish a) (hb : z_ish b) (hne : a ≠ b) : a + 5 < b ∨ b + 5 < a := by
  unfold z_ish at ha hb
  omega
theorem z_hk_ish {h : Int} (q : z_hk h) : z_ish h ∧ h ≠ 39 := by
  unfold z_hk at q
  unfold z_ish
  omega
/-- a copy of herds -/
def z_cph (M : z_M) (a g : Int) : z_M := z_up (z_up (z_up (z_cpy (z_cpy (z_cpy (z_cpy (z_cpy M (a + 1) 0 (g + 1) 0 6) (a + 2) 0 (g + 2) 0 6) (a + 3) 0 (g + 3) 0 25) (a + 4) 0 (g + 4) 0 25) (a + 5) 0 (g + 5) 0 36) g 5 (M a 5)) g 6 (M a 6)) g 7 (M a 7)
section
variable {M : z_M} {a g : Int}
theorem z_cph_o {q : Int} (h : ¬ (g ≤ q ∧ q ≤ g + 5)) : z_cph M a g q = M q := by
  unfold z_cph
  rw [z_upn (by omega), z_upn (by omega), z_upn (by omega), z_cpn (by omega), z_cpn (by omega), z_cpn (by omega), z_cpn (by omega), z_cpn (by omega)]
theorem z_cph_0 {j : Int} (h : j ≠ 5 ∧ j ≠ 6 ∧ j ≠ 7) : z_cph M a g g j = M g j := by
  unfold z_cph
  rw [z_upi h.2.2 rfl, z_upi h.2.1 rfl, z_upi h.1 rfl, z_cpn (by omega), z_cpn (by omega), z_cpn (by omega), z_cpn (by omega), z_cpn (by omega)]
theorem z_cph_h (ha : z_her M a) (hg : z_her M g) (hne : a ≠ g) {s : Int → Int} (hC : M 321 48 ≤ 6) (H : z_hrd M a s) : z_hrd (z_cph M a g) g s := by
  have hd := z_hdis ha.1 hg.1 hne
  have hs := z_hsep hg
  have e : ∀ r j : Int, (r = 1 ∨ r = 2) → 0 ≤ j → j < 6 → z_cph M a g (g + r) j = M (a + r) j := fun r j hr h0 h1 => by
    unfold z_cph
    rw [z_upn (by omega), z_upn (by omega), z_upn (by omega)]
    rcases hr with rfl | rfl
    · rw [z_cpn (by omega), z_cpn (by omega), z_cpn (by omega), z_cpn (by omega), z_cpi (by omega), show 0 + (j - 0) = j by omega]
    · rw [z_cpn (by omega), z_cpn (by omega), z_cpn (by omega), z_cpi (by omega), show 0 + (j - 0) = j by omega, z_cpn (by omega)]
  have e2 : ∀ r j : Int, (r = 3 ∨ r = 4) → 0 ≤ j → j < 25 → z_cph M a g (g + r) j = M (a + r) j := fun r j hr h0 h1 => by
    unfold z_cph
    rw [z_upn (by omega), z_upn (by omega), z_upn (by omega)]
    rcases hr with rfl | rfl
    · rw [z_cpn (by omega), z_cpn (by omega), z_cpi (by omega), show 0 + (j - 0) = j by omega, z_cpn (by omega), z_cpn (by omega)]
    · rw [z_cpn (by omega), z_cpi (by omega), show 0 + (j - 0) = j by omega, z_cpn (by omega), z_cpn (by omega), z_cpn (by omega)]
  have e3 : ∀ j : Int, 0 ≤ j → j < 36 → z_cph M a g (g + 5) j = M (a + 5) j := fun j h0 h1 => by
    unfold z_cph
    rw [z_upn (by omega), z_upn (by omega), z_upn (by omega), z_cpi (by omega), show 0 + (j - 0) = j by omega, z_cpn (by omega), z_cpn (by omega), z_cpn (by omega), z_cpn (by omega)]
  have e4 : z_cph M a g g 5 = M a 5 ∧ z_cph M a g g 6 = M a 6 ∧ z_cph M a g g 7 = M a 7 := by
    unfold z_cph
    refine ⟨?_, ?_, z_ups⟩
    · rw [z_upi (by decide) rfl, z_upi (by decide) rfl, z_ups]
    · rw [z_upi (by decide) rfl, z_ups]
  have e321 : z_cph M a g 321 = M 321 := z_cph_o (by omega)
  obtain ⟨a1, a2, a3, a4, a5, a6, a7⟩ := H
  unfold z_hrd
  rw [e321]
  refine ⟨⟨hg.1, fun k h1 h2 => by rw [z_cph_0 (by omega)]; exact hg.2 k h1 h2⟩, fun f h1 h2 => ?_, fun c h1 h2 => ?_, fun x y h1 h2 h3 => ?_, ?_, ?_, ?_⟩
  · rw [e 1 f (by omega) h1 (by omega), e 2 f (by omega) h1 (by omega)]
    exact a2 f h1 h2
  · rw [e2 3 c (by omega) h1 h2, e2 4 c (by omega) h1 h2]
    exact a3 c h1 h2
  · rw [e3 _ (by omega) (by omega)]
    exact a4 x y h1 h2 h3
  · rw [e4.1]
    exact a5
  · rw [e4.2.1]
    exact a6
  · rw [e4.2.2]
    exact a7
end
theorem z_cph_sc {M : z_M} {a : Int} : z_sc M (z_cph M a 39) := ⟨fun q hq => z_cph_o (by unfold z_sq at hq; omega), fun j _ => by rw [z_cph_o (by omega)], fun j _ _ => ⟨by rw [z_cph_o (by omega)], by rw [z_cph_o (by omega)]⟩, fun j h0 hj => z_cph_0 (by omega), fun k _ => by rw [z_cph_o (by omega)]⟩
theorem z_psf_sc {M M' : z_M} (f : z_psf M M' 39) : z_sc M M' := ⟨fun q hq => by unfold z_sq at hq; exact f.1 q (by omega) (by omega) (by omega) (by omega) (by omega), f.2.1, fun j _ _ => ⟨by rw [f.1 38 (by decide) (by decide) (by decide) (by decide) (by decide)], by rw [f.1 289 (by decide) (by decide) (by decide) (by decide) (by decide)]⟩, f.2.2, fun k _ => by rw [f.1 343 (by decide) (by decide) (by decide) (by decide) (by decide)]⟩
set_option maxRecDepth 20000 in
theorem gX0_behind_0 {xs : List Int} {d : Nat} {M : z_M} {P : Option z_V → z_L → z_M → Prop} {a1 : Int} {a2 : Int} (hF : z_fix M) (ha1 : z_her M a1) (hn1 : a1 ≠ 39)
    (l1 : wp xs (d + 1) mX0_behind 10 [(2, 38), (2, a1), (0, a2), (0, 0)] [] z_LL (z_up (z_up (z_up (z_cpy (z_cpy (z_cpy (z_cpy (z_cpy M (a1 + 1) 0 40 0 6) (a1 + 2) 0 41 0 6) (a1 + 3) 0 42 0 25) (a1 + 4) 0 43 0 25) (a1 + 5) 0 44 0 36) 39 5 (M a1 5)) 39 6 (M a1 6)) 39 7 (M a1 7)) P) :
    wp xs (d + 1) mX0_behind 0 [(2, 38), (2, a1), (0, a2), (3, 0)] [] z_LL M P := by
  refine wp_run 1 (pc' := 1) (ls' := [(2, 38), (2, a1), (0, a2), (3, 0)]) (st' := [(2, 38)]) rfl ?_
  refine wp_gf (pc' := 4) (t := 2) (v := 39) rfl rfl (by decide) rfl rfl (fx_38_1 hF) ?_
  refine wp_run 1 (pc' := 5) (ls' := [(2, 38), (2, a1), (0, a2), (3, 0)]) (st' := [(2, a1), (2, 39)]) rfl ?_
  refine wp_callv (pc' := 8) (as := [(2, 39), (2, a1)]) (rest := []) (ls1 := [(2, 39), (2, a1)]) rfl rfl rfl rfl rfl rfl ?_
  refine wp_run 1 (pc' := 1) (ls' := [(2, 39), (2, a1)]) (st' := [(2, a1)]) rfl ?_
  refine wp_gf (pc' := 4) (t := 2) (v := (a1 + 1)) rfl rfl (by decide) rfl (z_hl0 ha1) (z_hf0 ha1) ?_
  refine wp_run 2 (pc' := 6) (ls' := [(2, 39), (2, a1)]) (st' := [(2, 39), (0, 0), (2, (a1 + 1))]) rfl ?_
  refine wp_gf (pc' := 9) (t := 2) (v := 40) rfl rfl (by decide) rfl rfl (fx_39_0 hF) ?_
  refine wp_run 2 (pc' := 12) (ls' := [(2, 39), (2, a1)]) (st' := [(0, 6), (0, 0), (2, 40), (0, 0), (2, (a1 + 1))]) rfl ?_
  refine wp_acp (pc' := 15) rfl rfl (z_hl1 ha1) rfl (by decide) ?_
  refine wp_run 1 (pc' := 16) (ls' := [(2, 39), (2, a1)]) (st' := [(2, a1)]) rfl ?_
  refine wp_gf (pc' := 19) (t := 2) (v := (a1 + 2)) rfl rfl (by decide) rfl (z_hl0 ha1) (z_cpq (by have := z_hr ha1; omega) (z_hf1 ha1)) ?_
  refine wp_run 2 (pc' := 21) (ls' := [(2, 39), (2, a1)]) (st' := [(2, 39), (0, 0), (2, (a1 + 2))]) rfl ?_
  refine wp_gf (pc' := 24) (t := 2) (v := 41) rfl rfl (by decide) rfl rfl (z_cpq (by decide) (fx_39_1 hF)) ?_
  refine wp_run 2 (pc' := 27) (ls' := [(2, 39), (2, a1)]) (st' := [(0, 6), (0, 0), (2, 41), (0, 0), (2, (a1 + 2))]) rfl ?_
  refine wp_acp (pc' := 30) rfl rfl (z_hl2 ha1) rfl (by decide) ?_
  refine wp_run 1 (pc' := 31) (ls' := [(2, 39), (2, a1)]) (st' := [(2, a1)]) rfl ?_
  refine wp_gf (pc' := 34) (t := 2) (v := (a1 + 3)) rfl rfl (by decide) rfl (z_hl0 ha1) (z_cpq (by have := z_hr ha1; omega) (z_cpq (by have := z_hr ha1; omega) (z_hf2 ha1))) ?_
  refine wp_run 2 (pc' := 36) (ls' := [(2, 39), (2, a1)]) (st' := [(2, 39), (0, 0), (2, (a1 + 3))]) rfl ?_
  refine wp_gf (pc' := 39) (t := 2) (v := 42) rfl rfl (by decide) rfl rfl (z_cpq (by decide) (z_cpq (by decide) (fx_39_2 hF))) ?_
  refine wp_run 2 (pc' := 42) (ls' := [(2, 39), (2, a1)]) (st' := [(0, 25), (0, 0), (2, 42), (0, 0), (2, (a1 + 3))]) rfl ?_
  refine wp_acp (pc' := 45) rfl rfl (z_hl3 ha1) rfl (by decide) ?_
  refine wp_run 1 (pc' := 46) (ls' := [(2, 39), (2, a1)]) (st' := [(2, a1)]) rfl ?_
  refine wp_gf (pc' := 49) (t := 2) (v := (a1 + 4)) rfl rfl (by decide) rfl (z_hl0 ha1) (z_cpq (by have := z_hr ha1; omega) (z_cpq (by have := z_hr ha1; omega) (z_cpq (by have := z_hr ha1; omega) (z_hf3 ha1)))) ?_
  refine wp_run 2 (pc' := 51) (ls' := [(2, 39), (2, a1)]) (st' := [(2, 39), (0, 0), (2, (a1 + 4))]) rfl ?_
  refine wp_gf (pc' := 54) (t := 2) (v := 43) rfl rfl (by decide) rfl rfl (z_cpq (by decide) (z_cpq (by decide) (z_cpq (by decide) (fx_39_3 hF)))) ?_
  refine wp_run 2 (pc' := 57) (ls' := [(2, 39), (2, a1)]) (st' := [(0, 25), (0, 0), (2, 43), (0, 0), (2, (a1 + 4))]) rfl ?_
  refine wp_acp (pc' := 60) rfl rfl (z_hl4 ha1) rfl (by decide) ?_
  refine wp_run 1 (pc' := 61) (ls' := [(2, 39), (2, a1)]) (st' := [(2, a1)]) rfl ?_
  refine wp_gf (pc' := 64) (t := 2) (v := (a1 + 5)) rfl rfl (by decide) rfl (z_hl0 ha1) (z_cpq (by have := z_hr ha1; omega) (z_cpq (by have := z_hr ha1; omega) (z_cpq (by have := z_hr ha1; omega) (z_cpq (by have := z_hr ha1; omega) (z_hf4 ha1))))) ?_
  refine wp_run 2 (pc' := 66) (ls' := [(2, 39), (2, a1)]) (st' := [(2, 39), (0, 0), (2, (a1 + 5))]) rfl ?_
  refine wp_gf (pc' := 69) (t := 2) (v := 44) rfl rfl (by decide) rfl rfl (z_cpq (by decide) (z_cpq (by decide) (z_cpq (by decide) (z_cpq (by decide) (fx_39_4 hF))))) ?_
  refine wp_run 2 (pc' := 71) (ls' := [(2, 39), (2, a1)]) (st' := [(2, 39), (0, 0), (2, 44), (0, 0), (2, (a1 + 5))]) rfl ?_
  refine wp_gf (pc' := 74) (t := 2) (v := 44) rfl rfl (by decide) rfl rfl (z_cpq (by decide) (z_cpq (by decide) (z_cpq (by decide) (z_cpq (by decide) (fx_39_4 hF))))) ?_
  refine wp_len (pc' := 75) rfl rfl rfl (by decide) ?_
  refine wp_acp (pc' := 78) rfl rfl (z_hl5 ha1) rfl (by decide) ?_
  refine wp_run 2 (pc' := 80) (ls' := [(2, 39), (2, a1)]) (st' := [(2, a1), (2, 39)]) rfl ?_
  refine wp_gf (pc' := 83) (t := 0) (v := (M a1 5)) rfl rfl (by decide) rfl (z_hl0 ha1) (z_cpq (by have := z_hr ha1; omega) (z_cpq (by have := z_hr ha1; omega) (z_cpq (by have := z_hr ha1; omega) (z_cpq (by have := z_hr ha1; omega) (z_cpq (by have := z_hr ha1; omega) rfl))))) ?_
  refine wp_pf (pc' := 86) rfl rfl rfl rfl (fun z => absurd z (by decide)) (fun z => absurd z (by decide)) ?_
  refine wp_run 2 (pc' := 88) (ls' := [(2, 39), (2, a1)]) (st' := [(2, a1), (2, 39)]) rfl ?_
  refine wp_gf (pc' := 91) (t := 0) (v := (M a1 6)) rfl rfl (by decide) rfl (z_hl0 ha1) (z_upq (by have := z_hr ha1; omega) (z_cpq (by have := z_hr ha1; omega) (z_cpq (by have := z_hr ha1; omega) (z_cpq (by have := z_hr ha1; omega) (z_cpq (by have := z_hr ha1; omega) (z_cpq (by have := z_hr ha1; omega) rfl)))))) ?_
  refine wp_pf (pc' := 94) rfl rfl rfl rfl (fun z => absurd z (by decide)) (fun z => absurd z (by decide)) ?_
  refine wp_run 2 (pc' := 96) (ls' := [(2, 39), (2, a1)]) (st' := [(2, a1), (2, 39)]) rfl ?_
  refine wp_gf (pc' := 99) (t := 0) (v := (M a1 7)) rfl rfl (by decide) rfl (z_hl0 ha1) (z_upq (by have := z_hr ha1; omega) (z_upq (by have := z_hr ha1; omega) (z_cpq (by have := z_hr ha1; omega) (z_cpq (by have := z_hr ha1; omega) (z_cpq (by have := z_hr ha1; omega) (z_cpq (by have := z_hr ha1; omega) (z_cpq (by have := z_hr ha1; omega) rfl))))))) ?_
  refine wp_pf (pc' := 102) rfl rfl rfl rfl (fun z => absurd z (by decide)) (fun z => absurd z (by decide)) ?_
  refine wp_ret rfl rfl ?_
  show wp xs _ mX0_behind 8 [(2, 38), (2, a1), (0, a2), (3, 0)] [] z_LL (z_up (z_up (z_up (z_cpy (z_cpy (z_cpy (z_cpy (z_cpy M (a1 + 1) 0 40 0 6) (a1 + 2) 0 41 0 6) (a1 + 3) 0 42 0 25) (a1 + 4) 0 43 0 25) (a1 + 5) 0 44 0 36) 39 5 (M a1 5)) 39 6 (M a1 6)) 39 7 (M a1 7)) _
  refine wp_run 2 (pc' := 10) (ls' := [(2, 38), (2, a1), (0, a2), (0, 0)]) (st' := []) rfl ?_
  exact l1
set_option maxRecDepth 20000 in
theorem gX0_behind_10 {xs : List Int} {d : Nat} {M : z_M} {P : Option z_V → z_L → z_M → Prop} {x1 : Int} {x2 : Int} {x3 : Int} (hF : z_fix M) (hx1 : z_her M x1) (hg2 : z_gor M (M 34 3))
    (l1 : (x2 ≤ x3) → P (some (2, 39)) z_LL M)
    (l2 : (¬ (x2 ≤ x3)) → wp xs d mX8_pass 0 [(2, 34), (2, 39), (0, (M (M 34 3) 18)), (3, 0)] [] z_LL M (fun r L1 M1 => wp xs (d + 1) mX0_behind 36 [(2, 38), (2, x1), (0, x2), (0, x3)] (z_ol r ++ []) L1 M1 P)) :
    wp xs (d + 1) mX0_behind 10 [(2, 38), (2, x1), (0, x2), (0, x3)] [] z_LL M P := by
  refine wp_run 2 (pc' := 12) (ls' := [(2, 38), (2, x1), (0, x2), (0, x3)]) (st' := [(0, x2), (0, x3)]) rfl ?_
  refine wp_if2 rfl rfl rfl (fun (c1 : x2 ≤ x3) => ?_) (fun (c1 : ¬ (x2 ≤ x3)) => ?_)
  · refine wp_run 1 (pc' := 44) (ls' := [(2, 38), (2, x1), (0, x2), (0, x3)]) (st' := [(2, 38)]) rfl ?_
    refine wp_gf (pc' := 47) (t := 2) (v := 39) rfl rfl (by decide) rfl rfl (fx_38_1 hF) ?_
    exact wp_ret rfl rfl (l1 c1)
  · refine wp_run 1 (pc' := 16) (ls' := [(2, 38), (2, x1), (0, x2), (0, x3)]) (st' := [(2, 38)]) rfl ?_
    refine wp_gf (pc' := 19) (t := 2) (v := 34) rfl rfl (by decide) rfl rfl (fx_38_0 hF) ?_
    refine wp_run 1 (pc' := 20) (ls' := [(2, 38), (2, x1), (0, x2), (0, x3)]) (st' := [(2, 38), (2, 34)]) rfl ?_
    refine wp_gf (pc' := 23) (t := 2) (v := 39) rfl rfl (by decide) rfl rfl (fx_38_1 hF) ?_
    refine wp_run 1 (pc' := 24) (ls' := [(2, 38), (2, x1), (0, x2), (0, x3)]) (st' := [(2, 38), (2, 39), (2, 34)]) rfl ?_
    refine wp_gf (pc' := 27) (t := 2) (v := 34) rfl rfl (by decide) rfl rfl (fx_38_0 hF) ?_
    refine wp_gf (pc' := 30) (t := 2) (v := (M 34 3)) rfl rfl (by decide) rfl rfl rfl ?_
    refine wp_gf (pc' := 33) (t := 0) (v := (M (M 34 3) 18)) rfl rfl (by decide) rfl (z_gl0 hg2) rfl ?_
    refine wp_callv (pc' := 36) (as := [(2, 34), (2, 39), (0, (M (M 34 3) 18))]) (rest := []) (ls1 := [(2, 34), (2, 39), (0, (M (M 34 3) 18)), (3, 0)]) rfl rfl rfl rfl rfl rfl ?_
    exact l2 c1
set_option maxRecDepth 20000 in
theorem gX0_behind_36 {xs : List Int} {d : Nat} {M : z_M} {P : Option z_V → z_L → z_M → Prop} {x1 : Int} {x2 : Int} {x3 : Int} {s0 : Int} (hx1 : z_her M x1)
    (l1 : wp xs d mX0_behind 10 [(2, 38), (2, x1), (0, x2), (0, (z_w (x3 + 1)))] [] z_LL M P) :
    wp xs d mX0_behind 36 [(2, 38), (2, x1), (0, x2), (0, x3)] [(0, s0)] z_LL M P := by
  refine wp_run 3 (pc' := 10) (ls' := [(2, 38), (2, x1), (0, x2), (0, (z_w (x3 + 1)))]) (st' := []) rfl ?_
  exact l1
set_option maxRecDepth 20000 in
theorem gX10_load_0 {xs : List Int} {d : Nat} {M : z_M} {P : Option z_V → z_L → z_M → Prop} 
    (l1 : wp xs d mX10_load 2 [(2, 321), (0, 0)] [] z_LL M P) :
    wp xs d mX10_load 0 [(2, 321), (3, 0)] [] z_LL M P := by
  refine wp_run 2 (pc' := 2) (ls' := [(2, 321), (0, 0)]) (st' := []) rfl ?_
  exact l1
set_option maxRecDepth 20000 in
theorem gX10_load_2 {xs : List Int} {d : Nat} {M : z_M} {P : Option z_V → z_L → z_M → Prop} {x1 : Int} (hF : z_fix M) 
    (l1 : (106 ≤ x1) → P none z_LL M)
    (b1 : (¬ (106 ≤ x1)) → 0 ≤ x1 ∧ x1 < 106)
    (l2 : (¬ (106 ≤ x1)) → wp xs d mX10_load 2 [(2, 321), (0, (z_w (x1 + 1)))] [] z_LL (z_up M 343 x1 (M 342 x1)) P) :
    wp xs d mX10_load 2 [(2, 321), (0, x1)] [] z_LL M P := by
  refine wp_run 2 (pc' := 5) (ls' := [(2, 321), (0, x1)]) (st' := [(0, 106), (0, x1)]) rfl ?_
  refine wp_if2 rfl rfl rfl (fun (c1 : 106 ≤ x1) => ?_) (fun (c1 : ¬ (106 ≤ x1)) => ?_)
  · exact wp_ret rfl rfl (l1 c1)
  · refine wp_run 1 (pc' := 9) (ls' := [(2, 321), (0, x1)]) (st' := [(2, 321)]) rfl ?_
    refine wp_gf (pc' := 12) (t := 2) (v := 343) rfl rfl (by decide) rfl rfl (fx_321_61 hF) ?_
    refine wp_run 2 (pc' := 14) (ls' := [(2, 321), (0, x1)]) (st' := [(2, 321), (0, x1), (2, 343)]) rfl ?_
    refine wp_gf (pc' := 17) (t := 2) (v := 342) rfl rfl (by decide) rfl rfl (fx_321_60 hF) ?_
    refine wp_run 1 (pc' := 18) (ls' := [(2, 321), (0, x1)]) (st' := [(0, x1), (2, 342), (0, x1), (2, 343)]) rfl ?_
    refine wp_iald (pc' := 19) (v := (M 342 x1)) rfl rfl rfl (b1 c1) rfl ?_
    refine wp_iast (pc' := 20) rfl rfl rfl (b1 c1) ?_
    refine wp_run 2 (pc' := 2) (ls' := [(2, 321), (0, (z_w (x1 + 1)))]) (st' := []) rfl ?_
    exact l2 c1
set_option maxRecDepth 20000 in
theorem gX10_goFar_0 {xs : List Int} {d : Nat} {M : z_M} {P : Option z_V → z_L → z_M → Prop} {a1 : Int} {a2 : Int} 
    (l1 : wp xs d mX10_load 0 [(2, 321), (3, 0)] [] z_LL M (fun r L1 M1 => wp xs (d + 1) mX10_goFar 4 [(2, 321), (0, a1), (0, a2), (3, 0)] (z_ol r ++ []) L1 M1 P)) :
    wp xs (d + 1) mX10_goFar 0 [(2, 321), (0, a1), (0, a2), (3, 0)] [] z_LL M P := by
  refine wp_run 1 (pc' := 1) (ls' := [(2, 321), (0, a1), (0, a2), (3, 0)]) (st' := [(2, 321)]) rfl ?_
  refine wp_callv (pc' := 4) (as := [(2, 321)]) (rest := []) (ls1 := [(2, 321), (3, 0)]) rfl rfl rfl rfl rfl rfl ?_
  exact l1
set_option maxRecDepth 20000 in
theorem gX10_goFar_4 {xs : List Int} {d : Nat} {M : z_M} {P : Option z_V → z_L → z_M → Prop} {x1 : Int} {x2 : Int} 
    (l1 : wp xs d mX10_goFar 6 [(2, 321), (0, x1), (0, x2), (0, 0)] [] z_LL M P) :
    wp xs d mX10_goFar 4 [(2, 321), (0, x1), (0, x2), (3, 0)] [] z_LL M P := by
  refine wp_run 2 (pc' := 6) (ls' := [(2, 321), (0, x1), (0, x2), (0, 0)]) (st' := []) rfl ?_
  exact l1
set_option maxRecDepth 20000 in
theorem gX10_goFar_6 {xs : List Int} {d : Nat} {M : z_M} {P : Option z_V → z_L → z_M → Prop} {x1 : Int} {x2 : Int} {x3 : Int} 
    (l1 : (x1 ≤ x3) → P none z_LL M)
    (l2 : (¬ (x1 ≤ x3)) → wp xs d mX10_goDay 0 [(2, 321), (0, x2), (3, 0), (3, 0)] [] z_LL M (fun r L1 M1 => wp xs (d + 1) mX10_goFar 16 [(2, 321), (0, x1), (0, x2), (0, x3)] (z_ol r ++ []) L1 M1 P)) :
    wp xs (d + 1) mX10_goFar 6 [(2, 321), (0, x1), (0, x2), (0, x3)] [] z_LL M P := by
  refine wp_run 2 (pc' := 8) (ls' := [(2, 321), (0, x1), (0, x2), (0, x3)]) (st' := [(0, x1), (0, x3)]) rfl ?_
  refine wp_if2 rfl rfl rfl (fun (c1 : x1 ≤ x3) => ?_) (fun (c1 : ¬ (x1 ≤ x3)) => ?_)
  · exact wp_ret rfl rfl (l1 c1)
  · refine wp_run 2 (pc' := 13) (ls' := [(2, 321), (0, x1), (0, x2), (0, x3)]) (st' := [(0, x2), (2, 321)]) rfl ?_
    refine wp_callv (pc' := 16) (as := [(2, 321), (0, x2)]) (rest := []) (ls1 := [(2, 321), (0, x2), (3, 0), (3, 0)]) rfl rfl rfl rfl rfl rfl ?_
    exact l2 c1
set_option maxRecDepth 20000 in
theorem gX10_goFar_16 {xs : List Int} {d : Nat} {M : z_M} {P : Option z_V → z_L → z_M → Prop} {x1 : Int} {x2 : Int} {x3 : Int} {s0 : Int} 
    (l1 : wp xs d mX10_goFar 6 [(2, 321), (0, x1), (0, x2), (0, (z_w (x3 + 1)))] [] z_LL M P) :
    wp xs d mX10_goFar 16 [(2, 321), (0, x1), (0, x2), (0, x3)] [(0, s0)] z_LL M P := by
  refine wp_run 3 (pc' := 6) (ls' := [(2, 321), (0, x1), (0, x2), (0, (z_w (x3 + 1)))]) (st' := []) rfl ?_
  exact l1
/-- a day of the trial herds -/
theorem s_trial {xs : List Int} {d : Nat} {M : z_M} {P : Option z_V → z_L → z_M → Prop} {ev D : Int} {s : Int → Int} (hR : z_R M) (hH : z_hrd M 39 s) (hS : z_sn M D s) (hD : D ≤ 100000) (hev : 1 ≤ ev) (k : ∀ M' : z_M, z_sc M M' → (∀ c : Int, 0 ≤ c → c < 25 → (z_bt (M' 34 4) c ↔ z_bt (M 34 4) c ∨ z_lkn M s (M 321 48).toNat c)) → z_psf M M' 39 → z_hrd M' 39 (z_day M ev s) → P (some (0, (z_d5 M ev s).2)) z_LL M') : wp xs (d + 3) mX8_pass 0 [(2, 34), (2, 39), (0, ev), (3, 0)] [] z_LL M P :=
  s_X8_pass (z_R_F hR) (z_R_C hR) (z_R_P hR) (z_R_Y hR) (z_R_G hR) hH hS hD hev (fun M' f l H => k M' (z_psf_sc f) l f H)
theorem s_X0_behind {xs : List Int} {d : Nat} {M : z_M} {P : Option z_V → z_L → z_M → Prop} {n : Nat} (hR : z_R M) (hn : n ≤ 60) (k : ∀ M' : z_M, z_sc M M' → z_hrd M' 39 (z_dys M (M 321 52) (M 342) n) → P (some (2, 39)) z_LL M') : wp xs (d + 4) mX0_behind 0 [(2, 38), (2, M 1 2), (0, (n : Int)), (3, 0)] [] z_LL M P := by
  have hk := z_hk_ish (z_R_k hR)
  refine gX0_behind_0 (z_R_F hR) (z_R_H hR).1 hk.2 ?_
  have H0 := z_cph_h (z_R_H hR).1 (g := 39) ⟨by unfold z_ish; omega, (fun k h1 h2 => by
    have hF := z_R_F hR
    have : k = 0 ∨ k = 1 ∨ k = 2 ∨ k = 3 ∨ k = 4 := by omega
    rcases this with rfl | rfl | rfl | rfl | rfl
    · exact fx_39_0 hF
    · exact fx_39_1 hF
    · exact fx_39_2 hF
    · exact fx_39_3 hF
    · exact fx_39_4 hF)⟩ hk.2 (z_R_C hR).2.2.1.2 (z_R_H hR)
  refine z_loop (W := fun i => ∀ M' : z_M, z_sc M M' → z_hrd M' 39 (z_dys M (M 321 52) (M 342) i) → wp xs (d + 4) mX0_behind 10 [(2, 38), (2, M 1 2), (0, (n : Int)), (0, (i : Int))] [] z_LL M' P) n (fun i hi ih M' f H => ?_) (z_cph M (M 1 2) 39) z_cph_sc H0
  have hR' := z_sc_R f hR
  have q1 : M' 1 = M 1 := f.1 1 (by unfold z_sq; omega)
  have ev := (z_R_C hR).2.2.2.1
  have g := gX0_behind_10 (M := M') (xs := xs) (d := d + 3) (P := P) (x1 := M 1 2) (x2 := (n : Int)) (x3 := (i : Int)) (z_R_F hR') (by rw [← q1]; exact (z_R_H hR').1) (z_R_G hR').1
  simp only [(z_R_G hR').2.1.2.2.2.2.2] at g
  apply g
  case l1 =>
    intro c
    obtain rfl : i = n := by omega
    exact k M' f H
  case l2 =>
    intro c
    have e52 : M' 321 52 = M 321 52 := z_e52 (z_cfe_c (z_sc_c f))
    rw [e52]
    refine s_trial hR' H (z_sn_x (z_cfe_c (z_sc_c f)) (z_dys_sn (z_R_C hR) (z_R_S hR) i)) (by omega) (by omega) (fun M2 f2 _ _ H2 => ?_)
    refine gX0_behind_36 (M := M2) (x1 := M 1 2) (by rw [← q1, ← show M2 1 = M' 1 from f2.1 1 (by unfold z_sq; omega)]; exact (z_R_H (z_sc_R f2 hR')).1) ?_
    rw [z_in1 (by omega)]
    refine ih (by omega) M2 (z_sc_t f f2) ?_
    rw [z_day_q (z_sc_c f)] at H2
    exact H2
theorem s_X10_load {xs : List Int} {d : Nat} {M : z_M} {P : Option z_V → z_L → z_M → Prop} (hF : z_fix M) (hz : z_Rz M) (k : ∀ M' : z_M, (∀ q, q ≠ 343 → M' q = M q) → M' 343 = M 342 → P none z_LL M') : wp xs d mX10_load 0 [(2, 321), (3, 0)] [] z_LL M P := by
  refine gX10_load_0 ?_
  refine z_loop (W := fun i => ∀ M' : z_M, (∀ q, q ≠ 343 → M' q = M q) → (∀ j : Int, 0 ≤ j → j < i → M' 343 j = M 342 j) → (∀ j : Int, ¬ (0 ≤ j ∧ j < 106) → M' 343 j = 0) → wp xs d mX10_load 2 [(2, 321), (0, (i : Int))] [] z_LL M' P) 106 (fun i hi ih M' hM h1 h2 => ?_) M (fun _ _ => rfl) (fun j a b => by omega) (fun j hj => (hz j hj).2)
  have g := gX10_load_2 (M := M') (xs := xs) (d := d) (P := P) (x1 := (i : Int)) (z_fix_at hF hM z_nf343)
  simp only [hM 342 (by decide), z_in1 (i := i) (by omega)] at g
  apply g
  case b1 => intros; omega
  case l1 =>
    intro c
    obtain rfl : i = 106 := by omega
    refine k M' hM (funext fun j => ?_)
    by_cases e : 0 ≤ j ∧ j < 106
    · exact h1 j e.1 (by omega)
    · rw [h2 j e, (hz j e).1]
  case l2 =>
    intro c
    refine ih (by omega) _ (fun q hq => by rw [z_upn hq, hM q hq]) (fun j a b => ?_) (fun j hj => ?_)
    · by_cases e : j = i
      · rw [e, z_ups]
      · rw [z_upi e rfl]
        exact h1 j a (by omega)
    · rw [z_upi (by omega) rfl]
      exact h2 j hj
/-- a load is a change of what is reckoned with alone -/
theorem z_sc_343 {M M' : z_M} (hM : ∀ q, ¬ z_scr q → q ≠ 343 → M' q = M q) (h : ∀ k : Int, ¬ (0 ≤ k ∧ k < 106) → M' 343 k = M 343 k) : z_sc M M' := ⟨fun q hq => hM q (by unfold z_scr; unfold z_sq at hq; omega) (by unfold z_sq at hq; omega), fun j _ => by rw [hM 34 (z_ns (by omega)) (by omega)], fun j _ _ => ⟨by rw [hM 38 (z_ns (by omega)) (by omega)], by rw [hM 289 (z_ns (by omega)) (by omega)]⟩, fun j _ _ => by rw [hM 39 (z_ns (by omega)) (by omega)], h⟩
/-- a day of the model's air -/
theorem s_air {xs : List Int} {d : Nat} {M : z_M} {P : Option z_V → z_L → z_M → Prop} {ev D : Int} (hR : z_R M) (hS : z_sn M D (M 343)) (hD : D ≤ 100000) (k : ∀ M' : z_M, z_sc M M' → M' 343 = z_day M ev (M 343) → P (some (0, (z_d5 M ev (M 343)).2)) z_LL M') : wp xs (d + 5) mX10_goDay 0 [(2, 321), (0, ev), (3, 0), (3, 0)] [] z_LL M P :=
  s_X10_goDay (z_R_F hR) (z_R_C hR) (z_R_P hR) hS hD (fun M' f e => k M' (z_sc_343 f (fun k hk => by rw [e, z_day_out (z_R_C hR) hS hk])) e)
theorem s_ldR {xs : List Int} {d : Nat} {M : z_M} {P : Option z_V → z_L → z_M → Prop} (hR : z_R M) (k : ∀ M' : z_M, z_sc M M' → M' 343 = M 342 → P none z_LL M') : wp xs d mX10_load 0 [(2, 321), (3, 0)] [] z_LL M P :=
  s_X10_load (z_R_F hR) (z_R_Z hR) (fun M' f e => k M' (z_sc_343 (fun q _ hq => f q hq) (fun k hk => by rw [e, (z_R_Z hR k hk).1, (z_R_Z hR k hk).2])) e)
theorem s_X10_goFar {xs : List Int} {d : Nat} {M : z_M} {P : Option z_V → z_L → z_M → Prop} {n : Nat} {ev : Int} (hR : z_R M) (hn : n ≤ 60) (k : ∀ M' : z_M, z_sc M M' → M' 343 = z_dys M ev (M 342) n → P none z_LL M') : wp xs (d + 6) mX10_goFar 0 [(2, 321), (0, (n : Int)), (0, ev), (3, 0)] [] z_LL M P := by
  refine gX10_goFar_0 ?_
  refine s_ldR hR (fun M1 f1 e1 => ?_)
  refine gX10_goFar_4 ?_
  refine z_loop (W := fun i => ∀ M' : z_M, z_sc M M' → M' 343 = z_dys M ev (M 342) i → wp xs (d + 6) mX10_goFar 6 [(2, 321), (0, (n : Int)), (0, ev), (0, (i : Int))] [] z_LL M' P) n (fun i hi ih M' f e => ?_) M1 f1 e1
  refine gX10_goFar_6 (M := M') (x1 := (n : Int)) (x2 := ev) (x3 := (i : Int)) (fun c => ?_) (fun c => ?_)
  · obtain rfl : i = n := by omega
    exact k M' f e
  · have hR' := z_sc_R f hR
    have hs := z_sn_x (z_cfe_c (z_sc_c f)) (z_dys_sn (ev := ev) (z_R_C hR) (z_R_S hR) i)
    rw [← e] at hs
    refine s_air hR' hs (by omega) (fun M2 f2 e2 => ?_)
    refine gX10_goFar_16 ?_
    rw [z_in1 (by omega)]
    refine ih (by omega) M2 (z_sc_t f f2) ?_
    rw [e2, z_day_q (z_sc_c f), e]
    rfl
