/-! how the class's cells stand to the model's -/
def z_unk (a kk : Int) : Prop := (a = 0 ∧ kk = 3) ∨ (a = 1 ∧ kk = 19) ∨ (a = 2 ∧ kk = 20) ∨ (a = 3 ∧ kk = 21) ∨ (a = 4 ∧ kk = 22) ∨ (a = 5 ∧ kk = 23)
/-- a step of the class's formula is the model's -/
def z_stp (kd ar st : Int) : Prop := (kd = 0 ∧ st = ar) ∨ (kd = 1 ∧ ∃ kk, st = -1 - kk ∧ z_unk ar kk) ∨ (kd = 2 ∧ st = -19) ∨ (kd = 3 ∧ ∃ kk, st = -1 - kk ∧ z_sgn kk ar)
/-- the class's gorge in cell g is the model's -/
def z_gg (M : z_M) (g : Int) : Prop :=
  z_gor M g ∧ (M g 10 = M 321 46 ∧ M g 11 = M 321 47 ∧ M g 12 = M 321 48 ∧ M g 16 = M 321 50 ∧ M g 17 = M 321 51 ∧ M g 18 = M 321 52) ∧
  (∀ f : Int, 0 ≤ f → f < M 321 48 → M (g + 2) f = M 337 f ∧ M (g + 3) f = M 339 f ∧ M (g + 4) f = M 338 f ∧ M (g + 5) f = M 341 f ∧
    (∀ o : Int, 0 ≤ o → o < M 321 48 → M (g + 6) (6 * f + o) = M 340 (6 * f + o)) ∧
    (∀ c : Int, 0 ≤ c → c < M 321 46 * M 321 47 → M (g + 10) (25 * f + c) = z_far (M 321 46) (M 338 f) c)) ∧
  (∀ c : Int, 0 ≤ c → c < M 321 46 * M 321 47 →
    M (g + 9) (4 * c) = (if c / M 321 46 > 0 then c - M 321 46 else -1) ∧ M (g + 9) (4 * c + 1) = (if c % M 321 46 > 0 then c - 1 else -1) ∧
    M (g + 9) (4 * c + 2) = (if c % M 321 46 < M 321 46 - 1 then c + 1 else -1) ∧ M (g + 9) (4 * c + 3) = (if c / M 321 46 < M 321 47 - 1 then c + M 321 46 else -1)) ∧
  (M 321 59 = 0 → M g 15 = 0) ∧ (M 321 59 ≠ 0 → M g 15 = M 321 18 ∧ M 321 18 ≤ 270 ∧ ∀ k : Nat, (k : Int) < M 321 18 → z_stp (M 326 k) (M 327 k) (M (g + 8) k))
/-- the pens as bits -/
def z_pens (s : Int → Int) : Nat → Int
  | 0 => 0
  | f + 1 => z_pens s f + s (6 + f) * 2 ^ f
/-- the class's herds in cell h are the snapshot s -/
def z_hrd (M : z_M) (h : Int) (s : Int → Int) : Prop :=
  z_her M h ∧ (∀ f : Int, 0 ≤ f → f < M 321 48 → M (h + 1) f = s f ∧ M (h + 2) f = s (12 + f)) ∧
  (∀ c : Int, 0 ≤ c → c < 25 → M (h + 3) c = s (54 + c) ∧ M (h + 4) c = s (79 + c)) ∧
  (∀ a b : Int, 0 ≤ a → a < b → b < M 321 48 → M (h + 5) (6 * a + b) = s (18 + 6 * a + b) ∧ M (h + 5) (6 * a + b) = s (18 + 6 * b + a)) ∧
  M h 5 = z_pens s (M 321 48).toNat ∧ M h 6 = s 104 ∧ M h 7 = s 105
/-- the crowd row counts the flocks in each cell -/
def z_crd (M : z_M) (s : Int → Int) : Prop := ∀ c : Int, 0 ≤ c → c < 25 → M 37 c = z_cnt (fun g => s g = c) (M 321 48).toNat
theorem z_cnt_ne (s : Int → Int) (f c : Int) (hf : 0 ≤ f) : ∀ n : Nat, z_cnt (fun g => g ≠ f ∧ s g = c) n = z_cnt (fun g => s g = c) n - (if f < n then z_b (s f = c) else 0)
  | 0 => by
    rw [if_neg (by omega)]
    rfl
  | n + 1 => by
    have ih := z_cnt_ne s f c hf n
    show z_cnt (fun g => g ≠ f ∧ s g = c) n + z_b ((n : Int) ≠ f ∧ s n = c) = z_cnt (fun g => s g = c) n + z_b (s n = c) - _
    rw [ih]
    by_cases e : f = n
    · rw [z_b_f (p := (n : Int) ≠ f ∧ s n = c) (fun q => q.1 e.symm), if_neg (by omega), if_pos (by omega), e]
      omega
    · rw [z_b_i (p := (n : Int) ≠ f ∧ s n = c) (q := s n = c) ⟨fun q => q.2, fun q => ⟨fun w => e w.symm, q⟩⟩]
      by_cases l : f < n
      · rw [if_pos l, if_pos (by omega)]
        omega
      · rw [if_neg l, if_neg (by omega)]
        omega
set_option maxRecDepth 20000 in
theorem gX8_unitWorth_0 {xs : List Int} {d : Nat} {M : z_M} {P : Option z_V → z_L → z_M → Prop} {a1 : Int} {a2 : Int} {a3 : Int} {a4 : Int} (hF : z_fix M) (ha2 : z_her M a2) (hg2 : z_gor M (M 34 3))
    (b1 : (a1 = 3) → 0 ≤ a4 ∧ a4 < 25)
    (l1 : (a1 = 3) → P (some (0, (M (a2 + 3) a4))) z_LL M)
    (b2 : (¬ a1 = 3) → (a1 = 19) → 0 ≤ a4 ∧ a4 < 25)
    (l2 : (¬ a1 = 3) → (a1 = 19) → P (some (0, (M (a2 + 4) a4))) z_LL M)
    (b3 : (¬ a1 = 3) → (¬ a1 = 19) → (a1 = 20) → 0 ≤ a4 ∧ a4 < 25)
    (b4 : (¬ a1 = 3) → (¬ a1 = 19) → (a1 = 20) → 0 ≤ a3 ∧ a3 < 6)
    (l3 : (¬ a1 = 3) → (¬ a1 = 19) → (a1 = 20) → ((M (a2 + 1) a3) ≠ a4) → P (some (0, (z_w ((M 37 a4) - 0)))) z_LL M)
    (l4 : (¬ a1 = 3) → (¬ a1 = 19) → (a1 = 20) → (¬ ((M (a2 + 1) a3) ≠ a4)) → P (some (0, (z_w ((M 37 a4) - 1)))) z_LL M)
    (b5 : (¬ a1 = 3) → (¬ a1 = 19) → (¬ a1 = 20) → (a1 = 21) → 0 ≤ (z_w ((z_w (a3 * 25)) + a4)) ∧ (z_w ((z_w (a3 * 25)) + a4)) < 150)
    (l5 : (¬ a1 = 3) → (¬ a1 = 19) → (¬ a1 = 20) → (a1 = 21) → P (some (0, (M ((M 34 3) + 10) (z_w ((z_w (a3 * 25)) + a4))))) z_LL M)
    (b6 : (¬ a1 = 3) → (¬ a1 = 19) → (¬ a1 = 20) → (¬ a1 = 21) → (a1 = 22) → 0 ≤ a3 ∧ a3 < 6)
    (l6 : (¬ a1 = 3) → (¬ a1 = 19) → (¬ a1 = 20) → (¬ a1 = 21) → (a1 = 22) → ((M (a2 + 1) a3) ≠ a4) → P (some (0, 0)) z_LL M)
    (l7 : (¬ a1 = 3) → (¬ a1 = 19) → (¬ a1 = 20) → (¬ a1 = 21) → (a1 = 22) → (¬ ((M (a2 + 1) a3) ≠ a4)) → P (some (0, 1)) z_LL M)
    (l8 : (¬ a1 = 3) → (¬ a1 = 19) → (¬ a1 = 20) → (¬ a1 = 21) → (¬ a1 = 22) → P (some (0, (M a2 6))) z_LL M) :
    wp xs d mX8_unitWorth 0 [(2, 34), (0, a1), (2, a2), (0, a3), (0, a4)] [] z_LL M P := by
  refine wp_run 1 (pc' := 1) (ls' := [(2, 34), (0, a1), (2, a2), (0, a3), (0, a4)]) (st' := [(0, a1)]) rfl ?_
  by_cases c1 : a1 = 3
  · refine wp_cast c1 ?_
    refine wp_run 2 (pc' := 53) (ls' := [(2, 34), (0, a1), (2, a2), (0, a3), (0, a4)]) (st' := [(2, a2)]) rfl ?_
    refine wp_gf (pc' := 56) (t := 2) (v := (a2 + 3)) rfl rfl (by decide) rfl (z_hl0 ha2) (z_hf2 ha2) ?_
    refine wp_run 1 (pc' := 58) (ls' := [(2, 34), (0, a1), (2, a2), (0, a3), (0, a4)]) (st' := [(0, a4), (2, (a2 + 3))]) rfl ?_
    refine wp_iald (pc' := 59) (v := (M (a2 + 3) a4)) rfl rfl (z_hl3 ha2) (b1 c1) rfl ?_
    exact wp_ret rfl rfl (l1 c1)
  by_cases c2 : a1 = 19
  · refine wp_cast c2 ?_
    refine wp_run 2 (pc' := 61) (ls' := [(2, 34), (0, a1), (2, a2), (0, a3), (0, a4)]) (st' := [(2, a2)]) rfl ?_
    refine wp_gf (pc' := 64) (t := 2) (v := (a2 + 4)) rfl rfl (by decide) rfl (z_hl0 ha2) (z_hf3 ha2) ?_
    refine wp_run 1 (pc' := 66) (ls' := [(2, 34), (0, a1), (2, a2), (0, a3), (0, a4)]) (st' := [(0, a4), (2, (a2 + 4))]) rfl ?_
    refine wp_iald (pc' := 67) (v := (M (a2 + 4) a4)) rfl rfl (z_hl4 ha2) (b2 c1 c2) rfl ?_
    exact wp_ret rfl rfl (l2 c1 c2)
  by_cases c3 : a1 = 20
  · refine wp_cast c3 ?_
    refine wp_run 2 (pc' := 69) (ls' := [(2, 34), (0, a1), (2, a2), (0, a3), (0, a4)]) (st' := [(2, 34)]) rfl ?_
    refine wp_gf (pc' := 72) (t := 2) (v := 37) rfl rfl (by decide) rfl rfl (fx_34_2 hF) ?_
    refine wp_run 1 (pc' := 74) (ls' := [(2, 34), (0, a1), (2, a2), (0, a3), (0, a4)]) (st' := [(0, a4), (2, 37)]) rfl ?_
    refine wp_iald (pc' := 75) (v := (M 37 a4)) rfl rfl rfl (b3 c1 c2 c3) rfl ?_
    refine wp_run 1 (pc' := 76) (ls' := [(2, 34), (0, a1), (2, a2), (0, a3), (0, a4)]) (st' := [(2, a2), (0, (M 37 a4))]) rfl ?_
    refine wp_gf (pc' := 79) (t := 2) (v := (a2 + 1)) rfl rfl (by decide) rfl (z_hl0 ha2) (z_hf0 ha2) ?_
    refine wp_run 1 (pc' := 80) (ls' := [(2, 34), (0, a1), (2, a2), (0, a3), (0, a4)]) (st' := [(0, a3), (2, (a2 + 1)), (0, (M 37 a4))]) rfl ?_
    refine wp_iald (pc' := 81) (v := (M (a2 + 1) a3)) rfl rfl (z_hl1 ha2) (b4 c1 c2 c3) rfl ?_
    refine wp_run 1 (pc' := 83) (ls' := [(2, 34), (0, a1), (2, a2), (0, a3), (0, a4)]) (st' := [(0, a4), (0, (M (a2 + 1) a3)), (0, (M 37 a4))]) rfl ?_
    refine wp_if2 rfl rfl rfl (fun (c4 : (M (a2 + 1) a3) ≠ a4) => ?_) (fun (c4 : ¬ ((M (a2 + 1) a3) ≠ a4)) => ?_)
    · refine wp_run 2 (pc' := 92) (ls' := [(2, 34), (0, a1), (2, a2), (0, a3), (0, a4)]) (st' := [(0, (z_w ((M 37 a4) - 0)))]) rfl ?_
      exact wp_ret rfl rfl (l3 c1 c2 c3 c4)
    · refine wp_run 3 (pc' := 92) (ls' := [(2, 34), (0, a1), (2, a2), (0, a3), (0, a4)]) (st' := [(0, (z_w ((M 37 a4) - 1)))]) rfl ?_
      exact wp_ret rfl rfl (l4 c1 c2 c3 c4)
  by_cases c5 : a1 = 21
  · refine wp_cast c5 ?_
    refine wp_run 2 (pc' := 94) (ls' := [(2, 34), (0, a1), (2, a2), (0, a3), (0, a4)]) (st' := [(2, 34)]) rfl ?_
    refine wp_gf (pc' := 97) (t := 2) (v := (M 34 3)) rfl rfl (by decide) rfl rfl rfl ?_
    refine wp_gf (pc' := 100) (t := 2) (v := ((M 34 3) + 10)) rfl rfl (by decide) rfl (z_gl0 hg2) (z_gf9 hg2) ?_
    refine wp_run 5 (pc' := 107) (ls' := [(2, 34), (0, a1), (2, a2), (0, a3), (0, a4)]) (st' := [(0, (z_w ((z_w (a3 * 25)) + a4))), (2, ((M 34 3) + 10))]) rfl ?_
    refine wp_iald (pc' := 108) (v := (M ((M 34 3) + 10) (z_w ((z_w (a3 * 25)) + a4)))) rfl rfl (z_gl10 hg2) (b5 c1 c2 c3 c5) rfl ?_
    exact wp_ret rfl rfl (l5 c1 c2 c3 c5)
  by_cases c6 : a1 = 22
  · refine wp_cast c6 ?_
    refine wp_run 2 (pc' := 110) (ls' := [(2, 34), (0, a1), (2, a2), (0, a3), (0, a4)]) (st' := [(2, a2)]) rfl ?_
    refine wp_gf (pc' := 113) (t := 2) (v := (a2 + 1)) rfl rfl (by decide) rfl (z_hl0 ha2) (z_hf0 ha2) ?_
    refine wp_run 1 (pc' := 114) (ls' := [(2, 34), (0, a1), (2, a2), (0, a3), (0, a4)]) (st' := [(0, a3), (2, (a2 + 1))]) rfl ?_
    refine wp_iald (pc' := 115) (v := (M (a2 + 1) a3)) rfl rfl (z_hl1 ha2) (b6 c1 c2 c3 c5 c6) rfl ?_
    refine wp_run 1 (pc' := 117) (ls' := [(2, 34), (0, a1), (2, a2), (0, a3), (0, a4)]) (st' := [(0, a4), (0, (M (a2 + 1) a3))]) rfl ?_
    refine wp_if2 rfl rfl rfl (fun (c7 : (M (a2 + 1) a3) ≠ a4) => ?_) (fun (c7 : ¬ ((M (a2 + 1) a3) ≠ a4)) => ?_)
    · refine wp_run 1 (pc' := 125) (ls' := [(2, 34), (0, a1), (2, a2), (0, a3), (0, a4)]) (st' := [(0, 0)]) rfl ?_
      exact wp_ret rfl rfl (l6 c1 c2 c3 c5 c6 c7)
    · refine wp_run 2 (pc' := 125) (ls' := [(2, 34), (0, a1), (2, a2), (0, a3), (0, a4)]) (st' := [(0, 1)]) rfl ?_
      exact wp_ret rfl rfl (l7 c1 c2 c3 c5 c6 c7)
  refine wp_lsd rfl rfl (by simp [z_lsw, c1, c2, c3, c5, c6]) ?_
  refine wp_run 1 (pc' := 127) (ls' := [(2, 34), (0, a1), (2, a2), (0, a3), (0, a4)]) (st' := [(2, a2)]) rfl ?_
  refine wp_gf (pc' := 130) (t := 0) (v := (M a2 6)) rfl rfl (by decide) rfl (z_hl0 ha2) rfl ?_
  exact wp_ret rfl rfl (l8 c1 c2 c3 c5 c6)
theorem s_X8_unitWorth {xs : List Int} {d : Nat} {M : z_M} {P : Option z_V → z_L → z_M → Prop} {h f c j kk : Int} {s : Int → Int} (hF : z_fix M) (hC : z_mc M) (hG : z_gg M (M 34 3)) (hH : z_hrd M h s) (hR : z_crd M s) (hf : 0 ≤ f ∧ f < M 321 48) (hc : 0 ≤ c ∧ c < M 321 46 * M 321 47) (hj : z_unk j kk) (k : P (some (0, z_ask M s f c j)) z_LL M) : wp xs d mX8_unitWorth 0 [(2, 34), (0, kk), (2, h), (0, f), (0, c)] [] z_LL M P := by
  have hn := hC.2.2.1
  have hx := z_mc_cells hC
  have ef := (hH.2.1 f hf.1 hf.2).1
  have ec := hH.2.2.1 c hc.1 (by omega)
  have er := hR c hc.1 (by omega)
  have eo : z_ots M s f c = M 37 c - z_b (s f = c) := by
    unfold z_ots
    rw [z_cnt_ne s f c hf.1, if_pos (by omega), er]
  have efar := (hG.2.2.1 f hf.1 hf.2).2.2.2.2.2 c hc.1 hc.2
  have hb := z_cnt_b (fun g => s g = c) (M 321 48).toNat
  have g := gX8_unitWorth_0 (M := M) (xs := xs) (d := d) (P := P) (a1 := kk) (a2 := h) (a3 := f) (a4 := c) hF hH.1 hG.1
  simp only [ef, ec.1, ec.2, z_wid (x := f * 25) (by omega), z_wid (x := f * 25 + c) (by omega), z_wid (x := 25 * f + c) (by omega), show f * 25 + c = 25 * f + c by omega, efar, hH.2.2.2.2.2.1] at g
  unfold z_ask at k
  apply g
  case b1 => intros; omega
  case b2 => intros; omega
  case b3 => intros; omega
  case b4 => intros; omega
  case b5 => intros; omega
  case b6 => intros; omega
  case l1 =>
    intro e
    have : j = 0 := by unfold z_unk at hj; omega
    rw [if_pos this] at k
    exact k
  case l2 =>
    intro _ e
    have : j = 1 := by unfold z_unk at hj; omega
    rw [if_neg (by omega), if_pos this] at k
    exact k
  case l3 =>
    intro _ _ e w
    have : j = 2 := by unfold z_unk at hj; omega
    rw [if_neg (by omega), if_neg (by omega), if_pos this, eo, z_b_f w] at k
    rw [z_wid (by omega)]
    exact k
  case l4 =>
    intro _ _ e w
    have : j = 2 := by unfold z_unk at hj; omega
    rw [if_neg (by omega), if_neg (by omega), if_pos this, eo, z_b_t (by omega)] at k
    rw [z_wid (by omega)]
    exact k
  case l5 =>
    intro _ _ _ e
    have : j = 3 := by unfold z_unk at hj; omega
    rw [if_neg (by omega), if_neg (by omega), if_neg (by omega), if_pos this] at k
    exact k
  case l6 =>
    intro _ _ _ _ e w
    have : j = 4 := by unfold z_unk at hj; omega
    rw [if_neg (by omega), if_neg (by omega), if_neg (by omega), if_neg (by omega), if_pos this, z_b_f w] at k
    exact k
  case l7 =>
    intro _ _ _ _ e w
    have : j = 4 := by unfold z_unk at hj; omega
    rw [if_neg (by omega), if_neg (by omega), if_neg (by omega), if_neg (by omega), if_pos this, z_b_t (by omega)] at k
    exact k
  case l8 =>
    intro _ _ _ _ e
    have : j = 5 := by unfold z_unk at hj; omega
    rw [if_neg (by omega), if_neg (by omega), if_neg (by omega), if_neg (by omega), if_neg (by omega)] at k
    exact k
