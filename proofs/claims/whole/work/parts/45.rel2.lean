/-! WHAT HOLDS BETWEEN CALLS -/
/-- the numbers of the model's gorge, and its rows, stay -/
def z_cfe (M M' : z_M) : Prop := (∀ k, (46 ≤ k ∧ k ≤ 52) ∨ k = 18 ∨ k = 21 ∨ k = 59 → M' 321 k = M 321 k) ∧ M' 326 = M 326 ∧ M' 327 = M 327 ∧ M' 337 = M 337 ∧ M' 338 = M 338 ∧ M' 339 = M 339 ∧ M' 340 = M 340 ∧ M' 341 = M 341
theorem z_cfe_c {M M' : z_M} (h : ∀ q, z_conf q → M' q = M q) : z_cfe M M' := ⟨fun k _ => by rw [h 321 (by unfold z_conf; omega)], h _ (by unfold z_conf; omega), h _ (by unfold z_conf; omega), h _ (by unfold z_conf; omega), h _ (by unfold z_conf; omega), h _ (by unfold z_conf; omega), h _ (by unfold z_conf; omega), h _ (by unfold z_conf; omega)⟩
theorem z_cfe_r {M : z_M} : z_cfe M M := z_cfe_c (fun _ _ => rfl)
theorem z_cfe_t {M M1 M2 : z_M} (a : z_cfe M M1) (b : z_cfe M1 M2) : z_cfe M M2 := ⟨fun k hk => by rw [b.1 k hk, a.1 k hk], by rw [b.2.1, a.2.1], by rw [b.2.2.1, a.2.2.1], by rw [b.2.2.2.1, a.2.2.2.1], by rw [b.2.2.2.2.1, a.2.2.2.2.1], by rw [b.2.2.2.2.2.1, a.2.2.2.2.2.1], by rw [b.2.2.2.2.2.2.1, a.2.2.2.2.2.2.1], by rw [b.2.2.2.2.2.2.2, a.2.2.2.2.2.2.2]⟩
theorem z_e46 {M M' : z_M} (h : z_cfe M M') : M' 321 46 = M 321 46 := h.1 46 (by omega)
theorem z_e47 {M M' : z_M} (h : z_cfe M M') : M' 321 47 = M 321 47 := h.1 47 (by omega)
theorem z_e48 {M M' : z_M} (h : z_cfe M M') : M' 321 48 = M 321 48 := h.1 48 (by omega)
theorem z_e50 {M M' : z_M} (h : z_cfe M M') : M' 321 50 = M 321 50 := h.1 50 (by omega)
theorem z_e51 {M M' : z_M} (h : z_cfe M M') : M' 321 51 = M 321 51 := h.1 51 (by omega)
theorem z_e52 {M M' : z_M} (h : z_cfe M M') : M' 321 52 = M 321 52 := h.1 52 (by omega)
theorem z_e18 {M M' : z_M} (h : z_cfe M M') : M' 321 18 = M 321 18 := h.1 18 (by omega)
theorem z_e59 {M M' : z_M} (h : z_cfe M M') : M' 321 59 = M 321 59 := h.1 59 (by omega)
section
variable {M M' : z_M}
theorem z_mc_x (h : z_cfe M M') (a : z_mc M) : z_mc M' := by
  unfold z_mc at a ⊢
  rw [z_e46 h, z_e47 h, z_e48 h, z_e50 h, z_e51 h, z_e52 h, h.2.2.2.1, h.2.2.2.2.1, h.2.2.2.2.2.1, h.2.2.2.2.2.2.1, h.2.2.2.2.2.2.2]
  exact a
theorem z_fp_x (h : z_cfe M M') (a : z_fp M) : z_fp M' := by
  unfold z_fp at a ⊢
  rw [z_e18 h, z_e59 h, h.2.1, h.2.2.1]
  exact a
theorem z_fsy_x (h : z_cfe M M') (a : z_fsy M) : z_fsy M' := by
  unfold z_fsy at a ⊢
  rw [z_e48 h, h.2.2.2.2.2.2.2]
  exact a
theorem z_cm_x (h : z_cfe M M') : z_cm M' = z_cm M := by
  funext a b
  unfold z_cm
  rw [h.2.2.2.1, h.2.2.2.2.2.2.2]
theorem z_sn_x (h : z_cfe M M') {D : Int} {s : Int → Int} (a : z_sn M D s) : z_sn M' D s := by
  unfold z_sn at a ⊢
  rw [z_e46 h, z_e47 h, z_e48 h, z_cm_x h]
  exact a
theorem z_hrd_x (h : z_cfe M M') {q : Int} {s : Int → Int} (hM : ∀ c, q ≤ c → c ≤ q + 5 → M' c = M c) (a : z_hrd M q s) : z_hrd M' q s := by
  unfold z_hrd z_her at a ⊢
  rw [z_e48 h, hM q (by omega) (by omega), hM (q + 1) (by omega) (by omega), hM (q + 2) (by omega) (by omega), hM (q + 3) (by omega) (by omega), hM (q + 4) (by omega) (by omega), hM (q + 5) (by omega) (by omega)]
  exact a
theorem z_gg_x (h : z_cfe M M') {g : Int} (hM : ∀ c, g ≤ c → c ≤ g + 10 → M' c = M c) (a : z_gg M g) : z_gg M' g := by
  unfold z_gg z_gor at a ⊢
  simp only [z_e46 h, z_e47 h, z_e48 h, z_e50 h, z_e51 h, z_e52 h, z_e18 h, z_e59 h, h.2.1, h.2.2.1, h.2.2.2.1, h.2.2.2.2.1, h.2.2.2.2.2.1, h.2.2.2.2.2.2.1, h.2.2.2.2.2.2.2, hM g (by omega) (by omega), hM (g + 2) (by omega) (by omega), hM (g + 3) (by omega) (by omega), hM (g + 4) (by omega) (by omega), hM (g + 5) (by omega) (by omega), hM (g + 6) (by omega) (by omega), hM (g + 8) (by omega) (by omega), hM (g + 9) (by omega) (by omega), hM (g + 10) (by omega) (by omega)]
  exact a
theorem z_sn_e {D : Int} {s t : Int → Int} (e : ∀ k, 0 ≤ k → k < 106 → t k = s k) (hC : z_mc M) (a : z_sn M D s) : z_sn M D t := by
  have hn := hC.2.2.1
  obtain ⟨a1, a2, a3, a4, a5, a6⟩ := a
  refine ⟨fun f h1 h2 => ?_, fun c h1 h2 => ?_, fun k h1 h2 => ?_, ?_, ?_, fun x y h1 h2 h3 h4 h5 => ?_⟩
  · rw [e f (by omega) (by omega), e (6 + f) (by omega) (by omega), e (12 + f) (by omega) (by omega)]
    exact a1 f h1 h2
  · rw [e (54 + c) (by omega) (by omega), e (79 + c) (by omega) (by omega)]
    exact a2 c h1 h2
  · rw [e k (by omega) (by omega), e 104 (by omega) (by omega)]
    exact a3 k h1 h2
  · rw [e 104 (by omega) (by omega)]
    exact a4
  · rw [e 105 (by omega) (by omega)]
    exact a5
  · rw [e (18 + 6 * x + y) (by omega) (by omega)]
    exact a6 x y h1 h2 h3 h4 h5
theorem z_hrd_e {q : Int} {s t : Int → Int} (e : ∀ k, 0 ≤ k → k < 106 → t k = s k) (hC : z_mc M) (a : z_hrd M q s) : z_hrd M q t := by
  have hn := hC.2.2.1
  obtain ⟨a1, a2, a3, a4, a5, a6, a7⟩ := a
  refine ⟨a1, fun f h1 h2 => ?_, fun c h1 h2 => ?_, fun x y h1 h2 h3 => ?_, ?_, ?_, ?_⟩
  · rw [e f (by omega) (by omega), e (12 + f) (by omega) (by omega)]
    exact a2 f h1 h2
  · rw [e (54 + c) (by omega) (by omega), e (79 + c) (by omega) (by omega)]
    exact a3 c h1 h2
  · rw [e (18 + 6 * x + y) (by omega) (by omega), e (18 + 6 * y + x) (by omega) (by omega)]
    exact a4 x y h1 h2 h3
  · rw [a5]
    exact z_pens_c (fun f h1 h2 => (e _ (by omega) (by omega)).symm)
  · rw [e 104 (by omega) (by omega)]
    exact a6
  · rw [e 105 (by omega) (by omega)]
    exact a7
end
/-- herds that are now's or kept -/
def z_hk (h : Int) : Prop := h = 24 ∨ (49 ≤ h ∧ h ≤ 283 ∧ (h - 49) % 6 = 0)
def z_Rg (M : z_M) : Prop := M 34 3 = M 1 0 ∧ z_gg M (M 1 0) ∧ z_gor M (M 1 1) ∧ M 1 0 ≠ M 1 1 ∧ M (M 1 0) 13 = M 321 49 ∧ M (M 1 0) 14 = M 321 21
def z_Rn (M : z_M) : Prop := z_hk (M 1 2) ∧ z_hrd M (M 1 2) (M 342) ∧ z_sn M 999 (M 342)
def z_Rp (M : z_M) : Prop := (∀ i : Int, 0 ≤ i → i < 40 → z_hk (M 48 i) ∧ z_her M (M 48 i) ∧ M 48 i ≠ M 1 2) ∧ (∀ i j : Int, 0 ≤ i → i < j → j < 40 → M 48 i ≠ M 48 j) ∧ (M 47 1 = M 321 64 ∧ M 47 2 = M 321 65) ∧ (0 ≤ M 321 64 ∧ 0 ≤ M 321 65 ∧ M 321 64 + M 321 65 ≤ 40) ∧ ∀ i : Int, 0 ≤ i → i < M 321 64 + M 321 65 → z_hrd M (M 48 i) (fun k => M 345 (106 * i + k)) ∧ z_sn M 999 (fun k => M 345 (106 * i + k))
def z_Rb (M : z_M) : Prop := ∀ b : Int, 0 ≤ b → b < 3 → (M 356 b = 0 ∨ M 356 b = 1) ∧ (M 356 b = 1 ↔ z_bt (M 1 12) b) ∧ (M 356 b = 1 → z_hrd M (303 + 6 * b) (fun k => M 357 (106 * b + k)) ∧ z_sn M 999 (fun k => M 357 (106 * b + k)))
def z_Rs (M : z_M) : Prop := (M 294 6 = M 321 76 ∧ 0 ≤ M 321 76 ∧ M 321 76 ≤ 30) ∧ (M 294 7 = M 321 77 ∧ 0 ≤ M 321 77 ∧ M 321 77 ≤ 100000) ∧ ∀ i : Int, 0 ≤ i → i < M 321 76 → (M 295 i = M 349 i ∧ M 296 i = M 350 i ∧ M 297 i = M 351 i ∧ M 298 i = M 354 i ∧ M 299 i = M 352 i ∧ M 300 i = M 353 i) ∧ (0 ≤ M 349 i ∧ M 349 i ≤ 9) ∧ (0 ≤ M 350 i ∧ M 350 i < M 321 48) ∧ (0 ≤ M 351 i ∧ M 351 i < M 321 46 * M 321 47) ∧ (M 354 i = 0 ∨ M 354 i = 1) ∧ -1 ≤ M 353 i
def z_Rl (M : z_M) : Prop := M 1 13 = M 321 68 ∧ 0 ≤ M 321 68 ∧ M 321 68 ≤ 6 ∧ ∀ i : Int, 0 ≤ i → i < M 321 68 → M 302 i = M 347 i
def z_by (x : Int) : Int := if x < 128 then x else x - 256
def z_rsv : List Int := [7850213, 89, 7935150, 7931507, 6700139, 2696325, 7945709, 52, 632645, 24165011, 202404, 546188, 591150, 486, 195603773683, 149559, 498, 1476, 14836, 624020, 524555859, 277925, 267845, 4153]
def z_Rt (M : z_M) : Prop := (M 30 2 = M 321 1 ∧ 0 ≤ M 321 1 ∧ M 321 1 ≤ 1600) ∧ (M 33 1 = M 321 2 ∧ M 33 2 = M 321 3) ∧ (∀ i : Int, 0 ≤ i → i < 1600 → (0 ≤ M 322 i ∧ M 322 i < 256) ∧ M 31 i = z_by (M 322 i)) ∧ ∀ i : Nat, i < 24 → M 32 i = z_rsv.getD i 0
/-- nothing lies behind the ends of two rows -/
def z_Rz (M : z_M) : Prop := ∀ k : Int, ¬ (0 ≤ k ∧ k < 106) → M 342 k = 0 ∧ M 343 k = 0
def z_R (M : z_M) : Prop := (z_fix M ∧ z_mc M ∧ z_fp M ∧ z_fsy M) ∧ z_Rg M ∧ z_Rn M ∧ z_Rp M ∧ z_Rb M ∧ z_Rs M ∧ z_Rl M ∧ z_Rt M ∧ z_Rz M
/-- only what calls reckon with has changed -/
def z_sq (q : Int) : Prop := (34 ≤ q ∧ q ≤ 46) ∨ (289 ≤ q ∧ q ≤ 293) ∨ q = 329 ∨ q = 330 ∨ q = 343 ∨ q = 344 ∨ q = 346 ∨ q = 348 ∨ q = 355
def z_sc (M M' : z_M) : Prop := (∀ q, ¬ z_sq q → M' q = M q) ∧ (∀ j, j ≠ 4 → M' 34 j = M 34 j) ∧ (∀ j, 0 ≤ j → j < 4 → M' 38 j = M 38 j ∧ M' 289 j = M 289 j) ∧ (∀ j, 0 ≤ j → j < 5 → M' 39 j = M 39 j) ∧ ∀ k, ¬ (0 ≤ k ∧ k < 106) → M' 343 k = M 343 k
theorem z_sc_r {M : z_M} : z_sc M M := ⟨fun _ _ => rfl, fun _ _ => rfl, fun _ _ _ => ⟨rfl, rfl⟩, fun _ _ _ => rfl, fun _ _ => rfl⟩
theorem z_sc_t {M M1 M2 : z_M} (a : z_sc M M1) (b : z_sc M1 M2) : z_sc M M2 := ⟨fun q hq => by rw [b.1 q hq, a.1 q hq], fun j hj => by rw [b.2.1 j hj, a.2.1 j hj], fun j h0 hj => ⟨by rw [(b.2.2.1 j h0 hj).1, (a.2.2.1 j h0 hj).1], by rw [(b.2.2.1 j h0 hj).2, (a.2.2.1 j h0 hj).2]⟩, fun j h0 hj => by rw [b.2.2.2.1 j h0 hj, a.2.2.2.1 j h0 hj], fun k hk => by rw [b.2.2.2.2 k hk, a.2.2.2.2 k hk]⟩
theorem z_sc_c {M M' : z_M} (f : z_sc M M') : ∀ q, z_conf q → M' q = M q := fun q hq => f.1 q (by unfold z_conf at hq; unfold z_sq; omega)
theorem z_sc_fix {M M' : z_M} (f : z_sc M M') (hF : z_fix M) : z_fix M' := z_fix_gen hF (fun q i hq => by
  by_cases e : q = 34
  · rw [e]
    exact f.2.1 i (by unfold z_fin at hq; omega)
  · by_cases e2 : q = 38
    · rw [e2] at hq ⊢
      exact (f.2.2.1 i (by unfold z_fin at hq; omega) (by unfold z_fin at hq; omega)).1
    · by_cases e3 : q = 289
      · rw [e3] at hq ⊢
        exact (f.2.2.1 i (by unfold z_fin at hq; omega) (by unfold z_fin at hq; omega)).2
      · by_cases e4 : q = 39
        · rw [e4] at hq ⊢
          exact f.2.2.2.1 i (by unfold z_fin at hq; omega) (by unfold z_fin at hq; omega)
        · rw [f.1 q (by unfold z_fin at hq; unfold z_sq; omega)])
theorem z_sc_R {M M' : z_M} (f : z_sc M M') (hR : z_R M) : z_R M' := by
  obtain ⟨⟨F, C, P, Y⟩, ⟨g1, g2, g3, g4, g5, g6⟩, ⟨n1, n2, n3⟩, ⟨p1, p2, p3, p4, p5⟩, b, s, l, t, z⟩ := hR
  have c := z_cfe_c (z_sc_c f)
  have G0 := z_gsep g2.1
  have G1 := z_gsep g3
  have N : ∀ h, z_hk h → ∀ c, h ≤ c → c ≤ h + 5 → ¬ z_sq c := fun h hh c h1 h2 => by
    unfold z_hk at hh
    unfold z_sq
    omega
  have q1 : M' 1 = M 1 := f.1 1 (by unfold z_sq; omega)
  have q321 : M' 321 = M 321 := f.1 321 (by unfold z_sq; omega)
  refine ⟨⟨z_sc_fix f F, z_mc_x c C, z_fp_x c P, z_fsy_x c Y⟩, ⟨?_, ?_, ?_, ?_, ?_, ?_⟩, ⟨?_, ?_, ?_⟩, ⟨?_, ?_, ?_, ?_, ?_⟩, ?_, ?_, ?_, ?_, fun k hk => ⟨?_, ?_⟩⟩
  · rw [f.2.1 3 (by decide), q1, g1]
  · rw [q1]
    exact z_gg_x c (fun c a b => f.1 c (by unfold z_sq; omega)) g2
  · rw [q1]
    exact z_gor_q (f.1 _ (by unfold z_sq; omega)) g3
  · rw [q1]
    exact g4
  · rw [q1, f.1 (M 1 0) (by unfold z_sq; omega), q321, g5]
  · rw [q1, f.1 (M 1 0) (by unfold z_sq; omega), q321, g6]
  · rw [q1]
    exact n1
  · rw [q1, f.1 342 (by unfold z_sq; omega)]
    exact z_hrd_x c (fun c a b => f.1 c (N _ n1 c a b)) n2
  · rw [f.1 342 (by unfold z_sq; omega)]
    exact z_sn_x c n3
  · rw [q1, f.1 48 (by unfold z_sq; omega)]
    intro i a b
    obtain ⟨x, y, z⟩ := p1 i a b
    exact ⟨x, z_her_q (f.1 _ (N _ x _ (by omega) (by omega))) y, z⟩
  · rw [f.1 48 (by unfold z_sq; omega)]
    exact p2
  · rw [f.1 47 (by unfold z_sq; omega), q321]
    exact p3
  · rw [q321]
    exact p4
  · rw [q321, f.1 48 (by unfold z_sq; omega), f.1 345 (by unfold z_sq; omega)]
    intro i a b
    obtain ⟨x, y⟩ := p5 i a b
    exact ⟨z_hrd_x c (fun c a' b' => f.1 c (N _ (p1 i a (by omega)).1 c a' b')) x, z_sn_x c y⟩
  · unfold z_Rb at b ⊢
    rw [f.1 356 (by unfold z_sq; omega), f.1 357 (by unfold z_sq; omega), q1]
    intro i a b'
    obtain ⟨x, y, z⟩ := b i a b'
    exact ⟨x, y, fun w => ⟨z_hrd_x c (fun c a' b' => f.1 c (by unfold z_sq; omega)) (z w).1, z_sn_x c (z w).2⟩⟩
  · unfold z_Rs at s ⊢
    rw [f.1 294 (by unfold z_sq; omega), q321, f.1 295 (by unfold z_sq; omega), f.1 296 (by unfold z_sq; omega), f.1 297 (by unfold z_sq; omega), f.1 298 (by unfold z_sq; omega), f.1 299 (by unfold z_sq; omega), f.1 300 (by unfold z_sq; omega), f.1 349 (by unfold z_sq; omega), f.1 350 (by unfold z_sq; omega), f.1 351 (by unfold z_sq; omega), f.1 352 (by unfold z_sq; omega), f.1 353 (by unfold z_sq; omega), f.1 354 (by unfold z_sq; omega)]
    exact s
  · unfold z_Rl at l ⊢
    rw [q1, q321, f.1 302 (by unfold z_sq; omega), f.1 347 (by unfold z_sq; omega)]
    exact l
  · unfold z_Rt at t ⊢
    rw [f.1 30 (by unfold z_sq; omega), q321, f.1 33 (by unfold z_sq; omega), f.1 322 (by unfold z_sq; omega), f.1 31 (by unfold z_sq; omega), f.1 32 (by unfold z_sq; omega)]
    exact t
  · rw [f.1 342 (by unfold z_sq; omega)]
    exact (z k hk).1
  · rw [f.2.2.2.2 k hk]
    exact (z k hk).2
/-- one after the other, both answer alike, and all holds again -/
def z_two (xs : List Int) (d : Nat) (mc mm : z_D) (as bs : List z_V) (M : z_M) : Prop :=
  wp xs d mc 0 as [] z_LL M (fun r L1 M1 => ∃ v : Int, r = some (0, v) ∧ L1 = z_LL ∧ wp xs d mm 0 bs [] z_LL M1 (fun r2 L2 M2 => r2 = some (0, v) ∧ L2 = z_LL ∧ z_R M2))
theorem z_two_q {xs : List Int} {d : Nat} {mc mm : z_D} {as bs : List z_V} {M : z_M} (v : Int) (hR : z_R M) (h1 : ∀ P : Option z_V → z_L → z_M → Prop, (∀ M' : z_M, z_sc M M' → P (some (0, v)) z_LL M') → wp xs d mc 0 as [] z_LL M P) (h2 : ∀ (M1 : z_M) (P : Option z_V → z_L → z_M → Prop), z_sc M M1 → z_R M1 → (∀ M' : z_M, z_sc M1 M' → P (some (0, v)) z_LL M') → wp xs d mm 0 bs [] z_LL M1 P) : z_two xs d mc mm as bs M := by
  refine h1 _ (fun M1 f1 => ⟨v, rfl, rfl, ?_⟩)
  exact h2 M1 _ f1 (z_sc_R f1 hR) (fun M2 f2 => ⟨rfl, rfl, z_sc_R f2 (z_sc_R f1 hR)⟩)
