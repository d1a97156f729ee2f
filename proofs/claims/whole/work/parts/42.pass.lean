/-! the class's day, step by step -/
/-- feuds are of both -/
def z_fsy (M : z_M) : Prop := ∀ a b : Int, 0 ≤ a → a < M 321 48 → 0 ≤ b → b < M 321 48 → (z_and (z_shr (M 341 a) b) 1 = 0 ↔ z_and (z_shr (M 341 b) a) 1 = 0)
theorem z_fsy_q {M M' : z_M} (hM : ∀ q, z_conf q → M' q = M q) (h : z_fsy M) : z_fsy M' := by
  unfold z_fsy at h ⊢
  rw [hM 321 (by unfold z_conf; omega), hM 341 (by unfold z_conf; omega)]
  exact h
theorem z_cm_y {M : z_M} (h : z_fsy M) {a b : Int} (a1 : 0 ≤ a) (a2 : a < M 321 48) (b1 : 0 ≤ b) (b2 : b < M 321 48) : z_cm M a b ↔ z_cm M b a := by
  unfold z_cm
  rw [h a b a1 a2 b1 b2]
  exact ⟨fun q => ⟨fun e => q.1 e.symm, q.2⟩, fun q => ⟨fun e => q.1 e.symm, q.2⟩⟩
theorem z_cmg_cm {M : z_M} {g : Int} (hG : z_gg M g) {a b : Int} (a1 : 0 ≤ a) (a2 : a < M 321 48) (b1 : 0 ≤ b) (b2 : b < M 321 48) : z_cmg M g a b ↔ z_cm M a b := by
  unfold z_cmg z_cm
  rw [hG.2.1.2.2.1, (hG.2.2.1 a a1 a2).1, (hG.2.2.1 b b1 b2).1, (hG.2.2.1 a a1 a2).2.2.2.1]
  exact ⟨fun q => q.2.2, fun q => ⟨⟨a1, a2⟩, ⟨b1, b2⟩, q⟩⟩
section
variable {M M' : z_M} {h : Int} {s t : Int → Int}
theorem z_hrd_r1 (hH : z_hrd M h s) (hM : ∀ q, q = 321 ∨ (h ≤ q ∧ q ≤ h + 5 ∧ q ≠ h + 1) → M' q = M q) (hv : ∀ f : Int, 0 ≤ f → f < M 321 48 → M' (h + 1) f = t f) (ht : ∀ k, 6 ≤ k → t k = s k) : z_hrd M' h t := by
  obtain ⟨a, b, c, e, p, u, v⟩ := hH
  unfold z_hrd
  rw [hM 321 (by omega), hM h (by omega), hM (h + 2) (by omega), hM (h + 3) (by omega), hM (h + 4) (by omega), hM (h + 5) (by omega)]
  refine ⟨z_her_q (hM h (by omega)) a, fun f h1 h2 => ⟨hv f h1 h2, ?_⟩, fun c' h1 h2 => ?_, fun x y h1 h2 h3 => ?_, ?_, ?_, ?_⟩
  · rw [ht _ (by omega)]
    exact (b f h1 h2).2
  · rw [ht _ (by omega), ht _ (by omega)]
    exact c c' h1 h2
  · rw [ht _ (by omega), ht _ (by omega)]
    exact e x y h1 h2 h3
  · rw [p]
    exact z_pens_c (fun f h1 h2 => (ht _ (by omega)).symm)
  · rw [u, ht _ (by omega)]
  · rw [v, ht _ (by omega)]
theorem z_hrd_r2 (hH : z_hrd M h s) (hM : ∀ q, q = 321 ∨ (h ≤ q ∧ q ≤ h + 5 ∧ q ≠ h + 2) → M' q = M q) (hn : M 321 48 ≤ 6) (hv : ∀ f : Int, 0 ≤ f → f < M 321 48 → M' (h + 2) f = t (12 + f)) (ht : ∀ k, ¬ (12 ≤ k ∧ k < 18) → t k = s k) : z_hrd M' h t := by
  obtain ⟨a, b, c, e, p, u, v⟩ := hH
  unfold z_hrd
  rw [hM 321 (by omega), hM h (by omega), hM (h + 1) (by omega), hM (h + 3) (by omega), hM (h + 4) (by omega), hM (h + 5) (by omega)]
  refine ⟨z_her_q (hM h (by omega)) a, fun f h1 h2 => ⟨?_, hv f h1 h2⟩, fun c' h1 h2 => ?_, fun x y h1 h2 h3 => ?_, ?_, ?_, ?_⟩
  · rw [ht _ (by omega)]
    exact (b f h1 h2).1
  · rw [ht _ (by omega), ht _ (by omega)]
    exact c c' h1 h2
  · rw [ht _ (by omega), ht _ (by omega)]
    exact e x y h1 h2 h3
  · rw [p]
    exact z_pens_c (fun f h1 h2 => (ht _ (by omega)).symm)
  · rw [u, ht _ (by omega)]
  · rw [v, ht _ (by omega)]
theorem z_hrd_r3 (hH : z_hrd M h s) (hM : ∀ q, q = 321 ∨ (h ≤ q ∧ q ≤ h + 5 ∧ q ≠ h + 3) → M' q = M q) (hn : M 321 48 ≤ 6) (hv : ∀ c : Int, 0 ≤ c → c < 25 → M' (h + 3) c = t (54 + c)) (ht : ∀ k, ¬ (54 ≤ k ∧ k < 79) → t k = s k) : z_hrd M' h t := by
  obtain ⟨a, b, c, e, p, u, v⟩ := hH
  unfold z_hrd
  rw [hM 321 (by omega), hM h (by omega), hM (h + 1) (by omega), hM (h + 2) (by omega), hM (h + 4) (by omega), hM (h + 5) (by omega)]
  refine ⟨z_her_q (hM h (by omega)) a, fun f h1 h2 => ?_, fun c' h1 h2 => ⟨hv c' h1 h2, ?_⟩, fun x y h1 h2 h3 => ?_, ?_, ?_, ?_⟩
  · rw [ht _ (by omega), ht _ (by omega)]
    exact b f h1 h2
  · rw [ht _ (by omega)]
    exact (c c' h1 h2).2
  · rw [ht _ (by omega), ht _ (by omega)]
    exact e x y h1 h2 h3
  · rw [p]
    exact z_pens_c (fun f h1 h2 => (ht _ (by omega)).symm)
  · rw [u, ht _ (by omega)]
  · rw [v, ht _ (by omega)]
theorem z_hrd_r4 (hH : z_hrd M h s) (hM : ∀ q, q = 321 ∨ (h ≤ q ∧ q ≤ h + 5 ∧ q ≠ h + 4) → M' q = M q) (hn : M 321 48 ≤ 6) (hv : ∀ c : Int, 0 ≤ c → c < 25 → M' (h + 4) c = t (79 + c)) (ht : ∀ k, ¬ (79 ≤ k ∧ k < 104) → t k = s k) : z_hrd M' h t := by
  obtain ⟨a, b, c, e, p, u, v⟩ := hH
  unfold z_hrd
  rw [hM 321 (by omega), hM h (by omega), hM (h + 1) (by omega), hM (h + 2) (by omega), hM (h + 3) (by omega), hM (h + 5) (by omega)]
  refine ⟨z_her_q (hM h (by omega)) a, fun f h1 h2 => ?_, fun c' h1 h2 => ⟨?_, hv c' h1 h2⟩, fun x y h1 h2 h3 => ?_, ?_, ?_, ?_⟩
  · rw [ht _ (by omega), ht _ (by omega)]
    exact b f h1 h2
  · rw [ht _ (by omega)]
    exact (c c' h1 h2).1
  · rw [ht _ (by omega), ht _ (by omega)]
    exact e x y h1 h2 h3
  · rw [p]
    exact z_pens_c (fun f h1 h2 => (ht _ (by omega)).symm)
  · rw [u, ht _ (by omega)]
  · rw [v, ht _ (by omega)]
theorem z_hrd_r5 (hH : z_hrd M h s) (hM : ∀ q, q = 321 ∨ (h ≤ q ∧ q ≤ h + 5 ∧ q ≠ h + 5) → M' q = M q) (hn : M 321 48 ≤ 6) (hv : ∀ x y : Int, 0 ≤ x → x < y → y < M 321 48 → M' (h + 5) (6 * x + y) = t (18 + 6 * x + y) ∧ M' (h + 5) (6 * x + y) = t (18 + 6 * y + x)) (ht : ∀ k, ¬ (18 ≤ k ∧ k < 54) → t k = s k) : z_hrd M' h t := by
  obtain ⟨a, b, c, e, p, u, v⟩ := hH
  unfold z_hrd
  rw [hM 321 (by omega), hM h (by omega), hM (h + 1) (by omega), hM (h + 2) (by omega), hM (h + 3) (by omega), hM (h + 4) (by omega)]
  refine ⟨z_her_q (hM h (by omega)) a, fun f h1 h2 => ?_, fun c' h1 h2 => ?_, hv, ?_, ?_, ?_⟩
  · rw [ht _ (by omega), ht _ (by omega)]
    exact b f h1 h2
  · rw [ht _ (by omega), ht _ (by omega)]
    exact c c' h1 h2
  · rw [p]
    exact z_pens_c (fun f h1 h2 => (ht _ (by omega)).symm)
  · rw [u, ht _ (by omega)]
  · rw [v, ht _ (by omega)]
theorem z_hrd_r0 (hH : z_hrd M h s) (hM : ∀ q, q = 321 ∨ (h < q ∧ q ≤ h + 5) → M' q = M q) (hj : ∀ j, j < 6 → M' h j = M h j) (h6 : M' h 6 = t 104) (h7 : M' h 7 = t 105) (hn : M 321 48 ≤ 6) (ht : ∀ k, k < 104 → t k = s k) : z_hrd M' h t := by
  obtain ⟨a, b, c, e, p, u, v⟩ := hH
  unfold z_hrd
  rw [hM 321 (by omega), hM (h + 1) (by omega), hM (h + 2) (by omega), hM (h + 3) (by omega), hM (h + 4) (by omega), hM (h + 5) (by omega), hj 5 (by omega)]
  refine ⟨⟨a.1, fun k h1 h2 => by rw [hj k (by omega)]; exact a.2 k h1 h2⟩, fun f h1 h2 => ?_, fun c' h1 h2 => ?_, fun x y h1 h2 h3 => ?_, ?_, h6, h7⟩
  · rw [ht _ (by omega), ht _ (by omega)]
    exact b f h1 h2
  · rw [ht _ (by omega), ht _ (by omega)]
    exact c c' h1 h2
  · rw [ht _ (by omega), ht _ (by omega)]
    exact e x y h1 h2 h3
  · rw [p]
    exact z_pens_c (fun f h1 h2 => (ht _ (by omega)).symm)
end
theorem z_max_eq {x y : Int} : z_max x y = max x y := by
  unfold z_max
  omega
theorem z_min_eq {x y : Int} : z_min x y = min x y := by
  unfold z_min
  omega
set_option maxRecDepth 20000 in
theorem gX8_eat_0 {xs : List Int} {d : Nat} {M : z_M} {P : Option z_V → z_L → z_M → Prop} {a1 : Int} (ha1 : z_her M a1)
    (l1 : wp xs d mX8_eat 2 [(2, 34), (2, a1), (0, 0), (3, 0)] [] z_LL M P) :
    wp xs d mX8_eat 0 [(2, 34), (2, a1), (3, 0), (3, 0)] [] z_LL M P := by
  refine wp_run 2 (pc' := 2) (ls' := [(2, 34), (2, a1), (0, 0), (3, 0)]) (st' := []) rfl ?_
  exact l1
set_option maxRecDepth 20000 in
theorem gX8_eat_2 {xs : List Int} {d : Nat} {M : z_M} {P : Option z_V → z_L → z_M → Prop} {x1 : Int} {x2 : Int} {w3 : z_V} (hx1 : z_her M x1) (hg2 : z_gor M (M 34 3))
    (l1 : ((M (M 34 3) 12) ≤ x2) → P none z_LL M)
    (b1 : (¬ ((M (M 34 3) 12) ≤ x2)) → 0 ≤ x2 ∧ x2 < 6)
    (b2 : (¬ ((M (M 34 3) 12) ≤ x2)) → 0 ≤ (M (x1 + 1) x2) ∧ (M (x1 + 1) x2) < 25)
    (l2 : (¬ ((M (M 34 3) 12) ≤ x2)) → wp xs d mX8_eat 2 [(2, 34), (2, x1), (0, (z_w (x2 + 1))), (0, (M (x1 + 1) x2))] [] z_LL (z_up M (x1 + 3) (M (x1 + 1) x2) (z_max 0 (z_w ((M (x1 + 3) (M (x1 + 1) x2)) - (M ((M 34 3) + 3) x2))))) P) :
    wp xs d mX8_eat 2 [(2, 34), (2, x1), (0, x2), w3] [] z_LL M P := by
  refine wp_run 2 (pc' := 4) (ls' := [(2, 34), (2, x1), (0, x2), w3]) (st' := [(2, 34), (0, x2)]) rfl ?_
  refine wp_gf (pc' := 7) (t := 2) (v := (M 34 3)) rfl rfl (by decide) rfl rfl rfl ?_
  refine wp_gf (pc' := 10) (t := 0) (v := (M (M 34 3) 12)) rfl rfl (by decide) rfl (z_gl0 hg2) rfl ?_
  refine wp_if2 rfl rfl rfl (fun (c1 : (M (M 34 3) 12) ≤ x2) => ?_) (fun (c1 : ¬ ((M (M 34 3) 12) ≤ x2)) => ?_)
  · exact wp_ret rfl rfl (l1 c1)
  · refine wp_run 1 (pc' := 14) (ls' := [(2, 34), (2, x1), (0, x2), w3]) (st' := [(2, x1)]) rfl ?_
    refine wp_gf (pc' := 17) (t := 2) (v := (x1 + 1)) rfl rfl (by decide) rfl (z_hl0 hx1) (z_hf0 hx1) ?_
    refine wp_run 1 (pc' := 18) (ls' := [(2, 34), (2, x1), (0, x2), w3]) (st' := [(0, x2), (2, (x1 + 1))]) rfl ?_
    refine wp_iald (pc' := 19) (v := (M (x1 + 1) x2)) rfl rfl (z_hl1 hx1) (b1 c1) rfl ?_
    refine wp_run 2 (pc' := 21) (ls' := [(2, 34), (2, x1), (0, x2), (0, (M (x1 + 1) x2))]) (st' := [(2, x1)]) rfl ?_
    refine wp_gf (pc' := 24) (t := 2) (v := (x1 + 3)) rfl rfl (by decide) rfl (z_hl0 hx1) (z_hf2 hx1) ?_
    refine wp_run 3 (pc' := 27) (ls' := [(2, 34), (2, x1), (0, x2), (0, (M (x1 + 1) x2))]) (st' := [(2, x1), (0, 0), (0, (M (x1 + 1) x2)), (2, (x1 + 3))]) rfl ?_
    refine wp_gf (pc' := 30) (t := 2) (v := (x1 + 3)) rfl rfl (by decide) rfl (z_hl0 hx1) (z_hf2 hx1) ?_
    refine wp_run 1 (pc' := 31) (ls' := [(2, 34), (2, x1), (0, x2), (0, (M (x1 + 1) x2))]) (st' := [(0, (M (x1 + 1) x2)), (2, (x1 + 3)), (0, 0), (0, (M (x1 + 1) x2)), (2, (x1 + 3))]) rfl ?_
    refine wp_iald (pc' := 32) (v := (M (x1 + 3) (M (x1 + 1) x2))) rfl rfl (z_hl3 hx1) (b2 c1) rfl ?_
    refine wp_run 1 (pc' := 33) (ls' := [(2, 34), (2, x1), (0, x2), (0, (M (x1 + 1) x2))]) (st' := [(2, 34), (0, (M (x1 + 3) (M (x1 + 1) x2))), (0, 0), (0, (M (x1 + 1) x2)), (2, (x1 + 3))]) rfl ?_
    refine wp_gf (pc' := 36) (t := 2) (v := (M 34 3)) rfl rfl (by decide) rfl rfl rfl ?_
    refine wp_gf (pc' := 39) (t := 2) (v := ((M 34 3) + 3)) rfl rfl (by decide) rfl (z_gl0 hg2) (z_gf2 hg2) ?_
    refine wp_run 1 (pc' := 40) (ls' := [(2, 34), (2, x1), (0, x2), (0, (M (x1 + 1) x2))]) (st' := [(0, x2), (2, ((M 34 3) + 3)), (0, (M (x1 + 3) (M (x1 + 1) x2))), (0, 0), (0, (M (x1 + 1) x2)), (2, (x1 + 3))]) rfl ?_
    refine wp_iald (pc' := 41) (v := (M ((M 34 3) + 3) x2)) rfl rfl (z_gl3 hg2) (b1 c1) rfl ?_
    refine wp_run 1 (pc' := 42) (ls' := [(2, 34), (2, x1), (0, x2), (0, (M (x1 + 1) x2))]) (st' := [(0, (z_w ((M (x1 + 3) (M (x1 + 1) x2)) - (M ((M 34 3) + 3) x2)))), (0, 0), (0, (M (x1 + 1) x2)), (2, (x1 + 3))]) rfl ?_
    refine wp_max (pc' := 45) rfl rfl (Nat.le_of_ble_eq_true rfl) ?_
    refine wp_iast (pc' := 46) rfl rfl (z_hl3 hx1) (b2 c1) ?_
    refine wp_run 2 (pc' := 2) (ls' := [(2, 34), (2, x1), (0, (z_w (x2 + 1))), (0, (M (x1 + 1) x2))]) (st' := []) rfl ?_
    exact l2 c1
set_option maxRecDepth 20000 in
theorem gX8_mingle_0 {xs : List Int} {d : Nat} {M : z_M} {P : Option z_V → z_L → z_M → Prop} {a1 : Int} (ha1 : z_her M a1)
    (l1 : wp xs d mX8_mingle 2 [(2, 34), (2, a1), (0, 0), (3, 0)] [] z_LL M P) :
    wp xs d mX8_mingle 0 [(2, 34), (2, a1), (3, 0), (3, 0)] [] z_LL M P := by
  refine wp_run 2 (pc' := 2) (ls' := [(2, 34), (2, a1), (0, 0), (3, 0)]) (st' := []) rfl ?_
  exact l1
set_option maxRecDepth 20000 in
theorem gX8_mingle_2 {xs : List Int} {d : Nat} {M : z_M} {P : Option z_V → z_L → z_M → Prop} {x1 : Int} {x2 : Int} {w3 : z_V} (hx1 : z_her M x1) (hg2 : z_gor M (M 34 3))
    (l1 : ((M (M 34 3) 12) ≤ x2) → P none z_LL M)
    (l2 : (¬ ((M (M 34 3) 12) ≤ x2)) → wp xs d mX8_mingle 17 [(2, 34), (2, x1), (0, x2), (0, (z_w (x2 + 1)))] [] z_LL M P) :
    wp xs d mX8_mingle 2 [(2, 34), (2, x1), (0, x2), w3] [] z_LL M P := by
  refine wp_run 2 (pc' := 4) (ls' := [(2, 34), (2, x1), (0, x2), w3]) (st' := [(2, 34), (0, x2)]) rfl ?_
  refine wp_gf (pc' := 7) (t := 2) (v := (M 34 3)) rfl rfl (by decide) rfl rfl rfl ?_
  refine wp_gf (pc' := 10) (t := 0) (v := (M (M 34 3) 12)) rfl rfl (by decide) rfl (z_gl0 hg2) rfl ?_
  refine wp_if2 rfl rfl rfl (fun (c1 : (M (M 34 3) 12) ≤ x2) => ?_) (fun (c1 : ¬ ((M (M 34 3) 12) ≤ x2)) => ?_)
  · exact wp_ret rfl rfl (l1 c1)
  · refine wp_run 4 (pc' := 17) (ls' := [(2, 34), (2, x1), (0, x2), (0, (z_w (x2 + 1)))]) (st' := []) rfl ?_
    exact l2 c1
set_option maxRecDepth 20000 in
theorem gX8_mingle_17 {xs : List Int} {d : Nat} {M : z_M} {P : Option z_V → z_L → z_M → Prop} {x1 : Int} {x2 : Int} {x3 : Int} (hx1 : z_her M x1) (hg2 : z_gor M (M 34 3))
    (l1 : ((M (M 34 3) 12) ≤ x3) → wp xs (d + 2) mX8_mingle 2 [(2, 34), (2, x1), (0, (z_w (x2 + 1))), (0, x3)] [] z_LL M P)
    (b1 : (¬ ((M (M 34 3) 12) ≤ x3)) → 0 ≤ x2 ∧ x2 < 6)
    (b2 : (¬ ((M (M 34 3) 12) ≤ x3)) → 0 ≤ x3 ∧ x3 < 6)
    (l2 : (¬ ((M (M 34 3) 12) ≤ x3)) → ((M (x1 + 1) x2) ≠ (M (x1 + 1) x3)) → wp xs (d + 2) mX8_mingle 17 [(2, 34), (2, x1), (0, x2), (0, (z_w (x3 + 1)))] [] z_LL M P)
    (b3 : (¬ ((M (M 34 3) 12) ≤ x3)) → (¬ ((M (x1 + 1) x2) ≠ (M (x1 + 1) x3))) → M (M 34 3) 12 ≤ 6)
    (l3 : (¬ ((M (M 34 3) 12) ≤ x3)) → (¬ ((M (x1 + 1) x2) ≠ (M (x1 + 1) x3))) → (¬ (z_cmg M (M 34 3) x2 x3)) → wp xs (d + 2) mX8_mingle 17 [(2, 34), (2, x1), (0, x2), (0, (z_w (x3 + 1)))] [] z_LL M P)
    (b4 : (¬ ((M (M 34 3) 12) ≤ x3)) → (¬ ((M (x1 + 1) x2) ≠ (M (x1 + 1) x3))) → ((z_cmg M (M 34 3) x2 x3)) → (x3 ≤ x2) → 0 ≤ (z_w ((z_w (x3 * 6)) + x2)) ∧ (z_w ((z_w (x3 * 6)) + x2)) < 36)
    (l4 : (¬ ((M (M 34 3) 12) ≤ x3)) → (¬ ((M (x1 + 1) x2) ≠ (M (x1 + 1) x3))) → ((z_cmg M (M 34 3) x2 x3)) → (x3 ≤ x2) → wp xs (d + 2) mX8_mingle 17 [(2, 34), (2, x1), (0, x2), (0, (z_w (x3 + 1)))] [] z_LL (z_up M (x1 + 5) (z_w ((z_w (x3 * 6)) + x2)) (z_w ((M (x1 + 5) (z_w ((z_w (x3 * 6)) + x2))) + 1))) P)
    (b5 : (¬ ((M (M 34 3) 12) ≤ x3)) → (¬ ((M (x1 + 1) x2) ≠ (M (x1 + 1) x3))) → ((z_cmg M (M 34 3) x2 x3)) → (¬ (x3 ≤ x2)) → 0 ≤ (z_w ((z_w (x2 * 6)) + x3)) ∧ (z_w ((z_w (x2 * 6)) + x3)) < 36)
    (l5 : (¬ ((M (M 34 3) 12) ≤ x3)) → (¬ ((M (x1 + 1) x2) ≠ (M (x1 + 1) x3))) → ((z_cmg M (M 34 3) x2 x3)) → (¬ (x3 ≤ x2)) → wp xs (d + 2) mX8_mingle 17 [(2, 34), (2, x1), (0, x2), (0, (z_w (x3 + 1)))] [] z_LL (z_up M (x1 + 5) (z_w ((z_w (x2 * 6)) + x3)) (z_w ((M (x1 + 5) (z_w ((z_w (x2 * 6)) + x3))) + 1))) P) :
    wp xs (d + 2) mX8_mingle 17 [(2, 34), (2, x1), (0, x2), (0, x3)] [] z_LL M P := by
  refine wp_run 2 (pc' := 19) (ls' := [(2, 34), (2, x1), (0, x2), (0, x3)]) (st' := [(2, 34), (0, x3)]) rfl ?_
  refine wp_gf (pc' := 22) (t := 2) (v := (M 34 3)) rfl rfl (by decide) rfl rfl rfl ?_
  refine wp_gf (pc' := 25) (t := 0) (v := (M (M 34 3) 12)) rfl rfl (by decide) rfl (z_gl0 hg2) rfl ?_
  refine wp_if2 rfl rfl rfl (fun (c1 : (M (M 34 3) 12) ≤ x3) => ?_) (fun (c1 : ¬ ((M (M 34 3) 12) ≤ x3)) => ?_)
  · refine wp_run 2 (pc' := 2) (ls' := [(2, 34), (2, x1), (0, (z_w (x2 + 1))), (0, x3)]) (st' := []) rfl ?_
    exact l1 c1
  · refine wp_run 1 (pc' := 29) (ls' := [(2, 34), (2, x1), (0, x2), (0, x3)]) (st' := [(2, x1)]) rfl ?_
    refine wp_gf (pc' := 32) (t := 2) (v := (x1 + 1)) rfl rfl (by decide) rfl (z_hl0 hx1) (z_hf0 hx1) ?_
    refine wp_run 1 (pc' := 33) (ls' := [(2, 34), (2, x1), (0, x2), (0, x3)]) (st' := [(0, x2), (2, (x1 + 1))]) rfl ?_
    refine wp_iald (pc' := 34) (v := (M (x1 + 1) x2)) rfl rfl (z_hl1 hx1) (b1 c1) rfl ?_
    refine wp_run 1 (pc' := 35) (ls' := [(2, 34), (2, x1), (0, x2), (0, x3)]) (st' := [(2, x1), (0, (M (x1 + 1) x2))]) rfl ?_
    refine wp_gf (pc' := 38) (t := 2) (v := (x1 + 1)) rfl rfl (by decide) rfl (z_hl0 hx1) (z_hf0 hx1) ?_
    refine wp_run 1 (pc' := 39) (ls' := [(2, 34), (2, x1), (0, x2), (0, x3)]) (st' := [(0, x3), (2, (x1 + 1)), (0, (M (x1 + 1) x2))]) rfl ?_
    refine wp_iald (pc' := 40) (v := (M (x1 + 1) x3)) rfl rfl (z_hl1 hx1) (b2 c1) rfl ?_
    refine wp_if2 rfl rfl rfl (fun (c2 : (M (x1 + 1) x2) ≠ (M (x1 + 1) x3)) => ?_) (fun (c2 : ¬ ((M (x1 + 1) x2) ≠ (M (x1 + 1) x3))) => ?_)
    · refine wp_run 2 (pc' := 17) (ls' := [(2, 34), (2, x1), (0, x2), (0, (z_w (x3 + 1)))]) (st' := []) rfl ?_
      exact l2 c1 c2
    · refine wp_run 1 (pc' := 44) (ls' := [(2, 34), (2, x1), (0, x2), (0, x3)]) (st' := [(2, 34)]) rfl ?_
      refine wp_gf (pc' := 47) (t := 2) (v := (M 34 3)) rfl rfl (by decide) rfl rfl rfl ?_
      refine wp_run 2 (pc' := 49) (ls' := [(2, 34), (2, x1), (0, x2), (0, x3)]) (st' := [(0, x3), (0, x2), (2, (M 34 3))]) rfl ?_
      refine wp_callv (pc' := 52) (as := [(2, (M 34 3)), (0, x2), (0, x3)]) (rest := []) (ls1 := [(2, (M 34 3)), (0, x2), (0, x3)]) rfl rfl rfl rfl (z_args_v rfl rfl rfl rfl (Nat.le_of_ble_eq_true rfl) rfl (by decide) (z_gl0 hg2)) rfl ?_
      refine s_X1_canMix hg2 (b3 c1 c2) ?_
      show wp xs _ mX8_mingle 52 [(2, 34), (2, x1), (0, x2), (0, x3)] [(0, (z_b (z_cmg M (M 34 3) x2 x3)))] z_LL M _
      refine wp_be rfl rfl rfl (fun (c3 : ¬ (z_cmg M (M 34 3) x2 x3)) => ?_) (fun (c3 : (z_cmg M (M 34 3) x2 x3)) => ?_)
      · refine wp_run 2 (pc' := 17) (ls' := [(2, 34), (2, x1), (0, x2), (0, (z_w (x3 + 1)))]) (st' := []) rfl ?_
        exact l3 c1 c2 c3
      · refine wp_run 3 (pc' := 58) (ls' := [(2, 34), (2, x1), (0, x2), (0, x3)]) (st' := [(0, x3), (0, x2), (2, x1)]) rfl ?_
        refine wp_callv (pc' := 61) (as := [(2, x1), (0, x2), (0, x3)]) (rest := []) (ls1 := [(2, x1), (0, x2), (0, x3)]) rfl rfl rfl rfl (z_args_v rfl rfl rfl rfl (Nat.le_of_ble_eq_true rfl) rfl (by decide) (z_hl0 hx1)) rfl ?_
        refine wp_run 1 (pc' := 1) (ls' := [(2, x1), (0, x2), (0, x3)]) (st' := [(2, x1)]) rfl ?_
        refine wp_gf (pc' := 4) (t := 2) (v := (x1 + 5)) rfl rfl (by decide) rfl (z_hl0 hx1) (z_hf4 hx1) ?_
        refine wp_run 2 (pc' := 6) (ls' := [(2, x1), (0, x2), (0, x3)]) (st' := [(0, x3), (0, x2), (2, (x1 + 5))]) rfl ?_
        refine wp_callv (pc' := 9) (as := [(0, x2), (0, x3)]) (rest := [(2, (x1 + 5))]) (ls1 := [(0, x2), (0, x3)]) rfl rfl rfl rfl rfl rfl ?_
        refine wp_run 2 (pc' := 2) (ls' := [(0, x2), (0, x3)]) (st' := [(0, x3), (0, x2)]) rfl ?_
        refine wp_if2 rfl rfl rfl (fun (c4 : x3 ≤ x2) => ?_) (fun (c4 : ¬ (x3 ≤ x2)) => ?_)
        · refine wp_run 5 (pc' := 20) (ls' := [(0, x2), (0, x3)]) (st' := [(0, (z_w ((z_w (x3 * 6)) + x2)))]) rfl ?_
          refine wp_ret rfl rfl ?_
          show wp xs _ mX2_mix 9 [(2, x1), (0, x2), (0, x3)] [(0, (z_w ((z_w (x3 * 6)) + x2))), (2, (x1 + 5))] z_LL M _
          refine wp_run 1 (pc' := 10) (ls' := [(2, x1), (0, x2), (0, x3)]) (st' := [(0, (z_w ((z_w (x3 * 6)) + x2))), (2, (x1 + 5)), (0, (z_w ((z_w (x3 * 6)) + x2))), (2, (x1 + 5))]) rfl ?_
          refine wp_iald (pc' := 11) (v := (M (x1 + 5) (z_w ((z_w (x3 * 6)) + x2)))) rfl rfl (z_hl5 hx1) (b4 c1 c2 c3 c4) rfl ?_
          refine wp_run 2 (pc' := 13) (ls' := [(2, x1), (0, x2), (0, x3)]) (st' := [(0, (z_w ((M (x1 + 5) (z_w ((z_w (x3 * 6)) + x2))) + 1))), (0, (z_w ((z_w (x3 * 6)) + x2))), (2, (x1 + 5))]) rfl ?_
          refine wp_iast (pc' := 14) rfl rfl (z_hl5 hx1) (b4 c1 c2 c3 c4) ?_
          refine wp_ret rfl rfl ?_
          show wp xs _ mX8_mingle 61 [(2, 34), (2, x1), (0, x2), (0, x3)] [] z_LL (z_up M (x1 + 5) (z_w ((z_w (x3 * 6)) + x2)) (z_w ((M (x1 + 5) (z_w ((z_w (x3 * 6)) + x2))) + 1))) _
          refine wp_run 2 (pc' := 17) (ls' := [(2, 34), (2, x1), (0, x2), (0, (z_w (x3 + 1)))]) (st' := []) rfl ?_
          exact l4 c1 c2 c3 c4
        · refine wp_run 6 (pc' := 20) (ls' := [(0, x2), (0, x3)]) (st' := [(0, (z_w ((z_w (x2 * 6)) + x3)))]) rfl ?_
          refine wp_ret rfl rfl ?_
          show wp xs _ mX2_mix 9 [(2, x1), (0, x2), (0, x3)] [(0, (z_w ((z_w (x2 * 6)) + x3))), (2, (x1 + 5))] z_LL M _
          refine wp_run 1 (pc' := 10) (ls' := [(2, x1), (0, x2), (0, x3)]) (st' := [(0, (z_w ((z_w (x2 * 6)) + x3))), (2, (x1 + 5)), (0, (z_w ((z_w (x2 * 6)) + x3))), (2, (x1 + 5))]) rfl ?_
          refine wp_iald (pc' := 11) (v := (M (x1 + 5) (z_w ((z_w (x2 * 6)) + x3)))) rfl rfl (z_hl5 hx1) (b5 c1 c2 c3 c4) rfl ?_
          refine wp_run 2 (pc' := 13) (ls' := [(2, x1), (0, x2), (0, x3)]) (st' := [(0, (z_w ((M (x1 + 5) (z_w ((z_w (x2 * 6)) + x3))) + 1))), (0, (z_w ((z_w (x2 * 6)) + x3))), (2, (x1 + 5))]) rfl ?_
          refine wp_iast (pc' := 14) rfl rfl (z_hl5 hx1) (b5 c1 c2 c3 c4) ?_
          refine wp_ret rfl rfl ?_
          show wp xs _ mX8_mingle 61 [(2, 34), (2, x1), (0, x2), (0, x3)] [] z_LL (z_up M (x1 + 5) (z_w ((z_w (x2 * 6)) + x3)) (z_w ((M (x1 + 5) (z_w ((z_w (x2 * 6)) + x3))) + 1))) _
          refine wp_run 2 (pc' := 17) (ls' := [(2, 34), (2, x1), (0, x2), (0, (z_w (x3 + 1)))]) (st' := []) rfl ?_
          exact l5 c1 c2 c3 c4
set_option maxRecDepth 20000 in
theorem gX8_match_0 {xs : List Int} {d : Nat} {M : z_M} {P : Option z_V → z_L → z_M → Prop} {a1 : Int} {a2 : Int} (ha1 : z_her M a1)
    (l1 : wp xs d mX8_match 5 [(2, 34), (2, a1), (0, a2), (0, 0), (0, 0), (3, 0), (3, 0)] [] z_LL M P) :
    wp xs d mX8_match 0 [(2, 34), (2, a1), (0, a2), (3, 0), (3, 0), (3, 0), (3, 0)] [] z_LL M P := by
  refine wp_run 4 (pc' := 5) (ls' := [(2, 34), (2, a1), (0, a2), (0, 0), (0, 0), (3, 0), (3, 0)]) (st' := []) rfl ?_
  exact l1
set_option maxRecDepth 20000 in
theorem gX8_match_5 {xs : List Int} {d : Nat} {M : z_M} {P : Option z_V → z_L → z_M → Prop} {x1 : Int} {x2 : Int} {x3 : Int} {x4 : Int} {w5 : z_V} {w6 : z_V} (hx1 : z_her M x1) (hg2 : z_gor M (M 34 3))
    (l1 : ((M (M 34 3) 12) ≤ x4) → P (some (0, x3)) z_LL M)
    (l2 : (¬ ((M (M 34 3) 12) ≤ x4)) → wp xs d mX8_match 23 [(2, 34), (2, x1), (0, x2), (0, x3), (0, x4), (0, (z_w (x4 + 1))), w6] [] z_LL M P) :
    wp xs d mX8_match 5 [(2, 34), (2, x1), (0, x2), (0, x3), (0, x4), w5, w6] [] z_LL M P := by
  refine wp_run 2 (pc' := 8) (ls' := [(2, 34), (2, x1), (0, x2), (0, x3), (0, x4), w5, w6]) (st' := [(2, 34), (0, x4)]) rfl ?_
  refine wp_gf (pc' := 11) (t := 2) (v := (M 34 3)) rfl rfl (by decide) rfl rfl rfl ?_
  refine wp_gf (pc' := 14) (t := 0) (v := (M (M 34 3) 12)) rfl rfl (by decide) rfl (z_gl0 hg2) rfl ?_
  refine wp_if2 rfl rfl rfl (fun (c1 : (M (M 34 3) 12) ≤ x4) => ?_) (fun (c1 : ¬ ((M (M 34 3) 12) ≤ x4)) => ?_)
  · refine wp_run 1 (pc' := 105) (ls' := [(2, 34), (2, x1), (0, x2), (0, x3), (0, x4), w5, w6]) (st' := [(0, x3)]) rfl ?_
    exact wp_ret rfl rfl (l1 c1)
  · refine wp_run 4 (pc' := 23) (ls' := [(2, 34), (2, x1), (0, x2), (0, x3), (0, x4), (0, (z_w (x4 + 1))), w6]) (st' := []) rfl ?_
    exact l2 c1
set_option maxRecDepth 20000 in
theorem gX8_match_23 {xs : List Int} {d : Nat} {M : z_M} {P : Option z_V → z_L → z_M → Prop} {x1 : Int} {x2 : Int} {x3 : Int} {x4 : Int} {x5 : Int} {w6 : z_V} (hx1 : z_her M x1) (hg2 : z_gor M (M 34 3))
    (l1 : ((M (M 34 3) 12) ≤ x5) → wp xs (d + 2) mX8_match 5 [(2, 34), (2, x1), (0, x2), (0, x3), (0, (z_w (x4 + 1))), (0, x5), w6] [] z_LL M P)
    (b1 : (¬ ((M (M 34 3) 12) ≤ x5)) → 0 ≤ x4 ∧ x4 < 6)
    (l2 : (¬ ((M (M 34 3) 12) ≤ x5)) → ((M (x1 + 2) x4) ≠ (-1)) → wp xs (d + 2) mX8_match 23 [(2, 34), (2, x1), (0, x2), (0, x3), (0, x4), (0, (z_w (x5 + 1))), (0, 0)] [] z_LL M P)
    (b2 : (¬ ((M (M 34 3) 12) ≤ x5)) → (¬ ((M (x1 + 2) x4) ≠ (-1))) → 0 ≤ x5 ∧ x5 < 6)
    (l3 : (¬ ((M (M 34 3) 12) ≤ x5)) → (¬ ((M (x1 + 2) x4) ≠ (-1))) → ((M (x1 + 2) x5) ≠ (-1)) → wp xs (d + 2) mX8_match 23 [(2, 34), (2, x1), (0, x2), (0, x3), (0, x4), (0, (z_w (x5 + 1))), (0, 0)] [] z_LL M P)
    (b3 : (¬ ((M (M 34 3) 12) ≤ x5)) → (¬ ((M (x1 + 2) x4) ≠ (-1))) → (¬ ((M (x1 + 2) x5) ≠ (-1))) → (x5 ≤ x4) → 0 ≤ (z_w ((z_w (x5 * 6)) + x4)) ∧ (z_w ((z_w (x5 * 6)) + x4)) < 36)
    (l4 : (¬ ((M (M 34 3) 12) ≤ x5)) → (¬ ((M (x1 + 2) x4) ≠ (-1))) → (¬ ((M (x1 + 2) x5) ≠ (-1))) → (x5 ≤ x4) → ((M (x1 + 5) (z_w ((z_w (x5 * 6)) + x4))) < x2) → wp xs (d + 2) mX8_match 23 [(2, 34), (2, x1), (0, x2), (0, x3), (0, x4), (0, (z_w (x5 + 1))), (0, 1)] [] z_LL M P)
    (l5 : (¬ ((M (M 34 3) 12) ≤ x5)) → (¬ ((M (x1 + 2) x4) ≠ (-1))) → (¬ ((M (x1 + 2) x5) ≠ (-1))) → (x5 ≤ x4) → (¬ ((M (x1 + 5) (z_w ((z_w (x5 * 6)) + x4))) < x2)) → wp xs (d + 2) mX8_match 23 [(2, 34), (2, x1), (0, x2), (0, (z_w (x3 + 2))), (0, x4), (0, (z_w (x5 + 1))), (0, 1)] [] z_LL (z_up (z_up M (x1 + 2) x4 x5) (x1 + 2) x5 x4) P)
    (b4 : (¬ ((M (M 34 3) 12) ≤ x5)) → (¬ ((M (x1 + 2) x4) ≠ (-1))) → (¬ ((M (x1 + 2) x5) ≠ (-1))) → (¬ (x5 ≤ x4)) → 0 ≤ (z_w ((z_w (x4 * 6)) + x5)) ∧ (z_w ((z_w (x4 * 6)) + x5)) < 36)
    (l6 : (¬ ((M (M 34 3) 12) ≤ x5)) → (¬ ((M (x1 + 2) x4) ≠ (-1))) → (¬ ((M (x1 + 2) x5) ≠ (-1))) → (¬ (x5 ≤ x4)) → ((M (x1 + 5) (z_w ((z_w (x4 * 6)) + x5))) < x2) → wp xs (d + 2) mX8_match 23 [(2, 34), (2, x1), (0, x2), (0, x3), (0, x4), (0, (z_w (x5 + 1))), (0, 1)] [] z_LL M P)
    (l7 : (¬ ((M (M 34 3) 12) ≤ x5)) → (¬ ((M (x1 + 2) x4) ≠ (-1))) → (¬ ((M (x1 + 2) x5) ≠ (-1))) → (¬ (x5 ≤ x4)) → (¬ ((M (x1 + 5) (z_w ((z_w (x4 * 6)) + x5))) < x2)) → wp xs (d + 2) mX8_match 23 [(2, 34), (2, x1), (0, x2), (0, (z_w (x3 + 2))), (0, x4), (0, (z_w (x5 + 1))), (0, 1)] [] z_LL (z_up (z_up M (x1 + 2) x4 x5) (x1 + 2) x5 x4) P) :
    wp xs (d + 2) mX8_match 23 [(2, 34), (2, x1), (0, x2), (0, x3), (0, x4), (0, x5), w6] [] z_LL M P := by
  refine wp_run 2 (pc' := 26) (ls' := [(2, 34), (2, x1), (0, x2), (0, x3), (0, x4), (0, x5), w6]) (st' := [(2, 34), (0, x5)]) rfl ?_
  refine wp_gf (pc' := 29) (t := 2) (v := (M 34 3)) rfl rfl (by decide) rfl rfl rfl ?_
  refine wp_gf (pc' := 32) (t := 0) (v := (M (M 34 3) 12)) rfl rfl (by decide) rfl (z_gl0 hg2) rfl ?_
  refine wp_if2 rfl rfl rfl (fun (c1 : (M (M 34 3) 12) ≤ x5) => ?_) (fun (c1 : ¬ ((M (M 34 3) 12) ≤ x5)) => ?_)
  · refine wp_run 2 (pc' := 5) (ls' := [(2, 34), (2, x1), (0, x2), (0, x3), (0, (z_w (x4 + 1))), (0, x5), w6]) (st' := []) rfl ?_
    exact l1 c1
  · refine wp_run 1 (pc' := 36) (ls' := [(2, 34), (2, x1), (0, x2), (0, x3), (0, x4), (0, x5), w6]) (st' := [(2, x1)]) rfl ?_
    refine wp_gf (pc' := 39) (t := 2) (v := (x1 + 2)) rfl rfl (by decide) rfl (z_hl0 hx1) (z_hf1 hx1) ?_
    refine wp_run 1 (pc' := 41) (ls' := [(2, 34), (2, x1), (0, x2), (0, x3), (0, x4), (0, x5), w6]) (st' := [(0, x4), (2, (x1 + 2))]) rfl ?_
    refine wp_iald (pc' := 42) (v := (M (x1 + 2) x4)) rfl rfl (z_hl2 hx1) (b1 c1) rfl ?_
    refine wp_run 1 (pc' := 43) (ls' := [(2, 34), (2, x1), (0, x2), (0, x3), (0, x4), (0, x5), w6]) (st' := [(0, (-1)), (0, (M (x1 + 2) x4))]) rfl ?_
    refine wp_if2 rfl rfl rfl (fun (c2 : (M (x1 + 2) x4) ≠ (-1)) => ?_) (fun (c2 : ¬ ((M (x1 + 2) x4) ≠ (-1))) => ?_)
    · refine wp_run 6 (pc' := 23) (ls' := [(2, 34), (2, x1), (0, x2), (0, x3), (0, x4), (0, (z_w (x5 + 1))), (0, 0)]) (st' := []) rfl ?_
      exact l2 c1 c2
    · refine wp_run 1 (pc' := 47) (ls' := [(2, 34), (2, x1), (0, x2), (0, x3), (0, x4), (0, x5), w6]) (st' := [(2, x1)]) rfl ?_
      refine wp_gf (pc' := 50) (t := 2) (v := (x1 + 2)) rfl rfl (by decide) rfl (z_hl0 hx1) (z_hf1 hx1) ?_
      refine wp_run 1 (pc' := 52) (ls' := [(2, 34), (2, x1), (0, x2), (0, x3), (0, x4), (0, x5), w6]) (st' := [(0, x5), (2, (x1 + 2))]) rfl ?_
      refine wp_iald (pc' := 53) (v := (M (x1 + 2) x5)) rfl rfl (z_hl2 hx1) (b2 c1 c2) rfl ?_
      refine wp_run 1 (pc' := 54) (ls' := [(2, 34), (2, x1), (0, x2), (0, x3), (0, x4), (0, x5), w6]) (st' := [(0, (-1)), (0, (M (x1 + 2) x5))]) rfl ?_
      refine wp_if2 rfl rfl rfl (fun (c3 : (M (x1 + 2) x5) ≠ (-1)) => ?_) (fun (c3 : ¬ ((M (x1 + 2) x5) ≠ (-1))) => ?_)
      · refine wp_run 6 (pc' := 23) (ls' := [(2, 34), (2, x1), (0, x2), (0, x3), (0, x4), (0, (z_w (x5 + 1))), (0, 0)]) (st' := []) rfl ?_
        exact l3 c1 c2 c3
      · refine wp_run 8 (pc' := 74) (ls' := [(2, 34), (2, x1), (0, x2), (0, x3), (0, x4), (0, x5), (0, 1)]) (st' := [(0, x5), (0, x4), (2, x1)]) rfl ?_
        refine wp_callv (pc' := 77) (as := [(2, x1), (0, x4), (0, x5)]) (rest := []) (ls1 := [(2, x1), (0, x4), (0, x5)]) rfl rfl rfl rfl (z_args_v rfl rfl rfl rfl (Nat.le_of_ble_eq_true rfl) rfl (by decide) (z_hl0 hx1)) rfl ?_
        refine wp_run 1 (pc' := 1) (ls' := [(2, x1), (0, x4), (0, x5)]) (st' := [(2, x1)]) rfl ?_
        refine wp_gf (pc' := 4) (t := 2) (v := (x1 + 5)) rfl rfl (by decide) rfl (z_hl0 hx1) (z_hf4 hx1) ?_
        refine wp_run 2 (pc' := 6) (ls' := [(2, x1), (0, x4), (0, x5)]) (st' := [(0, x5), (0, x4), (2, (x1 + 5))]) rfl ?_
        refine wp_callv (pc' := 9) (as := [(0, x4), (0, x5)]) (rest := [(2, (x1 + 5))]) (ls1 := [(0, x4), (0, x5)]) rfl rfl rfl rfl rfl rfl ?_
        refine wp_run 2 (pc' := 2) (ls' := [(0, x4), (0, x5)]) (st' := [(0, x5), (0, x4)]) rfl ?_
        refine wp_if2 rfl rfl rfl (fun (c4 : x5 ≤ x4) => ?_) (fun (c4 : ¬ (x5 ≤ x4)) => ?_)
        · refine wp_run 5 (pc' := 20) (ls' := [(0, x4), (0, x5)]) (st' := [(0, (z_w ((z_w (x5 * 6)) + x4)))]) rfl ?_
          refine wp_ret rfl rfl ?_
          show wp xs _ mX2_mixedOf 9 [(2, x1), (0, x4), (0, x5)] [(0, (z_w ((z_w (x5 * 6)) + x4))), (2, (x1 + 5))] z_LL M _
          refine wp_iald (pc' := 10) (v := (M (x1 + 5) (z_w ((z_w (x5 * 6)) + x4)))) rfl rfl (z_hl5 hx1) (b3 c1 c2 c3 c4) rfl ?_
          refine wp_ret rfl rfl ?_
          show wp xs _ mX8_match 77 [(2, 34), (2, x1), (0, x2), (0, x3), (0, x4), (0, x5), (0, 1)] [(0, (M (x1 + 5) (z_w ((z_w (x5 * 6)) + x4))))] z_LL M _
          refine wp_run 1 (pc' := 78) (ls' := [(2, 34), (2, x1), (0, x2), (0, x3), (0, x4), (0, x5), (0, 1)]) (st' := [(0, x2), (0, (M (x1 + 5) (z_w ((z_w (x5 * 6)) + x4))))]) rfl ?_
          refine wp_if2 rfl rfl rfl (fun (c5 : (M (x1 + 5) (z_w ((z_w (x5 * 6)) + x4))) < x2) => ?_) (fun (c5 : ¬ ((M (x1 + 5) (z_w ((z_w (x5 * 6)) + x4))) < x2)) => ?_)
          · refine wp_run 2 (pc' := 23) (ls' := [(2, 34), (2, x1), (0, x2), (0, x3), (0, x4), (0, (z_w (x5 + 1))), (0, 1)]) (st' := []) rfl ?_
            exact l4 c1 c2 c3 c4 c5
          · refine wp_run 3 (pc' := 86) (ls' := [(2, 34), (2, x1), (0, x2), (0, x3), (0, x4), (0, x5), (0, 1)]) (st' := [(0, x5), (0, x4), (2, x1)]) rfl ?_
            refine wp_callv (pc' := 89) (as := [(2, x1), (0, x4), (0, x5)]) (rest := []) (ls1 := [(2, x1), (0, x4), (0, x5)]) rfl rfl rfl rfl (z_args_v rfl rfl rfl rfl (Nat.le_of_ble_eq_true rfl) rfl (by decide) (z_hl0 hx1)) rfl ?_
            refine wp_run 1 (pc' := 1) (ls' := [(2, x1), (0, x4), (0, x5)]) (st' := [(2, x1)]) rfl ?_
            refine wp_gf (pc' := 4) (t := 2) (v := (x1 + 2)) rfl rfl (by decide) rfl (z_hl0 hx1) (z_hf1 hx1) ?_
            refine wp_run 2 (pc' := 6) (ls' := [(2, x1), (0, x4), (0, x5)]) (st' := [(0, x5), (0, x4), (2, (x1 + 2))]) rfl ?_
            refine wp_iast (pc' := 7) rfl rfl (z_hl2 hx1) (b1 c1) ?_
            refine wp_run 1 (pc' := 8) (ls' := [(2, x1), (0, x4), (0, x5)]) (st' := [(2, x1)]) rfl ?_
            refine wp_gf (pc' := 11) (t := 2) (v := (x1 + 2)) rfl rfl (by decide) rfl (z_hl0 hx1) (z_upq (by have := z_hr hx1; have := z_hr hx1; omega) (z_hf1 hx1)) ?_
            refine wp_run 2 (pc' := 13) (ls' := [(2, x1), (0, x4), (0, x5)]) (st' := [(0, x4), (0, x5), (2, (x1 + 2))]) rfl ?_
            refine wp_iast (pc' := 14) rfl rfl (z_hl2 hx1) (b2 c1 c2) ?_
            refine wp_ret rfl rfl ?_
            show wp xs _ mX8_match 89 [(2, 34), (2, x1), (0, x2), (0, x3), (0, x4), (0, x5), (0, 1)] [] z_LL (z_up (z_up M (x1 + 2) x4 x5) (x1 + 2) x5 x4) _
            refine wp_run 3 (pc' := 23) (ls' := [(2, 34), (2, x1), (0, x2), (0, (z_w (x3 + 2))), (0, x4), (0, (z_w (x5 + 1))), (0, 1)]) (st' := []) rfl ?_
            exact l5 c1 c2 c3 c4 c5
        · refine wp_run 6 (pc' := 20) (ls' := [(0, x4), (0, x5)]) (st' := [(0, (z_w ((z_w (x4 * 6)) + x5)))]) rfl ?_
          refine wp_ret rfl rfl ?_
          show wp xs _ mX2_mixedOf 9 [(2, x1), (0, x4), (0, x5)] [(0, (z_w ((z_w (x4 * 6)) + x5))), (2, (x1 + 5))] z_LL M _
          refine wp_iald (pc' := 10) (v := (M (x1 + 5) (z_w ((z_w (x4 * 6)) + x5)))) rfl rfl (z_hl5 hx1) (b4 c1 c2 c3 c4) rfl ?_
          refine wp_ret rfl rfl ?_
          show wp xs _ mX8_match 77 [(2, 34), (2, x1), (0, x2), (0, x3), (0, x4), (0, x5), (0, 1)] [(0, (M (x1 + 5) (z_w ((z_w (x4 * 6)) + x5))))] z_LL M _
          refine wp_run 1 (pc' := 78) (ls' := [(2, 34), (2, x1), (0, x2), (0, x3), (0, x4), (0, x5), (0, 1)]) (st' := [(0, x2), (0, (M (x1 + 5) (z_w ((z_w (x4 * 6)) + x5))))]) rfl ?_
          refine wp_if2 rfl rfl rfl (fun (c6 : (M (x1 + 5) (z_w ((z_w (x4 * 6)) + x5))) < x2) => ?_) (fun (c6 : ¬ ((M (x1 + 5) (z_w ((z_w (x4 * 6)) + x5))) < x2)) => ?_)
          · refine wp_run 2 (pc' := 23) (ls' := [(2, 34), (2, x1), (0, x2), (0, x3), (0, x4), (0, (z_w (x5 + 1))), (0, 1)]) (st' := []) rfl ?_
            exact l6 c1 c2 c3 c4 c6
          · refine wp_run 3 (pc' := 86) (ls' := [(2, 34), (2, x1), (0, x2), (0, x3), (0, x4), (0, x5), (0, 1)]) (st' := [(0, x5), (0, x4), (2, x1)]) rfl ?_
            refine wp_callv (pc' := 89) (as := [(2, x1), (0, x4), (0, x5)]) (rest := []) (ls1 := [(2, x1), (0, x4), (0, x5)]) rfl rfl rfl rfl (z_args_v rfl rfl rfl rfl (Nat.le_of_ble_eq_true rfl) rfl (by decide) (z_hl0 hx1)) rfl ?_
            refine wp_run 1 (pc' := 1) (ls' := [(2, x1), (0, x4), (0, x5)]) (st' := [(2, x1)]) rfl ?_
            refine wp_gf (pc' := 4) (t := 2) (v := (x1 + 2)) rfl rfl (by decide) rfl (z_hl0 hx1) (z_hf1 hx1) ?_
            refine wp_run 2 (pc' := 6) (ls' := [(2, x1), (0, x4), (0, x5)]) (st' := [(0, x5), (0, x4), (2, (x1 + 2))]) rfl ?_
            refine wp_iast (pc' := 7) rfl rfl (z_hl2 hx1) (b1 c1) ?_
            refine wp_run 1 (pc' := 8) (ls' := [(2, x1), (0, x4), (0, x5)]) (st' := [(2, x1)]) rfl ?_
            refine wp_gf (pc' := 11) (t := 2) (v := (x1 + 2)) rfl rfl (by decide) rfl (z_hl0 hx1) (z_upq (by have := z_hr hx1; have := z_hr hx1; omega) (z_hf1 hx1)) ?_
            refine wp_run 2 (pc' := 13) (ls' := [(2, x1), (0, x4), (0, x5)]) (st' := [(0, x4), (0, x5), (2, (x1 + 2))]) rfl ?_
            refine wp_iast (pc' := 14) rfl rfl (z_hl2 hx1) (b2 c1 c2) ?_
            refine wp_ret rfl rfl ?_
            show wp xs _ mX8_match 89 [(2, 34), (2, x1), (0, x2), (0, x3), (0, x4), (0, x5), (0, 1)] [] z_LL (z_up (z_up M (x1 + 2) x4 x5) (x1 + 2) x5 x4) _
            refine wp_run 3 (pc' := 23) (ls' := [(2, 34), (2, x1), (0, x2), (0, (z_w (x3 + 2))), (0, x4), (0, (z_w (x5 + 1))), (0, 1)]) (st' := []) rfl ?_
            exact l7 c1 c2 c3 c4 c6
set_option maxRecDepth 20000 in
theorem gX8_rain_0 {xs : List Int} {d : Nat} {M : z_M} {P : Option z_V → z_L → z_M → Prop} {a1 : Int} (ha1 : z_her M a1) (hg2 : z_gor M (M 34 3))
    (l1 : ((z_rem (z_rem (z_w ((z_w ((M a1 7) * 137)) + 71)) 1000) 100) < (M (M 34 3) 16)) → wp xs d mX8_rain 39 [(2, 34), (2, a1), (0, 0)] [] z_LL (z_up M a1 7 (z_rem (z_w ((z_w ((M a1 7) * 137)) + 71)) 1000)) P)
    (l2 : (¬ ((z_rem (z_rem (z_w ((z_w ((M a1 7) * 137)) + 71)) 1000) 100) < (M (M 34 3) 16))) → P none z_LL (z_up M a1 7 (z_rem (z_w ((z_w ((M a1 7) * 137)) + 71)) 1000))) :
    wp xs d mX8_rain 0 [(2, 34), (2, a1), (3, 0)] [] z_LL M P := by
  refine wp_run 2 (pc' := 2) (ls' := [(2, 34), (2, a1), (3, 0)]) (st' := [(2, a1), (2, a1)]) rfl ?_
  refine wp_gf (pc' := 5) (t := 0) (v := (M a1 7)) rfl rfl (by decide) rfl (z_hl0 ha1) rfl ?_
  refine wp_run 6 (pc' := 16) (ls' := [(2, 34), (2, a1), (3, 0)]) (st' := [(0, (z_rem (z_w ((z_w ((M a1 7) * 137)) + 71)) 1000)), (2, a1)]) rfl ?_
  refine wp_pf (pc' := 19) rfl rfl rfl (z_hl0 ha1) (fun z => absurd z (by decide)) (fun z => absurd z (by decide)) ?_
  refine wp_run 1 (pc' := 20) (ls' := [(2, 34), (2, a1), (3, 0)]) (st' := [(2, a1)]) rfl ?_
  refine wp_gf (pc' := 23) (t := 0) (v := (z_rem (z_w ((z_w ((M a1 7) * 137)) + 71)) 1000)) rfl rfl (by decide) rfl (z_hl0 ha1) z_ups ?_
  refine wp_run 3 (pc' := 27) (ls' := [(2, 34), (2, a1), (3, 0)]) (st' := [(2, 34), (0, (z_rem (z_rem (z_w ((z_w ((M a1 7) * 137)) + 71)) 1000) 100))]) rfl ?_
  refine wp_gf (pc' := 30) (t := 2) (v := (M 34 3)) rfl rfl (by decide) rfl rfl (z_upq (by have := z_hr ha1; omega) rfl) ?_
  refine wp_gf (pc' := 33) (t := 0) (v := (M (M 34 3) 16)) rfl rfl (by decide) rfl (z_gl0 hg2) (z_upq (by have := z_hr ha1; have := z_gr hg2; omega) rfl) ?_
  refine wp_if2 rfl rfl rfl (fun (c1 : (z_rem (z_rem (z_w ((z_w ((M a1 7) * 137)) + 71)) 1000) 100) < (M (M 34 3) 16)) => ?_) (fun (c1 : ¬ ((z_rem (z_rem (z_w ((z_w ((M a1 7) * 137)) + 71)) 1000) 100) < (M (M 34 3) 16))) => ?_)
  · refine wp_run 2 (pc' := 39) (ls' := [(2, 34), (2, a1), (0, 0)]) (st' := []) rfl ?_
    exact l1 c1
  · exact wp_ret rfl rfl (l2 c1)
set_option maxRecDepth 20000 in
theorem gX8_rain_39 {xs : List Int} {d : Nat} {M : z_M} {P : Option z_V → z_L → z_M → Prop} {x1 : Int} {x2 : Int} (hx1 : z_her M x1) (hg2 : z_gor M (M 34 3))
    (l1 : ((z_w ((M (M 34 3) 10) * (M (M 34 3) 11))) ≤ x2) → P none z_LL M)
    (b1 : (¬ ((z_w ((M (M 34 3) 10) * (M (M 34 3) 11))) ≤ x2)) → 0 ≤ x2 ∧ x2 < 25)
    (l2 : (¬ ((z_w ((M (M 34 3) 10) * (M (M 34 3) 11))) ≤ x2)) → wp xs (d + 1) mX8_rain 39 [(2, 34), (2, x1), (0, (z_w (x2 + 1)))] [] z_LL (z_up M (x1 + 3) x2 (z_min 9 (z_w ((M (x1 + 3) x2) + (M (M 34 3) 17))))) P) :
    wp xs (d + 1) mX8_rain 39 [(2, 34), (2, x1), (0, x2)] [] z_LL M P := by
  refine wp_run 2 (pc' := 41) (ls' := [(2, 34), (2, x1), (0, x2)]) (st' := [(2, 34), (0, x2)]) rfl ?_
  refine wp_gf (pc' := 44) (t := 2) (v := (M 34 3)) rfl rfl (by decide) rfl rfl rfl ?_
  refine wp_callv (pc' := 47) (as := [(2, (M 34 3))]) (rest := [(0, x2)]) (ls1 := [(2, (M 34 3))]) rfl rfl rfl rfl (z_args_v rfl rfl rfl rfl (Nat.le_of_ble_eq_true rfl) rfl (by decide) (z_gl0 hg2)) rfl ?_
  refine wp_run 1 (pc' := 1) (ls' := [(2, (M 34 3))]) (st' := [(2, (M 34 3))]) rfl ?_
  refine wp_gf (pc' := 4) (t := 0) (v := (M (M 34 3) 10)) rfl rfl (by decide) rfl (z_gl0 hg2) rfl ?_
  refine wp_run 1 (pc' := 5) (ls' := [(2, (M 34 3))]) (st' := [(2, (M 34 3)), (0, (M (M 34 3) 10))]) rfl ?_
  refine wp_gf (pc' := 8) (t := 0) (v := (M (M 34 3) 11)) rfl rfl (by decide) rfl (z_gl0 hg2) rfl ?_
  refine wp_run 1 (pc' := 9) (ls' := [(2, (M 34 3))]) (st' := [(0, (z_w ((M (M 34 3) 10) * (M (M 34 3) 11))))]) rfl ?_
  refine wp_ret rfl rfl ?_
  show wp xs _ mX8_rain 47 [(2, 34), (2, x1), (0, x2)] [(0, (z_w ((M (M 34 3) 10) * (M (M 34 3) 11)))), (0, x2)] z_LL M _
  refine wp_if2 rfl rfl rfl (fun (c1 : (z_w ((M (M 34 3) 10) * (M (M 34 3) 11))) ≤ x2) => ?_) (fun (c1 : ¬ ((z_w ((M (M 34 3) 10) * (M (M 34 3) 11))) ≤ x2)) => ?_)
  · exact wp_ret rfl rfl (l1 c1)
  · refine wp_run 1 (pc' := 51) (ls' := [(2, 34), (2, x1), (0, x2)]) (st' := [(2, x1)]) rfl ?_
    refine wp_gf (pc' := 54) (t := 2) (v := (x1 + 3)) rfl rfl (by decide) rfl (z_hl0 hx1) (z_hf2 hx1) ?_
    refine wp_run 3 (pc' := 58) (ls' := [(2, 34), (2, x1), (0, x2)]) (st' := [(2, x1), (0, 9), (0, x2), (2, (x1 + 3))]) rfl ?_
    refine wp_gf (pc' := 61) (t := 2) (v := (x1 + 3)) rfl rfl (by decide) rfl (z_hl0 hx1) (z_hf2 hx1) ?_
    refine wp_run 1 (pc' := 62) (ls' := [(2, 34), (2, x1), (0, x2)]) (st' := [(0, x2), (2, (x1 + 3)), (0, 9), (0, x2), (2, (x1 + 3))]) rfl ?_
    refine wp_iald (pc' := 63) (v := (M (x1 + 3) x2)) rfl rfl (z_hl3 hx1) (b1 c1) rfl ?_
    refine wp_run 1 (pc' := 64) (ls' := [(2, 34), (2, x1), (0, x2)]) (st' := [(2, 34), (0, (M (x1 + 3) x2)), (0, 9), (0, x2), (2, (x1 + 3))]) rfl ?_
    refine wp_gf (pc' := 67) (t := 2) (v := (M 34 3)) rfl rfl (by decide) rfl rfl rfl ?_
    refine wp_gf (pc' := 70) (t := 0) (v := (M (M 34 3) 17)) rfl rfl (by decide) rfl (z_gl0 hg2) rfl ?_
    refine wp_run 1 (pc' := 71) (ls' := [(2, 34), (2, x1), (0, x2)]) (st' := [(0, (z_w ((M (x1 + 3) x2) + (M (M 34 3) 17)))), (0, 9), (0, x2), (2, (x1 + 3))]) rfl ?_
    refine wp_min (pc' := 74) rfl rfl (Nat.le_of_ble_eq_true rfl) ?_
    refine wp_iast (pc' := 75) rfl rfl (z_hl3 hx1) (b1 c1) ?_
    refine wp_run 2 (pc' := 39) (ls' := [(2, 34), (2, x1), (0, (z_w (x2 + 1)))]) (st' := []) rfl ?_
    exact l2 c1
set_option maxRecDepth 20000 in
theorem gX8_pass_0 {xs : List Int} {d : Nat} {M : z_M} {P : Option z_V → z_L → z_M → Prop} {a1 : Int} {a2 : Int} (ha1 : z_her M a1)
    (l1 : wp xs d mX8_go 0 [(2, 34), (2, a1), (3, 0), (3, 0), (3, 0), (3, 0), (3, 0), (3, 0)] [] z_LL M (fun r L1 M1 => wp xs (d + 1) mX8_pass 5 [(2, 34), (2, a1), (0, a2), (3, 0)] (z_ol r ++ []) L1 M1 P)) :
    wp xs (d + 1) mX8_pass 0 [(2, 34), (2, a1), (0, a2), (3, 0)] [] z_LL M P := by
  refine wp_run 2 (pc' := 2) (ls' := [(2, 34), (2, a1), (0, a2), (3, 0)]) (st' := [(2, a1), (2, 34)]) rfl ?_
  refine wp_callv (pc' := 5) (as := [(2, 34), (2, a1)]) (rest := []) (ls1 := [(2, 34), (2, a1), (3, 0), (3, 0), (3, 0), (3, 0), (3, 0), (3, 0)]) rfl rfl rfl rfl rfl rfl ?_
  exact l1
set_option maxRecDepth 20000 in
theorem gX8_pass_5 {xs : List Int} {d : Nat} {M : z_M} {P : Option z_V → z_L → z_M → Prop} {x1 : Int} {x2 : Int} (hx1 : z_her M x1)
    (l1 : wp xs d mX8_eat 0 [(2, 34), (2, x1), (3, 0), (3, 0)] [] z_LL M (fun r L1 M1 => wp xs (d + 1) mX8_pass 10 [(2, 34), (2, x1), (0, x2), (3, 0)] (z_ol r ++ []) L1 M1 P)) :
    wp xs (d + 1) mX8_pass 5 [(2, 34), (2, x1), (0, x2), (3, 0)] [] z_LL M P := by
  refine wp_run 2 (pc' := 7) (ls' := [(2, 34), (2, x1), (0, x2), (3, 0)]) (st' := [(2, x1), (2, 34)]) rfl ?_
  refine wp_callv (pc' := 10) (as := [(2, 34), (2, x1)]) (rest := []) (ls1 := [(2, 34), (2, x1), (3, 0), (3, 0)]) rfl rfl rfl rfl rfl rfl ?_
  exact l1
set_option maxRecDepth 20000 in
theorem gX8_pass_10 {xs : List Int} {d : Nat} {M : z_M} {P : Option z_V → z_L → z_M → Prop} {x1 : Int} {x2 : Int} (hx1 : z_her M x1)
    (l1 : wp xs d mX8_pass 12 [(2, 34), (2, x1), (0, x2), (0, 0)] [] z_LL M P) :
    wp xs d mX8_pass 10 [(2, 34), (2, x1), (0, x2), (3, 0)] [] z_LL M P := by
  refine wp_run 2 (pc' := 12) (ls' := [(2, 34), (2, x1), (0, x2), (0, 0)]) (st' := []) rfl ?_
  exact l1
set_option maxRecDepth 20000 in
theorem gX8_pass_12 {xs : List Int} {d : Nat} {M : z_M} {P : Option z_V → z_L → z_M → Prop} {x1 : Int} {x2 : Int} {x3 : Int} (hx1 : z_her M x1)
    (l1 : (25 ≤ x3) → wp xs d mX8_mingle 0 [(2, 34), (2, x1), (3, 0), (3, 0)] [] z_LL M (fun r L1 M1 => wp xs (d + 1) mX8_pass 47 [(2, 34), (2, x1), (0, x2), (0, x3)] (z_ol r ++ []) L1 M1 P))
    (b1 : (¬ (25 ≤ x3)) → 0 ≤ x3 ∧ x3 < 25)
    (l2 : (¬ (25 ≤ x3)) → wp xs (d + 1) mX8_pass 12 [(2, 34), (2, x1), (0, x2), (0, (z_w (x3 + 1)))] [] z_LL (z_up M (x1 + 4) x3 (z_max 0 (z_w ((M (x1 + 4) x3) - 1)))) P) :
    wp xs (d + 1) mX8_pass 12 [(2, 34), (2, x1), (0, x2), (0, x3)] [] z_LL M P := by
  refine wp_run 2 (pc' := 15) (ls' := [(2, 34), (2, x1), (0, x2), (0, x3)]) (st' := [(0, 25), (0, x3)]) rfl ?_
  refine wp_if2 rfl rfl rfl (fun (c1 : 25 ≤ x3) => ?_) (fun (c1 : ¬ (25 ≤ x3)) => ?_)
  · refine wp_run 2 (pc' := 44) (ls' := [(2, 34), (2, x1), (0, x2), (0, x3)]) (st' := [(2, x1), (2, 34)]) rfl ?_
    refine wp_callv (pc' := 47) (as := [(2, 34), (2, x1)]) (rest := []) (ls1 := [(2, 34), (2, x1), (3, 0), (3, 0)]) rfl rfl rfl rfl rfl rfl ?_
    exact l1 c1
  · refine wp_run 1 (pc' := 19) (ls' := [(2, 34), (2, x1), (0, x2), (0, x3)]) (st' := [(2, x1)]) rfl ?_
    refine wp_gf (pc' := 22) (t := 2) (v := (x1 + 4)) rfl rfl (by decide) rfl (z_hl0 hx1) (z_hf3 hx1) ?_
    refine wp_run 3 (pc' := 25) (ls' := [(2, 34), (2, x1), (0, x2), (0, x3)]) (st' := [(2, x1), (0, 0), (0, x3), (2, (x1 + 4))]) rfl ?_
    refine wp_gf (pc' := 28) (t := 2) (v := (x1 + 4)) rfl rfl (by decide) rfl (z_hl0 hx1) (z_hf3 hx1) ?_
    refine wp_run 1 (pc' := 29) (ls' := [(2, 34), (2, x1), (0, x2), (0, x3)]) (st' := [(0, x3), (2, (x1 + 4)), (0, 0), (0, x3), (2, (x1 + 4))]) rfl ?_
    refine wp_iald (pc' := 30) (v := (M (x1 + 4) x3)) rfl rfl (z_hl4 hx1) (b1 c1) rfl ?_
    refine wp_run 2 (pc' := 32) (ls' := [(2, 34), (2, x1), (0, x2), (0, x3)]) (st' := [(0, (z_w ((M (x1 + 4) x3) - 1))), (0, 0), (0, x3), (2, (x1 + 4))]) rfl ?_
    refine wp_max (pc' := 35) rfl rfl (Nat.le_of_ble_eq_true rfl) ?_
    refine wp_iast (pc' := 36) rfl rfl (z_hl4 hx1) (b1 c1) ?_
    refine wp_run 2 (pc' := 12) (ls' := [(2, 34), (2, x1), (0, x2), (0, (z_w (x3 + 1)))]) (st' := []) rfl ?_
    exact l2 c1
set_option maxRecDepth 20000 in
theorem gX8_pass_47 {xs : List Int} {d : Nat} {M : z_M} {P : Option z_V → z_L → z_M → Prop} {x1 : Int} {x2 : Int} {x3 : Int} (hx1 : z_her M x1)
    (l1 : wp xs d mX8_match 0 [(2, 34), (2, x1), (0, x2), (3, 0), (3, 0), (3, 0), (3, 0)] [] z_LL M (fun r L1 M1 => wp xs (d + 1) mX8_pass 53 [(2, 34), (2, x1), (0, x2), (0, x3)] (z_ol r ++ []) L1 M1 P)) :
    wp xs (d + 1) mX8_pass 47 [(2, 34), (2, x1), (0, x2), (0, x3)] [] z_LL M P := by
  refine wp_run 3 (pc' := 50) (ls' := [(2, 34), (2, x1), (0, x2), (0, x3)]) (st' := [(0, x2), (2, x1), (2, 34)]) rfl ?_
  refine wp_callv (pc' := 53) (as := [(2, 34), (2, x1), (0, x2)]) (rest := []) (ls1 := [(2, 34), (2, x1), (0, x2), (3, 0), (3, 0), (3, 0), (3, 0)]) rfl rfl rfl rfl rfl rfl ?_
  exact l1
set_option maxRecDepth 20000 in
theorem gX8_pass_53 {xs : List Int} {d : Nat} {M : z_M} {P : Option z_V → z_L → z_M → Prop} {x1 : Int} {x2 : Int} {x3 : Int} {s0 : Int} (hx1 : z_her M x1)
    (l1 : wp xs d mX8_rain 0 [(2, 34), (2, x1), (3, 0)] [] z_LL M (fun r L1 M1 => wp xs (d + 1) mX8_pass 59 [(2, 34), (2, x1), (0, x2), (0, s0)] (z_ol r ++ []) L1 M1 P)) :
    wp xs (d + 1) mX8_pass 53 [(2, 34), (2, x1), (0, x2), (0, x3)] [(0, s0)] z_LL M P := by
  refine wp_run 3 (pc' := 56) (ls' := [(2, 34), (2, x1), (0, x2), (0, s0)]) (st' := [(2, x1), (2, 34)]) rfl ?_
  refine wp_callv (pc' := 59) (as := [(2, 34), (2, x1)]) (rest := []) (ls1 := [(2, 34), (2, x1), (3, 0)]) rfl rfl rfl rfl rfl rfl ?_
  exact l1
set_option maxRecDepth 20000 in
theorem gX8_pass_59 {xs : List Int} {d : Nat} {M : z_M} {P : Option z_V → z_L → z_M → Prop} {x1 : Int} {x2 : Int} {x3 : Int} (hx1 : z_her M x1)
    (l1 : P (some (0, x3)) z_LL (z_up M x1 6 (z_w ((M x1 6) + 1)))) :
    wp xs d mX8_pass 59 [(2, 34), (2, x1), (0, x2), (0, x3)] [] z_LL M P := by
  refine wp_run 2 (pc' := 61) (ls' := [(2, 34), (2, x1), (0, x2), (0, x3)]) (st' := [(2, x1), (2, x1)]) rfl ?_
  refine wp_gf (pc' := 64) (t := 0) (v := (M x1 6)) rfl rfl (by decide) rfl (z_hl0 hx1) rfl ?_
  refine wp_run 2 (pc' := 66) (ls' := [(2, 34), (2, x1), (0, x2), (0, x3)]) (st' := [(0, (z_w ((M x1 6) + 1))), (2, x1)]) rfl ?_
  refine wp_pf (pc' := 69) rfl rfl rfl (z_hl0 hx1) (fun z => absurd z (by decide)) (fun z => absurd z (by decide)) ?_
  refine wp_run 1 (pc' := 70) (ls' := [(2, 34), (2, x1), (0, x2), (0, x3)]) (st' := [(0, x3)]) rfl ?_
  exact wp_ret rfl rfl (l1)
theorem s_X8_eat {xs : List Int} {d : Nat} {M : z_M} {P : Option z_V → z_L → z_M → Prop} {h : Int} {s : Int → Int} (hC : z_mc M) (hG : z_gg M (M 34 3)) (hH : z_hrd M h s) (hat : ∀ f : Int, 0 ≤ f → f < M 321 48 → 0 ≤ s f ∧ s f < 25) (hgr : ∀ c : Int, 0 ≤ c → c < 25 → 0 ≤ s (54 + c) ∧ s (54 + c) ≤ 9) (k : ∀ M' : z_M, (∀ q, q ≠ h + 3 → M' q = M q) → z_hrd M' h (z_eat M s (M 321 48).toNat) → P none z_LL M') : wp xs d mX8_eat 0 [(2, 34), (2, h), (3, 0), (3, 0)] [] z_LL M P := by
  have hn := hC.2.2.1
  have hg := z_gsep hG.1
  have hh := z_hsep hH.1
  obtain ⟨n, hne⟩ : ∃ n : Nat, M 321 48 = (n : Int) := ⟨(M 321 48).toNat, by omega⟩
  rw [hne, Int.toNat_natCast] at k
  refine gX8_eat_0 hH.1 ?_
  refine z_loop (W := fun i => ∀ (M' : z_M) (w : z_V), (∀ q, q ≠ h + 3 → M' q = M q) → (∀ c : Int, 0 ≤ c → c < 25 → M' (h + 3) c = z_eat M s i (54 + c)) → wp xs d mX8_eat 2 [(2, 34), (2, h), (0, (i : Int)), w] [] z_LL M' P) n (fun i hi ih M' w hM hv => ?_) M _ (fun _ _ => rfl) (fun c h1 h2 => by rw [(hH.2.2.1 c h1 h2).1]; rfl)
  have q34 : M' 34 = M 34 := hM 34 (by omega)
  have e12 : M' (M 34 3) 12 = (n : Int) := by rw [hM _ (by omega), hG.2.1.2.2.1, hne]
  have eg3 : M' (M 34 3 + 3) = M (M 34 3 + 3) := hM _ (by omega)
  have eh1 : M' (h + 1) = M (h + 1) := hM _ (by omega)
  have g := gX8_eat_2 (M := M') (xs := xs) (d := d) (P := P) (x1 := h) (x2 := (i : Int)) (w3 := w) (z_her_q (hM h (by omega)) hH.1) (by rw [q34]; exact z_gor_q (hM _ (by omega)) hG.1)
  simp only [q34, e12, eh1, eg3, z_in1 (i := i) (by omega), z_max_eq] at g
  have q321 : M' 321 = M 321 := hM 321 (by omega)
  have fr : z_hrd M' h (z_eat M s i) := z_hrd_r3 hH (fun q hq => hM q (by omega)) (by omega) hv (fun j hj => z_eat_o (n := n) (lo := 54) (hi := 79) (fun f a b => by have := hat f a (by omega); omega) hj i hi)
  clear hg hh
  apply g
  case l1 =>
    intro c
    obtain rfl : i = n := by omega
    exact k M' hM fr
  case b1 => intros; omega
  case b2 =>
    intro c
    rw [(hH.2.1 i (by omega) (by omega)).1]
    exact hat i (by omega) (by omega)
  case l2 =>
    intro c
    have ai := hat i (by omega) (by omega)
    have hsz := (hC.2.2.2.2.2.2 i (by omega) (by omega)).2.2.1
    have r := z_eat_r (M := M) (s := s) (n := n) (k := 54 + s i) (fun f h1 h2 => (hC.2.2.2.2.2.2 f h1 (by omega)).2.2.1.1) (hgr (s i) (by omega) (by omega)) i (by omega)
    rw [(hH.2.1 i (by omega) (by omega)).1, (hG.2.2.1 i (by omega) (by omega)).2.1, hv _ ai.1 ai.2, z_wid (x := z_eat M s i (54 + s i) - M 339 i) (by omega)]
    refine ih (by omega) _ _ (fun q hq => by rw [z_upn hq, hM q hq]) (fun c h1 h2 => ?_)
    rw [z_eat]
    by_cases e : c = s i
    · rw [e, z_ups, z_pt_s]
    · rw [z_upi e rfl, z_pt_n (by omega)]
      exact hv c h1 h2
theorem z_evc_p {M : z_M} {s : Int → Int} {a b : Int} (hb : 0 ≤ b ∧ b < 6) : z_evc M s (18 + 6 * a + b) ↔ a < M 321 48 ∧ b < M 321 48 ∧ z_cm M a b ∧ s a = s b := by
  unfold z_evc
  rw [show (18 + 6 * a + b - 18) / 6 = a by omega, show (18 + 6 * a + b - 18) % 6 = b by omega]
theorem z_evn_p {M : z_M} {s : Int → Int} {a b : Int} (ha : 0 ≤ a ∧ a < 6) (hb : 0 ≤ b ∧ b < 6) : z_evn M s 54 (18 + 6 * a + b) = s (18 + 6 * a + b) + z_b (a < M 321 48 ∧ b < M 321 48 ∧ z_cm M a b ∧ s a = s b) := by
  unfold z_evn
  by_cases c : a < M 321 48 ∧ b < M 321 48 ∧ z_cm M a b ∧ s a = s b
  · rw [if_pos ⟨by omega, by omega, (z_evc_p hb).mpr c⟩, z_b_t c]
  · rw [if_neg (fun q => c ((z_evc_p hb).mp q.2.2)), z_b_f c]
    omega
theorem s_X8_mingle {xs : List Int} {d : Nat} {M : z_M} {P : Option z_V → z_L → z_M → Prop} {h : Int} {s : Int → Int} (hC : z_mc M) (hY : z_fsy M) (hG : z_gg M (M 34 3)) (hH : z_hrd M h s) (hR : ∀ k : Int, 18 ≤ k → k < 54 → -1000000 ≤ s k ∧ s k ≤ 1000000) (k : ∀ M' : z_M, (∀ q, q ≠ h + 5 → M' q = M q) → z_hrd M' h (z_evn M s 54) → P none z_LL M') : wp xs (d + 2) mX8_mingle 0 [(2, 34), (2, h), (3, 0), (3, 0)] [] z_LL M P := by
  have hn := hC.2.2.1
  obtain ⟨n, hne⟩ : ∃ n : Nat, M 321 48 = (n : Int) := ⟨(M 321 48).toNat, by omega⟩
  refine gX8_mingle_0 hH.1 ?_
  -- what holds of the row when the pairs below (a, b) are through
  have base : ∀ M' : z_M, (∀ q, q ≠ h + 5 → M' q = M q) → M' 34 = M 34 ∧ z_her M' h ∧ z_gor M' (M 34 3) ∧ M' (M 34 3) 12 = (n : Int) ∧ M' (h + 1) = M (h + 1) ∧ M' 321 = M 321 ∧ z_cmg M' (M 34 3) = z_cmg M (M 34 3) := fun M' hM => by
    have hg := z_gsep hG.1
    have hh := z_hsep hH.1
    refine ⟨hM 34 (by omega), z_her_q (hM h (by omega)) hH.1, z_gor_q (hM _ (by omega)) hG.1, by rw [hM _ (by omega), hG.2.1.2.2.1, hne], hM _ (by omega), hM 321 (by omega), ?_⟩
    funext a b
    unfold z_cmg
    rw [hM _ (by omega), hM _ (by omega), hM _ (by omega)]
  refine z_loop (W := fun a => ∀ (M' : z_M) (w : z_V), (∀ q, q ≠ h + 5 → M' q = M q) → (∀ x y : Int, 0 ≤ x → x < y → y < n → M' (h + 5) (6 * x + y) = if x < a then z_evn M s 54 (18 + 6 * x + y) else s (18 + 6 * x + y)) → wp xs (d + 2) mX8_mingle 2 [(2, 34), (2, h), (0, (a : Int)), w] [] z_LL M' P) n (fun a ha ih M' w hM hv => ?_) M _ (fun _ _ => rfl) (fun x y h1 h2 h3 => by rw [if_neg (by omega)]; exact (hH.2.2.2.1 x y h1 h2 (by omega)).1)
  obtain ⟨q34, hH', hG', e12, eh1, e321, -⟩ := base M' hM
  have g := gX8_mingle_2 (M := M') (xs := xs) (d := d + 2) (P := P) (x1 := h) (x2 := (a : Int)) (w3 := w) hH' (by rw [q34]; exact hG')
  simp only [q34, e12, z_in1 (i := a) (by omega)] at g
  apply g
  case l1 =>
    intro c
    obtain rfl : a = n := by omega
    refine k M' hM (z_hrd_r5 hH (fun q hq => hM q (by have := z_hsep hH.1; omega)) (by omega) (fun x y h1 h2 h3 => ?_) (fun j hj => z_evn_o hj))
    rw [hv x y h1 h2 (by omega), if_pos (by omega)]
    refine ⟨rfl, ?_⟩
    have e0 := hH.2.2.2.1 x y h1 h2 h3
    rw [z_evn_p (by omega) (by omega), z_evn_p (by omega) (by omega), ← e0.1, ← e0.2]
    congr 1
    refine z_b_i ⟨fun q => ⟨q.2.1, q.1, (z_cm_y hY (by omega) q.1 (by omega) q.2.1).mp q.2.2.1, q.2.2.2.symm⟩, fun q => ⟨q.2.1, q.1, (z_cm_y hY (by omega) q.1 (by omega) q.2.1).mp q.2.2.1, q.2.2.2.symm⟩⟩
  case l2 =>
    intro c
    refine z_loop (W := fun j => ∀ (M2 : z_M), (∀ q, q ≠ h + 5 → M2 q = M q) → (∀ x y : Int, 0 ≤ x → x < y → y < n → M2 (h + 5) (6 * x + y) = if x < a ∨ (x = a ∧ y < a + 1 + j) then z_evn M s 54 (18 + 6 * x + y) else s (18 + 6 * x + y)) → wp xs (d + 2) mX8_mingle 17 [(2, 34), (2, h), (0, (a : Int)), (0, ((a + 1 + j : Nat) : Int))] [] z_LL M2 P) (n - 1 - a) (fun j hj ih2 M2 hM2 hv2 => ?_) M' hM (fun x y h1 h2 h3 => by
      rw [hv x y h1 h2 h3]
      by_cases e : x < a
      · rw [if_pos e, if_pos (Or.inl e)]
      · rw [if_neg e, if_neg (by omega)])
    generalize hb : a + 1 + j = b at *
    have ei : z_w ((b : Int) + 1) = ((a + 1 + (j + 1) : Nat) : Int) := by rw [z_wid (by omega)]; omega
    obtain ⟨q34, hH2, hG2, e12, eh1, e321, ecm⟩ := base M2 hM2
    have g := gX8_mingle_17 (M := M2) (xs := xs) (d := d) (P := P) (x1 := h) (x2 := (a : Int)) (x3 := (b : Int)) hH2 (by rw [q34]; exact hG2)
    simp only [q34, e12, eh1, ecm, ei, z_in1 (i := a) (by omega)] at g
    apply g
    case b1 => intros; omega
    case b2 => intros; omega
    case b3 => intros; omega
    case b4 => intros; omega
    case l4 => intros; omega
    case b5 =>
      intros
      rw [z_wid (x := (a : Int) * 6) (by omega), z_wid (by omega)]
      omega
    case l1 =>
      intro c2
      refine ih (by omega) M2 _ hM2 (fun x y h1 h2 h3 => ?_)
      rw [hv2 x y h1 h2 h3]
      by_cases e : x < a + 1
      · rw [if_pos (by omega), if_pos (by omega)]
      · rw [if_neg (by omega), if_neg (by omega)]
    all_goals
      have e1 := fun c2 : b < n => (hH.2.1 a (by omega) (by omega)).1
      have e2 := fun c2 : b < n => (hH.2.1 b (by omega) (by omega)).1
      have ecg := fun c2 : b < n => z_cmg_cm hG (a := a) (b := b) (by omega) (by omega) (by omega) (by omega)
    case l2 =>
      intro c2 c3
      rw [e1 (by omega), e2 (by omega)] at c3
      refine ih2 (by omega) M2 hM2 (fun x y h1 h2 h3 => ?_)
      rw [hv2 x y h1 h2 h3]
      by_cases e : x = a ∧ y = b
      · rw [e.1, e.2, if_neg (by omega), if_pos (by omega), z_evn_p (by omega) (by omega), z_b_f (fun q => c3 q.2.2.2)]
        omega
      · by_cases e2 : x < a ∨ (x = a ∧ y < a + 1 + j)
        · rw [if_pos e2, if_pos (by omega)]
        · rw [if_neg e2, if_neg (by omega)]
    case l3 =>
      intro c2 c3 c4
      rw [ecg (by omega)] at c4
      refine ih2 (by omega) M2 hM2 (fun x y h1 h2 h3 => ?_)
      rw [hv2 x y h1 h2 h3]
      by_cases e : x = a ∧ y = b
      · rw [e.1, e.2, if_neg (by omega), if_pos (by omega), z_evn_p (by omega) (by omega), z_b_f (fun q => c4 q.2.2.1)]
        omega
      · by_cases e2 : x < a ∨ (x = a ∧ y < a + 1 + j)
        · rw [if_pos e2, if_pos (by omega)]
        · rw [if_neg e2, if_neg (by omega)]
    case l5 =>
      intro c2 c3 c4 c5
      rw [e1 (by omega), e2 (by omega)] at c3
      rw [ecg (by omega)] at c4
      have r := hR (18 + 6 * a + b) (by omega) (by omega)
      rw [z_wid (x := (a : Int) * 6) (by omega), z_wid (x := (a : Int) * 6 + b) (by omega), show (a : Int) * 6 + b = 6 * a + b by omega, hv2 a b (by omega) (by omega) (by omega), if_neg (by omega), z_wid (x := s (18 + 6 * a + b) + 1) (by omega)]
      refine ih2 (by omega) _ (fun q hq => by rw [z_upn hq, hM2 q hq]) (fun x y h1 h2 h3 => ?_)
      by_cases e : x = a ∧ y = b
      · rw [e.1, e.2, z_ups, if_pos (by omega), z_evn_p (by omega) (by omega), z_b_t ⟨by omega, by omega, c4, Classical.byContradiction c3⟩]
      · rw [z_upi (by omega) rfl, hv2 x y h1 h2 h3]
        by_cases e2 : x < a ∨ (x = a ∧ y < a + 1 + j)
        · rw [if_pos e2, if_pos (by omega)]
        · rw [if_neg e2, if_neg (by omega)]
