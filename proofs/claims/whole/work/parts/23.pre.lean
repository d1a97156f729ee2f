/-- a truth as a number -/
noncomputable def z_b (p : Prop) : Int := @ite Int p (Classical.propDecidable p) 1 0
theorem z_b_t {p : Prop} (h : p) : z_b p = 1 := by
  unfold z_b
  rw [if_pos h]
theorem z_b_f {p : Prop} (h : ¬ p) : z_b p = 0 := by
  unfold z_b
  rw [if_neg h]
theorem z_b_01 {p : Prop} : z_b p = 0 ∨ z_b p = 1 := by
  by_cases h : p
  · exact Or.inr (z_b_t h)
  · exact Or.inl (z_b_f h)
theorem z_b_i {p q : Prop} (h : p ↔ q) : z_b p = z_b q := by rw [propext h]
section
variable {xs : List Int} {d : Nat} {μ : z_D} {pc pc' : Nat} {ls st : List z_V} {L : z_L} {M : z_M} {P : Option z_V → z_L → z_M → Prop}
theorem wp_be {p : Prop} {off : Int} {pt : Nat} {r : List z_V} (hat : z_at μ pc = some (.ifCond .eq off, 3, 0, 0)) (hp : pc + 3 = pc') (ht : z_tg pc off = pt) (kt : ¬ p → wp xs d μ pt ls r L M P) (kf : p → wp xs d μ pc' ls r L M P) : wp xs d μ pc ls ((0, z_b p) :: r) L M P :=
  wp_if1 hat hp ht (fun h => kt fun q => by have h : z_b p = 0 := h; rw [z_b_t q] at h; omega) (fun h => kf (Classical.byContradiction fun q => h (z_b_f q)))
theorem wp_bn {p : Prop} {off : Int} {pt : Nat} {r : List z_V} (hat : z_at μ pc = some (.ifCond .ne off, 3, 0, 0)) (hp : pc + 3 = pc') (ht : z_tg pc off = pt) (kt : p → wp xs d μ pt ls r L M P) (kf : ¬ p → wp xs d μ pc' ls r L M P) : wp xs d μ pc ls ((0, z_b p) :: r) L M P :=
  wp_if1 hat hp ht (fun h => kt (Classical.byContradiction fun q => h (z_b_f q))) (fun h => kf fun q => h (by show z_b p ≠ 0; rw [z_b_t q]; omega))
end
/-- ranges -/
theorem z_wid {x : Int} (h : -2147483648 ≤ x ∧ x < 2147483648) : z_w x = x := by
  unfold z_w
  omega
/-- the model's gorge is sound -/
def z_mc (M : z_M) : Prop := (2 ≤ M 321 46 ∧ M 321 46 ≤ 5) ∧ (2 ≤ M 321 47 ∧ M 321 47 ≤ 5) ∧ (0 ≤ M 321 48 ∧ M 321 48 ≤ 6) ∧ (1 ≤ M 321 52 ∧ M 321 52 ≤ 20) ∧ (0 ≤ M 321 50 ∧ M 321 50 ≤ 100) ∧ (1 ≤ M 321 51 ∧ M 321 51 ≤ 9) ∧
  ∀ f : Int, 0 ≤ f → f < M 321 48 → (M 337 f = 0 ∨ M 337 f = 1) ∧ (0 ≤ M 338 f ∧ M 338 f < M 321 46 * M 321 47) ∧ (1 ≤ M 339 f ∧ M 339 f ≤ 9) ∧ (0 ≤ M 341 f ∧ M 341 f < 64) ∧ ∀ o : Int, 0 ≤ o → o < M 321 48 → -1 ≤ M 340 (6 * f + o) ∧ M 340 (6 * f + o) ≤ 99
theorem z_mc_cells {M : z_M} (h : z_mc M) : 4 ≤ M 321 46 * M 321 47 ∧ M 321 46 * M 321 47 ≤ 25 := by
  obtain ⟨⟨a1, a2⟩, ⟨b1, b2⟩, -⟩ := h
  generalize M 321 46 = a at a1 a2 ⊢
  generalize M 321 47 = b at b1 b2 ⊢
  have ha : a = 2 ∨ a = 3 ∨ a = 4 ∨ a = 5 := by omega
  rcases ha with rfl | rfl | rfl | rfl <;> omega
/-- what a store leaves -/
def z_fobj (q : Int) : Prop := q = 1 ∨ q = 30 ∨ q = 33 ∨ q = 34 ∨ q = 38 ∨ q = 47 ∨ q = 289 ∨ q = 294 ∨ q = 301 ∨ q = 321 ∨ q = 24 ∨ q = 39 ∨ (49 ≤ q ∧ q ≤ 283 ∧ (q - 49) % 6 = 0) ∨ (303 ≤ q ∧ q ≤ 315 ∧ (q - 303) % 6 = 0)
theorem z_fixl_obj : (z_fixl.all fun p => decide (p.1 = 1) || decide (p.1 = 30) || decide (p.1 = 33) || decide (p.1 = 34) || decide (p.1 = 38) || decide (p.1 = 47) || decide (p.1 = 289) || decide (p.1 = 294) || decide (p.1 = 301) || decide (p.1 = 321) || decide (p.1 = 24) || decide (p.1 = 39) || (decide (49 ≤ p.1) && decide (p.1 ≤ 283) && decide ((p.1 - 49) % 6 = 0)) || (decide (303 ≤ p.1) && decide (p.1 ≤ 315) && decide ((p.1 - 303) % 6 = 0))) = true := by decide +kernel
theorem z_fix_eq {M M' : z_M} (h : z_fix M) (he : ∀ q, z_fobj q → M' q = M q) : z_fix M' := by
  intro p hp
  have h1 := List.all_eq_true.mp z_fixl_obj p hp
  simp only [Bool.or_eq_true, Bool.and_eq_true, decide_eq_true_eq] at h1
  rw [he p.1 (by unfold z_fobj; omega)]
  exact h p hp
theorem z_fix_q {M : z_M} {q i v : Int} (hq : ¬ z_fobj q) (h : z_fix M) : z_fix (z_up M q i v) := z_fix_eq h (fun a ha => z_up_ne a (fun e => hq (e ▸ ha)))
theorem z_fix_c {M : z_M} {q0 s0 q i n : Int} (hq : ¬ z_fobj q) (h : z_fix M) : z_fix (z_cpy M q0 s0 q i n) := z_fix_eq h (fun a ha => by
  funext b
  unfold z_cpy
  have hn : ¬ (a = q ∧ i ≤ b ∧ b < i + n) := fun c => hq (c.1 ▸ ha)
  rw [if_neg hn])
theorem z_fix_i {M : z_M} {q i v : Int} (hq : (z_fixl.all fun p => !(decide (p.1 = q) && decide (p.2.1 = i))) = true) (h : z_fix M) : z_fix (z_up M q i v) := by
  intro p hp
  have h1 := List.all_eq_true.mp hq p hp
  simp only [Bool.not_eq_true', Bool.and_eq_false_iff, decide_eq_false_iff_not] at h1
  unfold z_up
  rw [if_neg (fun c => h1.elim (fun z => z c.1) (fun z => z c.2))]
  exact h p hp
theorem z_mc_eq {M M' : z_M} (h : z_mc M) (e1 : ∀ k, 46 ≤ k → k ≤ 52 → M' 321 k = M 321 k) (e2 : ∀ q, 337 ≤ q → q ≤ 341 → M' q = M q) : z_mc M' := by
  unfold z_mc at h ⊢
  rw [e1 46 (by decide) (by decide), e1 47 (by decide) (by decide), e1 48 (by decide) (by decide), e1 52 (by decide) (by decide), e1 50 (by decide) (by decide), e1 51 (by decide) (by decide), e2 337 (by decide) (by decide), e2 338 (by decide) (by decide), e2 339 (by decide) (by decide), e2 340 (by decide) (by decide), e2 341 (by decide) (by decide)]
  exact h
theorem z_mc_q {M : z_M} {q i v : Int} (hq : ¬ q = 321 ∧ ¬ (337 ≤ q ∧ q ≤ 341)) (h : z_mc M) : z_mc (z_up M q i v) := z_mc_eq h (fun k _ _ => by rw [z_up_ne 321 (fun e => hq.1 e.symm)]) (fun a h1 h2 => z_up_ne a (fun e => hq.2 (e ▸ ⟨h1, h2⟩)))
theorem z_mc_c {M : z_M} {q0 s0 q i n : Int} (hq : ¬ q = 321 ∧ ¬ (337 ≤ q ∧ q ≤ 341)) (h : z_mc M) : z_mc (z_cpy M q0 s0 q i n) := z_mc_eq h (fun k _ _ => z_cpq (fun e => hq.1 e.symm) rfl) (fun a h1 h2 => by
  funext b
  exact z_cpq (fun e => hq.2 (e ▸ ⟨h1, h2⟩)) rfl)
theorem z_mc_i {M : z_M} {i v : Int} (hq : ¬ (46 ≤ i ∧ i ≤ 52)) (h : z_mc M) : z_mc (z_up M 321 i v) := z_mc_eq h (fun k h1 h2 => by
  unfold z_up
  have hn : ¬ ((321 : Int) = 321 ∧ k = i) := fun c => hq (c.2 ▸ ⟨h1, h2⟩)
  rw [if_neg hn]) (fun a h1 h2 => z_up_ne a (by omega))
