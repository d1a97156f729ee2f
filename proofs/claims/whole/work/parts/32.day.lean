/-! a day of the model -/
noncomputable def z_mv (n : Int) (G s : Int → Int) : Int → Int := fun k => if 0 ≤ k ∧ k < n then G k else s k
theorem z_mv_y {n : Int} {G s : Int → Int} {k : Int} (h : 0 ≤ k ∧ k < n) : z_mv n G s k = G k := by
  unfold z_mv
  rw [if_pos h]
theorem z_mv_o {n : Int} {G s : Int → Int} {k : Int} (h : ¬ (0 ≤ k ∧ k < n)) : z_mv n G s k = s k := by
  unfold z_mv
  rw [if_neg h]
theorem z_mv_s {n : Int} {G s : Int → Int} (h : 0 ≤ n) : z_mv (n + 1) G s = z_pt (z_mv n G s) n (G n) := by
  funext k
  by_cases c : k = n
  · rw [c, z_pt_s, z_mv_y (by omega)]
  · rw [z_pt_n c]
    by_cases e : 0 ≤ k ∧ k < n
    · rw [z_mv_y e, z_mv_y (by omega)]
    · rw [z_mv_o e, z_mv_o (by omega)]
noncomputable def z_eat (M : z_M) (s : Int → Int) : Nat → Int → Int
  | 0 => s
  | f + 1 => z_pt (z_eat M s f) (54 + s f) (max 0 (z_eat M s f (54 + s f) - M 339 f))
noncomputable def z_slt (s : Int → Int) (m : Int) : Int → Int := fun k => if 79 ≤ k ∧ k < 79 + m then max 0 (s k - 1) else s k
theorem z_slt_o {s : Int → Int} {m k : Int} (h : ¬ (79 ≤ k ∧ k < 79 + m)) : z_slt s m k = s k := by
  unfold z_slt
  rw [if_neg h]
theorem z_slt_s {s : Int → Int} {m : Int} (h : 0 ≤ m) : z_slt s (m + 1) = z_pt (z_slt s m) (79 + m) (max 0 (s (79 + m) - 1)) := by
  funext k
  by_cases c : k = 79 + m
  · rw [c, z_pt_s]
    unfold z_slt
    rw [if_pos ⟨by omega, by omega⟩]
  · rw [z_pt_n c]
    unfold z_slt
    by_cases e : 79 ≤ k ∧ k < 79 + m
    · rw [if_pos e, if_pos ⟨e.1, by omega⟩]
    · rw [if_neg e, if_neg (fun q => e ⟨q.1, by omega⟩)]
noncomputable def z_d1 (M : z_M) (s : Int → Int) : Int → Int := z_mv (M 321 48) (z_gl M s) s
noncomputable def z_d2 (M : z_M) (s : Int → Int) : Int → Int := z_eat M (z_d1 M s) (M 321 48).toNat
noncomputable def z_d3 (M : z_M) (s : Int → Int) : Int → Int := z_slt (z_d2 M s) 25
noncomputable def z_d4 (M : z_M) (s : Int → Int) : Int → Int := z_evn M (z_d3 M s) 54
noncomputable def z_d5 (M : z_M) (ev : Int) (s : Int → Int) : (Int → Int) × Int := z_mto M ev (z_d4 M s, 0) (M 321 48).toNat (M 321 48).toNat
noncomputable def z_d6 (M : z_M) (ev : Int) (s : Int → Int) : Int → Int := z_rai M (z_d5 M ev s).1
noncomputable def z_day (M : z_M) (ev : Int) (s : Int → Int) : Int → Int := z_pt (z_d6 M ev s) 104 (z_d6 M ev s 104 + 1)
/-! a sound day -/
def z_sn (M : z_M) (D : Int) (s : Int → Int) : Prop :=
  (∀ f : Int, 0 ≤ f → f < M 321 48 → (0 ≤ s f ∧ s f < M 321 46 * M 321 47) ∧ (s (6 + f) = 0 ∨ s (6 + f) = 1) ∧ (-1 ≤ s (12 + f) ∧ s (12 + f) < M 321 48)) ∧
  (∀ c : Int, 0 ≤ c → c < 25 → (0 ≤ s (54 + c) ∧ s (54 + c) ≤ 9) ∧ (0 ≤ s (79 + c) ∧ s (79 + c) ≤ 9) ∧ (M 321 46 * M 321 47 ≤ c → s (54 + c) = 0)) ∧
  (∀ k : Int, 18 ≤ k → k < 54 → 0 ≤ s k ∧ s k ≤ s 104) ∧ (0 ≤ s 104 ∧ s 104 ≤ D) ∧ (0 ≤ s 105 ∧ s 105 < 1000) ∧
  (∀ a b : Int, 0 ≤ a → a < M 321 48 → 0 ≤ b → b < M 321 48 → ¬ z_cm M a b → s (18 + 6 * a + b) = 0)
theorem z_bst_r {M : z_M} {s : Int → Int} {f : Int} {n : Nat} (h : 0 ≤ s f ∧ s f < n) : ∀ c : Nat, c ≤ n → 0 ≤ (z_bst M s f c).2 ∧ (z_bst M s f c).2 < n
  | 0, _ => h
  | c + 1, hc => by
    by_cases e : z_far (M 321 46) (s f) c = 1 ∧ (z_bst M s f c).1 < z_pul M s f c
    · rw [z_bst_y e.1 e.2]
      show 0 ≤ (c : Int) ∧ (c : Int) < n
      omega
    · rw [z_bst_n e]
      exact z_bst_r h c (by omega)
theorem z_gl_r {M : z_M} {s : Int → Int} {f : Int} (h : 0 ≤ s f ∧ s f < M 321 46 * M 321 47) : 0 ≤ z_gl M s f ∧ z_gl M s f < M 321 46 * M 321 47 := by
  unfold z_gl
  by_cases c : s (6 + f) = 1
  · rw [if_pos c]
    exact h
  · rw [if_neg c]
    have := z_bst_r (M := M) (s := s) (f := f) (n := (M 321 46 * M 321 47).toNat) (by omega) _ (Nat.le_refl _)
    omega
theorem z_eat_o {M : z_M} {s : Int → Int} {n : Nat} {lo hi : Int} (h : ∀ f : Int, 0 ≤ f → f < n → lo ≤ 54 + s f ∧ 54 + s f < hi) {k : Int} (hk : ¬ (lo ≤ k ∧ k < hi)) : ∀ f : Nat, f ≤ n → z_eat M s f k = s k
  | 0, _ => rfl
  | f + 1, hf => by
    have := h f (by omega) (by omega)
    rw [z_eat, z_pt_n (by omega)]
    exact z_eat_o h hk f (by omega)
theorem z_eat_r {M : z_M} {s : Int → Int} {n : Nat} (hs : ∀ f : Int, 0 ≤ f → f < n → 1 ≤ M 339 f) {k : Int} (hk : 0 ≤ s k ∧ s k ≤ 9) : ∀ f : Nat, f ≤ n → 0 ≤ z_eat M s f k ∧ z_eat M s f k ≤ 9
  | 0, _ => hk
  | f + 1, hf => by
    have ih := z_eat_r hs hk f (by omega)
    have := hs f (by omega) (by omega)
    rw [z_eat]
    by_cases c : k = 54 + s f
    · rw [← c, z_pt_s]
      omega
    · rw [z_pt_n c]
      exact ih
