/-! THE LITTLE MACHINE BY ITSELF: what a run comes to -/
def z_LL : z_L := [(14, 14), (6, 20), (1, 6), (0, 6), (0, 6), (0, 6), (0, 6), (0, 36), (0, 25), (0, 270), (0, 100), (0, 150), (6, 20), (1, 6), (0, 6), (0, 6), (0, 6), (0, 6), (0, 36), (0, 25), (0, 270), (0, 100), (0, 150), (7, 8), (0, 6), (0, 6), (0, 25), (0, 25), (0, 36), (12, 8), (2, 1600), (1, 24), (10, 7), (13, 5), (0, 32), (0, 6), (0, 25), (5, 9), (7, 8), (0, 6), (0, 6), (0, 25), (0, 25), (0, 36), (0, 625), (0, 150), (9, 3), (4, 40), (7, 8), (0, 6), (0, 6), (0, 25), (0, 25), (0, 36), (7, 8), (0, 6), (0, 6), (0, 25), (0, 25), (0, 36), (7, 8), (0, 6), (0, 6), (0, 25), (0, 25), (0, 36), (7, 8), (0, 6), (0, 6), (0, 25), (0, 25), (0, 36), (7, 8), (0, 6), (0, 6), (0, 25), (0, 25), (0, 36), (7, 8), (0, 6), (0, 6), (0, 25), (0, 25), (0, 36), (7, 8), (0, 6), (0, 6), (0, 25), (0, 25), (0, 36), (7, 8), (0, 6), (0, 6), (0, 25), (0, 25), (0, 36), (7, 8), (0, 6), (0, 6), (0, 25), (0, 25), (0, 36), (7, 8), (0, 6), (0, 6), (0, 25), (0, 25), (0, 36), (7, 8), (0, 6), (0, 6), (0, 25), (0, 25), (0, 36), (7, 8), (0, 6), (0, 6), (0, 25), (0, 25), (0, 36), (7, 8), (0, 6), (0, 6), (0, 25), (0, 25), (0, 36), (7, 8), (0, 6), (0, 6), (0, 25), (0, 25), (0, 36), (7, 8), (0, 6), (0, 6), (0, 25), (0, 25), (0, 36), (7, 8), (0, 6), (0, 6), (0, 25), (0, 25), (0, 36), (7, 8), (0, 6), (0, 6), (0, 25), (0, 25), (0, 36), (7, 8), (0, 6), (0, 6), (0, 25), (0, 25), (0, 36), (7, 8), (0, 6), (0, 6), (0, 25), (0, 25), (0, 36), (7, 8), (0, 6), (0, 6), (0, 25), (0, 25), (0, 36), (7, 8), (0, 6), (0, 6), (0, 25), (0, 25), (0, 36), (7, 8), (0, 6), (0, 6), (0, 25), (0, 25), (0, 36), (7, 8), (0, 6), (0, 6), (0, 25), (0, 25), (0, 36), (7, 8), (0, 6), (0, 6), (0, 25), (0, 25), (0, 36), (7, 8), (0, 6), (0, 6), (0, 25), (0, 25), (0, 36), (7, 8), (0, 6), (0, 6), (0, 25), (0, 25), (0, 36), (7, 8), (0, 6), (0, 6), (0, 25), (0, 25), (0, 36), (7, 8), (0, 6), (0, 6), (0, 25), (0, 25), (0, 36), (7, 8), (0, 6), (0, 6), (0, 25), (0, 25), (0, 36), (7, 8), (0, 6), (0, 6), (0, 25), (0, 25), (0, 36), (7, 8), (0, 6), (0, 6), (0, 25), (0, 25), (0, 36), (7, 8), (0, 6), (0, 6), (0, 25), (0, 25), (0, 36), (7, 8), (0, 6), (0, 6), (0, 25), (0, 25), (0, 36), (7, 8), (0, 6), (0, 6), (0, 25), (0, 25), (0, 36), (7, 8), (0, 6), (0, 6), (0, 25), (0, 25), (0, 36), (7, 8), (0, 6), (0, 6), (0, 25), (0, 25), (0, 36), (7, 8), (0, 6), (0, 6), (0, 25), (0, 25), (0, 36), (7, 8), (0, 6), (0, 6), (0, 25), (0, 25), (0, 36), (7, 8), (0, 6), (0, 6), (0, 25), (0, 25), (0, 36), (7, 8), (0, 6), (0, 6), (0, 25), (0, 25), (0, 36), (8, 7), (0, 6), (0, 6), (0, 6), (0, 6), (11, 8), (0, 30), (0, 30), (0, 30), (3, 30), (0, 30), (0, 30), (4, 3), (0, 6), (7, 8), (0, 6), (0, 6), (0, 25), (0, 25), (0, 36), (7, 8), (0, 6), (0, 6), (0, 25), (0, 25), (0, 36), (7, 8), (0, 6), (0, 6), (0, 25), (0, 25), (0, 36), (15, 81), (0, 1600), (1, 6), (0, 320), (0, 320), (0, 320), (0, 320), (0, 160), (0, 64), (0, 6), (0, 25), (0, 6), (0, 6), (0, 6), (0, 36), (0, 6), (0, 6), (0, 6), (0, 6), (0, 36), (0, 6), (0, 106), (0, 106), (0, 6), (0, 4240), (0, 6), (0, 6), (0, 6), (0, 30), (0, 30), (0, 30), (0, 30), (0, 30), (3, 30), (0, 150), (3, 3), (0, 318)]
theorem z_step_nr {xs : List Int} {c : z_C} {pc : Nat} {ls st : List z_V} {L : z_L} {M : z_M} {S : z_S} (rk : Nat) (h : z_step xs c pc ls st L M = some S) : z_ret rk c st = none ∧ z_isc c = false := by
  obtain ⟨i, n, a, b⟩ := c
  cases i <;> first
    | exact ⟨rfl, rfl⟩
    | (simp [z_step] at h; done)
    | skip
  all_goals
    obtain ⟨y, hy, -⟩ := z_mem_sp (show z_mem _ pc ls (z_nat L M a st) L = some S from h)
    refine ⟨rfl, ?_⟩
    by_cases ha : a < 2000
    · rw [z_nat_none (Or.inl ha)] at hy
      cases hy
    · simp [z_isc, ha]
theorem z_ev_more {xs : List Int} : ∀ (n d : Nat) (μ : z_D) (pc : Nat) (ls st : List z_V) (L : z_L) (M : z_M) (o : Option z_V × z_L × z_M), z_ev xs n d μ pc ls st L M = some o → ∀ (n' d' : Nat), n ≤ n' → d ≤ d' → z_ev xs n' d' μ pc ls st L M = some o := by
  intro n
  induction n with
  | zero => intro d μ pc ls st L M o h; cases h
  | succ n ih =>
    intro d μ pc ls st L M o h n' d' hn hd
    obtain ⟨n', rfl⟩ : ∃ k, n' = k + 1 := ⟨n' - 1, by omega⟩
    unfold z_ev at h ⊢
    cases hat : z_at μ pc with
    | none => rw [hat] at h; cases h
    | some q =>
      rw [hat] at h
      dsimp only at h ⊢
      cases hrt : z_ret μ.2.2.2.1 q st with
      | some r0 => rw [hrt] at h; exact h
      | none =>
        rw [hrt] at h
        dsimp only at h ⊢
        by_cases hc : z_isc q = true
        · rw [if_pos hc] at h ⊢
          cases d with
          | zero => cases h
          | succ d =>
            obtain ⟨d', rfl⟩ : ∃ k, d' = k + 1 := ⟨d' - 1, by omega⟩
            dsimp only at h ⊢
            cases hν : z_ms[q.2.2.1]? with
            | none => rw [hν] at h; cases h
            | some ν =>
              rw [hν] at h
              dsimp only at h ⊢
              cases har : z_args L ν st with
              | none => rw [har] at h; cases h
              | some ar =>
                rw [har] at h
                dsimp only at h ⊢
                cases hev : z_ev xs n d ν 0 (z_ent ν ar.1) [] L M with
                | none => rw [hev] at h; cases h
                | some oo =>
                  rw [hev] at h
                  rw [ih _ _ _ _ _ _ _ _ hev n' d' (by omega) (by omega)]
                  dsimp only at h ⊢
                  exact ih _ _ _ _ _ _ _ _ h n' (d' + 1) (by omega) (by omega)
        · rw [if_neg hc] at h ⊢
          cases hs : z_step xs q pc ls st L M with
          | none => rw [hs] at h; cases h
          | some S =>
            rw [hs] at h
            dsimp only at h ⊢
            exact ih _ _ _ _ _ _ _ _ h n' d' (by omega) (by omega)
/-- from here the method comes to its end, and what it comes to is so -/
def wp (xs : List Int) (d : Nat) (μ : z_D) (pc : Nat) (ls st : List z_V) (L : z_L) (M : z_M) (P : Option z_V → z_L → z_M → Prop) : Prop := ∃ (n : Nat) (r : Option z_V) (L' : z_L) (M' : z_M), z_ev xs n d μ pc ls st L M = some (r, L', M') ∧ P r L' M'
section
variable {xs : List Int} {d : Nat} {μ : z_D} {pc : Nat} {ls st : List z_V} {L : z_L} {M : z_M} {P : Option z_V → z_L → z_M → Prop}
theorem wp.mono {P' : Option z_V → z_L → z_M → Prop} (h : wp xs d μ pc ls st L M P) (hp : ∀ r L' M', P r L' M' → P' r L' M') : wp xs d μ pc ls st L M P' := by
  obtain ⟨n, r, L', M', h1, h2⟩ := h
  exact ⟨n, r, L', M', h1, hp _ _ _ h2⟩
theorem wp.deep {d' : Nat} (h : wp xs d μ pc ls st L M P) (hd : d ≤ d') : wp xs d' μ pc ls st L M P := by
  obtain ⟨n, r, L', M', h1, h2⟩ := h
  exact ⟨n, r, L', M', z_ev_more _ _ _ _ _ _ _ _ _ h1 _ _ (Nat.le_refl _) hd, h2⟩
theorem wp_st {pc' : Nat} {ls' st' : List z_V} {L' : z_L} {M' : z_M} (h : z_go xs μ pc ls st L M = some (pc', ls', st', L', M')) (k : wp xs d μ pc' ls' st' L' M' P) : wp xs d μ pc ls st L M P := by
  obtain ⟨n, r, L1, M1, h1, h2⟩ := k
  refine ⟨n + 1, r, L1, M1, ?_, h2⟩
  unfold z_go at h
  cases hat : z_at μ pc with
  | none => rw [hat] at h; cases h
  | some q =>
    rw [hat] at h
    dsimp only at h
    obtain ⟨e1, e2⟩ := z_step_nr μ.2.2.2.1 h
    unfold z_ev
    rw [hat]
    dsimp only
    rw [e1]
    dsimp only
    rw [if_neg (by rw [e2]; decide), h]
    exact h1
theorem wp_ret {c : z_C} {r : Option z_V} (hat : z_at μ pc = some c) (h : z_ret μ.2.2.2.1 c st = some r) (k : P r L M) : wp xs d μ pc ls st L M P := by
  refine ⟨1, r, L, M, ?_, k⟩
  unfold z_ev
  rw [hat]
  dsimp only
  rw [h]
theorem z_isc_nr {rk : Nat} {c : z_C} {st : List z_V} (h : z_isc c = true) : z_ret rk c st = none := by
  obtain ⟨i, n, a, b⟩ := c
  cases i <;> first | rfl | (simp [z_isc] at h; done)
theorem wp_call {c : z_C} {ν : z_D} {as rest : List z_V} (hat : z_at μ pc = some c) (hc : z_isc c = true) (hν : z_ms[c.2.2.1]? = some ν) (har : z_args L ν st = some (as, rest))
    (k : wp xs d ν 0 (z_ent ν as) [] L M (fun r L1 M1 => wp xs (d + 1) μ (pc + c.2.1) ls (z_ol r ++ rest) L1 M1 P)) : wp xs (d + 1) μ pc ls st L M P := by
  obtain ⟨n1, r1, L1, M1, h1, n2, r, L2, M2, h2, h3⟩ := k
  refine ⟨max n1 n2 + 1, r, L2, M2, ?_, h3⟩
  unfold z_ev
  rw [hat]
  dsimp only
  rw [z_isc_nr hc]
  dsimp only
  rw [if_pos hc, hν]
  dsimp only
  rw [har]
  dsimp only
  rw [z_ev_more _ _ _ _ _ _ _ _ _ h1 _ _ (Nat.le_max_left _ _) (Nat.le_refl _)]
  dsimp only
  exact z_ev_more _ _ _ _ _ _ _ _ _ h2 _ _ (Nat.le_max_right _ _) (Nat.le_refl _)
end
