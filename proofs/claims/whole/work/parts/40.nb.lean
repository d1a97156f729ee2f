/-! the cells beside one, in their order -/
theorem z_far_nb {C own x : Int} (hC : 2 ≤ C ∧ C ≤ 5) (ho : 0 ≤ own ∧ own < 25) (hx : 0 ≤ x ∧ x < 25) : z_far C own x = 1 ↔ x = own - C ∨ (x = own - 1 ∧ own % C > 0) ∨ (x = own + 1 ∧ own % C < C - 1) ∨ x = own + C := by
  have : C = 2 ∨ C = 3 ∨ C = 4 ∨ C = 5 := by omega
  unfold z_far z_dis
  rcases this with rfl | rfl | rfl | rfl <;> (split <;> split <;> omega)
def z_nb (C R own : Int) (w : Nat) : Int := if w = 0 then (if own / C > 0 then own - C else -1) else if w = 1 then (if own % C > 0 then own - 1 else -1) else if w = 2 then (if own % C < C - 1 then own + 1 else -1) else (if own / C < R - 1 then own + C else -1)
theorem z_nb_at {M : z_M} {g c : Int} (h : z_gg M g) (hc : 0 ≤ c ∧ c < M 321 46 * M 321 47) {w : Nat} (hw : w < 4) : M (g + 9) (4 * c + w) = z_nb (M 321 46) (M 321 47) c w := by
  obtain ⟨a0, a1, a2, a3⟩ := h.2.2.2.1 c hc.1 hc.2
  have : w = 0 ∨ w = 1 ∨ w = 2 ∨ w = 3 := by omega
  rcases this with rfl | rfl | rfl | rfl
  · rw [show 4 * c + ((0 : Nat) : Int) = 4 * c by omega, a0]
    rfl
  · rw [show 4 * c + ((1 : Nat) : Int) = 4 * c + 1 by omega, a1]
    rfl
  · rw [show 4 * c + ((2 : Nat) : Int) = 4 * c + 2 by omega, a2]
    rfl
  · rw [show 4 * c + ((3 : Nat) : Int) = 4 * c + 3 by omega, a3]
    rfl
/-- what is beside a cell lies in the gorge, at the distance 1 -/
theorem z_nb_r {C R own : Int} {w : Nat} (hC : 2 ≤ C ∧ C ≤ 5) (hR : 2 ≤ R ∧ R ≤ 5) (ho : 0 ≤ own ∧ own < C * R) (hn : z_nb C R own w ≠ -1) : 0 ≤ z_nb C R own w ∧ z_nb C R own w < C * R := by
  unfold z_nb at hn ⊢
  have hc : C = 2 ∨ C = 3 ∨ C = 4 ∨ C = 5 := by omega
  rcases hc with rfl | rfl | rfl | rfl <;> (repeat' split) <;> omega
theorem z_nb_far {C R own x : Int} (hC : 2 ≤ C ∧ C ≤ 5) (hR : 2 ≤ R ∧ R ≤ 5) (ho : 0 ≤ own ∧ own < C * R) (hx : 0 ≤ x ∧ x < C * R) : z_far C own x = 1 ↔ ∃ w : Nat, w < 4 ∧ z_nb C R own w = x := by
  have hCR : C * R ≤ 25 := by
    have : C = 2 ∨ C = 3 ∨ C = 4 ∨ C = 5 := by omega
    rcases this with rfl | rfl | rfl | rfl <;> omega
  rw [z_far_nb hC (by omega) (by omega)]
  have hc : C = 2 ∨ C = 3 ∨ C = 4 ∨ C = 5 := by omega
  constructor
  · intro h
    rcases h with h | h | h | h
    · refine ⟨0, by decide, ?_⟩
      show (if own / C > 0 then own - C else -1) = x
      rw [if_pos (by rcases hc with rfl | rfl | rfl | rfl <;> omega), h]
    · refine ⟨1, by decide, ?_⟩
      show (if own % C > 0 then own - 1 else -1) = x
      rw [if_pos h.2, h.1]
    · refine ⟨2, by decide, ?_⟩
      show (if own % C < C - 1 then own + 1 else -1) = x
      rw [if_pos h.2, h.1]
    · refine ⟨3, by decide, ?_⟩
      show (if own / C < R - 1 then own + C else -1) = x
      rw [if_pos (by rcases hc with rfl | rfl | rfl | rfl <;> omega), h]
  · rintro ⟨w, hw, h⟩
    have : w = 0 ∨ w = 1 ∨ w = 2 ∨ w = 3 := by omega
    unfold z_nb at h
    rcases this with rfl | rfl | rfl | rfl <;> simp at h <;> (split at h <;> omega)
theorem z_bst_sk {M : z_M} {s : Int → Int} {f : Int} {a : Nat} : ∀ b : Nat, a ≤ b → (∀ x : Nat, a ≤ x → x < b → z_far (M 321 46) (s f) x ≠ 1) → z_bst M s f b = z_bst M s f a
  | 0, h, _ => by
    have : a = 0 := by omega
    rw [this]
  | b + 1, h, hx => by
    by_cases e : a = b + 1
    · rw [e]
    · rw [z_bst_n (fun q => hx b (by omega) (by omega) q.1)]
      exact z_bst_sk b (by omega) (fun x h1 h2 => hx x h1 (by omega))
/-- one way on -/
noncomputable def z_wst (M : z_M) (s : Int → Int) (f : Int) (t : Int × Int) (p : Int) : Int × Int := @ite (Int × Int) (p ≠ -1 ∧ t.1 < z_pul M s f p) (Classical.propDecidable _) (z_pul M s f p, p) t
theorem z_wst_y {M : z_M} {s : Int → Int} {f : Int} {t : Int × Int} {p : Int} (h : p ≠ -1) (h2 : t.1 < z_pul M s f p) : z_wst M s f t p = (z_pul M s f p, p) := by
  unfold z_wst
  rw [if_pos ⟨h, h2⟩]
theorem z_wst_n {M : z_M} {s : Int → Int} {f : Int} {t : Int × Int} {p : Int} (h : ¬ (p ≠ -1 ∧ t.1 < z_pul M s f p)) : z_wst M s f t p = t := by
  unfold z_wst
  rw [if_neg h]
theorem z_bst_w {M : z_M} {s : Int → Int} {f : Int} {a b : Nat} {p : Int} (hab : a ≤ b) (hp : p ≠ -1 → (a : Int) ≤ p ∧ p < b) (hx : ∀ x : Nat, a ≤ x → x < b → (z_far (M 321 46) (s f) x = 1 ↔ (x : Int) = p)) : z_bst M s f b = z_wst M s f (z_bst M s f a) p := by
  by_cases e : p = -1
  · rw [z_wst_n (fun q => q.1 e)]
    exact z_bst_sk b hab (fun x h1 h2 q => by
      have := (hx x h1 h2).mp q
      omega)
  · have hr := hp e
    obtain ⟨q, rfl⟩ : ∃ q : Nat, p = q := ⟨p.toNat, by omega⟩
    have e1 : z_bst M s f b = z_bst M s f (q + 1) := z_bst_sk b (by omega) (fun x h1 h2 h => by
      have := (hx x (by omega) h2).mp h
      omega)
    have e2 : z_bst M s f q = z_bst M s f a := z_bst_sk q (by omega) (fun x h1 h2 h => by
      have := (hx x h1 (by omega)).mp h
      omega)
    rw [e1]
    have hq := (hx q (by omega) (by omega)).mpr rfl
    by_cases c : (z_bst M s f a).1 < z_pul M s f q
    · rw [z_wst_y e c, z_bst_y hq (by rw [e2]; exact c)]
    · rw [z_wst_n (fun w => c w.2), z_bst_n (fun w => c (by rw [← e2]; exact w.2)), e2]
noncomputable def z_wy (M : z_M) (s : Int → Int) (f : Int) : Nat → Int × Int
  | 0 => (z_pul M s f (s f), s f)
  | w + 1 => z_wst M s f (z_wy M s f w) (z_nb (M 321 46) (M 321 47) (s f) w)
theorem z_nbr {C R o : Int} (hC : 2 ≤ C ∧ C ≤ 5) (hR : 2 ≤ R ∧ R ≤ 5) (ho : 0 ≤ o ∧ o < C * R) : (o / C > 0 ↔ o - C ≥ 0) ∧ (o / C < R - 1 ↔ o + C < C * R) ∧ (o % C > 0 → 1 ≤ o) ∧ (o % C < C - 1 → o + 1 < C * R) := by
  have hc : C = 2 ∨ C = 3 ∨ C = 4 ∨ C = 5 := by omega
  rcases hc with rfl | rfl | rfl | rfl <;> omega
theorem z_wy_b {M : z_M} {s : Int → Int} {f : Int} (hC : z_mc M) (h : 0 ≤ s f ∧ s f < M 321 46 * M 321 47) : z_wy M s f 4 = z_bst M s f (M 321 46 * M 321 47).toNat := by
  have hx : 4 ≤ M 321 46 * M 321 47 ∧ M 321 46 * M 321 47 ≤ 25 := z_mc_cells hC
  obtain ⟨hC1, hR1, -⟩ := hC
  obtain ⟨r0, r3, r1, r2⟩ := z_nbr hC1 hR1 h
  obtain ⟨N, hN⟩ : ∃ N : Nat, M 321 46 * M 321 47 = (N : Int) := ⟨(M 321 46 * M 321 47).toNat, by omega⟩
  have nbf : ∀ x : Nat, x < N → (z_far (M 321 46) (s f) x = 1 ↔ (x : Int) = s f - M 321 46 ∨ ((x : Int) = s f - 1 ∧ s f % M 321 46 > 0) ∨ ((x : Int) = s f + 1 ∧ s f % M 321 46 < M 321 46 - 1) ∨ (x : Int) = s f + M 321 46) := fun x hxN => z_far_nb hC1 (by omega) (by omega)
  rw [hN, Int.toNat_natCast]
  rw [hN] at h hx r2 r3
  clear hN
  obtain ⟨o, ho⟩ : ∃ o : Nat, s f = (o : Int) := ⟨(s f).toNat, by omega⟩
  have s1 : z_bst M s f (o - 1) = z_wst M s f (z_bst M s f 0) (if s f / M 321 46 > 0 then s f - M 321 46 else -1) := by
    refine z_bst_w (by omega) ?_ (fun x h1 h2 => ?_)
    · split <;> omega
    · rw [nbf x (by omega)]
      split <;> omega
  have s2 : z_bst M s f o = z_wst M s f (z_bst M s f (o - 1)) (if s f % M 321 46 > 0 then s f - 1 else -1) := by
    refine z_bst_w (by omega) ?_ (fun x h1 h2 => ?_)
    · split <;> omega
    · rw [nbf x (by omega)]
      split <;> omega
  have s3 : z_bst M s f (min (o + 2) N) = z_wst M s f (z_bst M s f o) (if s f % M 321 46 < M 321 46 - 1 then s f + 1 else -1) := by
    refine z_bst_w (by omega) ?_ (fun x h1 h2 => ?_)
    · split <;> omega
    · rw [nbf x (by omega)]
      split <;> omega
  have s4 : z_bst M s f N = z_wst M s f (z_bst M s f (min (o + 2) N)) (if s f / M 321 46 < M 321 47 - 1 then s f + M 321 46 else -1) := by
    refine z_bst_w (by omega) ?_ (fun x h1 h2 => ?_)
    · split <;> omega
    · rw [nbf x (by omega)]
      split <;> omega
  rw [s4, s3, s2, s1]
  rfl
