/-! WHAT IS TOLD: G, with the model's places; the class's cells hold it -/
def zgA (M : z_M) (g : Int) (G : z_M) : Prop := M g 10 = G 321 36 ∧ M g 11 = G 321 37 ∧ M g 12 = G 321 40 ∧ M g 13 = G 321 41 ∧ M g 14 = G 321 20 ∧ M g 15 = G 321 17 ∧ M g 16 = G 321 42 ∧ M g 17 = G 321 43 ∧ M g 18 = G 321 44 ∧ M g 19 = G 321 45
def zgN (M : z_M) (g : Int) (G : z_M) : Prop := ∀ k : Nat, (k : Int) < G 321 40 → ∃ l, z_glt l ∧ M (g + 1) k = z_c5 l ∧ G 323 k = z_c8 l
def zgF (M : z_M) (g : Int) (G : z_M) : Prop := ∀ k : Int, 0 ≤ k → k < G 321 40 → M (g + 2) k = G 332 k ∧ M (g + 3) k = G 334 k ∧ M (g + 4) k = G 333 k
def zgE (M : z_M) (g : Int) (G : z_M) : Prop := ∀ k : Int, 0 ≤ k → k < 6 → M (g + 5) k = if k < G 321 40 then G 336 k else 0
def zgW (M : z_M) (g : Int) (G : z_M) : Prop := ∀ f o : Int, 0 ≤ f → f < 6 → 0 ≤ o → o < 6 → M (g + 6) (6 * f + o) = if f < G 321 40 ∧ o < G 321 40 then G 335 (6 * f + o) else -1
def zgG (M : z_M) (g : Int) (G : z_M) : Prop := ∀ x : Int, 0 ≤ x → x < 25 → M (g + 7) x = G 331 x
def zgT (M : z_M) (g : Int) (G : z_M) : Prop := ∀ k : Nat, (k : Int) < G 321 17 → z_stp (G 324 k) (G 325 k) (M (g + 8) k)
def zgB (M : z_M) (G : z_M) : Prop := (0 ≤ M 33 4 ∧ M 33 4 < 65536) ∧ (M 33 4 = 0 ↔ G 321 53 = 0) ∧ (z_bt (M 33 4) 2 ↔ G 321 54 ≠ 0) ∧ (z_bt (M 33 4) 11 ↔ G 321 55 ≠ 0) ∧ (z_bt (M 33 4) 12 ↔ G 321 56 ≠ 0) ∧ (z_bt (M 33 4) 14 ↔ G 321 57 ≠ 0) ∧ (z_bt (M 33 4) 15 ↔ G 321 58 ≠ 0)
def zgL (M : z_M) (G : z_M) : Prop := M 33 5 = G 321 39 ∧ M 33 6 = G 321 38
def zg_c (M : z_M) (g : Int) (G : z_M) : Prop := M 33 3 = g ∧ z_gor M g ∧ zgA M g G ∧ zgN M g G ∧ zgF M g G ∧ zgE M g G ∧ zgW M g G ∧ zgG M g G ∧ zgT M g G ∧ zgB M G ∧ zgL M G
/-- never worse than so -/
def zg_z (G : z_M) : Prop := (2 ≤ G 321 36 ∧ G 321 36 ≤ 5) ∧ (2 ≤ G 321 37 ∧ G 321 37 ≤ 5) ∧ (0 ≤ G 321 40 ∧ G 321 40 ≤ 6) ∧ (0 ≤ G 321 17 ∧ G 321 17 ≤ 270) ∧ ((0 ≤ G 321 20 ∧ G 321 20 ≤ 30) ∧ (0 ≤ G 321 41 ∧ G 321 41 ≤ 15) ∧ (0 ≤ G 321 39 ∧ G 321 39 ≤ 8)) ∧ (∀ j k : Nat, (j : Int) < G 321 40 → (k : Int) < G 321 40 → G 323 j = G 323 k → j = k) ∧ ∀ f o : Int, 0 ≤ f → f < G 321 40 → G 321 40 ≤ o → o < 6 → G 335 (6 * f + o) = -1
section
variable {M M' G G' : z_M} {g : Int}
theorem zgN_q (e : M' (g + 1) = M (g + 1)) (e40 : G' 321 40 = G 321 40) (e2 : G' 323 = G 323) (h : zgN M g G) : zgN M' g G' := by
  unfold zgN at h ⊢
  rw [e, e40, e2]
  exact h
theorem zgF_q (e : M' (g + 2) = M (g + 2) ∧ M' (g + 3) = M (g + 3) ∧ M' (g + 4) = M (g + 4)) (e40 : G' 321 40 = G 321 40) (e2 : G' 332 = G 332 ∧ G' 333 = G 333 ∧ G' 334 = G 334) (h : zgF M g G) : zgF M' g G' := by
  unfold zgF at h ⊢
  rw [e.1, e.2.1, e.2.2, e40, e2.1, e2.2.1, e2.2.2]
  exact h
theorem zgE_q (e : M' (g + 5) = M (g + 5)) (e40 : G' 321 40 = G 321 40) (e2 : G' 336 = G 336) (h : zgE M g G) : zgE M' g G' := by
  unfold zgE at h ⊢
  rw [e, e40, e2]
  exact h
theorem zgW_q (e : M' (g + 6) = M (g + 6)) (e40 : G' 321 40 = G 321 40) (e2 : G' 335 = G 335) (h : zgW M g G) : zgW M' g G' := by
  unfold zgW at h ⊢
  rw [e, e40, e2]
  exact h
theorem zgG_q (e : M' (g + 7) = M (g + 7)) (e2 : G' 331 = G 331) (h : zgG M g G) : zgG M' g G' := by
  unfold zgG at h ⊢
  rw [e, e2]
  exact h
theorem zgT_q (e : M' (g + 8) = M (g + 8)) (e17 : G' 321 17 = G 321 17) (e2 : G' 324 = G 324 ∧ G' 325 = G 325) (h : zgT M g G) : zgT M' g G' := by
  unfold zgT at h ⊢
  rw [e, e17, e2.1, e2.2]
  exact h
theorem zgB_q (e : M' 33 4 = M 33 4) (e2 : ∀ j, 53 ≤ j → j ≤ 58 → G' 321 j = G 321 j) (h : zgB M G) : zgB M' G' := by
  unfold zgB at h ⊢
  rw [e, e2 53 (by decide) (by decide), e2 54 (by decide) (by decide), e2 55 (by decide) (by decide), e2 56 (by decide) (by decide), e2 57 (by decide) (by decide), e2 58 (by decide) (by decide)]
  exact h
theorem zgA_q (e : M' g = M g) (h : zgA M g G) : zgA M' g G := by
  unfold zgA at h ⊢
  rw [e]
  exact h
/-- the tape may move on, and a fault be noted -/
theorem zg_c_g (h : zg_c M g G) (f : zs_g M M') : zg_c M' g G := by
  obtain ⟨h1, h2, a, b, c, d, e, i, j, k, l⟩ := h
  have hg := z_gsep h2
  have o : ∀ q, g ≤ q → q ≤ g + 8 → M' q = M q := fun q x y => f.1 q (by omega) (by omega)
  refine ⟨by rw [f.2.2 3 (by decide) (by decide)]; exact h1, z_gor_q (o _ (by omega) (by omega)) h2, zgA_q (o _ (by omega) (by omega)) a, zgN_q (o _ (by omega) (by omega)) rfl rfl b, zgF_q ⟨o _ (by omega) (by omega), o _ (by omega) (by omega), o _ (by omega) (by omega)⟩ rfl ⟨rfl, rfl, rfl⟩ c, zgE_q (o _ (by omega) (by omega)) rfl rfl d, zgW_q (o _ (by omega) (by omega)) rfl rfl e, zgG_q (o _ (by omega) (by omega)) rfl i, zgT_q (o _ (by omega) (by omega)) rfl ⟨rfl, rfl⟩ j, zgB_q (f.2.2 4 (by decide) (by decide)) (fun _ _ _ => rfl) k, ?_⟩
  unfold zgL at l ⊢
  rw [f.2.2 5 (by decide) (by decide), f.2.2 6 (by decide) (by decide)]
  exact l
def zg_p (j fld : Int) : Prop := (j = 10 ∧ fld = 36) ∨ (j = 11 ∧ fld = 37) ∨ (j = 16 ∧ fld = 42) ∨ (j = 17 ∧ fld = 43) ∨ (j = 18 ∧ fld = 44) ∨ (j = 19 ∧ fld = 45) ∨ (j = 14 ∧ fld = 20)
/-- a number is told -/
theorem zg_u {j fld v : Int} (h : zg_c M g G) (hj : zg_p j fld) : zg_c (z_up M g j v) g (z_up G 321 fld v) := by
  obtain ⟨h1, h2, a, b, c, d, e, i, y, k, l⟩ := h
  have hg := z_gsep h2
  have o : ∀ q, q ≠ g → z_up M g j v q = M q := fun q w => z_upn w
  have o2 : ∀ q, q ≠ 321 → z_up G 321 fld v q = G q := fun q w => z_upn w
  have o3 : ∀ q, q ≠ 36 → q ≠ 37 → (¬ (42 ≤ q ∧ q ≤ 45) ∧ q ≠ 20) → z_up G 321 fld v 321 q = G 321 q := fun q w1 w2 w3 => z_upi (by unfold zg_p at hj; omega) rfl
  refine ⟨by rw [o 33 (by omega)]; exact h1, z_gor_n h2 (fun k a b => z_upi (by unfold zg_p at hj; omega) rfl), ?_, zgN_q (o _ (by omega)) (o3 40 (by decide) (by decide) (by decide)) (o2 _ (by decide)) b, zgF_q ⟨o _ (by omega), o _ (by omega), o _ (by omega)⟩ (o3 40 (by decide) (by decide) (by decide)) ⟨o2 _ (by decide), o2 _ (by decide), o2 _ (by decide)⟩ c, zgE_q (o _ (by omega)) (o3 40 (by decide) (by decide) (by decide)) (o2 _ (by decide)) d, zgW_q (o _ (by omega)) (o3 40 (by decide) (by decide) (by decide)) (o2 _ (by decide)) e, zgG_q (o _ (by omega)) (o2 _ (by decide)) i, zgT_q (o _ (by omega)) (o3 17 (by decide) (by decide) (by decide)) ⟨o2 _ (by decide), o2 _ (by decide)⟩ y, zgB_q (by rw [o 33 (by omega)]) (fun q w1 w2 => o3 q (by omega) (by omega) (by omega)) k, ?_⟩
  · obtain ⟨a1, a2, a3, a4, a5, a6, a7, a8, a9, a10⟩ := a
    unfold zg_p at hj
    rcases hj with ⟨rfl, rfl⟩ | ⟨rfl, rfl⟩ | ⟨rfl, rfl⟩ | ⟨rfl, rfl⟩ | ⟨rfl, rfl⟩ | ⟨rfl, rfl⟩ | ⟨rfl, rfl⟩
    all_goals
      unfold zgA
      refine ⟨?_, ?_, ?_, ?_, ?_, ?_, ?_, ?_, ?_, ?_⟩
      all_goals first
        | exact z_ups.trans z_ups.symm
        | (rw [z_upi (by decide) rfl, z_upi (by decide) rfl]; assumption)
  · unfold zgL at l ⊢
    rw [o 33 (by omega), o3 39 (by decide) (by decide) (by decide), o3 38 (by decide) (by decide) (by decide)]
    exact l
theorem zg_z_u {fld v : Int} (h : zg_z G) (hv : (fld = 36 ∨ fld = 37) → 2 ≤ v ∧ v ≤ 5) (hf : fld = 36 ∨ fld = 37 ∨ fld = 38 ∨ (42 ≤ fld ∧ fld ≤ 45) ∨ (53 ≤ fld ∧ fld ≤ 58)) : zg_z (z_up G 321 fld v) := by
  obtain ⟨h1, h2, h3, h4, h5, h6⟩ := h
  have e : ∀ q, z_up G 321 fld v 321 q = if q = fld then v else G 321 q := fun q => by
    by_cases w : q = fld
    · rw [if_pos w, w, z_ups]
    · rw [if_neg w, z_upi w rfl]
  unfold zg_z
  rw [e 36, e 37, e 40, e 17, e 20, e 41, e 39, if_neg (show ¬ (40 : Int) = fld by omega), if_neg (show ¬ (17 : Int) = fld by omega), if_neg (show ¬ (20 : Int) = fld by omega), if_neg (show ¬ (41 : Int) = fld by omega), if_neg (show ¬ (39 : Int) = fld by omega), z_upn (q := 323) (by decide), z_upn (q := 335) (by decide)]
  refine ⟨?_, ?_, h3, h4, h5, h6⟩
  · split <;> omega
  · split <;> omega
end
/-- what a reader's step leaves: where it stands, what is told -/
def zk (b : Int → Int) (n g : Int) (M' : z_M) (r : zs_S × z_M) : Prop := zs_c M' b n r.1 ∧ ∃ G', zg_c M' g G' ∧ zg_z G' ∧ ∀ p, r.1 = .ok p → G' = r.2
def zl_f (g : Int) (M M' : z_M) : Prop := (∀ q, q ≠ 30 → q ≠ 33 → ¬ (g ≤ q ∧ q ≤ g + 8) → M' q = M q) ∧ (∀ j, ¬ (3 ≤ j ∧ j ≤ 7) → M' 30 j = M 30 j) ∧ M' 33 0 = M 33 0
section
variable {M M' M1 M2 : z_M} {g : Int} {b : Int → Int} {n : Int}
theorem zl_f_r : zl_f g M M := ⟨fun _ _ _ _ => rfl, fun _ _ => rfl, rfl⟩
theorem zl_f_t (f : zl_f g M M1) (h : zl_f g M1 M2) : zl_f g M M2 := ⟨fun q x y z => by rw [h.1 q x y z, f.1 q x y z], fun j a => by rw [h.2.1 j a, f.2.1 j a], by rw [h.2.2, f.2.2]⟩
theorem zl_f_g (f : zs_g M M') : zl_f g M M' := ⟨fun q x y _ => f.1 q x y, f.2.1, f.2.2 0 (by decide) (by decide)⟩
theorem zl_f_u {q j v : Int} (hg : 2 ≤ g ∧ g ≤ 13) (hq : g ≤ q ∧ q ≤ g + 8) : zl_f g M (z_up M q j v) := ⟨fun p x y z => z_upn (by omega), fun i a => by rw [z_upn (by omega)], by rw [z_upn (by omega)]⟩
theorem zl_f_v {j v : Int} (hj : j ≠ 0) : zl_f g M (z_up M 33 j v) := ⟨fun p x y z => z_upn y, fun i a => by rw [z_upn (by decide)], by rw [z_upi (by omega) rfl]⟩
theorem zl_f_F (f : zl_f g M M') (hg : 2 ≤ g ∧ g ≤ 13) (hF : z_fix M) : z_fix M' := z_fix_gen hF (fun q i hq => by
  by_cases e : q = 30
  · rw [e] at hq ⊢
    exact f.2.1 i (by unfold z_fin at hq; omega)
  · by_cases e2 : q = 33
    · rw [e2] at hq ⊢
      rw [show i = 0 by unfold z_fin at hq; omega]
      exact f.2.2
    · rw [f.1 q e e2 (by unfold z_fin at hq; omega)])
theorem zs_c_u {q j v : Int} {σ : zs_S} (hq : q ≠ 30 ∧ q ≠ 31 ∧ q ≠ 32) (h3 : q = 33 → j ≠ 1 ∧ j ≠ 2) (h : zs_c M b n σ) : zs_c (z_up M q j v) b n σ := by
  have e1 : z_up M q j v 33 1 = M 33 1 := by
    by_cases w : q = 33
    · rw [w, z_upi (by have := (h3 w).1; omega) rfl]
    · rw [z_upn (fun w2 => w w2.symm)]
  have e2 : z_up M q j v 33 2 = M 33 2 := by
    by_cases w : q = 33
    · rw [w, z_upi (by have := (h3 w).2; omega) rfl]
    · rw [z_upn (fun w2 => w w2.symm)]
  unfold zs_c zt_t zt_c at h ⊢
  rw [z_upn (q := 30) (by omega), z_upn (q := 31) (by omega), z_upn (q := 32) (by omega), e1, e2]
  exact h
theorem zs_nm_k {lo hi p : Int} {σ : zs_S} (h : zs_nm b n lo hi σ = .ok p) : (∃ q, σ = .ok q) ∧ lo ≤ zs_v b n σ ∧ zs_v b n σ ≤ hi := by
  cases σ with
  | error e => cases h
  | ok q =>
    change (if zt_k b n q = 25 then (if lo ≤ zt_v b n q ∧ zt_v b n q ≤ hi then _ else _) else _) = Except.ok p at h
    split at h
    · split at h
      · rename_i c
        exact ⟨⟨q, rfl⟩, c⟩
      · cases h
    · cases h
theorem zs_nd_k {k p : Int} {σ : zs_S} (h : zs_nd b n k σ = .ok p) : ∃ q, σ = .ok q := by
  cases σ with
  | error e => cases h
  | ok q => exact ⟨q, rfl⟩
theorem zs_w_k {c p : Int} {σ : zs_S} (h : zs_w b n c σ = .ok p) : False := by
  cases σ with
  | error e => cases h
  | ok q => cases h
theorem zs_od_k {N : Int → Int} {c : Nat} {p : Int} {σ : zs_S} (h : zs_od b n N c σ = .ok p) : σ = .ok p ∧ 0 ≤ zs_on b n N c σ ∧ zs_on b n N c σ < c := by
  cases σ with
  | error e => cases h
  | ok q =>
    have zb := zn_f_b (N := N) (x := z_c8 (zt_l b n q)) c
    change (if zt_k b n q = 24 then (if zn_f N (z_c8 (zt_l b n q)) c < 0 then _ else _) else _) = Except.ok p at h
    split at h
    · split at h
      · cases h
      · injection h with h
        exact ⟨by rw [h], by show 0 ≤ zn_f N (z_c8 (zt_l b n q)) c; omega, zb.2.1⟩
    · cases h
theorem zg_n {G : z_M} {c : Nat} (h : zg_c M g G) (hz : zg_z G) (hc : G 321 40 = (c : Int)) : zn_c M g (G 323) c := by
  obtain ⟨h1, h2, a, b, _⟩ := h
  refine ⟨⟨by rw [a.2.2.1, hc], by have := hz.2.2.1; omega⟩, fun k hk => b k (by rw [hc]; omega), fun j k hj hk e => hz.2.2.2.2.2.1 j k (by rw [hc]; omega) (by rw [hc]; omega) e⟩
end
