/-! WHAT IS TOLD IS SOUND -/
def zs_ge (p n : Int) (σ : zs_S) : Prop := ∀ q, σ = .ok q → p ≤ q ∧ q ≤ n
/-- all but the line's and the formula's marks -/
def zy_0 (G : z_M) : Prop := zg_z G ∧
  (∀ f : Int, 0 ≤ f → f < G 321 40 → (G 332 f = 0 ∨ G 332 f = 1) ∧ (0 ≤ G 333 f ∧ G 333 f < G 321 36 * G 321 37) ∧ (1 ≤ G 334 f ∧ G 334 f ≤ 9) ∧ (0 ≤ G 336 f ∧ G 336 f < 64) ∧ ∀ o : Int, 0 ≤ o → o < G 321 40 → -1 ≤ G 335 (6 * f + o) ∧ G 335 (6 * f + o) ≤ 99) ∧
  (∀ x : Int, 0 ≤ x → x < 25 → -1 ≤ G 331 x ∧ G 331 x ≤ 9) ∧
  ((0 ≤ G 321 38 ∧ G 321 38 ≤ 9) ∧ (0 ≤ G 321 42 ∧ G 321 42 ≤ 100) ∧ (1 ≤ G 321 43 ∧ G 321 43 ≤ 9) ∧ (1 ≤ G 321 44 ∧ G 321 44 ≤ 20) ∧ (0 ≤ G 321 45 ∧ G 321 45 ≤ 999)) ∧
  (∀ f c : Int, 0 ≤ f → f < G 321 40 → 0 ≤ c → c < G 321 40 → (z_bt (G 336 f) c ↔ z_bt (G 336 c) f)) ∧
  (∀ f c : Int, 0 ≤ f → f < G 321 40 → G 321 40 ≤ c → c < 32 → ¬ z_bt (G 336 f) c)
def zy_p (G : z_M) : Prop := (G 321 55 = 0 ∨ G 321 55 = 1) ∧ (G 321 55 = 0 → G 321 17 = 0 ∧ G 321 20 = 0) ∧ (G 321 55 ≠ 0 → 1 ≤ G 321 17 ∧ G 321 17 ≤ 270 ∧ 1 ≤ z_ht (G 324) (G 321 17).toNat ∧ ∀ k : Nat, (k : Int) < G 321 17 → z_fw (G 324) (G 325) k)
def zy (G : z_M) : Prop := zy_0 G ∧ (G 321 53 = 0 → G 321 40 = 0) ∧ zy_p G
section
variable {b : Int → Int} {n p q lo hi kk : Int} {σ : zs_S} {G G' : z_M}
theorem zs_ge_nd (h : zs_ge p n σ) (h0 : 0 ≤ p) : zs_ge p n (zs_nd b n kk σ) := by
  cases σ with
  | error e => exact h
  | ok r =>
    have hr := h r rfl
    intro q hq
    change (if zt_k b n r = kk then _ else _) = Except.ok q at hq
    split at hq
    · have e : zt_x b n r = q := by injection hq
      have h1 := zt_x_b (b := b) (n := n) (p := r) (by omega)
      have h2 := zt_s_b (b := b) (n := n) (p := r) (by omega)
      omega
    · cases hq
theorem zs_ge_nm (h : zs_ge p n σ) (h0 : 0 ≤ p) : zs_ge p n (zs_nm b n lo hi σ) := by
  cases σ with
  | error e => exact h
  | ok r =>
    have hr := h r rfl
    intro q hq
    change (if zt_k b n r = 25 then (if lo ≤ zt_v b n r ∧ zt_v b n r ≤ hi then _ else _) else _) = Except.ok q at hq
    split at hq
    · split at hq
      · have e : zt_x b n r = q := by injection hq
        have h1 := zt_x_b (b := b) (n := n) (p := r) (by omega)
        have h2 := zt_s_b (b := b) (n := n) (p := r) (by omega)
        omega
      · cases hq
    · cases hq
theorem zs_ge_od {N : Int → Int} {c : Nat} (h : zs_ge p n σ) : zs_ge p n (zs_od b n N c σ) := fun q hq => h q (zs_od_k hq).1
theorem zs_ge_ck {C : Prop} (h : zs_ge p n σ) : zs_ge p n (zs_ck b n C σ) := fun q hq => h q (zs_ck_k hq).1
theorem zy_0_q (h : zy_0 G) (hz : zg_z G') (f1 : ∀ j, j ≠ 36 → j ≠ 37 → G' 321 j = G 321 j → True) (e40 : G' 321 40 = G 321 40) (e36 : G' 321 36 = G 321 36) (e37 : G' 321 37 = G 321 37) (r : G' 332 = G 332 ∧ G' 333 = G 333 ∧ G' 334 = G 334 ∧ G' 335 = G 335 ∧ G' 336 = G 336) (e31 : ∀ x : Int, 0 ≤ x → x < 25 → -1 ≤ G' 331 x ∧ G' 331 x ≤ 9) (nn : (0 ≤ G' 321 38 ∧ G' 321 38 ≤ 9) ∧ (0 ≤ G' 321 42 ∧ G' 321 42 ≤ 100) ∧ (1 ≤ G' 321 43 ∧ G' 321 43 ≤ 9) ∧ (1 ≤ G' 321 44 ∧ G' 321 44 ≤ 20) ∧ (0 ≤ G' 321 45 ∧ G' 321 45 ≤ 999)) : zy_0 G' := by
  obtain ⟨h1, h2, h3, h4, h5, h6⟩ := h
  refine ⟨hz, ?_, e31, nn, ?_, ?_⟩
  · rw [e40, e36, e37, r.1, r.2.1, r.2.2.1, r.2.2.2.1, r.2.2.2.2]
    exact h2
  · rw [e40, r.2.2.2.2]
    exact h5
  · rw [e40, r.2.2.2.2]
    exact h6
/-- a number is told -/
theorem zy_0_u {fld v : Int} (h : zy_0 G) (hv : (fld = 38 ∧ 0 ≤ v ∧ v ≤ 9) ∨ (fld = 42 ∧ 0 ≤ v ∧ v ≤ 100) ∨ (fld = 43 ∧ 1 ≤ v ∧ v ≤ 9) ∨ (fld = 44 ∧ 1 ≤ v ∧ v ≤ 20) ∨ (fld = 45 ∧ 0 ≤ v ∧ v ≤ 999) ∨ (53 ≤ fld ∧ fld ≤ 58)) : zy_0 (z_up G 321 fld v) := by
  have e : ∀ q, z_up G 321 fld v 321 q = if q = fld then v else G 321 q := fun q => by
    by_cases w : q = fld
    · rw [if_pos w, w, z_ups]
    · rw [if_neg w, z_upi w rfl]
  have e' : ∀ q, q ≠ fld → z_up G 321 fld v 321 q = G 321 q := fun q w => z_upi w rfl
  refine zy_0_q h (zg_z_u h.1 (fun w => by omega) (by omega)) (fun _ _ _ _ => trivial) (e' 40 (by omega)) (e' 36 (by omega)) (e' 37 (by omega)) ⟨z_upn (by decide), z_upn (by decide), z_upn (by decide), z_upn (by decide), z_upn (by decide)⟩ ?_ ?_
  · rw [z_upn (by decide)]
    exact h.2.2.1
  · obtain ⟨n1, n2, n3, n4, n5⟩ := h.2.2.2.1
    rw [e 38, e 42, e 43, e 44, e 45]
    refine ⟨?_, ?_, ?_, ?_, ?_⟩
    all_goals
      split
      · omega
      · assumption
theorem y_gorge (h : zy_0 G) (h40 : G 321 40 = 0) (hq : (zb_gorge b n σ G).1 = .ok q) : zy_0 (zb_gorge b n σ G).2 := by
  obtain ⟨⟨q1, h1⟩, r1⟩ := zs_nm_k hq
  obtain ⟨q2, h2⟩ := zs_nd_k h1
  have r2 := (zs_nm_k h2).2
  obtain ⟨y1, y2, y3, y4, y5, y6⟩ := h
  unfold zb_gorge
  dsimp only
  generalize zs_v b n σ = v at *
  generalize zs_v b n (zs_nd b n 1 (zs_nm b n 2 5 σ)) = w at *
  have e : ∀ j, j ≠ 36 → j ≠ 37 → z_up (z_up G 321 36 v) 321 37 w 321 j = G 321 j := fun j a1 a2 => by rw [z_upi a2 rfl, z_upi a1 rfl]
  have r : ∀ x, x ≠ 321 → z_up (z_up G 321 36 v) 321 37 w x = G x := fun x a => by rw [z_upn a, z_upn a]
  refine ⟨zg_z_u (zg_z_u y1 (fun _ => r2) (by omega)) (fun _ => r1) (by omega), fun f f1 f2 => ?_, ?_, ?_, fun f c f1 f2 => ?_, fun f c f1 f2 => ?_⟩
  · rw [e 40 (by decide) (by decide)] at f2
    omega
  · rw [r 331 (by decide)]
    exact y3
  · rw [e 38 (by decide) (by decide), e 42 (by decide) (by decide), e 43 (by decide) (by decide), e 44 (by decide) (by decide), e 45 (by decide) (by decide)]
    exact y4
  · rw [e 40 (by decide) (by decide)] at f2
    omega
  · rw [e 40 (by decide) (by decide)] at f2
    omega
theorem y_rain (h : zy_0 G) (hq : (zb_rain b n σ G).1 = .ok q) : zy_0 (zb_rain b n σ G).2 := by
  obtain ⟨⟨q1, h1⟩, r1⟩ := zs_nm_k hq
  obtain ⟨q2, h2⟩ := zs_nd_k h1
  have r2 := (zs_nm_k h2).2
  exact zy_0_u (zy_0_u h (Or.inr (Or.inl ⟨rfl, r2⟩))) (Or.inr (Or.inr (Or.inl ⟨rfl, r1⟩)))
theorem y_grass (h : zy_0 G) (h39 : G 321 39 < 8) (hq : (zb_grass b n σ G).1 = .ok q) : zy_0 (zb_grass b n σ G).2 := by
  obtain ⟨⟨q1, h1⟩, r1⟩ := zs_nm_k hq
  obtain ⟨z1, z2, z3, z4, ⟨z5, z6, z7⟩, z8⟩ := h.1
  unfold zb_grass
  dsimp only
  generalize zs_v b n (zb_g3 b n σ G) = v at *
  generalize zs_v b n (zb_g2 b n σ G) * G 321 36 + zs_v b n σ = x0
  have r2 : ∀ j, j ≠ 39 → z_up (z_up G 331 x0 v) 321 39 (G 321 39 + 1) 321 j = G 321 j := fun j w1 => by rw [z_upi w1 rfl, z_upn (by decide)]
  have r1' : ∀ x, x ≠ 321 → x ≠ 331 → z_up (z_up G 331 x0 v) 321 39 (G 321 39 + 1) x = G x := fun x a c => by rw [z_upn a, z_upn c]
  refine zy_0_q h ?_ (fun _ _ _ _ => trivial) (r2 40 (by decide)) (r2 36 (by decide)) (r2 37 (by decide)) ⟨r1' _ (by decide) (by decide), r1' _ (by decide) (by decide), r1' _ (by decide) (by decide), r1' _ (by decide) (by decide), r1' _ (by decide) (by decide)⟩ (fun x x1 x2 => ?_) ?_
  · unfold zg_z
    rw [r2 36 (by decide), r2 37 (by decide), r2 40 (by decide), r2 17 (by decide), r2 20 (by decide), r2 41 (by decide), r1' 323 (by decide) (by decide), r1' 335 (by decide) (by decide), z_ups]
    exact ⟨z1, z2, z3, z4, ⟨z5, z6, by omega⟩, z8⟩
  · rw [z_upn (by decide)]
    by_cases e : x = x0
    · rw [e, z_ups]
      omega
    · rw [z_upi e rfl]
      exact h.2.2.1 x x1 x2
  · rw [r2 38 (by decide), r2 42 (by decide), r2 43 (by decide), r2 44 (by decide), r2 45 (by decide)]
    exact h.2.2.2.1
theorem y_wants (h : zy_0 G) (hq : (zb_wants b n σ G).1 = .ok q) : zy_0 (zb_wants b n σ G).2 := by
  obtain ⟨⟨q1, h1⟩, r1⟩ := zs_nm_k hq
  obtain ⟨q2, h2⟩ := zs_nd_k h1
  have h3 := (zs_ck_k h2).1
  obtain ⟨ra, rb, -, -⟩ := zb_2_k h3
  obtain ⟨y1, y2, y3, y4, y5, y6⟩ := h
  obtain ⟨z1, z2, z3, z4, z5, z6, z7⟩ := id y1
  unfold zb_wants
  dsimp only
  generalize zb_a b n σ G = a at *
  generalize zb_b b n σ G = c at *
  generalize zs_v b n (zb_w4 b n σ G) = v at *
  have r : ∀ x, x ≠ 335 → z_up G 335 (6 * a + c) v x = G x := fun x w => z_upn w
  refine ⟨?_, fun f f1 f2 => ?_, ?_, ?_, ?_, ?_⟩
  · unfold zg_z
    rw [r 321 (by decide), r 323 (by decide)]
    exact ⟨z1, z2, z3, z4, z5, z6, fun f o o1 o2 o3 o4 => by rw [z_upi (by omega) rfl]; exact z7 f o o1 o2 o3 o4⟩
  · rw [r 321 (by decide)] at f2 ⊢
    rw [r 332 (by decide), r 333 (by decide), r 334 (by decide), r 336 (by decide)]
    obtain ⟨w1, w2, w3, w4, w5⟩ := y2 f f1 f2
    refine ⟨w1, w2, w3, w4, fun o o1 o2 => ?_⟩
    by_cases e : 6 * f + o = 6 * a + c
    · rw [e, z_ups]
      omega
    · rw [z_upi e rfl]
      exact w5 o o1 o2
  · rw [r 331 (by decide)]
    exact y3
  · rw [r 321 (by decide)]
    exact y4
  · rw [r 321 (by decide), r 336 (by decide)]
    exact y5
  · rw [r 321 (by decide), r 336 (by decide)]
    exact y6
theorem zl_or6 {x : Int} {k : Nat} (hx : 0 ≤ x ∧ x < 64) (hk : k < 6) : 0 ≤ z_or x (z_shl 1 k) ∧ z_or x (z_shl 1 k) < 64 := by
  obtain ⟨v, rfl⟩ : ∃ v : Nat, x = (v : Int) := ⟨x.toNat, by omega⟩
  have hp : 2 ^ k < 64 := by
    have : (2 : Nat) ^ k ≤ 2 ^ 5 := Nat.pow_le_pow_right (by decide) (by omega)
    omega
  rw [z_shl1 k (by omega), zl_or (by omega) (by omega)]
  have : v ||| 2 ^ k < 2 ^ 6 := Nat.or_lt_two_pow (n := 6) (by omega) (by omega)
  omega
theorem y_feud (h : zy_0 G) (h41 : G 321 41 < 15) (hq : (zb_feud b n σ G).1 = .ok q) : zy_0 (zb_feud b n σ G).2 := by
  obtain ⟨q2, h2⟩ := zs_nd_k hq
  have h3 := zs_ck_k h2
  obtain ⟨ra, rb, -, -⟩ := zb_2_k h3.1
  obtain ⟨y1, y2, y3, y4, y5, y6⟩ := h
  obtain ⟨z1, z2, z3, z4, ⟨z5, z5b, z5c⟩, z6, z7⟩ := id y1
  have ne : zb_a b n σ G ≠ zb_b b n σ G := fun w => h3.2 (Or.inl w)
  show zy_0 (zb_fo G (zb_a b n σ G) (zb_b b n σ G))
  generalize zb_a b n σ G = a at *
  generalize zb_b b n σ G = c at *
  have eo : ∀ q, q ≠ 321 → q ≠ 336 → zb_fo G a c q = G q := fun q w1 w2 => by unfold zb_fo; rw [z_upn w1, z_upn w2, z_upn w2]
  have eo1 : ∀ j, j ≠ 41 → zb_fo G a c 321 j = G 321 j := fun j w => by unfold zb_fo; rw [z_upi w rfl, z_upn (by decide), z_upn (by decide)]
  have e41 : zb_fo G a c 321 41 = G 321 41 + 1 := by unfold zb_fo; rw [z_ups]
  obtain ⟨an, rfl⟩ : ∃ an : Nat, a = (an : Int) := ⟨a.toNat, by omega⟩
  obtain ⟨cn, rfl⟩ : ∃ cn : Nat, c = (cn : Int) := ⟨c.toNat, by omega⟩
  have ef : ∀ f, zb_fo G an cn 336 f = if f = cn then z_or (G 336 cn) (z_shl 1 an) else if f = an then z_or (G 336 an) (z_shl 1 cn) else G 336 f := fun f => by
    unfold zb_fo
    rw [z_upn (by decide)]
    by_cases e : f = cn
    · rw [if_pos e, e, z_ups, z_upi (fun w => ne w.symm) rfl]
    · rw [if_neg e, z_upi e rfl]
      by_cases e2 : f = an
      · rw [if_pos e2, e2, z_ups]
      · rw [if_neg e2, z_upi e2 rfl]
  have bt : ∀ f x : Int, 0 ≤ f → f < G 321 40 → 0 ≤ x → x < 32 → (z_bt (zb_fo G an cn 336 f) x ↔ z_bt (G 336 f) x ∨ (f = cn ∧ x = an) ∨ (f = an ∧ x = cn)) := fun f x f1 f2 x1 x2 => by
    rw [ef]
    by_cases e : f = cn
    · rw [if_pos e, z_bt_or ⟨x1, x2⟩, z_bt_shl ⟨by omega, by omega⟩ ⟨x1, x2⟩, e]
      constructor
      · rintro (w | w)
        · exact Or.inl w
        · exact Or.inr (Or.inl ⟨rfl, w.symm⟩)
      · rintro (w | w | w)
        · exact Or.inl w
        · exact Or.inr w.2.symm
        · exact absurd w.1.symm ne
    · rw [if_neg e]
      by_cases e2 : f = an
      · rw [if_pos e2, z_bt_or ⟨x1, x2⟩, z_bt_shl ⟨by omega, by omega⟩ ⟨x1, x2⟩, e2]
        constructor
        · rintro (w | w)
          · exact Or.inl w
          · exact Or.inr (Or.inr ⟨rfl, w.symm⟩)
        · rintro (w | w | w)
          · exact Or.inl w
          · exact absurd w.1 ne
          · exact Or.inr w.2.symm
      · rw [if_neg e2]
        exact ⟨Or.inl, fun w => w.elim id (fun w => w.elim (fun w => absurd w.1 e) (fun w => absurd w.1 e2))⟩
  refine ⟨?_, fun f f1 f2 => ?_, ?_, ?_, fun f x f1 f2 x1 x2 => ?_, fun f x f1 f2 x1 x2 => ?_⟩
  · unfold zg_z
    rw [eo1 36 (by decide), eo1 37 (by decide), eo1 40 (by decide), eo1 17 (by decide), eo1 20 (by decide), eo1 39 (by decide), e41, eo 323 (by decide) (by decide), eo 335 (by decide) (by decide)]
    exact ⟨z1, z2, z3, z4, ⟨z5, by omega, z5c⟩, z6, z7⟩
  · rw [eo1 40 (by decide)] at f2 ⊢
    rw [eo1 36 (by decide), eo1 37 (by decide), eo 332 (by decide) (by decide), eo 333 (by decide) (by decide), eo 334 (by decide) (by decide), eo 335 (by decide) (by decide)]
    obtain ⟨w1, w2, w3, w4, w5⟩ := y2 f f1 f2
    refine ⟨w1, w2, w3, ?_, w5⟩
    rw [ef]
    split
    · exact zl_or6 (y2 cn (by omega) (by omega)).2.2.2.1 (by omega)
    · split
      · exact zl_or6 (y2 an (by omega) (by omega)).2.2.2.1 (by omega)
      · exact w4
  · rw [eo 331 (by decide) (by decide)]
    exact y3
  · rw [eo1 38 (by decide), eo1 42 (by decide), eo1 43 (by decide), eo1 44 (by decide), eo1 45 (by decide)]
    exact y4
  · rw [eo1 40 (by decide)] at f2 x2
    rw [bt f x f1 f2 x1 (by omega), bt x f x1 x2 f1 (by omega), y5 f x f1 f2 x1 x2]
    constructor
    · rintro (w | w | w)
      · exact Or.inl w
      · exact Or.inr (Or.inr ⟨w.2, w.1⟩)
      · exact Or.inr (Or.inl ⟨w.2, w.1⟩)
    · rintro (w | w | w)
      · exact Or.inl w
      · exact Or.inr (Or.inr ⟨w.2, w.1⟩)
      · exact Or.inr (Or.inl ⟨w.2, w.1⟩)
  · rw [eo1 40 (by decide)] at f2 x1
    rw [bt f x f1 f2 (by omega) x2]
    rintro (w | w | w)
    · exact y6 f x f1 f2 x1 x2 w
    · omega
    · omega
theorem y_flock (h : zy_0 G) (h40 : G 321 40 < 6) (hq : (zb_flock b n p G).1 = .ok q) : zy_0 (zb_flock b n p G).2 := by
  obtain ⟨⟨q7, h7⟩, r8⟩ := zs_nm_k hq
  obtain ⟨q6, h6⟩ := zs_nd_k h7
  obtain ⟨⟨q5, h5⟩, r6⟩ := zs_nm_k h6
  obtain ⟨⟨q4, h4⟩, r5⟩ := zs_nm_k h5
  obtain ⟨q3, h3⟩ := zs_nd_k h4
  obtain ⟨q2, h2⟩ := zs_nd_k h3
  obtain ⟨q1, h1⟩ := zs_nd_k h2
  have k24 : zt_k b n p = 24 := Classical.byContradiction (fun w => by
    have h1' : zb_f1 b n p G = .ok q1 := h1
    unfold zb_f1 at h1'
    rw [if_neg w] at h1'
    cases h1')
  have new : zn_f (G 323) (z_c8 (zt_l b n p)) (G 321 40).toNat < 0 := Classical.byContradiction (fun w => by
    have h1' : zb_f1 b n p G = .ok q1 := h1
    unfold zb_f1 at h1'
    rw [if_pos k24, if_neg w] at h1'
    cases h1')
  change 0 ≤ zs_v b n (zb_f4 b n p G) ∧ zs_v b n (zb_f4 b n p G) ≤ G 321 36 - 1 at r5
  change 0 ≤ zs_v b n (zb_f5 b n p G) ∧ zs_v b n (zb_f5 b n p G) ≤ G 321 37 - 1 at r6
  change 1 ≤ zs_v b n (zb_f7 b n p G) ∧ zs_v b n (zb_f7 b n p G) ≤ 9 at r8
  have s01 : zb_fs b n p G = 0 ∨ zb_fs b n p G = 1 := by
    unfold zb_fs
    split
    · exact Or.inr rfl
    · exact Or.inl rfl
  obtain ⟨y1, y2, y3, y4, y5, y6⟩ := h
  obtain ⟨z1, z2, z3, z4, z5, z6, z7⟩ := id y1
  have ix := zb_ix z1 z2 r6 r5
  show zy_0 (zb_fk G (z_c8 (zt_l b n p)) (zb_fs b n p G) (zs_v b n (zb_f5 b n p G) * G 321 36 + zs_v b n (zb_f4 b n p G)) (zs_v b n (zb_f7 b n p G)))
  obtain ⟨f1, f2, f3, f4, f5, f6⟩ := zb_fk_r (G := G) (w := z_c8 (zt_l b n p)) (s := zb_fs b n p G) (h := zs_v b n (zb_f5 b n p G) * G 321 36 + zs_v b n (zb_f4 b n p G)) (z := zs_v b n (zb_f7 b n p G))
  generalize zb_fk G (z_c8 (zt_l b n p)) (zb_fs b n p G) (zs_v b n (zb_f5 b n p G) * G 321 36 + zs_v b n (zb_f4 b n p G)) (zs_v b n (zb_f7 b n p G)) = G' at *
  have nb := (zn_f_b (N := G 323) (x := z_c8 (zt_l b n p)) (G 321 40).toNat).2.2.2 new
  refine ⟨?_, fun f a1 a2 => ?_, ?_, ?_, fun f c a1 a2 c1 c2 => ?_, fun f c a1 a2 c1 c2 => ?_⟩
  · unfold zg_z
    rw [f2 36 (by decide), f2 37 (by decide), f3, f2 17 (by decide), f2 20 (by decide), f2 41 (by decide), f2 39 (by decide)]
    refine ⟨z1, z2, by omega, z4, z5, fun j kx hj hk ej => ?_, fun f o' g1 g2 q1 q2 => ?_⟩
    · by_cases wj : (j : Int) = G 321 40
      · by_cases wk : (kx : Int) = G 321 40
        · omega
        · rw [wj, f5.1, (f4 kx wk).1] at ej
          exact absurd ej.symm (nb kx (by omega))
      · by_cases wk : (kx : Int) = G 321 40
        · rw [wk, f5.1, (f4 j wj).1] at ej
          exact absurd ej (nb j (by omega))
        · rw [(f4 j wj).1, (f4 kx wk).1] at ej
          exact z6 j kx (by omega) (by omega) ej
    · rw [f6]
      by_cases w0 : 6 * G 321 40 ≤ 6 * f + o' ∧ 6 * f + o' < 6 * G 321 40 + 6
      · rw [if_pos w0]
      · rw [if_neg w0]
        exact z7 f o' g1 (by omega) (by omega) q2
  · rw [f3] at a2 ⊢
    rw [f2 36 (by decide), f2 37 (by decide)]
    by_cases e : f = G 321 40
    · rw [e, f5.2.1, f5.2.2.1, f5.2.2.2.1, f5.2.2.2.2]
      refine ⟨s01, ⟨ix.2.1, ix.2.2.2⟩, r8, ⟨by decide, by decide⟩, fun o o1 o2 => ?_⟩
      rw [f6, if_pos (by omega)]
      decide
    · rw [(f4 f e).2.1, (f4 f e).2.2.1, (f4 f e).2.2.2.1, (f4 f e).2.2.2.2]
      obtain ⟨w1, w2, w3, w4, w5⟩ := y2 f a1 (by omega)
      refine ⟨w1, w2, w3, w4, fun o o1 o2 => ?_⟩
      rw [f6, if_neg (by omega)]
      by_cases e2 : o = G 321 40
      · rw [z7 f o a1 (by omega) (by omega) (by omega)]
        decide
      · exact w5 o o1 (by omega)
  · rw [f1 331 (by decide) (by decide) (by decide) (by decide) (by decide) (by decide) (by decide)]
    exact y3
  · rw [f2 38 (by decide), f2 42 (by decide), f2 43 (by decide), f2 44 (by decide), f2 45 (by decide)]
    exact y4
  · rw [f3] at a2 c2
    by_cases e : f = G 321 40
    · rw [e, f5.2.2.2.2]
      by_cases e2 : c = G 321 40
      · rw [e2, f5.2.2.2.2]
      · rw [(f4 c e2).2.2.2.2]
        exact ⟨fun w => absurd w (z_bt_0 ⟨by omega, by omega⟩), fun w => absurd w (y6 c _ c1 (by omega) (Int.le_refl _) (by omega))⟩
    · rw [(f4 f e).2.2.2.2]
      by_cases e2 : c = G 321 40
      · rw [e2, f5.2.2.2.2]
        exact ⟨fun w => absurd w (y6 f _ a1 (by omega) (Int.le_refl _) (by omega)), fun w => absurd w (z_bt_0 ⟨by omega, by omega⟩)⟩
      · rw [(f4 c e2).2.2.2.2]
        exact y5 f c a1 (by omega) c1 (by omega)
  · rw [f3] at a2 c1
    by_cases e : f = G 321 40
    · rw [e, f5.2.2.2.2]
      exact z_bt_0 ⟨by omega, by omega⟩
    · rw [(f4 f e).2.2.2.2]
      exact y6 f c a1 (by omega) (by omega) c2
/-- what a line leaves of the marks and of the formula -/
theorem y_keep (hk : kk ≠ 11) : (∀ j, ¬ (36 ≤ j ∧ j ≤ 45) → (zl_body b n kk p G).2 321 j = G 321 j) ∧ (zl_body b n kk p G).2 324 = G 324 ∧ (zl_body b n kk p G).2 325 = G 325 := by
  unfold zl_body
  repeat' split
  · unfold zb_gorge
    dsimp only
    exact ⟨fun j hj => by rw [z_upi (by omega) rfl, z_upi (by omega) rfl], by rw [z_upn (by decide), z_upn (by decide)], by rw [z_upn (by decide), z_upn (by decide)]⟩
  · dsimp only
    exact ⟨fun j hj => by rw [z_upi (by omega) rfl], by rw [z_upn (by decide)], by rw [z_upn (by decide)]⟩
  · unfold zb_grass
    dsimp only
    exact ⟨fun j hj => by rw [z_upi (by omega) rfl, z_upn (by decide)], by rw [z_upn (by decide), z_upn (by decide)], by rw [z_upn (by decide), z_upn (by decide)]⟩
  · obtain ⟨f1, f2, -⟩ := zb_fk_r (G := G) (w := z_c8 (zt_l b n p)) (s := zb_fs b n p G) (h := zs_v b n (zb_f5 b n p G) * G 321 36 + zs_v b n (zb_f4 b n p G)) (z := zs_v b n (zb_f7 b n p G))
    exact ⟨fun j hj => f2 j (by omega), f1 324 (by decide) (by decide) (by decide) (by decide) (by decide) (by decide) (by decide), f1 325 (by decide) (by decide) (by decide) (by decide) (by decide) (by decide) (by decide)⟩
  · unfold zb_wants
    dsimp only
    exact ⟨fun j hj => by rw [z_upn (by decide)], by rw [z_upn (by decide)], by rw [z_upn (by decide)]⟩
  · unfold zb_feud zb_fo
    dsimp only
    exact ⟨fun j hj => by rw [z_upi (by omega) rfl, z_upn (by decide), z_upn (by decide)], by rw [z_upn (by decide), z_upn (by decide), z_upn (by decide)], by rw [z_upn (by decide), z_upn (by decide), z_upn (by decide)]⟩
  · unfold zb_rain
    dsimp only
    exact ⟨fun j hj => by rw [z_upi (by omega) rfl, z_upi (by omega) rfl], by rw [z_upn (by decide), z_upn (by decide)], by rw [z_upn (by decide), z_upn (by decide)]⟩
  · dsimp only
    exact ⟨fun j hj => by rw [z_upi (by omega) rfl], by rw [z_upn (by decide)], by rw [z_upn (by decide)]⟩
  · dsimp only
    exact ⟨fun j hj => by rw [z_upi (by omega) rfl], by rw [z_upn (by decide)], by rw [z_upn (by decide)]⟩
theorem zs_ok_ge (h : 0 ≤ p ∧ p ≤ n) : zs_ge p n (.ok p) := fun q hq => by
  have : p = q := by injection hq
  omega
theorem zl_pos (hp : 0 ≤ p ∧ p ≤ n) (hk : kk ≠ 11) : zs_ge p n (zl_body b n kk p G).1 := by
  have h0 := hp.1
  have o := zs_ok_ge hp
  have two : zs_ge p n (zb_2 b n (.ok p) G) := zs_ge_od (zs_ge_nd (zs_ge_od o) h0)
  unfold zl_body
  repeat' split
  · exact zs_ge_nm (zs_ge_nd (zs_ge_nm o h0) h0) h0
  · exact zs_ge_nm o h0
  · exact zs_ge_nm (zs_ge_nm (zs_ge_ck (zs_ge_nm o h0)) h0) h0
  · refine zs_ge_nm (zs_ge_nd (zs_ge_nm (zs_ge_nm (zs_ge_nd (zs_ge_nd (zs_ge_nd ?_ h0) h0) h0) h0) h0) h0) h0
    intro q hq
    unfold zb_f1 at hq
    split at hq
    · split at hq
      · have : p = q := by injection hq
        omega
      · cases hq
    · cases hq
  · exact zs_ge_nm (zs_ge_nd (zs_ge_ck two) h0) h0
  · exact zs_ge_nd (zs_ge_ck two) h0
  · exact zs_ge_nm (zs_ge_nd (zs_ge_nm o h0) h0) h0
  · exact zs_ge_nm o h0
  · exact zs_ge_nm o h0
/-- a line keeps all sound, and goes on -/
theorem y_line (hp : 0 ≤ p ∧ p ≤ n) (h26 : zt_k b n p ≠ 26) (h : zy G) (hq : (zl b n p G).1 = .ok q) : zy (zl b n p G).2 ∧ p < q ∧ q ≤ n := by
  have hn := zf_nxt (b := b) (n := n) (p := p) hp h26
  by_cases hm : zl_may G (zt_k b n p)
  · have el : zl b n p G = (zs_nd b n 59 (zl_body b n (zt_k b n p) (zt_x b n p) (zl_on (zt_k b n p) G)).1, (zl_body b n (zt_k b n p) (zt_x b n p) (zl_on (zt_k b n p) G)).2) := by
      unfold zl
      exact if_pos hm
    rw [el] at hq ⊢
    dsimp only at hq ⊢
    have hk := zl_may_k hm
    generalize hkk : zt_k b n p = k at *
    obtain ⟨q1, hq1⟩ := zs_nd_k hq
    obtain ⟨y0, y1, y2, y3, y4⟩ := h
    obtain ⟨r1, r2, r3, r4⟩ := zl_on_r (kk := k) (G := G)
    have fl := zl_fl_r (kk := k)
    have z0 : zy_0 (zl_on k G) := zy_0_u (zy_0_u y0 (by omega)) (by omega)
    have rr : ∀ j, j < 53 → zl_on k G 321 j = G 321 j := fun j hj => r2 j (by omega) (by omega)
    have e39 := rr 39 (by decide)
    have e40 := rr 40 (by decide)
    have e41 := rr 41 (by decide)
    generalize hG1 : zl_on k G = G1 at *
    generalize hp1 : zt_x b n p = p1 at *
    by_cases k11 : k = 11
    · subst k11
      have eb : zl_body b n 11 p1 G1 = (zf b n 7).1 (.ok p1, G1) := rfl
      rw [eb] at hq hq1 ⊢
      have h55 : G 321 55 = 0 := zl_may_11.mp hm
      have f55 : G1 321 55 = 1 := r4
      obtain ⟨w17, w20⟩ := y3 h55
      have hy : zf_y n p1 G1 := ⟨by omega, by rw [rr 17 (by decide), rr 20 (by decide)]; omega, by rw [rr 17 (by decide), w17]; show (0 : Int) ≤ 0; decide, by rw [rr 17 (by decide), rr 20 (by decide), w17, w20]; show (0 : Int) ≤ 0; decide⟩
      have hx := (zf_all b n 7 (by decide)).1 _ _ hy q1 hq1
      obtain ⟨x1, x2, x3, x4, x5, x6, x7, x8⟩ := hx
      have g := zs_ge_nd (b := b) (kk := 59) (zs_ok_ge (p := q1) (n := n) ⟨by omega, x1.2⟩) (by omega)
      rw [hq1] at hq
      have gq := g q hq
      generalize hG2 : ((zf b n 7).1 (.ok p1, G1)).2 = G2 at *
      have rows : ∀ x, x ≠ 321 → x ≠ 324 → x ≠ 325 → G2 x = G1 x := x2
      have e17 : G1 321 17 = 0 := by rw [rr 17 (by decide)]; exact w17
      have e20 : G1 321 20 = 0 := by rw [rr 20 (by decide)]; exact w20
      refine ⟨⟨?_, ?_, ?_, ?_, ?_⟩, by omega, gq.2⟩
      · refine zy_0_q z0 ?_ (fun _ _ _ _ => trivial) (x3 40 (by decide) (by decide)) (x3 36 (by decide) (by decide)) (x3 37 (by decide) (by decide)) ⟨rows _ (by decide) (by decide) (by decide), rows _ (by decide) (by decide) (by decide), rows _ (by decide) (by decide) (by decide), rows _ (by decide) (by decide) (by decide), rows _ (by decide) (by decide) (by decide)⟩ ?_ ?_
        · obtain ⟨u1, u2, u3, u4, ⟨u5, u6, u7⟩, u8⟩ := z0.1
          unfold zg_z
          rw [x3 36 (by decide) (by decide), x3 37 (by decide) (by decide), x3 40 (by decide) (by decide), x3 41 (by decide) (by decide), x3 39 (by decide) (by decide), rows 323 (by decide) (by decide) (by decide), rows 335 (by decide) (by decide) (by decide)]
          exact ⟨u1, u2, u3, by omega, ⟨by omega, u6, u7⟩, u8⟩
        · rw [rows 331 (by decide) (by decide) (by decide)]
          exact z0.2.2.1
        · rw [x3 38 (by decide) (by decide), x3 42 (by decide) (by decide), x3 43 (by decide) (by decide), x3 44 (by decide) (by decide), x3 45 (by decide) (by decide)]
          exact z0.2.2.2.1
      · rw [x3 53 (by decide) (by decide), r3]
        exact fun w => absurd w (by decide)
      · rw [x3 55 (by decide) (by decide), f55]
        exact Or.inr rfl
      · rw [x3 55 (by decide) (by decide), f55]
        exact fun w => absurd w (by decide)
      · intro _
        refine ⟨by omega, by omega, ?_, fun k k1 => x8 k (by omega) k1⟩
        rw [x7, e17]
        show 1 ≤ (0 : Int) + 1
        decide
    · have pos := zl_pos (b := b) (n := n) (p := p1) (kk := k) (G := G1) ⟨by omega, hn.2⟩ k11
      have gq := zs_ge_nd (b := b) (kk := 59) pos (by omega) q hq
      obtain ⟨kp1, kp2, kp3⟩ := y_keep (b := b) (n := n) (p := p1) (kk := k) (G := G1) k11
      have f55 : G1 321 55 = G 321 55 := r2 55 (by decide) (fun w => k11 (by
        unfold zl_fl at w
        repeat' split at w
        all_goals omega))
      refine ⟨⟨?_, ?_, ?_, ?_, ?_⟩, by omega, gq.2⟩
      · clear kp1 kp2 kp3 gq pos hq el
        revert hq1
        unfold zl_body
        repeat' split
        all_goals (intro hq1)
        · exact y_gorge z0 (by rw [e40]; exact y1 (zl_may_0.mp (by rename_i c; rw [← c]; exact hm))) hq1
        · exact zy_0_u z0 (Or.inl ⟨rfl, (zs_nm_k hq1).2⟩)
        · exact y_grass z0 (by rename_i c; rw [c] at hm; have := zl_may_3.mp hm; omega) hq1
        · exact y_flock z0 (by rename_i c; rw [c] at hm; have := zl_may_4.mp hm; omega) hq1
        · exact y_wants z0 hq1
        · exact y_feud z0 (by rename_i c; rw [c] at hm; have := zl_may_10.mp hm; omega) hq1
        · exact y_rain z0 hq1
        · exact zy_0_u z0 (Or.inr (Or.inr (Or.inr (Or.inl ⟨rfl, (zs_nm_k hq1).2⟩))))
        · exact zy_0_u z0 (Or.inr (Or.inr (Or.inr (Or.inr (Or.inl ⟨rfl, (zs_nm_k hq1).2⟩)))))
      · rw [kp1 53 (by decide), r3]
        exact fun w => absurd w (by decide)
      · rw [kp1 55 (by decide), f55]
        exact y2
      · rw [kp1 55 (by decide), f55, kp1 17 (by decide), kp1 20 (by decide), rr 17 (by decide), rr 20 (by decide)]
        exact y3
      · rw [kp1 55 (by decide), f55, kp1 17 (by decide), rr 17 (by decide), kp2, kp3, r1 324 (by decide), r1 325 (by decide)]
        exact y4
  · have el : zl b n p G = (.error (zs_f b n p 2), G) := by
      unfold zl
      exact if_neg hm
    rw [el] at hq
    cases hq
end
