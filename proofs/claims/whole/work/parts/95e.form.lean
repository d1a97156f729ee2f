/-! THE FORMULA: what a text of it says -/
abbrev zf_S : Type := zs_S × z_M
def zf_lv (k : Int) : Int := if k = 16 then 0 else if k = 17 then 1 else if k = 60 ∨ k = 61 ∨ k = 62 then 2 else if k = 43 ∨ k = 45 then 3 else if k = 42 ∨ k = 47 ∨ k = 37 then 4 else -1
def zf_sg (k : Int) : Int := if k = 16 then 124 else if k = 17 then 38 else k
def zf_ak (k : Int) : Int := if k = 3 then 0 else k - 18
def zf_add (so ar : Int) (G : z_M) : z_M := if G 321 17 < 270 then z_up (z_up (z_up G 324 (G 321 17) so) 325 (G 321 17) ar) 321 17 (G 321 17 + 1) else G
def zf_ad (so ar : Int) (s : zf_S) : zf_S := (s.1, zf_add so ar s.2)
noncomputable def zf_lp (b : Int → Int) (n lv : Int) (f : zf_S → zf_S) : Nat → zf_S → zf_S
  | 0, s => s
  | _ + 1, (.error e, G) => (.error e, G)
  | i + 1, (.ok p, G) => if zf_lv (zt_k b n p) = lv then zf_lp b n lv f i (zf_ad 3 (zf_sg (zt_k b n p)) (f (.ok (zt_x b n p), G))) else (.ok p, G)
noncomputable def zf_bin (b : Int → Int) (n lv : Int) (f : zf_S → zf_S) (s : zf_S) : zf_S := zf_lp b n lv f 1600 (f s)
noncomputable def zf_r1 (b : Int → Int) (n : Int) (f : zf_S → zf_S) : zf_S → zf_S
  | (.error e, G) => (.error e, G)
  | (.ok p, G) => if zf_lv (zt_k b n p) = 2 then zf_ad 3 (zf_sg (zt_k b n p)) (f (.ok (zt_x b n p), G)) else (.ok p, G)
noncomputable def zf_nt (b : Int → Int) (n p : Int) (G : z_M) (N : Option (zf_S → zf_S)) : zf_S := match N with
  | none => (.error (zs_f b n p 2), G)
  | some N => zf_ad 2 0 (N (.ok (zt_x b n p), G))
noncomputable def zf_one (b : Int → Int) (n : Int) (N : Option (zf_S → zf_S)) (f : zf_S → zf_S) : zf_S → zf_S
  | (.error e, G) => (.error e, G)
  | (.ok p, G) => if zt_k b n p = 18 then zf_nt b n p G N else zf_r1 b n f (f (.ok p, G))
noncomputable def zf_cl (b : Int → Int) (n : Int) : zf_S → zf_S
  | (.error e, G) => (.error e, G)
  | (.ok p, G) => if zt_k b n p = 41 then (.ok (zt_x b n p), G) else (.error (zs_f b n p 2), G)
def zf_un (G : z_M) : z_M := z_up G 321 20 (G 321 20 + 1)
noncomputable def zf_br (b : Int → Int) (n p : Int) (G : z_M) (F : Option (zf_S → zf_S)) : zf_S := match F with
  | none => (.error (zs_f b n p 2), G)
  | some F => zf_cl b n (F (.ok (zt_x b n p), zf_un G))
noncomputable def zf_uni (b : Int → Int) (n : Int) (F : Option (zf_S → zf_S)) : zf_S → zf_S
  | (.error e, G) => (.error e, G)
  | (.ok p, G) => if 30 ≤ G 321 20 then (.error (zs_f b n p 2), G)
    else if zt_k b n p = 40 then zf_br b n p G F
    else if zt_k b n p = 25 then (.ok (zt_x b n p), zf_add 0 (zt_v b n p) (zf_un G))
    else if zt_k b n p = 3 ∨ (19 ≤ zt_k b n p ∧ zt_k b n p ≤ 23) then (.ok (zt_x b n p), zf_add 1 (zf_ak (zt_k b n p)) (zf_un G))
    else (.error (zs_f b n p 2), G)
noncomputable def zf_tm (b : Int → Int) (n : Int) (F : Option (zf_S → zf_S)) : zf_S → zf_S := zf_bin b n 3 (zf_bin b n 4 (zf_uni b n F))
noncomputable def zf_o (b : Int → Int) (n : Int) (F N : Option (zf_S → zf_S)) : zf_S → zf_S := zf_one b n N (zf_tm b n F)
noncomputable def zf_f (b : Int → Int) (n : Int) (F N : Option (zf_S → zf_S)) : zf_S → zf_S := zf_bin b n 0 (zf_bin b n 1 (zf_o b n F N))
noncomputable def zf (b : Int → Int) (n : Int) : Nat → (zf_S → zf_S) × (zf_S → zf_S)
  | 0 => (zf_f b n none none, zf_o b n none none)
  | r + 1 => (zf_f b n (some (zf b n r).1) (some (zf b n r).2), zf_o b n (some (zf b n r).1) (some (zf b n r).2))
section
variable {b : Int → Int} {n p lv : Int} {G : z_M} {f : zf_S → zf_S} {F N : Option (zf_S → zf_S)} {i : Nat}
theorem zf_lp_o : zf_lp b n lv f (i + 1) (.ok p, G) = if zf_lv (zt_k b n p) = lv then zf_lp b n lv f i (zf_ad 3 (zf_sg (zt_k b n p)) (f (.ok (zt_x b n p), G))) else (.ok p, G) := rfl
theorem zf_r1_o : zf_r1 b n f (.ok p, G) = if zf_lv (zt_k b n p) = 2 then zf_ad 3 (zf_sg (zt_k b n p)) (f (.ok (zt_x b n p), G)) else (.ok p, G) := rfl
theorem zf_one_o : zf_one b n N f (.ok p, G) = if zt_k b n p = 18 then zf_nt b n p G N else zf_r1 b n f (f (.ok p, G)) := rfl
theorem zf_cl_o : zf_cl b n (.ok p, G) = if zt_k b n p = 41 then (.ok (zt_x b n p), G) else (.error (zs_f b n p 2), G) := rfl
theorem zf_uni_o : zf_uni b n F (.ok p, G) = if 30 ≤ G 321 20 then (.error (zs_f b n p 2), G)
    else if zt_k b n p = 40 then zf_br b n p G F
    else if zt_k b n p = 25 then (.ok (zt_x b n p), zf_add 0 (zt_v b n p) (zf_un G))
    else if zt_k b n p = 3 ∨ (19 ≤ zt_k b n p ∧ zt_k b n p ≤ 23) then (.ok (zt_x b n p), zf_add 1 (zf_ak (zt_k b n p)) (zf_un G))
    else (.error (zs_f b n p 2), G) := rfl
end
/-- what a part of a formula leaves, if it is sound -/
def zf_x (a n p : Int) (G : z_M) (s : zf_S) : Prop := ∀ p', s.1 = .ok p' → (p < p' ∧ p' ≤ n) ∧ (∀ q, q ≠ 321 → q ≠ 324 → q ≠ 325 → s.2 q = G q) ∧ (∀ j, j ≠ 17 → j ≠ 20 → s.2 321 j = G 321 j) ∧ (∀ k, k < G 321 17 → s.2 324 k = G 324 k ∧ s.2 325 k = G 325 k) ∧ (G 321 20 < s.2 321 20 ∧ s.2 321 20 ≤ 30) ∧ (G 321 17 < s.2 321 17 ∧ s.2 321 17 + 8 ≤ G 321 17 + 9 * (s.2 321 20 - G 321 20) + a) ∧ z_ht (s.2 324) (s.2 321 17).toNat = z_ht (G 324) (G 321 17).toNat + 1 ∧ ∀ k : Nat, G 321 17 ≤ k → (k : Int) < s.2 321 17 → z_fw (s.2 324) (s.2 325) k
def zf_y (n p : Int) (G : z_M) : Prop := (0 ≤ p ∧ p ≤ n) ∧ (0 ≤ G 321 17 ∧ 0 ≤ G 321 20 ∧ G 321 17 ≤ 9 * G 321 20) ∧ 0 ≤ z_ht (G 324) (G 321 17).toNat ∧ z_ht (G 324) (G 321 17).toNat ≤ G 321 20
def zf_ex (a n : Int) (f : zf_S → zf_S) : Prop := ∀ p G, zf_y n p G → zf_x a n p G (f (.ok p, G))
theorem zf_b0 {p : Prop} : z_b p = 0 ↔ ¬ p := ⟨fun h c => by rw [z_b_t c] at h; omega, z_b_f⟩
theorem zf_ht {f g : Int → Int} : ∀ k : Nat, (∀ j : Int, j < k → f j = g j) → z_ht f k = z_ht g k
  | 0, _ => rfl
  | k + 1, h => by
    unfold z_ht
    rw [zf_ht k (fun j hj => h j (by omega)), h k (by omega)]
theorem zf_fw {f g a c : Int → Int} {k : Nat} (h : ∀ j : Int, j ≤ k → f j = g j ∧ a j = c j) (w : z_fw f a k) : z_fw g c k := by
  unfold z_fw at w ⊢
  rw [← zf_ht k (fun j hj => (h j (by omega)).1), ← (h k (by omega)).1, ← (h k (by omega)).2]
  exact w
section
variable {b : Int → Int} {n p p1 a lv : Int} {G G1 : z_M} {f : zf_S → zf_S} {s : zf_S}
theorem zf_add_r {so ar : Int} (h : G 321 17 < 270) : (∀ q, q ≠ 321 → q ≠ 324 → q ≠ 325 → zf_add so ar G q = G q) ∧ (∀ j, j ≠ 17 → zf_add so ar G 321 j = G 321 j) ∧ zf_add so ar G 321 17 = G 321 17 + 1 ∧ (∀ k, k ≠ G 321 17 → zf_add so ar G 324 k = G 324 k ∧ zf_add so ar G 325 k = G 325 k) ∧ zf_add so ar G 324 (G 321 17) = so ∧ zf_add so ar G 325 (G 321 17) = ar := by
  unfold zf_add
  rw [if_pos h]
  refine ⟨fun q h1 h2 h3 => by rw [z_upn h1, z_upn h3, z_upn h2], fun j hj => by rw [z_upi hj rfl, z_upn (by decide), z_upn (by decide)], z_ups, fun k hk => ⟨by rw [z_upn (by decide), z_upn (by decide), z_upi hk rfl], by rw [z_upn (by decide), z_upi hk rfl, z_upn (by decide)]⟩, by rw [z_upn (by decide), z_upn (by decide), z_ups], by rw [z_upn (by decide), z_ups]⟩
/-- a step more: its kind makes the height what it is -/
theorem zf_add_x {so ar e : Int} (h : 0 ≤ G 321 17 ∧ G 321 17 < 270) (he : (if so = 0 ∨ so = 1 then (1 : Int) else if so = 2 then 0 else -1) = e) : z_ht (zf_add so ar G 324) (zf_add so ar G 321 17).toNat = z_ht (G 324) (G 321 17).toNat + e ∧ (∀ k : Nat, (k : Int) < G 321 17 → z_fw (G 324) (G 325) k → z_fw (zf_add so ar G 324) (zf_add so ar G 325) k) ∧ (z_fw (zf_add so ar G 324) (zf_add so ar G 325) (G 321 17).toNat ↔ 0 ≤ z_ht (G 324) (G 321 17).toNat ∧ z_ht (G 324) (G 321 17).toNat ≤ 31 ∧ ((so = 0 ∧ 0 ≤ ar) ∨ (so = 1 ∧ 0 ≤ ar ∧ ar < 6) ∨ (so = 2 ∧ 1 ≤ z_ht (G 324) (G 321 17).toNat) ∨ (so = 3 ∧ 2 ≤ z_ht (G 324) (G 321 17).toNat))) := by
  obtain ⟨r1, r2, r3, r4, r5, r6⟩ := zf_add_r (so := so) (ar := ar) h.2
  obtain ⟨m, hm⟩ : ∃ m : Nat, G 321 17 = (m : Int) := ⟨(G 321 17).toNat, by omega⟩
  rw [hm] at r3 r4 r5 r6
  have e1 : (zf_add so ar G 321 17).toNat = m + 1 := by omega
  have e2 : (G 321 17).toNat = m := by omega
  have e3 : z_ht (zf_add so ar G 324) m = z_ht (G 324) m := zf_ht m (fun j hj => (r4 j (by omega)).1)
  refine ⟨?_, fun k hk w => zf_fw (fun j hj => ⟨((r4 j (by omega)).1).symm, ((r4 j (by omega)).2).symm⟩) w, ?_⟩
  · rw [e1, e2, z_ht, e3, r5, he]
  · rw [e2]
    unfold z_fw
    rw [e3, r5, r6]
theorem zf_x_y (ha : a ≤ 8) (hy : zf_y n p G) (h : zf_x a n p G s) {p1 p2 : Int} (hs : s.1 = .ok p1) (h2 : p1 ≤ p2 ∧ p2 ≤ n) : zf_y n p2 s.2 := by
  obtain ⟨x1, x2, x3, x4, x5, x6, x7, x8⟩ := h p1 hs
  obtain ⟨y1, y2, y3⟩ := hy
  exact ⟨by omega, by omega, by omega, by omega⟩
/-- two parts and the sign between them -/
theorem zf_x_two {ar p2 : Int} {s2 : zf_S} (ha : 0 ≤ a ∧ a ≤ 7) (hy : zf_y n p G) (h : zf_x a n p G (.ok p1, G1)) (hp : p1 < p2 ∧ p2 ≤ n) (h2 : zf_x a n p2 G1 s2) : zf_x a n p G (zf_ad 3 ar s2) := by
  intro p' e
  obtain ⟨x1, x2, x3, x4, x5, x6, x7, x8⟩ := h p1 rfl
  obtain ⟨w1, w2, w3, w4, w5, w6, w7, w8⟩ := h2 p' e
  obtain ⟨y1, y2, y3⟩ := hy
  dsimp only at x1 x2 x3 x4 x5 x6 x7 x8
  have hl : 0 ≤ s2.2 321 17 ∧ s2.2 321 17 < 270 := by omega
  obtain ⟨r1, r2, r3, r4, r5, r6⟩ := zf_add_r (so := 3) (ar := ar) hl.2
  obtain ⟨t1, t2, t3⟩ := zf_add_x (so := 3) (ar := ar) (e := -1) hl (by decide)
  show (p < p' ∧ p' ≤ n) ∧ (∀ q, q ≠ 321 → q ≠ 324 → q ≠ 325 → zf_add 3 ar s2.2 q = G q) ∧ (∀ j, j ≠ 17 → j ≠ 20 → zf_add 3 ar s2.2 321 j = G 321 j) ∧ (∀ k, k < G 321 17 → zf_add 3 ar s2.2 324 k = G 324 k ∧ zf_add 3 ar s2.2 325 k = G 325 k) ∧ (G 321 20 < zf_add 3 ar s2.2 321 20 ∧ zf_add 3 ar s2.2 321 20 ≤ 30) ∧ (G 321 17 < zf_add 3 ar s2.2 321 17 ∧ zf_add 3 ar s2.2 321 17 + 8 ≤ G 321 17 + 9 * (zf_add 3 ar s2.2 321 20 - G 321 20) + a) ∧ z_ht (zf_add 3 ar s2.2 324) (zf_add 3 ar s2.2 321 17).toNat = z_ht (G 324) (G 321 17).toNat + 1 ∧ ∀ k : Nat, G 321 17 ≤ k → (k : Int) < zf_add 3 ar s2.2 321 17 → z_fw (zf_add 3 ar s2.2 324) (zf_add 3 ar s2.2 325) k
  rw [r2 20 (by decide), t1, r3]
  refine ⟨by omega, fun q a1 a2 a3 => by rw [r1 q a1 a2 a3, w2 q a1 a2 a3, x2 q a1 a2 a3], fun j a1 a2 => by rw [r2 j a1, w3 j a1 a2, x3 j a1 a2], fun k hk => ?_, by omega, by omega, by omega, fun k k1 k2 => ?_⟩
  · rw [(r4 k (by omega)).1, (r4 k (by omega)).2, (w4 k (by omega)).1, (w4 k (by omega)).2]
    exact x4 k hk
  · by_cases c1 : (k : Int) < G1 321 17
    · refine t2 k (by omega) (zf_fw (fun j hj => ?_) (x8 k k1 c1))
      have := w4 j (by omega)
      exact ⟨this.1.symm, this.2.symm⟩
    · by_cases c2 : (k : Int) < s2.2 321 17
      · exact t2 k c2 (w8 k (by omega) c2)
      · have ek : k = (s2.2 321 17).toNat := by omega
        rw [ek]
        exact t3.mpr ⟨by omega, by omega, Or.inr (Or.inr (Or.inr ⟨rfl, by omega⟩))⟩
theorem zf_lv_26 {k : Int} (h : zf_lv k = lv) (hl : lv ≠ -1) : k ≠ 26 := by
  intro e
  rw [e] at h
  exact hl (h.symm.trans (by decide))
theorem zf_nxt (hp : 0 ≤ p ∧ p ≤ n) (h : zt_k b n p ≠ 26) : p < zt_x b n p ∧ zt_x b n p ≤ n := by
  have h1 := zt_x_b (b := b) hp
  have h2 := zt_s_b (b := b) hp
  have h3 := h1.2 h
  omega
theorem zf_lp_x (ha : 0 ≤ a ∧ a ≤ 7) (hl : lv ≠ -1) (hf : zf_ex a n f) (hy : zf_y n p G) : ∀ (i : Nat) (s : zf_S), zf_x a n p G s → zf_x a n p G (zf_lp b n lv f i s)
  | 0, _, h => h
  | _ + 1, (.error e, G1), h => h
  | i + 1, (.ok p1, G1), h => by
    unfold zf_lp
    by_cases c : zf_lv (zt_k b n p1) = lv
    · rw [if_pos c]
      have h1 := (h p1 rfl).1
      have hn := zf_nxt (b := b) (n := n) (p := p1) ⟨by have := hy.1; omega, h1.2⟩ (zf_lv_26 c hl)
      exact zf_lp_x ha hl hf hy i _ (zf_x_two ha hy h hn (hf _ _ (zf_x_y (s := (.ok p1, G1)) (by omega) hy h rfl ⟨by omega, hn.2⟩)))
    · rw [if_neg c]
      exact h
theorem zf_bin_x (ha : 0 ≤ a ∧ a ≤ 7) (hl : lv ≠ -1) (hf : zf_ex a n f) : zf_ex a n (zf_bin b n lv f) := fun p G hy => zf_lp_x ha hl hf hy 1600 _ (hf p G hy)
/-- where a row of signs ends, none of them stands -/
theorem zf_lp_e (hl : lv ≠ -1) (ha : 0 ≤ a ∧ a ≤ 7) (hf : zf_ex a n f) (hy : zf_y n p G) : ∀ (i : Nat) (s : zf_S), zf_x a n p G s → (∀ q, s.1 = .ok q → n ≤ q + i) → ∀ p', (zf_lp b n lv f i s).1 = .ok p' → zf_lv (zt_k b n p') ≠ lv
  | 0, s, _, hi, p', e => by
    have h1 := hi p' e
    have : zt_k b n p' = 26 := by
      have := z_nd_b (ok := z_isb) (b := b) (n := n) (p := p')
      unfold zt_k zt_s
      rw [if_pos (by omega)]
    rw [this]
    exact fun w => hl (w.symm.trans (by decide))
  | _ + 1, (.error e, G1), _, _, p', w => by cases w
  | i + 1, (.ok p1, G1), h, hi, p', e => by
    unfold zf_lp at e
    by_cases c : zf_lv (zt_k b n p1) = lv
    · rw [if_pos c] at e
      have h1 := (h p1 rfl).1
      have hn := zf_nxt (b := b) (n := n) (p := p1) ⟨by have := hy.1; omega, h1.2⟩ (zf_lv_26 c hl)
      have hx := hf _ _ (zf_x_y (s := (.ok p1, G1)) (by omega) hy h rfl ⟨Int.le_of_lt hn.1, hn.2⟩)
      refine zf_lp_e hl ha hf hy i _ (zf_x_two (ar := zf_sg (zt_k b n p1)) ha hy h hn hx) (fun q hq => ?_) p' e
      have h3 := (hx q hq).1
      have h4 := hi p1 rfl
      omega
    · rw [if_neg c] at e
      injection e with e
      rw [← e]
      exact c
theorem zf_un_r : (∀ q, q ≠ 321 → zf_un G q = G q) ∧ (∀ j, j ≠ 20 → zf_un G 321 j = G 321 j) ∧ zf_un G 321 20 = G 321 20 + 1 := ⟨fun q h => z_upn h, fun j h => z_upi h rfl, z_ups⟩
/-- a unit alone -/
theorem zf_x_u {so ar p2 : Int} (hy : zf_y n p G) (hu : ¬ 30 ≤ G 321 20) (hp : p < p2 ∧ p2 ≤ n) (hs : (so = 0 ∧ 0 ≤ ar) ∨ (so = 1 ∧ 0 ≤ ar ∧ ar < 6)) : zf_x 0 n p G (.ok p2, zf_add so ar (zf_un G)) := by
  intro p' e
  obtain rfl : p2 = p' := by injection e
  obtain ⟨y1, y2, y3⟩ := hy
  obtain ⟨u1, u2, u3⟩ := zf_un_r (G := G)
  have e17 : zf_un G 321 17 = G 321 17 := u2 17 (by decide)
  have e24 : zf_un G 324 = G 324 := u1 324 (by decide)
  have e25 : zf_un G 325 = G 325 := u1 325 (by decide)
  have hl : 0 ≤ zf_un G 321 17 ∧ zf_un G 321 17 < 270 := by omega
  obtain ⟨r1, r2, r3, r4, r5, r6⟩ := zf_add_r (so := so) (ar := ar) hl.2
  obtain ⟨t1, t2, t3⟩ := zf_add_x (so := so) (ar := ar) (e := 1) hl (by rcases hs with h | h <;> rw [h.1] <;> decide)
  rw [e17, e24] at t1 t3
  rw [e17] at r3 r4 t2
  dsimp only
  rw [r2 20 (by decide), t1, r3, u3]
  refine ⟨hp, fun q a1 a2 a3 => by rw [r1 q a1 a2 a3, u1 q a1], fun j a1 a2 => by rw [r2 j a1, u2 j a2], fun k hk => ?_, by omega, by omega, rfl, fun k k1 k2 => ?_⟩
  · rw [(r4 k (by omega)).1, (r4 k (by omega)).2, e24, e25]
    exact ⟨rfl, rfl⟩
  · have ek : k = (G 321 17).toNat := by omega
    rw [ek]
    refine t3.mpr ⟨by omega, by omega, ?_⟩
    rcases hs with h | h
    · exact Or.inl h
    · exact Or.inr (Or.inl h)
theorem zf_uni_x {F : Option (zf_S → zf_S)} (hF : ∀ f, F = some f → zf_ex 7 n f) : zf_ex 0 n (zf_uni b n F) := by
  intro p G hy
  rw [zf_uni_o]
  by_cases c1 : 30 ≤ G 321 20
  · rw [if_pos c1]
    exact fun p' e => by cases e
  · rw [if_neg c1]
    by_cases c2 : zt_k b n p = 40
    · rw [if_pos c2]
      cases F with
      | none => exact fun p' e => by cases e
      | some F =>
        have hn := zf_nxt (b := b) (n := n) (p := p) hy.1 (by omega)
        obtain ⟨u1, u2, u3⟩ := zf_un_r (G := G)
        have e17 : zf_un G 321 17 = G 321 17 := u2 17 (by decide)
        have e24 : zf_un G 324 = G 324 := u1 324 (by decide)
        have e25 : zf_un G 325 = G 325 := u1 325 (by decide)
        obtain ⟨y1, y2, y3⟩ := hy
        have h := hF F rfl (zt_x b n p) (zf_un G) ⟨by omega, by rw [e17, u3]; omega, by rw [e17, e24]; exact y3.1, by rw [e17, e24, u3]; omega⟩
        intro p' e
        change (zf_cl b n (F (.ok (zt_x b n p), zf_un G))).1 = .ok p' at e
        show (p < p' ∧ p' ≤ n) ∧ _
        cases hs : F (.ok (zt_x b n p), zf_un G) with
        | mk σ G1 =>
          rw [hs] at e h
          cases σ with
          | error e1 => cases e
          | ok p1 =>
            unfold zf_br
            dsimp only
            rw [hs]
            rw [zf_cl_o] at e ⊢
            by_cases c3 : zt_k b n p1 = 41
            · rw [if_pos c3] at e ⊢
              obtain rfl : zt_x b n p1 = p' := by injection e
              obtain ⟨x1, x2, x3, x4, x5, x6, x7, x8⟩ := h p1 rfl
              have hn1 := zf_nxt (b := b) (n := n) (p := p1) ⟨by omega, x1.2⟩ (by omega)
              rw [e17] at x4 x6 x7 x8
              rw [e24] at x4 x7
              rw [e25] at x4
              rw [u3] at x5 x6
              dsimp only at x1 x2 x3 x4 x5 x6 x7 x8 ⊢
              exact ⟨by omega, fun q a1 a2 a3 => by rw [x2 q a1 a2 a3, u1 q a1], fun j a1 a2 => by rw [x3 j a1 a2, u2 j a2], x4, by omega, by omega, x7, x8⟩
            · rw [if_neg c3] at e
              cases e
    · rw [if_neg c2]
      by_cases c3 : zt_k b n p = 25
      · rw [if_pos c3]
        have hn := zf_nxt (b := b) (n := n) (p := p) hy.1 (by omega)
        have hv := zt_k_n c3 hy.1
        exact zf_x_u hy c1 hn (Or.inl ⟨rfl, hv.1⟩)
      · rw [if_neg c3]
        by_cases c4 : zt_k b n p = 3 ∨ (19 ≤ zt_k b n p ∧ zt_k b n p ≤ 23)
        · rw [if_pos c4]
          have hn := zf_nxt (b := b) (n := n) (p := p) hy.1 (by omega)
          refine zf_x_u hy c1 hn (Or.inr ⟨rfl, ?_⟩)
          unfold zf_ak
          split <;> omega
        · rw [if_neg c4]
          exact fun p' e => by cases e
theorem zf_x_le {a' : Int} (h : zf_x a n p G s) (ha : a ≤ a') : zf_x a' n p G s := by
  intro p' e
  obtain ⟨x1, x2, x3, x4, x5, x6, x7, x8⟩ := h p' e
  exact ⟨x1, x2, x3, x4, x5, by omega, x7, x8⟩
theorem zf_r1_x (hf : zf_ex 0 n f) (hy : zf_y n p G) {s : zf_S} (h : zf_x 0 n p G s) : zf_x 0 n p G (zf_r1 b n f s) := by
  obtain ⟨σ, G1⟩ := s
  cases σ with
  | error e => exact fun p' w => by cases w
  | ok p1 =>
    rw [zf_r1_o]
    by_cases c : zf_lv (zt_k b n p1) = 2
    · rw [if_pos c]
      have h1 := (h p1 rfl).1
      have hn := zf_nxt (b := b) (n := n) (p := p1) ⟨by have := hy.1; omega, h1.2⟩ (zf_lv_26 c (by decide))
      exact zf_x_two ⟨Int.le_refl _, by decide⟩ hy h hn (hf _ _ (zf_x_y (s := (.ok p1, G1)) (by decide) hy h rfl ⟨Int.le_of_lt hn.1, hn.2⟩))
    · rw [if_neg c]
      exact h
theorem zf_x_not {p2 : Int} {s2 : zf_S} (ha : 0 ≤ a ∧ a ≤ 6) (hy : zf_y n p G) (hp : p < p2 ∧ p2 ≤ n) (h2 : zf_x a n p2 G s2) : zf_x (a + 1) n p G (zf_ad 2 0 s2) := by
  intro p' e
  obtain ⟨w1, w2, w3, w4, w5, w6, w7, w8⟩ := h2 p' e
  obtain ⟨y1, y2, y3⟩ := hy
  have hl : 0 ≤ s2.2 321 17 ∧ s2.2 321 17 < 270 := by omega
  obtain ⟨r1, r2, r3, r4, r5, r6⟩ := zf_add_r (so := 2) (ar := 0) hl.2
  obtain ⟨t1, t2, t3⟩ := zf_add_x (so := 2) (ar := 0) (e := 0) hl (by decide)
  show (p < p' ∧ p' ≤ n) ∧ (∀ q, q ≠ 321 → q ≠ 324 → q ≠ 325 → zf_add 2 0 s2.2 q = G q) ∧ (∀ j, j ≠ 17 → j ≠ 20 → zf_add 2 0 s2.2 321 j = G 321 j) ∧ (∀ k, k < G 321 17 → zf_add 2 0 s2.2 324 k = G 324 k ∧ zf_add 2 0 s2.2 325 k = G 325 k) ∧ (G 321 20 < zf_add 2 0 s2.2 321 20 ∧ zf_add 2 0 s2.2 321 20 ≤ 30) ∧ (G 321 17 < zf_add 2 0 s2.2 321 17 ∧ zf_add 2 0 s2.2 321 17 + 8 ≤ G 321 17 + 9 * (zf_add 2 0 s2.2 321 20 - G 321 20) + (a + 1)) ∧ z_ht (zf_add 2 0 s2.2 324) (zf_add 2 0 s2.2 321 17).toNat = z_ht (G 324) (G 321 17).toNat + 1 ∧ ∀ k : Nat, G 321 17 ≤ k → (k : Int) < zf_add 2 0 s2.2 321 17 → z_fw (zf_add 2 0 s2.2 324) (zf_add 2 0 s2.2 325) k
  rw [r2 20 (by decide), t1, r3]
  refine ⟨by omega, fun q a1 a2 a3 => by rw [r1 q a1 a2 a3, w2 q a1 a2 a3], fun j a1 a2 => by rw [r2 j a1, w3 j a1 a2], fun k hk => ?_, by omega, by omega, by omega, fun k k1 k2 => ?_⟩
  · rw [(r4 k (by omega)).1, (r4 k (by omega)).2]
    exact w4 k hk
  · by_cases c2 : (k : Int) < s2.2 321 17
    · exact t2 k c2 (w8 k (by omega) c2)
    · have ek : k = (s2.2 321 17).toNat := by omega
      rw [ek]
      exact t3.mpr ⟨by omega, by omega, Or.inr (Or.inr (Or.inl ⟨rfl, by omega⟩))⟩
theorem zf_one_x {N : Option (zf_S → zf_S)} (ha : 0 ≤ a ∧ a ≤ 6) (hN : ∀ g, N = some g → zf_ex a n g) (hf : zf_ex 0 n f) : zf_ex (a + 1) n (zf_one b n N f) := by
  intro p G hy
  rw [zf_one_o]
  by_cases c : zt_k b n p = 18
  · rw [if_pos c]
    cases N with
    | none => exact fun p' e => by cases e
    | some g =>
      have hn := zf_nxt (b := b) (n := n) (p := p) hy.1 (by omega)
      obtain ⟨y1, y2, y3⟩ := hy
      exact zf_x_not ha ⟨y1, y2, y3⟩ hn (hN g rfl _ _ ⟨by omega, y2, y3⟩)
  · rw [if_neg c]
    exact zf_x_le (zf_r1_x hf hy (hf p G hy)) (by omega)
theorem zf_one_x0 (hf : zf_ex 0 n f) : zf_ex 0 n (zf_one b n none f) := by
  intro p G hy
  rw [zf_one_o]
  by_cases c : zt_k b n p = 18
  · rw [if_pos c]
    exact fun p' e => by cases e
  · rw [if_neg c]
    exact zf_r1_x hf hy (hf p G hy)
theorem zf_ex_le {a' : Int} (h : zf_ex a n f) (ha : a ≤ a') : zf_ex a' n f := fun p G hy => zf_x_le (h p G hy) ha
theorem zf_tm_x {F : Option (zf_S → zf_S)} (hF : ∀ f, F = some f → zf_ex 7 n f) : zf_ex 0 n (zf_tm b n F) := zf_bin_x ⟨Int.le_refl _, by decide⟩ (by decide) (zf_bin_x ⟨Int.le_refl _, by decide⟩ (by decide) (zf_uni_x hF))
end
/-- at depth 7 - r -/
theorem zf_all (b : Int → Int) (n : Int) : ∀ r : Nat, r ≤ 7 → zf_ex r n (zf b n r).1 ∧ zf_ex r n (zf b n r).2
  | 0, _ => by
    have h := zf_one_x0 (b := b) (zf_tm_x (b := b) (n := n) (F := none) (fun g w => by cases w))
    exact ⟨zf_bin_x (by omega) (by decide) (zf_bin_x (by omega) (by decide) h), h⟩
  | r + 1, hr => by
    obtain ⟨i1, i2⟩ := zf_all b n r (by omega)
    have h := zf_one_x (b := b) (a := r) (N := some (zf b n r).2) (by omega) (fun g w => by injection w with w; rw [← w]; exact i2) (zf_tm_x (b := b) (n := n) (F := some (zf b n r).1) (fun g w => by injection w with w; rw [← w]; exact zf_ex_le i1 (by omega)))
    have e : (((r + 1 : Nat) : Int)) = (r : Int) + 1 := by omega
    rw [e]
    exact ⟨zf_bin_x (by omega) (by decide) (zf_bin_x (by omega) (by decide) h), h⟩
