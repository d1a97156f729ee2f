/-! sets and counts -/
def z_bc (a1 : Int) : Int := (z_and (z_w ((z_w ((z_and (z_w ((z_w ((z_and (z_w (a1 - (z_and (z_ushr a1 1) 1431655765))) 858993459) + (z_and (z_ushr (z_w (a1 - (z_and (z_ushr a1 1) 1431655765))) 2) 858993459))) + (z_ushr (z_w ((z_and (z_w (a1 - (z_and (z_ushr a1 1) 1431655765))) 858993459) + (z_and (z_ushr (z_w (a1 - (z_and (z_ushr a1 1) 1431655765))) 2) 858993459))) 4))) 252645135) + (z_ushr (z_and (z_w ((z_w ((z_and (z_w (a1 - (z_and (z_ushr a1 1) 1431655765))) 858993459) + (z_and (z_ushr (z_w (a1 - (z_and (z_ushr a1 1) 1431655765))) 2) 858993459))) + (z_ushr (z_w ((z_and (z_w (a1 - (z_and (z_ushr a1 1) 1431655765))) 858993459) + (z_and (z_ushr (z_w (a1 - (z_and (z_ushr a1 1) 1431655765))) 2) 858993459))) 4))) 252645135) 8))) + (z_ushr (z_w ((z_and (z_w ((z_w ((z_and (z_w (a1 - (z_and (z_ushr a1 1) 1431655765))) 858993459) + (z_and (z_ushr (z_w (a1 - (z_and (z_ushr a1 1) 1431655765))) 2) 858993459))) + (z_ushr (z_w ((z_and (z_w (a1 - (z_and (z_ushr a1 1) 1431655765))) 858993459) + (z_and (z_ushr (z_w (a1 - (z_and (z_ushr a1 1) 1431655765))) 2) 858993459))) 4))) 252645135) + (z_ushr (z_and (z_w ((z_w ((z_and (z_w (a1 - (z_and (z_ushr a1 1) 1431655765))) 858993459) + (z_and (z_ushr (z_w (a1 - (z_and (z_ushr a1 1) 1431655765))) 2) 858993459))) + (z_ushr (z_w ((z_and (z_w (a1 - (z_and (z_ushr a1 1) 1431655765))) 858993459) + (z_and (z_ushr (z_w (a1 - (z_and (z_ushr a1 1) 1431655765))) 2) 858993459))) 4))) 252645135) 8))) 16))) 63)
theorem z_bc_6 : ∀ v : Nat, v < 64 → z_bc v = ((v % 2 + v / 2 % 2 + v / 4 % 2 + v / 8 % 2 + v / 16 % 2 + v / 32 % 2 : Nat) : Int) := by decide +kernel
/-- the set of the numbers below n that are so -/
noncomputable def z_set (p : Int → Prop) : Nat → Int
  | 0 => 0
  | k + 1 => @ite Int (p k) (Classical.propDecidable _) (z_or (z_set p k) (z_shl 1 k)) (z_set p k)
theorem z_set_y {p : Int → Prop} {k : Nat} (h : p k) : z_set p (k + 1) = z_or (z_set p k) (z_shl 1 k) := by
  rw [z_set, if_pos h]
theorem z_set_n {p : Int → Prop} {k : Nat} (h : ¬ p k) : z_set p (k + 1) = z_set p k := by
  rw [z_set, if_neg h]
theorem z_or_oi {x y : Int} : z_oi (z_or x y) := z_i_oi _
theorem z_set_oi {p : Int → Prop} : ∀ n : Nat, z_oi (z_set p n)
  | 0 => by
    show z_oi 0
    unfold z_oi
    omega
  | n + 1 => by
    by_cases h : p n
    · rw [z_set_y h]
      exact z_or_oi
    · rw [z_set_n h]
      exact z_set_oi n
theorem z_shl0 : ∀ k : Nat, k < 32 → z_shl 0 k = 0 := by decide +kernel
theorem z_or0 {x : Int} (h : z_oi x) : z_or x 0 = x := by
  unfold z_or
  rw [show Int32.ofInt 0 = 0 from rfl, Int32.or_zero, z_ofto h]
theorem z_or_sh0 {p : Int → Prop} {n k : Nat} (h : k < 32) : z_or (z_set p n) (z_shl 0 k) = z_set p n := by
  rw [z_shl0 k h, z_or0 (z_set_oi n)]
theorem z_set_c {p q : Int → Prop} : ∀ {n : Nat}, (∀ c : Int, 0 ≤ c → c < n → (p c ↔ q c)) → z_set p n = z_set q n
  | 0, _ => rfl
  | n + 1, h => by
    have ih := z_set_c (n := n) (fun c a b => h c a (by omega))
    by_cases e : p n
    · rw [z_set_y e, z_set_y ((h n (by omega) (by omega)).mp e), ih]
    · rw [z_set_n e, z_set_n (fun q => e ((h n (by omega) (by omega)).mpr q)), ih]
theorem z_set_b {p : Int → Prop} {c : Int} (hc : 0 ≤ c ∧ c < 32) : ∀ {n : Nat}, n ≤ 32 → (z_bt (z_set p n) c ↔ c < n ∧ p c)
  | 0, _ => ⟨fun h => absurd h (z_bt_0 hc), fun h => by omega⟩
  | n + 1, h => by
    have ih := z_set_b (p := p) hc (n := n) (by omega)
    by_cases e : p n
    · rw [z_set_y e, z_bt_or hc, ih, z_bt_shl (by omega) hc]
      constructor
      · rintro (q | q)
        · exact ⟨by omega, q.2⟩
        · exact ⟨by omega, q ▸ e⟩
      · intro q
        by_cases w : c = n
        · exact Or.inr w.symm
        · exact Or.inl ⟨by omega, q.2⟩
    · rw [z_set_n e, ih]
      constructor
      · exact fun q => ⟨by omega, q.2⟩
      · intro q
        by_cases w : c = n
        · exact absurd (w ▸ q.2) e
        · exact ⟨by omega, q.2⟩
theorem z_set_0 {p : Int → Prop} : ∀ {n : Nat}, (∀ c : Int, 0 ≤ c → c < n → ¬ p c) → z_set p n = 0
  | 0, _ => rfl
  | n + 1, h => by rw [z_set_n (h n (by omega) (by omega)), z_set_0 (n := n) (fun c a b => h c a (by omega))]
/-- a small set is the sum of its members' powers -/
theorem z_or_add : ∀ k : Nat, k < 6 → ∀ x : Nat, x < 2 ^ k → z_or x (z_shl 1 k) = ((x + 2 ^ k : Nat) : Int) := by decide +kernel
noncomputable def z_sms (p : Int → Prop) : Nat → Nat
  | 0 => 0
  | k + 1 => z_sms p k + (z_b (p k)).toNat * 2 ^ k
theorem z_sms_r {p : Int → Prop} : ∀ n : Nat, z_sms p n < 2 ^ n
  | 0 => by
    show 0 < 2 ^ 0
    omega
  | n + 1 => by
    have := z_sms_r (p := p) n
    rw [z_sms, Nat.pow_succ]
    rcases @z_b_01 (p n) with e | e <;> rw [e] <;> simp <;> omega
theorem z_set_sms {p : Int → Prop} : ∀ {n : Nat}, n ≤ 6 → z_set p n = (z_sms p n : Int)
  | 0, _ => rfl
  | n + 1, h => by
    have ih := z_set_sms (p := p) (n := n) (by omega)
    by_cases e : p n
    · rw [z_set_y e, ih, z_or_add n (by omega) _ (z_sms_r n), z_sms, z_b_t e]
      simp
    · rw [z_set_n e, ih, z_sms, z_b_f e]
      simp
theorem z_set_r {p : Int → Prop} {n : Nat} (h : n ≤ 6) : 0 ≤ z_set p n ∧ z_set p n < 64 := by
  rw [z_set_sms h]
  have := z_sms_r (p := p) n
  have : 2 ^ n ≤ 2 ^ 6 := Nat.pow_le_pow_right (by decide) h
  omega
theorem z_bc_set {p : Int → Prop} {n : Nat} (h : n ≤ 6) : z_bc (z_set p n) = z_cnt p n := by
  have hr := z_set_r (p := p) h
  have e := z_set_sms (p := p) h
  rw [e, z_bc_6 _ (by omega)]
  have : n = 0 ∨ n = 1 ∨ n = 2 ∨ n = 3 ∨ n = 4 ∨ n = 5 ∨ n = 6 := by omega
  have b0 := @z_b_01 (p 0)
  have b1 := @z_b_01 (p 1)
  have b2 := @z_b_01 (p 2)
  have b3 := @z_b_01 (p 3)
  have b4 := @z_b_01 (p 4)
  have b5 := @z_b_01 (p 5)
  have e0 : z_b (p ((0 : Nat) : Int)) = z_b (p 0) := rfl
  have e1 : z_b (p ((1 : Nat) : Int)) = z_b (p 1) := rfl
  have e2 : z_b (p ((2 : Nat) : Int)) = z_b (p 2) := rfl
  have e3 : z_b (p ((3 : Nat) : Int)) = z_b (p 3) := rfl
  have e4 : z_b (p ((4 : Nat) : Int)) = z_b (p 4) := rfl
  have e5 : z_b (p ((5 : Nat) : Int)) = z_b (p 5) := rfl
  clear hr e h
  rcases this with rfl | rfl | rfl | rfl | rfl | rfl | rfl <;> simp only [z_sms, z_cnt, e0, e1, e2, e3, e4, e5] <;> clear e0 e1 e2 e3 e4 e5 <;> generalize z_b (p 0) = x0 at * <;> generalize z_b (p 1) = x1 at * <;> generalize z_b (p 2) = x2 at * <;> generalize z_b (p 3) = x3 at * <;> generalize z_b (p 4) = x4 at * <;> generalize z_b (p 5) = x5 at *
  · decide
  · rcases b0 with rfl | rfl <;> decide
  · rcases b0 with rfl | rfl <;> rcases b1 with rfl | rfl <;> decide
  · rcases b0 with rfl | rfl <;> rcases b1 with rfl | rfl <;> rcases b2 with rfl | rfl <;> decide
  · rcases b0 with rfl | rfl <;> rcases b1 with rfl | rfl <;> rcases b2 with rfl | rfl <;> rcases b3 with rfl | rfl <;> decide
  · rcases b0 with rfl | rfl <;> rcases b1 with rfl | rfl <;> rcases b2 with rfl | rfl <;> rcases b3 with rfl | rfl <;> rcases b4 with rfl | rfl <;> decide
  · rcases b0 with rfl | rfl <;> rcases b1 with rfl | rfl <;> rcases b2 with rfl | rfl <;> rcases b3 with rfl | rfl <;> rcases b4 with rfl | rfl <;> rcases b5 with rfl | rfl <;> decide
theorem z_pens_set {s : Int → Int} {n : Nat} (hs : ∀ f : Int, 0 ≤ f → f < n → s (6 + f) = 0 ∨ s (6 + f) = 1) (hn : n ≤ 6) : z_set (fun f => s (6 + f) = 1) n = z_pens s n := by
  rw [z_set_sms hn]
  clear hn
  induction n with
  | zero => rfl
  | succ n ih =>
    have e := ih (fun f a b => hs f a (by omega))
    rw [z_sms, z_pens, ← e]
    rcases hs n (by omega) (by omega) with h | h
    · rw [z_b_f (by omega), h]
      simp
    · rw [z_b_t h, h]
      simp
def z_wss (f : Int → Int) : Nat → Int
  | 0 => 0
  | k + 1 => z_w (z_wss f k + f k)
theorem z_wss_oi {f : Int → Int} : ∀ n : Nat, z_oi (z_wss f n)
  | 0 => by
    show z_oi 0
    unfold z_oi
    omega
  | n + 1 => z_w_oi _
theorem z_wss_c {f g : Int → Int} : ∀ {n : Nat}, (∀ c : Int, 0 ≤ c → c < n → f c = g c) → z_wss f n = z_wss g n
  | 0, _ => rfl
  | n + 1, h => by rw [z_wss, z_wss, z_wss_c (n := n) (fun c a b => h c a (by omega)), h n (by omega) (by omega)]
theorem z_wss_0 {f : Int → Int} {n : Nat} : ∀ m : Nat, n ≤ m → (∀ c : Int, n ≤ c → c < m → f c = 0) → z_wss f m = z_wss f n
  | 0, h, _ => by rw [show n = 0 by omega]
  | m + 1, h, h0 => by
    by_cases e : n = m + 1
    · rw [e]
    · have ih := z_wss_0 (f := f) (n := n) m (by omega) (fun c a b => h0 c a (by omega))
      have ho := z_wss_oi (f := f) m
      unfold z_oi at ho
      rw [z_wss, h0 m (by omega) (by omega), Int.add_zero, z_wid (by omega), ih]
theorem z_wss_r {f : Int → Int} : ∀ {n : Nat}, n ≤ 30 → (∀ c : Int, 0 ≤ c → c < n → 0 ≤ f c ∧ f c ≤ 9) → 0 ≤ z_wss f n ∧ z_wss f n ≤ 9 * n
  | 0, _, _ => ⟨Int.le_refl _, Int.le_refl _⟩
  | n + 1, hn, h => by
    have ih := z_wss_r (n := n) (by omega) (fun c a b => h c a (by omega))
    have := h n (by omega) (by omega)
    rw [z_wss, z_wid (by omega)]
    omega
noncomputable def z_sgl (M : z_M) (h n : Int) : Int := z_set (fun f => M (h + 2) f = -1) n.toNat
noncomputable def z_hin (M : z_M) (h c n : Int) : Int := z_set (fun f => M (h + 1) f = c) n.toNat
def z_agr (M : z_M) (h : Int) : Int := z_wss (fun c => M (h + 3) c) 25
def z_agm (M : z_M) : Int := z_wss (fun c => M 343 (54 + c)) (M 321 46 * M 321 47).toNat
noncomputable def z_amm (M : z_M) : Int := z_cnt (fun f => ¬ M 343 (12 + f) < 0) (M 321 48).toNat
def z_pnr (s : Int → Int) : Nat → Int
  | 0 => 0
  | k + 1 => z_or (z_pnr s k) (z_shl (s (6 + k)) k)
def z_pnm (M : z_M) : Int := z_pnr (M 342) (M 321 48).toNat
theorem z_pnr_set {s : Int → Int} : ∀ {n : Nat}, n ≤ 6 → (∀ f : Int, 0 ≤ f → f < n → s (6 + f) = 0 ∨ s (6 + f) = 1) → z_pnr s n = z_set (fun f => s (6 + f) = 1) n
  | 0, _, _ => rfl
  | n + 1, hn, h => by
    rw [z_pnr, z_pnr_set (n := n) (by omega) (fun f a b => h f a (by omega))]
    rcases h n (by omega) (by omega) with e | e
    · rw [e, z_or_sh0 (by omega), z_set_n (by omega)]
    · rw [e, z_set_y (p := fun f => s (6 + f) = 1) e]
noncomputable def z_fli (M : z_M) (c : Int) : Int := z_set (fun f => M 342 f = c) (M 321 48).toNat
def z_mbs (x : Int) : Nat → Int
  | 0 => 0
  | k + 1 => z_w (z_mbs x k + z_and (z_shr x k) 1)
def z_mbr (x : Int) : Int := z_mbs x 6
theorem z_mbr_6 : ∀ v : Nat, v < 64 → z_mbr v = z_bc v := by decide +kernel
set_option maxRecDepth 20000 in
theorem gJ6_bitCount_0f7a4_0 {xs : List Int} {d : Nat} {M : z_M} {P : Option z_V → z_L → z_M → Prop} {a1 : Int} 
    (l1 : P (some (0, (z_and (z_w ((z_w ((z_and (z_w ((z_w ((z_and (z_w (a1 - (z_and (z_ushr a1 1) 1431655765))) 858993459) + (z_and (z_ushr (z_w (a1 - (z_and (z_ushr a1 1) 1431655765))) 2) 858993459))) + (z_ushr (z_w ((z_and (z_w (a1 - (z_and (z_ushr a1 1) 1431655765))) 858993459) + (z_and (z_ushr (z_w (a1 - (z_and (z_ushr a1 1) 1431655765))) 2) 858993459))) 4))) 252645135) + (z_ushr (z_and (z_w ((z_w ((z_and (z_w (a1 - (z_and (z_ushr a1 1) 1431655765))) 858993459) + (z_and (z_ushr (z_w (a1 - (z_and (z_ushr a1 1) 1431655765))) 2) 858993459))) + (z_ushr (z_w ((z_and (z_w (a1 - (z_and (z_ushr a1 1) 1431655765))) 858993459) + (z_and (z_ushr (z_w (a1 - (z_and (z_ushr a1 1) 1431655765))) 2) 858993459))) 4))) 252645135) 8))) + (z_ushr (z_w ((z_and (z_w ((z_w ((z_and (z_w (a1 - (z_and (z_ushr a1 1) 1431655765))) 858993459) + (z_and (z_ushr (z_w (a1 - (z_and (z_ushr a1 1) 1431655765))) 2) 858993459))) + (z_ushr (z_w ((z_and (z_w (a1 - (z_and (z_ushr a1 1) 1431655765))) 858993459) + (z_and (z_ushr (z_w (a1 - (z_and (z_ushr a1 1) 1431655765))) 2) 858993459))) 4))) 252645135) + (z_ushr (z_and (z_w ((z_w ((z_and (z_w (a1 - (z_and (z_ushr a1 1) 1431655765))) 858993459) + (z_and (z_ushr (z_w (a1 - (z_and (z_ushr a1 1) 1431655765))) 2) 858993459))) + (z_ushr (z_w ((z_and (z_w (a1 - (z_and (z_ushr a1 1) 1431655765))) 858993459) + (z_and (z_ushr (z_w (a1 - (z_and (z_ushr a1 1) 1431655765))) 2) 858993459))) 4))) 252645135) 8))) 16))) 63))) z_LL M) :
    wp xs d mJ6_bitCount_0f7a4 0 [(0, a1)] [] z_LL M P := by
  refine wp_run 41 (pc' := 52) (ls' := [(0, (z_w ((z_w ((z_and (z_w ((z_w ((z_and (z_w (a1 - (z_and (z_ushr a1 1) 1431655765))) 858993459) + (z_and (z_ushr (z_w (a1 - (z_and (z_ushr a1 1) 1431655765))) 2) 858993459))) + (z_ushr (z_w ((z_and (z_w (a1 - (z_and (z_ushr a1 1) 1431655765))) 858993459) + (z_and (z_ushr (z_w (a1 - (z_and (z_ushr a1 1) 1431655765))) 2) 858993459))) 4))) 252645135) + (z_ushr (z_and (z_w ((z_w ((z_and (z_w (a1 - (z_and (z_ushr a1 1) 1431655765))) 858993459) + (z_and (z_ushr (z_w (a1 - (z_and (z_ushr a1 1) 1431655765))) 2) 858993459))) + (z_ushr (z_w ((z_and (z_w (a1 - (z_and (z_ushr a1 1) 1431655765))) 858993459) + (z_and (z_ushr (z_w (a1 - (z_and (z_ushr a1 1) 1431655765))) 2) 858993459))) 4))) 252645135) 8))) + (z_ushr (z_w ((z_and (z_w ((z_w ((z_and (z_w (a1 - (z_and (z_ushr a1 1) 1431655765))) 858993459) + (z_and (z_ushr (z_w (a1 - (z_and (z_ushr a1 1) 1431655765))) 2) 858993459))) + (z_ushr (z_w ((z_and (z_w (a1 - (z_and (z_ushr a1 1) 1431655765))) 858993459) + (z_and (z_ushr (z_w (a1 - (z_and (z_ushr a1 1) 1431655765))) 2) 858993459))) 4))) 252645135) + (z_ushr (z_and (z_w ((z_w ((z_and (z_w (a1 - (z_and (z_ushr a1 1) 1431655765))) 858993459) + (z_and (z_ushr (z_w (a1 - (z_and (z_ushr a1 1) 1431655765))) 2) 858993459))) + (z_ushr (z_w ((z_and (z_w (a1 - (z_and (z_ushr a1 1) 1431655765))) 858993459) + (z_and (z_ushr (z_w (a1 - (z_and (z_ushr a1 1) 1431655765))) 2) 858993459))) 4))) 252645135) 8))) 16))))]) (st' := [(0, (z_and (z_w ((z_w ((z_and (z_w ((z_w ((z_and (z_w (a1 - (z_and (z_ushr a1 1) 1431655765))) 858993459) + (z_and (z_ushr (z_w (a1 - (z_and (z_ushr a1 1) 1431655765))) 2) 858993459))) + (z_ushr (z_w ((z_and (z_w (a1 - (z_and (z_ushr a1 1) 1431655765))) 858993459) + (z_and (z_ushr (z_w (a1 - (z_and (z_ushr a1 1) 1431655765))) 2) 858993459))) 4))) 252645135) + (z_ushr (z_and (z_w ((z_w ((z_and (z_w (a1 - (z_and (z_ushr a1 1) 1431655765))) 858993459) + (z_and (z_ushr (z_w (a1 - (z_and (z_ushr a1 1) 1431655765))) 2) 858993459))) + (z_ushr (z_w ((z_and (z_w (a1 - (z_and (z_ushr a1 1) 1431655765))) 858993459) + (z_and (z_ushr (z_w (a1 - (z_and (z_ushr a1 1) 1431655765))) 2) 858993459))) 4))) 252645135) 8))) + (z_ushr (z_w ((z_and (z_w ((z_w ((z_and (z_w (a1 - (z_and (z_ushr a1 1) 1431655765))) 858993459) + (z_and (z_ushr (z_w (a1 - (z_and (z_ushr a1 1) 1431655765))) 2) 858993459))) + (z_ushr (z_w ((z_and (z_w (a1 - (z_and (z_ushr a1 1) 1431655765))) 858993459) + (z_and (z_ushr (z_w (a1 - (z_and (z_ushr a1 1) 1431655765))) 2) 858993459))) 4))) 252645135) + (z_ushr (z_and (z_w ((z_w ((z_and (z_w (a1 - (z_and (z_ushr a1 1) 1431655765))) 858993459) + (z_and (z_ushr (z_w (a1 - (z_and (z_ushr a1 1) 1431655765))) 2) 858993459))) + (z_ushr (z_w ((z_and (z_w (a1 - (z_and (z_ushr a1 1) 1431655765))) 858993459) + (z_and (z_ushr (z_w (a1 - (z_and (z_ushr a1 1) 1431655765))) 2) 858993459))) 4))) 252645135) 8))) 16))) 63))]) rfl ?_
  exact wp_ret rfl rfl (l1)
set_option maxRecDepth 20000 in
theorem gX2_single_0 {xs : List Int} {d : Nat} {M : z_M} {P : Option z_V → z_L → z_M → Prop} {h : Int} {a1 : Int} (hh : z_her M h)
    (l1 : wp xs d mX2_single 4 [(2, h), (0, a1), (0, 0), (0, 0)] [] z_LL M P) :
    wp xs d mX2_single 0 [(2, h), (0, a1), (3, 0), (3, 0)] [] z_LL M P := by
  refine wp_run 4 (pc' := 4) (ls' := [(2, h), (0, a1), (0, 0), (0, 0)]) (st' := []) rfl ?_
  exact l1
set_option maxRecDepth 20000 in
theorem gX2_single_4 {xs : List Int} {d : Nat} {M : z_M} {P : Option z_V → z_L → z_M → Prop} {x0 : Int} {x1 : Int} {x2 : Int} {x3 : Int} (hx0 : z_her M x0)
    (l1 : (x1 ≤ x3) → P (some (0, x2)) z_LL M)
    (b1 : (¬ (x1 ≤ x3)) → 0 ≤ x3 ∧ x3 < 6)
    (l2 : (¬ (x1 ≤ x3)) → ((M (x0 + 2) x3) ≠ (-1)) → wp xs d mX2_single 4 [(2, x0), (0, x1), (0, x2), (0, (z_w (x3 + 1)))] [] z_LL M P)
    (l3 : (¬ (x1 ≤ x3)) → (¬ ((M (x0 + 2) x3) ≠ (-1))) → wp xs d mX2_single 4 [(2, x0), (0, x1), (0, (z_or x2 (z_shl 1 x3))), (0, (z_w (x3 + 1)))] [] z_LL M P) :
    wp xs d mX2_single 4 [(2, x0), (0, x1), (0, x2), (0, x3)] [] z_LL M P := by
  refine wp_run 2 (pc' := 6) (ls' := [(2, x0), (0, x1), (0, x2), (0, x3)]) (st' := [(0, x1), (0, x3)]) rfl ?_
  refine wp_if2 rfl rfl rfl (fun (c1 : x1 ≤ x3) => ?_) (fun (c1 : ¬ (x1 ≤ x3)) => ?_)
  · refine wp_run 1 (pc' := 32) (ls' := [(2, x0), (0, x1), (0, x2), (0, x3)]) (st' := [(0, x2)]) rfl ?_
    exact wp_ret rfl rfl (l1 c1)
  · refine wp_run 1 (pc' := 10) (ls' := [(2, x0), (0, x1), (0, x2), (0, x3)]) (st' := [(2, x0)]) rfl ?_
    refine wp_gf (pc' := 13) (t := 2) (v := (x0 + 2)) rfl rfl (by decide) rfl (z_hl0 hx0) (z_hf1 hx0) ?_
    refine wp_run 1 (pc' := 14) (ls' := [(2, x0), (0, x1), (0, x2), (0, x3)]) (st' := [(0, x3), (2, (x0 + 2))]) rfl ?_
    refine wp_iald (pc' := 15) (v := (M (x0 + 2) x3)) rfl rfl (z_hl2 hx0) (b1 c1) rfl ?_
    refine wp_run 1 (pc' := 16) (ls' := [(2, x0), (0, x1), (0, x2), (0, x3)]) (st' := [(0, (-1)), (0, (M (x0 + 2) x3))]) rfl ?_
    refine wp_if2 rfl rfl rfl (fun (c2 : (M (x0 + 2) x3) ≠ (-1)) => ?_) (fun (c2 : ¬ ((M (x0 + 2) x3) ≠ (-1))) => ?_)
    · refine wp_run 2 (pc' := 4) (ls' := [(2, x0), (0, x1), (0, x2), (0, (z_w (x3 + 1)))]) (st' := []) rfl ?_
      exact l2 c1 c2
    · refine wp_run 8 (pc' := 4) (ls' := [(2, x0), (0, x1), (0, (z_or x2 (z_shl 1 x3))), (0, (z_w (x3 + 1)))]) (st' := []) rfl ?_
      exact l3 c1 c2
set_option maxRecDepth 20000 in
theorem gX2_herdsIn_0 {xs : List Int} {d : Nat} {M : z_M} {P : Option z_V → z_L → z_M → Prop} {h : Int} {a1 : Int} {a2 : Int} (hh : z_her M h)
    (l1 : wp xs d mX2_herdsIn 5 [(2, h), (0, a1), (0, a2), (0, 0), (0, 0)] [] z_LL M P) :
    wp xs d mX2_herdsIn 0 [(2, h), (0, a1), (0, a2), (3, 0), (3, 0)] [] z_LL M P := by
  refine wp_run 4 (pc' := 5) (ls' := [(2, h), (0, a1), (0, a2), (0, 0), (0, 0)]) (st' := []) rfl ?_
  exact l1
set_option maxRecDepth 20000 in
theorem gX2_herdsIn_5 {xs : List Int} {d : Nat} {M : z_M} {P : Option z_V → z_L → z_M → Prop} {x0 : Int} {x1 : Int} {x2 : Int} {x3 : Int} {x4 : Int} (hx0 : z_her M x0)
    (l1 : (x2 ≤ x4) → P (some (0, x3)) z_LL M)
    (b1 : (¬ (x2 ≤ x4)) → 0 ≤ x4 ∧ x4 < 6)
    (l2 : (¬ (x2 ≤ x4)) → ((M (x0 + 1) x4) ≠ x1) → wp xs d mX2_herdsIn 5 [(2, x0), (0, x1), (0, x2), (0, x3), (0, (z_w (x4 + 1)))] [] z_LL M P)
    (l3 : (¬ (x2 ≤ x4)) → (¬ ((M (x0 + 1) x4) ≠ x1)) → wp xs d mX2_herdsIn 5 [(2, x0), (0, x1), (0, x2), (0, (z_or x3 (z_shl 1 x4))), (0, (z_w (x4 + 1)))] [] z_LL M P) :
    wp xs d mX2_herdsIn 5 [(2, x0), (0, x1), (0, x2), (0, x3), (0, x4)] [] z_LL M P := by
  refine wp_run 2 (pc' := 8) (ls' := [(2, x0), (0, x1), (0, x2), (0, x3), (0, x4)]) (st' := [(0, x2), (0, x4)]) rfl ?_
  refine wp_if2 rfl rfl rfl (fun (c1 : x2 ≤ x4) => ?_) (fun (c1 : ¬ (x2 ≤ x4)) => ?_)
  · refine wp_run 1 (pc' := 36) (ls' := [(2, x0), (0, x1), (0, x2), (0, x3), (0, x4)]) (st' := [(0, x3)]) rfl ?_
    exact wp_ret rfl rfl (l1 c1)
  · refine wp_run 1 (pc' := 12) (ls' := [(2, x0), (0, x1), (0, x2), (0, x3), (0, x4)]) (st' := [(2, x0)]) rfl ?_
    refine wp_gf (pc' := 15) (t := 2) (v := (x0 + 1)) rfl rfl (by decide) rfl (z_hl0 hx0) (z_hf0 hx0) ?_
    refine wp_run 1 (pc' := 17) (ls' := [(2, x0), (0, x1), (0, x2), (0, x3), (0, x4)]) (st' := [(0, x4), (2, (x0 + 1))]) rfl ?_
    refine wp_iald (pc' := 18) (v := (M (x0 + 1) x4)) rfl rfl (z_hl1 hx0) (b1 c1) rfl ?_
    refine wp_run 1 (pc' := 19) (ls' := [(2, x0), (0, x1), (0, x2), (0, x3), (0, x4)]) (st' := [(0, x1), (0, (M (x0 + 1) x4))]) rfl ?_
    refine wp_if2 rfl rfl rfl (fun (c2 : (M (x0 + 1) x4) ≠ x1) => ?_) (fun (c2 : ¬ ((M (x0 + 1) x4) ≠ x1)) => ?_)
    · refine wp_run 2 (pc' := 5) (ls' := [(2, x0), (0, x1), (0, x2), (0, x3), (0, (z_w (x4 + 1)))]) (st' := []) rfl ?_
      exact l2 c1 c2
    · refine wp_run 8 (pc' := 5) (ls' := [(2, x0), (0, x1), (0, x2), (0, (z_or x3 (z_shl 1 x4))), (0, (z_w (x4 + 1)))]) (st' := []) rfl ?_
      exact l3 c1 c2
set_option maxRecDepth 20000 in
theorem gX2_allGrass_0 {xs : List Int} {d : Nat} {M : z_M} {P : Option z_V → z_L → z_M → Prop} {h : Int} (hh : z_her M h)
    (l1 : wp xs d mX2_allGrass 4 [(2, h), (0, 0), (0, 0)] [] z_LL M P) :
    wp xs d mX2_allGrass 0 [(2, h), (3, 0), (3, 0)] [] z_LL M P := by
  refine wp_run 4 (pc' := 4) (ls' := [(2, h), (0, 0), (0, 0)]) (st' := []) rfl ?_
  exact l1
set_option maxRecDepth 20000 in
theorem gX2_allGrass_4 {xs : List Int} {d : Nat} {M : z_M} {P : Option z_V → z_L → z_M → Prop} {x0 : Int} {x1 : Int} {x2 : Int} (hx0 : z_her M x0)
    (l1 : (25 ≤ x2) → P (some (0, x1)) z_LL M)
    (b1 : (¬ (25 ≤ x2)) → 0 ≤ x2 ∧ x2 < 25)
    (l2 : (¬ (25 ≤ x2)) → wp xs d mX2_allGrass 4 [(2, x0), (0, (z_w (x1 + (M (x0 + 3) x2)))), (0, (z_w (x2 + 1)))] [] z_LL M P) :
    wp xs d mX2_allGrass 4 [(2, x0), (0, x1), (0, x2)] [] z_LL M P := by
  refine wp_run 2 (pc' := 7) (ls' := [(2, x0), (0, x1), (0, x2)]) (st' := [(0, 25), (0, x2)]) rfl ?_
  refine wp_if2 rfl rfl rfl (fun (c1 : 25 ≤ x2) => ?_) (fun (c1 : ¬ (25 ≤ x2)) => ?_)
  · refine wp_run 1 (pc' := 26) (ls' := [(2, x0), (0, x1), (0, x2)]) (st' := [(0, x1)]) rfl ?_
    exact wp_ret rfl rfl (l1 c1)
  · refine wp_run 2 (pc' := 12) (ls' := [(2, x0), (0, x1), (0, x2)]) (st' := [(2, x0), (0, x1)]) rfl ?_
    refine wp_gf (pc' := 15) (t := 2) (v := (x0 + 3)) rfl rfl (by decide) rfl (z_hl0 hx0) (z_hf2 hx0) ?_
    refine wp_run 1 (pc' := 16) (ls' := [(2, x0), (0, x1), (0, x2)]) (st' := [(0, x2), (2, (x0 + 3)), (0, x1)]) rfl ?_
    refine wp_iald (pc' := 17) (v := (M (x0 + 3) x2)) rfl rfl (z_hl3 hx0) (b1 c1) rfl ?_
    refine wp_run 4 (pc' := 4) (ls' := [(2, x0), (0, (z_w (x1 + (M (x0 + 3) x2)))), (0, (z_w (x2 + 1)))]) (st' := []) rfl ?_
    exact l2 c1
set_option maxRecDepth 20000 in
theorem gX10_allGrass_0 {xs : List Int} {d : Nat} {M : z_M} {P : Option z_V → z_L → z_M → Prop} 
    (l1 : wp xs d mX10_allGrass 4 [(2, 321), (0, 0), (0, 0)] [] z_LL M P) :
    wp xs d mX10_allGrass 0 [(2, 321), (3, 0), (3, 0)] [] z_LL M P := by
  refine wp_run 4 (pc' := 4) (ls' := [(2, 321), (0, 0), (0, 0)]) (st' := []) rfl ?_
  exact l1
set_option maxRecDepth 20000 in
theorem gX10_allGrass_4 {xs : List Int} {d : Nat} {M : z_M} {P : Option z_V → z_L → z_M → Prop} {x1 : Int} {x2 : Int} (hF : z_fix M) (hC : z_mc M) 
    (l1 : ((M 321 46 * M 321 47) ≤ x2) → P (some (0, x1)) z_LL M)
    (b1 : (¬ ((M 321 46 * M 321 47) ≤ x2)) → 0 ≤ (z_w (54 + x2)) ∧ (z_w (54 + x2)) < 106)
    (l2 : (¬ ((M 321 46 * M 321 47) ≤ x2)) → wp xs (d + 1) mX10_allGrass 4 [(2, 321), (0, (z_w (x1 + (M 343 (z_w (54 + x2)))))), (0, (z_w (x2 + 1)))] [] z_LL M P) :
    wp xs (d + 1) mX10_allGrass 4 [(2, 321), (0, x1), (0, x2)] [] z_LL M P := by
  refine wp_run 2 (pc' := 6) (ls' := [(2, 321), (0, x1), (0, x2)]) (st' := [(2, 321), (0, x2)]) rfl ?_
  refine wp_callv (pc' := 9) (as := [(2, 321)]) (rest := [(0, x2)]) (ls1 := [(2, 321)]) rfl rfl rfl rfl rfl rfl ?_
  refine s_X10_all hF hC ?_
  show wp xs _ mX10_allGrass 9 [(2, 321), (0, x1), (0, x2)] [(0, (M 321 46 * M 321 47)), (0, x2)] z_LL M _
  refine wp_if2 rfl rfl rfl (fun (c1 : (M 321 46 * M 321 47) ≤ x2) => ?_) (fun (c1 : ¬ ((M 321 46 * M 321 47) ≤ x2)) => ?_)
  · refine wp_run 1 (pc' := 31) (ls' := [(2, 321), (0, x1), (0, x2)]) (st' := [(0, x1)]) rfl ?_
    exact wp_ret rfl rfl (l1 c1)
  · refine wp_run 2 (pc' := 14) (ls' := [(2, 321), (0, x1), (0, x2)]) (st' := [(2, 321), (0, x1)]) rfl ?_
    refine wp_gf (pc' := 17) (t := 2) (v := 343) rfl rfl (by decide) rfl rfl (fx_321_61 hF) ?_
    refine wp_run 3 (pc' := 21) (ls' := [(2, 321), (0, x1), (0, x2)]) (st' := [(0, (z_w (54 + x2))), (2, 343), (0, x1)]) rfl ?_
    refine wp_iald (pc' := 22) (v := (M 343 (z_w (54 + x2)))) rfl rfl rfl (b1 c1) rfl ?_
    refine wp_run 4 (pc' := 4) (ls' := [(2, 321), (0, (z_w (x1 + (M 343 (z_w (54 + x2)))))), (0, (z_w (x2 + 1)))]) (st' := []) rfl ?_
    exact l2 c1
set_option maxRecDepth 20000 in
theorem gX10_allMatched_0 {xs : List Int} {d : Nat} {M : z_M} {P : Option z_V → z_L → z_M → Prop} 
    (l1 : wp xs d mX10_allMatched 4 [(2, 321), (0, 0), (0, 0)] [] z_LL M P) :
    wp xs d mX10_allMatched 0 [(2, 321), (3, 0), (3, 0)] [] z_LL M P := by
  refine wp_run 4 (pc' := 4) (ls' := [(2, 321), (0, 0), (0, 0)]) (st' := []) rfl ?_
  exact l1
set_option maxRecDepth 20000 in
theorem gX10_allMatched_4 {xs : List Int} {d : Nat} {M : z_M} {P : Option z_V → z_L → z_M → Prop} {x1 : Int} {x2 : Int} (hF : z_fix M) 
    (l1 : ((M 321 48) ≤ x2) → P (some (0, x1)) z_LL M)
    (b1 : (¬ ((M 321 48) ≤ x2)) → 0 ≤ (z_w (12 + x2)) ∧ (z_w (12 + x2)) < 106)
    (l2 : (¬ ((M 321 48) ≤ x2)) → ((M 343 (z_w (12 + x2))) < 0) → wp xs (d + 1) mX10_allMatched 4 [(2, 321), (0, (z_w (x1 + 0))), (0, (z_w (x2 + 1)))] [] z_LL M P)
    (l3 : (¬ ((M 321 48) ≤ x2)) → (¬ ((M 343 (z_w (12 + x2))) < 0)) → wp xs (d + 1) mX10_allMatched 4 [(2, 321), (0, (z_w (x1 + 1))), (0, (z_w (x2 + 1)))] [] z_LL M P) :
    wp xs (d + 1) mX10_allMatched 4 [(2, 321), (0, x1), (0, x2)] [] z_LL M P := by
  refine wp_run 2 (pc' := 6) (ls' := [(2, 321), (0, x1), (0, x2)]) (st' := [(2, 321), (0, x2)]) rfl ?_
  refine wp_gf (pc' := 9) (t := 0) (v := (M 321 48)) rfl rfl (by decide) rfl rfl rfl ?_
  refine wp_if2 rfl rfl rfl (fun (c1 : (M 321 48) ≤ x2) => ?_) (fun (c1 : ¬ ((M 321 48) ≤ x2)) => ?_)
  · refine wp_run 1 (pc' := 42) (ls' := [(2, 321), (0, x1), (0, x2)]) (st' := [(0, x1)]) rfl ?_
    exact wp_ret rfl rfl (l1 c1)
  · refine wp_run 2 (pc' := 14) (ls' := [(2, 321), (0, x1), (0, x2)]) (st' := [(2, 321), (0, x1)]) rfl ?_
    refine wp_gf (pc' := 17) (t := 2) (v := 343) rfl rfl (by decide) rfl rfl (fx_321_61 hF) ?_
    refine wp_run 3 (pc' := 21) (ls' := [(2, 321), (0, x1), (0, x2)]) (st' := [(0, (z_w (12 + x2))), (2, 343), (0, x1)]) rfl ?_
    refine wp_iald (pc' := 22) (v := (M 343 (z_w (12 + x2)))) rfl rfl rfl (b1 c1) rfl ?_
    refine wp_if1 rfl rfl rfl (fun (c2 : (M 343 (z_w (12 + x2))) < 0) => ?_) (fun (c2 : ¬ ((M 343 (z_w (12 + x2))) < 0)) => ?_)
    · refine wp_run 1 (pc' := 30) (ls' := [(2, 321), (0, x1), (0, x2)]) (st' := [(0, 0), (0, x1)]) rfl ?_
      refine wp_callv (pc' := 33) (as := [(0, 0)]) (rest := [(0, x1)]) (ls1 := [(0, 0)]) rfl rfl rfl rfl rfl rfl ?_
      refine s_X10_truth (by decide) ?_
      show wp xs _ mX10_allMatched 33 [(2, 321), (0, x1), (0, x2)] [(0, 0), (0, x1)] z_LL M _
      refine wp_run 4 (pc' := 4) (ls' := [(2, 321), (0, (z_w (x1 + 0))), (0, (z_w (x2 + 1)))]) (st' := []) rfl ?_
      exact l2 c1 c2
    · refine wp_run 2 (pc' := 30) (ls' := [(2, 321), (0, x1), (0, x2)]) (st' := [(0, 1), (0, x1)]) rfl ?_
      refine wp_callv (pc' := 33) (as := [(0, 1)]) (rest := [(0, x1)]) (ls1 := [(0, 1)]) rfl rfl rfl rfl rfl rfl ?_
      refine s_X10_truth (by decide) ?_
      show wp xs _ mX10_allMatched 33 [(2, 321), (0, x1), (0, x2)] [(0, 1), (0, x1)] z_LL M _
      refine wp_run 4 (pc' := 4) (ls' := [(2, 321), (0, (z_w (x1 + 1))), (0, (z_w (x2 + 1)))]) (st' := []) rfl ?_
      exact l3 c1 c2
set_option maxRecDepth 20000 in
theorem gX10_pens_0 {xs : List Int} {d : Nat} {M : z_M} {P : Option z_V → z_L → z_M → Prop} 
    (l1 : wp xs d mX10_pens 4 [(2, 321), (0, 0), (0, 0)] [] z_LL M P) :
    wp xs d mX10_pens 0 [(2, 321), (3, 0), (3, 0)] [] z_LL M P := by
  refine wp_run 4 (pc' := 4) (ls' := [(2, 321), (0, 0), (0, 0)]) (st' := []) rfl ?_
  exact l1
set_option maxRecDepth 20000 in
theorem gX10_pens_4 {xs : List Int} {d : Nat} {M : z_M} {P : Option z_V → z_L → z_M → Prop} {x1 : Int} {x2 : Int} (hF : z_fix M) 
    (l1 : ((M 321 48) ≤ x2) → P (some (0, x1)) z_LL M)
    (b1 : (¬ ((M 321 48) ≤ x2)) → 0 ≤ (z_w (6 + x2)) ∧ (z_w (6 + x2)) < 106)
    (l2 : (¬ ((M 321 48) ≤ x2)) → wp xs d mX10_pens 4 [(2, 321), (0, (z_or x1 (z_shl (M 342 (z_w (6 + x2))) x2))), (0, (z_w (x2 + 1)))] [] z_LL M P) :
    wp xs d mX10_pens 4 [(2, 321), (0, x1), (0, x2)] [] z_LL M P := by
  refine wp_run 2 (pc' := 6) (ls' := [(2, 321), (0, x1), (0, x2)]) (st' := [(2, 321), (0, x2)]) rfl ?_
  refine wp_gf (pc' := 9) (t := 0) (v := (M 321 48)) rfl rfl (by decide) rfl rfl rfl ?_
  refine wp_if2 rfl rfl rfl (fun (c1 : (M 321 48) ≤ x2) => ?_) (fun (c1 : ¬ ((M 321 48) ≤ x2)) => ?_)
  · refine wp_run 1 (pc' := 33) (ls' := [(2, 321), (0, x1), (0, x2)]) (st' := [(0, x1)]) rfl ?_
    exact wp_ret rfl rfl (l1 c1)
  · refine wp_run 2 (pc' := 14) (ls' := [(2, 321), (0, x1), (0, x2)]) (st' := [(2, 321), (0, x1)]) rfl ?_
    refine wp_gf (pc' := 17) (t := 2) (v := 342) rfl rfl (by decide) rfl rfl (fx_321_60 hF) ?_
    refine wp_run 3 (pc' := 21) (ls' := [(2, 321), (0, x1), (0, x2)]) (st' := [(0, (z_w (6 + x2))), (2, 342), (0, x1)]) rfl ?_
    refine wp_iald (pc' := 22) (v := (M 342 (z_w (6 + x2)))) rfl rfl rfl (b1 c1) rfl ?_
    refine wp_run 6 (pc' := 4) (ls' := [(2, 321), (0, (z_or x1 (z_shl (M 342 (z_w (6 + x2))) x2))), (0, (z_w (x2 + 1)))]) (st' := []) rfl ?_
    exact l2 c1
set_option maxRecDepth 20000 in
theorem gX10_members_0 {xs : List Int} {d : Nat} {M : z_M} {P : Option z_V → z_L → z_M → Prop} {a1 : Int} 
    (l1 : wp xs d mX10_members 4 [(0, a1), (0, 0), (0, 0)] [] z_LL M P) :
    wp xs d mX10_members 0 [(0, a1), (3, 0), (3, 0)] [] z_LL M P := by
  refine wp_run 4 (pc' := 4) (ls' := [(0, a1), (0, 0), (0, 0)]) (st' := []) rfl ?_
  exact l1
set_option maxRecDepth 20000 in
theorem gX10_members_4 {xs : List Int} {d : Nat} {M : z_M} {P : Option z_V → z_L → z_M → Prop} {x0 : Int} {x1 : Int} {x2 : Int} 
    (l1 : (6 ≤ x2) → P (some (0, x1)) z_LL M)
    (l2 : (¬ (6 ≤ x2)) → wp xs d mX10_members 4 [(0, x0), (0, (z_w (x1 + (z_and (z_shr x0 x2) 1)))), (0, (z_w (x2 + 1)))] [] z_LL M P) :
    wp xs d mX10_members 4 [(0, x0), (0, x1), (0, x2)] [] z_LL M P := by
  refine wp_run 2 (pc' := 7) (ls' := [(0, x0), (0, x1), (0, x2)]) (st' := [(0, 6), (0, x2)]) rfl ?_
  refine wp_if2 rfl rfl rfl (fun (c1 : 6 ≤ x2) => ?_) (fun (c1 : ¬ (6 ≤ x2)) => ?_)
  · refine wp_run 1 (pc' := 25) (ls' := [(0, x0), (0, x1), (0, x2)]) (st' := [(0, x1)]) rfl ?_
    exact wp_ret rfl rfl (l1 c1)
  · refine wp_run 10 (pc' := 4) (ls' := [(0, x0), (0, (z_w (x1 + (z_and (z_shr x0 x2) 1)))), (0, (z_w (x2 + 1)))]) (st' := []) rfl ?_
    exact l2 c1
set_option maxRecDepth 20000 in
theorem gX10_flocksIn_0 {xs : List Int} {d : Nat} {M : z_M} {P : Option z_V → z_L → z_M → Prop} {a1 : Int} 
    (l1 : wp xs d mX10_flocksIn 4 [(2, 321), (0, a1), (0, 0), (0, 0)] [] z_LL M P) :
    wp xs d mX10_flocksIn 0 [(2, 321), (0, a1), (3, 0), (3, 0)] [] z_LL M P := by
  refine wp_run 4 (pc' := 4) (ls' := [(2, 321), (0, a1), (0, 0), (0, 0)]) (st' := []) rfl ?_
  exact l1
set_option maxRecDepth 20000 in
theorem gX10_flocksIn_4 {xs : List Int} {d : Nat} {M : z_M} {P : Option z_V → z_L → z_M → Prop} {x1 : Int} {x2 : Int} {x3 : Int} (hF : z_fix M) 
    (l1 : ((M 321 48) ≤ x3) → P (some (0, x2)) z_LL M)
    (b1 : (¬ ((M 321 48) ≤ x3)) → 0 ≤ x3 ∧ x3 < 106)
    (l2 : (¬ ((M 321 48) ≤ x3)) → ((M 342 x3) ≠ x1) → wp xs (d + 1) mX10_flocksIn 4 [(2, 321), (0, x1), (0, (z_or x2 (z_shl 0 x3))), (0, (z_w (x3 + 1)))] [] z_LL M P)
    (l3 : (¬ ((M 321 48) ≤ x3)) → (¬ ((M 342 x3) ≠ x1)) → wp xs (d + 1) mX10_flocksIn 4 [(2, 321), (0, x1), (0, (z_or x2 (z_shl 1 x3))), (0, (z_w (x3 + 1)))] [] z_LL M P) :
    wp xs (d + 1) mX10_flocksIn 4 [(2, 321), (0, x1), (0, x2), (0, x3)] [] z_LL M P := by
  refine wp_run 2 (pc' := 6) (ls' := [(2, 321), (0, x1), (0, x2), (0, x3)]) (st' := [(2, 321), (0, x3)]) rfl ?_
  refine wp_gf (pc' := 9) (t := 0) (v := (M 321 48)) rfl rfl (by decide) rfl rfl rfl ?_
  refine wp_if2 rfl rfl rfl (fun (c1 : (M 321 48) ≤ x3) => ?_) (fun (c1 : ¬ ((M 321 48) ≤ x3)) => ?_)
  · refine wp_run 1 (pc' := 42) (ls' := [(2, 321), (0, x1), (0, x2), (0, x3)]) (st' := [(0, x2)]) rfl ?_
    exact wp_ret rfl rfl (l1 c1)
  · refine wp_run 2 (pc' := 14) (ls' := [(2, 321), (0, x1), (0, x2), (0, x3)]) (st' := [(2, 321), (0, x2)]) rfl ?_
    refine wp_gf (pc' := 17) (t := 2) (v := 342) rfl rfl (by decide) rfl rfl (fx_321_60 hF) ?_
    refine wp_run 1 (pc' := 18) (ls' := [(2, 321), (0, x1), (0, x2), (0, x3)]) (st' := [(0, x3), (2, 342), (0, x2)]) rfl ?_
    refine wp_iald (pc' := 19) (v := (M 342 x3)) rfl rfl rfl (b1 c1) rfl ?_
    refine wp_run 1 (pc' := 20) (ls' := [(2, 321), (0, x1), (0, x2), (0, x3)]) (st' := [(0, x1), (0, (M 342 x3)), (0, x2)]) rfl ?_
    refine wp_if2 rfl rfl rfl (fun (c2 : (M 342 x3) ≠ x1) => ?_) (fun (c2 : ¬ ((M 342 x3) ≠ x1)) => ?_)
    · refine wp_run 1 (pc' := 28) (ls' := [(2, 321), (0, x1), (0, x2), (0, x3)]) (st' := [(0, 0), (0, x2)]) rfl ?_
      refine wp_callv (pc' := 31) (as := [(0, 0)]) (rest := [(0, x2)]) (ls1 := [(0, 0)]) rfl rfl rfl rfl rfl rfl ?_
      refine s_X10_truth (by decide) ?_
      show wp xs _ mX10_flocksIn 31 [(2, 321), (0, x1), (0, x2), (0, x3)] [(0, 0), (0, x2)] z_LL M _
      refine wp_run 6 (pc' := 4) (ls' := [(2, 321), (0, x1), (0, (z_or x2 (z_shl 0 x3))), (0, (z_w (x3 + 1)))]) (st' := []) rfl ?_
      exact l2 c1 c2
    · refine wp_run 2 (pc' := 28) (ls' := [(2, 321), (0, x1), (0, x2), (0, x3)]) (st' := [(0, 1), (0, x2)]) rfl ?_
      refine wp_callv (pc' := 31) (as := [(0, 1)]) (rest := [(0, x2)]) (ls1 := [(0, 1)]) rfl rfl rfl rfl rfl rfl ?_
      refine s_X10_truth (by decide) ?_
      show wp xs _ mX10_flocksIn 31 [(2, 321), (0, x1), (0, x2), (0, x3)] [(0, 1), (0, x2)] z_LL M _
      refine wp_run 6 (pc' := 4) (ls' := [(2, 321), (0, x1), (0, (z_or x2 (z_shl 1 x3))), (0, (z_w (x3 + 1)))]) (st' := []) rfl ?_
      exact l3 c1 c2
theorem s_J6_bitCount_0f7a4 {xs : List Int} {d : Nat} {M : z_M} {P : Option z_V → z_L → z_M → Prop} {a1 : Int} (k : P (some (0, z_bc a1)) z_LL M) : wp xs d mJ6_bitCount_0f7a4 0 [(0, a1)] [] z_LL M P := gJ6_bitCount_0f7a4_0 k
theorem s_X2_single {xs : List Int} {d : Nat} {M : z_M} {P : Option z_V → z_L → z_M → Prop} {h n : Int} (hh : z_her M h) (hn : n ≤ 6) (k : P (some (0, z_sgl M h n)) z_LL M) : wp xs d mX2_single 0 [(2, h), (0, n), (3, 0), (3, 0)] [] z_LL M P := by
  refine gX2_single_0 hh ?_
  refine z_loop (W := fun i => wp xs d mX2_single 4 [(2, h), (0, n), (0, z_set (fun f => M (h + 2) f = -1) i), (0, (i : Int))] [] z_LL M P) n.toNat (fun i hi ih => ?_)
  have g := gX2_single_4 (M := M) (xs := xs) (d := d) (P := P) (x0 := h) (x1 := n) (x2 := z_set (fun f => M (h + 2) f = -1) i) (x3 := (i : Int)) hh
  simp only [z_in1 (i := i) (by omega)] at g
  refine g (fun c => ?_) (fun _ => by omega) (fun c e => ?_) (fun c e => ?_)
  · unfold z_sgl at k
    rw [show n.toNat = i by omega] at k
    exact k
  · have ih := ih (by omega)
    rw [z_set_n e] at ih
    exact ih
  · have ih := ih (by omega)
    rw [z_set_y (p := fun f => M (h + 2) f = -1) (Classical.byContradiction e)] at ih
    exact ih
theorem s_X2_herdsIn {xs : List Int} {d : Nat} {M : z_M} {P : Option z_V → z_L → z_M → Prop} {h c n : Int} (hh : z_her M h) (hn : n ≤ 6) (k : P (some (0, z_hin M h c n)) z_LL M) : wp xs d mX2_herdsIn 0 [(2, h), (0, c), (0, n), (3, 0), (3, 0)] [] z_LL M P := by
  refine gX2_herdsIn_0 hh ?_
  refine z_loop (W := fun i => wp xs d mX2_herdsIn 5 [(2, h), (0, c), (0, n), (0, z_set (fun f => M (h + 1) f = c) i), (0, (i : Int))] [] z_LL M P) n.toNat (fun i hi ih => ?_)
  have g := gX2_herdsIn_5 (M := M) (xs := xs) (d := d) (P := P) (x0 := h) (x1 := c) (x2 := n) (x3 := z_set (fun f => M (h + 1) f = c) i) (x4 := (i : Int)) hh
  simp only [z_in1 (i := i) (by omega)] at g
  refine g (fun c => ?_) (fun _ => by omega) (fun c e => ?_) (fun c e => ?_)
  · unfold z_hin at k
    rw [show n.toNat = i by omega] at k
    exact k
  · have ih := ih (by omega)
    rw [z_set_n e] at ih
    exact ih
  · have ih := ih (by omega)
    rw [z_set_y (p := fun f => M (h + 1) f = _) (Classical.byContradiction e)] at ih
    exact ih
theorem s_X2_allGrass {xs : List Int} {d : Nat} {M : z_M} {P : Option z_V → z_L → z_M → Prop} {h : Int} (hh : z_her M h) (k : P (some (0, z_agr M h)) z_LL M) : wp xs d mX2_allGrass 0 [(2, h), (3, 0), (3, 0)] [] z_LL M P := by
  refine gX2_allGrass_0 hh ?_
  refine z_loop (W := fun i => wp xs d mX2_allGrass 4 [(2, h), (0, z_wss (fun c => M (h + 3) c) i), (0, (i : Int))] [] z_LL M P) 25 (fun i hi ih => ?_)
  have g := gX2_allGrass_4 (M := M) (xs := xs) (d := d) (P := P) (x0 := h) (x1 := z_wss (fun c => M (h + 3) c) i) (x2 := (i : Int)) hh
  simp only [z_in1 (i := i) (by omega)] at g
  refine g (fun c => ?_) (fun _ => by omega) (fun c => ih (by omega))
  obtain rfl : i = 25 := by omega
  exact k
theorem s_X10_allGrass {xs : List Int} {d : Nat} {M : z_M} {P : Option z_V → z_L → z_M → Prop} (hF : z_fix M) (hC : z_mc M) (k : P (some (0, z_agm M)) z_LL M) : wp xs (d + 1) mX10_allGrass 0 [(2, 321), (3, 0), (3, 0)] [] z_LL M P := by
  have hx := z_mc_cells hC
  refine gX10_allGrass_0 ?_
  refine z_loop (W := fun i => wp xs (d + 1) mX10_allGrass 4 [(2, 321), (0, z_wss (fun c => M 343 (54 + c)) i), (0, (i : Int))] [] z_LL M P) (M 321 46 * M 321 47).toNat (fun i hi ih => ?_)
  have g := gX10_allGrass_4 (M := M) (xs := xs) (d := d) (P := P) (x1 := z_wss (fun c => M 343 (54 + c)) i) (x2 := (i : Int)) hF hC
  simp only [z_in1 (i := i) (by omega), z_wid (x := 54 + (i : Int)) (by omega)] at g
  refine g (fun c => ?_) (fun _ => by omega) (fun c => ih (by omega))
  unfold z_agm at k
  rw [show (M 321 46 * M 321 47).toNat = i by omega] at k
  exact k
theorem s_X10_allMatched {xs : List Int} {d : Nat} {M : z_M} {P : Option z_V → z_L → z_M → Prop} (hF : z_fix M) (hC : z_mc M) (k : P (some (0, z_amm M)) z_LL M) : wp xs (d + 1) mX10_allMatched 0 [(2, 321), (3, 0), (3, 0)] [] z_LL M P := by
  have hn := hC.2.2.1
  refine gX10_allMatched_0 ?_
  refine z_loop (W := fun i => wp xs (d + 1) mX10_allMatched 4 [(2, 321), (0, z_cnt (fun f => ¬ M 343 (12 + f) < 0) i), (0, (i : Int))] [] z_LL M P) (M 321 48).toNat (fun i hi ih => ?_)
  have g := gX10_allMatched_4 (M := M) (xs := xs) (d := d) (P := P) (x1 := z_cnt (fun f => ¬ M 343 (12 + f) < 0) i) (x2 := (i : Int)) hF
  have hb := z_cnt_b (fun f => ¬ M 343 (12 + f) < 0) i
  simp only [z_in1 (i := i) (by omega), z_wid (x := 12 + (i : Int)) (by omega), z_wid (x := z_cnt (fun f => ¬ M 343 (12 + f) < 0) i + 1) (by omega), Int.add_zero, z_wid (x := z_cnt (fun f => ¬ M 343 (12 + f) < 0) i) (by omega)] at g
  refine g (fun c => ?_) (fun _ => by omega) (fun c e => ?_) (fun c e => ?_)
  · unfold z_amm at k
    rw [show (M 321 48).toNat = i by omega] at k
    exact k
  · have ih := ih (by omega)
    rw [z_cnt_0 (p := fun f => ¬ M 343 (12 + f) < 0) (fun q => q e)] at ih
    exact ih
  · have ih := ih (by omega)
    rw [z_cnt_1 (p := fun f => ¬ M 343 (12 + f) < 0) e] at ih
    exact ih
theorem s_X10_pens {xs : List Int} {d : Nat} {M : z_M} {P : Option z_V → z_L → z_M → Prop} (hF : z_fix M) (hC : z_mc M) (k : P (some (0, z_pnm M)) z_LL M) : wp xs d mX10_pens 0 [(2, 321), (3, 0), (3, 0)] [] z_LL M P := by
  have hn := hC.2.2.1
  refine gX10_pens_0 ?_
  refine z_loop (W := fun i => wp xs d mX10_pens 4 [(2, 321), (0, z_pnr (M 342) i), (0, (i : Int))] [] z_LL M P) (M 321 48).toNat (fun i hi ih => ?_)
  have g := gX10_pens_4 (M := M) (xs := xs) (d := d) (P := P) (x1 := z_pnr (M 342) i) (x2 := (i : Int)) hF
  simp only [z_in1 (i := i) (by omega), z_wid (x := 6 + (i : Int)) (by omega)] at g
  refine g (fun c => ?_) (fun _ => by omega) (fun c => ih (by omega))
  unfold z_pnm at k
  rw [show (M 321 48).toNat = i by omega] at k
  exact k
theorem s_X10_members {xs : List Int} {d : Nat} {M : z_M} {P : Option z_V → z_L → z_M → Prop} {x : Int} (k : P (some (0, z_mbr x)) z_LL M) : wp xs d mX10_members 0 [(0, x), (3, 0), (3, 0)] [] z_LL M P := by
  refine gX10_members_0 ?_
  refine z_loop (W := fun i => wp xs d mX10_members 4 [(0, x), (0, z_mbs x i), (0, (i : Int))] [] z_LL M P) 6 (fun i hi ih => ?_)
  have g := gX10_members_4 (M := M) (xs := xs) (d := d) (P := P) (x0 := x) (x1 := z_mbs x i) (x2 := (i : Int))
  simp only [z_in1 (i := i) (by omega)] at g
  refine g (fun c => ?_) (fun c => ih (by omega))
  obtain rfl : i = 6 := by omega
  exact k
theorem s_X10_flocksIn {xs : List Int} {d : Nat} {M : z_M} {P : Option z_V → z_L → z_M → Prop} {c : Int} (hF : z_fix M) (hC : z_mc M) (k : P (some (0, z_fli M c)) z_LL M) : wp xs (d + 1) mX10_flocksIn 0 [(2, 321), (0, c), (3, 0), (3, 0)] [] z_LL M P := by
  have hn := hC.2.2.1
  refine gX10_flocksIn_0 ?_
  refine z_loop (W := fun i => wp xs (d + 1) mX10_flocksIn 4 [(2, 321), (0, c), (0, z_set (fun f => M 342 f = c) i), (0, (i : Int))] [] z_LL M P) (M 321 48).toNat (fun i hi ih => ?_)
  have g := gX10_flocksIn_4 (M := M) (xs := xs) (d := d) (P := P) (x1 := c) (x2 := z_set (fun f => M 342 f = c) i) (x3 := (i : Int)) hF
  simp only [z_in1 (i := i) (by omega), z_or_sh0 (p := fun f => M 342 f = c) (n := i) (k := i) (by omega)] at g
  refine g (fun c => ?_) (fun _ => by omega) (fun c e => ?_) (fun c e => ?_)
  · unfold z_fli at k
    rw [show (M 321 48).toNat = i by omega] at k
    exact k
  · have ih := ih (by omega)
    rw [z_set_n e] at ih
    exact ih
  · have ih := ih (by omega)
    rw [z_set_y (p := fun f => M 342 f = _) (Classical.byContradiction e)] at ih
    exact ih
