/-! bits -/
theorem z_sm : ∀ k : Nat, k < 32 → ((Int32.ofInt (k : Int) &&& 31).toBitVec.smod 32).toNat = k := by decide +kernel
theorem z_bt_eq {x : Int} {k : Nat} (h : k < 32) : z_and (z_shr x k) 1 = if (Int32.ofInt x).toBitVec.getLsbD k then 1 else 0 := by
  unfold z_and z_shr
  rw [Int32.ofInt_toInt]
  show ((Int32.ofInt x >>> (Int32.ofInt (k : Int) &&& 31) &&& Int32.ofInt 1).toBitVec).toInt = _
  rw [Int32.toBitVec_and, Int32.toBitVec_shiftRight, show (Int32.ofInt 1).toBitVec = 1#32 from rfl, BitVec.and_one_eq_setWidth_ofBool_getLsbD, BitVec.getLsbD_sshiftRight', z_sm k h]
  rw [if_pos (by omega)]
  simp only [Nat.add_zero]
  cases (Int32.ofInt x).toBitVec.getLsbD k <;> decide
/-- the bit of a place -/
def z_bt (x c : Int) : Prop := z_and (z_shr x c) 1 ≠ 0
theorem z_bt_l {x : Int} {k : Nat} (h : k < 32) : z_bt x k ↔ (Int32.ofInt x).toBitVec.getLsbD k = true := by
  unfold z_bt
  rw [z_bt_eq h]
  cases (Int32.ofInt x).toBitVec.getLsbD k <;> simp
theorem z_bt_01 {x : Int} {c : Int} (h : 0 ≤ c ∧ c < 32) : z_and (z_shr x c) 1 = z_b (z_bt x c) := by
  obtain ⟨k, rfl⟩ : ∃ k : Nat, c = k := ⟨c.toNat, by omega⟩
  by_cases e : z_bt x k
  · rw [z_b_t e]
    rw [z_bt_l (by omega)] at e
    rw [z_bt_eq (by omega), e]
    rfl
  · rw [z_b_f e]
    unfold z_bt at e
    exact Classical.byContradiction e
theorem z_bt_or {x y c : Int} (h : 0 ≤ c ∧ c < 32) : z_bt (z_or x y) c ↔ z_bt x c ∨ z_bt y c := by
  obtain ⟨k, rfl⟩ : ∃ k : Nat, c = k := ⟨c.toNat, by omega⟩
  rw [z_bt_l (by omega), z_bt_l (by omega), z_bt_l (by omega)]
  unfold z_or
  rw [Int32.ofInt_toInt, Int32.toBitVec_or, BitVec.getLsbD_or, Bool.or_eq_true]
theorem z_bt_sl : ∀ a : Nat, a < 32 → ∀ k : Nat, k < 32 → (Int32.ofInt (z_shl 1 a)).toBitVec.getLsbD k = decide (a = k) := by decide +kernel
theorem z_bt_shl {a c : Int} (ha : 0 ≤ a ∧ a < 32) (h : 0 ≤ c ∧ c < 32) : z_bt (z_shl 1 a) c ↔ a = c := by
  obtain ⟨k, rfl⟩ : ∃ k : Nat, c = k := ⟨c.toNat, by omega⟩
  obtain ⟨j, rfl⟩ : ∃ j : Nat, a = j := ⟨a.toNat, by omega⟩
  rw [z_bt_l (by omega), z_bt_sl j (by omega) k (by omega), decide_eq_true_eq]
  omega
theorem z_bt_0 {c : Int} (h : 0 ≤ c ∧ c < 32) : ¬ z_bt 0 c := by
  obtain ⟨k, rfl⟩ : ∃ k : Nat, c = k := ⟨c.toNat, by omega⟩
  rw [z_bt_l (by omega)]
  simp
theorem z_bt_n {x k : Nat} (hx : x < 2147483648) (h : k < 32) : z_and (z_shr (x : Int) k) 1 = ((x / 2 ^ k % 2 : Nat) : Int) := by
  rw [z_bt_eq h, Int32.toBitVec_ofInt, BitVec.ofInt_natCast, BitVec.getLsbD_ofNat, Nat.testBit_eq_decide_div_mod_eq]
  have : x / 2 ^ k % 2 = 0 ∨ x / 2 ^ k % 2 = 1 := by omega
  rcases this with e | e <;> simp [e, h]
theorem z_pens_r {s : Int → Int} {n : Nat} (hs : ∀ f : Int, 0 ≤ f → f < n → s (6 + f) = 0 ∨ s (6 + f) = 1) (hn : n ≤ 6) : 0 ≤ z_pens s n ∧ z_pens s n < 64 := by
  have h0 := hs 0
  have h1 := hs 1
  have h2 := hs 2
  have h3 := hs 3
  have h4 := hs 4
  have h5 := hs 5
  have : n = 0 ∨ n = 1 ∨ n = 2 ∨ n = 3 ∨ n = 4 ∨ n = 5 ∨ n = 6 := by omega
  clear hs
  rcases this with rfl | rfl | rfl | rfl | rfl | rfl | rfl <;> simp [z_pens] at * <;> omega
theorem z_pens_b {s : Int → Int} {n : Nat} (hs : ∀ f : Int, 0 ≤ f → f < n → s (6 + f) = 0 ∨ s (6 + f) = 1) (hn : n ≤ 6) {f : Int} (hf : 0 ≤ f ∧ f < n) : z_and (z_shr (z_pens s n) f) 1 = s (6 + f) := by
  have hr := z_pens_r hs hn
  obtain ⟨k, rfl⟩ : ∃ k : Nat, f = k := ⟨f.toNat, by omega⟩
  obtain ⟨x, hx⟩ : ∃ x : Nat, z_pens s n = (x : Int) := ⟨(z_pens s n).toNat, by omega⟩
  rw [hx, z_bt_n (by omega) (by omega)]
  have h0 := hs 0
  have h1 := hs 1
  have h2 := hs 2
  have h3 := hs 3
  have h4 := hs 4
  have h5 := hs 5
  have hk : k = 0 ∨ k = 1 ∨ k = 2 ∨ k = 3 ∨ k = 4 ∨ k = 5 := by omega
  have : n = 0 ∨ n = 1 ∨ n = 2 ∨ n = 3 ∨ n = 4 ∨ n = 5 ∨ n = 6 := by omega
  clear hs
  rcases this with rfl | rfl | rfl | rfl | rfl | rfl | rfl <;> simp [z_pens] at * <;> rcases hk with rfl | rfl | rfl | rfl | rfl | rfl <;> simp at * <;> omega
theorem z_pens_c {s t : Int → Int} : ∀ {n : Nat}, (∀ f : Int, 0 ≤ f → f < n → s (6 + f) = t (6 + f)) → z_pens s n = z_pens t n
  | 0, _ => rfl
  | n + 1, h => by
    rw [z_pens, z_pens, z_pens_c (fun f a b => h f a (by omega)), h n (by omega) (by omega)]
