/-! TOKENS of a text of n bytes b -/
def z_isl (x : Int) : Bool := decide (97 ≤ x ∧ x ≤ 122)
def z_isd (x : Int) : Bool := decide (48 ≤ x ∧ x ≤ 57)
def z_isb (x : Int) : Bool := decide (x = 32 ∨ x = 10)
def z_isg (x : Int) : Prop := x = 59 ∨ x = 40 ∨ x = 41 ∨ x = 60 ∨ x = 62 ∨ x = 61 ∨ x = 43 ∨ x = 45 ∨ x = 42 ∨ x = 47 ∨ x = 37
theorem z_isl_t {x : Int} : z_isl x = true ↔ (97 ≤ x ∧ x ≤ 122) := decide_eq_true_iff
theorem z_isd_t {x : Int} : z_isd x = true ↔ (48 ≤ x ∧ x ≤ 57) := decide_eq_true_iff
theorem z_isb_t {x : Int} : z_isb x = true ↔ (x = 32 ∨ x = 10) := decide_eq_true_iff
def z_run (ok : Int → Bool) (b : Int → Int) (n : Int) : Nat → Int → Int
  | 0, p => p
  | k + 1, p => if p < n ∧ ok (b p) = true then z_run ok b n k (p + 1) else p
/-- where a run of such bytes ends -/
def z_nd (ok : Int → Bool) (b : Int → Int) (n p : Int) : Int := z_run ok b n (n - p).toNat p
section
variable {ok : Int → Bool} {b : Int → Int} {n p : Int}
theorem z_nd_y (h : p < n) (h2 : ok (b p) = true) : z_nd ok b n p = z_nd ok b n (p + 1) := by
  unfold z_nd
  rw [show (n - p).toNat = (n - (p + 1)).toNat + 1 by omega, z_run, if_pos ⟨h, h2⟩]
theorem z_nd_n (h : ¬ (p < n ∧ ok (b p) = true)) : z_nd ok b n p = p := by
  unfold z_nd
  cases (n - p).toNat with
  | zero => rfl
  | succ k => rw [z_run, if_neg h]
theorem z_run_b : ∀ (k : Nat) (p : Int), p ≤ z_run ok b n k p ∧ (p ≤ n → z_run ok b n k p ≤ n) ∧ ∀ i : Int, p ≤ i → i < z_run ok b n k p → i < n ∧ ok (b i) = true
  | 0, p => by
    unfold z_run
    exact ⟨Int.le_refl _, id, fun i _ _ => by omega⟩
  | k + 1, p => by
    have ih := z_run_b k (p + 1)
    unfold z_run
    split
    · rename_i h
      refine ⟨by omega, fun _ => ih.2.1 (by omega), fun i a c => ?_⟩
      by_cases e : i = p
      · rw [e]
        exact h
      · exact ih.2.2 i (by omega) c
    · exact ⟨Int.le_refl _, id, fun i _ _ => by omega⟩
theorem z_nd_b : p ≤ z_nd ok b n p ∧ (p ≤ n → z_nd ok b n p ≤ n) ∧ ∀ i : Int, p ≤ i → i < z_nd ok b n p → i < n ∧ ok (b i) = true := z_run_b _ _
theorem z_nd_e : ∀ (k : Nat) (q : Int), q = p + k → q ≤ z_nd ok b n p → z_nd ok b n p = z_nd ok b n q
  | 0, q, h, _ => by rw [h]; simp
  | k + 1, q, h, h2 => by
    have ih := z_nd_e k (q - 1) (by omega) (by omega)
    have := (z_nd_b (ok := ok) (b := b) (n := n) (p := p)).2.2 (q - 1) (by omega) (by omega)
    rw [ih, z_nd_y this.1 this.2, show q - 1 + 1 = q by omega]
/-- a run goes on -/
theorem z_nd_i {q : Int} (h1 : p ≤ q) (h2 : q ≤ z_nd ok b n p) : (q < n ∧ ok (b q) = true → q + 1 ≤ z_nd ok b n p) ∧ (¬ (q < n ∧ ok (b q) = true) → z_nd ok b n p = q) := by
  have e := z_nd_e (ok := ok) (b := b) (n := n) (p := p) (q - p).toNat q (by omega) h2
  refine ⟨fun h => ?_, fun h => by rw [e, z_nd_n h]⟩
  rw [e, z_nd_y h.1 h.2]
  exact (z_nd_b (p := q + 1)).1
end
/-- letters, the last one first -/
def z_ltr (b : Int → Int) (q : Int) : Nat → List Int
  | 0 => []
  | k + 1 => b (q + k) :: z_ltr b q k
def z_c5 : List Int → Int
  | [] => 0
  | x :: l => z_c5 l * 32 + (x - 96)
def z_c8 : List Int → Int
  | [] => 0
  | x :: l => z_c8 l * 256 + x
def z_glt (l : List Int) : Prop := ∀ x, x ∈ l → 97 ≤ x ∧ x ≤ 122
theorem z_c5_b : ∀ l : List Int, z_glt l → 0 ≤ z_c5 l ∧ z_c5 l < 32 ^ l.length
  | [], _ => by decide
  | x :: l, h => by
    have ih := z_c5_b l (fun y hy => h y (List.mem_cons_of_mem _ hy))
    have := h x List.mem_cons_self
    rw [z_c5, List.length_cons, Int.pow_succ]
    omega
theorem z_c8_b : ∀ l : List Int, z_glt l → 0 ≤ z_c8 l ∧ z_c8 l < 256 ^ l.length
  | [], _ => by decide
  | x :: l, h => by
    have ih := z_c8_b l (fun y hy => h y (List.mem_cons_of_mem _ hy))
    have := h x List.mem_cons_self
    rw [z_c8, List.length_cons, Int.pow_succ]
    omega
theorem z_c5_i : ∀ l m : List Int, z_glt l → z_glt m → z_c5 l = z_c5 m → l = m
  | [], [], _, _, _ => rfl
  | [], x :: m, _, hm, e => by
    have b := z_c5_b m (fun y hy => hm y (List.mem_cons_of_mem _ hy))
    have := hm x List.mem_cons_self
    rw [z_c5, z_c5] at e
    omega
  | x :: l, [], hl, _, e => by
    have b := z_c5_b l (fun y hy => hl y (List.mem_cons_of_mem _ hy))
    have := hl x List.mem_cons_self
    rw [z_c5, z_c5] at e
    omega
  | x :: l, y :: m, hl, hm, e => by
    have := hl x List.mem_cons_self
    have := hm y List.mem_cons_self
    rw [z_c5, z_c5] at e
    rw [z_c5_i l m (fun y hy => hl y (List.mem_cons_of_mem _ hy)) (fun y hy => hm y (List.mem_cons_of_mem _ hy)) (by omega), show x = y by omega]
theorem z_c8_i : ∀ l m : List Int, z_glt l → z_glt m → z_c8 l = z_c8 m → l = m
  | [], [], _, _, _ => rfl
  | [], x :: m, _, hm, e => by
    have b := z_c8_b m (fun y hy => hm y (List.mem_cons_of_mem _ hy))
    have := hm x List.mem_cons_self
    rw [z_c8, z_c8] at e
    omega
  | x :: l, [], hl, _, e => by
    have b := z_c8_b l (fun y hy => hl y (List.mem_cons_of_mem _ hy))
    have := hl x List.mem_cons_self
    rw [z_c8, z_c8] at e
    omega
  | x :: l, y :: m, hl, hm, e => by
    have := hl x List.mem_cons_self
    have := hm y List.mem_cons_self
    rw [z_c8, z_c8] at e
    rw [z_c8_i l m (fun y hy => hl y (List.mem_cons_of_mem _ hy)) (fun y hy => hm y (List.mem_cons_of_mem _ hy)) (by omega), show x = y by omega]
/-- the words that stand for themselves -/
def z_kwl : List (List Int) := [[101, 103, 114, 111, 103], [121, 98], [110, 101, 101, 114, 103], [115, 115, 97, 114, 103], [107, 99, 111, 108, 102], [101, 100, 105, 114, 98], [109, 111, 111, 114, 103], [116, 97], [101, 122, 105, 115], [115, 116, 110, 97, 119], [100, 117, 101, 102], [108, 108, 117, 112], [110, 105, 97, 114], [102, 111], [115, 103, 110, 105, 110, 101, 118, 101], [119, 97, 114, 100], [114, 111], [100, 110, 97], [116, 111, 110], [116, 108, 97, 115], [115, 114, 101, 104, 116, 111], [101, 109, 111, 104], [101, 114, 101, 104], [121, 97, 100]]
def z_own8 : List Int := [444251400037, 25209, 444300879214, 444300620659, 439905903467, 422826304613, 444301537133, 24948, 1936292453, 512735736947, 1717925220, 1886743660, 1918986606, 28518, 7311142569972230003, 1685217655, 28530, 6385252, 7237492, 1935764596, 122545758368371, 1752132965, 1751478885, 6578553]
def z_kwx (l : List Int) : List (List Int) → Nat → Int
  | [], _ => 24
  | w :: r, i => if l = w then (i : Int) else z_kwx l r (i + 1)
def z_kwd (l : List Int) : Int := z_kwx l z_kwl 0
theorem z_kwl_5 : ∀ i : Nat, i < 24 → z_rsv.getD i 0 = z_c5 (z_kwl.getD i []) := by decide +kernel
theorem z_kwl_8 : ∀ i : Nat, i < 24 → z_own8.getD i 0 = z_c8 (z_kwl.getD i []) := by decide +kernel
theorem z_kwl_k : ∀ i : Nat, i < 24 → z_kwd (z_kwl.getD i []) = i := by decide +kernel
theorem z_kwl_g : ∀ l, l ∈ z_kwl → z_glt l := by
  have : (z_kwl.all fun l => l.all fun x => decide (97 ≤ x ∧ x ≤ 122)) = true := by decide +kernel
  intro l hl x hx
  have h1 := List.all_eq_true.mp (List.all_eq_true.mp this l hl) x hx
  exact of_decide_eq_true h1
theorem z_kwl_m {i : Nat} (h : i < 24) : z_kwl.getD i [] ∈ z_kwl := by
  rw [List.getD_eq_getElem?_getD, List.getElem?_eq_getElem (show i < z_kwl.length from h)]
  exact List.getElem_mem _
theorem z_kwx_r (l : List Int) : ∀ (L : List (List Int)) (j : Nat), (∃ i : Nat, i < L.length ∧ L.getD i [] = l ∧ z_kwx l L j = ((j + i : Nat) : Int)) ∨ (l ∉ L ∧ z_kwx l L j = 24)
  | [], j => Or.inr ⟨List.not_mem_nil, rfl⟩
  | w :: r, j => by
    unfold z_kwx
    by_cases h : l = w
    · rw [if_pos h]
      exact Or.inl ⟨0, by rw [List.length_cons]; omega, h.symm, rfl⟩
    · rw [if_neg h]
      rcases z_kwx_r l r (j + 1) with ⟨i, h1, h2, h3⟩ | ⟨h1, h2⟩
      · exact Or.inl ⟨i + 1, by rw [List.length_cons]; omega, h2, by rw [h3]; omega⟩
      · exact Or.inr ⟨fun q => (List.mem_cons.mp q).elim h h1, h2⟩
theorem z_kwd_r (l : List Int) : (∃ i : Nat, i < 24 ∧ z_kwl.getD i [] = l ∧ z_kwd l = (i : Int)) ∨ (l ∉ z_kwl ∧ z_kwd l = 24) := by
  rcases z_kwx_r l z_kwl 0 with ⟨i, h1, h2, h3⟩ | h
  · exact Or.inl ⟨i, h1, h2, by unfold z_kwd; rw [h3]; omega⟩
  · exact Or.inr h
theorem z_kwd_b (l : List Int) : 0 ≤ z_kwd l ∧ z_kwd l ≤ 24 := by
  rcases z_kwd_r l with ⟨i, h1, _, h3⟩ | ⟨_, h⟩ <;> omega
/-- a word by its number -/
theorem z_kwd_8 {l : List Int} (hl : z_glt l) {i : Nat} (h : i < 24) : z_c8 l = z_own8.getD i 0 ↔ z_kwd l = i := by
  rw [z_kwl_8 i h]
  constructor
  · intro e
    rw [z_c8_i _ _ hl (z_kwl_g _ (z_kwl_m h)) e]
    exact z_kwl_k i h
  · intro e
    rcases z_kwd_r l with ⟨j, h1, h2, h3⟩ | ⟨_, h2⟩
    · rw [show i = j by omega, h2]
    · omega
theorem z_kwd_5 {l : List Int} (hl : z_glt l) {i : Nat} (h : i < 24) : z_rsv.getD i 0 = z_c5 l ↔ z_kwd l = i := by
  rw [z_kwl_5 i h]
  constructor
  · intro e
    rw [← z_c5_i _ _ (z_kwl_g _ (z_kwl_m h)) hl e]
    exact z_kwl_k i h
  · intro e
    rcases z_kwd_r l with ⟨j, h1, h2, h3⟩ | ⟨_, h2⟩
    · rw [show i = j by omega, h2]
    · omega
def z_own (x : Int) : Prop := x ∈ z_own8
theorem z_own_k {l : List Int} (hl : z_glt l) : z_own (z_c8 l) ↔ z_kwd l ≠ 24 := by
  constructor
  · intro h
    obtain ⟨i, h1, h2⟩ := List.getElem_of_mem h
    have h3 : i < 24 := h1
    have := (z_kwd_8 hl h3).mp (by rw [List.getD_eq_getElem?_getD, List.getElem?_eq_getElem h1]; exact h2.symm)
    omega
  · intro h
    rcases z_kwd_r l with ⟨i, h1, _, h3⟩ | ⟨_, h2⟩
    · have e := (z_kwd_8 hl h1).mpr h3
      unfold z_own
      rw [e, List.getD_eq_getElem?_getD, List.getElem?_eq_getElem (show i < z_own8.length from h1)]
      exact List.getElem_mem _
    · exact absurd h2 h
theorem z_ltr_l (b : Int → Int) (q : Int) : ∀ k : Nat, (z_ltr b q k).length = k
  | 0 => rfl
  | k + 1 => by rw [z_ltr, List.length_cons, z_ltr_l b q k]
theorem z_ltr_g {b : Int → Int} {q : Int} : ∀ k : Nat, (∀ i : Int, q ≤ i → i < q + k → z_isl (b i) = true) → z_glt (z_ltr b q k)
  | 0, _ => fun x hx => absurd hx List.not_mem_nil
  | k + 1, h => fun x hx => by
    rw [z_ltr, List.mem_cons] at hx
    rcases hx with hx | hx
    · rw [hx]
      exact z_isl_t.mp (h _ (by omega) (by omega))
    · exact z_ltr_g k (fun i a c => h i a (by omega)) x hx
/-- the number that digits tell -/
def z_vl (b : Int → Int) (q : Int) : Nat → Int
  | 0 => 0
  | k + 1 => z_vl b q k * 10 + b (q + k) - 48
theorem z_vl_b {b : Int → Int} {q : Int} : ∀ k : Nat, (∀ i : Int, q ≤ i → i < q + k → z_isd (b i) = true) → 0 ≤ z_vl b q k ∧ z_vl b q k < 10 ^ k
  | 0, _ => by
    rw [z_vl]
    decide
  | k + 1, h => by
    have ih := z_vl_b (b := b) (q := q) k (fun i a c => h i a (by omega))
    have := z_isd_t.mp (h (q + k) (by omega) (by omega))
    rw [z_vl, Int.pow_succ]
    omega
/-- the token at p -/
def zt_s (b : Int → Int) (n p : Int) : Int := z_nd z_isb b n p
noncomputable def zt_k (b : Int → Int) (n p : Int) : Int :=
  if n ≤ zt_s b n p then 26
  else if z_isl (b (zt_s b n p)) = true then (if 8 < z_nd z_isl b n (zt_s b n p) - zt_s b n p then 27 else z_kwd (z_ltr b (zt_s b n p) (z_nd z_isl b n (zt_s b n p) - zt_s b n p).toNat))
  else if z_isd (b (zt_s b n p)) = true then (if 4 < z_nd z_isd b n (zt_s b n p) - zt_s b n p ∨ (z_nd z_isd b n (zt_s b n p) < n ∧ z_isl (b (z_nd z_isd b n (zt_s b n p))) = true) then 27 else 25)
  else @ite Int (z_isg (b (zt_s b n p))) (Classical.propDecidable _) (b (zt_s b n p)) 27
def zt_x (b : Int → Int) (n p : Int) : Int :=
  if n ≤ zt_s b n p then zt_s b n p
  else if z_isl (b (zt_s b n p)) = true then z_nd z_isl b n (zt_s b n p)
  else if z_isd (b (zt_s b n p)) = true then z_nd z_isd b n (zt_s b n p)
  else zt_s b n p + 1
def zt_v (b : Int → Int) (n p : Int) : Int := z_vl b (zt_s b n p) (z_nd z_isd b n (zt_s b n p) - zt_s b n p).toNat
def zt_l (b : Int → Int) (n p : Int) : List Int := z_ltr b (zt_s b n p) (z_nd z_isl b n (zt_s b n p) - zt_s b n p).toNat
section
variable {b : Int → Int} {n p : Int}
theorem zt_s_b (h : 0 ≤ p ∧ p ≤ n) : p ≤ zt_s b n p ∧ zt_s b n p ≤ n := ⟨z_nd_b.1, z_nd_b.2.1 h.2⟩
theorem zt_x_b (h : 0 ≤ p ∧ p ≤ n) : (zt_s b n p ≤ zt_x b n p ∧ zt_x b n p ≤ n) ∧ (zt_k b n p ≠ 26 → zt_s b n p < zt_x b n p ∧ zt_s b n p < n) := by
  have s := zt_s_b (b := b) h
  unfold zt_x zt_k
  generalize zt_s b n p = q at *
  by_cases c1 : n ≤ q
  · rw [if_pos c1, if_pos c1]
    exact ⟨by omega, fun w => absurd rfl w⟩
  · rw [if_neg c1, if_neg c1]
    by_cases c2 : z_isl (b q) = true
    · rw [if_pos c2]
      have e := z_nd_b (ok := z_isl) (b := b) (n := n) (p := q)
      have f := (z_nd_i (ok := z_isl) (b := b) (n := n) (p := q) (Int.le_refl _) e.1).1 ⟨by omega, c2⟩
      have g := e.2.1 (by omega)
      exact ⟨by omega, fun _ => by omega⟩
    · rw [if_neg c2]
      by_cases c3 : z_isd (b q) = true
      · rw [if_pos c3]
        have e := z_nd_b (ok := z_isd) (b := b) (n := n) (p := q)
        have f := (z_nd_i (ok := z_isd) (b := b) (n := n) (p := q) (Int.le_refl _) e.1).1 ⟨by omega, c3⟩
        have g := e.2.1 (by omega)
        exact ⟨by omega, fun _ => by omega⟩
      · rw [if_neg c3]
        exact ⟨by omega, fun _ => by omega⟩
/-- what is a word -/
theorem zt_k_w (h : zt_k b n p ≤ 24) (hp : 0 ≤ p ∧ p ≤ n) : z_glt (zt_l b n p) ∧ (zt_l b n p).length ≤ 8 ∧ 1 ≤ (zt_l b n p).length ∧ zt_k b n p = z_kwd (zt_l b n p) ∧ 0 ≤ zt_k b n p := by
  have s := zt_s_b (b := b) hp
  unfold zt_l
  unfold zt_k at h ⊢
  generalize zt_s b n p = q at *
  by_cases c1 : n ≤ q
  · rw [if_pos c1] at h
    omega
  · rw [if_neg c1] at h ⊢
    by_cases c2 : z_isl (b q) = true
    · rw [if_pos c2] at h ⊢
      have e := z_nd_b (ok := z_isl) (b := b) (n := n) (p := q)
      have f := (z_nd_i (ok := z_isl) (b := b) (n := n) (p := q) (Int.le_refl _) e.1).1 ⟨by omega, c2⟩
      by_cases c3 : 8 < z_nd z_isl b n q - q
      · rw [if_pos c3] at h
        omega
      · rw [if_neg c3] at h ⊢
        refine ⟨z_ltr_g _ (fun i a c => (e.2.2 i a (by omega)).2), by rw [z_ltr_l]; omega, by rw [z_ltr_l]; omega, rfl, (z_kwd_b _).1⟩
    · rw [if_neg c2] at h
      by_cases c3 : z_isd (b q) = true
      · rw [if_pos c3] at h
        split at h <;> omega
      · rw [if_neg c3] at h
        split at h
        · rename_i c4
          unfold z_isg at c4
          omega
        · omega
/-- what is a number -/
theorem zt_k_n (h : zt_k b n p = 25) (hp : 0 ≤ p ∧ p ≤ n) : 0 ≤ zt_v b n p ∧ zt_v b n p ≤ 9999 := by
  have s := zt_s_b (b := b) hp
  unfold zt_v
  unfold zt_k at h
  generalize zt_s b n p = q at *
  by_cases c1 : n ≤ q
  · rw [if_pos c1] at h
    omega
  · rw [if_neg c1] at h
    by_cases c2 : z_isl (b q) = true
    · rw [if_pos c2] at h
      have := z_kwd_b (z_ltr b q (z_nd z_isl b n q - q).toNat)
      split at h <;> omega
    · rw [if_neg c2] at h
      by_cases c3 : z_isd (b q) = true
      · rw [if_pos c3] at h
        have e := z_nd_b (ok := z_isd) (b := b) (n := n) (p := q)
        split at h
        · omega
        · rename_i c4
          have v := z_vl_b (b := b) (q := q) (z_nd z_isd b n q - q).toNat (fun i a c => (e.2.2 i a (by omega)).2)
          have c5 : (z_nd z_isd b n q - q).toNat ≤ 4 := by omega
          generalize (z_nd z_isd b n q - q).toNat = k at *
          have : k = 0 ∨ k = 1 ∨ k = 2 ∨ k = 3 ∨ k = 4 := by omega
          rcases this with rfl | rfl | rfl | rfl | rfl <;> omega
      · rw [if_neg c3] at h
        split at h
        · rename_i c4
          unfold z_isg at c4
          omega
        · omega
/-- what else there is -/
theorem zt_k_k : (0 ≤ zt_k b n p ∧ zt_k b n p ≤ 27) ∨ z_isg (zt_k b n p) := by
  unfold zt_k
  split
  · exact Or.inl (by omega)
  · split
    · split
      · exact Or.inl (by omega)
      · have := z_kwd_b (z_ltr b (zt_s b n p) (z_nd z_isl b n (zt_s b n p) - zt_s b n p).toNat)
        exact Or.inl (by omega)
    · split
      · split
        · exact Or.inl (by omega)
        · exact Or.inl (by omega)
      · split
        · rename_i c
          exact Or.inr c
        · exact Or.inl (by omega)
end
