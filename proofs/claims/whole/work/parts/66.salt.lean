/-! salt that nobody looks at changes nothing -/
section
variable {M : z_M} {B : Int → Prop} {s t : Int → Int}
/-- but for the salt in B two snapshots are alike -/
def z_eqs (B : Int → Prop) (s t : Int → Int) : Prop := ∀ k, ¬ (79 ≤ k ∧ k < 104 ∧ B (k - 79)) → s k = t k
theorem z_eqs_o (h : z_eqs B s t) {k : Int} (hk : ¬ (79 ≤ k ∧ k < 104)) : s k = t k := h k (fun q => hk ⟨q.1, q.2.1⟩)
theorem z_eqs_pt (h : z_eqs B s t) {i x y : Int} (e : x = y) : z_eqs B (z_pt s i x) (z_pt t i y) := fun k hk => by
  by_cases c : k = i
  · rw [c, z_pt_s, z_pt_s, e]
  · rw [z_pt_n c, z_pt_n c, h k hk]
theorem z_pul_s (h : z_eqs B s t) {f c : Int} (hf : 0 ≤ f ∧ f < 6) (hn : M 321 48 ≤ 6) (hc : 0 ≤ c ∧ c < 25) (hb : ¬ B c) : z_pul M s f c = z_pul M t f c := by
  have e : z_ask M s f c = z_ask M t f c := by
    funext k
    have o : z_ots M s f c = z_ots M t f c := by
      unfold z_ots
      refine z_cnt_c (fun g h1 h2 => ?_)
      rw [z_eqs_o h (k := g) (by omega)]
    unfold z_ask
    rw [z_eqs_o h (k := 54 + c) (by omega), h (79 + c) (fun q => hb (by rw [show c = 79 + c - 79 by omega]; exact q.2.2)), z_eqs_o h (k := f) (by omega), z_eqs_o h (k := 104) (by omega), o]
  unfold z_pul
  rw [e]
theorem z_bst_s2 {f : Int} (e : s f = t f) (hc : 0 ≤ s f ∧ s f < M 321 46 * M 321 47) (h : ∀ c : Int, 0 ≤ c → c < M 321 46 * M 321 47 → (c = s f ∨ z_far (M 321 46) (s f) c = 1) → z_pul M s f c = z_pul M t f c) : ∀ m : Nat, (m : Int) ≤ M 321 46 * M 321 47 → z_bst M s f m = z_bst M t f m
  | 0, _ => by rw [z_bst, z_bst, ← e, h _ hc.1 hc.2 (Or.inl rfl)]
  | m + 1, hm => by
    rw [z_bst, z_bst, ← e, z_bst_s2 e hc h m (by omega)]
    by_cases q : z_far (M 321 46) (s f) m = 1
    · rw [h m (by omega) (by omega) (Or.inr q)]
    · rw [if_neg (fun w => q w.1), if_neg (fun w => q w.1)]
theorem z_gl_s2 {f : Int} (e : s f = t f) (e6 : s (6 + f) = t (6 + f)) (hc : 0 ≤ s f ∧ s f < M 321 46 * M 321 47) (h : s (6 + f) ≠ 1 → ∀ c : Int, 0 ≤ c → c < M 321 46 * M 321 47 → (c = s f ∨ z_far (M 321 46) (s f) c = 1) → z_pul M s f c = z_pul M t f c) : z_gl M s f = z_gl M t f := by
  unfold z_gl
  rw [← e6]
  by_cases c : s (6 + f) = 1
  · rw [if_pos c, if_pos c, e]
  · rw [if_neg c, if_neg c, z_bst_s2 e hc (h c) _ (by omega)]
theorem z_eat_s (h : z_eqs B s t) {n : Nat} (hn : n ≤ 6) (hr : ∀ f : Int, 0 ≤ f → f < n → 0 ≤ s f ∧ s f < 25) : ∀ f : Nat, f ≤ n → z_eqs B (z_eat M s f) (z_eat M t f)
  | 0, _ => h
  | f + 1, hf => by
    have ih := z_eat_s h hn hr f (by omega)
    have r := hr f (by omega) (by omega)
    rw [z_eat, z_eat, ← z_eqs_o h (k := (f : Int)) (by omega)]
    refine z_eqs_pt ih ?_
    rw [z_eqs_o ih (k := 54 + s f) (by omega)]
theorem z_mt1_s {ev : Int} {T U : (Int → Int) × Int} (h : z_eqs B T.1 U.1) {a b : Int} (ha : 0 ≤ a ∧ a < 6) (hb : 0 ≤ b ∧ b < 6) : z_eqs B (z_mt1 M ev T a b).1 (z_mt1 M ev U a b).1 := by
  unfold z_mt1
  rw [z_eqs_o h (k := 18 + 6 * a + b) (by omega), z_eqs_o h (k := 12 + a) (by omega), z_eqs_o h (k := 12 + b) (by omega)]
  by_cases c : z_cm M a b ∧ ¬ U.1 (18 + 6 * a + b) < ev ∧ U.1 (12 + a) < 0 ∧ U.1 (12 + b) < 0
  · rw [if_pos c, if_pos c]
    exact z_eqs_pt (z_eqs_pt h rfl) rfl
  · rw [if_neg c, if_neg c]
    exact h
theorem z_mti_s {ev : Int} {T U : (Int → Int) × Int} {n : Nat} (hn : n ≤ 6) (h : z_eqs B T.1 U.1) {a : Nat} : ∀ j : Nat, a + 1 + j ≤ n → z_eqs B (z_mti M ev T a j).1 (z_mti M ev U a j).1
  | 0, _ => h
  | j + 1, hj => by
    rw [z_mti, z_mti]
    exact z_mt1_s (z_mti_s hn h j (by omega)) (by omega) (by omega)
theorem z_mto_s {ev : Int} {T U : (Int → Int) × Int} {n : Nat} (hn : n ≤ 6) (h : z_eqs B T.1 U.1) : ∀ a : Nat, a ≤ n → z_eqs B (z_mto M ev T n a).1 (z_mto M ev U n a).1
  | 0, _ => h
  | a + 1, ha => by
    rw [z_mto, z_mto]
    exact z_mti_s hn (z_mto_s hn h a (by omega)) _ (by omega)
theorem z_rai_s2 (hC : z_mc M) (h : z_eqs B s t) : z_eqs B (z_rai M s) (z_rai M t) := by
  have hx := z_mc_cells hC
  unfold z_rai
  rw [← z_eqs_o h (k := 105) (by omega)]
  have h2 : z_eqs B (z_pt s 105 (z_sd (s 105))) (z_pt t 105 (z_sd (s 105))) := z_eqs_pt h rfl
  by_cases c : z_sd (s 105) % 100 < M 321 50
  · rw [if_pos c, if_pos c]
    intro k hk
    unfold z_rap
    rw [h2 k hk]
  · rw [if_neg c, if_neg c]
    exact h2
theorem z_day_s {D ev : Int} (hC : z_mc M) (hS : z_sn M D s) (h : z_eqs B s t) (hg : ∀ f : Int, 0 ≤ f → f < M 321 48 → z_gl M s f = z_gl M t f) : z_eqs B (z_day M ev s) (z_day M ev t) := by
  have hn := hC.2.2.1
  have hx := z_mc_cells hC
  have h1 : z_eqs B (z_d1 M s) (z_d1 M t) := fun k hk => by
    unfold z_d1 z_mv
    by_cases c : 0 ≤ k ∧ k < M 321 48
    · rw [if_pos c, if_pos c, hg k c.1 c.2]
    · rw [if_neg c, if_neg c, h k hk]
  have h2 : z_eqs B (z_d2 M s) (z_d2 M t) := z_eat_s (n := (M 321 48).toNat) h1 (by omega) (fun f a b => by
    have := z_d1_at (M := M) (xs := []) (d := 0) (P := fun _ _ _ => True) hS a (by omega)
    omega) _ (Nat.le_refl _)
  have h3 : z_eqs B (z_d3 M s) (z_d3 M t) := fun k hk => by
    unfold z_d3 z_slt
    rw [h2 k hk]
  have h4 : z_eqs B (z_d4 M s) (z_d4 M t) := fun k hk => by
    unfold z_d4 z_evn
    rw [h3 k hk]
    by_cases c : 18 ≤ k ∧ k < 54
    · have e : z_evc M (z_d3 M s) k ↔ z_evc M (z_d3 M t) k := by
        unfold z_evc
        rw [z_eqs_o h3 (k := (k - 18) / 6) (by omega), z_eqs_o h3 (k := (k - 18) % 6) (by omega)]
      rw [propext e]
    · rw [if_neg (fun q => c ⟨q.1, q.2.1⟩), if_neg (fun q => c ⟨q.1, q.2.1⟩)]
  have h5 : z_eqs B (z_d5 M ev s).1 (z_d5 M ev t).1 := z_mto_s (by omega) (show z_eqs B (z_d4 M s, (0 : Int)).1 (z_d4 M t, (0 : Int)).1 from h4) _ (Nat.le_refl _)
  have h6 : z_eqs B (z_d6 M ev s) (z_d6 M ev t) := z_rai_s2 hC h5
  unfold z_day
  refine z_eqs_pt h6 ?_
  rw [z_eqs_o h6 (k := 104) (by omega)]
/-- salt where nobody looks changes nothing -/
theorem z_day_nl {D ev : Int} (hC : z_mc M) (hS : z_sn M D s) (h : z_eqs B s t) (hl : ∀ c : Int, 0 ≤ c → c < 25 → B c → ¬ z_lkn M s (M 321 48).toNat c) : z_eqs B (z_day M ev s) (z_day M ev t) := by
  have hn := hC.2.2.1
  have hx := z_mc_cells hC
  refine z_day_s hC hS h (fun f h1 h2 => ?_)
  have r := (hS.1 f h1 h2).1
  refine z_gl_s2 (z_eqs_o h (by omega)) (z_eqs_o h (by omega)) r (fun hp c c1 c2 hc => ?_)
  refine z_pul_s h (by omega) (by omega) (by omega) (fun b => hl c c1 (by omega) b ⟨f.toNat, by omega, ?_⟩)
  rw [show ((f.toNat : Nat) : Int) = f by omega]
  refine ⟨hp, hc.elim Or.inl (fun q => Or.inr ?_)⟩
  exact (z_nb_far ⟨by have := hC.1; omega, by have := hC.1; omega⟩ ⟨by have := hC.2.1; omega, by have := hC.2.1; omega⟩ r ⟨c1, c2⟩).mp q
/-- the formula reads no salt -/
def z_nos (M : z_M) : Prop := ∀ A A' : Int → Int, (∀ j : Int, j ≠ 1 → A j = A' j) → z_frm M A = z_frm M A'
theorem z_day_ns {D ev : Int} (hC : z_mc M) (hN : z_nos M) (hS : z_sn M D s) (h : z_eqs B s t) : z_eqs B (z_day M ev s) (z_day M ev t) := by
  have hn := hC.2.2.1
  have hx := z_mc_cells hC
  refine z_day_s hC hS h (fun f h1 h2 => ?_)
  have r := (hS.1 f h1 h2).1
  refine z_gl_s2 (z_eqs_o h (by omega)) (z_eqs_o h (by omega)) r (fun hp c c1 c2 hc => ?_)
  unfold z_pul
  refine hN _ _ (fun k hk => ?_)
  have o : z_ots M s f c = z_ots M t f c := by
    unfold z_ots
    refine z_cnt_c (fun g h1 h2 => ?_)
    rw [z_eqs_o h (k := g) (by omega)]
  unfold z_ask
  rw [if_neg hk, if_neg hk, z_eqs_o h (k := 54 + c) (by omega), z_eqs_o h (k := f) (by omega), z_eqs_o h (k := 104) (by omega), o]
theorem z_fst_ns {kd ar A A' : Int → Int} (hA : ∀ j : Int, j ≠ 1 → A j = A' j) : ∀ k : Nat, (∀ i : Nat, i < k → kd i = 1 → ar i ≠ 1) → z_fst kd ar A k = z_fst kd ar A' k
  | 0, _ => rfl
  | k + 1, h => by
    have ih := z_fst_ns hA k (fun i hi => h i (by omega))
    have w := h k (by omega)
    unfold z_fst
    rw [ih]
    by_cases c : kd k = 1
    · rw [hA _ (w c)]
    · rw [if_neg c, if_neg c]
theorem z_nos_of (hP : z_fp M) {g : Int} (hG : z_gg M g) (h : ∀ i : Nat, (i : Int) < M g 15 → M (g + 8) i ≠ -20) (h0 : M g 15 ≠ 0) : z_nos M := by
  obtain ⟨w0, w1⟩ := hG.2.2.2.2
  by_cases c : M 321 59 = 0
  · exact absurd (w0 c) h0
  obtain ⟨e1, e2, e3⟩ := w1 c
  obtain ⟨p1, p2, p3, p4⟩ := hP c
  intro A A' hA
  unfold z_frm
  rw [if_pos c, if_pos c, z_fst_ns hA _ (fun i hi hk => ?_)]
  intro ha
  have e := e3 i (by omega)
  have n := h i (by omega)
  unfold z_stp z_unk at e
  rcases e with ⟨q, _⟩ | ⟨q, kk, q2, q3⟩ | ⟨q, _⟩ | ⟨q, _⟩
  · omega
  · omega
  · omega
  · omega
end
