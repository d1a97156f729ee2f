/-! a sound day goes on soundly -/
theorem z_mti_ind {M : z_M} {ev : Int} {n : Nat} {Q : (Int → Int) × Int → Prop} (h : ∀ (t : (Int → Int) × Int) (a b : Int), 0 ≤ a → a < b → b < n → Q t → Q (z_mt1 M ev t a b)) {t : (Int → Int) × Int} {a : Nat} (ht : Q t) : ∀ j : Nat, a + 1 + j ≤ n → Q (z_mti M ev t a j)
  | 0, _ => ht
  | j + 1, hj => by
    rw [z_mti]
    exact h _ _ _ (by omega) (by omega) (by omega) (z_mti_ind h ht j (by omega))
theorem z_mto_ind {M : z_M} {ev : Int} {n : Nat} {Q : (Int → Int) × Int → Prop} (h : ∀ (t : (Int → Int) × Int) (a b : Int), 0 ≤ a → a < b → b < n → Q t → Q (z_mt1 M ev t a b)) {t : (Int → Int) × Int} (ht : Q t) : ∀ a : Nat, a ≤ n → Q (z_mto M ev t n a)
  | 0, _ => ht
  | a + 1, ha => by
    rw [z_mto]
    exact z_mti_ind h (z_mto_ind h ht a (by omega)) _ (by omega)
theorem z_mt1_o {M : z_M} {ev : Int} {t : (Int → Int) × Int} {a b k : Int} (ha : k ≠ 12 + a) (hb : k ≠ 12 + b) : (z_mt1 M ev t a b).1 k = t.1 k := by
  by_cases c : z_cm M a b ∧ ¬ t.1 (18 + 6 * a + b) < ev ∧ t.1 (12 + a) < 0 ∧ t.1 (12 + b) < 0
  · rw [z_mt1_y c.1 c.2.1 c.2.2.1 c.2.2.2]
    show z_pt (z_pt t.1 (12 + a) b) (12 + b) a k = _
    rw [z_pt_n hb, z_pt_n ha]
  · rw [z_mt1_n c]
theorem z_mto_o {M : z_M} {ev : Int} {t : (Int → Int) × Int} {n : Nat} {k : Int} (hk : ¬ (12 ≤ k ∧ k < 12 + n)) : (z_mto M ev t n n).1 k = t.1 k :=
  z_mto_ind (Q := fun u => u.1 k = t.1 k) (fun u a b h1 h2 h3 h => by rw [z_mt1_o (by omega) (by omega)]; exact h) rfl n (Nat.le_refl _)
theorem z_mto_r {M : z_M} {ev : Int} {t : (Int → Int) × Int} {n : Nat} (h : ∀ f : Int, 0 ≤ f → f < n → -1 ≤ t.1 (12 + f) ∧ t.1 (12 + f) < n) : ∀ f : Int, 0 ≤ f → f < n → -1 ≤ (z_mto M ev t n n).1 (12 + f) ∧ (z_mto M ev t n n).1 (12 + f) < n :=
  z_mto_ind (Q := fun u => ∀ f : Int, 0 ≤ f → f < n → -1 ≤ u.1 (12 + f) ∧ u.1 (12 + f) < n) (fun u a b h1 h2 h3 h f f1 f2 => by
    by_cases c : z_cm M a b ∧ ¬ u.1 (18 + 6 * a + b) < ev ∧ u.1 (12 + a) < 0 ∧ u.1 (12 + b) < 0
    · rw [z_mt1_y c.1 c.2.1 c.2.2.1 c.2.2.2]
      show -1 ≤ z_pt (z_pt u.1 (12 + a) b) (12 + b) a (12 + f) ∧ z_pt (z_pt u.1 (12 + a) b) (12 + b) a (12 + f) < n
      by_cases e : f = b
      · rw [e, z_pt_s]
        omega
      · rw [z_pt_n (by omega)]
        by_cases e : f = a
        · rw [e, z_pt_s]
          omega
        · rw [z_pt_n (by omega)]
          exact h f f1 f2
    · rw [z_mt1_n c]
      exact h f f1 f2) h n (Nat.le_refl _)
theorem z_evn_b {M : z_M} {s : Int → Int} {m k : Int} : s k ≤ z_evn M s m k ∧ z_evn M s m k ≤ s k + 1 := by
  unfold z_evn
  by_cases c : 18 ≤ k ∧ k < m ∧ z_evc M s k
  · rw [if_pos c]
    omega
  · rw [if_neg c]
    omega
theorem z_rai_o {M : z_M} {s : Int → Int} {k : Int} (h : ¬ (54 ≤ k ∧ k < 54 + M 321 46 * M 321 47)) (h2 : k ≠ 105) : z_rai M s k = s k := by
  unfold z_rai
  by_cases c : z_sd (s 105) % 100 < M 321 50
  · rw [if_pos c, z_rap_o h, z_pt_n h2]
  · rw [if_neg c, z_pt_n h2]
theorem z_rai_g {M : z_M} {s : Int → Int} {k : Int} (hC : z_mc M) (h2 : k ≠ 105) (h : 0 ≤ s k ∧ s k ≤ 9) : 0 ≤ z_rai M s k ∧ z_rai M s k ≤ 9 := by
  have ho := hC.2.2.2.2.2.1
  unfold z_rai
  by_cases c : z_sd (s 105) % 100 < M 321 50
  · rw [if_pos c]
    unfold z_rap
    by_cases e : 54 ≤ k ∧ k < 54 + M 321 46 * M 321 47
    · rw [if_pos e, z_pt_n h2]
      omega
    · rw [if_neg e, z_pt_n h2]
      exact h
  · rw [if_neg c, z_pt_n h2]
    exact h
theorem z_rai_s {M : z_M} {s : Int → Int} (hC : z_mc M) : z_rai M s 105 = z_sd (s 105) := by
  have hx := z_mc_cells hC
  unfold z_rai
  by_cases c : z_sd (s 105) % 100 < M 321 50
  · rw [if_pos c, z_rap_o (by omega), z_pt_s]
  · rw [if_neg c, z_pt_s]
/-! the steps of a sound day -/
theorem z_d1_at {xs : List Int} {d : Nat} {M : z_M} {P : Option z_V → z_L → z_M → Prop} {D : Int} {s : Int → Int} (h : z_sn M D s) {f : Int} (h1 : 0 ≤ f) (h2 : f < M 321 48) : 0 ≤ z_d1 M s f ∧ z_d1 M s f < M 321 46 * M 321 47 := by
  unfold z_d1
  rw [z_mv_y ⟨h1, h2⟩]
  exact z_gl_r (h.1 f h1 h2).1
theorem z_d1_o {M : z_M} {s : Int → Int} {k : Int} (h : ¬ (0 ≤ k ∧ k < M 321 48)) : z_d1 M s k = s k := z_mv_o h
theorem z_d2_o {M : z_M} {D : Int} {s : Int → Int} (hC : z_mc M) (h : z_sn M D s) {k : Int} (hk : ¬ (54 ≤ k ∧ k < 54 + M 321 46 * M 321 47)) : z_d2 M s k = z_d1 M s k := by
  have hn := hC.2.2.1
  refine z_eat_o (n := (M 321 48).toNat) (fun f h1 h2 => ?_) hk _ (Nat.le_refl _)
  have := z_d1_at (M := M) (xs := []) (d := 0) (P := fun _ _ _ => True) h h1 (by omega)
  omega
theorem z_d2_g {M : z_M} {D : Int} {s : Int → Int} (hC : z_mc M) (h : z_sn M D s) {c : Int} (h1 : 0 ≤ c) (h2 : c < 25) : 0 ≤ z_d2 M s (54 + c) ∧ z_d2 M s (54 + c) ≤ 9 := by
  have hn := hC.2.2.1
  refine z_eat_r (n := (M 321 48).toNat) (fun f h1 h2 => (hC.2.2.2.2.2.2 f h1 (by omega)).2.2.1.1) ?_ _ (Nat.le_refl _)
  rw [z_d1_o (by omega)]
  exact (h.2.1 c h1 h2).1
theorem z_d3_o {M : z_M} {s : Int → Int} {k : Int} (h : ¬ (79 ≤ k ∧ k < 104)) : z_d3 M s k = z_d2 M s k := z_slt_o (by omega)
theorem z_d3_s {M : z_M} {s : Int → Int} {k : Int} (h : 79 ≤ k ∧ k < 104) : z_d3 M s k = max 0 (z_d2 M s k - 1) := by
  unfold z_d3 z_slt
  rw [if_pos (by omega)]
theorem z_d4_o {M : z_M} {s : Int → Int} {k : Int} (h : ¬ (18 ≤ k ∧ k < 54)) : z_d4 M s k = z_d3 M s k := z_evn_o h
theorem z_d5_o {M : z_M} {ev : Int} {s : Int → Int} (hC : z_mc M) {k : Int} (h : ¬ (12 ≤ k ∧ k < 18)) : (z_d5 M ev s).1 k = z_d4 M s k := by
  have hn := hC.2.2.1
  exact z_mto_o (by omega)
theorem z_d6_o {M : z_M} {ev : Int} {s : Int → Int} {k : Int} (h : ¬ (54 ≤ k ∧ k < 54 + M 321 46 * M 321 47)) (h2 : k ≠ 105) : z_d6 M ev s k = (z_d5 M ev s).1 k := z_rai_o h h2
theorem z_day_o {M : z_M} {ev : Int} {s : Int → Int} {k : Int} (h : k ≠ 104) : z_day M ev s k = z_d6 M ev s k := z_pt_n h
theorem z_day_d {M : z_M} {D ev : Int} {s : Int → Int} (hC : z_mc M) (h : z_sn M D s) : z_day M ev s 104 = s 104 + 1 := by
  have hn := hC.2.2.1
  have hx := z_mc_cells hC
  unfold z_day
  rw [z_pt_s, z_d6_o (by omega) (by omega), z_d5_o hC (by omega), z_d4_o (by omega), z_d3_o (by omega), z_d2_o hC h (by omega), z_d1_o (by omega)]
theorem z_day_at {M : z_M} {D ev : Int} {s : Int → Int} (hC : z_mc M) (h : z_sn M D s) {k : Int} (hk : 0 ≤ k ∧ k < 12) : z_day M ev s k = z_d1 M s k := by
  have hx := z_mc_cells hC
  rw [z_day_o (by omega), z_d6_o (by omega) (by omega), z_d5_o hC (by omega), z_d4_o (by omega), z_d3_o (by omega), z_d2_o hC h (by omega)]
theorem z_day_mx {M : z_M} {D ev : Int} {s : Int → Int} (hC : z_mc M) {k : Int} (hk : 18 ≤ k ∧ k < 54) : z_day M ev s k = z_d4 M s k := by
  have hx := z_mc_cells hC
  rw [z_day_o (by omega), z_d6_o (by omega) (by omega), z_d5_o hC (by omega)]
theorem z_d3_mx {M : z_M} {D : Int} {s : Int → Int} (hC : z_mc M) (h : z_sn M D s) {k : Int} (hk : 6 ≤ k ∧ k < 54) : z_d3 M s k = s k := by
  have hn := hC.2.2.1
  have hx := z_mc_cells hC
  rw [z_d3_o (by omega), z_d2_o hC h (by omega), z_d1_o (by omega)]
theorem z_sn_day {M : z_M} {D ev : Int} {s : Int → Int} (hC : z_mc M) (h : z_sn M D s) : z_sn M (D + 1) (z_day M ev s) := by
  have hn := hC.2.2.1
  have hx := z_mc_cells hC
  refine ⟨fun f h1 h2 => ⟨?_, ?_, ?_⟩, fun c h1 h2 => ⟨?_, ?_, fun h3 => ?_⟩, fun k h1 h2 => ?_, ?_, ?_, fun a b a1 a2 b1 b2 c => ?_⟩
  · rw [z_day_at hC h (by omega)]
    exact z_d1_at (xs := []) (d := 0) (P := fun _ _ _ => True) h h1 h2
  · rw [z_day_at hC h (by omega), z_d1_o (by omega)]
    exact (h.1 f h1 h2).2.1
  · rw [z_day_o (by omega), z_d6_o (by omega) (by omega)]
    have := z_mto_r (M := M) (ev := ev) (t := (z_d4 M s, 0)) (n := (M 321 48).toNat) (fun f f1 f2 => by
      show -1 ≤ z_d4 M s (12 + f) ∧ z_d4 M s (12 + f) < ((M 321 48).toNat : Int)
      rw [z_d4_o (by omega), z_d3_mx hC h (by omega)]
      have := (h.1 f f1 (by omega)).2.2
      omega) f h1 (by omega)
    unfold z_d5
    omega
  · rw [z_day_o (by omega)]
    refine z_rai_g hC (by omega) ?_
    rw [z_d5_o hC (by omega), z_d4_o (by omega), z_d3_o (by omega)]
    exact z_d2_g hC h h1 h2
  · rw [z_day_o (by omega), z_d6_o (by omega) (by omega), z_d5_o hC (by omega), z_d4_o (by omega), z_d3_s (by omega), z_d2_o hC h (by omega), z_d1_o (by omega)]
    have := (h.2.1 c h1 h2).2.1
    omega
  · rw [z_day_o (by omega), z_d6_o (by omega) (by omega), z_d5_o hC (by omega), z_d4_o (by omega), z_d3_o (by omega), z_d2_o hC h (by omega), z_d1_o (by omega)]
    exact (h.2.1 c h1 h2).2.2 h3
  · rw [z_day_mx (D := D) hC ⟨h1, h2⟩, z_day_d hC h]
    have e := z_evn_b (M := M) (s := z_d3 M s) (m := 54) (k := k)
    rw [z_d3_mx hC h (by omega)] at e
    have := h.2.2.1 k h1 h2
    unfold z_d4
    omega
  · rw [z_day_d hC h]
    have := h.2.2.2.1
    omega
  · rw [z_day_o (by omega)]
    unfold z_d6
    rw [z_rai_s hC]
    unfold z_sd
    omega
  · rw [z_day_mx (D := D) hC (by omega)]
    have := h.2.2.2.2.2 a b a1 a2 b1 b2 c
    unfold z_d4 z_evn
    rw [if_neg, z_d3_mx hC h (by omega)]
    · exact this
    · intro q
      have := q.2.2.2.2.1
      rw [show (18 + 6 * a + b - 18) / 6 = a by omega, show (18 + 6 * a + b - 18) % 6 = b by omega] at this
      exact c this
