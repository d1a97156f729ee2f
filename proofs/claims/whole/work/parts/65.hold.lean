/-! THE CALLS: hold -/
theorem z_bt_ext {x y : Int} (hx : z_oi x) (hy : z_oi y) (h : ∀ c : Int, 0 ≤ c → c < 32 → (z_bt x c ↔ z_bt y c)) : x = y := by
  have e : Int32.ofInt x = Int32.ofInt y := by
    refine Int32.toBitVec_inj.mp (BitVec.eq_of_getLsbD_eq (fun i hi => ?_))
    have := h i (by omega) (by omega)
    rw [z_bt_l hi, z_bt_l hi] at this
    exact Bool.eq_iff_iff.mpr this
  rw [← z_ofto hx, ← z_ofto hy, e]
theorem z_bt_hi {v k : Nat} (hv : v < 2 ^ k) (h31 : v < 2147483648) (hk : k < 32) : ¬ z_bt v k := by
  unfold z_bt
  rw [z_bt_n h31 hk, Nat.div_eq_of_lt hv]
  simp
section
variable {M : z_M}
/-- a set is penned besides -/
noncomputable def z_pnn (s : Int → Int) (n : Nat) (v : Int) : Int → Int := fun k => @ite Int (6 ≤ k ∧ k < 6 + (n : Int) ∧ z_bt v (k - 6)) (Classical.propDecidable _) 1 (s k)
theorem z_pnn_o {s : Int → Int} {n : Nat} {v k : Int} (h : ¬ (6 ≤ k ∧ k < 6 + (n : Int))) : z_pnn s n v k = s k := by
  unfold z_pnn
  rw [if_neg (fun q => h ⟨q.1, q.2.1⟩)]
theorem z_pnn_f {s : Int → Int} {n : Nat} {v f : Int} (h : 0 ≤ f ∧ f < n) : z_pnn s n v (6 + f) = if z_and (z_shr v f) 1 = 0 then s (6 + f) else 1 := by
  unfold z_pnn z_bt
  rw [show 6 + f - 6 = f by omega]
  by_cases c : z_and (z_shr v f) 1 = 0
  · rw [if_pos c, if_neg (fun q => q.2.2 c)]
  · rw [if_neg c, if_pos ⟨by omega, by omega, c⟩]
theorem z_sn_pnn (hC : z_mc M) {s : Int → Int} {v : Int} (hS : z_sn M 999 s) : z_sn M 999 (z_pnn s (M 321 48).toNat v) := by
  have hn := hC.2.2.1
  obtain ⟨a1, a2, a3, a4, a5, a6⟩ := hS
  refine ⟨fun g h1 h2 => ?_, fun x h1 h2 => ?_, fun k h1 h2 => ?_, ?_, ?_, fun x y h1 h2 h3 h4 h5 => ?_⟩
  · rw [z_pnn_o (k := g) (by omega), z_pnn_o (k := 12 + g) (by omega), z_pnn_f (by omega)]
    refine ⟨(a1 g h1 h2).1, ?_, (a1 g h1 h2).2.2⟩
    split
    · exact (a1 g h1 h2).2.1
    · exact Or.inr rfl
  · rw [z_pnn_o (by omega), z_pnn_o (by omega)]
    exact a2 x h1 h2
  · rw [z_pnn_o (by omega), z_pnn_o (by omega)]
    exact a3 k h1 h2
  · rw [z_pnn_o (by omega)]
    exact a4
  · rw [z_pnn_o (by omega)]
    exact a5
  · rw [z_pnn_o (by omega)]
    exact a6 x y h1 h2 h3 h4 h5
theorem z_pens_oi {s : Int → Int} {n : Nat} (hs : ∀ f : Int, 0 ≤ f → f < n → s (6 + f) = 0 ∨ s (6 + f) = 1) (hn : n ≤ 6) : z_oi (z_pens s n) := by
  have := z_pens_r hs hn
  unfold z_oi
  omega
theorem z_pens_or {s : Int → Int} {n v : Nat} (hn : n ≤ 6) (hv : v < 2 ^ n) (hs : ∀ f : Int, 0 ≤ f → f < n → s (6 + f) = 0 ∨ s (6 + f) = 1) : z_or (z_pens s n) v = z_pens (z_pnn s n v) n := by
  have hs2 : ∀ f : Int, 0 ≤ f → f < n → z_pnn s n v (6 + f) = 0 ∨ z_pnn s n v (6 + f) = 1 := fun f a b => by
    rw [z_pnn_f ⟨a, b⟩]
    split
    · exact hs f a b
    · exact Or.inr rfl
  have h2 : (2 : Nat) ^ n ≤ 2 ^ 6 := Nat.pow_le_pow_right (by decide) hn
  refine z_bt_ext z_or_oi (z_pens_oi hs2 hn) (fun c h0 h1 => ?_)
  rw [z_bt_or ⟨h0, h1⟩, ← z_pens_set hs hn, ← z_pens_set hs2 hn, z_set_b ⟨h0, h1⟩ (by omega), z_set_b ⟨h0, h1⟩ (by omega)]
  by_cases hc : c < n
  · rw [z_pnn_f ⟨h0, hc⟩]
    unfold z_bt
    by_cases e : z_and (z_shr (v : Int) c) 1 = 0
    · rw [if_pos e]
      exact ⟨fun q => q.resolve_right (fun w => w e), fun q => Or.inl q⟩
    · rw [if_neg e]
      exact ⟨fun _ => ⟨hc, rfl⟩, fun _ => Or.inr e⟩
  · have : ¬ z_bt v c := by
      obtain ⟨k, rfl⟩ : ∃ k : Nat, c = k := ⟨c.toNat, by omega⟩
      have h3 : (2 : Nat) ^ n ≤ 2 ^ k := Nat.pow_le_pow_right (by decide) (by omega)
      exact z_bt_hi (by omega) (by omega) (by omega)
    exact ⟨fun q => q.elim (fun w => absurd w.1 hc) (fun w => absurd w this), fun w => absurd w.1 hc⟩
/-- the least by count, then by value -/
noncomputable def z_bhr (G : Nat → Prop) : Nat → Int
  | 0 => -1
  | i + 1 => @ite Int (G i ∧ (z_bhr G i < 0 ∨ z_mbr i < z_mbr (z_bhr G i))) (Classical.propDecidable _) i (z_bhr G i)
theorem z_bhr_y {G : Nat → Prop} {i : Nat} (h : G i) (h2 : z_bhr G i < 0 ∨ z_mbr i < z_mbr (z_bhr G i)) : z_bhr G (i + 1) = i := by
  rw [z_bhr, if_pos ⟨h, h2⟩]
theorem z_bhr_n {G : Nat → Prop} {i : Nat} (h : ¬ (G i ∧ (z_bhr G i < 0 ∨ z_mbr i < z_mbr (z_bhr G i)))) : z_bhr G (i + 1) = z_bhr G i := by
  rw [z_bhr, if_neg h]
theorem z_bhr_p {G : Nat → Prop} : ∀ N : Nat, (z_bhr G N = -1 ∧ ∀ v : Nat, v < N → ¬ G v) ∨ ∃ r : Nat, z_bhr G N = r ∧ r < N ∧ G r ∧ ∀ v : Nat, v < N → G v → z_mbr r < z_mbr v ∨ (z_mbr r = z_mbr v ∧ r ≤ v)
  | 0 => Or.inl ⟨rfl, fun v h => absurd h (by omega)⟩
  | N + 1 => by
    rcases z_bhr_p (G := G) N with ⟨h1, h2⟩ | ⟨r, h1, h2, h3, h4⟩
    · by_cases c : G N
      · refine Or.inr ⟨N, z_bhr_y c (Or.inl (by omega)), by omega, c, fun v hv q => ?_⟩
        by_cases e : v = N
        · exact Or.inr ⟨by rw [e], by omega⟩
        · exact absurd q (h2 v (by omega))
      · refine Or.inl ⟨by rw [z_bhr_n (fun q => c q.1)]; exact h1, fun v hv => ?_⟩
        by_cases e : v = N
        · exact e ▸ c
        · exact h2 v (by omega)
    · by_cases c : G N ∧ z_mbr N < z_mbr r
      · refine Or.inr ⟨N, z_bhr_y c.1 (Or.inr (by rw [h1]; exact c.2)), by omega, c.1, fun v hv q => ?_⟩
        by_cases e : v = N
        · exact Or.inr ⟨by rw [e], by omega⟩
        · rcases h4 v (by omega) q with w | w
          · exact Or.inl (by omega)
          · exact Or.inl (by omega)
      · refine Or.inr ⟨r, by rw [z_bhr_n (fun q => c ⟨q.1, by rcases q.2 with w | w <;> rw [h1] at w <;> omega⟩)]; exact h1, by omega, h3, fun v hv q => ?_⟩
        by_cases e : v = N
        · have : ¬ z_mbr N < z_mbr r := fun w => c ⟨e ▸ q, w⟩
          rw [e]
          omega
        · exact h4 v (by omega) q
end
theorem z_shl1 : ∀ k : Nat, k < 31 → z_shl 1 k = ((2 ^ k : Nat) : Int) := by decide +kernel
theorem z_mbr_n : ∀ n : Nat, n < 7 → ∀ v : Nat, v < 2 ^ n → z_mbr v ≤ n ∧ 0 ≤ z_mbr v := by decide +kernel
set_option maxRecDepth 20000 in
theorem gX9_hold_0 {xs : List Int} {d : Nat} {M : z_M} {P : Option z_V → z_L → z_M → Prop} {a1 : Int} {a2 : Int} {a3 : Int} {a4 : Int} (hF : z_fix M) (hg1 : z_gor M (M 1 0)) (hh2 : z_her M (M 1 2))
    (b1 : M (M 1 0) 12 ≤ 6)
    (l1 : (¬ (z_cmg M (M 1 0) a1 a2)) → P (some (0, (-1))) z_LL M)
    (l2 : ((z_cmg M (M 1 0) a1 a2)) → (a3 < 1) → P (some (0, (-1))) z_LL M)
    (l3 : ((z_cmg M (M 1 0) a1 a2)) → (¬ (a3 < 1)) → (20 < a3) → P (some (0, (-1))) z_LL M)
    (l4 : ((z_cmg M (M 1 0) a1 a2)) → (¬ (a3 < 1)) → (¬ (20 < a3)) → (a4 < 0) → P (some (0, (-1))) z_LL M)
    (l5 : ((z_cmg M (M 1 0) a1 a2)) → (¬ (a3 < 1)) → (¬ (20 < a3)) → (¬ (a4 < 0)) → (1 < a4) → P (some (0, (-1))) z_LL M)
    (l6 : ((z_cmg M (M 1 0) a1 a2)) → (¬ (a3 < 1)) → (¬ (20 < a3)) → (¬ (a4 < 0)) → (¬ (1 < a4)) → wp xs (d + 1) mX0_leastPens 0 [(2, 38), (2, (M 1 2)), (3, 0), (3, 0), (3, 0), (3, 0)] [] z_LL (z_up (z_up (z_up (z_up M 38 4 a1) 38 5 a2) 38 6 1) 38 7 a3) (fun r L1 M1 => wp xs (d + 2) mX9_hold 45 [(2, 1), (0, a1), (0, a2), (0, a3), (0, a4)] (z_ol r ++ []) L1 M1 P)) :
    wp xs (d + 2) mX9_hold 0 [(2, 1), (0, a1), (0, a2), (0, a3), (0, a4)] [] z_LL M P := by
  refine wp_run 1 (pc' := 1) (ls' := [(2, 1), (0, a1), (0, a2), (0, a3), (0, a4)]) (st' := [(2, 1)]) rfl ?_
  refine wp_gf (pc' := 4) (t := 2) (v := (M 1 0)) rfl rfl (by decide) rfl rfl rfl ?_
  refine wp_run 2 (pc' := 6) (ls' := [(2, 1), (0, a1), (0, a2), (0, a3), (0, a4)]) (st' := [(0, a2), (0, a1), (2, (M 1 0))]) rfl ?_
  refine wp_callv (pc' := 9) (as := [(2, (M 1 0)), (0, a1), (0, a2)]) (rest := []) (ls1 := [(2, (M 1 0)), (0, a1), (0, a2)]) rfl rfl rfl rfl (z_args_v rfl rfl rfl rfl (Nat.le_of_ble_eq_true rfl) rfl (by decide) (z_gl0 hg1)) rfl ?_
  refine s_X1_canMix hg1 (b1) ?_
  show wp xs _ mX9_hold 9 [(2, 1), (0, a1), (0, a2), (0, a3), (0, a4)] [(0, (z_b (z_cmg M (M 1 0) a1 a2)))] z_LL M _
  refine wp_be rfl rfl rfl (fun (c1 : ¬ (z_cmg M (M 1 0) a1 a2)) => ?_) (fun (c1 : (z_cmg M (M 1 0) a1 a2)) => ?_)
  · refine wp_run 1 (pc' := 22) (ls' := [(2, 1), (0, a1), (0, a2), (0, a3), (0, a4)]) (st' := [(0, (-1))]) rfl ?_
    exact wp_ret rfl rfl (l1 c1)
  · refine wp_run 2 (pc' := 15) (ls' := [(2, 1), (0, a1), (0, a2), (0, a3), (0, a4)]) (st' := [(0, a4), (0, a3)]) rfl ?_
    refine wp_callv (pc' := 18) (as := [(0, a3), (0, a4)]) (rest := []) (ls1 := [(0, a3), (0, a4)]) rfl rfl rfl rfl rfl rfl ?_
    refine wp_run 2 (pc' := 2) (ls' := [(0, a3), (0, a4)]) (st' := [(0, 1), (0, a3)]) rfl ?_
    refine wp_if2 rfl rfl rfl (fun (c2 : a3 < 1) => ?_) (fun (c2 : ¬ (a3 < 1)) => ?_)
    · refine wp_run 1 (pc' := 25) (ls' := [(0, a3), (0, a4)]) (st' := [(0, 0)]) rfl ?_
      refine wp_ret rfl rfl ?_
      show wp xs _ mX9_hold 18 [(2, 1), (0, a1), (0, a2), (0, a3), (0, a4)] [(0, 0)] z_LL M _
      refine wp_run 2 (pc' := 22) (ls' := [(2, 1), (0, a1), (0, a2), (0, a3), (0, a4)]) (st' := [(0, (-1))]) rfl ?_
      exact wp_ret rfl rfl (l2 c1 c2)
    · refine wp_run 2 (pc' := 8) (ls' := [(0, a3), (0, a4)]) (st' := [(0, 20), (0, a3)]) rfl ?_
      refine wp_if2 rfl rfl rfl (fun (c3 : 20 < a3) => ?_) (fun (c3 : ¬ (20 < a3)) => ?_)
      · refine wp_run 1 (pc' := 25) (ls' := [(0, a3), (0, a4)]) (st' := [(0, 0)]) rfl ?_
        refine wp_ret rfl rfl ?_
        show wp xs _ mX9_hold 18 [(2, 1), (0, a1), (0, a2), (0, a3), (0, a4)] [(0, 0)] z_LL M _
        refine wp_run 2 (pc' := 22) (ls' := [(2, 1), (0, a1), (0, a2), (0, a3), (0, a4)]) (st' := [(0, (-1))]) rfl ?_
        exact wp_ret rfl rfl (l3 c1 c2 c3)
      · refine wp_run 1 (pc' := 12) (ls' := [(0, a3), (0, a4)]) (st' := [(0, a4)]) rfl ?_
        refine wp_if1 rfl rfl rfl (fun (c4 : a4 < 0) => ?_) (fun (c4 : ¬ (a4 < 0)) => ?_)
        · refine wp_run 1 (pc' := 25) (ls' := [(0, a3), (0, a4)]) (st' := [(0, 0)]) rfl ?_
          refine wp_ret rfl rfl ?_
          show wp xs _ mX9_hold 18 [(2, 1), (0, a1), (0, a2), (0, a3), (0, a4)] [(0, 0)] z_LL M _
          refine wp_run 2 (pc' := 22) (ls' := [(2, 1), (0, a1), (0, a2), (0, a3), (0, a4)]) (st' := [(0, (-1))]) rfl ?_
          exact wp_ret rfl rfl (l4 c1 c2 c3 c4)
        · refine wp_run 2 (pc' := 17) (ls' := [(0, a3), (0, a4)]) (st' := [(0, 1), (0, a4)]) rfl ?_
          refine wp_if2 rfl rfl rfl (fun (c5 : 1 < a4) => ?_) (fun (c5 : ¬ (1 < a4)) => ?_)
          · refine wp_run 1 (pc' := 25) (ls' := [(0, a3), (0, a4)]) (st' := [(0, 0)]) rfl ?_
            refine wp_ret rfl rfl ?_
            show wp xs _ mX9_hold 18 [(2, 1), (0, a1), (0, a2), (0, a3), (0, a4)] [(0, 0)] z_LL M _
            refine wp_run 2 (pc' := 22) (ls' := [(2, 1), (0, a1), (0, a2), (0, a3), (0, a4)]) (st' := [(0, (-1))]) rfl ?_
            exact wp_ret rfl rfl (l5 c1 c2 c3 c4 c5)
          · refine wp_run 2 (pc' := 25) (ls' := [(0, a3), (0, a4)]) (st' := [(0, 1)]) rfl ?_
            refine wp_ret rfl rfl ?_
            show wp xs _ mX9_hold 18 [(2, 1), (0, a1), (0, a2), (0, a3), (0, a4)] [(0, 1)] z_LL M _
            refine wp_run 2 (pc' := 24) (ls' := [(2, 1), (0, a1), (0, a2), (0, a3), (0, a4)]) (st' := [(2, 1)]) rfl ?_
            refine wp_gf (pc' := 27) (t := 2) (v := 38) rfl rfl (by decide) rfl rfl (fx_1_6 hF) ?_
            refine wp_run 4 (pc' := 31) (ls' := [(2, 1), (0, a1), (0, a2), (0, a3), (0, a4)]) (st' := [(0, a3), (0, 1), (0, a2), (0, a1), (2, 38)]) rfl ?_
            refine wp_callv (pc' := 34) (as := [(2, 38), (0, a1), (0, a2), (0, 1), (0, a3)]) (rest := []) (ls1 := [(2, 38), (0, a1), (0, a2), (0, 1), (0, a3)]) rfl rfl rfl rfl rfl rfl ?_
            refine wp_run 2 (pc' := 2) (ls' := [(2, 38), (0, a1), (0, a2), (0, 1), (0, a3)]) (st' := [(0, a1), (2, 38)]) rfl ?_
            refine wp_pf (pc' := 5) rfl rfl rfl rfl (fun z => absurd z (by decide)) (fun z => absurd z (by decide)) ?_
            refine wp_run 2 (pc' := 7) (ls' := [(2, 38), (0, a1), (0, a2), (0, 1), (0, a3)]) (st' := [(0, a2), (2, 38)]) rfl ?_
            refine wp_pf (pc' := 10) rfl rfl rfl rfl (fun z => absurd z (by decide)) (fun z => absurd z (by decide)) ?_
            refine wp_run 2 (pc' := 12) (ls' := [(2, 38), (0, a1), (0, a2), (0, 1), (0, a3)]) (st' := [(0, 1), (2, 38)]) rfl ?_
            refine wp_pf (pc' := 15) rfl rfl rfl rfl (fun z => absurd z (by decide)) (fun z => absurd z (by decide)) ?_
            refine wp_run 2 (pc' := 18) (ls' := [(2, 38), (0, a1), (0, a2), (0, 1), (0, a3)]) (st' := [(0, a3), (2, 38)]) rfl ?_
            refine wp_pf (pc' := 21) rfl rfl rfl rfl (fun z => absurd z (by decide)) (fun z => absurd z (by decide)) ?_
            refine wp_ret rfl rfl ?_
            show wp xs _ mX9_hold 34 [(2, 1), (0, a1), (0, a2), (0, a3), (0, a4)] [] z_LL (z_up (z_up (z_up (z_up M 38 4 a1) 38 5 a2) 38 6 1) 38 7 a3) _
            refine wp_run 1 (pc' := 35) (ls' := [(2, 1), (0, a1), (0, a2), (0, a3), (0, a4)]) (st' := [(2, 1)]) rfl ?_
            refine wp_gf (pc' := 38) (t := 2) (v := 38) rfl rfl (by decide) rfl rfl (z_upq (by decide) (z_upq (by decide) (z_upq (by decide) (z_upq (by decide) (fx_1_6 hF))))) ?_
            refine wp_run 1 (pc' := 39) (ls' := [(2, 1), (0, a1), (0, a2), (0, a3), (0, a4)]) (st' := [(2, 1), (2, 38)]) rfl ?_
            refine wp_gf (pc' := 42) (t := 2) (v := (M 1 2)) rfl rfl (by decide) rfl rfl (z_upq (by decide) (z_upq (by decide) (z_upq (by decide) (z_upq (by decide) rfl)))) ?_
            refine wp_callv (pc' := 45) (as := [(2, 38), (2, (M 1 2))]) (rest := []) (ls1 := [(2, 38), (2, (M 1 2)), (3, 0), (3, 0), (3, 0), (3, 0)]) rfl rfl rfl rfl rfl rfl ?_
            exact l6 c1 c2 c3 c4 c5
set_option maxRecDepth 20000 in
theorem gX9_hold_45 {xs : List Int} {d : Nat} {M : z_M} {P : Option z_V → z_L → z_M → Prop} {x1 : Int} {x2 : Int} {x3 : Int} {x4 : Int} {s0 : Int} 
    (l1 : (s0 ≠ (-1)) → (x4 ≠ 0) → P (some (0, s0)) z_LL M)
    (l2 : (s0 ≠ (-1)) → (¬ (x4 ≠ 0)) → P (some (0, (z_bc s0))) z_LL M)
    (l3 : (¬ (s0 ≠ (-1))) → P (some (0, (-1))) z_LL M) :
    wp xs (d + 2) mX9_hold 45 [(2, 1), (0, x1), (0, x2), (0, x3), (0, x4)] [(0, s0)] z_LL M P := by
  refine wp_run 1 (pc' := 47) (ls' := [(2, 1), (0, x1), (0, x2), (0, x3), (0, x4)]) (st' := [(0, x4), (0, s0)]) rfl ?_
  refine wp_callv (pc' := 50) (as := [(0, s0), (0, x4)]) (rest := []) (ls1 := [(0, s0), (0, x4)]) rfl rfl rfl rfl rfl rfl ?_
  refine wp_run 2 (pc' := 2) (ls' := [(0, s0), (0, x4)]) (st' := [(0, (-1)), (0, s0)]) rfl ?_
  refine wp_if2 rfl rfl rfl (fun (c1 : s0 ≠ (-1)) => ?_) (fun (c1 : ¬ (s0 ≠ (-1))) => ?_)
  · refine wp_run 1 (pc' := 8) (ls' := [(0, s0), (0, x4)]) (st' := [(0, x4)]) rfl ?_
    refine wp_if1 rfl rfl rfl (fun (c2 : x4 ≠ 0) => ?_) (fun (c2 : ¬ (x4 ≠ 0)) => ?_)
    · refine wp_run 1 (pc' := 19) (ls' := [(0, s0), (0, x4)]) (st' := [(0, s0)]) rfl ?_
      refine wp_ret rfl rfl ?_
      show wp xs _ mX9_hold 50 [(2, 1), (0, x1), (0, x2), (0, x3), (0, x4)] [(0, s0)] z_LL M _
      exact wp_ret rfl rfl (l1 c1 c2)
    · refine wp_run 1 (pc' := 12) (ls' := [(0, s0), (0, x4)]) (st' := [(0, s0)]) rfl ?_
      refine wp_callv (pc' := 15) (as := [(0, s0)]) (rest := []) (ls1 := [(0, s0)]) rfl rfl rfl rfl rfl rfl ?_
      refine s_J6_bitCount_0f7a4  ?_
      show wp xs _ mX9_countOrSet 15 [(0, s0), (0, x4)] [(0, (z_bc s0))] z_LL M _
      refine wp_run 1 (pc' := 19) (ls' := [(0, s0), (0, x4)]) (st' := [(0, (z_bc s0))]) rfl ?_
      refine wp_ret rfl rfl ?_
      show wp xs _ mX9_hold 50 [(2, 1), (0, x1), (0, x2), (0, x3), (0, x4)] [(0, (z_bc s0))] z_LL M _
      exact wp_ret rfl rfl (l2 c1 c2)
  · refine wp_run 1 (pc' := 6) (ls' := [(0, s0), (0, x4)]) (st' := [(0, (-1))]) rfl ?_
    refine wp_ret rfl rfl ?_
    show wp xs _ mX9_hold 50 [(2, 1), (0, x1), (0, x2), (0, x3), (0, x4)] [(0, (-1))] z_LL M _
    exact wp_ret rfl rfl (l3 c1)
set_option maxRecDepth 20000 in
theorem gX0_leastPens_0 {xs : List Int} {d : Nat} {M : z_M} {P : Option z_V → z_L → z_M → Prop} {a1 : Int} (hF : z_fix M) (ha1 : z_her M a1) (hg2 : z_gor M (M 34 3))
    (l1 : wp xs d mX0_leastPens 15 [(2, 38), (2, a1), (0, (z_shl 1 (M (M 34 3) 12))), (0, 0), (3, 0), (3, 0)] [] z_LL M P) :
    wp xs d mX0_leastPens 0 [(2, 38), (2, a1), (3, 0), (3, 0), (3, 0), (3, 0)] [] z_LL M P := by
  refine wp_run 2 (pc' := 2) (ls' := [(2, 38), (2, a1), (3, 0), (3, 0), (3, 0), (3, 0)]) (st' := [(2, 38), (0, 1)]) rfl ?_
  refine wp_gf (pc' := 5) (t := 2) (v := 34) rfl rfl (by decide) rfl rfl (fx_38_0 hF) ?_
  refine wp_gf (pc' := 8) (t := 2) (v := (M 34 3)) rfl rfl (by decide) rfl rfl rfl ?_
  refine wp_gf (pc' := 11) (t := 0) (v := (M (M 34 3) 12)) rfl rfl (by decide) rfl (z_gl0 hg2) rfl ?_
  refine wp_run 4 (pc' := 15) (ls' := [(2, 38), (2, a1), (0, (z_shl 1 (M (M 34 3) 12))), (0, 0), (3, 0), (3, 0)]) (st' := []) rfl ?_
  exact l1
set_option maxRecDepth 20000 in
theorem gX0_leastPens_15 {xs : List Int} {d : Nat} {M : z_M} {P : Option z_V → z_L → z_M → Prop} {x1 : Int} {x2 : Int} {x3 : Int} {w4 : z_V} {w5 : z_V} (hF : z_fix M) (hx1 : z_her M x1) (hg2 : z_gor M (M 34 3))
    (l1 : ((M (M 34 3) 12) < x3) → P (some (0, (-1))) z_LL M)
    (l2 : (¬ ((M (M 34 3) 12) < x3)) → wp xs d mX0_leastPens 32 [(2, 38), (2, x1), (0, x2), (0, x3), (0, 0), w5] [] z_LL M P) :
    wp xs d mX0_leastPens 15 [(2, 38), (2, x1), (0, x2), (0, x3), w4, w5] [] z_LL M P := by
  refine wp_run 2 (pc' := 17) (ls' := [(2, 38), (2, x1), (0, x2), (0, x3), w4, w5]) (st' := [(2, 38), (0, x3)]) rfl ?_
  refine wp_gf (pc' := 20) (t := 2) (v := 34) rfl rfl (by decide) rfl rfl (fx_38_0 hF) ?_
  refine wp_gf (pc' := 23) (t := 2) (v := (M 34 3)) rfl rfl (by decide) rfl rfl rfl ?_
  refine wp_gf (pc' := 26) (t := 0) (v := (M (M 34 3) 12)) rfl rfl (by decide) rfl (z_gl0 hg2) rfl ?_
  refine wp_if2 rfl rfl rfl (fun (c1 : (M (M 34 3) 12) < x3) => ?_) (fun (c1 : ¬ ((M (M 34 3) 12) < x3)) => ?_)
  · refine wp_run 1 (pc' := 96) (ls' := [(2, 38), (2, x1), (0, x2), (0, x3), w4, w5]) (st' := [(0, (-1))]) rfl ?_
    exact wp_ret rfl rfl (l1 c1)
  · refine wp_run 2 (pc' := 32) (ls' := [(2, 38), (2, x1), (0, x2), (0, x3), (0, 0), w5]) (st' := []) rfl ?_
    exact l2 c1
set_option maxRecDepth 20000 in
theorem gX0_leastPens_32 {xs : List Int} {d : Nat} {M : z_M} {P : Option z_V → z_L → z_M → Prop} {x1 : Int} {x2 : Int} {x3 : Int} {x4 : Int} {w5 : z_V} (hx1 : z_her M x1)
    (l1 : (x2 ≤ x4) → wp xs (d + 1) mX0_leastPens 15 [(2, 38), (2, x1), (0, x2), (0, (z_w (x3 + 1))), (0, x4), w5] [] z_LL M P)
    (l2 : (¬ (x2 ≤ x4)) → ((z_bc x4) ≠ x3) → wp xs (d + 1) mX0_leastPens 32 [(2, 38), (2, x1), (0, x2), (0, x3), (0, (z_w (x4 + 1))), (0, 0)] [] z_LL M P)
    (l3 : (¬ (x2 ≤ x4)) → (¬ ((z_bc x4) ≠ x3)) → ((z_and x4 (M x1 5)) ≠ 0) → wp xs (d + 1) mX0_leastPens 32 [(2, 38), (2, x1), (0, x2), (0, x3), (0, (z_w (x4 + 1))), (0, 0)] [] z_LL M P)
    (l4 : (¬ (x2 ≤ x4)) → (¬ ((z_bc x4) ≠ x3)) → (¬ ((z_and x4 (M x1 5)) ≠ 0)) → wp xs d mX0_mixEnough 0 [(2, 38), (2, x1), (0, 0), (0, x4), (3, 0), (3, 0), (3, 0)] [] z_LL M (fun r L1 M1 => wp xs (d + 1) mX0_leastPens 77 [(2, 38), (2, x1), (0, x2), (0, x3), (0, x4), (0, 1)] (z_ol r ++ []) L1 M1 P)) :
    wp xs (d + 1) mX0_leastPens 32 [(2, 38), (2, x1), (0, x2), (0, x3), (0, x4), w5] [] z_LL M P := by
  refine wp_run 2 (pc' := 35) (ls' := [(2, 38), (2, x1), (0, x2), (0, x3), (0, x4), w5]) (st' := [(0, x2), (0, x4)]) rfl ?_
  refine wp_if2 rfl rfl rfl (fun (c1 : x2 ≤ x4) => ?_) (fun (c1 : ¬ (x2 ≤ x4)) => ?_)
  · refine wp_run 2 (pc' := 15) (ls' := [(2, 38), (2, x1), (0, x2), (0, (z_w (x3 + 1))), (0, x4), w5]) (st' := []) rfl ?_
    exact l1 c1
  · refine wp_run 1 (pc' := 40) (ls' := [(2, 38), (2, x1), (0, x2), (0, x3), (0, x4), w5]) (st' := [(0, x4)]) rfl ?_
    refine wp_callv (pc' := 43) (as := [(0, x4)]) (rest := []) (ls1 := [(0, x4)]) rfl rfl rfl rfl rfl rfl ?_
    refine s_J6_bitCount_0f7a4  ?_
    show wp xs _ mX0_leastPens 43 [(2, 38), (2, x1), (0, x2), (0, x3), (0, x4), w5] [(0, (z_bc x4))] z_LL M _
    refine wp_run 1 (pc' := 44) (ls' := [(2, 38), (2, x1), (0, x2), (0, x3), (0, x4), w5]) (st' := [(0, x3), (0, (z_bc x4))]) rfl ?_
    refine wp_if2 rfl rfl rfl (fun (c2 : (z_bc x4) ≠ x3) => ?_) (fun (c2 : ¬ ((z_bc x4) ≠ x3)) => ?_)
    · refine wp_run 6 (pc' := 32) (ls' := [(2, 38), (2, x1), (0, x2), (0, x3), (0, (z_w (x4 + 1))), (0, 0)]) (st' := []) rfl ?_
      exact l2 c1 c2
    · refine wp_run 2 (pc' := 50) (ls' := [(2, 38), (2, x1), (0, x2), (0, x3), (0, x4), w5]) (st' := [(2, x1), (0, x4)]) rfl ?_
      refine wp_gf (pc' := 53) (t := 0) (v := (M x1 5)) rfl rfl (by decide) rfl (z_hl0 hx1) rfl ?_
      refine wp_run 1 (pc' := 54) (ls' := [(2, 38), (2, x1), (0, x2), (0, x3), (0, x4), w5]) (st' := [(0, (z_and x4 (M x1 5)))]) rfl ?_
      refine wp_if1 rfl rfl rfl (fun (c3 : (z_and x4 (M x1 5)) ≠ 0) => ?_) (fun (c3 : ¬ ((z_and x4 (M x1 5)) ≠ 0)) => ?_)
      · refine wp_run 6 (pc' := 32) (ls' := [(2, 38), (2, x1), (0, x2), (0, x3), (0, (z_w (x4 + 1))), (0, 0)]) (st' := []) rfl ?_
        exact l3 c1 c2 c3
      · refine wp_run 9 (pc' := 74) (ls' := [(2, 38), (2, x1), (0, x2), (0, x3), (0, x4), (0, 1)]) (st' := [(0, x4), (0, 0), (2, x1), (2, 38)]) rfl ?_
        refine wp_callv (pc' := 77) (as := [(2, 38), (2, x1), (0, 0), (0, x4)]) (rest := []) (ls1 := [(2, 38), (2, x1), (0, 0), (0, x4), (3, 0), (3, 0), (3, 0)]) rfl rfl rfl rfl rfl rfl ?_
        exact l4 c1 c2 c3
set_option maxRecDepth 20000 in
theorem gX0_leastPens_77 {xs : List Int} {d : Nat} {M : z_M} {P : Option z_V → z_L → z_M → Prop} {x1 : Int} {x2 : Int} {x3 : Int} {x4 : Int} {x5 : Int} {s0 : Int} (hx1 : z_her M x1)
    (l1 : (s0 ≠ 0) → wp xs d mX0_leastPens 32 [(2, 38), (2, x1), (0, x2), (0, x3), (0, (z_w (x4 + 1))), (0, x5)] [] z_LL M P)
    (l2 : (¬ (s0 ≠ 0)) → P (some (0, x4)) z_LL M) :
    wp xs d mX0_leastPens 77 [(2, 38), (2, x1), (0, x2), (0, x3), (0, x4), (0, x5)] [(0, s0)] z_LL M P := by
  refine wp_if1 rfl rfl rfl (fun (c1 : s0 ≠ 0) => ?_) (fun (c1 : ¬ (s0 ≠ 0)) => ?_)
  · refine wp_run 2 (pc' := 32) (ls' := [(2, 38), (2, x1), (0, x2), (0, x3), (0, (z_w (x4 + 1))), (0, x5)]) (st' := []) rfl ?_
    exact l1 c1
  · refine wp_run 1 (pc' := 82) (ls' := [(2, 38), (2, x1), (0, x2), (0, x3), (0, x4), (0, x5)]) (st' := [(0, x4)]) rfl ?_
    exact wp_ret rfl rfl (l2 c1)
set_option maxRecDepth 20000 in
theorem gX10_hold_0 {xs : List Int} {d : Nat} {M : z_M} {P : Option z_V → z_L → z_M → Prop} {a1 : Int} {a2 : Int} {a3 : Int} {a4 : Int} (hF : z_fix M) (hC : z_mc M) 
    (l1 : (¬ ((0 ≤ a1 ∧ a1 < M 321 48) ∧ (0 ≤ a2 ∧ a2 < M 321 48) ∧ z_cm M a1 a2)) → P (some (0, (-1))) z_LL M)
    (l2 : (((0 ≤ a1 ∧ a1 < M 321 48) ∧ (0 ≤ a2 ∧ a2 < M 321 48) ∧ z_cm M a1 a2)) → (¬ (1 ≤ a3 ∧ a3 ≤ 20)) → P (some (0, (-1))) z_LL M)
    (l3 : (((0 ≤ a1 ∧ a1 < M 321 48) ∧ (0 ≤ a2 ∧ a2 < M 321 48) ∧ z_cm M a1 a2)) → ((1 ≤ a3 ∧ a3 ≤ 20)) → ((0 ≤ a4 ∧ a4 ≤ 1)) → wp xs (d + 3) mX10_hold 37 [(2, 321), (0, a1), (0, a2), (0, a3), (0, a4), (0, (-1)), (0, 0)] [] z_LL M P)
    (l4 : (((0 ≤ a1 ∧ a1 < M 321 48) ∧ (0 ≤ a2 ∧ a2 < M 321 48) ∧ z_cm M a1 a2)) → ((1 ≤ a3 ∧ a3 ≤ 20)) → (¬ (0 ≤ a4 ∧ a4 ≤ 1)) → P (some (0, (-1))) z_LL M) :
    wp xs (d + 3) mX10_hold 0 [(2, 321), (0, a1), (0, a2), (0, a3), (0, a4), (3, 0), (3, 0)] [] z_LL M P := by
  refine wp_run 3 (pc' := 3) (ls' := [(2, 321), (0, a1), (0, a2), (0, a3), (0, a4), (3, 0), (3, 0)]) (st' := [(0, a2), (0, a1), (2, 321)]) rfl ?_
  refine wp_callv (pc' := 6) (as := [(2, 321), (0, a1), (0, a2)]) (rest := []) (ls1 := [(2, 321), (0, a1), (0, a2)]) rfl rfl rfl rfl rfl rfl ?_
  refine s_X10_areMixing hF hC ?_
  show wp xs _ mX10_hold 6 [(2, 321), (0, a1), (0, a2), (0, a3), (0, a4), (3, 0), (3, 0)] [(0, (z_b ((0 ≤ a1 ∧ a1 < M 321 48) ∧ (0 ≤ a2 ∧ a2 < M 321 48) ∧ z_cm M a1 a2)))] z_LL M _
  refine wp_be rfl rfl rfl (fun (c1 : ¬ ((0 ≤ a1 ∧ a1 < M 321 48) ∧ (0 ≤ a2 ∧ a2 < M 321 48) ∧ z_cm M a1 a2)) => ?_) (fun (c1 : ((0 ≤ a1 ∧ a1 < M 321 48) ∧ (0 ≤ a2 ∧ a2 < M 321 48) ∧ z_cm M a1 a2)) => ?_)
  · refine wp_run 1 (pc' := 30) (ls' := [(2, 321), (0, a1), (0, a2), (0, a3), (0, a4), (3, 0), (3, 0)]) (st' := [(0, (-1))]) rfl ?_
    exact wp_ret rfl rfl (l1 c1)
  · refine wp_run 3 (pc' := 13) (ls' := [(2, 321), (0, a1), (0, a2), (0, a3), (0, a4), (3, 0), (3, 0)]) (st' := [(0, 20), (0, 1), (0, a3)]) rfl ?_
    refine wp_callv (pc' := 16) (as := [(0, a3), (0, 1), (0, 20)]) (rest := []) (ls1 := [(0, a3), (0, 1), (0, 20)]) rfl rfl rfl rfl rfl rfl ?_
    refine s_X10_isIn  ?_
    show wp xs _ mX10_hold 16 [(2, 321), (0, a1), (0, a2), (0, a3), (0, a4), (3, 0), (3, 0)] [(0, (z_b (1 ≤ a3 ∧ a3 ≤ 20)))] z_LL M _
    refine wp_be rfl rfl rfl (fun (c2 : ¬ (1 ≤ a3 ∧ a3 ≤ 20)) => ?_) (fun (c2 : (1 ≤ a3 ∧ a3 ≤ 20)) => ?_)
    · refine wp_run 1 (pc' := 30) (ls' := [(2, 321), (0, a1), (0, a2), (0, a3), (0, a4), (3, 0), (3, 0)]) (st' := [(0, (-1))]) rfl ?_
      exact wp_ret rfl rfl (l2 c1 c2)
    · refine wp_run 3 (pc' := 23) (ls' := [(2, 321), (0, a1), (0, a2), (0, a3), (0, a4), (3, 0), (3, 0)]) (st' := [(0, 1), (0, 0), (0, a4)]) rfl ?_
      refine wp_callv (pc' := 26) (as := [(0, a4), (0, 0), (0, 1)]) (rest := []) (ls1 := [(0, a4), (0, 0), (0, 1)]) rfl rfl rfl rfl rfl rfl ?_
      refine s_X10_isIn  ?_
      show wp xs _ mX10_hold 26 [(2, 321), (0, a1), (0, a2), (0, a3), (0, a4), (3, 0), (3, 0)] [(0, (z_b (0 ≤ a4 ∧ a4 ≤ 1)))] z_LL M _
      refine wp_bn rfl rfl rfl (fun (c3 : (0 ≤ a4 ∧ a4 ≤ 1)) => ?_) (fun (c3 : ¬ (0 ≤ a4 ∧ a4 ≤ 1)) => ?_)
      · refine wp_run 4 (pc' := 37) (ls' := [(2, 321), (0, a1), (0, a2), (0, a3), (0, a4), (0, (-1)), (0, 0)]) (st' := []) rfl ?_
        exact l3 c1 c2 c3
      · refine wp_run 1 (pc' := 30) (ls' := [(2, 321), (0, a1), (0, a2), (0, a3), (0, a4), (3, 0), (3, 0)]) (st' := [(0, (-1))]) rfl ?_
        exact wp_ret rfl rfl (l4 c1 c2 c3)
set_option maxRecDepth 20000 in
theorem gX10_hold_37 {xs : List Int} {d : Nat} {M : z_M} {P : Option z_V → z_L → z_M → Prop} {x1 : Int} {x2 : Int} {x3 : Int} {x4 : Int} {x5 : Int} {x6 : Int} (hF : z_fix M) (hC : z_mc M) 
    (l1 : ((z_shl 1 (M 321 48)) ≤ x6) → (0 ≤ x5) → (x4 ≠ 0) → P (some (0, x5)) z_LL M)
    (l2 : ((z_shl 1 (M 321 48)) ≤ x6) → (0 ≤ x5) → (¬ (x4 ≠ 0)) → P (some (0, (z_mbr x5))) z_LL M)
    (l3 : ((z_shl 1 (M 321 48)) ≤ x6) → (¬ (0 ≤ x5)) → P (some (0, (-1))) z_LL M)
    (l4 : (¬ ((z_shl 1 (M 321 48)) ≤ x6)) → ((z_and x6 (z_pnm M)) ≠ 0) → wp xs (d + 1) mX10_hold 37 [(2, 321), (0, x1), (0, x2), (0, x3), (0, x4), (0, x5), (0, (z_w (x6 + 1)))] [] z_LL M P)
    (l5 : (¬ ((z_shl 1 (M 321 48)) ≤ x6)) → (¬ ((z_and x6 (z_pnm M)) ≠ 0)) → (x5 < 0) → wp xs d mX10_isHeld 0 [(2, 321), (0, x1), (0, x2), (0, x3), (0, x6), (3, 0)] [] z_LL M (fun r L1 M1 => wp xs (d + 1) mX10_hold 88 [(2, 321), (0, x1), (0, x2), (0, x3), (0, x4), (0, x5), (0, x6)] (z_ol r ++ []) L1 M1 P))
    (l6 : (¬ ((z_shl 1 (M 321 48)) ≤ x6)) → (¬ ((z_and x6 (z_pnm M)) ≠ 0)) → (¬ (x5 < 0)) → ((z_mbr x6) < (z_mbr x5)) → wp xs d mX10_isHeld 0 [(2, 321), (0, x1), (0, x2), (0, x3), (0, x6), (3, 0)] [] z_LL M (fun r L1 M1 => wp xs (d + 1) mX10_hold 88 [(2, 321), (0, x1), (0, x2), (0, x3), (0, x4), (0, x5), (0, x6)] (z_ol r ++ []) L1 M1 P))
    (l7 : (¬ ((z_shl 1 (M 321 48)) ≤ x6)) → (¬ ((z_and x6 (z_pnm M)) ≠ 0)) → (¬ (x5 < 0)) → (¬ ((z_mbr x6) < (z_mbr x5))) → wp xs (d + 1) mX10_hold 37 [(2, 321), (0, x1), (0, x2), (0, x3), (0, x4), (0, x5), (0, (z_w (x6 + 1)))] [] z_LL M P) :
    wp xs (d + 1) mX10_hold 37 [(2, 321), (0, x1), (0, x2), (0, x3), (0, x4), (0, x5), (0, x6)] [] z_LL M P := by
  refine wp_run 3 (pc' := 41) (ls' := [(2, 321), (0, x1), (0, x2), (0, x3), (0, x4), (0, x5), (0, x6)]) (st' := [(2, 321), (0, 1), (0, x6)]) rfl ?_
  refine wp_gf (pc' := 44) (t := 0) (v := (M 321 48)) rfl rfl (by decide) rfl rfl rfl ?_
  refine wp_run 1 (pc' := 45) (ls' := [(2, 321), (0, x1), (0, x2), (0, x3), (0, x4), (0, x5), (0, x6)]) (st' := [(0, (z_shl 1 (M 321 48))), (0, x6)]) rfl ?_
  refine wp_if2 rfl rfl rfl (fun (c1 : (z_shl 1 (M 321 48)) ≤ x6) => ?_) (fun (c1 : ¬ ((z_shl 1 (M 321 48)) ≤ x6)) => ?_)
  · refine wp_run 1 (pc' := 103) (ls' := [(2, 321), (0, x1), (0, x2), (0, x3), (0, x4), (0, x5), (0, x6)]) (st' := [(0, x5)]) rfl ?_
    refine wp_if1 rfl rfl rfl (fun (c2 : 0 ≤ x5) => ?_) (fun (c2 : ¬ (0 ≤ x5)) => ?_)
    · refine wp_run 1 (pc' := 112) (ls' := [(2, 321), (0, x1), (0, x2), (0, x3), (0, x4), (0, x5), (0, x6)]) (st' := [(0, x4)]) rfl ?_
      refine wp_if1 rfl rfl rfl (fun (c3 : x4 ≠ 0) => ?_) (fun (c3 : ¬ (x4 ≠ 0)) => ?_)
      · refine wp_run 1 (pc' := 125) (ls' := [(2, 321), (0, x1), (0, x2), (0, x3), (0, x4), (0, x5), (0, x6)]) (st' := [(0, x5)]) rfl ?_
        exact wp_ret rfl rfl (l1 c1 c2 c3)
      · refine wp_run 1 (pc' := 117) (ls' := [(2, 321), (0, x1), (0, x2), (0, x3), (0, x4), (0, x5), (0, x6)]) (st' := [(0, x5)]) rfl ?_
        refine wp_callv (pc' := 120) (as := [(0, x5)]) (rest := []) (ls1 := [(0, x5), (3, 0), (3, 0)]) rfl rfl rfl rfl rfl rfl ?_
        refine s_X10_members  ?_
        show wp xs _ mX10_hold 120 [(2, 321), (0, x1), (0, x2), (0, x3), (0, x4), (0, x5), (0, x6)] [(0, (z_mbr x5))] z_LL M _
        refine wp_run 1 (pc' := 125) (ls' := [(2, 321), (0, x1), (0, x2), (0, x3), (0, x4), (0, x5), (0, x6)]) (st' := [(0, (z_mbr x5))]) rfl ?_
        exact wp_ret rfl rfl (l2 c1 c2 c3)
    · refine wp_run 2 (pc' := 125) (ls' := [(2, 321), (0, x1), (0, x2), (0, x3), (0, x4), (0, x5), (0, x6)]) (st' := [(0, (-1))]) rfl ?_
      exact wp_ret rfl rfl (l3 c1 c2)
  · refine wp_run 2 (pc' := 51) (ls' := [(2, 321), (0, x1), (0, x2), (0, x3), (0, x4), (0, x5), (0, x6)]) (st' := [(2, 321), (0, x6)]) rfl ?_
    refine wp_callv (pc' := 54) (as := [(2, 321)]) (rest := [(0, x6)]) (ls1 := [(2, 321), (3, 0), (3, 0)]) rfl rfl rfl rfl rfl rfl ?_
    refine s_X10_pens hF hC ?_
    show wp xs _ mX10_hold 54 [(2, 321), (0, x1), (0, x2), (0, x3), (0, x4), (0, x5), (0, x6)] [(0, (z_pnm M)), (0, x6)] z_LL M _
    refine wp_run 1 (pc' := 55) (ls' := [(2, 321), (0, x1), (0, x2), (0, x3), (0, x4), (0, x5), (0, x6)]) (st' := [(0, (z_and x6 (z_pnm M)))]) rfl ?_
    refine wp_if1 rfl rfl rfl (fun (c4 : (z_and x6 (z_pnm M)) ≠ 0) => ?_) (fun (c4 : ¬ ((z_and x6 (z_pnm M)) ≠ 0)) => ?_)
    · refine wp_run 2 (pc' := 37) (ls' := [(2, 321), (0, x1), (0, x2), (0, x3), (0, x4), (0, x5), (0, (z_w (x6 + 1)))]) (st' := []) rfl ?_
      exact l4 c1 c4
    · refine wp_run 1 (pc' := 60) (ls' := [(2, 321), (0, x1), (0, x2), (0, x3), (0, x4), (0, x5), (0, x6)]) (st' := [(0, x5)]) rfl ?_
      refine wp_if1 rfl rfl rfl (fun (c5 : x5 < 0) => ?_) (fun (c5 : ¬ (x5 < 0)) => ?_)
      · refine wp_run 5 (pc' := 85) (ls' := [(2, 321), (0, x1), (0, x2), (0, x3), (0, x4), (0, x5), (0, x6)]) (st' := [(0, x6), (0, x3), (0, x2), (0, x1), (2, 321)]) rfl ?_
        refine wp_callv (pc' := 88) (as := [(2, 321), (0, x1), (0, x2), (0, x3), (0, x6)]) (rest := []) (ls1 := [(2, 321), (0, x1), (0, x2), (0, x3), (0, x6), (3, 0)]) rfl rfl rfl rfl rfl rfl ?_
        exact l5 c1 c4 c5
      · refine wp_run 1 (pc' := 65) (ls' := [(2, 321), (0, x1), (0, x2), (0, x3), (0, x4), (0, x5), (0, x6)]) (st' := [(0, x6)]) rfl ?_
        refine wp_callv (pc' := 68) (as := [(0, x6)]) (rest := []) (ls1 := [(0, x6), (3, 0), (3, 0)]) rfl rfl rfl rfl rfl rfl ?_
        refine s_X10_members  ?_
        show wp xs _ mX10_hold 68 [(2, 321), (0, x1), (0, x2), (0, x3), (0, x4), (0, x5), (0, x6)] [(0, (z_mbr x6))] z_LL M _
        refine wp_run 1 (pc' := 70) (ls' := [(2, 321), (0, x1), (0, x2), (0, x3), (0, x4), (0, x5), (0, x6)]) (st' := [(0, x5), (0, (z_mbr x6))]) rfl ?_
        refine wp_callv (pc' := 73) (as := [(0, x5)]) (rest := [(0, (z_mbr x6))]) (ls1 := [(0, x5), (3, 0), (3, 0)]) rfl rfl rfl rfl rfl rfl ?_
        refine s_X10_members  ?_
        show wp xs _ mX10_hold 73 [(2, 321), (0, x1), (0, x2), (0, x3), (0, x4), (0, x5), (0, x6)] [(0, (z_mbr x5)), (0, (z_mbr x6))] z_LL M _
        refine wp_if2 rfl rfl rfl (fun (c6 : (z_mbr x6) < (z_mbr x5)) => ?_) (fun (c6 : ¬ ((z_mbr x6) < (z_mbr x5))) => ?_)
        · refine wp_run 5 (pc' := 85) (ls' := [(2, 321), (0, x1), (0, x2), (0, x3), (0, x4), (0, x5), (0, x6)]) (st' := [(0, x6), (0, x3), (0, x2), (0, x1), (2, 321)]) rfl ?_
          refine wp_callv (pc' := 88) (as := [(2, 321), (0, x1), (0, x2), (0, x3), (0, x6)]) (rest := []) (ls1 := [(2, 321), (0, x1), (0, x2), (0, x3), (0, x6), (3, 0)]) rfl rfl rfl rfl rfl rfl ?_
          exact l6 c1 c4 c5 c6
        · refine wp_run 3 (pc' := 37) (ls' := [(2, 321), (0, x1), (0, x2), (0, x3), (0, x4), (0, x5), (0, (z_w (x6 + 1)))]) (st' := []) rfl ?_
          exact l7 c1 c4 c5 c6
set_option maxRecDepth 20000 in
theorem gX10_hold_88 {xs : List Int} {d : Nat} {M : z_M} {P : Option z_V → z_L → z_M → Prop} {x1 : Int} {x2 : Int} {x3 : Int} {x4 : Int} {x5 : Int} {x6 : Int} {s0 : Int} 
    (l1 : (s0 = 0) → wp xs d mX10_hold 37 [(2, 321), (0, x1), (0, x2), (0, x3), (0, x4), (0, x5), (0, (z_w (x6 + 1)))] [] z_LL M P)
    (l2 : (¬ (s0 = 0)) → wp xs d mX10_hold 37 [(2, 321), (0, x1), (0, x2), (0, x3), (0, x4), (0, x6), (0, (z_w (x6 + 1)))] [] z_LL M P) :
    wp xs d mX10_hold 88 [(2, 321), (0, x1), (0, x2), (0, x3), (0, x4), (0, x5), (0, x6)] [(0, s0)] z_LL M P := by
  refine wp_if1 rfl rfl rfl (fun (c1 : s0 = 0) => ?_) (fun (c1 : ¬ (s0 = 0)) => ?_)
  · refine wp_run 2 (pc' := 37) (ls' := [(2, 321), (0, x1), (0, x2), (0, x3), (0, x4), (0, x5), (0, (z_w (x6 + 1)))]) (st' := []) rfl ?_
    exact l1 c1
  · refine wp_run 4 (pc' := 37) (ls' := [(2, 321), (0, x1), (0, x2), (0, x3), (0, x4), (0, x6), (0, (z_w (x6 + 1)))]) (st' := []) rfl ?_
    exact l2 c1
set_option maxRecDepth 20000 in
theorem gX10_isHeld_0 {xs : List Int} {d : Nat} {M : z_M} {P : Option z_V → z_L → z_M → Prop} {a1 : Int} {a2 : Int} {a3 : Int} {a4 : Int} 
    (l1 : wp xs d mX10_load 0 [(2, 321), (3, 0)] [] z_LL M (fun r L1 M1 => wp xs (d + 1) mX10_isHeld 4 [(2, 321), (0, a1), (0, a2), (0, a3), (0, a4), (3, 0)] (z_ol r ++ []) L1 M1 P)) :
    wp xs (d + 1) mX10_isHeld 0 [(2, 321), (0, a1), (0, a2), (0, a3), (0, a4), (3, 0)] [] z_LL M P := by
  refine wp_run 1 (pc' := 1) (ls' := [(2, 321), (0, a1), (0, a2), (0, a3), (0, a4), (3, 0)]) (st' := [(2, 321)]) rfl ?_
  refine wp_callv (pc' := 4) (as := [(2, 321)]) (rest := []) (ls1 := [(2, 321), (3, 0)]) rfl rfl rfl rfl rfl rfl ?_
  exact l1
set_option maxRecDepth 20000 in
theorem gX10_isHeld_4 {xs : List Int} {d : Nat} {M : z_M} {P : Option z_V → z_L → z_M → Prop} {x1 : Int} {x2 : Int} {x3 : Int} {x4 : Int} 
    (l1 : wp xs d mX10_isHeld 7 [(2, 321), (0, x1), (0, x2), (0, x3), (0, x4), (0, 0)] [] z_LL M P) :
    wp xs d mX10_isHeld 4 [(2, 321), (0, x1), (0, x2), (0, x3), (0, x4), (3, 0)] [] z_LL M P := by
  refine wp_run 2 (pc' := 7) (ls' := [(2, 321), (0, x1), (0, x2), (0, x3), (0, x4), (0, 0)]) (st' := []) rfl ?_
  exact l1
set_option maxRecDepth 20000 in
theorem gX10_isHeld_7 {xs : List Int} {d : Nat} {M : z_M} {P : Option z_V → z_L → z_M → Prop} {x1 : Int} {x2 : Int} {x3 : Int} {x4 : Int} {x5 : Int} (hF : z_fix M) 
    (l1 : ((M 321 48) ≤ x5) → wp xs d mX10_isHeld 47 [(2, 321), (0, x1), (0, x2), (0, x3), (0, x4), (0, 0)] [] z_LL M P)
    (l2 : (¬ ((M 321 48) ≤ x5)) → ((z_and (z_shr x4 x5) 1) ≠ 1) → wp xs d mX10_isHeld 7 [(2, 321), (0, x1), (0, x2), (0, x3), (0, x4), (0, (z_w (x5 + 1)))] [] z_LL M P)
    (b1 : (¬ ((M 321 48) ≤ x5)) → (¬ ((z_and (z_shr x4 x5) 1) ≠ 1)) → 0 ≤ (z_w (6 + x5)) ∧ (z_w (6 + x5)) < 106)
    (l3 : (¬ ((M 321 48) ≤ x5)) → (¬ ((z_and (z_shr x4 x5) 1) ≠ 1)) → wp xs d mX10_isHeld 7 [(2, 321), (0, x1), (0, x2), (0, x3), (0, x4), (0, (z_w (x5 + 1)))] [] z_LL (z_up M 343 (z_w (6 + x5)) 1) P) :
    wp xs d mX10_isHeld 7 [(2, 321), (0, x1), (0, x2), (0, x3), (0, x4), (0, x5)] [] z_LL M P := by
  refine wp_run 2 (pc' := 10) (ls' := [(2, 321), (0, x1), (0, x2), (0, x3), (0, x4), (0, x5)]) (st' := [(2, 321), (0, x5)]) rfl ?_
  refine wp_gf (pc' := 13) (t := 0) (v := (M 321 48)) rfl rfl (by decide) rfl rfl rfl ?_
  refine wp_if2 rfl rfl rfl (fun (c1 : (M 321 48) ≤ x5) => ?_) (fun (c1 : ¬ ((M 321 48) ≤ x5)) => ?_)
  · refine wp_run 2 (pc' := 47) (ls' := [(2, 321), (0, x1), (0, x2), (0, x3), (0, x4), (0, 0)]) (st' := []) rfl ?_
    exact l1 c1
  · refine wp_run 6 (pc' := 24) (ls' := [(2, 321), (0, x1), (0, x2), (0, x3), (0, x4), (0, x5)]) (st' := [(0, 1), (0, (z_and (z_shr x4 x5) 1))]) rfl ?_
    refine wp_if2 rfl rfl rfl (fun (c2 : (z_and (z_shr x4 x5) 1) ≠ 1) => ?_) (fun (c2 : ¬ ((z_and (z_shr x4 x5) 1) ≠ 1)) => ?_)
    · refine wp_run 2 (pc' := 7) (ls' := [(2, 321), (0, x1), (0, x2), (0, x3), (0, x4), (0, (z_w (x5 + 1)))]) (st' := []) rfl ?_
      exact l2 c1 c2
    · refine wp_run 1 (pc' := 28) (ls' := [(2, 321), (0, x1), (0, x2), (0, x3), (0, x4), (0, x5)]) (st' := [(2, 321)]) rfl ?_
      refine wp_gf (pc' := 31) (t := 2) (v := 343) rfl rfl (by decide) rfl rfl (fx_321_61 hF) ?_
      refine wp_run 4 (pc' := 37) (ls' := [(2, 321), (0, x1), (0, x2), (0, x3), (0, x4), (0, x5)]) (st' := [(0, 1), (0, (z_w (6 + x5))), (2, 343)]) rfl ?_
      refine wp_iast (pc' := 38) rfl rfl rfl (b1 c1 c2) ?_
      refine wp_run 2 (pc' := 7) (ls' := [(2, 321), (0, x1), (0, x2), (0, x3), (0, x4), (0, (z_w (x5 + 1)))]) (st' := []) rfl ?_
      exact l3 c1 c2
set_option maxRecDepth 20000 in
theorem gX10_isHeld_47 {xs : List Int} {d : Nat} {M : z_M} {P : Option z_V → z_L → z_M → Prop} {x1 : Int} {x2 : Int} {x3 : Int} {x4 : Int} {x5 : Int} (hF : z_fix M) 
    (b1 : (x3 ≤ x5) → 0 ≤ (z_w ((z_w (18 + (z_w (6 * x1)))) + x2)) ∧ (z_w ((z_w (18 + (z_w (6 * x1)))) + x2)) < 106)
    (l1 : (x3 ≤ x5) → ((z_w ((M 343 (z_w ((z_w (18 + (z_w (6 * x1)))) + x2))) - (M 342 (z_w ((z_w (18 + (z_w (6 * x1)))) + x2))))) ≠ 0) → P (some (0, 0)) z_LL M)
    (l2 : (x3 ≤ x5) → (¬ ((z_w ((M 343 (z_w ((z_w (18 + (z_w (6 * x1)))) + x2))) - (M 342 (z_w ((z_w (18 + (z_w (6 * x1)))) + x2))))) ≠ 0)) → P (some (0, 1)) z_LL M)
    (l3 : (¬ (x3 ≤ x5)) → wp xs d mX10_goDay 0 [(2, 321), (0, (M 321 52)), (3, 0), (3, 0)] [] z_LL M (fun r L1 M1 => wp xs (d + 1) mX10_isHeld 61 [(2, 321), (0, x1), (0, x2), (0, x3), (0, x4), (0, x5)] (z_ol r ++ []) L1 M1 P)) :
    wp xs (d + 1) mX10_isHeld 47 [(2, 321), (0, x1), (0, x2), (0, x3), (0, x4), (0, x5)] [] z_LL M P := by
  refine wp_run 2 (pc' := 50) (ls' := [(2, 321), (0, x1), (0, x2), (0, x3), (0, x4), (0, x5)]) (st' := [(0, x3), (0, x5)]) rfl ?_
  refine wp_if2 rfl rfl rfl (fun (c1 : x3 ≤ x5) => ?_) (fun (c1 : ¬ (x3 ≤ x5)) => ?_)
  · refine wp_run 3 (pc' := 71) (ls' := [(2, 321), (0, x1), (0, x2), (0, x3), (0, x4), (0, x5)]) (st' := [(0, x2), (0, x1), (2, 321)]) rfl ?_
    refine wp_callv (pc' := 74) (as := [(2, 321), (0, x1), (0, x2)]) (rest := []) (ls1 := [(2, 321), (0, x1), (0, x2)]) rfl rfl rfl rfl rfl rfl ?_
    refine wp_run 1 (pc' := 1) (ls' := [(2, 321), (0, x1), (0, x2)]) (st' := [(2, 321)]) rfl ?_
    refine wp_gf (pc' := 4) (t := 2) (v := 343) rfl rfl (by decide) rfl rfl (fx_321_61 hF) ?_
    refine wp_run 7 (pc' := 13) (ls' := [(2, 321), (0, x1), (0, x2)]) (st' := [(0, (z_w ((z_w (18 + (z_w (6 * x1)))) + x2))), (2, 343)]) rfl ?_
    refine wp_iald (pc' := 14) (v := (M 343 (z_w ((z_w (18 + (z_w (6 * x1)))) + x2)))) rfl rfl rfl (b1 c1) rfl ?_
    refine wp_run 1 (pc' := 15) (ls' := [(2, 321), (0, x1), (0, x2)]) (st' := [(2, 321), (0, (M 343 (z_w ((z_w (18 + (z_w (6 * x1)))) + x2))))]) rfl ?_
    refine wp_gf (pc' := 18) (t := 2) (v := 342) rfl rfl (by decide) rfl rfl (fx_321_60 hF) ?_
    refine wp_run 7 (pc' := 27) (ls' := [(2, 321), (0, x1), (0, x2)]) (st' := [(0, (z_w ((z_w (18 + (z_w (6 * x1)))) + x2))), (2, 342), (0, (M 343 (z_w ((z_w (18 + (z_w (6 * x1)))) + x2))))]) rfl ?_
    refine wp_iald (pc' := 28) (v := (M 342 (z_w ((z_w (18 + (z_w (6 * x1)))) + x2)))) rfl rfl rfl (b1 c1) rfl ?_
    refine wp_run 1 (pc' := 29) (ls' := [(2, 321), (0, x1), (0, x2)]) (st' := [(0, (z_w ((M 343 (z_w ((z_w (18 + (z_w (6 * x1)))) + x2))) - (M 342 (z_w ((z_w (18 + (z_w (6 * x1)))) + x2))))))]) rfl ?_
    refine wp_ret rfl rfl ?_
    show wp xs _ mX10_isHeld 74 [(2, 321), (0, x1), (0, x2), (0, x3), (0, x4), (0, x5)] [(0, (z_w ((M 343 (z_w ((z_w (18 + (z_w (6 * x1)))) + x2))) - (M 342 (z_w ((z_w (18 + (z_w (6 * x1)))) + x2))))))] z_LL M _
    refine wp_if1 rfl rfl rfl (fun (c2 : (z_w ((M 343 (z_w ((z_w (18 + (z_w (6 * x1)))) + x2))) - (M 342 (z_w ((z_w (18 + (z_w (6 * x1)))) + x2))))) ≠ 0) => ?_) (fun (c2 : ¬ ((z_w ((M 343 (z_w ((z_w (18 + (z_w (6 * x1)))) + x2))) - (M 342 (z_w ((z_w (18 + (z_w (6 * x1)))) + x2))))) ≠ 0)) => ?_)
    · refine wp_run 1 (pc' := 82) (ls' := [(2, 321), (0, x1), (0, x2), (0, x3), (0, x4), (0, x5)]) (st' := [(0, 0)]) rfl ?_
      exact wp_ret rfl rfl (l1 c1 c2)
    · refine wp_run 2 (pc' := 82) (ls' := [(2, 321), (0, x1), (0, x2), (0, x3), (0, x4), (0, x5)]) (st' := [(0, 1)]) rfl ?_
      exact wp_ret rfl rfl (l2 c1 c2)
  · refine wp_run 2 (pc' := 55) (ls' := [(2, 321), (0, x1), (0, x2), (0, x3), (0, x4), (0, x5)]) (st' := [(2, 321), (2, 321)]) rfl ?_
    refine wp_gf (pc' := 58) (t := 0) (v := (M 321 52)) rfl rfl (by decide) rfl rfl rfl ?_
    refine wp_callv (pc' := 61) (as := [(2, 321), (0, (M 321 52))]) (rest := []) (ls1 := [(2, 321), (0, (M 321 52)), (3, 0), (3, 0)]) rfl rfl rfl rfl rfl rfl ?_
    exact l3 c1
set_option maxRecDepth 20000 in
theorem gX10_isHeld_61 {xs : List Int} {d : Nat} {M : z_M} {P : Option z_V → z_L → z_M → Prop} {x1 : Int} {x2 : Int} {x3 : Int} {x4 : Int} {x5 : Int} {s0 : Int} 
    (l1 : wp xs d mX10_isHeld 47 [(2, 321), (0, x1), (0, x2), (0, x3), (0, x4), (0, (z_w (x5 + 1)))] [] z_LL M P) :
    wp xs d mX10_isHeld 61 [(2, 321), (0, x1), (0, x2), (0, x3), (0, x4), (0, x5)] [(0, s0)] z_LL M P := by
  refine wp_run 3 (pc' := 47) (ls' := [(2, 321), (0, x1), (0, x2), (0, x3), (0, x4), (0, (z_w (x5 + 1)))]) (st' := []) rfl ?_
  exact l1
section
variable {xs : List Int} {d : Nat} {M : z_M}
theorem z_R_pnm (hR : z_R M) : z_pnm M = z_pens (M 342) (M 321 48).toNat := by
  have hn := (z_R_C hR).2.2.1
  unfold z_pnm
  rw [z_pnr_set (by omega) (fun f a b => ((z_R_S hR).1 f a (by omega)).2.1), z_pens_set (fun f a b => ((z_R_S hR).1 f a (by omega)).2.1) (by omega)]
/-- with a set penned besides, two are not mixed in so many days -/
def z_hld (M : z_M) (a b : Int) (m : Nat) (v : Int) : Prop := ¬ M 342 (18 + 6 * a + b) + 1 ≤ z_dys M (M 321 52) (z_pnn (M 342) (M 321 48).toNat v) m (18 + 6 * a + b)
/-- and none of it is penned now -/
def z_hgd (M : z_M) (a b : Int) (m : Nat) (v : Nat) : Prop := z_and v (z_pens (M 342) (M 321 48).toNat) = 0 ∧ z_hld M a b m v
theorem z_hld_q {M' : z_M} (f : z_sc M M') : z_hld M' = z_hld M := by
  funext a b m v
  unfold z_hld
  rw [z_dys_q (z_sc_c f), f.1 342 (by unfold z_sq; omega), z_sc_c f 321 (by unfold z_conf; omega)]
theorem s_X0_leastPens {P : Option z_V → z_L → z_M → Prop} {a b : Int} {m : Nat} (hR : z_R M) (hm : m ≤ 20) (e4 : M 38 4 = a) (e5 : M 38 5 = b) (e6 : M 38 6 = 1) (e7 : M 38 7 = m) (ha : 0 ≤ a ∧ a < M 321 48) (hb : 0 ≤ b ∧ b < M 321 48) (hne : a ≠ b) (kk : ∀ M' : z_M, z_sc M M' → P (some (0, z_bhr (z_hgd M a b m) (2 ^ (M 321 48).toNat))) z_LL M') : wp xs (d + 6) mX0_leastPens 0 [(2, 38), (2, M 1 2), (3, 0), (3, 0), (3, 0), (3, 0)] [] z_LL M P := by
  have hn := (z_R_C hR).2.2.1
  obtain ⟨n, hne2⟩ : ∃ n : Nat, M 321 48 = (n : Int) := ⟨(M 321 48).toNat, by omega⟩
  have eN : (M 321 48).toNat = n := by omega
  rw [eN] at kk
  have n6 : n ≤ 6 := by omega
  have h2 : (2 : Nat) ^ n ≤ 2 ^ 6 := Nat.pow_le_pow_right (by decide) n6
  have bcm : ∀ v : Nat, v < 2 ^ n → z_bc v = z_mbr v := fun v hv => (z_mbr_6 v (by omega)).symm
  have hp := z_bhr_p (G := z_hgd M a b m) (2 ^ n)
  have hh : ∀ M' : z_M, z_sc M M' → z_her M' (M 1 2) := fun M' f => by
    have q1 : M' 1 = M 1 := f.1 1 (by unfold z_sq; omega)
    rw [← q1]
    exact (z_R_H (z_sc_R f hR)).1
  have g := gX0_leastPens_0 (M := M) (xs := xs) (d := d + 6) (P := P) (a1 := M 1 2) (z_R_F hR) (z_R_H hR).1 (z_R_G hR).1
  rw [(z_R_G hR).2.1.2.2.1, hne2, z_shl1 n (by omega)] at g
  refine g ?_
  generalize hG : z_hgd M a b m = G at *
  refine z_loop (W := fun j => ∀ (M' : z_M) (w4 w5 : z_V), z_sc M M' → M' 38 = M 38 → (∀ v : Nat, v < 2 ^ n → G v → (j : Int) ≤ z_mbr v) → wp xs (d + 6) mX0_leastPens 15 [(2, 38), (2, M 1 2), (0, ((2 ^ n : Nat) : Int)), (0, (j : Int)), w4, w5] [] z_LL M' P) (n + 1) (fun j hj ih M' w4 w5 f e8 hv => ?_) M _ _ z_sc_r rfl (fun v hv _ => (z_mbr_n n (by omega) v hv).2)
  have hR' := z_sc_R f hR
  have g := gX0_leastPens_15 (M := M') (xs := xs) (d := d + 6) (P := P) (x1 := M 1 2) (x2 := ((2 ^ n : Nat) : Int)) (x3 := (j : Int)) (w4 := w4) (w5 := w5) (z_R_F hR') (hh M' f) (z_R_G hR').1
  rw [(z_R_G hR').2.1.2.2.1, z_sc_c f 321 (by unfold z_conf; omega), hne2] at g
  refine g (fun c => ?_) (fun c => ?_)
  · rcases hp with ⟨p1, p2⟩ | ⟨r, p1, p2, p3, p4⟩
    · rw [p1] at kk
      exact kk M' f
    · have := hv r p2 p3
      have := (z_mbr_n n (by omega) r p2).1
      omega
  · have ih := ih (by omega)
    refine z_loop (W := fun v => ∀ (M2 : z_M) (w5 : z_V), z_sc M M2 → M2 38 = M 38 → (∀ u : Nat, u < v → G u → (j : Int) < z_mbr u) → wp xs (d + 6) mX0_leastPens 32 [(2, 38), (2, M 1 2), (0, ((2 ^ n : Nat) : Int)), (0, (j : Int)), (0, (v : Int)), w5] [] z_LL M2 P) (2 ^ n) (fun v hvn ih2 M2 w5 f2 e82 hu => ?_) M' _ f e8 (fun u q => absurd q (by omega))
    have hR2 := z_sc_R f2 hR
    have q2 : M2 1 = M 1 := f2.1 1 (by unfold z_sq; omega)
    have e321 := z_sc_c f2 321 (by unfold z_conf; omega)
    have e342 := f2.1 342 (by unfold z_sq; omega)
    have g := gX0_leastPens_32 (M := M2) (xs := xs) (d := d + 5) (P := P) (x1 := M 1 2) (x2 := ((2 ^ n : Nat) : Int)) (x3 := (j : Int)) (x4 := (v : Int)) (w5 := w5) (hh M2 f2)
    have e5p : M2 (M 1 2) 5 = z_pens (M 342) n := by rw [z_sc_n hR f2, (z_R_H hR).2.2.2.2.1, eN]
    rw [e5p, z_in1 (i := j) (by omega), z_in1 (i := v) (by omega)] at g
    refine g (fun c2 => ?_) (fun c2 c3 => ?_) (fun c2 c3 c4 => ?_) (fun c2 c3 c4 => ?_)
    · refine ih M2 _ _ f2 e82 (fun u hu1 hu2 => ?_)
      have := hu u (by omega) hu2
      omega
    · refine ih2 (by omega) M2 _ f2 e82 (fun u hu1 hu2 => ?_)
      by_cases e : u = v
      · have := hv u (by omega) hu2
        rw [bcm v (by omega)] at c3
        rw [e] at this ⊢
        omega
      · exact hu u (by omega) hu2
    · refine ih2 (by omega) M2 _ f2 e82 (fun u hu1 hu2 => ?_)
      by_cases e : u = v
      · rw [e, ← hG] at hu2
        have := hu2.1
        rw [eN] at this
        exact absurd this c4
      · exact hu u (by omega) hu2
    · have c3 := Classical.byContradiction c3
      have c4 := Classical.byContradiction c4
      rw [bcm v (by omega)] at c3
      rw [← q2]
      have hs01 := fun f a b => ((z_R_S hR).1 f a b).2.1
      refine s_X0_mixEnough (a := a) (b := b) (ev := 1) (days := m) (x := 0) (y := (v : Int)) (t0 := z_pnn (M 342) n v) hR2 hm (by decide) (by rw [e82, e4]) (by rw [e82, e5]) (by rw [e82, e6]) (by rw [e82, e7]) (by rw [e321]; exact ha) (by rw [e321]; exact hb) hne (fun k hk => by rw [e342]; exact z_pnn_o (by omega)) ?_ ?_ (fun M3 J f3 e83 _ _ _ _ _ => ?_)
      · have := z_sn_pnn (v := (v : Int)) (z_R_C hR) (z_R_S hR)
        rw [eN] at this
        exact z_sn_x (z_cfe_c (z_sc_c f2)) this
      · rw [e342, e321, eN]
        exact z_pens_or n6 (by omega) (fun f a b => hs01 f a (by omega))
      · rw [z_sls_z (fun c a b => z_bt_0 (by omega)), e342, e321, z_dys_q (z_sc_c f2)]
        have f23 := z_sc_t f2 f3
        have q3 : M3 1 = M2 1 := f3.1 1 (by unfold z_sq; omega)
        refine gX0_leastPens_77 (M := M3) (x1 := M2 1 2) (by rw [← q3]; exact (z_R_H (z_sc_R f3 hR2)).1) (fun c5 => ?_) (fun c5 => ?_)
        · rw [z_in1 (by omega), q2]
          refine ih2 (by omega) M3 _ f23 (by rw [e83, e82]) (fun u hu1 hu2 => ?_)
          by_cases e : u = v
          · rw [e, ← hG] at hu2
            have := hu2.2
            unfold z_hld at this
            rw [eN] at this
            exact absurd (z_b_f this) c5
          · exact hu u (by omega) hu2
        · have gd : G v := by
            rw [← hG]
            refine ⟨by rw [eN]; exact c4, fun q => c5 ?_⟩
            rw [eN] at q
            rw [z_b_t q]
            decide
          rcases hp with ⟨p1, p2⟩ | ⟨r, p1, p2, p3, p4⟩
          · exact absurd gd (p2 v (by omega))
          · have e : r = v := by
              have w1 := hv r p2 p3
              rcases p4 v (by omega) gd with w | w
              · omega
              · by_cases l : r < v
                · have := hu r l p3
                  omega
                · omega
            rw [p1, e] at kk
            exact kk M3 f23
theorem s_X10_isHeld {P : Option z_V → z_L → z_M → Prop} {a b : Int} {m v : Nat} (hR : z_R M) (hm : m ≤ 20) (ha : 0 ≤ a ∧ a < M 321 48) (hb : 0 ≤ b ∧ b < M 321 48) (kk : ∀ M' : z_M, z_sc M M' → P (some (0, z_b (z_hld M a b m v))) z_LL M') : wp xs (d + 6) mX10_isHeld 0 [(2, 321), (0, a), (0, b), (0, (m : Int)), (0, (v : Int)), (3, 0)] [] z_LL M P := by
  have hn := (z_R_C hR).2.2.1
  have hS := z_sn_pnn (v := (v : Int)) (z_R_C hR) (z_R_S hR)
  have hsn := fun j : Nat => z_dys_sn (ev := M 321 52) (z_R_C hR) hS j
  refine gX10_isHeld_0 ?_
  refine s_ldR hR (fun M1 f1 e1 => ?_)
  refine gX10_isHeld_4 ?_
  refine z_loop (W := fun i => ∀ M' : z_M, (∀ q, q ≠ 343 → M' q = M1 q) → M' 343 = z_pnn (M 342) i v → wp xs (d + 6) mX10_isHeld 7 [(2, 321), (0, a), (0, b), (0, (m : Int)), (0, (v : Int)), (0, (i : Int))] [] z_LL M' P) (M 321 48).toNat (fun i hi ih M' u1 u2 => ?_) M1 (fun _ _ => rfl) (by rw [e1]; funext k; rw [z_pnn_o (by omega)])
  have f : z_sc M M' := z_sc_t f1 ⟨fun q hq => u1 q (by unfold z_sq at hq; omega), fun j _ => by rw [u1 34 (by decide)], fun j _ _ => ⟨by rw [u1 38 (by decide)], by rw [u1 289 (by decide)]⟩, fun j _ _ => by rw [u1 39 (by decide)], fun k hk => by rw [u2, e1, z_pnn_o (by omega)]⟩
  have hR' := z_sc_R f hR
  have e321 := z_sc_c f 321 (by unfold z_conf; omega)
  have g := gX10_isHeld_7 (M := M') (xs := xs) (d := d + 6) (P := P) (x1 := a) (x2 := b) (x3 := (m : Int)) (x4 := (v : Int)) (x5 := (i : Int)) (z_R_F hR')
  rw [e321, z_in1 (by omega)] at g
  have nxt : ∀ t : Int → Int, (∀ k, k ≠ 6 + (i : Int) → t k = z_pnn (M 342) i v k) → t (6 + i) = (if z_and (z_shr (v : Int) i) 1 = 0 then M 342 (6 + i) else 1) → t = z_pnn (M 342) (i + 1) v := fun t h1 h2 => by
    funext k
    by_cases e : k = 6 + i
    · rw [e, h2, z_pnn_f (by omega)]
    · rw [h1 k e]
      by_cases c : 6 ≤ k ∧ k < 6 + (i : Int)
      · have e1 := z_pnn_f (s := M 342) (n := i) (v := (v : Int)) (f := k - 6) (by omega)
        have e2 := z_pnn_f (s := M 342) (n := i + 1) (v := (v : Int)) (f := k - 6) (by omega)
        rw [show 6 + (k - 6) = k by omega] at e1 e2
        rw [e1, e2]
      · rw [z_pnn_o c, z_pnn_o (by omega)]
  by_cases hlt : (i : Int) < M 321 48
  · rw [z_wid (x := 6 + (i : Int)) (by omega)] at g
    have b01 := z_bt_01 (x := (v : Int)) (c := (i : Int)) (by omega)
    refine g (fun c => by omega) (fun _ c => ?_) (fun _ _ => by omega) (fun _ c => ?_)
    · refine ih (by omega) M' u1 ?_
      rw [u2]
      refine nxt _ (fun _ _ => rfl) ?_
      rw [if_pos, z_pnn_o (by omega)]
      have := @z_b_01 (z_bt (v : Int) i)
      omega
    · refine ih (by omega) _ (fun q hq => by rw [z_upn hq, u1 q hq]) ?_
      rw [z_upw, u2]
      refine nxt _ (fun k hk => z_pt_n hk) ?_
      rw [z_pt_s, if_neg]
      omega
  · refine g (fun _ => ?_) (fun q => by omega) (fun q => by omega) (fun q => by omega)
    have ei : i = (M 321 48).toNat := by omega
    rw [ei] at u2
    refine z_loop (W := fun j => ∀ M2 : z_M, z_sc M M2 → M2 343 = z_dys M (M 321 52) (z_pnn (M 342) (M 321 48).toNat v) j → wp xs (d + 6) mX10_isHeld 47 [(2, 321), (0, a), (0, b), (0, (m : Int)), (0, (v : Int)), (0, (j : Int))] [] z_LL M2 P) m (fun j hj ihj M2 f2 e2 => ?_) M' f u2
    have hR2 := z_sc_R f2 hR
    have e3 := z_sc_c f2 321 (by unfold z_conf; omega)
    have mm := z_dys_mm (ev := M 321 52) (z_R_C hR) hS (k := 18 + 6 * a + b) (by omega) 0 j
    have m0 : z_dys M (M 321 52) (z_pnn (M 342) (M 321 48).toNat v) 0 (18 + 6 * a + b) = M 342 (18 + 6 * a + b) := z_pnn_o (by omega)
    rw [m0, Nat.zero_add] at mm
    have g := gX10_isHeld_47 (M := M2) (xs := xs) (d := d + 5) (P := P) (x1 := a) (x2 := b) (x3 := (m : Int)) (x4 := (v : Int)) (x5 := (j : Int)) (z_R_F hR2)
    simp only [e2, e3, f2.1 342 (by unfold z_sq; omega), z_wid (x := 6 * a) (by omega), z_wid (x := 18 + 6 * a) (by omega), z_wid (x := 18 + 6 * a + b) (by omega), z_wid (x := z_dys M (M 321 52) (z_pnn (M 342) (M 321 48).toNat v) j (18 + 6 * a + b) - M 342 (18 + 6 * a + b)) (by omega)] at g
    refine g (fun _ => by omega) (fun c c2 => ?_) (fun c c2 => ?_) (fun c => ?_)
    · obtain rfl : j = m := by omega
      have := kk M2 f2
      rw [z_b_f (by unfold z_hld; omega)] at this
      exact this
    · obtain rfl : j = m := by omega
      have := kk M2 f2
      rw [z_b_t (by unfold z_hld; omega)] at this
      exact this
    · have hs := z_sn_x (z_cfe_c (z_sc_c f2)) (hsn j)
      rw [← e2] at hs
      refine s_air hR2 hs (by omega) (fun M3 f3 e33 => ?_)
      refine gX10_isHeld_61 ?_
      rw [z_in1 (by omega)]
      refine ihj (by omega) M3 (z_sc_t f2 f3) ?_
      rw [e33, z_day_q (z_sc_c f2), e2]
      rfl
theorem c_hold {a1 a2 a3 a4 : Int} (hR : z_R M) : z_two xs (d + 200) mX9_hold mX10_hold [(2, 1), (0, a1), (0, a2), (0, a3), (0, a4)] [(2, 321), (0, a1), (0, a2), (0, a3), (0, a4), (3, 0), (3, 0)] M := by
  have hn := (z_R_C hR).2.2.1
  obtain ⟨n1, n2, n3, n4, n5⟩ := z_R_n hR
  have g := fun P => gX9_hold_0 (M := M) (xs := xs) (d := d + 198) (P := P) (a1 := a1) (a2 := a2) (a3 := a3) (a4 := a4) (z_R_F hR) (z_R_g hR).1 (z_R_H hR).1
  simp only [n3] at g
  have cm := z_R_cm hR a1 a2
  have g2 : ∀ (M2 : z_M) P, z_R M2 → z_sc M M2 → _ := fun M2 P hR2 f => by
    have g := gX10_hold_0 (M := M2) (xs := xs) (d := d + 197) (P := P) (a1 := a1) (a2 := a2) (a3 := a3) (a4 := a4) (z_R_F hR2) (z_R_C hR2)
    simp only [z_sc_c f 321 (by unfold z_conf; omega), z_cm_q (z_sc_c f)] at g
    exact g
  by_cases h : z_cmg M (M 1 0) a1 a2 ∧ (1 ≤ a3 ∧ a3 ≤ 20) ∧ (0 ≤ a4 ∧ a4 ≤ 1)
  · obtain ⟨m, rfl⟩ : ∃ m : Nat, a3 = m := ⟨a3.toNat, by omega⟩
    have h2 := cm.mp h.1
    have hne : a1 ≠ a2 := fun e => h2.2.2.1 (by rw [e])
    obtain ⟨n, hnn⟩ : ∃ n : Nat, M 321 48 = (n : Int) := ⟨(M 321 48).toNat, by omega⟩
    have eN : (M 321 48).toNat = n := by omega
    have h6 : (2 : Nat) ^ n ≤ 2 ^ 6 := Nat.pow_le_pow_right (by decide) (by omega)
    have hp := z_bhr_p (G := z_hgd M a1 a2 m) (2 ^ n)
    refine z_two_q (if z_bhr (z_hgd M a1 a2 m) (2 ^ n) = -1 then -1 else if a4 = 0 then z_mbr (z_bhr (z_hgd M a1 a2 m) (2 ^ n)) else z_bhr (z_hgd M a1 a2 m) (2 ^ n)) hR (fun P k => ?_) (fun M1 P f1 hR1 k => ?_)
    · refine g _ (by omega) (fun q => absurd h.1 q) (fun _ _ => by omega) (fun _ _ _ => by omega) (fun _ _ _ _ => by omega) (fun _ _ _ _ _ => by omega) (fun _ _ _ _ _ => ?_)
      have f1 := z_R_ask (a := a1) (b := a2) (e := 1) (m := m) hR
      obtain ⟨v4, v5, v6, v7⟩ := z_ask_v (M := M) (a := a1) (b := a2) (e := 1) (m := m)
      have hR1 := z_sc_R f1 hR
      generalize z_up (z_up (z_up (z_up M 38 4 a1) 38 5 a2) 38 6 1) 38 7 m = M1 at *
      have q1 : M1 1 = M 1 := f1.1 1 (by unfold z_sq; omega)
      have e321 := z_sc_c f1 321 (by unfold z_conf; omega)
      rw [← q1]
      refine s_X0_leastPens hR1 (by omega) v4 v5 v6 v7 (by rw [e321]; exact h2.1) (by rw [e321]; exact h2.2.1) hne (fun M2 f2 => ?_)
      have eg : z_hgd M1 a1 a2 m = z_hgd M a1 a2 m := by
        funext v
        unfold z_hgd
        rw [z_hld_q f1, f1.1 342 (by unfold z_sq; omega), e321]
      rw [eg, e321, eN]
      have kk := k M2 (z_sc_t f1 f2)
      refine gX9_hold_45 (fun c c2 => ?_) (fun c c2 => ?_) (fun c => ?_)
      · rw [if_neg c, if_neg c2] at kk
        exact kk
      · rw [if_neg c, if_pos (by omega)] at kk
        rcases hp with ⟨p1, _⟩ | ⟨r, p1, p2, _⟩
        · exact absurd p1 c
        · rw [p1] at kk ⊢
          rw [← z_mbr_6 r (by omega)]
          exact kk
      · rw [if_pos (Classical.byContradiction c)] at kk
        exact kk
    · refine g2 M1 P hR1 f1 (fun q => absurd h2 q) (fun _ q => absurd h.2.1 q) (fun _ _ _ => ?_) (fun _ _ q => absurd h.2.2 q)
      refine z_loop (W := fun i => ∀ M' : z_M, z_sc M1 M' → wp xs (d + 200) mX10_hold 37 [(2, 321), (0, a1), (0, a2), (0, (m : Int)), (0, a4), (0, z_bhr (z_hgd M a1 a2 m) i), (0, (i : Int))] [] z_LL M' P) (2 ^ n) (fun i hi ih M' f => ?_) M1 z_sc_r
      have f1' := z_sc_t f1 f
      have hR' := z_sc_R f1' hR
      have e321 := z_sc_c f1' 321 (by unfold z_conf; omega)
      have g := gX10_hold_37 (M := M') (xs := xs) (d := d + 199) (P := P) (x1 := a1) (x2 := a2) (x3 := (m : Int)) (x4 := a4) (x5 := z_bhr (z_hgd M a1 a2 m) i) (x6 := (i : Int)) (z_R_F hR') (z_R_C hR')
      rw [z_R_pnm hR', e321, f1'.1 342 (by unfold z_sq; omega), hnn, z_shl1 n (by omega), Int.toNat_natCast, z_in1 (by omega)] at g
      have hpi := z_bhr_p (G := z_hgd M a1 a2 m) i
      have kk := k M' f
      have held : ∀ (x5 : Int), i < 2 ^ n → z_and (i : Int) (z_pens (M 342) n) = 0 → x5 = z_bhr (z_hgd M a1 a2 m) i → (x5 < 0 ∨ z_mbr i < z_mbr x5) → wp xs (d + 199) mX10_isHeld 0 [(2, 321), (0, a1), (0, a2), (0, (m : Int)), (0, (i : Int)), (3, 0)] [] z_LL M' (fun r L1 M1 => wp xs (d + 200) mX10_hold 88 [(2, 321), (0, a1), (0, a2), (0, (m : Int)), (0, a4), (0, x5), (0, (i : Int))] (z_ol r ++ []) L1 M1 P) := by
        intro x5 hlt hz hx hbt
        have ih := ih hlt
        refine s_X10_isHeld hR' (by omega) (by rw [e321]; exact h2.1) (by rw [e321]; exact h2.2.1) (fun M2 f2 => ?_)
        rw [z_hld_q f1']
        refine gX10_hold_88 (fun c => ?_) (fun c => ?_)
        · rw [z_in1 (by omega)]
          rw [z_bhr_n (fun q => by rw [z_b_t q.1.2] at c; omega), ← hx] at ih
          exact ih M2 (z_sc_t f f2)
        · rw [z_in1 (by omega)]
          have hl : z_hld M a1 a2 m i := Classical.byContradiction fun q => c (z_b_f q)
          rw [z_bhr_y ⟨by rw [eN]; exact hz, hl⟩ (by rw [← hx]; exact hbt)] at ih
          exact ih M2 (z_sc_t f f2)
      refine g (fun c c2 c3 => ?_) (fun c c2 c3 => ?_) (fun c c2 => ?_) (fun c c2 => ?_) (fun c c2 c3 => ?_) (fun c c2 c3 c4 => ?_) (fun c c2 c3 c4 => ?_)
      · obtain rfl : i = 2 ^ n := by omega
        rw [if_neg (by omega), if_neg c3] at kk
        exact kk
      · obtain rfl : i = 2 ^ n := by omega
        rw [if_neg (by omega), if_pos (by omega)] at kk
        exact kk
      · obtain rfl : i = 2 ^ n := by omega
        rw [if_pos (by rcases hpi with ⟨p1, _⟩ | ⟨r, p1, _⟩ <;> omega)] at kk
        exact kk
      · have ih := ih (by omega)
        rw [z_bhr_n (fun q => c2 (by have := q.1.1; rw [eN] at this; exact this))] at ih
        exact ih M' f
      · exact held _ (by omega) (Classical.byContradiction c2) rfl (Or.inl c3)
      · exact held _ (by omega) (Classical.byContradiction c2) rfl (Or.inr c4)
      · have ih := ih (by omega)
        rw [z_bhr_n (fun q => by rcases q.2 with w | w <;> omega)] at ih
        exact ih M' f
  · have h2 : ¬ (((0 ≤ a1 ∧ a1 < M 321 48) ∧ (0 ≤ a2 ∧ a2 < M 321 48) ∧ z_cm M a1 a2) ∧ (1 ≤ a3 ∧ a3 ≤ 20) ∧ (0 ≤ a4 ∧ a4 ≤ 1)) := fun q => h ⟨cm.mpr q.1, q.2⟩
    refine z_two_q (-1) hR (fun P k => ?_) (fun M1 P f1 hR1 k => ?_)
    · exact g _ (by omega) (fun _ => k M z_sc_r) (fun _ _ => k M z_sc_r) (fun _ _ _ => k M z_sc_r) (fun _ _ _ _ => k M z_sc_r) (fun _ _ _ _ _ => k M z_sc_r) (fun c c1 c2 c3 c4 => absurd ⟨c, ⟨by omega, by omega⟩, by omega, by omega⟩ h)
    · exact g2 M1 P hR1 f1 (fun _ => k M1 z_sc_r) (fun _ _ => k M1 z_sc_r) (fun c1 c2 c3 => absurd ⟨c1, c2, c3⟩ h2) (fun _ _ _ => k M1 z_sc_r)
end
