/-! pairs: the model, whether a way is calm, what all have -/
section
variable {xs : List Int} {d : Nat} {M : z_M}
theorem z_blk_s {n : Nat} {W : Int → Int} (hY : z_fsy M) {a b : Int} (h : z_blk n (z_cpr M) (z_wnt M) W a b) : z_blk n (z_cpr M) (z_wnt M) W b a := ⟨h.2.1, h.1, z_cpr_s hY h.2.2.1, h.2.2.2.2, h.2.2.2.1⟩
theorem s_X10_isCalm {P : Option z_V → z_L → z_M → Prop} {n : Nat} {W : Int → Int} (hF : z_fix M) (hC : z_mc M) (hY : z_fsy M) (hn : M 321 48 = (n : Int)) (hW : ∀ i : Int, 0 ≤ i → i < n → M 346 i = W i ∧ -1 ≤ W i ∧ W i < n) (k : P (some (0, z_b (z_clm n M W))) z_LL M) : wp xs (d + 2) mX10_isCalm 0 [(2, 321), (3, 0), (3, 0), (3, 0)] [] z_LL M P := by
  have h6 := hC.2.2.1
  refine gX10_isCalm_0 ?_
  refine z_loop (W := fun i => ∀ (x1 : Int) (w3 : z_V), x1 = z_b (∀ a b : Int, b < a → a < i → ¬ z_blk n (z_cpr M) (z_wnt M) W a b) → wp xs (d + 2) mX10_isCalm 4 [(2, 321), (0, x1), (0, (i : Int)), w3] [] z_LL M P) n (fun i hi ih x1 w3 hx => ?_) 1 _ (by rw [z_b_t]; exact fun a b h1 h2 q => by have := q.1; omega)
  have h01 : x1 = 0 ∨ x1 = 1 := by rw [hx]; exact z_b_01
  have g := gX10_isCalm_4 (M := M) (xs := xs) (d := d + 2) (P := P) (x1 := x1) (x2 := (i : Int)) (w3 := w3)
  rw [hn] at g
  refine g (fun _ => h01) (fun c => ?_) (fun c => ?_)
  · have e : x1 = z_b (z_clm n M W) := by
      rw [hx]
      exact z_b_i ⟨fun q a b h w => q b a h (by have := w.2.1; omega) (z_blk_s hY w), fun q a b h _ w => q b a h (z_blk_s hY w)⟩
    rw [e]
    exact k
  · have ih := ih (by omega)
    refine z_loop (W := fun j => ∀ x1 : Int, x1 = z_b ((∀ a b : Int, b < a → a < i → ¬ z_blk n (z_cpr M) (z_wnt M) W a b) ∧ ∀ b : Int, b < j → ¬ z_blk n (z_cpr M) (z_wnt M) W i b) → wp xs (d + 2) mX10_isCalm 14 [(2, 321), (0, x1), (0, (i : Int)), (0, (j : Int))] [] z_LL M P) i (fun j hj ih2 x1 hx => ?_) x1 (by rw [hx]; exact z_b_i ⟨fun q => ⟨q, fun b h w => by have := w.2.1; omega⟩, fun q => q.1⟩)
    have g := gX10_isCalm_14 (M := M) (xs := xs) (d := d) (P := P) (x1 := x1) (x2 := (i : Int)) (x3 := (j : Int)) hF
    rw [z_in1 (i := i) (by omega), z_in1 (i := j) (by omega)] at g
    by_cases hji : j < i
    rotate_left
    · obtain rfl : j = i := by omega
      refine g (fun _ => ih x1 _ ?_) (fun c => by omega) (fun c => by omega) (fun c => by omega) (fun c => by omega) (fun c => by omega) (fun c => by omega) (fun c => by omega) (fun c => by omega) (fun c => by omega) (fun c => by omega) (fun c => by omega) (fun c => by omega) (fun c => by omega) (fun c => by omega) (fun c => by omega) (fun c => by omega) (fun c => by omega) (fun c => by omega) (fun c => by omega) (fun c => by omega) (fun c => by omega) (fun c => by omega) (fun c => by omega)
      rw [hx]
      refine z_b_i ⟨fun q a b h1 h2 w => ?_, fun q => ⟨fun a b h1 h2 => q a b h1 (by omega), fun b h => q j b h (by omega)⟩⟩
      by_cases e : a = j
      · rw [e] at w
        exact q.2 b (by omega) w
      · exact q.1 a b h1 (by omega) w
    · have ih2 := ih2 hji
      have hin : i < n := by omega
      have wi := hW i (by omega) (by omega)
      have wj := hW j (by omega) (by omega)
      have cp : z_cpr M i j ↔ (z_cm M i j ∧ 0 ≤ M 340 (6 * (i : Int) + j) ∧ 0 ≤ M 340 (6 * (j : Int) + i)) := ⟨fun q => q.2, fun q => ⟨⟨by omega, by omega⟩, q⟩⟩
      have bk : z_blk n (z_cpr M) (z_wnt M) W i j ↔ z_cpr M i j ∧ z_hsv (z_wnt M) W i < M 340 (6 * (i : Int) + j) ∧ z_hsv (z_wnt M) W j < M 340 (6 * (j : Int) + i) := by
        unfold z_blk
        exact ⟨fun q => ⟨q.2.2.1, q.2.2.2⟩, fun q => ⟨by omega, by omega, q.1, q.2⟩⟩
      have hsi : z_hsv (z_wnt M) W i = if W i < 0 then 0 else M 340 (6 * (i : Int) + W i) := rfl
      have hsj : z_hsv (z_wnt M) W j = if W j < 0 then 0 else M 340 (6 * (j : Int) + W j) := rfl
      rw [wi.1, wj.1, z_wid (x := 6 * (i : Int)) (by omega), z_wid (x := 6 * (j : Int)) (by omega), z_wid (x := 6 * (i : Int) + j) (by omega), z_wid (x := 6 * (j : Int) + i) (by omega), z_wid (x := 6 * (i : Int) + W i) (by omega), z_wid (x := 6 * (j : Int) + W j) (by omega)] at g
      generalize hA : z_hsv (z_wnt M) W i = A at *
      generalize hB : z_hsv (z_wnt M) W j = B at *
      by_cases hx0 : x1 = 0
      · apply g
        case l2 =>
          intro _ _
          refine ih2 0 ?_
          rw [z_b_f (fun w => ?_)]
          rw [z_b_t ⟨w.1, fun b h => w.2 b (by omega)⟩] at hx
          omega
        all_goals (clear ih ih2 g bk cp; intros; first | omega | contradiction)
      · have all := Classical.byContradiction fun q => hx0 (by rw [hx]; exact z_b_f q)
        have nx1 : ¬ z_blk n (z_cpr M) (z_wnt M) W i j → wp xs (d + 2) mX10_isCalm 14 [(2, 321), (0, 1), (0, (i : Int)), (0, ((j + 1 : Nat) : Int))] [] z_LL M P := fun q => ih2 1 (by
          rw [z_b_t]
          refine ⟨all.1, fun b h => ?_⟩
          by_cases e : b = j
          · rw [e]; exact q
          · exact all.2 b (by omega))
        have nx0 : z_blk n (z_cpr M) (z_wnt M) W i j → wp xs (d + 2) mX10_isCalm 14 [(2, 321), (0, 0), (0, (i : Int)), (0, ((j + 1 : Nat) : Int))] [] z_LL M P := fun q => ih2 0 (by
          rw [z_b_f]
          exact fun w => w.2 j (by omega) q)
        rw [bk] at nx1 nx0
        clear bk all ih ih2 hx hA hB
        have no : ∀ p : Prop, (¬ (z_cpr M i j ∧ A < M 340 (6 * (i : Int) + j) ∧ B < M 340 (6 * (j : Int) + i)) → p) → (¬ (A < M 340 (6 * (i : Int) + j) ∧ B < M 340 (6 * (j : Int) + i))) → p := fun p h1 h2 => h1 (fun w => h2 w.2)
        have yes : ∀ p : Prop, ((z_cpr M i j ∧ A < M 340 (6 * (i : Int) + j) ∧ B < M 340 (6 * (j : Int) + i)) → p) → (z_cm M i j ∧ 0 ≤ M 340 (6 * (i : Int) + j) ∧ 0 ≤ M 340 (6 * (j : Int) + i)) → (A < M 340 (6 * (i : Int) + j) ∧ B < M 340 (6 * (j : Int) + i)) → p := fun p h1 h2 h3 => h1 ⟨cp.mpr h2, h3⟩
        apply g
        case l1 => exact fun c => by omega
        case l2 => exact fun _ c => absurd c hx0
        case l3 => exact fun _ _ c => nx1 (fun w => c (cp.mp w.1))
        case l4 =>
          intro _ _ _ c
          rw [if_neg (by omega), c] at hsi
          exact no _ nx1 (by omega)
        case l5 =>
          intro _ _ _ _ c c2
          rw [if_neg (by omega)] at hsi
          exact no _ nx1 (by omega)
        case l6 =>
          intro _ _ c0 _ c c2 c3 c4
          rw [if_neg (by omega)] at hsi hsj
          exact yes _ nx0 c0 (by omega)
        case l7 =>
          intro _ _ c0 _ c c2 c3 c4
          rw [if_neg (by omega)] at hsi hsj
          exact no _ nx1 (by omega)
        case l8 =>
          intro _ _ c0 _ c c2 c3 c4
          rw [if_neg (by omega)] at hsi
          rw [if_pos (by omega)] at hsj
          exact yes _ nx0 c0 (by omega)
        case l9 =>
          intro _ _ c0 _ c c2 c3 c4
          rw [if_neg (by omega)] at hsi
          rw [if_pos (by omega)] at hsj
          exact no _ nx1 (by omega)
        case l10 =>
          intro _ _ _ _ c c2
          rw [if_pos (by omega)] at hsi
          exact no _ nx1 (by omega)
        case l11 =>
          intro _ _ c0 _ c c2 c3 c4
          rw [if_pos (by omega)] at hsi
          rw [if_neg (by omega)] at hsj
          exact yes _ nx0 c0 (by omega)
        case l12 =>
          intro _ _ c0 _ c c2 c3 c4
          rw [if_pos (by omega)] at hsi
          rw [if_neg (by omega)] at hsj
          exact no _ nx1 (by omega)
        case l13 =>
          intro _ _ c0 _ c c2 c3 c4
          rw [if_pos (by omega)] at hsi hsj
          exact yes _ nx0 c0 (by omega)
        case l14 =>
          intro _ _ c0 _ c c2 c3 c4
          rw [if_pos (by omega)] at hsi hsj
          exact no _ nx1 (by omega)
        all_goals (clear nx1 nx0 no yes cp hsi hsj; intros; omega)
theorem s_X10_allHave {P : Option z_V → z_L → z_M → Prop} {n : Nat} {W : Int → Int} (hF : z_fix M) (hC : z_mc M) (hn : M 321 48 = (n : Int)) (hW : ∀ i : Int, 0 ≤ i → i < n → M 346 i = W i ∧ -1 ≤ W i ∧ W i < n) (k : P (some (0, z_smi (z_hsv (z_wnt M) W) n)) z_LL M) : wp xs (d + 1) mX10_allHave 0 [(2, 321), (3, 0), (3, 0)] [] z_LL M P := by
  have h6 := hC.2.2.1
  have hr : ∀ f : Int, 0 ≤ f → f < n → -1 ≤ z_hsv (z_wnt M) W f ∧ z_hsv (z_wnt M) W f ≤ 99 := fun f h1 h2 => by
    have := hW f h1 h2
    unfold z_hsv z_wnt
    split
    · omega
    · exact (hC.2.2.2.2.2.2 f h1 (by omega)).2.2.2.2 (W f) (by omega) (by omega)
  refine gX10_allHave_0 ?_
  refine z_loop (W := fun i => wp xs (d + 1) mX10_allHave 4 [(2, 321), (0, z_smi (z_hsv (z_wnt M) W) i), (0, (i : Int))] [] z_LL M P) n (fun i hi ih => ?_)
  have sb := z_smi_r (g := z_hsv (z_wnt M) W) i (fun j a b => hr j a (by omega))
  have g := gX10_allHave_4 (M := M) (xs := xs) (d := d) (P := P) (x1 := z_smi (z_hsv (z_wnt M) W) i) (x2 := (i : Int)) hF
  rw [hn, z_in1 (i := i) (by omega)] at g
  by_cases c : i < n
  · have wi := hW i (by omega) (by omega)
    have ri := hr i (by omega) (by omega)
    have hsi : z_hsv (z_wnt M) W i = if W i < 0 then 0 else M 340 (6 * (i : Int) + W i) := rfl
    have ih := ih c
    rw [z_smi] at ih
    rw [wi.1, z_wid (x := 6 * (i : Int)) (by omega), z_wid (x := 6 * (i : Int) + W i) (by omega)] at g
    refine g (fun q => by omega) (fun _ => by omega) (fun _ _ => by omega) (fun _ c2 => ?_) (fun _ c2 => ?_)
    · rw [if_neg (by omega)] at hsi
      rw [← hsi, z_wid (by omega)]
      exact ih
    · rw [if_pos (by omega)] at hsi
      rw [← hsi, z_wid (by omega)]
      exact ih
  · obtain rfl : i = n := by omega
    exact g (fun _ => k) (fun q => by omega) (fun q => by omega) (fun q => by omega) (fun q => by omega)
end
