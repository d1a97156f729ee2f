section
variable {xs : List Int} {d : Nat} {M : z_M}
theorem z_swm_b {w : Nat → Int} : ∀ l : List Nat, (∀ y, y ∈ l → 0 ≤ w y ∧ w y ≤ 9) → 0 ≤ z_swm w l ∧ z_swm w l ≤ 9 * l.length
  | [], _ => by simp [z_swm]
  | x :: l, h => by
    have ih := z_swm_b l (fun y hy => h y (List.mem_cons_of_mem _ hy))
    have := h x List.mem_cons_self
    rw [z_swm, List.length_cons]
    omega
theorem z_ct_b {s w : Nat → Int} : ∀ l : List Nat, l.length ≤ 6 → (∀ y, y ∈ l → (0 ≤ s y ∧ s y ≤ 9) ∧ 0 ≤ w y ∧ w y ≤ 9) → z_ct s w l ≤ 486 * l.length
  | [], _, _ => by simp [z_ct]
  | x :: l, hl, h => by
    rw [List.length_cons] at hl
    have ih := z_ct_b l (by omega) (fun y hy => h y (List.mem_cons_of_mem _ hy))
    have b := z_swm_b l (fun y hy => (h y (List.mem_cons_of_mem _ hy)).2)
    have := (h x List.mem_cons_self).1
    have m1 : s x * z_swm w l ≤ 9 * 54 := Int.mul_le_mul this.2 (by omega) b.1 (by omega)
    rw [z_ct, List.length_cons]
    omega
/-- only what lies has changed -/
theorem z_R_lie {M' : z_M} (hR : z_R M) (o : ∀ q, q ≠ 1 → q ≠ 302 → q ≠ 321 → q ≠ 347 → q ≠ 348 → M' q = M q) (o1 : ∀ j, j ≠ 13 → M' 1 j = M 1 j) (o321 : ∀ j, j ≠ 68 → M' 321 j = M 321 j) (l : z_Rl M') : z_R M' := by
  have c : z_cfe M M' := ⟨fun k hk => o321 k (by omega), o _ (by decide) (by decide) (by decide) (by decide) (by decide), o _ (by decide) (by decide) (by decide) (by decide) (by decide), o _ (by decide) (by decide) (by decide) (by decide) (by decide), o _ (by decide) (by decide) (by decide) (by decide) (by decide), o _ (by decide) (by decide) (by decide) (by decide) (by decide), o _ (by decide) (by decide) (by decide) (by decide) (by decide), o _ (by decide) (by decide) (by decide) (by decide) (by decide)⟩
  have F' : z_fix M' := z_fix_gen (z_R_F hR) (fun q j hq => by
    by_cases e : q = 1
    · rw [e] at hq ⊢
      exact o1 j (by unfold z_fin at hq; omega)
    · by_cases e2 : q = 321
      · rw [e2] at hq ⊢
        exact o321 j (by unfold z_fin at hq; omega)
      · rw [o q e (by unfold z_fin at hq; omega) e2 (by unfold z_fin at hq; omega) (by unfold z_fin at hq; omega)])
  have hk := z_hk_b (z_R_k hR)
  refine z_R_mk c hR F' (z_Rg_q (z_R_Rg hR) c ⟨o1 0 (by decide), o1 1 (by decide)⟩ (by rw [o 34 (by omega) (by omega) (by omega) (by omega) (by omega)]) (o321 49 (by omega)) (fun q a b => o q (by omega) (by omega) (by omega) (by omega) (by omega))) (z_Rn_q (z_R_Rn hR) c (o1 2 (by decide)) (o _ (by omega) (by omega) (by omega) (by omega) (by omega)) (fun q a b => o q (by omega) (by omega) (by omega) (by omega) (by omega))) (z_Rp_q (z_R_Rp hR) c F' (o1 2 (by decide)) (o _ (by omega) (by omega) (by omega) (by omega) (by omega)) (o _ (by omega) (by omega) (by omega) (by omega) (by omega)) ⟨o321 _ (by omega), o321 _ (by omega)⟩ (o _ (by omega) (by omega) (by omega) (by omega) (by omega)) (fun q h hh _ a b => by have := z_hk_b hh; exact o q (by omega) (by omega) (by omega) (by omega) (by omega))) (z_Rb_q (z_R_Rb hR) c (o1 12 (by decide)) (o _ (by omega) (by omega) (by omega) (by omega) (by omega)) (o _ (by omega) (by omega) (by omega) (by omega) (by omega)) (fun q a b => o q (by omega) (by omega) (by omega) (by omega) (by omega))) (z_Rs_q (z_R_Rs hR) c ⟨o321 _ (by omega), o321 _ (by omega)⟩ (fun q a => o q (by omega) (by omega) (by omega) (by omega) (by omega))) l (z_Rt_q (z_R_Rt hR) (by rw [o 30 (by omega) (by omega) (by omega) (by omega) (by omega)]) (by rw [o 33 (by omega) (by omega) (by omega) (by omega) (by omega)]; exact ⟨rfl, rfl⟩) ⟨o321 _ (by omega), o321 _ (by omega), o321 _ (by omega)⟩ (o _ (by omega) (by omega) (by omega) (by omega) (by omega)) (o _ (by omega) (by omega) (by omega) (by omega) (by omega)) (o _ (by omega) (by omega) (by omega) (by omega) (by omega))) (z_Rz_q (z_R_Z hR) (o _ (by omega) (by omega) (by omega) (by omega) (by omega)) (o _ (by omega) (by omega) (by omega) (by omega) (by omega)))
theorem c_wells (hR : z_R M) : z_two xs (d + 200) mX9_wells mX10_wells [(2, 1), (3, 0), (3, 0)] [(2, 321), (3, 0), (3, 0), (3, 0), (3, 0)] M := by
  have hn6 := (z_R_C hR).2.2.1
  obtain ⟨n, hn⟩ : ∃ n : Nat, M 321 48 = (n : Int) := ⟨(M 321 48).toNat, by omega⟩
  obtain ⟨s, hs⟩ : ∃ s : Nat → Int, ∀ f : Nat, s f = M 339 f := ⟨fun f => M 339 f, fun _ => rfl⟩
  obtain ⟨w, hw⟩ : ∃ w : Nat → Int, ∀ f : Nat, w f = if M 342 (12 + f) < 0 then M 339 f else 1 := ⟨fun f => if M 342 (12 + f) < 0 then M 339 f else 1, fun _ => rfl⟩
  obtain ⟨h, hh⟩ : ∃ h : Nat → Int, ∀ f : Nat, h f = if M 342 (12 + f) ≠ -1 then M 339 f else 1 := ⟨fun f => if M 342 (12 + f) ≠ -1 then M 339 f else 1, fun _ => rfl⟩
  have sz : ∀ f : Nat, f < n → 1 ≤ M 339 f ∧ M 339 f ≤ 9 := fun f hf => ((z_R_C hR).2.2.2.2.2.2 f (by omega) (by omega)).2.2.1
  have mt : ∀ f : Nat, f < n → -1 ≤ M 342 (12 + f) := fun f hf => ((z_R_S hR).1 f (by omega) (by omega)).2.2.1
  unfold z_two
  refine s_X9_wells (d := d + 198) (s := s) (w := w) (h := h) hR hn (fun f _ => hs f) (fun f hf => ?_) (fun f _ => hh f) (fun r M1 hr hp f1 o1 h13 hv => ⟨z_ct s w r, rfl, rfl, ?_⟩)
  · have := mt f hf
    rw [hw f]
    by_cases c : M 342 (12 + f) < 0
    · rw [if_pos c, if_neg (by omega)]
    · rw [if_neg c, if_pos (by omega)]
  have e321 : M1 321 = M 321 := f1 _ (by decide) (by decide)
  have e339 : M1 339 = M 339 := f1 _ (by decide) (by decide)
  have e342 : M1 342 = M 342 := f1 _ (by decide) (by decide)
  have F1 : z_fix M1 := z_fix_gen (z_R_F hR) (fun q j hq => by
    by_cases e : q = 1
    · rw [e] at hq ⊢
      exact o1 j (by unfold z_fin at hq; omega)
    · rw [f1 q e (by unfold z_fin at hq; omega)])
  have wb : ∀ y : Nat, y < n → 0 < w y ∧ w y ≤ 9 := fun y hy => by
    have := sz y hy
    rw [hw]
    split <;> omega
  have mem : ∀ y, y ∈ r → y < n := fun y hy => List.mem_range.mp (hr.mem_iff.mp hy)
  have hl : r.length = n := by rw [hr.length_eq, List.length_range]
  have cb := z_ct_b (s := s) (w := w) r (by omega) (fun y hy => by
    have a := wb y (mem y hy)
    have b := sz y (mem y hy)
    rw [hs y]
    omega)
  refine s_X10_wells (d := d + 197) (n := n) (s := s) (w := w) (h := h) (r := r) F1 (by rw [e321]; exact hn) (by omega) (fun f hf => ?_) (fun f hf => ?_) (fun y hy => ⟨?_, (wb y hy).1⟩) hr hp (by omega) (fun M2 f2 hv2 => ⟨rfl, rfl, ?_⟩)
  · rw [e339]
    have := sz f hf
    have := hs f
    omega
  · rw [e339, e342]
    exact hw f
  · have := mt y hy
    rw [hs, hh, hw]
    by_cases c : M 342 (12 + y) < 0
    · rw [if_pos c, if_neg (by omega), Int.one_mul]
    · rw [if_neg c, if_pos (by omega), Int.mul_one]
  · have g321 : M2 321 = M 321 := by rw [f2 321 (by decide) (by decide), e321]
    refine z_R_lie hR (fun q a b c d e => by rw [z_upn c, f2 q d e, f1 q a b]) (fun j hj => by rw [z_upn (by decide), f2 1 (by decide) (by decide), o1 j hj]) (fun j hj => by rw [z_upi hj rfl, g321]) ?_
    have l1 : z_up M2 321 68 (M2 321 48) 1 13 = (n : Int) := by rw [z_upn (by decide), f2 1 (by decide) (by decide)]; exact h13
    have l2 : z_up M2 321 68 (M2 321 48) 321 68 = (n : Int) := by rw [z_ups, g321]; exact hn
    refine ⟨by rw [l1, l2], by omega, by omega, fun i a b => ?_⟩
    rw [l2] at b
    obtain ⟨k, rfl⟩ : ∃ k : Nat, i = k := ⟨i.toNat, by omega⟩
    rw [z_upn (by decide), z_upn (by decide), f2 302 (by decide) (by decide), hv k (by omega), hv2 k (by omega)]
end
