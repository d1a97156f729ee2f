section
variable {xs : List Int} {d : Nat} {M : z_M}
/-- what is noted: how many, the most, the first, the dearest, what each reaches -/
def z_nts (n : Nat) (M : z_M) (t : Int × Int × (Int → Int) × (Int → Int) × (Int → Int)) : Prop := M 289 4 = t.1 ∧ M 289 5 = t.2.1 ∧ ∀ i : Int, 0 ≤ i → i < n → M 291 i = t.2.2.1 i ∧ M 292 i = t.2.2.2.1 i ∧ M 293 i = t.2.2.2.2 i
noncomputable def z_nt1 (n : Nat) (w : Int → Int → Int) (t : Int × Int × (Int → Int) × (Int → Int) × (Int → Int)) (W : Int → Int) : Int × Int × (Int → Int) × (Int → Int) × (Int → Int) :=
  (t.1 + 1, max t.2.1 (z_smi (z_hsv w W) n), if t.1 = 0 then W else t.2.2.1, if t.2.1 < z_smi (z_hsv w W) n then W else t.2.2.2.1, fun f => max (t.2.2.2.2 f) (z_hsv w W f))
/-- only what is noted has changed -/
def z_pfm (M M' : z_M) : Prop := (∀ q, ¬ (289 ≤ q ∧ q ≤ 293) → M' q = M q) ∧ ∀ j, j ≠ 4 → j ≠ 5 → M' 289 j = M 289 j
theorem z_pfm_r : z_pfm M M := ⟨fun _ _ => rfl, fun _ _ _ => rfl⟩
theorem z_pfm_t {M1 M2 : z_M} (a : z_pfm M M1) (b : z_pfm M1 M2) : z_pfm M M2 := ⟨fun q h => by rw [b.1 q h, a.1 q h], fun j h1 h2 => by rw [b.2 j h1 h2, a.2 j h1 h2]⟩
theorem z_pfm_F {M' : z_M} (f : z_pfm M M') (hF : z_fix M) : z_fix M' := z_fix_gen hF (fun q j hq => by
  by_cases e : q = 289
  · rw [e] at hq ⊢
    exact f.2 j (by unfold z_fin at hq; omega) (by unfold z_fin at hq; omega)
  · rw [f.1 q (by unfold z_fin at hq; omega)])
theorem z_pfm_c {M' : z_M} (f : z_pfm M M') : ∀ q, z_conf q → M' q = M q := fun q hq => f.1 q (by unfold z_conf at hq; omega)
theorem z_pfm_G {M' : z_M} (f : z_pfm M M') (hG : z_gg M (M 289 6)) : z_gg M' (M' 289 6) := by
  have := z_gsep hG.1
  rw [f.2 6 (by decide) (by decide)]
  exact z_gg_x (z_cfe_c (z_pfm_c f)) (fun q a b => f.1 q (by omega)) hG
theorem z_smi_r {g : Int → Int} : ∀ k : Nat, (∀ i : Int, 0 ≤ i → i < k → -1 ≤ g i ∧ g i ≤ 99) → -(k : Int) ≤ z_smi g k ∧ z_smi g k ≤ 99 * k
  | 0, _ => by simp [z_smi]
  | k + 1, h => by
    have := z_smi_r k (fun i a b => h i a (by omega))
    have := h k (by omega) (by omega)
    rw [z_smi]
    omega
theorem s_X3_note {P : Option z_V → z_L → z_M → Prop} {n : Nat} {W : Int → Int} {t : Int × Int × (Int → Int) × (Int → Int) × (Int → Int)} (hF : z_fix M) (hC : z_mc M) (hn : M 321 48 = (n : Int)) (hG : z_gg M (M 289 6)) (hW : z_rwp n (M 290) W) (hT : z_nts n M t) (ht : 0 ≤ t.1 ∧ t.1 ≤ 1000000) (kk : ∀ M' : z_M, z_pfm M M' → M' 290 = M 290 → z_nts n M' (z_nt1 n (z_wnt M) t W) → P none z_LL M') : wp xs (d + 2) mX3_note 0 [(2, 289), (3, 0), (3, 0), (3, 0)] [] z_LL M P := by
  have h6 := hC.2.2.1
  obtain ⟨t1, t2, t3⟩ := hT
  have hr : ∀ f : Int, 0 ≤ f → f < n → -1 ≤ z_hsv (z_wnt M) W f ∧ z_hsv (z_wnt M) W f ≤ 99 := fun f h1 h2 => by
    have := hW f h1 h2
    unfold z_hsv z_wnt
    split
    · omega
    · exact (hC.2.2.2.2.2.2 f h1 (by omega)).2.2.2.2 (W f) (by omega) (by omega)
  refine gX3_note_0 ?_
  refine z_loop (W := fun i => ∀ (M' : z_M) (w3 : z_V), z_pfm M M' → (M' 289 = M 289 ∧ M' 290 = M 290 ∧ M' 291 = M 291 ∧ M' 292 = M 292) → (∀ j : Int, 0 ≤ j → j < n → M' 293 j = if j < i then max (t.2.2.2.2 j) (z_hsv (z_wnt M) W j) else t.2.2.2.2 j) → wp xs (d + 2) mX3_note 4 [(2, 289), (0, z_smi (z_hsv (z_wnt M) W) i), (0, (i : Int)), w3] [] z_LL M' P) n (fun i hi ih M' w3 f e hv => ?_) M _ z_pfm_r ⟨rfl, rfl, rfl, rfl⟩ (fun j a b => by rw [if_neg (by omega)]; exact (t3 j a b).2.2)
  have hG' := z_pfm_G f hG
  have e12 := hG'.2.1.2.2.1
  rw [z_pfm_c f 321 (by unfold z_conf; omega), hn] at e12
  have sb := z_smi_r (g := z_hsv (z_wnt M) W) i (fun j a b => hr j a (by omega))
  have g := gX3_note_4 (M := M') (xs := xs) (d := d) (P := P) (x1 := z_smi (z_hsv (z_wnt M) W) i) (x2 := (i : Int)) (w3 := w3) (z_pfm_F f hF) hG'.1
  rw [e12, z_in1 (by omega), e.1, t1, t2, e.2.1, z_wid (x := t.1 + 1) (by omega)] at g
  by_cases c : i < n
  · have hWi := hW i (by omega) (by omega)
    have hri := hr i (by omega) (by omega)
    rw [hWi.1, show (i : Int) * 6 = 6 * i by omega, z_wid (x := 6 * (i : Int)) (by omega), z_wid (x := 6 * (i : Int) + W i) (by omega), hv i (by omega) (by omega), if_neg (by omega)] at g
    have nx : ∀ y w3, y = z_hsv (z_wnt M) W i → wp xs (d + 2) mX3_note 4 [(2, 289), (0, z_w (z_smi (z_hsv (z_wnt M) W) i + y)), (0, ((i + 1 : Nat) : Int)), w3] [] z_LL (z_up M' 293 i (z_max (t.2.2.2.2 i) y)) P := fun y w3 hy => by
      rw [hy, z_wid (by omega)]
      refine ih c _ w3 (z_pfm_t f ⟨fun q hq => z_upn (by omega), fun j _ _ => by rw [z_upn (by decide)]⟩) ⟨by rw [z_upn (by decide)]; exact e.1, by rw [z_upn (by decide)]; exact e.2.1, by rw [z_upn (by decide)]; exact e.2.2.1, by rw [z_upn (by decide)]; exact e.2.2.2⟩ (fun j a b => ?_)
      by_cases ej : j = i
      · rw [ej, z_ups, if_pos (by omega), z_max_eq]
      · rw [z_upi ej rfl, hv j a b]
        by_cases c2 : j < i
        · rw [if_pos c2, if_pos (by omega)]
        · rw [if_neg c2, if_neg (by omega)]
    have hse : z_hsv (z_wnt M) W i = if W i ≠ -1 then M' (M 289 6 + 6) (6 * i + W i) else 0 := by
      unfold z_hsv
      by_cases c2 : W i < 0
      · rw [if_pos c2, if_neg (by omega)]
      · rw [if_neg c2, if_pos (by omega), ← e.1, (hG'.2.2.1 i (by omega) (by rw [z_pfm_c f 321 (by unfold z_conf; omega)]; omega)).2.2.2.2.1 (W i) (by omega) (by rw [z_pfm_c f 321 (by unfold z_conf; omega)]; omega), z_pfm_c f 340 (by unfold z_conf; omega)]
        rfl
    refine g (fun _ _ _ => by omega) (fun _ _ _ => by omega) (fun _ _ _ => by omega) (fun _ _ _ => by omega) (fun _ => by omega) (fun _ _ => by omega) (fun _ c2 => ?_) (fun _ c2 => ?_)
    · rw [if_pos c2] at hse
      exact nx _ _ hse.symm
    · rw [if_neg c2] at hse
      exact nx _ _ hse.symm
  · obtain rfl : i = n := by omega
    have r293 : ∀ j : Int, 0 ≤ j → j < i → M' 293 j = max (t.2.2.2.2 j) (z_hsv (z_wnt M) W j) := fun j a b => by
      rw [hv j a b, if_pos b]
    have cp : ∀ (N : z_M) (q : Int), N 290 = M 290 → ∀ j : Int, 0 ≤ j → j < i → z_cpy N 290 0 q 0 6 q j = W j := fun N q hN j a b => by
      rw [z_cpi (by omega), hN, show (0 : Int) + (j - 0) = j by omega]
      exact (hW j a b).1
    have o : ∀ N : z_M, z_pfm M N → z_pfm M (z_up N 289 4 (t.1 + 1)) := fun N h => z_pfm_t h ⟨fun q hq => z_upn (by omega), fun j a _ => z_upi a rfl⟩
    have oc : ∀ (N : z_M) (q : Int), 291 ≤ q → q ≤ 292 → z_pfm M N → z_pfm M (z_cpy N 290 0 q 0 6) := fun N q h1 h2 h => z_pfm_t h ⟨fun p hp => z_cpn (by omega), fun j _ _ => by rw [z_cpn (by omega)]⟩
    have o5 : ∀ (N : z_M) (v : Int), z_pfm M N → z_pfm M (z_up N 289 5 v) := fun N v h => z_pfm_t h ⟨fun q hq => z_upn (by omega), fun j _ b => z_upi b rfl⟩
    refine g (fun _ c1 c2 => ?_) (fun _ c1 c2 => ?_) (fun _ c1 c2 => ?_) (fun _ c1 c2 => ?_) (fun q => by omega) (fun q => by omega) (fun q => by omega) (fun q => by omega)
    · refine kk _ (o _ f) (by rw [z_upn (by decide)]; exact e.2.1) ⟨z_ups, ?_, fun j a b => ?_⟩
      · rw [z_upi (by decide) rfl, e.1, t2]
        show t.2.1 = max t.2.1 _
        omega
      · show _ = (if t.1 = 0 then W else t.2.2.1) j ∧ _ = (if t.2.1 < _ then W else t.2.2.2.1) j ∧ _
        rw [if_neg c1, if_neg (by omega), z_upn (by decide), z_upn (by decide), z_upn (by decide), e.2.2.1, e.2.2.2, r293 j a b]
        exact ⟨(t3 j a b).1, (t3 j a b).2.1, rfl⟩
    · refine kk _ (o _ (oc _ _ (by decide) (by decide) (o5 _ _ f))) (by rw [z_upn (by decide), z_cpn (by decide), z_upn (by decide)]; exact e.2.1) ⟨z_ups, ?_, fun j a b => ?_⟩
      · rw [z_upi (by decide) rfl, z_cpn (by decide), z_ups]
        show _ = max t.2.1 _
        omega
      · show _ = (if t.1 = 0 then W else t.2.2.1) j ∧ _ = (if t.2.1 < _ then W else t.2.2.2.1) j ∧ _
        rw [if_neg c1, if_pos (by omega), z_upn (by decide), z_upn (by decide), z_upn (by decide), cp _ _ (by rw [z_upn (by decide)]; exact e.2.1) j a b, z_cpn (by decide), z_cpn (by decide), z_upn (by decide), z_upn (by decide), e.2.2.1, r293 j a b]
        exact ⟨(t3 j a b).1, rfl, rfl⟩
    · refine kk _ (o _ (oc _ _ (by decide) (by decide) f)) (by rw [z_upn (by decide), z_cpn (by decide)]; exact e.2.1) ⟨z_ups, ?_, fun j a b => ?_⟩
      · rw [z_upi (by decide) rfl, z_cpn (by decide), e.1, t2]
        show t.2.1 = max t.2.1 _
        omega
      · show _ = (if t.1 = 0 then W else t.2.2.1) j ∧ _ = (if t.2.1 < _ then W else t.2.2.2.1) j ∧ _
        rw [if_pos (by omega), if_neg (by omega), z_upn (by decide), z_upn (by decide), z_upn (by decide), cp _ _ e.2.1 j a b, z_cpn (by decide), z_cpn (by decide), e.2.2.2, r293 j a b]
        exact ⟨rfl, (t3 j a b).2.1, rfl⟩
    · refine kk _ (o _ (oc _ _ (by decide) (by decide) (o5 _ _ (oc _ _ (by decide) (by decide) f)))) (by rw [z_upn (by decide), z_cpn (by decide), z_upn (by decide), z_cpn (by decide)]; exact e.2.1) ⟨z_ups, ?_, fun j a b => ?_⟩
      · rw [z_upi (by decide) rfl, z_cpn (by decide), z_ups]
        show _ = max t.2.1 _
        omega
      · show _ = (if t.1 = 0 then W else t.2.2.1) j ∧ _ = (if t.2.1 < _ then W else t.2.2.2.1) j ∧ _
        rw [if_pos (by omega), if_pos (by omega), z_upn (by decide), z_upn (by decide), z_upn (by decide), cp _ _ (by rw [z_upn (by decide), z_cpn (by decide)]; exact e.2.1) j a b, z_cpn (by decide), z_cpn (by decide), z_upn (by decide), z_upn (by decide), cp _ _ e.2.1 j a b, z_cpn (by decide), r293 j a b]
        exact ⟨rfl, rfl, rfl⟩
end
